/-! learnings: what the law's calls answer and leave -/
section OB2
variable {τ τ' : kzM} {pd n f x : Int} {B : Int → Int} {m : Int} {fh fw fd : Int → Int}
set_option maxRecDepth 100000 in
theorem c_learn_ok (q : Ob τ pd n f x B m fh fw fd) {h w d : Int} (c1 : 0 ≤ h ∧ h ≤ 3) (c2 : 0 ≤ w ∧ w < n) (c3 : 0 ≤ d ∧ d ≤ 3000) (c4 : m < 60) (c5 : ∀ k, 0 ≤ k → k < m → fh k = h → fd k ≤ d) {Q : Int → kzM → Prop} (hQ : ∀ τ', Ob τ' pd n f x B (m + 1) (fun k => if k = m then h else fh k) (fun k => if k = m then w else fw k) (fun k => if k = m then d else fd k) → Q (m + 1) τ') : Wz (Z11_learn kdG0 0 h w d) τ Q := by
  have i5 := q.1.2.2.2.2.1
  have i8 := q.1.2.2.2.2.2.2.2.1.1
  have e5 := q.2.2.1
  have e8 := q.2.2.2.2.2.2.1
  have l8 := q.2.2.2.2.2.2.2
  unfold I5 at i5
  unfold I8l at i8
  obtain ⟨a1, a2, a3, -, a5⟩ := i8
  have b1 := i5.1
  clear i5
  have hd : ∀ k, 0 ≤ k → k < τ.1 581 1 → 0 ≤ τ.1 586 k ∧ τ.1 586 k ≤ 3000 := fun k k0 k1 => (a5 k k0 k1).2.2.1
  have c2' : 0 ≤ w ∧ w < τ.1 337 1 := by omega
  simp only [Z11_learn_18, Z11_learn_70, Z11_learn, W10_has, Z2_isFull, Z2_addLearning, Z2_learnings, Z11_isKey, Z11_isTongue, Z11_isHand, Z11_isDay, W_within, zp_0, zB_zp, W_size r_1, W_isEmpty r_1, W_isFull r_1, W_has r_1, W_clear r_1, W_size r_337, W_isEmpty r_337, W_isFull r_337, W_has r_337, W_clear r_337, W_size r_339, W_isEmpty r_339, W_isFull r_339, W_has r_339, W_clear r_339, W_size r_341, W_isEmpty r_341, W_isFull r_341, W_has r_341, W_clear r_341, W_size r_485, W_isEmpty r_485, W_isFull r_485, W_has r_485, W_clear r_485, W_size r_487, W_isEmpty r_487, W_isFull r_487, W_has r_487, W_clear r_487, W_size r_489, W_isEmpty r_489, W_isFull r_489, W_has r_489, W_clear r_489, W_size r_581, W_isEmpty r_581, W_isFull r_581, W_has r_581, W_clear r_581, W_size r_583, W_isEmpty r_583, W_isFull r_583, W_has r_583, W_clear r_583, W_size r_585, W_isEmpty r_585, W_isFull r_585, W_has r_585, W_clear r_585, Wz_rt, Wz_cnd, Wz_lI, Wz_lW, Wz_lL, Wz_cl, Wz_cv, Wz_nz, Wz_gI, Wz_gR, Wz_sI, Wz_aI, Wz_aZ, Wz_aL, Wz_aN, Wz_aR, Wz_tI, Wz_tZ, Wz_tL, Option.some.injEq, exists_eq_left', zB_0, zB_1, true_and, and_true, true_implies, not_true_eq_false, false_implies, not_false_eq_true, Classical.not_not, g_0, g_1, g_2, g_336, g_337, g_338, g_339, g_340, g_341, g_342, g_343, g_464, g_465, g_466, g_484, g_485, g_486, g_487, g_488, g_489, g_490, g_580, g_581, g_582, g_583, g_584, g_585, g_586, g_587, g_0_0, g_0_1, g_0_2, g_0_3, g_0_4, g_0_5, g_0_6, g_0_7, g_0_8, g_0_9, g_0_10, g_0_11, g_1_0, g_336_0, g_336_1, g_336_2, g_336_3, g_337_0, g_339_0, g_341_0, g_464_0, g_464_1, g_484_0, g_484_1, g_484_2, g_485_0, g_487_0, g_489_0, g_580_0, g_580_1, g_580_2, g_580_3, g_581_0, g_583_0, g_585_0, addF, v2, rw1, Nat.reduceEqDiff, Nat.reduceAdd, Int.reduceEq, Int.reduceNeg, reduceIte, false_and, and_false, true_and, and_true, and_self, c1, c2', c3]
  refine ⟨fun _ => ?_, fun z => by omega⟩
  unfold Z2_latestDay Z2_latestDay_4
  refine W2_latest τ _ a1.1 a1.2 a3 hd NN 0 0 (by omega) a1.1 (by omega) (by omega) (by unfold NN; omega) ?_
  intro r hr
  have hrd := hr d
  have hall : r ≤ d := hrd.mpr ⟨c3.1, fun k k0 k1 k2 => by
    have l := l8 k k0 (by omega)
    rw [l.2.2]; exact c5 k k0 (by omega) (by rw [← l.1]; exact k2)⟩
  refine ⟨fun z => ?_, fun z => by omega⟩
  refine W_add r_581 (by omega) (by omega) (by omega) ?_
  refine W_add r_583 (by simp only [addF, v2, rw1, Nat.reduceEqDiff, Nat.reduceAdd, Int.reduceEq, Int.reduceNeg, reduceIte, false_and, and_false, true_and, and_true, and_self]; omega) (by simp only [addF, v2, rw1, Nat.reduceEqDiff, Nat.reduceAdd, Int.reduceEq, Int.reduceNeg, reduceIte, false_and, and_false, true_and, and_true, and_self]; omega) (by omega) ?_
  refine W_add r_585 (by simp only [addF, v2, rw1, Nat.reduceEqDiff, Nat.reduceAdd, Int.reduceEq, Int.reduceNeg, reduceIte, false_and, and_false, true_and, and_true, and_self]; omega) (by simp only [addF, v2, rw1, Nat.reduceEqDiff, Nat.reduceAdd, Int.reduceEq, Int.reduceNeg, reduceIte, false_and, and_false, true_and, and_true, and_self]; omega) (by omega) ?_
  have s1 : addF (addF (addF τ.1 581 h) 583 w) 585 d 581 1 = m + 1 := by
    rw [addF_ne _ _ _ (by decide) (by decide), addF_ne _ _ _ (by decide) (by decide), addF_sz, e8]
  have s2 : addF (addF (addF τ.1 581 h) 583 w) 585 d 583 1 = m + 1 := by
    rw [addF_ne _ _ _ (by decide) (by decide), addF_sz, addF_ne _ _ _ (by decide) (by decide), a2, e8]
  have s3 : addF (addF (addF τ.1 581 h) 583 w) 585 d 585 1 = m + 1 := by
    rw [addF_sz, addF_ne _ _ _ (by decide) (by decide), addF_ne _ _ _ (by decide) (by decide), a3, e8]
  have t1 : ∀ k, addF (addF (addF τ.1 581 h) 583 w) 585 d 582 k = if k = m then h else τ.1 582 k := fun k => by
    rw [addF_ne _ _ _ (by decide) (by decide), addF_ne _ _ _ (by decide) (by decide), addF_it, e8]
  have t2 : ∀ k, addF (addF (addF τ.1 581 h) 583 w) 585 d 584 k = if k = m then w else τ.1 584 k := fun k => by
    rw [addF_ne _ _ _ (by decide) (by decide), addF_it, addF_ne _ _ _ (by decide) (by decide), addF_ne _ _ _ (by decide) (by decide), a2, e8]
  have t3 : ∀ k, addF (addF (addF τ.1 581 h) 583 w) 585 d 586 k = if k = m then d else τ.1 586 k := fun k => by
    rw [addF_it, addF_ne _ _ _ (by decide) (by decide), addF_ne _ _ _ (by decide) (by decide), addF_ne _ _ _ (by decide) (by decide), addF_ne _ _ _ (by decide) (by decide), a3, e8]
  have u : ∀ a j, ¬(581 ≤ a ∧ a ≤ 586) → addF (addF (addF τ.1 581 h) 583 w) 585 d a j = τ.1 a j := fun a j z => by
    rw [addF_ne _ _ _ (by omega) (by omega), addF_ne _ _ _ (by omega) (by omega), addF_ne _ _ _ (by omega) (by omega)]
  dsimp only
  rw [s1]
  refine hQ _ (q.of8 u ?_ s1 fun k k0 k1 => ?_)
  · unfold I8l
    dsimp only
    rw [s1, s2, s3]
    refine ⟨by omega, rfl, rfl, trivial, fun k k0 k1 => ?_⟩
    rw [t1, t2, t3]
    by_cases y : k = m
    · simp only [y, if_true]
      exact ⟨⟨c1, trivial⟩, ⟨by omega, trivial⟩, ⟨c3, trivial⟩⟩
    · simp only [y, if_false]
      exact a5 k k0 (by omega)
  · dsimp only
    rw [t1, t2, t3]
    by_cases y : k = m
    · simp only [y, if_true]; exact ⟨trivial, trivial, trivial⟩
    · simp only [y, if_false]; exact l8 k k0 (by omega)
set_option maxRecDepth 100000 in
theorem c_learn_no (q : Ob τ pd n f x B m fh fw fd) {h w d : Int} (c1 : 0 ≤ h ∧ h ≤ 3) (c2 : 0 ≤ w ∧ w < n) (c3 : 0 ≤ d ∧ d ≤ 3000) (c4 : m < 60) {k : Int} (k0 : 0 ≤ k) (k1 : k < m) (k2 : fh k = h) (k3 : d < fd k) {Q : Int → kzM → Prop} (hQ : Q (-5) τ) : Wz (Z11_learn kdG0 0 h w d) τ Q := by
  have i5 := q.1.2.2.2.2.1
  have i8 := q.1.2.2.2.2.2.2.2.1.1
  have e5 := q.2.2.1
  have e8 := q.2.2.2.2.2.2.1
  have l8 := q.2.2.2.2.2.2.2
  unfold I5 at i5
  unfold I8l at i8
  obtain ⟨a1, a2, a3, -, a5⟩ := i8
  have b1 := i5.1
  clear i5
  have hd : ∀ k, 0 ≤ k → k < τ.1 581 1 → 0 ≤ τ.1 586 k ∧ τ.1 586 k ≤ 3000 := fun k k0 k1 => (a5 k k0 k1).2.2.1
  have c2' : 0 ≤ w ∧ w < τ.1 337 1 := by omega
  simp only [Z11_learn_18, Z11_learn_70, Z11_learn, W10_has, Z2_isFull, Z2_addLearning, Z2_learnings, Z11_isKey, Z11_isTongue, Z11_isHand, Z11_isDay, W_within, zp_0, zB_zp, W_size r_1, W_isEmpty r_1, W_isFull r_1, W_has r_1, W_clear r_1, W_size r_337, W_isEmpty r_337, W_isFull r_337, W_has r_337, W_clear r_337, W_size r_339, W_isEmpty r_339, W_isFull r_339, W_has r_339, W_clear r_339, W_size r_341, W_isEmpty r_341, W_isFull r_341, W_has r_341, W_clear r_341, W_size r_485, W_isEmpty r_485, W_isFull r_485, W_has r_485, W_clear r_485, W_size r_487, W_isEmpty r_487, W_isFull r_487, W_has r_487, W_clear r_487, W_size r_489, W_isEmpty r_489, W_isFull r_489, W_has r_489, W_clear r_489, W_size r_581, W_isEmpty r_581, W_isFull r_581, W_has r_581, W_clear r_581, W_size r_583, W_isEmpty r_583, W_isFull r_583, W_has r_583, W_clear r_583, W_size r_585, W_isEmpty r_585, W_isFull r_585, W_has r_585, W_clear r_585, Wz_rt, Wz_cnd, Wz_lI, Wz_lW, Wz_lL, Wz_cl, Wz_cv, Wz_nz, Wz_gI, Wz_gR, Wz_sI, Wz_aI, Wz_aZ, Wz_aL, Wz_aN, Wz_aR, Wz_tI, Wz_tZ, Wz_tL, Option.some.injEq, exists_eq_left', zB_0, zB_1, true_and, and_true, true_implies, not_true_eq_false, false_implies, not_false_eq_true, Classical.not_not, g_0, g_1, g_2, g_336, g_337, g_338, g_339, g_340, g_341, g_342, g_343, g_464, g_465, g_466, g_484, g_485, g_486, g_487, g_488, g_489, g_490, g_580, g_581, g_582, g_583, g_584, g_585, g_586, g_587, g_0_0, g_0_1, g_0_2, g_0_3, g_0_4, g_0_5, g_0_6, g_0_7, g_0_8, g_0_9, g_0_10, g_0_11, g_1_0, g_336_0, g_336_1, g_336_2, g_336_3, g_337_0, g_339_0, g_341_0, g_464_0, g_464_1, g_484_0, g_484_1, g_484_2, g_485_0, g_487_0, g_489_0, g_580_0, g_580_1, g_580_2, g_580_3, g_581_0, g_583_0, g_585_0, addF, v2, rw1, Nat.reduceEqDiff, Nat.reduceAdd, Int.reduceEq, Int.reduceNeg, reduceIte, false_and, and_false, true_and, and_true, and_self, c1, c2', c3]
  refine ⟨fun _ => ?_, fun z => by omega⟩
  unfold Z2_latestDay Z2_latestDay_4
  refine W2_latest τ _ a1.1 a1.2 a3 hd NN 0 0 (by omega) a1.1 (by omega) (by omega) (by unfold NN; omega) ?_
  intro r hr
  have hrd := hr d
  refine ⟨fun z => ?_, fun z => hQ⟩
  have l := l8 k k0 k1
  have := (hrd.mp z).2 k k0 (by omega) (by rw [l.1]; exact k2)
  rw [l.2.2] at this
  omega
/-- the worth out of the learnings -/
def wrt (f : Int) (m : Int) (fh fw fd : Int → Int) (h w d : Int) : Int := wS (pW fh fw fd f h w d) m.toNat
theorem Ob.wr (q : Ob τ pd n f x B m fh fw fd) (h w d : Int) : worthS τ h w d = wrt f m fh fw fd h w d := by
  obtain ⟨-, -, -, q4, -, -, q7, q8⟩ := q
  unfold worthS wrt
  rw [q4, q7]
  refine wS_congr _ fun k k0 k1 => ?_
  obtain ⟨e1, e2, e3⟩ := q8 k k0 (by omega)
  unfold pW
  rw [e1, e2, e3]
set_option maxRecDepth 100000 in
theorem c_worth (q : Ob τ pd n f x B m fh fw fd) {h w d : Int} (c1 : 0 ≤ h ∧ h ≤ 3) (c2 : 0 ≤ w ∧ w < n) (c3 : 0 ≤ d ∧ d ≤ 3000) {Q : Int → kzM → Prop} (hQ : Q (wrt f m fh fw fd h w d) τ) : Wz (Z11_worth kdG0 0 h w d) τ Q := by
  have i8 := q.1.2.2.2.2.2.2.2.1.1
  have i11 := q.1.2.2.2.2.2.2.2.1.2
  have e5 := q.2.2.1
  have c2' : 0 ≤ w ∧ w < τ.1 337 1 := by omega
  simp only [Z11_worth_18, Z11_worth_42, Z11_worth, W10_has, Z11_isKey, Z11_isTongue, Z11_isHand, Z11_isDay, W_within, zp_0, zB_zp, W_size r_1, W_isEmpty r_1, W_isFull r_1, W_has r_1, W_clear r_1, W_size r_337, W_isEmpty r_337, W_isFull r_337, W_has r_337, W_clear r_337, W_size r_339, W_isEmpty r_339, W_isFull r_339, W_has r_339, W_clear r_339, W_size r_341, W_isEmpty r_341, W_isFull r_341, W_has r_341, W_clear r_341, W_size r_485, W_isEmpty r_485, W_isFull r_485, W_has r_485, W_clear r_485, W_size r_487, W_isEmpty r_487, W_isFull r_487, W_has r_487, W_clear r_487, W_size r_489, W_isEmpty r_489, W_isFull r_489, W_has r_489, W_clear r_489, W_size r_581, W_isEmpty r_581, W_isFull r_581, W_has r_581, W_clear r_581, W_size r_583, W_isEmpty r_583, W_isFull r_583, W_has r_583, W_clear r_583, W_size r_585, W_isEmpty r_585, W_isFull r_585, W_has r_585, W_clear r_585, Wz_rt, Wz_cnd, Wz_lI, Wz_lW, Wz_lL, Wz_cl, Wz_cv, Wz_nz, Wz_gI, Wz_gR, Wz_sI, Wz_aI, Wz_aZ, Wz_aL, Wz_aN, Wz_aR, Wz_tI, Wz_tZ, Wz_tL, Option.some.injEq, exists_eq_left', zB_0, zB_1, true_and, and_true, true_implies, not_true_eq_false, false_implies, not_false_eq_true, Classical.not_not, g_0, g_1, g_2, g_336, g_337, g_338, g_339, g_340, g_341, g_342, g_343, g_464, g_465, g_466, g_484, g_485, g_486, g_487, g_488, g_489, g_490, g_580, g_581, g_582, g_583, g_584, g_585, g_586, g_587, g_0_0, g_0_1, g_0_2, g_0_3, g_0_4, g_0_5, g_0_6, g_0_7, g_0_8, g_0_9, g_0_10, g_0_11, g_1_0, g_336_0, g_336_1, g_336_2, g_336_3, g_337_0, g_339_0, g_341_0, g_464_0, g_464_1, g_484_0, g_484_1, g_484_2, g_485_0, g_487_0, g_489_0, g_580_0, g_580_1, g_580_2, g_580_3, g_581_0, g_583_0, g_585_0, addF, v2, rw1, Nat.reduceEqDiff, Nat.reduceAdd, Int.reduceEq, Int.reduceNeg, reduceIte, false_and, and_false, true_and, and_true, and_self, c1, c2', c3]
  refine W2_worth i8 i11.1.1 c3.1 c3.2 ?_
  rw [q.wr]; exact hQ
set_option maxRecDepth 100000 in
theorem c_share_no (q : Ob τ pd n f x B m fh fw fd) {w e d : Int} (c1 : 0 ≤ w ∧ w < n) (c2 : 1 ≤ e ∧ e ≤ 100) (c3 : 0 ≤ d ∧ d ≤ 3000) (c4 : wS (gvS B e) 4 < 2) {Q : Int → kzM → Prop} (hQ : Q (-1000005) τ) : Wz (Z11_share kdG0 0 w e d) τ Q := by
  have e5 := q.2.2.1
  have e6 := q.2.2.2.2.2.1
  have c1' : 0 ≤ w ∧ w < τ.1 337 1 := by omega
  simp only [Z11_share_32, Z11_share_64, Z11_share, W10_has, Z11_isKey, Z11_isTongue, Z11_isHand, Z11_isDay, W_within, zp_0, zB_zp, W_size r_1, W_isEmpty r_1, W_isFull r_1, W_has r_1, W_clear r_1, W_size r_337, W_isEmpty r_337, W_isFull r_337, W_has r_337, W_clear r_337, W_size r_339, W_isEmpty r_339, W_isFull r_339, W_has r_339, W_clear r_339, W_size r_341, W_isEmpty r_341, W_isFull r_341, W_has r_341, W_clear r_341, W_size r_485, W_isEmpty r_485, W_isFull r_485, W_has r_485, W_clear r_485, W_size r_487, W_isEmpty r_487, W_isFull r_487, W_has r_487, W_clear r_487, W_size r_489, W_isEmpty r_489, W_isFull r_489, W_has r_489, W_clear r_489, W_size r_581, W_isEmpty r_581, W_isFull r_581, W_has r_581, W_clear r_581, W_size r_583, W_isEmpty r_583, W_isFull r_583, W_has r_583, W_clear r_583, W_size r_585, W_isEmpty r_585, W_isFull r_585, W_has r_585, W_clear r_585, Wz_rt, Wz_cnd, Wz_lI, Wz_lW, Wz_lL, Wz_cl, Wz_cv, Wz_nz, Wz_gI, Wz_gR, Wz_sI, Wz_aI, Wz_aZ, Wz_aL, Wz_aN, Wz_aR, Wz_tI, Wz_tZ, Wz_tL, Option.some.injEq, exists_eq_left', zB_0, zB_1, true_and, and_true, true_implies, not_true_eq_false, false_implies, not_false_eq_true, Classical.not_not, g_0, g_1, g_2, g_336, g_337, g_338, g_339, g_340, g_341, g_342, g_343, g_464, g_465, g_466, g_484, g_485, g_486, g_487, g_488, g_489, g_490, g_580, g_581, g_582, g_583, g_584, g_585, g_586, g_587, g_0_0, g_0_1, g_0_2, g_0_3, g_0_4, g_0_5, g_0_6, g_0_7, g_0_8, g_0_9, g_0_10, g_0_11, g_1_0, g_336_0, g_336_1, g_336_2, g_336_3, g_337_0, g_339_0, g_341_0, g_464_0, g_464_1, g_484_0, g_484_1, g_484_2, g_485_0, g_487_0, g_489_0, g_580_0, g_580_1, g_580_2, g_580_3, g_581_0, g_583_0, g_585_0, addF, v2, rw1, Nat.reduceEqDiff, Nat.reduceAdd, Int.reduceEq, Int.reduceNeg, reduceIte, false_and, and_false, true_and, and_true, and_self, c1', c2, c3]
  unfold Z2_givers Z2_givers_4
  refine W2_givers_4 τ _ NN 0 (by omega) (by omega) (by unfold NN; omega) ?_
  have eg : wS (gvS (τ.1 587) e) 4 = wS (gvS B e) 4 := wS_congr 4 fun k k0 k1 => by
    unfold gvS; rw [e6 k k0 (by omega)]
  rw [eg]
  refine ⟨fun z => by omega, fun z => hQ⟩
set_option maxRecDepth 100000 in
theorem c_share_ok (q : Ob τ pd n f x B m fh fw fd) {w e d : Int} (c1 : 0 ≤ w ∧ w < n) (c2 : 1 ≤ e ∧ e ≤ 100) (c3 : 0 ≤ d ∧ d ≤ 3000) (c4 : 2 ≤ wS (gvS B e) 4) {Q : Int → kzM → Prop} (hQ : ∀ τ', Ob τ' pd n f ((x * 16807).tmod 2147483647) (shB B e 4) m fh fw fd → Q (wS (shS B e (fun h => wrt f m fh fw fd h w d)) 4 + ((((x * 16807).tmod 2147483647).tmod 2001 - 1000) * 100).tdiv e) τ') : Wz (Z11_share kdG0 0 w e d) τ Q := by
  have q0 := q
  have i8 := q.1.2.2.2.2.2.2.2.1.1
  have i11 := q.1.2.2.2.2.2.2.2.1.2
  unfold I8b at i11
  obtain ⟨x1, x2, x3⟩ := i11
  obtain ⟨-, -, e5, e4, e7, e6, -, -⟩ := q
  have c1' : 0 ≤ w ∧ w < τ.1 337 1 := by omega
  simp only [Z11_share_32, Z11_share_64, Z11_share, W10_has, Z11_isKey, Z11_isTongue, Z11_isHand, Z11_isDay, W_within, zp_0, zB_zp, W_size r_1, W_isEmpty r_1, W_isFull r_1, W_has r_1, W_clear r_1, W_size r_337, W_isEmpty r_337, W_isFull r_337, W_has r_337, W_clear r_337, W_size r_339, W_isEmpty r_339, W_isFull r_339, W_has r_339, W_clear r_339, W_size r_341, W_isEmpty r_341, W_isFull r_341, W_has r_341, W_clear r_341, W_size r_485, W_isEmpty r_485, W_isFull r_485, W_has r_485, W_clear r_485, W_size r_487, W_isEmpty r_487, W_isFull r_487, W_has r_487, W_clear r_487, W_size r_489, W_isEmpty r_489, W_isFull r_489, W_has r_489, W_clear r_489, W_size r_581, W_isEmpty r_581, W_isFull r_581, W_has r_581, W_clear r_581, W_size r_583, W_isEmpty r_583, W_isFull r_583, W_has r_583, W_clear r_583, W_size r_585, W_isEmpty r_585, W_isFull r_585, W_has r_585, W_clear r_585, Wz_rt, Wz_cnd, Wz_lI, Wz_lW, Wz_lL, Wz_cl, Wz_cv, Wz_nz, Wz_gI, Wz_gR, Wz_sI, Wz_aI, Wz_aZ, Wz_aL, Wz_aN, Wz_aR, Wz_tI, Wz_tZ, Wz_tL, Option.some.injEq, exists_eq_left', zB_0, zB_1, true_and, and_true, true_implies, not_true_eq_false, false_implies, not_false_eq_true, Classical.not_not, g_0, g_1, g_2, g_336, g_337, g_338, g_339, g_340, g_341, g_342, g_343, g_464, g_465, g_466, g_484, g_485, g_486, g_487, g_488, g_489, g_490, g_580, g_581, g_582, g_583, g_584, g_585, g_586, g_587, g_0_0, g_0_1, g_0_2, g_0_3, g_0_4, g_0_5, g_0_6, g_0_7, g_0_8, g_0_9, g_0_10, g_0_11, g_1_0, g_336_0, g_336_1, g_336_2, g_336_3, g_337_0, g_339_0, g_341_0, g_464_0, g_464_1, g_484_0, g_484_1, g_484_2, g_485_0, g_487_0, g_489_0, g_580_0, g_580_1, g_580_2, g_580_3, g_581_0, g_583_0, g_585_0, addF, v2, rw1, Nat.reduceEqDiff, Nat.reduceAdd, Int.reduceEq, Int.reduceNeg, reduceIte, false_and, and_false, true_and, and_true, and_self, c1', c2, c3]
  unfold Z2_givers Z2_givers_4
  refine W2_givers_4 τ _ NN 0 (by omega) (by omega) (by unfold NN; omega) ?_
  have eg : wS (gvS (τ.1 587) e) 4 = wS (gvS B e) 4 := wS_congr 4 fun k k0 k1 => by
    unfold gvS; rw [e6 k k0 (by omega)]
  rw [eg]
  refine ⟨fun z => ?_, fun z => by omega⟩
  unfold Z2_sumWithLot Z2_sumWithLot_6
  have h0 : rw1 τ.1 587 (shB (τ.1 587) e 0) = τ.1 := by
    funext a x; simp only [rw1, shB]
    by_cases ca : a = 587
    · rw [if_pos ca, if_neg (by omega), ca]
    · rw [if_neg ca]
  have q := W2_sum_6 i8 x1.1 x2.1 (fun k k0 k1 => (x3 k k0 k1).1) c2.1 c2.2 c3.1 c3.2 (w := w) Q ?_ NN 0 (by omega) (by omega) (by unfold NN; omega)
  · rw [h0] at q; exact q
  · have es : wS (shS (τ.1 587) e (fun h => worthS τ h w d)) 4 = wS (shS B e (fun h => wrt f m fh fw fd h w d)) 4 := wS_congr 4 fun k k0 k1 => by
      have ew := q0.wr k w d
      unfold shS; simp only [e6 k k0 (by omega), ew]
    rw [es, e7]
    have u := lot_u x2.1.1 x2.1.2
    rw [e7] at u
    refine hQ _ (q0.ofb (fun a j h1 h2 => by dsimp only; rw [v2_ne _ _ _ _ h1, rw1_eq, if_neg h2]) ?_ (by dsimp only; rw [v2_nk _ _ _ _ (by decide), rw1_eq, if_neg (by decide)]; exact e4) (by dsimp only; rw [v2_self]) (fun k k0 k1 => ?_))
    · unfold I8b
      dsimp only
      rw [v2_self, v2_nk _ _ _ _ (by decide), rw1_eq, if_neg (by decide)]
      refine ⟨x1, ⟨u, trivial⟩, fun k k0 k1 => ⟨?_, trivial⟩⟩
      rw [v2_ne _ _ _ _ (by decide), rw1_eq, if_pos rfl]
      have e3 := x3 k k0 k1
      unfold shB
      split <;> omega
    · dsimp only
      rw [v2_ne _ _ _ _ (by decide), rw1_eq, if_pos rfl]
      unfold shB
      rw [e6 k k0 k1]
set_option maxRecDepth 100000 in
theorem c_forget (q : Ob τ pd n f x B m fh fw fd) {h w : Int} (c1 : 0 ≤ h ∧ h ≤ 3) (c2 : w = -1 ∨ (0 ≤ w ∧ w < n)) {Q : Int → kzM → Prop} (hQ : ∀ τ' fh' fw' fd', Ob τ' pd n f x B (ckF fh fw h w m.toNat) fh' fw' fd' → (∀ j, 0 ≤ j → j < m → ¬(fh j = h ∧ (w = -1 ∨ fw j = w)) → fh' (ckF fh fw h w j.toNat) = fh j ∧ fw' (ckF fh fw h w j.toNat) = fw j ∧ fd' (ckF fh fw h w j.toNat) = fd j) → Q (m - ckF fh fw h w m.toNat) τ') : Wz (Z11_forget kdG0 0 h w) τ Q := by
  have q0 := q
  have i5 := q.1.2.2.2.2.1
  have i8 := q.1.2.2.2.2.2.2.2.1.1
  unfold I5 at i5
  unfold I8l at i8
  obtain ⟨a1, a2, a3, -, a5⟩ := i8
  have b1 := i5.1
  clear i5
  obtain ⟨-, -, e5, -, -, -, e8, l8⟩ := q
  have cls : Wz (Z2_dropLearnings kdG0 580 h w) τ Q := by
    simp only [Z2_dropLearnings, Z2_learnings, Wz_rt, Wz_cnd, Wz_lI, Wz_lW, Wz_lL, Wz_cl, Wz_cv, Wz_nz, Wz_gI, Wz_gR, Wz_sI, Wz_aI, Wz_aZ, Wz_aL, Wz_aN, Wz_aR, Wz_tI, Wz_tZ, Wz_tL, Option.some.injEq, exists_eq_left', zB_0, zB_1, true_and, and_true, true_implies, not_true_eq_false, false_implies, not_false_eq_true, Classical.not_not, g_0, g_1, g_2, g_336, g_337, g_338, g_339, g_340, g_341, g_342, g_343, g_464, g_465, g_466, g_484, g_485, g_486, g_487, g_488, g_489, g_490, g_580, g_581, g_582, g_583, g_584, g_585, g_586, g_587, g_0_0, g_0_1, g_0_2, g_0_3, g_0_4, g_0_5, g_0_6, g_0_7, g_0_8, g_0_9, g_0_10, g_0_11, g_1_0, g_336_0, g_336_1, g_336_2, g_336_3, g_337_0, g_339_0, g_341_0, g_464_0, g_464_1, g_484_0, g_484_1, g_484_2, g_485_0, g_487_0, g_489_0, g_580_0, g_580_1, g_580_2, g_580_3, g_581_0, g_583_0, g_585_0, W_size r_581]
    refine ⟨by omega, ?_⟩
    unfold Z2_dropLearnings_10
    refine W2_drop_10 (τ := τ) _ a1.1 a1.2 (fun k k0 k1 => (a5 k k0 k1).2.1.1.1) ?_ NN (τ.1 581 1 - 1) τ (by omega) (by omega) (by unfold NN; omega) ?_
    · intro σ hσ
      obtain ⟨p1, ⟨p2, p3, p4⟩, p5, p6, p7⟩ := hσ
      have z0 : ckF (τ.1 582) (τ.1 584) h w ((-1 : Int) + 1).toNat = 0 := rfl
      have eck : ∀ N : Nat, (N : Int) ≤ m → ckF (τ.1 582) (τ.1 584) h w N = ckF fh fw h w N := fun N hN => ckF_c N fun k k0 k1 => by
        have l := l8 k k0 (by omega)
        exact ⟨l.1, l.2.1⟩
      have eckn := eck m.toNat (by omega)
      have p2 : σ.1 581 1 = ckF fh fw h w m.toNat := by rw [p2, z0, e8, eckn]; omega
      have bn := ckF_b (fh := fh) (fw := fw) (h := h) (w := w) m.toNat
      have kept : ∀ j, 0 ≤ j → j < m → ¬(fh j = h ∧ (w = -1 ∨ fw j = w)) → σ.1 582 (ckF fh fw h w j.toNat) = fh j ∧ σ.1 584 (ckF fh fw h w j.toNat) = fw j ∧ σ.1 586 (ckF fh fw h w j.toNat) = fd j := fun j j0 j1 hj => by
        have l := l8 j j0 j1
        have hj' : ¬(τ.1 582 j = h ∧ (w = -1 ∨ τ.1 584 j = w)) := by rw [l.1, l.2.1]; exact hj
        have w1 := p5.2 j (by omega) (by omega) hj'
        have w2 := p6.2 j (by omega) (by omega) hj'
        have w3 := p7.2 j (by omega) (by omega) hj'
        rw [z0, eck j.toNat (by omega), show (-1 : Int) + 1 + ckF fh fw h w j.toNat - 0 = ckF fh fw h w j.toNat by omega] at w1 w2 w3
        rw [w1, w2, w3]
        exact l
      rw [e8, p2]
      refine hQ σ (σ.1 582) (σ.1 584) (σ.1 586) (q0.of8 (fun a j z => p1 a j z) ?_ p2 fun k _ _ => ⟨rfl, rfl, rfl⟩) kept
      unfold I8l
      rw [p3, p4, p2]
      refine ⟨by omega, rfl, rfl, trivial, fun y y0 y1 => ?_⟩
      obtain ⟨k, k1, k2, k3⟩ := ckF_s _ y y0 y1
      have kk := kept k (by omega) (by omega) k2
      rw [show ((k : Int)).toNat = k from Int.toNat_natCast k, k3] at kk
      have e := a5 k (by omega) (by omega)
      have l := l8 k (by omega) (by omega)
      rw [l.1, l.2.1, l.2.2] at e
      rw [kk.1, kk.2.1, kk.2.2]
      exact e
    · refine ⟨fun _ _ _ => rfl, ⟨?_, a2, a3⟩, ⟨fun j _ _ => rfl, fun j j0 j1 => by omega⟩, ⟨fun j _ _ => rfl, fun j j0 j1 => by omega⟩, ⟨fun j _ _ => rfl, fun j j0 j1 => by omega⟩⟩
      rw [show τ.1 581 1 - 1 + 1 = τ.1 581 1 by omega]; omega
  simp only [Z11_forget, Z11_forget_23, Z11_forget_25, Z11_isHand, W_within, W10_has, zp_0, zB_zp, Wz_rt, Wz_cnd, Wz_lI, Wz_lW, Wz_lL, Wz_cl, Wz_cv, Wz_nz, Wz_gI, Wz_gR, Wz_sI, Wz_aI, Wz_aZ, Wz_aL, Wz_aN, Wz_aR, Wz_tI, Wz_tZ, Wz_tL, Option.some.injEq, exists_eq_left', zB_0, zB_1, true_and, and_true, true_implies, not_true_eq_false, false_implies, not_false_eq_true, Classical.not_not, g_0, g_1, g_2, g_336, g_337, g_338, g_339, g_340, g_341, g_342, g_343, g_464, g_465, g_466, g_484, g_485, g_486, g_487, g_488, g_489, g_490, g_580, g_581, g_582, g_583, g_584, g_585, g_586, g_587, g_0_0, g_0_1, g_0_2, g_0_3, g_0_4, g_0_5, g_0_6, g_0_7, g_0_8, g_0_9, g_0_10, g_0_11, g_1_0, g_336_0, g_336_1, g_336_2, g_336_3, g_337_0, g_339_0, g_341_0, g_464_0, g_464_1, g_484_0, g_484_1, g_484_2, g_485_0, g_487_0, g_489_0, g_580_0, g_580_1, g_580_2, g_580_3, g_581_0, g_583_0, g_585_0, c1]
  exact ⟨fun u => cls, fun u => ⟨fun z => by omega, fun _ => cls⟩⟩
/-! guesses and prices -/
set_option maxRecDepth 100000 in
theorem c_slip (hI : Inv τ) {w : Int} (c1 : 0 ≤ w ∧ w < τ.1 337 1) (c2 : 1 ≤ τ.1 1 1) {Q : Int → kzM → Prop} (hQ : ∀ τ', tabG τ τ' → Q (prC τ w) τ') : Wz (Z11_slip kdG0 0 w) τ Q := by
  have i5 := hI.2.2.2.2.1
  unfold I5 at i5
  have b1 := i5.1
  obtain ⟨g1, g2⟩ := g_wd (i := w) (by omega) (by omega)
  obtain ⟨h1, h2⟩ := hI.sl
  obtain ⟨h3, h4, h5⟩ := hI.wd c1.1 c1.2
  simp only [Z11_slip_47, Z11_slip, W10_has, W10_keysOf c1.1 (show w < 60 by omega), Z11_isKey, Z11_isTongue, Z11_isHand, Z11_isDay, W_within, zp_0, zB_zp, W_size r_1, W_isEmpty r_1, W_isFull r_1, W_has r_1, W_clear r_1, W_size r_337, W_isEmpty r_337, W_isFull r_337, W_has r_337, W_clear r_337, W_size r_339, W_isEmpty r_339, W_isFull r_339, W_has r_339, W_clear r_339, W_size r_341, W_isEmpty r_341, W_isFull r_341, W_has r_341, W_clear r_341, W_size r_485, W_isEmpty r_485, W_isFull r_485, W_has r_485, W_clear r_485, W_size r_487, W_isEmpty r_487, W_isFull r_487, W_has r_487, W_clear r_487, W_size r_489, W_isEmpty r_489, W_isFull r_489, W_has r_489, W_clear r_489, W_size r_581, W_isEmpty r_581, W_isFull r_581, W_has r_581, W_clear r_581, W_size r_583, W_isEmpty r_583, W_isFull r_583, W_has r_583, W_clear r_583, W_size r_585, W_isEmpty r_585, W_isFull r_585, W_has r_585, W_clear r_585, Wz_rt, Wz_cnd, Wz_lI, Wz_lW, Wz_lL, Wz_cl, Wz_cv, Wz_nz, Wz_gI, Wz_gR, Wz_sI, Wz_aI, Wz_aZ, Wz_aL, Wz_aN, Wz_aR, Wz_tI, Wz_tZ, Wz_tL, Option.some.injEq, exists_eq_left', zB_0, zB_1, true_and, and_true, true_implies, not_true_eq_false, false_implies, not_false_eq_true, Classical.not_not, g_0, g_1, g_2, g_336, g_337, g_338, g_339, g_340, g_341, g_342, g_343, g_464, g_465, g_466, g_484, g_485, g_486, g_487, g_488, g_489, g_490, g_580, g_581, g_582, g_583, g_584, g_585, g_586, g_587, g_0_0, g_0_1, g_0_2, g_0_3, g_0_4, g_0_5, g_0_6, g_0_7, g_0_8, g_0_9, g_0_10, g_0_11, g_1_0, g_336_0, g_336_1, g_336_2, g_336_3, g_337_0, g_339_0, g_341_0, g_464_0, g_464_1, g_484_0, g_484_1, g_484_2, g_485_0, g_487_0, g_489_0, g_580_0, g_580_1, g_580_2, g_580_3, g_581_0, g_583_0, g_585_0, addF, v2, rw1, Nat.reduceEqDiff, Nat.reduceAdd, Int.reduceEq, Int.reduceNeg, reduceIte, false_and, and_false, true_and, and_true, and_self, c1]
  refine ⟨fun _ => W7_price g2 (by omega) h1 h3 ?_, fun z => by omega⟩
  intro σ hs
  exact hQ σ (fun a x z => hs a x (by omega))
set_option maxRecDepth 100000 in
theorem c_guess (hI : Inv τ) (c2 : 1 ≤ τ.1 1 1) {i : Int} {Q : Int → kzM → Prop} (hQ : ∀ τ', tabG τ τ' → Q (ansG (gG (prC τ) (wtC τ (-1) 0) (τ.1 338) 7 60 (τ.1 337 1).toNat) i) τ') : Wz (Z11_guess kdG0 0 7 60 i) τ Q := by
  have i5 := hI.2.2.2.2.1
  unfold I5 at i5
  have gb := gG_b (pr := prC τ) (wt := wtC τ (-1) 0) (tg := τ.1 338) (ts := 7) (p := 60) (τ.1 337 1).toNat
  have fin : Wz (Z11_gather kdG0 0 7 60 (-1) 0) τ fun _ τ' => Wz (Z1_guessAt kdG0 484 i) τ' Q := by
    refine W11_gather hI (by omega) (by omega) ?_
    intro σ hs hg
    exact W1_guessAt hg (by omega) (hQ σ hs)
  simp only [Z11_guess_20, Z11_guess, Z11_isKey, Z11_isTongue, Z11_isHand, Z11_isDay, W_within, zp_0, zB_zp, W_size r_1, W_isEmpty r_1, W_isFull r_1, W_has r_1, W_clear r_1, W_size r_337, W_isEmpty r_337, W_isFull r_337, W_has r_337, W_clear r_337, W_size r_339, W_isEmpty r_339, W_isFull r_339, W_has r_339, W_clear r_339, W_size r_341, W_isEmpty r_341, W_isFull r_341, W_has r_341, W_clear r_341, W_size r_485, W_isEmpty r_485, W_isFull r_485, W_has r_485, W_clear r_485, W_size r_487, W_isEmpty r_487, W_isFull r_487, W_has r_487, W_clear r_487, W_size r_489, W_isEmpty r_489, W_isFull r_489, W_has r_489, W_clear r_489, W_size r_581, W_isEmpty r_581, W_isFull r_581, W_has r_581, W_clear r_581, W_size r_583, W_isEmpty r_583, W_isFull r_583, W_has r_583, W_clear r_583, W_size r_585, W_isEmpty r_585, W_isFull r_585, W_has r_585, W_clear r_585, Wz_rt, Wz_cnd, Wz_lI, Wz_lW, Wz_lL, Wz_cl, Wz_cv, Wz_nz, Wz_gI, Wz_gR, Wz_sI, Wz_aI, Wz_aZ, Wz_aL, Wz_aN, Wz_aR, Wz_tI, Wz_tZ, Wz_tL, Option.some.injEq, exists_eq_left', zB_0, zB_1, true_and, and_true, true_implies, not_true_eq_false, false_implies, not_false_eq_true, Classical.not_not, g_0, g_1, g_2, g_336, g_337, g_338, g_339, g_340, g_341, g_342, g_343, g_464, g_465, g_466, g_484, g_485, g_486, g_487, g_488, g_489, g_490, g_580, g_581, g_582, g_583, g_584, g_585, g_586, g_587, g_0_0, g_0_1, g_0_2, g_0_3, g_0_4, g_0_5, g_0_6, g_0_7, g_0_8, g_0_9, g_0_10, g_0_11, g_1_0, g_336_0, g_336_1, g_336_2, g_336_3, g_337_0, g_339_0, g_341_0, g_464_0, g_464_1, g_484_0, g_484_1, g_484_2, g_485_0, g_487_0, g_489_0, g_580_0, g_580_1, g_580_2, g_580_3, g_581_0, g_583_0, g_585_0, addF, v2, rw1, Nat.reduceEqDiff, Nat.reduceAdd, Int.reduceEq, Int.reduceNeg, reduceIte, false_and, and_false, true_and, and_true, and_self]
  (repeat' (first | with_reducible (refine And.intro ?_ ?_) | intro _)) <;> first | omega | exact fin
set_option maxRecDepth 100000 in
theorem c_mine (hI : Inv τ) (c2 : 1 ≤ τ.1 1 1) {h d i : Int} (c4 : 0 ≤ h ∧ h ≤ 3) (c5 : 0 ≤ d ∧ d ≤ 3000) {Q : Int → kzM → Prop} (hQ : ∀ τ', tabG τ τ' → Q (ansG (gG (prC τ) (wtC τ h d) (τ.1 338) 7 60 (τ.1 337 1).toNat) i) τ') : Wz (Z11_mine kdG0 0 h d 7 60 i) τ Q := by
  have i5 := hI.2.2.2.2.1
  unfold I5 at i5
  have gb := gG_b (pr := prC τ) (wt := wtC τ h d) (tg := τ.1 338) (ts := 7) (p := 60) (τ.1 337 1).toNat
  have fin : Wz (Z11_gather kdG0 0 7 60 h d) τ fun _ τ' => Wz (Z1_guessAt kdG0 484 i) τ' Q := by
    refine W11_gather hI c5.1 c5.2 ?_
    intro σ hs hg
    exact W1_guessAt hg (by omega) (hQ σ hs)
  simp only [Z11_mine_37, Z11_mine, Z11_isKey, Z11_isTongue, Z11_isHand, Z11_isDay, W_within, zp_0, zB_zp, W_size r_1, W_isEmpty r_1, W_isFull r_1, W_has r_1, W_clear r_1, W_size r_337, W_isEmpty r_337, W_isFull r_337, W_has r_337, W_clear r_337, W_size r_339, W_isEmpty r_339, W_isFull r_339, W_has r_339, W_clear r_339, W_size r_341, W_isEmpty r_341, W_isFull r_341, W_has r_341, W_clear r_341, W_size r_485, W_isEmpty r_485, W_isFull r_485, W_has r_485, W_clear r_485, W_size r_487, W_isEmpty r_487, W_isFull r_487, W_has r_487, W_clear r_487, W_size r_489, W_isEmpty r_489, W_isFull r_489, W_has r_489, W_clear r_489, W_size r_581, W_isEmpty r_581, W_isFull r_581, W_has r_581, W_clear r_581, W_size r_583, W_isEmpty r_583, W_isFull r_583, W_has r_583, W_clear r_583, W_size r_585, W_isEmpty r_585, W_isFull r_585, W_has r_585, W_clear r_585, Wz_rt, Wz_cnd, Wz_lI, Wz_lW, Wz_lL, Wz_cl, Wz_cv, Wz_nz, Wz_gI, Wz_gR, Wz_sI, Wz_aI, Wz_aZ, Wz_aL, Wz_aN, Wz_aR, Wz_tI, Wz_tZ, Wz_tL, Option.some.injEq, exists_eq_left', zB_0, zB_1, true_and, and_true, true_implies, not_true_eq_false, false_implies, not_false_eq_true, Classical.not_not, g_0, g_1, g_2, g_336, g_337, g_338, g_339, g_340, g_341, g_342, g_343, g_464, g_465, g_466, g_484, g_485, g_486, g_487, g_488, g_489, g_490, g_580, g_581, g_582, g_583, g_584, g_585, g_586, g_587, g_0_0, g_0_1, g_0_2, g_0_3, g_0_4, g_0_5, g_0_6, g_0_7, g_0_8, g_0_9, g_0_10, g_0_11, g_1_0, g_336_0, g_336_1, g_336_2, g_336_3, g_337_0, g_339_0, g_341_0, g_464_0, g_464_1, g_484_0, g_484_1, g_484_2, g_485_0, g_487_0, g_489_0, g_580_0, g_580_1, g_580_2, g_580_3, g_581_0, g_583_0, g_585_0, addF, v2, rw1, Nat.reduceEqDiff, Nat.reduceAdd, Int.reduceEq, Int.reduceNeg, reduceIte, false_and, and_false, true_and, and_true, and_self, c4, c5]
  (repeat' (first | with_reducible (refine And.intro ?_ ?_) | intro _)) <;> first | omega | exact fin
end OB2
