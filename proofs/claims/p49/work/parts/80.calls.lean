/-! the calls that the law makes, over one object at 0: what they answer and leave -/
section OBS
variable {τ τ' : kzM} {pd n f x : Int} {B : Int → Int} {m : Int} {fh fw fd : Int → Int}
theorem Ob.of1 {pd' : Int} (q : Ob τ pd n f x B m fh fw fd) (h : ∀ a j, a ≠ 1 → a ≠ 2 → τ'.1 a j = τ.1 a j) (i : I1 τ') (e : τ'.1 1 1 = pd') : Ob τ' pd' n f x B m fh fw fd := by
  obtain ⟨⟨_, _, _, _, i5, i6, _, ⟨i8, i11⟩, _⟩, q2, q3, q4, q5, q6, q7, q8⟩ := q
  have hh : ∀ a j, 337 ≤ a → τ'.1 a j = τ.1 a j := fun a j z => h a j (by omega) (by omega)
  exact ⟨Inv.mk5 i (i5.cg fun a j z => hh a j (by omega)) (i6.cg fun j => hh 465 j (by omega)) (i8.cg fun a j z => hh a j (by omega)) (i11.cg fun a j z => hh a j (by omega)), e, by rw [hh 337 1 (by omega)]; exact q3, by rw [hh 580 4 (by omega)]; exact q4, by rw [hh 580 5 (by omega)]; exact q5, fun k k0 k1 => by rw [hh 587 k (by omega)]; exact q6 k k0 k1, by rw [hh 581 1 (by omega)]; exact q7, fun k k0 k1 => by rw [hh 582 k (by omega), hh 584 k (by omega), hh 586 k (by omega)]; exact q8 k k0 k1⟩
theorem Ob.of15 {pd' n' : Int} (q : Ob τ pd n f x B m fh fw fd) (h : ∀ a j, 464 ≤ a → τ'.1 a j = τ.1 a j) (i : I1 τ') (i5 : I5 τ') (e : τ'.1 1 1 = pd') (e5 : τ'.1 337 1 = n') : Ob τ' pd' n' f x B m fh fw fd := by
  obtain ⟨⟨_, _, _, _, _, i6, _, ⟨i8, i11⟩, _⟩, q2, q3, q4, q5, q6, q7, q8⟩ := q
  exact ⟨Inv.mk5 i i5 (i6.cg fun j => h 465 j (by omega)) (i8.cg fun a j z => h a j (by omega)) (i11.cg fun a j z => h a j (by omega)), e, e5, by rw [h 580 4 (by omega)]; exact q4, by rw [h 580 5 (by omega)]; exact q5, fun k k0 k1 => by rw [h 587 k (by omega)]; exact q6 k k0 k1, by rw [h 581 1 (by omega)]; exact q7, fun k k0 k1 => by rw [h 582 k (by omega), h 584 k (by omega), h 586 k (by omega)]; exact q8 k k0 k1⟩
theorem Ob.of8 {m' : Int} {fh' fw' fd' : Int → Int} (q : Ob τ pd n f x B m fh fw fd) (h : ∀ a j, ¬(581 ≤ a ∧ a ≤ 586) → τ'.1 a j = τ.1 a j) (i8 : I8l τ') (e : τ'.1 581 1 = m') (l : ∀ k, 0 ≤ k → k < m' → τ'.1 582 k = fh' k ∧ τ'.1 584 k = fw' k ∧ τ'.1 586 k = fd' k) : Ob τ' pd n f x B m' fh' fw' fd' := by
  obtain ⟨⟨i1, _, _, _, i5, i6, _, ⟨_, i11⟩, _⟩, q2, q3, q4, q5, q6, q7, q8⟩ := q
  exact ⟨Inv.mk5 (i1.cg fun a j z => h a j (by omega)) (i5.cg fun a j z => h a j (by omega)) (i6.cg fun j => h 465 j (by omega)) i8 (i11.cg fun a j z => h a j (by omega)), by rw [h 1 1 (by omega)]; exact q2, by rw [h 337 1 (by omega)]; exact q3, by rw [h 580 4 (by omega)]; exact q4, by rw [h 580 5 (by omega)]; exact q5, fun k k0 k1 => by rw [h 587 k (by omega)]; exact q6 k k0 k1, e, l⟩
theorem Ob.ofb {f' x' : Int} {B' : Int → Int} (q : Ob τ pd n f x B m fh fw fd) (h : ∀ a j, a ≠ 580 → a ≠ 587 → τ'.1 a j = τ.1 a j) (i11 : I8b τ') (e4 : τ'.1 580 4 = f') (e5 : τ'.1 580 5 = x') (e6 : ∀ k, 0 ≤ k → k < 4 → τ'.1 587 k = B' k) : Ob τ' pd n f' x' B' m fh fw fd := by
  obtain ⟨⟨i1, _, _, _, i5, i6, _, ⟨i8, _⟩, _⟩, q2, q3, q4, q5, q6, q7, q8⟩ := q
  exact ⟨Inv.mk5 (i1.cg fun a j z => h a j (by omega) (by omega)) (i5.cg fun a j z => h a j (by omega) (by omega)) (i6.cg fun j => h 465 j (by omega) (by omega)) (i8.cg fun a j z => h a j (by omega) (by omega)) i11, by rw [h 1 1 (by omega) (by omega)]; exact q2, by rw [h 337 1 (by omega) (by omega)]; exact q3, e4, e5, e6, by rw [h 581 1 (by omega) (by omega)]; exact q7, fun k k0 k1 => by rw [h 582 k (by omega) (by omega), h 584 k (by omega) (by omega), h 586 k (by omega) (by omega)]; exact q8 k k0 k1⟩
theorem addF_ne (f : Nat → Int → Int) {a : Nat} (v : Int) {b : Nat} (j : Int) (h : b ≠ a) (h1 : b ≠ a + 1) : addF f a v b j = f b j := by
  unfold addF; rw [v2_ne _ _ _ _ h, v2_ne _ _ _ _ h1]
theorem addF_sz (f : Nat → Int → Int) {a : Nat} (v : Int) : addF f a v a 1 = f a 1 + 1 := by unfold addF; rw [v2_self]
theorem addF_it (f : Nat → Int → Int) {a : Nat} (v : Int) (j : Int) : addF f a v (a + 1) j = if j = f a 1 then v else f (a + 1) j := by
  unfold addF; rw [v2_ne _ _ _ _ (by omega), v2_eq]
  by_cases h : j = f a 1
  · rw [if_pos ⟨rfl, h⟩, if_pos h]
  · rw [if_neg (fun q => h q.2), if_neg h]
set_option maxRecDepth 100000 in
theorem c_told0 {Q : Int → kzM → Prop} (hQ : Q (τ.1 1 1) τ) : Wz (Z11_told kdG0 0 0) τ Q := by
  simp only [Z11_told, Z11_isKey, Z11_isTongue, Z11_isHand, Z11_isDay, W_within, zp_0, zB_zp, W_size r_1, W_isEmpty r_1, W_isFull r_1, W_has r_1, W_clear r_1, W_size r_337, W_isEmpty r_337, W_isFull r_337, W_has r_337, W_clear r_337, W_size r_339, W_isEmpty r_339, W_isFull r_339, W_has r_339, W_clear r_339, W_size r_341, W_isEmpty r_341, W_isFull r_341, W_has r_341, W_clear r_341, W_size r_485, W_isEmpty r_485, W_isFull r_485, W_has r_485, W_clear r_485, W_size r_487, W_isEmpty r_487, W_isFull r_487, W_has r_487, W_clear r_487, W_size r_489, W_isEmpty r_489, W_isFull r_489, W_has r_489, W_clear r_489, W_size r_581, W_isEmpty r_581, W_isFull r_581, W_has r_581, W_clear r_581, W_size r_583, W_isEmpty r_583, W_isFull r_583, W_has r_583, W_clear r_583, W_size r_585, W_isEmpty r_585, W_isFull r_585, W_has r_585, W_clear r_585, Wz_rt, Wz_cnd, Wz_lI, Wz_lW, Wz_lL, Wz_cl, Wz_cv, Wz_nz, Wz_gI, Wz_gR, Wz_sI, Wz_aI, Wz_aZ, Wz_aL, Wz_aN, Wz_aR, Wz_tI, Wz_tZ, Wz_tL, Option.some.injEq, exists_eq_left', zB_0, zB_1, true_and, and_true, true_implies, not_true_eq_false, false_implies, not_false_eq_true, Classical.not_not, g_0, g_1, g_2, g_336, g_337, g_338, g_339, g_340, g_341, g_342, g_343, g_464, g_465, g_466, g_484, g_485, g_486, g_487, g_488, g_489, g_490, g_580, g_581, g_582, g_583, g_584, g_585, g_586, g_587, g_0_0, g_0_1, g_0_2, g_0_3, g_0_4, g_0_5, g_0_6, g_0_7, g_0_8, g_0_9, g_0_10, g_0_11, g_1_0, g_336_0, g_336_1, g_336_2, g_336_3, g_337_0, g_339_0, g_341_0, g_464_0, g_464_1, g_484_0, g_484_1, g_484_2, g_485_0, g_487_0, g_489_0, g_580_0, g_580_1, g_580_2, g_580_3, g_581_0, g_583_0, g_585_0, addF, v2, rw1, Nat.reduceEqDiff, Nat.reduceAdd, Int.reduceEq, Int.reduceNeg, reduceIte, false_and, and_false, true_and, and_true, and_self]
  exact hQ
set_option maxRecDepth 100000 in
theorem c_told7 {Q : Int → kzM → Prop} (hQ : Q (τ.1 581 1) τ) : Wz (Z11_told kdG0 0 7) τ Q := by
  simp only [Z11_told, Z2_learnings, Z11_isKey, Z11_isTongue, Z11_isHand, Z11_isDay, W_within, zp_0, zB_zp, W_size r_1, W_isEmpty r_1, W_isFull r_1, W_has r_1, W_clear r_1, W_size r_337, W_isEmpty r_337, W_isFull r_337, W_has r_337, W_clear r_337, W_size r_339, W_isEmpty r_339, W_isFull r_339, W_has r_339, W_clear r_339, W_size r_341, W_isEmpty r_341, W_isFull r_341, W_has r_341, W_clear r_341, W_size r_485, W_isEmpty r_485, W_isFull r_485, W_has r_485, W_clear r_485, W_size r_487, W_isEmpty r_487, W_isFull r_487, W_has r_487, W_clear r_487, W_size r_489, W_isEmpty r_489, W_isFull r_489, W_has r_489, W_clear r_489, W_size r_581, W_isEmpty r_581, W_isFull r_581, W_has r_581, W_clear r_581, W_size r_583, W_isEmpty r_583, W_isFull r_583, W_has r_583, W_clear r_583, W_size r_585, W_isEmpty r_585, W_isFull r_585, W_has r_585, W_clear r_585, Wz_rt, Wz_cnd, Wz_lI, Wz_lW, Wz_lL, Wz_cl, Wz_cv, Wz_nz, Wz_gI, Wz_gR, Wz_sI, Wz_aI, Wz_aZ, Wz_aL, Wz_aN, Wz_aR, Wz_tI, Wz_tZ, Wz_tL, Option.some.injEq, exists_eq_left', zB_0, zB_1, true_and, and_true, true_implies, not_true_eq_false, false_implies, not_false_eq_true, Classical.not_not, g_0, g_1, g_2, g_336, g_337, g_338, g_339, g_340, g_341, g_342, g_343, g_464, g_465, g_466, g_484, g_485, g_486, g_487, g_488, g_489, g_490, g_580, g_581, g_582, g_583, g_584, g_585, g_586, g_587, g_0_0, g_0_1, g_0_2, g_0_3, g_0_4, g_0_5, g_0_6, g_0_7, g_0_8, g_0_9, g_0_10, g_0_11, g_1_0, g_336_0, g_336_1, g_336_2, g_336_3, g_337_0, g_339_0, g_341_0, g_464_0, g_464_1, g_484_0, g_484_1, g_484_2, g_485_0, g_487_0, g_489_0, g_580_0, g_580_1, g_580_2, g_580_3, g_581_0, g_583_0, g_585_0, addF, v2, rw1, Nat.reduceEqDiff, Nat.reduceAdd, Int.reduceEq, Int.reduceNeg, reduceIte, false_and, and_false, true_and, and_true, and_self]
  exact hQ
set_option maxRecDepth 100000 in
theorem c_toldB {a : Int} (a0 : 30 ≤ a) (a1 : a ≤ 33) {Q : Int → kzM → Prop} (hQ : Q (τ.1 587 (a - 30)) τ) : Wz (Z11_told kdG0 0 a) τ Q := by
  have w1 := kz_w (e := a - 10) (by omega) (by omega)
  have w2 := kz_w (e := a - 20) (by omega) (by omega)
  have w3 := kz_w (e := a - 30) (by omega) (by omega)
  rw [if_neg (by omega), if_neg (by omega)] at w1 w2 w3
  simp only [Z11_told, Z11_toldOfOne_72, Z11_toldOfOne, Z0_padSize, Z4_tongue, Z4_strokes, W10_size, Z0_pairs, Z2_learnings, Z3_size, Z8_rules, Z8_joins, Z2_budgetOf, Z11_isKey, Z11_isTongue, Z11_isHand, Z11_isDay, W_within, zp_0, zB_zp, W_size r_1, W_isEmpty r_1, W_isFull r_1, W_has r_1, W_clear r_1, W_size r_337, W_isEmpty r_337, W_isFull r_337, W_has r_337, W_clear r_337, W_size r_339, W_isEmpty r_339, W_isFull r_339, W_has r_339, W_clear r_339, W_size r_341, W_isEmpty r_341, W_isFull r_341, W_has r_341, W_clear r_341, W_size r_485, W_isEmpty r_485, W_isFull r_485, W_has r_485, W_clear r_485, W_size r_487, W_isEmpty r_487, W_isFull r_487, W_has r_487, W_clear r_487, W_size r_489, W_isEmpty r_489, W_isFull r_489, W_has r_489, W_clear r_489, W_size r_581, W_isEmpty r_581, W_isFull r_581, W_has r_581, W_clear r_581, W_size r_583, W_isEmpty r_583, W_isFull r_583, W_has r_583, W_clear r_583, W_size r_585, W_isEmpty r_585, W_isFull r_585, W_has r_585, W_clear r_585, Wz_rt, Wz_cnd, Wz_lI, Wz_lW, Wz_lL, Wz_cl, Wz_cv, Wz_nz, Wz_gI, Wz_gR, Wz_sI, Wz_aI, Wz_aZ, Wz_aL, Wz_aN, Wz_aR, Wz_tI, Wz_tZ, Wz_tL, Option.some.injEq, exists_eq_left', zB_0, zB_1, true_and, and_true, true_implies, not_true_eq_false, false_implies, not_false_eq_true, Classical.not_not, g_0, g_1, g_2, g_336, g_337, g_338, g_339, g_340, g_341, g_342, g_343, g_464, g_465, g_466, g_484, g_485, g_486, g_487, g_488, g_489, g_490, g_580, g_581, g_582, g_583, g_584, g_585, g_586, g_587, g_0_0, g_0_1, g_0_2, g_0_3, g_0_4, g_0_5, g_0_6, g_0_7, g_0_8, g_0_9, g_0_10, g_0_11, g_1_0, g_336_0, g_336_1, g_336_2, g_336_3, g_337_0, g_339_0, g_341_0, g_464_0, g_464_1, g_484_0, g_484_1, g_484_2, g_485_0, g_487_0, g_489_0, g_580_0, g_580_1, g_580_2, g_580_3, g_581_0, g_583_0, g_585_0, addF, v2, rw1, Nat.reduceEqDiff, Nat.reduceAdd, Int.reduceEq, Int.reduceNeg, reduceIte, false_and, and_false, true_and, and_true, and_self, w1, w2, w3]
  (repeat' (first | with_reducible (refine And.intro ?_ ?_) | intro _)) <;> first | omega | exact hQ
set_option maxRecDepth 100000 in
theorem c_key (q : Ob τ pd n f x B m fh fw fd) {k : Int} (k0 : 0 ≤ k) (k1 : k ≤ 11) (hp : pd < 16) {Q : Int → kzM → Prop} (hQ : ∀ τ', Ob τ' (pd + 1) n f x B m fh fw fd → Q (pd + 1) τ') : Wz (Z11_key kdG0 0 k) τ Q := by
  have i1 := q.1.1
  have e1 := q.2.1
  unfold I1 at i1
  obtain ⟨⟨a1, a2⟩, -, a4⟩ := i1
  simp only [Z11_key, Z11_isKey, W_within, Wz_rt, Wz_cnd, Wz_lI, Wz_lW, Wz_lL, Wz_cl, Wz_cv, Wz_nz, Wz_gI, Wz_gR, Wz_sI, Wz_aI, Wz_aZ, Wz_aL, Wz_aN, Wz_aR, Wz_tI, Wz_tZ, Wz_tL, Option.some.injEq, exists_eq_left', zB_0, zB_1, true_and, and_true, true_implies, not_true_eq_false, false_implies, not_false_eq_true, Classical.not_not, g_0, g_1, g_2, g_336, g_337, g_338, g_339, g_340, g_341, g_342, g_343, g_464, g_465, g_466, g_484, g_485, g_486, g_487, g_488, g_489, g_490, g_580, g_581, g_582, g_583, g_584, g_585, g_586, g_587, g_0_0, g_0_1, g_0_2, g_0_3, g_0_4, g_0_5, g_0_6, g_0_7, g_0_8, g_0_9, g_0_10, g_0_11, g_1_0, g_336_0, g_336_1, g_336_2, g_336_3, g_337_0, g_339_0, g_341_0, g_464_0, g_464_1, g_484_0, g_484_1, g_484_2, g_485_0, g_487_0, g_489_0, g_580_0, g_580_1, g_580_2, g_580_3, g_581_0, g_583_0, g_585_0, W_size r_1, W_isEmpty r_1, W_isFull r_1, W_has r_1, W_clear r_1, W_size r_337, W_isEmpty r_337, W_isFull r_337, W_has r_337, W_clear r_337, W_size r_339, W_isEmpty r_339, W_isFull r_339, W_has r_339, W_clear r_339, W_size r_341, W_isEmpty r_341, W_isFull r_341, W_has r_341, W_clear r_341, W_size r_485, W_isEmpty r_485, W_isFull r_485, W_has r_485, W_clear r_485, W_size r_487, W_isEmpty r_487, W_isFull r_487, W_has r_487, W_clear r_487, W_size r_489, W_isEmpty r_489, W_isFull r_489, W_has r_489, W_clear r_489, W_size r_581, W_isEmpty r_581, W_isFull r_581, W_has r_581, W_clear r_581, W_size r_583, W_isEmpty r_583, W_isFull r_583, W_has r_583, W_clear r_583, W_size r_585, W_isEmpty r_585, W_isFull r_585, W_has r_585, W_clear r_585, zp_0, zB_zp]
  refine ⟨fun c => absurd ⟨k0, k1⟩ c, fun _ => ⟨fun _ => ?_, fun c => by omega⟩⟩
  refine W_add r_1 (by omega) (by omega) (by omega) ?_
  dsimp only
  rw [addF_sz, e1]
  refine hQ _ (q.of1 (fun a j h1 h2 => addF_ne _ _ _ (by omega) (by omega)) ?_ (by dsimp only; rw [addF_sz, e1]))
  unfold I1
  dsimp only
  rw [addF_sz]
  refine ⟨by omega, trivial, fun j j0 j1 => ⟨?_, trivial⟩⟩
  rw [addF_it]
  by_cases c : j = τ.1 1 1
  · rw [if_pos c]; exact ⟨k0, k1⟩
  · rw [if_neg c]; exact (a4 j j0 (by omega)).1
set_option maxRecDepth 100000 in
theorem c_fade (q : Ob τ pd n f x B m fh fw fd) {v : Int} (v0 : 0 ≤ v) (v1 : v ≤ 1000) {Q : Int → kzM → Prop} (hQ : ∀ τ', Ob τ' pd n v x B m fh fw fd → Q f τ') : Wz (Z11_fade kdG0 0 v) τ Q := by
  have i11 := q.1.2.2.2.2.2.2.2.1.2
  unfold I8b at i11
  have q0 := q
  obtain ⟨-, -, -, e4, e5, e6, -⟩ := q
  simp only [Z11_fade_24, Z11_fade, Z2_setFade, Wz_rt, Wz_cnd, Wz_lI, Wz_lW, Wz_lL, Wz_cl, Wz_cv, Wz_nz, Wz_gI, Wz_gR, Wz_sI, Wz_aI, Wz_aZ, Wz_aL, Wz_aN, Wz_aR, Wz_tI, Wz_tZ, Wz_tL, Option.some.injEq, exists_eq_left', zB_0, zB_1, true_and, and_true, true_implies, not_true_eq_false, false_implies, not_false_eq_true, Classical.not_not, g_0, g_1, g_2, g_336, g_337, g_338, g_339, g_340, g_341, g_342, g_343, g_464, g_465, g_466, g_484, g_485, g_486, g_487, g_488, g_489, g_490, g_580, g_581, g_582, g_583, g_584, g_585, g_586, g_587, g_0_0, g_0_1, g_0_2, g_0_3, g_0_4, g_0_5, g_0_6, g_0_7, g_0_8, g_0_9, g_0_10, g_0_11, g_1_0, g_336_0, g_336_1, g_336_2, g_336_3, g_337_0, g_339_0, g_341_0, g_464_0, g_464_1, g_484_0, g_484_1, g_484_2, g_485_0, g_487_0, g_489_0, g_580_0, g_580_1, g_580_2, g_580_3, g_581_0, g_583_0, g_585_0, W_within, zp_0, zB_zp, e4]
  have fin : Q f (v2 τ.1 580 4 v, τ.2) := by
    refine hQ _ (q0.ofb (fun a j h1 h2 => v2_ne _ _ _ _ h1) ?_ (by dsimp only; rw [v2_self]) (by dsimp only; rw [v2_nk _ _ _ _ (by decide)]; exact e5) (fun k k0 k1 => by dsimp only; rw [v2_ne _ _ _ _ (by decide)]; exact e6 k k0 k1))
    unfold I8b
    dsimp only
    rw [v2_self, v2_nk _ _ _ _ (by decide)]
    exact ⟨⟨⟨v0, v1⟩, trivial⟩, i11.2.1, fun k k0 k1 => by rw [v2_ne _ _ _ _ (by decide)]; exact i11.2.2 k k0 k1⟩
  (repeat' (first | with_reducible (refine And.intro ?_ ?_) | intro _)) <;> first | omega | exact fin
set_option maxRecDepth 100000 in
theorem c_seed (q : Ob τ pd n f x B m fh fw fd) {v : Int} (v0 : 1 ≤ v) (v1 : v ≤ 1000000) {Q : Int → kzM → Prop} (hQ : ∀ τ', Ob τ' pd n f v B m fh fw fd → Q x τ') : Wz (Z11_seed kdG0 0 v) τ Q := by
  have i11 := q.1.2.2.2.2.2.2.2.1.2
  unfold I8b at i11
  have q0 := q
  obtain ⟨-, -, -, e4, e5, e6, -⟩ := q
  simp only [Z11_seed_24, Z11_seed, Z2_setSeed, Wz_rt, Wz_cnd, Wz_lI, Wz_lW, Wz_lL, Wz_cl, Wz_cv, Wz_nz, Wz_gI, Wz_gR, Wz_sI, Wz_aI, Wz_aZ, Wz_aL, Wz_aN, Wz_aR, Wz_tI, Wz_tZ, Wz_tL, Option.some.injEq, exists_eq_left', zB_0, zB_1, true_and, and_true, true_implies, not_true_eq_false, false_implies, not_false_eq_true, Classical.not_not, g_0, g_1, g_2, g_336, g_337, g_338, g_339, g_340, g_341, g_342, g_343, g_464, g_465, g_466, g_484, g_485, g_486, g_487, g_488, g_489, g_490, g_580, g_581, g_582, g_583, g_584, g_585, g_586, g_587, g_0_0, g_0_1, g_0_2, g_0_3, g_0_4, g_0_5, g_0_6, g_0_7, g_0_8, g_0_9, g_0_10, g_0_11, g_1_0, g_336_0, g_336_1, g_336_2, g_336_3, g_337_0, g_339_0, g_341_0, g_464_0, g_464_1, g_484_0, g_484_1, g_484_2, g_485_0, g_487_0, g_489_0, g_580_0, g_580_1, g_580_2, g_580_3, g_581_0, g_583_0, g_585_0, W_within, zp_0, zB_zp, e5]
  have fin : Q x (v2 τ.1 580 5 v, τ.2) := by
    refine hQ _ (q0.ofb (fun a j h1 h2 => v2_ne _ _ _ _ h1) ?_ (by dsimp only; rw [v2_nk _ _ _ _ (by decide)]; exact e4) (by dsimp only; rw [v2_self]) (fun k k0 k1 => by dsimp only; rw [v2_ne _ _ _ _ (by decide)]; exact e6 k k0 k1))
    unfold I8b
    dsimp only
    rw [v2_self, v2_nk _ _ _ _ (by decide)]
    exact ⟨i11.1, ⟨by omega, trivial⟩, fun k k0 k1 => by rw [v2_ne _ _ _ _ (by decide)]; exact i11.2.2 k k0 k1⟩
  (repeat' (first | with_reducible (refine And.intro ?_ ?_) | intro _)) <;> first | omega | exact fin
set_option maxRecDepth 100000 in
theorem c_budget (q : Ob τ pd n f x B m fh fw fd) {h v : Int} (h0 : 0 ≤ h) (h1 : h < 4) (v0 : 0 ≤ v) (v1 : v ≤ 1000) {Q : Int → kzM → Prop} (hQ : ∀ τ', Ob τ' pd n f x (fun k => if k = h then v else B k) m fh fw fd → Q (B h) τ') : Wz (Z11_budget kdG0 0 h v) τ Q := by
  have i11 := q.1.2.2.2.2.2.2.2.1.2
  unfold I8b at i11
  have q0 := q
  obtain ⟨-, -, -, e4, e5, e6, -⟩ := q
  simp only [Z11_budget_34, Z11_budget, Z2_setBudget, Z11_isHand, Wz_rt, Wz_cnd, Wz_lI, Wz_lW, Wz_lL, Wz_cl, Wz_cv, Wz_nz, Wz_gI, Wz_gR, Wz_sI, Wz_aI, Wz_aZ, Wz_aL, Wz_aN, Wz_aR, Wz_tI, Wz_tZ, Wz_tL, Option.some.injEq, exists_eq_left', zB_0, zB_1, true_and, and_true, true_implies, not_true_eq_false, false_implies, not_false_eq_true, Classical.not_not, g_0, g_1, g_2, g_336, g_337, g_338, g_339, g_340, g_341, g_342, g_343, g_464, g_465, g_466, g_484, g_485, g_486, g_487, g_488, g_489, g_490, g_580, g_581, g_582, g_583, g_584, g_585, g_586, g_587, g_0_0, g_0_1, g_0_2, g_0_3, g_0_4, g_0_5, g_0_6, g_0_7, g_0_8, g_0_9, g_0_10, g_0_11, g_1_0, g_336_0, g_336_1, g_336_2, g_336_3, g_337_0, g_339_0, g_341_0, g_464_0, g_464_1, g_484_0, g_484_1, g_484_2, g_485_0, g_487_0, g_489_0, g_580_0, g_580_1, g_580_2, g_580_3, g_581_0, g_583_0, g_585_0, W_within, zp_0, zB_zp, e6 h h0 h1]
  have fin : Q (B h) (v2 τ.1 587 h v, τ.2) := by
    refine hQ _ (q0.ofb (fun a j h1 h2 => v2_ne _ _ _ _ h2) ?_ (by dsimp only; rw [v2_ne _ _ _ _ (by decide)]; exact e4) (by dsimp only; rw [v2_ne _ _ _ _ (by decide)]; exact e5) (fun k k0 k1 => ?_))
    · unfold I8b
      dsimp only
      rw [v2_ne _ _ _ _ (by decide), v2_ne _ _ _ _ (by decide)]
      refine ⟨i11.1, i11.2.1, fun k k0 k1 => ⟨?_, trivial⟩⟩
      rw [v2_eq]
      by_cases c : k = h
      · rw [if_pos ⟨rfl, c⟩]; omega
      · rw [if_neg (fun z => c z.2)]; exact (i11.2.2 k k0 k1).1
    · dsimp only
      rw [v2_eq]
      by_cases c : k = h
      · rw [if_pos ⟨rfl, c⟩, if_pos c]
      · rw [if_neg (fun z => c z.2), if_neg c]; exact e6 k k0 k1
  (repeat' (first | with_reducible (refine And.intro ?_ ?_) | intro _)) <;> first | omega | exact fin
set_option maxRecDepth 100000 in
theorem c_ofWord {w : Int} (hI : Inv τ) (w0 : 0 ≤ w) (w1 : w < τ.1 337 1) {Q : Int → kzM → Prop} (hQ : Q (τ.1 342 w) τ) : Wz (Z11_ofWord kdG0 0 w 2) τ Q := by
  have i5 := hI.2.2.2.2.1
  unfold I5 at i5
  simp only [Z11_ofWord_130, Z11_ofWord, W10_has, W10_countOf (show τ.1 341 1 ≤ 60 by omega), if_pos (show 0 ≤ w ∧ w < τ.1 341 1 by omega), Z11_isKey, Z11_isTongue, Z11_isHand, Z11_isDay, W_within, zp_0, zB_zp, W_size r_1, W_isEmpty r_1, W_isFull r_1, W_has r_1, W_clear r_1, W_size r_337, W_isEmpty r_337, W_isFull r_337, W_has r_337, W_clear r_337, W_size r_339, W_isEmpty r_339, W_isFull r_339, W_has r_339, W_clear r_339, W_size r_341, W_isEmpty r_341, W_isFull r_341, W_has r_341, W_clear r_341, W_size r_485, W_isEmpty r_485, W_isFull r_485, W_has r_485, W_clear r_485, W_size r_487, W_isEmpty r_487, W_isFull r_487, W_has r_487, W_clear r_487, W_size r_489, W_isEmpty r_489, W_isFull r_489, W_has r_489, W_clear r_489, W_size r_581, W_isEmpty r_581, W_isFull r_581, W_has r_581, W_clear r_581, W_size r_583, W_isEmpty r_583, W_isFull r_583, W_has r_583, W_clear r_583, W_size r_585, W_isEmpty r_585, W_isFull r_585, W_has r_585, W_clear r_585, Wz_rt, Wz_cnd, Wz_lI, Wz_lW, Wz_lL, Wz_cl, Wz_cv, Wz_nz, Wz_gI, Wz_gR, Wz_sI, Wz_aI, Wz_aZ, Wz_aL, Wz_aN, Wz_aR, Wz_tI, Wz_tZ, Wz_tL, Option.some.injEq, exists_eq_left', zB_0, zB_1, true_and, and_true, true_implies, not_true_eq_false, false_implies, not_false_eq_true, Classical.not_not, g_0, g_1, g_2, g_336, g_337, g_338, g_339, g_340, g_341, g_342, g_343, g_464, g_465, g_466, g_484, g_485, g_486, g_487, g_488, g_489, g_490, g_580, g_581, g_582, g_583, g_584, g_585, g_586, g_587, g_0_0, g_0_1, g_0_2, g_0_3, g_0_4, g_0_5, g_0_6, g_0_7, g_0_8, g_0_9, g_0_10, g_0_11, g_1_0, g_336_0, g_336_1, g_336_2, g_336_3, g_337_0, g_339_0, g_341_0, g_464_0, g_464_1, g_484_0, g_484_1, g_484_2, g_485_0, g_487_0, g_489_0, g_580_0, g_580_1, g_580_2, g_580_3, g_581_0, g_583_0, g_585_0, addF, v2, rw1, Nat.reduceEqDiff, Nat.reduceAdd, Int.reduceEq, Int.reduceNeg, reduceIte, false_and, and_false, true_and, and_true, and_self]
  (repeat' (first | with_reducible (refine And.intro ?_ ?_) | intro _)) <;> first | omega | exact hQ
/-- a word from the pad: the numbers behind it -/
def wdF (f : Nat → Int → Int) (n K t s k : Int) : Nat → Int → Int :=
  let M1 := v2 (rw1 f (344 + 2 * n.toNat + 1) (cpyF (f (344 + 2 * n.toNat + 1)) (f 2) 0 K)) (344 + 2 * n.toNat) 1 K
  v2 (addF (addF (addF M1 337 t) 339 s) 341 k) 1 1 0
set_option maxRecDepth 100000 in
theorem s_wdF {f : Nat → Int → Int} {n K t s k : Int} (h0 : 0 ≤ n) (h1 : n < 60) (e1 : f 337 1 = n) (e2 : f 339 1 = n) (e3 : f 341 1 = n) :
    wdF f n K t s k 337 1 = n + 1 ∧ wdF f n K t s k 339 1 = n + 1 ∧ wdF f n K t s k 341 1 = n + 1 ∧ wdF f n K t s k 1 1 = 0 ∧
    (∀ x, wdF f n K t s k 338 x = if x = n then t else f 338 x) ∧ (∀ x, wdF f n K t s k 340 x = if x = n then s else f 340 x) ∧ (∀ x, wdF f n K t s k 342 x = if x = n then k else f 342 x) ∧
    (wdF f n K t s k (344 + 2 * n.toNat) 1 = K) ∧ (∀ j, 0 ≤ j → j < K → wdF f n K t s k (344 + 2 * n.toNat + 1) j = f 2 j) ∧ (∀ a j, 344 ≤ a → a ≤ 463 → a ≠ 344 + 2 * n.toNat → a ≠ 344 + 2 * n.toNat + 1 → wdF f n K t s k a j = f a j) ∧ (∀ a j, 464 ≤ a → wdF f n K t s k a j = f a j) := by
  have m1 : ∀ a j, a ≠ 344 + 2 * n.toNat → a ≠ 344 + 2 * n.toNat + 1 → v2 (rw1 f (344 + 2 * n.toNat + 1) (cpyF (f (344 + 2 * n.toNat + 1)) (f 2) 0 K)) (344 + 2 * n.toNat) 1 K a j = f a j := fun a j h2 h3 => by rw [v2_eq, if_neg (by omega), rw1_eq, if_neg (by omega)]
  have m2 : v2 (rw1 f (344 + 2 * n.toNat + 1) (cpyF (f (344 + 2 * n.toNat + 1)) (f 2) 0 K)) (344 + 2 * n.toNat) 1 K (344 + 2 * n.toNat) 1 = K := v2_self ..
  have m3 : ∀ j, 0 ≤ j → j < K → v2 (rw1 f (344 + 2 * n.toNat + 1) (cpyF (f (344 + 2 * n.toNat + 1)) (f 2) 0 K)) (344 + 2 * n.toNat) 1 K (344 + 2 * n.toNat + 1) j = f 2 j := fun j h2 h3 => by
    rw [v2_eq, if_neg (by omega), rw1_eq, if_pos rfl]; unfold cpyF; rw [if_pos ⟨h2, h3⟩]
  unfold wdF
  generalize v2 (rw1 f (344 + 2 * n.toNat + 1) (cpyF (f (344 + 2 * n.toNat + 1)) (f 2) 0 K)) (344 + 2 * n.toNat) 1 K = M1 at m1 m2 m3 ⊢
  have p1 := m1 337 1 (by omega) (by omega)
  have p2 := m1 339 1 (by omega) (by omega)
  have p3 := m1 341 1 (by omega) (by omega)
  refine ⟨?_, ?_, ?_, v2_self .., fun x => ?_, fun x => ?_, fun x => ?_, ?_, fun j j0 j1 => ?_, fun a j a0 a1 h2 h3 => ?_, fun a j a0 => ?_⟩
  · rw [v2_ne _ _ _ _ (by decide), addF_ne _ _ _ (by decide) (by decide), addF_ne _ _ _ (by decide) (by decide), addF_sz, p1, e1]
  · rw [v2_ne _ _ _ _ (by decide), addF_ne _ _ _ (by decide) (by decide), addF_sz, addF_ne _ _ _ (by decide) (by decide), p2, e2]
  · rw [v2_ne _ _ _ _ (by decide), addF_sz, addF_ne _ _ _ (by decide) (by decide), addF_ne _ _ _ (by decide) (by decide), p3, e3]
  · rw [v2_ne _ _ _ _ (by decide), addF_ne _ _ _ (by decide) (by decide), addF_ne _ _ _ (by decide) (by decide), addF_it, p1, e1, m1 _ _ (by omega) (by omega)]
  · rw [v2_ne _ _ _ _ (by decide), addF_ne _ _ _ (by decide) (by decide), addF_it, addF_ne _ _ _ (by decide) (by decide), addF_ne _ _ _ (by decide) (by decide), p2, e2, m1 _ _ (by omega) (by omega)]
  · rw [v2_ne _ _ _ _ (by decide), addF_it, addF_ne _ _ _ (by decide) (by decide), addF_ne _ _ _ (by decide) (by decide), addF_ne _ _ _ (by decide) (by decide), addF_ne _ _ _ (by decide) (by decide), p3, e3, m1 _ _ (by omega) (by omega)]
  · rw [v2_ne _ _ _ _ (by omega), addF_ne _ _ _ (by omega) (by omega), addF_ne _ _ _ (by omega) (by omega), addF_ne _ _ _ (by omega) (by omega)]; exact m2
  · rw [v2_ne _ _ _ _ (by omega), addF_ne _ _ _ (by omega) (by omega), addF_ne _ _ _ (by omega) (by omega), addF_ne _ _ _ (by omega) (by omega)]; exact m3 j j0 j1
  · rw [v2_ne _ _ _ _ (by omega), addF_ne _ _ _ (by omega) (by omega), addF_ne _ _ _ (by omega) (by omega), addF_ne _ _ _ (by omega) (by omega)]; exact m1 a j h2 h3
  · rw [v2_ne _ _ _ _ (by omega), addF_ne _ _ _ (by omega) (by omega), addF_ne _ _ _ (by omega) (by omega), addF_ne _ _ _ (by omega) (by omega)]; exact m1 a j (by omega) (by omega)
set_option maxRecDepth 100000 in
theorem c_word (q : Ob τ pd n f x B m fh fw fd) {t s k : Int} (c1 : 0 ≤ t ∧ t ≤ 2) (c2 : 1 ≤ s ∧ s ≤ 999) (c3 : 1 ≤ k ∧ k ≤ 100) (c4 : n < 60) (c5 : 1 ≤ pd) (c6 : pd ≤ 8) {Q : Int → kzM → Prop} (hQ : ∀ τ', Ob τ' 0 (n + 1) f x B m fh fw fd → Q n τ') : Wz (Z11_word kdG0 0 t s k) τ Q := by
  have i1 := q.1.1
  have i5 := q.1.2.2.2.2.1
  have e1 := q.2.1
  have e5 := q.2.2.1
  unfold I1 at i1
  unfold I5 at i5
  obtain ⟨a1, -, a3⟩ := i1
  obtain ⟨b1, b2, b3, -, b5⟩ := i5
  obtain ⟨q1, q2⟩ := g_wd (i := τ.1 337 1) (by omega) (by omega)
  simp only [Z11_word_30, Z11_word_68, Z11_word, W10_isFull, Z10_addWord, W10_size, zp_0, zB_zp, Z11_isTongue, W_within, Wz_rt, Wz_cnd, Wz_lI, Wz_lW, Wz_lL, Wz_cl, Wz_cv, Wz_nz, Wz_gI, Wz_gR, Wz_sI, Wz_aI, Wz_aZ, Wz_aL, Wz_aN, Wz_aR, Wz_tI, Wz_tZ, Wz_tL, Option.some.injEq, exists_eq_left', zB_0, zB_1, true_and, and_true, true_implies, not_true_eq_false, false_implies, not_false_eq_true, Classical.not_not, g_0, g_1, g_2, g_336, g_337, g_338, g_339, g_340, g_341, g_342, g_343, g_464, g_465, g_466, g_484, g_485, g_486, g_487, g_488, g_489, g_490, g_580, g_581, g_582, g_583, g_584, g_585, g_586, g_587, g_0_0, g_0_1, g_0_2, g_0_3, g_0_4, g_0_5, g_0_6, g_0_7, g_0_8, g_0_9, g_0_10, g_0_11, g_1_0, g_336_0, g_336_1, g_336_2, g_336_3, g_337_0, g_339_0, g_341_0, g_464_0, g_464_1, g_484_0, g_484_1, g_484_2, g_485_0, g_487_0, g_489_0, g_580_0, g_580_1, g_580_2, g_580_3, g_581_0, g_583_0, g_585_0, W_isEmpty r_1, W_size r_1, W_clear r_1, q1, q2.1, c1, c2, c3]
  refine ⟨fun _ => ⟨fun _ => ⟨fun _ => ⟨fun _ => ⟨⟨by omega, by omega⟩, ?_⟩, fun z => by omega⟩, fun z => by omega⟩, fun z => by omega⟩, fun z => by omega⟩
  refine W_copy q2 r_1 (by omega) (by omega) (by omega) (by omega) (by omega) (by omega) (by omega) ?_
  obtain ⟨M1, hM1⟩ : ∃ M, M = v2 (rw1 τ.1 (344 + 2 * (τ.1 337 1).toNat + 1) (cpyF (τ.1 (344 + 2 * (τ.1 337 1).toNat + 1)) (τ.1 (1 + 1)) 0 (τ.1 1 1))) (344 + 2 * (τ.1 337 1).toNat) 1 (τ.1 1 1) := ⟨_, rfl⟩
  rw [← hM1]
  have k1 : ∀ a j, a ≠ 344 + 2 * (τ.1 337 1).toNat → a ≠ 344 + 2 * (τ.1 337 1).toNat + 1 → M1 a j = τ.1 a j := fun a j h h' => by
    rw [hM1, v2_eq, if_neg (by omega), rw1_eq, if_neg (by omega)]
  have p1 := k1 337 1 (by omega) (by omega)
  have p2 := k1 339 1 (by omega) (by omega)
  have p3 := k1 341 1 (by omega) (by omega)
  refine W_add r_337 (by dsimp only; omega) (by dsimp only; omega) (by omega) ?_
  refine W_add r_339 (by simp only [addF, v2, rw1, Nat.reduceEqDiff, Nat.reduceAdd, Int.reduceEq, Int.reduceNeg, reduceIte, false_and, and_false, true_and, and_true, and_self]; omega) (by simp only [addF, v2, rw1, Nat.reduceEqDiff, Nat.reduceAdd, Int.reduceEq, Int.reduceNeg, reduceIte, false_and, and_false, true_and, and_true, and_self]; omega) (by omega) ?_
  refine W_add r_341 (by simp only [addF, v2, rw1, Nat.reduceEqDiff, Nat.reduceAdd, Int.reduceEq, Int.reduceNeg, reduceIte, false_and, and_false, true_and, and_true, and_self]; omega) (by simp only [addF, v2, rw1, Nat.reduceEqDiff, Nat.reduceAdd, Int.reduceEq, Int.reduceNeg, reduceIte, false_and, and_false, true_and, and_true, and_self]; omega) (by omega) ?_
  have p5 : addF (addF (addF M1 337 t) 339 s) 341 k 337 1 = τ.1 337 1 + 1 := by
    rw [addF_ne _ _ _ (by omega) (by omega), addF_ne _ _ _ (by omega) (by omega), addF_sz, p1]
  dsimp only
  rw [p5]
  refine ⟨by omega, ?_⟩
  have hF : v2 (addF (addF (addF M1 337 t) 339 s) 341 k) 1 1 0 = wdF τ.1 (τ.1 337 1) (τ.1 1 1) t s k := by
    rw [hM1]; rfl
  rw [hF, show τ.1 337 1 + 1 - 1 = n by omega]
  obtain ⟨f1, f2, f3, f5, f7, f8, f9, f14, f15, f16, f17⟩ := s_wdF (f := τ.1) (n := τ.1 337 1) (K := τ.1 1 1) (t := t) (s := s) (k := k) b1.1 (by omega) rfl b2 b3
  clear hF hM1 p1 p2 p3 p5 k1
  generalize hF : wdF τ.1 (τ.1 337 1) (τ.1 1 1) t s k = F at *
  refine hQ _ (q.of15 (fun a j h => f17 a j h) ?_ ?_ f5 (by dsimp only; rw [f1]; omega))
  · unfold I1
    dsimp only
    rw [f5]
    exact ⟨by omega, trivial, fun j h0 h1 => by omega⟩
  · unfold I5 eqR
    dsimp only
    rw [f1, f2, f3]
    refine ⟨by omega, rfl, rfl, trivial, fun w h0 h1 => ?_⟩
    rw [f7, f8, f9]
    by_cases z : w = τ.1 337 1
    · subst z
      simp only [if_true]
      rw [f14]
      refine ⟨⟨c1, trivial⟩, ⟨c2, trivial⟩, ⟨c3, trivial⟩, ⟨by omega, by omega⟩, trivial, fun j j0 j1 => ?_⟩
      rw [f15 j j0 j1]
      exact ⟨(a3 j j0 j1).1, trivial⟩
    · have e := b5 w h0 (by omega)
      unfold eqR at e
      rw [if_neg z, if_neg z, if_neg z, f16 _ _ (by omega) (by omega) (by omega) (by omega)]
      obtain ⟨e1, e2, e3, e4, e5, e6⟩ := e
      refine ⟨e1, e2, e3, e4, trivial, fun j j0 j1 => ?_⟩
      rw [f16 _ _ (by omega) (by omega) (by omega) (by omega)]
      exact e6 j j0 j1
end OBS
