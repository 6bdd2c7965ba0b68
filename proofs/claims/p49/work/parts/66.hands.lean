def fadeN (f : Int) : Nat → Int
  | 0 => 1000
  | n + 1 => (fadeN f n * f).tdiv 1000
theorem fadeN_b {f : Int} (h0 : 0 ≤ f) (h1 : f ≤ 1000) : ∀ n, 0 ≤ fadeN f n ∧ fadeN f n ≤ 1000
  | 0 => ⟨by unfold fadeN; omega, by unfold fadeN; omega⟩
  | n + 1 => by
    have ih := fadeN_b h0 h1 n
    unfold fadeN
    have m0 : 0 ≤ fadeN f n * f := Int.mul_nonneg ih.1 h0
    have m1 : fadeN f n * f ≤ 1000 * 1000 := Int.mul_le_mul ih.2 h1 h0 (by omega)
    rw [Int.tdiv_eq_ediv_of_nonneg m0]
    omega
theorem fadeN_m {f : Int} (h0 : 0 ≤ f) (h1 : f ≤ 1000) (n : Nat) : 0 ≤ fadeN f n * f ∧ fadeN f n * f ≤ 1000000 := by
  have ih := fadeN_b h0 h1 n
  have m0 : 0 ≤ fadeN f n * f := Int.mul_nonneg ih.1 h0
  have m1 : fadeN f n * f ≤ 1000 * 1000 := Int.mul_le_mul ih.2 h1 h0 (by omega)
  omega
theorem fadeN_fix {f : Int} {n : Nat} (h : fadeN f (n + 1) = fadeN f n) : ∀ m, fadeN f (n + m) = fadeN f n
  | 0 => rfl
  | m + 1 => by
    have ih := fadeN_fix h m
    show (fadeN f (n + m) * f).tdiv 1000 = _
    rw [ih]; exact h
set_option maxRecDepth 100000 in
theorem W2_faded_6 {f d : Int} (τ : kzM) (Q : Int → kzM → Prop) (hf : τ.1 580 4 = f) (h0 : 0 ≤ f) (h1 : f ≤ 1000) (d3 : d ≤ 3000) : ∀ (n : Nat) (j : Int), 0 ≤ j → j ≤ d → d - j < (n : Int) → Q (fadeN f d.toNat) τ → Wz (lp (fun _ _ _ _ _ => none) (Z2_faded_6B kdG0) n 580 d (fadeN f j.toNat) j) τ Q := by
  intro n
  induction n with
  | zero => intro j h0 h1; intros; omega
  | succ n ih =>
    intro j j0 j1 j2 hQ
    rw [lp_succ]
    unfold Z2_faded_6B
    simp only [Z11_isKey, Z11_isTongue, Z11_isHand, Z11_isDay, W_within, zp_0, zB_zp, W_size r_1, W_isEmpty r_1, W_isFull r_1, W_has r_1, W_clear r_1, W_size r_337, W_isEmpty r_337, W_isFull r_337, W_has r_337, W_clear r_337, W_size r_339, W_isEmpty r_339, W_isFull r_339, W_has r_339, W_clear r_339, W_size r_341, W_isEmpty r_341, W_isFull r_341, W_has r_341, W_clear r_341, W_size r_485, W_isEmpty r_485, W_isFull r_485, W_has r_485, W_clear r_485, W_size r_487, W_isEmpty r_487, W_isFull r_487, W_has r_487, W_clear r_487, W_size r_489, W_isEmpty r_489, W_isFull r_489, W_has r_489, W_clear r_489, W_size r_581, W_isEmpty r_581, W_isFull r_581, W_has r_581, W_clear r_581, W_size r_583, W_isEmpty r_583, W_isFull r_583, W_has r_583, W_clear r_583, W_size r_585, W_isEmpty r_585, W_isFull r_585, W_has r_585, W_clear r_585, Wz_rt, Wz_cnd, Wz_lI, Wz_lW, Wz_lL, Wz_cl, Wz_cv, Wz_nz, Wz_gI, Wz_gR, Wz_sI, Wz_aI, Wz_aZ, Wz_aL, Wz_aN, Wz_aR, Wz_tI, Wz_tZ, Wz_tL, Option.some.injEq, exists_eq_left', zB_0, zB_1, true_and, and_true, true_implies, not_true_eq_false, false_implies, not_false_eq_true, Classical.not_not, g_0, g_1, g_2, g_336, g_337, g_338, g_339, g_340, g_341, g_342, g_343, g_464, g_465, g_466, g_484, g_485, g_486, g_487, g_488, g_489, g_490, g_580, g_581, g_582, g_583, g_584, g_585, g_586, g_587, g_0_0, g_0_1, g_0_2, g_0_3, g_0_4, g_0_5, g_0_6, g_0_7, g_0_8, g_0_9, g_0_10, g_0_11, g_1_0, g_336_0, g_336_1, g_336_2, g_336_3, g_337_0, g_339_0, g_341_0, g_464_0, g_464_1, g_484_0, g_484_1, g_484_2, g_485_0, g_487_0, g_489_0, g_580_0, g_580_1, g_580_2, g_580_3, g_581_0, g_583_0, g_585_0, addF, v2, rw1, Nat.reduceEqDiff, Nat.reduceAdd, Int.reduceEq, Int.reduceNeg, reduceIte, false_and, and_false, true_and, and_true, and_self, hf]
    have b := fadeN_b h0 h1 j.toNat
    have m := fadeN_m h0 h1 j.toNat
    have b2 := fadeN_b h0 h1 (j.toNat + 1)
    have e2 : fadeN f (j.toNat + 1) = (fadeN f j.toNat * f).tdiv 1000 := rfl
    refine ⟨fun e => ?_, fun e => ⟨by omega, by omega, by omega, fun z => ?_, fun z => ⟨by omega, ?_⟩⟩⟩
    · rw [show d = j by omega] at hQ; exact hQ
    · have q := fadeN_fix (e2.trans z) (d.toNat - j.toNat)
      rw [show j.toNat + (d.toNat - j.toNat) = d.toNat by omega] at q
      rw [q] at hQ; exact hQ
    · have q := ih (j + 1) (by omega) (by omega) (by omega) hQ
      rw [show (j + 1).toNat = j.toNat + 1 by omega, e2] at q
      exact q
def wS (p : Int → Int) : Nat → Int
  | 0 => 0
  | n + 1 => wS p n + p n
theorem wS_congr {p q : Int → Int} : ∀ n : Nat, (∀ k : Int, 0 ≤ k → k < n → p k = q k) → wS p n = wS q n
  | 0, _ => rfl
  | n + 1, h => by
    unfold wS
    rw [wS_congr n (fun k k0 k1 => h k k0 (by omega)), h n (by omega) (by omega)]
theorem wS_b {p : Int → Int} {m : Int} : ∀ n : Nat, (∀ k : Int, 0 ≤ k → k < n → 0 ≤ p k ∧ p k ≤ m) → 0 ≤ wS p n ∧ wS p n ≤ m * n
  | 0, _ => ⟨by unfold wS; omega, by unfold wS; simp⟩
  | n + 1, h => by
    have ih := wS_b n (fun k k0 k1 => h k k0 (by omega))
    have e := h n (by omega) (by omega)
    unfold wS
    have : m * ((n + 1 : Nat) : Int) = m * n + m := by rw [Int.natCast_add, Int.mul_add]; simp
    rw [this]
    omega
def pW (fh fw fd : Int → Int) (f h w d k : Int) : Int := if fh k = h ∧ fw k = w ∧ fd k ≤ d then fadeN f (d - fd k).toNat else 0
set_option maxRecDepth 100000 in
theorem W2_worth_6 {f h w d : Int} (τ : kzM) (Q : Int → kzM → Prop) (hf : τ.1 580 4 = f) (h0 : 0 ≤ f) (h1 : f ≤ 1000) (d0 : 0 ≤ d) (d3 : d ≤ 3000) (n0 : 0 ≤ τ.1 581 1) (n1 : τ.1 581 1 ≤ 60) (n2 : τ.1 583 1 = τ.1 581 1) (n3 : τ.1 585 1 = τ.1 581 1) (hd : ∀ k, 0 ≤ k → k < τ.1 581 1 → 0 ≤ τ.1 586 k ∧ τ.1 586 k ≤ 3000) : ∀ (n : Nat) (j : Int), 0 ≤ j → j ≤ τ.1 581 1 → τ.1 581 1 - j < (n : Int) → Q (wS (pW (τ.1 582) (τ.1 584) (τ.1 586) f h w d) (τ.1 581 1).toNat) τ → Wz (lp (fun _ _ _ _ _ _ _ => none) (Z2_worthOf_6B kdG0) n 580 h w d (wS (pW (τ.1 582) (τ.1 584) (τ.1 586) f h w d) j.toNat) j) τ Q := by
  have pb : ∀ k, 0 ≤ pW (τ.1 582) (τ.1 584) (τ.1 586) f h w d k ∧ pW (τ.1 582) (τ.1 584) (τ.1 586) f h w d k ≤ 1000 := fun k => by
    unfold pW; split
    · exact fadeN_b h0 h1 _
    · omega
  intro n
  induction n with
  | zero => intro j h0 h1; intros; omega
  | succ n ih =>
    intro j j0 j1 j2 hQ
    have sb := wS_b (p := pW (τ.1 582) (τ.1 584) (τ.1 586) f h w d) (m := 1000) j.toNat (fun k _ _ => pb k)
    have pj := pb j
    have es : wS (pW (τ.1 582) (τ.1 584) (τ.1 586) f h w d) (j.toNat + 1) = wS (pW (τ.1 582) (τ.1 584) (τ.1 586) f h w d) j.toNat + pW (τ.1 582) (τ.1 584) (τ.1 586) f h w d j := by
      show _ + pW _ _ _ f h w d ((j.toNat : Nat) : Int) = _
      rw [Int.toNat_of_nonneg j0]
    have e1 : j < τ.1 581 1 → 0 ≤ τ.1 586 j ∧ τ.1 586 j ≤ 3000 := hd j j0
    rw [lp_succ]
    unfold Z2_worthOf_6B
    simp only [Z2_worthOf_59, Z2_isOf_29, Z2_isOf_28, Z2_isOf, Z2_learnings, W_at r_581 (show τ.1 581 1 ≤ ((60 : Nat) : Int) by omega), W_at r_583 (show τ.1 583 1 ≤ ((60 : Nat) : Int) by omega), W_at r_585 (show τ.1 585 1 ≤ ((60 : Nat) : Int) by omega), Z11_isKey, Z11_isTongue, Z11_isHand, Z11_isDay, W_within, zp_0, zB_zp, W_size r_1, W_isEmpty r_1, W_isFull r_1, W_has r_1, W_clear r_1, W_size r_337, W_isEmpty r_337, W_isFull r_337, W_has r_337, W_clear r_337, W_size r_339, W_isEmpty r_339, W_isFull r_339, W_has r_339, W_clear r_339, W_size r_341, W_isEmpty r_341, W_isFull r_341, W_has r_341, W_clear r_341, W_size r_485, W_isEmpty r_485, W_isFull r_485, W_has r_485, W_clear r_485, W_size r_487, W_isEmpty r_487, W_isFull r_487, W_has r_487, W_clear r_487, W_size r_489, W_isEmpty r_489, W_isFull r_489, W_has r_489, W_clear r_489, W_size r_581, W_isEmpty r_581, W_isFull r_581, W_has r_581, W_clear r_581, W_size r_583, W_isEmpty r_583, W_isFull r_583, W_has r_583, W_clear r_583, W_size r_585, W_isEmpty r_585, W_isFull r_585, W_has r_585, W_clear r_585, Wz_rt, Wz_cnd, Wz_lI, Wz_lW, Wz_lL, Wz_cl, Wz_cv, Wz_nz, Wz_gI, Wz_gR, Wz_sI, Wz_aI, Wz_aZ, Wz_aL, Wz_aN, Wz_aR, Wz_tI, Wz_tZ, Wz_tL, Option.some.injEq, exists_eq_left', zB_0, zB_1, true_and, and_true, true_implies, not_true_eq_false, false_implies, not_false_eq_true, Classical.not_not, g_0, g_1, g_2, g_336, g_337, g_338, g_339, g_340, g_341, g_342, g_343, g_464, g_465, g_466, g_484, g_485, g_486, g_487, g_488, g_489, g_490, g_580, g_581, g_582, g_583, g_584, g_585, g_586, g_587, g_0_0, g_0_1, g_0_2, g_0_3, g_0_4, g_0_5, g_0_6, g_0_7, g_0_8, g_0_9, g_0_10, g_0_11, g_1_0, g_336_0, g_336_1, g_336_2, g_336_3, g_337_0, g_339_0, g_341_0, g_464_0, g_464_1, g_484_0, g_484_1, g_484_2, g_485_0, g_487_0, g_489_0, g_580_0, g_580_1, g_580_2, g_580_3, g_581_0, g_583_0, g_585_0, addF, v2, rw1, Nat.reduceEqDiff, Nat.reduceAdd, Int.reduceEq, Int.reduceNeg, reduceIte, false_and, and_false, true_and, and_true, and_self]
    have next : ∀ s, s = wS (pW (τ.1 582) (τ.1 584) (τ.1 586) f h w d) (j.toNat + 1) → j < τ.1 581 1 → Wz (lp (fun _ _ _ _ _ _ _ => none) (Z2_worthOf_6B kdG0) n 580 h w d s (j + 1)) τ Q := fun s e e2 => by
      have q := ih (j + 1) (by omega) (by omega) (by omega) hQ
      rw [show (j + 1).toNat = j.toNat + 1 by omega, ← e] at q
      exact q
    refine ⟨fun e => ?_, fun e => ?_⟩
    · rw [show τ.1 581 1 = j by omega] at hQ; exact hQ
    · have e1 := e1 (by omega)
      rw [if_pos ⟨j0, by omega⟩, if_pos ⟨j0, by omega⟩, if_pos ⟨j0, by omega⟩]
      have ep : pW (τ.1 582) (τ.1 584) (τ.1 586) f h w d j = if τ.1 582 j = h ∧ τ.1 584 j = w ∧ τ.1 586 j ≤ d then fadeN f (d - τ.1 586 j).toNat else 0 := rfl
      rw [ep] at es
      refine ⟨fun z => ⟨fun y => ⟨fun x => ⟨by omega, next _ ?_ (by omega)⟩, fun x => ⟨by omega, ?_⟩⟩, fun y => ⟨by omega, next _ ?_ (by omega)⟩⟩, fun z => ⟨by omega, next _ ?_ (by omega)⟩⟩
      · rw [es, if_neg (fun q => by omega)]; omega
      · unfold Z2_faded Z2_faded_6
        refine W2_faded_6 τ _ hf h0 h1 (by omega) NN 0 (by omega) (by omega) (by unfold NN; omega) ?_
        rw [if_pos ⟨z, y, by omega⟩] at es
        have fb := fadeN_b h0 h1 (d - τ.1 586 j).toNat
        exact ⟨by omega, by omega, next _ es.symm (by omega)⟩
      · rw [es, if_neg (fun q => y q.2.1)]; omega
      · rw [es, if_neg (fun q => z q.1)]; omega
def worthS (τ : kzM) (h w d : Int) : Int := wS (pW (τ.1 582) (τ.1 584) (τ.1 586) (τ.1 580 4) h w d) (τ.1 581 1).toNat
theorem worthS_b2 {τ : kzM} {h w d : Int} (i8 : I8l τ) (i11 : (0 ≤ τ.1 580 4 ∧ τ.1 580 4 ≤ 1000)) : 0 ≤ worthS τ h w d ∧ worthS τ h w d ≤ 60000 := by
  unfold I8l at i8
  have b := fun n => fadeN_b i11.1 i11.2 n
  have e := wS_b (p := pW (τ.1 582) (τ.1 584) (τ.1 586) (τ.1 580 4) h w d) (m := 1000) (τ.1 581 1).toNat (fun k _ _ => by
    unfold pW; split
    · exact b _
    · omega)
  unfold worthS
  omega
theorem worthS_b {τ : kzM} {h w d : Int} (i8 : I8l τ) (i11 : I8b τ) : 0 ≤ worthS τ h w d ∧ worthS τ h w d ≤ 60000 := by
  unfold I8l at i8
  unfold I8b at i11
  have b := fun n => fadeN_b i11.1.1.1 i11.1.1.2 n
  have e := wS_b (p := pW (τ.1 582) (τ.1 584) (τ.1 586) (τ.1 580 4) h w d) (m := 1000) (τ.1 581 1).toNat (fun k _ _ => by
    unfold pW; split
    · exact b _
    · omega)
  unfold worthS
  omega
set_option maxRecDepth 100000 in
theorem W2_worth {τ : kzM} (i8 : I8l τ) (i11 : (0 ≤ τ.1 580 4 ∧ τ.1 580 4 ≤ 1000)) {h w d : Int} (d0 : 0 ≤ d) (d3 : d ≤ 3000) {Q : Int → kzM → Prop} (hQ : Q (worthS τ h w d) τ) : Wz (Z2_worthOf kdG0 580 h w d) τ Q := by
  unfold I8l at i8
  unfold Z2_worthOf Z2_worthOf_6
  exact W2_worth_6 τ Q rfl i11.1 i11.2 d0 d3 i8.1.1 i8.1.2 i8.2.1 i8.2.2.1 (fun k k0 k1 => (i8.2.2.2.2 k k0 k1).2.2.1) NN 0 (by omega) i8.1.1 (by unfold NN; omega) hQ
def gvS (b : Int → Int) (e : Int) (k : Int) : Int := if b k < e then 0 else 1
set_option maxRecDepth 100000 in
theorem W2_givers_4 {e : Int} (τ : kzM) (Q : Int → kzM → Prop) : ∀ (n : Nat) (j : Int), 0 ≤ j → j ≤ 4 → 4 - j < (n : Int) → Q (wS (gvS (τ.1 587) e) 4) τ → Wz (lp (fun _ _ _ _ _ => none) (Z2_givers_4B kdG0) n 580 e (wS (gvS (τ.1 587) e) j.toNat) j) τ Q := by
  intro n
  induction n with
  | zero => intro j h0 h1; intros; omega
  | succ n ih =>
    intro j j0 j1 j2 hQ
    have sb := wS_b (p := gvS (τ.1 587) e) (m := 1) j.toNat (fun k _ _ => by unfold gvS; split <;> omega)
    have es : wS (gvS (τ.1 587) e) (j.toNat + 1) = wS (gvS (τ.1 587) e) j.toNat + (if τ.1 587 j < e then 0 else 1) := by
      show _ + gvS _ e ((j.toNat : Nat) : Int) = _
      rw [Int.toNat_of_nonneg j0]; rfl
    have q := ih (j + 1)
    rw [show (j + 1).toNat = j.toNat + 1 by omega] at q
    rw [lp_succ]
    unfold Z2_givers_4B
    simp only [Z2_givers_25, Z11_isKey, Z11_isTongue, Z11_isHand, Z11_isDay, W_within, zp_0, zB_zp, W_size r_1, W_isEmpty r_1, W_isFull r_1, W_has r_1, W_clear r_1, W_size r_337, W_isEmpty r_337, W_isFull r_337, W_has r_337, W_clear r_337, W_size r_339, W_isEmpty r_339, W_isFull r_339, W_has r_339, W_clear r_339, W_size r_341, W_isEmpty r_341, W_isFull r_341, W_has r_341, W_clear r_341, W_size r_485, W_isEmpty r_485, W_isFull r_485, W_has r_485, W_clear r_485, W_size r_487, W_isEmpty r_487, W_isFull r_487, W_has r_487, W_clear r_487, W_size r_489, W_isEmpty r_489, W_isFull r_489, W_has r_489, W_clear r_489, W_size r_581, W_isEmpty r_581, W_isFull r_581, W_has r_581, W_clear r_581, W_size r_583, W_isEmpty r_583, W_isFull r_583, W_has r_583, W_clear r_583, W_size r_585, W_isEmpty r_585, W_isFull r_585, W_has r_585, W_clear r_585, Wz_rt, Wz_cnd, Wz_lI, Wz_lW, Wz_lL, Wz_cl, Wz_cv, Wz_nz, Wz_gI, Wz_gR, Wz_sI, Wz_aI, Wz_aZ, Wz_aL, Wz_aN, Wz_aR, Wz_tI, Wz_tZ, Wz_tL, Option.some.injEq, exists_eq_left', zB_0, zB_1, true_and, and_true, true_implies, not_true_eq_false, false_implies, not_false_eq_true, Classical.not_not, g_0, g_1, g_2, g_336, g_337, g_338, g_339, g_340, g_341, g_342, g_343, g_464, g_465, g_466, g_484, g_485, g_486, g_487, g_488, g_489, g_490, g_580, g_581, g_582, g_583, g_584, g_585, g_586, g_587, g_0_0, g_0_1, g_0_2, g_0_3, g_0_4, g_0_5, g_0_6, g_0_7, g_0_8, g_0_9, g_0_10, g_0_11, g_1_0, g_336_0, g_336_1, g_336_2, g_336_3, g_337_0, g_339_0, g_341_0, g_464_0, g_464_1, g_484_0, g_484_1, g_484_2, g_485_0, g_487_0, g_489_0, g_580_0, g_580_1, g_580_2, g_580_3, g_581_0, g_583_0, g_585_0, addF, v2, rw1, Nat.reduceEqDiff, Nat.reduceAdd, Int.reduceEq, Int.reduceNeg, reduceIte, false_and, and_false, true_and, and_true, and_self]
    refine ⟨fun y => ?_, fun y => ⟨by omega, fun z => ⟨by omega, by omega, ?_⟩, fun z => ⟨by omega, by omega, ?_⟩⟩⟩
    · rw [show j = 4 by omega]; exact hQ
    · rw [if_pos z] at es; rw [← es]; exact q (by omega) (by omega) (by omega) hQ
    · rw [if_neg z] at es; rw [← es]; exact q (by omega) (by omega) (by omega) hQ
def shS (b : Int → Int) (e : Int) (W : Int → Int) (k : Int) : Int := if b k < e then 0 else if W k < 5000 then W k else 5000
def shB (b : Int → Int) (e j : Int) : Int → Int := fun x => if (0 ≤ x ∧ x < j) ∧ ¬b x < e then b x - e else b x
theorem shB_same {b : Int → Int} {e j : Int} : shB b e j j = b j := by unfold shB; rw [if_neg (by omega)]
theorem lot_b {u e : Int} (u0 : 0 ≤ u) (e0 : 1 ≤ e) : (-2147483648 ≤ (u.tmod 2001 - 1000) * 100 ∧ (u.tmod 2001 - 1000) * 100 ≤ 2147483647) ∧ -100000 ≤ ((u.tmod 2001 - 1000) * 100).tdiv e ∧ ((u.tmod 2001 - 1000) * 100).tdiv e ≤ 100000 := by
  rw [Int.tmod_eq_emod_of_nonneg u0]
  have h1 : -100000 ≤ (u % 2001 - 1000) * 100 ∧ (u % 2001 - 1000) * 100 ≤ 100000 := by omega
  generalize (u % 2001 - 1000) * 100 = z at h1 ⊢
  have h2 : (z.tdiv e).natAbs ≤ z.natAbs := by rw [Int.natAbs_tdiv]; exact Nat.div_le_self ..
  omega
theorem lot_u {s : Int} (s0 : 0 ≤ s) (s1 : s ≤ 2147483646) : 0 ≤ (s * 16807).tmod 2147483647 ∧ (s * 16807).tmod 2147483647 ≤ 2147483646 := by
  rw [Int.tmod_eq_emod_of_nonneg (by omega)]; omega
set_option maxRecDepth 100000 in
theorem W2_sum_6 {τ0 : kzM} (i8 : I8l τ0) (i11 : (0 ≤ τ0.1 580 4 ∧ τ0.1 580 4 ≤ 1000)) (s0 : 0 ≤ τ0.1 580 5 ∧ τ0.1 580 5 ≤ 2147483646) (hb : ∀ k, 0 ≤ k → k < 4 → 0 ≤ τ0.1 587 k ∧ τ0.1 587 k ≤ 1000) {w e d : Int} (e0 : 1 ≤ e) (e1 : e ≤ 100) (d0 : 0 ≤ d) (d3 : d ≤ 3000) (Q : Int → kzM → Prop)
    (hQ : Q (wS (shS (τ0.1 587) e (fun h => worthS τ0 h w d)) 4 + ((((τ0.1 580 5 * 16807).tmod 2147483647).tmod 2001 - 1000) * 100).tdiv e) (v2 (rw1 τ0.1 587 (shB (τ0.1 587) e 4)) 580 5 ((τ0.1 580 5 * 16807).tmod 2147483647), τ0.2)) :
    ∀ (n : Nat) (j : Int), 0 ≤ j → j ≤ 4 → 4 - j < (n : Int) → Wz (lp (fun _ _ _ _ _ _ _ => none) (Z2_sumWithLot_6B kdG0) n 580 w e d (wS (shS (τ0.1 587) e (fun h => worthS τ0 h w d)) j.toNat) j) (rw1 τ0.1 587 (shB (τ0.1 587) e j), τ0.2) Q := by
  have wb : ∀ h, 0 ≤ worthS τ0 h w d ∧ worthS τ0 h w d ≤ 60000 := fun h => worthS_b2 i8 i11
  intro n
  induction n with
  | zero => intro j h0 h1; intros; omega
  | succ n ih =>
    intro j j0 j1 j2
    have sb := wS_b (p := shS (τ0.1 587) e (fun h => worthS τ0 h w d)) (m := 5000) j.toNat (fun k _ _ => by have := wb k; unfold shS; dsimp only; (repeat' split) <;> omega)
    have es : wS (shS (τ0.1 587) e (fun h => worthS τ0 h w d)) (j.toNat + 1) = wS (shS (τ0.1 587) e (fun h => worthS τ0 h w d)) j.toNat + (if τ0.1 587 j < e then 0 else if worthS τ0 j w d < 5000 then worthS τ0 j w d else 5000) := by
      show _ + shS _ e _ ((j.toNat : Nat) : Int) = _
      rw [Int.toNat_of_nonneg j0]; rfl
    have q := ih (j + 1)
    rw [show (j + 1).toNat = j.toNat + 1 by omega] at q
    have bj := hb j j0
    obtain ⟨τ, hτ⟩ : ∃ τ : kzM, τ = (rw1 τ0.1 587 (shB (τ0.1 587) e j), τ0.2) := ⟨_, rfl⟩
    have r1 : τ.1 587 j = τ0.1 587 j := by rw [hτ]; exact shB_same
    have r2 : τ.1 580 5 = τ0.1 580 5 := by rw [hτ]; rfl
    rw [← hτ, lp_succ]
    unfold Z2_sumWithLot_6B
    simp only [Z2_sumWithLot_53, Z2_drawLot, r1, r2, Wz_rt, Wz_cnd, Wz_lI, Wz_lW, Wz_lL, Wz_cl, Wz_cv, Wz_nz, Wz_gI, Wz_gR, Wz_sI, Wz_aI, Wz_aZ, Wz_aL, Wz_aN, Wz_aR, Wz_tI, Wz_tZ, Wz_tL, Option.some.injEq, exists_eq_left', zB_0, zB_1, true_and, and_true, true_implies, not_true_eq_false, false_implies, not_false_eq_true, Classical.not_not, g_0, g_1, g_2, g_336, g_337, g_338, g_339, g_340, g_341, g_342, g_343, g_464, g_465, g_466, g_484, g_485, g_486, g_487, g_488, g_489, g_490, g_580, g_581, g_582, g_583, g_584, g_585, g_586, g_587, g_0_0, g_0_1, g_0_2, g_0_3, g_0_4, g_0_5, g_0_6, g_0_7, g_0_8, g_0_9, g_0_10, g_0_11, g_1_0, g_336_0, g_336_1, g_336_2, g_336_3, g_337_0, g_339_0, g_341_0, g_464_0, g_464_1, g_484_0, g_484_1, g_484_2, g_485_0, g_487_0, g_489_0, g_580_0, g_580_1, g_580_2, g_580_3, g_581_0, g_583_0, g_585_0]
    refine ⟨fun y => ?_, fun y => ⟨by omega, fun z => ⟨by omega, ?_⟩, fun z => ?_⟩⟩
    · have j4 : j = 4 := by omega
      subst j4
      have u := lot_u s0.1 s0.2
      have l := lot_b u.1 e0
      have ez : zmax e 1 = e := by unfold zmax; rw [if_neg (by omega)]
      simp only [v2_self, ez]
      refine ⟨by decide, by omega, by omega, by decide, by omega, l.1, by omega, by omega, ?_⟩
      rw [hτ]; exact hQ
    · rw [if_pos z] at es
      have e2 : shB (τ0.1 587) e (j + 1) = shB (τ0.1 587) e j := by
        funext x; unfold shB
        by_cases c : x = j
        · rw [if_neg (by rw [c]; omega), if_neg (by omega)]
        · by_cases c2 : (0 ≤ x ∧ x < j) ∧ ¬τ0.1 587 x < e
          · rw [if_pos c2, if_pos ⟨by omega, c2.2⟩]
          · rw [if_neg c2, if_neg (fun q => c2 ⟨by omega, q.2⟩)]
      rw [e2, es, Int.add_zero, ← hτ] at q
      exact q (by omega) (by omega) (by omega)
    · rw [hτ]
      have i8' : I8l (rw1 τ0.1 587 (shB (τ0.1 587) e j), τ0.2) := i8.to (fun a x h => by
        show (if a = 587 then _ else τ0.1 a x) = _
        rw [if_neg (fun q => by rw [q] at h; exact absurd (show (11 : Nat) = 8 from h) (by decide))])
      have ew : worthS (rw1 τ0.1 587 (shB (τ0.1 587) e j), τ0.2) j w d = worthS τ0 j w d := by
        unfold worthS; rfl
      refine W2_worth i8' ?_ d0 d3 ?_
      · exact i11
      · rw [ew]
        have w0 := wb j
        have em : zmin 5000 (worthS τ0 j w d) = if worthS τ0 j w d < 5000 then worthS τ0 j w d else 5000 := rfl
        rw [if_neg z, ← em] at es
        have em2 : 0 ≤ zmin 5000 (worthS τ0 j w d) ∧ zmin 5000 (worthS τ0 j w d) ≤ 5000 := by rw [em]; split <;> omega
        simp only [rw1_eq, shB_same, eq_self, reduceIte]
        refine ⟨by omega, ⟨by omega, by omega⟩, by omega, ⟨by omega, by omega⟩, by omega, ?_⟩
        have e2 : v2 (rw1 τ0.1 587 (shB (τ0.1 587) e j)) 587 j (τ0.1 587 j - e) = rw1 τ0.1 587 (shB (τ0.1 587) e (j + 1)) := by
          funext a x
          simp only [v2, rw1]
          by_cases ca : a = 587
          · rw [if_pos ca, if_pos ca]
            unfold shB
            by_cases c : x = j
            · rw [if_pos ⟨ca, c⟩, c, if_pos ⟨by omega, z⟩]
            · rw [if_neg (fun q => c q.2)]
              by_cases c2 : (0 ≤ x ∧ x < j) ∧ ¬τ0.1 587 x < e
              · rw [if_pos c2, if_pos ⟨by omega, c2.2⟩]
              · rw [if_neg c2, if_neg (fun q => c2 ⟨by omega, q.2⟩)]
          · rw [if_neg (fun q => ca q.1), if_neg ca, if_neg ca]
        rw [e2, ← es]
        exact q (by omega) (by omega) (by omega)
