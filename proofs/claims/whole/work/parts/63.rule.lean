/-! rule -/
def cpS (f g : Int → Int) (s lo hi : Int) : Int → Int := fun x => if s + lo ≤ x ∧ x < s + hi then g (x - s) else f x
set_option maxRecDepth 100000 in
theorem W12_rule_94 (t r : Int) (t0 : 0 ≤ t) (t3 : t < 3) (r0 : 0 ≤ r) (r1 : r < 72) : ∀ (n : Nat) (j : Int) (τ : kzM) (Q : Int → kzM → Prop), 0 ≤ j → j ≤ τ.1 612 3 → τ.1 612 3 ≤ 3 → -1000 ≤ τ.1 621 t → τ.1 621 t ≤ 1000 → τ.1 612 3 - j < (n : Int) → Q (τ.1 621 t + 1 - 1) (v2 (v2 (v2 (v2 (v2 (rw1 τ.1 619 (cpS (τ.1 619) (τ.1 614) (3 * r) j (τ.1 612 3))) 618 r (τ.1 612 1)) 620 r (τ.1 612 3)) 612 1 0) 612 3 0) 621 t (τ.1 621 t + 1), τ.2) → Wz (lp (fun _ _ _ _ _ => none) (Z12_rule_94B kdG0) n 612 t r j) τ Q := by
  intro n
  induction n with
  | zero => intro j τ Q h0 h1 h2 h3 h4 h5; omega
  | succ n ih =>
    intro j τ Q h0 h1 h2 h3 h4 h5 hQ
    rw [lp_succ]
    unfold Z12_rule_94B
    simp only [Z11_isKey, Z11_isLetter, Z11_isTongue, Z11_isHand, Z11_isDay, Z12_isKey, Z12_isLetter, Z12_isTongue, Z12_isHand, Z12_areTongues, Z12_isWord, Z12_isSymbol, W_within, W_in, zp_0, zB_zp, W_size r_1, W_isEmpty r_1, W_isFull r_1, W_has r_1, W_clear r_1, W_size r_3, W_isEmpty r_3, W_isFull r_3, W_has r_3, W_clear r_3, W_size r_328, W_isEmpty r_328, W_isFull r_328, W_has r_328, W_clear r_328, W_size r_330, W_isEmpty r_330, W_isFull r_330, W_has r_330, W_clear r_330, W_size r_332, W_isEmpty r_332, W_isFull r_332, W_has r_332, W_clear r_332, W_size r_334, W_isEmpty r_334, W_isFull r_334, W_has r_334, W_clear r_334, W_size r_337, W_isEmpty r_337, W_isFull r_337, W_has r_337, W_clear r_337, W_size r_339, W_isEmpty r_339, W_isFull r_339, W_has r_339, W_clear r_339, W_size r_341, W_isEmpty r_341, W_isFull r_341, W_has r_341, W_clear r_341, W_size r_485, W_isEmpty r_485, W_isFull r_485, W_has r_485, W_clear r_485, W_size r_487, W_isEmpty r_487, W_isFull r_487, W_has r_487, W_clear r_487, W_size r_489, W_isEmpty r_489, W_isFull r_489, W_has r_489, W_clear r_489, W_size r_496, W_isEmpty r_496, W_isFull r_496, W_has r_496, W_clear r_496, W_size r_498, W_isEmpty r_498, W_isFull r_498, W_has r_498, W_clear r_498, W_size r_562, W_isEmpty r_562, W_isFull r_562, W_has r_562, W_clear r_562, W_size r_564, W_isEmpty r_564, W_isFull r_564, W_has r_564, W_clear r_564, W_size r_566, W_isEmpty r_566, W_isFull r_566, W_has r_566, W_clear r_566, W_size r_581, W_isEmpty r_581, W_isFull r_581, W_has r_581, W_clear r_581, W_size r_583, W_isEmpty r_583, W_isFull r_583, W_has r_583, W_clear r_583, W_size r_585, W_isEmpty r_585, W_isFull r_585, W_has r_585, W_clear r_585, W_size r_608, W_isEmpty r_608, W_isFull r_608, W_has r_608, W_clear r_608, W_size r_610, W_isEmpty r_610, W_isFull r_610, W_has r_610, W_clear r_610, Wz_rt, Wz_cnd, Wz_lI, Wz_lW, Wz_lL, Wz_cl, Wz_cv, Wz_nz, Wz_gI, Wz_gR, Wz_sI, Wz_aI, Wz_aZ, Wz_aL, Wz_aN, Wz_aR, Wz_tI, Wz_tZ, Wz_tL, Option.some.injEq, exists_eq_left', zB_0, zB_1, true_and, and_true, true_implies, not_true_eq_false, false_implies, not_false_eq_true, Classical.not_not, g_0, g_1, g_2, g_3, g_4, g_5, g_327, g_328, g_329, g_330, g_331, g_332, g_333, g_334, g_335, g_336, g_337, g_338, g_339, g_340, g_341, g_342, g_343, g_464, g_465, g_466, g_484, g_485, g_486, g_487, g_488, g_489, g_490, g_491, g_492, g_493, g_494, g_495, g_496, g_497, g_498, g_499, g_500, g_501, g_562, g_563, g_564, g_565, g_566, g_567, g_568, g_574, g_580, g_581, g_582, g_583, g_584, g_585, g_586, g_587, g_588, g_589, g_590, g_591, g_592, g_600, g_601, g_602, g_603, g_604, g_605, g_606, g_607, g_608, g_609, g_610, g_611, g_612, g_613, g_614, g_615, g_616, g_617, g_618, g_619, g_620, g_621, g_622, g_623, g_624, g_625, g_626, g_627, g_628, g_629, g_630, g_631, g_632, g_633, g_634, g_635, g_636, g_637, g_638, g_639, g_640, g_641, g_642, g_643, g_644, g_645, g_646, g_647, g_648, g_649, g_650, g_651, g_652, g_653, g_654, g_655, g_656, g_657, g_658, g_659, g_660, g_661, g_662, g_0_0, g_0_1, g_0_2, g_0_3, g_0_4, g_0_5, g_0_6, g_0_7, g_0_8, g_0_9, g_0_10, g_0_11, g_1_0, g_3_0, g_327_0, g_327_1, g_327_2, g_327_3, g_328_0, g_330_0, g_332_0, g_334_0, g_336_0, g_336_1, g_336_2, g_336_3, g_337_0, g_339_0, g_341_0, g_464_0, g_464_1, g_484_0, g_484_1, g_484_2, g_485_0, g_487_0, g_489_0, g_491_0, g_491_1, g_491_2, g_491_3, g_491_4, g_491_5, g_491_6, g_491_7, g_496_0, g_498_0, g_500_0, g_500_1, g_500_3, g_500_4, g_500_5, g_500_6, g_500_7, g_562_0, g_564_0, g_566_0, g_580_0, g_580_1, g_580_2, g_580_3, g_581_0, g_583_0, g_585_0, g_588_1, g_588_2, g_588_3, g_588_4, g_588_6, g_601_0, g_601_1, g_601_2, g_601_3, g_601_4, g_601_5, g_601_6, g_601_7, g_601_8, g_608_0, g_610_0, g_612_0, g_612_2, g_612_4, g_612_5, g_612_7, g_612_8, g_612_9, g_612_10, g_612_11, g_612_12, g_612_13, g_612_14, g_612_15, g_612_16, g_612_19, g_612_20, g_612_22, g_612_24, g_612_25, g_612_26, g_612_27, g_612_28, g_612_30, g_612_31, g_612_32, g_612_33, g_612_34, g_612_36, g_612_37, g_612_38, g_612_39, g_612_40, g_612_41, g_612_42, g_612_43, g_612_44, g_612_46, g_612_47, g_612_48, g_612_49, g_612_50, g_612_53, g_612_56, g_612_57, g_612_58, g_612_59, g_612_61, g_612_62, g_612_63, g_612_64, addF, v2, rw1, Nat.reduceEqDiff, Nat.reduceAdd, Int.reduceEq, Int.reduceNeg, reduceIte, false_and, and_false, true_and, and_true, and_self]
    refine ⟨fun e => ?_, fun e => ?_⟩
    · have e : j = τ.1 612 3 := by omega
      subst e
      have q : rw1 τ.1 619 (cpS (τ.1 619) (τ.1 614) (3 * r) (τ.1 612 3) (τ.1 612 3)) = τ.1 := by
        funext b x
        simp only [rw1, cpS]
        (repeat' split) <;> first | rfl | omega | (subst_vars; rfl)
      rw [q] at hQ
      (repeat' (first | with_reducible (refine And.intro ?_ ?_) | intro _)) <;> first | omega | exact hQ
    · refine ⟨by omega, by omega, by omega, ih _ _ _ (by omega) (by simp only [addF, v2, rw1, Nat.reduceEqDiff, Nat.reduceAdd, Int.reduceEq, Int.reduceNeg, reduceIte, false_and, and_false, true_and, and_true, and_self]; omega) (by simp only [addF, v2, rw1, Nat.reduceEqDiff, Nat.reduceAdd, Int.reduceEq, Int.reduceNeg, reduceIte, false_and, and_false, true_and, and_true, and_self]; omega) (by simp only [addF, v2, rw1, Nat.reduceEqDiff, Nat.reduceAdd, Int.reduceEq, Int.reduceNeg, reduceIte, false_and, and_false, true_and, and_true, and_self]; omega) (by simp only [addF, v2, rw1, Nat.reduceEqDiff, Nat.reduceAdd, Int.reduceEq, Int.reduceNeg, reduceIte, false_and, and_false, true_and, and_true, and_self]; omega) (by simp only [addF, v2, rw1, Nat.reduceEqDiff, Nat.reduceAdd, Int.reduceEq, Int.reduceNeg, reduceIte, false_and, and_false, true_and, and_true, and_self]; omega) ?_⟩
      simp only [v2_ne _ _ _ _ (show (612 : Nat) ≠ 619 by decide), v2_ne _ _ _ _ (show (621 : Nat) ≠ 619 by decide), v2_row _ _ _ (show (614 : Nat) ≠ 619 by decide)]
      have q : rw1 (v2 τ.1 619 (3 * r + j) (τ.1 614 j)) 619 (cpS (v2 τ.1 619 (3 * r + j) (τ.1 614 j) 619) (τ.1 614) (3 * r) (j + 1) (τ.1 612 3)) = rw1 τ.1 619 (cpS (τ.1 619) (τ.1 614) (3 * r) j (τ.1 612 3)) := by
        funext b x
        simp only [rw1, cpS, v2]
        clear hQ ih
        grind
      rw [q]; exact hQ
set_option maxRecDepth 100000 in
theorem W12_rule_62 (t r : Int) (r0 : 0 ≤ r) (r1 : r < 72) : ∀ (n : Nat) (j : Int) (τ : kzM) (Q : Int → kzM → Prop), 0 ≤ j → j ≤ τ.1 612 1 → τ.1 612 1 ≤ 4 → τ.1 612 1 - j < (n : Int) → Wz (Z12_rule_94 kdG0 612 t r 0) (rw1 τ.1 617 (cpS (τ.1 617) (τ.1 613) (4 * r) j (τ.1 612 1)), τ.2) Q → Wz (lp (fun _ _ _ _ _ => none) (Z12_rule_62B kdG0) n 612 t r j) τ Q := by
  intro n
  induction n with
  | zero => intro j τ Q h0 h1 h2 h5; omega
  | succ n ih =>
    intro j τ Q h0 h1 h2 h5 hQ
    rw [lp_succ]
    unfold Z12_rule_62B
    simp only [Z11_isKey, Z11_isLetter, Z11_isTongue, Z11_isHand, Z11_isDay, Z12_isKey, Z12_isLetter, Z12_isTongue, Z12_isHand, Z12_areTongues, Z12_isWord, Z12_isSymbol, W_within, W_in, zp_0, zB_zp, W_size r_1, W_isEmpty r_1, W_isFull r_1, W_has r_1, W_clear r_1, W_size r_3, W_isEmpty r_3, W_isFull r_3, W_has r_3, W_clear r_3, W_size r_328, W_isEmpty r_328, W_isFull r_328, W_has r_328, W_clear r_328, W_size r_330, W_isEmpty r_330, W_isFull r_330, W_has r_330, W_clear r_330, W_size r_332, W_isEmpty r_332, W_isFull r_332, W_has r_332, W_clear r_332, W_size r_334, W_isEmpty r_334, W_isFull r_334, W_has r_334, W_clear r_334, W_size r_337, W_isEmpty r_337, W_isFull r_337, W_has r_337, W_clear r_337, W_size r_339, W_isEmpty r_339, W_isFull r_339, W_has r_339, W_clear r_339, W_size r_341, W_isEmpty r_341, W_isFull r_341, W_has r_341, W_clear r_341, W_size r_485, W_isEmpty r_485, W_isFull r_485, W_has r_485, W_clear r_485, W_size r_487, W_isEmpty r_487, W_isFull r_487, W_has r_487, W_clear r_487, W_size r_489, W_isEmpty r_489, W_isFull r_489, W_has r_489, W_clear r_489, W_size r_496, W_isEmpty r_496, W_isFull r_496, W_has r_496, W_clear r_496, W_size r_498, W_isEmpty r_498, W_isFull r_498, W_has r_498, W_clear r_498, W_size r_562, W_isEmpty r_562, W_isFull r_562, W_has r_562, W_clear r_562, W_size r_564, W_isEmpty r_564, W_isFull r_564, W_has r_564, W_clear r_564, W_size r_566, W_isEmpty r_566, W_isFull r_566, W_has r_566, W_clear r_566, W_size r_581, W_isEmpty r_581, W_isFull r_581, W_has r_581, W_clear r_581, W_size r_583, W_isEmpty r_583, W_isFull r_583, W_has r_583, W_clear r_583, W_size r_585, W_isEmpty r_585, W_isFull r_585, W_has r_585, W_clear r_585, W_size r_608, W_isEmpty r_608, W_isFull r_608, W_has r_608, W_clear r_608, W_size r_610, W_isEmpty r_610, W_isFull r_610, W_has r_610, W_clear r_610, Wz_rt, Wz_cnd, Wz_lI, Wz_lW, Wz_lL, Wz_cl, Wz_cv, Wz_nz, Wz_gI, Wz_gR, Wz_sI, Wz_aI, Wz_aZ, Wz_aL, Wz_aN, Wz_aR, Wz_tI, Wz_tZ, Wz_tL, Option.some.injEq, exists_eq_left', zB_0, zB_1, true_and, and_true, true_implies, not_true_eq_false, false_implies, not_false_eq_true, Classical.not_not, g_0, g_1, g_2, g_3, g_4, g_5, g_327, g_328, g_329, g_330, g_331, g_332, g_333, g_334, g_335, g_336, g_337, g_338, g_339, g_340, g_341, g_342, g_343, g_464, g_465, g_466, g_484, g_485, g_486, g_487, g_488, g_489, g_490, g_491, g_492, g_493, g_494, g_495, g_496, g_497, g_498, g_499, g_500, g_501, g_562, g_563, g_564, g_565, g_566, g_567, g_568, g_574, g_580, g_581, g_582, g_583, g_584, g_585, g_586, g_587, g_588, g_589, g_590, g_591, g_592, g_600, g_601, g_602, g_603, g_604, g_605, g_606, g_607, g_608, g_609, g_610, g_611, g_612, g_613, g_614, g_615, g_616, g_617, g_618, g_619, g_620, g_621, g_622, g_623, g_624, g_625, g_626, g_627, g_628, g_629, g_630, g_631, g_632, g_633, g_634, g_635, g_636, g_637, g_638, g_639, g_640, g_641, g_642, g_643, g_644, g_645, g_646, g_647, g_648, g_649, g_650, g_651, g_652, g_653, g_654, g_655, g_656, g_657, g_658, g_659, g_660, g_661, g_662, g_0_0, g_0_1, g_0_2, g_0_3, g_0_4, g_0_5, g_0_6, g_0_7, g_0_8, g_0_9, g_0_10, g_0_11, g_1_0, g_3_0, g_327_0, g_327_1, g_327_2, g_327_3, g_328_0, g_330_0, g_332_0, g_334_0, g_336_0, g_336_1, g_336_2, g_336_3, g_337_0, g_339_0, g_341_0, g_464_0, g_464_1, g_484_0, g_484_1, g_484_2, g_485_0, g_487_0, g_489_0, g_491_0, g_491_1, g_491_2, g_491_3, g_491_4, g_491_5, g_491_6, g_491_7, g_496_0, g_498_0, g_500_0, g_500_1, g_500_3, g_500_4, g_500_5, g_500_6, g_500_7, g_562_0, g_564_0, g_566_0, g_580_0, g_580_1, g_580_2, g_580_3, g_581_0, g_583_0, g_585_0, g_588_1, g_588_2, g_588_3, g_588_4, g_588_6, g_601_0, g_601_1, g_601_2, g_601_3, g_601_4, g_601_5, g_601_6, g_601_7, g_601_8, g_608_0, g_610_0, g_612_0, g_612_2, g_612_4, g_612_5, g_612_7, g_612_8, g_612_9, g_612_10, g_612_11, g_612_12, g_612_13, g_612_14, g_612_15, g_612_16, g_612_19, g_612_20, g_612_22, g_612_24, g_612_25, g_612_26, g_612_27, g_612_28, g_612_30, g_612_31, g_612_32, g_612_33, g_612_34, g_612_36, g_612_37, g_612_38, g_612_39, g_612_40, g_612_41, g_612_42, g_612_43, g_612_44, g_612_46, g_612_47, g_612_48, g_612_49, g_612_50, g_612_53, g_612_56, g_612_57, g_612_58, g_612_59, g_612_61, g_612_62, g_612_63, g_612_64, addF, v2, rw1, Nat.reduceEqDiff, Nat.reduceAdd, Int.reduceEq, Int.reduceNeg, reduceIte, false_and, and_false, true_and, and_true, and_self]
    refine ⟨fun e => ?_, fun e => ?_⟩
    · have e : j = τ.1 612 1 := by omega
      subst e
      have q : rw1 τ.1 617 (cpS (τ.1 617) (τ.1 613) (4 * r) (τ.1 612 1) (τ.1 612 1)) = τ.1 := by
        funext b x
        simp only [rw1, cpS]
        (repeat' split) <;> first | rfl | omega | (subst_vars; rfl)
      rw [q] at hQ
      exact hQ
    · refine ⟨by omega, by omega, by omega, ih _ _ _ (by omega) (by simp only [addF, v2, rw1, Nat.reduceEqDiff, Nat.reduceAdd, Int.reduceEq, Int.reduceNeg, reduceIte, false_and, and_false, true_and, and_true, and_self]; omega) (by simp only [addF, v2, rw1, Nat.reduceEqDiff, Nat.reduceAdd, Int.reduceEq, Int.reduceNeg, reduceIte, false_and, and_false, true_and, and_true, and_self]; omega) (by simp only [addF, v2, rw1, Nat.reduceEqDiff, Nat.reduceAdd, Int.reduceEq, Int.reduceNeg, reduceIte, false_and, and_false, true_and, and_true, and_self]; omega) ?_⟩
      simp only [v2_ne _ _ _ _ (show (612 : Nat) ≠ 617 by decide), v2_row _ _ _ (show (613 : Nat) ≠ 617 by decide)]
      have q : rw1 (v2 τ.1 617 (4 * r + j) (τ.1 613 j)) 617 (cpS (v2 τ.1 617 (4 * r + j) (τ.1 613 j) 617) (τ.1 613) (4 * r) (j + 1) (τ.1 612 1)) = rw1 τ.1 617 (cpS (τ.1 617) (τ.1 613) (4 * r) j (τ.1 612 1)) := by
        funext b x
        simp only [rw1, cpS, v2]
        clear hQ ih
        grind
      rw [q]; exact hQ
set_option maxRecDepth 100000 in
theorem I3_rule {τ σ : kzM} {t R K L : Int} {T : Nat} (h : I3 τ) (t0 : 0 ≤ t) (t3 : t < 3) (hT : T = 6 + 107 * t.toNat) (hR : R = τ.1 T 2) (hf : R < 24) (hK : 1 ≤ K ∧ K ≤ 4) (hL : 1 ≤ L ∧ L ≤ 3)
    (key : ∀ a j, (a = T → j ≠ 2) → a ≠ T + 11 + 4 * R.toNat → a ≠ T + 11 + 4 * R.toNat + 1 → a ≠ T + 13 + 4 * R.toNat → a ≠ T + 13 + 4 * R.toNat + 1 → (a = 617 → ¬(4 * (24 * t + R) ≤ j ∧ j < 4 * (24 * t + R) + 4)) → (a = 619 → ¬(3 * (24 * t + R) ≤ j ∧ j < 3 * (24 * t + R) + 3)) → (a = 618 → j ≠ 24 * t + R) → (a = 620 → j ≠ 24 * t + R) → (a = 621 → j ≠ t) → 5 ≤ a → a ≤ 624 → a ≠ 612 → σ.1 a j = τ.1 a j)
    (fT : σ.1 T 2 = R + 1) (f621 : σ.1 621 t = R + 1) (ek : eqR σ (T + 11 + 4 * R.toNat) 618 617 (4 * (24 * t + R)) 0 11 4 (24 * t + R)) (el : eqR σ (T + 13 + 4 * R.toNat) 620 619 (3 * (24 * t + R)) 1 60 3 (24 * t + R)) : I3 σ := by
  intro s s0 s3
  obtain ⟨a1, a2, a3⟩ := h s s0 s3
  have hh := (h t t0 t3).1
  rw [← hT] at hh
  unfold I3r at hh
  obtain ⟨⟨j0, j1⟩, j2, j3⟩ := hh
  refine ⟨?_, a2.cg ?_ ?_ ?_, a3.cg ?_ ?_⟩
  · by_cases c : s = t
    · subst c
      rw [← hT]
      unfold I3r
      rw [fT, f621]
      refine ⟨by omega, rfl, fun r r0 r1 => ?_⟩
      by_cases z : r = R
      · rw [z]; exact ⟨ek, el⟩
      · obtain ⟨e1, e2⟩ := j3 r r0 (by omega)
        unfold eqR at e1 e2 ⊢
        rw [key (T + 11 + 4 * r.toNat) 1 (by omega) (by omega) (by omega) (by omega) (by omega) (by omega) (by omega) (by omega) (by omega) (by omega) (by omega) (by omega) (by omega)]
        rw [key (T + 13 + 4 * r.toNat) 1 (by omega) (by omega) (by omega) (by omega) (by omega) (by omega) (by omega) (by omega) (by omega) (by omega) (by omega) (by omega) (by omega)]
        rw [key 618 _ (by omega) (by omega) (by omega) (by omega) (by omega) (by omega) (by omega) (by omega) (by omega) (by omega) (by omega) (by omega) (by omega)]
        rw [key 620 _ (by omega) (by omega) (by omega) (by omega) (by omega) (by omega) (by omega) (by omega) (by omega) (by omega) (by omega) (by omega) (by omega)]
        refine ⟨⟨e1.1, e1.2.1, fun j h0 h1 => ?_⟩, e2.1, e2.2.1, fun j h0 h1 => ?_⟩
        · rw [key (T + 11 + 4 * r.toNat + 1) _ (by omega) (by omega) (by omega) (by omega) (by omega) (by omega) (by omega) (by omega) (by omega) (by omega) (by omega) (by omega) (by omega)]
          rw [key 617 _ (by omega) (by omega) (by omega) (by omega) (by omega) (by omega) (by omega) (by omega) (by omega) (by omega) (by omega) (by omega) (by omega)]
          exact e1.2.2 j h0 h1
        · rw [key (T + 13 + 4 * r.toNat + 1) _ (by omega) (by omega) (by omega) (by omega) (by omega) (by omega) (by omega) (by omega) (by omega) (by omega) (by omega) (by omega) (by omega)]
          rw [key 619 _ (by omega) (by omega) (by omega) (by omega) (by omega) (by omega) (by omega) (by omega) (by omega) (by omega) (by omega) (by omega) (by omega)]
          exact e2.2.2 j h0 h1
    · refine a1.cg ?_ ?_ ?_ ?_ ?_ ?_
      · apply key <;> omega
      · intro a j h1 h2; apply key <;> omega
      · apply key <;> omega
      · intro r h1 h2; constructor <;> (apply key <;> omega)
      · intro x h1 h2; apply key <;> omega
      · intro x h1 h2; apply key <;> omega
  · intro a j h1 h2
    have c : s < t ∨ s = t ∨ t < s := by omega
    rcases c with c | c | c <;> (apply key <;> omega)
  · apply key <;> omega
  · intro x h1 h2; apply key <;> omega
  · intro x h1 h2; apply key <;> omega
  · intro x h1 h2; apply key <;> omega
/-- what rule leaves behind -/
def ruleF (f : Nat → Int → Int) (t R K L : Int) (T : Nat) : Nat → Int → Int :=
  let a := T + 11 + 4 * R.toNat
  let b := T + 13 + 4 * R.toNat
  let M1 := v2 (rw1 f (a + 1) (cpyF (f (a + 1)) (f 2) 0 K)) a 1 K
  let M2 := v2 (rw1 M1 (b + 1) (cpyF (M1 (b + 1)) (M1 4) 0 L)) b 1 L
  let M5 := v2 (v2 (v2 M2 T 2 (R + 1)) 1 1 0) 3 1 0
  let M6 := rw1 M5 617 (cpS (M5 617) (M5 613) (4 * (24 * t + R)) 0 K)
  let M7 := rw1 M6 619 (cpS (M6 619) (M6 614) (3 * (24 * t + R)) 0 L)
  v2 (v2 (v2 (v2 (v2 M7 618 (24 * t + R) K) 620 (24 * t + R) L) 612 1 0) 612 3 0) 621 t (R + 1)
set_option maxRecDepth 100000 in
theorem s_ruleF {f : Nat → Int → Int} {t R K L : Int} {T : Nat} (t0 : 0 ≤ t) (t3 : t < 3) (hT : T = 6 + 107 * t.toNat) (hR : 0 ≤ R) (hf : R < 24) (hK : 1 ≤ K ∧ K ≤ 4) (hL : 1 ≤ L ∧ L ≤ 3) :
    (∀ a j, (a = T → j ≠ 2) → a ≠ T + 11 + 4 * R.toNat → a ≠ T + 11 + 4 * R.toNat + 1 → a ≠ T + 13 + 4 * R.toNat → a ≠ T + 13 + 4 * R.toNat + 1 → (a = 617 → ¬(4 * (24 * t + R) ≤ j ∧ j < 4 * (24 * t + R) + 4)) → (a = 619 → ¬(3 * (24 * t + R) ≤ j ∧ j < 3 * (24 * t + R) + 3)) → (a = 618 → j ≠ 24 * t + R) → (a = 620 → j ≠ 24 * t + R) → (a = 621 → j ≠ t) → (a = 1 ∨ a = 3 → j ≠ 1) → (a = 612 → j ≠ 1 ∧ j ≠ 3) → ruleF f t R K L T a j = f a j) := by
  intro a j h1 h2 h3 h4 h5 h6 h7 h8 h9 h10 h11 h12
  unfold ruleF
  rw [v2_eq, if_neg (fun q => h10 q.1 q.2), v2_eq, if_neg (fun q => (h12 q.1).2 q.2), v2_eq, if_neg (fun q => (h12 q.1).1 q.2), v2_eq, if_neg (fun q => h9 q.1 q.2), v2_eq, if_neg (fun q => h8 q.1 q.2)]
  rw [rw1_eq]
  by_cases c : a = 619
  · subst c
    have h7 := h7 rfl
    clear h1 h6 h8 h9 h10 h11 h12
    rw [if_pos rfl]
    unfold cpS
    rw [if_neg (by omega), rw1_eq, if_neg (by omega), v2_eq, if_neg (by omega), v2_eq, if_neg (by omega), v2_eq, if_neg (by omega), v2_eq, if_neg (by omega), rw1_eq, if_neg (by omega), v2_eq, if_neg (by omega), rw1_eq, if_neg (by omega)]
  rw [if_neg c, rw1_eq]
  by_cases c : a = 617
  · subst c
    have h6 := h6 rfl
    clear h1 h7 h8 h9 h10 h11 h12
    rw [if_pos rfl]
    unfold cpS
    rw [if_neg (by omega), v2_eq, if_neg (by omega), v2_eq, if_neg (by omega), v2_eq, if_neg (by omega), v2_eq, if_neg (by omega), rw1_eq, if_neg (by omega), v2_eq, if_neg (by omega), rw1_eq, if_neg (by omega)]
  rw [if_neg c, v2_eq, if_neg (fun q => h11 (Or.inr q.1) q.2), v2_eq, if_neg (fun q => h11 (Or.inl q.1) q.2), v2_eq, if_neg (fun q => h1 q.1 q.2), v2_eq, if_neg (fun q => h4 q.1), rw1_eq, if_neg h5, v2_eq, if_neg (fun q => h2 q.1), rw1_eq, if_neg h3]
set_option maxRecDepth 100000 in
theorem s_ruleT {f : Nat → Int → Int} {t R K L : Int} {T : Nat} (t0 : 0 ≤ t) (t3 : t < 3) (hT : T = 6 + 107 * t.toNat) (hR : 0 ≤ R) (hf : R < 24) (hK : 1 ≤ K ∧ K ≤ 4) (hL : 1 ≤ L ∧ L ≤ 3) :
    ruleF f t R K L T T 2 = R + 1 ∧ ruleF f t R K L T 621 t = R + 1 ∧ ruleF f t R K L T 618 (24 * t + R) = K ∧ ruleF f t R K L T 620 (24 * t + R) = L ∧ ruleF f t R K L T (T + 11 + 4 * R.toNat) 1 = K ∧ ruleF f t R K L T (T + 13 + 4 * R.toNat) 1 = L ∧
    (∀ j, 0 ≤ j → j < K → ruleF f t R K L T (T + 11 + 4 * R.toNat + 1) j = f 2 j) ∧ (∀ j, 0 ≤ j → j < L → ruleF f t R K L T (T + 13 + 4 * R.toNat + 1) j = f 4 j) ∧
    (∀ j, 0 ≤ j → j < K → ruleF f t R K L T 617 (4 * (24 * t + R) + j) = f 613 j) ∧ (∀ j, 0 ≤ j → j < L → ruleF f t R K L T 619 (3 * (24 * t + R) + j) = f 614 j) ∧ ruleF f t R K L T 1 1 = 0 ∧ ruleF f t R K L T 3 1 = 0 ∧ ruleF f t R K L T 612 1 = 0 ∧ ruleF f t R K L T 612 3 = 0 := by
  unfold ruleF
  refine ⟨?_, ?_, ?_, ?_, ?_, ?_, ?_, ?_, ?_, ?_, ?_, ?_, ?_, ?_⟩
  · rw [v2_eq, if_neg (by omega), v2_eq, if_neg (by omega), v2_eq, if_neg (by omega), v2_eq, if_neg (by omega), v2_eq, if_neg (by omega), rw1_eq, if_neg (by omega), rw1_eq, if_neg (by omega), v2_eq, if_neg (by omega), v2_eq, if_neg (by omega), v2_self]
  · rw [v2_self]
  · rw [v2_eq, if_neg (by omega), v2_eq, if_neg (by omega), v2_eq, if_neg (by omega), v2_eq, if_neg (by omega), v2_self]
  · rw [v2_eq, if_neg (by omega), v2_eq, if_neg (by omega), v2_eq, if_neg (by omega), v2_self]
  · rw [v2_eq, if_neg (by omega), v2_eq, if_neg (by omega), v2_eq, if_neg (by omega), v2_eq, if_neg (by omega), v2_eq, if_neg (by omega), rw1_eq, if_neg (by omega), rw1_eq, if_neg (by omega), v2_eq, if_neg (by omega), v2_eq, if_neg (by omega), v2_eq, if_neg (by omega), v2_eq, if_neg (by omega), rw1_eq, if_neg (by omega), v2_self]
  · rw [v2_eq, if_neg (by omega), v2_eq, if_neg (by omega), v2_eq, if_neg (by omega), v2_eq, if_neg (by omega), v2_eq, if_neg (by omega), rw1_eq, if_neg (by omega), rw1_eq, if_neg (by omega), v2_eq, if_neg (by omega), v2_eq, if_neg (by omega), v2_eq, if_neg (by omega), v2_self]
  · intro j h0 h1
    rw [v2_eq, if_neg (by omega), v2_eq, if_neg (by omega), v2_eq, if_neg (by omega), v2_eq, if_neg (by omega), v2_eq, if_neg (by omega), rw1_eq, if_neg (by omega), rw1_eq, if_neg (by omega), v2_eq, if_neg (by omega), v2_eq, if_neg (by omega), v2_eq, if_neg (by omega), v2_eq, if_neg (by omega), rw1_eq, if_neg (by omega), v2_eq, if_neg (by omega), rw1_eq, if_pos rfl]
    unfold cpyF
    rw [if_pos ⟨h0, h1⟩]
  · intro j h0 h1
    rw [v2_eq, if_neg (by omega), v2_eq, if_neg (by omega), v2_eq, if_neg (by omega), v2_eq, if_neg (by omega), v2_eq, if_neg (by omega), rw1_eq, if_neg (by omega), rw1_eq, if_neg (by omega), v2_eq, if_neg (by omega), v2_eq, if_neg (by omega), v2_eq, if_neg (by omega), v2_eq, if_neg (by omega), rw1_eq, if_pos rfl]
    unfold cpyF
    rw [if_pos ⟨h0, h1⟩, v2_eq, if_neg (by omega), rw1_eq, if_neg (by omega)]
  · intro j h0 h1
    rw [v2_eq, if_neg (by omega), v2_eq, if_neg (by omega), v2_eq, if_neg (by omega), v2_eq, if_neg (by omega), v2_eq, if_neg (by omega), rw1_eq, if_neg (by omega), rw1_eq, if_pos rfl]
    unfold cpS
    rw [if_pos (by omega), show 4 * (24 * t + R) + j - 4 * (24 * t + R) = j by omega, v2_eq, if_neg (by omega), v2_eq, if_neg (by omega), v2_eq, if_neg (by omega), v2_eq, if_neg (by omega), rw1_eq, if_neg (by omega), v2_eq, if_neg (by omega), rw1_eq, if_neg (by omega)]
  · intro j h0 h1
    rw [v2_eq, if_neg (by omega), v2_eq, if_neg (by omega), v2_eq, if_neg (by omega), v2_eq, if_neg (by omega), v2_eq, if_neg (by omega), rw1_eq, if_pos rfl]
    unfold cpS
    rw [if_pos (by omega), show 3 * (24 * t + R) + j - 3 * (24 * t + R) = j by omega, rw1_eq, if_neg (by omega), v2_eq, if_neg (by omega), v2_eq, if_neg (by omega), v2_eq, if_neg (by omega), v2_eq, if_neg (by omega), rw1_eq, if_neg (by omega), v2_eq, if_neg (by omega), rw1_eq, if_neg (by omega)]
  · rw [v2_eq, if_neg (by omega), v2_eq, if_neg (by omega), v2_eq, if_neg (by omega), v2_eq, if_neg (by omega), v2_eq, if_neg (by omega), rw1_eq, if_neg (by omega), rw1_eq, if_neg (by omega), v2_eq, if_neg (by omega), v2_self]
  · rw [v2_eq, if_neg (by omega), v2_eq, if_neg (by omega), v2_eq, if_neg (by omega), v2_eq, if_neg (by omega), v2_eq, if_neg (by omega), rw1_eq, if_neg (by omega), rw1_eq, if_neg (by omega), v2_self]
  · rw [v2_eq, if_neg (by omega), v2_eq, if_neg (by omega), v2_self]
  · rw [v2_eq, if_neg (by omega), v2_self]
set_option maxRecDepth 100000 in
theorem m_rule (t : Int) (_ : kzI t) : MOK (Z11_rule kdG0 0 t) (Z12_rule kdG0 612 t) := by
  intro τ hI
  have i1 := hI.1
  have i2 := hI.2.1
  have i3 := hI.2.2.1
  unfold I1 at i1
  unfold I2 at i2
  obtain ⟨a1, a2, a3⟩ := i1
  obtain ⟨b1, b2, b3⟩ := i2
  by_cases c : 0 ≤ t ∧ t ≤ 2
  · obtain ⟨q1, q2⟩ := g_to (i := t) (by omega) (by omega)
    obtain ⟨i3r, i3j, i3l⟩ := i3 t (by omega) (by omega)
    have hT : ∃ T, T = 6 + 107 * t.toNat := ⟨_, rfl⟩
    obtain ⟨T, hT⟩ := hT
    rw [← hT] at q1 q2 i3r i3j i3l
    unfold I3r at i3r
    obtain ⟨j1, j2, j3⟩ := i3r
    by_cases d : τ.1 T 2 < 24 ∧ (1 ≤ τ.1 1 1 ∧ τ.1 1 1 ≤ 4) ∧ 1 ≤ τ.1 3 1
    · obtain ⟨d1, d2, d3⟩ := d
      obtain ⟨k1, k2⟩ := gTk q2 j1.1 d1
      obtain ⟨l1, l2⟩ := gTl q2 j1.1 d1
      simp only [Z11_rule, W8_full q2, Z8_addRule, Z11_isKey, Z11_isLetter, Z11_isTongue, Z11_isHand, Z11_isDay, Z12_isKey, Z12_isLetter, Z12_isTongue, Z12_isHand, Z12_areTongues, Z12_isWord, Z12_isSymbol, W_within, W_in, zp_0, zB_zp, W_size r_1, W_isEmpty r_1, W_isFull r_1, W_has r_1, W_clear r_1, W_size r_3, W_isEmpty r_3, W_isFull r_3, W_has r_3, W_clear r_3, W_size r_328, W_isEmpty r_328, W_isFull r_328, W_has r_328, W_clear r_328, W_size r_330, W_isEmpty r_330, W_isFull r_330, W_has r_330, W_clear r_330, W_size r_332, W_isEmpty r_332, W_isFull r_332, W_has r_332, W_clear r_332, W_size r_334, W_isEmpty r_334, W_isFull r_334, W_has r_334, W_clear r_334, W_size r_337, W_isEmpty r_337, W_isFull r_337, W_has r_337, W_clear r_337, W_size r_339, W_isEmpty r_339, W_isFull r_339, W_has r_339, W_clear r_339, W_size r_341, W_isEmpty r_341, W_isFull r_341, W_has r_341, W_clear r_341, W_size r_485, W_isEmpty r_485, W_isFull r_485, W_has r_485, W_clear r_485, W_size r_487, W_isEmpty r_487, W_isFull r_487, W_has r_487, W_clear r_487, W_size r_489, W_isEmpty r_489, W_isFull r_489, W_has r_489, W_clear r_489, W_size r_496, W_isEmpty r_496, W_isFull r_496, W_has r_496, W_clear r_496, W_size r_498, W_isEmpty r_498, W_isFull r_498, W_has r_498, W_clear r_498, W_size r_562, W_isEmpty r_562, W_isFull r_562, W_has r_562, W_clear r_562, W_size r_564, W_isEmpty r_564, W_isFull r_564, W_has r_564, W_clear r_564, W_size r_566, W_isEmpty r_566, W_isFull r_566, W_has r_566, W_clear r_566, W_size r_581, W_isEmpty r_581, W_isFull r_581, W_has r_581, W_clear r_581, W_size r_583, W_isEmpty r_583, W_isFull r_583, W_has r_583, W_clear r_583, W_size r_585, W_isEmpty r_585, W_isFull r_585, W_has r_585, W_clear r_585, W_size r_608, W_isEmpty r_608, W_isFull r_608, W_has r_608, W_clear r_608, W_size r_610, W_isEmpty r_610, W_isFull r_610, W_has r_610, W_clear r_610, Wz_rt, Wz_cnd, Wz_lI, Wz_lW, Wz_lL, Wz_cl, Wz_cv, Wz_nz, Wz_gI, Wz_gR, Wz_sI, Wz_aI, Wz_aZ, Wz_aL, Wz_aN, Wz_aR, Wz_tI, Wz_tZ, Wz_tL, Option.some.injEq, exists_eq_left', zB_0, zB_1, true_and, and_true, true_implies, not_true_eq_false, false_implies, not_false_eq_true, Classical.not_not, g_0, g_1, g_2, g_3, g_4, g_5, g_327, g_328, g_329, g_330, g_331, g_332, g_333, g_334, g_335, g_336, g_337, g_338, g_339, g_340, g_341, g_342, g_343, g_464, g_465, g_466, g_484, g_485, g_486, g_487, g_488, g_489, g_490, g_491, g_492, g_493, g_494, g_495, g_496, g_497, g_498, g_499, g_500, g_501, g_562, g_563, g_564, g_565, g_566, g_567, g_568, g_574, g_580, g_581, g_582, g_583, g_584, g_585, g_586, g_587, g_588, g_589, g_590, g_591, g_592, g_600, g_601, g_602, g_603, g_604, g_605, g_606, g_607, g_608, g_609, g_610, g_611, g_612, g_613, g_614, g_615, g_616, g_617, g_618, g_619, g_620, g_621, g_622, g_623, g_624, g_625, g_626, g_627, g_628, g_629, g_630, g_631, g_632, g_633, g_634, g_635, g_636, g_637, g_638, g_639, g_640, g_641, g_642, g_643, g_644, g_645, g_646, g_647, g_648, g_649, g_650, g_651, g_652, g_653, g_654, g_655, g_656, g_657, g_658, g_659, g_660, g_661, g_662, g_0_0, g_0_1, g_0_2, g_0_3, g_0_4, g_0_5, g_0_6, g_0_7, g_0_8, g_0_9, g_0_10, g_0_11, g_1_0, g_3_0, g_327_0, g_327_1, g_327_2, g_327_3, g_328_0, g_330_0, g_332_0, g_334_0, g_336_0, g_336_1, g_336_2, g_336_3, g_337_0, g_339_0, g_341_0, g_464_0, g_464_1, g_484_0, g_484_1, g_484_2, g_485_0, g_487_0, g_489_0, g_491_0, g_491_1, g_491_2, g_491_3, g_491_4, g_491_5, g_491_6, g_491_7, g_496_0, g_498_0, g_500_0, g_500_1, g_500_3, g_500_4, g_500_5, g_500_6, g_500_7, g_562_0, g_564_0, g_566_0, g_580_0, g_580_1, g_580_2, g_580_3, g_581_0, g_583_0, g_585_0, g_588_1, g_588_2, g_588_3, g_588_4, g_588_6, g_601_0, g_601_1, g_601_2, g_601_3, g_601_4, g_601_5, g_601_6, g_601_7, g_601_8, g_608_0, g_610_0, g_612_0, g_612_2, g_612_4, g_612_5, g_612_7, g_612_8, g_612_9, g_612_10, g_612_11, g_612_12, g_612_13, g_612_14, g_612_15, g_612_16, g_612_19, g_612_20, g_612_22, g_612_24, g_612_25, g_612_26, g_612_27, g_612_28, g_612_30, g_612_31, g_612_32, g_612_33, g_612_34, g_612_36, g_612_37, g_612_38, g_612_39, g_612_40, g_612_41, g_612_42, g_612_43, g_612_44, g_612_46, g_612_47, g_612_48, g_612_49, g_612_50, g_612_53, g_612_56, g_612_57, g_612_58, g_612_59, g_612_61, g_612_62, g_612_63, g_612_64, addF, v2, rw1, Nat.reduceEqDiff, Nat.reduceAdd, Int.reduceEq, Int.reduceNeg, reduceIte, false_and, and_false, true_and, and_true, and_self, q1, gT q2, k1, l1, k2.1, l2.1, c]
      refine ⟨by omega, fun _ => ⟨fun _ => ⟨fun _ => by omega, fun _ => ⟨fun _ => ⟨by omega, fun _ => ⟨by omega, ?_⟩, fun _ => by omega⟩, fun _ => by omega⟩⟩, fun _ => by omega⟩, fun _ => by omega⟩
      refine W_copy k2 r_1 (by omega) (by omega) (by omega) (by omega) (by omega) (by omega) (by omega) ?_
      obtain ⟨M1, hM1⟩ : ∃ M, M = v2 (rw1 τ.1 (T + 11 + 4 * (τ.1 T 2).toNat + 1) (cpyF (τ.1 (T + 11 + 4 * (τ.1 T 2).toNat + 1)) (τ.1 (1 + 1)) 0 (τ.1 1 1))) (T + 11 + 4 * (τ.1 T 2).toNat) 1 (τ.1 1 1) := ⟨_, rfl⟩
      rw [← hM1]
      have e1 : M1 T 2 = τ.1 T 2 := by
        rw [hM1, v2_eq, if_neg (by omega), rw1_eq, if_neg (by omega)]
      have e2 : M1 3 1 = τ.1 3 1 := by
        rw [hM1, v2_eq, if_neg (by omega), rw1_eq, if_neg (by omega)]
      simp only [e1, l1, l2.1, Option.some.injEq, exists_eq_left', true_and]
      refine ⟨by omega, ?_⟩
      refine W_copy l2 r_3 (by omega) (by omega) (by omega) (by omega) ?_ ?_ ?_ ?_
      · dsimp only; omega
      · dsimp only; omega
      · dsimp only; omega
      dsimp only
      rw [e2]
      obtain ⟨M2, hM2⟩ : ∃ M, M = v2 (rw1 M1 (T + 13 + 4 * (τ.1 T 2).toNat + 1) (cpyF (M1 (T + 13 + 4 * (τ.1 T 2).toNat + 1)) (M1 (3 + 1)) 0 (τ.1 3 1))) (T + 13 + 4 * (τ.1 T 2).toNat) 1 (τ.1 3 1) := ⟨_, rfl⟩
      rw [← hM2]
      have e3 : M2 T 2 = τ.1 T 2 := by
        rw [hM2, v2_eq, if_neg (by omega), rw1_eq, if_neg (by omega), e1]
      rw [e3]
      refine ⟨by omega, by omega, ?_⟩
      obtain ⟨M5, hM5⟩ : ∃ M, M = v2 (v2 (v2 M2 T 2 (τ.1 T 2 + 1)) 1 1 0) 3 1 0 := ⟨_, rfl⟩
      rw [← hM5]
      have k5 : ∀ a j, 600 < a → M5 a j = τ.1 a j := fun a j h => by
        rw [hM5, v2_eq, if_neg (by omega), v2_eq, if_neg (by omega), v2_eq, if_neg (by omega), hM2, v2_eq, if_neg (by omega), rw1_eq, if_neg (by omega), hM1, v2_eq, if_neg (by omega), rw1_eq, if_neg (by omega)]
      simp only [Z12_rule_45, Z12_rule, Z12_isTongue, W_in, zp_0, zB_zp, g_0, g_1, g_2, g_3, g_4, g_5, g_327, g_328, g_329, g_330, g_331, g_332, g_333, g_334, g_335, g_336, g_337, g_338, g_339, g_340, g_341, g_342, g_343, g_464, g_465, g_466, g_484, g_485, g_486, g_487, g_488, g_489, g_490, g_491, g_492, g_493, g_494, g_495, g_496, g_497, g_498, g_499, g_500, g_501, g_562, g_563, g_564, g_565, g_566, g_567, g_568, g_574, g_580, g_581, g_582, g_583, g_584, g_585, g_586, g_587, g_588, g_589, g_590, g_591, g_592, g_600, g_601, g_602, g_603, g_604, g_605, g_606, g_607, g_608, g_609, g_610, g_611, g_612, g_613, g_614, g_615, g_616, g_617, g_618, g_619, g_620, g_621, g_622, g_623, g_624, g_625, g_626, g_627, g_628, g_629, g_630, g_631, g_632, g_633, g_634, g_635, g_636, g_637, g_638, g_639, g_640, g_641, g_642, g_643, g_644, g_645, g_646, g_647, g_648, g_649, g_650, g_651, g_652, g_653, g_654, g_655, g_656, g_657, g_658, g_659, g_660, g_661, g_662, g_0_0, g_0_1, g_0_2, g_0_3, g_0_4, g_0_5, g_0_6, g_0_7, g_0_8, g_0_9, g_0_10, g_0_11, g_1_0, g_3_0, g_327_0, g_327_1, g_327_2, g_327_3, g_328_0, g_330_0, g_332_0, g_334_0, g_336_0, g_336_1, g_336_2, g_336_3, g_337_0, g_339_0, g_341_0, g_464_0, g_464_1, g_484_0, g_484_1, g_484_2, g_485_0, g_487_0, g_489_0, g_491_0, g_491_1, g_491_2, g_491_3, g_491_4, g_491_5, g_491_6, g_491_7, g_496_0, g_498_0, g_500_0, g_500_1, g_500_3, g_500_4, g_500_5, g_500_6, g_500_7, g_562_0, g_564_0, g_566_0, g_580_0, g_580_1, g_580_2, g_580_3, g_581_0, g_583_0, g_585_0, g_588_1, g_588_2, g_588_3, g_588_4, g_588_6, g_601_0, g_601_1, g_601_2, g_601_3, g_601_4, g_601_5, g_601_6, g_601_7, g_601_8, g_608_0, g_610_0, g_612_0, g_612_2, g_612_4, g_612_5, g_612_7, g_612_8, g_612_9, g_612_10, g_612_11, g_612_12, g_612_13, g_612_14, g_612_15, g_612_16, g_612_19, g_612_20, g_612_22, g_612_24, g_612_25, g_612_26, g_612_27, g_612_28, g_612_30, g_612_31, g_612_32, g_612_33, g_612_34, g_612_36, g_612_37, g_612_38, g_612_39, g_612_40, g_612_41, g_612_42, g_612_43, g_612_44, g_612_46, g_612_47, g_612_48, g_612_49, g_612_50, g_612_53, g_612_56, g_612_57, g_612_58, g_612_59, g_612_61, g_612_62, g_612_63, g_612_64, Wz_rt, Wz_cnd, Wz_lI, Wz_lW, Wz_lL, Wz_cl, Wz_cv, Wz_nz, Wz_gI, Wz_gR, Wz_sI, Wz_aI, Wz_aZ, Wz_aL, Wz_aN, Wz_aR, Wz_tI, Wz_tZ, Wz_tL, Option.some.injEq, exists_eq_left', zB_0, zB_1, true_and, and_true, true_implies, not_true_eq_false, false_implies, not_false_eq_true, Classical.not_not, k5 612 _ (by decide), k5 621 _ (by decide), c]
      rw [a2, b2, j2]
      refine ⟨by omega, fun _ => by omega, fun _ => ⟨fun _ => by omega, fun _ => ⟨fun _ => by omega, fun _ => ⟨fun _ => ⟨by omega, by omega, ?_⟩, fun _ => by omega⟩⟩⟩⟩
      refine W12_rule_62 t _ (by omega) (by omega) NN 0 _ _ (by omega) ?_ ?_ ?_ ?_
      · dsimp only; rw [k5 612 _ (by decide)]; omega
      · dsimp only; rw [k5 612 _ (by decide)]; omega
      · dsimp only; rw [k5 612 _ (by decide)]; unfold NN; omega
      dsimp only
      rw [k5 612 _ (by decide), a2]
      obtain ⟨M6, hM6⟩ : ∃ M, M = rw1 M5 617 (cpS (M5 617) (M5 613) (4 * (24 * t + τ.1 T 2)) 0 (τ.1 1 1)) := ⟨_, rfl⟩
      rw [← hM6]
      have k6 : ∀ a j, 600 < a → a ≠ 617 → M6 a j = τ.1 a j := fun a j h h2 => by
        rw [hM6, rw1_eq, if_neg h2, k5 a j h]
      refine W12_rule_94 t _ (by omega) (by omega) (by omega) (by omega) NN 0 _ _ (by omega) ?_ ?_ ?_ ?_ ?_ ?_
      · dsimp only; rw [k6 612 _ (by decide) (by decide)]; omega
      · dsimp only; rw [k6 612 _ (by decide) (by decide)]; omega
      · dsimp only; rw [k6 621 _ (by decide) (by decide)]; omega
      · dsimp only; rw [k6 621 _ (by decide) (by decide)]; omega
      · dsimp only; rw [k6 612 _ (by decide) (by decide)]; unfold NN; omega
      dsimp only
      rw [k6 621 _ (by decide) (by decide), k6 612 _ (by decide) (by decide), k6 612 _ (by decide) (by decide), a2, b2, j2]
      refine ⟨by omega, ?_⟩
      have hF : v2 (v2 (v2 (v2 (v2 (rw1 M6 619 (cpS (M6 619) (M6 614) (3 * (24 * t + τ.1 T 2)) 0 (τ.1 3 1))) 618 (24 * t + τ.1 T 2) (τ.1 1 1)) 620 (24 * t + τ.1 T 2) (τ.1 3 1)) 612 1 0) 612 3 0) 621 t (τ.1 T 2 + 1) = ruleF τ.1 t (τ.1 T 2) (τ.1 1 1) (τ.1 3 1) T := by
        rw [hM6, hM5, hM2, hM1]; rfl
      rw [hF]
      have key := s_ruleF (f := τ.1) (t := t) (R := τ.1 T 2) (K := τ.1 1 1) (L := τ.1 3 1) (T := T) (by omega) (by omega) hT (by omega) (by omega) (by omega) (by omega)
      obtain ⟨f1, f2, f3, f4, f5, f6, f7, f8, f9, f10, f11, f12, f13, f14⟩ := s_ruleT (f := τ.1) (t := t) (R := τ.1 T 2) (K := τ.1 1 1) (L := τ.1 3 1) (T := T) (by omega) (by omega) hT (by omega) (by omega) (by omega) (by omega)
      clear hF hM1 hM2 hM5 hM6 k5 k6 e1 e2 e3
      generalize hF : ruleF τ.1 t (τ.1 T 2) (τ.1 1 1) (τ.1 3 1) T = F at *
      refine Inv.toP (p := fun m => m = 1 ∨ m = 2 ∨ m = 3) (τ' := (F, τ.2)) ?_ hI ?_ ?_ ?_ (by omega) (by omega) (by omega) (by omega) (by omega) (by omega) (by omega) (by omega)
      · rw [← hF]; unfold ruleF
        repeat (first | exact agp_z | refine agp_w ?_ (by first | exact Or.inl (Or.inl rfl) | exact Or.inl (Or.inr (Or.inl rfl)) | exact Or.inl (Or.inr (Or.inr rfl)) | exact Or.inl (Or.inr (Or.inr (md_3 (by omega))))) | refine agp_wr ?_ (fun i => Or.inl (Or.inr (Or.inr (md_3 (by omega))))))
      · intro _
        unfold I1
        dsimp only
        rw [f11, f13]
        exact ⟨by omega, rfl, fun j h0 h1 => by omega⟩
      · intro _
        unfold I2
        dsimp only
        rw [f12, f14]
        exact ⟨by omega, rfl, fun j h0 h1 => by omega⟩
      · intro _
        refine I3_rule (R := τ.1 T 2) (K := τ.1 1 1) (L := τ.1 3 1) (t := t) i3 (by omega) (by omega) hT rfl (by omega) (by omega) (by omega) ?_ f1 f2 ?_ ?_
        · intro a j h1 h2 h3 h4 h5 h6 h7 h8 h9 h10 h11 h12 h13
          exact key a j h1 h2 h3 h4 h5 h6 h7 h8 h9 h10 (fun q => by omega) (fun q => by omega)
        · unfold eqR
          dsimp only
          rw [f5, f3]
          refine ⟨by omega, rfl, fun j h0 h1 => ?_⟩
          rw [f7 j h0 h1, f9 j h0 h1]
          exact a3 j h0 h1
        · unfold eqR
          dsimp only
          rw [f6, f4]
          refine ⟨by omega, rfl, fun j h0 h1 => ?_⟩
          rw [f8 j h0 h1, f10 j h0 h1]
          exact b3 j h0 h1
    · simp only [Z11_rule, Z11_rule_55, Z11_rule, W8_full q2, Z12_rule_45, Z12_rule, Z11_isKey, Z11_isLetter, Z11_isTongue, Z11_isHand, Z11_isDay, Z12_isKey, Z12_isLetter, Z12_isTongue, Z12_isHand, Z12_areTongues, Z12_isWord, Z12_isSymbol, W_within, W_in, zp_0, zB_zp, W_size r_1, W_isEmpty r_1, W_isFull r_1, W_has r_1, W_clear r_1, W_size r_3, W_isEmpty r_3, W_isFull r_3, W_has r_3, W_clear r_3, W_size r_328, W_isEmpty r_328, W_isFull r_328, W_has r_328, W_clear r_328, W_size r_330, W_isEmpty r_330, W_isFull r_330, W_has r_330, W_clear r_330, W_size r_332, W_isEmpty r_332, W_isFull r_332, W_has r_332, W_clear r_332, W_size r_334, W_isEmpty r_334, W_isFull r_334, W_has r_334, W_clear r_334, W_size r_337, W_isEmpty r_337, W_isFull r_337, W_has r_337, W_clear r_337, W_size r_339, W_isEmpty r_339, W_isFull r_339, W_has r_339, W_clear r_339, W_size r_341, W_isEmpty r_341, W_isFull r_341, W_has r_341, W_clear r_341, W_size r_485, W_isEmpty r_485, W_isFull r_485, W_has r_485, W_clear r_485, W_size r_487, W_isEmpty r_487, W_isFull r_487, W_has r_487, W_clear r_487, W_size r_489, W_isEmpty r_489, W_isFull r_489, W_has r_489, W_clear r_489, W_size r_496, W_isEmpty r_496, W_isFull r_496, W_has r_496, W_clear r_496, W_size r_498, W_isEmpty r_498, W_isFull r_498, W_has r_498, W_clear r_498, W_size r_562, W_isEmpty r_562, W_isFull r_562, W_has r_562, W_clear r_562, W_size r_564, W_isEmpty r_564, W_isFull r_564, W_has r_564, W_clear r_564, W_size r_566, W_isEmpty r_566, W_isFull r_566, W_has r_566, W_clear r_566, W_size r_581, W_isEmpty r_581, W_isFull r_581, W_has r_581, W_clear r_581, W_size r_583, W_isEmpty r_583, W_isFull r_583, W_has r_583, W_clear r_583, W_size r_585, W_isEmpty r_585, W_isFull r_585, W_has r_585, W_clear r_585, W_size r_608, W_isEmpty r_608, W_isFull r_608, W_has r_608, W_clear r_608, W_size r_610, W_isEmpty r_610, W_isFull r_610, W_has r_610, W_clear r_610, Wz_rt, Wz_cnd, Wz_lI, Wz_lW, Wz_lL, Wz_cl, Wz_cv, Wz_nz, Wz_gI, Wz_gR, Wz_sI, Wz_aI, Wz_aZ, Wz_aL, Wz_aN, Wz_aR, Wz_tI, Wz_tZ, Wz_tL, Option.some.injEq, exists_eq_left', zB_0, zB_1, true_and, and_true, true_implies, not_true_eq_false, false_implies, not_false_eq_true, Classical.not_not, g_0, g_1, g_2, g_3, g_4, g_5, g_327, g_328, g_329, g_330, g_331, g_332, g_333, g_334, g_335, g_336, g_337, g_338, g_339, g_340, g_341, g_342, g_343, g_464, g_465, g_466, g_484, g_485, g_486, g_487, g_488, g_489, g_490, g_491, g_492, g_493, g_494, g_495, g_496, g_497, g_498, g_499, g_500, g_501, g_562, g_563, g_564, g_565, g_566, g_567, g_568, g_574, g_580, g_581, g_582, g_583, g_584, g_585, g_586, g_587, g_588, g_589, g_590, g_591, g_592, g_600, g_601, g_602, g_603, g_604, g_605, g_606, g_607, g_608, g_609, g_610, g_611, g_612, g_613, g_614, g_615, g_616, g_617, g_618, g_619, g_620, g_621, g_622, g_623, g_624, g_625, g_626, g_627, g_628, g_629, g_630, g_631, g_632, g_633, g_634, g_635, g_636, g_637, g_638, g_639, g_640, g_641, g_642, g_643, g_644, g_645, g_646, g_647, g_648, g_649, g_650, g_651, g_652, g_653, g_654, g_655, g_656, g_657, g_658, g_659, g_660, g_661, g_662, g_0_0, g_0_1, g_0_2, g_0_3, g_0_4, g_0_5, g_0_6, g_0_7, g_0_8, g_0_9, g_0_10, g_0_11, g_1_0, g_3_0, g_327_0, g_327_1, g_327_2, g_327_3, g_328_0, g_330_0, g_332_0, g_334_0, g_336_0, g_336_1, g_336_2, g_336_3, g_337_0, g_339_0, g_341_0, g_464_0, g_464_1, g_484_0, g_484_1, g_484_2, g_485_0, g_487_0, g_489_0, g_491_0, g_491_1, g_491_2, g_491_3, g_491_4, g_491_5, g_491_6, g_491_7, g_496_0, g_498_0, g_500_0, g_500_1, g_500_3, g_500_4, g_500_5, g_500_6, g_500_7, g_562_0, g_564_0, g_566_0, g_580_0, g_580_1, g_580_2, g_580_3, g_581_0, g_583_0, g_585_0, g_588_1, g_588_2, g_588_3, g_588_4, g_588_6, g_601_0, g_601_1, g_601_2, g_601_3, g_601_4, g_601_5, g_601_6, g_601_7, g_601_8, g_608_0, g_610_0, g_612_0, g_612_2, g_612_4, g_612_5, g_612_7, g_612_8, g_612_9, g_612_10, g_612_11, g_612_12, g_612_13, g_612_14, g_612_15, g_612_16, g_612_19, g_612_20, g_612_22, g_612_24, g_612_25, g_612_26, g_612_27, g_612_28, g_612_30, g_612_31, g_612_32, g_612_33, g_612_34, g_612_36, g_612_37, g_612_38, g_612_39, g_612_40, g_612_41, g_612_42, g_612_43, g_612_44, g_612_46, g_612_47, g_612_48, g_612_49, g_612_50, g_612_53, g_612_56, g_612_57, g_612_58, g_612_59, g_612_61, g_612_62, g_612_63, g_612_64, addF, v2, rw1, Nat.reduceEqDiff, Nat.reduceAdd, Int.reduceEq, Int.reduceNeg, reduceIte, false_and, and_false, true_and, and_true, and_self, q1, gT q2]
      (repeat' (first | with_reducible (refine And.intro ?_ ?_) | intro _)) <;> first | exact hI | omega
  · simp only [Z11_rule_55, Z11_rule, Z12_rule_45, Z12_rule, Z11_isKey, Z11_isLetter, Z11_isTongue, Z11_isHand, Z11_isDay, Z12_isKey, Z12_isLetter, Z12_isTongue, Z12_isHand, Z12_areTongues, Z12_isWord, Z12_isSymbol, W_within, W_in, zp_0, zB_zp, W_size r_1, W_isEmpty r_1, W_isFull r_1, W_has r_1, W_clear r_1, W_size r_3, W_isEmpty r_3, W_isFull r_3, W_has r_3, W_clear r_3, W_size r_328, W_isEmpty r_328, W_isFull r_328, W_has r_328, W_clear r_328, W_size r_330, W_isEmpty r_330, W_isFull r_330, W_has r_330, W_clear r_330, W_size r_332, W_isEmpty r_332, W_isFull r_332, W_has r_332, W_clear r_332, W_size r_334, W_isEmpty r_334, W_isFull r_334, W_has r_334, W_clear r_334, W_size r_337, W_isEmpty r_337, W_isFull r_337, W_has r_337, W_clear r_337, W_size r_339, W_isEmpty r_339, W_isFull r_339, W_has r_339, W_clear r_339, W_size r_341, W_isEmpty r_341, W_isFull r_341, W_has r_341, W_clear r_341, W_size r_485, W_isEmpty r_485, W_isFull r_485, W_has r_485, W_clear r_485, W_size r_487, W_isEmpty r_487, W_isFull r_487, W_has r_487, W_clear r_487, W_size r_489, W_isEmpty r_489, W_isFull r_489, W_has r_489, W_clear r_489, W_size r_496, W_isEmpty r_496, W_isFull r_496, W_has r_496, W_clear r_496, W_size r_498, W_isEmpty r_498, W_isFull r_498, W_has r_498, W_clear r_498, W_size r_562, W_isEmpty r_562, W_isFull r_562, W_has r_562, W_clear r_562, W_size r_564, W_isEmpty r_564, W_isFull r_564, W_has r_564, W_clear r_564, W_size r_566, W_isEmpty r_566, W_isFull r_566, W_has r_566, W_clear r_566, W_size r_581, W_isEmpty r_581, W_isFull r_581, W_has r_581, W_clear r_581, W_size r_583, W_isEmpty r_583, W_isFull r_583, W_has r_583, W_clear r_583, W_size r_585, W_isEmpty r_585, W_isFull r_585, W_has r_585, W_clear r_585, W_size r_608, W_isEmpty r_608, W_isFull r_608, W_has r_608, W_clear r_608, W_size r_610, W_isEmpty r_610, W_isFull r_610, W_has r_610, W_clear r_610, Wz_rt, Wz_cnd, Wz_lI, Wz_lW, Wz_lL, Wz_cl, Wz_cv, Wz_nz, Wz_gI, Wz_gR, Wz_sI, Wz_aI, Wz_aZ, Wz_aL, Wz_aN, Wz_aR, Wz_tI, Wz_tZ, Wz_tL, Option.some.injEq, exists_eq_left', zB_0, zB_1, true_and, and_true, true_implies, not_true_eq_false, false_implies, not_false_eq_true, Classical.not_not, g_0, g_1, g_2, g_3, g_4, g_5, g_327, g_328, g_329, g_330, g_331, g_332, g_333, g_334, g_335, g_336, g_337, g_338, g_339, g_340, g_341, g_342, g_343, g_464, g_465, g_466, g_484, g_485, g_486, g_487, g_488, g_489, g_490, g_491, g_492, g_493, g_494, g_495, g_496, g_497, g_498, g_499, g_500, g_501, g_562, g_563, g_564, g_565, g_566, g_567, g_568, g_574, g_580, g_581, g_582, g_583, g_584, g_585, g_586, g_587, g_588, g_589, g_590, g_591, g_592, g_600, g_601, g_602, g_603, g_604, g_605, g_606, g_607, g_608, g_609, g_610, g_611, g_612, g_613, g_614, g_615, g_616, g_617, g_618, g_619, g_620, g_621, g_622, g_623, g_624, g_625, g_626, g_627, g_628, g_629, g_630, g_631, g_632, g_633, g_634, g_635, g_636, g_637, g_638, g_639, g_640, g_641, g_642, g_643, g_644, g_645, g_646, g_647, g_648, g_649, g_650, g_651, g_652, g_653, g_654, g_655, g_656, g_657, g_658, g_659, g_660, g_661, g_662, g_0_0, g_0_1, g_0_2, g_0_3, g_0_4, g_0_5, g_0_6, g_0_7, g_0_8, g_0_9, g_0_10, g_0_11, g_1_0, g_3_0, g_327_0, g_327_1, g_327_2, g_327_3, g_328_0, g_330_0, g_332_0, g_334_0, g_336_0, g_336_1, g_336_2, g_336_3, g_337_0, g_339_0, g_341_0, g_464_0, g_464_1, g_484_0, g_484_1, g_484_2, g_485_0, g_487_0, g_489_0, g_491_0, g_491_1, g_491_2, g_491_3, g_491_4, g_491_5, g_491_6, g_491_7, g_496_0, g_498_0, g_500_0, g_500_1, g_500_3, g_500_4, g_500_5, g_500_6, g_500_7, g_562_0, g_564_0, g_566_0, g_580_0, g_580_1, g_580_2, g_580_3, g_581_0, g_583_0, g_585_0, g_588_1, g_588_2, g_588_3, g_588_4, g_588_6, g_601_0, g_601_1, g_601_2, g_601_3, g_601_4, g_601_5, g_601_6, g_601_7, g_601_8, g_608_0, g_610_0, g_612_0, g_612_2, g_612_4, g_612_5, g_612_7, g_612_8, g_612_9, g_612_10, g_612_11, g_612_12, g_612_13, g_612_14, g_612_15, g_612_16, g_612_19, g_612_20, g_612_22, g_612_24, g_612_25, g_612_26, g_612_27, g_612_28, g_612_30, g_612_31, g_612_32, g_612_33, g_612_34, g_612_36, g_612_37, g_612_38, g_612_39, g_612_40, g_612_41, g_612_42, g_612_43, g_612_44, g_612_46, g_612_47, g_612_48, g_612_49, g_612_50, g_612_53, g_612_56, g_612_57, g_612_58, g_612_59, g_612_61, g_612_62, g_612_63, g_612_64, addF, v2, rw1, Nat.reduceEqDiff, Nat.reduceAdd, Int.reduceEq, Int.reduceNeg, reduceIte, false_and, and_false, true_and, and_true, and_self]
    (repeat' (first | with_reducible (refine And.intro ?_ ?_) | intro _)) <;> first | exact hI | omega
