/-! word, symbols, learn -/
set_option maxRecDepth 100000 in
theorem W12_word_113 : ∀ (n : Nat) (j : Int) (τ : kzM) (Q : Int → kzM → Prop), 0 ≤ j → j ≤ τ.1 612 1 → τ.1 612 1 ≤ 8 → 0 ≤ τ.1 612 29 → τ.1 612 29 < 60 → τ.1 612 1 - j < (n : Int) → Q (τ.1 612 29) (v2 (v2 (rw1 τ.1 634 (cpS (τ.1 634) (τ.1 613) (8 * τ.1 612 29) j (τ.1 612 1))) 612 1 0) 612 29 (τ.1 612 29 + 1), τ.2) → Wz (lp (fun _ _ _ => none) (Z12_word_113B kdG0) n 612 j) τ Q := by
  intro n
  induction n with
  | zero => intro j τ Q h0 h1 h2 h3 h4 h5; omega
  | succ n ih =>
    intro j τ Q h0 h1 h2 h3 h4 h5 hQ
    rw [lp_succ]
    unfold Z12_word_113B
    simp only [Z11_isKey, Z11_isLetter, Z11_isTongue, Z11_isHand, Z11_isDay, Z12_isKey, Z12_isLetter, Z12_isTongue, Z12_isHand, Z12_areTongues, Z12_isWord, Z12_isSymbol, W_within, W_in, zp_0, zB_zp, W_size r_1, W_isEmpty r_1, W_isFull r_1, W_has r_1, W_clear r_1, W_size r_3, W_isEmpty r_3, W_isFull r_3, W_has r_3, W_clear r_3, W_size r_328, W_isEmpty r_328, W_isFull r_328, W_has r_328, W_clear r_328, W_size r_330, W_isEmpty r_330, W_isFull r_330, W_has r_330, W_clear r_330, W_size r_332, W_isEmpty r_332, W_isFull r_332, W_has r_332, W_clear r_332, W_size r_334, W_isEmpty r_334, W_isFull r_334, W_has r_334, W_clear r_334, W_size r_337, W_isEmpty r_337, W_isFull r_337, W_has r_337, W_clear r_337, W_size r_339, W_isEmpty r_339, W_isFull r_339, W_has r_339, W_clear r_339, W_size r_341, W_isEmpty r_341, W_isFull r_341, W_has r_341, W_clear r_341, W_size r_485, W_isEmpty r_485, W_isFull r_485, W_has r_485, W_clear r_485, W_size r_487, W_isEmpty r_487, W_isFull r_487, W_has r_487, W_clear r_487, W_size r_489, W_isEmpty r_489, W_isFull r_489, W_has r_489, W_clear r_489, W_size r_496, W_isEmpty r_496, W_isFull r_496, W_has r_496, W_clear r_496, W_size r_498, W_isEmpty r_498, W_isFull r_498, W_has r_498, W_clear r_498, W_size r_562, W_isEmpty r_562, W_isFull r_562, W_has r_562, W_clear r_562, W_size r_564, W_isEmpty r_564, W_isFull r_564, W_has r_564, W_clear r_564, W_size r_566, W_isEmpty r_566, W_isFull r_566, W_has r_566, W_clear r_566, W_size r_581, W_isEmpty r_581, W_isFull r_581, W_has r_581, W_clear r_581, W_size r_583, W_isEmpty r_583, W_isFull r_583, W_has r_583, W_clear r_583, W_size r_585, W_isEmpty r_585, W_isFull r_585, W_has r_585, W_clear r_585, W_size r_608, W_isEmpty r_608, W_isFull r_608, W_has r_608, W_clear r_608, W_size r_610, W_isEmpty r_610, W_isFull r_610, W_has r_610, W_clear r_610, Wz_rt, Wz_cnd, Wz_lI, Wz_lW, Wz_lL, Wz_cl, Wz_cv, Wz_nz, Wz_gI, Wz_gR, Wz_sI, Wz_aI, Wz_aZ, Wz_aL, Wz_aN, Wz_aR, Wz_tI, Wz_tZ, Wz_tL, Option.some.injEq, exists_eq_left', zB_0, zB_1, true_and, and_true, true_implies, not_true_eq_false, false_implies, not_false_eq_true, Classical.not_not, g_0, g_1, g_2, g_3, g_4, g_5, g_327, g_328, g_329, g_330, g_331, g_332, g_333, g_334, g_335, g_336, g_337, g_338, g_339, g_340, g_341, g_342, g_343, g_464, g_465, g_466, g_484, g_485, g_486, g_487, g_488, g_489, g_490, g_491, g_492, g_493, g_494, g_495, g_496, g_497, g_498, g_499, g_500, g_501, g_562, g_563, g_564, g_565, g_566, g_567, g_568, g_574, g_580, g_581, g_582, g_583, g_584, g_585, g_586, g_587, g_588, g_589, g_590, g_591, g_592, g_600, g_601, g_602, g_603, g_604, g_605, g_606, g_607, g_608, g_609, g_610, g_611, g_612, g_613, g_614, g_615, g_616, g_617, g_618, g_619, g_620, g_621, g_622, g_623, g_624, g_625, g_626, g_627, g_628, g_629, g_630, g_631, g_632, g_633, g_634, g_635, g_636, g_637, g_638, g_639, g_640, g_641, g_642, g_643, g_644, g_645, g_646, g_647, g_648, g_649, g_650, g_651, g_652, g_653, g_654, g_655, g_656, g_657, g_658, g_659, g_660, g_661, g_662, g_0_0, g_0_1, g_0_2, g_0_3, g_0_4, g_0_5, g_0_6, g_0_7, g_0_8, g_0_9, g_0_10, g_0_11, g_1_0, g_3_0, g_327_0, g_327_1, g_327_2, g_327_3, g_328_0, g_330_0, g_332_0, g_334_0, g_336_0, g_336_1, g_336_2, g_336_3, g_337_0, g_339_0, g_341_0, g_464_0, g_464_1, g_484_0, g_484_1, g_484_2, g_485_0, g_487_0, g_489_0, g_491_0, g_491_1, g_491_2, g_491_3, g_491_4, g_491_5, g_491_6, g_491_7, g_496_0, g_498_0, g_500_0, g_500_1, g_500_3, g_500_4, g_500_5, g_500_6, g_500_7, g_562_0, g_564_0, g_566_0, g_580_0, g_580_1, g_580_2, g_580_3, g_581_0, g_583_0, g_585_0, g_588_1, g_588_2, g_588_3, g_588_4, g_588_6, g_601_0, g_601_1, g_601_2, g_601_3, g_601_4, g_601_5, g_601_6, g_601_7, g_601_8, g_608_0, g_610_0, g_612_0, g_612_2, g_612_4, g_612_5, g_612_7, g_612_8, g_612_9, g_612_10, g_612_11, g_612_12, g_612_13, g_612_14, g_612_15, g_612_16, g_612_19, g_612_20, g_612_22, g_612_24, g_612_25, g_612_26, g_612_27, g_612_28, g_612_30, g_612_31, g_612_32, g_612_33, g_612_34, g_612_36, g_612_37, g_612_38, g_612_39, g_612_40, g_612_41, g_612_42, g_612_43, g_612_44, g_612_46, g_612_47, g_612_48, g_612_49, g_612_50, g_612_53, g_612_56, g_612_57, g_612_58, g_612_59, g_612_61, g_612_62, g_612_63, g_612_64, addF, v2, rw1, Nat.reduceEqDiff, Nat.reduceAdd, Int.reduceEq, Int.reduceNeg, reduceIte, false_and, and_false, true_and, and_true, and_self]
    refine ⟨fun e => ?_, fun e => ?_⟩
    · have e : j = τ.1 612 1 := by omega
      subst e
      have q : rw1 τ.1 634 (cpS (τ.1 634) (τ.1 613) (8 * τ.1 612 29) (τ.1 612 1) (τ.1 612 1)) = τ.1 := by
        funext b x
        simp only [rw1, cpS]
        (repeat' split) <;> first | rfl | omega | (subst_vars; rfl)
      rw [q] at hQ
      refine ⟨by omega, by omega, ?_⟩
      rw [show τ.1 612 29 + 1 - 1 = τ.1 612 29 by omega]
      exact hQ
    · have s1 : v2 τ.1 634 (8 * τ.1 612 29 + j) (τ.1 613 j) 612 1 = τ.1 612 1 := v2_ne _ _ _ _ (by decide)
      have s2 : v2 τ.1 634 (8 * τ.1 612 29 + j) (τ.1 613 j) 612 29 = τ.1 612 29 := v2_ne _ _ _ _ (by decide)
      refine ⟨by omega, by omega, by omega, ih _ _ _ (by omega) (by dsimp only; omega) (by dsimp only; omega) (by dsimp only; omega) (by dsimp only; omega) (by dsimp only; omega) ?_⟩
      dsimp only
      rw [s1, s2, v2_row _ _ _ (show (613 : Nat) ≠ 634 by decide)]
      have q : rw1 (v2 τ.1 634 (8 * τ.1 612 29 + j) (τ.1 613 j)) 634 (cpS (v2 τ.1 634 (8 * τ.1 612 29 + j) (τ.1 613 j) 634) (τ.1 613) (8 * τ.1 612 29) (j + 1) (τ.1 612 1)) = rw1 τ.1 634 (cpS (τ.1 634) (τ.1 613) (8 * τ.1 612 29) j (τ.1 612 1)) := by
        funext b x
        simp only [rw1, cpS, v2]
        clear hQ ih
        grind
      rw [q]; exact hQ
/-- what word leaves behind -/
def wordF (f : Nat → Int → Int) (n K t s k : Int) : Nat → Int → Int :=
  let M1 := v2 (rw1 f (344 + 2 * n.toNat + 1) (cpyF (f (344 + 2 * n.toNat + 1)) (f 2) 0 K)) (344 + 2 * n.toNat) 1 K
  let M5 := v2 (addF (addF (addF M1 337 t) 339 s) 341 k) 1 1 0
  let M9 := v2 (v2 (v2 (v2 M5 630 n t) 631 n s) 632 n k) 633 n K
  v2 (v2 (rw1 M9 634 (cpS (M9 634) (M9 613) (8 * n) 0 K)) 612 1 0) 612 29 (n + 1)
set_option maxRecDepth 100000 in
theorem s_wordF {f : Nat → Int → Int} {n K t s k : Int} (h0 : 0 ≤ n) (h1 : n < 60) (hK : 1 ≤ K ∧ K ≤ 8) (e1 : f 337 1 = n) (e2 : f 339 1 = n) (e3 : f 341 1 = n) :
    wordF f n K t s k 337 1 = n + 1 ∧ wordF f n K t s k 339 1 = n + 1 ∧ wordF f n K t s k 341 1 = n + 1 ∧ wordF f n K t s k 612 29 = n + 1 ∧ wordF f n K t s k 1 1 = 0 ∧ wordF f n K t s k 612 1 = 0 ∧
    (∀ x, wordF f n K t s k 338 x = if x = n then t else f 338 x) ∧ (∀ x, wordF f n K t s k 340 x = if x = n then s else f 340 x) ∧ (∀ x, wordF f n K t s k 342 x = if x = n then k else f 342 x) ∧
    (∀ x, wordF f n K t s k 630 x = if x = n then t else f 630 x) ∧ (∀ x, wordF f n K t s k 631 x = if x = n then s else f 631 x) ∧ (∀ x, wordF f n K t s k 632 x = if x = n then k else f 632 x) ∧ (∀ x, wordF f n K t s k 633 x = if x = n then K else f 633 x) ∧
    (wordF f n K t s k (344 + 2 * n.toNat) 1 = K) ∧ (∀ j, 0 ≤ j → j < K → wordF f n K t s k (344 + 2 * n.toNat + 1) j = f 2 j) ∧ (∀ a j, 344 ≤ a → a ≤ 463 → a ≠ 344 + 2 * n.toNat → a ≠ 344 + 2 * n.toNat + 1 → wordF f n K t s k a j = f a j) ∧
    (∀ x, wordF f n K t s k 634 x = if 8 * n ≤ x ∧ x < 8 * n + K then f 613 (x - 8 * n) else f 634 x) := by
  have m1 : ∀ a j, a ≠ 344 + 2 * n.toNat → a ≠ 344 + 2 * n.toNat + 1 → v2 (rw1 f (344 + 2 * n.toNat + 1) (cpyF (f (344 + 2 * n.toNat + 1)) (f 2) 0 K)) (344 + 2 * n.toNat) 1 K a j = f a j := fun a j h2 h3 => by rw [v2_eq, if_neg (by omega), rw1_eq, if_neg (by omega)]
  have m2 : v2 (rw1 f (344 + 2 * n.toNat + 1) (cpyF (f (344 + 2 * n.toNat + 1)) (f 2) 0 K)) (344 + 2 * n.toNat) 1 K (344 + 2 * n.toNat) 1 = K := v2_self ..
  have m3 : ∀ j, 0 ≤ j → j < K → v2 (rw1 f (344 + 2 * n.toNat + 1) (cpyF (f (344 + 2 * n.toNat + 1)) (f 2) 0 K)) (344 + 2 * n.toNat) 1 K (344 + 2 * n.toNat + 1) j = f 2 j := fun j h2 h3 => by
    rw [v2_eq, if_neg (by omega), rw1_eq, if_pos rfl]; unfold cpyF; rw [if_pos ⟨h2, h3⟩]
  unfold wordF
  generalize v2 (rw1 f (344 + 2 * n.toNat + 1) (cpyF (f (344 + 2 * n.toNat + 1)) (f 2) 0 K)) (344 + 2 * n.toNat) 1 K = M1 at m1 m2 m3 ⊢
  have p1 := m1 337 1 (by omega) (by omega)
  have p2 := m1 339 1 (by omega) (by omega)
  have p3 := m1 341 1 (by omega) (by omega)
  have p4 := fun x => m1 338 x (by omega) (by omega)
  have p5 := fun x => m1 340 x (by omega) (by omega)
  have p6 := fun x => m1 342 x (by omega) (by omega)
  have p7 := fun x => m1 630 x (by omega) (by omega)
  have p8 := fun x => m1 631 x (by omega) (by omega)
  have p9 := fun x => m1 632 x (by omega) (by omega)
  have p10 := fun x => m1 633 x (by omega) (by omega)
  have p11 := fun x => m1 634 x (by omega) (by omega)
  have p12 := fun x => m1 613 x (by omega) (by omega)
  simp only [cpS, addF, v2, rw1, Nat.reduceEqDiff, Nat.reduceAdd, Int.reduceEq, Int.reduceNeg, reduceIte, false_and, and_false, true_and, and_true, and_self, p1, p2, p3, p4, p5, p6, p7, p8, p9, p10, p11, p12, e1, e2, e3]
  (repeat' (first | with_reducible (refine And.intro ?_ ?_) | intro _)) <;> first | with_reducible trivial | (rw [Int.add_zero]; done) | ((repeat rw [if_neg (by omega)]); first | exact m2 | (apply m3 <;> assumption) | (apply m1 <;> assumption))
set_option maxRecDepth 100000 in
theorem m_word (t s k : Int) (_ : kzI t) (_ : kzI s) (_ : kzI k) : MOK (Z11_word kdG0 0 t s k) (Z12_word kdG0 612 t s k) := by
  intro τ hI
  have i1 := hI.1
  have i5 := hI.2.2.2.2.1
  unfold I1 at i1
  unfold I5 at i5
  obtain ⟨a1, a2, a3⟩ := i1
  obtain ⟨b1, b2, b3, b4, b5⟩ := i5
  by_cases c : (0 ≤ t ∧ t ≤ 2) ∧ (1 ≤ s ∧ s ≤ 999) ∧ (1 ≤ k ∧ k ≤ 100) ∧ τ.1 337 1 < 60 ∧ 1 ≤ τ.1 1 1 ∧ τ.1 1 1 ≤ 8
  · obtain ⟨c1, c2, c3, c4, c5, c6⟩ := c
    obtain ⟨q1, q2⟩ := g_wd (i := τ.1 337 1) (by omega) (by omega)
    simp only [Z11_word_30, Z11_word_68, Z11_word, W10_isFull, Z10_addWord, W10_size, zp_0, zB_zp, Z11_isTongue, W_within, Wz_rt, Wz_cnd, Wz_lI, Wz_lW, Wz_lL, Wz_cl, Wz_cv, Wz_nz, Wz_gI, Wz_gR, Wz_sI, Wz_aI, Wz_aZ, Wz_aL, Wz_aN, Wz_aR, Wz_tI, Wz_tZ, Wz_tL, Option.some.injEq, exists_eq_left', zB_0, zB_1, true_and, and_true, true_implies, not_true_eq_false, false_implies, not_false_eq_true, Classical.not_not, g_0, g_1, g_2, g_3, g_4, g_5, g_327, g_328, g_329, g_330, g_331, g_332, g_333, g_334, g_335, g_336, g_337, g_338, g_339, g_340, g_341, g_342, g_343, g_464, g_465, g_466, g_484, g_485, g_486, g_487, g_488, g_489, g_490, g_491, g_492, g_493, g_494, g_495, g_496, g_497, g_498, g_499, g_500, g_501, g_562, g_563, g_564, g_565, g_566, g_567, g_568, g_574, g_580, g_581, g_582, g_583, g_584, g_585, g_586, g_587, g_588, g_589, g_590, g_591, g_592, g_600, g_601, g_602, g_603, g_604, g_605, g_606, g_607, g_608, g_609, g_610, g_611, g_612, g_613, g_614, g_615, g_616, g_617, g_618, g_619, g_620, g_621, g_622, g_623, g_624, g_625, g_626, g_627, g_628, g_629, g_630, g_631, g_632, g_633, g_634, g_635, g_636, g_637, g_638, g_639, g_640, g_641, g_642, g_643, g_644, g_645, g_646, g_647, g_648, g_649, g_650, g_651, g_652, g_653, g_654, g_655, g_656, g_657, g_658, g_659, g_660, g_661, g_662, g_0_0, g_0_1, g_0_2, g_0_3, g_0_4, g_0_5, g_0_6, g_0_7, g_0_8, g_0_9, g_0_10, g_0_11, g_1_0, g_3_0, g_327_0, g_327_1, g_327_2, g_327_3, g_328_0, g_330_0, g_332_0, g_334_0, g_336_0, g_336_1, g_336_2, g_336_3, g_337_0, g_339_0, g_341_0, g_464_0, g_464_1, g_484_0, g_484_1, g_484_2, g_485_0, g_487_0, g_489_0, g_491_0, g_491_1, g_491_2, g_491_3, g_491_4, g_491_5, g_491_6, g_491_7, g_496_0, g_498_0, g_500_0, g_500_1, g_500_3, g_500_4, g_500_5, g_500_6, g_500_7, g_562_0, g_564_0, g_566_0, g_580_0, g_580_1, g_580_2, g_580_3, g_581_0, g_583_0, g_585_0, g_588_1, g_588_2, g_588_3, g_588_4, g_588_6, g_601_0, g_601_1, g_601_2, g_601_3, g_601_4, g_601_5, g_601_6, g_601_7, g_601_8, g_608_0, g_610_0, g_612_0, g_612_2, g_612_4, g_612_5, g_612_7, g_612_8, g_612_9, g_612_10, g_612_11, g_612_12, g_612_13, g_612_14, g_612_15, g_612_16, g_612_19, g_612_20, g_612_22, g_612_24, g_612_25, g_612_26, g_612_27, g_612_28, g_612_30, g_612_31, g_612_32, g_612_33, g_612_34, g_612_36, g_612_37, g_612_38, g_612_39, g_612_40, g_612_41, g_612_42, g_612_43, g_612_44, g_612_46, g_612_47, g_612_48, g_612_49, g_612_50, g_612_53, g_612_56, g_612_57, g_612_58, g_612_59, g_612_61, g_612_62, g_612_63, g_612_64, W_isEmpty r_1, W_size r_1, W_clear r_1, q1, q2.1, c1, c2, c3]
    refine ⟨fun _ => ⟨fun _ => ⟨fun _ => ⟨fun _ => ⟨⟨by omega, by omega⟩, ?_⟩, fun z => by omega⟩, fun z => by omega⟩, fun z => by omega⟩, fun z => by omega⟩
    refine W_copy q2 r_1 (by omega) (by omega) (by omega) (by omega) (by omega) (by omega) (by omega) ?_
    obtain ⟨M1, hM1⟩ : ∃ M, M = v2 (rw1 τ.1 (344 + 2 * (τ.1 337 1).toNat + 1) (cpyF (τ.1 (344 + 2 * (τ.1 337 1).toNat + 1)) (τ.1 (1 + 1)) 0 (τ.1 1 1))) (344 + 2 * (τ.1 337 1).toNat) 1 (τ.1 1 1) := ⟨_, rfl⟩
    rw [← hM1]
    have k1 : ∀ a j, a ≠ 344 + 2 * (τ.1 337 1).toNat → a ≠ 344 + 2 * (τ.1 337 1).toNat + 1 → M1 a j = τ.1 a j := fun a j h h' => by
      rw [hM1, v2_eq, if_neg (by omega), rw1_eq, if_neg (by omega)]
    have p1 := k1 337 1 (by omega) (by omega)
    have p2 := k1 339 1 (by omega) (by omega)
    have p3 := k1 341 1 (by omega) (by omega)
    refine W_add r_337 (by dsimp only; omega) (by dsimp only; omega) (by omega) ?_
    refine W_add r_339 (by simp only [addF, v2, rw1, Nat.reduceEqDiff, Nat.reduceAdd, Int.reduceEq, Int.reduceNeg, reduceIte, false_and, and_false, true_and, and_true, and_self]; omega) (by simp only [addF, v2, rw1, Nat.reduceEqDiff, Nat.reduceAdd, Int.reduceEq, Int.reduceNeg, reduceIte, false_and, and_false, true_and, and_true, and_self]; omega) (by omega) ?_
    refine W_add r_341 (by simp only [addF, v2, rw1, Nat.reduceEqDiff, Nat.reduceAdd, Int.reduceEq, Int.reduceNeg, reduceIte, false_and, and_false, true_and, and_true, and_self]; omega) (by simp only [addF, v2, rw1, Nat.reduceEqDiff, Nat.reduceAdd, Int.reduceEq, Int.reduceNeg, reduceIte, false_and, and_false, true_and, and_true, and_self]; omega) (by omega) ?_
    have p4 : ∀ a j, 600 < a → addF (addF (addF M1 337 t) 339 s) 341 k a j = τ.1 a j := fun a j h => by
      rw [addF_ne _ _ _ _ (by omega) (by omega), addF_ne _ _ _ _ (by omega) (by omega), addF_ne _ _ _ _ (by omega) (by omega), k1 _ _ (by omega) (by omega)]
    have p5 : addF (addF (addF M1 337 t) 339 s) 341 k 337 1 = τ.1 337 1 + 1 := by
      rw [addF_ne _ _ _ _ (by omega) (by omega), addF_ne _ _ _ _ (by omega) (by omega), addF_sz, p1]
    obtain ⟨M4, hM4⟩ : ∃ M, M = addF (addF (addF M1 337 t) 339 s) 341 k := ⟨_, rfl⟩
    dsimp only
    rw [← hM4] at p4 p5 ⊢
    rw [p5]
    refine ⟨by omega, ?_⟩
    have p6 : ∀ a j, 600 < a → v2 M4 1 1 0 a j = τ.1 a j := fun a j h => by rw [v2_ne _ _ _ _ (by omega), p4 a j h]
    obtain ⟨M5, hM5⟩ : ∃ M, M = v2 M4 1 1 0 := ⟨_, rfl⟩
    rw [← hM5] at p6 ⊢
    simp only [Z12_word_33, Z12_word_64, Z12_word, Z12_isTongue, W_in, zp_0, zB_zp, g_0, g_1, g_2, g_3, g_4, g_5, g_327, g_328, g_329, g_330, g_331, g_332, g_333, g_334, g_335, g_336, g_337, g_338, g_339, g_340, g_341, g_342, g_343, g_464, g_465, g_466, g_484, g_485, g_486, g_487, g_488, g_489, g_490, g_491, g_492, g_493, g_494, g_495, g_496, g_497, g_498, g_499, g_500, g_501, g_562, g_563, g_564, g_565, g_566, g_567, g_568, g_574, g_580, g_581, g_582, g_583, g_584, g_585, g_586, g_587, g_588, g_589, g_590, g_591, g_592, g_600, g_601, g_602, g_603, g_604, g_605, g_606, g_607, g_608, g_609, g_610, g_611, g_612, g_613, g_614, g_615, g_616, g_617, g_618, g_619, g_620, g_621, g_622, g_623, g_624, g_625, g_626, g_627, g_628, g_629, g_630, g_631, g_632, g_633, g_634, g_635, g_636, g_637, g_638, g_639, g_640, g_641, g_642, g_643, g_644, g_645, g_646, g_647, g_648, g_649, g_650, g_651, g_652, g_653, g_654, g_655, g_656, g_657, g_658, g_659, g_660, g_661, g_662, g_0_0, g_0_1, g_0_2, g_0_3, g_0_4, g_0_5, g_0_6, g_0_7, g_0_8, g_0_9, g_0_10, g_0_11, g_1_0, g_3_0, g_327_0, g_327_1, g_327_2, g_327_3, g_328_0, g_330_0, g_332_0, g_334_0, g_336_0, g_336_1, g_336_2, g_336_3, g_337_0, g_339_0, g_341_0, g_464_0, g_464_1, g_484_0, g_484_1, g_484_2, g_485_0, g_487_0, g_489_0, g_491_0, g_491_1, g_491_2, g_491_3, g_491_4, g_491_5, g_491_6, g_491_7, g_496_0, g_498_0, g_500_0, g_500_1, g_500_3, g_500_4, g_500_5, g_500_6, g_500_7, g_562_0, g_564_0, g_566_0, g_580_0, g_580_1, g_580_2, g_580_3, g_581_0, g_583_0, g_585_0, g_588_1, g_588_2, g_588_3, g_588_4, g_588_6, g_601_0, g_601_1, g_601_2, g_601_3, g_601_4, g_601_5, g_601_6, g_601_7, g_601_8, g_608_0, g_610_0, g_612_0, g_612_2, g_612_4, g_612_5, g_612_7, g_612_8, g_612_9, g_612_10, g_612_11, g_612_12, g_612_13, g_612_14, g_612_15, g_612_16, g_612_19, g_612_20, g_612_22, g_612_24, g_612_25, g_612_26, g_612_27, g_612_28, g_612_30, g_612_31, g_612_32, g_612_33, g_612_34, g_612_36, g_612_37, g_612_38, g_612_39, g_612_40, g_612_41, g_612_42, g_612_43, g_612_44, g_612_46, g_612_47, g_612_48, g_612_49, g_612_50, g_612_53, g_612_56, g_612_57, g_612_58, g_612_59, g_612_61, g_612_62, g_612_63, g_612_64, Wz_rt, Wz_cnd, Wz_lI, Wz_lW, Wz_lL, Wz_cl, Wz_cv, Wz_nz, Wz_gI, Wz_gR, Wz_sI, Wz_aI, Wz_aZ, Wz_aL, Wz_aN, Wz_aR, Wz_tI, Wz_tZ, Wz_tL, Option.some.injEq, exists_eq_left', zB_0, zB_1, true_and, and_true, true_implies, not_true_eq_false, false_implies, not_false_eq_true, Classical.not_not, p6 612 _ (by decide), c1, c2, c3, v2_ne _ _ _ _ (show (612 : Nat) ≠ 630 by decide), v2_ne _ _ _ _ (show (612 : Nat) ≠ 631 by decide), v2_ne _ _ _ _ (show (612 : Nat) ≠ 632 by decide), v2_ne _ _ _ _ (show (612 : Nat) ≠ 633 by decide), a2, b4]
    refine ⟨fun z => by omega, fun _ => ⟨fun z => by omega, fun _ => ⟨fun _ => ⟨by omega, by omega, by omega, by omega, ?_⟩, fun z => by omega⟩⟩⟩
    have p7 : ∀ j, v2 (v2 (v2 (v2 M5 630 (τ.1 337 1) t) 631 (τ.1 337 1) s) 632 (τ.1 337 1) k) 633 (τ.1 337 1) (τ.1 1 1) 612 j = τ.1 612 j := fun j => by
      rw [v2_ne _ _ _ _ (by decide), v2_ne _ _ _ _ (by decide), v2_ne _ _ _ _ (by decide), v2_ne _ _ _ _ (by decide), p6 _ _ (by decide)]
    obtain ⟨M9, hM9⟩ : ∃ M, M = v2 (v2 (v2 (v2 M5 630 (τ.1 337 1) t) 631 (τ.1 337 1) s) 632 (τ.1 337 1) k) 633 (τ.1 337 1) (τ.1 1 1) := ⟨_, rfl⟩
    rw [← hM9] at p7 ⊢
    refine W12_word_113 NN 0 _ _ (by omega) (by dsimp only; rw [p7]; omega) (by dsimp only; rw [p7]; omega) (by dsimp only; rw [p7]; omega) (by dsimp only; rw [p7]; omega) (by dsimp only; rw [p7]; unfold NN; omega) ?_
    dsimp only
    rw [p7, p7, a2, b4]
    refine ⟨by omega, ?_⟩
    have hF : v2 (v2 (rw1 M9 634 (cpS (M9 634) (M9 613) (8 * τ.1 337 1) 0 (τ.1 1 1))) 612 1 0) 612 29 (τ.1 337 1 + 1) = wordF τ.1 (τ.1 337 1) (τ.1 1 1) t s k := by
      rw [hM9, hM5, hM4, hM1]; rfl
    rw [hF]
    obtain ⟨f1, f2, f3, f4, f5, f6, f7, f8, f9, f10, f11, f12, f13, f14, f15, f16, f17⟩ := s_wordF (f := τ.1) (n := τ.1 337 1) (K := τ.1 1 1) (t := t) (s := s) (k := k) b1.1 c4 ⟨c5, c6⟩ rfl b2 b3
    clear hF hM1 hM4 hM5 hM9 p1 p2 p3 p4 p5 p6 p7 k1
    generalize hF : wordF τ.1 (τ.1 337 1) (τ.1 1 1) t s k = F at *
    refine Inv.toP (p := fun m => m = 1 ∨ m = 5) (τ' := (F, τ.2)) ?_ hI ?_ (by omega) (by omega) (by omega) ?_ (by omega) (by omega) (by omega) (by omega) (by omega) (by omega)
    · rw [← hF]; unfold wordF addF
      repeat (first | exact agp_z | refine agp_w ?_ (by first | exact Or.inl (Or.inl rfl) | exact Or.inl (Or.inr rfl) | exact Or.inl (Or.inr (md_5 (by omega)))) | refine agp_wr ?_ (fun i => Or.inl (Or.inr (md_5 (by omega)))))
    · intro _
      unfold I1
      dsimp only
      rw [f5, f6]
      exact ⟨by omega, rfl, fun j h0 h1 => by omega⟩
    · intro _
      unfold I5 eqR
      dsimp only
      rw [f1, f2, f3, f4]
      refine ⟨⟨by omega, rfl, rfl, rfl, fun w h0 h1 => ?_⟩, by omega⟩
      rw [f7, f8, f9, f10, f11, f12, f13]
      by_cases z : w = τ.1 337 1
      · subst z
        simp only [if_true]
        rw [f14]
        refine ⟨⟨c1, trivial⟩, ⟨c2, trivial⟩, ⟨c3, trivial⟩, ⟨by omega, by omega⟩, rfl, fun j j0 j1 => ?_⟩
        rw [f15 j j0 j1, f17, if_pos (by omega), show 8 * τ.1 337 1 + j - 8 * τ.1 337 1 = j by omega]
        exact a3 j j0 j1
      · have e := b5 w h0 (by omega)
        unfold eqR at e
        rw [if_neg z, if_neg z, if_neg z, if_neg z, if_neg z, if_neg z, if_neg z, f16 _ _ (by omega) (by omega) (by omega) (by omega)]
        obtain ⟨e1, e2, e3, e4, e5, e6⟩ := e
        refine ⟨e1, e2, e3, e4, e5, fun j j0 j1 => ?_⟩
        rw [f16 _ _ (by omega) (by omega) (by omega) (by omega), f17, if_neg (by omega)]
        exact e6 j j0 j1
  · simp only [Z11_word_30, Z11_word_68, Z11_word, W10_isFull, Z12_word_33, Z12_word_64, Z12_word, Z11_isKey, Z11_isLetter, Z11_isTongue, Z11_isHand, Z11_isDay, Z12_isKey, Z12_isLetter, Z12_isTongue, Z12_isHand, Z12_areTongues, Z12_isWord, Z12_isSymbol, W_within, W_in, zp_0, zB_zp, W_size r_1, W_isEmpty r_1, W_isFull r_1, W_has r_1, W_clear r_1, W_size r_3, W_isEmpty r_3, W_isFull r_3, W_has r_3, W_clear r_3, W_size r_328, W_isEmpty r_328, W_isFull r_328, W_has r_328, W_clear r_328, W_size r_330, W_isEmpty r_330, W_isFull r_330, W_has r_330, W_clear r_330, W_size r_332, W_isEmpty r_332, W_isFull r_332, W_has r_332, W_clear r_332, W_size r_334, W_isEmpty r_334, W_isFull r_334, W_has r_334, W_clear r_334, W_size r_337, W_isEmpty r_337, W_isFull r_337, W_has r_337, W_clear r_337, W_size r_339, W_isEmpty r_339, W_isFull r_339, W_has r_339, W_clear r_339, W_size r_341, W_isEmpty r_341, W_isFull r_341, W_has r_341, W_clear r_341, W_size r_485, W_isEmpty r_485, W_isFull r_485, W_has r_485, W_clear r_485, W_size r_487, W_isEmpty r_487, W_isFull r_487, W_has r_487, W_clear r_487, W_size r_489, W_isEmpty r_489, W_isFull r_489, W_has r_489, W_clear r_489, W_size r_496, W_isEmpty r_496, W_isFull r_496, W_has r_496, W_clear r_496, W_size r_498, W_isEmpty r_498, W_isFull r_498, W_has r_498, W_clear r_498, W_size r_562, W_isEmpty r_562, W_isFull r_562, W_has r_562, W_clear r_562, W_size r_564, W_isEmpty r_564, W_isFull r_564, W_has r_564, W_clear r_564, W_size r_566, W_isEmpty r_566, W_isFull r_566, W_has r_566, W_clear r_566, W_size r_581, W_isEmpty r_581, W_isFull r_581, W_has r_581, W_clear r_581, W_size r_583, W_isEmpty r_583, W_isFull r_583, W_has r_583, W_clear r_583, W_size r_585, W_isEmpty r_585, W_isFull r_585, W_has r_585, W_clear r_585, W_size r_608, W_isEmpty r_608, W_isFull r_608, W_has r_608, W_clear r_608, W_size r_610, W_isEmpty r_610, W_isFull r_610, W_has r_610, W_clear r_610, Wz_rt, Wz_cnd, Wz_lI, Wz_lW, Wz_lL, Wz_cl, Wz_cv, Wz_nz, Wz_gI, Wz_gR, Wz_sI, Wz_aI, Wz_aZ, Wz_aL, Wz_aN, Wz_aR, Wz_tI, Wz_tZ, Wz_tL, Option.some.injEq, exists_eq_left', zB_0, zB_1, true_and, and_true, true_implies, not_true_eq_false, false_implies, not_false_eq_true, Classical.not_not, g_0, g_1, g_2, g_3, g_4, g_5, g_327, g_328, g_329, g_330, g_331, g_332, g_333, g_334, g_335, g_336, g_337, g_338, g_339, g_340, g_341, g_342, g_343, g_464, g_465, g_466, g_484, g_485, g_486, g_487, g_488, g_489, g_490, g_491, g_492, g_493, g_494, g_495, g_496, g_497, g_498, g_499, g_500, g_501, g_562, g_563, g_564, g_565, g_566, g_567, g_568, g_574, g_580, g_581, g_582, g_583, g_584, g_585, g_586, g_587, g_588, g_589, g_590, g_591, g_592, g_600, g_601, g_602, g_603, g_604, g_605, g_606, g_607, g_608, g_609, g_610, g_611, g_612, g_613, g_614, g_615, g_616, g_617, g_618, g_619, g_620, g_621, g_622, g_623, g_624, g_625, g_626, g_627, g_628, g_629, g_630, g_631, g_632, g_633, g_634, g_635, g_636, g_637, g_638, g_639, g_640, g_641, g_642, g_643, g_644, g_645, g_646, g_647, g_648, g_649, g_650, g_651, g_652, g_653, g_654, g_655, g_656, g_657, g_658, g_659, g_660, g_661, g_662, g_0_0, g_0_1, g_0_2, g_0_3, g_0_4, g_0_5, g_0_6, g_0_7, g_0_8, g_0_9, g_0_10, g_0_11, g_1_0, g_3_0, g_327_0, g_327_1, g_327_2, g_327_3, g_328_0, g_330_0, g_332_0, g_334_0, g_336_0, g_336_1, g_336_2, g_336_3, g_337_0, g_339_0, g_341_0, g_464_0, g_464_1, g_484_0, g_484_1, g_484_2, g_485_0, g_487_0, g_489_0, g_491_0, g_491_1, g_491_2, g_491_3, g_491_4, g_491_5, g_491_6, g_491_7, g_496_0, g_498_0, g_500_0, g_500_1, g_500_3, g_500_4, g_500_5, g_500_6, g_500_7, g_562_0, g_564_0, g_566_0, g_580_0, g_580_1, g_580_2, g_580_3, g_581_0, g_583_0, g_585_0, g_588_1, g_588_2, g_588_3, g_588_4, g_588_6, g_601_0, g_601_1, g_601_2, g_601_3, g_601_4, g_601_5, g_601_6, g_601_7, g_601_8, g_608_0, g_610_0, g_612_0, g_612_2, g_612_4, g_612_5, g_612_7, g_612_8, g_612_9, g_612_10, g_612_11, g_612_12, g_612_13, g_612_14, g_612_15, g_612_16, g_612_19, g_612_20, g_612_22, g_612_24, g_612_25, g_612_26, g_612_27, g_612_28, g_612_30, g_612_31, g_612_32, g_612_33, g_612_34, g_612_36, g_612_37, g_612_38, g_612_39, g_612_40, g_612_41, g_612_42, g_612_43, g_612_44, g_612_46, g_612_47, g_612_48, g_612_49, g_612_50, g_612_53, g_612_56, g_612_57, g_612_58, g_612_59, g_612_61, g_612_62, g_612_63, g_612_64, addF, v2, rw1, Nat.reduceEqDiff, Nat.reduceAdd, Int.reduceEq, Int.reduceNeg, reduceIte, false_and, and_false, true_and, and_true, and_self]
    (repeat' (first | with_reducible (refine And.intro ?_ ?_) | intro _)) <;> first | omega | with_reducible exact hI
def symP (τ0 : kzM) (i : Int) (τ : kzM) : Prop := (∀ a j, ¬(589 ≤ a ∧ a ≤ 599) → τ.1 a j = τ0.1 a j) ∧ ∀ x, 0 ≤ x → x < i → τ.1 589 x = 1 ∧ τ.1 590 x = 0 ∧ τ.1 591 x = 0 ∧ ∀ b, 0 ≤ b → b < 7 → τ.1 (593 + x.toNat) b = 0
def symP2 (τ0 : kzM) (i j : Int) (τ : kzM) : Prop := symP τ0 i τ ∧ (τ.1 589 i = 1 ∧ τ.1 590 i = 0 ∧ τ.1 591 i = 0) ∧ ∀ b, 0 ≤ b → b < j → τ.1 (593 + i.toNat) b = 0
set_option maxRecDepth 100000 in
theorem W3_42 {τ0 : kzM} {r i : Int} (i0 : 0 ≤ i) (i7 : i < 7) {k12 : Nat → Int → Int → kzM → Option (Int × kzM)} : ∀ (n : Nat) (j : Int) (τ : kzM) (Q : Int → kzM → Prop), 0 ≤ j → j ≤ 7 → 7 - j < (n : Int) → symP2 τ0 i j τ → (∀ τ', symP τ0 (i + 1) τ' → Wz (k12 588 r (i + 1)) τ' Q) → Wz (lp (fun _ _ _ _ _ => none) (Z3_startAnew_42B kdG0 k12) n 588 r i j) τ Q := by
  intro n
  induction n with
  | zero => intro j τ Q h0 h1 h2; omega
  | succ n ih =>
    intro j τ Q h0 h1 h2 hp hQ
    obtain ⟨q1, q2⟩ := g_pl i0 i7
    rw [lp_succ]
    unfold Z3_startAnew_42B
    simp only [Z11_isKey, Z11_isLetter, Z11_isTongue, Z11_isHand, Z11_isDay, Z12_isKey, Z12_isLetter, Z12_isTongue, Z12_isHand, Z12_areTongues, Z12_isWord, Z12_isSymbol, W_within, W_in, zp_0, zB_zp, W_size r_1, W_isEmpty r_1, W_isFull r_1, W_has r_1, W_clear r_1, W_size r_3, W_isEmpty r_3, W_isFull r_3, W_has r_3, W_clear r_3, W_size r_328, W_isEmpty r_328, W_isFull r_328, W_has r_328, W_clear r_328, W_size r_330, W_isEmpty r_330, W_isFull r_330, W_has r_330, W_clear r_330, W_size r_332, W_isEmpty r_332, W_isFull r_332, W_has r_332, W_clear r_332, W_size r_334, W_isEmpty r_334, W_isFull r_334, W_has r_334, W_clear r_334, W_size r_337, W_isEmpty r_337, W_isFull r_337, W_has r_337, W_clear r_337, W_size r_339, W_isEmpty r_339, W_isFull r_339, W_has r_339, W_clear r_339, W_size r_341, W_isEmpty r_341, W_isFull r_341, W_has r_341, W_clear r_341, W_size r_485, W_isEmpty r_485, W_isFull r_485, W_has r_485, W_clear r_485, W_size r_487, W_isEmpty r_487, W_isFull r_487, W_has r_487, W_clear r_487, W_size r_489, W_isEmpty r_489, W_isFull r_489, W_has r_489, W_clear r_489, W_size r_496, W_isEmpty r_496, W_isFull r_496, W_has r_496, W_clear r_496, W_size r_498, W_isEmpty r_498, W_isFull r_498, W_has r_498, W_clear r_498, W_size r_562, W_isEmpty r_562, W_isFull r_562, W_has r_562, W_clear r_562, W_size r_564, W_isEmpty r_564, W_isFull r_564, W_has r_564, W_clear r_564, W_size r_566, W_isEmpty r_566, W_isFull r_566, W_has r_566, W_clear r_566, W_size r_581, W_isEmpty r_581, W_isFull r_581, W_has r_581, W_clear r_581, W_size r_583, W_isEmpty r_583, W_isFull r_583, W_has r_583, W_clear r_583, W_size r_585, W_isEmpty r_585, W_isFull r_585, W_has r_585, W_clear r_585, W_size r_608, W_isEmpty r_608, W_isFull r_608, W_has r_608, W_clear r_608, W_size r_610, W_isEmpty r_610, W_isFull r_610, W_has r_610, W_clear r_610, Wz_rt, Wz_cnd, Wz_lI, Wz_lW, Wz_lL, Wz_cl, Wz_cv, Wz_nz, Wz_gI, Wz_gR, Wz_sI, Wz_aI, Wz_aZ, Wz_aL, Wz_aN, Wz_aR, Wz_tI, Wz_tZ, Wz_tL, Option.some.injEq, exists_eq_left', zB_0, zB_1, true_and, and_true, true_implies, not_true_eq_false, false_implies, not_false_eq_true, Classical.not_not, g_0, g_1, g_2, g_3, g_4, g_5, g_327, g_328, g_329, g_330, g_331, g_332, g_333, g_334, g_335, g_336, g_337, g_338, g_339, g_340, g_341, g_342, g_343, g_464, g_465, g_466, g_484, g_485, g_486, g_487, g_488, g_489, g_490, g_491, g_492, g_493, g_494, g_495, g_496, g_497, g_498, g_499, g_500, g_501, g_562, g_563, g_564, g_565, g_566, g_567, g_568, g_574, g_580, g_581, g_582, g_583, g_584, g_585, g_586, g_587, g_588, g_589, g_590, g_591, g_592, g_600, g_601, g_602, g_603, g_604, g_605, g_606, g_607, g_608, g_609, g_610, g_611, g_612, g_613, g_614, g_615, g_616, g_617, g_618, g_619, g_620, g_621, g_622, g_623, g_624, g_625, g_626, g_627, g_628, g_629, g_630, g_631, g_632, g_633, g_634, g_635, g_636, g_637, g_638, g_639, g_640, g_641, g_642, g_643, g_644, g_645, g_646, g_647, g_648, g_649, g_650, g_651, g_652, g_653, g_654, g_655, g_656, g_657, g_658, g_659, g_660, g_661, g_662, g_0_0, g_0_1, g_0_2, g_0_3, g_0_4, g_0_5, g_0_6, g_0_7, g_0_8, g_0_9, g_0_10, g_0_11, g_1_0, g_3_0, g_327_0, g_327_1, g_327_2, g_327_3, g_328_0, g_330_0, g_332_0, g_334_0, g_336_0, g_336_1, g_336_2, g_336_3, g_337_0, g_339_0, g_341_0, g_464_0, g_464_1, g_484_0, g_484_1, g_484_2, g_485_0, g_487_0, g_489_0, g_491_0, g_491_1, g_491_2, g_491_3, g_491_4, g_491_5, g_491_6, g_491_7, g_496_0, g_498_0, g_500_0, g_500_1, g_500_3, g_500_4, g_500_5, g_500_6, g_500_7, g_562_0, g_564_0, g_566_0, g_580_0, g_580_1, g_580_2, g_580_3, g_581_0, g_583_0, g_585_0, g_588_1, g_588_2, g_588_3, g_588_4, g_588_6, g_601_0, g_601_1, g_601_2, g_601_3, g_601_4, g_601_5, g_601_6, g_601_7, g_601_8, g_608_0, g_610_0, g_612_0, g_612_2, g_612_4, g_612_5, g_612_7, g_612_8, g_612_9, g_612_10, g_612_11, g_612_12, g_612_13, g_612_14, g_612_15, g_612_16, g_612_19, g_612_20, g_612_22, g_612_24, g_612_25, g_612_26, g_612_27, g_612_28, g_612_30, g_612_31, g_612_32, g_612_33, g_612_34, g_612_36, g_612_37, g_612_38, g_612_39, g_612_40, g_612_41, g_612_42, g_612_43, g_612_44, g_612_46, g_612_47, g_612_48, g_612_49, g_612_50, g_612_53, g_612_56, g_612_57, g_612_58, g_612_59, g_612_61, g_612_62, g_612_63, g_612_64, addF, v2, rw1, Nat.reduceEqDiff, Nat.reduceAdd, Int.reduceEq, Int.reduceNeg, reduceIte, false_and, and_false, true_and, and_true, and_self, q1, q2]
    refine ⟨fun e => ⟨by omega, hQ _ ⟨hp.1.1, fun x x0 x1 => ?_⟩⟩, fun e => ⟨by omega, by omega, by omega, ih _ _ _ (by omega) (by omega) (by omega) ?_ hQ⟩⟩
    · by_cases c : x = i
      · rw [c]; exact ⟨hp.2.1.1, hp.2.1.2.1, hp.2.1.2.2, fun b b0 b1 => hp.2.2 b b0 (by omega)⟩
      · exact hp.1.2 x x0 (by omega)
    · obtain ⟨⟨p1, p2⟩, ⟨p3, p4, p5⟩, p6⟩ := hp
      refine ⟨⟨fun a k ha => ?_, fun x x0 x1 => ?_⟩, ⟨?_, ?_, ?_⟩, fun b b0 b1 => ?_⟩
      · dsimp only; rw [v2_ne _ _ _ _ (by omega)]; exact p1 a k ha
      · obtain ⟨e1, e2, e3, e4⟩ := p2 x x0 x1
        dsimp only
        rw [v2_ne _ _ _ _ (by omega), v2_ne _ _ _ _ (by omega), v2_ne _ _ _ _ (by omega)]
        refine ⟨e1, e2, e3, fun b b0 b1 => ?_⟩
        rw [v2_eq]; split
        · rfl
        · exact e4 b b0 b1
      · dsimp only; rw [v2_ne _ _ _ _ (by omega)]; exact p3
      · dsimp only; rw [v2_ne _ _ _ _ (by omega)]; exact p4
      · dsimp only; rw [v2_ne _ _ _ _ (by omega)]; exact p5
      · dsimp only; rw [v2_eq]; split
        · rfl
        · exact p6 b b0 (by omega)
set_option maxRecDepth 100000 in
theorem W3_12 {τ0 : kzM} {r : Int} : ∀ (n : Nat) (i : Int) (τ : kzM) (Q : Int → kzM → Prop), 0 ≤ i → i ≤ 7 → 7 - i < (n : Int) → symP τ0 i τ → (∀ τ', symP τ0 7 τ' → Q r τ') → Wz (lp (fun _ _ _ _ => none) (Z3_startAnew_12B kdG0) n 588 r i) τ Q := by
  intro n
  induction n with
  | zero => intro i τ Q h0 h1 h2; omega
  | succ n ih =>
    intro i τ Q h0 h1 h2 hp hQ
    rw [lp_succ]
    unfold Z3_startAnew_12B
    simp only [Z11_isKey, Z11_isLetter, Z11_isTongue, Z11_isHand, Z11_isDay, Z12_isKey, Z12_isLetter, Z12_isTongue, Z12_isHand, Z12_areTongues, Z12_isWord, Z12_isSymbol, W_within, W_in, zp_0, zB_zp, W_size r_1, W_isEmpty r_1, W_isFull r_1, W_has r_1, W_clear r_1, W_size r_3, W_isEmpty r_3, W_isFull r_3, W_has r_3, W_clear r_3, W_size r_328, W_isEmpty r_328, W_isFull r_328, W_has r_328, W_clear r_328, W_size r_330, W_isEmpty r_330, W_isFull r_330, W_has r_330, W_clear r_330, W_size r_332, W_isEmpty r_332, W_isFull r_332, W_has r_332, W_clear r_332, W_size r_334, W_isEmpty r_334, W_isFull r_334, W_has r_334, W_clear r_334, W_size r_337, W_isEmpty r_337, W_isFull r_337, W_has r_337, W_clear r_337, W_size r_339, W_isEmpty r_339, W_isFull r_339, W_has r_339, W_clear r_339, W_size r_341, W_isEmpty r_341, W_isFull r_341, W_has r_341, W_clear r_341, W_size r_485, W_isEmpty r_485, W_isFull r_485, W_has r_485, W_clear r_485, W_size r_487, W_isEmpty r_487, W_isFull r_487, W_has r_487, W_clear r_487, W_size r_489, W_isEmpty r_489, W_isFull r_489, W_has r_489, W_clear r_489, W_size r_496, W_isEmpty r_496, W_isFull r_496, W_has r_496, W_clear r_496, W_size r_498, W_isEmpty r_498, W_isFull r_498, W_has r_498, W_clear r_498, W_size r_562, W_isEmpty r_562, W_isFull r_562, W_has r_562, W_clear r_562, W_size r_564, W_isEmpty r_564, W_isFull r_564, W_has r_564, W_clear r_564, W_size r_566, W_isEmpty r_566, W_isFull r_566, W_has r_566, W_clear r_566, W_size r_581, W_isEmpty r_581, W_isFull r_581, W_has r_581, W_clear r_581, W_size r_583, W_isEmpty r_583, W_isFull r_583, W_has r_583, W_clear r_583, W_size r_585, W_isEmpty r_585, W_isFull r_585, W_has r_585, W_clear r_585, W_size r_608, W_isEmpty r_608, W_isFull r_608, W_has r_608, W_clear r_608, W_size r_610, W_isEmpty r_610, W_isFull r_610, W_has r_610, W_clear r_610, Wz_rt, Wz_cnd, Wz_lI, Wz_lW, Wz_lL, Wz_cl, Wz_cv, Wz_nz, Wz_gI, Wz_gR, Wz_sI, Wz_aI, Wz_aZ, Wz_aL, Wz_aN, Wz_aR, Wz_tI, Wz_tZ, Wz_tL, Option.some.injEq, exists_eq_left', zB_0, zB_1, true_and, and_true, true_implies, not_true_eq_false, false_implies, not_false_eq_true, Classical.not_not, g_0, g_1, g_2, g_3, g_4, g_5, g_327, g_328, g_329, g_330, g_331, g_332, g_333, g_334, g_335, g_336, g_337, g_338, g_339, g_340, g_341, g_342, g_343, g_464, g_465, g_466, g_484, g_485, g_486, g_487, g_488, g_489, g_490, g_491, g_492, g_493, g_494, g_495, g_496, g_497, g_498, g_499, g_500, g_501, g_562, g_563, g_564, g_565, g_566, g_567, g_568, g_574, g_580, g_581, g_582, g_583, g_584, g_585, g_586, g_587, g_588, g_589, g_590, g_591, g_592, g_600, g_601, g_602, g_603, g_604, g_605, g_606, g_607, g_608, g_609, g_610, g_611, g_612, g_613, g_614, g_615, g_616, g_617, g_618, g_619, g_620, g_621, g_622, g_623, g_624, g_625, g_626, g_627, g_628, g_629, g_630, g_631, g_632, g_633, g_634, g_635, g_636, g_637, g_638, g_639, g_640, g_641, g_642, g_643, g_644, g_645, g_646, g_647, g_648, g_649, g_650, g_651, g_652, g_653, g_654, g_655, g_656, g_657, g_658, g_659, g_660, g_661, g_662, g_0_0, g_0_1, g_0_2, g_0_3, g_0_4, g_0_5, g_0_6, g_0_7, g_0_8, g_0_9, g_0_10, g_0_11, g_1_0, g_3_0, g_327_0, g_327_1, g_327_2, g_327_3, g_328_0, g_330_0, g_332_0, g_334_0, g_336_0, g_336_1, g_336_2, g_336_3, g_337_0, g_339_0, g_341_0, g_464_0, g_464_1, g_484_0, g_484_1, g_484_2, g_485_0, g_487_0, g_489_0, g_491_0, g_491_1, g_491_2, g_491_3, g_491_4, g_491_5, g_491_6, g_491_7, g_496_0, g_498_0, g_500_0, g_500_1, g_500_3, g_500_4, g_500_5, g_500_6, g_500_7, g_562_0, g_564_0, g_566_0, g_580_0, g_580_1, g_580_2, g_580_3, g_581_0, g_583_0, g_585_0, g_588_1, g_588_2, g_588_3, g_588_4, g_588_6, g_601_0, g_601_1, g_601_2, g_601_3, g_601_4, g_601_5, g_601_6, g_601_7, g_601_8, g_608_0, g_610_0, g_612_0, g_612_2, g_612_4, g_612_5, g_612_7, g_612_8, g_612_9, g_612_10, g_612_11, g_612_12, g_612_13, g_612_14, g_612_15, g_612_16, g_612_19, g_612_20, g_612_22, g_612_24, g_612_25, g_612_26, g_612_27, g_612_28, g_612_30, g_612_31, g_612_32, g_612_33, g_612_34, g_612_36, g_612_37, g_612_38, g_612_39, g_612_40, g_612_41, g_612_42, g_612_43, g_612_44, g_612_46, g_612_47, g_612_48, g_612_49, g_612_50, g_612_53, g_612_56, g_612_57, g_612_58, g_612_59, g_612_61, g_612_62, g_612_63, g_612_64, addF, v2, rw1, Nat.reduceEqDiff, Nat.reduceAdd, Int.reduceEq, Int.reduceNeg, reduceIte, false_and, and_false, true_and, and_true, and_self]
    refine ⟨fun e => ?_, fun e => ⟨by omega, by omega, by omega, ?_⟩⟩
    · rw [show i = 7 by omega] at hp; exact hQ _ hp
    · unfold Z3_startAnew_42
      refine W3_42 h0 (by omega) NN 0 _ _ (by omega) (by omega) (by unfold NN; omega) ?_ (fun τ' hp' => ih _ _ _ (by omega) (by omega) (by omega) hp' hQ)
      obtain ⟨p1, p2⟩ := hp
      refine ⟨⟨fun a k ha => ?_, fun x x0 x1 => ?_⟩, ⟨?_, ?_, ?_⟩, fun b b0 b1 => by omega⟩
      · dsimp only; rw [v2_ne _ _ _ _ (by omega), v2_ne _ _ _ _ (by omega), v2_ne _ _ _ _ (by omega)]; exact p1 a k ha
      · obtain ⟨e1, e2, e3, e4⟩ := p2 x x0 x1
        have n1 : ¬(x = i) := by omega
        have n2 : ¬(593 + x.toNat = 589) := by omega
        have n3 : ¬(593 + x.toNat = 590) := by omega
        have n4 : ¬(593 + x.toNat = 591) := by omega
        simp only [addF, v2, rw1, Nat.reduceEqDiff, Nat.reduceAdd, Int.reduceEq, Int.reduceNeg, reduceIte, false_and, and_false, true_and, and_true, and_self, n1, n2, n3, n4]
        exact ⟨e1, e2, e3, e4⟩
      · simp only [addF, v2, rw1, Nat.reduceEqDiff, Nat.reduceAdd, Int.reduceEq, Int.reduceNeg, reduceIte, false_and, and_false, true_and, and_true, and_self]
      · simp only [addF, v2, rw1, Nat.reduceEqDiff, Nat.reduceAdd, Int.reduceEq, Int.reduceNeg, reduceIte, false_and, and_false, true_and, and_true, and_self]
      · simp only [addF, v2, rw1, Nat.reduceEqDiff, Nat.reduceAdd, Int.reduceEq, Int.reduceNeg, reduceIte, false_and, and_false, true_and, and_true, and_self]
def clrP (τ0 : kzM) (i : Int) (τ : kzM) : Prop := (∀ a j, ¬(655 ≤ a ∧ a ≤ 658) → τ.1 a j = τ0.1 a j) ∧ ∀ x, 0 ≤ x → x < i → τ.1 655 x = 1 ∧ τ.1 656 x = 0 ∧ τ.1 657 x = 0
set_option maxRecDepth 100000 in
theorem W12_42 {τ0 : kzM} : ∀ (n : Nat) (j : Int) (τ : kzM) (Q : Unit → kzM → Prop), 0 ≤ j → j ≤ 49 → 49 - j < (n : Int) → (clrP τ0 7 τ ∧ ∀ x, 0 ≤ x → x < j → τ.1 658 x = 0) → (∀ τ', (clrP τ0 7 τ' ∧ ∀ x, 0 ≤ x → x < 49 → τ'.1 658 x = 0) → Q () τ') → Wz (lp (fun _ _ _ => none) (Z12_clearLayout_42B kdG0) n 612 j) τ Q := by
  intro n
  induction n with
  | zero => intro i τ Q h0 h1 h2; omega
  | succ n ih =>
    intro j τ Q h0 h1 h2 hp hQ
    rw [lp_succ]
    unfold Z12_clearLayout_42B
    simp only [Z11_isKey, Z11_isLetter, Z11_isTongue, Z11_isHand, Z11_isDay, Z12_isKey, Z12_isLetter, Z12_isTongue, Z12_isHand, Z12_areTongues, Z12_isWord, Z12_isSymbol, W_within, W_in, zp_0, zB_zp, W_size r_1, W_isEmpty r_1, W_isFull r_1, W_has r_1, W_clear r_1, W_size r_3, W_isEmpty r_3, W_isFull r_3, W_has r_3, W_clear r_3, W_size r_328, W_isEmpty r_328, W_isFull r_328, W_has r_328, W_clear r_328, W_size r_330, W_isEmpty r_330, W_isFull r_330, W_has r_330, W_clear r_330, W_size r_332, W_isEmpty r_332, W_isFull r_332, W_has r_332, W_clear r_332, W_size r_334, W_isEmpty r_334, W_isFull r_334, W_has r_334, W_clear r_334, W_size r_337, W_isEmpty r_337, W_isFull r_337, W_has r_337, W_clear r_337, W_size r_339, W_isEmpty r_339, W_isFull r_339, W_has r_339, W_clear r_339, W_size r_341, W_isEmpty r_341, W_isFull r_341, W_has r_341, W_clear r_341, W_size r_485, W_isEmpty r_485, W_isFull r_485, W_has r_485, W_clear r_485, W_size r_487, W_isEmpty r_487, W_isFull r_487, W_has r_487, W_clear r_487, W_size r_489, W_isEmpty r_489, W_isFull r_489, W_has r_489, W_clear r_489, W_size r_496, W_isEmpty r_496, W_isFull r_496, W_has r_496, W_clear r_496, W_size r_498, W_isEmpty r_498, W_isFull r_498, W_has r_498, W_clear r_498, W_size r_562, W_isEmpty r_562, W_isFull r_562, W_has r_562, W_clear r_562, W_size r_564, W_isEmpty r_564, W_isFull r_564, W_has r_564, W_clear r_564, W_size r_566, W_isEmpty r_566, W_isFull r_566, W_has r_566, W_clear r_566, W_size r_581, W_isEmpty r_581, W_isFull r_581, W_has r_581, W_clear r_581, W_size r_583, W_isEmpty r_583, W_isFull r_583, W_has r_583, W_clear r_583, W_size r_585, W_isEmpty r_585, W_isFull r_585, W_has r_585, W_clear r_585, W_size r_608, W_isEmpty r_608, W_isFull r_608, W_has r_608, W_clear r_608, W_size r_610, W_isEmpty r_610, W_isFull r_610, W_has r_610, W_clear r_610, Wz_rt, Wz_cnd, Wz_lI, Wz_lW, Wz_lL, Wz_cl, Wz_cv, Wz_nz, Wz_gI, Wz_gR, Wz_sI, Wz_aI, Wz_aZ, Wz_aL, Wz_aN, Wz_aR, Wz_tI, Wz_tZ, Wz_tL, Option.some.injEq, exists_eq_left', zB_0, zB_1, true_and, and_true, true_implies, not_true_eq_false, false_implies, not_false_eq_true, Classical.not_not, g_0, g_1, g_2, g_3, g_4, g_5, g_327, g_328, g_329, g_330, g_331, g_332, g_333, g_334, g_335, g_336, g_337, g_338, g_339, g_340, g_341, g_342, g_343, g_464, g_465, g_466, g_484, g_485, g_486, g_487, g_488, g_489, g_490, g_491, g_492, g_493, g_494, g_495, g_496, g_497, g_498, g_499, g_500, g_501, g_562, g_563, g_564, g_565, g_566, g_567, g_568, g_574, g_580, g_581, g_582, g_583, g_584, g_585, g_586, g_587, g_588, g_589, g_590, g_591, g_592, g_600, g_601, g_602, g_603, g_604, g_605, g_606, g_607, g_608, g_609, g_610, g_611, g_612, g_613, g_614, g_615, g_616, g_617, g_618, g_619, g_620, g_621, g_622, g_623, g_624, g_625, g_626, g_627, g_628, g_629, g_630, g_631, g_632, g_633, g_634, g_635, g_636, g_637, g_638, g_639, g_640, g_641, g_642, g_643, g_644, g_645, g_646, g_647, g_648, g_649, g_650, g_651, g_652, g_653, g_654, g_655, g_656, g_657, g_658, g_659, g_660, g_661, g_662, g_0_0, g_0_1, g_0_2, g_0_3, g_0_4, g_0_5, g_0_6, g_0_7, g_0_8, g_0_9, g_0_10, g_0_11, g_1_0, g_3_0, g_327_0, g_327_1, g_327_2, g_327_3, g_328_0, g_330_0, g_332_0, g_334_0, g_336_0, g_336_1, g_336_2, g_336_3, g_337_0, g_339_0, g_341_0, g_464_0, g_464_1, g_484_0, g_484_1, g_484_2, g_485_0, g_487_0, g_489_0, g_491_0, g_491_1, g_491_2, g_491_3, g_491_4, g_491_5, g_491_6, g_491_7, g_496_0, g_498_0, g_500_0, g_500_1, g_500_3, g_500_4, g_500_5, g_500_6, g_500_7, g_562_0, g_564_0, g_566_0, g_580_0, g_580_1, g_580_2, g_580_3, g_581_0, g_583_0, g_585_0, g_588_1, g_588_2, g_588_3, g_588_4, g_588_6, g_601_0, g_601_1, g_601_2, g_601_3, g_601_4, g_601_5, g_601_6, g_601_7, g_601_8, g_608_0, g_610_0, g_612_0, g_612_2, g_612_4, g_612_5, g_612_7, g_612_8, g_612_9, g_612_10, g_612_11, g_612_12, g_612_13, g_612_14, g_612_15, g_612_16, g_612_19, g_612_20, g_612_22, g_612_24, g_612_25, g_612_26, g_612_27, g_612_28, g_612_30, g_612_31, g_612_32, g_612_33, g_612_34, g_612_36, g_612_37, g_612_38, g_612_39, g_612_40, g_612_41, g_612_42, g_612_43, g_612_44, g_612_46, g_612_47, g_612_48, g_612_49, g_612_50, g_612_53, g_612_56, g_612_57, g_612_58, g_612_59, g_612_61, g_612_62, g_612_63, g_612_64, addF, v2, rw1, Nat.reduceEqDiff, Nat.reduceAdd, Int.reduceEq, Int.reduceNeg, reduceIte, false_and, and_false, true_and, and_true, and_self]
    refine ⟨fun e => ?_, fun e => ⟨by omega, by omega, ih _ _ _ (by omega) (by omega) (by omega) ?_ hQ⟩⟩
    · rw [show j = 49 by omega] at hp; exact hQ _ hp
    · obtain ⟨⟨p1, p2⟩, p3⟩ := hp
      refine ⟨⟨fun a k ha => ?_, fun x x0 x1 => ?_⟩, fun x x0 x1 => ?_⟩
      · dsimp only; rw [v2_ne _ _ _ _ (by omega)]; exact p1 a k ha
      · simp only [addF, v2, rw1, Nat.reduceEqDiff, Nat.reduceAdd, Int.reduceEq, Int.reduceNeg, reduceIte, false_and, and_false, true_and, and_true, and_self]; exact p2 x x0 x1
      · simp only [addF, v2, rw1, Nat.reduceEqDiff, Nat.reduceAdd, Int.reduceEq, Int.reduceNeg, reduceIte, false_and, and_false, true_and, and_true, and_self]; split
        · rfl
        · exact p3 x x0 (by omega)
set_option maxRecDepth 100000 in
theorem W12_7 {τ0 : kzM} : ∀ (n : Nat) (i : Int) (τ : kzM) (Q : Unit → kzM → Prop), 0 ≤ i → i ≤ 7 → 7 - i < (n : Int) → clrP τ0 i τ → (∀ τ', (clrP τ0 7 τ' ∧ ∀ x, 0 ≤ x → x < 49 → τ'.1 658 x = 0) → Q () τ') → Wz (lp (fun _ _ _ => none) (Z12_clearLayout_7B kdG0) n 612 i) τ Q := by
  intro n
  induction n with
  | zero => intro i τ Q h0 h1 h2; omega
  | succ n ih =>
    intro i τ Q h0 h1 h2 hp hQ
    rw [lp_succ]
    unfold Z12_clearLayout_7B
    simp only [Z11_isKey, Z11_isLetter, Z11_isTongue, Z11_isHand, Z11_isDay, Z12_isKey, Z12_isLetter, Z12_isTongue, Z12_isHand, Z12_areTongues, Z12_isWord, Z12_isSymbol, W_within, W_in, zp_0, zB_zp, W_size r_1, W_isEmpty r_1, W_isFull r_1, W_has r_1, W_clear r_1, W_size r_3, W_isEmpty r_3, W_isFull r_3, W_has r_3, W_clear r_3, W_size r_328, W_isEmpty r_328, W_isFull r_328, W_has r_328, W_clear r_328, W_size r_330, W_isEmpty r_330, W_isFull r_330, W_has r_330, W_clear r_330, W_size r_332, W_isEmpty r_332, W_isFull r_332, W_has r_332, W_clear r_332, W_size r_334, W_isEmpty r_334, W_isFull r_334, W_has r_334, W_clear r_334, W_size r_337, W_isEmpty r_337, W_isFull r_337, W_has r_337, W_clear r_337, W_size r_339, W_isEmpty r_339, W_isFull r_339, W_has r_339, W_clear r_339, W_size r_341, W_isEmpty r_341, W_isFull r_341, W_has r_341, W_clear r_341, W_size r_485, W_isEmpty r_485, W_isFull r_485, W_has r_485, W_clear r_485, W_size r_487, W_isEmpty r_487, W_isFull r_487, W_has r_487, W_clear r_487, W_size r_489, W_isEmpty r_489, W_isFull r_489, W_has r_489, W_clear r_489, W_size r_496, W_isEmpty r_496, W_isFull r_496, W_has r_496, W_clear r_496, W_size r_498, W_isEmpty r_498, W_isFull r_498, W_has r_498, W_clear r_498, W_size r_562, W_isEmpty r_562, W_isFull r_562, W_has r_562, W_clear r_562, W_size r_564, W_isEmpty r_564, W_isFull r_564, W_has r_564, W_clear r_564, W_size r_566, W_isEmpty r_566, W_isFull r_566, W_has r_566, W_clear r_566, W_size r_581, W_isEmpty r_581, W_isFull r_581, W_has r_581, W_clear r_581, W_size r_583, W_isEmpty r_583, W_isFull r_583, W_has r_583, W_clear r_583, W_size r_585, W_isEmpty r_585, W_isFull r_585, W_has r_585, W_clear r_585, W_size r_608, W_isEmpty r_608, W_isFull r_608, W_has r_608, W_clear r_608, W_size r_610, W_isEmpty r_610, W_isFull r_610, W_has r_610, W_clear r_610, Wz_rt, Wz_cnd, Wz_lI, Wz_lW, Wz_lL, Wz_cl, Wz_cv, Wz_nz, Wz_gI, Wz_gR, Wz_sI, Wz_aI, Wz_aZ, Wz_aL, Wz_aN, Wz_aR, Wz_tI, Wz_tZ, Wz_tL, Option.some.injEq, exists_eq_left', zB_0, zB_1, true_and, and_true, true_implies, not_true_eq_false, false_implies, not_false_eq_true, Classical.not_not, g_0, g_1, g_2, g_3, g_4, g_5, g_327, g_328, g_329, g_330, g_331, g_332, g_333, g_334, g_335, g_336, g_337, g_338, g_339, g_340, g_341, g_342, g_343, g_464, g_465, g_466, g_484, g_485, g_486, g_487, g_488, g_489, g_490, g_491, g_492, g_493, g_494, g_495, g_496, g_497, g_498, g_499, g_500, g_501, g_562, g_563, g_564, g_565, g_566, g_567, g_568, g_574, g_580, g_581, g_582, g_583, g_584, g_585, g_586, g_587, g_588, g_589, g_590, g_591, g_592, g_600, g_601, g_602, g_603, g_604, g_605, g_606, g_607, g_608, g_609, g_610, g_611, g_612, g_613, g_614, g_615, g_616, g_617, g_618, g_619, g_620, g_621, g_622, g_623, g_624, g_625, g_626, g_627, g_628, g_629, g_630, g_631, g_632, g_633, g_634, g_635, g_636, g_637, g_638, g_639, g_640, g_641, g_642, g_643, g_644, g_645, g_646, g_647, g_648, g_649, g_650, g_651, g_652, g_653, g_654, g_655, g_656, g_657, g_658, g_659, g_660, g_661, g_662, g_0_0, g_0_1, g_0_2, g_0_3, g_0_4, g_0_5, g_0_6, g_0_7, g_0_8, g_0_9, g_0_10, g_0_11, g_1_0, g_3_0, g_327_0, g_327_1, g_327_2, g_327_3, g_328_0, g_330_0, g_332_0, g_334_0, g_336_0, g_336_1, g_336_2, g_336_3, g_337_0, g_339_0, g_341_0, g_464_0, g_464_1, g_484_0, g_484_1, g_484_2, g_485_0, g_487_0, g_489_0, g_491_0, g_491_1, g_491_2, g_491_3, g_491_4, g_491_5, g_491_6, g_491_7, g_496_0, g_498_0, g_500_0, g_500_1, g_500_3, g_500_4, g_500_5, g_500_6, g_500_7, g_562_0, g_564_0, g_566_0, g_580_0, g_580_1, g_580_2, g_580_3, g_581_0, g_583_0, g_585_0, g_588_1, g_588_2, g_588_3, g_588_4, g_588_6, g_601_0, g_601_1, g_601_2, g_601_3, g_601_4, g_601_5, g_601_6, g_601_7, g_601_8, g_608_0, g_610_0, g_612_0, g_612_2, g_612_4, g_612_5, g_612_7, g_612_8, g_612_9, g_612_10, g_612_11, g_612_12, g_612_13, g_612_14, g_612_15, g_612_16, g_612_19, g_612_20, g_612_22, g_612_24, g_612_25, g_612_26, g_612_27, g_612_28, g_612_30, g_612_31, g_612_32, g_612_33, g_612_34, g_612_36, g_612_37, g_612_38, g_612_39, g_612_40, g_612_41, g_612_42, g_612_43, g_612_44, g_612_46, g_612_47, g_612_48, g_612_49, g_612_50, g_612_53, g_612_56, g_612_57, g_612_58, g_612_59, g_612_61, g_612_62, g_612_63, g_612_64, addF, v2, rw1, Nat.reduceEqDiff, Nat.reduceAdd, Int.reduceEq, Int.reduceNeg, reduceIte, false_and, and_false, true_and, and_true, and_self]
    refine ⟨fun e => ?_, fun e => ⟨by omega, by omega, by omega, by omega, ih _ _ _ (by omega) (by omega) (by omega) ?_ hQ⟩⟩
    · rw [show i = 7 by omega] at hp
      unfold Z12_clearLayout_42
      exact W12_42 NN 0 _ _ (by omega) (by omega) (by unfold NN; omega) ⟨hp, fun x x0 x1 => by omega⟩ hQ
    · obtain ⟨p1, p2⟩ := hp
      refine ⟨fun a k ha => ?_, fun x x0 x1 => ?_⟩
      · dsimp only; rw [v2_ne _ _ _ _ (by omega), v2_ne _ _ _ _ (by omega), v2_ne _ _ _ _ (by omega)]; exact p1 a k ha
      · simp only [addF, v2, rw1, Nat.reduceEqDiff, Nat.reduceAdd, Int.reduceEq, Int.reduceNeg, reduceIte, false_and, and_false, true_and, and_true, and_self]
        by_cases c : x = i
        · simp only [c, if_true]; exact ⟨trivial, trivial, trivial⟩
        · simp only [c, if_false]; exact p2 x x0 (by omega)
set_option maxRecDepth 100000 in
theorem m_symbols (k : Int) (_ : kzI k) : MOK (Z11_symbols kdG0 0 k) (Z12_symbols kdG0 612 k) := by
  intro τ hI
  have i9 := hI.2.2.2.2.2.2.2.2
  unfold I9 at i9
  simp only [Z11_symbols_23, Z11_symbols, Z3_startAnew, Z12_symbols, Z12_clearLayout, Z11_isKey, Z11_isLetter, Z11_isTongue, Z11_isHand, Z11_isDay, Z12_isKey, Z12_isLetter, Z12_isTongue, Z12_isHand, Z12_areTongues, Z12_isWord, Z12_isSymbol, W_within, W_in, zp_0, zB_zp, W_size r_1, W_isEmpty r_1, W_isFull r_1, W_has r_1, W_clear r_1, W_size r_3, W_isEmpty r_3, W_isFull r_3, W_has r_3, W_clear r_3, W_size r_328, W_isEmpty r_328, W_isFull r_328, W_has r_328, W_clear r_328, W_size r_330, W_isEmpty r_330, W_isFull r_330, W_has r_330, W_clear r_330, W_size r_332, W_isEmpty r_332, W_isFull r_332, W_has r_332, W_clear r_332, W_size r_334, W_isEmpty r_334, W_isFull r_334, W_has r_334, W_clear r_334, W_size r_337, W_isEmpty r_337, W_isFull r_337, W_has r_337, W_clear r_337, W_size r_339, W_isEmpty r_339, W_isFull r_339, W_has r_339, W_clear r_339, W_size r_341, W_isEmpty r_341, W_isFull r_341, W_has r_341, W_clear r_341, W_size r_485, W_isEmpty r_485, W_isFull r_485, W_has r_485, W_clear r_485, W_size r_487, W_isEmpty r_487, W_isFull r_487, W_has r_487, W_clear r_487, W_size r_489, W_isEmpty r_489, W_isFull r_489, W_has r_489, W_clear r_489, W_size r_496, W_isEmpty r_496, W_isFull r_496, W_has r_496, W_clear r_496, W_size r_498, W_isEmpty r_498, W_isFull r_498, W_has r_498, W_clear r_498, W_size r_562, W_isEmpty r_562, W_isFull r_562, W_has r_562, W_clear r_562, W_size r_564, W_isEmpty r_564, W_isFull r_564, W_has r_564, W_clear r_564, W_size r_566, W_isEmpty r_566, W_isFull r_566, W_has r_566, W_clear r_566, W_size r_581, W_isEmpty r_581, W_isFull r_581, W_has r_581, W_clear r_581, W_size r_583, W_isEmpty r_583, W_isFull r_583, W_has r_583, W_clear r_583, W_size r_585, W_isEmpty r_585, W_isFull r_585, W_has r_585, W_clear r_585, W_size r_608, W_isEmpty r_608, W_isFull r_608, W_has r_608, W_clear r_608, W_size r_610, W_isEmpty r_610, W_isFull r_610, W_has r_610, W_clear r_610, Wz_rt, Wz_cnd, Wz_lI, Wz_lW, Wz_lL, Wz_cl, Wz_cv, Wz_nz, Wz_gI, Wz_gR, Wz_sI, Wz_aI, Wz_aZ, Wz_aL, Wz_aN, Wz_aR, Wz_tI, Wz_tZ, Wz_tL, Option.some.injEq, exists_eq_left', zB_0, zB_1, true_and, and_true, true_implies, not_true_eq_false, false_implies, not_false_eq_true, Classical.not_not, g_0, g_1, g_2, g_3, g_4, g_5, g_327, g_328, g_329, g_330, g_331, g_332, g_333, g_334, g_335, g_336, g_337, g_338, g_339, g_340, g_341, g_342, g_343, g_464, g_465, g_466, g_484, g_485, g_486, g_487, g_488, g_489, g_490, g_491, g_492, g_493, g_494, g_495, g_496, g_497, g_498, g_499, g_500, g_501, g_562, g_563, g_564, g_565, g_566, g_567, g_568, g_574, g_580, g_581, g_582, g_583, g_584, g_585, g_586, g_587, g_588, g_589, g_590, g_591, g_592, g_600, g_601, g_602, g_603, g_604, g_605, g_606, g_607, g_608, g_609, g_610, g_611, g_612, g_613, g_614, g_615, g_616, g_617, g_618, g_619, g_620, g_621, g_622, g_623, g_624, g_625, g_626, g_627, g_628, g_629, g_630, g_631, g_632, g_633, g_634, g_635, g_636, g_637, g_638, g_639, g_640, g_641, g_642, g_643, g_644, g_645, g_646, g_647, g_648, g_649, g_650, g_651, g_652, g_653, g_654, g_655, g_656, g_657, g_658, g_659, g_660, g_661, g_662, g_0_0, g_0_1, g_0_2, g_0_3, g_0_4, g_0_5, g_0_6, g_0_7, g_0_8, g_0_9, g_0_10, g_0_11, g_1_0, g_3_0, g_327_0, g_327_1, g_327_2, g_327_3, g_328_0, g_330_0, g_332_0, g_334_0, g_336_0, g_336_1, g_336_2, g_336_3, g_337_0, g_339_0, g_341_0, g_464_0, g_464_1, g_484_0, g_484_1, g_484_2, g_485_0, g_487_0, g_489_0, g_491_0, g_491_1, g_491_2, g_491_3, g_491_4, g_491_5, g_491_6, g_491_7, g_496_0, g_498_0, g_500_0, g_500_1, g_500_3, g_500_4, g_500_5, g_500_6, g_500_7, g_562_0, g_564_0, g_566_0, g_580_0, g_580_1, g_580_2, g_580_3, g_581_0, g_583_0, g_585_0, g_588_1, g_588_2, g_588_3, g_588_4, g_588_6, g_601_0, g_601_1, g_601_2, g_601_3, g_601_4, g_601_5, g_601_6, g_601_7, g_601_8, g_608_0, g_610_0, g_612_0, g_612_2, g_612_4, g_612_5, g_612_7, g_612_8, g_612_9, g_612_10, g_612_11, g_612_12, g_612_13, g_612_14, g_612_15, g_612_16, g_612_19, g_612_20, g_612_22, g_612_24, g_612_25, g_612_26, g_612_27, g_612_28, g_612_30, g_612_31, g_612_32, g_612_33, g_612_34, g_612_36, g_612_37, g_612_38, g_612_39, g_612_40, g_612_41, g_612_42, g_612_43, g_612_44, g_612_46, g_612_47, g_612_48, g_612_49, g_612_50, g_612_53, g_612_56, g_612_57, g_612_58, g_612_59, g_612_61, g_612_62, g_612_63, g_612_64, addF, v2, rw1, Nat.reduceEqDiff, Nat.reduceAdd, Int.reduceEq, Int.reduceNeg, reduceIte, false_and, and_false, true_and, and_true, and_self]
  refine ⟨fun c => ?_, fun c => ?_⟩
  · (repeat' (first | with_reducible (refine And.intro ?_ ?_) | intro _)) <;> first | omega | with_reducible exact hI
  · unfold Z3_startAnew_12
    refine W3_12 (τ0 := (v2 τ.1 588 0 k, τ.2)) NN 0 _ _ (by omega) (by omega) (by unfold NN; omega) ⟨fun _ _ _ => rfl, fun x x0 x1 => by omega⟩ ?_
    intro τ1 p1
    refine ⟨fun z => absurd c z, fun _ => ?_⟩
    unfold Z12_clearLayout_7
    refine W12_7 (τ0 := (v2 τ1.1 612 55 k, τ1.2)) NN 0 _ _ (by omega) (by omega) (by unfold NN; omega) ⟨fun _ _ _ => rfl, fun x x0 x1 => by omega⟩ ?_
    intro τ2 p2
    obtain ⟨q1, q2⟩ := p1
    obtain ⟨⟨q3, q4⟩, q5⟩ := p2
    have k1 : ∀ a j, ¬(589 ≤ a ∧ a ≤ 599) → ¬(655 ≤ a ∧ a ≤ 658) → (a = 612 → j ≠ 55) → (a = 588 → j ≠ 0) → τ2.1 a j = τ.1 a j := fun a j h1 h2 h3 h4 => by
      rw [q3 a j h2]
      show (if a = 612 ∧ j = 55 then k else τ1.1 a j) = _
      rw [if_neg (fun z => h3 z.1 z.2), q1 a j h1]
      show (if a = 588 ∧ j = 0 then k else τ.1 a j) = _
      rw [if_neg (fun z => h4 z.1 z.2)]
    have k2 : ∀ a j, 589 ≤ a → a ≤ 599 → τ2.1 a j = τ1.1 a j := fun a j h1 h2 => by
      rw [q3 a j (by omega)]
      show (if a = 612 ∧ j = 55 then k else τ1.1 a j) = _
      rw [if_neg (by omega)]
    have k3 : τ2.1 588 0 = k := by
      rw [q3 588 0 (by omega)]
      show (if 588 = 612 ∧ (0 : Int) = 55 then k else τ1.1 588 0) = _
      rw [if_neg (by omega), q1 588 0 (by omega)]
      exact v2_self ..
    have k4 : τ2.1 612 55 = k := by
      rw [q3 612 55 (by omega)]
      exact v2_self ..
    have k5 : τ1.1 612 55 = τ.1 588 0 := by
      rw [q1 612 55 (by omega)]
      show (if 612 = 588 ∧ (55 : Int) = 0 then k else τ.1 612 55) = _
      rw [if_neg (by omega)]; exact i9.1.2
    refine ⟨by omega, ?_⟩
    refine inv_m9 (fun a j h1 h2 => ?_) hI ?_
    · refine k1 a j (fun z => h1 (md_9 (Or.inl z))) (fun z => h1 (md_9 (Or.inr z))) (fun z z2 => h1 (by rw [z, z2]; rfl)) (fun z z2 => h1 (by rw [z, z2]; rfl))
    · unfold I9
      rw [k3, k4, k1 588 5 (by omega) (by omega) (by omega) (by omega), k1 612 60 (by omega) (by omega) (by omega) (by omega)]
      refine ⟨⟨c, rfl⟩, i9.2.1, fun i i0 i7 => ?_, fun a b a0 a7 b0 b7 => ?_⟩
      · obtain ⟨e1, e2, e3, e4⟩ := q2 i i0 i7
        obtain ⟨f1, f2, f3⟩ := q4 i i0 i7
        rw [k2 589 i (by omega) (by omega), k2 590 i (by omega) (by omega), k2 591 i (by omega) (by omega)]
        omega
      · rw [k2 (593 + a.toNat) b (by omega) (by omega), (q2 a a0 a7).2.2.2 b b0 b7, q5 _ (by omega) (by omega)]
        omega
