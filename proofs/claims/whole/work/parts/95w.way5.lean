/-! ways: the class's next layout, its rank -/
def on6 (τ σ : kzM) : Prop := ∀ a x, a ≠ 600 → σ.1 a x = τ.1 a x
theorem on6_w {τ σ : kzM} (h : on6 τ σ) (i v : Int) : on6 τ (v2 σ.1 600 i v, σ.2) := fun a x ha => (v2_ne _ _ _ _ ha).trans (h a x ha)
def on600 (n : Nat) (σ : kzM) (p : List Nat) : Prop := ∀ i : Int, 0 ≤ i → i < n → σ.1 600 i = rowL p i
set_option maxRecDepth 100000 in
theorem W3_so_91 {τ : kzM} {n : Nat} (hn : n ≤ 7) {g' : Int → Int} {Q : Int → kzM → Prop} (hQ : ∀ ρ : kzM, on6 τ ρ → ρ.1 600 = g' → Q 1 ρ) : ∀ (k N : Nat) (i j : Int) (σ : kzM), k < N → j - i < k → 0 ≤ i → j < n → on6 τ σ → rvF k (σ.1 600) i j = g' → Wz (lp (fun _ _ _ _ => none) (Z3_stepOn_91B kdG0) N 588 i j) σ Q := by
  intro k
  induction k with
  | zero =>
    intro N i j σ hN hij i0 j1 hs hg
    obtain ⟨N, rfl⟩ : ∃ M, N = M + 1 := ⟨N - 1, by omega⟩
    rw [lp_succ]
    unfold Z3_stepOn_91B
    simp only [Wz_rt, Wz_cnd, Wz_lI, Wz_lW, Wz_lL, Wz_cl, Wz_cv, Wz_nz, Wz_gI, Wz_gR, Wz_sI, Wz_aI, Wz_aZ, Wz_aL, Wz_aN, Wz_aR, Wz_tI, Wz_tZ, Wz_tL, Option.some.injEq, exists_eq_left', zB_0, zB_1, true_and, and_true, true_implies, not_true_eq_false, false_implies, not_false_eq_true, Classical.not_not, g_0, g_1, g_2, g_3, g_4, g_5, g_327, g_328, g_329, g_330, g_331, g_332, g_333, g_334, g_335, g_336, g_337, g_338, g_339, g_340, g_341, g_342, g_343, g_464, g_465, g_466, g_484, g_485, g_486, g_487, g_488, g_489, g_490, g_491, g_492, g_493, g_494, g_495, g_496, g_497, g_498, g_499, g_500, g_501, g_562, g_563, g_564, g_565, g_566, g_567, g_568, g_574, g_580, g_581, g_582, g_583, g_584, g_585, g_586, g_587, g_588, g_589, g_590, g_591, g_592, g_600, g_601, g_602, g_603, g_604, g_605, g_606, g_607, g_608, g_609, g_610, g_611, g_612, g_613, g_614, g_615, g_616, g_617, g_618, g_619, g_620, g_621, g_622, g_623, g_624, g_625, g_626, g_627, g_628, g_629, g_630, g_631, g_632, g_633, g_634, g_635, g_636, g_637, g_638, g_639, g_640, g_641, g_642, g_643, g_644, g_645, g_646, g_647, g_648, g_649, g_650, g_651, g_652, g_653, g_654, g_655, g_656, g_657, g_658, g_659, g_660, g_661, g_662, g_0_0, g_0_1, g_0_2, g_0_3, g_0_4, g_0_5, g_0_6, g_0_7, g_0_8, g_0_9, g_0_10, g_0_11, g_1_0, g_3_0, g_327_0, g_327_1, g_327_2, g_327_3, g_328_0, g_330_0, g_332_0, g_334_0, g_336_0, g_336_1, g_336_2, g_336_3, g_337_0, g_339_0, g_341_0, g_464_0, g_464_1, g_484_0, g_484_1, g_484_2, g_485_0, g_487_0, g_489_0, g_491_0, g_491_1, g_491_2, g_491_3, g_491_4, g_491_5, g_491_6, g_491_7, g_496_0, g_498_0, g_500_0, g_500_1, g_500_3, g_500_4, g_500_5, g_500_6, g_500_7, g_562_0, g_564_0, g_566_0, g_580_0, g_580_1, g_580_2, g_580_3, g_581_0, g_583_0, g_585_0, g_588_1, g_588_2, g_588_3, g_588_4, g_588_6, g_601_0, g_601_1, g_601_2, g_601_3, g_601_4, g_601_5, g_601_6, g_601_7, g_601_8, g_608_0, g_610_0, g_612_0, g_612_2, g_612_4, g_612_5, g_612_7, g_612_8, g_612_9, g_612_10, g_612_11, g_612_12, g_612_13, g_612_14, g_612_15, g_612_16, g_612_19, g_612_20, g_612_22, g_612_24, g_612_25, g_612_26, g_612_27, g_612_28, g_612_30, g_612_31, g_612_32, g_612_33, g_612_34, g_612_36, g_612_37, g_612_38, g_612_39, g_612_40, g_612_41, g_612_42, g_612_43, g_612_44, g_612_46, g_612_47, g_612_48, g_612_49, g_612_50, g_612_53, g_612_56, g_612_57, g_612_58, g_612_59, g_612_61, g_612_62, g_612_63, g_612_64]
    exact ⟨fun _ => hQ σ hs hg, fun c => absurd c (by omega)⟩
  | succ k ih =>
    intro N i j σ hN hij i0 j1 hs hg
    obtain ⟨N, rfl⟩ : ∃ M, N = M + 1 := ⟨N - 1, by omega⟩
    rw [lp_succ]
    have ih' := ih N (i + 1) (j - 1)
    generalize lp (fun _ _ _ _ => none) (Z3_stepOn_91B kdG0) N = L at ih' ⊢
    unfold Z3_stepOn_91B
    simp only [Wz_rt, Wz_cnd, Wz_lI, Wz_lW, Wz_lL, Wz_cl, Wz_cv, Wz_nz, Wz_gI, Wz_gR, Wz_sI, Wz_aI, Wz_aZ, Wz_aL, Wz_aN, Wz_aR, Wz_tI, Wz_tZ, Wz_tL, Option.some.injEq, exists_eq_left', zB_0, zB_1, true_and, and_true, true_implies, not_true_eq_false, false_implies, not_false_eq_true, Classical.not_not, g_0, g_1, g_2, g_3, g_4, g_5, g_327, g_328, g_329, g_330, g_331, g_332, g_333, g_334, g_335, g_336, g_337, g_338, g_339, g_340, g_341, g_342, g_343, g_464, g_465, g_466, g_484, g_485, g_486, g_487, g_488, g_489, g_490, g_491, g_492, g_493, g_494, g_495, g_496, g_497, g_498, g_499, g_500, g_501, g_562, g_563, g_564, g_565, g_566, g_567, g_568, g_574, g_580, g_581, g_582, g_583, g_584, g_585, g_586, g_587, g_588, g_589, g_590, g_591, g_592, g_600, g_601, g_602, g_603, g_604, g_605, g_606, g_607, g_608, g_609, g_610, g_611, g_612, g_613, g_614, g_615, g_616, g_617, g_618, g_619, g_620, g_621, g_622, g_623, g_624, g_625, g_626, g_627, g_628, g_629, g_630, g_631, g_632, g_633, g_634, g_635, g_636, g_637, g_638, g_639, g_640, g_641, g_642, g_643, g_644, g_645, g_646, g_647, g_648, g_649, g_650, g_651, g_652, g_653, g_654, g_655, g_656, g_657, g_658, g_659, g_660, g_661, g_662, g_0_0, g_0_1, g_0_2, g_0_3, g_0_4, g_0_5, g_0_6, g_0_7, g_0_8, g_0_9, g_0_10, g_0_11, g_1_0, g_3_0, g_327_0, g_327_1, g_327_2, g_327_3, g_328_0, g_330_0, g_332_0, g_334_0, g_336_0, g_336_1, g_336_2, g_336_3, g_337_0, g_339_0, g_341_0, g_464_0, g_464_1, g_484_0, g_484_1, g_484_2, g_485_0, g_487_0, g_489_0, g_491_0, g_491_1, g_491_2, g_491_3, g_491_4, g_491_5, g_491_6, g_491_7, g_496_0, g_498_0, g_500_0, g_500_1, g_500_3, g_500_4, g_500_5, g_500_6, g_500_7, g_562_0, g_564_0, g_566_0, g_580_0, g_580_1, g_580_2, g_580_3, g_581_0, g_583_0, g_585_0, g_588_1, g_588_2, g_588_3, g_588_4, g_588_6, g_601_0, g_601_1, g_601_2, g_601_3, g_601_4, g_601_5, g_601_6, g_601_7, g_601_8, g_608_0, g_610_0, g_612_0, g_612_2, g_612_4, g_612_5, g_612_7, g_612_8, g_612_9, g_612_10, g_612_11, g_612_12, g_612_13, g_612_14, g_612_15, g_612_16, g_612_19, g_612_20, g_612_22, g_612_24, g_612_25, g_612_26, g_612_27, g_612_28, g_612_30, g_612_31, g_612_32, g_612_33, g_612_34, g_612_36, g_612_37, g_612_38, g_612_39, g_612_40, g_612_41, g_612_42, g_612_43, g_612_44, g_612_46, g_612_47, g_612_48, g_612_49, g_612_50, g_612_53, g_612_56, g_612_57, g_612_58, g_612_59, g_612_61, g_612_62, g_612_63, g_612_64]
    rw [rvF] at hg
    refine ⟨fun c => hQ σ hs (by rw [if_pos c] at hg; exact hg), fun c => W3_ex i0 (by omega) (by omega) (by omega) fun ρ h1 h2 => ⟨by omega, by omega, ?_⟩⟩
    rw [if_neg c] at hg
    exact ih' ρ (by omega) (by omega) (by omega) (by omega) (fun a x ha => (h1 a x ha).trans (hs a x ha)) (by rw [h2]; exact hg)
set_option maxRecDepth 100000 in
theorem W3_so_47 {τ : kzM} {n : Nat} (hn : n ≤ 7) (h5 : τ.1 588 0 = n) {i : Int} (i0 : 0 ≤ i) (i1 : i + 1 < n) (hi : τ.1 600 i ≤ τ.1 600 (i + 1)) {Q : Int → kzM → Prop} (hQ : ∀ ρ : kzM, on6 τ ρ → ρ.1 600 = rvF 7 (exF (τ.1 600) i (swp (τ.1 600) i n)) (i + 1) ((n : Int) - 1) → Q 1 ρ) : ∀ (N k : Nat), i + 2 ≤ k → k ≤ n → k < N → swp (τ.1 600) i n = swp (τ.1 600) i k → Wz (lp (fun _ _ _ _ => none) (Z3_stepOn_47B kdG0) N 588 i ((k : Int) - 1)) τ Q := by
  intro N
  induction N with
  | zero => intro k; intros; omega
  | succ N ih =>
    intro k k0 k1 kN hk
    rw [lp_succ]
    have ih' := ih (k - 1)
    generalize lp (fun _ _ _ _ => none) (Z3_stepOn_47B kdG0) N = L at ih' ⊢
    obtain ⟨k, rfl⟩ : ∃ m, k = m + 1 := ⟨k - 1, by omega⟩
    rw [show ((k + 1 : Nat) : Int) - 1 = k by omega]
    unfold Z3_stepOn_47B
    simp only [Z3_stepOn_73, Wz_rt, Wz_cnd, Wz_lI, Wz_lW, Wz_lL, Wz_cl, Wz_cv, Wz_nz, Wz_gI, Wz_gR, Wz_sI, Wz_aI, Wz_aZ, Wz_aL, Wz_aN, Wz_aR, Wz_tI, Wz_tZ, Wz_tL, Option.some.injEq, exists_eq_left', zB_0, zB_1, true_and, and_true, true_implies, not_true_eq_false, false_implies, not_false_eq_true, Classical.not_not, g_0, g_1, g_2, g_3, g_4, g_5, g_327, g_328, g_329, g_330, g_331, g_332, g_333, g_334, g_335, g_336, g_337, g_338, g_339, g_340, g_341, g_342, g_343, g_464, g_465, g_466, g_484, g_485, g_486, g_487, g_488, g_489, g_490, g_491, g_492, g_493, g_494, g_495, g_496, g_497, g_498, g_499, g_500, g_501, g_562, g_563, g_564, g_565, g_566, g_567, g_568, g_574, g_580, g_581, g_582, g_583, g_584, g_585, g_586, g_587, g_588, g_589, g_590, g_591, g_592, g_600, g_601, g_602, g_603, g_604, g_605, g_606, g_607, g_608, g_609, g_610, g_611, g_612, g_613, g_614, g_615, g_616, g_617, g_618, g_619, g_620, g_621, g_622, g_623, g_624, g_625, g_626, g_627, g_628, g_629, g_630, g_631, g_632, g_633, g_634, g_635, g_636, g_637, g_638, g_639, g_640, g_641, g_642, g_643, g_644, g_645, g_646, g_647, g_648, g_649, g_650, g_651, g_652, g_653, g_654, g_655, g_656, g_657, g_658, g_659, g_660, g_661, g_662, g_0_0, g_0_1, g_0_2, g_0_3, g_0_4, g_0_5, g_0_6, g_0_7, g_0_8, g_0_9, g_0_10, g_0_11, g_1_0, g_3_0, g_327_0, g_327_1, g_327_2, g_327_3, g_328_0, g_330_0, g_332_0, g_334_0, g_336_0, g_336_1, g_336_2, g_336_3, g_337_0, g_339_0, g_341_0, g_464_0, g_464_1, g_484_0, g_484_1, g_484_2, g_485_0, g_487_0, g_489_0, g_491_0, g_491_1, g_491_2, g_491_3, g_491_4, g_491_5, g_491_6, g_491_7, g_496_0, g_498_0, g_500_0, g_500_1, g_500_3, g_500_4, g_500_5, g_500_6, g_500_7, g_562_0, g_564_0, g_566_0, g_580_0, g_580_1, g_580_2, g_580_3, g_581_0, g_583_0, g_585_0, g_588_1, g_588_2, g_588_3, g_588_4, g_588_6, g_601_0, g_601_1, g_601_2, g_601_3, g_601_4, g_601_5, g_601_6, g_601_7, g_601_8, g_608_0, g_610_0, g_612_0, g_612_2, g_612_4, g_612_5, g_612_7, g_612_8, g_612_9, g_612_10, g_612_11, g_612_12, g_612_13, g_612_14, g_612_15, g_612_16, g_612_19, g_612_20, g_612_22, g_612_24, g_612_25, g_612_26, g_612_27, g_612_28, g_612_30, g_612_31, g_612_32, g_612_33, g_612_34, g_612_36, g_612_37, g_612_38, g_612_39, g_612_40, g_612_41, g_612_42, g_612_43, g_612_44, g_612_46, g_612_47, g_612_48, g_612_49, g_612_50, g_612_53, g_612_56, g_612_57, g_612_58, g_612_59, g_612_61, g_612_62, g_612_63, g_612_64]
    rw [swp] at hk
    refine ⟨fun z => absurd z (by omega), fun _ => ⟨by omega, by omega, fun c => ?_, fun c => ?_⟩⟩
    · rw [if_pos c] at hk
      refine W3_ex i0 (by omega) (by omega) (by omega) fun ρ h1 h2 => ?_
      have r5 : ρ.1 588 0 = n := by rw [h1 588 0 (by decide), h5]
      simp only [r5]
      refine ⟨by omega, by omega, ?_⟩
      unfold Z3_stepOn_91
      exact W3_so_91 (τ := τ) hn hQ 7 NN _ _ ρ (by unfold NN; omega) (by omega) (by omega) (by omega) h1 (by rw [h2, hk])
    · rw [if_neg c] at hk
      have : ¬(k : Int) = i + 1 := fun z => c (by rw [z]; exact hi)
      rw [show k + 1 - 1 = k by omega] at ih'
      refine ⟨by omega, ?_⟩
      rw [show (k : Int) + -1 = (k : Int) - 1 by omega]
      exact ih' (by omega) (by omega) (by omega) hk
set_option maxRecDepth 100000 in
theorem W3_stepOn {τ : kzM} {n : Nat} (hn : 2 ≤ n ∧ n ≤ 7) (h5 : τ.1 588 0 = n) {Q : Int → kzM → Prop} (q0 : pvt (τ.1 600) (n - 1) = -1 → Q 0 τ) (q1 : 0 ≤ pvt (τ.1 600) (n - 1) → ∀ ρ : kzM, on6 τ ρ → ρ.1 600 = nxF n (τ.1 600) → Q 1 ρ) : Wz (Z3_stepOn kdG0 588) τ Q := by
  have s34 : ∀ p, p = pvt (τ.1 600) (n - 1) → Wz (Z3_stepOn_34 kdG0 588 p) τ Q := fun p hp => by
    have pb := pvt_b (τ.1 600) (n - 1)
    rw [← hp] at pb q0 q1
    simp only [Z3_stepOn_34, Wz_rt, Wz_cnd, Wz_lI, Wz_lW, Wz_lL, Wz_cl, Wz_cv, Wz_nz, Wz_gI, Wz_gR, Wz_sI, Wz_aI, Wz_aZ, Wz_aL, Wz_aN, Wz_aR, Wz_tI, Wz_tZ, Wz_tL, Option.some.injEq, exists_eq_left', zB_0, zB_1, true_and, and_true, true_implies, not_true_eq_false, false_implies, not_false_eq_true, Classical.not_not, g_0, g_1, g_2, g_3, g_4, g_5, g_327, g_328, g_329, g_330, g_331, g_332, g_333, g_334, g_335, g_336, g_337, g_338, g_339, g_340, g_341, g_342, g_343, g_464, g_465, g_466, g_484, g_485, g_486, g_487, g_488, g_489, g_490, g_491, g_492, g_493, g_494, g_495, g_496, g_497, g_498, g_499, g_500, g_501, g_562, g_563, g_564, g_565, g_566, g_567, g_568, g_574, g_580, g_581, g_582, g_583, g_584, g_585, g_586, g_587, g_588, g_589, g_590, g_591, g_592, g_600, g_601, g_602, g_603, g_604, g_605, g_606, g_607, g_608, g_609, g_610, g_611, g_612, g_613, g_614, g_615, g_616, g_617, g_618, g_619, g_620, g_621, g_622, g_623, g_624, g_625, g_626, g_627, g_628, g_629, g_630, g_631, g_632, g_633, g_634, g_635, g_636, g_637, g_638, g_639, g_640, g_641, g_642, g_643, g_644, g_645, g_646, g_647, g_648, g_649, g_650, g_651, g_652, g_653, g_654, g_655, g_656, g_657, g_658, g_659, g_660, g_661, g_662, g_0_0, g_0_1, g_0_2, g_0_3, g_0_4, g_0_5, g_0_6, g_0_7, g_0_8, g_0_9, g_0_10, g_0_11, g_1_0, g_3_0, g_327_0, g_327_1, g_327_2, g_327_3, g_328_0, g_330_0, g_332_0, g_334_0, g_336_0, g_336_1, g_336_2, g_336_3, g_337_0, g_339_0, g_341_0, g_464_0, g_464_1, g_484_0, g_484_1, g_484_2, g_485_0, g_487_0, g_489_0, g_491_0, g_491_1, g_491_2, g_491_3, g_491_4, g_491_5, g_491_6, g_491_7, g_496_0, g_498_0, g_500_0, g_500_1, g_500_3, g_500_4, g_500_5, g_500_6, g_500_7, g_562_0, g_564_0, g_566_0, g_580_0, g_580_1, g_580_2, g_580_3, g_581_0, g_583_0, g_585_0, g_588_1, g_588_2, g_588_3, g_588_4, g_588_6, g_601_0, g_601_1, g_601_2, g_601_3, g_601_4, g_601_5, g_601_6, g_601_7, g_601_8, g_608_0, g_610_0, g_612_0, g_612_2, g_612_4, g_612_5, g_612_7, g_612_8, g_612_9, g_612_10, g_612_11, g_612_12, g_612_13, g_612_14, g_612_15, g_612_16, g_612_19, g_612_20, g_612_22, g_612_24, g_612_25, g_612_26, g_612_27, g_612_28, g_612_30, g_612_31, g_612_32, g_612_33, g_612_34, g_612_36, g_612_37, g_612_38, g_612_39, g_612_40, g_612_41, g_612_42, g_612_43, g_612_44, g_612_46, g_612_47, g_612_48, g_612_49, g_612_50, g_612_53, g_612_56, g_612_57, g_612_58, g_612_59, g_612_61, g_612_62, g_612_63, g_612_64, h5]
    refine ⟨fun c => ⟨by omega, ?_⟩, fun c => q0 (by omega)⟩
    unfold Z3_stepOn_47
    exact W3_so_47 hn.2 h5 c (by omega) (pb.2.2 c) (fun ρ h1 h2 => q1 c ρ h1 (by rw [h2]; unfold nxF; rw [← hp])) NN n (by omega) (Nat.le_refl _) (by unfold NN; omega) rfl
  have s7 : ∀ N k : Nat, k + 1 ≤ n → k < N → pvt (τ.1 600) (n - 1) = pvt (τ.1 600) k → Wz (lp (fun _ _ _ => none) (Z3_stepOn_7B kdG0) N 588 ((k : Int) - 1)) τ Q := by
    intro N
    induction N with
    | zero => intro k; intros; omega
    | succ N ih =>
      intro k k1 kN hk
      rw [lp_succ]
      have ih' := ih (k - 1)
      generalize lp (fun _ _ _ => none) (Z3_stepOn_7B kdG0) N = L at ih' ⊢
      unfold Z3_stepOn_7B
      simp only [Wz_rt, Wz_cnd, Wz_lI, Wz_lW, Wz_lL, Wz_cl, Wz_cv, Wz_nz, Wz_gI, Wz_gR, Wz_sI, Wz_aI, Wz_aZ, Wz_aL, Wz_aN, Wz_aR, Wz_tI, Wz_tZ, Wz_tL, Option.some.injEq, exists_eq_left', zB_0, zB_1, true_and, and_true, true_implies, not_true_eq_false, false_implies, not_false_eq_true, Classical.not_not, g_0, g_1, g_2, g_3, g_4, g_5, g_327, g_328, g_329, g_330, g_331, g_332, g_333, g_334, g_335, g_336, g_337, g_338, g_339, g_340, g_341, g_342, g_343, g_464, g_465, g_466, g_484, g_485, g_486, g_487, g_488, g_489, g_490, g_491, g_492, g_493, g_494, g_495, g_496, g_497, g_498, g_499, g_500, g_501, g_562, g_563, g_564, g_565, g_566, g_567, g_568, g_574, g_580, g_581, g_582, g_583, g_584, g_585, g_586, g_587, g_588, g_589, g_590, g_591, g_592, g_600, g_601, g_602, g_603, g_604, g_605, g_606, g_607, g_608, g_609, g_610, g_611, g_612, g_613, g_614, g_615, g_616, g_617, g_618, g_619, g_620, g_621, g_622, g_623, g_624, g_625, g_626, g_627, g_628, g_629, g_630, g_631, g_632, g_633, g_634, g_635, g_636, g_637, g_638, g_639, g_640, g_641, g_642, g_643, g_644, g_645, g_646, g_647, g_648, g_649, g_650, g_651, g_652, g_653, g_654, g_655, g_656, g_657, g_658, g_659, g_660, g_661, g_662, g_0_0, g_0_1, g_0_2, g_0_3, g_0_4, g_0_5, g_0_6, g_0_7, g_0_8, g_0_9, g_0_10, g_0_11, g_1_0, g_3_0, g_327_0, g_327_1, g_327_2, g_327_3, g_328_0, g_330_0, g_332_0, g_334_0, g_336_0, g_336_1, g_336_2, g_336_3, g_337_0, g_339_0, g_341_0, g_464_0, g_464_1, g_484_0, g_484_1, g_484_2, g_485_0, g_487_0, g_489_0, g_491_0, g_491_1, g_491_2, g_491_3, g_491_4, g_491_5, g_491_6, g_491_7, g_496_0, g_498_0, g_500_0, g_500_1, g_500_3, g_500_4, g_500_5, g_500_6, g_500_7, g_562_0, g_564_0, g_566_0, g_580_0, g_580_1, g_580_2, g_580_3, g_581_0, g_583_0, g_585_0, g_588_1, g_588_2, g_588_3, g_588_4, g_588_6, g_601_0, g_601_1, g_601_2, g_601_3, g_601_4, g_601_5, g_601_6, g_601_7, g_601_8, g_608_0, g_610_0, g_612_0, g_612_2, g_612_4, g_612_5, g_612_7, g_612_8, g_612_9, g_612_10, g_612_11, g_612_12, g_612_13, g_612_14, g_612_15, g_612_16, g_612_19, g_612_20, g_612_22, g_612_24, g_612_25, g_612_26, g_612_27, g_612_28, g_612_30, g_612_31, g_612_32, g_612_33, g_612_34, g_612_36, g_612_37, g_612_38, g_612_39, g_612_40, g_612_41, g_612_42, g_612_43, g_612_44, g_612_46, g_612_47, g_612_48, g_612_49, g_612_50, g_612_53, g_612_56, g_612_57, g_612_58, g_612_59, g_612_61, g_612_62, g_612_63, g_612_64]
      refine ⟨fun c => s34 _ ?_, fun c => ?_⟩
      · have : k = 0 := by omega
        subst this
        rw [hk]; rfl
      · obtain ⟨k, rfl⟩ : ∃ m, k = m + 1 := ⟨k - 1, by omega⟩
        rw [show ((k + 1 : Nat) : Int) - 1 = k by omega]
        rw [pvt] at hk
        refine ⟨by omega, by omega, fun d => s34 _ ?_, fun d => ⟨by omega, ?_⟩⟩
        · rw [if_pos d] at hk; exact hk.symm
        · rw [if_neg d] at hk
          rw [show k + 1 - 1 = k by omega] at ih'
          rw [show (k : Int) + -1 = (k : Int) - 1 by omega]
          exact ih' (by omega) (by omega) hk
  unfold Z3_stepOn Z3_stepOn_7
  simp only [Wz_rt, Wz_cnd, Wz_lI, Wz_lW, Wz_lL, Wz_cl, Wz_cv, Wz_nz, Wz_gI, Wz_gR, Wz_sI, Wz_aI, Wz_aZ, Wz_aL, Wz_aN, Wz_aR, Wz_tI, Wz_tZ, Wz_tL, Option.some.injEq, exists_eq_left', zB_0, zB_1, true_and, and_true, true_implies, not_true_eq_false, false_implies, not_false_eq_true, Classical.not_not, g_0, g_1, g_2, g_3, g_4, g_5, g_327, g_328, g_329, g_330, g_331, g_332, g_333, g_334, g_335, g_336, g_337, g_338, g_339, g_340, g_341, g_342, g_343, g_464, g_465, g_466, g_484, g_485, g_486, g_487, g_488, g_489, g_490, g_491, g_492, g_493, g_494, g_495, g_496, g_497, g_498, g_499, g_500, g_501, g_562, g_563, g_564, g_565, g_566, g_567, g_568, g_574, g_580, g_581, g_582, g_583, g_584, g_585, g_586, g_587, g_588, g_589, g_590, g_591, g_592, g_600, g_601, g_602, g_603, g_604, g_605, g_606, g_607, g_608, g_609, g_610, g_611, g_612, g_613, g_614, g_615, g_616, g_617, g_618, g_619, g_620, g_621, g_622, g_623, g_624, g_625, g_626, g_627, g_628, g_629, g_630, g_631, g_632, g_633, g_634, g_635, g_636, g_637, g_638, g_639, g_640, g_641, g_642, g_643, g_644, g_645, g_646, g_647, g_648, g_649, g_650, g_651, g_652, g_653, g_654, g_655, g_656, g_657, g_658, g_659, g_660, g_661, g_662, g_0_0, g_0_1, g_0_2, g_0_3, g_0_4, g_0_5, g_0_6, g_0_7, g_0_8, g_0_9, g_0_10, g_0_11, g_1_0, g_3_0, g_327_0, g_327_1, g_327_2, g_327_3, g_328_0, g_330_0, g_332_0, g_334_0, g_336_0, g_336_1, g_336_2, g_336_3, g_337_0, g_339_0, g_341_0, g_464_0, g_464_1, g_484_0, g_484_1, g_484_2, g_485_0, g_487_0, g_489_0, g_491_0, g_491_1, g_491_2, g_491_3, g_491_4, g_491_5, g_491_6, g_491_7, g_496_0, g_498_0, g_500_0, g_500_1, g_500_3, g_500_4, g_500_5, g_500_6, g_500_7, g_562_0, g_564_0, g_566_0, g_580_0, g_580_1, g_580_2, g_580_3, g_581_0, g_583_0, g_585_0, g_588_1, g_588_2, g_588_3, g_588_4, g_588_6, g_601_0, g_601_1, g_601_2, g_601_3, g_601_4, g_601_5, g_601_6, g_601_7, g_601_8, g_608_0, g_610_0, g_612_0, g_612_2, g_612_4, g_612_5, g_612_7, g_612_8, g_612_9, g_612_10, g_612_11, g_612_12, g_612_13, g_612_14, g_612_15, g_612_16, g_612_19, g_612_20, g_612_22, g_612_24, g_612_25, g_612_26, g_612_27, g_612_28, g_612_30, g_612_31, g_612_32, g_612_33, g_612_34, g_612_36, g_612_37, g_612_38, g_612_39, g_612_40, g_612_41, g_612_42, g_612_43, g_612_44, g_612_46, g_612_47, g_612_48, g_612_49, g_612_50, g_612_53, g_612_56, g_612_57, g_612_58, g_612_59, g_612_61, g_612_62, g_612_63, g_612_64, h5]
  refine ⟨by omega, ?_⟩
  have := s7 NN (n - 1) (by omega) (by unfold NN; omega) rfl
  rw [show ((n - 1 : Nat) : Int) - 1 = (n : Int) - 2 by omega] at this
  exact this
set_option maxRecDepth 100000 in
theorem W3_first {τ : kzM} {n : Nat} (hn : n ≤ 7) (h5 : τ.1 588 0 = n) {Q : Unit → kzM → Prop} (hQ : ∀ ρ : kzM, on6 τ ρ → on600 n ρ (List.range n) → Q () ρ) : Wz (Z3_startAtFirst kdG0 588) τ Q := by
  have go : ∀ (N i : Nat) (σ : kzM), i ≤ n → n - i < N → on6 τ σ → (∀ k : Int, 0 ≤ k → k < i → σ.1 600 k = k) → Wz (lp (fun _ _ _ => none) (Z3_startAtFirst_2B kdG0) N 588 (i : Int)) σ Q := by
    intro N
    induction N with
    | zero => intro i; intros; omega
    | succ N ih =>
      intro i σ i1 i2 hs hk
      rw [lp_succ]
      generalize lp (fun _ _ _ => none) (Z3_startAtFirst_2B kdG0) N = L at ih ⊢
      have s5 : σ.1 588 0 = n := by rw [hs 588 0 (by decide), h5]
      unfold Z3_startAtFirst_2B
      simp only [Wz_rt, Wz_cnd, Wz_lI, Wz_lW, Wz_lL, Wz_cl, Wz_cv, Wz_nz, Wz_gI, Wz_gR, Wz_sI, Wz_aI, Wz_aZ, Wz_aL, Wz_aN, Wz_aR, Wz_tI, Wz_tZ, Wz_tL, Option.some.injEq, exists_eq_left', zB_0, zB_1, true_and, and_true, true_implies, not_true_eq_false, false_implies, not_false_eq_true, Classical.not_not, g_0, g_1, g_2, g_3, g_4, g_5, g_327, g_328, g_329, g_330, g_331, g_332, g_333, g_334, g_335, g_336, g_337, g_338, g_339, g_340, g_341, g_342, g_343, g_464, g_465, g_466, g_484, g_485, g_486, g_487, g_488, g_489, g_490, g_491, g_492, g_493, g_494, g_495, g_496, g_497, g_498, g_499, g_500, g_501, g_562, g_563, g_564, g_565, g_566, g_567, g_568, g_574, g_580, g_581, g_582, g_583, g_584, g_585, g_586, g_587, g_588, g_589, g_590, g_591, g_592, g_600, g_601, g_602, g_603, g_604, g_605, g_606, g_607, g_608, g_609, g_610, g_611, g_612, g_613, g_614, g_615, g_616, g_617, g_618, g_619, g_620, g_621, g_622, g_623, g_624, g_625, g_626, g_627, g_628, g_629, g_630, g_631, g_632, g_633, g_634, g_635, g_636, g_637, g_638, g_639, g_640, g_641, g_642, g_643, g_644, g_645, g_646, g_647, g_648, g_649, g_650, g_651, g_652, g_653, g_654, g_655, g_656, g_657, g_658, g_659, g_660, g_661, g_662, g_0_0, g_0_1, g_0_2, g_0_3, g_0_4, g_0_5, g_0_6, g_0_7, g_0_8, g_0_9, g_0_10, g_0_11, g_1_0, g_3_0, g_327_0, g_327_1, g_327_2, g_327_3, g_328_0, g_330_0, g_332_0, g_334_0, g_336_0, g_336_1, g_336_2, g_336_3, g_337_0, g_339_0, g_341_0, g_464_0, g_464_1, g_484_0, g_484_1, g_484_2, g_485_0, g_487_0, g_489_0, g_491_0, g_491_1, g_491_2, g_491_3, g_491_4, g_491_5, g_491_6, g_491_7, g_496_0, g_498_0, g_500_0, g_500_1, g_500_3, g_500_4, g_500_5, g_500_6, g_500_7, g_562_0, g_564_0, g_566_0, g_580_0, g_580_1, g_580_2, g_580_3, g_581_0, g_583_0, g_585_0, g_588_1, g_588_2, g_588_3, g_588_4, g_588_6, g_601_0, g_601_1, g_601_2, g_601_3, g_601_4, g_601_5, g_601_6, g_601_7, g_601_8, g_608_0, g_610_0, g_612_0, g_612_2, g_612_4, g_612_5, g_612_7, g_612_8, g_612_9, g_612_10, g_612_11, g_612_12, g_612_13, g_612_14, g_612_15, g_612_16, g_612_19, g_612_20, g_612_22, g_612_24, g_612_25, g_612_26, g_612_27, g_612_28, g_612_30, g_612_31, g_612_32, g_612_33, g_612_34, g_612_36, g_612_37, g_612_38, g_612_39, g_612_40, g_612_41, g_612_42, g_612_43, g_612_44, g_612_46, g_612_47, g_612_48, g_612_49, g_612_50, g_612_53, g_612_56, g_612_57, g_612_58, g_612_59, g_612_61, g_612_62, g_612_63, g_612_64, s5]
      refine ⟨fun c => hQ σ hs (fun k k0 k1 => by rw [rowL_range k0 k1]; exact hk k k0 (by omega)), fun c => ⟨by omega, by omega, ?_⟩⟩
      have ih' := ih (i + 1) (v2 σ.1 600 i i, σ.2) (by omega) (by omega) (on6_w hs _ _) (fun k k0 k1 => by
        dsimp only
        by_cases y : k = i
        · rw [y]; exact v2_self _ _ _ _
        · rw [v2_nk _ _ _ _ y]; exact hk k k0 (by omega))
      rw [show ((i + 1 : Nat) : Int) = (i : Int) + 1 by omega] at ih'
      exact ih'
  unfold Z3_startAtFirst Z3_startAtFirst_2
  exact go NN 0 τ (by omega) (by unfold NN; omega) (fun _ _ _ => rfl) (fun k a b => by omega)
theorem cntS_b (f : Int → Int) (i : Int) : ∀ k : Nat, 0 ≤ cntS f i k ∧ cntS f i k ≤ k
  | 0 => by unfold cntS; omega
  | k + 1 => by
    have ih := cntS_b f i k
    unfold cntS
    split <;> omega
theorem rkf_b (f : Int → Int) {n : Nat} (hn : n ≤ 7) : ∀ i : Nat, i ≤ n → 0 ≤ rkf f n i ∧ rkf f n i < 7 ^ i
  | 0, _ => by unfold rkf; decide
  | i + 1, hi => by
    have ih := rkf_b f hn i (by omega)
    have c := cntS_b f i (n - 1 - i)
    have m := mul_b (a := rkf f n i) (b := (n : Int) - i) (u := 7 ^ i - 1) (v := 7) (by omega) (by omega)
    unfold rkf
    rw [Int.pow_succ]
    omega
theorem pow7_b {i : Nat} (h : i ≤ 7) : (7 : Int) ^ i ≤ 823543 := by
  have h := Nat.pow_le_pow_right (n := 7) (by decide) h
  have e : (7 : Nat) ^ 7 = 823543 := by decide
  rw [e] at h
  have h2 : ((7 ^ i : Nat) : Int) ≤ ((823543 : Nat) : Int) := Int.ofNat_le.2 h
  rw [Int.natCast_pow] at h2
  exact h2
set_option maxRecDepth 100000 in
theorem W3_rn_19 {σ : kzM} {n : Nat} (hn : n ≤ 7) (h0 : σ.1 588 0 = n) {i : Nat} (hi : i < n) {K : Nat → Int → Int → kzM → Option (Int × kzM)} {acc : Int} (ha : 0 ≤ acc ∧ acc ≤ 823543) {Q : Int → kzM → Prop} (hQ : Wz (K 588 (acc * ((n : Int) - i) + cntS (σ.1 600) i (n - 1 - i)) ((i : Int) + 1)) σ Q) : ∀ (N k : Nat), i + 1 + k ≤ n → n - k < N → Wz (lp (fun _ _ _ _ _ _ => none) (Z3_rank_19B kdG0 K) N 588 acc (i : Int) (cntS (σ.1 600) i k) ((i : Int) + 1 + k)) σ Q := by
  intro N
  induction N with
  | zero => intro k; intros; omega
  | succ N ih =>
    intro k k1 kN
    rw [lp_succ]
    have ih' := ih (k + 1)
    generalize lp (fun _ _ _ _ _ _ => none) (Z3_rank_19B kdG0 K) N = L at ih' ⊢
    have cb := cntS_b (σ.1 600) i k
    have e : cntS (σ.1 600) i (k + 1) = cntS (σ.1 600) i k + if σ.1 600 i ≤ σ.1 600 ((i : Int) + 1 + k) then 0 else 1 := rfl
    rw [show (i : Int) + 1 + ((k + 1 : Nat) : Int) = (i : Int) + 1 + k + 1 by omega] at ih'
    unfold Z3_rank_19B
    simp only [Z3_rank_50, Wz_rt, Wz_cnd, Wz_lI, Wz_lW, Wz_lL, Wz_cl, Wz_cv, Wz_nz, Wz_gI, Wz_gR, Wz_sI, Wz_aI, Wz_aZ, Wz_aL, Wz_aN, Wz_aR, Wz_tI, Wz_tZ, Wz_tL, Option.some.injEq, exists_eq_left', zB_0, zB_1, true_and, and_true, true_implies, not_true_eq_false, false_implies, not_false_eq_true, Classical.not_not, g_0, g_1, g_2, g_3, g_4, g_5, g_327, g_328, g_329, g_330, g_331, g_332, g_333, g_334, g_335, g_336, g_337, g_338, g_339, g_340, g_341, g_342, g_343, g_464, g_465, g_466, g_484, g_485, g_486, g_487, g_488, g_489, g_490, g_491, g_492, g_493, g_494, g_495, g_496, g_497, g_498, g_499, g_500, g_501, g_562, g_563, g_564, g_565, g_566, g_567, g_568, g_574, g_580, g_581, g_582, g_583, g_584, g_585, g_586, g_587, g_588, g_589, g_590, g_591, g_592, g_600, g_601, g_602, g_603, g_604, g_605, g_606, g_607, g_608, g_609, g_610, g_611, g_612, g_613, g_614, g_615, g_616, g_617, g_618, g_619, g_620, g_621, g_622, g_623, g_624, g_625, g_626, g_627, g_628, g_629, g_630, g_631, g_632, g_633, g_634, g_635, g_636, g_637, g_638, g_639, g_640, g_641, g_642, g_643, g_644, g_645, g_646, g_647, g_648, g_649, g_650, g_651, g_652, g_653, g_654, g_655, g_656, g_657, g_658, g_659, g_660, g_661, g_662, g_0_0, g_0_1, g_0_2, g_0_3, g_0_4, g_0_5, g_0_6, g_0_7, g_0_8, g_0_9, g_0_10, g_0_11, g_1_0, g_3_0, g_327_0, g_327_1, g_327_2, g_327_3, g_328_0, g_330_0, g_332_0, g_334_0, g_336_0, g_336_1, g_336_2, g_336_3, g_337_0, g_339_0, g_341_0, g_464_0, g_464_1, g_484_0, g_484_1, g_484_2, g_485_0, g_487_0, g_489_0, g_491_0, g_491_1, g_491_2, g_491_3, g_491_4, g_491_5, g_491_6, g_491_7, g_496_0, g_498_0, g_500_0, g_500_1, g_500_3, g_500_4, g_500_5, g_500_6, g_500_7, g_562_0, g_564_0, g_566_0, g_580_0, g_580_1, g_580_2, g_580_3, g_581_0, g_583_0, g_585_0, g_588_1, g_588_2, g_588_3, g_588_4, g_588_6, g_601_0, g_601_1, g_601_2, g_601_3, g_601_4, g_601_5, g_601_6, g_601_7, g_601_8, g_608_0, g_610_0, g_612_0, g_612_2, g_612_4, g_612_5, g_612_7, g_612_8, g_612_9, g_612_10, g_612_11, g_612_12, g_612_13, g_612_14, g_612_15, g_612_16, g_612_19, g_612_20, g_612_22, g_612_24, g_612_25, g_612_26, g_612_27, g_612_28, g_612_30, g_612_31, g_612_32, g_612_33, g_612_34, g_612_36, g_612_37, g_612_38, g_612_39, g_612_40, g_612_41, g_612_42, g_612_43, g_612_44, g_612_46, g_612_47, g_612_48, g_612_49, g_612_50, g_612_53, g_612_56, g_612_57, g_612_58, g_612_59, g_612_61, g_612_62, g_612_63, g_612_64, h0]
    refine ⟨fun c => ?_, fun c => ⟨by omega, by omega, fun d => ?_, fun d => ?_⟩⟩
    · rw [show k = n - 1 - i by omega] at cb ⊢
      have m := mul_b (a := acc) (b := (n : Int) - i) (u := 823543) (v := 7) ha (by omega)
      exact ⟨by omega, by omega, hQ⟩
    · rw [if_pos d] at e
      rw [← e]
      exact ⟨by omega, by omega, ih' (by omega) (by omega)⟩
    · rw [if_neg d] at e
      rw [← e]
      exact ⟨by omega, by omega, ih' (by omega) (by omega)⟩
set_option maxRecDepth 100000 in
theorem W3_rn_4 {σ : kzM} {n : Nat} (hn : n ≤ 7) (h0 : σ.1 588 0 = n) {Q : Int → kzM → Prop} (hQ : Q (rkf (σ.1 600) n n) σ) : ∀ (N i : Nat), i ≤ n → n - i < N → Wz (lp (fun _ _ _ _ => none) (Z3_rank_4B kdG0) N 588 (rkf (σ.1 600) n i) (i : Int)) σ Q := by
  intro N
  induction N with
  | zero => intro i; intros; omega
  | succ N ih =>
    intro i i1 iN
    rw [lp_succ]
    have ih' := ih (i + 1)
    generalize lp (fun _ _ _ _ => none) (Z3_rank_4B kdG0) N = L at ih' ⊢
    have rb := rkf_b (σ.1 600) hn i i1
    have pb := pow7_b (show i ≤ 7 by omega)
    unfold Z3_rank_4B
    simp only [Wz_rt, Wz_cnd, Wz_lI, Wz_lW, Wz_lL, Wz_cl, Wz_cv, Wz_nz, Wz_gI, Wz_gR, Wz_sI, Wz_aI, Wz_aZ, Wz_aL, Wz_aN, Wz_aR, Wz_tI, Wz_tZ, Wz_tL, Option.some.injEq, exists_eq_left', zB_0, zB_1, true_and, and_true, true_implies, not_true_eq_false, false_implies, not_false_eq_true, Classical.not_not, g_0, g_1, g_2, g_3, g_4, g_5, g_327, g_328, g_329, g_330, g_331, g_332, g_333, g_334, g_335, g_336, g_337, g_338, g_339, g_340, g_341, g_342, g_343, g_464, g_465, g_466, g_484, g_485, g_486, g_487, g_488, g_489, g_490, g_491, g_492, g_493, g_494, g_495, g_496, g_497, g_498, g_499, g_500, g_501, g_562, g_563, g_564, g_565, g_566, g_567, g_568, g_574, g_580, g_581, g_582, g_583, g_584, g_585, g_586, g_587, g_588, g_589, g_590, g_591, g_592, g_600, g_601, g_602, g_603, g_604, g_605, g_606, g_607, g_608, g_609, g_610, g_611, g_612, g_613, g_614, g_615, g_616, g_617, g_618, g_619, g_620, g_621, g_622, g_623, g_624, g_625, g_626, g_627, g_628, g_629, g_630, g_631, g_632, g_633, g_634, g_635, g_636, g_637, g_638, g_639, g_640, g_641, g_642, g_643, g_644, g_645, g_646, g_647, g_648, g_649, g_650, g_651, g_652, g_653, g_654, g_655, g_656, g_657, g_658, g_659, g_660, g_661, g_662, g_0_0, g_0_1, g_0_2, g_0_3, g_0_4, g_0_5, g_0_6, g_0_7, g_0_8, g_0_9, g_0_10, g_0_11, g_1_0, g_3_0, g_327_0, g_327_1, g_327_2, g_327_3, g_328_0, g_330_0, g_332_0, g_334_0, g_336_0, g_336_1, g_336_2, g_336_3, g_337_0, g_339_0, g_341_0, g_464_0, g_464_1, g_484_0, g_484_1, g_484_2, g_485_0, g_487_0, g_489_0, g_491_0, g_491_1, g_491_2, g_491_3, g_491_4, g_491_5, g_491_6, g_491_7, g_496_0, g_498_0, g_500_0, g_500_1, g_500_3, g_500_4, g_500_5, g_500_6, g_500_7, g_562_0, g_564_0, g_566_0, g_580_0, g_580_1, g_580_2, g_580_3, g_581_0, g_583_0, g_585_0, g_588_1, g_588_2, g_588_3, g_588_4, g_588_6, g_601_0, g_601_1, g_601_2, g_601_3, g_601_4, g_601_5, g_601_6, g_601_7, g_601_8, g_608_0, g_610_0, g_612_0, g_612_2, g_612_4, g_612_5, g_612_7, g_612_8, g_612_9, g_612_10, g_612_11, g_612_12, g_612_13, g_612_14, g_612_15, g_612_16, g_612_19, g_612_20, g_612_22, g_612_24, g_612_25, g_612_26, g_612_27, g_612_28, g_612_30, g_612_31, g_612_32, g_612_33, g_612_34, g_612_36, g_612_37, g_612_38, g_612_39, g_612_40, g_612_41, g_612_42, g_612_43, g_612_44, g_612_46, g_612_47, g_612_48, g_612_49, g_612_50, g_612_53, g_612_56, g_612_57, g_612_58, g_612_59, g_612_61, g_612_62, g_612_63, g_612_64, h0]
    refine ⟨fun c => ?_, fun c => ⟨by omega, ?_⟩⟩
    · rw [show i = n by omega]; exact hQ
    · unfold Z3_rank_19
      have q := W3_rn_19 (σ := σ) hn h0 (i := i) (by omega) (K := L) (acc := rkf (σ.1 600) n i) (by omega) (Q := Q) (by
        have := ih' (by omega) (by omega)
        rw [show ((i + 1 : Nat) : Int) = (i : Int) + 1 by omega] at this
        exact this) NN 0 (by omega) (by unfold NN; omega)
      rw [show (i : Int) + 1 + ((0 : Nat) : Int) = (i : Int) + 1 by omega] at q
      exact q
set_option maxRecDepth 100000 in
theorem W3_rank {σ : kzM} {n : Nat} (hn : n ≤ 7) (h0 : σ.1 588 0 = n) {Q : Int → kzM → Prop} (hQ : Q (rkf (σ.1 600) n n) σ) : Wz (Z3_rank kdG0 588) σ Q := by
  unfold Z3_rank Z3_rank_4
  exact W3_rn_4 hn h0 hQ NN 0 (by omega) (by unfold NN; omega)
/-- the place of a pair in the row of neighbours -/
def kS (n : Nat) : Nat → Int
  | 0 => 0
  | a + 1 => kS n a + ((n : Int) - 1 - a)
def mN (n : Nat) : Int := ((n : Int) * ((n : Int) - 1)).tdiv 2
theorem kS_b0 : ∀ n : Fin 6, ∀ a : Fin 6, ∀ b : Fin 6, 2 ≤ n.val → a.val < b.val → b.val < n.val → 0 ≤ kS n.val a.val + ((b.val : Int) - a.val - 1) ∧ kS n.val a.val + ((b.val : Int) - a.val - 1) < mN n.val ∧ mN n.val ≤ 10 := by decide +kernel
theorem kS_e0 : ∀ n : Fin 6, 2 ≤ n.val → kS n.val n.val = mN n.val ∧ 0 ≤ mN n.val ∧ mN n.val ≤ 10 := by decide +kernel
theorem kS_c0 : ∀ n : Fin 6, ∀ a : Fin 6, a.val ≤ n.val → 0 ≤ kS n.val a.val ∧ kS n.val a.val ≤ 10 := by decide +kernel
/-- what stands in the row of neighbours of i once the pairs before (a, b) are through -/
def nbI (n : Nat) (i : Int) (g : Int → Int) (a b k : Int) : Prop := (∀ x : Int, 0 ≤ x → x < k → (0 ≤ g (10 * i + x) ∧ g (10 * i + x) < szN n) ∧ adL n i (g (10 * i + x))) ∧ ∀ c d : Int, 0 ≤ c → c < d → d < n → (c < a ∨ (c = a ∧ d < b)) → ∃ x : Int, (0 ≤ x ∧ x < k) ∧ ∀ y : Int, 0 ≤ y → y < n → rowN n (g (10 * i + x)) y = exF (rowN n i) c d y
def on64 (τ σ : kzM) : Prop := ∀ a x, a ≠ 600 → a ≠ 604 → σ.1 a x = τ.1 a x
theorem on64.tr {τ σ ρ : kzM} (h : on64 τ σ) (k : on64 σ ρ) : on64 τ ρ := fun a x z y => (k a x z y).trans (h a x z y)
set_option maxRecDepth 100000 in
theorem W9_ln_23 {τ : kzM} {n : Nat} (hn : 2 ≤ n ∧ n ≤ 5) {i : Int} (i0 : 0 ≤ i) (i1 : i < szN n) {f : Int → Int} (hf : ∀ x : Int, 0 ≤ x → x < n → f x = rowN n i x) {a : Nat} (ha : a < n) {K : Nat → Int → Int → kzM → Option (Unit × kzM)} {Q : Unit → kzM → Prop} {σ0 : kzM} (h0 : σ0.1 588 0 = n) (hQ : ∀ ρ, on64 σ0 ρ → ρ.1 600 = f → (∀ x : Int, x < 10 * i → ρ.1 604 x = σ0.1 604 x) → nbI n i (ρ.1 604) ((a : Int) + 1) ((a : Int) + 2) (kS n (a + 1)) → Wz (K 601 (10 * i + kS n (a + 1)) ((a : Int) + 1)) ρ Q) : ∀ (N b : Nat) (σ : kzM), a < b → b ≤ n → n - b < N → on64 σ0 σ → σ.1 600 = f → (∀ x : Int, x < 10 * i → σ.1 604 x = σ0.1 604 x) → nbI n i (σ.1 604) a b (kS n a + ((b : Int) - a - 1)) → Wz (lp (fun _ _ _ _ _ => none) (Z9_listNeighbours_23B kdG0 K) N 601 (10 * i + (kS n a + ((b : Int) - a - 1))) (a : Int) (b : Int)) σ Q := by
  have sz := (way_n hn).2.2.2.1
  intro N
  induction N with
  | zero => intro b; intros; omega
  | succ N ih =>
    intro b σ ab bn bN ho h6 hx hI
    rw [lp_succ]
    have ih' := ih (b + 1)
    generalize lp (fun _ _ _ _ _ => none) (Z9_listNeighbours_23B kdG0 K) N = L at ih' ⊢
    have s0 : σ.1 588 0 = n := by rw [ho 588 0 (by decide) (by decide), h0]
    unfold Z9_listNeighbours_23B
    simp only [Z3_size, Wz_rt, Wz_cnd, Wz_lI, Wz_lW, Wz_lL, Wz_cl, Wz_cv, Wz_nz, Wz_gI, Wz_gR, Wz_sI, Wz_aI, Wz_aZ, Wz_aL, Wz_aN, Wz_aR, Wz_tI, Wz_tZ, Wz_tL, Option.some.injEq, exists_eq_left', zB_0, zB_1, true_and, and_true, true_implies, not_true_eq_false, false_implies, not_false_eq_true, Classical.not_not, g_0, g_1, g_2, g_3, g_4, g_5, g_327, g_328, g_329, g_330, g_331, g_332, g_333, g_334, g_335, g_336, g_337, g_338, g_339, g_340, g_341, g_342, g_343, g_464, g_465, g_466, g_484, g_485, g_486, g_487, g_488, g_489, g_490, g_491, g_492, g_493, g_494, g_495, g_496, g_497, g_498, g_499, g_500, g_501, g_562, g_563, g_564, g_565, g_566, g_567, g_568, g_574, g_580, g_581, g_582, g_583, g_584, g_585, g_586, g_587, g_588, g_589, g_590, g_591, g_592, g_600, g_601, g_602, g_603, g_604, g_605, g_606, g_607, g_608, g_609, g_610, g_611, g_612, g_613, g_614, g_615, g_616, g_617, g_618, g_619, g_620, g_621, g_622, g_623, g_624, g_625, g_626, g_627, g_628, g_629, g_630, g_631, g_632, g_633, g_634, g_635, g_636, g_637, g_638, g_639, g_640, g_641, g_642, g_643, g_644, g_645, g_646, g_647, g_648, g_649, g_650, g_651, g_652, g_653, g_654, g_655, g_656, g_657, g_658, g_659, g_660, g_661, g_662, g_0_0, g_0_1, g_0_2, g_0_3, g_0_4, g_0_5, g_0_6, g_0_7, g_0_8, g_0_9, g_0_10, g_0_11, g_1_0, g_3_0, g_327_0, g_327_1, g_327_2, g_327_3, g_328_0, g_330_0, g_332_0, g_334_0, g_336_0, g_336_1, g_336_2, g_336_3, g_337_0, g_339_0, g_341_0, g_464_0, g_464_1, g_484_0, g_484_1, g_484_2, g_485_0, g_487_0, g_489_0, g_491_0, g_491_1, g_491_2, g_491_3, g_491_4, g_491_5, g_491_6, g_491_7, g_496_0, g_498_0, g_500_0, g_500_1, g_500_3, g_500_4, g_500_5, g_500_6, g_500_7, g_562_0, g_564_0, g_566_0, g_580_0, g_580_1, g_580_2, g_580_3, g_581_0, g_583_0, g_585_0, g_588_1, g_588_2, g_588_3, g_588_4, g_588_6, g_601_0, g_601_1, g_601_2, g_601_3, g_601_4, g_601_5, g_601_6, g_601_7, g_601_8, g_608_0, g_610_0, g_612_0, g_612_2, g_612_4, g_612_5, g_612_7, g_612_8, g_612_9, g_612_10, g_612_11, g_612_12, g_612_13, g_612_14, g_612_15, g_612_16, g_612_19, g_612_20, g_612_22, g_612_24, g_612_25, g_612_26, g_612_27, g_612_28, g_612_30, g_612_31, g_612_32, g_612_33, g_612_34, g_612_36, g_612_37, g_612_38, g_612_39, g_612_40, g_612_41, g_612_42, g_612_43, g_612_44, g_612_46, g_612_47, g_612_48, g_612_49, g_612_50, g_612_53, g_612_56, g_612_57, g_612_58, g_612_59, g_612_61, g_612_62, g_612_63, g_612_64, s0]
    refine ⟨fun c => ⟨by omega, ?_⟩, fun c => ?_⟩
    · have eb : b = n := by omega
      subst eb
      have ek : kS b (a + 1) = kS b a + ((b : Int) - a - 1) := by
        show kS b a + ((b : Int) - 1 - a) = _
        omega
      rw [← ek] at hI ⊢
      refine hQ σ ho h6 hx ⟨hI.1, fun c d c0 cd dn q => ?_⟩
      refine hI.2 c d c0 cd dn ?_
      omega
    · have kb := kS_b0 ⟨n, by omega⟩ ⟨a, by omega⟩ ⟨b, by omega⟩ hn.1 ab (by dsimp only; omega)
      dsimp only at kb
      obtain ⟨j, j1, j2, j3, j4⟩ := ex_lay hn i0 i1 (a := (a : Int)) (b := (b : Int)) (by omega)
      refine W3_ex (by omega) (by omega) (by omega) (by omega) fun ρ r1 r2 => ?_
      have rs0 : ρ.1 588 0 = n := by rw [r1 588 0 (by decide), s0]
      refine W3_rank (n := n) (by omega) rs0 ?_
      have er : rkf (ρ.1 600) n n = j := by
        rw [r2, h6, rkf_cg (g := exF (rowN n i) a b) (exF_cg hf (by omega) (by omega) (by omega) (by omega)) n (Nat.le_refl _)]
        exact j4
      rw [er]
      refine ⟨by omega, by omega, ?_⟩
      refine W3_ex (by omega) (by omega) (by omega) (by omega) fun ζ z1 z2 => ⟨by omega, ?_⟩
      have z6 : ζ.1 600 = f := by
        rw [z2]
        dsimp only
        rw [show (v2 ρ.1 604 (10 * i + (kS n a + ((b : Int) - a - 1))) j) 600 = ρ.1 600 from v2_row _ _ _ (by decide), r2, h6, exF_2]
      have z64 : ∀ x, ζ.1 604 x = if x = 10 * i + (kS n a + ((b : Int) - a - 1)) then j else σ.1 604 x := fun x => by
        rw [z1 604 x (by decide)]
        dsimp only
        rw [v2_eq]
        by_cases y : x = 10 * i + (kS n a + ((b : Int) - a - 1))
        · rw [if_pos ⟨rfl, y⟩, if_pos y]
        · rw [if_neg (fun q => y q.2), if_neg y, r1 604 x (by decide)]
      rw [show 10 * i + (kS n a + ((b : Int) - a - 1)) + 1 = 10 * i + (kS n a + (((b + 1 : Nat) : Int) - a - 1)) by omega, show (b : Int) + 1 = ((b + 1 : Nat) : Int) by omega]
      refine ih' ζ (by omega) (by omega) (by omega) (fun c x c1 c2 => ?_) z6 (fun x hxx => ?_) ⟨fun x x0 x1 => ?_, fun c d c0 cd dn q => ?_⟩
      · rw [z1 c x c1]
        dsimp only
        rw [v2_ne _ _ _ _ c2, r1 c x c1]
        exact ho c x c1 c2
      · rw [z64, if_neg (by omega)]
        exact hx x hxx
      · rw [z64]
        by_cases y : x = kS n a + ((b : Int) - a - 1)
        · rw [if_pos (by omega)]
          exact ⟨j1, j2⟩
        · rw [if_neg (by omega)]
          exact hI.1 x x0 (by omega)
      · by_cases y : c = a ∧ d = b
        · refine ⟨kS n a + ((b : Int) - a - 1), by omega, fun w w0 w1 => ?_⟩
          rw [z64, if_pos rfl, y.1, y.2]
          exact j3 w w0 w1
        · obtain ⟨x, hx1, hx2⟩ := hI.2 c d c0 cd dn (by omega)
          refine ⟨x, by omega, fun w w0 w1 => ?_⟩
          rw [z64, if_neg (by omega)]
          exact hx2 w w0 w1
set_option maxRecDepth 100000 in
theorem W9_ln_7 {τ : kzM} {n : Nat} (hn : 2 ≤ n ∧ n ≤ 5) {i : Int} (i0 : 0 ≤ i) (i1 : i < szN n) {f : Int → Int} (hf : ∀ x : Int, 0 ≤ x → x < n → f x = rowN n i x) {Q : Unit → kzM → Prop} {σ0 : kzM} (h0 : σ0.1 588 0 = n) (hQ : ∀ ρ, on64 σ0 ρ → ρ.1 600 = f → (∀ x : Int, x < 10 * i → ρ.1 604 x = σ0.1 604 x) → nbI n i (ρ.1 604) n (n + 1) (mN n) → Q () ρ) : ∀ (N a : Nat) (σ : kzM), a ≤ n → n - a < N → on64 σ0 σ → σ.1 600 = f → (∀ x : Int, x < 10 * i → σ.1 604 x = σ0.1 604 x) → nbI n i (σ.1 604) a (a + 1) (kS n a) → Wz (lp (fun _ _ _ _ => none) (Z9_listNeighbours_7B kdG0) N 601 (10 * i + kS n a) (a : Int)) σ Q := by
  have sz := (way_n hn).2.2.2.1
  intro N
  induction N with
  | zero => intro a; intros; omega
  | succ N ih =>
    intro a σ an aN ho h6 hx hI
    rw [lp_succ]
    have ih' := ih (a + 1)
    generalize lp (fun _ _ _ _ => none) (Z9_listNeighbours_7B kdG0) N = L at ih' ⊢
    have s0 : σ.1 588 0 = n := by rw [ho 588 0 (by decide) (by decide), h0]
    unfold Z9_listNeighbours_7B
    simp only [Z3_size, Wz_rt, Wz_cnd, Wz_lI, Wz_lW, Wz_lL, Wz_cl, Wz_cv, Wz_nz, Wz_gI, Wz_gR, Wz_sI, Wz_aI, Wz_aZ, Wz_aL, Wz_aN, Wz_aR, Wz_tI, Wz_tZ, Wz_tL, Option.some.injEq, exists_eq_left', zB_0, zB_1, true_and, and_true, true_implies, not_true_eq_false, false_implies, not_false_eq_true, Classical.not_not, g_0, g_1, g_2, g_3, g_4, g_5, g_327, g_328, g_329, g_330, g_331, g_332, g_333, g_334, g_335, g_336, g_337, g_338, g_339, g_340, g_341, g_342, g_343, g_464, g_465, g_466, g_484, g_485, g_486, g_487, g_488, g_489, g_490, g_491, g_492, g_493, g_494, g_495, g_496, g_497, g_498, g_499, g_500, g_501, g_562, g_563, g_564, g_565, g_566, g_567, g_568, g_574, g_580, g_581, g_582, g_583, g_584, g_585, g_586, g_587, g_588, g_589, g_590, g_591, g_592, g_600, g_601, g_602, g_603, g_604, g_605, g_606, g_607, g_608, g_609, g_610, g_611, g_612, g_613, g_614, g_615, g_616, g_617, g_618, g_619, g_620, g_621, g_622, g_623, g_624, g_625, g_626, g_627, g_628, g_629, g_630, g_631, g_632, g_633, g_634, g_635, g_636, g_637, g_638, g_639, g_640, g_641, g_642, g_643, g_644, g_645, g_646, g_647, g_648, g_649, g_650, g_651, g_652, g_653, g_654, g_655, g_656, g_657, g_658, g_659, g_660, g_661, g_662, g_0_0, g_0_1, g_0_2, g_0_3, g_0_4, g_0_5, g_0_6, g_0_7, g_0_8, g_0_9, g_0_10, g_0_11, g_1_0, g_3_0, g_327_0, g_327_1, g_327_2, g_327_3, g_328_0, g_330_0, g_332_0, g_334_0, g_336_0, g_336_1, g_336_2, g_336_3, g_337_0, g_339_0, g_341_0, g_464_0, g_464_1, g_484_0, g_484_1, g_484_2, g_485_0, g_487_0, g_489_0, g_491_0, g_491_1, g_491_2, g_491_3, g_491_4, g_491_5, g_491_6, g_491_7, g_496_0, g_498_0, g_500_0, g_500_1, g_500_3, g_500_4, g_500_5, g_500_6, g_500_7, g_562_0, g_564_0, g_566_0, g_580_0, g_580_1, g_580_2, g_580_3, g_581_0, g_583_0, g_585_0, g_588_1, g_588_2, g_588_3, g_588_4, g_588_6, g_601_0, g_601_1, g_601_2, g_601_3, g_601_4, g_601_5, g_601_6, g_601_7, g_601_8, g_608_0, g_610_0, g_612_0, g_612_2, g_612_4, g_612_5, g_612_7, g_612_8, g_612_9, g_612_10, g_612_11, g_612_12, g_612_13, g_612_14, g_612_15, g_612_16, g_612_19, g_612_20, g_612_22, g_612_24, g_612_25, g_612_26, g_612_27, g_612_28, g_612_30, g_612_31, g_612_32, g_612_33, g_612_34, g_612_36, g_612_37, g_612_38, g_612_39, g_612_40, g_612_41, g_612_42, g_612_43, g_612_44, g_612_46, g_612_47, g_612_48, g_612_49, g_612_50, g_612_53, g_612_56, g_612_57, g_612_58, g_612_59, g_612_61, g_612_62, g_612_63, g_612_64, s0]
    refine ⟨fun c => ?_, fun c => ⟨by omega, ?_⟩⟩
    · have ea : a = n := by omega
      subst ea
      have e := kS_e0 ⟨a, by omega⟩ hn.1
      dsimp only at e
      rw [e.1] at hI
      exact hQ σ ho h6 hx hI
    · unfold Z9_listNeighbours_23
      have q := W9_ln_23 (τ := τ) hn i0 i1 hf (a := a) (by omega) (K := L) (Q := Q) h0 (fun ρ r1 r2 r3 r4 => by
        have := ih' ρ (by omega) (by omega) r1 r2 r3 (by
          rw [show ((a + 1 : Nat) : Int) = (a : Int) + 1 by omega, show (a : Int) + 1 + 1 = (a : Int) + 2 by omega]
          exact r4)
        rw [show ((a + 1 : Nat) : Int) = (a : Int) + 1 by omega] at this
        exact this) NN (a + 1) σ (by omega) (by omega) (by unfold NN; omega) ho h6 hx (by
          rw [show kS n a + (((a + 1 : Nat) : Int) - a - 1) = kS n a by omega, show ((a + 1 : Nat) : Int) = (a : Int) + 1 by omega]
          exact hI)
      rw [show kS n a + (((a + 1 : Nat) : Int) - a - 1) = kS n a by omega, show ((a + 1 : Nat) : Int) = (a : Int) + 1 by omega] at q
      exact q
set_option maxRecDepth 100000 in
theorem W9_neighbours {σ : kzM} {n : Nat} (hn : 2 ≤ n ∧ n ≤ 5) {i : Int} (i0 : 0 ≤ i) (i1 : i < szN n) (hf : ∀ x : Int, 0 ≤ x → x < n → σ.1 600 x = rowN n i x) (h0 : σ.1 588 0 = n) {Q : Unit → kzM → Prop} (hQ : ∀ ρ, on64 σ ρ → ρ.1 600 = σ.1 600 → (∀ x : Int, x < 10 * i → ρ.1 604 x = σ.1 604 x) → nbI n i (ρ.1 604) n (n + 1) (mN n) → Q () ρ) : Wz (Z9_listNeighbours kdG0 601 i) σ Q := by
  have sz := (way_n hn).2.2.2.1
  unfold Z9_listNeighbours Z9_listNeighbours_7
  simp only [Wz_rt, Wz_cnd, Wz_lI, Wz_lW, Wz_lL, Wz_cl, Wz_cv, Wz_nz, Wz_gI, Wz_gR, Wz_sI, Wz_aI, Wz_aZ, Wz_aL, Wz_aN, Wz_aR, Wz_tI, Wz_tZ, Wz_tL, Option.some.injEq, exists_eq_left', zB_0, zB_1, true_and, and_true, true_implies, not_true_eq_false, false_implies, not_false_eq_true, Classical.not_not, g_0, g_1, g_2, g_3, g_4, g_5, g_327, g_328, g_329, g_330, g_331, g_332, g_333, g_334, g_335, g_336, g_337, g_338, g_339, g_340, g_341, g_342, g_343, g_464, g_465, g_466, g_484, g_485, g_486, g_487, g_488, g_489, g_490, g_491, g_492, g_493, g_494, g_495, g_496, g_497, g_498, g_499, g_500, g_501, g_562, g_563, g_564, g_565, g_566, g_567, g_568, g_574, g_580, g_581, g_582, g_583, g_584, g_585, g_586, g_587, g_588, g_589, g_590, g_591, g_592, g_600, g_601, g_602, g_603, g_604, g_605, g_606, g_607, g_608, g_609, g_610, g_611, g_612, g_613, g_614, g_615, g_616, g_617, g_618, g_619, g_620, g_621, g_622, g_623, g_624, g_625, g_626, g_627, g_628, g_629, g_630, g_631, g_632, g_633, g_634, g_635, g_636, g_637, g_638, g_639, g_640, g_641, g_642, g_643, g_644, g_645, g_646, g_647, g_648, g_649, g_650, g_651, g_652, g_653, g_654, g_655, g_656, g_657, g_658, g_659, g_660, g_661, g_662, g_0_0, g_0_1, g_0_2, g_0_3, g_0_4, g_0_5, g_0_6, g_0_7, g_0_8, g_0_9, g_0_10, g_0_11, g_1_0, g_3_0, g_327_0, g_327_1, g_327_2, g_327_3, g_328_0, g_330_0, g_332_0, g_334_0, g_336_0, g_336_1, g_336_2, g_336_3, g_337_0, g_339_0, g_341_0, g_464_0, g_464_1, g_484_0, g_484_1, g_484_2, g_485_0, g_487_0, g_489_0, g_491_0, g_491_1, g_491_2, g_491_3, g_491_4, g_491_5, g_491_6, g_491_7, g_496_0, g_498_0, g_500_0, g_500_1, g_500_3, g_500_4, g_500_5, g_500_6, g_500_7, g_562_0, g_564_0, g_566_0, g_580_0, g_580_1, g_580_2, g_580_3, g_581_0, g_583_0, g_585_0, g_588_1, g_588_2, g_588_3, g_588_4, g_588_6, g_601_0, g_601_1, g_601_2, g_601_3, g_601_4, g_601_5, g_601_6, g_601_7, g_601_8, g_608_0, g_610_0, g_612_0, g_612_2, g_612_4, g_612_5, g_612_7, g_612_8, g_612_9, g_612_10, g_612_11, g_612_12, g_612_13, g_612_14, g_612_15, g_612_16, g_612_19, g_612_20, g_612_22, g_612_24, g_612_25, g_612_26, g_612_27, g_612_28, g_612_30, g_612_31, g_612_32, g_612_33, g_612_34, g_612_36, g_612_37, g_612_38, g_612_39, g_612_40, g_612_41, g_612_42, g_612_43, g_612_44, g_612_46, g_612_47, g_612_48, g_612_49, g_612_50, g_612_53, g_612_56, g_612_57, g_612_58, g_612_59, g_612_61, g_612_62, g_612_63, g_612_64]
  have q := W9_ln_7 (τ := σ) hn i0 i1 hf h0 hQ NN 0 σ (by omega) (by unfold NN; omega) (fun _ _ _ _ => rfl) rfl (fun _ _ => rfl) ⟨fun x a b => by
    rw [show kS n 0 = 0 from rfl] at b
    omega, fun c d c0 cd dn q => by omega⟩
  rw [show 10 * i + kS n 0 = i * 10 by rw [show kS n 0 = 0 from rfl]; omega] at q
  exact ⟨by omega, q⟩
