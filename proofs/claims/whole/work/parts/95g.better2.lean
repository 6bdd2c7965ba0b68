/-! better: the class -/
theorem ex_row6 {σ : kzM} (a b : Int) : (v2 (v2 σ.1 600 a (σ.1 600 b)) 600 b (σ.1 600 a)) 600 = exF (σ.1 600) a b := by
  funext x
  unfold exF
  rw [v2_eq]
  by_cases c : x = b
  · rw [if_pos ⟨rfl, c⟩, if_pos c]
  · rw [if_neg (fun q => c q.2), if_neg c, v2_eq]
    by_cases d : x = a
    · rw [if_pos ⟨rfl, d⟩, if_pos d]
    · rw [if_neg (fun q => d q.2), if_neg d]
set_option maxRecDepth 100000 in
theorem W3_ex {σ : kzM} {a b : Int} (a0 : 0 ≤ a) (a1 : a < 7) (b0 : 0 ≤ b) (b1 : b < 7) {Q : Unit → kzM → Prop} (hQ : ∀ ρ : kzM, (∀ c x, c ≠ 600 → ρ.1 c x = σ.1 c x) → ρ.1 600 = exF (σ.1 600) a b → Q () ρ) : Wz (Z3_exchange kdG0 588 a b) σ Q := by
  simp only [Z3_exchange, Wz_rt, Wz_cnd, Wz_lI, Wz_lW, Wz_lL, Wz_cl, Wz_cv, Wz_nz, Wz_gI, Wz_gR, Wz_sI, Wz_aI, Wz_aZ, Wz_aL, Wz_aN, Wz_aR, Wz_tI, Wz_tZ, Wz_tL, Option.some.injEq, exists_eq_left', zB_0, zB_1, true_and, and_true, true_implies, not_true_eq_false, false_implies, not_false_eq_true, Classical.not_not, g_0, g_1, g_2, g_3, g_4, g_5, g_327, g_328, g_329, g_330, g_331, g_332, g_333, g_334, g_335, g_336, g_337, g_338, g_339, g_340, g_341, g_342, g_343, g_464, g_465, g_466, g_484, g_485, g_486, g_487, g_488, g_489, g_490, g_491, g_492, g_493, g_494, g_495, g_496, g_497, g_498, g_499, g_500, g_501, g_562, g_563, g_564, g_565, g_566, g_567, g_568, g_574, g_580, g_581, g_582, g_583, g_584, g_585, g_586, g_587, g_588, g_589, g_590, g_591, g_592, g_600, g_601, g_602, g_603, g_604, g_605, g_606, g_607, g_608, g_609, g_610, g_611, g_612, g_613, g_614, g_615, g_616, g_617, g_618, g_619, g_620, g_621, g_622, g_623, g_624, g_625, g_626, g_627, g_628, g_629, g_630, g_631, g_632, g_633, g_634, g_635, g_636, g_637, g_638, g_639, g_640, g_641, g_642, g_643, g_644, g_645, g_646, g_647, g_648, g_649, g_650, g_651, g_652, g_653, g_654, g_655, g_656, g_657, g_658, g_659, g_660, g_661, g_662, g_0_0, g_0_1, g_0_2, g_0_3, g_0_4, g_0_5, g_0_6, g_0_7, g_0_8, g_0_9, g_0_10, g_0_11, g_1_0, g_3_0, g_327_0, g_327_1, g_327_2, g_327_3, g_328_0, g_330_0, g_332_0, g_334_0, g_336_0, g_336_1, g_336_2, g_336_3, g_337_0, g_339_0, g_341_0, g_464_0, g_464_1, g_484_0, g_484_1, g_484_2, g_485_0, g_487_0, g_489_0, g_491_0, g_491_1, g_491_2, g_491_3, g_491_4, g_491_5, g_491_6, g_491_7, g_496_0, g_498_0, g_500_0, g_500_1, g_500_3, g_500_4, g_500_5, g_500_6, g_500_7, g_562_0, g_564_0, g_566_0, g_580_0, g_580_1, g_580_2, g_580_3, g_581_0, g_583_0, g_585_0, g_588_1, g_588_2, g_588_3, g_588_4, g_588_6, g_601_0, g_601_1, g_601_2, g_601_3, g_601_4, g_601_5, g_601_6, g_601_7, g_601_8, g_608_0, g_610_0, g_612_0, g_612_2, g_612_4, g_612_5, g_612_7, g_612_8, g_612_9, g_612_10, g_612_11, g_612_12, g_612_13, g_612_14, g_612_15, g_612_16, g_612_19, g_612_20, g_612_22, g_612_24, g_612_25, g_612_26, g_612_27, g_612_28, g_612_30, g_612_31, g_612_32, g_612_33, g_612_34, g_612_36, g_612_37, g_612_38, g_612_39, g_612_40, g_612_41, g_612_42, g_612_43, g_612_44, g_612_46, g_612_47, g_612_48, g_612_49, g_612_50, g_612_53, g_612_56, g_612_57, g_612_58, g_612_59, g_612_61, g_612_62, g_612_63, g_612_64]
  refine ⟨by omega, by omega, by omega, by omega, hQ _ (fun c x hc => ?_) ?_⟩
  · dsimp only
    rw [v2_ne _ _ _ _ hc, v2_ne _ _ _ _ hc]
  · exact ex_row6 (σ := σ) a b
theorem stx_eq {τ : kzM} {f : Int → Int} {i j c a b : Int} : stx τ f i j (c, a, b) = if cP τ (exF f i j) < c then (cP τ (exF f i j), i, j) else (c, a, b) := rfl
set_option maxRecDepth 100000 in
theorem W3_im_27 {τ : kzM} (hI : Inv τ) {n : Nat} (h5 : τ.1 588 0 = n) {f : Int → Int} (hf : goodF n f) {K : Nat → Int → Int → Int → Int → kzM → Option (Int × kzM)} {i : Int} (i0 : 0 ≤ i) {Q : Int → kzM → Prop} : ∀ (N k : Nat) (j c a b : Int) (σ : kzM), k < N → i < j → j + k = n → tabL τ σ → σ.1 600 = f → (∀ ρ, tabL τ ρ → ρ.1 600 = f → Wz (K 588 (inX τ f i k j (c, a, b)).1 (inX τ f i k j (c, a, b)).2.1 (inX τ f i k j (c, a, b)).2.2 (i + 1)) ρ Q) → Wz (lp (fun _ _ _ _ _ _ _ => none) (Z3_improveOnce_27B kdG0 K) N 588 c a b i j) σ Q := by
  have i9 := hI.2.2.2.2.2.2.2.2
  unfold I9 at i9
  have s1 := i9.1
  intro N
  induction N with
  | zero => intro k; intros; omega
  | succ N ih =>
    intro k j c a b σ hN ij jk hL h6 hQ
    rw [lp_succ]
    have ih' := ih (k - 1) (j + 1)
    generalize lp (fun _ _ _ _ _ _ _ => none) (Z3_improveOnce_27B kdG0 K) N = L at ih' ⊢
    have s0 : σ.1 588 0 = n := by rw [hL 588 0 (by decide), h5]
    unfold Z3_improveOnce_27B
    simp only [Z3_improveOnce_73, Wz_rt, Wz_cnd, Wz_lI, Wz_lW, Wz_lL, Wz_cl, Wz_cv, Wz_nz, Wz_gI, Wz_gR, Wz_sI, Wz_aI, Wz_aZ, Wz_aL, Wz_aN, Wz_aR, Wz_tI, Wz_tZ, Wz_tL, Option.some.injEq, exists_eq_left', zB_0, zB_1, true_and, and_true, true_implies, not_true_eq_false, false_implies, not_false_eq_true, Classical.not_not, g_0, g_1, g_2, g_3, g_4, g_5, g_327, g_328, g_329, g_330, g_331, g_332, g_333, g_334, g_335, g_336, g_337, g_338, g_339, g_340, g_341, g_342, g_343, g_464, g_465, g_466, g_484, g_485, g_486, g_487, g_488, g_489, g_490, g_491, g_492, g_493, g_494, g_495, g_496, g_497, g_498, g_499, g_500, g_501, g_562, g_563, g_564, g_565, g_566, g_567, g_568, g_574, g_580, g_581, g_582, g_583, g_584, g_585, g_586, g_587, g_588, g_589, g_590, g_591, g_592, g_600, g_601, g_602, g_603, g_604, g_605, g_606, g_607, g_608, g_609, g_610, g_611, g_612, g_613, g_614, g_615, g_616, g_617, g_618, g_619, g_620, g_621, g_622, g_623, g_624, g_625, g_626, g_627, g_628, g_629, g_630, g_631, g_632, g_633, g_634, g_635, g_636, g_637, g_638, g_639, g_640, g_641, g_642, g_643, g_644, g_645, g_646, g_647, g_648, g_649, g_650, g_651, g_652, g_653, g_654, g_655, g_656, g_657, g_658, g_659, g_660, g_661, g_662, g_0_0, g_0_1, g_0_2, g_0_3, g_0_4, g_0_5, g_0_6, g_0_7, g_0_8, g_0_9, g_0_10, g_0_11, g_1_0, g_3_0, g_327_0, g_327_1, g_327_2, g_327_3, g_328_0, g_330_0, g_332_0, g_334_0, g_336_0, g_336_1, g_336_2, g_336_3, g_337_0, g_339_0, g_341_0, g_464_0, g_464_1, g_484_0, g_484_1, g_484_2, g_485_0, g_487_0, g_489_0, g_491_0, g_491_1, g_491_2, g_491_3, g_491_4, g_491_5, g_491_6, g_491_7, g_496_0, g_498_0, g_500_0, g_500_1, g_500_3, g_500_4, g_500_5, g_500_6, g_500_7, g_562_0, g_564_0, g_566_0, g_580_0, g_580_1, g_580_2, g_580_3, g_581_0, g_583_0, g_585_0, g_588_1, g_588_2, g_588_3, g_588_4, g_588_6, g_601_0, g_601_1, g_601_2, g_601_3, g_601_4, g_601_5, g_601_6, g_601_7, g_601_8, g_608_0, g_610_0, g_612_0, g_612_2, g_612_4, g_612_5, g_612_7, g_612_8, g_612_9, g_612_10, g_612_11, g_612_12, g_612_13, g_612_14, g_612_15, g_612_16, g_612_19, g_612_20, g_612_22, g_612_24, g_612_25, g_612_26, g_612_27, g_612_28, g_612_30, g_612_31, g_612_32, g_612_33, g_612_34, g_612_36, g_612_37, g_612_38, g_612_39, g_612_40, g_612_41, g_612_42, g_612_43, g_612_44, g_612_46, g_612_47, g_612_48, g_612_49, g_612_50, g_612_53, g_612_56, g_612_57, g_612_58, g_612_59, g_612_61, g_612_62, g_612_63, g_612_64, s0]
    refine ⟨fun d => ⟨by omega, ?_⟩, fun d => ?_⟩
    · have : k = 0 := by omega
      subst this
      exact hQ σ hL h6
    · obtain ⟨k, rfl⟩ : ∃ m, k = m + 1 := ⟨k - 1, by omega⟩
      rw [show k + 1 - 1 = k by omega] at ih'
      refine W3_ex i0 (by omega) (by omega) (by omega) fun ρ h1 h2 => ?_
      have hL2 : tabL τ ρ := hL.tr (tabL.o600 h1)
      have gx := goodF_ex hf i0 (show i < n by omega) (show 0 ≤ j by omega) (show j < n by omega)
      rw [h6] at h2
      refine W3_tot hI hL2 (fun x x0 x1 => by have := gx.1 x x0 (by omega); rw [h2]; omega) ?_
      rw [h2]
      refine W3_ex i0 (by omega) (by omega) (by omega) fun ζ z1 z2 => ?_
      have hL3 : tabL τ ζ := hL2.tr (tabL.o600 z1)
      rw [h2, exF_2] at z2
      rw [inX, stx_eq] at hQ
      refine ⟨fun e => ⟨by omega, ?_⟩, fun e => ⟨by omega, ?_⟩⟩
      · rw [if_neg (by omega)] at hQ
        exact ih' c a b ζ (by omega) (by omega) (by omega) hL3 z2 hQ
      · rw [if_pos (by omega)] at hQ
        exact ih' _ i j ζ (by omega) (by omega) (by omega) hL3 z2 hQ
set_option maxRecDepth 100000 in
theorem W3_im_12 {τ : kzM} (hI : Inv τ) {n : Nat} (h5 : τ.1 588 0 = n) {f : Int → Int} (hf : goodF n f) {Q : Int → kzM → Prop} : ∀ (N k : Nat) (i c a b : Int) (σ : kzM), k < N → 0 ≤ i → i + k = n → tabL τ σ → σ.1 600 = f → okX τ n f (c, a, b) → ((outX τ f k i (c, a, b)).2.1 = -1 → ∀ ρ, tabL τ ρ → ρ.1 600 = f → Q 0 ρ) → (¬(outX τ f k i (c, a, b)).2.1 = -1 → ∀ ρ, tabL τ ρ → ρ.1 600 = exF f (outX τ f k i (c, a, b)).2.1 (outX τ f k i (c, a, b)).2.2 → Q 1 ρ) → Wz (lp (fun _ _ _ _ _ _ => none) (Z3_improveOnce_12B kdG0) N 588 c a b i) σ Q := by
  have i9 := hI.2.2.2.2.2.2.2.2
  unfold I9 at i9
  have s1 := i9.1
  intro N
  induction N with
  | zero => intro k; intros; omega
  | succ N ih =>
    intro k i c a b σ hN i0 ik hL h6 ho q0 q1
    rw [lp_succ]
    have ih' := ih (k - 1) (i + 1)
    generalize lp (fun _ _ _ _ _ _ => none) (Z3_improveOnce_12B kdG0) N = L at ih' ⊢
    have s0 : σ.1 588 0 = n := by rw [hL 588 0 (by decide), h5]
    unfold Z3_improveOnce_12B
    simp only [Wz_rt, Wz_cnd, Wz_lI, Wz_lW, Wz_lL, Wz_cl, Wz_cv, Wz_nz, Wz_gI, Wz_gR, Wz_sI, Wz_aI, Wz_aZ, Wz_aL, Wz_aN, Wz_aR, Wz_tI, Wz_tZ, Wz_tL, Option.some.injEq, exists_eq_left', zB_0, zB_1, true_and, and_true, true_implies, not_true_eq_false, false_implies, not_false_eq_true, Classical.not_not, g_0, g_1, g_2, g_3, g_4, g_5, g_327, g_328, g_329, g_330, g_331, g_332, g_333, g_334, g_335, g_336, g_337, g_338, g_339, g_340, g_341, g_342, g_343, g_464, g_465, g_466, g_484, g_485, g_486, g_487, g_488, g_489, g_490, g_491, g_492, g_493, g_494, g_495, g_496, g_497, g_498, g_499, g_500, g_501, g_562, g_563, g_564, g_565, g_566, g_567, g_568, g_574, g_580, g_581, g_582, g_583, g_584, g_585, g_586, g_587, g_588, g_589, g_590, g_591, g_592, g_600, g_601, g_602, g_603, g_604, g_605, g_606, g_607, g_608, g_609, g_610, g_611, g_612, g_613, g_614, g_615, g_616, g_617, g_618, g_619, g_620, g_621, g_622, g_623, g_624, g_625, g_626, g_627, g_628, g_629, g_630, g_631, g_632, g_633, g_634, g_635, g_636, g_637, g_638, g_639, g_640, g_641, g_642, g_643, g_644, g_645, g_646, g_647, g_648, g_649, g_650, g_651, g_652, g_653, g_654, g_655, g_656, g_657, g_658, g_659, g_660, g_661, g_662, g_0_0, g_0_1, g_0_2, g_0_3, g_0_4, g_0_5, g_0_6, g_0_7, g_0_8, g_0_9, g_0_10, g_0_11, g_1_0, g_3_0, g_327_0, g_327_1, g_327_2, g_327_3, g_328_0, g_330_0, g_332_0, g_334_0, g_336_0, g_336_1, g_336_2, g_336_3, g_337_0, g_339_0, g_341_0, g_464_0, g_464_1, g_484_0, g_484_1, g_484_2, g_485_0, g_487_0, g_489_0, g_491_0, g_491_1, g_491_2, g_491_3, g_491_4, g_491_5, g_491_6, g_491_7, g_496_0, g_498_0, g_500_0, g_500_1, g_500_3, g_500_4, g_500_5, g_500_6, g_500_7, g_562_0, g_564_0, g_566_0, g_580_0, g_580_1, g_580_2, g_580_3, g_581_0, g_583_0, g_585_0, g_588_1, g_588_2, g_588_3, g_588_4, g_588_6, g_601_0, g_601_1, g_601_2, g_601_3, g_601_4, g_601_5, g_601_6, g_601_7, g_601_8, g_608_0, g_610_0, g_612_0, g_612_2, g_612_4, g_612_5, g_612_7, g_612_8, g_612_9, g_612_10, g_612_11, g_612_12, g_612_13, g_612_14, g_612_15, g_612_16, g_612_19, g_612_20, g_612_22, g_612_24, g_612_25, g_612_26, g_612_27, g_612_28, g_612_30, g_612_31, g_612_32, g_612_33, g_612_34, g_612_36, g_612_37, g_612_38, g_612_39, g_612_40, g_612_41, g_612_42, g_612_43, g_612_44, g_612_46, g_612_47, g_612_48, g_612_49, g_612_50, g_612_53, g_612_56, g_612_57, g_612_58, g_612_59, g_612_61, g_612_62, g_612_63, g_612_64, s0]
    refine ⟨fun d => ?_, fun d => ⟨by omega, ?_⟩⟩
    · have : k = 0 := by omega
      subst this
      rw [outX] at q0 q1
      refine ⟨fun e => q0 e σ hL h6, fun e => ?_⟩
      rcases ho with ho | ⟨o1, o2, o3, _⟩
      · exact absurd ho.1 e
      · dsimp only at o1 o2 o3
        refine W3_ex o1 (by omega) (by omega) (by omega) fun ρ h1 h2 => ?_
        exact q1 e ρ (hL.tr (tabL.o600 h1)) (by rw [h2, h6])
    · obtain ⟨k, rfl⟩ : ∃ m, k = m + 1 := ⟨k - 1, by omega⟩
      rw [show k + 1 - 1 = k by omega] at ih'
      unfold Z3_improveOnce_27
      refine W3_im_27 hI h5 hf i0 NN k (i + 1) c a b σ (by unfold NN; omega) (by omega) (by omega) hL h6 fun ρ h1 h2 => ?_
      rw [outX] at q0 q1
      exact ih' _ _ _ ρ (by omega) (by omega) (by omega) h1 h2 (okX_in i0 k (i + 1) _ (by omega) (by omega) ho) q0 q1
set_option maxRecDepth 100000 in
theorem W3_improveOnce {τ : kzM} (hI : Inv τ) {n : Nat} (h5 : τ.1 588 0 = n) {f : Int → Int} (hf : goodF n f) {σ : kzM} (hL : tabL τ σ) (h6 : σ.1 600 = f) {Q : Int → kzM → Prop} (q0 : (bxF τ n f).2.1 = -1 → ∀ ρ, tabL τ ρ → ρ.1 600 = f → Q 0 ρ) (q1 : ¬(bxF τ n f).2.1 = -1 → ∀ ρ, tabL τ ρ → ρ.1 600 = exF f (bxF τ n f).2.1 (bxF τ n f).2.2 → Q 1 ρ) : Wz (Z3_improveOnce kdG0 588) σ Q := by
  unfold Z3_improveOnce Z3_improveOnce_12
  simp only [Wz_rt, Wz_cnd, Wz_lI, Wz_lW, Wz_lL, Wz_cl, Wz_cv, Wz_nz, Wz_gI, Wz_gR, Wz_sI, Wz_aI, Wz_aZ, Wz_aL, Wz_aN, Wz_aR, Wz_tI, Wz_tZ, Wz_tL, Option.some.injEq, exists_eq_left', zB_0, zB_1, true_and, and_true, true_implies, not_true_eq_false, false_implies, not_false_eq_true, Classical.not_not, g_0, g_1, g_2, g_3, g_4, g_5, g_327, g_328, g_329, g_330, g_331, g_332, g_333, g_334, g_335, g_336, g_337, g_338, g_339, g_340, g_341, g_342, g_343, g_464, g_465, g_466, g_484, g_485, g_486, g_487, g_488, g_489, g_490, g_491, g_492, g_493, g_494, g_495, g_496, g_497, g_498, g_499, g_500, g_501, g_562, g_563, g_564, g_565, g_566, g_567, g_568, g_574, g_580, g_581, g_582, g_583, g_584, g_585, g_586, g_587, g_588, g_589, g_590, g_591, g_592, g_600, g_601, g_602, g_603, g_604, g_605, g_606, g_607, g_608, g_609, g_610, g_611, g_612, g_613, g_614, g_615, g_616, g_617, g_618, g_619, g_620, g_621, g_622, g_623, g_624, g_625, g_626, g_627, g_628, g_629, g_630, g_631, g_632, g_633, g_634, g_635, g_636, g_637, g_638, g_639, g_640, g_641, g_642, g_643, g_644, g_645, g_646, g_647, g_648, g_649, g_650, g_651, g_652, g_653, g_654, g_655, g_656, g_657, g_658, g_659, g_660, g_661, g_662, g_0_0, g_0_1, g_0_2, g_0_3, g_0_4, g_0_5, g_0_6, g_0_7, g_0_8, g_0_9, g_0_10, g_0_11, g_1_0, g_3_0, g_327_0, g_327_1, g_327_2, g_327_3, g_328_0, g_330_0, g_332_0, g_334_0, g_336_0, g_336_1, g_336_2, g_336_3, g_337_0, g_339_0, g_341_0, g_464_0, g_464_1, g_484_0, g_484_1, g_484_2, g_485_0, g_487_0, g_489_0, g_491_0, g_491_1, g_491_2, g_491_3, g_491_4, g_491_5, g_491_6, g_491_7, g_496_0, g_498_0, g_500_0, g_500_1, g_500_3, g_500_4, g_500_5, g_500_6, g_500_7, g_562_0, g_564_0, g_566_0, g_580_0, g_580_1, g_580_2, g_580_3, g_581_0, g_583_0, g_585_0, g_588_1, g_588_2, g_588_3, g_588_4, g_588_6, g_601_0, g_601_1, g_601_2, g_601_3, g_601_4, g_601_5, g_601_6, g_601_7, g_601_8, g_608_0, g_610_0, g_612_0, g_612_2, g_612_4, g_612_5, g_612_7, g_612_8, g_612_9, g_612_10, g_612_11, g_612_12, g_612_13, g_612_14, g_612_15, g_612_16, g_612_19, g_612_20, g_612_22, g_612_24, g_612_25, g_612_26, g_612_27, g_612_28, g_612_30, g_612_31, g_612_32, g_612_33, g_612_34, g_612_36, g_612_37, g_612_38, g_612_39, g_612_40, g_612_41, g_612_42, g_612_43, g_612_44, g_612_46, g_612_47, g_612_48, g_612_49, g_612_50, g_612_53, g_612_56, g_612_57, g_612_58, g_612_59, g_612_61, g_612_62, g_612_63, g_612_64]
  refine W3_tot hI hL (fun x x0 x1 => by have := hf.1 x x0 (by omega); rw [h6]; omega) ?_
  rw [h6]
  exact W3_im_12 hI h5 hf NN n 0 (cP τ f) (-1) (-1) σ (by
    have i9 := hI.2.2.2.2.2.2.2.2
    unfold I9 at i9
    unfold NN
    omega) (by omega) (by omega) hL h6 (Or.inl ⟨rfl, rfl⟩) q0 q1
set_option maxRecDepth 100000 in
theorem W3_improve {τ : kzM} (hI : Inv τ) {n : Nat} (h5 : τ.1 588 0 = n) {Q : Int → kzM → Prop} : ∀ (N k : Nat) (l : Int) (f : Int → Int) (σ : kzM), goodF n f → k < N → l + k = 5040 → 0 ≤ l → tabL τ σ → σ.1 600 = f → (∀ ρ, tabL τ ρ → ρ.1 600 = (runX τ n k f).1 → Q (l + (runX τ n k f).2) ρ) → Wz (lp (fun _ _ _ => none) (Z3_improve_2B kdG0) N 588 l) σ Q := by
  intro N
  induction N with
  | zero => intro k; intros; omega
  | succ N ih =>
    intro k l f σ hf hN lk l0 hL h6 hQ
    rw [lp_succ]
    have ih' := ih (k - 1) (l + 1)
    generalize lp (fun _ _ _ => none) (Z3_improve_2B kdG0) N = L at ih' ⊢
    unfold Z3_improve_2B
    simp only [Z3_improve_22, Wz_rt, Wz_cnd, Wz_lI, Wz_lW, Wz_lL, Wz_cl, Wz_cv, Wz_nz, Wz_gI, Wz_gR, Wz_sI, Wz_aI, Wz_aZ, Wz_aL, Wz_aN, Wz_aR, Wz_tI, Wz_tZ, Wz_tL, Option.some.injEq, exists_eq_left', zB_0, zB_1, true_and, and_true, true_implies, not_true_eq_false, false_implies, not_false_eq_true, Classical.not_not, g_0, g_1, g_2, g_3, g_4, g_5, g_327, g_328, g_329, g_330, g_331, g_332, g_333, g_334, g_335, g_336, g_337, g_338, g_339, g_340, g_341, g_342, g_343, g_464, g_465, g_466, g_484, g_485, g_486, g_487, g_488, g_489, g_490, g_491, g_492, g_493, g_494, g_495, g_496, g_497, g_498, g_499, g_500, g_501, g_562, g_563, g_564, g_565, g_566, g_567, g_568, g_574, g_580, g_581, g_582, g_583, g_584, g_585, g_586, g_587, g_588, g_589, g_590, g_591, g_592, g_600, g_601, g_602, g_603, g_604, g_605, g_606, g_607, g_608, g_609, g_610, g_611, g_612, g_613, g_614, g_615, g_616, g_617, g_618, g_619, g_620, g_621, g_622, g_623, g_624, g_625, g_626, g_627, g_628, g_629, g_630, g_631, g_632, g_633, g_634, g_635, g_636, g_637, g_638, g_639, g_640, g_641, g_642, g_643, g_644, g_645, g_646, g_647, g_648, g_649, g_650, g_651, g_652, g_653, g_654, g_655, g_656, g_657, g_658, g_659, g_660, g_661, g_662, g_0_0, g_0_1, g_0_2, g_0_3, g_0_4, g_0_5, g_0_6, g_0_7, g_0_8, g_0_9, g_0_10, g_0_11, g_1_0, g_3_0, g_327_0, g_327_1, g_327_2, g_327_3, g_328_0, g_330_0, g_332_0, g_334_0, g_336_0, g_336_1, g_336_2, g_336_3, g_337_0, g_339_0, g_341_0, g_464_0, g_464_1, g_484_0, g_484_1, g_484_2, g_485_0, g_487_0, g_489_0, g_491_0, g_491_1, g_491_2, g_491_3, g_491_4, g_491_5, g_491_6, g_491_7, g_496_0, g_498_0, g_500_0, g_500_1, g_500_3, g_500_4, g_500_5, g_500_6, g_500_7, g_562_0, g_564_0, g_566_0, g_580_0, g_580_1, g_580_2, g_580_3, g_581_0, g_583_0, g_585_0, g_588_1, g_588_2, g_588_3, g_588_4, g_588_6, g_601_0, g_601_1, g_601_2, g_601_3, g_601_4, g_601_5, g_601_6, g_601_7, g_601_8, g_608_0, g_610_0, g_612_0, g_612_2, g_612_4, g_612_5, g_612_7, g_612_8, g_612_9, g_612_10, g_612_11, g_612_12, g_612_13, g_612_14, g_612_15, g_612_16, g_612_19, g_612_20, g_612_22, g_612_24, g_612_25, g_612_26, g_612_27, g_612_28, g_612_30, g_612_31, g_612_32, g_612_33, g_612_34, g_612_36, g_612_37, g_612_38, g_612_39, g_612_40, g_612_41, g_612_42, g_612_43, g_612_44, g_612_46, g_612_47, g_612_48, g_612_49, g_612_50, g_612_53, g_612_56, g_612_57, g_612_58, g_612_59, g_612_61, g_612_62, g_612_63, g_612_64]
    refine ⟨fun d => ?_, fun d => ?_⟩
    · have : k = 0 := by omega
      subst this
      have := hQ σ hL h6
      rw [show (runX τ n 0 f).2 = 0 from rfl, Int.add_zero] at this
      exact this
    · obtain ⟨k, rfl⟩ : ∃ m, k = m + 1 := ⟨k - 1, by omega⟩
      rw [show k + 1 - 1 = k by omega] at ih'
      rw [runX] at hQ
      refine W3_improveOnce hI h5 hf hL h6 (fun c ρ h1 h2 => ⟨fun _ => ?_, fun z => absurd rfl z⟩) (fun c ρ h1 h2 => ⟨fun z => absurd z (by decide), fun _ => ⟨by omega, ?_⟩⟩)
      · rw [if_pos c] at hQ
        have := hQ ρ h1 h2
        rw [Int.add_zero] at this
        exact this
      · rw [if_neg c] at hQ
        have b := (bx_step h5 hf c).2.1
        refine ih' _ ρ b (by omega) (by omega) (by omega) h1 h2 (fun ζ z1 z2 => ?_)
        have := hQ ζ z1 z2
        dsimp only at this
        rw [show l + 1 + (runX τ n k (exF f (bxF τ n f).2.1 (bxF τ n f).2.2)).2 = l + ((runX τ n k (exF f (bxF τ n f).2.1 (bxF τ n f).2.2)).2 + 1) by omega]
        exact this
