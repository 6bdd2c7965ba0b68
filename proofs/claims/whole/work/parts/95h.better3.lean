/-! better: the reference -/
set_option maxRecDepth 100000 in
theorem W12_bt_61 {τ : kzM} (hI : Inv τ) {n : Nat} (h5 : τ.1 588 0 = n) {f : Int → Int} (hf : goodF n f) {K0 : Nat → Int → Int → Int → kzM → Option (Int × kzM)} {K : Nat → Int → Int → Int → Int → Int → Int → kzM → Option (Int × kzM)} {i w l : Int} (i0 : 0 ≤ i) {Q : Int → kzM → Prop} : ∀ (N k : Nat) (j c a b : Int) (σ : kzM), k < N → i < j → j + k = n → tabL τ σ → σ.1 659 = f → (∀ ρ, tabL τ ρ → ρ.1 659 = f → Wz (K 612 w l (inX τ f i k j (c, a, b)).1 (inX τ f i k j (c, a, b)).2.1 (inX τ f i k j (c, a, b)).2.2 (i + 1)) ρ Q) → Wz (lp (fun _ _ _ _ _ _ _ _ _ => none) (Z12_better_61B kdG0 K0 K) N 612 w l c a b i j) σ Q := by
  have i9 := hI.2.2.2.2.2.2.2.2
  unfold I9 at i9
  have s1 := i9.1
  intro N
  induction N with
  | zero => intro k; intros; omega
  | succ N ih =>
    intro k j c a b σ hN ij jk hL h6 hQ
    rw [lp_succ]
    have ih' := ih (k - 1) (j + 1)
    generalize lp (fun _ _ _ _ _ _ _ _ _ => none) (Z12_better_61B kdG0 K0 K) N = L at ih' ⊢
    have s0 : σ.1 612 55 = n := by rw [hL 612 55 (by decide)]; omega
    unfold Z12_better_61B
    simp only [Z12_better_101, Wz_rt, Wz_cnd, Wz_lI, Wz_lW, Wz_lL, Wz_cl, Wz_cv, Wz_nz, Wz_gI, Wz_gR, Wz_sI, Wz_aI, Wz_aZ, Wz_aL, Wz_aN, Wz_aR, Wz_tI, Wz_tZ, Wz_tL, Option.some.injEq, exists_eq_left', zB_0, zB_1, true_and, and_true, true_implies, not_true_eq_false, false_implies, not_false_eq_true, Classical.not_not, g_0, g_1, g_2, g_3, g_4, g_5, g_327, g_328, g_329, g_330, g_331, g_332, g_333, g_334, g_335, g_336, g_337, g_338, g_339, g_340, g_341, g_342, g_343, g_464, g_465, g_466, g_484, g_485, g_486, g_487, g_488, g_489, g_490, g_491, g_492, g_493, g_494, g_495, g_496, g_497, g_498, g_499, g_500, g_501, g_562, g_563, g_564, g_565, g_566, g_567, g_568, g_574, g_580, g_581, g_582, g_583, g_584, g_585, g_586, g_587, g_588, g_589, g_590, g_591, g_592, g_600, g_601, g_602, g_603, g_604, g_605, g_606, g_607, g_608, g_609, g_610, g_611, g_612, g_613, g_614, g_615, g_616, g_617, g_618, g_619, g_620, g_621, g_622, g_623, g_624, g_625, g_626, g_627, g_628, g_629, g_630, g_631, g_632, g_633, g_634, g_635, g_636, g_637, g_638, g_639, g_640, g_641, g_642, g_643, g_644, g_645, g_646, g_647, g_648, g_649, g_650, g_651, g_652, g_653, g_654, g_655, g_656, g_657, g_658, g_659, g_660, g_661, g_662, g_0_0, g_0_1, g_0_2, g_0_3, g_0_4, g_0_5, g_0_6, g_0_7, g_0_8, g_0_9, g_0_10, g_0_11, g_1_0, g_3_0, g_327_0, g_327_1, g_327_2, g_327_3, g_328_0, g_330_0, g_332_0, g_334_0, g_336_0, g_336_1, g_336_2, g_336_3, g_337_0, g_339_0, g_341_0, g_464_0, g_464_1, g_484_0, g_484_1, g_484_2, g_485_0, g_487_0, g_489_0, g_491_0, g_491_1, g_491_2, g_491_3, g_491_4, g_491_5, g_491_6, g_491_7, g_496_0, g_498_0, g_500_0, g_500_1, g_500_3, g_500_4, g_500_5, g_500_6, g_500_7, g_562_0, g_564_0, g_566_0, g_580_0, g_580_1, g_580_2, g_580_3, g_581_0, g_583_0, g_585_0, g_588_1, g_588_2, g_588_3, g_588_4, g_588_6, g_601_0, g_601_1, g_601_2, g_601_3, g_601_4, g_601_5, g_601_6, g_601_7, g_601_8, g_608_0, g_610_0, g_612_0, g_612_2, g_612_4, g_612_5, g_612_7, g_612_8, g_612_9, g_612_10, g_612_11, g_612_12, g_612_13, g_612_14, g_612_15, g_612_16, g_612_19, g_612_20, g_612_22, g_612_24, g_612_25, g_612_26, g_612_27, g_612_28, g_612_30, g_612_31, g_612_32, g_612_33, g_612_34, g_612_36, g_612_37, g_612_38, g_612_39, g_612_40, g_612_41, g_612_42, g_612_43, g_612_44, g_612_46, g_612_47, g_612_48, g_612_49, g_612_50, g_612_53, g_612_56, g_612_57, g_612_58, g_612_59, g_612_61, g_612_62, g_612_63, g_612_64, s0]
    refine ⟨fun d => ⟨by omega, ?_⟩, fun d => ?_⟩
    · have : k = 0 := by omega
      subst this
      exact hQ σ hL h6
    · obtain ⟨k, rfl⟩ : ∃ m, k = m + 1 := ⟨k - 1, by omega⟩
      rw [show k + 1 - 1 = k by omega] at ih'
      refine W12_ex i0 (by omega) (by omega) (by omega) fun ρ h1 h2 => ?_
      have hL2 : tabL τ ρ := hL.tr (tabL.o659 h1)
      have gx := goodF_ex hf i0 (show i < n by omega) (show 0 ≤ j by omega) (show j < n by omega)
      rw [h6] at h2
      have hb : ∀ x, 0 ≤ x → x < τ.1 588 0 → 0 ≤ ρ.1 659 x ∧ ρ.1 659 x < τ.1 588 0 := fun x x0 x1 => by
        have := gx.1 x x0 (by omega)
        rw [h2]; omega
      have back : ∀ c' a' b', (stx τ f i j (c, a, b)) = (c', a', b') → Wz (Z12_exchange kdG0 612 i j) ρ fun _ τ' => (-2147483648 ≤ j + 1 ∧ j + 1 ≤ 2147483647) ∧ Wz (L 612 w l c' a' b' i (j + 1)) τ' Q := fun c' a' b' he => by
        refine W12_ex i0 (by omega) (by omega) (by omega) fun ζ z1 z2 => ⟨by omega, ?_⟩
        rw [h2, exF_2] at z2
        rw [inX, he] at hQ
        exact ih' c' a' b' ζ (by omega) (by omega) (by omega) (hL2.tr (tabL.o659 z1)) z2 hQ
      refine W12_tot hI hL2 hb ⟨fun e => ?_, fun e => ?_⟩
      · rw [h2] at e
        exact back c a b (by rw [stx_eq, if_neg (by omega)])
      · refine W12_tot hI hL2 hb ?_
        rw [h2] at e ⊢
        exact back _ i j (by rw [stx_eq, if_pos (by omega)])
set_option maxRecDepth 100000 in
theorem W12_bt_46 {τ : kzM} (hI : Inv τ) {n : Nat} (h5 : τ.1 588 0 = n) {f : Int → Int} (hf : goodF n f) {K0 : Nat → Int → Int → Int → kzM → Option (Int × kzM)} {w l : Int} (hl : 0 ≤ l ∧ l ≤ 10000) {Q : Int → kzM → Prop} : ∀ (N k : Nat) (i c a b : Int) (σ : kzM), k < N → 0 ≤ i → i + k = n → tabL τ σ → σ.1 659 = f → okX τ n f (c, a, b) → ((outX τ f k i (c, a, b)).2.1 = -1 → ∀ ρ, tabL τ ρ → ρ.1 659 = f → Wz (K0 612 w l 0) ρ Q) → (¬(outX τ f k i (c, a, b)).2.1 = -1 → ∀ ρ, tabL τ ρ → ρ.1 659 = exF f (outX τ f k i (c, a, b)).2.1 (outX τ f k i (c, a, b)).2.2 → Wz (K0 612 w (l + 1) 1) ρ Q) → Wz (lp (fun _ _ _ _ _ _ _ _ => none) (Z12_better_46B kdG0 K0) N 612 w l c a b i) σ Q := by
  have i9 := hI.2.2.2.2.2.2.2.2
  unfold I9 at i9
  have s1 := i9.1
  intro N
  induction N with
  | zero => intro k; intros; omega
  | succ N ih =>
    intro k i c a b σ hN i0 ik hL h6 ho q0 q1
    rw [lp_succ]
    have ih' := ih (k - 1) (i + 1)
    generalize lp (fun _ _ _ _ _ _ _ _ => none) (Z12_better_46B kdG0 K0) N = L at ih' ⊢
    have s0 : σ.1 612 55 = n := by rw [hL 612 55 (by decide)]; omega
    unfold Z12_better_46B
    simp only [Z12_better_131, Z12_better_149, Wz_rt, Wz_cnd, Wz_lI, Wz_lW, Wz_lL, Wz_cl, Wz_cv, Wz_nz, Wz_gI, Wz_gR, Wz_sI, Wz_aI, Wz_aZ, Wz_aL, Wz_aN, Wz_aR, Wz_tI, Wz_tZ, Wz_tL, Option.some.injEq, exists_eq_left', zB_0, zB_1, true_and, and_true, true_implies, not_true_eq_false, false_implies, not_false_eq_true, Classical.not_not, g_0, g_1, g_2, g_3, g_4, g_5, g_327, g_328, g_329, g_330, g_331, g_332, g_333, g_334, g_335, g_336, g_337, g_338, g_339, g_340, g_341, g_342, g_343, g_464, g_465, g_466, g_484, g_485, g_486, g_487, g_488, g_489, g_490, g_491, g_492, g_493, g_494, g_495, g_496, g_497, g_498, g_499, g_500, g_501, g_562, g_563, g_564, g_565, g_566, g_567, g_568, g_574, g_580, g_581, g_582, g_583, g_584, g_585, g_586, g_587, g_588, g_589, g_590, g_591, g_592, g_600, g_601, g_602, g_603, g_604, g_605, g_606, g_607, g_608, g_609, g_610, g_611, g_612, g_613, g_614, g_615, g_616, g_617, g_618, g_619, g_620, g_621, g_622, g_623, g_624, g_625, g_626, g_627, g_628, g_629, g_630, g_631, g_632, g_633, g_634, g_635, g_636, g_637, g_638, g_639, g_640, g_641, g_642, g_643, g_644, g_645, g_646, g_647, g_648, g_649, g_650, g_651, g_652, g_653, g_654, g_655, g_656, g_657, g_658, g_659, g_660, g_661, g_662, g_0_0, g_0_1, g_0_2, g_0_3, g_0_4, g_0_5, g_0_6, g_0_7, g_0_8, g_0_9, g_0_10, g_0_11, g_1_0, g_3_0, g_327_0, g_327_1, g_327_2, g_327_3, g_328_0, g_330_0, g_332_0, g_334_0, g_336_0, g_336_1, g_336_2, g_336_3, g_337_0, g_339_0, g_341_0, g_464_0, g_464_1, g_484_0, g_484_1, g_484_2, g_485_0, g_487_0, g_489_0, g_491_0, g_491_1, g_491_2, g_491_3, g_491_4, g_491_5, g_491_6, g_491_7, g_496_0, g_498_0, g_500_0, g_500_1, g_500_3, g_500_4, g_500_5, g_500_6, g_500_7, g_562_0, g_564_0, g_566_0, g_580_0, g_580_1, g_580_2, g_580_3, g_581_0, g_583_0, g_585_0, g_588_1, g_588_2, g_588_3, g_588_4, g_588_6, g_601_0, g_601_1, g_601_2, g_601_3, g_601_4, g_601_5, g_601_6, g_601_7, g_601_8, g_608_0, g_610_0, g_612_0, g_612_2, g_612_4, g_612_5, g_612_7, g_612_8, g_612_9, g_612_10, g_612_11, g_612_12, g_612_13, g_612_14, g_612_15, g_612_16, g_612_19, g_612_20, g_612_22, g_612_24, g_612_25, g_612_26, g_612_27, g_612_28, g_612_30, g_612_31, g_612_32, g_612_33, g_612_34, g_612_36, g_612_37, g_612_38, g_612_39, g_612_40, g_612_41, g_612_42, g_612_43, g_612_44, g_612_46, g_612_47, g_612_48, g_612_49, g_612_50, g_612_53, g_612_56, g_612_57, g_612_58, g_612_59, g_612_61, g_612_62, g_612_63, g_612_64, s0]
    refine ⟨fun d => ?_, fun d => ⟨by omega, ?_⟩⟩
    · have : k = 0 := by omega
      subst this
      rw [outX] at q0 q1
      dsimp only at q0 q1
      refine ⟨fun e => ?_, fun e => ⟨fun z => absurd z (by decide), fun _ => ?_⟩⟩
      · refine q0 ?_ σ hL h6
        rcases ho with ho | ⟨o1, o2, o3, _⟩
        · exact ho.1
        · dsimp only at o1; omega
      · rcases ho with ho | ⟨o1, o2, o3, _⟩
        · have := ho.1
          dsimp only at this
          omega
        · dsimp only at o1 o2 o3
          refine W12_ex o1 (by omega) (by omega) (by omega) fun ρ h1 h2 => ⟨by omega, ?_⟩
          exact q1 (by omega) ρ (hL.tr (tabL.o659 h1)) (by rw [h2, h6])
    · obtain ⟨k, rfl⟩ : ∃ m, k = m + 1 := ⟨k - 1, by omega⟩
      rw [show k + 1 - 1 = k by omega] at ih'
      unfold Z12_better_61
      refine W12_bt_61 hI h5 hf i0 NN k (i + 1) c a b σ (by unfold NN; omega) (by omega) (by omega) hL h6 fun ρ h1 h2 => ?_
      rw [outX] at q0 q1
      exact ih' _ _ _ ρ (by omega) (by omega) (by omega) h1 h2 (okX_in i0 k (i + 1) _ (by omega) (by omega) ho) q0 q1
set_option maxRecDepth 100000 in
theorem W12_bt_26 {τ : kzM} (hI : Inv τ) {n : Nat} (h5 : τ.1 588 0 = n) {w : Int} {Q : Int → kzM → Prop} : ∀ (N k : Nat) (l : Int) (f : Int → Int) (σ : kzM), goodF n f → k + 1 < N → potF τ n f ≤ k → 0 ≤ l → l + k ≤ 5040 → tabL τ σ → σ.1 659 = f → (∀ ρ, tabL τ ρ → ρ.1 659 = (runX τ n k f).1 → Q (if w = 0 then dgF (runX τ n k f).1 n else l + (runX τ n k f).2) ρ) → Wz (lp (fun _ _ _ _ _ => none) (Z12_better_26B kdG0) N 612 w l 1) σ Q := by
  have i9 := hI.2.2.2.2.2.2.2.2
  unfold I9 at i9
  have s1 := i9.1
  have fin : ∀ (N : Nat) (l : Int) (g : Int → Int) (ρ : kzM), 0 < N → goodF n g → tabL τ ρ → ρ.1 659 = g → Q (if w = 0 then dgF g n else l) ρ → Wz (lp (fun _ _ _ _ _ => none) (Z12_better_26B kdG0) N 612 w l 0) ρ Q := fun N l g ρ hN hg hL h6 hQ => by
    obtain ⟨N, rfl⟩ : ∃ M, N = M + 1 := ⟨N - 1, by omega⟩
    rw [lp_succ]
    generalize lp (fun _ _ _ _ _ => none) (Z12_better_26B kdG0) N = L
    unfold Z12_better_26B
    simp only [Z12_better_164, Wz_rt, Wz_cnd, Wz_lI, Wz_lW, Wz_lL, Wz_cl, Wz_cv, Wz_nz, Wz_gI, Wz_gR, Wz_sI, Wz_aI, Wz_aZ, Wz_aL, Wz_aN, Wz_aR, Wz_tI, Wz_tZ, Wz_tL, Option.some.injEq, exists_eq_left', zB_0, zB_1, true_and, and_true, true_implies, not_true_eq_false, false_implies, not_false_eq_true, Classical.not_not, g_0, g_1, g_2, g_3, g_4, g_5, g_327, g_328, g_329, g_330, g_331, g_332, g_333, g_334, g_335, g_336, g_337, g_338, g_339, g_340, g_341, g_342, g_343, g_464, g_465, g_466, g_484, g_485, g_486, g_487, g_488, g_489, g_490, g_491, g_492, g_493, g_494, g_495, g_496, g_497, g_498, g_499, g_500, g_501, g_562, g_563, g_564, g_565, g_566, g_567, g_568, g_574, g_580, g_581, g_582, g_583, g_584, g_585, g_586, g_587, g_588, g_589, g_590, g_591, g_592, g_600, g_601, g_602, g_603, g_604, g_605, g_606, g_607, g_608, g_609, g_610, g_611, g_612, g_613, g_614, g_615, g_616, g_617, g_618, g_619, g_620, g_621, g_622, g_623, g_624, g_625, g_626, g_627, g_628, g_629, g_630, g_631, g_632, g_633, g_634, g_635, g_636, g_637, g_638, g_639, g_640, g_641, g_642, g_643, g_644, g_645, g_646, g_647, g_648, g_649, g_650, g_651, g_652, g_653, g_654, g_655, g_656, g_657, g_658, g_659, g_660, g_661, g_662, g_0_0, g_0_1, g_0_2, g_0_3, g_0_4, g_0_5, g_0_6, g_0_7, g_0_8, g_0_9, g_0_10, g_0_11, g_1_0, g_3_0, g_327_0, g_327_1, g_327_2, g_327_3, g_328_0, g_330_0, g_332_0, g_334_0, g_336_0, g_336_1, g_336_2, g_336_3, g_337_0, g_339_0, g_341_0, g_464_0, g_464_1, g_484_0, g_484_1, g_484_2, g_485_0, g_487_0, g_489_0, g_491_0, g_491_1, g_491_2, g_491_3, g_491_4, g_491_5, g_491_6, g_491_7, g_496_0, g_498_0, g_500_0, g_500_1, g_500_3, g_500_4, g_500_5, g_500_6, g_500_7, g_562_0, g_564_0, g_566_0, g_580_0, g_580_1, g_580_2, g_580_3, g_581_0, g_583_0, g_585_0, g_588_1, g_588_2, g_588_3, g_588_4, g_588_6, g_601_0, g_601_1, g_601_2, g_601_3, g_601_4, g_601_5, g_601_6, g_601_7, g_601_8, g_608_0, g_610_0, g_612_0, g_612_2, g_612_4, g_612_5, g_612_7, g_612_8, g_612_9, g_612_10, g_612_11, g_612_12, g_612_13, g_612_14, g_612_15, g_612_16, g_612_19, g_612_20, g_612_22, g_612_24, g_612_25, g_612_26, g_612_27, g_612_28, g_612_30, g_612_31, g_612_32, g_612_33, g_612_34, g_612_36, g_612_37, g_612_38, g_612_39, g_612_40, g_612_41, g_612_42, g_612_43, g_612_44, g_612_46, g_612_47, g_612_48, g_612_49, g_612_50, g_612_53, g_612_56, g_612_57, g_612_58, g_612_59, g_612_61, g_612_62, g_612_63, g_612_64]
    refine ⟨fun e => ?_, fun e => ?_⟩
    · rw [if_pos e] at hQ
      refine W12_digits (n := n) (by rw [hL 612 55 (by decide)]; omega) (by omega) (fun i i0 i1 => by have := hg.1 i i0 i1; rw [h6]; omega) ?_
      rw [h6]
      exact hQ
    · rw [if_neg e] at hQ
      exact hQ
  intro N
  induction N with
  | zero => intro k; intros; omega
  | succ N ih =>
    intro k l f σ hf hN hp l0 lk hL h6 hQ
    rw [lp_succ]
    have ih' := ih (k - 1) (l + 1)
    have fin' := fin N
    generalize lp (fun _ _ _ _ _ => none) (Z12_better_26B kdG0) N = L at ih' fin' ⊢
    unfold Z12_better_26B Z12_better_46
    simp only [Wz_rt, Wz_cnd, Wz_lI, Wz_lW, Wz_lL, Wz_cl, Wz_cv, Wz_nz, Wz_gI, Wz_gR, Wz_sI, Wz_aI, Wz_aZ, Wz_aL, Wz_aN, Wz_aR, Wz_tI, Wz_tZ, Wz_tL, Option.some.injEq, exists_eq_left', zB_0, zB_1, true_and, and_true, true_implies, not_true_eq_false, false_implies, not_false_eq_true, Classical.not_not, g_0, g_1, g_2, g_3, g_4, g_5, g_327, g_328, g_329, g_330, g_331, g_332, g_333, g_334, g_335, g_336, g_337, g_338, g_339, g_340, g_341, g_342, g_343, g_464, g_465, g_466, g_484, g_485, g_486, g_487, g_488, g_489, g_490, g_491, g_492, g_493, g_494, g_495, g_496, g_497, g_498, g_499, g_500, g_501, g_562, g_563, g_564, g_565, g_566, g_567, g_568, g_574, g_580, g_581, g_582, g_583, g_584, g_585, g_586, g_587, g_588, g_589, g_590, g_591, g_592, g_600, g_601, g_602, g_603, g_604, g_605, g_606, g_607, g_608, g_609, g_610, g_611, g_612, g_613, g_614, g_615, g_616, g_617, g_618, g_619, g_620, g_621, g_622, g_623, g_624, g_625, g_626, g_627, g_628, g_629, g_630, g_631, g_632, g_633, g_634, g_635, g_636, g_637, g_638, g_639, g_640, g_641, g_642, g_643, g_644, g_645, g_646, g_647, g_648, g_649, g_650, g_651, g_652, g_653, g_654, g_655, g_656, g_657, g_658, g_659, g_660, g_661, g_662, g_0_0, g_0_1, g_0_2, g_0_3, g_0_4, g_0_5, g_0_6, g_0_7, g_0_8, g_0_9, g_0_10, g_0_11, g_1_0, g_3_0, g_327_0, g_327_1, g_327_2, g_327_3, g_328_0, g_330_0, g_332_0, g_334_0, g_336_0, g_336_1, g_336_2, g_336_3, g_337_0, g_339_0, g_341_0, g_464_0, g_464_1, g_484_0, g_484_1, g_484_2, g_485_0, g_487_0, g_489_0, g_491_0, g_491_1, g_491_2, g_491_3, g_491_4, g_491_5, g_491_6, g_491_7, g_496_0, g_498_0, g_500_0, g_500_1, g_500_3, g_500_4, g_500_5, g_500_6, g_500_7, g_562_0, g_564_0, g_566_0, g_580_0, g_580_1, g_580_2, g_580_3, g_581_0, g_583_0, g_585_0, g_588_1, g_588_2, g_588_3, g_588_4, g_588_6, g_601_0, g_601_1, g_601_2, g_601_3, g_601_4, g_601_5, g_601_6, g_601_7, g_601_8, g_608_0, g_610_0, g_612_0, g_612_2, g_612_4, g_612_5, g_612_7, g_612_8, g_612_9, g_612_10, g_612_11, g_612_12, g_612_13, g_612_14, g_612_15, g_612_16, g_612_19, g_612_20, g_612_22, g_612_24, g_612_25, g_612_26, g_612_27, g_612_28, g_612_30, g_612_31, g_612_32, g_612_33, g_612_34, g_612_36, g_612_37, g_612_38, g_612_39, g_612_40, g_612_41, g_612_42, g_612_43, g_612_44, g_612_46, g_612_47, g_612_48, g_612_49, g_612_50, g_612_53, g_612_56, g_612_57, g_612_58, g_612_59, g_612_61, g_612_62, g_612_63, g_612_64]
    refine ⟨fun z => absurd z (by decide), fun _ => ?_⟩
    refine W12_tot hI hL (fun x x0 x1 => by have := hf.1 x x0 (by omega); rw [h6]; omega) ?_
    rw [h6]
    refine W12_bt_46 hI h5 hf (by omega) NN n 0 (cP τ f) (-1) (-1) σ (by unfold NN; omega) (by omega) (by omega) hL h6 (Or.inl ⟨rfl, rfl⟩) (fun c ρ h1 h2 => ?_) (fun c ρ h1 h2 => ?_)
    · refine fin' l f ρ (by omega) hf h1 h2 ?_
      have := hQ ρ h1
      cases k with
      | zero => rw [runX] at this; rw [Int.add_zero] at this; exact this h2
      | succ k => rw [runX, if_pos (show (bxF τ n f).2.1 = -1 from c), Int.add_zero] at this; exact this h2
    · have b := bx_step h5 hf (show ¬(bxF τ n f).2.1 = -1 from c)
      obtain ⟨k, rfl⟩ : ∃ m, k = m + 1 := ⟨k - 1, by omega⟩
      rw [show k + 1 - 1 = k by omega] at ih'
      rw [runX, if_neg (show ¬(bxF τ n f).2.1 = -1 from c)] at hQ
      refine ih' _ ρ b.2.1 (by omega) (by omega) (by omega) (by omega) h1 h2 (fun ζ z1 z2 => ?_)
      have := hQ ζ z1 z2
      dsimp only at this
      have e : l + 1 + (runX τ n k (exF f (bxF τ n f).2.1 (bxF τ n f).2.2)).2 = l + ((runX τ n k (exF f (bxF τ n f).2.1 (bxF τ n f).2.2)).2 + 1) := by omega
      show Q (if w = 0 then dgF (runX τ n k (exF f (bxF τ n f).2.1 (bxF τ n f).2.2)).1 n else l + 1 + (runX τ n k (exF f (bxF τ n f).2.1 (bxF τ n f).2.2)).2) ζ
      rw [e]
      exact this
/-- rows that are one where it counts -/
theorem stx_cg {τ : kzM} {n : Nat} (h5 : τ.1 588 0 = n) {f g : Int → Int} (h : ∀ x : Int, 0 ≤ x → x < n → f x = g x) {i j : Int} (i0 : 0 ≤ i) (ij : i < j) (jn : j < n) (s : Int × Int × Int) : stx τ f i j s = stx τ g i j s := by
  unfold stx
  rw [cP_cg (τ := τ) (p := exF f i j) (q := exF g i j) (fun x x0 x1 => exF_cg h i0 (by omega) (by omega) jn x x0 (by omega))]
theorem inX_cg {τ : kzM} {n : Nat} (h5 : τ.1 588 0 = n) {f g : Int → Int} (h : ∀ x : Int, 0 ≤ x → x < n → f x = g x) {i : Int} (i0 : 0 ≤ i) : ∀ (k : Nat) (j : Int) (s : Int × Int × Int), i < j → j + k = n → inX τ f i k j s = inX τ g i k j s
  | 0, _, _, _, _ => rfl
  | k + 1, j, s, ij, jk => by
    unfold inX
    rw [stx_cg h5 h i0 ij (by omega)]
    exact inX_cg h5 h i0 k (j + 1) _ (by omega) (by omega)
theorem outX_cg {τ : kzM} {n : Nat} (h5 : τ.1 588 0 = n) {f g : Int → Int} (h : ∀ x : Int, 0 ≤ x → x < n → f x = g x) : ∀ (k : Nat) (i : Int) (s : Int × Int × Int), 0 ≤ i → i + k = n → outX τ f k i s = outX τ g k i s
  | 0, _, _, _, _ => rfl
  | k + 1, i, s, i0, ik => by
    unfold outX
    rw [inX_cg h5 h i0 k (i + 1) s (by omega) (by omega)]
    exact outX_cg h5 h k (i + 1) _ (by omega) (by omega)
theorem bxF_cg {τ : kzM} {n : Nat} (h5 : τ.1 588 0 = n) {f g : Int → Int} (h : ∀ x : Int, 0 ≤ x → x < n → f x = g x) : bxF τ n f = bxF τ n g := by
  unfold bxF
  rw [cP_cg (τ := τ) (p := f) (q := g) (fun x x0 x1 => h x x0 (by omega))]
  exact outX_cg h5 h n 0 _ (by omega) (by omega)
theorem runX_cg {τ : kzM} {n : Nat} (h5 : τ.1 588 0 = n) : ∀ (k : Nat) (f g : Int → Int), (∀ x : Int, 0 ≤ x → x < n → f x = g x) → (runX τ n k f).2 = (runX τ n k g).2 ∧ ∀ x : Int, 0 ≤ x → x < n → (runX τ n k f).1 x = (runX τ n k g).1 x
  | 0, f, g, h => ⟨rfl, h⟩
  | k + 1, f, g, h => by
    unfold runX
    have e := bxF_cg h5 h
    rw [e]
    have o := bxF_ok τ n g
    by_cases c : (bxF τ n g).2.1 = -1
    · rw [if_pos c, if_pos c]
      exact ⟨rfl, h⟩
    · rw [if_neg c, if_neg c]
      rcases o with o | ⟨o1, o2, o3, _⟩
      · exact absurd o.1 c
      · have := runX_cg h5 k _ _ (exF_cg h o1 (by omega) (show 0 ≤ (bxF τ n g).2.2 by omega) o3)
        exact ⟨by dsimp only; rw [this.1], this.2⟩
set_option maxRecDepth 100000 in
theorem m_better (v w : Int) (hv : kzI v) (_ : kzI w) : MOK (Z11_better kdG0 0 v w) (Z12_better kdG0 612 v w) := by
  intro τ hI
  have v1 : -2147483648 ≤ v ∧ v ≤ 2147483647 := by unfold kzI at hv; exact hv
  have i9 := hI.2.2.2.2.2.2.2.2
  unfold I9 at i9
  have s1 := i9.1
  obtain ⟨n, hn⟩ : ∃ n : Nat, τ.1 588 0 = n := ⟨(τ.1 588 0).toNat, by omega⟩
  by_cases cw : 0 ≤ w ∧ w ≤ 1
  · simp only [Z11_better, Z11_better_20, Z11_better_46, Z11_isKey, Z11_isLetter, Z11_isTongue, Z11_isHand, Z11_isDay, Z12_isKey, Z12_isLetter, Z12_isTongue, Z12_isHand, Z12_areTongues, Z12_isWord, Z12_isSymbol, W_within, W_in, zp_0, zB_zp, W_size r_1, W_isEmpty r_1, W_isFull r_1, W_has r_1, W_clear r_1, W_size r_3, W_isEmpty r_3, W_isFull r_3, W_has r_3, W_clear r_3, W_size r_328, W_isEmpty r_328, W_isFull r_328, W_has r_328, W_clear r_328, W_size r_330, W_isEmpty r_330, W_isFull r_330, W_has r_330, W_clear r_330, W_size r_332, W_isEmpty r_332, W_isFull r_332, W_has r_332, W_clear r_332, W_size r_334, W_isEmpty r_334, W_isFull r_334, W_has r_334, W_clear r_334, W_size r_337, W_isEmpty r_337, W_isFull r_337, W_has r_337, W_clear r_337, W_size r_339, W_isEmpty r_339, W_isFull r_339, W_has r_339, W_clear r_339, W_size r_341, W_isEmpty r_341, W_isFull r_341, W_has r_341, W_clear r_341, W_size r_485, W_isEmpty r_485, W_isFull r_485, W_has r_485, W_clear r_485, W_size r_487, W_isEmpty r_487, W_isFull r_487, W_has r_487, W_clear r_487, W_size r_489, W_isEmpty r_489, W_isFull r_489, W_has r_489, W_clear r_489, W_size r_496, W_isEmpty r_496, W_isFull r_496, W_has r_496, W_clear r_496, W_size r_498, W_isEmpty r_498, W_isFull r_498, W_has r_498, W_clear r_498, W_size r_562, W_isEmpty r_562, W_isFull r_562, W_has r_562, W_clear r_562, W_size r_564, W_isEmpty r_564, W_isFull r_564, W_has r_564, W_clear r_564, W_size r_566, W_isEmpty r_566, W_isFull r_566, W_has r_566, W_clear r_566, W_size r_581, W_isEmpty r_581, W_isFull r_581, W_has r_581, W_clear r_581, W_size r_583, W_isEmpty r_583, W_isFull r_583, W_has r_583, W_clear r_583, W_size r_585, W_isEmpty r_585, W_isFull r_585, W_has r_585, W_clear r_585, W_size r_608, W_isEmpty r_608, W_isFull r_608, W_has r_608, W_clear r_608, W_size r_610, W_isEmpty r_610, W_isFull r_610, W_has r_610, W_clear r_610, Wz_rt, Wz_cnd, Wz_lI, Wz_lW, Wz_lL, Wz_cl, Wz_cv, Wz_nz, Wz_gI, Wz_gR, Wz_sI, Wz_aI, Wz_aZ, Wz_aL, Wz_aN, Wz_aR, Wz_tI, Wz_tZ, Wz_tL, Option.some.injEq, exists_eq_left', zB_0, zB_1, true_and, and_true, true_implies, not_true_eq_false, false_implies, not_false_eq_true, Classical.not_not, g_0, g_1, g_2, g_3, g_4, g_5, g_327, g_328, g_329, g_330, g_331, g_332, g_333, g_334, g_335, g_336, g_337, g_338, g_339, g_340, g_341, g_342, g_343, g_464, g_465, g_466, g_484, g_485, g_486, g_487, g_488, g_489, g_490, g_491, g_492, g_493, g_494, g_495, g_496, g_497, g_498, g_499, g_500, g_501, g_562, g_563, g_564, g_565, g_566, g_567, g_568, g_574, g_580, g_581, g_582, g_583, g_584, g_585, g_586, g_587, g_588, g_589, g_590, g_591, g_592, g_600, g_601, g_602, g_603, g_604, g_605, g_606, g_607, g_608, g_609, g_610, g_611, g_612, g_613, g_614, g_615, g_616, g_617, g_618, g_619, g_620, g_621, g_622, g_623, g_624, g_625, g_626, g_627, g_628, g_629, g_630, g_631, g_632, g_633, g_634, g_635, g_636, g_637, g_638, g_639, g_640, g_641, g_642, g_643, g_644, g_645, g_646, g_647, g_648, g_649, g_650, g_651, g_652, g_653, g_654, g_655, g_656, g_657, g_658, g_659, g_660, g_661, g_662, g_0_0, g_0_1, g_0_2, g_0_3, g_0_4, g_0_5, g_0_6, g_0_7, g_0_8, g_0_9, g_0_10, g_0_11, g_1_0, g_3_0, g_327_0, g_327_1, g_327_2, g_327_3, g_328_0, g_330_0, g_332_0, g_334_0, g_336_0, g_336_1, g_336_2, g_336_3, g_337_0, g_339_0, g_341_0, g_464_0, g_464_1, g_484_0, g_484_1, g_484_2, g_485_0, g_487_0, g_489_0, g_491_0, g_491_1, g_491_2, g_491_3, g_491_4, g_491_5, g_491_6, g_491_7, g_496_0, g_498_0, g_500_0, g_500_1, g_500_3, g_500_4, g_500_5, g_500_6, g_500_7, g_562_0, g_564_0, g_566_0, g_580_0, g_580_1, g_580_2, g_580_3, g_581_0, g_583_0, g_585_0, g_588_1, g_588_2, g_588_3, g_588_4, g_588_6, g_601_0, g_601_1, g_601_2, g_601_3, g_601_4, g_601_5, g_601_6, g_601_7, g_601_8, g_608_0, g_610_0, g_612_0, g_612_2, g_612_4, g_612_5, g_612_7, g_612_8, g_612_9, g_612_10, g_612_11, g_612_12, g_612_13, g_612_14, g_612_15, g_612_16, g_612_19, g_612_20, g_612_22, g_612_24, g_612_25, g_612_26, g_612_27, g_612_28, g_612_30, g_612_31, g_612_32, g_612_33, g_612_34, g_612_36, g_612_37, g_612_38, g_612_39, g_612_40, g_612_41, g_612_42, g_612_43, g_612_44, g_612_46, g_612_47, g_612_48, g_612_49, g_612_50, g_612_53, g_612_56, g_612_57, g_612_58, g_612_59, g_612_61, g_612_62, g_612_63, g_612_64, addF, v2, rw1, Nat.reduceEqDiff, Nat.reduceAdd, Int.reduceEq, Int.reduceNeg, reduceIte, false_and, and_false, true_and, and_true, and_self, cw]
    refine W3_read hI v1 ?_
    intro σ hs hd
    have hL := tabL.o600 hs
    have hI2 := hI.tabL hL
    rw [hn] at hd
    by_cases c : 0 ≤ v ∧ goodL v (τ.1 588 0)
    · rw [zp_pos c]
      rw [hn] at c
      have hd1 := hd c.1
      have gf : ∀ g : Int → Int, (∀ i, 0 ≤ i → i < (n : Int) → g i = dgL v n i) → goodF n g := fun g hg => by
        refine ⟨fun i i0 i1 => ?_, fun i j i0 i1 j0 j1 ij => ?_⟩
        · rw [hg i i0 i1]
          exact ⟨(dgL_b c.1 v1.2).1, c.2.2.1 i i0 i1⟩
        · rw [hg i i0 i1, hg j j0 j1]
          by_cases y : j < i
          · exact c.2.2.2 i j j0 y i1
          · exact fun z => c.2.2.2 j i i0 (by omega) j1 z.symm
      refine ⟨fun z => absurd z (by decide), fun _ => ?_⟩
      unfold Z3_improve Z3_improve_2
      refine W3_improve hI hn NN 5040 0 (σ.1 600) σ (gf _ hd1) (by unfold NN; omega) (by omega) (by omega) hL rfl (fun ρ r1 r2 => ?_)
      have hI3 := hI.tabL r1
      have rb := runX_b hn 5040 _ (gf _ hd1)
      -- the reference, from here
      have ref : ∀ r, r = (if w = 0 then dgF (runX τ n 5040 (σ.1 600)).1 n else (runX τ n 5040 (σ.1 600)).2) → Wz (Z12_better kdG0 612 v w) ρ fun s τ2 => r = s ∧ Inv τ2 := fun r hr => by
        simp only [Z12_better, Z12_better_18, Z11_isKey, Z11_isLetter, Z11_isTongue, Z11_isHand, Z11_isDay, Z12_isKey, Z12_isLetter, Z12_isTongue, Z12_isHand, Z12_areTongues, Z12_isWord, Z12_isSymbol, W_within, W_in, zp_0, zB_zp, W_size r_1, W_isEmpty r_1, W_isFull r_1, W_has r_1, W_clear r_1, W_size r_3, W_isEmpty r_3, W_isFull r_3, W_has r_3, W_clear r_3, W_size r_328, W_isEmpty r_328, W_isFull r_328, W_has r_328, W_clear r_328, W_size r_330, W_isEmpty r_330, W_isFull r_330, W_has r_330, W_clear r_330, W_size r_332, W_isEmpty r_332, W_isFull r_332, W_has r_332, W_clear r_332, W_size r_334, W_isEmpty r_334, W_isFull r_334, W_has r_334, W_clear r_334, W_size r_337, W_isEmpty r_337, W_isFull r_337, W_has r_337, W_clear r_337, W_size r_339, W_isEmpty r_339, W_isFull r_339, W_has r_339, W_clear r_339, W_size r_341, W_isEmpty r_341, W_isFull r_341, W_has r_341, W_clear r_341, W_size r_485, W_isEmpty r_485, W_isFull r_485, W_has r_485, W_clear r_485, W_size r_487, W_isEmpty r_487, W_isFull r_487, W_has r_487, W_clear r_487, W_size r_489, W_isEmpty r_489, W_isFull r_489, W_has r_489, W_clear r_489, W_size r_496, W_isEmpty r_496, W_isFull r_496, W_has r_496, W_clear r_496, W_size r_498, W_isEmpty r_498, W_isFull r_498, W_has r_498, W_clear r_498, W_size r_562, W_isEmpty r_562, W_isFull r_562, W_has r_562, W_clear r_562, W_size r_564, W_isEmpty r_564, W_isFull r_564, W_has r_564, W_clear r_564, W_size r_566, W_isEmpty r_566, W_isFull r_566, W_has r_566, W_clear r_566, W_size r_581, W_isEmpty r_581, W_isFull r_581, W_has r_581, W_clear r_581, W_size r_583, W_isEmpty r_583, W_isFull r_583, W_has r_583, W_clear r_583, W_size r_585, W_isEmpty r_585, W_isFull r_585, W_has r_585, W_clear r_585, W_size r_608, W_isEmpty r_608, W_isFull r_608, W_has r_608, W_clear r_608, W_size r_610, W_isEmpty r_610, W_isFull r_610, W_has r_610, W_clear r_610, Wz_rt, Wz_cnd, Wz_lI, Wz_lW, Wz_lL, Wz_cl, Wz_cv, Wz_nz, Wz_gI, Wz_gR, Wz_sI, Wz_aI, Wz_aZ, Wz_aL, Wz_aN, Wz_aR, Wz_tI, Wz_tZ, Wz_tL, Option.some.injEq, exists_eq_left', zB_0, zB_1, true_and, and_true, true_implies, not_true_eq_false, false_implies, not_false_eq_true, Classical.not_not, g_0, g_1, g_2, g_3, g_4, g_5, g_327, g_328, g_329, g_330, g_331, g_332, g_333, g_334, g_335, g_336, g_337, g_338, g_339, g_340, g_341, g_342, g_343, g_464, g_465, g_466, g_484, g_485, g_486, g_487, g_488, g_489, g_490, g_491, g_492, g_493, g_494, g_495, g_496, g_497, g_498, g_499, g_500, g_501, g_562, g_563, g_564, g_565, g_566, g_567, g_568, g_574, g_580, g_581, g_582, g_583, g_584, g_585, g_586, g_587, g_588, g_589, g_590, g_591, g_592, g_600, g_601, g_602, g_603, g_604, g_605, g_606, g_607, g_608, g_609, g_610, g_611, g_612, g_613, g_614, g_615, g_616, g_617, g_618, g_619, g_620, g_621, g_622, g_623, g_624, g_625, g_626, g_627, g_628, g_629, g_630, g_631, g_632, g_633, g_634, g_635, g_636, g_637, g_638, g_639, g_640, g_641, g_642, g_643, g_644, g_645, g_646, g_647, g_648, g_649, g_650, g_651, g_652, g_653, g_654, g_655, g_656, g_657, g_658, g_659, g_660, g_661, g_662, g_0_0, g_0_1, g_0_2, g_0_3, g_0_4, g_0_5, g_0_6, g_0_7, g_0_8, g_0_9, g_0_10, g_0_11, g_1_0, g_3_0, g_327_0, g_327_1, g_327_2, g_327_3, g_328_0, g_330_0, g_332_0, g_334_0, g_336_0, g_336_1, g_336_2, g_336_3, g_337_0, g_339_0, g_341_0, g_464_0, g_464_1, g_484_0, g_484_1, g_484_2, g_485_0, g_487_0, g_489_0, g_491_0, g_491_1, g_491_2, g_491_3, g_491_4, g_491_5, g_491_6, g_491_7, g_496_0, g_498_0, g_500_0, g_500_1, g_500_3, g_500_4, g_500_5, g_500_6, g_500_7, g_562_0, g_564_0, g_566_0, g_580_0, g_580_1, g_580_2, g_580_3, g_581_0, g_583_0, g_585_0, g_588_1, g_588_2, g_588_3, g_588_4, g_588_6, g_601_0, g_601_1, g_601_2, g_601_3, g_601_4, g_601_5, g_601_6, g_601_7, g_601_8, g_608_0, g_610_0, g_612_0, g_612_2, g_612_4, g_612_5, g_612_7, g_612_8, g_612_9, g_612_10, g_612_11, g_612_12, g_612_13, g_612_14, g_612_15, g_612_16, g_612_19, g_612_20, g_612_22, g_612_24, g_612_25, g_612_26, g_612_27, g_612_28, g_612_30, g_612_31, g_612_32, g_612_33, g_612_34, g_612_36, g_612_37, g_612_38, g_612_39, g_612_40, g_612_41, g_612_42, g_612_43, g_612_44, g_612_46, g_612_47, g_612_48, g_612_49, g_612_50, g_612_53, g_612_56, g_612_57, g_612_58, g_612_59, g_612_61, g_612_62, g_612_63, g_612_64, addF, v2, rw1, Nat.reduceEqDiff, Nat.reduceAdd, Int.reduceEq, Int.reduceNeg, reduceIte, false_and, and_false, true_and, and_true, and_self, cw]
        refine W12_lay hI3 v1 ?_
        intro ζ z1 z2
        rw [r1 588 0 (by decide), hn] at z2 ⊢
        rw [zp_pos c]
        refine ⟨fun z => absurd z (by decide), fun _ => ?_⟩
        unfold Z12_better_26
        have hz := gf _ (z2 c.1)
        have pl : potF τ n (ζ.1 659) ≤ 5040 := Nat.le_trans (pot_len _) (allP_le (by omega))
        refine W12_bt_26 hI hn NN 5040 0 (ζ.1 659) ζ hz (by unfold NN; omega) pl (by omega) (by omega) (r1.tr (tabL.o659 z1)) rfl (fun ξ x1 x2 => ⟨?_, hI.tabL x1⟩)
        have cg := runX_cg hn 5040 (σ.1 600) (ζ.1 659) (fun x x0 xn => by rw [hd1 x x0 xn, z2 c.1 x x0 xn])
        rw [hr, cg.1, dgF_cg _ cg.2, Int.zero_add]
      refine ⟨fun e => ?_, fun e => ?_⟩
      · refine W3_digits (n := n) (by rw [r1 588 0 (by decide), hn]) (by omega) (fun i i0 i1 => by have := rb.2.2.1 i i0 i1; rw [r2]; omega) ?_
        rw [r2]
        exact ref _ (by rw [if_pos e])
      · exact ref _ (by rw [if_neg e, Int.zero_add])
    · rw [zp_neg c]
      refine ⟨fun _ => ?_, fun z => absurd rfl z⟩
      simp only [Z12_better, Z12_better_18, Z11_isKey, Z11_isLetter, Z11_isTongue, Z11_isHand, Z11_isDay, Z12_isKey, Z12_isLetter, Z12_isTongue, Z12_isHand, Z12_areTongues, Z12_isWord, Z12_isSymbol, W_within, W_in, zp_0, zB_zp, W_size r_1, W_isEmpty r_1, W_isFull r_1, W_has r_1, W_clear r_1, W_size r_3, W_isEmpty r_3, W_isFull r_3, W_has r_3, W_clear r_3, W_size r_328, W_isEmpty r_328, W_isFull r_328, W_has r_328, W_clear r_328, W_size r_330, W_isEmpty r_330, W_isFull r_330, W_has r_330, W_clear r_330, W_size r_332, W_isEmpty r_332, W_isFull r_332, W_has r_332, W_clear r_332, W_size r_334, W_isEmpty r_334, W_isFull r_334, W_has r_334, W_clear r_334, W_size r_337, W_isEmpty r_337, W_isFull r_337, W_has r_337, W_clear r_337, W_size r_339, W_isEmpty r_339, W_isFull r_339, W_has r_339, W_clear r_339, W_size r_341, W_isEmpty r_341, W_isFull r_341, W_has r_341, W_clear r_341, W_size r_485, W_isEmpty r_485, W_isFull r_485, W_has r_485, W_clear r_485, W_size r_487, W_isEmpty r_487, W_isFull r_487, W_has r_487, W_clear r_487, W_size r_489, W_isEmpty r_489, W_isFull r_489, W_has r_489, W_clear r_489, W_size r_496, W_isEmpty r_496, W_isFull r_496, W_has r_496, W_clear r_496, W_size r_498, W_isEmpty r_498, W_isFull r_498, W_has r_498, W_clear r_498, W_size r_562, W_isEmpty r_562, W_isFull r_562, W_has r_562, W_clear r_562, W_size r_564, W_isEmpty r_564, W_isFull r_564, W_has r_564, W_clear r_564, W_size r_566, W_isEmpty r_566, W_isFull r_566, W_has r_566, W_clear r_566, W_size r_581, W_isEmpty r_581, W_isFull r_581, W_has r_581, W_clear r_581, W_size r_583, W_isEmpty r_583, W_isFull r_583, W_has r_583, W_clear r_583, W_size r_585, W_isEmpty r_585, W_isFull r_585, W_has r_585, W_clear r_585, W_size r_608, W_isEmpty r_608, W_isFull r_608, W_has r_608, W_clear r_608, W_size r_610, W_isEmpty r_610, W_isFull r_610, W_has r_610, W_clear r_610, Wz_rt, Wz_cnd, Wz_lI, Wz_lW, Wz_lL, Wz_cl, Wz_cv, Wz_nz, Wz_gI, Wz_gR, Wz_sI, Wz_aI, Wz_aZ, Wz_aL, Wz_aN, Wz_aR, Wz_tI, Wz_tZ, Wz_tL, Option.some.injEq, exists_eq_left', zB_0, zB_1, true_and, and_true, true_implies, not_true_eq_false, false_implies, not_false_eq_true, Classical.not_not, g_0, g_1, g_2, g_3, g_4, g_5, g_327, g_328, g_329, g_330, g_331, g_332, g_333, g_334, g_335, g_336, g_337, g_338, g_339, g_340, g_341, g_342, g_343, g_464, g_465, g_466, g_484, g_485, g_486, g_487, g_488, g_489, g_490, g_491, g_492, g_493, g_494, g_495, g_496, g_497, g_498, g_499, g_500, g_501, g_562, g_563, g_564, g_565, g_566, g_567, g_568, g_574, g_580, g_581, g_582, g_583, g_584, g_585, g_586, g_587, g_588, g_589, g_590, g_591, g_592, g_600, g_601, g_602, g_603, g_604, g_605, g_606, g_607, g_608, g_609, g_610, g_611, g_612, g_613, g_614, g_615, g_616, g_617, g_618, g_619, g_620, g_621, g_622, g_623, g_624, g_625, g_626, g_627, g_628, g_629, g_630, g_631, g_632, g_633, g_634, g_635, g_636, g_637, g_638, g_639, g_640, g_641, g_642, g_643, g_644, g_645, g_646, g_647, g_648, g_649, g_650, g_651, g_652, g_653, g_654, g_655, g_656, g_657, g_658, g_659, g_660, g_661, g_662, g_0_0, g_0_1, g_0_2, g_0_3, g_0_4, g_0_5, g_0_6, g_0_7, g_0_8, g_0_9, g_0_10, g_0_11, g_1_0, g_3_0, g_327_0, g_327_1, g_327_2, g_327_3, g_328_0, g_330_0, g_332_0, g_334_0, g_336_0, g_336_1, g_336_2, g_336_3, g_337_0, g_339_0, g_341_0, g_464_0, g_464_1, g_484_0, g_484_1, g_484_2, g_485_0, g_487_0, g_489_0, g_491_0, g_491_1, g_491_2, g_491_3, g_491_4, g_491_5, g_491_6, g_491_7, g_496_0, g_498_0, g_500_0, g_500_1, g_500_3, g_500_4, g_500_5, g_500_6, g_500_7, g_562_0, g_564_0, g_566_0, g_580_0, g_580_1, g_580_2, g_580_3, g_581_0, g_583_0, g_585_0, g_588_1, g_588_2, g_588_3, g_588_4, g_588_6, g_601_0, g_601_1, g_601_2, g_601_3, g_601_4, g_601_5, g_601_6, g_601_7, g_601_8, g_608_0, g_610_0, g_612_0, g_612_2, g_612_4, g_612_5, g_612_7, g_612_8, g_612_9, g_612_10, g_612_11, g_612_12, g_612_13, g_612_14, g_612_15, g_612_16, g_612_19, g_612_20, g_612_22, g_612_24, g_612_25, g_612_26, g_612_27, g_612_28, g_612_30, g_612_31, g_612_32, g_612_33, g_612_34, g_612_36, g_612_37, g_612_38, g_612_39, g_612_40, g_612_41, g_612_42, g_612_43, g_612_44, g_612_46, g_612_47, g_612_48, g_612_49, g_612_50, g_612_53, g_612_56, g_612_57, g_612_58, g_612_59, g_612_61, g_612_62, g_612_63, g_612_64, addF, v2, rw1, Nat.reduceEqDiff, Nat.reduceAdd, Int.reduceEq, Int.reduceNeg, reduceIte, false_and, and_false, true_and, and_true, and_self, cw]
      refine W12_lay hI2 v1 ?_
      intro ρ hr hd2
      rw [hs 588 0 (by decide), zp_neg c]
      have hL2 := hL.tr (tabL.o659 hr)
      exact ⟨fun _ => hI.tabL hL2, fun z => absurd rfl z⟩
  · simp only [Z11_better, Z11_better_20, Z12_better, Z12_better_18, Z11_isKey, Z11_isLetter, Z11_isTongue, Z11_isHand, Z11_isDay, Z12_isKey, Z12_isLetter, Z12_isTongue, Z12_isHand, Z12_areTongues, Z12_isWord, Z12_isSymbol, W_within, W_in, zp_0, zB_zp, W_size r_1, W_isEmpty r_1, W_isFull r_1, W_has r_1, W_clear r_1, W_size r_3, W_isEmpty r_3, W_isFull r_3, W_has r_3, W_clear r_3, W_size r_328, W_isEmpty r_328, W_isFull r_328, W_has r_328, W_clear r_328, W_size r_330, W_isEmpty r_330, W_isFull r_330, W_has r_330, W_clear r_330, W_size r_332, W_isEmpty r_332, W_isFull r_332, W_has r_332, W_clear r_332, W_size r_334, W_isEmpty r_334, W_isFull r_334, W_has r_334, W_clear r_334, W_size r_337, W_isEmpty r_337, W_isFull r_337, W_has r_337, W_clear r_337, W_size r_339, W_isEmpty r_339, W_isFull r_339, W_has r_339, W_clear r_339, W_size r_341, W_isEmpty r_341, W_isFull r_341, W_has r_341, W_clear r_341, W_size r_485, W_isEmpty r_485, W_isFull r_485, W_has r_485, W_clear r_485, W_size r_487, W_isEmpty r_487, W_isFull r_487, W_has r_487, W_clear r_487, W_size r_489, W_isEmpty r_489, W_isFull r_489, W_has r_489, W_clear r_489, W_size r_496, W_isEmpty r_496, W_isFull r_496, W_has r_496, W_clear r_496, W_size r_498, W_isEmpty r_498, W_isFull r_498, W_has r_498, W_clear r_498, W_size r_562, W_isEmpty r_562, W_isFull r_562, W_has r_562, W_clear r_562, W_size r_564, W_isEmpty r_564, W_isFull r_564, W_has r_564, W_clear r_564, W_size r_566, W_isEmpty r_566, W_isFull r_566, W_has r_566, W_clear r_566, W_size r_581, W_isEmpty r_581, W_isFull r_581, W_has r_581, W_clear r_581, W_size r_583, W_isEmpty r_583, W_isFull r_583, W_has r_583, W_clear r_583, W_size r_585, W_isEmpty r_585, W_isFull r_585, W_has r_585, W_clear r_585, W_size r_608, W_isEmpty r_608, W_isFull r_608, W_has r_608, W_clear r_608, W_size r_610, W_isEmpty r_610, W_isFull r_610, W_has r_610, W_clear r_610, Wz_rt, Wz_cnd, Wz_lI, Wz_lW, Wz_lL, Wz_cl, Wz_cv, Wz_nz, Wz_gI, Wz_gR, Wz_sI, Wz_aI, Wz_aZ, Wz_aL, Wz_aN, Wz_aR, Wz_tI, Wz_tZ, Wz_tL, Option.some.injEq, exists_eq_left', zB_0, zB_1, true_and, and_true, true_implies, not_true_eq_false, false_implies, not_false_eq_true, Classical.not_not, g_0, g_1, g_2, g_3, g_4, g_5, g_327, g_328, g_329, g_330, g_331, g_332, g_333, g_334, g_335, g_336, g_337, g_338, g_339, g_340, g_341, g_342, g_343, g_464, g_465, g_466, g_484, g_485, g_486, g_487, g_488, g_489, g_490, g_491, g_492, g_493, g_494, g_495, g_496, g_497, g_498, g_499, g_500, g_501, g_562, g_563, g_564, g_565, g_566, g_567, g_568, g_574, g_580, g_581, g_582, g_583, g_584, g_585, g_586, g_587, g_588, g_589, g_590, g_591, g_592, g_600, g_601, g_602, g_603, g_604, g_605, g_606, g_607, g_608, g_609, g_610, g_611, g_612, g_613, g_614, g_615, g_616, g_617, g_618, g_619, g_620, g_621, g_622, g_623, g_624, g_625, g_626, g_627, g_628, g_629, g_630, g_631, g_632, g_633, g_634, g_635, g_636, g_637, g_638, g_639, g_640, g_641, g_642, g_643, g_644, g_645, g_646, g_647, g_648, g_649, g_650, g_651, g_652, g_653, g_654, g_655, g_656, g_657, g_658, g_659, g_660, g_661, g_662, g_0_0, g_0_1, g_0_2, g_0_3, g_0_4, g_0_5, g_0_6, g_0_7, g_0_8, g_0_9, g_0_10, g_0_11, g_1_0, g_3_0, g_327_0, g_327_1, g_327_2, g_327_3, g_328_0, g_330_0, g_332_0, g_334_0, g_336_0, g_336_1, g_336_2, g_336_3, g_337_0, g_339_0, g_341_0, g_464_0, g_464_1, g_484_0, g_484_1, g_484_2, g_485_0, g_487_0, g_489_0, g_491_0, g_491_1, g_491_2, g_491_3, g_491_4, g_491_5, g_491_6, g_491_7, g_496_0, g_498_0, g_500_0, g_500_1, g_500_3, g_500_4, g_500_5, g_500_6, g_500_7, g_562_0, g_564_0, g_566_0, g_580_0, g_580_1, g_580_2, g_580_3, g_581_0, g_583_0, g_585_0, g_588_1, g_588_2, g_588_3, g_588_4, g_588_6, g_601_0, g_601_1, g_601_2, g_601_3, g_601_4, g_601_5, g_601_6, g_601_7, g_601_8, g_608_0, g_610_0, g_612_0, g_612_2, g_612_4, g_612_5, g_612_7, g_612_8, g_612_9, g_612_10, g_612_11, g_612_12, g_612_13, g_612_14, g_612_15, g_612_16, g_612_19, g_612_20, g_612_22, g_612_24, g_612_25, g_612_26, g_612_27, g_612_28, g_612_30, g_612_31, g_612_32, g_612_33, g_612_34, g_612_36, g_612_37, g_612_38, g_612_39, g_612_40, g_612_41, g_612_42, g_612_43, g_612_44, g_612_46, g_612_47, g_612_48, g_612_49, g_612_50, g_612_53, g_612_56, g_612_57, g_612_58, g_612_59, g_612_61, g_612_62, g_612_63, g_612_64, addF, v2, rw1, Nat.reduceEqDiff, Nat.reduceAdd, Int.reduceEq, Int.reduceNeg, reduceIte, false_and, and_false, true_and, and_true, and_self]
    (repeat' (first | with_reducible (refine And.intro ?_ ?_) | intro _)) <;> first | omega | with_reducible exact hI
