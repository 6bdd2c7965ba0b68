/-! the bound: the reference and the method -/
set_option maxRecDepth 100000 in
theorem W12_bn_175 {τ : kzM} (hI : Inv τ) {i : Nat} (hi : i < (τ.1 588 0).toNat) {acc : Int} (hacc : 0 ≤ acc ∧ acc ≤ 1000000) {k4 : Nat → Int → Int → kzM → Option (Int × kzM)} {Q : Int → kzM → Prop} (hQ : Wz (k4 612 (acc + wS (prR τ i) (τ.1 588 0).toNat) ((i : Int) + 1)) τ Q) : ∀ (N j : Nat), j ≤ (τ.1 588 0).toNat → (τ.1 588 0).toNat - j < N → Wz (lp (fun _ _ _ _ _ => none) (Z12_bound_175B kdG0 k4) N 612 (acc + wS (prR τ i) j) (i : Int) (j : Int)) τ Q := by
  have i9 := hI.2.2.2.2.2.2.2.2
  unfold I9 at i9
  have s1 := i9.1
  intro N
  induction N with
  | zero => intro j; intros; omega
  | succ N ih =>
    intro j j1 j2
    rw [lp_succ]
    generalize lp (fun _ _ _ _ _ => none) (Z12_bound_175B kdG0 k4) N = L at ih ⊢
    have sb := wS_b (p := prR τ i) (m := 50) j (fun k k0 k1 => prR_b hI (by omega) (by omega) k0 (by omega))
    unfold Z12_bound_175B
    simp only [Z12_bound_209, Wz_rt, Wz_cnd, Wz_lI, Wz_lW, Wz_lL, Wz_cl, Wz_cv, Wz_nz, Wz_gI, Wz_gR, Wz_sI, Wz_aI, Wz_aZ, Wz_aL, Wz_aN, Wz_aR, Wz_tI, Wz_tZ, Wz_tL, Option.some.injEq, exists_eq_left', zB_0, zB_1, true_and, and_true, true_implies, not_true_eq_false, false_implies, not_false_eq_true, Classical.not_not, g_0, g_1, g_2, g_3, g_4, g_5, g_327, g_328, g_329, g_330, g_331, g_332, g_333, g_334, g_335, g_336, g_337, g_338, g_339, g_340, g_341, g_342, g_343, g_464, g_465, g_466, g_484, g_485, g_486, g_487, g_488, g_489, g_490, g_491, g_492, g_493, g_494, g_495, g_496, g_497, g_498, g_499, g_500, g_501, g_562, g_563, g_564, g_565, g_566, g_567, g_568, g_574, g_580, g_581, g_582, g_583, g_584, g_585, g_586, g_587, g_588, g_589, g_590, g_591, g_592, g_600, g_601, g_602, g_603, g_604, g_605, g_606, g_607, g_608, g_609, g_610, g_611, g_612, g_613, g_614, g_615, g_616, g_617, g_618, g_619, g_620, g_621, g_622, g_623, g_624, g_625, g_626, g_627, g_628, g_629, g_630, g_631, g_632, g_633, g_634, g_635, g_636, g_637, g_638, g_639, g_640, g_641, g_642, g_643, g_644, g_645, g_646, g_647, g_648, g_649, g_650, g_651, g_652, g_653, g_654, g_655, g_656, g_657, g_658, g_659, g_660, g_661, g_662, g_0_0, g_0_1, g_0_2, g_0_3, g_0_4, g_0_5, g_0_6, g_0_7, g_0_8, g_0_9, g_0_10, g_0_11, g_1_0, g_3_0, g_327_0, g_327_1, g_327_2, g_327_3, g_328_0, g_330_0, g_332_0, g_334_0, g_336_0, g_336_1, g_336_2, g_336_3, g_337_0, g_339_0, g_341_0, g_464_0, g_464_1, g_484_0, g_484_1, g_484_2, g_485_0, g_487_0, g_489_0, g_491_0, g_491_1, g_491_2, g_491_3, g_491_4, g_491_5, g_491_6, g_491_7, g_496_0, g_498_0, g_500_0, g_500_1, g_500_3, g_500_4, g_500_5, g_500_6, g_500_7, g_562_0, g_564_0, g_566_0, g_580_0, g_580_1, g_580_2, g_580_3, g_581_0, g_583_0, g_585_0, g_588_1, g_588_2, g_588_3, g_588_4, g_588_6, g_601_0, g_601_1, g_601_2, g_601_3, g_601_4, g_601_5, g_601_6, g_601_7, g_601_8, g_608_0, g_610_0, g_612_0, g_612_2, g_612_4, g_612_5, g_612_7, g_612_8, g_612_9, g_612_10, g_612_11, g_612_12, g_612_13, g_612_14, g_612_15, g_612_16, g_612_19, g_612_20, g_612_22, g_612_24, g_612_25, g_612_26, g_612_27, g_612_28, g_612_30, g_612_31, g_612_32, g_612_33, g_612_34, g_612_36, g_612_37, g_612_38, g_612_39, g_612_40, g_612_41, g_612_42, g_612_43, g_612_44, g_612_46, g_612_47, g_612_48, g_612_49, g_612_50, g_612_53, g_612_56, g_612_57, g_612_58, g_612_59, g_612_61, g_612_62, g_612_63, g_612_64]
    refine ⟨fun c => ⟨by omega, ?_⟩, fun c => ?_⟩
    · rw [show j = (τ.1 588 0).toNat by omega]; exact hQ
    · have pb := prR_b hI (i := (i : Int)) (j := (j : Int)) (by omega) (by omega) (by omega) (by omega)
      have ih' := ih (j + 1) (by omega) (by omega)
      rw [show wS (prR τ i) (j + 1) = wS (prR τ i) j + prR τ i j from rfl, ← Int.add_assoc, show ((j + 1 : Nat) : Int) = (j : Int) + 1 by omega] at ih'
      refine ⟨fun d => ?_, fun d => ?_⟩
      · have e : prR τ i j = 0 := if_pos d
        rw [e] at ih'
        exact ⟨by omega, by omega, ih'⟩
      · have e : prR τ i j = prP τ i j := if_neg d
        have e2 := (i9.2.2.2 i j (by omega) (by omega) (by omega) (by omega)).2
        rw [e2, show τ.1 (593 + (i : Int).toNat) j = prP τ i j from rfl, ← e]
        exact ⟨by omega, by omega, by omega, ih'⟩
set_option maxRecDepth 100000 in
theorem W12_bn_163 {τ : kzM} (hI : Inv τ) {acc : Int} (hacc : 0 ≤ acc ∧ acc ≤ 100000) {Q : Int → kzM → Prop} (hQ : Q (acc + wS (fun k => wS (prR τ k) (τ.1 588 0).toNat) (τ.1 588 0).toNat) τ) : ∀ (N i : Nat), i ≤ (τ.1 588 0).toNat → (τ.1 588 0).toNat - i < N → Wz (lp (fun _ _ _ _ => none) (Z12_bound_163B kdG0) N 612 (acc + wS (fun k => wS (prR τ k) (τ.1 588 0).toNat) i) (i : Int)) τ Q := by
  have i9 := hI.2.2.2.2.2.2.2.2
  unfold I9 at i9
  have s1 := i9.1
  intro N
  induction N with
  | zero => intro j; intros; omega
  | succ N ih =>
    intro i i1 i2
    rw [lp_succ]
    generalize lp (fun _ _ _ _ => none) (Z12_bound_163B kdG0) N = L at ih ⊢
    have sb := wS_b (p := fun k => wS (prR τ k) (τ.1 588 0).toNat) (m := 50 * 7) i (fun k k0 k1 => by
      have b := wS_b (p := prR τ k) (m := 50) (τ.1 588 0).toNat (fun x x0 x1 => prR_b hI k0 (by omega) x0 (by omega))
      omega)
    unfold Z12_bound_163B
    simp only [Wz_rt, Wz_cnd, Wz_lI, Wz_lW, Wz_lL, Wz_cl, Wz_cv, Wz_nz, Wz_gI, Wz_gR, Wz_sI, Wz_aI, Wz_aZ, Wz_aL, Wz_aN, Wz_aR, Wz_tI, Wz_tZ, Wz_tL, Option.some.injEq, exists_eq_left', zB_0, zB_1, true_and, and_true, true_implies, not_true_eq_false, false_implies, not_false_eq_true, Classical.not_not, g_0, g_1, g_2, g_3, g_4, g_5, g_327, g_328, g_329, g_330, g_331, g_332, g_333, g_334, g_335, g_336, g_337, g_338, g_339, g_340, g_341, g_342, g_343, g_464, g_465, g_466, g_484, g_485, g_486, g_487, g_488, g_489, g_490, g_491, g_492, g_493, g_494, g_495, g_496, g_497, g_498, g_499, g_500, g_501, g_562, g_563, g_564, g_565, g_566, g_567, g_568, g_574, g_580, g_581, g_582, g_583, g_584, g_585, g_586, g_587, g_588, g_589, g_590, g_591, g_592, g_600, g_601, g_602, g_603, g_604, g_605, g_606, g_607, g_608, g_609, g_610, g_611, g_612, g_613, g_614, g_615, g_616, g_617, g_618, g_619, g_620, g_621, g_622, g_623, g_624, g_625, g_626, g_627, g_628, g_629, g_630, g_631, g_632, g_633, g_634, g_635, g_636, g_637, g_638, g_639, g_640, g_641, g_642, g_643, g_644, g_645, g_646, g_647, g_648, g_649, g_650, g_651, g_652, g_653, g_654, g_655, g_656, g_657, g_658, g_659, g_660, g_661, g_662, g_0_0, g_0_1, g_0_2, g_0_3, g_0_4, g_0_5, g_0_6, g_0_7, g_0_8, g_0_9, g_0_10, g_0_11, g_1_0, g_3_0, g_327_0, g_327_1, g_327_2, g_327_3, g_328_0, g_330_0, g_332_0, g_334_0, g_336_0, g_336_1, g_336_2, g_336_3, g_337_0, g_339_0, g_341_0, g_464_0, g_464_1, g_484_0, g_484_1, g_484_2, g_485_0, g_487_0, g_489_0, g_491_0, g_491_1, g_491_2, g_491_3, g_491_4, g_491_5, g_491_6, g_491_7, g_496_0, g_498_0, g_500_0, g_500_1, g_500_3, g_500_4, g_500_5, g_500_6, g_500_7, g_562_0, g_564_0, g_566_0, g_580_0, g_580_1, g_580_2, g_580_3, g_581_0, g_583_0, g_585_0, g_588_1, g_588_2, g_588_3, g_588_4, g_588_6, g_601_0, g_601_1, g_601_2, g_601_3, g_601_4, g_601_5, g_601_6, g_601_7, g_601_8, g_608_0, g_610_0, g_612_0, g_612_2, g_612_4, g_612_5, g_612_7, g_612_8, g_612_9, g_612_10, g_612_11, g_612_12, g_612_13, g_612_14, g_612_15, g_612_16, g_612_19, g_612_20, g_612_22, g_612_24, g_612_25, g_612_26, g_612_27, g_612_28, g_612_30, g_612_31, g_612_32, g_612_33, g_612_34, g_612_36, g_612_37, g_612_38, g_612_39, g_612_40, g_612_41, g_612_42, g_612_43, g_612_44, g_612_46, g_612_47, g_612_48, g_612_49, g_612_50, g_612_53, g_612_56, g_612_57, g_612_58, g_612_59, g_612_61, g_612_62, g_612_63, g_612_64]
    refine ⟨fun c => ?_, fun c => ?_⟩
    · rw [show i = (τ.1 588 0).toNat by omega]; exact hQ
    · have ih' := ih (i + 1) (by omega) (by omega)
      rw [show wS (fun k => wS (prR τ k) (τ.1 588 0).toNat) (i + 1) = wS (fun k => wS (prR τ k) (τ.1 588 0).toNat) i + wS (prR τ i) (τ.1 588 0).toNat from rfl, ← Int.add_assoc, show ((i + 1 : Nat) : Int) = (i : Int) + 1 by omega] at ih'
      unfold Z12_bound_175
      have q := W12_bn_175 hI (i := i) (by omega) (acc := acc + wS (fun k => wS (prR τ k) (τ.1 588 0).toNat) i) (by omega) ih' NN 0 (by omega) (by unfold NN; omega)
      rw [show wS (prR τ i) 0 = 0 from rfl, Int.add_zero] at q
      exact q
set_option maxRecDepth 100000 in
theorem W12_bn_9 {τ : kzM} (hI : Inv τ) {Q : Int → kzM → Prop} (hQ : Q (wS (bnP τ (τ.1 588 0).toNat) (τ.1 588 0).toNat + wS (fun k => wS (prR τ k) (τ.1 588 0).toNat) (τ.1 588 0).toNat) τ) : ∀ (N k m1 m2 : Nat), k ≤ (τ.1 588 0).toNat → (τ.1 588 0).toNat - k < N → usedM (τ.1 591) (τ.1 588 0).toNat m1 k → usedM (fun i => -τ.1 589 i) (τ.1 588 0).toNat m2 k → Wz (lp (fun _ _ _ _ _ _ => none) (Z12_bound_9B kdG0) N 612 (wS (bnP τ (τ.1 588 0).toNat) k) (m1 : Int) (m2 : Int) (k : Int)) τ Q := by
  have i9 := hI.2.2.2.2.2.2.2.2
  unfold I9 at i9
  have s1 := i9.1
  intro N
  induction N with
  | zero => intro j; intros; omega
  | succ N ih =>
    intro k m1 m2 k1 k2 u1 u2
    rw [lp_succ]
    generalize lp (fun _ _ _ _ _ _ => none) (Z12_bound_9B kdG0) N = L at ih ⊢
    have sb := wS_b (p := bnP τ (τ.1 588 0).toNat) (m := 10000) k (fun k k0 k1 => bnP_b hI k0 (by omega))
    unfold Z12_bound_9B
    simp only [Wz_rt, Wz_cnd, Wz_lI, Wz_lW, Wz_lL, Wz_cl, Wz_cv, Wz_nz, Wz_gI, Wz_gR, Wz_sI, Wz_aI, Wz_aZ, Wz_aL, Wz_aN, Wz_aR, Wz_tI, Wz_tZ, Wz_tL, Option.some.injEq, exists_eq_left', zB_0, zB_1, true_and, and_true, true_implies, not_true_eq_false, false_implies, not_false_eq_true, Classical.not_not, g_0, g_1, g_2, g_3, g_4, g_5, g_327, g_328, g_329, g_330, g_331, g_332, g_333, g_334, g_335, g_336, g_337, g_338, g_339, g_340, g_341, g_342, g_343, g_464, g_465, g_466, g_484, g_485, g_486, g_487, g_488, g_489, g_490, g_491, g_492, g_493, g_494, g_495, g_496, g_497, g_498, g_499, g_500, g_501, g_562, g_563, g_564, g_565, g_566, g_567, g_568, g_574, g_580, g_581, g_582, g_583, g_584, g_585, g_586, g_587, g_588, g_589, g_590, g_591, g_592, g_600, g_601, g_602, g_603, g_604, g_605, g_606, g_607, g_608, g_609, g_610, g_611, g_612, g_613, g_614, g_615, g_616, g_617, g_618, g_619, g_620, g_621, g_622, g_623, g_624, g_625, g_626, g_627, g_628, g_629, g_630, g_631, g_632, g_633, g_634, g_635, g_636, g_637, g_638, g_639, g_640, g_641, g_642, g_643, g_644, g_645, g_646, g_647, g_648, g_649, g_650, g_651, g_652, g_653, g_654, g_655, g_656, g_657, g_658, g_659, g_660, g_661, g_662, g_0_0, g_0_1, g_0_2, g_0_3, g_0_4, g_0_5, g_0_6, g_0_7, g_0_8, g_0_9, g_0_10, g_0_11, g_1_0, g_3_0, g_327_0, g_327_1, g_327_2, g_327_3, g_328_0, g_330_0, g_332_0, g_334_0, g_336_0, g_336_1, g_336_2, g_336_3, g_337_0, g_339_0, g_341_0, g_464_0, g_464_1, g_484_0, g_484_1, g_484_2, g_485_0, g_487_0, g_489_0, g_491_0, g_491_1, g_491_2, g_491_3, g_491_4, g_491_5, g_491_6, g_491_7, g_496_0, g_498_0, g_500_0, g_500_1, g_500_3, g_500_4, g_500_5, g_500_6, g_500_7, g_562_0, g_564_0, g_566_0, g_580_0, g_580_1, g_580_2, g_580_3, g_581_0, g_583_0, g_585_0, g_588_1, g_588_2, g_588_3, g_588_4, g_588_6, g_601_0, g_601_1, g_601_2, g_601_3, g_601_4, g_601_5, g_601_6, g_601_7, g_601_8, g_608_0, g_610_0, g_612_0, g_612_2, g_612_4, g_612_5, g_612_7, g_612_8, g_612_9, g_612_10, g_612_11, g_612_12, g_612_13, g_612_14, g_612_15, g_612_16, g_612_19, g_612_20, g_612_22, g_612_24, g_612_25, g_612_26, g_612_27, g_612_28, g_612_30, g_612_31, g_612_32, g_612_33, g_612_34, g_612_36, g_612_37, g_612_38, g_612_39, g_612_40, g_612_41, g_612_42, g_612_43, g_612_44, g_612_46, g_612_47, g_612_48, g_612_49, g_612_50, g_612_53, g_612_56, g_612_57, g_612_58, g_612_59, g_612_61, g_612_62, g_612_63, g_612_64]
    refine ⟨fun c => ?_, fun c => ?_⟩
    · rw [show k = (τ.1 588 0).toNat by omega]
      rw [show k = (τ.1 588 0).toNat by omega] at sb
      unfold Z12_bound_163
      have q := W12_bn_163 hI (acc := wS (bnP τ (τ.1 588 0).toNat) (τ.1 588 0).toNat) (by omega) hQ NN 0 (by omega) (by unfold NN; omega)
      rw [show wS (fun k => wS (prR τ k) (τ.1 588 0).toNat) 0 = 0 from rfl, Int.add_zero] at q
      exact q
    · have x1 : ∀ i, 0 ≤ i → i < 7 → τ.1 657 i = τ.1 591 i := fun i a b => (i9.2.2.1 i a b).2.2.2
      have x2 : ∀ i, 0 ≤ i → i < 7 → τ.1 655 i = τ.1 589 i := fun i a b => (i9.2.2.1 i a b).1.2
      unfold Z12_bound_27
      refine W12_bn_27 (n := τ.1 588 0) (by omega) (by omega) u1.1 u2.1 (fun l5 l6 h1 h2 => ?_) NN 0 (-1) (-1) (by omega) (by omega) (by unfold NN; omega) (Or.inl ⟨rfl, fun k a b => by omega⟩) (Or.inl ⟨rfl, fun k a b => by omega⟩)
      have g1 : selM (τ.1 591) m1 ((τ.1 588 0).toNat : Nat) l5 := by
        rw [show (((τ.1 588 0).toNat : Nat) : Int) = τ.1 588 0 by omega]
        rcases h1 with h1 | ⟨a, b, d⟩
        · exact Or.inl h1
        · exact Or.inr ⟨a, b, fun k k0 k1 k2 => by rw [← x1 k k0 (by omega), ← x1 l5 a.1 (by omega)]; exact d k k0 k1 k2⟩
      have g2 : selM (fun i => -τ.1 589 i) m2 ((τ.1 588 0).toNat : Nat) l6 := by
        rw [show (((τ.1 588 0).toNat : Nat) : Int) = τ.1 588 0 by omega]
        rcases h2 with h2 | ⟨a, b, d⟩
        · exact Or.inl h2
        · exact Or.inr ⟨a, b, fun k k0 k1 k2 => by dsimp only; rw [← x2 k k0 (by omega), ← x2 l6 a.1 (by omega)]; exact d k k0 k1 k2⟩
      have kl : (k : Int) < ((τ.1 588 0).toNat : Nat) := by omega
      have b1 := (selM_in u1 kl g1).1
      have b2 := (selM_in u2 kl g2).1
      have v1 := used_s u1 kl (by omega) g1
      have v2' := used_s u2 kl (by omega) g2
      have p1 := pick_max u1 kl g1
      have p2 := pick_min u2 kl g2
      have pb := bnP_b hI (k := (k : Int)) (by omega) (by omega)
      have pe : τ.1 657 l5 * τ.1 655 l6 = bnP τ (τ.1 588 0).toNat k := by
        rw [x1 l5 b1.1 (by omega), x2 l6 b2.1 (by omega), ← p1, ← p2]
        rfl
      have ih' := ih (k + 1) (m1 ||| (1 <<< l5.toNat)) (m2 ||| (1 <<< l6.toNat)) (by omega) (by omega) (by rw [show ((k + 1 : Nat) : Int) = (k : Int) + 1 by omega]; exact v1) (by rw [show ((k + 1 : Nat) : Int) = (k : Int) + 1 by omega]; exact v2')
      rw [show wS (bnP τ (τ.1 588 0).toNat) (k + 1) = wS (bnP τ (τ.1 588 0).toNat) k + bnP τ (τ.1 588 0).toNat k from rfl, show ((k + 1 : Nat) : Int) = (k : Int) + 1 by omega] at ih'
      have o1 := s_or (m := m1) (d := l5.toNat) (by have := u1.1; omega) (by omega)
      have o2 := s_or (m := m2) (d := l6.toNat) (by have := u2.1; omega) (by omega)
      rw [show ((l5.toNat : Nat) : Int) = l5 by omega] at o1
      rw [show ((l6.toNat : Nat) : Int) = l6 by omega] at o2
      have w1 := v1.1
      have w2 := v2'.1
      unfold Z12_bound_27B
      simp only [Wz_rt, Wz_cnd, Wz_lI, Wz_lW, Wz_lL, Wz_cl, Wz_cv, Wz_nz, Wz_gI, Wz_gR, Wz_sI, Wz_aI, Wz_aZ, Wz_aL, Wz_aN, Wz_aR, Wz_tI, Wz_tZ, Wz_tL, Option.some.injEq, exists_eq_left', zB_0, zB_1, true_and, and_true, true_implies, not_true_eq_false, false_implies, not_false_eq_true, Classical.not_not, g_0, g_1, g_2, g_3, g_4, g_5, g_327, g_328, g_329, g_330, g_331, g_332, g_333, g_334, g_335, g_336, g_337, g_338, g_339, g_340, g_341, g_342, g_343, g_464, g_465, g_466, g_484, g_485, g_486, g_487, g_488, g_489, g_490, g_491, g_492, g_493, g_494, g_495, g_496, g_497, g_498, g_499, g_500, g_501, g_562, g_563, g_564, g_565, g_566, g_567, g_568, g_574, g_580, g_581, g_582, g_583, g_584, g_585, g_586, g_587, g_588, g_589, g_590, g_591, g_592, g_600, g_601, g_602, g_603, g_604, g_605, g_606, g_607, g_608, g_609, g_610, g_611, g_612, g_613, g_614, g_615, g_616, g_617, g_618, g_619, g_620, g_621, g_622, g_623, g_624, g_625, g_626, g_627, g_628, g_629, g_630, g_631, g_632, g_633, g_634, g_635, g_636, g_637, g_638, g_639, g_640, g_641, g_642, g_643, g_644, g_645, g_646, g_647, g_648, g_649, g_650, g_651, g_652, g_653, g_654, g_655, g_656, g_657, g_658, g_659, g_660, g_661, g_662, g_0_0, g_0_1, g_0_2, g_0_3, g_0_4, g_0_5, g_0_6, g_0_7, g_0_8, g_0_9, g_0_10, g_0_11, g_1_0, g_3_0, g_327_0, g_327_1, g_327_2, g_327_3, g_328_0, g_330_0, g_332_0, g_334_0, g_336_0, g_336_1, g_336_2, g_336_3, g_337_0, g_339_0, g_341_0, g_464_0, g_464_1, g_484_0, g_484_1, g_484_2, g_485_0, g_487_0, g_489_0, g_491_0, g_491_1, g_491_2, g_491_3, g_491_4, g_491_5, g_491_6, g_491_7, g_496_0, g_498_0, g_500_0, g_500_1, g_500_3, g_500_4, g_500_5, g_500_6, g_500_7, g_562_0, g_564_0, g_566_0, g_580_0, g_580_1, g_580_2, g_580_3, g_581_0, g_583_0, g_585_0, g_588_1, g_588_2, g_588_3, g_588_4, g_588_6, g_601_0, g_601_1, g_601_2, g_601_3, g_601_4, g_601_5, g_601_6, g_601_7, g_601_8, g_608_0, g_610_0, g_612_0, g_612_2, g_612_4, g_612_5, g_612_7, g_612_8, g_612_9, g_612_10, g_612_11, g_612_12, g_612_13, g_612_14, g_612_15, g_612_16, g_612_19, g_612_20, g_612_22, g_612_24, g_612_25, g_612_26, g_612_27, g_612_28, g_612_30, g_612_31, g_612_32, g_612_33, g_612_34, g_612_36, g_612_37, g_612_38, g_612_39, g_612_40, g_612_41, g_612_42, g_612_43, g_612_44, g_612_46, g_612_47, g_612_48, g_612_49, g_612_50, g_612_53, g_612_56, g_612_57, g_612_58, g_612_59, g_612_61, g_612_62, g_612_63, g_612_64, o1, o2, pe]
      refine ⟨fun _ => ⟨by omega, by omega, by omega, by omega, by omega, by omega, ih'⟩, fun d => absurd d (by omega)⟩
set_option maxRecDepth 100000 in
theorem m_bound : MOK (Z11_bound kdG0 0) (Z12_bound kdG0 612) := by
  intro τ hI
  simp only [Z11_bound, Wz_rt, Wz_cnd, Wz_lI, Wz_lW, Wz_lL, Wz_cl, Wz_cv, Wz_nz, Wz_gI, Wz_gR, Wz_sI, Wz_aI, Wz_aZ, Wz_aL, Wz_aN, Wz_aR, Wz_tI, Wz_tZ, Wz_tL, Option.some.injEq, exists_eq_left', zB_0, zB_1, true_and, and_true, true_implies, not_true_eq_false, false_implies, not_false_eq_true, Classical.not_not, g_0, g_1, g_2, g_3, g_4, g_5, g_327, g_328, g_329, g_330, g_331, g_332, g_333, g_334, g_335, g_336, g_337, g_338, g_339, g_340, g_341, g_342, g_343, g_464, g_465, g_466, g_484, g_485, g_486, g_487, g_488, g_489, g_490, g_491, g_492, g_493, g_494, g_495, g_496, g_497, g_498, g_499, g_500, g_501, g_562, g_563, g_564, g_565, g_566, g_567, g_568, g_574, g_580, g_581, g_582, g_583, g_584, g_585, g_586, g_587, g_588, g_589, g_590, g_591, g_592, g_600, g_601, g_602, g_603, g_604, g_605, g_606, g_607, g_608, g_609, g_610, g_611, g_612, g_613, g_614, g_615, g_616, g_617, g_618, g_619, g_620, g_621, g_622, g_623, g_624, g_625, g_626, g_627, g_628, g_629, g_630, g_631, g_632, g_633, g_634, g_635, g_636, g_637, g_638, g_639, g_640, g_641, g_642, g_643, g_644, g_645, g_646, g_647, g_648, g_649, g_650, g_651, g_652, g_653, g_654, g_655, g_656, g_657, g_658, g_659, g_660, g_661, g_662, g_0_0, g_0_1, g_0_2, g_0_3, g_0_4, g_0_5, g_0_6, g_0_7, g_0_8, g_0_9, g_0_10, g_0_11, g_1_0, g_3_0, g_327_0, g_327_1, g_327_2, g_327_3, g_328_0, g_330_0, g_332_0, g_334_0, g_336_0, g_336_1, g_336_2, g_336_3, g_337_0, g_339_0, g_341_0, g_464_0, g_464_1, g_484_0, g_484_1, g_484_2, g_485_0, g_487_0, g_489_0, g_491_0, g_491_1, g_491_2, g_491_3, g_491_4, g_491_5, g_491_6, g_491_7, g_496_0, g_498_0, g_500_0, g_500_1, g_500_3, g_500_4, g_500_5, g_500_6, g_500_7, g_562_0, g_564_0, g_566_0, g_580_0, g_580_1, g_580_2, g_580_3, g_581_0, g_583_0, g_585_0, g_588_1, g_588_2, g_588_3, g_588_4, g_588_6, g_601_0, g_601_1, g_601_2, g_601_3, g_601_4, g_601_5, g_601_6, g_601_7, g_601_8, g_608_0, g_610_0, g_612_0, g_612_2, g_612_4, g_612_5, g_612_7, g_612_8, g_612_9, g_612_10, g_612_11, g_612_12, g_612_13, g_612_14, g_612_15, g_612_16, g_612_19, g_612_20, g_612_22, g_612_24, g_612_25, g_612_26, g_612_27, g_612_28, g_612_30, g_612_31, g_612_32, g_612_33, g_612_34, g_612_36, g_612_37, g_612_38, g_612_39, g_612_40, g_612_41, g_612_42, g_612_43, g_612_44, g_612_46, g_612_47, g_612_48, g_612_49, g_612_50, g_612_53, g_612_56, g_612_57, g_612_58, g_612_59, g_612_61, g_612_62, g_612_63, g_612_64]
  refine W3_lowerBound hI ?_
  rw [wS_add]
  unfold Z12_bound Z12_bound_9
  have i9 := hI.2.2.2.2.2.2.2.2
  unfold I9 at i9
  exact W12_bn_9 hI ⟨rfl, hI⟩ NN 0 0 0 (by omega) (by unfold NN; omega) (used_0 _ _) (used_0 _ _)
