/-! layouts: cost of places -/
def adP (τ : kzM) (p : Int → Int) (i : Int) : Int := τ.1 591 i * τ.1 589 (p i) + wS (fun j => (prP τ i j + prP τ j i) * farC τ (p i) (p j)) i.toNat
def cP (τ : kzM) (p : Int → Int) : Int := wS (adP τ p) (τ.1 588 0).toNat
theorem prP_L {τ σ : kzM} (h : tabL τ σ) {i : Int} (i0 : 0 ≤ i) (i1 : i < 7) (j : Int) : prP σ i j = prP τ i j := h.r9 j (by omega)
theorem farC_L {τ σ : kzM} (h : tabL τ σ) (x y : Int) : farC σ x y = farC τ x y := by
  unfold farC
  rw [h.r9 x (by decide), h.r9 y (by decide), h 588 5 (by decide)]
theorem adC_L {τ σ : kzM} (h : tabL τ σ) {i : Int} (i0 : 0 ≤ i) (i1 : i < 7) : adC σ i = adP τ (σ.1 600) i := by
  unfold adC adP clC
  rw [h.r9 (a := 591) i (by decide), h.r9 (a := 589) _ (by decide)]
  refine congrArg _ (wS_congr _ fun j j0 j1 => ?_)
  unfold pcC
  rw [prP_L h i0 i1, prP_L h j0 (by omega), farC_L h]
theorem adP_cg {τ : kzM} {p q : Int → Int} {i : Int} (i0 : 0 ≤ i) (h : ∀ j, 0 ≤ j → j ≤ i → p j = q j) : adP τ p i = adP τ q i := by
  unfold adP
  rw [h i i0 (Int.le_refl _)]
  exact congrArg _ (wS_congr _ fun j j0 j1 => by rw [h j j0 (by omega)])
theorem cP_cg {τ : kzM} {p q : Int → Int} (h : ∀ j, 0 ≤ j → j < τ.1 588 0 → p j = q j) : cP τ p = cP τ q := by
  unfold cP
  exact wS_congr _ fun j j0 j1 => adP_cg j0 (fun k k0 k1 => h k k0 (by omega))
set_option maxRecDepth 100000 in
theorem W3_tot {τ σ : kzM} (hI : Inv τ) (h : tabL τ σ) (hl : ∀ j, 0 ≤ j → j < τ.1 588 0 → 0 ≤ σ.1 600 j ∧ σ.1 600 j < τ.1 588 0) {Q : Int → kzM → Prop} (hQ : Q (cP τ (σ.1 600)) σ) : Wz (Z3_totalCost kdG0 588) σ Q := by
  have i9 := hI.2.2.2.2.2.2.2.2
  unfold I9 at i9
  have s0 := h 588 0 (by decide)
  refine W3_total (hI.tabL h) (fun j j0 j1 => by have := hl j j0 (by omega); omega) ?_
  rw [s0, show wS (adC σ) (τ.1 588 0).toNat = cP τ (σ.1 600) from wS_congr _ fun j j0 j1 => adC_L h j0 (by omega)]
  exact hQ
set_option maxRecDepth 100000 in
theorem W12_tot {τ σ : kzM} (hI : Inv τ) (h : tabL τ σ) (hl : ∀ j, 0 ≤ j → j < τ.1 588 0 → 0 ≤ σ.1 659 j ∧ σ.1 659 j < τ.1 588 0) {Q : Int → kzM → Prop} (hQ : Q (cP τ (σ.1 659)) σ) : Wz (Z12_costOf kdG0 612) σ Q := by
  have i9 := hI.2.2.2.2.2.2.2.2
  unfold I9 at i9
  have s0 := h 588 0 (by decide)
  have lm : laidM σ := fun j j0 j1 => by rw [s0] at j1 ⊢; exact hl j j0 j1
  refine W12_costOf (hI.tabL h) lm ?_
  have hp : tabL τ (fun a x => if a = 600 then σ.1 659 x else σ.1 a x, σ.2) := fun a x h1 => by dsimp only; rw [if_neg (fun q => h1 (by rw [q]; rfl))]; exact h a x h1
  have e := cost_eq (τ := (fun a x => if a = 600 then σ.1 659 x else σ.1 a x, σ.2)) (hI.tabL hp) (fun j j0 j1 => by have := lm j j0 j1; exact this) (fun i i0 i1 => rfl)
  have e2 : costM (fun a x => if a = 600 then σ.1 659 x else σ.1 a x, σ.2) = costM σ := rfl
  rw [← e2, e]
  have e3 : wS (adC (fun a x => if a = 600 then σ.1 659 x else σ.1 a x, σ.2)) (τ.1 588 0).toNat = cP τ (σ.1 659) := wS_congr _ fun j j0 j1 => by
    rw [adC_L hp j0 (by omega)]
    rfl
  rw [show ((fun a x => if a = 600 then σ.1 659 x else σ.1 a x, σ.2) : kzM).1 588 0 = τ.1 588 0 from s0, e3]
  exact hQ
set_option maxRecDepth 100000 in
theorem m_cost (v : Int) (hv : kzI v) : MOK (Z11_cost kdG0 0 v) (Z12_cost kdG0 612 v) := by
  intro τ hI
  have v1 : -2147483648 ≤ v ∧ v ≤ 2147483647 := by unfold kzI at hv; exact hv
  simp only [Z11_cost, Z11_cost_23, Wz_rt, Wz_cnd, Wz_lI, Wz_lW, Wz_lL, Wz_cl, Wz_cv, Wz_nz, Wz_gI, Wz_gR, Wz_sI, Wz_aI, Wz_aZ, Wz_aL, Wz_aN, Wz_aR, Wz_tI, Wz_tZ, Wz_tL, Option.some.injEq, exists_eq_left', zB_0, zB_1, true_and, and_true, true_implies, not_true_eq_false, false_implies, not_false_eq_true, Classical.not_not, g_0, g_1, g_2, g_3, g_4, g_5, g_327, g_328, g_329, g_330, g_331, g_332, g_333, g_334, g_335, g_336, g_337, g_338, g_339, g_340, g_341, g_342, g_343, g_464, g_465, g_466, g_484, g_485, g_486, g_487, g_488, g_489, g_490, g_491, g_492, g_493, g_494, g_495, g_496, g_497, g_498, g_499, g_500, g_501, g_562, g_563, g_564, g_565, g_566, g_567, g_568, g_574, g_580, g_581, g_582, g_583, g_584, g_585, g_586, g_587, g_588, g_589, g_590, g_591, g_592, g_600, g_601, g_602, g_603, g_604, g_605, g_606, g_607, g_608, g_609, g_610, g_611, g_612, g_613, g_614, g_615, g_616, g_617, g_618, g_619, g_620, g_621, g_622, g_623, g_624, g_625, g_626, g_627, g_628, g_629, g_630, g_631, g_632, g_633, g_634, g_635, g_636, g_637, g_638, g_639, g_640, g_641, g_642, g_643, g_644, g_645, g_646, g_647, g_648, g_649, g_650, g_651, g_652, g_653, g_654, g_655, g_656, g_657, g_658, g_659, g_660, g_661, g_662, g_0_0, g_0_1, g_0_2, g_0_3, g_0_4, g_0_5, g_0_6, g_0_7, g_0_8, g_0_9, g_0_10, g_0_11, g_1_0, g_3_0, g_327_0, g_327_1, g_327_2, g_327_3, g_328_0, g_330_0, g_332_0, g_334_0, g_336_0, g_336_1, g_336_2, g_336_3, g_337_0, g_339_0, g_341_0, g_464_0, g_464_1, g_484_0, g_484_1, g_484_2, g_485_0, g_487_0, g_489_0, g_491_0, g_491_1, g_491_2, g_491_3, g_491_4, g_491_5, g_491_6, g_491_7, g_496_0, g_498_0, g_500_0, g_500_1, g_500_3, g_500_4, g_500_5, g_500_6, g_500_7, g_562_0, g_564_0, g_566_0, g_580_0, g_580_1, g_580_2, g_580_3, g_581_0, g_583_0, g_585_0, g_588_1, g_588_2, g_588_3, g_588_4, g_588_6, g_601_0, g_601_1, g_601_2, g_601_3, g_601_4, g_601_5, g_601_6, g_601_7, g_601_8, g_608_0, g_610_0, g_612_0, g_612_2, g_612_4, g_612_5, g_612_7, g_612_8, g_612_9, g_612_10, g_612_11, g_612_12, g_612_13, g_612_14, g_612_15, g_612_16, g_612_19, g_612_20, g_612_22, g_612_24, g_612_25, g_612_26, g_612_27, g_612_28, g_612_30, g_612_31, g_612_32, g_612_33, g_612_34, g_612_36, g_612_37, g_612_38, g_612_39, g_612_40, g_612_41, g_612_42, g_612_43, g_612_44, g_612_46, g_612_47, g_612_48, g_612_49, g_612_50, g_612_53, g_612_56, g_612_57, g_612_58, g_612_59, g_612_61, g_612_62, g_612_63, g_612_64]
  refine W3_read hI v1 ?_
  intro σ hs hd
  have hL : tabL τ σ := tabL.o600 hs
  have hI2 := hI.tabL hL
  have s0 := hs 588 0 (by decide)
  by_cases c : 0 ≤ v ∧ goodL v (τ.1 588 0)
  · rw [zp_pos c]
    have hl : ∀ j, 0 ≤ j → j < τ.1 588 0 → 0 ≤ dgL v (τ.1 588 0) j ∧ dgL v (τ.1 588 0) j < τ.1 588 0 := fun j j0 j1 => ⟨(dgL_b c.1 v1.2).1, c.2.2.1 j j0 j1⟩
    refine ⟨fun z => absurd z (by decide), fun _ => W3_tot hI hL (fun j j0 j1 => by rw [hd c.1 j j0 j1]; exact hl j j0 j1) ?_⟩
    simp only [Z12_cost, Z12_cost_17, Wz_rt, Wz_cnd, Wz_lI, Wz_lW, Wz_lL, Wz_cl, Wz_cv, Wz_nz, Wz_gI, Wz_gR, Wz_sI, Wz_aI, Wz_aZ, Wz_aL, Wz_aN, Wz_aR, Wz_tI, Wz_tZ, Wz_tL, Option.some.injEq, exists_eq_left', zB_0, zB_1, true_and, and_true, true_implies, not_true_eq_false, false_implies, not_false_eq_true, Classical.not_not, g_0, g_1, g_2, g_3, g_4, g_5, g_327, g_328, g_329, g_330, g_331, g_332, g_333, g_334, g_335, g_336, g_337, g_338, g_339, g_340, g_341, g_342, g_343, g_464, g_465, g_466, g_484, g_485, g_486, g_487, g_488, g_489, g_490, g_491, g_492, g_493, g_494, g_495, g_496, g_497, g_498, g_499, g_500, g_501, g_562, g_563, g_564, g_565, g_566, g_567, g_568, g_574, g_580, g_581, g_582, g_583, g_584, g_585, g_586, g_587, g_588, g_589, g_590, g_591, g_592, g_600, g_601, g_602, g_603, g_604, g_605, g_606, g_607, g_608, g_609, g_610, g_611, g_612, g_613, g_614, g_615, g_616, g_617, g_618, g_619, g_620, g_621, g_622, g_623, g_624, g_625, g_626, g_627, g_628, g_629, g_630, g_631, g_632, g_633, g_634, g_635, g_636, g_637, g_638, g_639, g_640, g_641, g_642, g_643, g_644, g_645, g_646, g_647, g_648, g_649, g_650, g_651, g_652, g_653, g_654, g_655, g_656, g_657, g_658, g_659, g_660, g_661, g_662, g_0_0, g_0_1, g_0_2, g_0_3, g_0_4, g_0_5, g_0_6, g_0_7, g_0_8, g_0_9, g_0_10, g_0_11, g_1_0, g_3_0, g_327_0, g_327_1, g_327_2, g_327_3, g_328_0, g_330_0, g_332_0, g_334_0, g_336_0, g_336_1, g_336_2, g_336_3, g_337_0, g_339_0, g_341_0, g_464_0, g_464_1, g_484_0, g_484_1, g_484_2, g_485_0, g_487_0, g_489_0, g_491_0, g_491_1, g_491_2, g_491_3, g_491_4, g_491_5, g_491_6, g_491_7, g_496_0, g_498_0, g_500_0, g_500_1, g_500_3, g_500_4, g_500_5, g_500_6, g_500_7, g_562_0, g_564_0, g_566_0, g_580_0, g_580_1, g_580_2, g_580_3, g_581_0, g_583_0, g_585_0, g_588_1, g_588_2, g_588_3, g_588_4, g_588_6, g_601_0, g_601_1, g_601_2, g_601_3, g_601_4, g_601_5, g_601_6, g_601_7, g_601_8, g_608_0, g_610_0, g_612_0, g_612_2, g_612_4, g_612_5, g_612_7, g_612_8, g_612_9, g_612_10, g_612_11, g_612_12, g_612_13, g_612_14, g_612_15, g_612_16, g_612_19, g_612_20, g_612_22, g_612_24, g_612_25, g_612_26, g_612_27, g_612_28, g_612_30, g_612_31, g_612_32, g_612_33, g_612_34, g_612_36, g_612_37, g_612_38, g_612_39, g_612_40, g_612_41, g_612_42, g_612_43, g_612_44, g_612_46, g_612_47, g_612_48, g_612_49, g_612_50, g_612_53, g_612_56, g_612_57, g_612_58, g_612_59, g_612_61, g_612_62, g_612_63, g_612_64]
    refine W12_lay hI2 v1 ?_
    intro ρ hr hd2
    rw [s0] at hd2 ⊢
    have hL2 : tabL τ ρ := hL.tr (tabL.o659 hr)
    rw [zp_pos c]
    refine ⟨fun z => absurd z (by decide), fun _ => W12_tot hI hL2 (fun j j0 j1 => by rw [hd2 c.1 j j0 j1]; exact hl j j0 j1) ⟨?_, hI.tabL hL2⟩⟩
    exact cP_cg fun j j0 j1 => by rw [hd c.1 j j0 j1, hd2 c.1 j j0 j1]
  · rw [zp_neg c]
    refine ⟨fun _ => ?_, fun z => absurd rfl z⟩
    simp only [Z12_cost, Z12_cost_17, Wz_rt, Wz_cnd, Wz_lI, Wz_lW, Wz_lL, Wz_cl, Wz_cv, Wz_nz, Wz_gI, Wz_gR, Wz_sI, Wz_aI, Wz_aZ, Wz_aL, Wz_aN, Wz_aR, Wz_tI, Wz_tZ, Wz_tL, Option.some.injEq, exists_eq_left', zB_0, zB_1, true_and, and_true, true_implies, not_true_eq_false, false_implies, not_false_eq_true, Classical.not_not, g_0, g_1, g_2, g_3, g_4, g_5, g_327, g_328, g_329, g_330, g_331, g_332, g_333, g_334, g_335, g_336, g_337, g_338, g_339, g_340, g_341, g_342, g_343, g_464, g_465, g_466, g_484, g_485, g_486, g_487, g_488, g_489, g_490, g_491, g_492, g_493, g_494, g_495, g_496, g_497, g_498, g_499, g_500, g_501, g_562, g_563, g_564, g_565, g_566, g_567, g_568, g_574, g_580, g_581, g_582, g_583, g_584, g_585, g_586, g_587, g_588, g_589, g_590, g_591, g_592, g_600, g_601, g_602, g_603, g_604, g_605, g_606, g_607, g_608, g_609, g_610, g_611, g_612, g_613, g_614, g_615, g_616, g_617, g_618, g_619, g_620, g_621, g_622, g_623, g_624, g_625, g_626, g_627, g_628, g_629, g_630, g_631, g_632, g_633, g_634, g_635, g_636, g_637, g_638, g_639, g_640, g_641, g_642, g_643, g_644, g_645, g_646, g_647, g_648, g_649, g_650, g_651, g_652, g_653, g_654, g_655, g_656, g_657, g_658, g_659, g_660, g_661, g_662, g_0_0, g_0_1, g_0_2, g_0_3, g_0_4, g_0_5, g_0_6, g_0_7, g_0_8, g_0_9, g_0_10, g_0_11, g_1_0, g_3_0, g_327_0, g_327_1, g_327_2, g_327_3, g_328_0, g_330_0, g_332_0, g_334_0, g_336_0, g_336_1, g_336_2, g_336_3, g_337_0, g_339_0, g_341_0, g_464_0, g_464_1, g_484_0, g_484_1, g_484_2, g_485_0, g_487_0, g_489_0, g_491_0, g_491_1, g_491_2, g_491_3, g_491_4, g_491_5, g_491_6, g_491_7, g_496_0, g_498_0, g_500_0, g_500_1, g_500_3, g_500_4, g_500_5, g_500_6, g_500_7, g_562_0, g_564_0, g_566_0, g_580_0, g_580_1, g_580_2, g_580_3, g_581_0, g_583_0, g_585_0, g_588_1, g_588_2, g_588_3, g_588_4, g_588_6, g_601_0, g_601_1, g_601_2, g_601_3, g_601_4, g_601_5, g_601_6, g_601_7, g_601_8, g_608_0, g_610_0, g_612_0, g_612_2, g_612_4, g_612_5, g_612_7, g_612_8, g_612_9, g_612_10, g_612_11, g_612_12, g_612_13, g_612_14, g_612_15, g_612_16, g_612_19, g_612_20, g_612_22, g_612_24, g_612_25, g_612_26, g_612_27, g_612_28, g_612_30, g_612_31, g_612_32, g_612_33, g_612_34, g_612_36, g_612_37, g_612_38, g_612_39, g_612_40, g_612_41, g_612_42, g_612_43, g_612_44, g_612_46, g_612_47, g_612_48, g_612_49, g_612_50, g_612_53, g_612_56, g_612_57, g_612_58, g_612_59, g_612_61, g_612_62, g_612_63, g_612_64]
    refine W12_lay hI2 v1 ?_
    intro ρ hr hd2
    rw [s0]
    have hL2 : tabL τ ρ := hL.tr (tabL.o659 hr)
    rw [zp_neg c]
    exact ⟨fun _ => hI.tabL hL2, fun z => absurd rfl z⟩
