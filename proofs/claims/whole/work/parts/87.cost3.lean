/-! layouts: the class's sum -/
def farC (τ : kzM) (x y : Int) : Int := zabs (x - y) + if τ.1 590 x = τ.1 590 y then τ.1 588 5 else 0
def prP (τ : kzM) (a b : Int) : Int := τ.1 (593 + a.toNat) b
def pcC (τ : kzM) (i j : Int) : Int := (prP τ i j + prP τ j i) * farC τ (τ.1 600 i) (τ.1 600 j)
def clC (τ : kzM) (i : Int) : Int := τ.1 591 i * τ.1 589 (τ.1 600 i)
def adC (τ : kzM) (i : Int) : Int := clC τ i + wS (pcC τ i) i.toNat
set_option maxRecDepth 100000 in
theorem W3_far {τ : kzM} (hI : Inv τ) {x y : Int} (x0 : 0 ≤ x) (x1 : x < 7) (y0 : 0 ≤ y) (y1 : y < 7) {Q : Int → kzM → Prop} (hQ : Q (farC τ x y) τ) : Wz (Z3_farness kdG0 588 x y) τ Q := by
  have i9 := hI.2.2.2.2.2.2.2.2
  unfold I9 at i9
  have s2 := i9.2.1
  have zb : 0 ≤ zabs (x - y) ∧ zabs (x - y) ≤ 6 := by unfold zabs; split <;> omega
  unfold farC at hQ
  simp only [Z3_farness, Z3_farness_29, Wz_rt, Wz_cnd, Wz_lI, Wz_lW, Wz_lL, Wz_cl, Wz_cv, Wz_nz, Wz_gI, Wz_gR, Wz_sI, Wz_aI, Wz_aZ, Wz_aL, Wz_aN, Wz_aR, Wz_tI, Wz_tZ, Wz_tL, Option.some.injEq, exists_eq_left', zB_0, zB_1, true_and, and_true, true_implies, not_true_eq_false, false_implies, not_false_eq_true, Classical.not_not, g_0, g_1, g_2, g_3, g_4, g_5, g_327, g_328, g_329, g_330, g_331, g_332, g_333, g_334, g_335, g_336, g_337, g_338, g_339, g_340, g_341, g_342, g_343, g_464, g_465, g_466, g_484, g_485, g_486, g_487, g_488, g_489, g_490, g_491, g_492, g_493, g_494, g_495, g_496, g_497, g_498, g_499, g_500, g_501, g_562, g_563, g_564, g_565, g_566, g_567, g_568, g_574, g_580, g_581, g_582, g_583, g_584, g_585, g_586, g_587, g_588, g_589, g_590, g_591, g_592, g_600, g_601, g_602, g_603, g_604, g_605, g_606, g_607, g_608, g_609, g_610, g_611, g_612, g_613, g_614, g_615, g_616, g_617, g_618, g_619, g_620, g_621, g_622, g_623, g_624, g_625, g_626, g_627, g_628, g_629, g_630, g_631, g_632, g_633, g_634, g_635, g_636, g_637, g_638, g_639, g_640, g_641, g_642, g_643, g_644, g_645, g_646, g_647, g_648, g_649, g_650, g_651, g_652, g_653, g_654, g_655, g_656, g_657, g_658, g_659, g_660, g_661, g_662, g_0_0, g_0_1, g_0_2, g_0_3, g_0_4, g_0_5, g_0_6, g_0_7, g_0_8, g_0_9, g_0_10, g_0_11, g_1_0, g_3_0, g_327_0, g_327_1, g_327_2, g_327_3, g_328_0, g_330_0, g_332_0, g_334_0, g_336_0, g_336_1, g_336_2, g_336_3, g_337_0, g_339_0, g_341_0, g_464_0, g_464_1, g_484_0, g_484_1, g_484_2, g_485_0, g_487_0, g_489_0, g_491_0, g_491_1, g_491_2, g_491_3, g_491_4, g_491_5, g_491_6, g_491_7, g_496_0, g_498_0, g_500_0, g_500_1, g_500_3, g_500_4, g_500_5, g_500_6, g_500_7, g_562_0, g_564_0, g_566_0, g_580_0, g_580_1, g_580_2, g_580_3, g_581_0, g_583_0, g_585_0, g_588_1, g_588_2, g_588_3, g_588_4, g_588_6, g_601_0, g_601_1, g_601_2, g_601_3, g_601_4, g_601_5, g_601_6, g_601_7, g_601_8, g_608_0, g_610_0, g_612_0, g_612_2, g_612_4, g_612_5, g_612_7, g_612_8, g_612_9, g_612_10, g_612_11, g_612_12, g_612_13, g_612_14, g_612_15, g_612_16, g_612_19, g_612_20, g_612_22, g_612_24, g_612_25, g_612_26, g_612_27, g_612_28, g_612_30, g_612_31, g_612_32, g_612_33, g_612_34, g_612_36, g_612_37, g_612_38, g_612_39, g_612_40, g_612_41, g_612_42, g_612_43, g_612_44, g_612_46, g_612_47, g_612_48, g_612_49, g_612_50, g_612_53, g_612_56, g_612_57, g_612_58, g_612_59, g_612_61, g_612_62, g_612_63, g_612_64]
  refine ⟨by omega, by omega, fun c => ⟨by omega, by omega, by omega, ?_⟩, fun c => ⟨by omega, by omega, by omega, ?_⟩⟩
  · rw [if_pos c] at hQ; exact hQ
  · rw [if_neg c] at hQ; exact hQ
theorem farC_b {τ : kzM} (hI : Inv τ) {x y : Int} (x0 : 0 ≤ x) (x1 : x < 7) (y0 : 0 ≤ y) (y1 : y < 7) : 0 ≤ farC τ x y ∧ farC τ x y ≤ 26 := by
  have i9 := hI.2.2.2.2.2.2.2.2
  unfold I9 at i9
  have s2 := i9.2.1
  unfold farC zabs
  split <;> split <;> omega
theorem prP_b {τ : kzM} (hI : Inv τ) {a b : Int} (a0 : 0 ≤ a) (a1 : a < 7) (b0 : 0 ≤ b) (b1 : b < 7) : 0 ≤ prP τ a b ∧ prP τ a b ≤ 50 := by
  have i9 := hI.2.2.2.2.2.2.2.2
  unfold I9 at i9
  exact (i9.2.2.2 a b a0 a1 b0 b1).1
theorem pcC_b {τ : kzM} (hI : Inv τ) {i j : Int} (i0 : 0 ≤ i) (i1 : i < 7) (j0 : 0 ≤ j) (j1 : j < 7) (hi : 0 ≤ τ.1 600 i ∧ τ.1 600 i < 7) (hj : 0 ≤ τ.1 600 j ∧ τ.1 600 j < 7) : 0 ≤ pcC τ i j ∧ pcC τ i j ≤ 2600 := by
  have a := prP_b hI i0 i1 j0 j1
  have b := prP_b hI j0 j1 i0 i1
  exact mul_b (u := 100) ⟨by omega, by omega⟩ (farC_b hI hi.1 hi.2 hj.1 hj.2)
set_option maxRecDepth 100000 in
theorem W3_ad_21 {τ : kzM} (hI : Inv τ) {i acc : Int} (i0 : 0 ≤ i) (i1 : i < 7) (hl : ∀ j, 0 ≤ j → j ≤ i → 0 ≤ τ.1 600 j ∧ τ.1 600 j < 7) (hacc : 0 ≤ acc ∧ acc ≤ 1000000) {Q : Int → kzM → Prop} (hQ : Q (acc + wS (pcC τ i) i.toNat) τ) : ∀ (N j : Nat), (j : Int) ≤ i → i.toNat - j < N → Wz (lp (fun _ _ _ _ _ => none) (Z3_addedCost_21B kdG0) N 588 i (acc + wS (pcC τ i) j) (j : Int)) τ Q := by
  intro N
  induction N with
  | zero => intro j; intros; omega
  | succ N ih =>
    intro j j1 j2
    rw [lp_succ]
    generalize lp (fun _ _ _ _ _ => none) (Z3_addedCost_21B kdG0) N = L at ih ⊢
    obtain ⟨a1, a2⟩ := g_pl (i := i) i0 i1
    obtain ⟨b1, b2⟩ := g_pl (i := (j : Int)) (by omega) (by omega)
    unfold Z3_addedCost_21B
    simp only [Z3_addedCost_72, Wz_rt, Wz_cnd, Wz_lI, Wz_lW, Wz_lL, Wz_cl, Wz_cv, Wz_nz, Wz_gI, Wz_gR, Wz_sI, Wz_aI, Wz_aZ, Wz_aL, Wz_aN, Wz_aR, Wz_tI, Wz_tZ, Wz_tL, Option.some.injEq, exists_eq_left', zB_0, zB_1, true_and, and_true, true_implies, not_true_eq_false, false_implies, not_false_eq_true, Classical.not_not, g_0, g_1, g_2, g_3, g_4, g_5, g_327, g_328, g_329, g_330, g_331, g_332, g_333, g_334, g_335, g_336, g_337, g_338, g_339, g_340, g_341, g_342, g_343, g_464, g_465, g_466, g_484, g_485, g_486, g_487, g_488, g_489, g_490, g_491, g_492, g_493, g_494, g_495, g_496, g_497, g_498, g_499, g_500, g_501, g_562, g_563, g_564, g_565, g_566, g_567, g_568, g_574, g_580, g_581, g_582, g_583, g_584, g_585, g_586, g_587, g_588, g_589, g_590, g_591, g_592, g_600, g_601, g_602, g_603, g_604, g_605, g_606, g_607, g_608, g_609, g_610, g_611, g_612, g_613, g_614, g_615, g_616, g_617, g_618, g_619, g_620, g_621, g_622, g_623, g_624, g_625, g_626, g_627, g_628, g_629, g_630, g_631, g_632, g_633, g_634, g_635, g_636, g_637, g_638, g_639, g_640, g_641, g_642, g_643, g_644, g_645, g_646, g_647, g_648, g_649, g_650, g_651, g_652, g_653, g_654, g_655, g_656, g_657, g_658, g_659, g_660, g_661, g_662, g_0_0, g_0_1, g_0_2, g_0_3, g_0_4, g_0_5, g_0_6, g_0_7, g_0_8, g_0_9, g_0_10, g_0_11, g_1_0, g_3_0, g_327_0, g_327_1, g_327_2, g_327_3, g_328_0, g_330_0, g_332_0, g_334_0, g_336_0, g_336_1, g_336_2, g_336_3, g_337_0, g_339_0, g_341_0, g_464_0, g_464_1, g_484_0, g_484_1, g_484_2, g_485_0, g_487_0, g_489_0, g_491_0, g_491_1, g_491_2, g_491_3, g_491_4, g_491_5, g_491_6, g_491_7, g_496_0, g_498_0, g_500_0, g_500_1, g_500_3, g_500_4, g_500_5, g_500_6, g_500_7, g_562_0, g_564_0, g_566_0, g_580_0, g_580_1, g_580_2, g_580_3, g_581_0, g_583_0, g_585_0, g_588_1, g_588_2, g_588_3, g_588_4, g_588_6, g_601_0, g_601_1, g_601_2, g_601_3, g_601_4, g_601_5, g_601_6, g_601_7, g_601_8, g_608_0, g_610_0, g_612_0, g_612_2, g_612_4, g_612_5, g_612_7, g_612_8, g_612_9, g_612_10, g_612_11, g_612_12, g_612_13, g_612_14, g_612_15, g_612_16, g_612_19, g_612_20, g_612_22, g_612_24, g_612_25, g_612_26, g_612_27, g_612_28, g_612_30, g_612_31, g_612_32, g_612_33, g_612_34, g_612_36, g_612_37, g_612_38, g_612_39, g_612_40, g_612_41, g_612_42, g_612_43, g_612_44, g_612_46, g_612_47, g_612_48, g_612_49, g_612_50, g_612_53, g_612_56, g_612_57, g_612_58, g_612_59, g_612_61, g_612_62, g_612_63, g_612_64, a1, a2, b1, b2]
    refine ⟨fun c => ?_, fun c => ?_⟩
    · rw [show j = i.toNat by omega]; exact hQ
    · have l := hl i i0 (Int.le_refl _)
      have m := hl j (by omega) (by omega)
      have ih' := ih (j + 1) (by omega) (by omega)
      rw [show wS (pcC τ i) (j + 1) = wS (pcC τ i) j + pcC τ i j from rfl, ← Int.add_assoc, show ((j + 1 : Nat) : Int) = (j : Int) + 1 by omega] at ih'
      have pb := pcC_b hI i0 i1 (show 0 ≤ (j : Int) by omega) (by omega) l m
      have sb := wS_b (p := pcC τ i) (m := 2600) j (fun k k0 k1 => pcC_b hI i0 i1 k0 (by omega) l (hl k k0 (by omega)))
      have p1 := prP_b hI i0 i1 (show 0 ≤ (j : Int) by omega) (by omega)
      have p2 := prP_b hI (show 0 ≤ (j : Int) by omega) (by omega) i0 i1
      rw [show τ.1 (593 + i.toNat) j = prP τ i j from rfl, show τ.1 (593 + (j : Int).toNat) i = prP τ j i from rfl]
      have em : (prP τ i j + prP τ j i) * farC τ (τ.1 600 i) (τ.1 600 j) = pcC τ i j := rfl
      refine ⟨by omega, by omega, by omega, by omega, by omega, fun d => ⟨by omega, ?_⟩, fun d => ⟨by omega, by omega, W3_far hI l.1 l.2 m.1 m.2 ?_⟩⟩
      · have e : pcC τ i j = 0 := by rw [← em, show prP τ i j + prP τ j i = 0 by omega, Int.zero_mul]
        rw [e, Int.add_zero] at ih'
        exact ih'
      · rw [em]
        exact ⟨by omega, by omega, ih'⟩
theorem clC_b {τ : kzM} (hI : Inv τ) {i : Int} (i0 : 0 ≤ i) (i1 : i < 7) (l : 0 ≤ τ.1 600 i ∧ τ.1 600 i < 7) : 0 ≤ clC τ i ∧ clC τ i ≤ 1980 := by
  have i9 := hI.2.2.2.2.2.2.2.2
  unfold I9 at i9
  exact mul_b (i9.2.2.1 i i0 i1).2.2.1 (i9.2.2.1 _ l.1 l.2).1.1
set_option maxRecDepth 100000 in
theorem W3_added {τ : kzM} (hI : Inv τ) {i : Int} (i0 : 0 ≤ i) (i1 : i < 7) (hl : ∀ j, 0 ≤ j → j ≤ i → 0 ≤ τ.1 600 j ∧ τ.1 600 j < 7) {Q : Int → kzM → Prop} (hQ : Q (adC τ i) τ) : Wz (Z3_addedCost kdG0 588 i) τ Q := by
  have l := hl i i0 (Int.le_refl _)
  have cb := clC_b hI i0 i1 l
  simp only [Z3_addedCost, Wz_rt, Wz_cnd, Wz_lI, Wz_lW, Wz_lL, Wz_cl, Wz_cv, Wz_nz, Wz_gI, Wz_gR, Wz_sI, Wz_aI, Wz_aZ, Wz_aL, Wz_aN, Wz_aR, Wz_tI, Wz_tZ, Wz_tL, Option.some.injEq, exists_eq_left', zB_0, zB_1, true_and, and_true, true_implies, not_true_eq_false, false_implies, not_false_eq_true, Classical.not_not, g_0, g_1, g_2, g_3, g_4, g_5, g_327, g_328, g_329, g_330, g_331, g_332, g_333, g_334, g_335, g_336, g_337, g_338, g_339, g_340, g_341, g_342, g_343, g_464, g_465, g_466, g_484, g_485, g_486, g_487, g_488, g_489, g_490, g_491, g_492, g_493, g_494, g_495, g_496, g_497, g_498, g_499, g_500, g_501, g_562, g_563, g_564, g_565, g_566, g_567, g_568, g_574, g_580, g_581, g_582, g_583, g_584, g_585, g_586, g_587, g_588, g_589, g_590, g_591, g_592, g_600, g_601, g_602, g_603, g_604, g_605, g_606, g_607, g_608, g_609, g_610, g_611, g_612, g_613, g_614, g_615, g_616, g_617, g_618, g_619, g_620, g_621, g_622, g_623, g_624, g_625, g_626, g_627, g_628, g_629, g_630, g_631, g_632, g_633, g_634, g_635, g_636, g_637, g_638, g_639, g_640, g_641, g_642, g_643, g_644, g_645, g_646, g_647, g_648, g_649, g_650, g_651, g_652, g_653, g_654, g_655, g_656, g_657, g_658, g_659, g_660, g_661, g_662, g_0_0, g_0_1, g_0_2, g_0_3, g_0_4, g_0_5, g_0_6, g_0_7, g_0_8, g_0_9, g_0_10, g_0_11, g_1_0, g_3_0, g_327_0, g_327_1, g_327_2, g_327_3, g_328_0, g_330_0, g_332_0, g_334_0, g_336_0, g_336_1, g_336_2, g_336_3, g_337_0, g_339_0, g_341_0, g_464_0, g_464_1, g_484_0, g_484_1, g_484_2, g_485_0, g_487_0, g_489_0, g_491_0, g_491_1, g_491_2, g_491_3, g_491_4, g_491_5, g_491_6, g_491_7, g_496_0, g_498_0, g_500_0, g_500_1, g_500_3, g_500_4, g_500_5, g_500_6, g_500_7, g_562_0, g_564_0, g_566_0, g_580_0, g_580_1, g_580_2, g_580_3, g_581_0, g_583_0, g_585_0, g_588_1, g_588_2, g_588_3, g_588_4, g_588_6, g_601_0, g_601_1, g_601_2, g_601_3, g_601_4, g_601_5, g_601_6, g_601_7, g_601_8, g_608_0, g_610_0, g_612_0, g_612_2, g_612_4, g_612_5, g_612_7, g_612_8, g_612_9, g_612_10, g_612_11, g_612_12, g_612_13, g_612_14, g_612_15, g_612_16, g_612_19, g_612_20, g_612_22, g_612_24, g_612_25, g_612_26, g_612_27, g_612_28, g_612_30, g_612_31, g_612_32, g_612_33, g_612_34, g_612_36, g_612_37, g_612_38, g_612_39, g_612_40, g_612_41, g_612_42, g_612_43, g_612_44, g_612_46, g_612_47, g_612_48, g_612_49, g_612_50, g_612_53, g_612_56, g_612_57, g_612_58, g_612_59, g_612_61, g_612_62, g_612_63, g_612_64]
  rw [show τ.1 591 i * τ.1 589 (τ.1 600 i) = clC τ i from rfl]
  refine ⟨by omega, by omega, by omega, by omega, ?_⟩
  unfold Z3_addedCost_21
  have q := W3_ad_21 hI i0 i1 hl (acc := clC τ i) (by omega) hQ NN 0 (by omega) (by unfold NN; omega)
  rw [show wS (pcC τ i) 0 = 0 from rfl, Int.add_zero] at q
  exact q
theorem adC_b {τ : kzM} (hI : Inv τ) {i : Int} (i0 : 0 ≤ i) (i1 : i < 7) (hl : ∀ j, 0 ≤ j → j ≤ i → 0 ≤ τ.1 600 j ∧ τ.1 600 j < 7) : 0 ≤ adC τ i ∧ adC τ i ≤ 20180 := by
  have l := hl i i0 (Int.le_refl _)
  have cb := clC_b hI i0 i1 l
  have sb := wS_b (p := pcC τ i) (m := 2600) i.toNat (fun k k0 k1 => pcC_b hI i0 i1 k0 (by omega) l (hl k k0 (by omega)))
  unfold adC
  omega
set_option maxRecDepth 100000 in
theorem W3_to_4 {τ : kzM} (hI : Inv τ) (hl : ∀ j, 0 ≤ j → j < τ.1 588 0 → 0 ≤ τ.1 600 j ∧ τ.1 600 j < 7) {Q : Int → kzM → Prop} (hQ : Q (wS (adC τ) (τ.1 588 0).toNat) τ) : ∀ (N i : Nat), (i : Int) ≤ τ.1 588 0 → (τ.1 588 0).toNat - i < N → Wz (lp (fun _ _ _ _ => none) (Z3_totalCost_4B kdG0) N 588 (wS (adC τ) i) (i : Int)) τ Q := by
  have i9 := hI.2.2.2.2.2.2.2.2
  unfold I9 at i9
  have s1 := i9.1
  intro N
  induction N with
  | zero => intro j; intros; omega
  | succ N ih =>
    intro i j1 j2
    rw [lp_succ]
    generalize lp (fun _ _ _ _ => none) (Z3_totalCost_4B kdG0) N = L at ih ⊢
    unfold Z3_totalCost_4B
    simp only [Wz_rt, Wz_cnd, Wz_lI, Wz_lW, Wz_lL, Wz_cl, Wz_cv, Wz_nz, Wz_gI, Wz_gR, Wz_sI, Wz_aI, Wz_aZ, Wz_aL, Wz_aN, Wz_aR, Wz_tI, Wz_tZ, Wz_tL, Option.some.injEq, exists_eq_left', zB_0, zB_1, true_and, and_true, true_implies, not_true_eq_false, false_implies, not_false_eq_true, Classical.not_not, g_0, g_1, g_2, g_3, g_4, g_5, g_327, g_328, g_329, g_330, g_331, g_332, g_333, g_334, g_335, g_336, g_337, g_338, g_339, g_340, g_341, g_342, g_343, g_464, g_465, g_466, g_484, g_485, g_486, g_487, g_488, g_489, g_490, g_491, g_492, g_493, g_494, g_495, g_496, g_497, g_498, g_499, g_500, g_501, g_562, g_563, g_564, g_565, g_566, g_567, g_568, g_574, g_580, g_581, g_582, g_583, g_584, g_585, g_586, g_587, g_588, g_589, g_590, g_591, g_592, g_600, g_601, g_602, g_603, g_604, g_605, g_606, g_607, g_608, g_609, g_610, g_611, g_612, g_613, g_614, g_615, g_616, g_617, g_618, g_619, g_620, g_621, g_622, g_623, g_624, g_625, g_626, g_627, g_628, g_629, g_630, g_631, g_632, g_633, g_634, g_635, g_636, g_637, g_638, g_639, g_640, g_641, g_642, g_643, g_644, g_645, g_646, g_647, g_648, g_649, g_650, g_651, g_652, g_653, g_654, g_655, g_656, g_657, g_658, g_659, g_660, g_661, g_662, g_0_0, g_0_1, g_0_2, g_0_3, g_0_4, g_0_5, g_0_6, g_0_7, g_0_8, g_0_9, g_0_10, g_0_11, g_1_0, g_3_0, g_327_0, g_327_1, g_327_2, g_327_3, g_328_0, g_330_0, g_332_0, g_334_0, g_336_0, g_336_1, g_336_2, g_336_3, g_337_0, g_339_0, g_341_0, g_464_0, g_464_1, g_484_0, g_484_1, g_484_2, g_485_0, g_487_0, g_489_0, g_491_0, g_491_1, g_491_2, g_491_3, g_491_4, g_491_5, g_491_6, g_491_7, g_496_0, g_498_0, g_500_0, g_500_1, g_500_3, g_500_4, g_500_5, g_500_6, g_500_7, g_562_0, g_564_0, g_566_0, g_580_0, g_580_1, g_580_2, g_580_3, g_581_0, g_583_0, g_585_0, g_588_1, g_588_2, g_588_3, g_588_4, g_588_6, g_601_0, g_601_1, g_601_2, g_601_3, g_601_4, g_601_5, g_601_6, g_601_7, g_601_8, g_608_0, g_610_0, g_612_0, g_612_2, g_612_4, g_612_5, g_612_7, g_612_8, g_612_9, g_612_10, g_612_11, g_612_12, g_612_13, g_612_14, g_612_15, g_612_16, g_612_19, g_612_20, g_612_22, g_612_24, g_612_25, g_612_26, g_612_27, g_612_28, g_612_30, g_612_31, g_612_32, g_612_33, g_612_34, g_612_36, g_612_37, g_612_38, g_612_39, g_612_40, g_612_41, g_612_42, g_612_43, g_612_44, g_612_46, g_612_47, g_612_48, g_612_49, g_612_50, g_612_53, g_612_56, g_612_57, g_612_58, g_612_59, g_612_61, g_612_62, g_612_63, g_612_64]
    refine ⟨fun c => ?_, fun c => ?_⟩
    · rw [show i = (τ.1 588 0).toNat by omega]; exact hQ
    · have ab := adC_b hI (show 0 ≤ (i : Int) by omega) (by omega) (fun j a b => hl j a (by omega))
      have sb := wS_b (p := adC τ) (m := 20180) i (fun k k0 k1 => adC_b hI k0 (by omega) (fun j a b => hl j a (by omega)))
      have ih' := ih (i + 1) (by omega) (by omega)
      rw [show wS (adC τ) (i + 1) = wS (adC τ) i + adC τ i from rfl, show ((i + 1 : Nat) : Int) = (i : Int) + 1 by omega] at ih'
      exact W3_added hI (by omega) (by omega) (fun j a b => hl j a (by omega)) ⟨by omega, by omega, ih'⟩
set_option maxRecDepth 100000 in
theorem W3_total {τ : kzM} (hI : Inv τ) (hl : ∀ j, 0 ≤ j → j < τ.1 588 0 → 0 ≤ τ.1 600 j ∧ τ.1 600 j < 7) {Q : Int → kzM → Prop} (hQ : Q (wS (adC τ) (τ.1 588 0).toNat) τ) : Wz (Z3_totalCost kdG0 588) τ Q := by
  have i9 := hI.2.2.2.2.2.2.2.2
  unfold I9 at i9
  unfold Z3_totalCost Z3_totalCost_4
  exact W3_to_4 hI hl hQ NN 0 (by omega) (by unfold NN; omega)
