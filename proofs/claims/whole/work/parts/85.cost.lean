/-! layouts: the reference's cost -/
def laidM (τ : kzM) : Prop := ∀ i, 0 ≤ i → i < τ.1 588 0 → 0 ≤ τ.1 659 i ∧ τ.1 659 i < τ.1 588 0
def clM (τ : kzM) (i : Int) : Int := τ.1 657 i * τ.1 655 (τ.1 659 i)
def pcM (τ : kzM) (i j : Int) : Int := if i = j then 0 else τ.1 658 (7 * i + j) * (zabs (τ.1 659 i - τ.1 659 j) + if τ.1 656 (τ.1 659 i) = τ.1 656 (τ.1 659 j) then τ.1 612 60 else 0)
def costM (τ : kzM) : Int := wS (fun i => clM τ i + wS (pcM τ i) (τ.1 588 0).toNat) (τ.1 588 0).toNat
theorem clM_b {τ : kzM} (hI : Inv τ) (hl : laidM τ) {i : Int} (i0 : 0 ≤ i) (i1 : i < τ.1 588 0) : 0 ≤ clM τ i ∧ clM τ i ≤ 1980 := by
  have i9 := hI.2.2.2.2.2.2.2.2
  unfold I9 at i9
  have l := hl i i0 i1
  have a := (i9.2.2.1 i i0 (by omega)).2.2
  have b := (i9.2.2.1 _ l.1 (by omega)).1
  unfold clM
  rw [a.2, b.2]
  exact mul_b a.1 b.1
theorem pcM_b {τ : kzM} (hI : Inv τ) (hl : laidM τ) {i j : Int} (i0 : 0 ≤ i) (i1 : i < τ.1 588 0) (j0 : 0 ≤ j) (j1 : j < τ.1 588 0) : 0 ≤ pcM τ i j ∧ pcM τ i j ≤ 1300 := by
  have i9 := hI.2.2.2.2.2.2.2.2
  unfold I9 at i9
  have l := hl i i0 i1
  have m := hl j j0 j1
  have a := i9.2.2.2 i j i0 (by omega) j0 (by omega)
  unfold pcM
  by_cases c : i = j
  · rw [if_pos c]; omega
  · rw [if_neg c, a.2]
    refine mul_b (v := 26) a.1 ?_
    unfold zabs
    split <;> split <;> omega
set_option maxRecDepth 100000 in
theorem W12_co_35 {τ : kzM} (hI : Inv τ) (hl : laidM τ) {i acc : Int} (i0 : 0 ≤ i) (i1 : i < τ.1 588 0) (hacc : 0 ≤ acc ∧ acc ≤ 1000000) {k4 : Nat → Int → Int → kzM → Option (Int × kzM)} {Q : Int → kzM → Prop} (hQ : Wz (k4 612 (acc + wS (pcM τ i) (τ.1 588 0).toNat) (i + 1)) τ Q) : ∀ (N j : Nat), (j : Int) ≤ τ.1 588 0 → (τ.1 588 0).toNat - j < N → Wz (lp (fun _ _ _ _ _ => none) (Z12_costOf_35B kdG0 k4) N 612 (acc + wS (pcM τ i) j) i (j : Int)) τ Q := by
  have i9 := hI.2.2.2.2.2.2.2.2
  unfold I9 at i9
  have s1 := i9.1
  have s2 := i9.2.1
  intro N
  induction N with
  | zero => intro j; intros; omega
  | succ N ih =>
    intro j j1 j2
    rw [lp_succ]
    generalize lp (fun _ _ _ _ _ => none) (Z12_costOf_35B kdG0 k4) N = L at ih ⊢
    unfold Z12_costOf_35B
    simp only [Z12_costOf_92, Z12_costOf_119, Wz_rt, Wz_cnd, Wz_lI, Wz_lW, Wz_lL, Wz_cl, Wz_cv, Wz_nz, Wz_gI, Wz_gR, Wz_sI, Wz_aI, Wz_aZ, Wz_aL, Wz_aN, Wz_aR, Wz_tI, Wz_tZ, Wz_tL, Option.some.injEq, exists_eq_left', zB_0, zB_1, true_and, and_true, true_implies, not_true_eq_false, false_implies, not_false_eq_true, Classical.not_not, g_0, g_1, g_2, g_3, g_4, g_5, g_327, g_328, g_329, g_330, g_331, g_332, g_333, g_334, g_335, g_336, g_337, g_338, g_339, g_340, g_341, g_342, g_343, g_464, g_465, g_466, g_484, g_485, g_486, g_487, g_488, g_489, g_490, g_491, g_492, g_493, g_494, g_495, g_496, g_497, g_498, g_499, g_500, g_501, g_562, g_563, g_564, g_565, g_566, g_567, g_568, g_574, g_580, g_581, g_582, g_583, g_584, g_585, g_586, g_587, g_588, g_589, g_590, g_591, g_592, g_600, g_601, g_602, g_603, g_604, g_605, g_606, g_607, g_608, g_609, g_610, g_611, g_612, g_613, g_614, g_615, g_616, g_617, g_618, g_619, g_620, g_621, g_622, g_623, g_624, g_625, g_626, g_627, g_628, g_629, g_630, g_631, g_632, g_633, g_634, g_635, g_636, g_637, g_638, g_639, g_640, g_641, g_642, g_643, g_644, g_645, g_646, g_647, g_648, g_649, g_650, g_651, g_652, g_653, g_654, g_655, g_656, g_657, g_658, g_659, g_660, g_661, g_662, g_0_0, g_0_1, g_0_2, g_0_3, g_0_4, g_0_5, g_0_6, g_0_7, g_0_8, g_0_9, g_0_10, g_0_11, g_1_0, g_3_0, g_327_0, g_327_1, g_327_2, g_327_3, g_328_0, g_330_0, g_332_0, g_334_0, g_336_0, g_336_1, g_336_2, g_336_3, g_337_0, g_339_0, g_341_0, g_464_0, g_464_1, g_484_0, g_484_1, g_484_2, g_485_0, g_487_0, g_489_0, g_491_0, g_491_1, g_491_2, g_491_3, g_491_4, g_491_5, g_491_6, g_491_7, g_496_0, g_498_0, g_500_0, g_500_1, g_500_3, g_500_4, g_500_5, g_500_6, g_500_7, g_562_0, g_564_0, g_566_0, g_580_0, g_580_1, g_580_2, g_580_3, g_581_0, g_583_0, g_585_0, g_588_1, g_588_2, g_588_3, g_588_4, g_588_6, g_601_0, g_601_1, g_601_2, g_601_3, g_601_4, g_601_5, g_601_6, g_601_7, g_601_8, g_608_0, g_610_0, g_612_0, g_612_2, g_612_4, g_612_5, g_612_7, g_612_8, g_612_9, g_612_10, g_612_11, g_612_12, g_612_13, g_612_14, g_612_15, g_612_16, g_612_19, g_612_20, g_612_22, g_612_24, g_612_25, g_612_26, g_612_27, g_612_28, g_612_30, g_612_31, g_612_32, g_612_33, g_612_34, g_612_36, g_612_37, g_612_38, g_612_39, g_612_40, g_612_41, g_612_42, g_612_43, g_612_44, g_612_46, g_612_47, g_612_48, g_612_49, g_612_50, g_612_53, g_612_56, g_612_57, g_612_58, g_612_59, g_612_61, g_612_62, g_612_63, g_612_64]
    refine ⟨fun c => ⟨by omega, ?_⟩, fun c => ?_⟩
    · rw [show j = (τ.1 588 0).toNat by omega]; exact hQ
    · have l := hl i i0 i1
      have m := hl j (by omega) (by omega)
      have ih' := ih (j + 1) (by omega) (by omega)
      rw [show wS (pcM τ i) (j + 1) = wS (pcM τ i) j + pcM τ i j from rfl, ← Int.add_assoc, show ((j + 1 : Nat) : Int) = (j : Int) + 1 by omega] at ih'
      have pb := pcM_b hI hl i0 i1 (show 0 ≤ (j : Int) by omega) (by omega)
      have sb := wS_b (p := pcM τ i) (m := 1300) j (fun k k0 k1 => pcM_b hI hl i0 i1 k0 (by omega))
      have go : ∀ f, f = (if τ.1 656 (τ.1 659 i) = τ.1 656 (τ.1 659 j) then τ.1 612 60 else 0) → (0 ≤ f ∧ f ≤ 20) → ¬i = j → τ.1 658 (7 * i + j) * (zabs (τ.1 659 i - τ.1 659 j) + f) = pcM τ i j := fun f hf _ hn => by
        unfold pcM
        rw [if_neg hn, hf]
      have zb : 0 ≤ zabs (τ.1 659 i - τ.1 659 j) ∧ zabs (τ.1 659 i - τ.1 659 j) ≤ 6 := by unfold zabs; split <;> omega
      refine ⟨by omega, by omega, by omega, W12_size (by omega) ⟨by omega, by omega, by omega, by omega, fun c => ⟨by omega, fun d => ?_, fun d => ?_⟩, fun c => ⟨by omega, fun d => ?_, fun d => ?_⟩⟩⟩
      · have e : pcM τ i j = 0 := by unfold pcM; rw [if_pos d]
        rw [e] at ih'
        exact ⟨by omega, by omega, ih'⟩
      · rw [go _ (by rw [if_pos c]) (by omega) d]
        exact ⟨by omega, by omega, by omega, by omega, ih'⟩
      · have e : pcM τ i j = 0 := by unfold pcM; rw [if_pos d]
        rw [e] at ih'
        exact ⟨by omega, by omega, ih'⟩
      · rw [go _ (by rw [if_neg c]) (by omega) d]
        exact ⟨by omega, by omega, by omega, by omega, ih'⟩
set_option maxRecDepth 100000 in
theorem W12_co_4 {τ : kzM} (hI : Inv τ) (hl : laidM τ) {Q : Int → kzM → Prop} (hQ : Q (costM τ) τ) : ∀ (N i : Nat), (i : Int) ≤ τ.1 588 0 → (τ.1 588 0).toNat - i < N → Wz (lp (fun _ _ _ _ => none) (Z12_costOf_4B kdG0) N 612 (wS (fun i => clM τ i + wS (pcM τ i) (τ.1 588 0).toNat) i) (i : Int)) τ Q := by
  have i9 := hI.2.2.2.2.2.2.2.2
  unfold I9 at i9
  have s1 := i9.1
  intro N
  induction N with
  | zero => intro j; intros; omega
  | succ N ih =>
    intro i j1 j2
    rw [lp_succ]
    generalize lp (fun _ _ _ _ => none) (Z12_costOf_4B kdG0) N = L at ih ⊢
    unfold Z12_costOf_4B
    simp only [Wz_rt, Wz_cnd, Wz_lI, Wz_lW, Wz_lL, Wz_cl, Wz_cv, Wz_nz, Wz_gI, Wz_gR, Wz_sI, Wz_aI, Wz_aZ, Wz_aL, Wz_aN, Wz_aR, Wz_tI, Wz_tZ, Wz_tL, Option.some.injEq, exists_eq_left', zB_0, zB_1, true_and, and_true, true_implies, not_true_eq_false, false_implies, not_false_eq_true, Classical.not_not, g_0, g_1, g_2, g_3, g_4, g_5, g_327, g_328, g_329, g_330, g_331, g_332, g_333, g_334, g_335, g_336, g_337, g_338, g_339, g_340, g_341, g_342, g_343, g_464, g_465, g_466, g_484, g_485, g_486, g_487, g_488, g_489, g_490, g_491, g_492, g_493, g_494, g_495, g_496, g_497, g_498, g_499, g_500, g_501, g_562, g_563, g_564, g_565, g_566, g_567, g_568, g_574, g_580, g_581, g_582, g_583, g_584, g_585, g_586, g_587, g_588, g_589, g_590, g_591, g_592, g_600, g_601, g_602, g_603, g_604, g_605, g_606, g_607, g_608, g_609, g_610, g_611, g_612, g_613, g_614, g_615, g_616, g_617, g_618, g_619, g_620, g_621, g_622, g_623, g_624, g_625, g_626, g_627, g_628, g_629, g_630, g_631, g_632, g_633, g_634, g_635, g_636, g_637, g_638, g_639, g_640, g_641, g_642, g_643, g_644, g_645, g_646, g_647, g_648, g_649, g_650, g_651, g_652, g_653, g_654, g_655, g_656, g_657, g_658, g_659, g_660, g_661, g_662, g_0_0, g_0_1, g_0_2, g_0_3, g_0_4, g_0_5, g_0_6, g_0_7, g_0_8, g_0_9, g_0_10, g_0_11, g_1_0, g_3_0, g_327_0, g_327_1, g_327_2, g_327_3, g_328_0, g_330_0, g_332_0, g_334_0, g_336_0, g_336_1, g_336_2, g_336_3, g_337_0, g_339_0, g_341_0, g_464_0, g_464_1, g_484_0, g_484_1, g_484_2, g_485_0, g_487_0, g_489_0, g_491_0, g_491_1, g_491_2, g_491_3, g_491_4, g_491_5, g_491_6, g_491_7, g_496_0, g_498_0, g_500_0, g_500_1, g_500_3, g_500_4, g_500_5, g_500_6, g_500_7, g_562_0, g_564_0, g_566_0, g_580_0, g_580_1, g_580_2, g_580_3, g_581_0, g_583_0, g_585_0, g_588_1, g_588_2, g_588_3, g_588_4, g_588_6, g_601_0, g_601_1, g_601_2, g_601_3, g_601_4, g_601_5, g_601_6, g_601_7, g_601_8, g_608_0, g_610_0, g_612_0, g_612_2, g_612_4, g_612_5, g_612_7, g_612_8, g_612_9, g_612_10, g_612_11, g_612_12, g_612_13, g_612_14, g_612_15, g_612_16, g_612_19, g_612_20, g_612_22, g_612_24, g_612_25, g_612_26, g_612_27, g_612_28, g_612_30, g_612_31, g_612_32, g_612_33, g_612_34, g_612_36, g_612_37, g_612_38, g_612_39, g_612_40, g_612_41, g_612_42, g_612_43, g_612_44, g_612_46, g_612_47, g_612_48, g_612_49, g_612_50, g_612_53, g_612_56, g_612_57, g_612_58, g_612_59, g_612_61, g_612_62, g_612_63, g_612_64]
    refine ⟨fun c => ?_, fun c => ?_⟩
    · rw [show i = (τ.1 588 0).toNat by omega]; exact hQ
    · have l := hl i (by omega) (by omega)
      have cb := clM_b hI hl (show 0 ≤ (i : Int) by omega) (by omega)
      have sb := wS_b (p := fun i => clM τ i + wS (pcM τ i) (τ.1 588 0).toNat) (m := 1980 + 1300 * 7) i (fun k k0 k1 => by
        have a := clM_b hI hl k0 (by omega)
        have b := wS_b (p := pcM τ k) (m := 1300) (τ.1 588 0).toNat (fun x x0 x1 => pcM_b hI hl k0 (by omega) x0 (by omega))
        omega)
      have ih' := ih (i + 1) (by omega) (by omega)
      rw [show wS (fun i => clM τ i + wS (pcM τ i) (τ.1 588 0).toNat) (i + 1) = wS (fun i => clM τ i + wS (pcM τ i) (τ.1 588 0).toNat) i + (clM τ i + wS (pcM τ i) (τ.1 588 0).toNat) from rfl, ← Int.add_assoc, show ((i + 1 : Nat) : Int) = (i : Int) + 1 by omega] at ih'
      generalize wS (fun i => clM τ i + wS (pcM τ i) (τ.1 588 0).toNat) i = acc at sb ih' ⊢
      rw [show τ.1 657 i * τ.1 655 (τ.1 659 i) = clM τ i from rfl]
      refine ⟨by omega, by omega, by omega, by omega, ?_⟩
      unfold Z12_costOf_35
      have q := W12_co_35 hI hl (show 0 ≤ (i : Int) by omega) (by omega) (acc := acc + clM τ i) (by omega) (Q := Q) (k4 := L) ih' NN 0 (by omega) (by unfold NN; omega)
      rw [show wS (pcM τ i) 0 = 0 from rfl, Int.add_zero] at q
      exact q
set_option maxRecDepth 100000 in
theorem W12_costOf {τ : kzM} (hI : Inv τ) (hl : laidM τ) {Q : Int → kzM → Prop} (hQ : Q (costM τ) τ) : Wz (Z12_costOf kdG0 612) τ Q := by
  have i9 := hI.2.2.2.2.2.2.2.2
  unfold I9 at i9
  unfold Z12_costOf Z12_costOf_4
  exact W12_co_4 hI hl hQ NN 0 (by omega) (by unfold NN; omega)
