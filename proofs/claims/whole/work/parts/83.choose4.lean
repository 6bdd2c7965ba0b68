/-! chosen and product: the reference's table; product closed -/
set_option maxRecDepth 100000 in
theorem W12_bothOf {τ ρ : kzM} (hI : Inv τ) (hr : tabY τ ρ) {a b : Int} (a0 : 0 ≤ a) (a1 : a < 60) (b0 : 0 ≤ b) (b1 : b < 60) {Q : Int → kzM → Prop} (hQ : Q (togW τ a b) ρ) : Wz (Z12_bothOf kdG0 612 a b) ρ Q := by
  have i10 := (hI.tabY hr).2.2.2.2.2.2.1.2
  unfold I7b at i10
  obtain ⟨x1, x2, x3, x4, x5⟩ := i10
  have et : ρ.1 (502 + a.toNat) b = togW τ a b := hr _ _ (by omega) (by omega)
  simp only [Z12_bothOf, Z12_bothOf_21, Wz_rt, Wz_cnd, Wz_lI, Wz_lW, Wz_lL, Wz_cl, Wz_cv, Wz_nz, Wz_gI, Wz_gR, Wz_sI, Wz_aI, Wz_aZ, Wz_aL, Wz_aN, Wz_aR, Wz_tI, Wz_tZ, Wz_tL, Option.some.injEq, exists_eq_left', zB_0, zB_1, true_and, and_true, true_implies, not_true_eq_false, false_implies, not_false_eq_true, Classical.not_not, g_0, g_1, g_2, g_3, g_4, g_5, g_327, g_328, g_329, g_330, g_331, g_332, g_333, g_334, g_335, g_336, g_337, g_338, g_339, g_340, g_341, g_342, g_343, g_464, g_465, g_466, g_484, g_485, g_486, g_487, g_488, g_489, g_490, g_491, g_492, g_493, g_494, g_495, g_496, g_497, g_498, g_499, g_500, g_501, g_562, g_563, g_564, g_565, g_566, g_567, g_568, g_574, g_580, g_581, g_582, g_583, g_584, g_585, g_586, g_587, g_588, g_589, g_590, g_591, g_592, g_600, g_601, g_602, g_603, g_604, g_605, g_606, g_607, g_608, g_609, g_610, g_611, g_612, g_613, g_614, g_615, g_616, g_617, g_618, g_619, g_620, g_621, g_622, g_623, g_624, g_625, g_626, g_627, g_628, g_629, g_630, g_631, g_632, g_633, g_634, g_635, g_636, g_637, g_638, g_639, g_640, g_641, g_642, g_643, g_644, g_645, g_646, g_647, g_648, g_649, g_650, g_651, g_652, g_653, g_654, g_655, g_656, g_657, g_658, g_659, g_660, g_661, g_662, g_0_0, g_0_1, g_0_2, g_0_3, g_0_4, g_0_5, g_0_6, g_0_7, g_0_8, g_0_9, g_0_10, g_0_11, g_1_0, g_3_0, g_327_0, g_327_1, g_327_2, g_327_3, g_328_0, g_330_0, g_332_0, g_334_0, g_336_0, g_336_1, g_336_2, g_336_3, g_337_0, g_339_0, g_341_0, g_464_0, g_464_1, g_484_0, g_484_1, g_484_2, g_485_0, g_487_0, g_489_0, g_491_0, g_491_1, g_491_2, g_491_3, g_491_4, g_491_5, g_491_6, g_491_7, g_496_0, g_498_0, g_500_0, g_500_1, g_500_3, g_500_4, g_500_5, g_500_6, g_500_7, g_562_0, g_564_0, g_566_0, g_580_0, g_580_1, g_580_2, g_580_3, g_581_0, g_583_0, g_585_0, g_588_1, g_588_2, g_588_3, g_588_4, g_588_6, g_601_0, g_601_1, g_601_2, g_601_3, g_601_4, g_601_5, g_601_6, g_601_7, g_601_8, g_608_0, g_610_0, g_612_0, g_612_2, g_612_4, g_612_5, g_612_7, g_612_8, g_612_9, g_612_10, g_612_11, g_612_12, g_612_13, g_612_14, g_612_15, g_612_16, g_612_19, g_612_20, g_612_22, g_612_24, g_612_25, g_612_26, g_612_27, g_612_28, g_612_30, g_612_31, g_612_32, g_612_33, g_612_34, g_612_36, g_612_37, g_612_38, g_612_39, g_612_40, g_612_41, g_612_42, g_612_43, g_612_44, g_612_46, g_612_47, g_612_48, g_612_49, g_612_50, g_612_53, g_612_56, g_612_57, g_612_58, g_612_59, g_612_61, g_612_62, g_612_63, g_612_64]
  refine W12_bothAt (by omega) (by omega) (fun k k0 k1 ka kb => ?_) (fun no => ?_)
  · have e := x3 k k0 (by omega)
    rw [ka, kb, et] at e
    rw [e.2.2.2] at hQ
    exact ⟨fun _ => ⟨by omega, hQ⟩, fun c => by omega⟩
  · refine ⟨fun c => absurd c (by decide), fun _ => ?_⟩
    rcases x5 a b a0 a1 b0 b1 with e | ⟨k, ⟨k0, k1⟩, ka, kb⟩
    · rw [et] at e
      rw [e] at hQ; exact hQ
    · exact absurd ⟨ka, kb⟩ (no k k0 (by omega))
theorem gB_k {k : Nat} (h : k ≤ 4) : gB k ≤ 100 * (101 * (100 * (101 * (100 * (101 * (100 * (101 * 100))))))) := by
  have : k = 0 ∨ k = 1 ∨ k = 2 ∨ k = 3 ∨ k = 4 := by omega
  rcases this with e | e | e | e | e <;> (rw [e]; decide)
set_option maxRecDepth 100000 in
theorem W12_onBy {τ ρ : kzM} (hI : Inv τ) (hr : tabY τ ρ) {p w n : Int} {k : Nat} (p0 : 0 ≤ p) (hk : p + 1 + k = τ.1 562 1 - 1) (w0 : 0 ≤ w) (w1 : w < τ.1 337 1) (n0 : 0 ≤ n) (n1 : n < τ.1 337 1) (hg : ρ.2 649 (60 * (p + 1) + n) = gS τ k n) {Q : Int → kzM → Prop} (hQ : Q (τ.1 342 w * bF τ k w n) ρ) : Wz (Z12_onBy kdG0 612 p w n) ρ Q := by
  have i5 := hI.2.2.2.2.1
  unfold I5 at i5
  have wl := i5.1
  have i7 := hI.2.2.2.2.2.2.1.1
  unfold I7p at i7
  have pl := i7.1
  have ew := (i5.2.2.2.2 w w0 w1).2.2.1
  have r2 : ρ.1 632 w = τ.1 342 w := by rw [hr 632 w (by decide) (by decide)]; exact ew.2
  have gb := gS_b hI k n n0 n1
  have g3 : gB k ≤ 100 * (101 * (100 * (101 * (100 * (101 * 100))))) := by
    have : k = 0 ∨ k = 1 ∨ k = 2 ∨ k = 3 := by omega
    rcases this with e | e | e | e <;> (rw [e]; decide)
  have t := togW_b hI.2.2.2.2.2.2.1.2 w0 (show w < 60 by omega) n0 (show n < 60 by omega)
  simp only [Z12_onBy, Wz_rt, Wz_cnd, Wz_lI, Wz_lW, Wz_lL, Wz_cl, Wz_cv, Wz_nz, Wz_gI, Wz_gR, Wz_sI, Wz_aI, Wz_aZ, Wz_aL, Wz_aN, Wz_aR, Wz_tI, Wz_tZ, Wz_tL, Option.some.injEq, exists_eq_left', zB_0, zB_1, true_and, and_true, true_implies, not_true_eq_false, false_implies, not_false_eq_true, Classical.not_not, g_0, g_1, g_2, g_3, g_4, g_5, g_327, g_328, g_329, g_330, g_331, g_332, g_333, g_334, g_335, g_336, g_337, g_338, g_339, g_340, g_341, g_342, g_343, g_464, g_465, g_466, g_484, g_485, g_486, g_487, g_488, g_489, g_490, g_491, g_492, g_493, g_494, g_495, g_496, g_497, g_498, g_499, g_500, g_501, g_562, g_563, g_564, g_565, g_566, g_567, g_568, g_574, g_580, g_581, g_582, g_583, g_584, g_585, g_586, g_587, g_588, g_589, g_590, g_591, g_592, g_600, g_601, g_602, g_603, g_604, g_605, g_606, g_607, g_608, g_609, g_610, g_611, g_612, g_613, g_614, g_615, g_616, g_617, g_618, g_619, g_620, g_621, g_622, g_623, g_624, g_625, g_626, g_627, g_628, g_629, g_630, g_631, g_632, g_633, g_634, g_635, g_636, g_637, g_638, g_639, g_640, g_641, g_642, g_643, g_644, g_645, g_646, g_647, g_648, g_649, g_650, g_651, g_652, g_653, g_654, g_655, g_656, g_657, g_658, g_659, g_660, g_661, g_662, g_0_0, g_0_1, g_0_2, g_0_3, g_0_4, g_0_5, g_0_6, g_0_7, g_0_8, g_0_9, g_0_10, g_0_11, g_1_0, g_3_0, g_327_0, g_327_1, g_327_2, g_327_3, g_328_0, g_330_0, g_332_0, g_334_0, g_336_0, g_336_1, g_336_2, g_336_3, g_337_0, g_339_0, g_341_0, g_464_0, g_464_1, g_484_0, g_484_1, g_484_2, g_485_0, g_487_0, g_489_0, g_491_0, g_491_1, g_491_2, g_491_3, g_491_4, g_491_5, g_491_6, g_491_7, g_496_0, g_498_0, g_500_0, g_500_1, g_500_3, g_500_4, g_500_5, g_500_6, g_500_7, g_562_0, g_564_0, g_566_0, g_580_0, g_580_1, g_580_2, g_580_3, g_581_0, g_583_0, g_585_0, g_588_1, g_588_2, g_588_3, g_588_4, g_588_6, g_601_0, g_601_1, g_601_2, g_601_3, g_601_4, g_601_5, g_601_6, g_601_7, g_601_8, g_608_0, g_610_0, g_612_0, g_612_2, g_612_4, g_612_5, g_612_7, g_612_8, g_612_9, g_612_10, g_612_11, g_612_12, g_612_13, g_612_14, g_612_15, g_612_16, g_612_19, g_612_20, g_612_22, g_612_24, g_612_25, g_612_26, g_612_27, g_612_28, g_612_30, g_612_31, g_612_32, g_612_33, g_612_34, g_612_36, g_612_37, g_612_38, g_612_39, g_612_40, g_612_41, g_612_42, g_612_43, g_612_44, g_612_46, g_612_47, g_612_48, g_612_49, g_612_50, g_612_53, g_612_56, g_612_57, g_612_58, g_612_59, g_612_61, g_612_62, g_612_63, g_612_64, r2]
  refine ⟨by omega, W12_bothOf hI hr w0 (by omega) n0 (by omega) ?_⟩
  rw [hg, Int.mul_assoc]
  have b1 := bF_b hI (k := k) w0 w1 n0 n1
  have b2 := mul_b ⟨show 0 ≤ τ.1 342 w by omega, ew.1.2⟩ b1
  have eb : (togW τ w n + 1) * gS τ k n = bF τ k w n := rfl
  rw [eb]
  exact ⟨by omega, by omega, hQ⟩
def chY (τ ρ : kzM) (p : Int) : Prop := tabY τ ρ ∧ ∀ q, p ≤ q → q < τ.1 562 1 → ∀ w, 0 ≤ w → w < τ.1 337 1 → ρ.2 649 (60 * q + w) = gS τ (τ.1 562 1 - 1 - q).toNat w
theorem mxF_mul {c : Int} (c1 : 1 ≤ c) {f : Int → Int} {n : Nat} : c * mxF f (n + 1) = if c * mxF f n < c * f n then c * f n else c * mxF f n := by
  rw [show mxF f (n + 1) = if mxF f n < f (n : Int) then f (n : Int) else mxF f n from rfl]
  by_cases h : mxF f n < f n
  · rw [if_pos h, if_pos (Int.mul_lt_mul_of_pos_left h (show 0 < c by omega))]
  · rw [if_neg h, if_neg]
    have := Int.mul_le_mul_of_nonneg_left (show f n ≤ mxF f n by omega) (show 0 ≤ c by omega)
    omega
set_option maxRecDepth 100000 in
theorem W12_fc_55 {τ ρ : kzM} (hI : Inv τ) {p w : Int} {k : Nat} (p0 : 0 ≤ p) (hk : p + 1 + k = τ.1 562 1 - 1) (w0 : 0 ≤ w) (w1 : w < τ.1 337 1) (hc : canW τ p w) (hr : chY τ ρ (p + 1)) {k7 : Nat → Int → kzM → Option (Int × kzM)} {k13 : Nat → Int → Int → kzM → Option (Int × kzM)} {Q : Int → kzM → Prop} (hQ : Wz (Z12_findChosen_129 kdG0 k7 k13 612 p w (τ.1 342 w * mxF (bF τ k w) (τ.1 337 1).toNat)) ρ Q) : ∀ (N n : Nat), n ≤ (τ.1 337 1).toNat → (τ.1 337 1).toNat - n < N → Wz (lp (fun _ _ _ _ _ _ => none) (Z12_findChosen_55B kdG0 k7 k13) N 612 p w (τ.1 342 w * mxF (bF τ k w) n) (n : Int)) ρ Q := by
  have i5 := hI.2.2.2.2.1
  unfold I5 at i5
  have wl := i5.1
  have i7 := hI.2.2.2.2.2.2.1.1
  unfold I7p at i7
  have pl := i7.1
  have ew := (i5.2.2.2.2 w w0 w1).2.2.1
  have r29 : ρ.1 612 29 = τ.1 337 1 := by rw [hr.1 _ _ (by decide) (by decide)]; exact i5.2.2.2.1
  have r6 : ρ.1 612 6 = τ.1 562 1 := by rw [hr.1 _ _ (by decide) (by decide)]; exact i7.2.2.1
  intro N
  induction N with
  | zero => intro n; intros; omega
  | succ N ih =>
    intro n n1 n2
    rw [lp_succ]
    generalize lp (fun _ _ _ _ _ _ => none) (Z12_findChosen_55B kdG0 k7 k13) N = L at ih ⊢
    unfold Z12_findChosen_55B
    simp only [Z12_findChosen_107, Z12_findChosen_122, Wz_rt, Wz_cnd, Wz_lI, Wz_lW, Wz_lL, Wz_cl, Wz_cv, Wz_nz, Wz_gI, Wz_gR, Wz_sI, Wz_aI, Wz_aZ, Wz_aL, Wz_aN, Wz_aR, Wz_tI, Wz_tZ, Wz_tL, Option.some.injEq, exists_eq_left', zB_0, zB_1, true_and, and_true, true_implies, not_true_eq_false, false_implies, not_false_eq_true, Classical.not_not, g_0, g_1, g_2, g_3, g_4, g_5, g_327, g_328, g_329, g_330, g_331, g_332, g_333, g_334, g_335, g_336, g_337, g_338, g_339, g_340, g_341, g_342, g_343, g_464, g_465, g_466, g_484, g_485, g_486, g_487, g_488, g_489, g_490, g_491, g_492, g_493, g_494, g_495, g_496, g_497, g_498, g_499, g_500, g_501, g_562, g_563, g_564, g_565, g_566, g_567, g_568, g_574, g_580, g_581, g_582, g_583, g_584, g_585, g_586, g_587, g_588, g_589, g_590, g_591, g_592, g_600, g_601, g_602, g_603, g_604, g_605, g_606, g_607, g_608, g_609, g_610, g_611, g_612, g_613, g_614, g_615, g_616, g_617, g_618, g_619, g_620, g_621, g_622, g_623, g_624, g_625, g_626, g_627, g_628, g_629, g_630, g_631, g_632, g_633, g_634, g_635, g_636, g_637, g_638, g_639, g_640, g_641, g_642, g_643, g_644, g_645, g_646, g_647, g_648, g_649, g_650, g_651, g_652, g_653, g_654, g_655, g_656, g_657, g_658, g_659, g_660, g_661, g_662, g_0_0, g_0_1, g_0_2, g_0_3, g_0_4, g_0_5, g_0_6, g_0_7, g_0_8, g_0_9, g_0_10, g_0_11, g_1_0, g_3_0, g_327_0, g_327_1, g_327_2, g_327_3, g_328_0, g_330_0, g_332_0, g_334_0, g_336_0, g_336_1, g_336_2, g_336_3, g_337_0, g_339_0, g_341_0, g_464_0, g_464_1, g_484_0, g_484_1, g_484_2, g_485_0, g_487_0, g_489_0, g_491_0, g_491_1, g_491_2, g_491_3, g_491_4, g_491_5, g_491_6, g_491_7, g_496_0, g_498_0, g_500_0, g_500_1, g_500_3, g_500_4, g_500_5, g_500_6, g_500_7, g_562_0, g_564_0, g_566_0, g_580_0, g_580_1, g_580_2, g_580_3, g_581_0, g_583_0, g_585_0, g_588_1, g_588_2, g_588_3, g_588_4, g_588_6, g_601_0, g_601_1, g_601_2, g_601_3, g_601_4, g_601_5, g_601_6, g_601_7, g_601_8, g_608_0, g_610_0, g_612_0, g_612_2, g_612_4, g_612_5, g_612_7, g_612_8, g_612_9, g_612_10, g_612_11, g_612_12, g_612_13, g_612_14, g_612_15, g_612_16, g_612_19, g_612_20, g_612_22, g_612_24, g_612_25, g_612_26, g_612_27, g_612_28, g_612_30, g_612_31, g_612_32, g_612_33, g_612_34, g_612_36, g_612_37, g_612_38, g_612_39, g_612_40, g_612_41, g_612_42, g_612_43, g_612_44, g_612_46, g_612_47, g_612_48, g_612_49, g_612_50, g_612_53, g_612_56, g_612_57, g_612_58, g_612_59, g_612_61, g_612_62, g_612_63, g_612_64, r29, r6]
    refine ⟨fun c => ?_, fun c => ⟨by omega, fun d => by omega, fun _ => ?_⟩⟩
    · rw [show n = (τ.1 337 1).toNat by omega]; exact hQ
    · refine W12_sounds hI hr.1 p0 (by omega) w0 w1 ?_
      rw [zp_pos hc]
      refine ⟨fun c => absurd c (by decide), fun _ => ⟨by omega, ?_⟩⟩
      have ih' := ih (n + 1) (by omega) (by omega)
      rw [mxF_mul ew.1.1, show ((n + 1 : Nat) : Int) = (n : Int) + 1 by omega] at ih'
      refine W12_sounds hI hr.1 (by omega) (by omega) (show 0 ≤ (n : Int) by omega) (by omega) ?_
      have mb := mxF_b (f := bF τ k w) (u := 101 * gB k) (by have := gB_0 k; omega) n (fun x x0 x1 => (bF_b hI w0 w1 x0 (by omega)).2)
      have m0 := (mul_b (b := mxF (bF τ k w) n) ⟨show 0 ≤ τ.1 342 w by omega, ew.1.2⟩ mb).1
      refine ⟨fun c => ?_, fun c => ?_⟩
      · rw [zp_0] at c
        have g0 : gS τ k n = 0 := by
          rw [gS_eq, zp_neg, Int.zero_mul]
          rw [show τ.1 562 1 - 1 - (k : Int) = p + 1 by omega]; exact c
        have b0 : bF τ k w n = 0 := by unfold bF; rw [g0, Int.mul_zero]
        rw [b0, Int.mul_zero, if_neg (by omega)] at ih'
        exact ⟨fun _ => ⟨by omega, ih'⟩, fun z => by omega⟩
      · refine W12_onBy hI hr.1 p0 hk w0 w1 (by omega) (by omega) ?_ ?_
        · have e := hr.2 (p + 1) (by omega) (by omega) n (by omega) (by omega)
          rw [show (τ.1 562 1 - 1 - (p + 1)).toNat = k by omega] at e
          exact e
        · refine ⟨fun z => ⟨by omega, ?_⟩, fun z => ⟨by omega, ?_⟩⟩
          · rw [if_neg (by omega)] at ih'; exact ih'
          · rw [if_pos (by omega)] at ih'; exact ih'
set_option maxRecDepth 100000 in
theorem W12_fc_13 {τ : kzM} (hI : Inv τ) {p : Int} (p0 : 0 ≤ p) (p1 : p < τ.1 562 1) {k7 : Nat → Int → kzM → Option (Int × kzM)} {Q : Int → kzM → Prop} (hQ : ∀ ρ, chY τ ρ p → Wz (k7 612 (p - 1)) ρ Q) : ∀ (N n : Nat) (ρ : kzM), n ≤ (τ.1 337 1).toNat → (τ.1 337 1).toNat - n < N → chY τ ρ (p + 1) → (∀ w, 0 ≤ w → w < (n : Int) → ρ.2 649 (60 * p + w) = gS τ (τ.1 562 1 - 1 - p).toNat w) → Wz (lp (fun _ _ _ _ => none) (Z12_findChosen_13B kdG0 k7) N 612 p (n : Int)) ρ Q := by
  have i5 := hI.2.2.2.2.1
  unfold I5 at i5
  have wl := i5.1
  have i7 := hI.2.2.2.2.2.2.1.1
  unfold I7p at i7
  have pl := i7.1
  intro N
  induction N with
  | zero => intro n; intros; omega
  | succ N ih =>
    intro n ρ n1 n2 hr hn
    rw [lp_succ]
    generalize lp (fun _ _ _ _ => none) (Z12_findChosen_13B kdG0 k7) N = L at ih ⊢
    have r29 : ρ.1 612 29 = τ.1 337 1 := by rw [hr.1 _ _ (by decide) (by decide)]; exact i5.2.2.2.1
    have r6 : ρ.1 612 6 = τ.1 562 1 := by rw [hr.1 _ _ (by decide) (by decide)]; exact i7.2.2.1
    unfold Z12_findChosen_13B
    simp only [Z12_findChosen_50, Z12_findChosen_51, Wz_rt, Wz_cnd, Wz_lI, Wz_lW, Wz_lL, Wz_cl, Wz_cv, Wz_nz, Wz_gI, Wz_gR, Wz_sI, Wz_aI, Wz_aZ, Wz_aL, Wz_aN, Wz_aR, Wz_tI, Wz_tZ, Wz_tL, Option.some.injEq, exists_eq_left', zB_0, zB_1, true_and, and_true, true_implies, not_true_eq_false, false_implies, not_false_eq_true, Classical.not_not, g_0, g_1, g_2, g_3, g_4, g_5, g_327, g_328, g_329, g_330, g_331, g_332, g_333, g_334, g_335, g_336, g_337, g_338, g_339, g_340, g_341, g_342, g_343, g_464, g_465, g_466, g_484, g_485, g_486, g_487, g_488, g_489, g_490, g_491, g_492, g_493, g_494, g_495, g_496, g_497, g_498, g_499, g_500, g_501, g_562, g_563, g_564, g_565, g_566, g_567, g_568, g_574, g_580, g_581, g_582, g_583, g_584, g_585, g_586, g_587, g_588, g_589, g_590, g_591, g_592, g_600, g_601, g_602, g_603, g_604, g_605, g_606, g_607, g_608, g_609, g_610, g_611, g_612, g_613, g_614, g_615, g_616, g_617, g_618, g_619, g_620, g_621, g_622, g_623, g_624, g_625, g_626, g_627, g_628, g_629, g_630, g_631, g_632, g_633, g_634, g_635, g_636, g_637, g_638, g_639, g_640, g_641, g_642, g_643, g_644, g_645, g_646, g_647, g_648, g_649, g_650, g_651, g_652, g_653, g_654, g_655, g_656, g_657, g_658, g_659, g_660, g_661, g_662, g_0_0, g_0_1, g_0_2, g_0_3, g_0_4, g_0_5, g_0_6, g_0_7, g_0_8, g_0_9, g_0_10, g_0_11, g_1_0, g_3_0, g_327_0, g_327_1, g_327_2, g_327_3, g_328_0, g_330_0, g_332_0, g_334_0, g_336_0, g_336_1, g_336_2, g_336_3, g_337_0, g_339_0, g_341_0, g_464_0, g_464_1, g_484_0, g_484_1, g_484_2, g_485_0, g_487_0, g_489_0, g_491_0, g_491_1, g_491_2, g_491_3, g_491_4, g_491_5, g_491_6, g_491_7, g_496_0, g_498_0, g_500_0, g_500_1, g_500_3, g_500_4, g_500_5, g_500_6, g_500_7, g_562_0, g_564_0, g_566_0, g_580_0, g_580_1, g_580_2, g_580_3, g_581_0, g_583_0, g_585_0, g_588_1, g_588_2, g_588_3, g_588_4, g_588_6, g_601_0, g_601_1, g_601_2, g_601_3, g_601_4, g_601_5, g_601_6, g_601_7, g_601_8, g_608_0, g_610_0, g_612_0, g_612_2, g_612_4, g_612_5, g_612_7, g_612_8, g_612_9, g_612_10, g_612_11, g_612_12, g_612_13, g_612_14, g_612_15, g_612_16, g_612_19, g_612_20, g_612_22, g_612_24, g_612_25, g_612_26, g_612_27, g_612_28, g_612_30, g_612_31, g_612_32, g_612_33, g_612_34, g_612_36, g_612_37, g_612_38, g_612_39, g_612_40, g_612_41, g_612_42, g_612_43, g_612_44, g_612_46, g_612_47, g_612_48, g_612_49, g_612_50, g_612_53, g_612_56, g_612_57, g_612_58, g_612_59, g_612_61, g_612_62, g_612_63, g_612_64, r29, r6]
    refine ⟨fun c => ⟨by omega, hQ ρ ⟨hr.1, fun q q0 q1 w w0 w1 => ?_⟩⟩, fun c => ⟨by omega, ?_⟩⟩
    · by_cases y : q = p
      · rw [y]; exact hn w w0 (by omega)
      · exact hr.2 q (by omega) q1 w w0 w1
    · have ew := (i5.2.2.2.2 n (by omega) (by omega)).2.2.1
      have ge := gS_eq (τ := τ) (τ.1 562 1 - 1 - p).toNat (n : Int)
      rw [show τ.1 562 1 - 1 - ((τ.1 562 1 - 1 - p).toNat : Int) = p by omega] at ge
      have fin : ∀ v, v = gS τ (τ.1 562 1 - 1 - p).toNat n → Wz (Z12_findChosen_129 kdG0 k7 L 612 p n v) ρ Q := fun v hv => by
        simp only [Z12_findChosen_129, Wz_rt, Wz_cnd, Wz_lI, Wz_lW, Wz_lL, Wz_cl, Wz_cv, Wz_nz, Wz_gI, Wz_gR, Wz_sI, Wz_aI, Wz_aZ, Wz_aL, Wz_aN, Wz_aR, Wz_tI, Wz_tZ, Wz_tL, Option.some.injEq, exists_eq_left', zB_0, zB_1, true_and, and_true, true_implies, not_true_eq_false, false_implies, not_false_eq_true, Classical.not_not, g_0, g_1, g_2, g_3, g_4, g_5, g_327, g_328, g_329, g_330, g_331, g_332, g_333, g_334, g_335, g_336, g_337, g_338, g_339, g_340, g_341, g_342, g_343, g_464, g_465, g_466, g_484, g_485, g_486, g_487, g_488, g_489, g_490, g_491, g_492, g_493, g_494, g_495, g_496, g_497, g_498, g_499, g_500, g_501, g_562, g_563, g_564, g_565, g_566, g_567, g_568, g_574, g_580, g_581, g_582, g_583, g_584, g_585, g_586, g_587, g_588, g_589, g_590, g_591, g_592, g_600, g_601, g_602, g_603, g_604, g_605, g_606, g_607, g_608, g_609, g_610, g_611, g_612, g_613, g_614, g_615, g_616, g_617, g_618, g_619, g_620, g_621, g_622, g_623, g_624, g_625, g_626, g_627, g_628, g_629, g_630, g_631, g_632, g_633, g_634, g_635, g_636, g_637, g_638, g_639, g_640, g_641, g_642, g_643, g_644, g_645, g_646, g_647, g_648, g_649, g_650, g_651, g_652, g_653, g_654, g_655, g_656, g_657, g_658, g_659, g_660, g_661, g_662, g_0_0, g_0_1, g_0_2, g_0_3, g_0_4, g_0_5, g_0_6, g_0_7, g_0_8, g_0_9, g_0_10, g_0_11, g_1_0, g_3_0, g_327_0, g_327_1, g_327_2, g_327_3, g_328_0, g_330_0, g_332_0, g_334_0, g_336_0, g_336_1, g_336_2, g_336_3, g_337_0, g_339_0, g_341_0, g_464_0, g_464_1, g_484_0, g_484_1, g_484_2, g_485_0, g_487_0, g_489_0, g_491_0, g_491_1, g_491_2, g_491_3, g_491_4, g_491_5, g_491_6, g_491_7, g_496_0, g_498_0, g_500_0, g_500_1, g_500_3, g_500_4, g_500_5, g_500_6, g_500_7, g_562_0, g_564_0, g_566_0, g_580_0, g_580_1, g_580_2, g_580_3, g_581_0, g_583_0, g_585_0, g_588_1, g_588_2, g_588_3, g_588_4, g_588_6, g_601_0, g_601_1, g_601_2, g_601_3, g_601_4, g_601_5, g_601_6, g_601_7, g_601_8, g_608_0, g_610_0, g_612_0, g_612_2, g_612_4, g_612_5, g_612_7, g_612_8, g_612_9, g_612_10, g_612_11, g_612_12, g_612_13, g_612_14, g_612_15, g_612_16, g_612_19, g_612_20, g_612_22, g_612_24, g_612_25, g_612_26, g_612_27, g_612_28, g_612_30, g_612_31, g_612_32, g_612_33, g_612_34, g_612_36, g_612_37, g_612_38, g_612_39, g_612_40, g_612_41, g_612_42, g_612_43, g_612_44, g_612_46, g_612_47, g_612_48, g_612_49, g_612_50, g_612_53, g_612_56, g_612_57, g_612_58, g_612_59, g_612_61, g_612_62, g_612_63, g_612_64]
        refine ⟨by omega, by omega, ?_⟩
        rw [show (n : Int) + 1 = ((n + 1 : Nat) : Int) by omega]
        refine ih (n + 1) _ (by omega) (by omega) ⟨hr.1, fun q q0 q1 w w0 w1 => ?_⟩ (fun w w0 w1 => ?_)
        · dsimp only; rw [v2_nk _ _ _ _ (by omega)]; exact hr.2 q q0 q1 w w0 w1
        · dsimp only
          by_cases y : w = n
          · rw [y, v2_self]; exact hv
          · rw [v2_nk _ _ _ _ (by omega)]; exact hn w w0 (by omega)
      have sh : ∀ v, v = gS τ (τ.1 562 1 - 1 - p).toNat n → (p = τ.1 562 1 - 1 ∨ ¬canW τ p n) → Wz (Z12_findChosen_55 kdG0 k7 L 612 p n v 0) ρ Q := fun v hv hp => by
        unfold Z12_findChosen_55
        obtain ⟨M, hM⟩ : ∃ M, NN = M + 1 := ⟨NN - 1, by unfold NN; rfl⟩
        rw [hM, lp_succ]
        generalize lp (fun _ _ _ _ _ _ => none) (Z12_findChosen_55B kdG0 k7 L) M = L2
        unfold Z12_findChosen_55B
        simp only [Wz_rt, Wz_cnd, Wz_lI, Wz_lW, Wz_lL, Wz_cl, Wz_cv, Wz_nz, Wz_gI, Wz_gR, Wz_sI, Wz_aI, Wz_aZ, Wz_aL, Wz_aN, Wz_aR, Wz_tI, Wz_tZ, Wz_tL, Option.some.injEq, exists_eq_left', zB_0, zB_1, true_and, and_true, true_implies, not_true_eq_false, false_implies, not_false_eq_true, Classical.not_not, g_0, g_1, g_2, g_3, g_4, g_5, g_327, g_328, g_329, g_330, g_331, g_332, g_333, g_334, g_335, g_336, g_337, g_338, g_339, g_340, g_341, g_342, g_343, g_464, g_465, g_466, g_484, g_485, g_486, g_487, g_488, g_489, g_490, g_491, g_492, g_493, g_494, g_495, g_496, g_497, g_498, g_499, g_500, g_501, g_562, g_563, g_564, g_565, g_566, g_567, g_568, g_574, g_580, g_581, g_582, g_583, g_584, g_585, g_586, g_587, g_588, g_589, g_590, g_591, g_592, g_600, g_601, g_602, g_603, g_604, g_605, g_606, g_607, g_608, g_609, g_610, g_611, g_612, g_613, g_614, g_615, g_616, g_617, g_618, g_619, g_620, g_621, g_622, g_623, g_624, g_625, g_626, g_627, g_628, g_629, g_630, g_631, g_632, g_633, g_634, g_635, g_636, g_637, g_638, g_639, g_640, g_641, g_642, g_643, g_644, g_645, g_646, g_647, g_648, g_649, g_650, g_651, g_652, g_653, g_654, g_655, g_656, g_657, g_658, g_659, g_660, g_661, g_662, g_0_0, g_0_1, g_0_2, g_0_3, g_0_4, g_0_5, g_0_6, g_0_7, g_0_8, g_0_9, g_0_10, g_0_11, g_1_0, g_3_0, g_327_0, g_327_1, g_327_2, g_327_3, g_328_0, g_330_0, g_332_0, g_334_0, g_336_0, g_336_1, g_336_2, g_336_3, g_337_0, g_339_0, g_341_0, g_464_0, g_464_1, g_484_0, g_484_1, g_484_2, g_485_0, g_487_0, g_489_0, g_491_0, g_491_1, g_491_2, g_491_3, g_491_4, g_491_5, g_491_6, g_491_7, g_496_0, g_498_0, g_500_0, g_500_1, g_500_3, g_500_4, g_500_5, g_500_6, g_500_7, g_562_0, g_564_0, g_566_0, g_580_0, g_580_1, g_580_2, g_580_3, g_581_0, g_583_0, g_585_0, g_588_1, g_588_2, g_588_3, g_588_4, g_588_6, g_601_0, g_601_1, g_601_2, g_601_3, g_601_4, g_601_5, g_601_6, g_601_7, g_601_8, g_608_0, g_610_0, g_612_0, g_612_2, g_612_4, g_612_5, g_612_7, g_612_8, g_612_9, g_612_10, g_612_11, g_612_12, g_612_13, g_612_14, g_612_15, g_612_16, g_612_19, g_612_20, g_612_22, g_612_24, g_612_25, g_612_26, g_612_27, g_612_28, g_612_30, g_612_31, g_612_32, g_612_33, g_612_34, g_612_36, g_612_37, g_612_38, g_612_39, g_612_40, g_612_41, g_612_42, g_612_43, g_612_44, g_612_46, g_612_47, g_612_48, g_612_49, g_612_50, g_612_53, g_612_56, g_612_57, g_612_58, g_612_59, g_612_61, g_612_62, g_612_63, g_612_64, r29, r6]
        refine ⟨fun c => by omega, fun c => ⟨by omega, fun _ => fin v hv, fun d => ?_⟩⟩
        refine W12_sounds hI hr.1 p0 p1 (show 0 ≤ (n : Int) by omega) (by omega) ?_
        rcases hp with hp | hp
        · omega
        · rw [zp_neg hp]
          exact ⟨fun _ => fin v hv, fun c => absurd rfl c⟩
      by_cases e : p = τ.1 562 1 - 1
      · refine ⟨fun _ => W12_sounds hI hr.1 p0 p1 (by omega) (by omega) ?_, fun z => absurd e z⟩
        rw [show (τ.1 562 1 - 1 - p).toNat = 0 by omega] at ge sh
        rw [show ∀ w, rS τ 0 w = 1 from fun _ => rfl, Int.mul_one] at ge
        refine ⟨fun c => ?_, fun c => ⟨by omega, ?_⟩⟩
        · rw [zp_0] at c
          rw [zp_neg c, Int.zero_mul] at ge
          exact sh 0 ge.symm (Or.inl e)
        · rw [zp_0, Classical.not_not] at c
          rw [zp_pos c, Int.one_mul] at ge
          rw [hr.1 632 _ (by decide) (by decide), ew.2]
          exact sh _ ge.symm (Or.inl e)
      · refine ⟨fun z => absurd z e, fun _ => ?_⟩
        obtain ⟨k, hk⟩ : ∃ k : Nat, (τ.1 562 1 - 1 - p).toNat = k + 1 := ⟨(τ.1 562 1 - 1 - p).toNat - 1, by omega⟩
        by_cases c : canW τ p n
        · rw [zp_pos c, Int.one_mul, hk] at ge
          unfold Z12_findChosen_55
          have q := W12_fc_55 (k7 := k7) (k13 := L) (Q := Q) hI (k := k) p0 (by omega) (show 0 ≤ (n : Int) by omega) (by omega) c hr (fin _ (by rw [hk]; exact ge.symm)) NN 0 (Nat.zero_le _) (by unfold NN; omega)
          rw [show mxF (bF τ k n) 0 = 0 from rfl, Int.mul_zero] at q
          exact q
        · rw [zp_neg c, Int.zero_mul] at ge
          exact sh 0 ge.symm (Or.inr c)
set_option maxRecDepth 100000 in
theorem W12_fc_157 {τ ρ : kzM} (hI : Inv τ) (hr : chY τ ρ 0) {Q : Int → kzM → Prop} (hQ : Q (prS τ) ρ) : ∀ (N n : Nat), n ≤ (τ.1 337 1).toNat → (τ.1 337 1).toNat - n < N → Wz (lp (fun _ _ _ _ => none) (Z12_findChosen_157B kdG0) N 612 (if τ.1 562 1 = 0 then 0 else mxF (gS τ (τ.1 562 1 - 1).toNat) n) (n : Int)) ρ Q := by
  have i5 := hI.2.2.2.2.1
  unfold I5 at i5
  have wl := i5.1
  have i7 := hI.2.2.2.2.2.2.1.1
  unfold I7p at i7
  have pl := i7.1
  have r29 : ρ.1 612 29 = τ.1 337 1 := by rw [hr.1 _ _ (by decide) (by decide)]; exact i5.2.2.2.1
  have r6 : ρ.1 612 6 = τ.1 562 1 := by rw [hr.1 _ _ (by decide) (by decide)]; exact i7.2.2.1
  intro N
  induction N with
  | zero => intro n; intros; omega
  | succ N ih =>
    intro n n1 n2
    rw [lp_succ]
    generalize lp (fun _ _ _ _ => none) (Z12_findChosen_157B kdG0) N = L at ih ⊢
    unfold Z12_findChosen_157B
    simp only [Z12_findChosen_200, Z12_findChosen_193, Wz_rt, Wz_cnd, Wz_lI, Wz_lW, Wz_lL, Wz_cl, Wz_cv, Wz_nz, Wz_gI, Wz_gR, Wz_sI, Wz_aI, Wz_aZ, Wz_aL, Wz_aN, Wz_aR, Wz_tI, Wz_tZ, Wz_tL, Option.some.injEq, exists_eq_left', zB_0, zB_1, true_and, and_true, true_implies, not_true_eq_false, false_implies, not_false_eq_true, Classical.not_not, g_0, g_1, g_2, g_3, g_4, g_5, g_327, g_328, g_329, g_330, g_331, g_332, g_333, g_334, g_335, g_336, g_337, g_338, g_339, g_340, g_341, g_342, g_343, g_464, g_465, g_466, g_484, g_485, g_486, g_487, g_488, g_489, g_490, g_491, g_492, g_493, g_494, g_495, g_496, g_497, g_498, g_499, g_500, g_501, g_562, g_563, g_564, g_565, g_566, g_567, g_568, g_574, g_580, g_581, g_582, g_583, g_584, g_585, g_586, g_587, g_588, g_589, g_590, g_591, g_592, g_600, g_601, g_602, g_603, g_604, g_605, g_606, g_607, g_608, g_609, g_610, g_611, g_612, g_613, g_614, g_615, g_616, g_617, g_618, g_619, g_620, g_621, g_622, g_623, g_624, g_625, g_626, g_627, g_628, g_629, g_630, g_631, g_632, g_633, g_634, g_635, g_636, g_637, g_638, g_639, g_640, g_641, g_642, g_643, g_644, g_645, g_646, g_647, g_648, g_649, g_650, g_651, g_652, g_653, g_654, g_655, g_656, g_657, g_658, g_659, g_660, g_661, g_662, g_0_0, g_0_1, g_0_2, g_0_3, g_0_4, g_0_5, g_0_6, g_0_7, g_0_8, g_0_9, g_0_10, g_0_11, g_1_0, g_3_0, g_327_0, g_327_1, g_327_2, g_327_3, g_328_0, g_330_0, g_332_0, g_334_0, g_336_0, g_336_1, g_336_2, g_336_3, g_337_0, g_339_0, g_341_0, g_464_0, g_464_1, g_484_0, g_484_1, g_484_2, g_485_0, g_487_0, g_489_0, g_491_0, g_491_1, g_491_2, g_491_3, g_491_4, g_491_5, g_491_6, g_491_7, g_496_0, g_498_0, g_500_0, g_500_1, g_500_3, g_500_4, g_500_5, g_500_6, g_500_7, g_562_0, g_564_0, g_566_0, g_580_0, g_580_1, g_580_2, g_580_3, g_581_0, g_583_0, g_585_0, g_588_1, g_588_2, g_588_3, g_588_4, g_588_6, g_601_0, g_601_1, g_601_2, g_601_3, g_601_4, g_601_5, g_601_6, g_601_7, g_601_8, g_608_0, g_610_0, g_612_0, g_612_2, g_612_4, g_612_5, g_612_7, g_612_8, g_612_9, g_612_10, g_612_11, g_612_12, g_612_13, g_612_14, g_612_15, g_612_16, g_612_19, g_612_20, g_612_22, g_612_24, g_612_25, g_612_26, g_612_27, g_612_28, g_612_30, g_612_31, g_612_32, g_612_33, g_612_34, g_612_36, g_612_37, g_612_38, g_612_39, g_612_40, g_612_41, g_612_42, g_612_43, g_612_44, g_612_46, g_612_47, g_612_48, g_612_49, g_612_50, g_612_53, g_612_56, g_612_57, g_612_58, g_612_59, g_612_61, g_612_62, g_612_63, g_612_64, r29, r6]
    refine ⟨fun c => ?_, fun c => ⟨fun d => ?_, fun d => ?_⟩⟩
    · rw [show n = (τ.1 337 1).toNat by omega]; exact hQ
    · unfold prS at hQ
      rw [if_pos (by omega)] at hQ ⊢; exact hQ
    · have e := hr.2 0 (by omega) (by omega) n (by omega) (by omega)
      rw [show 60 * 0 + (n : Int) = n by omega, show τ.1 562 1 - 1 - 0 = τ.1 562 1 - 1 by omega] at e
      have ih' := ih (n + 1) (by omega) (by omega)
      rw [if_neg (by omega), show mxF (gS τ (τ.1 562 1 - 1).toNat) (n + 1) = if mxF (gS τ (τ.1 562 1 - 1).toNat) n < gS τ (τ.1 562 1 - 1).toNat (n : Int) then gS τ (τ.1 562 1 - 1).toNat (n : Int) else mxF (gS τ (τ.1 562 1 - 1).toNat) n from rfl, show ((n + 1 : Nat) : Int) = (n : Int) + 1 by omega] at ih'
      rw [if_neg (show ¬τ.1 562 1 = 0 by omega), e]
      refine ⟨by omega, fun z => ⟨by omega, ?_⟩, fun z => ⟨by omega, by omega, ?_⟩⟩
      · rw [if_neg (by omega)] at ih'; exact ih'
      · rw [if_pos (by omega)] at ih'; exact ih'
set_option maxRecDepth 100000 in
theorem W12_fc_7 {τ : kzM} (hI : Inv τ) {Q : Int → kzM → Prop} (hQ : ∀ ρ, chY τ ρ 0 → Q (prS τ) ρ) : ∀ (N : Nat) (p : Int) (ρ : kzM), -1 ≤ p → p < τ.1 562 1 → p + 1 < N → chY τ ρ (p + 1) → Wz (lp (fun _ _ _ => none) (Z12_findChosen_7B kdG0) N 612 p) ρ Q := by
  have i5 := hI.2.2.2.2.1
  unfold I5 at i5
  have wl := i5.1
  have i7 := hI.2.2.2.2.2.2.1.1
  unfold I7p at i7
  have pl := i7.1
  intro N
  induction N with
  | zero => intro n; intros; omega
  | succ N ih =>
    intro p ρ p0 p1 p2 hr
    rw [lp_succ]
    generalize lp (fun _ _ _ => none) (Z12_findChosen_7B kdG0) N = L at ih ⊢
    unfold Z12_findChosen_7B
    simp only [Wz_rt, Wz_cnd, Wz_lI, Wz_lW, Wz_lL, Wz_cl, Wz_cv, Wz_nz, Wz_gI, Wz_gR, Wz_sI, Wz_aI, Wz_aZ, Wz_aL, Wz_aN, Wz_aR, Wz_tI, Wz_tZ, Wz_tL, Option.some.injEq, exists_eq_left', zB_0, zB_1, true_and, and_true, true_implies, not_true_eq_false, false_implies, not_false_eq_true, Classical.not_not]
    refine ⟨fun c => ?_, fun c => ?_⟩
    · rw [show p + 1 = 0 by omega] at hr
      have q := W12_fc_157 hI hr (hQ ρ hr) NN 0 (Nat.zero_le _) (by unfold NN; omega)
      rw [show (if τ.1 562 1 = 0 then 0 else mxF (gS τ (τ.1 562 1 - 1).toNat) 0) = 0 by split <;> rfl] at q
      exact q
    · unfold Z12_findChosen_13
      refine W12_fc_13 hI (by omega) p1 (fun σ hs => ?_) NN 0 ρ (Nat.zero_le _) (by unfold NN; omega) hr (fun w w0 w1 => by omega)
      exact ih (p - 1) σ (by omega) (by omega) (by omega) (by rw [show p - 1 + 1 = p by omega]; exact hs)
set_option maxRecDepth 100000 in
theorem W12_fChosen {τ ρ : kzM} (hI : Inv τ) (hr : tabY τ ρ) {Q : Int → kzM → Prop} (hQ : ∀ ρ, chY τ ρ 0 → Q (prS τ) ρ) : Wz (Z12_findChosen kdG0 612) ρ Q := by
  have i7 := hI.2.2.2.2.2.2.1.1
  unfold I7p at i7
  have r6 : ρ.1 612 6 = τ.1 562 1 := by rw [hr _ _ (by decide) (by decide)]; exact i7.2.2.1
  simp only [Z12_findChosen, Wz_rt, Wz_cnd, Wz_lI, Wz_lW, Wz_lL, Wz_cl, Wz_cv, Wz_nz, Wz_gI, Wz_gR, Wz_sI, Wz_aI, Wz_aZ, Wz_aL, Wz_aN, Wz_aR, Wz_tI, Wz_tZ, Wz_tL, Option.some.injEq, exists_eq_left', zB_0, zB_1, true_and, and_true, true_implies, not_true_eq_false, false_implies, not_false_eq_true, Classical.not_not, g_0, g_1, g_2, g_3, g_4, g_5, g_327, g_328, g_329, g_330, g_331, g_332, g_333, g_334, g_335, g_336, g_337, g_338, g_339, g_340, g_341, g_342, g_343, g_464, g_465, g_466, g_484, g_485, g_486, g_487, g_488, g_489, g_490, g_491, g_492, g_493, g_494, g_495, g_496, g_497, g_498, g_499, g_500, g_501, g_562, g_563, g_564, g_565, g_566, g_567, g_568, g_574, g_580, g_581, g_582, g_583, g_584, g_585, g_586, g_587, g_588, g_589, g_590, g_591, g_592, g_600, g_601, g_602, g_603, g_604, g_605, g_606, g_607, g_608, g_609, g_610, g_611, g_612, g_613, g_614, g_615, g_616, g_617, g_618, g_619, g_620, g_621, g_622, g_623, g_624, g_625, g_626, g_627, g_628, g_629, g_630, g_631, g_632, g_633, g_634, g_635, g_636, g_637, g_638, g_639, g_640, g_641, g_642, g_643, g_644, g_645, g_646, g_647, g_648, g_649, g_650, g_651, g_652, g_653, g_654, g_655, g_656, g_657, g_658, g_659, g_660, g_661, g_662, g_0_0, g_0_1, g_0_2, g_0_3, g_0_4, g_0_5, g_0_6, g_0_7, g_0_8, g_0_9, g_0_10, g_0_11, g_1_0, g_3_0, g_327_0, g_327_1, g_327_2, g_327_3, g_328_0, g_330_0, g_332_0, g_334_0, g_336_0, g_336_1, g_336_2, g_336_3, g_337_0, g_339_0, g_341_0, g_464_0, g_464_1, g_484_0, g_484_1, g_484_2, g_485_0, g_487_0, g_489_0, g_491_0, g_491_1, g_491_2, g_491_3, g_491_4, g_491_5, g_491_6, g_491_7, g_496_0, g_498_0, g_500_0, g_500_1, g_500_3, g_500_4, g_500_5, g_500_6, g_500_7, g_562_0, g_564_0, g_566_0, g_580_0, g_580_1, g_580_2, g_580_3, g_581_0, g_583_0, g_585_0, g_588_1, g_588_2, g_588_3, g_588_4, g_588_6, g_601_0, g_601_1, g_601_2, g_601_3, g_601_4, g_601_5, g_601_6, g_601_7, g_601_8, g_608_0, g_610_0, g_612_0, g_612_2, g_612_4, g_612_5, g_612_7, g_612_8, g_612_9, g_612_10, g_612_11, g_612_12, g_612_13, g_612_14, g_612_15, g_612_16, g_612_19, g_612_20, g_612_22, g_612_24, g_612_25, g_612_26, g_612_27, g_612_28, g_612_30, g_612_31, g_612_32, g_612_33, g_612_34, g_612_36, g_612_37, g_612_38, g_612_39, g_612_40, g_612_41, g_612_42, g_612_43, g_612_44, g_612_46, g_612_47, g_612_48, g_612_49, g_612_50, g_612_53, g_612_56, g_612_57, g_612_58, g_612_59, g_612_61, g_612_62, g_612_63, g_612_64, r6]
  unfold Z12_findChosen_7
  exact ⟨by omega, W12_fc_7 hI hQ NN _ ρ (by omega) (by omega) (by unfold NN; omega) ⟨hr, fun q q0 q1 w w0 w1 => by omega⟩⟩
set_option maxRecDepth 100000 in
theorem m_product : MOK (Z11_product kdG0 0) (Z12_product kdG0 612) := by
  intro τ hI
  simp only [Z11_product, Wz_rt, Wz_cnd, Wz_lI, Wz_lW, Wz_lL, Wz_cl, Wz_cv, Wz_nz, Wz_gI, Wz_gR, Wz_sI, Wz_aI, Wz_aZ, Wz_aL, Wz_aN, Wz_aR, Wz_tI, Wz_tZ, Wz_tL, Option.some.injEq, exists_eq_left', zB_0, zB_1, true_and, and_true, true_implies, not_true_eq_false, false_implies, not_false_eq_true, Classical.not_not, g_0, g_1, g_2, g_3, g_4, g_5, g_327, g_328, g_329, g_330, g_331, g_332, g_333, g_334, g_335, g_336, g_337, g_338, g_339, g_340, g_341, g_342, g_343, g_464, g_465, g_466, g_484, g_485, g_486, g_487, g_488, g_489, g_490, g_491, g_492, g_493, g_494, g_495, g_496, g_497, g_498, g_499, g_500, g_501, g_562, g_563, g_564, g_565, g_566, g_567, g_568, g_574, g_580, g_581, g_582, g_583, g_584, g_585, g_586, g_587, g_588, g_589, g_590, g_591, g_592, g_600, g_601, g_602, g_603, g_604, g_605, g_606, g_607, g_608, g_609, g_610, g_611, g_612, g_613, g_614, g_615, g_616, g_617, g_618, g_619, g_620, g_621, g_622, g_623, g_624, g_625, g_626, g_627, g_628, g_629, g_630, g_631, g_632, g_633, g_634, g_635, g_636, g_637, g_638, g_639, g_640, g_641, g_642, g_643, g_644, g_645, g_646, g_647, g_648, g_649, g_650, g_651, g_652, g_653, g_654, g_655, g_656, g_657, g_658, g_659, g_660, g_661, g_662, g_0_0, g_0_1, g_0_2, g_0_3, g_0_4, g_0_5, g_0_6, g_0_7, g_0_8, g_0_9, g_0_10, g_0_11, g_1_0, g_3_0, g_327_0, g_327_1, g_327_2, g_327_3, g_328_0, g_330_0, g_332_0, g_334_0, g_336_0, g_336_1, g_336_2, g_336_3, g_337_0, g_339_0, g_341_0, g_464_0, g_464_1, g_484_0, g_484_1, g_484_2, g_485_0, g_487_0, g_489_0, g_491_0, g_491_1, g_491_2, g_491_3, g_491_4, g_491_5, g_491_6, g_491_7, g_496_0, g_498_0, g_500_0, g_500_1, g_500_3, g_500_4, g_500_5, g_500_6, g_500_7, g_562_0, g_564_0, g_566_0, g_580_0, g_580_1, g_580_2, g_580_3, g_581_0, g_583_0, g_585_0, g_588_1, g_588_2, g_588_3, g_588_4, g_588_6, g_601_0, g_601_1, g_601_2, g_601_3, g_601_4, g_601_5, g_601_6, g_601_7, g_601_8, g_608_0, g_610_0, g_612_0, g_612_2, g_612_4, g_612_5, g_612_7, g_612_8, g_612_9, g_612_10, g_612_11, g_612_12, g_612_13, g_612_14, g_612_15, g_612_16, g_612_19, g_612_20, g_612_22, g_612_24, g_612_25, g_612_26, g_612_27, g_612_28, g_612_30, g_612_31, g_612_32, g_612_33, g_612_34, g_612_36, g_612_37, g_612_38, g_612_39, g_612_40, g_612_41, g_612_42, g_612_43, g_612_44, g_612_46, g_612_47, g_612_48, g_612_49, g_612_50, g_612_53, g_612_56, g_612_57, g_612_58, g_612_59, g_612_61, g_612_62, g_612_63, g_612_64]
  refine W0_choose hI ?_
  intro σ hs _ _
  simp only [Z12_product, Wz_rt, Wz_cnd, Wz_lI, Wz_lW, Wz_lL, Wz_cl, Wz_cv, Wz_nz, Wz_gI, Wz_gR, Wz_sI, Wz_aI, Wz_aZ, Wz_aL, Wz_aN, Wz_aR, Wz_tI, Wz_tZ, Wz_tL, Option.some.injEq, exists_eq_left', zB_0, zB_1, true_and, and_true, true_implies, not_true_eq_false, false_implies, not_false_eq_true, Classical.not_not, g_0, g_1, g_2, g_3, g_4, g_5, g_327, g_328, g_329, g_330, g_331, g_332, g_333, g_334, g_335, g_336, g_337, g_338, g_339, g_340, g_341, g_342, g_343, g_464, g_465, g_466, g_484, g_485, g_486, g_487, g_488, g_489, g_490, g_491, g_492, g_493, g_494, g_495, g_496, g_497, g_498, g_499, g_500, g_501, g_562, g_563, g_564, g_565, g_566, g_567, g_568, g_574, g_580, g_581, g_582, g_583, g_584, g_585, g_586, g_587, g_588, g_589, g_590, g_591, g_592, g_600, g_601, g_602, g_603, g_604, g_605, g_606, g_607, g_608, g_609, g_610, g_611, g_612, g_613, g_614, g_615, g_616, g_617, g_618, g_619, g_620, g_621, g_622, g_623, g_624, g_625, g_626, g_627, g_628, g_629, g_630, g_631, g_632, g_633, g_634, g_635, g_636, g_637, g_638, g_639, g_640, g_641, g_642, g_643, g_644, g_645, g_646, g_647, g_648, g_649, g_650, g_651, g_652, g_653, g_654, g_655, g_656, g_657, g_658, g_659, g_660, g_661, g_662, g_0_0, g_0_1, g_0_2, g_0_3, g_0_4, g_0_5, g_0_6, g_0_7, g_0_8, g_0_9, g_0_10, g_0_11, g_1_0, g_3_0, g_327_0, g_327_1, g_327_2, g_327_3, g_328_0, g_330_0, g_332_0, g_334_0, g_336_0, g_336_1, g_336_2, g_336_3, g_337_0, g_339_0, g_341_0, g_464_0, g_464_1, g_484_0, g_484_1, g_484_2, g_485_0, g_487_0, g_489_0, g_491_0, g_491_1, g_491_2, g_491_3, g_491_4, g_491_5, g_491_6, g_491_7, g_496_0, g_498_0, g_500_0, g_500_1, g_500_3, g_500_4, g_500_5, g_500_6, g_500_7, g_562_0, g_564_0, g_566_0, g_580_0, g_580_1, g_580_2, g_580_3, g_581_0, g_583_0, g_585_0, g_588_1, g_588_2, g_588_3, g_588_4, g_588_6, g_601_0, g_601_1, g_601_2, g_601_3, g_601_4, g_601_5, g_601_6, g_601_7, g_601_8, g_608_0, g_610_0, g_612_0, g_612_2, g_612_4, g_612_5, g_612_7, g_612_8, g_612_9, g_612_10, g_612_11, g_612_12, g_612_13, g_612_14, g_612_15, g_612_16, g_612_19, g_612_20, g_612_22, g_612_24, g_612_25, g_612_26, g_612_27, g_612_28, g_612_30, g_612_31, g_612_32, g_612_33, g_612_34, g_612_36, g_612_37, g_612_38, g_612_39, g_612_40, g_612_41, g_612_42, g_612_43, g_612_44, g_612_46, g_612_47, g_612_48, g_612_49, g_612_50, g_612_53, g_612_56, g_612_57, g_612_58, g_612_59, g_612_61, g_612_62, g_612_63, g_612_64]
  refine W12_fChosen hI (fun a x z _ => hs a x z) ?_
  intro ρ hr
  exact ⟨rfl, hI.tabY hr.1⟩
