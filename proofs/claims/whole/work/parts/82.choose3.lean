/-! chosen and product: the reference's side -/
def tabY (τ ρ : kzM) : Prop := ∀ a x, ¬(566 ≤ a ∧ a ≤ 579) → a ≠ 650 → ρ.1 a x = τ.1 a x
set_option maxRecDepth 100000 in
theorem Inv.tabY {τ σ : kzM} (h : tabY τ σ) (hI : Inv τ) : Inv σ := Inv.to20 (fun a j _ z => h a j (fun q => z (md_20 (by omega))) (fun q => z (by rw [q]; rfl))) hI
set_option maxRecDepth 100000 in
theorem W12_sd_0 {ρ : kzM} {w v : Int} (v0 : 0 ≤ v) (v1 : v < 60) {Q : Int → kzM → Prop} (hQ : Q 0 ρ) : ∀ (N : Nat) (j : Int), Wz (lp (fun _ _ _ _ _ _ => none) (Z12_soundsAs_67B kdG0) (N + 1) 612 w v 0 j) ρ Q := by
  intro N j
  rw [lp_succ]
  generalize lp (fun _ _ _ _ _ _ => none) (Z12_soundsAs_67B kdG0) N = L
  unfold Z12_soundsAs_67B
  simp only [Z12_soundsAs_123, Z12_soundsAs_115, Wz_rt, Wz_cnd, Wz_lI, Wz_lW, Wz_lL, Wz_cl, Wz_cv, Wz_nz, Wz_gI, Wz_gR, Wz_sI, Wz_aI, Wz_aZ, Wz_aL, Wz_aN, Wz_aR, Wz_tI, Wz_tZ, Wz_tL, Option.some.injEq, exists_eq_left', zB_0, zB_1, true_and, and_true, true_implies, not_true_eq_false, false_implies, not_false_eq_true, Classical.not_not, g_0, g_1, g_2, g_3, g_4, g_5, g_327, g_328, g_329, g_330, g_331, g_332, g_333, g_334, g_335, g_336, g_337, g_338, g_339, g_340, g_341, g_342, g_343, g_464, g_465, g_466, g_484, g_485, g_486, g_487, g_488, g_489, g_490, g_491, g_492, g_493, g_494, g_495, g_496, g_497, g_498, g_499, g_500, g_501, g_562, g_563, g_564, g_565, g_566, g_567, g_568, g_574, g_580, g_581, g_582, g_583, g_584, g_585, g_586, g_587, g_588, g_589, g_590, g_591, g_592, g_600, g_601, g_602, g_603, g_604, g_605, g_606, g_607, g_608, g_609, g_610, g_611, g_612, g_613, g_614, g_615, g_616, g_617, g_618, g_619, g_620, g_621, g_622, g_623, g_624, g_625, g_626, g_627, g_628, g_629, g_630, g_631, g_632, g_633, g_634, g_635, g_636, g_637, g_638, g_639, g_640, g_641, g_642, g_643, g_644, g_645, g_646, g_647, g_648, g_649, g_650, g_651, g_652, g_653, g_654, g_655, g_656, g_657, g_658, g_659, g_660, g_661, g_662, g_0_0, g_0_1, g_0_2, g_0_3, g_0_4, g_0_5, g_0_6, g_0_7, g_0_8, g_0_9, g_0_10, g_0_11, g_1_0, g_3_0, g_327_0, g_327_1, g_327_2, g_327_3, g_328_0, g_330_0, g_332_0, g_334_0, g_336_0, g_336_1, g_336_2, g_336_3, g_337_0, g_339_0, g_341_0, g_464_0, g_464_1, g_484_0, g_484_1, g_484_2, g_485_0, g_487_0, g_489_0, g_491_0, g_491_1, g_491_2, g_491_3, g_491_4, g_491_5, g_491_6, g_491_7, g_496_0, g_498_0, g_500_0, g_500_1, g_500_3, g_500_4, g_500_5, g_500_6, g_500_7, g_562_0, g_564_0, g_566_0, g_580_0, g_580_1, g_580_2, g_580_3, g_581_0, g_583_0, g_585_0, g_588_1, g_588_2, g_588_3, g_588_4, g_588_6, g_601_0, g_601_1, g_601_2, g_601_3, g_601_4, g_601_5, g_601_6, g_601_7, g_601_8, g_608_0, g_610_0, g_612_0, g_612_2, g_612_4, g_612_5, g_612_7, g_612_8, g_612_9, g_612_10, g_612_11, g_612_12, g_612_13, g_612_14, g_612_15, g_612_16, g_612_19, g_612_20, g_612_22, g_612_24, g_612_25, g_612_26, g_612_27, g_612_28, g_612_30, g_612_31, g_612_32, g_612_33, g_612_34, g_612_36, g_612_37, g_612_38, g_612_39, g_612_40, g_612_41, g_612_42, g_612_43, g_612_44, g_612_46, g_612_47, g_612_48, g_612_49, g_612_50, g_612_53, g_612_56, g_612_57, g_612_58, g_612_59, g_612_61, g_612_62, g_612_63, g_612_64]
  exact ⟨by omega, fun _ => hQ, fun _ => hQ⟩
set_option maxRecDepth 100000 in
theorem W12_sd_67 {ρ : kzM} {w v : Int} (w0 : 0 ≤ w) (w1 : w < 60) (v0 : 0 ≤ v) (v1 : v < 60) (hv : 1 ≤ ρ.1 633 v ∧ ρ.1 633 v ≤ 8) {Q : Int → kzM → Prop} (hQ : Q (zp (∀ j, 0 ≤ j → j < ρ.1 633 v → ρ.1 634 (8 * w + j) = ρ.1 634 (8 * v + j))) ρ) : ∀ (N : Nat) (j : Int), 0 ≤ j → j ≤ ρ.1 633 v → ρ.1 633 v + 1 - j < N → (∀ x, 0 ≤ x → x < j → ρ.1 634 (8 * w + x) = ρ.1 634 (8 * v + x)) → Wz (lp (fun _ _ _ _ _ _ => none) (Z12_soundsAs_67B kdG0) N 612 w v 1 j) ρ Q := by
  intro N
  induction N with
  | zero => intro j; intros; omega
  | succ N ih =>
    intro j j0 j1 j2 hj
    rw [lp_succ]
    obtain ⟨M, hM⟩ : ∃ M, N = M + 1 := ⟨N - 1, by omega⟩
    have z1 : Q 0 ρ → Wz (lp (fun _ _ _ _ _ _ => none) (Z12_soundsAs_67B kdG0) N 612 w v 0 (j + 1)) ρ Q := fun q => by
      rw [hM]; exact W12_sd_0 v0 v1 q M (j + 1)
    generalize lp (fun _ _ _ _ _ _ => none) (Z12_soundsAs_67B kdG0) N = L at ih z1 ⊢
    unfold Z12_soundsAs_67B
    simp only [Z12_soundsAs_123, Z12_soundsAs_115, Wz_rt, Wz_cnd, Wz_lI, Wz_lW, Wz_lL, Wz_cl, Wz_cv, Wz_nz, Wz_gI, Wz_gR, Wz_sI, Wz_aI, Wz_aZ, Wz_aL, Wz_aN, Wz_aR, Wz_tI, Wz_tZ, Wz_tL, Option.some.injEq, exists_eq_left', zB_0, zB_1, true_and, and_true, true_implies, not_true_eq_false, false_implies, not_false_eq_true, Classical.not_not, g_0, g_1, g_2, g_3, g_4, g_5, g_327, g_328, g_329, g_330, g_331, g_332, g_333, g_334, g_335, g_336, g_337, g_338, g_339, g_340, g_341, g_342, g_343, g_464, g_465, g_466, g_484, g_485, g_486, g_487, g_488, g_489, g_490, g_491, g_492, g_493, g_494, g_495, g_496, g_497, g_498, g_499, g_500, g_501, g_562, g_563, g_564, g_565, g_566, g_567, g_568, g_574, g_580, g_581, g_582, g_583, g_584, g_585, g_586, g_587, g_588, g_589, g_590, g_591, g_592, g_600, g_601, g_602, g_603, g_604, g_605, g_606, g_607, g_608, g_609, g_610, g_611, g_612, g_613, g_614, g_615, g_616, g_617, g_618, g_619, g_620, g_621, g_622, g_623, g_624, g_625, g_626, g_627, g_628, g_629, g_630, g_631, g_632, g_633, g_634, g_635, g_636, g_637, g_638, g_639, g_640, g_641, g_642, g_643, g_644, g_645, g_646, g_647, g_648, g_649, g_650, g_651, g_652, g_653, g_654, g_655, g_656, g_657, g_658, g_659, g_660, g_661, g_662, g_0_0, g_0_1, g_0_2, g_0_3, g_0_4, g_0_5, g_0_6, g_0_7, g_0_8, g_0_9, g_0_10, g_0_11, g_1_0, g_3_0, g_327_0, g_327_1, g_327_2, g_327_3, g_328_0, g_330_0, g_332_0, g_334_0, g_336_0, g_336_1, g_336_2, g_336_3, g_337_0, g_339_0, g_341_0, g_464_0, g_464_1, g_484_0, g_484_1, g_484_2, g_485_0, g_487_0, g_489_0, g_491_0, g_491_1, g_491_2, g_491_3, g_491_4, g_491_5, g_491_6, g_491_7, g_496_0, g_498_0, g_500_0, g_500_1, g_500_3, g_500_4, g_500_5, g_500_6, g_500_7, g_562_0, g_564_0, g_566_0, g_580_0, g_580_1, g_580_2, g_580_3, g_581_0, g_583_0, g_585_0, g_588_1, g_588_2, g_588_3, g_588_4, g_588_6, g_601_0, g_601_1, g_601_2, g_601_3, g_601_4, g_601_5, g_601_6, g_601_7, g_601_8, g_608_0, g_610_0, g_612_0, g_612_2, g_612_4, g_612_5, g_612_7, g_612_8, g_612_9, g_612_10, g_612_11, g_612_12, g_612_13, g_612_14, g_612_15, g_612_16, g_612_19, g_612_20, g_612_22, g_612_24, g_612_25, g_612_26, g_612_27, g_612_28, g_612_30, g_612_31, g_612_32, g_612_33, g_612_34, g_612_36, g_612_37, g_612_38, g_612_39, g_612_40, g_612_41, g_612_42, g_612_43, g_612_44, g_612_46, g_612_47, g_612_48, g_612_49, g_612_50, g_612_53, g_612_56, g_612_57, g_612_58, g_612_59, g_612_61, g_612_62, g_612_63, g_612_64]
    refine ⟨by omega, fun c => ?_, fun c => ⟨fun d => absurd d (by decide), fun _ => ⟨by omega, by omega, fun e => ⟨by omega, ?_⟩, fun e => ⟨by omega, ?_⟩⟩⟩⟩
    · rw [zp_pos (fun x x0 x1 => hj x x0 (by omega))] at hQ; exact hQ
    · refine ih (j + 1) (by omega) (by omega) (by omega) (fun x x0 x1 => ?_)
      by_cases y : x = j
      · rw [y]; exact e
      · exact hj x x0 (by omega)
    · refine z1 ?_
      rw [zp_neg (fun q => e (q j j0 (by omega)))] at hQ
      exact hQ
set_option maxRecDepth 100000 in
theorem W12_sounds {τ ρ : kzM} (hI : Inv τ) (hr : tabY τ ρ) {p w : Int} (p0 : 0 ≤ p) (p1 : p < τ.1 562 1) (w0 : 0 ≤ w) (w1 : w < τ.1 337 1) {Q : Int → kzM → Prop} (hQ : Q (zp (canW τ p w)) ρ) : Wz (Z12_soundsAs kdG0 612 w p) ρ Q := by
  have i5 := hI.2.2.2.2.1
  unfold I5 at i5
  have wl := i5.1
  have i7 := hI.2.2.2.2.2.2.1.1
  unfold I7p at i7
  have e := i7.2.2.2 p p0 p1
  have v0 := e.1.1.1
  have v1 := e.1.1.2
  have ew := i5.2.2.2.2 w w0 w1
  have ev := i5.2.2.2.2 _ v0 v1
  have kw := ew.2.2.2
  have kv := ev.2.2.2
  unfold eqR at kw kv
  have r5 : ρ.1 615 p = τ.1 563 p := by rw [hr 615 p (by decide) (by decide)]; exact e.1.2
  have r6 : ρ.1 616 p = τ.1 565 p := by rw [hr 616 p (by decide) (by decide)]; exact e.2.2
  have t1 : ∀ x, ρ.1 630 x = τ.1 630 x := fun x => hr 630 x (by decide) (by decide)
  have t2 : ∀ x, ρ.1 633 x = τ.1 633 x := fun x => hr 633 x (by decide) (by decide)
  have t3 : ∀ x, ρ.1 634 x = τ.1 634 x := fun x => hr 634 x (by decide) (by decide)
  simp only [Z12_soundsAs, Z12_soundsAs_26, Z12_soundsAs_62, Z12_soundsAs_61, Wz_rt, Wz_cnd, Wz_lI, Wz_lW, Wz_lL, Wz_cl, Wz_cv, Wz_nz, Wz_gI, Wz_gR, Wz_sI, Wz_aI, Wz_aZ, Wz_aL, Wz_aN, Wz_aR, Wz_tI, Wz_tZ, Wz_tL, Option.some.injEq, exists_eq_left', zB_0, zB_1, true_and, and_true, true_implies, not_true_eq_false, false_implies, not_false_eq_true, Classical.not_not, g_0, g_1, g_2, g_3, g_4, g_5, g_327, g_328, g_329, g_330, g_331, g_332, g_333, g_334, g_335, g_336, g_337, g_338, g_339, g_340, g_341, g_342, g_343, g_464, g_465, g_466, g_484, g_485, g_486, g_487, g_488, g_489, g_490, g_491, g_492, g_493, g_494, g_495, g_496, g_497, g_498, g_499, g_500, g_501, g_562, g_563, g_564, g_565, g_566, g_567, g_568, g_574, g_580, g_581, g_582, g_583, g_584, g_585, g_586, g_587, g_588, g_589, g_590, g_591, g_592, g_600, g_601, g_602, g_603, g_604, g_605, g_606, g_607, g_608, g_609, g_610, g_611, g_612, g_613, g_614, g_615, g_616, g_617, g_618, g_619, g_620, g_621, g_622, g_623, g_624, g_625, g_626, g_627, g_628, g_629, g_630, g_631, g_632, g_633, g_634, g_635, g_636, g_637, g_638, g_639, g_640, g_641, g_642, g_643, g_644, g_645, g_646, g_647, g_648, g_649, g_650, g_651, g_652, g_653, g_654, g_655, g_656, g_657, g_658, g_659, g_660, g_661, g_662, g_0_0, g_0_1, g_0_2, g_0_3, g_0_4, g_0_5, g_0_6, g_0_7, g_0_8, g_0_9, g_0_10, g_0_11, g_1_0, g_3_0, g_327_0, g_327_1, g_327_2, g_327_3, g_328_0, g_330_0, g_332_0, g_334_0, g_336_0, g_336_1, g_336_2, g_336_3, g_337_0, g_339_0, g_341_0, g_464_0, g_464_1, g_484_0, g_484_1, g_484_2, g_485_0, g_487_0, g_489_0, g_491_0, g_491_1, g_491_2, g_491_3, g_491_4, g_491_5, g_491_6, g_491_7, g_496_0, g_498_0, g_500_0, g_500_1, g_500_3, g_500_4, g_500_5, g_500_6, g_500_7, g_562_0, g_564_0, g_566_0, g_580_0, g_580_1, g_580_2, g_580_3, g_581_0, g_583_0, g_585_0, g_588_1, g_588_2, g_588_3, g_588_4, g_588_6, g_601_0, g_601_1, g_601_2, g_601_3, g_601_4, g_601_5, g_601_6, g_601_7, g_601_8, g_608_0, g_610_0, g_612_0, g_612_2, g_612_4, g_612_5, g_612_7, g_612_8, g_612_9, g_612_10, g_612_11, g_612_12, g_612_13, g_612_14, g_612_15, g_612_16, g_612_19, g_612_20, g_612_22, g_612_24, g_612_25, g_612_26, g_612_27, g_612_28, g_612_30, g_612_31, g_612_32, g_612_33, g_612_34, g_612_36, g_612_37, g_612_38, g_612_39, g_612_40, g_612_41, g_612_42, g_612_43, g_612_44, g_612_46, g_612_47, g_612_48, g_612_49, g_612_50, g_612_53, g_612_56, g_612_57, g_612_58, g_612_59, g_612_61, g_612_62, g_612_63, g_612_64, r5, r6, t1, t2]
  unfold Z12_soundsAs_67
  obtain ⟨N, hN⟩ : ∃ N, NN = N + 1 := ⟨NN - 1, by unfold NN; rfl⟩
  have no : ¬canW τ p w → Q (zp (canW τ p w)) ρ → Q 0 ρ := fun c q => by rw [zp_neg c] at q; exact q
  have key : τ.1 565 p = 0 → τ.1 630 w = τ.1 630 (τ.1 563 p) → τ.1 633 w = τ.1 633 (τ.1 563 p) → (canW τ p w ↔ ∀ j, 0 ≤ j → j < ρ.1 633 (τ.1 563 p) → ρ.1 634 (8 * w + j) = ρ.1 634 (8 * (τ.1 563 p) + j)) := fun a b c => by
    constructor
    · intro q j j0 j1
      rw [t2] at j1
      rcases q with q | q
      · rw [← q]
      · have x := q.2.2.2 j j0 (by omega)
        rw [Int.zero_add] at x
        rw [t3, t3, (kw.2.2 j j0 (by omega)).2, (kv.2.2 j j0 (by omega)).2]
        exact x.symm
    · intro q
      refine Or.inr ⟨a, ⟨by omega, by omega, fun x x0 x1 => ?_⟩⟩
      have y := q x x0 (by rw [t2]; omega)
      rw [t3, t3, (kw.2.2 x x0 (by omega)).2, (kv.2.2 x x0 (by omega)).2] at y
      rw [Int.zero_add]
      exact y.symm
  refine ⟨by omega, by omega, fun a => ⟨by omega, by omega, fun b => ⟨by omega, by omega, fun c => ?_, fun c => ?_⟩, fun b => ?_⟩, fun a => ⟨fun b => ?_, fun b => ?_⟩⟩
  · refine W12_sd_67 w0 (by omega) v0 (by omega) (by rw [t2]; omega) ?_ NN 0 (by omega) (by rw [t2]; omega) (by rw [t2]; unfold NN; omega) (fun x x0 x1 => by omega)
    rw [← zp_iff (key a b c)]; exact hQ
  · rw [hN]
    refine W12_sd_0 v0 (by omega) (no (fun q => ?_) hQ) N 0
    rcases q with q | q
    · exact c (by rw [← q])
    · have := q.2.2.1; omega
  · rw [hN]
    refine W12_sd_0 v0 (by omega) (no (fun q => ?_) hQ) N 0
    rcases q with q | q
    · exact b (by rw [← q])
    · have := q.2.1; omega
  · rw [zp_pos (p := canW τ p w) (Or.inl b)] at hQ; exact hQ
  · refine no (fun q => ?_) hQ
    rcases q with q | q
    · exact b q
    · exact a q.1
