/-! slip: the reference's table; slip closed -/
def tbM (τ : kzM) (x y : Int) : Int := τ.1 636 (9 * x + y)
def prM (τ : kzM) : Prop := prB (τ.1 635) ∧ ((0 ≤ τ.1 612 1 ∧ τ.1 612 1 ≤ 16) ∧ ∀ k, 0 ≤ k → k < τ.1 612 1 → 0 ≤ τ.1 613 k ∧ τ.1 613 k ≤ 11)
def wdM (τ : kzM) (w : Int) : Prop := (1 ≤ τ.1 633 w ∧ τ.1 633 w ≤ 8) ∧ ∀ k, 0 ≤ k → k < τ.1 633 w → 0 ≤ τ.1 634 (8 * w + k) ∧ τ.1 634 (8 * w + k) ≤ 11
set_option maxRecDepth 100000 in
theorem W12_lesser {a b : Int} {τ : kzM} {Q : Int → kzM → Prop} (hQ : Q (zmin a b) τ) : Wz (Z12_lesser kdG0 a b) τ Q := by
  unfold zmin at hQ
  simp only [Z12_lesser, Z12_lesser_10, Wz_rt, Wz_cnd, Wz_lI, Wz_lW, Wz_lL, Wz_cl, Wz_cv, Wz_nz, Wz_gI, Wz_gR, Wz_sI, Wz_aI, Wz_aZ, Wz_aL, Wz_aN, Wz_aR, Wz_tI, Wz_tZ, Wz_tL, Option.some.injEq, exists_eq_left', zB_0, zB_1, true_and, and_true, true_implies, not_true_eq_false, false_implies, not_false_eq_true, Classical.not_not]
  refine ⟨fun c => ?_, fun c => ?_⟩
  · by_cases d : b < a
    · rw [if_pos d] at hQ; exact hQ
    · rw [if_neg d] at hQ; rw [show b = a by omega]; exact hQ
  · rw [if_neg (by omega)] at hQ; exact hQ
set_option maxRecDepth 100000 in
theorem W12_size {v : Int} {τ : kzM} (h : -1000 ≤ v ∧ v ≤ 1000) {Q : Int → kzM → Prop} (hQ : Q (zabs v) τ) : Wz (Z12_size kdG0 v) τ Q := by
  unfold zabs at hQ
  simp only [Z12_size, Z12_size_10, Wz_rt, Wz_cnd, Wz_lI, Wz_lW, Wz_lL, Wz_cl, Wz_cv, Wz_nz, Wz_gI, Wz_gR, Wz_sI, Wz_aI, Wz_aZ, Wz_aL, Wz_aN, Wz_aR, Wz_tI, Wz_tZ, Wz_tL, Option.some.injEq, exists_eq_left', zB_0, zB_1, true_and, and_true, true_implies, not_true_eq_false, false_implies, not_false_eq_true, Classical.not_not]
  refine ⟨fun c => ?_, fun c => ⟨by omega, ?_⟩⟩
  · rw [if_pos c] at hQ; exact hQ
  · rw [if_neg c, show 0 - v = -v by omega] at hQ; exact hQ
set_option maxRecDepth 100000 in
theorem W12_beside {a b : Int} {τ : kzM} (ha : 0 ≤ a ∧ a ≤ 11) (hb : 0 ≤ b ∧ b ≤ 11) (c : ¬a = b) {Q : Int → kzM → Prop} (h0 : (1 < zabs (a.tdiv 4 - b.tdiv 4) ∨ 1 < zabs (a.tmod 4 - b.tmod 4)) → Q 0 τ) (h1 : ¬1 < zabs (a.tdiv 4 - b.tdiv 4) → ¬1 < zabs (a.tmod 4 - b.tmod 4) → Q 1 τ) : Wz (Z12_areBeside kdG0 a b) τ Q := by
  have a1 := tdiv4 ha
  have a2 := tdiv4 hb
  have a3 := tmod4 ha
  have a4 := tmod4 hb
  simp only [Z12_areBeside, Z12_areBeside_37, Z12_areBeside_38, Wz_rt, Wz_cnd, Wz_lI, Wz_lW, Wz_lL, Wz_cl, Wz_cv, Wz_nz, Wz_gI, Wz_gR, Wz_sI, Wz_aI, Wz_aZ, Wz_aL, Wz_aN, Wz_aR, Wz_tI, Wz_tZ, Wz_tL, Option.some.injEq, exists_eq_left', zB_0, zB_1, true_and, and_true, true_implies, not_true_eq_false, false_implies, not_false_eq_true, Classical.not_not]
  refine ⟨fun d => absurd d c, fun _ => ⟨by decide, by decide, by omega, W12_size (by omega) ⟨fun d => h0 (Or.inl (by omega)), fun d => ⟨by decide, by decide, by omega, W12_size (by omega) ⟨fun e => h0 (Or.inr (by omega)), fun e => h1 (by omega) (by omega)⟩⟩⟩⟩⟩
set_option maxRecDepth 100000 in
theorem W12_225 {τ : kzM} {w i j last due ahead acc : Int} (w0 : 0 ≤ w) (w1 : w < 60) (hw : wdM τ w) (hP : prB (τ.1 635)) (i0 : 0 ≤ i) (i1 : i ≤ 16) (j0 : 0 ≤ j) (j1 : j ≤ τ.1 633 w) (hacc : 0 ≤ acc ∧ acc ≤ 1000000000) (hT : 1 < i → 1 < j → 0 ≤ tbM τ (i - 2) (j - 2) ∧ tbM τ (i - 2) (j - 2) ≤ 2000) (hd : 1 < j → due = τ.1 634 (8 * w + (j - 1))) {Q : Int → kzM → Prop} (hQ : Q (if i ≤ 1 ∨ j ≤ 1 ∨ last = ahead ∨ ¬last = τ.1 634 (8 * w + (j - 2)) ∨ ¬ahead = τ.1 634 (8 * w + (j - 1)) then acc else zmin acc (tbM τ (i - 2) (j - 2) + τ.1 635 3)) τ) : Wz (Z12_cheapest_225 kdG0 612 w i j acc last due ahead) τ Q := by
  obtain ⟨w2, w3⟩ := hw
  have p3 := hP 3 (by omega) (by omega)
  simp only [Z12_cheapest_225, Z12_cheapest_299, Wz_rt, Wz_cnd, Wz_lI, Wz_lW, Wz_lL, Wz_cl, Wz_cv, Wz_nz, Wz_gI, Wz_gR, Wz_sI, Wz_aI, Wz_aZ, Wz_aL, Wz_aN, Wz_aR, Wz_tI, Wz_tZ, Wz_tL, Option.some.injEq, exists_eq_left', zB_0, zB_1, true_and, and_true, true_implies, not_true_eq_false, false_implies, not_false_eq_true, Classical.not_not, g_0, g_1, g_2, g_3, g_4, g_5, g_327, g_328, g_329, g_330, g_331, g_332, g_333, g_334, g_335, g_336, g_337, g_338, g_339, g_340, g_341, g_342, g_343, g_464, g_465, g_466, g_484, g_485, g_486, g_487, g_488, g_489, g_490, g_491, g_492, g_493, g_494, g_495, g_496, g_497, g_498, g_499, g_500, g_501, g_562, g_563, g_564, g_565, g_566, g_567, g_568, g_574, g_580, g_581, g_582, g_583, g_584, g_585, g_586, g_587, g_588, g_589, g_590, g_591, g_592, g_600, g_601, g_602, g_603, g_604, g_605, g_606, g_607, g_608, g_609, g_610, g_611, g_612, g_613, g_614, g_615, g_616, g_617, g_618, g_619, g_620, g_621, g_622, g_623, g_624, g_625, g_626, g_627, g_628, g_629, g_630, g_631, g_632, g_633, g_634, g_635, g_636, g_637, g_638, g_639, g_640, g_641, g_642, g_643, g_644, g_645, g_646, g_647, g_648, g_649, g_650, g_651, g_652, g_653, g_654, g_655, g_656, g_657, g_658, g_659, g_660, g_661, g_662, g_0_0, g_0_1, g_0_2, g_0_3, g_0_4, g_0_5, g_0_6, g_0_7, g_0_8, g_0_9, g_0_10, g_0_11, g_1_0, g_3_0, g_327_0, g_327_1, g_327_2, g_327_3, g_328_0, g_330_0, g_332_0, g_334_0, g_336_0, g_336_1, g_336_2, g_336_3, g_337_0, g_339_0, g_341_0, g_464_0, g_464_1, g_484_0, g_484_1, g_484_2, g_485_0, g_487_0, g_489_0, g_491_0, g_491_1, g_491_2, g_491_3, g_491_4, g_491_5, g_491_6, g_491_7, g_496_0, g_498_0, g_500_0, g_500_1, g_500_3, g_500_4, g_500_5, g_500_6, g_500_7, g_562_0, g_564_0, g_566_0, g_580_0, g_580_1, g_580_2, g_580_3, g_581_0, g_583_0, g_585_0, g_588_1, g_588_2, g_588_3, g_588_4, g_588_6, g_601_0, g_601_1, g_601_2, g_601_3, g_601_4, g_601_5, g_601_6, g_601_7, g_601_8, g_608_0, g_610_0, g_612_0, g_612_2, g_612_4, g_612_5, g_612_7, g_612_8, g_612_9, g_612_10, g_612_11, g_612_12, g_612_13, g_612_14, g_612_15, g_612_16, g_612_19, g_612_20, g_612_22, g_612_24, g_612_25, g_612_26, g_612_27, g_612_28, g_612_30, g_612_31, g_612_32, g_612_33, g_612_34, g_612_36, g_612_37, g_612_38, g_612_39, g_612_40, g_612_41, g_612_42, g_612_43, g_612_44, g_612_46, g_612_47, g_612_48, g_612_49, g_612_50, g_612_53, g_612_56, g_612_57, g_612_58, g_612_59, g_612_61, g_612_62, g_612_63, g_612_64]
  refine ⟨fun c1 => ?_, fun c1 => ⟨fun c2 => ?_, fun c2 => ⟨fun c3 => ?_, fun c3 => ⟨fun c4 => ⟨by omega, fun c5 => ?_, fun c5 => ?_⟩, fun c4 => ?_⟩⟩⟩⟩
  · rw [if_pos (Or.inl c1)] at hQ; exact hQ
  · rw [if_pos (Or.inr (Or.inl c2))] at hQ; exact hQ
  · rw [if_pos (Or.inr (Or.inr (Or.inl c3.symm)))] at hQ; exact hQ
  · have hT := hT (by omega) (by omega)
    unfold tbM at hT hQ
    rw [show 9 * (i - 2) + (j - 2) = 9 * (i - 2) + j - 2 by omega] at hT hQ
    refine ⟨by omega, by omega, by omega, W12_lesser ?_⟩
    rw [if_neg (by rintro (z | z | z | z | z); exact c1 z; exact c2 z; exact c3 z.symm; exact z (by rw [c5, show 8 * w + (j - 2) = 8 * w + j - 2 by omega]); exact z (by rw [c4, hd (by omega)]))] at hQ
    exact hQ
  · rw [if_pos (Or.inr (Or.inr (Or.inr (Or.inl (fun q => c5 (by rw [q, show 8 * w + (j - 2) = 8 * w + j - 2 by omega]))))))] at hQ; exact hQ
  · rw [if_pos (Or.inr (Or.inr (Or.inr (Or.inr (fun q => c4 (by rw [q, hd (by omega)]))))))] at hQ; exact hQ
set_option maxRecDepth 100000 in
theorem W12_152 {τ : kzM} {w i j last due ahead acc : Int} (w0 : 0 ≤ w) (w1 : w < 60) (hw : wdM τ w) (hP : prB (τ.1 635)) (i0 : 0 ≤ i) (i1 : i ≤ 16) (j0 : 0 ≤ j) (j1 : j ≤ τ.1 633 w) (hacc : 0 ≤ acc ∧ acc ≤ 1000000000) (hl : 1 ≤ i → 0 ≤ last ∧ last ≤ 11) (hT : ∀ x y, 0 ≤ x → x ≤ i → 0 ≤ y → y ≤ j → ¬(x = i ∧ y = j) → 0 ≤ tbM τ x y ∧ tbM τ x y ≤ 2000) (hd : 0 < j → due = τ.1 634 (8 * w + (j - 1))) {Q : Int → kzM → Prop} (hQ : ∀ x1, x1 = (if i ≤ 0 ∨ j ≤ 0 then acc else zmin acc (tbM τ (i - 1) (j - 1) + oneC (τ.1 635) last due)) → Q (if i ≤ 1 ∨ j ≤ 1 ∨ last = ahead ∨ ¬last = τ.1 634 (8 * w + (j - 2)) ∨ ¬ahead = τ.1 634 (8 * w + (j - 1)) then x1 else zmin x1 (tbM τ (i - 2) (j - 2) + τ.1 635 3)) τ) : Wz (Z12_cheapest_152 kdG0 612 w i j acc last due ahead) τ Q := by
  have hw' := hw
  obtain ⟨w2, w3⟩ := hw'
  have p4 := hP 4 (by omega) (by omega)
  have p0 := hP 0 (by omega) (by omega)
  simp only [Z12_cheapest_152, Z12_cheapest_197, Wz_rt, Wz_cnd, Wz_lI, Wz_lW, Wz_lL, Wz_cl, Wz_cv, Wz_nz, Wz_gI, Wz_gR, Wz_sI, Wz_aI, Wz_aZ, Wz_aL, Wz_aN, Wz_aR, Wz_tI, Wz_tZ, Wz_tL, Option.some.injEq, exists_eq_left', zB_0, zB_1, true_and, and_true, true_implies, not_true_eq_false, false_implies, not_false_eq_true, Classical.not_not, g_0, g_1, g_2, g_3, g_4, g_5, g_327, g_328, g_329, g_330, g_331, g_332, g_333, g_334, g_335, g_336, g_337, g_338, g_339, g_340, g_341, g_342, g_343, g_464, g_465, g_466, g_484, g_485, g_486, g_487, g_488, g_489, g_490, g_491, g_492, g_493, g_494, g_495, g_496, g_497, g_498, g_499, g_500, g_501, g_562, g_563, g_564, g_565, g_566, g_567, g_568, g_574, g_580, g_581, g_582, g_583, g_584, g_585, g_586, g_587, g_588, g_589, g_590, g_591, g_592, g_600, g_601, g_602, g_603, g_604, g_605, g_606, g_607, g_608, g_609, g_610, g_611, g_612, g_613, g_614, g_615, g_616, g_617, g_618, g_619, g_620, g_621, g_622, g_623, g_624, g_625, g_626, g_627, g_628, g_629, g_630, g_631, g_632, g_633, g_634, g_635, g_636, g_637, g_638, g_639, g_640, g_641, g_642, g_643, g_644, g_645, g_646, g_647, g_648, g_649, g_650, g_651, g_652, g_653, g_654, g_655, g_656, g_657, g_658, g_659, g_660, g_661, g_662, g_0_0, g_0_1, g_0_2, g_0_3, g_0_4, g_0_5, g_0_6, g_0_7, g_0_8, g_0_9, g_0_10, g_0_11, g_1_0, g_3_0, g_327_0, g_327_1, g_327_2, g_327_3, g_328_0, g_330_0, g_332_0, g_334_0, g_336_0, g_336_1, g_336_2, g_336_3, g_337_0, g_339_0, g_341_0, g_464_0, g_464_1, g_484_0, g_484_1, g_484_2, g_485_0, g_487_0, g_489_0, g_491_0, g_491_1, g_491_2, g_491_3, g_491_4, g_491_5, g_491_6, g_491_7, g_496_0, g_498_0, g_500_0, g_500_1, g_500_3, g_500_4, g_500_5, g_500_6, g_500_7, g_562_0, g_564_0, g_566_0, g_580_0, g_580_1, g_580_2, g_580_3, g_581_0, g_583_0, g_585_0, g_588_1, g_588_2, g_588_3, g_588_4, g_588_6, g_601_0, g_601_1, g_601_2, g_601_3, g_601_4, g_601_5, g_601_6, g_601_7, g_601_8, g_608_0, g_610_0, g_612_0, g_612_2, g_612_4, g_612_5, g_612_7, g_612_8, g_612_9, g_612_10, g_612_11, g_612_12, g_612_13, g_612_14, g_612_15, g_612_16, g_612_19, g_612_20, g_612_22, g_612_24, g_612_25, g_612_26, g_612_27, g_612_28, g_612_30, g_612_31, g_612_32, g_612_33, g_612_34, g_612_36, g_612_37, g_612_38, g_612_39, g_612_40, g_612_41, g_612_42, g_612_43, g_612_44, g_612_46, g_612_47, g_612_48, g_612_49, g_612_50, g_612_53, g_612_56, g_612_57, g_612_58, g_612_59, g_612_61, g_612_62, g_612_63, g_612_64]
  have fin : ∀ x1, 0 ≤ x1 ∧ x1 ≤ 1000000000 → x1 = (if i ≤ 0 ∨ j ≤ 0 then acc else zmin acc (tbM τ (i - 1) (j - 1) + oneC (τ.1 635) last due)) → Wz (Z12_cheapest_225 kdG0 612 w i j x1 last due ahead) τ Q := fun x1 b e =>
    W12_225 w0 w1 hw hP i0 i1 j0 j1 b (fun h1 h2 => hT _ _ (by omega) (by omega) (by omega) (by omega) (by omega)) (fun h => hd (by omega)) (hQ x1 e)
  refine ⟨fun c => fin acc hacc (by rw [if_pos (Or.inl c)]), fun c => ⟨fun d => fin acc hacc (by rw [if_pos (Or.inr d)]), fun d => ?_⟩⟩
  have t1 := hT (i - 1) (j - 1) (by omega) (by omega) (by omega) (by omega) (by omega)
  have ff : ¬(i ≤ 0 ∨ j ≤ 0) := by omega
  rw [if_neg ff] at fin
  have wj := w3 (j - 1) (by omega) (by omega)
  rw [← hd (by omega)] at wj
  have hl := hl (by omega)
  have z : ∀ v, 0 ≤ v → v ≤ 20 → 0 ≤ zmin acc (tbM τ (i - 1) (j - 1) + v) ∧ zmin acc (tbM τ (i - 1) (j - 1) + v) ≤ 1000000000 := fun v v0 v1 => zmin_b hacc.1 hacc.2 (by omega)
  have ti : tbM τ (i - 1) (j - 1) = τ.1 636 (9 * (i - 1) + j - 1) := by unfold tbM; rw [show 9 * (i - 1) + (j - 1) = 9 * (i - 1) + j - 1 by omega]
  rw [ti] at t1 z fin
  refine ⟨fun e => ⟨by omega, by omega, W12_lesser (fin _ (z 0 (by omega) (by omega)) ?_)⟩, fun e => W12_beside hl wj e (fun f => ?_) (fun f g => ?_)⟩
  · unfold oneC; rw [if_pos e]
  · refine ⟨fun _ => ⟨by omega, by omega, by omega, W12_lesser (fin _ (z _ p4.1 p4.2) ?_)⟩, fun q => absurd rfl q⟩
    unfold oneC; rw [if_neg e]
    by_cases f1 : 1 < zabs (last.tdiv 4 - due.tdiv 4)
    · rw [if_pos f1]
    · rw [if_neg f1, if_pos (f.resolve_left f1)]
  · refine ⟨fun q => absurd q (by decide), fun _ => ⟨by omega, by omega, by omega, W12_lesser (fin _ (z _ p0.1 p0.2) ?_)⟩⟩
    unfold oneC; rw [if_neg e, if_neg f, if_neg g]
set_option maxRecDepth 100000 in
theorem W12_119 {τ : kzM} {w i j last due ahead acc : Int} (w0 : 0 ≤ w) (w1 : w < 60) (hw : wdM τ w) (hP : prB (τ.1 635)) (i0 : 0 ≤ i) (i1 : i ≤ 16) (j0 : 0 ≤ j) (j1 : j ≤ τ.1 633 w) (hacc : 0 ≤ acc ∧ acc ≤ 1000000000) (hl : 1 ≤ i → 0 ≤ last ∧ last ≤ 11) (hT : ∀ x y, 0 ≤ x → x ≤ i → 0 ≤ y → y ≤ j → ¬(x = i ∧ y = j) → 0 ≤ tbM τ x y ∧ tbM τ x y ≤ 2000) (hd : 0 < j → due = τ.1 634 (8 * w + (j - 1))) {Q : Int → kzM → Prop} (hQ : ∀ x2 x1, x2 = (if j ≤ 0 then acc else zmin acc (tbM τ i (j - 1) + τ.1 635 2)) → x1 = (if i ≤ 0 ∨ j ≤ 0 then x2 else zmin x2 (tbM τ (i - 1) (j - 1) + oneC (τ.1 635) last due)) → Q (if i ≤ 1 ∨ j ≤ 1 ∨ last = ahead ∨ ¬last = τ.1 634 (8 * w + (j - 2)) ∨ ¬ahead = τ.1 634 (8 * w + (j - 1)) then x1 else zmin x1 (tbM τ (i - 2) (j - 2) + τ.1 635 3)) τ) : Wz (Z12_cheapest_119 kdG0 612 w i j acc last due ahead) τ Q := by
  have p2 := hP 2 (by omega) (by omega)
  have hw' := hw
  obtain ⟨w2, w3⟩ := hw'
  simp only [Z12_cheapest_119, Wz_rt, Wz_cnd, Wz_lI, Wz_lW, Wz_lL, Wz_cl, Wz_cv, Wz_nz, Wz_gI, Wz_gR, Wz_sI, Wz_aI, Wz_aZ, Wz_aL, Wz_aN, Wz_aR, Wz_tI, Wz_tZ, Wz_tL, Option.some.injEq, exists_eq_left', zB_0, zB_1, true_and, and_true, true_implies, not_true_eq_false, false_implies, not_false_eq_true, Classical.not_not, g_0, g_1, g_2, g_3, g_4, g_5, g_327, g_328, g_329, g_330, g_331, g_332, g_333, g_334, g_335, g_336, g_337, g_338, g_339, g_340, g_341, g_342, g_343, g_464, g_465, g_466, g_484, g_485, g_486, g_487, g_488, g_489, g_490, g_491, g_492, g_493, g_494, g_495, g_496, g_497, g_498, g_499, g_500, g_501, g_562, g_563, g_564, g_565, g_566, g_567, g_568, g_574, g_580, g_581, g_582, g_583, g_584, g_585, g_586, g_587, g_588, g_589, g_590, g_591, g_592, g_600, g_601, g_602, g_603, g_604, g_605, g_606, g_607, g_608, g_609, g_610, g_611, g_612, g_613, g_614, g_615, g_616, g_617, g_618, g_619, g_620, g_621, g_622, g_623, g_624, g_625, g_626, g_627, g_628, g_629, g_630, g_631, g_632, g_633, g_634, g_635, g_636, g_637, g_638, g_639, g_640, g_641, g_642, g_643, g_644, g_645, g_646, g_647, g_648, g_649, g_650, g_651, g_652, g_653, g_654, g_655, g_656, g_657, g_658, g_659, g_660, g_661, g_662, g_0_0, g_0_1, g_0_2, g_0_3, g_0_4, g_0_5, g_0_6, g_0_7, g_0_8, g_0_9, g_0_10, g_0_11, g_1_0, g_3_0, g_327_0, g_327_1, g_327_2, g_327_3, g_328_0, g_330_0, g_332_0, g_334_0, g_336_0, g_336_1, g_336_2, g_336_3, g_337_0, g_339_0, g_341_0, g_464_0, g_464_1, g_484_0, g_484_1, g_484_2, g_485_0, g_487_0, g_489_0, g_491_0, g_491_1, g_491_2, g_491_3, g_491_4, g_491_5, g_491_6, g_491_7, g_496_0, g_498_0, g_500_0, g_500_1, g_500_3, g_500_4, g_500_5, g_500_6, g_500_7, g_562_0, g_564_0, g_566_0, g_580_0, g_580_1, g_580_2, g_580_3, g_581_0, g_583_0, g_585_0, g_588_1, g_588_2, g_588_3, g_588_4, g_588_6, g_601_0, g_601_1, g_601_2, g_601_3, g_601_4, g_601_5, g_601_6, g_601_7, g_601_8, g_608_0, g_610_0, g_612_0, g_612_2, g_612_4, g_612_5, g_612_7, g_612_8, g_612_9, g_612_10, g_612_11, g_612_12, g_612_13, g_612_14, g_612_15, g_612_16, g_612_19, g_612_20, g_612_22, g_612_24, g_612_25, g_612_26, g_612_27, g_612_28, g_612_30, g_612_31, g_612_32, g_612_33, g_612_34, g_612_36, g_612_37, g_612_38, g_612_39, g_612_40, g_612_41, g_612_42, g_612_43, g_612_44, g_612_46, g_612_47, g_612_48, g_612_49, g_612_50, g_612_53, g_612_56, g_612_57, g_612_58, g_612_59, g_612_61, g_612_62, g_612_63, g_612_64]
  refine ⟨fun c => ?_, fun c => ?_⟩
  · exact W12_152 w0 w1 hw hP i0 i1 j0 j1 hacc hl hT hd (fun x1 e => hQ acc x1 (by rw [if_pos c]) e)
  · have t1 := hT i (j - 1) (by omega) (by omega) (by omega) (by omega) (by omega)
    have ti : tbM τ i (j - 1) = τ.1 636 (9 * i + j - 1) := by unfold tbM; rw [show 9 * i + (j - 1) = 9 * i + j - 1 by omega]
    rw [ti] at t1
    refine ⟨by omega, by omega, by omega, W12_lesser ?_⟩
    exact W12_152 w0 w1 hw hP i0 i1 j0 j1 (zmin_b hacc.1 hacc.2 (by omega)) hl hT hd (fun x1 e => hQ _ x1 (by rw [if_neg c, ti]) e)
set_option maxRecDepth 100000 in
theorem W12_69 {τ : kzM} {w i j last due ahead : Int} (w0 : 0 ≤ w) (w1 : w < 60) (hw : wdM τ w) (hP : prB (τ.1 635)) (i0 : 0 ≤ i) (i1 : i ≤ 16) (j0 : 0 ≤ j) (j1 : j ≤ τ.1 633 w) (hij : 1 ≤ i ∨ 1 ≤ j) (hl : 1 ≤ i → 0 ≤ last ∧ last ≤ 11) (hT : ∀ x y, 0 ≤ x → x ≤ i → 0 ≤ y → y ≤ j → ¬(x = i ∧ y = j) → 0 ≤ tbM τ x y ∧ tbM τ x y ≤ 2000) (hd : 0 < j → due = τ.1 634 (8 * w + (j - 1))) {s : Int → Int} (e1 : 1 ≤ i → last = s (i - 1)) (e2 : 1 ≤ i → ahead = if i ≤ 1 then -1 else s (i - 2)) {Q : Int → kzM → Prop} (hQ : 1 ≤ i → Q (cellE (tbM τ) s (fun k => τ.1 634 (8 * w + k)) (τ.1 635) i j) τ) (hR : i = 0 → Q (tbM τ 0 (j - 1) + τ.1 635 2) τ) : Wz (Z12_cheapest_69 kdG0 612 w i j 1000000000 last due ahead) τ Q := by
  have p1 := hP 1 (by omega) (by omega)
  have p2 := hP 2 (by omega) (by omega)
  have p4 := hP 4 (by omega) (by omega)
  have hw' := hw
  obtain ⟨w2, w3⟩ := hw'
  simp only [Z12_cheapest_69, Z12_cheapest_113, Wz_rt, Wz_cnd, Wz_lI, Wz_lW, Wz_lL, Wz_cl, Wz_cv, Wz_nz, Wz_gI, Wz_gR, Wz_sI, Wz_aI, Wz_aZ, Wz_aL, Wz_aN, Wz_aR, Wz_tI, Wz_tZ, Wz_tL, Option.some.injEq, exists_eq_left', zB_0, zB_1, true_and, and_true, true_implies, not_true_eq_false, false_implies, not_false_eq_true, Classical.not_not, g_0, g_1, g_2, g_3, g_4, g_5, g_327, g_328, g_329, g_330, g_331, g_332, g_333, g_334, g_335, g_336, g_337, g_338, g_339, g_340, g_341, g_342, g_343, g_464, g_465, g_466, g_484, g_485, g_486, g_487, g_488, g_489, g_490, g_491, g_492, g_493, g_494, g_495, g_496, g_497, g_498, g_499, g_500, g_501, g_562, g_563, g_564, g_565, g_566, g_567, g_568, g_574, g_580, g_581, g_582, g_583, g_584, g_585, g_586, g_587, g_588, g_589, g_590, g_591, g_592, g_600, g_601, g_602, g_603, g_604, g_605, g_606, g_607, g_608, g_609, g_610, g_611, g_612, g_613, g_614, g_615, g_616, g_617, g_618, g_619, g_620, g_621, g_622, g_623, g_624, g_625, g_626, g_627, g_628, g_629, g_630, g_631, g_632, g_633, g_634, g_635, g_636, g_637, g_638, g_639, g_640, g_641, g_642, g_643, g_644, g_645, g_646, g_647, g_648, g_649, g_650, g_651, g_652, g_653, g_654, g_655, g_656, g_657, g_658, g_659, g_660, g_661, g_662, g_0_0, g_0_1, g_0_2, g_0_3, g_0_4, g_0_5, g_0_6, g_0_7, g_0_8, g_0_9, g_0_10, g_0_11, g_1_0, g_3_0, g_327_0, g_327_1, g_327_2, g_327_3, g_328_0, g_330_0, g_332_0, g_334_0, g_336_0, g_336_1, g_336_2, g_336_3, g_337_0, g_339_0, g_341_0, g_464_0, g_464_1, g_484_0, g_484_1, g_484_2, g_485_0, g_487_0, g_489_0, g_491_0, g_491_1, g_491_2, g_491_3, g_491_4, g_491_5, g_491_6, g_491_7, g_496_0, g_498_0, g_500_0, g_500_1, g_500_3, g_500_4, g_500_5, g_500_6, g_500_7, g_562_0, g_564_0, g_566_0, g_580_0, g_580_1, g_580_2, g_580_3, g_581_0, g_583_0, g_585_0, g_588_1, g_588_2, g_588_3, g_588_4, g_588_6, g_601_0, g_601_1, g_601_2, g_601_3, g_601_4, g_601_5, g_601_6, g_601_7, g_601_8, g_608_0, g_610_0, g_612_0, g_612_2, g_612_4, g_612_5, g_612_7, g_612_8, g_612_9, g_612_10, g_612_11, g_612_12, g_612_13, g_612_14, g_612_15, g_612_16, g_612_19, g_612_20, g_612_22, g_612_24, g_612_25, g_612_26, g_612_27, g_612_28, g_612_30, g_612_31, g_612_32, g_612_33, g_612_34, g_612_36, g_612_37, g_612_38, g_612_39, g_612_40, g_612_41, g_612_42, g_612_43, g_612_44, g_612_46, g_612_47, g_612_48, g_612_49, g_612_50, g_612_53, g_612_56, g_612_57, g_612_58, g_612_59, g_612_61, g_612_62, g_612_63, g_612_64]
  refine ⟨fun c => ?_, fun c => ?_⟩
  · refine W12_119 w0 w1 hw hP i0 i1 j0 j1 (by omega) hl hT hd (fun x2 x1 q2 q1 => ?_)
    have t1 := hT 0 (j - 1) (by omega) (by omega) (by omega) (by omega) (by omega)
    have ci : i = 0 := by omega
    subst ci
    rw [if_pos (Or.inl (by omega)), q1, if_pos (Or.inl (by omega)), q2, if_neg (by omega)]
    have : zmin 1000000000 (tbM τ 0 (j - 1) + τ.1 635 2) = tbM τ 0 (j - 1) + τ.1 635 2 := by unfold zmin; rw [if_pos (by omega)]
    rw [this]; exact hR rfl
  · have hQ := hQ (by omega)
    have e1 := e1 (by omega)
    have e2 := e2 (by omega)
    unfold cellE at hQ
    rw [if_neg (by omega)] at hQ
    simp only [← e1, ← e2] at hQ
    have t1 := hT (i - 1) j (by omega) (by omega) (by omega) (by omega) (by omega)
    have ti : tbM τ (i - 1) j = τ.1 636 (9 * (i - 1) + j) := rfl
    rw [ti] at t1
    have fin : ∀ v, v = (if last = ahead then τ.1 635 1 else τ.1 635 4) → 0 ≤ v → v ≤ 20 → Wz (Z12_cheapest_119 kdG0 612 w i j (zmin 1000000000 (τ.1 636 (9 * (i - 1) + j) + v)) last due ahead) τ Q := fun v hv v0 v1 => by
      have ez : zmin 1000000000 (τ.1 636 (9 * (i - 1) + j) + v) = τ.1 636 (9 * (i - 1) + j) + v := by unfold zmin; rw [if_pos (by omega)]
      rw [ez]
      refine W12_119 w0 w1 hw hP i0 i1 j0 j1 (by omega) hl hT hd (fun x2 x1 q2 q1 => ?_)
      have ex : x1 = (if j ≤ 0 then tbM τ (i - 1) j + (if last = ahead then τ.1 635 1 else τ.1 635 4) else zmin (zmin (tbM τ (i - 1) j + (if last = ahead then τ.1 635 1 else τ.1 635 4)) (tbM τ i (j - 1) + τ.1 635 2)) (tbM τ (i - 1) (j - 1) + oneC (τ.1 635) last (τ.1 634 (8 * w + (j - 1))))) := by
        rw [q1, q2, ← hv, ti]
        by_cases d : j ≤ 0
        · rw [if_pos (Or.inr d), if_pos d, if_pos d]
        · rw [if_neg (by omega), if_neg d, if_neg d, hd (by omega)]
      rw [ex]; exact hQ
    refine ⟨by omega, fun d => ⟨by omega, by omega, W12_lesser (fin _ (by rw [if_pos d.symm]) p1.1 p1.2)⟩, fun d => ⟨by omega, by omega, W12_lesser (fin _ (by rw [if_neg (fun q => d q.symm)]) p4.1 p4.2)⟩⟩
set_option maxRecDepth 100000 in
theorem W12_cheapest {τ : kzM} {w fr i j : Int} (w0 : 0 ≤ w) (w1 : w < 60) (hw : wdM τ w) (hP : prM τ) (f0 : 0 ≤ fr) (fi : fr + i ≤ τ.1 612 1) (i0 : 0 ≤ i) (j0 : 0 ≤ j) (j1 : j ≤ τ.1 633 w) (hij : 1 ≤ i ∨ 1 ≤ j) (hT : ∀ x y, 0 ≤ x → x ≤ i → 0 ≤ y → y ≤ j → ¬(x = i ∧ y = j) → 0 ≤ tbM τ x y ∧ tbM τ x y ≤ 2000) {Q : Int → kzM → Prop} (hQ : 1 ≤ i → Q (cellE (tbM τ) (fun k => τ.1 613 (fr + k)) (fun k => τ.1 634 (8 * w + k)) (τ.1 635) i j) τ) (hR : i = 0 → Q (tbM τ 0 (j - 1) + τ.1 635 2) τ) : Wz (Z12_cheapest kdG0 612 w fr i j) τ Q := by
  obtain ⟨hP, k1, k2⟩ := hP
  have wl := hw.1
  have main : ∀ last due ahead, (1 ≤ i → last = τ.1 613 (fr + (i - 1))) → (0 < j → due = τ.1 634 (8 * w + (j - 1))) → (1 ≤ i → ahead = if i ≤ 1 then -1 else τ.1 613 (fr + (i - 2))) → Wz (Z12_cheapest_69 kdG0 612 w i j 1000000000 last due ahead) τ Q := fun last due ahead q1 q2 q3 =>
    W12_69 (s := fun k => τ.1 613 (fr + k)) w0 w1 hw hP i0 (by omega) j0 j1 hij (fun h => by rw [q1 h]; exact k2 _ (by omega) (by omega)) hT q2 q1 q3 hQ hR
  simp only [Z12_cheapest, Z12_cheapest_23, Z12_cheapest_48, Wz_rt, Wz_cnd, Wz_lI, Wz_lW, Wz_lL, Wz_cl, Wz_cv, Wz_nz, Wz_gI, Wz_gR, Wz_sI, Wz_aI, Wz_aZ, Wz_aL, Wz_aN, Wz_aR, Wz_tI, Wz_tZ, Wz_tL, Option.some.injEq, exists_eq_left', zB_0, zB_1, true_and, and_true, true_implies, not_true_eq_false, false_implies, not_false_eq_true, Classical.not_not, g_0, g_1, g_2, g_3, g_4, g_5, g_327, g_328, g_329, g_330, g_331, g_332, g_333, g_334, g_335, g_336, g_337, g_338, g_339, g_340, g_341, g_342, g_343, g_464, g_465, g_466, g_484, g_485, g_486, g_487, g_488, g_489, g_490, g_491, g_492, g_493, g_494, g_495, g_496, g_497, g_498, g_499, g_500, g_501, g_562, g_563, g_564, g_565, g_566, g_567, g_568, g_574, g_580, g_581, g_582, g_583, g_584, g_585, g_586, g_587, g_588, g_589, g_590, g_591, g_592, g_600, g_601, g_602, g_603, g_604, g_605, g_606, g_607, g_608, g_609, g_610, g_611, g_612, g_613, g_614, g_615, g_616, g_617, g_618, g_619, g_620, g_621, g_622, g_623, g_624, g_625, g_626, g_627, g_628, g_629, g_630, g_631, g_632, g_633, g_634, g_635, g_636, g_637, g_638, g_639, g_640, g_641, g_642, g_643, g_644, g_645, g_646, g_647, g_648, g_649, g_650, g_651, g_652, g_653, g_654, g_655, g_656, g_657, g_658, g_659, g_660, g_661, g_662, g_0_0, g_0_1, g_0_2, g_0_3, g_0_4, g_0_5, g_0_6, g_0_7, g_0_8, g_0_9, g_0_10, g_0_11, g_1_0, g_3_0, g_327_0, g_327_1, g_327_2, g_327_3, g_328_0, g_330_0, g_332_0, g_334_0, g_336_0, g_336_1, g_336_2, g_336_3, g_337_0, g_339_0, g_341_0, g_464_0, g_464_1, g_484_0, g_484_1, g_484_2, g_485_0, g_487_0, g_489_0, g_491_0, g_491_1, g_491_2, g_491_3, g_491_4, g_491_5, g_491_6, g_491_7, g_496_0, g_498_0, g_500_0, g_500_1, g_500_3, g_500_4, g_500_5, g_500_6, g_500_7, g_562_0, g_564_0, g_566_0, g_580_0, g_580_1, g_580_2, g_580_3, g_581_0, g_583_0, g_585_0, g_588_1, g_588_2, g_588_3, g_588_4, g_588_6, g_601_0, g_601_1, g_601_2, g_601_3, g_601_4, g_601_5, g_601_6, g_601_7, g_601_8, g_608_0, g_610_0, g_612_0, g_612_2, g_612_4, g_612_5, g_612_7, g_612_8, g_612_9, g_612_10, g_612_11, g_612_12, g_612_13, g_612_14, g_612_15, g_612_16, g_612_19, g_612_20, g_612_22, g_612_24, g_612_25, g_612_26, g_612_27, g_612_28, g_612_30, g_612_31, g_612_32, g_612_33, g_612_34, g_612_36, g_612_37, g_612_38, g_612_39, g_612_40, g_612_41, g_612_42, g_612_43, g_612_44, g_612_46, g_612_47, g_612_48, g_612_49, g_612_50, g_612_53, g_612_56, g_612_57, g_612_58, g_612_59, g_612_61, g_612_62, g_612_63, g_612_64]
  have x1 : fr + (i - 1) = fr + i - 1 := by omega
  have x2 : 8 * w + (j - 1) = 8 * w + j - 1 := by omega
  have x3 : fr + (i - 2) = fr + i - 2 := by omega
  rw [x1, x2, x3] at main
  refine ⟨fun c => ⟨fun d => ⟨fun e => main _ _ _ (fun h => by omega) (fun h => by omega) (fun h => by omega), fun e => by omega⟩, fun d => ⟨by omega, fun e => main _ _ _ (fun h => by omega) (fun h => rfl) (fun h => by omega), fun e => by omega⟩⟩, fun c => ⟨by omega, fun d => ⟨fun e => main _ _ _ (fun h => rfl) (fun h => by omega) (fun h => by rw [if_pos e]), fun e => ⟨by omega, main _ _ _ (fun h => rfl) (fun h => by omega) (fun h => by rw [if_neg e])⟩⟩, fun d => ⟨by omega, fun e => main _ _ _ (fun h => rfl) (fun h => rfl) (fun h => by rw [if_pos e]), fun e => ⟨by omega, main _ _ _ (fun h => rfl) (fun h => rfl) (fun h => by rw [if_neg e])⟩⟩⟩⟩
