/-! small methods: the class's helpers and the reference's -/
theorem r_1 : kRow 1 16 := ⟨g_1, g_1_0, g_2⟩
theorem r_3 : kRow 3 3 := ⟨g_3, g_3_0, g_4⟩
theorem r_328 : kRow 328 40 := ⟨g_328, g_328_0, g_329⟩
theorem r_330 : kRow 330 40 := ⟨g_330, g_330_0, g_331⟩
theorem r_332 : kRow 332 40 := ⟨g_332, g_332_0, g_333⟩
theorem r_334 : kRow 334 120 := ⟨g_334, g_334_0, g_335⟩
theorem r_337 : kRow 337 60 := ⟨g_337, g_337_0, g_338⟩
theorem r_339 : kRow 339 60 := ⟨g_339, g_339_0, g_340⟩
theorem r_341 : kRow 341 60 := ⟨g_341, g_341_0, g_342⟩
theorem r_485 : kRow 485 60 := ⟨g_485, g_485_0, g_486⟩
theorem r_487 : kRow 487 60 := ⟨g_487, g_487_0, g_488⟩
theorem r_489 : kRow 489 60 := ⟨g_489, g_489_0, g_490⟩
theorem r_496 : kRow 496 4 := ⟨g_496, g_496_0, g_497⟩
theorem r_498 : kRow 498 4 := ⟨g_498, g_498_0, g_499⟩
theorem r_562 : kRow 562 5 := ⟨g_562, g_562_0, g_563⟩
theorem r_564 : kRow 564 5 := ⟨g_564, g_564_0, g_565⟩
theorem r_566 : kRow 566 5 := ⟨g_566, g_566_0, g_567⟩
theorem r_581 : kRow 581 60 := ⟨g_581, g_581_0, g_582⟩
theorem r_583 : kRow 583 60 := ⟨g_583, g_583_0, g_584⟩
theorem r_585 : kRow 585 60 := ⟨g_585, g_585_0, g_586⟩
theorem r_608 : kRow 608 120 := ⟨g_608, g_608_0, g_609⟩
theorem r_610 : kRow 610 120 := ⟨g_610, g_610_0, g_611⟩
set_option maxRecDepth 100000 in
theorem W_within {v a b : Int} {τ : kzM} {Q : Int → kzM → Prop} : Wz (Z11_within kdG0 v a b) τ Q ↔ Q (zp (a ≤ v ∧ v ≤ b)) τ := by
  simp only [Z11_within, Z11_within_14, Z11_within_15, Wz_rt, Wz_cnd, Wz_lI, Wz_lW, Wz_lL, Wz_cl, Wz_cv, Wz_nz, Wz_gI, Wz_gR, Wz_sI, Wz_aI, Wz_aZ, Wz_aL, Wz_aN, Wz_aR, Wz_tI, Wz_tZ, Wz_tL, Option.some.injEq, exists_eq_left', zB_0, zB_1, true_and, and_true, true_implies, not_true_eq_false, false_implies, not_false_eq_true, Classical.not_not]
  by_cases e : v < a
  · rw [zp_neg (by omega)]; simp [e]
  · by_cases e2 : b < v
    · rw [zp_neg (by omega)]; simp [e, e2]
    · rw [zp_pos (by omega)]; simp [e, e2]
set_option maxRecDepth 100000 in
theorem W_in {v a b : Int} {τ : kzM} {Q : Int → kzM → Prop} : Wz (Z12_in kdG0 v a b) τ Q ↔ Q (zp (a ≤ v ∧ v ≤ b)) τ := by
  simp only [Z12_in, Z12_in_17, Z12_in_18, Wz_rt, Wz_cnd, Wz_lI, Wz_lW, Wz_lL, Wz_cl, Wz_cv, Wz_nz, Wz_gI, Wz_gR, Wz_sI, Wz_aI, Wz_aZ, Wz_aL, Wz_aN, Wz_aR, Wz_tI, Wz_tZ, Wz_tL, Option.some.injEq, exists_eq_left', zB_0, zB_1, true_and, and_true, true_implies, not_true_eq_false, false_implies, not_false_eq_true, Classical.not_not]
  by_cases e : v < a
  · rw [zp_neg (by omega)]; simp [e]
  · by_cases e2 : b < v
    · rw [zp_neg (by omega)]; simp [e, e2]
    · rw [zp_pos (by omega)]; simp [e, e2]
theorem ag_z {m : Nat} {τ : kzM} {g : Nat → Int → Int} : Ag m τ (τ.1, g) := fun _ _ _ _ => rfl
theorem ag_w {m : Nat} {τ : kzM} {f : Nat → Int → Int} {g : Nat → Int → Int} (h : Ag m τ (f, g)) {b : Nat} {i v : Int} (hb : md b i = m ∨ md b i = 20) : Ag m τ (v2 f b i v, g) := Ag.v2 (τ' := (f, g)) h hb
theorem ag_wr {m : Nat} {τ : kzM} {f : Nat → Int → Int} {g : Nat → Int → Int} (h : Ag m τ (f, g)) {b : Nat} {q : Int → Int} (hb : ∀ i, md b i = m ∨ md b i = 20) : Ag m τ (rw1 f b q, g) := Ag.rw1 (τ' := (f, g)) h hb
theorem inv_m1 {τ τ' : kzM} (h : Ag 1 τ τ') (q : Inv τ) (k : I1 τ') : Inv τ' := Inv.to h q (fun _ => k) (fun q => absurd q (by decide)) (fun q => absurd q (by decide)) (fun q => absurd q (by decide)) (fun q => absurd q (by decide)) (fun q => absurd q (by decide)) (fun q => absurd q (by decide)) (fun q => absurd q (by decide)) (fun q => absurd q (by decide)) (fun q => absurd q (by decide)) (fun q => absurd q (by decide))
theorem inv_m2 {τ τ' : kzM} (h : Ag 2 τ τ') (q : Inv τ) (k : I2 τ') : Inv τ' := Inv.to h q (fun q => absurd q (by decide)) (fun _ => k) (fun q => absurd q (by decide)) (fun q => absurd q (by decide)) (fun q => absurd q (by decide)) (fun q => absurd q (by decide)) (fun q => absurd q (by decide)) (fun q => absurd q (by decide)) (fun q => absurd q (by decide)) (fun q => absurd q (by decide)) (fun q => absurd q (by decide))
theorem inv_m3 {τ τ' : kzM} (h : Ag 3 τ τ') (q : Inv τ) (k : I3 τ') : Inv τ' := Inv.to h q (fun q => absurd q (by decide)) (fun q => absurd q (by decide)) (fun _ => k) (fun q => absurd q (by decide)) (fun q => absurd q (by decide)) (fun q => absurd q (by decide)) (fun q => absurd q (by decide)) (fun q => absurd q (by decide)) (fun q => absurd q (by decide)) (fun q => absurd q (by decide)) (fun q => absurd q (by decide))
theorem inv_m4 {τ τ' : kzM} (h : Ag 4 τ τ') (q : Inv τ) (k : I4 τ') : Inv τ' := Inv.to h q (fun q => absurd q (by decide)) (fun q => absurd q (by decide)) (fun q => absurd q (by decide)) (fun _ => k) (fun q => absurd q (by decide)) (fun q => absurd q (by decide)) (fun q => absurd q (by decide)) (fun q => absurd q (by decide)) (fun q => absurd q (by decide)) (fun q => absurd q (by decide)) (fun q => absurd q (by decide))
theorem inv_m5 {τ τ' : kzM} (h : Ag 5 τ τ') (q : Inv τ) (k : I5 τ' ∧ τ.1 337 1 ≤ τ'.1 337 1) : Inv τ' := Inv.to h q (fun q => absurd q (by decide)) (fun q => absurd q (by decide)) (fun q => absurd q (by decide)) (fun q => absurd q (by decide)) (fun _ => k) (fun q => absurd q (by decide)) (fun q => absurd q (by decide)) (fun q => absurd q (by decide)) (fun q => absurd q (by decide)) (fun q => absurd q (by decide)) (fun q => absurd q (by decide))
theorem inv_m6 {τ τ' : kzM} (h : Ag 6 τ τ') (q : Inv τ) (k : I6 τ') : Inv τ' := Inv.to h q (fun q => absurd q (by decide)) (fun q => absurd q (by decide)) (fun q => absurd q (by decide)) (fun q => absurd q (by decide)) (fun q => absurd q (by decide)) (fun _ => k) (fun q => absurd q (by decide)) (fun q => absurd q (by decide)) (fun q => absurd q (by decide)) (fun q => absurd q (by decide)) (fun q => absurd q (by decide))
theorem inv_m7 {τ τ' : kzM} (h : Ag 7 τ τ') (q : Inv τ) (k : I7p τ' (τ.1 337 1)) : Inv τ' := Inv.to h q (fun q => absurd q (by decide)) (fun q => absurd q (by decide)) (fun q => absurd q (by decide)) (fun q => absurd q (by decide)) (fun q => absurd q (by decide)) (fun q => absurd q (by decide)) (fun _ => k) (fun q => absurd q (by decide)) (fun q => absurd q (by decide)) (fun q => absurd q (by decide)) (fun q => absurd q (by decide))
theorem inv_m10 {τ τ' : kzM} (h : Ag 10 τ τ') (q : Inv τ) (k : I7b τ' (τ.1 337 1)) : Inv τ' := Inv.to h q (fun q => absurd q (by decide)) (fun q => absurd q (by decide)) (fun q => absurd q (by decide)) (fun q => absurd q (by decide)) (fun q => absurd q (by decide)) (fun q => absurd q (by decide)) (fun q => absurd q (by decide)) (fun _ => k) (fun q => absurd q (by decide)) (fun q => absurd q (by decide)) (fun q => absurd q (by decide))
theorem inv_m8 {τ τ' : kzM} (h : Ag 8 τ τ') (q : Inv τ) (k : I8l τ') : Inv τ' := Inv.to h q (fun q => absurd q (by decide)) (fun q => absurd q (by decide)) (fun q => absurd q (by decide)) (fun q => absurd q (by decide)) (fun q => absurd q (by decide)) (fun q => absurd q (by decide)) (fun q => absurd q (by decide)) (fun q => absurd q (by decide)) (fun _ => k) (fun q => absurd q (by decide)) (fun q => absurd q (by decide))
theorem inv_m11 {τ τ' : kzM} (h : Ag 11 τ τ') (q : Inv τ) (k : I8b τ') : Inv τ' := Inv.to h q (fun q => absurd q (by decide)) (fun q => absurd q (by decide)) (fun q => absurd q (by decide)) (fun q => absurd q (by decide)) (fun q => absurd q (by decide)) (fun q => absurd q (by decide)) (fun q => absurd q (by decide)) (fun q => absurd q (by decide)) (fun q => absurd q (by decide)) (fun _ => k) (fun q => absurd q (by decide))
theorem inv_m9 {τ τ' : kzM} (h : Ag 9 τ τ') (q : Inv τ) (k : I9 τ') : Inv τ' := Inv.to h q (fun q => absurd q (by decide)) (fun q => absurd q (by decide)) (fun q => absurd q (by decide)) (fun q => absurd q (by decide)) (fun q => absurd q (by decide)) (fun q => absurd q (by decide)) (fun q => absurd q (by decide)) (fun q => absurd q (by decide)) (fun q => absurd q (by decide)) (fun q => absurd q (by decide)) (fun _ => k)
set_option maxRecDepth 100000 in
theorem m_key (k : Int) (_ : kzI k) : MOK (Z11_key kdG0 0 k) (Z12_key kdG0 612 k) := by
  intro τ hI
  have i1 := hI.1
  unfold I1 at i1
  obtain ⟨⟨a1, a2⟩, a3, a4⟩ := i1
  simp only [Z11_key, Z11_isKey, W_within, Z12_key, Z12_isKey, W_in, Wz_rt, Wz_cnd, Wz_lI, Wz_lW, Wz_lL, Wz_cl, Wz_cv, Wz_nz, Wz_gI, Wz_gR, Wz_sI, Wz_aI, Wz_aZ, Wz_aL, Wz_aN, Wz_aR, Wz_tI, Wz_tZ, Wz_tL, Option.some.injEq, exists_eq_left', zB_0, zB_1, true_and, and_true, true_implies, not_true_eq_false, false_implies, not_false_eq_true, Classical.not_not, g_0, g_1, g_2, g_3, g_4, g_5, g_327, g_328, g_329, g_330, g_331, g_332, g_333, g_334, g_335, g_336, g_337, g_338, g_339, g_340, g_341, g_342, g_343, g_464, g_465, g_466, g_484, g_485, g_486, g_487, g_488, g_489, g_490, g_491, g_492, g_493, g_494, g_495, g_496, g_497, g_498, g_499, g_500, g_501, g_562, g_563, g_564, g_565, g_566, g_567, g_568, g_574, g_580, g_581, g_582, g_583, g_584, g_585, g_586, g_587, g_588, g_589, g_590, g_591, g_592, g_600, g_601, g_602, g_603, g_604, g_605, g_606, g_607, g_608, g_609, g_610, g_611, g_612, g_613, g_614, g_615, g_616, g_617, g_618, g_619, g_620, g_621, g_622, g_623, g_624, g_625, g_626, g_627, g_628, g_629, g_630, g_631, g_632, g_633, g_634, g_635, g_636, g_637, g_638, g_639, g_640, g_641, g_642, g_643, g_644, g_645, g_646, g_647, g_648, g_649, g_650, g_651, g_652, g_653, g_654, g_655, g_656, g_657, g_658, g_659, g_660, g_661, g_662, g_0_0, g_0_1, g_0_2, g_0_3, g_0_4, g_0_5, g_0_6, g_0_7, g_0_8, g_0_9, g_0_10, g_0_11, g_1_0, g_3_0, g_327_0, g_327_1, g_327_2, g_327_3, g_328_0, g_330_0, g_332_0, g_334_0, g_336_0, g_336_1, g_336_2, g_336_3, g_337_0, g_339_0, g_341_0, g_464_0, g_464_1, g_484_0, g_484_1, g_484_2, g_485_0, g_487_0, g_489_0, g_491_0, g_491_1, g_491_2, g_491_3, g_491_4, g_491_5, g_491_6, g_491_7, g_496_0, g_498_0, g_500_0, g_500_1, g_500_3, g_500_4, g_500_5, g_500_6, g_500_7, g_562_0, g_564_0, g_566_0, g_580_0, g_580_1, g_580_2, g_580_3, g_581_0, g_583_0, g_585_0, g_588_1, g_588_2, g_588_3, g_588_4, g_588_6, g_601_0, g_601_1, g_601_2, g_601_3, g_601_4, g_601_5, g_601_6, g_601_7, g_601_8, g_608_0, g_610_0, g_612_0, g_612_2, g_612_4, g_612_5, g_612_7, g_612_8, g_612_9, g_612_10, g_612_11, g_612_12, g_612_13, g_612_14, g_612_15, g_612_16, g_612_19, g_612_20, g_612_22, g_612_24, g_612_25, g_612_26, g_612_27, g_612_28, g_612_30, g_612_31, g_612_32, g_612_33, g_612_34, g_612_36, g_612_37, g_612_38, g_612_39, g_612_40, g_612_41, g_612_42, g_612_43, g_612_44, g_612_46, g_612_47, g_612_48, g_612_49, g_612_50, g_612_53, g_612_56, g_612_57, g_612_58, g_612_59, g_612_61, g_612_62, g_612_63, g_612_64, W_size r_1, W_isEmpty r_1, W_isFull r_1, W_has r_1, W_clear r_1, W_size r_3, W_isEmpty r_3, W_isFull r_3, W_has r_3, W_clear r_3, W_size r_328, W_isEmpty r_328, W_isFull r_328, W_has r_328, W_clear r_328, W_size r_330, W_isEmpty r_330, W_isFull r_330, W_has r_330, W_clear r_330, W_size r_332, W_isEmpty r_332, W_isFull r_332, W_has r_332, W_clear r_332, W_size r_334, W_isEmpty r_334, W_isFull r_334, W_has r_334, W_clear r_334, W_size r_337, W_isEmpty r_337, W_isFull r_337, W_has r_337, W_clear r_337, W_size r_339, W_isEmpty r_339, W_isFull r_339, W_has r_339, W_clear r_339, W_size r_341, W_isEmpty r_341, W_isFull r_341, W_has r_341, W_clear r_341, W_size r_485, W_isEmpty r_485, W_isFull r_485, W_has r_485, W_clear r_485, W_size r_487, W_isEmpty r_487, W_isFull r_487, W_has r_487, W_clear r_487, W_size r_489, W_isEmpty r_489, W_isFull r_489, W_has r_489, W_clear r_489, W_size r_496, W_isEmpty r_496, W_isFull r_496, W_has r_496, W_clear r_496, W_size r_498, W_isEmpty r_498, W_isFull r_498, W_has r_498, W_clear r_498, W_size r_562, W_isEmpty r_562, W_isFull r_562, W_has r_562, W_clear r_562, W_size r_564, W_isEmpty r_564, W_isFull r_564, W_has r_564, W_clear r_564, W_size r_566, W_isEmpty r_566, W_isFull r_566, W_has r_566, W_clear r_566, W_size r_581, W_isEmpty r_581, W_isFull r_581, W_has r_581, W_clear r_581, W_size r_583, W_isEmpty r_583, W_isFull r_583, W_has r_583, W_clear r_583, W_size r_585, W_isEmpty r_585, W_isFull r_585, W_has r_585, W_clear r_585, W_size r_608, W_isEmpty r_608, W_isFull r_608, W_has r_608, W_clear r_608, W_size r_610, W_isEmpty r_610, W_isFull r_610, W_has r_610, W_clear r_610, zp_0, zB_zp]
  refine ⟨fun c => ?_, fun c => ⟨fun f => ?_, fun f => ?_⟩⟩
  · (repeat' (first | with_reducible (refine And.intro ?_ ?_) | intro _)) <;> first | exact hI | omega
  · refine W_add r_1 (by omega) (by omega) (by omega) ?_
    simp only [addF, v2, rw1, Nat.reduceEqDiff, Nat.reduceAdd, Int.reduceEq, Int.reduceNeg, reduceIte, false_and, and_false, true_and, and_true, and_self]
    (repeat' (first | with_reducible (refine And.intro ?_ ?_) | intro _)) <;> first | omega | skip
    refine inv_m1 (by repeat (first | exact ag_z | refine ag_w ?_ (by first | exact Or.inl rfl | exact Or.inr rfl | exact Or.inl (md_3 (by omega)) | exact Or.inl (md_5 (by omega)) | exact Or.inl (md_10 (by omega)) | exact Or.inl (md_9 (by omega)) | exact Or.inr (md_20 (by omega)) | exact Or.inl (md_20 (by omega))) | refine ag_wr ?_ (by intro _; first | exact Or.inl rfl | exact Or.inr rfl | exact Or.inl (md_3 (by omega)) | exact Or.inl (md_5 (by omega)) | exact Or.inl (md_10 (by omega)) | exact Or.inl (md_9 (by omega)) | exact Or.inr (md_20 (by omega)) | exact Or.inl (md_20 (by omega))))) hI ?_
    unfold I1
    simp only [addF, v2, rw1, Nat.reduceEqDiff, Nat.reduceAdd, Int.reduceEq, Int.reduceNeg, reduceIte, false_and, and_false, true_and, and_true, and_self]
    grind
  · (repeat' (first | with_reducible (refine And.intro ?_ ?_) | intro _)) <;> first | exact hI | omega
