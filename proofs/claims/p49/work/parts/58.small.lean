theorem r_1 : kRow 1 16 := ⟨g_1, g_1_0, g_2⟩
theorem r_337 : kRow 337 60 := ⟨g_337, g_337_0, g_338⟩
theorem r_339 : kRow 339 60 := ⟨g_339, g_339_0, g_340⟩
theorem r_341 : kRow 341 60 := ⟨g_341, g_341_0, g_342⟩
theorem r_485 : kRow 485 60 := ⟨g_485, g_485_0, g_486⟩
theorem r_487 : kRow 487 60 := ⟨g_487, g_487_0, g_488⟩
theorem r_489 : kRow 489 60 := ⟨g_489, g_489_0, g_490⟩
theorem r_581 : kRow 581 60 := ⟨g_581, g_581_0, g_582⟩
theorem r_583 : kRow 583 60 := ⟨g_583, g_583_0, g_584⟩
theorem r_585 : kRow 585 60 := ⟨g_585, g_585_0, g_586⟩
set_option maxRecDepth 100000 in
theorem W_within {v a b : Int} {τ : kzM} {Q : Int → kzM → Prop} : Wz (Z11_within kdG0 v a b) τ Q ↔ Q (zp (a ≤ v ∧ v ≤ b)) τ := by
  simp only [Z11_within, Z11_within_14, Z11_within_15, Wz_rt, Wz_cnd, Wz_lI, Wz_lW, Wz_lL, Wz_cl, Wz_cv, Wz_nz, Wz_gI, Wz_gR, Wz_sI, Wz_aI, Wz_aZ, Wz_aL, Wz_aN, Wz_aR, Wz_tI, Wz_tZ, Wz_tL, Option.some.injEq, exists_eq_left', zB_0, zB_1, true_and, and_true, true_implies, not_true_eq_false, false_implies, not_false_eq_true, Classical.not_not]
  by_cases e : v < a
  · rw [zp_neg (by omega)]; simp [e]
  · by_cases e2 : b < v
    · rw [zp_neg (by omega)]; simp [e, e2]
    · rw [zp_pos (by omega)]; simp [e, e2]
