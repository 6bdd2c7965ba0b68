/-! missing: the reference's loops, and both -/
set_option maxRecDepth 100000 in
theorem W12_fm_102 {T : Nat} {t r : Int} {τ : kzM} {s : Int → Int} {k94 : Nat → Int → Int → kzM → Option (Unit × kzM)} (t0 : 0 ≤ t) (t3 : t < 3) (hb : b01 s) (h : I3j τ T t) (hr : 0 ≤ r ∧ r < 12) (Q : Unit → kzM → Prop) (hQ : ∀ g, eq61 g (psF (jnA τ t) (jnB τ t) (jnC τ t) s (τ.1 (T + 7) 1).toNat) → Wz (k94 612 t (r + 1)) (rw1 τ.1 625 g, τ.2) Q) : ∀ (n : Nat) (j : Int) (g : Int → Int), 0 ≤ j → j ≤ τ.1 (T + 7) 1 → τ.1 (T + 7) 1 - j < (n : Int) → eq61 g (psF (jnA τ t) (jnB τ t) (jnC τ t) s j.toNat) → Wz (lp (fun _ _ _ _ _ => none) (Z12_findMade_102B kdG0 k94) n 612 t r j) (rw1 τ.1 625 g, τ.2) Q := by
  unfold I3j at h
  obtain ⟨h1, h2, h3, h4, h5⟩ := h
  intro n
  induction n with
  | zero => intro j; intros; omega
  | succ n ih =>
    intro j g j0 j1 j2 hg
    have q := ih (j + 1)
    rw [show (j + 1).toNat = j.toNat + 1 by omega] at q
    have ej : ((j.toNat : Nat) : Int) = j := Int.toNat_of_nonneg j0
    have f : ∀ b x, b ≠ 625 → rw1 τ.1 625 g b x = τ.1 b x := fun b x hb => by rw [rw1_eq, if_neg hb]
    have fg : ∀ x, rw1 τ.1 625 g 625 x = g x := fun x => by rw [rw1_eq, if_pos rfl]
    have es : psF (jnA τ t) (jnB τ t) (jnC τ t) s (j.toNat + 1) = if psF (jnA τ t) (jnB τ t) (jnC τ t) s j.toNat (jnA τ t j) ≠ 0 ∧ psF (jnA τ t) (jnB τ t) (jnC τ t) s j.toNat (jnB τ t j) ≠ 0 then setF (psF (jnA τ t) (jnB τ t) (jnC τ t) s j.toNat) (jnC τ t j) else psF (jnA τ t) (jnB τ t) (jnC τ t) s j.toNat := by
      show (if psF (jnA τ t) (jnB τ t) (jnC τ t) s j.toNat (jnA τ t ((j.toNat : Nat) : Int)) ≠ 0 ∧ psF (jnA τ t) (jnB τ t) (jnC τ t) s j.toNat (jnB τ t ((j.toNat : Nat) : Int)) ≠ 0 then setF (psF (jnA τ t) (jnB τ t) (jnC τ t) s j.toNat) (jnC τ t ((j.toNat : Nat) : Int)) else psF (jnA τ t) (jnB τ t) (jnC τ t) s j.toNat) = _
      rw [ej]
    have b1 := psF_b (fa := jnA τ t) (fb := jnB τ t) (fc := jnC τ t) hb j.toNat
    generalize hS : psF (jnA τ t) (jnB τ t) (jnC τ t) s j.toNat = S at es hg b1
    rw [lp_succ]
    unfold Z12_findMade_102B
    simp only [Z12_findMade_184, Z12_findMade_188, Z12_findMade_189, Wz_rt, Wz_cnd, Wz_lI, Wz_lW, Wz_lL, Wz_cl, Wz_cv, Wz_nz, Wz_gI, Wz_gR, Wz_sI, Wz_aI, Wz_aZ, Wz_aL, Wz_aN, Wz_aR, Wz_tI, Wz_tZ, Wz_tL, Option.some.injEq, exists_eq_left', zB_0, zB_1, true_and, and_true, true_implies, not_true_eq_false, false_implies, not_false_eq_true, Classical.not_not, g_0, g_1, g_2, g_3, g_4, g_5, g_327, g_328, g_329, g_330, g_331, g_332, g_333, g_334, g_335, g_336, g_337, g_338, g_339, g_340, g_341, g_342, g_343, g_464, g_465, g_466, g_484, g_485, g_486, g_487, g_488, g_489, g_490, g_491, g_492, g_493, g_494, g_495, g_496, g_497, g_498, g_499, g_500, g_501, g_562, g_563, g_564, g_565, g_566, g_567, g_568, g_574, g_580, g_581, g_582, g_583, g_584, g_585, g_586, g_587, g_588, g_589, g_590, g_591, g_592, g_600, g_601, g_602, g_603, g_604, g_605, g_606, g_607, g_608, g_609, g_610, g_611, g_612, g_613, g_614, g_615, g_616, g_617, g_618, g_619, g_620, g_621, g_622, g_623, g_624, g_625, g_626, g_627, g_628, g_629, g_630, g_631, g_632, g_633, g_634, g_635, g_636, g_637, g_638, g_639, g_640, g_641, g_642, g_643, g_644, g_645, g_646, g_647, g_648, g_649, g_650, g_651, g_652, g_653, g_654, g_655, g_656, g_657, g_658, g_659, g_660, g_661, g_662, g_0_0, g_0_1, g_0_2, g_0_3, g_0_4, g_0_5, g_0_6, g_0_7, g_0_8, g_0_9, g_0_10, g_0_11, g_1_0, g_3_0, g_327_0, g_327_1, g_327_2, g_327_3, g_328_0, g_330_0, g_332_0, g_334_0, g_336_0, g_336_1, g_336_2, g_336_3, g_337_0, g_339_0, g_341_0, g_464_0, g_464_1, g_484_0, g_484_1, g_484_2, g_485_0, g_487_0, g_489_0, g_491_0, g_491_1, g_491_2, g_491_3, g_491_4, g_491_5, g_491_6, g_491_7, g_496_0, g_498_0, g_500_0, g_500_1, g_500_3, g_500_4, g_500_5, g_500_6, g_500_7, g_562_0, g_564_0, g_566_0, g_580_0, g_580_1, g_580_2, g_580_3, g_581_0, g_583_0, g_585_0, g_588_1, g_588_2, g_588_3, g_588_4, g_588_6, g_601_0, g_601_1, g_601_2, g_601_3, g_601_4, g_601_5, g_601_6, g_601_7, g_601_8, g_608_0, g_610_0, g_612_0, g_612_2, g_612_4, g_612_5, g_612_7, g_612_8, g_612_9, g_612_10, g_612_11, g_612_12, g_612_13, g_612_14, g_612_15, g_612_16, g_612_19, g_612_20, g_612_22, g_612_24, g_612_25, g_612_26, g_612_27, g_612_28, g_612_30, g_612_31, g_612_32, g_612_33, g_612_34, g_612_36, g_612_37, g_612_38, g_612_39, g_612_40, g_612_41, g_612_42, g_612_43, g_612_44, g_612_46, g_612_47, g_612_48, g_612_49, g_612_50, g_612_53, g_612_56, g_612_57, g_612_58, g_612_59, g_612_61, g_612_62, g_612_63, g_612_64, f 623 _ (by decide), f 622 _ (by decide), fg, h4, v2_rw1]
    refine ⟨by omega, fun e => ⟨by omega, hQ g (by rw [show τ.1 (T + 7) 1 = j by omega, hS]; exact hg)⟩, fun e => ?_⟩
    obtain ⟨⟨ea, ea2⟩, ⟨eb, eb2⟩, ⟨ec, ec2⟩⟩ := h5 j j0 (by omega)
    have sa : g (τ.1 622 (3 * (12 * t + j))) = S (jnA τ t j) := hg _ (by omega) (by omega)
    have sb : g (τ.1 622 (3 * (12 * t + j) + 1)) = S (jnB τ t j) := hg _ (by omega) (by omega)
    have sc : g (τ.1 622 (3 * (12 * t + j) + 2)) = S (jnC τ t j) := hg _ (by omega) (by omega)
    have mono : S (jnC τ t j) ≠ 0 → setF S (jnC τ t j) = S := fun w => funext fun y => by
      unfold setF; split
      · rename_i z; rw [z]; exact ((b1 _).resolve_left w).symm
      · rfl
    refine ⟨by omega, by omega, by omega, by omega, fun z => ⟨by omega, by omega, fun y => ⟨by omega, by omega, q _ (by omega) (by omega) (by omega) ?_⟩, fun y => ⟨by omega, by omega, fun x => ⟨by omega, by omega, q _ (by omega) (by omega) (by omega) ?_⟩, fun x => ⟨by omega, by omega, q _ (by omega) (by omega) (by omega) ?_⟩⟩⟩, fun z => ⟨by omega, by omega, q _ (by omega) (by omega) (by omega) ?_⟩⟩
    · rw [es, if_neg (fun w => w.1 (by rw [← sa]; exact y))]
      intro x x0 x1
      dsimp only
      split
      · rename_i w; rw [← hg x x0 x1, w]; exact z.symm
      · exact hg x x0 x1
    · rw [es, if_neg (fun w => w.2 (by rw [← sb]; exact x))]
      intro x x0 x1
      dsimp only
      split
      · rename_i w; rw [← hg x x0 x1, w]; exact z.symm
      · exact hg x x0 x1
    · rw [es, if_pos ⟨by rw [← sa]; exact y, by rw [← sb]; exact x⟩]
      exact eq61_set hg _
    · have e1 := eq61_set hg (jnC τ t j)
      rw [mono (by rw [← sc]; exact z)] at e1
      rw [es]
      split
      · rw [mono (by rw [← sc]; exact z)]; exact e1
      · exact e1
set_option maxRecDepth 100000 in
theorem W12_fm_94 {T : Nat} {t : Int} {τ : kzM} {s : Int → Int} (t0 : 0 ≤ t) (t3 : t < 3) (hb : b01 s) (h : I3j τ T t) (Q : Unit → kzM → Prop) (hQ : ∀ g, eq61 g (itF (jnA τ t) (jnB τ t) (jnC τ t) (τ.1 (T + 7) 1).toNat s 12) → Q () (rw1 τ.1 625 g, τ.2)) : ∀ (n : Nat) (j : Int) (g : Int → Int), 0 ≤ j → j ≤ 12 → 12 - j < (n : Int) → eq61 g (itF (jnA τ t) (jnB τ t) (jnC τ t) (τ.1 (T + 7) 1).toNat s j.toNat) → Wz (lp (fun _ _ _ _ => none) (Z12_findMade_94B kdG0) n 612 t j) (rw1 τ.1 625 g, τ.2) Q := by
  have h' := h
  unfold I3j at h'
  intro n
  induction n with
  | zero => intro j; intros; omega
  | succ n ih =>
    intro j g j0 j1 j2 hg
    have q := ih (j + 1)
    rw [show (j + 1).toNat = j.toNat + 1 by omega] at q
    rw [lp_succ]
    unfold Z12_findMade_94B
    simp only [Wz_rt, Wz_cnd, Wz_lI, Wz_lW, Wz_lL, Wz_cl, Wz_cv, Wz_nz, Wz_gI, Wz_gR, Wz_sI, Wz_aI, Wz_aZ, Wz_aL, Wz_aN, Wz_aR, Wz_tI, Wz_tZ, Wz_tL, Option.some.injEq, exists_eq_left', zB_0, zB_1, true_and, and_true, true_implies, not_true_eq_false, false_implies, not_false_eq_true, Classical.not_not, g_0, g_1, g_2, g_3, g_4, g_5, g_327, g_328, g_329, g_330, g_331, g_332, g_333, g_334, g_335, g_336, g_337, g_338, g_339, g_340, g_341, g_342, g_343, g_464, g_465, g_466, g_484, g_485, g_486, g_487, g_488, g_489, g_490, g_491, g_492, g_493, g_494, g_495, g_496, g_497, g_498, g_499, g_500, g_501, g_562, g_563, g_564, g_565, g_566, g_567, g_568, g_574, g_580, g_581, g_582, g_583, g_584, g_585, g_586, g_587, g_588, g_589, g_590, g_591, g_592, g_600, g_601, g_602, g_603, g_604, g_605, g_606, g_607, g_608, g_609, g_610, g_611, g_612, g_613, g_614, g_615, g_616, g_617, g_618, g_619, g_620, g_621, g_622, g_623, g_624, g_625, g_626, g_627, g_628, g_629, g_630, g_631, g_632, g_633, g_634, g_635, g_636, g_637, g_638, g_639, g_640, g_641, g_642, g_643, g_644, g_645, g_646, g_647, g_648, g_649, g_650, g_651, g_652, g_653, g_654, g_655, g_656, g_657, g_658, g_659, g_660, g_661, g_662, g_0_0, g_0_1, g_0_2, g_0_3, g_0_4, g_0_5, g_0_6, g_0_7, g_0_8, g_0_9, g_0_10, g_0_11, g_1_0, g_3_0, g_327_0, g_327_1, g_327_2, g_327_3, g_328_0, g_330_0, g_332_0, g_334_0, g_336_0, g_336_1, g_336_2, g_336_3, g_337_0, g_339_0, g_341_0, g_464_0, g_464_1, g_484_0, g_484_1, g_484_2, g_485_0, g_487_0, g_489_0, g_491_0, g_491_1, g_491_2, g_491_3, g_491_4, g_491_5, g_491_6, g_491_7, g_496_0, g_498_0, g_500_0, g_500_1, g_500_3, g_500_4, g_500_5, g_500_6, g_500_7, g_562_0, g_564_0, g_566_0, g_580_0, g_580_1, g_580_2, g_580_3, g_581_0, g_583_0, g_585_0, g_588_1, g_588_2, g_588_3, g_588_4, g_588_6, g_601_0, g_601_1, g_601_2, g_601_3, g_601_4, g_601_5, g_601_6, g_601_7, g_601_8, g_608_0, g_610_0, g_612_0, g_612_2, g_612_4, g_612_5, g_612_7, g_612_8, g_612_9, g_612_10, g_612_11, g_612_12, g_612_13, g_612_14, g_612_15, g_612_16, g_612_19, g_612_20, g_612_22, g_612_24, g_612_25, g_612_26, g_612_27, g_612_28, g_612_30, g_612_31, g_612_32, g_612_33, g_612_34, g_612_36, g_612_37, g_612_38, g_612_39, g_612_40, g_612_41, g_612_42, g_612_43, g_612_44, g_612_46, g_612_47, g_612_48, g_612_49, g_612_50, g_612_53, g_612_56, g_612_57, g_612_58, g_612_59, g_612_61, g_612_62, g_612_63, g_612_64]
    refine ⟨fun e => ?_, fun e => ?_⟩
    · refine hQ g ?_
      rw [show j = 12 by omega] at hg; exact hg
    · unfold Z12_findMade_102
      refine W12_fm_102 (s := itF (jnA τ t) (jnB τ t) (jnC τ t) (τ.1 (T + 7) 1).toNat s j.toNat) t0 t3 (itF_b hb _) h ⟨j0, by omega⟩ Q ?_ NN 0 g (by omega) (by omega) (by unfold NN; omega) hg
      intro g' hg'
      exact q g' (by omega) (by omega) (by omega) hg'
set_option maxRecDepth 100000 in
theorem W12_fm_43 {T : Nat} {t r : Int} {τ : kzM} {s : Int → Int} {k23 : Nat → Int → Int → kzM → Option (Unit × kzM)} (t0 : 0 ≤ t) (t3 : t < 3) (h : I3r τ T t) (r0 : 0 ≤ r) (r1 : r < τ.1 T 2) (hT : T ≤ 220) (Q : Unit → kzM → Prop) (hQ : ∀ g, (¬isIdleP τ t r → eq61 g (mkL (letF τ t r) s (letN τ t r).toNat)) → (isIdleP τ t r → eq61 g s) → Wz (k23 612 t (r + 1)) (rw1 τ.1 625 g, τ.2) Q) : ∀ (n : Nat) (j : Int) (g : Int → Int), 0 ≤ j → j ≤ letN τ t r → letN τ t r - j < (n : Int) → (¬isIdleP τ t r → eq61 g (mkL (letF τ t r) s j.toNat)) → (isIdleP τ t r → eq61 g s) → Wz (lp (fun _ _ _ _ _ _ => none) (Z12_findMade_43B kdG0 k23) n 612 t r (24 * t + r) j) (rw1 τ.1 625 g, τ.2) Q := by
  have h' := h
  unfold I3r at h'
  obtain ⟨⟨h1, h2⟩, h3, h4⟩ := h'
  have e1 := (h4 r r0 r1).2
  unfold eqR at e1
  obtain ⟨e1, e2, e3⟩ := e1
  intro n
  induction n with
  | zero => intro j; intros; omega
  | succ n ih =>
    intro j g j0 j1 j2 hg hg2
    have q := ih (j + 1)
    rw [show (j + 1).toNat = j.toNat + 1 by omega] at q
    have ej : ((j.toNat : Nat) : Int) = j := Int.toNat_of_nonneg j0
    have eN : letN τ t r = τ.1 (T + 13 + 4 * r.toNat) 1 := e2
    have f : ∀ b x, b ≠ 625 → rw1 τ.1 625 g b x = τ.1 b x := fun b x hb => by rw [rw1_eq, if_neg hb]
    have hs : I3r (rw1 τ.1 625 g, τ.2) T t := h.cg (f T 2 (by omega)) (fun a j _ _ => f a j (by omega)) (f 621 t (by omega)) (fun r _ _ => ⟨f 618 _ (by omega), f 620 _ (by omega)⟩) (fun x _ _ => f 617 x (by omega)) (fun x _ _ => f 619 x (by omega))
    have hid : isIdleP (rw1 τ.1 625 g, τ.2) t r ↔ isIdleP τ t r := isIdleP_cg (fun x => f 617 x (by omega)) (fun x => f 618 x (by omega))
    have n620 : τ.1 620 (24 * t + r) = letN τ t r := rfl
    rw [lp_succ]
    unfold Z12_findMade_43B
    simp only [Z12_findMade_86, Wz_rt, Wz_cnd, Wz_lI, Wz_lW, Wz_lL, Wz_cl, Wz_cv, Wz_nz, Wz_gI, Wz_gR, Wz_sI, Wz_aI, Wz_aZ, Wz_aL, Wz_aN, Wz_aR, Wz_tI, Wz_tZ, Wz_tL, Option.some.injEq, exists_eq_left', zB_0, zB_1, true_and, and_true, true_implies, not_true_eq_false, false_implies, not_false_eq_true, Classical.not_not, g_0, g_1, g_2, g_3, g_4, g_5, g_327, g_328, g_329, g_330, g_331, g_332, g_333, g_334, g_335, g_336, g_337, g_338, g_339, g_340, g_341, g_342, g_343, g_464, g_465, g_466, g_484, g_485, g_486, g_487, g_488, g_489, g_490, g_491, g_492, g_493, g_494, g_495, g_496, g_497, g_498, g_499, g_500, g_501, g_562, g_563, g_564, g_565, g_566, g_567, g_568, g_574, g_580, g_581, g_582, g_583, g_584, g_585, g_586, g_587, g_588, g_589, g_590, g_591, g_592, g_600, g_601, g_602, g_603, g_604, g_605, g_606, g_607, g_608, g_609, g_610, g_611, g_612, g_613, g_614, g_615, g_616, g_617, g_618, g_619, g_620, g_621, g_622, g_623, g_624, g_625, g_626, g_627, g_628, g_629, g_630, g_631, g_632, g_633, g_634, g_635, g_636, g_637, g_638, g_639, g_640, g_641, g_642, g_643, g_644, g_645, g_646, g_647, g_648, g_649, g_650, g_651, g_652, g_653, g_654, g_655, g_656, g_657, g_658, g_659, g_660, g_661, g_662, g_0_0, g_0_1, g_0_2, g_0_3, g_0_4, g_0_5, g_0_6, g_0_7, g_0_8, g_0_9, g_0_10, g_0_11, g_1_0, g_3_0, g_327_0, g_327_1, g_327_2, g_327_3, g_328_0, g_330_0, g_332_0, g_334_0, g_336_0, g_336_1, g_336_2, g_336_3, g_337_0, g_339_0, g_341_0, g_464_0, g_464_1, g_484_0, g_484_1, g_484_2, g_485_0, g_487_0, g_489_0, g_491_0, g_491_1, g_491_2, g_491_3, g_491_4, g_491_5, g_491_6, g_491_7, g_496_0, g_498_0, g_500_0, g_500_1, g_500_3, g_500_4, g_500_5, g_500_6, g_500_7, g_562_0, g_564_0, g_566_0, g_580_0, g_580_1, g_580_2, g_580_3, g_581_0, g_583_0, g_585_0, g_588_1, g_588_2, g_588_3, g_588_4, g_588_6, g_601_0, g_601_1, g_601_2, g_601_3, g_601_4, g_601_5, g_601_6, g_601_7, g_601_8, g_608_0, g_610_0, g_612_0, g_612_2, g_612_4, g_612_5, g_612_7, g_612_8, g_612_9, g_612_10, g_612_11, g_612_12, g_612_13, g_612_14, g_612_15, g_612_16, g_612_19, g_612_20, g_612_22, g_612_24, g_612_25, g_612_26, g_612_27, g_612_28, g_612_30, g_612_31, g_612_32, g_612_33, g_612_34, g_612_36, g_612_37, g_612_38, g_612_39, g_612_40, g_612_41, g_612_42, g_612_43, g_612_44, g_612_46, g_612_47, g_612_48, g_612_49, g_612_50, g_612_53, g_612_56, g_612_57, g_612_58, g_612_59, g_612_61, g_612_62, g_612_63, g_612_64, f 620 _ (by decide), n620]
    refine ⟨by omega, fun e => ⟨by omega, hQ g (fun w => by rw [show letN τ t r = j by omega]; exact hg w) hg2⟩, fun e => W12_isIdle t0 t3 hs r0 (by dsimp only; rw [f _ _ (by omega)]; exact r1) ?_⟩
    rw [zp_iff hid, zp_0]
    refine ⟨fun z => ?_, fun z => ⟨by omega, hQ g (fun w => absurd w z) hg2⟩⟩
    have e4 := e3 j j0 (by omega)
    simp only [f 619 _ (by decide), v2_rw1, zB_1]
    refine ⟨by omega, by omega, by omega, q _ (by omega) (by omega) (by omega) (fun w => ?_) (fun w => absurd w z)⟩
    have es : mkL (letF τ t r) s (j.toNat + 1) = setF (mkL (letF τ t r) s j.toNat) (τ.1 619 (3 * (24 * t + r) + j)) := by
      show setF _ (letF τ t r ((j.toNat : Nat) : Int)) = _
      rw [ej]; rfl
    rw [es]; exact eq61_set (hg w) _
set_option maxRecDepth 100000 in
theorem W12_fm_23 {T : Nat} {t : Int} {τ : kzM} (t0 : 0 ≤ t) (t3 : t < 3) (h : I3r τ T t) (hj : I3j τ T t) (hT : T ≤ 220) (Q : Unit → kzM → Prop) (hQ : ∀ g, eq61 g (itF (jnA τ t) (jnB τ t) (jnC τ t) (τ.1 (T + 7) 1).toNat (mad0 τ t (τ.1 T 2).toNat) 12) → Q () (rw1 τ.1 625 g, τ.2)) : ∀ (n : Nat) (j : Int) (g : Int → Int), 0 ≤ j → j ≤ τ.1 T 2 → τ.1 T 2 - j < (n : Int) → eq61 g (mad0 τ t j.toNat) → Wz (lp (fun _ _ _ _ => none) (Z12_findMade_23B kdG0) n 612 t j) (rw1 τ.1 625 g, τ.2) Q := by
  have h' := h
  unfold I3r at h'
  obtain ⟨⟨h1, h2⟩, h3, h4⟩ := h'
  intro n
  induction n with
  | zero => intro j; intros; omega
  | succ n ih =>
    intro j g j0 j1 j2 hg
    have q := ih (j + 1)
    rw [show (j + 1).toNat = j.toNat + 1 by omega] at q
    have ej : ((j.toNat : Nat) : Int) = j := Int.toNat_of_nonneg j0
    have f : ∀ b x, b ≠ 625 → rw1 τ.1 625 g b x = τ.1 b x := fun b x hb => by rw [rw1_eq, if_neg hb]
    rw [lp_succ]
    unfold Z12_findMade_23B
    simp only [Wz_rt, Wz_cnd, Wz_lI, Wz_lW, Wz_lL, Wz_cl, Wz_cv, Wz_nz, Wz_gI, Wz_gR, Wz_sI, Wz_aI, Wz_aZ, Wz_aL, Wz_aN, Wz_aR, Wz_tI, Wz_tZ, Wz_tL, Option.some.injEq, exists_eq_left', zB_0, zB_1, true_and, and_true, true_implies, not_true_eq_false, false_implies, not_false_eq_true, Classical.not_not, g_0, g_1, g_2, g_3, g_4, g_5, g_327, g_328, g_329, g_330, g_331, g_332, g_333, g_334, g_335, g_336, g_337, g_338, g_339, g_340, g_341, g_342, g_343, g_464, g_465, g_466, g_484, g_485, g_486, g_487, g_488, g_489, g_490, g_491, g_492, g_493, g_494, g_495, g_496, g_497, g_498, g_499, g_500, g_501, g_562, g_563, g_564, g_565, g_566, g_567, g_568, g_574, g_580, g_581, g_582, g_583, g_584, g_585, g_586, g_587, g_588, g_589, g_590, g_591, g_592, g_600, g_601, g_602, g_603, g_604, g_605, g_606, g_607, g_608, g_609, g_610, g_611, g_612, g_613, g_614, g_615, g_616, g_617, g_618, g_619, g_620, g_621, g_622, g_623, g_624, g_625, g_626, g_627, g_628, g_629, g_630, g_631, g_632, g_633, g_634, g_635, g_636, g_637, g_638, g_639, g_640, g_641, g_642, g_643, g_644, g_645, g_646, g_647, g_648, g_649, g_650, g_651, g_652, g_653, g_654, g_655, g_656, g_657, g_658, g_659, g_660, g_661, g_662, g_0_0, g_0_1, g_0_2, g_0_3, g_0_4, g_0_5, g_0_6, g_0_7, g_0_8, g_0_9, g_0_10, g_0_11, g_1_0, g_3_0, g_327_0, g_327_1, g_327_2, g_327_3, g_328_0, g_330_0, g_332_0, g_334_0, g_336_0, g_336_1, g_336_2, g_336_3, g_337_0, g_339_0, g_341_0, g_464_0, g_464_1, g_484_0, g_484_1, g_484_2, g_485_0, g_487_0, g_489_0, g_491_0, g_491_1, g_491_2, g_491_3, g_491_4, g_491_5, g_491_6, g_491_7, g_496_0, g_498_0, g_500_0, g_500_1, g_500_3, g_500_4, g_500_5, g_500_6, g_500_7, g_562_0, g_564_0, g_566_0, g_580_0, g_580_1, g_580_2, g_580_3, g_581_0, g_583_0, g_585_0, g_588_1, g_588_2, g_588_3, g_588_4, g_588_6, g_601_0, g_601_1, g_601_2, g_601_3, g_601_4, g_601_5, g_601_6, g_601_7, g_601_8, g_608_0, g_610_0, g_612_0, g_612_2, g_612_4, g_612_5, g_612_7, g_612_8, g_612_9, g_612_10, g_612_11, g_612_12, g_612_13, g_612_14, g_612_15, g_612_16, g_612_19, g_612_20, g_612_22, g_612_24, g_612_25, g_612_26, g_612_27, g_612_28, g_612_30, g_612_31, g_612_32, g_612_33, g_612_34, g_612_36, g_612_37, g_612_38, g_612_39, g_612_40, g_612_41, g_612_42, g_612_43, g_612_44, g_612_46, g_612_47, g_612_48, g_612_49, g_612_50, g_612_53, g_612_56, g_612_57, g_612_58, g_612_59, g_612_61, g_612_62, g_612_63, g_612_64, f 621 _ (by decide), h3]
    refine ⟨by omega, fun e => ?_, fun e => ⟨by omega, ?_⟩⟩
    · unfold Z12_findMade_94
      refine W12_fm_94 (s := mad0 τ t (τ.1 T 2).toNat) t0 t3 (mkR_b _) hj Q hQ NN 0 g (by omega) (by omega) (by unfold NN; omega) ?_
      rw [show (τ.1 T 2) = j by omega]; exact hg
    · have e1 := (h4 j j0 (by omega)).2
      unfold eqR at e1
      have eN : letN τ t j = τ.1 (T + 13 + 4 * j.toNat) 1 := e1.2.1
      unfold Z12_findMade_43
      refine W12_fm_43 (s := mad0 τ t j.toNat) t0 t3 h j0 (by omega) hT Q ?_ NN 0 g (by omega) (by omega) (by unfold NN; omega) (fun _ => hg) (fun _ => hg)
      intro g' k1 k2
      refine q g' (by omega) (by omega) (by omega) ?_
      by_cases c : isIdleP τ t j
      · have es : mad0 τ t (j.toNat + 1) = mad0 τ t j.toNat := by
          unfold mad0
          rw [mkR_pos (by rw [ej]; exact c)]
        rw [es]; exact k2 c
      · have es : mad0 τ t (j.toNat + 1) = mkL (letF τ t j) (mad0 τ t j.toNat) (letN τ t j).toNat := by
          unfold mad0
          rw [mkR_neg (by rw [ej]; exact c), ej]
        rw [es]; exact k1 c
set_option maxRecDepth 100000 in
theorem W12_fm {T : Nat} {t : Int} {τ : kzM} (t0 : 0 ≤ t) (t3 : t < 3) (h : I3r τ T t) (hj : I3j τ T t) (hT : T ≤ 220) (Q : Unit → kzM → Prop) (hQ : ∀ g, eq61 g (itF (jnA τ t) (jnB τ t) (jnC τ t) (τ.1 (T + 7) 1).toNat (mad0 τ t (τ.1 T 2).toNat) 12) → Q () (rw1 τ.1 625 g, τ.2)) : ∀ (n : Nat) (j : Int) (g : Int → Int), 0 ≤ j → j ≤ 61 → 61 - j < (n : Int) → (∀ x, 0 ≤ x → x < j → g x = 0) → Wz (lp (fun _ _ _ _ => none) (Z12_findMade_2B kdG0) n 612 t j) (rw1 τ.1 625 g, τ.2) Q := by
  have h' := h
  unfold I3r at h'
  intro n
  induction n with
  | zero => intro j; intros; omega
  | succ n ih =>
    intro j g j0 j1 j2 hg
    rw [lp_succ]
    unfold Z12_findMade_2B
    simp only [Wz_rt, Wz_cnd, Wz_lI, Wz_lW, Wz_lL, Wz_cl, Wz_cv, Wz_nz, Wz_gI, Wz_gR, Wz_sI, Wz_aI, Wz_aZ, Wz_aL, Wz_aN, Wz_aR, Wz_tI, Wz_tZ, Wz_tL, Option.some.injEq, exists_eq_left', zB_0, zB_1, true_and, and_true, true_implies, not_true_eq_false, false_implies, not_false_eq_true, Classical.not_not, g_0, g_1, g_2, g_3, g_4, g_5, g_327, g_328, g_329, g_330, g_331, g_332, g_333, g_334, g_335, g_336, g_337, g_338, g_339, g_340, g_341, g_342, g_343, g_464, g_465, g_466, g_484, g_485, g_486, g_487, g_488, g_489, g_490, g_491, g_492, g_493, g_494, g_495, g_496, g_497, g_498, g_499, g_500, g_501, g_562, g_563, g_564, g_565, g_566, g_567, g_568, g_574, g_580, g_581, g_582, g_583, g_584, g_585, g_586, g_587, g_588, g_589, g_590, g_591, g_592, g_600, g_601, g_602, g_603, g_604, g_605, g_606, g_607, g_608, g_609, g_610, g_611, g_612, g_613, g_614, g_615, g_616, g_617, g_618, g_619, g_620, g_621, g_622, g_623, g_624, g_625, g_626, g_627, g_628, g_629, g_630, g_631, g_632, g_633, g_634, g_635, g_636, g_637, g_638, g_639, g_640, g_641, g_642, g_643, g_644, g_645, g_646, g_647, g_648, g_649, g_650, g_651, g_652, g_653, g_654, g_655, g_656, g_657, g_658, g_659, g_660, g_661, g_662, g_0_0, g_0_1, g_0_2, g_0_3, g_0_4, g_0_5, g_0_6, g_0_7, g_0_8, g_0_9, g_0_10, g_0_11, g_1_0, g_3_0, g_327_0, g_327_1, g_327_2, g_327_3, g_328_0, g_330_0, g_332_0, g_334_0, g_336_0, g_336_1, g_336_2, g_336_3, g_337_0, g_339_0, g_341_0, g_464_0, g_464_1, g_484_0, g_484_1, g_484_2, g_485_0, g_487_0, g_489_0, g_491_0, g_491_1, g_491_2, g_491_3, g_491_4, g_491_5, g_491_6, g_491_7, g_496_0, g_498_0, g_500_0, g_500_1, g_500_3, g_500_4, g_500_5, g_500_6, g_500_7, g_562_0, g_564_0, g_566_0, g_580_0, g_580_1, g_580_2, g_580_3, g_581_0, g_583_0, g_585_0, g_588_1, g_588_2, g_588_3, g_588_4, g_588_6, g_601_0, g_601_1, g_601_2, g_601_3, g_601_4, g_601_5, g_601_6, g_601_7, g_601_8, g_608_0, g_610_0, g_612_0, g_612_2, g_612_4, g_612_5, g_612_7, g_612_8, g_612_9, g_612_10, g_612_11, g_612_12, g_612_13, g_612_14, g_612_15, g_612_16, g_612_19, g_612_20, g_612_22, g_612_24, g_612_25, g_612_26, g_612_27, g_612_28, g_612_30, g_612_31, g_612_32, g_612_33, g_612_34, g_612_36, g_612_37, g_612_38, g_612_39, g_612_40, g_612_41, g_612_42, g_612_43, g_612_44, g_612_46, g_612_47, g_612_48, g_612_49, g_612_50, g_612_53, g_612_56, g_612_57, g_612_58, g_612_59, g_612_61, g_612_62, g_612_63, g_612_64, v2_rw1]
    refine ⟨fun e => ?_, fun e => ⟨by omega, by omega, ih _ _ (by omega) (by omega) (by omega) fun x x0 x1 => ?_⟩⟩
    · unfold Z12_findMade_23
      exact W12_fm_23 t0 t3 h hj hT Q hQ NN 0 g (by omega) h'.1.1 (by unfold NN; omega) (fun x x0 x1 => hg x x0 (by omega))
    · split
      · rfl
      · exact hg x x0 (by omega)
set_option maxRecDepth 100000 in
theorem W12_missing_19 {t i : Int} {σ : kzM} (t0 : 0 ≤ t) (t3 : t < 3) (Q : Int → kzM → Prop) : ∀ (n : Nat) (l c : Int), 1 ≤ l → l ≤ 61 → 61 - l < (n : Int) → 0 ≤ c → c ≤ l → Q (mS (fun l => ¬σ.1 624 (61 * t + l) = 0 ∧ σ.1 625 l = 0) i (61 - l).toNat l c) σ → Wz (lp (fun _ _ _ _ _ _ => none) (Z12_missing_19B kdG0) n 612 t i c l) σ Q := by
  intro n
  induction n with
  | zero => intro l c; intros; omega
  | succ n ih =>
    intro l c l0 l1 l2 c0 c1 hQ
    rw [lp_succ]
    unfold Z12_missing_19B
    simp only [Z12_missing_62, Z12_missing_79, Wz_rt, Wz_cnd, Wz_lI, Wz_lW, Wz_lL, Wz_cl, Wz_cv, Wz_nz, Wz_gI, Wz_gR, Wz_sI, Wz_aI, Wz_aZ, Wz_aL, Wz_aN, Wz_aR, Wz_tI, Wz_tZ, Wz_tL, Option.some.injEq, exists_eq_left', zB_0, zB_1, true_and, and_true, true_implies, not_true_eq_false, false_implies, not_false_eq_true, Classical.not_not, g_0, g_1, g_2, g_3, g_4, g_5, g_327, g_328, g_329, g_330, g_331, g_332, g_333, g_334, g_335, g_336, g_337, g_338, g_339, g_340, g_341, g_342, g_343, g_464, g_465, g_466, g_484, g_485, g_486, g_487, g_488, g_489, g_490, g_491, g_492, g_493, g_494, g_495, g_496, g_497, g_498, g_499, g_500, g_501, g_562, g_563, g_564, g_565, g_566, g_567, g_568, g_574, g_580, g_581, g_582, g_583, g_584, g_585, g_586, g_587, g_588, g_589, g_590, g_591, g_592, g_600, g_601, g_602, g_603, g_604, g_605, g_606, g_607, g_608, g_609, g_610, g_611, g_612, g_613, g_614, g_615, g_616, g_617, g_618, g_619, g_620, g_621, g_622, g_623, g_624, g_625, g_626, g_627, g_628, g_629, g_630, g_631, g_632, g_633, g_634, g_635, g_636, g_637, g_638, g_639, g_640, g_641, g_642, g_643, g_644, g_645, g_646, g_647, g_648, g_649, g_650, g_651, g_652, g_653, g_654, g_655, g_656, g_657, g_658, g_659, g_660, g_661, g_662, g_0_0, g_0_1, g_0_2, g_0_3, g_0_4, g_0_5, g_0_6, g_0_7, g_0_8, g_0_9, g_0_10, g_0_11, g_1_0, g_3_0, g_327_0, g_327_1, g_327_2, g_327_3, g_328_0, g_330_0, g_332_0, g_334_0, g_336_0, g_336_1, g_336_2, g_336_3, g_337_0, g_339_0, g_341_0, g_464_0, g_464_1, g_484_0, g_484_1, g_484_2, g_485_0, g_487_0, g_489_0, g_491_0, g_491_1, g_491_2, g_491_3, g_491_4, g_491_5, g_491_6, g_491_7, g_496_0, g_498_0, g_500_0, g_500_1, g_500_3, g_500_4, g_500_5, g_500_6, g_500_7, g_562_0, g_564_0, g_566_0, g_580_0, g_580_1, g_580_2, g_580_3, g_581_0, g_583_0, g_585_0, g_588_1, g_588_2, g_588_3, g_588_4, g_588_6, g_601_0, g_601_1, g_601_2, g_601_3, g_601_4, g_601_5, g_601_6, g_601_7, g_601_8, g_608_0, g_610_0, g_612_0, g_612_2, g_612_4, g_612_5, g_612_7, g_612_8, g_612_9, g_612_10, g_612_11, g_612_12, g_612_13, g_612_14, g_612_15, g_612_16, g_612_19, g_612_20, g_612_22, g_612_24, g_612_25, g_612_26, g_612_27, g_612_28, g_612_30, g_612_31, g_612_32, g_612_33, g_612_34, g_612_36, g_612_37, g_612_38, g_612_39, g_612_40, g_612_41, g_612_42, g_612_43, g_612_44, g_612_46, g_612_47, g_612_48, g_612_49, g_612_50, g_612_53, g_612_56, g_612_57, g_612_58, g_612_59, g_612_61, g_612_62, g_612_63, g_612_64]
    refine ⟨fun e => ?_, fun e => ⟨by omega, ?_⟩⟩
    · rw [show (61 - l).toNat = 0 by omega] at hQ
      unfold mS at hQ
      refine ⟨fun z => ?_, fun z => ?_⟩
      · rw [if_pos z] at hQ; exact hQ
      · rw [if_neg z] at hQ; exact hQ
    · rw [show (61 - l).toNat = (61 - (l + 1)).toNat + 1 by omega] at hQ
      refine ⟨fun z => ⟨by omega, ih _ _ (by omega) (by omega) (by omega) c0 (by omega) ?_⟩, fun z => ⟨by omega, fun y => ⟨fun x => ?_, fun x => ⟨by omega, by omega, ih _ _ (by omega) (by omega) (by omega) (by omega) (by omega) ?_⟩⟩, fun y => ⟨by omega, ih _ _ (by omega) (by omega) (by omega) c0 (by omega) ?_⟩⟩⟩
      · rw [mS_neg (fun w => w.1 z)] at hQ; exact hQ
      · rw [mS_pos ⟨z, y⟩, if_pos x] at hQ; exact hQ
      · rw [mS_pos ⟨z, y⟩, if_neg x] at hQ; exact hQ
      · rw [mS_neg (fun w => y w.2)] at hQ; exact hQ
set_option maxRecDepth 100000 in
theorem m_missing (t i : Int) (_ : kzI t) (_ : kzI i) : MOK (Z11_missing kdG0 0 t i) (Z12_missing kdG0 612 t i) := by
  intro τ hI
  have i3 := hI.2.2.1
  by_cases c : 0 ≤ t ∧ t ≤ 2
  · obtain ⟨q1, q2⟩ := g_to (i := t) (by omega) (by omega)
    obtain ⟨i3r, i3j, i3l⟩ := i3 t (by omega) (by omega)
    have i3j' := i3j
    unfold I3j at i3j'
    generalize hT : 6 + 107 * t.toNat = T at *
    have hT2 : T ≤ 220 := by omega
    simp only [Z11_missing_21, Z11_missing, Z8_missingAt, Z8_markMade, Z11_isKey, Z11_isLetter, Z11_isTongue, Z11_isHand, Z11_isDay, Z12_isKey, Z12_isLetter, Z12_isTongue, Z12_isHand, Z12_areTongues, Z12_isWord, Z12_isSymbol, W_within, W_in, zp_0, zB_zp, W_size r_1, W_isEmpty r_1, W_isFull r_1, W_has r_1, W_clear r_1, W_size r_3, W_isEmpty r_3, W_isFull r_3, W_has r_3, W_clear r_3, W_size r_328, W_isEmpty r_328, W_isFull r_328, W_has r_328, W_clear r_328, W_size r_330, W_isEmpty r_330, W_isFull r_330, W_has r_330, W_clear r_330, W_size r_332, W_isEmpty r_332, W_isFull r_332, W_has r_332, W_clear r_332, W_size r_334, W_isEmpty r_334, W_isFull r_334, W_has r_334, W_clear r_334, W_size r_337, W_isEmpty r_337, W_isFull r_337, W_has r_337, W_clear r_337, W_size r_339, W_isEmpty r_339, W_isFull r_339, W_has r_339, W_clear r_339, W_size r_341, W_isEmpty r_341, W_isFull r_341, W_has r_341, W_clear r_341, W_size r_485, W_isEmpty r_485, W_isFull r_485, W_has r_485, W_clear r_485, W_size r_487, W_isEmpty r_487, W_isFull r_487, W_has r_487, W_clear r_487, W_size r_489, W_isEmpty r_489, W_isFull r_489, W_has r_489, W_clear r_489, W_size r_496, W_isEmpty r_496, W_isFull r_496, W_has r_496, W_clear r_496, W_size r_498, W_isEmpty r_498, W_isFull r_498, W_has r_498, W_clear r_498, W_size r_562, W_isEmpty r_562, W_isFull r_562, W_has r_562, W_clear r_562, W_size r_564, W_isEmpty r_564, W_isFull r_564, W_has r_564, W_clear r_564, W_size r_566, W_isEmpty r_566, W_isFull r_566, W_has r_566, W_clear r_566, W_size r_581, W_isEmpty r_581, W_isFull r_581, W_has r_581, W_clear r_581, W_size r_583, W_isEmpty r_583, W_isFull r_583, W_has r_583, W_clear r_583, W_size r_585, W_isEmpty r_585, W_isFull r_585, W_has r_585, W_clear r_585, W_size r_608, W_isEmpty r_608, W_isFull r_608, W_has r_608, W_clear r_608, W_size r_610, W_isEmpty r_610, W_isFull r_610, W_has r_610, W_clear r_610, Wz_rt, Wz_cnd, Wz_lI, Wz_lW, Wz_lL, Wz_cl, Wz_cv, Wz_nz, Wz_gI, Wz_gR, Wz_sI, Wz_aI, Wz_aZ, Wz_aL, Wz_aN, Wz_aR, Wz_tI, Wz_tZ, Wz_tL, Option.some.injEq, exists_eq_left', zB_0, zB_1, true_and, and_true, true_implies, not_true_eq_false, false_implies, not_false_eq_true, Classical.not_not, g_0, g_1, g_2, g_3, g_4, g_5, g_327, g_328, g_329, g_330, g_331, g_332, g_333, g_334, g_335, g_336, g_337, g_338, g_339, g_340, g_341, g_342, g_343, g_464, g_465, g_466, g_484, g_485, g_486, g_487, g_488, g_489, g_490, g_491, g_492, g_493, g_494, g_495, g_496, g_497, g_498, g_499, g_500, g_501, g_562, g_563, g_564, g_565, g_566, g_567, g_568, g_574, g_580, g_581, g_582, g_583, g_584, g_585, g_586, g_587, g_588, g_589, g_590, g_591, g_592, g_600, g_601, g_602, g_603, g_604, g_605, g_606, g_607, g_608, g_609, g_610, g_611, g_612, g_613, g_614, g_615, g_616, g_617, g_618, g_619, g_620, g_621, g_622, g_623, g_624, g_625, g_626, g_627, g_628, g_629, g_630, g_631, g_632, g_633, g_634, g_635, g_636, g_637, g_638, g_639, g_640, g_641, g_642, g_643, g_644, g_645, g_646, g_647, g_648, g_649, g_650, g_651, g_652, g_653, g_654, g_655, g_656, g_657, g_658, g_659, g_660, g_661, g_662, g_0_0, g_0_1, g_0_2, g_0_3, g_0_4, g_0_5, g_0_6, g_0_7, g_0_8, g_0_9, g_0_10, g_0_11, g_1_0, g_3_0, g_327_0, g_327_1, g_327_2, g_327_3, g_328_0, g_330_0, g_332_0, g_334_0, g_336_0, g_336_1, g_336_2, g_336_3, g_337_0, g_339_0, g_341_0, g_464_0, g_464_1, g_484_0, g_484_1, g_484_2, g_485_0, g_487_0, g_489_0, g_491_0, g_491_1, g_491_2, g_491_3, g_491_4, g_491_5, g_491_6, g_491_7, g_496_0, g_498_0, g_500_0, g_500_1, g_500_3, g_500_4, g_500_5, g_500_6, g_500_7, g_562_0, g_564_0, g_566_0, g_580_0, g_580_1, g_580_2, g_580_3, g_581_0, g_583_0, g_585_0, g_588_1, g_588_2, g_588_3, g_588_4, g_588_6, g_601_0, g_601_1, g_601_2, g_601_3, g_601_4, g_601_5, g_601_6, g_601_7, g_601_8, g_608_0, g_610_0, g_612_0, g_612_2, g_612_4, g_612_5, g_612_7, g_612_8, g_612_9, g_612_10, g_612_11, g_612_12, g_612_13, g_612_14, g_612_15, g_612_16, g_612_19, g_612_20, g_612_22, g_612_24, g_612_25, g_612_26, g_612_27, g_612_28, g_612_30, g_612_31, g_612_32, g_612_33, g_612_34, g_612_36, g_612_37, g_612_38, g_612_39, g_612_40, g_612_41, g_612_42, g_612_43, g_612_44, g_612_46, g_612_47, g_612_48, g_612_49, g_612_50, g_612_53, g_612_56, g_612_57, g_612_58, g_612_59, g_612_61, g_612_62, g_612_63, g_612_64, addF, v2, rw1, Nat.reduceEqDiff, Nat.reduceAdd, Int.reduceEq, Int.reduceNeg, reduceIte, false_and, and_false, true_and, and_true, and_self, q1, (gT q2).1, c]
    refine ⟨by omega, ?_⟩
    unfold Z8_markMade_2
    have start : (τ : kzM) = (rw1 τ.1 (T + 10) (τ.1 (T + 10)), τ.2) := by rw [rw1_id]
    rw [start]
    refine W8_markMade q2 i3r i3j _ ?_ NN 0 _ (by omega) (by omega) (by unfold NN; omega) (fun x x0 x1 => by omega)
    intro g hg
    have fA : ∀ b x, b ≠ T + 10 → rw1 τ.1 (T + 10) g b x = τ.1 b x := fun b x hb => by rw [rw1_eq, if_neg hb]
    have fAg : ∀ x, rw1 τ.1 (T + 10) g (T + 10) x = g x := fun x => by rw [rw1_eq, if_pos rfl]
    unfold Z8_missingAt_8
    refine W8_missing_8 q2 _ NN 1 0 (by omega) (by omega) (by unfold NN; omega) (by omega) (by omega) ?_
    obtain ⟨M, hM⟩ : ∃ M, M = rw1 τ.1 (T + 10) g := ⟨_, rfl⟩
    rw [← hM] at fA fAg ⊢
    simp only [Z12_missing, Z12_findMade, Z12_isTongue, W_in, zp_0, zB_zp, Wz_rt, Wz_cnd, Wz_lI, Wz_lW, Wz_lL, Wz_cl, Wz_cv, Wz_nz, Wz_gI, Wz_gR, Wz_sI, Wz_aI, Wz_aZ, Wz_aL, Wz_aN, Wz_aR, Wz_tI, Wz_tZ, Wz_tL, Option.some.injEq, exists_eq_left', zB_0, zB_1, true_and, and_true, true_implies, not_true_eq_false, false_implies, not_false_eq_true, Classical.not_not, g_0, g_1, g_2, g_3, g_4, g_5, g_327, g_328, g_329, g_330, g_331, g_332, g_333, g_334, g_335, g_336, g_337, g_338, g_339, g_340, g_341, g_342, g_343, g_464, g_465, g_466, g_484, g_485, g_486, g_487, g_488, g_489, g_490, g_491, g_492, g_493, g_494, g_495, g_496, g_497, g_498, g_499, g_500, g_501, g_562, g_563, g_564, g_565, g_566, g_567, g_568, g_574, g_580, g_581, g_582, g_583, g_584, g_585, g_586, g_587, g_588, g_589, g_590, g_591, g_592, g_600, g_601, g_602, g_603, g_604, g_605, g_606, g_607, g_608, g_609, g_610, g_611, g_612, g_613, g_614, g_615, g_616, g_617, g_618, g_619, g_620, g_621, g_622, g_623, g_624, g_625, g_626, g_627, g_628, g_629, g_630, g_631, g_632, g_633, g_634, g_635, g_636, g_637, g_638, g_639, g_640, g_641, g_642, g_643, g_644, g_645, g_646, g_647, g_648, g_649, g_650, g_651, g_652, g_653, g_654, g_655, g_656, g_657, g_658, g_659, g_660, g_661, g_662, g_0_0, g_0_1, g_0_2, g_0_3, g_0_4, g_0_5, g_0_6, g_0_7, g_0_8, g_0_9, g_0_10, g_0_11, g_1_0, g_3_0, g_327_0, g_327_1, g_327_2, g_327_3, g_328_0, g_330_0, g_332_0, g_334_0, g_336_0, g_336_1, g_336_2, g_336_3, g_337_0, g_339_0, g_341_0, g_464_0, g_464_1, g_484_0, g_484_1, g_484_2, g_485_0, g_487_0, g_489_0, g_491_0, g_491_1, g_491_2, g_491_3, g_491_4, g_491_5, g_491_6, g_491_7, g_496_0, g_498_0, g_500_0, g_500_1, g_500_3, g_500_4, g_500_5, g_500_6, g_500_7, g_562_0, g_564_0, g_566_0, g_580_0, g_580_1, g_580_2, g_580_3, g_581_0, g_583_0, g_585_0, g_588_1, g_588_2, g_588_3, g_588_4, g_588_6, g_601_0, g_601_1, g_601_2, g_601_3, g_601_4, g_601_5, g_601_6, g_601_7, g_601_8, g_608_0, g_610_0, g_612_0, g_612_2, g_612_4, g_612_5, g_612_7, g_612_8, g_612_9, g_612_10, g_612_11, g_612_12, g_612_13, g_612_14, g_612_15, g_612_16, g_612_19, g_612_20, g_612_22, g_612_24, g_612_25, g_612_26, g_612_27, g_612_28, g_612_30, g_612_31, g_612_32, g_612_33, g_612_34, g_612_36, g_612_37, g_612_38, g_612_39, g_612_40, g_612_41, g_612_42, g_612_43, g_612_44, g_612_46, g_612_47, g_612_48, g_612_49, g_612_50, g_612_53, g_612_56, g_612_57, g_612_58, g_612_59, g_612_61, g_612_62, g_612_63, g_612_64, c]
    unfold Z12_findMade_2
    have hr : I3r (M, τ.2) T t := i3r.cg (fA T 2 (by omega)) (fun a j _ _ => fA a j (by omega)) (fA 621 t (by omega)) (fun r _ _ => ⟨fA 618 _ (by omega), fA 620 _ (by omega)⟩) (fun x _ _ => fA 617 x (by omega)) (fun x _ _ => fA 619 x (by omega))
    have hj : I3j (M, τ.2) T t := i3j.cg (fun a j _ _ => fA a j (by omega)) (fA 623 t (by omega)) (fun x _ _ => fA 622 x (by omega))
    have start2 : (M, τ.2) = (rw1 M 625 (M 625), τ.2) := by rw [rw1_id]
    rw [start2]
    refine W12_fm (τ := (M, τ.2)) (by omega) (by omega) hr hj hT2 _ ?_ NN 0 _ (by omega) (by omega) (by unfold NN; omega) (fun x x0 x1 => by omega)
    intro g2 hg2
    unfold Z12_missing_19
    refine W12_missing_19 (by omega) (by omega) _ NN 1 0 (by omega) (by omega) (by unfold NN; omega) (by omega) (by omega) ?_
    have fB : ∀ b x, b ≠ 625 → rw1 M 625 g2 b x = M b x := fun b x hb => by rw [rw1_eq, if_neg hb]
    have e1 : isIdleP (M, τ.2) t = isIdleP τ t := funext fun r => propext (isIdleP_cg (fun x => fA 617 x (by omega)) (fun x => fA 618 x (by omega)))
    have e2 : letF (M, τ.2) t = letF τ t := funext fun r => funext fun j => fA 619 _ (by omega)
    have e3 : letN (M, τ.2) t = letN τ t := funext fun r => fA 620 _ (by omega)
    have e4 : jnA (M, τ.2) t = jnA τ t := funext fun j => fA 622 _ (by omega)
    have e5 : jnB (M, τ.2) t = jnB τ t := funext fun j => fA 622 _ (by omega)
    have e6 : jnC (M, τ.2) t = jnC τ t := funext fun j => fA 622 _ (by omega)
    have hb : b01 (mad0 τ t (τ.1 T 2).toNat) := mkR_b _
    have e7 := itF_J (fa := jnA τ t) (fb := jnB τ t) (fc := jnC τ t) (J := (τ.1 (T + 7) 1).toNat) hb (12 - (τ.1 (T + 7) 1).toNat)
    rw [show (τ.1 (T + 7) 1).toNat + (12 - (τ.1 (T + 7) 1).toNat) = 12 by omega] at e7
    unfold mad0 at hg2 e7 hg
    rw [e1, e2, e3, e4, e5, e6] at hg2
    dsimp only at hg2 ⊢
    rw [fA (T + 7) 1 (by omega), fA T 2 (by omega), e7] at hg2
    refine ⟨?_, ?_⟩
    · refine mS_congr _ _ _ fun x x0 x1 => ?_
      rw [fB 624 _ (by decide), fA 624 _ (by omega), rw1_eq, if_pos rfl, fA (T + 9) _ (by omega), fAg, hg x (by omega) (by omega), hg2 x (by omega) (by omega), (i3l x (by omega) (by omega)).2]
    · refine Inv.to20 (fun a j h1 h2 => ?_) hI
      show rw1 M 625 g2 a j = τ.1 a j
      rw [fB _ _ (fun z => h2 (by rw [z]; rfl)), fA _ _ (fun z => h2 (md_20 (by rcases q2 with rfl | rfl | rfl <;> omega)))]
  · simp only [Z11_missing_21, Z11_missing, Z12_missing, Z11_isKey, Z11_isLetter, Z11_isTongue, Z11_isHand, Z11_isDay, Z12_isKey, Z12_isLetter, Z12_isTongue, Z12_isHand, Z12_areTongues, Z12_isWord, Z12_isSymbol, W_within, W_in, zp_0, zB_zp, W_size r_1, W_isEmpty r_1, W_isFull r_1, W_has r_1, W_clear r_1, W_size r_3, W_isEmpty r_3, W_isFull r_3, W_has r_3, W_clear r_3, W_size r_328, W_isEmpty r_328, W_isFull r_328, W_has r_328, W_clear r_328, W_size r_330, W_isEmpty r_330, W_isFull r_330, W_has r_330, W_clear r_330, W_size r_332, W_isEmpty r_332, W_isFull r_332, W_has r_332, W_clear r_332, W_size r_334, W_isEmpty r_334, W_isFull r_334, W_has r_334, W_clear r_334, W_size r_337, W_isEmpty r_337, W_isFull r_337, W_has r_337, W_clear r_337, W_size r_339, W_isEmpty r_339, W_isFull r_339, W_has r_339, W_clear r_339, W_size r_341, W_isEmpty r_341, W_isFull r_341, W_has r_341, W_clear r_341, W_size r_485, W_isEmpty r_485, W_isFull r_485, W_has r_485, W_clear r_485, W_size r_487, W_isEmpty r_487, W_isFull r_487, W_has r_487, W_clear r_487, W_size r_489, W_isEmpty r_489, W_isFull r_489, W_has r_489, W_clear r_489, W_size r_496, W_isEmpty r_496, W_isFull r_496, W_has r_496, W_clear r_496, W_size r_498, W_isEmpty r_498, W_isFull r_498, W_has r_498, W_clear r_498, W_size r_562, W_isEmpty r_562, W_isFull r_562, W_has r_562, W_clear r_562, W_size r_564, W_isEmpty r_564, W_isFull r_564, W_has r_564, W_clear r_564, W_size r_566, W_isEmpty r_566, W_isFull r_566, W_has r_566, W_clear r_566, W_size r_581, W_isEmpty r_581, W_isFull r_581, W_has r_581, W_clear r_581, W_size r_583, W_isEmpty r_583, W_isFull r_583, W_has r_583, W_clear r_583, W_size r_585, W_isEmpty r_585, W_isFull r_585, W_has r_585, W_clear r_585, W_size r_608, W_isEmpty r_608, W_isFull r_608, W_has r_608, W_clear r_608, W_size r_610, W_isEmpty r_610, W_isFull r_610, W_has r_610, W_clear r_610, Wz_rt, Wz_cnd, Wz_lI, Wz_lW, Wz_lL, Wz_cl, Wz_cv, Wz_nz, Wz_gI, Wz_gR, Wz_sI, Wz_aI, Wz_aZ, Wz_aL, Wz_aN, Wz_aR, Wz_tI, Wz_tZ, Wz_tL, Option.some.injEq, exists_eq_left', zB_0, zB_1, true_and, and_true, true_implies, not_true_eq_false, false_implies, not_false_eq_true, Classical.not_not, g_0, g_1, g_2, g_3, g_4, g_5, g_327, g_328, g_329, g_330, g_331, g_332, g_333, g_334, g_335, g_336, g_337, g_338, g_339, g_340, g_341, g_342, g_343, g_464, g_465, g_466, g_484, g_485, g_486, g_487, g_488, g_489, g_490, g_491, g_492, g_493, g_494, g_495, g_496, g_497, g_498, g_499, g_500, g_501, g_562, g_563, g_564, g_565, g_566, g_567, g_568, g_574, g_580, g_581, g_582, g_583, g_584, g_585, g_586, g_587, g_588, g_589, g_590, g_591, g_592, g_600, g_601, g_602, g_603, g_604, g_605, g_606, g_607, g_608, g_609, g_610, g_611, g_612, g_613, g_614, g_615, g_616, g_617, g_618, g_619, g_620, g_621, g_622, g_623, g_624, g_625, g_626, g_627, g_628, g_629, g_630, g_631, g_632, g_633, g_634, g_635, g_636, g_637, g_638, g_639, g_640, g_641, g_642, g_643, g_644, g_645, g_646, g_647, g_648, g_649, g_650, g_651, g_652, g_653, g_654, g_655, g_656, g_657, g_658, g_659, g_660, g_661, g_662, g_0_0, g_0_1, g_0_2, g_0_3, g_0_4, g_0_5, g_0_6, g_0_7, g_0_8, g_0_9, g_0_10, g_0_11, g_1_0, g_3_0, g_327_0, g_327_1, g_327_2, g_327_3, g_328_0, g_330_0, g_332_0, g_334_0, g_336_0, g_336_1, g_336_2, g_336_3, g_337_0, g_339_0, g_341_0, g_464_0, g_464_1, g_484_0, g_484_1, g_484_2, g_485_0, g_487_0, g_489_0, g_491_0, g_491_1, g_491_2, g_491_3, g_491_4, g_491_5, g_491_6, g_491_7, g_496_0, g_498_0, g_500_0, g_500_1, g_500_3, g_500_4, g_500_5, g_500_6, g_500_7, g_562_0, g_564_0, g_566_0, g_580_0, g_580_1, g_580_2, g_580_3, g_581_0, g_583_0, g_585_0, g_588_1, g_588_2, g_588_3, g_588_4, g_588_6, g_601_0, g_601_1, g_601_2, g_601_3, g_601_4, g_601_5, g_601_6, g_601_7, g_601_8, g_608_0, g_610_0, g_612_0, g_612_2, g_612_4, g_612_5, g_612_7, g_612_8, g_612_9, g_612_10, g_612_11, g_612_12, g_612_13, g_612_14, g_612_15, g_612_16, g_612_19, g_612_20, g_612_22, g_612_24, g_612_25, g_612_26, g_612_27, g_612_28, g_612_30, g_612_31, g_612_32, g_612_33, g_612_34, g_612_36, g_612_37, g_612_38, g_612_39, g_612_40, g_612_41, g_612_42, g_612_43, g_612_44, g_612_46, g_612_47, g_612_48, g_612_49, g_612_50, g_612_53, g_612_56, g_612_57, g_612_58, g_612_59, g_612_61, g_612_62, g_612_63, g_612_64, addF, v2, rw1, Nat.reduceEqDiff, Nat.reduceAdd, Int.reduceEq, Int.reduceNeg, reduceIte, false_and, and_false, true_and, and_true, and_self]
    (repeat' (first | with_reducible (refine And.intro ?_ ?_) | intro _)) <;> first | omega | with_reducible exact hI
