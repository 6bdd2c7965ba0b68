/-! the line: the longest rule -/
def fitP (kN : Int → Int) (kF : Int → Int → Int) (g : Int → Int) (n s r : Int) : Prop := s + kN r ≤ n ∧ ∀ j, 0 ≤ j → j < kN r → kF r j = g (s + j)
noncomputable def rlS (kN : Int → Int) (kF : Int → Int → Int) (g : Int → Int) (n s : Int) : Nat → Int × Int
  | 0 => (-1, 0)
  | r + 1 => @ite (Int × Int) ((rlS kN kF g n s r).2 < kN r ∧ fitP kN kF g n s r) (Classical.propDecidable _) ((r : Int), kN r) (rlS kN kF g n s r)
theorem rlS_pos {kN : Int → Int} {kF : Int → Int → Int} {g : Int → Int} {n s : Int} {r : Nat} (h : (rlS kN kF g n s r).2 < kN r ∧ fitP kN kF g n s r) : rlS kN kF g n s (r + 1) = ((r : Int), kN r) := by
  rw [rlS]
  exact @if_pos _ (Classical.propDecidable _) h _ _ _
theorem rlS_neg {kN : Int → Int} {kF : Int → Int → Int} {g : Int → Int} {n s : Int} {r : Nat} (h : ¬((rlS kN kF g n s r).2 < kN r ∧ fitP kN kF g n s r)) : rlS kN kF g n s (r + 1) = rlS kN kF g n s r := by
  rw [rlS]
  exact @if_neg _ (Classical.propDecidable _) h _ _ _
theorem rlS_b {kN : Int → Int} {kF : Int → Int → Int} {g : Int → Int} {n s : Int} : ∀ r : Nat, ((rlS kN kF g n s r).1 = -1 ∧ (rlS kN kF g n s r).2 = 0) ∨ ((0 ≤ (rlS kN kF g n s r).1 ∧ (rlS kN kF g n s r).1 < r) ∧ (rlS kN kF g n s r).2 = kN (rlS kN kF g n s r).1 ∧ 0 < (rlS kN kF g n s r).2 ∧ fitP kN kF g n s (rlS kN kF g n s r).1)
  | 0 => Or.inl ⟨rfl, rfl⟩
  | r + 1 => by
    have ih := rlS_b (kN := kN) (kF := kF) (g := g) (n := n) (s := s) r
    by_cases c : (rlS kN kF g n s r).2 < kN r ∧ fitP kN kF g n s r
    · rw [rlS_pos c]
      refine Or.inr ⟨by dsimp only; omega, rfl, ?_, c.2⟩
      dsimp only
      rcases ih with ih | ih <;> omega
    · rw [rlS_neg c]
      rcases ih with ih | ih
      · exact Or.inl ih
      · exact Or.inr ⟨by omega, ih.2⟩
/-- what the line asks of the memory -/
def lineP (τ : kzM) : Prop := (0 ≤ τ.1 328 1 ∧ τ.1 328 1 ≤ 40) ∧ τ.1 612 17 = τ.1 328 1 ∧ ∀ j, 0 ≤ j → j < τ.1 328 1 → (0 ≤ τ.1 329 j ∧ τ.1 329 j ≤ 11) ∧ τ.1 626 j = τ.1 329 j
noncomputable def ruS (τ : kzM) (t s : Int) : Int := (rlS (keyN τ t) (keyF τ t) (τ.1 626) (τ.1 612 17) s (τ.1 621 t).toNat).1
theorem fit_iff {T : Nat} {t r s : Int} {τ : kzM} (h : I3r τ T t) (hl : lineP τ) (r0 : 0 ≤ r) (r1 : r < τ.1 T 2) (s0 : 0 ≤ s) : (τ.1 (T + 11 + 4 * r.toNat) 1 ≤ τ.1 (T + 11 + 4 * r.toNat) 1 ∧ 0 ≤ s ∧ τ.1 (T + 11 + 4 * r.toNat) 1 ≤ τ.1 328 1 - s ∧ eqF (τ.1 (T + 11 + 4 * r.toNat + 1)) (τ.1 329) s (τ.1 (T + 11 + 4 * r.toNat) 1)) ↔ fitP (keyN τ t) (keyF τ t) (τ.1 626) (τ.1 612 17) s r := by
  have e := (h.2.2 r r0 r1).1
  unfold eqR at e
  obtain ⟨e1, e2, e3⟩ := e
  unfold fitP keyN keyF eqF
  rw [e2, hl.2.1]
  constructor
  · rintro ⟨_, _, a, b⟩
    refine ⟨by omega, fun j j0 j1 => ?_⟩
    rw [(e3 j j0 j1).2, (hl.2.2 (s + j) (by omega) (by omega)).2]
    exact b j j0 j1
  · rintro ⟨a, b⟩
    refine ⟨Int.le_refl _, s0, by omega, fun j j0 j1 => ?_⟩
    rw [← (e3 j j0 j1).2, ← (hl.2.2 (s + j) (by omega) (by omega)).2]
    exact b j j0 j1
set_option maxRecDepth 100000 in
theorem W8_lr_8 {T : Nat} {t s : Int} {τ : kzM} (hT : isT T) (h : I3r τ T t) (hl : lineP τ) (s0 : 0 ≤ s) (s1 : s ≤ 40) {Q : Int → kzM → Prop} (hQ : Q (ruS τ t s) τ) : ∀ (N r : Nat), (r : Int) ≤ τ.1 T 2 → (τ.1 T 2).toNat - r < N → Wz (lp (fun _ _ _ _ _ _ _ => none) (Z8_longestRule_8B kdG0) N T 328 s (rlS (keyN τ t) (keyF τ t) (τ.1 626) (τ.1 612 17) s r).1 (rlS (keyN τ t) (keyF τ t) (τ.1 626) (τ.1 612 17) s r).2 (r : Int)) τ Q := by
  have h1 := h.1
  have h2 := h.2.1
  intro N
  induction N with
  | zero => intro r; intros; omega
  | succ N ih =>
    intro r r1 r2
    rw [lp_succ]
    have ih' := ih (r + 1)
    generalize lp (fun _ _ _ _ _ _ _ => none) (Z8_longestRule_8B kdG0) N = L at ih' ⊢
    by_cases c : τ.1 T 2 ≤ r
    · unfold Z8_longestRule_8B
      simp only [Wz_rt, Wz_cnd, Wz_lI, Wz_lW, Wz_lL, Wz_cl, Wz_cv, Wz_nz, Wz_gI, Wz_gR, Wz_sI, Wz_aI, Wz_aZ, Wz_aL, Wz_aN, Wz_aR, Wz_tI, Wz_tZ, Wz_tL, Option.some.injEq, exists_eq_left', zB_0, zB_1, true_and, and_true, true_implies, not_true_eq_false, false_implies, not_false_eq_true, Classical.not_not, g_0, g_1, g_2, g_3, g_4, g_5, g_327, g_328, g_329, g_330, g_331, g_332, g_333, g_334, g_335, g_336, g_337, g_338, g_339, g_340, g_341, g_342, g_343, g_464, g_465, g_466, g_484, g_485, g_486, g_487, g_488, g_489, g_490, g_491, g_492, g_493, g_494, g_495, g_496, g_497, g_498, g_499, g_500, g_501, g_562, g_563, g_564, g_565, g_566, g_567, g_568, g_574, g_580, g_581, g_582, g_583, g_584, g_585, g_586, g_587, g_588, g_589, g_590, g_591, g_592, g_600, g_601, g_602, g_603, g_604, g_605, g_606, g_607, g_608, g_609, g_610, g_611, g_612, g_613, g_614, g_615, g_616, g_617, g_618, g_619, g_620, g_621, g_622, g_623, g_624, g_625, g_626, g_627, g_628, g_629, g_630, g_631, g_632, g_633, g_634, g_635, g_636, g_637, g_638, g_639, g_640, g_641, g_642, g_643, g_644, g_645, g_646, g_647, g_648, g_649, g_650, g_651, g_652, g_653, g_654, g_655, g_656, g_657, g_658, g_659, g_660, g_661, g_662, g_0_0, g_0_1, g_0_2, g_0_3, g_0_4, g_0_5, g_0_6, g_0_7, g_0_8, g_0_9, g_0_10, g_0_11, g_1_0, g_3_0, g_327_0, g_327_1, g_327_2, g_327_3, g_328_0, g_330_0, g_332_0, g_334_0, g_336_0, g_336_1, g_336_2, g_336_3, g_337_0, g_339_0, g_341_0, g_464_0, g_464_1, g_484_0, g_484_1, g_484_2, g_485_0, g_487_0, g_489_0, g_491_0, g_491_1, g_491_2, g_491_3, g_491_4, g_491_5, g_491_6, g_491_7, g_496_0, g_498_0, g_500_0, g_500_1, g_500_3, g_500_4, g_500_5, g_500_6, g_500_7, g_562_0, g_564_0, g_566_0, g_580_0, g_580_1, g_580_2, g_580_3, g_581_0, g_583_0, g_585_0, g_588_1, g_588_2, g_588_3, g_588_4, g_588_6, g_601_0, g_601_1, g_601_2, g_601_3, g_601_4, g_601_5, g_601_6, g_601_7, g_601_8, g_608_0, g_610_0, g_612_0, g_612_2, g_612_4, g_612_5, g_612_7, g_612_8, g_612_9, g_612_10, g_612_11, g_612_12, g_612_13, g_612_14, g_612_15, g_612_16, g_612_19, g_612_20, g_612_22, g_612_24, g_612_25, g_612_26, g_612_27, g_612_28, g_612_30, g_612_31, g_612_32, g_612_33, g_612_34, g_612_36, g_612_37, g_612_38, g_612_39, g_612_40, g_612_41, g_612_42, g_612_43, g_612_44, g_612_46, g_612_47, g_612_48, g_612_49, g_612_50, g_612_53, g_612_56, g_612_57, g_612_58, g_612_59, g_612_61, g_612_62, g_612_63, g_612_64, gT hT]
      refine ⟨fun _ => ?_, fun d => absurd c d⟩
      unfold ruS at hQ
      rw [h2, show (τ.1 T 2).toNat = r by omega] at hQ
      exact hQ
    · obtain ⟨g3, g4⟩ := gTk hT (i := (r : Int)) (by omega) (by omega)
      have e := (h.2.2 r (by omega) (by omega)).1
      unfold eqR at e
      have ek : keyN τ t r = τ.1 (T + 11 + 4 * (r : Int).toNat) 1 := e.2.1
      have fi := fit_iff h hl (r := (r : Int)) (by omega) (by omega) s0
      rw [show ((r + 1 : Nat) : Int) = (r : Int) + 1 by omega] at ih'
      unfold Z8_longestRule_8B
      simp only [Z8_longestRule_61, Wz_rt, Wz_cnd, Wz_lI, Wz_lW, Wz_lL, Wz_cl, Wz_cv, Wz_nz, Wz_gI, Wz_gR, Wz_sI, Wz_aI, Wz_aZ, Wz_aL, Wz_aN, Wz_aR, Wz_tI, Wz_tZ, Wz_tL, Option.some.injEq, exists_eq_left', zB_0, zB_1, true_and, and_true, true_implies, not_true_eq_false, false_implies, not_false_eq_true, Classical.not_not, g_0, g_1, g_2, g_3, g_4, g_5, g_327, g_328, g_329, g_330, g_331, g_332, g_333, g_334, g_335, g_336, g_337, g_338, g_339, g_340, g_341, g_342, g_343, g_464, g_465, g_466, g_484, g_485, g_486, g_487, g_488, g_489, g_490, g_491, g_492, g_493, g_494, g_495, g_496, g_497, g_498, g_499, g_500, g_501, g_562, g_563, g_564, g_565, g_566, g_567, g_568, g_574, g_580, g_581, g_582, g_583, g_584, g_585, g_586, g_587, g_588, g_589, g_590, g_591, g_592, g_600, g_601, g_602, g_603, g_604, g_605, g_606, g_607, g_608, g_609, g_610, g_611, g_612, g_613, g_614, g_615, g_616, g_617, g_618, g_619, g_620, g_621, g_622, g_623, g_624, g_625, g_626, g_627, g_628, g_629, g_630, g_631, g_632, g_633, g_634, g_635, g_636, g_637, g_638, g_639, g_640, g_641, g_642, g_643, g_644, g_645, g_646, g_647, g_648, g_649, g_650, g_651, g_652, g_653, g_654, g_655, g_656, g_657, g_658, g_659, g_660, g_661, g_662, g_0_0, g_0_1, g_0_2, g_0_3, g_0_4, g_0_5, g_0_6, g_0_7, g_0_8, g_0_9, g_0_10, g_0_11, g_1_0, g_3_0, g_327_0, g_327_1, g_327_2, g_327_3, g_328_0, g_330_0, g_332_0, g_334_0, g_336_0, g_336_1, g_336_2, g_336_3, g_337_0, g_339_0, g_341_0, g_464_0, g_464_1, g_484_0, g_484_1, g_484_2, g_485_0, g_487_0, g_489_0, g_491_0, g_491_1, g_491_2, g_491_3, g_491_4, g_491_5, g_491_6, g_491_7, g_496_0, g_498_0, g_500_0, g_500_1, g_500_3, g_500_4, g_500_5, g_500_6, g_500_7, g_562_0, g_564_0, g_566_0, g_580_0, g_580_1, g_580_2, g_580_3, g_581_0, g_583_0, g_585_0, g_588_1, g_588_2, g_588_3, g_588_4, g_588_6, g_601_0, g_601_1, g_601_2, g_601_3, g_601_4, g_601_5, g_601_6, g_601_7, g_601_8, g_608_0, g_610_0, g_612_0, g_612_2, g_612_4, g_612_5, g_612_7, g_612_8, g_612_9, g_612_10, g_612_11, g_612_12, g_612_13, g_612_14, g_612_15, g_612_16, g_612_19, g_612_20, g_612_22, g_612_24, g_612_25, g_612_26, g_612_27, g_612_28, g_612_30, g_612_31, g_612_32, g_612_33, g_612_34, g_612_36, g_612_37, g_612_38, g_612_39, g_612_40, g_612_41, g_612_42, g_612_43, g_612_44, g_612_46, g_612_47, g_612_48, g_612_49, g_612_50, g_612_53, g_612_56, g_612_57, g_612_58, g_612_59, g_612_61, g_612_62, g_612_63, g_612_64, gT hT, g3, g4.1, W_size g4]
      refine ⟨fun d => absurd d c, fun _ => ⟨by omega, fun d => ⟨by omega, ?_⟩, fun d => W_agrees g4 r_328 (by decide) (by decide) (by omega) hl.1.1 (by have := hl.1.2; omega) (by omega) (by omega) ?_⟩⟩
      · rw [rlS_neg (by rw [ek]; omega)] at ih'
        exact ih' (by omega) (by omega)
      · rw [zp_iff fi, zp_0]
        refine ⟨fun z => ⟨by omega, ?_⟩, fun z => ⟨by omega, ?_⟩⟩
        · rw [rlS_neg (fun q => z q.2)] at ih'
          exact ih' (by omega) (by omega)
        · rw [rlS_pos ⟨by rw [ek]; omega, Classical.not_not.1 z⟩, ek] at ih'
          exact ih' (by omega) (by omega)
set_option maxRecDepth 100000 in
theorem W8_longest {T : Nat} {t s : Int} {τ : kzM} (hT : isT T) (h : I3r τ T t) (hl : lineP τ) (s0 : 0 ≤ s) (s1 : s ≤ 40) {Q : Int → kzM → Prop} (hQ : Q (ruS τ t s) τ) : Wz (Z8_longestRule kdG0 T 328 s) τ Q := by
  unfold Z8_longestRule Z8_longestRule_8
  have h1 := h.1
  exact W8_lr_8 hT h hl s0 s1 hQ NN 0 (by omega) (by unfold NN; omega)
set_option maxRecDepth 100000 in
theorem W12_ra_0 {τ : kzM} {t s l2 l3 r r' : Int} (r0 : 0 ≤ r') (r1 : r' < 72) {k7 : Nat → Int → Int → Int → Int → kzM → Option (Int × kzM)} {Q : Int → kzM → Prop} (hQ : Wz (Z12_ruleAt_113 kdG0 k7 612 s l2 l3 r r' 0) τ Q) : ∀ (N : Nat) (j : Int), Wz (lp (fun _ _ _ _ _ _ _ _ _ => none) (Z12_ruleAt_59B kdG0 k7) (N + 1) 612 s l2 l3 r r' 0 j) τ Q := by
  intro N j
  rw [lp_succ]
  generalize lp (fun _ _ _ _ _ _ _ _ _ => none) (Z12_ruleAt_59B kdG0 k7) N = L
  unfold Z12_ruleAt_59B
  simp only [Wz_rt, Wz_cnd, Wz_lI, Wz_lW, Wz_lL, Wz_cl, Wz_cv, Wz_nz, Wz_gI, Wz_gR, Wz_sI, Wz_aI, Wz_aZ, Wz_aL, Wz_aN, Wz_aR, Wz_tI, Wz_tZ, Wz_tL, Option.some.injEq, exists_eq_left', zB_0, zB_1, true_and, and_true, true_implies, not_true_eq_false, false_implies, not_false_eq_true, Classical.not_not, g_0, g_1, g_2, g_3, g_4, g_5, g_327, g_328, g_329, g_330, g_331, g_332, g_333, g_334, g_335, g_336, g_337, g_338, g_339, g_340, g_341, g_342, g_343, g_464, g_465, g_466, g_484, g_485, g_486, g_487, g_488, g_489, g_490, g_491, g_492, g_493, g_494, g_495, g_496, g_497, g_498, g_499, g_500, g_501, g_562, g_563, g_564, g_565, g_566, g_567, g_568, g_574, g_580, g_581, g_582, g_583, g_584, g_585, g_586, g_587, g_588, g_589, g_590, g_591, g_592, g_600, g_601, g_602, g_603, g_604, g_605, g_606, g_607, g_608, g_609, g_610, g_611, g_612, g_613, g_614, g_615, g_616, g_617, g_618, g_619, g_620, g_621, g_622, g_623, g_624, g_625, g_626, g_627, g_628, g_629, g_630, g_631, g_632, g_633, g_634, g_635, g_636, g_637, g_638, g_639, g_640, g_641, g_642, g_643, g_644, g_645, g_646, g_647, g_648, g_649, g_650, g_651, g_652, g_653, g_654, g_655, g_656, g_657, g_658, g_659, g_660, g_661, g_662, g_0_0, g_0_1, g_0_2, g_0_3, g_0_4, g_0_5, g_0_6, g_0_7, g_0_8, g_0_9, g_0_10, g_0_11, g_1_0, g_3_0, g_327_0, g_327_1, g_327_2, g_327_3, g_328_0, g_330_0, g_332_0, g_334_0, g_336_0, g_336_1, g_336_2, g_336_3, g_337_0, g_339_0, g_341_0, g_464_0, g_464_1, g_484_0, g_484_1, g_484_2, g_485_0, g_487_0, g_489_0, g_491_0, g_491_1, g_491_2, g_491_3, g_491_4, g_491_5, g_491_6, g_491_7, g_496_0, g_498_0, g_500_0, g_500_1, g_500_3, g_500_4, g_500_5, g_500_6, g_500_7, g_562_0, g_564_0, g_566_0, g_580_0, g_580_1, g_580_2, g_580_3, g_581_0, g_583_0, g_585_0, g_588_1, g_588_2, g_588_3, g_588_4, g_588_6, g_601_0, g_601_1, g_601_2, g_601_3, g_601_4, g_601_5, g_601_6, g_601_7, g_601_8, g_608_0, g_610_0, g_612_0, g_612_2, g_612_4, g_612_5, g_612_7, g_612_8, g_612_9, g_612_10, g_612_11, g_612_12, g_612_13, g_612_14, g_612_15, g_612_16, g_612_19, g_612_20, g_612_22, g_612_24, g_612_25, g_612_26, g_612_27, g_612_28, g_612_30, g_612_31, g_612_32, g_612_33, g_612_34, g_612_36, g_612_37, g_612_38, g_612_39, g_612_40, g_612_41, g_612_42, g_612_43, g_612_44, g_612_46, g_612_47, g_612_48, g_612_49, g_612_50, g_612_53, g_612_56, g_612_57, g_612_58, g_612_59, g_612_61, g_612_62, g_612_63, g_612_64]
  exact ⟨by omega, fun _ => hQ, fun _ => hQ⟩
set_option maxRecDepth 100000 in
theorem W12_ra_59 {τ : kzM} {t s l2 l3 r : Int} (t0 : 0 ≤ t) (t3 : t < 3) (r0 : 0 ≤ r) (r1 : r < 24) (hk : 1 ≤ keyN τ t r ∧ keyN τ t r ≤ 4) (hn : τ.1 612 17 ≤ 40) (s0 : 0 ≤ s) (hs : s + keyN τ t r ≤ τ.1 612 17) {k7 : Nat → Int → Int → Int → Int → kzM → Option (Int × kzM)} {Q : Int → kzM → Prop} (q1 : fitP (keyN τ t) (keyF τ t) (τ.1 626) (τ.1 612 17) s r → Wz (Z12_ruleAt_113 kdG0 k7 612 s l2 l3 r (24 * t + r) 1) τ Q) (q0 : ¬fitP (keyN τ t) (keyF τ t) (τ.1 626) (τ.1 612 17) s r → Wz (Z12_ruleAt_113 kdG0 k7 612 s l2 l3 r (24 * t + r) 0) τ Q) : ∀ (N : Nat) (j : Int), 0 ≤ j → j ≤ keyN τ t r → keyN τ t r + 1 - j < N → (∀ x, 0 ≤ x → x < j → keyF τ t r x = τ.1 626 (s + x)) → Wz (lp (fun _ _ _ _ _ _ _ _ _ => none) (Z12_ruleAt_59B kdG0 k7) N 612 s l2 l3 r (24 * t + r) 1 j) τ Q := by
  intro N
  induction N with
  | zero => intro j; intros; omega
  | succ N ih =>
    intro j j0 j1 j2 hj
    rw [lp_succ]
    have ih' := ih (j + 1)
    obtain ⟨M, hM⟩ : ∃ M, N = M + 1 := ⟨N - 1, by omega⟩
    have z1 : Wz (Z12_ruleAt_113 kdG0 k7 612 s l2 l3 r (24 * t + r) 0) τ Q → Wz (lp (fun _ _ _ _ _ _ _ _ _ => none) (Z12_ruleAt_59B kdG0 k7) N 612 s l2 l3 r (24 * t + r) 0 (j + 1)) τ Q := fun q => by
      rw [hM]; exact W12_ra_0 (t := t) (by omega) (by omega) q M (j + 1)
    generalize lp (fun _ _ _ _ _ _ _ _ _ => none) (Z12_ruleAt_59B kdG0 k7) N = L at ih' z1 ⊢
    have ek : τ.1 618 (24 * t + r) = keyN τ t r := rfl
    have ef : τ.1 617 (4 * (24 * t + r) + j) = keyF τ t r j := rfl
    unfold Z12_ruleAt_59B
    simp only [Z12_ruleAt_105, Wz_rt, Wz_cnd, Wz_lI, Wz_lW, Wz_lL, Wz_cl, Wz_cv, Wz_nz, Wz_gI, Wz_gR, Wz_sI, Wz_aI, Wz_aZ, Wz_aL, Wz_aN, Wz_aR, Wz_tI, Wz_tZ, Wz_tL, Option.some.injEq, exists_eq_left', zB_0, zB_1, true_and, and_true, true_implies, not_true_eq_false, false_implies, not_false_eq_true, Classical.not_not, g_0, g_1, g_2, g_3, g_4, g_5, g_327, g_328, g_329, g_330, g_331, g_332, g_333, g_334, g_335, g_336, g_337, g_338, g_339, g_340, g_341, g_342, g_343, g_464, g_465, g_466, g_484, g_485, g_486, g_487, g_488, g_489, g_490, g_491, g_492, g_493, g_494, g_495, g_496, g_497, g_498, g_499, g_500, g_501, g_562, g_563, g_564, g_565, g_566, g_567, g_568, g_574, g_580, g_581, g_582, g_583, g_584, g_585, g_586, g_587, g_588, g_589, g_590, g_591, g_592, g_600, g_601, g_602, g_603, g_604, g_605, g_606, g_607, g_608, g_609, g_610, g_611, g_612, g_613, g_614, g_615, g_616, g_617, g_618, g_619, g_620, g_621, g_622, g_623, g_624, g_625, g_626, g_627, g_628, g_629, g_630, g_631, g_632, g_633, g_634, g_635, g_636, g_637, g_638, g_639, g_640, g_641, g_642, g_643, g_644, g_645, g_646, g_647, g_648, g_649, g_650, g_651, g_652, g_653, g_654, g_655, g_656, g_657, g_658, g_659, g_660, g_661, g_662, g_0_0, g_0_1, g_0_2, g_0_3, g_0_4, g_0_5, g_0_6, g_0_7, g_0_8, g_0_9, g_0_10, g_0_11, g_1_0, g_3_0, g_327_0, g_327_1, g_327_2, g_327_3, g_328_0, g_330_0, g_332_0, g_334_0, g_336_0, g_336_1, g_336_2, g_336_3, g_337_0, g_339_0, g_341_0, g_464_0, g_464_1, g_484_0, g_484_1, g_484_2, g_485_0, g_487_0, g_489_0, g_491_0, g_491_1, g_491_2, g_491_3, g_491_4, g_491_5, g_491_6, g_491_7, g_496_0, g_498_0, g_500_0, g_500_1, g_500_3, g_500_4, g_500_5, g_500_6, g_500_7, g_562_0, g_564_0, g_566_0, g_580_0, g_580_1, g_580_2, g_580_3, g_581_0, g_583_0, g_585_0, g_588_1, g_588_2, g_588_3, g_588_4, g_588_6, g_601_0, g_601_1, g_601_2, g_601_3, g_601_4, g_601_5, g_601_6, g_601_7, g_601_8, g_608_0, g_610_0, g_612_0, g_612_2, g_612_4, g_612_5, g_612_7, g_612_8, g_612_9, g_612_10, g_612_11, g_612_12, g_612_13, g_612_14, g_612_15, g_612_16, g_612_19, g_612_20, g_612_22, g_612_24, g_612_25, g_612_26, g_612_27, g_612_28, g_612_30, g_612_31, g_612_32, g_612_33, g_612_34, g_612_36, g_612_37, g_612_38, g_612_39, g_612_40, g_612_41, g_612_42, g_612_43, g_612_44, g_612_46, g_612_47, g_612_48, g_612_49, g_612_50, g_612_53, g_612_56, g_612_57, g_612_58, g_612_59, g_612_61, g_612_62, g_612_63, g_612_64, ek, ef]
    refine ⟨by omega, fun c => q1 ⟨hs, fun x x0 x1 => hj x x0 (by omega)⟩, fun c => ⟨fun z => absurd z (by decide), fun _ => ⟨by omega, by omega, fun d => ⟨by omega, ?_⟩, fun d => ⟨by omega, ?_⟩⟩⟩⟩
    · refine ih' (by omega) (by omega) (by omega) (fun x x0 x1 => ?_)
      by_cases y : x = j
      · rw [y]; exact d
      · exact hj x x0 (by omega)
    · exact z1 (q0 (fun z => d (z.2 j j0 (by omega))))
set_option maxRecDepth 100000 in
theorem W12_ra_7 {t s : Int} {τ : kzM} (t0 : 0 ≤ t) (t3 : t < 3) {T : Nat} (h : I3r τ T t) (h18 : τ.1 612 18 = t) (hl : lineP τ) (s0 : 0 ≤ s) (s1 : s ≤ 40) {Q : Int → kzM → Prop} (hQ : Q (ruS τ t s) τ) : ∀ (N r : Nat), (r : Int) ≤ τ.1 T 2 → (τ.1 T 2).toNat - r < N → Wz (lp (fun _ _ _ _ _ _ => none) (Z12_ruleAt_7B kdG0) N 612 s (rlS (keyN τ t) (keyF τ t) (τ.1 626) (τ.1 612 17) s r).1 (rlS (keyN τ t) (keyF τ t) (τ.1 626) (τ.1 612 17) s r).2 (r : Int)) τ Q := by
  have h1 := h.1
  have h2 := h.2.1
  have l1 := hl.1
  have l2 := hl.2.1
  intro N
  induction N with
  | zero => intro r; intros; omega
  | succ N ih =>
    intro r r1 r2
    rw [lp_succ]
    have ih' := ih (r + 1)
    generalize lp (fun _ _ _ _ _ _ => none) (Z12_ruleAt_7B kdG0) N = L at ih' ⊢
    by_cases c : τ.1 T 2 ≤ r
    · unfold Z12_ruleAt_7B
      simp only [Wz_rt, Wz_cnd, Wz_lI, Wz_lW, Wz_lL, Wz_cl, Wz_cv, Wz_nz, Wz_gI, Wz_gR, Wz_sI, Wz_aI, Wz_aZ, Wz_aL, Wz_aN, Wz_aR, Wz_tI, Wz_tZ, Wz_tL, Option.some.injEq, exists_eq_left', zB_0, zB_1, true_and, and_true, true_implies, not_true_eq_false, false_implies, not_false_eq_true, Classical.not_not, g_0, g_1, g_2, g_3, g_4, g_5, g_327, g_328, g_329, g_330, g_331, g_332, g_333, g_334, g_335, g_336, g_337, g_338, g_339, g_340, g_341, g_342, g_343, g_464, g_465, g_466, g_484, g_485, g_486, g_487, g_488, g_489, g_490, g_491, g_492, g_493, g_494, g_495, g_496, g_497, g_498, g_499, g_500, g_501, g_562, g_563, g_564, g_565, g_566, g_567, g_568, g_574, g_580, g_581, g_582, g_583, g_584, g_585, g_586, g_587, g_588, g_589, g_590, g_591, g_592, g_600, g_601, g_602, g_603, g_604, g_605, g_606, g_607, g_608, g_609, g_610, g_611, g_612, g_613, g_614, g_615, g_616, g_617, g_618, g_619, g_620, g_621, g_622, g_623, g_624, g_625, g_626, g_627, g_628, g_629, g_630, g_631, g_632, g_633, g_634, g_635, g_636, g_637, g_638, g_639, g_640, g_641, g_642, g_643, g_644, g_645, g_646, g_647, g_648, g_649, g_650, g_651, g_652, g_653, g_654, g_655, g_656, g_657, g_658, g_659, g_660, g_661, g_662, g_0_0, g_0_1, g_0_2, g_0_3, g_0_4, g_0_5, g_0_6, g_0_7, g_0_8, g_0_9, g_0_10, g_0_11, g_1_0, g_3_0, g_327_0, g_327_1, g_327_2, g_327_3, g_328_0, g_330_0, g_332_0, g_334_0, g_336_0, g_336_1, g_336_2, g_336_3, g_337_0, g_339_0, g_341_0, g_464_0, g_464_1, g_484_0, g_484_1, g_484_2, g_485_0, g_487_0, g_489_0, g_491_0, g_491_1, g_491_2, g_491_3, g_491_4, g_491_5, g_491_6, g_491_7, g_496_0, g_498_0, g_500_0, g_500_1, g_500_3, g_500_4, g_500_5, g_500_6, g_500_7, g_562_0, g_564_0, g_566_0, g_580_0, g_580_1, g_580_2, g_580_3, g_581_0, g_583_0, g_585_0, g_588_1, g_588_2, g_588_3, g_588_4, g_588_6, g_601_0, g_601_1, g_601_2, g_601_3, g_601_4, g_601_5, g_601_6, g_601_7, g_601_8, g_608_0, g_610_0, g_612_0, g_612_2, g_612_4, g_612_5, g_612_7, g_612_8, g_612_9, g_612_10, g_612_11, g_612_12, g_612_13, g_612_14, g_612_15, g_612_16, g_612_19, g_612_20, g_612_22, g_612_24, g_612_25, g_612_26, g_612_27, g_612_28, g_612_30, g_612_31, g_612_32, g_612_33, g_612_34, g_612_36, g_612_37, g_612_38, g_612_39, g_612_40, g_612_41, g_612_42, g_612_43, g_612_44, g_612_46, g_612_47, g_612_48, g_612_49, g_612_50, g_612_53, g_612_56, g_612_57, g_612_58, g_612_59, g_612_61, g_612_62, g_612_63, g_612_64, h18, h2]
      refine ⟨by omega, fun _ => ?_, fun d => absurd c d⟩
      unfold ruS at hQ
      rw [h2, show (τ.1 T 2).toNat = r by omega] at hQ
      exact hQ
    · have e := (h.2.2 r (by omega) (by omega)).1
      unfold eqR at e
      have ek : keyN τ t r = τ.1 (T + 11 + 4 * (r : Int).toNat) 1 := e.2.1
      have eb := e.1
      rw [← ek] at eb
      rw [show ((r + 1 : Nat) : Int) = (r : Int) + 1 by omega] at ih'
      have q0 : ¬fitP (keyN τ t) (keyF τ t) (τ.1 626) (τ.1 612 17) s r → Wz (Z12_ruleAt_113 kdG0 L 612 s (rlS (keyN τ t) (keyF τ t) (τ.1 626) (τ.1 612 17) s r).1 (rlS (keyN τ t) (keyF τ t) (τ.1 626) (τ.1 612 17) s r).2 (r : Int) (24 * t + r) 0) τ Q := fun z => by
        simp only [Z12_ruleAt_113, Z12_ruleAt_140, Wz_rt, Wz_cnd, Wz_lI, Wz_lW, Wz_lL, Wz_cl, Wz_cv, Wz_nz, Wz_gI, Wz_gR, Wz_sI, Wz_aI, Wz_aZ, Wz_aL, Wz_aN, Wz_aR, Wz_tI, Wz_tZ, Wz_tL, Option.some.injEq, exists_eq_left', zB_0, zB_1, true_and, and_true, true_implies, not_true_eq_false, false_implies, not_false_eq_true, Classical.not_not, g_0, g_1, g_2, g_3, g_4, g_5, g_327, g_328, g_329, g_330, g_331, g_332, g_333, g_334, g_335, g_336, g_337, g_338, g_339, g_340, g_341, g_342, g_343, g_464, g_465, g_466, g_484, g_485, g_486, g_487, g_488, g_489, g_490, g_491, g_492, g_493, g_494, g_495, g_496, g_497, g_498, g_499, g_500, g_501, g_562, g_563, g_564, g_565, g_566, g_567, g_568, g_574, g_580, g_581, g_582, g_583, g_584, g_585, g_586, g_587, g_588, g_589, g_590, g_591, g_592, g_600, g_601, g_602, g_603, g_604, g_605, g_606, g_607, g_608, g_609, g_610, g_611, g_612, g_613, g_614, g_615, g_616, g_617, g_618, g_619, g_620, g_621, g_622, g_623, g_624, g_625, g_626, g_627, g_628, g_629, g_630, g_631, g_632, g_633, g_634, g_635, g_636, g_637, g_638, g_639, g_640, g_641, g_642, g_643, g_644, g_645, g_646, g_647, g_648, g_649, g_650, g_651, g_652, g_653, g_654, g_655, g_656, g_657, g_658, g_659, g_660, g_661, g_662, g_0_0, g_0_1, g_0_2, g_0_3, g_0_4, g_0_5, g_0_6, g_0_7, g_0_8, g_0_9, g_0_10, g_0_11, g_1_0, g_3_0, g_327_0, g_327_1, g_327_2, g_327_3, g_328_0, g_330_0, g_332_0, g_334_0, g_336_0, g_336_1, g_336_2, g_336_3, g_337_0, g_339_0, g_341_0, g_464_0, g_464_1, g_484_0, g_484_1, g_484_2, g_485_0, g_487_0, g_489_0, g_491_0, g_491_1, g_491_2, g_491_3, g_491_4, g_491_5, g_491_6, g_491_7, g_496_0, g_498_0, g_500_0, g_500_1, g_500_3, g_500_4, g_500_5, g_500_6, g_500_7, g_562_0, g_564_0, g_566_0, g_580_0, g_580_1, g_580_2, g_580_3, g_581_0, g_583_0, g_585_0, g_588_1, g_588_2, g_588_3, g_588_4, g_588_6, g_601_0, g_601_1, g_601_2, g_601_3, g_601_4, g_601_5, g_601_6, g_601_7, g_601_8, g_608_0, g_610_0, g_612_0, g_612_2, g_612_4, g_612_5, g_612_7, g_612_8, g_612_9, g_612_10, g_612_11, g_612_12, g_612_13, g_612_14, g_612_15, g_612_16, g_612_19, g_612_20, g_612_22, g_612_24, g_612_25, g_612_26, g_612_27, g_612_28, g_612_30, g_612_31, g_612_32, g_612_33, g_612_34, g_612_36, g_612_37, g_612_38, g_612_39, g_612_40, g_612_41, g_612_42, g_612_43, g_612_44, g_612_46, g_612_47, g_612_48, g_612_49, g_612_50, g_612_53, g_612_56, g_612_57, g_612_58, g_612_59, g_612_61, g_612_62, g_612_63, g_612_64]
        rw [rlS_neg (fun q => z q.2)] at ih'
        exact ⟨by omega, ih' (by omega) (by omega)⟩
      have q1 : fitP (keyN τ t) (keyF τ t) (τ.1 626) (τ.1 612 17) s r → Wz (Z12_ruleAt_113 kdG0 L 612 s (rlS (keyN τ t) (keyF τ t) (τ.1 626) (τ.1 612 17) s r).1 (rlS (keyN τ t) (keyF τ t) (τ.1 626) (τ.1 612 17) s r).2 (r : Int) (24 * t + r) 1) τ Q := fun z => by
        have ek2 : τ.1 618 (24 * t + r) = keyN τ t r := rfl
        simp only [Z12_ruleAt_113, Z12_ruleAt_140, Wz_rt, Wz_cnd, Wz_lI, Wz_lW, Wz_lL, Wz_cl, Wz_cv, Wz_nz, Wz_gI, Wz_gR, Wz_sI, Wz_aI, Wz_aZ, Wz_aL, Wz_aN, Wz_aR, Wz_tI, Wz_tZ, Wz_tL, Option.some.injEq, exists_eq_left', zB_0, zB_1, true_and, and_true, true_implies, not_true_eq_false, false_implies, not_false_eq_true, Classical.not_not, g_0, g_1, g_2, g_3, g_4, g_5, g_327, g_328, g_329, g_330, g_331, g_332, g_333, g_334, g_335, g_336, g_337, g_338, g_339, g_340, g_341, g_342, g_343, g_464, g_465, g_466, g_484, g_485, g_486, g_487, g_488, g_489, g_490, g_491, g_492, g_493, g_494, g_495, g_496, g_497, g_498, g_499, g_500, g_501, g_562, g_563, g_564, g_565, g_566, g_567, g_568, g_574, g_580, g_581, g_582, g_583, g_584, g_585, g_586, g_587, g_588, g_589, g_590, g_591, g_592, g_600, g_601, g_602, g_603, g_604, g_605, g_606, g_607, g_608, g_609, g_610, g_611, g_612, g_613, g_614, g_615, g_616, g_617, g_618, g_619, g_620, g_621, g_622, g_623, g_624, g_625, g_626, g_627, g_628, g_629, g_630, g_631, g_632, g_633, g_634, g_635, g_636, g_637, g_638, g_639, g_640, g_641, g_642, g_643, g_644, g_645, g_646, g_647, g_648, g_649, g_650, g_651, g_652, g_653, g_654, g_655, g_656, g_657, g_658, g_659, g_660, g_661, g_662, g_0_0, g_0_1, g_0_2, g_0_3, g_0_4, g_0_5, g_0_6, g_0_7, g_0_8, g_0_9, g_0_10, g_0_11, g_1_0, g_3_0, g_327_0, g_327_1, g_327_2, g_327_3, g_328_0, g_330_0, g_332_0, g_334_0, g_336_0, g_336_1, g_336_2, g_336_3, g_337_0, g_339_0, g_341_0, g_464_0, g_464_1, g_484_0, g_484_1, g_484_2, g_485_0, g_487_0, g_489_0, g_491_0, g_491_1, g_491_2, g_491_3, g_491_4, g_491_5, g_491_6, g_491_7, g_496_0, g_498_0, g_500_0, g_500_1, g_500_3, g_500_4, g_500_5, g_500_6, g_500_7, g_562_0, g_564_0, g_566_0, g_580_0, g_580_1, g_580_2, g_580_3, g_581_0, g_583_0, g_585_0, g_588_1, g_588_2, g_588_3, g_588_4, g_588_6, g_601_0, g_601_1, g_601_2, g_601_3, g_601_4, g_601_5, g_601_6, g_601_7, g_601_8, g_608_0, g_610_0, g_612_0, g_612_2, g_612_4, g_612_5, g_612_7, g_612_8, g_612_9, g_612_10, g_612_11, g_612_12, g_612_13, g_612_14, g_612_15, g_612_16, g_612_19, g_612_20, g_612_22, g_612_24, g_612_25, g_612_26, g_612_27, g_612_28, g_612_30, g_612_31, g_612_32, g_612_33, g_612_34, g_612_36, g_612_37, g_612_38, g_612_39, g_612_40, g_612_41, g_612_42, g_612_43, g_612_44, g_612_46, g_612_47, g_612_48, g_612_49, g_612_50, g_612_53, g_612_56, g_612_57, g_612_58, g_612_59, g_612_61, g_612_62, g_612_63, g_612_64, ek2]
        refine ⟨fun d => absurd d (by decide), fun _ => ⟨by omega, fun d => ⟨by omega, ?_⟩, fun d => ⟨by omega, by omega, ?_⟩⟩⟩
        · rw [rlS_neg (by omega)] at ih'
          exact ih' (by omega) (by omega)
        · rw [rlS_pos ⟨by omega, z⟩] at ih'
          exact ih' (by omega) (by omega)
      have ek2 : τ.1 618 (24 * t + r) = keyN τ t r := rfl
      unfold Z12_ruleAt_7B
      simp only [Z12_ruleAt_54, Wz_rt, Wz_cnd, Wz_lI, Wz_lW, Wz_lL, Wz_cl, Wz_cv, Wz_nz, Wz_gI, Wz_gR, Wz_sI, Wz_aI, Wz_aZ, Wz_aL, Wz_aN, Wz_aR, Wz_tI, Wz_tZ, Wz_tL, Option.some.injEq, exists_eq_left', zB_0, zB_1, true_and, and_true, true_implies, not_true_eq_false, false_implies, not_false_eq_true, Classical.not_not, g_0, g_1, g_2, g_3, g_4, g_5, g_327, g_328, g_329, g_330, g_331, g_332, g_333, g_334, g_335, g_336, g_337, g_338, g_339, g_340, g_341, g_342, g_343, g_464, g_465, g_466, g_484, g_485, g_486, g_487, g_488, g_489, g_490, g_491, g_492, g_493, g_494, g_495, g_496, g_497, g_498, g_499, g_500, g_501, g_562, g_563, g_564, g_565, g_566, g_567, g_568, g_574, g_580, g_581, g_582, g_583, g_584, g_585, g_586, g_587, g_588, g_589, g_590, g_591, g_592, g_600, g_601, g_602, g_603, g_604, g_605, g_606, g_607, g_608, g_609, g_610, g_611, g_612, g_613, g_614, g_615, g_616, g_617, g_618, g_619, g_620, g_621, g_622, g_623, g_624, g_625, g_626, g_627, g_628, g_629, g_630, g_631, g_632, g_633, g_634, g_635, g_636, g_637, g_638, g_639, g_640, g_641, g_642, g_643, g_644, g_645, g_646, g_647, g_648, g_649, g_650, g_651, g_652, g_653, g_654, g_655, g_656, g_657, g_658, g_659, g_660, g_661, g_662, g_0_0, g_0_1, g_0_2, g_0_3, g_0_4, g_0_5, g_0_6, g_0_7, g_0_8, g_0_9, g_0_10, g_0_11, g_1_0, g_3_0, g_327_0, g_327_1, g_327_2, g_327_3, g_328_0, g_330_0, g_332_0, g_334_0, g_336_0, g_336_1, g_336_2, g_336_3, g_337_0, g_339_0, g_341_0, g_464_0, g_464_1, g_484_0, g_484_1, g_484_2, g_485_0, g_487_0, g_489_0, g_491_0, g_491_1, g_491_2, g_491_3, g_491_4, g_491_5, g_491_6, g_491_7, g_496_0, g_498_0, g_500_0, g_500_1, g_500_3, g_500_4, g_500_5, g_500_6, g_500_7, g_562_0, g_564_0, g_566_0, g_580_0, g_580_1, g_580_2, g_580_3, g_581_0, g_583_0, g_585_0, g_588_1, g_588_2, g_588_3, g_588_4, g_588_6, g_601_0, g_601_1, g_601_2, g_601_3, g_601_4, g_601_5, g_601_6, g_601_7, g_601_8, g_608_0, g_610_0, g_612_0, g_612_2, g_612_4, g_612_5, g_612_7, g_612_8, g_612_9, g_612_10, g_612_11, g_612_12, g_612_13, g_612_14, g_612_15, g_612_16, g_612_19, g_612_20, g_612_22, g_612_24, g_612_25, g_612_26, g_612_27, g_612_28, g_612_30, g_612_31, g_612_32, g_612_33, g_612_34, g_612_36, g_612_37, g_612_38, g_612_39, g_612_40, g_612_41, g_612_42, g_612_43, g_612_44, g_612_46, g_612_47, g_612_48, g_612_49, g_612_50, g_612_53, g_612_56, g_612_57, g_612_58, g_612_59, g_612_61, g_612_62, g_612_63, g_612_64, h18, h2, ek2]
      unfold Z12_ruleAt_59
      refine ⟨by omega, fun d => absurd d c, fun _ => ⟨by omega, by omega, by omega, fun d => ?_, fun d => ?_⟩⟩
      · obtain ⟨M, hM⟩ : ∃ M, NN = M + 1 := ⟨NN - 1, by unfold NN; rfl⟩
        rw [hM]
        refine W12_ra_0 (t := t) (by omega) (by omega) (q0 (fun z => ?_)) M 0
        have := z.1
        omega
      · exact W12_ra_59 t0 t3 (by omega) (by omega) (by omega) (by omega) s0 (by omega) q1 q0 NN 0 (by omega) (by omega) (by unfold NN; omega) (fun x a b => by omega)
set_option maxRecDepth 100000 in
theorem W12_ruleAt {t s : Int} {τ : kzM} (t0 : 0 ≤ t) (t3 : t < 3) {T : Nat} (h : I3r τ T t) (h18 : τ.1 612 18 = t) (hl : lineP τ) (s0 : 0 ≤ s) (s1 : s ≤ 40) {Q : Int → kzM → Prop} (hQ : Q (ruS τ t s) τ) : Wz (Z12_ruleAt kdG0 612 s) τ Q := by
  unfold Z12_ruleAt Z12_ruleAt_7
  have h1 := h.1
  exact W12_ra_7 t0 t3 h h18 hl s0 s1 hQ NN 0 (by omega) (by unfold NN; omega)
