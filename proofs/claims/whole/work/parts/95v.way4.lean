/-! ways: the reference's least bound and its way -/
set_option maxRecDepth 100000 in
theorem W12_io_2 {τ σ : kzM} {n : Nat} (hn : 2 ≤ n ∧ n ≤ 5) (hl : lisR τ σ n) {i : Int} (i0 : 0 ≤ i) (i1 : i < szN n) {Q : Int → kzM → Prop} (hQ : Q i σ) : ∀ (N : Nat) (j : Int), 0 ≤ j → j ≤ i → i - j < N → Wz (lp (fun _ _ _ _ => none) (Z12_indexOf_2B kdG0) N 612 (codN n i) j) σ Q := by
  have sz := (way_n hn).2.2.2.1
  intro N
  induction N with
  | zero => intro j; intros; omega
  | succ N ih =>
    intro j j0 j1 jN
    rw [lp_succ]
    have ih' := ih (j + 1)
    generalize lp (fun _ _ _ _ => none) (Z12_indexOf_2B kdG0) N = L at ih' ⊢
    unfold Z12_indexOf_2B
    simp only [Wz_rt, Wz_cnd, Wz_lI, Wz_lW, Wz_lL, Wz_cl, Wz_cv, Wz_nz, Wz_gI, Wz_gR, Wz_sI, Wz_aI, Wz_aZ, Wz_aL, Wz_aN, Wz_aR, Wz_tI, Wz_tZ, Wz_tL, Option.some.injEq, exists_eq_left', zB_0, zB_1, true_and, and_true, true_implies, not_true_eq_false, false_implies, not_false_eq_true, Classical.not_not, g_0, g_1, g_2, g_3, g_4, g_5, g_327, g_328, g_329, g_330, g_331, g_332, g_333, g_334, g_335, g_336, g_337, g_338, g_339, g_340, g_341, g_342, g_343, g_464, g_465, g_466, g_484, g_485, g_486, g_487, g_488, g_489, g_490, g_491, g_492, g_493, g_494, g_495, g_496, g_497, g_498, g_499, g_500, g_501, g_562, g_563, g_564, g_565, g_566, g_567, g_568, g_574, g_580, g_581, g_582, g_583, g_584, g_585, g_586, g_587, g_588, g_589, g_590, g_591, g_592, g_600, g_601, g_602, g_603, g_604, g_605, g_606, g_607, g_608, g_609, g_610, g_611, g_612, g_613, g_614, g_615, g_616, g_617, g_618, g_619, g_620, g_621, g_622, g_623, g_624, g_625, g_626, g_627, g_628, g_629, g_630, g_631, g_632, g_633, g_634, g_635, g_636, g_637, g_638, g_639, g_640, g_641, g_642, g_643, g_644, g_645, g_646, g_647, g_648, g_649, g_650, g_651, g_652, g_653, g_654, g_655, g_656, g_657, g_658, g_659, g_660, g_661, g_662, g_0_0, g_0_1, g_0_2, g_0_3, g_0_4, g_0_5, g_0_6, g_0_7, g_0_8, g_0_9, g_0_10, g_0_11, g_1_0, g_3_0, g_327_0, g_327_1, g_327_2, g_327_3, g_328_0, g_330_0, g_332_0, g_334_0, g_336_0, g_336_1, g_336_2, g_336_3, g_337_0, g_339_0, g_341_0, g_464_0, g_464_1, g_484_0, g_484_1, g_484_2, g_485_0, g_487_0, g_489_0, g_491_0, g_491_1, g_491_2, g_491_3, g_491_4, g_491_5, g_491_6, g_491_7, g_496_0, g_498_0, g_500_0, g_500_1, g_500_3, g_500_4, g_500_5, g_500_6, g_500_7, g_562_0, g_564_0, g_566_0, g_580_0, g_580_1, g_580_2, g_580_3, g_581_0, g_583_0, g_585_0, g_588_1, g_588_2, g_588_3, g_588_4, g_588_6, g_601_0, g_601_1, g_601_2, g_601_3, g_601_4, g_601_5, g_601_6, g_601_7, g_601_8, g_608_0, g_610_0, g_612_0, g_612_2, g_612_4, g_612_5, g_612_7, g_612_8, g_612_9, g_612_10, g_612_11, g_612_12, g_612_13, g_612_14, g_612_15, g_612_16, g_612_19, g_612_20, g_612_22, g_612_24, g_612_25, g_612_26, g_612_27, g_612_28, g_612_30, g_612_31, g_612_32, g_612_33, g_612_34, g_612_36, g_612_37, g_612_38, g_612_39, g_612_40, g_612_41, g_612_42, g_612_43, g_612_44, g_612_46, g_612_47, g_612_48, g_612_49, g_612_50, g_612_53, g_612_56, g_612_57, g_612_58, g_612_59, g_612_61, g_612_62, g_612_63, g_612_64]
    refine ⟨by omega, fun c => ?_, fun c => ⟨by omega, ?_⟩⟩
    · rw [(hl.2.2 j j0 (by omega)).1] at c
      rw [codN_inj hn j0 (by omega) i0 i1 c]
      exact hQ
    · rw [(hl.2.2 j j0 (by omega)).1] at c
      have : j ≠ i := fun z => c (by rw [z])
      exact ih' (by omega) (by omega) (by omega)
set_option maxRecDepth 100000 in
theorem W12_indexOf {τ σ : kzM} {n : Nat} (hn : 2 ≤ n ∧ n ≤ 5) (hl : lisR τ σ n) {i : Int} (i0 : 0 ≤ i) (i1 : i < szN n) {Q : Int → kzM → Prop} (hQ : Q i σ) : Wz (Z12_indexOf kdG0 612 (codN n i)) σ Q := by
  have sz := (way_n hn).2.2.2.1
  unfold Z12_indexOf Z12_indexOf_2
  exact W12_io_2 hn hl i0 i1 hQ NN 0 (by omega) i0 (by unfold NN; omega)
theorem cosN_b {τ : kzM} (hI : Inv τ) {n : Nat} (h5 : τ.1 588 0 = n) {i : Int} (i0 : 0 ≤ i) (i1 : i < szN n) : 0 ≤ cosN τ n i ∧ cosN τ n i < 1000000 := by
  have e : (τ.1 588 0).toNat = n := by omega
  exact cP_b hI (by rw [e]; exact lay_mem i0 i1)
/-- the next greater cost -/
def nxC (c : Int → Int) (t b : Int) (j : Int) : Prop := (b = 1000000000 ∧ ∀ v : Int, 0 ≤ v → v < j → c v ≤ t) ∨ ((∃ v : Int, (0 ≤ v ∧ v < j) ∧ c v = b) ∧ t < b ∧ ∀ v : Int, 0 ≤ v → v < j → t < c v → b ≤ c v)
set_option maxRecDepth 100000 in
theorem W12_lm_57 {τ σ : kzM} (hI : Inv τ) {n : Nat} (hn : 2 ≤ n ∧ n ≤ 5) (h5 : τ.1 588 0 = n) (hl : lisR τ σ n) {f s t : Int} (s0 : 0 ≤ s) (s1 : s < szN n) {K : Nat → Int → Int → Int → kzM → Option (Int × kzM)} {Q : Int → kzM → Prop} (hs : cosN τ n s ≤ t) (hx : ∃ v : Int, (0 ≤ v ∧ v < szN n) ∧ t < cosN τ n v) (hQ : ∀ b ρ, nxC (cosN τ n) t b (szN n) → t < b → lisR τ ρ n → disL (szN n) (cosN τ n) (adL n) s b 1000000000 (ρ.1 662) → Wz (K 612 f s b) ρ Q) : ∀ (N : Nat) (j b : Int), 0 ≤ j → j ≤ szN n → szN n - j < N → nxC (cosN τ n) t b j → Wz (lp (fun _ _ _ _ _ _ _ => none) (Z12_leastMost_57B kdG0 K) N 612 f s t b j) σ Q := by
  have sz := (way_n hn).2.2.2.1
  have i9 := hI.2.2.2.2.2.2.2.2
  unfold I9 at i9
  have i91 := i9.1
  intro N
  induction N with
  | zero => intro j; intros; omega
  | succ N ih =>
    intro j b j0 j1 jN hb
    rw [lp_succ]
    have ih' := ih (j + 1)
    generalize lp (fun _ _ _ _ _ _ _ => none) (Z12_leastMost_57B kdG0 K) N = L at ih' ⊢
    have e65 := hl.2.1
    unfold Z12_leastMost_57B
    simp only [Z12_leastMost_99, Z12_leastMost_101, Wz_rt, Wz_cnd, Wz_lI, Wz_lW, Wz_lL, Wz_cl, Wz_cv, Wz_nz, Wz_gI, Wz_gR, Wz_sI, Wz_aI, Wz_aZ, Wz_aL, Wz_aN, Wz_aR, Wz_tI, Wz_tZ, Wz_tL, Option.some.injEq, exists_eq_left', zB_0, zB_1, true_and, and_true, true_implies, not_true_eq_false, false_implies, not_false_eq_true, Classical.not_not, g_0, g_1, g_2, g_3, g_4, g_5, g_327, g_328, g_329, g_330, g_331, g_332, g_333, g_334, g_335, g_336, g_337, g_338, g_339, g_340, g_341, g_342, g_343, g_464, g_465, g_466, g_484, g_485, g_486, g_487, g_488, g_489, g_490, g_491, g_492, g_493, g_494, g_495, g_496, g_497, g_498, g_499, g_500, g_501, g_562, g_563, g_564, g_565, g_566, g_567, g_568, g_574, g_580, g_581, g_582, g_583, g_584, g_585, g_586, g_587, g_588, g_589, g_590, g_591, g_592, g_600, g_601, g_602, g_603, g_604, g_605, g_606, g_607, g_608, g_609, g_610, g_611, g_612, g_613, g_614, g_615, g_616, g_617, g_618, g_619, g_620, g_621, g_622, g_623, g_624, g_625, g_626, g_627, g_628, g_629, g_630, g_631, g_632, g_633, g_634, g_635, g_636, g_637, g_638, g_639, g_640, g_641, g_642, g_643, g_644, g_645, g_646, g_647, g_648, g_649, g_650, g_651, g_652, g_653, g_654, g_655, g_656, g_657, g_658, g_659, g_660, g_661, g_662, g_0_0, g_0_1, g_0_2, g_0_3, g_0_4, g_0_5, g_0_6, g_0_7, g_0_8, g_0_9, g_0_10, g_0_11, g_1_0, g_3_0, g_327_0, g_327_1, g_327_2, g_327_3, g_328_0, g_330_0, g_332_0, g_334_0, g_336_0, g_336_1, g_336_2, g_336_3, g_337_0, g_339_0, g_341_0, g_464_0, g_464_1, g_484_0, g_484_1, g_484_2, g_485_0, g_487_0, g_489_0, g_491_0, g_491_1, g_491_2, g_491_3, g_491_4, g_491_5, g_491_6, g_491_7, g_496_0, g_498_0, g_500_0, g_500_1, g_500_3, g_500_4, g_500_5, g_500_6, g_500_7, g_562_0, g_564_0, g_566_0, g_580_0, g_580_1, g_580_2, g_580_3, g_581_0, g_583_0, g_585_0, g_588_1, g_588_2, g_588_3, g_588_4, g_588_6, g_601_0, g_601_1, g_601_2, g_601_3, g_601_4, g_601_5, g_601_6, g_601_7, g_601_8, g_608_0, g_610_0, g_612_0, g_612_2, g_612_4, g_612_5, g_612_7, g_612_8, g_612_9, g_612_10, g_612_11, g_612_12, g_612_13, g_612_14, g_612_15, g_612_16, g_612_19, g_612_20, g_612_22, g_612_24, g_612_25, g_612_26, g_612_27, g_612_28, g_612_30, g_612_31, g_612_32, g_612_33, g_612_34, g_612_36, g_612_37, g_612_38, g_612_39, g_612_40, g_612_41, g_612_42, g_612_43, g_612_44, g_612_46, g_612_47, g_612_48, g_612_49, g_612_50, g_612_53, g_612_56, g_612_57, g_612_58, g_612_59, g_612_61, g_612_62, g_612_63, g_612_64, e65]
    refine ⟨fun c => ?_, fun c => ⟨by omega, fun d => ⟨by omega, ih' b (by omega) (by omega) (by omega) ?_⟩, fun d => ⟨by omega, fun e => ⟨by omega, ih' b (by omega) (by omega) (by omega) ?_⟩, fun e => ⟨by omega, by omega, ih' _ (by omega) (by omega) (by omega) ?_⟩⟩⟩⟩
    · have ej : j = szN n := by omega
      subst ej
      have tb : t < b := by
        rcases hb with ⟨_, q⟩ | q
        · obtain ⟨v, hv, hv2⟩ := hx
          have := q v hv.1 hv.2
          omega
        · exact q.2.1
      refine W12_findSteps hn (by omega) s0 s1 (show cosN τ n s ≤ b by omega) hl fun ρ r1 r2 => ?_
      exact hQ b ρ hb tb (hl.on r1) r2
    · rw [(hl.2.2 j j0 (by omega)).2] at d
      rcases hb with ⟨q1, q2⟩ | ⟨⟨v, q1, q2⟩, q3, q4⟩
      · refine Or.inl ⟨q1, fun v v0 v1 => ?_⟩
        by_cases y : v = j
        · rw [y]; exact d
        · exact q2 v v0 (by omega)
      · refine Or.inr ⟨⟨v, by omega, q2⟩, q3, fun w w0 w1 w2 => ?_⟩
        by_cases y : w = j
        · rw [y] at w2
          unfold cosN at w2
          omega
        · exact q4 w w0 (by omega) w2
    · rw [(hl.2.2 j j0 (by omega)).2] at d e
      have cb := cosN_b hI h5 j0 (show j < szN n by omega)
      unfold cosN at cb
      rcases hb with ⟨q1, q2⟩ | ⟨⟨v, q1, q2⟩, q3, q4⟩
      · omega
      · refine Or.inr ⟨⟨v, by omega, q2⟩, q3, fun w w0 w1 w2 => ?_⟩
        by_cases y : w = j
        · rw [y]; exact e
        · exact q4 w w0 (by omega) w2
    · rw [(hl.2.2 j j0 (by omega)).2] at d e ⊢
      refine Or.inr ⟨⟨j, by omega, rfl⟩, by omega, fun w w0 w1 w2 => ?_⟩
      by_cases y : w = j
      · rw [y]; exact Int.le_refl _
      · rcases hb with ⟨q1, q2⟩ | ⟨⟨v, q1, q2⟩, q3, q4⟩
        · have := q2 w w0 (by omega)
          omega
        · have := q4 w w0 (by omega) w2
          omega
set_option maxRecDepth 100000 in
theorem W12_lm_37 {τ : kzM} (hI : Inv τ) {n : Nat} (hn : 2 ≤ n ∧ n ≤ 5) (h5 : τ.1 588 0 = n) {f s : Int} (f0 : 0 ≤ f) (f1 : f < szN n) (s0 : 0 ≤ s) (s1 : s < szN n) {Q : Int → kzM → Prop} (hQ : ∀ T ρ, lst (szN n) (cosN τ n) (adL n) s f T → T < 1000000000 → lisR τ ρ n → disL (szN n) (cosN τ n) (adL n) s T 1000000000 (ρ.1 662) → Q T ρ) : ∀ (N : Nat) (t : Int) (σ : kzM), (wS (fun v => zp (t < cosN τ n v)) (szN n)).toNat < N → t < 1000000 → cosN τ n s ≤ t → (∀ t', cnn (szN n) (cosN τ n) (adL n) s t' f → t ≤ t') → lisR τ σ n → disL (szN n) (cosN τ n) (adL n) s t 1000000000 (σ.1 662) → Wz (lp (fun _ _ _ _ _ => none) (Z12_leastMost_37B kdG0) N 612 f s t) σ Q := by
  have sz := (way_n hn).2.2.2.1
  intro N
  induction N with
  | zero => intro t; intros; omega
  | succ N ih =>
    intro t σ hN tb hs hm hl hd
    rw [lp_succ]
    have ih' := ih
    generalize lp (fun _ _ _ _ _ => none) (Z12_leastMost_37B kdG0) N = L at ih' ⊢
    unfold Z12_leastMost_37B
    simp only [Wz_rt, Wz_cnd, Wz_lI, Wz_lW, Wz_lL, Wz_cl, Wz_cv, Wz_nz, Wz_gI, Wz_gR, Wz_sI, Wz_aI, Wz_aZ, Wz_aL, Wz_aN, Wz_aR, Wz_tI, Wz_tZ, Wz_tL, Option.some.injEq, exists_eq_left', zB_0, zB_1, true_and, and_true, true_implies, not_true_eq_false, false_implies, not_false_eq_true, Classical.not_not, g_0, g_1, g_2, g_3, g_4, g_5, g_327, g_328, g_329, g_330, g_331, g_332, g_333, g_334, g_335, g_336, g_337, g_338, g_339, g_340, g_341, g_342, g_343, g_464, g_465, g_466, g_484, g_485, g_486, g_487, g_488, g_489, g_490, g_491, g_492, g_493, g_494, g_495, g_496, g_497, g_498, g_499, g_500, g_501, g_562, g_563, g_564, g_565, g_566, g_567, g_568, g_574, g_580, g_581, g_582, g_583, g_584, g_585, g_586, g_587, g_588, g_589, g_590, g_591, g_592, g_600, g_601, g_602, g_603, g_604, g_605, g_606, g_607, g_608, g_609, g_610, g_611, g_612, g_613, g_614, g_615, g_616, g_617, g_618, g_619, g_620, g_621, g_622, g_623, g_624, g_625, g_626, g_627, g_628, g_629, g_630, g_631, g_632, g_633, g_634, g_635, g_636, g_637, g_638, g_639, g_640, g_641, g_642, g_643, g_644, g_645, g_646, g_647, g_648, g_649, g_650, g_651, g_652, g_653, g_654, g_655, g_656, g_657, g_658, g_659, g_660, g_661, g_662, g_0_0, g_0_1, g_0_2, g_0_3, g_0_4, g_0_5, g_0_6, g_0_7, g_0_8, g_0_9, g_0_10, g_0_11, g_1_0, g_3_0, g_327_0, g_327_1, g_327_2, g_327_3, g_328_0, g_330_0, g_332_0, g_334_0, g_336_0, g_336_1, g_336_2, g_336_3, g_337_0, g_339_0, g_341_0, g_464_0, g_464_1, g_484_0, g_484_1, g_484_2, g_485_0, g_487_0, g_489_0, g_491_0, g_491_1, g_491_2, g_491_3, g_491_4, g_491_5, g_491_6, g_491_7, g_496_0, g_498_0, g_500_0, g_500_1, g_500_3, g_500_4, g_500_5, g_500_6, g_500_7, g_562_0, g_564_0, g_566_0, g_580_0, g_580_1, g_580_2, g_580_3, g_581_0, g_583_0, g_585_0, g_588_1, g_588_2, g_588_3, g_588_4, g_588_6, g_601_0, g_601_1, g_601_2, g_601_3, g_601_4, g_601_5, g_601_6, g_601_7, g_601_8, g_608_0, g_610_0, g_612_0, g_612_2, g_612_4, g_612_5, g_612_7, g_612_8, g_612_9, g_612_10, g_612_11, g_612_12, g_612_13, g_612_14, g_612_15, g_612_16, g_612_19, g_612_20, g_612_22, g_612_24, g_612_25, g_612_26, g_612_27, g_612_28, g_612_30, g_612_31, g_612_32, g_612_33, g_612_34, g_612_36, g_612_37, g_612_38, g_612_39, g_612_40, g_612_41, g_612_42, g_612_43, g_612_44, g_612_46, g_612_47, g_612_48, g_612_49, g_612_50, g_612_53, g_612_56, g_612_57, g_612_58, g_612_59, g_612_61, g_612_62, g_612_63, g_612_64]
    refine ⟨by omega, fun c => ?_, fun c => ?_⟩
    · have nc : ¬cnn (szN n) (cosN τ n) (adL n) s t f := by
        rcases hd f f0 f1 with ⟨d, e, dl, _⟩ | ⟨_, e⟩
        · omega
        · exact e
      have hx : ∃ v : Int, (0 ≤ v ∧ v < szN n) ∧ t < cosN τ n v := by
        by_cases q : ∃ v : Int, (0 ≤ v ∧ v < szN n) ∧ t < cosN τ n v
        · exact q
        · exact absurd (cnn_all hn (fun v v0 v1 => by
            by_cases y : cosN τ n v ≤ t
            · exact y
            · exact absurd ⟨v, ⟨v0, v1⟩, by omega⟩ q) s0 s1 f0 f1) nc
      unfold Z12_leastMost_57
      refine W12_lm_57 hI hn h5 hl s0 s1 hs hx (fun b ρ q1 q2 q3 q4 => ?_) NN 0 _ (by omega) (by omega) (by unfold NN; omega) (Or.inl ⟨rfl, fun v a b => by omega⟩)
      rcases q1 with ⟨_, q1⟩ | ⟨⟨v, q1, q5⟩, _, q6⟩
      · obtain ⟨v, hv, hv2⟩ := hx
        have := q1 v hv.1 hv.2
        omega
      · have cb := cosN_b hI h5 q1.1 q1.2
        have lt := cn_lt (P := fun w => b < cosN τ n w) (Q := fun w => t < cosN τ n w) q1.1 q1.2 (fun j _ _ p => by omega) (by omega) (by omega)
        have nb := cn_b (fun w => b < cosN τ n w) (szN n)
        refine ih' b ρ (by omega) (by omega) (by omega) (fun t' ht => ?_) q3 q4
        by_cases y : b ≤ t'
        · exact y
        · exfalso
          obtain ⟨k, hk⟩ := ht
          refine nc ⟨k, rcK_gap (fun w w0 w1 hw => ?_) s0 s1 k f f0 f1 hk⟩
          by_cases z : cosN τ n w ≤ t
          · exact z
          · have := q6 w w0 w1 (by omega)
            omega
    · refine hQ t σ ⟨?_, hm⟩ (by omega) hl hd
      rcases hd f f0 f1 with ⟨d, e, _, h⟩ | ⟨e, _⟩
      · exact ⟨d, h.1⟩
      · exact absurd e c
set_option maxRecDepth 100000 in
theorem W12_leastMost {τ σ : kzM} (hI : Inv τ) {n : Nat} (hn : 2 ≤ n ∧ n ≤ 5) (h5 : τ.1 588 0 = n) (hl : lisR τ σ n) {f s : Int} (f0 : 0 ≤ f) (f1 : f < szN n) (s0 : 0 ≤ s) (s1 : s < szN n) {Q : Int → kzM → Prop} (hQ : ∀ T ρ, lst (szN n) (cosN τ n) (adL n) s f T → T < 1000000000 → lisR τ ρ n → disL (szN n) (cosN τ n) (adL n) s T 1000000000 (ρ.1 662) → Q T ρ) : Wz (Z12_leastMost kdG0 612 f s) σ Q := by
  have sz := (way_n hn).2.2.2.1
  have i9 := hI.2.2.2.2.2.2.2.2
  unfold I9 at i9
  have i91 := i9.1
  have cf : σ.1 661 f = cosN τ n f := (hl.2.2 f f0 f1).2
  have cs : σ.1 661 s = cosN τ n s := (hl.2.2 s s0 s1).2
  have bf := cosN_b hI h5 f0 f1
  have bs := cosN_b hI h5 s0 s1
  have go : ∀ t, t < 1000000 → cosN τ n s ≤ t → (t = cosN τ n s ∨ t = cosN τ n f) → Wz (Z12_leastMost_30 kdG0 612 f s t) σ Q := fun t tb h1 h2 => by
    simp only [Z12_leastMost_30, Wz_rt, Wz_cnd, Wz_lI, Wz_lW, Wz_lL, Wz_cl, Wz_cv, Wz_nz, Wz_gI, Wz_gR, Wz_sI, Wz_aI, Wz_aZ, Wz_aL, Wz_aN, Wz_aR, Wz_tI, Wz_tZ, Wz_tL, Option.some.injEq, exists_eq_left', zB_0, zB_1, true_and, and_true, true_implies, not_true_eq_false, false_implies, not_false_eq_true, Classical.not_not, g_0, g_1, g_2, g_3, g_4, g_5, g_327, g_328, g_329, g_330, g_331, g_332, g_333, g_334, g_335, g_336, g_337, g_338, g_339, g_340, g_341, g_342, g_343, g_464, g_465, g_466, g_484, g_485, g_486, g_487, g_488, g_489, g_490, g_491, g_492, g_493, g_494, g_495, g_496, g_497, g_498, g_499, g_500, g_501, g_562, g_563, g_564, g_565, g_566, g_567, g_568, g_574, g_580, g_581, g_582, g_583, g_584, g_585, g_586, g_587, g_588, g_589, g_590, g_591, g_592, g_600, g_601, g_602, g_603, g_604, g_605, g_606, g_607, g_608, g_609, g_610, g_611, g_612, g_613, g_614, g_615, g_616, g_617, g_618, g_619, g_620, g_621, g_622, g_623, g_624, g_625, g_626, g_627, g_628, g_629, g_630, g_631, g_632, g_633, g_634, g_635, g_636, g_637, g_638, g_639, g_640, g_641, g_642, g_643, g_644, g_645, g_646, g_647, g_648, g_649, g_650, g_651, g_652, g_653, g_654, g_655, g_656, g_657, g_658, g_659, g_660, g_661, g_662, g_0_0, g_0_1, g_0_2, g_0_3, g_0_4, g_0_5, g_0_6, g_0_7, g_0_8, g_0_9, g_0_10, g_0_11, g_1_0, g_3_0, g_327_0, g_327_1, g_327_2, g_327_3, g_328_0, g_330_0, g_332_0, g_334_0, g_336_0, g_336_1, g_336_2, g_336_3, g_337_0, g_339_0, g_341_0, g_464_0, g_464_1, g_484_0, g_484_1, g_484_2, g_485_0, g_487_0, g_489_0, g_491_0, g_491_1, g_491_2, g_491_3, g_491_4, g_491_5, g_491_6, g_491_7, g_496_0, g_498_0, g_500_0, g_500_1, g_500_3, g_500_4, g_500_5, g_500_6, g_500_7, g_562_0, g_564_0, g_566_0, g_580_0, g_580_1, g_580_2, g_580_3, g_581_0, g_583_0, g_585_0, g_588_1, g_588_2, g_588_3, g_588_4, g_588_6, g_601_0, g_601_1, g_601_2, g_601_3, g_601_4, g_601_5, g_601_6, g_601_7, g_601_8, g_608_0, g_610_0, g_612_0, g_612_2, g_612_4, g_612_5, g_612_7, g_612_8, g_612_9, g_612_10, g_612_11, g_612_12, g_612_13, g_612_14, g_612_15, g_612_16, g_612_19, g_612_20, g_612_22, g_612_24, g_612_25, g_612_26, g_612_27, g_612_28, g_612_30, g_612_31, g_612_32, g_612_33, g_612_34, g_612_36, g_612_37, g_612_38, g_612_39, g_612_40, g_612_41, g_612_42, g_612_43, g_612_44, g_612_46, g_612_47, g_612_48, g_612_49, g_612_50, g_612_53, g_612_56, g_612_57, g_612_58, g_612_59, g_612_61, g_612_62, g_612_63, g_612_64]
    refine W12_findSteps hn (by omega) s0 s1 h1 hl fun ρ r1 r2 => ?_
    unfold Z12_leastMost_37
    have nb := cn_b (fun w => t < cosN τ n w) (szN n)
    refine W12_lm_37 hI hn h5 f0 f1 s0 s1 hQ NN t ρ (by unfold NN; omega) tb h1 (fun t' ht => ?_) (hl.on r1) r2
    obtain ⟨k, hk⟩ := ht
    have := rcK_c k f hk
    rcases h2 with h2 | h2 <;> omega
  simp only [Z12_leastMost, Wz_rt, Wz_cnd, Wz_lI, Wz_lW, Wz_lL, Wz_cl, Wz_cv, Wz_nz, Wz_gI, Wz_gR, Wz_sI, Wz_aI, Wz_aZ, Wz_aL, Wz_aN, Wz_aR, Wz_tI, Wz_tZ, Wz_tL, Option.some.injEq, exists_eq_left', zB_0, zB_1, true_and, and_true, true_implies, not_true_eq_false, false_implies, not_false_eq_true, Classical.not_not, g_0, g_1, g_2, g_3, g_4, g_5, g_327, g_328, g_329, g_330, g_331, g_332, g_333, g_334, g_335, g_336, g_337, g_338, g_339, g_340, g_341, g_342, g_343, g_464, g_465, g_466, g_484, g_485, g_486, g_487, g_488, g_489, g_490, g_491, g_492, g_493, g_494, g_495, g_496, g_497, g_498, g_499, g_500, g_501, g_562, g_563, g_564, g_565, g_566, g_567, g_568, g_574, g_580, g_581, g_582, g_583, g_584, g_585, g_586, g_587, g_588, g_589, g_590, g_591, g_592, g_600, g_601, g_602, g_603, g_604, g_605, g_606, g_607, g_608, g_609, g_610, g_611, g_612, g_613, g_614, g_615, g_616, g_617, g_618, g_619, g_620, g_621, g_622, g_623, g_624, g_625, g_626, g_627, g_628, g_629, g_630, g_631, g_632, g_633, g_634, g_635, g_636, g_637, g_638, g_639, g_640, g_641, g_642, g_643, g_644, g_645, g_646, g_647, g_648, g_649, g_650, g_651, g_652, g_653, g_654, g_655, g_656, g_657, g_658, g_659, g_660, g_661, g_662, g_0_0, g_0_1, g_0_2, g_0_3, g_0_4, g_0_5, g_0_6, g_0_7, g_0_8, g_0_9, g_0_10, g_0_11, g_1_0, g_3_0, g_327_0, g_327_1, g_327_2, g_327_3, g_328_0, g_330_0, g_332_0, g_334_0, g_336_0, g_336_1, g_336_2, g_336_3, g_337_0, g_339_0, g_341_0, g_464_0, g_464_1, g_484_0, g_484_1, g_484_2, g_485_0, g_487_0, g_489_0, g_491_0, g_491_1, g_491_2, g_491_3, g_491_4, g_491_5, g_491_6, g_491_7, g_496_0, g_498_0, g_500_0, g_500_1, g_500_3, g_500_4, g_500_5, g_500_6, g_500_7, g_562_0, g_564_0, g_566_0, g_580_0, g_580_1, g_580_2, g_580_3, g_581_0, g_583_0, g_585_0, g_588_1, g_588_2, g_588_3, g_588_4, g_588_6, g_601_0, g_601_1, g_601_2, g_601_3, g_601_4, g_601_5, g_601_6, g_601_7, g_601_8, g_608_0, g_610_0, g_612_0, g_612_2, g_612_4, g_612_5, g_612_7, g_612_8, g_612_9, g_612_10, g_612_11, g_612_12, g_612_13, g_612_14, g_612_15, g_612_16, g_612_19, g_612_20, g_612_22, g_612_24, g_612_25, g_612_26, g_612_27, g_612_28, g_612_30, g_612_31, g_612_32, g_612_33, g_612_34, g_612_36, g_612_37, g_612_38, g_612_39, g_612_40, g_612_41, g_612_42, g_612_43, g_612_44, g_612_46, g_612_47, g_612_48, g_612_49, g_612_50, g_612_53, g_612_56, g_612_57, g_612_58, g_612_59, g_612_61, g_612_62, g_612_63, g_612_64]
  rw [cf, cs]
  exact ⟨by omega, by omega, fun c => ⟨by omega, go _ (by omega) (by omega) (Or.inl rfl)⟩, fun c => ⟨by omega, go _ (by omega) (by omega) (Or.inr rfl)⟩⟩
/-- a way: every step the first one that leads on -/
def pthP (τ : kzM) (n : Nat) (s T f : Int) (S : Nat) (w : Nat → Int) : Prop := w 0 = f ∧ ∀ k : Nat, k < S → isF (szN n) (fun u => adL n (w k) u ∧ dst (szN n) (cosN τ n) (adL n) s T (S - (k + 1)) u) (w (k + 1))
theorem pthP_in {τ : kzM} {n : Nat} {s T f : Int} {S : Nat} {w : Nat → Int} (h : pthP τ n s T f S w) (f0 : 0 ≤ f) (f1 : f < szN n) (hd : dst (szN n) (cosN τ n) (adL n) s T S f) : ∀ k : Nat, k ≤ S → (0 ≤ w k ∧ w k < szN n) ∧ dst (szN n) (cosN τ n) (adL n) s T (S - k) (w k)
  | 0, _ => by rw [h.1]; exact ⟨⟨f0, f1⟩, hd⟩
  | k + 1, hk => by
    have q := h.2 k (by omega)
    exact ⟨q.1, q.2.1.2⟩
set_option maxRecDepth 100000 in
theorem W12_wy_108 {τ σ : kzM} {n : Nat} (hn : 2 ≤ n ∧ n ≤ 5) (h5 : τ.1 612 55 = n) (hl : lisR τ σ n) {s T v u i l : Int} {d : Nat} (hd : disL (szN n) (cosN τ n) (adL n) s T 1000000000 (σ.1 662)) (v0 : 0 ≤ v) (v1 : v < szN n) (hv : σ.1 662 v = (d : Int) + 1) (hd1 : d < 200) (hu : isF (szN n) (fun u => adL n v u ∧ dst (szN n) (cosN τ n) (adL n) s T d u) u) (hl1 : 0 ≤ l ∧ l ≤ 1000) {K : Nat → Int → Int → Int → kzM → Option (Int × kzM)} {Q : Int → kzM → Prop} (hQ : Wz (K 612 i u (l + 1)) σ Q) : ∀ (N : Nat) (j : Int), 0 ≤ j → j ≤ u → u - j < N → Wz (lp (fun _ _ _ _ _ _ => none) (Z12_way_108B kdG0 K) N 612 i v l j) σ Q := by
  have sz := (way_n hn).2.2.2.1
  obtain ⟨⟨u0, u1⟩, u2, u3⟩ := hu
  have mk : ∀ x : Int, 0 ≤ x → x < szN n → (σ.1 662 x = d ↔ dst (szN n) (cosN τ n) (adL n) s T d x) := fun x x0 x1 => by
    rcases hd x x0 x1 with ⟨e, a, b, c⟩ | ⟨a, b⟩
    · constructor
      · intro q
        rw [a] at q
        rw [show d = e by omega]
        exact c
      · intro q
        rw [a, dst_u c q]
    · constructor
      · intro q; omega
      · intro q; exact absurd ⟨d, q.1⟩ b
  intro N
  induction N with
  | zero => intro j; intros; omega
  | succ N ih =>
    intro j j0 j1 jN
    rw [lp_succ]
    have ih' := ih (j + 1)
    generalize lp (fun _ _ _ _ _ _ => none) (Z12_way_108B kdG0 K) N = L at ih' ⊢
    have on : j ≠ u → (-2147483648 ≤ j + 1 ∧ j + 1 ≤ 2147483647) ∧ Wz (L 612 i v l (j + 1)) σ Q := fun z => ⟨by omega, ih' (by omega) (by omega) (by omega)⟩
    unfold Z12_way_108B
    simp only [Z12_way_138, Wz_rt, Wz_cnd, Wz_lI, Wz_lW, Wz_lL, Wz_cl, Wz_cv, Wz_nz, Wz_gI, Wz_gR, Wz_sI, Wz_aI, Wz_aZ, Wz_aL, Wz_aN, Wz_aR, Wz_tI, Wz_tZ, Wz_tL, Option.some.injEq, exists_eq_left', zB_0, zB_1, true_and, and_true, true_implies, not_true_eq_false, false_implies, not_false_eq_true, Classical.not_not, g_0, g_1, g_2, g_3, g_4, g_5, g_327, g_328, g_329, g_330, g_331, g_332, g_333, g_334, g_335, g_336, g_337, g_338, g_339, g_340, g_341, g_342, g_343, g_464, g_465, g_466, g_484, g_485, g_486, g_487, g_488, g_489, g_490, g_491, g_492, g_493, g_494, g_495, g_496, g_497, g_498, g_499, g_500, g_501, g_562, g_563, g_564, g_565, g_566, g_567, g_568, g_574, g_580, g_581, g_582, g_583, g_584, g_585, g_586, g_587, g_588, g_589, g_590, g_591, g_592, g_600, g_601, g_602, g_603, g_604, g_605, g_606, g_607, g_608, g_609, g_610, g_611, g_612, g_613, g_614, g_615, g_616, g_617, g_618, g_619, g_620, g_621, g_622, g_623, g_624, g_625, g_626, g_627, g_628, g_629, g_630, g_631, g_632, g_633, g_634, g_635, g_636, g_637, g_638, g_639, g_640, g_641, g_642, g_643, g_644, g_645, g_646, g_647, g_648, g_649, g_650, g_651, g_652, g_653, g_654, g_655, g_656, g_657, g_658, g_659, g_660, g_661, g_662, g_0_0, g_0_1, g_0_2, g_0_3, g_0_4, g_0_5, g_0_6, g_0_7, g_0_8, g_0_9, g_0_10, g_0_11, g_1_0, g_3_0, g_327_0, g_327_1, g_327_2, g_327_3, g_328_0, g_330_0, g_332_0, g_334_0, g_336_0, g_336_1, g_336_2, g_336_3, g_337_0, g_339_0, g_341_0, g_464_0, g_464_1, g_484_0, g_484_1, g_484_2, g_485_0, g_487_0, g_489_0, g_491_0, g_491_1, g_491_2, g_491_3, g_491_4, g_491_5, g_491_6, g_491_7, g_496_0, g_498_0, g_500_0, g_500_1, g_500_3, g_500_4, g_500_5, g_500_6, g_500_7, g_562_0, g_564_0, g_566_0, g_580_0, g_580_1, g_580_2, g_580_3, g_581_0, g_583_0, g_585_0, g_588_1, g_588_2, g_588_3, g_588_4, g_588_6, g_601_0, g_601_1, g_601_2, g_601_3, g_601_4, g_601_5, g_601_6, g_601_7, g_601_8, g_608_0, g_610_0, g_612_0, g_612_2, g_612_4, g_612_5, g_612_7, g_612_8, g_612_9, g_612_10, g_612_11, g_612_12, g_612_13, g_612_14, g_612_15, g_612_16, g_612_19, g_612_20, g_612_22, g_612_24, g_612_25, g_612_26, g_612_27, g_612_28, g_612_30, g_612_31, g_612_32, g_612_33, g_612_34, g_612_36, g_612_37, g_612_38, g_612_39, g_612_40, g_612_41, g_612_42, g_612_43, g_612_44, g_612_46, g_612_47, g_612_48, g_612_49, g_612_50, g_612_53, g_612_56, g_612_57, g_612_58, g_612_59, g_612_61, g_612_62, g_612_63, g_612_64, hv]
    rw [show (d : Int) + 1 - 1 = d by omega]
    refine ⟨by omega, by omega, by omega, fun c => W12_apart hn h5 hl v0 v1 j0 (by omega) ?_, fun c => on (fun z => c ?_)⟩
    · rw [zp_0]
      refine ⟨fun e => on (fun z => e (by rw [z]; exact u2.1)), fun e => ⟨by omega, ?_⟩⟩
      have e' := Classical.not_not.1 e
      have eju : j = u := by
        by_cases y : j = u
        · exact y
        · exact absurd ⟨e', (mk j j0 (by omega)).1 c⟩ (u3 j j0 (by omega))
      rw [eju]
      exact hQ
    · rw [z]
      exact (mk u u0 u1).2 u2.2
set_option maxRecDepth 100000 in
theorem W12_wy_99 {τ σ : kzM} {n : Nat} (hn : 2 ≤ n ∧ n ≤ 5) (h5 : τ.1 612 55 = n) (hl : lisR τ σ n) {s T f : Int} (f0 : 0 ≤ f) (f1 : f < szN n) {S : Nat} {w : Nat → Int} (hp : pthP τ n s T f S w) (hS : S < 200) (hdf : dst (szN n) (cosN τ n) (adL n) s T S f) (hd : disL (szN n) (cosN τ n) (adL n) s T 1000000000 (σ.1 662)) {i : Nat} (hi : i ≤ S) {Q : Int → kzM → Prop} (hQ : Q (codN n (w i)) σ) : ∀ (N k : Nat), k ≤ i → i - k < N → Wz (lp (fun _ _ _ _ _ => none) (Z12_way_99B kdG0) N 612 (i : Int) (w k) (k : Int)) σ Q := by
  have sz := (way_n hn).2.2.2.1
  have pin := pthP_in hp f0 f1 hdf
  intro N
  induction N with
  | zero => intro k; intros; omega
  | succ N ih =>
    intro k k1 kN
    rw [lp_succ]
    have ih' := ih (k + 1)
    generalize lp (fun _ _ _ _ _ => none) (Z12_way_99B kdG0) N = L at ih' ⊢
    obtain ⟨⟨a0, a1⟩, a2⟩ := pin k (by omega)
    unfold Z12_way_99B
    simp only [Wz_rt, Wz_cnd, Wz_lI, Wz_lW, Wz_lL, Wz_cl, Wz_cv, Wz_nz, Wz_gI, Wz_gR, Wz_sI, Wz_aI, Wz_aZ, Wz_aL, Wz_aN, Wz_aR, Wz_tI, Wz_tZ, Wz_tL, Option.some.injEq, exists_eq_left', zB_0, zB_1, true_and, and_true, true_implies, not_true_eq_false, false_implies, not_false_eq_true, Classical.not_not, g_0, g_1, g_2, g_3, g_4, g_5, g_327, g_328, g_329, g_330, g_331, g_332, g_333, g_334, g_335, g_336, g_337, g_338, g_339, g_340, g_341, g_342, g_343, g_464, g_465, g_466, g_484, g_485, g_486, g_487, g_488, g_489, g_490, g_491, g_492, g_493, g_494, g_495, g_496, g_497, g_498, g_499, g_500, g_501, g_562, g_563, g_564, g_565, g_566, g_567, g_568, g_574, g_580, g_581, g_582, g_583, g_584, g_585, g_586, g_587, g_588, g_589, g_590, g_591, g_592, g_600, g_601, g_602, g_603, g_604, g_605, g_606, g_607, g_608, g_609, g_610, g_611, g_612, g_613, g_614, g_615, g_616, g_617, g_618, g_619, g_620, g_621, g_622, g_623, g_624, g_625, g_626, g_627, g_628, g_629, g_630, g_631, g_632, g_633, g_634, g_635, g_636, g_637, g_638, g_639, g_640, g_641, g_642, g_643, g_644, g_645, g_646, g_647, g_648, g_649, g_650, g_651, g_652, g_653, g_654, g_655, g_656, g_657, g_658, g_659, g_660, g_661, g_662, g_0_0, g_0_1, g_0_2, g_0_3, g_0_4, g_0_5, g_0_6, g_0_7, g_0_8, g_0_9, g_0_10, g_0_11, g_1_0, g_3_0, g_327_0, g_327_1, g_327_2, g_327_3, g_328_0, g_330_0, g_332_0, g_334_0, g_336_0, g_336_1, g_336_2, g_336_3, g_337_0, g_339_0, g_341_0, g_464_0, g_464_1, g_484_0, g_484_1, g_484_2, g_485_0, g_487_0, g_489_0, g_491_0, g_491_1, g_491_2, g_491_3, g_491_4, g_491_5, g_491_6, g_491_7, g_496_0, g_498_0, g_500_0, g_500_1, g_500_3, g_500_4, g_500_5, g_500_6, g_500_7, g_562_0, g_564_0, g_566_0, g_580_0, g_580_1, g_580_2, g_580_3, g_581_0, g_583_0, g_585_0, g_588_1, g_588_2, g_588_3, g_588_4, g_588_6, g_601_0, g_601_1, g_601_2, g_601_3, g_601_4, g_601_5, g_601_6, g_601_7, g_601_8, g_608_0, g_610_0, g_612_0, g_612_2, g_612_4, g_612_5, g_612_7, g_612_8, g_612_9, g_612_10, g_612_11, g_612_12, g_612_13, g_612_14, g_612_15, g_612_16, g_612_19, g_612_20, g_612_22, g_612_24, g_612_25, g_612_26, g_612_27, g_612_28, g_612_30, g_612_31, g_612_32, g_612_33, g_612_34, g_612_36, g_612_37, g_612_38, g_612_39, g_612_40, g_612_41, g_612_42, g_612_43, g_612_44, g_612_46, g_612_47, g_612_48, g_612_49, g_612_50, g_612_53, g_612_56, g_612_57, g_612_58, g_612_59, g_612_61, g_612_62, g_612_63, g_612_64]
    refine ⟨fun c => ⟨by omega, ?_⟩, fun c => ?_⟩
    · rw [(hl.2.2 _ a0 a1).1, show k = i by omega]
      exact hQ
    · unfold Z12_way_108
      have hv : σ.1 662 (w k) = ((S - (k + 1) : Nat) : Int) + 1 := by
        rcases hd _ a0 a1 with ⟨e, a, b, c⟩ | ⟨a, b⟩
        · have := dst_u c a2
          omega
        · exact absurd ⟨_, a2.1⟩ b
      refine W12_wy_108 hn h5 hl hd a0 a1 hv (by omega) (hp.2 k (by omega)) (by omega) ?_ NN 0 (by omega) (hp.2 k (by omega)).1.1 (by have := (hp.2 k (by omega)).1; unfold NN; omega)
      rw [show (k : Int) + 1 = ((k + 1 : Nat) : Int) by omega]
      exact ih' (by omega) (by omega)
