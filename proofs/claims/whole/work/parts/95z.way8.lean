/-! ways: the class counts steps -/
def onQ (τ σ : kzM) : Prop := ∀ a x, a ≠ 607 → a ≠ 608 → a ≠ 609 → σ.1 a x = τ.1 a x
theorem onQ.tr {τ σ ρ : kzM} (h : onQ τ σ) (k : onQ σ ρ) : onQ τ ρ := fun a x y z w => (k a x y z w).trans (h a x y z w)
theorem lisC.onQ {τ σ ρ : kzM} {n m : Nat} (h : lisC τ σ n m) (k : onQ σ ρ) : lisC τ ρ n m := h.on (fun a x z => k a x (fun q => z (by rw [q]; rfl)) (fun q => z (by rw [q]; rfl)) (fun q => z (by rw [q]; rfl))) (fun a x z => k a x (by omega) (by omega) (by omega))
set_option maxRecDepth 100000 in
theorem W9_cs_77 {τ : kzM} (hI : Inv τ) {n : Nat} (hn : 2 ≤ n ∧ n ≤ 5) (h5 : τ.1 588 0 = n) {s T h : Int} (h0 : 0 ≤ h) {u : Int} {K : Nat → Int → kzM → Option (Unit × kzM)} {Q : Unit → kzM → Prop} {σ0 : kzM} (hl0 : lisC τ σ0 n (szN n)) (hT : σ0.1 601 11 = T) (hQ : ∀ (ρ : kzM) (len : Nat), onQ σ0 ρ → ρ.1 608 1 = len → len ≤ szN n → quI (szN n) (cosN τ n) (adL n) s T (h + 1) (ρ.1 609) len (ρ.1 607) → Wz (K 601 (h + 1)) ρ Q) : ∀ (N : Nat) (k : Int) (len : Nat) (σ : kzM), 0 ≤ k → k ≤ mN n → mN n - k < N → onQ σ0 σ → σ.1 608 1 = len → h < len → len ≤ szN n → σ.1 609 h = u → quI (szN n) (cosN τ n) (adL n) s T h (σ.1 609) len (σ.1 607) → (∀ y : Int, 0 ≤ y → y < k → cosN τ n (σ0.1 604 (10 * u + y)) ≤ T → ¬σ.1 607 (σ0.1 604 (10 * u + y)) = -1) → Wz (lp (fun _ _ _ _ _ => none) (Z9_countSteps_77B kdG0 K) N 601 h u k) σ Q := by
  have sz := (way_n hn).2.2.2.1
  have me := kS_e0 ⟨n, by omega⟩ hn.1
  dsimp only at me
  intro N
  induction N with
  | zero => intro k; intros; omega
  | succ N ih =>
    intro k len σ k0 k1 kN ho hlen hh hle hu hq hk
    rw [lp_succ]
    have ih' := ih (k + 1)
    generalize lp (fun _ _ _ _ _ => none) (Z9_countSteps_77B kdG0 K) N = L at ih' ⊢
    have hl := hl0.onQ ho
    have e10 := hl.2.2.1
    have e11 : σ.1 601 11 = T := by rw [ho 601 11 (by decide) (by decide) (by decide), hT]
    have e4 : σ.1 604 = σ0.1 604 := funext fun y => ho 604 y (by decide) (by decide) (by decide)
    have qh := hq.2.1 h h0 hh
    rw [hu] at qh
    obtain ⟨⟨u0, u1⟩, d, ed, dd⟩ := qh
    obtain ⟨c1, c2, c3⟩ := hl.2.2.2 u u0 u1
    obtain ⟨a1, a2⟩ := nbI_adj hn c3
    rw [e4] at a1 a2
    have dM := dst_M u0 u1 dd
    unfold Z9_countSteps_77B
    simp only [Z9_countSteps_144, Z9_neighbour, Wz_rt, Wz_cnd, Wz_lI, Wz_lW, Wz_lL, Wz_cl, Wz_cv, Wz_nz, Wz_gI, Wz_gR, Wz_sI, Wz_aI, Wz_aZ, Wz_aL, Wz_aN, Wz_aR, Wz_tI, Wz_tZ, Wz_tL, Option.some.injEq, exists_eq_left', zB_0, zB_1, true_and, and_true, true_implies, not_true_eq_false, false_implies, not_false_eq_true, Classical.not_not, g_0, g_1, g_2, g_3, g_4, g_5, g_327, g_328, g_329, g_330, g_331, g_332, g_333, g_334, g_335, g_336, g_337, g_338, g_339, g_340, g_341, g_342, g_343, g_464, g_465, g_466, g_484, g_485, g_486, g_487, g_488, g_489, g_490, g_491, g_492, g_493, g_494, g_495, g_496, g_497, g_498, g_499, g_500, g_501, g_562, g_563, g_564, g_565, g_566, g_567, g_568, g_574, g_580, g_581, g_582, g_583, g_584, g_585, g_586, g_587, g_588, g_589, g_590, g_591, g_592, g_600, g_601, g_602, g_603, g_604, g_605, g_606, g_607, g_608, g_609, g_610, g_611, g_612, g_613, g_614, g_615, g_616, g_617, g_618, g_619, g_620, g_621, g_622, g_623, g_624, g_625, g_626, g_627, g_628, g_629, g_630, g_631, g_632, g_633, g_634, g_635, g_636, g_637, g_638, g_639, g_640, g_641, g_642, g_643, g_644, g_645, g_646, g_647, g_648, g_649, g_650, g_651, g_652, g_653, g_654, g_655, g_656, g_657, g_658, g_659, g_660, g_661, g_662, g_0_0, g_0_1, g_0_2, g_0_3, g_0_4, g_0_5, g_0_6, g_0_7, g_0_8, g_0_9, g_0_10, g_0_11, g_1_0, g_3_0, g_327_0, g_327_1, g_327_2, g_327_3, g_328_0, g_330_0, g_332_0, g_334_0, g_336_0, g_336_1, g_336_2, g_336_3, g_337_0, g_339_0, g_341_0, g_464_0, g_464_1, g_484_0, g_484_1, g_484_2, g_485_0, g_487_0, g_489_0, g_491_0, g_491_1, g_491_2, g_491_3, g_491_4, g_491_5, g_491_6, g_491_7, g_496_0, g_498_0, g_500_0, g_500_1, g_500_3, g_500_4, g_500_5, g_500_6, g_500_7, g_562_0, g_564_0, g_566_0, g_580_0, g_580_1, g_580_2, g_580_3, g_581_0, g_583_0, g_585_0, g_588_1, g_588_2, g_588_3, g_588_4, g_588_6, g_601_0, g_601_1, g_601_2, g_601_3, g_601_4, g_601_5, g_601_6, g_601_7, g_601_8, g_608_0, g_610_0, g_612_0, g_612_2, g_612_4, g_612_5, g_612_7, g_612_8, g_612_9, g_612_10, g_612_11, g_612_12, g_612_13, g_612_14, g_612_15, g_612_16, g_612_19, g_612_20, g_612_22, g_612_24, g_612_25, g_612_26, g_612_27, g_612_28, g_612_30, g_612_31, g_612_32, g_612_33, g_612_34, g_612_36, g_612_37, g_612_38, g_612_39, g_612_40, g_612_41, g_612_42, g_612_43, g_612_44, g_612_46, g_612_47, g_612_48, g_612_49, g_612_50, g_612_53, g_612_56, g_612_57, g_612_58, g_612_59, g_612_61, g_612_62, g_612_63, g_612_64, e10, e11, e4]
    rw [show u * 10 + k = 10 * u + k by omega]
    refine ⟨fun c => ⟨by omega, ?_⟩, fun c => ?_⟩
    · have ek : k = mN n := by omega
      subst ek
      refine hQ σ len ho hlen hle (quI_next hq h0 hh (fun v v0 v1 ha hc => ?_))
      rw [hu] at ha
      obtain ⟨y, hy, ey⟩ := a2 v v0 v1 ha
      have := hk y hy.1 hy.2 (by rw [ey]; exact hc)
      rw [ey] at this
      exact this
    · obtain ⟨⟨v0, v1⟩, va⟩ := a1 k k0 (by omega)
      generalize hv : σ0.1 604 (10 * u + k) = v at v0 v1 va ⊢
      have e3 : σ.1 603 v = cosN τ n v := (hl.2.2.2 v v0 v1).2.1
      rw [e3]
      have keep : (cosN τ n v ≤ T → ¬σ.1 607 v = -1) → (-2147483648 ≤ k + 1 ∧ k + 1 ≤ 2147483647) ∧ Wz (L 601 h u (k + 1)) σ Q := fun hv2 => by
        refine ⟨by omega, ih' len σ (by omega) (by omega) (by omega) ho hlen hh hle hu hq (fun y y0 y1 hc => ?_)⟩
        by_cases z : y = k
        · rw [z, hv] at hc ⊢
          exact hv2 hc
        · exact hk y y0 (by omega) hc
      refine ⟨by omega, by omega, fun e => ⟨by omega, fun g => keep (fun z => by omega), fun g => ⟨by omega, by omega, by omega, ?_⟩⟩, fun e => keep (fun _ => e)⟩
      rw [ed]
      have f1 : (v2 σ.1 607 v ((d : Int) + 1)) 608 1 = len := by rw [v2_ne _ _ _ _ (by decide), hlen]
      have nw := quI_new (q' := (addF (v2 σ.1 607 v ((d : Int) + 1)) 608 v) 609) (D' := (addF (v2 σ.1 607 v ((d : Int) + 1)) 608 v) 607) hq h0 hh v0 v1 e (by rw [hu]; exact va) (by omega) (by
        simp only [addF]
        rw [v2_ne _ _ _ _ (by decide), v2_ne _ _ _ _ (by decide), v2_self, hu, ed]) (fun x hx => by
        simp only [addF]
        rw [v2_ne _ _ _ _ (by decide), v2_ne _ _ _ _ (by decide), v2_nk _ _ _ _ hx]) (by
        simp only [addF]
        rw [v2_ne _ _ _ _ (by decide), f1, v2_self]) (fun i hi => by
        simp only [addF]
        rw [v2_ne _ _ _ _ (by decide), f1, v2_nk _ _ _ _ hi, v2_ne _ _ _ _ (by decide)])
      refine W_add r_608 (by dsimp only; rw [f1]; omega) (by dsimp only; rw [f1]; omega) (by decide) ⟨by omega, ?_⟩
      refine ih' (len + 1) _ (by omega) (by omega) (by omega) (fun a x y1 y2 y3 => ?_) ?_ (by omega) (by omega) ?_ nw.1 (fun y y0 y1 hc => ?_)
      · simp only [addF]
        rw [v2_ne _ _ _ _ y2, v2_ne _ _ _ _ y3, v2_ne _ _ _ _ y1]
        exact ho a x y1 y2 y3
      · simp only [addF]
        rw [v2_self, f1]
        omega
      · simp only [addF]
        rw [v2_ne _ _ _ _ (by decide), f1, v2_nk _ _ _ _ (by omega), v2_ne _ _ _ _ (by decide), hu]
      · simp only [addF]
        rw [v2_ne _ _ _ _ (by decide), v2_ne _ _ _ _ (by decide)]
        by_cases w : σ0.1 604 (10 * u + y) = v
        · rw [w, v2_self]; omega
        · rw [v2_nk _ _ _ _ w]
          by_cases z : y = k
          · exact absurd (by rw [z]; exact hv) w
          · exact hk y y0 (by omega) hc
set_option maxRecDepth 100000 in
theorem W9_cs_48 {τ : kzM} (hI : Inv τ) {n : Nat} (hn : 2 ≤ n ∧ n ≤ 5) (h5 : τ.1 588 0 = n) {s T : Int} {Q : Unit → kzM → Prop} {σ0 : kzM} (hl0 : lisC τ σ0 n (szN n)) (hT : σ0.1 601 11 = T) (hQ : ∀ ρ : kzM, onQ σ0 ρ → disL (szN n) (cosN τ n) (adL n) s T (-1) (ρ.1 607) → Q () ρ) : ∀ (N h len : Nat) (σ : kzM), h ≤ 120 → 121 - h < N → onQ σ0 σ → σ.1 608 1 = len → len ≤ szN n → quI (szN n) (cosN τ n) (adL n) s T h (σ.1 609) len (σ.1 607) → Wz (lp (fun _ _ _ => none) (Z9_countSteps_48B kdG0) N 601 (h : Int)) σ Q := by
  have sz := (way_n hn).2.2.2.1
  have me := kS_e0 ⟨n, by omega⟩ hn.1
  dsimp only at me
  intro N
  induction N with
  | zero => intro h; intros; omega
  | succ N ih =>
    intro h len σ h1 hN ho hlen hle hq
    rw [lp_succ]
    have ih' := ih (h + 1)
    generalize lp (fun _ _ _ => none) (Z9_countSteps_48B kdG0) N = L at ih' ⊢
    unfold Z9_countSteps_48B
    simp only [Z9_countSteps_156, W_size r_1, W_isEmpty r_1, W_isFull r_1, W_has r_1, W_clear r_1, W_size r_3, W_isEmpty r_3, W_isFull r_3, W_has r_3, W_clear r_3, W_size r_328, W_isEmpty r_328, W_isFull r_328, W_has r_328, W_clear r_328, W_size r_330, W_isEmpty r_330, W_isFull r_330, W_has r_330, W_clear r_330, W_size r_332, W_isEmpty r_332, W_isFull r_332, W_has r_332, W_clear r_332, W_size r_334, W_isEmpty r_334, W_isFull r_334, W_has r_334, W_clear r_334, W_size r_337, W_isEmpty r_337, W_isFull r_337, W_has r_337, W_clear r_337, W_size r_339, W_isEmpty r_339, W_isFull r_339, W_has r_339, W_clear r_339, W_size r_341, W_isEmpty r_341, W_isFull r_341, W_has r_341, W_clear r_341, W_size r_485, W_isEmpty r_485, W_isFull r_485, W_has r_485, W_clear r_485, W_size r_487, W_isEmpty r_487, W_isFull r_487, W_has r_487, W_clear r_487, W_size r_489, W_isEmpty r_489, W_isFull r_489, W_has r_489, W_clear r_489, W_size r_496, W_isEmpty r_496, W_isFull r_496, W_has r_496, W_clear r_496, W_size r_498, W_isEmpty r_498, W_isFull r_498, W_has r_498, W_clear r_498, W_size r_562, W_isEmpty r_562, W_isFull r_562, W_has r_562, W_clear r_562, W_size r_564, W_isEmpty r_564, W_isFull r_564, W_has r_564, W_clear r_564, W_size r_566, W_isEmpty r_566, W_isFull r_566, W_has r_566, W_clear r_566, W_size r_581, W_isEmpty r_581, W_isFull r_581, W_has r_581, W_clear r_581, W_size r_583, W_isEmpty r_583, W_isFull r_583, W_has r_583, W_clear r_583, W_size r_585, W_isEmpty r_585, W_isFull r_585, W_has r_585, W_clear r_585, W_size r_608, W_isEmpty r_608, W_isFull r_608, W_has r_608, W_clear r_608, W_size r_610, W_isEmpty r_610, W_isFull r_610, W_has r_610, W_clear r_610, Wz_rt, Wz_cnd, Wz_lI, Wz_lW, Wz_lL, Wz_cl, Wz_cv, Wz_nz, Wz_gI, Wz_gR, Wz_sI, Wz_aI, Wz_aZ, Wz_aL, Wz_aN, Wz_aR, Wz_tI, Wz_tZ, Wz_tL, Option.some.injEq, exists_eq_left', zB_0, zB_1, true_and, and_true, true_implies, not_true_eq_false, false_implies, not_false_eq_true, Classical.not_not, g_0, g_1, g_2, g_3, g_4, g_5, g_327, g_328, g_329, g_330, g_331, g_332, g_333, g_334, g_335, g_336, g_337, g_338, g_339, g_340, g_341, g_342, g_343, g_464, g_465, g_466, g_484, g_485, g_486, g_487, g_488, g_489, g_490, g_491, g_492, g_493, g_494, g_495, g_496, g_497, g_498, g_499, g_500, g_501, g_562, g_563, g_564, g_565, g_566, g_567, g_568, g_574, g_580, g_581, g_582, g_583, g_584, g_585, g_586, g_587, g_588, g_589, g_590, g_591, g_592, g_600, g_601, g_602, g_603, g_604, g_605, g_606, g_607, g_608, g_609, g_610, g_611, g_612, g_613, g_614, g_615, g_616, g_617, g_618, g_619, g_620, g_621, g_622, g_623, g_624, g_625, g_626, g_627, g_628, g_629, g_630, g_631, g_632, g_633, g_634, g_635, g_636, g_637, g_638, g_639, g_640, g_641, g_642, g_643, g_644, g_645, g_646, g_647, g_648, g_649, g_650, g_651, g_652, g_653, g_654, g_655, g_656, g_657, g_658, g_659, g_660, g_661, g_662, g_0_0, g_0_1, g_0_2, g_0_3, g_0_4, g_0_5, g_0_6, g_0_7, g_0_8, g_0_9, g_0_10, g_0_11, g_1_0, g_3_0, g_327_0, g_327_1, g_327_2, g_327_3, g_328_0, g_330_0, g_332_0, g_334_0, g_336_0, g_336_1, g_336_2, g_336_3, g_337_0, g_339_0, g_341_0, g_464_0, g_464_1, g_484_0, g_484_1, g_484_2, g_485_0, g_487_0, g_489_0, g_491_0, g_491_1, g_491_2, g_491_3, g_491_4, g_491_5, g_491_6, g_491_7, g_496_0, g_498_0, g_500_0, g_500_1, g_500_3, g_500_4, g_500_5, g_500_6, g_500_7, g_562_0, g_564_0, g_566_0, g_580_0, g_580_1, g_580_2, g_580_3, g_581_0, g_583_0, g_585_0, g_588_1, g_588_2, g_588_3, g_588_4, g_588_6, g_601_0, g_601_1, g_601_2, g_601_3, g_601_4, g_601_5, g_601_6, g_601_7, g_601_8, g_608_0, g_610_0, g_612_0, g_612_2, g_612_4, g_612_5, g_612_7, g_612_8, g_612_9, g_612_10, g_612_11, g_612_12, g_612_13, g_612_14, g_612_15, g_612_16, g_612_19, g_612_20, g_612_22, g_612_24, g_612_25, g_612_26, g_612_27, g_612_28, g_612_30, g_612_31, g_612_32, g_612_33, g_612_34, g_612_36, g_612_37, g_612_38, g_612_39, g_612_40, g_612_41, g_612_42, g_612_43, g_612_44, g_612_46, g_612_47, g_612_48, g_612_49, g_612_50, g_612_53, g_612_56, g_612_57, g_612_58, g_612_59, g_612_61, g_612_62, g_612_63, g_612_64, W_at r_608 (show σ.1 608 1 ≤ ((120 : Nat) : Int) by omega), hlen]
    refine ⟨fun c => hQ σ ho (quI_done hq (by omega)), fun c => ⟨fun d => hQ σ ho (quI_done hq (by omega)), fun d => ?_⟩⟩
    rw [if_pos (by omega)]
    unfold Z9_countSteps_77
    refine W9_cs_77 hI hn h5 (by omega) (hl0.onQ ho) (by rw [ho 601 11 (by decide) (by decide) (by decide), hT]) (fun ρ len' r1 r2 r3 r4 => ?_) NN 0 len σ (by omega) (by omega) (by unfold NN; omega) (fun _ _ _ _ _ => rfl) hlen (by omega) hle rfl hq (fun y a b => by omega)
    rw [show (h : Int) + 1 = ((h + 1 : Nat) : Int) by omega] at r4 ⊢
    exact ih' len' ρ (by omega) (by omega) (ho.tr r1) r2 r3 r4
set_option maxRecDepth 100000 in
theorem W9_cs_2 {τ : kzM} (hI : Inv τ) {n : Nat} (hn : 2 ≤ n ∧ n ≤ 5) (h5 : τ.1 588 0 = n) {s T : Int} (s0 : 0 ≤ s) (s1 : s < szN n) (hs : cosN τ n s ≤ T) {Q : Unit → kzM → Prop} {σ0 : kzM} (hl0 : lisC τ σ0 n (szN n)) (hT : σ0.1 601 11 = T) (hQ : ∀ ρ : kzM, onQ σ0 ρ → disL (szN n) (cosN τ n) (adL n) s T (-1) (ρ.1 607) → Q () ρ) : ∀ (N : Nat) (i : Int) (σ : kzM), 0 ≤ i → i ≤ szN n → szN n - i < N → onQ σ0 σ → (∀ v : Int, 0 ≤ v → v < i → σ.1 607 v = -1) → Wz (lp (fun _ _ _ _ => none) (Z9_countSteps_2B kdG0) N 601 s i) σ Q := by
  have sz := (way_n hn).2.2.2.1
  intro N
  induction N with
  | zero => intro i; intros; omega
  | succ N ih =>
    intro i σ i0 i1 iN ho hv
    rw [lp_succ]
    have ih' := ih (i + 1)
    generalize lp (fun _ _ _ _ => none) (Z9_countSteps_2B kdG0) N = L at ih' ⊢
    have hl := hl0.onQ ho
    have e9 := hl.2.1
    unfold Z9_countSteps_2B
    simp only [W_size r_1, W_isEmpty r_1, W_isFull r_1, W_has r_1, W_clear r_1, W_size r_3, W_isEmpty r_3, W_isFull r_3, W_has r_3, W_clear r_3, W_size r_328, W_isEmpty r_328, W_isFull r_328, W_has r_328, W_clear r_328, W_size r_330, W_isEmpty r_330, W_isFull r_330, W_has r_330, W_clear r_330, W_size r_332, W_isEmpty r_332, W_isFull r_332, W_has r_332, W_clear r_332, W_size r_334, W_isEmpty r_334, W_isFull r_334, W_has r_334, W_clear r_334, W_size r_337, W_isEmpty r_337, W_isFull r_337, W_has r_337, W_clear r_337, W_size r_339, W_isEmpty r_339, W_isFull r_339, W_has r_339, W_clear r_339, W_size r_341, W_isEmpty r_341, W_isFull r_341, W_has r_341, W_clear r_341, W_size r_485, W_isEmpty r_485, W_isFull r_485, W_has r_485, W_clear r_485, W_size r_487, W_isEmpty r_487, W_isFull r_487, W_has r_487, W_clear r_487, W_size r_489, W_isEmpty r_489, W_isFull r_489, W_has r_489, W_clear r_489, W_size r_496, W_isEmpty r_496, W_isFull r_496, W_has r_496, W_clear r_496, W_size r_498, W_isEmpty r_498, W_isFull r_498, W_has r_498, W_clear r_498, W_size r_562, W_isEmpty r_562, W_isFull r_562, W_has r_562, W_clear r_562, W_size r_564, W_isEmpty r_564, W_isFull r_564, W_has r_564, W_clear r_564, W_size r_566, W_isEmpty r_566, W_isFull r_566, W_has r_566, W_clear r_566, W_size r_581, W_isEmpty r_581, W_isFull r_581, W_has r_581, W_clear r_581, W_size r_583, W_isEmpty r_583, W_isFull r_583, W_has r_583, W_clear r_583, W_size r_585, W_isEmpty r_585, W_isFull r_585, W_has r_585, W_clear r_585, W_size r_608, W_isEmpty r_608, W_isFull r_608, W_has r_608, W_clear r_608, W_size r_610, W_isEmpty r_610, W_isFull r_610, W_has r_610, W_clear r_610, Wz_rt, Wz_cnd, Wz_lI, Wz_lW, Wz_lL, Wz_cl, Wz_cv, Wz_nz, Wz_gI, Wz_gR, Wz_sI, Wz_aI, Wz_aZ, Wz_aL, Wz_aN, Wz_aR, Wz_tI, Wz_tZ, Wz_tL, Option.some.injEq, exists_eq_left', zB_0, zB_1, true_and, and_true, true_implies, not_true_eq_false, false_implies, not_false_eq_true, Classical.not_not, g_0, g_1, g_2, g_3, g_4, g_5, g_327, g_328, g_329, g_330, g_331, g_332, g_333, g_334, g_335, g_336, g_337, g_338, g_339, g_340, g_341, g_342, g_343, g_464, g_465, g_466, g_484, g_485, g_486, g_487, g_488, g_489, g_490, g_491, g_492, g_493, g_494, g_495, g_496, g_497, g_498, g_499, g_500, g_501, g_562, g_563, g_564, g_565, g_566, g_567, g_568, g_574, g_580, g_581, g_582, g_583, g_584, g_585, g_586, g_587, g_588, g_589, g_590, g_591, g_592, g_600, g_601, g_602, g_603, g_604, g_605, g_606, g_607, g_608, g_609, g_610, g_611, g_612, g_613, g_614, g_615, g_616, g_617, g_618, g_619, g_620, g_621, g_622, g_623, g_624, g_625, g_626, g_627, g_628, g_629, g_630, g_631, g_632, g_633, g_634, g_635, g_636, g_637, g_638, g_639, g_640, g_641, g_642, g_643, g_644, g_645, g_646, g_647, g_648, g_649, g_650, g_651, g_652, g_653, g_654, g_655, g_656, g_657, g_658, g_659, g_660, g_661, g_662, g_0_0, g_0_1, g_0_2, g_0_3, g_0_4, g_0_5, g_0_6, g_0_7, g_0_8, g_0_9, g_0_10, g_0_11, g_1_0, g_3_0, g_327_0, g_327_1, g_327_2, g_327_3, g_328_0, g_330_0, g_332_0, g_334_0, g_336_0, g_336_1, g_336_2, g_336_3, g_337_0, g_339_0, g_341_0, g_464_0, g_464_1, g_484_0, g_484_1, g_484_2, g_485_0, g_487_0, g_489_0, g_491_0, g_491_1, g_491_2, g_491_3, g_491_4, g_491_5, g_491_6, g_491_7, g_496_0, g_498_0, g_500_0, g_500_1, g_500_3, g_500_4, g_500_5, g_500_6, g_500_7, g_562_0, g_564_0, g_566_0, g_580_0, g_580_1, g_580_2, g_580_3, g_581_0, g_583_0, g_585_0, g_588_1, g_588_2, g_588_3, g_588_4, g_588_6, g_601_0, g_601_1, g_601_2, g_601_3, g_601_4, g_601_5, g_601_6, g_601_7, g_601_8, g_608_0, g_610_0, g_612_0, g_612_2, g_612_4, g_612_5, g_612_7, g_612_8, g_612_9, g_612_10, g_612_11, g_612_12, g_612_13, g_612_14, g_612_15, g_612_16, g_612_19, g_612_20, g_612_22, g_612_24, g_612_25, g_612_26, g_612_27, g_612_28, g_612_30, g_612_31, g_612_32, g_612_33, g_612_34, g_612_36, g_612_37, g_612_38, g_612_39, g_612_40, g_612_41, g_612_42, g_612_43, g_612_44, g_612_46, g_612_47, g_612_48, g_612_49, g_612_50, g_612_53, g_612_56, g_612_57, g_612_58, g_612_59, g_612_61, g_612_62, g_612_63, g_612_64, e9]
    refine ⟨fun c => ⟨by omega, ?_⟩, fun c => ⟨by omega, by omega, ?_⟩⟩
    · have ei : i = szN n := by omega
      subst ei
      have f1 : (v2 (v2 σ.1 607 s 0) 608 1 0) 608 1 = 0 := v2_self _ _ _ _
      have g7 : ∀ x, (addF (v2 (v2 σ.1 607 s 0) 608 1 0) 608 s) 607 x = if x = s then 0 else σ.1 607 x := fun x => by
        simp only [addF]
        rw [v2_ne _ _ _ _ (by decide), v2_ne _ _ _ _ (by decide), v2_ne _ _ _ _ (by decide), v2_eq]
        by_cases y : x = s
        · rw [if_pos ⟨rfl, y⟩, if_pos y]
        · rw [if_neg (fun q => y q.2), if_neg y]
      have g9 : (addF (v2 (v2 σ.1 607 s 0) 608 1 0) 608 s) 609 0 = s := by
        simp only [addF]
        rw [v2_ne _ _ _ _ (by decide), f1]
        exact v2_self _ _ _ _
      refine W_add r_608 (by dsimp only; rw [f1]; omega) (by dsimp only; rw [f1]; decide) (by decide) ?_
      unfold Z9_countSteps_48
      refine W9_cs_48 (s := s) hI hn h5 hl0 hT hQ NN 0 1 _ (by omega) (by unfold NN; omega) (fun a x y1 y2 y3 => ?_) ?_ (by omega) ⟨⟨by omega, g9, hs⟩, fun j j0 j1 => ?_, fun v v0 v1 => ?_, fun j k j0 jk k1 => ?_, fun j k jh k0 k1 hh => ?_, fun j v j0 jh => ?_, ?_⟩
      · simp only [addF]
        rw [v2_ne _ _ _ _ y2, v2_ne _ _ _ _ y3, v2_ne _ _ _ _ y2, v2_ne _ _ _ _ y1]
        exact ho a x y1 y2 y3
      · simp only [addF]
        rw [v2_self, f1]; rfl
      · dsimp only
        rw [show j = 0 by omega, g9, g7, if_pos rfl]
        exact ⟨⟨s0, s1⟩, 0, rfl, ⟨rfl, hs⟩, fun k hk => by omega⟩
      · dsimp only
        rw [g7]
        by_cases y : v = s
        · exact Or.inr ⟨0, by omega, by rw [g9, y]⟩
        · rw [if_neg y]
          exact Or.inl (hv v v0 v1)
      · rw [show j = 0 by omega, show k = 0 by omega]
        exact Int.le_refl _
      · rw [show j = 0 by omega, show k = 0 by omega]
        omega
      · omega
      · rw [wS_congr (q := fun v => zp (v = s)) (szN n) (fun v v0 v1 => zp_iff ?_), cn_one s0 s1]
        · rfl
        · dsimp only
          rw [g7]
          by_cases y : v = s
          · rw [if_pos y]
            exact ⟨fun _ => y, fun _ => by decide⟩
          · rw [if_neg y]
            exact ⟨fun q => absurd (hv v v0 v1) q, fun q => absurd q y⟩
    · refine ih' _ (by omega) (by omega) (by omega) (fun a x y1 y2 y3 => (v2_ne _ _ _ _ y1).trans (ho a x y1 y2 y3)) (fun v v0 v1 => ?_)
      by_cases y : v = i
      · rw [y]; exact v2_self _ _ _ _
      · exact (v2_nk _ _ _ _ y).trans (hv v v0 (by omega))
set_option maxRecDepth 100000 in
theorem W9_countSteps {τ σ : kzM} (hI : Inv τ) {n : Nat} (hn : 2 ≤ n ∧ n ≤ 5) (h5 : τ.1 588 0 = n) {s T : Int} (s0 : 0 ≤ s) (s1 : s < szN n) (hs : cosN τ n s ≤ T) (hl : lisC τ σ n (szN n)) (hT : σ.1 601 11 = T) {Q : Unit → kzM → Prop} (hQ : ∀ ρ : kzM, onQ σ ρ → disL (szN n) (cosN τ n) (adL n) s T (-1) (ρ.1 607) → Q () ρ) : Wz (Z9_countSteps kdG0 601 s) σ Q := by
  have sz := (way_n hn).2.2.2.1
  unfold Z9_countSteps Z9_countSteps_2
  exact W9_cs_2 hI hn h5 s0 s1 hs hl hT hQ NN 0 σ (by omega) (by omega) (by unfold NN; omega) (fun _ _ _ _ _ => rfl) (fun v a b => by omega)
/-- the least of a kind -/
theorem isF_ex {M : Nat} {P : Int → Prop} : ∀ b : Nat, (∃ v : Int, (0 ≤ v ∧ v < b) ∧ P v) → b ≤ M → ∃ r, isF M P r
  | 0, h, _ => by
    obtain ⟨v, hv, _⟩ := h
    omega
  | b + 1, h, hb => by
    by_cases c : ∃ v : Int, (0 ≤ v ∧ v < b) ∧ P v
    · exact isF_ex b c (by omega)
    · obtain ⟨v, hv, hp⟩ := h
      have e : v = b := by
        by_cases y : v < b
        · exact absurd ⟨v, ⟨hv.1, y⟩, hp⟩ c
        · omega
      refine ⟨v, ⟨hv.1, by omega⟩, hp, fun w w0 w1 q => c ⟨w, ⟨w0, by omega⟩, q⟩⟩
noncomputable def wayF (τ : kzM) (n : Nat) (s T f : Int) (S : Nat) : Nat → Int
  | 0 => f
  | k + 1 => @dite Int (∃ r, isF (szN n) (fun u => adL n (wayF τ n s T f S k) u ∧ dst (szN n) (cosN τ n) (adL n) s T (S - (k + 1)) u) r) (Classical.propDecidable _) (fun h => Classical.choose h) (fun _ => 0)
theorem wayF_s {τ : kzM} {n : Nat} {s T f : Int} {S k : Nat} (h : ∃ r, isF (szN n) (fun u => adL n (wayF τ n s T f S k) u ∧ dst (szN n) (cosN τ n) (adL n) s T (S - (k + 1)) u) r) : isF (szN n) (fun u => adL n (wayF τ n s T f S k) u ∧ dst (szN n) (cosN τ n) (adL n) s T (S - (k + 1)) u) (wayF τ n s T f S (k + 1)) := by
  rw [wayF, dif_pos h]
  exact Classical.choose_spec h
theorem wayF_in {τ : kzM} {n : Nat} {s T f : Int} {S : Nat} (f0 : 0 ≤ f) (f1 : f < szN n) (hd : dst (szN n) (cosN τ n) (adL n) s T S f) : ∀ k : Nat, k ≤ S → ((0 ≤ wayF τ n s T f S k ∧ wayF τ n s T f S k < szN n) ∧ dst (szN n) (cosN τ n) (adL n) s T (S - k) (wayF τ n s T f S k)) ∧ (k < S → isF (szN n) (fun u => adL n (wayF τ n s T f S k) u ∧ dst (szN n) (cosN τ n) (adL n) s T (S - (k + 1)) u) (wayF τ n s T f S (k + 1))) := by
  have st : ∀ k : Nat, k < S → dst (szN n) (cosN τ n) (adL n) s T (S - k) (wayF τ n s T f S k) → isF (szN n) (fun u => adL n (wayF τ n s T f S k) u ∧ dst (szN n) (cosN τ n) (adL n) s T (S - (k + 1)) u) (wayF τ n s T f S (k + 1)) := fun k hk h => by
    rw [show S - k = S - (k + 1) + 1 by omega] at h
    obtain ⟨u, hu, du, au⟩ := dst_on h
    exact wayF_s (isF_ex (szN n) ⟨u, hu, adL_sy au, du⟩ (Nat.le_refl _))
  intro k
  induction k with
  | zero => exact fun _ => ⟨⟨⟨f0, f1⟩, hd⟩, fun h => st 0 h hd⟩
  | succ k ih =>
    intro hk
    have q := (ih (by omega)).2 (by omega)
    exact ⟨⟨q.1, q.2.1.2⟩, fun h => st (k + 1) h q.2.1.2⟩
theorem wayF_p {τ : kzM} {n : Nat} {s T f : Int} {S : Nat} (f0 : 0 ≤ f) (f1 : f < szN n) (hd : dst (szN n) (cosN τ n) (adL n) s T S f) : pthP τ n s T f S (wayF τ n s T f S) := ⟨rfl, fun k hk => (wayF_in f0 f1 hd k (by omega)).2 hk⟩
