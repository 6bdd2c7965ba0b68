/-! ways: one exchange apart, the reference -/
theorem dfC_b (x y : Int) : ∀ k : Nat, 0 ≤ dfC x y k ∧ dfC x y k ≤ k
  | 0 => by unfold dfC; omega
  | k + 1 => by
    have ih := dfC_b x y k
    unfold dfC
    split <;> omega
set_option maxRecDepth 100000 in
theorem W12_oa_21 {σ : kzM} {n : Nat} (h5 : σ.1 612 55 = n) (hn : n ≤ 7) {x y : Int} (x0 : 0 ≤ x) (x1 : x ≤ 2147483647) (y0 : 0 ≤ y) (y1 : y ≤ 2147483647) {Q : Int → kzM → Prop} (hQ : Q (zp (dfC x y n = 2)) σ) : ∀ (N k : Nat), k ≤ n → n - k < N → Wz (lp (fun _ _ _ _ _ _ => none) (Z12_areOneApart_21B kdG0) N 612 (dgQ x k) (dgQ y k) (dfC x y k) (k : Int)) σ Q := by
  intro N
  induction N with
  | zero => intro k; intros; omega
  | succ N ih =>
    intro k k1 k2
    rw [lp_succ]
    have ih' := ih (k + 1)
    generalize lp (fun _ _ _ _ _ _ => none) (Z12_areOneApart_21B kdG0) N = L at ih' ⊢
    have bx := dgQ_b x0 x1 k
    have bx' := dgQ_b x0 x1 (k + 1)
    have by' := dgQ_b y0 y1 k
    have by2 := dgQ_b y0 y1 (k + 1)
    have tx := dgL_b (n := (k : Int) + 1) (i := 0) x0 x1
    have ty := dgL_b (n := (k : Int) + 1) (i := 0) y0 y1
    unfold dgL at tx ty
    rw [show ((k : Int) + 1 - 1 - 0).toNat = k by omega] at tx ty
    have db := dfC_b x y k
    rw [show ((k + 1 : Nat) : Int) = (k : Int) + 1 by omega] at ih'
    have ex : (dgQ x k).tdiv 10 = dgQ x (k + 1) := rfl
    have ey : (dgQ y k).tdiv 10 = dgQ y (k + 1) := rfl
    have ed : dfC x y (k + 1) = dfC x y k + if Int.tmod (dgQ x k) 10 = Int.tmod (dgQ y k) 10 then 0 else 1 := rfl
    unfold Z12_areOneApart_21B
    simp only [Z12_areOneApart_81, Z12_areOneApart_49, Wz_rt, Wz_cnd, Wz_lI, Wz_lW, Wz_lL, Wz_cl, Wz_cv, Wz_nz, Wz_gI, Wz_gR, Wz_sI, Wz_aI, Wz_aZ, Wz_aL, Wz_aN, Wz_aR, Wz_tI, Wz_tZ, Wz_tL, Option.some.injEq, exists_eq_left', zB_0, zB_1, true_and, and_true, true_implies, not_true_eq_false, false_implies, not_false_eq_true, Classical.not_not, g_0, g_1, g_2, g_3, g_4, g_5, g_327, g_328, g_329, g_330, g_331, g_332, g_333, g_334, g_335, g_336, g_337, g_338, g_339, g_340, g_341, g_342, g_343, g_464, g_465, g_466, g_484, g_485, g_486, g_487, g_488, g_489, g_490, g_491, g_492, g_493, g_494, g_495, g_496, g_497, g_498, g_499, g_500, g_501, g_562, g_563, g_564, g_565, g_566, g_567, g_568, g_574, g_580, g_581, g_582, g_583, g_584, g_585, g_586, g_587, g_588, g_589, g_590, g_591, g_592, g_600, g_601, g_602, g_603, g_604, g_605, g_606, g_607, g_608, g_609, g_610, g_611, g_612, g_613, g_614, g_615, g_616, g_617, g_618, g_619, g_620, g_621, g_622, g_623, g_624, g_625, g_626, g_627, g_628, g_629, g_630, g_631, g_632, g_633, g_634, g_635, g_636, g_637, g_638, g_639, g_640, g_641, g_642, g_643, g_644, g_645, g_646, g_647, g_648, g_649, g_650, g_651, g_652, g_653, g_654, g_655, g_656, g_657, g_658, g_659, g_660, g_661, g_662, g_0_0, g_0_1, g_0_2, g_0_3, g_0_4, g_0_5, g_0_6, g_0_7, g_0_8, g_0_9, g_0_10, g_0_11, g_1_0, g_3_0, g_327_0, g_327_1, g_327_2, g_327_3, g_328_0, g_330_0, g_332_0, g_334_0, g_336_0, g_336_1, g_336_2, g_336_3, g_337_0, g_339_0, g_341_0, g_464_0, g_464_1, g_484_0, g_484_1, g_484_2, g_485_0, g_487_0, g_489_0, g_491_0, g_491_1, g_491_2, g_491_3, g_491_4, g_491_5, g_491_6, g_491_7, g_496_0, g_498_0, g_500_0, g_500_1, g_500_3, g_500_4, g_500_5, g_500_6, g_500_7, g_562_0, g_564_0, g_566_0, g_580_0, g_580_1, g_580_2, g_580_3, g_581_0, g_583_0, g_585_0, g_588_1, g_588_2, g_588_3, g_588_4, g_588_6, g_601_0, g_601_1, g_601_2, g_601_3, g_601_4, g_601_5, g_601_6, g_601_7, g_601_8, g_608_0, g_610_0, g_612_0, g_612_2, g_612_4, g_612_5, g_612_7, g_612_8, g_612_9, g_612_10, g_612_11, g_612_12, g_612_13, g_612_14, g_612_15, g_612_16, g_612_19, g_612_20, g_612_22, g_612_24, g_612_25, g_612_26, g_612_27, g_612_28, g_612_30, g_612_31, g_612_32, g_612_33, g_612_34, g_612_36, g_612_37, g_612_38, g_612_39, g_612_40, g_612_41, g_612_42, g_612_43, g_612_44, g_612_46, g_612_47, g_612_48, g_612_49, g_612_50, g_612_53, g_612_56, g_612_57, g_612_58, g_612_59, g_612_61, g_612_62, g_612_63, g_612_64, h5, ex, ey]
    refine ⟨fun c => ?_, fun c => ⟨by decide, by decide, by omega, by omega, fun d => ?_, fun d => ?_⟩⟩
    · have ek : k = n := by omega
      subst ek
      refine ⟨fun e => ?_, fun e => ?_⟩
      · rw [zp_pos e] at hQ; exact hQ
      · rw [zp_neg e] at hQ; exact hQ
    · rw [if_pos d] at ed
      rw [← ed]
      exact ⟨by omega, by decide, by omega, by decide, by omega, by omega, ih' (by omega) (by omega)⟩
    · rw [if_neg d] at ed
      rw [← ed]
      exact ⟨by omega, by decide, by omega, by decide, by omega, by omega, ih' (by omega) (by omega)⟩
theorem codN_b {n : Nat} (h : 2 ≤ n ∧ n ≤ 5) {i : Int} (i0 : 0 ≤ i) (i1 : i < szN n) : 0 ≤ codN n i ∧ codN n i ≤ 2147483647 := by
  have g := goodN i0 i1
  have b := dgF_b (f := rowN n i) n (fun k k0 k1 => by have := g.1 k k0 k1; omega)
  have b3 : (10 : Int) ^ n ≤ 10 ^ 5 := by
    have h := Nat.pow_le_pow_right (n := 10) (by decide) (show n ≤ 5 by omega)
    exact_mod_cast h
  unfold codN
  omega
/-- what the reference has listed -/
def lisR (τ σ : kzM) (n : Nat) : Prop := tabL τ σ ∧ σ.1 612 65 = szN n ∧ ∀ i : Int, 0 ≤ i → i < szN n → σ.1 660 i = codN n i ∧ σ.1 661 i = cP τ (rowN n i)
set_option maxRecDepth 100000 in
theorem W12_apart {τ σ : kzM} {n : Nat} (h : 2 ≤ n ∧ n ≤ 5) (h5 : τ.1 612 55 = n) (hl : lisR τ σ n) {i j : Int} (i0 : 0 ≤ i) (i1 : i < szN n) (j0 : 0 ≤ j) (j1 : j < szN n) {Q : Int → kzM → Prop} (hQ : Q (zp (adL n i j)) σ) : Wz (Z12_areOneApart kdG0 612 i j) σ Q := by
  have s := (way_n h).2.2.2.1
  unfold Z12_areOneApart Z12_areOneApart_21
  simp only [Wz_rt, Wz_cnd, Wz_lI, Wz_lW, Wz_lL, Wz_cl, Wz_cv, Wz_nz, Wz_gI, Wz_gR, Wz_sI, Wz_aI, Wz_aZ, Wz_aL, Wz_aN, Wz_aR, Wz_tI, Wz_tZ, Wz_tL, Option.some.injEq, exists_eq_left', zB_0, zB_1, true_and, and_true, true_implies, not_true_eq_false, false_implies, not_false_eq_true, Classical.not_not, g_0, g_1, g_2, g_3, g_4, g_5, g_327, g_328, g_329, g_330, g_331, g_332, g_333, g_334, g_335, g_336, g_337, g_338, g_339, g_340, g_341, g_342, g_343, g_464, g_465, g_466, g_484, g_485, g_486, g_487, g_488, g_489, g_490, g_491, g_492, g_493, g_494, g_495, g_496, g_497, g_498, g_499, g_500, g_501, g_562, g_563, g_564, g_565, g_566, g_567, g_568, g_574, g_580, g_581, g_582, g_583, g_584, g_585, g_586, g_587, g_588, g_589, g_590, g_591, g_592, g_600, g_601, g_602, g_603, g_604, g_605, g_606, g_607, g_608, g_609, g_610, g_611, g_612, g_613, g_614, g_615, g_616, g_617, g_618, g_619, g_620, g_621, g_622, g_623, g_624, g_625, g_626, g_627, g_628, g_629, g_630, g_631, g_632, g_633, g_634, g_635, g_636, g_637, g_638, g_639, g_640, g_641, g_642, g_643, g_644, g_645, g_646, g_647, g_648, g_649, g_650, g_651, g_652, g_653, g_654, g_655, g_656, g_657, g_658, g_659, g_660, g_661, g_662, g_0_0, g_0_1, g_0_2, g_0_3, g_0_4, g_0_5, g_0_6, g_0_7, g_0_8, g_0_9, g_0_10, g_0_11, g_1_0, g_3_0, g_327_0, g_327_1, g_327_2, g_327_3, g_328_0, g_330_0, g_332_0, g_334_0, g_336_0, g_336_1, g_336_2, g_336_3, g_337_0, g_339_0, g_341_0, g_464_0, g_464_1, g_484_0, g_484_1, g_484_2, g_485_0, g_487_0, g_489_0, g_491_0, g_491_1, g_491_2, g_491_3, g_491_4, g_491_5, g_491_6, g_491_7, g_496_0, g_498_0, g_500_0, g_500_1, g_500_3, g_500_4, g_500_5, g_500_6, g_500_7, g_562_0, g_564_0, g_566_0, g_580_0, g_580_1, g_580_2, g_580_3, g_581_0, g_583_0, g_585_0, g_588_1, g_588_2, g_588_3, g_588_4, g_588_6, g_601_0, g_601_1, g_601_2, g_601_3, g_601_4, g_601_5, g_601_6, g_601_7, g_601_8, g_608_0, g_610_0, g_612_0, g_612_2, g_612_4, g_612_5, g_612_7, g_612_8, g_612_9, g_612_10, g_612_11, g_612_12, g_612_13, g_612_14, g_612_15, g_612_16, g_612_19, g_612_20, g_612_22, g_612_24, g_612_25, g_612_26, g_612_27, g_612_28, g_612_30, g_612_31, g_612_32, g_612_33, g_612_34, g_612_36, g_612_37, g_612_38, g_612_39, g_612_40, g_612_41, g_612_42, g_612_43, g_612_44, g_612_46, g_612_47, g_612_48, g_612_49, g_612_50, g_612_53, g_612_56, g_612_57, g_612_58, g_612_59, g_612_61, g_612_62, g_612_63, g_612_64]
  rw [(hl.2.2 i i0 i1).1, (hl.2.2 j j0 j1).1]
  have bi := codN_b h i0 i1
  have bj := codN_b h j0 j1
  refine ⟨by omega, by omega, ?_⟩
  refine W12_oa_21 (n := n) (by rw [hl.1 612 55 (by decide), h5]) (by omega) bi.1 bi.2 bj.1 bj.2 ?_ NN 0 (by omega) (by unfold NN; omega)
  rw [zp_iff (adL_df h i0 i1 j0 j1)]
  exact hQ
/-- the reference's counts of steps -/
def on662 (τ σ : kzM) : Prop := ∀ a x, a ≠ 662 → σ.1 a x = τ.1 a x
theorem on662.tr {τ σ ρ : kzM} (h : on662 τ σ) (k : on662 σ ρ) : on662 τ ρ := fun a x z => (k a x z).trans (h a x z)
theorem lisR.on {τ σ ρ : kzM} {n : Nat} (h : lisR τ σ n) (k : on662 σ ρ) : lisR τ ρ n := by
  refine ⟨h.1.tr (fun a x z => k a x (fun q => z (by rw [q]; rfl))), by rw [k 612 65 (by decide)]; exact h.2.1, fun i i0 i1 => ?_⟩
  rw [k 660 i (by decide), k 661 i (by decide)]
  exact h.2.2 i i0 i1
def cosN (τ : kzM) (n : Nat) (i : Int) : Int := cP τ (rowN n i)
set_option maxRecDepth 100000 in
theorem W12_fs_70 {τ : kzM} {n : Nat} (h : 2 ≤ n ∧ n ≤ 5) (h5 : τ.1 612 55 = n) {s t : Int} {l : Nat} (l0 : (l : Int) < 1000) {i : Int} (i0 : 0 ≤ i) (i1 : i < szN n) {K58 : Nat → Int → Int → Int → Int → kzM → Option (Unit × kzM)} {K49 : Nat → Int → Int → Int → kzM → Option (Unit × kzM)} {Q : Unit → kzM → Prop} {σ0 : kzM} (hl0 : lisR τ σ0 n) (hQ : ∀ ρ fl, on662 σ0 ρ → swI (szN n) (cosN τ n) (adL n) s t l (i + 1) 0 (ρ.1 662) → (fl = 0 ∧ (∀ v : Int, 0 ≤ v → v < szN n → ρ.1 662 v = σ0.1 662 v) ∨ (fl = 1 ∧ ∃ v : Int, (0 ≤ v ∧ v < szN n) ∧ dst (szN n) (cosN τ n) (adL n) s t (l + 1) v)) → Wz (K58 612 t fl l (i + 1)) ρ Q) : ∀ (N : Nat) (j fl : Int) (σ : kzM), 0 ≤ j → j ≤ szN n → szN n - j < N → on662 σ0 σ → swI (szN n) (cosN τ n) (adL n) s t l i j (σ.1 662) → (fl = 0 ∧ (∀ v : Int, 0 ≤ v → v < szN n → σ.1 662 v = σ0.1 662 v) ∨ (fl = 1 ∧ ∃ v : Int, (0 ≤ v ∧ v < szN n) ∧ dst (szN n) (cosN τ n) (adL n) s t (l + 1) v)) → Wz (lp (fun _ _ _ _ _ _ _ => none) (Z12_findSteps_70B kdG0 K49 K58) N 612 t fl l i j) σ Q := by
  have sz := (way_n h).2.2.2.1
  intro N
  induction N with
  | zero => intro j; intros; omega
  | succ N ih =>
    intro j fl σ j0 j1 jN hs hw hf
    rw [lp_succ]
    have ih' := ih (j + 1)
    generalize lp (fun _ _ _ _ _ _ _ => none) (Z12_findSteps_70B kdG0 K49 K58) N = L at ih' ⊢
    have hl := hl0.on hs
    have e65 := hl.2.1
    unfold Z12_findSteps_70B
    simp only [Z12_findSteps_145, Z12_findSteps_139, Wz_rt, Wz_cnd, Wz_lI, Wz_lW, Wz_lL, Wz_cl, Wz_cv, Wz_nz, Wz_gI, Wz_gR, Wz_sI, Wz_aI, Wz_aZ, Wz_aL, Wz_aN, Wz_aR, Wz_tI, Wz_tZ, Wz_tL, Option.some.injEq, exists_eq_left', zB_0, zB_1, true_and, and_true, true_implies, not_true_eq_false, false_implies, not_false_eq_true, Classical.not_not, g_0, g_1, g_2, g_3, g_4, g_5, g_327, g_328, g_329, g_330, g_331, g_332, g_333, g_334, g_335, g_336, g_337, g_338, g_339, g_340, g_341, g_342, g_343, g_464, g_465, g_466, g_484, g_485, g_486, g_487, g_488, g_489, g_490, g_491, g_492, g_493, g_494, g_495, g_496, g_497, g_498, g_499, g_500, g_501, g_562, g_563, g_564, g_565, g_566, g_567, g_568, g_574, g_580, g_581, g_582, g_583, g_584, g_585, g_586, g_587, g_588, g_589, g_590, g_591, g_592, g_600, g_601, g_602, g_603, g_604, g_605, g_606, g_607, g_608, g_609, g_610, g_611, g_612, g_613, g_614, g_615, g_616, g_617, g_618, g_619, g_620, g_621, g_622, g_623, g_624, g_625, g_626, g_627, g_628, g_629, g_630, g_631, g_632, g_633, g_634, g_635, g_636, g_637, g_638, g_639, g_640, g_641, g_642, g_643, g_644, g_645, g_646, g_647, g_648, g_649, g_650, g_651, g_652, g_653, g_654, g_655, g_656, g_657, g_658, g_659, g_660, g_661, g_662, g_0_0, g_0_1, g_0_2, g_0_3, g_0_4, g_0_5, g_0_6, g_0_7, g_0_8, g_0_9, g_0_10, g_0_11, g_1_0, g_3_0, g_327_0, g_327_1, g_327_2, g_327_3, g_328_0, g_330_0, g_332_0, g_334_0, g_336_0, g_336_1, g_336_2, g_336_3, g_337_0, g_339_0, g_341_0, g_464_0, g_464_1, g_484_0, g_484_1, g_484_2, g_485_0, g_487_0, g_489_0, g_491_0, g_491_1, g_491_2, g_491_3, g_491_4, g_491_5, g_491_6, g_491_7, g_496_0, g_498_0, g_500_0, g_500_1, g_500_3, g_500_4, g_500_5, g_500_6, g_500_7, g_562_0, g_564_0, g_566_0, g_580_0, g_580_1, g_580_2, g_580_3, g_581_0, g_583_0, g_585_0, g_588_1, g_588_2, g_588_3, g_588_4, g_588_6, g_601_0, g_601_1, g_601_2, g_601_3, g_601_4, g_601_5, g_601_6, g_601_7, g_601_8, g_608_0, g_610_0, g_612_0, g_612_2, g_612_4, g_612_5, g_612_7, g_612_8, g_612_9, g_612_10, g_612_11, g_612_12, g_612_13, g_612_14, g_612_15, g_612_16, g_612_19, g_612_20, g_612_22, g_612_24, g_612_25, g_612_26, g_612_27, g_612_28, g_612_30, g_612_31, g_612_32, g_612_33, g_612_34, g_612_36, g_612_37, g_612_38, g_612_39, g_612_40, g_612_41, g_612_42, g_612_43, g_612_44, g_612_46, g_612_47, g_612_48, g_612_49, g_612_50, g_612_53, g_612_56, g_612_57, g_612_58, g_612_59, g_612_61, g_612_62, g_612_63, g_612_64, e65]
    refine ⟨fun c => ⟨by omega, ?_⟩, fun c => ⟨by omega, fun d => ⟨by omega, fun e => ⟨by omega, fun g => ⟨by omega, ?_⟩, fun g => ?_⟩, fun e => ⟨by omega, ?_⟩⟩, fun d => ⟨by omega, ?_⟩⟩⟩
    · have ej : j = szN n := by omega
      subst ej
      exact hQ σ fl hs (swI_end hw) hf
    · rw [(hl.2.2 j j0 (by omega)).2] at g
      exact ih' fl σ (by omega) (by omega) (by omega) hs (swI_keep hw j0 (by omega) (Or.inr (Or.inl g))) hf
    · rw [(hl.2.2 j j0 (by omega)).2] at g
      refine W12_apart h h5 hl i0 i1 j0 (by omega) ?_
      rw [zp_0]
      refine ⟨fun a => ⟨by omega, ih' fl σ (by omega) (by omega) (by omega) hs (swI_keep hw j0 (by omega) (Or.inr (Or.inr a))) hf⟩, fun a => ⟨by omega, by omega, by omega, ?_⟩⟩
      have nw := swI_new (D' := (v2 σ.1 662 j ((l : Int) + 1)) 662) hw i0 i1 d l0 e (show cosN τ n j ≤ t by unfold cosN; omega) (Classical.not_not.1 a) (v2_self _ _ _ _) (fun v hv => v2_nk _ _ _ _ hv) j0 (by omega)
      refine ih' 1 _ (by omega) (by omega) (by omega) (fun a x z => (v2_ne _ _ _ _ z).trans (hs a x z)) nw.1 (Or.inr ⟨rfl, j, ⟨j0, by omega⟩, nw.2⟩)
    · exact ih' fl σ (by omega) (by omega) (by omega) hs (swI_keep hw j0 (by omega) (Or.inl e)) hf
    · exact hQ σ fl hs (swI_row hw l0 i0 i1 d) hf
set_option maxRecDepth 100000 in
theorem W12_fs_58 {τ : kzM} {n : Nat} (h : 2 ≤ n ∧ n ≤ 5) (h5 : τ.1 612 55 = n) {s t : Int} {l : Nat} (l0 : (l : Int) < 1000) {K49 : Nat → Int → Int → Int → kzM → Option (Unit × kzM)} {Q : Unit → kzM → Prop} {σ0 : kzM} (hl0 : lisR τ σ0 n) (hQ : ∀ ρ fl, on662 σ0 ρ → swI (szN n) (cosN τ n) (adL n) s t (l + 1) 0 0 (ρ.1 662) → (fl = 0 ∧ (∀ v : Int, 0 ≤ v → v < szN n → ρ.1 662 v = σ0.1 662 v) ∨ (fl = 1 ∧ ∃ v : Int, (0 ≤ v ∧ v < szN n) ∧ dst (szN n) (cosN τ n) (adL n) s t (l + 1) v)) → Wz (K49 612 t fl ((l : Int) + 1)) ρ Q) : ∀ (N : Nat) (i fl : Int) (σ : kzM), 0 ≤ i → i ≤ szN n → szN n - i < N → on662 σ0 σ → swI (szN n) (cosN τ n) (adL n) s t l i 0 (σ.1 662) → (fl = 0 ∧ (∀ v : Int, 0 ≤ v → v < szN n → σ.1 662 v = σ0.1 662 v) ∨ (fl = 1 ∧ ∃ v : Int, (0 ≤ v ∧ v < szN n) ∧ dst (szN n) (cosN τ n) (adL n) s t (l + 1) v)) → Wz (lp (fun _ _ _ _ _ _ => none) (Z12_findSteps_58B kdG0 K49) N 612 t fl l i) σ Q := by
  have sz := (way_n h).2.2.2.1
  intro N
  induction N with
  | zero => intro i; intros; omega
  | succ N ih =>
    intro i fl σ i0 i1 iN hs hw hf
    rw [lp_succ]
    have ih' := ih (i + 1)
    generalize lp (fun _ _ _ _ _ _ => none) (Z12_findSteps_58B kdG0 K49) N = L at ih' ⊢
    have hl := hl0.on hs
    have e65 := hl.2.1
    unfold Z12_findSteps_58B
    simp only [Wz_rt, Wz_cnd, Wz_lI, Wz_lW, Wz_lL, Wz_cl, Wz_cv, Wz_nz, Wz_gI, Wz_gR, Wz_sI, Wz_aI, Wz_aZ, Wz_aL, Wz_aN, Wz_aR, Wz_tI, Wz_tZ, Wz_tL, Option.some.injEq, exists_eq_left', zB_0, zB_1, true_and, and_true, true_implies, not_true_eq_false, false_implies, not_false_eq_true, Classical.not_not, g_0, g_1, g_2, g_3, g_4, g_5, g_327, g_328, g_329, g_330, g_331, g_332, g_333, g_334, g_335, g_336, g_337, g_338, g_339, g_340, g_341, g_342, g_343, g_464, g_465, g_466, g_484, g_485, g_486, g_487, g_488, g_489, g_490, g_491, g_492, g_493, g_494, g_495, g_496, g_497, g_498, g_499, g_500, g_501, g_562, g_563, g_564, g_565, g_566, g_567, g_568, g_574, g_580, g_581, g_582, g_583, g_584, g_585, g_586, g_587, g_588, g_589, g_590, g_591, g_592, g_600, g_601, g_602, g_603, g_604, g_605, g_606, g_607, g_608, g_609, g_610, g_611, g_612, g_613, g_614, g_615, g_616, g_617, g_618, g_619, g_620, g_621, g_622, g_623, g_624, g_625, g_626, g_627, g_628, g_629, g_630, g_631, g_632, g_633, g_634, g_635, g_636, g_637, g_638, g_639, g_640, g_641, g_642, g_643, g_644, g_645, g_646, g_647, g_648, g_649, g_650, g_651, g_652, g_653, g_654, g_655, g_656, g_657, g_658, g_659, g_660, g_661, g_662, g_0_0, g_0_1, g_0_2, g_0_3, g_0_4, g_0_5, g_0_6, g_0_7, g_0_8, g_0_9, g_0_10, g_0_11, g_1_0, g_3_0, g_327_0, g_327_1, g_327_2, g_327_3, g_328_0, g_330_0, g_332_0, g_334_0, g_336_0, g_336_1, g_336_2, g_336_3, g_337_0, g_339_0, g_341_0, g_464_0, g_464_1, g_484_0, g_484_1, g_484_2, g_485_0, g_487_0, g_489_0, g_491_0, g_491_1, g_491_2, g_491_3, g_491_4, g_491_5, g_491_6, g_491_7, g_496_0, g_498_0, g_500_0, g_500_1, g_500_3, g_500_4, g_500_5, g_500_6, g_500_7, g_562_0, g_564_0, g_566_0, g_580_0, g_580_1, g_580_2, g_580_3, g_581_0, g_583_0, g_585_0, g_588_1, g_588_2, g_588_3, g_588_4, g_588_6, g_601_0, g_601_1, g_601_2, g_601_3, g_601_4, g_601_5, g_601_6, g_601_7, g_601_8, g_608_0, g_610_0, g_612_0, g_612_2, g_612_4, g_612_5, g_612_7, g_612_8, g_612_9, g_612_10, g_612_11, g_612_12, g_612_13, g_612_14, g_612_15, g_612_16, g_612_19, g_612_20, g_612_22, g_612_24, g_612_25, g_612_26, g_612_27, g_612_28, g_612_30, g_612_31, g_612_32, g_612_33, g_612_34, g_612_36, g_612_37, g_612_38, g_612_39, g_612_40, g_612_41, g_612_42, g_612_43, g_612_44, g_612_46, g_612_47, g_612_48, g_612_49, g_612_50, g_612_53, g_612_56, g_612_57, g_612_58, g_612_59, g_612_61, g_612_62, g_612_63, g_612_64, e65]
    refine ⟨fun c => ⟨by omega, ?_⟩, fun c => ?_⟩
    · have ei : i = szN n := by omega
      subst ei
      exact hQ σ fl hs (swI_next hw) hf
    · unfold Z12_findSteps_70
      refine W12_fs_70 h h5 l0 i0 (by omega) hl0 (fun ρ fl' r1 r2 r3 => ?_) NN 0 fl σ (by omega) (by omega) (by unfold NN; omega) hs hw hf
      exact ih' fl' ρ (by omega) (by omega) (by omega) r1 r2 r3
set_option maxRecDepth 100000 in
theorem W12_fs_49z {t : Int} {Q : Unit → kzM → Prop} {σ : kzM} (hQ : Q () σ) : ∀ (N : Nat) (l : Int), Wz (lp (fun _ _ _ _ _ => none) (Z12_findSteps_49B kdG0) (N + 1) 612 t 0 l) σ Q := by
  intro N l
  rw [lp_succ]
  generalize lp (fun _ _ _ _ _ => none) (Z12_findSteps_49B kdG0) N = L
  unfold Z12_findSteps_49B
  simp only [Wz_rt, Wz_cnd, Wz_lI, Wz_lW, Wz_lL, Wz_cl, Wz_cv, Wz_nz, Wz_gI, Wz_gR, Wz_sI, Wz_aI, Wz_aZ, Wz_aL, Wz_aN, Wz_aR, Wz_tI, Wz_tZ, Wz_tL, Option.some.injEq, exists_eq_left', zB_0, zB_1, true_and, and_true, true_implies, not_true_eq_false, false_implies, not_false_eq_true, Classical.not_not, g_0, g_1, g_2, g_3, g_4, g_5, g_327, g_328, g_329, g_330, g_331, g_332, g_333, g_334, g_335, g_336, g_337, g_338, g_339, g_340, g_341, g_342, g_343, g_464, g_465, g_466, g_484, g_485, g_486, g_487, g_488, g_489, g_490, g_491, g_492, g_493, g_494, g_495, g_496, g_497, g_498, g_499, g_500, g_501, g_562, g_563, g_564, g_565, g_566, g_567, g_568, g_574, g_580, g_581, g_582, g_583, g_584, g_585, g_586, g_587, g_588, g_589, g_590, g_591, g_592, g_600, g_601, g_602, g_603, g_604, g_605, g_606, g_607, g_608, g_609, g_610, g_611, g_612, g_613, g_614, g_615, g_616, g_617, g_618, g_619, g_620, g_621, g_622, g_623, g_624, g_625, g_626, g_627, g_628, g_629, g_630, g_631, g_632, g_633, g_634, g_635, g_636, g_637, g_638, g_639, g_640, g_641, g_642, g_643, g_644, g_645, g_646, g_647, g_648, g_649, g_650, g_651, g_652, g_653, g_654, g_655, g_656, g_657, g_658, g_659, g_660, g_661, g_662, g_0_0, g_0_1, g_0_2, g_0_3, g_0_4, g_0_5, g_0_6, g_0_7, g_0_8, g_0_9, g_0_10, g_0_11, g_1_0, g_3_0, g_327_0, g_327_1, g_327_2, g_327_3, g_328_0, g_330_0, g_332_0, g_334_0, g_336_0, g_336_1, g_336_2, g_336_3, g_337_0, g_339_0, g_341_0, g_464_0, g_464_1, g_484_0, g_484_1, g_484_2, g_485_0, g_487_0, g_489_0, g_491_0, g_491_1, g_491_2, g_491_3, g_491_4, g_491_5, g_491_6, g_491_7, g_496_0, g_498_0, g_500_0, g_500_1, g_500_3, g_500_4, g_500_5, g_500_6, g_500_7, g_562_0, g_564_0, g_566_0, g_580_0, g_580_1, g_580_2, g_580_3, g_581_0, g_583_0, g_585_0, g_588_1, g_588_2, g_588_3, g_588_4, g_588_6, g_601_0, g_601_1, g_601_2, g_601_3, g_601_4, g_601_5, g_601_6, g_601_7, g_601_8, g_608_0, g_610_0, g_612_0, g_612_2, g_612_4, g_612_5, g_612_7, g_612_8, g_612_9, g_612_10, g_612_11, g_612_12, g_612_13, g_612_14, g_612_15, g_612_16, g_612_19, g_612_20, g_612_22, g_612_24, g_612_25, g_612_26, g_612_27, g_612_28, g_612_30, g_612_31, g_612_32, g_612_33, g_612_34, g_612_36, g_612_37, g_612_38, g_612_39, g_612_40, g_612_41, g_612_42, g_612_43, g_612_44, g_612_46, g_612_47, g_612_48, g_612_49, g_612_50, g_612_53, g_612_56, g_612_57, g_612_58, g_612_59, g_612_61, g_612_62, g_612_63, g_612_64]
  exact hQ
set_option maxRecDepth 100000 in
theorem W12_fs_49 {τ : kzM} {n : Nat} (h : 2 ≤ n ∧ n ≤ 5) (h5 : τ.1 612 55 = n) {s t : Int} {σ0 : kzM} (hl0 : lisR τ σ0 n) {Q : Unit → kzM → Prop} (hQ : ∀ ρ, on662 σ0 ρ → disL (szN n) (cosN τ n) (adL n) s t 1000000000 (ρ.1 662) → Q () ρ) : ∀ (N l : Nat) (σ : kzM), l ≤ szN n → szN n - l + 1 < N → on662 σ0 σ → swI (szN n) (cosN τ n) (adL n) s t l 0 0 (σ.1 662) → Wz (lp (fun _ _ _ _ _ => none) (Z12_findSteps_49B kdG0) N 612 t 1 (l : Int)) σ Q := by
  have sz := (way_n h).2.2.2.1
  intro N
  induction N with
  | zero => intro l; intros; omega
  | succ N ih =>
    intro l σ l1 lN hs hw
    rw [lp_succ]
    have ih' := ih (l + 1)
    obtain ⟨M, hM⟩ : ∃ M, N = M + 1 := ⟨N - 1, by omega⟩
    have z1 : ∀ ρ, Q () ρ → Wz (lp (fun _ _ _ _ _ => none) (Z12_findSteps_49B kdG0) N 612 t 0 ((l : Int) + 1)) ρ Q := fun ρ q => by
      rw [hM]; exact W12_fs_49z q M _
    generalize lp (fun _ _ _ _ _ => none) (Z12_findSteps_49B kdG0) N = L at ih' z1 ⊢
    have hl := hl0.on hs
    unfold Z12_findSteps_49B
    simp only [Wz_rt, Wz_cnd, Wz_lI, Wz_lW, Wz_lL, Wz_cl, Wz_cv, Wz_nz, Wz_gI, Wz_gR, Wz_sI, Wz_aI, Wz_aZ, Wz_aL, Wz_aN, Wz_aR, Wz_tI, Wz_tZ, Wz_tL, Option.some.injEq, exists_eq_left', zB_0, zB_1, true_and, and_true, true_implies, not_true_eq_false, false_implies, not_false_eq_true, Classical.not_not, g_0, g_1, g_2, g_3, g_4, g_5, g_327, g_328, g_329, g_330, g_331, g_332, g_333, g_334, g_335, g_336, g_337, g_338, g_339, g_340, g_341, g_342, g_343, g_464, g_465, g_466, g_484, g_485, g_486, g_487, g_488, g_489, g_490, g_491, g_492, g_493, g_494, g_495, g_496, g_497, g_498, g_499, g_500, g_501, g_562, g_563, g_564, g_565, g_566, g_567, g_568, g_574, g_580, g_581, g_582, g_583, g_584, g_585, g_586, g_587, g_588, g_589, g_590, g_591, g_592, g_600, g_601, g_602, g_603, g_604, g_605, g_606, g_607, g_608, g_609, g_610, g_611, g_612, g_613, g_614, g_615, g_616, g_617, g_618, g_619, g_620, g_621, g_622, g_623, g_624, g_625, g_626, g_627, g_628, g_629, g_630, g_631, g_632, g_633, g_634, g_635, g_636, g_637, g_638, g_639, g_640, g_641, g_642, g_643, g_644, g_645, g_646, g_647, g_648, g_649, g_650, g_651, g_652, g_653, g_654, g_655, g_656, g_657, g_658, g_659, g_660, g_661, g_662, g_0_0, g_0_1, g_0_2, g_0_3, g_0_4, g_0_5, g_0_6, g_0_7, g_0_8, g_0_9, g_0_10, g_0_11, g_1_0, g_3_0, g_327_0, g_327_1, g_327_2, g_327_3, g_328_0, g_330_0, g_332_0, g_334_0, g_336_0, g_336_1, g_336_2, g_336_3, g_337_0, g_339_0, g_341_0, g_464_0, g_464_1, g_484_0, g_484_1, g_484_2, g_485_0, g_487_0, g_489_0, g_491_0, g_491_1, g_491_2, g_491_3, g_491_4, g_491_5, g_491_6, g_491_7, g_496_0, g_498_0, g_500_0, g_500_1, g_500_3, g_500_4, g_500_5, g_500_6, g_500_7, g_562_0, g_564_0, g_566_0, g_580_0, g_580_1, g_580_2, g_580_3, g_581_0, g_583_0, g_585_0, g_588_1, g_588_2, g_588_3, g_588_4, g_588_6, g_601_0, g_601_1, g_601_2, g_601_3, g_601_4, g_601_5, g_601_6, g_601_7, g_601_8, g_608_0, g_610_0, g_612_0, g_612_2, g_612_4, g_612_5, g_612_7, g_612_8, g_612_9, g_612_10, g_612_11, g_612_12, g_612_13, g_612_14, g_612_15, g_612_16, g_612_19, g_612_20, g_612_22, g_612_24, g_612_25, g_612_26, g_612_27, g_612_28, g_612_30, g_612_31, g_612_32, g_612_33, g_612_34, g_612_36, g_612_37, g_612_38, g_612_39, g_612_40, g_612_41, g_612_42, g_612_43, g_612_44, g_612_46, g_612_47, g_612_48, g_612_49, g_612_50, g_612_53, g_612_56, g_612_57, g_612_58, g_612_59, g_612_61, g_612_62, g_612_63, g_612_64]
    unfold Z12_findSteps_58
    refine ⟨fun z => absurd z (by decide), fun _ => W12_fs_58 h h5 (l := l) (by omega) hl (fun ρ fl r1 r2 r3 => ?_) NN 0 0 σ (by omega) (by omega) (by unfold NN; omega) (fun _ _ _ => rfl) hw (Or.inl ⟨rfl, fun _ _ _ => rfl⟩)⟩
    rcases r3 with ⟨e, r3⟩ | ⟨e, v, hv, r3⟩
    · rw [e]
      refine z1 ρ (hQ ρ (hs.tr r1) ?_)
      refine swI_stop (l := l) (fun v v0 v1 => ?_) r2 (by omega) sz
      rw [r3 v v0 v1]
      exact hw v v0 v1
    · rw [e]
      have := dst_M hv.1 hv.2 r3
      rw [show (l : Int) + 1 = ((l + 1 : Nat) : Int) by omega]
      exact ih' ρ (by omega) (by omega) (hs.tr r1) r2
set_option maxRecDepth 100000 in
theorem W12_fs_2 {τ : kzM} {n : Nat} (h : 2 ≤ n ∧ n ≤ 5) (h5 : τ.1 612 55 = n) {s t : Int} (s0 : 0 ≤ s) (s1 : s < szN n) (hs : cosN τ n s ≤ t) {σ0 : kzM} (hl0 : lisR τ σ0 n) {Q : Unit → kzM → Prop} (hQ : ∀ ρ, on662 σ0 ρ → disL (szN n) (cosN τ n) (adL n) s t 1000000000 (ρ.1 662) → Q () ρ) : ∀ (N : Nat) (i : Int) (σ : kzM), 0 ≤ i → i ≤ szN n → szN n - i < N → on662 σ0 σ → (∀ v, 0 ≤ v → v < i → σ.1 662 v = if v = s then 0 else 1000000000) → Wz (lp (fun _ _ _ _ _ => none) (Z12_findSteps_2B kdG0) N 612 s t i) σ Q := by
  have sz := (way_n h).2.2.2.1
  intro N
  induction N with
  | zero => intro i; intros; omega
  | succ N ih =>
    intro i σ i0 i1 iN ho hv
    rw [lp_succ]
    have ih' := ih (i + 1)
    generalize lp (fun _ _ _ _ _ => none) (Z12_findSteps_2B kdG0) N = L at ih' ⊢
    have hl := hl0.on ho
    have e65 := hl.2.1
    have wr : ∀ w, w = (if i = s then 0 else 1000000000) → i < szN n → Wz (L 612 s t (i + 1)) (v2 σ.1 662 i w, σ.2) Q := fun w hw hi => by
      refine ih' _ (by omega) (by omega) (by omega) (fun a x z => (v2_ne _ _ _ _ z).trans (ho a x z)) (fun v v0 v1 => ?_)
      by_cases y : v = i
      · rw [y, ← hw]; exact v2_self _ _ _ _
      · exact (v2_nk _ _ _ _ y).trans (hv v v0 (by omega))
    unfold Z12_findSteps_2B
    simp only [Z12_findSteps_34, Z12_findSteps_37, Wz_rt, Wz_cnd, Wz_lI, Wz_lW, Wz_lL, Wz_cl, Wz_cv, Wz_nz, Wz_gI, Wz_gR, Wz_sI, Wz_aI, Wz_aZ, Wz_aL, Wz_aN, Wz_aR, Wz_tI, Wz_tZ, Wz_tL, Option.some.injEq, exists_eq_left', zB_0, zB_1, true_and, and_true, true_implies, not_true_eq_false, false_implies, not_false_eq_true, Classical.not_not, g_0, g_1, g_2, g_3, g_4, g_5, g_327, g_328, g_329, g_330, g_331, g_332, g_333, g_334, g_335, g_336, g_337, g_338, g_339, g_340, g_341, g_342, g_343, g_464, g_465, g_466, g_484, g_485, g_486, g_487, g_488, g_489, g_490, g_491, g_492, g_493, g_494, g_495, g_496, g_497, g_498, g_499, g_500, g_501, g_562, g_563, g_564, g_565, g_566, g_567, g_568, g_574, g_580, g_581, g_582, g_583, g_584, g_585, g_586, g_587, g_588, g_589, g_590, g_591, g_592, g_600, g_601, g_602, g_603, g_604, g_605, g_606, g_607, g_608, g_609, g_610, g_611, g_612, g_613, g_614, g_615, g_616, g_617, g_618, g_619, g_620, g_621, g_622, g_623, g_624, g_625, g_626, g_627, g_628, g_629, g_630, g_631, g_632, g_633, g_634, g_635, g_636, g_637, g_638, g_639, g_640, g_641, g_642, g_643, g_644, g_645, g_646, g_647, g_648, g_649, g_650, g_651, g_652, g_653, g_654, g_655, g_656, g_657, g_658, g_659, g_660, g_661, g_662, g_0_0, g_0_1, g_0_2, g_0_3, g_0_4, g_0_5, g_0_6, g_0_7, g_0_8, g_0_9, g_0_10, g_0_11, g_1_0, g_3_0, g_327_0, g_327_1, g_327_2, g_327_3, g_328_0, g_330_0, g_332_0, g_334_0, g_336_0, g_336_1, g_336_2, g_336_3, g_337_0, g_339_0, g_341_0, g_464_0, g_464_1, g_484_0, g_484_1, g_484_2, g_485_0, g_487_0, g_489_0, g_491_0, g_491_1, g_491_2, g_491_3, g_491_4, g_491_5, g_491_6, g_491_7, g_496_0, g_498_0, g_500_0, g_500_1, g_500_3, g_500_4, g_500_5, g_500_6, g_500_7, g_562_0, g_564_0, g_566_0, g_580_0, g_580_1, g_580_2, g_580_3, g_581_0, g_583_0, g_585_0, g_588_1, g_588_2, g_588_3, g_588_4, g_588_6, g_601_0, g_601_1, g_601_2, g_601_3, g_601_4, g_601_5, g_601_6, g_601_7, g_601_8, g_608_0, g_610_0, g_612_0, g_612_2, g_612_4, g_612_5, g_612_7, g_612_8, g_612_9, g_612_10, g_612_11, g_612_12, g_612_13, g_612_14, g_612_15, g_612_16, g_612_19, g_612_20, g_612_22, g_612_24, g_612_25, g_612_26, g_612_27, g_612_28, g_612_30, g_612_31, g_612_32, g_612_33, g_612_34, g_612_36, g_612_37, g_612_38, g_612_39, g_612_40, g_612_41, g_612_42, g_612_43, g_612_44, g_612_46, g_612_47, g_612_48, g_612_49, g_612_50, g_612_53, g_612_56, g_612_57, g_612_58, g_612_59, g_612_61, g_612_62, g_612_63, g_612_64, e65]
    refine ⟨fun c => ?_, fun c => ⟨fun d => ⟨by omega, fun e => ?_, fun e => ⟨by omega, by omega, wr 0 (by rw [if_pos d]) (by omega)⟩⟩, fun d => ⟨by omega, by omega, wr _ (by rw [if_neg d]) (by omega)⟩⟩⟩
    · have ei : i = szN n := by omega
      subst ei
      unfold Z12_findSteps_49
      refine W12_fs_49 h h5 hl0 hQ NN 0 σ (by omega) (by unfold NN; omega) ho (fun v v0 v1 => ?_)
      rw [hv v v0 v1]
      by_cases y : v = s
      · rw [if_pos y]
        exact Or.inl ⟨0, rfl, ⟨⟨y, hs⟩, fun k hk => by omega⟩, Or.inl ⟨y, hs⟩⟩
      · rw [if_neg y]
        refine Or.inr ⟨rfl, fun q => y ?_⟩
        exact ((wvK_0 v0).1 q).1
    · rw [(hl.2.2 i i0 (by omega)).2, d] at e
      unfold cosN at hs
      omega
set_option maxRecDepth 100000 in
theorem W12_findSteps {τ σ : kzM} {n : Nat} (h : 2 ≤ n ∧ n ≤ 5) (h5 : τ.1 612 55 = n) {s t : Int} (s0 : 0 ≤ s) (s1 : s < szN n) (hs : cosN τ n s ≤ t) (hl : lisR τ σ n) {Q : Unit → kzM → Prop} (hQ : ∀ ρ, on662 σ ρ → disL (szN n) (cosN τ n) (adL n) s t 1000000000 (ρ.1 662) → Q () ρ) : Wz (Z12_findSteps kdG0 612 s t) σ Q := by
  have sz := (way_n h).2.2.2.1
  unfold Z12_findSteps Z12_findSteps_2
  exact W12_fs_2 h h5 s0 s1 hs hl hQ NN 0 σ (by omega) (by omega) (by unfold NN; omega) (fun _ _ _ => rfl) (fun v a b => by omega)
