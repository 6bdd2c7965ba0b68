/-! layouts: the least costly, the reference and the method -/
def on659 (n : Nat) (σ : kzM) (p : List Nat) : Prop := ∀ i : Int, 0 ≤ i → i < n → σ.1 659 i = rowL p i
theorem nxB_iff {n : Nat} {a b : List Nat} (h : nxB n a b = true) : 0 ≤ pvt (rowL a) (n - 1) ∧ ∀ i : Int, 0 ≤ i → i < n → nxF n (rowL a) i = rowL b i := by
  unfold nxB at h
  rw [Bool.and_eq_true, decide_eq_true_eq, List.all_eq_true] at h
  refine ⟨h.1, fun i i0 i1 => ?_⟩
  have := h.2 i.toNat (List.mem_range.2 (by omega))
  rw [decide_eq_true_eq, show ((i.toNat : Nat) : Int) = i by omega] at this
  exact this
theorem cP_b {τ : kzM} (hI : Inv τ) {p : List Nat} (hp : p ∈ allP (τ.1 588 0).toNat) : 0 ≤ cP τ (rowL p) ∧ cP τ (rowL p) < 1000000 := by
  have i9 := hI.2.2.2.2.2.2.2.2
  unfold I9 at i9
  have s1 := i9.1
  obtain ⟨a, b, _⟩ := allP_mem.1 hp
  have := wS_b (p := adP τ (rowL p)) (m := 20180) (τ.1 588 0).toNat (fun k k0 k1 => adP_b hI k0 (by omega) (fun j j0 j1 => by have := rowL_b b j0 (by omega); omega))
  unfold cP
  omega
set_option maxRecDepth 100000 in
theorem W12_be_14 {τ : kzM} (hI : Inv τ) {Q : Int → kzM → Prop} {r : Int} (hQ : ∀ σ, tabL τ σ → Q r σ) : ∀ (L : List (List Nat)) (a : List Nat) (N : Nat) (σ : kzM) (s : Int × Int), L.length < N → chn (τ.1 588 0).toNat (a :: L) = true → (∀ p, p ∈ a :: L → p ∈ allP (τ.1 588 0).toNat) → tabL τ σ → on659 (τ.1 588 0).toNat σ a → (L.foldl (stpB τ (τ.1 588 0).toNat) s).2 = r → Wz (lp (fun _ _ _ _ => none) (Z12_best_14B kdG0) N 612 s.1 s.2) σ Q := by
  have i9 := hI.2.2.2.2.2.2.2.2
  unfold I9 at i9
  have s1 := i9.1
  intro L
  induction L with
  | nil =>
    intro a N σ s hN hc hm hL ha hr
    obtain ⟨N, rfl⟩ : ∃ M, N = M + 1 := ⟨N - 1, by simp at hN; omega⟩
    rw [lp_succ]
    generalize lp (fun _ _ _ _ => none) (Z12_best_14B kdG0) N = K
    have e : pvt (rowL a) ((τ.1 588 0).toNat - 1) = -1 := by
      unfold chn at hc
      exact of_decide_eq_true hc
    unfold Z12_best_14B
    simp only [Wz_rt, Wz_cnd, Wz_lI, Wz_lW, Wz_lL, Wz_cl, Wz_cv, Wz_nz, Wz_gI, Wz_gR, Wz_sI, Wz_aI, Wz_aZ, Wz_aL, Wz_aN, Wz_aR, Wz_tI, Wz_tZ, Wz_tL, Option.some.injEq, exists_eq_left', zB_0, zB_1, true_and, and_true, true_implies, not_true_eq_false, false_implies, not_false_eq_true, Classical.not_not, g_0, g_1, g_2, g_3, g_4, g_5, g_327, g_328, g_329, g_330, g_331, g_332, g_333, g_334, g_335, g_336, g_337, g_338, g_339, g_340, g_341, g_342, g_343, g_464, g_465, g_466, g_484, g_485, g_486, g_487, g_488, g_489, g_490, g_491, g_492, g_493, g_494, g_495, g_496, g_497, g_498, g_499, g_500, g_501, g_562, g_563, g_564, g_565, g_566, g_567, g_568, g_574, g_580, g_581, g_582, g_583, g_584, g_585, g_586, g_587, g_588, g_589, g_590, g_591, g_592, g_600, g_601, g_602, g_603, g_604, g_605, g_606, g_607, g_608, g_609, g_610, g_611, g_612, g_613, g_614, g_615, g_616, g_617, g_618, g_619, g_620, g_621, g_622, g_623, g_624, g_625, g_626, g_627, g_628, g_629, g_630, g_631, g_632, g_633, g_634, g_635, g_636, g_637, g_638, g_639, g_640, g_641, g_642, g_643, g_644, g_645, g_646, g_647, g_648, g_649, g_650, g_651, g_652, g_653, g_654, g_655, g_656, g_657, g_658, g_659, g_660, g_661, g_662, g_0_0, g_0_1, g_0_2, g_0_3, g_0_4, g_0_5, g_0_6, g_0_7, g_0_8, g_0_9, g_0_10, g_0_11, g_1_0, g_3_0, g_327_0, g_327_1, g_327_2, g_327_3, g_328_0, g_330_0, g_332_0, g_334_0, g_336_0, g_336_1, g_336_2, g_336_3, g_337_0, g_339_0, g_341_0, g_464_0, g_464_1, g_484_0, g_484_1, g_484_2, g_485_0, g_487_0, g_489_0, g_491_0, g_491_1, g_491_2, g_491_3, g_491_4, g_491_5, g_491_6, g_491_7, g_496_0, g_498_0, g_500_0, g_500_1, g_500_3, g_500_4, g_500_5, g_500_6, g_500_7, g_562_0, g_564_0, g_566_0, g_580_0, g_580_1, g_580_2, g_580_3, g_581_0, g_583_0, g_585_0, g_588_1, g_588_2, g_588_3, g_588_4, g_588_6, g_601_0, g_601_1, g_601_2, g_601_3, g_601_4, g_601_5, g_601_6, g_601_7, g_601_8, g_608_0, g_610_0, g_612_0, g_612_2, g_612_4, g_612_5, g_612_7, g_612_8, g_612_9, g_612_10, g_612_11, g_612_12, g_612_13, g_612_14, g_612_15, g_612_16, g_612_19, g_612_20, g_612_22, g_612_24, g_612_25, g_612_26, g_612_27, g_612_28, g_612_30, g_612_31, g_612_32, g_612_33, g_612_34, g_612_36, g_612_37, g_612_38, g_612_39, g_612_40, g_612_41, g_612_42, g_612_43, g_612_44, g_612_46, g_612_47, g_612_48, g_612_49, g_612_50, g_612_53, g_612_56, g_612_57, g_612_58, g_612_59, g_612_61, g_612_62, g_612_63, g_612_64]
    refine W12_next (n := (τ.1 588 0).toNat) (by omega) (by rw [hL 612 55 (by decide)]; omega) (fun _ => ⟨fun _ => ?_, fun c => absurd rfl c⟩) (fun c => ?_)
    · rw [List.foldl_nil] at hr
      rw [hr]
      exact hQ σ hL
    · rw [pvt_cg ha _ (by omega), e] at c
      exact absurd c (by decide)
  | cons b L ih =>
    intro a N σ s hN hc hm hL ha hr
    rw [List.length_cons] at hN
    obtain ⟨N, rfl⟩ : ∃ M, N = M + 1 := ⟨N - 1, by omega⟩
    rw [lp_succ]
    have ih' := fun σ s => ih b N σ s (by omega)
    generalize lp (fun _ _ _ _ => none) (Z12_best_14B kdG0) N = K at ih' ⊢
    rw [show chn (τ.1 588 0).toNat (a :: b :: L) = (nxB (τ.1 588 0).toNat a b && chn (τ.1 588 0).toNat (b :: L)) from rfl, Bool.and_eq_true] at hc
    obtain ⟨e1, e2⟩ := nxB_iff hc.1
    have hm' : ∀ p, p ∈ b :: L → p ∈ allP (τ.1 588 0).toNat := fun p hp => hm p (List.mem_cons_of_mem _ hp)
    obtain ⟨b1, b2, _⟩ := allP_mem.1 (hm' b List.mem_cons_self)
    unfold Z12_best_14B
    simp only [Wz_rt, Wz_cnd, Wz_lI, Wz_lW, Wz_lL, Wz_cl, Wz_cv, Wz_nz, Wz_gI, Wz_gR, Wz_sI, Wz_aI, Wz_aZ, Wz_aL, Wz_aN, Wz_aR, Wz_tI, Wz_tZ, Wz_tL, Option.some.injEq, exists_eq_left', zB_0, zB_1, true_and, and_true, true_implies, not_true_eq_false, false_implies, not_false_eq_true, Classical.not_not, g_0, g_1, g_2, g_3, g_4, g_5, g_327, g_328, g_329, g_330, g_331, g_332, g_333, g_334, g_335, g_336, g_337, g_338, g_339, g_340, g_341, g_342, g_343, g_464, g_465, g_466, g_484, g_485, g_486, g_487, g_488, g_489, g_490, g_491, g_492, g_493, g_494, g_495, g_496, g_497, g_498, g_499, g_500, g_501, g_562, g_563, g_564, g_565, g_566, g_567, g_568, g_574, g_580, g_581, g_582, g_583, g_584, g_585, g_586, g_587, g_588, g_589, g_590, g_591, g_592, g_600, g_601, g_602, g_603, g_604, g_605, g_606, g_607, g_608, g_609, g_610, g_611, g_612, g_613, g_614, g_615, g_616, g_617, g_618, g_619, g_620, g_621, g_622, g_623, g_624, g_625, g_626, g_627, g_628, g_629, g_630, g_631, g_632, g_633, g_634, g_635, g_636, g_637, g_638, g_639, g_640, g_641, g_642, g_643, g_644, g_645, g_646, g_647, g_648, g_649, g_650, g_651, g_652, g_653, g_654, g_655, g_656, g_657, g_658, g_659, g_660, g_661, g_662, g_0_0, g_0_1, g_0_2, g_0_3, g_0_4, g_0_5, g_0_6, g_0_7, g_0_8, g_0_9, g_0_10, g_0_11, g_1_0, g_3_0, g_327_0, g_327_1, g_327_2, g_327_3, g_328_0, g_330_0, g_332_0, g_334_0, g_336_0, g_336_1, g_336_2, g_336_3, g_337_0, g_339_0, g_341_0, g_464_0, g_464_1, g_484_0, g_484_1, g_484_2, g_485_0, g_487_0, g_489_0, g_491_0, g_491_1, g_491_2, g_491_3, g_491_4, g_491_5, g_491_6, g_491_7, g_496_0, g_498_0, g_500_0, g_500_1, g_500_3, g_500_4, g_500_5, g_500_6, g_500_7, g_562_0, g_564_0, g_566_0, g_580_0, g_580_1, g_580_2, g_580_3, g_581_0, g_583_0, g_585_0, g_588_1, g_588_2, g_588_3, g_588_4, g_588_6, g_601_0, g_601_1, g_601_2, g_601_3, g_601_4, g_601_5, g_601_6, g_601_7, g_601_8, g_608_0, g_610_0, g_612_0, g_612_2, g_612_4, g_612_5, g_612_7, g_612_8, g_612_9, g_612_10, g_612_11, g_612_12, g_612_13, g_612_14, g_612_15, g_612_16, g_612_19, g_612_20, g_612_22, g_612_24, g_612_25, g_612_26, g_612_27, g_612_28, g_612_30, g_612_31, g_612_32, g_612_33, g_612_34, g_612_36, g_612_37, g_612_38, g_612_39, g_612_40, g_612_41, g_612_42, g_612_43, g_612_44, g_612_46, g_612_47, g_612_48, g_612_49, g_612_50, g_612_53, g_612_56, g_612_57, g_612_58, g_612_59, g_612_61, g_612_62, g_612_63, g_612_64]
    refine W12_next (n := (τ.1 588 0).toNat) (by omega) (by rw [hL 612 55 (by decide)]; omega) (fun c => ?_) (fun c ρ h1 h2 => ⟨fun z => absurd z (by decide), fun _ => ?_⟩)
    · rw [pvt_cg ha _ (by omega)] at c
      omega
    · have hL2 : tabL τ ρ := hL.tr (tabL.o659 h1)
      have hb : on659 (τ.1 588 0).toNat ρ b := fun i i0 i1 => by
        rw [h2, nxF_cg (by omega) ha e1 i i0 i1]
        exact e2 i i0 i1
      have hbb : ∀ i : Int, 0 ≤ i → i < (τ.1 588 0).toNat → 0 ≤ ρ.1 659 i ∧ ρ.1 659 i < (τ.1 588 0).toNat := fun i i0 i1 => by
        rw [hb i i0 i1]
        exact rowL_b b2 i0 (by omega)
      have hbc : ∀ i, 0 ≤ i → i < τ.1 588 0 → 0 ≤ ρ.1 659 i ∧ ρ.1 659 i < τ.1 588 0 := fun i i0 i1 => by
        have := hbb i i0 (by omega)
        omega
      have ce : cP τ (ρ.1 659) = cP τ (rowL b) := cP_cg fun j j0 j1 => hb j j0 (by omega)
      have de : dgF (ρ.1 659) (τ.1 588 0).toNat = dgF (rowL b) (τ.1 588 0).toNat := dgF_cg _ hb
      rw [List.foldl_cons] at hr
      refine W12_tot hI hL2 hbc ⟨fun c => ?_, fun c => ?_⟩
      · rw [ce] at c
        rw [show stpB τ (τ.1 588 0).toNat s b = s from if_neg (by omega)] at hr
        exact ih' ρ s hc.2 hm' hL2 hb hr
      · refine W12_tot hI hL2 hbc (W12_digits (n := (τ.1 588 0).toNat) (by rw [hL2 612 55 (by decide)]; omega) (by omega) (fun i i0 i1 => by have := hbb i i0 i1; omega) ?_)
        rw [ce] at c ⊢
        rw [de]
        rw [show stpB τ (τ.1 588 0).toNat s b = (cP τ (rowL b), dgF (rowL b) (τ.1 588 0).toNat) from if_pos (by omega)] at hr
        exact ih' ρ (cP τ (rowL b), dgF (rowL b) (τ.1 588 0).toNat) hc.2 hm' hL2 hb hr
theorem rowL_range {n : Nat} {i : Int} (i0 : 0 ≤ i) (i1 : i < n) : rowL (List.range n) i = i := by
  unfold rowL
  rw [List.getD_eq_getElem?_getD, List.getElem?_range (by omega)]
  show ((i.toNat : Nat) : Int) = i
  omega
set_option maxRecDepth 100000 in
theorem W12_layFirst {τ : kzM} {n : Nat} (hn : n ≤ 7) (h5 : τ.1 612 55 = n) {Q : Unit → kzM → Prop} (hQ : ∀ ρ : kzM, on9 τ ρ → on659 n ρ (List.range n) → Q () ρ) : Wz (Z12_layFirst kdG0 612) τ Q := by
  have go : ∀ (N i : Nat) (σ : kzM), i ≤ n → n - i < N → on9 τ σ → (∀ k : Int, 0 ≤ k → k < i → σ.1 659 k = k) → Wz (lp (fun _ _ _ => none) (Z12_layFirst_2B kdG0) N 612 (i : Int)) σ Q := by
    intro N
    induction N with
    | zero => intro i; intros; omega
    | succ N ih =>
      intro i σ i1 i2 hs hk
      rw [lp_succ]
      generalize lp (fun _ _ _ => none) (Z12_layFirst_2B kdG0) N = L at ih ⊢
      have s5 : σ.1 612 55 = n := by rw [hs 612 55 (by decide), h5]
      unfold Z12_layFirst_2B
      simp only [Wz_rt, Wz_cnd, Wz_lI, Wz_lW, Wz_lL, Wz_cl, Wz_cv, Wz_nz, Wz_gI, Wz_gR, Wz_sI, Wz_aI, Wz_aZ, Wz_aL, Wz_aN, Wz_aR, Wz_tI, Wz_tZ, Wz_tL, Option.some.injEq, exists_eq_left', zB_0, zB_1, true_and, and_true, true_implies, not_true_eq_false, false_implies, not_false_eq_true, Classical.not_not, g_0, g_1, g_2, g_3, g_4, g_5, g_327, g_328, g_329, g_330, g_331, g_332, g_333, g_334, g_335, g_336, g_337, g_338, g_339, g_340, g_341, g_342, g_343, g_464, g_465, g_466, g_484, g_485, g_486, g_487, g_488, g_489, g_490, g_491, g_492, g_493, g_494, g_495, g_496, g_497, g_498, g_499, g_500, g_501, g_562, g_563, g_564, g_565, g_566, g_567, g_568, g_574, g_580, g_581, g_582, g_583, g_584, g_585, g_586, g_587, g_588, g_589, g_590, g_591, g_592, g_600, g_601, g_602, g_603, g_604, g_605, g_606, g_607, g_608, g_609, g_610, g_611, g_612, g_613, g_614, g_615, g_616, g_617, g_618, g_619, g_620, g_621, g_622, g_623, g_624, g_625, g_626, g_627, g_628, g_629, g_630, g_631, g_632, g_633, g_634, g_635, g_636, g_637, g_638, g_639, g_640, g_641, g_642, g_643, g_644, g_645, g_646, g_647, g_648, g_649, g_650, g_651, g_652, g_653, g_654, g_655, g_656, g_657, g_658, g_659, g_660, g_661, g_662, g_0_0, g_0_1, g_0_2, g_0_3, g_0_4, g_0_5, g_0_6, g_0_7, g_0_8, g_0_9, g_0_10, g_0_11, g_1_0, g_3_0, g_327_0, g_327_1, g_327_2, g_327_3, g_328_0, g_330_0, g_332_0, g_334_0, g_336_0, g_336_1, g_336_2, g_336_3, g_337_0, g_339_0, g_341_0, g_464_0, g_464_1, g_484_0, g_484_1, g_484_2, g_485_0, g_487_0, g_489_0, g_491_0, g_491_1, g_491_2, g_491_3, g_491_4, g_491_5, g_491_6, g_491_7, g_496_0, g_498_0, g_500_0, g_500_1, g_500_3, g_500_4, g_500_5, g_500_6, g_500_7, g_562_0, g_564_0, g_566_0, g_580_0, g_580_1, g_580_2, g_580_3, g_581_0, g_583_0, g_585_0, g_588_1, g_588_2, g_588_3, g_588_4, g_588_6, g_601_0, g_601_1, g_601_2, g_601_3, g_601_4, g_601_5, g_601_6, g_601_7, g_601_8, g_608_0, g_610_0, g_612_0, g_612_2, g_612_4, g_612_5, g_612_7, g_612_8, g_612_9, g_612_10, g_612_11, g_612_12, g_612_13, g_612_14, g_612_15, g_612_16, g_612_19, g_612_20, g_612_22, g_612_24, g_612_25, g_612_26, g_612_27, g_612_28, g_612_30, g_612_31, g_612_32, g_612_33, g_612_34, g_612_36, g_612_37, g_612_38, g_612_39, g_612_40, g_612_41, g_612_42, g_612_43, g_612_44, g_612_46, g_612_47, g_612_48, g_612_49, g_612_50, g_612_53, g_612_56, g_612_57, g_612_58, g_612_59, g_612_61, g_612_62, g_612_63, g_612_64, s5]
      refine ⟨fun c => hQ σ hs (fun k k0 k1 => by rw [rowL_range k0 k1]; exact hk k k0 (by omega)), fun c => ⟨by omega, by omega, ?_⟩⟩
      have ih' := ih (i + 1) (v2 σ.1 659 i i, σ.2) (by omega) (by omega) (on9_w hs _ _) (fun k k0 k1 => by
        dsimp only
        by_cases y : k = i
        · rw [y]; exact v2_self _ _ _ _
        · rw [v2_nk _ _ _ _ y]; exact hk k k0 (by omega))
      rw [show ((i + 1 : Nat) : Int) = (i : Int) + 1 by omega] at ih'
      exact ih'
  unfold Z12_layFirst Z12_layFirst_2
  exact go NN 0 τ (by omega) (by unfold NN; omega) (fun _ _ _ => rfl) (fun k a b => by omega)
theorem allP_len : ∀ n : Fin 7, (allP n.val).length < 1000 := by decide +kernel
theorem ext_len (s : Fin 7) : (ext 7 6 [s.val]).length = 720 := by
  revert s
  decide +kernel
theorem ext_ln (s : Nat) (h : s < 7) : (ext 7 6 [s]).length = 720 := ext_len ⟨s, h⟩
theorem allP_len7 : (allP 7).length = 5040 := by
  rw [all7]
  simp only [List.length_append, List.length_nil]
  rw [ext_ln 0 (by decide), ext_ln 1 (by decide), ext_ln 2 (by decide), ext_ln 3 (by decide), ext_ln 4 (by decide), ext_ln 5 (by decide), ext_ln 6 (by decide)]
theorem allP_le {n : Nat} (h : n ≤ 7) : (allP n).length ≤ 5040 := by
  by_cases c : n = 7
  · subst c; rw [allP_len7]; omega
  · have := allP_len ⟨n, by omega⟩
    dsimp only at this
    omega
set_option maxRecDepth 100000 in
theorem m_best : MOK (Z11_best kdG0 0) (Z12_best kdG0 612) := by
  intro τ hI
  have i9 := hI.2.2.2.2.2.2.2.2
  unfold I9 at i9
  have s1 := i9.1
  simp only [Z11_best, Wz_rt, Wz_cnd, Wz_lI, Wz_lW, Wz_lL, Wz_cl, Wz_cv, Wz_nz, Wz_gI, Wz_gR, Wz_sI, Wz_aI, Wz_aZ, Wz_aL, Wz_aN, Wz_aR, Wz_tI, Wz_tZ, Wz_tL, Option.some.injEq, exists_eq_left', zB_0, zB_1, true_and, and_true, true_implies, not_true_eq_false, false_implies, not_false_eq_true, Classical.not_not, g_0, g_1, g_2, g_3, g_4, g_5, g_327, g_328, g_329, g_330, g_331, g_332, g_333, g_334, g_335, g_336, g_337, g_338, g_339, g_340, g_341, g_342, g_343, g_464, g_465, g_466, g_484, g_485, g_486, g_487, g_488, g_489, g_490, g_491, g_492, g_493, g_494, g_495, g_496, g_497, g_498, g_499, g_500, g_501, g_562, g_563, g_564, g_565, g_566, g_567, g_568, g_574, g_580, g_581, g_582, g_583, g_584, g_585, g_586, g_587, g_588, g_589, g_590, g_591, g_592, g_600, g_601, g_602, g_603, g_604, g_605, g_606, g_607, g_608, g_609, g_610, g_611, g_612, g_613, g_614, g_615, g_616, g_617, g_618, g_619, g_620, g_621, g_622, g_623, g_624, g_625, g_626, g_627, g_628, g_629, g_630, g_631, g_632, g_633, g_634, g_635, g_636, g_637, g_638, g_639, g_640, g_641, g_642, g_643, g_644, g_645, g_646, g_647, g_648, g_649, g_650, g_651, g_652, g_653, g_654, g_655, g_656, g_657, g_658, g_659, g_660, g_661, g_662, g_0_0, g_0_1, g_0_2, g_0_3, g_0_4, g_0_5, g_0_6, g_0_7, g_0_8, g_0_9, g_0_10, g_0_11, g_1_0, g_3_0, g_327_0, g_327_1, g_327_2, g_327_3, g_328_0, g_330_0, g_332_0, g_334_0, g_336_0, g_336_1, g_336_2, g_336_3, g_337_0, g_339_0, g_341_0, g_464_0, g_464_1, g_484_0, g_484_1, g_484_2, g_485_0, g_487_0, g_489_0, g_491_0, g_491_1, g_491_2, g_491_3, g_491_4, g_491_5, g_491_6, g_491_7, g_496_0, g_498_0, g_500_0, g_500_1, g_500_3, g_500_4, g_500_5, g_500_6, g_500_7, g_562_0, g_564_0, g_566_0, g_580_0, g_580_1, g_580_2, g_580_3, g_581_0, g_583_0, g_585_0, g_588_1, g_588_2, g_588_3, g_588_4, g_588_6, g_601_0, g_601_1, g_601_2, g_601_3, g_601_4, g_601_5, g_601_6, g_601_7, g_601_8, g_608_0, g_610_0, g_612_0, g_612_2, g_612_4, g_612_5, g_612_7, g_612_8, g_612_9, g_612_10, g_612_11, g_612_12, g_612_13, g_612_14, g_612_15, g_612_16, g_612_19, g_612_20, g_612_22, g_612_24, g_612_25, g_612_26, g_612_27, g_612_28, g_612_30, g_612_31, g_612_32, g_612_33, g_612_34, g_612_36, g_612_37, g_612_38, g_612_39, g_612_40, g_612_41, g_612_42, g_612_43, g_612_44, g_612_46, g_612_47, g_612_48, g_612_49, g_612_50, g_612_53, g_612_56, g_612_57, g_612_58, g_612_59, g_612_61, g_612_62, g_612_63, g_612_64]
  refine W3_leastCostly hI ?_
  intro σ hL
  obtain ⟨hc, R, hR⟩ := chn_n (n := (τ.1 588 0).toNat) (by omega)
  have hl := allP_le (n := (τ.1 588 0).toNat) (by omega)
  generalize hr : ((allP (τ.1 588 0).toNat).foldl (stpB τ (τ.1 588 0).toNat) (1000000000, 0)).2 = r
  have hm0 : ∀ p, p ∈ List.range (τ.1 588 0).toNat :: R → p ∈ allP (τ.1 588 0).toNat := fun p hp => by rw [hR]; exact hp
  have hb := cP_b hI (hm0 _ List.mem_cons_self)
  rw [hR, List.foldl_cons, show stpB τ (τ.1 588 0).toNat (1000000000, 0) (List.range (τ.1 588 0).toNat) = (cP τ (rowL (List.range (τ.1 588 0).toNat)), dgF (rowL (List.range (τ.1 588 0).toNat)) (τ.1 588 0).toNat) from if_pos (by dsimp only; omega)] at hr
  rw [hR] at hc hl
  rw [List.length_cons] at hl
  simp only [Z12_best, Wz_rt, Wz_cnd, Wz_lI, Wz_lW, Wz_lL, Wz_cl, Wz_cv, Wz_nz, Wz_gI, Wz_gR, Wz_sI, Wz_aI, Wz_aZ, Wz_aL, Wz_aN, Wz_aR, Wz_tI, Wz_tZ, Wz_tL, Option.some.injEq, exists_eq_left', zB_0, zB_1, true_and, and_true, true_implies, not_true_eq_false, false_implies, not_false_eq_true, Classical.not_not, g_0, g_1, g_2, g_3, g_4, g_5, g_327, g_328, g_329, g_330, g_331, g_332, g_333, g_334, g_335, g_336, g_337, g_338, g_339, g_340, g_341, g_342, g_343, g_464, g_465, g_466, g_484, g_485, g_486, g_487, g_488, g_489, g_490, g_491, g_492, g_493, g_494, g_495, g_496, g_497, g_498, g_499, g_500, g_501, g_562, g_563, g_564, g_565, g_566, g_567, g_568, g_574, g_580, g_581, g_582, g_583, g_584, g_585, g_586, g_587, g_588, g_589, g_590, g_591, g_592, g_600, g_601, g_602, g_603, g_604, g_605, g_606, g_607, g_608, g_609, g_610, g_611, g_612, g_613, g_614, g_615, g_616, g_617, g_618, g_619, g_620, g_621, g_622, g_623, g_624, g_625, g_626, g_627, g_628, g_629, g_630, g_631, g_632, g_633, g_634, g_635, g_636, g_637, g_638, g_639, g_640, g_641, g_642, g_643, g_644, g_645, g_646, g_647, g_648, g_649, g_650, g_651, g_652, g_653, g_654, g_655, g_656, g_657, g_658, g_659, g_660, g_661, g_662, g_0_0, g_0_1, g_0_2, g_0_3, g_0_4, g_0_5, g_0_6, g_0_7, g_0_8, g_0_9, g_0_10, g_0_11, g_1_0, g_3_0, g_327_0, g_327_1, g_327_2, g_327_3, g_328_0, g_330_0, g_332_0, g_334_0, g_336_0, g_336_1, g_336_2, g_336_3, g_337_0, g_339_0, g_341_0, g_464_0, g_464_1, g_484_0, g_484_1, g_484_2, g_485_0, g_487_0, g_489_0, g_491_0, g_491_1, g_491_2, g_491_3, g_491_4, g_491_5, g_491_6, g_491_7, g_496_0, g_498_0, g_500_0, g_500_1, g_500_3, g_500_4, g_500_5, g_500_6, g_500_7, g_562_0, g_564_0, g_566_0, g_580_0, g_580_1, g_580_2, g_580_3, g_581_0, g_583_0, g_585_0, g_588_1, g_588_2, g_588_3, g_588_4, g_588_6, g_601_0, g_601_1, g_601_2, g_601_3, g_601_4, g_601_5, g_601_6, g_601_7, g_601_8, g_608_0, g_610_0, g_612_0, g_612_2, g_612_4, g_612_5, g_612_7, g_612_8, g_612_9, g_612_10, g_612_11, g_612_12, g_612_13, g_612_14, g_612_15, g_612_16, g_612_19, g_612_20, g_612_22, g_612_24, g_612_25, g_612_26, g_612_27, g_612_28, g_612_30, g_612_31, g_612_32, g_612_33, g_612_34, g_612_36, g_612_37, g_612_38, g_612_39, g_612_40, g_612_41, g_612_42, g_612_43, g_612_44, g_612_46, g_612_47, g_612_48, g_612_49, g_612_50, g_612_53, g_612_56, g_612_57, g_612_58, g_612_59, g_612_61, g_612_62, g_612_63, g_612_64]
  refine W12_layFirst (n := (τ.1 588 0).toNat) (by omega) (by rw [hL 612 55 (by decide)]; omega) ?_
  intro ρ h1 h2
  have hL2 : tabL τ ρ := hL.tr (tabL.o659 h1)
  have hbb : ∀ i : Int, 0 ≤ i → i < (τ.1 588 0).toNat → 0 ≤ ρ.1 659 i ∧ ρ.1 659 i < (τ.1 588 0).toNat := fun i i0 i1 => by
    rw [h2 i i0 i1, rowL_range i0 i1]
    omega
  refine W12_tot hI hL2 (fun i i0 i1 => by have := hbb i i0 (by omega); omega) (W12_digits (n := (τ.1 588 0).toNat) (by rw [hL2 612 55 (by decide)]; omega) (by omega) (fun i i0 i1 => by have := hbb i i0 i1; omega) ?_)
  rw [cP_cg (q := rowL (List.range (τ.1 588 0).toNat)) (fun j j0 j1 => h2 j j0 (by omega)), dgF_cg (g := rowL (List.range (τ.1 588 0).toNat)) _ h2]
  unfold Z12_best_14
  exact W12_be_14 hI (r := r) (fun ζ hz => ⟨rfl, hI.tabL hz⟩) R _ NN ρ (cP τ (rowL (List.range (τ.1 588 0).toNat)), dgF (rowL (List.range (τ.1 588 0).toNat)) (τ.1 588 0).toNat) (by unfold NN; omega) hc hm0 hL2 h2 hr
