/-! ways: the reference's list and its bound -/
theorem dgF_inj {f g : Int → Int} : ∀ n : Nat, (∀ x : Int, 0 ≤ x → x < n → 0 ≤ f x ∧ f x ≤ 9) → (∀ x : Int, 0 ≤ x → x < n → 0 ≤ g x ∧ g x ≤ 9) → dgF f n = dgF g n → ∀ x : Int, 0 ≤ x → x < n → f x = g x
  | 0, _, _, _, x, x0, x1 => by omega
  | n + 1, hf, hg, h, x, x0, x1 => by
    unfold dgF at h
    have a := hf n (by omega) (by omega)
    have b := hg n (by omega) (by omega)
    by_cases y : x = n
    · rw [y]; omega
    · exact dgF_inj n (fun x a b => hf x a (by omega)) (fun x a b => hg x a (by omega)) (by omega) x x0 (by omega)
theorem codN_inj {n : Nat} (h : 2 ≤ n ∧ n ≤ 5) {i j : Int} (i0 : 0 ≤ i) (i1 : i < szN n) (j0 : 0 ≤ j) (j1 : j < szN n) (e : codN n i = codN n j) : i = j := by
  have gi := goodN i0 i1
  have gj := goodN j0 j1
  exact adL_u (i := i) h i0 i1 j0 j1 (dgF_inj n (fun x a b => by have := gi.1 x a b; omega) (fun x a b => by have := gj.1 x a b; omega) e)
theorem dgF_dg {v : Int} {n : Nat} (v0 : 0 ≤ v) (v1 : v ≤ 2147483647) (h : dgQ v n = 0) : ∀ k : Nat, k ≤ n → dgF (dgL v n) k = dgQ v (n - k)
  | 0, _ => by rw [Nat.sub_zero, h]; rfl
  | k + 1, hk => by
    have ih := dgF_dg v0 v1 h k (by omega)
    have b := dgQ_b v0 v1 (n - (k + 1))
    unfold dgF
    rw [ih, show n - k = (n - (k + 1)) + 1 by omega, show dgQ v (n - (k + 1) + 1) = (dgQ v (n - (k + 1))).tdiv 10 from rfl]
    unfold dgL
    rw [show ((n : Int) - 1 - k).toNat = n - (k + 1) by omega, Int.tdiv_eq_ediv_of_nonneg b.1, Int.tmod_eq_emod_of_nonneg b.1]
    omega
/-- a number that is a layout, in the list -/
theorem good_lay {v : Int} {n : Nat} (v0 : 0 ≤ v) (v1 : v ≤ 2147483647) (hg : goodL v n) : ∃ i : Int, (0 ≤ i ∧ i < szN n) ∧ codN n i = v ∧ ∀ x : Int, 0 ≤ x → x < n → rowN n i x = dgL v n x := by
  have gf : goodF n (dgL v n) := by
    refine ⟨fun i i0 i1 => ⟨(dgL_b v0 v1).1, hg.2.1 i i0 i1⟩, fun i j i0 i1 j0 j1 ij => ?_⟩
    by_cases y : j < i
    · exact hg.2.2 i j j0 y i1
    · exact fun z => hg.2.2 j i i0 (by omega) j1 z.symm
  obtain ⟨q, q1, q2⟩ := row_list gf
  obtain ⟨i, hi, e⟩ := mem_lay q1
  have er : ∀ x : Int, 0 ≤ x → x < n → rowN n i x = dgL v n x := fun x x0 x1 => by
    unfold rowN
    rw [e]
    exact q2 x x0 x1
  refine ⟨i, hi, ?_, er⟩
  unfold codN
  rw [dgF_cg n er, dgF_dg v0 v1 (by have := hg.1; rw [show ((n : Int)).toNat = n by omega] at this; exact this) n (Nat.le_refl _), Nat.sub_self]
  rfl
set_option maxRecDepth 100000 in
theorem W12_fl_11z {Q : Unit → kzM → Prop} {σ : kzM} (hQ : Q () σ) : ∀ N : Nat, Wz (lp (fun _ _ _ => none) (Z12_findLayouts_11B kdG0) (N + 1) 612 0) σ Q := by
  intro N
  rw [lp_succ]
  generalize lp (fun _ _ _ => none) (Z12_findLayouts_11B kdG0) N = L
  unfold Z12_findLayouts_11B
  simp only [Wz_rt, Wz_cnd, Wz_lI, Wz_lW, Wz_lL, Wz_cl, Wz_cv, Wz_nz, Wz_gI, Wz_gR, Wz_sI, Wz_aI, Wz_aZ, Wz_aL, Wz_aN, Wz_aR, Wz_tI, Wz_tZ, Wz_tL, Option.some.injEq, exists_eq_left', zB_0, zB_1, true_and, and_true, true_implies, not_true_eq_false, false_implies, not_false_eq_true, Classical.not_not, g_0, g_1, g_2, g_3, g_4, g_5, g_327, g_328, g_329, g_330, g_331, g_332, g_333, g_334, g_335, g_336, g_337, g_338, g_339, g_340, g_341, g_342, g_343, g_464, g_465, g_466, g_484, g_485, g_486, g_487, g_488, g_489, g_490, g_491, g_492, g_493, g_494, g_495, g_496, g_497, g_498, g_499, g_500, g_501, g_562, g_563, g_564, g_565, g_566, g_567, g_568, g_574, g_580, g_581, g_582, g_583, g_584, g_585, g_586, g_587, g_588, g_589, g_590, g_591, g_592, g_600, g_601, g_602, g_603, g_604, g_605, g_606, g_607, g_608, g_609, g_610, g_611, g_612, g_613, g_614, g_615, g_616, g_617, g_618, g_619, g_620, g_621, g_622, g_623, g_624, g_625, g_626, g_627, g_628, g_629, g_630, g_631, g_632, g_633, g_634, g_635, g_636, g_637, g_638, g_639, g_640, g_641, g_642, g_643, g_644, g_645, g_646, g_647, g_648, g_649, g_650, g_651, g_652, g_653, g_654, g_655, g_656, g_657, g_658, g_659, g_660, g_661, g_662, g_0_0, g_0_1, g_0_2, g_0_3, g_0_4, g_0_5, g_0_6, g_0_7, g_0_8, g_0_9, g_0_10, g_0_11, g_1_0, g_3_0, g_327_0, g_327_1, g_327_2, g_327_3, g_328_0, g_330_0, g_332_0, g_334_0, g_336_0, g_336_1, g_336_2, g_336_3, g_337_0, g_339_0, g_341_0, g_464_0, g_464_1, g_484_0, g_484_1, g_484_2, g_485_0, g_487_0, g_489_0, g_491_0, g_491_1, g_491_2, g_491_3, g_491_4, g_491_5, g_491_6, g_491_7, g_496_0, g_498_0, g_500_0, g_500_1, g_500_3, g_500_4, g_500_5, g_500_6, g_500_7, g_562_0, g_564_0, g_566_0, g_580_0, g_580_1, g_580_2, g_580_3, g_581_0, g_583_0, g_585_0, g_588_1, g_588_2, g_588_3, g_588_4, g_588_6, g_601_0, g_601_1, g_601_2, g_601_3, g_601_4, g_601_5, g_601_6, g_601_7, g_601_8, g_608_0, g_610_0, g_612_0, g_612_2, g_612_4, g_612_5, g_612_7, g_612_8, g_612_9, g_612_10, g_612_11, g_612_12, g_612_13, g_612_14, g_612_15, g_612_16, g_612_19, g_612_20, g_612_22, g_612_24, g_612_25, g_612_26, g_612_27, g_612_28, g_612_30, g_612_31, g_612_32, g_612_33, g_612_34, g_612_36, g_612_37, g_612_38, g_612_39, g_612_40, g_612_41, g_612_42, g_612_43, g_612_44, g_612_46, g_612_47, g_612_48, g_612_49, g_612_50, g_612_53, g_612_56, g_612_57, g_612_58, g_612_59, g_612_61, g_612_62, g_612_63, g_612_64]
  exact hQ
set_option maxRecDepth 100000 in
theorem W12_fl_11 {τ : kzM} (hI : Inv τ) {n : Nat} (hn : 2 ≤ n ∧ n ≤ 5) (h5 : τ.1 588 0 = n) {Q : Unit → kzM → Prop} (hQ : ∀ ρ, lisR τ ρ n → Q () ρ) : ∀ (L : List (List Nat)) (a : List Nat) (i N : Nat) (σ : kzM), (allP n).drop i = a :: L → chn n (a :: L) = true → L.length + 1 < N → tabL τ σ → on659 n σ a → σ.1 612 65 = i → (∀ j : Int, 0 ≤ j → j < i → σ.1 660 j = codN n j ∧ σ.1 661 j = cP τ (rowN n j)) → Wz (lp (fun _ _ _ => none) (Z12_findLayouts_11B kdG0) N 612 1) σ Q := by
  have i9 := hI.2.2.2.2.2.2.2.2
  unfold I9 at i9
  have s1 := i9.1
  have sz := (way_n hn).2.2.2.1
  intro L
  induction L with
  | nil =>
    intro a i N σ hd hc hN hL ha h65 hj
    obtain ⟨N, rfl⟩ : ∃ M, N = M + 2 := ⟨N - 2, by simp at hN; omega⟩
    rw [lp_succ]
    have z1 := fun ρ (q : Q () ρ) => W12_fl_11z q N
    generalize lp (fun _ _ _ => none) (Z12_findLayouts_11B kdG0) (N + 1) = K at z1 ⊢
    have ei : i + 1 = szN n := by
      have := congrArg List.length hd
      rw [List.length_drop] at this
      simp at this
      unfold szN
      omega
    have il : (i : Int) < szN n := by omega
    have la : lay n i = a := by
      unfold lay
      rw [List.getD_eq_getElem?_getD, ← Nat.add_zero i, ← List.getElem?_drop, hd]
      rfl
    have ra : rowN n i = rowL a := by
      unfold rowN
      rw [show ((i : Int)).toNat = i by omega, la]
    have e : pvt (rowL a) (n - 1) = -1 := by
      unfold chn at hc
      exact of_decide_eq_true hc
    have gb := goodN (n := n) (i := (i : Int)) (by omega) il
    rw [ra] at gb
    have hbb : ∀ x : Int, 0 ≤ x → x < n → 0 ≤ σ.1 659 x ∧ σ.1 659 x < n := fun x x0 x1 => by rw [ha x x0 x1]; exact gb.1 x x0 x1
    have dg : dgF (σ.1 659) n = codN n i := by unfold codN; rw [ra]; exact dgF_cg n ha
    unfold Z12_findLayouts_11B
    simp only [Wz_rt, Wz_cnd, Wz_lI, Wz_lW, Wz_lL, Wz_cl, Wz_cv, Wz_nz, Wz_gI, Wz_gR, Wz_sI, Wz_aI, Wz_aZ, Wz_aL, Wz_aN, Wz_aR, Wz_tI, Wz_tZ, Wz_tL, Option.some.injEq, exists_eq_left', zB_0, zB_1, true_and, and_true, true_implies, not_true_eq_false, false_implies, not_false_eq_true, Classical.not_not, g_0, g_1, g_2, g_3, g_4, g_5, g_327, g_328, g_329, g_330, g_331, g_332, g_333, g_334, g_335, g_336, g_337, g_338, g_339, g_340, g_341, g_342, g_343, g_464, g_465, g_466, g_484, g_485, g_486, g_487, g_488, g_489, g_490, g_491, g_492, g_493, g_494, g_495, g_496, g_497, g_498, g_499, g_500, g_501, g_562, g_563, g_564, g_565, g_566, g_567, g_568, g_574, g_580, g_581, g_582, g_583, g_584, g_585, g_586, g_587, g_588, g_589, g_590, g_591, g_592, g_600, g_601, g_602, g_603, g_604, g_605, g_606, g_607, g_608, g_609, g_610, g_611, g_612, g_613, g_614, g_615, g_616, g_617, g_618, g_619, g_620, g_621, g_622, g_623, g_624, g_625, g_626, g_627, g_628, g_629, g_630, g_631, g_632, g_633, g_634, g_635, g_636, g_637, g_638, g_639, g_640, g_641, g_642, g_643, g_644, g_645, g_646, g_647, g_648, g_649, g_650, g_651, g_652, g_653, g_654, g_655, g_656, g_657, g_658, g_659, g_660, g_661, g_662, g_0_0, g_0_1, g_0_2, g_0_3, g_0_4, g_0_5, g_0_6, g_0_7, g_0_8, g_0_9, g_0_10, g_0_11, g_1_0, g_3_0, g_327_0, g_327_1, g_327_2, g_327_3, g_328_0, g_330_0, g_332_0, g_334_0, g_336_0, g_336_1, g_336_2, g_336_3, g_337_0, g_339_0, g_341_0, g_464_0, g_464_1, g_484_0, g_484_1, g_484_2, g_485_0, g_487_0, g_489_0, g_491_0, g_491_1, g_491_2, g_491_3, g_491_4, g_491_5, g_491_6, g_491_7, g_496_0, g_498_0, g_500_0, g_500_1, g_500_3, g_500_4, g_500_5, g_500_6, g_500_7, g_562_0, g_564_0, g_566_0, g_580_0, g_580_1, g_580_2, g_580_3, g_581_0, g_583_0, g_585_0, g_588_1, g_588_2, g_588_3, g_588_4, g_588_6, g_601_0, g_601_1, g_601_2, g_601_3, g_601_4, g_601_5, g_601_6, g_601_7, g_601_8, g_608_0, g_610_0, g_612_0, g_612_2, g_612_4, g_612_5, g_612_7, g_612_8, g_612_9, g_612_10, g_612_11, g_612_12, g_612_13, g_612_14, g_612_15, g_612_16, g_612_19, g_612_20, g_612_22, g_612_24, g_612_25, g_612_26, g_612_27, g_612_28, g_612_30, g_612_31, g_612_32, g_612_33, g_612_34, g_612_36, g_612_37, g_612_38, g_612_39, g_612_40, g_612_41, g_612_42, g_612_43, g_612_44, g_612_46, g_612_47, g_612_48, g_612_49, g_612_50, g_612_53, g_612_56, g_612_57, g_612_58, g_612_59, g_612_61, g_612_62, g_612_63, g_612_64]
    refine ⟨fun z => absurd z (by decide), fun _ => W12_digits (n := n) (by rw [hL 612 55 (by decide)]; omega) (by omega) (fun x x0 x1 => by have := hbb x x0 x1; omega) ⟨by omega, ?_⟩⟩
    rw [dg, h65]
    have hL1 : tabL τ (v2 σ.1 660 (i : Int) (codN n i), σ.2) := hL.tr (fun b x z => v2_ne _ _ _ _ (fun q => z (by rw [q]; rfl)))
    refine W12_tot hI hL1 (fun x x0 x1 => by
      have := hbb x x0 (by omega)
      dsimp only
      rw [v2_ne _ _ _ _ (by decide)]
      omega) ⟨?_, ?_⟩
    · try dsimp only
      rw [v2_ne _ _ _ _ (by decide), h65]
      omega
    · have ce : cP τ ((v2 σ.1 660 (i : Int) (codN n i), σ.2).1 659) = cP τ (rowN n i) := cP_cg fun x x0 x1 => by
        dsimp only
        rw [v2_ne _ _ _ _ (by decide), ra]
        exact ha x x0 (by omega)
      rw [ce]
      simp only [v2_ne _ _ _ _ (show (612 : Nat) ≠ 660 by decide), v2_ne _ _ _ _ (show (612 : Nat) ≠ 661 by decide), h65]
      refine ⟨by omega, ?_⟩
      have fr : ∀ b x, b ≠ 660 → b ≠ 661 → ¬(b = 612 ∧ x = 65) → (v2 (v2 (v2 σ.1 660 (i : Int) (codN n i)) 661 (i : Int) (cP τ (rowN n i))) 612 65 ((i : Int) + 1)) b x = σ.1 b x := fun b x b1 b2 b3 => by
        rw [v2_eq, if_neg b3, v2_ne _ _ _ _ b2, v2_ne _ _ _ _ b1]
      have hL3 : tabL τ (v2 (v2 (v2 σ.1 660 (i : Int) (codN n i)) 661 (i : Int) (cP τ (rowN n i))) 612 65 ((i : Int) + 1), σ.2) := hL.tr (fun b x z => fr b x (fun q => z (by rw [q]; rfl)) (fun q => z (by rw [q]; rfl)) (fun q => z (by rw [q.1, q.2]; rfl)))
      have li : lisR τ (v2 (v2 (v2 σ.1 660 (i : Int) (codN n i)) 661 (i : Int) (cP τ (rowN n i))) 612 65 ((i : Int) + 1), σ.2) n := by
        refine ⟨hL3, by dsimp only; rw [v2_self]; omega, fun j j0 j1 => ?_⟩
        dsimp only
        by_cases y : j = i
        · rw [y]
          rw [v2_ne _ _ _ _ (by decide), v2_ne _ _ _ _ (by decide), v2_self, v2_ne _ _ _ _ (by decide), v2_self]
          exact ⟨rfl, rfl⟩
        · rw [v2_ne _ _ _ _ (by decide), v2_ne _ _ _ _ (by decide), v2_nk _ _ _ _ y, v2_ne _ _ _ _ (by decide), v2_nk _ _ _ _ y, v2_ne _ _ _ _ (by decide)]
          exact hj j j0 (by omega)
      refine W12_next (n := n) (by omega) (by dsimp only; rw [fr 612 55 (by decide) (by decide) (by decide), hL 612 55 (by decide)]; omega) (fun _ => z1 _ (hQ _ li)) (fun c => ?_)
      exfalso
      have r9 : (v2 (v2 (v2 σ.1 660 (i : Int) (codN n i)) 661 (i : Int) (cP τ (rowN n i))) 612 65 ((i : Int) + 1)) 659 = σ.1 659 := funext fun x => fr 659 x (by decide) (by decide) (by omega)
      dsimp only at c
      rw [r9, pvt_cg ha (n - 1) (by omega), e] at c
      omega
  | cons b L ih =>
    intro a i N σ hd hc hN hL ha h65 hj
    rw [List.length_cons] at hN
    obtain ⟨N, rfl⟩ : ∃ M, N = M + 1 := ⟨N - 1, by omega⟩
    rw [lp_succ]
    have ih' := fun σ => ih b (i + 1) N σ
    generalize lp (fun _ _ _ => none) (Z12_findLayouts_11B kdG0) N = K at ih' ⊢
    have dd : (allP n).drop (i + 1) = b :: L := by
      rw [← List.drop_drop, hd]; rfl
    have ei : i + 1 < szN n := by
      have := congrArg List.length dd
      rw [List.length_drop] at this
      simp at this
      unfold szN
      omega
    have la : lay n i = a := by
      unfold lay
      rw [List.getD_eq_getElem?_getD, ← Nat.add_zero i, ← List.getElem?_drop, hd]
      rfl
    have ra : rowN n i = rowL a := by
      unfold rowN
      rw [show ((i : Int)).toNat = i by omega, la]
    rw [show chn n (a :: b :: L) = (nxB n a b && chn n (b :: L)) from rfl, Bool.and_eq_true] at hc
    obtain ⟨e1, e2⟩ := nxB_iff hc.1
    have gb := goodN (n := n) (i := (i : Int)) (by omega) (by omega)
    rw [ra] at gb
    have hbb : ∀ x : Int, 0 ≤ x → x < n → 0 ≤ σ.1 659 x ∧ σ.1 659 x < n := fun x x0 x1 => by rw [ha x x0 x1]; exact gb.1 x x0 x1
    have dg : dgF (σ.1 659) n = codN n i := by unfold codN; rw [ra]; exact dgF_cg n ha
    unfold Z12_findLayouts_11B
    simp only [Wz_rt, Wz_cnd, Wz_lI, Wz_lW, Wz_lL, Wz_cl, Wz_cv, Wz_nz, Wz_gI, Wz_gR, Wz_sI, Wz_aI, Wz_aZ, Wz_aL, Wz_aN, Wz_aR, Wz_tI, Wz_tZ, Wz_tL, Option.some.injEq, exists_eq_left', zB_0, zB_1, true_and, and_true, true_implies, not_true_eq_false, false_implies, not_false_eq_true, Classical.not_not, g_0, g_1, g_2, g_3, g_4, g_5, g_327, g_328, g_329, g_330, g_331, g_332, g_333, g_334, g_335, g_336, g_337, g_338, g_339, g_340, g_341, g_342, g_343, g_464, g_465, g_466, g_484, g_485, g_486, g_487, g_488, g_489, g_490, g_491, g_492, g_493, g_494, g_495, g_496, g_497, g_498, g_499, g_500, g_501, g_562, g_563, g_564, g_565, g_566, g_567, g_568, g_574, g_580, g_581, g_582, g_583, g_584, g_585, g_586, g_587, g_588, g_589, g_590, g_591, g_592, g_600, g_601, g_602, g_603, g_604, g_605, g_606, g_607, g_608, g_609, g_610, g_611, g_612, g_613, g_614, g_615, g_616, g_617, g_618, g_619, g_620, g_621, g_622, g_623, g_624, g_625, g_626, g_627, g_628, g_629, g_630, g_631, g_632, g_633, g_634, g_635, g_636, g_637, g_638, g_639, g_640, g_641, g_642, g_643, g_644, g_645, g_646, g_647, g_648, g_649, g_650, g_651, g_652, g_653, g_654, g_655, g_656, g_657, g_658, g_659, g_660, g_661, g_662, g_0_0, g_0_1, g_0_2, g_0_3, g_0_4, g_0_5, g_0_6, g_0_7, g_0_8, g_0_9, g_0_10, g_0_11, g_1_0, g_3_0, g_327_0, g_327_1, g_327_2, g_327_3, g_328_0, g_330_0, g_332_0, g_334_0, g_336_0, g_336_1, g_336_2, g_336_3, g_337_0, g_339_0, g_341_0, g_464_0, g_464_1, g_484_0, g_484_1, g_484_2, g_485_0, g_487_0, g_489_0, g_491_0, g_491_1, g_491_2, g_491_3, g_491_4, g_491_5, g_491_6, g_491_7, g_496_0, g_498_0, g_500_0, g_500_1, g_500_3, g_500_4, g_500_5, g_500_6, g_500_7, g_562_0, g_564_0, g_566_0, g_580_0, g_580_1, g_580_2, g_580_3, g_581_0, g_583_0, g_585_0, g_588_1, g_588_2, g_588_3, g_588_4, g_588_6, g_601_0, g_601_1, g_601_2, g_601_3, g_601_4, g_601_5, g_601_6, g_601_7, g_601_8, g_608_0, g_610_0, g_612_0, g_612_2, g_612_4, g_612_5, g_612_7, g_612_8, g_612_9, g_612_10, g_612_11, g_612_12, g_612_13, g_612_14, g_612_15, g_612_16, g_612_19, g_612_20, g_612_22, g_612_24, g_612_25, g_612_26, g_612_27, g_612_28, g_612_30, g_612_31, g_612_32, g_612_33, g_612_34, g_612_36, g_612_37, g_612_38, g_612_39, g_612_40, g_612_41, g_612_42, g_612_43, g_612_44, g_612_46, g_612_47, g_612_48, g_612_49, g_612_50, g_612_53, g_612_56, g_612_57, g_612_58, g_612_59, g_612_61, g_612_62, g_612_63, g_612_64]
    refine ⟨fun z => absurd z (by decide), fun _ => W12_digits (n := n) (by rw [hL 612 55 (by decide)]; omega) (by omega) (fun x x0 x1 => by have := hbb x x0 x1; omega) ⟨by omega, ?_⟩⟩
    rw [dg, h65]
    have hL1 : tabL τ (v2 σ.1 660 (i : Int) (codN n i), σ.2) := hL.tr (fun b x z => v2_ne _ _ _ _ (fun q => z (by rw [q]; rfl)))
    refine W12_tot hI hL1 (fun x x0 x1 => by
      have := hbb x x0 (by omega)
      dsimp only
      rw [v2_ne _ _ _ _ (by decide)]
      omega) ⟨?_, ?_⟩
    · try dsimp only
      rw [v2_ne _ _ _ _ (by decide), h65]
      omega
    · have ce : cP τ ((v2 σ.1 660 (i : Int) (codN n i), σ.2).1 659) = cP τ (rowN n i) := cP_cg fun x x0 x1 => by
        dsimp only
        rw [v2_ne _ _ _ _ (by decide), ra]
        exact ha x x0 (by omega)
      rw [ce]
      simp only [v2_ne _ _ _ _ (show (612 : Nat) ≠ 660 by decide), v2_ne _ _ _ _ (show (612 : Nat) ≠ 661 by decide), h65]
      refine ⟨by omega, ?_⟩
      have fr : ∀ b x, b ≠ 660 → b ≠ 661 → ¬(b = 612 ∧ x = 65) → (v2 (v2 (v2 σ.1 660 (i : Int) (codN n i)) 661 (i : Int) (cP τ (rowN n i))) 612 65 ((i : Int) + 1)) b x = σ.1 b x := fun b x b1 b2 b3 => by
        rw [v2_eq, if_neg b3, v2_ne _ _ _ _ b2, v2_ne _ _ _ _ b1]
      have hL3 : tabL τ (v2 (v2 (v2 σ.1 660 (i : Int) (codN n i)) 661 (i : Int) (cP τ (rowN n i))) 612 65 ((i : Int) + 1), σ.2) := hL.tr (fun b x z => fr b x (fun q => z (by rw [q]; rfl)) (fun q => z (by rw [q]; rfl)) (fun q => z (by rw [q.1, q.2]; rfl)))
      have li : ∀ j : Int, 0 ≤ j → j < (i : Int) + 1 → (v2 (v2 (v2 σ.1 660 (i : Int) (codN n i)) 661 (i : Int) (cP τ (rowN n i))) 612 65 ((i : Int) + 1)) 660 j = codN n j ∧ (v2 (v2 (v2 σ.1 660 (i : Int) (codN n i)) 661 (i : Int) (cP τ (rowN n i))) 612 65 ((i : Int) + 1)) 661 j = cP τ (rowN n j) := fun j j0 j1 => by
        by_cases y : j = i
        · rw [y]
          rw [v2_ne _ _ _ _ (by decide), v2_ne _ _ _ _ (by decide), v2_self, v2_ne _ _ _ _ (by decide), v2_self]
          exact ⟨rfl, rfl⟩
        · rw [v2_ne _ _ _ _ (by decide), v2_ne _ _ _ _ (by decide), v2_nk _ _ _ _ y, v2_ne _ _ _ _ (by decide), v2_nk _ _ _ _ y, v2_ne _ _ _ _ (by decide)]
          exact hj j j0 (by omega)
      have r9 : (v2 (v2 (v2 σ.1 660 (i : Int) (codN n i)) 661 (i : Int) (cP τ (rowN n i))) 612 65 ((i : Int) + 1)) 659 = σ.1 659 := funext fun x => fr 659 x (by decide) (by decide) (by omega)
      refine W12_next (n := n) (by omega) (by dsimp only; rw [fr 612 55 (by decide) (by decide) (by decide), hL 612 55 (by decide)]; omega) (fun c => ?_) (fun c ρ q1 q2 => ?_)
      · exfalso
        dsimp only at c
        rw [r9, pvt_cg ha (n - 1) (by omega)] at c
        omega
      · dsimp only at q2
        rw [r9] at q2
        refine ih' ρ dd hc.2 (by omega) (hL3.tr (tabL.o659 q1)) (fun x x0 x1 => ?_) ?_ (fun j j0 j1 => ?_)
        · rw [q2, nxF_cg (by omega) ha e1 x x0 x1]
          exact e2 x x0 x1
        · rw [q1 612 65 (by decide)]
          dsimp only
          rw [v2_self]
          omega
        · rw [q1 660 j (by decide), q1 661 j (by decide)]
          exact li j j0 (by omega)
set_option maxRecDepth 100000 in
theorem W12_findLayouts {τ σ : kzM} (hI : Inv τ) (hL : tabL τ σ) {n : Nat} (hn : 2 ≤ n ∧ n ≤ 5) (h5 : τ.1 588 0 = n) {Q : Unit → kzM → Prop} (hQ : ∀ ρ, lisR τ ρ n → Q () ρ) : Wz (Z12_findLayouts kdG0 612) σ Q := by
  have i9 := hI.2.2.2.2.2.2.2.2
  unfold I9 at i9
  have s1 := i9.1
  obtain ⟨hc, R, hR⟩ := chn_n (n := n) (by omega)
  have hl := allP_le (n := n) (by omega)
  rw [hR] at hc hl
  rw [List.length_cons] at hl
  have hL1 : tabL τ (v2 σ.1 612 65 0, σ.2) := hL.tr (fun a x z => by dsimp only; rw [v2_eq, if_neg (fun q => z (by rw [q.1, q.2]; rfl))])
  simp only [Z12_findLayouts, Wz_rt, Wz_cnd, Wz_lI, Wz_lW, Wz_lL, Wz_cl, Wz_cv, Wz_nz, Wz_gI, Wz_gR, Wz_sI, Wz_aI, Wz_aZ, Wz_aL, Wz_aN, Wz_aR, Wz_tI, Wz_tZ, Wz_tL, Option.some.injEq, exists_eq_left', zB_0, zB_1, true_and, and_true, true_implies, not_true_eq_false, false_implies, not_false_eq_true, Classical.not_not, g_0, g_1, g_2, g_3, g_4, g_5, g_327, g_328, g_329, g_330, g_331, g_332, g_333, g_334, g_335, g_336, g_337, g_338, g_339, g_340, g_341, g_342, g_343, g_464, g_465, g_466, g_484, g_485, g_486, g_487, g_488, g_489, g_490, g_491, g_492, g_493, g_494, g_495, g_496, g_497, g_498, g_499, g_500, g_501, g_562, g_563, g_564, g_565, g_566, g_567, g_568, g_574, g_580, g_581, g_582, g_583, g_584, g_585, g_586, g_587, g_588, g_589, g_590, g_591, g_592, g_600, g_601, g_602, g_603, g_604, g_605, g_606, g_607, g_608, g_609, g_610, g_611, g_612, g_613, g_614, g_615, g_616, g_617, g_618, g_619, g_620, g_621, g_622, g_623, g_624, g_625, g_626, g_627, g_628, g_629, g_630, g_631, g_632, g_633, g_634, g_635, g_636, g_637, g_638, g_639, g_640, g_641, g_642, g_643, g_644, g_645, g_646, g_647, g_648, g_649, g_650, g_651, g_652, g_653, g_654, g_655, g_656, g_657, g_658, g_659, g_660, g_661, g_662, g_0_0, g_0_1, g_0_2, g_0_3, g_0_4, g_0_5, g_0_6, g_0_7, g_0_8, g_0_9, g_0_10, g_0_11, g_1_0, g_3_0, g_327_0, g_327_1, g_327_2, g_327_3, g_328_0, g_330_0, g_332_0, g_334_0, g_336_0, g_336_1, g_336_2, g_336_3, g_337_0, g_339_0, g_341_0, g_464_0, g_464_1, g_484_0, g_484_1, g_484_2, g_485_0, g_487_0, g_489_0, g_491_0, g_491_1, g_491_2, g_491_3, g_491_4, g_491_5, g_491_6, g_491_7, g_496_0, g_498_0, g_500_0, g_500_1, g_500_3, g_500_4, g_500_5, g_500_6, g_500_7, g_562_0, g_564_0, g_566_0, g_580_0, g_580_1, g_580_2, g_580_3, g_581_0, g_583_0, g_585_0, g_588_1, g_588_2, g_588_3, g_588_4, g_588_6, g_601_0, g_601_1, g_601_2, g_601_3, g_601_4, g_601_5, g_601_6, g_601_7, g_601_8, g_608_0, g_610_0, g_612_0, g_612_2, g_612_4, g_612_5, g_612_7, g_612_8, g_612_9, g_612_10, g_612_11, g_612_12, g_612_13, g_612_14, g_612_15, g_612_16, g_612_19, g_612_20, g_612_22, g_612_24, g_612_25, g_612_26, g_612_27, g_612_28, g_612_30, g_612_31, g_612_32, g_612_33, g_612_34, g_612_36, g_612_37, g_612_38, g_612_39, g_612_40, g_612_41, g_612_42, g_612_43, g_612_44, g_612_46, g_612_47, g_612_48, g_612_49, g_612_50, g_612_53, g_612_56, g_612_57, g_612_58, g_612_59, g_612_61, g_612_62, g_612_63, g_612_64]
  refine W12_layFirst (n := n) (by omega) (by rw [hL1 612 55 (by decide)]; omega) fun ρ h1 h2 => ?_
  unfold Z12_findLayouts_11
  refine W12_fl_11 hI hn h5 hQ R (List.range n) 0 NN ρ (by rw [List.drop_zero, hR]) hc (by unfold NN; omega) (hL1.tr (tabL.o659 h1)) h2 ?_ (fun j a b => by omega)
  rw [h1 612 65 (by decide)]
  dsimp only
  rw [v2_self]
  rfl
