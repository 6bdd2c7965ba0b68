/-! ways: the class's list -/
def lisC (τ σ : kzM) (n : Nat) (m : Nat) : Prop := tabL τ σ ∧ σ.1 601 9 = m ∧ σ.1 601 10 = mN n ∧ ∀ i : Int, 0 ≤ i → i < m → σ.1 602 i = codN n i ∧ σ.1 603 i = cosN τ n i ∧ nbI n i (σ.1 604) n (n + 1) (mN n)
theorem nbI_adj {n : Nat} (hn : 2 ≤ n ∧ n ≤ 5) {i : Int} {g : Int → Int} (h : nbI n i g n (n + 1) (mN n)) : (∀ x : Int, 0 ≤ x → x < mN n → (0 ≤ g (10 * i + x) ∧ g (10 * i + x) < szN n) ∧ adL n i (g (10 * i + x))) ∧ ∀ j : Int, 0 ≤ j → j < szN n → adL n i j → ∃ x : Int, (0 ≤ x ∧ x < mN n) ∧ g (10 * i + x) = j := by
  refine ⟨h.1, fun j j0 j1 ha => ?_⟩
  obtain ⟨a, b, hab, e⟩ := ha
  obtain ⟨x, hx, ex⟩ := h.2 a b hab.1 hab.2.1 hab.2.2 (Or.inl (by omega))
  have q := h.1 x hx.1 hx.2
  exact ⟨x, hx, adL_u hn (i := i) q.1.1 q.1.2 j0 j1 (fun y y0 y1 => by rw [ex y y0 y1, e y y0 y1])⟩
set_option maxRecDepth 100000 in
theorem W9_ll_37z {Q : Unit → kzM → Prop} {σ : kzM} (hQ : Q () σ) : ∀ N : Nat, Wz (lp (fun _ _ _ => none) (Z9_listLayouts_37B kdG0) (N + 1) 601 0) σ Q := by
  intro N
  rw [lp_succ]
  generalize lp (fun _ _ _ => none) (Z9_listLayouts_37B kdG0) N = L
  unfold Z9_listLayouts_37B
  simp only [Z9_listLayouts_111, Wz_rt, Wz_cnd, Wz_lI, Wz_lW, Wz_lL, Wz_cl, Wz_cv, Wz_nz, Wz_gI, Wz_gR, Wz_sI, Wz_aI, Wz_aZ, Wz_aL, Wz_aN, Wz_aR, Wz_tI, Wz_tZ, Wz_tL, Option.some.injEq, exists_eq_left', zB_0, zB_1, true_and, and_true, true_implies, not_true_eq_false, false_implies, not_false_eq_true, Classical.not_not, g_0, g_1, g_2, g_3, g_4, g_5, g_327, g_328, g_329, g_330, g_331, g_332, g_333, g_334, g_335, g_336, g_337, g_338, g_339, g_340, g_341, g_342, g_343, g_464, g_465, g_466, g_484, g_485, g_486, g_487, g_488, g_489, g_490, g_491, g_492, g_493, g_494, g_495, g_496, g_497, g_498, g_499, g_500, g_501, g_562, g_563, g_564, g_565, g_566, g_567, g_568, g_574, g_580, g_581, g_582, g_583, g_584, g_585, g_586, g_587, g_588, g_589, g_590, g_591, g_592, g_600, g_601, g_602, g_603, g_604, g_605, g_606, g_607, g_608, g_609, g_610, g_611, g_612, g_613, g_614, g_615, g_616, g_617, g_618, g_619, g_620, g_621, g_622, g_623, g_624, g_625, g_626, g_627, g_628, g_629, g_630, g_631, g_632, g_633, g_634, g_635, g_636, g_637, g_638, g_639, g_640, g_641, g_642, g_643, g_644, g_645, g_646, g_647, g_648, g_649, g_650, g_651, g_652, g_653, g_654, g_655, g_656, g_657, g_658, g_659, g_660, g_661, g_662, g_0_0, g_0_1, g_0_2, g_0_3, g_0_4, g_0_5, g_0_6, g_0_7, g_0_8, g_0_9, g_0_10, g_0_11, g_1_0, g_3_0, g_327_0, g_327_1, g_327_2, g_327_3, g_328_0, g_330_0, g_332_0, g_334_0, g_336_0, g_336_1, g_336_2, g_336_3, g_337_0, g_339_0, g_341_0, g_464_0, g_464_1, g_484_0, g_484_1, g_484_2, g_485_0, g_487_0, g_489_0, g_491_0, g_491_1, g_491_2, g_491_3, g_491_4, g_491_5, g_491_6, g_491_7, g_496_0, g_498_0, g_500_0, g_500_1, g_500_3, g_500_4, g_500_5, g_500_6, g_500_7, g_562_0, g_564_0, g_566_0, g_580_0, g_580_1, g_580_2, g_580_3, g_581_0, g_583_0, g_585_0, g_588_1, g_588_2, g_588_3, g_588_4, g_588_6, g_601_0, g_601_1, g_601_2, g_601_3, g_601_4, g_601_5, g_601_6, g_601_7, g_601_8, g_608_0, g_610_0, g_612_0, g_612_2, g_612_4, g_612_5, g_612_7, g_612_8, g_612_9, g_612_10, g_612_11, g_612_12, g_612_13, g_612_14, g_612_15, g_612_16, g_612_19, g_612_20, g_612_22, g_612_24, g_612_25, g_612_26, g_612_27, g_612_28, g_612_30, g_612_31, g_612_32, g_612_33, g_612_34, g_612_36, g_612_37, g_612_38, g_612_39, g_612_40, g_612_41, g_612_42, g_612_43, g_612_44, g_612_46, g_612_47, g_612_48, g_612_49, g_612_50, g_612_53, g_612_56, g_612_57, g_612_58, g_612_59, g_612_61, g_612_62, g_612_63, g_612_64]
  exact hQ
set_option maxRecDepth 100000 in
theorem W9_ll_37 {τ : kzM} (hI : Inv τ) {n : Nat} (hn : 2 ≤ n ∧ n ≤ 5) (h5 : τ.1 588 0 = n) {Q : Unit → kzM → Prop} (hQ : ∀ ρ, lisC τ ρ n (szN n) → Q () ρ) : ∀ (L : List (List Nat)) (a : List Nat) (i N : Nat) (σ : kzM), (allP n).drop i = a :: L → chn n (a :: L) = true → L.length + 1 < N → on600 n σ a → lisC τ σ n i → Wz (lp (fun _ _ _ => none) (Z9_listLayouts_37B kdG0) N 601 1) σ Q := by
  have i9 := hI.2.2.2.2.2.2.2.2
  unfold I9 at i9
  have s1 := i9.1
  have sz := (way_n hn).2.2.2.1
  have me := kS_e0 ⟨n, by omega⟩ hn.1
  dsimp only at me
  intro L
  induction L with
  | nil =>
    intro a i N σ hd hc hN ha hl
    obtain ⟨N, rfl⟩ : ∃ M, N = M + 2 := ⟨N - 2, by simp at hN; omega⟩
    rw [lp_succ]
    have z1 := fun ρ (q : Q () ρ) => W9_ll_37z q N
    generalize lp (fun _ _ _ => none) (Z9_listLayouts_37B kdG0) (N + 1) = K at z1 ⊢
    have ei : i + 1 = szN n := by
      have := congrArg List.length hd
      rw [List.length_drop] at this
      simp at this
      unfold szN
      omega
    have e : pvt (rowL a) (n - 1) = -1 := by
      unfold chn at hc
      exact of_decide_eq_true hc
    have la : lay n i = a := by
      unfold lay
      rw [List.getD_eq_getElem?_getD, ← Nat.add_zero i, ← List.getElem?_drop, hd]
      rfl
    have ra : rowN n i = rowL a := by
      unfold rowN
      rw [show ((i : Int)).toNat = i by omega, la]
    obtain ⟨hL, h9, h10, hj⟩ := hl
    have gb := goodN (n := n) (i := (i : Int)) (by omega) (by omega)
    rw [ra] at gb
    have hbb : ∀ x : Int, 0 ≤ x → x < n → 0 ≤ σ.1 600 x ∧ σ.1 600 x < n := fun x x0 x1 => by rw [ha x x0 x1]; exact gb.1 x x0 x1
    have dg : dgF (σ.1 600) n = codN n i := by unfold codN; rw [ra]; exact dgF_cg n ha
    unfold Z9_listLayouts_37B
    simp only [Z9_listLayouts_111, Wz_rt, Wz_cnd, Wz_lI, Wz_lW, Wz_lL, Wz_cl, Wz_cv, Wz_nz, Wz_gI, Wz_gR, Wz_sI, Wz_aI, Wz_aZ, Wz_aL, Wz_aN, Wz_aR, Wz_tI, Wz_tZ, Wz_tL, Option.some.injEq, exists_eq_left', zB_0, zB_1, true_and, and_true, true_implies, not_true_eq_false, false_implies, not_false_eq_true, Classical.not_not, g_0, g_1, g_2, g_3, g_4, g_5, g_327, g_328, g_329, g_330, g_331, g_332, g_333, g_334, g_335, g_336, g_337, g_338, g_339, g_340, g_341, g_342, g_343, g_464, g_465, g_466, g_484, g_485, g_486, g_487, g_488, g_489, g_490, g_491, g_492, g_493, g_494, g_495, g_496, g_497, g_498, g_499, g_500, g_501, g_562, g_563, g_564, g_565, g_566, g_567, g_568, g_574, g_580, g_581, g_582, g_583, g_584, g_585, g_586, g_587, g_588, g_589, g_590, g_591, g_592, g_600, g_601, g_602, g_603, g_604, g_605, g_606, g_607, g_608, g_609, g_610, g_611, g_612, g_613, g_614, g_615, g_616, g_617, g_618, g_619, g_620, g_621, g_622, g_623, g_624, g_625, g_626, g_627, g_628, g_629, g_630, g_631, g_632, g_633, g_634, g_635, g_636, g_637, g_638, g_639, g_640, g_641, g_642, g_643, g_644, g_645, g_646, g_647, g_648, g_649, g_650, g_651, g_652, g_653, g_654, g_655, g_656, g_657, g_658, g_659, g_660, g_661, g_662, g_0_0, g_0_1, g_0_2, g_0_3, g_0_4, g_0_5, g_0_6, g_0_7, g_0_8, g_0_9, g_0_10, g_0_11, g_1_0, g_3_0, g_327_0, g_327_1, g_327_2, g_327_3, g_328_0, g_330_0, g_332_0, g_334_0, g_336_0, g_336_1, g_336_2, g_336_3, g_337_0, g_339_0, g_341_0, g_464_0, g_464_1, g_484_0, g_484_1, g_484_2, g_485_0, g_487_0, g_489_0, g_491_0, g_491_1, g_491_2, g_491_3, g_491_4, g_491_5, g_491_6, g_491_7, g_496_0, g_498_0, g_500_0, g_500_1, g_500_3, g_500_4, g_500_5, g_500_6, g_500_7, g_562_0, g_564_0, g_566_0, g_580_0, g_580_1, g_580_2, g_580_3, g_581_0, g_583_0, g_585_0, g_588_1, g_588_2, g_588_3, g_588_4, g_588_6, g_601_0, g_601_1, g_601_2, g_601_3, g_601_4, g_601_5, g_601_6, g_601_7, g_601_8, g_608_0, g_610_0, g_612_0, g_612_2, g_612_4, g_612_5, g_612_7, g_612_8, g_612_9, g_612_10, g_612_11, g_612_12, g_612_13, g_612_14, g_612_15, g_612_16, g_612_19, g_612_20, g_612_22, g_612_24, g_612_25, g_612_26, g_612_27, g_612_28, g_612_30, g_612_31, g_612_32, g_612_33, g_612_34, g_612_36, g_612_37, g_612_38, g_612_39, g_612_40, g_612_41, g_612_42, g_612_43, g_612_44, g_612_46, g_612_47, g_612_48, g_612_49, g_612_50, g_612_53, g_612_56, g_612_57, g_612_58, g_612_59, g_612_61, g_612_62, g_612_63, g_612_64, h9]
    refine ⟨fun z => absurd z (by decide), fun _ => ⟨fun z => absurd z (by omega), fun _ => W3_digits (n := n) (by rw [hL 588 0 (by decide)]; exact h5) (by omega) (fun x x0 x1 => by have := hbb x x0 x1; omega) ⟨by omega, ?_⟩⟩⟩
    rw [dg]
    have hL1 : tabL τ (v2 σ.1 602 (i : Int) (codN n i), σ.2) := hL.tr (fun b x z => v2_ne _ _ _ _ (fun q => z (by rw [q]; rfl)))
    refine W3_tot hI hL1 (fun x x0 x1 => by
      have := hbb x x0 (by omega)
      dsimp only
      rw [v2_ne _ _ _ _ (by decide)]
      omega) ⟨?_, ?_⟩
    · try dsimp only
      rw [v2_ne _ _ _ _ (by decide), h9]
      omega
    · have ce : cP τ ((v2 σ.1 602 (i : Int) (codN n i), σ.2).1 600) = cosN τ n i := cP_cg fun x x0 x1 => by
        dsimp only
        rw [v2_ne _ _ _ _ (by decide), ra]
        exact ha x x0 (by omega)
      rw [ce]
      simp only [v2_ne _ _ _ _ (show (601 : Nat) ≠ 602 by decide), v2_ne _ _ _ _ (show (601 : Nat) ≠ 603 by decide), h9]
      have fr : ∀ b x, b ≠ 602 → b ≠ 603 → (v2 (v2 σ.1 602 (i : Int) (codN n i)) 603 (i : Int) (cosN τ n i)) b x = σ.1 b x := fun b x b1 b2 => by
        rw [v2_ne _ _ _ _ b2, v2_ne _ _ _ _ b1]
      refine W9_neighbours hn (i := (i : Int)) (by omega) (by omega) (fun x x0 x1 => ?_) ?_ fun ρ r1 r2 r3 r4 => ?_
      · dsimp only
        rw [fr 600 x (by decide) (by decide), ra]
        exact ha x x0 x1
      · dsimp only
        rw [fr 588 0 (by decide) (by decide), hL 588 0 (by decide)]
        exact h5
      · have r9 : ρ.1 601 9 = i := by rw [r1 601 9 (by decide) (by decide)]; dsimp only; rw [fr 601 9 (by decide) (by decide), h9]
        rw [r9]
        refine ⟨by omega, ?_⟩
        have hL2 : tabL τ (v2 ρ.1 601 9 ((i : Int) + 1), ρ.2) := fun b x z => by
          dsimp only
          rw [v2_eq, if_neg (fun q => z (by rw [q.1, q.2]; rfl)), r1 b x (fun q => z (by rw [q]; rfl)) (fun q => z (by rw [q]; rfl))]
          dsimp only
          rw [fr b x (fun q => z (by rw [q]; rfl)) (fun q => z (by rw [q]; rfl))]
          exact hL b x z
        have li : lisC τ (v2 ρ.1 601 9 ((i : Int) + 1), ρ.2) n (i + 1) := by
          refine ⟨hL2, by dsimp only; rw [v2_self]; omega, ?_, fun j j0 j1 => ?_⟩
          · dsimp only
            rw [v2_nk _ _ _ _ (by decide), r1 601 10 (by decide) (by decide)]
            dsimp only
            rw [fr 601 10 (by decide) (by decide)]
            exact h10
          · dsimp only
            rw [v2_ne _ _ _ _ (by decide), v2_ne _ _ _ _ (by decide), v2_row _ _ _ (by decide), r1 602 j (by decide) (by decide), r1 603 j (by decide) (by decide)]
            dsimp only
            by_cases y : j = i
            · rw [y, v2_ne _ _ _ _ (by decide), v2_self, v2_self]
              exact ⟨rfl, rfl, r4⟩
            · rw [v2_ne _ _ _ _ (by decide), v2_nk _ _ _ _ y, v2_nk _ _ _ _ y, v2_ne _ _ _ _ (by decide)]
              obtain ⟨q1, q2, q3⟩ := hj j j0 (by omega)
              refine ⟨q1, q2, fun x x0 x1 => ?_, fun c d c0 cd dn q => ?_⟩
              · rw [r3 _ (by omega)]
                dsimp only
                rw [fr 604 _ (by decide) (by decide)]
                exact q3.1 x x0 x1
              · obtain ⟨x, hx1, hx2⟩ := q3.2 c d c0 cd dn q
                refine ⟨x, hx1, fun w w0 w1 => ?_⟩
                rw [r3 _ (by omega)]
                dsimp only
                rw [fr 604 _ (by decide) (by decide)]
                exact hx2 w w0 w1
        have e6 : (v2 ρ.1 601 9 ((i : Int) + 1)) 600 = σ.1 600 := by
          rw [v2_row _ _ _ (by decide), r2]
          exact funext fun x => fr 600 x (by decide) (by decide)
        refine W3_stepOn (n := n) (by omega) (by rw [hL2 588 0 (by decide)]; exact h5) (fun _ => z1 _ (hQ _ (by rw [← ei]; exact li))) (fun c => ?_)
        exfalso
        dsimp only at c
        rw [e6, pvt_cg ha (n - 1) (by omega), e] at c
        omega
  | cons b L ih =>
    intro a i N σ hd hc hN ha hl
    rw [List.length_cons] at hN
    obtain ⟨N, rfl⟩ : ∃ M, N = M + 1 := ⟨N - 1, by omega⟩
    rw [lp_succ]
    have ih' := fun σ => ih b (i + 1) N σ
    generalize lp (fun _ _ _ => none) (Z9_listLayouts_37B kdG0) N = K at ih' ⊢
    have dd : (allP n).drop (i + 1) = b :: L := by
      rw [← List.drop_drop, hd]; rfl
    have ei : i + 1 < szN n := by
      have := congrArg List.length dd
      rw [List.length_drop] at this
      simp at this
      unfold szN
      omega
    have la : lay n i = a := by
      unfold lay
      rw [List.getD_eq_getElem?_getD, ← Nat.add_zero i, ← List.getElem?_drop, hd]
      rfl
    have ra : rowN n i = rowL a := by
      unfold rowN
      rw [show ((i : Int)).toNat = i by omega, la]
    rw [show chn n (a :: b :: L) = (nxB n a b && chn n (b :: L)) from rfl, Bool.and_eq_true] at hc
    obtain ⟨e1, e2⟩ := nxB_iff hc.1
    obtain ⟨hL, h9, h10, hj⟩ := hl
    have gb := goodN (n := n) (i := (i : Int)) (by omega) (by omega)
    rw [ra] at gb
    have hbb : ∀ x : Int, 0 ≤ x → x < n → 0 ≤ σ.1 600 x ∧ σ.1 600 x < n := fun x x0 x1 => by rw [ha x x0 x1]; exact gb.1 x x0 x1
    have dg : dgF (σ.1 600) n = codN n i := by unfold codN; rw [ra]; exact dgF_cg n ha
    unfold Z9_listLayouts_37B
    simp only [Z9_listLayouts_111, Wz_rt, Wz_cnd, Wz_lI, Wz_lW, Wz_lL, Wz_cl, Wz_cv, Wz_nz, Wz_gI, Wz_gR, Wz_sI, Wz_aI, Wz_aZ, Wz_aL, Wz_aN, Wz_aR, Wz_tI, Wz_tZ, Wz_tL, Option.some.injEq, exists_eq_left', zB_0, zB_1, true_and, and_true, true_implies, not_true_eq_false, false_implies, not_false_eq_true, Classical.not_not, g_0, g_1, g_2, g_3, g_4, g_5, g_327, g_328, g_329, g_330, g_331, g_332, g_333, g_334, g_335, g_336, g_337, g_338, g_339, g_340, g_341, g_342, g_343, g_464, g_465, g_466, g_484, g_485, g_486, g_487, g_488, g_489, g_490, g_491, g_492, g_493, g_494, g_495, g_496, g_497, g_498, g_499, g_500, g_501, g_562, g_563, g_564, g_565, g_566, g_567, g_568, g_574, g_580, g_581, g_582, g_583, g_584, g_585, g_586, g_587, g_588, g_589, g_590, g_591, g_592, g_600, g_601, g_602, g_603, g_604, g_605, g_606, g_607, g_608, g_609, g_610, g_611, g_612, g_613, g_614, g_615, g_616, g_617, g_618, g_619, g_620, g_621, g_622, g_623, g_624, g_625, g_626, g_627, g_628, g_629, g_630, g_631, g_632, g_633, g_634, g_635, g_636, g_637, g_638, g_639, g_640, g_641, g_642, g_643, g_644, g_645, g_646, g_647, g_648, g_649, g_650, g_651, g_652, g_653, g_654, g_655, g_656, g_657, g_658, g_659, g_660, g_661, g_662, g_0_0, g_0_1, g_0_2, g_0_3, g_0_4, g_0_5, g_0_6, g_0_7, g_0_8, g_0_9, g_0_10, g_0_11, g_1_0, g_3_0, g_327_0, g_327_1, g_327_2, g_327_3, g_328_0, g_330_0, g_332_0, g_334_0, g_336_0, g_336_1, g_336_2, g_336_3, g_337_0, g_339_0, g_341_0, g_464_0, g_464_1, g_484_0, g_484_1, g_484_2, g_485_0, g_487_0, g_489_0, g_491_0, g_491_1, g_491_2, g_491_3, g_491_4, g_491_5, g_491_6, g_491_7, g_496_0, g_498_0, g_500_0, g_500_1, g_500_3, g_500_4, g_500_5, g_500_6, g_500_7, g_562_0, g_564_0, g_566_0, g_580_0, g_580_1, g_580_2, g_580_3, g_581_0, g_583_0, g_585_0, g_588_1, g_588_2, g_588_3, g_588_4, g_588_6, g_601_0, g_601_1, g_601_2, g_601_3, g_601_4, g_601_5, g_601_6, g_601_7, g_601_8, g_608_0, g_610_0, g_612_0, g_612_2, g_612_4, g_612_5, g_612_7, g_612_8, g_612_9, g_612_10, g_612_11, g_612_12, g_612_13, g_612_14, g_612_15, g_612_16, g_612_19, g_612_20, g_612_22, g_612_24, g_612_25, g_612_26, g_612_27, g_612_28, g_612_30, g_612_31, g_612_32, g_612_33, g_612_34, g_612_36, g_612_37, g_612_38, g_612_39, g_612_40, g_612_41, g_612_42, g_612_43, g_612_44, g_612_46, g_612_47, g_612_48, g_612_49, g_612_50, g_612_53, g_612_56, g_612_57, g_612_58, g_612_59, g_612_61, g_612_62, g_612_63, g_612_64, h9]
    refine ⟨fun z => absurd z (by decide), fun _ => ⟨fun z => absurd z (by omega), fun _ => W3_digits (n := n) (by rw [hL 588 0 (by decide)]; exact h5) (by omega) (fun x x0 x1 => by have := hbb x x0 x1; omega) ⟨by omega, ?_⟩⟩⟩
    rw [dg]
    have hL1 : tabL τ (v2 σ.1 602 (i : Int) (codN n i), σ.2) := hL.tr (fun b x z => v2_ne _ _ _ _ (fun q => z (by rw [q]; rfl)))
    refine W3_tot hI hL1 (fun x x0 x1 => by
      have := hbb x x0 (by omega)
      dsimp only
      rw [v2_ne _ _ _ _ (by decide)]
      omega) ⟨?_, ?_⟩
    · try dsimp only
      rw [v2_ne _ _ _ _ (by decide), h9]
      omega
    · have ce : cP τ ((v2 σ.1 602 (i : Int) (codN n i), σ.2).1 600) = cosN τ n i := cP_cg fun x x0 x1 => by
        dsimp only
        rw [v2_ne _ _ _ _ (by decide), ra]
        exact ha x x0 (by omega)
      rw [ce]
      simp only [v2_ne _ _ _ _ (show (601 : Nat) ≠ 602 by decide), v2_ne _ _ _ _ (show (601 : Nat) ≠ 603 by decide), h9]
      have fr : ∀ b x, b ≠ 602 → b ≠ 603 → (v2 (v2 σ.1 602 (i : Int) (codN n i)) 603 (i : Int) (cosN τ n i)) b x = σ.1 b x := fun b x b1 b2 => by
        rw [v2_ne _ _ _ _ b2, v2_ne _ _ _ _ b1]
      refine W9_neighbours hn (i := (i : Int)) (by omega) (by omega) (fun x x0 x1 => ?_) ?_ fun ρ r1 r2 r3 r4 => ?_
      · dsimp only
        rw [fr 600 x (by decide) (by decide), ra]
        exact ha x x0 x1
      · dsimp only
        rw [fr 588 0 (by decide) (by decide), hL 588 0 (by decide)]
        exact h5
      · have r9 : ρ.1 601 9 = i := by rw [r1 601 9 (by decide) (by decide)]; dsimp only; rw [fr 601 9 (by decide) (by decide), h9]
        rw [r9]
        refine ⟨by omega, ?_⟩
        have hL2 : tabL τ (v2 ρ.1 601 9 ((i : Int) + 1), ρ.2) := fun b x z => by
          dsimp only
          rw [v2_eq, if_neg (fun q => z (by rw [q.1, q.2]; rfl)), r1 b x (fun q => z (by rw [q]; rfl)) (fun q => z (by rw [q]; rfl))]
          dsimp only
          rw [fr b x (fun q => z (by rw [q]; rfl)) (fun q => z (by rw [q]; rfl))]
          exact hL b x z
        have li : lisC τ (v2 ρ.1 601 9 ((i : Int) + 1), ρ.2) n (i + 1) := by
          refine ⟨hL2, by dsimp only; rw [v2_self]; omega, ?_, fun j j0 j1 => ?_⟩
          · dsimp only
            rw [v2_nk _ _ _ _ (by decide), r1 601 10 (by decide) (by decide)]
            dsimp only
            rw [fr 601 10 (by decide) (by decide)]
            exact h10
          · dsimp only
            rw [v2_ne _ _ _ _ (by decide), v2_ne _ _ _ _ (by decide), v2_row _ _ _ (by decide), r1 602 j (by decide) (by decide), r1 603 j (by decide) (by decide)]
            dsimp only
            by_cases y : j = i
            · rw [y, v2_ne _ _ _ _ (by decide), v2_self, v2_self]
              exact ⟨rfl, rfl, r4⟩
            · rw [v2_ne _ _ _ _ (by decide), v2_nk _ _ _ _ y, v2_nk _ _ _ _ y, v2_ne _ _ _ _ (by decide)]
              obtain ⟨q1, q2, q3⟩ := hj j j0 (by omega)
              refine ⟨q1, q2, fun x x0 x1 => ?_, fun c d c0 cd dn q => ?_⟩
              · rw [r3 _ (by omega)]
                dsimp only
                rw [fr 604 _ (by decide) (by decide)]
                exact q3.1 x x0 x1
              · obtain ⟨x, hx1, hx2⟩ := q3.2 c d c0 cd dn q
                refine ⟨x, hx1, fun w w0 w1 => ?_⟩
                rw [r3 _ (by omega)]
                dsimp only
                rw [fr 604 _ (by decide) (by decide)]
                exact hx2 w w0 w1
        have e6 : (v2 ρ.1 601 9 ((i : Int) + 1)) 600 = σ.1 600 := by
          rw [v2_row _ _ _ (by decide), r2]
          exact funext fun x => fr 600 x (by decide) (by decide)
        refine W3_stepOn (n := n) (by omega) (by rw [hL2 588 0 (by decide)]; exact h5) (fun c => ?_) (fun c ζ z1 z2 => ?_)
        · exfalso
          dsimp only at c
          rw [e6, pvt_cg ha (n - 1) (by omega)] at c
          omega
        · dsimp only at z2
          rw [e6] at z2
          refine ih' ζ dd hc.2 (by omega) (fun x x0 x1 => ?_) ⟨hL2.tr (tabL.o600 z1), ?_, ?_, fun j j0 j1 => ?_⟩
          · rw [z2, nxF_cg (by omega) ha e1 x x0 x1]
            exact e2 x x0 x1
          · rw [z1 601 9 (by decide)]
            exact li.2.1
          · rw [z1 601 10 (by decide)]
            exact li.2.2.1
          · rw [z1 602 j (by decide), z1 603 j (by decide), show ζ.1 604 = (v2 ρ.1 601 9 ((i : Int) + 1), ρ.2).1 604 from funext fun x => z1 604 x (by decide)]
            exact li.2.2.2 j j0 j1
set_option maxRecDepth 100000 in
theorem W9_listLayouts {τ σ : kzM} (hI : Inv τ) (hL : tabL τ σ) {n : Nat} (hn : 2 ≤ n ∧ n ≤ 5) (h5 : τ.1 588 0 = n) {Q : Unit → kzM → Prop} (hQ : ∀ ρ, lisC τ ρ n (szN n) → Q () ρ) : Wz (Z9_listLayouts kdG0 601) σ Q := by
  obtain ⟨hc, R, hR⟩ := chn_n (n := n) (by omega)
  have hl := allP_le (n := n) (by omega)
  rw [hR] at hc hl
  rw [List.length_cons] at hl
  have me := kS_e0 ⟨n, by omega⟩ hn.1
  dsimp only at me
  have m := mul_b (a := (n : Int)) (b := (n : Int) - 1) (u := 5) (v := 4) (by omega) (by omega)
  have e0 : (v2 σ.1 601 9 0) 588 0 = n := by rw [v2_ne _ _ _ _ (by decide), hL 588 0 (by decide)]; exact h5
  have em : ((n : Int) * ((n : Int) - 1)).tdiv 2 = mN n := rfl
  simp only [Z9_listLayouts, Z3_size, Wz_rt, Wz_cnd, Wz_lI, Wz_lW, Wz_lL, Wz_cl, Wz_cv, Wz_nz, Wz_gI, Wz_gR, Wz_sI, Wz_aI, Wz_aZ, Wz_aL, Wz_aN, Wz_aR, Wz_tI, Wz_tZ, Wz_tL, Option.some.injEq, exists_eq_left', zB_0, zB_1, true_and, and_true, true_implies, not_true_eq_false, false_implies, not_false_eq_true, Classical.not_not, g_0, g_1, g_2, g_3, g_4, g_5, g_327, g_328, g_329, g_330, g_331, g_332, g_333, g_334, g_335, g_336, g_337, g_338, g_339, g_340, g_341, g_342, g_343, g_464, g_465, g_466, g_484, g_485, g_486, g_487, g_488, g_489, g_490, g_491, g_492, g_493, g_494, g_495, g_496, g_497, g_498, g_499, g_500, g_501, g_562, g_563, g_564, g_565, g_566, g_567, g_568, g_574, g_580, g_581, g_582, g_583, g_584, g_585, g_586, g_587, g_588, g_589, g_590, g_591, g_592, g_600, g_601, g_602, g_603, g_604, g_605, g_606, g_607, g_608, g_609, g_610, g_611, g_612, g_613, g_614, g_615, g_616, g_617, g_618, g_619, g_620, g_621, g_622, g_623, g_624, g_625, g_626, g_627, g_628, g_629, g_630, g_631, g_632, g_633, g_634, g_635, g_636, g_637, g_638, g_639, g_640, g_641, g_642, g_643, g_644, g_645, g_646, g_647, g_648, g_649, g_650, g_651, g_652, g_653, g_654, g_655, g_656, g_657, g_658, g_659, g_660, g_661, g_662, g_0_0, g_0_1, g_0_2, g_0_3, g_0_4, g_0_5, g_0_6, g_0_7, g_0_8, g_0_9, g_0_10, g_0_11, g_1_0, g_3_0, g_327_0, g_327_1, g_327_2, g_327_3, g_328_0, g_330_0, g_332_0, g_334_0, g_336_0, g_336_1, g_336_2, g_336_3, g_337_0, g_339_0, g_341_0, g_464_0, g_464_1, g_484_0, g_484_1, g_484_2, g_485_0, g_487_0, g_489_0, g_491_0, g_491_1, g_491_2, g_491_3, g_491_4, g_491_5, g_491_6, g_491_7, g_496_0, g_498_0, g_500_0, g_500_1, g_500_3, g_500_4, g_500_5, g_500_6, g_500_7, g_562_0, g_564_0, g_566_0, g_580_0, g_580_1, g_580_2, g_580_3, g_581_0, g_583_0, g_585_0, g_588_1, g_588_2, g_588_3, g_588_4, g_588_6, g_601_0, g_601_1, g_601_2, g_601_3, g_601_4, g_601_5, g_601_6, g_601_7, g_601_8, g_608_0, g_610_0, g_612_0, g_612_2, g_612_4, g_612_5, g_612_7, g_612_8, g_612_9, g_612_10, g_612_11, g_612_12, g_612_13, g_612_14, g_612_15, g_612_16, g_612_19, g_612_20, g_612_22, g_612_24, g_612_25, g_612_26, g_612_27, g_612_28, g_612_30, g_612_31, g_612_32, g_612_33, g_612_34, g_612_36, g_612_37, g_612_38, g_612_39, g_612_40, g_612_41, g_612_42, g_612_43, g_612_44, g_612_46, g_612_47, g_612_48, g_612_49, g_612_50, g_612_53, g_612_56, g_612_57, g_612_58, g_612_59, g_612_61, g_612_62, g_612_63, g_612_64, e0, em]
  refine ⟨by decide, by omega, by omega, ?_⟩
  have hL1 : tabL τ (v2 (v2 σ.1 601 9 0) 601 10 (mN n), σ.2) := hL.tr (fun a x z => by
    dsimp only
    rw [v2_eq, if_neg (fun q => z (by rw [q.1, q.2]; rfl)), v2_eq, if_neg (fun q => z (by rw [q.1, q.2]; rfl))])
  refine W3_first (n := n) (by omega) (by rw [hL1 588 0 (by decide)]; exact h5) fun ρ h1 h2 => ?_
  unfold Z9_listLayouts_37
  refine W9_ll_37 hI hn h5 hQ R (List.range n) 0 NN ρ (by rw [List.drop_zero, hR]) hc (by unfold NN; omega) h2 ⟨hL1.tr (tabL.o600 h1), ?_, ?_, fun j a b => by omega⟩
  · rw [h1 601 9 (by decide)]
    dsimp only
    rw [v2_nk _ _ _ _ (by decide), v2_self]
    rfl
  · rw [h1 601 10 (by decide)]
    dsimp only
    rw [v2_self]
