/-! parting: the class finds -/
def onF (σ ρ : kzM) : Prop := ∀ a x, ¬(496 ≤ a ∧ a ≤ 499) → ρ.1 a x = σ.1 a x
theorem onF.tr {σ ρ ζ : kzM} (h : onF σ ρ) (k : onF ρ ζ) : onF σ ζ := fun a x y => (k a x y).trans (h a x y)
def getW (ps : List (Int × Int)) (i : Nat) : Int × Int := ps.getD i (0, 0)
set_option maxRecDepth 100000 in
theorem W5_fo_38 {τ : kzM} (hI : Inv τ) {ts : Int} {σ0 : kzM} (hL0 : tabL τ σ0) (hD : doneE τ ts σ0 0) {Q : Unit → kzM → Prop} : ∀ (k N n0 : Nat) (p t S P : Int) (σ : kzM), k < N → n0 + k ≤ 4 → 0 ≤ p → p ≤ τ.1 1 1 → 0 ≤ t → t ≤ 3 → (p = τ.1 1 1 → t < 3) → (ptW τ ts).bE k p t S P → onF σ0 σ → σ.1 496 1 = n0 → σ.1 498 1 = n0 → (∀ (ρ : kzM) (ps : List (Int × Int)), onF σ ρ → pthE (ptW τ ts) ps k p t → ps.length = k → ρ.1 496 1 = n0 + ps.length → ρ.1 498 1 = n0 + ps.length → (∀ i : Nat, i < n0 → ρ.1 497 i = σ.1 497 i ∧ ρ.1 499 i = σ.1 499 i) → (∀ i : Nat, i < ps.length → ρ.1 497 ((n0 + i : Nat) : Int) = (getW ps i).1 ∧ ρ.1 499 ((n0 + i : Nat) : Int) = (getW ps i).2) → Q () ρ) → Wz (lp (fun _ _ _ _ _ => none) (Z5_follow_38B kdG0) N 491 p t (k : Int)) σ Q := by
  have i1 := hI.1
  unfold I1 at i1
  intro k
  induction k with
  | zero =>
    intro N n0 p t S P σ hN hn p0 p1 t0 t1 pt hb ho h1 h2 hQ
    obtain ⟨N, rfl⟩ : ∃ M, N = M + 1 := ⟨N - 1, by omega⟩
    rw [lp_succ]
    generalize lp (fun _ _ _ _ _ => none) (Z5_follow_38B kdG0) N = L
    unfold Z5_follow_38B
    simp only [Wz_rt, Wz_cnd, Wz_lI, Wz_lW, Wz_lL, Wz_cl, Wz_cv, Wz_nz, Wz_gI, Wz_gR, Wz_sI, Wz_aI, Wz_aZ, Wz_aL, Wz_aN, Wz_aR, Wz_tI, Wz_tZ, Wz_tL, Option.some.injEq, exists_eq_left', zB_0, zB_1, true_and, and_true, true_implies, not_true_eq_false, false_implies, not_false_eq_true, Classical.not_not, g_0, g_1, g_2, g_3, g_4, g_5, g_327, g_328, g_329, g_330, g_331, g_332, g_333, g_334, g_335, g_336, g_337, g_338, g_339, g_340, g_341, g_342, g_343, g_464, g_465, g_466, g_484, g_485, g_486, g_487, g_488, g_489, g_490, g_491, g_492, g_493, g_494, g_495, g_496, g_497, g_498, g_499, g_500, g_501, g_562, g_563, g_564, g_565, g_566, g_567, g_568, g_574, g_580, g_581, g_582, g_583, g_584, g_585, g_586, g_587, g_588, g_589, g_590, g_591, g_592, g_600, g_601, g_602, g_603, g_604, g_605, g_606, g_607, g_608, g_609, g_610, g_611, g_612, g_613, g_614, g_615, g_616, g_617, g_618, g_619, g_620, g_621, g_622, g_623, g_624, g_625, g_626, g_627, g_628, g_629, g_630, g_631, g_632, g_633, g_634, g_635, g_636, g_637, g_638, g_639, g_640, g_641, g_642, g_643, g_644, g_645, g_646, g_647, g_648, g_649, g_650, g_651, g_652, g_653, g_654, g_655, g_656, g_657, g_658, g_659, g_660, g_661, g_662, g_0_0, g_0_1, g_0_2, g_0_3, g_0_4, g_0_5, g_0_6, g_0_7, g_0_8, g_0_9, g_0_10, g_0_11, g_1_0, g_3_0, g_327_0, g_327_1, g_327_2, g_327_3, g_328_0, g_330_0, g_332_0, g_334_0, g_336_0, g_336_1, g_336_2, g_336_3, g_337_0, g_339_0, g_341_0, g_464_0, g_464_1, g_484_0, g_484_1, g_484_2, g_485_0, g_487_0, g_489_0, g_491_0, g_491_1, g_491_2, g_491_3, g_491_4, g_491_5, g_491_6, g_491_7, g_496_0, g_498_0, g_500_0, g_500_1, g_500_3, g_500_4, g_500_5, g_500_6, g_500_7, g_562_0, g_564_0, g_566_0, g_580_0, g_580_1, g_580_2, g_580_3, g_581_0, g_583_0, g_585_0, g_588_1, g_588_2, g_588_3, g_588_4, g_588_6, g_601_0, g_601_1, g_601_2, g_601_3, g_601_4, g_601_5, g_601_6, g_601_7, g_601_8, g_608_0, g_610_0, g_612_0, g_612_2, g_612_4, g_612_5, g_612_7, g_612_8, g_612_9, g_612_10, g_612_11, g_612_12, g_612_13, g_612_14, g_612_15, g_612_16, g_612_19, g_612_20, g_612_22, g_612_24, g_612_25, g_612_26, g_612_27, g_612_28, g_612_30, g_612_31, g_612_32, g_612_33, g_612_34, g_612_36, g_612_37, g_612_38, g_612_39, g_612_40, g_612_41, g_612_42, g_612_43, g_612_44, g_612_46, g_612_47, g_612_48, g_612_49, g_612_50, g_612_53, g_612_56, g_612_57, g_612_58, g_612_59, g_612_61, g_612_62, g_612_63, g_612_64]
    refine ⟨fun _ => hQ σ [] (fun _ _ _ => rfl) rfl rfl ?_ ?_ (fun _ _ => ⟨rfl, rfl⟩) (fun i hi => absurd hi (by simp)), fun c => absurd (Int.le_refl _) c⟩
    · rw [h1]; rfl
    · rw [h2]; rfl
  | succ k ih =>
    intro N n0 p t S P σ hN hn p0 p1 t0 t1 pt hb ho h1 h2 hQ
    obtain ⟨N, rfl⟩ : ∃ M, N = M + 1 := ⟨N - 1, by omega⟩
    rw [lp_succ]
    have ih' := ih N (n0 + 1)
    generalize lp (fun _ _ _ _ _ => none) (Z5_follow_38B kdG0) N = L at ih' ⊢
    have zb := ptW_b hI (k + 1) _ _ _ _ (by omega) hb.1
    have pL : p < τ.1 1 1 := by
      by_cases y : p = τ.1 1 1
      · have q := hb.1
        rw [y] at q
        have := (ptW τ ts).At_end (ptW_ok hI ts) (k + 1) t S P q
        omega
      · omega
    obtain ⟨en, fs⟩ := hD p (k + 1) t (by omega) p1 (by omega) t0 t1 pt
    have fs := fs pL
    have e92 : σ.1 492 (ixP p ((k + 1 : Nat) : Int) t) = σ0.1 492 (ixP p ((k + 1 : Nat) : Int) t) := ho 492 _ (by omega)
    have eS : σ0.1 492 (ixP p ((k + 1 : Nat) : Int) t) = S ∧ σ0.1 493 (ixP p ((k + 1 : Nat) : Int) t) = P := by
      rcases en with h | ⟨_, h⟩
      · exact ptD.bE_u h hb
      · exact absurd ⟨S, P, hb.1⟩ h
    have lx := fs (by omega) (by rw [eS.1]; omega)
    rw [eS.1, eS.2, show k + 1 - 1 = k by omega] at lx
    have e94 : σ.1 494 (ixP p ((k + 1 : Nat) : Int) t) = σ0.1 494 (ixP p ((k + 1 : Nat) : Int) t) := ho 494 _ (by omega)
    have e95 : σ.1 495 (ixP p ((k + 1 : Nat) : Int) t) = σ0.1 495 (ixP p ((k + 1 : Nat) : Int) t) := ho 495 _ (by omega)
    generalize hw : σ0.1 494 (ixP p ((k + 1 : Nat) : Int) t) = w at lx e94
    generalize hl : σ0.1 495 (ixP p ((k + 1 : Nat) : Int) t) = l at lx e95
    obtain ⟨hc, s', q', hb', _, _⟩ := lx.1
    have cc := ptW_cd.1 hc
    have pw := ptW_w hI cc.1.1 cc.1.2
    have ix0 : (p * 5 + ((k + 1 : Nat) : Int)) * 4 + t = ixP p ((k + 1 : Nat) : Int) t := by unfold ixP; omega
    have ixb : 0 ≤ ixP p ((k + 1 : Nat) : Int) t ∧ ixP p ((k + 1 : Nat) : Int) t < 340 := by unfold ixP; omega
    obtain ⟨ρ, hρ⟩ : ∃ ρ : kzM, ρ = (addF (addF σ.1 496 w) 498 l, σ.2) := ⟨_, rfl⟩
    have fr : onF σ ρ := by
      rw [hρ]
      intro a x z
      simp only [addF]
      rw [v2_ne _ _ _ _ (by omega), v2_ne _ _ _ _ (by omega), v2_ne _ _ _ _ (by omega), v2_ne _ _ _ _ (by omega)]
    have g6 : ρ.1 496 1 = ((n0 + 1 : Nat) : Int) := by
      rw [hρ]
      simp only [addF, v2_eq, Nat.reduceEqDiff, Nat.reduceAdd, false_and, reduceIte, true_and, h1]
      omega
    have g8 : ρ.1 498 1 = ((n0 + 1 : Nat) : Int) := by
      rw [hρ]
      simp only [addF, v2_eq, Nat.reduceEqDiff, Nat.reduceAdd, false_and, reduceIte, true_and, h2]
      omega
    have g7 : ∀ x, ρ.1 497 x = if x = n0 then w else σ.1 497 x := fun x => by
      rw [hρ]
      simp only [addF, v2_eq, Nat.reduceEqDiff, Nat.reduceAdd, false_and, reduceIte, true_and, h1]
    have g9 : ∀ x, ρ.1 499 x = if x = n0 then l else σ.1 499 x := fun x => by
      rw [hρ]
      simp only [addF, v2_eq, Nat.reduceEqDiff, Nat.reduceAdd, false_and, reduceIte, true_and, h2]
    have r94 : ρ.1 494 (ixP p ((k + 1 : Nat) : Int) t) = w := by rw [fr 494 _ (by omega), e94]
    have r95 : ρ.1 495 (ixP p ((k + 1 : Nat) : Int) t) = l := by rw [fr 495 _ (by omega), e95]
    have m95 : (addF σ.1 496 w) 495 (ixP p ((k + 1 : Nat) : Int) t) = l := by
      simp only [addF]
      rw [v2_ne _ _ _ _ (by decide), v2_ne _ _ _ _ (by decide), e95]
    have hLr : tabL τ ρ := fun a x z => (fr a x (fun q => z (md_20 (by omega)))).trans ((ho a x (fun q => z (md_20 (by omega)))).trans (hL0 a x z))
    have e37 : ρ.1 337 1 = τ.1 337 1 := hLr 337 1 (by decide)
    have e38 : ρ.1 338 w = τ.1 338 w := hLr 338 w (by rw [md_5 (by decide)]; decide)
    unfold Z5_follow_38B
    simp only [Z5_caseOf, Wz_rt, Wz_cnd, Wz_lI, Wz_lW, Wz_lL, Wz_cl, Wz_cv, Wz_nz, Wz_gI, Wz_gR, Wz_sI, Wz_aI, Wz_aZ, Wz_aL, Wz_aN, Wz_aR, Wz_tI, Wz_tZ, Wz_tL, Option.some.injEq, exists_eq_left', zB_0, zB_1, true_and, and_true, true_implies, not_true_eq_false, false_implies, not_false_eq_true, Classical.not_not, g_0, g_1, g_2, g_3, g_4, g_5, g_327, g_328, g_329, g_330, g_331, g_332, g_333, g_334, g_335, g_336, g_337, g_338, g_339, g_340, g_341, g_342, g_343, g_464, g_465, g_466, g_484, g_485, g_486, g_487, g_488, g_489, g_490, g_491, g_492, g_493, g_494, g_495, g_496, g_497, g_498, g_499, g_500, g_501, g_562, g_563, g_564, g_565, g_566, g_567, g_568, g_574, g_580, g_581, g_582, g_583, g_584, g_585, g_586, g_587, g_588, g_589, g_590, g_591, g_592, g_600, g_601, g_602, g_603, g_604, g_605, g_606, g_607, g_608, g_609, g_610, g_611, g_612, g_613, g_614, g_615, g_616, g_617, g_618, g_619, g_620, g_621, g_622, g_623, g_624, g_625, g_626, g_627, g_628, g_629, g_630, g_631, g_632, g_633, g_634, g_635, g_636, g_637, g_638, g_639, g_640, g_641, g_642, g_643, g_644, g_645, g_646, g_647, g_648, g_649, g_650, g_651, g_652, g_653, g_654, g_655, g_656, g_657, g_658, g_659, g_660, g_661, g_662, g_0_0, g_0_1, g_0_2, g_0_3, g_0_4, g_0_5, g_0_6, g_0_7, g_0_8, g_0_9, g_0_10, g_0_11, g_1_0, g_3_0, g_327_0, g_327_1, g_327_2, g_327_3, g_328_0, g_330_0, g_332_0, g_334_0, g_336_0, g_336_1, g_336_2, g_336_3, g_337_0, g_339_0, g_341_0, g_464_0, g_464_1, g_484_0, g_484_1, g_484_2, g_485_0, g_487_0, g_489_0, g_491_0, g_491_1, g_491_2, g_491_3, g_491_4, g_491_5, g_491_6, g_491_7, g_496_0, g_498_0, g_500_0, g_500_1, g_500_3, g_500_4, g_500_5, g_500_6, g_500_7, g_562_0, g_564_0, g_566_0, g_580_0, g_580_1, g_580_2, g_580_3, g_581_0, g_583_0, g_585_0, g_588_1, g_588_2, g_588_3, g_588_4, g_588_6, g_601_0, g_601_1, g_601_2, g_601_3, g_601_4, g_601_5, g_601_6, g_601_7, g_601_8, g_608_0, g_610_0, g_612_0, g_612_2, g_612_4, g_612_5, g_612_7, g_612_8, g_612_9, g_612_10, g_612_11, g_612_12, g_612_13, g_612_14, g_612_15, g_612_16, g_612_19, g_612_20, g_612_22, g_612_24, g_612_25, g_612_26, g_612_27, g_612_28, g_612_30, g_612_31, g_612_32, g_612_33, g_612_34, g_612_36, g_612_37, g_612_38, g_612_39, g_612_40, g_612_41, g_612_42, g_612_43, g_612_44, g_612_46, g_612_47, g_612_48, g_612_49, g_612_50, g_612_53, g_612_56, g_612_57, g_612_58, g_612_59, g_612_61, g_612_62, g_612_63, g_612_64, ix0, e94]
    refine ⟨fun z => absurd z (by omega), fun _ => ⟨by omega, ixb, W_add r_496 (by omega) (by omega) (by decide) ⟨ixb, ?_⟩⟩⟩
    dsimp only
    rw [m95]
    refine W_add r_498 (by simp only [addF, v2_eq, Nat.reduceEqDiff, Nat.reduceAdd, false_and, reduceIte]; omega) (by simp only [addF, v2_eq, Nat.reduceEqDiff, Nat.reduceAdd, false_and, reduceIte]; omega) (by decide) ?_
    dsimp only
    have r94' : addF (addF σ.1 496 w) 498 l 494 (ixP p ((k + 1 : Nat) : Int) t) = w := by
      have z := r94
      rw [hρ] at z
      exact z
    have r95' : addF (addF σ.1 496 w) 498 l 495 (ixP p ((k + 1 : Nat) : Int) t) = l := by
      have z := r95
      rw [hρ] at z
      exact z
    rw [← hρ, r94', r95']
    refine ⟨ixb, by omega, ixb, (W10_tongueOf (show ρ.1 337 1 ≤ 60 by omega)).2 ?_⟩
    rw [if_pos (by omega), e38]
    refine ⟨by omega, ?_⟩
    rw [show ((k + 1 : Nat) : Int) + -1 = (k : Int) by omega]
    refine ih' (p + l) (τ.1 338 w) s' q' ρ (by omega) (by omega) (by omega) cc.2.2.2 (by omega) (by omega) (by omega) hb' (ho.tr fr) g6 g8 (fun ζ ps z1 z2 z3 z4 z5 z6 z7 => ?_)
    refine hQ ζ ((w, l) :: ps) (fr.tr z1) ⟨S, P, k, rfl, hb, lx, z2⟩ (by rw [List.length_cons, z3]) (by rw [z4, List.length_cons]; omega) (by rw [z5, List.length_cons]; omega) (fun i hi => ?_) (fun i hi => ?_)
    · have q := z6 i (by omega)
      rw [q.1, q.2, g7, g9, if_neg (by omega), if_neg (by omega)]
      exact ⟨rfl, rfl⟩
    · cases i with
      | zero =>
        have q := z6 n0 (by omega)
        rw [Nat.add_zero, q.1, q.2, g7, g9, if_pos rfl, if_pos rfl]
        exact ⟨rfl, rfl⟩
      | succ i =>
        rw [List.length_cons] at hi
        have q := z7 i (by omega)
        rw [show n0 + (i + 1) = n0 + 1 + i by omega]
        exact q
/-- what the class answers of the pad -/
def fndE (τ : kzM) (ts : Int) (ρ : kzM) : Prop := (∃ (ps : List (Int × Int)) (S P : Int) (M : Nat), (ptW τ ts).bR 4 0 3 S P M ∧ pthE (ptW τ ts) ps M 0 3 ∧ ps.length = M ∧ M ≤ 4 ∧ ρ.1 491 8 = S ∧ ρ.1 496 1 = ps.length ∧ ρ.1 498 1 = ps.length ∧ ∀ i : Nat, i < ps.length → ρ.1 497 i = (getW ps i).1 ∧ ρ.1 499 i = (getW ps i).2)
set_option maxRecDepth 100000 in
theorem W5_find {τ : kzM} (hI : Inv τ) (hL1 : 1 ≤ τ.1 1 1) {ts : Int} {Q : Int → kzM → Prop} (q0 : ∀ ρ, tabL τ ρ → (¬∃ (j : Nat) (S P : Int), j ≤ 4 ∧ (ptW τ ts).At j 0 3 S P) → Q 0 ρ) (q1 : ∀ ρ, tabL τ ρ → fndE τ ts ρ → Q 1 ρ) : Wz (Z5_find kdG0 491 1 ts) τ Q := by
  have i1 := hI.1
  unfold I1 at i1
  have i5 := hI.2.2.2.2.1
  unfold I5 at i5
  -- when all places are through
  have fin : ∀ ρ, tabL τ ρ → doneE τ ts ρ 0 → Wz (Z5_bestNumberOfPieces kdG0 491) ρ (fun b τ' => Wz (Z5_follow kdG0 491 b) τ' fun _ τ'' => (b ≤ 0 → Q 0 τ'') ∧ (¬b ≤ 0 → Q 1 τ'')) := fun ρ hL hD => by
    have en : ∀ j : Nat, j ≤ 4 → entE τ ts ρ 0 j 3 := fun j hj => (hD 0 j 3 (by omega) (by omega) hj (by omega) (by omega) (by omega)).1
    have eb : ∀ j : Nat, j ≤ 4 → ρ.1 492 (ixP 0 j 3) ≤ 1000000000 ∧ (¬ρ.1 492 (ixP 0 j 3) = 1000000000 → (ptW τ ts).bE j 0 3 (ρ.1 492 (ixP 0 j 3)) (ρ.1 493 (ixP 0 j 3))) ∧ (ρ.1 492 (ixP 0 j 3) = 1000000000 → ¬∃ S P, (ptW τ ts).At j 0 3 S P) := fun j hj => by
      rcases en j hj with h | ⟨h, h2⟩
      · have z := ptW_b hI j _ _ _ _ hj h.1
        exact ⟨by omega, fun _ => h, fun e => by omega⟩
      · exact ⟨by omega, fun z => absurd h z, fun _ => h2⟩
    refine W5_bestN (fun j j0 j1 => ?_) (fun b hb => ?_)
    · have := (eb j.toNat (by omega)).1
      rw [show ((j.toNat : Nat) : Int) = j by omega] at this
      exact this
    · have no0 : ¬∃ S P, (ptW τ ts).At 0 0 3 S P := fun ⟨S, P, h⟩ => by
        have := h.1
        rw [show (ptW τ ts).L = τ.1 1 1 from rfl] at this
        omega
      have b4 : 0 ≤ b ∧ b ≤ 4 := by rcases hb with h | h <;> omega
      have ixb : (0 * 5 + b) * 4 + 3 = ixP 0 b 3 := by unfold ixP; omega
      have ixc : 0 ≤ ixP 0 b 3 ∧ ixP 0 b 3 < 340 := by unfold ixP; omega
      obtain ⟨ξ, hξ⟩ : ∃ ξ : kzM, ξ = (v2 (v2 (v2 ρ.1 496 1 0) 498 1 0) 491 8 (ρ.1 492 (ixP 0 b 3)), ρ.2) := ⟨_, rfl⟩
      have fx : ∀ a x, ¬(a = 496 ∨ a = 498 ∨ (a = 491 ∧ x = 8)) → ξ.1 a x = ρ.1 a x := fun a x z => by
        rw [hξ]
        dsimp only
        rw [v2_eq, if_neg (by omega), v2_eq, if_neg (by omega), v2_eq, if_neg (by omega)]
      have m92 : (v2 (v2 ρ.1 496 1 0) 498 1 0) 492 (ixP 0 b 3) = ρ.1 492 (ixP 0 b 3) := by
        rw [v2_ne _ _ _ _ (by decide), v2_ne _ _ _ _ (by decide)]
      have hLx : tabL τ ξ := fun a x z => (fx a x (fun q => z (by
        rcases q with q | q | q
        · rw [q]; rfl
        · rw [q]; rfl
        · rw [q.1]; exact md_20 (by omega)))).trans (hL a x z)
      unfold Z5_follow
      simp only [Z5_caseOf, W_size r_1, W_isEmpty r_1, W_isFull r_1, W_has r_1, W_clear r_1, W_size r_3, W_isEmpty r_3, W_isFull r_3, W_has r_3, W_clear r_3, W_size r_328, W_isEmpty r_328, W_isFull r_328, W_has r_328, W_clear r_328, W_size r_330, W_isEmpty r_330, W_isFull r_330, W_has r_330, W_clear r_330, W_size r_332, W_isEmpty r_332, W_isFull r_332, W_has r_332, W_clear r_332, W_size r_334, W_isEmpty r_334, W_isFull r_334, W_has r_334, W_clear r_334, W_size r_337, W_isEmpty r_337, W_isFull r_337, W_has r_337, W_clear r_337, W_size r_339, W_isEmpty r_339, W_isFull r_339, W_has r_339, W_clear r_339, W_size r_341, W_isEmpty r_341, W_isFull r_341, W_has r_341, W_clear r_341, W_size r_485, W_isEmpty r_485, W_isFull r_485, W_has r_485, W_clear r_485, W_size r_487, W_isEmpty r_487, W_isFull r_487, W_has r_487, W_clear r_487, W_size r_489, W_isEmpty r_489, W_isFull r_489, W_has r_489, W_clear r_489, W_size r_496, W_isEmpty r_496, W_isFull r_496, W_has r_496, W_clear r_496, W_size r_498, W_isEmpty r_498, W_isFull r_498, W_has r_498, W_clear r_498, W_size r_562, W_isEmpty r_562, W_isFull r_562, W_has r_562, W_clear r_562, W_size r_564, W_isEmpty r_564, W_isFull r_564, W_has r_564, W_clear r_564, W_size r_566, W_isEmpty r_566, W_isFull r_566, W_has r_566, W_clear r_566, W_size r_581, W_isEmpty r_581, W_isFull r_581, W_has r_581, W_clear r_581, W_size r_583, W_isEmpty r_583, W_isFull r_583, W_has r_583, W_clear r_583, W_size r_585, W_isEmpty r_585, W_isFull r_585, W_has r_585, W_clear r_585, W_size r_608, W_isEmpty r_608, W_isFull r_608, W_has r_608, W_clear r_608, W_size r_610, W_isEmpty r_610, W_isFull r_610, W_has r_610, W_clear r_610, Wz_rt, Wz_cnd, Wz_lI, Wz_lW, Wz_lL, Wz_cl, Wz_cv, Wz_nz, Wz_gI, Wz_gR, Wz_sI, Wz_aI, Wz_aZ, Wz_aL, Wz_aN, Wz_aR, Wz_tI, Wz_tZ, Wz_tL, Option.some.injEq, exists_eq_left', zB_0, zB_1, true_and, and_true, true_implies, not_true_eq_false, false_implies, not_false_eq_true, Classical.not_not, g_0, g_1, g_2, g_3, g_4, g_5, g_327, g_328, g_329, g_330, g_331, g_332, g_333, g_334, g_335, g_336, g_337, g_338, g_339, g_340, g_341, g_342, g_343, g_464, g_465, g_466, g_484, g_485, g_486, g_487, g_488, g_489, g_490, g_491, g_492, g_493, g_494, g_495, g_496, g_497, g_498, g_499, g_500, g_501, g_562, g_563, g_564, g_565, g_566, g_567, g_568, g_574, g_580, g_581, g_582, g_583, g_584, g_585, g_586, g_587, g_588, g_589, g_590, g_591, g_592, g_600, g_601, g_602, g_603, g_604, g_605, g_606, g_607, g_608, g_609, g_610, g_611, g_612, g_613, g_614, g_615, g_616, g_617, g_618, g_619, g_620, g_621, g_622, g_623, g_624, g_625, g_626, g_627, g_628, g_629, g_630, g_631, g_632, g_633, g_634, g_635, g_636, g_637, g_638, g_639, g_640, g_641, g_642, g_643, g_644, g_645, g_646, g_647, g_648, g_649, g_650, g_651, g_652, g_653, g_654, g_655, g_656, g_657, g_658, g_659, g_660, g_661, g_662, g_0_0, g_0_1, g_0_2, g_0_3, g_0_4, g_0_5, g_0_6, g_0_7, g_0_8, g_0_9, g_0_10, g_0_11, g_1_0, g_3_0, g_327_0, g_327_1, g_327_2, g_327_3, g_328_0, g_330_0, g_332_0, g_334_0, g_336_0, g_336_1, g_336_2, g_336_3, g_337_0, g_339_0, g_341_0, g_464_0, g_464_1, g_484_0, g_484_1, g_484_2, g_485_0, g_487_0, g_489_0, g_491_0, g_491_1, g_491_2, g_491_3, g_491_4, g_491_5, g_491_6, g_491_7, g_496_0, g_498_0, g_500_0, g_500_1, g_500_3, g_500_4, g_500_5, g_500_6, g_500_7, g_562_0, g_564_0, g_566_0, g_580_0, g_580_1, g_580_2, g_580_3, g_581_0, g_583_0, g_585_0, g_588_1, g_588_2, g_588_3, g_588_4, g_588_6, g_601_0, g_601_1, g_601_2, g_601_3, g_601_4, g_601_5, g_601_6, g_601_7, g_601_8, g_608_0, g_610_0, g_612_0, g_612_2, g_612_4, g_612_5, g_612_7, g_612_8, g_612_9, g_612_10, g_612_11, g_612_12, g_612_13, g_612_14, g_612_15, g_612_16, g_612_19, g_612_20, g_612_22, g_612_24, g_612_25, g_612_26, g_612_27, g_612_28, g_612_30, g_612_31, g_612_32, g_612_33, g_612_34, g_612_36, g_612_37, g_612_38, g_612_39, g_612_40, g_612_41, g_612_42, g_612_43, g_612_44, g_612_46, g_612_47, g_612_48, g_612_49, g_612_50, g_612_53, g_612_56, g_612_57, g_612_58, g_612_59, g_612_61, g_612_62, g_612_63, g_612_64, ixb]
      refine ⟨by omega, ixc, ?_⟩
      rw [m92, ← hξ]
      unfold Z5_follow_38
      rcases hb with ⟨hb0, hb1⟩ | ⟨hb0, hb1, hb2⟩
      · obtain ⟨M, hM⟩ : ∃ M, NN = M + 1 := ⟨NN - 1, by unfold NN; rfl⟩
        rw [hM, lp_succ]
        generalize lp (fun _ _ _ _ _ => none) (Z5_follow_38B kdG0) M = L
        unfold Z5_follow_38B
        simp only [Wz_rt, Wz_cnd, Wz_lI, Wz_lW, Wz_lL, Wz_cl, Wz_cv, Wz_nz, Wz_gI, Wz_gR, Wz_sI, Wz_aI, Wz_aZ, Wz_aL, Wz_aN, Wz_aR, Wz_tI, Wz_tZ, Wz_tL, Option.some.injEq, exists_eq_left', zB_0, zB_1, true_and, and_true, true_implies, not_true_eq_false, false_implies, not_false_eq_true, Classical.not_not, g_0, g_1, g_2, g_3, g_4, g_5, g_327, g_328, g_329, g_330, g_331, g_332, g_333, g_334, g_335, g_336, g_337, g_338, g_339, g_340, g_341, g_342, g_343, g_464, g_465, g_466, g_484, g_485, g_486, g_487, g_488, g_489, g_490, g_491, g_492, g_493, g_494, g_495, g_496, g_497, g_498, g_499, g_500, g_501, g_562, g_563, g_564, g_565, g_566, g_567, g_568, g_574, g_580, g_581, g_582, g_583, g_584, g_585, g_586, g_587, g_588, g_589, g_590, g_591, g_592, g_600, g_601, g_602, g_603, g_604, g_605, g_606, g_607, g_608, g_609, g_610, g_611, g_612, g_613, g_614, g_615, g_616, g_617, g_618, g_619, g_620, g_621, g_622, g_623, g_624, g_625, g_626, g_627, g_628, g_629, g_630, g_631, g_632, g_633, g_634, g_635, g_636, g_637, g_638, g_639, g_640, g_641, g_642, g_643, g_644, g_645, g_646, g_647, g_648, g_649, g_650, g_651, g_652, g_653, g_654, g_655, g_656, g_657, g_658, g_659, g_660, g_661, g_662, g_0_0, g_0_1, g_0_2, g_0_3, g_0_4, g_0_5, g_0_6, g_0_7, g_0_8, g_0_9, g_0_10, g_0_11, g_1_0, g_3_0, g_327_0, g_327_1, g_327_2, g_327_3, g_328_0, g_330_0, g_332_0, g_334_0, g_336_0, g_336_1, g_336_2, g_336_3, g_337_0, g_339_0, g_341_0, g_464_0, g_464_1, g_484_0, g_484_1, g_484_2, g_485_0, g_487_0, g_489_0, g_491_0, g_491_1, g_491_2, g_491_3, g_491_4, g_491_5, g_491_6, g_491_7, g_496_0, g_498_0, g_500_0, g_500_1, g_500_3, g_500_4, g_500_5, g_500_6, g_500_7, g_562_0, g_564_0, g_566_0, g_580_0, g_580_1, g_580_2, g_580_3, g_581_0, g_583_0, g_585_0, g_588_1, g_588_2, g_588_3, g_588_4, g_588_6, g_601_0, g_601_1, g_601_2, g_601_3, g_601_4, g_601_5, g_601_6, g_601_7, g_601_8, g_608_0, g_610_0, g_612_0, g_612_2, g_612_4, g_612_5, g_612_7, g_612_8, g_612_9, g_612_10, g_612_11, g_612_12, g_612_13, g_612_14, g_612_15, g_612_16, g_612_19, g_612_20, g_612_22, g_612_24, g_612_25, g_612_26, g_612_27, g_612_28, g_612_30, g_612_31, g_612_32, g_612_33, g_612_34, g_612_36, g_612_37, g_612_38, g_612_39, g_612_40, g_612_41, g_612_42, g_612_43, g_612_44, g_612_46, g_612_47, g_612_48, g_612_49, g_612_50, g_612_53, g_612_56, g_612_57, g_612_58, g_612_59, g_612_61, g_612_62, g_612_63, g_612_64]
        refine ⟨fun _ => ⟨fun _ => q0 ξ hLx (fun ⟨j, S, P, hj, h⟩ => ?_), fun z => absurd (show b ≤ 0 by omega) z⟩, fun z => absurd (show b ≤ 0 by omega) z⟩
        cases j with
        | zero => exact no0 ⟨S, P, h⟩
        | succ j =>
          have e := hb1 ((j + 1 : Nat) : Int) (by omega) (by omega)
          exact (eb (j + 1) hj).2.2 e ⟨S, P, h⟩
      · have hbE := (eb b.toNat (by omega)).2.1
        rw [show ((b.toNat : Nat) : Int) = b by omega] at hbE
        have hbE := hbE hb1
        have hbR : (ptW τ ts).bR 4 0 3 (ρ.1 492 (ixP 0 b 3)) (ρ.1 493 (ixP 0 b 3)) b.toNat := by
          refine ⟨⟨by omega, hbE.1⟩, fun j S' P' hj h => ?_⟩
          cases j with
          | zero => exact absurd ⟨S', P', h⟩ no0
          | succ j =>
            have f := eb (j + 1) hj
            have nz : ¬ρ.1 492 (ixP 0 ((j + 1 : Nat) : Int) 3) = 1000000000 := fun z => f.2.2 z ⟨S', P', h⟩
            have c1 := hb2 ((j + 1 : Nat) : Int) (by omega) (by omega) nz
            have c2 := (f.2.1 nz).2 S' P' h
            omega
        have hDx : doneE τ ts ξ 0 := fun p k t a1 a2 a3 a4 a5 a6 => by
          have q := hD p k t a1 a2 a3 a4 a5 a6
          unfold entE fstE at *
          rw [fx 492 _ (by omega), fx 493 _ (by omega), fx 494 _ (by omega), fx 495 _ (by omega)]
          exact q
        have s6 : ξ.1 496 1 = ((0 : Nat) : Int) := by rw [hξ]; simp only [v2_eq, Nat.reduceEqDiff, false_and, reduceIte, and_self]; rfl
        have s8 : ξ.1 498 1 = ((0 : Nat) : Int) := by rw [hξ]; simp only [v2_eq, Nat.reduceEqDiff, false_and, reduceIte, and_self]; rfl
        have s18 : ξ.1 491 8 = ρ.1 492 (ixP 0 b 3) := by rw [hξ]; dsimp only; exact v2_self _ _ _ _
        have q := W5_fo_38 (Q := fun _ τ'' => (b ≤ 0 → Q 0 τ'') ∧ (¬b ≤ 0 → Q 1 τ'')) hI hLx hDx b.toNat NN 0 0 3 _ _ ξ (by unfold NN; omega) (by omega) (by omega) (by omega) (by omega) (by omega) (by omega) hbE (fun _ _ _ => rfl) s6 s8 (fun ζ ps z1 z2 z3 z4 z5 z6 z7 => ⟨fun z => by omega, fun _ => q1 ζ (fun a x z => (z1 a x (fun q => z (md_20 (by omega)))).trans (hLx a x z)) ⟨ps, _, _, b.toNat, hbR, z2, z3, by omega, by rw [z1 491 8 (by omega), s18], by rw [z4]; omega, by rw [z5]; omega, fun i hi => by
          have q := z7 i hi
          rw [Nat.zero_add] at q
          exact q⟩⟩)
        rw [show ((b.toNat : Nat) : Int) = b by omega] at q
        exact q
  have g15 : ∀ (N : Nat) (p : Int) (ρ : kzM), -1 ≤ p → p < τ.1 1 1 → p + 2 ≤ N → tabL τ ρ → doneE τ ts ρ (p + 1) → rawE ρ (p + 1) → Wz (lp (fun _ _ _ _ _ => none) (Z5_find_15B kdG0) N 491 1 ts p) ρ Q := by
    intro N
    induction N with
    | zero => intro p; intros; omega
    | succ N ih =>
      intro p ρ p0 p1 pN hL hD hR
      rw [lp_succ]
      have ih' := ih (p - 1)
      generalize lp (fun _ _ _ _ _ => none) (Z5_find_15B kdG0) N = L at ih' ⊢
      unfold Z5_find_15B
      simp only [Z5_find_89, Wz_rt, Wz_cnd, Wz_lI, Wz_lW, Wz_lL, Wz_cl, Wz_cv, Wz_nz, Wz_gI, Wz_gR, Wz_sI, Wz_aI, Wz_aZ, Wz_aL, Wz_aN, Wz_aR, Wz_tI, Wz_tZ, Wz_tL, Option.some.injEq, exists_eq_left', zB_0, zB_1, true_and, and_true, true_implies, not_true_eq_false, false_implies, not_false_eq_true, Classical.not_not, g_0, g_1, g_2, g_3, g_4, g_5, g_327, g_328, g_329, g_330, g_331, g_332, g_333, g_334, g_335, g_336, g_337, g_338, g_339, g_340, g_341, g_342, g_343, g_464, g_465, g_466, g_484, g_485, g_486, g_487, g_488, g_489, g_490, g_491, g_492, g_493, g_494, g_495, g_496, g_497, g_498, g_499, g_500, g_501, g_562, g_563, g_564, g_565, g_566, g_567, g_568, g_574, g_580, g_581, g_582, g_583, g_584, g_585, g_586, g_587, g_588, g_589, g_590, g_591, g_592, g_600, g_601, g_602, g_603, g_604, g_605, g_606, g_607, g_608, g_609, g_610, g_611, g_612, g_613, g_614, g_615, g_616, g_617, g_618, g_619, g_620, g_621, g_622, g_623, g_624, g_625, g_626, g_627, g_628, g_629, g_630, g_631, g_632, g_633, g_634, g_635, g_636, g_637, g_638, g_639, g_640, g_641, g_642, g_643, g_644, g_645, g_646, g_647, g_648, g_649, g_650, g_651, g_652, g_653, g_654, g_655, g_656, g_657, g_658, g_659, g_660, g_661, g_662, g_0_0, g_0_1, g_0_2, g_0_3, g_0_4, g_0_5, g_0_6, g_0_7, g_0_8, g_0_9, g_0_10, g_0_11, g_1_0, g_3_0, g_327_0, g_327_1, g_327_2, g_327_3, g_328_0, g_330_0, g_332_0, g_334_0, g_336_0, g_336_1, g_336_2, g_336_3, g_337_0, g_339_0, g_341_0, g_464_0, g_464_1, g_484_0, g_484_1, g_484_2, g_485_0, g_487_0, g_489_0, g_491_0, g_491_1, g_491_2, g_491_3, g_491_4, g_491_5, g_491_6, g_491_7, g_496_0, g_498_0, g_500_0, g_500_1, g_500_3, g_500_4, g_500_5, g_500_6, g_500_7, g_562_0, g_564_0, g_566_0, g_580_0, g_580_1, g_580_2, g_580_3, g_581_0, g_583_0, g_585_0, g_588_1, g_588_2, g_588_3, g_588_4, g_588_6, g_601_0, g_601_1, g_601_2, g_601_3, g_601_4, g_601_5, g_601_6, g_601_7, g_601_8, g_608_0, g_610_0, g_612_0, g_612_2, g_612_4, g_612_5, g_612_7, g_612_8, g_612_9, g_612_10, g_612_11, g_612_12, g_612_13, g_612_14, g_612_15, g_612_16, g_612_19, g_612_20, g_612_22, g_612_24, g_612_25, g_612_26, g_612_27, g_612_28, g_612_30, g_612_31, g_612_32, g_612_33, g_612_34, g_612_36, g_612_37, g_612_38, g_612_39, g_612_40, g_612_41, g_612_42, g_612_43, g_612_44, g_612_46, g_612_47, g_612_48, g_612_49, g_612_50, g_612_53, g_612_56, g_612_57, g_612_58, g_612_59, g_612_61, g_612_62, g_612_63, g_612_64]
      refine ⟨fun c => ?_, fun c => ?_⟩
      · rw [show p + 1 = 0 by omega] at hD
        exact fin ρ hL hD
      · unfold Z5_find_22
        refine W5_fd_22 hI (by omega) p1 hL hD (fun ζ z1 z2 => ?_) NN 0 ρ (by omega) (by omega) (by unfold NN; omega) (fun _ _ _ _ => rfl) (fun k' t' a1 a2 a3 a4 => ?_)
        · refine ih' ζ (by omega) (by omega) (by omega) (hL.onE z1) ?_ (fun x x0 x1 => ?_)
          · rw [show p - 1 + 1 = p by omega]
            exact rowE_done hI (by omega) p1 hD z1 (fun t t0 t1 => (hR _ (by unfold ixP; omega) (by unfold ixP; omega)).1) z2
          · have := hR x x0 (by omega)
            rw [z1 492 x (by omega) (by omega), z1 493 x (by omega) (by omega)]
            exact this
        · have q := hR (ixP p k' t') (by unfold ixP; omega) (by unfold ixP; omega)
          refine Or.inl ⟨q.1, q.2, fun w l S' P' d v => ?_⟩
          have cc := ptW_cd.1 v.1
          rw [if_neg (by omega)] at d
          unfold dnP at d
          omega
  unfold Z5_find Z5_find_15
  simp only [W_size r_1, W_isEmpty r_1, W_isFull r_1, W_has r_1, W_clear r_1, W_size r_3, W_isEmpty r_3, W_isFull r_3, W_has r_3, W_clear r_3, W_size r_328, W_isEmpty r_328, W_isFull r_328, W_has r_328, W_clear r_328, W_size r_330, W_isEmpty r_330, W_isFull r_330, W_has r_330, W_clear r_330, W_size r_332, W_isEmpty r_332, W_isFull r_332, W_has r_332, W_clear r_332, W_size r_334, W_isEmpty r_334, W_isFull r_334, W_has r_334, W_clear r_334, W_size r_337, W_isEmpty r_337, W_isFull r_337, W_has r_337, W_clear r_337, W_size r_339, W_isEmpty r_339, W_isFull r_339, W_has r_339, W_clear r_339, W_size r_341, W_isEmpty r_341, W_isFull r_341, W_has r_341, W_clear r_341, W_size r_485, W_isEmpty r_485, W_isFull r_485, W_has r_485, W_clear r_485, W_size r_487, W_isEmpty r_487, W_isFull r_487, W_has r_487, W_clear r_487, W_size r_489, W_isEmpty r_489, W_isFull r_489, W_has r_489, W_clear r_489, W_size r_496, W_isEmpty r_496, W_isFull r_496, W_has r_496, W_clear r_496, W_size r_498, W_isEmpty r_498, W_isFull r_498, W_has r_498, W_clear r_498, W_size r_562, W_isEmpty r_562, W_isFull r_562, W_has r_562, W_clear r_562, W_size r_564, W_isEmpty r_564, W_isFull r_564, W_has r_564, W_clear r_564, W_size r_566, W_isEmpty r_566, W_isFull r_566, W_has r_566, W_clear r_566, W_size r_581, W_isEmpty r_581, W_isFull r_581, W_has r_581, W_clear r_581, W_size r_583, W_isEmpty r_583, W_isFull r_583, W_has r_583, W_clear r_583, W_size r_585, W_isEmpty r_585, W_isFull r_585, W_has r_585, W_clear r_585, W_size r_608, W_isEmpty r_608, W_isFull r_608, W_has r_608, W_clear r_608, W_size r_610, W_isEmpty r_610, W_isFull r_610, W_has r_610, W_clear r_610, Wz_rt, Wz_cnd, Wz_lI, Wz_lW, Wz_lL, Wz_cl, Wz_cv, Wz_nz, Wz_gI, Wz_gR, Wz_sI, Wz_aI, Wz_aZ, Wz_aL, Wz_aN, Wz_aR, Wz_tI, Wz_tZ, Wz_tL, Option.some.injEq, exists_eq_left', zB_0, zB_1, true_and, and_true, true_implies, not_true_eq_false, false_implies, not_false_eq_true, Classical.not_not, g_0, g_1, g_2, g_3, g_4, g_5, g_327, g_328, g_329, g_330, g_331, g_332, g_333, g_334, g_335, g_336, g_337, g_338, g_339, g_340, g_341, g_342, g_343, g_464, g_465, g_466, g_484, g_485, g_486, g_487, g_488, g_489, g_490, g_491, g_492, g_493, g_494, g_495, g_496, g_497, g_498, g_499, g_500, g_501, g_562, g_563, g_564, g_565, g_566, g_567, g_568, g_574, g_580, g_581, g_582, g_583, g_584, g_585, g_586, g_587, g_588, g_589, g_590, g_591, g_592, g_600, g_601, g_602, g_603, g_604, g_605, g_606, g_607, g_608, g_609, g_610, g_611, g_612, g_613, g_614, g_615, g_616, g_617, g_618, g_619, g_620, g_621, g_622, g_623, g_624, g_625, g_626, g_627, g_628, g_629, g_630, g_631, g_632, g_633, g_634, g_635, g_636, g_637, g_638, g_639, g_640, g_641, g_642, g_643, g_644, g_645, g_646, g_647, g_648, g_649, g_650, g_651, g_652, g_653, g_654, g_655, g_656, g_657, g_658, g_659, g_660, g_661, g_662, g_0_0, g_0_1, g_0_2, g_0_3, g_0_4, g_0_5, g_0_6, g_0_7, g_0_8, g_0_9, g_0_10, g_0_11, g_1_0, g_3_0, g_327_0, g_327_1, g_327_2, g_327_3, g_328_0, g_330_0, g_332_0, g_334_0, g_336_0, g_336_1, g_336_2, g_336_3, g_337_0, g_339_0, g_341_0, g_464_0, g_464_1, g_484_0, g_484_1, g_484_2, g_485_0, g_487_0, g_489_0, g_491_0, g_491_1, g_491_2, g_491_3, g_491_4, g_491_5, g_491_6, g_491_7, g_496_0, g_498_0, g_500_0, g_500_1, g_500_3, g_500_4, g_500_5, g_500_6, g_500_7, g_562_0, g_564_0, g_566_0, g_580_0, g_580_1, g_580_2, g_580_3, g_581_0, g_583_0, g_585_0, g_588_1, g_588_2, g_588_3, g_588_4, g_588_6, g_601_0, g_601_1, g_601_2, g_601_3, g_601_4, g_601_5, g_601_6, g_601_7, g_601_8, g_608_0, g_610_0, g_612_0, g_612_2, g_612_4, g_612_5, g_612_7, g_612_8, g_612_9, g_612_10, g_612_11, g_612_12, g_612_13, g_612_14, g_612_15, g_612_16, g_612_19, g_612_20, g_612_22, g_612_24, g_612_25, g_612_26, g_612_27, g_612_28, g_612_30, g_612_31, g_612_32, g_612_33, g_612_34, g_612_36, g_612_37, g_612_38, g_612_39, g_612_40, g_612_41, g_612_42, g_612_43, g_612_44, g_612_46, g_612_47, g_612_48, g_612_49, g_612_50, g_612_53, g_612_56, g_612_57, g_612_58, g_612_59, g_612_61, g_612_62, g_612_63, g_612_64]
  refine W5_start hI (fun _ _ _ => rfl) ts fun ρ r1 r2 r3 => ?_
  rw [r1 1 1 (by decide)]
  refine ⟨by omega, g15 NN (τ.1 1 1 - 1) ρ (by omega) (by omega) (by unfold NN; omega) r1 ?_ ?_⟩
  · rw [show τ.1 1 1 - 1 + 1 = τ.1 1 1 by omega]; exact r2
  · rw [show τ.1 1 1 - 1 + 1 = τ.1 1 1 by omega]; exact r3
