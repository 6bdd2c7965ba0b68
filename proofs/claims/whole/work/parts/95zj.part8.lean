/-! parting: the class's answer -/
set_option maxRecDepth 100000 in
theorem W5_start {τ σ : kzM} (hI : Inv τ) (hL : tabL τ σ) (ts : Int) {Q : Unit → kzM → Prop} (hQ : ∀ ρ : kzM, tabL τ ρ → doneE τ ts ρ (τ.1 1 1) → rawE ρ (τ.1 1 1) → Q () ρ) : Wz (Z5_start kdG0 491 (τ.1 1 1)) σ Q := by
  have i1 := hI.1
  unfold I1 at i1
  have g32 : ∀ (N : Nat) (t : Int) (ρ : kzM), 0 ≤ t → t ≤ 3 → 4 - t < N → tabL τ ρ → (∀ x : Int, 0 ≤ x → x < 340 → ρ.1 493 x = 1 ∧ ρ.1 492 x = if 20 * τ.1 1 1 ≤ x ∧ x < 20 * τ.1 1 1 + t then 0 else 1000000000) → Wz (lp (fun _ _ _ _ => none) (Z5_start_32B kdG0) N 491 (τ.1 1 1) t) ρ Q := by
    intro N
    induction N with
    | zero => intro t; intros; omega
    | succ N ih =>
      intro t ρ t0 t1 tN hL hx
      rw [lp_succ]
      have ih' := ih (t + 1)
      generalize lp (fun _ _ _ _ => none) (Z5_start_32B kdG0) N = L at ih' ⊢
      have ix0 : (τ.1 1 1 * 5 + 0) * 4 + t = 20 * τ.1 1 1 + t := by omega
      unfold Z5_start_32B
      simp only [Z5_caseOf, Wz_rt, Wz_cnd, Wz_lI, Wz_lW, Wz_lL, Wz_cl, Wz_cv, Wz_nz, Wz_gI, Wz_gR, Wz_sI, Wz_aI, Wz_aZ, Wz_aL, Wz_aN, Wz_aR, Wz_tI, Wz_tZ, Wz_tL, Option.some.injEq, exists_eq_left', zB_0, zB_1, true_and, and_true, true_implies, not_true_eq_false, false_implies, not_false_eq_true, Classical.not_not, g_0, g_1, g_2, g_3, g_4, g_5, g_327, g_328, g_329, g_330, g_331, g_332, g_333, g_334, g_335, g_336, g_337, g_338, g_339, g_340, g_341, g_342, g_343, g_464, g_465, g_466, g_484, g_485, g_486, g_487, g_488, g_489, g_490, g_491, g_492, g_493, g_494, g_495, g_496, g_497, g_498, g_499, g_500, g_501, g_562, g_563, g_564, g_565, g_566, g_567, g_568, g_574, g_580, g_581, g_582, g_583, g_584, g_585, g_586, g_587, g_588, g_589, g_590, g_591, g_592, g_600, g_601, g_602, g_603, g_604, g_605, g_606, g_607, g_608, g_609, g_610, g_611, g_612, g_613, g_614, g_615, g_616, g_617, g_618, g_619, g_620, g_621, g_622, g_623, g_624, g_625, g_626, g_627, g_628, g_629, g_630, g_631, g_632, g_633, g_634, g_635, g_636, g_637, g_638, g_639, g_640, g_641, g_642, g_643, g_644, g_645, g_646, g_647, g_648, g_649, g_650, g_651, g_652, g_653, g_654, g_655, g_656, g_657, g_658, g_659, g_660, g_661, g_662, g_0_0, g_0_1, g_0_2, g_0_3, g_0_4, g_0_5, g_0_6, g_0_7, g_0_8, g_0_9, g_0_10, g_0_11, g_1_0, g_3_0, g_327_0, g_327_1, g_327_2, g_327_3, g_328_0, g_330_0, g_332_0, g_334_0, g_336_0, g_336_1, g_336_2, g_336_3, g_337_0, g_339_0, g_341_0, g_464_0, g_464_1, g_484_0, g_484_1, g_484_2, g_485_0, g_487_0, g_489_0, g_491_0, g_491_1, g_491_2, g_491_3, g_491_4, g_491_5, g_491_6, g_491_7, g_496_0, g_498_0, g_500_0, g_500_1, g_500_3, g_500_4, g_500_5, g_500_6, g_500_7, g_562_0, g_564_0, g_566_0, g_580_0, g_580_1, g_580_2, g_580_3, g_581_0, g_583_0, g_585_0, g_588_1, g_588_2, g_588_3, g_588_4, g_588_6, g_601_0, g_601_1, g_601_2, g_601_3, g_601_4, g_601_5, g_601_6, g_601_7, g_601_8, g_608_0, g_610_0, g_612_0, g_612_2, g_612_4, g_612_5, g_612_7, g_612_8, g_612_9, g_612_10, g_612_11, g_612_12, g_612_13, g_612_14, g_612_15, g_612_16, g_612_19, g_612_20, g_612_22, g_612_24, g_612_25, g_612_26, g_612_27, g_612_28, g_612_30, g_612_31, g_612_32, g_612_33, g_612_34, g_612_36, g_612_37, g_612_38, g_612_39, g_612_40, g_612_41, g_612_42, g_612_43, g_612_44, g_612_46, g_612_47, g_612_48, g_612_49, g_612_50, g_612_53, g_612_56, g_612_57, g_612_58, g_612_59, g_612_61, g_612_62, g_612_63, g_612_64, ix0]
      refine ⟨fun c => ?_, fun c => ⟨by omega, by omega, by omega, ih' _ (by omega) (by omega) (by omega) (fun a x z => ?_) (fun x x0 x1 => ?_)⟩⟩
      · have et : t = 3 := by omega
        subst et
        refine hQ ρ hL (fun p k t' a1 a2 a3 a4 a5 a6 => ⟨?_, fun z => by omega⟩) (fun x x0 x1 => ?_)
        · have ep : p = τ.1 1 1 := by omega
          have q := hx (ixP p k t') (by unfold ixP; omega) (by unfold ixP; omega)
          cases k with
          | zero =>
            have e2 : ρ.1 492 (ixP p ((0 : Nat) : Int) t') = 0 := by rw [q.2, if_pos (by unfold ixP; have := a6 ep; omega)]
            refine Or.inl ?_
            rw [e2, q.1]
            refine ⟨⟨ep, rfl, rfl⟩, fun S' P' h => ?_⟩
            have e3 := h.2.1
            have e4 := h.2.2
            omega
          | succ k =>
            refine Or.inr ⟨by rw [q.2, if_neg (by unfold ixP; omega)], fun ⟨S, P, h⟩ => ?_⟩
            rw [ep] at h
            have := (ptW τ ts).At_end (ptW_ok hI ts) (k + 1) t' S P h
            omega
        · have q := hx x x0 (by omega)
          exact ⟨by rw [q.2, if_neg (by omega)], q.1⟩
      · dsimp only
        rw [v2_ne _ _ _ _ (fun q => z (by rw [q]; rfl))]
        exact hL a x z
      · have q := hx x x0 x1
        dsimp only
        by_cases y : x = 20 * τ.1 1 1 + t
        · rw [y, v2_self, v2_ne _ _ _ _ (by decide), if_pos (by omega), ← y]
          exact ⟨q.1, rfl⟩
        · rw [v2_nk _ _ _ _ y, v2_nk _ _ _ _ y, q.2]
          refine ⟨q.1, ?_⟩
          by_cases z : 20 * τ.1 1 1 ≤ x ∧ x < 20 * τ.1 1 1 + t
          · rw [if_pos z, if_pos (by omega)]
          · rw [if_neg z, if_neg (by omega)]
  have g2 : ∀ (N : Nat) (i : Int) (ρ : kzM), 0 ≤ i → i ≤ 340 → 341 - i < N → tabL τ ρ → (∀ x : Int, 0 ≤ x → x < i → ρ.1 493 x = 1 ∧ ρ.1 492 x = 1000000000) → Wz (lp (fun _ _ _ _ => none) (Z5_start_2B kdG0) N 491 (τ.1 1 1) i) ρ Q := by
    intro N
    induction N with
    | zero => intro i; intros; omega
    | succ N ih =>
      intro i ρ i0 i1 iN hL hx
      rw [lp_succ]
      have ih' := ih (i + 1)
      generalize lp (fun _ _ _ _ => none) (Z5_start_2B kdG0) N = L at ih' ⊢
      unfold Z5_start_2B
      simp only [Wz_rt, Wz_cnd, Wz_lI, Wz_lW, Wz_lL, Wz_cl, Wz_cv, Wz_nz, Wz_gI, Wz_gR, Wz_sI, Wz_aI, Wz_aZ, Wz_aL, Wz_aN, Wz_aR, Wz_tI, Wz_tZ, Wz_tL, Option.some.injEq, exists_eq_left', zB_0, zB_1, true_and, and_true, true_implies, not_true_eq_false, false_implies, not_false_eq_true, Classical.not_not, g_0, g_1, g_2, g_3, g_4, g_5, g_327, g_328, g_329, g_330, g_331, g_332, g_333, g_334, g_335, g_336, g_337, g_338, g_339, g_340, g_341, g_342, g_343, g_464, g_465, g_466, g_484, g_485, g_486, g_487, g_488, g_489, g_490, g_491, g_492, g_493, g_494, g_495, g_496, g_497, g_498, g_499, g_500, g_501, g_562, g_563, g_564, g_565, g_566, g_567, g_568, g_574, g_580, g_581, g_582, g_583, g_584, g_585, g_586, g_587, g_588, g_589, g_590, g_591, g_592, g_600, g_601, g_602, g_603, g_604, g_605, g_606, g_607, g_608, g_609, g_610, g_611, g_612, g_613, g_614, g_615, g_616, g_617, g_618, g_619, g_620, g_621, g_622, g_623, g_624, g_625, g_626, g_627, g_628, g_629, g_630, g_631, g_632, g_633, g_634, g_635, g_636, g_637, g_638, g_639, g_640, g_641, g_642, g_643, g_644, g_645, g_646, g_647, g_648, g_649, g_650, g_651, g_652, g_653, g_654, g_655, g_656, g_657, g_658, g_659, g_660, g_661, g_662, g_0_0, g_0_1, g_0_2, g_0_3, g_0_4, g_0_5, g_0_6, g_0_7, g_0_8, g_0_9, g_0_10, g_0_11, g_1_0, g_3_0, g_327_0, g_327_1, g_327_2, g_327_3, g_328_0, g_330_0, g_332_0, g_334_0, g_336_0, g_336_1, g_336_2, g_336_3, g_337_0, g_339_0, g_341_0, g_464_0, g_464_1, g_484_0, g_484_1, g_484_2, g_485_0, g_487_0, g_489_0, g_491_0, g_491_1, g_491_2, g_491_3, g_491_4, g_491_5, g_491_6, g_491_7, g_496_0, g_498_0, g_500_0, g_500_1, g_500_3, g_500_4, g_500_5, g_500_6, g_500_7, g_562_0, g_564_0, g_566_0, g_580_0, g_580_1, g_580_2, g_580_3, g_581_0, g_583_0, g_585_0, g_588_1, g_588_2, g_588_3, g_588_4, g_588_6, g_601_0, g_601_1, g_601_2, g_601_3, g_601_4, g_601_5, g_601_6, g_601_7, g_601_8, g_608_0, g_610_0, g_612_0, g_612_2, g_612_4, g_612_5, g_612_7, g_612_8, g_612_9, g_612_10, g_612_11, g_612_12, g_612_13, g_612_14, g_612_15, g_612_16, g_612_19, g_612_20, g_612_22, g_612_24, g_612_25, g_612_26, g_612_27, g_612_28, g_612_30, g_612_31, g_612_32, g_612_33, g_612_34, g_612_36, g_612_37, g_612_38, g_612_39, g_612_40, g_612_41, g_612_42, g_612_43, g_612_44, g_612_46, g_612_47, g_612_48, g_612_49, g_612_50, g_612_53, g_612_56, g_612_57, g_612_58, g_612_59, g_612_61, g_612_62, g_612_63, g_612_64]
      refine ⟨fun c => ?_, fun c => ⟨by omega, by omega, by omega, ih' _ (by omega) (by omega) (by omega) (fun a x z => ?_) (fun x x0 x1 => ?_)⟩⟩
      · unfold Z5_start_32
        refine g32 NN 0 ρ (by omega) (by omega) (by unfold NN; omega) hL (fun x x0 x1 => ?_)
        have q := hx x x0 (by omega)
        exact ⟨q.1, by rw [q.2, if_neg (by omega)]⟩
      · dsimp only
        rw [v2_ne _ _ _ _ (fun q => z (by rw [q]; rfl)), v2_ne _ _ _ _ (fun q => z (by rw [q]; rfl))]
        exact hL a x z
      · dsimp only
        by_cases y : x = i
        · rw [y, v2_self, v2_ne _ _ _ _ (by decide), v2_self]
          exact ⟨rfl, rfl⟩
        · rw [v2_nk _ _ _ _ y, v2_ne _ _ _ _ (by decide), v2_ne _ _ _ _ (by decide), v2_nk _ _ _ _ y]
          exact hx x x0 (by omega)
  unfold Z5_start Z5_start_2
  exact g2 NN 0 σ (by omega) (by omega) (by unfold NN; omega) hL (fun x a b => by omega)
/-- the best of all numbers of pieces so far -/
def bstN (ρ : kzM) (b k : Int) : Prop := (b = 0 ∧ ∀ j : Int, 1 ≤ j → j < k → ρ.1 492 (ixP 0 j 3) = 1000000000) ∨ ((1 ≤ b ∧ b < k) ∧ ¬ρ.1 492 (ixP 0 b 3) = 1000000000 ∧ ∀ j : Int, 1 ≤ j → j < k → ¬ρ.1 492 (ixP 0 j 3) = 1000000000 → ρ.1 492 (ixP 0 b 3) < ρ.1 492 (ixP 0 j 3) ∨ (ρ.1 492 (ixP 0 b 3) = ρ.1 492 (ixP 0 j 3) ∧ (ρ.1 493 (ixP 0 j 3) < ρ.1 493 (ixP 0 b 3) ∨ (ρ.1 493 (ixP 0 j 3) = ρ.1 493 (ixP 0 b 3) ∧ b ≤ j))))
set_option maxRecDepth 100000 in
theorem W5_bestN {ρ : kzM} (hb : ∀ j : Int, 1 ≤ j → j ≤ 4 → ρ.1 492 (ixP 0 j 3) ≤ 1000000000) {Q : Int → kzM → Prop} (hQ : ∀ b, bstN ρ b 5 → Q b ρ) : Wz (Z5_bestNumberOfPieces kdG0 491) ρ Q := by
  have go : ∀ (N : Nat) (k b : Int), 1 ≤ k → k ≤ 5 → 6 - k < N → bstN ρ b k → Wz (lp (fun _ _ _ _ => none) (Z5_bestNumberOfPieces_4B kdG0) N 491 b k) ρ Q := by
    intro N
    induction N with
    | zero => intro k; intros; omega
    | succ N ih =>
      intro k b k0 k1 kN h
      rw [lp_succ]
      have ih' := ih (k + 1)
      generalize lp (fun _ _ _ _ => none) (Z5_bestNumberOfPieces_4B kdG0) N = L at ih' ⊢
      have ix0 : (0 * 5 + k) * 4 + 3 = ixP 0 k 3 := by unfold ixP; omega
      have ixb : (0 * 5 + b) * 4 + 3 = ixP 0 b 3 := by unfold ixP; omega
      have e0 : k ≤ 4 → 0 ≤ ixP 0 k 3 ∧ ixP 0 k 3 < 340 := fun z => by unfold ixP; omega
      have bb : 0 ≤ b ∧ b < k := by rcases h with h | h <;> omega
      have e1 : 0 ≤ ixP 0 b 3 ∧ ixP 0 b 3 < 340 := by unfold ixP; omega
      unfold Z5_bestNumberOfPieces_4B
      simp only [Z5_bestNumberOfPieces_58, Z5_bestNumberOfPieces_56, Z5_caseOf, Wz_rt, Wz_cnd, Wz_lI, Wz_lW, Wz_lL, Wz_cl, Wz_cv, Wz_nz, Wz_gI, Wz_gR, Wz_sI, Wz_aI, Wz_aZ, Wz_aL, Wz_aN, Wz_aR, Wz_tI, Wz_tZ, Wz_tL, Option.some.injEq, exists_eq_left', zB_0, zB_1, true_and, and_true, true_implies, not_true_eq_false, false_implies, not_false_eq_true, Classical.not_not, g_0, g_1, g_2, g_3, g_4, g_5, g_327, g_328, g_329, g_330, g_331, g_332, g_333, g_334, g_335, g_336, g_337, g_338, g_339, g_340, g_341, g_342, g_343, g_464, g_465, g_466, g_484, g_485, g_486, g_487, g_488, g_489, g_490, g_491, g_492, g_493, g_494, g_495, g_496, g_497, g_498, g_499, g_500, g_501, g_562, g_563, g_564, g_565, g_566, g_567, g_568, g_574, g_580, g_581, g_582, g_583, g_584, g_585, g_586, g_587, g_588, g_589, g_590, g_591, g_592, g_600, g_601, g_602, g_603, g_604, g_605, g_606, g_607, g_608, g_609, g_610, g_611, g_612, g_613, g_614, g_615, g_616, g_617, g_618, g_619, g_620, g_621, g_622, g_623, g_624, g_625, g_626, g_627, g_628, g_629, g_630, g_631, g_632, g_633, g_634, g_635, g_636, g_637, g_638, g_639, g_640, g_641, g_642, g_643, g_644, g_645, g_646, g_647, g_648, g_649, g_650, g_651, g_652, g_653, g_654, g_655, g_656, g_657, g_658, g_659, g_660, g_661, g_662, g_0_0, g_0_1, g_0_2, g_0_3, g_0_4, g_0_5, g_0_6, g_0_7, g_0_8, g_0_9, g_0_10, g_0_11, g_1_0, g_3_0, g_327_0, g_327_1, g_327_2, g_327_3, g_328_0, g_330_0, g_332_0, g_334_0, g_336_0, g_336_1, g_336_2, g_336_3, g_337_0, g_339_0, g_341_0, g_464_0, g_464_1, g_484_0, g_484_1, g_484_2, g_485_0, g_487_0, g_489_0, g_491_0, g_491_1, g_491_2, g_491_3, g_491_4, g_491_5, g_491_6, g_491_7, g_496_0, g_498_0, g_500_0, g_500_1, g_500_3, g_500_4, g_500_5, g_500_6, g_500_7, g_562_0, g_564_0, g_566_0, g_580_0, g_580_1, g_580_2, g_580_3, g_581_0, g_583_0, g_585_0, g_588_1, g_588_2, g_588_3, g_588_4, g_588_6, g_601_0, g_601_1, g_601_2, g_601_3, g_601_4, g_601_5, g_601_6, g_601_7, g_601_8, g_608_0, g_610_0, g_612_0, g_612_2, g_612_4, g_612_5, g_612_7, g_612_8, g_612_9, g_612_10, g_612_11, g_612_12, g_612_13, g_612_14, g_612_15, g_612_16, g_612_19, g_612_20, g_612_22, g_612_24, g_612_25, g_612_26, g_612_27, g_612_28, g_612_30, g_612_31, g_612_32, g_612_33, g_612_34, g_612_36, g_612_37, g_612_38, g_612_39, g_612_40, g_612_41, g_612_42, g_612_43, g_612_44, g_612_46, g_612_47, g_612_48, g_612_49, g_612_50, g_612_53, g_612_56, g_612_57, g_612_58, g_612_59, g_612_61, g_612_62, g_612_63, g_612_64, ix0, ixb]
      refine ⟨fun c => hQ b (by rw [show k = 5 by omega] at h; exact h), fun c => ⟨by have := e0 (by omega); omega, by have := e0 (by omega); omega, fun d => ⟨by omega, ih' b (by omega) (by omega) (by omega) ?_⟩, fun d => ⟨fun e => ⟨by omega, ih' k (by omega) (by omega) (by omega) ?_⟩, fun e => ⟨by have := e0 (by omega); omega, by have := e0 (by omega); omega, by omega, W5_better e1.1 e1.2 ?_⟩⟩⟩⟩
      · have x9 := hb k k0 (by omega)
        rcases h with ⟨h1, h2⟩ | ⟨h1, h2, h3⟩
        · refine Or.inl ⟨h1, fun j j0 j1 => ?_⟩
          by_cases y : j = k
          · rw [y]; omega
          · exact h2 j j0 (by omega)
        · refine Or.inr ⟨by omega, h2, fun j j0 j1 j2 => ?_⟩
          by_cases y : j = k
          · rw [y] at j2; omega
          · exact h3 j j0 (by omega) j2
      · refine Or.inr ⟨by omega, by omega, fun j j0 j1 j2 => ?_⟩
        by_cases y : j = k
        · rw [y]; omega
        · rcases h with ⟨h1, h2⟩ | ⟨h1, h2, h3⟩
          · exact absurd (h2 j j0 (by omega)) j2
          · omega
      · rw [zp_0]
        rcases h with ⟨h1, h2⟩ | ⟨h1, h2, h3⟩
        · omega
        · refine ⟨fun g => ⟨by omega, ih' b (by omega) (by omega) (by omega) (Or.inr ⟨by omega, h2, fun j j0 j1 j2 => ?_⟩)⟩, fun g => ⟨by omega, ih' k (by omega) (by omega) (by omega) (Or.inr ⟨by omega, by omega, fun j j0 j1 j2 => ?_⟩)⟩⟩
          · by_cases y : j = k
            · rw [y]; omega
            · exact h3 j j0 (by omega) j2
          · by_cases y : j = k
            · rw [y]; omega
            · have := h3 j j0 (by omega) j2
              omega
  unfold Z5_bestNumberOfPieces Z5_bestNumberOfPieces_4
  exact go NN 1 0 (by omega) (by omega) (by unfold NN; omega) (Or.inl ⟨rfl, fun j a b => by omega⟩)
/-- a row of pieces, each the first of the best -/
def pthE (D : ptD) : List (Int × Int) → Nat → Int → Int → Prop
  | [], k, _, _ => k = 0
  | (w, l) :: r, k, p, t => ∃ (S P : Int) (k' : Nat), k = k' + 1 ∧ D.bE k p t S P ∧ isLx (fun w l => D.vE k' p t w l S P) w l ∧ pthE D r k' (p + l) (D.tg w)
def pthW (D : ptD) : List (Int × Int) → Nat → Int → Int → Prop
  | [], _, p, _ => p = D.L
  | (w, l) :: r, K, p, t => ∃ (S P : Int) (k' K' : Nat), K = K' + 1 ∧ D.bR K p t S P (k' + 1) ∧ isLx (fun w l => D.vR K' p t w l S P (k' + 1)) w l ∧ pthW D r K' (p + l) (D.tg w)
theorem pth_eq {D : ptD} (ok : D.ok) (hex : ∀ (K : Nat) (p w l : Int), K ≤ 3 → 0 ≤ p → D.cd p w l → ∀ (j : Nat) s q, j ≤ K → D.At j (p + l) (D.tg w) s q → ∃ s' q' m', D.bR K (p + l) (D.tg w) s' q' m') : ∀ (ps qs : List (Int × Int)) (k K : Nat) (p t S P : Int), 0 ≤ p → K ≤ 4 → pthE D ps k p t → D.bR K p t S P k → pthW D qs K p t → ps = qs
  | [], [], _, _, _, _, _, _, _, _, _, _, _ => rfl
  | [], (w, l) :: r, k, K, p, t, S, P, _, _, h1, h2, h3 => by
    obtain ⟨S', P', k', K', _, hb, _, _⟩ := h3
    have := ptD.bR_u h2 hb
    have e : k = 0 := h1
    omega
  | (w, l) :: r, [], k, K, p, t, S, P, _, _, h1, h2, h3 => by
    obtain ⟨S', P', k', e, _, _, _⟩ := h1
    have ep : p = D.L := h3
    rw [ep] at h2
    have := ptD.bR_u h2 (D.bR_end ok K t)
    omega
  | (w, l) :: r, (w', l') :: r', k, K, p, t, S, P, p0, K4, h1, h2, h3 => by
    obtain ⟨S1, P1, k1, e1, b1, x1, y1⟩ := h1
    obtain ⟨S2, P2, k2, K2, e2, b2, x2, y2⟩ := h3
    obtain ⟨u1, u2, u3⟩ := ptD.bR_u h2 b2
    subst u1; subst u2
    have kk : k2 = k1 := by omega
    subst kk
    subst e2
    obtain ⟨u4, u5⟩ := ptD.bE_u b1 (ptD.bR_bE h2)
    subst u4; subst u5
    have hx := fun w l hc j s q hj => hex K2 p w l (by omega) p0 hc j s q hj
    obtain ⟨ew, el⟩ := isLx_u (fun x y => D.vER ok b2 hx) x1 x2
    subst ew; subst el
    obtain ⟨hc, s', q', m', hb, _, _, e5⟩ := x2.1
    have em : m' = k2 := by omega
    subst em
    have l1 := (ok _ _ _ hc).1
    rw [pth_eq ok hex r r' m' K2 (p + l) (D.tg w) s' q' (by omega) (by omega) y1 hb y2]
