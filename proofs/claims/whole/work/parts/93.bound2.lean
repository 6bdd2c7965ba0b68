/-! the bound: both sides -/
noncomputable def oS (f : Int → Int) (n : Nat) (r : Int) : Int := @dite Int (∃ x, oSt f n r x) (Classical.propDecidable _) (fun h => Classical.choose h) (fun _ => 0)
theorem oS_eq {f : Int → Int} {n : Nat} {r x : Int} (h : oSt f n r x) : oS f n r = x := by
  unfold oS
  rw [dif_pos ⟨x, h⟩]
  exact oSt_u (Classical.choose_spec (⟨x, h⟩ : ∃ x, oSt f n r x)) h
theorem oS_at {f : Int → Int} {n : Nat} {r : Int} (hf : ∀ j : Int, 0 ≤ j → j < n → 0 ≤ f j ∧ f j ≤ 100) (r0 : 0 ≤ r) (r1 : r < n) : ∃ i : Nat, i < n ∧ rkC f n i = r ∧ f i = oS f n r := by
  obtain ⟨x, hx⟩ := oSt_e (f := f) (n := n) (fun j a b => (hf j a b).1) r0 100 (by
    rw [cn_all (fun j a b => by have := hf j a b; omega)]; exact r1)
  obtain ⟨i, a, b⟩ := rkC_ex hx
  refine ⟨i, a, b, ?_⟩
  have := rkC_st (f := f) a
  rw [b] at this
  exact (oS_eq this).symm
set_option maxRecDepth 100000 in
theorem W3_rk_16 {τ : kzM} {a : Nat} {n i : Nat} {r : Int} (ha : kdG0.1 a = (13, 7)) (h0 : τ.1 588 0 = n) (hn : n ≤ 7) (hi : i < n) {k2 : Nat → Nat → Int → Int → kzM → Option (Int × kzM)} {Q : Int → kzM → Prop} (q1 : rkC (τ.1 a) n i = r → Q (τ.1 a i) τ) (q2 : ¬rkC (τ.1 a) n i = r → Wz (k2 588 a r ((i : Int) + 1)) τ Q) : ∀ (N j : Nat), j ≤ n → n - j < N → Wz (lp (fun _ _ _ _ _ _ _ => none) (Z3_ranked_16B kdG0 k2) N 588 a r (i : Int) (wS (fun j => zp (τ.1 a j < τ.1 a i ∨ (τ.1 a j = τ.1 a i ∧ j < i))) j) (j : Int)) τ Q := by
  intro N
  induction N with
  | zero => intro j; intros; omega
  | succ N ih =>
    intro j j1 j2
    rw [lp_succ]
    generalize lp (fun _ _ _ _ _ _ _ => none) (Z3_ranked_16B kdG0 k2) N = L at ih ⊢
    have cb := cn_b (fun j => τ.1 a j < τ.1 a i ∨ (τ.1 a j = τ.1 a i ∧ j < i)) j
    unfold Z3_ranked_16B
    simp only [Z3_ranked_53, Z3_ranked_57, Z3_ranked_58, Wz_rt, Wz_cnd, Wz_lI, Wz_lW, Wz_lL, Wz_cl, Wz_cv, Wz_nz, Wz_gI, Wz_gR, Wz_sI, Wz_aI, Wz_aZ, Wz_aL, Wz_aN, Wz_aR, Wz_tI, Wz_tZ, Wz_tL, Option.some.injEq, exists_eq_left', zB_0, zB_1, true_and, and_true, true_implies, not_true_eq_false, false_implies, not_false_eq_true, Classical.not_not, g_0, g_1, g_2, g_3, g_4, g_5, g_327, g_328, g_329, g_330, g_331, g_332, g_333, g_334, g_335, g_336, g_337, g_338, g_339, g_340, g_341, g_342, g_343, g_464, g_465, g_466, g_484, g_485, g_486, g_487, g_488, g_489, g_490, g_491, g_492, g_493, g_494, g_495, g_496, g_497, g_498, g_499, g_500, g_501, g_562, g_563, g_564, g_565, g_566, g_567, g_568, g_574, g_580, g_581, g_582, g_583, g_584, g_585, g_586, g_587, g_588, g_589, g_590, g_591, g_592, g_600, g_601, g_602, g_603, g_604, g_605, g_606, g_607, g_608, g_609, g_610, g_611, g_612, g_613, g_614, g_615, g_616, g_617, g_618, g_619, g_620, g_621, g_622, g_623, g_624, g_625, g_626, g_627, g_628, g_629, g_630, g_631, g_632, g_633, g_634, g_635, g_636, g_637, g_638, g_639, g_640, g_641, g_642, g_643, g_644, g_645, g_646, g_647, g_648, g_649, g_650, g_651, g_652, g_653, g_654, g_655, g_656, g_657, g_658, g_659, g_660, g_661, g_662, g_0_0, g_0_1, g_0_2, g_0_3, g_0_4, g_0_5, g_0_6, g_0_7, g_0_8, g_0_9, g_0_10, g_0_11, g_1_0, g_3_0, g_327_0, g_327_1, g_327_2, g_327_3, g_328_0, g_330_0, g_332_0, g_334_0, g_336_0, g_336_1, g_336_2, g_336_3, g_337_0, g_339_0, g_341_0, g_464_0, g_464_1, g_484_0, g_484_1, g_484_2, g_485_0, g_487_0, g_489_0, g_491_0, g_491_1, g_491_2, g_491_3, g_491_4, g_491_5, g_491_6, g_491_7, g_496_0, g_498_0, g_500_0, g_500_1, g_500_3, g_500_4, g_500_5, g_500_6, g_500_7, g_562_0, g_564_0, g_566_0, g_580_0, g_580_1, g_580_2, g_580_3, g_581_0, g_583_0, g_585_0, g_588_1, g_588_2, g_588_3, g_588_4, g_588_6, g_601_0, g_601_1, g_601_2, g_601_3, g_601_4, g_601_5, g_601_6, g_601_7, g_601_8, g_608_0, g_610_0, g_612_0, g_612_2, g_612_4, g_612_5, g_612_7, g_612_8, g_612_9, g_612_10, g_612_11, g_612_12, g_612_13, g_612_14, g_612_15, g_612_16, g_612_19, g_612_20, g_612_22, g_612_24, g_612_25, g_612_26, g_612_27, g_612_28, g_612_30, g_612_31, g_612_32, g_612_33, g_612_34, g_612_36, g_612_37, g_612_38, g_612_39, g_612_40, g_612_41, g_612_42, g_612_43, g_612_44, g_612_46, g_612_47, g_612_48, g_612_49, g_612_50, g_612_53, g_612_56, g_612_57, g_612_58, g_612_59, g_612_61, g_612_62, g_612_63, g_612_64, ha, h0]
    have st : ∀ c, c = zp (τ.1 a j < τ.1 a i ∨ (τ.1 a j = τ.1 a i ∧ (j : Int) < i)) → j < n → Wz (L 588 a r (i : Int) (wS (fun j => zp (τ.1 a j < τ.1 a i ∨ (τ.1 a j = τ.1 a i ∧ j < i))) j + c) ((j : Int) + 1)) τ Q := fun c hc hj => by
      have ih' := ih (j + 1) (by omega) (by omega)
      rw [show ((j + 1 : Nat) : Int) = (j : Int) + 1 by omega] at ih'
      rw [hc]
      exact ih'
    refine ⟨fun c => ?_, fun c => ?_⟩
    · have ej : j = n := by omega
      subst ej
      exact ⟨fun e => ⟨by omega, q1 e⟩, fun e => ⟨by omega, q2 e⟩⟩
    · refine ⟨by omega, by omega, fun d => ⟨by omega, by omega, st 1 ?_ (by omega)⟩, fun d => ⟨by omega, by omega, fun e => ⟨fun g => ⟨by omega, by omega, st 0 ?_ (by omega)⟩, fun g => ⟨by omega, by omega, st 1 ?_ (by omega)⟩⟩, fun e => ⟨by omega, by omega, st 0 ?_ (by omega)⟩⟩⟩
      · rw [zp_pos (Or.inl d)]
      · rw [zp_neg (by omega)]
      · rw [zp_pos (Or.inr ⟨e, by omega⟩)]
      · rw [zp_neg (by omega)]
set_option maxRecDepth 100000 in
theorem W3_rk_2 {τ : kzM} {a : Nat} {n : Nat} {r : Int} (ha : kdG0.1 a = (13, 7)) (h0 : τ.1 588 0 = n) (hn : n ≤ 7) (hf : ∀ j : Int, 0 ≤ j → j < n → 0 ≤ τ.1 a j ∧ τ.1 a j ≤ 100) (r0 : 0 ≤ r) (r1 : r < n) {Q : Int → kzM → Prop} (hQ : Q (oS (τ.1 a) n r) τ) : ∀ (N i : Nat), i ≤ n → n - i < N → (∀ k : Nat, k < i → ¬rkC (τ.1 a) n k = r) → Wz (lp (fun _ _ _ _ _ => none) (Z3_ranked_2B kdG0) N 588 a r (i : Int)) τ Q := by
  intro N
  induction N with
  | zero => intro j; intros; omega
  | succ N ih =>
    intro i i1 i2 hno
    rw [lp_succ]
    generalize lp (fun _ _ _ _ _ => none) (Z3_ranked_2B kdG0) N = L at ih ⊢
    unfold Z3_ranked_2B
    simp only [Wz_rt, Wz_cnd, Wz_lI, Wz_lW, Wz_lL, Wz_cl, Wz_cv, Wz_nz, Wz_gI, Wz_gR, Wz_sI, Wz_aI, Wz_aZ, Wz_aL, Wz_aN, Wz_aR, Wz_tI, Wz_tZ, Wz_tL, Option.some.injEq, exists_eq_left', zB_0, zB_1, true_and, and_true, true_implies, not_true_eq_false, false_implies, not_false_eq_true, Classical.not_not, g_0, g_1, g_2, g_3, g_4, g_5, g_327, g_328, g_329, g_330, g_331, g_332, g_333, g_334, g_335, g_336, g_337, g_338, g_339, g_340, g_341, g_342, g_343, g_464, g_465, g_466, g_484, g_485, g_486, g_487, g_488, g_489, g_490, g_491, g_492, g_493, g_494, g_495, g_496, g_497, g_498, g_499, g_500, g_501, g_562, g_563, g_564, g_565, g_566, g_567, g_568, g_574, g_580, g_581, g_582, g_583, g_584, g_585, g_586, g_587, g_588, g_589, g_590, g_591, g_592, g_600, g_601, g_602, g_603, g_604, g_605, g_606, g_607, g_608, g_609, g_610, g_611, g_612, g_613, g_614, g_615, g_616, g_617, g_618, g_619, g_620, g_621, g_622, g_623, g_624, g_625, g_626, g_627, g_628, g_629, g_630, g_631, g_632, g_633, g_634, g_635, g_636, g_637, g_638, g_639, g_640, g_641, g_642, g_643, g_644, g_645, g_646, g_647, g_648, g_649, g_650, g_651, g_652, g_653, g_654, g_655, g_656, g_657, g_658, g_659, g_660, g_661, g_662, g_0_0, g_0_1, g_0_2, g_0_3, g_0_4, g_0_5, g_0_6, g_0_7, g_0_8, g_0_9, g_0_10, g_0_11, g_1_0, g_3_0, g_327_0, g_327_1, g_327_2, g_327_3, g_328_0, g_330_0, g_332_0, g_334_0, g_336_0, g_336_1, g_336_2, g_336_3, g_337_0, g_339_0, g_341_0, g_464_0, g_464_1, g_484_0, g_484_1, g_484_2, g_485_0, g_487_0, g_489_0, g_491_0, g_491_1, g_491_2, g_491_3, g_491_4, g_491_5, g_491_6, g_491_7, g_496_0, g_498_0, g_500_0, g_500_1, g_500_3, g_500_4, g_500_5, g_500_6, g_500_7, g_562_0, g_564_0, g_566_0, g_580_0, g_580_1, g_580_2, g_580_3, g_581_0, g_583_0, g_585_0, g_588_1, g_588_2, g_588_3, g_588_4, g_588_6, g_601_0, g_601_1, g_601_2, g_601_3, g_601_4, g_601_5, g_601_6, g_601_7, g_601_8, g_608_0, g_610_0, g_612_0, g_612_2, g_612_4, g_612_5, g_612_7, g_612_8, g_612_9, g_612_10, g_612_11, g_612_12, g_612_13, g_612_14, g_612_15, g_612_16, g_612_19, g_612_20, g_612_22, g_612_24, g_612_25, g_612_26, g_612_27, g_612_28, g_612_30, g_612_31, g_612_32, g_612_33, g_612_34, g_612_36, g_612_37, g_612_38, g_612_39, g_612_40, g_612_41, g_612_42, g_612_43, g_612_44, g_612_46, g_612_47, g_612_48, g_612_49, g_612_50, g_612_53, g_612_56, g_612_57, g_612_58, g_612_59, g_612_61, g_612_62, g_612_63, g_612_64, h0]
    refine ⟨fun c => ?_, fun c => ?_⟩
    · obtain ⟨k, a, b, _⟩ := oS_at hf r0 r1
      exact absurd b (hno k (by omega))
    · unfold Z3_ranked_16
      refine W3_rk_16 ha h0 hn (by omega) (fun e => ?_) (fun e => ?_) NN 0 (by omega) (by unfold NN; omega)
      · have := rkC_st (f := τ.1 a) (n := n) (i := i) (by omega)
        rw [e] at this
        rw [← oS_eq this]
        exact hQ
      · have ih' := ih (i + 1) (by omega) (by omega) (fun k hk => by
          by_cases y : k = i
          · rw [y]; exact e
          · exact hno k (by omega))
        rw [show ((i + 1 : Nat) : Int) = (i : Int) + 1 by omega] at ih'
        exact ih'
set_option maxRecDepth 100000 in
theorem W3_ranked {τ : kzM} {a : Nat} {n : Nat} {r : Int} (ha : kdG0.1 a = (13, 7)) (h0 : τ.1 588 0 = n) (hn : n ≤ 7) (hf : ∀ j : Int, 0 ≤ j → j < n → 0 ≤ τ.1 a j ∧ τ.1 a j ≤ 100) (r0 : 0 ≤ r) (r1 : r < n) {Q : Int → kzM → Prop} (hQ : Q (oS (τ.1 a) n r) τ) : Wz (Z3_ranked kdG0 588 a r) τ Q := by
  unfold Z3_ranked Z3_ranked_2
  exact W3_rk_2 ha h0 hn hf r0 r1 hQ NN 0 (by omega) (by unfold NN; omega) (fun k hk => by omega)
/-- the pairs of a place; the bound -/
def prR (τ : kzM) (i j : Int) : Int := if i = j then 0 else prP τ i j
noncomputable def bnP (τ : kzM) (n : Nat) (k : Int) : Int := oS (τ.1 591) n (n - 1 - k) * oS (τ.1 589) n k
theorem prR_b {τ : kzM} (hI : Inv τ) {i j : Int} (i0 : 0 ≤ i) (i1 : i < 7) (j0 : 0 ≤ j) (j1 : j < 7) : 0 ≤ prR τ i j ∧ prR τ i j ≤ 50 := by
  have := prP_b hI i0 i1 j0 j1
  unfold prR
  split <;> omega
theorem lay_f {τ : kzM} (hI : Inv τ) : (∀ j : Int, 0 ≤ j → j < (τ.1 588 0).toNat → 0 ≤ τ.1 591 j ∧ τ.1 591 j ≤ 100) ∧ ∀ j : Int, 0 ≤ j → j < (τ.1 588 0).toNat → 0 ≤ τ.1 589 j ∧ τ.1 589 j ≤ 100 := by
  have i9 := hI.2.2.2.2.2.2.2.2
  unfold I9 at i9
  have s1 := i9.1
  refine ⟨fun j a b => ?_, fun j a b => ?_⟩
  · have := (i9.2.2.1 j a (by omega)).2.2; omega
  · have := (i9.2.2.1 j a (by omega)).1; omega
theorem bnP_b {τ : kzM} (hI : Inv τ) {k : Int} (k0 : 0 ≤ k) (k1 : k < τ.1 588 0) : 0 ≤ bnP τ (τ.1 588 0).toNat k ∧ bnP τ (τ.1 588 0).toNat k ≤ 10000 := by
  obtain ⟨f1, f2⟩ := lay_f hI
  obtain ⟨i, a, _, b⟩ := oS_at f1 (r := (((τ.1 588 0).toNat : Nat) : Int) - 1 - k) (by omega) (by omega)
  obtain ⟨j, c, _, d⟩ := oS_at f2 (r := k) (by omega) (by omega)
  unfold bnP
  rw [← b, ← d]
  exact mul_b (f1 i (by omega) (by omega)) (f2 j (by omega) (by omega))
set_option maxRecDepth 100000 in
theorem W3_lb_43 {τ : kzM} (hI : Inv τ) {i : Nat} (hi : i < (τ.1 588 0).toNat) {acc : Int} (hacc : 0 ≤ acc ∧ acc ≤ 1000000) {k4 : Nat → Int → Int → kzM → Option (Int × kzM)} {Q : Int → kzM → Prop} (hQ : Wz (k4 588 (acc + wS (prR τ i) (τ.1 588 0).toNat) ((i : Int) + 1)) τ Q) : ∀ (N j : Nat), j ≤ (τ.1 588 0).toNat → (τ.1 588 0).toNat - j < N → Wz (lp (fun _ _ _ _ _ => none) (Z3_lowerBound_43B kdG0 k4) N 588 (acc + wS (prR τ i) j) (i : Int) (j : Int)) τ Q := by
  have i9 := hI.2.2.2.2.2.2.2.2
  unfold I9 at i9
  have s1 := i9.1
  intro N
  induction N with
  | zero => intro j; intros; omega
  | succ N ih =>
    intro j j1 j2
    rw [lp_succ]
    generalize lp (fun _ _ _ _ _ => none) (Z3_lowerBound_43B kdG0 k4) N = L at ih ⊢
    obtain ⟨a1, a2⟩ := g_pl (i := (i : Int)) (by omega) (by omega)
    have sb := wS_b (p := prR τ i) (m := 50) j (fun k k0 k1 => prR_b hI (by omega) (by omega) k0 (by omega))
    unfold Z3_lowerBound_43B
    simp only [Z3_lowerBound_69, Wz_rt, Wz_cnd, Wz_lI, Wz_lW, Wz_lL, Wz_cl, Wz_cv, Wz_nz, Wz_gI, Wz_gR, Wz_sI, Wz_aI, Wz_aZ, Wz_aL, Wz_aN, Wz_aR, Wz_tI, Wz_tZ, Wz_tL, Option.some.injEq, exists_eq_left', zB_0, zB_1, true_and, and_true, true_implies, not_true_eq_false, false_implies, not_false_eq_true, Classical.not_not, g_0, g_1, g_2, g_3, g_4, g_5, g_327, g_328, g_329, g_330, g_331, g_332, g_333, g_334, g_335, g_336, g_337, g_338, g_339, g_340, g_341, g_342, g_343, g_464, g_465, g_466, g_484, g_485, g_486, g_487, g_488, g_489, g_490, g_491, g_492, g_493, g_494, g_495, g_496, g_497, g_498, g_499, g_500, g_501, g_562, g_563, g_564, g_565, g_566, g_567, g_568, g_574, g_580, g_581, g_582, g_583, g_584, g_585, g_586, g_587, g_588, g_589, g_590, g_591, g_592, g_600, g_601, g_602, g_603, g_604, g_605, g_606, g_607, g_608, g_609, g_610, g_611, g_612, g_613, g_614, g_615, g_616, g_617, g_618, g_619, g_620, g_621, g_622, g_623, g_624, g_625, g_626, g_627, g_628, g_629, g_630, g_631, g_632, g_633, g_634, g_635, g_636, g_637, g_638, g_639, g_640, g_641, g_642, g_643, g_644, g_645, g_646, g_647, g_648, g_649, g_650, g_651, g_652, g_653, g_654, g_655, g_656, g_657, g_658, g_659, g_660, g_661, g_662, g_0_0, g_0_1, g_0_2, g_0_3, g_0_4, g_0_5, g_0_6, g_0_7, g_0_8, g_0_9, g_0_10, g_0_11, g_1_0, g_3_0, g_327_0, g_327_1, g_327_2, g_327_3, g_328_0, g_330_0, g_332_0, g_334_0, g_336_0, g_336_1, g_336_2, g_336_3, g_337_0, g_339_0, g_341_0, g_464_0, g_464_1, g_484_0, g_484_1, g_484_2, g_485_0, g_487_0, g_489_0, g_491_0, g_491_1, g_491_2, g_491_3, g_491_4, g_491_5, g_491_6, g_491_7, g_496_0, g_498_0, g_500_0, g_500_1, g_500_3, g_500_4, g_500_5, g_500_6, g_500_7, g_562_0, g_564_0, g_566_0, g_580_0, g_580_1, g_580_2, g_580_3, g_581_0, g_583_0, g_585_0, g_588_1, g_588_2, g_588_3, g_588_4, g_588_6, g_601_0, g_601_1, g_601_2, g_601_3, g_601_4, g_601_5, g_601_6, g_601_7, g_601_8, g_608_0, g_610_0, g_612_0, g_612_2, g_612_4, g_612_5, g_612_7, g_612_8, g_612_9, g_612_10, g_612_11, g_612_12, g_612_13, g_612_14, g_612_15, g_612_16, g_612_19, g_612_20, g_612_22, g_612_24, g_612_25, g_612_26, g_612_27, g_612_28, g_612_30, g_612_31, g_612_32, g_612_33, g_612_34, g_612_36, g_612_37, g_612_38, g_612_39, g_612_40, g_612_41, g_612_42, g_612_43, g_612_44, g_612_46, g_612_47, g_612_48, g_612_49, g_612_50, g_612_53, g_612_56, g_612_57, g_612_58, g_612_59, g_612_61, g_612_62, g_612_63, g_612_64, a1, a2]
    refine ⟨fun c => ⟨by omega, ?_⟩, fun c => ?_⟩
    · rw [show j = (τ.1 588 0).toNat by omega]; exact hQ
    · have pb := prR_b hI (i := (i : Int)) (j := (j : Int)) (by omega) (by omega) (by omega) (by omega)
      have ih' := ih (j + 1) (by omega) (by omega)
      rw [show wS (prR τ i) (j + 1) = wS (prR τ i) j + prR τ i j from rfl, ← Int.add_assoc, show ((j + 1 : Nat) : Int) = (j : Int) + 1 by omega] at ih'
      refine ⟨fun d => ?_, fun d => ?_⟩
      · have e : prR τ i j = 0 := if_pos d
        rw [e] at ih'
        exact ⟨by omega, by omega, ih'⟩
      · have e : prR τ i j = prP τ i j := if_neg d
        rw [show τ.1 (593 + (i : Int).toNat) j = prP τ i j from rfl, ← e]
        exact ⟨by omega, by omega, by omega, by omega, ih'⟩
set_option maxRecDepth 100000 in
theorem W3_lb_4 {τ : kzM} (hI : Inv τ) {Q : Int → kzM → Prop} (hQ : Q (wS (fun k => bnP τ (τ.1 588 0).toNat k + wS (prR τ k) (τ.1 588 0).toNat) (τ.1 588 0).toNat) τ) : ∀ (N i : Nat), i ≤ (τ.1 588 0).toNat → (τ.1 588 0).toNat - i < N → Wz (lp (fun _ _ _ _ => none) (Z3_lowerBound_4B kdG0) N 588 (wS (fun k => bnP τ (τ.1 588 0).toNat k + wS (prR τ k) (τ.1 588 0).toNat) i) (i : Int)) τ Q := by
  have i9 := hI.2.2.2.2.2.2.2.2
  unfold I9 at i9
  have s1 := i9.1
  obtain ⟨f1, f2⟩ := lay_f hI
  intro N
  induction N with
  | zero => intro j; intros; omega
  | succ N ih =>
    intro i i1 i2
    rw [lp_succ]
    generalize lp (fun _ _ _ _ => none) (Z3_lowerBound_4B kdG0) N = L at ih ⊢
    have sb := wS_b (p := fun k => bnP τ (τ.1 588 0).toNat k + wS (prR τ k) (τ.1 588 0).toNat) (m := 10000 + 50 * 7) i (fun k k0 k1 => by
      have a := bnP_b hI k0 (by omega)
      have b := wS_b (p := prR τ k) (m := 50) (τ.1 588 0).toNat (fun x x0 x1 => prR_b hI k0 (by omega) x0 (by omega))
      omega)
    unfold Z3_lowerBound_4B
    simp only [Wz_rt, Wz_cnd, Wz_lI, Wz_lW, Wz_lL, Wz_cl, Wz_cv, Wz_nz, Wz_gI, Wz_gR, Wz_sI, Wz_aI, Wz_aZ, Wz_aL, Wz_aN, Wz_aR, Wz_tI, Wz_tZ, Wz_tL, Option.some.injEq, exists_eq_left', zB_0, zB_1, true_and, and_true, true_implies, not_true_eq_false, false_implies, not_false_eq_true, Classical.not_not, g_0, g_1, g_2, g_3, g_4, g_5, g_327, g_328, g_329, g_330, g_331, g_332, g_333, g_334, g_335, g_336, g_337, g_338, g_339, g_340, g_341, g_342, g_343, g_464, g_465, g_466, g_484, g_485, g_486, g_487, g_488, g_489, g_490, g_491, g_492, g_493, g_494, g_495, g_496, g_497, g_498, g_499, g_500, g_501, g_562, g_563, g_564, g_565, g_566, g_567, g_568, g_574, g_580, g_581, g_582, g_583, g_584, g_585, g_586, g_587, g_588, g_589, g_590, g_591, g_592, g_600, g_601, g_602, g_603, g_604, g_605, g_606, g_607, g_608, g_609, g_610, g_611, g_612, g_613, g_614, g_615, g_616, g_617, g_618, g_619, g_620, g_621, g_622, g_623, g_624, g_625, g_626, g_627, g_628, g_629, g_630, g_631, g_632, g_633, g_634, g_635, g_636, g_637, g_638, g_639, g_640, g_641, g_642, g_643, g_644, g_645, g_646, g_647, g_648, g_649, g_650, g_651, g_652, g_653, g_654, g_655, g_656, g_657, g_658, g_659, g_660, g_661, g_662, g_0_0, g_0_1, g_0_2, g_0_3, g_0_4, g_0_5, g_0_6, g_0_7, g_0_8, g_0_9, g_0_10, g_0_11, g_1_0, g_3_0, g_327_0, g_327_1, g_327_2, g_327_3, g_328_0, g_330_0, g_332_0, g_334_0, g_336_0, g_336_1, g_336_2, g_336_3, g_337_0, g_339_0, g_341_0, g_464_0, g_464_1, g_484_0, g_484_1, g_484_2, g_485_0, g_487_0, g_489_0, g_491_0, g_491_1, g_491_2, g_491_3, g_491_4, g_491_5, g_491_6, g_491_7, g_496_0, g_498_0, g_500_0, g_500_1, g_500_3, g_500_4, g_500_5, g_500_6, g_500_7, g_562_0, g_564_0, g_566_0, g_580_0, g_580_1, g_580_2, g_580_3, g_581_0, g_583_0, g_585_0, g_588_1, g_588_2, g_588_3, g_588_4, g_588_6, g_601_0, g_601_1, g_601_2, g_601_3, g_601_4, g_601_5, g_601_6, g_601_7, g_601_8, g_608_0, g_610_0, g_612_0, g_612_2, g_612_4, g_612_5, g_612_7, g_612_8, g_612_9, g_612_10, g_612_11, g_612_12, g_612_13, g_612_14, g_612_15, g_612_16, g_612_19, g_612_20, g_612_22, g_612_24, g_612_25, g_612_26, g_612_27, g_612_28, g_612_30, g_612_31, g_612_32, g_612_33, g_612_34, g_612_36, g_612_37, g_612_38, g_612_39, g_612_40, g_612_41, g_612_42, g_612_43, g_612_44, g_612_46, g_612_47, g_612_48, g_612_49, g_612_50, g_612_53, g_612_56, g_612_57, g_612_58, g_612_59, g_612_61, g_612_62, g_612_63, g_612_64]
    refine ⟨fun c => ?_, fun c => ?_⟩
    · rw [show i = (τ.1 588 0).toNat by omega]; exact hQ
    · have ih' := ih (i + 1) (by omega) (by omega)
      have pb := bnP_b hI (k := (i : Int)) (by omega) (by omega)
      rw [show ((i + 1 : Nat) : Int) = (i : Int) + 1 by omega] at ih'
      refine ⟨by omega, W3_ranked g_591 (n := (τ.1 588 0).toNat) (by omega) (by omega) f1 (by omega) (by omega) (W3_ranked g_589 (n := (τ.1 588 0).toNat) (by omega) (by omega) f2 (by omega) (by omega) ?_)⟩
      have e : oS (τ.1 591) (τ.1 588 0).toNat (τ.1 588 0 - 1 - i) * oS (τ.1 589) (τ.1 588 0).toNat i = bnP τ (τ.1 588 0).toNat i := by
        unfold bnP
        rw [show (((τ.1 588 0).toNat : Nat) : Int) = τ.1 588 0 by omega]
      rw [e]
      refine ⟨by omega, ?_⟩
      unfold Z3_lowerBound_43
      have q := W3_lb_43 hI (i := i) (by omega) (acc := wS (fun k => bnP τ (τ.1 588 0).toNat k + wS (prR τ k) (τ.1 588 0).toNat) i + bnP τ (τ.1 588 0).toNat i) (by omega) (k4 := L) (Q := Q) (by rw [Int.add_assoc]; exact ih') NN 0 (by omega) (by unfold NN; omega)
      rw [show wS (prR τ i) 0 = 0 from rfl, Int.add_zero] at q
      exact q
set_option maxRecDepth 100000 in
theorem W3_lowerBound {τ : kzM} (hI : Inv τ) {Q : Int → kzM → Prop} (hQ : Q (wS (fun k => bnP τ (τ.1 588 0).toNat k + wS (prR τ k) (τ.1 588 0).toNat) (τ.1 588 0).toNat) τ) : Wz (Z3_lowerBound kdG0 588) τ Q := by
  have i9 := hI.2.2.2.2.2.2.2.2
  unfold I9 at i9
  unfold Z3_lowerBound Z3_lowerBound_4
  exact W3_lb_4 hI hQ NN 0 (by omega) (by unfold NN; omega)
