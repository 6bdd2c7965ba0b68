/-! chosen and product: the class's choice -/
theorem mul_pos2 {a b : Int} (ha : 1 ≤ a) (hb : 1 ≤ b) : 1 ≤ a * b := by
  have := Int.mul_pos (show 0 < a by omega) (show 0 < b by omega)
  omega
theorem pos_r {a b : Int} (ha : 0 ≤ a) (h : 0 < a * b) : 0 < a ∧ 0 < b := by
  by_cases c : a = 0
  · rw [c, Int.zero_mul] at h; omega
  · refine ⟨by omega, ?_⟩
    by_cases d : 0 < b
    · exact d
    · have := Int.mul_nonneg ha (show 0 ≤ -b by omega)
      rw [Int.mul_neg] at this
      omega
theorem g_568_0 : kdG0.2.1 568 0 = some 569 := by decide +kernel
theorem g_569 : kdG0.1 569 = (14, 60) := by decide +kernel
/-- the said words themselves can stand -/
theorem gS_pad {τ : kzM} (hI : Inv τ) : ∀ k : Nat, (k : Int) < τ.1 562 1 → 1 ≤ gS τ k (τ.1 563 (τ.1 562 1 - 1 - k))
  | 0, h => by
    have i5 := hI.2.2.2.2.1
    unfold I5 at i5
    have i7 := hI.2.2.2.2.2.2.1.1
    unfold I7p at i7
    have e := (i7.2.2.2 (τ.1 562 1 - 1 - ((0 : Nat) : Int)) (by omega) (by omega)).1.1
    have c := (i5.2.2.2.2 _ e.1 e.2).2.2.1.1
    have cw : canW τ (τ.1 562 1 - 1 - ((0 : Nat) : Int)) (τ.1 563 (τ.1 562 1 - 1 - ((0 : Nat) : Int))) := Or.inl rfl
    rw [gS_eq, zp_pos cw, Int.one_mul, show ∀ w, rS τ 0 w = 1 from fun _ => rfl, Int.mul_one]
    exact c.1
  | k + 1, h => by
    have i5 := hI.2.2.2.2.1
    unfold I5 at i5
    have i7 := hI.2.2.2.2.2.2.1.1
    unfold I7p at i7
    have e := (i7.2.2.2 (τ.1 562 1 - 1 - ((k + 1 : Nat) : Int)) (by omega) (by omega)).1.1
    have e2 := (i7.2.2.2 (τ.1 562 1 - 1 - (k : Int)) (by omega) (by omega)).1.1
    have c := (i5.2.2.2.2 _ e.1 e.2).2.2.1.1
    have ih := gS_pad hI k (by omega)
    have cw : canW τ (τ.1 562 1 - 1 - ((k + 1 : Nat) : Int)) (τ.1 563 (τ.1 562 1 - 1 - ((k + 1 : Nat) : Int))) := Or.inl rfl
    rw [gS_eq, zp_pos cw, Int.one_mul]
    refine mul_pos2 (by omega) ?_
    have t := togW_b hI.2.2.2.2.2.2.1.2 e.1 (by omega) e2.1 (by omega)
    have g := mxF_ge (f := bF τ k (τ.1 563 (τ.1 562 1 - 1 - ((k + 1 : Nat) : Int)))) (τ.1 337 1).toNat (τ.1 563 (τ.1 562 1 - 1 - (k : Int))) e2.1 (by omega)
    have b : 1 ≤ bF τ k (τ.1 563 (τ.1 562 1 - 1 - ((k + 1 : Nat) : Int))) (τ.1 563 (τ.1 562 1 - 1 - (k : Int))) := mul_pos2 (by omega) ih
    show 1 ≤ mxF _ _
    omega
noncomputable def cS (τ : kzM) : Nat → Int
  | 0 => amF (gS τ (τ.1 562 1 - 1).toNat) (τ.1 337 1).toNat
  | p + 1 => nS τ (τ.1 562 1 - 1 - (p : Int)).toNat (cS τ p)
theorem gS_nx {τ : kzM} (hI : Inv τ) {k : Nat} {w : Int} (w0 : 0 ≤ w) (w1 : w < τ.1 337 1) (h : 0 < gS τ (k + 1) w) : (0 ≤ nS τ (k + 1) w ∧ nS τ (k + 1) w < τ.1 337 1) ∧ 0 < gS τ k (nS τ (k + 1) w) ∧ bF τ k w (nS τ (k + 1) w) = rS τ (k + 1) w ∧ 0 < rS τ (k + 1) w ∧ ∀ n, 0 ≤ n → n < nS τ (k + 1) w → bF τ k w n < rS τ (k + 1) w := by
  have i5 := hI.2.2.2.2.1
  unfold I5 at i5
  have c := (i5.2.2.2.2 w w0 w1).2.2.1.1
  have h2 : 0 < rS τ (k + 1) w := by
    rw [gS_eq] at h
    have z := zp_mul (p := canW τ (τ.1 562 1 - 1 - ((k + 1 : Nat) : Int)) w) (v := 1) (u := 1) (by omega)
    rw [Int.mul_one] at z
    exact (pos_r (by omega) (pos_r z.1 h).2).2
  have a := amF_b (f := bF τ k w) (τ.1 337 1).toNat h2
  have n0 : nS τ (k + 1) w = amF (bF τ k w) (τ.1 337 1).toNat := rfl
  have r0 : rS τ (k + 1) w = mxF (bF τ k w) (τ.1 337 1).toNat := rfl
  rw [n0, r0]
  refine ⟨⟨a.1.1, by omega⟩, ?_, a.2.1, h2, a.2.2⟩
  have t := togW_b hI.2.2.2.2.2.2.1.2 w0 (by omega) a.1.1 (show amF (bF τ k w) (τ.1 337 1).toNat < 60 by omega)
  have q : 0 < bF τ k w (amF (bF τ k w) (τ.1 337 1).toNat) := by rw [a.2.1]; exact h2
  exact (pos_r (by omega) q).2
theorem gS_can {τ : kzM} {k : Nat} {w : Int} (h : 0 < gS τ k w) : canW τ (τ.1 562 1 - 1 - (k : Int)) w := by
  by_cases c : canW τ (τ.1 562 1 - 1 - (k : Int)) w
  · exact c
  · rw [gS_eq, zp_neg c, Int.zero_mul] at h
    omega
theorem cS_ok {τ : kzM} (hI : Inv τ) : ∀ p : Nat, (p : Int) < τ.1 562 1 → (0 ≤ cS τ p ∧ cS τ p < τ.1 337 1) ∧ 0 < gS τ (τ.1 562 1 - 1 - (p : Int)).toNat (cS τ p)
  | 0, h => by
    have i5 := hI.2.2.2.2.1
    unfold I5 at i5
    have i7 := hI.2.2.2.2.2.2.1.1
    unfold I7p at i7
    have g := gS_pad hI (τ.1 562 1 - 1).toNat (by omega)
    rw [show τ.1 562 1 - 1 - ((τ.1 562 1 - 1).toNat : Int) = 0 by omega] at g
    have e := (i7.2.2.2 0 (by omega) (by omega)).1.1
    have x := mxF_ge (f := gS τ (τ.1 562 1 - 1).toNat) (τ.1 337 1).toNat (τ.1 563 0) e.1 (by omega)
    have a := amF_b (f := gS τ (τ.1 562 1 - 1).toNat) (τ.1 337 1).toNat (by omega)
    rw [show τ.1 562 1 - 1 - ((0 : Nat) : Int) = τ.1 562 1 - 1 by omega]
    unfold cS
    refine ⟨⟨a.1.1, by omega⟩, ?_⟩
    rw [a.2.1]; omega
  | p + 1, h => by
    have ih := cS_ok hI p (by omega)
    obtain ⟨k, hk⟩ : ∃ k : Nat, (τ.1 562 1 - 1 - (p : Int)).toNat = k + 1 := ⟨(τ.1 562 1 - 1 - (p : Int)).toNat - 1, by omega⟩
    have ec : cS τ (p + 1) = nS τ (k + 1) (cS τ p) := by rw [← hk]; rfl
    rw [hk] at ih
    have n := gS_nx hI ih.1.1 ih.1.2 ih.2
    rw [ec, show (τ.1 562 1 - 1 - ((p + 1 : Nat) : Int)).toNat = k by omega]
    exact ⟨n.1, n.2.1⟩
/-- the greatest product of all -/
noncomputable def prS (τ : kzM) : Int := if τ.1 562 1 = 0 then 0 else mxF (gS τ (τ.1 562 1 - 1).toNat) (τ.1 337 1).toNat
set_option maxRecDepth 100000 in
theorem W0_ch_92 {τ : kzM} (hI : Inv τ) (hm : ¬τ.1 562 1 = 0) (Q : Int → kzM → Prop) (hQ : ∀ σ, tabX τ σ → σ.1 566 1 = τ.1 562 1 → (∀ j : Nat, (j : Int) < τ.1 562 1 → σ.1 567 j = cS τ j) → Q (prS τ) σ) : ∀ (N p : Nat) (σ : kzM), (p : Int) ≤ τ.1 562 1 → (τ.1 562 1).toNat - p < N → chX τ σ 0 → σ.1 566 1 = p → (∀ j : Nat, j < p → σ.1 567 j = cS τ j) → Wz (lp (fun _ _ _ _ _ => none) (Z0_choose_92B kdG0) N 500 (cS τ 0) (cS τ p) (p : Int)) σ Q := by
  have i5 := hI.2.2.2.2.1
  unfold I5 at i5
  have wl := i5.1
  have i7 := hI.2.2.2.2.2.2.1.1
  unfold I7p at i7
  have pl := i7.1
  intro N
  induction N with
  | zero => intro j; intros; omega
  | succ N ih =>
    intro p σ p1 p2 hs h1 h2
    rw [lp_succ]
    generalize lp (fun _ _ _ _ _ => none) (Z0_choose_92B kdG0) N = L at ih ⊢
    unfold Z0_choose_92B
    have s562 : σ.1 562 1 = τ.1 562 1 := hs.1 _ _ (by decide)
    have c0 := cS_ok hI 0 (by omega)
    simp only [W_size r_562, Wz_rt, Wz_cnd, Wz_lI, Wz_lW, Wz_lL, Wz_cl, Wz_cv, Wz_nz, Wz_gI, Wz_gR, Wz_sI, Wz_aI, Wz_aZ, Wz_aL, Wz_aN, Wz_aR, Wz_tI, Wz_tZ, Wz_tL, Option.some.injEq, exists_eq_left', zB_0, zB_1, true_and, and_true, true_implies, not_true_eq_false, false_implies, not_false_eq_true, Classical.not_not, g_0, g_1, g_2, g_3, g_4, g_5, g_327, g_328, g_329, g_330, g_331, g_332, g_333, g_334, g_335, g_336, g_337, g_338, g_339, g_340, g_341, g_342, g_343, g_464, g_465, g_466, g_484, g_485, g_486, g_487, g_488, g_489, g_490, g_491, g_492, g_493, g_494, g_495, g_496, g_497, g_498, g_499, g_500, g_501, g_562, g_563, g_564, g_565, g_566, g_567, g_568, g_574, g_580, g_581, g_582, g_583, g_584, g_585, g_586, g_587, g_588, g_589, g_590, g_591, g_592, g_600, g_601, g_602, g_603, g_604, g_605, g_606, g_607, g_608, g_609, g_610, g_611, g_612, g_613, g_614, g_615, g_616, g_617, g_618, g_619, g_620, g_621, g_622, g_623, g_624, g_625, g_626, g_627, g_628, g_629, g_630, g_631, g_632, g_633, g_634, g_635, g_636, g_637, g_638, g_639, g_640, g_641, g_642, g_643, g_644, g_645, g_646, g_647, g_648, g_649, g_650, g_651, g_652, g_653, g_654, g_655, g_656, g_657, g_658, g_659, g_660, g_661, g_662, g_0_0, g_0_1, g_0_2, g_0_3, g_0_4, g_0_5, g_0_6, g_0_7, g_0_8, g_0_9, g_0_10, g_0_11, g_1_0, g_3_0, g_327_0, g_327_1, g_327_2, g_327_3, g_328_0, g_330_0, g_332_0, g_334_0, g_336_0, g_336_1, g_336_2, g_336_3, g_337_0, g_339_0, g_341_0, g_464_0, g_464_1, g_484_0, g_484_1, g_484_2, g_485_0, g_487_0, g_489_0, g_491_0, g_491_1, g_491_2, g_491_3, g_491_4, g_491_5, g_491_6, g_491_7, g_496_0, g_498_0, g_500_0, g_500_1, g_500_3, g_500_4, g_500_5, g_500_6, g_500_7, g_562_0, g_564_0, g_566_0, g_580_0, g_580_1, g_580_2, g_580_3, g_581_0, g_583_0, g_585_0, g_588_1, g_588_2, g_588_3, g_588_4, g_588_6, g_601_0, g_601_1, g_601_2, g_601_3, g_601_4, g_601_5, g_601_6, g_601_7, g_601_8, g_608_0, g_610_0, g_612_0, g_612_2, g_612_4, g_612_5, g_612_7, g_612_8, g_612_9, g_612_10, g_612_11, g_612_12, g_612_13, g_612_14, g_612_15, g_612_16, g_612_19, g_612_20, g_612_22, g_612_24, g_612_25, g_612_26, g_612_27, g_612_28, g_612_30, g_612_31, g_612_32, g_612_33, g_612_34, g_612_36, g_612_37, g_612_38, g_612_39, g_612_40, g_612_41, g_612_42, g_612_43, g_612_44, g_612_46, g_612_47, g_612_48, g_612_49, g_612_50, g_612_53, g_612_56, g_612_57, g_612_58, g_612_59, g_612_61, g_612_62, g_612_63, g_612_64, g_568_0, g_569, Int.toNat_zero]
    refine ⟨fun c => ?_, fun c => ?_⟩
    · have e := (hs.2 0 (by omega) (by omega) _ c0.1.1 c0.1.2).1
      have q := hQ σ hs.1 (by omega) (fun j j1 => h2 j (by omega))
      have x := (amF_b (f := gS τ (τ.1 562 1 - 1).toNat) (τ.1 337 1).toNat ?_).2.1
      · have ep : prS τ = gS τ (τ.1 562 1 - 1 - 0).toNat (cS τ 0) := by
          unfold prS
          rw [if_neg hm, show τ.1 562 1 - 1 - 0 = τ.1 562 1 - 1 by omega]
          exact x.symm
        have e' : σ.2 569 (cS τ 0) = prS τ := by rw [ep]; exact e
        rw [e']
        exact ⟨by omega, by omega, q⟩
      · have g := mxF_ge (f := gS τ (τ.1 562 1 - 1).toNat) (τ.1 337 1).toNat (cS τ 0) c0.1.1 (by omega)
        have z := c0.2
        rw [show τ.1 562 1 - 1 - ((0 : Nat) : Int) = τ.1 562 1 - 1 by omega] at z
        omega
    · have cp := cS_ok hI p (by omega)
      obtain ⟨n1, n2⟩ := g_nx (i := p) (by omega) (by omega)
      refine W_add r_566 (by omega) (by omega) (by omega) ?_
      simp only [n1, n2, Wz_rt, Wz_cnd, Wz_lI, Wz_lW, Wz_lL, Wz_cl, Wz_cv, Wz_nz, Wz_gI, Wz_gR, Wz_sI, Wz_aI, Wz_aZ, Wz_aL, Wz_aN, Wz_aR, Wz_tI, Wz_tZ, Wz_tL, Option.some.injEq, exists_eq_left', zB_0, zB_1, true_and, and_true, true_implies, not_true_eq_false, false_implies, not_false_eq_true, Classical.not_not]
      have f : ∀ a x, ¬(566 ≤ a ∧ a ≤ 567) → addF σ.1 566 (cS τ p) a x = σ.1 a x := fun a x z => by
        unfold addF
        rw [v2_ne _ _ _ _ (by omega), v2_ne _ _ _ _ (by omega)]
      have e := (hs.2 p (by omega) (by omega) _ cp.1.1 cp.1.2).2
      have cn := gS_can cp.2
      rw [show τ.1 562 1 - 1 - ((τ.1 562 1 - 1 - (p : Int)).toNat : Int) = (p : Int) by omega] at cn
      have ec : addF σ.1 566 (cS τ p) (575 + (p : Int).toNat) (cS τ p) = cS τ (p + 1) := by
        rw [f _ _ (by omega)]; exact e cn
      rw [ec, show (p : Int) + 1 = ((p + 1 : Nat) : Int) by omega]
      refine ⟨by omega, by omega, by omega, ih (p + 1) _ (by omega) (by omega) ⟨fun a x z => ?_, fun q q0 q1 w w0 w1 => ?_⟩ ?_ (fun j j1 => ?_)⟩
      · dsimp only; rw [f _ _ (by omega)]; exact hs.1 a x z
      · dsimp only; rw [f _ _ (by omega)]; exact hs.2 q q0 q1 w w0 w1
      · dsimp only
        unfold addF
        rw [v2_self]; omega
      · dsimp only
        unfold addF
        rw [v2_ne _ _ _ _ (by decide), v2_eq, h1]
        by_cases y : j = p
        · rw [if_pos ⟨rfl, by omega⟩, y]
        · rw [if_neg (fun z => y (by omega))]; exact h2 j (by omega)
set_option maxRecDepth 100000 in
theorem W0_ch_49 {τ : kzM} (hI : Inv τ) (hm : ¬τ.1 562 1 = 0) (Q : Int → kzM → Prop) (hQ : ∀ σ, tabX τ σ → σ.1 566 1 = τ.1 562 1 → (∀ j : Nat, (j : Int) < τ.1 562 1 → σ.1 567 j = cS τ j) → Q (prS τ) σ) {σ : kzM} (hs : chX τ σ 0) (h0 : σ.1 566 1 = 0) : ∀ (N j : Nat), 1 ≤ j → j ≤ (τ.1 337 1).toNat → (τ.1 337 1).toNat - j < N → Wz (lp (fun _ _ _ _ => none) (Z0_choose_49B kdG0) N 500 (amF (gS τ (τ.1 562 1 - 1).toNat) j) (j : Int)) σ Q := by
  have i5 := hI.2.2.2.2.1
  unfold I5 at i5
  have wl := i5.1
  have i7 := hI.2.2.2.2.2.2.1.1
  unfold I7p at i7
  have pl := i7.1
  have s337 : σ.1 337 1 = τ.1 337 1 := hs.1 _ _ (by decide)
  have s2 : ∀ w, 0 ≤ w → w < τ.1 337 1 → σ.2 569 w = gS τ (τ.1 562 1 - 1).toNat w := fun w w0 w1 => by
    have e := (hs.2 0 (by omega) (by omega) w w0 w1).1
    rw [show τ.1 562 1 - 1 - 0 = τ.1 562 1 - 1 by omega] at e
    exact e
  have gb : ∀ w, 0 ≤ w → w < τ.1 337 1 → 0 ≤ gS τ (τ.1 562 1 - 1).toNat w := fun w w0 w1 => (gS_b hI _ w w0 w1).1
  intro N
  induction N with
  | zero => intro j; intros; omega
  | succ N ih =>
    intro j j0 j1 j2
    rw [lp_succ]
    generalize lp (fun _ _ _ _ => none) (Z0_choose_49B kdG0) N = L at ih ⊢
    unfold Z0_choose_49B
    simp only [Z0_choose_82, W10_size, Wz_rt, Wz_cnd, Wz_lI, Wz_lW, Wz_lL, Wz_cl, Wz_cv, Wz_nz, Wz_gI, Wz_gR, Wz_sI, Wz_aI, Wz_aZ, Wz_aL, Wz_aN, Wz_aR, Wz_tI, Wz_tZ, Wz_tL, Option.some.injEq, exists_eq_left', zB_0, zB_1, true_and, and_true, true_implies, not_true_eq_false, false_implies, not_false_eq_true, Classical.not_not, g_0, g_1, g_2, g_3, g_4, g_5, g_327, g_328, g_329, g_330, g_331, g_332, g_333, g_334, g_335, g_336, g_337, g_338, g_339, g_340, g_341, g_342, g_343, g_464, g_465, g_466, g_484, g_485, g_486, g_487, g_488, g_489, g_490, g_491, g_492, g_493, g_494, g_495, g_496, g_497, g_498, g_499, g_500, g_501, g_562, g_563, g_564, g_565, g_566, g_567, g_568, g_574, g_580, g_581, g_582, g_583, g_584, g_585, g_586, g_587, g_588, g_589, g_590, g_591, g_592, g_600, g_601, g_602, g_603, g_604, g_605, g_606, g_607, g_608, g_609, g_610, g_611, g_612, g_613, g_614, g_615, g_616, g_617, g_618, g_619, g_620, g_621, g_622, g_623, g_624, g_625, g_626, g_627, g_628, g_629, g_630, g_631, g_632, g_633, g_634, g_635, g_636, g_637, g_638, g_639, g_640, g_641, g_642, g_643, g_644, g_645, g_646, g_647, g_648, g_649, g_650, g_651, g_652, g_653, g_654, g_655, g_656, g_657, g_658, g_659, g_660, g_661, g_662, g_0_0, g_0_1, g_0_2, g_0_3, g_0_4, g_0_5, g_0_6, g_0_7, g_0_8, g_0_9, g_0_10, g_0_11, g_1_0, g_3_0, g_327_0, g_327_1, g_327_2, g_327_3, g_328_0, g_330_0, g_332_0, g_334_0, g_336_0, g_336_1, g_336_2, g_336_3, g_337_0, g_339_0, g_341_0, g_464_0, g_464_1, g_484_0, g_484_1, g_484_2, g_485_0, g_487_0, g_489_0, g_491_0, g_491_1, g_491_2, g_491_3, g_491_4, g_491_5, g_491_6, g_491_7, g_496_0, g_498_0, g_500_0, g_500_1, g_500_3, g_500_4, g_500_5, g_500_6, g_500_7, g_562_0, g_564_0, g_566_0, g_580_0, g_580_1, g_580_2, g_580_3, g_581_0, g_583_0, g_585_0, g_588_1, g_588_2, g_588_3, g_588_4, g_588_6, g_601_0, g_601_1, g_601_2, g_601_3, g_601_4, g_601_5, g_601_6, g_601_7, g_601_8, g_608_0, g_610_0, g_612_0, g_612_2, g_612_4, g_612_5, g_612_7, g_612_8, g_612_9, g_612_10, g_612_11, g_612_12, g_612_13, g_612_14, g_612_15, g_612_16, g_612_19, g_612_20, g_612_22, g_612_24, g_612_25, g_612_26, g_612_27, g_612_28, g_612_30, g_612_31, g_612_32, g_612_33, g_612_34, g_612_36, g_612_37, g_612_38, g_612_39, g_612_40, g_612_41, g_612_42, g_612_43, g_612_44, g_612_46, g_612_47, g_612_48, g_612_49, g_612_50, g_612_53, g_612_56, g_612_57, g_612_58, g_612_59, g_612_61, g_612_62, g_612_63, g_612_64, g_568_0, g_569, Int.toNat_zero]
    have am := amF_r (f := gS τ (τ.1 562 1 - 1).toNat) j
    refine ⟨fun c => ?_, fun c => ?_⟩
    · have ej : j = (τ.1 337 1).toNat := by omega
      rw [ej]
      unfold Z0_choose_92
      exact W0_ch_92 hI hm Q hQ NN 0 σ (by omega) (by unfold NN; omega) hs (by omega) (fun j j1 => by omega)
    · rw [s2 j (by omega) (by omega), s2 _ am.1 (by omega)]
      have fa : gS τ (τ.1 562 1 - 1).toNat (amF (gS τ (τ.1 562 1 - 1).toNat) j) = mxF (gS τ (τ.1 562 1 - 1).toNat) j := by
        by_cases z : 0 < mxF (gS τ (τ.1 562 1 - 1).toNat) j
        · exact (amF_b j z).2.1
        · have g := mxF_ge (f := gS τ (τ.1 562 1 - 1).toNat) j (amF (gS τ (τ.1 562 1 - 1).toNat) j) am.1 (by omega)
          have g2 := gb (amF (gS τ (τ.1 562 1 - 1).toNat) j) am.1 (by omega)
          omega
      rw [fa]
      have ea : amF (gS τ (τ.1 562 1 - 1).toNat) (j + 1) = if mxF (gS τ (τ.1 562 1 - 1).toNat) j < gS τ (τ.1 562 1 - 1).toNat j then (j : Int) else amF (gS τ (τ.1 562 1 - 1).toNat) j := rfl
      have ih' := ih (j + 1) (by omega) (by omega) (by omega)
      rw [ea, show ((j + 1 : Nat) : Int) = (j : Int) + 1 by omega] at ih'
      refine ⟨by omega, by omega, by omega, by omega, fun c => ⟨by omega, ?_⟩, fun c => ⟨by omega, ?_⟩⟩
      · rw [if_neg (by omega)] at ih'; exact ih'
      · rw [if_pos (by omega)] at ih'; exact ih'
theorem chX_to {τ σ : kzM} {p : Int} (h : chX τ σ p) {M : Nat → Int → Int} (hM : ∀ a x, ¬(566 ≤ a ∧ a ≤ 567) → M a x = σ.1 a x) : chX τ (M, σ.2) p :=
  ⟨fun a x z => by dsimp only; rw [hM a x (by omega)]; exact h.1 a x z, fun q q0 q1 w w0 w1 => by dsimp only; rw [hM _ _ (by omega)]; exact h.2 q q0 q1 w w0 w1⟩
set_option maxRecDepth 100000 in
theorem W0_ch_10 {τ : kzM} (hI : Inv τ) (Q : Int → kzM → Prop) (hQ : ∀ σ, tabX τ σ → σ.1 566 1 = τ.1 562 1 → (∀ j : Nat, (j : Int) < τ.1 562 1 → σ.1 567 j = cS τ j) → Q (prS τ) σ) : ∀ (N : Nat) (p : Int) (σ : kzM), -1 ≤ p → p < τ.1 562 1 → p + 1 < N → chX τ σ (p + 1) → Wz (lp (fun _ _ _ => none) (Z0_choose_10B kdG0) N 500 p) σ Q := by
  have i5 := hI.2.2.2.2.1
  unfold I5 at i5
  have wl := i5.1
  have i7 := hI.2.2.2.2.2.2.1.1
  unfold I7p at i7
  have pl := i7.1
  intro N
  induction N with
  | zero => intro j; intros; omega
  | succ N ih =>
    intro p σ p0 p1 p2 hs
    rw [lp_succ]
    generalize lp (fun _ _ _ => none) (Z0_choose_10B kdG0) N = L at ih ⊢
    unfold Z0_choose_10B
    have s562 : σ.1 562 1 = τ.1 562 1 := hs.1 _ _ (by decide)
    simp only [W_clear r_566, W_isEmpty r_562, zp_0, Wz_rt, Wz_cnd, Wz_lI, Wz_lW, Wz_lL, Wz_cl, Wz_cv, Wz_nz, Wz_gI, Wz_gR, Wz_sI, Wz_aI, Wz_aZ, Wz_aL, Wz_aN, Wz_aR, Wz_tI, Wz_tZ, Wz_tL, Option.some.injEq, exists_eq_left', zB_0, zB_1, true_and, and_true, true_implies, not_true_eq_false, false_implies, not_false_eq_true, Classical.not_not, g_0, g_1, g_2, g_3, g_4, g_5, g_327, g_328, g_329, g_330, g_331, g_332, g_333, g_334, g_335, g_336, g_337, g_338, g_339, g_340, g_341, g_342, g_343, g_464, g_465, g_466, g_484, g_485, g_486, g_487, g_488, g_489, g_490, g_491, g_492, g_493, g_494, g_495, g_496, g_497, g_498, g_499, g_500, g_501, g_562, g_563, g_564, g_565, g_566, g_567, g_568, g_574, g_580, g_581, g_582, g_583, g_584, g_585, g_586, g_587, g_588, g_589, g_590, g_591, g_592, g_600, g_601, g_602, g_603, g_604, g_605, g_606, g_607, g_608, g_609, g_610, g_611, g_612, g_613, g_614, g_615, g_616, g_617, g_618, g_619, g_620, g_621, g_622, g_623, g_624, g_625, g_626, g_627, g_628, g_629, g_630, g_631, g_632, g_633, g_634, g_635, g_636, g_637, g_638, g_639, g_640, g_641, g_642, g_643, g_644, g_645, g_646, g_647, g_648, g_649, g_650, g_651, g_652, g_653, g_654, g_655, g_656, g_657, g_658, g_659, g_660, g_661, g_662, g_0_0, g_0_1, g_0_2, g_0_3, g_0_4, g_0_5, g_0_6, g_0_7, g_0_8, g_0_9, g_0_10, g_0_11, g_1_0, g_3_0, g_327_0, g_327_1, g_327_2, g_327_3, g_328_0, g_330_0, g_332_0, g_334_0, g_336_0, g_336_1, g_336_2, g_336_3, g_337_0, g_339_0, g_341_0, g_464_0, g_464_1, g_484_0, g_484_1, g_484_2, g_485_0, g_487_0, g_489_0, g_491_0, g_491_1, g_491_2, g_491_3, g_491_4, g_491_5, g_491_6, g_491_7, g_496_0, g_498_0, g_500_0, g_500_1, g_500_3, g_500_4, g_500_5, g_500_6, g_500_7, g_562_0, g_564_0, g_566_0, g_580_0, g_580_1, g_580_2, g_580_3, g_581_0, g_583_0, g_585_0, g_588_1, g_588_2, g_588_3, g_588_4, g_588_6, g_601_0, g_601_1, g_601_2, g_601_3, g_601_4, g_601_5, g_601_6, g_601_7, g_601_8, g_608_0, g_610_0, g_612_0, g_612_2, g_612_4, g_612_5, g_612_7, g_612_8, g_612_9, g_612_10, g_612_11, g_612_12, g_612_13, g_612_14, g_612_15, g_612_16, g_612_19, g_612_20, g_612_22, g_612_24, g_612_25, g_612_26, g_612_27, g_612_28, g_612_30, g_612_31, g_612_32, g_612_33, g_612_34, g_612_36, g_612_37, g_612_38, g_612_39, g_612_40, g_612_41, g_612_42, g_612_43, g_612_44, g_612_46, g_612_47, g_612_48, g_612_49, g_612_50, g_612_53, g_612_56, g_612_57, g_612_58, g_612_59, g_612_61, g_612_62, g_612_63, g_612_64, Z0_weighPlace]
    rw [v2_ne _ _ _ _ (by decide), s562]
    refine ⟨fun c => ⟨fun d => ?_, fun d => ?_⟩, fun c => ?_⟩
    · have hs' : chX τ (v2 σ.1 566 1 0, σ.2) 0 := by
        rw [show p + 1 = 0 by omega] at hs
        exact chX_to hs (fun a x z => by rw [v2_ne _ _ _ _ (by omega)])
      have e := (i7.2.2.2 0 (by omega) (by omega)).1.1
      unfold Z0_choose_49
      have q := W0_ch_49 hI d Q hQ hs' (by dsimp only; rw [v2_self]) NN 1 (Nat.le_refl _) (by omega) (by unfold NN; omega)
      have a1 : amF (gS τ (τ.1 562 1 - 1).toNat) 1 = 0 := by
        have := amF_r (f := gS τ (τ.1 562 1 - 1).toNat) 1
        omega
      rw [a1] at q
      exact q
    · have q := hQ (v2 σ.1 566 1 0, σ.2) (fun a x z => by dsimp only; rw [v2_ne _ _ _ _ (by omega)]; exact hs.1 a x z) (by dsimp only; rw [v2_self]; omega) (fun j j1 => by omega)
      have ep : prS τ = 0 := by unfold prS; rw [if_pos (by omega)]
      rw [ep] at q
      exact q
    · unfold Z0_weighPlace_2
      refine W0_weigh_2 hI (by omega) p1 _ ?_ NN 0 σ (Nat.zero_le _) (by unfold NN; omega) hs (fun w w0 w1 => by omega)
      intro ρ hr
      refine ⟨by omega, ih (p + -1) ρ (by omega) (by omega) (by omega) ?_⟩
      rw [show p + -1 + 1 = p by omega]; exact hr
set_option maxRecDepth 100000 in
theorem W0_choose {τ : kzM} (hI : Inv τ) {Q : Int → kzM → Prop} (hQ : ∀ σ, tabX τ σ → σ.1 566 1 = τ.1 562 1 → (∀ j : Nat, (j : Int) < τ.1 562 1 → σ.1 567 j = cS τ j) → Q (prS τ) σ) : Wz (Z0_choose kdG0 500) τ Q := by
  have i7 := hI.2.2.2.2.2.2.1.1
  unfold I7p at i7
  simp only [Z0_choose, W_size r_562, Wz_rt, Wz_cnd, Wz_lI, Wz_lW, Wz_lL, Wz_cl, Wz_cv, Wz_nz, Wz_gI, Wz_gR, Wz_sI, Wz_aI, Wz_aZ, Wz_aL, Wz_aN, Wz_aR, Wz_tI, Wz_tZ, Wz_tL, Option.some.injEq, exists_eq_left', zB_0, zB_1, true_and, and_true, true_implies, not_true_eq_false, false_implies, not_false_eq_true, Classical.not_not, g_0, g_1, g_2, g_3, g_4, g_5, g_327, g_328, g_329, g_330, g_331, g_332, g_333, g_334, g_335, g_336, g_337, g_338, g_339, g_340, g_341, g_342, g_343, g_464, g_465, g_466, g_484, g_485, g_486, g_487, g_488, g_489, g_490, g_491, g_492, g_493, g_494, g_495, g_496, g_497, g_498, g_499, g_500, g_501, g_562, g_563, g_564, g_565, g_566, g_567, g_568, g_574, g_580, g_581, g_582, g_583, g_584, g_585, g_586, g_587, g_588, g_589, g_590, g_591, g_592, g_600, g_601, g_602, g_603, g_604, g_605, g_606, g_607, g_608, g_609, g_610, g_611, g_612, g_613, g_614, g_615, g_616, g_617, g_618, g_619, g_620, g_621, g_622, g_623, g_624, g_625, g_626, g_627, g_628, g_629, g_630, g_631, g_632, g_633, g_634, g_635, g_636, g_637, g_638, g_639, g_640, g_641, g_642, g_643, g_644, g_645, g_646, g_647, g_648, g_649, g_650, g_651, g_652, g_653, g_654, g_655, g_656, g_657, g_658, g_659, g_660, g_661, g_662, g_0_0, g_0_1, g_0_2, g_0_3, g_0_4, g_0_5, g_0_6, g_0_7, g_0_8, g_0_9, g_0_10, g_0_11, g_1_0, g_3_0, g_327_0, g_327_1, g_327_2, g_327_3, g_328_0, g_330_0, g_332_0, g_334_0, g_336_0, g_336_1, g_336_2, g_336_3, g_337_0, g_339_0, g_341_0, g_464_0, g_464_1, g_484_0, g_484_1, g_484_2, g_485_0, g_487_0, g_489_0, g_491_0, g_491_1, g_491_2, g_491_3, g_491_4, g_491_5, g_491_6, g_491_7, g_496_0, g_498_0, g_500_0, g_500_1, g_500_3, g_500_4, g_500_5, g_500_6, g_500_7, g_562_0, g_564_0, g_566_0, g_580_0, g_580_1, g_580_2, g_580_3, g_581_0, g_583_0, g_585_0, g_588_1, g_588_2, g_588_3, g_588_4, g_588_6, g_601_0, g_601_1, g_601_2, g_601_3, g_601_4, g_601_5, g_601_6, g_601_7, g_601_8, g_608_0, g_610_0, g_612_0, g_612_2, g_612_4, g_612_5, g_612_7, g_612_8, g_612_9, g_612_10, g_612_11, g_612_12, g_612_13, g_612_14, g_612_15, g_612_16, g_612_19, g_612_20, g_612_22, g_612_24, g_612_25, g_612_26, g_612_27, g_612_28, g_612_30, g_612_31, g_612_32, g_612_33, g_612_34, g_612_36, g_612_37, g_612_38, g_612_39, g_612_40, g_612_41, g_612_42, g_612_43, g_612_44, g_612_46, g_612_47, g_612_48, g_612_49, g_612_50, g_612_53, g_612_56, g_612_57, g_612_58, g_612_59, g_612_61, g_612_62, g_612_63, g_612_64]
  unfold Z0_choose_10
  exact ⟨by omega, W0_ch_10 hI Q hQ NN _ τ (by omega) (by omega) (by unfold NN; omega) ⟨fun _ _ _ => rfl, fun q q0 q1 w w0 w1 => by omega⟩⟩
