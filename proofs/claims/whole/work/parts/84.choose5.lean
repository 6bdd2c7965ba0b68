/-! chosen closed -/
set_option maxRecDepth 100000 in
theorem W12_lc_end {ρ : kzM} {t p a n : Int} (a0 : 0 ≤ a) {k7 : Nat → Int → Int → kzM → Option (Unit × kzM)} {Q : Unit → kzM → Prop} (hQ : Wz (Z12_layChosen_104 kdG0 k7 612 p a) ρ Q) (N : Nat) : Wz (lp (fun _ _ _ _ _ _ => none) (Z12_layChosen_21B kdG0 k7) (N + 1) 612 t p a n) ρ Q := by
  rw [lp_succ]
  generalize lp (fun _ _ _ _ _ _ => none) (Z12_layChosen_21B kdG0 k7) N = L
  unfold Z12_layChosen_21B
  simp only [Wz_rt, Wz_cnd, Wz_lI, Wz_lW, Wz_lL, Wz_cl, Wz_cv, Wz_nz, Wz_gI, Wz_gR, Wz_sI, Wz_aI, Wz_aZ, Wz_aL, Wz_aN, Wz_aR, Wz_tI, Wz_tZ, Wz_tL, Option.some.injEq, exists_eq_left', zB_0, zB_1, true_and, and_true, true_implies, not_true_eq_false, false_implies, not_false_eq_true, Classical.not_not, g_0, g_1, g_2, g_3, g_4, g_5, g_327, g_328, g_329, g_330, g_331, g_332, g_333, g_334, g_335, g_336, g_337, g_338, g_339, g_340, g_341, g_342, g_343, g_464, g_465, g_466, g_484, g_485, g_486, g_487, g_488, g_489, g_490, g_491, g_492, g_493, g_494, g_495, g_496, g_497, g_498, g_499, g_500, g_501, g_562, g_563, g_564, g_565, g_566, g_567, g_568, g_574, g_580, g_581, g_582, g_583, g_584, g_585, g_586, g_587, g_588, g_589, g_590, g_591, g_592, g_600, g_601, g_602, g_603, g_604, g_605, g_606, g_607, g_608, g_609, g_610, g_611, g_612, g_613, g_614, g_615, g_616, g_617, g_618, g_619, g_620, g_621, g_622, g_623, g_624, g_625, g_626, g_627, g_628, g_629, g_630, g_631, g_632, g_633, g_634, g_635, g_636, g_637, g_638, g_639, g_640, g_641, g_642, g_643, g_644, g_645, g_646, g_647, g_648, g_649, g_650, g_651, g_652, g_653, g_654, g_655, g_656, g_657, g_658, g_659, g_660, g_661, g_662, g_0_0, g_0_1, g_0_2, g_0_3, g_0_4, g_0_5, g_0_6, g_0_7, g_0_8, g_0_9, g_0_10, g_0_11, g_1_0, g_3_0, g_327_0, g_327_1, g_327_2, g_327_3, g_328_0, g_330_0, g_332_0, g_334_0, g_336_0, g_336_1, g_336_2, g_336_3, g_337_0, g_339_0, g_341_0, g_464_0, g_464_1, g_484_0, g_484_1, g_484_2, g_485_0, g_487_0, g_489_0, g_491_0, g_491_1, g_491_2, g_491_3, g_491_4, g_491_5, g_491_6, g_491_7, g_496_0, g_498_0, g_500_0, g_500_1, g_500_3, g_500_4, g_500_5, g_500_6, g_500_7, g_562_0, g_564_0, g_566_0, g_580_0, g_580_1, g_580_2, g_580_3, g_581_0, g_583_0, g_585_0, g_588_1, g_588_2, g_588_3, g_588_4, g_588_6, g_601_0, g_601_1, g_601_2, g_601_3, g_601_4, g_601_5, g_601_6, g_601_7, g_601_8, g_608_0, g_610_0, g_612_0, g_612_2, g_612_4, g_612_5, g_612_7, g_612_8, g_612_9, g_612_10, g_612_11, g_612_12, g_612_13, g_612_14, g_612_15, g_612_16, g_612_19, g_612_20, g_612_22, g_612_24, g_612_25, g_612_26, g_612_27, g_612_28, g_612_30, g_612_31, g_612_32, g_612_33, g_612_34, g_612_36, g_612_37, g_612_38, g_612_39, g_612_40, g_612_41, g_612_42, g_612_43, g_612_44, g_612_46, g_612_47, g_612_48, g_612_49, g_612_50, g_612_53, g_612_56, g_612_57, g_612_58, g_612_59, g_612_61, g_612_62, g_612_63, g_612_64]
  exact ⟨fun _ => hQ, fun _ => ⟨fun _ => hQ, fun c => absurd a0 c⟩⟩
/-- what the reference looks at, at a place, for a word -/
noncomputable def lcV (τ : kzM) (p : Nat) (n : Int) : Int := match p with
  | 0 => gS τ (τ.1 562 1 - 1).toNat n
  | q + 1 => zp (canW τ ((q + 1 : Nat) : Int) n) * (τ.1 342 (cS τ q) * bF τ (τ.1 562 1 - 1 - ((q + 1 : Nat) : Int)).toNat (cS τ q) n)
noncomputable def lcT (τ : kzM) (p : Nat) : Int := match p with
  | 0 => prS τ
  | q + 1 => gS τ (τ.1 562 1 - 1 - (q : Int)).toNat (cS τ q)
theorem lc_at {τ : kzM} (hI : Inv τ) : ∀ p : Nat, (p : Int) < τ.1 562 1 → lcV τ p (cS τ p) = lcT τ p ∧ ∀ n, 0 ≤ n → n < cS τ p → ¬lcV τ p n = lcT τ p
  | 0, h => by
    have c0 := cS_ok hI 0 h
    have z := c0.2
    rw [show τ.1 562 1 - 1 - ((0 : Nat) : Int) = τ.1 562 1 - 1 by omega] at z
    have g := mxF_ge (f := gS τ (τ.1 562 1 - 1).toNat) (τ.1 337 1).toNat (cS τ 0) c0.1.1 (by omega)
    have a := amF_b (f := gS τ (τ.1 562 1 - 1).toNat) (τ.1 337 1).toNat (by omega)
    have ep : lcT τ 0 = mxF (gS τ (τ.1 562 1 - 1).toNat) (τ.1 337 1).toNat := by
      show prS τ = _
      unfold prS
      rw [if_neg (by omega)]
    rw [ep]
    refine ⟨a.2.1, fun n n0 n1 => ?_⟩
    have q := a.2.2 n n0 n1
    show ¬gS τ (τ.1 562 1 - 1).toNat n = _
    omega
  | p + 1, h => by
    have i5 := hI.2.2.2.2.1
    unfold I5 at i5
    have ih := cS_ok hI p (by omega)
    have ihn := cS_ok hI (p + 1) h
    obtain ⟨k, hk⟩ : ∃ k : Nat, (τ.1 562 1 - 1 - (p : Int)).toNat = k + 1 := ⟨(τ.1 562 1 - 1 - (p : Int)).toNat - 1, by omega⟩
    have hk2 : (τ.1 562 1 - 1 - ((p + 1 : Nat) : Int)).toNat = k := by omega
    have ec : cS τ (p + 1) = nS τ (k + 1) (cS τ p) := by rw [← hk]; rfl
    have c := (i5.2.2.2.2 _ ih.1.1 ih.1.2).2.2.1.1
    rw [hk] at ih
    have n := gS_nx hI ih.1.1 ih.1.2 ih.2
    have cp := gS_can ih.2
    have ge := gS_eq (τ := τ) (k + 1) (cS τ p)
    rw [zp_pos cp, Int.one_mul] at ge
    have et : lcT τ (p + 1) = τ.1 342 (cS τ p) * rS τ (k + 1) (cS τ p) := by
      show gS τ (τ.1 562 1 - 1 - (p : Int)).toNat (cS τ p) = _
      rw [hk]; exact ge
    have ev : ∀ x, lcV τ (p + 1) x = zp (canW τ ((p + 1 : Nat) : Int) x) * (τ.1 342 (cS τ p) * bF τ k (cS τ p) x) := fun x => by
      show zp (canW τ ((p + 1 : Nat) : Int) x) * (τ.1 342 (cS τ p) * bF τ (τ.1 562 1 - 1 - ((p + 1 : Nat) : Int)).toNat (cS τ p) x) = _
      rw [hk2]
    have cn := gS_can ihn.2
    rw [show τ.1 562 1 - 1 - ((τ.1 562 1 - 1 - ((p + 1 : Nat) : Int)).toNat : Int) = ((p + 1 : Nat) : Int) by omega] at cn
    rw [et]
    have tp : 1 ≤ τ.1 342 (cS τ p) * rS τ (k + 1) (cS τ p) := mul_pos2 c.1 (by omega)
    refine ⟨?_, fun x x0 x1 => ?_⟩
    · rw [ev, zp_pos cn, Int.one_mul, ec, n.2.2.1]
    · rw [ev]
      rw [ec] at x1
      have l := n.2.2.2.2 x x0 x1
      by_cases d : canW τ ((p + 1 : Nat) : Int) x
      · rw [zp_pos d, Int.one_mul]
        have := Int.mul_lt_mul_of_pos_left l (show 0 < τ.1 342 (cS τ p) by omega)
        omega
      · rw [zp_neg d, Int.zero_mul]; omega
set_option maxRecDepth 100000 in
theorem W12_lc_21 {τ ρ : kzM} (hI : Inv τ) (hr : chY τ ρ 0) {p : Nat} (hp : (p : Int) < τ.1 562 1) (h5 : ∀ j : Nat, j < p → ρ.1 650 j = cS τ j) {k7 : Nat → Int → Int → kzM → Option (Unit × kzM)} {Q : Unit → kzM → Prop} (hQ : Wz (Z12_layChosen_104 kdG0 k7 612 p (cS τ p)) ρ Q) : ∀ (N : Nat) (n : Int), 0 ≤ n → n ≤ cS τ p → cS τ p - n + 2 < N → Wz (lp (fun _ _ _ _ _ _ => none) (Z12_layChosen_21B kdG0 k7) N 612 (lcT τ p) p (-1) n) ρ Q := by
  have i5 := hI.2.2.2.2.1
  unfold I5 at i5
  have wl := i5.1
  have i7 := hI.2.2.2.2.2.2.1.1
  unfold I7p at i7
  have pl := i7.1
  have r29 : ρ.1 612 29 = τ.1 337 1 := by rw [hr.1 _ _ (by decide) (by decide)]; exact i5.2.2.2.1
  have la := lc_at hI p hp
  have ck := cS_ok hI p hp
  intro N
  induction N with
  | zero => intro n; intros; omega
  | succ N ih =>
    intro n n0 n1 n2
    rw [lp_succ]
    obtain ⟨M, hM⟩ : ∃ M, N = M + 1 := ⟨N - 1, by omega⟩
    have z1 : n = cS τ p → Wz (lp (fun _ _ _ _ _ _ => none) (Z12_layChosen_21B kdG0 k7) N 612 (lcT τ p) p n (n + 1)) ρ Q := fun q => by
      rw [hM]; exact W12_lc_end n0 (by rw [q]; exact hQ) M
    have ih' := ih (n + 1) (by omega)
    clear ih
    generalize lp (fun _ _ _ _ _ _ => none) (Z12_layChosen_21B kdG0 k7) N = L at ih' z1 ⊢
    have go : Wz (Z12_layChosen_80 kdG0 k7 L 612 (lcT τ p) p (-1) n (lcV τ p n)) ρ Q := by
      simp only [Z12_layChosen_80, Z12_layChosen_96, Wz_rt, Wz_cnd, Wz_lI, Wz_lW, Wz_lL, Wz_cl, Wz_cv, Wz_nz, Wz_gI, Wz_gR, Wz_sI, Wz_aI, Wz_aZ, Wz_aL, Wz_aN, Wz_aR, Wz_tI, Wz_tZ, Wz_tL, Option.some.injEq, exists_eq_left', zB_0, zB_1, true_and, and_true, true_implies, not_true_eq_false, false_implies, not_false_eq_true, Classical.not_not]
      refine ⟨fun c => ⟨by omega, z1 ?_⟩, fun c => ⟨by omega, ?_⟩⟩
      · by_cases y : n < cS τ p
        · exact absurd c (la.2 n n0 y)
        · omega
      · by_cases y : n = cS τ p
        · exact absurd (by rw [y]; exact la.1) c
        · exact ih' (by omega) (by omega)
    unfold Z12_layChosen_21B
    simp only [Wz_rt, Wz_cnd, Wz_lI, Wz_lW, Wz_lL, Wz_cl, Wz_cv, Wz_nz, Wz_gI, Wz_gR, Wz_sI, Wz_aI, Wz_aZ, Wz_aL, Wz_aN, Wz_aR, Wz_tI, Wz_tZ, Wz_tL, Option.some.injEq, exists_eq_left', zB_0, zB_1, true_and, and_true, true_implies, not_true_eq_false, false_implies, not_false_eq_true, Classical.not_not, g_0, g_1, g_2, g_3, g_4, g_5, g_327, g_328, g_329, g_330, g_331, g_332, g_333, g_334, g_335, g_336, g_337, g_338, g_339, g_340, g_341, g_342, g_343, g_464, g_465, g_466, g_484, g_485, g_486, g_487, g_488, g_489, g_490, g_491, g_492, g_493, g_494, g_495, g_496, g_497, g_498, g_499, g_500, g_501, g_562, g_563, g_564, g_565, g_566, g_567, g_568, g_574, g_580, g_581, g_582, g_583, g_584, g_585, g_586, g_587, g_588, g_589, g_590, g_591, g_592, g_600, g_601, g_602, g_603, g_604, g_605, g_606, g_607, g_608, g_609, g_610, g_611, g_612, g_613, g_614, g_615, g_616, g_617, g_618, g_619, g_620, g_621, g_622, g_623, g_624, g_625, g_626, g_627, g_628, g_629, g_630, g_631, g_632, g_633, g_634, g_635, g_636, g_637, g_638, g_639, g_640, g_641, g_642, g_643, g_644, g_645, g_646, g_647, g_648, g_649, g_650, g_651, g_652, g_653, g_654, g_655, g_656, g_657, g_658, g_659, g_660, g_661, g_662, g_0_0, g_0_1, g_0_2, g_0_3, g_0_4, g_0_5, g_0_6, g_0_7, g_0_8, g_0_9, g_0_10, g_0_11, g_1_0, g_3_0, g_327_0, g_327_1, g_327_2, g_327_3, g_328_0, g_330_0, g_332_0, g_334_0, g_336_0, g_336_1, g_336_2, g_336_3, g_337_0, g_339_0, g_341_0, g_464_0, g_464_1, g_484_0, g_484_1, g_484_2, g_485_0, g_487_0, g_489_0, g_491_0, g_491_1, g_491_2, g_491_3, g_491_4, g_491_5, g_491_6, g_491_7, g_496_0, g_498_0, g_500_0, g_500_1, g_500_3, g_500_4, g_500_5, g_500_6, g_500_7, g_562_0, g_564_0, g_566_0, g_580_0, g_580_1, g_580_2, g_580_3, g_581_0, g_583_0, g_585_0, g_588_1, g_588_2, g_588_3, g_588_4, g_588_6, g_601_0, g_601_1, g_601_2, g_601_3, g_601_4, g_601_5, g_601_6, g_601_7, g_601_8, g_608_0, g_610_0, g_612_0, g_612_2, g_612_4, g_612_5, g_612_7, g_612_8, g_612_9, g_612_10, g_612_11, g_612_12, g_612_13, g_612_14, g_612_15, g_612_16, g_612_19, g_612_20, g_612_22, g_612_24, g_612_25, g_612_26, g_612_27, g_612_28, g_612_30, g_612_31, g_612_32, g_612_33, g_612_34, g_612_36, g_612_37, g_612_38, g_612_39, g_612_40, g_612_41, g_612_42, g_612_43, g_612_44, g_612_46, g_612_47, g_612_48, g_612_49, g_612_50, g_612_53, g_612_56, g_612_57, g_612_58, g_612_59, g_612_61, g_612_62, g_612_63, g_612_64, r29]
    refine ⟨fun c => by omega, fun _ => ⟨fun c => absurd c (by decide), fun _ => ⟨fun c => ⟨by omega, ?_⟩, fun c => ?_⟩⟩⟩
    · have p0 : p = 0 := by omega
      subst p0
      have e := hr.2 0 (by omega) (by omega) n (by omega) (by omega)
      rw [show 60 * 0 + (n : Int) = n by omega, show τ.1 562 1 - 1 - 0 = τ.1 562 1 - 1 by omega] at e
      rw [e]
      exact go
    · obtain ⟨q, hq⟩ : ∃ q, p = q + 1 := ⟨p - 1, by omega⟩
      subst hq
      have cq := cS_ok hI q (by omega)
      refine W12_sounds hI hr.1 (by omega) hp (by omega) (by omega) ?_
      have ev : lcV τ (q + 1) n = zp (canW τ ((q + 1 : Nat) : Int) n) * (τ.1 342 (cS τ q) * bF τ (τ.1 562 1 - 1 - ((q + 1 : Nat) : Int)).toNat (cS τ q) n) := rfl
      refine ⟨fun d => ?_, fun d => ?_⟩
      · rw [zp_0] at d
        rw [zp_neg d, Int.zero_mul] at ev
        rw [ev] at go; exact go
      · rw [zp_0, Classical.not_not] at d
        rw [zp_pos d, Int.one_mul] at ev
        rw [show ((q + 1 : Nat) : Int) - 1 = (q : Int) by omega, h5 q (by omega)]
        refine ⟨by omega, by omega, W12_onBy hI hr.1 (k := (τ.1 562 1 - 1 - ((q + 1 : Nat) : Int)).toNat) (by omega) (by omega) cq.1.1 cq.1.2 n0 (by omega) ?_ ?_⟩
        · have e := hr.2 ((q : Int) + 1) (by omega) (by omega) n (by omega) (by omega)
          rw [e, show (q : Int) + 1 = ((q + 1 : Nat) : Int) by omega]
        · rw [ev] at go; exact go
set_option maxRecDepth 100000 in
theorem W12_lc_7 {τ : kzM} (hI : Inv τ) {Q : Unit → kzM → Prop} (hQ : ∀ ρ, tabY τ ρ → (∀ j : Nat, (j : Int) < τ.1 562 1 → ρ.1 650 j = cS τ j) → Q () ρ) : ∀ (N p : Nat) (ρ : kzM), (p : Int) ≤ τ.1 562 1 → (τ.1 562 1).toNat - p < N → chY τ ρ 0 → (∀ j : Nat, j < p → ρ.1 650 j = cS τ j) → Wz (lp (fun _ _ _ _ => none) (Z12_layChosen_7B kdG0) N 612 (lcT τ p) (p : Int)) ρ Q := by
  have i5 := hI.2.2.2.2.1
  unfold I5 at i5
  have wl := i5.1
  have i7 := hI.2.2.2.2.2.2.1.1
  unfold I7p at i7
  have pl := i7.1
  intro N
  induction N with
  | zero => intro n; intros; omega
  | succ N ih =>
    intro p ρ p1 p2 hr h5
    rw [lp_succ]
    generalize lp (fun _ _ _ _ => none) (Z12_layChosen_7B kdG0) N = L at ih ⊢
    have r6 : ρ.1 612 6 = τ.1 562 1 := by rw [hr.1 _ _ (by decide) (by decide)]; exact i7.2.2.1
    unfold Z12_layChosen_7B
    simp only [Wz_rt, Wz_cnd, Wz_lI, Wz_lW, Wz_lL, Wz_cl, Wz_cv, Wz_nz, Wz_gI, Wz_gR, Wz_sI, Wz_aI, Wz_aZ, Wz_aL, Wz_aN, Wz_aR, Wz_tI, Wz_tZ, Wz_tL, Option.some.injEq, exists_eq_left', zB_0, zB_1, true_and, and_true, true_implies, not_true_eq_false, false_implies, not_false_eq_true, Classical.not_not, g_0, g_1, g_2, g_3, g_4, g_5, g_327, g_328, g_329, g_330, g_331, g_332, g_333, g_334, g_335, g_336, g_337, g_338, g_339, g_340, g_341, g_342, g_343, g_464, g_465, g_466, g_484, g_485, g_486, g_487, g_488, g_489, g_490, g_491, g_492, g_493, g_494, g_495, g_496, g_497, g_498, g_499, g_500, g_501, g_562, g_563, g_564, g_565, g_566, g_567, g_568, g_574, g_580, g_581, g_582, g_583, g_584, g_585, g_586, g_587, g_588, g_589, g_590, g_591, g_592, g_600, g_601, g_602, g_603, g_604, g_605, g_606, g_607, g_608, g_609, g_610, g_611, g_612, g_613, g_614, g_615, g_616, g_617, g_618, g_619, g_620, g_621, g_622, g_623, g_624, g_625, g_626, g_627, g_628, g_629, g_630, g_631, g_632, g_633, g_634, g_635, g_636, g_637, g_638, g_639, g_640, g_641, g_642, g_643, g_644, g_645, g_646, g_647, g_648, g_649, g_650, g_651, g_652, g_653, g_654, g_655, g_656, g_657, g_658, g_659, g_660, g_661, g_662, g_0_0, g_0_1, g_0_2, g_0_3, g_0_4, g_0_5, g_0_6, g_0_7, g_0_8, g_0_9, g_0_10, g_0_11, g_1_0, g_3_0, g_327_0, g_327_1, g_327_2, g_327_3, g_328_0, g_330_0, g_332_0, g_334_0, g_336_0, g_336_1, g_336_2, g_336_3, g_337_0, g_339_0, g_341_0, g_464_0, g_464_1, g_484_0, g_484_1, g_484_2, g_485_0, g_487_0, g_489_0, g_491_0, g_491_1, g_491_2, g_491_3, g_491_4, g_491_5, g_491_6, g_491_7, g_496_0, g_498_0, g_500_0, g_500_1, g_500_3, g_500_4, g_500_5, g_500_6, g_500_7, g_562_0, g_564_0, g_566_0, g_580_0, g_580_1, g_580_2, g_580_3, g_581_0, g_583_0, g_585_0, g_588_1, g_588_2, g_588_3, g_588_4, g_588_6, g_601_0, g_601_1, g_601_2, g_601_3, g_601_4, g_601_5, g_601_6, g_601_7, g_601_8, g_608_0, g_610_0, g_612_0, g_612_2, g_612_4, g_612_5, g_612_7, g_612_8, g_612_9, g_612_10, g_612_11, g_612_12, g_612_13, g_612_14, g_612_15, g_612_16, g_612_19, g_612_20, g_612_22, g_612_24, g_612_25, g_612_26, g_612_27, g_612_28, g_612_30, g_612_31, g_612_32, g_612_33, g_612_34, g_612_36, g_612_37, g_612_38, g_612_39, g_612_40, g_612_41, g_612_42, g_612_43, g_612_44, g_612_46, g_612_47, g_612_48, g_612_49, g_612_50, g_612_53, g_612_56, g_612_57, g_612_58, g_612_59, g_612_61, g_612_62, g_612_63, g_612_64, r6]
    refine ⟨fun c => hQ ρ hr.1 (fun j j1 => h5 j (by omega)), fun c => ?_⟩
    have cp := cS_ok hI p (by omega)
    unfold Z12_layChosen_21
    refine W12_lc_21 hI hr (by omega) h5 ?_ NN 0 (by omega) cp.1.1 (by unfold NN; omega)
    simp only [Z12_layChosen_104, Wz_rt, Wz_cnd, Wz_lI, Wz_lW, Wz_lL, Wz_cl, Wz_cv, Wz_nz, Wz_gI, Wz_gR, Wz_sI, Wz_aI, Wz_aZ, Wz_aL, Wz_aN, Wz_aR, Wz_tI, Wz_tZ, Wz_tL, Option.some.injEq, exists_eq_left', zB_0, zB_1, true_and, and_true, true_implies, not_true_eq_false, false_implies, not_false_eq_true, Classical.not_not, g_0, g_1, g_2, g_3, g_4, g_5, g_327, g_328, g_329, g_330, g_331, g_332, g_333, g_334, g_335, g_336, g_337, g_338, g_339, g_340, g_341, g_342, g_343, g_464, g_465, g_466, g_484, g_485, g_486, g_487, g_488, g_489, g_490, g_491, g_492, g_493, g_494, g_495, g_496, g_497, g_498, g_499, g_500, g_501, g_562, g_563, g_564, g_565, g_566, g_567, g_568, g_574, g_580, g_581, g_582, g_583, g_584, g_585, g_586, g_587, g_588, g_589, g_590, g_591, g_592, g_600, g_601, g_602, g_603, g_604, g_605, g_606, g_607, g_608, g_609, g_610, g_611, g_612, g_613, g_614, g_615, g_616, g_617, g_618, g_619, g_620, g_621, g_622, g_623, g_624, g_625, g_626, g_627, g_628, g_629, g_630, g_631, g_632, g_633, g_634, g_635, g_636, g_637, g_638, g_639, g_640, g_641, g_642, g_643, g_644, g_645, g_646, g_647, g_648, g_649, g_650, g_651, g_652, g_653, g_654, g_655, g_656, g_657, g_658, g_659, g_660, g_661, g_662, g_0_0, g_0_1, g_0_2, g_0_3, g_0_4, g_0_5, g_0_6, g_0_7, g_0_8, g_0_9, g_0_10, g_0_11, g_1_0, g_3_0, g_327_0, g_327_1, g_327_2, g_327_3, g_328_0, g_330_0, g_332_0, g_334_0, g_336_0, g_336_1, g_336_2, g_336_3, g_337_0, g_339_0, g_341_0, g_464_0, g_464_1, g_484_0, g_484_1, g_484_2, g_485_0, g_487_0, g_489_0, g_491_0, g_491_1, g_491_2, g_491_3, g_491_4, g_491_5, g_491_6, g_491_7, g_496_0, g_498_0, g_500_0, g_500_1, g_500_3, g_500_4, g_500_5, g_500_6, g_500_7, g_562_0, g_564_0, g_566_0, g_580_0, g_580_1, g_580_2, g_580_3, g_581_0, g_583_0, g_585_0, g_588_1, g_588_2, g_588_3, g_588_4, g_588_6, g_601_0, g_601_1, g_601_2, g_601_3, g_601_4, g_601_5, g_601_6, g_601_7, g_601_8, g_608_0, g_610_0, g_612_0, g_612_2, g_612_4, g_612_5, g_612_7, g_612_8, g_612_9, g_612_10, g_612_11, g_612_12, g_612_13, g_612_14, g_612_15, g_612_16, g_612_19, g_612_20, g_612_22, g_612_24, g_612_25, g_612_26, g_612_27, g_612_28, g_612_30, g_612_31, g_612_32, g_612_33, g_612_34, g_612_36, g_612_37, g_612_38, g_612_39, g_612_40, g_612_41, g_612_42, g_612_43, g_612_44, g_612_46, g_612_47, g_612_48, g_612_49, g_612_50, g_612_53, g_612_56, g_612_57, g_612_58, g_612_59, g_612_61, g_612_62, g_612_63, g_612_64]
    have e := hr.2 p (by omega) (by omega) _ cp.1.1 cp.1.2
    have et : ρ.2 649 (60 * (p : Int) + cS τ p) = lcT τ (p + 1) := e
    rw [et, show (p : Int) + 1 = ((p + 1 : Nat) : Int) by omega]
    refine ⟨by omega, by omega, by omega, ih (p + 1) _ (by omega) (by omega) ⟨fun a x z y => ?_, fun q q0 q1 w w0 w1 => hr.2 q q0 q1 w w0 w1⟩ (fun j j1 => ?_)⟩
    · dsimp only; rw [v2_ne _ _ _ _ y]; exact hr.1 a x z y
    · dsimp only
      rw [v2_eq]
      by_cases y : j = p
      · rw [if_pos ⟨rfl, by omega⟩, y]
      · rw [if_neg (fun z => y (by omega))]; exact h5 j (by omega)
set_option maxRecDepth 100000 in
theorem m_chosen (i : Int) (_ : kzI i) : MOK (Z11_chosen kdG0 0 i) (Z12_chosen kdG0 612 i) := by
  intro τ hI
  have i7 := hI.2.2.2.2.2.2.1.1
  unfold I7p at i7
  have pl := i7.1
  simp only [Z11_chosen, Z11_chosen_38, Z0_chosenWords, Wz_rt, Wz_cnd, Wz_lI, Wz_lW, Wz_lL, Wz_cl, Wz_cv, Wz_nz, Wz_gI, Wz_gR, Wz_sI, Wz_aI, Wz_aZ, Wz_aL, Wz_aN, Wz_aR, Wz_tI, Wz_tZ, Wz_tL, Option.some.injEq, exists_eq_left', zB_0, zB_1, true_and, and_true, true_implies, not_true_eq_false, false_implies, not_false_eq_true, Classical.not_not, g_0, g_1, g_2, g_3, g_4, g_5, g_327, g_328, g_329, g_330, g_331, g_332, g_333, g_334, g_335, g_336, g_337, g_338, g_339, g_340, g_341, g_342, g_343, g_464, g_465, g_466, g_484, g_485, g_486, g_487, g_488, g_489, g_490, g_491, g_492, g_493, g_494, g_495, g_496, g_497, g_498, g_499, g_500, g_501, g_562, g_563, g_564, g_565, g_566, g_567, g_568, g_574, g_580, g_581, g_582, g_583, g_584, g_585, g_586, g_587, g_588, g_589, g_590, g_591, g_592, g_600, g_601, g_602, g_603, g_604, g_605, g_606, g_607, g_608, g_609, g_610, g_611, g_612, g_613, g_614, g_615, g_616, g_617, g_618, g_619, g_620, g_621, g_622, g_623, g_624, g_625, g_626, g_627, g_628, g_629, g_630, g_631, g_632, g_633, g_634, g_635, g_636, g_637, g_638, g_639, g_640, g_641, g_642, g_643, g_644, g_645, g_646, g_647, g_648, g_649, g_650, g_651, g_652, g_653, g_654, g_655, g_656, g_657, g_658, g_659, g_660, g_661, g_662, g_0_0, g_0_1, g_0_2, g_0_3, g_0_4, g_0_5, g_0_6, g_0_7, g_0_8, g_0_9, g_0_10, g_0_11, g_1_0, g_3_0, g_327_0, g_327_1, g_327_2, g_327_3, g_328_0, g_330_0, g_332_0, g_334_0, g_336_0, g_336_1, g_336_2, g_336_3, g_337_0, g_339_0, g_341_0, g_464_0, g_464_1, g_484_0, g_484_1, g_484_2, g_485_0, g_487_0, g_489_0, g_491_0, g_491_1, g_491_2, g_491_3, g_491_4, g_491_5, g_491_6, g_491_7, g_496_0, g_498_0, g_500_0, g_500_1, g_500_3, g_500_4, g_500_5, g_500_6, g_500_7, g_562_0, g_564_0, g_566_0, g_580_0, g_580_1, g_580_2, g_580_3, g_581_0, g_583_0, g_585_0, g_588_1, g_588_2, g_588_3, g_588_4, g_588_6, g_601_0, g_601_1, g_601_2, g_601_3, g_601_4, g_601_5, g_601_6, g_601_7, g_601_8, g_608_0, g_610_0, g_612_0, g_612_2, g_612_4, g_612_5, g_612_7, g_612_8, g_612_9, g_612_10, g_612_11, g_612_12, g_612_13, g_612_14, g_612_15, g_612_16, g_612_19, g_612_20, g_612_22, g_612_24, g_612_25, g_612_26, g_612_27, g_612_28, g_612_30, g_612_31, g_612_32, g_612_33, g_612_34, g_612_36, g_612_37, g_612_38, g_612_39, g_612_40, g_612_41, g_612_42, g_612_43, g_612_44, g_612_46, g_612_47, g_612_48, g_612_49, g_612_50, g_612_53, g_612_56, g_612_57, g_612_58, g_612_59, g_612_61, g_612_62, g_612_63, g_612_64]
  refine W0_choose hI ?_
  intro σ hs h6 h7
  have s6 : σ.1 612 6 = τ.1 562 1 := by rw [hs _ _ (by decide)]; exact i7.2.2.1
  have hI2 := hI.tabX hs
  simp only [W_has r_566, W_at r_566 (show σ.1 566 1 ≤ 5 by omega), zp_0, Z12_chosen, W_in, Wz_rt, Wz_cnd, Wz_lI, Wz_lW, Wz_lL, Wz_cl, Wz_cv, Wz_nz, Wz_gI, Wz_gR, Wz_sI, Wz_aI, Wz_aZ, Wz_aL, Wz_aN, Wz_aR, Wz_tI, Wz_tZ, Wz_tL, Option.some.injEq, exists_eq_left', zB_0, zB_1, true_and, and_true, true_implies, not_true_eq_false, false_implies, not_false_eq_true, Classical.not_not, g_0, g_1, g_2, g_3, g_4, g_5, g_327, g_328, g_329, g_330, g_331, g_332, g_333, g_334, g_335, g_336, g_337, g_338, g_339, g_340, g_341, g_342, g_343, g_464, g_465, g_466, g_484, g_485, g_486, g_487, g_488, g_489, g_490, g_491, g_492, g_493, g_494, g_495, g_496, g_497, g_498, g_499, g_500, g_501, g_562, g_563, g_564, g_565, g_566, g_567, g_568, g_574, g_580, g_581, g_582, g_583, g_584, g_585, g_586, g_587, g_588, g_589, g_590, g_591, g_592, g_600, g_601, g_602, g_603, g_604, g_605, g_606, g_607, g_608, g_609, g_610, g_611, g_612, g_613, g_614, g_615, g_616, g_617, g_618, g_619, g_620, g_621, g_622, g_623, g_624, g_625, g_626, g_627, g_628, g_629, g_630, g_631, g_632, g_633, g_634, g_635, g_636, g_637, g_638, g_639, g_640, g_641, g_642, g_643, g_644, g_645, g_646, g_647, g_648, g_649, g_650, g_651, g_652, g_653, g_654, g_655, g_656, g_657, g_658, g_659, g_660, g_661, g_662, g_0_0, g_0_1, g_0_2, g_0_3, g_0_4, g_0_5, g_0_6, g_0_7, g_0_8, g_0_9, g_0_10, g_0_11, g_1_0, g_3_0, g_327_0, g_327_1, g_327_2, g_327_3, g_328_0, g_330_0, g_332_0, g_334_0, g_336_0, g_336_1, g_336_2, g_336_3, g_337_0, g_339_0, g_341_0, g_464_0, g_464_1, g_484_0, g_484_1, g_484_2, g_485_0, g_487_0, g_489_0, g_491_0, g_491_1, g_491_2, g_491_3, g_491_4, g_491_5, g_491_6, g_491_7, g_496_0, g_498_0, g_500_0, g_500_1, g_500_3, g_500_4, g_500_5, g_500_6, g_500_7, g_562_0, g_564_0, g_566_0, g_580_0, g_580_1, g_580_2, g_580_3, g_581_0, g_583_0, g_585_0, g_588_1, g_588_2, g_588_3, g_588_4, g_588_6, g_601_0, g_601_1, g_601_2, g_601_3, g_601_4, g_601_5, g_601_6, g_601_7, g_601_8, g_608_0, g_610_0, g_612_0, g_612_2, g_612_4, g_612_5, g_612_7, g_612_8, g_612_9, g_612_10, g_612_11, g_612_12, g_612_13, g_612_14, g_612_15, g_612_16, g_612_19, g_612_20, g_612_22, g_612_24, g_612_25, g_612_26, g_612_27, g_612_28, g_612_30, g_612_31, g_612_32, g_612_33, g_612_34, g_612_36, g_612_37, g_612_38, g_612_39, g_612_40, g_612_41, g_612_42, g_612_43, g_612_44, g_612_46, g_612_47, g_612_48, g_612_49, g_612_50, g_612_53, g_612_56, g_612_57, g_612_58, g_612_59, g_612_61, g_612_62, g_612_63, g_612_64, s6, h6]
  by_cases c : 0 ≤ i ∧ i < τ.1 562 1
  · have e7 : σ.1 567 i = cS τ i.toNat := by
      have q := h7 i.toNat (by omega)
      rw [Int.toNat_of_nonneg c.1] at q
      exact q
    refine ⟨fun z => absurd c z, fun _ => ⟨by omega, fun z => by omega, fun _ => ?_⟩⟩
    rw [if_pos c]
    unfold Z12_layChosen
    simp only [Wz_rt, Wz_cnd, Wz_lI, Wz_lW, Wz_lL, Wz_cl, Wz_cv, Wz_nz, Wz_gI, Wz_gR, Wz_sI, Wz_aI, Wz_aZ, Wz_aL, Wz_aN, Wz_aR, Wz_tI, Wz_tZ, Wz_tL, Option.some.injEq, exists_eq_left', zB_0, zB_1, true_and, and_true, true_implies, not_true_eq_false, false_implies, not_false_eq_true, Classical.not_not, g_0, g_1, g_2, g_3, g_4, g_5, g_327, g_328, g_329, g_330, g_331, g_332, g_333, g_334, g_335, g_336, g_337, g_338, g_339, g_340, g_341, g_342, g_343, g_464, g_465, g_466, g_484, g_485, g_486, g_487, g_488, g_489, g_490, g_491, g_492, g_493, g_494, g_495, g_496, g_497, g_498, g_499, g_500, g_501, g_562, g_563, g_564, g_565, g_566, g_567, g_568, g_574, g_580, g_581, g_582, g_583, g_584, g_585, g_586, g_587, g_588, g_589, g_590, g_591, g_592, g_600, g_601, g_602, g_603, g_604, g_605, g_606, g_607, g_608, g_609, g_610, g_611, g_612, g_613, g_614, g_615, g_616, g_617, g_618, g_619, g_620, g_621, g_622, g_623, g_624, g_625, g_626, g_627, g_628, g_629, g_630, g_631, g_632, g_633, g_634, g_635, g_636, g_637, g_638, g_639, g_640, g_641, g_642, g_643, g_644, g_645, g_646, g_647, g_648, g_649, g_650, g_651, g_652, g_653, g_654, g_655, g_656, g_657, g_658, g_659, g_660, g_661, g_662, g_0_0, g_0_1, g_0_2, g_0_3, g_0_4, g_0_5, g_0_6, g_0_7, g_0_8, g_0_9, g_0_10, g_0_11, g_1_0, g_3_0, g_327_0, g_327_1, g_327_2, g_327_3, g_328_0, g_330_0, g_332_0, g_334_0, g_336_0, g_336_1, g_336_2, g_336_3, g_337_0, g_339_0, g_341_0, g_464_0, g_464_1, g_484_0, g_484_1, g_484_2, g_485_0, g_487_0, g_489_0, g_491_0, g_491_1, g_491_2, g_491_3, g_491_4, g_491_5, g_491_6, g_491_7, g_496_0, g_498_0, g_500_0, g_500_1, g_500_3, g_500_4, g_500_5, g_500_6, g_500_7, g_562_0, g_564_0, g_566_0, g_580_0, g_580_1, g_580_2, g_580_3, g_581_0, g_583_0, g_585_0, g_588_1, g_588_2, g_588_3, g_588_4, g_588_6, g_601_0, g_601_1, g_601_2, g_601_3, g_601_4, g_601_5, g_601_6, g_601_7, g_601_8, g_608_0, g_610_0, g_612_0, g_612_2, g_612_4, g_612_5, g_612_7, g_612_8, g_612_9, g_612_10, g_612_11, g_612_12, g_612_13, g_612_14, g_612_15, g_612_16, g_612_19, g_612_20, g_612_22, g_612_24, g_612_25, g_612_26, g_612_27, g_612_28, g_612_30, g_612_31, g_612_32, g_612_33, g_612_34, g_612_36, g_612_37, g_612_38, g_612_39, g_612_40, g_612_41, g_612_42, g_612_43, g_612_44, g_612_46, g_612_47, g_612_48, g_612_49, g_612_50, g_612_53, g_612_56, g_612_57, g_612_58, g_612_59, g_612_61, g_612_62, g_612_63, g_612_64]
    refine W12_fChosen hI (fun a x z _ => hs a x z) ?_
    intro ρ hr
    unfold Z12_layChosen_7
    refine W12_lc_7 hI (fun ρ' r1 r2 => ?_) NN 0 ρ (by omega) (by unfold NN; omega) hr (fun j j1 => by omega)
    have q := r2 i.toNat (by omega)
    rw [Int.toNat_of_nonneg c.1] at q
    exact ⟨by omega, by rw [e7, q], hI.tabY r1⟩
  · exact ⟨fun _ => ⟨by omega, fun _ => hI2, fun z => by omega⟩, fun z => by omega⟩
