/-! the line: the reference's walk -/
def onR (τ σ : kzM) : Prop := ∀ a x, a ≠ 629 → ¬(a = 612 ∧ x = 23) → σ.1 a x = τ.1 a x
theorem onR.tr {τ σ ρ : kzM} (h : onR τ σ) (k : onR σ ρ) : onR τ ρ := fun a x h1 h2 => (k a x h1 h2).trans (h a x h1 h2)
theorem tabL.onR {τ σ ρ : kzM} (h : tabL τ σ) (k : onR σ ρ) : tabL τ ρ := fun a x z => (k a x (fun q => z (by rw [q]; rfl)) (fun q => z (by rw [q.1, q.2]; rfl))).trans (h a x z)
def stR (σ : kzM) (s : List Int) : Prop := σ.1 612 23 = s.length ∧ stk (σ.1 629) s
theorem push_R {σ : kzM} {s : List Int} {x : Int} (h : stR σ s) : onR σ (v2 (v2 σ.1 629 (σ.1 612 23) x) 612 23 (σ.1 612 23 + 1), σ.2) ∧ stR (v2 (v2 σ.1 629 (σ.1 612 23) x) 612 23 (σ.1 612 23 + 1), σ.2) (x :: s) := by
  obtain ⟨h1, h2⟩ := h
  refine ⟨fun a y a1 a2 => ?_, ?_, ?_, ?_⟩
  · dsimp only
    rw [v2_eq, if_neg a2, v2_ne _ _ _ _ a1]
  · dsimp only
    rw [v2_self, h1, List.length_cons]
    omega
  · dsimp only
    rw [v2_ne _ _ _ _ (by decide), h1]
    exact v2_self _ _ _ _
  · refine stk_cg _ (fun i i0 i1 => ?_) h2
    dsimp only
    rw [v2_ne _ _ _ _ (by decide), v2_nk _ _ _ _ (by omega)]
set_option maxRecDepth 100000 in
theorem W12_co_p {σ : kzM} {s : List Int} {x : Int} (hc : s.length < 120) (h : stR σ s) {Q : Unit → kzM → Prop} (hQ : ∀ ρ, onR σ ρ → stR ρ (x :: s) → Q () ρ) : ∀ N : Nat, Wz (lp (fun _ _ _ _ => none) (Z12_come_4B kdG0) (N + 1) 612 x 0) σ Q := by
  intro N
  rw [lp_succ]
  generalize lp (fun _ _ _ _ => none) (Z12_come_4B kdG0) N = L
  have p := push_R (x := x) h
  have h1 := h.1
  unfold Z12_come_4B
  simp only [Wz_rt, Wz_cnd, Wz_lI, Wz_lW, Wz_lL, Wz_cl, Wz_cv, Wz_nz, Wz_gI, Wz_gR, Wz_sI, Wz_aI, Wz_aZ, Wz_aL, Wz_aN, Wz_aR, Wz_tI, Wz_tZ, Wz_tL, Option.some.injEq, exists_eq_left', zB_0, zB_1, true_and, and_true, true_implies, not_true_eq_false, false_implies, not_false_eq_true, Classical.not_not, g_0, g_1, g_2, g_3, g_4, g_5, g_327, g_328, g_329, g_330, g_331, g_332, g_333, g_334, g_335, g_336, g_337, g_338, g_339, g_340, g_341, g_342, g_343, g_464, g_465, g_466, g_484, g_485, g_486, g_487, g_488, g_489, g_490, g_491, g_492, g_493, g_494, g_495, g_496, g_497, g_498, g_499, g_500, g_501, g_562, g_563, g_564, g_565, g_566, g_567, g_568, g_574, g_580, g_581, g_582, g_583, g_584, g_585, g_586, g_587, g_588, g_589, g_590, g_591, g_592, g_600, g_601, g_602, g_603, g_604, g_605, g_606, g_607, g_608, g_609, g_610, g_611, g_612, g_613, g_614, g_615, g_616, g_617, g_618, g_619, g_620, g_621, g_622, g_623, g_624, g_625, g_626, g_627, g_628, g_629, g_630, g_631, g_632, g_633, g_634, g_635, g_636, g_637, g_638, g_639, g_640, g_641, g_642, g_643, g_644, g_645, g_646, g_647, g_648, g_649, g_650, g_651, g_652, g_653, g_654, g_655, g_656, g_657, g_658, g_659, g_660, g_661, g_662, g_0_0, g_0_1, g_0_2, g_0_3, g_0_4, g_0_5, g_0_6, g_0_7, g_0_8, g_0_9, g_0_10, g_0_11, g_1_0, g_3_0, g_327_0, g_327_1, g_327_2, g_327_3, g_328_0, g_330_0, g_332_0, g_334_0, g_336_0, g_336_1, g_336_2, g_336_3, g_337_0, g_339_0, g_341_0, g_464_0, g_464_1, g_484_0, g_484_1, g_484_2, g_485_0, g_487_0, g_489_0, g_491_0, g_491_1, g_491_2, g_491_3, g_491_4, g_491_5, g_491_6, g_491_7, g_496_0, g_498_0, g_500_0, g_500_1, g_500_3, g_500_4, g_500_5, g_500_6, g_500_7, g_562_0, g_564_0, g_566_0, g_580_0, g_580_1, g_580_2, g_580_3, g_581_0, g_583_0, g_585_0, g_588_1, g_588_2, g_588_3, g_588_4, g_588_6, g_601_0, g_601_1, g_601_2, g_601_3, g_601_4, g_601_5, g_601_6, g_601_7, g_601_8, g_608_0, g_610_0, g_612_0, g_612_2, g_612_4, g_612_5, g_612_7, g_612_8, g_612_9, g_612_10, g_612_11, g_612_12, g_612_13, g_612_14, g_612_15, g_612_16, g_612_19, g_612_20, g_612_22, g_612_24, g_612_25, g_612_26, g_612_27, g_612_28, g_612_30, g_612_31, g_612_32, g_612_33, g_612_34, g_612_36, g_612_37, g_612_38, g_612_39, g_612_40, g_612_41, g_612_42, g_612_43, g_612_44, g_612_46, g_612_47, g_612_48, g_612_49, g_612_50, g_612_53, g_612_56, g_612_57, g_612_58, g_612_59, g_612_61, g_612_62, g_612_63, g_612_64, v2_ne _ _ _ _ (show (612 : Nat) ≠ 629 by decide)]
  refine ⟨by omega, by omega, hQ _ p.1 p.2⟩
set_option maxRecDepth 100000 in
theorem W12_co_4s {τ : kzM} (hI : Inv τ) {Q : Unit → kzM → Prop} : ∀ (s : List Int) (N : Nat) (x : Int) (σ : kzM), s.length + 1 < N → s.length < 120 → tabL τ σ → stR σ s → (∀ ρ, onR σ ρ → stR ρ (comeL (joinI τ (τ.1 327 4)) s x) → Q () ρ) → Wz (lp (fun _ _ _ _ => none) (Z12_come_4B kdG0) N 612 x 1) σ Q := by
  intro s
  induction s with
  | nil =>
    intro N x σ hN hc hL h hQ
    obtain ⟨N, rfl⟩ : ∃ M, N = M + 2 := ⟨N - 2, by omega⟩
    rw [lp_succ]
    have p := W12_co_p hc h (x := x) hQ N
    generalize lp (fun _ _ _ _ => none) (Z12_come_4B kdG0) (N + 1) = L at p ⊢
    have h1 := h.1
    rw [List.length_nil] at h1
    unfold Z12_come_4B
    simp only [Z12_come_48, Z12_come_49, Z12_come_61, Z12_come_79, Wz_rt, Wz_cnd, Wz_lI, Wz_lW, Wz_lL, Wz_cl, Wz_cv, Wz_nz, Wz_gI, Wz_gR, Wz_sI, Wz_aI, Wz_aZ, Wz_aL, Wz_aN, Wz_aR, Wz_tI, Wz_tZ, Wz_tL, Option.some.injEq, exists_eq_left', zB_0, zB_1, true_and, and_true, true_implies, not_true_eq_false, false_implies, not_false_eq_true, Classical.not_not, g_0, g_1, g_2, g_3, g_4, g_5, g_327, g_328, g_329, g_330, g_331, g_332, g_333, g_334, g_335, g_336, g_337, g_338, g_339, g_340, g_341, g_342, g_343, g_464, g_465, g_466, g_484, g_485, g_486, g_487, g_488, g_489, g_490, g_491, g_492, g_493, g_494, g_495, g_496, g_497, g_498, g_499, g_500, g_501, g_562, g_563, g_564, g_565, g_566, g_567, g_568, g_574, g_580, g_581, g_582, g_583, g_584, g_585, g_586, g_587, g_588, g_589, g_590, g_591, g_592, g_600, g_601, g_602, g_603, g_604, g_605, g_606, g_607, g_608, g_609, g_610, g_611, g_612, g_613, g_614, g_615, g_616, g_617, g_618, g_619, g_620, g_621, g_622, g_623, g_624, g_625, g_626, g_627, g_628, g_629, g_630, g_631, g_632, g_633, g_634, g_635, g_636, g_637, g_638, g_639, g_640, g_641, g_642, g_643, g_644, g_645, g_646, g_647, g_648, g_649, g_650, g_651, g_652, g_653, g_654, g_655, g_656, g_657, g_658, g_659, g_660, g_661, g_662, g_0_0, g_0_1, g_0_2, g_0_3, g_0_4, g_0_5, g_0_6, g_0_7, g_0_8, g_0_9, g_0_10, g_0_11, g_1_0, g_3_0, g_327_0, g_327_1, g_327_2, g_327_3, g_328_0, g_330_0, g_332_0, g_334_0, g_336_0, g_336_1, g_336_2, g_336_3, g_337_0, g_339_0, g_341_0, g_464_0, g_464_1, g_484_0, g_484_1, g_484_2, g_485_0, g_487_0, g_489_0, g_491_0, g_491_1, g_491_2, g_491_3, g_491_4, g_491_5, g_491_6, g_491_7, g_496_0, g_498_0, g_500_0, g_500_1, g_500_3, g_500_4, g_500_5, g_500_6, g_500_7, g_562_0, g_564_0, g_566_0, g_580_0, g_580_1, g_580_2, g_580_3, g_581_0, g_583_0, g_585_0, g_588_1, g_588_2, g_588_3, g_588_4, g_588_6, g_601_0, g_601_1, g_601_2, g_601_3, g_601_4, g_601_5, g_601_6, g_601_7, g_601_8, g_608_0, g_610_0, g_612_0, g_612_2, g_612_4, g_612_5, g_612_7, g_612_8, g_612_9, g_612_10, g_612_11, g_612_12, g_612_13, g_612_14, g_612_15, g_612_16, g_612_19, g_612_20, g_612_22, g_612_24, g_612_25, g_612_26, g_612_27, g_612_28, g_612_30, g_612_31, g_612_32, g_612_33, g_612_34, g_612_36, g_612_37, g_612_38, g_612_39, g_612_40, g_612_41, g_612_42, g_612_43, g_612_44, g_612_46, g_612_47, g_612_48, g_612_49, g_612_50, g_612_53, g_612_56, g_612_57, g_612_58, g_612_59, g_612_61, g_612_62, g_612_63, g_612_64]
    refine ⟨fun z => absurd z (by decide), fun _ => ⟨fun _ => ⟨fun _ => p, fun z => absurd (Int.le_refl _) z⟩, fun z => absurd z (by omega)⟩⟩
  | cons a s ih =>
    intro N x σ hN hc hL h hQ
    rw [List.length_cons] at hN
    obtain ⟨N, rfl⟩ : ∃ M, N = M + 2 := ⟨N - 2, by omega⟩
    rw [lp_succ]
    have p := fun (q : ∀ ρ, onR σ ρ → stR ρ (x :: a :: s) → Q () ρ) => W12_co_p hc h (x := x) q N
    have ih' := ih (N + 1)
    generalize lp (fun _ _ _ _ => none) (Z12_come_4B kdG0) (N + 1) = L at p ih' ⊢
    have h1 := h.1
    have h2 := h.2
    rw [List.length_cons] at h1 hc
    obtain ⟨k1, _, k3, _, k5, k6⟩ := (hI.tabL hL).j3
    have e4 : σ.1 327 4 = τ.1 327 4 := hL 327 4 (by decide)
    rw [e4] at k1 k3 k5 k6
    have jb := joinI_b (a := a) (b := x) k1
    rw [joinI_L hL] at jb
    have et : σ.1 629 (σ.1 612 23 - 1) = a := by rw [show σ.1 612 23 - 1 = s.length by omega]; exact h2.1
    have c0 : joinI τ (τ.1 327 4) a x = 0 → Wz (L 612 x 0) σ Q := fun z => p (by rw [comeL_0 (show topJ (joinI τ (τ.1 327 4)) (a :: s) x = 0 from z)] at hQ; exact hQ)
    unfold Z12_come_4B
    simp only [Z12_come_48, Z12_come_49, Z12_come_61, Z12_come_79, Wz_rt, Wz_cnd, Wz_lI, Wz_lW, Wz_lL, Wz_cl, Wz_cv, Wz_nz, Wz_gI, Wz_gR, Wz_sI, Wz_aI, Wz_aZ, Wz_aL, Wz_aN, Wz_aR, Wz_tI, Wz_tZ, Wz_tL, Option.some.injEq, exists_eq_left', zB_0, zB_1, true_and, and_true, true_implies, not_true_eq_false, false_implies, not_false_eq_true, Classical.not_not, g_0, g_1, g_2, g_3, g_4, g_5, g_327, g_328, g_329, g_330, g_331, g_332, g_333, g_334, g_335, g_336, g_337, g_338, g_339, g_340, g_341, g_342, g_343, g_464, g_465, g_466, g_484, g_485, g_486, g_487, g_488, g_489, g_490, g_491, g_492, g_493, g_494, g_495, g_496, g_497, g_498, g_499, g_500, g_501, g_562, g_563, g_564, g_565, g_566, g_567, g_568, g_574, g_580, g_581, g_582, g_583, g_584, g_585, g_586, g_587, g_588, g_589, g_590, g_591, g_592, g_600, g_601, g_602, g_603, g_604, g_605, g_606, g_607, g_608, g_609, g_610, g_611, g_612, g_613, g_614, g_615, g_616, g_617, g_618, g_619, g_620, g_621, g_622, g_623, g_624, g_625, g_626, g_627, g_628, g_629, g_630, g_631, g_632, g_633, g_634, g_635, g_636, g_637, g_638, g_639, g_640, g_641, g_642, g_643, g_644, g_645, g_646, g_647, g_648, g_649, g_650, g_651, g_652, g_653, g_654, g_655, g_656, g_657, g_658, g_659, g_660, g_661, g_662, g_0_0, g_0_1, g_0_2, g_0_3, g_0_4, g_0_5, g_0_6, g_0_7, g_0_8, g_0_9, g_0_10, g_0_11, g_1_0, g_3_0, g_327_0, g_327_1, g_327_2, g_327_3, g_328_0, g_330_0, g_332_0, g_334_0, g_336_0, g_336_1, g_336_2, g_336_3, g_337_0, g_339_0, g_341_0, g_464_0, g_464_1, g_484_0, g_484_1, g_484_2, g_485_0, g_487_0, g_489_0, g_491_0, g_491_1, g_491_2, g_491_3, g_491_4, g_491_5, g_491_6, g_491_7, g_496_0, g_498_0, g_500_0, g_500_1, g_500_3, g_500_4, g_500_5, g_500_6, g_500_7, g_562_0, g_564_0, g_566_0, g_580_0, g_580_1, g_580_2, g_580_3, g_581_0, g_583_0, g_585_0, g_588_1, g_588_2, g_588_3, g_588_4, g_588_6, g_601_0, g_601_1, g_601_2, g_601_3, g_601_4, g_601_5, g_601_6, g_601_7, g_601_8, g_608_0, g_610_0, g_612_0, g_612_2, g_612_4, g_612_5, g_612_7, g_612_8, g_612_9, g_612_10, g_612_11, g_612_12, g_612_13, g_612_14, g_612_15, g_612_16, g_612_19, g_612_20, g_612_22, g_612_24, g_612_25, g_612_26, g_612_27, g_612_28, g_612_30, g_612_31, g_612_32, g_612_33, g_612_34, g_612_36, g_612_37, g_612_38, g_612_39, g_612_40, g_612_41, g_612_42, g_612_43, g_612_44, g_612_46, g_612_47, g_612_48, g_612_49, g_612_50, g_612_53, g_612_56, g_612_57, g_612_58, g_612_59, g_612_61, g_612_62, g_612_63, g_612_64, et]
    refine ⟨fun z => absurd z (by decide), fun _ => ⟨fun z => absurd z (by omega), fun _ => ⟨by omega, fun d => ⟨fun _ => c0 (jb.2 d), fun z => absurd (Int.le_refl _) z⟩, fun d => ⟨by omega, W12_joinOf k5.1 k5.2 k6 k1 ?_⟩⟩⟩⟩
    rw [joinI_L hL]
    refine ⟨fun z => c0 (by omega), fun z => ⟨fun w => absurd w (by decide), fun _ => ⟨by omega, ?_⟩⟩⟩
    have hR : onR σ (v2 σ.1 612 23 (σ.1 612 23 - 1), σ.2) := fun b y b1 b2 => by
      dsimp only
      rw [v2_eq, if_neg b2]
    have hs : stR (v2 σ.1 612 23 (σ.1 612 23 - 1), σ.2) s := by
      refine ⟨?_, ?_⟩
      · dsimp only
        rw [v2_self]; omega
      · refine stk_cg _ (fun i i0 i1 => ?_) h2.2
        dsimp only
        rw [v2_ne _ _ _ _ (by decide)]
    refine ih' _ _ (by omega) (by omega) (hL.onR hR) hs (fun ρ r1 r2 => hQ ρ (hR.tr r1) ?_)
    rw [show comeL (joinI τ (τ.1 327 4)) (a :: s) x = comeL (joinI τ (τ.1 327 4)) s (joinI τ (τ.1 327 4) a x) from if_neg (by omega)]
    exact r2
set_option maxRecDepth 100000 in
theorem W12_come {τ : kzM} (hI : Inv τ) {s : List Int} {x : Int} {σ : kzM} (hc : s.length < 120) (hL : tabL τ σ) (h : stR σ s) {Q : Unit → kzM → Prop} (hQ : ∀ ρ, onR σ ρ → stR ρ (comeL (joinI τ (τ.1 327 4)) s x) → Q () ρ) : Wz (Z12_come kdG0 612 x) σ Q := by
  unfold Z12_come Z12_come_4
  exact W12_co_4s hI s NN x σ (by unfold NN; omega) hc hL h hQ
set_option maxRecDepth 100000 in
theorem W12_wk_106 {τ : kzM} (hI : Inv τ) {r : Int} (r0 : 0 ≤ r) (r1 : r < τ.1 (6 + 107 * (τ.1 327 4).toNat) 2) {s0 : List Int} (h0 : s0.length + 3 ≤ 120) {K : Nat → Int → kzM → Option (Unit × kzM)} {p : Int} (hp : 0 ≤ p ∧ p ≤ 40) {σ0 : kzM} (hL0 : tabL τ σ0) {Q : Unit → kzM → Prop} (hk : 1 ≤ keyN τ (τ.1 327 4) r ∧ keyN τ (τ.1 327 4) r ≤ 4) (hQ : ∀ ρ, onR σ0 ρ → stR ρ (putR (joinI τ (τ.1 327 4)) (letF τ (τ.1 327 4) r) (letN τ (τ.1 327 4) r).toNat s0) → Wz (K 612 (p + keyN τ (τ.1 327 4) r)) ρ Q) : ∀ (N j : Nat) (σ : kzM), (j : Int) ≤ letN τ (τ.1 327 4) r → (letN τ (τ.1 327 4) r).toNat - j < N → onR σ0 σ → stR σ (putR (joinI τ (τ.1 327 4)) (letF τ (τ.1 327 4) r) j s0) → Wz (lp (fun _ _ _ _ _ => none) (Z12_walk_106B kdG0 K) N 612 p (24 * τ.1 327 4 + r) (j : Int)) σ Q := by
  obtain ⟨_, k2, _, _, k5, _⟩ := hI.j3
  have k1 := k2.1
  obtain ⟨b1, b2, b3⟩ := let_b hI r0 r1
  intro N
  induction N with
  | zero => intro j; intros; omega
  | succ N ih =>
    intro j σ j1 j2 hR h
    rw [lp_succ]
    have ih' := ih (j + 1)
    generalize lp (fun _ _ _ _ _ => none) (Z12_walk_106B kdG0 K) N = L at ih' ⊢
    have hL : tabL τ σ := hL0.onR hR
    obtain ⟨l1, _, l3, l4⟩ := key_L hL (τ.1 327 4)
    have e1 : σ.1 620 (24 * τ.1 327 4 + r) = letN τ (τ.1 327 4) r := by rw [← l3]; rfl
    have e2 : σ.1 618 (24 * τ.1 327 4 + r) = keyN τ (τ.1 327 4) r := by rw [← l1]; rfl
    have e3 : σ.1 619 (3 * (24 * τ.1 327 4 + r) + (j : Int)) = letF τ (τ.1 327 4) r j := by rw [← l4]; rfl
    have pl := putR_len (joinI τ (τ.1 327 4)) (letF τ (τ.1 327 4) r) s0 j
    rw [show ((j + 1 : Nat) : Int) = (j : Int) + 1 by omega] at ih'
    unfold Z12_walk_106B
    simp only [Z12_walk_147, Wz_rt, Wz_cnd, Wz_lI, Wz_lW, Wz_lL, Wz_cl, Wz_cv, Wz_nz, Wz_gI, Wz_gR, Wz_sI, Wz_aI, Wz_aZ, Wz_aL, Wz_aN, Wz_aR, Wz_tI, Wz_tZ, Wz_tL, Option.some.injEq, exists_eq_left', zB_0, zB_1, true_and, and_true, true_implies, not_true_eq_false, false_implies, not_false_eq_true, Classical.not_not, g_0, g_1, g_2, g_3, g_4, g_5, g_327, g_328, g_329, g_330, g_331, g_332, g_333, g_334, g_335, g_336, g_337, g_338, g_339, g_340, g_341, g_342, g_343, g_464, g_465, g_466, g_484, g_485, g_486, g_487, g_488, g_489, g_490, g_491, g_492, g_493, g_494, g_495, g_496, g_497, g_498, g_499, g_500, g_501, g_562, g_563, g_564, g_565, g_566, g_567, g_568, g_574, g_580, g_581, g_582, g_583, g_584, g_585, g_586, g_587, g_588, g_589, g_590, g_591, g_592, g_600, g_601, g_602, g_603, g_604, g_605, g_606, g_607, g_608, g_609, g_610, g_611, g_612, g_613, g_614, g_615, g_616, g_617, g_618, g_619, g_620, g_621, g_622, g_623, g_624, g_625, g_626, g_627, g_628, g_629, g_630, g_631, g_632, g_633, g_634, g_635, g_636, g_637, g_638, g_639, g_640, g_641, g_642, g_643, g_644, g_645, g_646, g_647, g_648, g_649, g_650, g_651, g_652, g_653, g_654, g_655, g_656, g_657, g_658, g_659, g_660, g_661, g_662, g_0_0, g_0_1, g_0_2, g_0_3, g_0_4, g_0_5, g_0_6, g_0_7, g_0_8, g_0_9, g_0_10, g_0_11, g_1_0, g_3_0, g_327_0, g_327_1, g_327_2, g_327_3, g_328_0, g_330_0, g_332_0, g_334_0, g_336_0, g_336_1, g_336_2, g_336_3, g_337_0, g_339_0, g_341_0, g_464_0, g_464_1, g_484_0, g_484_1, g_484_2, g_485_0, g_487_0, g_489_0, g_491_0, g_491_1, g_491_2, g_491_3, g_491_4, g_491_5, g_491_6, g_491_7, g_496_0, g_498_0, g_500_0, g_500_1, g_500_3, g_500_4, g_500_5, g_500_6, g_500_7, g_562_0, g_564_0, g_566_0, g_580_0, g_580_1, g_580_2, g_580_3, g_581_0, g_583_0, g_585_0, g_588_1, g_588_2, g_588_3, g_588_4, g_588_6, g_601_0, g_601_1, g_601_2, g_601_3, g_601_4, g_601_5, g_601_6, g_601_7, g_601_8, g_608_0, g_610_0, g_612_0, g_612_2, g_612_4, g_612_5, g_612_7, g_612_8, g_612_9, g_612_10, g_612_11, g_612_12, g_612_13, g_612_14, g_612_15, g_612_16, g_612_19, g_612_20, g_612_22, g_612_24, g_612_25, g_612_26, g_612_27, g_612_28, g_612_30, g_612_31, g_612_32, g_612_33, g_612_34, g_612_36, g_612_37, g_612_38, g_612_39, g_612_40, g_612_41, g_612_42, g_612_43, g_612_44, g_612_46, g_612_47, g_612_48, g_612_49, g_612_50, g_612_53, g_612_56, g_612_57, g_612_58, g_612_59, g_612_61, g_612_62, g_612_63, g_612_64, e1, e2, e3]
    refine ⟨by omega, fun c => ⟨by omega, by omega, ?_⟩, fun c => ⟨by omega, ?_⟩⟩
    · have ej : j = (letN τ (τ.1 327 4) r).toNat := by omega
      rw [ej] at h
      exact hQ σ hR h
    · refine W12_come hI (by omega) hL h fun ρ q1 q2 => ⟨by omega, ?_⟩
      exact ih' ρ (by omega) (by omega) (hR.tr q1) q2
def wlkP (τ σ : kzM) (k : Nat) : Prop := σ.1 612 21 = k ∧ (∀ i : Nat, i < k → σ.1 627 i = pcR τ i ∧ σ.1 628 i = pcP τ i) ∧ stR σ (sgS τ k)
set_option maxRecDepth 100000 in
theorem W12_wk_12 {τ : kzM} (hI : Inv τ) {Q : Unit → kzM → Prop} (hQ : ∀ ρ m, tabL τ ρ → pcs τ m → wlkP τ ρ m → Q () ρ) : ∀ (N k : Nat) (σ : kzM), 41 - k < N → (∀ i, i < k → pcP τ i < τ.1 328 1) → tabL τ σ → wlkP τ σ k → Wz (lp (fun _ _ _ => none) (Z12_walk_12B kdG0) N 612 (pcP τ k)) σ Q := by
  intro N
  induction N with
  | zero => intro k; intros; omega
  | succ N ih =>
    intro k σ hN hk hL hw
    rw [lp_succ]
    have ih' := ih (k + 1)
    generalize lp (fun _ _ _ => none) (Z12_walk_12B kdG0) N = L at ih' ⊢
    obtain ⟨_, j2, j3, j4, j5, j6⟩ := (hI.tabL hL).j3
    obtain ⟨_, _, _, o4, _, o6⟩ := hI.j3
    have e4 : σ.1 327 4 = τ.1 327 4 := hL 327 4 (by decide)
    rw [e4] at j2 j3 j5 j6
    have e17 : σ.1 612 17 = τ.1 328 1 := by rw [hL 612 17 (by decide), o4.2.1]
    have b := pcP_b hI k hk
    have l1 := o4.1
    obtain ⟨p1, p2, p3⟩ := hw
    have p31 := p3.1
    have sl := sgS_len hI k hk
    unfold Z12_walk_12B
    simp only [Wz_rt, Wz_cnd, Wz_lI, Wz_lW, Wz_lL, Wz_cl, Wz_cv, Wz_nz, Wz_gI, Wz_gR, Wz_sI, Wz_aI, Wz_aZ, Wz_aL, Wz_aN, Wz_aR, Wz_tI, Wz_tZ, Wz_tL, Option.some.injEq, exists_eq_left', zB_0, zB_1, true_and, and_true, true_implies, not_true_eq_false, false_implies, not_false_eq_true, Classical.not_not, g_0, g_1, g_2, g_3, g_4, g_5, g_327, g_328, g_329, g_330, g_331, g_332, g_333, g_334, g_335, g_336, g_337, g_338, g_339, g_340, g_341, g_342, g_343, g_464, g_465, g_466, g_484, g_485, g_486, g_487, g_488, g_489, g_490, g_491, g_492, g_493, g_494, g_495, g_496, g_497, g_498, g_499, g_500, g_501, g_562, g_563, g_564, g_565, g_566, g_567, g_568, g_574, g_580, g_581, g_582, g_583, g_584, g_585, g_586, g_587, g_588, g_589, g_590, g_591, g_592, g_600, g_601, g_602, g_603, g_604, g_605, g_606, g_607, g_608, g_609, g_610, g_611, g_612, g_613, g_614, g_615, g_616, g_617, g_618, g_619, g_620, g_621, g_622, g_623, g_624, g_625, g_626, g_627, g_628, g_629, g_630, g_631, g_632, g_633, g_634, g_635, g_636, g_637, g_638, g_639, g_640, g_641, g_642, g_643, g_644, g_645, g_646, g_647, g_648, g_649, g_650, g_651, g_652, g_653, g_654, g_655, g_656, g_657, g_658, g_659, g_660, g_661, g_662, g_0_0, g_0_1, g_0_2, g_0_3, g_0_4, g_0_5, g_0_6, g_0_7, g_0_8, g_0_9, g_0_10, g_0_11, g_1_0, g_3_0, g_327_0, g_327_1, g_327_2, g_327_3, g_328_0, g_330_0, g_332_0, g_334_0, g_336_0, g_336_1, g_336_2, g_336_3, g_337_0, g_339_0, g_341_0, g_464_0, g_464_1, g_484_0, g_484_1, g_484_2, g_485_0, g_487_0, g_489_0, g_491_0, g_491_1, g_491_2, g_491_3, g_491_4, g_491_5, g_491_6, g_491_7, g_496_0, g_498_0, g_500_0, g_500_1, g_500_3, g_500_4, g_500_5, g_500_6, g_500_7, g_562_0, g_564_0, g_566_0, g_580_0, g_580_1, g_580_2, g_580_3, g_581_0, g_583_0, g_585_0, g_588_1, g_588_2, g_588_3, g_588_4, g_588_6, g_601_0, g_601_1, g_601_2, g_601_3, g_601_4, g_601_5, g_601_6, g_601_7, g_601_8, g_608_0, g_610_0, g_612_0, g_612_2, g_612_4, g_612_5, g_612_7, g_612_8, g_612_9, g_612_10, g_612_11, g_612_12, g_612_13, g_612_14, g_612_15, g_612_16, g_612_19, g_612_20, g_612_22, g_612_24, g_612_25, g_612_26, g_612_27, g_612_28, g_612_30, g_612_31, g_612_32, g_612_33, g_612_34, g_612_36, g_612_37, g_612_38, g_612_39, g_612_40, g_612_41, g_612_42, g_612_43, g_612_44, g_612_46, g_612_47, g_612_48, g_612_49, g_612_50, g_612_53, g_612_56, g_612_57, g_612_58, g_612_59, g_612_61, g_612_62, g_612_63, g_612_64, e17]
    refine ⟨fun c => hQ σ k hL ⟨c, hk⟩ ⟨p1, p2, p3⟩, fun c => W12_ruleAt j5.1 j5.2 j2 j6 j4 (by omega) (by omega) ?_⟩
    rw [ruS_L hL]
    have st := pcP_s hI (k := k) (by omega) (by omega)
    have rb := ruS_b hI (s := pcP τ k) (by omega) (by omega)
    rw [show ruS τ (τ.1 327 4) (pcP τ k) = pcR τ k from rfl] at rb ⊢
    have hk1 : ∀ i, i < k + 1 → pcP τ i < τ.1 328 1 := fun i hi => by
      by_cases y : i = k
      · rw [y]; omega
      · exact hk i (by omega)
    have eP : pcP τ (k + 1) = pcP τ k + if pcR τ k = -1 then 1 else keyN τ (τ.1 327 4) (pcR τ k) := by
      rw [pcP]; rfl
    have eS : sgS τ (k + 1) = if pcR τ k = -1 then (-1 - τ.1 626 (pcP τ k)) :: sgS τ k else putR (joinI τ (τ.1 327 4)) (letF τ (τ.1 327 4) (pcR τ k)) (letN τ (τ.1 327 4) (pcR τ k)).toNat (sgS τ k) := rfl
    -- the memory behind the three writes
    generalize hM : v2 (v2 (v2 σ.1 627 (σ.1 612 21) (pcR τ k)) 628 (v2 σ.1 627 (σ.1 612 21) (pcR τ k) 612 21) (pcP τ k)) 612 21 (v2 (v2 σ.1 627 (σ.1 612 21) (pcR τ k)) 628 (v2 σ.1 627 (σ.1 612 21) (pcR τ k) 612 21) (pcP τ k) 612 21 + 1) = M
    obtain ⟨σ1, hσ⟩ : ∃ σ1 : kzM, σ1 = (M, σ.2) := ⟨_, rfl⟩
    have em1 : M = σ1.1 := by rw [hσ]
    have em2 : σ.2 = σ1.2 := by rw [hσ]
    rw [em1, em2]
    rw [em1] at hM
    have f1 : ∀ a x, a ≠ 627 → a ≠ 628 → ¬(a = 612 ∧ x = 21) → σ1.1 a x = σ.1 a x := fun a x a1 a2 a3 => by
      rw [← hM, v2_eq, if_neg a3, v2_ne _ _ _ _ a2, v2_ne _ _ _ _ a1]
    have f2 : σ1.1 612 21 = k + 1 := by
      rw [← hM, v2_self, v2_ne _ _ _ _ (by decide), v2_ne _ _ _ _ (by decide), p1]
    have f3 : ∀ i : Nat, i < k + 1 → σ1.1 627 i = pcR τ i ∧ σ1.1 628 i = pcP τ i := fun i hi => by
      rw [← hM]
      simp only [v2_eq, Nat.reduceEqDiff, false_and, reduceIte, true_and, p1]
      by_cases y : i = k
      · subst y
        rw [if_pos rfl, if_pos rfl]
        exact ⟨rfl, rfl⟩
      · have hne : ¬(i : Int) = (k : Int) := by omega
        rw [if_neg hne, if_neg hne]
        exact p2 i (by omega)
    have hL1 : tabL τ σ1 := fun a x z => (f1 a x (fun q => z (by rw [q]; rfl)) (fun q => z (by rw [q]; rfl)) (fun q => z (by rw [q.1, q.2]; rfl))).trans (hL a x z)
    have hs1 : stR σ1 (sgS τ k) := by
      refine ⟨by rw [f1 612 23 (by decide) (by decide) (by decide)]; exact p31, stk_cg _ (fun i _ _ => (f1 629 i (by decide) (by decide) (by omega)).symm) p3.2⟩
    have go : ∀ ρ, onR σ1 ρ → stR ρ (sgS τ (k + 1)) → Wz (L 612 (pcP τ (k + 1))) ρ Q := fun ρ q1 q2 => by
      refine ih' ρ (by omega) hk1 (hL1.onR q1) ⟨?_, fun i hi => ?_, q2⟩
      · rw [q1 612 21 (by decide) (by decide), f2]; omega
      · rw [q1 627 i (by decide) (by omega), q1 628 i (by decide) (by omega)]
        exact f3 i hi
    have v21 : (v2 σ.1 627 (σ.1 612 21) (pcR τ k)) 612 21 = k := by rw [v2_ne _ _ _ _ (by decide), p1]
    have v22 : (v2 (v2 σ.1 627 (σ.1 612 21) (pcR τ k)) 628 (v2 σ.1 627 (σ.1 612 21) (pcR τ k) 612 21) (pcP τ k)) 612 21 = k := by rw [v2_ne _ _ _ _ (by decide), v21]
    refine ⟨by omega, by rw [v21]; omega, by rw [v22]; omega, fun d => ?_, fun d => ?_⟩
    · rcases rb with rb | ⟨r1, r2, r3⟩
      · omega
      · rw [if_neg (by omega)] at eP eS
        have e18 : σ1.1 612 18 = τ.1 327 4 := by rw [hL1 612 18 (by decide), o6]
        have j1 := j2.1
        have et : σ.1 (6 + 107 * (τ.1 327 4).toNat) 2 = τ.1 (6 + 107 * (τ.1 327 4).toNat) 2 := hL _ _ (by rw [md_3 (by omega)]; decide)
        show (-2147483648 ≤ 24 * σ1.1 612 18 + pcR τ k ∧ 24 * σ1.1 612 18 + pcR τ k ≤ 2147483647) ∧ Wz (Z12_walk_106 kdG0 L 612 (pcP τ k) (24 * σ1.1 612 18 + pcR τ k) 0) σ1 Q
        rw [e18]
        refine ⟨by omega, ?_⟩
        unfold Z12_walk_106
        refine W12_wk_106 hI r1.1 r1.2 (s0 := sgS τ k) (by omega) (by omega) hL1 r2 (fun ρ q1 q2 => ?_) NN 0 σ1 (by have := (let_b hI r1.1 r1.2).1; omega) (by have := (let_b hI r1.1 r1.2).1; unfold NN; omega) (fun _ _ _ _ => rfl) hs1
        rw [← eP]
        exact go ρ q1 (by rw [eS]; exact q2)
    · have d1 : pcR τ k = -1 := by omega
      rw [if_pos d1] at eP eS
      have pu := push_R (x := -1 - τ.1 626 (pcP τ k)) hs1
      have e26 : σ1.1 626 (pcP τ k) = τ.1 626 (pcP τ k) := hL1 626 _ (by rw [md_626]; decide)
      have s23 := hs1.1
      have lb := o4.2.2 (pcP τ k) (by omega) (by omega)
      show ((0 ≤ pcP τ k ∧ pcP τ k < 40) ∧ (-2147483648 ≤ -1 - σ1.1 626 (pcP τ k) ∧ -1 - σ1.1 626 (pcP τ k) ≤ 2147483647) ∧ (0 ≤ σ1.1 612 23 ∧ σ1.1 612 23 < 120) ∧ (-2147483648 ≤ (v2 σ1.1 629 (σ1.1 612 23) (-1 - σ1.1 626 (pcP τ k))) 612 23 + 1 ∧ (v2 σ1.1 629 (σ1.1 612 23) (-1 - σ1.1 626 (pcP τ k))) 612 23 + 1 ≤ 2147483647) ∧ (-2147483648 ≤ pcP τ k + 1 ∧ pcP τ k + 1 ≤ 2147483647) ∧ Wz (L 612 (pcP τ k + 1)) (v2 (v2 σ1.1 629 (σ1.1 612 23) (-1 - σ1.1 626 (pcP τ k))) 612 23 ((v2 σ1.1 629 (σ1.1 612 23) (-1 - σ1.1 626 (pcP τ k))) 612 23 + 1), σ1.2) Q)
      rw [e26, v2_ne _ _ _ _ (show (612 : Nat) ≠ 629 by decide)]
      refine ⟨by omega, by omega, by omega, by omega, by omega, ?_⟩
      rw [← eP]
      exact go _ pu.1 (by rw [eS]; exact pu.2)
set_option maxRecDepth 100000 in
theorem W12_walk {τ σ : kzM} (hI : Inv τ) (hL : tabL τ σ) {Q : Unit → kzM → Prop} (hQ : ∀ ρ m, tabL τ ρ → pcs τ m → wlkP τ ρ m → Q () ρ) : Wz (Z12_walk kdG0 612) σ Q := by
  unfold Z12_walk Z12_walk_12
  simp only [Wz_rt, Wz_cnd, Wz_lI, Wz_lW, Wz_lL, Wz_cl, Wz_cv, Wz_nz, Wz_gI, Wz_gR, Wz_sI, Wz_aI, Wz_aZ, Wz_aL, Wz_aN, Wz_aR, Wz_tI, Wz_tZ, Wz_tL, Option.some.injEq, exists_eq_left', zB_0, zB_1, true_and, and_true, true_implies, not_true_eq_false, false_implies, not_false_eq_true, Classical.not_not, g_0, g_1, g_2, g_3, g_4, g_5, g_327, g_328, g_329, g_330, g_331, g_332, g_333, g_334, g_335, g_336, g_337, g_338, g_339, g_340, g_341, g_342, g_343, g_464, g_465, g_466, g_484, g_485, g_486, g_487, g_488, g_489, g_490, g_491, g_492, g_493, g_494, g_495, g_496, g_497, g_498, g_499, g_500, g_501, g_562, g_563, g_564, g_565, g_566, g_567, g_568, g_574, g_580, g_581, g_582, g_583, g_584, g_585, g_586, g_587, g_588, g_589, g_590, g_591, g_592, g_600, g_601, g_602, g_603, g_604, g_605, g_606, g_607, g_608, g_609, g_610, g_611, g_612, g_613, g_614, g_615, g_616, g_617, g_618, g_619, g_620, g_621, g_622, g_623, g_624, g_625, g_626, g_627, g_628, g_629, g_630, g_631, g_632, g_633, g_634, g_635, g_636, g_637, g_638, g_639, g_640, g_641, g_642, g_643, g_644, g_645, g_646, g_647, g_648, g_649, g_650, g_651, g_652, g_653, g_654, g_655, g_656, g_657, g_658, g_659, g_660, g_661, g_662, g_0_0, g_0_1, g_0_2, g_0_3, g_0_4, g_0_5, g_0_6, g_0_7, g_0_8, g_0_9, g_0_10, g_0_11, g_1_0, g_3_0, g_327_0, g_327_1, g_327_2, g_327_3, g_328_0, g_330_0, g_332_0, g_334_0, g_336_0, g_336_1, g_336_2, g_336_3, g_337_0, g_339_0, g_341_0, g_464_0, g_464_1, g_484_0, g_484_1, g_484_2, g_485_0, g_487_0, g_489_0, g_491_0, g_491_1, g_491_2, g_491_3, g_491_4, g_491_5, g_491_6, g_491_7, g_496_0, g_498_0, g_500_0, g_500_1, g_500_3, g_500_4, g_500_5, g_500_6, g_500_7, g_562_0, g_564_0, g_566_0, g_580_0, g_580_1, g_580_2, g_580_3, g_581_0, g_583_0, g_585_0, g_588_1, g_588_2, g_588_3, g_588_4, g_588_6, g_601_0, g_601_1, g_601_2, g_601_3, g_601_4, g_601_5, g_601_6, g_601_7, g_601_8, g_608_0, g_610_0, g_612_0, g_612_2, g_612_4, g_612_5, g_612_7, g_612_8, g_612_9, g_612_10, g_612_11, g_612_12, g_612_13, g_612_14, g_612_15, g_612_16, g_612_19, g_612_20, g_612_22, g_612_24, g_612_25, g_612_26, g_612_27, g_612_28, g_612_30, g_612_31, g_612_32, g_612_33, g_612_34, g_612_36, g_612_37, g_612_38, g_612_39, g_612_40, g_612_41, g_612_42, g_612_43, g_612_44, g_612_46, g_612_47, g_612_48, g_612_49, g_612_50, g_612_53, g_612_56, g_612_57, g_612_58, g_612_59, g_612_61, g_612_62, g_612_63, g_612_64]
  refine W12_wk_12 hI hQ NN 0 _ (by unfold NN; omega) (fun i hi => by omega) (fun a x z => ?_) ⟨?_, fun i hi => by omega, ?_, trivial⟩
  · dsimp only
    rw [v2_eq, if_neg (fun q => z (by rw [q.1, q.2]; rfl)), v2_eq, if_neg (fun q => z (by rw [q.1, q.2]; rfl))]
    exact hL a x z
  · dsimp only
    rw [v2_nk _ _ _ _ (by decide), v2_self]; rfl
  · dsimp only
    rw [v2_self]; rfl
