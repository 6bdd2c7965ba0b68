/-! the line: the class writes signs -/
theorem onS.tr {τ σ ρ : kzM} (h : onS τ σ) (k : onS σ ρ) : onS τ ρ := fun a x h1 h2 => (k a x h1 h2).trans (h a x h1 h2)
set_option maxRecDepth 100000 in
theorem W4_wr_78 {τ : kzM} (hI : Inv τ) {r : Int} (r0 : 0 ≤ r) (r1 : r < τ.1 (6 + 107 * (τ.1 327 4).toNat) 2) {s0 : List Int} (h0 : s0.length + 3 ≤ 120) {K : Nat → Nat → Int → kzM → Option (Unit × kzM)} {k : Int} (hk : 0 ≤ k ∧ k ≤ 100) {σ0 : kzM} (hL0 : tabL τ σ0) {Q : Unit → kzM → Prop} (hQ : ∀ ρ, onS σ0 ρ → ρ.1 334 1 = (putR (joinI τ (τ.1 327 4)) (letF τ (τ.1 327 4) r) (letN τ (τ.1 327 4) r).toNat s0).length → stk (ρ.1 335) (putR (joinI τ (τ.1 327 4)) (letF τ (τ.1 327 4) r) (letN τ (τ.1 327 4) r).toNat s0) → Wz (K 327 (6 + 107 * (τ.1 327 4).toNat) (k + 1)) ρ Q) : ∀ (N j : Nat) (σ : kzM), (j : Int) ≤ letN τ (τ.1 327 4) r → (letN τ (τ.1 327 4) r).toNat - j < N → onS σ0 σ → σ.1 334 1 = (putR (joinI τ (τ.1 327 4)) (letF τ (τ.1 327 4) r) j s0).length → stk (σ.1 335) (putR (joinI τ (τ.1 327 4)) (letF τ (τ.1 327 4) r) j s0) → Wz (lp (fun _ _ _ _ _ _ => none) (Z4_write_78B kdG0 K) N 327 (6 + 107 * (τ.1 327 4).toNat) k (6 + 107 * (τ.1 327 4).toNat + 13 + 4 * r.toNat) (j : Int)) σ Q := by
  obtain ⟨_, k2, k3, _, _, _⟩ := hI.j3
  have k1 := k2.1
  obtain ⟨g3, g4⟩ := gTl k3 r0 (show r < 24 by omega)
  obtain ⟨b1, b2, b3⟩ := let_b hI r0 r1
  intro N
  induction N with
  | zero => intro j; intros; omega
  | succ N ih =>
    intro j σ j1 j2 hS h1 h2
    rw [lp_succ]
    have ih' := ih (j + 1)
    generalize lp (fun _ _ _ _ _ _ => none) (Z4_write_78B kdG0 K) N = L at ih' ⊢
    have hL : tabL τ σ := hL0.onS hS
    have ea : σ.1 (6 + 107 * (τ.1 327 4).toNat + 13 + 4 * r.toNat) 1 = letN τ (τ.1 327 4) r := by rw [b2]; exact hL _ _ (by rw [md_3 (by omega)]; decide)
    have eb : ∀ x, σ.1 (6 + 107 * (τ.1 327 4).toNat + 13 + 4 * r.toNat + 1) x = τ.1 (6 + 107 * (τ.1 327 4).toNat + 13 + 4 * r.toNat + 1) x := fun x => hL _ _ (by rw [md_3 (by omega)]; decide)
    have pl := putR_len (joinI τ (τ.1 327 4)) (letF τ (τ.1 327 4) r) s0 j
    rw [show ((j + 1 : Nat) : Int) = (j : Int) + 1 by omega] at ih'
    unfold Z4_write_78B
    simp only [Z4_write_106, Wz_rt, Wz_cnd, Wz_lI, Wz_lW, Wz_lL, Wz_cl, Wz_cv, Wz_nz, Wz_gI, Wz_gR, Wz_sI, Wz_aI, Wz_aZ, Wz_aL, Wz_aN, Wz_aR, Wz_tI, Wz_tZ, Wz_tL, Option.some.injEq, exists_eq_left', zB_0, zB_1, true_and, and_true, true_implies, not_true_eq_false, false_implies, not_false_eq_true, Classical.not_not, g_0, g_1, g_2, g_3, g_4, g_5, g_327, g_328, g_329, g_330, g_331, g_332, g_333, g_334, g_335, g_336, g_337, g_338, g_339, g_340, g_341, g_342, g_343, g_464, g_465, g_466, g_484, g_485, g_486, g_487, g_488, g_489, g_490, g_491, g_492, g_493, g_494, g_495, g_496, g_497, g_498, g_499, g_500, g_501, g_562, g_563, g_564, g_565, g_566, g_567, g_568, g_574, g_580, g_581, g_582, g_583, g_584, g_585, g_586, g_587, g_588, g_589, g_590, g_591, g_592, g_600, g_601, g_602, g_603, g_604, g_605, g_606, g_607, g_608, g_609, g_610, g_611, g_612, g_613, g_614, g_615, g_616, g_617, g_618, g_619, g_620, g_621, g_622, g_623, g_624, g_625, g_626, g_627, g_628, g_629, g_630, g_631, g_632, g_633, g_634, g_635, g_636, g_637, g_638, g_639, g_640, g_641, g_642, g_643, g_644, g_645, g_646, g_647, g_648, g_649, g_650, g_651, g_652, g_653, g_654, g_655, g_656, g_657, g_658, g_659, g_660, g_661, g_662, g_0_0, g_0_1, g_0_2, g_0_3, g_0_4, g_0_5, g_0_6, g_0_7, g_0_8, g_0_9, g_0_10, g_0_11, g_1_0, g_3_0, g_327_0, g_327_1, g_327_2, g_327_3, g_328_0, g_330_0, g_332_0, g_334_0, g_336_0, g_336_1, g_336_2, g_336_3, g_337_0, g_339_0, g_341_0, g_464_0, g_464_1, g_484_0, g_484_1, g_484_2, g_485_0, g_487_0, g_489_0, g_491_0, g_491_1, g_491_2, g_491_3, g_491_4, g_491_5, g_491_6, g_491_7, g_496_0, g_498_0, g_500_0, g_500_1, g_500_3, g_500_4, g_500_5, g_500_6, g_500_7, g_562_0, g_564_0, g_566_0, g_580_0, g_580_1, g_580_2, g_580_3, g_581_0, g_583_0, g_585_0, g_588_1, g_588_2, g_588_3, g_588_4, g_588_6, g_601_0, g_601_1, g_601_2, g_601_3, g_601_4, g_601_5, g_601_6, g_601_7, g_601_8, g_608_0, g_610_0, g_612_0, g_612_2, g_612_4, g_612_5, g_612_7, g_612_8, g_612_9, g_612_10, g_612_11, g_612_12, g_612_13, g_612_14, g_612_15, g_612_16, g_612_19, g_612_20, g_612_22, g_612_24, g_612_25, g_612_26, g_612_27, g_612_28, g_612_30, g_612_31, g_612_32, g_612_33, g_612_34, g_612_36, g_612_37, g_612_38, g_612_39, g_612_40, g_612_41, g_612_42, g_612_43, g_612_44, g_612_46, g_612_47, g_612_48, g_612_49, g_612_50, g_612_53, g_612_56, g_612_57, g_612_58, g_612_59, g_612_61, g_612_62, g_612_63, g_612_64, g4.1, W_size g4, W_at g4 (show σ.1 (6 + 107 * (τ.1 327 4).toNat + 13 + 4 * r.toNat) 1 ≤ ((3 : Nat) : Int) by omega)]
    rw [ea, eb]
    refine ⟨fun c => ⟨by omega, ?_⟩, fun c => ?_⟩
    · have ej : j = (letN τ (τ.1 327 4) r).toNat := by omega
      rw [ej] at h1 h2
      exact hQ σ hS h1 h2
    · rw [if_pos (by omega), ← b3 j (by omega) (by omega)]
      refine W4_arrive hI (by omega) hL h1 h2 fun ρ q1 q2 q3 => ⟨by omega, ?_⟩
      exact ih' ρ (by omega) (by omega) (hS.tr q1) q2 q3
set_option maxRecDepth 100000 in
theorem W4_wr_15 {τ : kzM} (hI : Inv τ) {m : Nat} (hm : pcs τ m) {Q : Unit → kzM → Prop} (hQ : ∀ ρ, tabL τ ρ → cutP τ ρ m → ρ.1 334 1 = (sgS τ m).length → stk (ρ.1 335) (sgS τ m) → Q () ρ) : ∀ (N k : Nat) (σ : kzM), k ≤ m → m - k < N → tabL τ σ → cutP τ σ m → σ.1 334 1 = (sgS τ k).length → stk (σ.1 335) (sgS τ k) → Wz (lp (fun _ _ _ _ => none) (Z4_write_15B kdG0) N 327 (6 + 107 * (τ.1 327 4).toNat) (k : Int)) σ Q := by
  obtain ⟨_, k2, k3, k4, _, _⟩ := hI.j3
  have k1 := k2.1
  have l1 := k4.1
  have m40 := (pcs_b hI hm).1
  intro N
  induction N with
  | zero => intro k; intros; omega
  | succ N ih =>
    intro k σ km kN hL hC h1 h2
    rw [lp_succ]
    have ih' := ih (k + 1)
    generalize lp (fun _ _ _ _ => none) (Z4_write_15B kdG0) N = L at ih' ⊢
    have hC0 := hC
    obtain ⟨c1, c2, c3⟩ := hC
    rw [show ((k + 1 : Nat) : Int) = (k : Int) + 1 by omega] at ih'
    have e8 : σ.1 328 1 = τ.1 328 1 := hL 328 1 (by decide)
    have e9 : ∀ x, σ.1 329 x = τ.1 329 x := fun x => hL 329 x (by rw [show md 329 x = 4 from rfl]; decide)
    unfold Z4_write_15B
    simp only [Z4_write_106, W_size r_1, W_isEmpty r_1, W_isFull r_1, W_has r_1, W_clear r_1, W_size r_3, W_isEmpty r_3, W_isFull r_3, W_has r_3, W_clear r_3, W_size r_328, W_isEmpty r_328, W_isFull r_328, W_has r_328, W_clear r_328, W_size r_330, W_isEmpty r_330, W_isFull r_330, W_has r_330, W_clear r_330, W_size r_332, W_isEmpty r_332, W_isFull r_332, W_has r_332, W_clear r_332, W_size r_334, W_isEmpty r_334, W_isFull r_334, W_has r_334, W_clear r_334, W_size r_337, W_isEmpty r_337, W_isFull r_337, W_has r_337, W_clear r_337, W_size r_339, W_isEmpty r_339, W_isFull r_339, W_has r_339, W_clear r_339, W_size r_341, W_isEmpty r_341, W_isFull r_341, W_has r_341, W_clear r_341, W_size r_485, W_isEmpty r_485, W_isFull r_485, W_has r_485, W_clear r_485, W_size r_487, W_isEmpty r_487, W_isFull r_487, W_has r_487, W_clear r_487, W_size r_489, W_isEmpty r_489, W_isFull r_489, W_has r_489, W_clear r_489, W_size r_496, W_isEmpty r_496, W_isFull r_496, W_has r_496, W_clear r_496, W_size r_498, W_isEmpty r_498, W_isFull r_498, W_has r_498, W_clear r_498, W_size r_562, W_isEmpty r_562, W_isFull r_562, W_has r_562, W_clear r_562, W_size r_564, W_isEmpty r_564, W_isFull r_564, W_has r_564, W_clear r_564, W_size r_566, W_isEmpty r_566, W_isFull r_566, W_has r_566, W_clear r_566, W_size r_581, W_isEmpty r_581, W_isFull r_581, W_has r_581, W_clear r_581, W_size r_583, W_isEmpty r_583, W_isFull r_583, W_has r_583, W_clear r_583, W_size r_585, W_isEmpty r_585, W_isFull r_585, W_has r_585, W_clear r_585, W_size r_608, W_isEmpty r_608, W_isFull r_608, W_has r_608, W_clear r_608, W_size r_610, W_isEmpty r_610, W_isFull r_610, W_has r_610, W_clear r_610, Wz_rt, Wz_cnd, Wz_lI, Wz_lW, Wz_lL, Wz_cl, Wz_cv, Wz_nz, Wz_gI, Wz_gR, Wz_sI, Wz_aI, Wz_aZ, Wz_aL, Wz_aN, Wz_aR, Wz_tI, Wz_tZ, Wz_tL, Option.some.injEq, exists_eq_left', zB_0, zB_1, true_and, and_true, true_implies, not_true_eq_false, false_implies, not_false_eq_true, Classical.not_not, g_0, g_1, g_2, g_3, g_4, g_5, g_327, g_328, g_329, g_330, g_331, g_332, g_333, g_334, g_335, g_336, g_337, g_338, g_339, g_340, g_341, g_342, g_343, g_464, g_465, g_466, g_484, g_485, g_486, g_487, g_488, g_489, g_490, g_491, g_492, g_493, g_494, g_495, g_496, g_497, g_498, g_499, g_500, g_501, g_562, g_563, g_564, g_565, g_566, g_567, g_568, g_574, g_580, g_581, g_582, g_583, g_584, g_585, g_586, g_587, g_588, g_589, g_590, g_591, g_592, g_600, g_601, g_602, g_603, g_604, g_605, g_606, g_607, g_608, g_609, g_610, g_611, g_612, g_613, g_614, g_615, g_616, g_617, g_618, g_619, g_620, g_621, g_622, g_623, g_624, g_625, g_626, g_627, g_628, g_629, g_630, g_631, g_632, g_633, g_634, g_635, g_636, g_637, g_638, g_639, g_640, g_641, g_642, g_643, g_644, g_645, g_646, g_647, g_648, g_649, g_650, g_651, g_652, g_653, g_654, g_655, g_656, g_657, g_658, g_659, g_660, g_661, g_662, g_0_0, g_0_1, g_0_2, g_0_3, g_0_4, g_0_5, g_0_6, g_0_7, g_0_8, g_0_9, g_0_10, g_0_11, g_1_0, g_3_0, g_327_0, g_327_1, g_327_2, g_327_3, g_328_0, g_330_0, g_332_0, g_334_0, g_336_0, g_336_1, g_336_2, g_336_3, g_337_0, g_339_0, g_341_0, g_464_0, g_464_1, g_484_0, g_484_1, g_484_2, g_485_0, g_487_0, g_489_0, g_491_0, g_491_1, g_491_2, g_491_3, g_491_4, g_491_5, g_491_6, g_491_7, g_496_0, g_498_0, g_500_0, g_500_1, g_500_3, g_500_4, g_500_5, g_500_6, g_500_7, g_562_0, g_564_0, g_566_0, g_580_0, g_580_1, g_580_2, g_580_3, g_581_0, g_583_0, g_585_0, g_588_1, g_588_2, g_588_3, g_588_4, g_588_6, g_601_0, g_601_1, g_601_2, g_601_3, g_601_4, g_601_5, g_601_6, g_601_7, g_601_8, g_608_0, g_610_0, g_612_0, g_612_2, g_612_4, g_612_5, g_612_7, g_612_8, g_612_9, g_612_10, g_612_11, g_612_12, g_612_13, g_612_14, g_612_15, g_612_16, g_612_19, g_612_20, g_612_22, g_612_24, g_612_25, g_612_26, g_612_27, g_612_28, g_612_30, g_612_31, g_612_32, g_612_33, g_612_34, g_612_36, g_612_37, g_612_38, g_612_39, g_612_40, g_612_41, g_612_42, g_612_43, g_612_44, g_612_46, g_612_47, g_612_48, g_612_49, g_612_50, g_612_53, g_612_56, g_612_57, g_612_58, g_612_59, g_612_61, g_612_62, g_612_63, g_612_64, gT k3, c2, W_at r_330 (show σ.1 330 1 ≤ ((40 : Nat) : Int) by omega), W_at r_332 (show σ.1 332 1 ≤ ((40 : Nat) : Int) by omega), W_at r_328 (show σ.1 328 1 ≤ ((40 : Nat) : Int) by omega)]
    refine ⟨fun c => ?_, fun c => ?_⟩
    · have ek : k = m := by omega
      subst ek
      exact hQ σ hL hC0 h1 h2
    · have kk : k < m := by omega
      have pk := hm.2 k kk
      have pb := pcP_b hI k (fun i hi => hm.2 i (by omega))
      have sl := sgS_len hI k (fun i hi => hm.2 i (by omega))
      have hk2 : 0 ≤ (k : Int) ∧ (k : Int) < (m : Int) := by omega
      have hp2 : 0 ≤ pcP τ k ∧ pcP τ k < τ.1 328 1 := by omega
      have c31 : σ.1 (330 + 1) (k : Int) = (if pcR τ k = -1 then 99 else pcR τ k) := (c3 k kk).1
      have c32 : σ.1 (332 + 1) (k : Int) = pcP τ k := (c3 k kk).2
      have e9' : σ.1 (328 + 1) (pcP τ k) = τ.1 329 (pcP τ k) := e9 _
      simp only [c1, if_pos hk2, c31, c32, e8, if_pos hp2, e9']
      have rb := ruS_b hI (s := pcP τ k) (by omega) pk
      rw [show ruS τ (τ.1 327 4) (pcP τ k) = pcR τ k from rfl] at rb
      rw [sgS] at ih'
      by_cases d : pcR τ k = -1
      · rw [if_pos d]
        rw [if_pos d] at ih'
        refine ⟨fun _ => ?_, fun z => absurd rfl z⟩
        have lb := k4.2.2 (pcP τ k) (by omega) pk
        refine ⟨by omega, W_add r_334 (by omega) (by omega) (by decide) ⟨by omega, ?_⟩⟩
        rw [← lb.2]
        have hS : onS σ (addF σ.1 334 (-1 - τ.1 626 (pcP τ k)), σ.2) := fun a x a1 a2 => by
          simp only [addF]
          rw [v2_ne _ _ _ _ a1, v2_ne _ _ _ _ a2]
        refine ih' _ (by omega) (by omega) (hL.onS hS) ⟨?_, ?_, fun i hi => ?_⟩ ?_ ⟨?_, ?_⟩
        · exact (hS 330 1 (by decide) (by decide)).trans c1
        · exact (hS 332 1 (by decide) (by decide)).trans c2
        · rw [hS 331 i (by decide) (by decide), hS 333 i (by decide) (by decide)]
          exact c3 i hi
        · simp only [addF, v2_self, h1, List.length_cons]; omega
        · simp only [addF, h1]
          rw [v2_ne _ _ _ _ (by decide)]
          exact v2_self _ _ _ _
        · refine stk_cg _ (fun i i0 i1 => ?_) h2
          simp only [addF]
          rw [v2_ne _ _ _ _ (by decide), v2_nk _ _ _ _ (by omega)]
      · rw [if_neg d]
        rw [if_neg d] at ih'
        rcases rb with rb | ⟨r1, r2, r3⟩
        · exact absurd rb d
        · refine ⟨fun z => absurd z (by omega), fun _ => (W8_lets k3 r1.1 (by omega)).2 ?_⟩
          unfold Z4_write_78
          refine W4_wr_78 hI r1.1 r1.2 (s0 := sgS τ k) (by omega) (by omega) hL (fun ρ q1 q2 q3 => ?_) NN 0 σ (by have := (let_b hI r1.1 r1.2).1; omega) (by have := (let_b hI r1.1 r1.2).1; unfold NN; omega) (fun _ _ _ _ => rfl) h1 h2
          refine ih' ρ (by omega) (by omega) (hL.onS q1) ⟨?_, ?_, fun i hi => ?_⟩ q2 q3
          · exact (q1 330 1 (by decide) (by decide)).trans c1
          · exact (q1 332 1 (by decide) (by decide)).trans c2
          · rw [q1 331 i (by decide) (by decide), q1 333 i (by decide) (by decide)]
            exact c3 i hi
set_option maxRecDepth 100000 in
theorem W4_write {τ : kzM} (hI : Inv τ) {Q : Unit → kzM → Prop} (hQ : ∀ ρ m, tabL τ ρ → pcs τ m → ρ.1 334 1 = (sgS τ m).length → stk (ρ.1 335) (sgS τ m) → Q () ρ) : Wz (Z4_write kdG0 327 (6 + 107 * (τ.1 327 4).toNat)) τ Q := by
  unfold Z4_write Z4_write_15
  simp only [W_size r_1, W_isEmpty r_1, W_isFull r_1, W_has r_1, W_clear r_1, W_size r_3, W_isEmpty r_3, W_isFull r_3, W_has r_3, W_clear r_3, W_size r_328, W_isEmpty r_328, W_isFull r_328, W_has r_328, W_clear r_328, W_size r_330, W_isEmpty r_330, W_isFull r_330, W_has r_330, W_clear r_330, W_size r_332, W_isEmpty r_332, W_isFull r_332, W_has r_332, W_clear r_332, W_size r_334, W_isEmpty r_334, W_isFull r_334, W_has r_334, W_clear r_334, W_size r_337, W_isEmpty r_337, W_isFull r_337, W_has r_337, W_clear r_337, W_size r_339, W_isEmpty r_339, W_isFull r_339, W_has r_339, W_clear r_339, W_size r_341, W_isEmpty r_341, W_isFull r_341, W_has r_341, W_clear r_341, W_size r_485, W_isEmpty r_485, W_isFull r_485, W_has r_485, W_clear r_485, W_size r_487, W_isEmpty r_487, W_isFull r_487, W_has r_487, W_clear r_487, W_size r_489, W_isEmpty r_489, W_isFull r_489, W_has r_489, W_clear r_489, W_size r_496, W_isEmpty r_496, W_isFull r_496, W_has r_496, W_clear r_496, W_size r_498, W_isEmpty r_498, W_isFull r_498, W_has r_498, W_clear r_498, W_size r_562, W_isEmpty r_562, W_isFull r_562, W_has r_562, W_clear r_562, W_size r_564, W_isEmpty r_564, W_isFull r_564, W_has r_564, W_clear r_564, W_size r_566, W_isEmpty r_566, W_isFull r_566, W_has r_566, W_clear r_566, W_size r_581, W_isEmpty r_581, W_isFull r_581, W_has r_581, W_clear r_581, W_size r_583, W_isEmpty r_583, W_isFull r_583, W_has r_583, W_clear r_583, W_size r_585, W_isEmpty r_585, W_isFull r_585, W_has r_585, W_clear r_585, W_size r_608, W_isEmpty r_608, W_isFull r_608, W_has r_608, W_clear r_608, W_size r_610, W_isEmpty r_610, W_isFull r_610, W_has r_610, W_clear r_610, Wz_rt, Wz_cnd, Wz_lI, Wz_lW, Wz_lL, Wz_cl, Wz_cv, Wz_nz, Wz_gI, Wz_gR, Wz_sI, Wz_aI, Wz_aZ, Wz_aL, Wz_aN, Wz_aR, Wz_tI, Wz_tZ, Wz_tL, Option.some.injEq, exists_eq_left', zB_0, zB_1, true_and, and_true, true_implies, not_true_eq_false, false_implies, not_false_eq_true, Classical.not_not, g_0, g_1, g_2, g_3, g_4, g_5, g_327, g_328, g_329, g_330, g_331, g_332, g_333, g_334, g_335, g_336, g_337, g_338, g_339, g_340, g_341, g_342, g_343, g_464, g_465, g_466, g_484, g_485, g_486, g_487, g_488, g_489, g_490, g_491, g_492, g_493, g_494, g_495, g_496, g_497, g_498, g_499, g_500, g_501, g_562, g_563, g_564, g_565, g_566, g_567, g_568, g_574, g_580, g_581, g_582, g_583, g_584, g_585, g_586, g_587, g_588, g_589, g_590, g_591, g_592, g_600, g_601, g_602, g_603, g_604, g_605, g_606, g_607, g_608, g_609, g_610, g_611, g_612, g_613, g_614, g_615, g_616, g_617, g_618, g_619, g_620, g_621, g_622, g_623, g_624, g_625, g_626, g_627, g_628, g_629, g_630, g_631, g_632, g_633, g_634, g_635, g_636, g_637, g_638, g_639, g_640, g_641, g_642, g_643, g_644, g_645, g_646, g_647, g_648, g_649, g_650, g_651, g_652, g_653, g_654, g_655, g_656, g_657, g_658, g_659, g_660, g_661, g_662, g_0_0, g_0_1, g_0_2, g_0_3, g_0_4, g_0_5, g_0_6, g_0_7, g_0_8, g_0_9, g_0_10, g_0_11, g_1_0, g_3_0, g_327_0, g_327_1, g_327_2, g_327_3, g_328_0, g_330_0, g_332_0, g_334_0, g_336_0, g_336_1, g_336_2, g_336_3, g_337_0, g_339_0, g_341_0, g_464_0, g_464_1, g_484_0, g_484_1, g_484_2, g_485_0, g_487_0, g_489_0, g_491_0, g_491_1, g_491_2, g_491_3, g_491_4, g_491_5, g_491_6, g_491_7, g_496_0, g_498_0, g_500_0, g_500_1, g_500_3, g_500_4, g_500_5, g_500_6, g_500_7, g_562_0, g_564_0, g_566_0, g_580_0, g_580_1, g_580_2, g_580_3, g_581_0, g_583_0, g_585_0, g_588_1, g_588_2, g_588_3, g_588_4, g_588_6, g_601_0, g_601_1, g_601_2, g_601_3, g_601_4, g_601_5, g_601_6, g_601_7, g_601_8, g_608_0, g_610_0, g_612_0, g_612_2, g_612_4, g_612_5, g_612_7, g_612_8, g_612_9, g_612_10, g_612_11, g_612_12, g_612_13, g_612_14, g_612_15, g_612_16, g_612_19, g_612_20, g_612_22, g_612_24, g_612_25, g_612_26, g_612_27, g_612_28, g_612_30, g_612_31, g_612_32, g_612_33, g_612_34, g_612_36, g_612_37, g_612_38, g_612_39, g_612_40, g_612_41, g_612_42, g_612_43, g_612_44, g_612_46, g_612_47, g_612_48, g_612_49, g_612_50, g_612_53, g_612_56, g_612_57, g_612_58, g_612_59, g_612_61, g_612_62, g_612_63, g_612_64]
  refine W4_cut hI fun ρ m h1 h2 h3 => ?_
  have hL : tabL τ ρ := tabL.onC (fun _ _ _ => rfl) h1
  have hS : onS ρ (v2 ρ.1 334 1 0, ρ.2) := fun a x a1 a2 => v2_ne _ _ _ _ a1
  obtain ⟨c1, c2, c3⟩ := h3
  refine W4_wr_15 hI h2 (fun ζ z1 z2 z3 z4 => hQ ζ m z1 h2 z3 z4) NN 0 _ (by omega) (by have := (pcs_b hI h2).1; unfold NN; omega) (hL.onS hS) ⟨?_, ?_, fun i hi => ?_⟩ (by dsimp only; rw [v2_self]; rfl) trivial
  · exact (hS 330 1 (by decide) (by decide)).trans c1
  · exact (hS 332 1 (by decide) (by decide)).trans c2
  · rw [hS 331 i (by decide) (by decide), hS 333 i (by decide) (by decide)]
    exact c3 i hi
