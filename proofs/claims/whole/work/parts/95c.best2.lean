/-! layouts: the least costly, the class's search -/
def onP (σ : kzM) (p : List Nat) : Prop := ∀ i : Int, 0 ≤ i → i < p.length → σ.1 600 i = rowL p i
def resB (τ : kzM) (L : List (List Nat)) (σ ρ : kzM) (p : List Nat) : Prop := tabL τ ρ ∧ onP ρ p ∧ (ρ.1 588 7, ρ.1 588 8) = L.foldl (stpB τ (τ.1 588 0).toNat) (σ.1 588 7, σ.1 588 8)
def extS (n r : Nat) (p : List Nat) (s : Nat) : List (List Nat) := if s ∈ p then [] else ext n r (p ++ [s])
def recB (τ : kzM) (r : Nat) (K : Nat → Int → Int → Int → kzM → Option (Unit × kzM)) : Prop := ∀ (p : List Nat) (m : Nat) (l1 cost : Int) (σ : kzM) (Q : Unit → kzM → Prop), p.length + r = (τ.1 588 0).toNat → l1 = p.length → cost = wS (adP τ (rowL p)) p.length → m < 128 → (∀ s, s < 7 → (m.testBit s = true ↔ s ∈ p)) → (∀ x, x ∈ p → x < (τ.1 588 0).toNat) → tabL τ σ → onP σ p → (∀ ρ, resB τ (ext (τ.1 588 0).toNat r p) σ ρ p → Q () ρ) → Wz (K 588 l1 (m : Int) cost) σ Q
set_option maxRecDepth 100000 in
theorem W3_po_34 {τ : kzM} (hI : Inv τ) {r : Nat} {K : Nat → Int → Int → Int → kzM → Option (Unit × kzM)} (hK : recB τ r K) {p : List Nat} {m : Nat} {l1 cost : Int} (hl : p.length + (r + 1) = (τ.1 588 0).toNat) (hl1 : l1 = p.length) (hc : cost = wS (adP τ (rowL p)) p.length) (hm : m < 128) (hb : ∀ s, s < 7 → (m.testBit s = true ↔ s ∈ p)) (hn : ∀ x, x ∈ p → x < (τ.1 588 0).toNat) : ∀ (N s k : Nat) (σ : kzM) (Q : Unit → kzM → Prop), s + k = (τ.1 588 0).toNat → k < N → tabL τ σ → onP σ p → (∀ ρ, resB τ ((List.range' s k).flatMap (extS (τ.1 588 0).toNat r p)) σ ρ p → Q () ρ) → Wz (lp (fun _ _ _ _ _ _ => none) (Z3_placeOnward_34B kdG0 K) N 588 l1 (m : Int) cost (s : Int)) σ Q := by
  have i9 := hI.2.2.2.2.2.2.2.2
  unfold I9 at i9
  have s1 := i9.1
  intro N
  induction N with
  | zero => intro s k; intros; omega
  | succ N ih =>
    intro s k σ Q hk hN hL hp hQ
    rw [lp_succ]
    generalize lp (fun _ _ _ _ _ _ => none) (Z3_placeOnward_34B kdG0 K) N = L at ih ⊢
    have s0 : σ.1 588 0 = τ.1 588 0 := hL 588 0 (by decide)
    unfold Z3_placeOnward_34B
    simp only [Z3_placeOnward_80, W11_hasBit, zp_0, Wz_rt, Wz_cnd, Wz_lI, Wz_lW, Wz_lL, Wz_cl, Wz_cv, Wz_nz, Wz_gI, Wz_gR, Wz_sI, Wz_aI, Wz_aZ, Wz_aL, Wz_aN, Wz_aR, Wz_tI, Wz_tZ, Wz_tL, Option.some.injEq, exists_eq_left', zB_0, zB_1, true_and, and_true, true_implies, not_true_eq_false, false_implies, not_false_eq_true, Classical.not_not, g_0, g_1, g_2, g_3, g_4, g_5, g_327, g_328, g_329, g_330, g_331, g_332, g_333, g_334, g_335, g_336, g_337, g_338, g_339, g_340, g_341, g_342, g_343, g_464, g_465, g_466, g_484, g_485, g_486, g_487, g_488, g_489, g_490, g_491, g_492, g_493, g_494, g_495, g_496, g_497, g_498, g_499, g_500, g_501, g_562, g_563, g_564, g_565, g_566, g_567, g_568, g_574, g_580, g_581, g_582, g_583, g_584, g_585, g_586, g_587, g_588, g_589, g_590, g_591, g_592, g_600, g_601, g_602, g_603, g_604, g_605, g_606, g_607, g_608, g_609, g_610, g_611, g_612, g_613, g_614, g_615, g_616, g_617, g_618, g_619, g_620, g_621, g_622, g_623, g_624, g_625, g_626, g_627, g_628, g_629, g_630, g_631, g_632, g_633, g_634, g_635, g_636, g_637, g_638, g_639, g_640, g_641, g_642, g_643, g_644, g_645, g_646, g_647, g_648, g_649, g_650, g_651, g_652, g_653, g_654, g_655, g_656, g_657, g_658, g_659, g_660, g_661, g_662, g_0_0, g_0_1, g_0_2, g_0_3, g_0_4, g_0_5, g_0_6, g_0_7, g_0_8, g_0_9, g_0_10, g_0_11, g_1_0, g_3_0, g_327_0, g_327_1, g_327_2, g_327_3, g_328_0, g_330_0, g_332_0, g_334_0, g_336_0, g_336_1, g_336_2, g_336_3, g_337_0, g_339_0, g_341_0, g_464_0, g_464_1, g_484_0, g_484_1, g_484_2, g_485_0, g_487_0, g_489_0, g_491_0, g_491_1, g_491_2, g_491_3, g_491_4, g_491_5, g_491_6, g_491_7, g_496_0, g_498_0, g_500_0, g_500_1, g_500_3, g_500_4, g_500_5, g_500_6, g_500_7, g_562_0, g_564_0, g_566_0, g_580_0, g_580_1, g_580_2, g_580_3, g_581_0, g_583_0, g_585_0, g_588_1, g_588_2, g_588_3, g_588_4, g_588_6, g_601_0, g_601_1, g_601_2, g_601_3, g_601_4, g_601_5, g_601_6, g_601_7, g_601_8, g_608_0, g_610_0, g_612_0, g_612_2, g_612_4, g_612_5, g_612_7, g_612_8, g_612_9, g_612_10, g_612_11, g_612_12, g_612_13, g_612_14, g_612_15, g_612_16, g_612_19, g_612_20, g_612_22, g_612_24, g_612_25, g_612_26, g_612_27, g_612_28, g_612_30, g_612_31, g_612_32, g_612_33, g_612_34, g_612_36, g_612_37, g_612_38, g_612_39, g_612_40, g_612_41, g_612_42, g_612_43, g_612_44, g_612_46, g_612_47, g_612_48, g_612_49, g_612_50, g_612_53, g_612_56, g_612_57, g_612_58, g_612_59, g_612_61, g_612_62, g_612_63, g_612_64, s0]
    refine ⟨fun c => ?_, fun c => ?_⟩
    · have ek : k = 0 := by omega
      subst ek
      exact hQ σ ⟨hL, hp, rfl⟩
    · obtain ⟨k', rfl⟩ : ∃ k', k = k' + 1 := ⟨k - 1, by omega⟩
      have bs := s_bs (m := m) (d := s) (by omega) (by omega)
      rw [bs, hb s (by omega)]
      refine ⟨fun d => ?_, fun d => ⟨by omega, ?_⟩⟩
      · have hL1 : tabL τ (v2 σ.1 600 l1 (s : Int), σ.2) := fun a x h => by
          dsimp only
          rw [v2_ne _ _ _ _ (fun q => h (by rw [q]; rfl))]
          exact hL a x h
        have hp1 : onP (v2 σ.1 600 l1 (s : Int), σ.2) (p ++ [s]) := fun i i0 i1 => by
          rw [List.length_append, List.length_singleton] at i1
          dsimp only
          by_cases y : i = l1
          · rw [y, v2_self, hl1, rowL_len]
          · rw [v2_nk _ _ _ _ y, rowL_app i0 (by omega)]
            exact hp i i0 (by omega)
        have hn1 : ∀ x, x ∈ p ++ [s] → x < (τ.1 588 0).toNat := fun x hx => by
          rcases List.mem_append.1 hx with hx | hx
          · exact hn x hx
          · rw [List.mem_singleton] at hx; omega
        have rb : ∀ j, 0 ≤ j → j ≤ l1 → 0 ≤ rowL (p ++ [s]) j ∧ rowL (p ++ [s]) j < 7 := fun j j0 j1 => by
          have := rowL_b hn1 j0 (by rw [List.length_append, List.length_singleton]; omega)
          omega
        have hp2 : ∀ j, 0 ≤ j → j ≤ l1 → (v2 σ.1 600 l1 (s : Int), σ.2).1 600 j = rowL (p ++ [s]) j := fun j j0 j1 => hp1 j j0 (by rw [List.length_append, List.length_singleton]; omega)
        have ab := adP_b hI (p := rowL (p ++ [s])) (i := l1) (by omega) (by omega) rb
        have ec : cost = wS (adP τ (rowL (p ++ [s]))) p.length := by
          rw [hc]
          exact wS_congr _ fun j j0 j1 => adP_cg j0 fun x x0 x1 => (rowL_app x0 (by omega)).symm
        have cb := wS_b (p := adP τ (rowL (p ++ [s]))) (m := 20180) p.length (fun x x0 x1 => adP_b hI x0 (by omega) (fun j j0 j1 => rb j j0 (by omega)))
        have so := s_or (m := m) (d := s) (by omega) (by omega)
        have ob := (s_bz0 ⟨m, hm⟩ ⟨s, by omega⟩).2
        dsimp only at ob
        refine ⟨by omega, W3_added (hI.tabL hL1) (by omega) (by omega) (fun j j0 j1 => by rw [hp2 j j0 j1]; exact rb j j0 j1) ?_⟩
        rw [adC_L hL1 (by omega) (by omega), adP_cg (q := rowL (p ++ [s])) (by omega) hp2, so]
        refine ⟨by omega, by omega, by omega, ?_⟩
        refine hK (p ++ [s]) (m ||| (1 <<< s)) _ _ _ _ (by rw [List.length_append, List.length_singleton]; omega) (by rw [List.length_append, List.length_singleton]; omega) ?_ ob (fun x hx => ?_) hn1 hL1 hp1 ?_
        · rw [List.length_append, List.length_singleton, show wS (adP τ (rowL (p ++ [s]))) (p.length + 1) = wS (adP τ (rowL (p ++ [s]))) p.length + adP τ (rowL (p ++ [s])) p.length from rfl, ← ec, ← hl1]
        · rw [tb_or, hb x hx, List.mem_append, List.mem_singleton]
        · rintro ρ ⟨r1, r2, r3⟩
          refine ⟨by omega, ih (s + 1) k' ρ Q (by omega) (by omega) r1 (fun i i0 i1 => ?_) ?_⟩
          · rw [r2 i i0 (by rw [List.length_append, List.length_singleton]; omega)]
            exact rowL_app i0 i1
          · rintro ζ ⟨z1, z2, z3⟩
            refine hQ ζ ⟨z1, z2, ?_⟩
            rw [z3, r3, List.range'_succ, List.flatMap_cons, List.foldl_append, show extS (τ.1 588 0).toNat r p s = ext (τ.1 588 0).toNat r (p ++ [s]) from if_neg d]
            rfl
      · refine ih (s + 1) k' σ Q (by omega) (by omega) hL hp ?_
        rintro ζ ⟨z1, z2, z3⟩
        refine hQ ζ ⟨z1, z2, ?_⟩
        rw [z3, List.range'_succ, List.flatMap_cons, show extS (τ.1 588 0).toNat r p s = [] from if_pos d]
        rfl
set_option maxRecDepth 100000 in
theorem W3_po {τ : kzM} (hI : Inv τ) : ∀ (r N : Nat), r < N → recB τ r (lp (fun _ _ _ _ _ => none) (Z3_placeOnward_0B kdG0) N) := by
  have i9 := hI.2.2.2.2.2.2.2.2
  unfold I9 at i9
  have s1 := i9.1
  intro r
  induction r with
  | zero =>
    intro N hN p m l1 cost σ Q hl hl1 hc hm hb hn hL hp hQ
    obtain ⟨N, rfl⟩ : ∃ M, N = M + 1 := ⟨N - 1, by omega⟩
    rw [lp_succ]
    generalize lp (fun _ _ _ _ _ => none) (Z3_placeOnward_0B kdG0) N = L
    have s0 : σ.1 588 0 = τ.1 588 0 := hL 588 0 (by decide)
    have ep : cP τ (rowL p) = cost := by
      rw [hc]; unfold cP; rw [← hl]; rfl
    unfold Z3_placeOnward_0B
    simp only [Wz_rt, Wz_cnd, Wz_lI, Wz_lW, Wz_lL, Wz_cl, Wz_cv, Wz_nz, Wz_gI, Wz_gR, Wz_sI, Wz_aI, Wz_aZ, Wz_aL, Wz_aN, Wz_aR, Wz_tI, Wz_tZ, Wz_tL, Option.some.injEq, exists_eq_left', zB_0, zB_1, true_and, and_true, true_implies, not_true_eq_false, false_implies, not_false_eq_true, Classical.not_not, g_0, g_1, g_2, g_3, g_4, g_5, g_327, g_328, g_329, g_330, g_331, g_332, g_333, g_334, g_335, g_336, g_337, g_338, g_339, g_340, g_341, g_342, g_343, g_464, g_465, g_466, g_484, g_485, g_486, g_487, g_488, g_489, g_490, g_491, g_492, g_493, g_494, g_495, g_496, g_497, g_498, g_499, g_500, g_501, g_562, g_563, g_564, g_565, g_566, g_567, g_568, g_574, g_580, g_581, g_582, g_583, g_584, g_585, g_586, g_587, g_588, g_589, g_590, g_591, g_592, g_600, g_601, g_602, g_603, g_604, g_605, g_606, g_607, g_608, g_609, g_610, g_611, g_612, g_613, g_614, g_615, g_616, g_617, g_618, g_619, g_620, g_621, g_622, g_623, g_624, g_625, g_626, g_627, g_628, g_629, g_630, g_631, g_632, g_633, g_634, g_635, g_636, g_637, g_638, g_639, g_640, g_641, g_642, g_643, g_644, g_645, g_646, g_647, g_648, g_649, g_650, g_651, g_652, g_653, g_654, g_655, g_656, g_657, g_658, g_659, g_660, g_661, g_662, g_0_0, g_0_1, g_0_2, g_0_3, g_0_4, g_0_5, g_0_6, g_0_7, g_0_8, g_0_9, g_0_10, g_0_11, g_1_0, g_3_0, g_327_0, g_327_1, g_327_2, g_327_3, g_328_0, g_330_0, g_332_0, g_334_0, g_336_0, g_336_1, g_336_2, g_336_3, g_337_0, g_339_0, g_341_0, g_464_0, g_464_1, g_484_0, g_484_1, g_484_2, g_485_0, g_487_0, g_489_0, g_491_0, g_491_1, g_491_2, g_491_3, g_491_4, g_491_5, g_491_6, g_491_7, g_496_0, g_498_0, g_500_0, g_500_1, g_500_3, g_500_4, g_500_5, g_500_6, g_500_7, g_562_0, g_564_0, g_566_0, g_580_0, g_580_1, g_580_2, g_580_3, g_581_0, g_583_0, g_585_0, g_588_1, g_588_2, g_588_3, g_588_4, g_588_6, g_601_0, g_601_1, g_601_2, g_601_3, g_601_4, g_601_5, g_601_6, g_601_7, g_601_8, g_608_0, g_610_0, g_612_0, g_612_2, g_612_4, g_612_5, g_612_7, g_612_8, g_612_9, g_612_10, g_612_11, g_612_12, g_612_13, g_612_14, g_612_15, g_612_16, g_612_19, g_612_20, g_612_22, g_612_24, g_612_25, g_612_26, g_612_27, g_612_28, g_612_30, g_612_31, g_612_32, g_612_33, g_612_34, g_612_36, g_612_37, g_612_38, g_612_39, g_612_40, g_612_41, g_612_42, g_612_43, g_612_44, g_612_46, g_612_47, g_612_48, g_612_49, g_612_50, g_612_53, g_612_56, g_612_57, g_612_58, g_612_59, g_612_61, g_612_62, g_612_63, g_612_64, s0]
    refine ⟨fun c => ⟨fun d => absurd d (by omega), fun _ => ?_⟩, fun c => ?_⟩
    · have e6 : ∀ x, (v2 σ.1 588 7 cost) 600 x = σ.1 600 x := fun x => v2_ne _ _ _ _ (by decide)
      refine W3_digits (n := (τ.1 588 0).toNat) ?_ (by omega) (fun i i0 i1 => ?_) ?_
      · dsimp only
        rw [v2_nk _ _ _ _ (by decide), s0]
        omega
      · dsimp only
        rw [e6, hp i i0 (by omega)]
        have := rowL_b hn i0 (by omega)
        omega
      · refine hQ _ ⟨fun a x h => ?_, fun i i0 i1 => ?_, ?_⟩
        · dsimp only
          rw [v2_eq, if_neg (fun q => h (by rw [q.1, q.2]; rfl)), v2_eq, if_neg (fun q => h (by rw [q.1, q.2]; rfl))]
          exact hL a x h
        · dsimp only
          rw [v2_ne _ _ _ _ (by decide), e6]
          exact hp i i0 i1
        · dsimp only
          rw [v2_self, v2_nk _ _ _ _ (by decide), v2_self]
          unfold ext
          rw [List.foldl_cons, List.foldl_nil, stpB, if_pos (by rw [ep]; exact c), ep]
          refine congrArg (Prod.mk cost) (dgF_cg _ fun k k0 k1 => ?_)
          rw [e6]
          exact hp k k0 (by omega)
    · refine hQ σ ⟨hL, hp, ?_⟩
      unfold ext
      rw [List.foldl_cons, List.foldl_nil, stpB, if_neg (by rw [ep]; exact c)]
  | succ r ih =>
    intro N hN p m l1 cost σ Q hl hl1 hc hm hb hn hL hp hQ
    obtain ⟨N, rfl⟩ : ∃ M, N = M + 1 := ⟨N - 1, by omega⟩
    rw [lp_succ]
    have hK := ih N (by omega)
    generalize lp (fun _ _ _ _ _ => none) (Z3_placeOnward_0B kdG0) N = L at hK ⊢
    have s0 : σ.1 588 0 = τ.1 588 0 := hL 588 0 (by decide)
    unfold Z3_placeOnward_0B
    simp only [Wz_rt, Wz_cnd, Wz_lI, Wz_lW, Wz_lL, Wz_cl, Wz_cv, Wz_nz, Wz_gI, Wz_gR, Wz_sI, Wz_aI, Wz_aZ, Wz_aL, Wz_aN, Wz_aR, Wz_tI, Wz_tZ, Wz_tL, Option.some.injEq, exists_eq_left', zB_0, zB_1, true_and, and_true, true_implies, not_true_eq_false, false_implies, not_false_eq_true, Classical.not_not, g_0, g_1, g_2, g_3, g_4, g_5, g_327, g_328, g_329, g_330, g_331, g_332, g_333, g_334, g_335, g_336, g_337, g_338, g_339, g_340, g_341, g_342, g_343, g_464, g_465, g_466, g_484, g_485, g_486, g_487, g_488, g_489, g_490, g_491, g_492, g_493, g_494, g_495, g_496, g_497, g_498, g_499, g_500, g_501, g_562, g_563, g_564, g_565, g_566, g_567, g_568, g_574, g_580, g_581, g_582, g_583, g_584, g_585, g_586, g_587, g_588, g_589, g_590, g_591, g_592, g_600, g_601, g_602, g_603, g_604, g_605, g_606, g_607, g_608, g_609, g_610, g_611, g_612, g_613, g_614, g_615, g_616, g_617, g_618, g_619, g_620, g_621, g_622, g_623, g_624, g_625, g_626, g_627, g_628, g_629, g_630, g_631, g_632, g_633, g_634, g_635, g_636, g_637, g_638, g_639, g_640, g_641, g_642, g_643, g_644, g_645, g_646, g_647, g_648, g_649, g_650, g_651, g_652, g_653, g_654, g_655, g_656, g_657, g_658, g_659, g_660, g_661, g_662, g_0_0, g_0_1, g_0_2, g_0_3, g_0_4, g_0_5, g_0_6, g_0_7, g_0_8, g_0_9, g_0_10, g_0_11, g_1_0, g_3_0, g_327_0, g_327_1, g_327_2, g_327_3, g_328_0, g_330_0, g_332_0, g_334_0, g_336_0, g_336_1, g_336_2, g_336_3, g_337_0, g_339_0, g_341_0, g_464_0, g_464_1, g_484_0, g_484_1, g_484_2, g_485_0, g_487_0, g_489_0, g_491_0, g_491_1, g_491_2, g_491_3, g_491_4, g_491_5, g_491_6, g_491_7, g_496_0, g_498_0, g_500_0, g_500_1, g_500_3, g_500_4, g_500_5, g_500_6, g_500_7, g_562_0, g_564_0, g_566_0, g_580_0, g_580_1, g_580_2, g_580_3, g_581_0, g_583_0, g_585_0, g_588_1, g_588_2, g_588_3, g_588_4, g_588_6, g_601_0, g_601_1, g_601_2, g_601_3, g_601_4, g_601_5, g_601_6, g_601_7, g_601_8, g_608_0, g_610_0, g_612_0, g_612_2, g_612_4, g_612_5, g_612_7, g_612_8, g_612_9, g_612_10, g_612_11, g_612_12, g_612_13, g_612_14, g_612_15, g_612_16, g_612_19, g_612_20, g_612_22, g_612_24, g_612_25, g_612_26, g_612_27, g_612_28, g_612_30, g_612_31, g_612_32, g_612_33, g_612_34, g_612_36, g_612_37, g_612_38, g_612_39, g_612_40, g_612_41, g_612_42, g_612_43, g_612_44, g_612_46, g_612_47, g_612_48, g_612_49, g_612_50, g_612_53, g_612_56, g_612_57, g_612_58, g_612_59, g_612_61, g_612_62, g_612_63, g_612_64, s0]
    refine ⟨fun c => ⟨fun d => ?_, fun d => absurd d (by omega)⟩, fun c => ?_⟩
    · unfold Z3_placeOnward_34
      exact W3_po_34 hI hK hl hl1 hc hm hb hn NN 0 (τ.1 588 0).toNat σ Q (by omega) (by unfold NN; omega) hL hp (fun ρ h => hQ ρ h)
    · refine hQ σ ⟨hL, hp, ?_⟩
      rw [fold_keep]
      intro q hq
      obtain ⟨a, b, d, _⟩ := ext_mem _ _ _ hq
      have := part_le hI a (by omega) (d hn)
      dsimp only
      omega
set_option maxRecDepth 100000 in
theorem W3_leastCostly {τ : kzM} (hI : Inv τ) {Q : Int → kzM → Prop} (hQ : ∀ σ, tabL τ σ → Q ((allP (τ.1 588 0).toNat).foldl (stpB τ (τ.1 588 0).toNat) (1000000000, 0)).2 σ) : Wz (Z3_leastCostly kdG0 588) τ Q := by
  simp only [Z3_leastCostly, Z3_placeOnward, Wz_rt, Wz_cnd, Wz_lI, Wz_lW, Wz_lL, Wz_cl, Wz_cv, Wz_nz, Wz_gI, Wz_gR, Wz_sI, Wz_aI, Wz_aZ, Wz_aL, Wz_aN, Wz_aR, Wz_tI, Wz_tZ, Wz_tL, Option.some.injEq, exists_eq_left', zB_0, zB_1, true_and, and_true, true_implies, not_true_eq_false, false_implies, not_false_eq_true, Classical.not_not, g_0, g_1, g_2, g_3, g_4, g_5, g_327, g_328, g_329, g_330, g_331, g_332, g_333, g_334, g_335, g_336, g_337, g_338, g_339, g_340, g_341, g_342, g_343, g_464, g_465, g_466, g_484, g_485, g_486, g_487, g_488, g_489, g_490, g_491, g_492, g_493, g_494, g_495, g_496, g_497, g_498, g_499, g_500, g_501, g_562, g_563, g_564, g_565, g_566, g_567, g_568, g_574, g_580, g_581, g_582, g_583, g_584, g_585, g_586, g_587, g_588, g_589, g_590, g_591, g_592, g_600, g_601, g_602, g_603, g_604, g_605, g_606, g_607, g_608, g_609, g_610, g_611, g_612, g_613, g_614, g_615, g_616, g_617, g_618, g_619, g_620, g_621, g_622, g_623, g_624, g_625, g_626, g_627, g_628, g_629, g_630, g_631, g_632, g_633, g_634, g_635, g_636, g_637, g_638, g_639, g_640, g_641, g_642, g_643, g_644, g_645, g_646, g_647, g_648, g_649, g_650, g_651, g_652, g_653, g_654, g_655, g_656, g_657, g_658, g_659, g_660, g_661, g_662, g_0_0, g_0_1, g_0_2, g_0_3, g_0_4, g_0_5, g_0_6, g_0_7, g_0_8, g_0_9, g_0_10, g_0_11, g_1_0, g_3_0, g_327_0, g_327_1, g_327_2, g_327_3, g_328_0, g_330_0, g_332_0, g_334_0, g_336_0, g_336_1, g_336_2, g_336_3, g_337_0, g_339_0, g_341_0, g_464_0, g_464_1, g_484_0, g_484_1, g_484_2, g_485_0, g_487_0, g_489_0, g_491_0, g_491_1, g_491_2, g_491_3, g_491_4, g_491_5, g_491_6, g_491_7, g_496_0, g_498_0, g_500_0, g_500_1, g_500_3, g_500_4, g_500_5, g_500_6, g_500_7, g_562_0, g_564_0, g_566_0, g_580_0, g_580_1, g_580_2, g_580_3, g_581_0, g_583_0, g_585_0, g_588_1, g_588_2, g_588_3, g_588_4, g_588_6, g_601_0, g_601_1, g_601_2, g_601_3, g_601_4, g_601_5, g_601_6, g_601_7, g_601_8, g_608_0, g_610_0, g_612_0, g_612_2, g_612_4, g_612_5, g_612_7, g_612_8, g_612_9, g_612_10, g_612_11, g_612_12, g_612_13, g_612_14, g_612_15, g_612_16, g_612_19, g_612_20, g_612_22, g_612_24, g_612_25, g_612_26, g_612_27, g_612_28, g_612_30, g_612_31, g_612_32, g_612_33, g_612_34, g_612_36, g_612_37, g_612_38, g_612_39, g_612_40, g_612_41, g_612_42, g_612_43, g_612_44, g_612_46, g_612_47, g_612_48, g_612_49, g_612_50, g_612_53, g_612_56, g_612_57, g_612_58, g_612_59, g_612_61, g_612_62, g_612_63, g_612_64]
  refine W3_po hI (τ.1 588 0).toNat 12 ?_ [] 0 0 0 _ _ (by simp) rfl rfl (by decide) (fun s _ => by rw [Nat.zero_testBit]; simp) (fun x hx => absurd hx List.not_mem_nil) (fun a x h => ?_) (fun i i0 i1 => absurd i1 (by simp; omega)) ?_
  · have i9 := hI.2.2.2.2.2.2.2.2
    unfold I9 at i9
    omega
  · dsimp only
    rw [v2_eq, if_neg (fun q => h (by rw [q.1, q.2]; rfl)), v2_eq, if_neg (fun q => h (by rw [q.1, q.2]; rfl))]
  · rintro ρ ⟨r1, r2, r3⟩
    have q := hQ ρ r1
    rw [show (1000000000, 0) = ((v2 (v2 τ.1 588 7 1000000000) 588 8 0) 588 7, (v2 (v2 τ.1 588 7 1000000000) 588 8 0) 588 8) by rw [v2_self, v2_nk _ _ _ _ (by decide), v2_self]] at q
    rw [show allP (τ.1 588 0).toNat = ext (τ.1 588 0).toNat (τ.1 588 0).toNat [] from rfl] at q
    dsimp only at r3
    rw [← r3] at q
    exact q
