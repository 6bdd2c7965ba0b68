/-! ways: the class's peak -/
def onK (τ σ : kzM) : Prop := ∀ a x, a ≠ 605 → a ≠ 606 → σ.1 a x = τ.1 a x
theorem onK.tr {τ σ ρ : kzM} (h : onK τ σ) (k : onK σ ρ) : onK τ ρ := fun a x y z => (k a x y z).trans (h a x y z)
/-- as lisC, whatever else of the class's scratch changes -/
theorem lisC.on {τ σ ρ : kzM} {n m : Nat} (h : lisC τ σ n m) (hL : tabL σ ρ) (k : ∀ a x, (a = 602 ∨ a = 603 ∨ a = 604 ∨ (a = 601 ∧ (x = 9 ∨ x = 10))) → ρ.1 a x = σ.1 a x) : lisC τ ρ n m := by
  refine ⟨h.1.tr hL, by rw [k 601 9 (by omega)]; exact h.2.1, by rw [k 601 10 (by omega)]; exact h.2.2.1, fun i i0 i1 => ?_⟩
  rw [k 602 i (by omega), k 603 i (by omega), show ρ.1 604 = σ.1 604 from funext fun x => k 604 x (by omega)]
  exact h.2.2.2 i i0 i1
theorem lisC.onK {τ σ ρ : kzM} {n m : Nat} (h : lisC τ σ n m) (k : onK σ ρ) : lisC τ ρ n m := h.on (fun a x z => k a x (fun q => z (by rw [q]; rfl)) (fun q => z (by rw [q]; rfl))) (fun a x z => k a x (by omega) (by omega))
set_option maxRecDepth 100000 in
theorem W9_lu_4 {τ σ : kzM} {n : Nat} (hn : 2 ≤ n ∧ n ≤ 5) (hl : lisC τ σ n (szN n)) (he : ∃ v : Int, (0 ≤ v ∧ v < szN n) ∧ σ.1 606 v = 0) {Q : Int → kzM → Prop} (hQ : ∀ r : Int, 0 ≤ r → r < szN n → σ.1 606 r = 0 → (∀ v : Int, 0 ≤ v → v < szN n → σ.1 606 v = 0 → σ.1 605 r ≤ σ.1 605 v) → Q r σ) : ∀ (N : Nat) (j b : Int), 1 ≤ j → j ≤ szN n → szN n - j < N → 0 ≤ b → b < j → ((¬σ.1 606 b = 0 ∧ ∀ v : Int, 0 ≤ v → v < j → ¬σ.1 606 v = 0) ∨ (σ.1 606 b = 0 ∧ ∀ v : Int, 0 ≤ v → v < j → σ.1 606 v = 0 → σ.1 605 b ≤ σ.1 605 v)) → Wz (lp (fun _ _ _ _ => none) (Z9_lowestUnsettled_4B kdG0) N 601 b j) σ Q := by
  have sz := (way_n hn).2.2.2.1
  intro N
  induction N with
  | zero => intro j; intros; omega
  | succ N ih =>
    intro j b j0 j1 jN b0 b1 hb
    rw [lp_succ]
    have ih' := ih (j + 1)
    generalize lp (fun _ _ _ _ => none) (Z9_lowestUnsettled_4B kdG0) N = L at ih' ⊢
    have e9 := hl.2.1
    unfold Z9_lowestUnsettled_4B
    simp only [Z9_lowestUnsettled_45, Z9_lowestUnsettled_47, Wz_rt, Wz_cnd, Wz_lI, Wz_lW, Wz_lL, Wz_cl, Wz_cv, Wz_nz, Wz_gI, Wz_gR, Wz_sI, Wz_aI, Wz_aZ, Wz_aL, Wz_aN, Wz_aR, Wz_tI, Wz_tZ, Wz_tL, Option.some.injEq, exists_eq_left', zB_0, zB_1, true_and, and_true, true_implies, not_true_eq_false, false_implies, not_false_eq_true, Classical.not_not, g_0, g_1, g_2, g_3, g_4, g_5, g_327, g_328, g_329, g_330, g_331, g_332, g_333, g_334, g_335, g_336, g_337, g_338, g_339, g_340, g_341, g_342, g_343, g_464, g_465, g_466, g_484, g_485, g_486, g_487, g_488, g_489, g_490, g_491, g_492, g_493, g_494, g_495, g_496, g_497, g_498, g_499, g_500, g_501, g_562, g_563, g_564, g_565, g_566, g_567, g_568, g_574, g_580, g_581, g_582, g_583, g_584, g_585, g_586, g_587, g_588, g_589, g_590, g_591, g_592, g_600, g_601, g_602, g_603, g_604, g_605, g_606, g_607, g_608, g_609, g_610, g_611, g_612, g_613, g_614, g_615, g_616, g_617, g_618, g_619, g_620, g_621, g_622, g_623, g_624, g_625, g_626, g_627, g_628, g_629, g_630, g_631, g_632, g_633, g_634, g_635, g_636, g_637, g_638, g_639, g_640, g_641, g_642, g_643, g_644, g_645, g_646, g_647, g_648, g_649, g_650, g_651, g_652, g_653, g_654, g_655, g_656, g_657, g_658, g_659, g_660, g_661, g_662, g_0_0, g_0_1, g_0_2, g_0_3, g_0_4, g_0_5, g_0_6, g_0_7, g_0_8, g_0_9, g_0_10, g_0_11, g_1_0, g_3_0, g_327_0, g_327_1, g_327_2, g_327_3, g_328_0, g_330_0, g_332_0, g_334_0, g_336_0, g_336_1, g_336_2, g_336_3, g_337_0, g_339_0, g_341_0, g_464_0, g_464_1, g_484_0, g_484_1, g_484_2, g_485_0, g_487_0, g_489_0, g_491_0, g_491_1, g_491_2, g_491_3, g_491_4, g_491_5, g_491_6, g_491_7, g_496_0, g_498_0, g_500_0, g_500_1, g_500_3, g_500_4, g_500_5, g_500_6, g_500_7, g_562_0, g_564_0, g_566_0, g_580_0, g_580_1, g_580_2, g_580_3, g_581_0, g_583_0, g_585_0, g_588_1, g_588_2, g_588_3, g_588_4, g_588_6, g_601_0, g_601_1, g_601_2, g_601_3, g_601_4, g_601_5, g_601_6, g_601_7, g_601_8, g_608_0, g_610_0, g_612_0, g_612_2, g_612_4, g_612_5, g_612_7, g_612_8, g_612_9, g_612_10, g_612_11, g_612_12, g_612_13, g_612_14, g_612_15, g_612_16, g_612_19, g_612_20, g_612_22, g_612_24, g_612_25, g_612_26, g_612_27, g_612_28, g_612_30, g_612_31, g_612_32, g_612_33, g_612_34, g_612_36, g_612_37, g_612_38, g_612_39, g_612_40, g_612_41, g_612_42, g_612_43, g_612_44, g_612_46, g_612_47, g_612_48, g_612_49, g_612_50, g_612_53, g_612_56, g_612_57, g_612_58, g_612_59, g_612_61, g_612_62, g_612_63, g_612_64, e9]
    refine ⟨fun c => ?_, fun c => ⟨by omega, fun d => ⟨by omega, fun e => ⟨by omega, by omega, fun g => ⟨by omega, ih' b (by omega) (by omega) (by omega) b0 (by omega) ?_⟩, fun g => ⟨by omega, ih' j (by omega) (by omega) (by omega) (by omega) (by omega) ?_⟩⟩, fun e => ⟨by omega, ih' b (by omega) (by omega) (by omega) b0 (by omega) ?_⟩⟩, fun d => ⟨by omega, ih' j (by omega) (by omega) (by omega) (by omega) (by omega) ?_⟩⟩⟩
    · have ej : j = szN n := by omega
      subst ej
      rcases hb with ⟨_, hb⟩ | ⟨q1, q2⟩
      · obtain ⟨v, hv, hv2⟩ := he
        exact absurd hv2 (hb v hv.1 hv.2)
      · exact hQ b b0 b1 q1 q2
    · rcases hb with ⟨q1, _⟩ | ⟨q1, q2⟩
      · exact absurd d q1
      · refine Or.inr ⟨q1, fun v v0 v1 hv => ?_⟩
        by_cases y : v = j
        · rw [y]; exact g
        · exact q2 v v0 (by omega) hv
    · rcases hb with ⟨q1, _⟩ | ⟨q1, q2⟩
      · exact absurd d q1
      · refine Or.inr ⟨e, fun v v0 v1 hv => ?_⟩
        by_cases y : v = j
        · rw [y]; exact Int.le_refl _
        · have := q2 v v0 (by omega) hv
          omega
    · rcases hb with ⟨q1, _⟩ | ⟨q1, q2⟩
      · exact absurd d q1
      · refine Or.inr ⟨q1, fun v v0 v1 hv => ?_⟩
        by_cases y : v = j
        · rw [y] at hv; exact absurd hv e
        · exact q2 v v0 (by omega) hv
    · rcases hb with ⟨q1, q2⟩ | ⟨q1, _⟩
      · by_cases z : σ.1 606 j = 0
        · refine Or.inr ⟨z, fun v v0 v1 hv => ?_⟩
          by_cases y : v = j
          · rw [y]; exact Int.le_refl _
          · exact absurd hv (q2 v v0 (by omega))
        · refine Or.inl ⟨z, fun v v0 v1 => ?_⟩
          by_cases y : v = j
          · rw [y]; exact z
          · exact q2 v v0 (by omega)
      · exact absurd q1 d
set_option maxRecDepth 100000 in
theorem W9_pw_79 {τ : kzM} (hI : Inv τ) {n : Nat} (hn : 2 ≤ n ∧ n ≤ 5) (h5 : τ.1 588 0 = n) {s x g l : Int} (x0 : 0 ≤ x) (x1 : x < szN n) (hl1 : 0 ≤ l ∧ l ≤ 1000) {K : Nat → Int → Int → kzM → Option (Int × kzM)} {Q : Int → kzM → Prop} {σ0 : kzM} (hl0 : lisC τ σ0 n (szN n)) (hQ : ∀ ρ, onK σ0 ρ → pkI (szN n) (cosN τ n) (adL n) s (ρ.1 605) (ρ.1 606) → ρ.1 606 = σ0.1 606 → Wz (K 601 g (l + 1)) ρ Q) : ∀ (N : Nat) (k : Int) (σ : kzM), 0 ≤ k → k ≤ mN n → mN n - k < N → onK σ0 σ → σ.1 606 = σ0.1 606 → pkJ (szN n) (cosN τ n) (adL n) s x (fun w => ∃ y : Int, (0 ≤ y ∧ y < k) ∧ σ0.1 604 (10 * x + y) = w) (σ.1 605) (σ.1 606) → Wz (lp (fun _ _ _ _ _ _ => none) (Z9_peakOfWay_79B kdG0 K) N 601 g l x k) σ Q := by
  have sz := (way_n hn).2.2.2.1
  have me := kS_e0 ⟨n, by omega⟩ hn.1
  dsimp only at me
  intro N
  induction N with
  | zero => intro k; intros; omega
  | succ N ih =>
    intro k σ k0 k1 kN ho h6 hj
    rw [lp_succ]
    have ih' := ih (k + 1)
    generalize lp (fun _ _ _ _ _ _ => none) (Z9_peakOfWay_79B kdG0 K) N = L at ih' ⊢
    have hl := hl0.onK ho
    have e10 := hl.2.2.1
    obtain ⟨c1, c2, c3⟩ := hl.2.2.2 x x0 x1
    obtain ⟨a1, a2⟩ := nbI_adj hn c3
    have e4 : σ.1 604 = σ0.1 604 := funext fun y => ho 604 y (by decide) (by decide)
    rw [e4] at a1 a2
    unfold Z9_peakOfWay_79B
    simp only [Z9_neighbour, Wz_rt, Wz_cnd, Wz_lI, Wz_lW, Wz_lL, Wz_cl, Wz_cv, Wz_nz, Wz_gI, Wz_gR, Wz_sI, Wz_aI, Wz_aZ, Wz_aL, Wz_aN, Wz_aR, Wz_tI, Wz_tZ, Wz_tL, Option.some.injEq, exists_eq_left', zB_0, zB_1, true_and, and_true, true_implies, not_true_eq_false, false_implies, not_false_eq_true, Classical.not_not, g_0, g_1, g_2, g_3, g_4, g_5, g_327, g_328, g_329, g_330, g_331, g_332, g_333, g_334, g_335, g_336, g_337, g_338, g_339, g_340, g_341, g_342, g_343, g_464, g_465, g_466, g_484, g_485, g_486, g_487, g_488, g_489, g_490, g_491, g_492, g_493, g_494, g_495, g_496, g_497, g_498, g_499, g_500, g_501, g_562, g_563, g_564, g_565, g_566, g_567, g_568, g_574, g_580, g_581, g_582, g_583, g_584, g_585, g_586, g_587, g_588, g_589, g_590, g_591, g_592, g_600, g_601, g_602, g_603, g_604, g_605, g_606, g_607, g_608, g_609, g_610, g_611, g_612, g_613, g_614, g_615, g_616, g_617, g_618, g_619, g_620, g_621, g_622, g_623, g_624, g_625, g_626, g_627, g_628, g_629, g_630, g_631, g_632, g_633, g_634, g_635, g_636, g_637, g_638, g_639, g_640, g_641, g_642, g_643, g_644, g_645, g_646, g_647, g_648, g_649, g_650, g_651, g_652, g_653, g_654, g_655, g_656, g_657, g_658, g_659, g_660, g_661, g_662, g_0_0, g_0_1, g_0_2, g_0_3, g_0_4, g_0_5, g_0_6, g_0_7, g_0_8, g_0_9, g_0_10, g_0_11, g_1_0, g_3_0, g_327_0, g_327_1, g_327_2, g_327_3, g_328_0, g_330_0, g_332_0, g_334_0, g_336_0, g_336_1, g_336_2, g_336_3, g_337_0, g_339_0, g_341_0, g_464_0, g_464_1, g_484_0, g_484_1, g_484_2, g_485_0, g_487_0, g_489_0, g_491_0, g_491_1, g_491_2, g_491_3, g_491_4, g_491_5, g_491_6, g_491_7, g_496_0, g_498_0, g_500_0, g_500_1, g_500_3, g_500_4, g_500_5, g_500_6, g_500_7, g_562_0, g_564_0, g_566_0, g_580_0, g_580_1, g_580_2, g_580_3, g_581_0, g_583_0, g_585_0, g_588_1, g_588_2, g_588_3, g_588_4, g_588_6, g_601_0, g_601_1, g_601_2, g_601_3, g_601_4, g_601_5, g_601_6, g_601_7, g_601_8, g_608_0, g_610_0, g_612_0, g_612_2, g_612_4, g_612_5, g_612_7, g_612_8, g_612_9, g_612_10, g_612_11, g_612_12, g_612_13, g_612_14, g_612_15, g_612_16, g_612_19, g_612_20, g_612_22, g_612_24, g_612_25, g_612_26, g_612_27, g_612_28, g_612_30, g_612_31, g_612_32, g_612_33, g_612_34, g_612_36, g_612_37, g_612_38, g_612_39, g_612_40, g_612_41, g_612_42, g_612_43, g_612_44, g_612_46, g_612_47, g_612_48, g_612_49, g_612_50, g_612_53, g_612_56, g_612_57, g_612_58, g_612_59, g_612_61, g_612_62, g_612_63, g_612_64, e10, e4]
    rw [show x * 10 + k = 10 * x + k by omega]
    refine ⟨fun c => ⟨by omega, ?_⟩, fun c => ?_⟩
    · have ek : k = mN n := by omega
      subst ek
      exact hQ σ ho (pkJ_end hj (fun w w0 w1 ha => a2 w w0 w1 ha)) h6
    · obtain ⟨⟨v0, v1⟩, va⟩ := a1 k k0 (by omega)
      generalize hv : σ0.1 604 (10 * x + k) = v at v0 v1 va ⊢
      have cv := cosN_b hI h5 v0 v1
      have e3 : σ.1 603 v = cosN τ n v := (hl.2.2.2 v v0 v1).2.1
      rw [e3]
      refine ⟨by omega, by omega, by omega, by omega, by omega, by omega, ?_⟩
      have e606 : (v2 σ.1 605 v (zmin (σ.1 605 v) (zmax (σ.1 605 x) (cosN τ n v)))) 606 = σ.1 606 := v2_row _ _ _ (by decide)
      refine ih' _ (by omega) (by omega) (by omega) (fun b y y1 y2 => (v2_ne _ _ _ _ y1).trans (ho b y y1 y2)) (e606.trans h6) ?_
      dsimp only
      rw [e606]
      refine pkJ_rel hj x0 x1 v0 v1 va (fun w hw => ?_) ?_ (fun w hw => v2_nk _ _ _ _ hw) (by omega)
      · obtain ⟨y, hy, ey⟩ := hw
        by_cases z : y = k
        · rw [z, hv] at ey
          exact Or.inr ey.symm
        · exact Or.inl ⟨y, by omega, ey⟩
      · rw [v2_self]
        unfold zmin zmax
        (repeat' split) <;> omega
set_option maxRecDepth 100000 in
theorem W9_pw_45 {τ : kzM} (hI : Inv τ) {n : Nat} (hn : 2 ≤ n ∧ n ≤ 5) (h5 : τ.1 588 0 = n) {s g T : Int} (s0 : 0 ≤ s) (s1 : s < szN n) (g0 : 0 ≤ g) (g1 : g < szN n) (hT : lst (szN n) (cosN τ n) (adL n) s g T) (hT2 : T < 1000000000) {Q : Int → kzM → Prop} {σ0 : kzM} (hl0 : lisC τ σ0 n (szN n)) (hQ : ∀ ρ, onK σ0 ρ → Q T ρ) : ∀ (N l : Nat) (σ : kzM), l ≤ szN n → szN n - l < N → onK σ0 σ → pkI (szN n) (cosN τ n) (adL n) s (σ.1 605) (σ.1 606) → (∀ v : Int, 0 ≤ v → v < szN n → σ.1 606 v = 0 ∨ σ.1 606 v = 1) → wS (fun v => zp (σ.1 606 v = 1)) (szN n) = l → Wz (lp (fun _ _ _ _ => none) (Z9_peakOfWay_45B kdG0) N 601 g (l : Int)) σ Q := by
  have sz := (way_n hn).2.2.2.1
  have me := kS_e0 ⟨n, by omega⟩ hn.1
  dsimp only at me
  have fin : ∀ σ : kzM, onK σ0 σ → pkI (szN n) (cosN τ n) (adL n) s (σ.1 605) (σ.1 606) → σ.1 606 g = 1 → Wz (Z9_peakOfWay_144 kdG0 601 g) σ Q := fun σ ho hp hg => by
    simp only [Z9_peakOfWay_144, Wz_rt, Wz_cnd, Wz_lI, Wz_lW, Wz_lL, Wz_cl, Wz_cv, Wz_nz, Wz_gI, Wz_gR, Wz_sI, Wz_aI, Wz_aZ, Wz_aL, Wz_aN, Wz_aR, Wz_tI, Wz_tZ, Wz_tL, Option.some.injEq, exists_eq_left', zB_0, zB_1, true_and, and_true, true_implies, not_true_eq_false, false_implies, not_false_eq_true, Classical.not_not, g_0, g_1, g_2, g_3, g_4, g_5, g_327, g_328, g_329, g_330, g_331, g_332, g_333, g_334, g_335, g_336, g_337, g_338, g_339, g_340, g_341, g_342, g_343, g_464, g_465, g_466, g_484, g_485, g_486, g_487, g_488, g_489, g_490, g_491, g_492, g_493, g_494, g_495, g_496, g_497, g_498, g_499, g_500, g_501, g_562, g_563, g_564, g_565, g_566, g_567, g_568, g_574, g_580, g_581, g_582, g_583, g_584, g_585, g_586, g_587, g_588, g_589, g_590, g_591, g_592, g_600, g_601, g_602, g_603, g_604, g_605, g_606, g_607, g_608, g_609, g_610, g_611, g_612, g_613, g_614, g_615, g_616, g_617, g_618, g_619, g_620, g_621, g_622, g_623, g_624, g_625, g_626, g_627, g_628, g_629, g_630, g_631, g_632, g_633, g_634, g_635, g_636, g_637, g_638, g_639, g_640, g_641, g_642, g_643, g_644, g_645, g_646, g_647, g_648, g_649, g_650, g_651, g_652, g_653, g_654, g_655, g_656, g_657, g_658, g_659, g_660, g_661, g_662, g_0_0, g_0_1, g_0_2, g_0_3, g_0_4, g_0_5, g_0_6, g_0_7, g_0_8, g_0_9, g_0_10, g_0_11, g_1_0, g_3_0, g_327_0, g_327_1, g_327_2, g_327_3, g_328_0, g_330_0, g_332_0, g_334_0, g_336_0, g_336_1, g_336_2, g_336_3, g_337_0, g_339_0, g_341_0, g_464_0, g_464_1, g_484_0, g_484_1, g_484_2, g_485_0, g_487_0, g_489_0, g_491_0, g_491_1, g_491_2, g_491_3, g_491_4, g_491_5, g_491_6, g_491_7, g_496_0, g_498_0, g_500_0, g_500_1, g_500_3, g_500_4, g_500_5, g_500_6, g_500_7, g_562_0, g_564_0, g_566_0, g_580_0, g_580_1, g_580_2, g_580_3, g_581_0, g_583_0, g_585_0, g_588_1, g_588_2, g_588_3, g_588_4, g_588_6, g_601_0, g_601_1, g_601_2, g_601_3, g_601_4, g_601_5, g_601_6, g_601_7, g_601_8, g_608_0, g_610_0, g_612_0, g_612_2, g_612_4, g_612_5, g_612_7, g_612_8, g_612_9, g_612_10, g_612_11, g_612_12, g_612_13, g_612_14, g_612_15, g_612_16, g_612_19, g_612_20, g_612_22, g_612_24, g_612_25, g_612_26, g_612_27, g_612_28, g_612_30, g_612_31, g_612_32, g_612_33, g_612_34, g_612_36, g_612_37, g_612_38, g_612_39, g_612_40, g_612_41, g_612_42, g_612_43, g_612_44, g_612_46, g_612_47, g_612_48, g_612_49, g_612_50, g_612_53, g_612_56, g_612_57, g_612_58, g_612_59, g_612_61, g_612_62, g_612_63, g_612_64]
    rw [pkI_lst hp s0 s1 g0 g1 hg hT hT2]
    exact ⟨by omega, hQ σ ho⟩
  intro N
  induction N with
  | zero => intro l; intros; omega
  | succ N ih =>
    intro l σ l1 lN ho hp h01 hc
    rw [lp_succ]
    have ih' := ih (l + 1)
    generalize lp (fun _ _ _ _ => none) (Z9_peakOfWay_45B kdG0) N = L at ih' ⊢
    have hl := hl0.onK ho
    have e9 := hl.2.1
    unfold Z9_peakOfWay_45B
    simp only [Wz_rt, Wz_cnd, Wz_lI, Wz_lW, Wz_lL, Wz_cl, Wz_cv, Wz_nz, Wz_gI, Wz_gR, Wz_sI, Wz_aI, Wz_aZ, Wz_aL, Wz_aN, Wz_aR, Wz_tI, Wz_tZ, Wz_tL, Option.some.injEq, exists_eq_left', zB_0, zB_1, true_and, and_true, true_implies, not_true_eq_false, false_implies, not_false_eq_true, Classical.not_not, g_0, g_1, g_2, g_3, g_4, g_5, g_327, g_328, g_329, g_330, g_331, g_332, g_333, g_334, g_335, g_336, g_337, g_338, g_339, g_340, g_341, g_342, g_343, g_464, g_465, g_466, g_484, g_485, g_486, g_487, g_488, g_489, g_490, g_491, g_492, g_493, g_494, g_495, g_496, g_497, g_498, g_499, g_500, g_501, g_562, g_563, g_564, g_565, g_566, g_567, g_568, g_574, g_580, g_581, g_582, g_583, g_584, g_585, g_586, g_587, g_588, g_589, g_590, g_591, g_592, g_600, g_601, g_602, g_603, g_604, g_605, g_606, g_607, g_608, g_609, g_610, g_611, g_612, g_613, g_614, g_615, g_616, g_617, g_618, g_619, g_620, g_621, g_622, g_623, g_624, g_625, g_626, g_627, g_628, g_629, g_630, g_631, g_632, g_633, g_634, g_635, g_636, g_637, g_638, g_639, g_640, g_641, g_642, g_643, g_644, g_645, g_646, g_647, g_648, g_649, g_650, g_651, g_652, g_653, g_654, g_655, g_656, g_657, g_658, g_659, g_660, g_661, g_662, g_0_0, g_0_1, g_0_2, g_0_3, g_0_4, g_0_5, g_0_6, g_0_7, g_0_8, g_0_9, g_0_10, g_0_11, g_1_0, g_3_0, g_327_0, g_327_1, g_327_2, g_327_3, g_328_0, g_330_0, g_332_0, g_334_0, g_336_0, g_336_1, g_336_2, g_336_3, g_337_0, g_339_0, g_341_0, g_464_0, g_464_1, g_484_0, g_484_1, g_484_2, g_485_0, g_487_0, g_489_0, g_491_0, g_491_1, g_491_2, g_491_3, g_491_4, g_491_5, g_491_6, g_491_7, g_496_0, g_498_0, g_500_0, g_500_1, g_500_3, g_500_4, g_500_5, g_500_6, g_500_7, g_562_0, g_564_0, g_566_0, g_580_0, g_580_1, g_580_2, g_580_3, g_581_0, g_583_0, g_585_0, g_588_1, g_588_2, g_588_3, g_588_4, g_588_6, g_601_0, g_601_1, g_601_2, g_601_3, g_601_4, g_601_5, g_601_6, g_601_7, g_601_8, g_608_0, g_610_0, g_612_0, g_612_2, g_612_4, g_612_5, g_612_7, g_612_8, g_612_9, g_612_10, g_612_11, g_612_12, g_612_13, g_612_14, g_612_15, g_612_16, g_612_19, g_612_20, g_612_22, g_612_24, g_612_25, g_612_26, g_612_27, g_612_28, g_612_30, g_612_31, g_612_32, g_612_33, g_612_34, g_612_36, g_612_37, g_612_38, g_612_39, g_612_40, g_612_41, g_612_42, g_612_43, g_612_44, g_612_46, g_612_47, g_612_48, g_612_49, g_612_50, g_612_53, g_612_56, g_612_57, g_612_58, g_612_59, g_612_61, g_612_62, g_612_63, g_612_64, e9]
    refine ⟨fun c => fin σ ho hp ?_, fun c => ⟨by omega, fun d => ?_, fun d => fin σ ho hp (by have := h01 g g0 g1; omega)⟩⟩
    · by_cases y : σ.1 606 g = 1
      · exact y
      · have := cn_lt (P := fun v => σ.1 606 v = 1) (Q := fun v => σ.1 606 v = 1 ∨ v = g) g0 g1 (fun j _ _ p => Or.inl p) y (Or.inr rfl)
        have b := (cn_b (fun v => σ.1 606 v = 1 ∨ v = g) (szN n)).2
        omega
    · unfold Z9_lowestUnsettled Z9_lowestUnsettled_4
      have inv0 : (¬σ.1 606 0 = 0 ∧ ∀ v : Int, 0 ≤ v → v < 1 → ¬σ.1 606 v = 0) ∨ (σ.1 606 0 = 0 ∧ ∀ v : Int, 0 ≤ v → v < 1 → σ.1 606 v = 0 → σ.1 605 0 ≤ σ.1 605 v) := by
        by_cases z : σ.1 606 0 = 0
        · refine Or.inr ⟨z, fun v v0 v1 hv => ?_⟩
          rw [show v = 0 by omega]
          exact Int.le_refl _
        · refine Or.inl ⟨z, fun v v0 v1 => ?_⟩
          rw [show v = 0 by omega]
          exact z
      refine W9_lu_4 hn hl ⟨g, ⟨g0, g1⟩, d⟩ (fun r r0 r1 r2 r3 => ⟨by omega, ?_⟩) NN 1 0 (by omega) (by omega) (by unfold NN; omega) (by omega) (by omega) inv0
      · have hx : ¬σ.1 606 r = 1 := by omega
        have eB : zB 1 = 1 := zB_1
        have e606 : (v2 σ.1 606 r 1) 606 r = 1 := v2_self _ _ _ _
        have ne606 : ∀ w, w ≠ r → (v2 σ.1 606 r 1) 606 w = σ.1 606 w := fun w hw => v2_nk _ _ _ _ hw
        have e605 : (v2 σ.1 606 r 1) 605 = σ.1 605 := v2_row _ _ _ (by decide)
        have o1 : onK σ0 (v2 σ.1 606 r 1, σ.2) := fun a x y z => (v2_ne _ _ _ _ z).trans (ho a x y z)
        have jj := pkJ_set hp r0 r1 hx (fun w w0 w1 hw => r3 w w0 w1 (by have := h01 w w0 w1; omega)) e606 ne606
        unfold Z9_peakOfWay_79
        refine W9_pw_79 hI hn h5 (s := s) r0 r1 (by omega) (hl0.onK o1) (fun ρ p1 p2 p3 => ?_) NN 0 _ (by omega) (by omega) (by unfold NN; omega) (fun _ _ _ _ => rfl) rfl ?_
        · rw [show (l : Int) + 1 = ((l + 1 : Nat) : Int) by omega]
          refine ih' ρ (by omega) (by omega) (o1.tr p1) p2 (fun v v0 v1 => ?_) ?_
          · rw [p3]
            by_cases y : v = r
            · rw [y]; exact Or.inr e606
            · dsimp only
              rw [ne606 v y]
              exact h01 v v0 v1
          · rw [p3]
            dsimp only
            have q := cn_or (P := fun v => σ.1 606 v = 1) (Q := fun v => v = r) (n := szN n) (fun j _ _ q => by rw [q.2] at q; exact hx q.1)
            rw [cn_one r0 r1, hc] at q
            rw [wS_congr (q := fun v => zp (σ.1 606 v = 1 ∨ v = r)) (szN n) (fun v v0 v1 => zp_iff ?_)]
            · omega
            · by_cases y : v = r
              · rw [y]
                exact ⟨fun _ => Or.inr rfl, fun _ => e606⟩
              · rw [ne606 v y]
                exact ⟨Or.inl, fun z => z.resolve_right y⟩
        · dsimp only
          rw [e605]
          have ej : pkJ (szN n) (cosN τ n) (adL n) s r (fun w => ∃ y : Int, (0 ≤ y ∧ y < 0) ∧ (v2 σ.1 606 r 1) 604 (10 * r + y) = w) (σ.1 605) ((v2 σ.1 606 r 1) 606) := by
            refine ⟨jj.1, jj.2.1, fun u v u0 u1 v0 v1 su a dn => jj.2.2.1 u v u0 u1 v0 v1 su a (fun z => ?_), jj.2.2.2⟩
            obtain ⟨y, hy, _⟩ := dn z
            omega
          exact ej
set_option maxRecDepth 100000 in
theorem W9_pw_2 {τ : kzM} (hI : Inv τ) {n : Nat} (hn : 2 ≤ n ∧ n ≤ 5) (h5 : τ.1 588 0 = n) {s g T : Int} (s0 : 0 ≤ s) (s1 : s < szN n) (g0 : 0 ≤ g) (g1 : g < szN n) (hT : lst (szN n) (cosN τ n) (adL n) s g T) (hT2 : T < 1000000000) {Q : Int → kzM → Prop} {σ0 : kzM} (hl0 : lisC τ σ0 n (szN n)) (hQ : ∀ ρ, onK σ0 ρ → Q T ρ) : ∀ (N : Nat) (i : Int) (σ : kzM), 0 ≤ i → i ≤ szN n → szN n - i < N → onK σ0 σ → (∀ v : Int, 0 ≤ v → v < i → σ.1 605 v = 1000000000 ∧ σ.1 606 v = 0) → Wz (lp (fun _ _ _ _ _ => none) (Z9_peakOfWay_2B kdG0) N 601 s g i) σ Q := by
  have sz := (way_n hn).2.2.2.1
  intro N
  induction N with
  | zero => intro i; intros; omega
  | succ N ih =>
    intro i σ i0 i1 iN ho hv
    rw [lp_succ]
    have ih' := ih (i + 1)
    generalize lp (fun _ _ _ _ _ => none) (Z9_peakOfWay_2B kdG0) N = L at ih' ⊢
    have hl := hl0.onK ho
    have e9 := hl.2.1
    have e3 : σ.1 603 s = cosN τ n s := (hl.2.2.2 s s0 s1).2.1
    unfold Z9_peakOfWay_2B
    simp only [Wz_rt, Wz_cnd, Wz_lI, Wz_lW, Wz_lL, Wz_cl, Wz_cv, Wz_nz, Wz_gI, Wz_gR, Wz_sI, Wz_aI, Wz_aZ, Wz_aL, Wz_aN, Wz_aR, Wz_tI, Wz_tZ, Wz_tL, Option.some.injEq, exists_eq_left', zB_0, zB_1, true_and, and_true, true_implies, not_true_eq_false, false_implies, not_false_eq_true, Classical.not_not, g_0, g_1, g_2, g_3, g_4, g_5, g_327, g_328, g_329, g_330, g_331, g_332, g_333, g_334, g_335, g_336, g_337, g_338, g_339, g_340, g_341, g_342, g_343, g_464, g_465, g_466, g_484, g_485, g_486, g_487, g_488, g_489, g_490, g_491, g_492, g_493, g_494, g_495, g_496, g_497, g_498, g_499, g_500, g_501, g_562, g_563, g_564, g_565, g_566, g_567, g_568, g_574, g_580, g_581, g_582, g_583, g_584, g_585, g_586, g_587, g_588, g_589, g_590, g_591, g_592, g_600, g_601, g_602, g_603, g_604, g_605, g_606, g_607, g_608, g_609, g_610, g_611, g_612, g_613, g_614, g_615, g_616, g_617, g_618, g_619, g_620, g_621, g_622, g_623, g_624, g_625, g_626, g_627, g_628, g_629, g_630, g_631, g_632, g_633, g_634, g_635, g_636, g_637, g_638, g_639, g_640, g_641, g_642, g_643, g_644, g_645, g_646, g_647, g_648, g_649, g_650, g_651, g_652, g_653, g_654, g_655, g_656, g_657, g_658, g_659, g_660, g_661, g_662, g_0_0, g_0_1, g_0_2, g_0_3, g_0_4, g_0_5, g_0_6, g_0_7, g_0_8, g_0_9, g_0_10, g_0_11, g_1_0, g_3_0, g_327_0, g_327_1, g_327_2, g_327_3, g_328_0, g_330_0, g_332_0, g_334_0, g_336_0, g_336_1, g_336_2, g_336_3, g_337_0, g_339_0, g_341_0, g_464_0, g_464_1, g_484_0, g_484_1, g_484_2, g_485_0, g_487_0, g_489_0, g_491_0, g_491_1, g_491_2, g_491_3, g_491_4, g_491_5, g_491_6, g_491_7, g_496_0, g_498_0, g_500_0, g_500_1, g_500_3, g_500_4, g_500_5, g_500_6, g_500_7, g_562_0, g_564_0, g_566_0, g_580_0, g_580_1, g_580_2, g_580_3, g_581_0, g_583_0, g_585_0, g_588_1, g_588_2, g_588_3, g_588_4, g_588_6, g_601_0, g_601_1, g_601_2, g_601_3, g_601_4, g_601_5, g_601_6, g_601_7, g_601_8, g_608_0, g_610_0, g_612_0, g_612_2, g_612_4, g_612_5, g_612_7, g_612_8, g_612_9, g_612_10, g_612_11, g_612_12, g_612_13, g_612_14, g_612_15, g_612_16, g_612_19, g_612_20, g_612_22, g_612_24, g_612_25, g_612_26, g_612_27, g_612_28, g_612_30, g_612_31, g_612_32, g_612_33, g_612_34, g_612_36, g_612_37, g_612_38, g_612_39, g_612_40, g_612_41, g_612_42, g_612_43, g_612_44, g_612_46, g_612_47, g_612_48, g_612_49, g_612_50, g_612_53, g_612_56, g_612_57, g_612_58, g_612_59, g_612_61, g_612_62, g_612_63, g_612_64, e9, e3]
    refine ⟨fun c => ⟨by omega, by omega, ?_⟩, fun c => ⟨by omega, by omega, by omega, ?_⟩⟩
    · have ei : i = szN n := by omega
      subst ei
      unfold Z9_peakOfWay_45
      have e606 : (v2 σ.1 605 s (cosN τ n s)) 606 = σ.1 606 := v2_row _ _ _ (by decide)
      have z6 : ∀ v : Int, 0 ≤ v → v < szN n → σ.1 606 v = 0 := fun v v0 v1 => (hv v v0 v1).2
      refine W9_pw_45 hI hn h5 s0 s1 g0 g1 hT hT2 hl0 hQ NN 0 _ (by omega) (by unfold NN; omega) (fun a x y z => (v2_ne _ _ _ _ y).trans (ho a x y z)) ?_ (fun v v0 v1 => ?_) ?_
      · dsimp only
        rw [e606]
        exact pkI_0 (v2_self _ _ _ _) (fun v v0 v1 hne => (v2_nk _ _ _ _ hne).trans (hv v v0 v1).1) z6
      · dsimp only
        rw [e606]
        exact Or.inl (z6 v v0 v1)
      · dsimp only
        rw [e606]
        exact cn_none (fun v v0 v1 q => by have := z6 v v0 v1; omega)
    · refine ih' _ (by omega) (by omega) (by omega) (fun a x y z => ?_) (fun v v0 v1 => ?_)
      · dsimp only
        rw [v2_ne _ _ _ _ z, v2_ne _ _ _ _ y]
        exact ho a x y z
      · dsimp only
        by_cases y : v = i
        · rw [y, v2_ne _ _ _ _ (by decide), v2_self, v2_self]
          exact ⟨rfl, rfl⟩
        · rw [v2_ne _ _ _ _ (by decide), v2_nk _ _ _ _ y, v2_nk _ _ _ _ y, v2_ne _ _ _ _ (by decide)]
          exact hv v v0 (by omega)
set_option maxRecDepth 100000 in
theorem W9_peak {τ σ : kzM} (hI : Inv τ) {n : Nat} (hn : 2 ≤ n ∧ n ≤ 5) (h5 : τ.1 588 0 = n) {s g T : Int} (s0 : 0 ≤ s) (s1 : s < szN n) (g0 : 0 ≤ g) (g1 : g < szN n) (hT : lst (szN n) (cosN τ n) (adL n) s g T) (hT2 : T < 1000000000) (hl : lisC τ σ n (szN n)) {Q : Int → kzM → Prop} (hQ : ∀ ρ, onK σ ρ → Q T ρ) : Wz (Z9_peakOfWay kdG0 601 s g) σ Q := by
  have sz := (way_n hn).2.2.2.1
  unfold Z9_peakOfWay Z9_peakOfWay_2
  exact W9_pw_2 hI hn h5 s0 s1 g0 g1 hT hT2 hl hQ NN 0 σ (by omega) (by omega) (by unfold NN; omega) (fun _ _ _ _ => rfl) (fun v a b => by omega)
