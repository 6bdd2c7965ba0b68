/-! layouts: read and lay -/
def tabL (τ σ : kzM) : Prop := ∀ a x, md a x ≠ 20 → σ.1 a x = τ.1 a x
set_option maxRecDepth 100000 in
theorem Inv.tabL {τ σ : kzM} (h : tabL τ σ) (hI : Inv τ) : Inv σ := Inv.to20 (fun a j _ z => h a j z) hI
theorem tabL.r9 {τ σ : kzM} (h : tabL τ σ) {a : Nat} (x : Int) (ha : (589 ≤ a ∧ a ≤ 599) ∨ (655 ≤ a ∧ a ≤ 658)) : σ.1 a x = τ.1 a x := h a x (by rw [md_9 ha]; decide)
theorem tabL.o600 {τ σ : kzM} (h : ∀ a x, a ≠ 600 → σ.1 a x = τ.1 a x) : tabL τ σ := fun a j z => h a j (fun q => z (by rw [q]; rfl))
theorem tabL.o659 {τ σ : kzM} (h : ∀ a x, a ≠ 659 → σ.1 a x = τ.1 a x) : tabL τ σ := fun a j z => h a j (fun q => z (by rw [q]; rfl))
theorem tabL.tr {τ σ ρ : kzM} (h : tabL τ σ) (k : tabL σ ρ) : tabL τ ρ := fun a j z => (k a j z).trans (h a j z)
set_option maxRecDepth 100000 in
theorem W3_rd_16 {τ : kzM} {n : Int} (hn : 2 ≤ n ∧ n ≤ 7) (h0 : τ.1 588 0 = n) {v l1 : Int} (v0 : 0 ≤ v) (v1 : v ≤ 2147483647) {Q : Int → kzM → Prop} (hQ : ∀ σ, (∀ a x, a ≠ 600 → σ.1 a x = τ.1 a x) → (∀ i, 0 ≤ i → i < n → σ.1 600 i = dgL v n i) → Q (zp (0 ≤ l1 ∧ goodL v n)) σ) : ∀ (N : Nat) (j : Int) (m : Nat) (σ : kzM), -1 ≤ j → j < n → j + 2 ≤ N → setL (dgL v n) n j m → (∀ a x, a ≠ 600 → σ.1 a x = τ.1 a x) → (∀ i, j < i → i < n → σ.1 600 i = dgL v n i) → Wz (lp (fun _ _ _ _ _ _ => none) (Z3_read_16B kdG0) N 588 l1 (dgQ v (n - 1 - j).toNat) (m : Int) j) σ Q := by
  intro N
  induction N with
  | zero => intro j; intros; omega
  | succ N ih =>
    intro j m σ j0 j1 j2 hm hs hd
    rw [lp_succ]
    generalize lp (fun _ _ _ _ _ _ => none) (Z3_read_16B kdG0) N = L at ih ⊢
    have s0 : σ.1 588 0 = n := by rw [hs 588 0 (by decide), h0]
    have db := dgL_b (n := n) (i := j) v0 v1
    have qb := dgQ_b v0 v1 (n - 1 - j).toNat
    unfold Z3_read_16B
    simp only [Z3_read_79, Z3_read_80, Wz_rt, Wz_cnd, Wz_lI, Wz_lW, Wz_lL, Wz_cl, Wz_cv, Wz_nz, Wz_gI, Wz_gR, Wz_sI, Wz_aI, Wz_aZ, Wz_aL, Wz_aN, Wz_aR, Wz_tI, Wz_tZ, Wz_tL, Option.some.injEq, exists_eq_left', zB_0, zB_1, true_and, and_true, true_implies, not_true_eq_false, false_implies, not_false_eq_true, Classical.not_not, g_0, g_1, g_2, g_3, g_4, g_5, g_327, g_328, g_329, g_330, g_331, g_332, g_333, g_334, g_335, g_336, g_337, g_338, g_339, g_340, g_341, g_342, g_343, g_464, g_465, g_466, g_484, g_485, g_486, g_487, g_488, g_489, g_490, g_491, g_492, g_493, g_494, g_495, g_496, g_497, g_498, g_499, g_500, g_501, g_562, g_563, g_564, g_565, g_566, g_567, g_568, g_574, g_580, g_581, g_582, g_583, g_584, g_585, g_586, g_587, g_588, g_589, g_590, g_591, g_592, g_600, g_601, g_602, g_603, g_604, g_605, g_606, g_607, g_608, g_609, g_610, g_611, g_612, g_613, g_614, g_615, g_616, g_617, g_618, g_619, g_620, g_621, g_622, g_623, g_624, g_625, g_626, g_627, g_628, g_629, g_630, g_631, g_632, g_633, g_634, g_635, g_636, g_637, g_638, g_639, g_640, g_641, g_642, g_643, g_644, g_645, g_646, g_647, g_648, g_649, g_650, g_651, g_652, g_653, g_654, g_655, g_656, g_657, g_658, g_659, g_660, g_661, g_662, g_0_0, g_0_1, g_0_2, g_0_3, g_0_4, g_0_5, g_0_6, g_0_7, g_0_8, g_0_9, g_0_10, g_0_11, g_1_0, g_3_0, g_327_0, g_327_1, g_327_2, g_327_3, g_328_0, g_330_0, g_332_0, g_334_0, g_336_0, g_336_1, g_336_2, g_336_3, g_337_0, g_339_0, g_341_0, g_464_0, g_464_1, g_484_0, g_484_1, g_484_2, g_485_0, g_487_0, g_489_0, g_491_0, g_491_1, g_491_2, g_491_3, g_491_4, g_491_5, g_491_6, g_491_7, g_496_0, g_498_0, g_500_0, g_500_1, g_500_3, g_500_4, g_500_5, g_500_6, g_500_7, g_562_0, g_564_0, g_566_0, g_580_0, g_580_1, g_580_2, g_580_3, g_581_0, g_583_0, g_585_0, g_588_1, g_588_2, g_588_3, g_588_4, g_588_6, g_601_0, g_601_1, g_601_2, g_601_3, g_601_4, g_601_5, g_601_6, g_601_7, g_601_8, g_608_0, g_610_0, g_612_0, g_612_2, g_612_4, g_612_5, g_612_7, g_612_8, g_612_9, g_612_10, g_612_11, g_612_12, g_612_13, g_612_14, g_612_15, g_612_16, g_612_19, g_612_20, g_612_22, g_612_24, g_612_25, g_612_26, g_612_27, g_612_28, g_612_30, g_612_31, g_612_32, g_612_33, g_612_34, g_612_36, g_612_37, g_612_38, g_612_39, g_612_40, g_612_41, g_612_42, g_612_43, g_612_44, g_612_46, g_612_47, g_612_48, g_612_49, g_612_50, g_612_53, g_612_56, g_612_57, g_612_58, g_612_59, g_612_61, g_612_62, g_612_63, g_612_64, v2_self, s0]
    refine ⟨fun c => ?_, fun c => ?_⟩
    · have ej : j = -1 := by omega
      subst ej
      have q := hQ σ hs (fun i i0 i1 => hd i (by omega) i1)
      have f := setL_full (by omega) (fun i _ _ => dgL_b v0 v1) hm
      have e : (n - 1 - -1).toNat = n.toNat := by omega
      rw [e]
      refine ⟨fun d => ?_, fun d => ⟨fun g => ⟨?_, fun e => ?_, fun e => ?_⟩, fun g => ?_⟩⟩
      · rw [zp_neg (fun z => by omega)] at q; exact q
      · have := s_shl (n := n.toNat) (by omega)
        rw [show ((n.toNat : Nat) : Int) = n by omega] at this
        have b : (2 : Nat) ^ n.toNat ≤ 2 ^ 7 := Nat.pow_le_pow_right (by decide) (by omega)
        have b1 : 0 < (2 : Nat) ^ n.toNat := Nat.pow_pos (by decide)
        omega
      · rw [zp_pos ⟨by omega, g, f.1 e⟩] at q; exact q
      · rw [zp_neg (fun z => e (f.2 z.2.2))] at q; exact q
      · rw [zp_neg (fun z => g z.2.1)] at q; exact q
    · have hm' := setL_s (f := dgL v n) (by omega) j1 db hm
      rw [show j - 1 = j + -1 from rfl] at hm'
      have hb := hm.1
      have eo := s_or hb (show (dgL v n j).toNat < 10 by omega)
      rw [show (((dgL v n j).toNat : Nat) : Int) = dgL v n j by omega] at eo
      have ed : Int.tmod (dgQ v (n - 1 - j).toNat) 10 = dgL v n j := rfl
      have eq : (dgQ v (n - 1 - j).toNat).tdiv 10 = dgQ v (n - 1 - (j + -1)).toNat := by
        rw [show (n - 1 - (j + -1)).toNat = (n - 1 - j).toNat + 1 by omega]
        rfl
      have ih' := ih (j + -1) _ (v2 σ.1 600 j (dgL v n j), σ.2) (by omega) (by omega) (by omega) hm' (fun a x ha => (v2_ne _ _ _ _ ha).trans (hs a x ha)) (fun i a b => by
        by_cases y : i = j
        · rw [y]; exact v2_self _ _ _ _
        · exact (v2_nk _ _ _ _ y).trans (hd i (by omega) b))
      have q1 := hm'.1
      rw [ed, eq, eo]
      have qb' := dgQ_b v0 v1 (n - 1 - (j + -1)).toNat
      refine ⟨by decide, by omega, by omega, by omega, by omega, by decide, by omega, by omega, ?_⟩
      exact ih'
set_option maxRecDepth 100000 in
theorem W3_read {τ : kzM} (hI : Inv τ) {v : Int} (v1 : -2147483648 ≤ v ∧ v ≤ 2147483647) {Q : Int → kzM → Prop} (hQ : ∀ σ, (∀ a x, a ≠ 600 → σ.1 a x = τ.1 a x) → (0 ≤ v → ∀ i, 0 ≤ i → i < τ.1 588 0 → σ.1 600 i = dgL v (τ.1 588 0) i) → Q (zp (0 ≤ v ∧ goodL v (τ.1 588 0))) σ) : Wz (Z3_read kdG0 588 v) τ Q := by
  have i9 := hI.2.2.2.2.2.2.2.2
  unfold I9 at i9
  have s1 := i9.1
  unfold Z3_read Z3_read_16
  simp only [Wz_rt, Wz_cnd, Wz_lI, Wz_lW, Wz_lL, Wz_cl, Wz_cv, Wz_nz, Wz_gI, Wz_gR, Wz_sI, Wz_aI, Wz_aZ, Wz_aL, Wz_aN, Wz_aR, Wz_tI, Wz_tZ, Wz_tL, Option.some.injEq, exists_eq_left', zB_0, zB_1, true_and, and_true, true_implies, not_true_eq_false, false_implies, not_false_eq_true, Classical.not_not, g_0, g_1, g_2, g_3, g_4, g_5, g_327, g_328, g_329, g_330, g_331, g_332, g_333, g_334, g_335, g_336, g_337, g_338, g_339, g_340, g_341, g_342, g_343, g_464, g_465, g_466, g_484, g_485, g_486, g_487, g_488, g_489, g_490, g_491, g_492, g_493, g_494, g_495, g_496, g_497, g_498, g_499, g_500, g_501, g_562, g_563, g_564, g_565, g_566, g_567, g_568, g_574, g_580, g_581, g_582, g_583, g_584, g_585, g_586, g_587, g_588, g_589, g_590, g_591, g_592, g_600, g_601, g_602, g_603, g_604, g_605, g_606, g_607, g_608, g_609, g_610, g_611, g_612, g_613, g_614, g_615, g_616, g_617, g_618, g_619, g_620, g_621, g_622, g_623, g_624, g_625, g_626, g_627, g_628, g_629, g_630, g_631, g_632, g_633, g_634, g_635, g_636, g_637, g_638, g_639, g_640, g_641, g_642, g_643, g_644, g_645, g_646, g_647, g_648, g_649, g_650, g_651, g_652, g_653, g_654, g_655, g_656, g_657, g_658, g_659, g_660, g_661, g_662, g_0_0, g_0_1, g_0_2, g_0_3, g_0_4, g_0_5, g_0_6, g_0_7, g_0_8, g_0_9, g_0_10, g_0_11, g_1_0, g_3_0, g_327_0, g_327_1, g_327_2, g_327_3, g_328_0, g_330_0, g_332_0, g_334_0, g_336_0, g_336_1, g_336_2, g_336_3, g_337_0, g_339_0, g_341_0, g_464_0, g_464_1, g_484_0, g_484_1, g_484_2, g_485_0, g_487_0, g_489_0, g_491_0, g_491_1, g_491_2, g_491_3, g_491_4, g_491_5, g_491_6, g_491_7, g_496_0, g_498_0, g_500_0, g_500_1, g_500_3, g_500_4, g_500_5, g_500_6, g_500_7, g_562_0, g_564_0, g_566_0, g_580_0, g_580_1, g_580_2, g_580_3, g_581_0, g_583_0, g_585_0, g_588_1, g_588_2, g_588_3, g_588_4, g_588_6, g_601_0, g_601_1, g_601_2, g_601_3, g_601_4, g_601_5, g_601_6, g_601_7, g_601_8, g_608_0, g_610_0, g_612_0, g_612_2, g_612_4, g_612_5, g_612_7, g_612_8, g_612_9, g_612_10, g_612_11, g_612_12, g_612_13, g_612_14, g_612_15, g_612_16, g_612_19, g_612_20, g_612_22, g_612_24, g_612_25, g_612_26, g_612_27, g_612_28, g_612_30, g_612_31, g_612_32, g_612_33, g_612_34, g_612_36, g_612_37, g_612_38, g_612_39, g_612_40, g_612_41, g_612_42, g_612_43, g_612_44, g_612_46, g_612_47, g_612_48, g_612_49, g_612_50, g_612_53, g_612_56, g_612_57, g_612_58, g_612_59, g_612_61, g_612_62, g_612_63, g_612_64]
  have e : zmax v 0 = if 0 ≤ v then v else 0 := by unfold zmax; split <;> split <;> omega
  have go : ∀ w, 0 ≤ w → w ≤ 2147483647 → (∀ σ, (∀ a x, a ≠ 600 → σ.1 a x = τ.1 a x) → (∀ i, 0 ≤ i → i < τ.1 588 0 → σ.1 600 i = dgL w (τ.1 588 0) i) → Q (zp (0 ≤ v ∧ goodL w (τ.1 588 0))) σ) → Wz (lp (fun _ _ _ _ _ _ => none) (Z3_read_16B kdG0) NN 588 v w 0 (τ.1 588 0 - 1)) τ Q := fun w w0 w1 hq => by
    have r := W3_rd_16 (τ := τ) (n := τ.1 588 0) (by omega) rfl (v := w) (l1 := v) w0 w1 (Q := Q) hq NN (τ.1 588 0 - 1) 0 τ (by omega) (by omega) (by unfold NN; omega) (setL_0 _ _) (fun _ _ _ => rfl) (fun i a b => by omega)
    rw [show (τ.1 588 0 - 1 - (τ.1 588 0 - 1)).toNat = 0 by omega] at r
    exact r
  rw [e]
  by_cases c : 0 ≤ v
  · rw [if_pos c]
    exact ⟨by omega, by omega, go v c v1.2 (fun σ a b => hQ σ a (fun _ => b))⟩
  · rw [if_neg c]
    refine ⟨by omega, by omega, go 0 (by decide) (by decide) (fun σ a b => ?_)⟩
    have q := hQ σ a (fun z => absurd z c)
    rw [zp_neg (fun z => c z.1)] at q
    rw [zp_neg (fun z => c z.1)]
    exact q
set_option maxRecDepth 100000 in
theorem W12_la_52 {σ : kzM} {n w : Int} (hn : 2 ≤ n ∧ n ≤ 7) (h5 : σ.1 612 55 = n) (w0 : 0 ≤ w) (w1 : w ≤ 2147483647) (hd : ∀ i, 0 ≤ i → i < n → σ.1 659 i = dgL w n i) {Q : Int → kzM → Prop} (hQ : Q (zp (goodL w n)) σ) : ∀ (N : Nat) (i : Int) (m : Nat), 0 ≤ i → i ≤ n → n - i < N → m < 1024 → (∀ d : Nat, d < 10 → (m.testBit d = true ↔ ∃ k, 0 ≤ k ∧ k < i ∧ dgL w n k = d)) → (∀ k, 0 ≤ k → k < i → dgL w n k < n) → (∀ a b, 0 ≤ b → b < a → a < i → dgL w n a ≠ dgL w n b) → Wz (lp (fun _ _ _ _ _ => none) (Z12_lay_52B kdG0) N 612 (dgQ w n.toNat) (m : Int) i) σ Q := by
  intro N
  induction N with
  | zero => intro i; intros; omega
  | succ N ih =>
    intro i m i0 i1 i2 hm ht hl hx
    rw [lp_succ]
    generalize lp (fun _ _ _ _ _ => none) (Z12_lay_52B kdG0) N = L at ih ⊢
    unfold Z12_lay_52B
    simp only [Z12_lay_119, Z12_lay_90, Z12_isSymbol, W_in, zp_0, zB_zp, Wz_rt, Wz_cnd, Wz_lI, Wz_lW, Wz_lL, Wz_cl, Wz_cv, Wz_nz, Wz_gI, Wz_gR, Wz_sI, Wz_aI, Wz_aZ, Wz_aL, Wz_aN, Wz_aR, Wz_tI, Wz_tZ, Wz_tL, Option.some.injEq, exists_eq_left', zB_0, zB_1, true_and, and_true, true_implies, not_true_eq_false, false_implies, not_false_eq_true, Classical.not_not, g_0, g_1, g_2, g_3, g_4, g_5, g_327, g_328, g_329, g_330, g_331, g_332, g_333, g_334, g_335, g_336, g_337, g_338, g_339, g_340, g_341, g_342, g_343, g_464, g_465, g_466, g_484, g_485, g_486, g_487, g_488, g_489, g_490, g_491, g_492, g_493, g_494, g_495, g_496, g_497, g_498, g_499, g_500, g_501, g_562, g_563, g_564, g_565, g_566, g_567, g_568, g_574, g_580, g_581, g_582, g_583, g_584, g_585, g_586, g_587, g_588, g_589, g_590, g_591, g_592, g_600, g_601, g_602, g_603, g_604, g_605, g_606, g_607, g_608, g_609, g_610, g_611, g_612, g_613, g_614, g_615, g_616, g_617, g_618, g_619, g_620, g_621, g_622, g_623, g_624, g_625, g_626, g_627, g_628, g_629, g_630, g_631, g_632, g_633, g_634, g_635, g_636, g_637, g_638, g_639, g_640, g_641, g_642, g_643, g_644, g_645, g_646, g_647, g_648, g_649, g_650, g_651, g_652, g_653, g_654, g_655, g_656, g_657, g_658, g_659, g_660, g_661, g_662, g_0_0, g_0_1, g_0_2, g_0_3, g_0_4, g_0_5, g_0_6, g_0_7, g_0_8, g_0_9, g_0_10, g_0_11, g_1_0, g_3_0, g_327_0, g_327_1, g_327_2, g_327_3, g_328_0, g_330_0, g_332_0, g_334_0, g_336_0, g_336_1, g_336_2, g_336_3, g_337_0, g_339_0, g_341_0, g_464_0, g_464_1, g_484_0, g_484_1, g_484_2, g_485_0, g_487_0, g_489_0, g_491_0, g_491_1, g_491_2, g_491_3, g_491_4, g_491_5, g_491_6, g_491_7, g_496_0, g_498_0, g_500_0, g_500_1, g_500_3, g_500_4, g_500_5, g_500_6, g_500_7, g_562_0, g_564_0, g_566_0, g_580_0, g_580_1, g_580_2, g_580_3, g_581_0, g_583_0, g_585_0, g_588_1, g_588_2, g_588_3, g_588_4, g_588_6, g_601_0, g_601_1, g_601_2, g_601_3, g_601_4, g_601_5, g_601_6, g_601_7, g_601_8, g_608_0, g_610_0, g_612_0, g_612_2, g_612_4, g_612_5, g_612_7, g_612_8, g_612_9, g_612_10, g_612_11, g_612_12, g_612_13, g_612_14, g_612_15, g_612_16, g_612_19, g_612_20, g_612_22, g_612_24, g_612_25, g_612_26, g_612_27, g_612_28, g_612_30, g_612_31, g_612_32, g_612_33, g_612_34, g_612_36, g_612_37, g_612_38, g_612_39, g_612_40, g_612_41, g_612_42, g_612_43, g_612_44, g_612_46, g_612_47, g_612_48, g_612_49, g_612_50, g_612_53, g_612_56, g_612_57, g_612_58, g_612_59, g_612_61, g_612_62, g_612_63, g_612_64, h5]
    refine ⟨fun c => ?_, fun c => ?_⟩
    · have ei : i = n := by omega
      subst ei
      refine ⟨fun e => ?_, fun e => ?_⟩
      · rw [zp_pos ⟨e, fun k a b => hl k a b, fun a b c d e => hx a b c d e⟩] at hQ; exact hQ
      · rw [zp_neg (fun z => e z.1)] at hQ; exact hQ
    · have b := dgL_b (n := n) (i := i) w0 w1
      rw [hd i i0 (by omega)]
      have eo := s_or hm (show (dgL w n i).toNat < 10 by omega)
      have es := s_bs hm (show (dgL w n i).toNat < 10 by omega)
      rw [show (((dgL w n i).toNat : Nat) : Int) = dgL w n i by omega] at eo es
      refine ⟨by omega, by omega, fun e => ?_, fun e => ⟨by omega, fun g => ?_, fun g => ?_⟩⟩
      · rw [zp_neg (fun z => e ⟨by omega, by have := z.2.1 i i0 (by omega); omega⟩)] at hQ; exact hQ
      · obtain ⟨k, k0, k1, k2⟩ := (ht _ (by omega)).1 (es.1 g)
        rw [zp_neg (fun z => z.2.2 i k k0 k1 (by omega) (by omega))] at hQ; exact hQ
      · have p := pcN_or hm (show (dgL w n i).toNat < 10 by omega)
        have q1 := p.1
        rw [eo]
        refine ⟨by omega, by omega, by omega, ih (i + 1) _ (by omega) (by omega) (by omega) p.1 (fun d hd => ?_) (fun k k0 k1 => ?_) (fun x y b0 b1 a1 => ?_)⟩
        · rw [tb_or, ht d hd]
          constructor
          · rintro (⟨k, k0, k1, k2⟩ | k2)
            · exact ⟨k, k0, by omega, k2⟩
            · exact ⟨i, i0, by omega, by omega⟩
          · rintro ⟨k, k0, k1, k2⟩
            by_cases y : k = i
            · subst y; exact Or.inr (by omega)
            · exact Or.inl ⟨k, k0, by omega, k2⟩
        · by_cases y : k = i
          · subst y; omega
          · exact hl k k0 (by omega)
        · by_cases z : x = i
          · subst z
            intro z
            exact g (es.2 ((ht _ (by omega)).2 ⟨y, b0, b1, by omega⟩))
          · exact hx x y b0 b1 (by omega)
set_option maxRecDepth 100000 in
theorem W12_la_22 {τ : kzM} {n w : Int} (hn : 2 ≤ n ∧ n ≤ 7) (h5 : τ.1 612 55 = n) (w0 : 0 ≤ w) (w1 : w ≤ 2147483647) {Q : Int → kzM → Prop} (hQ : ∀ σ, (∀ a x, a ≠ 659 → σ.1 a x = τ.1 a x) → (∀ i, 0 ≤ i → i < n → σ.1 659 i = dgL w n i) → Q (zp (goodL w n)) σ) : ∀ (N : Nat) (j : Int) (σ : kzM), -1 ≤ j → j < n → j + 2 ≤ N → (∀ a x, a ≠ 659 → σ.1 a x = τ.1 a x) → (∀ i, j < i → i < n → σ.1 659 i = dgL w n i) → Wz (lp (fun _ _ _ _ _ => none) (Z12_lay_22B kdG0) N 612 (dgQ w (n - 1 - j).toNat) 0 j) σ Q := by
  intro N
  induction N with
  | zero => intro j; intros; omega
  | succ N ih =>
    intro j σ j0 j1 j2 hs hd
    rw [lp_succ]
    generalize lp (fun _ _ _ _ _ => none) (Z12_lay_22B kdG0) N = L at ih ⊢
    have db := dgL_b (n := n) (i := j) w0 w1
    have qb := dgQ_b w0 w1 (n - 1 - j).toNat
    unfold Z12_lay_22B
    simp only [Wz_rt, Wz_cnd, Wz_lI, Wz_lW, Wz_lL, Wz_cl, Wz_cv, Wz_nz, Wz_gI, Wz_gR, Wz_sI, Wz_aI, Wz_aZ, Wz_aL, Wz_aN, Wz_aR, Wz_tI, Wz_tZ, Wz_tL, Option.some.injEq, exists_eq_left', zB_0, zB_1, true_and, and_true, true_implies, not_true_eq_false, false_implies, not_false_eq_true, Classical.not_not, g_0, g_1, g_2, g_3, g_4, g_5, g_327, g_328, g_329, g_330, g_331, g_332, g_333, g_334, g_335, g_336, g_337, g_338, g_339, g_340, g_341, g_342, g_343, g_464, g_465, g_466, g_484, g_485, g_486, g_487, g_488, g_489, g_490, g_491, g_492, g_493, g_494, g_495, g_496, g_497, g_498, g_499, g_500, g_501, g_562, g_563, g_564, g_565, g_566, g_567, g_568, g_574, g_580, g_581, g_582, g_583, g_584, g_585, g_586, g_587, g_588, g_589, g_590, g_591, g_592, g_600, g_601, g_602, g_603, g_604, g_605, g_606, g_607, g_608, g_609, g_610, g_611, g_612, g_613, g_614, g_615, g_616, g_617, g_618, g_619, g_620, g_621, g_622, g_623, g_624, g_625, g_626, g_627, g_628, g_629, g_630, g_631, g_632, g_633, g_634, g_635, g_636, g_637, g_638, g_639, g_640, g_641, g_642, g_643, g_644, g_645, g_646, g_647, g_648, g_649, g_650, g_651, g_652, g_653, g_654, g_655, g_656, g_657, g_658, g_659, g_660, g_661, g_662, g_0_0, g_0_1, g_0_2, g_0_3, g_0_4, g_0_5, g_0_6, g_0_7, g_0_8, g_0_9, g_0_10, g_0_11, g_1_0, g_3_0, g_327_0, g_327_1, g_327_2, g_327_3, g_328_0, g_330_0, g_332_0, g_334_0, g_336_0, g_336_1, g_336_2, g_336_3, g_337_0, g_339_0, g_341_0, g_464_0, g_464_1, g_484_0, g_484_1, g_484_2, g_485_0, g_487_0, g_489_0, g_491_0, g_491_1, g_491_2, g_491_3, g_491_4, g_491_5, g_491_6, g_491_7, g_496_0, g_498_0, g_500_0, g_500_1, g_500_3, g_500_4, g_500_5, g_500_6, g_500_7, g_562_0, g_564_0, g_566_0, g_580_0, g_580_1, g_580_2, g_580_3, g_581_0, g_583_0, g_585_0, g_588_1, g_588_2, g_588_3, g_588_4, g_588_6, g_601_0, g_601_1, g_601_2, g_601_3, g_601_4, g_601_5, g_601_6, g_601_7, g_601_8, g_608_0, g_610_0, g_612_0, g_612_2, g_612_4, g_612_5, g_612_7, g_612_8, g_612_9, g_612_10, g_612_11, g_612_12, g_612_13, g_612_14, g_612_15, g_612_16, g_612_19, g_612_20, g_612_22, g_612_24, g_612_25, g_612_26, g_612_27, g_612_28, g_612_30, g_612_31, g_612_32, g_612_33, g_612_34, g_612_36, g_612_37, g_612_38, g_612_39, g_612_40, g_612_41, g_612_42, g_612_43, g_612_44, g_612_46, g_612_47, g_612_48, g_612_49, g_612_50, g_612_53, g_612_56, g_612_57, g_612_58, g_612_59, g_612_61, g_612_62, g_612_63, g_612_64]
    refine ⟨fun c => ?_, fun c => ?_⟩
    · have ej : j = -1 := by omega
      subst ej
      unfold Z12_lay_52
      rw [show (n - 1 - -1).toNat = n.toNat by omega]
      exact W12_la_52 (n := n) hn (by rw [hs 612 55 (by decide), h5]) w0 w1 (fun i i0 i1 => hd i (by omega) i1) (hQ σ hs (fun i i0 i1 => hd i (by omega) i1)) NN 0 0 (by decide) (by omega) (by unfold NN; omega) (by decide) (fun d _ => by
        rw [Nat.zero_testBit]
        exact ⟨fun h => absurd h (by decide), fun ⟨i, a, b, _⟩ => absurd a (by omega)⟩) (fun k a b => by omega) (fun a b c d e => by omega)
    · have ed : Int.tmod (dgQ w (n - 1 - j).toNat) 10 = dgL w n j := rfl
      have eq : (dgQ w (n - 1 - j).toNat).tdiv 10 = dgQ w (n - 1 - (j + -1)).toNat := by
        rw [show (n - 1 - (j + -1)).toNat = (n - 1 - j).toNat + 1 by omega]
        rfl
      have ih' := ih (j + -1) (v2 σ.1 659 j (dgL w n j), σ.2) (by omega) (by omega) (by omega) (fun a x ha => (v2_ne _ _ _ _ ha).trans (hs a x ha)) (fun i a b => by
        by_cases y : i = j
        · rw [y]; exact v2_self _ _ _ _
        · exact (v2_nk _ _ _ _ y).trans (hd i (by omega) b))
      have qb' := dgQ_b w0 w1 (n - 1 - (j + -1)).toNat
      rw [ed, eq]
      refine ⟨by decide, by omega, by omega, by decide, by omega, by omega, ih'⟩
theorem dgQ_many {n : Int} (hn : 2 ≤ n ∧ n ≤ 7) : ¬goodL 99999999 n := fun h => by
  have a := h.1
  obtain ⟨k, rfl⟩ : ∃ k : Fin 6, n = (k.val : Int) + 2 := ⟨⟨(n - 2).toNat, by omega⟩, by dsimp only; omega⟩
  clear h hn
  revert a
  revert k
  decide +kernel
set_option maxRecDepth 100000 in
theorem W12_lay {τ : kzM} (hI : Inv τ) {v : Int} (v1 : -2147483648 ≤ v ∧ v ≤ 2147483647) {Q : Int → kzM → Prop} (hQ : ∀ σ, (∀ a x, a ≠ 659 → σ.1 a x = τ.1 a x) → (0 ≤ v → ∀ i, 0 ≤ i → i < τ.1 588 0 → σ.1 659 i = dgL v (τ.1 588 0) i) → Q (zp (0 ≤ v ∧ goodL v (τ.1 588 0))) σ) : Wz (Z12_lay kdG0 612 v) τ Q := by
  have i9 := hI.2.2.2.2.2.2.2.2
  unfold I9 at i9
  have s1 := i9.1
  simp only [Z12_lay, Z12_lay_11, Wz_rt, Wz_cnd, Wz_lI, Wz_lW, Wz_lL, Wz_cl, Wz_cv, Wz_nz, Wz_gI, Wz_gR, Wz_sI, Wz_aI, Wz_aZ, Wz_aL, Wz_aN, Wz_aR, Wz_tI, Wz_tZ, Wz_tL, Option.some.injEq, exists_eq_left', zB_0, zB_1, true_and, and_true, true_implies, not_true_eq_false, false_implies, not_false_eq_true, Classical.not_not, g_0, g_1, g_2, g_3, g_4, g_5, g_327, g_328, g_329, g_330, g_331, g_332, g_333, g_334, g_335, g_336, g_337, g_338, g_339, g_340, g_341, g_342, g_343, g_464, g_465, g_466, g_484, g_485, g_486, g_487, g_488, g_489, g_490, g_491, g_492, g_493, g_494, g_495, g_496, g_497, g_498, g_499, g_500, g_501, g_562, g_563, g_564, g_565, g_566, g_567, g_568, g_574, g_580, g_581, g_582, g_583, g_584, g_585, g_586, g_587, g_588, g_589, g_590, g_591, g_592, g_600, g_601, g_602, g_603, g_604, g_605, g_606, g_607, g_608, g_609, g_610, g_611, g_612, g_613, g_614, g_615, g_616, g_617, g_618, g_619, g_620, g_621, g_622, g_623, g_624, g_625, g_626, g_627, g_628, g_629, g_630, g_631, g_632, g_633, g_634, g_635, g_636, g_637, g_638, g_639, g_640, g_641, g_642, g_643, g_644, g_645, g_646, g_647, g_648, g_649, g_650, g_651, g_652, g_653, g_654, g_655, g_656, g_657, g_658, g_659, g_660, g_661, g_662, g_0_0, g_0_1, g_0_2, g_0_3, g_0_4, g_0_5, g_0_6, g_0_7, g_0_8, g_0_9, g_0_10, g_0_11, g_1_0, g_3_0, g_327_0, g_327_1, g_327_2, g_327_3, g_328_0, g_330_0, g_332_0, g_334_0, g_336_0, g_336_1, g_336_2, g_336_3, g_337_0, g_339_0, g_341_0, g_464_0, g_464_1, g_484_0, g_484_1, g_484_2, g_485_0, g_487_0, g_489_0, g_491_0, g_491_1, g_491_2, g_491_3, g_491_4, g_491_5, g_491_6, g_491_7, g_496_0, g_498_0, g_500_0, g_500_1, g_500_3, g_500_4, g_500_5, g_500_6, g_500_7, g_562_0, g_564_0, g_566_0, g_580_0, g_580_1, g_580_2, g_580_3, g_581_0, g_583_0, g_585_0, g_588_1, g_588_2, g_588_3, g_588_4, g_588_6, g_601_0, g_601_1, g_601_2, g_601_3, g_601_4, g_601_5, g_601_6, g_601_7, g_601_8, g_608_0, g_610_0, g_612_0, g_612_2, g_612_4, g_612_5, g_612_7, g_612_8, g_612_9, g_612_10, g_612_11, g_612_12, g_612_13, g_612_14, g_612_15, g_612_16, g_612_19, g_612_20, g_612_22, g_612_24, g_612_25, g_612_26, g_612_27, g_612_28, g_612_30, g_612_31, g_612_32, g_612_33, g_612_34, g_612_36, g_612_37, g_612_38, g_612_39, g_612_40, g_612_41, g_612_42, g_612_43, g_612_44, g_612_46, g_612_47, g_612_48, g_612_49, g_612_50, g_612_53, g_612_56, g_612_57, g_612_58, g_612_59, g_612_61, g_612_62, g_612_63, g_612_64]
  unfold Z12_lay_22
  have go : ∀ w, 0 ≤ w → w ≤ 2147483647 → (∀ σ, (∀ a x, a ≠ 659 → σ.1 a x = τ.1 a x) → (∀ i, 0 ≤ i → i < τ.1 588 0 → σ.1 659 i = dgL w (τ.1 588 0) i) → Q (zp (goodL w (τ.1 588 0))) σ) → Wz (lp (fun _ _ _ _ _ => none) (Z12_lay_22B kdG0) NN 612 w 0 (τ.1 612 55 - 1)) τ Q := fun w w0 w1 hq => by
    have r := W12_la_22 (τ := τ) (n := τ.1 588 0) (by omega) (by omega) (w := w) w0 w1 (Q := Q) hq NN (τ.1 588 0 - 1) τ (by omega) (by omega) (by unfold NN; omega) (fun _ _ _ => rfl) (fun i a b => by omega)
    rw [show (τ.1 588 0 - 1 - (τ.1 588 0 - 1)).toNat = 0 by omega] at r
    rw [show τ.1 612 55 = τ.1 588 0 by omega]
    exact r
  refine ⟨fun c => ⟨by omega, go v c v1.2 (fun σ a b => ?_)⟩, fun c => ⟨by omega, go _ (by decide) (by decide) (fun σ a b => ?_)⟩⟩
  · have q := hQ σ a (fun _ => b)
    by_cases g : goodL v (τ.1 588 0)
    · rw [zp_pos ⟨c, g⟩] at q; rw [zp_pos g]; exact q
    · rw [zp_neg (fun z => g z.2)] at q; rw [zp_neg g]; exact q
  · have q := hQ σ a (fun z => absurd z c)
    rw [zp_neg (fun z => c z.1)] at q
    rw [zp_neg (dgQ_many (by omega))]
    exact q
