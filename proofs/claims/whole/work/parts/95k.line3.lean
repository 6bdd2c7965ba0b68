/-! the line: pieces and signs -/
noncomputable def pcP (τ : kzM) : Nat → Int
  | 0 => 0
  | k + 1 => pcP τ k + if ruS τ (τ.1 327 4) (pcP τ k) = -1 then 1 else keyN τ (τ.1 327 4) (ruS τ (τ.1 327 4) (pcP τ k))
noncomputable def pcR (τ : kzM) (k : Nat) : Int := ruS τ (τ.1 327 4) (pcP τ k)
def putR (J : Int → Int → Int) (f : Int → Int) : Nat → List Int → List Int
  | 0, s => s
  | j + 1, s => comeL J (putR J f j s) (f j)
noncomputable def sgS (τ : kzM) : Nat → List Int
  | 0 => []
  | k + 1 => if pcR τ k = -1 then (-1 - τ.1 626 (pcP τ k)) :: sgS τ k else putR (joinI τ (τ.1 327 4)) (letF τ (τ.1 327 4) (pcR τ k)) (letN τ (τ.1 327 4) (pcR τ k)).toNat (sgS τ k)
theorem putR_len (J : Int → Int → Int) (f : Int → Int) (s : List Int) : ∀ j : Nat, (putR J f j s).length ≤ s.length + j
  | 0 => Nat.le_refl _
  | j + 1 => by
    have ih := putR_len J f s j
    have := comeL_len J (putR J f j s) (f j)
    unfold putR
    omega
theorem key_L {τ σ : kzM} (h : tabL τ σ) (t : Int) : keyN σ t = keyN τ t ∧ keyF σ t = keyF τ t ∧ letN σ t = letN τ t ∧ letF σ t = letF τ t := by
  have e7 : σ.1 617 = τ.1 617 := funext fun x => h 617 x (by rw [md_3 (by decide)]; decide)
  have e8 : σ.1 618 = τ.1 618 := funext fun x => h 618 x (by rw [md_3 (by decide)]; decide)
  have e9 : σ.1 619 = τ.1 619 := funext fun x => h 619 x (by rw [md_3 (by decide)]; decide)
  have e0 : σ.1 620 = τ.1 620 := funext fun x => h 620 x (by rw [md_3 (by decide)]; decide)
  refine ⟨funext fun r => ?_, funext fun r => funext fun j => ?_, funext fun r => ?_, funext fun r => funext fun j => ?_⟩
  · unfold keyN; rw [e8]
  · unfold keyF; rw [e7]
  · unfold letN; rw [e0]
  · unfold letF; rw [e9]
theorem md_626 (x : Int) : md 626 x = 4 := rfl
theorem ruS_L {τ σ : kzM} (h : tabL τ σ) (t s : Int) : ruS σ t s = ruS τ t s := by
  obtain ⟨a, b, _, _⟩ := key_L h t
  unfold ruS
  rw [a, b, show σ.1 626 = τ.1 626 from funext fun x => h 626 x (by rw [md_626]; decide), h 612 17 (by decide), h 621 t (by rw [md_3 (by decide)]; decide)]
/-- a rule that stands -/
theorem ruS_b {τ : kzM} (hI : Inv τ) {s : Int} (s0 : 0 ≤ s) (s1 : s < τ.1 328 1) : ruS τ (τ.1 327 4) s = -1 ∨ ((0 ≤ ruS τ (τ.1 327 4) s ∧ ruS τ (τ.1 327 4) s < τ.1 (6 + 107 * (τ.1 327 4).toNat) 2) ∧ (1 ≤ keyN τ (τ.1 327 4) (ruS τ (τ.1 327 4) s) ∧ keyN τ (τ.1 327 4) (ruS τ (τ.1 327 4) s) ≤ 4) ∧ s + keyN τ (τ.1 327 4) (ruS τ (τ.1 327 4) s) ≤ τ.1 328 1) := by
  obtain ⟨_, k, _, l, _, _⟩ := hI.j3
  have h1 := k.1
  have h2 := k.2.1
  rcases rlS_b (kN := keyN τ (τ.1 327 4)) (kF := keyF τ (τ.1 327 4)) (g := τ.1 626) (n := τ.1 612 17) (s := s) (τ.1 621 (τ.1 327 4)).toNat with q | ⟨q1, q2, q3, q4⟩
  · exact Or.inl q.1
  · refine Or.inr ?_
    have e : ruS τ (τ.1 327 4) s = (rlS (keyN τ (τ.1 327 4)) (keyF τ (τ.1 327 4)) (τ.1 626) (τ.1 612 17) s (τ.1 621 (τ.1 327 4)).toNat).1 := rfl
    rw [← e] at q1 q2 q4
    have w := (k.2.2 (ruS τ (τ.1 327 4) s) q1.1 (by omega)).1
    unfold eqR at w
    have ek : keyN τ (τ.1 327 4) (ruS τ (τ.1 327 4) s) = τ.1 (6 + 107 * (τ.1 327 4).toNat + 11 + 4 * (ruS τ (τ.1 327 4) s).toNat) 1 := w.2.1
    have w1 := w.1
    rw [← ek] at w1
    have f := q4.1
    have l2 := l.2.1
    exact ⟨by omega, w1, by omega⟩
theorem let_b {τ : kzM} (hI : Inv τ) {r : Int} (r0 : 0 ≤ r) (r1 : r < τ.1 (6 + 107 * (τ.1 327 4).toNat) 2) : (1 ≤ letN τ (τ.1 327 4) r ∧ letN τ (τ.1 327 4) r ≤ 3) ∧ letN τ (τ.1 327 4) r = τ.1 (6 + 107 * (τ.1 327 4).toNat + 13 + 4 * r.toNat) 1 ∧ ∀ j, 0 ≤ j → j < letN τ (τ.1 327 4) r → letF τ (τ.1 327 4) r j = τ.1 (6 + 107 * (τ.1 327 4).toNat + 13 + 4 * r.toNat + 1) j := by
  obtain ⟨_, k, _, l, _, _⟩ := hI.j3
  have w := (k.2.2 r r0 r1).2
  unfold eqR at w
  have ek : letN τ (τ.1 327 4) r = τ.1 (6 + 107 * (τ.1 327 4).toNat + 13 + 4 * r.toNat) 1 := w.2.1
  exact ⟨by rw [ek]; exact w.1, ek, fun j j0 j1 => (w.2.2 j j0 (by omega)).2⟩
theorem pcP_s {τ : kzM} (hI : Inv τ) {k : Nat} (h0 : 0 ≤ pcP τ k) (h1 : pcP τ k < τ.1 328 1) : pcP τ k < pcP τ (k + 1) ∧ pcP τ (k + 1) ≤ τ.1 328 1 := by
  have b := ruS_b hI h0 h1
  rw [pcP]
  rcases b with b | ⟨b1, b2, b3⟩
  · rw [if_pos b]; omega
  · rw [if_neg (by omega)]; omega
theorem pcP_b {τ : kzM} (hI : Inv τ) : ∀ k : Nat, (∀ i, i < k → pcP τ i < τ.1 328 1) → (k : Int) ≤ pcP τ k ∧ pcP τ k ≤ τ.1 328 1
  | 0, _ => by
    obtain ⟨_, _, _, l, _, _⟩ := hI.j3
    have := l.1
    unfold pcP
    omega
  | k + 1, h => by
    have ih := pcP_b hI k (fun i hi => h i (by omega))
    have s := pcP_s hI (k := k) (by omega) (h k (by omega))
    omega
theorem sgS_len {τ : kzM} (hI : Inv τ) : ∀ k : Nat, (∀ i, i < k → pcP τ i < τ.1 328 1) → (sgS τ k).length ≤ 3 * k
  | 0, _ => Nat.le_refl _
  | k + 1, h => by
    have ih := sgS_len hI k (fun i hi => h i (by omega))
    have b := pcP_b hI k (fun i hi => h i (by omega))
    unfold sgS
    by_cases c : pcR τ k = -1
    · rw [if_pos c, List.length_cons]; omega
    · rw [if_neg c]
      rcases ruS_b hI (s := pcP τ k) (by omega) (h k (by omega)) with r | ⟨r1, _⟩
      · exact absurd r c
      · have lb := (let_b hI (r := pcR τ k) r1.1 r1.2).1
        have := putR_len (joinI τ (τ.1 327 4)) (letF τ (τ.1 327 4) (pcR τ k)) (sgS τ k) (letN τ (τ.1 327 4) (pcR τ k)).toNat
        omega
/-- m pieces and no more -/
def pcs (τ : kzM) (m : Nat) : Prop := τ.1 328 1 ≤ pcP τ m ∧ ∀ i, i < m → pcP τ i < τ.1 328 1
theorem pcs_u {τ : kzM} {m m' : Nat} (h : pcs τ m) (h' : pcs τ m') : m = m' := by
  rcases Nat.lt_trichotomy m m' with c | c | c
  · have := h'.2 m c; have := h.1; omega
  · exact c
  · have := h.2 m' c; have := h'.1; omega
theorem pcs_b {τ : kzM} (hI : Inv τ) {m : Nat} (h : pcs τ m) : m ≤ 40 ∧ (sgS τ m).length ≤ 3 * m := by
  have b := pcP_b hI m h.2
  obtain ⟨_, _, _, l, _, _⟩ := hI.j3
  have := l.1
  exact ⟨by omega, sgS_len hI m h.2⟩
def onC (τ σ : kzM) : Prop := ∀ a x, a ≠ 330 → a ≠ 331 → a ≠ 332 → a ≠ 333 → σ.1 a x = τ.1 a x
theorem tabL.onC {τ σ ρ : kzM} (h : tabL τ σ) (k : onC σ ρ) : tabL τ ρ := fun a x z => (k a x (fun q => z (by rw [q]; rfl)) (fun q => z (by rw [q]; rfl)) (fun q => z (by rw [q]; rfl)) (fun q => z (by rw [q]; rfl))).trans (h a x z)
/-- the class's list of pieces -/
def cutP (τ σ : kzM) (k : Nat) : Prop := σ.1 330 1 = k ∧ σ.1 332 1 = k ∧ ∀ i : Nat, i < k → σ.1 331 i = (if pcR τ i = -1 then 99 else pcR τ i) ∧ σ.1 333 i = pcP τ i
set_option maxRecDepth 100000 in
theorem W4_cu_18 {τ : kzM} (hI : Inv τ) {Q : Unit → kzM → Prop} (hQ : ∀ ρ m, onC τ ρ → pcs τ m → cutP τ ρ m → Q () ρ) : ∀ (N k : Nat) (σ : kzM), 41 - k < N → (∀ i, i < k → pcP τ i < τ.1 328 1) → onC τ σ → cutP τ σ k → Wz (lp (fun _ _ _ _ => none) (Z4_cut_18B kdG0) N 327 (6 + 107 * (τ.1 327 4).toNat) (pcP τ k)) σ Q := by
  intro N
  induction N with
  | zero => intro k; intros; omega
  | succ N ih =>
    intro k σ hN hk hC hp
    rw [lp_succ]
    have ih' := ih (k + 1)
    generalize lp (fun _ _ _ _ => none) (Z4_cut_18B kdG0) N = L at ih' ⊢
    have hL : tabL τ σ := tabL.onC (fun _ _ _ => rfl) hC
    obtain ⟨_, j2, j3, j4, j5, _⟩ := (hI.tabL hL).j3
    have e4 : σ.1 327 4 = τ.1 327 4 := hL 327 4 (by decide)
    rw [e4] at j2 j3 j5
    have e1 : σ.1 328 1 = τ.1 328 1 := hL 328 1 (by decide)
    have b := pcP_b hI k hk
    have l1 := j4.1
    obtain ⟨p1, p2, p3⟩ := hp
    unfold Z4_cut_18B
    simp only [W_size r_1, W_isEmpty r_1, W_isFull r_1, W_has r_1, W_clear r_1, W_size r_3, W_isEmpty r_3, W_isFull r_3, W_has r_3, W_clear r_3, W_size r_328, W_isEmpty r_328, W_isFull r_328, W_has r_328, W_clear r_328, W_size r_330, W_isEmpty r_330, W_isFull r_330, W_has r_330, W_clear r_330, W_size r_332, W_isEmpty r_332, W_isFull r_332, W_has r_332, W_clear r_332, W_size r_334, W_isEmpty r_334, W_isFull r_334, W_has r_334, W_clear r_334, W_size r_337, W_isEmpty r_337, W_isFull r_337, W_has r_337, W_clear r_337, W_size r_339, W_isEmpty r_339, W_isFull r_339, W_has r_339, W_clear r_339, W_size r_341, W_isEmpty r_341, W_isFull r_341, W_has r_341, W_clear r_341, W_size r_485, W_isEmpty r_485, W_isFull r_485, W_has r_485, W_clear r_485, W_size r_487, W_isEmpty r_487, W_isFull r_487, W_has r_487, W_clear r_487, W_size r_489, W_isEmpty r_489, W_isFull r_489, W_has r_489, W_clear r_489, W_size r_496, W_isEmpty r_496, W_isFull r_496, W_has r_496, W_clear r_496, W_size r_498, W_isEmpty r_498, W_isFull r_498, W_has r_498, W_clear r_498, W_size r_562, W_isEmpty r_562, W_isFull r_562, W_has r_562, W_clear r_562, W_size r_564, W_isEmpty r_564, W_isFull r_564, W_has r_564, W_clear r_564, W_size r_566, W_isEmpty r_566, W_isFull r_566, W_has r_566, W_clear r_566, W_size r_581, W_isEmpty r_581, W_isFull r_581, W_has r_581, W_clear r_581, W_size r_583, W_isEmpty r_583, W_isFull r_583, W_has r_583, W_clear r_583, W_size r_585, W_isEmpty r_585, W_isFull r_585, W_has r_585, W_clear r_585, W_size r_608, W_isEmpty r_608, W_isFull r_608, W_has r_608, W_clear r_608, W_size r_610, W_isEmpty r_610, W_isFull r_610, W_has r_610, W_clear r_610, Wz_rt, Wz_cnd, Wz_lI, Wz_lW, Wz_lL, Wz_cl, Wz_cv, Wz_nz, Wz_gI, Wz_gR, Wz_sI, Wz_aI, Wz_aZ, Wz_aL, Wz_aN, Wz_aR, Wz_tI, Wz_tZ, Wz_tL, Option.some.injEq, exists_eq_left', zB_0, zB_1, true_and, and_true, true_implies, not_true_eq_false, false_implies, not_false_eq_true, Classical.not_not, g_0, g_1, g_2, g_3, g_4, g_5, g_327, g_328, g_329, g_330, g_331, g_332, g_333, g_334, g_335, g_336, g_337, g_338, g_339, g_340, g_341, g_342, g_343, g_464, g_465, g_466, g_484, g_485, g_486, g_487, g_488, g_489, g_490, g_491, g_492, g_493, g_494, g_495, g_496, g_497, g_498, g_499, g_500, g_501, g_562, g_563, g_564, g_565, g_566, g_567, g_568, g_574, g_580, g_581, g_582, g_583, g_584, g_585, g_586, g_587, g_588, g_589, g_590, g_591, g_592, g_600, g_601, g_602, g_603, g_604, g_605, g_606, g_607, g_608, g_609, g_610, g_611, g_612, g_613, g_614, g_615, g_616, g_617, g_618, g_619, g_620, g_621, g_622, g_623, g_624, g_625, g_626, g_627, g_628, g_629, g_630, g_631, g_632, g_633, g_634, g_635, g_636, g_637, g_638, g_639, g_640, g_641, g_642, g_643, g_644, g_645, g_646, g_647, g_648, g_649, g_650, g_651, g_652, g_653, g_654, g_655, g_656, g_657, g_658, g_659, g_660, g_661, g_662, g_0_0, g_0_1, g_0_2, g_0_3, g_0_4, g_0_5, g_0_6, g_0_7, g_0_8, g_0_9, g_0_10, g_0_11, g_1_0, g_3_0, g_327_0, g_327_1, g_327_2, g_327_3, g_328_0, g_330_0, g_332_0, g_334_0, g_336_0, g_336_1, g_336_2, g_336_3, g_337_0, g_339_0, g_341_0, g_464_0, g_464_1, g_484_0, g_484_1, g_484_2, g_485_0, g_487_0, g_489_0, g_491_0, g_491_1, g_491_2, g_491_3, g_491_4, g_491_5, g_491_6, g_491_7, g_496_0, g_498_0, g_500_0, g_500_1, g_500_3, g_500_4, g_500_5, g_500_6, g_500_7, g_562_0, g_564_0, g_566_0, g_580_0, g_580_1, g_580_2, g_580_3, g_581_0, g_583_0, g_585_0, g_588_1, g_588_2, g_588_3, g_588_4, g_588_6, g_601_0, g_601_1, g_601_2, g_601_3, g_601_4, g_601_5, g_601_6, g_601_7, g_601_8, g_608_0, g_610_0, g_612_0, g_612_2, g_612_4, g_612_5, g_612_7, g_612_8, g_612_9, g_612_10, g_612_11, g_612_12, g_612_13, g_612_14, g_612_15, g_612_16, g_612_19, g_612_20, g_612_22, g_612_24, g_612_25, g_612_26, g_612_27, g_612_28, g_612_30, g_612_31, g_612_32, g_612_33, g_612_34, g_612_36, g_612_37, g_612_38, g_612_39, g_612_40, g_612_41, g_612_42, g_612_43, g_612_44, g_612_46, g_612_47, g_612_48, g_612_49, g_612_50, g_612_53, g_612_56, g_612_57, g_612_58, g_612_59, g_612_61, g_612_62, g_612_63, g_612_64, e1, gT j3]
    refine ⟨fun c => hQ σ k hC ⟨c, hk⟩ ⟨p1, p2, p3⟩, fun c => W8_longest j3 j2 j4 (by omega) (by omega) ?_⟩
    rw [ruS_L hL]
    have st := pcP_s hI (k := k) (by omega) (by omega)
    have rb := ruS_b hI (s := pcP τ k) (by omega) (by omega)
    have er : ruS τ (τ.1 327 4) (pcP τ k) = pcR τ k := rfl
    rw [er] at rb ⊢
    have hk1 : ∀ i, i < k + 1 → pcP τ i < τ.1 328 1 := fun i hi => by
      by_cases y : i = k
      · rw [y]; omega
      · exact hk i (by omega)
    have eP : pcP τ (k + 1) = pcP τ k + if pcR τ k = -1 then 1 else keyN τ (τ.1 327 4) (pcR τ k) := by rw [pcP, er]
    have mem : ∀ v, v = (if pcR τ k = -1 then 99 else pcR τ k) → onC τ (addF (addF σ.1 330 v) 332 (pcP τ k), σ.2) ∧ cutP τ (addF (addF σ.1 330 v) 332 (pcP τ k), σ.2) (k + 1) := fun v hv => by
      refine ⟨fun a x a1 a2 a3 a4 => ?_, ?_, ?_, fun i hi => ?_⟩
      · simp only [addF]
        rw [v2_ne _ _ _ _ a3, v2_ne _ _ _ _ a4, v2_ne _ _ _ _ a1, v2_ne _ _ _ _ a2]
        exact hC a x a1 a2 a3 a4
      · simp only [addF, v2_eq, Nat.reduceEqDiff, Nat.reduceAdd, false_and, reduceIte, true_and, p1]
        omega
      · simp only [addF, v2_eq, Nat.reduceEqDiff, Nat.reduceAdd, false_and, reduceIte, true_and, p2]
        omega
      · simp only [addF, v2_eq, Nat.reduceEqDiff, Nat.reduceAdd, false_and, reduceIte, true_and, p1, p2]
        by_cases y : i = k
        · subst y
          rw [if_pos rfl, if_pos rfl]
          exact ⟨hv, rfl⟩
        · have hne : ¬(i : Int) = (k : Int) := by omega
          rw [if_neg hne, if_neg hne]
          exact p3 i (by omega)
    have goA : ∀ v, v = (if pcR τ k = -1 then 99 else pcR τ k) → Wz (Z4_cut_54 kdG0 L 327 (6 + 107 * (τ.1 327 4).toNat) (pcP τ k) (pcR τ k) 330 v) σ Q := fun v hv => by
      obtain ⟨m1, m2⟩ := mem v hv
      have m3 : tabL τ (addF (addF σ.1 330 v) 332 (pcP τ k), σ.2) := tabL.onC (fun _ _ _ => rfl) m1
      simp only [Z4_cut_54, Z4_cut_87, Wz_rt, Wz_cnd, Wz_lI, Wz_lW, Wz_lL, Wz_cl, Wz_cv, Wz_nz, Wz_gI, Wz_gR, Wz_sI, Wz_aI, Wz_aZ, Wz_aL, Wz_aN, Wz_aR, Wz_tI, Wz_tZ, Wz_tL, Option.some.injEq, exists_eq_left', zB_0, zB_1, true_and, and_true, true_implies, not_true_eq_false, false_implies, not_false_eq_true, Classical.not_not, g_0, g_1, g_2, g_3, g_4, g_5, g_327, g_328, g_329, g_330, g_331, g_332, g_333, g_334, g_335, g_336, g_337, g_338, g_339, g_340, g_341, g_342, g_343, g_464, g_465, g_466, g_484, g_485, g_486, g_487, g_488, g_489, g_490, g_491, g_492, g_493, g_494, g_495, g_496, g_497, g_498, g_499, g_500, g_501, g_562, g_563, g_564, g_565, g_566, g_567, g_568, g_574, g_580, g_581, g_582, g_583, g_584, g_585, g_586, g_587, g_588, g_589, g_590, g_591, g_592, g_600, g_601, g_602, g_603, g_604, g_605, g_606, g_607, g_608, g_609, g_610, g_611, g_612, g_613, g_614, g_615, g_616, g_617, g_618, g_619, g_620, g_621, g_622, g_623, g_624, g_625, g_626, g_627, g_628, g_629, g_630, g_631, g_632, g_633, g_634, g_635, g_636, g_637, g_638, g_639, g_640, g_641, g_642, g_643, g_644, g_645, g_646, g_647, g_648, g_649, g_650, g_651, g_652, g_653, g_654, g_655, g_656, g_657, g_658, g_659, g_660, g_661, g_662, g_0_0, g_0_1, g_0_2, g_0_3, g_0_4, g_0_5, g_0_6, g_0_7, g_0_8, g_0_9, g_0_10, g_0_11, g_1_0, g_3_0, g_327_0, g_327_1, g_327_2, g_327_3, g_328_0, g_330_0, g_332_0, g_334_0, g_336_0, g_336_1, g_336_2, g_336_3, g_337_0, g_339_0, g_341_0, g_464_0, g_464_1, g_484_0, g_484_1, g_484_2, g_485_0, g_487_0, g_489_0, g_491_0, g_491_1, g_491_2, g_491_3, g_491_4, g_491_5, g_491_6, g_491_7, g_496_0, g_498_0, g_500_0, g_500_1, g_500_3, g_500_4, g_500_5, g_500_6, g_500_7, g_562_0, g_564_0, g_566_0, g_580_0, g_580_1, g_580_2, g_580_3, g_581_0, g_583_0, g_585_0, g_588_1, g_588_2, g_588_3, g_588_4, g_588_6, g_601_0, g_601_1, g_601_2, g_601_3, g_601_4, g_601_5, g_601_6, g_601_7, g_601_8, g_608_0, g_610_0, g_612_0, g_612_2, g_612_4, g_612_5, g_612_7, g_612_8, g_612_9, g_612_10, g_612_11, g_612_12, g_612_13, g_612_14, g_612_15, g_612_16, g_612_19, g_612_20, g_612_22, g_612_24, g_612_25, g_612_26, g_612_27, g_612_28, g_612_30, g_612_31, g_612_32, g_612_33, g_612_34, g_612_36, g_612_37, g_612_38, g_612_39, g_612_40, g_612_41, g_612_42, g_612_43, g_612_44, g_612_46, g_612_47, g_612_48, g_612_49, g_612_50, g_612_53, g_612_56, g_612_57, g_612_58, g_612_59, g_612_61, g_612_62, g_612_63, g_612_64]
      refine W_add r_330 (by omega) (by omega) (by decide) (W_add r_332 ?_ ?_ (by decide) ?_)
      · simp only [addF, v2_eq, Nat.reduceEqDiff, Nat.reduceAdd, false_and, reduceIte]; omega
      · simp only [addF, v2_eq, Nat.reduceEqDiff, Nat.reduceAdd, false_and, reduceIte]; omega
      · dsimp only
        refine ⟨fun d => ⟨by omega, ?_⟩, fun d => ?_⟩
        · rw [if_pos d] at eP
          rw [← eP]
          exact ih' _ (by omega) hk1 m1 m2
        · rw [if_neg d] at eP
          rcases rb with rb | ⟨r1, r2, r3⟩
          · exact absurd rb d
          · obtain ⟨_, z2, z3, _, _, _⟩ := (hI.tabL m3).j3
            rw [m3 327 4 (by decide)] at z2 z3
            have z1 := z2.1
            have zt : (addF (addF σ.1 330 v) 332 (pcP τ k), σ.2).1 (6 + 107 * (τ.1 327 4).toNat) 2 = τ.1 (6 + 107 * (τ.1 327 4).toNat) 2 := m3 _ _ (by rw [md_3 (by omega)]; decide)
            have w := (z2.2.2 (pcR τ k) r1.1 (by rw [zt]; exact r1.2)).1
            unfold eqR at w
            have ek : keyN (addF (addF σ.1 330 v) 332 (pcP τ k), σ.2) (τ.1 327 4) (pcR τ k) = (addF (addF σ.1 330 v) 332 (pcP τ k), σ.2).1 (6 + 107 * (τ.1 327 4).toNat + 11 + 4 * (pcR τ k).toNat) 1 := w.2.1
            rw [(key_L m3 (τ.1 327 4)).1] at ek
            obtain ⟨g3, g4⟩ := gTk z3 r1.1 (show pcR τ k < 24 by omega)
            simp only [gT z3]
            refine ⟨trivial, (W8_keys z3 r1.1 (by omega)).2 ⟨by rw [g4.1], (W_size g4).2 ?_⟩⟩
            rw [← ek, show zmax 1 (keyN τ (τ.1 327 4) (pcR τ k)) = keyN τ (τ.1 327 4) (pcR τ k) by unfold zmax; split <;> omega]
            refine ⟨by omega, by omega, ?_⟩
            rw [← eP]
            exact ih' _ (by omega) hk1 m1 m2
    exact ⟨fun d => goA 99 (by rw [if_pos d]), fun d => goA _ (by rw [if_neg d])⟩
set_option maxRecDepth 100000 in
theorem W4_cut {τ : kzM} (hI : Inv τ) {Q : Unit → kzM → Prop} (hQ : ∀ ρ m, onC τ ρ → pcs τ m → cutP τ ρ m → Q () ρ) : Wz (Z4_cut kdG0 327 (6 + 107 * (τ.1 327 4).toNat)) τ Q := by
  unfold Z4_cut Z4_cut_18
  simp only [W_size r_1, W_isEmpty r_1, W_isFull r_1, W_has r_1, W_clear r_1, W_size r_3, W_isEmpty r_3, W_isFull r_3, W_has r_3, W_clear r_3, W_size r_328, W_isEmpty r_328, W_isFull r_328, W_has r_328, W_clear r_328, W_size r_330, W_isEmpty r_330, W_isFull r_330, W_has r_330, W_clear r_330, W_size r_332, W_isEmpty r_332, W_isFull r_332, W_has r_332, W_clear r_332, W_size r_334, W_isEmpty r_334, W_isFull r_334, W_has r_334, W_clear r_334, W_size r_337, W_isEmpty r_337, W_isFull r_337, W_has r_337, W_clear r_337, W_size r_339, W_isEmpty r_339, W_isFull r_339, W_has r_339, W_clear r_339, W_size r_341, W_isEmpty r_341, W_isFull r_341, W_has r_341, W_clear r_341, W_size r_485, W_isEmpty r_485, W_isFull r_485, W_has r_485, W_clear r_485, W_size r_487, W_isEmpty r_487, W_isFull r_487, W_has r_487, W_clear r_487, W_size r_489, W_isEmpty r_489, W_isFull r_489, W_has r_489, W_clear r_489, W_size r_496, W_isEmpty r_496, W_isFull r_496, W_has r_496, W_clear r_496, W_size r_498, W_isEmpty r_498, W_isFull r_498, W_has r_498, W_clear r_498, W_size r_562, W_isEmpty r_562, W_isFull r_562, W_has r_562, W_clear r_562, W_size r_564, W_isEmpty r_564, W_isFull r_564, W_has r_564, W_clear r_564, W_size r_566, W_isEmpty r_566, W_isFull r_566, W_has r_566, W_clear r_566, W_size r_581, W_isEmpty r_581, W_isFull r_581, W_has r_581, W_clear r_581, W_size r_583, W_isEmpty r_583, W_isFull r_583, W_has r_583, W_clear r_583, W_size r_585, W_isEmpty r_585, W_isFull r_585, W_has r_585, W_clear r_585, W_size r_608, W_isEmpty r_608, W_isFull r_608, W_has r_608, W_clear r_608, W_size r_610, W_isEmpty r_610, W_isFull r_610, W_has r_610, W_clear r_610, Wz_rt, Wz_cnd, Wz_lI, Wz_lW, Wz_lL, Wz_cl, Wz_cv, Wz_nz, Wz_gI, Wz_gR, Wz_sI, Wz_aI, Wz_aZ, Wz_aL, Wz_aN, Wz_aR, Wz_tI, Wz_tZ, Wz_tL, Option.some.injEq, exists_eq_left', zB_0, zB_1, true_and, and_true, true_implies, not_true_eq_false, false_implies, not_false_eq_true, Classical.not_not, g_0, g_1, g_2, g_3, g_4, g_5, g_327, g_328, g_329, g_330, g_331, g_332, g_333, g_334, g_335, g_336, g_337, g_338, g_339, g_340, g_341, g_342, g_343, g_464, g_465, g_466, g_484, g_485, g_486, g_487, g_488, g_489, g_490, g_491, g_492, g_493, g_494, g_495, g_496, g_497, g_498, g_499, g_500, g_501, g_562, g_563, g_564, g_565, g_566, g_567, g_568, g_574, g_580, g_581, g_582, g_583, g_584, g_585, g_586, g_587, g_588, g_589, g_590, g_591, g_592, g_600, g_601, g_602, g_603, g_604, g_605, g_606, g_607, g_608, g_609, g_610, g_611, g_612, g_613, g_614, g_615, g_616, g_617, g_618, g_619, g_620, g_621, g_622, g_623, g_624, g_625, g_626, g_627, g_628, g_629, g_630, g_631, g_632, g_633, g_634, g_635, g_636, g_637, g_638, g_639, g_640, g_641, g_642, g_643, g_644, g_645, g_646, g_647, g_648, g_649, g_650, g_651, g_652, g_653, g_654, g_655, g_656, g_657, g_658, g_659, g_660, g_661, g_662, g_0_0, g_0_1, g_0_2, g_0_3, g_0_4, g_0_5, g_0_6, g_0_7, g_0_8, g_0_9, g_0_10, g_0_11, g_1_0, g_3_0, g_327_0, g_327_1, g_327_2, g_327_3, g_328_0, g_330_0, g_332_0, g_334_0, g_336_0, g_336_1, g_336_2, g_336_3, g_337_0, g_339_0, g_341_0, g_464_0, g_464_1, g_484_0, g_484_1, g_484_2, g_485_0, g_487_0, g_489_0, g_491_0, g_491_1, g_491_2, g_491_3, g_491_4, g_491_5, g_491_6, g_491_7, g_496_0, g_498_0, g_500_0, g_500_1, g_500_3, g_500_4, g_500_5, g_500_6, g_500_7, g_562_0, g_564_0, g_566_0, g_580_0, g_580_1, g_580_2, g_580_3, g_581_0, g_583_0, g_585_0, g_588_1, g_588_2, g_588_3, g_588_4, g_588_6, g_601_0, g_601_1, g_601_2, g_601_3, g_601_4, g_601_5, g_601_6, g_601_7, g_601_8, g_608_0, g_610_0, g_612_0, g_612_2, g_612_4, g_612_5, g_612_7, g_612_8, g_612_9, g_612_10, g_612_11, g_612_12, g_612_13, g_612_14, g_612_15, g_612_16, g_612_19, g_612_20, g_612_22, g_612_24, g_612_25, g_612_26, g_612_27, g_612_28, g_612_30, g_612_31, g_612_32, g_612_33, g_612_34, g_612_36, g_612_37, g_612_38, g_612_39, g_612_40, g_612_41, g_612_42, g_612_43, g_612_44, g_612_46, g_612_47, g_612_48, g_612_49, g_612_50, g_612_53, g_612_56, g_612_57, g_612_58, g_612_59, g_612_61, g_612_62, g_612_63, g_612_64]
  refine W4_cu_18 hI hQ NN 0 _ (by unfold NN; omega) (fun i hi => by omega) (fun a x a1 a2 a3 a4 => ?_) ⟨?_, ?_, fun i hi => by omega⟩
  · dsimp only
    rw [v2_ne _ _ _ _ a3, v2_ne _ _ _ _ a1]
  · simp only [v2_eq, Nat.reduceEqDiff, false_and, reduceIte, and_self]; rfl
  · simp only [v2_eq, and_self, reduceIte]; rfl
