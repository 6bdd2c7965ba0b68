def tbC (τ : kzM) (x y : Int) : Int := τ.1 (467 + x.toNat) y
def slK (τ : kzM) : Prop := (0 ≤ τ.1 1 1 ∧ τ.1 1 1 ≤ 16) ∧ (∀ k, 0 ≤ k → k < τ.1 1 1 → 0 ≤ τ.1 2 k ∧ τ.1 2 k ≤ 11) ∧ prB (τ.1 465)
def slW (τ : kzM) (a : Nat) : Prop := (1 ≤ τ.1 a 1 ∧ τ.1 a 1 ≤ 8) ∧ ∀ k, 0 ≤ k → k < τ.1 a 1 → 0 ≤ τ.1 (a + 1) k ∧ τ.1 (a + 1) k ≤ 11
set_option maxRecDepth 100000 in
theorem W7_142 {τ : kzM} {a : Nat} {i j last ahead acc : Int} (ha : kRow a 8) (hw : slW τ a) (hP : prB (τ.1 465)) (i0 : 0 ≤ i) (i1 : i ≤ 16) (j0 : 0 ≤ j) (j1 : j ≤ τ.1 a 1) (hacc : 0 ≤ acc ∧ acc ≤ 3000) (hT : 1 < i → 1 < j → 0 ≤ tbC τ (i - 2) (j - 2) ∧ tbC τ (i - 2) (j - 2) ≤ 2000) {Q : Int → kzM → Prop} (hQ : Q (if i ≤ 1 ∨ j ≤ 1 ∨ last = ahead ∨ ¬last = τ.1 (a + 1) (j - 2) ∨ ¬ahead = τ.1 (a + 1) (j - 1) then acc else zmin acc (tbC τ (i - 2) (j - 2) + τ.1 465 3)) τ) : Wz (Z7_leastSum_142 kdG0 464 i a j last ahead acc) τ Q := by
  obtain ⟨w1, w2⟩ := hw
  have p3 := hP 3 (by omega) (by omega)
  simp only [Z7_leastSum_142, Z7_leastSum_215, Wz_rt, Wz_cnd, Wz_lI, Wz_lW, Wz_lL, Wz_cl, Wz_cv, Wz_nz, Wz_gI, Wz_gR, Wz_sI, Wz_aI, Wz_aZ, Wz_aL, Wz_aN, Wz_aR, Wz_tI, Wz_tZ, Wz_tL, Option.some.injEq, exists_eq_left', zB_0, zB_1, true_and, and_true, true_implies, not_true_eq_false, false_implies, not_false_eq_true, Classical.not_not, g_0, g_1, g_2, g_336, g_337, g_338, g_339, g_340, g_341, g_342, g_343, g_464, g_465, g_466, g_484, g_485, g_486, g_487, g_488, g_489, g_490, g_580, g_581, g_582, g_583, g_584, g_585, g_586, g_587, g_0_0, g_0_1, g_0_2, g_0_3, g_0_4, g_0_5, g_0_6, g_0_7, g_0_8, g_0_9, g_0_10, g_0_11, g_1_0, g_336_0, g_336_1, g_336_2, g_336_3, g_337_0, g_339_0, g_341_0, g_464_0, g_464_1, g_484_0, g_484_1, g_484_2, g_485_0, g_487_0, g_489_0, g_580_0, g_580_1, g_580_2, g_580_3, g_581_0, g_583_0, g_585_0, ha.1]
  refine ⟨fun c1 => ?_, fun c1 => ⟨fun c2 => ?_, fun c2 => ⟨fun c3 => ?_, fun c3 => ⟨by omega, ?_⟩⟩⟩⟩
  · rw [if_pos (Or.inl c1)] at hQ; exact hQ
  · rw [if_pos (Or.inr (Or.inl c2))] at hQ; exact hQ
  · rw [if_pos (Or.inr (Or.inr (Or.inl c3)))] at hQ; exact hQ
  · obtain ⟨g1, g2⟩ := g_le (i := i - 2) (by omega) (by omega)
    have hT := hT (by omega) (by omega)
    unfold tbC at hT hQ
    rw [W_at ha (show τ.1 a 1 ≤ ((8 : Nat) : Int) by omega), if_pos (by omega)]
    refine ⟨fun c4 => ⟨by omega, ?_⟩, fun c4 => ?_⟩
    · rw [W_at ha (show τ.1 a 1 ≤ ((8 : Nat) : Int) by omega), if_pos (by omega)]
      simp only [g1, g2, Option.some.injEq, exists_eq_left', true_and]
      refine ⟨fun c5 => ⟨by omega, by omega, by omega, by omega, ?_, ?_⟩, fun c5 => ?_⟩
      · have := zmin_b (y := τ.1 (467 + (i - 2).toNat) (j - 2) + τ.1 465 3) hacc.1 hacc.2 (by omega)
        omega
      · rw [if_neg (by rintro (z | z | z | z | z); exact c1 z; exact c2 z; exact c3 z; exact z c4; exact z c5)] at hQ; exact hQ
      · rw [if_pos (Or.inr (Or.inr (Or.inr (Or.inr c5))))] at hQ; exact hQ
    · rw [if_pos (Or.inr (Or.inr (Or.inr (Or.inl c4))))] at hQ; exact hQ
set_option maxRecDepth 100000 in
theorem W7_72 {τ : kzM} {a : Nat} {i j last ahead s0 s2 : Int} (ha : kRow a 8) (hw : slW τ a) (hP : prB (τ.1 465)) (i0 : 1 ≤ i) (i1 : i ≤ 16) (j0 : 0 ≤ j) (j1 : j ≤ τ.1 a 1) (hl : 0 ≤ last ∧ last ≤ 11) (hs0 : 0 ≤ s0 ∧ s0 ≤ 2000) (hs2 : 0 ≤ s2 ∧ s2 < 6) (hT : ∀ x y, 0 ≤ x → x ≤ i → 0 ≤ y → y ≤ j → ¬(x = i ∧ y = j) → 0 ≤ tbC τ x y ∧ tbC τ x y ≤ 2000) {Q : Int → kzM → Prop} (hQ : Q (if i ≤ 1 ∨ j ≤ 1 ∨ last = ahead ∨ ¬last = τ.1 (a + 1) (j - 2) ∨ ¬ahead = τ.1 (a + 1) (j - 1) then (if j ≤ 0 then s0 + τ.1 465 s2 else zmin (zmin (s0 + τ.1 465 s2) (tbC τ i (j - 1) + τ.1 465 2)) (tbC τ (i - 1) (j - 1) + oneC (τ.1 465) last (τ.1 (a + 1) (j - 1)))) else zmin (if j ≤ 0 then s0 + τ.1 465 s2 else zmin (zmin (s0 + τ.1 465 s2) (tbC τ i (j - 1) + τ.1 465 2)) (tbC τ (i - 1) (j - 1) + oneC (τ.1 465) last (τ.1 (a + 1) (j - 1)))) (tbC τ (i - 2) (j - 2) + τ.1 465 3)) τ) : Wz (Z7_leastSum_72 kdG0 464 i a j last ahead s0 465 s2) τ Q := by
  have p2 := hP 2 (by omega) (by omega)
  have ps := hP s2 hs2.1 hs2.2
  obtain ⟨g1, g2⟩ := g_le (i := i) (by omega) (by omega)
  obtain ⟨g3, g4⟩ := g_le (i := i - 1) (by omega) (by omega)
  simp only [Z7_leastSum_72, Wz_rt, Wz_cnd, Wz_lI, Wz_lW, Wz_lL, Wz_cl, Wz_cv, Wz_nz, Wz_gI, Wz_gR, Wz_sI, Wz_aI, Wz_aZ, Wz_aL, Wz_aN, Wz_aR, Wz_tI, Wz_tZ, Wz_tL, Option.some.injEq, exists_eq_left', zB_0, zB_1, true_and, and_true, true_implies, not_true_eq_false, false_implies, not_false_eq_true, Classical.not_not, g_0, g_1, g_2, g_336, g_337, g_338, g_339, g_340, g_341, g_342, g_343, g_464, g_465, g_466, g_484, g_485, g_486, g_487, g_488, g_489, g_490, g_580, g_581, g_582, g_583, g_584, g_585, g_586, g_587, g_0_0, g_0_1, g_0_2, g_0_3, g_0_4, g_0_5, g_0_6, g_0_7, g_0_8, g_0_9, g_0_10, g_0_11, g_1_0, g_336_0, g_336_1, g_336_2, g_336_3, g_337_0, g_339_0, g_341_0, g_464_0, g_464_1, g_484_0, g_484_1, g_484_2, g_485_0, g_487_0, g_489_0, g_580_0, g_580_1, g_580_2, g_580_3, g_581_0, g_583_0, g_585_0, g1, g2, g3, g4, ha.1]
  refine ⟨by omega, by omega, fun c => ?_, fun c => ?_⟩
  · refine W7_142 ha hw hP (by omega) i1 j0 j1 (by omega) (fun h1 h2 => hT _ _ (by omega) (by omega) (by omega) (by omega) (by omega)) ?_
    simp only [c, if_true] at hQ; exact hQ
  · have t1 := hT i (j - 1) (by omega) (by omega) (by omega) (by omega) (by omega)
    have t2 := hT (i - 1) (j - 1) (by omega) (by omega) (by omega) (by omega) (by omega)
    have wj := hw.2 (j - 1) (by omega) (by omega)
    have wl := hw.1
    unfold tbC at t1 t2
    have z1 := zmin_b (x := s0 + τ.1 465 s2) (y := τ.1 (467 + i.toNat) (j - 1) + τ.1 465 2) (l := 0) (u := 2020) (by omega) (by omega) (by omega)
    have o := oneC_b hP last (τ.1 (a + 1) (j - 1))
    have z2 := zmin_b (y := τ.1 (467 + (i - 1).toNat) (j - 1) + oneC (τ.1 465) last (τ.1 (a + 1) (j - 1))) z1.1 z1.2 (by omega)
    refine ⟨by omega, by omega, by omega, by omega, by omega, by omega, by omega, by omega, ?_⟩
    rw [W_at ha (show τ.1 a 1 ≤ ((8 : Nat) : Int) by omega), if_pos (by omega)]
    refine W7_one hl wj ?_
    refine ⟨by omega, by omega, ?_⟩
    refine W7_142 ha hw hP (by omega) i1 j0 j1 (by omega) (fun h1 h2 => hT _ _ (by omega) (by omega) (by omega) (by omega) (by omega)) ?_
    simp only [c, if_false] at hQ; exact hQ
set_option maxRecDepth 100000 in
theorem W7_43 {τ : kzM} {a : Nat} {i j last ahead : Int} (ha : kRow a 8) (hw : slW τ a) (hP : prB (τ.1 465)) (i0 : 1 ≤ i) (i1 : i ≤ 16) (j0 : 0 ≤ j) (j1 : j ≤ τ.1 a 1) (hl : 0 ≤ last ∧ last ≤ 11) (hT : ∀ x y, 0 ≤ x → x ≤ i → 0 ≤ y → y ≤ j → ¬(x = i ∧ y = j) → 0 ≤ tbC τ x y ∧ tbC τ x y ≤ 2000) {s : Int → Int} (e1 : last = s (i - 1)) (e2 : ahead = if i ≤ 1 then -1 else s (i - 2)) {Q : Int → kzM → Prop} (hQ : Q (cellE (tbC τ) s (τ.1 (a + 1)) (τ.1 465) i j) τ) : Wz (Z7_leastSum_43 kdG0 464 i a j last ahead) τ Q := by
  obtain ⟨g3, g4⟩ := g_le (i := i - 1) (by omega) (by omega)
  have t1 := hT (i - 1) j (by omega) (by omega) (by omega) (by omega) (by omega)
  have wl := hw.1
  unfold cellE at hQ
  rw [if_neg (by omega)] at hQ
  simp only [← e1, ← e2] at hQ
  simp only [Z7_leastSum_43, Wz_rt, Wz_cnd, Wz_lI, Wz_lW, Wz_lL, Wz_cl, Wz_cv, Wz_nz, Wz_gI, Wz_gR, Wz_sI, Wz_aI, Wz_aZ, Wz_aL, Wz_aN, Wz_aR, Wz_tI, Wz_tZ, Wz_tL, Option.some.injEq, exists_eq_left', zB_0, zB_1, true_and, and_true, true_implies, not_true_eq_false, false_implies, not_false_eq_true, Classical.not_not, g_0, g_1, g_2, g_336, g_337, g_338, g_339, g_340, g_341, g_342, g_343, g_464, g_465, g_466, g_484, g_485, g_486, g_487, g_488, g_489, g_490, g_580, g_581, g_582, g_583, g_584, g_585, g_586, g_587, g_0_0, g_0_1, g_0_2, g_0_3, g_0_4, g_0_5, g_0_6, g_0_7, g_0_8, g_0_9, g_0_10, g_0_11, g_1_0, g_336_0, g_336_1, g_336_2, g_336_3, g_337_0, g_339_0, g_341_0, g_464_0, g_464_1, g_484_0, g_484_1, g_484_2, g_485_0, g_487_0, g_489_0, g_580_0, g_580_1, g_580_2, g_580_3, g_581_0, g_583_0, g_585_0, g3, g4]
  refine ⟨by omega, by omega, fun c => ?_, fun c => ?_⟩
  · refine W7_72 ha hw hP i0 i1 j0 j1 hl t1 (by omega) hT ?_
    simp only [c, if_true] at hQ
    simp only [c]; exact hQ
  · refine W7_72 ha hw hP i0 i1 j0 j1 hl t1 (by omega) hT ?_
    simp only [c, if_false] at hQ
    simp only [c]; exact hQ
set_option maxRecDepth 100000 in
theorem W7_least {τ : kzM} {a : Nat} {fr i j : Int} (ha : kRow a 8) (hk : slK τ) (hw : slW τ a) (f0 : 0 ≤ fr) (fi : fr + i ≤ τ.1 1 1) (i0 : 0 ≤ i) (j0 : 0 ≤ j) (j1 : j ≤ τ.1 a 1) (hT : ∀ x y, 0 ≤ x → x ≤ i → 0 ≤ y → y ≤ j → ¬(x = i ∧ y = j) → 0 ≤ tbC τ x y ∧ tbC τ x y ≤ 2000) {Q : Int → kzM → Prop} (hQ : Q (cellE (tbC τ) (fun k => τ.1 2 (fr + k)) (τ.1 (a + 1)) (τ.1 465) i j) τ) : Wz (Z7_leastSum kdG0 464 1 fr i a j) τ Q := by
  obtain ⟨k1, k2, hP⟩ := hk
  have wl := hw.1
  have p2 := hP 2 (by omega) (by omega)
  simp only [Z7_leastSum, Wz_rt, Wz_cnd, Wz_lI, Wz_lW, Wz_lL, Wz_cl, Wz_cv, Wz_nz, Wz_gI, Wz_gR, Wz_sI, Wz_aI, Wz_aZ, Wz_aL, Wz_aN, Wz_aR, Wz_tI, Wz_tZ, Wz_tL, Option.some.injEq, exists_eq_left', zB_0, zB_1, true_and, and_true, true_implies, not_true_eq_false, false_implies, not_false_eq_true, Classical.not_not, g_0, g_1, g_2, g_336, g_337, g_338, g_339, g_340, g_341, g_342, g_343, g_464, g_465, g_466, g_484, g_485, g_486, g_487, g_488, g_489, g_490, g_580, g_581, g_582, g_583, g_584, g_585, g_586, g_587, g_0_0, g_0_1, g_0_2, g_0_3, g_0_4, g_0_5, g_0_6, g_0_7, g_0_8, g_0_9, g_0_10, g_0_11, g_1_0, g_336_0, g_336_1, g_336_2, g_336_3, g_337_0, g_339_0, g_341_0, g_464_0, g_464_1, g_484_0, g_484_1, g_484_2, g_485_0, g_487_0, g_489_0, g_580_0, g_580_1, g_580_2, g_580_3, g_581_0, g_583_0, g_585_0]
  refine ⟨fun c => ⟨by omega, ?_, ?_⟩, fun c => ⟨by omega, ?_⟩⟩
  · have a1 : 0 ≤ j * τ.1 465 2 := Int.mul_nonneg j0 p2.1
    have a2 : j * τ.1 465 2 ≤ j * 20 := Int.mul_le_mul_of_nonneg_left p2.2 j0
    omega
  · unfold cellE at hQ; rw [if_pos c] at hQ; exact hQ
  · have s1 := k2 (fr + i - 1) (by omega) (by omega)
    rw [W_at r_1 (show τ.1 1 1 ≤ ((16 : Nat) : Int) by omega), if_pos (by omega)]
    refine ⟨fun d => ?_, fun d => ⟨by omega, ?_⟩⟩
    · refine W7_43 (s := fun k => τ.1 2 (fr + k)) ha hw hP (by omega) (by omega) j0 j1 s1 hT ?_ (by rw [if_pos d]) hQ
      rw [show fr + (i - 1) = fr + i - 1 by omega]
    · rw [W_at r_1 (show τ.1 1 1 ≤ ((16 : Nat) : Int) by omega), if_pos (by omega)]
      refine W7_43 (s := fun k => τ.1 2 (fr + k)) ha hw hP (by omega) (by omega) j0 j1 s1 hT ?_ ?_ hQ
      · rw [show fr + (i - 1) = fr + i - 1 by omega]
      · rw [if_neg d]; rw [show fr + (i - 2) = fr + i - 2 by omega]
def tabC (τ σ : kzM) : Prop := ∀ a x, ¬(467 ≤ a ∧ a ≤ 483) → σ.1 a x = τ.1 a x
theorem slK_to {τ σ : kzM} (h : tabC τ σ) (k : slK τ) : slK σ := by
  unfold slK prB at k ⊢
  rw [h 1 1 (by omega)]
  exact ⟨k.1, fun x x0 x1 => by rw [h 2 x (by omega)]; exact k.2.1 x x0 x1, fun x x0 x1 => by rw [h 465 x (by omega)]; exact k.2.2 x x0 x1⟩
theorem slW_to {τ σ : kzM} {a : Nat} (h : tabC τ σ) (ha : a + 1 < 467) (k : slW τ a) : slW σ a := by
  unfold slW at k ⊢
  rw [h a 1 (by omega)]
  exact ⟨k.1, fun x x0 x1 => by rw [h (a + 1) x (by omega)]; exact k.2 x x0 x1⟩
def sK (τ : kzM) (fr : Int) : Int → Int := fun k => τ.1 2 (fr + k)
def eC (τ : kzM) (a : Nat) (fr i j : Int) : Int := eD (sK τ fr) (τ.1 (a + 1)) (τ.1 465) i j
set_option maxRecDepth 100000 in
theorem W7_work_12 {τ : kzM} {a : Nat} {fr m i : Int} (ha : kRow a 8) (ha2 : a + 1 < 467) (hk : slK τ) (hw : slW τ a) (f0 : 0 ≤ fr) (fm : fr + m ≤ τ.1 1 1) (i0 : 0 ≤ i) (im : i ≤ m) {k3 : Nat → Nat → Int → Int → Nat → Int → kzM → Option (Unit × kzM)} (Q : Unit → kzM → Prop) (hQ : ∀ σ, tabC τ σ → (∀ x y, 0 ≤ x → x < i + 1 → 0 ≤ y → y ≤ τ.1 a 1 → tbC σ x y = eC τ a fr x y) → Wz (k3 464 1 fr m a (i + 1)) σ Q) : ∀ (n : Nat) (j : Int) (σ : kzM), 0 ≤ j → j ≤ τ.1 a 1 + 1 → τ.1 a 1 + 1 - j < (n : Int) → tabC τ σ → (∀ x y, 0 ≤ x → x < i → 0 ≤ y → y ≤ τ.1 a 1 → tbC σ x y = eC τ a fr x y) → (∀ y, 0 ≤ y → y < j → tbC σ i y = eC τ a fr i y) → Wz (lp (fun _ _ _ _ _ _ _ _ => none) (Z7_workOut_12B kdG0 k3) n 464 1 fr m a i j) σ Q := by
  have hk' := hk
  unfold slK at hk'
  obtain ⟨k1, k2, k4⟩ := hk'
  obtain ⟨g1, g2⟩ := g_le (i := i) i0 (by omega)
  have wl := hw.1
  intro n
  induction n with
  | zero => intro j; intros; omega
  | succ n ih =>
    intro j σ j0 j1 j2 hs h1 h2
    rw [lp_succ]
    generalize lp (fun _ _ _ _ _ _ _ _ => none) (Z7_workOut_12B kdG0 k3) n = L at ih ⊢
    unfold Z7_workOut_12B
    simp only [Wz_rt, Wz_cnd, Wz_lI, Wz_lW, Wz_lL, Wz_cl, Wz_cv, Wz_nz, Wz_gI, Wz_gR, Wz_sI, Wz_aI, Wz_aZ, Wz_aL, Wz_aN, Wz_aR, Wz_tI, Wz_tZ, Wz_tL, Option.some.injEq, exists_eq_left', zB_0, zB_1, true_and, and_true, true_implies, not_true_eq_false, false_implies, not_false_eq_true, Classical.not_not, g_0, g_1, g_2, g_336, g_337, g_338, g_339, g_340, g_341, g_342, g_343, g_464, g_465, g_466, g_484, g_485, g_486, g_487, g_488, g_489, g_490, g_580, g_581, g_582, g_583, g_584, g_585, g_586, g_587, g_0_0, g_0_1, g_0_2, g_0_3, g_0_4, g_0_5, g_0_6, g_0_7, g_0_8, g_0_9, g_0_10, g_0_11, g_1_0, g_336_0, g_336_1, g_336_2, g_336_3, g_337_0, g_339_0, g_341_0, g_464_0, g_464_1, g_484_0, g_484_1, g_484_2, g_485_0, g_487_0, g_489_0, g_580_0, g_580_1, g_580_2, g_580_3, g_581_0, g_583_0, g_585_0, ha.1, W_size ha, hs a 1 (by omega), g1]
    refine ⟨fun e => ⟨by omega, hQ σ hs fun x y x0 x1 y0 y1 => ?_⟩, fun e => ⟨by omega, ?_⟩⟩
    · by_cases c : x = i
      · rw [c]; exact h2 y y0 (by omega)
      · exact h1 x y x0 (by omega) y0 y1
    · have hE : ∀ x y, 0 ≤ x → x ≤ i → 0 ≤ y → y ≤ j → ¬(x = i ∧ y = j) → tbC σ x y = eC τ a fr x y := fun x y x0 x1 y0 y1 hn => by
        by_cases c : x = i
        · rw [c]; exact h2 y y0 (by omega)
        · exact h1 x y x0 (by omega) y0 (by omega)
      have eB : ∀ x y, 0 ≤ x → x ≤ i → 0 ≤ y → y ≤ j → 0 ≤ eC τ a fr x y ∧ eC τ a fr x y ≤ 2000 := fun x y x0 x1 y0 y1 => by
        have := eD_b (s := sK τ fr) (w := τ.1 (a + 1)) k4 (x + y + 1).toNat x y x0 y0 (by omega)
        unfold eC; omega
      refine W7_least ha (slK_to hs hk) (slW_to hs ha2 hw) f0 (by rw [hs 1 1 (by omega)]; omega) i0 j0 (by rw [hs a 1 (by omega)]; omega) (fun x y x0 x1 y0 y1 hn => by rw [hE x y x0 x1 y0 y1 hn]; exact eB x y x0 x1 y0 y1) ?_
      have r1 : (fun k => σ.1 2 (fr + k)) = sK τ fr := funext fun k => hs 2 _ (by omega)
      have r2 : σ.1 (a + 1) = τ.1 (a + 1) := funext fun k => hs _ _ (by omega)
      have r3 : σ.1 465 = τ.1 465 := funext fun k => hs _ _ (by omega)
      have ev : cellE (tbC σ) (fun k => σ.1 2 (fr + k)) (σ.1 (a + 1)) (σ.1 465) i j = eC τ a fr i j := by
        rw [r1, r2, r3]
        unfold eC
        rw [eD_eq i0 j0]
        refine cellE_cg (fun c => hE _ _ (by omega) (by omega) j0 (by omega) (by omega)) (fun c d => ⟨hE _ _ i0 (by omega) (by omega) (by omega) (by omega), hE _ _ (by omega) (by omega) (by omega) (by omega) (by omega)⟩) (fun c d e => hE _ _ (by omega) (by omega) (by omega) (by omega) (by omega))
      rw [ev]
      have bj := eB i j i0 (Int.le_refl _) j0 (Int.le_refl _)
      simp only [g2]
      refine ⟨⟨trivial, j0, by omega⟩, by omega, ih (j + 1) _ (by omega) (by omega) (by omega) (fun b x hb => ?_) (fun x y x0 x1 y0 y1 => ?_) (fun y y0 y1 => ?_)⟩
      · dsimp only; rw [v2_ne _ _ _ _ (by omega)]; exact hs b x hb
      · unfold tbC; dsimp only; rw [v2_ne _ _ _ _ (by omega)]; exact h1 x y x0 x1 y0 y1
      · unfold tbC; dsimp only; rw [v2_eq]
        by_cases c : y = j
        · rw [if_pos ⟨rfl, c⟩, c]
        · rw [if_neg (fun q => c q.2)]; exact h2 y y0 (by omega)
set_option maxRecDepth 100000 in
theorem W7_work_3 {τ : kzM} {a : Nat} {fr m : Int} (ha : kRow a 8) (ha2 : a + 1 < 467) (hk : slK τ) (hw : slW τ a) (f0 : 0 ≤ fr) (fm : fr + m ≤ τ.1 1 1) (Q : Unit → kzM → Prop) (hQ : ∀ σ, tabC τ σ → (∀ x y, 0 ≤ x → x ≤ m → 0 ≤ y → y ≤ τ.1 a 1 → tbC σ x y = eC τ a fr x y) → Q () σ) : ∀ (n : Nat) (i : Int) (σ : kzM), 0 ≤ i → i ≤ m + 1 → m + 1 - i < (n : Int) → tabC τ σ → (∀ x y, 0 ≤ x → x < i → 0 ≤ y → y ≤ τ.1 a 1 → tbC σ x y = eC τ a fr x y) → Wz (lp (fun _ _ _ _ _ _ _ => none) (Z7_workOut_3B kdG0) n 464 1 fr m a i) σ Q := by
  have hk' := hk
  unfold slK at hk'
  have wl := hw.1
  intro n
  induction n with
  | zero => intro j; intros; omega
  | succ n ih =>
    intro i σ i0 i1 i2 hs h1
    rw [lp_succ]
    unfold Z7_workOut_3B
    simp only [Wz_rt, Wz_cnd, Wz_lI, Wz_lW, Wz_lL, Wz_cl, Wz_cv, Wz_nz, Wz_gI, Wz_gR, Wz_sI, Wz_aI, Wz_aZ, Wz_aL, Wz_aN, Wz_aR, Wz_tI, Wz_tZ, Wz_tL, Option.some.injEq, exists_eq_left', zB_0, zB_1, true_and, and_true, true_implies, not_true_eq_false, false_implies, not_false_eq_true, Classical.not_not]
    refine ⟨fun e => hQ σ hs fun x y x0 x1 y0 y1 => h1 x y x0 (by omega) y0 y1, fun e => ?_⟩
    unfold Z7_workOut_12
    refine W7_work_12 ha ha2 hk hw f0 fm i0 (by omega) Q ?_ NN 0 σ (by omega) (by omega) (by unfold NN; omega) hs h1 (fun y y0 y1 => by omega)
    intro σ' hs' h'
    exact ih (i + 1) σ' (by omega) (by omega) (by omega) hs' h'
set_option maxRecDepth 100000 in
theorem W7_work {τ : kzM} {a : Nat} {fr m : Int} (ha : kRow a 8) (ha2 : a + 1 < 467) (hk : slK τ) (hw : slW τ a) (f0 : 0 ≤ fr) (m0 : 0 ≤ m) (fm : fr + m ≤ τ.1 1 1) {Q : Unit → kzM → Prop} (hQ : ∀ σ, tabC τ σ → (∀ x y, 0 ≤ x → x ≤ m → 0 ≤ y → y ≤ τ.1 a 1 → tbC σ x y = eC τ a fr x y) → Q () σ) : Wz (Z7_workOut kdG0 464 1 fr m a) τ Q := by
  have hk' := hk
  unfold slK at hk'
  unfold Z7_workOut Z7_workOut_3
  exact W7_work_3 ha ha2 hk hw f0 fm Q hQ NN 0 τ (by omega) (by omega) (by unfold NN; omega) (fun _ _ _ => rfl) (fun x y x0 x1 => by omega)
set_option maxRecDepth 100000 in
theorem W7_leastFor {τ : kzM} {a : Nat} {m : Int} (ha : kRow a 8) (hw : slW τ a) (m0 : 0 ≤ m) (m1 : m ≤ 16) {Q : Int → kzM → Prop} (hQ : Q (tbC τ m (τ.1 a 1)) τ) : Wz (Z7_leastFor kdG0 464 m a) τ Q := by
  obtain ⟨g1, g2⟩ := g_le (i := m) m0 (by omega)
  have wl := hw.1
  simp only [Z7_leastFor, Wz_rt, Wz_cnd, Wz_lI, Wz_lW, Wz_lL, Wz_cl, Wz_cv, Wz_nz, Wz_gI, Wz_gR, Wz_sI, Wz_aI, Wz_aZ, Wz_aL, Wz_aN, Wz_aR, Wz_tI, Wz_tZ, Wz_tL, Option.some.injEq, exists_eq_left', zB_0, zB_1, true_and, and_true, true_implies, not_true_eq_false, false_implies, not_false_eq_true, Classical.not_not, g_0, g_1, g_2, g_336, g_337, g_338, g_339, g_340, g_341, g_342, g_343, g_464, g_465, g_466, g_484, g_485, g_486, g_487, g_488, g_489, g_490, g_580, g_581, g_582, g_583, g_584, g_585, g_586, g_587, g_0_0, g_0_1, g_0_2, g_0_3, g_0_4, g_0_5, g_0_6, g_0_7, g_0_8, g_0_9, g_0_10, g_0_11, g_1_0, g_336_0, g_336_1, g_336_2, g_336_3, g_337_0, g_339_0, g_341_0, g_464_0, g_464_1, g_484_0, g_484_1, g_484_2, g_485_0, g_487_0, g_489_0, g_580_0, g_580_1, g_580_2, g_580_3, g_581_0, g_583_0, g_585_0, ha.1, W_size ha, g1, g2]
  exact ⟨by omega, by omega, hQ⟩
set_option maxRecDepth 100000 in
theorem W7_price {τ : kzM} {a : Nat} (ha : kRow a 8) (ha2 : a + 1 < 467) (hk : slK τ) (hw : slW τ a) {Q : Int → kzM → Prop} (hQ : ∀ σ, tabC τ σ → Q (eC τ a 0 (τ.1 1 1) (τ.1 a 1)) σ) : Wz (Z7_priceOf kdG0 464 1 a) τ Q := by
  have hk' := hk
  unfold slK at hk'
  have wl := hw.1
  simp only [Z7_priceOf, Wz_rt, Wz_cnd, Wz_lI, Wz_lW, Wz_lL, Wz_cl, Wz_cv, Wz_nz, Wz_gI, Wz_gR, Wz_sI, Wz_aI, Wz_aZ, Wz_aL, Wz_aN, Wz_aR, Wz_tI, Wz_tZ, Wz_tL, Option.some.injEq, exists_eq_left', zB_0, zB_1, true_and, and_true, true_implies, not_true_eq_false, false_implies, not_false_eq_true, Classical.not_not, g_0, g_1, g_2, g_336, g_337, g_338, g_339, g_340, g_341, g_342, g_343, g_464, g_465, g_466, g_484, g_485, g_486, g_487, g_488, g_489, g_490, g_580, g_581, g_582, g_583, g_584, g_585, g_586, g_587, g_0_0, g_0_1, g_0_2, g_0_3, g_0_4, g_0_5, g_0_6, g_0_7, g_0_8, g_0_9, g_0_10, g_0_11, g_1_0, g_336_0, g_336_1, g_336_2, g_336_3, g_337_0, g_339_0, g_341_0, g_464_0, g_464_1, g_484_0, g_484_1, g_484_2, g_485_0, g_487_0, g_489_0, g_580_0, g_580_1, g_580_2, g_580_3, g_581_0, g_583_0, g_585_0, W_size r_1]
  refine W7_work ha ha2 hk hw (by omega) hk'.1.1 (by omega) ?_
  intro σ hs h
  rw [hs 1 1 (by omega)]
  refine W7_leastFor ha (slW_to hs ha2 hw) hk'.1.1 hk'.1.2 ?_
  rw [hs a 1 (by omega), h _ _ hk'.1.1 (Int.le_refl _) (by omega) (Int.le_refl _)]
  exact hQ σ hs
