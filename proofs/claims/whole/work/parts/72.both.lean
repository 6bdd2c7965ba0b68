/-! both -/
set_option maxRecDepth 100000 in
theorem W12_bothAt_2 {a b : Int} {τ : kzM} (Q : Int → kzM → Prop) (p0 : 0 ≤ τ.1 612 45) (p1 : τ.1 612 45 ≤ 40) (h1 : ∀ k, 0 ≤ k → k < τ.1 612 45 → τ.1 646 k = a → τ.1 647 k = b → Q k τ) (h2 : (∀ k, 0 ≤ k → k < τ.1 612 45 → ¬(τ.1 646 k = a ∧ τ.1 647 k = b)) → Q (-1) τ) : ∀ (n : Nat) (j : Int), 0 ≤ j → j ≤ τ.1 612 45 → τ.1 612 45 - j < (n : Int) → (∀ k, 0 ≤ k → k < j → ¬(τ.1 646 k = a ∧ τ.1 647 k = b)) → Wz (lp (fun _ _ _ _ _ => none) (Z12_bothAt_2B kdG0) n 612 a b j) τ Q := by
  intro n
  induction n with
  | zero => intro j; intros; omega
  | succ n ih =>
    intro j j0 j1 j2 hj
    rw [lp_succ]
    unfold Z12_bothAt_2B
    simp only [Z12_bothAt_32, Wz_rt, Wz_cnd, Wz_lI, Wz_lW, Wz_lL, Wz_cl, Wz_cv, Wz_nz, Wz_gI, Wz_gR, Wz_sI, Wz_aI, Wz_aZ, Wz_aL, Wz_aN, Wz_aR, Wz_tI, Wz_tZ, Wz_tL, Option.some.injEq, exists_eq_left', zB_0, zB_1, true_and, and_true, true_implies, not_true_eq_false, false_implies, not_false_eq_true, Classical.not_not, g_0, g_1, g_2, g_3, g_4, g_5, g_327, g_328, g_329, g_330, g_331, g_332, g_333, g_334, g_335, g_336, g_337, g_338, g_339, g_340, g_341, g_342, g_343, g_464, g_465, g_466, g_484, g_485, g_486, g_487, g_488, g_489, g_490, g_491, g_492, g_493, g_494, g_495, g_496, g_497, g_498, g_499, g_500, g_501, g_562, g_563, g_564, g_565, g_566, g_567, g_568, g_574, g_580, g_581, g_582, g_583, g_584, g_585, g_586, g_587, g_588, g_589, g_590, g_591, g_592, g_600, g_601, g_602, g_603, g_604, g_605, g_606, g_607, g_608, g_609, g_610, g_611, g_612, g_613, g_614, g_615, g_616, g_617, g_618, g_619, g_620, g_621, g_622, g_623, g_624, g_625, g_626, g_627, g_628, g_629, g_630, g_631, g_632, g_633, g_634, g_635, g_636, g_637, g_638, g_639, g_640, g_641, g_642, g_643, g_644, g_645, g_646, g_647, g_648, g_649, g_650, g_651, g_652, g_653, g_654, g_655, g_656, g_657, g_658, g_659, g_660, g_661, g_662, g_0_0, g_0_1, g_0_2, g_0_3, g_0_4, g_0_5, g_0_6, g_0_7, g_0_8, g_0_9, g_0_10, g_0_11, g_1_0, g_3_0, g_327_0, g_327_1, g_327_2, g_327_3, g_328_0, g_330_0, g_332_0, g_334_0, g_336_0, g_336_1, g_336_2, g_336_3, g_337_0, g_339_0, g_341_0, g_464_0, g_464_1, g_484_0, g_484_1, g_484_2, g_485_0, g_487_0, g_489_0, g_491_0, g_491_1, g_491_2, g_491_3, g_491_4, g_491_5, g_491_6, g_491_7, g_496_0, g_498_0, g_500_0, g_500_1, g_500_3, g_500_4, g_500_5, g_500_6, g_500_7, g_562_0, g_564_0, g_566_0, g_580_0, g_580_1, g_580_2, g_580_3, g_581_0, g_583_0, g_585_0, g_588_1, g_588_2, g_588_3, g_588_4, g_588_6, g_601_0, g_601_1, g_601_2, g_601_3, g_601_4, g_601_5, g_601_6, g_601_7, g_601_8, g_608_0, g_610_0, g_612_0, g_612_2, g_612_4, g_612_5, g_612_7, g_612_8, g_612_9, g_612_10, g_612_11, g_612_12, g_612_13, g_612_14, g_612_15, g_612_16, g_612_19, g_612_20, g_612_22, g_612_24, g_612_25, g_612_26, g_612_27, g_612_28, g_612_30, g_612_31, g_612_32, g_612_33, g_612_34, g_612_36, g_612_37, g_612_38, g_612_39, g_612_40, g_612_41, g_612_42, g_612_43, g_612_44, g_612_46, g_612_47, g_612_48, g_612_49, g_612_50, g_612_53, g_612_56, g_612_57, g_612_58, g_612_59, g_612_61, g_612_62, g_612_63, g_612_64]
    refine ⟨fun e => h2 fun k k0 k1 => hj k k0 (by omega), fun e => ⟨by omega, fun z => ⟨by omega, fun y => h1 j j0 (by omega) z y, fun y => ⟨by omega, ih _ (by omega) (by omega) (by omega) fun k k0 k1 => ?_⟩⟩, fun z => ⟨by omega, ih _ (by omega) (by omega) (by omega) fun k k0 k1 => ?_⟩⟩⟩
    · by_cases c : k = j
      · rw [c]; exact fun q => y q.2
      · exact hj k k0 (by omega)
    · by_cases c : k = j
      · rw [c]; exact fun q => z q.1
      · exact hj k k0 (by omega)
set_option maxRecDepth 100000 in
theorem W12_bothAt {a b : Int} {τ : kzM} {Q : Int → kzM → Prop} (p0 : 0 ≤ τ.1 612 45) (p1 : τ.1 612 45 ≤ 40) (h1 : ∀ k, 0 ≤ k → k < τ.1 612 45 → τ.1 646 k = a → τ.1 647 k = b → Q k τ) (h2 : (∀ k, 0 ≤ k → k < τ.1 612 45 → ¬(τ.1 646 k = a ∧ τ.1 647 k = b)) → Q (-1) τ) : Wz (Z12_bothAt kdG0 612 a b) τ Q := by
  unfold Z12_bothAt Z12_bothAt_2
  exact W12_bothAt_2 Q p0 p1 h1 h2 NN 0 (by omega) p0 (by unfold NN; omega) (fun k k0 k1 => by omega)
set_option maxRecDepth 100000 in
theorem I7b_A {τ σ : kzM} {nw a b n : Int} (h : I7b τ nw) (a0 : 0 ≤ a) (a1 : a < 60) (b0 : 0 ≤ b) (b1 : b < 60) (hn : 1 ≤ n ∧ n ≤ 100) {k : Int} (k0 : 0 ≤ k) (k1 : k < τ.1 500 2) (ka : τ.1 646 k = a) (kb : τ.1 647 k = b)
    (hm : ∀ x y, 0 ≤ x → x < 60 → 0 ≤ y → y < 60 → σ.1 (502 + x.toNat) y = if x = a ∧ y = b then n else τ.1 (502 + x.toNat) y)
    (s1 : σ.1 500 2 = τ.1 500 2) (s2 : σ.1 612 45 = τ.1 612 45) (s3 : ∀ l, σ.1 646 l = τ.1 646 l) (s4 : ∀ l, σ.1 647 l = τ.1 647 l) (s5 : ∀ l, σ.1 648 l = if l = k then n else τ.1 648 l) (nw60 : nw ≤ 60) : I7b σ nw := by
  unfold I7b at h ⊢
  obtain ⟨x1, x2, x3, x4, x5⟩ := h
  rw [s1, s2]
  simp only [s3, s4, s5]
  have dis : ∀ l, 0 ≤ l → l < τ.1 500 2 → l ≠ k → ¬(τ.1 646 l = a ∧ τ.1 647 l = b) := fun l l0 l1 l2 q => by
    by_cases c : l < k
    · exact x4 l k l0 c k1 ⟨by rw [q.1, ka], by rw [q.2, kb]⟩
    · exact x4 k l k0 (by omega) l1 ⟨by rw [q.1, ka], by rw [q.2, kb]⟩
  refine ⟨x1, x2, fun l l0 l1 => ?_, x4, fun x y x0 xx y0 yy => ?_⟩
  · obtain ⟨e1, e2, e3, e4⟩ := x3 l l0 l1
    refine ⟨e1, e2, ?_, ?_⟩
    · split
      · exact hn
      · exact e3
    · rw [hm _ _ e1.1 (by omega) e2.1 (by omega)]
      by_cases c : l = k
      · rw [if_pos c, if_pos ⟨by rw [c]; exact ka, by rw [c]; exact kb⟩]
      · rw [if_neg c, if_neg (dis l l0 l1 c)]; exact e4
  · rw [hm x y x0 xx y0 yy]
    by_cases c : x = a ∧ y = b
    · exact Or.inr ⟨k, ⟨k0, k1⟩, by rw [ka, c.1], by rw [kb, c.2]⟩
    · rw [if_neg c]; exact x5 x y x0 xx y0 yy
set_option maxRecDepth 100000 in
theorem I7b_D {τ σ : kzM} {nw a b : Int} (h : I7b τ nw) (a0 : 0 ≤ a) (a1 : a < 60) (b0 : 0 ≤ b) (b1 : b < 60) {k : Int} (k0 : 0 ≤ k) (k1 : k < τ.1 500 2) (ka : τ.1 646 k = a) (kb : τ.1 647 k = b)
    (hm : ∀ x y, 0 ≤ x → x < 60 → 0 ≤ y → y < 60 → σ.1 (502 + x.toNat) y = if x = a ∧ y = b then 0 else τ.1 (502 + x.toNat) y)
    (s1 : σ.1 500 2 = τ.1 500 2 - 1) (s2 : σ.1 612 45 = τ.1 612 45 - 1) (s3 : ∀ l, l < τ.1 500 2 - 1 → σ.1 646 l = if l = k then τ.1 646 (τ.1 500 2 - 1) else τ.1 646 l) (s4 : ∀ l, l < τ.1 500 2 - 1 → σ.1 647 l = if l = k then τ.1 647 (τ.1 500 2 - 1) else τ.1 647 l) (s5 : ∀ l, l < τ.1 500 2 - 1 → σ.1 648 l = if l = k then τ.1 648 (τ.1 500 2 - 1) else τ.1 648 l) (nw60 : nw ≤ 60) : I7b σ nw := by
  unfold I7b at h ⊢
  obtain ⟨x1, x2, x3, x4, x5⟩ := h
  rw [s1, s2]
  have dis : ∀ l, 0 ≤ l → l < τ.1 500 2 → l ≠ k → ¬(τ.1 646 l = a ∧ τ.1 647 l = b) := fun l l0 l1 l2 q => by
    by_cases c : l < k
    · exact x4 l k l0 c k1 ⟨by rw [q.1, ka], by rw [q.2, kb]⟩
    · exact x4 k l k0 (by omega) l1 ⟨by rw [q.1, ka], by rw [q.2, kb]⟩
  refine ⟨by omega, by omega, fun l l0 l1 => ?_, fun l m l0 lm m1 => ?_, fun x y x0 xx y0 yy => ?_⟩
  · rw [s3 l l1, s4 l l1, s5 l l1]
    by_cases c : l = k
    · rw [if_pos c, if_pos c, if_pos c]
      obtain ⟨e1, e2, e3, e4⟩ := x3 (τ.1 500 2 - 1) (by omega) (by omega)
      rw [hm _ _ e1.1 (by omega) e2.1 (by omega), if_neg (dis _ (by omega) (by omega) (by omega))]
      exact ⟨e1, e2, e3, e4⟩
    · rw [if_neg c, if_neg c, if_neg c]
      obtain ⟨e1, e2, e3, e4⟩ := x3 l l0 (by omega)
      rw [hm _ _ e1.1 (by omega) e2.1 (by omega), if_neg (dis l l0 (by omega) c)]
      exact ⟨e1, e2, e3, e4⟩
  · rw [s3 l (by omega), s4 l (by omega), s3 m m1, s4 m m1]
    by_cases c : l = k
    · rw [if_pos c, if_pos c, if_neg (by omega), if_neg (by omega)]
      exact fun q => x4 m (τ.1 500 2 - 1) (by omega) (by omega) (by omega) ⟨q.1.symm, q.2.symm⟩
    · rw [if_neg c, if_neg c]
      by_cases d : m = k
      · rw [if_pos d, if_pos d]; exact x4 l (τ.1 500 2 - 1) l0 (by omega) (by omega)
      · rw [if_neg d, if_neg d]; exact x4 l m l0 lm (by omega)
  · rw [hm x y x0 xx y0 yy]
    by_cases c : x = a ∧ y = b
    · rw [if_pos c]; exact Or.inl rfl
    · rw [if_neg c]
      rcases x5 x y x0 xx y0 yy with e | ⟨l, ⟨l0, l1⟩, l2, l3⟩
      · exact Or.inl e
      · have lk : l ≠ k := fun q => c ⟨by rw [← l2, q, ka], by rw [← l3, q, kb]⟩
        by_cases d : l = τ.1 500 2 - 1
        · refine Or.inr ⟨k, ⟨k0, by omega⟩, ?_, ?_⟩
          · rw [s3 k (by omega), if_pos rfl, ← d]; exact l2
          · rw [s4 k (by omega), if_pos rfl, ← d]; exact l3
        · refine Or.inr ⟨l, ⟨l0, by omega⟩, ?_, ?_⟩
          · rw [s3 l (by omega), if_neg lk]; exact l2
          · rw [s4 l (by omega), if_neg lk]; exact l3
set_option maxRecDepth 100000 in
theorem I7b_N {τ σ : kzM} {nw a b n : Int} (h : I7b τ nw) (a0 : 0 ≤ a) (a1 : a < nw) (b0 : 0 ≤ b) (b1 : b < nw) (hn : 1 ≤ n ∧ n ≤ 100) (hno : ∀ k, 0 ≤ k → k < τ.1 500 2 → ¬(τ.1 646 k = a ∧ τ.1 647 k = b)) (hp : τ.1 500 2 < 40)
    (hm : ∀ x y, 0 ≤ x → x < 60 → 0 ≤ y → y < 60 → σ.1 (502 + x.toNat) y = if x = a ∧ y = b then n else τ.1 (502 + x.toNat) y)
    (s1 : σ.1 500 2 = τ.1 500 2 + 1) (s2 : σ.1 612 45 = τ.1 612 45 + 1) (s3 : ∀ l, σ.1 646 l = if l = τ.1 500 2 then a else τ.1 646 l) (s4 : ∀ l, σ.1 647 l = if l = τ.1 500 2 then b else τ.1 647 l) (s5 : ∀ l, σ.1 648 l = if l = τ.1 500 2 then n else τ.1 648 l) (nw60 : nw ≤ 60) : I7b σ nw := by
  unfold I7b at h ⊢
  obtain ⟨x1, x2, x3, x4, x5⟩ := h
  rw [s1, s2]
  simp only [s3, s4, s5]
  refine ⟨by omega, by omega, fun l l0 l1 => ?_, fun l m l0 lm m1 => ?_, fun x y x0 xx y0 yy => ?_⟩
  · by_cases c : l = τ.1 500 2
    · rw [if_pos c, if_pos c, if_pos c, hm _ _ a0 (by omega) b0 (by omega), if_pos ⟨rfl, rfl⟩]
      exact ⟨⟨a0, a1⟩, ⟨b0, b1⟩, hn, rfl⟩
    · rw [if_neg c, if_neg c, if_neg c]
      obtain ⟨e1, e2, e3, e4⟩ := x3 l l0 (by omega)
      rw [hm _ _ e1.1 (by omega) e2.1 (by omega), if_neg (hno l l0 (by omega))]
      exact ⟨e1, e2, e3, e4⟩
  · rw [if_neg (show ¬l = τ.1 500 2 by omega), if_neg (show ¬l = τ.1 500 2 by omega)]
    by_cases d : m = τ.1 500 2
    · rw [if_pos d, if_pos d]; exact hno l l0 (by omega)
    · rw [if_neg d, if_neg d]; exact x4 l m l0 lm (by omega)
  · rw [hm x y x0 xx y0 yy]
    by_cases c : x = a ∧ y = b
    · exact Or.inr ⟨τ.1 500 2, ⟨by omega, by omega⟩, by rw [if_pos rfl, c.1], by rw [if_pos rfl, c.2]⟩
    · rw [if_neg c]
      rcases x5 x y x0 xx y0 yy with e | ⟨l, ⟨l0, l1⟩, l2, l3⟩
      · exact Or.inl e
      · exact Or.inr ⟨l, ⟨l0, by omega⟩, by rw [if_neg (by omega)]; exact l2, by rw [if_neg (by omega)]; exact l3⟩
set_option maxRecDepth 100000 in
theorem I7b_Z {τ σ : kzM} {nw a b : Int} (h : I7b τ nw) (hno : ∀ k, 0 ≤ k → k < τ.1 500 2 → ¬(τ.1 646 k = a ∧ τ.1 647 k = b))
    (hm : ∀ x y, 0 ≤ x → x < 60 → 0 ≤ y → y < 60 → σ.1 (502 + x.toNat) y = if x = a ∧ y = b then 0 else τ.1 (502 + x.toNat) y)
    (s1 : σ.1 500 2 = τ.1 500 2) (s2 : σ.1 612 45 = τ.1 612 45) (s3 : ∀ l, σ.1 646 l = τ.1 646 l) (s4 : ∀ l, σ.1 647 l = τ.1 647 l) (s5 : ∀ l, σ.1 648 l = τ.1 648 l) (nw60 : nw ≤ 60) : I7b σ nw := by
  unfold I7b at h ⊢
  obtain ⟨x1, x2, x3, x4, x5⟩ := h
  rw [s1, s2]
  simp only [s3, s4, s5]
  refine ⟨x1, x2, fun l l0 l1 => ?_, x4, fun x y x0 xx y0 yy => ?_⟩
  · obtain ⟨e1, e2, e3, e4⟩ := x3 l l0 (by omega)
    rw [hm _ _ e1.1 (by omega) e2.1 (by omega), if_neg (hno l l0 (by omega))]
    exact ⟨e1, e2, e3, e4⟩
  · rw [hm x y x0 xx y0 yy]
    split
    · exact Or.inl rfl
    · exact x5 x y x0 xx y0 yy
set_option maxRecDepth 100000 in
theorem m_both (a b n : Int) (_ : kzI a) (_ : kzI b) (_ : kzI n) : MOK (Z11_both kdG0 0 a b n) (Z12_both kdG0 612 a b n) := by
  intro τ hI
  have i5 := hI.2.2.2.2.1
  have i10 := hI.2.2.2.2.2.2.1.2
  unfold I5 at i5
  have b1 := i5.1
  have b2 := i5.2.2.2.1
  clear i5
  unfold I7b at i10
  obtain ⟨x1, x2, x3, x4, x5⟩ := i10
  by_cases c : (0 ≤ a ∧ a < τ.1 337 1) ∧ (0 ≤ b ∧ b < τ.1 337 1) ∧ (0 ≤ n ∧ n ≤ 100)
  · obtain ⟨c1, c2, c3⟩ := c
    obtain ⟨g1, g2⟩ := g_tg (i := a) (by omega) (by omega)
    have n1 : ¬(612 = 502 + a.toNat) := by omega
    have n2 : ¬(500 = 502 + a.toNat) := by omega
    have n3 : ¬(646 = 502 + a.toNat) := by omega
    have n4 : ¬(647 = 502 + a.toNat) := by omega
    have n5 : ¬(648 = 502 + a.toNat) := by omega
    simp only [Z11_both_22, Z11_both_68, Z11_both, W10_has, Z0_setTogether_43, Z0_setTogether_33, Z0_setTogether, Z0_together, Z0_pairs, Z11_isKey, Z11_isLetter, Z11_isTongue, Z11_isHand, Z11_isDay, Z12_isKey, Z12_isLetter, Z12_isTongue, Z12_isHand, Z12_areTongues, Z12_isWord, Z12_isSymbol, W_within, W_in, zp_0, zB_zp, W_size r_1, W_isEmpty r_1, W_isFull r_1, W_has r_1, W_clear r_1, W_size r_3, W_isEmpty r_3, W_isFull r_3, W_has r_3, W_clear r_3, W_size r_328, W_isEmpty r_328, W_isFull r_328, W_has r_328, W_clear r_328, W_size r_330, W_isEmpty r_330, W_isFull r_330, W_has r_330, W_clear r_330, W_size r_332, W_isEmpty r_332, W_isFull r_332, W_has r_332, W_clear r_332, W_size r_334, W_isEmpty r_334, W_isFull r_334, W_has r_334, W_clear r_334, W_size r_337, W_isEmpty r_337, W_isFull r_337, W_has r_337, W_clear r_337, W_size r_339, W_isEmpty r_339, W_isFull r_339, W_has r_339, W_clear r_339, W_size r_341, W_isEmpty r_341, W_isFull r_341, W_has r_341, W_clear r_341, W_size r_485, W_isEmpty r_485, W_isFull r_485, W_has r_485, W_clear r_485, W_size r_487, W_isEmpty r_487, W_isFull r_487, W_has r_487, W_clear r_487, W_size r_489, W_isEmpty r_489, W_isFull r_489, W_has r_489, W_clear r_489, W_size r_496, W_isEmpty r_496, W_isFull r_496, W_has r_496, W_clear r_496, W_size r_498, W_isEmpty r_498, W_isFull r_498, W_has r_498, W_clear r_498, W_size r_562, W_isEmpty r_562, W_isFull r_562, W_has r_562, W_clear r_562, W_size r_564, W_isEmpty r_564, W_isFull r_564, W_has r_564, W_clear r_564, W_size r_566, W_isEmpty r_566, W_isFull r_566, W_has r_566, W_clear r_566, W_size r_581, W_isEmpty r_581, W_isFull r_581, W_has r_581, W_clear r_581, W_size r_583, W_isEmpty r_583, W_isFull r_583, W_has r_583, W_clear r_583, W_size r_585, W_isEmpty r_585, W_isFull r_585, W_has r_585, W_clear r_585, W_size r_608, W_isEmpty r_608, W_isFull r_608, W_has r_608, W_clear r_608, W_size r_610, W_isEmpty r_610, W_isFull r_610, W_has r_610, W_clear r_610, Wz_rt, Wz_cnd, Wz_lI, Wz_lW, Wz_lL, Wz_cl, Wz_cv, Wz_nz, Wz_gI, Wz_gR, Wz_sI, Wz_aI, Wz_aZ, Wz_aL, Wz_aN, Wz_aR, Wz_tI, Wz_tZ, Wz_tL, Option.some.injEq, exists_eq_left', zB_0, zB_1, true_and, and_true, true_implies, not_true_eq_false, false_implies, not_false_eq_true, Classical.not_not, g_0, g_1, g_2, g_3, g_4, g_5, g_327, g_328, g_329, g_330, g_331, g_332, g_333, g_334, g_335, g_336, g_337, g_338, g_339, g_340, g_341, g_342, g_343, g_464, g_465, g_466, g_484, g_485, g_486, g_487, g_488, g_489, g_490, g_491, g_492, g_493, g_494, g_495, g_496, g_497, g_498, g_499, g_500, g_501, g_562, g_563, g_564, g_565, g_566, g_567, g_568, g_574, g_580, g_581, g_582, g_583, g_584, g_585, g_586, g_587, g_588, g_589, g_590, g_591, g_592, g_600, g_601, g_602, g_603, g_604, g_605, g_606, g_607, g_608, g_609, g_610, g_611, g_612, g_613, g_614, g_615, g_616, g_617, g_618, g_619, g_620, g_621, g_622, g_623, g_624, g_625, g_626, g_627, g_628, g_629, g_630, g_631, g_632, g_633, g_634, g_635, g_636, g_637, g_638, g_639, g_640, g_641, g_642, g_643, g_644, g_645, g_646, g_647, g_648, g_649, g_650, g_651, g_652, g_653, g_654, g_655, g_656, g_657, g_658, g_659, g_660, g_661, g_662, g_0_0, g_0_1, g_0_2, g_0_3, g_0_4, g_0_5, g_0_6, g_0_7, g_0_8, g_0_9, g_0_10, g_0_11, g_1_0, g_3_0, g_327_0, g_327_1, g_327_2, g_327_3, g_328_0, g_330_0, g_332_0, g_334_0, g_336_0, g_336_1, g_336_2, g_336_3, g_337_0, g_339_0, g_341_0, g_464_0, g_464_1, g_484_0, g_484_1, g_484_2, g_485_0, g_487_0, g_489_0, g_491_0, g_491_1, g_491_2, g_491_3, g_491_4, g_491_5, g_491_6, g_491_7, g_496_0, g_498_0, g_500_0, g_500_1, g_500_3, g_500_4, g_500_5, g_500_6, g_500_7, g_562_0, g_564_0, g_566_0, g_580_0, g_580_1, g_580_2, g_580_3, g_581_0, g_583_0, g_585_0, g_588_1, g_588_2, g_588_3, g_588_4, g_588_6, g_601_0, g_601_1, g_601_2, g_601_3, g_601_4, g_601_5, g_601_6, g_601_7, g_601_8, g_608_0, g_610_0, g_612_0, g_612_2, g_612_4, g_612_5, g_612_7, g_612_8, g_612_9, g_612_10, g_612_11, g_612_12, g_612_13, g_612_14, g_612_15, g_612_16, g_612_19, g_612_20, g_612_22, g_612_24, g_612_25, g_612_26, g_612_27, g_612_28, g_612_30, g_612_31, g_612_32, g_612_33, g_612_34, g_612_36, g_612_37, g_612_38, g_612_39, g_612_40, g_612_41, g_612_42, g_612_43, g_612_44, g_612_46, g_612_47, g_612_48, g_612_49, g_612_50, g_612_53, g_612_56, g_612_57, g_612_58, g_612_59, g_612_61, g_612_62, g_612_63, g_612_64, addF, v2, rw1, Nat.reduceEqDiff, Nat.reduceAdd, Int.reduceEq, Int.reduceNeg, reduceIte, false_and, and_false, true_and, and_true, and_self, g1, g2, c1, c2, c3, n1, n2]
    have v0 := x5 a b c1.1 (by omega) c2.1 (by omega)
    have vk : ∀ k, 0 ≤ k → k < τ.1 500 2 → τ.1 646 k = a → τ.1 647 k = b → τ.1 (502 + a.toNat) b = τ.1 648 k ∧ 1 ≤ τ.1 648 k ∧ τ.1 648 k ≤ 100 := fun k k0 k1 k2 k3 => by
      obtain ⟨e1, e2, e3, e4⟩ := x3 k k0 k1
      rw [k2, k3] at e4
      exact ⟨e4, e3⟩
    have i10 := hI.2.2.2.2.2.2.1.2
    have mdl : ∀ p', (n ≤ 0 → τ.1 (502 + a.toNat) b ≤ 0 → p' = τ.1 500 2) → (n ≤ 0 → ¬τ.1 (502 + a.toNat) b ≤ 0 → p' = τ.1 500 2 - 1) → (¬n ≤ 0 → τ.1 (502 + a.toNat) b ≤ 0 → p' = τ.1 500 2 + 1 ∧ τ.1 500 2 < 40) → (¬n ≤ 0 → ¬τ.1 (502 + a.toNat) b ≤ 0 → p' = τ.1 500 2) → Wz (Z12_both kdG0 612 a b n) (v2 (v2 τ.1 (502 + a.toNat) b n) 500 2 p', τ.2) fun s τ2 => τ.1 (502 + a.toNat) b = s ∧ Inv τ2 := by
      intro p' p1 p2 p3 p4
      obtain ⟨M, hM⟩ : ∃ M, M = v2 (v2 τ.1 (502 + a.toNat) b n) 500 2 p' := ⟨_, rfl⟩
      rw [← hM]
      have f : ∀ c x, 562 ≤ c → M c x = τ.1 c x := fun c x hc => by rw [hM, v2_ne _ _ _ _ (by omega), v2_ne _ _ _ _ (by omega)]
      have fm : ∀ x y, 0 ≤ x → x < 60 → 0 ≤ y → y < 60 → M (502 + x.toNat) y = if x = a ∧ y = b then n else τ.1 (502 + x.toNat) y := fun x y x0 xx y0 yy => by
        rw [hM, v2_ne _ _ _ _ (by omega), v2_eq]
        by_cases q : x = a ∧ y = b
        · rw [if_pos ⟨by omega, q.2⟩, if_pos q]
        · rw [if_neg (fun w => q ⟨by omega, w.2⟩), if_neg q]
      have f5 : M 500 2 = p' := by rw [hM, v2_self]
      have fag : Ag 10 τ (M, τ.2) := by rw [hM]; repeat (first | exact ag_z | refine ag_w ?_ (by first | exact Or.inl rfl | exact Or.inr rfl | exact Or.inl (md_3 (by omega)) | exact Or.inl (md_5 (by omega)) | exact Or.inl (md_10 (by omega)) | exact Or.inl (md_9 (by omega)) | exact Or.inr (md_20 (by omega)) | exact Or.inl (md_20 (by omega))) | refine ag_wr ?_ (by intro _; first | exact Or.inl rfl | exact Or.inr rfl | exact Or.inl (md_3 (by omega)) | exact Or.inl (md_5 (by omega)) | exact Or.inl (md_10 (by omega)) | exact Or.inl (md_9 (by omega)) | exact Or.inr (md_20 (by omega)) | exact Or.inl (md_20 (by omega))))
      simp only [Z12_both, Z12_isWord, W_in, zp_0, zB_zp, Wz_rt, Wz_cnd, Wz_lI, Wz_lW, Wz_lL, Wz_cl, Wz_cv, Wz_nz, Wz_gI, Wz_gR, Wz_sI, Wz_aI, Wz_aZ, Wz_aL, Wz_aN, Wz_aR, Wz_tI, Wz_tZ, Wz_tL, Option.some.injEq, exists_eq_left', zB_0, zB_1, true_and, and_true, true_implies, not_true_eq_false, false_implies, not_false_eq_true, Classical.not_not, g_0, g_1, g_2, g_3, g_4, g_5, g_327, g_328, g_329, g_330, g_331, g_332, g_333, g_334, g_335, g_336, g_337, g_338, g_339, g_340, g_341, g_342, g_343, g_464, g_465, g_466, g_484, g_485, g_486, g_487, g_488, g_489, g_490, g_491, g_492, g_493, g_494, g_495, g_496, g_497, g_498, g_499, g_500, g_501, g_562, g_563, g_564, g_565, g_566, g_567, g_568, g_574, g_580, g_581, g_582, g_583, g_584, g_585, g_586, g_587, g_588, g_589, g_590, g_591, g_592, g_600, g_601, g_602, g_603, g_604, g_605, g_606, g_607, g_608, g_609, g_610, g_611, g_612, g_613, g_614, g_615, g_616, g_617, g_618, g_619, g_620, g_621, g_622, g_623, g_624, g_625, g_626, g_627, g_628, g_629, g_630, g_631, g_632, g_633, g_634, g_635, g_636, g_637, g_638, g_639, g_640, g_641, g_642, g_643, g_644, g_645, g_646, g_647, g_648, g_649, g_650, g_651, g_652, g_653, g_654, g_655, g_656, g_657, g_658, g_659, g_660, g_661, g_662, g_0_0, g_0_1, g_0_2, g_0_3, g_0_4, g_0_5, g_0_6, g_0_7, g_0_8, g_0_9, g_0_10, g_0_11, g_1_0, g_3_0, g_327_0, g_327_1, g_327_2, g_327_3, g_328_0, g_330_0, g_332_0, g_334_0, g_336_0, g_336_1, g_336_2, g_336_3, g_337_0, g_339_0, g_341_0, g_464_0, g_464_1, g_484_0, g_484_1, g_484_2, g_485_0, g_487_0, g_489_0, g_491_0, g_491_1, g_491_2, g_491_3, g_491_4, g_491_5, g_491_6, g_491_7, g_496_0, g_498_0, g_500_0, g_500_1, g_500_3, g_500_4, g_500_5, g_500_6, g_500_7, g_562_0, g_564_0, g_566_0, g_580_0, g_580_1, g_580_2, g_580_3, g_581_0, g_583_0, g_585_0, g_588_1, g_588_2, g_588_3, g_588_4, g_588_6, g_601_0, g_601_1, g_601_2, g_601_3, g_601_4, g_601_5, g_601_6, g_601_7, g_601_8, g_608_0, g_610_0, g_612_0, g_612_2, g_612_4, g_612_5, g_612_7, g_612_8, g_612_9, g_612_10, g_612_11, g_612_12, g_612_13, g_612_14, g_612_15, g_612_16, g_612_19, g_612_20, g_612_22, g_612_24, g_612_25, g_612_26, g_612_27, g_612_28, g_612_30, g_612_31, g_612_32, g_612_33, g_612_34, g_612_36, g_612_37, g_612_38, g_612_39, g_612_40, g_612_41, g_612_42, g_612_43, g_612_44, g_612_46, g_612_47, g_612_48, g_612_49, g_612_50, g_612_53, g_612_56, g_612_57, g_612_58, g_612_59, g_612_61, g_612_62, g_612_63, g_612_64, f 612 _ (by decide), c3]
      refine ⟨by omega, fun z => by omega, fun _ => ⟨by omega, fun z => by omega, fun _ => ?_⟩⟩
      refine W12_bothAt (τ := (M, τ.2)) ?_ ?_ ?_ ?_
      · dsimp only; rw [f 612 _ (by decide)]; omega
      · dsimp only; rw [f 612 _ (by decide)]; omega
      · intro k k0 k1 k2 k3
        dsimp only at k1 k2 k3
        rw [f 612 _ (by decide), x2] at k1
        rw [f 646 _ (by decide)] at k2
        rw [f 647 _ (by decide)] at k3
        obtain ⟨v1, v2', v3⟩ := vk k k0 k1 k2 k3
        have uniq : ∀ l, 0 ≤ l → l < τ.1 500 2 → τ.1 646 l = a → τ.1 647 l = b → l = k := fun l l0 l1 l2 l3 => by
          by_cases c : l = k
          · exact c
          · exfalso
            by_cases d : l < k
            · exact x4 l k l0 d k1 ⟨by rw [l2, k2], by rw [l3, k3]⟩
            · exact x4 k l k0 (by omega) l1 ⟨by rw [l2, k2], by rw [l3, k3]⟩
        have go : Wz (Z12_both_62 kdG0 612 a b n k) (M, τ.2) fun s τ2 => τ.1 (502 + a.toNat) b = s ∧ Inv τ2 := by
          simp only [Z12_both_62, Z12_both_111, Z12_both_186, Z12_bothOf, Z12_bothOf_21, Wz_rt, Wz_cnd, Wz_lI, Wz_lW, Wz_lL, Wz_cl, Wz_cv, Wz_nz, Wz_gI, Wz_gR, Wz_sI, Wz_aI, Wz_aZ, Wz_aL, Wz_aN, Wz_aR, Wz_tI, Wz_tZ, Wz_tL, Option.some.injEq, exists_eq_left', zB_0, zB_1, true_and, and_true, true_implies, not_true_eq_false, false_implies, not_false_eq_true, Classical.not_not, g_0, g_1, g_2, g_3, g_4, g_5, g_327, g_328, g_329, g_330, g_331, g_332, g_333, g_334, g_335, g_336, g_337, g_338, g_339, g_340, g_341, g_342, g_343, g_464, g_465, g_466, g_484, g_485, g_486, g_487, g_488, g_489, g_490, g_491, g_492, g_493, g_494, g_495, g_496, g_497, g_498, g_499, g_500, g_501, g_562, g_563, g_564, g_565, g_566, g_567, g_568, g_574, g_580, g_581, g_582, g_583, g_584, g_585, g_586, g_587, g_588, g_589, g_590, g_591, g_592, g_600, g_601, g_602, g_603, g_604, g_605, g_606, g_607, g_608, g_609, g_610, g_611, g_612, g_613, g_614, g_615, g_616, g_617, g_618, g_619, g_620, g_621, g_622, g_623, g_624, g_625, g_626, g_627, g_628, g_629, g_630, g_631, g_632, g_633, g_634, g_635, g_636, g_637, g_638, g_639, g_640, g_641, g_642, g_643, g_644, g_645, g_646, g_647, g_648, g_649, g_650, g_651, g_652, g_653, g_654, g_655, g_656, g_657, g_658, g_659, g_660, g_661, g_662, g_0_0, g_0_1, g_0_2, g_0_3, g_0_4, g_0_5, g_0_6, g_0_7, g_0_8, g_0_9, g_0_10, g_0_11, g_1_0, g_3_0, g_327_0, g_327_1, g_327_2, g_327_3, g_328_0, g_330_0, g_332_0, g_334_0, g_336_0, g_336_1, g_336_2, g_336_3, g_337_0, g_339_0, g_341_0, g_464_0, g_464_1, g_484_0, g_484_1, g_484_2, g_485_0, g_487_0, g_489_0, g_491_0, g_491_1, g_491_2, g_491_3, g_491_4, g_491_5, g_491_6, g_491_7, g_496_0, g_498_0, g_500_0, g_500_1, g_500_3, g_500_4, g_500_5, g_500_6, g_500_7, g_562_0, g_564_0, g_566_0, g_580_0, g_580_1, g_580_2, g_580_3, g_581_0, g_583_0, g_585_0, g_588_1, g_588_2, g_588_3, g_588_4, g_588_6, g_601_0, g_601_1, g_601_2, g_601_3, g_601_4, g_601_5, g_601_6, g_601_7, g_601_8, g_608_0, g_610_0, g_612_0, g_612_2, g_612_4, g_612_5, g_612_7, g_612_8, g_612_9, g_612_10, g_612_11, g_612_12, g_612_13, g_612_14, g_612_15, g_612_16, g_612_19, g_612_20, g_612_22, g_612_24, g_612_25, g_612_26, g_612_27, g_612_28, g_612_30, g_612_31, g_612_32, g_612_33, g_612_34, g_612_36, g_612_37, g_612_38, g_612_39, g_612_40, g_612_41, g_612_42, g_612_43, g_612_44, g_612_46, g_612_47, g_612_48, g_612_49, g_612_50, g_612_53, g_612_56, g_612_57, g_612_58, g_612_59, g_612_61, g_612_62, g_612_63, g_612_64]
          refine W12_bothAt (τ := (M, τ.2)) ?_ ?_ ?_ ?_
          · dsimp only; rw [f 612 _ (by decide)]; omega
          · dsimp only; rw [f 612 _ (by decide)]; omega
          · intro l l0 l1 l2 l3
            dsimp only at l1 l2 l3
            rw [f 612 _ (by decide), x2] at l1
            rw [f 646 _ (by decide)] at l2
            rw [f 647 _ (by decide)] at l3
            have lk := uniq l l0 l1 l2 l3
            subst lk
            simp only [f 648 _ (by decide), addF, v2, rw1, Nat.reduceEqDiff, Nat.reduceAdd, Int.reduceEq, Int.reduceNeg, reduceIte, false_and, and_false, true_and, and_true, and_self, f 612 _ (by decide), f 646 _ (by decide), f 647 _ (by decide), x2]
            refine ⟨fun _ => ⟨by omega, fun _ => ⟨fun z => by omega, fun _ => ⟨by omega, fun z => ?_, fun z => ?_⟩⟩, fun z => by omega⟩, fun z => by omega⟩
            · refine ⟨by omega, by omega, by omega, by omega, by omega, by omega, by omega, v1, ?_⟩
              refine inv_m10 (fun c x h1 h2 => ?_) hI ?_
              · rw [← fag c x h1 h2]
                show v2 _ _ _ _ c x = _
                have h3 : c ≠ 646 ∧ c ≠ 647 ∧ c ≠ 648 ∧ ¬(c = 612 ∧ x = 45) := ⟨fun q => h1 (by rw [q]; rfl), fun q => h1 (by rw [q]; rfl), fun q => h1 (by rw [q]; rfl), fun q => h1 (by rw [q.1, q.2]; rfl)⟩
                obtain ⟨w1, w2, w3, w4⟩ := h3
                rw [v2_ne _ _ _ _ w3, v2_ne _ _ _ _ w2, v2_ne _ _ _ _ w1, v2_eq, if_neg w4, v2_ne _ _ _ _ w3]
              · refine I7b_D (a := a) (b := b) i10 c1.1 (by omega) c2.1 (by omega) k0 k1 k2 k3 ?_ ?_ ?_ ?_ ?_ ?_ (by omega)
                · intro x y x0 xx y0 yy
                  dsimp only
                  rw [v2_ne _ _ _ _ (by omega), v2_ne _ _ _ _ (by omega), v2_ne _ _ _ _ (by omega), v2_ne _ _ _ _ (by omega), v2_ne _ _ _ _ (by omega), fm x y x0 xx y0 yy, z]
                · simp only [addF, v2, rw1, Nat.reduceEqDiff, Nat.reduceAdd, Int.reduceEq, Int.reduceNeg, reduceIte, false_and, and_false, true_and, and_true, and_self, f5]; exact p2 (by omega) (by omega)
                · simp only [addF, v2, rw1, Nat.reduceEqDiff, Nat.reduceAdd, Int.reduceEq, Int.reduceNeg, reduceIte, false_and, and_false, true_and, and_true, and_self]; omega
                · intro q q1
                  simp only [addF, v2, rw1, Nat.reduceEqDiff, Nat.reduceAdd, Int.reduceEq, Int.reduceNeg, reduceIte, false_and, and_false, true_and, and_true, and_self, f 646 _ (by decide)]
                · intro q q1
                  simp only [addF, v2, rw1, Nat.reduceEqDiff, Nat.reduceAdd, Int.reduceEq, Int.reduceNeg, reduceIte, false_and, and_false, true_and, and_true, and_self, f 647 _ (by decide)]
                · intro q q1
                  simp only [addF, v2, rw1, Nat.reduceEqDiff, Nat.reduceAdd, Int.reduceEq, Int.reduceNeg, reduceIte, false_and, and_false, true_and, and_true, and_self, f 648 _ (by decide)]
                  by_cases e : q = l
                  · rw [if_pos e, if_pos e, if_neg (by omega)]
                  · rw [if_neg e, if_neg e, if_neg e]
            · refine ⟨v1, ?_⟩
              refine inv_m10 (ag_w fag (Or.inl rfl)) hI ?_
              refine I7b_A (n := n) (a := a) (b := b) i10 c1.1 (by omega) c2.1 (by omega) ⟨by omega, by omega⟩ k0 k1 k2 k3 ?_ ?_ ?_ ?_ ?_ ?_ (by omega)
              · intro x y x0 xx y0 yy
                dsimp only
                rw [v2_ne _ _ _ _ (by omega), fm x y x0 xx y0 yy]
              · simp only [addF, v2, rw1, Nat.reduceEqDiff, Nat.reduceAdd, Int.reduceEq, Int.reduceNeg, reduceIte, false_and, and_false, true_and, and_true, and_self, f5]; exact p4 (by omega) (by omega)
              · simp only [addF, v2, rw1, Nat.reduceEqDiff, Nat.reduceAdd, Int.reduceEq, Int.reduceNeg, reduceIte, false_and, and_false, true_and, and_true, and_self, f 612 _ (by decide)]
              · intro q; simp only [addF, v2, rw1, Nat.reduceEqDiff, Nat.reduceAdd, Int.reduceEq, Int.reduceNeg, reduceIte, false_and, and_false, true_and, and_true, and_self, f 646 _ (by decide)]
              · intro q; simp only [addF, v2, rw1, Nat.reduceEqDiff, Nat.reduceAdd, Int.reduceEq, Int.reduceNeg, reduceIte, false_and, and_false, true_and, and_true, and_self, f 647 _ (by decide)]
              · intro q; simp only [addF, v2, rw1, Nat.reduceEqDiff, Nat.reduceAdd, Int.reduceEq, Int.reduceNeg, reduceIte, false_and, and_false, true_and, and_true, and_self, f 648 _ (by decide)]
          · intro q
            refine absurd (show τ.1 646 k = a ∧ τ.1 647 k = b from ⟨k2, k3⟩) ?_
            have := q k k0 (by dsimp only; rw [f 612 _ (by decide), x2]; exact k1)
            dsimp only at this
            rw [f 646 _ (by decide), f 647 _ (by decide)] at this
            exact this
        exact ⟨fun _ => go, fun z => by omega⟩
      · intro hno'
        have hno : ∀ k, 0 ≤ k → k < τ.1 500 2 → ¬(τ.1 646 k = a ∧ τ.1 647 k = b) := fun k k0 k1 => by
          have := hno' k k0 (by dsimp only; rw [f 612 _ (by decide), x2]; exact k1)
          dsimp only at this
          rw [f 646 _ (by decide), f 647 _ (by decide)] at this
          exact this
        have vz : τ.1 (502 + a.toNat) b = 0 := by
          rcases v0 with e | ⟨k, ⟨k0, k1⟩, k2, k3⟩
          · exact e
          · exact absurd ⟨k2, k3⟩ (hno k k0 k1)
        have go : Wz (Z12_both_62 kdG0 612 a b n (-1)) (M, τ.2) fun s τ2 => τ.1 (502 + a.toNat) b = s ∧ Inv τ2 := by
          simp only [Z12_both_62, Z12_both_111, Z12_both_186, Z12_bothOf, Z12_bothOf_21, Wz_rt, Wz_cnd, Wz_lI, Wz_lW, Wz_lL, Wz_cl, Wz_cv, Wz_nz, Wz_gI, Wz_gR, Wz_sI, Wz_aI, Wz_aZ, Wz_aL, Wz_aN, Wz_aR, Wz_tI, Wz_tZ, Wz_tL, Option.some.injEq, exists_eq_left', zB_0, zB_1, true_and, and_true, true_implies, not_true_eq_false, false_implies, not_false_eq_true, Classical.not_not, g_0, g_1, g_2, g_3, g_4, g_5, g_327, g_328, g_329, g_330, g_331, g_332, g_333, g_334, g_335, g_336, g_337, g_338, g_339, g_340, g_341, g_342, g_343, g_464, g_465, g_466, g_484, g_485, g_486, g_487, g_488, g_489, g_490, g_491, g_492, g_493, g_494, g_495, g_496, g_497, g_498, g_499, g_500, g_501, g_562, g_563, g_564, g_565, g_566, g_567, g_568, g_574, g_580, g_581, g_582, g_583, g_584, g_585, g_586, g_587, g_588, g_589, g_590, g_591, g_592, g_600, g_601, g_602, g_603, g_604, g_605, g_606, g_607, g_608, g_609, g_610, g_611, g_612, g_613, g_614, g_615, g_616, g_617, g_618, g_619, g_620, g_621, g_622, g_623, g_624, g_625, g_626, g_627, g_628, g_629, g_630, g_631, g_632, g_633, g_634, g_635, g_636, g_637, g_638, g_639, g_640, g_641, g_642, g_643, g_644, g_645, g_646, g_647, g_648, g_649, g_650, g_651, g_652, g_653, g_654, g_655, g_656, g_657, g_658, g_659, g_660, g_661, g_662, g_0_0, g_0_1, g_0_2, g_0_3, g_0_4, g_0_5, g_0_6, g_0_7, g_0_8, g_0_9, g_0_10, g_0_11, g_1_0, g_3_0, g_327_0, g_327_1, g_327_2, g_327_3, g_328_0, g_330_0, g_332_0, g_334_0, g_336_0, g_336_1, g_336_2, g_336_3, g_337_0, g_339_0, g_341_0, g_464_0, g_464_1, g_484_0, g_484_1, g_484_2, g_485_0, g_487_0, g_489_0, g_491_0, g_491_1, g_491_2, g_491_3, g_491_4, g_491_5, g_491_6, g_491_7, g_496_0, g_498_0, g_500_0, g_500_1, g_500_3, g_500_4, g_500_5, g_500_6, g_500_7, g_562_0, g_564_0, g_566_0, g_580_0, g_580_1, g_580_2, g_580_3, g_581_0, g_583_0, g_585_0, g_588_1, g_588_2, g_588_3, g_588_4, g_588_6, g_601_0, g_601_1, g_601_2, g_601_3, g_601_4, g_601_5, g_601_6, g_601_7, g_601_8, g_608_0, g_610_0, g_612_0, g_612_2, g_612_4, g_612_5, g_612_7, g_612_8, g_612_9, g_612_10, g_612_11, g_612_12, g_612_13, g_612_14, g_612_15, g_612_16, g_612_19, g_612_20, g_612_22, g_612_24, g_612_25, g_612_26, g_612_27, g_612_28, g_612_30, g_612_31, g_612_32, g_612_33, g_612_34, g_612_36, g_612_37, g_612_38, g_612_39, g_612_40, g_612_41, g_612_42, g_612_43, g_612_44, g_612_46, g_612_47, g_612_48, g_612_49, g_612_50, g_612_53, g_612_56, g_612_57, g_612_58, g_612_59, g_612_61, g_612_62, g_612_63, g_612_64]
          refine W12_bothAt (τ := (M, τ.2)) ?_ ?_ ?_ ?_
          · dsimp only; rw [f 612 _ (by decide)]; omega
          · dsimp only; rw [f 612 _ (by decide)]; omega
          · intro l l0 l1 l2 l3
            dsimp only at l1 l2 l3
            rw [f 612 _ (by decide), x2] at l1
            rw [f 646 _ (by decide)] at l2
            rw [f 647 _ (by decide)] at l3
            exact absurd ⟨l2, l3⟩ (hno l l0 l1)
          · intro _
            simp only [addF, v2, rw1, Nat.reduceEqDiff, Nat.reduceAdd, Int.reduceEq, Int.reduceNeg, reduceIte, false_and, and_false, true_and, and_true, and_self, f 612 _ (by decide), x2]
            refine ⟨fun z => by omega, fun _ => ⟨fun z => by omega, fun _ => ⟨fun z => ⟨fun _ => ⟨vz, ?_⟩, fun y => by omega⟩, fun z => ?_⟩⟩⟩
            · refine inv_m10 fag hI ?_
              refine I7b_Z (a := a) (b := b) i10 hno ?_ ?_ ?_ ?_ ?_ ?_ (by omega)
              · intro x y x0 xx y0 yy
                dsimp only
                rw [fm x y x0 xx y0 yy, show n = 0 by omega]
              · dsimp only; rw [f5]; exact p1 z (by omega)
              · dsimp only; rw [f 612 _ (by decide)]
              · intro q; dsimp only; rw [f 646 _ (by decide)]
              · intro q; dsimp only; rw [f 647 _ (by decide)]
              · intro q; dsimp only; rw [f 648 _ (by decide)]
            · have p3 := p3 z (by omega)
              refine ⟨by omega, by omega, by omega, fun y => by omega, fun _ => ⟨by omega, fun y => by omega, fun _ => ⟨vz, ?_⟩⟩⟩
              refine inv_m10 (ag_w (ag_w (ag_w (ag_w fag (Or.inl rfl)) (Or.inl rfl)) (Or.inl rfl)) (Or.inl rfl)) hI ?_
              refine I7b_N (n := n) (a := a) (b := b) i10 c1.1 c1.2 c2.1 c2.2 ⟨by omega, by omega⟩ hno p3.2 ?_ ?_ ?_ ?_ ?_ ?_ (by omega)
              · intro x y x0 xx y0 yy
                dsimp only
                rw [v2_ne _ _ _ _ (by omega), v2_ne _ _ _ _ (by omega), v2_ne _ _ _ _ (by omega), v2_ne _ _ _ _ (by omega), fm x y x0 xx y0 yy]
              · simp only [addF, v2, rw1, Nat.reduceEqDiff, Nat.reduceAdd, Int.reduceEq, Int.reduceNeg, reduceIte, false_and, and_false, true_and, and_true, and_self, f5]; exact p3.1
              · simp only [addF, v2, rw1, Nat.reduceEqDiff, Nat.reduceAdd, Int.reduceEq, Int.reduceNeg, reduceIte, false_and, and_false, true_and, and_true, and_self]; omega
              · intro q; simp only [addF, v2, rw1, Nat.reduceEqDiff, Nat.reduceAdd, Int.reduceEq, Int.reduceNeg, reduceIte, false_and, and_false, true_and, and_true, and_self, f 646 _ (by decide)]
              · intro q; simp only [addF, v2, rw1, Nat.reduceEqDiff, Nat.reduceAdd, Int.reduceEq, Int.reduceNeg, reduceIte, false_and, and_false, true_and, and_true, and_self, f 647 _ (by decide)]
              · intro q; simp only [addF, v2, rw1, Nat.reduceEqDiff, Nat.reduceAdd, Int.reduceEq, Int.reduceNeg, reduceIte, false_and, and_false, true_and, and_true, and_self, f 648 _ (by decide)]
        refine ⟨fun z => by omega, fun _ => ⟨fun z => go, fun z => ⟨fun y => ?_, fun _ => go⟩⟩⟩
        dsimp only at y
        rw [f 612 _ (by decide)] at y
        have p3 := p3 z (by omega)
        omega
    have full : ¬n ≤ 0 → τ.1 (502 + a.toNat) b = 0 → ¬τ.1 500 2 < 40 → Wz (Z12_both kdG0 612 a b n) τ fun s τ2 => -4 = s ∧ Inv τ2 := by
      intro z1 z2 z3
      simp only [Z12_both, Z12_isWord, W_in, zp_0, zB_zp, Wz_rt, Wz_cnd, Wz_lI, Wz_lW, Wz_lL, Wz_cl, Wz_cv, Wz_nz, Wz_gI, Wz_gR, Wz_sI, Wz_aI, Wz_aZ, Wz_aL, Wz_aN, Wz_aR, Wz_tI, Wz_tZ, Wz_tL, Option.some.injEq, exists_eq_left', zB_0, zB_1, true_and, and_true, true_implies, not_true_eq_false, false_implies, not_false_eq_true, Classical.not_not, g_0, g_1, g_2, g_3, g_4, g_5, g_327, g_328, g_329, g_330, g_331, g_332, g_333, g_334, g_335, g_336, g_337, g_338, g_339, g_340, g_341, g_342, g_343, g_464, g_465, g_466, g_484, g_485, g_486, g_487, g_488, g_489, g_490, g_491, g_492, g_493, g_494, g_495, g_496, g_497, g_498, g_499, g_500, g_501, g_562, g_563, g_564, g_565, g_566, g_567, g_568, g_574, g_580, g_581, g_582, g_583, g_584, g_585, g_586, g_587, g_588, g_589, g_590, g_591, g_592, g_600, g_601, g_602, g_603, g_604, g_605, g_606, g_607, g_608, g_609, g_610, g_611, g_612, g_613, g_614, g_615, g_616, g_617, g_618, g_619, g_620, g_621, g_622, g_623, g_624, g_625, g_626, g_627, g_628, g_629, g_630, g_631, g_632, g_633, g_634, g_635, g_636, g_637, g_638, g_639, g_640, g_641, g_642, g_643, g_644, g_645, g_646, g_647, g_648, g_649, g_650, g_651, g_652, g_653, g_654, g_655, g_656, g_657, g_658, g_659, g_660, g_661, g_662, g_0_0, g_0_1, g_0_2, g_0_3, g_0_4, g_0_5, g_0_6, g_0_7, g_0_8, g_0_9, g_0_10, g_0_11, g_1_0, g_3_0, g_327_0, g_327_1, g_327_2, g_327_3, g_328_0, g_330_0, g_332_0, g_334_0, g_336_0, g_336_1, g_336_2, g_336_3, g_337_0, g_339_0, g_341_0, g_464_0, g_464_1, g_484_0, g_484_1, g_484_2, g_485_0, g_487_0, g_489_0, g_491_0, g_491_1, g_491_2, g_491_3, g_491_4, g_491_5, g_491_6, g_491_7, g_496_0, g_498_0, g_500_0, g_500_1, g_500_3, g_500_4, g_500_5, g_500_6, g_500_7, g_562_0, g_564_0, g_566_0, g_580_0, g_580_1, g_580_2, g_580_3, g_581_0, g_583_0, g_585_0, g_588_1, g_588_2, g_588_3, g_588_4, g_588_6, g_601_0, g_601_1, g_601_2, g_601_3, g_601_4, g_601_5, g_601_6, g_601_7, g_601_8, g_608_0, g_610_0, g_612_0, g_612_2, g_612_4, g_612_5, g_612_7, g_612_8, g_612_9, g_612_10, g_612_11, g_612_12, g_612_13, g_612_14, g_612_15, g_612_16, g_612_19, g_612_20, g_612_22, g_612_24, g_612_25, g_612_26, g_612_27, g_612_28, g_612_30, g_612_31, g_612_32, g_612_33, g_612_34, g_612_36, g_612_37, g_612_38, g_612_39, g_612_40, g_612_41, g_612_42, g_612_43, g_612_44, g_612_46, g_612_47, g_612_48, g_612_49, g_612_50, g_612_53, g_612_56, g_612_57, g_612_58, g_612_59, g_612_61, g_612_62, g_612_63, g_612_64, c3]
      refine ⟨by omega, fun z => by omega, fun _ => ⟨by omega, fun z => by omega, fun _ => ?_⟩⟩
      refine W12_bothAt (by omega) (by omega) ?_ ?_
      · intro l l0 l1 l2 l3
        have := vk l l0 (by omega) l2 l3
        omega
      · intro _
        exact ⟨fun z => by omega, fun _ => ⟨fun z => absurd z z1, fun _ => ⟨fun _ => hI, fun z => by omega⟩⟩⟩
    have vnn : τ.1 (502 + a.toNat) b = 0 ∨ 1 ≤ τ.1 (502 + a.toNat) b := by
      rcases v0 with e | ⟨k, ⟨k0, k1⟩, k2, k3⟩
      · exact Or.inl e
      · obtain ⟨v1, v2', v3⟩ := vk k k0 k1 k2 k3
        exact Or.inr (by omega)
    (repeat' (first | with_reducible (refine And.intro ?_ ?_) | intro _)) <;> first | omega | (refine mdl _ ?_ ?_ ?_ ?_ <;> omega) | (refine full ?_ ?_ ?_ <;> omega)
  · simp only [Z11_both_22, Z11_both_68, Z11_both, W10_has, Z12_both_16, Z12_both_186, Z12_both_111, Z12_both_62, Z12_both, Z11_isKey, Z11_isLetter, Z11_isTongue, Z11_isHand, Z11_isDay, Z12_isKey, Z12_isLetter, Z12_isTongue, Z12_isHand, Z12_areTongues, Z12_isWord, Z12_isSymbol, W_within, W_in, zp_0, zB_zp, W_size r_1, W_isEmpty r_1, W_isFull r_1, W_has r_1, W_clear r_1, W_size r_3, W_isEmpty r_3, W_isFull r_3, W_has r_3, W_clear r_3, W_size r_328, W_isEmpty r_328, W_isFull r_328, W_has r_328, W_clear r_328, W_size r_330, W_isEmpty r_330, W_isFull r_330, W_has r_330, W_clear r_330, W_size r_332, W_isEmpty r_332, W_isFull r_332, W_has r_332, W_clear r_332, W_size r_334, W_isEmpty r_334, W_isFull r_334, W_has r_334, W_clear r_334, W_size r_337, W_isEmpty r_337, W_isFull r_337, W_has r_337, W_clear r_337, W_size r_339, W_isEmpty r_339, W_isFull r_339, W_has r_339, W_clear r_339, W_size r_341, W_isEmpty r_341, W_isFull r_341, W_has r_341, W_clear r_341, W_size r_485, W_isEmpty r_485, W_isFull r_485, W_has r_485, W_clear r_485, W_size r_487, W_isEmpty r_487, W_isFull r_487, W_has r_487, W_clear r_487, W_size r_489, W_isEmpty r_489, W_isFull r_489, W_has r_489, W_clear r_489, W_size r_496, W_isEmpty r_496, W_isFull r_496, W_has r_496, W_clear r_496, W_size r_498, W_isEmpty r_498, W_isFull r_498, W_has r_498, W_clear r_498, W_size r_562, W_isEmpty r_562, W_isFull r_562, W_has r_562, W_clear r_562, W_size r_564, W_isEmpty r_564, W_isFull r_564, W_has r_564, W_clear r_564, W_size r_566, W_isEmpty r_566, W_isFull r_566, W_has r_566, W_clear r_566, W_size r_581, W_isEmpty r_581, W_isFull r_581, W_has r_581, W_clear r_581, W_size r_583, W_isEmpty r_583, W_isFull r_583, W_has r_583, W_clear r_583, W_size r_585, W_isEmpty r_585, W_isFull r_585, W_has r_585, W_clear r_585, W_size r_608, W_isEmpty r_608, W_isFull r_608, W_has r_608, W_clear r_608, W_size r_610, W_isEmpty r_610, W_isFull r_610, W_has r_610, W_clear r_610, Wz_rt, Wz_cnd, Wz_lI, Wz_lW, Wz_lL, Wz_cl, Wz_cv, Wz_nz, Wz_gI, Wz_gR, Wz_sI, Wz_aI, Wz_aZ, Wz_aL, Wz_aN, Wz_aR, Wz_tI, Wz_tZ, Wz_tL, Option.some.injEq, exists_eq_left', zB_0, zB_1, true_and, and_true, true_implies, not_true_eq_false, false_implies, not_false_eq_true, Classical.not_not, g_0, g_1, g_2, g_3, g_4, g_5, g_327, g_328, g_329, g_330, g_331, g_332, g_333, g_334, g_335, g_336, g_337, g_338, g_339, g_340, g_341, g_342, g_343, g_464, g_465, g_466, g_484, g_485, g_486, g_487, g_488, g_489, g_490, g_491, g_492, g_493, g_494, g_495, g_496, g_497, g_498, g_499, g_500, g_501, g_562, g_563, g_564, g_565, g_566, g_567, g_568, g_574, g_580, g_581, g_582, g_583, g_584, g_585, g_586, g_587, g_588, g_589, g_590, g_591, g_592, g_600, g_601, g_602, g_603, g_604, g_605, g_606, g_607, g_608, g_609, g_610, g_611, g_612, g_613, g_614, g_615, g_616, g_617, g_618, g_619, g_620, g_621, g_622, g_623, g_624, g_625, g_626, g_627, g_628, g_629, g_630, g_631, g_632, g_633, g_634, g_635, g_636, g_637, g_638, g_639, g_640, g_641, g_642, g_643, g_644, g_645, g_646, g_647, g_648, g_649, g_650, g_651, g_652, g_653, g_654, g_655, g_656, g_657, g_658, g_659, g_660, g_661, g_662, g_0_0, g_0_1, g_0_2, g_0_3, g_0_4, g_0_5, g_0_6, g_0_7, g_0_8, g_0_9, g_0_10, g_0_11, g_1_0, g_3_0, g_327_0, g_327_1, g_327_2, g_327_3, g_328_0, g_330_0, g_332_0, g_334_0, g_336_0, g_336_1, g_336_2, g_336_3, g_337_0, g_339_0, g_341_0, g_464_0, g_464_1, g_484_0, g_484_1, g_484_2, g_485_0, g_487_0, g_489_0, g_491_0, g_491_1, g_491_2, g_491_3, g_491_4, g_491_5, g_491_6, g_491_7, g_496_0, g_498_0, g_500_0, g_500_1, g_500_3, g_500_4, g_500_5, g_500_6, g_500_7, g_562_0, g_564_0, g_566_0, g_580_0, g_580_1, g_580_2, g_580_3, g_581_0, g_583_0, g_585_0, g_588_1, g_588_2, g_588_3, g_588_4, g_588_6, g_601_0, g_601_1, g_601_2, g_601_3, g_601_4, g_601_5, g_601_6, g_601_7, g_601_8, g_608_0, g_610_0, g_612_0, g_612_2, g_612_4, g_612_5, g_612_7, g_612_8, g_612_9, g_612_10, g_612_11, g_612_12, g_612_13, g_612_14, g_612_15, g_612_16, g_612_19, g_612_20, g_612_22, g_612_24, g_612_25, g_612_26, g_612_27, g_612_28, g_612_30, g_612_31, g_612_32, g_612_33, g_612_34, g_612_36, g_612_37, g_612_38, g_612_39, g_612_40, g_612_41, g_612_42, g_612_43, g_612_44, g_612_46, g_612_47, g_612_48, g_612_49, g_612_50, g_612_53, g_612_56, g_612_57, g_612_58, g_612_59, g_612_61, g_612_62, g_612_63, g_612_64, addF, v2, rw1, Nat.reduceEqDiff, Nat.reduceAdd, Int.reduceEq, Int.reduceNeg, reduceIte, false_and, and_false, true_and, and_true, and_self]
    (repeat' (first | with_reducible (refine And.intro ?_ ?_) | intro _)) <;> first | omega | with_reducible exact hI
