/-! the bound: the reference's picks -/
set_option maxRecDepth 100000 in
theorem s_bz0 : ∀ m : Fin 128, ∀ d : Fin 7, decide (zand (zshr (m.val : Int) (d.val : Int)) 1 = 0) = !m.val.testBit d.val ∧ (m.val ||| (1 <<< d.val)) < 128 := by decide +kernel
set_option maxRecDepth 100000 in
theorem s_bz {m : Nat} {d : Int} (hm : m < 128) (d0 : 0 ≤ d) (d1 : d < 7) : zand (zshr (m : Int) d) 1 = 0 ↔ ¬m.testBit d.toNat = true := by
  have h := (s_bz0 ⟨m, hm⟩ ⟨d.toNat, by omega⟩).1
  dsimp only at h
  rw [show ((d.toNat : Nat) : Int) = d by omega] at h
  rw [← decide_eq_true_eq (p := zand (zshr (m : Int) d) 1 = 0), h]
  cases m.testBit d.toNat <;> decide
def selM (f : Int → Int) (m : Nat) (j l : Int) : Prop := (l = -1 ∧ ∀ k, 0 ≤ k → k < j → m.testBit k.toNat = true) ∨ ((0 ≤ l ∧ l < j) ∧ ¬m.testBit l.toNat = true ∧ ∀ k, 0 ≤ k → k < j → ¬m.testBit k.toNat = true → f k ≤ f l)
theorem selM_keep {f : Int → Int} {m : Nat} {j l : Int} (j0 : 0 ≤ j) (h : selM f m j l) (k : m.testBit j.toNat = true ∨ (¬l < 0 ∧ f j ≤ f l)) : selM f m (j + 1) l := by
  rcases h with ⟨a, b⟩ | ⟨a, b, c⟩
  · refine Or.inl ⟨a, fun x x0 x1 => ?_⟩
    by_cases y : x = j
    · subst y
      rcases k with k | k
      · exact k
      · omega
    · exact b x x0 (by omega)
  · refine Or.inr ⟨by omega, b, fun x x0 x1 x2 => ?_⟩
    by_cases y : x = j
    · subst y
      rcases k with k | k
      · exact absurd k x2
      · exact k.2
    · exact c x x0 (by omega) x2
theorem selM_new {f : Int → Int} {m : Nat} {j l : Int} (j0 : 0 ≤ j) (h : selM f m j l) (hj : ¬m.testBit j.toNat = true) (k : l < 0 ∨ ¬f j ≤ f l) : selM f m (j + 1) j := by
  refine Or.inr ⟨by omega, hj, fun x x0 x1 x2 => ?_⟩
  by_cases y : x = j
  · subst y; omega
  · rcases h with ⟨a, b⟩ | ⟨a, b, c⟩
    · exact absurd (b x x0 (by omega)) x2
    · have := c x x0 (by omega) x2
      omega
set_option maxRecDepth 100000 in
theorem W12_bn_27 {τ : kzM} {n : Int} (hn : 2 ≤ n ∧ n ≤ 7) (h5 : τ.1 612 55 = n) {m1 m2 : Nat} (hm1 : m1 < 128) (hm2 : m2 < 128) {acc k : Int} {k9 : Nat → Int → Int → Int → Int → kzM → Option (Int × kzM)} {Q : Int → kzM → Prop} (hQ : ∀ l5 l6, selM (τ.1 657) m1 n l5 → selM (fun i => -τ.1 655 i) m2 n l6 → Wz (Z12_bound_27B kdG0 k9 (fun _ _ _ _ _ _ _ _ _ => none) 612 acc m1 m2 k l5 l6 n) τ Q) : ∀ (N : Nat) (j l5 l6 : Int), 0 ≤ j → j ≤ n → n - j < N → selM (τ.1 657) m1 j l5 → selM (fun i => -τ.1 655 i) m2 j l6 → Wz (lp (fun _ _ _ _ _ _ _ _ _ => none) (Z12_bound_27B kdG0 k9) N 612 acc m1 m2 k l5 l6 j) τ Q := by
  intro N
  induction N with
  | zero => intro j; intros; omega
  | succ N ih =>
    intro j l5 l6 j0 j1 j2 h1 h2
    rw [lp_succ]
    generalize lp (fun _ _ _ _ _ _ _ _ _ => none) (Z12_bound_27B kdG0 k9) N = L at ih ⊢
    by_cases c : j = n
    · subst c
      have q := hQ l5 l6 h1 h2
      unfold Z12_bound_27B at q ⊢
      simp only [Wz_rt, Wz_cnd, Wz_lI, Wz_lW, Wz_lL, Wz_cl, Wz_cv, Wz_nz, Wz_gI, Wz_gR, Wz_sI, Wz_aI, Wz_aZ, Wz_aL, Wz_aN, Wz_aR, Wz_tI, Wz_tZ, Wz_tL, Option.some.injEq, exists_eq_left', zB_0, zB_1, true_and, and_true, true_implies, not_true_eq_false, false_implies, not_false_eq_true, Classical.not_not, g_0, g_1, g_2, g_3, g_4, g_5, g_327, g_328, g_329, g_330, g_331, g_332, g_333, g_334, g_335, g_336, g_337, g_338, g_339, g_340, g_341, g_342, g_343, g_464, g_465, g_466, g_484, g_485, g_486, g_487, g_488, g_489, g_490, g_491, g_492, g_493, g_494, g_495, g_496, g_497, g_498, g_499, g_500, g_501, g_562, g_563, g_564, g_565, g_566, g_567, g_568, g_574, g_580, g_581, g_582, g_583, g_584, g_585, g_586, g_587, g_588, g_589, g_590, g_591, g_592, g_600, g_601, g_602, g_603, g_604, g_605, g_606, g_607, g_608, g_609, g_610, g_611, g_612, g_613, g_614, g_615, g_616, g_617, g_618, g_619, g_620, g_621, g_622, g_623, g_624, g_625, g_626, g_627, g_628, g_629, g_630, g_631, g_632, g_633, g_634, g_635, g_636, g_637, g_638, g_639, g_640, g_641, g_642, g_643, g_644, g_645, g_646, g_647, g_648, g_649, g_650, g_651, g_652, g_653, g_654, g_655, g_656, g_657, g_658, g_659, g_660, g_661, g_662, g_0_0, g_0_1, g_0_2, g_0_3, g_0_4, g_0_5, g_0_6, g_0_7, g_0_8, g_0_9, g_0_10, g_0_11, g_1_0, g_3_0, g_327_0, g_327_1, g_327_2, g_327_3, g_328_0, g_330_0, g_332_0, g_334_0, g_336_0, g_336_1, g_336_2, g_336_3, g_337_0, g_339_0, g_341_0, g_464_0, g_464_1, g_484_0, g_484_1, g_484_2, g_485_0, g_487_0, g_489_0, g_491_0, g_491_1, g_491_2, g_491_3, g_491_4, g_491_5, g_491_6, g_491_7, g_496_0, g_498_0, g_500_0, g_500_1, g_500_3, g_500_4, g_500_5, g_500_6, g_500_7, g_562_0, g_564_0, g_566_0, g_580_0, g_580_1, g_580_2, g_580_3, g_581_0, g_583_0, g_585_0, g_588_1, g_588_2, g_588_3, g_588_4, g_588_6, g_601_0, g_601_1, g_601_2, g_601_3, g_601_4, g_601_5, g_601_6, g_601_7, g_601_8, g_608_0, g_610_0, g_612_0, g_612_2, g_612_4, g_612_5, g_612_7, g_612_8, g_612_9, g_612_10, g_612_11, g_612_12, g_612_13, g_612_14, g_612_15, g_612_16, g_612_19, g_612_20, g_612_22, g_612_24, g_612_25, g_612_26, g_612_27, g_612_28, g_612_30, g_612_31, g_612_32, g_612_33, g_612_34, g_612_36, g_612_37, g_612_38, g_612_39, g_612_40, g_612_41, g_612_42, g_612_43, g_612_44, g_612_46, g_612_47, g_612_48, g_612_49, g_612_50, g_612_53, g_612_56, g_612_57, g_612_58, g_612_59, g_612_61, g_612_62, g_612_63, g_612_64, h5] at q ⊢
      exact ⟨fun _ => q.1 (Int.le_refl _), fun d => absurd (Int.le_refl _) d⟩
    · have st6 : ∀ s0, selM (τ.1 657) m1 (j + 1) s0 → Wz (Z12_bound_74 kdG0 k9 L 612 acc m1 m2 k l6 j s0) τ Q := fun s0 hs => by
        have go : ∀ s1, selM (fun i => -τ.1 655 i) m2 (j + 1) s1 → (-2147483648 ≤ j + 1 ∧ j + 1 ≤ 2147483647) ∧ Wz (L 612 acc m1 m2 k s0 s1 (j + 1)) τ Q := fun s1 h => ⟨by omega, ih (j + 1) s0 s1 (by omega) (by omega) (by omega) hs h⟩
        simp only [Z12_bound_74, Z12_bound_107, Z12_bound_112, Z12_bound_114, Wz_rt, Wz_cnd, Wz_lI, Wz_lW, Wz_lL, Wz_cl, Wz_cv, Wz_nz, Wz_gI, Wz_gR, Wz_sI, Wz_aI, Wz_aZ, Wz_aL, Wz_aN, Wz_aR, Wz_tI, Wz_tZ, Wz_tL, Option.some.injEq, exists_eq_left', zB_0, zB_1, true_and, and_true, true_implies, not_true_eq_false, false_implies, not_false_eq_true, Classical.not_not, g_0, g_1, g_2, g_3, g_4, g_5, g_327, g_328, g_329, g_330, g_331, g_332, g_333, g_334, g_335, g_336, g_337, g_338, g_339, g_340, g_341, g_342, g_343, g_464, g_465, g_466, g_484, g_485, g_486, g_487, g_488, g_489, g_490, g_491, g_492, g_493, g_494, g_495, g_496, g_497, g_498, g_499, g_500, g_501, g_562, g_563, g_564, g_565, g_566, g_567, g_568, g_574, g_580, g_581, g_582, g_583, g_584, g_585, g_586, g_587, g_588, g_589, g_590, g_591, g_592, g_600, g_601, g_602, g_603, g_604, g_605, g_606, g_607, g_608, g_609, g_610, g_611, g_612, g_613, g_614, g_615, g_616, g_617, g_618, g_619, g_620, g_621, g_622, g_623, g_624, g_625, g_626, g_627, g_628, g_629, g_630, g_631, g_632, g_633, g_634, g_635, g_636, g_637, g_638, g_639, g_640, g_641, g_642, g_643, g_644, g_645, g_646, g_647, g_648, g_649, g_650, g_651, g_652, g_653, g_654, g_655, g_656, g_657, g_658, g_659, g_660, g_661, g_662, g_0_0, g_0_1, g_0_2, g_0_3, g_0_4, g_0_5, g_0_6, g_0_7, g_0_8, g_0_9, g_0_10, g_0_11, g_1_0, g_3_0, g_327_0, g_327_1, g_327_2, g_327_3, g_328_0, g_330_0, g_332_0, g_334_0, g_336_0, g_336_1, g_336_2, g_336_3, g_337_0, g_339_0, g_341_0, g_464_0, g_464_1, g_484_0, g_484_1, g_484_2, g_485_0, g_487_0, g_489_0, g_491_0, g_491_1, g_491_2, g_491_3, g_491_4, g_491_5, g_491_6, g_491_7, g_496_0, g_498_0, g_500_0, g_500_1, g_500_3, g_500_4, g_500_5, g_500_6, g_500_7, g_562_0, g_564_0, g_566_0, g_580_0, g_580_1, g_580_2, g_580_3, g_581_0, g_583_0, g_585_0, g_588_1, g_588_2, g_588_3, g_588_4, g_588_6, g_601_0, g_601_1, g_601_2, g_601_3, g_601_4, g_601_5, g_601_6, g_601_7, g_601_8, g_608_0, g_610_0, g_612_0, g_612_2, g_612_4, g_612_5, g_612_7, g_612_8, g_612_9, g_612_10, g_612_11, g_612_12, g_612_13, g_612_14, g_612_15, g_612_16, g_612_19, g_612_20, g_612_22, g_612_24, g_612_25, g_612_26, g_612_27, g_612_28, g_612_30, g_612_31, g_612_32, g_612_33, g_612_34, g_612_36, g_612_37, g_612_38, g_612_39, g_612_40, g_612_41, g_612_42, g_612_43, g_612_44, g_612_46, g_612_47, g_612_48, g_612_49, g_612_50, g_612_53, g_612_56, g_612_57, g_612_58, g_612_59, g_612_61, g_612_62, g_612_63, g_612_64]
        have l6b : ¬l6 < 0 → 0 ≤ l6 ∧ l6 < 7 := fun z => by
          rcases h2 with ⟨a, b⟩ | ⟨a, b⟩ <;> omega
        have bz := s_bz hm2 j0 (show j < 7 by omega)
        refine ⟨fun d => ⟨fun e => go j (selM_new j0 h2 (bz.1 d) (Or.inl e)), fun e => ?_⟩, fun d => go l6 (selM_keep j0 h2 (Or.inl (Classical.not_not.1 fun z => d (bz.2 z))))⟩
        have b6 := l6b e
        refine ⟨by omega, by omega, fun g => go l6 (selM_keep j0 h2 (Or.inr ⟨e, by omega⟩)), fun g => go j (selM_new j0 h2 (bz.1 d) (Or.inr (by omega)))⟩
      unfold Z12_bound_27B
      simp only [Z12_bound_67, Z12_bound_72, Wz_rt, Wz_cnd, Wz_lI, Wz_lW, Wz_lL, Wz_cl, Wz_cv, Wz_nz, Wz_gI, Wz_gR, Wz_sI, Wz_aI, Wz_aZ, Wz_aL, Wz_aN, Wz_aR, Wz_tI, Wz_tZ, Wz_tL, Option.some.injEq, exists_eq_left', zB_0, zB_1, true_and, and_true, true_implies, not_true_eq_false, false_implies, not_false_eq_true, Classical.not_not, g_0, g_1, g_2, g_3, g_4, g_5, g_327, g_328, g_329, g_330, g_331, g_332, g_333, g_334, g_335, g_336, g_337, g_338, g_339, g_340, g_341, g_342, g_343, g_464, g_465, g_466, g_484, g_485, g_486, g_487, g_488, g_489, g_490, g_491, g_492, g_493, g_494, g_495, g_496, g_497, g_498, g_499, g_500, g_501, g_562, g_563, g_564, g_565, g_566, g_567, g_568, g_574, g_580, g_581, g_582, g_583, g_584, g_585, g_586, g_587, g_588, g_589, g_590, g_591, g_592, g_600, g_601, g_602, g_603, g_604, g_605, g_606, g_607, g_608, g_609, g_610, g_611, g_612, g_613, g_614, g_615, g_616, g_617, g_618, g_619, g_620, g_621, g_622, g_623, g_624, g_625, g_626, g_627, g_628, g_629, g_630, g_631, g_632, g_633, g_634, g_635, g_636, g_637, g_638, g_639, g_640, g_641, g_642, g_643, g_644, g_645, g_646, g_647, g_648, g_649, g_650, g_651, g_652, g_653, g_654, g_655, g_656, g_657, g_658, g_659, g_660, g_661, g_662, g_0_0, g_0_1, g_0_2, g_0_3, g_0_4, g_0_5, g_0_6, g_0_7, g_0_8, g_0_9, g_0_10, g_0_11, g_1_0, g_3_0, g_327_0, g_327_1, g_327_2, g_327_3, g_328_0, g_330_0, g_332_0, g_334_0, g_336_0, g_336_1, g_336_2, g_336_3, g_337_0, g_339_0, g_341_0, g_464_0, g_464_1, g_484_0, g_484_1, g_484_2, g_485_0, g_487_0, g_489_0, g_491_0, g_491_1, g_491_2, g_491_3, g_491_4, g_491_5, g_491_6, g_491_7, g_496_0, g_498_0, g_500_0, g_500_1, g_500_3, g_500_4, g_500_5, g_500_6, g_500_7, g_562_0, g_564_0, g_566_0, g_580_0, g_580_1, g_580_2, g_580_3, g_581_0, g_583_0, g_585_0, g_588_1, g_588_2, g_588_3, g_588_4, g_588_6, g_601_0, g_601_1, g_601_2, g_601_3, g_601_4, g_601_5, g_601_6, g_601_7, g_601_8, g_608_0, g_610_0, g_612_0, g_612_2, g_612_4, g_612_5, g_612_7, g_612_8, g_612_9, g_612_10, g_612_11, g_612_12, g_612_13, g_612_14, g_612_15, g_612_16, g_612_19, g_612_20, g_612_22, g_612_24, g_612_25, g_612_26, g_612_27, g_612_28, g_612_30, g_612_31, g_612_32, g_612_33, g_612_34, g_612_36, g_612_37, g_612_38, g_612_39, g_612_40, g_612_41, g_612_42, g_612_43, g_612_44, g_612_46, g_612_47, g_612_48, g_612_49, g_612_50, g_612_53, g_612_56, g_612_57, g_612_58, g_612_59, g_612_61, g_612_62, g_612_63, g_612_64, h5]
      have l5b : ¬l5 < 0 → 0 ≤ l5 ∧ l5 < 7 := fun z => by
        rcases h1 with ⟨a, b⟩ | ⟨a, b⟩ <;> omega
      have bz := s_bz hm1 j0 (show j < 7 by omega)
      refine ⟨fun d => absurd d (by omega), fun _ => ⟨fun d => ⟨fun e => st6 j (selM_new j0 h1 (bz.1 d) (Or.inl e)), fun e => ?_⟩, fun d => st6 l5 (selM_keep j0 h1 (Or.inl (Classical.not_not.1 fun z => d (bz.2 z))))⟩⟩
      have b5 := l5b e
      refine ⟨by omega, by omega, fun g => st6 l5 (selM_keep j0 h1 (Or.inr ⟨e, g⟩)), fun g => st6 j (selM_new j0 h1 (bz.1 d) (Or.inr g))⟩
/-- the used stand before the unused -/
def usedM (f : Int → Int) (n : Nat) (m : Nat) (k : Int) : Prop := m < 128 ∧ wS (fun j => zp (m.testBit j.toNat = true)) n = k ∧ ∀ i j : Int, 0 ≤ i → i < n → 0 ≤ j → j < n → m.testBit i.toNat = true → ¬m.testBit j.toNat = true → f j ≤ f i
theorem selM_in {f : Int → Int} {n m : Nat} {k l : Int} (h : usedM f n m k) (hk : k < n) (s : selM f m n l) : (0 ≤ l ∧ l < n) ∧ ¬m.testBit l.toNat = true ∧ ∀ k : Int, 0 ≤ k → k < n → ¬m.testBit k.toNat = true → f k ≤ f l := by
  rcases s with ⟨a, b⟩ | s
  · have := cn_all (P := fun j => m.testBit j.toNat = true) (n := n) b
    have := h.2.1
    omega
  · exact s
theorem cn_new {n m : Nat} {l : Int} (l0 : 0 ≤ l) (l1 : l < n) (h : ¬m.testBit l.toNat = true) : wS (fun j => zp (m.testBit j.toNat = true ∨ j = l)) n = wS (fun j => zp (m.testBit j.toNat = true)) n + 1 := by
  rw [cn_or (fun j _ _ q => by rw [q.2] at q; exact h q.1), cn_one l0 l1]
theorem tb_orI {m : Nat} {l : Int} (l0 : 0 ≤ l) {j : Int} (j0 : 0 ≤ j) : (m ||| (1 <<< l.toNat)).testBit j.toNat = true ↔ m.testBit j.toNat = true ∨ j = l := by
  rw [tb_or, show j.toNat = l.toNat ↔ j = l by omega]
theorem used_s {f : Int → Int} {n m : Nat} {k l : Int} (h : usedM f n m k) (hk : k < n) (hn : n ≤ 7) (s : selM f m n l) : usedM f n (m ||| (1 <<< l.toNat)) (k + 1) := by
  obtain ⟨⟨l0, l1⟩, b, c⟩ := selM_in h hk s
  refine ⟨(s_bz0 ⟨m, h.1⟩ ⟨l.toNat, by omega⟩).2, ?_, fun i j i0 i1 j0 j1 p q => ?_⟩
  · rw [wS_congr (q := fun j => zp (m.testBit j.toNat = true ∨ j = l)) n (fun j j0 _ => zp_iff (tb_orI l0 j0)), cn_new l0 l1 b, h.2.1]
  · rw [tb_orI l0 i0] at p
    rw [tb_orI l0 j0] at q
    rcases p with p | p
    · exact h.2.2 i j i0 i1 j0 j1 p (fun z => q (Or.inl z))
    · rw [p]
      exact c j j0 j1 (fun z => q (Or.inl z))
theorem pick_max {f : Int → Int} {n m : Nat} {k l : Int} (h : usedM f n m k) (hk : k < n) (s : selM f m n l) : oS f n (n - 1 - k) = f l := by
  obtain ⟨⟨l0, l1⟩, b, c⟩ := selM_in h hk s
  have e1 := cn_new l0 l1 b
  have e2 := cn_not (fun j => m.testBit j.toNat = true ∨ j = l) n
  have e3 := cn_not (fun j => m.testBit j.toNat = true) n
  have e4 := h.2.1
  refine oS_eq ⟨?_, ?_⟩
  · have := cn_mono (P := fun j => f j < f l) (Q := fun j => ¬(m.testBit j.toNat = true ∨ j = l)) n (fun j j0 j1 p q => by
      rcases q with q | q
      · have := h.2.2 j l j0 j1 l0 l1 q b
        omega
      · rw [q] at p; omega)
    omega
  · have := cn_mono (P := fun j => ¬m.testBit j.toNat = true) (Q := fun j => f j ≤ f l) n (fun j j0 j1 p => c j j0 j1 p)
    omega
theorem pick_min {f : Int → Int} {n m : Nat} {k l : Int} (h : usedM (fun i => -f i) n m k) (hk : k < n) (s : selM (fun i => -f i) m n l) : oS f n k = f l := by
  obtain ⟨⟨l0, l1⟩, b, c⟩ := selM_in h hk s
  have e1 := cn_new l0 l1 b
  have e4 := h.2.1
  refine oS_eq ⟨?_, ?_⟩
  · have := cn_mono (P := fun j => f j < f l) (Q := fun j => m.testBit j.toNat = true) n (fun j j0 j1 p => Classical.not_not.1 fun q => by
      have := c j j0 j1 q
      try dsimp only at this
      omega)
    omega
  · have := cn_mono (P := fun j => m.testBit j.toNat = true ∨ j = l) (Q := fun j => f j ≤ f l) n (fun j j0 j1 p => by
      rcases p with p | p
      · have := h.2.2 j l j0 j1 l0 l1 p b
        try dsimp only at this
        omega
      · rw [p]; omega)
    omega
theorem used_0 (f : Int → Int) (n : Nat) : usedM f n 0 0 := by
  refine ⟨by decide, cn_none (fun j _ _ => by rw [Nat.zero_testBit]; decide), fun i j _ _ _ _ p _ => ?_⟩
  rw [Nat.zero_testBit] at p
  exact absurd p (by decide)
