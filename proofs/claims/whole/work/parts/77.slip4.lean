/-! slip closed -/
def tabM (τ σ : kzM) : Prop := ∀ a x, a ≠ 636 → σ.1 a x = τ.1 a x
theorem prM_to {τ σ : kzM} (h : tabM τ σ) (k : prM τ) : prM σ := by
  unfold prM prB at k ⊢
  rw [h 612 1 (by decide)]
  exact ⟨fun x x0 x1 => by rw [h 635 x (by decide)]; exact k.1 x x0 x1, k.2.1, fun x x0 x1 => by rw [h 613 x (by decide)]; exact k.2.2 x x0 x1⟩
theorem wdM_to {τ σ : kzM} {w : Int} (h : tabM τ σ) (k : wdM τ w) : wdM σ w := by
  unfold wdM at k ⊢
  rw [h 633 w (by decide)]
  exact ⟨k.1, fun x x0 x1 => by rw [h 634 _ (by decide)]; exact k.2 x x0 x1⟩
def eM (τ : kzM) (w fr i j : Int) : Int := eD (fun k => τ.1 613 (fr + k)) (fun k => τ.1 634 (8 * w + k)) (τ.1 635) i j
theorem eM_b {τ : kzM} {w fr i j : Int} (hP : prM τ) (i0 : 0 ≤ i) (j0 : 0 ≤ j) : 0 ≤ eM τ w fr i j ∧ eM τ w fr i j ≤ 20 * (i + j) := by
  unfold eM
  exact eD_b hP.1 (i + j + 1).toNat i j i0 j0 (by omega)
set_option maxRecDepth 100000 in
theorem W12_pr_12 {τ : kzM} {w fr m i : Int} (w0 : 0 ≤ w) (w1 : w < 60) (hw : wdM τ w) (hP : prM τ) (f0 : 0 ≤ fr) (fm : fr + m ≤ τ.1 612 1) (i0 : 0 ≤ i) (im : i ≤ m) {k3 : Nat → Int → Int → Int → Int → kzM → Option (Int × kzM)} (Q : Int → kzM → Prop) (hQ : ∀ σ, tabM τ σ → (∀ x y, 0 ≤ x → x < i + 1 → 0 ≤ y → y ≤ τ.1 633 w → tbM σ x y = eM τ w fr x y) → Wz (k3 612 w fr m (i + 1)) σ Q) : ∀ (n : Nat) (j : Int) (σ : kzM), 0 ≤ j → j ≤ τ.1 633 w + 1 → τ.1 633 w + 1 - j < (n : Int) → tabM τ σ → (∀ x y, 0 ≤ x → x < i → 0 ≤ y → y ≤ τ.1 633 w → tbM σ x y = eM τ w fr x y) → (∀ y, 0 ≤ y → y < j → tbM σ i y = eM τ w fr i y) → Wz (lp (fun _ _ _ _ _ _ _ => none) (Z12_priceOf_12B kdG0 k3) n 612 w fr m i j) σ Q := by
  have wl := hw.1
  have kl := hP.2.1
  intro n
  induction n with
  | zero => intro j; intros; omega
  | succ n ih =>
    intro j σ j0 j1 j2 hs h1 h2
    rw [lp_succ]
    generalize lp (fun _ _ _ _ _ _ _ => none) (Z12_priceOf_12B kdG0 k3) n = L at ih ⊢
    unfold Z12_priceOf_12B
    simp only [Z12_priceOf_57, Wz_rt, Wz_cnd, Wz_lI, Wz_lW, Wz_lL, Wz_cl, Wz_cv, Wz_nz, Wz_gI, Wz_gR, Wz_sI, Wz_aI, Wz_aZ, Wz_aL, Wz_aN, Wz_aR, Wz_tI, Wz_tZ, Wz_tL, Option.some.injEq, exists_eq_left', zB_0, zB_1, true_and, and_true, true_implies, not_true_eq_false, false_implies, not_false_eq_true, Classical.not_not, g_0, g_1, g_2, g_3, g_4, g_5, g_327, g_328, g_329, g_330, g_331, g_332, g_333, g_334, g_335, g_336, g_337, g_338, g_339, g_340, g_341, g_342, g_343, g_464, g_465, g_466, g_484, g_485, g_486, g_487, g_488, g_489, g_490, g_491, g_492, g_493, g_494, g_495, g_496, g_497, g_498, g_499, g_500, g_501, g_562, g_563, g_564, g_565, g_566, g_567, g_568, g_574, g_580, g_581, g_582, g_583, g_584, g_585, g_586, g_587, g_588, g_589, g_590, g_591, g_592, g_600, g_601, g_602, g_603, g_604, g_605, g_606, g_607, g_608, g_609, g_610, g_611, g_612, g_613, g_614, g_615, g_616, g_617, g_618, g_619, g_620, g_621, g_622, g_623, g_624, g_625, g_626, g_627, g_628, g_629, g_630, g_631, g_632, g_633, g_634, g_635, g_636, g_637, g_638, g_639, g_640, g_641, g_642, g_643, g_644, g_645, g_646, g_647, g_648, g_649, g_650, g_651, g_652, g_653, g_654, g_655, g_656, g_657, g_658, g_659, g_660, g_661, g_662, g_0_0, g_0_1, g_0_2, g_0_3, g_0_4, g_0_5, g_0_6, g_0_7, g_0_8, g_0_9, g_0_10, g_0_11, g_1_0, g_3_0, g_327_0, g_327_1, g_327_2, g_327_3, g_328_0, g_330_0, g_332_0, g_334_0, g_336_0, g_336_1, g_336_2, g_336_3, g_337_0, g_339_0, g_341_0, g_464_0, g_464_1, g_484_0, g_484_1, g_484_2, g_485_0, g_487_0, g_489_0, g_491_0, g_491_1, g_491_2, g_491_3, g_491_4, g_491_5, g_491_6, g_491_7, g_496_0, g_498_0, g_500_0, g_500_1, g_500_3, g_500_4, g_500_5, g_500_6, g_500_7, g_562_0, g_564_0, g_566_0, g_580_0, g_580_1, g_580_2, g_580_3, g_581_0, g_583_0, g_585_0, g_588_1, g_588_2, g_588_3, g_588_4, g_588_6, g_601_0, g_601_1, g_601_2, g_601_3, g_601_4, g_601_5, g_601_6, g_601_7, g_601_8, g_608_0, g_610_0, g_612_0, g_612_2, g_612_4, g_612_5, g_612_7, g_612_8, g_612_9, g_612_10, g_612_11, g_612_12, g_612_13, g_612_14, g_612_15, g_612_16, g_612_19, g_612_20, g_612_22, g_612_24, g_612_25, g_612_26, g_612_27, g_612_28, g_612_30, g_612_31, g_612_32, g_612_33, g_612_34, g_612_36, g_612_37, g_612_38, g_612_39, g_612_40, g_612_41, g_612_42, g_612_43, g_612_44, g_612_46, g_612_47, g_612_48, g_612_49, g_612_50, g_612_53, g_612_56, g_612_57, g_612_58, g_612_59, g_612_61, g_612_62, g_612_63, g_612_64, hs 633 w (by decide)]
    have next : ∀ v, v = eM τ w fr i j → j ≤ τ.1 633 w → Wz (L 612 w fr m i (j + 1)) (v2 σ.1 636 (9 * i + j) v, σ.2) Q := fun v hv hj => by
      refine ih (j + 1) _ (by omega) (by omega) (by omega) (fun b x hb => ?_) (fun x y x0 x1 y0 y1 => ?_) (fun y y0 y1 => ?_)
      · dsimp only; rw [v2_ne _ _ _ _ hb]; exact hs b x hb
      · unfold tbM; dsimp only; rw [v2_nk _ _ _ _ (by omega)]; exact h1 x y x0 x1 y0 y1
      · unfold tbM; dsimp only; rw [v2_eq]
        by_cases c : y = j
        · rw [if_pos ⟨rfl, by omega⟩, c, hv]
        · rw [if_neg (fun q => c (by omega))]; exact h2 y y0 (by omega)
    refine ⟨by omega, fun e => ⟨by omega, hQ σ hs fun x y x0 x1 y0 y1 => ?_⟩, fun e => ⟨by omega, fun z => ⟨by omega, by omega, by omega, next 0 ?_ (by omega)⟩, fun z => ?_⟩⟩
    · by_cases c : x = i
      · rw [c]; exact h2 y y0 (by omega)
      · exact h1 x y x0 (by omega) y0 y1
    · have ci : i = 0 := by omega
      have cj : j = 0 := by omega
      subst ci cj
      show 0 = 0 * τ.1 635 2
      omega
    · have hE : ∀ x y, 0 ≤ x → x ≤ i → 0 ≤ y → y ≤ j → ¬(x = i ∧ y = j) → tbM σ x y = eM τ w fr x y := fun x y x0 x1 y0 y1 hn => by
        by_cases c : x = i
        · rw [c]; exact h2 y y0 (by omega)
        · exact h1 x y x0 (by omega) y0 (by omega)
      have eB : ∀ x y, 0 ≤ x → x ≤ i → 0 ≤ y → y ≤ j → 0 ≤ eM τ w fr x y ∧ eM τ w fr x y ≤ 2000 := fun x y x0 x1 y0 y1 => by
        have := eM_b (w := w) (fr := fr) hP x0 y0
        omega
      have bj := eB i j i0 (Int.le_refl _) j0 (Int.le_refl _)
      refine W12_cheapest w0 w1 (wdM_to hs hw) (prM_to hs hP) f0 (by rw [hs 612 1 (by decide)]; omega) i0 j0 (by rw [hs 633 w (by decide)]; omega) (by omega) (fun x y x0 x1 y0 y1 hn => by rw [hE x y x0 x1 y0 y1 hn]; exact eB x y x0 x1 y0 y1) (fun i1 => ?_) (fun iz => ?_)
      · have r1 : (fun k => σ.1 613 (fr + k)) = (fun k => τ.1 613 (fr + k)) := funext fun k => hs 613 _ (by decide)
        have r2 : (fun k => σ.1 634 (8 * w + k)) = (fun k => τ.1 634 (8 * w + k)) := funext fun k => hs 634 _ (by decide)
        have r3 : σ.1 635 = τ.1 635 := funext fun k => hs _ _ (by decide)
        have ev : cellE (tbM σ) (fun k => σ.1 613 (fr + k)) (fun k => σ.1 634 (8 * w + k)) (σ.1 635) i j = eM τ w fr i j := by
          rw [r1, r2, r3]
          unfold eM
          rw [eD_eq i0 j0]
          refine cellE_cg (fun c => hE _ _ (by omega) (by omega) j0 (by omega) (by omega)) (fun c d => ⟨hE _ _ i0 (by omega) (by omega) (by omega) (by omega), hE _ _ (by omega) (by omega) (by omega) (by omega) (by omega)⟩) (fun c d e => hE _ _ (by omega) (by omega) (by omega) (by omega) (by omega))
        rw [ev]
        exact ⟨by omega, by omega, by omega, next _ rfl (by omega)⟩
      · subst iz
        have ev : tbM σ 0 (j - 1) + σ.1 635 2 = eM τ w fr 0 j := by
          rw [hE 0 (j - 1) (by omega) (by omega) (by omega) (by omega) (by omega), hs 635 2 (by decide)]
          show (j - 1) * τ.1 635 2 + τ.1 635 2 = j * τ.1 635 2
          rw [Int.sub_mul]; omega
        rw [ev]
        exact ⟨by omega, by omega, by omega, next _ rfl (by omega)⟩
set_option maxRecDepth 100000 in
theorem W12_pr_3 {τ : kzM} {w fr m : Int} (w0 : 0 ≤ w) (w1 : w < 60) (hw : wdM τ w) (hP : prM τ) (f0 : 0 ≤ fr) (m0 : 0 ≤ m) (fm : fr + m ≤ τ.1 612 1) (Q : Int → kzM → Prop) (hQ : ∀ σ, tabM τ σ → Q (eM τ w fr m (τ.1 633 w)) σ) : ∀ (n : Nat) (i : Int) (σ : kzM), 0 ≤ i → i ≤ m + 1 → m + 1 - i < (n : Int) → tabM τ σ → (∀ x y, 0 ≤ x → x < i → 0 ≤ y → y ≤ τ.1 633 w → tbM σ x y = eM τ w fr x y) → Wz (lp (fun _ _ _ _ _ _ => none) (Z12_priceOf_3B kdG0) n 612 w fr m i) σ Q := by
  have wl := hw.1
  have kl := hP.2.1
  intro n
  induction n with
  | zero => intro j; intros; omega
  | succ n ih =>
    intro i σ i0 i1 i2 hs h1
    rw [lp_succ]
    unfold Z12_priceOf_3B
    simp only [Wz_rt, Wz_cnd, Wz_lI, Wz_lW, Wz_lL, Wz_cl, Wz_cv, Wz_nz, Wz_gI, Wz_gR, Wz_sI, Wz_aI, Wz_aZ, Wz_aL, Wz_aN, Wz_aR, Wz_tI, Wz_tZ, Wz_tL, Option.some.injEq, exists_eq_left', zB_0, zB_1, true_and, and_true, true_implies, not_true_eq_false, false_implies, not_false_eq_true, Classical.not_not, g_0, g_1, g_2, g_3, g_4, g_5, g_327, g_328, g_329, g_330, g_331, g_332, g_333, g_334, g_335, g_336, g_337, g_338, g_339, g_340, g_341, g_342, g_343, g_464, g_465, g_466, g_484, g_485, g_486, g_487, g_488, g_489, g_490, g_491, g_492, g_493, g_494, g_495, g_496, g_497, g_498, g_499, g_500, g_501, g_562, g_563, g_564, g_565, g_566, g_567, g_568, g_574, g_580, g_581, g_582, g_583, g_584, g_585, g_586, g_587, g_588, g_589, g_590, g_591, g_592, g_600, g_601, g_602, g_603, g_604, g_605, g_606, g_607, g_608, g_609, g_610, g_611, g_612, g_613, g_614, g_615, g_616, g_617, g_618, g_619, g_620, g_621, g_622, g_623, g_624, g_625, g_626, g_627, g_628, g_629, g_630, g_631, g_632, g_633, g_634, g_635, g_636, g_637, g_638, g_639, g_640, g_641, g_642, g_643, g_644, g_645, g_646, g_647, g_648, g_649, g_650, g_651, g_652, g_653, g_654, g_655, g_656, g_657, g_658, g_659, g_660, g_661, g_662, g_0_0, g_0_1, g_0_2, g_0_3, g_0_4, g_0_5, g_0_6, g_0_7, g_0_8, g_0_9, g_0_10, g_0_11, g_1_0, g_3_0, g_327_0, g_327_1, g_327_2, g_327_3, g_328_0, g_330_0, g_332_0, g_334_0, g_336_0, g_336_1, g_336_2, g_336_3, g_337_0, g_339_0, g_341_0, g_464_0, g_464_1, g_484_0, g_484_1, g_484_2, g_485_0, g_487_0, g_489_0, g_491_0, g_491_1, g_491_2, g_491_3, g_491_4, g_491_5, g_491_6, g_491_7, g_496_0, g_498_0, g_500_0, g_500_1, g_500_3, g_500_4, g_500_5, g_500_6, g_500_7, g_562_0, g_564_0, g_566_0, g_580_0, g_580_1, g_580_2, g_580_3, g_581_0, g_583_0, g_585_0, g_588_1, g_588_2, g_588_3, g_588_4, g_588_6, g_601_0, g_601_1, g_601_2, g_601_3, g_601_4, g_601_5, g_601_6, g_601_7, g_601_8, g_608_0, g_610_0, g_612_0, g_612_2, g_612_4, g_612_5, g_612_7, g_612_8, g_612_9, g_612_10, g_612_11, g_612_12, g_612_13, g_612_14, g_612_15, g_612_16, g_612_19, g_612_20, g_612_22, g_612_24, g_612_25, g_612_26, g_612_27, g_612_28, g_612_30, g_612_31, g_612_32, g_612_33, g_612_34, g_612_36, g_612_37, g_612_38, g_612_39, g_612_40, g_612_41, g_612_42, g_612_43, g_612_44, g_612_46, g_612_47, g_612_48, g_612_49, g_612_50, g_612_53, g_612_56, g_612_57, g_612_58, g_612_59, g_612_61, g_612_62, g_612_63, g_612_64, hs 633 w (by decide)]
    refine ⟨fun e => ⟨by omega, by omega, ?_⟩, fun e => ?_⟩
    · have ev : σ.1 636 (9 * m + τ.1 633 w) = eM τ w fr m (τ.1 633 w) := h1 m _ m0 (by omega) (by omega) (Int.le_refl _)
      rw [ev]; exact hQ σ hs
    · unfold Z12_priceOf_12
      refine W12_pr_12 w0 w1 hw hP f0 fm i0 (by omega) Q ?_ NN 0 σ (by omega) (by omega) (by unfold NN; omega) hs h1 (fun y y0 y1 => by omega)
      intro σ' hs' h'
      exact ih (i + 1) σ' (by omega) (by omega) (by omega) hs' h'
set_option maxRecDepth 100000 in
theorem W12_priceOf {τ : kzM} {w fr m : Int} (w0 : 0 ≤ w) (w1 : w < 60) (hw : wdM τ w) (hP : prM τ) (f0 : 0 ≤ fr) (m0 : 0 ≤ m) (fm : fr + m ≤ τ.1 612 1) {Q : Int → kzM → Prop} (hQ : ∀ σ, tabM τ σ → Q (eM τ w fr m (τ.1 633 w)) σ) : Wz (Z12_priceOf kdG0 612 w fr m) τ Q := by
  have kl := hP.2.1
  unfold Z12_priceOf Z12_priceOf_3
  exact W12_pr_3 w0 w1 hw hP f0 m0 fm Q hQ NN 0 τ (by omega) (by omega) (by unfold NN; omega) (fun _ _ _ => rfl) (fun x y x0 x1 => by omega)
/-- both sides' prices are one -/
theorem cellE_sw {t : Int → Int → Int} {s w P s' w' P' : Int → Int} {i j n m : Int} (i0 : 0 ≤ i) (j0 : 0 ≤ j) (hi : i ≤ n) (hj : j ≤ m) (hs : ∀ k, 0 ≤ k → k < n → s k = s' k) (hw : ∀ k, 0 ≤ k → k < m → w k = w' k) (hP : ∀ k, 0 ≤ k → k < 6 → P k = P' k) : cellE t s w P i j = cellE t s' w' P' i j := by
  have p0 := hP 0 (by omega) (by omega)
  have p1 := hP 1 (by omega) (by omega)
  have p2 := hP 2 (by omega) (by omega)
  have p3 := hP 3 (by omega) (by omega)
  have p4 := hP 4 (by omega) (by omega)
  unfold cellE oneC
  by_cases c : i = 0
  · rw [if_pos c, if_pos c, p2]
  · rw [if_neg c, if_neg c, hs (i - 1) (by omega) (by omega), p0, p1, p2, p3, p4]
    have ea : (if i ≤ 1 then -1 else s (i - 2)) = (if i ≤ 1 then -1 else s' (i - 2)) := by
      by_cases d : i ≤ 1
      · rw [if_pos d, if_pos d]
      · rw [if_neg d, if_neg d, hs (i - 2) (by omega) (by omega)]
    rw [ea]
    by_cases d : j ≤ 0
    · simp only [d, if_true]
      have dd : j ≤ 1 := by omega
      simp only [dd, true_or, or_true, if_true]
    · rw [hw (j - 1) (by omega) (by omega)]
      by_cases e : j ≤ 1
      · simp only [e, true_or, or_true, if_true]
      · rw [hw (j - 2) (by omega) (by omega)]
theorem eD_cg {s w P s' w' P' : Int → Int} {n m : Int} (hs : ∀ k, 0 ≤ k → k < n → s k = s' k) (hw : ∀ k, 0 ≤ k → k < m → w k = w' k) (hP : ∀ k, 0 ≤ k → k < 6 → P k = P' k) : ∀ (d : Nat) (i j : Int), 0 ≤ i → 0 ≤ j → i ≤ n → j ≤ m → i + j < (d : Int) → eD s w P i j = eD s' w' P' i j
  | 0, i, j, i0, j0, hi, hj, hd => by omega
  | d + 1, i, j, i0, j0, hi, hj, hd => by
    rw [eD_eq i0 j0, eD_eq i0 j0, cellE_sw i0 j0 hi hj hs hw hP]
    refine cellE_cg (fun c => ?_) (fun c e => ⟨?_, ?_⟩) (fun c e f => ?_)
    · exact eD_cg hs hw hP d _ _ (by omega) j0 (by omega) hj (by omega)
    · exact eD_cg hs hw hP d _ _ i0 (by omega) hi (by omega) (by omega)
    · exact eD_cg hs hw hP d _ _ (by omega) (by omega) (by omega) (by omega) (by omega)
    · exact eD_cg hs hw hP d _ _ (by omega) (by omega) (by omega) (by omega) (by omega)
set_option maxRecDepth 100000 in
theorem Inv.sl {τ : kzM} (hI : Inv τ) : slK τ ∧ prM τ := by
  have i1 := hI.1
  have i6 := hI.2.2.2.2.2.1
  unfold I1 at i1
  unfold I6 at i6
  refine ⟨⟨i1.1, fun k k0 k1 => (i1.2.2 k k0 k1).1, fun k k0 k1 => (i6 k k0 k1).1⟩, fun k k0 k1 => ?_, ?_, fun k k0 k1 => ?_⟩
  · rw [(i6 k k0 k1).2]; exact (i6 k k0 k1).1
  · omega
  · have e := i1.2.2 k k0 (by omega)
    rw [e.2]; exact e.1
set_option maxRecDepth 100000 in
theorem Inv.wd {τ : kzM} (hI : Inv τ) {w : Int} (w0 : 0 ≤ w) (w1 : w < τ.1 337 1) : slW τ (344 + 2 * w.toNat) ∧ wdM τ w ∧ τ.1 633 w = τ.1 (344 + 2 * w.toNat) 1 := by
  have i5 := hI.2.2.2.2.1
  unfold I5 at i5
  have e := (i5.2.2.2.2 w w0 w1).2.2.2
  unfold eqR at e
  refine ⟨⟨e.1, fun k k0 k1 => (e.2.2 k k0 k1).1⟩, ⟨by omega, fun k k0 k1 => ?_⟩, e.2.1⟩
  have q := e.2.2 k k0 (by omega)
  rw [q.2]; exact q.1
/-- the price of m keys from fr on, for word w -/
theorem eM_eC {τ : kzM} (hI : Inv τ) {w fr m : Int} (w0 : 0 ≤ w) (w1 : w < τ.1 337 1) (f0 : 0 ≤ fr) (m0 : 0 ≤ m) (fm : fr + m ≤ τ.1 1 1) : eM τ w fr m (τ.1 633 w) = eC τ (344 + 2 * w.toNat) fr m (τ.1 (344 + 2 * w.toNat) 1) := by
  have i1 := hI.1
  have i5 := hI.2.2.2.2.1
  have i6 := hI.2.2.2.2.2.1
  unfold I1 at i1
  unfold I5 at i5
  unfold I6 at i6
  have e := (i5.2.2.2.2 w w0 w1).2.2.2
  unfold eqR at e
  rw [e.2.1]
  unfold eM eC
  refine (eD_cg (n := m) (m := τ.1 (344 + 2 * w.toNat) 1) (fun k k0 k1 => ?_) (fun k k0 k1 => ?_) (fun k k0 k1 => ?_) (m + τ.1 (344 + 2 * w.toNat) 1 + 1).toNat m _ m0 (by omega) (Int.le_refl _) (Int.le_refl _) (by omega))
  · exact (i1.2.2 (fr + k) (by omega) (by omega)).2
  · exact (e.2.2 k k0 k1).2
  · exact (i6 k k0 k1).2
set_option maxRecDepth 100000 in
theorem m_slip (w : Int) (_ : kzI w) : MOK (Z11_slip kdG0 0 w) (Z12_slip kdG0 612 w) := by
  intro τ hI
  have i1 := hI.1
  have i5 := hI.2.2.2.2.1
  unfold I1 at i1
  unfold I5 at i5
  have b1 := i5.1
  have b2 := i5.2.2.2.1
  by_cases c : (0 ≤ w ∧ w < τ.1 337 1) ∧ 1 ≤ τ.1 1 1
  · obtain ⟨c1, c2⟩ := c
    obtain ⟨g1, g2⟩ := g_wd (i := w) (by omega) (by omega)
    obtain ⟨h1, h2⟩ := hI.sl
    obtain ⟨h3, h4, h5⟩ := hI.wd c1.1 c1.2
    simp only [Z11_slip_47, Z11_slip, W10_has, W10_keysOf c1.1 (show w < 60 by omega), Z11_isKey, Z11_isLetter, Z11_isTongue, Z11_isHand, Z11_isDay, Z12_isKey, Z12_isLetter, Z12_isTongue, Z12_isHand, Z12_areTongues, Z12_isWord, Z12_isSymbol, W_within, W_in, zp_0, zB_zp, W_size r_1, W_isEmpty r_1, W_isFull r_1, W_has r_1, W_clear r_1, W_size r_3, W_isEmpty r_3, W_isFull r_3, W_has r_3, W_clear r_3, W_size r_328, W_isEmpty r_328, W_isFull r_328, W_has r_328, W_clear r_328, W_size r_330, W_isEmpty r_330, W_isFull r_330, W_has r_330, W_clear r_330, W_size r_332, W_isEmpty r_332, W_isFull r_332, W_has r_332, W_clear r_332, W_size r_334, W_isEmpty r_334, W_isFull r_334, W_has r_334, W_clear r_334, W_size r_337, W_isEmpty r_337, W_isFull r_337, W_has r_337, W_clear r_337, W_size r_339, W_isEmpty r_339, W_isFull r_339, W_has r_339, W_clear r_339, W_size r_341, W_isEmpty r_341, W_isFull r_341, W_has r_341, W_clear r_341, W_size r_485, W_isEmpty r_485, W_isFull r_485, W_has r_485, W_clear r_485, W_size r_487, W_isEmpty r_487, W_isFull r_487, W_has r_487, W_clear r_487, W_size r_489, W_isEmpty r_489, W_isFull r_489, W_has r_489, W_clear r_489, W_size r_496, W_isEmpty r_496, W_isFull r_496, W_has r_496, W_clear r_496, W_size r_498, W_isEmpty r_498, W_isFull r_498, W_has r_498, W_clear r_498, W_size r_562, W_isEmpty r_562, W_isFull r_562, W_has r_562, W_clear r_562, W_size r_564, W_isEmpty r_564, W_isFull r_564, W_has r_564, W_clear r_564, W_size r_566, W_isEmpty r_566, W_isFull r_566, W_has r_566, W_clear r_566, W_size r_581, W_isEmpty r_581, W_isFull r_581, W_has r_581, W_clear r_581, W_size r_583, W_isEmpty r_583, W_isFull r_583, W_has r_583, W_clear r_583, W_size r_585, W_isEmpty r_585, W_isFull r_585, W_has r_585, W_clear r_585, W_size r_608, W_isEmpty r_608, W_isFull r_608, W_has r_608, W_clear r_608, W_size r_610, W_isEmpty r_610, W_isFull r_610, W_has r_610, W_clear r_610, Wz_rt, Wz_cnd, Wz_lI, Wz_lW, Wz_lL, Wz_cl, Wz_cv, Wz_nz, Wz_gI, Wz_gR, Wz_sI, Wz_aI, Wz_aZ, Wz_aL, Wz_aN, Wz_aR, Wz_tI, Wz_tZ, Wz_tL, Option.some.injEq, exists_eq_left', zB_0, zB_1, true_and, and_true, true_implies, not_true_eq_false, false_implies, not_false_eq_true, Classical.not_not, g_0, g_1, g_2, g_3, g_4, g_5, g_327, g_328, g_329, g_330, g_331, g_332, g_333, g_334, g_335, g_336, g_337, g_338, g_339, g_340, g_341, g_342, g_343, g_464, g_465, g_466, g_484, g_485, g_486, g_487, g_488, g_489, g_490, g_491, g_492, g_493, g_494, g_495, g_496, g_497, g_498, g_499, g_500, g_501, g_562, g_563, g_564, g_565, g_566, g_567, g_568, g_574, g_580, g_581, g_582, g_583, g_584, g_585, g_586, g_587, g_588, g_589, g_590, g_591, g_592, g_600, g_601, g_602, g_603, g_604, g_605, g_606, g_607, g_608, g_609, g_610, g_611, g_612, g_613, g_614, g_615, g_616, g_617, g_618, g_619, g_620, g_621, g_622, g_623, g_624, g_625, g_626, g_627, g_628, g_629, g_630, g_631, g_632, g_633, g_634, g_635, g_636, g_637, g_638, g_639, g_640, g_641, g_642, g_643, g_644, g_645, g_646, g_647, g_648, g_649, g_650, g_651, g_652, g_653, g_654, g_655, g_656, g_657, g_658, g_659, g_660, g_661, g_662, g_0_0, g_0_1, g_0_2, g_0_3, g_0_4, g_0_5, g_0_6, g_0_7, g_0_8, g_0_9, g_0_10, g_0_11, g_1_0, g_3_0, g_327_0, g_327_1, g_327_2, g_327_3, g_328_0, g_330_0, g_332_0, g_334_0, g_336_0, g_336_1, g_336_2, g_336_3, g_337_0, g_339_0, g_341_0, g_464_0, g_464_1, g_484_0, g_484_1, g_484_2, g_485_0, g_487_0, g_489_0, g_491_0, g_491_1, g_491_2, g_491_3, g_491_4, g_491_5, g_491_6, g_491_7, g_496_0, g_498_0, g_500_0, g_500_1, g_500_3, g_500_4, g_500_5, g_500_6, g_500_7, g_562_0, g_564_0, g_566_0, g_580_0, g_580_1, g_580_2, g_580_3, g_581_0, g_583_0, g_585_0, g_588_1, g_588_2, g_588_3, g_588_4, g_588_6, g_601_0, g_601_1, g_601_2, g_601_3, g_601_4, g_601_5, g_601_6, g_601_7, g_601_8, g_608_0, g_610_0, g_612_0, g_612_2, g_612_4, g_612_5, g_612_7, g_612_8, g_612_9, g_612_10, g_612_11, g_612_12, g_612_13, g_612_14, g_612_15, g_612_16, g_612_19, g_612_20, g_612_22, g_612_24, g_612_25, g_612_26, g_612_27, g_612_28, g_612_30, g_612_31, g_612_32, g_612_33, g_612_34, g_612_36, g_612_37, g_612_38, g_612_39, g_612_40, g_612_41, g_612_42, g_612_43, g_612_44, g_612_46, g_612_47, g_612_48, g_612_49, g_612_50, g_612_53, g_612_56, g_612_57, g_612_58, g_612_59, g_612_61, g_612_62, g_612_63, g_612_64, addF, v2, rw1, Nat.reduceEqDiff, Nat.reduceAdd, Int.reduceEq, Int.reduceNeg, reduceIte, false_and, and_false, true_and, and_true, and_self, c1]
    refine ⟨fun _ => W7_price g2 (by omega) h1 h3 ?_, fun z => by omega⟩
    intro σ hs
    simp only [Z12_slip_32, Z12_slip, Z12_isWord, W_in, zp_0, zB_zp, Wz_rt, Wz_cnd, Wz_lI, Wz_lW, Wz_lL, Wz_cl, Wz_cv, Wz_nz, Wz_gI, Wz_gR, Wz_sI, Wz_aI, Wz_aZ, Wz_aL, Wz_aN, Wz_aR, Wz_tI, Wz_tZ, Wz_tL, Option.some.injEq, exists_eq_left', zB_0, zB_1, true_and, and_true, true_implies, not_true_eq_false, false_implies, not_false_eq_true, Classical.not_not, g_0, g_1, g_2, g_3, g_4, g_5, g_327, g_328, g_329, g_330, g_331, g_332, g_333, g_334, g_335, g_336, g_337, g_338, g_339, g_340, g_341, g_342, g_343, g_464, g_465, g_466, g_484, g_485, g_486, g_487, g_488, g_489, g_490, g_491, g_492, g_493, g_494, g_495, g_496, g_497, g_498, g_499, g_500, g_501, g_562, g_563, g_564, g_565, g_566, g_567, g_568, g_574, g_580, g_581, g_582, g_583, g_584, g_585, g_586, g_587, g_588, g_589, g_590, g_591, g_592, g_600, g_601, g_602, g_603, g_604, g_605, g_606, g_607, g_608, g_609, g_610, g_611, g_612, g_613, g_614, g_615, g_616, g_617, g_618, g_619, g_620, g_621, g_622, g_623, g_624, g_625, g_626, g_627, g_628, g_629, g_630, g_631, g_632, g_633, g_634, g_635, g_636, g_637, g_638, g_639, g_640, g_641, g_642, g_643, g_644, g_645, g_646, g_647, g_648, g_649, g_650, g_651, g_652, g_653, g_654, g_655, g_656, g_657, g_658, g_659, g_660, g_661, g_662, g_0_0, g_0_1, g_0_2, g_0_3, g_0_4, g_0_5, g_0_6, g_0_7, g_0_8, g_0_9, g_0_10, g_0_11, g_1_0, g_3_0, g_327_0, g_327_1, g_327_2, g_327_3, g_328_0, g_330_0, g_332_0, g_334_0, g_336_0, g_336_1, g_336_2, g_336_3, g_337_0, g_339_0, g_341_0, g_464_0, g_464_1, g_484_0, g_484_1, g_484_2, g_485_0, g_487_0, g_489_0, g_491_0, g_491_1, g_491_2, g_491_3, g_491_4, g_491_5, g_491_6, g_491_7, g_496_0, g_498_0, g_500_0, g_500_1, g_500_3, g_500_4, g_500_5, g_500_6, g_500_7, g_562_0, g_564_0, g_566_0, g_580_0, g_580_1, g_580_2, g_580_3, g_581_0, g_583_0, g_585_0, g_588_1, g_588_2, g_588_3, g_588_4, g_588_6, g_601_0, g_601_1, g_601_2, g_601_3, g_601_4, g_601_5, g_601_6, g_601_7, g_601_8, g_608_0, g_610_0, g_612_0, g_612_2, g_612_4, g_612_5, g_612_7, g_612_8, g_612_9, g_612_10, g_612_11, g_612_12, g_612_13, g_612_14, g_612_15, g_612_16, g_612_19, g_612_20, g_612_22, g_612_24, g_612_25, g_612_26, g_612_27, g_612_28, g_612_30, g_612_31, g_612_32, g_612_33, g_612_34, g_612_36, g_612_37, g_612_38, g_612_39, g_612_40, g_612_41, g_612_42, g_612_43, g_612_44, g_612_46, g_612_47, g_612_48, g_612_49, g_612_50, g_612_53, g_612_56, g_612_57, g_612_58, g_612_59, g_612_61, g_612_62, g_612_63, g_612_64, hs 612 _ (by decide)]
    refine ⟨by omega, fun z => by omega, fun _ => ⟨fun z => by omega, fun _ => ?_⟩⟩
    have hI2 : Inv σ := Inv.to20 (fun a j _ h => hs a j (fun q => h (md_20 (by omega)))) hI
    obtain ⟨k1, k2⟩ := hI2.sl
    obtain ⟨k3, k4, k5⟩ := hI2.wd c1.1 (by rw [hs 337 _ (by decide)]; exact c1.2)
    refine W12_priceOf c1.1 (by omega) k4 k2 (by omega) (by omega) (by rw [hs 612 _ (by decide)]; omega) ?_
    intro ρ hr
    refine ⟨?_, Inv.to20 (fun a j _ h => hr a j (fun q => h (by rw [q]; rfl))) hI2⟩
    rw [i1.2.1, eM_eC hI2 c1.1 (by rw [hs 337 _ (by decide)]; exact c1.2) (by omega) (by omega) (by rw [hs 1 _ (by decide)]; omega)]
    unfold eC sK
    rw [hs (344 + 2 * w.toNat) 1 (by omega)]
    have r1 : σ.1 2 = τ.1 2 := funext fun k => hs _ _ (by decide)
    have r2 : σ.1 (344 + 2 * w.toNat + 1) = τ.1 (344 + 2 * w.toNat + 1) := funext fun k => hs _ _ (by omega)
    have r3 : σ.1 465 = τ.1 465 := funext fun k => hs _ _ (by decide)
    rw [r1, r2, r3]
  · simp only [Z11_slip_47, Z11_slip, W10_has, Z12_slip_32, Z12_slip, Z11_isKey, Z11_isLetter, Z11_isTongue, Z11_isHand, Z11_isDay, Z12_isKey, Z12_isLetter, Z12_isTongue, Z12_isHand, Z12_areTongues, Z12_isWord, Z12_isSymbol, W_within, W_in, zp_0, zB_zp, W_size r_1, W_isEmpty r_1, W_isFull r_1, W_has r_1, W_clear r_1, W_size r_3, W_isEmpty r_3, W_isFull r_3, W_has r_3, W_clear r_3, W_size r_328, W_isEmpty r_328, W_isFull r_328, W_has r_328, W_clear r_328, W_size r_330, W_isEmpty r_330, W_isFull r_330, W_has r_330, W_clear r_330, W_size r_332, W_isEmpty r_332, W_isFull r_332, W_has r_332, W_clear r_332, W_size r_334, W_isEmpty r_334, W_isFull r_334, W_has r_334, W_clear r_334, W_size r_337, W_isEmpty r_337, W_isFull r_337, W_has r_337, W_clear r_337, W_size r_339, W_isEmpty r_339, W_isFull r_339, W_has r_339, W_clear r_339, W_size r_341, W_isEmpty r_341, W_isFull r_341, W_has r_341, W_clear r_341, W_size r_485, W_isEmpty r_485, W_isFull r_485, W_has r_485, W_clear r_485, W_size r_487, W_isEmpty r_487, W_isFull r_487, W_has r_487, W_clear r_487, W_size r_489, W_isEmpty r_489, W_isFull r_489, W_has r_489, W_clear r_489, W_size r_496, W_isEmpty r_496, W_isFull r_496, W_has r_496, W_clear r_496, W_size r_498, W_isEmpty r_498, W_isFull r_498, W_has r_498, W_clear r_498, W_size r_562, W_isEmpty r_562, W_isFull r_562, W_has r_562, W_clear r_562, W_size r_564, W_isEmpty r_564, W_isFull r_564, W_has r_564, W_clear r_564, W_size r_566, W_isEmpty r_566, W_isFull r_566, W_has r_566, W_clear r_566, W_size r_581, W_isEmpty r_581, W_isFull r_581, W_has r_581, W_clear r_581, W_size r_583, W_isEmpty r_583, W_isFull r_583, W_has r_583, W_clear r_583, W_size r_585, W_isEmpty r_585, W_isFull r_585, W_has r_585, W_clear r_585, W_size r_608, W_isEmpty r_608, W_isFull r_608, W_has r_608, W_clear r_608, W_size r_610, W_isEmpty r_610, W_isFull r_610, W_has r_610, W_clear r_610, Wz_rt, Wz_cnd, Wz_lI, Wz_lW, Wz_lL, Wz_cl, Wz_cv, Wz_nz, Wz_gI, Wz_gR, Wz_sI, Wz_aI, Wz_aZ, Wz_aL, Wz_aN, Wz_aR, Wz_tI, Wz_tZ, Wz_tL, Option.some.injEq, exists_eq_left', zB_0, zB_1, true_and, and_true, true_implies, not_true_eq_false, false_implies, not_false_eq_true, Classical.not_not, g_0, g_1, g_2, g_3, g_4, g_5, g_327, g_328, g_329, g_330, g_331, g_332, g_333, g_334, g_335, g_336, g_337, g_338, g_339, g_340, g_341, g_342, g_343, g_464, g_465, g_466, g_484, g_485, g_486, g_487, g_488, g_489, g_490, g_491, g_492, g_493, g_494, g_495, g_496, g_497, g_498, g_499, g_500, g_501, g_562, g_563, g_564, g_565, g_566, g_567, g_568, g_574, g_580, g_581, g_582, g_583, g_584, g_585, g_586, g_587, g_588, g_589, g_590, g_591, g_592, g_600, g_601, g_602, g_603, g_604, g_605, g_606, g_607, g_608, g_609, g_610, g_611, g_612, g_613, g_614, g_615, g_616, g_617, g_618, g_619, g_620, g_621, g_622, g_623, g_624, g_625, g_626, g_627, g_628, g_629, g_630, g_631, g_632, g_633, g_634, g_635, g_636, g_637, g_638, g_639, g_640, g_641, g_642, g_643, g_644, g_645, g_646, g_647, g_648, g_649, g_650, g_651, g_652, g_653, g_654, g_655, g_656, g_657, g_658, g_659, g_660, g_661, g_662, g_0_0, g_0_1, g_0_2, g_0_3, g_0_4, g_0_5, g_0_6, g_0_7, g_0_8, g_0_9, g_0_10, g_0_11, g_1_0, g_3_0, g_327_0, g_327_1, g_327_2, g_327_3, g_328_0, g_330_0, g_332_0, g_334_0, g_336_0, g_336_1, g_336_2, g_336_3, g_337_0, g_339_0, g_341_0, g_464_0, g_464_1, g_484_0, g_484_1, g_484_2, g_485_0, g_487_0, g_489_0, g_491_0, g_491_1, g_491_2, g_491_3, g_491_4, g_491_5, g_491_6, g_491_7, g_496_0, g_498_0, g_500_0, g_500_1, g_500_3, g_500_4, g_500_5, g_500_6, g_500_7, g_562_0, g_564_0, g_566_0, g_580_0, g_580_1, g_580_2, g_580_3, g_581_0, g_583_0, g_585_0, g_588_1, g_588_2, g_588_3, g_588_4, g_588_6, g_601_0, g_601_1, g_601_2, g_601_3, g_601_4, g_601_5, g_601_6, g_601_7, g_601_8, g_608_0, g_610_0, g_612_0, g_612_2, g_612_4, g_612_5, g_612_7, g_612_8, g_612_9, g_612_10, g_612_11, g_612_12, g_612_13, g_612_14, g_612_15, g_612_16, g_612_19, g_612_20, g_612_22, g_612_24, g_612_25, g_612_26, g_612_27, g_612_28, g_612_30, g_612_31, g_612_32, g_612_33, g_612_34, g_612_36, g_612_37, g_612_38, g_612_39, g_612_40, g_612_41, g_612_42, g_612_43, g_612_44, g_612_46, g_612_47, g_612_48, g_612_49, g_612_50, g_612_53, g_612_56, g_612_57, g_612_58, g_612_59, g_612_61, g_612_62, g_612_63, g_612_64, addF, v2, rw1, Nat.reduceEqDiff, Nat.reduceAdd, Int.reduceEq, Int.reduceNeg, reduceIte, false_and, and_false, true_and, and_true, and_self]
    (repeat' (first | with_reducible (refine And.intro ?_ ?_) | intro _)) <;> first | omega | with_reducible exact hI
