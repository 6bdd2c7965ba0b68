/-! guesses: the reference's list; guess and mine closed -/
def tabH (τ σ : kzM) : Prop := ∀ a x, ¬(636 ≤ a ∧ a ≤ 639) → ¬(a = 612 ∧ x = 35) → σ.1 a x = τ.1 a x
set_option maxRecDepth 100000 in
theorem Inv.tabH {τ σ : kzM} (h : tabH τ σ) (hI : Inv τ) : Inv σ := Inv.to20 (fun a j _ z => h a j (fun q => z (md_20 (by omega))) (fun q => z (by rw [q.1, q.2]; decide))) hI
def msI (τ : kzM) (f pr wm : Int → Int) (m : Nat) (n : Int) : Prop := τ.1 612 35 = m ∧ (∀ k, 0 ≤ k → k < (m : Int) → τ.1 637 k = f k) ∧ ∀ w, 0 ≤ w → w < n → τ.1 638 w = pr w ∧ τ.1 639 w = wm w
set_option maxRecDepth 100000 in
theorem W12_ahead {τ : kzM} {pr wt wm : Int → Int} {n v : Int} (v0 : 0 ≤ v) (v1 : v < n) (n1 : n < 60) (hr : ∀ w, 0 ≤ w → w < n + 1 → τ.1 638 w = pr w ∧ τ.1 639 w = wm w) (hw : wm v < wm n ↔ wt v < wt n) {Q : Int → kzM → Prop} (hQ : Q (zp (ahP pr wt n v)) τ) : Wz (Z12_isAhead kdG0 612 n v) τ Q := by
  have en := hr n (by omega) (by omega)
  have ev := hr v (by omega) (by omega)
  simp only [Z12_isAhead, Z12_isAhead_35, Z12_isAhead_76, Z12_isAhead_71, Z12_isAhead_75, Wz_rt, Wz_cnd, Wz_lI, Wz_lW, Wz_lL, Wz_cl, Wz_cv, Wz_nz, Wz_gI, Wz_gR, Wz_sI, Wz_aI, Wz_aZ, Wz_aL, Wz_aN, Wz_aR, Wz_tI, Wz_tZ, Wz_tL, Option.some.injEq, exists_eq_left', zB_0, zB_1, true_and, and_true, true_implies, not_true_eq_false, false_implies, not_false_eq_true, Classical.not_not, g_0, g_1, g_2, g_3, g_4, g_5, g_327, g_328, g_329, g_330, g_331, g_332, g_333, g_334, g_335, g_336, g_337, g_338, g_339, g_340, g_341, g_342, g_343, g_464, g_465, g_466, g_484, g_485, g_486, g_487, g_488, g_489, g_490, g_491, g_492, g_493, g_494, g_495, g_496, g_497, g_498, g_499, g_500, g_501, g_562, g_563, g_564, g_565, g_566, g_567, g_568, g_574, g_580, g_581, g_582, g_583, g_584, g_585, g_586, g_587, g_588, g_589, g_590, g_591, g_592, g_600, g_601, g_602, g_603, g_604, g_605, g_606, g_607, g_608, g_609, g_610, g_611, g_612, g_613, g_614, g_615, g_616, g_617, g_618, g_619, g_620, g_621, g_622, g_623, g_624, g_625, g_626, g_627, g_628, g_629, g_630, g_631, g_632, g_633, g_634, g_635, g_636, g_637, g_638, g_639, g_640, g_641, g_642, g_643, g_644, g_645, g_646, g_647, g_648, g_649, g_650, g_651, g_652, g_653, g_654, g_655, g_656, g_657, g_658, g_659, g_660, g_661, g_662, g_0_0, g_0_1, g_0_2, g_0_3, g_0_4, g_0_5, g_0_6, g_0_7, g_0_8, g_0_9, g_0_10, g_0_11, g_1_0, g_3_0, g_327_0, g_327_1, g_327_2, g_327_3, g_328_0, g_330_0, g_332_0, g_334_0, g_336_0, g_336_1, g_336_2, g_336_3, g_337_0, g_339_0, g_341_0, g_464_0, g_464_1, g_484_0, g_484_1, g_484_2, g_485_0, g_487_0, g_489_0, g_491_0, g_491_1, g_491_2, g_491_3, g_491_4, g_491_5, g_491_6, g_491_7, g_496_0, g_498_0, g_500_0, g_500_1, g_500_3, g_500_4, g_500_5, g_500_6, g_500_7, g_562_0, g_564_0, g_566_0, g_580_0, g_580_1, g_580_2, g_580_3, g_581_0, g_583_0, g_585_0, g_588_1, g_588_2, g_588_3, g_588_4, g_588_6, g_601_0, g_601_1, g_601_2, g_601_3, g_601_4, g_601_5, g_601_6, g_601_7, g_601_8, g_608_0, g_610_0, g_612_0, g_612_2, g_612_4, g_612_5, g_612_7, g_612_8, g_612_9, g_612_10, g_612_11, g_612_12, g_612_13, g_612_14, g_612_15, g_612_16, g_612_19, g_612_20, g_612_22, g_612_24, g_612_25, g_612_26, g_612_27, g_612_28, g_612_30, g_612_31, g_612_32, g_612_33, g_612_34, g_612_36, g_612_37, g_612_38, g_612_39, g_612_40, g_612_41, g_612_42, g_612_43, g_612_44, g_612_46, g_612_47, g_612_48, g_612_49, g_612_50, g_612_53, g_612_56, g_612_57, g_612_58, g_612_59, g_612_61, g_612_62, g_612_63, g_612_64, en, ev]
  by_cases c : ahP pr wt n v
  · rw [zp_pos c] at hQ
    unfold ahP at c
    refine ⟨by omega, by omega, fun a => ⟨by omega, by omega, fun b => hQ, fun b => by omega⟩, fun a => ⟨by omega, by omega, fun b => by omega, fun b => hQ⟩⟩
  · rw [zp_neg c] at hQ
    unfold ahP at c
    refine ⟨by omega, by omega, fun a => ⟨by omega, by omega, fun b => by omega, fun b => ⟨by omega, by omega, fun d => ⟨fun _ => hQ, fun z => by omega⟩, fun d => hQ⟩⟩, fun a => ⟨by omega, by omega, fun b => hQ, fun b => by omega⟩⟩
set_option maxRecDepth 100000 in
theorem W12_fg_109 {σ : kzM} {f pr wt wm : Int → Int} {m : Nat} {n h d ts p : Int} (hm : (m : Int) ≤ n) (n1 : n < 60) (hf : ∀ k, 0 ≤ k → k < (m : Int) → 0 ≤ f k ∧ f k < n) (hw : ∀ v, 0 ≤ v → v < n → (wm v < wm n ↔ wt v < wt n)) (hc : σ.1 612 35 = m) (hr : ∀ w, 0 ≤ w → w < n + 1 → σ.1 638 w = pr w ∧ σ.1 639 w = wm w) {k8 : Nat → Int → Int → Int → Int → Int → kzM → Option (Unit × kzM)} {Q : Unit → kzM → Prop} (hQ : ∀ ρ, tabH σ ρ → msI ρ (insF f (posG pr wt f n m) n m) pr wm (m + 1) (n + 1) → Wz (k8 612 h d ts p (n + 1)) ρ Q) : ∀ (N k : Nat) (ρ : kzM), k ≤ m → k < N → (∀ a x, a ≠ 637 → ρ.1 a x = σ.1 a x) → (∀ j, 0 ≤ j → j < (k : Int) → ρ.1 637 j = f j) → (∀ j, (k : Int) < j → j ≤ m → ρ.1 637 j = f (j - 1)) → posG pr wt f n m = posG pr wt f n k → Wz (lp (fun _ _ _ _ _ _ _ _ => none) (Z12_findGuesses_109B kdG0 k8) N 612 h d ts p n (k : Int)) ρ Q := by
  have pl := posG_le (pr := pr) (wt := wt) (f := f) (n := n) m
  intro N
  induction N with
  | zero => intro k; intros; omega
  | succ N ih =>
    intro k ρ k1 k2 hs h1 h2 hp
    rw [lp_succ]
    generalize lp (fun _ _ _ _ _ _ _ _ => none) (Z12_findGuesses_109B kdG0 k8) N = L at ih ⊢
    unfold Z12_findGuesses_109B
    have fin : posG pr wt f n k = k → Wz (Z12_findGuesses_154 kdG0 k8 612 h d ts p n (k : Int)) ρ Q := fun e => by
      simp only [Z12_findGuesses_154, Z12_findGuesses_173, Wz_rt, Wz_cnd, Wz_lI, Wz_lW, Wz_lL, Wz_cl, Wz_cv, Wz_nz, Wz_gI, Wz_gR, Wz_sI, Wz_aI, Wz_aZ, Wz_aL, Wz_aN, Wz_aR, Wz_tI, Wz_tZ, Wz_tL, Option.some.injEq, exists_eq_left', zB_0, zB_1, true_and, and_true, true_implies, not_true_eq_false, false_implies, not_false_eq_true, Classical.not_not, g_0, g_1, g_2, g_3, g_4, g_5, g_327, g_328, g_329, g_330, g_331, g_332, g_333, g_334, g_335, g_336, g_337, g_338, g_339, g_340, g_341, g_342, g_343, g_464, g_465, g_466, g_484, g_485, g_486, g_487, g_488, g_489, g_490, g_491, g_492, g_493, g_494, g_495, g_496, g_497, g_498, g_499, g_500, g_501, g_562, g_563, g_564, g_565, g_566, g_567, g_568, g_574, g_580, g_581, g_582, g_583, g_584, g_585, g_586, g_587, g_588, g_589, g_590, g_591, g_592, g_600, g_601, g_602, g_603, g_604, g_605, g_606, g_607, g_608, g_609, g_610, g_611, g_612, g_613, g_614, g_615, g_616, g_617, g_618, g_619, g_620, g_621, g_622, g_623, g_624, g_625, g_626, g_627, g_628, g_629, g_630, g_631, g_632, g_633, g_634, g_635, g_636, g_637, g_638, g_639, g_640, g_641, g_642, g_643, g_644, g_645, g_646, g_647, g_648, g_649, g_650, g_651, g_652, g_653, g_654, g_655, g_656, g_657, g_658, g_659, g_660, g_661, g_662, g_0_0, g_0_1, g_0_2, g_0_3, g_0_4, g_0_5, g_0_6, g_0_7, g_0_8, g_0_9, g_0_10, g_0_11, g_1_0, g_3_0, g_327_0, g_327_1, g_327_2, g_327_3, g_328_0, g_330_0, g_332_0, g_334_0, g_336_0, g_336_1, g_336_2, g_336_3, g_337_0, g_339_0, g_341_0, g_464_0, g_464_1, g_484_0, g_484_1, g_484_2, g_485_0, g_487_0, g_489_0, g_491_0, g_491_1, g_491_2, g_491_3, g_491_4, g_491_5, g_491_6, g_491_7, g_496_0, g_498_0, g_500_0, g_500_1, g_500_3, g_500_4, g_500_5, g_500_6, g_500_7, g_562_0, g_564_0, g_566_0, g_580_0, g_580_1, g_580_2, g_580_3, g_581_0, g_583_0, g_585_0, g_588_1, g_588_2, g_588_3, g_588_4, g_588_6, g_601_0, g_601_1, g_601_2, g_601_3, g_601_4, g_601_5, g_601_6, g_601_7, g_601_8, g_608_0, g_610_0, g_612_0, g_612_2, g_612_4, g_612_5, g_612_7, g_612_8, g_612_9, g_612_10, g_612_11, g_612_12, g_612_13, g_612_14, g_612_15, g_612_16, g_612_19, g_612_20, g_612_22, g_612_24, g_612_25, g_612_26, g_612_27, g_612_28, g_612_30, g_612_31, g_612_32, g_612_33, g_612_34, g_612_36, g_612_37, g_612_38, g_612_39, g_612_40, g_612_41, g_612_42, g_612_43, g_612_44, g_612_46, g_612_47, g_612_48, g_612_49, g_612_50, g_612_53, g_612_56, g_612_57, g_612_58, g_612_59, g_612_61, g_612_62, g_612_63, g_612_64]
      rw [v2_ne _ _ _ _ (by decide), hs 612 35 (by decide), hc]
      refine ⟨by omega, by omega, by omega, hQ _ (fun a x q r => ?_) ⟨?_, fun j j0 j1 => ?_, fun w w0 w1 => ?_⟩⟩
      · dsimp only
        rw [v2_eq, if_neg r, v2_ne _ _ _ _ (by omega)]
        exact hs a x (by omega)
      · dsimp only
        rw [v2_self]; omega
      · dsimp only
        rw [v2_ne _ _ _ _ (by decide), hp, e, v2_eq]
        unfold insF
        by_cases c : j = k
        · rw [if_pos ⟨rfl, c⟩, if_pos c]
        · rw [if_neg (fun q => c q.2), if_neg c]
          by_cases c2 : (k : Int) < j
          · rw [if_pos ⟨c2, by omega⟩]; exact h2 j c2 (by omega)
          · rw [if_neg (fun q => c2 q.1)]; exact h1 j j0 (by omega)
      · dsimp only
        rw [v2_ne _ _ _ _ (by decide), v2_ne _ _ _ _ (by decide), v2_ne _ _ _ _ (by decide), v2_ne _ _ _ _ (by decide), hs 638 _ (by decide), hs 639 _ (by decide)]
        exact hr w w0 w1
    cases k with
    | zero =>
      simp only [Wz_rt, Wz_cnd, Wz_lI, Wz_lW, Wz_lL, Wz_cl, Wz_cv, Wz_nz, Wz_gI, Wz_gR, Wz_sI, Wz_aI, Wz_aZ, Wz_aL, Wz_aN, Wz_aR, Wz_tI, Wz_tZ, Wz_tL, Option.some.injEq, exists_eq_left', zB_0, zB_1, true_and, and_true, true_implies, not_true_eq_false, false_implies, not_false_eq_true, Classical.not_not]
      exact ⟨fun _ => fin rfl, fun c => absurd (by decide) c⟩
    | succ k =>
      have ek : ((k + 1 : Nat) : Int) - 1 = (k : Int) := by omega
      have el : ((k + 1 : Nat) : Int) + -1 = (k : Int) := by omega
      simp only [Wz_rt, Wz_cnd, Wz_lI, Wz_lW, Wz_lL, Wz_cl, Wz_cv, Wz_nz, Wz_gI, Wz_gR, Wz_sI, Wz_aI, Wz_aZ, Wz_aL, Wz_aN, Wz_aR, Wz_tI, Wz_tZ, Wz_tL, Option.some.injEq, exists_eq_left', zB_0, zB_1, true_and, and_true, true_implies, not_true_eq_false, false_implies, not_false_eq_true, Classical.not_not, g_0, g_1, g_2, g_3, g_4, g_5, g_327, g_328, g_329, g_330, g_331, g_332, g_333, g_334, g_335, g_336, g_337, g_338, g_339, g_340, g_341, g_342, g_343, g_464, g_465, g_466, g_484, g_485, g_486, g_487, g_488, g_489, g_490, g_491, g_492, g_493, g_494, g_495, g_496, g_497, g_498, g_499, g_500, g_501, g_562, g_563, g_564, g_565, g_566, g_567, g_568, g_574, g_580, g_581, g_582, g_583, g_584, g_585, g_586, g_587, g_588, g_589, g_590, g_591, g_592, g_600, g_601, g_602, g_603, g_604, g_605, g_606, g_607, g_608, g_609, g_610, g_611, g_612, g_613, g_614, g_615, g_616, g_617, g_618, g_619, g_620, g_621, g_622, g_623, g_624, g_625, g_626, g_627, g_628, g_629, g_630, g_631, g_632, g_633, g_634, g_635, g_636, g_637, g_638, g_639, g_640, g_641, g_642, g_643, g_644, g_645, g_646, g_647, g_648, g_649, g_650, g_651, g_652, g_653, g_654, g_655, g_656, g_657, g_658, g_659, g_660, g_661, g_662, g_0_0, g_0_1, g_0_2, g_0_3, g_0_4, g_0_5, g_0_6, g_0_7, g_0_8, g_0_9, g_0_10, g_0_11, g_1_0, g_3_0, g_327_0, g_327_1, g_327_2, g_327_3, g_328_0, g_330_0, g_332_0, g_334_0, g_336_0, g_336_1, g_336_2, g_336_3, g_337_0, g_339_0, g_341_0, g_464_0, g_464_1, g_484_0, g_484_1, g_484_2, g_485_0, g_487_0, g_489_0, g_491_0, g_491_1, g_491_2, g_491_3, g_491_4, g_491_5, g_491_6, g_491_7, g_496_0, g_498_0, g_500_0, g_500_1, g_500_3, g_500_4, g_500_5, g_500_6, g_500_7, g_562_0, g_564_0, g_566_0, g_580_0, g_580_1, g_580_2, g_580_3, g_581_0, g_583_0, g_585_0, g_588_1, g_588_2, g_588_3, g_588_4, g_588_6, g_601_0, g_601_1, g_601_2, g_601_3, g_601_4, g_601_5, g_601_6, g_601_7, g_601_8, g_608_0, g_610_0, g_612_0, g_612_2, g_612_4, g_612_5, g_612_7, g_612_8, g_612_9, g_612_10, g_612_11, g_612_12, g_612_13, g_612_14, g_612_15, g_612_16, g_612_19, g_612_20, g_612_22, g_612_24, g_612_25, g_612_26, g_612_27, g_612_28, g_612_30, g_612_31, g_612_32, g_612_33, g_612_34, g_612_36, g_612_37, g_612_38, g_612_39, g_612_40, g_612_41, g_612_42, g_612_43, g_612_44, g_612_46, g_612_47, g_612_48, g_612_49, g_612_50, g_612_53, g_612_56, g_612_57, g_612_58, g_612_59, g_612_61, g_612_62, g_612_63, g_612_64]
      rw [ek, el, h1 k (by omega) (by omega)]
      have fk := hf k (by omega) (by omega)
      refine ⟨fun c => by omega, fun _ => ⟨by omega, W12_ahead fk.1 fk.2 n1 (fun w w0 w1 => by rw [hs 638 _ (by decide), hs 639 _ (by decide)]; exact hr w w0 w1) (hw _ fk.1 fk.2) ?_⟩⟩
      refine ⟨fun c => ?_, fun c => ⟨by omega, by omega, by omega, ih k _ (by omega) (by omega) (fun a x q => ?_) (fun j j0 j1 => ?_) (fun j j0 j1 => ?_) ?_⟩⟩
      · rw [zp_0] at c
        refine fin ?_
        unfold posG
        rw [if_neg c]
      · dsimp only
        rw [v2_ne _ _ _ _ q]; exact hs a x q
      · dsimp only
        rw [v2_nk _ _ _ _ (by omega)]; exact h1 j j0 (by omega)
      · dsimp only
        rw [v2_eq]
        by_cases e : j = ((k + 1 : Nat) : Int)
        · rw [if_pos ⟨rfl, e⟩, e, ek]
        · rw [if_neg (fun q => e q.2)]; exact h2 j (by omega) j1
      · rw [zp_0, Classical.not_not] at c
        rw [hp]
        show (if ahP pr wt n (f (k : Int)) then posG pr wt f n k else k + 1) = posG pr wt f n k
        rw [if_pos c]
