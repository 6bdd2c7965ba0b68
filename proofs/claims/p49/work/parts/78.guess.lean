abbrev ahP (pr wt : Int → Int) (n v : Int) : Prop := pr n < pr v ∨ (pr n = pr v ∧ wt v < wt n)
def posG (pr wt f : Int → Int) (n : Int) : Nat → Nat
  | 0 => 0
  | k + 1 => if ahP pr wt n (f (k : Int)) then posG pr wt f n k else k + 1
theorem posG_le {pr wt f : Int → Int} {n : Int} : ∀ k, posG pr wt f n k ≤ k
  | 0 => Nat.le_refl _
  | k + 1 => by
    have := posG_le (pr := pr) (wt := wt) (f := f) (n := n) k
    unfold posG
    split <;> omega
abbrev okG (pr tg : Int → Int) (ts p n : Int) : Prop := zand (zshr ts (tg n)) 1 = 1 ∧ ¬p < pr n
def gG (pr wt tg : Int → Int) (ts p : Int) : Nat → (Int → Int) × Nat
  | 0 => (fun _ => 0, 0)
  | n + 1 => if okG pr tg ts p n then (insF (gG pr wt tg ts p n).1 (posG pr wt (gG pr wt tg ts p n).1 n (gG pr wt tg ts p n).2) n (gG pr wt tg ts p n).2, (gG pr wt tg ts p n).2 + 1) else gG pr wt tg ts p n
theorem insF_b {f : Int → Int} {i v j l u : Int} (h : ∀ k, 0 ≤ k → k < j → l ≤ f k ∧ f k < u) (i0 : 0 ≤ i) (hv : l ≤ v ∧ v < u) (k : Int) (k0 : 0 ≤ k) (k1 : k < j + 1) (ij : i ≤ j) : l ≤ insF f i v j k ∧ insF f i v j k < u := by
  unfold insF
  by_cases a : k = i
  · rw [if_pos a]; exact hv
  · rw [if_neg a]
    by_cases b : i < k ∧ k ≤ j
    · rw [if_pos b]; exact h _ (by omega) (by omega)
    · rw [if_neg b]; exact h _ k0 (by omega)
theorem gG_b {pr wt tg : Int → Int} {ts p : Int} : ∀ n : Nat, (gG pr wt tg ts p n).2 ≤ n ∧ ∀ k, 0 ≤ k → k < ((gG pr wt tg ts p n).2 : Int) → 0 ≤ (gG pr wt tg ts p n).1 k ∧ (gG pr wt tg ts p n).1 k < n
  | 0 => ⟨Nat.le_refl _, fun k k0 k1 => by have : k < 0 := k1; omega⟩
  | n + 1 => by
    have ih := gG_b (pr := pr) (wt := wt) (tg := tg) (ts := ts) (p := p) n
    unfold gG
    by_cases c : okG pr tg ts p n
    · rw [if_pos c]
      refine ⟨by dsimp only; omega, fun k k0 k1 => ?_⟩
      dsimp only at k1 ⊢
      have pl := posG_le (pr := pr) (wt := wt) (f := (gG pr wt tg ts p n).1) (n := n) (gG pr wt tg ts p n).2
      exact insF_b (fun k k0 k1 => ⟨(ih.2 k k0 k1).1, by have := (ih.2 k k0 k1).2; omega⟩) (by omega) ⟨by omega, by omega⟩ k k0 (by omega) (by omega)
    · rw [if_neg c]
      exact ⟨by omega, fun k k0 k1 => ⟨(ih.2 k k0 k1).1, by have := (ih.2 k k0 k1).2; omega⟩⟩
def gsI (τ : kzM) (f pr wt : Int → Int) (m : Nat) : Prop := τ.1 485 1 = m ∧ τ.1 487 1 = m ∧ τ.1 489 1 = m ∧ ∀ k, 0 ≤ k → k < (m : Int) → τ.1 486 k = f k ∧ τ.1 488 k = pr (f k) ∧ τ.1 490 k = wt (f k)
def tabG (τ σ : kzM) : Prop := ∀ a x, ¬(467 ≤ a ∧ a ≤ 490) → σ.1 a x = τ.1 a x
set_option maxRecDepth 100000 in
theorem Inv.tabG {τ σ : kzM} (h : tabG τ σ) (hI : Inv τ) : Inv σ := hI.cg fun a j z => h a j (by unfold Rv at z; omega)
set_option maxRecDepth 100000 in
theorem W1_ahead {τ : kzM} {f pr wt : Int → Int} {m : Nat} (hg : gsI τ f pr wt m) (hm : m ≤ 60) {n i : Int} (i0 : 0 ≤ i) (i1 : i < m) {Q : Int → kzM → Prop} (hQ : Q (zp (ahP pr wt n (f i))) τ) : Wz (Z1_goesAhead kdG0 484 (pr n) (wt n) i) τ Q := by
  obtain ⟨h1, h2, h3, h4⟩ := hg
  have e := h4 i i0 i1
  simp only [Z1_goesAhead, Z1_goesAhead_41, Z1_goesAhead_36, Z1_goesAhead_40, Wz_rt, Wz_cnd, Wz_lI, Wz_lW, Wz_lL, Wz_cl, Wz_cv, Wz_nz, Wz_gI, Wz_gR, Wz_sI, Wz_aI, Wz_aZ, Wz_aL, Wz_aN, Wz_aR, Wz_tI, Wz_tZ, Wz_tL, Option.some.injEq, exists_eq_left', zB_0, zB_1, true_and, and_true, true_implies, not_true_eq_false, false_implies, not_false_eq_true, Classical.not_not, g_0, g_1, g_2, g_336, g_337, g_338, g_339, g_340, g_341, g_342, g_343, g_464, g_465, g_466, g_484, g_485, g_486, g_487, g_488, g_489, g_490, g_580, g_581, g_582, g_583, g_584, g_585, g_586, g_587, g_0_0, g_0_1, g_0_2, g_0_3, g_0_4, g_0_5, g_0_6, g_0_7, g_0_8, g_0_9, g_0_10, g_0_11, g_1_0, g_336_0, g_336_1, g_336_2, g_336_3, g_337_0, g_339_0, g_341_0, g_464_0, g_464_1, g_484_0, g_484_1, g_484_2, g_485_0, g_487_0, g_489_0, g_580_0, g_580_1, g_580_2, g_580_3, g_581_0, g_583_0, g_585_0, W_at r_487 (show τ.1 487 1 ≤ 60 by omega), W_at r_489 (show τ.1 489 1 ≤ 60 by omega), if_pos (show 0 ≤ i ∧ i < τ.1 487 1 by omega), if_pos (show 0 ≤ i ∧ i < τ.1 489 1 by omega), e.2.1, e.2.2]
  by_cases c : ahP pr wt n (f i)
  · rw [zp_pos c] at hQ
    unfold ahP at c
    refine ⟨fun _ => hQ, fun a => ⟨fun b => ⟨fun d => by omega, fun _ => hQ⟩, fun b => by omega⟩⟩
  · rw [zp_neg c] at hQ
    unfold ahP at c
    refine ⟨fun b => by omega, fun a => ⟨fun b => ⟨fun _ => hQ, fun d => by omega⟩, fun b => hQ⟩⟩
set_option maxRecDepth 100000 in
theorem W1_ins_9 {τ : kzM} {f pr wt : Int → Int} {m : Nat} (hg : gsI τ f pr wt m) (hm : m ≤ 60) {n : Int} {Q : Unit → kzM → Prop} : ∀ (N : Nat) (k : Nat), k ≤ m → k < N → Wz (Z1_insert_33 kdG0 484 n (pr n) (wt n) (posG pr wt f n k : Nat)) τ Q → Wz (lp (fun _ _ _ _ _ _ => none) (Z1_insert_9B kdG0) N 484 n (pr n) (wt n) (k : Int)) τ Q := by
  intro N
  induction N with
  | zero => intro k; intros; omega
  | succ N ih =>
    intro k k1 k2 hQ
    rw [lp_succ]
    generalize lp (fun _ _ _ _ _ _ => none) (Z1_insert_9B kdG0) N = L at ih ⊢
    unfold Z1_insert_9B
    cases k with
    | zero =>
      simp only [Wz_rt, Wz_cnd, Wz_lI, Wz_lW, Wz_lL, Wz_cl, Wz_cv, Wz_nz, Wz_gI, Wz_gR, Wz_sI, Wz_aI, Wz_aZ, Wz_aL, Wz_aN, Wz_aR, Wz_tI, Wz_tZ, Wz_tL, Option.some.injEq, exists_eq_left', zB_0, zB_1, true_and, and_true, true_implies, not_true_eq_false, false_implies, not_false_eq_true, Classical.not_not]
      exact ⟨fun _ => hQ, fun c => absurd (by decide) c⟩
    | succ k =>
      simp only [Wz_rt, Wz_cnd, Wz_lI, Wz_lW, Wz_lL, Wz_cl, Wz_cv, Wz_nz, Wz_gI, Wz_gR, Wz_sI, Wz_aI, Wz_aZ, Wz_aL, Wz_aN, Wz_aR, Wz_tI, Wz_tZ, Wz_tL, Option.some.injEq, exists_eq_left', zB_0, zB_1, true_and, and_true, true_implies, not_true_eq_false, false_implies, not_false_eq_true, Classical.not_not, g_0, g_1, g_2, g_336, g_337, g_338, g_339, g_340, g_341, g_342, g_343, g_464, g_465, g_466, g_484, g_485, g_486, g_487, g_488, g_489, g_490, g_580, g_581, g_582, g_583, g_584, g_585, g_586, g_587, g_0_0, g_0_1, g_0_2, g_0_3, g_0_4, g_0_5, g_0_6, g_0_7, g_0_8, g_0_9, g_0_10, g_0_11, g_1_0, g_336_0, g_336_1, g_336_2, g_336_3, g_337_0, g_339_0, g_341_0, g_464_0, g_464_1, g_484_0, g_484_1, g_484_2, g_485_0, g_487_0, g_489_0, g_580_0, g_580_1, g_580_2, g_580_3, g_581_0, g_583_0, g_585_0]
      have ek : ((k + 1 : Nat) : Int) - 1 = (k : Int) := by omega
      have el : ((k + 1 : Nat) : Int) + -1 = (k : Int) := by omega
      rw [ek, el]
      refine ⟨fun c => by omega, fun _ => ⟨by omega, W1_ahead hg hm (by omega) (by omega) ?_⟩⟩
      unfold posG at hQ
      refine ⟨fun c => ?_, fun c => ⟨by omega, ih k (by omega) (by omega) ?_⟩⟩
      · rw [zp_0] at c
        rw [if_neg c] at hQ
        exact hQ
      · rw [zp_0, Classical.not_not] at c
        rw [if_pos c] at hQ
        exact hQ
set_option maxRecDepth 100000 in
theorem W1_insert {τ : kzM} {f pr wt : Int → Int} {m : Nat} (hg : gsI τ f pr wt m) (hm : m < 60) {n : Int} {Q : Unit → kzM → Prop} (hQ : ∀ σ, tabG τ σ → gsI σ (insF f (posG pr wt f n m) n m) pr wt (m + 1) → Q () σ) : Wz (Z1_insert kdG0 484 n (pr n) (wt n)) τ Q := by
  have pl := posG_le (pr := pr) (wt := wt) (f := f) (n := n) m
  simp only [Z1_insert, W_size r_485, Wz_rt, Wz_cnd, Wz_lI, Wz_lW, Wz_lL, Wz_cl, Wz_cv, Wz_nz, Wz_gI, Wz_gR, Wz_sI, Wz_aI, Wz_aZ, Wz_aL, Wz_aN, Wz_aR, Wz_tI, Wz_tZ, Wz_tL, Option.some.injEq, exists_eq_left', zB_0, zB_1, true_and, and_true, true_implies, not_true_eq_false, false_implies, not_false_eq_true, Classical.not_not, g_0, g_1, g_2, g_336, g_337, g_338, g_339, g_340, g_341, g_342, g_343, g_464, g_465, g_466, g_484, g_485, g_486, g_487, g_488, g_489, g_490, g_580, g_581, g_582, g_583, g_584, g_585, g_586, g_587, g_0_0, g_0_1, g_0_2, g_0_3, g_0_4, g_0_5, g_0_6, g_0_7, g_0_8, g_0_9, g_0_10, g_0_11, g_1_0, g_336_0, g_336_1, g_336_2, g_336_3, g_337_0, g_339_0, g_341_0, g_464_0, g_464_1, g_484_0, g_484_1, g_484_2, g_485_0, g_487_0, g_489_0, g_580_0, g_580_1, g_580_2, g_580_3, g_581_0, g_583_0, g_585_0, hg.1]
  unfold Z1_insert_9
  refine W1_ins_9 hg (by omega) NN m (Nat.le_refl _) (by unfold NN; omega) ?_
  generalize posG pr wt f n m = s at pl hQ ⊢
  obtain ⟨h1, h2, h3, h4⟩ := hg
  simp only [Z1_insert_33, Wz_rt, Wz_cnd, Wz_lI, Wz_lW, Wz_lL, Wz_cl, Wz_cv, Wz_nz, Wz_gI, Wz_gR, Wz_sI, Wz_aI, Wz_aZ, Wz_aL, Wz_aN, Wz_aR, Wz_tI, Wz_tZ, Wz_tL, Option.some.injEq, exists_eq_left', zB_0, zB_1, true_and, and_true, true_implies, not_true_eq_false, false_implies, not_false_eq_true, Classical.not_not, g_0, g_1, g_2, g_336, g_337, g_338, g_339, g_340, g_341, g_342, g_343, g_464, g_465, g_466, g_484, g_485, g_486, g_487, g_488, g_489, g_490, g_580, g_581, g_582, g_583, g_584, g_585, g_586, g_587, g_0_0, g_0_1, g_0_2, g_0_3, g_0_4, g_0_5, g_0_6, g_0_7, g_0_8, g_0_9, g_0_10, g_0_11, g_1_0, g_336_0, g_336_1, g_336_2, g_336_3, g_337_0, g_339_0, g_341_0, g_464_0, g_464_1, g_484_0, g_484_1, g_484_2, g_485_0, g_487_0, g_489_0, g_580_0, g_580_1, g_580_2, g_580_3, g_581_0, g_583_0, g_585_0]
  refine W_insert r_485 (by omega) (by omega) (by omega) (by omega) ?_
  refine W_insert r_487 (by omega) (by simp only [addF, v2, rw1, Nat.reduceEqDiff, Nat.reduceAdd, Int.reduceEq, Int.reduceNeg, reduceIte, false_and, and_false, true_and, and_true, and_self]; omega) (by simp only [addF, v2, rw1, Nat.reduceEqDiff, Nat.reduceAdd, Int.reduceEq, Int.reduceNeg, reduceIte, false_and, and_false, true_and, and_true, and_self]; omega) (by omega) ?_
  refine W_insert r_489 (by omega) (by simp only [addF, v2, rw1, Nat.reduceEqDiff, Nat.reduceAdd, Int.reduceEq, Int.reduceNeg, reduceIte, false_and, and_false, true_and, and_true, and_self]; omega) (by simp only [addF, v2, rw1, Nat.reduceEqDiff, Nat.reduceAdd, Int.reduceEq, Int.reduceNeg, reduceIte, false_and, and_false, true_and, and_true, and_self]; omega) (by omega) ?_
  refine hQ _ (fun a x h => ?_) ?_
  · dsimp only
    rw [v2_ne _ _ _ _ (by omega), rw1_eq, if_neg (by omega), v2_ne _ _ _ _ (by omega), rw1_eq, if_neg (by omega), v2_ne _ _ _ _ (by omega), rw1_eq, if_neg (by omega)]
  · unfold gsI
    simp only [addF, v2, rw1, Nat.reduceEqDiff, Nat.reduceAdd, Int.reduceEq, Int.reduceNeg, reduceIte, false_and, and_false, true_and, and_true, and_self, h1, h2, h3]
    refine ⟨by omega, by omega, by omega, fun k k0 k1 => ?_⟩
    unfold insF
    by_cases c : k = s
    · simp only [c, if_true]; exact ⟨trivial, trivial, trivial⟩
    · simp only [c, if_false]
      by_cases d : (s : Int) < k ∧ k ≤ m
      · simp only [d, if_true, and_self]
        exact h4 (k - 1) (by omega) (by omega)
      · simp only [d, if_false]
        exact h4 k k0 (by omega)
set_option maxRecDepth 100000 in
theorem W11_hasBit {b i : Int} {τ : kzM} {Q : Int → kzM → Prop} : Wz (Z11_hasBit kdG0 b i) τ Q ↔ Q (zp (zand (zshr b i) 1 = 1)) τ := by
  simp only [Z11_hasBit, Z11_hasBit_14, Wz_rt, Wz_cnd, Wz_lI, Wz_lW, Wz_lL, Wz_cl, Wz_cv, Wz_nz, Wz_gI, Wz_gR, Wz_sI, Wz_aI, Wz_aZ, Wz_aL, Wz_aN, Wz_aR, Wz_tI, Wz_tZ, Wz_tL, Option.some.injEq, exists_eq_left', zB_0, zB_1, true_and, and_true, true_implies, not_true_eq_false, false_implies, not_false_eq_true, Classical.not_not]
  by_cases e : zand (zshr b i) 1 = 1
  · rw [zp_pos e]; simp [e]
  · rw [zp_neg e]; simp [e]
def prC (τ : kzM) (w : Int) : Int := eC τ (344 + 2 * w.toNat) 0 (τ.1 1 1) (τ.1 (344 + 2 * w.toNat) 1)
def wtC (τ : kzM) (h d w : Int) : Int := 1000 * τ.1 342 w + worthS τ h w d
theorem prC_to {τ σ : kzM} (h : ∀ a x, a < 467 → σ.1 a x = τ.1 a x) {w : Int} (w0 : 0 ≤ w) (w1 : w < 60) : prC σ w = prC τ w := by
  unfold prC eC sK
  rw [h (344 + 2 * w.toNat) 1 (by omega), h 1 1 (by decide)]
  have r1 : σ.1 2 = τ.1 2 := funext fun k => h _ _ (by decide)
  have r2 : σ.1 (344 + 2 * w.toNat + 1) = τ.1 (344 + 2 * w.toNat + 1) := funext fun k => h _ _ (by omega)
  have r3 : σ.1 465 = τ.1 465 := funext fun k => h _ _ (by decide)
  rw [r1, r2, r3]
theorem worthS_to {τ σ : kzM} (h : ∀ a x, 580 ≤ a → a ≤ 586 → σ.1 a x = τ.1 a x) {g w d : Int} : worthS σ g w d = worthS τ g w d := by
  unfold worthS
  rw [h 580 4 (by decide) (by decide), h 581 1 (by decide) (by decide)]
  have r1 : σ.1 582 = τ.1 582 := funext fun k => h _ _ (by decide) (by decide)
  have r2 : σ.1 584 = τ.1 584 := funext fun k => h _ _ (by decide) (by decide)
  have r3 : σ.1 586 = τ.1 586 := funext fun k => h _ _ (by decide) (by decide)
  rw [r1, r2, r3]
theorem gsI_c {τ σ : kzM} {f pr wt : Int → Int} {m : Nat} (h : tabC τ σ) (q : gsI τ f pr wt m) : gsI σ f pr wt m := by
  unfold gsI at q ⊢
  rw [h 485 1 (by decide), h 487 1 (by decide), h 489 1 (by decide)]
  exact ⟨q.1, q.2.1, q.2.2.1, fun k k0 k1 => by rw [h 486 k (by decide), h 488 k (by decide), h 490 k (by decide)]; exact q.2.2.2 k k0 k1⟩
set_option maxRecDepth 100000 in
theorem W11_gather_10 {τ : kzM} (hI : Inv τ) {ts p h d : Int} (d0 : 0 ≤ d) (d1 : d ≤ 3000) (Q : Unit → kzM → Prop) (hQ : ∀ σ, tabG τ σ → gsI σ (gG (prC τ) (wtC τ h d) (τ.1 338) ts p (τ.1 337 1).toNat).1 (prC τ) (wtC τ h d) (gG (prC τ) (wtC τ h d) (τ.1 338) ts p (τ.1 337 1).toNat).2 → Q () σ) : ∀ (N n : Nat) (σ : kzM), n ≤ (τ.1 337 1).toNat → (τ.1 337 1).toNat - n < N → tabG τ σ → gsI σ (gG (prC τ) (wtC τ h d) (τ.1 338) ts p n).1 (prC τ) (wtC τ h d) (gG (prC τ) (wtC τ h d) (τ.1 338) ts p n).2 → Wz (lp (fun _ _ _ _ _ _ _ => none) (Z11_gather_10B kdG0) N 0 ts p h d (n : Int)) σ Q := by
  have i5 := hI.2.2.2.2.1
  have i8 := hI.2.2.2.2.2.2.2.1.1
  have i11 := hI.2.2.2.2.2.2.2.1.2
  unfold I5 at i5
  have wl := i5.1
  intro N
  induction N with
  | zero => intro n; intros; omega
  | succ N ih =>
    intro n σ n1 n2 hs hg
    rw [lp_succ]
    generalize lp (fun _ _ _ _ _ _ _ => none) (Z11_gather_10B kdG0) N = L at ih ⊢
    unfold Z11_gather_10B
    have s337 : σ.1 337 1 = τ.1 337 1 := hs _ _ (by decide)
    have s341 : σ.1 341 1 = τ.1 337 1 := by rw [hs _ _ (by decide)]; exact i5.2.2.1
    simp only [Z11_gather_103, W10_size, W10_tongueOf (show σ.1 337 1 ≤ 60 by omega), W11_hasBit, Wz_rt, Wz_cnd, Wz_lI, Wz_lW, Wz_lL, Wz_cl, Wz_cv, Wz_nz, Wz_gI, Wz_gR, Wz_sI, Wz_aI, Wz_aZ, Wz_aL, Wz_aN, Wz_aR, Wz_tI, Wz_tZ, Wz_tL, Option.some.injEq, exists_eq_left', zB_0, zB_1, true_and, and_true, true_implies, not_true_eq_false, false_implies, not_false_eq_true, Classical.not_not, g_0, g_1, g_2, g_336, g_337, g_338, g_339, g_340, g_341, g_342, g_343, g_464, g_465, g_466, g_484, g_485, g_486, g_487, g_488, g_489, g_490, g_580, g_581, g_582, g_583, g_584, g_585, g_586, g_587, g_0_0, g_0_1, g_0_2, g_0_3, g_0_4, g_0_5, g_0_6, g_0_7, g_0_8, g_0_9, g_0_10, g_0_11, g_1_0, g_336_0, g_336_1, g_336_2, g_336_3, g_337_0, g_339_0, g_341_0, g_464_0, g_464_1, g_484_0, g_484_1, g_484_2, g_485_0, g_487_0, g_489_0, g_580_0, g_580_1, g_580_2, g_580_3, g_581_0, g_583_0, g_585_0, zp_0]
    by_cases e : τ.1 337 1 ≤ n
    · refine ⟨fun _ => ?_, fun c => by omega⟩
      have en : n = (τ.1 337 1).toNat := by omega
      rw [en] at hg
      exact hQ σ hs hg
    · have hI' : Inv σ := hI.tabG hs
      have gb := gG_b (pr := prC τ) (wt := wtC τ h d) (tg := τ.1 338) (ts := ts) (p := p) n
      have eg : gG (prC τ) (wtC τ h d) (τ.1 338) ts p (n + 1) = if okG (prC τ) (τ.1 338) ts p n then (insF (gG (prC τ) (wtC τ h d) (τ.1 338) ts p n).1 (posG (prC τ) (wtC τ h d) (gG (prC τ) (wtC τ h d) (τ.1 338) ts p n).1 n (gG (prC τ) (wtC τ h d) (τ.1 338) ts p n).2) n (gG (prC τ) (wtC τ h d) (τ.1 338) ts p n).2, (gG (prC τ) (wtC τ h d) (τ.1 338) ts p n).2 + 1) else gG (prC τ) (wtC τ h d) (τ.1 338) ts p n := rfl
      have ih' := fun σ' => ih (n + 1) σ' (by omega) (by omega)
      rw [eg] at ih'
      rw [show ((n + 1 : Nat) : Int) = (n : Int) + 1 by omega] at ih'
      refine ⟨fun c => by omega, fun _ => ?_⟩
      rw [if_pos (show 0 ≤ (n : Int) ∧ (n : Int) < σ.1 337 1 by omega), hs 338 _ (by decide)]
      refine ⟨fun c => ⟨by omega, ?_⟩, fun c => ?_⟩
      · rw [if_neg (fun q => c q.1)] at ih'
        exact ih' σ hs hg
      · simp only [W10_keysOf (show 0 ≤ (n : Int) by omega) (show (n : Int) < 60 by omega)]
        obtain ⟨g1, g2⟩ := g_wd (i := n) (by omega) (by omega)
        obtain ⟨h1, h2⟩ := hI'.sl
        obtain ⟨h3, h4, h5⟩ := hI'.wd (w := n) (by omega) (by omega)
        refine W7_price g2 (by omega) h1 h3 ?_
        intro ρ hr
        have hsr : tabG τ ρ := fun a x q => by rw [hr a x (by omega)]; exact hs a x q
        have hgr := gsI_c hr hg
        have ep : eC σ (344 + 2 * (n : Int).toNat) 0 (σ.1 1 1) (σ.1 (344 + 2 * (n : Int).toNat) 1) = prC τ n := prC_to (fun a x q => hs a x (by omega)) (by omega) (by omega)
        rw [ep]
        refine ⟨fun z => ⟨by omega, ?_⟩, fun z => ?_⟩
        · rw [if_neg (fun q => q.2 z)] at ih'
          exact ih' ρ hsr hgr
        · rw [if_pos ⟨c, z⟩] at ih'
          have r341 : ρ.1 341 1 = τ.1 337 1 := by rw [hsr _ _ (by decide)]; exact i5.2.2.1
          have hIr : Inv ρ := hI.tabG hsr
          simp only [W10_countOf (show ρ.1 341 1 ≤ 60 by omega)]
          rw [if_pos (show 0 ≤ (n : Int) ∧ (n : Int) < ρ.1 341 1 by omega), hsr 342 _ (by decide)]
          refine W2_worth hIr.2.2.2.2.2.2.2.1.1 hIr.2.2.2.2.2.2.2.1.2.1.1 d0 d1 ?_
          rw [worthS_to (fun a x a0 a1 => hsr a x (by omega))]
          have wb := worthS_b (h := h) (w := n) (d := d) i8 i11
          have cb := (i5.2.2.2.2 n (by omega) (by omega)).2.2.1.1
          refine ⟨by omega, W1_insert (wt := wtC τ h d) hgr (by omega) ?_⟩
          intro σ' h' g'
          refine ⟨by omega, ih' σ' (fun a x q => by rw [h' a x q]; exact hsr a x q) g'⟩
