theorem worthS_neg {τ : kzM} (i8 : I8l τ) {h w d : Int} (h0 : h < 0) : worthS τ h w d = 0 := by
  unfold I8l at i8
  unfold worthS
  have e := wS_b (p := pW (τ.1 582) (τ.1 584) (τ.1 586) (τ.1 580 4) h w d) (m := 0) (τ.1 581 1).toNat (fun k k0 k1 => by
    have q := (i8.2.2.2.2 k k0 (by omega)).1.1.1
    unfold pW
    rw [if_neg (by omega)]
    omega)
  omega
set_option maxRecDepth 100000 in
theorem W11_gather {τ : kzM} (hI : Inv τ) {ts p h d : Int} (d0 : 0 ≤ d) (d1 : d ≤ 3000) {Q : Unit → kzM → Prop} (hQ : ∀ σ, tabG τ σ → gsI σ (gG (prC τ) (wtC τ h d) (τ.1 338) ts p (τ.1 337 1).toNat).1 (prC τ) (wtC τ h d) (gG (prC τ) (wtC τ h d) (τ.1 338) ts p (τ.1 337 1).toNat).2 → Q () σ) : Wz (Z11_gather kdG0 0 ts p h d) τ Q := by
  have i5 := hI.2.2.2.2.1
  unfold I5 at i5
  simp only [Z11_gather, Z1_clear, Z11_isKey, Z11_isTongue, Z11_isHand, Z11_isDay, W_within, zp_0, zB_zp, W_size r_1, W_isEmpty r_1, W_isFull r_1, W_has r_1, W_clear r_1, W_size r_337, W_isEmpty r_337, W_isFull r_337, W_has r_337, W_clear r_337, W_size r_339, W_isEmpty r_339, W_isFull r_339, W_has r_339, W_clear r_339, W_size r_341, W_isEmpty r_341, W_isFull r_341, W_has r_341, W_clear r_341, W_size r_485, W_isEmpty r_485, W_isFull r_485, W_has r_485, W_clear r_485, W_size r_487, W_isEmpty r_487, W_isFull r_487, W_has r_487, W_clear r_487, W_size r_489, W_isEmpty r_489, W_isFull r_489, W_has r_489, W_clear r_489, W_size r_581, W_isEmpty r_581, W_isFull r_581, W_has r_581, W_clear r_581, W_size r_583, W_isEmpty r_583, W_isFull r_583, W_has r_583, W_clear r_583, W_size r_585, W_isEmpty r_585, W_isFull r_585, W_has r_585, W_clear r_585, Wz_rt, Wz_cnd, Wz_lI, Wz_lW, Wz_lL, Wz_cl, Wz_cv, Wz_nz, Wz_gI, Wz_gR, Wz_sI, Wz_aI, Wz_aZ, Wz_aL, Wz_aN, Wz_aR, Wz_tI, Wz_tZ, Wz_tL, Option.some.injEq, exists_eq_left', zB_0, zB_1, true_and, and_true, true_implies, not_true_eq_false, false_implies, not_false_eq_true, Classical.not_not, g_0, g_1, g_2, g_336, g_337, g_338, g_339, g_340, g_341, g_342, g_343, g_464, g_465, g_466, g_484, g_485, g_486, g_487, g_488, g_489, g_490, g_580, g_581, g_582, g_583, g_584, g_585, g_586, g_587, g_0_0, g_0_1, g_0_2, g_0_3, g_0_4, g_0_5, g_0_6, g_0_7, g_0_8, g_0_9, g_0_10, g_0_11, g_1_0, g_336_0, g_336_1, g_336_2, g_336_3, g_337_0, g_339_0, g_341_0, g_464_0, g_464_1, g_484_0, g_484_1, g_484_2, g_485_0, g_487_0, g_489_0, g_580_0, g_580_1, g_580_2, g_580_3, g_581_0, g_583_0, g_585_0, addF, v2, rw1, Nat.reduceEqDiff, Nat.reduceAdd, Int.reduceEq, Int.reduceNeg, reduceIte, false_and, and_false, true_and, and_true, and_self]
  unfold Z11_gather_10
  let σ0 : kzM := (v2 (v2 (v2 τ.1 485 1 0) 487 1 0) 489 1 0, τ.2)
  have h0 : tabG τ σ0 := fun a x q => by
    show v2 (v2 (v2 τ.1 485 1 0) 487 1 0) 489 1 0 a x = _
    rw [v2_ne _ _ _ _ (by omega), v2_ne _ _ _ _ (by omega), v2_ne _ _ _ _ (by omega)]
  exact W11_gather_10 hI d0 d1 Q hQ NN 0 σ0 (Nat.zero_le _) (by unfold NN; omega) h0 ⟨rfl, rfl, rfl, fun k k0 k1 => by have : k < 0 := k1; omega⟩
theorem gG_cg {pr wt tg pr' wt' tg' : Int → Int} {ts p W : Int} (hp : ∀ w, 0 ≤ w → w < W → pr w = pr' w) (hw : ∀ w, 0 ≤ w → w < W → wt w = wt' w) (ht : ∀ w, 0 ≤ w → w < W → tg w = tg' w) : ∀ n : Nat, (n : Int) ≤ W → gG pr wt tg ts p n = gG pr' wt' tg' ts p n
  | 0, _ => rfl
  | n + 1, h => by
    have ih := gG_cg (ts := ts) (p := p) hp hw ht n (by omega)
    have gb := gG_b (pr := pr') (wt := wt') (tg := tg') (ts := ts) (p := p) n
    have ps : ∀ k, k ≤ (gG pr' wt' tg' ts p n).2 → posG pr wt (gG pr' wt' tg' ts p n).1 n k = posG pr' wt' (gG pr' wt' tg' ts p n).1 n k := by
      intro k
      induction k with
      | zero => intro _; rfl
      | succ k ik =>
        intro hk
        have b := gb.2 k (by omega) (by omega)
        have e1 : ahP pr wt n ((gG pr' wt' tg' ts p n).1 k) = ahP pr' wt' n ((gG pr' wt' tg' ts p n).1 k) := by
          unfold ahP
          rw [hp n (by omega) (by omega), hp _ b.1 (by omega), hw n (by omega) (by omega), hw _ b.1 (by omega)]
        unfold posG
        simp only [e1, ik (by omega)]
    have e2 : okG pr tg ts p n = okG pr' tg' ts p n := by
      unfold okG
      rw [hp n (by omega) (by omega), ht n (by omega) (by omega)]
    unfold gG
    rw [ih]
    simp only [e2, ps _ (Nat.le_refl _)]
def ansG (g : (Int → Int) × Nat) (i : Int) : Int := if i = -1 then g.2 else if 0 ≤ i ∧ i < (g.2 : Int) then g.1 i else -6
set_option maxRecDepth 100000 in
theorem W1_guessAt {τ : kzM} {f pr wt : Int → Int} {m : Nat} (hg : gsI τ f pr wt m) (hm : m ≤ 60) {i : Int} {Q : Int → kzM → Prop} (hQ : Q (ansG (f, m) i) τ) : Wz (Z1_guessAt kdG0 484 i) τ Q := by
  obtain ⟨h1, h2, h3, h4⟩ := hg
  simp only [Z1_guessAt, Z1_guessAt_37, Z11_isKey, Z11_isTongue, Z11_isHand, Z11_isDay, W_within, zp_0, zB_zp, W_size r_1, W_isEmpty r_1, W_isFull r_1, W_has r_1, W_clear r_1, W_size r_337, W_isEmpty r_337, W_isFull r_337, W_has r_337, W_clear r_337, W_size r_339, W_isEmpty r_339, W_isFull r_339, W_has r_339, W_clear r_339, W_size r_341, W_isEmpty r_341, W_isFull r_341, W_has r_341, W_clear r_341, W_size r_485, W_isEmpty r_485, W_isFull r_485, W_has r_485, W_clear r_485, W_size r_487, W_isEmpty r_487, W_isFull r_487, W_has r_487, W_clear r_487, W_size r_489, W_isEmpty r_489, W_isFull r_489, W_has r_489, W_clear r_489, W_size r_581, W_isEmpty r_581, W_isFull r_581, W_has r_581, W_clear r_581, W_size r_583, W_isEmpty r_583, W_isFull r_583, W_has r_583, W_clear r_583, W_size r_585, W_isEmpty r_585, W_isFull r_585, W_has r_585, W_clear r_585, Wz_rt, Wz_cnd, Wz_lI, Wz_lW, Wz_lL, Wz_cl, Wz_cv, Wz_nz, Wz_gI, Wz_gR, Wz_sI, Wz_aI, Wz_aZ, Wz_aL, Wz_aN, Wz_aR, Wz_tI, Wz_tZ, Wz_tL, Option.some.injEq, exists_eq_left', zB_0, zB_1, true_and, and_true, true_implies, not_true_eq_false, false_implies, not_false_eq_true, Classical.not_not, g_0, g_1, g_2, g_336, g_337, g_338, g_339, g_340, g_341, g_342, g_343, g_464, g_465, g_466, g_484, g_485, g_486, g_487, g_488, g_489, g_490, g_580, g_581, g_582, g_583, g_584, g_585, g_586, g_587, g_0_0, g_0_1, g_0_2, g_0_3, g_0_4, g_0_5, g_0_6, g_0_7, g_0_8, g_0_9, g_0_10, g_0_11, g_1_0, g_336_0, g_336_1, g_336_2, g_336_3, g_337_0, g_339_0, g_341_0, g_464_0, g_464_1, g_484_0, g_484_1, g_484_2, g_485_0, g_487_0, g_489_0, g_580_0, g_580_1, g_580_2, g_580_3, g_581_0, g_583_0, g_585_0, addF, v2, rw1, Nat.reduceEqDiff, Nat.reduceAdd, Int.reduceEq, Int.reduceNeg, reduceIte, false_and, and_false, true_and, and_true, and_self, W_at r_485 (show τ.1 485 1 ≤ 60 by omega)]
  unfold ansG at hQ
  refine ⟨fun c => ?_, fun c => ⟨fun e => ?_, fun e => ?_⟩⟩
  · rw [if_pos c] at hQ; rw [h1]; exact hQ
  · rw [if_neg c, if_neg (by dsimp only; omega)] at hQ; exact hQ
  · rw [if_neg c, if_pos (by dsimp only; omega)] at hQ
    rw [if_pos (by omega), (h4 i (by omega) (by omega)).1]; exact hQ
set_option maxRecDepth 100000 in
theorem W12_guessEnd {τ σ : kzM} (hI : Inv τ) (h : tabG τ σ) {ts p g d : Int} {m : Nat} (hm : m = (τ.1 337 1).toNat) : gG (prC σ) (wtC σ g d) (σ.1 338) ts p m = gG (prC τ) (wtC τ g d) (τ.1 338) ts p m := by
  have i5 := hI.2.2.2.2.1
  unfold I5 at i5
  refine gG_cg (W := τ.1 337 1) (fun w w0 w1 => prC_to (fun a x q => h a x (by omega)) w0 (by omega)) (fun w w0 w1 => ?_) (fun w w0 w1 => h _ _ (by decide)) m (by omega)
  unfold wtC
  rw [worthS_to (fun a x a0 a1 => h a x (by omega)), h 342 _ (by decide)]
