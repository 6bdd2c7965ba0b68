set_option maxRecDepth 100000 in
theorem W2_latest {h : Int} (τ : kzM) (Q : Int → kzM → Prop) (n0 : 0 ≤ τ.1 581 1) (n1 : τ.1 581 1 ≤ 60) (n2 : τ.1 585 1 = τ.1 581 1) (hd : ∀ k, 0 ≤ k → k < τ.1 581 1 → 0 ≤ τ.1 586 k ∧ τ.1 586 k ≤ 3000) : ∀ (n : Nat) (m j : Int), 0 ≤ j → j ≤ τ.1 581 1 → 0 ≤ m → m ≤ 3000 → τ.1 581 1 - j < (n : Int) → (∀ r, (∀ d, r ≤ d ↔ m ≤ d ∧ ∀ k, j ≤ k → k < τ.1 581 1 → τ.1 582 k = h → τ.1 586 k ≤ d) → Q r τ) → Wz (lp (fun _ _ _ _ _ => none) (Z2_latestDay_4B kdG0) n 580 h m j) τ Q := by
  intro n
  induction n with
  | zero => intro m j h0 h1; intros; omega
  | succ n ih =>
    intro m j h0 h1 h2 h3 h4 hQ
    rw [lp_succ]
    unfold Z2_latestDay_4B
    simp only [Z2_latestDay_37, Z2_latestDay, Z2_learnings, W_at r_581 (show τ.1 581 1 ≤ ((60 : Nat) : Int) by omega), W_at r_585 (show τ.1 585 1 ≤ ((60 : Nat) : Int) by omega), Z11_isKey, Z11_isTongue, Z11_isHand, Z11_isDay, W_within, zp_0, zB_zp, W_size r_1, W_isEmpty r_1, W_isFull r_1, W_has r_1, W_clear r_1, W_size r_337, W_isEmpty r_337, W_isFull r_337, W_has r_337, W_clear r_337, W_size r_339, W_isEmpty r_339, W_isFull r_339, W_has r_339, W_clear r_339, W_size r_341, W_isEmpty r_341, W_isFull r_341, W_has r_341, W_clear r_341, W_size r_485, W_isEmpty r_485, W_isFull r_485, W_has r_485, W_clear r_485, W_size r_487, W_isEmpty r_487, W_isFull r_487, W_has r_487, W_clear r_487, W_size r_489, W_isEmpty r_489, W_isFull r_489, W_has r_489, W_clear r_489, W_size r_581, W_isEmpty r_581, W_isFull r_581, W_has r_581, W_clear r_581, W_size r_583, W_isEmpty r_583, W_isFull r_583, W_has r_583, W_clear r_583, W_size r_585, W_isEmpty r_585, W_isFull r_585, W_has r_585, W_clear r_585, Wz_rt, Wz_cnd, Wz_lI, Wz_lW, Wz_lL, Wz_cl, Wz_cv, Wz_nz, Wz_gI, Wz_gR, Wz_sI, Wz_aI, Wz_aZ, Wz_aL, Wz_aN, Wz_aR, Wz_tI, Wz_tZ, Wz_tL, Option.some.injEq, exists_eq_left', zB_0, zB_1, true_and, and_true, true_implies, not_true_eq_false, false_implies, not_false_eq_true, Classical.not_not, g_0, g_1, g_2, g_336, g_337, g_338, g_339, g_340, g_341, g_342, g_343, g_464, g_465, g_466, g_484, g_485, g_486, g_487, g_488, g_489, g_490, g_580, g_581, g_582, g_583, g_584, g_585, g_586, g_587, g_0_0, g_0_1, g_0_2, g_0_3, g_0_4, g_0_5, g_0_6, g_0_7, g_0_8, g_0_9, g_0_10, g_0_11, g_1_0, g_336_0, g_336_1, g_336_2, g_336_3, g_337_0, g_339_0, g_341_0, g_464_0, g_464_1, g_484_0, g_484_1, g_484_2, g_485_0, g_487_0, g_489_0, g_580_0, g_580_1, g_580_2, g_580_3, g_581_0, g_583_0, g_585_0, addF, v2, rw1, Nat.reduceEqDiff, Nat.reduceAdd, Int.reduceEq, Int.reduceNeg, reduceIte, false_and, and_false, true_and, and_true, and_self]
    refine ⟨fun e => ?_, fun e => ?_⟩
    · exact hQ m fun d => ⟨fun q => ⟨q, fun k k0 k1 => by omega⟩, fun q => q.1⟩
    · rw [if_pos ⟨h0, by omega⟩, if_pos ⟨h0, by omega⟩]
      have e1 := hd j h0 (by omega)
      refine ⟨fun z => ?_, fun z => ⟨by omega, ih _ _ (by omega) (by omega) h2 h3 (by omega) fun r q => hQ r fun d => ?_⟩⟩
      · have hm : zmax m (τ.1 586 j) = m ∨ zmax m (τ.1 586 j) = τ.1 586 j := by unfold zmax; split <;> simp
        have hm2 : ∀ d, zmax m (τ.1 586 j) ≤ d ↔ m ≤ d ∧ τ.1 586 j ≤ d := fun d => by unfold zmax; split <;> omega
        refine ⟨by omega, by omega, ih _ _ (by omega) (by omega) (by omega) (by omega) (by omega) fun r q => hQ r fun d => ?_⟩
        rw [q d, hm2 d]
        refine ⟨fun w => ⟨w.1.1, fun k k0 k1 k2 => ?_⟩, fun w => ⟨⟨w.1, w.2 j (by omega) (by omega) z⟩, fun k k0 k1 k2 => w.2 k (by omega) k1 k2⟩⟩
        by_cases c : k = j
        · rw [c]; exact w.1.2
        · exact w.2 k (by omega) k1 k2
      · rw [q d]
        refine ⟨fun w => ⟨w.1, fun k k0 k1 k2 => ?_⟩, fun w => ⟨w.1, fun k k0 k1 k2 => w.2 k (by omega) k1 k2⟩⟩
        by_cases c : k = j
        · rw [c] at k2; exact absurd k2 z
        · exact w.2 k (by omega) k1 k2
