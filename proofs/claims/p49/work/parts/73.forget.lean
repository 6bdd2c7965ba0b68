def ckF (fh fw : Int → Int) (h w : Int) : Nat → Int
  | 0 => 0
  | n + 1 => if fh n = h ∧ (w = -1 ∨ fw n = w) then ckF fh fw h w n else ckF fh fw h w n + 1
theorem ckF_1 {fh fw : Int → Int} {h w : Int} (n : Nat) : ckF fh fw h w (n + 1) = if fh n = h ∧ (w = -1 ∨ fw n = w) then ckF fh fw h w n else ckF fh fw h w n + 1 := rfl
theorem ckF_b {fh fw : Int → Int} {h w : Int} : ∀ n : Nat, 0 ≤ ckF fh fw h w n ∧ ckF fh fw h w n ≤ n
  | 0 => ⟨Int.le_refl _, Int.le_refl _⟩
  | n + 1 => by have := ckF_b (fh := fh) (fw := fw) (h := h) (w := w) n; unfold ckF; split <;> omega
theorem ckF_m {fh fw : Int → Int} {h w : Int} (k : Nat) : ∀ d : Nat, ckF fh fw h w k ≤ ckF fh fw h w (k + d) ∧ ckF fh fw h w (k + d) ≤ ckF fh fw h w k + d
  | 0 => ⟨Int.le_refl _, by simp⟩
  | d + 1 => by
    have := ckF_m (fh := fh) (fw := fw) (h := h) (w := w) k d
    rw [show k + (d + 1) = (k + d) + 1 by omega, ckF_1]
    split <;> omega
theorem ckF_s {fh fw : Int → Int} {h w : Int} : ∀ (n : Nat) (x : Int), 0 ≤ x → x < ckF fh fw h w n → ∃ k : Nat, k < n ∧ ¬(fh k = h ∧ (w = -1 ∨ fw k = w)) ∧ ckF fh fw h w k = x
  | 0, x, h0, h1 => by unfold ckF at h1; omega
  | n + 1, x, h0, h1 => by
    unfold ckF at h1
    by_cases c : fh n = h ∧ (w = -1 ∨ fw n = w)
    · rw [if_pos c] at h1
      obtain ⟨k, k1, k2, k3⟩ := ckF_s (fh := fh) (fw := fw) (h := h) (w := w) n x h0 h1
      exact ⟨k, by omega, k2, k3⟩
    · rw [if_neg c] at h1
      by_cases d : x = ckF fh fw h w n
      · exact ⟨n, by omega, c, d.symm⟩
      · obtain ⟨k, k1, k2, k3⟩ := ckF_s (fh := fh) (fw := fw) (h := h) (w := w) n x h0 (by omega)
        exact ⟨k, by omega, k2, k3⟩
theorem ckF_c {fh fw gh gw : Int → Int} {h w : Int} : ∀ n : Nat, (∀ k : Int, 0 ≤ k → k < n → fh k = gh k ∧ fw k = gw k) → ckF fh fw h w n = ckF gh gw h w n
  | 0, _ => rfl
  | n + 1, e => by
    obtain ⟨e1, e2⟩ := e n (by omega) (by omega)
    unfold ckF
    rw [ckF_c n (fun k k0 k1 => e k k0 (by omega)), e1, e2]
theorem ckF_step {fh fw : Int → Int} {h w k : Int} (k0 : 0 ≤ k) : ckF fh fw h w (k + 1).toNat = if fh k = h ∧ (w = -1 ∨ fw k = w) then ckF fh fw h w k.toNat else ckF fh fw h w k.toNat + 1 := by
  rw [show (k + 1).toNat = k.toNat + 1 by omega]
  show (if fh ((k.toNat : Nat) : Int) = h ∧ (w = -1 ∨ fw ((k.toNat : Nat) : Int) = w) then _ else _) = _
  rw [Int.toNat_of_nonneg k0]
theorem ckF_lt {fh fw : Int → Int} {h w j k : Int} (j0 : 0 ≤ j) (jk : j < k) (g : ¬(fh j = h ∧ (w = -1 ∨ fw j = w))) : ckF fh fw h w j.toNat < ckF fh fw h w k.toNat := by
  have e := ckF_step (fh := fh) (fw := fw) (h := h) (w := w) j0
  rw [if_neg g] at e
  have m := (ckF_m (fh := fh) (fw := fw) (h := h) (w := w) (j + 1).toNat (k.toNat - (j + 1).toNat)).1
  rw [show (j + 1).toNat + (k.toNat - (j + 1).toNat) = k.toNat by omega] at m
  omega
def posC (fh fw f f' : Int → Int) (h w n i : Int) : Prop := (∀ j, 0 ≤ j → j ≤ i → f' j = f j) ∧ ∀ j, i < j → j < n → ¬(fh j = h ∧ (w = -1 ∨ fw j = w)) → f' (i + 1 + ckF fh fw h w j.toNat - ckF fh fw h w (i + 1).toNat) = f j
theorem posC_keep {fh fw f f' : Int → Int} {h w n i : Int} (i0 : 0 ≤ i) (g : ¬(fh i = h ∧ (w = -1 ∨ fw i = w))) (p : posC fh fw f f' h w n i) : posC fh fw f f' h w n (i - 1) := by
  have e := ckF_step (fh := fh) (fw := fw) (h := h) (w := w) i0
  rw [if_neg g] at e
  refine ⟨fun j j0 j1 => p.1 j j0 (by omega), fun j j0 j1 hj => ?_⟩
  rw [show i - 1 + 1 = i by omega]
  by_cases c : j = i
  · rw [c, show i + ckF fh fw h w i.toNat - ckF fh fw h w i.toNat = i by omega]
    exact p.1 i i0 (Int.le_refl _)
  · have q := p.2 j (by omega) j1 hj
    rw [e] at q
    rw [show i + ckF fh fw h w j.toNat - ckF fh fw h w i.toNat = i + 1 + ckF fh fw h w j.toNat - (ckF fh fw h w i.toNat + 1) by omega]
    exact q
theorem posC_rem {fh fw f f' : Int → Int} {h w n i s : Int} (i0 : 0 ≤ i) (g : fh i = h ∧ (w = -1 ∨ fw i = w)) (hs : s = i + 1 + (ckF fh fw h w n.toNat - ckF fh fw h w (i + 1).toNat)) (p : posC fh fw f f' h w n i) : posC fh fw f (remF f' i (s - 1)) h w n (i - 1) := by
  have e := ckF_step (fh := fh) (fw := fw) (h := h) (w := w) i0
  rw [if_pos g] at e
  refine ⟨fun j j0 j1 => ?_, fun j j0 j1 hj => ?_⟩
  · unfold remF; rw [if_neg (by omega)]; exact p.1 j j0 (by omega)
  · rw [show i - 1 + 1 = i by omega]
    have ji : j ≠ i := fun c => by rw [c] at hj; exact hj g
    have q := p.2 j (by omega) j1 hj
    have m := (ckF_m (fh := fh) (fw := fw) (h := h) (w := w) (i + 1).toNat (j.toNat - (i + 1).toNat)).1
    rw [show (i + 1).toNat + (j.toNat - (i + 1).toNat) = j.toNat by omega] at m
    have l := ckF_lt (fh := fh) (fw := fw) (h := h) (w := w) (k := n) (by omega) j1 hj
    unfold remF
    rw [if_pos (by omega)]
    rw [show i + ckF fh fw h w j.toNat - ckF fh fw h w i.toNat + 1 = i + 1 + ckF fh fw h w j.toNat - ckF fh fw h w (i + 1).toNat by omega]
    exact q
def forC (τ σ : kzM) (h w i : Int) : Prop := (∀ a x, ¬(581 ≤ a ∧ a ≤ 586) → σ.1 a x = τ.1 a x) ∧ (σ.1 581 1 = i + 1 + (ckF (τ.1 582) (τ.1 584) h w (τ.1 581 1).toNat - ckF (τ.1 582) (τ.1 584) h w (i + 1).toNat) ∧ σ.1 583 1 = σ.1 581 1 ∧ σ.1 585 1 = σ.1 581 1) ∧ posC (τ.1 582) (τ.1 584) (τ.1 582) (σ.1 582) h w (τ.1 581 1) i ∧ posC (τ.1 582) (τ.1 584) (τ.1 584) (σ.1 584) h w (τ.1 581 1) i ∧ posC (τ.1 582) (τ.1 584) (τ.1 586) (σ.1 586) h w (τ.1 581 1) i
set_option maxRecDepth 100000 in
theorem W2_drop_10 {h w : Int} {τ : kzM} (Q : Int → kzM → Prop) (n0 : 0 ≤ τ.1 581 1) (n1 : τ.1 581 1 ≤ 60) (hw : ∀ k, 0 ≤ k → k < τ.1 581 1 → 0 ≤ τ.1 584 k) (hQ : ∀ σ, forC τ σ h w (-1) → Q (τ.1 581 1 - σ.1 581 1) σ) : ∀ (n : Nat) (i : Int) (σ : kzM), -1 ≤ i → i < τ.1 581 1 → i + 1 < (n : Int) → forC τ σ h w i → Wz (lp (fun _ _ _ _ _ _ => none) (Z2_dropLearnings_10B kdG0) n 580 h w (τ.1 581 1) i) σ Q := by
  intro n
  induction n with
  | zero => intro k; intros; omega
  | succ n ih =>
    intro i σ i0 i1 i2 hp
    rw [lp_succ]
    generalize lp (fun _ _ _ _ _ _ => none) (Z2_dropLearnings_10B kdG0) n = L at ih ⊢
    by_cases ineg : i < 0
    · have im : i = -1 := by omega
      subst im
      have hp2 := hp.2.1
      rw [show ((-1 : Int) + 1).toNat = 0 from rfl] at hp2
      have b := ckF_b (fh := τ.1 582) (fw := τ.1 584) (h := h) (w := w) (τ.1 581 1).toNat
      have z0 : ckF (τ.1 582) (τ.1 584) h w 0 = 0 := rfl
      unfold Z2_dropLearnings_10B
      simp only [Z2_learnings, Wz_rt, Wz_cnd, Wz_lI, Wz_lW, Wz_lL, Wz_cl, Wz_cv, Wz_nz, Wz_gI, Wz_gR, Wz_sI, Wz_aI, Wz_aZ, Wz_aL, Wz_aN, Wz_aR, Wz_tI, Wz_tZ, Wz_tL, Option.some.injEq, exists_eq_left', zB_0, zB_1, true_and, and_true, true_implies, not_true_eq_false, false_implies, not_false_eq_true, Classical.not_not, g_0, g_1, g_2, g_336, g_337, g_338, g_339, g_340, g_341, g_342, g_343, g_464, g_465, g_466, g_484, g_485, g_486, g_487, g_488, g_489, g_490, g_580, g_581, g_582, g_583, g_584, g_585, g_586, g_587, g_0_0, g_0_1, g_0_2, g_0_3, g_0_4, g_0_5, g_0_6, g_0_7, g_0_8, g_0_9, g_0_10, g_0_11, g_1_0, g_336_0, g_336_1, g_336_2, g_336_3, g_337_0, g_339_0, g_341_0, g_464_0, g_464_1, g_484_0, g_484_1, g_484_2, g_485_0, g_487_0, g_489_0, g_580_0, g_580_1, g_580_2, g_580_3, g_581_0, g_583_0, g_585_0, W_size r_581]
      exact ⟨fun _ => ⟨by omega, hQ σ hp⟩, fun q => by omega⟩
    · have j0 : 0 ≤ i := by omega
      have e := ckF_step (fh := τ.1 582) (fw := τ.1 584) (h := h) (w := w) j0
      have m := ckF_m (fh := τ.1 582) (fw := τ.1 584) (h := h) (w := w) (i + 1).toNat ((τ.1 581 1).toNat - (i + 1).toNat)
      rw [show (i + 1).toNat + ((τ.1 581 1).toNat - (i + 1).toNat) = (τ.1 581 1).toNat by omega] at m
      obtain ⟨p1, ⟨p2, p3, p4⟩, p5, p6, p7⟩ := hp
      have r1 : σ.1 582 i = τ.1 582 i := p5.1 i j0 (Int.le_refl _)
      have r2 : σ.1 584 i = τ.1 584 i := p6.1 i j0 (Int.le_refl _)
      have hwi := hw i j0 i1
      have keep : ¬(τ.1 582 i = h ∧ (w = -1 ∨ τ.1 584 i = w)) → forC τ σ h w (i - 1) := fun g => by
        rw [if_neg g] at e
        refine ⟨p1, ⟨?_, p3, p4⟩, posC_keep j0 g p5, posC_keep j0 g p6, posC_keep j0 g p7⟩
        rw [show i - 1 + 1 = i by omega]; omega
      have rem : (τ.1 582 i = h ∧ (w = -1 ∨ τ.1 584 i = w)) → Wz (Z6_remove kdG0 581 i) σ fun _ τ' => Wz (Z6_remove kdG0 583 i) τ' fun _ τ'' => Wz (Z6_remove kdG0 585 i) τ'' fun _ σ' => forC τ σ' h w (i - 1) := fun g => by
        refine W_remove r_581 j0 (by omega) (show σ.1 581 1 ≤ ((60 : Nat) : Int) by omega) (by omega) ?_
        refine W_remove r_583 j0 (by simp only [addF, v2, rw1, Nat.reduceEqDiff, Nat.reduceAdd, Int.reduceEq, Int.reduceNeg, reduceIte, false_and, and_false, true_and, and_true, and_self]; omega) (by simp only [addF, v2, rw1, Nat.reduceEqDiff, Nat.reduceAdd, Int.reduceEq, Int.reduceNeg, reduceIte, false_and, and_false, true_and, and_true, and_self]; omega) (by omega) ?_
        refine W_remove r_585 j0 (by simp only [addF, v2, rw1, Nat.reduceEqDiff, Nat.reduceAdd, Int.reduceEq, Int.reduceNeg, reduceIte, false_and, and_false, true_and, and_true, and_self]; omega) (by simp only [addF, v2, rw1, Nat.reduceEqDiff, Nat.reduceAdd, Int.reduceEq, Int.reduceNeg, reduceIte, false_and, and_false, true_and, and_true, and_self]; omega) (by omega) ?_
        rw [if_pos g] at e
        refine ⟨fun a x ha => ?_, ⟨?_, ?_, ?_⟩, ?_, ?_, ?_⟩
        · dsimp only
          rw [v2_ne _ _ _ _ (by omega), rw1_eq, if_neg (by omega), v2_ne _ _ _ _ (by omega), rw1_eq, if_neg (by omega), v2_ne _ _ _ _ (by omega), rw1_eq, if_neg (by omega)]
          exact p1 a x ha
        · simp only [addF, v2, rw1, Nat.reduceEqDiff, Nat.reduceAdd, Int.reduceEq, Int.reduceNeg, reduceIte, false_and, and_false, true_and, and_true, and_self]; rw [show i - 1 + 1 = i by omega]; omega
        · simp only [addF, v2, rw1, Nat.reduceEqDiff, Nat.reduceAdd, Int.reduceEq, Int.reduceNeg, reduceIte, false_and, and_false, true_and, and_true, and_self]; omega
        · simp only [addF, v2, rw1, Nat.reduceEqDiff, Nat.reduceAdd, Int.reduceEq, Int.reduceNeg, reduceIte, false_and, and_false, true_and, and_true, and_self]; omega
        · have q := posC_rem (s := σ.1 581 1) j0 g p2 p5
          have q2 : ∀ f : Nat → Int → Int, ∀ v1 v2' v3 u1 u2 : Int, ∀ g1 g2 g3 : Int → Int, f = f → (v2 (rw1 (v2 (rw1 (v2 (rw1 σ.1 582 g1) 581 1 v1) 584 g2) 583 1 v2') 586 g3) 585 1 v3) 582 = g1 := fun _ _ _ _ _ _ g1 g2 g3 _ => by
            funext x; simp only [addF, v2, rw1, Nat.reduceEqDiff, Nat.reduceAdd, Int.reduceEq, Int.reduceNeg, reduceIte, false_and, and_false, true_and, and_true, and_self]
          dsimp only
          simp only [Nat.reduceAdd]
          rw [q2 σ.1 _ _ _ 0 0 _ _ _ rfl]
          exact q
        · have q := posC_rem (s := σ.1 581 1) j0 g p2 p6
          have q2 : ∀ v1 v2' v3 : Int, ∀ g1 g2 g3 : Int → Int, (v2 (rw1 (v2 (rw1 (v2 (rw1 σ.1 582 g1) 581 1 v1) 584 g2) 583 1 v2') 586 g3) 585 1 v3) 584 = g2 := fun _ _ _ g1 g2 g3 => by
            funext x; simp only [addF, v2, rw1, Nat.reduceEqDiff, Nat.reduceAdd, Int.reduceEq, Int.reduceNeg, reduceIte, false_and, and_false, true_and, and_true, and_self]
          dsimp only
          simp only [Nat.reduceAdd]
          rw [q2]
          have q3 : ∀ v1 : Int, ∀ g1 : Int → Int, v2 (rw1 σ.1 582 g1) 581 1 v1 584 = σ.1 584 := fun v1 g1 => by
            funext x; simp only [addF, v2, rw1, Nat.reduceEqDiff, Nat.reduceAdd, Int.reduceEq, Int.reduceNeg, reduceIte, false_and, and_false, true_and, and_true, and_self]
          have q4 : ∀ v1 : Int, ∀ g1 : Int → Int, v2 (rw1 σ.1 582 g1) 581 1 v1 583 1 = σ.1 583 1 := fun v1 g1 => by simp only [addF, v2, rw1, Nat.reduceEqDiff, Nat.reduceAdd, Int.reduceEq, Int.reduceNeg, reduceIte, false_and, and_false, true_and, and_true, and_self]
          rw [q3, q4, p3]; exact q
        · have q := posC_rem (s := σ.1 581 1) j0 g p2 p7
          have q2 : ∀ v1 v2' v3 : Int, ∀ g1 g2 g3 : Int → Int, (v2 (rw1 (v2 (rw1 (v2 (rw1 σ.1 582 g1) 581 1 v1) 584 g2) 583 1 v2') 586 g3) 585 1 v3) 586 = g3 := fun _ _ _ g1 g2 g3 => by
            funext x; simp only [addF, v2, rw1, Nat.reduceEqDiff, Nat.reduceAdd, Int.reduceEq, Int.reduceNeg, reduceIte, false_and, and_false, true_and, and_true, and_self]
          dsimp only
          simp only [Nat.reduceAdd]
          rw [q2]
          have q3 : ∀ v1 v2' : Int, ∀ g1 g2 : Int → Int, v2 (rw1 (v2 (rw1 σ.1 582 g1) 581 1 v1) 584 g2) 583 1 v2' 586 = σ.1 586 := fun v1 _ g1 _ => by
            funext x; simp only [addF, v2, rw1, Nat.reduceEqDiff, Nat.reduceAdd, Int.reduceEq, Int.reduceNeg, reduceIte, false_and, and_false, true_and, and_true, and_self]
          have q4 : ∀ v1 v2' : Int, ∀ g1 g2 : Int → Int, v2 (rw1 (v2 (rw1 σ.1 582 g1) 581 1 v1) 584 g2) 583 1 v2' 585 1 = σ.1 585 1 := fun v1 _ g1 _ => by simp only [addF, v2, rw1, Nat.reduceEqDiff, Nat.reduceAdd, Int.reduceEq, Int.reduceNeg, reduceIte, false_and, and_false, true_and, and_true, and_self]
          rw [q3, q4, p4]; exact q
      have next : ∀ σ', forC τ σ' h w (i - 1) → Wz (L 580 h w (τ.1 581 1) (i + -1)) σ' Q := fun σ' q1 => by
        have q := ih (i - 1) σ' (by omega) (by omega) (by omega) q1
        rw [show i + -1 = i - 1 by omega]; exact q
      unfold Z2_dropLearnings_10B
      simp only [Z2_dropLearnings_37, Z2_dropLearnings_73, Z2_isOf_29, Z2_isOf_28, Z2_isOf, Wz_rt, Wz_cnd, Wz_lI, Wz_lW, Wz_lL, Wz_cl, Wz_cv, Wz_nz, Wz_gI, Wz_gR, Wz_sI, Wz_aI, Wz_aZ, Wz_aL, Wz_aN, Wz_aR, Wz_tI, Wz_tZ, Wz_tL, Option.some.injEq, exists_eq_left', zB_0, zB_1, true_and, and_true, true_implies, not_true_eq_false, false_implies, not_false_eq_true, Classical.not_not, g_0, g_1, g_2, g_336, g_337, g_338, g_339, g_340, g_341, g_342, g_343, g_464, g_465, g_466, g_484, g_485, g_486, g_487, g_488, g_489, g_490, g_580, g_581, g_582, g_583, g_584, g_585, g_586, g_587, g_0_0, g_0_1, g_0_2, g_0_3, g_0_4, g_0_5, g_0_6, g_0_7, g_0_8, g_0_9, g_0_10, g_0_11, g_1_0, g_336_0, g_336_1, g_336_2, g_336_3, g_337_0, g_339_0, g_341_0, g_464_0, g_464_1, g_484_0, g_484_1, g_484_2, g_485_0, g_487_0, g_489_0, g_580_0, g_580_1, g_580_2, g_580_3, g_581_0, g_583_0, g_585_0, W_at r_581 (show σ.1 581 1 ≤ ((60 : Nat) : Int) by omega), W_at r_583 (show σ.1 583 1 ≤ ((60 : Nat) : Int) by omega), if_pos (show 0 ≤ i ∧ i < σ.1 581 1 by omega), if_pos (show 0 ≤ i ∧ i < σ.1 583 1 by omega), r1, r2]
      have fin : (τ.1 582 i = h ∧ (w = -1 ∨ τ.1 584 i = w)) → Wz (Z6_remove kdG0 581 i) σ fun _ τ' => Wz (Z6_remove kdG0 583 i) τ' fun _ τ'' => Wz (Z6_remove kdG0 585 i) τ'' fun _ τ3 => (-2147483648 ≤ i + -1 ∧ i + -1 ≤ 2147483647) ∧ Wz (L 580 h w (τ.1 581 1) (i + -1)) τ3 Q := fun g =>
        Wz_mono (rem g) fun _ s1 a1 => Wz_mono a1 fun _ s2 a2 => Wz_mono a2 fun _ s3 a3 => ⟨by omega, next s3 a3⟩
      have stay : ¬(τ.1 582 i = h ∧ (w = -1 ∨ τ.1 584 i = w)) → (-2147483648 ≤ i + -1 ∧ i + -1 ≤ 2147483647) ∧ Wz (L 580 h w (τ.1 581 1) (i + -1)) σ Q := fun g => ⟨by omega, next σ (keep g)⟩
      exact ⟨fun z => absurd z ineg, fun _ => ⟨fun u => ⟨fun z => ⟨fun y => absurd y (by decide), fun _ => fin ⟨z, Or.inl u⟩⟩, fun z => stay (fun q => z q.1)⟩, fun u => ⟨fun z => ⟨fun y => ⟨fun x => absurd x (by decide), fun _ => fin ⟨z, Or.inr y⟩⟩, fun y => stay (fun q => q.2.elim u y)⟩, fun z => stay (fun q => z q.1)⟩⟩⟩
