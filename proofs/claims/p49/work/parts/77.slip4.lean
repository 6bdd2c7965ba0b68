theorem cellE_sw {t : Int → Int → Int} {s w P s' w' P' : Int → Int} {i j n m : Int} (i0 : 0 ≤ i) (j0 : 0 ≤ j) (hi : i ≤ n) (hj : j ≤ m) (hs : ∀ k, 0 ≤ k → k < n → s k = s' k) (hw : ∀ k, 0 ≤ k → k < m → w k = w' k) (hP : ∀ k, 0 ≤ k → k < 6 → P k = P' k) : cellE t s w P i j = cellE t s' w' P' i j := by
  have p0 := hP 0 (by omega) (by omega)
  have p1 := hP 1 (by omega) (by omega)
  have p2 := hP 2 (by omega) (by omega)
  have p3 := hP 3 (by omega) (by omega)
  have p4 := hP 4 (by omega) (by omega)
  unfold cellE oneC
  by_cases c : i = 0
  · rw [if_pos c, if_pos c, p2]
  · rw [if_neg c, if_neg c, hs (i - 1) (by omega) (by omega), p0, p1, p2, p3, p4]
    have ea : (if i ≤ 1 then -1 else s (i - 2)) = (if i ≤ 1 then -1 else s' (i - 2)) := by
      by_cases d : i ≤ 1
      · rw [if_pos d, if_pos d]
      · rw [if_neg d, if_neg d, hs (i - 2) (by omega) (by omega)]
    rw [ea]
    by_cases d : j ≤ 0
    · simp only [d, if_true]
      have dd : j ≤ 1 := by omega
      simp only [dd, true_or, or_true, if_true]
    · rw [hw (j - 1) (by omega) (by omega)]
      by_cases e : j ≤ 1
      · simp only [e, true_or, or_true, if_true]
      · rw [hw (j - 2) (by omega) (by omega)]
theorem eD_cg {s w P s' w' P' : Int → Int} {n m : Int} (hs : ∀ k, 0 ≤ k → k < n → s k = s' k) (hw : ∀ k, 0 ≤ k → k < m → w k = w' k) (hP : ∀ k, 0 ≤ k → k < 6 → P k = P' k) : ∀ (d : Nat) (i j : Int), 0 ≤ i → 0 ≤ j → i ≤ n → j ≤ m → i + j < (d : Int) → eD s w P i j = eD s' w' P' i j
  | 0, i, j, i0, j0, hi, hj, hd => by omega
  | d + 1, i, j, i0, j0, hi, hj, hd => by
    rw [eD_eq i0 j0, eD_eq i0 j0, cellE_sw i0 j0 hi hj hs hw hP]
    refine cellE_cg (fun c => ?_) (fun c e => ⟨?_, ?_⟩) (fun c e f => ?_)
    · exact eD_cg hs hw hP d _ _ (by omega) j0 (by omega) hj (by omega)
    · exact eD_cg hs hw hP d _ _ i0 (by omega) hi (by omega) (by omega)
    · exact eD_cg hs hw hP d _ _ (by omega) (by omega) (by omega) (by omega) (by omega)
    · exact eD_cg hs hw hP d _ _ (by omega) (by omega) (by omega) (by omega) (by omega)
set_option maxRecDepth 100000 in
theorem Inv.sl {τ : kzM} (hI : Inv τ) : slK τ ∧ True := by
  have i1 := hI.1
  have i6 := hI.2.2.2.2.2.1
  unfold I1 at i1
  unfold I6 at i6
  exact ⟨⟨i1.1, fun k k0 k1 => (i1.2.2 k k0 k1).1, fun k k0 k1 => (i6 k k0 k1).1⟩, trivial⟩
set_option maxRecDepth 100000 in
theorem Inv.wd {τ : kzM} (hI : Inv τ) {w : Int} (w0 : 0 ≤ w) (w1 : w < τ.1 337 1) : slW τ (344 + 2 * w.toNat) ∧ True ∧ True := by
  have i5 := hI.2.2.2.2.1
  unfold I5 at i5
  have e := (i5.2.2.2.2 w w0 w1).2.2.2
  unfold eqR at e
  exact ⟨⟨e.1, fun k k0 k1 => (e.2.2 k k0 k1).1⟩, trivial, trivial⟩
