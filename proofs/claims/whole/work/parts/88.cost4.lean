/-! layouts: both sums are one -/
theorem pcM_pcC {τ : kzM} (hI : Inv τ) (hl : laidM τ) (he : ∀ i, 0 ≤ i → i < τ.1 588 0 → τ.1 659 i = τ.1 600 i) {i j : Int} (i0 : 0 ≤ i) (i1 : i < τ.1 588 0) (j0 : 0 ≤ j) (j1 : j < i) : pcM τ i j + pcM τ j i = pcC τ i j := by
  have i9 := hI.2.2.2.2.2.2.2.2
  unfold I9 at i9
  have s1 := i9.1
  have l := hl i i0 i1
  have m := hl j j0 (by omega)
  have a := (i9.2.2.2 i j i0 (by omega) j0 (by omega)).2
  have b := (i9.2.2.2 j i j0 (by omega) i0 (by omega)).2
  have f1 := (i9.2.2.1 _ l.1 (by omega)).2.1.2
  have f2 := (i9.2.2.1 _ m.1 (by omega)).2.1.2
  have e1 := he i i0 i1
  have e2 := he j j0 (by omega)
  unfold pcM pcC farC prP
  rw [if_neg (show ¬i = j by omega), if_neg (show ¬j = i by omega), a, b, f1, f2, i9.2.1.2, e1, e2, Int.add_mul]
  have z : zabs (τ.1 600 j - τ.1 600 i) = zabs (τ.1 600 i - τ.1 600 j) := by unfold zabs; split <;> split <;> omega
  rw [z]
  by_cases c : τ.1 590 (τ.1 600 i) = τ.1 590 (τ.1 600 j)
  · rw [if_pos c, if_pos c.symm]
  · rw [if_neg c, if_neg (fun q => c q.symm)]
theorem cost_eq {τ : kzM} (hI : Inv τ) (hl : laidM τ) (he : ∀ i, 0 ≤ i → i < τ.1 588 0 → τ.1 659 i = τ.1 600 i) : costM τ = wS (adC τ) (τ.1 588 0).toNat := by
  have i9 := hI.2.2.2.2.2.2.2.2
  unfold I9 at i9
  have s1 := i9.1
  unfold costM
  rw [wS_add, wS_tri, ← wS_add]
  refine wS_congr _ fun i i0 i1 => ?_
  have l := hl i i0 (by omega)
  have a := (i9.2.2.1 i i0 (by omega)).2.2.2
  have b := (i9.2.2.1 _ l.1 (by omega)).1.2
  have e0 : pcM τ i i = 0 := by unfold pcM; rw [if_pos rfl]
  have ec : clM τ i = clC τ i := by
    unfold clM clC
    rw [a, b, he i i0 (by omega)]
  have es : wS (fun j => pcM τ i j + pcM τ j i) i.toNat = wS (pcC τ i) i.toNat := wS_congr _ fun j j0 j1 => pcM_pcC hI hl he i0 (by omega) j0 (by omega)
  unfold adC
  rw [e0, ec, es]
  omega
