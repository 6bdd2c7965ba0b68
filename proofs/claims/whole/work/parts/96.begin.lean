/-! the start -/
def zall (n : Nat) (p : Int → Bool) : Bool := (List.range n).all fun i => p (i : Int)
theorem zall_s {n : Nat} {p : Int → Bool} (h : zall n p = true) {i : Int} (i0 : 0 ≤ i) (i1 : i < n) : p i = true := by
  unfold zall at h
  rw [List.all_eq_true] at h
  have := h i.toNat (List.mem_range.2 (by omega))
  rw [show ((i.toNat : Nat) : Int) = i by omega] at this
  exact this
def kzPa (τ : kzM) : Bool := decide (τ.1 1 1 = 0) && decide (τ.1 612 1 = 0) && decide (τ.1 3 1 = 0) && decide (τ.1 612 3 = 0) && decide (τ.1 327 4 = 0) && decide (τ.1 612 18 = 0) && decide (τ.1 328 1 = 0) && decide (τ.1 612 17 = 0) && decide (τ.1 337 1 = 0) && decide (τ.1 339 1 = 0) && decide (τ.1 341 1 = 0) && decide (τ.1 612 29 = 0) && decide (τ.1 562 1 = 0) && decide (τ.1 564 1 = 0) && decide (τ.1 612 6 = 0) && decide (τ.1 500 2 = 0) && decide (τ.1 612 45 = 0) && decide (τ.1 581 1 = 0) && decide (τ.1 583 1 = 0) && decide (τ.1 585 1 = 0) && decide (τ.1 612 51 = 0) && decide ((0 ≤ τ.1 580 4 ∧ τ.1 580 4 ≤ 1000) ∧ τ.1 612 52 = τ.1 580 4) && decide ((0 ≤ τ.1 580 5 ∧ τ.1 580 5 ≤ 2147483646) ∧ τ.1 612 54 = τ.1 580 5) && decide ((2 ≤ τ.1 588 0 ∧ τ.1 588 0 ≤ 7) ∧ τ.1 612 55 = τ.1 588 0) && decide ((0 ≤ τ.1 588 5 ∧ τ.1 588 5 ≤ 20) ∧ τ.1 612 60 = τ.1 588 5)
def kzPb0 (τ : kzM) : Bool := zall 3 fun t => decide (τ.1 (6 + 107 * t.toNat) 2 = 0 ∧ τ.1 621 t = 0 ∧ τ.1 (6 + 107 * t.toNat + 7) 1 = 0 ∧ τ.1 (6 + 107 * t.toNat + 3) 1 = 0 ∧ τ.1 (6 + 107 * t.toNat + 5) 1 = 0 ∧ τ.1 623 t = 0)
def kzPb1 (τ : kzM) : Bool := zall 183 fun x => decide (τ.1 (6 + 107 * (x / 61).toNat + 9) (x % 61) = 0 ∧ τ.1 624 x = 0)
def kzPb2 (τ : kzM) : Bool := zall 6 fun i => decide ((0 ≤ τ.1 465 i ∧ τ.1 465 i ≤ 20) ∧ τ.1 635 i = τ.1 465 i)
def kzPb4 (τ : kzM) : Bool := zall 4 fun h => decide ((0 ≤ τ.1 587 h ∧ τ.1 587 h ≤ 1000) ∧ τ.1 654 h = τ.1 587 h)
def kzPb5 (τ : kzM) : Bool := zall 7 fun i => decide (((0 ≤ τ.1 589 i ∧ τ.1 589 i ≤ 20) ∧ τ.1 655 i = τ.1 589 i) ∧ ((0 ≤ τ.1 590 i ∧ τ.1 590 i ≤ 4) ∧ τ.1 656 i = τ.1 590 i) ∧ ((0 ≤ τ.1 591 i ∧ τ.1 591 i ≤ 99) ∧ τ.1 657 i = τ.1 591 i))
def kzPb6 (τ : kzM) : Bool := zall 49 fun x => decide ((0 ≤ τ.1 (593 + (x / 7).toNat) (x % 7) ∧ τ.1 (593 + (x / 7).toNat) (x % 7) ≤ 50) ∧ τ.1 658 x = τ.1 (593 + (x / 7).toNat) (x % 7))
def kdPs (σ : kdM) : Bool := kzPa (kzof σ) && kzPb0 (kzof σ) && kzPb1 (kzof σ) && kzPb2 (kzof σ) && kzPb4 (kzof σ) && kzPb5 (kzof σ) && kzPb6 (kzof σ)
def kdPc (i : Nat) (σ : kdM) : Bool := (List.range 10).all fun a => (List.range 60).all fun b => decide (σ.1 (502 + (10 * i + a)) b = 0)
theorem kdrun_and {P Q : kdM → Bool} (h : kdrun P = true) (k : kdrun Q = true) : kdrun (fun σ => P σ && Q σ) = true := by
  unfold kdrun at h k ⊢
  revert h k
  generalize L_pre (kdGz, kdMz, 600000, 7302250) = r
  intro h k
  match r, h, k with
  | some ((x, m), (G1, σ1, cc, cs)), h, k =>
    simp only [Bool.and_eq_true] at h k ⊢
    exact ⟨h.1, h.2, k.2⟩
theorem kdPs_run : kdrun kdPs = true := by decide +kernel
theorem kdPc_0 : kdrun (kdPc 0) = true := by decide +kernel
theorem kdPc_1 : kdrun (kdPc 1) = true := by decide +kernel
theorem kdPc_2 : kdrun (kdPc 2) = true := by decide +kernel
theorem kdPc_3 : kdrun (kdPc 3) = true := by decide +kernel
theorem kdPc_4 : kdrun (kdPc 4) = true := by decide +kernel
theorem kdPc_5 : kdrun (kdPc 5) = true := by decide +kernel
