/-! the bound: values in their order -/
theorem zp_b (p : Prop) : 0 ≤ zp p ∧ zp p ≤ 1 := by
  by_cases h : p
  · rw [zp_pos h]; omega
  · rw [zp_neg h]; omega
theorem cn_b (P : Int → Prop) (n : Nat) : 0 ≤ wS (fun j => zp (P j)) n ∧ wS (fun j => zp (P j)) n ≤ n := by
  have h := wS_b (p := fun j => zp (P j)) (m := 1) n (fun k _ _ => zp_b _)
  omega
theorem cn_mono {P Q : Int → Prop} : ∀ n : Nat, (∀ j : Int, 0 ≤ j → j < n → P j → Q j) → wS (fun j => zp (P j)) n ≤ wS (fun j => zp (Q j)) n
  | 0, _ => Int.le_refl _
  | n + 1, h => by
    have ih := cn_mono n (fun j a b => h j a (by omega))
    show wS _ n + zp (P n) ≤ wS _ n + zp (Q n)
    by_cases c : P (n : Int)
    · rw [zp_pos c, zp_pos (h n (by omega) (by omega) c)]; omega
    · have := zp_b (Q (n : Int))
      rw [zp_neg c]; omega
theorem cn_all {P : Int → Prop} {n : Nat} (h : ∀ j : Int, 0 ≤ j → j < n → P j) : wS (fun j => zp (P j)) n = n := by
  rw [wS_congr (q := fun _ => 1) n (fun k a b => zp_pos (h k a b))]
  clear h
  induction n with
  | zero => rfl
  | succ n ih => show wS _ n + 1 = _; omega
theorem cn_none {P : Int → Prop} {n : Nat} (h : ∀ j : Int, 0 ≤ j → j < n → ¬P j) : wS (fun j => zp (P j)) n = 0 := by
  rw [wS_congr (q := fun _ => 0) n (fun k a b => zp_neg (h k a b))]
  clear h
  induction n with
  | zero => rfl
  | succ n ih => show wS _ n + 0 = _; omega
theorem cn_not (P : Int → Prop) (n : Nat) : wS (fun j => zp (P j)) n + wS (fun j => zp (¬P j)) n = n := by
  rw [← wS_add]
  rw [wS_congr (q := fun _ => 1) n (fun k a b => by
    by_cases c : P k
    · rw [zp_pos c, zp_neg (fun q => q c)]; rfl
    · rw [zp_neg c, zp_pos c]; rfl)]
  induction n with
  | zero => rfl
  | succ n ih => show wS _ n + 1 = _; omega
theorem cn_cut {P : Int → Prop} {i : Nat} : ∀ n : Nat, i ≤ n → wS (fun j => zp (P j ∧ j < i)) n = wS (fun j => zp (P j)) i
  | 0, h => by rw [show i = 0 by omega]; rfl
  | n + 1, h => by
    by_cases c : i = n + 1
    · subst c
      exact wS_congr _ fun j a b => zp_iff ⟨fun q => q.1, fun q => ⟨q, b⟩⟩
    · show wS _ n + zp _ = _
      rw [cn_cut n (by omega), zp_neg (fun q => by have := q.2; omega)]
      omega
theorem cn_or {P Q : Int → Prop} {n : Nat} (h : ∀ j : Int, 0 ≤ j → j < n → ¬(P j ∧ Q j)) : wS (fun j => zp (P j ∨ Q j)) n = wS (fun j => zp (P j)) n + wS (fun j => zp (Q j)) n := by
  rw [← wS_add]
  refine wS_congr _ fun j a b => ?_
  have := h j a b
  by_cases p : P j
  · rw [zp_pos (Or.inl p), zp_pos p, zp_neg (fun q => this ⟨p, q⟩)]; rfl
  · by_cases q : Q j
    · rw [zp_pos (Or.inr q), zp_neg p, zp_pos q]; rfl
    · rw [zp_neg (fun z => z.elim p q), zp_neg p, zp_neg q]; rfl
theorem cn_one {i : Int} {n : Nat} (i0 : 0 ≤ i) (i1 : i < n) : wS (fun j => zp (j = i)) n = 1 := by
  induction n with
  | zero => omega
  | succ n ih =>
    show wS _ n + zp _ = 1
    by_cases c : i = n
    · rw [cn_none (fun j a b => by omega), zp_pos c.symm]; rfl
    · rw [ih (by omega), zp_neg (fun q => c q.symm)]; rfl
theorem cn_at {P : Int → Prop} {t : Int} (t0 : 0 ≤ t) : ∀ n : Nat, t < wS (fun j => zp (P j)) n → ∃ i : Nat, i < n ∧ P i ∧ wS (fun j => zp (P j)) i = t
  | 0, h => by
    rw [show wS (fun j => zp (P j)) 0 = 0 from rfl] at h
    omega
  | n + 1, h => by
    by_cases c : t < wS (fun j => zp (P j)) n
    · obtain ⟨i, a, b⟩ := cn_at t0 n c
      exact ⟨i, by omega, b⟩
    · have e : wS (fun j => zp (P j)) (n + 1) = wS (fun j => zp (P j)) n + zp (P n) := rfl
      rw [e] at h
      by_cases p : P (n : Int)
      · rw [zp_pos p] at h
        exact ⟨n, by omega, p, by omega⟩
      · rw [zp_neg p] at h; omega
/-- x stands at place r when the values of f on 0..n-1 stand in order -/
def oSt (f : Int → Int) (n : Nat) (r x : Int) : Prop := wS (fun j => zp (f j < x)) n ≤ r ∧ r < wS (fun j => zp (f j ≤ x)) n
theorem oSt_u {f : Int → Int} {n : Nat} {r x y : Int} (h : oSt f n r x) (k : oSt f n r y) : x = y := by
  unfold oSt at h k
  rcases Int.lt_trichotomy x y with c | c | c
  · have := cn_mono (P := fun j => f j ≤ x) (Q := fun j => f j < y) n (fun j _ _ q => by omega)
    omega
  · exact c
  · have := cn_mono (P := fun j => f j ≤ y) (Q := fun j => f j < x) n (fun j _ _ q => by omega)
    omega
theorem oSt_e {f : Int → Int} {n : Nat} {r : Int} (hf : ∀ j : Int, 0 ≤ j → j < n → 0 ≤ f j) (r0 : 0 ≤ r) : ∀ b : Nat, r < wS (fun j => zp (f j ≤ b)) n → ∃ x, oSt f n r x
  | 0, h => ⟨0, by rw [cn_none (fun j a b => by have := hf j a b; omega)]; exact r0, h⟩
  | b + 1, h => by
    by_cases c : r < wS (fun j => zp (f j ≤ b)) n
    · exact oSt_e hf r0 b c
    · refine ⟨((b + 1 : Nat) : Int), ?_, h⟩
      rw [wS_congr (q := fun j => zp (f j ≤ b)) n (fun k _ _ => zp_iff (by omega))]
      omega
/-- how many stand before place i -/
noncomputable def rkC (f : Int → Int) (n : Nat) (i : Int) : Int := wS (fun j => zp (f j < f i ∨ (f j = f i ∧ j < i))) n
theorem rkC_eq {f : Int → Int} {n i : Nat} (h : i ≤ n) : rkC f n i = wS (fun j => zp (f j < f i)) n + wS (fun j => zp (f j = f i)) i := by
  unfold rkC
  rw [cn_or (fun j _ _ q => by omega), cn_cut (P := fun j => f j = f i) n h]
theorem rkC_st {f : Int → Int} {n i : Nat} (h : i < n) : oSt f n (rkC f n i) (f i) := by
  rw [rkC_eq (by omega)]
  have e := cn_b (fun j => f j = f i) i
  refine ⟨by omega, ?_⟩
  rw [wS_congr (p := fun j => zp (f j ≤ f i)) (q := fun j => zp (f j < f i ∨ f j = f i)) n (fun k _ _ => zp_iff (by omega)), cn_or (fun j _ _ q => by omega)]
  have m := cn_mono (P := fun j => (f j = f i ∧ j < ((i + 1 : Nat) : Int))) (Q := fun j => f j = f i) n (fun j _ _ q => q.1)
  rw [cn_cut (P := fun j => f j = f i) n (show i + 1 ≤ n by omega)] at m
  rw [show wS (fun j => zp (f j = f i)) (i + 1) = wS (fun j => zp (f j = f i)) i + zp (f i = f i) from rfl, zp_pos rfl] at m
  omega
theorem rkC_ex {f : Int → Int} {n : Nat} {r x : Int} (h : oSt f n r x) : ∃ i : Nat, i < n ∧ rkC f n i = r := by
  unfold oSt at h
  rw [wS_congr (p := fun j => zp (f j ≤ x)) (q := fun j => zp (f j < x ∨ f j = x)) n (fun k _ _ => zp_iff (by omega)), cn_or (fun j _ _ q => by omega)] at h
  obtain ⟨i, a, b, c⟩ := cn_at (P := fun j => f j = x) (t := r - wS (fun j => zp (f j < x)) n) (by omega) n (by omega)
  refine ⟨i, a, ?_⟩
  rw [rkC_eq (by omega), b, c]
  omega
