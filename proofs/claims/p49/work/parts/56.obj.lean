/-! what holds of one object between calls: the class's cells by themselves -/
def md (a : Nat) (_ : Int) : Nat := if a = 1 ∨ a = 2 then 1 else if (337 ≤ a ∧ a ≤ 463) then 5 else if a = 465 then 6 else if (581 ≤ a ∧ a ≤ 586) then 8 else if a = 580 ∨ a = 587 then 11 else 20
def Sm (m : Nat) (τ τ' : kzM) : Prop := ∀ a j, md a j = m → τ'.1 a j = τ.1 a j
def I1 (τ : kzM) : Prop := (0 ≤ τ.1 1 1 ∧ τ.1 1 1 ≤ 16) ∧ True ∧ ∀ j, 0 ≤ j → j < τ.1 1 1 → (0 ≤ τ.1 2 j ∧ τ.1 2 j ≤ 11) ∧ True
def eqR (τ : kzM) (a : Nat) (lo hi most : Int) : Prop := (1 ≤ τ.1 a 1 ∧ τ.1 a 1 ≤ most) ∧ True ∧ ∀ j, 0 ≤ j → j < τ.1 a 1 → (lo ≤ τ.1 (a + 1) j ∧ τ.1 (a + 1) j ≤ hi) ∧ True
def I5 (τ : kzM) : Prop := (0 ≤ τ.1 337 1 ∧ τ.1 337 1 ≤ 60) ∧ τ.1 339 1 = τ.1 337 1 ∧ τ.1 341 1 = τ.1 337 1 ∧ True ∧ ∀ w, 0 ≤ w → w < τ.1 337 1 → ((0 ≤ τ.1 338 w ∧ τ.1 338 w ≤ 2) ∧ True) ∧ ((1 ≤ τ.1 340 w ∧ τ.1 340 w ≤ 999) ∧ True) ∧ ((1 ≤ τ.1 342 w ∧ τ.1 342 w ≤ 100) ∧ True) ∧ eqR τ (344 + 2 * w.toNat) 0 11 8
def I6 (τ : kzM) : Prop := ∀ i, 0 ≤ i → i < 6 → (0 ≤ τ.1 465 i ∧ τ.1 465 i ≤ 20) ∧ True
def I8l (τ : kzM) : Prop := (0 ≤ τ.1 581 1 ∧ τ.1 581 1 ≤ 60) ∧ τ.1 583 1 = τ.1 581 1 ∧ τ.1 585 1 = τ.1 581 1 ∧ True ∧ ∀ k, 0 ≤ k → k < τ.1 581 1 → ((0 ≤ τ.1 582 k ∧ τ.1 582 k ≤ 3) ∧ True) ∧ ((0 ≤ τ.1 584 k ∧ τ.1 584 k ≤ 59) ∧ True) ∧ ((0 ≤ τ.1 586 k ∧ τ.1 586 k ≤ 3000) ∧ True)
def I8b (τ : kzM) : Prop := ((0 ≤ τ.1 580 4 ∧ τ.1 580 4 ≤ 1000) ∧ True) ∧ ((0 ≤ τ.1 580 5 ∧ τ.1 580 5 ≤ 2147483646) ∧ True) ∧ ∀ h, 0 ≤ h → h < 4 → (0 ≤ τ.1 587 h ∧ τ.1 587 h ≤ 1000) ∧ True
def Inv (τ : kzM) : Prop := I1 τ ∧ True ∧ True ∧ True ∧ I5 τ ∧ I6 τ ∧ (True ∧ True) ∧ (I8l τ ∧ I8b τ) ∧ True
set_option maxRecDepth 100000 in
theorem I1.cg {τ τ' : kzM} (h : ∀ a j, (a = 1 ∨ a = 2) → τ'.1 a j = τ.1 a j) (q : I1 τ) : I1 τ' := by
  unfold I1 at q ⊢
  simp only [fun j => h 1 j (Or.inl rfl), fun j => h 2 j (Or.inr rfl)]
  exact q
set_option maxRecDepth 100000 in
theorem I5.cg {τ τ' : kzM} (e : ∀ a j, (337 ≤ a ∧ a ≤ 463) → τ'.1 a j = τ.1 a j) (q : I5 τ) : I5 τ' := by
  unfold I5 at q ⊢
  rw [e 337 _ (by omega), e 339 _ (by omega), e 341 _ (by omega)]
  refine ⟨q.1, q.2.1, q.2.2.1, q.2.2.2.1, fun w h0 h1 => ?_⟩
  obtain ⟨a1, a2, a3, a4⟩ := q.2.2.2.2 w h0 h1
  have := q.1
  unfold eqR at a4 ⊢
  simp only [fun j => e 338 j (by omega), fun j => e 340 j (by omega), fun j => e 342 j (by omega), fun j => e (344 + 2 * w.toNat) j (by omega), fun j => e (344 + 2 * w.toNat + 1) j (by omega)]
  exact ⟨a1, a2, a3, a4⟩
set_option maxRecDepth 100000 in
theorem I6.cg {τ τ' : kzM} (h : ∀ j, τ'.1 465 j = τ.1 465 j) (q : I6 τ) : I6 τ' := by
  unfold I6 at q ⊢
  simp only [h]
  exact q
set_option maxRecDepth 100000 in
theorem I8l.cg {τ τ' : kzM} (h : ∀ a j, (581 ≤ a ∧ a ≤ 586) → τ'.1 a j = τ.1 a j) (q : I8l τ) : I8l τ' := by
  unfold I8l at q ⊢
  simp only [fun j => h 581 j (by omega), fun j => h 582 j (by omega), fun j => h 583 j (by omega), fun j => h 584 j (by omega), fun j => h 585 j (by omega), fun j => h 586 j (by omega)]
  exact q
set_option maxRecDepth 100000 in
theorem I8b.cg {τ τ' : kzM} (h : ∀ a j, (a = 580 ∨ a = 587) → τ'.1 a j = τ.1 a j) (q : I8b τ) : I8b τ' := by
  unfold I8b at q ⊢
  simp only [fun j => h 580 j (by omega), fun j => h 587 j (by omega)]
  exact q
set_option maxRecDepth 100000 in
theorem I8l.to {τ τ' : kzM} (h : Sm 8 τ τ') (q : I8l τ) : I8l τ' := q.cg fun a j z => h a j (by unfold md; rw [if_neg (by omega), if_neg (by omega), if_neg (by omega), if_pos z])
/-- the cells that count -/
def Rv (a : Nat) : Prop := a = 1 ∨ a = 2 ∨ (337 ≤ a ∧ a ≤ 463) ∨ a = 465 ∨ (580 ≤ a ∧ a ≤ 587)
set_option maxRecDepth 100000 in
theorem Inv.cg {τ τ' : kzM} (h : ∀ a j, Rv a → τ'.1 a j = τ.1 a j) (q : Inv τ) : Inv τ' := by
  obtain ⟨i1, -, -, -, i5, i6, -, ⟨i8, i11⟩, -⟩ := q
  exact ⟨i1.cg fun a j z => h a j (by unfold Rv; omega), trivial, trivial, trivial, i5.cg fun a j z => h a j (by unfold Rv; omega), i6.cg fun j => h 465 j (by unfold Rv; omega), ⟨trivial, trivial⟩, ⟨i8.cg fun a j z => h a j (by unfold Rv; omega), i11.cg fun a j z => h a j (by unfold Rv; omega)⟩, trivial⟩
set_option maxRecDepth 100000 in
theorem Inv.mk5 {τ : kzM} (i1 : I1 τ) (i5 : I5 τ) (i6 : I6 τ) (i8 : I8l τ) (i11 : I8b τ) : Inv τ := ⟨i1, trivial, trivial, trivial, i5, i6, ⟨trivial, trivial⟩, ⟨i8, i11⟩, trivial⟩
/-- the numbers of an object that the law speaks of: keys on the pad, words, fading, the lots' seed, budgets, learnings -/
def Ob (τ : kzM) (pd n f x : Int) (B : Int → Int) (m : Int) (fh fw fd : Int → Int) : Prop := Inv τ ∧ τ.1 1 1 = pd ∧ τ.1 337 1 = n ∧ τ.1 580 4 = f ∧ τ.1 580 5 = x ∧ (∀ h, 0 ≤ h → h < 4 → τ.1 587 h = B h) ∧ τ.1 581 1 = m ∧ ∀ k, 0 ≤ k → k < m → τ.1 582 k = fh k ∧ τ.1 584 k = fw k ∧ τ.1 586 k = fd k
theorem Ob.cg {τ τ' : kzM} {pd n f x : Int} {B : Int → Int} {m : Int} {fh fw fd : Int → Int} (h : ∀ a j, Rv a → τ'.1 a j = τ.1 a j) (q : Ob τ pd n f x B m fh fw fd) : Ob τ' pd n f x B m fh fw fd := by
  obtain ⟨q1, q2, q3, q4, q5, q6, q7, q8⟩ := q
  refine ⟨q1.cg h, ?_, ?_, ?_, ?_, fun k k0 k1 => ?_, ?_, fun k k0 k1 => ?_⟩
  · rw [h 1 1 (by unfold Rv; omega)]; exact q2
  · rw [h 337 1 (by unfold Rv; omega)]; exact q3
  · rw [h 580 4 (by unfold Rv; omega)]; exact q4
  · rw [h 580 5 (by unfold Rv; omega)]; exact q5
  · rw [h 587 k (by unfold Rv; omega)]; exact q6 k k0 k1
  · rw [h 581 1 (by unfold Rv; omega)]; exact q7
  · rw [h 582 k (by unfold Rv; omega), h 584 k (by unfold Rv; omega), h 586 k (by unfold Rv; omega)]; exact q8 k k0 k1
