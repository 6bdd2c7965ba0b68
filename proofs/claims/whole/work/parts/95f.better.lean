/-! better: exchanges -/
def goodF (n : Nat) (f : Int → Int) : Prop := (∀ i : Int, 0 ≤ i → i < n → 0 ≤ f i ∧ f i < n) ∧ ∀ i j : Int, 0 ≤ i → i < n → 0 ≤ j → j < n → i ≠ j → f i ≠ f j
def trI (a b x : Int) : Int := if x = b then a else if x = a then b else x
theorem exF_tr (f : Int → Int) (a b x : Int) : exF f a b x = f (trI a b x) := by
  unfold exF trI
  split
  · rfl
  · split <;> rfl
theorem exF_2 (f : Int → Int) (a b : Int) : exF (exF f a b) a b = f := by
  funext x
  rw [exF_tr, exF_tr]
  congr 1
  unfold trI
  grind
theorem trI_b {n : Int} {a b x : Int} (a0 : 0 ≤ a) (a1 : a < n) (b0 : 0 ≤ b) (b1 : b < n) (x0 : 0 ≤ x) (x1 : x < n) : 0 ≤ trI a b x ∧ trI a b x < n := by
  unfold trI
  split
  · omega
  · split <;> omega
theorem goodF_ex {n : Nat} {f : Int → Int} {a b : Int} (h : goodF n f) (a0 : 0 ≤ a) (a1 : a < n) (b0 : 0 ≤ b) (b1 : b < n) : goodF n (exF f a b) := by
  refine ⟨fun i i0 i1 => ?_, fun i j i0 i1 j0 j1 hij => ?_⟩
  · have := trI_b a0 a1 b0 b1 i0 i1
    rw [exF_tr]
    exact h.1 _ this.1 this.2
  · have p := trI_b a0 a1 b0 b1 i0 i1
    have q := trI_b a0 a1 b0 b1 j0 j1
    rw [exF_tr, exF_tr]
    refine h.2 _ _ p.1 p.2 q.1 q.2 ?_
    clear p q h
    unfold trI
    grind
/-- a row as a list -/
theorem row_list {n : Nat} {f : Int → Int} (h : goodF n f) : ∃ q, q ∈ allP n ∧ ∀ i : Int, 0 ≤ i → i < n → rowL q i = f i := by
  refine ⟨(List.range n).map fun i => (f (i : Nat)).toNat, allP_mem.2 ⟨by simp, fun x hx => ?_, ?_⟩, fun i i0 i1 => ?_⟩
  · obtain ⟨i, hi, rfl⟩ := List.mem_map.1 hx
    have := h.1 i (by omega) (by have := List.mem_range.1 hi; omega)
    omega
  · rw [List.Nodup, List.pairwise_map]
    refine List.Pairwise.imp_of_mem ?_ (List.nodup_range (n := n))
    intro i j hi hj hij
    have i1 := List.mem_range.1 hi
    have j1 := List.mem_range.1 hj
    have := h.2 i j (by omega) (by omega) (by omega) (by omega) (by omega)
    have p := h.1 i (by omega) (by omega)
    have q := h.1 j (by omega) (by omega)
    omega
  · unfold rowL
    rw [List.getD_eq_getElem?_getD, List.getElem?_map, List.getElem?_range (by omega)]
    have := h.1 i i0 i1
    show (((f ((i.toNat : Nat) : Int)).toNat : Nat) : Int) = f i
    rw [show ((i.toNat : Nat) : Int) = i by omega]
    omega
/-- how many layouts cost less -/
def pot (τ : kzM) (c : Int) : List (List Nat) → Nat
  | [] => 0
  | q :: L => pot τ c L + if cP τ (rowL q) < c then 1 else 0
theorem pot_le {τ : kzM} {c d : Int} (h : c ≤ d) : ∀ L, pot τ c L ≤ pot τ d L
  | [] => Nat.le_refl _
  | q :: L => by
    have := pot_le (τ := τ) h L
    unfold pot
    split <;> split <;> omega
theorem pot_lt {τ : kzM} {q : List Nat} {d : Int} (h : cP τ (rowL q) < d) : ∀ L, q ∈ L → pot τ (cP τ (rowL q)) L < pot τ d L
  | [], hq => absurd hq List.not_mem_nil
  | x :: L, hq => by
    have l := pot_le (τ := τ) (c := cP τ (rowL q)) (d := d) (by omega) L
    unfold pot
    rcases List.mem_cons.1 hq with e | e
    · subst e
      rw [if_pos h, if_neg (by omega)]
      omega
    · have := pot_lt h L e
      split <;> split <;> omega
theorem pot_len {τ : kzM} {c : Int} : ∀ L, pot τ c L ≤ L.length
  | [] => Nat.le_refl _
  | q :: L => by
    have := pot_len (τ := τ) (c := c) L
    unfold pot
    rw [List.length_cons]
    split <;> omega
/-- the best exchange -/
def stx (τ : kzM) (f : Int → Int) (i j : Int) (s : Int × Int × Int) : Int × Int × Int := if cP τ (exF f i j) < s.1 then (cP τ (exF f i j), i, j) else s
def inX (τ : kzM) (f : Int → Int) (i : Int) : Nat → Int → Int × Int × Int → Int × Int × Int
  | 0, _, s => s
  | k + 1, j, s => inX τ f i k (j + 1) (stx τ f i j s)
def outX (τ : kzM) (f : Int → Int) : Nat → Int → Int × Int × Int → Int × Int × Int
  | 0, _, s => s
  | k + 1, i, s => outX τ f k (i + 1) (inX τ f i k (i + 1) s)
def okX (τ : kzM) (n : Nat) (f : Int → Int) (s : Int × Int × Int) : Prop := (s.2.1 = -1 ∧ s.1 = cP τ f) ∨ (0 ≤ s.2.1 ∧ s.2.1 < s.2.2 ∧ s.2.2 < n ∧ s.1 = cP τ (exF f s.2.1 s.2.2) ∧ s.1 < cP τ f)
theorem okX_st {τ : kzM} {n : Nat} {f : Int → Int} {i j : Int} {s : Int × Int × Int} (i0 : 0 ≤ i) (ij : i < j) (jn : j < n) (h : okX τ n f s) : okX τ n f (stx τ f i j s) := by
  unfold stx
  split
  · rename_i c
    refine Or.inr ⟨i0, ij, jn, rfl, ?_⟩
    dsimp only
    rcases h with h | h <;> omega
  · exact h
theorem okX_in {τ : kzM} {n : Nat} {f : Int → Int} {i : Int} (i0 : 0 ≤ i) : ∀ (k : Nat) (j : Int) (s : Int × Int × Int), i < j → j + k = n → okX τ n f s → okX τ n f (inX τ f i k j s)
  | 0, _, _, _, _, h => h
  | k + 1, j, s, ij, jk, h => by
    unfold inX
    exact okX_in i0 k (j + 1) _ (by omega) (by omega) (okX_st i0 ij (by omega) h)
theorem okX_out {τ : kzM} {n : Nat} {f : Int → Int} : ∀ (k : Nat) (i : Int) (s : Int × Int × Int), 0 ≤ i → i + k = n → okX τ n f s → okX τ n f (outX τ f k i s)
  | 0, _, _, _, _, h => h
  | k + 1, i, s, i0, ik, h => by
    unfold outX
    exact okX_out k (i + 1) _ (by omega) (by omega) (okX_in i0 k (i + 1) s (by omega) (by omega) h)
def bxF (τ : kzM) (n : Nat) (f : Int → Int) : Int × Int × Int := outX τ f n 0 (cP τ f, -1, -1)
theorem bxF_ok (τ : kzM) (n : Nat) (f : Int → Int) : okX τ n f (bxF τ n f) := okX_out n 0 _ (by omega) (by omega) (Or.inl ⟨rfl, rfl⟩)
/-- exchanges as long as they help -/
def runX (τ : kzM) (n : Nat) : Nat → (Int → Int) → (Int → Int) × Int
  | 0, f => (f, 0)
  | k + 1, f => if (bxF τ n f).2.1 = -1 then (f, 0) else ((runX τ n k (exF f (bxF τ n f).2.1 (bxF τ n f).2.2)).1, (runX τ n k (exF f (bxF τ n f).2.1 (bxF τ n f).2.2)).2 + 1)
def potF (τ : kzM) (n : Nat) (f : Int → Int) : Nat := pot τ (cP τ f) (allP n)
theorem bx_step {τ : kzM} {n : Nat} (h5 : τ.1 588 0 = n) {f : Int → Int} (h : goodF n f) (c : ¬(bxF τ n f).2.1 = -1) : (0 ≤ (bxF τ n f).2.1 ∧ (bxF τ n f).2.1 < (bxF τ n f).2.2 ∧ (bxF τ n f).2.2 < n) ∧ goodF n (exF f (bxF τ n f).2.1 (bxF τ n f).2.2) ∧ potF τ n (exF f (bxF τ n f).2.1 (bxF τ n f).2.2) < potF τ n f := by
  have o := bxF_ok τ n f
  generalize bxF τ n f = s at c o ⊢
  rcases o with o | ⟨a, b, d, e, g⟩
  · exact absurd o.1 c
  · have hg := goodF_ex h a (by omega) (show 0 ≤ s.2.2 by omega) d
    refine ⟨⟨a, b, d⟩, hg, ?_⟩
    obtain ⟨q, q1, q2⟩ := row_list hg
    unfold potF
    have e2 : cP τ (exF f s.2.1 s.2.2) = cP τ (rowL q) := cP_cg fun j j0 j1 => (q2 j j0 (by omega)).symm
    rw [e2]
    rw [e, e2] at g
    exact pot_lt g _ q1
theorem runX_b {τ : kzM} {n : Nat} (h5 : τ.1 588 0 = n) : ∀ (k : Nat) (f : Int → Int), goodF n f → 0 ≤ (runX τ n k f).2 ∧ (runX τ n k f).2 ≤ k ∧ goodF n (runX τ n k f).1
  | 0, f, h => ⟨Int.le_refl _, Int.le_refl _, h⟩
  | k + 1, f, h => by
    unfold runX
    by_cases c : (bxF τ n f).2.1 = -1
    · rw [if_pos c]
      exact ⟨by dsimp only; omega, by dsimp only; omega, h⟩
    · rw [if_neg c]
      have := runX_b h5 k _ (bx_step h5 h c).2.1
      exact ⟨by dsimp only; omega, by dsimp only; omega, this.2.2⟩
