/-! ways: peaks -/
def pkJ (M : Nat) (c : Int → Int) (A : Int → Int → Prop) (s x : Int) (dn : Int → Prop) (pk st : Int → Int) : Prop := pk s = c s ∧ (∀ v : Int, 0 ≤ v → v < M → pk v < 1000000000 → cnn M c A s (pk v) v) ∧ (∀ u v : Int, 0 ≤ u → u < M → 0 ≤ v → v < M → st u = 1 → A u v → (u = x → dn v) → pk v ≤ if pk u ≤ c v then c v else pk u) ∧ (∀ u v : Int, 0 ≤ u → u < M → 0 ≤ v → v < M → st u = 1 → ¬st v = 1 → pk u ≤ pk v) ∧ st x = 1 ∧ ∀ u : Int, 0 ≤ u → u < M → st u = 1 → pk u ≤ pk x
theorem pkJ_set {M : Nat} {c : Int → Int} {A : Int → Int → Prop} {s x : Int} {pk st st' : Int → Int} (h : pkI M c A s pk st) (x0 : 0 ≤ x) (x1 : x < M) (hx : ¬st x = 1) (hm : ∀ w : Int, 0 ≤ w → w < M → ¬st w = 1 → pk x ≤ pk w) (e1 : st' x = 1) (e2 : ∀ w, w ≠ x → st' w = st w) : pkJ M c A s x (fun _ => False) pk st' := by
  obtain ⟨h1, h2, h3, h4⟩ := h
  refine ⟨h1, h2, fun u v u0 u1 v0 v1 su a dn => ?_, fun u v u0 u1 v0 v1 su sv => ?_, e1, fun u u0 u1 su => ?_⟩
  · have y : u ≠ x := fun z => dn z
    rw [e2 u y] at su
    exact h3 u v u0 u1 v0 v1 su a
  · have z : v ≠ x := fun z => sv (by rw [z]; exact e1)
    rw [e2 v z] at sv
    by_cases y : u = x
    · rw [y]; exact hm v v0 v1 sv
    · rw [e2 u y] at su
      exact h4 u v u0 u1 v0 v1 su sv
  · by_cases y : u = x
    · rw [y]; exact Int.le_refl _
    · rw [e2 u y] at su
      exact h4 u x u0 u1 x0 x1 su hx
theorem pkJ_rel {M : Nat} {c : Int → Int} {A : Int → Int → Prop} {s x v : Int} {dn dn' : Int → Prop} {pk pk' st : Int → Int} (h : pkJ M c A s x dn pk st) (x0 : 0 ≤ x) (x1 : x < M) (v0 : 0 ≤ v) (v1 : v < M) (a : A x v) (hd : ∀ w, dn' w → dn w ∨ w = v) (e1 : pk' v = if pk v ≤ (if pk x ≤ c v then c v else pk x) then pk v else (if pk x ≤ c v then c v else pk x)) (e2 : ∀ w, w ≠ v → pk' w = pk w) (hc : c v < 1000000000) : pkJ M c A s x dn' pk' st := by
  obtain ⟨h1, h2, h3, h4, h5, h6⟩ := h
  have sam : ∀ u : Int, 0 ≤ u → u < M → st u = 1 → pk' u = pk u := fun u u0 u1 su => by
    by_cases y : u = v
    · rw [y, e1]
      have := h6 u u0 u1 su
      rw [y] at this
      rw [if_pos (by split <;> omega)]
    · exact e2 u y
  have le : ∀ w : Int, pk' w ≤ pk w := fun w => by
    by_cases y : w = v
    · rw [y, e1]
      split <;> omega
    · rw [e2 w y]; exact Int.le_refl _
  refine ⟨?_, fun w w0 w1 hw => ?_, fun u w u0 u1 w0 w1 su ha hdn => ?_, fun u w u0 u1 w0 w1 su sw => ?_, h5, fun u u0 u1 su => ?_⟩
  · by_cases y : s = v
    · rw [y, e1, ← y, h1, if_pos (by split <;> omega)]
    · rw [e2 s y]; exact h1
  · by_cases y : w = v
    · subst y
      rw [e1] at hw ⊢
      by_cases z : pk w ≤ (if pk x ≤ c w then c w else pk x)
      · rw [if_pos z] at hw ⊢
        exact h2 w w0 w1 hw
      · rw [if_neg z] at hw ⊢
        have px : pk x < 1000000000 := by
          by_cases q : pk x ≤ c w
          · omega
          · rw [if_neg q] at hw; exact hw
        obtain ⟨k, hk⟩ := h2 x x0 x1 px
        refine ⟨k + 1, Or.inr ⟨by split <;> omega, x, ⟨x0, x1⟩, rcK_t (by split <;> omega) k x hk, a⟩⟩
    · rw [e2 w y] at hw ⊢
      exact h2 w w0 w1 hw
  · rw [sam u u0 u1 su]
    by_cases z : u = x ∧ w = v
    · obtain ⟨rfl, rfl⟩ := z
      rw [e1]
      (repeat' split) <;> omega
    · refine Int.le_trans (le w) (h3 u w u0 u1 w0 w1 su ha fun y => ?_)
      rcases hd w (hdn y) with q | q
      · exact q
      · exact absurd ⟨y, q⟩ z
  · rw [sam u u0 u1 su]
    have p := h4 u w u0 u1 w0 w1 su sw
    by_cases y : w = v
    · rw [y, e1]
      have := h6 u u0 u1 su
      rw [y] at p
      (repeat' split) <;> omega
    · rw [e2 w y]; exact p
  · rw [sam u u0 u1 su, sam x x0 x1 h5]
    exact h6 u u0 u1 su
theorem pkJ_end {M : Nat} {c : Int → Int} {A : Int → Int → Prop} {s x : Int} {dn : Int → Prop} {pk st : Int → Int} (h : pkJ M c A s x dn pk st) (hd : ∀ w : Int, 0 ≤ w → w < M → A x w → dn w) : pkI M c A s pk st := by
  obtain ⟨h1, h2, h3, h4, h5, h6⟩ := h
  exact ⟨h1, h2, fun u v u0 u1 v0 v1 su a => h3 u v u0 u1 v0 v1 su a (fun y => hd v v0 v1 (by rw [← y]; exact a)), h4⟩
theorem pkI_0 {M : Nat} {c : Int → Int} {A : Int → Int → Prop} {s : Int} {pk st : Int → Int} (h1 : pk s = c s) (h2 : ∀ v : Int, 0 ≤ v → v < M → v ≠ s → pk v = 1000000000) (h3 : ∀ v : Int, 0 ≤ v → v < M → st v = 0) : pkI M c A s pk st := by
  refine ⟨h1, fun v v0 v1 hv => ?_, fun u v u0 u1 _ _ su => ?_, fun u v u0 u1 _ _ su => ?_⟩
  · by_cases y : v = s
    · subst y
      exact ⟨0, rfl, by omega⟩
    · have := h2 v v0 v1 y
      omega
  · have := h3 u u0 u1; omega
  · have := h3 u u0 u1; omega
/-- both lists of distances -/
theorem disL_eq {M : Nat} {c : Int → Int} {A : Int → Int → Prop} {s t n n' : Int} {D D' : Int → Int} (h : disL M c A s t n D) (h' : disL M c A s t n' D') {v : Int} (v0 : 0 ≤ v) (v1 : v < M) : (D v = D' v ∧ 0 ≤ D v ∧ D v < M ∧ cnn M c A s t v) ∨ (D v = n ∧ D' v = n' ∧ ¬cnn M c A s t v) := by
  rcases h v v0 v1 with ⟨d, a, b, e⟩ | ⟨a, b⟩
  · rcases h' v v0 v1 with ⟨d', a', b', e'⟩ | ⟨a', b'⟩
    · have := dst_u e e'
      subst this
      exact Or.inl ⟨by omega, by omega, by omega, d, e.1⟩
    · exact absurd ⟨d, e.1⟩ b'
  · rcases h' v v0 v1 with ⟨d', a', b', e'⟩ | ⟨a', b'⟩
    · exact absurd ⟨d', e'.1⟩ b
    · exact Or.inr ⟨a, a', b⟩
/-- the first one of a kind -/
def isF (M : Nat) (P : Int → Prop) (r : Int) : Prop := (0 ≤ r ∧ r < M) ∧ P r ∧ ∀ w : Int, 0 ≤ w → w < r → ¬P w
theorem isF_u {M : Nat} {P Q : Int → Prop} {r r' : Int} (hPQ : ∀ w : Int, 0 ≤ w → w < M → (P w ↔ Q w)) (h : isF M P r) (k : isF M Q r') : r = r' := by
  obtain ⟨⟨a1, a2⟩, a3, a4⟩ := h
  obtain ⟨⟨b1, b2⟩, b3, b4⟩ := k
  rcases Int.lt_trichotomy r r' with x | x | x
  · exact absurd ((hPQ r a1 a2).1 a3) (b4 r a1 x)
  · exact x
  · exact absurd ((hPQ r' b1 b2).2 b3) (a4 r' b1 x)
/-- a step onward of what was counted from the other end -/
theorem dst_on {M : Nat} {c : Int → Int} {A : Int → Int → Prop} {s t : Int} {d : Nat} {v : Int} (h : dst M c A s t (d + 1) v) : ∃ u : Int, (0 ≤ u ∧ u < M) ∧ dst M c A s t d u ∧ A u v := by
  rcases h.1 with q | ⟨q, u, hr, hu, ha⟩
  · exact absurd q (h.2 d (by omega))
  · refine ⟨u, hr, ⟨hu, fun k hk hh => ?_⟩, ha⟩
    exact h.2 (k + 1) (by omega) (Or.inr ⟨q, u, hr, hh, ha⟩)
