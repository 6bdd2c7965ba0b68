/-! parting: what can be had -/
def ptD : Type := Int × (Int → Int → Int → Prop) × (Int → Int → Int → Int) × (Int → Int) × (Int → Int) × (Int → Int → Int)
def ptD.L (D : ptD) : Int := D.1
def ptD.cd (D : ptD) : Int → Int → Int → Prop := D.2.1
def ptD.pr (D : ptD) : Int → Int → Int → Int := D.2.2.1
def ptD.tg (D : ptD) : Int → Int := D.2.2.2.1
def ptD.ct (D : ptD) : Int → Int := D.2.2.2.2.1
def ptD.sw (D : ptD) : Int → Int → Int := D.2.2.2.2.2
def ptD.At (D : ptD) : Nat → Int → Int → Int → Int → Prop
  | 0, p, _, S, P => p = D.L ∧ S = 0 ∧ P = 1
  | k + 1, p, t, S, P => ∃ w l : Int, D.cd p w l ∧ ∃ s' p' : Int, D.At k (p + l) (D.tg w) s' p' ∧ S = s' + D.pr p w l + D.sw t (D.tg w) ∧ P = p' * D.ct w
def ptD.bE (D : ptD) (k : Nat) (p t S P : Int) : Prop := D.At k p t S P ∧ ∀ S' P', D.At k p t S' P' → S < S' ∨ (S = S' ∧ P' ≤ P)
def ptD.bR (D : ptD) (K : Nat) (p t S P : Int) (M : Nat) : Prop := (M ≤ K ∧ D.At M p t S P) ∧ ∀ (j : Nat) (S' P' : Int), j ≤ K → D.At j p t S' P' → S < S' ∨ (S = S' ∧ (P' < P ∨ (P' = P ∧ M ≤ j)))
/-- the data are sound: pieces are within the row and count at least one -/
def ptD.ok (D : ptD) : Prop := ∀ p w l, D.cd p w l → 1 ≤ l ∧ p + l ≤ D.L ∧ 1 ≤ D.ct w
theorem ptD.bE_u {D : ptD} {k : Nat} {p t S P S' P' : Int} (h : D.bE k p t S P) (h' : D.bE k p t S' P') : S = S' ∧ P = P' := by
  have a := h.2 _ _ h'.1
  have b := h'.2 _ _ h.1
  omega
theorem ptD.bR_u {D : ptD} {K : Nat} {p t S P S' P' : Int} {M M' : Nat} (h : D.bR K p t S P M) (h' : D.bR K p t S' P' M') : S = S' ∧ P = P' ∧ M = M' := by
  have a := h.2 _ _ _ h'.1.1 h'.1.2
  have b := h'.2 _ _ _ h.1.1 h.1.2
  omega
theorem ptD.bR_bE {D : ptD} {K : Nat} {p t S P : Int} {M : Nat} (h : D.bR K p t S P M) : D.bE M p t S P := by
  refine ⟨h.1.2, fun S' P' a => ?_⟩
  have := h.2 M S' P' h.1.1 a
  omega
theorem ptD.At_end {D : ptD} (ok : D.ok) : ∀ (k : Nat) (t S P : Int), D.At k D.L t S P → k = 0 ∧ S = 0 ∧ P = 1
  | 0, t, S, P, h => ⟨rfl, h.2⟩
  | k + 1, t, S, P, ⟨w, l, hc, _⟩ => by
    have := ok _ _ _ hc
    omega
theorem ptD.bR_end {D : ptD} (ok : D.ok) (K : Nat) (t : Int) : D.bR K D.L t 0 1 0 := by
  refine ⟨⟨by omega, rfl, rfl, rfl⟩, fun j S' P' _ h => ?_⟩
  have := D.At_end ok j t S' P' h
  omega
theorem ptD.At_pos {D : ptD} (ok : D.ok) : ∀ (k : Nat) (p t S P : Int), D.At k p t S P → 1 ≤ P
  | 0, p, t, S, P, h => by have := h.2.2; omega
  | k + 1, p, t, S, P, ⟨w, l, hc, s', p', h, e1, e2⟩ => by
    have a := D.At_pos ok k _ _ _ _ h
    have b := (ok _ _ _ hc).2.2
    rw [e2]
    have := Int.mul_le_mul a b (by omega) (by omega)
    omega
theorem mul_lt_i {a b c : Int} (h : a < b) (hc : 1 ≤ c) : a * c < b * c := Int.mul_lt_mul_of_pos_right h (by omega)
theorem mul_le_i {a b c : Int} (h : a ≤ b) (hc : 1 ≤ c) : a * c ≤ b * c := Int.mul_le_mul_of_nonneg_right h (by omega)
/-- the value of a first piece, by exact numbers and by numbers at most -/
def ptD.vE (D : ptD) (k : Nat) (p t w l S P : Int) : Prop := D.cd p w l ∧ ∃ s' p' : Int, D.bE k (p + l) (D.tg w) s' p' ∧ S = s' + D.pr p w l + D.sw t (D.tg w) ∧ P = p' * D.ct w
def ptD.vR (D : ptD) (K : Nat) (p t w l S P : Int) (M : Nat) : Prop := D.cd p w l ∧ ∃ (s' p' : Int) (m' : Nat), D.bR K (p + l) (D.tg w) s' p' m' ∧ S = s' + D.pr p w l + D.sw t (D.tg w) ∧ P = p' * D.ct w ∧ M = m' + 1
theorem ptD.vE_At {D : ptD} {k : Nat} {p t w l S P : Int} (h : D.vE k p t w l S P) : D.At (k + 1) p t S P := by
  obtain ⟨hc, s', p', hb, e1, e2⟩ := h
  exact ⟨w, l, hc, s', p', hb.1, e1, e2⟩
theorem ptD.vR_At {D : ptD} {K : Nat} {p t w l S P : Int} {M : Nat} (h : D.vR K p t w l S P M) : M ≤ K + 1 ∧ D.At M p t S P := by
  obtain ⟨hc, s', p', m', hb, e1, e2, e3⟩ := h
  subst e3
  exact ⟨by have := hb.1.1; omega, w, l, hc, s', p', hb.1.2, e1, e2⟩
/-- from best first pieces to the best -/
theorem ptD.bE_of {D : ptD} (ok : D.ok) {k : Nat} {p t S P : Int} (h1 : ∃ w l, D.vE k p t w l S P) (h2 : ∀ w l S' P', D.vE k p t w l S' P' → S < S' ∨ (S = S' ∧ P' ≤ P)) (ex : ∀ w l, D.cd p w l → ∀ s q, D.At k (p + l) (D.tg w) s q → ∃ s' q', D.bE k (p + l) (D.tg w) s' q') : D.bE (k + 1) p t S P := by
  obtain ⟨w, l, hv⟩ := h1
  refine ⟨D.vE_At hv, fun S' P' ⟨w', l', hc, s, q, ha, e1, e2⟩ => ?_⟩
  obtain ⟨s', q', hb⟩ := ex w' l' hc s q ha
  have a := hb.2 s q ha
  have b := h2 w' l' (s' + D.pr p w' l' + D.sw t (D.tg w')) (q' * D.ct w') ⟨hc, s', q', hb, rfl, rfl⟩
  have cp := (ok _ _ _ hc).2.2
  rcases a with a | ⟨a1, a2⟩
  · rcases b with b | b <;> exact Or.inl (by omega)
  · have m := mul_le_i a2 cp
    rcases b with b | b
    · exact Or.inl (by omega)
    · exact Or.inr ⟨by omega, by omega⟩
theorem ptD.bR_of {D : ptD} (ok : D.ok) {K : Nat} {p t S P : Int} {M : Nat} (hp : p ≠ D.L) (h1 : ∃ w l, D.vR K p t w l S P M) (h2 : ∀ w l S' P' M', D.vR K p t w l S' P' M' → S < S' ∨ (S = S' ∧ (P' < P ∨ (P' = P ∧ M ≤ M')))) (ex : ∀ w l, D.cd p w l → ∀ (j : Nat) s q, j ≤ K → D.At j (p + l) (D.tg w) s q → ∃ s' q' m', D.bR K (p + l) (D.tg w) s' q' m') : D.bR (K + 1) p t S P M := by
  obtain ⟨w, l, hv⟩ := h1
  refine ⟨D.vR_At hv, fun j S' P' hj ha => ?_⟩
  cases j with
  | zero => exact absurd ha.1 hp
  | succ j =>
    obtain ⟨w', l', hc, s, q, ha, e1, e2⟩ := ha
    obtain ⟨s', q', m', hb⟩ := ex w' l' hc j s q (by omega) ha
    have a := hb.2 j s q (by omega) ha
    have b := h2 w' l' (s' + D.pr p w' l' + D.sw t (D.tg w')) (q' * D.ct w') (m' + 1) ⟨hc, s', q', m', hb, rfl, rfl, rfl⟩
    have cp := (ok _ _ _ hc).2.2
    rcases a with a | ⟨a1, a2⟩
    · rcases b with b | b <;> exact Or.inl (by omega)
    · rcases a2 with a2 | ⟨a2, a3⟩
      · have m := mul_lt_i a2 cp
        rcases b with b | b
        · exact Or.inl (by omega)
        · exact Or.inr ⟨by omega, Or.inl (by omega)⟩
      · rw [a2] at e2
        rcases b with b | ⟨b1, b2⟩
        · exact Or.inl (by omega)
        · rcases b2 with b2 | ⟨b2, b3⟩
          · exact Or.inr ⟨by omega, Or.inl (by omega)⟩
          · exact Or.inr ⟨by omega, Or.inr ⟨by omega, by omega⟩⟩
/-- both sides look for the same first piece -/
theorem ptD.vER {D : ptD} (ok : D.ok) {K k : Nat} {p t S P : Int} (h : D.bR (K + 1) p t S P (k + 1)) (ex : ∀ w l, D.cd p w l → ∀ (j : Nat) s q, j ≤ K → D.At j (p + l) (D.tg w) s q → ∃ s' q' m', D.bR K (p + l) (D.tg w) s' q' m') {w l : Int} : D.vE k p t w l S P ↔ D.vR K p t w l S P (k + 1) := by
  constructor
  · rintro ⟨hc, s', q', hb, e1, e2⟩
    have hk : k ≤ K := by have := h.1.1; omega
    obtain ⟨s, q, m, hr⟩ := ex w l hc k s' q' hk hb.1
    have a := hr.2 k s' q' hk hb.1
    have v : D.vR K p t w l (s + D.pr p w l + D.sw t (D.tg w)) (q * D.ct w) (m + 1) := ⟨hc, s, q, m, hr, rfl, rfl, rfl⟩
    have b := h.2 (m + 1) _ _ (D.vR_At v).1 (D.vR_At v).2
    have cp := (ok _ _ _ hc).2.2
    have es : s = s' := by
      rcases a with a | a <;> rcases b with b | b <;> omega
    subst es
    have eq : q = q' := by
      rcases Int.lt_trichotomy q q' with c | c | c
      · rcases a with a | a <;> omega
      · exact c
      · have m := mul_lt_i c cp
        rcases b with b | b <;> omega
    subst eq
    refine ⟨hc, s, q, m, hr, e1, e2, ?_⟩
    rcases a with a | a <;> rcases b with b | b <;> omega
  · rintro ⟨hc, s', q', m', hb, e1, e2, e3⟩
    have : m' = k := by omega
    subst this
    exact ⟨hc, s', q', ptD.bR_bE hb, e1, e2⟩
