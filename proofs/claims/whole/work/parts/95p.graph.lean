/-! ways: what can be reached under a bound -/
def rcK (M : Nat) (c : Int → Int) (A : Int → Int → Prop) (s t : Int) : Nat → Int → Prop
  | 0, v => v = s ∧ c s ≤ t
  | k + 1, v => rcK M c A s t k v ∨ (c v ≤ t ∧ ∃ u : Int, (0 ≤ u ∧ u < M) ∧ rcK M c A s t k u ∧ A u v)
theorem rcK_c {M : Nat} {c : Int → Int} {A : Int → Int → Prop} {s t : Int} : ∀ (k : Nat) (v : Int), rcK M c A s t k v → c v ≤ t ∧ c s ≤ t
  | 0, v, h => ⟨by rw [h.1]; exact h.2, h.2⟩
  | k + 1, v, h => by
    rcases h with h | ⟨h, u, _, hu, _⟩
    · exact rcK_c k v h
    · exact ⟨h, (rcK_c k u hu).2⟩
theorem rcK_le {M : Nat} {c : Int → Int} {A : Int → Int → Prop} {s t : Int} {k : Nat} {v : Int} (h : rcK M c A s t k v) : ∀ m : Nat, k ≤ m → rcK M c A s t m v
  | 0, hm => by rw [show k = 0 by omega] at h; exact h
  | m + 1, hm => by
    by_cases e : k = m + 1
    · rw [← e]; exact h
    · exact Or.inl (rcK_le h m (by omega))
theorem rcK_t {M : Nat} {c : Int → Int} {A : Int → Int → Prop} {s t t' : Int} (ht : t ≤ t') : ∀ (k : Nat) (v : Int), rcK M c A s t k v → rcK M c A s t' k v
  | 0, v, h => ⟨h.1, by have := h.2; omega⟩
  | k + 1, v, h => by
    rcases h with h | ⟨h, u, hr, hu, ha⟩
    · exact Or.inl (rcK_t ht k v h)
    · exact Or.inr ⟨by omega, u, hr, rcK_t ht k u hu, ha⟩
def cnn (M : Nat) (c : Int → Int) (A : Int → Int → Prop) (s t v : Int) : Prop := ∃ k, rcK M c A s t k v
def dst (M : Nat) (c : Int → Int) (A : Int → Int → Prop) (s t : Int) (d : Nat) (v : Int) : Prop := rcK M c A s t d v ∧ ∀ k, k < d → ¬rcK M c A s t k v
theorem dst_u {M : Nat} {c : Int → Int} {A : Int → Int → Prop} {s t : Int} {d e : Nat} {v : Int} (h : dst M c A s t d v) (k : dst M c A s t e v) : d = e := by
  rcases Nat.lt_trichotomy d e with x | x | x
  · exact absurd h.1 (k.2 d x)
  · exact x
  · exact absurd k.1 (h.2 e x)
theorem dst_le {M : Nat} {c : Int → Int} {A : Int → Int → Prop} {s t : Int} {d k : Nat} {v : Int} (h : dst M c A s t d v) (q : rcK M c A s t k v) : d ≤ k := by
  by_cases x : k < d
  · exact absurd q (h.2 k x)
  · omega
theorem cnn_tr {M : Nat} {c : Int → Int} {A : Int → Int → Prop} {s t u : Int} (h : cnn M c A s t u) : ∀ (k : Nat) (v : Int), rcK M c A u t k v → cnn M c A s t v
  | 0, v, q => by rw [q.1]; exact h
  | k + 1, v, q => by
    rcases q with q | ⟨q, w, hr, hw, ha⟩
    · exact cnn_tr h k v q
    · obtain ⟨m, hm⟩ := cnn_tr h k w hw
      exact ⟨m + 1, Or.inr ⟨q, w, hr, hm, ha⟩⟩
theorem cnn_sy {M : Nat} {c : Int → Int} {A : Int → Int → Prop} (hA : ∀ u v : Int, 0 ≤ u → u < M → 0 ≤ v → v < M → A u v → A v u) {s t : Int} : ∀ (k : Nat) (v : Int), 0 ≤ v → v < M → rcK M c A s t k v → cnn M c A v t s
  | 0, v, _, _, q => ⟨0, q.1.symm, by rw [q.1]; exact q.2⟩
  | k + 1, v, v0, v1, q => by
    rcases q with q | ⟨q, w, hr, hw, ha⟩
    · exact cnn_sy hA k v v0 v1 q
    · obtain ⟨m, hm⟩ := cnn_sy hA k w hr.1 hr.2 hw
      have cw := rcK_c k w hw
      have one : cnn M c A v t w := ⟨1, Or.inr ⟨cw.1, v, ⟨v0, v1⟩, ⟨rfl, q⟩, hA w v hr.1 hr.2 v0 v1 ha⟩⟩
      exact cnn_tr one m s hm
/-- a bound between which nothing costs -/
theorem rcK_gap {M : Nat} {c : Int → Int} {A : Int → Int → Prop} {s t t' : Int} (ht : ∀ v : Int, 0 ≤ v → v < M → c v ≤ t' → c v ≤ t) (s0 : 0 ≤ s) (s1 : s < M) : ∀ (k : Nat) (v : Int), 0 ≤ v → v < M → rcK M c A s t' k v → rcK M c A s t k v
  | 0, v, _, _, h => ⟨h.1, ht s s0 s1 h.2⟩
  | k + 1, v, v0, v1, h => by
    rcases h with h | ⟨h, u, hr, hu, ha⟩
    · exact Or.inl (rcK_gap ht s0 s1 k v v0 v1 h)
    · exact Or.inr ⟨ht v v0 v1 h, u, hr, rcK_gap ht s0 s1 k u hr.1 hr.2 hu, ha⟩
/-- the least bound by which v is reached -/
def lst (M : Nat) (c : Int → Int) (A : Int → Int → Prop) (s v T : Int) : Prop := cnn M c A s T v ∧ ∀ t, cnn M c A s t v → T ≤ t
theorem lst_u {M : Nat} {c : Int → Int} {A : Int → Int → Prop} {s v T T' : Int} (h : lst M c A s v T) (k : lst M c A s v T') : T = T' := by
  have a := h.2 _ k.1
  have b := k.2 _ h.1
  omega
/-- a list of distances: none where nothing leads -/
def disL (M : Nat) (c : Int → Int) (A : Int → Int → Prop) (s t none : Int) (D : Int → Int) : Prop := ∀ v : Int, 0 ≤ v → v < M → (∃ d : Nat, D v = d ∧ d < M ∧ dst M c A s t d v) ∨ (D v = none ∧ ¬cnn M c A s t v)
/-- the peaks that the class keeps -/
def pkI (M : Nat) (c : Int → Int) (A : Int → Int → Prop) (s : Int) (pk st : Int → Int) : Prop := pk s = c s ∧ (∀ v : Int, 0 ≤ v → v < M → pk v < 1000000000 → cnn M c A s (pk v) v) ∧ (∀ u v : Int, 0 ≤ u → u < M → 0 ≤ v → v < M → st u = 1 → A u v → pk v ≤ if pk u ≤ c v then c v else pk u) ∧ ∀ u v : Int, 0 ≤ u → u < M → 0 ≤ v → v < M → st u = 1 → ¬st v = 1 → pk u ≤ pk v
theorem pkI_least {M : Nat} {c : Int → Int} {A : Int → Int → Prop} {s v : Int} {pk st : Int → Int} (h : pkI M c A s pk st) (s0 : 0 ≤ s) (s1 : s < M) (v0 : 0 ≤ v) (v1 : v < M) (hv : st v = 1) {t : Int} (q : cnn M c A s t v) : pk v ≤ t := by
  obtain ⟨h1, h2, h3, h4⟩ := h
  by_cases x : pk v ≤ t
  · exact x
  · exfalso
    have go : ∀ (k : Nat) (w : Int), 0 ≤ w → w < M → rcK M c A s t k w → st w = 1 ∧ pk w ≤ t := by
      intro k
      induction k with
      | zero =>
        intro w w0 w1 hw
        obtain ⟨e, ec⟩ := hw
        subst e
        refine ⟨?_, by omega⟩
        by_cases y : st w = 1
        · exact y
        · have := h4 v w v0 v1 w0 w1 hv y
          omega
      | succ k ih =>
        intro w w0 w1 hw
        rcases hw with hw | ⟨hw, u, hr, hu, ha⟩
        · exact ih w w0 w1 hw
        · obtain ⟨a, b⟩ := ih u hr.1 hr.2 hu
          have p := h3 u w hr.1 hr.2 w0 w1 a ha
          have pw : pk w ≤ t := by
            split at p <;> omega
          refine ⟨?_, pw⟩
          by_cases y : st w = 1
          · exact y
          · have := h4 v w v0 v1 w0 w1 hv y
            omega
    obtain ⟨k, hk⟩ := q
    have := (go k v v0 v1 hk).2
    omega
theorem pkI_lst {M : Nat} {c : Int → Int} {A : Int → Int → Prop} {s v : Int} {pk st : Int → Int} (h : pkI M c A s pk st) (s0 : 0 ≤ s) (s1 : s < M) (v0 : 0 ≤ v) (v1 : v < M) (hv : st v = 1) {T : Int} (hT : lst M c A s v T) (b : T < 1000000000) : pk v = T := by
  have a := pkI_least h s0 s1 v0 v1 hv hT.1
  have d := hT.2 _ (h.2.1 v v0 v1 (by omega))
  omega
