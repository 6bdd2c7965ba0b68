/-! ways: counting steps -/
theorem cn_lt {P Q : Int → Prop} {n : Nat} {i : Int} (i0 : 0 ≤ i) (i1 : i < n) (h : ∀ j : Int, 0 ≤ j → j < n → P j → Q j) (hi : ¬P i) (qi : Q i) : wS (fun j => zp (P j)) n + 1 ≤ wS (fun j => zp (Q j)) n := by
  have a := cn_or (P := P) (Q := fun j => j = i) (n := n) (fun j _ _ q => by rw [q.2] at q; exact hi q.1)
  rw [cn_one i0 i1] at a
  have b := cn_mono (P := fun j => P j ∨ j = i) (Q := Q) n (fun j j0 j1 p => by
    rcases p with p | p
    · exact h j j0 j1 p
    · rw [p]; exact qi)
  omega
theorem dst_pr {M : Nat} {c : Int → Int} {A : Int → Int → Prop} {s t : Int} {d : Nat} {v : Int} (h : dst M c A s t (d + 1) v) : ∃ u : Int, (0 ≤ u ∧ u < M) ∧ dst M c A s t d u := by
  rcases h.1 with q | ⟨q, u, hr, hu, ha⟩
  · exact absurd q (h.2 d (by omega))
  · refine ⟨u, hr, hu, fun k hk hh => ?_⟩
    exact h.2 (k + 1) (by omega) (Or.inr ⟨q, u, hr, hh, ha⟩)
theorem dst_cn {M : Nat} {c : Int → Int} {A : Int → Int → Prop} {s t : Int} : ∀ (d : Nat) (v : Int), 0 ≤ v → v < M → dst M c A s t d v → (d : Int) + 1 ≤ wS (fun u => zp (rcK M c A s t d u)) M
  | 0, v, v0, v1, h => by
    have := cn_mono (P := fun u => u = v) (Q := fun u => rcK M c A s t 0 u) M (fun j _ _ p => by rw [p]; exact h.1)
    rw [cn_one v0 v1] at this
    omega
  | d + 1, v, v0, v1, h => by
    obtain ⟨u, hr, hu⟩ := dst_pr h
    have ih := dst_cn d u hr.1 hr.2 hu
    have := cn_lt (P := fun u => rcK M c A s t d u) (Q := fun u => rcK M c A s t (d + 1) u) v0 v1 (fun j _ _ p => Or.inl p) (h.2 d (by omega)) h.1
    omega
theorem dst_M {M : Nat} {c : Int → Int} {A : Int → Int → Prop} {s t : Int} {d : Nat} {v : Int} (v0 : 0 ≤ v) (v1 : v < M) (h : dst M c A s t d v) : d < M := by
  have a := dst_cn d v v0 v1 h
  have b := (cn_b (fun u => rcK M c A s t d u) M).2
  omega
theorem rcK_stop {M : Nat} {c : Int → Int} {A : Int → Int → Prop} {s t : Int} {l : Nat} (h : ∀ v : Int, 0 ≤ v → v < M → rcK M c A s t (l + 1) v → rcK M c A s t l v) : ∀ (k : Nat) (v : Int), 0 ≤ v → v < M → rcK M c A s t k v → rcK M c A s t l v
  | 0, v, _, _, q => rcK_le q l (by omega)
  | k + 1, v, v0, v1, q => by
    rcases q with q | ⟨q, u, hr, hu, ha⟩
    · exact rcK_stop h k v v0 v1 q
    · exact h v v0 v1 (Or.inr ⟨q, u, hr, rcK_stop h k u hr.1 hr.2 hu, ha⟩)
/-- the reference's sweep -/
def wvK (M : Nat) (c : Int → Int) (A : Int → Int → Prop) (s t : Int) (l : Nat) (i j v : Int) : Prop := rcK M c A s t l v ∨ (c v ≤ t ∧ ∃ u : Int, (0 ≤ u ∧ u < M) ∧ (u < i ∨ (u = i ∧ v < j)) ∧ rcK M c A s t l u ∧ A u v)
def swI (M : Nat) (c : Int → Int) (A : Int → Int → Prop) (s t : Int) (l : Nat) (i j : Int) (D : Int → Int) : Prop := ∀ v : Int, 0 ≤ v → v < M → (∃ d : Nat, D v = d ∧ dst M c A s t d v ∧ wvK M c A s t l i j v) ∨ (D v = 1000000000 ∧ ¬wvK M c A s t l i j v)
theorem swI_cg {M : Nat} {c : Int → Int} {A : Int → Int → Prop} {s t : Int} {l : Nat} {i j i' j' : Int} {D : Int → Int} (h : ∀ v : Int, 0 ≤ v → v < M → (wvK M c A s t l i j v ↔ wvK M c A s t l i' j' v)) (k : swI M c A s t l i j D) : swI M c A s t l i' j' D := fun v v0 v1 => by
  rcases k v v0 v1 with ⟨d, a, b, e⟩ | ⟨a, b⟩
  · exact Or.inl ⟨d, a, b, (h v v0 v1).1 e⟩
  · exact Or.inr ⟨a, fun q => b ((h v v0 v1).2 q)⟩
theorem wv_old {M : Nat} {c : Int → Int} {A : Int → Int → Prop} {s t : Int} {l : Nat} {i j : Int} {D : Int → Int} (k : swI M c A s t l i j D) (l0 : (l : Int) < 1000) (i0 : 0 ≤ i) (i1 : i < M) (hi : ¬D i = l) {v : Int} (cv : c v ≤ t) (r : rcK M c A s t l i) (a : A i v) : rcK M c A s t l v := by
  rcases k i i0 i1 with ⟨d, e1, e2, _⟩ | ⟨_, e2⟩
  · have dl := dst_le e2 r
    have : d ≠ l := fun z => hi (by rw [e1, z])
    exact rcK_le (k := d + 1) (Or.inr ⟨cv, i, ⟨i0, i1⟩, e2.1, a⟩) l (by omega)
  · exact absurd (Or.inl r) e2
theorem swI_row {M : Nat} {c : Int → Int} {A : Int → Int → Prop} {s t : Int} {l : Nat} {i j : Int} {D : Int → Int} (k : swI M c A s t l i j D) (l0 : (l : Int) < 1000) (i0 : 0 ≤ i) (i1 : i < M) (hi : ¬D i = l) : swI M c A s t l (i + 1) 0 D := by
  refine swI_cg (fun v v0 v1 => ⟨?_, ?_⟩) k
  · rintro (h | ⟨h, u, hr, hu, ha⟩)
    · exact Or.inl h
    · exact Or.inr ⟨h, u, hr, by omega, ha⟩
  · rintro (h | ⟨h, u, hr, hu, hc, ha⟩)
    · exact Or.inl h
    · by_cases y : u = i
      · subst y
        exact Or.inl (wv_old k l0 i0 i1 hi h hc ha)
      · exact Or.inr ⟨h, u, hr, by omega, hc, ha⟩
theorem swI_end {M : Nat} {c : Int → Int} {A : Int → Int → Prop} {s t : Int} {l : Nat} {i : Int} {D : Int → Int} (k : swI M c A s t l i M D) : swI M c A s t l (i + 1) 0 D := by
  refine swI_cg (fun v v0 v1 => ⟨?_, ?_⟩) k
  · rintro (h | ⟨h, u, hr, hu, ha⟩)
    · exact Or.inl h
    · exact Or.inr ⟨h, u, hr, by omega, ha⟩
  · rintro (h | ⟨h, u, hr, hu, ha⟩)
    · exact Or.inl h
    · exact Or.inr ⟨h, u, hr, by omega, ha⟩
theorem swI_keep {M : Nat} {c : Int → Int} {A : Int → Int → Prop} {s t : Int} {l : Nat} {i j : Int} {D : Int → Int} (k : swI M c A s t l i j D) (j0 : 0 ≤ j) (j1 : j < M) (h : ¬D j = 1000000000 ∨ t < c j ∨ ¬A i j) : swI M c A s t l i (j + 1) D := by
  refine swI_cg (fun v v0 v1 => ⟨?_, ?_⟩) k
  · rintro (q | ⟨q, u, hr, hu, ha⟩)
    · exact Or.inl q
    · exact Or.inr ⟨q, u, hr, by omega, ha⟩
  · rintro (q | ⟨q, u, hr, hu, hc, ha⟩)
    · exact Or.inl q
    · by_cases y : u = i ∧ v = j
      · obtain ⟨rfl, rfl⟩ := y
        rcases h with h | h | h
        · rcases k v j0 j1 with ⟨d, _, _, e⟩ | ⟨e, _⟩
          · exact e
          · exact absurd e h
        · omega
        · exact absurd ha h
      · exact Or.inr ⟨q, u, hr, by omega, hc, ha⟩
theorem swI_new {M : Nat} {c : Int → Int} {A : Int → Int → Prop} {s t : Int} {l : Nat} {i j : Int} {D D' : Int → Int} (k : swI M c A s t l i j D) (i0 : 0 ≤ i) (i1 : i < M) (hi : D i = l) (l0 : (l : Int) < 1000) (h1 : D j = 1000000000) (h2 : c j ≤ t) (h3 : A i j) (e1 : D' j = l + 1) (e2 : ∀ v, v ≠ j → D' v = D v) (j0 : 0 ≤ j) (j1 : j < M) : swI M c A s t l i (j + 1) D' ∧ dst M c A s t (l + 1) j := by
  have ri : dst M c A s t l i := by
    rcases k i i0 i1 with ⟨d, a, b, _⟩ | ⟨a, _⟩
    · rw [hi] at a
      have : l = d := by omega
      rw [this]; exact b
    · omega
  have nj : ¬wvK M c A s t l i j j := by
    rcases k j j0 j1 with ⟨d, a, b, _⟩ | ⟨_, a⟩
    · have := dst_M j0 j1 b
      rcases k i i0 i1 with ⟨e, a', _, _⟩ | ⟨a', _⟩
      · exfalso
        -- d would be as great as the mark: it is a number of steps
        rw [h1] at a
        have b1 := b.2
        by_cases z : l + 1 < d
        · exact b1 (l + 1) z (Or.inr ⟨h2, i, ⟨i0, i1⟩, ri.1, h3⟩)
        · omega
      · omega
    · exact a
  have dj : dst M c A s t (l + 1) j := ⟨Or.inr ⟨h2, i, ⟨i0, i1⟩, ri.1, h3⟩, fun x hx hh => nj (Or.inl (rcK_le hh l (by omega)))⟩
  refine ⟨fun v v0 v1 => ?_, dj⟩
  by_cases y : v = j
  · subst y
    exact Or.inl ⟨l + 1, by rw [e1]; omega, dj, Or.inr ⟨h2, i, ⟨i0, i1⟩, Or.inr ⟨rfl, by omega⟩, ri.1, h3⟩⟩
  · rw [e2 v y]
    have w : wvK M c A s t l i j v ↔ wvK M c A s t l i (j + 1) v := by
      constructor
      · rintro (q | ⟨q, u, hr, hu, ha⟩)
        · exact Or.inl q
        · exact Or.inr ⟨q, u, hr, by omega, ha⟩
      · rintro (q | ⟨q, u, hr, hu, ha⟩)
        · exact Or.inl q
        · exact Or.inr ⟨q, u, hr, by omega, ha⟩
    rcases k v v0 v1 with ⟨d, a, b, e⟩ | ⟨a, b⟩
    · exact Or.inl ⟨d, a, b, w.1 e⟩
    · exact Or.inr ⟨a, fun q => b (w.2 q)⟩
theorem swI_next {M : Nat} {c : Int → Int} {A : Int → Int → Prop} {s t : Int} {l : Nat} {D : Int → Int} (k : swI M c A s t l M 0 D) : swI M c A s t (l + 1) 0 0 D := fun v v0 v1 => by
  have w : wvK M c A s t l M 0 v ↔ wvK M c A s t (l + 1) 0 0 v := by
    constructor
    · rintro (q | ⟨q, u, hr, hu, ha⟩)
      · exact Or.inl (Or.inl q)
      · exact Or.inl (Or.inr ⟨q, u, hr, ha⟩)
    · rintro (q | ⟨q, u, hr, hu, ha⟩)
      · rcases q with q | ⟨q, u, hr, ha⟩
        · exact Or.inl q
        · exact Or.inr ⟨q, u, hr, Or.inl hr.2, ha⟩
      · omega
  rcases k v v0 v1 with ⟨d, a, b, e⟩ | ⟨a, b⟩
  · exact Or.inl ⟨d, a, b, w.1 e⟩
  · exact Or.inr ⟨a, fun q => b (w.2 q)⟩
theorem wvK_0 {M : Nat} {c : Int → Int} {A : Int → Int → Prop} {s t : Int} {l : Nat} {v : Int} (v0 : 0 ≤ v) : wvK M c A s t l 0 0 v ↔ rcK M c A s t l v := by
  constructor
  · rintro (q | ⟨q, u, hr, hu, ha⟩)
    · exact q
    · omega
  · exact Or.inl
theorem swI_stop {M : Nat} {c : Int → Int} {A : Int → Int → Prop} {s t : Int} {l : Nat} {D : Int → Int} (k : swI M c A s t l 0 0 D) (k' : swI M c A s t (l + 1) 0 0 D) (l0 : (l : Int) < 1000) (hM : M ≤ 120) : disL M c A s t 1000000000 D := by
  have st : ∀ v : Int, 0 ≤ v → v < M → rcK M c A s t (l + 1) v → rcK M c A s t l v := fun v v0 v1 q => by
    rcases k v v0 v1 with ⟨d, a, b, e⟩ | ⟨a, b⟩
    · exact (wvK_0 v0).1 e
    · rcases k' v v0 v1 with ⟨d, a', b', e⟩ | ⟨a', b'⟩
      · have := dst_M v0 v1 b'
        omega
      · exact absurd ((wvK_0 v0).2 q) b'
  intro v v0 v1
  rcases k v v0 v1 with ⟨d, a, b, e⟩ | ⟨a, b⟩
  · exact Or.inl ⟨d, a, dst_M v0 v1 b, b⟩
  · refine Or.inr ⟨a, fun ⟨x, hx⟩ => b ((wvK_0 v0).2 (rcK_stop st x v v0 v1 hx))⟩
/-- the class's list of those that were found -/
def quI (M : Nat) (c : Int → Int) (A : Int → Int → Prop) (s t : Int) (h : Int) (q : Int → Int) (len : Nat) (D : Int → Int) : Prop := (0 < len ∧ q 0 = s ∧ c s ≤ t) ∧ (∀ i : Int, 0 ≤ i → i < len → (0 ≤ q i ∧ q i < M) ∧ ∃ d : Nat, D (q i) = d ∧ dst M c A s t d (q i)) ∧ (∀ v : Int, 0 ≤ v → v < M → D v = -1 ∨ ∃ i : Int, (0 ≤ i ∧ i < len) ∧ q i = v) ∧ (∀ i j : Int, 0 ≤ i → i ≤ j → j < len → D (q i) ≤ D (q j)) ∧ (∀ i j : Int, i = h → 0 ≤ j → j < len → h < len → D (q j) ≤ D (q i) + 1) ∧ (∀ i v : Int, 0 ≤ i → i < h → i < len → 0 ≤ v → v < M → A (q i) v → c v ≤ t → ¬D v = -1) ∧ wS (fun v => zp (¬D v = -1)) M = len
theorem quI_seen {M : Nat} {c : Int → Int} {A : Int → Int → Prop} {s t : Int} {h : Int} {q : Int → Int} {len : Nat} {D : Int → Int} (I : quI M c A s t h q len D) (h0 : 0 ≤ h) (h1 : h < len) : ∀ (k : Nat) (v : Int), 0 ≤ v → v < M → rcK M c A s t k v → (k : Int) ≤ D (q h) → ¬D v = -1
  | 0, v, v0, v1, r, hk => by
    obtain ⟨⟨a1, a2, a3⟩, b, _⟩ := I
    obtain ⟨_, d, e, _⟩ := b 0 (by omega) (by omega)
    rw [r.1, ← a2, e]
    omega
  | k + 1, v, v0, v1, r, hk => by
    rcases r with r | ⟨r, u, hr, hu, ha⟩
    · exact quI_seen I h0 h1 k v v0 v1 r (by omega)
    · have su := quI_seen I h0 h1 k u hr.1 hr.2 hu (by omega)
      obtain ⟨_, b, b2, b3, b4, b5, _⟩ := I
      rcases b2 u hr.1 hr.2 with z | ⟨i, hi, ei⟩
      · exact absurd z su
      · obtain ⟨_, d, e1, e2⟩ := b i hi.1 hi.2
        rw [ei] at e1 e2
        have dl := dst_le e2 hu
        by_cases y : i < h
        · exact b5 i v hi.1 y hi.2 v0 v1 (by rw [ei]; exact ha) r
        · have := b3 h i h0 (by omega) hi.2
          rw [ei, e1] at this
          omega
theorem quI_new {M : Nat} {c : Int → Int} {A : Int → Int → Prop} {s t : Int} {h : Int} {q q' : Int → Int} {len : Nat} {D D' : Int → Int} (I : quI M c A s t h q len D) (h0 : 0 ≤ h) (h1 : h < len) {v : Int} (v0 : 0 ≤ v) (v1 : v < M) (hv : D v = -1) (ha : A (q h) v) (hc : c v ≤ t) (e1 : D' v = D (q h) + 1) (e2 : ∀ x, x ≠ v → D' x = D x) (f1 : q' len = v) (f2 : ∀ i : Int, i ≠ len → q' i = q i) : quI M c A s t h q' (len + 1) D' ∧ len < M := by
  have seen := quI_seen I h0 h1
  obtain ⟨⟨a1, a2, a3⟩, b1, b2, b3, b4, b5, b6⟩ := I
  obtain ⟨hr, d, ed, dd⟩ := b1 h h0 h1
  have qv : ∀ i : Int, 0 ≤ i → i < len → q i ≠ v := fun i i0 i1 z => by
    obtain ⟨_, d', e', _⟩ := b1 i i0 i1
    rw [z, hv] at e'
    omega
  have qe : ∀ i : Int, 0 ≤ i → i < len → q' i = q i ∧ D' (q' i) = D (q i) := fun i i0 i1 => by
    have := f2 i (by omega)
    exact ⟨this, by rw [this, e2 _ (qv i i0 i1)]⟩
  have dv : dst M c A s t (d + 1) v := ⟨Or.inr ⟨hc, q h, hr, dd.1, ha⟩, fun k hk hh => seen k v v0 v1 hh (by omega) hv⟩
  have cnt := cn_lt (P := fun v => ¬D v = -1) (Q := fun v => ¬D' v = -1) v0 v1 (fun j _ _ p => by
    by_cases y : j = v
    · rw [y, e1, ed]; omega
    · rw [e2 j y]; exact p) (fun z => z hv) (by rw [e1, ed]; omega)
  have cb := (cn_b (fun v => ¬D' v = -1) M).2
  have cm := cn_mono (P := fun x => ¬D' x = -1) (Q := fun x => ¬D x = -1 ∨ x = v) M (fun j _ _ p => by
    by_cases y : j = v
    · exact Or.inr y
    · rw [e2 j y] at p; exact Or.inl p)
  rw [cn_or (fun j _ _ z => by rw [z.2] at z; exact z.1 hv), cn_one v0 v1] at cm
  refine ⟨⟨⟨by omega, by rw [f2 0 (by omega)]; exact a2, a3⟩, fun i i0 i1 => ?_, fun x x0 x1 => ?_, fun i j i0 ij j1 => ?_, fun i j ih j0 j1 hh => ?_, fun i x i0 ih il x0 x1 hax hcx => ?_, by omega⟩, by omega⟩
  · by_cases y : i = len
    · rw [y, f1]
      exact ⟨⟨v0, v1⟩, d + 1, by rw [e1, ed]; omega, dv⟩
    · obtain ⟨g1, g2⟩ := qe i i0 (by omega)
      obtain ⟨p1, d', p2, p3⟩ := b1 i i0 (by omega)
      rw [g2, g1]
      exact ⟨p1, d', p2, p3⟩
  · by_cases y : x = v
    · exact Or.inr ⟨len, by omega, by rw [f1, y]⟩
    · rw [e2 x y]
      rcases b2 x x0 x1 with z | ⟨i, hi, ei⟩
      · exact Or.inl z
      · exact Or.inr ⟨i, by omega, by rw [(qe i hi.1 hi.2).1]; exact ei⟩
  · by_cases y : j = len
    · by_cases z : i = len
      · rw [y, z]; omega
      · rw [y, f1, e1, (qe i i0 (by omega)).2]
        exact b4 h i rfl i0 (by omega) h1
    · rw [(qe i i0 (by omega)).2, (qe j (by omega) (by omega)).2]
      exact b3 i j i0 ij (by omega)
  · rw [ih, (qe h h0 h1).2]
    by_cases y : j = len
    · rw [y, f1, e1]; omega
    · rw [(qe j j0 (by omega)).2]
      exact b4 h j rfl j0 (by omega) h1
  · rw [(qe i i0 (by omega)).1] at hax
    by_cases y : x = v
    · rw [y, e1, ed]; omega
    · rw [e2 x y]
      exact b5 i x i0 ih (by omega) x0 x1 hax hcx
theorem quI_next {M : Nat} {c : Int → Int} {A : Int → Int → Prop} {s t : Int} {h : Int} {q : Int → Int} {len : Nat} {D : Int → Int} (I : quI M c A s t h q len D) (h0 : 0 ≤ h) (h1 : h < len) (hn : ∀ v : Int, 0 ≤ v → v < M → A (q h) v → c v ≤ t → ¬D v = -1) : quI M c A s t (h + 1) q len D := by
  obtain ⟨a, b1, b2, b3, b4, b5, b6⟩ := I
  refine ⟨a, b1, b2, b3, fun i j ih j0 j1 hh => ?_, fun i x i0 ih il x0 x1 hax hcx => ?_, b6⟩
  · have p := b4 h j rfl j0 j1 h1
    have r := b3 h (h + 1) h0 (by omega) hh
    rw [ih]; omega
  · by_cases y : i = h
    · rw [y] at hax
      exact hn x x0 x1 hax hcx
    · exact b5 i x i0 (by omega) il x0 x1 hax hcx
theorem quI_done {M : Nat} {c : Int → Int} {A : Int → Int → Prop} {s t : Int} {h : Int} {q : Int → Int} {len : Nat} {D : Int → Int} (I : quI M c A s t h q len D) (h1 : len ≤ h) : disL M c A s t (-1) D := by
  obtain ⟨⟨a1, a2, a3⟩, b1, b2, b3, b4, b5, b6⟩ := I
  have all : ∀ (k : Nat) (v : Int), 0 ≤ v → v < M → rcK M c A s t k v → ¬D v = -1 := by
    intro k
    induction k with
    | zero =>
      intro v v0 v1 r
      obtain ⟨_, d, e, _⟩ := b1 0 (by omega) (by omega)
      rw [r.1, ← a2, e]
      omega
    | succ k ih =>
      intro v v0 v1 r
      rcases r with r | ⟨r, u, hr, hu, ha⟩
      · exact ih v v0 v1 r
      · rcases b2 u hr.1 hr.2 with z | ⟨i, hi, ei⟩
        · exact absurd z (ih u hr.1 hr.2 hu)
        · exact b5 i v hi.1 (by omega) hi.2 v0 v1 (by rw [ei]; exact ha) r
  intro v v0 v1
  rcases b2 v v0 v1 with z | ⟨i, hi, ei⟩
  · exact Or.inr ⟨z, fun ⟨k, hk⟩ => all k v v0 v1 hk z⟩
  · obtain ⟨_, d, e1, e2⟩ := b1 i hi.1 hi.2
    rw [ei] at e1 e2
    exact Or.inl ⟨d, e1, dst_M v0 v1 e2, e2⟩
