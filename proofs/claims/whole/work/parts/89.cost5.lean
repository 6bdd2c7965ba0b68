/-! layouts: digits and sets of symbols -/
set_option maxRecDepth 100000 in
theorem s_or0 : ∀ m : Fin 1024, ∀ d : Fin 10, zor (m.val : Int) (zshl 1 (d.val : Int)) = ((m.val ||| (1 <<< d.val) : Nat) : Int) := by decide +kernel
set_option maxRecDepth 100000 in
theorem s_bs0 : ∀ m : Fin 1024, ∀ d : Fin 10, decide (zand (zshr (m.val : Int) (d.val : Int)) 1 = 1) = m.val.testBit d.val := by decide +kernel
set_option maxRecDepth 100000 in
theorem s_shl0 : ∀ n : Fin 11, zshl 1 (n.val : Int) = ((2 ^ n.val : Nat) : Int) := by decide +kernel
set_option maxRecDepth 100000 in
theorem s_or {m d : Nat} (hm : m < 1024) (hd : d < 10) : zor (m : Int) (zshl 1 (d : Int)) = ((m ||| (1 <<< d) : Nat) : Int) := s_or0 ⟨m, hm⟩ ⟨d, hd⟩
set_option maxRecDepth 100000 in
theorem s_bs {m d : Nat} (hm : m < 1024) (hd : d < 10) : zand (zshr (m : Int) (d : Int)) 1 = 1 ↔ m.testBit d = true := by
  have h := s_bs0 ⟨m, hm⟩ ⟨d, hd⟩
  dsimp only at h
  rw [← h, decide_eq_true_eq]
set_option maxRecDepth 100000 in
theorem s_shl {n : Nat} (hn : n < 11) : zshl 1 (n : Int) = ((2 ^ n : Nat) : Int) := s_shl0 ⟨n, hn⟩
/-- how many bits are set -/
def pcN (m : Nat) : Nat → Nat
  | 0 => 0
  | d + 1 => pcN m d + if m.testBit d then 1 else 0
theorem pcN_or0 : ∀ m : Fin 1024, ∀ d : Fin 10, (m.val ||| (1 <<< d.val)) < 1024 ∧ pcN (m.val ||| (1 <<< d.val)) 10 = pcN m.val 10 + if m.val.testBit d.val then 0 else 1 := by decide +kernel
theorem pcN_or {m d : Nat} (hm : m < 1024) (hd : d < 10) : (m ||| (1 <<< d)) < 1024 ∧ pcN (m ||| (1 <<< d)) 10 = pcN m 10 + if m.testBit d then 0 else 1 := pcN_or0 ⟨m, hm⟩ ⟨d, hd⟩
theorem pcN_full0 : ∀ m : Fin 1024, ∀ n : Fin 8, ((∀ d : Fin 10, m.val.testBit d.val = true → d.val < n.val) ∧ pcN m.val 10 = n.val) ↔ m.val + 1 = 2 ^ n.val := by decide +kernel
theorem pcN_full {m n : Nat} (hm : m < 1024) (hn : n < 8) : ((∀ d : Nat, d < 10 → m.testBit d = true → d < n) ∧ pcN m 10 = n) ↔ m + 1 = 2 ^ n := by
  rw [← pcN_full0 ⟨m, hm⟩ ⟨n, hn⟩]
  dsimp only
  exact ⟨fun h => ⟨fun d => h.1 d.val d.isLt, h.2⟩, fun h => ⟨fun d hd => h.1 ⟨d, hd⟩, h.2⟩⟩
theorem tb_or {m d e : Nat} : (m ||| (1 <<< d)).testBit e = true ↔ m.testBit e = true ∨ e = d := by
  rw [Nat.testBit_or, Nat.one_shiftLeft, Nat.testBit_two_pow, Bool.or_eq_true, decide_eq_true_eq]
  constructor
  · rintro (h | h)
    · exact Or.inl h
    · exact Or.inr h.symm
  · rintro (h | h)
    · exact Or.inl h
    · exact Or.inr h.symm
/-- the digits of a number from behind -/
def dgQ (v : Int) : Nat → Int
  | 0 => v
  | k + 1 => (dgQ v k).tdiv 10
def dgL (v n i : Int) : Int := Int.tmod (dgQ v (n - 1 - i).toNat) 10
theorem dgQ_b {v : Int} (h0 : 0 ≤ v) (h1 : v ≤ 2147483647) : ∀ k, 0 ≤ dgQ v k ∧ dgQ v k ≤ 2147483647
  | 0 => ⟨h0, h1⟩
  | k + 1 => by
    have h := dgQ_b h0 h1 k
    rw [show dgQ v (k + 1) = (dgQ v k).tdiv 10 from rfl]
    generalize dgQ v k = w at h ⊢
    rw [Int.tdiv_eq_ediv_of_nonneg h.1]
    omega
theorem dgL_b {v n i : Int} (h0 : 0 ≤ v) (h1 : v ≤ 2147483647) : 0 ≤ dgL v n i ∧ dgL v n i < 10 := by
  have h := dgQ_b h0 h1 (n - 1 - i).toNat
  unfold dgL
  generalize dgQ v _ = w at h ⊢
  rw [Int.tmod_eq_emod_of_nonneg h.1]
  omega
def goodL (v n : Int) : Prop := dgQ v n.toNat = 0 ∧ (∀ i, 0 ≤ i → i < n → dgL v n i < n) ∧ ∀ i j, 0 ≤ j → j < i → i < n → dgL v n i ≠ dgL v n j
/-- what the digits behind j set -/
def setL (f : Int → Int) (n j : Int) (m : Nat) : Prop := m < 1024 ∧ (∀ d : Nat, d < 10 → (m.testBit d = true ↔ ∃ i, j < i ∧ i < n ∧ f i = d)) ∧ pcN m 10 ≤ (n - 1 - j).toNat ∧ (pcN m 10 = (n - 1 - j).toNat ↔ ∀ i k, j < k → k < i → i < n → f i ≠ f k)
theorem setL_0 (f : Int → Int) (n : Int) : setL f n (n - 1) 0 := by
  have p0 : pcN 0 10 = 0 := by decide
  refine ⟨by decide, fun d _ => ?_, by omega, ?_⟩
  · rw [Nat.zero_testBit]
    exact ⟨fun h => absurd h (by decide), fun ⟨i, a, b, _⟩ => absurd a (by omega)⟩
  · exact ⟨fun _ i k a b c => absurd a (by omega), fun _ => by omega⟩
theorem setL_s {f : Int → Int} {n j : Int} {m : Nat} (hj : 0 ≤ j) (hjn : j < n) (hf : 0 ≤ f j ∧ f j < 10) (h : setL f n j m) : setL f n (j - 1) (m ||| (1 <<< (f j).toNat)) := by
  have n1 : (n - 1 - (j - 1)).toNat = (n - 1 - j).toNat + 1 := by omega
  obtain ⟨h1, h2, h3, h4⟩ := h
  have p := pcN_or h1 (show (f j).toNat < 10 by omega)
  have e : m.testBit (f j).toNat = true ↔ ∃ i, j < i ∧ i < n ∧ f i = f j := by rw [h2 _ (by omega), show (((f j).toNat : Nat) : Int) = f j from Int.toNat_of_nonneg hf.1]
  refine ⟨p.1, fun d hd => ?_, ?_, ?_⟩
  · rw [tb_or, h2 d hd]
    constructor
    · rintro (⟨i, a, b, c⟩ | c)
      · exact ⟨i, by omega, b, c⟩
      · exact ⟨j, by omega, hjn, by omega⟩
    · rintro ⟨i, a, b, c⟩
      by_cases y : i = j
      · subst y; exact Or.inr (by omega)
      · exact Or.inl ⟨i, by omega, b, c⟩
  · rw [p.2, n1]; split <;> omega
  · rw [p.2, n1]
    by_cases y : m.testBit (f j).toNat = true
    · rw [if_pos y]
      obtain ⟨i, a, b, c⟩ := e.1 y
      exact ⟨fun q => absurd q (by omega), fun q => absurd c (q i j (by omega) a b)⟩
    · rw [if_neg y]
      constructor
      · intro q i k a b c
        by_cases z : k = j
        · subst z; exact fun w => y (e.2 ⟨i, b, c, w⟩)
        · exact h4.1 (by omega) i k (by omega) b c
      · intro q
        have := h4.2 (fun i k a b c => q i k (by omega) b c)
        omega
theorem setL_full {f : Int → Int} {n : Int} {m : Nat} (hn : 0 ≤ n ∧ n < 8) (hf : ∀ i, 0 ≤ i → i < n → 0 ≤ f i ∧ f i < 10) (h : setL f n (-1) m) : (m : Int) = zshl 1 n - 1 ↔ (∀ i, 0 ≤ i → i < n → f i < n) ∧ ∀ i j, 0 ≤ j → j < i → i < n → f i ≠ f j := by
  obtain ⟨h1, h2, h3, h4⟩ := h
  have z : zshl 1 n = ((2 ^ n.toNat : Nat) : Int) := by
    have := s_shl (n := n.toNat) (by omega)
    rw [show ((n.toNat : Nat) : Int) = n by omega] at this
    exact this
  rw [z]
  have k := pcN_full h1 (show n.toNat < 8 by omega)
  have nn : (n - 1 - -1).toNat = n.toNat := by omega
  rw [nn] at h3 h4
  rw [show ((m : Int) = ((2 ^ n.toNat : Nat) : Int) - 1) ↔ m + 1 = 2 ^ n.toNat by omega, ← k, h4]
  constructor
  · rintro ⟨a, b⟩
    refine ⟨fun i i0 i1 => ?_, fun i j j0 j1 i1 => b i j (by omega) j1 i1⟩
    have c := hf i i0 i1
    have := a (f i).toNat (by omega) ((h2 _ (by omega)).2 ⟨i, by omega, i1, by omega⟩)
    omega
  · rintro ⟨a, b⟩
    refine ⟨fun d hd q => ?_, fun i j j0 j1 i1 => b i j (by omega) j1 i1⟩
    obtain ⟨i, x, y, w⟩ := (h2 d hd).1 q
    have := a i (by omega) y
    omega
