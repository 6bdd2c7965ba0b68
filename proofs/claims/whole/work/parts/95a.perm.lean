/-! layouts: all of them in their order -/
def rowL (p : List Nat) (i : Int) : Int := ((p.getD i.toNat 0 : Nat) : Int)
def ext (n : Nat) : Nat → List Nat → List (List Nat)
  | 0, p => [p]
  | r + 1, p => (List.range' 0 n).flatMap fun s => if s ∈ p then [] else ext n r (p ++ [s])
def allP (n : Nat) : List (List Nat) := ext n n []
theorem ext_mem {n : Nat} : ∀ (r : Nat) (p q : List Nat), q ∈ ext n r p → (∃ t, q = p ++ t) ∧ q.length = p.length + r ∧ ((∀ x, x ∈ p → x < n) → ∀ x, x ∈ q → x < n) ∧ (p.Nodup → q.Nodup)
  | 0, p, q, h => by
    unfold ext at h
    rw [List.mem_singleton] at h
    subst h
    exact ⟨⟨[], (List.append_nil _).symm⟩, rfl, fun a => a, fun a => a⟩
  | r + 1, p, q, h => by
    unfold ext at h
    obtain ⟨s, hs, hq⟩ := List.mem_flatMap.1 h
    have sl : s < n := by
      have := (List.mem_range'_1.1 hs).2
      omega
    by_cases c : s ∈ p
    · rw [if_pos c] at hq
      exact absurd hq List.not_mem_nil
    · rw [if_neg c] at hq
      obtain ⟨⟨t, a⟩, b, d, e⟩ := ext_mem r _ q hq
      refine ⟨⟨[s] ++ t, by rw [a, List.append_assoc]⟩, by rw [b, List.length_append, List.length_singleton]; omega, fun k => d (fun x hx => ?_), fun k => e ?_⟩
      · rcases List.mem_append.1 hx with hx | hx
        · exact k x hx
        · rw [List.mem_singleton] at hx; omega
      · rw [List.nodup_append]
        refine ⟨k, by simp, fun x hx y hy => ?_⟩
        rw [List.mem_singleton] at hy
        intro z
        rw [z, hy] at hx
        exact c hx
theorem mem_ext {n : Nat} : ∀ (r : Nat) (p q : List Nat), (∃ t, q = p ++ t) → q.length = p.length + r → (∀ x, x ∈ q → x < n) → q.Nodup → q ∈ ext n r p
  | 0, p, q, ⟨t, ht⟩, hl, hn, hd => by
    unfold ext
    have : t = [] := by
      rw [ht, List.length_append] at hl
      exact List.length_eq_zero_iff.1 (by omega)
    rw [ht, this, List.append_nil]
    exact List.mem_singleton.2 rfl
  | r + 1, p, q, ⟨t, ht⟩, hl, hn, hd => by
    unfold ext
    cases t with
    | nil =>
      rw [ht, List.append_nil] at hl
      omega
    | cons s t =>
      have hs : s ∈ q := by rw [ht]; exact List.mem_append.2 (Or.inr (List.mem_cons_self))
      have sp : ¬s ∈ p := by
        rw [ht, List.nodup_append] at hd
        exact fun z => hd.2.2 s z s List.mem_cons_self rfl
      refine List.mem_flatMap.2 ⟨s, List.mem_range'_1.2 ⟨by omega, by have := hn s hs; omega⟩, ?_⟩
      rw [if_neg sp]
      refine mem_ext r _ q ⟨t, by rw [ht, List.append_assoc]; rfl⟩ ?_ hn hd
      rw [hl, List.length_append, List.length_singleton]
      omega
theorem allP_mem {n : Nat} {q : List Nat} : q ∈ allP n ↔ q.length = n ∧ (∀ x, x ∈ q → x < n) ∧ q.Nodup := by
  unfold allP
  constructor
  · intro h
    obtain ⟨_, b, c, d⟩ := ext_mem n [] q h
    exact ⟨by rw [b]; simp, c (fun x hx => absurd hx List.not_mem_nil), d List.nodup_nil⟩
  · rintro ⟨a, b, c⟩
    exact mem_ext n [] q ⟨q, rfl⟩ (by rw [a]; simp) b c
/-- digits of a row -/
def dgF (f : Int → Int) : Nat → Int
  | 0 => 0
  | k + 1 => 10 * dgF f k + f k
theorem dgF_cg {f g : Int → Int} : ∀ n : Nat, (∀ k : Int, 0 ≤ k → k < n → f k = g k) → dgF f n = dgF g n
  | 0, _ => rfl
  | n + 1, h => by
    unfold dgF
    rw [dgF_cg n (fun k k0 k1 => h k k0 (by omega)), h n (by omega) (by omega)]
theorem dgF_b {f : Int → Int} : ∀ n : Nat, (∀ k : Int, 0 ≤ k → k < n → 0 ≤ f k ∧ f k ≤ 6) → 0 ≤ dgF f n ∧ dgF f n < 10 ^ n
  | 0, _ => by unfold dgF; decide
  | n + 1, h => by
    have ih := dgF_b n (fun k k0 k1 => h k k0 (by omega))
    have := h n (by omega) (by omega)
    unfold dgF
    rw [Int.pow_succ]
    omega
/-- the next layout -/
def pvt (f : Int → Int) : Nat → Int
  | 0 => -1
  | k + 1 => if f k ≤ f (k + 1) then k else pvt f k
def swp (f : Int → Int) (i : Int) : Nat → Int
  | 0 => 0
  | k + 1 => if f i ≤ f k then k else swp f i k
def exF (f : Int → Int) (a b : Int) : Int → Int := fun x => if x = b then f a else if x = a then f b else f x
def rvF : Nat → (Int → Int) → Int → Int → (Int → Int)
  | 0, f, _, _ => f
  | k + 1, f, i, j => if j ≤ i then f else rvF k (exF f i j) (i + 1) (j - 1)
def nxF (n : Nat) (f : Int → Int) : Int → Int := rvF 7 (exF f (pvt f (n - 1)) (swp f (pvt f (n - 1)) n)) (pvt f (n - 1) + 1) ((n : Int) - 1)
def nxB (n : Nat) (a b : List Nat) : Bool := decide (0 ≤ pvt (rowL a) (n - 1)) && (List.range n).all fun i => decide (nxF n (rowL a) (i : Int) = rowL b (i : Int))
def chn (n : Nat) : List (List Nat) → Bool
  | [] => false
  | [a] => decide (pvt (rowL a) (n - 1) = -1)
  | a :: b :: r => nxB n a b && chn n (b :: r)
def chx (n : Nat) : List (List Nat) → List Nat → Bool
  | [], _ => true
  | [a], b => nxB n a b
  | a :: a' :: r, b => nxB n a a' && chx n (a' :: r) b
theorem chn_app {n : Nat} {b : List Nat} {B : List (List Nat)} (hB : chn n (b :: B) = true) : ∀ A : List (List Nat), chx n A b = true → chn n (A ++ (b :: B)) = true
  | [], _ => hB
  | [a], h => by
    show (nxB n a b && chn n (b :: B)) = true
    rw [hB, show nxB n a b = true from h]
    rfl
  | a :: a' :: r, h => by
    rw [show chx n (a :: a' :: r) b = (nxB n a a' && chx n (a' :: r) b) from rfl, Bool.and_eq_true] at h
    have ih := chn_app hB (a' :: r) h.2
    show (nxB n a a' && chn n (a' :: (r ++ (b :: B)))) = true
    rw [h.1, show chn n (a' :: (r ++ (b :: B))) = true from ih]
    rfl
def hd7 (s : Nat) : List Nat := s :: (List.range 7).erase s
theorem hd_7 : ∀ s : Fin 7, (ext 7 6 [s.val]).head? = some (hd7 s.val) := by decide +kernel
theorem hd_x (s : Nat) (h : s < 7) : ∃ r, ext 7 6 [s] = hd7 s :: r := by
  have k := hd_7 ⟨s, h⟩
  dsimp only at k
  cases e : ext 7 6 [s] with
  | nil => rw [e, List.head?_nil] at k; exact absurd k (by simp)
  | cons a r =>
    rw [e, List.head?_cons, Option.some.injEq] at k
    exact ⟨r, by rw [k]⟩
theorem ch7_6 : chn 7 (ext 7 6 [6]) = true := by decide +kernel
theorem ch7_5 : chx 7 (ext 7 6 [5]) (hd7 6) = true := by decide +kernel
theorem ch7_4 : chx 7 (ext 7 6 [4]) (hd7 5) = true := by decide +kernel
theorem ch7_3 : chx 7 (ext 7 6 [3]) (hd7 4) = true := by decide +kernel
theorem ch7_2 : chx 7 (ext 7 6 [2]) (hd7 3) = true := by decide +kernel
theorem ch7_1 : chx 7 (ext 7 6 [1]) (hd7 2) = true := by decide +kernel
theorem ch7_0 : chx 7 (ext 7 6 [0]) (hd7 1) = true := by decide +kernel
theorem chn_ap {s : Nat} {B : List (List Nat)} (h : s < 7) {A : List (List Nat)} (hA : chx 7 A (hd7 s) = true) (hB : chn 7 (ext 7 6 [s] ++ B) = true) : chn 7 (A ++ (ext 7 6 [s] ++ B)) = true := by
  obtain ⟨r, e⟩ := hd_x s h
  rw [e] at hB ⊢
  exact chn_app hB A hA
theorem all7 : allP 7 = ext 7 6 [0] ++ (ext 7 6 [1] ++ (ext 7 6 [2] ++ (ext 7 6 [3] ++ (ext 7 6 [4] ++ (ext 7 6 [5] ++ (ext 7 6 [6] ++ [])))))) := by
  have e : allP 7 = (List.range' 0 7).flatMap fun s => if s ∈ ([] : List Nat) then [] else ext 7 6 ([] ++ [s]) := rfl
  rw [e, show List.range' 0 7 = [0, 1, 2, 3, 4, 5, 6] from rfl]
  simp only [List.flatMap_cons, List.flatMap_nil, List.not_mem_nil, if_false, List.nil_append]
theorem chn_2 : chn 2 (allP 2) = true := by decide +kernel
theorem chn_3 : chn 3 (allP 3) = true := by decide +kernel
theorem chn_4 : chn 4 (allP 4) = true := by decide +kernel
theorem chn_5 : chn 5 (allP 5) = true := by decide +kernel
theorem chn_6 : chn 6 (allP 6) = true := by decide +kernel
theorem chn_7 : chn 7 (allP 7) = true := by
  rw [all7]
  have h : chn 7 (ext 7 6 [6] ++ []) = true := by rw [List.append_nil]; exact ch7_6
  exact chn_ap (by decide) ch7_0 (chn_ap (by decide) ch7_1 (chn_ap (by decide) ch7_2 (chn_ap (by decide) ch7_3 (chn_ap (by decide) ch7_4 (chn_ap (by decide) ch7_5 h)))))
theorem hdP : ∀ n : Fin 5, (allP (n.val + 2)).head? = some (List.range (n.val + 2)) := by decide +kernel
theorem hdP7 : ∃ r, allP 7 = List.range 7 :: r := by
  obtain ⟨r, e⟩ := hd_x 0 (by decide)
  rw [all7, e]
  exact ⟨_, rfl⟩
theorem chn_n {n : Nat} (h : 2 ≤ n ∧ n ≤ 7) : chn n (allP n) = true ∧ ∃ r, allP n = List.range n :: r := by
  refine ⟨?_, ?_⟩
  · rcases (by omega : n = 2 ∨ n = 3 ∨ n = 4 ∨ n = 5 ∨ n = 6 ∨ n = 7) with e | e | e | e | e | e <;> subst e
    · exact chn_2
    · exact chn_3
    · exact chn_4
    · exact chn_5
    · exact chn_6
    · exact chn_7
  · by_cases c : n = 7
    · subst c; exact hdP7
    · have a := hdP ⟨n - 2, by omega⟩
      dsimp only at a
      rw [show n - 2 + 2 = n by omega] at a
      cases e : allP n with
      | nil => rw [e, List.head?_nil] at a; exact absurd a (by simp)
      | cons x r =>
        rw [e, List.head?_cons, Option.some.injEq] at a
        exact ⟨r, by rw [a]⟩
