/-! THE SAME MEMORY OVER WHOLE NUMBERS: the shallow functions are said again over Int (each number that is made is held to its range), and what they answer the shallow functions answer. -/
abbrev kzM : Type := (Nat → Int → Int) × (Nat → Int → Int)
def kzI (x : Int) : Prop := -2147483648 ≤ x ∧ x ≤ 2147483647
def kzL (x : Int) : Prop := -9223372036854775808 ≤ x ∧ x ≤ 9223372036854775807
def kzcv (τ : kzM) : kdM := (fun a j => Int32.ofInt (τ.1 a (j : Int)), fun a j => Int64.ofInt (τ.2 a (j : Int)))
def kzO (τ : kzM) : Prop := (∀ a j, kzI (τ.1 a j)) ∧ ∀ a j, kzL (τ.2 a j)
def kzG (G : kdS) : Prop := ∀ a, (G.1 a).2 ≤ 2147483647
def v2 {α : Type} (f : Nat → Int → α) (a : Nat) (k : Int) (v : α) : Nat → Int → α := fun b j => if b = a ∧ j = k then v else f b j
section KZP
variable {α β : Type}
def zrt (x : α) : kzM → Option (α × kzM) := fun σ => some (x, σ)
def zno : kzM → Option β := fun _ => none
def zcnd (c : Prop) [Decidable c] (k1 k2 : kzM → Option β) : kzM → Option β := fun σ => if c then k1 σ else k2 σ
def zlI (x : Int) (f : Int → kzM → Option β) : kzM → Option β := fun σ => if -2147483648 ≤ x ∧ x ≤ 2147483647 then f x σ else none
def zlL (x : Int) (f : Int → kzM → Option β) : kzM → Option β := fun σ => if -9223372036854775808 ≤ x ∧ x ≤ 9223372036854775807 then f x σ else none
def zlW (x : Int) (f : Int → kzM → Option β) : kzM → Option β := f (Int32.ofInt x).toInt
def zcl (g : kzM → Option (α × kzM)) (f : α → kzM → Option β) : kzM → Option β := fun σ => match g σ with
  | some r => f r.1 r.2
  | none => none
def zcv (G : kdS) (ci b : Nat) (g : kzM → Option (α × kzM)) (f : α → kzM → Option β) : kzM → Option β := fun σ => if (G.1 b).1 = ci then zcl g f σ else none
def znz (y : Int) (f : kzM → Option β) : kzM → Option β := fun σ => if y = 0 then none else f σ
def zgI (G : kdS) (ci : Nat) (k : Int) (a : Nat) (f : Int → kzM → Option β) : kzM → Option β := fun σ => if (G.1 a).1 = ci then f (σ.1 a k) σ else none
def zgR (G : kdS) (ci k a : Nat) (f : Nat → kzM → Option β) : kzM → Option β := fun σ => if (G.1 a).1 = ci then (match G.2.1 a k with
  | some b => f b σ
  | none => none) else none
def zsI (G : kdS) (ci : Nat) (k : Int) (a : Nat) (v : Int) (f : kzM → Option β) : kzM → Option β := fun σ => if (G.1 a).1 = ci then f (v2 σ.1 a k v, σ.2) else none
def zaI (G : kdS) (a : Nat) (i : Int) (f : Int → kzM → Option β) : kzM → Option β := fun σ => if (G.1 a).1 = 13 ∧ 0 ≤ i ∧ i < ((G.1 a).2 : Int) then f (σ.1 a i) σ else none
def zaZ (G : kdS) (a : Nat) (i : Int) (f : Int → kzM → Option β) : kzM → Option β := fun σ => if (G.1 a).1 = 15 ∧ 0 ≤ i ∧ i < ((G.1 a).2 : Int) then f (σ.1 a i) σ else none
def zaL (G : kdS) (a : Nat) (i : Int) (f : Int → kzM → Option β) : kzM → Option β := fun σ => if (G.1 a).1 = 14 ∧ 0 ≤ i ∧ i < ((G.1 a).2 : Int) then f (σ.2 a i) σ else none
def zaN (G : kdS) (a : Nat) (f : Int → kzM → Option β) : kzM → Option β := fun σ => if (G.1 a).1 = 13 then f ((G.1 a).2 : Int) σ else none
def zaR (G : kdS) (t a : Nat) (i : Int) (f : Nat → kzM → Option β) : kzM → Option β := fun σ => if (G.1 a).1 = t ∧ 0 ≤ i ∧ i < ((G.1 a).2 : Int) then (match G.2.1 a i.toNat with
  | some b => f b σ
  | none => none) else none
def zB (x : Int) : Int := (vp_nar .boolean (Int32.ofInt x)).toInt
def ztI (G : kdS) (a : Nat) (i v : Int) (f : kzM → Option β) : kzM → Option β := fun σ => if (G.1 a).1 = 13 ∧ 0 ≤ i ∧ i < ((G.1 a).2 : Int) then f (v2 σ.1 a i v, σ.2) else none
def ztZ (G : kdS) (a : Nat) (i v : Int) (f : kzM → Option β) : kzM → Option β := fun σ => if (G.1 a).1 = 15 ∧ 0 ≤ i ∧ i < ((G.1 a).2 : Int) then f (v2 σ.1 a i (zB v), σ.2) else none
def ztL (G : kdS) (a : Nat) (i : Int) (v : Int) (f : kzM → Option β) : kzM → Option β := fun σ => if (G.1 a).1 = 14 ∧ 0 ≤ i ∧ i < ((G.1 a).2 : Int) then f (σ.1, v2 σ.2 a i v) else none
def zsc (xs : Nat → Int32) (N : Nat) (i : Int) (f : Int → kzM → Option β) : kzM → Option β := fun σ => if 0 ≤ i ∧ i < (N : Int) then f (xs i.toNat).toInt σ else none
end KZP
def zmax (x y : Int) : Int := if x < y then y else x
def zmin (x y : Int) : Int := if y < x then y else x
def zabs (x : Int) : Int := if 0 ≤ x then x else 0 - x
def zand (x y : Int) : Int := (Int32.ofInt x &&& Int32.ofInt y).toInt
def zor (x y : Int) : Int := (Int32.ofInt x ||| Int32.ofInt y).toInt
def zxor (x y : Int) : Int := (Int32.ofInt x ^^^ Int32.ofInt y).toInt
def zshl (x y : Int) : Int := (Int32.ofInt x <<< (Int32.ofInt y &&& 31)).toInt
def zshr (x y : Int) : Int := (Int32.ofInt x >>> (Int32.ofInt y &&& 31)).toInt
/-! numbers -/
theorem kz_to {x : Int} (h : kzI x) : (Int32.ofInt x).toInt = x := Int32.toInt_ofInt_of_le h.1 (by have := h.2; omega)
theorem kzL_to {x : Int} (h : kzL x) : (Int64.ofInt x).toInt = x := Int64.toInt_ofInt_of_le h.1 (by have := h.2; omega)
theorem kzI_of (x : Int32) : kzI x.toInt := ⟨Int32.le_toInt x, by have := Int32.toInt_lt x; omega⟩
theorem kzL_of (x : Int64) : kzL x.toInt := ⟨Int64.le_toInt x, by have := Int64.toInt_lt x; omega⟩
theorem kz_of (x : Int32) : Int32.ofInt x.toInt = x := Int32.ofInt_toInt x
theorem kzI_L {x : Int} (h : kzI x) : kzL x := by unfold kzI at h; unfold kzL; omega
theorem kz_add {x y : Int} {a b : Int32} (h1 : Int32.ofInt x = a) (h2 : Int32.ofInt y = b) : Int32.ofInt (x + y) = a + b := by rw [← h1, ← h2]; exact Int32.ofInt_add ..
theorem kz_mul {x y : Int} {a b : Int32} (h1 : Int32.ofInt x = a) (h2 : Int32.ofInt y = b) : Int32.ofInt (x * y) = a * b := by rw [← h1, ← h2]; exact Int32.ofInt_mul ..
theorem kz_sub {x y : Int} {a b : Int32} (h1 : Int32.ofInt x = a) (h2 : Int32.ofInt y = b) : Int32.ofInt (x - y) = a - b := by rw [← h1, ← h2]; exact Int32.ofInt_sub ..
theorem kz_neg {x : Int} {a : Int32} (h1 : Int32.ofInt x = a) : Int32.ofInt (-x) = -a := by rw [← h1]; exact Int32.ofInt_neg ..
theorem kzL_add {x y : Int} {a b : Int64} (h1 : Int64.ofInt x = a) (h2 : Int64.ofInt y = b) : Int64.ofInt (x + y) = a + b := by rw [← h1, ← h2]; exact Int64.ofInt_add ..
theorem kzL_mul {x y : Int} {a b : Int64} (h1 : Int64.ofInt x = a) (h2 : Int64.ofInt y = b) : Int64.ofInt (x * y) = a * b := by rw [← h1, ← h2]; exact Int64.ofInt_mul ..
theorem kzL_sub {x y : Int} {a b : Int64} (h1 : Int64.ofInt x = a) (h2 : Int64.ofInt y = b) : Int64.ofInt (x - y) = a - b := by rw [← h1, ← h2]; exact Int64.ofInt_sub ..
theorem kz_div {x y : Int} {a b : Int32} (hx : kzI x) (hy : kzI y) (h1 : Int32.ofInt x = a) (h2 : Int32.ofInt y = b) : Int32.ofInt (x.tdiv y) = a / b := by
  apply Int32.toInt_inj.mp
  rw [Int32.toInt_div, ← h1, ← h2, kz_to hx, kz_to hy, Int32.toInt_ofInt]
theorem kzL_div {x y : Int} {a b : Int64} (hx : kzL x) (hy : kzL y) (h1 : Int64.ofInt x = a) (h2 : Int64.ofInt y = b) : Int64.ofInt (x.tdiv y) = a / b := by
  apply Int64.toInt_inj.mp
  rw [Int64.toInt_div, ← h1, ← h2, kzL_to hx, kzL_to hy, Int64.toInt_ofInt]
theorem kz_rem {x y : Int} {a b : Int32} (hx : kzI x) (hy : kzI y) (h1 : Int32.ofInt x = a) (h2 : Int32.ofInt y = b) : Int32.ofInt (x.tmod y) = krem a b := by
  rw [Int.tmod_def, Int.mul_comm]
  exact kz_sub h1 (kz_mul (kz_div hx hy h1 h2) h2)
theorem kzL_rem {x y : Int} {a b : Int64} (hx : kzL x) (hy : kzL y) (h1 : Int64.ofInt x = a) (h2 : Int64.ofInt y = b) : Int64.ofInt (x.tmod y) = kremL a b := by
  rw [Int.tmod_def, Int.mul_comm]
  exact kzL_sub h1 (kzL_mul (kzL_div hx hy h1 h2) h2)
theorem kz_and {x y : Int} {a b : Int32} (h1 : Int32.ofInt x = a) (h2 : Int32.ofInt y = b) : Int32.ofInt (zand x y) = a &&& b := by rw [← h1, ← h2]; exact kz_of _
theorem kz_or {x y : Int} {a b : Int32} (h1 : Int32.ofInt x = a) (h2 : Int32.ofInt y = b) : Int32.ofInt (zor x y) = a ||| b := by rw [← h1, ← h2]; exact kz_of _
theorem kz_xor {x y : Int} {a b : Int32} (h1 : Int32.ofInt x = a) (h2 : Int32.ofInt y = b) : Int32.ofInt (zxor x y) = a ^^^ b := by rw [← h1, ← h2]; exact kz_of _
theorem kz_shl {x y : Int} {a b : Int32} (h1 : Int32.ofInt x = a) (h2 : Int32.ofInt y = b) : Int32.ofInt (zshl x y) = a <<< (b &&& 31) := by rw [← h1, ← h2]; exact kz_of _
theorem kz_shr {x y : Int} {a b : Int32} (h1 : Int32.ofInt x = a) (h2 : Int32.ofInt y = b) : Int32.ofInt (zshr x y) = a >>> (b &&& 31) := by rw [← h1, ← h2]; exact kz_of _
theorem kz_lt {x y : Int} {a b : Int32} (hx : kzI x) (hy : kzI y) (h1 : Int32.ofInt x = a) (h2 : Int32.ofInt y = b) : x < y ↔ a < b := by rw [← h1, ← h2, Int32.lt_iff_toInt_lt, kz_to hx, kz_to hy]
theorem kz_le {x y : Int} {a b : Int32} (hx : kzI x) (hy : kzI y) (h1 : Int32.ofInt x = a) (h2 : Int32.ofInt y = b) : x ≤ y ↔ a ≤ b := by rw [← h1, ← h2, Int32.le_iff_toInt_le, kz_to hx, kz_to hy]
theorem kz_eq {x y : Int} {a b : Int32} (hx : kzI x) (hy : kzI y) (h1 : Int32.ofInt x = a) (h2 : Int32.ofInt y = b) : x = y ↔ a = b := by rw [← h1, ← h2, ← Int32.toInt_inj, kz_to hx, kz_to hy]
theorem kzL_cmp {x y : Int} {a b : Int64} (hx : kzL x) (hy : kzL y) (h1 : Int64.ofInt x = a) (h2 : Int64.ofInt y = b) : lg_cmp a b = if y < x then 1 else if x = y then 0 else -1 := by
  unfold lg_cmp
  have e1 : (a > b) ↔ y < x := by rw [gt_iff_lt, ← h1, ← h2, Int64.lt_iff_toInt_lt, kzL_to hx, kzL_to hy]
  have e2 : (a = b) ↔ x = y := by rw [← h1, ← h2, ← Int64.toInt_inj, kzL_to hx, kzL_to hy]
  simp only [e1, e2]
theorem kzL_le {x y : Int} {a b : Int64} (hx : kzL x) (hy : kzL y) (h1 : Int64.ofInt x = a) (h2 : Int64.ofInt y = b) : x ≤ y ↔ lg_cmp a b ≤ 0 := by
  rw [kzL_cmp hx hy h1 h2]
  by_cases e : y < x
  · rw [if_pos e]; constructor
    · intro h; omega
    · intro h; exact absurd h (by decide)
  · rw [if_neg e]; by_cases e2 : x = y
    · rw [if_pos e2]; constructor
      · intro _; decide
      · intro _; omega
    · rw [if_neg e2]; constructor
      · intro _; decide
      · intro _; omega
theorem kzL_lt {x y : Int} {a b : Int64} (hx : kzL x) (hy : kzL y) (h1 : Int64.ofInt x = a) (h2 : Int64.ofInt y = b) : x < y ↔ lg_cmp a b < 0 := by
  rw [kzL_cmp hx hy h1 h2]
  by_cases e : y < x
  · rw [if_pos e]; constructor
    · intro h; omega
    · intro h; exact absurd h (by decide)
  · rw [if_neg e]; by_cases e2 : x = y
    · rw [if_pos e2]; constructor
      · intro h; omega
      · intro h; exact absurd h (by decide)
    · rw [if_neg e2]; constructor
      · intro _; decide
      · intro _; omega
theorem kzL_gt {x y : Int} {a b : Int64} (hx : kzL x) (hy : kzL y) (h1 : Int64.ofInt x = a) (h2 : Int64.ofInt y = b) : y < x ↔ 0 < lg_cmp a b := by
  rw [kzL_cmp hx hy h1 h2]
  by_cases e : y < x
  · rw [if_pos e]; constructor
    · intro _; decide
    · intro _; exact e
  · rw [if_neg e]; by_cases e2 : x = y
    · rw [if_pos e2]; constructor
      · intro h; omega
      · intro h; exact absurd h (by decide)
    · rw [if_neg e2]; constructor
      · intro h; omega
      · intro h; exact absurd h (by decide)
theorem kzL_eq {x y : Int} {a b : Int64} (hx : kzL x) (hy : kzL y) (h1 : Int64.ofInt x = a) (h2 : Int64.ofInt y = b) : x = y ↔ lg_cmp a b = 0 := by
  rw [kzL_cmp hx hy h1 h2]
  by_cases e : y < x
  · rw [if_pos e]; constructor
    · intro h; omega
    · intro h; exact absurd h (by decide)
  · rw [if_neg e]; by_cases e2 : x = y
    · rw [if_pos e2]; constructor
      · intro _; rfl
      · intro _; exact e2
    · rw [if_neg e2]; constructor
      · intro h; omega
      · intro h; exact absurd h (by decide)
theorem kz_max {x y : Int} {a b : Int32} (hx : kzI x) (hy : kzI y) (h1 : Int32.ofInt x = a) (h2 : Int32.ofInt y = b) : Int32.ofInt (zmax x y) = kmax a b := by
  unfold zmax kmax
  by_cases e : x < y
  · rw [if_pos e, if_pos ((kz_lt hx hy h1 h2).mp e), h2]
  · rw [if_neg e, if_neg (fun q => e ((kz_lt hx hy h1 h2).mpr q)), h1]
theorem kz_min {x y : Int} {a b : Int32} (hx : kzI x) (hy : kzI y) (h1 : Int32.ofInt x = a) (h2 : Int32.ofInt y = b) : Int32.ofInt (zmin x y) = kmin a b := by
  unfold zmin kmin
  by_cases e : y < x
  · rw [if_pos e, if_pos ((kz_lt hy hx h2 h1).mp e), h2]
  · rw [if_neg e, if_neg (fun q => e ((kz_lt hy hx h2 h1).mpr q)), h1]
theorem kz_abs {x : Int} {a : Int32} (hx : kzI x) (h1 : Int32.ofInt x = a) : Int32.ofInt (zabs x) = kabs a := by
  unfold zabs kabs
  by_cases e : 0 ≤ x
  · rw [if_pos e, if_pos ((kz_le (x := 0) (a := (0 : Int32)) (by unfold kzI; omega) hx rfl h1).mp e), h1]
  · rw [if_neg e, if_neg (fun q => e ((kz_le (x := 0) (a := (0 : Int32)) (by unfold kzI; omega) hx rfl h1).mpr q))]; exact kz_sub rfl h1
theorem kz_i2l {x : Int} {a : Int32} (hx : kzI x) (h1 : Int32.ofInt x = a) : Int64.ofInt x = Int32.toInt64 a := by
  apply Int64.toInt_inj.mp
  rw [Int32.toInt_toInt64, ← h1, kz_to hx, kzL_to (kzI_L hx)]
theorem kz_l2i {x : Int} {a : Int64} (h1 : Int64.ofInt x = a) : Int32.ofInt x = Int64.toInt32 a := by
  rw [← h1]
  apply Int32.toInt_inj.mp
  rw [Int64.toInt_toInt32, Int64.toInt_ofInt, Int32.toInt_ofInt]
  exact (Int.bmod_bmod_of_dvd (by decide)).symm
theorem zmax_I {x y : Int} (hx : kzI x) (hy : kzI y) : kzI (zmax x y) := by unfold zmax; split <;> assumption
theorem zmin_I {x y : Int} (hx : kzI x) (hy : kzI y) : kzI (zmin x y) := by unfold zmin; split <;> assumption
theorem zB_0 : zB 0 = 0 := by decide +kernel
theorem zB_1 : zB 1 = 1 := by decide +kernel
theorem zB_if (p : Prop) [Decidable p] : zB (if p then 1 else 0) = if p then 1 else 0 := by split; exact zB_1; exact zB_0
/-! the correspondence -/
def CR {α' α : Type} (c : α' → α) (ok : α' → Prop) (g : kzM → Option (α' × kzM)) (f : kdM → Option (α × kdM)) : Prop := ∀ τ, kzO τ → ∀ r τ', g τ = some (r, τ') → f (kzcv τ) = some (c r, kzcv τ') ∧ ok r ∧ kzO τ'
abbrev CRi (g : kzM → Option (Int × kzM)) (f : kdM → Option (Int32 × kdM)) : Prop := CR Int32.ofInt kzI g f
abbrev CRl (g : kzM → Option (Int × kzM)) (f : kdM → Option (Int64 × kdM)) : Prop := CR Int64.ofInt kzL g f
abbrev CRu (g : kzM → Option (Unit × kzM)) (f : kdM → Option (Unit × kdM)) : Prop := CR id (fun _ => True) g f
abbrev CRn (g : kzM → Option (Nat × kzM)) (f : kdM → Option (Nat × kdM)) : Prop := CR id (fun _ => True) g f
theorem v2_cv1 (τ : kzM) (a k : Nat) (v : Int) : kzcv (v2 τ.1 a (k : Int) v, τ.2) = (u2 (kzcv τ).1 a k (Int32.ofInt v), (kzcv τ).2) := by
  unfold kzcv v2 u2
  refine Prod.ext ?_ rfl
  funext b j
  show Int32.ofInt (if b = a ∧ (j : Int) = (k : Int) then v else τ.1 b j) = if b = a ∧ j = k then Int32.ofInt v else Int32.ofInt (τ.1 b j)
  by_cases e : b = a ∧ j = k
  · rw [if_pos e, if_pos ⟨e.1, by rw [e.2]⟩]
  · rw [if_neg e, if_neg (fun q => e ⟨q.1, by have := q.2; omega⟩)]
theorem v2_cv2 (τ : kzM) (a k : Nat) (v : Int) : kzcv (τ.1, v2 τ.2 a (k : Int) v) = ((kzcv τ).1, u2 (kzcv τ).2 a k (Int64.ofInt v)) := by
  unfold kzcv v2 u2
  refine Prod.ext rfl ?_
  funext b j
  show Int64.ofInt (if b = a ∧ (j : Int) = (k : Int) then v else τ.2 b j) = if b = a ∧ j = k then Int64.ofInt v else Int64.ofInt (τ.2 b j)
  by_cases e : b = a ∧ j = k
  · rw [if_pos e, if_pos ⟨e.1, by rw [e.2]⟩]
  · rw [if_neg e, if_neg (fun q => e ⟨q.1, by have := q.2; omega⟩)]
theorem v2_O1 {τ : kzM} (h : kzO τ) (a : Nat) (k : Int) {v : Int} (hv : kzI v) : kzO (v2 τ.1 a k v, τ.2) := by
  refine ⟨fun b j => ?_, h.2⟩
  show kzI (if b = a ∧ j = k then v else τ.1 b j)
  split
  · exact hv
  · exact h.1 b j
theorem v2_O2 {τ : kzM} (h : kzO τ) (a : Nat) (k : Int) {v : Int} (hv : kzL v) : kzO (τ.1, v2 τ.2 a k v) := by
  refine ⟨h.1, fun b j => ?_⟩
  show kzL (if b = a ∧ j = k then v else τ.2 b j)
  split
  · exact hv
  · exact h.2 b j
theorem kz_ix {G : kdS} (hG : kzG G) {a : Nat} {i : Int} {i32 : Int32} (hi : Int32.ofInt i = i32) (h : 0 ≤ i ∧ i < ((G.1 a).2 : Int)) : i32.toInt = i := by
  have := hG a
  rw [← hi]; exact kz_to ⟨by omega, by omega⟩
section KCR
variable {α' α : Type} {c : α' → α} {ok : α' → Prop}
theorem c_rt {x : α'} {y : α} (hx : ok x) (hy : c x = y) : CR c ok (zrt x) (rt y) := by
  intro τ hτ r τ' h
  cases h
  exact ⟨by unfold rt; rw [hy], hx, hτ⟩
theorem c_no {f : kdM → Option (α × kdM)} : CR c ok zno f := fun τ hτ r τ' h => by unfold zno at h; exact absurd h (by simp)
theorem c_cnd {p q : Prop} [Decidable p] [Decidable q] (h : p ↔ q) {f1 f2 : kzM → Option (α' × kzM)} {g1 g2 : kdM → Option (α × kdM)} (k1 : CR c ok f1 g1) (k2 : CR c ok f2 g2) : CR c ok (zcnd p f1 f2) (cnd q g1 g2) := by
  intro τ hτ r τ' hr
  unfold zcnd at hr; unfold cnd
  by_cases e : p
  · rw [if_pos e] at hr; rw [if_pos (h.mp e)]; exact k1 τ hτ r τ' hr
  · rw [if_neg e] at hr; rw [if_neg (fun z => e (h.mpr z))]; exact k2 τ hτ r τ' hr
theorem c_lI {e : Int} {e32 : Int32} {f' : Int → kzM → Option (α' × kzM)} {f : Int32 → kdM → Option (α × kdM)} (he : Int32.ofInt e = e32) (k : ∀ t, kzI t → CR c ok (f' t) (f (Int32.ofInt t))) : CR c ok (zlI e f') (ltI e32 f) := by
  intro τ hτ r τ' hr
  unfold zlI at hr; unfold ltI
  by_cases q : -2147483648 ≤ e ∧ e ≤ 2147483647
  · rw [if_pos q] at hr; rw [← he]; exact k e q τ hτ r τ' hr
  · rw [if_neg q] at hr; exact absurd hr (by simp)
theorem c_lL {e : Int} {e64 : Int64} {f' : Int → kzM → Option (α' × kzM)} {f : Int64 → kdM → Option (α × kdM)} (he : Int64.ofInt e = e64) (k : ∀ t, kzL t → CR c ok (f' t) (f (Int64.ofInt t))) : CR c ok (zlL e f') (ltL e64 f) := by
  intro τ hτ r τ' hr
  unfold zlL at hr; unfold ltL
  by_cases q : -9223372036854775808 ≤ e ∧ e ≤ 9223372036854775807
  · rw [if_pos q] at hr; rw [← he]; exact k e q τ hτ r τ' hr
  · rw [if_neg q] at hr; exact absurd hr (by simp)
theorem c_rg {e : Int} {e32 : Int32} {f' : Int → kzM → Option (α' × kzM)} {f : kdM → Option (α × kdM)} (he : Int32.ofInt e = e32) (k : ∀ t, kzI t → Int32.ofInt t = e32 → CR c ok (f' t) f) : CR c ok (zlI e f') f := by
  intro τ hτ r τ' hr
  unfold zlI at hr
  by_cases q : -2147483648 ≤ e ∧ e ≤ 2147483647
  · rw [if_pos q] at hr; exact k e q he τ hτ r τ' hr
  · rw [if_neg q] at hr; exact absurd hr (by simp)
theorem c_rgW {e : Int} {e32 : Int32} {f' : Int → kzM → Option (α' × kzM)} {f : kdM → Option (α × kdM)} (he : Int32.ofInt e = e32) (k : ∀ t, kzI t → Int32.ofInt t = e32 → CR c ok (f' t) f) : CR c ok (zlW e f') f := k _ (kzI_of _) (by rw [kz_of]; exact he)
theorem c_rgL {e : Int} {e64 : Int64} {f' : Int → kzM → Option (α' × kzM)} {f : kdM → Option (α × kdM)} (he : Int64.ofInt e = e64) (k : ∀ t, kzL t → Int64.ofInt t = e64 → CR c ok (f' t) f) : CR c ok (zlL e f') f := by
  intro τ hτ r τ' hr
  unfold zlL at hr
  by_cases q : -9223372036854775808 ≤ e ∧ e ≤ 9223372036854775807
  · rw [if_pos q] at hr; exact k e q he τ hτ r τ' hr
  · rw [if_neg q] at hr; exact absurd hr (by simp)
theorem c_cl {γ' γ : Type} {c1 : γ' → γ} {ok1 : γ' → Prop} {g' : kzM → Option (γ' × kzM)} {g : kdM → Option (γ × kdM)} {f' : γ' → kzM → Option (α' × kzM)} {f : γ → kdM → Option (α × kdM)} (h : CR c1 ok1 g' g) (k : ∀ t, ok1 t → CR c ok (f' t) (f (c1 t))) : CR c ok (zcl g' f') (kcl g f) := by
  intro τ hτ r τ' hr
  unfold zcl at hr; unfold kcl
  revert hr
  match hg : g' τ with
  | none => intro hr; exact absurd hr (by simp)
  | some (x, τ1) =>
    intro hr
    obtain ⟨h1, h2, h3⟩ := h τ hτ x τ1 hg
    rw [h1]
    exact k x h2 τ1 h3 r τ' hr
theorem c_cv {G : kdS} {ci b : Nat} {γ' γ : Type} {c1 : γ' → γ} {ok1 : γ' → Prop} {g' : kzM → Option (γ' × kzM)} {g : kdM → Option (γ × kdM)} {f' : γ' → kzM → Option (α' × kzM)} {f : γ → kdM → Option (α × kdM)} (h : CR c1 ok1 g' g) (k : ∀ t, ok1 t → CR c ok (f' t) (f (c1 t))) : CR c ok (zcv G ci b g' f') (kcv G ci b g f) := by
  intro τ hτ r τ' hr
  unfold zcv at hr; unfold kcv
  by_cases e : (G.1 b).1 = ci
  · rw [if_pos e] at hr ⊢; exact c_cl h k τ hτ r τ' hr
  · rw [if_neg e] at hr; exact absurd hr (by simp)
theorem c_nz {y : Int} {y32 : Int32} {f' : kzM → Option (α' × kzM)} {f : kdM → Option (α × kdM)} (hy : kzI y) (e : Int32.ofInt y = y32) (k : CR c ok f' f) : CR c ok (znz y f') (nz y32 f) := by
  intro τ hτ r τ' hr
  unfold znz at hr; unfold nz
  have q : y = 0 ↔ y32 = 0 := kz_eq hy (by unfold kzI; omega) e rfl
  by_cases z : y = 0
  · rw [if_pos z] at hr; exact absurd hr (by simp)
  · rw [if_neg z] at hr; rw [if_neg (fun w => z (q.mpr w))]; exact k τ hτ r τ' hr
theorem c_nzL {y : Int} {y64 : Int64} {f' : kzM → Option (α' × kzM)} {f : kdM → Option (α × kdM)} (hy : kzL y) (e : Int64.ofInt y = y64) (k : CR c ok f' f) : CR c ok (znz y f') (nzL y64 f) := by
  intro τ hτ r τ' hr
  unfold znz at hr; unfold nzL
  have q : y = 0 ↔ y64 = 0 := by
    rw [← e, ← Int64.toInt_inj, kzL_to hy]; exact Iff.rfl
  by_cases z : y = 0
  · rw [if_pos z] at hr; exact absurd hr (by simp)
  · rw [if_neg z] at hr; rw [if_neg (fun w => z (q.mpr w))]; exact k τ hτ r τ' hr
theorem c_gI {G : kdS} {ci k a : Nat} {k' : Int} (hk : (k : Int) = k') {f' : Int → kzM → Option (α' × kzM)} {f : Int32 → kdM → Option (α × kdM)} (kk : ∀ t, kzI t → CR c ok (f' t) (f (Int32.ofInt t))) : CR c ok (zgI G ci k' a f') (gI G ci k a f) := by
  intro τ hτ r τ' hr
  unfold zgI at hr; unfold gI
  by_cases e : (G.1 a).1 = ci
  · rw [if_pos e] at hr ⊢; subst hk; exact kk _ (hτ.1 a k) τ hτ r τ' hr
  · rw [if_neg e] at hr; exact absurd hr (by simp)
theorem c_gR {G : kdS} {ci k a : Nat} {f' : Nat → kzM → Option (α' × kzM)} {f : Nat → kdM → Option (α × kdM)} (kk : ∀ t, CR c ok (f' t) (f t)) : CR c ok (zgR G ci k a f') (gR G ci k a f) := by
  intro τ hτ r τ' hr
  unfold zgR at hr; unfold gR
  by_cases e : (G.1 a).1 = ci
  · rw [if_pos e] at hr ⊢
    revert hr
    match G.2.1 a k with
    | none => intro hr; exact absurd hr (by simp)
    | some b => intro hr; exact kk b τ hτ r τ' hr
  · rw [if_neg e] at hr; exact absurd hr (by simp)
theorem c_sI {G : kdS} {ci k a : Nat} {k' : Int} (hk : (k : Int) = k') {v : Int} {v32 : Int32} (hv : kzI v) (e : Int32.ofInt v = v32) {f' : kzM → Option (α' × kzM)} {f : kdM → Option (α × kdM)} (kk : CR c ok f' f) : CR c ok (zsI G ci k' a v f') (sI G ci k a v32 f) := by
  intro τ hτ r τ' hr
  unfold zsI at hr; unfold sI
  by_cases q : (G.1 a).1 = ci
  · rw [if_pos q] at hr ⊢; subst hk; rw [← e, ← v2_cv1]; exact kk _ (v2_O1 hτ a k hv) r τ' hr
  · rw [if_neg q] at hr; exact absurd hr (by simp)
theorem c_aI {G : kdS} (hG : kzG G) {a : Nat} {i : Int} {i32 : Int32} (hi : Int32.ofInt i = i32) {f' : Int → kzM → Option (α' × kzM)} {f : Int32 → kdM → Option (α × kdM)} (kk : ∀ t, kzI t → CR c ok (f' t) (f (Int32.ofInt t))) : CR c ok (zaI G a i f') (aI G a i32 f) := by
  intro τ hτ r τ' hr
  unfold zaI at hr; unfold aI
  by_cases e : (G.1 a).1 = 13 ∧ 0 ≤ i ∧ i < ((G.1 a).2 : Int)
  · have q := kz_ix hG hi e.2
    rw [if_pos e] at hr; rw [if_pos (by rw [q]; exact e)]
    have z : (kzcv τ).1 a (ix i32) = Int32.ofInt (τ.1 a i) := by
      show Int32.ofInt (τ.1 a ((i32.toInt.toNat : Nat) : Int)) = _
      rw [q, Int.toNat_of_nonneg e.2.1]
    rw [z]; exact kk _ (hτ.1 a i) τ hτ r τ' hr
  · rw [if_neg e] at hr; exact absurd hr (by simp)
theorem c_aZ {G : kdS} (hG : kzG G) {a : Nat} {i : Int} {i32 : Int32} (hi : Int32.ofInt i = i32) {f' : Int → kzM → Option (α' × kzM)} {f : Int32 → kdM → Option (α × kdM)} (kk : ∀ t, kzI t → CR c ok (f' t) (f (Int32.ofInt t))) : CR c ok (zaZ G a i f') (aZ G a i32 f) := by
  intro τ hτ r τ' hr
  unfold zaZ at hr; unfold aZ
  by_cases e : (G.1 a).1 = 15 ∧ 0 ≤ i ∧ i < ((G.1 a).2 : Int)
  · have q := kz_ix hG hi e.2
    rw [if_pos e] at hr; rw [if_pos (by rw [q]; exact e)]
    have z : (kzcv τ).1 a (ix i32) = Int32.ofInt (τ.1 a i) := by
      show Int32.ofInt (τ.1 a ((i32.toInt.toNat : Nat) : Int)) = _
      rw [q, Int.toNat_of_nonneg e.2.1]
    rw [z]; exact kk _ (hτ.1 a i) τ hτ r τ' hr
  · rw [if_neg e] at hr; exact absurd hr (by simp)
theorem c_aL {G : kdS} (hG : kzG G) {a : Nat} {i : Int} {i32 : Int32} (hi : Int32.ofInt i = i32) {f' : Int → kzM → Option (α' × kzM)} {f : Int64 → kdM → Option (α × kdM)} (kk : ∀ t, kzL t → CR c ok (f' t) (f (Int64.ofInt t))) : CR c ok (zaL G a i f') (aL G a i32 f) := by
  intro τ hτ r τ' hr
  unfold zaL at hr; unfold aL
  by_cases e : (G.1 a).1 = 14 ∧ 0 ≤ i ∧ i < ((G.1 a).2 : Int)
  · have q := kz_ix hG hi e.2
    rw [if_pos e] at hr; rw [if_pos (by rw [q]; exact e)]
    have z : (kzcv τ).2 a (ix i32) = Int64.ofInt (τ.2 a i) := by
      show Int64.ofInt (τ.2 a ((i32.toInt.toNat : Nat) : Int)) = _
      rw [q, Int.toNat_of_nonneg e.2.1]
    rw [z]; exact kk _ (hτ.2 a i) τ hτ r τ' hr
  · rw [if_neg e] at hr; exact absurd hr (by simp)
theorem c_aN {G : kdS} (hG : kzG G) {a : Nat} {f' : Int → kzM → Option (α' × kzM)} {f : Int32 → kdM → Option (α × kdM)} (kk : ∀ t, kzI t → CR c ok (f' t) (f (Int32.ofInt t))) : CR c ok (zaN G a f') (aN G a f) := by
  intro τ hτ r τ' hr
  unfold zaN at hr; unfold aN
  by_cases e : (G.1 a).1 = 13
  · rw [if_pos e] at hr ⊢
    have z : Int32.ofNat (G.1 a).2 = Int32.ofInt ((G.1 a).2 : Int) := rfl
    rw [z]; exact kk _ (by have := hG a; unfold kzI; omega) τ hτ r τ' hr
  · rw [if_neg e] at hr; exact absurd hr (by simp)
theorem c_aR {G : kdS} (hG : kzG G) {t a : Nat} {i : Int} {i32 : Int32} (hi : Int32.ofInt i = i32) {f' : Nat → kzM → Option (α' × kzM)} {f : Nat → kdM → Option (α × kdM)} (kk : ∀ t, CR c ok (f' t) (f t)) : CR c ok (zaR G t a i f') (aR G t a i32 f) := by
  intro τ hτ r τ' hr
  unfold zaR at hr; unfold aR
  by_cases e : (G.1 a).1 = t ∧ 0 ≤ i ∧ i < ((G.1 a).2 : Int)
  · have q := kz_ix hG hi e.2
    rw [if_pos e] at hr; rw [if_pos (by rw [q]; exact e)]
    have z : ix i32 = i.toNat := by unfold ix; rw [q]
    rw [z]
    revert hr
    match G.2.1 a i.toNat with
    | none => intro hr; exact absurd hr (by simp)
    | some b => intro hr; exact kk b τ hτ r τ' hr
  · rw [if_neg e] at hr; exact absurd hr (by simp)
theorem c_tI {G : kdS} (hG : kzG G) {a : Nat} {i v : Int} {i32 v32 : Int32} (hi : Int32.ofInt i = i32) (hv : kzI v) (ev : Int32.ofInt v = v32) {f' : kzM → Option (α' × kzM)} {f : kdM → Option (α × kdM)} (kk : CR c ok f' f) : CR c ok (ztI G a i v f') (tI G a i32 v32 f) := by
  intro τ hτ r τ' hr
  unfold ztI at hr; unfold tI
  by_cases e : (G.1 a).1 = 13 ∧ 0 ≤ i ∧ i < ((G.1 a).2 : Int)
  · have q := kz_ix hG hi e.2
    rw [if_pos e] at hr; rw [if_pos (by rw [q]; exact e)]
    have z : i = ((ix i32 : Nat) : Int) := by unfold ix; rw [q, Int.toNat_of_nonneg e.2.1]
    rw [z] at hr
    rw [← ev, ← v2_cv1]; exact kk _ (v2_O1 hτ a _ hv) r τ' hr
  · rw [if_neg e] at hr; exact absurd hr (by simp)
theorem c_tZ {G : kdS} (hG : kzG G) {a : Nat} {i v : Int} {i32 v32 : Int32} (hi : Int32.ofInt i = i32) (ev : Int32.ofInt v = v32) {f' : kzM → Option (α' × kzM)} {f : kdM → Option (α × kdM)} (kk : CR c ok f' f) : CR c ok (ztZ G a i v f') (tZ G a i32 v32 f) := by
  intro τ hτ r τ' hr
  unfold ztZ at hr; unfold tZ
  by_cases e : (G.1 a).1 = 15 ∧ 0 ≤ i ∧ i < ((G.1 a).2 : Int)
  · have q := kz_ix hG hi e.2
    rw [if_pos e] at hr; rw [if_pos (by rw [q]; exact e)]
    have z : i = ((ix i32 : Nat) : Int) := by unfold ix; rw [q, Int.toNat_of_nonneg e.2.1]
    rw [z] at hr
    have w : vp_nar .boolean v32 = Int32.ofInt (zB v) := by unfold zB; rw [ev, kz_of]
    rw [w, ← v2_cv1]; exact kk _ (v2_O1 hτ a _ (kzI_of _)) r τ' hr
  · rw [if_neg e] at hr; exact absurd hr (by simp)
theorem c_tL {G : kdS} (hG : kzG G) {a : Nat} {i v : Int} {i32 : Int32} {v64 : Int64} (hi : Int32.ofInt i = i32) (hv : kzL v) (ev : Int64.ofInt v = v64) {f' : kzM → Option (α' × kzM)} {f : kdM → Option (α × kdM)} (kk : CR c ok f' f) : CR c ok (ztL G a i v f') (tL G a i32 v64 f) := by
  intro τ hτ r τ' hr
  unfold ztL at hr; unfold tL
  by_cases e : (G.1 a).1 = 14 ∧ 0 ≤ i ∧ i < ((G.1 a).2 : Int)
  · have q := kz_ix hG hi e.2
    rw [if_pos e] at hr; rw [if_pos (by rw [q]; exact e)]
    have z : i = ((ix i32 : Nat) : Int) := by unfold ix; rw [q, Int.toNat_of_nonneg e.2.1]
    rw [z] at hr
    rw [← ev, ← v2_cv2]; exact kk _ (v2_O2 hτ a _ hv) r τ' hr
  · rw [if_neg e] at hr; exact absurd hr (by simp)
theorem c_sc {xs : Nat → Int32} {N : Nat} (hN : N ≤ 3072) {i : Int} {i32 : Int32} (hi : Int32.ofInt i = i32) {f' : Int → kzM → Option (α' × kzM)} {f : Int32 → kdM → Option (α × kdM)} (kk : ∀ t, kzI t → CR c ok (f' t) (f (Int32.ofInt t))) : CR c ok (zsc xs N i f') (scd xs N i32 f) := by
  intro τ hτ r τ' hr
  unfold zsc at hr; unfold scd
  by_cases e : 0 ≤ i ∧ i < (N : Int)
  · have q : i32.toInt = i := by rw [← hi]; exact kz_to ⟨by omega, by omega⟩
    rw [if_pos e] at hr; rw [if_pos (by rw [q]; exact e)]
    have z : ix i32 = i.toNat := by unfold ix; rw [q]
    rw [z, ← kz_of (xs i.toNat)]; exact kk _ (kzI_of _) τ hτ r τ' hr
  · rw [if_neg e] at hr; exact absurd hr (by simp)
end KCR
theorem kz_B {v : Int} {v32 : Int32} (ev : Int32.ofInt v = v32) : Int32.ofInt (zB v) = vp_nar .boolean v32 := by unfold zB; rw [ev, kz_of]
theorem kz_BI (v : Int) : kzI (zB v) := kzI_of _
theorem kz_w {e : Int} (h1 : -4294967296 ≤ e) (h2 : e ≤ 4294967295) : (Int32.ofInt e).toInt = if e < -2147483648 then e + 4294967296 else if 2147483647 < e then e - 4294967296 else e := by
  rw [Int32.toInt_ofInt]
  show Int.bmod e 4294967296 = _
  unfold Int.bmod
  dsimp only
  split <;> (repeat' split) <;> omega
theorem kz_N {N : Nat} (hN : N ≤ 3072) : kzI (N : Int) := by unfold kzI; omega
theorem lp_rel {τ τ' : Type} {b : τ} {b' : τ'} {F : τ → τ} {F' : τ' → τ'} {R : τ → τ' → Prop} (h0 : R b b') (hs : ∀ f f', R f f' → R (F f) (F' f')) : ∀ n, R (lp b F n) (lp b' F' n)
  | 0 => h0
  | n + 1 => hs _ _ (lp_rel h0 hs n)
