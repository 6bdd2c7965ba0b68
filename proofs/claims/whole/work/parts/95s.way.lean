/-! ways: layouts one exchange apart -/
def cntS (f : Int → Int) (i : Int) : Nat → Int
  | 0 => 0
  | k + 1 => cntS f i k + if f i ≤ f (i + 1 + k) then 0 else 1
def rkf (f : Int → Int) (n : Nat) : Nat → Int
  | 0 => 0
  | i + 1 => rkf f n i * ((n : Int) - i) + cntS f i (n - 1 - i)
theorem cntS_cg {f g : Int → Int} {n : Nat} (h : ∀ x : Int, 0 ≤ x → x < n → f x = g x) {i : Nat} : ∀ k : Nat, i + 1 + k ≤ n → cntS f i k = cntS g i k
  | 0, _ => rfl
  | k + 1, hk => by
    unfold cntS
    rw [cntS_cg h k (by omega), h i (by omega) (by omega), h ((i : Int) + 1 + k) (by omega) (by omega)]
theorem rkf_cg {f g : Int → Int} {n : Nat} (h : ∀ x : Int, 0 ≤ x → x < n → f x = g x) : ∀ i : Nat, i ≤ n → rkf f n i = rkf g n i
  | 0, _ => rfl
  | i + 1, hi => by
    unfold rkf
    rw [rkf_cg h i (by omega), cntS_cg h (i := i) (n - 1 - i) (by omega)]
def lay (n i : Nat) : List Nat := (allP n).getD i []
def rowN (n : Nat) (i : Int) : Int → Int := rowL (lay n i.toNat)
def codN (n : Nat) (i : Int) : Int := dgF (rowN n i) n
def szN (n : Nat) : Nat := (allP n).length
def dfC (x y : Int) : Nat → Int
  | 0 => 0
  | k + 1 => dfC x y k + if Int.tmod (dgQ x k) 10 = Int.tmod (dgQ y k) 10 then 0 else 1
def prs : Nat → List (Int × Int)
  | 2 => [(0, 1)]
  | 3 => [(0, 1), (0, 2), (1, 2)]
  | 4 => [(0, 1), (0, 2), (0, 3), (1, 2), (1, 3), (2, 3)]
  | 5 => [(0, 1), (0, 2), (0, 3), (0, 4), (1, 2), (1, 3), (1, 4), (2, 3), (2, 4), (3, 4)]
  | _ => []
def eqB (n : Nat) (f g : Int → Int) : Bool := (List.range n).all fun x => decide (f (x : Int) = g (x : Int))
theorem eqB_iff {n : Nat} {f g : Int → Int} : eqB n f g = true ↔ ∀ x : Int, 0 ≤ x → x < n → f x = g x := by
  unfold eqB
  rw [List.all_eq_true]
  constructor
  · intro h x x0 x1
    have := h x.toNat (List.mem_range.2 (by omega))
    rw [decide_eq_true_eq, show ((x.toNat : Nat) : Int) = x by omega] at this
    exact this
  · intro h x hx
    have := List.mem_range.1 hx
    exact decide_eq_true (h x (by omega) (by omega))
def adB (n : Nat) (p q : List Nat) : Bool := decide (dfC (dgF (rowL p) n) (dgF (rowL q) n) n = 2) == (prs n).any fun ab => eqB n (rowL q) (exF (rowL p) ab.1 ab.2)
def adA (n : Nat) : Bool := (allP n).all fun p => (allP n).all fun q => adB n p q
def rkA (n : Nat) : Bool := decide ((allP n).map (fun p => rkf (rowL p) n n) = (List.range (allP n).length).map fun (i : Nat) => (i : Int))
def dnA (n : Nat) : Bool := (allP n).all fun p => decide (rkf (rowL p) n n = 0) || (prs n).any fun ab => decide (rkf (exF (rowL p) ab.1 ab.2) n n < rkf (rowL p) n n)
theorem adA_n : adA 2 = true ∧ adA 3 = true ∧ adA 4 = true ∧ adA 5 = true := ⟨by decide +kernel, by decide +kernel, by decide +kernel, by decide +kernel⟩
theorem rkA_n : rkA 2 = true ∧ rkA 3 = true ∧ rkA 4 = true ∧ rkA 5 = true := ⟨by decide +kernel, by decide +kernel, by decide +kernel, by decide +kernel⟩
theorem dnA_n : dnA 2 = true ∧ dnA 3 = true ∧ dnA 4 = true ∧ dnA 5 = true := ⟨by decide +kernel, by decide +kernel, by decide +kernel, by decide +kernel⟩
theorem szN_n : szN 2 = 2 ∧ szN 3 = 6 ∧ szN 4 = 24 ∧ szN 5 = 120 := ⟨by decide +kernel, by decide +kernel, by decide +kernel, by decide +kernel⟩
theorem way_n {n : Nat} (h : 2 ≤ n ∧ n ≤ 5) : adA n = true ∧ rkA n = true ∧ dnA n = true ∧ szN n ≤ 120 ∧ 0 < szN n := by
  obtain ⟨a2, a3, a4, a5⟩ := adA_n
  obtain ⟨b2, b3, b4, b5⟩ := rkA_n
  obtain ⟨c2, c3, c4, c5⟩ := dnA_n
  obtain ⟨d2, d3, d4, d5⟩ := szN_n
  rcases (by omega : n = 2 ∨ n = 3 ∨ n = 4 ∨ n = 5) with e | e | e | e <;> subst e
  · exact ⟨a2, b2, c2, by omega, by omega⟩
  · exact ⟨a3, b3, c3, by omega, by omega⟩
  · exact ⟨a4, b4, c4, by omega, by omega⟩
  · exact ⟨a5, b5, c5, by omega, by omega⟩
theorem prs_mem {n : Nat} (h : 2 ≤ n ∧ n ≤ 5) {a b : Int} : (a, b) ∈ prs n ↔ 0 ≤ a ∧ a < b ∧ b < n := by
  rcases (by omega : n = 2 ∨ n = 3 ∨ n = 4 ∨ n = 5) with e | e | e | e <;> subst e
  all_goals
    simp only [prs, List.mem_cons, List.not_mem_nil, or_false, Prod.mk.injEq]
    omega
theorem lay_mem {n : Nat} {i : Int} (i0 : 0 ≤ i) (i1 : i < szN n) : lay n i.toNat ∈ allP n := by
  unfold lay szN at *
  rw [List.getD_eq_getElem?_getD, List.getElem?_eq_getElem (by omega)]
  exact List.getElem_mem _
theorem mem_lay {n : Nat} {q : List Nat} (h : q ∈ allP n) : ∃ i : Int, (0 ≤ i ∧ i < szN n) ∧ lay n i.toNat = q := by
  obtain ⟨i, hi, e⟩ := List.mem_iff_getElem.1 h
  refine ⟨i, ⟨by omega, by unfold szN; omega⟩, ?_⟩
  unfold lay
  rw [List.getD_eq_getElem?_getD, show ((i : Int)).toNat = i by omega, List.getElem?_eq_getElem hi, e]
  rfl
theorem rk_lay {n : Nat} (h : 2 ≤ n ∧ n ≤ 5) {i : Int} (i0 : 0 ≤ i) (i1 : i < szN n) : rkf (rowN n i) n n = i := by
  have r := (way_n h).2.1
  unfold rkA at r
  have r := of_decide_eq_true r
  have k : ((allP n).map (fun p => rkf (rowL p) n n))[i.toNat]? = ((List.range (allP n).length).map fun (i : Nat) => (i : Int))[i.toNat]? := by rw [r]
  have i2 : i.toNat < (allP n).length := by unfold szN at i1; omega
  rw [List.getElem?_map, List.getElem?_map, List.getElem?_eq_getElem i2, List.getElem?_range i2] at k
  have k2 : rkf (rowL (allP n)[i.toNat]) n n = (i.toNat : Int) := by
    simpa using k
  unfold rowN lay
  rw [List.getD_eq_getElem?_getD, List.getElem?_eq_getElem i2]
  show rkf (rowL (allP n)[i.toNat]) n n = i
  omega
/-- one exchange apart -/
def adL (n : Nat) (i j : Int) : Prop := ∃ a b : Int, (0 ≤ a ∧ a < b ∧ b < n) ∧ ∀ x : Int, 0 ≤ x → x < n → rowN n j x = exF (rowN n i) a b x
theorem adL_df {n : Nat} (h : 2 ≤ n ∧ n ≤ 5) {i j : Int} (i0 : 0 ≤ i) (i1 : i < szN n) (j0 : 0 ≤ j) (j1 : j < szN n) : dfC (codN n i) (codN n j) n = 2 ↔ adL n i j := by
  have r := (way_n h).1
  unfold adA at r
  rw [List.all_eq_true] at r
  have r := r _ (lay_mem i0 i1)
  rw [List.all_eq_true] at r
  have r := r _ (lay_mem j0 j1)
  unfold adB at r
  rw [beq_iff_eq] at r
  rw [← decide_eq_true_eq (p := dfC (codN n i) (codN n j) n = 2)]
  rw [show decide (dfC (codN n i) (codN n j) n = 2) = decide (dfC (dgF (rowL (lay n i.toNat)) n) (dgF (rowL (lay n j.toNat)) n) n = 2) from rfl, r, List.any_eq_true]
  constructor
  · rintro ⟨⟨a, b⟩, hab, e⟩
    exact ⟨a, b, (prs_mem h).1 hab, eqB_iff.1 e⟩
  · rintro ⟨a, b, hab, e⟩
    exact ⟨(a, b), (prs_mem h).2 hab, eqB_iff.2 e⟩
theorem adL_sy {n : Nat} {i j : Int} (h : adL n i j) : adL n j i := by
  obtain ⟨a, b, hab, e⟩ := h
  refine ⟨a, b, hab, fun x x0 x1 => ?_⟩
  rw [exF_cg (g := exF (rowN n i) a b) e hab.1 (by omega) (by omega) hab.2.2 x x0 x1, exF_2]
theorem goodN {n : Nat} {i : Int} (i0 : 0 ≤ i) (i1 : i < szN n) : goodF n (rowN n i) := by
  obtain ⟨a, b, c⟩ := allP_mem.1 (lay_mem i0 i1)
  have at' : ∀ x : Int, 0 ≤ x → x < n → ∃ h : x.toNat < (lay n i.toNat).length, rowN n i x = ((lay n i.toNat)[x.toNat] : Nat) := fun x x0 x1 => by
    have h : x.toNat < (lay n i.toNat).length := by omega
    refine ⟨h, ?_⟩
    unfold rowN rowL
    rw [List.getD_eq_getElem?_getD, List.getElem?_eq_getElem h]
    rfl
  refine ⟨fun x x0 x1 => ?_, fun x y x0 x1 y0 y1 xy => ?_⟩
  · obtain ⟨h, e⟩ := at' x x0 x1
    rw [e]
    have := b _ (List.getElem_mem h)
    omega
  · obtain ⟨h, e⟩ := at' x x0 x1
    obtain ⟨k, f⟩ := at' y y0 y1
    rw [e, f]
    intro z
    have z' : (lay n i.toNat)[x.toNat] = (lay n i.toNat)[y.toNat] := by omega
    have c' := List.pairwise_iff_getElem.1 c
    rcases Int.lt_trichotomy x y with q | q | q
    · exact c' x.toNat y.toNat h k (by omega) z'
    · exact xy q
    · exact c' y.toNat x.toNat k h (by omega) z'.symm
/-- where an exchange leads -/
theorem ex_lay {n : Nat} (h : 2 ≤ n ∧ n ≤ 5) {i a b : Int} (i0 : 0 ≤ i) (i1 : i < szN n) (hab : 0 ≤ a ∧ a < b ∧ b < n) : ∃ j : Int, (0 ≤ j ∧ j < szN n) ∧ adL n i j ∧ (∀ x : Int, 0 ≤ x → x < n → rowN n j x = exF (rowN n i) a b x) ∧ rkf (exF (rowN n i) a b) n n = j := by
  obtain ⟨q, q1, q2⟩ := row_list (goodF_ex (goodN i0 i1) hab.1 (by omega) (show 0 ≤ b by omega) hab.2.2)
  obtain ⟨j, hj, e⟩ := mem_lay q1
  have er : ∀ x : Int, 0 ≤ x → x < n → rowN n j x = exF (rowN n i) a b x := fun x x0 x1 => by
    unfold rowN
    rw [e]
    exact q2 x x0 x1
  refine ⟨j, hj, ⟨a, b, hab, er⟩, er, ?_⟩
  rw [← rkf_cg er n (Nat.le_refl _)]
  exact rk_lay h hj.1 hj.2
theorem adL_u {n : Nat} (h : 2 ≤ n ∧ n ≤ 5) {i j j' : Int} (j0 : 0 ≤ j) (j1 : j < szN n) (k0 : 0 ≤ j') (k1 : j' < szN n) (e : ∀ x : Int, 0 ≤ x → x < n → rowN n j x = rowN n j' x) : j = j' := by
  rw [← rk_lay h j0 j1, ← rk_lay h k0 k1]
  exact rkf_cg e n (Nat.le_refl _)
theorem dn_lay {n : Nat} (h : 2 ≤ n ∧ n ≤ 5) {i : Int} (i0 : 0 < i) (i1 : i < szN n) : ∃ j : Int, (0 ≤ j ∧ j < i) ∧ adL n i j := by
  have r := (way_n h).2.2.1
  unfold dnA at r
  rw [List.all_eq_true] at r
  have r := r _ (lay_mem (by omega) i1)
  have ri := rk_lay h (by omega) i1
  rw [Bool.or_eq_true, decide_eq_true_eq, List.any_eq_true] at r
  rcases r with r | ⟨⟨a, b⟩, hab, r⟩
  · rw [show rowL (lay n i.toNat) = rowN n i from rfl, ri] at r
    omega
  · have r := of_decide_eq_true r
    obtain ⟨j, j1, j2, j3, j4⟩ := ex_lay h (by omega) i1 ((prs_mem h).1 hab)
    dsimp only at r
    rw [show rowL (lay n i.toNat) = rowN n i from rfl, ri, j4] at r
    exact ⟨j, ⟨j1.1, r⟩, j2⟩
theorem cnn_all {n : Nat} (h : 2 ≤ n ∧ n ≤ 5) {c : Int → Int} {t : Int} (hc : ∀ v : Int, 0 ≤ v → v < szN n → c v ≤ t) {s v : Int} (s0 : 0 ≤ s) (s1 : s < szN n) (v0 : 0 ≤ v) (v1 : v < szN n) : cnn (szN n) c (adL n) s t v := by
  have z : ∀ (k : Nat) (v : Int), v.toNat < k → 0 ≤ v → v < szN n → cnn (szN n) c (adL n) v t 0 := by
    intro k
    induction k with
    | zero => intro v a; omega
    | succ k ih =>
      intro v a b d
      by_cases e : v = 0
      · subst e
        exact ⟨0, rfl, hc 0 b d⟩
      · obtain ⟨j, hj, ha⟩ := dn_lay h (i := v) (by omega) d
        obtain ⟨m, hm⟩ := ih j (by omega) hj.1 (by omega)
        have one : cnn (szN n) c (adL n) v t j := ⟨1, Or.inr ⟨hc j hj.1 (by omega), v, ⟨b, d⟩, ⟨rfl, hc v b d⟩, ha⟩⟩
        exact cnn_tr one m 0 hm
  obtain ⟨m, hm⟩ := z (v.toNat + 1) v (by omega) v0 v1
  obtain ⟨m', hm'⟩ := cnn_sy (fun u w _ _ _ _ q => adL_sy q) m 0 (by omega) (by omega) hm
  exact cnn_tr (z (s.toNat + 1) s (by omega) s0 s1) m' v hm'
