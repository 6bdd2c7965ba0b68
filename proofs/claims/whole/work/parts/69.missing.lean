/-! missing -/
def setF (s : Int → Int) (x : Int) : Int → Int := fun y => if y = x then 1 else s y
def mkL (f : Int → Int) (s : Int → Int) : Nat → Int → Int
  | 0 => s
  | n + 1 => setF (mkL f s n) (f n)
noncomputable def mkR (P : Int → Prop) (f : Int → Int → Int) (N : Int → Int) : Nat → Int → Int
  | 0 => fun _ => 0
  | n + 1 => @ite _ (P n) (Classical.propDecidable _) (mkR P f N n) (mkL (f n) (mkR P f N n) (N n).toNat)
theorem mkR_pos {P : Int → Prop} {f : Int → Int → Int} {N : Int → Int} {n : Nat} (h : P n) : mkR P f N (n + 1) = mkR P f N n := @if_pos _ (Classical.propDecidable _) h _ _ _
theorem mkR_neg {P : Int → Prop} {f : Int → Int → Int} {N : Int → Int} {n : Nat} (h : ¬P n) : mkR P f N (n + 1) = mkL (f n) (mkR P f N n) (N n).toNat := @if_neg _ (Classical.propDecidable _) h _ _ _
def psF (fa fb fc : Int → Int) (s : Int → Int) : Nat → Int → Int
  | 0 => s
  | n + 1 => if psF fa fb fc s n (fa n) ≠ 0 ∧ psF fa fb fc s n (fb n) ≠ 0 then setF (psF fa fb fc s n) (fc n) else psF fa fb fc s n
def itF (fa fb fc : Int → Int) (J : Nat) (s : Int → Int) : Nat → Int → Int
  | 0 => s
  | n + 1 => psF fa fb fc (itF fa fb fc J s n) J
def b01 (s : Int → Int) : Prop := ∀ x, s x = 0 ∨ s x = 1
theorem setF_b {s : Int → Int} (h : b01 s) (x : Int) : b01 (setF s x) := fun y => by unfold setF; split; exact Or.inr rfl; exact h y
theorem mkL_b {f s : Int → Int} (h : b01 s) : ∀ n, b01 (mkL f s n)
  | 0 => h
  | n + 1 => setF_b (mkL_b h n) _
theorem mkR_b {P : Int → Prop} {f : Int → Int → Int} {N : Int → Int} : ∀ n, b01 (mkR P f N n)
  | 0 => fun _ => Or.inl rfl
  | n + 1 => by
    by_cases h : P n
    · rw [mkR_pos h]; exact mkR_b n
    · rw [mkR_neg h]; exact mkL_b (mkR_b n) _
theorem psF_b {fa fb fc s : Int → Int} (h : b01 s) : ∀ n, b01 (psF fa fb fc s n)
  | 0 => h
  | n + 1 => by
    unfold psF
    split
    · exact setF_b (psF_b h n) _
    · exact psF_b h n
theorem itF_b {fa fb fc s : Int → Int} {J : Nat} (h : b01 s) : ∀ n, b01 (itF fa fb fc J s n)
  | 0 => h
  | n + 1 => psF_b (itF_b h n) J
theorem setF_mono {s : Int → Int} {x y : Int} (h : s y ≠ 0) : setF s x y ≠ 0 := by
  unfold setF; split
  · decide
  · exact h
theorem psF_mono {fa fb fc s : Int → Int} {y : Int} (h : s y ≠ 0) : ∀ n, psF fa fb fc s n y ≠ 0
  | 0 => h
  | n + 1 => by
    unfold psF
    split
    · exact setF_mono (psF_mono h n)
    · exact psF_mono h n
theorem psF_new {fa fb fc s : Int → Int} (h : b01 s) : ∀ n, psF fa fb fc s n = s ∨ ∃ j : Nat, j < n ∧ s (fc j) = 0 ∧ psF fa fb fc s n (fc j) ≠ 0
  | 0 => Or.inl rfl
  | n + 1 => by
    have ih := psF_new (fa := fa) (fb := fb) (fc := fc) h n
    unfold psF
    split
    · rcases ih with ih | ⟨j, j1, j2, j3⟩
      · rw [ih]
        rcases h (fc n) with e | e
        · exact Or.inr ⟨n, by omega, e, by unfold setF; rw [if_pos rfl]; decide⟩
        · refine Or.inl (funext fun y => ?_)
          unfold setF; split
          · rename_i q; rw [q, e]
          · rfl
      · exact Or.inr ⟨j, by omega, j2, setF_mono j3⟩
    · rcases ih with ih | ⟨j, j1, j2, j3⟩
      · exact Or.inl ih
      · exact Or.inr ⟨j, by omega, j2, j3⟩
def phF (fc s : Int → Int) : Nat → Nat
  | 0 => 0
  | n + 1 => phF fc s n + (if s (fc n) = 0 then 0 else 1)
theorem phF_le (fc s : Int → Int) : ∀ n, phF fc s n ≤ n
  | 0 => Nat.le_refl _
  | n + 1 => by have := phF_le fc s n; unfold phF; split <;> omega
theorem phF_mono {fc s s' : Int → Int} (h : ∀ y, s y ≠ 0 → s' y ≠ 0) : ∀ n, phF fc s n ≤ phF fc s' n
  | 0 => Nat.le_refl _
  | n + 1 => by
    have ih := phF_mono (fc := fc) h n
    have e := h (fc n)
    unfold phF
    by_cases c : s (fc n) = 0
    · rw [if_pos c]; omega
    · rw [if_neg c, if_neg (e c)]; omega
theorem phF_lt {fc s s' : Int → Int} (h : ∀ y, s y ≠ 0 → s' y ≠ 0) {j : Nat} (j1 : s (fc j) = 0) (j2 : s' (fc j) ≠ 0) : ∀ n, j < n → phF fc s n < phF fc s' n
  | 0, hj => by omega
  | n + 1, hj => by
    unfold phF
    by_cases c : j = n
    · rw [← c, if_pos j1, if_neg j2]
      have := phF_mono (fc := fc) h j
      omega
    · have ih := phF_lt (fc := fc) h j1 j2 n (by omega)
      have e := h (fc n)
      by_cases d : s (fc n) = 0
      · rw [if_pos d]; omega
      · rw [if_neg d, if_neg (e d)]; omega
theorem itF_stab {fa fb fc s : Int → Int} {J : Nat} (h : b01 s) : ∀ k, itF fa fb fc J s (k + 1) = itF fa fb fc J s k ∨ k + 1 ≤ phF fc (itF fa fb fc J s (k + 1)) J
  | 0 => by
    rcases psF_new (fa := fa) (fb := fb) (fc := fc) h J with e | ⟨j, j1, j2, j3⟩
    · exact Or.inl e
    · have := phF_lt (fc := fc) (s := s) (s' := psF fa fb fc s J) (fun y hy => psF_mono hy J) j2 j3 J j1
      exact Or.inr (by show 0 + 1 ≤ phF fc (psF fa fb fc s J) J; omega)
  | k + 1 => by
    have ih := itF_stab (fa := fa) (fb := fb) (fc := fc) (J := J) h k
    rcases psF_new (fa := fa) (fb := fb) (fc := fc) (itF_b (fa := fa) (fb := fb) (fc := fc) (J := J) h (k + 1)) J with e | ⟨j, j1, j2, j3⟩
    · exact Or.inl e
    · rcases ih with ih | ih
      · refine Or.inl ?_
        show psF fa fb fc (itF fa fb fc J s (k + 1)) J = itF fa fb fc J s (k + 1)
        rw [ih]; exact ih
      · have := phF_lt (fc := fc) (s := itF fa fb fc J s (k + 1)) (s' := psF fa fb fc (itF fa fb fc J s (k + 1)) J) (fun y hy => psF_mono hy J) j2 j3 J j1
        exact Or.inr (by show k + 1 + 1 ≤ phF fc (psF fa fb fc (itF fa fb fc J s (k + 1)) J) J; omega)
theorem itF_J {fa fb fc s : Int → Int} {J : Nat} (h : b01 s) : ∀ m, itF fa fb fc J s (J + m) = itF fa fb fc J s J
  | 0 => rfl
  | m + 1 => by
    have st : itF fa fb fc J s (J + 1) = itF fa fb fc J s J := by
      rcases itF_stab (fa := fa) (fb := fb) (fc := fc) (J := J) h J with e | e
      · exact e
      · have := phF_le fc (itF fa fb fc J s (J + 1)) J; omega
    have ih := itF_J (fa := fa) (fb := fb) (fc := fc) (J := J) h m
    show psF fa fb fc (itF fa fb fc J s (J + m)) J = _
    rw [ih]; exact st
def eq61 (f g : Int → Int) : Prop := ∀ x, 0 ≤ x → x ≤ 60 → f x = g x
theorem eq61_set {f g : Int → Int} (h : eq61 f g) (x : Int) : eq61 (fun y => if y = x then 1 else f y) (setF g x) := fun y y0 y1 => by
  unfold setF; dsimp only; split
  · rfl
  · exact h y y0 y1
theorem psF_congr {fa fb fc ga gb gc s : Int → Int} : ∀ n : Nat, (∀ k : Int, 0 ≤ k → k < n → fa k = ga k ∧ fb k = gb k ∧ fc k = gc k) → psF fa fb fc s n = psF ga gb gc s n
  | 0, _ => rfl
  | n + 1, h => by
    unfold psF
    obtain ⟨e1, e2, e3⟩ := h n (by omega) (by omega)
    rw [psF_congr n (fun k k0 k1 => h k k0 (by omega)), e1, e2, e3]
/-- the letters of rules, as the reference has them -/
def letF (τ : kzM) (t r j : Int) : Int := τ.1 619 (3 * (24 * t + r) + j)
def letN (τ : kzM) (t r : Int) : Int := τ.1 620 (24 * t + r)
noncomputable def mad0 (τ : kzM) (t : Int) (n : Nat) : Int → Int := mkR (isIdleP τ t) (letF τ t) (letN τ t) n
def jnA (τ : kzM) (t j : Int) : Int := τ.1 622 (3 * (12 * t + j))
def jnB (τ : kzM) (t j : Int) : Int := τ.1 622 (3 * (12 * t + j) + 1)
def jnC (τ : kzM) (t j : Int) : Int := τ.1 622 (3 * (12 * t + j) + 2)
/-- the count of the first ones -/
noncomputable def mS (P : Int → Prop) (i : Int) : Nat → Int → Int → Int
  | 0, _, c => if i = -1 then c else -6
  | n + 1, l, c => @ite _ (P l) (Classical.propDecidable _) (if c = i then l else mS P i n (l + 1) (c + 1)) (mS P i n (l + 1) c)
theorem mS_pos {P : Int → Prop} {i l c : Int} {n : Nat} (h : P l) : mS P i (n + 1) l c = if c = i then l else mS P i n (l + 1) (c + 1) := @if_pos _ (Classical.propDecidable _) h _ _ _
theorem mS_neg {P : Int → Prop} {i l c : Int} {n : Nat} (h : ¬P l) : mS P i (n + 1) l c = mS P i n (l + 1) c := @if_neg _ (Classical.propDecidable _) h _ _ _
theorem mS_congr {P P' : Int → Prop} {i : Int} : ∀ (n : Nat) (l c : Int), (∀ x, l ≤ x → x < l + n → (P x ↔ P' x)) → mS P i n l c = mS P' i n l c
  | 0, _, _, _ => rfl
  | n + 1, l, c, h => by
    have e := h l (by omega) (by omega)
    have ih1 := mS_congr (P := P) (P' := P') (i := i) n (l + 1) (c + 1) (fun x x0 x1 => h x (by omega) (by omega))
    have ih2 := mS_congr (P := P) (P' := P') (i := i) n (l + 1) c (fun x x0 x1 => h x (by omega) (by omega))
    by_cases q : P l
    · rw [mS_pos q, mS_pos (e.mp q), ih1]
    · rw [mS_neg q, mS_neg (fun z => q (e.mpr z)), ih2]
