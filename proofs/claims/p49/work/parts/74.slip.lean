def oneC (P : Int → Int) (a b : Int) : Int := if a = b then 0 else if 1 < zabs (a.tdiv 4 - b.tdiv 4) then P 4 else if 1 < zabs (a.tmod 4 - b.tmod 4) then P 4 else P 0
def cellE (t : Int → Int → Int) (s w P : Int → Int) (i j : Int) : Int :=
  if i = 0 then j * P 2 else
  let last := s (i - 1)
  let ahead := if i ≤ 1 then -1 else s (i - 2)
  let x0 := t (i - 1) j + (if last = ahead then P 1 else P 4)
  let x1 := if j ≤ 0 then x0 else zmin (zmin x0 (t i (j - 1) + P 2)) (t (i - 1) (j - 1) + oneC P last (w (j - 1)))
  if i ≤ 1 ∨ j ≤ 1 ∨ last = ahead ∨ ¬last = w (j - 2) ∨ ¬ahead = w (j - 1) then x1 else zmin x1 (t (i - 2) (j - 2) + P 3)
theorem cellE_cg {t t' : Int → Int → Int} {s w P : Int → Int} {i j : Int} (h1 : ¬i = 0 → t (i - 1) j = t' (i - 1) j) (h2 : ¬i = 0 → ¬j ≤ 0 → t i (j - 1) = t' i (j - 1) ∧ t (i - 1) (j - 1) = t' (i - 1) (j - 1)) (h3 : ¬i = 0 → ¬i ≤ 1 → ¬j ≤ 1 → t (i - 2) (j - 2) = t' (i - 2) (j - 2)) : cellE t s w P i j = cellE t' s w P i j := by
  unfold cellE
  by_cases c : i = 0
  · rw [if_pos c, if_pos c]
  · rw [if_neg c, if_neg c]
    rw [h1 c]
    by_cases d : j ≤ 0
    · simp only [d, if_true]
      by_cases e : i ≤ 1 ∨ j ≤ 1 ∨ s (i - 1) = (if i ≤ 1 then -1 else s (i - 2)) ∨ ¬s (i - 1) = w (j - 2) ∨ ¬(if i ≤ 1 then -1 else s (i - 2)) = w (j - 1)
      · rw [if_pos e, if_pos e]
      · exact absurd (Or.inr (Or.inl (by omega))) e
    · simp only [d, if_false]
      rw [(h2 c d).1, (h2 c d).2]
      by_cases e : i ≤ 1 ∨ j ≤ 1 ∨ s (i - 1) = (if i ≤ 1 then -1 else s (i - 2)) ∨ ¬s (i - 1) = w (j - 2) ∨ ¬(if i ≤ 1 then -1 else s (i - 2)) = w (j - 1)
      · rw [if_pos e, if_pos e]
      · rw [if_neg e, if_neg e, h3 c (fun q => e (Or.inl q)) (fun q => e (Or.inr (Or.inl q)))]
def eRow (r2 r1 : Int → Int) (s w P : Int → Int) (i : Int) : Nat → Int
  | 0 => cellE (fun a b => if a = i - 1 then r1 b else r2 b) s w P i 0
  | j + 1 => cellE (fun a b => if a = i then eRow r2 r1 s w P i j else if a = i - 1 then r1 b else r2 b) s w P i (j + 1)
def eTab (s w P : Int → Int) : Nat → (Int → Int) × (Int → Int)
  | 0 => (fun _ => 0, fun j => j * P 2)
  | n + 1 => ((eTab s w P n).2, fun j => eRow (eTab s w P n).1 (eTab s w P n).2 s w P (n + 1) j.toNat)
def eD (s w P : Int → Int) (i j : Int) : Int := (eTab s w P i.toNat).2 j
theorem eD_eq {s w P : Int → Int} {i j : Int} (i0 : 0 ≤ i) (j0 : 0 ≤ j) : eD s w P i j = cellE (eD s w P) s w P i j := by
  by_cases c : i = 0
  · subst c
    unfold cellE
    rw [if_pos rfl]; rfl
  · obtain ⟨n, hn⟩ : ∃ n : Nat, i = (n : Int) + 1 := ⟨(i - 1).toNat, by omega⟩
    subst hn
    have e1 : ∀ b, eD s w P ((n : Int) + 1 - 1) b = (eTab s w P n).2 b := fun b => by unfold eD; rw [show ((n : Int) + 1 - 1).toNat = n by omega]
    have e2 : ¬(n : Int) + 1 ≤ 1 → ∀ b, eD s w P ((n : Int) + 1 - 2) b = (eTab s w P n).1 b := fun h b => by
      obtain ⟨m, hm⟩ : ∃ m : Nat, n = m + 1 := ⟨n - 1, by omega⟩
      subst hm
      unfold eD; rw [show (((m + 1 : Nat) : Int) + 1 - 2).toNat = m by omega]; rfl
    have e0 : ∀ b, eD s w P ((n : Int) + 1) b = eRow (eTab s w P n).1 (eTab s w P n).2 s w P (n + 1) b.toNat := fun b => by
      unfold eD; rw [show ((n : Int) + 1).toNat = n + 1 by omega]; rfl
    rw [e0]
    by_cases d : j = 0
    · subst d
      show eRow _ _ s w P (n + 1) 0 = _
      unfold eRow
      refine cellE_cg (fun _ => ?_) (fun _ h => by omega) (fun _ _ h => by omega)
      rw [if_pos rfl, e1]
    · obtain ⟨m, hm⟩ : ∃ m : Nat, j = (m : Int) + 1 := ⟨(j - 1).toNat, by omega⟩
      subst hm
      rw [show ((m : Int) + 1).toNat = m + 1 by omega]
      show cellE _ s w P (n + 1) ((m : Nat) + 1) = _
      refine cellE_cg (fun _ => ?_) (fun _ _ => ⟨?_, ?_⟩) (fun _ h _ => ?_)
      · rw [if_neg (by omega), if_pos rfl, e1]
      · rw [if_pos rfl, e0, show ((m : Int) + 1 - 1).toNat = m by omega]
      · rw [if_neg (by omega), if_pos rfl, e1]
      · rw [if_neg (by omega), if_neg (by omega), e2 h]
def prB (P : Int → Int) : Prop := ∀ k, 0 ≤ k → k < 6 → 0 ≤ P k ∧ P k ≤ 20
theorem oneC_b {P : Int → Int} (h : prB P) (a b : Int) : 0 ≤ oneC P a b ∧ oneC P a b ≤ 20 := by
  have h0 := h 0 (by omega) (by omega)
  have h4 := h 4 (by omega) (by omega)
  unfold oneC
  (repeat' split) <;> omega
theorem zmin_b {x y l u : Int} (h1 : l ≤ x) (h2 : x ≤ u) (h3 : l ≤ y) : l ≤ zmin x y ∧ zmin x y ≤ u := by
  unfold zmin; split <;> omega
theorem eD_b {s w P : Int → Int} (h : prB P) : ∀ (m : Nat) (i j : Int), 0 ≤ i → 0 ≤ j → i + j < (m : Int) → 0 ≤ eD s w P i j ∧ eD s w P i j ≤ 20 * (i + j)
  | 0, i, j, i0, j0, hm => by omega
  | m + 1, i, j, i0, j0, hm => by
    have p1 := h 1 (by omega) (by omega)
    have p2 := h 2 (by omega) (by omega)
    have p3 := h 3 (by omega) (by omega)
    have p4 := h 4 (by omega) (by omega)
    rw [eD_eq i0 j0]
    unfold cellE
    by_cases c : i = 0
    · rw [if_pos c]
      have a1 : 0 ≤ j * P 2 := Int.mul_nonneg j0 p2.1
      have a2 : j * P 2 ≤ j * 20 := Int.mul_le_mul_of_nonneg_left p2.2 j0
      omega
    · rw [if_neg c]
      have b1 := eD_b (s := s) (w := w) h m (i - 1) j (by omega) j0 (by omega)
      have x0 : 0 ≤ eD s w P (i - 1) j + (if s (i - 1) = (if i ≤ 1 then -1 else s (i - 2)) then P 1 else P 4) ∧ eD s w P (i - 1) j + (if s (i - 1) = (if i ≤ 1 then -1 else s (i - 2)) then P 1 else P 4) ≤ 20 * (i + j) := by split <;> omega
      have x1 : 0 ≤ (if j ≤ 0 then eD s w P (i - 1) j + (if s (i - 1) = (if i ≤ 1 then -1 else s (i - 2)) then P 1 else P 4) else zmin (zmin (eD s w P (i - 1) j + (if s (i - 1) = (if i ≤ 1 then -1 else s (i - 2)) then P 1 else P 4)) (eD s w P i (j - 1) + P 2)) (eD s w P (i - 1) (j - 1) + oneC P (s (i - 1)) (w (j - 1)))) ∧ (if j ≤ 0 then eD s w P (i - 1) j + (if s (i - 1) = (if i ≤ 1 then -1 else s (i - 2)) then P 1 else P 4) else zmin (zmin (eD s w P (i - 1) j + (if s (i - 1) = (if i ≤ 1 then -1 else s (i - 2)) then P 1 else P 4)) (eD s w P i (j - 1) + P 2)) (eD s w P (i - 1) (j - 1) + oneC P (s (i - 1)) (w (j - 1)))) ≤ 20 * (i + j) := by
        by_cases d : j ≤ 0
        · rw [if_pos d]; exact x0
        · rw [if_neg d]
          have b2 := eD_b (s := s) (w := w) h m i (j - 1) i0 (by omega) (by omega)
          have b3 := eD_b (s := s) (w := w) h m (i - 1) (j - 1) (by omega) (by omega) (by omega)
          have o := oneC_b h (s (i - 1)) (w (j - 1))
          have z1 := zmin_b (y := eD s w P i (j - 1) + P 2) x0.1 x0.2 (by omega)
          exact zmin_b z1.1 z1.2 (by omega)
      by_cases e : i ≤ 1 ∨ j ≤ 1 ∨ s (i - 1) = (if i ≤ 1 then -1 else s (i - 2)) ∨ ¬s (i - 1) = w (j - 2) ∨ ¬(if i ≤ 1 then -1 else s (i - 2)) = w (j - 1)
      · rw [if_pos e]; exact x1
      · rw [if_neg e]
        have b4 := eD_b (s := s) (w := w) h m (i - 2) (j - 2) (by omega) (by omega) (by omega)
        exact zmin_b x1.1 x1.2 (by omega)
theorem tdiv4 {a : Int} (h : 0 ≤ a ∧ a ≤ 11) : 0 ≤ a.tdiv 4 ∧ a.tdiv 4 ≤ 2 := by rw [Int.tdiv_eq_ediv_of_nonneg h.1]; omega
theorem tmod4 {a : Int} (h : 0 ≤ a ∧ a ≤ 11) : 0 ≤ a.tmod 4 ∧ a.tmod 4 ≤ 3 := by rw [Int.tmod_eq_emod_of_nonneg h.1]; omega
set_option maxRecDepth 100000 in
theorem W7_one {a b : Int} {τ : kzM} (ha : 0 ≤ a ∧ a ≤ 11) (hb : 0 ≤ b ∧ b ≤ 11) {Q : Int → kzM → Prop} (hQ : Q (oneC (τ.1 465) a b) τ) : Wz (Z7_priceOfOne kdG0 464 a b) τ Q := by
  have a1 := tdiv4 ha
  have a2 := tdiv4 hb
  have a3 := tmod4 ha
  have a4 := tmod4 hb
  have z1 : -2147483648 ≤ zabs (a.tdiv 4 - b.tdiv 4) ∧ zabs (a.tdiv 4 - b.tdiv 4) ≤ 2147483647 := by unfold zabs; split <;> omega
  have z2 : -2147483648 ≤ zabs (a.tmod 4 - b.tmod 4) ∧ zabs (a.tmod 4 - b.tmod 4) ≤ 2147483647 := by unfold zabs; split <;> omega
  unfold oneC at hQ
  simp only [Z7_priceOfOne_50, Z7_priceOfOne_49, Z7_priceOfOne, Wz_rt, Wz_cnd, Wz_lI, Wz_lW, Wz_lL, Wz_cl, Wz_cv, Wz_nz, Wz_gI, Wz_gR, Wz_sI, Wz_aI, Wz_aZ, Wz_aL, Wz_aN, Wz_aR, Wz_tI, Wz_tZ, Wz_tL, Option.some.injEq, exists_eq_left', zB_0, zB_1, true_and, and_true, true_implies, not_true_eq_false, false_implies, not_false_eq_true, Classical.not_not, g_0, g_1, g_2, g_336, g_337, g_338, g_339, g_340, g_341, g_342, g_343, g_464, g_465, g_466, g_484, g_485, g_486, g_487, g_488, g_489, g_490, g_580, g_581, g_582, g_583, g_584, g_585, g_586, g_587, g_0_0, g_0_1, g_0_2, g_0_3, g_0_4, g_0_5, g_0_6, g_0_7, g_0_8, g_0_9, g_0_10, g_0_11, g_1_0, g_336_0, g_336_1, g_336_2, g_336_3, g_337_0, g_339_0, g_341_0, g_464_0, g_464_1, g_484_0, g_484_1, g_484_2, g_485_0, g_487_0, g_489_0, g_580_0, g_580_1, g_580_2, g_580_3, g_581_0, g_583_0, g_585_0]
  refine ⟨fun c => ?_, fun c => ⟨by decide, by decide, by omega, z1, by decide, by decide, by omega, z2, fun d => ⟨by omega, ?_⟩, fun d => ⟨fun e => ⟨by omega, ?_⟩, fun e => ⟨by omega, ?_⟩⟩⟩⟩
  · rw [if_pos c] at hQ; exact hQ
  · rw [if_neg c, if_pos d] at hQ; exact hQ
  · rw [if_neg c, if_neg d, if_pos e] at hQ; exact hQ
  · rw [if_neg c, if_neg d, if_neg e] at hQ; exact hQ
