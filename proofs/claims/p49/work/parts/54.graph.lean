/-! the cells by number, and the judgement Wz: by program (wip/p49/gen/mk54.py) -/
theorem g_0 : kdG0.1 0 = (11, 0) := by decide +kernel
theorem g_0_0 : kdG0.2.1 0 0 = some 1 := by decide +kernel
theorem g_0_1 : kdG0.2.1 0 1 = some 3 := by decide +kernel
theorem g_0_2 : kdG0.2.1 0 2 = some 5 := by decide +kernel
theorem g_0_3 : kdG0.2.1 0 3 = some 327 := by decide +kernel
theorem g_0_4 : kdG0.2.1 0 4 = some 336 := by decide +kernel
theorem g_0_5 : kdG0.2.1 0 5 = some 464 := by decide +kernel
theorem g_0_6 : kdG0.2.1 0 6 = some 484 := by decide +kernel
theorem g_0_7 : kdG0.2.1 0 7 = some 491 := by decide +kernel
theorem g_0_8 : kdG0.2.1 0 8 = some 500 := by decide +kernel
theorem g_0_9 : kdG0.2.1 0 9 = some 580 := by decide +kernel
theorem g_0_10 : kdG0.2.1 0 10 = some 588 := by decide +kernel
theorem g_0_11 : kdG0.2.1 0 11 = some 601 := by decide +kernel
theorem g_1 : kdG0.1 1 = (6, 0) := by decide +kernel
theorem g_1_0 : kdG0.2.1 1 0 = some 2 := by decide +kernel
theorem g_2 : kdG0.1 2 = (13, 16) := by decide +kernel
theorem g_336 : kdG0.1 336 = (10, 0) := by decide +kernel
theorem g_336_0 : kdG0.2.1 336 0 = some 337 := by decide +kernel
theorem g_336_1 : kdG0.2.1 336 1 = some 339 := by decide +kernel
theorem g_336_2 : kdG0.2.1 336 2 = some 341 := by decide +kernel
theorem g_336_3 : kdG0.2.1 336 3 = some 343 := by decide +kernel
theorem g_337 : kdG0.1 337 = (6, 0) := by decide +kernel
theorem g_337_0 : kdG0.2.1 337 0 = some 338 := by decide +kernel
theorem g_338 : kdG0.1 338 = (13, 60) := by decide +kernel
theorem g_339 : kdG0.1 339 = (6, 0) := by decide +kernel
theorem g_339_0 : kdG0.2.1 339 0 = some 340 := by decide +kernel
theorem g_340 : kdG0.1 340 = (13, 60) := by decide +kernel
theorem g_341 : kdG0.1 341 = (6, 0) := by decide +kernel
theorem g_341_0 : kdG0.2.1 341 0 = some 342 := by decide +kernel
theorem g_342 : kdG0.1 342 = (13, 60) := by decide +kernel
theorem g_343 : kdG0.1 343 = (16, 60) := by decide +kernel
theorem g_464 : kdG0.1 464 = (7, 0) := by decide +kernel
theorem g_464_0 : kdG0.2.1 464 0 = some 465 := by decide +kernel
theorem g_464_1 : kdG0.2.1 464 1 = some 466 := by decide +kernel
theorem g_465 : kdG0.1 465 = (13, 6) := by decide +kernel
theorem g_466 : kdG0.1 466 = (18, 17) := by decide +kernel
theorem g_484 : kdG0.1 484 = (1, 0) := by decide +kernel
theorem g_484_0 : kdG0.2.1 484 0 = some 485 := by decide +kernel
theorem g_484_1 : kdG0.2.1 484 1 = some 487 := by decide +kernel
theorem g_484_2 : kdG0.2.1 484 2 = some 489 := by decide +kernel
theorem g_485 : kdG0.1 485 = (6, 0) := by decide +kernel
theorem g_485_0 : kdG0.2.1 485 0 = some 486 := by decide +kernel
theorem g_486 : kdG0.1 486 = (13, 60) := by decide +kernel
theorem g_487 : kdG0.1 487 = (6, 0) := by decide +kernel
theorem g_487_0 : kdG0.2.1 487 0 = some 488 := by decide +kernel
theorem g_488 : kdG0.1 488 = (13, 60) := by decide +kernel
theorem g_489 : kdG0.1 489 = (6, 0) := by decide +kernel
theorem g_489_0 : kdG0.2.1 489 0 = some 490 := by decide +kernel
theorem g_490 : kdG0.1 490 = (13, 60) := by decide +kernel
theorem g_580 : kdG0.1 580 = (2, 0) := by decide +kernel
theorem g_580_0 : kdG0.2.1 580 0 = some 581 := by decide +kernel
theorem g_580_1 : kdG0.2.1 580 1 = some 583 := by decide +kernel
theorem g_580_2 : kdG0.2.1 580 2 = some 585 := by decide +kernel
theorem g_580_3 : kdG0.2.1 580 3 = some 587 := by decide +kernel
theorem g_581 : kdG0.1 581 = (6, 0) := by decide +kernel
theorem g_581_0 : kdG0.2.1 581 0 = some 582 := by decide +kernel
theorem g_582 : kdG0.1 582 = (13, 60) := by decide +kernel
theorem g_583 : kdG0.1 583 = (6, 0) := by decide +kernel
theorem g_583_0 : kdG0.2.1 583 0 = some 584 := by decide +kernel
theorem g_584 : kdG0.1 584 = (13, 60) := by decide +kernel
theorem g_585 : kdG0.1 585 = (6, 0) := by decide +kernel
theorem g_585_0 : kdG0.2.1 585 0 = some 586 := by decide +kernel
theorem g_586 : kdG0.1 586 = (13, 60) := by decide +kernel
theorem g_587 : kdG0.1 587 = (13, 4) := by decide +kernel
def kRow (a n : Nat) : Prop := kdG0.1 a = (6, 0) ∧ kdG0.2.1 a 0 = some (a + 1) ∧ kdG0.1 (a + 1) = (13, n)
theorem g_all (n : Nat) (p : Nat → Prop) (h : ∀ x : Fin n, p x.val) {i : Int} (h0 : 0 ≤ i) (h1 : i < (n : Int)) : p i.toNat := h ⟨i.toNat, by omega⟩
theorem g_wd {i : Int} (h0 : 0 ≤ i) (h1 : i < 60) : kdG0.2.1 343 i.toNat = some (344 + 2 * i.toNat) ∧ kRow (344 + 2 * i.toNat) 8 := by
  unfold kRow
  exact g_all 60 (fun n => kdG0.2.1 343 n = some (344 + 2 * n) ∧ kdG0.1 (344 + 2 * n) = (6, 0) ∧ kdG0.2.1 (344 + 2 * n) 0 = some (344 + 2 * n + 1) ∧ kdG0.1 (344 + 2 * n + 1) = (13, 8)) (by decide +kernel) h0 h1
theorem g_le {i : Int} (h0 : 0 ≤ i) (h1 : i < 17) : kdG0.2.1 466 i.toNat = some (467 + i.toNat) ∧ kdG0.1 (467 + i.toNat) = (13, 9) :=
  g_all 17 (fun n => kdG0.2.1 466 n = some (467 + n) ∧ kdG0.1 (467 + n) = (13, 9)) (by decide +kernel) h0 h1
theorem g_ok0 (a : Nat) : (kdG0.1 a).2 ≤ 2147483647 := by
  show (kdG0k.getD a (20, 0)).2 ≤ 2147483647
  have hall : ∀ q ∈ kdG0k, q.2 ≤ 2147483647 := by decide +kernel
  by_cases h : a < kdG0k.length
  · rw [List.getD_eq_getElem?_getD, List.getElem?_eq_getElem h]; exact hall _ (List.getElem_mem h)
  · rw [List.getD_eq_getElem?_getD, List.getElem?_eq_none (Nat.le_of_not_lt h)]; decide
theorem kdLr_le (i : Nat) : kdLr.getD i 0 ≤ 32 := by
  have h6 : ∀ q ∈ kdLr, q ≤ 32 := by decide
  by_cases h : i < kdLr.length
  · rw [List.getD_eq_getElem?_getD, List.getElem?_eq_getElem h]; exact h6 _ (List.getElem_mem h)
  · rw [List.getD_eq_getElem?_getD, List.getElem?_eq_none (Nat.le_of_not_lt h)]; exact Nat.zero_le _
theorem kdGe_k (e a : Nat) : (kdGe e).1 a = if a < 612 then kdG0.1 a else if a < 1224 then kdG0.1 (a - 612) else if a < e then (13, kdLr.getD (a - 1224) 0) else (20, 0) := rfl
theorem g_ok (e : Nat) : kzG (kdGe e) := by
  intro a
  rw [kdGe_k]
  by_cases h1 : a < 612
  · rw [if_pos h1]; exact g_ok0 _
  · rw [if_neg h1]
    by_cases h2 : a < 1224
    · rw [if_pos h2]; exact g_ok0 _
    · rw [if_neg h2]
      by_cases h3 : a < e
      · rw [if_pos h3]
        have h := kdLr_le (a - 1224)
        generalize kdLr.getD (a - 1224) 0 = z at h ⊢
        dsimp only
        omega
      · rw [if_neg h3]; exact Nat.zero_le _
theorem okO_0 (e : Nat) : okO (kdGe e) 0 := fun a ha => by
  rw [Nat.zero_add]
  refine ⟨?_, fun j t h => ?_⟩
  · show (if a < 612 then kdG0.1 a else _) = _
    rw [if_pos ha]
  · show (if a < 612 then kdG0.2.1 a j else _) = _
    rw [if_pos ha, h, Nat.zero_add]
theorem okO_1 (e : Nat) : okO (kdGe e) 612 := fun a ha => by
  refine ⟨?_, fun j t h => ?_⟩
  · show (if 612 + a < 612 then kdG0.1 (612 + a) else if 612 + a < 1224 then kdG0.1 (612 + a - 612) else _) = _
    rw [if_neg (by omega), if_pos (by omega), Nat.add_sub_cancel_left]
  · show (if 612 + a < 612 then kdG0.2.1 (612 + a) j else if 612 + a < 1224 then (kdG0.2.1 (612 + a - 612) j).map (fun t => 612 + t) else none) = _
    rw [if_neg (by omega), if_pos (by omega), Nat.add_sub_cancel_left, h]; rfl
theorem kdGe_row {e i : Nat} (h : 1224 + i < e) : (kdGe e).1 (1224 + i) = (13, kdLr.getD i 0) := by
  show (if 1224 + i < 612 then _ else if 1224 + i < 1224 then _ else if 1224 + i < e then (13, kdLr.getD (1224 + i - 1224) 0) else (20, 0)) = _
  rw [if_neg (by omega), if_neg (by omega), if_pos h, Nat.add_sub_cancel_left]
theorem kdGe_next {e n : Nat} (h : 1224 ≤ e) (hn : kdLr.getD (e - 1224) 0 = n) : kdGe (e + 1) = ga (kdGe e) (13, n) := by
  refine Prod.ext (funext fun a => ?_) (Prod.ext (funext fun a => funext fun j => ?_) rfl)
  · show (if a < 612 then kdG0.1 a else if a < 1224 then kdG0.1 (a - 612) else if a < e + 1 then (13, kdLr.getD (a - 1224) 0) else (20, 0)) = if a = e then (13, n) else if a < 612 then kdG0.1 a else if a < 1224 then kdG0.1 (a - 612) else if a < e then (13, kdLr.getD (a - 1224) 0) else (20, 0)
    by_cases q : a = e
    · subst q; rw [if_neg (by omega), if_neg (by omega), if_pos (by omega), if_pos rfl, hn]
    · rw [if_neg q]
      by_cases q1 : a < 612
      · rw [if_pos q1, if_pos q1]
      · rw [if_neg q1, if_neg q1]
        by_cases q2 : a < 1224
        · rw [if_pos q2, if_pos q2]
        · rw [if_neg q2, if_neg q2]
          by_cases q3 : a < e
          · rw [if_pos (by omega), if_pos q3]
          · rw [if_neg (by omega), if_neg q3]
  · show (if a < 612 then kdG0.2.1 a j else if a < 1224 then (kdG0.2.1 (a - 612) j).map (fun t => 612 + t) else none) = if a = e then none else if a < 612 then kdG0.2.1 a j else if a < 1224 then (kdG0.2.1 (a - 612) j).map (fun t => 612 + t) else none
    by_cases q : a = e
    · subst q; rw [if_neg (by omega), if_neg (by omega), if_pos rfl]
    · rw [if_neg q]
/-! it returns, and what then holds -/
def Wz0 {α : Type} (f : kzM → Option (α × kzM)) (τ : kzM) (Q : α → kzM → Prop) : Prop := match f τ with
  | some r => Q r.1 r.2
  | none => False
theorem Wz_ex : ∃ W : (α : Type) → (kzM → Option (α × kzM)) → kzM → (α → kzM → Prop) → Prop, ∀ α f τ Q, W α f τ Q ↔ Wz0 f τ Q := ⟨fun _ f τ Q => Wz0 f τ Q, fun _ _ _ _ => Iff.rfl⟩
noncomputable def Wz {α : Type} (f : kzM → Option (α × kzM)) (τ : kzM) (Q : α → kzM → Prop) : Prop := Classical.choose Wz_ex α f τ Q
theorem Wz_def {α : Type} {f : kzM → Option (α × kzM)} {τ : kzM} {Q : α → kzM → Prop} : Wz f τ Q ↔ (match f τ with
  | some r => Q r.1 r.2
  | none => False) := Classical.choose_spec Wz_ex α f τ Q
section WZR
variable {α β : Type} {τ : kzM} {Q : α → kzM → Prop}
theorem Wz_mono {f : kzM → Option (α × kzM)} {Q' : α → kzM → Prop} (h : Wz f τ Q) (k : ∀ r τ', Q r τ' → Q' r τ') : Wz f τ Q' := by
  rw [Wz_def] at h ⊢
  split at h
  · exact k _ _ h
  · exact h.elim
theorem Wz_some {f : kzM → Option (α × kzM)} (h : Wz f τ Q) : ∃ r τ', f τ = some (r, τ') ∧ Q r τ' := by
  rw [Wz_def] at h
  split at h
  · rename_i r e; exact ⟨r.1, r.2, e, h⟩
  · exact h.elim
theorem Wz_rt {x : α} : Wz (zrt x) τ Q ↔ Q x τ := Wz_def
theorem Wz_cnd {c : Prop} [Decidable c] {f g : kzM → Option (α × kzM)} : Wz (zcnd c f g) τ Q ↔ (c → Wz f τ Q) ∧ (¬c → Wz g τ Q) := by
  simp only [Wz_def]
  unfold zcnd
  by_cases h : c <;> simp [h]
theorem Wz_lI {e : Int} {f : Int → kzM → Option (α × kzM)} : Wz (zlI e f) τ Q ↔ (-2147483648 ≤ e ∧ e ≤ 2147483647) ∧ Wz (f e) τ Q := by
  simp only [Wz_def]
  unfold zlI
  by_cases h : -2147483648 ≤ e ∧ e ≤ 2147483647 <;> simp [h]
theorem Wz_lW {e : Int} {f : Int → kzM → Option (α × kzM)} : Wz (zlW e f) τ Q ↔ Wz (f (Int32.ofInt e).toInt) τ Q := Iff.rfl
theorem Wz_lL {e : Int} {f : Int → kzM → Option (α × kzM)} : Wz (zlL e f) τ Q ↔ (-9223372036854775808 ≤ e ∧ e ≤ 9223372036854775807) ∧ Wz (f e) τ Q := by
  simp only [Wz_def]
  unfold zlL
  by_cases h : -9223372036854775808 ≤ e ∧ e ≤ 9223372036854775807 <;> simp [h]
theorem Wz_cl {γ : Type} {g : kzM → Option (γ × kzM)} {f : γ → kzM → Option (α × kzM)} : Wz (zcl g f) τ Q ↔ Wz g τ (fun r τ' => Wz (f r) τ' Q) := by
  simp only [Wz_def]
  unfold zcl
  cases g τ <;> simp
theorem Wz_cv {G : kdS} {ci b : Nat} {γ : Type} {g : kzM → Option (γ × kzM)} {f : γ → kzM → Option (α × kzM)} : Wz (zcv G ci b g f) τ Q ↔ (G.1 b).1 = ci ∧ Wz g τ (fun r τ' => Wz (f r) τ' Q) := by
  rw [← Wz_cl]
  simp only [Wz_def]
  unfold zcv
  by_cases h : (G.1 b).1 = ci <;> simp [h]
theorem Wz_nz {y : Int} {f : kzM → Option (α × kzM)} : Wz (znz y f) τ Q ↔ y ≠ 0 ∧ Wz f τ Q := by
  simp only [Wz_def]
  unfold znz
  by_cases h : y = 0 <;> simp [h]
theorem Wz_gI {G : kdS} {ci a : Nat} {k : Int} {f : Int → kzM → Option (α × kzM)} : Wz (zgI G ci k a f) τ Q ↔ (G.1 a).1 = ci ∧ Wz (f (τ.1 a k)) τ Q := by
  simp only [Wz_def]
  unfold zgI
  by_cases h : (G.1 a).1 = ci <;> simp [h]
theorem Wz_gR {G : kdS} {ci a k : Nat} {f : Nat → kzM → Option (α × kzM)} : Wz (zgR G ci k a f) τ Q ↔ (G.1 a).1 = ci ∧ ∃ b, G.2.1 a k = some b ∧ Wz (f b) τ Q := by
  simp only [Wz_def]
  unfold zgR
  by_cases h : (G.1 a).1 = ci
  · cases G.2.1 a k <;> simp [h]
  · simp [h]
theorem Wz_sI {G : kdS} {ci a : Nat} {k v : Int} {f : kzM → Option (α × kzM)} : Wz (zsI G ci k a v f) τ Q ↔ (G.1 a).1 = ci ∧ Wz f (v2 τ.1 a k v, τ.2) Q := by
  simp only [Wz_def]
  unfold zsI
  by_cases h : (G.1 a).1 = ci <;> simp [h]
theorem Wz_aI {G : kdS} {a : Nat} {i : Int} {f : Int → kzM → Option (α × kzM)} : Wz (zaI G a i f) τ Q ↔ ((G.1 a).1 = 13 ∧ 0 ≤ i ∧ i < ((G.1 a).2 : Int)) ∧ Wz (f (τ.1 a i)) τ Q := by
  simp only [Wz_def]
  unfold zaI
  by_cases h : (G.1 a).1 = 13 ∧ 0 ≤ i ∧ i < ((G.1 a).2 : Int) <;> simp [h]
theorem Wz_aZ {G : kdS} {a : Nat} {i : Int} {f : Int → kzM → Option (α × kzM)} : Wz (zaZ G a i f) τ Q ↔ ((G.1 a).1 = 15 ∧ 0 ≤ i ∧ i < ((G.1 a).2 : Int)) ∧ Wz (f (τ.1 a i)) τ Q := by
  simp only [Wz_def]
  unfold zaZ
  by_cases h : (G.1 a).1 = 15 ∧ 0 ≤ i ∧ i < ((G.1 a).2 : Int) <;> simp [h]
theorem Wz_aL {G : kdS} {a : Nat} {i : Int} {f : Int → kzM → Option (α × kzM)} : Wz (zaL G a i f) τ Q ↔ ((G.1 a).1 = 14 ∧ 0 ≤ i ∧ i < ((G.1 a).2 : Int)) ∧ Wz (f (τ.2 a i)) τ Q := by
  simp only [Wz_def]
  unfold zaL
  by_cases h : (G.1 a).1 = 14 ∧ 0 ≤ i ∧ i < ((G.1 a).2 : Int) <;> simp [h]
theorem Wz_aN {G : kdS} {a : Nat} {f : Int → kzM → Option (α × kzM)} : Wz (zaN G a f) τ Q ↔ (G.1 a).1 = 13 ∧ Wz (f ((G.1 a).2 : Int)) τ Q := by
  simp only [Wz_def]
  unfold zaN
  by_cases h : (G.1 a).1 = 13 <;> simp [h]
theorem Wz_aR {G : kdS} {t a : Nat} {i : Int} {f : Nat → kzM → Option (α × kzM)} : Wz (zaR G t a i f) τ Q ↔ ((G.1 a).1 = t ∧ 0 ≤ i ∧ i < ((G.1 a).2 : Int)) ∧ ∃ b, G.2.1 a i.toNat = some b ∧ Wz (f b) τ Q := by
  simp only [Wz_def]
  unfold zaR
  by_cases h : (G.1 a).1 = t ∧ 0 ≤ i ∧ i < ((G.1 a).2 : Int)
  · cases G.2.1 a i.toNat <;> simp [h]
  · simp [h]
theorem Wz_tI {G : kdS} {a : Nat} {i v : Int} {f : kzM → Option (α × kzM)} : Wz (ztI G a i v f) τ Q ↔ ((G.1 a).1 = 13 ∧ 0 ≤ i ∧ i < ((G.1 a).2 : Int)) ∧ Wz f (v2 τ.1 a i v, τ.2) Q := by
  simp only [Wz_def]
  unfold ztI
  by_cases h : (G.1 a).1 = 13 ∧ 0 ≤ i ∧ i < ((G.1 a).2 : Int) <;> simp [h]
theorem Wz_tZ {G : kdS} {a : Nat} {i v : Int} {f : kzM → Option (α × kzM)} : Wz (ztZ G a i v f) τ Q ↔ ((G.1 a).1 = 15 ∧ 0 ≤ i ∧ i < ((G.1 a).2 : Int)) ∧ Wz f (v2 τ.1 a i (zB v), τ.2) Q := by
  simp only [Wz_def]
  unfold ztZ
  by_cases h : (G.1 a).1 = 15 ∧ 0 ≤ i ∧ i < ((G.1 a).2 : Int) <;> simp [h]
theorem Wz_tL {G : kdS} {a : Nat} {i v : Int} {f : kzM → Option (α × kzM)} : Wz (ztL G a i v f) τ Q ↔ ((G.1 a).1 = 14 ∧ 0 ≤ i ∧ i < ((G.1 a).2 : Int)) ∧ Wz f (τ.1, v2 τ.2 a i v) Q := by
  simp only [Wz_def]
  unfold ztL
  by_cases h : (G.1 a).1 = 14 ∧ 0 ≤ i ∧ i < ((G.1 a).2 : Int) <;> simp [h]
theorem Wz_sc {xs : Nat → Int32} {N : Nat} {i : Int} {f : Int → kzM → Option (α × kzM)} : Wz (zsc xs N i f) τ Q ↔ (0 ≤ i ∧ i < (N : Int)) ∧ Wz (f (xs i.toNat).toInt) τ Q := by
  simp only [Wz_def]
  unfold zsc
  by_cases h : 0 ≤ i ∧ i < (N : Int) <;> simp [h]
/-- the same, over an object at b -/
theorem SH.wz {b : Nat} {c : α → α} {f0 f : kzM → Option (α × kzM)} {τ0 : kzM} {Q0 : α → kzM → Prop} (h : SH b c f0 f) (hr : RlS b τ0 τ) (hw : Wz f0 τ0 Q0) (hq : ∀ r τ0' τ', Q0 r τ0' → RlS b τ0' τ' → FrS b τ τ' → Q (c r) τ') : Wz f τ Q := by
  obtain ⟨r, τ0', h1, h2⟩ := Wz_some hw
  obtain ⟨τ', h3, h4, h5⟩ := h τ0 τ hr r τ0' h1
  rw [Wz_def, h3]
  exact hq r τ0' τ' h2 h4 h5
end WZR
theorem v2_eq {α : Type} (f : Nat → Int → α) (a : Nat) (k : Int) (v : α) (b : Nat) (j : Int) : v2 f a k v b j = if b = a ∧ j = k then v else f b j := rfl
theorem v2_self {α : Type} (f : Nat → Int → α) (a : Nat) (k : Int) (v : α) : v2 f a k v a k = v := if_pos ⟨rfl, rfl⟩
theorem v2_ne {α : Type} (f : Nat → Int → α) {a : Nat} (k : Int) (v : α) {b : Nat} (j : Int) (h : b ≠ a) : v2 f a k v b j = f b j := if_neg (fun q => h q.1)
theorem v2_nk {α : Type} (f : Nat → Int → α) (a : Nat) {k : Int} (v : α) (b : Nat) {j : Int} (h : j ≠ k) : v2 f a k v b j = f b j := if_neg (fun q => h q.2)
theorem v2_row {α : Type} (f : Nat → Int → α) {a : Nat} (k : Int) (v : α) {b : Nat} (h : b ≠ a) : v2 f a k v b = f b := funext fun j => v2_ne f k v j h
