/-! WHAT HOLDS BETWEEN CALLS: the class's cells and the reference's say the same; by modules (md), 20 is scratch -/
def md (a : Nat) (j : Int) : Nat :=
  if a = 1 ∨ a = 2 ∨ a = 613 ∨ (a = 612 ∧ j = 1) then 1
  else if a = 3 ∨ a = 4 ∨ a = 614 ∨ (a = 612 ∧ j = 3) then 2
  else if (6 ≤ a ∧ a ≤ 326 ∧ a ≠ 16 ∧ a ≠ 123 ∧ a ≠ 230) ∨ (617 ≤ a ∧ a ≤ 624) then 3
  else if a = 327 ∨ a = 328 ∨ a = 329 ∨ a = 626 ∨ (a = 612 ∧ (j = 17 ∨ j = 18)) then 4
  else if (337 ≤ a ∧ a ≤ 463) ∨ (630 ≤ a ∧ a ≤ 634) ∨ (a = 612 ∧ j = 29) then 5
  else if a = 465 ∨ a = 635 then 6
  else if (562 ≤ a ∧ a ≤ 565) ∨ a = 615 ∨ a = 616 ∨ (a = 612 ∧ j = 6) then 7
  else if (500 ≤ a ∧ a ≤ 561) ∨ (646 ≤ a ∧ a ≤ 648) ∨ (a = 612 ∧ j = 45) then 10
  else if (581 ≤ a ∧ a ≤ 586) ∨ (651 ≤ a ∧ a ≤ 653) ∨ (a = 612 ∧ j = 51) then 8
  else if a = 580 ∨ a = 587 ∨ a = 654 ∨ (a = 612 ∧ (j = 52 ∨ j = 54)) then 11
  else if (a = 588 ∧ (j = 0 ∨ j = 5)) ∨ (589 ≤ a ∧ a ≤ 599) ∨ (655 ≤ a ∧ a ≤ 658) ∨ (a = 612 ∧ (j = 55 ∨ j = 60)) then 9
  else 20
/-- nothing is changed but in module m and in the scratch -/
def Ag (m : Nat) (τ τ' : kzM) : Prop := ∀ a j, md a j ≠ m → md a j ≠ 20 → τ'.1 a j = τ.1 a j
def Sm (m : Nat) (τ τ' : kzM) : Prop := ∀ a j, md a j = m → τ'.1 a j = τ.1 a j
theorem Ag.sm {m k : Nat} {τ τ' : kzM} (h : Ag m τ τ') (hk : k ≠ m) (h2 : k ≠ 20) : Sm k τ τ' := fun a j e => h a j (by omega) (by omega)
theorem Ag.rf {m : Nat} {τ : kzM} : Ag m τ τ := fun _ _ _ _ => rfl
theorem Ag.tr {m : Nat} {τ τ' τ'' : kzM} (h : Ag m τ τ') (h' : Ag m τ' τ'') : Ag m τ τ'' := fun a j e f => by rw [h' a j e f, h a j e f]
theorem Ag.of20 {m : Nat} {τ τ' : kzM} (h : Ag 20 τ τ') : Ag m τ τ' := fun a j _ f => h a j f f
theorem Ag.v2 {m : Nat} {τ τ' : kzM} (h : Ag m τ τ') {b : Nat} {i v : Int} (hb : md b i = m ∨ md b i = 20) : Ag m τ (v2 τ'.1 b i v, τ'.2) := by
  intro a j e f
  show (if a = b ∧ j = i then v else τ'.1 a j) = _
  rw [if_neg (fun q => by rw [q.1, q.2] at e f; omega)]
  exact h a j e f
theorem Ag.rw1 {m : Nat} {τ τ' : kzM} (h : Ag m τ τ') {b : Nat} {g : Int → Int} (hb : ∀ i, md b i = m ∨ md b i = 20) : Ag m τ (rw1 τ'.1 b g, τ'.2) := by
  intro a j e f
  show (if a = b then g j else τ'.1 a j) = _
  rw [if_neg (fun q => by rw [q] at e f; have := hb j; omega)]
  exact h a j e f
theorem Ag.two {m : Nat} {τ τ' : kzM} (h : Ag m τ τ') {g : Nat → Int → Int} : Ag m τ (τ'.1, g) := h
def I1 (τ : kzM) : Prop := (0 ≤ τ.1 1 1 ∧ τ.1 1 1 ≤ 16) ∧ τ.1 612 1 = τ.1 1 1 ∧ ∀ j, 0 ≤ j → j < τ.1 1 1 → (0 ≤ τ.1 2 j ∧ τ.1 2 j ≤ 11) ∧ τ.1 613 j = τ.1 2 j
def I2 (τ : kzM) : Prop := (0 ≤ τ.1 3 1 ∧ τ.1 3 1 ≤ 3) ∧ τ.1 612 3 = τ.1 3 1 ∧ ∀ j, 0 ≤ j → j < τ.1 3 1 → (1 ≤ τ.1 4 j ∧ τ.1 4 j ≤ 60) ∧ τ.1 614 j = τ.1 4 j
/-- a row of the class and a piece of an array of the reference -/
def eqR (τ : kzM) (a n b : Nat) (s lo hi : Int) (most : Int) (cnt : Int) : Prop := (1 ≤ τ.1 a 1 ∧ τ.1 a 1 ≤ most) ∧ τ.1 n cnt = τ.1 a 1 ∧ ∀ j, 0 ≤ j → j < τ.1 a 1 → (lo ≤ τ.1 (a + 1) j ∧ τ.1 (a + 1) j ≤ hi) ∧ τ.1 b (s + j) = τ.1 (a + 1) j
def I3r (τ : kzM) (T : Nat) (t : Int) : Prop := (0 ≤ τ.1 T 2 ∧ τ.1 T 2 ≤ 24) ∧ τ.1 621 t = τ.1 T 2 ∧ ∀ r, 0 ≤ r → r < τ.1 T 2 → eqR τ (T + 11 + 4 * r.toNat) 618 617 (4 * (24 * t + r)) 0 11 4 (24 * t + r) ∧ eqR τ (T + 13 + 4 * r.toNat) 620 619 (3 * (24 * t + r)) 1 60 3 (24 * t + r)
def I3j (τ : kzM) (T : Nat) (t : Int) : Prop := (0 ≤ τ.1 (T + 7) 1 ∧ τ.1 (T + 7) 1 ≤ 12) ∧ τ.1 (T + 3) 1 = τ.1 (T + 7) 1 ∧ τ.1 (T + 5) 1 = τ.1 (T + 7) 1 ∧ τ.1 623 t = τ.1 (T + 7) 1 ∧ ∀ j, 0 ≤ j → j < τ.1 (T + 7) 1 → ((1 ≤ τ.1 (T + 4) j ∧ τ.1 (T + 4) j ≤ 60) ∧ τ.1 622 (3 * (12 * t + j)) = τ.1 (T + 4) j) ∧ ((1 ≤ τ.1 (T + 6) j ∧ τ.1 (T + 6) j ≤ 60) ∧ τ.1 622 (3 * (12 * t + j) + 1) = τ.1 (T + 6) j) ∧ ((1 ≤ τ.1 (T + 8) j ∧ τ.1 (T + 8) j ≤ 60) ∧ τ.1 622 (3 * (12 * t + j) + 2) = τ.1 (T + 8) j)
def I3l (τ : kzM) (T : Nat) (t : Int) : Prop := ∀ l, 0 ≤ l → l ≤ 60 → (τ.1 (T + 9) l = 0 ∨ τ.1 (T + 9) l = 1) ∧ τ.1 624 (61 * t + l) = τ.1 (T + 9) l
def I3 (τ : kzM) : Prop := ∀ t, 0 ≤ t → t < 3 → I3r τ (6 + 107 * t.toNat) t ∧ I3j τ (6 + 107 * t.toNat) t ∧ I3l τ (6 + 107 * t.toNat) t
def I4 (τ : kzM) : Prop := (0 ≤ τ.1 327 4 ∧ τ.1 327 4 ≤ 2) ∧ τ.1 612 18 = τ.1 327 4 ∧ (0 ≤ τ.1 328 1 ∧ τ.1 328 1 ≤ 40) ∧ τ.1 612 17 = τ.1 328 1 ∧ ∀ j, 0 ≤ j → j < τ.1 328 1 → (0 ≤ τ.1 329 j ∧ τ.1 329 j ≤ 11) ∧ τ.1 626 j = τ.1 329 j
def I5 (τ : kzM) : Prop := (0 ≤ τ.1 337 1 ∧ τ.1 337 1 ≤ 60) ∧ τ.1 339 1 = τ.1 337 1 ∧ τ.1 341 1 = τ.1 337 1 ∧ τ.1 612 29 = τ.1 337 1 ∧ ∀ w, 0 ≤ w → w < τ.1 337 1 → ((0 ≤ τ.1 338 w ∧ τ.1 338 w ≤ 2) ∧ τ.1 630 w = τ.1 338 w) ∧ ((1 ≤ τ.1 340 w ∧ τ.1 340 w ≤ 999) ∧ τ.1 631 w = τ.1 340 w) ∧ ((1 ≤ τ.1 342 w ∧ τ.1 342 w ≤ 100) ∧ τ.1 632 w = τ.1 342 w) ∧ eqR τ (344 + 2 * w.toNat) 633 634 (8 * w) 0 11 8 w
def I6 (τ : kzM) : Prop := ∀ i, 0 ≤ i → i < 6 → (0 ≤ τ.1 465 i ∧ τ.1 465 i ≤ 20) ∧ τ.1 635 i = τ.1 465 i
def I7p (τ : kzM) (nw : Int) : Prop := (0 ≤ τ.1 562 1 ∧ τ.1 562 1 ≤ 5) ∧ τ.1 564 1 = τ.1 562 1 ∧ τ.1 612 6 = τ.1 562 1 ∧ ∀ j, 0 ≤ j → j < τ.1 562 1 → ((0 ≤ τ.1 563 j ∧ τ.1 563 j < nw) ∧ τ.1 615 j = τ.1 563 j) ∧ ((τ.1 565 j = 0 ∨ τ.1 565 j = 1) ∧ τ.1 616 j = τ.1 565 j)
def I7b (τ : kzM) (nw : Int) : Prop := (0 ≤ τ.1 500 2 ∧ τ.1 500 2 ≤ 40) ∧ τ.1 612 45 = τ.1 500 2 ∧ (∀ k, 0 ≤ k → k < τ.1 500 2 → (0 ≤ τ.1 646 k ∧ τ.1 646 k < nw) ∧ (0 ≤ τ.1 647 k ∧ τ.1 647 k < nw) ∧ (1 ≤ τ.1 648 k ∧ τ.1 648 k ≤ 100) ∧ τ.1 (502 + (τ.1 646 k).toNat) (τ.1 647 k) = τ.1 648 k) ∧ (∀ k l, 0 ≤ k → k < l → l < τ.1 500 2 → ¬(τ.1 646 k = τ.1 646 l ∧ τ.1 647 k = τ.1 647 l)) ∧ ∀ a b, 0 ≤ a → a < 60 → 0 ≤ b → b < 60 → τ.1 (502 + a.toNat) b = 0 ∨ ∃ k, (0 ≤ k ∧ k < τ.1 500 2) ∧ τ.1 646 k = a ∧ τ.1 647 k = b
def I8l (τ : kzM) : Prop := (0 ≤ τ.1 581 1 ∧ τ.1 581 1 ≤ 60) ∧ τ.1 583 1 = τ.1 581 1 ∧ τ.1 585 1 = τ.1 581 1 ∧ τ.1 612 51 = τ.1 581 1 ∧ ∀ k, 0 ≤ k → k < τ.1 581 1 → ((0 ≤ τ.1 582 k ∧ τ.1 582 k ≤ 3) ∧ τ.1 651 k = τ.1 582 k) ∧ ((0 ≤ τ.1 584 k ∧ τ.1 584 k ≤ 59) ∧ τ.1 652 k = τ.1 584 k) ∧ ((0 ≤ τ.1 586 k ∧ τ.1 586 k ≤ 3000) ∧ τ.1 653 k = τ.1 586 k)
def I8b (τ : kzM) : Prop := ((0 ≤ τ.1 580 4 ∧ τ.1 580 4 ≤ 1000) ∧ τ.1 612 52 = τ.1 580 4) ∧ ((0 ≤ τ.1 580 5 ∧ τ.1 580 5 ≤ 2147483646) ∧ τ.1 612 54 = τ.1 580 5) ∧ ∀ h, 0 ≤ h → h < 4 → (0 ≤ τ.1 587 h ∧ τ.1 587 h ≤ 1000) ∧ τ.1 654 h = τ.1 587 h
def I9 (τ : kzM) : Prop := ((2 ≤ τ.1 588 0 ∧ τ.1 588 0 ≤ 7) ∧ τ.1 612 55 = τ.1 588 0) ∧ ((0 ≤ τ.1 588 5 ∧ τ.1 588 5 ≤ 20) ∧ τ.1 612 60 = τ.1 588 5) ∧ (∀ i, 0 ≤ i → i < 7 → ((0 ≤ τ.1 589 i ∧ τ.1 589 i ≤ 20) ∧ τ.1 655 i = τ.1 589 i) ∧ ((0 ≤ τ.1 590 i ∧ τ.1 590 i ≤ 4) ∧ τ.1 656 i = τ.1 590 i) ∧ ((0 ≤ τ.1 591 i ∧ τ.1 591 i ≤ 99) ∧ τ.1 657 i = τ.1 591 i)) ∧ ∀ a b, 0 ≤ a → a < 7 → 0 ≤ b → b < 7 → (0 ≤ τ.1 (593 + a.toNat) b ∧ τ.1 (593 + a.toNat) b ≤ 50) ∧ τ.1 658 (7 * a + b) = τ.1 (593 + a.toNat) b
def Inv (τ : kzM) : Prop := I1 τ ∧ I2 τ ∧ I3 τ ∧ I4 τ ∧ I5 τ ∧ I6 τ ∧ (I7p τ (τ.1 337 1) ∧ I7b τ (τ.1 337 1)) ∧ (I8l τ ∧ I8b τ) ∧ I9 τ
set_option maxRecDepth 100000 in
theorem I1.to {τ τ' : kzM} (h : Sm 1 τ τ') (q : I1 τ) : I1 τ' := by
  unfold I1 at q ⊢
  simp only [h 1 1 rfl, h 612 1 rfl, fun j => h 2 j rfl, fun j => h 613 j rfl]
  exact q
set_option maxRecDepth 100000 in
theorem I2.to {τ τ' : kzM} (h : Sm 2 τ τ') (q : I2 τ) : I2 τ' := by
  unfold I2 at q ⊢
  simp only [h 3 1 rfl, h 612 3 rfl, fun j => h 4 j rfl, fun j => h 614 j rfl]
  exact q
theorem md_3 {a : Nat} {j : Int} (h : (6 ≤ a ∧ a ≤ 326 ∧ a ≠ 16 ∧ a ≠ 123 ∧ a ≠ 230) ∨ (617 ≤ a ∧ a ≤ 624)) : md a j = 3 := by
  unfold md
  rw [if_neg (by omega), if_neg (by omega), if_pos h]
theorem md_5 {a : Nat} {j : Int} (h : (337 ≤ a ∧ a ≤ 463) ∨ (630 ≤ a ∧ a ≤ 634)) : md a j = 5 := by
  unfold md
  rw [if_neg (by omega), if_neg (by omega), if_neg (by omega), if_neg (by omega), if_pos (by omega)]
theorem md_10 {a : Nat} {j : Int} (h : (500 ≤ a ∧ a ≤ 561) ∨ (646 ≤ a ∧ a ≤ 648)) : md a j = 10 := by
  unfold md
  rw [if_neg (by omega), if_neg (by omega), if_neg (by omega), if_neg (by omega), if_neg (by omega), if_neg (by omega), if_neg (by omega), if_pos (by omega)]
theorem md_9 {a : Nat} {j : Int} (h : (589 ≤ a ∧ a ≤ 599) ∨ (655 ≤ a ∧ a ≤ 658)) : md a j = 9 := by
  unfold md
  rw [if_neg (by omega), if_neg (by omega), if_neg (by omega), if_neg (by omega), if_neg (by omega), if_neg (by omega), if_neg (by omega), if_neg (by omega), if_neg (by omega), if_neg (by omega), if_pos (by omega)]
theorem md_20 {a : Nat} {j : Int} (h : a = 16 ∨ a = 123 ∨ a = 230 ∨ (330 ≤ a ∧ a ≤ 336) ∨ a = 464 ∨ (466 ≤ a ∧ a ≤ 499) ∨ (566 ≤ a ∧ a ≤ 579) ∨ (600 ≤ a ∧ a ≤ 611) ∨ a = 625 ∨ (627 ≤ a ∧ a ≤ 629) ∨ (636 ≤ a ∧ a ≤ 645) ∨ a = 649 ∨ a = 650 ∨ 659 ≤ a) : md a j = 20 := by
  unfold md
  rw [if_neg (by omega), if_neg (by omega), if_neg (by omega), if_neg (by omega), if_neg (by omega), if_neg (by omega), if_neg (by omega), if_neg (by omega), if_neg (by omega), if_neg (by omega), if_neg (by omega)]
set_option maxRecDepth 100000 in
theorem I3.to {τ τ' : kzM} (h : Sm 3 τ τ') (q : I3 τ) : I3 τ' := by
  intro t h0 h1
  obtain ⟨q1, q2, q3⟩ := q t h0 h1
  have e : ∀ a j, (6 ≤ a ∧ a ≤ 326 ∧ a ≠ 16 ∧ a ≠ 123 ∧ a ≠ 230) ∨ (617 ≤ a ∧ a ≤ 624) → τ'.1 a j = τ.1 a j := fun a j q => h a j (md_3 q)
  refine ⟨?_, ?_, ?_⟩
  · unfold I3r at q1 ⊢
    rw [e (6 + 107 * t.toNat) _ (by omega), e 621 _ (by omega)]
    refine ⟨q1.1, q1.2.1, fun r r0 r1 => ?_⟩
    obtain ⟨a1, a2⟩ := q1.2.2 r r0 r1
    have := q1.1
    unfold eqR at a1 a2 ⊢
    simp only [fun j => e (6 + 107 * t.toNat + 11 + 4 * r.toNat) j (by omega), fun j => e (6 + 107 * t.toNat + 11 + 4 * r.toNat + 1) j (by omega), fun j => e (6 + 107 * t.toNat + 13 + 4 * r.toNat) j (by omega), fun j => e (6 + 107 * t.toNat + 13 + 4 * r.toNat + 1) j (by omega), fun j => e 617 j (by omega), fun j => e 618 j (by omega), fun j => e 619 j (by omega), fun j => e 620 j (by omega)]
    exact ⟨a1, a2⟩
  · unfold I3j at q2 ⊢
    simp only [fun j => e (6 + 107 * t.toNat + 3) j (by omega), fun j => e (6 + 107 * t.toNat + 4) j (by omega), fun j => e (6 + 107 * t.toNat + 5) j (by omega), fun j => e (6 + 107 * t.toNat + 6) j (by omega), fun j => e (6 + 107 * t.toNat + 7) j (by omega), fun j => e (6 + 107 * t.toNat + 8) j (by omega), fun j => e 622 j (by omega), fun j => e 623 j (by omega)]
    exact q2
  · unfold I3l at q3 ⊢
    simp only [fun j => e (6 + 107 * t.toNat + 9) j (by omega), fun j => e 624 j (by omega)]
    exact q3
set_option maxRecDepth 100000 in
theorem I4.to {τ τ' : kzM} (h : Sm 4 τ τ') (q : I4 τ) : I4 τ' := by
  unfold I4 at q ⊢
  simp only [h 327 4 rfl, h 612 18 rfl, h 612 17 rfl, h 328 1 rfl, fun j => h 329 j rfl, fun j => h 626 j rfl]
  exact q
set_option maxRecDepth 100000 in
theorem I5.to {τ τ' : kzM} (h : Sm 5 τ τ') (q : I5 τ) : I5 τ' := by
  unfold I5 at q ⊢
  have e : ∀ a j, (337 ≤ a ∧ a ≤ 463) ∨ (630 ≤ a ∧ a ≤ 634) → τ'.1 a j = τ.1 a j := fun a j q => h a j (md_5 q)
  rw [e 337 _ (by omega), e 339 _ (by omega), e 341 _ (by omega), h 612 29 rfl]
  refine ⟨q.1, q.2.1, q.2.2.1, q.2.2.2.1, fun w h0 h1 => ?_⟩
  obtain ⟨a1, a2, a3, a4⟩ := q.2.2.2.2 w h0 h1
  have := q.1
  unfold eqR at a4 ⊢
  simp only [fun j => e 338 j (by omega), fun j => e 340 j (by omega), fun j => e 342 j (by omega), fun j => e 630 j (by omega), fun j => e 631 j (by omega), fun j => e 632 j (by omega), fun j => e 633 j (by omega), fun j => e 634 j (by omega), fun j => e (344 + 2 * w.toNat) j (by omega), fun j => e (344 + 2 * w.toNat + 1) j (by omega)]
  exact ⟨a1, a2, a3, a4⟩
set_option maxRecDepth 100000 in
theorem I6.to {τ τ' : kzM} (h : Sm 6 τ τ') (q : I6 τ) : I6 τ' := by
  unfold I6 at q ⊢
  simp only [fun j => h 465 j rfl, fun j => h 635 j rfl]
  exact q
set_option maxRecDepth 100000 in
theorem I7p.to {τ τ' : kzM} {n n' : Int} (h : Sm 7 τ τ') (hn : n ≤ n') (q : I7p τ n) : I7p τ' n' := by
  unfold I7p at q ⊢
  simp only [h 562 1 rfl, h 564 1 rfl, h 612 6 rfl, fun j => h 563 j rfl, fun j => h 565 j rfl, fun j => h 615 j rfl, fun j => h 616 j rfl]
  refine ⟨q.1, q.2.1, q.2.2.1, fun j h0 h1 => ?_⟩
  obtain ⟨⟨a1, a2⟩, a3⟩ := q.2.2.2 j h0 h1
  exact ⟨⟨by omega, a2⟩, a3⟩
set_option maxRecDepth 100000 in
theorem I7b.to {τ τ' : kzM} {n n' : Int} (h : Sm 10 τ τ') (hn : n ≤ n') (h60 : n ≤ 60) (q : I7b τ n) : I7b τ' n' := by
  unfold I7b at q ⊢
  have e : ∀ a j, (500 ≤ a ∧ a ≤ 561) → τ'.1 a j = τ.1 a j := fun a j q => h a j (md_10 (Or.inl q))
  simp only [h 612 45 rfl, fun j => h 646 j rfl, fun j => h 647 j rfl, fun j => h 648 j rfl, fun j => e 500 j (by omega)]
  obtain ⟨a1, a2, a3, a4, a5⟩ := q
  refine ⟨a1, a2, fun k h0 h1 => ?_, a4, fun a b h0 h1 h2 h3 => ?_⟩
  · obtain ⟨b1, b2, b3, b4⟩ := a3 k h0 h1
    rw [e _ _ (by omega)]
    exact ⟨by omega, by omega, b3, b4⟩
  · rw [e _ _ (by omega)]; exact a5 a b h0 h1 h2 h3
set_option maxRecDepth 100000 in
theorem I8l.to {τ τ' : kzM} (h : Sm 8 τ τ') (q : I8l τ) : I8l τ' := by
  unfold I8l at q ⊢
  simp only [h 581 1 rfl, h 583 1 rfl, h 585 1 rfl, h 612 51 rfl, fun j => h 582 j rfl, fun j => h 584 j rfl, fun j => h 586 j rfl, fun j => h 651 j rfl, fun j => h 652 j rfl, fun j => h 653 j rfl]
  exact q
set_option maxRecDepth 100000 in
theorem I8b.to {τ τ' : kzM} (h : Sm 11 τ τ') (q : I8b τ) : I8b τ' := by
  unfold I8b at q ⊢
  simp only [h 580 4 rfl, h 580 5 rfl, h 612 52 rfl, h 612 54 rfl, fun j => h 587 j rfl, fun j => h 654 j rfl]
  exact q
set_option maxRecDepth 100000 in
theorem I9.to {τ τ' : kzM} (h : Sm 9 τ τ') (q : I9 τ) : I9 τ' := by
  unfold I9 at q ⊢
  simp only [h 588 0 rfl, h 588 5 rfl, h 612 55 rfl, h 612 60 rfl, fun j => h 589 j rfl, fun j => h 590 j rfl, fun j => h 591 j rfl, fun j => h 655 j rfl, fun j => h 656 j rfl, fun j => h 657 j rfl, fun j => h 658 j rfl]
  refine ⟨q.1, q.2.1, q.2.2.1, fun a b h0 h1 h2 h3 => ?_⟩
  rw [h (593 + a.toNat) b (md_9 (by omega))]
  exact q.2.2.2 a b h0 h1 h2 h3
set_option maxRecDepth 100000 in
theorem Inv.to {m : Nat} {τ τ' : kzM} (h : Ag m τ τ') (q : Inv τ) (h1 : m = 1 → I1 τ') (h2 : m = 2 → I2 τ') (h3 : m = 3 → I3 τ') (h4 : m = 4 → I4 τ') (h5 : m = 5 → I5 τ' ∧ τ.1 337 1 ≤ τ'.1 337 1) (h6 : m = 6 → I6 τ') (h7 : m = 7 → I7p τ' (τ.1 337 1)) (h10 : m = 10 → I7b τ' (τ.1 337 1)) (h8 : m = 8 → I8l τ') (h11 : m = 11 → I8b τ') (h9 : m = 9 → I9 τ') : Inv τ' := by
  obtain ⟨a1, a2, a3, a4, a5, a6, ⟨a7, a8⟩, ⟨a9, a10⟩, a11⟩ := q
  have e : m ≠ 5 → τ'.1 337 1 = τ.1 337 1 := fun z => h 337 1 (by have : md 337 1 = 5 := rfl; omega) (by decide)
  have n60 : τ.1 337 1 ≤ 60 := a5.1.2
  refine ⟨?_, ?_, ?_, ?_, ?_, ?_, ?_, ?_, ?_⟩
  · by_cases z : m = 1
    · exact h1 z
    · exact a1.to (h.sm (fun q => z q.symm) (by omega))
  · by_cases z : m = 2
    · exact h2 z
    · exact a2.to (h.sm (fun q => z q.symm) (by omega))
  · by_cases z : m = 3
    · exact h3 z
    · exact a3.to (h.sm (fun q => z q.symm) (by omega))
  · by_cases z : m = 4
    · exact h4 z
    · exact a4.to (h.sm (fun q => z q.symm) (by omega))
  · by_cases z : m = 5
    · exact (h5 z).1
    · exact a5.to (h.sm (fun q => z q.symm) (by omega))
  · by_cases z : m = 6
    · exact h6 z
    · exact a6.to (h.sm (fun q => z q.symm) (by omega))
  · have le : τ.1 337 1 ≤ τ'.1 337 1 := by
      by_cases y : m = 5
      · exact (h5 y).2
      · rw [e y]; omega
    refine ⟨?_, ?_⟩
    · by_cases z : m = 7
      · rw [e (by omega)]; exact h7 z
      · exact a7.to (h.sm (fun q => z q.symm) (by omega)) le
    · by_cases z : m = 10
      · rw [e (by omega)]; exact h10 z
      · exact a8.to (h.sm (fun q => z q.symm) (by omega)) le n60
  · refine ⟨?_, ?_⟩
    · by_cases z : m = 8
      · exact h8 z
      · exact a9.to (h.sm (fun q => z q.symm) (by omega))
    · by_cases z : m = 11
      · exact h11 z
      · exact a10.to (h.sm (fun q => z q.symm) (by omega))
  · by_cases z : m = 9
    · exact h9 z
    · exact a11.to (h.sm (fun q => z q.symm) (by omega))
set_option maxRecDepth 100000 in
theorem Inv.to20 {τ τ' : kzM} (h : Ag 20 τ τ') (q : Inv τ) : Inv τ' := Inv.to h q (fun q => absurd q (by decide)) (fun q => absurd q (by decide)) (fun q => absurd q (by decide)) (fun q => absurd q (by decide)) (fun q => absurd q (by decide)) (fun q => absurd q (by decide)) (fun q => absurd q (by decide)) (fun q => absurd q (by decide)) (fun q => absurd q (by decide)) (fun q => absurd q (by decide)) (fun q => absurd q (by decide))
