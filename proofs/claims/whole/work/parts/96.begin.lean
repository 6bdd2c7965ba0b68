/-! the start -/
def zall (n : Nat) (p : Int → Bool) : Bool := (List.range n).all fun i => p (i : Int)
theorem zall_s {n : Nat} {p : Int → Bool} (h : zall n p = true) {i : Int} (i0 : 0 ≤ i) (i1 : i < n) : p i = true := by
  unfold zall at h
  rw [List.all_eq_true] at h
  have := h i.toNat (List.mem_range.2 (by omega))
  rw [show ((i.toNat : Nat) : Int) = i by omega] at this
  exact this
def kzPa (τ : kzM) : Bool := decide (τ.1 1 1 = 0) && decide (τ.1 612 1 = 0) && decide (τ.1 3 1 = 0) && decide (τ.1 612 3 = 0) && decide (τ.1 327 4 = 0) && decide (τ.1 612 18 = 0) && decide (τ.1 328 1 = 0) && decide (τ.1 612 17 = 0) && decide (τ.1 337 1 = 0) && decide (τ.1 339 1 = 0) && decide (τ.1 341 1 = 0) && decide (τ.1 612 29 = 0) && decide (τ.1 562 1 = 0) && decide (τ.1 564 1 = 0) && decide (τ.1 612 6 = 0) && decide (τ.1 500 2 = 0) && decide (τ.1 612 45 = 0) && decide (τ.1 581 1 = 0) && decide (τ.1 583 1 = 0) && decide (τ.1 585 1 = 0) && decide (τ.1 612 51 = 0) && decide ((0 ≤ τ.1 580 4 ∧ τ.1 580 4 ≤ 1000) ∧ τ.1 612 52 = τ.1 580 4) && decide ((0 ≤ τ.1 580 5 ∧ τ.1 580 5 ≤ 2147483646) ∧ τ.1 612 54 = τ.1 580 5) && decide ((2 ≤ τ.1 588 0 ∧ τ.1 588 0 ≤ 7) ∧ τ.1 612 55 = τ.1 588 0) && decide ((0 ≤ τ.1 588 5 ∧ τ.1 588 5 ≤ 20) ∧ τ.1 612 60 = τ.1 588 5)
def kzPb0 (τ : kzM) : Bool := zall 3 fun t => decide (τ.1 (6 + 107 * t.toNat) 2 = 0 ∧ τ.1 621 t = 0 ∧ τ.1 (6 + 107 * t.toNat + 7) 1 = 0 ∧ τ.1 (6 + 107 * t.toNat + 3) 1 = 0 ∧ τ.1 (6 + 107 * t.toNat + 5) 1 = 0 ∧ τ.1 623 t = 0)
def kzPb1 (τ : kzM) : Bool := zall 183 fun x => decide (τ.1 (6 + 107 * (x / 61).toNat + 9) (x % 61) = 0 ∧ τ.1 624 x = 0)
def kzPb2 (τ : kzM) : Bool := zall 6 fun i => decide ((0 ≤ τ.1 465 i ∧ τ.1 465 i ≤ 20) ∧ τ.1 635 i = τ.1 465 i)
def kzPb3 (τ : kzM) : Bool := zall 3600 fun x => decide (τ.1 (502 + (x / 60).toNat) (x % 60) = 0)
def kzPb4 (τ : kzM) : Bool := zall 4 fun h => decide ((0 ≤ τ.1 587 h ∧ τ.1 587 h ≤ 1000) ∧ τ.1 654 h = τ.1 587 h)
def kzPb5 (τ : kzM) : Bool := zall 7 fun i => decide (((0 ≤ τ.1 589 i ∧ τ.1 589 i ≤ 20) ∧ τ.1 655 i = τ.1 589 i) ∧ ((0 ≤ τ.1 590 i ∧ τ.1 590 i ≤ 4) ∧ τ.1 656 i = τ.1 590 i) ∧ ((0 ≤ τ.1 591 i ∧ τ.1 591 i ≤ 99) ∧ τ.1 657 i = τ.1 591 i))
def kzPb6 (τ : kzM) : Bool := zall 49 fun x => decide ((0 ≤ τ.1 (593 + (x / 7).toNat) (x % 7) ∧ τ.1 (593 + (x / 7).toNat) (x % 7) ≤ 50) ∧ τ.1 658 x = τ.1 (593 + (x / 7).toNat) (x % 7))
def kzP0 (τ : kzM) : Bool := kzPa τ && kzPb0 τ && kzPb1 τ && kzPb2 τ && kzPb3 τ && kzPb4 τ && kzPb5 τ && kzPb6 τ
theorem kzP0_inv {τ : kzM} (h : kzP0 τ = true) : Inv τ := by
  unfold kzP0 at h
  simp only [Bool.and_eq_true] at h
  obtain ⟨⟨⟨⟨⟨⟨⟨ha, h0⟩, h1⟩, h2⟩, h3⟩, h4⟩, h5⟩, h6⟩ := h
  unfold kzPa at ha
  simp only [Bool.and_eq_true, decide_eq_true_eq] at ha
  obtain ⟨⟨⟨⟨⟨⟨⟨⟨⟨⟨⟨⟨⟨⟨⟨⟨⟨⟨⟨⟨⟨⟨⟨⟨a0, a1⟩, a2⟩, a3⟩, a4⟩, a5⟩, a6⟩, a7⟩, a8⟩, a9⟩, a10⟩, a11⟩, a12⟩, a13⟩, a14⟩, a15⟩, a16⟩, a17⟩, a18⟩, a19⟩, a20⟩, a21⟩, a22⟩, a23⟩, a24⟩ := ha
  have b0 : ∀ y : Int, 0 ≤ y → y < 3 → τ.1 (6 + 107 * y.toNat) 2 = 0 ∧ τ.1 621 y = 0 ∧ τ.1 (6 + 107 * y.toNat + 7) 1 = 0 ∧ τ.1 (6 + 107 * y.toNat + 3) 1 = 0 ∧ τ.1 (6 + 107 * y.toNat + 5) 1 = 0 ∧ τ.1 623 y = 0 := fun y y0 y1 => of_decide_eq_true (zall_s h0 y0 y1)
  have b1 : ∀ y : Int, 0 ≤ y → y < 183 → τ.1 (6 + 107 * (y / 61).toNat + 9) (y % 61) = 0 ∧ τ.1 624 y = 0 := fun y y0 y1 => of_decide_eq_true (zall_s h1 y0 y1)
  have b2 : ∀ y : Int, 0 ≤ y → y < 6 → (0 ≤ τ.1 465 y ∧ τ.1 465 y ≤ 20) ∧ τ.1 635 y = τ.1 465 y := fun y y0 y1 => of_decide_eq_true (zall_s h2 y0 y1)
  have b3 : ∀ y : Int, 0 ≤ y → y < 3600 → τ.1 (502 + (y / 60).toNat) (y % 60) = 0 := fun y y0 y1 => of_decide_eq_true (zall_s h3 y0 y1)
  have b4 : ∀ y : Int, 0 ≤ y → y < 4 → (0 ≤ τ.1 587 y ∧ τ.1 587 y ≤ 1000) ∧ τ.1 654 y = τ.1 587 y := fun y y0 y1 => of_decide_eq_true (zall_s h4 y0 y1)
  have b5 : ∀ y : Int, 0 ≤ y → y < 7 → ((0 ≤ τ.1 589 y ∧ τ.1 589 y ≤ 20) ∧ τ.1 655 y = τ.1 589 y) ∧ ((0 ≤ τ.1 590 y ∧ τ.1 590 y ≤ 4) ∧ τ.1 656 y = τ.1 590 y) ∧ ((0 ≤ τ.1 591 y ∧ τ.1 591 y ≤ 99) ∧ τ.1 657 y = τ.1 591 y) := fun y y0 y1 => of_decide_eq_true (zall_s h5 y0 y1)
  have b6 : ∀ y : Int, 0 ≤ y → y < 49 → (0 ≤ τ.1 (593 + (y / 7).toNat) (y % 7) ∧ τ.1 (593 + (y / 7).toNat) (y % 7) ≤ 50) ∧ τ.1 658 y = τ.1 (593 + (y / 7).toNat) (y % 7) := fun y y0 y1 => of_decide_eq_true (zall_s h6 y0 y1)
  refine ⟨⟨by omega, by omega, fun j j0 j1 => by omega⟩, ⟨by omega, by omega, fun j j0 j1 => by omega⟩, fun t t0 t1 => ?_, ⟨by omega, by omega, by omega, by omega, fun j j0 j1 => by omega⟩, ⟨by omega, by omega, by omega, by omega, fun w w0 w1 => by omega⟩, fun i i0 i1 => b2 i i0 i1, ⟨⟨by omega, by omega, by omega, fun j j0 j1 => by omega⟩, ⟨by omega, by omega, fun k k0 k1 => by omega, fun k l k0 kl l1 => by omega, fun a b a0' a1' b0' b1' => Or.inl ?_⟩⟩, ⟨⟨by omega, by omega, by omega, by omega, fun k k0 k1 => by omega⟩, ⟨a21, a22, fun x x0 x1 => b4 x x0 x1⟩⟩, ⟨a23, a24, fun i i0 i1 => b5 i i0 i1, fun a b a0' a1' b0' b1' => ?_⟩⟩
  · obtain ⟨c1, c2, c3, c4, c5, c6⟩ := b0 t t0 t1
    refine ⟨⟨by omega, by omega, fun r r0 r1 => by omega⟩, ⟨by omega, by omega, by omega, by omega, fun j j0 j1 => by omega⟩, fun l l0 l1 => ?_⟩
    have q := b1 (61 * t + l) (by omega) (by omega)
    rw [show (61 * t + l) / 61 = t by omega, show (61 * t + l) % 61 = l by omega] at q
    omega
  · have q := b3 (60 * a + b) (by omega) (by omega)
    rw [show (60 * a + b) / 60 = a by omega, show (60 * a + b) % 60 = b by omega] at q
    exact q
  · have q := b6 (7 * a + b) (by omega) (by omega)
    rw [show (7 * a + b) / 7 = a by omega, show (7 * a + b) % 7 = b by omega] at q
    exact q
def kdP0 (σ : kdM) : Bool := kzP0 (kzof σ)
theorem kdP0_run : kdrun kdP0 = true := by decide +kernel
theorem kd_pureP (xs : Nat → Int32) (N : Nat) (hN : N ≤ 3072) (σ : kdM) (h : kdP0 σ = true) : ∃ σ' : kdM, L_law_18 kdG0 xs N 0 612 0 σ = some ((), σ') := kz_pure xs N hN m_key m_letter m_wipe m_rule m_join m_own m_quarrel m_idle m_missing m_speak m_strike m_change m_back m_stands m_piece m_could m_word m_ofWord m_count m_price m_slip m_guess m_part m_pieceOf m_both m_say m_chosen m_product m_learn m_worth m_forget m_fade m_mine m_budget m_seed m_share m_symbols m_set m_pair m_same m_cost m_best m_bound m_better m_way m_told σ (kzP0_inv h)
theorem whole_start {p : Program} {e : Env} {s : State} {m : MethodId} {below : List Frame} {meth : Method} {c : Code} (l : Launch) (hflags : l.flags = flags0) {b L : Nat} {xs : Nat → Int32} (hL : L ≤ 3072) (C0 : lw_At p s m meth c b L xs) : W p l e room_1 s m #[Value.ref b] below meth c s.heap [] 0 0 (lw_Z below #[Value.ref b] s) (entryFrame m ([Value.ref b] : List Value).toArray 4) := whole_start0 kdP0_run kd_pureP l hflags hL C0
