/-! the start, read -/
theorem kzP0_inv {τ : kzM} (ha : kzPa τ = true) (h0 : kzPb0 τ = true) (h1 : kzPb1 τ = true) (h2 : kzPb2 τ = true) (h4 : kzPb4 τ = true) (h5 : kzPb5 τ = true) (h6 : kzPb6 τ = true) (b3 : ∀ a b : Int, 0 ≤ a → a < 60 → 0 ≤ b → b < 60 → τ.1 (502 + a.toNat) b = 0) : Inv τ := by
  unfold kzPa at ha
  simp only [Bool.and_eq_true, decide_eq_true_eq] at ha
  obtain ⟨⟨⟨⟨⟨⟨⟨⟨⟨⟨⟨⟨⟨⟨⟨⟨⟨⟨⟨⟨⟨⟨⟨⟨a0, a1⟩, a2⟩, a3⟩, a4⟩, a5⟩, a6⟩, a7⟩, a8⟩, a9⟩, a10⟩, a11⟩, a12⟩, a13⟩, a14⟩, a15⟩, a16⟩, a17⟩, a18⟩, a19⟩, a20⟩, a21⟩, a22⟩, a23⟩, a24⟩ := ha
  have b0 : ∀ y : Int, 0 ≤ y → y < 3 → τ.1 (6 + 107 * y.toNat) 2 = 0 ∧ τ.1 621 y = 0 ∧ τ.1 (6 + 107 * y.toNat + 7) 1 = 0 ∧ τ.1 (6 + 107 * y.toNat + 3) 1 = 0 ∧ τ.1 (6 + 107 * y.toNat + 5) 1 = 0 ∧ τ.1 623 y = 0 := fun y y0 y1 => of_decide_eq_true (zall_s h0 y0 y1)
  have b1 : ∀ y : Int, 0 ≤ y → y < 183 → τ.1 (6 + 107 * (y / 61).toNat + 9) (y % 61) = 0 ∧ τ.1 624 y = 0 := fun y y0 y1 => of_decide_eq_true (zall_s h1 y0 y1)
  have b2 : ∀ y : Int, 0 ≤ y → y < 6 → (0 ≤ τ.1 465 y ∧ τ.1 465 y ≤ 20) ∧ τ.1 635 y = τ.1 465 y := fun y y0 y1 => of_decide_eq_true (zall_s h2 y0 y1)
  have b4 : ∀ y : Int, 0 ≤ y → y < 4 → (0 ≤ τ.1 587 y ∧ τ.1 587 y ≤ 1000) ∧ τ.1 654 y = τ.1 587 y := fun y y0 y1 => of_decide_eq_true (zall_s h4 y0 y1)
  have b5 : ∀ y : Int, 0 ≤ y → y < 7 → ((0 ≤ τ.1 589 y ∧ τ.1 589 y ≤ 20) ∧ τ.1 655 y = τ.1 589 y) ∧ ((0 ≤ τ.1 590 y ∧ τ.1 590 y ≤ 4) ∧ τ.1 656 y = τ.1 590 y) ∧ ((0 ≤ τ.1 591 y ∧ τ.1 591 y ≤ 99) ∧ τ.1 657 y = τ.1 591 y) := fun y y0 y1 => of_decide_eq_true (zall_s h5 y0 y1)
  have b6 : ∀ y : Int, 0 ≤ y → y < 49 → (0 ≤ τ.1 (593 + (y / 7).toNat) (y % 7) ∧ τ.1 (593 + (y / 7).toNat) (y % 7) ≤ 50) ∧ τ.1 658 y = τ.1 (593 + (y / 7).toNat) (y % 7) := fun y y0 y1 => of_decide_eq_true (zall_s h6 y0 y1)
  refine ⟨⟨by omega, by omega, fun j j0 j1 => by omega⟩, ⟨by omega, by omega, fun j j0 j1 => by omega⟩, fun t t0 t1 => ?_, ⟨by omega, by omega, by omega, by omega, fun j j0 j1 => by omega⟩, ⟨by omega, by omega, by omega, by omega, fun w w0 w1 => by omega⟩, fun i i0 i1 => b2 i i0 i1, ⟨⟨by omega, by omega, by omega, fun j j0 j1 => by omega⟩, ⟨by omega, by omega, fun k k0 k1 => by omega, fun k l k0 kl l1 => by omega, fun a b a0' a1' b0' b1' => Or.inl ?_⟩⟩, ⟨⟨by omega, by omega, by omega, by omega, fun k k0 k1 => by omega⟩, ⟨a21, a22, fun x x0 x1 => b4 x x0 x1⟩⟩, ⟨a23, a24, fun i i0 i1 => b5 i i0 i1, fun a b a0' a1' b0' b1' => ?_⟩⟩
  · obtain ⟨c1, c2, c3, c4, c5, c6⟩ := b0 t t0 t1
    refine ⟨⟨by omega, by omega, fun r r0 r1 => by omega⟩, ⟨by omega, by omega, by omega, by omega, fun j j0 j1 => by omega⟩, fun l l0 l1 => ?_⟩
    have q := b1 (61 * t + l) (by omega) (by omega)
    rw [show (61 * t + l) / 61 = t by omega, show (61 * t + l) % 61 = l by omega] at q
    omega
  · exact b3 a b a0' a1' b0' b1'
  · have q := b6 (7 * a + b) (by omega) (by omega)
    rw [show (7 * a + b) / 7 = a by omega, show (7 * a + b) % 7 = b by omega] at q
    exact q
def kdP0 (σ : kdM) : Bool := ((((((kdPs σ && kdPc 0 σ) && kdPc 1 σ) && kdPc 2 σ) && kdPc 3 σ) && kdPc 4 σ) && kdPc 5 σ)
theorem kdP0_run : kdrun kdP0 = true := kdrun_and (kdrun_and (kdrun_and (kdrun_and (kdrun_and (kdrun_and (kdPs_run) kdPc_0) kdPc_1) kdPc_2) kdPc_3) kdPc_4) kdPc_5
theorem kdP0_inv {σ : kdM} (h : kdP0 σ = true) : Inv (kzof σ) := by
  unfold kdP0 at h
  simp only [Bool.and_eq_true] at h
  obtain ⟨⟨⟨⟨⟨⟨hs, c0⟩, c1⟩, c2⟩, c3⟩, c4⟩, c5⟩ := h
  unfold kdPs at hs
  simp only [Bool.and_eq_true] at hs
  obtain ⟨⟨⟨⟨⟨⟨ha, h0⟩, h1⟩, h2⟩, h4⟩, h5⟩, h6⟩ := hs
  have cc : ∀ i : Nat, i < 6 → kdPc i σ = true := fun i hi => by
    match i, hi with
    | 0, _ => exact c0
    | 1, _ => exact c1
    | 2, _ => exact c2
    | 3, _ => exact c3
    | 4, _ => exact c4
    | 5, _ => exact c5
  refine kzP0_inv ha h0 h1 h2 h4 h5 h6 (fun a b a0 a1 b0 b1 => ?_)
  have q := cc (a.toNat / 10) (by omega)
  unfold kdPc at q
  rw [List.all_eq_true] at q
  have q := q (a.toNat % 10) (List.mem_range.2 (by omega))
  rw [List.all_eq_true] at q
  have q := q b.toNat (List.mem_range.2 (by omega))
  have q := of_decide_eq_true q
  rw [show 502 + (10 * (a.toNat / 10) + a.toNat % 10) = 502 + a.toNat by omega] at q
  show (σ.1 (502 + a.toNat) b.toNat).toInt = 0
  rw [q]
  rfl
theorem kd_pureP (xs : Nat → Int32) (N : Nat) (hN : N ≤ 3072) (σ : kdM) (h : kdP0 σ = true) : ∃ σ' : kdM, L_law_18 kdG0 xs N 0 612 0 σ = some ((), σ') := kz_pure xs N hN m_key m_letter m_wipe m_rule m_join m_own m_quarrel m_idle m_missing m_speak m_strike m_change m_back m_stands m_piece m_could m_word m_ofWord m_count m_price m_slip m_guess m_part m_pieceOf m_both m_say m_chosen m_product m_learn m_worth m_forget m_fade m_mine m_budget m_seed m_share m_symbols m_set m_pair m_same m_cost m_best m_bound m_better m_way m_told σ (kdP0_inv h)
theorem whole_start {p : Program} {e : Env} {s : State} {m : MethodId} {below : List Frame} {meth : Method} {c : Code} (l : Launch) (hflags : l.flags = flags0) {b L : Nat} {xs : Nat → Int32} (hL : L ≤ 3072) (C0 : lw_At p s m meth c b L xs) : W p l e room_1 s m #[Value.ref b] below meth c s.heap [] 0 0 (lw_Z below #[Value.ref b] s) (entryFrame m ([Value.ref b] : List Value).toArray 4) := whole_start0 kdP0_run kd_pureP l hflags hL C0
