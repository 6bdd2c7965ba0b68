/-! from the entry to the end -/
theorem kdEnd_G {E : kdE} {G G' : kdS} {z z' : Nat × Nat} {A : kdA} : kdEnd E G (.inr z) A = kdEnd E G' (.inr z') A := by
  obtain ⟨p, e, R, s, m, args, below, meth, c⟩ := A
  rfl
section BEG
variable {E : kdE} {A : kdA} {b c s : Nat}
set_option maxRecDepth 100000 in
set_option maxHeartbeats 4000000 in
theorem al_112 {l1 l2 : Nat} {l3 l4 l5 : Int32} {σ : kdM} (hX : kdX E A cL_law 29 RL (some .boolean) 8) (hR : kdAR A = room_1) (hc : c + 10 ≤ 600000) (hs : s + 100 ≤ 7302250) (h : SW E (kdGe 1228) (.inr (c + 4, s + 52)) A 29 (gz 1227 (gz 1226 (gz 1225 (gz 1224 σ)))) 135 [(0, .ref b), (1, kr E l1), (2, kr E l2), (3, .int l3), (4, .int l4), (5, .int l5), (6, kr E 1224), (7, kr E 1225), (8, kr E 1226), (9, kr E 1227)] []) : SW E (kdGe 1224) (.inr (c, s)) A 29 σ 112 [(0, .ref b), (1, kr E l1), (2, kr E l2), (3, .int l3), (4, .int l4), (5, .int l5)] [] := by
  unfold SW at h ⊢
  rw [kdEnd_G (G' := kdGe 1228) (z' := (c + 4, s + 52))]
  refine r_bipush hX dL_law_112 kk_b_16 ?_
  refine r_newL (n := 16) (G2 := kdGe 1225) hX dL_law_114 rfl (by decide) (by rw [hR]; show c + 1 ≤ 600000; omega) (by rw [hR]; show s + 16 ≤ 7302250; omega) (kdGe_next (by decide) rfl) ?_
  refine r_astore (x := 1224) (L2 := [(6, kr E 1224), (0, .ref b), (1, kr E l1), (2, kr E l2), (3, .int l3), (4, .int l4), (5, .int l5)]) hX dL_law_116 (by decide) rfl ?_
  refine r_bipush hX dL_law_118 kk_b_16 ?_
  refine r_newL (n := 16) (G2 := kdGe 1226) hX dL_law_120 rfl (by decide) (by rw [hR]; show c + 1 + 1 ≤ 600000; omega) (by rw [hR]; show s + 16 + 16 ≤ 7302250; omega) (kdGe_next (by decide) rfl) ?_
  refine r_astore (x := 1225) (L2 := [(7, kr E 1225), (6, kr E 1224), (0, .ref b), (1, kr E l1), (2, kr E l2), (3, .int l3), (4, .int l4), (5, .int l5)]) hX dL_law_122 (by decide) rfl ?_
  refine r_bipush hX dL_law_124 kk_b_16 ?_
  refine r_newL (n := 16) (G2 := kdGe 1227) hX dL_law_126 rfl (by decide) (by rw [hR]; show c + 2 + 1 ≤ 600000; omega) (by rw [hR]; show s + 32 + 16 ≤ 7302250; omega) (kdGe_next (by decide) rfl) ?_
  refine r_astore (x := 1226) (L2 := [(8, kr E 1226), (7, kr E 1225), (6, kr E 1224), (0, .ref b), (1, kr E l1), (2, kr E l2), (3, .int l3), (4, .int l4), (5, .int l5)]) hX dL_law_128 (by decide) rfl ?_
  refine r_iconst hX dL_law_130 kk_i_4 ?_
  refine r_newL (n := 4) (G2 := kdGe 1228) hX dL_law_131 rfl (by decide) (by rw [hR]; show c + 3 + 1 ≤ 600000; omega) (by rw [hR]; show s + 48 + 4 ≤ 7302250; omega) (kdGe_next (by decide) rfl) ?_
  refine r_astore (x := 1227) (L2 := [(9, kr E 1227), (8, kr E 1226), (7, kr E 1225), (6, kr E 1224), (0, .ref b), (1, kr E l1), (2, kr E l2), (3, .int l3), (4, .int l4), (5, .int l5)]) hX dL_law_133 (by decide) rfl ?_
  refine r_sub [4, 5, 6, 7, 8, 9, 3, 2, 1, 0] rfl ?_
  exact h
set_option maxRecDepth 100000 in
set_option maxHeartbeats 4000000 in
theorem al_354 {l1 l2 l6 l7 l8 : Nat} {l3 l4 l5 l10 l11 l12 : Int32} {σ : kdM} (hX : kdX E A cL_law 29 RL (some .boolean) 8) (hR : kdAR A = room_1) (hc : c + 10 ≤ 600000) (hs : s + 100 ≤ 7302250) (h : SW E (kdGe 1229) (.inr (c + 1, s + 32)) A 29 (gz 1228 σ) 360 [(0, .ref b), (1, kr E l1), (2, kr E l2), (3, .int l3), (4, .int l4), (5, .int l5), (6, kr E l6), (7, kr E l7), (8, kr E l8), (10, .int l10), (11, .int l11), (12, .int l12), (13, kr E 1228)] []) : SW E (kdGe 1228) (.inr (c, s)) A 29 σ 354 [(0, .ref b), (1, kr E l1), (2, kr E l2), (3, .int l3), (4, .int l4), (5, .int l5), (6, kr E l6), (7, kr E l7), (8, kr E l8), (10, .int l10), (11, .int l11), (12, .int l12)] [] := by
  unfold SW at h ⊢
  rw [kdEnd_G (G' := kdGe 1229) (z' := (c + 1, s + 32))]
  refine r_bipush hX dL_law_354 (show (Int8.ofInt 32).toInt32 = (32 : Int32) by decide) ?_
  refine r_newL (n := 32) (G2 := kdGe 1229) hX dL_law_356 rfl (by decide) (by rw [hR]; show c + 1 ≤ 600000; omega) (by rw [hR]; show s + 32 ≤ 7302250; omega) (kdGe_next (by decide) rfl) ?_
  refine r_astore (x := 1228) (L2 := [(13, kr E 1228), (0, .ref b), (1, kr E l1), (2, kr E l2), (3, .int l3), (4, .int l4), (5, .int l5), (6, kr E l6), (7, kr E l7), (8, kr E l8), (10, .int l10), (11, .int l11), (12, .int l12)]) hX dL_law_358 (by decide) rfl ?_
  refine r_sub [1, 2, 3, 4, 5, 6, 7, 8, 9, 10, 11, 12, 0] rfl ?_
  exact h
set_option maxRecDepth 100000 in
set_option maxHeartbeats 4000000 in
theorem al_776 {l1 l2 l13 : Nat} {l3 l5 l10 l11 l12 l17 : Int32} {σ : kdM} (hX : kdX E A cL_law 29 RL (some .boolean) 8) (hR : kdAR A = room_1) (hc : c + 10 ≤ 600000) (hs : s + 100 ≤ 7302250) (h : SW E (kdGe 1230) (.inr (c + 1, s + 4)) A 29 (gz 1229 σ) 781 [(0, .ref b), (1, kr E l1), (2, kr E l2), (3, .int l3), (5, .int l5), (10, .int l10), (11, .int l11), (12, .int l12), (13, kr E l13), (17, .int l17), (18, kr E 1229)] []) : SW E (kdGe 1229) (.inr (c, s)) A 29 σ 776 [(0, .ref b), (1, kr E l1), (2, kr E l2), (3, .int l3), (5, .int l5), (10, .int l10), (11, .int l11), (12, .int l12), (13, kr E l13), (17, .int l17)] [] := by
  unfold SW at h ⊢
  rw [kdEnd_G (G' := kdGe 1230) (z' := (c + 1, s + 4))]
  refine r_iconst hX dL_law_776 kk_i_4 ?_
  refine r_newL (n := 4) (G2 := kdGe 1230) hX dL_law_777 rfl (by decide) (by rw [hR]; show c + 1 ≤ 600000; omega) (by rw [hR]; show s + 4 ≤ 7302250; omega) (kdGe_next (by decide) rfl) ?_
  refine r_astore (x := 1229) (L2 := [(18, kr E 1229), (0, .ref b), (1, kr E l1), (2, kr E l2), (3, .int l3), (5, .int l5), (10, .int l10), (11, .int l11), (12, .int l12), (13, kr E l13), (17, .int l17)]) hX dL_law_779 (by decide) rfl ?_
  refine r_sub [1, 2, 3, 4, 5, 6, 7, 8, 9, 10, 0] rfl ?_
  exact h
end BEG
theorem whole_start {p : Program} {e : Env} {s : State} {m : MethodId} {below : List Frame} {meth : Method} {c : Code} (l : Launch) (hflags : l.flags = flags0) {b L : Nat} {xs : Nat → Int32} (hL : L ≤ 260) (C0 : lw_At p s m meth c b L xs) : W p l e room_1 s m #[Value.ref b] below meth c s.heap [] 0 0 (lw_Z below #[Value.ref b] s) (entryFrame m ([Value.ref b] : List Value).toArray 29) := by
  obtain ⟨hx, hb, hr, hml, hown, hts, hX, hbl, hlocks, hgv⟩ := C0
  obtain ⟨D, cy, hK⟩ := kd_Kn hts
  obtain ⟨G1, σ1, cc1, cs1, hrun, hG, hcc, hcs, hA, hP0, hP1⟩ := kd_ran
  obtain ⟨σ2, hlaw⟩ := law_all (xs := xs) hL hP0 hP1
  have hX0 : kdX (l, D, cy, s.heap.size) (p, e, room_1, s, m, #[Value.ref b], below, meth, c) cL_law 29 RL (some .boolean) 8 := ⟨hx, hb, hml, hown, fun w hw => hts w (List.mem_filter.mp hw).1, hK, kd_W hts, hlocks, hr, by decide, by decide⟩
  have hLw : kdLw (l, D, cy, s.heap.size) (p, e, room_1, s, m, #[Value.ref b], below, meth, c) b L xs := ⟨hX, hbl, hbl⟩
  have hLs : kdLs (l, D, cy, s.heap.size) (p, e, room_1, s, m, #[Value.ref b], below, meth, c) := rfl
  have hb1 : SWg (l, D, cy, s.heap.size) (p, e, room_1, s, m, #[Value.ref b], below, meth, c) 29 (kdEnd (l, D, cy, s.heap.size) (kdGe 1224) (.inr (0, 0)) (p, e, room_1, s, m, #[Value.ref b], below, meth, c)) (kdR (l, D, cy, s.heap.size) kdGz kdMz) 0 0 0 [(0, .ref b)] [] := by
    refine wL_pre (cc := 600000) (cs := 7302250) hX0 (kd_O hts) rfl rfl hrun fun c0' s0' hc hs => ?_
    have hc : c0' + cc1 = 600000 := hc
    have hs : s0' + cs1 = 7302250 := hs
    have hRr : kdAR (p, e, room_1, s, m, #[Value.ref b], below, meth, c) = room_1 := rfl
    have le : ∀ i j : Nat, i ≤ 10 → j ≤ 100 → kdLe (p, e, room_1, s, m, #[Value.ref b], below, meth, c) b (c0' + i, s0' + j) := fun i j hi hj => ⟨rfl, rfl, by show c0' + i ≤ _; omega, by show s0' + j ≤ _; omega, hr⟩
    have ro : ∀ i j : Nat, i ≤ 10 → j ≤ 100 → kdRO (p, e, room_1, s, m, #[Value.ref b], below, meth, c) (c0' + i) (s0' + j) := fun i j hi hj => ⟨by show c0' + i ≤ 600000; omega, by show s0' + j ≤ 7302250; omega⟩
    have w4 := fun (l1 l2 : Nat) (l3 l5 l10 l11 l12 : Int32) (l13 : Nat) (l17 : Int32) (σ : kdM) (h : K3 xs L l1 l2 l3 l5 l10 l11 l12 l13 l17 σ = some ((), σ2)) => al_776 (c := c0' + 5) (s := s0' + 84) hX0 hRr (by omega) (by omega) (wL_law_s4 (z := (c0' + 6, s0' + 88)) hX0 hLw (ro 6 88 (by decide) (by decide)) (le 6 88 (by decide) (by decide)) hLs h)
    have w3 := fun (l1 l2 : Nat) (l3 l4 l5 : Int32) (l6 l7 l8 : Nat) (l10 l11 l12 : Int32) (σ : kdM) (h : K2 xs L l1 l2 l3 l4 l5 l6 l7 l8 l10 l11 l12 σ = some ((), σ2)) => al_354 (c := c0' + 4) (s := s0' + 52) hX0 hRr (by omega) (by omega) (wL_law_s3 (z := (c0' + 5, s0' + 84)) hX0 hLw (ro 5 84 (by decide) (by decide)) (le 5 84 (by decide) (by decide)) hLs (K3 xs L) w4 h)
    have w2 := fun (l1 l2 : Nat) (l3 l4 l5 : Int32) (σ : kdM) (h : K1 xs L l1 l2 l3 l4 l5 σ = some ((), σ2)) => al_112 (c := c0') (s := s0') hX0 hRr (by omega) (by omega) (wL_law_s2 (z := (c0' + 4, s0' + 52)) hX0 hLw (ro 4 52 (by decide) (by decide)) (le 4 52 (by decide) (by decide)) hLs (K2 xs L) w3 h)
    have hw := wL_law_s1 (z := (c0', s0')) hX0 hLw (ro 0 0 (by decide) (by decide)) (le 0 0 (by decide) (by decide)) hLs (K1 xs L) w2 hlaw
    intro H locs ls hl hR hS
    exact hw H locs ls hl (kdR_G0 hG hA hR) hS
  have hl := lv_entry ([.ref b]) (n := 29) (Nat.le_of_ble_eq_true rfl)
  rw [lg_entry_eq]
  exact hb1 s.heap [] _ hl ⟨rfl, fun a ha => absurd (show (20 : Nat) < 20 from ha) (by decide)⟩ va_S.rf
