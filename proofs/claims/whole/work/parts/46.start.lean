/-! from the law's entry to its loop -/
theorem arrV_to {c : ClassId} {n : Nat} {f g : Nat → Value} (h : ∀ j, j < n → f j = g j) : arrV c n f = arrV c n g := by
  have e : (fun j : Fin n => f j.val) = fun j : Fin n => g j.val := funext fun j => h j.val j.isLt
  unfold arrV
  rw [e]
theorem kd_vwlen : ∀ k, k < 13 → ∀ r, vwCl[k]? = some r → r.2.2 = (kdT.getD k []).length := by
  intro k hk r hr
  match k, hk, hr with
  | 0, _, hr => cases hr; rfl
  | 1, _, hr => cases hr; rfl
  | 2, _, hr => cases hr; rfl
  | 3, _, hr => cases hr; rfl
  | 4, _, hr => cases hr; rfl
  | 5, _, hr => cases hr; rfl
  | 6, _, hr => cases hr; rfl
  | 7, _, hr => cases hr; rfl
  | 8, _, hr => cases hr; rfl
  | 9, _, hr => cases hr; rfl
  | 10, _, hr => cases hr; rfl
  | 11, _, hr => cases hr; rfl
  | 12, _, hr => cases hr; rfl
  | k + 13, hk, _ => omega
/-- the same cells, the shape said as kdG0 -/
theorem kdR_G0 {E : kdE} {G : kdS} {σ : kdM} {H : Heap} (hG : kdcG G = true) (h : kdR E G σ H) : kdR E kdG0 σ H := by
  obtain ⟨h1, h2⟩ := h
  unfold kdcG at hG
  rw [Bool.and_eq_true] at hG
  obtain ⟨g1, g2⟩ := hG
  have g1 : G.2.2 = 663 := by simpa using g1
  refine ⟨by rw [h1, g1]; rfl, fun a ha => ?_⟩
  have hlt : a < 663 := by
    apply Nat.lt_of_not_le
    intro hge
    have e : kdG0.1 a = (20, 0) := by
      show kdG0k.getD a (20, 0) = _
      rw [List.getD_eq_getElem?_getD, List.getElem?_eq_none (by show kdG0k.length ≤ a; exact Nat.le_trans (Nat.le_of_ble_eq_true (by decide +kernel)) hge)]
      rfl
    rw [e] at ha
    exact absurd ha (by decide)
  have g3 := List.all_eq_true.mp g2 a (List.mem_range.mpr hlt)
  rw [Bool.and_eq_true] at g3
  obtain ⟨g4, g5⟩ := g3
  have g4 : G.1 a = kdG0.1 a := by simpa using g4
  have hk := h2 a (by rw [g4]; exact ha)
  have hV : ∀ j, j < kdnf (kdG0.1 a) → kdV E G σ a j = kdV E kdG0 σ a j := by
    intro j hj
    unfold kdV
    rw [g4]
    by_cases hi : (kdG0.1 a).1 = 13 ∨ (kdG0.1 a).1 = 14 ∨ (kdG0.1 a).1 = 15
    · rcases hi with e | e | e <;> rw [e] <;> rfl
    · rw [if_neg hi] at g5
      have g6 := List.all_eq_true.mp g5 j (List.mem_range.mpr hj)
      rw [Bool.or_eq_true] at g6
      rcases g6 with g6 | g6
      · have g6 : kdv (kdG0.1 a).1 j ≠ 2 := by simpa using g6
        have g7 : kdv (kdG0.1 a).1 j = 0 ∨ kdv (kdG0.1 a).1 j = 1 ∨ kdv (kdG0.1 a).1 j = 2 ∨ 2 < kdv (kdG0.1 a).1 j := by omega
        by_cases e0 : kdv (kdG0.1 a).1 j = 0
        · rw [if_pos e0, if_pos e0]
        · rw [if_neg e0, if_neg e0]
          by_cases e1 : kdv (kdG0.1 a).1 j = 1
          · rw [if_pos e1, if_pos e1]
          · exfalso
            revert g6 e0 e1
            generalize (kdG0.1 a).1 = k at ha hi ⊢
            unfold kdv
            by_cases hk13 : k < 13
            · rw [if_pos hk13]
              have hall : ∀ k, k < 13 → ∀ x ∈ (kdT.getD k []), x = 0 ∨ x = 2 := by decide
              by_cases hjl : j < (kdT.getD k []).length
              · intro g6 e0 e1
                have := hall k hk13 _ (List.getElem_mem hjl)
                rw [List.getD_eq_getElem?_getD, List.getElem?_eq_getElem hjl] at g6 e0
                simp only [Option.getD_some] at g6 e0
                omega
              · rw [List.getD_eq_getElem?_getD, List.getElem?_eq_none (Nat.le_of_not_lt hjl)]
                simp
            · rw [if_neg hk13]
              split
              · simp
              · split
                · simp
                · split <;> simp
      · have g6 : G.2.1 a j = kdG0.2.1 a j := by simpa using g6
        rw [g6]
  refine ⟨fun hk13 => ?_, fun hk13 => ?_⟩
  · obtain ⟨r, q1, q2⟩ := hk.1 (by rw [g4]; exact hk13)
    rw [g4] at q1 q2
    exact ⟨r, q1, q2.to (fun j hj => hV j (by unfold kdnf; rw [if_pos hk13, ← kd_vwlen _ hk13 r q1]; exact hj))⟩
  · have q := hk.2 (by rw [g4]; exact hk13)
    rw [g4] at q
    rw [q]
    refine congrArg some ?_
    exact arrV_to fun j hj => hV j (by unfold kdnf; rw [if_neg (by omega)]; exact hj)
theorem kd_known {s : State} {args : Array Value} (hts : ∀ w ∈ kdtb, w.before args s = true) : ∃ f : Nat → ClassId × (Nat → Nat), ∀ (k : Nat) (q : vw_C), vwCl[k]? = some q → u_Kn s q.1 q.2.1 q.2.2 (f k).1 (f k).2 := by
  have h : ∀ k : Nat, ∃ f : ClassId × (Nat → Nat), ∀ q : vw_C, vwCl[k]? = some q → u_Kn s q.1 q.2.1 q.2.2 f.1 f.2 := by
    intro k
    match k with
    | 0 => obtain ⟨c, i, h⟩ := u_known (C := RX0) (T := TX0) (N := 8) (n := 8) hts kd_in_X0 (hts _ w_is_X0); exact ⟨(c, i), fun q hq => by cases hq; exact h⟩
    | 1 => obtain ⟨c, i, h⟩ := u_known (C := RX1) (T := TX1) (N := 3) (n := 3) hts kd_in_X1 (hts _ w_is_X1); exact ⟨(c, i), fun q hq => by cases hq; exact h⟩
    | 2 => obtain ⟨c, i, h⟩ := u_known (C := RX2) (T := TX2) (N := 6) (n := 6) hts kd_in_X2 (hts _ w_is_X2); exact ⟨(c, i), fun q hq => by cases hq; exact h⟩
    | 3 => obtain ⟨c, i, h⟩ := u_known (C := RX3) (T := TX3) (N := 9) (n := 9) hts kd_in_X3 (hts _ w_is_X3); exact ⟨(c, i), fun q hq => by cases hq; exact h⟩
    | 4 => obtain ⟨c, i, h⟩ := u_known (C := RX4) (T := TX4) (N := 5) (n := 5) hts kd_in_X4 (hts _ w_is_X4); exact ⟨(c, i), fun q hq => by cases hq; exact h⟩
    | 5 => obtain ⟨c, i, h⟩ := u_known (C := RX5) (T := TX5) (N := 9) (n := 9) hts kd_in_X5 (hts _ w_is_X5); exact ⟨(c, i), fun q hq => by cases hq; exact h⟩
    | 6 => obtain ⟨c, i, h⟩ := u_known (C := RX6) (T := TX6) (N := 2) (n := 2) hts kd_in_X6 (hts _ w_is_X6); exact ⟨(c, i), fun q hq => by cases hq; exact h⟩
    | 7 => obtain ⟨c, i, h⟩ := u_known (C := RX7) (T := TX7) (N := 2) (n := 2) hts kd_in_X7 (hts _ w_is_X7); exact ⟨(c, i), fun q hq => by cases hq; exact h⟩
    | 8 => obtain ⟨c, i, h⟩ := u_known (C := RX8) (T := TX8) (N := 8) (n := 8) hts kd_in_X8 (hts _ w_is_X8); exact ⟨(c, i), fun q hq => by cases hq; exact h⟩
    | 9 => obtain ⟨c, i, h⟩ := u_known (C := RX9) (T := TX9) (N := 12) (n := 12) hts kd_in_X9 (hts _ w_is_X9); exact ⟨(c, i), fun q hq => by cases hq; exact h⟩
    | 10 => obtain ⟨c, i, h⟩ := u_known (C := RX10) (T := TX10) (N := 4) (n := 4) hts kd_in_X10 (hts _ w_is_X10); exact ⟨(c, i), fun q hq => by cases hq; exact h⟩
    | 11 => obtain ⟨c, i, h⟩ := u_known (C := RX11) (T := TX11) (N := 12) (n := 12) hts kd_in_X11 (hts _ w_is_X11); exact ⟨(c, i), fun q hq => by cases hq; exact h⟩
    | 12 => obtain ⟨c, i, h⟩ := u_known (C := RX12) (T := TX12) (N := 66) (n := 66) hts kd_in_X12 (hts _ w_is_X12); exact ⟨(c, i), fun q hq => by cases hq; exact h⟩
    | k + 13 => exact ⟨(0, fun _ => 0), fun q hq => by simp [vwCl] at hq⟩
  exact Classical.axiomOfChoice h
theorem kd_Kn {s : State} {args : Array Value} (hts : ∀ w ∈ lw_tbl, w.before args s = true) : ∃ (D : va_G) (cy : Nat → ClassId), va_K D vwCl (kdty cy) s := by
  have ht : ∀ w ∈ kdtb, w.before args s = true := fun w hw => hts w (List.mem_filter.mp hw).1
  obtain ⟨f, hf⟩ := kd_known ht
  obtain ⟨cI, kI, pI, aI1, aI2, aI3⟩ : ∃ (c : ClassId) (k : Class) (p : ClassId), s.vm.findClass ("[" ++ FieldType.int.toString) = some c ∧ s.vm.classes[c]? = some k ∧ k.kind = .array p .int := by
    obtain ⟨c, k, p, h1, h2, h3⟩ := Cond.arrayClass_spec (ht _ w_ac_int); exact ⟨c, k, p, h1, h2, h3⟩
  obtain ⟨cL, kL, pL, aL1, aL2, aL3⟩ : ∃ (c : ClassId) (k : Class) (p : ClassId), s.vm.findClass ("[" ++ FieldType.long.toString) = some c ∧ s.vm.classes[c]? = some k ∧ k.kind = .array p .long := by
    obtain ⟨c, k, p, h1, h2, h3⟩ := Cond.arrayClass_spec (ht _ w_ac_long); exact ⟨c, k, p, h1, h2, h3⟩
  obtain ⟨cZ, kZ, pZ, aZ1, aZ2, aZ3⟩ : ∃ (c : ClassId) (k : Class) (p : ClassId), s.vm.findClass ("[" ++ FieldType.boolean.toString) = some c ∧ s.vm.classes[c]? = some k ∧ k.kind = .array p .boolean := by
    obtain ⟨c, k, p, h1, h2, h3⟩ := Cond.arrayClass_spec (ht _ w_ac_boolean); exact ⟨c, k, p, h1, h2, h3⟩
  obtain ⟨pR, cR, kR, bR1, bR2, bR3, bR4, bR5⟩ := Cond.arrayOver_spec (hts (.arrayOver (.object "KeyDesk$Row")) (List.mem_of_getElem? (i := 130) (by decide +kernel)))
  obtain ⟨pT, cT, kT, bT1, bT2, bT3, bT4, bT5⟩ := Cond.arrayOver_spec (hts (.arrayOver (.object "KeyDesk$Tongue")) (List.mem_of_getElem? (i := 123) (by decide +kernel)))
  obtain ⟨pA, cA, kA, bA1, bA2, bA3, bA4, bA5⟩ := arrayOverA_spec (hts (.arrayOver (.array .int)) (List.mem_of_getElem? (i := 210) (by decide +kernel)))
  obtain ⟨pB, cB, kB, bB1, bB2, bB3, bB4, bB5⟩ := arrayOverA_spec (hts (.arrayOver (.array .long)) (List.mem_of_getElem? (i := 282) (by decide +kernel)))
  refine ⟨(fun k => (f k).1, fun k => (f k).2), fun k => if k = 13 then cI else if k = 14 then cL else if k = 15 then cZ else if k = 16 then cR else if k = 17 then cT else if k = 18 then cA else cB, hf, fun k q hq => ?_⟩
  have arr : ∀ {c : ClassId} {kc : Class} {p : ClassId} {ty : FieldType}, s.vm.classes[c]? = some kc → kc.kind = .array p ty → ArrOfT s c ty := fun {c kc p ty} h1 h2 n z => ⟨fun k h => (by cases h), kc, h1, p, h2⟩
  match k, hq with
  | 0, hq => cases hq; exact ⟨arr aI2 aI3, aI1⟩
  | 1, hq => cases hq; exact ⟨arr aL2 aL3, aL1⟩
  | 2, hq => cases hq; exact ⟨arr aZ2 aZ3, aZ1⟩
  | 3, hq => cases hq; exact ⟨arr bR3 bR4, kR, pR, bR3, bR4, bR1, bR5⟩
  | 4, hq => cases hq; exact ⟨arr bT3 bT4, kT, pT, bT3, bT4, bT1, bT5⟩
  | 5, hq => cases hq; exact ⟨arr bA3 bA4, bA5⟩
  | 6, hq => cases hq; exact ⟨arr bB3 bB4, bB5⟩
  | k + 7, hq => simp [kdty] at hq
theorem kd_W {s : State} {args : Array Value} (hts : ∀ w ∈ lw_tbl, w.before args s = true) : kdW s := by
  intro q hq
  refine va_Nw.of rfl (A := args) (hts _ ?_)
  have hall : ∀ q ∈ kdN, kdnw q ∈ lw_tbl := by decide +kernel
  exact hall q hq
theorem kd_O {s : State} {args : Array Value} (hts : ∀ w ∈ lw_tbl, w.before args s = true) : kdO s := by
  have ht : ∀ w ∈ kdtb, w.before args s = true := fun w hw => hts w (List.mem_filter.mp hw).1
  exact ⟨va_AO.of (hts (.arrayOver (.object "KeyDesk$Row")) (List.mem_of_getElem? (i := 130) (by decide +kernel))), va_AO.of (hts (.arrayOver (.object "KeyDesk$Tongue")) (List.mem_of_getElem? (i := 123) (by decide +kernel))), hts (.arrayOver (.array .int)) (List.mem_of_getElem? (i := 210) (by decide +kernel)), hts (.arrayOver (.array .long)) (List.mem_of_getElem? (i := 282) (by decide +kernel))⟩
theorem kd_ran {P0 : kdM → Bool} (kdrun_ok2 : kdrun P0 = true) : ∃ (G1 : kdS) (σ1 : kdM) (cc cs : Nat), L_pre (kdGz, kdMz, 600000, 7302250) = some ((0, 612), (G1, σ1, cc, cs)) ∧ kdcG G1 = true ∧ P0 σ1 = true := by
  have h := kdrun_ok2
  unfold kdrun at h
  revert h
  generalize L_pre (kdGz, kdMz, 600000, 7302250) = r
  intro h
  match r, h with
  | some ((x, m), (G1, σ1, cc, cs)), h =>
    simp only [Bool.and_eq_true, beq_iff_eq] at h
    obtain ⟨⟨⟨rfl, rfl⟩, h3⟩, h4⟩ := h
    exact ⟨G1, σ1, cc, cs, rfl, h3, h4⟩
theorem whole_start0 {P0 : kdM → Bool} (hP0 : kdrun P0 = true) (kd_pure : ∀ (xs : Nat → Int32) (N : Nat), N ≤ 3072 → ∀ σ : kdM, P0 σ = true → ∃ σ' : kdM, L_law_18 kdG0 xs N 0 612 0 σ = some ((), σ')) {p : Program} {e : Env} {s : State} {m : MethodId} {below : List Frame} {meth : Method} {c : Code} (l : Launch) (hflags : l.flags = flags0) {b L : Nat} {xs : Nat → Int32} (hL : L ≤ 3072) (C0 : lw_At p s m meth c b L xs) : W p l e room_1 s m #[Value.ref b] below meth c s.heap [] 0 0 (lw_Z below #[Value.ref b] s) (entryFrame m ([Value.ref b] : List Value).toArray 4) := by
  obtain ⟨hx, hb, hr, hml, hown, hts, hX, hbl, hlocks, hgv⟩ := C0
  obtain ⟨D, cy, hK⟩ := kd_Kn hts
  obtain ⟨G1, σ1, cc1, cs1, hrun, hG, hP⟩ := kd_ran hP0
  obtain ⟨σ2, hlaw⟩ := kd_pure xs L hL σ1 hP
  have hX0 : kdX (l, D, cy, s.heap.size) (p, e, room_1, s, m, #[Value.ref b], below, meth, c) cL_law 4 RL (some .boolean) 20 := ⟨hx, hb, hml, hown, fun w hw => hts w (List.mem_filter.mp hw).1, hK, kd_W hts, hlocks, hr, by decide, by decide⟩
  have hb1 : SWg (l, D, cy, s.heap.size) (p, e, room_1, s, m, #[Value.ref b], below, meth, c) 4 (kdEnd (l, D, cy, s.heap.size) kdG0 (.inr (0, 0)) (p, e, room_1, s, m, #[Value.ref b], below, meth, c)) (kdR (l, D, cy, s.heap.size) kdGz kdMz) 0 0 0 [(0, .ref b)] [] := by
    refine wL_pre (cc := 600000) (cs := 7302250) hX0 (kd_O hts) rfl rfl hrun fun c0' s0' hc hs => ?_
    have hc : c0' + cc1 = 600000 := hc
    have hs : s0' + cs1 = 7302250 := hs
    have hw := wL_law_18 (z := (c0', s0')) (G := kdG0) hX0 (show c0' ≤ 600000 ∧ s0' ≤ 7302250 from ⟨by omega, by omega⟩) (show kdLw (l, D, cy, s.heap.size) (p, e, room_1, s, m, #[Value.ref b], below, meth, c) b L xs from ⟨hX, hbl, rfl⟩) (show kdLe (p, e, room_1, s, m, #[Value.ref b], below, meth, c) b (c0', s0') from ⟨rfl, rfl, by show c0' ≤ _; omega, by show s0' ≤ _; omega, hr⟩) 0 612 0 σ1 hlaw
    intro H locs ls hl hR hS
    exact hw H locs ls hl (kdR_G0 hG hR) hS
  have hl := lv_entry ([.ref b]) (n := 4) (Nat.le_of_ble_eq_true rfl)
  rw [lg_entry_eq]
  exact hb1 s.heap [] _ hl ⟨rfl, fun a ha => absurd (show (20 : Nat) < 20 from ha) (by decide)⟩ va_S.rf
