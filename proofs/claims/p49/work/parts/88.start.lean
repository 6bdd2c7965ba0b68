/-! from the law's entry to its loop -/
theorem arrV_to {c : ClassId} {n : Nat} {f g : Nat → Value} (h : ∀ j, j < n → f j = g j) : arrV c n f = arrV c n g := by
  have e : (fun j : Fin n => f j.val) = fun j : Fin n => g j.val := funext fun j => h j.val j.isLt
  unfold arrV
  rw [e]
theorem kd_vwlen : ∀ k, k < 13 → ∀ r, vwCl[k]? = some r → r.2.2 = (kdT.getD k []).length := by
  intro k hk r hr
  match k, hk, hr with
  | 0, _, hr => cases hr; rfl
  | 1, _, hr => cases hr; rfl
  | 2, _, hr => cases hr; rfl
  | 3, _, hr => cases hr; rfl
  | 4, _, hr => cases hr; rfl
  | 5, _, hr => cases hr; rfl
  | 6, _, hr => cases hr; rfl
  | 7, _, hr => cases hr; rfl
  | 8, _, hr => cases hr; rfl
  | 9, _, hr => cases hr; rfl
  | 10, _, hr => cases hr; rfl
  | 11, _, hr => cases hr; rfl
  | 12, _, hr => cases hr
  | k + 13, hk, _ => omega
/-- the same cells, the shape said as kdGe -/
theorem kdR_G0 {E : kdE} {G : kdS} {σ : kdM} {H : Heap} (g1 : G.2.2 = 1224) (g2 : ∀ a, a < 1224 → kdcA G a = true) (h : kdR E G σ H) : kdR E (kdGe 1224) σ H := by
  obtain ⟨h1, h2⟩ := h
  refine ⟨by rw [h1, g1]; rfl, fun a ha => ?_⟩
  have hlt : a < 1224 := by
    apply Nat.lt_of_not_le
    intro hge
    have e : (kdGe 1224).1 a = (20, 0) := by
      rw [kdGe_k, if_neg (by omega), if_neg (by omega), if_neg (by omega)]
    rw [e] at ha
    exact absurd ha (by decide)
  have g3 := g2 a hlt
  unfold kdcA at g3
  rw [Bool.and_eq_true] at g3
  obtain ⟨g4, g5⟩ := g3
  have g4 : G.1 a = (kdGe 1224).1 a := by simpa using g4
  have hk := h2 a (by rw [g4]; exact ha)
  have hV : ∀ j, j < kdnf ((kdGe 1224).1 a) → kdV E G σ a j = kdV E (kdGe 1224) σ a j := by
    intro j hj
    unfold kdV
    rw [g4]
    by_cases hi : ((kdGe 1224).1 a).1 = 13 ∨ ((kdGe 1224).1 a).1 = 14 ∨ ((kdGe 1224).1 a).1 = 15
    · rcases hi with e | e | e <;> rw [e] <;> rfl
    · rw [if_neg hi] at g5
      have g6 := List.all_eq_true.mp g5 j (List.mem_range.mpr hj)
      rw [Bool.or_eq_true] at g6
      rcases g6 with g6 | g6
      · have g6 : kdv ((kdGe 1224).1 a).1 j ≠ 2 := by simpa using g6
        have g7 : kdv ((kdGe 1224).1 a).1 j = 0 ∨ kdv ((kdGe 1224).1 a).1 j = 1 ∨ kdv ((kdGe 1224).1 a).1 j = 2 ∨ 2 < kdv ((kdGe 1224).1 a).1 j := by omega
        by_cases e0 : kdv ((kdGe 1224).1 a).1 j = 0
        · rw [if_pos e0, if_pos e0]
        · rw [if_neg e0, if_neg e0]
          by_cases e1 : kdv ((kdGe 1224).1 a).1 j = 1
          · rw [if_pos e1, if_pos e1]
          · exfalso
            revert g6 e0 e1
            generalize ((kdGe 1224).1 a).1 = k at ha hi ⊢
            unfold kdv
            by_cases hk13 : k < 13
            · rw [if_pos hk13]
              have hall : ∀ k, k < 13 → ∀ x ∈ (kdT.getD k []), x = 0 ∨ x = 2 := by decide
              by_cases hjl : j < (kdT.getD k []).length
              · intro g6 e0 e1
                have := hall k hk13 _ (List.getElem_mem hjl)
                rw [List.getD_eq_getElem?_getD, List.getElem?_eq_getElem hjl] at g6 e0
                simp only [Option.getD_some] at g6 e0
                omega
              · rw [List.getD_eq_getElem?_getD, List.getElem?_eq_none (Nat.le_of_not_lt hjl)]
                simp
            · rw [if_neg hk13]
              split
              · simp
              · split
                · simp
                · split <;> simp
      · have g6 : G.2.1 a j = (kdGe 1224).2.1 a j := by simpa using g6
        rw [g6]
  refine ⟨fun hk13 => ?_, fun hk13 => ?_⟩
  · obtain ⟨r, q1, q2⟩ := hk.1 (by rw [g4]; exact hk13)
    rw [g4] at q1 q2
    exact ⟨r, q1, q2.to (fun j hj => hV j (by unfold kdnf; rw [if_pos hk13, ← kd_vwlen _ hk13 r q1]; exact hj))⟩
  · have q := hk.2 (by rw [g4]; exact hk13)
    rw [g4] at q
    rw [q]
    refine congrArg some ?_
    exact arrV_to fun j hj => hV j (by unfold kdnf; rw [if_neg (by omega)]; exact hj)
theorem kd_known {s : State} {args : Array Value} (hts : ∀ w ∈ kdtb, w.before args s = true) : ∃ f : Nat → ClassId × (Nat → Nat), ∀ (k : Nat) (q : vw_C), vwCl[k]? = some q → u_Kn s q.1 q.2.1 q.2.2 (f k).1 (f k).2 := by
  have h : ∀ k : Nat, ∃ f : ClassId × (Nat → Nat), ∀ q : vw_C, vwCl[k]? = some q → u_Kn s q.1 q.2.1 q.2.2 f.1 f.2 := by
    intro k
    match k with
    | 0 => obtain ⟨c, i, h⟩ := u_known (C := RX0) (T := TX0) (N := 8) (n := 8) hts kd_in_X0 (hts _ w_is_X0); exact ⟨(c, i), fun q hq => by cases hq; exact h⟩
    | 1 => obtain ⟨c, i, h⟩ := u_known (C := RX1) (T := TX1) (N := 3) (n := 3) hts kd_in_X1 (hts _ w_is_X1); exact ⟨(c, i), fun q hq => by cases hq; exact h⟩
    | 2 => obtain ⟨c, i, h⟩ := u_known (C := RX2) (T := TX2) (N := 6) (n := 6) hts kd_in_X2 (hts _ w_is_X2); exact ⟨(c, i), fun q hq => by cases hq; exact h⟩
    | 3 => obtain ⟨c, i, h⟩ := u_known (C := RX3) (T := TX3) (N := 9) (n := 9) hts kd_in_X3 (hts _ w_is_X3); exact ⟨(c, i), fun q hq => by cases hq; exact h⟩
    | 4 => obtain ⟨c, i, h⟩ := u_known (C := RX4) (T := TX4) (N := 5) (n := 5) hts kd_in_X4 (hts _ w_is_X4); exact ⟨(c, i), fun q hq => by cases hq; exact h⟩
    | 5 => obtain ⟨c, i, h⟩ := u_known (C := RX5) (T := TX5) (N := 9) (n := 9) hts kd_in_X5 (hts _ w_is_X5); exact ⟨(c, i), fun q hq => by cases hq; exact h⟩
    | 6 => obtain ⟨c, i, h⟩ := u_known (C := RX6) (T := TX6) (N := 2) (n := 2) hts kd_in_X6 (hts _ w_is_X6); exact ⟨(c, i), fun q hq => by cases hq; exact h⟩
    | 7 => obtain ⟨c, i, h⟩ := u_known (C := RX7) (T := TX7) (N := 2) (n := 2) hts kd_in_X7 (hts _ w_is_X7); exact ⟨(c, i), fun q hq => by cases hq; exact h⟩
    | 8 => obtain ⟨c, i, h⟩ := u_known (C := RX8) (T := TX8) (N := 8) (n := 8) hts kd_in_X8 (hts _ w_is_X8); exact ⟨(c, i), fun q hq => by cases hq; exact h⟩
    | 9 => obtain ⟨c, i, h⟩ := u_known (C := RX9) (T := TX9) (N := 12) (n := 12) hts kd_in_X9 (hts _ w_is_X9); exact ⟨(c, i), fun q hq => by cases hq; exact h⟩
    | 10 => obtain ⟨c, i, h⟩ := u_known (C := RX10) (T := TX10) (N := 4) (n := 4) hts kd_in_X10 (hts _ w_is_X10); exact ⟨(c, i), fun q hq => by cases hq; exact h⟩
    | 11 => obtain ⟨c, i, h⟩ := u_known (C := RX11) (T := TX11) (N := 12) (n := 12) hts kd_in_X11 (hts _ w_is_X11); exact ⟨(c, i), fun q hq => by cases hq; exact h⟩
    | k + 12 => exact ⟨(0, fun _ => 0), fun q hq => by simp [vwCl] at hq⟩
  exact Classical.axiomOfChoice h
theorem kd_Kn {s : State} {args : Array Value} (hts : ∀ w ∈ lw_tbl, w.before args s = true) : ∃ (D : va_G) (cy : Nat → ClassId), va_K D vwCl (kdty cy) s := by
  have ht : ∀ w ∈ kdtb, w.before args s = true := fun w hw => hts w (List.mem_filter.mp hw).1
  obtain ⟨f, hf⟩ := kd_known ht
  obtain ⟨cI, kI, pI, aI1, aI2, aI3⟩ : ∃ (c : ClassId) (k : Class) (p : ClassId), s.vm.findClass ("[" ++ FieldType.int.toString) = some c ∧ s.vm.classes[c]? = some k ∧ k.kind = .array p .int := by
    obtain ⟨c, k, p, h1, h2, h3⟩ := Cond.arrayClass_spec (ht _ w_ac_int); exact ⟨c, k, p, h1, h2, h3⟩
  obtain ⟨cL, kL, pL, aL1, aL2, aL3⟩ : ∃ (c : ClassId) (k : Class) (p : ClassId), s.vm.findClass ("[" ++ FieldType.long.toString) = some c ∧ s.vm.classes[c]? = some k ∧ k.kind = .array p .long := by
    obtain ⟨c, k, p, h1, h2, h3⟩ := Cond.arrayClass_spec (ht _ w_ac_long); exact ⟨c, k, p, h1, h2, h3⟩
  obtain ⟨cZ, kZ, pZ, aZ1, aZ2, aZ3⟩ : ∃ (c : ClassId) (k : Class) (p : ClassId), s.vm.findClass ("[" ++ FieldType.boolean.toString) = some c ∧ s.vm.classes[c]? = some k ∧ k.kind = .array p .boolean := by
    obtain ⟨c, k, p, h1, h2, h3⟩ := Cond.arrayClass_spec (ht _ w_ac_boolean); exact ⟨c, k, p, h1, h2, h3⟩
  obtain ⟨pR, cR, kR, bR1, bR2, bR3, bR4, bR5⟩ := Cond.arrayOver_spec (hts (.arrayOver (.object "KeyDesk$Row")) (List.mem_of_getElem? (i := 55) (by decide +kernel)))
  obtain ⟨pT, cT, kT, bT1, bT2, bT3, bT4, bT5⟩ := Cond.arrayOver_spec (hts (.arrayOver (.object "KeyDesk$Tongue")) (List.mem_of_getElem? (i := 48) (by decide +kernel)))
  obtain ⟨pA, cA, kA, bA1, bA2, bA3, bA4, bA5⟩ := arrayOverA_spec (hts (.arrayOver (.array .int)) (List.mem_of_getElem? (i := 135) (by decide +kernel)))
  obtain ⟨pB, cB, kB, bB1, bB2, bB3, bB4, bB5⟩ := arrayOverA_spec (hts (.arrayOver (.array .long)) (List.mem_of_getElem? (i := 206) (by decide +kernel)))
  refine ⟨(fun k => (f k).1, fun k => (f k).2), fun k => if k = 13 then cI else if k = 14 then cL else if k = 15 then cZ else if k = 16 then cR else if k = 17 then cT else if k = 18 then cA else cB, hf, fun k q hq => ?_⟩
  have arr : ∀ {c : ClassId} {kc : Class} {p : ClassId} {ty : FieldType}, s.vm.classes[c]? = some kc → kc.kind = .array p ty → ArrOfT s c ty := fun {c kc p ty} h1 h2 n z => ⟨fun k h => (by cases h), kc, h1, p, h2⟩
  match k, hq with
  | 0, hq => cases hq; exact ⟨arr aI2 aI3, aI1⟩
  | 1, hq => cases hq; exact ⟨arr aL2 aL3, aL1⟩
  | 2, hq => cases hq; exact ⟨arr aZ2 aZ3, aZ1⟩
  | 3, hq => cases hq; exact ⟨arr bR3 bR4, kR, pR, bR3, bR4, bR1, bR5⟩
  | 4, hq => cases hq; exact ⟨arr bT3 bT4, kT, pT, bT3, bT4, bT1, bT5⟩
  | 5, hq => cases hq; exact ⟨arr bA3 bA4, bA5⟩
  | 6, hq => cases hq; exact ⟨arr bB3 bB4, bB5⟩
  | k + 7, hq => simp [kdty] at hq
theorem kd_W {s : State} {args : Array Value} (hts : ∀ w ∈ lw_tbl, w.before args s = true) : kdW s := by
  intro q hq
  refine va_Nw.of rfl (A := args) (hts _ ?_)
  have hall : ∀ q ∈ kdN, kdnw q ∈ lw_tbl := by decide +kernel
  exact hall q hq
theorem kd_O {s : State} {args : Array Value} (hts : ∀ w ∈ lw_tbl, w.before args s = true) : kdO s := by
  have ht : ∀ w ∈ kdtb, w.before args s = true := fun w hw => hts w (List.mem_filter.mp hw).1
  exact ⟨va_AO.of (hts (.arrayOver (.object "KeyDesk$Row")) (List.mem_of_getElem? (i := 55) (by decide +kernel))), va_AO.of (hts (.arrayOver (.object "KeyDesk$Tongue")) (List.mem_of_getElem? (i := 48) (by decide +kernel))), hts (.arrayOver (.array .int)) (List.mem_of_getElem? (i := 135) (by decide +kernel)), hts (.arrayOver (.array .long)) (List.mem_of_getElem? (i := 206) (by decide +kernel))⟩
theorem kdrun_and {P Q : kdS → kdM → Bool} (h : kdrun P = true) (k : kdrun Q = true) : kdrun (fun G σ => P G σ && Q G σ) = true := by
  unfold kdrun at h k ⊢
  revert h k
  generalize L_pre (kdGz, kdMz, 600000, 7302250) = r
  intro h k
  match r, h, k with
  | some ((x, m), (G1, σ1, cc, cs)), h, k =>
    simp only [Bool.and_eq_true] at h k ⊢
    exact ⟨h.1, h.2, k.2⟩
theorem kd_ran : ∃ (G1 : kdS) (σ1 : kdM) (cc cs : Nat), L_pre (kdGz, kdMz, 600000, 7302250) = some ((0, 612), (G1, σ1, cc, cs)) ∧ G1.2.2 = 1224 ∧ 500000 ≤ cc ∧ 7000000 ≤ cs ∧ (∀ a, a < 1224 → kdcA G1 a = true) ∧ kdP0 0 σ1 = true ∧ kdP0 612 σ1 = true := by
  have h := kdrun_and (kdrun_and (kdrun_and (kdrun_and kdrun_0 kdrun_1) kdrun_2) kdrun_3) kdrun_4
  unfold kdrun at h
  revert h
  generalize L_pre (kdGz, kdMz, 600000, 7302250) = r
  intro h
  match r, h with
  | some ((x, m), (G1, σ1, cc, cs)), h =>
    simp only [Bool.and_eq_true, beq_iff_eq, decide_eq_true_eq] at h
    obtain ⟨⟨⟨⟨⟨rfl, rfl⟩, h3⟩, h4⟩, h5⟩, ⟨⟨⟨⟨k0, k1⟩, k2⟩, k3⟩, k4, k5⟩⟩ := h
    refine ⟨G1, σ1, cc, cs, rfl, h3, h4, h5, fun a ha => ?_, k4, k5⟩
    unfold kdcR at k0 k1 k2 k3
    rw [List.all_eq_true] at k0 k1 k2 k3
    by_cases c0 : a < 320
    · have q := k0 a (List.mem_range.2 (by omega))
      rw [Nat.zero_add] at q; exact q
    by_cases c1 : a < 612
    · have q := k1 (a - 320) (List.mem_range.2 (by omega))
      rw [show 320 + (a - 320) = a by omega] at q; exact q
    by_cases c2 : a < 920
    · have q := k2 (a - 612) (List.mem_range.2 (by omega))
      rw [show 612 + (a - 612) = a by omega] at q; exact q
    · have q := k3 (a - 920) (List.mem_range.2 (by omega))
      rw [show 920 + (a - 920) = a by omega] at q; exact q
/-! the start's numbers -/
def kzof (σ : kdM) : kzM := (fun a j => (σ.1 a j.toNat).toInt, fun a j => (σ.2 a j.toNat).toInt)
theorem kzof_cv (σ : kdM) : kzcv (kzof σ) = σ := by
  unfold kzcv kzof
  refine Prod.ext (funext fun a => funext fun j => ?_) (funext fun a => funext fun j => ?_)
  · exact Int32.ofInt_toInt _
  · exact Int64.ofInt_toInt _
theorem kzof_O (σ : kdM) : kzO (kzof σ) := ⟨fun a j => kzI_of _, fun a j => kzL_of _⟩
theorem kdP0_on {b : Nat} {σ : kdM} (h : kdP0 b σ = true) : On (V b (kzof σ)) 0 900 := by
  unfold kdP0 at h
  simp only [List.all_cons, List.all_nil, Bool.and_true, Bool.and_eq_true, beq_iff_eq] at h
  obtain ⟨h1, h2, h3, h4, h5, h6, h7, h8, h9, h10, h11, h12, h13, h14, h15, h16, h17, h18, h19⟩ := h
  have e : ∀ (a j : Nat) (v : Int32), σ.1 (b + a) j = v → (V b (kzof σ)).1 a (j : Int) = v.toInt := fun a j v q => by
    show (σ.1 (b + a) ((j : Int)).toNat).toInt = v.toInt
    rw [Int.toNat_natCast, q]
  have e1 : (V b (kzof σ)).1 1 1 = 0 := e 1 1 0 h1
  have e2 : (V b (kzof σ)).1 337 1 = 0 := e 337 1 0 h2
  have e3 : (V b (kzof σ)).1 339 1 = 0 := e 339 1 0 h3
  have e4 : (V b (kzof σ)).1 341 1 = 0 := e 341 1 0 h4
  have e5 : (V b (kzof σ)).1 581 1 = 0 := e 581 1 0 h5
  have e6 : (V b (kzof σ)).1 583 1 = 0 := e 583 1 0 h6
  have e7 : (V b (kzof σ)).1 585 1 = 0 := e 585 1 0 h7
  have e8 : (V b (kzof σ)).1 580 4 = 900 := e 580 4 900 h8
  have e9 : (V b (kzof σ)).1 580 5 = 1 := e 580 5 1 h9
  have f0 : (V b (kzof σ)).1 587 0 = 100 := e 587 0 100 h10
  have f1 : (V b (kzof σ)).1 587 1 = 100 := e 587 1 100 h11
  have f2 : (V b (kzof σ)).1 587 2 = 100 := e 587 2 100 h12
  have f3 : (V b (kzof σ)).1 587 3 = 100 := e 587 3 100 h13
  have g0 : (V b (kzof σ)).1 465 0 = 3 := e 465 0 3 h14
  have g1 : (V b (kzof σ)).1 465 1 = 3 := e 465 1 3 h15
  have g2 : (V b (kzof σ)).1 465 2 = 4 := e 465 2 4 h16
  have g3 : (V b (kzof σ)).1 465 3 = 3 := e 465 3 3 h17
  have g4 : (V b (kzof σ)).1 465 4 = 6 := e 465 4 6 h18
  have g5 : (V b (kzof σ)).1 465 5 = 5 := e 465 5 5 h19
  clear e h1 h2 h3 h4 h5 h6 h7 h8 h9 h10 h11 h12 h13 h14 h15 h16 h17 h18 h19
  generalize V b (kzof σ) = τ at *
  have fb : ∀ h : Int, 0 ≤ h → h < 4 → τ.1 587 h = 100 := fun h h0 h1 => by
    have : h = 0 ∨ h = 1 ∨ h = 2 ∨ h = 3 := by omega
    rcases this with rfl | rfl | rfl | rfl <;> assumption
  refine ⟨Inv.mk5 ⟨by omega, trivial, fun j j0 j1 => by omega⟩ ⟨by omega, by omega, by omega, trivial, fun w w0 w1 => by omega⟩ (fun i i0 i1 => ⟨?_, trivial⟩) ⟨by omega, by omega, by omega, trivial, fun k k0 k1 => by omega⟩ ⟨⟨by omega, trivial⟩, ⟨by omega, trivial⟩, fun h h0 h1 => ⟨by rw [fb h h0 h1]; omega, trivial⟩⟩, e1, e2, e8, e9, fb, e5, fun k k0 k1 => by omega⟩
  have : i = 0 ∨ i = 1 ∨ i = 2 ∨ i = 3 ∨ i = 4 ∨ i = 5 := by omega
  rcases this with rfl | rfl | rfl | rfl | rfl | rfl <;> omega
/-! a row of zeros -/
def zz (t : Nat) (τ : kzM) : kzM := (fun a j => if a = t then 0 else τ.1 a j, fun a j => if a = t then 0 else τ.2 a j)
theorem zz_cv (t : Nat) (τ : kzM) : kzcv (zz t τ) = gz t (kzcv τ) := by
  refine Prod.ext (funext fun a => funext fun j => ?_) (funext fun a => funext fun j => ?_)
  · show Int32.ofInt (if a = t then 0 else τ.1 a j) = if a = t then 0 else Int32.ofInt (τ.1 a j)
    split <;> rfl
  · show Int64.ofInt (if a = t then 0 else τ.2 a j) = if a = t then 0 else Int64.ofInt (τ.2 a j)
    split <;> rfl
theorem zz_O {t : Nat} {τ : kzM} (h : kzO τ) : kzO (zz t τ) := by
  refine ⟨fun a j => ?_, fun a j => ?_⟩
  · show kzI (if a = t then 0 else τ.1 a j)
    split
    · unfold kzI; omega
    · exact h.1 a j
  · show kzL (if a = t then 0 else τ.2 a j)
    split
    · unfold kzL; omega
    · exact h.2 a j
theorem c_zz {α' α : Type} {c : α' → α} {ok : α' → Prop} {t : Nat} {f' : kzM → Option (α' × kzM)} {f : kdM → Option (α × kdM)} (h : CR c ok f' f) : CR c ok (fun τ => f' (zz t τ)) (fun σ => f (gz t σ)) := fun τ hτ r τ' hr => by
  have q := h (zz t τ) (zz_O hτ) r τ' hr
  rw [zz_cv] at q
  exact q
theorem Wz_zz {α : Type} {t : Nat} {f : kzM → Option (α × kzM)} {τ : kzM} {Q : α → kzM → Prop} : Wz (fun τ => f (zz t τ)) τ Q ↔ Wz f (zz t τ) Q := by rw [Wz_def, Wz_def]
theorem zz_ne {t a : Nat} {τ : kzM} (h : a ≠ t) : (zz t τ).1 a = τ.1 a := funext fun j => if_neg h
theorem zz_0 {t : Nat} {τ : kzM} (j : Int) : (zz t τ).1 t j = 0 := if_pos rfl
theorem Ob.zr {τ : kzM} {pd n f x : Int} {B : Int → Int} {m : Int} {fh fw fd : Int → Int} {b t : Nat} (hb : b ≤ 612) (ht : 1224 ≤ t) (q : Ob (V b τ) pd n f x B m fh fw fd) : Ob (V b (zz t τ)) pd n f x B m fh fw fd :=
  Ob.cg (τ := V b τ) (fun c i z => by
    have := Rv_lt z
    show (zz t τ).1 (b + c) i = τ.1 (b + c) i
    rw [zz_ne (by omega)]) q
theorem Po.zr {τ : kzM} {n f fg m other : Int} {H W D : Int → Int} {t : Nat} (ht : 1224 ≤ t) (q : Po τ n f fg m other H W D) : Po (zz t τ) n f fg m other H W D := by
  obtain ⟨ph, pw, pd, q1, q2⟩ := q
  exact ⟨ph, pw, pd, q1.zr (by decide) ht, q2⟩
/-! the law's pieces, one behind another -/
def K3 (xs : Nat → Int32) (N : Nat) (l1 l2 : Nat) (l3 l5 l10 l11 l12 : Int32) (l13 : Nat) (l17 : Int32) : kdM → Option (Unit × kdM) := fun σ => L_law_s4 (kdGe 1230) xs N l1 l2 l3 l5 l10 l11 l12 l13 l17 1229 (gz 1229 σ)
def K2 (xs : Nat → Int32) (N : Nat) (l1 l2 : Nat) (l3 l4 l5 : Int32) (l6 l7 l8 : Nat) (l10 l11 l12 : Int32) : kdM → Option (Unit × kdM) := fun σ => L_law_s3 (kdGe 1229) xs N (K3 xs N) l1 l2 l3 l4 l5 l6 l7 l8 l10 l11 l12 1228 (gz 1228 σ)
def K1 (xs : Nat → Int32) (N : Nat) (l1 l2 : Nat) (l3 l4 l5 : Int32) : kdM → Option (Unit × kdM) := fun σ => L_law_s2 (kdGe 1228) xs N (K2 xs N) l1 l2 l3 l4 l5 1224 1225 1226 1227 (gz 1227 (gz 1226 (gz 1225 (gz 1224 σ))))
def ZK3 (xs : Nat → Int32) (N : Nat) (l1 l2 : Nat) (l3 l5 l10 l11 l12 : Int) (l13 : Nat) (l17 : Int) : kzM → Option (Unit × kzM) := fun τ => ZL_law_s4 (kdGe 1230) xs N l1 l2 l3 l5 l10 l11 l12 l13 l17 1229 (zz 1229 τ)
def ZK2 (xs : Nat → Int32) (N : Nat) (l1 l2 : Nat) (l3 l4 l5 : Int) (l6 l7 l8 : Nat) (l10 l11 l12 : Int) : kzM → Option (Unit × kzM) := fun τ => ZL_law_s3 (kdGe 1229) xs N (ZK3 xs N) l1 l2 l3 l4 l5 l6 l7 l8 l10 l11 l12 1228 (zz 1228 τ)
def ZK1 (xs : Nat → Int32) (N : Nat) (l1 l2 : Nat) (l3 l4 l5 : Int) : kzM → Option (Unit × kzM) := fun τ => ZL_law_s2 (kdGe 1228) xs N (ZK2 xs N) l1 l2 l3 l4 l5 1224 1225 1226 1227 (zz 1227 (zz 1226 (zz 1225 (zz 1224 τ))))
section KCO
variable {xs : Nat → Int32} {N : Nat}
theorem qK3 (hN : N ≤ 3072) : ∀ (a0 a1 : Nat) (a2 : Int) (_ : kzI a2) (a3 : Int) (_ : kzI a3) (a4 : Int) (_ : kzI a4) (a5 : Int) (_ : kzI a5) (a6 : Int) (_ : kzI a6) (a7 : Nat) (a8 : Int) (_ : kzI a8), CRu (ZK3 xs N a0 a1 a2 a3 a4 a5 a6 a7 a8) (K3 xs N a0 a1 (Int32.ofInt a2) (Int32.ofInt a3) (Int32.ofInt a4) (Int32.ofInt a5) (Int32.ofInt a6) a7 (Int32.ofInt a8)) := fun a0 a1 a2 h2 a3 h3 a4 h4 a5 h5 a6 h6 a7 a8 h8 => c_zz (qL_law_s4 (g_ok 1230) hN a0 a1 h2 h3 h4 h5 h6 a7 h8 1229)
theorem qK2 (hN : N ≤ 3072) : ∀ (a0 a1 : Nat) (a2 : Int) (_ : kzI a2) (a3 : Int) (_ : kzI a3) (a4 : Int) (_ : kzI a4) (a5 a6 a7 : Nat) (a8 : Int) (_ : kzI a8) (a9 : Int) (_ : kzI a9) (a10 : Int) (_ : kzI a10), CRu (ZK2 xs N a0 a1 a2 a3 a4 a5 a6 a7 a8 a9 a10) (K2 xs N a0 a1 (Int32.ofInt a2) (Int32.ofInt a3) (Int32.ofInt a4) a5 a6 a7 (Int32.ofInt a8) (Int32.ofInt a9) (Int32.ofInt a10)) := fun a0 a1 a2 h2 a3 h3 a4 h4 a5 a6 a7 a8 h8 a9 h9 a10 h10 => c_zz (qL_law_s3 (g_ok 1229) hN (qK3 hN) a0 a1 h2 h3 h4 a5 a6 a7 h8 h9 h10 1228)
theorem qK1 (hN : N ≤ 3072) : ∀ (a0 a1 : Nat) (a2 : Int) (_ : kzI a2) (a3 : Int) (_ : kzI a3) (a4 : Int) (_ : kzI a4), CRu (ZK1 xs N a0 a1 a2 a3 a4) (K1 xs N a0 a1 (Int32.ofInt a2) (Int32.ofInt a3) (Int32.ofInt a4)) := fun a0 a1 a2 h2 a3 h3 a4 h4 => c_zz (f' := fun τ => ZL_law_s2 (kdGe 1228) xs N (ZK2 xs N) a0 a1 a2 a3 a4 1224 1225 1226 1227 (zz 1227 (zz 1226 (zz 1225 τ)))) (f := fun σ => L_law_s2 (kdGe 1228) xs N (K2 xs N) a0 a1 (Int32.ofInt a2) (Int32.ofInt a3) (Int32.ofInt a4) 1224 1225 1226 1227 (gz 1227 (gz 1226 (gz 1225 σ)))) (c_zz (f' := fun τ => ZL_law_s2 (kdGe 1228) xs N (ZK2 xs N) a0 a1 a2 a3 a4 1224 1225 1226 1227 (zz 1227 (zz 1226 τ))) (f := fun σ => L_law_s2 (kdGe 1228) xs N (K2 xs N) a0 a1 (Int32.ofInt a2) (Int32.ofInt a3) (Int32.ofInt a4) 1224 1225 1226 1227 (gz 1227 (gz 1226 σ))) (c_zz (f' := fun τ => ZL_law_s2 (kdGe 1228) xs N (ZK2 xs N) a0 a1 a2 a3 a4 1224 1225 1226 1227 (zz 1227 τ)) (f := fun σ => L_law_s2 (kdGe 1228) xs N (K2 xs N) a0 a1 (Int32.ofInt a2) (Int32.ofInt a3) (Int32.ofInt a4) 1224 1225 1226 1227 (gz 1227 σ)) (c_zz (qL_law_s2 (g_ok 1228) hN (qK2 hN) a0 a1 h2 h3 h4 1224 1225 1226 1227))))
/-- every script's run comes to its end -/
theorem law_all (hN : N ≤ 260) {σ : kdM} (h0 : kdP0 0 σ = true) (h1 : kdP0 612 σ = true) : ∃ σ' : kdM, L_law_s1 (kdGe 1224) xs N (K1 xs N) 0 612 σ = some ((), σ') := by
  have w : Wz (ZL_law_s1 (kdGe 1224) xs N (ZK1 xs N) 0 612) (kzof σ) (fun _ _ => True) := by
    refine l_s1 hN (kdP0_on h0) (kdP0_on h1) fun n f many τ1 n2 n6 f0 f1 m0 m1 ho hp => ?_
    unfold ZK1
    rw [Wz_zz (f := fun τ => ZL_law_s2 (kdGe 1228) xs N (ZK2 xs N) 0 612 n f many 1224 1225 1226 1227 (zz 1227 (zz 1226 (zz 1225 τ)))), Wz_zz (f := fun τ => ZL_law_s2 (kdGe 1228) xs N (ZK2 xs N) 0 612 n f many 1224 1225 1226 1227 (zz 1227 (zz 1226 τ))), Wz_zz (f := fun τ => ZL_law_s2 (kdGe 1228) xs N (ZK2 xs N) 0 612 n f many 1224 1225 1226 1227 (zz 1227 τ)), Wz_zz]
    refine l_s2 hN (Nat.le_refl _) n2 n6 m0 m1 ((((ho.zr (by decide) (by decide)).zr (by decide) (by decide)).zr (by decide) (by decide)).zr (by decide) (by decide)) ((((hp.zr (by decide) (by decide)).zr (by decide) (by decide)).zr (by decide) (by decide)).zr (by decide) (by decide)) (fun j => zz_0 j) fun fg other on τ2 H W D NW g0 g1 o0 o1 hs => ?_
    have hot := hs.2.2.2.1
    unfold ZK2
    rw [Wz_zz]
    refine l_s3 hN (Nat.le_refl _) n2 n6 f0 f1 o0 o1 m0 m1 (H := H) (W := W) (D := D) (NW := NW) ?_ fun x τ3 x0 x1 h3 => ?_
    · obtain ⟨⟨r0, r1, r2, r3⟩, q1, ⟨ph, pw, pd, q2, q3⟩, q4, q5, q6⟩ := hs
      exact ⟨⟨by rw [zz_ne (by decide)]; exact r0, by rw [zz_ne (by decide)]; exact r1, by rw [zz_ne (by decide)]; exact r2, by rw [zz_ne (by decide)]; exact r3⟩, q1.zr (by decide) (by decide), ⟨ph, pw, pd, q2.zr (by decide) (by decide), q3⟩, q4, q5, q6⟩
    · unfold ZK3
      rw [Wz_zz]
      refine l_s4 hN (Nat.le_refl _) (D := D) n2 n6 f0 f1 g0 g1 o0 o1 m0 m1 hot (fun _ => trivial) ?_
      obtain ⟨⟨pd, q1⟩, q2, q3⟩ := h3
      exact ⟨⟨pd, q1.zr (by decide) (by decide)⟩, q2.zr (by decide), fun a b a0 a1 b0 b1 => by rw [zz_ne (by decide)]; exact q3 a b a0 a1 b0 b1⟩
  obtain ⟨r, τ', e, -⟩ := Wz_some w
  have q := qL_law_s1 (g_ok 1224) (xs := xs) (show N ≤ 3072 by omega) (qK1 (show N ≤ 3072 by omega)) 0 612 (kzof σ) (kzof_O σ) r τ' e
  rw [kzof_cv] at q
  exact ⟨_, q.1⟩
end KCO
