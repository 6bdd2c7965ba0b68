/-! what constructors do: they make cells, out of a purse of cells and slots -/
abbrev kd1 : Type := kdS × kdM × Nat × Nat
def kdAR (A : kdA) : Room := A.2.2.1
def ga (G : kdS) (q : Nat × Nat) : kdS := ((fun a => if a = G.2.2 then q else G.1 a), (fun a j => if a = G.2.2 then none else G.2.1 a j), G.2.2 + 1)
def gz (t : Nat) (σ : kdM) : kdM := ((fun a j => if a = t then 0 else σ.1 a j), (fun a j => if a = t then 0 else σ.2 a j))
section K1
variable {α β : Type}
def rt1 (x : α) : kd1 → Option (α × kd1) := fun S => some (x, S)
def cnd1 (c : Prop) [Decidable c] (k1 k2 : kd1 → Option β) : kd1 → Option β := fun S => if c then k1 S else k2 S
def lt1 (x : Int32) (f : Int32 → kd1 → Option β) : kd1 → Option β := f x
def n1 (ci n : Nat) (f : Nat → kd1 → Option β) : kd1 → Option β := fun S => if 1 ≤ S.2.2.1 ∧ n ≤ S.2.2.2 then f S.1.2.2 (ga S.1 (ci, 0), gz S.1.2.2 S.2.1, S.2.2.1 - 1, S.2.2.2 - n) else none
def n1A (k : Nat) (len : Int32) (f : Nat → kd1 → Option β) : kd1 → Option β := fun S => if 1 ≤ S.2.2.1 ∧ 0 ≤ len.toInt ∧ len.toInt ≤ 100000 ∧ len.toInt.toNat ≤ S.2.2.2 then f S.1.2.2 (ga S.1 (k, len.toInt.toNat), gz S.1.2.2 S.2.1, S.2.2.1 - 1, S.2.2.2 - len.toInt.toNat) else none
def g1R (ci k a : Nat) (f : Nat → kd1 → Option β) : kd1 → Option β := fun S => if (S.1.1 a).1 = ci then (match S.1.2.1 a k with
  | some b => f b S
  | none => none) else none
def g1I (ci k a : Nat) (f : Int32 → kd1 → Option β) : kd1 → Option β := fun S => if (S.1.1 a).1 = ci then f (S.2.1.1 a k) S else none
def s1R (ci k a b : Nat) (f : kd1 → Option β) : kd1 → Option β := fun S => if (S.1.1 a).1 = ci then f ((S.1.1, u2 S.1.2.1 a k (some b), S.1.2.2), S.2) else none
def s1I (ci k a : Nat) (v : Int32) (f : kd1 → Option β) : kd1 → Option β := fun S => if (S.1.1 a).1 = ci then f (S.1, (u2 S.2.1.1 a k v, S.2.1.2), S.2.2) else none
def t1I (a : Nat) (i v : Int32) (f : kd1 → Option β) : kd1 → Option β := fun S => if (S.1.1 a).1 = 13 ∧ 0 ≤ i.toInt ∧ i.toInt < ((S.1.1 a).2 : Int) then f (S.1, (u2 S.2.1.1 a (ix i) v, S.2.1.2), S.2.2) else none
def t1R (t ci a : Nat) (i : Int32) (b : Nat) (f : kd1 → Option β) : kd1 → Option β := fun S => if (S.1.1 a).1 = t ∧ (S.1.1 b).1 = ci ∧ 0 ≤ i.toInt ∧ i.toInt < ((S.1.1 a).2 : Int) then f ((S.1.1, u2 S.1.2.1 a (ix i) (some b), S.1.2.2), S.2) else none
def sub1 (mc ms : Nat) (g : kd1 → Option (Unit × kd1)) (f : kd1 → Option β) : kd1 → Option β := fun S => if mc ≤ S.2.2.1 ∧ ms ≤ S.2.2.2 then (match g (S.1, S.2.1, mc, ms) with
  | some r => f (r.2.1, r.2.2.1, S.2.2.1 - mc, S.2.2.2 - ms)
  | none => none) else none
def kcv1 (ci b : Nat) (g : kdS → kdM → Option (α × kdM)) (f : α → kd1 → Option β) : kd1 → Option β := fun S => if (S.1.1 b).1 = ci then (match g S.1 S.2.1 with
  | some r => f r.1 (S.1, r.2, S.2.2)
  | none => none) else none
/-- new T[n][m]: the outer cell, then the inner ones -/
def ga2 (G : kdS) (k n k2 m : Nat) : kdS := ((fun a => if a = G.2.2 then (k, n) else if G.2.2 < a ∧ a ≤ G.2.2 + n then (k2, m) else G.1 a), (fun a j => if a = G.2.2 then (if j < n then some (G.2.2 + 1 + j) else none) else if G.2.2 < a ∧ a ≤ G.2.2 + n then none else G.2.1 a j), G.2.2 + 1 + n)
def gz2 (t n : Nat) (σ : kdM) : kdM := ((fun a j => if t ≤ a ∧ a ≤ t + n then 0 else σ.1 a j), (fun a j => if t ≤ a ∧ a ≤ t + n then 0 else σ.2 a j))
def n1M (k k2 : Nat) (n m : Int32) (f : Nat → kd1 → Option β) : kd1 → Option β := fun S => if 0 ≤ n.toInt ∧ n.toInt ≤ 1000 ∧ 0 ≤ m.toInt ∧ m.toInt ≤ 1000 ∧ 1 + n.toInt.toNat ≤ S.2.2.1 ∧ n.toInt.toNat + n.toInt.toNat * m.toInt.toNat ≤ S.2.2.2 then f S.1.2.2 (ga2 S.1 k n.toInt.toNat k2 m.toInt.toNat, gz2 S.1.2.2 n.toInt.toNat S.2.1, S.2.2.1 - (1 + n.toInt.toNat), S.2.2.2 - (n.toInt.toNat + n.toInt.toNat * m.toInt.toNat)) else none
end K1
/-- what the tables say of arrays of references -/
def kdO (U : State) : Prop := va_AO "KeyDesk$Row" U ∧ va_AO "KeyDesk$Tongue" U ∧ (Cond.arrayOver (.array .int)).before #[] U = true ∧ (Cond.arrayOver (.array .long)).before #[] U = true
theorem kd_aoA {t : FieldType} {u U : State} (hvm : u.vm.Alike U.vm) (h : (Cond.arrayOver (.array t)).before #[] u = true) : (Cond.arrayOver (.array t)).before #[] U = true := by
  obtain ⟨comp, c, k, h1, h2, h3, h4, h5⟩ := arrayOverA_spec h
  obtain ⟨k', hk', he⟩ := hvm.2.2 _ _ h3
  have e1 := va_idx_bare (vm := U.vm) (comp := comp)
  have e2 := va_idx_bare (vm := u.vm) (comp := comp)
  first | rw [hvm.bare_eq] at e2 | rw [← hvm.bare_eq] at e2
  have hi : (U.vm.classes.findIdx? fun (x : Class) => match x.kind with | .array component _ => component == comp | _ => false) = some c := e1.symm.trans (e2.trans h2)
  have hkind : k'.kind = .array comp (.array t) := by rw [he]; exact h4
  have f1 : U.vm.findClass (FieldType.array t).toString = some comp := by rw [hvm.findClass]; exact h1
  have f2 : U.vm.findClass ("[" ++ (FieldType.array t).toString) = some c := by rw [hvm.findClass]; exact h5
  unfold Cond.before Cond.holds
  simp only [Cond.value]
  rw [f1, Option.bind_some]
  refine (congrArg (fun o : Option Nat => (o.bind (fun c => (U.vm.classes[c]?).map fun (k : Class) => match k.kind with | .array _ ty => decide (ty = FieldType.array t) && decide (U.vm.findClass ("[" ++ (FieldType.array t).toString) = some c) | _ => false) == some true)) hi).trans ?_
  simp [hk', hkind, f2]
theorem kdO.moved {u U : State} (hvm : u.vm.Alike U.vm) (h : kdO u) : kdO U := ⟨h.1.moved hvm, h.2.1.moved hvm, kd_aoA hvm h.2.2.1, kd_aoA hvm h.2.2.2⟩
def kdY (A : kdA) : Prop := match A with
  | (_, _, _, s, _, _, _, meth, _) => kdO s ∧ meth.name = "<init>"
def kd1E (E : kdE) (z : Option Value × kdS × kdM) (A : kdA) : State → Prop := match A with
  | (_, _, R, s, _, args, below, _, _) => MQ below (kdQ E z.2.1 (z.1, z.2.2)) args s R.cells R.slots (fun q => E.2.2.2 ≤ q)
def kdr1 (h mc ms : Nat) : Room := { frames := h, cells := mc, slots := ms, locals := 40 * h }
def Con1 (E : kdE) (y : MethodName) (bytes : ByteArray) (maxL : Nat) (ret : Option FieldType) (h mc ms : Nat) (av : List Value) (G : kdS) (σ : kdM) (z : Option Value × kdS × kdM) : Prop :=
  Met E.1 y (Cond.code y bytes maxL ret :: kdtb) (kdr1 h mc ms) (va_Pc av (fun U => kdR E G σ U.heap ∧ va_K E.2.1 vwCl (kdty E.2.2.1) U ∧ kdW U ∧ kdO U)) (kdQ E z.2.1 (z.1, z.2.2)) mc ms (fun q => E.2.2.2 ≤ q)
theorem kd1Pre {E : kdE} {G : kdS} {av : List Value} {σ : kdM} {s : State} {H : Heap} (hR : kdR E G σ H) (hK : va_K E.2.1 vwCl (kdty E.2.2.1) s) (hN : kdW s) (hO : kdO s) : PreS s H (va_Pc av (fun U => kdR E G σ U.heap ∧ va_K E.2.1 vwCl (kdty E.2.2.1) U ∧ kdW U ∧ kdO U)) av :=
  ⟨fun a U g mk q => ⟨q.1, q.2.1, va_K.moved (u := U) (U := U.calling g mk a) (Vm.Alike.refl U.vm) q.2.2.1, kdW.same (u := U) (U := U.calling g mk a) rfl q.2.2.2.1, kdO.moved (u := U) (U := U.calling g mk a) (Vm.Alike.refl U.vm) q.2.2.2.2⟩, fun U hU hW => ⟨rfl, by rw [hU]; exact hR, va_K.moved hW.alike hK, kdW.warm hW hN, kdO.moved hW.alike hO⟩⟩
/-- an address that a cell stands at lies below the end -/
theorem kdC.lt {E : kdE} {G : kdS} {σ : kdM} {a : Nat} {H : Heap} (h : kdC E G σ a H) : E.2.2.2 + a < H.size := by
  by_cases hk : (G.1 a).1 < 13
  · obtain ⟨r, -, cell, q, -⟩ := h.1 hk
    exact (Array.getElem?_eq_some_iff.mp q).1
  · exact (Array.getElem?_eq_some_iff.mp (h.2 (by omega))).1
theorem kdC.keptG {E : kdE} {G G' : kdS} {σ σ' : kdM} {a : Nat} {H H' : Heap} (h : kdC E G σ a H) (hq : H'[E.2.2.2 + a]? = H[E.2.2.2 + a]?) (h0 : G'.1 a = G.1 a) (hr : G'.2.1 a = G.2.1 a) (h1 : σ'.1 a = σ.1 a) (h2 : σ'.2 a = σ.2 a) : kdC E G' σ' a H' := by
  have e : kdV E G' σ' a = kdV E G σ a := by funext j; simp only [kdV, h0, hr, h1, h2]
  refine ⟨fun hk => ?_, fun hk => ?_⟩
  · rw [h0] at hk
    obtain ⟨r, q1, q2⟩ := h.1 hk
    exact ⟨r, by rw [h0]; exact q1, by rw [e, h0]; exact q2.kept hq⟩
  · rw [h0] at hk
    rw [hq, e, h0]; exact h.2 hk
/-- a cell more -/
theorem kdR.push {E : kdE} {G : kdS} {σ : kdM} {H H' : Heap} {q : Nat × Nat} (h : kdR E G σ H) (hz : H'.size = H.size + 1) (ho : ∀ x : Nat, x < H.size → H'[x]? = H[x]?) (hc : kdC E (ga G q) (gz G.2.2 σ) G.2.2 H') : kdR E (ga G q) (gz G.2.2 σ) H' := by
  refine ⟨by rw [hz, h.1]; rfl, fun a ha => ?_⟩
  by_cases e : a = G.2.2
  · rw [e]; exact hc
  · have ha' : (G.1 a).1 < 20 := by simpa [ga, e] using ha
    have hk := h.2 a ha'
    exact hk.keptG (ho _ hk.lt) (by simp [ga, e]) (by funext j; simp [ga, e]) (by funext j; simp [gz, e]) (by funext j; simp [gz, e])
theorem va_S_push {A : Nat → Prop} {H0 H H' : Heap} {locs : List Loc} (hS : va_S A H0 H locs) (hz : H.size ≤ H'.size) (ho : ∀ x : Nat, x < H.size → H'[x]? = H[x]?) : va_S A H0 H' locs :=
  ⟨Nat.le_trans hS.1 hz, fun q h1 h2 => (ho q (Nat.lt_of_lt_of_le h1 hS.1)).trans (hS.2.1 q h1 h2), hS.2.2⟩
section KDR1
variable {E : kdE} {A : kdA} {G : kdS} {σ : kdM} {nL h c0 s0 cc cs pc : Nat} {Q : State → Prop} {L : List (Nat × Value)} {st : List Value} {bc : ByteArray} {own : String} {ret : Option FieldType}
theorem r1_if {q : Prop} [Decidable q] {β : Type} {f1 f2 : kd1 → Option β} {w : β} {S : kd1} {X : Prop} (hh : cnd1 q f1 f2 S = some w) (k1 : q → f1 S = some w → X) (k2 : ¬ q → f2 S = some w → X) : X := by
  by_cases hq : q
  · exact k1 hq (by simpa only [cnd1, if_pos hq] using hh)
  · exact k2 hq (by simpa only [cnd1, if_neg hq] using hh)
/-- what a class's table gives a new object: each field's first value -/
def kdD (ci : Nat) : Prop := ∃ (C : String) (T : u_T) (N : Nat) (ty : Nat → FieldType), vwCl[ci]? = some (C, T, N) ∧ (∀ w ∈ u_ws C T N, w ∈ kdtb) ∧ (∀ k, k < N → parseFieldDescriptor (T k).2.2.1 = some (ty k)) ∧ (∀ k, k < N → defaultValue (ty k) = if kdv ci k = 0 then .int 0 else if kdv ci k = 1 then .long 0 else .null)
theorem r1_new {ci n idx : Nat} {C : String} {β : Type} {f : Nat → kd1 → Option β} {w : β} (hX : kdX E A bc nL own ret h) (hY : kdY A) (hd : decode bc pc = .ok (.new idx, 3)) (hD : kdD ci) (hcC : ∃ T, vwCl[ci]? = some (C, T, n)) (hcl : Cond.classLink own idx C ∈ kdtb) (hin : Cond.instantiable C n ∈ kdtb) (hini : Cond.initialized C ∈ kdtb) (hc : c0 + cc = (kdAR A).cells) (hs : s0 + cs = (kdAR A).slots) (hh : n1 ci n f (G, σ, cc, cs) = some w)
    (kk : ∀ (t : Nat) (G' : kdS) (σ' : kdM) (cc' cs' c0' s0' : Nat), c0' + cc' = (kdAR A).cells → s0' + cs' = (kdAR A).slots → f t (G', σ', cc', cs') = some w → SWg E A nL Q (kdR E G' σ') c0' s0' (pc + 3) L (kr E t :: st)) : SWg E A nL Q (kdR E G σ) c0 s0 pc L st := by
  unfold n1 at hh
  split at hh
  case isFalse => cases hh
  case isTrue hq =>
    obtain ⟨q1, q2⟩ := hq
    have q1 : 1 ≤ cc := q1
    have q2 : n ≤ cs := q2
    have kk := kk _ _ _ _ _ (c0 + 1) (s0 + n) (by show c0 + 1 + (cc - 1) = _; omega) (by show s0 + n + (cs - n) = _; omega) hh
    obtain ⟨p, e, R, s, m, args, below, meth, c⟩ := A
    intro H locs ls hl hR hS
    obtain ⟨x1, x2, x3, x4, x5, x6, -⟩ := hX
    obtain ⟨T', hcC⟩ := hcC
    obtain ⟨C', T, N, ty, hcv, hws, hty, hdf⟩ := hD
    cases hcv.symm.trans hcC
    have hKn := x6.1 ci _ hcv
    have hci13 : ci < 13 := Nat.lt_of_lt_of_le (List.getElem?_eq_some_iff.mp hcv).1 (Nat.le_of_ble_eq_true rfl)
    have hc' : c0 + cc = R.cells := hc
    have hs' : s0 + cs = R.slots := hs
    refine W.newcK x1 x2 x4 (x5 _ hcl) (x5 _ hin) (x5 _ hini) rfl hd (by omega) (by omega) hKn.2.1 hR.1 fun H1 kC hkC e1 z1 o1 => ?_
    have ho : ∀ x : Nat, x < H.size → H1[x]? = H[x]? := fun x hx => o1 x (by rw [← hR.1]; exact hx)
    refine kk H1 locs ls hl (hR.push (by rw [z1, hR.1]) ho ⟨fun _ => ⟨_, by simpa [ga] using hcv, ?_⟩, fun h13 => absurd h13 (by simp [ga]; omega)⟩) (va_S_push hS (by rw [z1, hR.1]; omega) ho)
    have hb := u_born ty x5 hws hKn hkC e1 hty
    have e9 : ((ga G (ci, 0)).1 G.2.2).1 = ci := by simp [ga]
    rw [e9]
    refine hb.to (fun j hj => ?_)
    rw [hdf j hj]
    simp [kdV, ga, gz, va_rf]
theorem r1_newa13 {len : Int32} {β : Type} {f : Nat → kd1 → Option β} {w : β} (hX : kdX E A bc nL own ret h) (hY : kdY A) (hd : decode bc pc = .ok (.newarray .int, 2)) (hac : Cond.arrayClass .int ∈ kdtb) (hc : c0 + cc = (kdAR A).cells) (hs : s0 + cs = (kdAR A).slots) (hh : n1A 13 len f (G, σ, cc, cs) = some w)
    (kk : ∀ (t : Nat) (G' : kdS) (σ' : kdM) (cc' cs' c0' s0' : Nat), c0' + cc' = (kdAR A).cells → s0' + cs' = (kdAR A).slots → f t (G', σ', cc', cs') = some w → SWg E A nL Q (kdR E G' σ') c0' s0' (pc + 2) L (kr E t :: st)) : SWg E A nL Q (kdR E G σ) c0 s0 pc L (.int len :: st) := by
  unfold n1A at hh
  split at hh
  case isFalse => cases hh
  case isTrue hq =>
    obtain ⟨q1, q2, q3, q4⟩ := hq
    have q1 : 1 ≤ cc := q1
    have q4 : len.toInt.toNat ≤ cs := q4
    have kk := kk _ _ _ _ _ (c0 + 1) (s0 + len.toInt.toNat) (by show c0 + 1 + (cc - 1) = _; omega) (by show s0 + len.toInt.toNat + (cs - len.toInt.toNat) = _; omega) hh
    obtain ⟨p, e, R, s, m, args, below, meth, c⟩ := A
    intro H locs ls hl hR hS
    obtain ⟨x1, x2, x3, x4, x5, x6, -⟩ := hX
    have hc' : c0 + cc = R.cells := hc
    have hs' : s0 + cs = R.slots := hs
    have hcy := (x6.2 0 _ rfl).2
    refine va_newaK (atype := .int) x1 x2 (x5 _ hac) rfl hd rfl (by rw [Int32.lt_iff_toInt_lt, Int32.toInt_zero]; omega) rfl (by show len.toInt.toNat * _ ≤ _; simp only [newarray.typeOf, componentBytes]; omega) (by omega) (by show s0 + len.toInt.toNat ≤ _; omega) hR.1 fun H1 cA e1 z1 o1 hA hfc => ?_
    cases hcy.symm.trans hfc
    have ho : ∀ x : Nat, x < H.size → H1[x]? = H[x]? := fun x hx => o1 x (by rw [← hR.1]; exact hx)
    refine kk H1 locs ls hl (hR.push (by rw [z1, hR.1]) ho ⟨fun h13 => absurd h13 (by simp [ga]), fun _ => ?_⟩) (va_S_push hS (by rw [z1, hR.1]; omega) ho)
    have e8 : (ga G (13, len.toInt.toNat)).1 G.2.2 = (13, len.toInt.toNat) := by simp [ga]
    rw [e1, e8]
    refine congrArg some (congrArg _ (funext fun j => ?_))
    simp [kdV, ga, gz, kdv, defaultValue, newarray.typeOf]
theorem r1_newa14 {len : Int32} {β : Type} {f : Nat → kd1 → Option β} {w : β} (hX : kdX E A bc nL own ret h) (hY : kdY A) (hd : decode bc pc = .ok (.newarray .long, 2)) (hac : Cond.arrayClass .long ∈ kdtb) (hc : c0 + cc = (kdAR A).cells) (hs : s0 + cs = (kdAR A).slots) (hh : n1A 14 len f (G, σ, cc, cs) = some w)
    (kk : ∀ (t : Nat) (G' : kdS) (σ' : kdM) (cc' cs' c0' s0' : Nat), c0' + cc' = (kdAR A).cells → s0' + cs' = (kdAR A).slots → f t (G', σ', cc', cs') = some w → SWg E A nL Q (kdR E G' σ') c0' s0' (pc + 2) L (kr E t :: st)) : SWg E A nL Q (kdR E G σ) c0 s0 pc L (.int len :: st) := by
  unfold n1A at hh
  split at hh
  case isFalse => cases hh
  case isTrue hq =>
    obtain ⟨q1, q2, q3, q4⟩ := hq
    have q1 : 1 ≤ cc := q1
    have q4 : len.toInt.toNat ≤ cs := q4
    have kk := kk _ _ _ _ _ (c0 + 1) (s0 + len.toInt.toNat) (by show c0 + 1 + (cc - 1) = _; omega) (by show s0 + len.toInt.toNat + (cs - len.toInt.toNat) = _; omega) hh
    obtain ⟨p, e, R, s, m, args, below, meth, c⟩ := A
    intro H locs ls hl hR hS
    obtain ⟨x1, x2, x3, x4, x5, x6, -⟩ := hX
    have hc' : c0 + cc = R.cells := hc
    have hs' : s0 + cs = R.slots := hs
    have hcy := (x6.2 1 _ rfl).2
    refine va_newaK (atype := .long) x1 x2 (x5 _ hac) rfl hd rfl (by rw [Int32.lt_iff_toInt_lt, Int32.toInt_zero]; omega) rfl (by show len.toInt.toNat * _ ≤ _; simp only [newarray.typeOf, componentBytes]; omega) (by omega) (by show s0 + len.toInt.toNat ≤ _; omega) hR.1 fun H1 cA e1 z1 o1 hA hfc => ?_
    cases hcy.symm.trans hfc
    have ho : ∀ x : Nat, x < H.size → H1[x]? = H[x]? := fun x hx => o1 x (by rw [← hR.1]; exact hx)
    refine kk H1 locs ls hl (hR.push (by rw [z1, hR.1]) ho ⟨fun h13 => absurd h13 (by simp [ga]), fun _ => ?_⟩) (va_S_push hS (by rw [z1, hR.1]; omega) ho)
    have e8 : (ga G (14, len.toInt.toNat)).1 G.2.2 = (14, len.toInt.toNat) := by simp [ga]
    rw [e1, e8]
    refine congrArg some (congrArg _ (funext fun j => ?_))
    simp [kdV, ga, gz, kdv, defaultValue, newarray.typeOf]
theorem r1_newa15 {len : Int32} {β : Type} {f : Nat → kd1 → Option β} {w : β} (hX : kdX E A bc nL own ret h) (hY : kdY A) (hd : decode bc pc = .ok (.newarray .boolean, 2)) (hac : Cond.arrayClass .boolean ∈ kdtb) (hc : c0 + cc = (kdAR A).cells) (hs : s0 + cs = (kdAR A).slots) (hh : n1A 15 len f (G, σ, cc, cs) = some w)
    (kk : ∀ (t : Nat) (G' : kdS) (σ' : kdM) (cc' cs' c0' s0' : Nat), c0' + cc' = (kdAR A).cells → s0' + cs' = (kdAR A).slots → f t (G', σ', cc', cs') = some w → SWg E A nL Q (kdR E G' σ') c0' s0' (pc + 2) L (kr E t :: st)) : SWg E A nL Q (kdR E G σ) c0 s0 pc L (.int len :: st) := by
  unfold n1A at hh
  split at hh
  case isFalse => cases hh
  case isTrue hq =>
    obtain ⟨q1, q2, q3, q4⟩ := hq
    have q1 : 1 ≤ cc := q1
    have q4 : len.toInt.toNat ≤ cs := q4
    have kk := kk _ _ _ _ _ (c0 + 1) (s0 + len.toInt.toNat) (by show c0 + 1 + (cc - 1) = _; omega) (by show s0 + len.toInt.toNat + (cs - len.toInt.toNat) = _; omega) hh
    obtain ⟨p, e, R, s, m, args, below, meth, c⟩ := A
    intro H locs ls hl hR hS
    obtain ⟨x1, x2, x3, x4, x5, x6, -⟩ := hX
    have hc' : c0 + cc = R.cells := hc
    have hs' : s0 + cs = R.slots := hs
    have hcy := (x6.2 2 _ rfl).2
    refine va_newaK (atype := .boolean) x1 x2 (x5 _ hac) rfl hd rfl (by rw [Int32.lt_iff_toInt_lt, Int32.toInt_zero]; omega) rfl (by show len.toInt.toNat * _ ≤ _; simp only [newarray.typeOf, componentBytes]; omega) (by omega) (by show s0 + len.toInt.toNat ≤ _; omega) hR.1 fun H1 cA e1 z1 o1 hA hfc => ?_
    cases hcy.symm.trans hfc
    have ho : ∀ x : Nat, x < H.size → H1[x]? = H[x]? := fun x hx => o1 x (by rw [← hR.1]; exact hx)
    refine kk H1 locs ls hl (hR.push (by rw [z1, hR.1]) ho ⟨fun h13 => absurd h13 (by simp [ga]), fun _ => ?_⟩) (va_S_push hS (by rw [z1, hR.1]; omega) ho)
    have e8 : (ga G (15, len.toInt.toNat)).1 G.2.2 = (15, len.toInt.toNat) := by simp [ga]
    rw [e1, e8]
    refine congrArg some (congrArg _ (funext fun j => ?_))
    simp [kdV, ga, gz, kdv, defaultValue, newarray.typeOf]
theorem r1_newq16 {len : Int32} {idx : Nat} {β : Type} {f : Nat → kd1 → Option β} {w : β} (hX : kdX E A bc nL own ret h) (hY : kdY A) (hd : decode bc pc = .ok (.anewarray idx, 3)) (hcl : Cond.classLink own idx "KeyDesk$Row" ∈ kdtb) (hc : c0 + cc = (kdAR A).cells) (hs : s0 + cs = (kdAR A).slots) (hh : n1A 16 len f (G, σ, cc, cs) = some w)
    (kk : ∀ (t : Nat) (G' : kdS) (σ' : kdM) (cc' cs' c0' s0' : Nat), c0' + cc' = (kdAR A).cells → s0' + cs' = (kdAR A).slots → f t (G', σ', cc', cs') = some w → SWg E A nL Q (kdR E G' σ') c0' s0' (pc + 3) L (kr E t :: st)) : SWg E A nL Q (kdR E G σ) c0 s0 pc L (.int len :: st) := by
  unfold n1A at hh
  split at hh
  case isFalse => cases hh
  case isTrue hq =>
    obtain ⟨q1, q2, q3, q4⟩ := hq
    have q1 : 1 ≤ cc := q1
    have q4 : len.toInt.toNat ≤ cs := q4
    have kk := kk _ _ _ _ _ (c0 + 1) (s0 + len.toInt.toNat) (by show c0 + 1 + (cc - 1) = _; omega) (by show s0 + len.toInt.toNat + (cs - len.toInt.toNat) = _; omega) hh
    obtain ⟨p, e, R, s, m, args, below, meth, c⟩ := A
    intro H locs ls hl hR hS
    obtain ⟨x1, x2, x3, x4, x5, x6, -⟩ := hX
    have hc' : c0 + cc = R.cells := hc
    have hs' : s0 + cs = R.slots := hs
    obtain ⟨kA9, comp9, -, -, -, hcy⟩ := (x6.2 3 _ rfl).2
    refine W.anew x1 x2 x4 (x5 _ hcl) (va_AO.use hY.1.1) rfl hd rfl (by rw [Int32.lt_iff_toInt_lt, Int32.toInt_zero]; omega) (by show len.toInt.toNat * 4 ≤ _; omega) (by omega) (by show s0 + len.toInt.toNat ≤ _; omega) fun cA kA comp f1 f2 f3 f4 => ?_
    cases hcy.symm.trans f1
    generalize hH1 : H.push ({ cls := E.2.2.1 16, slots := Array.replicate len.toNatClampNeg .null, vm := .none } : Cell) = H1
    have z1 : H1.size = H.size + 1 := by rw [← hH1, Array.size_push]
    have e1 : H1[H.size]? = some (arrV (E.2.2.1 16) len.toNatClampNeg (fun _ => .null)) := by rw [← hH1, Array.getElem?_push_size, ← arrV_new]
    have ho : ∀ q : Nat, q < H.size → H1[q]? = H[q]? := fun q hq => by rw [← hH1, Array.getElem?_push, if_neg (Nat.ne_of_lt hq)]
    have e7 : H.size = E.2.2.2 + G.2.2 := hR.1
    rw [e7]
    refine kk H1 locs ls hl (hR.push z1 ho ⟨fun h13 => absurd h13 (by simp [ga]), fun _ => ?_⟩) (va_S_push hS (by omega) ho)
    have e8 : (ga G (16, len.toInt.toNat)).1 G.2.2 = (16, len.toInt.toNat) := by simp [ga]
    rw [← e7, e1, e8]
    refine congrArg some (congrArg _ (funext fun j => ?_))
    simp [kdV, ga, gz, kdv, va_rf]
theorem r1_newq17 {len : Int32} {idx : Nat} {β : Type} {f : Nat → kd1 → Option β} {w : β} (hX : kdX E A bc nL own ret h) (hY : kdY A) (hd : decode bc pc = .ok (.anewarray idx, 3)) (hcl : Cond.classLink own idx "KeyDesk$Tongue" ∈ kdtb) (hc : c0 + cc = (kdAR A).cells) (hs : s0 + cs = (kdAR A).slots) (hh : n1A 17 len f (G, σ, cc, cs) = some w)
    (kk : ∀ (t : Nat) (G' : kdS) (σ' : kdM) (cc' cs' c0' s0' : Nat), c0' + cc' = (kdAR A).cells → s0' + cs' = (kdAR A).slots → f t (G', σ', cc', cs') = some w → SWg E A nL Q (kdR E G' σ') c0' s0' (pc + 3) L (kr E t :: st)) : SWg E A nL Q (kdR E G σ) c0 s0 pc L (.int len :: st) := by
  unfold n1A at hh
  split at hh
  case isFalse => cases hh
  case isTrue hq =>
    obtain ⟨q1, q2, q3, q4⟩ := hq
    have q1 : 1 ≤ cc := q1
    have q4 : len.toInt.toNat ≤ cs := q4
    have kk := kk _ _ _ _ _ (c0 + 1) (s0 + len.toInt.toNat) (by show c0 + 1 + (cc - 1) = _; omega) (by show s0 + len.toInt.toNat + (cs - len.toInt.toNat) = _; omega) hh
    obtain ⟨p, e, R, s, m, args, below, meth, c⟩ := A
    intro H locs ls hl hR hS
    obtain ⟨x1, x2, x3, x4, x5, x6, -⟩ := hX
    have hc' : c0 + cc = R.cells := hc
    have hs' : s0 + cs = R.slots := hs
    obtain ⟨kA9, comp9, -, -, -, hcy⟩ := (x6.2 4 _ rfl).2
    refine W.anew x1 x2 x4 (x5 _ hcl) (va_AO.use hY.1.2.1) rfl hd rfl (by rw [Int32.lt_iff_toInt_lt, Int32.toInt_zero]; omega) (by show len.toInt.toNat * 4 ≤ _; omega) (by omega) (by show s0 + len.toInt.toNat ≤ _; omega) fun cA kA comp f1 f2 f3 f4 => ?_
    cases hcy.symm.trans f1
    generalize hH1 : H.push ({ cls := E.2.2.1 17, slots := Array.replicate len.toNatClampNeg .null, vm := .none } : Cell) = H1
    have z1 : H1.size = H.size + 1 := by rw [← hH1, Array.size_push]
    have e1 : H1[H.size]? = some (arrV (E.2.2.1 17) len.toNatClampNeg (fun _ => .null)) := by rw [← hH1, Array.getElem?_push_size, ← arrV_new]
    have ho : ∀ q : Nat, q < H.size → H1[q]? = H[q]? := fun q hq => by rw [← hH1, Array.getElem?_push, if_neg (Nat.ne_of_lt hq)]
    have e7 : H.size = E.2.2.2 + G.2.2 := hR.1
    rw [e7]
    refine kk H1 locs ls hl (hR.push z1 ho ⟨fun h13 => absurd h13 (by simp [ga]), fun _ => ?_⟩) (va_S_push hS (by omega) ho)
    have e8 : (ga G (17, len.toInt.toNat)).1 G.2.2 = (17, len.toInt.toNat) := by simp [ga]
    rw [← e7, e1, e8]
    refine congrArg some (congrArg _ (funext fun j => ?_))
    simp [kdV, ga, gz, kdv, va_rf]
theorem r1_gR {ci k idx a : Nat} {β : Type} {f : Nat → kd1 → Option β} {w : β} (hX : kdX E A bc nL own ret h) (hY : kdY A) (hd : decode bc pc = .ok (.getfield idx, 3)) (hf : kdF own idx ci k) (hv : kdv ci k = 2) (hc : c0 + cc = (kdAR A).cells) (hs : s0 + cs = (kdAR A).slots) (hh : g1R ci k a f (G, σ, cc, cs) = some w)
    (kk : ∀ (b : Nat) (G' : kdS) (σ' : kdM) (cc' cs' c0' s0' : Nat), c0' + cc' = (kdAR A).cells → s0' + cs' = (kdAR A).slots → f b (G', σ', cc', cs') = some w → SWg E A nL Q (kdR E G' σ') c0' s0' (pc + 3) L (kr E b :: st)) : SWg E A nL Q (kdR E G σ) c0 s0 pc L (kr E a :: st) := by
  unfold g1R at hh
  split at hh
  case isFalse => cases hh
  case isTrue hci =>
    have hci : (G.1 a).1 = ci := hci
    cases hb : G.2.1 a k with
    | none => simp only [hb] at hh; cases hh
    | some b =>
      simp only [hb] at hh
      have kk := kk b _ _ _ _ c0 s0 hc hs hh
      obtain ⟨p, e, R, s, m, args, below, meth, c⟩ := A
      intro H locs ls hl hR hS
      refine kd_get hX.1 hX.2.1 hX.2.2.2.1 hX.2.2.2.2.1 hX.2.2.2.2.2.1 hd hf hR hci ?_
      have e : kdV E G σ a k = kr E b := by simp [kdV, hci, hv, hb, va_rf]
      rw [e]
      exact kk H locs ls hl hR hS
/-- putfield in a constructor, of any field -/
theorem kd_put {p : Program} {e : Env} {R : Room} {s : State} {m : MethodId} {args : Array Value} {below : List Frame} {meth : Method} {c : Code} {H : Heap} {locs : List Loc} {ls : Array Slot} {ci k idx a : Nat} {v : Value} {G' : kdS} {σ' : kdM} (hx : p.tables.exec = Jvm.exec) (hb : c.code = bc) (hown : s.vm.findClass own = some m.cls) (hts : ∀ w ∈ kdtb, w.before args s = true) (hK : va_K E.2.1 vwCl (kdty E.2.2.1) s) (hname : meth.name = "<init>") (hd : decode bc pc = .ok (.putfield idx, 3)) (hf : kdF own idx ci k) (hdecl : ∃ T N, vwCl[ci]? = some (own, T, N)) (hn : ∀ ty : FieldType, (kdv ci k = 0 ∧ ty = .int ∨ kdv ci k = 2 ∧ ((∃ q, ty = .object q) ∨ ∃ q, ty = .array q)) → narrow ty v = v ∧ fits ty v = true) (hkty : ∀ q, vwCl[ci]? = some q → ∃ ty : FieldType, parseFieldDescriptor (q.2.1 k).2.2.1 = some ty ∧ (kdv ci k = 0 ∧ ty = .int ∨ kdv ci k = 2 ∧ ((∃ q, ty = .object q) ∨ ∃ q, ty = .array q))) (hR : kdR E G σ H) (hci : (G.1 a).1 = ci)
    (hG : ∀ b, G'.1 b = G.1 b) (htop : G'.2.2 = G.2.2) (hoff : ∀ b, b ≠ a → G'.2.1 b = G.2.1 b ∧ σ'.1 b = σ.1 b ∧ σ'.2 b = σ.2 b) (hat : ∀ j, kdV E G' σ' a j = updV (kdV E G σ a) k v j) (hS : va_S (fun q => E.2.2.2 ≤ q) s.heap H locs)
    (kk : ∀ (H1 : Heap) (locs1 : List Loc), kdR E G' σ' H1 → va_S (fun q => E.2.2.2 ≤ q) s.heap H1 locs1 → W p E.1 e R s m args below meth c H1 locs1 c0 s0 Q (F0 m (pc + 3) ls st)) : W p E.1 e R s m args below meth c H locs c0 s0 Q (F0 m pc ls (v :: kr E a :: st)) := by
  obtain ⟨C, T, N, hc, hk, hlink, hC, hin, hnm, ty0, hty, -⟩ := hf
  obtain ⟨T9, N9, hc9⟩ := hdecl
  obtain ⟨ty, hpt, hkd⟩ := hkty _ hc
  obtain ⟨hnar, hfit⟩ := hn ty hkd
  cases hc.symm.trans hc9
  have hci13 : ci < 13 := Nat.lt_of_lt_of_le (List.getElem?_eq_some_iff.mp hc).1 (Nat.le_of_ble_eq_true rfl)
  obtain ⟨r, h1, cell, q1, q2, q3, q4⟩ := (hR.2 a (by rw [hci]; omega)).1 (by rw [hci]; exact hci13)
  rw [hci] at h1 q2 q4
  have hr : r = (own, T, N) := Option.some.inj (h1.symm.trans hc)
  subst hr
  have hap := va_apart (own := own) hts hin ty0 hty hnm hK hc
  obtain ⟨hS1, hfc, kC, hkC, hkind⟩ := hK.1 ci _ hc
  obtain ⟨cf, kf, fi, fd, hi, hsl⟩ := hS1 k hk
  have hi2 := hi
  rw [hC] at hi2
  have hst := (u_facts hfc hkC (u_lays hts hin hk) hi).1
  have hlay := hts _ (hin _ (u_in_lay hk))
  have fin : ∀ H' : Heap, H'[E.2.2.2 + a]? = some (cell.setSlot fd.slot v) → H'.size = H.size → (∀ q, q ≠ E.2.2.2 + a → H'[q]? = H[q]?) → W p E.1 e R s m args below meth c H' (locs ++ [⟨E.2.2.2 + a, fd.slot⟩]) c0 s0 Q (F0 m (pc + 3) ls st) := by
    intro H' e1 e2 e3
    rw [hsl] at e1 ⊢
    refine kk H' _ ⟨by rw [e2, hR.1, htop], fun b hb => ?_⟩ (hS.put e2 e3 (Nat.le_add_right _ _))
    rw [hG b] at hb
    by_cases eb : b = a
    · subst eb
      refine ⟨fun _ => ⟨_, by rw [hG, hci]; exact hc, ?_⟩, fun h13 => absurd h13 (by rw [hG, hci]; omega)⟩
      rw [hG, hci]
      exact t_OB.to (V := updV (kdV E G σ b) k v) ⟨_, e1, q2, q3, t_set q4 hap hk v⟩ (fun j hj => (hat j).symm)
    · obtain ⟨o1, o2, o3⟩ := hoff b eb
      exact (hR.2 b hb).keptG (e3 _ (by omega)) (hG b) o1 o2 o3
  unfold u_lay at hlay
  by_cases hfin : (T k).2.2.2 = true
  · rw [if_pos hfin] at hlay
    have hcf : m.cls = cf := by
      obtain ⟨_, _, c', _, _, _, -, -, hf', -, -, -, hown2, -⟩ := Cond.laysFinal_spec hlay
      have e1 : c' = cf := by have := hi.symm.trans hf'; simp at this; exact this.1.symm
      rw [hC] at hown2
      rw [← e1]; exact Option.some.inj (hown.symm.trans hown2)
    have h6 := u_fits hfc hkC hkind (Or.inr hlay) hi hpt hnar hfit
    exact W.putFinK hx hb hown (hts _ hlink) hi2 hst hcf hname (by rw [q2]; exact h6) q1 q3 (by rw [hsl]; exact k2_hasslot (q4 k hk)) rfl rfl hd fin
  · rw [if_neg hfin] at hlay
    have h6 := u_store hfc hkC hkind hlay hi hpt hnar hfit
    exact W.putK hx hb (f := fd) ⟨hown, hts _ hlink, ⟨_, _, _, hi2⟩, hst⟩ (by rw [q2]; exact h6) q1 q3 (by rw [hsl]; exact k2_hasslot (q4 k hk)) rfl rfl hd fin
theorem r1_sR {ci k idx a b : Nat} {β : Type} {f : kd1 → Option β} {w : β} (hX : kdX E A bc nL own ret h) (hY : kdY A) (hd : decode bc pc = .ok (.putfield idx, 3)) (hf : kdF own idx ci k) (hdecl : ∃ T N, vwCl[ci]? = some (own, T, N)) (hv : kdv ci k = 2) (hkty : ∀ q, vwCl[ci]? = some q → ∃ ty : FieldType, parseFieldDescriptor (q.2.1 k).2.2.1 = some ty ∧ ((∃ q, ty = .object q) ∨ ∃ q, ty = .array q)) (hc : c0 + cc = (kdAR A).cells) (hs : s0 + cs = (kdAR A).slots) (hh : s1R ci k a b f (G, σ, cc, cs) = some w)
    (kk : ∀ (G' : kdS) (σ' : kdM) (cc' cs' c0' s0' : Nat), c0' + cc' = (kdAR A).cells → s0' + cs' = (kdAR A).slots → f (G', σ', cc', cs') = some w → SWg E A nL Q (kdR E G' σ') c0' s0' (pc + 3) L st) : SWg E A nL Q (kdR E G σ) c0 s0 pc L (kr E b :: kr E a :: st) := by
  unfold s1R at hh
  split at hh
  case isFalse => cases hh
  case isTrue hci =>
    have hci : (G.1 a).1 = ci := hci
    have kk := kk _ _ _ _ c0 s0 hc hs hh
    obtain ⟨p, e, R, s, m, args, below, meth, c⟩ := A
    intro H locs ls hl hR hS
    refine kd_put (G' := (G.1, u2 G.2.1 a k (some b), G.2.2)) (σ' := σ) hX.1 hX.2.1 hX.2.2.2.1 hX.2.2.2.2.1 hX.2.2.2.2.2.1 hY.2 hd hf hdecl (fun ty q => ?_) (fun q hq => ?_) hR hci (fun _ => rfl) rfl (fun b' hb => ⟨u2_row _ _ _ _ hb, rfl, rfl⟩) (fun j => ?_) hS (fun H1 locs1 hR1 hS1 => kk H1 locs1 ls hl hR1 hS1)
    · rcases q with ⟨q, -⟩ | ⟨-, ⟨q, rfl⟩ | ⟨q, rfl⟩⟩
      · rw [hv] at q; cases q
      · exact ⟨rfl, rfl⟩
      · exact ⟨rfl, rfl⟩
    · obtain ⟨ty, h1, h2⟩ := hkty q hq
      exact ⟨ty, h1, Or.inr ⟨hv, h2⟩⟩
    · by_cases hj : j = k
      · subst hj
        simp [updV, kdV, hci, hv, u2_same, va_rf]
      · simp [updV, hj, kdV, hci, u2_nk _ _ _ _ hj]
theorem r1_sI {ci k idx a : Nat} {v : Int32} {β : Type} {f : kd1 → Option β} {w : β} (hX : kdX E A bc nL own ret h) (hY : kdY A) (hd : decode bc pc = .ok (.putfield idx, 3)) (hf : kdF own idx ci k) (hdecl : ∃ T N, vwCl[ci]? = some (own, T, N)) (hv : kdv ci k = 0) (hkty : ∀ q, vwCl[ci]? = some q → parseFieldDescriptor (q.2.1 k).2.2.1 = some .int) (hc : c0 + cc = (kdAR A).cells) (hs : s0 + cs = (kdAR A).slots) (hh : s1I ci k a v f (G, σ, cc, cs) = some w)
    (kk : ∀ (G' : kdS) (σ' : kdM) (cc' cs' c0' s0' : Nat), c0' + cc' = (kdAR A).cells → s0' + cs' = (kdAR A).slots → f (G', σ', cc', cs') = some w → SWg E A nL Q (kdR E G' σ') c0' s0' (pc + 3) L st) : SWg E A nL Q (kdR E G σ) c0 s0 pc L (.int v :: kr E a :: st) := by
  unfold s1I at hh
  split at hh
  case isFalse => cases hh
  case isTrue hci =>
    have hci : (G.1 a).1 = ci := hci
    have kk := kk _ _ _ _ c0 s0 hc hs hh
    obtain ⟨p, e, R, s, m, args, below, meth, c⟩ := A
    intro H locs ls hl hR hS
    refine kd_put (G' := G) (σ' := (u2 σ.1 a k v, σ.2)) hX.1 hX.2.1 hX.2.2.2.1 hX.2.2.2.2.1 hX.2.2.2.2.2.1 hY.2 hd hf hdecl (fun ty q => ?_) (fun q hq => ?_) hR hci (fun _ => rfl) rfl (fun b' hb => ⟨rfl, u2_row _ _ _ _ hb, rfl⟩) (fun j => ?_) hS (fun H1 locs1 hR1 hS1 => kk H1 locs1 ls hl hR1 hS1)
    · rcases q with ⟨-, rfl⟩ | ⟨q, -⟩
      · exact ⟨rfl, rfl⟩
      · rw [hv] at q; cases q
    · exact ⟨.int, hkty q hq, Or.inl ⟨hv, rfl⟩⟩
    · by_cases hj : j = k
      · subst hj
        simp [updV, kdV, hci, hv, u2_same]
      · simp [updV, hj, kdV, hci, u2_nk _ _ _ _ hj]
theorem r1_tI {a : Nat} {i v : Int32} {β : Type} {f : kd1 → Option β} {w : β} (hX : kdX E A bc nL own ret h) (hY : kdY A) (hd : decode bc pc = .ok (.iastore, 1)) (hc : c0 + cc = (kdAR A).cells) (hs : s0 + cs = (kdAR A).slots) (hh : t1I a i v f (G, σ, cc, cs) = some w)
    (kk : ∀ (G' : kdS) (σ' : kdM) (cc' cs' c0' s0' : Nat), c0' + cc' = (kdAR A).cells → s0' + cs' = (kdAR A).slots → f (G', σ', cc', cs') = some w → SWg E A nL Q (kdR E G' σ') c0' s0' (pc + 1) L st) : SWg E A nL Q (kdR E G σ) c0 s0 pc L (.int v :: .int i :: kr E a :: st) := by
  unfold t1I at hh
  split at hh
  case isFalse => cases hh
  case isTrue hq =>
    have kk := kk _ _ _ _ c0 s0 hc hs hh
    obtain ⟨p, e, R, s, m, args, below, meth, c⟩ := A
    intro H locs ls hl hR hS
    obtain ⟨hk, hin⟩ := hq
    have hk : (G.1 a).1 = 13 := hk
    have hin : 0 ≤ i.toInt ∧ i.toInt < ((G.1 a).2 : Int) := hin
    have hcell := (hR.2 a (by rw [hk]; omega)).2 (by rw [hk]; omega)
    refine W.iast hX.1 hX.2.1 hcell (by rw [hk]; exact (hX.2.2.2.2.2.1.2 0 _ rfl).1 _ _) (fun q => by cases q) (by rw [arrV_size]; exact kd_in hin) rfl rfl hd fun H' e1 e2 e3 => ?_
    refine kk H' _ ls hl ?_ (hS.put e2 e3 (Nat.le_add_right _ _))
    refine hR.set (a := a) e2 e3 (fun b hb => u2_row _ _ _ _ hb) (fun _ _ => rfl) ⟨fun h13 => absurd h13 (by rw [hk]; omega), fun _ => ?_⟩
    rw [e1, arrV_store]
    refine congrArg some (congrArg _ (funext fun j => ?_))
    by_cases hj : j = ix i
    · subst hj
      have e0 : i.toNatClampNeg = ix i := rfl
      simp [updV, e0, kdV, hk, kdv, u2_same]
    · have hj2 : ¬ j = i.toNatClampNeg := hj
      simp [updV, hj2, kdV, hk, kdv, u2_nk _ _ _ _ hj]
theorem r1_tR16 {a b : Nat} {i : Int32} {β : Type} {f : kd1 → Option β} {w : β} (hX : kdX E A bc nL own ret h) (hY : kdY A) (hd : decode bc pc = .ok (.aastore, 1)) (hc : c0 + cc = (kdAR A).cells) (hs : s0 + cs = (kdAR A).slots) (hh : t1R 16 6 a i b f (G, σ, cc, cs) = some w)
    (kk : ∀ (G' : kdS) (σ' : kdM) (cc' cs' c0' s0' : Nat), c0' + cc' = (kdAR A).cells → s0' + cs' = (kdAR A).slots → f (G', σ', cc', cs') = some w → SWg E A nL Q (kdR E G' σ') c0' s0' (pc + 1) L st) : SWg E A nL Q (kdR E G σ) c0 s0 pc L (kr E b :: .int i :: kr E a :: st) := by
  unfold t1R at hh
  split at hh
  case isFalse => cases hh
  case isTrue hq =>
    have kk := kk _ _ _ _ c0 s0 hc hs hh
    obtain ⟨p, e, R, s, m, args, below, meth, c⟩ := A
    intro H locs ls hl hR hS
    obtain ⟨hk, hkb, hin⟩ := hq
    have hk : (G.1 a).1 = 16 := hk
    have hkb : (G.1 b).1 = 6 := hkb
    have hin : 0 ≤ i.toInt ∧ i.toInt < ((G.1 a).2 : Int) := hin
    have hK := hX.2.2.2.2.2.1
    have hcell := (hR.2 a (by rw [hk]; omega)).2 (by rw [hk]; omega)
    obtain ⟨r, h1, cellV, g1, g2, g3, -⟩ := (hR.2 b (by rw [hkb]; omega)).1 (by rw [hkb]; omega)
    rw [hkb] at h1 g2
    have hcls := (hK.1 6 _ h1).2
    have hr1 : r.1 = "KeyDesk$Row" := by cases h1; rfl
    obtain ⟨kA, comp, k1, k2, k3, -⟩ := (hK.2 3 _ rfl).2
    have hcomp : comp = E.2.1.1 6 := Option.some.inj (k3.symm.trans (by rw [← hr1]; exact hcls.1))
    subst hcomp
    obtain ⟨kC, hkC, hkk⟩ := id hcls.2
    have hvp := kd_in hin
    refine W.aast hX.1 hX.2.1 hcell (fun q h => by cases h) (fun h => by cases h) (by rw [hk]; exact k1) k2 rfl hkC ⟨fun q => hvp (Or.inl q), by rw [arrV_size]; exact Nat.not_le.mp fun q => hvp (Or.inr q)⟩ g1 (fun q h => by rw [g3] at h; cases h) (by rw [g2]; exact hkC) (by rw [g2]; exact va_assign hcls) rfl rfl hd fun H' e1 e2 e3 => ?_
    refine kk H' _ ls hl ⟨by rw [e2]; exact hR.1, fun x hx => ?_⟩ (hS.put e2 e3 (Nat.le_add_right _ _))
    by_cases ex : x = a
    · subst ex
      refine ⟨fun h13 => absurd h13 (by show ¬ (G.1 x).1 < 13; rw [hk]; omega), fun _ => ?_⟩
      show H'[E.2.2.2 + x]? = some (arrV (E.2.2.1 (G.1 x).1) (G.1 x).2 _)
      rw [e1, arrV_store]
      refine congrArg some (congrArg _ (funext fun j => ?_))
      by_cases hj : j = ix i
      · subst hj
        have e0 : i.toNatClampNeg = ix i := rfl
        simp [updV, e0, kdV, hk, kdv, u2_same, va_rf]
      · have hj2 : ¬ j = i.toNatClampNeg := hj
        simp [updV, hj2, kdV, hk, kdv, u2_nk _ _ _ _ hj]
    · exact (hR.2 x hx).keptG (e3 (E.2.2.2 + x) (fun q => ex (Nat.add_left_cancel q))) rfl (u2_row _ _ _ _ ex) rfl rfl
theorem r1_tR17 {a b : Nat} {i : Int32} {β : Type} {f : kd1 → Option β} {w : β} (hX : kdX E A bc nL own ret h) (hY : kdY A) (hd : decode bc pc = .ok (.aastore, 1)) (hc : c0 + cc = (kdAR A).cells) (hs : s0 + cs = (kdAR A).slots) (hh : t1R 17 8 a i b f (G, σ, cc, cs) = some w)
    (kk : ∀ (G' : kdS) (σ' : kdM) (cc' cs' c0' s0' : Nat), c0' + cc' = (kdAR A).cells → s0' + cs' = (kdAR A).slots → f (G', σ', cc', cs') = some w → SWg E A nL Q (kdR E G' σ') c0' s0' (pc + 1) L st) : SWg E A nL Q (kdR E G σ) c0 s0 pc L (kr E b :: .int i :: kr E a :: st) := by
  unfold t1R at hh
  split at hh
  case isFalse => cases hh
  case isTrue hq =>
    have kk := kk _ _ _ _ c0 s0 hc hs hh
    obtain ⟨p, e, R, s, m, args, below, meth, c⟩ := A
    intro H locs ls hl hR hS
    obtain ⟨hk, hkb, hin⟩ := hq
    have hk : (G.1 a).1 = 17 := hk
    have hkb : (G.1 b).1 = 8 := hkb
    have hin : 0 ≤ i.toInt ∧ i.toInt < ((G.1 a).2 : Int) := hin
    have hK := hX.2.2.2.2.2.1
    have hcell := (hR.2 a (by rw [hk]; omega)).2 (by rw [hk]; omega)
    obtain ⟨r, h1, cellV, g1, g2, g3, -⟩ := (hR.2 b (by rw [hkb]; omega)).1 (by rw [hkb]; omega)
    rw [hkb] at h1 g2
    have hcls := (hK.1 8 _ h1).2
    have hr1 : r.1 = "KeyDesk$Tongue" := by cases h1; rfl
    obtain ⟨kA, comp, k1, k2, k3, -⟩ := (hK.2 4 _ rfl).2
    have hcomp : comp = E.2.1.1 8 := Option.some.inj (k3.symm.trans (by rw [← hr1]; exact hcls.1))
    subst hcomp
    obtain ⟨kC, hkC, hkk⟩ := id hcls.2
    have hvp := kd_in hin
    refine W.aast hX.1 hX.2.1 hcell (fun q h => by cases h) (fun h => by cases h) (by rw [hk]; exact k1) k2 rfl hkC ⟨fun q => hvp (Or.inl q), by rw [arrV_size]; exact Nat.not_le.mp fun q => hvp (Or.inr q)⟩ g1 (fun q h => by rw [g3] at h; cases h) (by rw [g2]; exact hkC) (by rw [g2]; exact va_assign hcls) rfl rfl hd fun H' e1 e2 e3 => ?_
    refine kk H' _ ls hl ⟨by rw [e2]; exact hR.1, fun x hx => ?_⟩ (hS.put e2 e3 (Nat.le_add_right _ _))
    by_cases ex : x = a
    · subst ex
      refine ⟨fun h13 => absurd h13 (by show ¬ (G.1 x).1 < 13; rw [hk]; omega), fun _ => ?_⟩
      show H'[E.2.2.2 + x]? = some (arrV (E.2.2.1 (G.1 x).1) (G.1 x).2 _)
      rw [e1, arrV_store]
      refine congrArg some (congrArg _ (funext fun j => ?_))
      by_cases hj : j = ix i
      · subst hj
        have e0 : i.toNatClampNeg = ix i := rfl
        simp [updV, e0, kdV, hk, kdv, u2_same, va_rf]
      · have hj2 : ¬ j = i.toNatClampNeg := hj
        simp [updV, hj2, kdV, hk, kdv, u2_nk _ _ _ _ hj]
    · exact (hR.2 x hx).keptG (e3 (E.2.2.2 + x) (fun q => ex (Nat.add_left_cancel q))) rfl (u2_row _ _ _ _ ex) rfl rfl
theorem r1_obj {idx a : Nat} (hX : kdX E A bc nL own ret h) (hY : kdY A) (hd : decode bc pc = .ok (.invokespecial idx, 3)) (hlink : Cond.methodLink own idx Lib.objectInit ∈ kdtb) (hinst : Cond.instanceMethod Lib.objectInit ∈ kdtb) (hcode : Cond.code Lib.objectInit ⟨#[0xb1]⟩ 1 none ∈ kdtb) (hh : 0 < h) (hst : (st.map fun v => v.category).sum ≤ 8) (k : SWg E A nL Q (kdR E G σ) c0 s0 (pc + 3) L st) : SWg E A nL Q (kdR E G σ) c0 s0 pc L (kr E a :: st) := by
  obtain ⟨p, e, R, s, m, args, below, meth, c⟩ := A
  intro H locs ls hl hR hS
  obtain ⟨x1, x2, x3, x4, x5, x6, x7, x8, x9, x10, x11⟩ := hX
  refine W.objInit x1 x2 x4 (x5 _ hlink) (x5 _ hinst) (x5 _ hcode) rfl (hl.1.trans x3.symm) rfl hd (by omega) (by show 2 * 0 + _ + 12 ≤ _; omega) ?_
  exact W.eq rfl (k H locs ls hl hR hS)
theorem kd1_call {p : Program} {e : Env} {R : Room} {s : State} {m : MethodId} {args : Array Value} {below : List Frame} {meth : Method} {c : Code} {H : Heap} {locs : List Loc} {ls : Array Slot} {st0 : List Value} {v : Option Value} {G1 : kdS} {σ1 : kdM} {aa : Array Value} {mc ms : Nat} (hr : va_Run p E.1 e R s m args below meth c H locs c0 s0 mc ms (F0 m pc ls st0) st (kdQ E G1 (v, σ1) aa) (fun q => E.2.2.2 ≤ q)) (hl : lv_has ls nL L) (hS : va_S (fun q => E.2.2.2 ≤ q) s.heap H locs)
    (kk : SWg E (p, e, R, s, m, args, below, meth, c) nL Q (kdR E G1 σ1) (c0 + mc) (s0 + ms) (pc + 3) L (v.toList ++ st)) : W p E.1 e R s m args below meth c H locs c0 s0 Q (F0 m pc ls st0) := by
  intro T hT X
  obtain ⟨v', st₀, t, T', L', h0, X', hL, e1, e2, ⟨hv, hR1, hz, hk⟩, step⟩ := hr T hT X
  cases hv
  rw [h0] at hz hk
  have hS1 : va_S (fun q => E.2.2.2 ≤ q) s.heap T'.heap (locs ++ L') := ⟨Nat.le_trans hS.1 (by rw [e1]; exact hz), fun q h1 h2 => by rw [e1, hk q (Nat.lt_of_lt_of_le h1 hS.1) h2]; exact hS.2.1 q h1 h2, fun q hq => by
    rcases List.mem_append.mp hq with h | h
    · exact hS.2.2 q h
    · exact hL q h⟩
  obtain ⟨t2, a1, b1⟩ := kk T'.heap (locs ++ L') ls hl (by rw [e1]; exact hR1) hS1 T' rfl X'
  exact ⟨t2, step t2 a1, b1⟩
theorem sub1_inv {mc ms : Nat} {g : kd1 → Option (Unit × kd1)} {β : Type} {f : kd1 → Option β} {w : β} (h : sub1 mc ms g f (G, σ, cc, cs) = some w) : mc ≤ cc ∧ ms ≤ cs ∧ ∃ (G1 : kdS) (σ1 : kdM) (c1 s1 : Nat), g (G, σ, mc, ms) = some ((), (G1, σ1, c1, s1)) ∧ f (G1, σ1, cc - mc, cs - ms) = some w := by
  unfold sub1 at h
  split at h
  case isFalse => cases h
  case isTrue q =>
    cases hg : g (G, σ, mc, ms) with
    | none => simp only [hg] at h; cases h
    | some r =>
      obtain ⟨⟨⟩, G1, σ1, c1, s1⟩ := r
      simp only [hg] at h
      exact ⟨q.1, q.2, G1, σ1, c1, s1, rfl, h⟩
theorem r1_cI {y : MethodName} {bytes : ByteArray} {maxL n idx h2 b mc ms : Nat} {As st1 : List Value} {β : Type} {g : kd1 → Option (Unit × kd1)} {f : kd1 → Option β} {w : β} (hX : kdX E A bc nL own ret h) (hY : kdY A) (hd : decode bc pc = .ok (.invokespecial idx, 3)) (hL : kdL y bytes maxL none n) (hlink : Cond.methodLink own idx y ∈ kdtb) (hinst : Cond.instanceMethod y ∈ kdtb) (hy1 : y.name = "<init>") (hh : h2 < h) (hn : As.length = n) (hst : (st.map fun v => v.category).sum ≤ 8) (hs1 : As.reverse ++ kr E b :: st = st1) (hc : c0 + cc = (kdAR A).cells) (hs : s0 + cs = (kdAR A).slots) (hq : sub1 mc ms g f (G, σ, cc, cs) = some w)
    (hC : ∀ (G1 : kdS) (σ1 : kdM) (c1 s1 : Nat), g (G, σ, mc, ms) = some ((), (G1, σ1, c1, s1)) → Con1 E y bytes maxL none h2 mc ms (kr E b :: As) G σ (none, G1, σ1))
    (kk : ∀ (G' : kdS) (σ' : kdM) (cc' cs' c0' s0' : Nat), c0' + cc' = (kdAR A).cells → s0' + cs' = (kdAR A).slots → f (G', σ', cc', cs') = some w → SWg E A nL Q (kdR E G' σ') c0' s0' (pc + 3) L st) : SWg E A nL Q (kdR E G σ) c0 s0 pc L st1 := by
  subst hs1
  obtain ⟨m1, m2, G1, σ1, c1, s1, e1, e2⟩ := sub1_inv hq
  have kk := kk G1 σ1 _ _ (c0 + mc) (s0 + ms) (by omega) (by omega) e2
  obtain ⟨p, e, R, s, m, args, below, meth, c⟩ := A
  intro H locs ls hl hR hS
  obtain ⟨x1, x2, x3, x4, x5, x6, x7, x8, x9, x10, x11⟩ := hX
  obtain ⟨l1, l2, l3, l4, l5⟩ := hL
  have hc' : c0 + cc = R.cells := hc
  have hs' : s0 + cs = R.slots := hs
  have cw : CallB R s args own idx y bytes maxL none (Cond.code y bytes maxL none :: kdtb) (kdr1 h2 mc ms) mc ms n := callB_of n x5 (kdG l1) rfl rfl rfl (x5 _ l2) (x5 _ hlink) ⟨l3.1, l3.2, l4⟩ ⟨by show h2 + 1 ≤ _; omega, by show 8 + (maxL + 11) + 40 * h2 ≤ _; omega⟩
  exact kd1_call (va_runI (As := As) (rest := st) (cells := c0) (slots := s0) (mc := mc) (ms := ms) (b := E.2.2.2 + b) (g := F0 m pc ls (As.reverse ++ kr E b :: st)) ⟨x1, x2, x3, x4, x5⟩ (hC G1 σ1 c1 s1 e1) ⟨cw, hy1, x5 _ hinst⟩ (kd1Pre (av := kr E b :: As) hR x6 x7 hY.1) rfl hn hl.1 rfl (lv_room hst) hd ⟨by omega, by omega⟩) hl hS kk
theorem r1_cIN {y : MethodName} {bytes : ByteArray} {maxL n idx h2 b mc ms : Nat} {host : String} {As st1 : List Value} {β : Type} {g : kd1 → Option (Unit × kd1)} {f : kd1 → Option β} {w : β} (hX : kdX E A bc nL own ret h) (hY : kdY A) (hd : decode bc pc = .ok (.invokespecial idx, 3)) (hL : kdL y bytes maxL none n) (hlink : (own, idx, y, host) ∈ kdN) (hinst : Cond.instanceMethod y ∈ kdtb) (hy1 : y.name = "<init>") (hh : h2 < h) (hn : As.length = n) (hst : (st.map fun v => v.category).sum ≤ 8) (hs1 : As.reverse ++ kr E b :: st = st1) (hc : c0 + cc = (kdAR A).cells) (hs : s0 + cs = (kdAR A).slots) (hq : sub1 mc ms g f (G, σ, cc, cs) = some w)
    (hC : ∀ (G1 : kdS) (σ1 : kdM) (c1 s1 : Nat), g (G, σ, mc, ms) = some ((), (G1, σ1, c1, s1)) → Con1 E y bytes maxL none h2 mc ms (kr E b :: As) G σ (none, G1, σ1))
    (kk : ∀ (G' : kdS) (σ' : kdM) (cc' cs' c0' s0' : Nat), c0' + cc' = (kdAR A).cells → s0' + cs' = (kdAR A).slots → f (G', σ', cc', cs') = some w → SWg E A nL Q (kdR E G' σ') c0' s0' (pc + 3) L st) : SWg E A nL Q (kdR E G σ) c0 s0 pc L st1 := by
  subst hs1
  obtain ⟨m1, m2, G1, σ1, c1, s1, e1, e2⟩ := sub1_inv hq
  have kk := kk G1 σ1 _ _ (c0 + mc) (s0 + ms) (by omega) (by omega) e2
  obtain ⟨p, e, R, s, m, args, below, meth, c⟩ := A
  intro H locs ls hl hR hS
  obtain ⟨x1, x2, x3, x4, x5, x6, x7, x8, x9, x10, x11⟩ := hX
  obtain ⟨l1, l2, l3, l4, l5⟩ := hL
  have hc' : c0 + cc = R.cells := hc
  have hs' : s0 + cs = R.slots := hs
  have cw := va_cnB (own := own) (host := host) (index := idx) (y := y) (bytes := bytes) (maxL := maxL) (ret := none) (R := R) (rm := kdr1 h2 mc ms) (mc := mc) (ms := ms) n x5 (kdG l1) rfl rfl rfl (x7 _ hlink) (x5 _ l2) ⟨l3.1, l3.2, l4⟩ ⟨by show h2 + 1 ≤ _; omega, by show 8 + (maxL + 11) + 40 * h2 ≤ _; omega⟩
  exact kd1_call (va_runIN (As := As) (rest := st) (cells := c0) (slots := s0) (mc := mc) (ms := ms) (b := E.2.2.2 + b) (g := F0 m pc ls (As.reverse ++ kr E b :: st)) ⟨x1, x2, x3, x4, x5⟩ (hC G1 σ1 c1 s1 e1) ⟨cw, hy1, x5 _ hinst⟩ (kd1Pre (av := kr E b :: As) hR x6 x7 hY.1) rfl hn hl.1 rfl (lv_room hst) hd ⟨by omega, by omega⟩) hl hS kk
theorem r1_cV {y : MethodName} {bytes : ByteArray} {maxL n idx b ci h2 : Nat} {ret2 : Option FieldType} {As st1 : List Value} {α β : Type} {enc : α → Option Value} {g : kdS → kdM → Option (α × kdM)} {f : α → kd1 → Option β} {w : β} (hX : kdX E A bc nL own ret h) (hY : kdY A) (hd : decode bc pc = .ok (.invokevirtual idx, 3)) (hL : kdL y bytes maxL ret2 n) (hlink : Cond.methodLink own idx y ∈ kdtb) (hinst : Cond.instanceMethod y ∈ kdtb) (hsel : Cond.selects y.cls y y ∈ kdtb) (hc9 : ∃ T N, vwCl[ci]? = some (y.cls, T, N)) (hh : h2 < h) (hn : As.length = n) (hst : (st.map fun v => v.category).sum ≤ 8) (hs1 : As.reverse ++ kr E b :: st = st1) (hc : c0 + cc = (kdAR A).cells) (hs : s0 + cs = (kdAR A).slots) (hq : kcv1 ci b g f (G, σ, cc, cs) = some w)
    (hC : ∀ (r : α) (σ1 : kdM), g G σ = some (r, σ1) → Con E G y bytes maxL ret2 h2 (kr E b :: As) σ (enc r, σ1))
    (kk : ∀ (r : α) (σ' : kdM) (cc' cs' c0' s0' : Nat), c0' + cc' = (kdAR A).cells → s0' + cs' = (kdAR A).slots → f r (G, σ', cc', cs') = some w → SWg E A nL Q (kdR E G σ') c0' s0' (pc + 3) L ((enc r).toList ++ st)) : SWg E A nL Q (kdR E G σ) c0 s0 pc L st1 := by
  subst hs1
  unfold kcv1 at hq
  split at hq
  case isFalse => cases hq
  case isTrue hci =>
    have hci : (G.1 b).1 = ci := hci
    cases hg : g G σ with
    | none => simp only [hg] at hq; cases hq
    | some r =>
      obtain ⟨r, σ1⟩ := r
      simp only [hg] at hq
      have kk := kk r σ1 _ _ c0 s0 hc hs hq
      have hC := hC r σ1 hg
      obtain ⟨p, e, R, s, m, args, below, meth, c⟩ := A
      intro H locs ls hl hR hS
      obtain ⟨x1, x2, x3, x4, x5, x6, x7, x8, x9, x10, x11⟩ := hX
      obtain ⟨l1, l2, l3, l4, l5⟩ := hL
      have hc' : c0 + cc = R.cells := hc
      have hs' : s0 + cs = R.slots := hs
      have cw : CallW R s args own y.cls idx y bytes maxL ret2 (Cond.code y bytes maxL ret2 :: kdtb) (kdrm h2) 0 0 n := ⟨callB_of n x5 (kdG l1) rfl rfl rfl (x5 _ l2) (x5 _ hlink) ⟨l3.1, l3.2, l4⟩ ⟨by show h2 + 1 ≤ _; omega, by show 8 + (maxL + 11) + 40 * h2 ≤ _; omega⟩, x5 _ hinst, x5 _ hsel⟩
      have hp : PreV s H y.cls (E.2.2.2 + b) (va_Pc (kr E b :: As) (fun U => kdR E G σ U.heap ∧ va_K E.2.1 vwCl (kdty E.2.2.1) U ∧ kdW U)) As := ⟨(kdPre (av := kr E b :: As) hR x6 x7).1, kd_recv hR x6 hci hc9, (kdPre (av := kr E b :: As) hR x6 x7).2⟩
      exact kd1_call (va_runV (rest := st) ⟨x1, x2, x3, x4, x5⟩ hC cw hp rfl hn hl.1 rfl (lv_room hst) hd ⟨by omega, by omega⟩) hl hS kk
theorem r1_vret {G1 : kdS} {σ1 : kdM} {c1 s1 : Nat} (hX : kdX E A bc nL own none h) (hc : c0 + cc = (kdAR A).cells) (hs : s0 + cs = (kdAR A).slots) (hd : decode bc pc = .ok (.return_, 1)) (hh : rt1 () (G, σ, cc, cs) = some ((), (G1, σ1, c1, s1))) : SWg E A nL (kd1E E (none, G1, σ1) A) (kdR E G σ) c0 s0 pc L [] := by
  cases hh
  obtain ⟨p, e, R, s, m, args, below, meth, c⟩ := A
  intro H locs ls hl hR hS
  have hc' : c0 + cc = R.cells := hc
  have hs' : s0 + cs = R.slots := hs
  refine W.widen (k := R.cells) (n := R.slots) (by omega) (by omega) ?_
  exact W.vret hX.1 hX.2.1 hX.2.2.2.2.2.2.2.2.1 (kd_end (p := p) hR hS) hS.2.2 hd hX.2.2.2.2.2.2.2.1
end KDR1
theorem kd1_head {E : kdE} {G : kdS} {y : MethodName} {bytes : ByteArray} {maxL h mc ms : Nat} {ret : Option FieldType} {own : String} {av : List Value} {σ : kdM} {z : Option Value × kdS × kdM} (hy : y.cls = own) (hyn : y.name = "<init>") (hpl : plainName y.cls = true) (hlen : (lg_sl av).length ≤ maxL) (body : ∀ (A : kdA), kdX E A bytes maxL own ret h → kdY A → (kdAR A).cells = mc → (kdAR A).slots = ms → SWg E A maxL (kd1E E z A) (kdR E G σ) 0 0 0 (lv_args 0 av) []) : Con1 E y bytes maxL ret h mc ms av G σ z := by
  refine Met.ofW (cc := bytes) (maxL := maxL) (ret := ret) hpl rfl ?_
  intro p e s m args below meth c s₁ B hml hv
  obtain ⟨rfl, hR, hK, hN, hO⟩ := hv
  have hts := atoms_spec (ws := Cond.code y bytes maxL ret :: kdtb) B.pre
  have hown : s.vm.findClass own = some m.cls := hy ▸ findClass_of_methodNamed B.named
  have hb := body (p, e, (headSpec (Cond.code y bytes maxL ret :: kdtb) (kdr1 h mc ms)).room, s, m, av.toArray, below, meth, c) ⟨B.exec, B.bytes, hml, hown, fun w hw => hts w (List.mem_cons_of_mem _ hw), hK, hN, B.notSynchronized, B.returns, Nat.le_refl _, Nat.le_refl _⟩ ⟨hO, ((name_of_methodNamed B.named B.method).1).trans hyn⟩ rfl rfl
  rw [lg_entry_eq]
  exact hb s.heap [] _ (lv_entry av hlen) hR va_S.rf
