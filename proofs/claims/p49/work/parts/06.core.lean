/-! THE MEMORY that the walks speak of: a shape (kind and length of each cell, the references, the heap's end) and the numbers that the cells hold. -/
abbrev kdS : Type := (Nat → Nat × Nat) × (Nat → Nat → Option Nat) × Nat
abbrev kdM : Type := (Nat → Nat → Int32) × (Nat → Nat → Int64)
abbrev kdE : Type := Launch × va_G × (Nat → ClassId) × Nat
/-- the fields' kinds: 0 an int, 2 a reference -/
def kdT : List (List Nat) := [[2, 2, 0, 2, 2, 2, 2, 2], [2, 2, 2], [2, 2, 2, 2, 0, 0], [0, 2, 2, 2, 2, 0, 2, 0, 0], [2, 2, 2, 2, 0], [2, 2, 2, 2, 2, 2, 2, 2, 0], [2, 0], [2, 2], [2, 2, 0, 2, 2, 2, 2, 2], [2, 2, 2, 2, 2, 2, 2, 2, 2, 0, 0, 0], [2, 2, 2, 2], [2, 2, 2, 2, 2, 2, 2, 2, 2, 2, 2, 2], []]
def kdv (k j : Nat) : Nat := if k < 13 then (kdT.getD k []).getD j 2 else if k = 13 then 0 else if k = 14 then 1 else if k = 15 then 0 else 2
def kdV (E : kdE) (G : kdS) (σ : kdM) (a j : Nat) : Value := if kdv (G.1 a).1 j = 0 then .int (σ.1 a j) else if kdv (G.1 a).1 j = 1 then .long (σ.2 a j) else va_rf ((G.2.1 a j).map (fun b => E.2.2.2 + b))
/-- a reference: addresses are counted from the heap's size at the law's entry on -/
abbrev kr (E : kdE) (a : Nat) : Value := .ref (E.2.2.2 + a)
def kdC (E : kdE) (G : kdS) (σ : kdM) (a : Nat) (H : Heap) : Prop :=
  ((G.1 a).1 < 13 → ∃ r : vw_C, vwCl[(G.1 a).1]? = some r ∧ t_OB (E.2.2.2 + a) (E.2.1.1 (G.1 a).1) r.2.2 (E.2.1.2 (G.1 a).1) H (kdV E G σ a)) ∧
  (13 ≤ (G.1 a).1 → H[E.2.2.2 + a]? = some (arrV (E.2.2.1 (G.1 a).1) (G.1 a).2 (kdV E G σ a)))
def kdR (E : kdE) (G : kdS) (σ : kdM) (H : Heap) : Prop := H.size = E.2.2.2 + G.2.2 ∧ ∀ a, (G.1 a).1 < 20 → kdC E G σ a H
def kdty (cy : Nat → ClassId) : List (ClassId × FieldType) := [(cy 13, .int), (cy 14, .long), (cy 15, .boolean), (cy 16, .object "KeyDesk$Row"), (cy 17, .object "KeyDesk$Tongue"), (cy 18, .array .int), (cy 19, .array .long)]
def u2 {α : Type} (f : Nat → Nat → α) (a k : Nat) (v : α) : Nat → Nat → α := fun b j => if b = a ∧ j = k then v else f b j
theorem u2_same {α : Type} (f : Nat → Nat → α) (a k : Nat) (v : α) : u2 f a k v a k = v := if_pos ⟨rfl, rfl⟩
theorem u2_ne {α : Type} (f : Nat → Nat → α) (a k : Nat) (v : α) {b : Nat} (j : Nat) (h : b ≠ a) : u2 f a k v b j = f b j := if_neg (fun q => h q.1)
theorem u2_nk {α : Type} (f : Nat → Nat → α) (a k : Nat) (v : α) {b j : Nat} (h : j ≠ k) : u2 f a k v b j = f b j := if_neg (fun q => h q.2)
theorem u2_row {α : Type} (f : Nat → Nat → α) (a k : Nat) (v : α) {b : Nat} (h : b ≠ a) : u2 f a k v b = f b := funext fun j => u2_ne f a k v j h
/-! what a walk does, said of the memory alone -/
section KDP
variable {α β : Type}
def rt (x : α) : kdM → Option (α × kdM) := fun σ => some (x, σ)
def cnd (c : Prop) [Decidable c] (k1 k2 : kdM → Option β) : kdM → Option β := fun σ => if c then k1 σ else k2 σ
def ltI (x : Int32) (f : Int32 → kdM → Option β) : kdM → Option β := f x
def ltL (x : Int64) (f : Int64 → kdM → Option β) : kdM → Option β := f x
def kcl (g : kdM → Option (α × kdM)) (f : α → kdM → Option β) : kdM → Option β := fun σ => match g σ with
  | some r => f r.1 r.2
  | none => none
def kcv (G : kdS) (ci b : Nat) (g : kdM → Option (α × kdM)) (f : α → kdM → Option β) : kdM → Option β := fun σ => if (G.1 b).1 = ci then kcl g f σ else none
def nz (y : Int32) (f : kdM → Option β) : kdM → Option β := fun σ => if y = 0 then none else f σ
def nzL (y : Int64) (f : kdM → Option β) : kdM → Option β := fun σ => if y = 0 then none else f σ
def inb (i : Int32) (n : Nat) : Prop := 0 ≤ i.toInt ∧ i.toInt < (n : Int)
def ix (i : Int32) : Nat := i.toInt.toNat
def gI (G : kdS) (ci k a : Nat) (f : Int32 → kdM → Option β) : kdM → Option β := fun σ => if (G.1 a).1 = ci then f (σ.1 a k) σ else none
def gR (G : kdS) (ci k a : Nat) (f : Nat → kdM → Option β) : kdM → Option β := fun σ => if (G.1 a).1 = ci then (match G.2.1 a k with
  | some b => f b σ
  | none => none) else none
def sI (G : kdS) (ci k a : Nat) (v : Int32) (f : kdM → Option β) : kdM → Option β := fun σ => if (G.1 a).1 = ci then f (u2 σ.1 a k v, σ.2) else none
def aI (G : kdS) (a : Nat) (i : Int32) (f : Int32 → kdM → Option β) : kdM → Option β := fun σ => if (G.1 a).1 = 13 ∧ 0 ≤ i.toInt ∧ i.toInt < ((G.1 a).2 : Int) then f (σ.1 a (ix i)) σ else none
def aZ (G : kdS) (a : Nat) (i : Int32) (f : Int32 → kdM → Option β) : kdM → Option β := fun σ => if (G.1 a).1 = 15 ∧ 0 ≤ i.toInt ∧ i.toInt < ((G.1 a).2 : Int) then f (σ.1 a (ix i)) σ else none
def aL (G : kdS) (a : Nat) (i : Int32) (f : Int64 → kdM → Option β) : kdM → Option β := fun σ => if (G.1 a).1 = 14 ∧ 0 ≤ i.toInt ∧ i.toInt < ((G.1 a).2 : Int) then f (σ.2 a (ix i)) σ else none
def aN (G : kdS) (a : Nat) (f : Int32 → kdM → Option β) : kdM → Option β := fun σ => if (G.1 a).1 = 13 then f (Int32.ofNat (G.1 a).2) σ else none
def aR (G : kdS) (t a : Nat) (i : Int32) (f : Nat → kdM → Option β) : kdM → Option β := fun σ => if (G.1 a).1 = t ∧ 0 ≤ i.toInt ∧ i.toInt < ((G.1 a).2 : Int) then (match G.2.1 a (ix i) with
  | some b => f b σ
  | none => none) else none
def tI (G : kdS) (a : Nat) (i v : Int32) (f : kdM → Option β) : kdM → Option β := fun σ => if (G.1 a).1 = 13 ∧ 0 ≤ i.toInt ∧ i.toInt < ((G.1 a).2 : Int) then f (u2 σ.1 a (ix i) v, σ.2) else none
def tZ (G : kdS) (a : Nat) (i v : Int32) (f : kdM → Option β) : kdM → Option β := fun σ => if (G.1 a).1 = 15 ∧ 0 ≤ i.toInt ∧ i.toInt < ((G.1 a).2 : Int) then f (u2 σ.1 a (ix i) (vp_nar .boolean v), σ.2) else none
def tL (G : kdS) (a : Nat) (i : Int32) (v : Int64) (f : kdM → Option β) : kdM → Option β := fun σ => if (G.1 a).1 = 14 ∧ 0 ≤ i.toInt ∧ i.toInt < ((G.1 a).2 : Int) then f (σ.1, u2 σ.2 a (ix i) v) else none
def kmax (x y : Int32) : Int32 := if x < y then y else x
def kmin (x y : Int32) : Int32 := if y < x then y else x
def kabs (x : Int32) : Int32 := if 0 ≤ x then x else 0 - x
def krem (x y : Int32) : Int32 := x - x / y * y
def kremL (x y : Int64) : Int64 := x - x / y * y
/-- a loop: so many rounds at most -/
def lp {τ : Type} (bot : τ) (F : τ → τ) : Nat → τ
  | 0 => bot
  | n + 1 => F (lp bot F n)
theorem lp_ind {τ : Type} {bot : τ} {F : τ → τ} {Q : τ → Prop} (h0 : Q bot) (hs : ∀ k, Q k → Q (F k)) : ∀ n, Q (lp bot F n)
  | 0 => h0
  | n + 1 => hs _ (lp_ind h0 hs n)
theorem lp_indN {τ : Type} {bot : τ} {F : τ → τ} {Q : Nat → τ → Prop} (h0 : Q 0 bot) (hs : ∀ n k, Q n k → Q (n + 1) (F k)) : ∀ n, Q n (lp bot F n)
  | 0 => h0
  | n + 1 => hs n _ (lp_indN h0 hs n)
theorem lp_succ {τ : Type} (bot : τ) (F : τ → τ) (n : Nat) : lp bot F (n + 1) = F (lp bot F n) := rfl
def NN : Nat := 1000000
end KDP

/-! the words that every method carries: those of the tables that stay, and the links to nest mates -/
def kdtb : List Cond := lw_tbl.filter goodWord
theorem kdtb_mem {w : Cond} (i : Nat) (h : lw_tbl[i]? = some w) (hg : goodWord w = true) : w ∈ kdtb := List.mem_filter.mpr ⟨List.mem_of_getElem? h, hg⟩
theorem kdtb_good : ∀ w ∈ kdtb, goodWord w = true := fun w h => (List.mem_filter.mp h).2
theorem kdG {y : MethodName} {bytes : ByteArray} {maxL : Nat} {ret : Option FieldType} (h : Cond.code y bytes maxL ret ∈ kdtb) : GoodIn kdtb (Cond.code y bytes maxL ret :: kdtb) := by
  intro w hw
  have hm : w ∈ kdtb := by
    rcases List.mem_cons.mp hw with e | e
    · rw [e]; exact h
    · exact e
  exact ⟨hm, good_of_word (kdtb_good w hm)⟩
abbrev kdNL : Type := String × Nat × MethodName × String
def kdnw (q : kdNL) : Cond := .methodLinkNest q.1 q.2.1 q.2.2.1 q.2.2.2
def kdN : List kdNL := [
  ("KeyDesk", 30, ({ cls := "KeyDesk$Line", name := "<init>", desc := "()V" } : Jvm.MethodName), "KeyDesk"),
  ("KeyDesk", 44, ({ cls := "KeyDesk$Slips", name := "<init>", desc := "()V" } : Jvm.MethodName), "KeyDesk"),
  ("KeyDesk", 51, ({ cls := "KeyDesk$Guesses", name := "<init>", desc := "()V" } : Jvm.MethodName), "KeyDesk"),
  ("KeyDesk", 76, ({ cls := "KeyDesk$Hands", name := "<init>", desc := "()V" } : Jvm.MethodName), "KeyDesk")]
def kdW (U : State) : Prop := ∀ q ∈ kdN, va_Nw (kdnw q) U
theorem kdW.warm {s U : State} (hW : s.WarmedH U.vm) (h : kdW s) : kdW U := fun q hq => va_Nw.warmM hW (h q hq)
theorem kdW.same {u U : State} (e : u.vm = U.vm) (h : kdW u) : kdW U := fun q hq => va_Nw.same rfl e (h q hq)
/-! the judgement -/
abbrev kdA : Type := Program × Env × Room × State × MethodId × Array Value × List Frame × Method × Code
def kdrm (h : Nat) : Room := { frames := h, cells := 0, slots := 0, locals := 40 * h }
def kdQ (E : kdE) (G : kdS) (z : Option Value × kdM) : Array Value → State → Outcome → State → Prop := fun _ st o t => o = .returned z.1 ∧ kdR E G z.2 t.heap ∧ va_F (fun q => E.2.2.2 ≤ q) st t
abbrev kdZ : Type := (Option Value × kdM) ⊕ (Nat × Nat)
/-- the judgement, for any relation of the heap, any end, any room used so far -/
def SWg (E : kdE) (A : kdA) (nL : Nat) (Q : State → Prop) (Rl : Heap → Prop) (c0 s0 pc : Nat) (L : List (Nat × Value)) (st : List Value) : Prop :=
  match A with
  | (p, e, R, s, m, args, below, meth, c) => ∀ (H : Heap) (locs : List Loc) (ls : Array Slot), lv_has ls nL L → Rl H → va_S (fun q => E.2.2.2 ≤ q) s.heap H locs →
    W p E.1 e R s m args below meth c H locs c0 s0 Q (F0 m pc ls st)
def kdEnd (E : kdE) (G : kdS) (z : kdZ) (A : kdA) : State → Prop := match A with
  | (_, _, _, s, _, args, below, _, _) => match z with
    | .inl z => MQ below (kdQ E G z) args s 0 0 (fun q => E.2.2.2 ≤ q)
    | .inr _ => fun t => ∃ o, t.status = .running ∧ Ended t below o ∧ o = .returned (some (.int 1)) ∧ Framed s o t [] 600000 7302250
def kdzc : kdZ → Nat
  | .inl _ => 0
  | .inr n => n.1
def kdzs : kdZ → Nat
  | .inl _ => 0
  | .inr n => n.2
def kdRO (A : kdA) (c0 s0 : Nat) : Prop := match A with
  | (_, _, R, _, _, _, _, _, _) => c0 ≤ R.cells ∧ s0 ≤ R.slots
theorem kdz0 {A : kdA} {z : Option Value × kdM} : kdRO A (kdzc (.inl z)) (kdzs (.inl z)) := by
  obtain ⟨p, e, R, s, m, args, below, meth, c⟩ := A
  exact ⟨Nat.zero_le _, Nat.zero_le _⟩
def SW (E : kdE) (G : kdS) (z : kdZ) (A : kdA) (nL : Nat) (σ : kdM) (pc : Nat) (L : List (Nat × Value)) (st : List Value) : Prop := SWg E A nL (kdEnd E G z A) (kdR E G σ) (kdzc z) (kdzs z) pc L st
def kdX (E : kdE) (A : kdA) (cc : ByteArray) (nL : Nat) (own : String) (ret : Option FieldType) (h : Nat) : Prop :=
  match A with
  | (p, e, R, s, m, args, below, meth, c) => p.tables.exec = Jvm.exec ∧ c.code = cc ∧ c.maxLocals = nL ∧ s.vm.findClass own = some m.cls ∧ (∀ w ∈ kdtb, w.before args s = true) ∧ va_K E.2.1 vwCl (kdty E.2.2.1) s ∧ kdW s ∧ meth.locks = false ∧ meth.sig.returnType = ret ∧ h ≤ R.frames ∧ 40 * h ≤ R.locals
def Con (E : kdE) (G : kdS) (y : MethodName) (bytes : ByteArray) (maxL : Nat) (ret : Option FieldType) (h : Nat) (av : List Value) (σ : kdM) (z : Option Value × kdM) : Prop :=
  Met E.1 y (Cond.code y bytes maxL ret :: kdtb) (kdrm h) (va_Pc av (fun U => kdR E G σ U.heap ∧ va_K E.2.1 vwCl (kdty E.2.2.1) U ∧ kdW U)) (kdQ E G z) 0 0 (fun q => E.2.2.2 ≤ q)
theorem kdPre {E : kdE} {G : kdS} {av : List Value} {σ : kdM} {s : State} {H : Heap} (hR : kdR E G σ H) (hK : va_K E.2.1 vwCl (kdty E.2.2.1) s) (hN : kdW s) : PreS s H (va_Pc av (fun U => kdR E G σ U.heap ∧ va_K E.2.1 vwCl (kdty E.2.2.1) U ∧ kdW U)) av :=
  ⟨fun a U g mk q => ⟨q.1, q.2.1, va_K.moved (u := U) (U := U.calling g mk a) (Vm.Alike.refl U.vm) q.2.2.1, kdW.same (u := U) (U := U.calling g mk a) rfl q.2.2.2⟩, fun U hU hW => ⟨rfl, by rw [hU]; exact hR, va_K.moved hW.alike hK, kdW.warm hW hN⟩⟩
theorem kdC.kept {E : kdE} {G : kdS} {σ σ' : kdM} {a : Nat} {H H' : Heap} (h : kdC E G σ a H) (hq : H'[E.2.2.2 + a]? = H[E.2.2.2 + a]?) (h1 : σ'.1 a = σ.1 a) (h2 : σ'.2 a = σ.2 a) : kdC E G σ' a H' := by
  have e : kdV E G σ' a = kdV E G σ a := by funext j; simp only [kdV, h1, h2]
  refine ⟨fun hk => ?_, fun hk => ?_⟩
  · obtain ⟨r, q1, q2⟩ := h.1 hk
    exact ⟨r, q1, by rw [e]; exact q2.kept hq⟩
  · rw [hq, e]; exact h.2 hk
theorem kdR.set {E : kdE} {G : kdS} {σ σ' : kdM} {a : Nat} {H H' : Heap} (h : kdR E G σ H) (hz : H'.size = H.size) (hq : ∀ q : Nat, q ≠ E.2.2.2 + a → H'[q]? = H[q]?) (h1 : ∀ b, b ≠ a → σ'.1 b = σ.1 b) (h2 : ∀ b, b ≠ a → σ'.2 b = σ.2 b) (hc : kdC E G σ' a H') : kdR E G σ' H' := by
  refine ⟨hz.trans h.1, fun b hb => ?_⟩
  by_cases e : b = a
  · rw [e]; exact hc
  · exact (h.2 b hb).kept (hq _ (by omega)) (h1 b e) (h2 b e)

section KDR
variable {E : kdE} {G : kdS} {z : kdZ} {A : kdA} {Q : State → Prop} {Rl : Heap → Prop} {c0 s0 : Nat} {nL h : Nat} {σ : kdM} {pc : Nat} {L : List (Nat × Value)} {st : List Value} {cc : ByteArray} {own : String} {ret : Option FieldType}
theorem r_iconst {n : Int} {v : Int32} (hX : kdX E A cc nL own ret h) (hd : decode cc pc = .ok (.iconst n, 1)) (hv : Int32.ofInt n = v) (k : SWg E A nL Q Rl c0 s0 (pc + 1) L (.int v :: st)) : SWg E A nL Q Rl c0 s0 pc L st := by
  obtain ⟨p, e, R, s, m, args, below, meth, c⟩ := A
  intro H locs ls hl hR hS
  exact lv_iconst hX.1 hX.2.1 hd hv (k H locs ls hl hR hS)
theorem r_bipush {n : Int} {v : Int32} (hX : kdX E A cc nL own ret h) (hd : decode cc pc = .ok (.bipush n, 2)) (hv : (Int8.ofInt n).toInt32 = v) (k : SWg E A nL Q Rl c0 s0 (pc + 2) L (.int v :: st)) : SWg E A nL Q Rl c0 s0 pc L st := by
  obtain ⟨p, e, R, s, m, args, below, meth, c⟩ := A
  intro H locs ls hl hR hS
  exact lv_bipush hX.1 hX.2.1 hd hv (k H locs ls hl hR hS)
theorem r_sipush {n : Int} {v : Int32} (hX : kdX E A cc nL own ret h) (hd : decode cc pc = .ok (.sipush n, 3)) (hv : (Int16.ofInt n).toInt32 = v) (k : SWg E A nL Q Rl c0 s0 (pc + 3) L (.int v :: st)) : SWg E A nL Q Rl c0 s0 pc L st := by
  obtain ⟨p, e, R, s, m, args, below, meth, c⟩ := A
  intro H locs ls hl hR hS
  exact lv_sipush hX.1 hX.2.1 hd hv (k H locs ls hl hR hS)
theorem r_lconst {n : Fin 2} {v : Int64} (hX : kdX E A cc nL own ret h) (hd : decode cc pc = .ok (.lconst n, 1)) (hv : Int64.ofNat (n : Nat) = v) (k : SWg E A nL Q Rl c0 s0 (pc + 1) L (.long v :: st)) : SWg E A nL Q Rl c0 s0 pc L st := by
  obtain ⟨p, e, R, s, m, args, below, meth, c⟩ := A
  intro H locs ls hl hR hS
  exact lv_lconst hX.1 hX.2.1 hd hv (k H locs ls hl hR hS)
theorem r_ldc {i : Nat} {v : Int32} (hX : kdX E A cc nL own ret h) (hd : decode cc pc = .ok (.ldc i, 2)) (hc : Jvm.Cond.constant own i v ∈ kdtb) (k : SWg E A nL Q Rl c0 s0 (pc + 2) L (.int v :: st)) : SWg E A nL Q Rl c0 s0 pc L st := by
  obtain ⟨p, e, R, s, m, args, below, meth, c⟩ := A
  intro H locs ls hl hR hS
  exact lv_ldc hX.1 hX.2.1 hX.2.2.2.1 (hX.2.2.2.2.1 _ hc) hd (k H locs ls hl hR hS)
theorem r_ldc_w {i : Nat} {v : Int32} (hX : kdX E A cc nL own ret h) (hd : decode cc pc = .ok (.ldc_w i, 3)) (hc : Jvm.Cond.constant own i v ∈ kdtb) (k : SWg E A nL Q Rl c0 s0 (pc + 3) L (.int v :: st)) : SWg E A nL Q Rl c0 s0 pc L st := by
  obtain ⟨p, e, R, s, m, args, below, meth, c⟩ := A
  intro H locs ls hl hR hS
  exact lv_ldcw hX.1 hX.2.1 hX.2.2.2.1 (hX.2.2.2.2.1 _ hc) hd (k H locs ls hl hR hS)
theorem r_ldc2_w {i : Nat} {v : Int64} (hX : kdX E A cc nL own ret h) (hd : decode cc pc = .ok (.ldc2_w i, 3)) (hc : Jvm.Cond.constantLong own i v ∈ kdtb) (k : SWg E A nL Q Rl c0 s0 (pc + 3) L (.long v :: st)) : SWg E A nL Q Rl c0 s0 pc L st := by
  obtain ⟨p, e, R, s, m, args, below, meth, c⟩ := A
  intro H locs ls hl hR hS
  exact lv_ldc2 hX.1 hX.2.1 hX.2.2.2.1 (hX.2.2.2.2.1 _ hc) hd (k H locs ls hl hR hS)
theorem r_iload_n {q : Fin 4} {i : Nat} {x : Int32} (hX : kdX E A cc nL own ret h) (hd : decode cc pc = .ok (.iload_n q, 1)) (hi : (q : Nat) = i) (j : Nat) (hk : L[j]? = some (i, .int x)) (k : SWg E A nL Q Rl c0 s0 (pc + 1) L (.int x :: st)) : SWg E A nL Q Rl c0 s0 pc L st := by
  obtain ⟨p, e, R, s, m, args, below, meth, c⟩ := A
  intro H locs ls hl hR hS
  exact lv_iload_n hX.1 hX.2.1 hd hi (lv_at hl j hk) (k H locs ls hl hR hS)
theorem r_iload {i : Nat} {x : Int32} (hX : kdX E A cc nL own ret h) (hd : decode cc pc = .ok (.iload i, 2)) (j : Nat) (hk : L[j]? = some (i, .int x)) (k : SWg E A nL Q Rl c0 s0 (pc + 2) L (.int x :: st)) : SWg E A nL Q Rl c0 s0 pc L st := by
  obtain ⟨p, e, R, s, m, args, below, meth, c⟩ := A
  intro H locs ls hl hR hS
  exact lv_iload hX.1 hX.2.1 hd (lv_at hl j hk) (k H locs ls hl hR hS)
theorem r_istore_n {q : Fin 4} {i : Nat} {x : Int32} {L2 : List (Nat × Value)} (hX : kdX E A cc nL own ret h) (hd : decode cc pc = .ok (.istore_n q, 1)) (hi : (q : Nat) = i) (hn : i < nL) (hl2 : (i, .int x) :: L.filter (fun q => !(q.1 == i) && !(q.1 + 1 == i && q.2.category == 2)) = L2) (k : SWg E A nL Q Rl c0 s0 (pc + 1) L2 st) : SWg E A nL Q Rl c0 s0 pc L (.int x :: st) := by
  obtain ⟨p, e, R, s, m, args, below, meth, c⟩ := A
  intro H locs ls hl hR hS
  exact lv_istore_n hX.1 hX.2.1 hd hi hl hn hl2 (fun ls hl => k H locs ls hl hR hS)
theorem r_istore {i : Nat} {x : Int32} {L2 : List (Nat × Value)} (hX : kdX E A cc nL own ret h) (hd : decode cc pc = .ok (.istore i, 2)) (hn : i < nL) (hl2 : (i, .int x) :: L.filter (fun q => !(q.1 == i) && !(q.1 + 1 == i && q.2.category == 2)) = L2) (k : SWg E A nL Q Rl c0 s0 (pc + 2) L2 st) : SWg E A nL Q Rl c0 s0 pc L (.int x :: st) := by
  obtain ⟨p, e, R, s, m, args, below, meth, c⟩ := A
  intro H locs ls hl hR hS
  exact lv_istore hX.1 hX.2.1 hd hl hn hl2 (fun ls hl => k H locs ls hl hR hS)
theorem r_lload_n {q : Fin 4} {i : Nat} {x : Int64} (hX : kdX E A cc nL own ret h) (hd : decode cc pc = .ok (.lload_n q, 1)) (hi : (q : Nat) = i) (j : Nat) (hk : L[j]? = some (i, .long x)) (k : SWg E A nL Q Rl c0 s0 (pc + 1) L (.long x :: st)) : SWg E A nL Q Rl c0 s0 pc L st := by
  obtain ⟨p, e, R, s, m, args, below, meth, c⟩ := A
  intro H locs ls hl hR hS
  exact lv_lload_n hX.1 hX.2.1 hd hi (lv_at hl j hk) (k H locs ls hl hR hS)
theorem r_lload {i : Nat} {x : Int64} (hX : kdX E A cc nL own ret h) (hd : decode cc pc = .ok (.lload i, 2)) (j : Nat) (hk : L[j]? = some (i, .long x)) (k : SWg E A nL Q Rl c0 s0 (pc + 2) L (.long x :: st)) : SWg E A nL Q Rl c0 s0 pc L st := by
  obtain ⟨p, e, R, s, m, args, below, meth, c⟩ := A
  intro H locs ls hl hR hS
  exact lv_lload hX.1 hX.2.1 hd (lv_at hl j hk) (k H locs ls hl hR hS)
theorem r_lstore_n {q : Fin 4} {i : Nat} {x : Int64} {L2 : List (Nat × Value)} (hX : kdX E A cc nL own ret h) (hd : decode cc pc = .ok (.lstore_n q, 1)) (hi : (q : Nat) = i) (hn : i + 1 < nL) (hl2 : (i, .long x) :: L.filter (fun q => !(q.1 == i) && (!(q.1 == i + 1) && !(q.1 + 1 == i && q.2.category == 2))) = L2) (k : SWg E A nL Q Rl c0 s0 (pc + 1) L2 st) : SWg E A nL Q Rl c0 s0 pc L (.long x :: st) := by
  obtain ⟨p, e, R, s, m, args, below, meth, c⟩ := A
  intro H locs ls hl hR hS
  exact lv_lstore_n hX.1 hX.2.1 hd hi hl hn hl2 (fun ls hl => k H locs ls hl hR hS)
theorem r_lstore {i : Nat} {x : Int64} {L2 : List (Nat × Value)} (hX : kdX E A cc nL own ret h) (hd : decode cc pc = .ok (.lstore i, 2)) (hn : i + 1 < nL) (hl2 : (i, .long x) :: L.filter (fun q => !(q.1 == i) && (!(q.1 == i + 1) && !(q.1 + 1 == i && q.2.category == 2))) = L2) (k : SWg E A nL Q Rl c0 s0 (pc + 2) L2 st) : SWg E A nL Q Rl c0 s0 pc L (.long x :: st) := by
  obtain ⟨p, e, R, s, m, args, below, meth, c⟩ := A
  intro H locs ls hl hR hS
  exact lv_lstore hX.1 hX.2.1 hd hl hn hl2 (fun ls hl => k H locs ls hl hR hS)
theorem r_aload_n {q : Fin 4} {i : Nat} {x : Nat} (hX : kdX E A cc nL own ret h) (hd : decode cc pc = .ok (.aload_n q, 1)) (hi : (q : Nat) = i) (j : Nat) (hk : L[j]? = some (i, kr E x)) (k : SWg E A nL Q Rl c0 s0 (pc + 1) L (kr E x :: st)) : SWg E A nL Q Rl c0 s0 pc L st := by
  obtain ⟨p, e, R, s, m, args, below, meth, c⟩ := A
  intro H locs ls hl hR hS
  exact lv_aload_n hX.1 hX.2.1 hd hi (lv_at hl j hk) (k H locs ls hl hR hS)
theorem r_aload {i : Nat} {x : Nat} (hX : kdX E A cc nL own ret h) (hd : decode cc pc = .ok (.aload i, 2)) (j : Nat) (hk : L[j]? = some (i, kr E x)) (k : SWg E A nL Q Rl c0 s0 (pc + 2) L (kr E x :: st)) : SWg E A nL Q Rl c0 s0 pc L st := by
  obtain ⟨p, e, R, s, m, args, below, meth, c⟩ := A
  intro H locs ls hl hR hS
  exact lv_aload hX.1 hX.2.1 hd (lv_at hl j hk) (k H locs ls hl hR hS)
theorem r_astore_n {q : Fin 4} {i : Nat} {x : Nat} {L2 : List (Nat × Value)} (hX : kdX E A cc nL own ret h) (hd : decode cc pc = .ok (.astore_n q, 1)) (hi : (q : Nat) = i) (hn : i < nL) (hl2 : (i, kr E x) :: L.filter (fun q => !(q.1 == i) && !(q.1 + 1 == i && q.2.category == 2)) = L2) (k : SWg E A nL Q Rl c0 s0 (pc + 1) L2 st) : SWg E A nL Q Rl c0 s0 pc L (kr E x :: st) := by
  obtain ⟨p, e, R, s, m, args, below, meth, c⟩ := A
  intro H locs ls hl hR hS
  exact lv_astore_n hX.1 hX.2.1 hd hi hl hn hl2 (fun ls hl => k H locs ls hl hR hS)
theorem r_astore {i : Nat} {x : Nat} {L2 : List (Nat × Value)} (hX : kdX E A cc nL own ret h) (hd : decode cc pc = .ok (.astore i, 2)) (hn : i < nL) (hl2 : (i, kr E x) :: L.filter (fun q => !(q.1 == i) && !(q.1 + 1 == i && q.2.category == 2)) = L2) (k : SWg E A nL Q Rl c0 s0 (pc + 2) L2 st) : SWg E A nL Q Rl c0 s0 pc L (kr E x :: st) := by
  obtain ⟨p, e, R, s, m, args, below, meth, c⟩ := A
  intro H locs ls hl hR hS
  exact lv_astore hX.1 hX.2.1 hd hl hn hl2 (fun ls hl => k H locs ls hl hR hS)
theorem r_iinc {i : Nat} {n : Int} {x v : Int32} {L2 : List (Nat × Value)} (hX : kdX E A cc nL own ret h) (hd : decode cc pc = .ok (.iinc i n, 3)) (j : Nat) (hk : L[j]? = some (i, .int x)) (hv : x + Int32.ofInt n = v) (hn : i < nL) (hl2 : (i, Value.int v) :: L.filter (fun q => !(q.1 == i) && !(q.1 + 1 == i && q.2.category == 2)) = L2) (k : SWg E A nL Q Rl c0 s0 (pc + 3) L2 st) : SWg E A nL Q Rl c0 s0 pc L st := by
  obtain ⟨p, e, R, s, m, args, below, meth, c⟩ := A
  intro H locs ls hl hR hS
  exact lv_iinc hX.1 hX.2.1 hd hl hk hv hn hl2 (fun ls hl => k H locs ls hl hR hS)
theorem r_iadd {x y : Int32} (hX : kdX E A cc nL own ret h) (hd : decode cc pc = .ok (.iadd, 1))  (k : SWg E A nL Q Rl c0 s0 (pc + 1) L (.int (x + y) :: st)) : SWg E A nL Q Rl c0 s0 pc L (.int y :: .int x :: st) := by
  obtain ⟨p, e, R, s, m, args, below, meth, c⟩ := A
  intro H locs ls hl hR hS
  exact lv_iadd hX.1 hX.2.1 hd (k H locs ls hl hR hS)
theorem r_ladd {x y : Int64} (hX : kdX E A cc nL own ret h) (hd : decode cc pc = .ok (.ladd, 1))  (k : SWg E A nL Q Rl c0 s0 (pc + 1) L (.long (x + y) :: st)) : SWg E A nL Q Rl c0 s0 pc L (.long y :: .long x :: st) := by
  obtain ⟨p, e, R, s, m, args, below, meth, c⟩ := A
  intro H locs ls hl hR hS
  exact lv_ladd hX.1 hX.2.1 hd (k H locs ls hl hR hS)
theorem r_isub {x y : Int32} (hX : kdX E A cc nL own ret h) (hd : decode cc pc = .ok (.isub, 1))  (k : SWg E A nL Q Rl c0 s0 (pc + 1) L (.int (x - y) :: st)) : SWg E A nL Q Rl c0 s0 pc L (.int y :: .int x :: st) := by
  obtain ⟨p, e, R, s, m, args, below, meth, c⟩ := A
  intro H locs ls hl hR hS
  exact lv_isub hX.1 hX.2.1 hd (k H locs ls hl hR hS)
theorem r_lsub {x y : Int64} (hX : kdX E A cc nL own ret h) (hd : decode cc pc = .ok (.lsub, 1))  (k : SWg E A nL Q Rl c0 s0 (pc + 1) L (.long (x - y) :: st)) : SWg E A nL Q Rl c0 s0 pc L (.long y :: .long x :: st) := by
  obtain ⟨p, e, R, s, m, args, below, meth, c⟩ := A
  intro H locs ls hl hR hS
  exact lv_lsub hX.1 hX.2.1 hd (k H locs ls hl hR hS)
theorem r_imul {x y : Int32} (hX : kdX E A cc nL own ret h) (hd : decode cc pc = .ok (.imul, 1))  (k : SWg E A nL Q Rl c0 s0 (pc + 1) L (.int (x * y) :: st)) : SWg E A nL Q Rl c0 s0 pc L (.int y :: .int x :: st) := by
  obtain ⟨p, e, R, s, m, args, below, meth, c⟩ := A
  intro H locs ls hl hR hS
  exact lv_imul hX.1 hX.2.1 hd (k H locs ls hl hR hS)
theorem r_lmul {x y : Int64} (hX : kdX E A cc nL own ret h) (hd : decode cc pc = .ok (.lmul, 1))  (k : SWg E A nL Q Rl c0 s0 (pc + 1) L (.long (x * y) :: st)) : SWg E A nL Q Rl c0 s0 pc L (.long y :: .long x :: st) := by
  obtain ⟨p, e, R, s, m, args, below, meth, c⟩ := A
  intro H locs ls hl hR hS
  exact lv_lmul hX.1 hX.2.1 hd (k H locs ls hl hR hS)
theorem r_iand {x y : Int32} (hX : kdX E A cc nL own ret h) (hd : decode cc pc = .ok (.iand, 1))  (k : SWg E A nL Q Rl c0 s0 (pc + 1) L (.int (x &&& y) :: st)) : SWg E A nL Q Rl c0 s0 pc L (.int y :: .int x :: st) := by
  obtain ⟨p, e, R, s, m, args, below, meth, c⟩ := A
  intro H locs ls hl hR hS
  exact lv_iand hX.1 hX.2.1 hd (k H locs ls hl hR hS)
theorem r_ior {x y : Int32} (hX : kdX E A cc nL own ret h) (hd : decode cc pc = .ok (.ior, 1))  (k : SWg E A nL Q Rl c0 s0 (pc + 1) L (.int (x ||| y) :: st)) : SWg E A nL Q Rl c0 s0 pc L (.int y :: .int x :: st) := by
  obtain ⟨p, e, R, s, m, args, below, meth, c⟩ := A
  intro H locs ls hl hR hS
  exact lv_ior hX.1 hX.2.1 hd (k H locs ls hl hR hS)
theorem r_ixor {x y : Int32} (hX : kdX E A cc nL own ret h) (hd : decode cc pc = .ok (.ixor, 1))  (k : SWg E A nL Q Rl c0 s0 (pc + 1) L (.int (x ^^^ y) :: st)) : SWg E A nL Q Rl c0 s0 pc L (.int y :: .int x :: st) := by
  obtain ⟨p, e, R, s, m, args, below, meth, c⟩ := A
  intro H locs ls hl hR hS
  exact lv_ixor hX.1 hX.2.1 hd (k H locs ls hl hR hS)
theorem r_ishl {x y : Int32} (hX : kdX E A cc nL own ret h) (hd : decode cc pc = .ok (.ishl, 1))  (k : SWg E A nL Q Rl c0 s0 (pc + 1) L (.int (x <<< (y &&& 31)) :: st)) : SWg E A nL Q Rl c0 s0 pc L (.int y :: .int x :: st) := by
  obtain ⟨p, e, R, s, m, args, below, meth, c⟩ := A
  intro H locs ls hl hR hS
  exact lv_ishl hX.1 hX.2.1 hd (k H locs ls hl hR hS)
theorem r_ishr {x y : Int32} (hX : kdX E A cc nL own ret h) (hd : decode cc pc = .ok (.ishr, 1))  (k : SWg E A nL Q Rl c0 s0 (pc + 1) L (.int (x >>> (y &&& 31)) :: st)) : SWg E A nL Q Rl c0 s0 pc L (.int y :: .int x :: st) := by
  obtain ⟨p, e, R, s, m, args, below, meth, c⟩ := A
  intro H locs ls hl hR hS
  exact lv_ishr hX.1 hX.2.1 hd (k H locs ls hl hR hS)
theorem r_ineg {x : Int32} (hX : kdX E A cc nL own ret h) (hd : decode cc pc = .ok (.ineg, 1))  (k : SWg E A nL Q Rl c0 s0 (pc + 1) L (.int (-x) :: st)) : SWg E A nL Q Rl c0 s0 pc L (.int x :: st) := by
  obtain ⟨p, e, R, s, m, args, below, meth, c⟩ := A
  intro H locs ls hl hR hS
  exact lv_ineg hX.1 hX.2.1 hd (k H locs ls hl hR hS)
theorem r_i2l {x : Int32} (hX : kdX E A cc nL own ret h) (hd : decode cc pc = .ok (.i2l, 1))  (k : SWg E A nL Q Rl c0 s0 (pc + 1) L (.long x.toInt64 :: st)) : SWg E A nL Q Rl c0 s0 pc L (.int x :: st) := by
  obtain ⟨p, e, R, s, m, args, below, meth, c⟩ := A
  intro H locs ls hl hR hS
  exact lv_i2l hX.1 hX.2.1 hd rfl (k H locs ls hl hR hS)
theorem r_l2i {x : Int64} (hX : kdX E A cc nL own ret h) (hd : decode cc pc = .ok (.l2i, 1))  (k : SWg E A nL Q Rl c0 s0 (pc + 1) L (.int x.toInt32 :: st)) : SWg E A nL Q Rl c0 s0 pc L (.long x :: st) := by
  obtain ⟨p, e, R, s, m, args, below, meth, c⟩ := A
  intro H locs ls hl hR hS
  exact lv_l2i hX.1 hX.2.1 hd rfl (k H locs ls hl hR hS)
theorem r_lcmp {x y : Int64} (hX : kdX E A cc nL own ret h) (hd : decode cc pc = .ok (.lcmp, 1))  (k : SWg E A nL Q Rl c0 s0 (pc + 1) L (.int (lg_cmp x y) :: st)) : SWg E A nL Q Rl c0 s0 pc L (.long y :: .long x :: st) := by
  obtain ⟨p, e, R, s, m, args, below, meth, c⟩ := A
  intro H locs ls hl hR hS
  exact W.lcmp hX.1 hX.2.1 hd (k H locs ls hl hR hS)
theorem r_dup {v : Value} (hX : kdX E A cc nL own ret h) (hd : decode cc pc = .ok (.dup, 1)) (hv : v.category = 1) (k : SWg E A nL Q Rl c0 s0 (pc + 1) L (v :: v :: st)) : SWg E A nL Q Rl c0 s0 pc L (v :: st) := by
  obtain ⟨p, e, R, s, m, args, below, meth, c⟩ := A
  intro H locs ls hl hR hS
  exact lv_dup hX.1 hX.2.1 hd hv (k H locs ls hl hR hS)
theorem r_dup2 {v u : Value} (hX : kdX E A cc nL own ret h) (hd : decode cc pc = .ok (.dup2, 1)) (hv : v.category = 1) (hu : u.category = 1) (k : SWg E A nL Q Rl c0 s0 (pc + 1) L (v :: u :: v :: u :: st)) : SWg E A nL Q Rl c0 s0 pc L (v :: u :: st) := by
  obtain ⟨p, e, R, s, m, args, below, meth, c⟩ := A
  intro H locs ls hl hR hS
  exact lv_dup2_11 hX.1 hX.2.1 hd hv hu (k H locs ls hl hR hS)
theorem r_dup2L {v : Value} (hX : kdX E A cc nL own ret h) (hd : decode cc pc = .ok (.dup2, 1)) (hv : v.category = 2) (k : SWg E A nL Q Rl c0 s0 (pc + 1) L (v :: v :: st)) : SWg E A nL Q Rl c0 s0 pc L (v :: st) := by
  obtain ⟨p, e, R, s, m, args, below, meth, c⟩ := A
  intro H locs ls hl hR hS
  exact lv_dup2_2 hX.1 hX.2.1 hd hv (k H locs ls hl hR hS)
theorem r_pop {v : Value} (hX : kdX E A cc nL own ret h) (hd : decode cc pc = .ok (.pop, 1)) (hv : v.category = 1) (k : SWg E A nL Q Rl c0 s0 (pc + 1) L st) : SWg E A nL Q Rl c0 s0 pc L (v :: st) := by
  obtain ⟨p, e, R, s, m, args, below, meth, c⟩ := A
  intro H locs ls hl hR hS
  exact lv_pop hX.1 hX.2.1 hd hv (k H locs ls hl hR hS)
theorem r_pop2L {v : Value} (hX : kdX E A cc nL own ret h) (hd : decode cc pc = .ok (.pop2, 1)) (hv : v.category = 2) (k : SWg E A nL Q Rl c0 s0 (pc + 1) L st) : SWg E A nL Q Rl c0 s0 pc L (v :: st) := by
  obtain ⟨p, e, R, s, m, args, below, meth, c⟩ := A
  intro H locs ls hl hR hS
  exact lv_pop2_2 hX.1 hX.2.1 hd hv (k H locs ls hl hR hS)
theorem r_idiv {x y : Int32} {β : Type} {f : kdM → Option β} {w : β} (hX : kdX E A cc nL own ret h) (hd : decode cc pc = .ok (.idiv, 1)) (hh : nz y f σ = some w) (k : f σ = some w → SW E G z A nL σ (pc + 1) L (.int (x / y) :: st)) : SW E G z A nL σ pc L (.int y :: .int x :: st) := by
  have hne : ¬ y = 0 := fun q => by simp [nz, q] at hh
  have hf : f σ = some w := by simpa [nz, hne] using hh
  have k := k hf
  obtain ⟨p, e, R, s, m, args, below, meth, c⟩ := A
  intro H locs ls hl hR hS
  exact lv_idiv hX.1 hX.2.1 hd hne (k H locs ls hl hR hS)
theorem r_irem {x y : Int32} {β : Type} {f : kdM → Option β} {w : β} (hX : kdX E A cc nL own ret h) (hd : decode cc pc = .ok (.irem, 1)) (hh : nz y f σ = some w) (k : f σ = some w → SW E G z A nL σ (pc + 1) L (.int (krem x y) :: st)) : SW E G z A nL σ pc L (.int y :: .int x :: st) := by
  have hne : ¬ y = 0 := fun q => by simp [nz, q] at hh
  have hf : f σ = some w := by simpa [nz, hne] using hh
  have k := k hf
  obtain ⟨p, e, R, s, m, args, below, meth, c⟩ := A
  intro H locs ls hl hR hS
  exact lv_irem hX.1 hX.2.1 hd hne (k H locs ls hl hR hS)
theorem r_lrem {x y : Int64} {β : Type} {f : kdM → Option β} {w : β} (hX : kdX E A cc nL own ret h) (hd : decode cc pc = .ok (.lrem, 1)) (hh : nzL y f σ = some w) (k : f σ = some w → SW E G z A nL σ (pc + 1) L (.long (kremL x y) :: st)) : SW E G z A nL σ pc L (.long y :: .long x :: st) := by
  have hne : ¬ y = 0 := fun q => by simp [nzL, q] at hh
  have hf : f σ = some w := by simpa [nzL, hne] using hh
  have k := k hf
  obtain ⟨p, e, R, s, m, args, below, meth, c⟩ := A
  intro H locs ls hl hR hS
  exact lv_lrem hX.1 hX.2.1 hd hne (k H locs ls hl hR hS)
theorem r_letI {x : Int32} {β : Type} {f : Int32 → kdM → Option β} {w : β} (hh : ltI x f σ = some w) (k : ∀ y : Int32, f y σ = some w → SW E G z A nL σ pc L (.int y :: st)) : SW E G z A nL σ pc L (.int x :: st) := k x hh
theorem r_letL {x : Int64} {β : Type} {f : Int64 → kdM → Option β} {w : β} (hh : ltL x f σ = some w) (k : ∀ y : Int64, f y σ = some w → SW E G z A nL σ pc L (.long y :: st)) : SW E G z A nL σ pc L (.long x :: st) := k x hh
theorem r_iincL {i : Nat} {n : Int} {x : Int32} {β : Type} {f : Int32 → kdM → Option β} {w : β} {L2 : Int32 → List (Nat × Value)} (hX : kdX E A cc nL own ret h) (hd : decode cc pc = .ok (.iinc i n, 3)) (hh : ltI (x + Int32.ofInt n) f σ = some w) (j : Nat) (hk : L[j]? = some (i, .int x)) (hn : i < nL) (hl2 : ∀ v : Int32, (i, Value.int v) :: L.filter (fun q => !(q.1 == i) && !(q.1 + 1 == i && q.2.category == 2)) = L2 v) (k : ∀ v : Int32, f v σ = some w → SW E G z A nL σ (pc + 3) (L2 v) st) : SW E G z A nL σ pc L st := by
  have k := k _ hh
  obtain ⟨p, e, R, s, m, args, below, meth, c⟩ := A
  intro H locs ls hl hR hS
  exact lv_iinc hX.1 hX.2.1 hd hl hk rfl hn (hl2 _) (fun ls hl => k H locs ls hl hR hS)
theorem r_sub {L2 : List (Nat × Value)} (ks : List Nat) (hl2 : lv_pick L ks = L2) (k : SWg E A nL Q Rl c0 s0 pc L2 st) : SWg E A nL Q Rl c0 s0 pc L st := by
  obtain ⟨p, e, R, s, m, args, below, meth, c⟩ := A
  intro H locs ls hl hR hS
  exact k H locs ls (lv_sub hl ks hl2) hR hS
theorem r_goto {off : Int} {tgt : Nat} (hX : kdX E A cc nL own ret h) (hd : decode cc pc = .ok (.goto off, 3)) (ht : (pc : Int) + off = (tgt : Int)) (k : SWg E A nL Q Rl c0 s0 tgt L st) : SWg E A nL Q Rl c0 s0 pc L st := by
  obtain ⟨p, e, R, s, m, args, below, meth, c⟩ := A
  intro H locs ls hl hR hS
  exact lv_goto hX.1 hX.2.1 hd ht (k H locs ls hl hR hS)
theorem r_if_eq {x : Int32} {off : Int} {tgt : Nat} {β : Type} {f1 f2 : kdM → Option β} {w : β} (hX : kdX E A cc nL own ret h) (hd : decode cc pc = .ok (.ifCond .eq off, 3)) (ht : (pc : Int) + off = (tgt : Int)) (hh : cnd (x = 0) f1 f2 σ = some w) (k1 : f1 σ = some w → SW E G z A nL σ tgt L st) (k2 : f2 σ = some w → SW E G z A nL σ (pc + 3) L st) : SW E G z A nL σ pc L (.int x :: st) := by
  obtain ⟨p, e, R, s, m, args, below, meth, c⟩ := A
  intro H locs ls hl hR hS
  refine lv_if_eq hX.1 hX.2.1 hd ht (fun q => ?_) (fun q => ?_)
  · exact k1 (by simpa only [cnd, if_pos q] using hh) H locs ls hl hR hS
  · exact k2 (by simpa only [cnd, if_neg q] using hh) H locs ls hl hR hS
theorem r_if_ne {x : Int32} {off : Int} {tgt : Nat} {β : Type} {f1 f2 : kdM → Option β} {w : β} (hX : kdX E A cc nL own ret h) (hd : decode cc pc = .ok (.ifCond .ne off, 3)) (ht : (pc : Int) + off = (tgt : Int)) (hh : cnd (x = 0) f1 f2 σ = some w) (k1 : f1 σ = some w → SW E G z A nL σ (pc + 3) L st) (k2 : f2 σ = some w → SW E G z A nL σ tgt L st) : SW E G z A nL σ pc L (.int x :: st) := by
  obtain ⟨p, e, R, s, m, args, below, meth, c⟩ := A
  intro H locs ls hl hR hS
  refine lv_if_ne hX.1 hX.2.1 hd ht (fun q => ?_) (fun q => ?_)
  · exact k2 (by simpa [cnd, q] using hh) H locs ls hl hR hS
  · exact k1 (by simpa [cnd, q] using hh) H locs ls hl hR hS
theorem r_if_lt {x : Int32} {off : Int} {tgt : Nat} {β : Type} {f1 f2 : kdM → Option β} {w : β} (hX : kdX E A cc nL own ret h) (hd : decode cc pc = .ok (.ifCond .lt off, 3)) (ht : (pc : Int) + off = (tgt : Int)) (hh : cnd (x < 0) f1 f2 σ = some w) (k1 : f1 σ = some w → SW E G z A nL σ tgt L st) (k2 : f2 σ = some w → SW E G z A nL σ (pc + 3) L st) : SW E G z A nL σ pc L (.int x :: st) := by
  obtain ⟨p, e, R, s, m, args, below, meth, c⟩ := A
  intro H locs ls hl hR hS
  refine lv_if_lt hX.1 hX.2.1 hd ht (fun q => ?_) (fun q => ?_)
  · exact k1 (by simpa only [cnd, if_pos q] using hh) H locs ls hl hR hS
  · exact k2 (by simpa only [cnd, if_neg q] using hh) H locs ls hl hR hS
theorem r_if_ge {x : Int32} {off : Int} {tgt : Nat} {β : Type} {f1 f2 : kdM → Option β} {w : β} (hX : kdX E A cc nL own ret h) (hd : decode cc pc = .ok (.ifCond .ge off, 3)) (ht : (pc : Int) + off = (tgt : Int)) (hh : cnd (0 ≤ x) f1 f2 σ = some w) (k1 : f1 σ = some w → SW E G z A nL σ tgt L st) (k2 : f2 σ = some w → SW E G z A nL σ (pc + 3) L st) : SW E G z A nL σ pc L (.int x :: st) := by
  obtain ⟨p, e, R, s, m, args, below, meth, c⟩ := A
  intro H locs ls hl hR hS
  refine lv_if_ge hX.1 hX.2.1 hd ht (fun q => ?_) (fun q => ?_)
  · exact k1 (by simpa only [cnd, if_pos q] using hh) H locs ls hl hR hS
  · exact k2 (by simpa only [cnd, if_neg q] using hh) H locs ls hl hR hS
theorem r_if_gt {x : Int32} {off : Int} {tgt : Nat} {β : Type} {f1 f2 : kdM → Option β} {w : β} (hX : kdX E A cc nL own ret h) (hd : decode cc pc = .ok (.ifCond .gt off, 3)) (ht : (pc : Int) + off = (tgt : Int)) (hh : cnd (0 < x) f1 f2 σ = some w) (k1 : f1 σ = some w → SW E G z A nL σ tgt L st) (k2 : f2 σ = some w → SW E G z A nL σ (pc + 3) L st) : SW E G z A nL σ pc L (.int x :: st) := by
  obtain ⟨p, e, R, s, m, args, below, meth, c⟩ := A
  intro H locs ls hl hR hS
  refine lv_if_gt hX.1 hX.2.1 hd ht (fun q => ?_) (fun q => ?_)
  · exact k1 (by simpa only [cnd, if_pos q] using hh) H locs ls hl hR hS
  · exact k2 (by simpa only [cnd, if_neg q] using hh) H locs ls hl hR hS
theorem r_if_le {x : Int32} {off : Int} {tgt : Nat} {β : Type} {f1 f2 : kdM → Option β} {w : β} (hX : kdX E A cc nL own ret h) (hd : decode cc pc = .ok (.ifCond .le off, 3)) (ht : (pc : Int) + off = (tgt : Int)) (hh : cnd (x ≤ 0) f1 f2 σ = some w) (k1 : f1 σ = some w → SW E G z A nL σ tgt L st) (k2 : f2 σ = some w → SW E G z A nL σ (pc + 3) L st) : SW E G z A nL σ pc L (.int x :: st) := by
  obtain ⟨p, e, R, s, m, args, below, meth, c⟩ := A
  intro H locs ls hl hR hS
  refine lv_if_le hX.1 hX.2.1 hd ht (fun q => ?_) (fun q => ?_)
  · exact k1 (by simpa only [cnd, if_pos q] using hh) H locs ls hl hR hS
  · exact k2 (by simpa only [cnd, if_neg q] using hh) H locs ls hl hR hS
theorem r_icmp_eq {x y : Int32} {off : Int} {tgt : Nat} {β : Type} {f1 f2 : kdM → Option β} {w : β} (hX : kdX E A cc nL own ret h) (hd : decode cc pc = .ok (.if_icmp .eq off, 3)) (ht : (pc : Int) + off = (tgt : Int)) (hh : cnd (x = y) f1 f2 σ = some w) (k1 : f1 σ = some w → SW E G z A nL σ tgt L st) (k2 : f2 σ = some w → SW E G z A nL σ (pc + 3) L st) : SW E G z A nL σ pc L (.int y :: .int x :: st) := by
  obtain ⟨p, e, R, s, m, args, below, meth, c⟩ := A
  intro H locs ls hl hR hS
  refine lv_icmp_eq hX.1 hX.2.1 hd ht (fun q => ?_) (fun q => ?_)
  · exact k1 (by simpa only [cnd, if_pos q] using hh) H locs ls hl hR hS
  · exact k2 (by simpa only [cnd, if_neg q] using hh) H locs ls hl hR hS
theorem r_icmp_ne {x y : Int32} {off : Int} {tgt : Nat} {β : Type} {f1 f2 : kdM → Option β} {w : β} (hX : kdX E A cc nL own ret h) (hd : decode cc pc = .ok (.if_icmp .ne off, 3)) (ht : (pc : Int) + off = (tgt : Int)) (hh : cnd (x = y) f1 f2 σ = some w) (k1 : f1 σ = some w → SW E G z A nL σ (pc + 3) L st) (k2 : f2 σ = some w → SW E G z A nL σ tgt L st) : SW E G z A nL σ pc L (.int y :: .int x :: st) := by
  obtain ⟨p, e, R, s, m, args, below, meth, c⟩ := A
  intro H locs ls hl hR hS
  refine lv_icmp_ne hX.1 hX.2.1 hd ht (fun q => ?_) (fun q => ?_)
  · exact k2 (by simpa [cnd, q] using hh) H locs ls hl hR hS
  · exact k1 (by simpa [cnd, q] using hh) H locs ls hl hR hS
theorem r_icmp_lt {x y : Int32} {off : Int} {tgt : Nat} {β : Type} {f1 f2 : kdM → Option β} {w : β} (hX : kdX E A cc nL own ret h) (hd : decode cc pc = .ok (.if_icmp .lt off, 3)) (ht : (pc : Int) + off = (tgt : Int)) (hh : cnd (x < y) f1 f2 σ = some w) (k1 : f1 σ = some w → SW E G z A nL σ tgt L st) (k2 : f2 σ = some w → SW E G z A nL σ (pc + 3) L st) : SW E G z A nL σ pc L (.int y :: .int x :: st) := by
  obtain ⟨p, e, R, s, m, args, below, meth, c⟩ := A
  intro H locs ls hl hR hS
  refine lv_icmp_lt hX.1 hX.2.1 hd ht (fun q => ?_) (fun q => ?_)
  · exact k1 (by simpa only [cnd, if_pos q] using hh) H locs ls hl hR hS
  · exact k2 (by simpa only [cnd, if_neg q] using hh) H locs ls hl hR hS
theorem r_icmp_ge {x y : Int32} {off : Int} {tgt : Nat} {β : Type} {f1 f2 : kdM → Option β} {w : β} (hX : kdX E A cc nL own ret h) (hd : decode cc pc = .ok (.if_icmp .ge off, 3)) (ht : (pc : Int) + off = (tgt : Int)) (hh : cnd (y ≤ x) f1 f2 σ = some w) (k1 : f1 σ = some w → SW E G z A nL σ tgt L st) (k2 : f2 σ = some w → SW E G z A nL σ (pc + 3) L st) : SW E G z A nL σ pc L (.int y :: .int x :: st) := by
  obtain ⟨p, e, R, s, m, args, below, meth, c⟩ := A
  intro H locs ls hl hR hS
  refine lv_icmp_ge hX.1 hX.2.1 hd ht (fun q => ?_) (fun q => ?_)
  · exact k1 (by simpa only [cnd, if_pos q] using hh) H locs ls hl hR hS
  · exact k2 (by simpa only [cnd, if_neg q] using hh) H locs ls hl hR hS
theorem r_icmp_gt {x y : Int32} {off : Int} {tgt : Nat} {β : Type} {f1 f2 : kdM → Option β} {w : β} (hX : kdX E A cc nL own ret h) (hd : decode cc pc = .ok (.if_icmp .gt off, 3)) (ht : (pc : Int) + off = (tgt : Int)) (hh : cnd (y < x) f1 f2 σ = some w) (k1 : f1 σ = some w → SW E G z A nL σ tgt L st) (k2 : f2 σ = some w → SW E G z A nL σ (pc + 3) L st) : SW E G z A nL σ pc L (.int y :: .int x :: st) := by
  obtain ⟨p, e, R, s, m, args, below, meth, c⟩ := A
  intro H locs ls hl hR hS
  refine lv_icmp_gt hX.1 hX.2.1 hd ht (fun q => ?_) (fun q => ?_)
  · exact k1 (by simpa only [cnd, if_pos q] using hh) H locs ls hl hR hS
  · exact k2 (by simpa only [cnd, if_neg q] using hh) H locs ls hl hR hS
theorem r_icmp_le {x y : Int32} {off : Int} {tgt : Nat} {β : Type} {f1 f2 : kdM → Option β} {w : β} (hX : kdX E A cc nL own ret h) (hd : decode cc pc = .ok (.if_icmp .le off, 3)) (ht : (pc : Int) + off = (tgt : Int)) (hh : cnd (x ≤ y) f1 f2 σ = some w) (k1 : f1 σ = some w → SW E G z A nL σ tgt L st) (k2 : f2 σ = some w → SW E G z A nL σ (pc + 3) L st) : SW E G z A nL σ pc L (.int y :: .int x :: st) := by
  obtain ⟨p, e, R, s, m, args, below, meth, c⟩ := A
  intro H locs ls hl hR hS
  refine lv_icmp_le hX.1 hX.2.1 hd ht (fun q => ?_) (fun q => ?_)
  · exact k1 (by simpa only [cnd, if_pos q] using hh) H locs ls hl hR hS
  · exact k2 (by simpa only [cnd, if_neg q] using hh) H locs ls hl hR hS
theorem r_case {q : Prop} [Decidable q] {β : Type} {f1 f2 : kdM → Option β} {w : β} (hh : cnd q f1 f2 σ = some w) (k1 : q → f1 σ = some w → SW E G z A nL σ pc L st) (k2 : ¬ q → f2 σ = some w → SW E G z A nL σ pc L st) : SW E G z A nL σ pc L st := by
  by_cases hq : q
  · exact k1 hq (by simpa only [cnd, if_pos hq] using hh)
  · exact k2 hq (by simpa only [cnd, if_neg hq] using hh)
theorem r_tsIn {dflt lo hi : Int} {offs : Array Int} {len : Nat} {x v : Int32} {off : Int} {tgt : Nat} (hX : kdX E A cc nL own ret h) (hd : decode cc pc = .ok (.tableswitch dflt lo hi offs, len)) (hv : x = v) (h1 : ¬ v.toInt < lo) (h2 : ¬ hi < v.toInt) (ho : offs[(v.toInt - lo).toNat]? = some off) (ht : (pc : Int) + off = (tgt : Int)) (k : SW E G z A nL σ tgt L st) : SW E G z A nL σ pc L (.int x :: st) := by
  subst hv
  obtain ⟨p, e, R, s, m, args, below, meth, c⟩ := A
  intro H locs ls hl hR hS
  exact lv_tableIn hX.1 hX.2.1 hd h1 h2 ho ht (k H locs ls hl hR hS)
theorem r_tsOut {dflt lo hi : Int} {offs : Array Int} {len : Nat} {x : Int32} {tgt : Nat} (hX : kdX E A cc nL own ret h) (hd : decode cc pc = .ok (.tableswitch dflt lo hi offs, len)) (hv : x.toInt < lo ∨ hi < x.toInt) (ht : (pc : Int) + dflt = (tgt : Int)) (k : SW E G z A nL σ tgt L st) : SW E G z A nL σ pc L (.int x :: st) := by
  obtain ⟨p, e, R, s, m, args, below, meth, c⟩ := A
  intro H locs ls hl hR hS
  exact lv_tableOut hX.1 hX.2.1 hd hv ht (k H locs ls hl hR hS)
theorem r_ls {dflt : Int} {ps : Array (Int × Int)} {len : Nat} {x : Int32} {off : Int} {tgt : Nat} (hX : kdX E A cc nL own ret h) (hd : decode cc pc = .ok (.lookupswitch dflt ps, len)) (hp : (ps.toList.zip (ps.toList.drop 1)).all (fun (a, next) => a.1 < next.1) = true) (ho : Op.lookupswitch.offset ps.toList dflt x.toInt = off) (ht : (pc : Int) + off = (tgt : Int)) (k : SW E G z A nL σ tgt L st) : SW E G z A nL σ pc L (.int x :: st) := by
  obtain ⟨p, e, R, s, m, args, below, meth, c⟩ := A
  intro H locs ls hl hR hS
  exact lv_lookup hX.1 hX.2.1 hd hp ho ht (k H locs ls hl hR hS)
theorem kd_ne {x k : Int32} {a : Int} (h : ¬ x = k) (hk : k.toInt = a) : x.toInt ≠ a := fun q => h (Int32.toInt_inj.mp (by rw [hk]; exact q))
/-- a field, as the class's table and the tables' words have it -/
def kdF (own : String) (idx ci k : Nat) : Prop := ∃ (C : String) (T : u_T) (N : Nat), vwCl[ci]? = some (C, T, N) ∧ k < N ∧ Cond.fieldLink own idx C (T k).2.1 (T k).2.2.1 ∈ kdtb ∧ (T k).1 = C ∧ (∀ w ∈ u_ws C T N, w ∈ kdtb) ∧ (∀ a, a < N → ∀ b, b < N → a ≠ b → (T a).2.1 ≠ (T b).2.1) ∧ ∃ ty : Nat → FieldType, (∀ k, k < N → parseFieldDescriptor (T k).2.2.1 = some (ty k)) ∧ (kdv ci k = 0 → (T k).2.2.2 = false → ty k = .int)
theorem kd_get {p : Program} {e : Env} {R : Room} {s : State} {m : MethodId} {args : Array Value} {below : List Frame} {meth : Method} {c : Code} {H : Heap} {locs : List Loc} {ls : Array Slot} {Q : State → Prop} {ci k idx a : Nat} (hx : p.tables.exec = Jvm.exec) (hb : c.code = cc) (hown : s.vm.findClass own = some m.cls) (hts : ∀ w ∈ kdtb, w.before args s = true) (hK : va_K E.2.1 vwCl (kdty E.2.2.1) s) (hd : decode cc pc = .ok (.getfield idx, 3)) (hf : kdF own idx ci k) (hR : kdR E G σ H) (hci : (G.1 a).1 = ci)
    (kk : W p E.1 e R s m args below meth c H locs c0 s0 Q (F0 m (pc + 3) ls (kdV E G σ a k :: st))) : W p E.1 e R s m args below meth c H locs c0 s0 Q (F0 m pc ls (kr E a :: st)) := by
  obtain ⟨C, T, N, hc, hk, hlink, hC, hin, -⟩ := hf
  have hci13 : ci < 13 := Nat.lt_of_lt_of_le (List.getElem?_eq_some_iff.mp hc).1 (Nat.le_of_ble_eq_true rfl)
  obtain ⟨r, h1, cell, q1, q2, q3, q4⟩ := (hR.2 a (by rw [hci]; omega)).1 (by rw [hci]; exact hci13)
  rw [hci] at h1 q2 q4
  have hr : r = (C, T, N) := Option.some.inj (h1.symm.trans hc)
  subst hr
  obtain ⟨hS, hfc, kC, hkC, hkind⟩ := hK.1 ci _ hc
  obtain ⟨cf, kf, fi, f, hi, hsl⟩ := hS k hk
  have hi2 := hi
  rw [hC] at hi2
  refine W.getf hx hb hown (hts _ hlink) hi2 (u_facts hfc hkC (u_lays hts hin hk) hi).1 q1 (by rw [q3]; exact fun h => by cases h) (v := kdV E G σ a k) ?_ rfl rfl hd kk
  rw [hsl, q4 k hk]
theorem r_gI {ci k idx a : Nat} {β : Type} {f : Int32 → kdM → Option β} {w : β} (hX : kdX E A cc nL own ret h) (hd : decode cc pc = .ok (.getfield idx, 3)) (hf : kdF own idx ci k) (hv : kdv ci k = 0) (hh : gI G ci k a f σ = some w) (kk : ∀ v : Int32, f v σ = some w → SW E G z A nL σ (pc + 3) L (.int v :: st)) : SW E G z A nL σ pc L (kr E a :: st) := by
  unfold gI at hh
  split at hh
  case isFalse => cases hh
  case isTrue hci =>
    have kk := kk _ hh
    obtain ⟨p, e, R, s, m, args, below, meth, c⟩ := A
    intro H locs ls hl hR hS
    refine kd_get hX.1 hX.2.1 hX.2.2.2.1 hX.2.2.2.2.1 hX.2.2.2.2.2.1 hd hf hR hci ?_
    have e : kdV E G σ a k = .int (σ.1 a k) := by simp only [kdV, hci, hv, if_true]
    rw [e]
    exact kk H locs ls hl hR hS
theorem r_gR {ci k idx a : Nat} {β : Type} {f : Nat → kdM → Option β} {w : β} (hX : kdX E A cc nL own ret h) (hd : decode cc pc = .ok (.getfield idx, 3)) (hf : kdF own idx ci k) (hv : kdv ci k = 2) (hh : gR G ci k a f σ = some w) (kk : ∀ b : Nat, f b σ = some w → SW E G z A nL σ (pc + 3) L (kr E b :: st)) : SW E G z A nL σ pc L (kr E a :: st) := by
  unfold gR at hh
  split at hh
  case isFalse => cases hh
  case isTrue hci =>
    cases hb : G.2.1 a k with
    | none => rw [hb] at hh; cases hh
    | some b =>
      rw [hb] at hh
      have kk := kk b hh
      obtain ⟨p, e, R, s, m, args, below, meth, c⟩ := A
      intro H locs ls hl hR hS
      refine kd_get hX.1 hX.2.1 hX.2.2.2.1 hX.2.2.2.2.1 hX.2.2.2.2.2.1 hd hf hR hci ?_
      have e : kdV E G σ a k = kr E b := by simp [kdV, hci, hv, hb, va_rf]
      rw [e]
      exact kk H locs ls hl hR hS
theorem r_sI {ci k idx a : Nat} {v : Int32} {β : Type} {f : kdM → Option β} {w : β} (hX : kdX E A cc nL own ret h) (hd : decode cc pc = .ok (.putfield idx, 3)) (hf : kdF own idx ci k) (hv : kdv ci k = 0) (hfin : ∀ q, vwCl[ci]? = some q → (q.2.1 k).2.2.2 = false) (hh : sI G ci k a v f σ = some w) (kk : ∀ σ1 : kdM, f σ1 = some w → SW E G z A nL σ1 (pc + 3) L st) : SW E G z A nL σ pc L (.int v :: kr E a :: st) := by
  unfold sI at hh
  split at hh
  case isFalse => cases hh
  case isTrue hci =>
    have kk := kk _ hh
    obtain ⟨p, e, R, s, m, args, below, meth, c⟩ := A
    intro H locs ls hl hR hS
    obtain ⟨C, T, N, hc, hk, hlink, hC, hin, hnm, ty0, hty, hint⟩ := hf
    have hts := hX.2.2.2.2.1
    have hK := hX.2.2.2.2.2.1
    have hown := hX.2.2.2.1
    have hfin : (T k).2.2.2 = false := hfin _ hc
    have hint := hint hv hfin
    have hci13 : ci < 13 := Nat.lt_of_lt_of_le (List.getElem?_eq_some_iff.mp hc).1 (Nat.le_of_ble_eq_true rfl)
    obtain ⟨r, h1, cell, q1, q2, q3, q4⟩ := (hR.2 a (by rw [hci]; omega)).1 (by rw [hci]; exact hci13)
    rw [hci] at h1 q2 q4
    have hr : r = (C, T, N) := Option.some.inj (h1.symm.trans hc)
    subst hr
    have hap := va_apart (own := own) hts hin ty0 hty hnm hK hc
    obtain ⟨hS1, hfc, kC, hkC, hkind⟩ := hK.1 ci _ hc
    obtain ⟨cf, kf, fi, fd, hi, hsl⟩ := hS1 k hk
    have hi2 := hi
    rw [hC] at hi2
    have hlay := hts _ (hin _ (u_in_lay hk))
    unfold u_lay at hlay
    rw [if_neg (by rw [hfin]; decide)] at hlay
    have hst := (u_facts hfc hkC (u_lays hts hin hk) hi).1
    have h6 := u_store (ty := .int) (v := .int v) hfc hkC hkind hlay hi (by rw [hty k hk, hint]) rfl rfl
    refine W.putK hX.1 hX.2.1 (f := fd) ⟨hown, hts _ hlink, ⟨_, _, _, hi2⟩, hst⟩ (by rw [q2]; exact h6) q1 q3 (by rw [hsl]; exact k2_hasslot (q4 k hk)) rfl rfl hd fun H' e1 e2 e3 => ?_
    rw [hsl] at e1 ⊢
    refine kk H' _ ls hl ?_ (hS.put e2 e3 (Nat.le_add_right _ _))
    refine hR.set (a := a) e2 e3 (fun b hb => u2_row _ _ _ _ hb) (fun _ _ => rfl) ⟨fun _ => ⟨_, by rw [hci]; exact hc, ?_⟩, fun h13 => absurd h13 (by rw [hci]; omega)⟩
    rw [hci]
    refine t_OB.to (V := updV (kdV E G σ a) k (.int v)) ⟨_, e1, q2, q3, t_set q4 hap hk (.int v)⟩ (fun j hj => ?_)
    by_cases hjk : j = k
    · subst hjk
      simp [updV, kdV, hci, hv, u2_same]
    · simp [updV, hjk, kdV, hci, u2_nk _ _ _ _ hjk]
theorem kd_in {i : Int32} {n : Nat} (h : 0 ≤ i.toInt ∧ i.toInt < (n : Int)) : vp_in i n := vp_in_iff.mpr h
theorem r_aI {a : Nat} {i : Int32} {β : Type} {f : Int32 → kdM → Option β} {w : β} (hX : kdX E A cc nL own ret h) (hd : decode cc pc = .ok (.iaload, 1)) (hh : aI G a i f σ = some w) (kk : ∀ v : Int32, f v σ = some w → SW E G z A nL σ (pc + 1) L (.int v :: st)) : SW E G z A nL σ pc L (.int i :: kr E a :: st) := by
  unfold aI at hh
  split at hh
  case isFalse => cases hh
  case isTrue hq =>
    have kk := kk _ hh
    obtain ⟨p, e, R, s, m, args, below, meth, c⟩ := A
    intro H locs ls hl hR hS
    obtain ⟨hk, hin⟩ := hq
    have hcell := (hR.2 a (by rw [hk]; omega)).2 (by rw [hk]; omega)
    have e : kdV E G σ a (ix i) = .int (σ.1 a (ix i)) := by simp [kdV, hk, kdv]
    refine W.iald (v := .int (σ.1 a (ix i))) hX.1 hX.2.1 hcell (by rw [hk]; exact (hX.2.2.2.2.2.1.2 0 _ rfl).1 _ _) (fun q => by cases q) ?_ ?_ rfl rfl hd (kk H locs ls hl hR hS)
    · rw [arrV_size]; exact kd_in hin
    · rw [← e]; exact arrV_read _ _ (show ix i < (G.1 a).2 by unfold ix; omega)
theorem r_aZ {a : Nat} {i : Int32} {β : Type} {f : Int32 → kdM → Option β} {w : β} (hX : kdX E A cc nL own ret h) (hd : decode cc pc = .ok (.baload, 1)) (hh : aZ G a i f σ = some w) (kk : ∀ v : Int32, f v σ = some w → SW E G z A nL σ (pc + 1) L (.int v :: st)) : SW E G z A nL σ pc L (.int i :: kr E a :: st) := by
  unfold aZ at hh
  split at hh
  case isFalse => cases hh
  case isTrue hq =>
    have kk := kk _ hh
    obtain ⟨p, e, R, s, m, args, below, meth, c⟩ := A
    intro H locs ls hl hR hS
    obtain ⟨hk, hin⟩ := hq
    have hcell := (hR.2 a (by rw [hk]; omega)).2 (by rw [hk]; omega)
    have e : kdV E G σ a (ix i) = .int (σ.1 a (ix i)) := by simp [kdV, hk, kdv]
    refine W.zald (v := .int (σ.1 a (ix i))) hX.1 hX.2.1 hcell (by rw [hk]; exact (hX.2.2.2.2.2.1.2 2 _ rfl).1 _ _) (fun q => by cases q) ?_ ?_ rfl rfl hd (kk H locs ls hl hR hS)
    · rw [arrV_size]; exact kd_in hin
    · rw [← e]; exact arrV_read _ _ (show ix i < (G.1 a).2 by unfold ix; omega)
theorem r_aL {a : Nat} {i : Int32} {β : Type} {f : Int64 → kdM → Option β} {w : β} (hX : kdX E A cc nL own ret h) (hd : decode cc pc = .ok (.laload, 1)) (hh : aL G a i f σ = some w) (kk : ∀ v : Int64, f v σ = some w → SW E G z A nL σ (pc + 1) L (.long v :: st)) : SW E G z A nL σ pc L (.int i :: kr E a :: st) := by
  unfold aL at hh
  split at hh
  case isFalse => cases hh
  case isTrue hq =>
    have kk := kk _ hh
    obtain ⟨p, e, R, s, m, args, below, meth, c⟩ := A
    intro H locs ls hl hR hS
    obtain ⟨hk, hin⟩ := hq
    have hcell := (hR.2 a (by rw [hk]; omega)).2 (by rw [hk]; omega)
    have e : kdV E G σ a (ix i) = .long (σ.2 a (ix i)) := by simp [kdV, hk, kdv]
    refine W.lald (v := .long (σ.2 a (ix i))) hX.1 hX.2.1 hcell (by rw [hk]; exact (hX.2.2.2.2.2.1.2 1 _ rfl).1 _ _) (fun q => by cases q) ?_ ?_ rfl rfl hd (kk H locs ls hl hR hS)
    · rw [arrV_size]; exact kd_in hin
    · rw [← e]; exact arrV_read _ _ (show ix i < (G.1 a).2 by unfold ix; omega)
theorem r_aN {a : Nat} {β : Type} {f : Int32 → kdM → Option β} {w : β} (hX : kdX E A cc nL own ret h) (hd : decode cc pc = .ok (.arraylength, 1)) (hh : aN G a f σ = some w) (kk : ∀ v : Int32, f v σ = some w → SW E G z A nL σ (pc + 1) L (.int v :: st)) : SW E G z A nL σ pc L (kr E a :: st) := by
  unfold aN at hh
  split at hh
  case isFalse => cases hh
  case isTrue hk =>
    have kk := kk _ hh
    obtain ⟨p, e, R, s, m, args, below, meth, c⟩ := A
    intro H locs ls hl hR hS
    have hcell := (hR.2 a (by rw [hk]; omega)).2 (by rw [hk]; omega)
    exact W.alen (n := Int32.ofNat (G.1 a).2) hX.1 hX.2.1 hcell (by rw [hk]; exact (hX.2.2.2.2.2.1.2 0 _ rfl).1 _ _) (by rw [arrV_size] <;> rfl) rfl rfl hd (kk H locs ls hl hR hS)
theorem r_aR16 {a : Nat} {i : Int32} {β : Type} {f : Nat → kdM → Option β} {w : β} (hX : kdX E A cc nL own ret h) (hd : decode cc pc = .ok (.aaload, 1)) (hh : aR G 16 a i f σ = some w) (kk : ∀ b : Nat, f b σ = some w → SW E G z A nL σ (pc + 1) L (kr E b :: st)) : SW E G z A nL σ pc L (.int i :: kr E a :: st) := by
  unfold aR at hh
  split at hh
  case isFalse => cases hh
  case isTrue hq =>
    cases hb : G.2.1 a (ix i) with
    | none => rw [hb] at hh; cases hh
    | some b =>
      rw [hb] at hh
      have kk := kk b hh
      obtain ⟨p, e, R, s, m, args, below, meth, c⟩ := A
      intro H locs ls hl hR hS
      obtain ⟨hk, hin⟩ := hq
      have hcell := (hR.2 a (by rw [hk]; omega)).2 (by rw [hk]; omega)
      have e : kdV E G σ a (ix i) = kr E b := by simp [kdV, hk, kdv, hb, va_rf]
      refine W.aald (v := kr E b) hX.1 hX.2.1 hcell (by rw [hk]; exact (hX.2.2.2.2.2.1.2 3 _ rfl).1 _ _) rfl (fun q => by cases q) ?_ ?_ rfl rfl hd (kk H locs ls hl hR hS)
      · rw [arrV_size]; exact kd_in hin
      · rw [← e]; exact arrV_read _ _ (show ix i < (G.1 a).2 by unfold ix; omega)
theorem r_aR17 {a : Nat} {i : Int32} {β : Type} {f : Nat → kdM → Option β} {w : β} (hX : kdX E A cc nL own ret h) (hd : decode cc pc = .ok (.aaload, 1)) (hh : aR G 17 a i f σ = some w) (kk : ∀ b : Nat, f b σ = some w → SW E G z A nL σ (pc + 1) L (kr E b :: st)) : SW E G z A nL σ pc L (.int i :: kr E a :: st) := by
  unfold aR at hh
  split at hh
  case isFalse => cases hh
  case isTrue hq =>
    cases hb : G.2.1 a (ix i) with
    | none => rw [hb] at hh; cases hh
    | some b =>
      rw [hb] at hh
      have kk := kk b hh
      obtain ⟨p, e, R, s, m, args, below, meth, c⟩ := A
      intro H locs ls hl hR hS
      obtain ⟨hk, hin⟩ := hq
      have hcell := (hR.2 a (by rw [hk]; omega)).2 (by rw [hk]; omega)
      have e : kdV E G σ a (ix i) = kr E b := by simp [kdV, hk, kdv, hb, va_rf]
      refine W.aald (v := kr E b) hX.1 hX.2.1 hcell (by rw [hk]; exact (hX.2.2.2.2.2.1.2 4 _ rfl).1 _ _) rfl (fun q => by cases q) ?_ ?_ rfl rfl hd (kk H locs ls hl hR hS)
      · rw [arrV_size]; exact kd_in hin
      · rw [← e]; exact arrV_read _ _ (show ix i < (G.1 a).2 by unfold ix; omega)
theorem r_aR18 {a : Nat} {i : Int32} {β : Type} {f : Nat → kdM → Option β} {w : β} (hX : kdX E A cc nL own ret h) (hd : decode cc pc = .ok (.aaload, 1)) (hh : aR G 18 a i f σ = some w) (kk : ∀ b : Nat, f b σ = some w → SW E G z A nL σ (pc + 1) L (kr E b :: st)) : SW E G z A nL σ pc L (.int i :: kr E a :: st) := by
  unfold aR at hh
  split at hh
  case isFalse => cases hh
  case isTrue hq =>
    cases hb : G.2.1 a (ix i) with
    | none => rw [hb] at hh; cases hh
    | some b =>
      rw [hb] at hh
      have kk := kk b hh
      obtain ⟨p, e, R, s, m, args, below, meth, c⟩ := A
      intro H locs ls hl hR hS
      obtain ⟨hk, hin⟩ := hq
      have hcell := (hR.2 a (by rw [hk]; omega)).2 (by rw [hk]; omega)
      have e : kdV E G σ a (ix i) = kr E b := by simp [kdV, hk, kdv, hb, va_rf]
      refine W.aald (v := kr E b) hX.1 hX.2.1 hcell (by rw [hk]; exact (hX.2.2.2.2.2.1.2 5 _ rfl).1 _ _) rfl (fun q => by cases q) ?_ ?_ rfl rfl hd (kk H locs ls hl hR hS)
      · rw [arrV_size]; exact kd_in hin
      · rw [← e]; exact arrV_read _ _ (show ix i < (G.1 a).2 by unfold ix; omega)
theorem r_aR19 {a : Nat} {i : Int32} {β : Type} {f : Nat → kdM → Option β} {w : β} (hX : kdX E A cc nL own ret h) (hd : decode cc pc = .ok (.aaload, 1)) (hh : aR G 19 a i f σ = some w) (kk : ∀ b : Nat, f b σ = some w → SW E G z A nL σ (pc + 1) L (kr E b :: st)) : SW E G z A nL σ pc L (.int i :: kr E a :: st) := by
  unfold aR at hh
  split at hh
  case isFalse => cases hh
  case isTrue hq =>
    cases hb : G.2.1 a (ix i) with
    | none => rw [hb] at hh; cases hh
    | some b =>
      rw [hb] at hh
      have kk := kk b hh
      obtain ⟨p, e, R, s, m, args, below, meth, c⟩ := A
      intro H locs ls hl hR hS
      obtain ⟨hk, hin⟩ := hq
      have hcell := (hR.2 a (by rw [hk]; omega)).2 (by rw [hk]; omega)
      have e : kdV E G σ a (ix i) = kr E b := by simp [kdV, hk, kdv, hb, va_rf]
      refine W.aald (v := kr E b) hX.1 hX.2.1 hcell (by rw [hk]; exact (hX.2.2.2.2.2.1.2 6 _ rfl).1 _ _) rfl (fun q => by cases q) ?_ ?_ rfl rfl hd (kk H locs ls hl hR hS)
      · rw [arrV_size]; exact kd_in hin
      · rw [← e]; exact arrV_read _ _ (show ix i < (G.1 a).2 by unfold ix; omega)
theorem r_tI {a : Nat} {i : Int32} {v : Int32} {β : Type} {f : kdM → Option β} {w : β} (hX : kdX E A cc nL own ret h) (hd : decode cc pc = .ok (.iastore, 1)) (hh : tI G a i v f σ = some w) (kk : ∀ σ1 : kdM, f σ1 = some w → SW E G z A nL σ1 (pc + 1) L st) : SW E G z A nL σ pc L (.int v :: .int i :: kr E a :: st) := by
  unfold tI at hh
  split at hh
  case isFalse => cases hh
  case isTrue hq =>
    have kk := kk _ hh
    obtain ⟨p, e, R, s, m, args, below, meth, c⟩ := A
    intro H locs ls hl hR hS
    obtain ⟨hk, hin⟩ := hq
    have hcell := (hR.2 a (by rw [hk]; omega)).2 (by rw [hk]; omega)
    refine W.iast hX.1 hX.2.1 hcell (by rw [hk]; exact (hX.2.2.2.2.2.1.2 0 _ rfl).1 _ _) (fun q => by cases q) (by rw [arrV_size]; exact kd_in hin) rfl rfl hd fun H' e1 e2 e3 => ?_
    refine kk H' _ ls hl ?_ (hS.put e2 e3 (Nat.le_add_right _ _))
    refine hR.set (a := a) e2 e3 (fun b hb => u2_row _ _ _ _ hb) (fun _ _ => rfl) ⟨fun h13 => absurd h13 (by rw [hk]; omega), fun _ => ?_⟩
    rw [e1, arrV_store]
    refine congrArg some (congrArg _ (funext fun j => ?_))
    by_cases hj : j = ix i
    · subst hj
      have e0 : i.toNatClampNeg = ix i := rfl
      simp [updV, e0, kdV, hk, kdv, u2_same]
      
    · have hj2 : ¬ j = i.toNatClampNeg := hj
      simp [updV, hj2, kdV, hk, kdv, u2_nk _ _ _ _ hj]
theorem r_tZ {a : Nat} {i : Int32} {v : Int32} {β : Type} {f : kdM → Option β} {w : β} (hX : kdX E A cc nL own ret h) (hd : decode cc pc = .ok (.bastore, 1)) (hh : tZ G a i v f σ = some w) (kk : ∀ σ1 : kdM, f σ1 = some w → SW E G z A nL σ1 (pc + 1) L st) : SW E G z A nL σ pc L (.int v :: .int i :: kr E a :: st) := by
  unfold tZ at hh
  split at hh
  case isFalse => cases hh
  case isTrue hq =>
    have kk := kk _ hh
    obtain ⟨p, e, R, s, m, args, below, meth, c⟩ := A
    intro H locs ls hl hR hS
    obtain ⟨hk, hin⟩ := hq
    have hcell := (hR.2 a (by rw [hk]; omega)).2 (by rw [hk]; omega)
    refine W.zast hX.1 hX.2.1 hcell (by rw [hk]; exact (hX.2.2.2.2.2.1.2 2 _ rfl).1 _ _) (fun q => by cases q) (by rw [arrV_size]; exact kd_in hin) rfl rfl hd fun H' e1 e2 e3 => ?_
    refine kk H' _ ls hl ?_ (hS.put e2 e3 (Nat.le_add_right _ _))
    refine hR.set (a := a) e2 e3 (fun b hb => u2_row _ _ _ _ hb) (fun _ _ => rfl) ⟨fun h13 => absurd h13 (by rw [hk]; omega), fun _ => ?_⟩
    rw [e1, arrV_store]
    refine congrArg some (congrArg _ (funext fun j => ?_))
    by_cases hj : j = ix i
    · subst hj
      have e0 : i.toNatClampNeg = ix i := rfl
      simp [updV, e0, kdV, hk, kdv, u2_same, vp_nar]
      try rfl
    · have hj2 : ¬ j = i.toNatClampNeg := hj
      simp [updV, hj2, kdV, hk, kdv, u2_nk _ _ _ _ hj]
theorem r_tL {a : Nat} {i : Int32} {v : Int64} {β : Type} {f : kdM → Option β} {w : β} (hX : kdX E A cc nL own ret h) (hd : decode cc pc = .ok (.lastore, 1)) (hh : tL G a i v f σ = some w) (kk : ∀ σ1 : kdM, f σ1 = some w → SW E G z A nL σ1 (pc + 1) L st) : SW E G z A nL σ pc L (.long v :: .int i :: kr E a :: st) := by
  unfold tL at hh
  split at hh
  case isFalse => cases hh
  case isTrue hq =>
    have kk := kk _ hh
    obtain ⟨p, e, R, s, m, args, below, meth, c⟩ := A
    intro H locs ls hl hR hS
    obtain ⟨hk, hin⟩ := hq
    have hcell := (hR.2 a (by rw [hk]; omega)).2 (by rw [hk]; omega)
    refine W.last hX.1 hX.2.1 hcell (by rw [hk]; exact (hX.2.2.2.2.2.1.2 1 _ rfl).1 _ _) (fun q => by cases q) (by rw [arrV_size]; exact kd_in hin) rfl rfl hd fun H' e1 e2 e3 => ?_
    refine kk H' _ ls hl ?_ (hS.put e2 e3 (Nat.le_add_right _ _))
    refine hR.set (a := a) e2 e3 (fun _ _ => rfl) (fun b hb => u2_row _ _ _ _ hb) ⟨fun h13 => absurd h13 (by rw [hk]; omega), fun _ => ?_⟩
    rw [e1, arrV_store]
    refine congrArg some (congrArg _ (funext fun j => ?_))
    by_cases hj : j = ix i
    · subst hj
      have e0 : i.toNatClampNeg = ix i := rfl
      simp [updV, e0, kdV, hk, kdv, u2_same]
      
    · have hj2 : ¬ j = i.toNatClampNeg := hj
      simp [updV, hj2, kdV, hk, kdv, u2_nk _ _ _ _ hj]
theorem kd_call {p : Program} {e : Env} {R : Room} {s : State} {m : MethodId} {args : Array Value} {below : List Frame} {meth : Method} {c : Code} {H : Heap} {locs : List Loc} {ls : Array Slot} {st0 : List Value} {v : Option Value} {σ1 : kdM} {aa : Array Value} (hr : va_Run p E.1 e R s m args below meth c H locs (kdzc z) (kdzs z) 0 0 (F0 m pc ls st0) st (kdQ E G (v, σ1) aa) (fun q => E.2.2.2 ≤ q)) (hl : lv_has ls nL L) (hS : va_S (fun q => E.2.2.2 ≤ q) s.heap H locs)
    (kk : SW E G z (p, e, R, s, m, args, below, meth, c) nL σ1 (pc + 3) L (v.toList ++ st)) : W p E.1 e R s m args below meth c H locs (kdzc z) (kdzs z) (kdEnd E G z (p, e, R, s, m, args, below, meth, c)) (F0 m pc ls st0) := by
  intro T hT X
  obtain ⟨v', st₀, t, T', L', h0, X', hL, e1, e2, ⟨hv, hR1, hz, hk⟩, step⟩ := hr T hT X
  cases hv
  rw [h0] at hz hk
  have hS1 : va_S (fun q => E.2.2.2 ≤ q) s.heap T'.heap (locs ++ L') := ⟨Nat.le_trans hS.1 (by rw [e1]; exact hz), fun q h1 h2 => by rw [e1, hk q (Nat.lt_of_lt_of_le h1 hS.1) h2]; exact hS.2.1 q h1 h2, fun q hq => by
    rcases List.mem_append.mp hq with h | h
    · exact hS.2.2 q h
    · exact hL q h⟩
  obtain ⟨t2, a1, b1⟩ := kk T'.heap (locs ++ L') ls hl (by rw [e1]; exact hR1) hS1 T' rfl X'
  exact ⟨t2, step t2 a1, b1⟩
/-- what a call of a method is owed: its words, and that it is lower -/
def kdL (y : MethodName) (bytes : ByteArray) (maxL : Nat) (ret : Option FieldType) (n : Nat) : Prop := Cond.code y bytes maxL ret ∈ kdtb ∧ Cond.initialized y.cls ∈ kdtb ∧ (y.cls ≠ "java/lang/invoke/MethodHandle" ∧ y.cls ≠ "java/lang/invoke/VarHandle") ∧ (parseMethodDescriptor y.desc).map (fun d => d.parameters.length) = some n ∧ maxL ≤ 20
theorem kd_recv {s : State} {H : Heap} {ci b : Nat} {C : String} (hR : kdR E G σ H) (hK : va_K E.2.1 vwCl (kdty E.2.2.1) s) (hci : (G.1 b).1 = ci) (hc : ∃ T N, vwCl[ci]? = some (C, T, N)) : ∃ cell : Cell, H[E.2.2.2 + b]? = some cell ∧ cell.vm.isStatics = false ∧ s.vm.findClass C = some cell.cls := by
  obtain ⟨T, N, hc⟩ := hc
  have hci13 : ci < 13 := Nat.lt_of_lt_of_le (List.getElem?_eq_some_iff.mp hc).1 (Nat.le_of_ble_eq_true rfl)
  obtain ⟨r, h1, cell, q1, q2, q3, q4⟩ := (hR.2 b (by rw [hci]; omega)).1 (by rw [hci]; exact hci13)
  refine ⟨cell, q1, by rw [q3]; rfl, ?_⟩
  obtain ⟨-, hfc, -⟩ := hK.1 ci _ hc
  rw [q2, hci]
  exact hfc
theorem r_cV {y : MethodName} {bytes : ByteArray} {maxL n idx b ci h2 : Nat} {ret2 : Option FieldType} {As : List Value} {v : Option Value} {σ1 : kdM} (hX : kdX E A cc nL own ret h) (hd : decode cc pc = .ok (.invokevirtual idx, 3)) (hL : kdL y bytes maxL ret2 n) (hlink : Cond.methodLink own idx y ∈ kdtb) (hinst : Cond.instanceMethod y ∈ kdtb) (hsel : Cond.selects y.cls y y ∈ kdtb) (hh : h2 < h) (hci : (G.1 b).1 = ci) (hc : ∃ T N, vwCl[ci]? = some (y.cls, T, N)) (hn : As.length = n) (hst : (st.map fun v => v.category).sum ≤ 8) (hcs : kdRO A (kdzc z) (kdzs z))
    (hC : Con E G y bytes maxL ret2 h2 (kr E b :: As) σ (v, σ1)) (kk : SW E G z A nL σ1 (pc + 3) L (v.toList ++ st)) : SW E G z A nL σ pc L (As.reverse ++ kr E b :: st) := by
  obtain ⟨p, e, R, s, m, args, below, meth, c⟩ := A
  intro H locs ls hl hR hS
  obtain ⟨x1, x2, x3, x4, x5, x6, x7, x8, x9, x10, x11⟩ := hX
  obtain ⟨l1, l2, l3, l4, l5⟩ := hL
  have cw : CallW R s args own y.cls idx y bytes maxL ret2 (Cond.code y bytes maxL ret2 :: kdtb) (kdrm h2) 0 0 n := ⟨callB_of n x5 (kdG l1) rfl rfl rfl (x5 _ l2) (x5 _ hlink) ⟨l3.1, l3.2, l4⟩ ⟨by show h2 + 1 ≤ _; omega, by show 8 + (maxL + 11) + 40 * h2 ≤ _; omega⟩, x5 _ hinst, x5 _ hsel⟩
  have hp : PreV s H y.cls (E.2.2.2 + b) (va_Pc (kr E b :: As) (fun U => kdR E G σ U.heap ∧ va_K E.2.1 vwCl (kdty E.2.2.1) U ∧ kdW U)) As := ⟨(kdPre (av := kr E b :: As) hR x6 x7).1, kd_recv hR x6 hci hc, (kdPre (av := kr E b :: As) hR x6 x7).2⟩
  exact kd_call (va_runV (rest := st) ⟨x1, x2, x3, x4, x5⟩ hC cw hp rfl hn hl.1 rfl (lv_room hst) hd hcs) hl hS kk
theorem r_cS {y : MethodName} {bytes : ByteArray} {maxL n idx h2 : Nat} {ret2 : Option FieldType} {As : List Value} {v : Option Value} {σ1 : kdM} (hX : kdX E A cc nL own ret h) (hd : decode cc pc = .ok (.invokestatic idx, 3)) (hL : kdL y bytes maxL ret2 n) (hlink : Cond.methodLink own idx y ∈ kdtb) (hstat : Cond.static y ∈ kdtb) (hh : h2 < h) (hn : As.length = n) (hst : (st.map fun v => v.category).sum ≤ 8) (hcs : kdRO A (kdzc z) (kdzs z))
    (hC : Con E G y bytes maxL ret2 h2 As σ (v, σ1)) (kk : SW E G z A nL σ1 (pc + 3) L (v.toList ++ st)) : SW E G z A nL σ pc L (As.reverse ++ st) := by
  obtain ⟨p, e, R, s, m, args, below, meth, c⟩ := A
  intro H locs ls hl hR hS
  obtain ⟨x1, x2, x3, x4, x5, x6, x7, x8, x9, x10, x11⟩ := hX
  obtain ⟨l1, l2, l3, l4, l5⟩ := hL
  have cw : CallB R s args own idx y bytes maxL ret2 (Cond.code y bytes maxL ret2 :: kdtb) (kdrm h2) 0 0 n := callB_of n x5 (kdG l1) rfl rfl rfl (x5 _ l2) (x5 _ hlink) ⟨l3.1, l3.2, l4⟩ ⟨by show h2 + 1 ≤ _; omega, by show 8 + (maxL + 11) + 40 * h2 ≤ _; omega⟩
  exact kd_call (va_runS (rest := st) ⟨x1, x2, x3, x4, x5⟩ hC ⟨cw, x5 _ hstat⟩ (kdPre hR x6 x7) rfl hn hl.1 rfl (lv_room hst) hd hcs) hl hS kk
theorem r_cSN {y : MethodName} {bytes : ByteArray} {maxL n idx h2 : Nat} {host : String} {ret2 : Option FieldType} {As : List Value} {v : Option Value} {σ1 : kdM} (hX : kdX E A cc nL own ret h) (hd : decode cc pc = .ok (.invokestatic idx, 3)) (hL : kdL y bytes maxL ret2 n) (hlink : (own, idx, y, host) ∈ kdN) (hstat : Cond.static y ∈ kdtb) (hh : h2 < h) (hn : As.length = n) (hst : (st.map fun v => v.category).sum ≤ 8) (hcs : kdRO A (kdzc z) (kdzs z))
    (hC : Con E G y bytes maxL ret2 h2 As σ (v, σ1)) (kk : SW E G z A nL σ1 (pc + 3) L (v.toList ++ st)) : SW E G z A nL σ pc L (As.reverse ++ st) := by
  obtain ⟨p, e, R, s, m, args, below, meth, c⟩ := A
  intro H locs ls hl hR hS
  obtain ⟨x1, x2, x3, x4, x5, x6, x7, x8, x9, x10, x11⟩ := hX
  obtain ⟨l1, l2, l3, l4, l5⟩ := hL
  have cw := va_cnB (own := own) (host := host) (index := idx) (y := y) (bytes := bytes) (maxL := maxL) (ret := ret2) (R := R) (rm := kdrm h2) (mc := 0) (ms := 0) n x5 (kdG l1) rfl rfl rfl (x7 _ hlink) (x5 _ l2) ⟨l3.1, l3.2, l4⟩ ⟨by show h2 + 1 ≤ _; omega, by show 8 + (maxL + 11) + 40 * h2 ≤ _; omega⟩
  exact kd_call (va_runSN (rest := st) ⟨x1, x2, x3, x4, x5⟩ hC ⟨cw, x5 _ hstat, trivial⟩ (kdPre hR x6 x7) rfl hn hl.1 rfl (lv_room hst) hd hcs) hl hS kk
theorem kcl_inv {α β : Type} {g : kdM → Option (α × kdM)} {f : α → kdM → Option β} {w : β} (h : kcl g f σ = some w) : ∃ (r : α) (σ1 : kdM), g σ = some (r, σ1) ∧ f r σ1 = some w := by
  unfold kcl at h
  cases hg : g σ with
  | none => rw [hg] at h; cases h
  | some r => rw [hg] at h; exact ⟨r.1, r.2, rfl, h⟩
theorem r_mmax {x y : Int32} {idx : Nat} (hX : kdX E A cc nL own ret h) (hd : decode cc pc = .ok (.invokestatic idx, 3)) (hlink : Cond.methodLink own idx Lib.Math.max.name ∈ kdtb) (hstat : Cond.static Lib.Math.max.name ∈ kdtb) (hini : Cond.initialized "java/lang/Math" ∈ kdtb) (hcode : Cond.code Lib.Math.max.name Lib.Math.max.code 2 (some .int) ∈ kdtb) (hh : 0 < h) (hst : (st.map fun v => v.category).sum ≤ 8) (hcs : kdRO A c0 s0) (k : SWg E A nL Q Rl c0 s0 (pc + 3) L (.int (kmax x y) :: st)) : SWg E A nL Q Rl c0 s0 pc L (.int y :: .int x :: st) := by
  obtain ⟨p, e, R, s, m, args, below, meth, c⟩ := A
  intro H locs ls hl hR hS
  obtain ⟨x1, x2, x3, x4, x5, x6, x7, x8, x9, x10, x11⟩ := hX
  exact va_mmax x1 x2 (x3.trans hl.1.symm) x4 (x5 _ hlink) (x5 _ hstat) (x5 _ hini) (x5 _ hcode) (by omega) (by omega) hcs.1 hcs.2 hd (k H locs ls hl hR hS)
theorem r_mmin {x y : Int32} {idx : Nat} (hX : kdX E A cc nL own ret h) (hd : decode cc pc = .ok (.invokestatic idx, 3)) (hlink : Cond.methodLink own idx Lib.Math.min.name ∈ kdtb) (hstat : Cond.static Lib.Math.min.name ∈ kdtb) (hini : Cond.initialized "java/lang/Math" ∈ kdtb) (hcode : Cond.code Lib.Math.min.name Lib.Math.min.code 2 (some .int) ∈ kdtb) (hh : 0 < h) (hst : (st.map fun v => v.category).sum ≤ 8) (hcs : kdRO A c0 s0) (k : SWg E A nL Q Rl c0 s0 (pc + 3) L (.int (kmin x y) :: st)) : SWg E A nL Q Rl c0 s0 pc L (.int y :: .int x :: st) := by
  obtain ⟨p, e, R, s, m, args, below, meth, c⟩ := A
  intro H locs ls hl hR hS
  obtain ⟨x1, x2, x3, x4, x5, x6, x7, x8, x9, x10, x11⟩ := hX
  exact va_mmin x1 x2 (x3.trans hl.1.symm) x4 (x5 _ hlink) (x5 _ hstat) (x5 _ hini) (x5 _ hcode) (by omega) (by omega) hcs.1 hcs.2 hd (k H locs ls hl hR hS)
theorem r_mabs {x : Int32} {idx : Nat} (hX : kdX E A cc nL own ret h) (hd : decode cc pc = .ok (.invokestatic idx, 3)) (hlink : Cond.methodLink own idx Lib.Math.abs.name ∈ kdtb) (hstat : Cond.static Lib.Math.abs.name ∈ kdtb) (hini : Cond.initialized "java/lang/Math" ∈ kdtb) (hcode : Cond.code Lib.Math.abs.name Lib.Math.abs.code 1 (some .int) ∈ kdtb) (hh : 0 < h) (hst : (st.map fun v => v.category).sum ≤ 8) (hcs : kdRO A c0 s0) (k : SWg E A nL Q Rl c0 s0 (pc + 3) L (.int (kabs x) :: st)) : SWg E A nL Q Rl c0 s0 pc L (.int x :: st) := by
  obtain ⟨p, e, R, s, m, args, below, meth, c⟩ := A
  intro H locs ls hl hR hS
  obtain ⟨x1, x2, x3, x4, x5, x6, x7, x8, x9, x10, x11⟩ := hX
  exact va_mabs x1 x2 (x3.trans hl.1.symm) x4 (x5 _ hlink) (x5 _ hstat) (x5 _ hini) (x5 _ hcode) (by omega) (by omega) hcs.1 hcs.2 hd (k H locs ls hl hR hS)
theorem kcv_inv {α β : Type} {ci b : Nat} {g : kdM → Option (α × kdM)} {f : α → kdM → Option β} {w : β} (h : kcv G ci b g f σ = some w) : (G.1 b).1 = ci ∧ kcl g f σ = some w := by
  unfold kcv at h
  split at h
  case isFalse => cases h
  case isTrue q => exact ⟨q, h⟩
theorem r_cVi {y : MethodName} {bytes : ByteArray} {maxL n idx h2 : Nat} {b ci : Nat} {ret2 : Option FieldType} {As st1 : List Value} {β : Type} {g : kdM → Option (Int32 × kdM)} {f : Int32 → kdM → Option β} {w : β} (hX : kdX E A cc nL own ret h) (hd : decode cc pc = .ok (.invokevirtual idx, 3)) (hL : kdL y bytes maxL ret2 n) (hlink : Cond.methodLink own idx y ∈ kdtb) (hinst : Cond.instanceMethod y ∈ kdtb) (hsel : Cond.selects y.cls y y ∈ kdtb) (hc : ∃ T N, vwCl[ci]? = some (y.cls, T, N)) (hh : h2 < h) (hn : As.length = n) (hst : (st.map fun v => v.category).sum ≤ 8) (hs : (As.reverse ++ kr E b :: st) = st1) (hcs : kdRO A (kdzc z) (kdzs z)) (hq : kcv G ci b g f σ = some w) (hC : ∀ (r : Int32) (σ1 : kdM), g σ = some (r, σ1) → Con E G y bytes maxL ret2 h2 (kr E b :: As) σ (some (.int r), σ1)) (kk : ∀ (r : Int32) (σ1 : kdM), f r σ1 = some w → SW E G z A nL σ1 (pc + 3) L (.int r :: st)) : SW E G z A nL σ pc L st1 := by
  subst hs
  obtain ⟨hci, hq⟩ := kcv_inv hq
  obtain ⟨r, σ1, e1, e2⟩ := kcl_inv hq
  exact r_cV hX hd hL hlink hinst hsel hh hci hc hn hst hcs (hC r σ1 e1) (kk r σ1 e2)
theorem r_cVl {y : MethodName} {bytes : ByteArray} {maxL n idx h2 : Nat} {b ci : Nat} {ret2 : Option FieldType} {As st1 : List Value} {β : Type} {g : kdM → Option (Int64 × kdM)} {f : Int64 → kdM → Option β} {w : β} (hX : kdX E A cc nL own ret h) (hd : decode cc pc = .ok (.invokevirtual idx, 3)) (hL : kdL y bytes maxL ret2 n) (hlink : Cond.methodLink own idx y ∈ kdtb) (hinst : Cond.instanceMethod y ∈ kdtb) (hsel : Cond.selects y.cls y y ∈ kdtb) (hc : ∃ T N, vwCl[ci]? = some (y.cls, T, N)) (hh : h2 < h) (hn : As.length = n) (hst : (st.map fun v => v.category).sum ≤ 8) (hs : (As.reverse ++ kr E b :: st) = st1) (hcs : kdRO A (kdzc z) (kdzs z)) (hq : kcv G ci b g f σ = some w) (hC : ∀ (r : Int64) (σ1 : kdM), g σ = some (r, σ1) → Con E G y bytes maxL ret2 h2 (kr E b :: As) σ (some (.long r), σ1)) (kk : ∀ (r : Int64) (σ1 : kdM), f r σ1 = some w → SW E G z A nL σ1 (pc + 3) L (.long r :: st)) : SW E G z A nL σ pc L st1 := by
  subst hs
  obtain ⟨hci, hq⟩ := kcv_inv hq
  obtain ⟨r, σ1, e1, e2⟩ := kcl_inv hq
  exact r_cV hX hd hL hlink hinst hsel hh hci hc hn hst hcs (hC r σ1 e1) (kk r σ1 e2)
theorem r_cVv {y : MethodName} {bytes : ByteArray} {maxL n idx h2 : Nat} {b ci : Nat} {ret2 : Option FieldType} {As st1 : List Value} {β : Type} {g : kdM → Option (Unit × kdM)} {f : Unit → kdM → Option β} {w : β} (hX : kdX E A cc nL own ret h) (hd : decode cc pc = .ok (.invokevirtual idx, 3)) (hL : kdL y bytes maxL ret2 n) (hlink : Cond.methodLink own idx y ∈ kdtb) (hinst : Cond.instanceMethod y ∈ kdtb) (hsel : Cond.selects y.cls y y ∈ kdtb) (hc : ∃ T N, vwCl[ci]? = some (y.cls, T, N)) (hh : h2 < h) (hn : As.length = n) (hst : (st.map fun v => v.category).sum ≤ 8) (hs : (As.reverse ++ kr E b :: st) = st1) (hcs : kdRO A (kdzc z) (kdzs z)) (hq : kcv G ci b g f σ = some w) (hC : ∀ (r : Unit) (σ1 : kdM), g σ = some (r, σ1) → Con E G y bytes maxL ret2 h2 (kr E b :: As) σ (none, σ1)) (kk : ∀ (r : Unit) (σ1 : kdM), f r σ1 = some w → SW E G z A nL σ1 (pc + 3) L st) : SW E G z A nL σ pc L st1 := by
  subst hs
  obtain ⟨hci, hq⟩ := kcv_inv hq
  obtain ⟨r, σ1, e1, e2⟩ := kcl_inv hq
  exact r_cV hX hd hL hlink hinst hsel hh hci hc hn hst hcs (hC r σ1 e1) (kk r σ1 e2)
theorem r_cVa {y : MethodName} {bytes : ByteArray} {maxL n idx h2 : Nat} {b ci : Nat} {ret2 : Option FieldType} {As st1 : List Value} {β : Type} {g : kdM → Option (Nat × kdM)} {f : Nat → kdM → Option β} {w : β} (hX : kdX E A cc nL own ret h) (hd : decode cc pc = .ok (.invokevirtual idx, 3)) (hL : kdL y bytes maxL ret2 n) (hlink : Cond.methodLink own idx y ∈ kdtb) (hinst : Cond.instanceMethod y ∈ kdtb) (hsel : Cond.selects y.cls y y ∈ kdtb) (hc : ∃ T N, vwCl[ci]? = some (y.cls, T, N)) (hh : h2 < h) (hn : As.length = n) (hst : (st.map fun v => v.category).sum ≤ 8) (hs : (As.reverse ++ kr E b :: st) = st1) (hcs : kdRO A (kdzc z) (kdzs z)) (hq : kcv G ci b g f σ = some w) (hC : ∀ (r : Nat) (σ1 : kdM), g σ = some (r, σ1) → Con E G y bytes maxL ret2 h2 (kr E b :: As) σ (some (kr E r), σ1)) (kk : ∀ (r : Nat) (σ1 : kdM), f r σ1 = some w → SW E G z A nL σ1 (pc + 3) L (kr E r :: st)) : SW E G z A nL σ pc L st1 := by
  subst hs
  obtain ⟨hci, hq⟩ := kcv_inv hq
  obtain ⟨r, σ1, e1, e2⟩ := kcl_inv hq
  exact r_cV hX hd hL hlink hinst hsel hh hci hc hn hst hcs (hC r σ1 e1) (kk r σ1 e2)
theorem r_cSi {y : MethodName} {bytes : ByteArray} {maxL n idx h2 : Nat} {ret2 : Option FieldType} {As st1 : List Value} {β : Type} {g : kdM → Option (Int32 × kdM)} {f : Int32 → kdM → Option β} {w : β} (hX : kdX E A cc nL own ret h) (hd : decode cc pc = .ok (.invokestatic idx, 3)) (hL : kdL y bytes maxL ret2 n) (hlink : Cond.methodLink own idx y ∈ kdtb) (hstat : Cond.static y ∈ kdtb) (hh : h2 < h) (hn : As.length = n) (hst : (st.map fun v => v.category).sum ≤ 8) (hs : (As.reverse ++ st) = st1) (hcs : kdRO A (kdzc z) (kdzs z)) (hq : kcl g f σ = some w) (hC : ∀ (r : Int32) (σ1 : kdM), g σ = some (r, σ1) → Con E G y bytes maxL ret2 h2 As σ (some (.int r), σ1)) (kk : ∀ (r : Int32) (σ1 : kdM), f r σ1 = some w → SW E G z A nL σ1 (pc + 3) L (.int r :: st)) : SW E G z A nL σ pc L st1 := by
  subst hs
  obtain ⟨r, σ1, e1, e2⟩ := kcl_inv hq
  exact r_cS hX hd hL hlink hstat hh hn hst hcs (hC r σ1 e1) (kk r σ1 e2)
theorem r_cSl {y : MethodName} {bytes : ByteArray} {maxL n idx h2 : Nat} {ret2 : Option FieldType} {As st1 : List Value} {β : Type} {g : kdM → Option (Int64 × kdM)} {f : Int64 → kdM → Option β} {w : β} (hX : kdX E A cc nL own ret h) (hd : decode cc pc = .ok (.invokestatic idx, 3)) (hL : kdL y bytes maxL ret2 n) (hlink : Cond.methodLink own idx y ∈ kdtb) (hstat : Cond.static y ∈ kdtb) (hh : h2 < h) (hn : As.length = n) (hst : (st.map fun v => v.category).sum ≤ 8) (hs : (As.reverse ++ st) = st1) (hcs : kdRO A (kdzc z) (kdzs z)) (hq : kcl g f σ = some w) (hC : ∀ (r : Int64) (σ1 : kdM), g σ = some (r, σ1) → Con E G y bytes maxL ret2 h2 As σ (some (.long r), σ1)) (kk : ∀ (r : Int64) (σ1 : kdM), f r σ1 = some w → SW E G z A nL σ1 (pc + 3) L (.long r :: st)) : SW E G z A nL σ pc L st1 := by
  subst hs
  obtain ⟨r, σ1, e1, e2⟩ := kcl_inv hq
  exact r_cS hX hd hL hlink hstat hh hn hst hcs (hC r σ1 e1) (kk r σ1 e2)
theorem r_cSv {y : MethodName} {bytes : ByteArray} {maxL n idx h2 : Nat} {ret2 : Option FieldType} {As st1 : List Value} {β : Type} {g : kdM → Option (Unit × kdM)} {f : Unit → kdM → Option β} {w : β} (hX : kdX E A cc nL own ret h) (hd : decode cc pc = .ok (.invokestatic idx, 3)) (hL : kdL y bytes maxL ret2 n) (hlink : Cond.methodLink own idx y ∈ kdtb) (hstat : Cond.static y ∈ kdtb) (hh : h2 < h) (hn : As.length = n) (hst : (st.map fun v => v.category).sum ≤ 8) (hs : (As.reverse ++ st) = st1) (hcs : kdRO A (kdzc z) (kdzs z)) (hq : kcl g f σ = some w) (hC : ∀ (r : Unit) (σ1 : kdM), g σ = some (r, σ1) → Con E G y bytes maxL ret2 h2 As σ (none, σ1)) (kk : ∀ (r : Unit) (σ1 : kdM), f r σ1 = some w → SW E G z A nL σ1 (pc + 3) L st) : SW E G z A nL σ pc L st1 := by
  subst hs
  obtain ⟨r, σ1, e1, e2⟩ := kcl_inv hq
  exact r_cS hX hd hL hlink hstat hh hn hst hcs (hC r σ1 e1) (kk r σ1 e2)
theorem r_cSa {y : MethodName} {bytes : ByteArray} {maxL n idx h2 : Nat} {ret2 : Option FieldType} {As st1 : List Value} {β : Type} {g : kdM → Option (Nat × kdM)} {f : Nat → kdM → Option β} {w : β} (hX : kdX E A cc nL own ret h) (hd : decode cc pc = .ok (.invokestatic idx, 3)) (hL : kdL y bytes maxL ret2 n) (hlink : Cond.methodLink own idx y ∈ kdtb) (hstat : Cond.static y ∈ kdtb) (hh : h2 < h) (hn : As.length = n) (hst : (st.map fun v => v.category).sum ≤ 8) (hs : (As.reverse ++ st) = st1) (hcs : kdRO A (kdzc z) (kdzs z)) (hq : kcl g f σ = some w) (hC : ∀ (r : Nat) (σ1 : kdM), g σ = some (r, σ1) → Con E G y bytes maxL ret2 h2 As σ (some (kr E r), σ1)) (kk : ∀ (r : Nat) (σ1 : kdM), f r σ1 = some w → SW E G z A nL σ1 (pc + 3) L (kr E r :: st)) : SW E G z A nL σ pc L st1 := by
  subst hs
  obtain ⟨r, σ1, e1, e2⟩ := kcl_inv hq
  exact r_cS hX hd hL hlink hstat hh hn hst hcs (hC r σ1 e1) (kk r σ1 e2)
theorem r_cNi {y : MethodName} {bytes : ByteArray} {maxL n idx h2 : Nat} {host : String} {ret2 : Option FieldType} {As st1 : List Value} {β : Type} {g : kdM → Option (Int32 × kdM)} {f : Int32 → kdM → Option β} {w : β} (hX : kdX E A cc nL own ret h) (hd : decode cc pc = .ok (.invokestatic idx, 3)) (hL : kdL y bytes maxL ret2 n) (hlink : (own, idx, y, host) ∈ kdN) (hstat : Cond.static y ∈ kdtb) (hh : h2 < h) (hn : As.length = n) (hst : (st.map fun v => v.category).sum ≤ 8) (hs : (As.reverse ++ st) = st1) (hcs : kdRO A (kdzc z) (kdzs z)) (hq : kcl g f σ = some w) (hC : ∀ (r : Int32) (σ1 : kdM), g σ = some (r, σ1) → Con E G y bytes maxL ret2 h2 As σ (some (.int r), σ1)) (kk : ∀ (r : Int32) (σ1 : kdM), f r σ1 = some w → SW E G z A nL σ1 (pc + 3) L (.int r :: st)) : SW E G z A nL σ pc L st1 := by
  subst hs
  obtain ⟨r, σ1, e1, e2⟩ := kcl_inv hq
  exact r_cSN hX hd hL hlink hstat hh hn hst hcs (hC r σ1 e1) (kk r σ1 e2)
theorem r_cNl {y : MethodName} {bytes : ByteArray} {maxL n idx h2 : Nat} {host : String} {ret2 : Option FieldType} {As st1 : List Value} {β : Type} {g : kdM → Option (Int64 × kdM)} {f : Int64 → kdM → Option β} {w : β} (hX : kdX E A cc nL own ret h) (hd : decode cc pc = .ok (.invokestatic idx, 3)) (hL : kdL y bytes maxL ret2 n) (hlink : (own, idx, y, host) ∈ kdN) (hstat : Cond.static y ∈ kdtb) (hh : h2 < h) (hn : As.length = n) (hst : (st.map fun v => v.category).sum ≤ 8) (hs : (As.reverse ++ st) = st1) (hcs : kdRO A (kdzc z) (kdzs z)) (hq : kcl g f σ = some w) (hC : ∀ (r : Int64) (σ1 : kdM), g σ = some (r, σ1) → Con E G y bytes maxL ret2 h2 As σ (some (.long r), σ1)) (kk : ∀ (r : Int64) (σ1 : kdM), f r σ1 = some w → SW E G z A nL σ1 (pc + 3) L (.long r :: st)) : SW E G z A nL σ pc L st1 := by
  subst hs
  obtain ⟨r, σ1, e1, e2⟩ := kcl_inv hq
  exact r_cSN hX hd hL hlink hstat hh hn hst hcs (hC r σ1 e1) (kk r σ1 e2)
theorem r_cNv {y : MethodName} {bytes : ByteArray} {maxL n idx h2 : Nat} {host : String} {ret2 : Option FieldType} {As st1 : List Value} {β : Type} {g : kdM → Option (Unit × kdM)} {f : Unit → kdM → Option β} {w : β} (hX : kdX E A cc nL own ret h) (hd : decode cc pc = .ok (.invokestatic idx, 3)) (hL : kdL y bytes maxL ret2 n) (hlink : (own, idx, y, host) ∈ kdN) (hstat : Cond.static y ∈ kdtb) (hh : h2 < h) (hn : As.length = n) (hst : (st.map fun v => v.category).sum ≤ 8) (hs : (As.reverse ++ st) = st1) (hcs : kdRO A (kdzc z) (kdzs z)) (hq : kcl g f σ = some w) (hC : ∀ (r : Unit) (σ1 : kdM), g σ = some (r, σ1) → Con E G y bytes maxL ret2 h2 As σ (none, σ1)) (kk : ∀ (r : Unit) (σ1 : kdM), f r σ1 = some w → SW E G z A nL σ1 (pc + 3) L st) : SW E G z A nL σ pc L st1 := by
  subst hs
  obtain ⟨r, σ1, e1, e2⟩ := kcl_inv hq
  exact r_cSN hX hd hL hlink hstat hh hn hst hcs (hC r σ1 e1) (kk r σ1 e2)
theorem r_cNa {y : MethodName} {bytes : ByteArray} {maxL n idx h2 : Nat} {host : String} {ret2 : Option FieldType} {As st1 : List Value} {β : Type} {g : kdM → Option (Nat × kdM)} {f : Nat → kdM → Option β} {w : β} (hX : kdX E A cc nL own ret h) (hd : decode cc pc = .ok (.invokestatic idx, 3)) (hL : kdL y bytes maxL ret2 n) (hlink : (own, idx, y, host) ∈ kdN) (hstat : Cond.static y ∈ kdtb) (hh : h2 < h) (hn : As.length = n) (hst : (st.map fun v => v.category).sum ≤ 8) (hs : (As.reverse ++ st) = st1) (hcs : kdRO A (kdzc z) (kdzs z)) (hq : kcl g f σ = some w) (hC : ∀ (r : Nat) (σ1 : kdM), g σ = some (r, σ1) → Con E G y bytes maxL ret2 h2 As σ (some (kr E r), σ1)) (kk : ∀ (r : Nat) (σ1 : kdM), f r σ1 = some w → SW E G z A nL σ1 (pc + 3) L (kr E r :: st)) : SW E G z A nL σ pc L st1 := by
  subst hs
  obtain ⟨r, σ1, e1, e2⟩ := kcl_inv hq
  exact r_cSN hX hd hL hlink hstat hh hn hst hcs (hC r σ1 e1) (kk r σ1 e2)
theorem kd_end {p : Program} {s : State} {args : Array Value} {H : Heap} {locs : List Loc} {v : Option Value} (hR : kdR E G σ H) (hS : va_S (fun q => E.2.2.2 ≤ q) s.heap H locs) : ∀ t : State, t.heap = H → s.WarmedH t.vm → kdQ E G (v, σ) args s (.returned v) t := fun t ht _ => ⟨rfl, by rw [ht]; exact hR, hS.F ht⟩
theorem r_iret {x r : Int32} {σ1 : kdM} (hX : kdX E A cc nL own (some .int) h) (hd : decode cc pc = .ok (.ireturn, 1)) (hh : rt x σ = some (r, σ1)) : SW E G (.inl (some (.int r), σ1)) A nL σ pc L [.int x] := by
  cases hh
  obtain ⟨p, e, R, s, m, args, below, meth, c⟩ := A
  intro H locs ls hl hR hS
  exact W.iret hX.1 hX.2.1 hX.2.2.2.2.2.2.2.2.1 (kd_end (p := p) hR hS) hS.2.2 hd hX.2.2.2.2.2.2.2.1
theorem kd_nar (x : Int32) : narrow .boolean (.int x) = .int (vp_nar .boolean x) := rfl
theorem kd_zret {p : Program} {l : Launch} {e : Env} {R : Room} {s : State} {m : MethodId} {args : Array Value} {below : List Frame} {meth : Method} {c : Code} {H : Heap} {locs : List Loc} {cells slots : Nat} {Qc : Array Value → State → Outcome → State → Prop} {free : Addr → Prop} {v : Int32} (hexec : p.tables.exec = Jvm.exec) (hb : c.code = cc) (hr : meth.sig.returnType = some .boolean)
    (hq : ∀ t : State, t.heap = H → s.WarmedH t.vm → Qc args s (.returned (some (.int (vp_nar .boolean v)))) t) (hf : ∀ q ∈ locs, free q.base)
    {ls : Array Slot} (hdg : decode cc pc = .ok (.ireturn, 1)) (hlocks : meth.locks = false) : W p l e R s m args below meth c H locs cells slots (MQ below Qc args s cells slots free) (F0 m pc ls [.int v]) := by
  intro T hT X
  obtain ⟨fs, hret, hrun, hended, hW, hframe⟩ := X.leave (v := some (.int (vp_nar .boolean v))) (hlocks := hlocks) (fun h => by rw [hr] at h; cases h)
  have hmeth' : T.vm.method? m = some meth := X.method'
  refine ⟨T.setFrames fs, ?_, .returned (some (.int (vp_nar .boolean v))), hrun, hended, hq _ hT hW, locs, ⟨⟨_, rfl⟩, hW, hframe⟩, hf⟩
  jvm_step X.here [X.here.top, hexec, hb, hdg, hmeth', hr, kd_nar]
  (try refine ⟨rfl, ?_⟩); (try refine ⟨rfl, ?_⟩)
  first | (intro acts; rw [hret _ acts rfl rfl rfl]) | rw [hret _ _ rfl rfl rfl]
  exact Steps.refl _
theorem r_zret {x r : Int32} {σ1 : kdM} (hX : kdX E A cc nL own (some .boolean) h) (hd : decode cc pc = .ok (.ireturn, 1)) (hh : rt (vp_nar .boolean x) σ = some (r, σ1)) : SW E G (.inl (some (.int r), σ1)) A nL σ pc L [.int x] := by
  cases hh
  obtain ⟨p, e, R, s, m, args, below, meth, c⟩ := A
  intro H locs ls hl hR hS
  exact kd_zret hX.1 hX.2.1 hX.2.2.2.2.2.2.2.2.1 (kd_end (p := p) hR hS) hS.2.2 hd hX.2.2.2.2.2.2.2.1
theorem r_lret {x r : Int64} {σ1 : kdM} (hX : kdX E A cc nL own (some .long) h) (hd : decode cc pc = .ok (.lreturn, 1)) (hh : rt x σ = some (r, σ1)) : SW E G (.inl (some (.long r), σ1)) A nL σ pc L [.long x] := by
  cases hh
  obtain ⟨p, e, R, s, m, args, below, meth, c⟩ := A
  intro H locs ls hl hR hS
  exact W.lret hX.1 hX.2.1 hX.2.2.2.2.2.2.2.2.1 (kd_end (p := p) hR hS) hS.2.2 hd hX.2.2.2.2.2.2.2.1
theorem r_vret {r : Unit} {σ1 : kdM} (hX : kdX E A cc nL own none h) (hd : decode cc pc = .ok (.return_, 1)) (hh : rt () σ = some (r, σ1)) : SW E G (.inl (none, σ1)) A nL σ pc L [] := by
  cases hh
  obtain ⟨p, e, R, s, m, args, below, meth, c⟩ := A
  intro H locs ls hl hR hS
  exact W.vret hX.1 hX.2.1 hX.2.2.2.2.2.2.2.2.1 (kd_end (p := p) hR hS) hS.2.2 hd hX.2.2.2.2.2.2.2.1
theorem r_aret {x r : Nat} {C : String} {σ1 : kdM} (hX : kdX E A cc nL own (some (.object C)) h) (hd : decode cc pc = .ok (.areturn, 1)) (hh : rt x σ = some (r, σ1)) : SW E G (.inl (some (kr E r), σ1)) A nL σ pc L [kr E x] := by
  cases hh
  obtain ⟨p, e, R, s, m, args, below, meth, c⟩ := A
  intro H locs ls hl hR hS
  exact W.aret hX.1 hX.2.1 hX.2.2.2.2.2.2.2.2.1 (Or.inl ⟨C, rfl⟩) (Or.inr ⟨_, rfl⟩) (kd_end (p := p) hR hS) hS.2.2 hd hX.2.2.2.2.2.2.2.1
end KDR
/-- a contract out of a walk from the entry -/
theorem kd_head {E : kdE} {G : kdS} {y : MethodName} {bytes : ByteArray} {maxL h : Nat} {ret : Option FieldType} {own : String} {av : List Value} {σ : kdM} {z : Option Value × kdM} (hy : y.cls = own) (hpl : plainName y.cls = true) (hlen : (lg_sl av).length ≤ maxL) (body : ∀ A : kdA, kdX E A bytes maxL own ret h → SW E G (.inl z) A maxL σ 0 (lv_args 0 av) []) : Con E G y bytes maxL ret h av σ z := by
  refine Met.ofW (cc := bytes) (maxL := maxL) (ret := ret) hpl rfl ?_
  intro p e s m args below meth c s₁ B hml hv
  obtain ⟨rfl, hR, hK, hN⟩ := hv
  have hts := atoms_spec (ws := Cond.code y bytes maxL ret :: kdtb) B.pre
  have hown : s.vm.findClass own = some m.cls := hy ▸ findClass_of_methodNamed B.named
  have hb := body (p, e, (headSpec (Cond.code y bytes maxL ret :: kdtb) (kdrm h)).room, s, m, av.toArray, below, meth, c) ⟨B.exec, B.bytes, hml, hown, fun w hw => hts w (List.mem_cons_of_mem _ hw), hK, hN, B.notSynchronized, B.returns, Nat.le_refl _, Nat.le_refl _⟩
  rw [lg_entry_eq]
  exact hb s.heap [] _ (lv_entry av hlen) hR va_S.rf
