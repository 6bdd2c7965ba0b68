/-! new T[n][m]: the machine's own instruction, from its meaning: an outer cell, then so many inner ones, each told to the outer -/
def kmo (c : ClassId) (N h0 i : Nat) : Cell := arrV c N (fun j => if j < i then .ref (h0 + 1 + j) else .null)
def kmf (s : State) (c comp : ClassId) (N M : Nat) (dv : Value) : Nat → State
  | 0 => s.pushCell (kmo c N s.heap.size 0)
  | i + 1 => ((kmf s c comp N M dv i).pushCell (arrV comp M fun _ => dv)).setCell s.heap.size (kmo c N s.heap.size (i + 1))
theorem kmo_next (c : ClassId) (N h0 i : Nat) : (kmo c N h0 i).setSlot i (.ref (h0 + 1 + i)) = kmo c N h0 (i + 1) := by
  unfold kmo
  rw [arrV_store]
  congr 1
  funext j
  by_cases e : j = i
  · subst e; simp [updV]
  · by_cases h : j < i
    · simp [updV, e, h, show j < i + 1 by omega]
    · simp [updV, e, h, show ¬ j < i + 1 by omega]
theorem kmf_top (s : State) (f : JFrame) (c comp : ClassId) (N M : Nat) (dv : Value) (i : Nat) : kmf (s.setTop f) c comp N M dv i = (kmf s c comp N M dv i).setTop f := by
  induction i with
  | zero => rfl
  | succ i ih => simp only [kmf, ih, State.heap_setTop, State.pushCell_setTop, State.setCell_setTop]
theorem kmf_is (s : State) (c comp : ClassId) (N M : Nat) (dv : Value) (i : Nat) : (kmf s c comp N M dv i).heap.size = s.heap.size + 1 + i ∧ (kmf s c comp N M dv i).heap[s.heap.size]? = some (kmo c N s.heap.size i) ∧
    (kmf s c comp N M dv i).vm = s.vm ∧ (kmf s c comp N M dv i).slotsUsed = s.slotsUsed + N + i * M := by
  induction i with
  | zero => exact ⟨by simp [kmf], by simp [kmf], rfl, by simp [kmf, kmo, arrV_size]⟩
  | succ i ih =>
    obtain ⟨a, b, d, u⟩ := ih
    have hlt : s.heap.size < (kmf s c comp N M dv i).heap.size := by omega
    have hb : ((kmf s c comp N M dv i).pushCell (arrV comp M fun _ => dv)).heap[s.heap.size]? = some (kmo c N s.heap.size i) := by rw [State.heap_pushCell_of_lt (h := hlt)]; exact b
    refine ⟨?_, State.heap_setCell_self hb, by simp [kmf, d], ?_⟩
    · simp [kmf, State.setCell, a]; omega
    · simp [kmf, u, arrV_size, Nat.succ_mul]; omega
theorem kmf_old (s : State) (c comp : ClassId) (N M : Nat) (dv : Value) {a : Addr} (ha : a < s.heap.size) (i : Nat) : (kmf s c comp N M dv i).heap[a]? = s.heap[a]? := by
  induction i with
  | zero => exact State.heap_pushCell_of_lt _ _ ha
  | succ i ih =>
    have f1 := (kmf_is s c comp N M dv i).1
    show (((kmf s c comp N M dv i).pushCell (arrV comp M fun _ => dv)).setCell s.heap.size _).heap[a]? = _
    have hlt : a < (kmf s c comp N M dv i).heap.size := Nat.lt_of_lt_of_le ha (by rw [f1]; omega)
    rw [State.heap_setCell_other (Nat.ne_of_gt ha), State.heap_pushCell_of_lt (h := hlt)]
    exact ih
theorem kmf_in (s : State) (c comp : ClassId) (N M : Nat) (dv : Value) {j : Nat} (i : Nat) (h : j < i) : (kmf s c comp N M dv i).heap[s.heap.size + 1 + j]? = some (arrV comp M fun _ => dv) := by
  induction i with
  | zero => exact absurd h (Nat.not_lt_zero _)
  | succ i ih =>
    have f1 := (kmf_is s c comp N M dv i).1
    show (((kmf s c comp N M dv i).pushCell (arrV comp M fun _ => dv)).setCell s.heap.size _).heap[s.heap.size + 1 + j]? = _
    rw [State.heap_setCell_other (show s.heap.size ≠ s.heap.size + 1 + j by omega)]
    by_cases e : j < i
    · have hlt : s.heap.size + 1 + j < (kmf s c comp N M dv i).heap.size := by omega
      rw [State.heap_pushCell_of_lt (h := hlt)]
      exact ih e
    · have e2 : j = i := by omega
      subst e2
      rw [← f1]
      exact State.heap_pushCell_size _ _
theorem kmf_stand {p : Program} {l : Launch} {e : Env} {R : Room} {s : State} {m : MethodId} {args : Array Value} {below : List Frame} {meth : Method} {c : Code} {T : State} {locs : List Loc} {cells slots : Nat} (X : Stand p l e R s m args below meth c T locs cells slots) (cA comp : ClassId) (N M : Nat) (dv : Value) (i : Nat) :
    Stand p l e R s m args below meth c (kmf T cA comp N M dv i) (locs ++ (List.range i).map fun j => (⟨T.heap.size, j⟩ : Loc)) (cells + 1 + i) (slots + N + i * M) := by
  induction i with
  | zero =>
    have h := X.pushed (kmo cA N T.heap.size 0)
    rw [show (kmo cA N T.heap.size 0).slots.size = N from arrV_size _ _ _] at h
    simpa [kmf] using h
  | succ i ih =>
    obtain ⟨f1, f2, f3, f4⟩ := kmf_is T cA comp N M dv i
    have hlt0 : T.heap.size < (kmf T cA comp N M dv i).heap.size := by rw [f1]; omega
    have hcell : ((kmf T cA comp N M dv i).pushCell (arrV comp M fun _ => dv)).heap[T.heap.size]? = some (kmo cA N T.heap.size i) := by rw [State.heap_pushCell_of_lt (h := hlt0)]; exact f2
    have h := (ih.pushed (arrV comp M fun _ => dv)).stored hcell i (.ref (T.heap.size + 1 + i))
    rw [arrV_size, kmo_next] at h
    have e2 : (locs ++ (List.range (i + 1)).map fun j => (⟨T.heap.size, j⟩ : Loc)) = (locs ++ (List.range i).map fun j => (⟨T.heap.size, j⟩ : Loc)) ++ [⟨T.heap.size, i⟩] := by simp [List.range_succ, List.append_assoc]
    have e3 : slots + N + (i + 1) * M = slots + N + i * M + M := by rw [Nat.succ_mul]; omega
    rw [e2, e3]
    exact h
section KMW
variable {E : CtlPost} {e : Env} {d : Bool} {acts : List Action} {s : State}
theorem km_new {c comp : ClassId} {k : Class} {type : FieldType} {len : Nat} {init : Value} (hk : s.vm.classes[c]? = some k) (hkind : k.kind = .array comp type)
    (hlimit : ¬ len > e.platform.arrayLengthLimit) (hheap : ¬ len * componentBytes type > e.platform.maxHeapBytes) (hfit : fits type init = true) (hdef : init.isDefault = true) {Q : Addr → Pre}
    (h1 : s.heap.size < e.platform.maxCells) (h2 : s.slotsUsed + len ≤ e.platform.maxSlots)
    (hq : Q s.heap.size d acts (s.pushCell (arrV c len fun _ => init))) : wp (Jvm.newArray c len init) Q E e d acts s := by
  rw [← arrV_new] at hq
  have hfits : ∀ i v, (Array.replicate len init)[i]? = some v → s.fitsSlot c .none i v = true := by
    intro i v hv
    rw [Array.getElem?_replicate] at hv
    split at hv
    · cases hv; simp [State.fitsSlot, State.slotType?, hk, hkind, hfit]
    · cases hv
  have hda : allocActs (Array.replicate len init) s.heap.size acts = acts := by
    have hall : ((Array.replicate len init).all (·.isDefault)) = true := by
      rw [Array.all_replicate]; split <;> simp [hdef]
    unfold allocActs; rw [if_pos hall]
  simp only [Jvm.newArray, Jvm.arrayFits, wp_bind', W.ask, W.ite, hlimit, if_false, wp_pure', W.theClass, hk, hkind, hheap, W.alloc, W.stop, Option.some.injEq, exists_eq_left', Array.size_replicate, hda]
  rw [if_neg (by omega)]
  exact ⟨h1, h2, hfits, hq⟩
theorem km_one {comp cc : ClassId} {kc : Class} {type : FieldType} {m : Int32} (hkc : s.vm.classes[comp]? = some kc) (hkindc : kc.kind = .array cc type) (hm : ¬ m < 0)
    (hl2 : ¬ m.toNatClampNeg > e.platform.arrayLengthLimit) (hh2 : ¬ m.toNatClampNeg * componentBytes type > e.platform.maxHeapBytes)
    (hdf : fits type (defaultValue type) = true) (hdd : (defaultValue type).isDefault = true)
    (h1 : s.heap.size < e.platform.maxCells) (h2 : s.slotsUsed + m.toNatClampNeg ≤ e.platform.maxSlots)
    {Q : Addr → Pre} (hq : Q s.heap.size d acts (s.pushCell (arrV comp m.toNatClampNeg fun _ => defaultValue type))) : wp (multianewarray.make comp [m]) Q E e d acts s := by
  rw [multianewarray.make]
  simp only [wp_bind', W.ite, hm, if_false, wp_pure', W.theClass, hkc, hkindc, Option.some.injEq, exists_eq_left']
  exact km_new hkc hkindc hl2 hh2 hdf hdd h1 h2 hq
theorem km_two {c comp cc : ClassId} {k kc : Class} {t0 type : FieldType} {n m : Int32} (hk : s.vm.classes[c]? = some k) (hkind : k.kind = .array comp (.array t0))
    (hkc : s.vm.classes[comp]? = some kc) (hkindc : kc.kind = .array cc type) (hn : ¬ n < 0) (hm : ¬ m < 0)
    (hl1 : ¬ n.toNatClampNeg > e.platform.arrayLengthLimit) (hh1 : ¬ n.toNatClampNeg * componentBytes (.array t0) > e.platform.maxHeapBytes)
    (hl2 : ¬ m.toNatClampNeg > e.platform.arrayLengthLimit) (hh2 : ¬ m.toNatClampNeg * componentBytes type > e.platform.maxHeapBytes)
    (hdf : fits type (defaultValue type) = true) (hdd : (defaultValue type).isDefault = true)
    (hc : s.heap.size + 1 + n.toNatClampNeg ≤ e.platform.maxCells) (hs : s.slotsUsed + n.toNatClampNeg + n.toNatClampNeg * m.toNatClampNeg ≤ e.platform.maxSlots)
    {Q : Addr → Pre} (hq : ∀ d' acts', Q s.heap.size d' acts' (kmf s c comp n.toNatClampNeg m.toNatClampNeg (defaultValue type) n.toNatClampNeg)) : wp (multianewarray.make c [n, m]) Q E e d acts s := by
  have hfind : ([m].find? (· < 0)) = none := by simp [hm]
  rw [multianewarray.make]
  simp only [wp_bind', W.ite, hn, if_false, wp_pure', W.theClass, hk, hkind, Option.some.injEq, exists_eq_left']
  refine km_new hk hkind hl1 hh1 rfl rfl (by omega) (by have := Nat.zero_le (n.toNatClampNeg * m.toNatClampNeg); omega) ?_
  simp only [hfind]
  rw [ite_self, wp_bind', Std.Legacy.Range.forIn_eq_forIn_range']
  have hsz : ([:n.toNatClampNeg] : Std.Legacy.Range).size = n.toNatClampNeg := by simp [Std.Legacy.Range.size]
  rw [hsz]
  show wp (forIn (List.range' 0 n.toNatClampNeg 1) PUnit.unit _) _ E e d acts _
  have hst : s.pushCell (arrV c n.toNatClampNeg fun _ => .null) = kmf s c comp n.toNatClampNeg m.toNatClampNeg (defaultValue type) 0 := by simp [kmf, kmo]
  rw [hst]
  refine wp_forIn_inv (fun rest s' => ∃ i, i ≤ n.toNatClampNeg ∧ rest = List.range' i (n.toNatClampNeg - i) ∧ s' = kmf s c comp n.toNatClampNeg m.toNatClampNeg (defaultValue type) i) _ _ ⟨0, Nat.zero_le _, rfl, rfl⟩ ?_ ?_
  · rintro x rest s' d' acts' Q' ⟨i, hi, hl, rfl⟩ hnext
    have hlt : i < n.toNatClampNeg := by
      rcases Nat.lt_or_ge i n.toNatClampNeg with h | h
      · exact h
      · rw [show n.toNatClampNeg - i = 0 from by omega] at hl; simp at hl
    obtain ⟨rfl, hrest⟩ : x = i ∧ rest = List.range' (i + 1) (n.toNatClampNeg - (i + 1)) := by
      rw [show n.toNatClampNeg - i = (n.toNatClampNeg - (i + 1)) + 1 from by omega, List.range'_succ] at hl
      exact ⟨(List.cons.inj hl).1, (List.cons.inj hl).2⟩
    obtain ⟨f1, f2, f3, f4⟩ := kmf_is s c comp n.toNatClampNeg m.toNatClampNeg (defaultValue type) x
    have hmul : x * m.toNatClampNeg + m.toNatClampNeg ≤ n.toNatClampNeg * m.toNatClampNeg := by
      have := Nat.mul_le_mul_right m.toNatClampNeg (show x + 1 ≤ n.toNatClampNeg from hlt)
      rw [Nat.succ_mul] at this; exact this
    simp only [wp_bind']
    refine km_one (by rw [f3]; exact hkc) hkindc hm hl2 hh2 hdf hdd (by rw [f1]; omega) (by rw [f4]; omega) ?_
    have hlt0 : s.heap.size < (kmf s c comp n.toNatClampNeg m.toNatClampNeg (defaultValue type) x).heap.size := by rw [f1]; omega
    simp only [wp_bind', W.writeLoc, wp_pure']
    refine ⟨kmo c n.toNatClampNeg s.heap.size x, by rw [State.heap_pushCell_of_lt (h := hlt0)]; exact f2, by simp [kmo, arrV], by show x < (kmo c n.toNatClampNeg s.heap.size x).slots.size; rw [show (kmo c n.toNatClampNeg s.heap.size x).slots.size = n.toNatClampNeg from arrV_size _ _ _]; exact hlt, ?_, hnext _ _ _ ⟨x + 1, hlt, hrest, ?_⟩⟩
    · simp [kmo, arrV, State.fitsSlot, State.slotType?, f3, hk, hkind, fits]
    · rw [f1, kmo_next]; rfl
  · rintro s' d' acts' ⟨i, hi, hl, rfl⟩
    have hiN : i = n.toNatClampNeg := by
      rcases Nat.lt_or_ge i n.toNatClampNeg with h | h
      · rw [show n.toNatClampNeg - i = (n.toNatClampNeg - (i + 1)) + 1 from by omega, List.range'_succ] at hl; cases hl
      · omega
    subst hiN
    simp only [wp_pure']
    exact hq _ _
end KMW
theorem km_W {p : Program} {l : Launch} {e : Env} {R : Room} {s : State} {m : MethodId} {args : Array Value} {below : List Frame} {meth : Method} {c : Code} {H : Heap} {locs : List Loc} {cells slots : Nat} {Q : State → Prop} {cc : ByteArray} (hexec : p.tables.exec = Jvm.exec) (hb : c.code = cc) {own : String} {index : Nat} {ty : FieldType}
    (hown : s.vm.findClass own = some m.cls) (hclink : (Cond.classLink own index ("[" ++ (FieldType.array ty).toString)).before args s = true)
    (hover : (Cond.arrayOver (.array ty)).before #[] s = true) (harr : (Cond.arrayClass ty).before args s = true)
    {pc : Nat} {ls : Array Slot} {st : List Value} (hdg : decode cc pc = .ok (.multianewarray index 2, 4)) {n k : Int32}
    (hn : ¬ n < 0) (hk : ¬ k < 0) (hb1 : n.toNatClampNeg * 4 ≤ 536870912) (hb2 : k.toNatClampNeg * componentBytes ty ≤ 536870912) (hb3 : k.toNatClampNeg ≤ 536870912)
    (hdf : fits ty (defaultValue ty) = true) (hdd : (defaultValue ty).isDefault = true)
    (hcells : cells + (1 + n.toNatClampNeg) ≤ R.cells) (hslots : slots + (n.toNatClampNeg + n.toNatClampNeg * k.toNatClampNeg) ≤ R.slots)
    (kk : ∀ (H1 : Heap) (cA comp : ClassId), s.vm.findClass ("[" ++ (FieldType.array ty).toString) = some cA → s.vm.findClass (FieldType.array ty).toString = some comp →
      H1.size = H.size + (1 + n.toNatClampNeg) → (∀ x : Nat, x < H.size → H1[x]? = H[x]?) → H1[H.size]? = some (arrV cA n.toNatClampNeg (fun j => if j < n.toNatClampNeg then .ref (H.size + 1 + j) else .null)) →
      (∀ j, j < n.toNatClampNeg → H1[H.size + 1 + j]? = some (arrV comp k.toNatClampNeg fun _ => defaultValue ty)) →
      W p l e R s m args below meth c H1 locs (cells + (1 + n.toNatClampNeg)) (slots + (n.toNatClampNeg + n.toNatClampNeg * k.toNatClampNeg)) Q (F0 m (pc + 4) ls (.ref H.size :: st))) : W p l e R s m args below meth c H locs cells slots Q (F0 m pc ls (.int k :: .int n :: st)) := by
  intro T hT X
  subst hT; subst hb
  have hpl : e.platform.magicAccessors = ({} : Platform).magicAccessors := by rw [X.admits.platform]
  obtain ⟨comp, cA, kA, hcomp, h2, hkA, hkindA, hnameA⟩ := arrayOverA_spec hover
  obtain ⟨comp', kC, cx, hcomp', hkC, hkindC⟩ := Cond.arrayClass_spec harr
  have ecomp : comp' = comp := Option.some.inj (hcomp'.symm.trans hcomp)
  subst ecomp
  obtain ⟨c0, hfc0, hcl⟩ := Cond.classLink_spec hown hclink e.platform hpl
  cases hnameA.symm.trans hfc0
  obtain ⟨hg₁, hwarm₁, hready₁⟩ := State.classEntry (e := e) X.warmed hcl
  generalize T.vm.noted (F0 m pc ls (.int k :: .int n :: st)).method.cls index (.cls cA) = vm₁ at hg₁ hwarm₁ hready₁
  have hal : s.vm.Alike vm₁ := hwarm₁.alike
  obtain ⟨kA₁, hkA₁, heA⟩ := hal.2.2 _ _ hkA
  obtain ⟨kC₁, hkC₁, heC⟩ := hal.2.2 _ _ hkC
  have hkindA₁ : kA₁.kind = .array comp' (.array ty) := by rw [heA]; exact hkindA
  have hkindC₁ : kC₁.kind = .array cx ty := by rw [heC]; exact hkindC
  have X₁ := X.noted hwarm₁
  obtain ⟨hr1, hr2⟩ := X.roomAbove hcells hslots
  have hl1 : ¬ n.toNatClampNeg > e.platform.arrayLengthLimit := by rw [Launch.admits_arrayLengthLimit X.admits]; omega
  have hh1 : ¬ n.toNatClampNeg * componentBytes (.array ty) > e.platform.maxHeapBytes := by
    rw [Launch.admits_maxHeapBytes X.admits]; show ¬ n.toNatClampNeg * 4 > 536870912; omega
  have hl2 : ¬ k.toNatClampNeg > e.platform.arrayLengthLimit := by rw [Launch.admits_arrayLengthLimit X.admits]; omega
  have hh2 : ¬ k.toNatClampNeg * componentBytes ty > e.platform.maxHeapBytes := by rw [Launch.admits_maxHeapBytes X.admits]; omega
  have XF := kmf_stand X₁ cA comp' n.toNatClampNeg k.toNatClampNeg (defaultValue ty) n.toNatClampNeg
  have XG := XF.dropFresh (fun x hx => by
    obtain ⟨j, -, rfl⟩ := List.mem_map.mp hx
    exact X.heapGrown)
  obtain ⟨f1, f2, f3, f4⟩ := kmf_is (T.setVm vm₁) cA comp' n.toNatClampNeg k.toNatClampNeg (defaultValue ty) n.toNatClampNeg
  have XG : Stand p l e R s m args below meth c (kmf (T.setVm vm₁) cA comp' n.toNatClampNeg k.toNatClampNeg (defaultValue ty) n.toNatClampNeg) locs (cells + (1 + n.toNatClampNeg)) (slots + (n.toNatClampNeg + n.toNatClampNeg * k.toNatClampNeg)) := by
    simpa [Nat.add_assoc] using XG
  obtain ⟨t, a1, b1⟩ := kk _ cA comp' hnameA hcomp (by rw [f1]; show T.heap.size + 1 + _ = _; omega) (fun x hx => kmf_old (T.setVm vm₁) cA comp' _ _ _ hx _) f2 (fun j hj => kmf_in (T.setVm vm₁) cA comp' _ _ _ _ hj) _ rfl XG
  refine ⟨t, ?_, b1⟩
  jvm_step X.here [hexec, hdg]
  simp only [multianewarray.sem, wp_bind', W.resolveClassAt_links (mm := m) (t := T.setTop (F0 m pc ls (.int k :: .int n :: st))) (vm' := vm₁) (State.method?_setTop (F0 m pc ls (.int k :: .int n :: st)) X.here.top) hg₁]
  rw [W.popN, if_neg (by decide)]
  refine ⟨_, State.topJava?_setTop' (s := T.setVm vm₁) _ X.here.top, [.int n, .int k], st, rfl, rfl, ?_⟩
  simp only [List.mapM_cons, List.mapM_nil, wp_bind', wp_pure']
  refine km_two (k := kA₁) (kc := kC₁) (comp := comp') (cc := cx) (t0 := ty) (type := ty) hkA₁ hkindA₁ hkC₁ hkindC₁ hn hk hl1 hh1 hl2 hh2 hdf hdd (by show T.heap.size + 1 + _ ≤ _; omega) (by show T.slotsUsed + _ + _ ≤ _; omega) (fun d' acts' => ?_)
  have eS : ((T.setTop (F0 m pc ls (.int k :: .int n :: st))).setVm vm₁).setTop (F0 m pc ls st) = (T.setVm vm₁).setTop (F0 m pc ls st) := by
    show ((T.setVm vm₁).setTop _).setTop _ = _
    rw [State.setTop_setTop]
  rw [eS, kmf_top]
  simp only [wp_bind', W.mark, W.pushRef, State.topJava?_setTop' _ XF.here.top, Option.some.injEq, exists_eq_left', State.setTop_setTop, State.heap_setTop]
  intro acts
  simp [jvm, XF.here.top]
  exact a1
theorem kdR.push2 {E : kdE} {G : kdS} {σ : kdM} {H H' : Heap} {k k2 n m : Nat} {dv : Value} (h : kdR E G σ H) (hk : k = 18 ∨ k = 19) (hz : H'.size = H.size + (1 + n)) (ho : ∀ x : Nat, x < H.size → H'[x]? = H[x]?)
    (h0 : H'[H.size]? = some (arrV (E.2.2.1 k) n (fun j => if j < n then .ref (H.size + 1 + j) else .null))) (h1 : ∀ j, j < n → H'[H.size + 1 + j]? = some (arrV (E.2.2.1 k2) m fun _ => dv)) (hd : (k2 = 13 ∧ dv = .int 0) ∨ (k2 = 14 ∧ dv = .long 0)) : kdR E (ga2 G k n k2 m) (gz2 G.2.2 n σ) H' := by
  have hs := h.1
  refine ⟨by rw [hz, h.1]; show _ = E.2.2.2 + (G.2.2 + 1 + n); omega, fun a ha => ?_⟩
  by_cases e : a = G.2.2
  · subst e
    have e1 : ((ga2 G k n k2 m).1 G.2.2) = (k, n) := by simp [ga2]
    refine ⟨fun h13 => absurd h13 (by rw [e1]; show ¬ k < 13; omega), fun _ => ?_⟩
    rw [← h.1, h0, e1]
    refine congrArg some (congrArg _ (funext fun j => ?_))
    have ek : kdv k j = 2 := by rcases hk with rfl | rfl <;> rfl
    simp only [kdV, e1, ek, if_neg (show ¬ (2 : Nat) = 0 by decide), if_neg (show ¬ (2 : Nat) = 1 by decide)]
    by_cases hj : j < n
    · simp [ga2, hj, va_rf, hs, Nat.add_assoc]
    · simp [ga2, hj, va_rf]
  · by_cases e2 : G.2.2 < a ∧ a ≤ G.2.2 + n
    · obtain ⟨j, rfl⟩ : ∃ j, a = G.2.2 + 1 + j := ⟨a - G.2.2 - 1, by omega⟩
      have e1 : ((ga2 G k n k2 m).1 (G.2.2 + 1 + j)) = (k2, m) := by simp only [ga2, if_neg e, if_pos e2]
      refine ⟨fun h13 => absurd h13 (by rw [e1]; show ¬ k2 < 13; omega), fun _ => ?_⟩
      have hh := h1 j (by omega)
      rw [h.1, show E.2.2.2 + G.2.2 + 1 + j = E.2.2.2 + (G.2.2 + 1 + j) by omega] at hh
      rw [hh, e1]
      refine congrArg some (congrArg _ (funext fun i => ?_))
      have e3 : G.2.2 ≤ G.2.2 + 1 + j ∧ G.2.2 + 1 + j ≤ G.2.2 + n := by omega
      rcases hd with ⟨rfl, rfl⟩ | ⟨rfl, rfl⟩
      · simp only [kdV, e1, gz2, if_pos e3]; rfl
      · simp only [kdV, e1, gz2, if_pos e3]; rfl
    · have e1 : (ga2 G k n k2 m).1 a = G.1 a := by simp only [ga2, if_neg e, if_neg e2]
      have hk2 := h.2 a (by rw [← e1]; exact ha)
      have hl := hk2.lt
      rw [h.1] at hl
      have e3 : ¬ (G.2.2 ≤ a ∧ a ≤ G.2.2 + n) := by omega
      exact hk2.keptG (ho _ hk2.lt) e1 (by funext j; simp only [ga2, if_neg e, if_neg e2]) (by funext j; simp only [gz2, if_neg e3]) (by funext j; simp only [gz2, if_neg e3])
section KMR
variable {E : kdE} {A : kdA} {G : kdS} {σ : kdM} {nL h c0 s0 cc cs pc : Nat} {Q : State → Prop} {L : List (Nat × Value)} {st : List Value} {bc : ByteArray} {own : String} {ret : Option FieldType}
theorem r1_m18 {n m : Int32} {idx : Nat} {β : Type} {f : Nat → kd1 → Option β} {w : β} (hX : kdX E A bc nL own ret h) (hY : kdY A) (hd : decode bc pc = .ok (.multianewarray idx 2, 4)) (hcl : Cond.classLink own idx "[[I" ∈ kdtb) (hac : Cond.arrayClass .int ∈ kdtb) (hc : c0 + cc = (kdAR A).cells) (hs : s0 + cs = (kdAR A).slots) (hh : n1M 18 13 n m f (G, σ, cc, cs) = some w)
    (kk : ∀ (t : Nat) (G' : kdS) (σ' : kdM) (cc' cs' c0' s0' : Nat), c0' + cc' = (kdAR A).cells → s0' + cs' = (kdAR A).slots → f t (G', σ', cc', cs') = some w → SWg E A nL Q (kdR E G' σ') c0' s0' (pc + 4) L (kr E t :: st)) : SWg E A nL Q (kdR E G σ) c0 s0 pc L (.int m :: .int n :: st) := by
  unfold n1M at hh
  split at hh
  case isFalse => cases hh
  case isTrue hq =>
    obtain ⟨q1, q2, q3, q4, q5, q6⟩ := hq
    have q5 : 1 + n.toInt.toNat ≤ cc := q5
    have q6 : n.toInt.toNat + n.toInt.toNat * m.toInt.toNat ≤ cs := q6
    have kk := kk _ _ _ _ _ (c0 + (1 + n.toInt.toNat)) (s0 + (n.toInt.toNat + n.toInt.toNat * m.toInt.toNat)) (by show c0 + (1 + n.toInt.toNat) + (cc - (1 + n.toInt.toNat)) = _; omega) (by show s0 + _ + (cs - _) = _; omega) hh
    obtain ⟨p, e, R, s, mm, args, below, meth, c⟩ := A
    intro H locs ls hl hR hS
    obtain ⟨x1, x2, x3, x4, x5, x6, -⟩ := hX
    have hc' : c0 + cc = R.cells := hc
    have hs' : s0 + cs = R.slots := hs
    have hci := (x6.2 0 _ rfl).2
    have k4 := (x6.2 5 _ rfl).2
    have hO : (Cond.arrayOver (.array .int)).before #[] s = true := hY.1.2.2.1
    have hm1 : n.toNatClampNeg = n.toInt.toNat := rfl
    have hm2 : m.toNatClampNeg = m.toInt.toNat := rfl
    refine km_W (ty := .int) x1 x2 x4 (x5 _ hcl) hO (x5 _ hac) hd (by rw [Int32.lt_iff_toInt_lt, Int32.toInt_zero]; omega) (by rw [Int32.lt_iff_toInt_lt, Int32.toInt_zero]; omega) (by rw [hm1]; omega) (by rw [hm2]; show _ * 4 ≤ _; omega) (by rw [hm2]; omega) rfl rfl (by rw [hm1]; omega) (by rw [hm1, hm2]; omega) fun H1 cA comp' e1 e2 z1 o1 p0 p1 => ?_
    have ecA : cA = E.2.2.1 18 := Option.some.inj (e1.symm.trans k4)
    have eco : comp' = E.2.2.1 13 := Option.some.inj (e2.symm.trans hci)
    subst ecA; subst eco
    have hsz : H.size = E.2.2.2 + G.2.2 := hR.1
    have hR2 := hR.push2 (k := 18) (k2 := 13) (n := n.toInt.toNat) (m := m.toInt.toNat) (dv := .int 0) (by decide) z1 o1 p0 p1 (Or.inl ⟨rfl, rfl⟩)
    have hS2 := va_S_push hS (by rw [z1]; omega) o1
    rw [hsz]
    exact kk H1 locs ls hl hR2 hS2
theorem r1_m19 {n m : Int32} {idx : Nat} {β : Type} {f : Nat → kd1 → Option β} {w : β} (hX : kdX E A bc nL own ret h) (hY : kdY A) (hd : decode bc pc = .ok (.multianewarray idx 2, 4)) (hcl : Cond.classLink own idx "[[J" ∈ kdtb) (hac : Cond.arrayClass .long ∈ kdtb) (hc : c0 + cc = (kdAR A).cells) (hs : s0 + cs = (kdAR A).slots) (hh : n1M 19 14 n m f (G, σ, cc, cs) = some w)
    (kk : ∀ (t : Nat) (G' : kdS) (σ' : kdM) (cc' cs' c0' s0' : Nat), c0' + cc' = (kdAR A).cells → s0' + cs' = (kdAR A).slots → f t (G', σ', cc', cs') = some w → SWg E A nL Q (kdR E G' σ') c0' s0' (pc + 4) L (kr E t :: st)) : SWg E A nL Q (kdR E G σ) c0 s0 pc L (.int m :: .int n :: st) := by
  unfold n1M at hh
  split at hh
  case isFalse => cases hh
  case isTrue hq =>
    obtain ⟨q1, q2, q3, q4, q5, q6⟩ := hq
    have q5 : 1 + n.toInt.toNat ≤ cc := q5
    have q6 : n.toInt.toNat + n.toInt.toNat * m.toInt.toNat ≤ cs := q6
    have kk := kk _ _ _ _ _ (c0 + (1 + n.toInt.toNat)) (s0 + (n.toInt.toNat + n.toInt.toNat * m.toInt.toNat)) (by show c0 + (1 + n.toInt.toNat) + (cc - (1 + n.toInt.toNat)) = _; omega) (by show s0 + _ + (cs - _) = _; omega) hh
    obtain ⟨p, e, R, s, mm, args, below, meth, c⟩ := A
    intro H locs ls hl hR hS
    obtain ⟨x1, x2, x3, x4, x5, x6, -⟩ := hX
    have hc' : c0 + cc = R.cells := hc
    have hs' : s0 + cs = R.slots := hs
    have hci := (x6.2 1 _ rfl).2
    have k4 := (x6.2 6 _ rfl).2
    have hO : (Cond.arrayOver (.array .long)).before #[] s = true := hY.1.2.2.2
    have hm1 : n.toNatClampNeg = n.toInt.toNat := rfl
    have hm2 : m.toNatClampNeg = m.toInt.toNat := rfl
    refine km_W (ty := .long) x1 x2 x4 (x5 _ hcl) hO (x5 _ hac) hd (by rw [Int32.lt_iff_toInt_lt, Int32.toInt_zero]; omega) (by rw [Int32.lt_iff_toInt_lt, Int32.toInt_zero]; omega) (by rw [hm1]; omega) (by rw [hm2]; show _ * 8 ≤ _; omega) (by rw [hm2]; omega) rfl rfl (by rw [hm1]; omega) (by rw [hm1, hm2]; omega) fun H1 cA comp' e1 e2 z1 o1 p0 p1 => ?_
    have ecA : cA = E.2.2.1 19 := Option.some.inj (e1.symm.trans k4)
    have eco : comp' = E.2.2.1 14 := Option.some.inj (e2.symm.trans hci)
    subst ecA; subst eco
    have hsz : H.size = E.2.2.2 + G.2.2 := hR.1
    have hR2 := hR.push2 (k := 19) (k2 := 14) (n := n.toInt.toNat) (m := m.toInt.toNat) (dv := .long 0) (by decide) z1 o1 p0 p1 (Or.inr ⟨rfl, rfl⟩)
    have hS2 := va_S_push hS (by rw [z1]; omega) o1
    rw [hsz]
    exact kk H1 locs ls hl hR2 hS2
end KMR
