-- the head of this part is a starting text (kit/laws/SKELETON.whole); the rest by program (wip/p49/gen/mk40.py)
def R_law : String := "KeyDeskLaw"
def lw_P (b : Addr) (xs : List Int32) (args : Array Value) (s : State) : Prop := args = #[.ref b] ∧ s.IntsAt b xs ∧ xs.length ≤ 260 ∧ (Jvm.Cond.and given_1 narrow_1).before args s = true
def lw_Q (_ : Array Value) (s : State) (o : Outcome) (t : State) : Prop := o = .returned (some (.int 1)) ∧ Framed s o t [] 600000 7302250
def lw_Z (below : List Frame) (a : Array Value) (s : State) : State → Prop := fun t => ∃ o, t.status = .running ∧ Ended t below o ∧ lw_Q a s o t
/-- the law's own end, with 1 on the stack, nothing written that was there before, its room as the claim has it -/
theorem lw_ret {p : Program} {l : Launch} {e : Env} {s : State} {m : MethodId} {below : List Frame} {meth : Method} {c : Code} {b : Nat} (hx : p.tables.exec = Jvm.exec) (hb : c.code = code) (hr : meth.sig.returnType = ret) (hlocks : meth.locks = false) {pc : Nat} {H : Heap} {ls : Array Slot} (hdg : decode code pc = .ok (.ireturn, 1)) : W p l e room_1 s m #[Value.ref b] below meth c H [] 600000 7302250 (lw_Z below #[Value.ref b] s) (F0 m pc ls [.int 1]) := by
  intro T hT X
  obtain ⟨fs, hret, hrun, hended, hW, hframe⟩ := X.leave (v := some (.int 1)) (hlocks := hlocks) (fun h => by rw [hr] at h; cases h)
  have hmeth' : T.vm.method? m = some meth := X.method'
  refine ⟨T.setFrames fs, ?_, .returned (some (.int 1)), hrun, hended, rfl, ⟨_, rfl⟩, hW, hframe⟩
  jvm_step X.here [X.here.top, hx, hb, hdg, hmeth', hr, ret, narrow_b1]
  (try refine ⟨rfl, ?_⟩); (try refine ⟨rfl, ?_⟩)
  first | (intro acts; rw [hret _ acts rfl rfl rfl]) | rw [hret _ _ rfl rfl rfl]
  exact Steps.refl _
/-- what holds at the law's entry: the machine, the code, the tables' words (any of lw_tbl by 'hts w (by decide +kernel)'), the script of L ints xs at the cell b, what the Statement gives of the start (any of its parts by flat_of_before) -/
def lw_At (p : Program) (s : State) (m : MethodId) (meth : Method) (c : Code) (b L : Nat) (xs : Nat → Int32) : Prop :=
  p.tables.exec = Jvm.exec ∧ c.code = code ∧ meth.sig.returnType = ret ∧ c.maxLocals = 29 ∧ s.vm.findClass R_law = some m.cls ∧ (∀ w ∈ lw_tbl, w.before #[Value.ref b] s = true) ∧ va_X b L xs s s.heap ∧ b < s.heap.size ∧ meth.locks = false ∧ (Jvm.Cond.and given_1 narrow_1).before #[Value.ref b] s = true
def yL_cell : MethodName := ⟨RL, "cell", "([III)I"⟩
def yL_keys : MethodName := ⟨RL, "keys", "(LKeyDesk;[IIII)I"⟩
def yL_words : MethodName := ⟨RL, "words", "(LKeyDesk;[IIII)Z"⟩
def yL_law : MethodName := ⟨RL, "law", "([I)Z"⟩
def kdYo (A : kdA) : Prop := match A with
  | (_, _, _, s, _, _, _, _, _) => kdO s
/-- the script, below all cells of the memory, as it was at the method's entry -/
def kdLw (E : kdE) (A : kdA) (b N : Nat) (xs : Nat → Int32) : Prop := match A with
  | (_, _, _, s, _, _, _, _, _) => va_X b N xs s s.heap ∧ b < s.heap.size ∧ b < E.2.2.2
theorem kdLw_b {E : kdE} {A : kdA} {b N : Nat} {xs : Nat → Int32} (h : kdLw E A b N xs) : b < E.2.2.2 := by
  obtain ⟨p, e, R, s, m, args, below, meth, c⟩ := A
  exact h.2.2
def kdLe (A : kdA) (b : Nat) (z : Nat × Nat) : Prop := match A with
  | (_, _, R, _, _, args, _, meth, _) => R = room_1 ∧ args = #[.ref b] ∧ z.1 ≤ 600000 ∧ z.2 ≤ 7302250 ∧ meth.sig.returnType = ret
def kdLs (E : kdE) (A : kdA) : Prop := match A with
  | (_, _, _, s, _, _, _, _, _) => E.2.2.2 = s.heap.size
def scd {β : Type} (xs : Nat → Int32) (N : Nat) (i : Int32) (f : Int32 → kdM → Option β) : kdM → Option β := fun σ => if 0 ≤ i.toInt ∧ i.toInt < (N : Int) then f (xs (ix i)) σ else none
/-- the contract of a method that reads the script -/
def ConS (E : kdE) (G : kdS) (b N : Nat) (xs : Nat → Int32) (y : MethodName) (bytes : ByteArray) (maxL : Nat) (ret : Option FieldType) (h : Nat) (av : List Value) (σ : kdM) (z : Option Value × kdM) : Prop :=
  Met E.1 y (Cond.code y bytes maxL ret :: kdtb) (kdrm h) (va_Pc av (fun U => kdR E G σ U.heap ∧ va_K E.2.1 vwCl (kdty E.2.2.1) U ∧ kdW U ∧ va_X b N xs U U.heap)) (kdQ E G z) 0 0 (fun q => E.2.2.2 ≤ q)
theorem kdPreS {E : kdE} {G : kdS} {b N : Nat} {xs : Nat → Int32} {av : List Value} {σ : kdM} {s : State} {H : Heap} (hR : kdR E G σ H) (hK : va_K E.2.1 vwCl (kdty E.2.2.1) s) (hN : kdW s) (hX : va_X b N xs s H) : PreS s H (va_Pc av (fun U => kdR E G σ U.heap ∧ va_K E.2.1 vwCl (kdty E.2.2.1) U ∧ kdW U ∧ va_X b N xs U U.heap)) av :=
  ⟨fun a U g mk q => ⟨q.1, q.2.1, va_K.moved (u := U) (U := U.calling g mk a) (Vm.Alike.refl U.vm) q.2.2.1, kdW.same (u := U) (U := U.calling g mk a) rfl q.2.2.2.1, va_X.moved (u := U) (U := U.calling g mk a) (Vm.Alike.refl U.vm) q.2.2.2.2⟩, fun U hU hW => ⟨rfl, by rw [hU]; exact hR, va_K.moved hW.alike hK, kdW.warm hW hN, by rw [hU]; exact va_X.moved hW.alike hX⟩⟩
theorem kd_headS {E : kdE} {G : kdS} {b N : Nat} {xs : Nat → Int32} {y : MethodName} {bytes : ByteArray} {maxL h : Nat} {ret : Option FieldType} {own : String} {av : List Value} {σ : kdM} {z : Option Value × kdM} (hy : y.cls = own) (hpl : plainName y.cls = true) (hlen : (lg_sl av).length ≤ maxL) (hb : b < E.2.2.2) (body : ∀ A : kdA, kdX E A bytes maxL own ret h → kdLw E A b N xs → SW E G (.inl z) A maxL σ 0 (lv_args 0 av) []) : ConS E G b N xs y bytes maxL ret h av σ z := by
  refine Met.ofW (cc := bytes) (maxL := maxL) (ret := ret) hpl rfl ?_
  intro p e s m args below meth c s₁ B hml hv
  obtain ⟨rfl, hR, hK, hN, hXs⟩ := hv
  have hts := atoms_spec (ws := Cond.code y bytes maxL ret :: kdtb) B.pre
  have hown : s.vm.findClass own = some m.cls := hy ▸ findClass_of_methodNamed B.named
  have hsz : b < s.heap.size := by rw [hR.1]; omega
  have hb := body (p, e, (headSpec (Cond.code y bytes maxL ret :: kdtb) (kdrm h)).room, s, m, av.toArray, below, meth, c) ⟨B.exec, B.bytes, hml, hown, fun w hw => hts w (List.mem_cons_of_mem _ hw), hK, hN, B.notSynchronized, B.returns, Nat.le_refl _, Nat.le_refl _⟩ ⟨hXs, hsz, hb⟩
  rw [lg_entry_eq]
  exact hb s.heap [] _ (lv_entry av hlen) hR va_S.rf
theorem w_cL_L_9 : Cond.classLink RL 9 "KeyDesk" ∈ kdtb := kdtb_mem 22 (by decide +kernel) rfl
theorem w_is_X11 : Cond.instantiable "KeyDesk" 12 ∈ kdtb := kdtb_mem 23 (by decide +kernel) rfl
theorem w_ct_L_7 : Cond.constant RL 7 (4194303) ∈ kdtb := kdtb_mem 666 (by decide +kernel) rfl
theorem w_cd_L_cell : Cond.code yL_cell cL_cell 3 (some .int) ∈ kdtb := kdtb_mem 665 (by decide +kernel) rfl
theorem w_in_L : Cond.initialized RL ∈ kdtb := kdtb_mem 8 (by decide +kernel) rfl
theorem w_ml_L_14 : Cond.methodLink RL 14 yL_cell ∈ kdtb := kdtb_mem 663 (by decide +kernel) rfl
theorem w_st_L_cell : Cond.static yL_cell ∈ kdtb := kdtb_mem 664 (by decide +kernel) rfl
theorem w_cd_X11_key : Cond.code yX11_key cX11_key 2 (some .int) ∈ kdtb := kdtb_mem 673 (by decide +kernel) rfl
theorem w_ml_L_20 : Cond.methodLink RL 20 yX11_key ∈ kdtb := kdtb_mem 670 (by decide +kernel) rfl
theorem w_im_X11_key : Cond.instanceMethod yX11_key ∈ kdtb := kdtb_mem 671 (by decide +kernel) rfl
theorem w_se_X11_key : Cond.selects yX11_key.cls yX11_key yX11_key ∈ kdtb := kdtb_mem 672 (by decide +kernel) rfl
theorem w_cd_X11_told : Cond.code yX11_told cX11_told 2 (some .int) ∈ kdtb := kdtb_mem 620 (by decide +kernel) rfl
theorem w_ml_L_8 : Cond.methodLink RL 8 yX11_told ∈ kdtb := kdtb_mem 617 (by decide +kernel) rfl
theorem w_im_X11_told : Cond.instanceMethod yX11_told ∈ kdtb := kdtb_mem 618 (by decide +kernel) rfl
theorem w_se_X11_told : Cond.selects yX11_told.cls yX11_told yX11_told ∈ kdtb := kdtb_mem 619 (by decide +kernel) rfl
theorem w_cd_L_keys : Cond.code yL_keys cL_keys 7 (some .int) ∈ kdtb := kdtb_mem 669 (by decide +kernel) rfl
theorem w_ml_L_23 : Cond.methodLink RL 23 yL_keys ∈ kdtb := kdtb_mem 667 (by decide +kernel) rfl
theorem w_st_L_keys : Cond.static yL_keys ∈ kdtb := kdtb_mem 668 (by decide +kernel) rfl
theorem w_cd_X11_word : Cond.code yX11_word cX11_word 5 (some .int) ∈ kdtb := kdtb_mem 685 (by decide +kernel) rfl
theorem w_ml_L_27 : Cond.methodLink RL 27 yX11_word ∈ kdtb := kdtb_mem 682 (by decide +kernel) rfl
theorem w_im_X11_word : Cond.instanceMethod yX11_word ∈ kdtb := kdtb_mem 683 (by decide +kernel) rfl
theorem w_se_X11_word : Cond.selects yX11_word.cls yX11_word yX11_word ∈ kdtb := kdtb_mem 684 (by decide +kernel) rfl
theorem w_cd_X11_fade : Cond.code yX11_fade cX11_fade 2 (some .int) ∈ kdtb := kdtb_mem 568 (by decide +kernel) rfl
theorem w_ml_L_36 : Cond.methodLink RL 36 yX11_fade ∈ kdtb := kdtb_mem 565 (by decide +kernel) rfl
theorem w_im_X11_fade : Cond.instanceMethod yX11_fade ∈ kdtb := kdtb_mem 566 (by decide +kernel) rfl
theorem w_se_X11_fade : Cond.selects yX11_fade.cls yX11_fade yX11_fade ∈ kdtb := kdtb_mem 567 (by decide +kernel) rfl
theorem w_cd_L_words : Cond.code yL_words cL_words 7 (some .boolean) ∈ kdtb := kdtb_mem 681 (by decide +kernel) rfl
theorem w_ml_L_32 : Cond.methodLink RL 32 yL_words ∈ kdtb := kdtb_mem 679 (by decide +kernel) rfl
theorem w_st_L_words : Cond.static yL_words ∈ kdtb := kdtb_mem 680 (by decide +kernel) rfl
theorem w_cd_X11_learn : Cond.code yX11_learn cX11_learn 4 (some .int) ∈ kdtb := kdtb_mem 521 (by decide +kernel) rfl
theorem w_ml_L_39 : Cond.methodLink RL 39 yX11_learn ∈ kdtb := kdtb_mem 518 (by decide +kernel) rfl
theorem w_im_X11_learn : Cond.instanceMethod yX11_learn ∈ kdtb := kdtb_mem 519 (by decide +kernel) rfl
theorem w_se_X11_learn : Cond.selects yX11_learn.cls yX11_learn yX11_learn ∈ kdtb := kdtb_mem 520 (by decide +kernel) rfl
theorem w_cd_X11_worth : Cond.code yX11_worth cX11_worth 4 (some .int) ∈ kdtb := kdtb_mem 550 (by decide +kernel) rfl
theorem w_ml_L_42 : Cond.methodLink RL 42 yX11_worth ∈ kdtb := kdtb_mem 547 (by decide +kernel) rfl
theorem w_im_X11_worth : Cond.instanceMethod yX11_worth ∈ kdtb := kdtb_mem 548 (by decide +kernel) rfl
theorem w_se_X11_worth : Cond.selects yX11_worth.cls yX11_worth yX11_worth ∈ kdtb := kdtb_mem 549 (by decide +kernel) rfl
theorem w_cd_X11_guess : Cond.code yX11_guess cX11_guess 4 (some .int) ∈ kdtb := kdtb_mem 453 (by decide +kernel) rfl
theorem w_ml_L_56 : Cond.methodLink RL 56 yX11_guess ∈ kdtb := kdtb_mem 450 (by decide +kernel) rfl
theorem w_im_X11_guess : Cond.instanceMethod yX11_guess ∈ kdtb := kdtb_mem 451 (by decide +kernel) rfl
theorem w_se_X11_guess : Cond.selects yX11_guess.cls yX11_guess yX11_guess ∈ kdtb := kdtb_mem 452 (by decide +kernel) rfl
theorem w_ct_L_59 : Cond.constant RL 59 (1000000) ∈ kdtb := kdtb_mem 705 (by decide +kernel) rfl
theorem w_cd_X11_seed : Cond.code yX11_seed cX11_seed 2 (some .int) ∈ kdtb := kdtb_mem 588 (by decide +kernel) rfl
theorem w_ml_L_60 : Cond.methodLink RL 60 yX11_seed ∈ kdtb := kdtb_mem 585 (by decide +kernel) rfl
theorem w_im_X11_seed : Cond.instanceMethod yX11_seed ∈ kdtb := kdtb_mem 586 (by decide +kernel) rfl
theorem w_se_X11_seed : Cond.selects yX11_seed.cls yX11_seed yX11_seed ∈ kdtb := kdtb_mem 587 (by decide +kernel) rfl
theorem w_cd_X11_mine : Cond.code yX11_mine cX11_mine 6 (some .int) ∈ kdtb := kdtb_mem 576 (by decide +kernel) rfl
theorem w_ml_L_45 : Cond.methodLink RL 45 yX11_mine ∈ kdtb := kdtb_mem 573 (by decide +kernel) rfl
theorem w_im_X11_mine : Cond.instanceMethod yX11_mine ∈ kdtb := kdtb_mem 574 (by decide +kernel) rfl
theorem w_se_X11_mine : Cond.selects yX11_mine.cls yX11_mine yX11_mine ∈ kdtb := kdtb_mem 575 (by decide +kernel) rfl
theorem w_cd_X11_ofWord : Cond.code yX11_ofWord cX11_ofWord 3 (some .int) ∈ kdtb := kdtb_mem 379 (by decide +kernel) rfl
theorem w_ml_L_49 : Cond.methodLink RL 49 yX11_ofWord ∈ kdtb := kdtb_mem 376 (by decide +kernel) rfl
theorem w_im_X11_ofWord : Cond.instanceMethod yX11_ofWord ∈ kdtb := kdtb_mem 377 (by decide +kernel) rfl
theorem w_se_X11_ofWord : Cond.selects yX11_ofWord.cls yX11_ofWord yX11_ofWord ∈ kdtb := kdtb_mem 378 (by decide +kernel) rfl
theorem w_cd_X11_slip : Cond.code yX11_slip cX11_slip 2 (some .int) ∈ kdtb := kdtb_mem 417 (by decide +kernel) rfl
theorem w_ml_L_53 : Cond.methodLink RL 53 yX11_slip ∈ kdtb := kdtb_mem 414 (by decide +kernel) rfl
theorem w_im_X11_slip : Cond.instanceMethod yX11_slip ∈ kdtb := kdtb_mem 415 (by decide +kernel) rfl
theorem w_se_X11_slip : Cond.selects yX11_slip.cls yX11_slip yX11_slip ∈ kdtb := kdtb_mem 416 (by decide +kernel) rfl
theorem w_cd_X11_share : Cond.code yX11_share cX11_share 4 (some .int) ∈ kdtb := kdtb_mem 597 (by decide +kernel) rfl
theorem w_ml_L_66 : Cond.methodLink RL 66 yX11_share ∈ kdtb := kdtb_mem 594 (by decide +kernel) rfl
theorem w_im_X11_share : Cond.instanceMethod yX11_share ∈ kdtb := kdtb_mem 595 (by decide +kernel) rfl
theorem w_se_X11_share : Cond.selects yX11_share.cls yX11_share yX11_share ∈ kdtb := kdtb_mem 596 (by decide +kernel) rfl
theorem w_cl_L_70 : Cond.constantLong RL 70 (16807) ∈ kdtb := kdtb_mem 707 (by decide +kernel) rfl
theorem w_cl_L_72 : Cond.constantLong RL 72 (2147483647) ∈ kdtb := kdtb_mem 708 (by decide +kernel) rfl
theorem w_cl_L_74 : Cond.constantLong RL 74 (2001) ∈ kdtb := kdtb_mem 709 (by decide +kernel) rfl
theorem w_ct_L_69 : Cond.constant RL 69 (-1000005) ∈ kdtb := kdtb_mem 706 (by decide +kernel) rfl
theorem w_cd_X11_forget : Cond.code yX11_forget cX11_forget 3 (some .int) ∈ kdtb := kdtb_mem 554 (by decide +kernel) rfl
theorem w_ml_L_76 : Cond.methodLink RL 76 yX11_forget ∈ kdtb := kdtb_mem 551 (by decide +kernel) rfl
theorem w_im_X11_forget : Cond.instanceMethod yX11_forget ∈ kdtb := kdtb_mem 552 (by decide +kernel) rfl
theorem w_se_X11_forget : Cond.selects yX11_forget.cls yX11_forget yX11_forget ∈ kdtb := kdtb_mem 553 (by decide +kernel) rfl
theorem w_cd_X11_budget : Cond.code yX11_budget cX11_budget 3 (some .int) ∈ kdtb := kdtb_mem 580 (by decide +kernel) rfl
theorem w_ml_L_63 : Cond.methodLink RL 63 yX11_budget ∈ kdtb := kdtb_mem 577 (by decide +kernel) rfl
theorem w_im_X11_budget : Cond.instanceMethod yX11_budget ∈ kdtb := kdtb_mem 578 (by decide +kernel) rfl
theorem w_se_X11_budget : Cond.selects yX11_budget.cls yX11_budget yX11_budget ∈ kdtb := kdtb_mem 579 (by decide +kernel) rfl
theorem w_cd_X11_init : Cond.code yX11_init cX11_init 2 none ∈ kdtb := kdtb_mem 26 (by decide +kernel) rfl
theorem w_im_X11_init : Cond.instanceMethod yX11_init ∈ kdtb := kdtb_mem 25 (by decide +kernel) rfl
theorem w_ml_L_31 : Cond.methodLink RL 31 yX11_init ∈ kdtb := kdtb_mem 24 (by decide +kernel) rfl
theorem kd_dd_X11 : kdD 11 := ⟨RX11, TX11, 12, tyX11, rfl, kd_in_X11, tyX11_ok, by decide +kernel⟩
theorem kk_b_37 : (Int8.ofInt 37).toInt32 = (37 : Int32) := by decide
theorem kk_b_102 : (Int8.ofInt 102).toInt32 = (102 : Int32) := by decide
theorem kk_b_101 : (Int8.ofInt 101).toInt32 = (101 : Int32) := by decide
theorem kk_s_1001 : (Int16.ofInt 1001).toInt32 = (1001 : Int32) := by decide
theorem kk_s_160 : (Int16.ofInt 160).toInt32 = (160 : Int32) := by decide
theorem kk_b_104 : (Int8.ofInt 104).toInt32 = (104 : Int32) := by decide
theorem kk_b_105 : (Int8.ofInt 105).toInt32 = (105 : Int32) := by decide
theorem kk_b_106 : (Int8.ofInt 106).toInt32 = (106 : Int32) := by decide
theorem kk_b_103 : (Int8.ofInt 103).toInt32 = (103 : Int32) := by decide
theorem kk_s_180 : (Int16.ofInt 180).toInt32 = (180 : Int32) := by decide
theorem kk_s_170 : (Int16.ofInt 170).toInt32 = (170 : Int32) := by decide
theorem kk_s_169 : (Int16.ofInt 169).toInt32 = (169 : Int32) := by decide
theorem kk_s_175 : (Int16.ofInt 175).toInt32 = (175 : Int32) := by decide
theorem kk_s_190 : (Int16.ofInt 190).toInt32 = (190 : Int32) := by decide
theorem kk_s_191 : (Int16.ofInt 191).toInt32 = (191 : Int32) := by decide
theorem kk_s_181 : (Int16.ofInt 181).toInt32 = (181 : Int32) := by decide
theorem kk_s_200 : (Int16.ofInt 200).toInt32 = (200 : Int32) := by decide
theorem kl_L_cell : kdL yL_cell cL_cell 3 (some .int) 3 := ⟨w_cd_L_cell, w_in_L, by decide +kernel, by decide +kernel, by decide⟩
theorem kl_X11_key : kdL yX11_key cX11_key 2 (some .int) 1 := ⟨w_cd_X11_key, w_in_X11, by decide +kernel, by decide +kernel, by decide⟩
theorem kl_X11_told : kdL yX11_told cX11_told 2 (some .int) 1 := ⟨w_cd_X11_told, w_in_X11, by decide +kernel, by decide +kernel, by decide⟩
theorem kl_L_keys : kdL yL_keys cL_keys 7 (some .int) 5 := ⟨w_cd_L_keys, w_in_L, by decide +kernel, by decide +kernel, by decide⟩
theorem kl_X11_word : kdL yX11_word cX11_word 5 (some .int) 3 := ⟨w_cd_X11_word, w_in_X11, by decide +kernel, by decide +kernel, by decide⟩
theorem kl_X11_fade : kdL yX11_fade cX11_fade 2 (some .int) 1 := ⟨w_cd_X11_fade, w_in_X11, by decide +kernel, by decide +kernel, by decide⟩
theorem kl_L_words : kdL yL_words cL_words 7 (some .boolean) 5 := ⟨w_cd_L_words, w_in_L, by decide +kernel, by decide +kernel, by decide⟩
theorem kl_X11_learn : kdL yX11_learn cX11_learn 4 (some .int) 3 := ⟨w_cd_X11_learn, w_in_X11, by decide +kernel, by decide +kernel, by decide⟩
theorem kl_X11_worth : kdL yX11_worth cX11_worth 4 (some .int) 3 := ⟨w_cd_X11_worth, w_in_X11, by decide +kernel, by decide +kernel, by decide⟩
theorem kl_X11_guess : kdL yX11_guess cX11_guess 4 (some .int) 3 := ⟨w_cd_X11_guess, w_in_X11, by decide +kernel, by decide +kernel, by decide⟩
theorem kl_X11_seed : kdL yX11_seed cX11_seed 2 (some .int) 1 := ⟨w_cd_X11_seed, w_in_X11, by decide +kernel, by decide +kernel, by decide⟩
theorem kl_X11_mine : kdL yX11_mine cX11_mine 6 (some .int) 5 := ⟨w_cd_X11_mine, w_in_X11, by decide +kernel, by decide +kernel, by decide⟩
theorem kl_X11_ofWord : kdL yX11_ofWord cX11_ofWord 3 (some .int) 2 := ⟨w_cd_X11_ofWord, w_in_X11, by decide +kernel, by decide +kernel, by decide⟩
theorem kl_X11_slip : kdL yX11_slip cX11_slip 2 (some .int) 1 := ⟨w_cd_X11_slip, w_in_X11, by decide +kernel, by decide +kernel, by decide⟩
theorem kl_X11_share : kdL yX11_share cX11_share 4 (some .int) 3 := ⟨w_cd_X11_share, w_in_X11, by decide +kernel, by decide +kernel, by decide⟩
theorem kl_X11_forget : kdL yX11_forget cX11_forget 3 (some .int) 2 := ⟨w_cd_X11_forget, w_in_X11, by decide +kernel, by decide +kernel, by decide⟩
theorem kl_X11_budget : kdL yX11_budget cX11_budget 3 (some .int) 2 := ⟨w_cd_X11_budget, w_in_X11, by decide +kernel, by decide +kernel, by decide⟩
theorem kl_X11_init : kdL yX11_init cX11_init 2 none 0 := ⟨w_cd_X11_init, w_in_X11, by decide +kernel, by decide +kernel, by decide⟩
section KDRL
variable {E : kdE} {A : kdA} {G : kdS} {σ : kdM} {nL h c0 s0 cc cs pc : Nat} {Q : State → Prop} {L : List (Nat × Value)} {st : List Value} {bc : ByteArray} {own : String} {ret : Option FieldType}
theorem r1_newLaw {ci n idx : Nat} {C : String} {β : Type} {f : Nat → kd1 → Option β} {w : β} (hX : kdX E A bc nL own ret h) (hY : kdYo A) (hd : decode bc pc = .ok (.new idx, 3)) (hD : kdD ci) (hcC : ∃ T, vwCl[ci]? = some (C, T, n)) (hcl : Cond.classLink own idx C ∈ kdtb) (hin : Cond.instantiable C n ∈ kdtb) (hini : Cond.initialized C ∈ kdtb) (hc : c0 + cc = (kdAR A).cells) (hs : s0 + cs = (kdAR A).slots) (hh : n1 ci n f (G, σ, cc, cs) = some w)
    (kk : ∀ (t : Nat) (G' : kdS) (σ' : kdM) (cc' cs' c0' s0' : Nat), c0' + cc' = (kdAR A).cells → s0' + cs' = (kdAR A).slots → f t (G', σ', cc', cs') = some w → SWg E A nL Q (kdR E G' σ') c0' s0' (pc + 3) L (kr E t :: st)) : SWg E A nL Q (kdR E G σ) c0 s0 pc L st := by
  unfold n1 at hh
  split at hh
  case isFalse => cases hh
  case isTrue hq =>
    obtain ⟨q1, q2⟩ := hq
    have q1 : 1 ≤ cc := q1
    have q2 : n ≤ cs := q2
    have kk := kk _ _ _ _ _ (c0 + 1) (s0 + n) (by show c0 + 1 + (cc - 1) = _; omega) (by show s0 + n + (cs - n) = _; omega) hh
    obtain ⟨p, e, R, s, m, args, below, meth, c⟩ := A
    intro H locs ls hl hR hS
    obtain ⟨x1, x2, x3, x4, x5, x6, -⟩ := hX
    obtain ⟨T', hcC⟩ := hcC
    obtain ⟨C', T, N, ty, hcv, hws, hty, hdf⟩ := hD
    cases hcv.symm.trans hcC
    have hKn := x6.1 ci _ hcv
    have hci13 : ci < 13 := Nat.lt_of_lt_of_le (List.getElem?_eq_some_iff.mp hcv).1 (Nat.le_of_ble_eq_true rfl)
    have hc' : c0 + cc = R.cells := hc
    have hs' : s0 + cs = R.slots := hs
    refine W.newcK x1 x2 x4 (x5 _ hcl) (x5 _ hin) (x5 _ hini) rfl hd (by omega) (by omega) hKn.2.1 hR.1 fun H1 kC hkC e1 z1 o1 => ?_
    have ho : ∀ x : Nat, x < H.size → H1[x]? = H[x]? := fun x hx => o1 x (by rw [← hR.1]; exact hx)
    refine kk H1 locs ls hl (hR.push (by rw [z1, hR.1]) ho ⟨fun _ => ⟨_, by simpa [ga] using hcv, ?_⟩, fun h13 => absurd h13 (by simp [ga]; omega)⟩) (va_S_push hS (by rw [z1, hR.1]; omega) ho)
    have hb := u_born ty x5 hws hKn hkC e1 hty
    have e9 : ((ga G (ci, 0)).1 G.2.2).1 = ci := by simp [ga]
    rw [e9]
    refine hb.to (fun j hj => ?_)
    rw [hdf j hj]
    simp [kdV, ga, gz, va_rf]
theorem r1_cILaw {y : MethodName} {bytes : ByteArray} {maxL n idx h2 b mc ms : Nat} {As st1 : List Value} {β : Type} {g : kd1 → Option (Unit × kd1)} {f : kd1 → Option β} {w : β} (hX : kdX E A bc nL own ret h) (hY : kdYo A) (hd : decode bc pc = .ok (.invokespecial idx, 3)) (hL : kdL y bytes maxL none n) (hlink : Cond.methodLink own idx y ∈ kdtb) (hinst : Cond.instanceMethod y ∈ kdtb) (hy1 : y.name = "<init>") (hh : h2 < h) (hn : As.length = n) (hst : (st.map fun v => v.category).sum ≤ 8) (hs1 : As.reverse ++ kr E b :: st = st1) (hc : c0 + cc = (kdAR A).cells) (hs : s0 + cs = (kdAR A).slots) (hq : sub1 mc ms g f (G, σ, cc, cs) = some w)
    (hC : ∀ (G1 : kdS) (σ1 : kdM) (c1 s1 : Nat), g (G, σ, mc, ms) = some ((), (G1, σ1, c1, s1)) → Con1 E y bytes maxL none h2 mc ms (kr E b :: As) G σ (none, G1, σ1))
    (kk : ∀ (G' : kdS) (σ' : kdM) (cc' cs' c0' s0' : Nat), c0' + cc' = (kdAR A).cells → s0' + cs' = (kdAR A).slots → f (G', σ', cc', cs') = some w → SWg E A nL Q (kdR E G' σ') c0' s0' (pc + 3) L st) : SWg E A nL Q (kdR E G σ) c0 s0 pc L st1 := by
  subst hs1
  obtain ⟨m1, m2, G1, σ1, c1, s1, e1, e2⟩ := sub1_inv hq
  have kk := kk G1 σ1 _ _ (c0 + mc) (s0 + ms) (by omega) (by omega) e2
  obtain ⟨p, e, R, s, m, args, below, meth, c⟩ := A
  intro H locs ls hl hR hS
  obtain ⟨x1, x2, x3, x4, x5, x6, x7, x8, x9, x10, x11⟩ := hX
  obtain ⟨l1, l2, l3, l4, l5⟩ := hL
  have hc' : c0 + cc = R.cells := hc
  have hs' : s0 + cs = R.slots := hs
  have cw : CallB R s args own idx y bytes maxL none (Cond.code y bytes maxL none :: kdtb) (kdr1 h2 mc ms) mc ms n := callB_of n x5 (kdG l1) rfl rfl rfl (x5 _ l2) (x5 _ hlink) ⟨l3.1, l3.2, l4⟩ ⟨by show h2 + 1 ≤ _; omega, by show 8 + (maxL + 11) + 40 * h2 ≤ _; omega⟩
  exact kd1_call (va_runI (As := As) (rest := st) (cells := c0) (slots := s0) (mc := mc) (ms := ms) (b := E.2.2.2 + b) (g := F0 m pc ls (As.reverse ++ kr E b :: st)) ⟨x1, x2, x3, x4, x5⟩ (hC G1 σ1 c1 s1 e1) ⟨cw, hy1, x5 _ hinst⟩ (kd1Pre (av := kr E b :: As) hR x6 x7 hY) rfl hn hl.1 rfl (lv_room hst) hd ⟨by omega, by omega⟩) hl hS kk
theorem r1_newaLaw {len : Int32} {β : Type} {f : Nat → kd1 → Option β} {w : β} (hX : kdX E A bc nL own ret h) (hd : decode bc pc = .ok (.newarray .int, 2)) (hac : Cond.arrayClass .int ∈ kdtb) (hc : c0 + cc = (kdAR A).cells) (hs : s0 + cs = (kdAR A).slots) (hh : n1A 13 len f (G, σ, cc, cs) = some w)
    (kk : ∀ (t : Nat) (G' : kdS) (σ' : kdM) (cc' cs' c0' s0' : Nat), c0' + cc' = (kdAR A).cells → s0' + cs' = (kdAR A).slots → f t (G', σ', cc', cs') = some w → SWg E A nL Q (kdR E G' σ') c0' s0' (pc + 2) L (kr E t :: st)) : SWg E A nL Q (kdR E G σ) c0 s0 pc L (.int len :: st) := by
  unfold n1A at hh
  split at hh
  case isFalse => cases hh
  case isTrue hq =>
    obtain ⟨q1, q2, q3, q4⟩ := hq
    have q1 : 1 ≤ cc := q1
    have q4 : len.toInt.toNat ≤ cs := q4
    have kk := kk _ _ _ _ _ (c0 + 1) (s0 + len.toInt.toNat) (by show c0 + 1 + (cc - 1) = _; omega) (by show s0 + len.toInt.toNat + (cs - len.toInt.toNat) = _; omega) hh
    obtain ⟨p, e, R, s, m, args, below, meth, c⟩ := A
    intro H locs ls hl hR hS
    obtain ⟨x1, x2, x3, x4, x5, x6, -⟩ := hX
    have hc' : c0 + cc = R.cells := hc
    have hs' : s0 + cs = R.slots := hs
    have hcy := (x6.2 0 _ rfl).2
    refine va_newaK (atype := .int) x1 x2 (x5 _ hac) rfl hd rfl (by rw [Int32.lt_iff_toInt_lt, Int32.toInt_zero]; omega) rfl (by show len.toInt.toNat * _ ≤ _; simp only [newarray.typeOf, componentBytes]; omega) (by omega) (by show s0 + len.toInt.toNat ≤ _; omega) hR.1 fun H1 cA e1 z1 o1 hA hfc => ?_
    cases hcy.symm.trans hfc
    have ho : ∀ x : Nat, x < H.size → H1[x]? = H[x]? := fun x hx => o1 x (by rw [← hR.1]; exact hx)
    refine kk H1 locs ls hl (hR.push (by rw [z1, hR.1]) ho ⟨fun h13 => absurd h13 (by simp [ga]), fun _ => ?_⟩) (va_S_push hS (by rw [z1, hR.1]; omega) ho)
    have e8 : (ga G (13, len.toInt.toNat)).1 G.2.2 = (13, len.toInt.toNat) := by simp [ga]
    rw [e1, e8]
    refine congrArg some (congrArg _ (funext fun j => ?_))
    simp [kdV, ga, gz, kdv, defaultValue, newarray.typeOf]
theorem r_sload {q : Fin 4} {i a : Nat} {Rl : Heap → Prop} {cc : ByteArray} (hX : kdX E A cc nL own ret h) (hd : decode cc pc = .ok (.aload_n q, 1)) (hi : (q : Nat) = i) (j : Nat) (hk : L[j]? = some (i, .ref a)) (k : SWg E A nL Q Rl c0 s0 (pc + 1) L (.ref a :: st)) : SWg E A nL Q Rl c0 s0 pc L st := by
  obtain ⟨p, e, R, s, m, args, below, meth, c⟩ := A
  intro H locs ls hl hR hS
  exact lv_aload_n hX.1 hX.2.1 hd hi (lv_at hl j hk) (k H locs ls hl hR hS)
theorem r_sc {z : kdZ} {b N : Nat} {xs : Nat → Int32} {cc : ByteArray} {i : Int32} {β : Type} {f : Int32 → kdM → Option β} {w : β} (hX : kdX E A cc nL own ret h) (hLw : kdLw E A b N xs) (hd : decode cc pc = .ok (.iaload, 1)) (hh : scd xs N i f σ = some w) (k : ∀ x : Int32, f x σ = some w → SW E G z A nL σ (pc + 1) L (.int x :: st)) : SW E G z A nL σ pc L (.int i :: .ref b :: st) := by
  unfold scd at hh
  split at hh
  case isFalse => cases hh
  case isTrue hin =>
    have k := k _ hh
    obtain ⟨p, e, R, s, m, args, below, meth, c⟩ := A
    obtain ⟨l1, l2, l3⟩ := hLw
    intro H locs ls hl hR hS
    exact va_sld hX.1 hX.2.1 l1 l2 (by show ¬ E.2.2.2 ≤ b; omega) hS (kd_in hin) hd (k H locs ls hl hR hS)
theorem r_scn {z : kdZ} {b N : Nat} {xs : Nat → Int32} {cc : ByteArray} (hX : kdX E A cc nL own ret h) (hLw : kdLw E A b N xs) (hd : decode cc pc = .ok (.arraylength, 1)) (k : SW E G z A nL σ (pc + 1) L (.int (Int32.ofNat N) :: st)) : SW E G z A nL σ pc L (.ref b :: st) := by
  obtain ⟨p, e, R, s, m, args, below, meth, c⟩ := A
  obtain ⟨l1, l2, l3⟩ := hLw
  intro H locs ls hl hR hS
  exact va_slen hX.1 hX.2.1 l1 l2 (by show ¬ E.2.2.2 ≤ b; omega) hS hd (k H locs ls hl hR hS)
theorem r_cSs {z : kdZ} {b N : Nat} {xs : Nat → Int32} {cc : ByteArray} {y : MethodName} {bytes : ByteArray} {maxL n idx h2 : Nat} {ret2 : Option FieldType} {As st1 : List Value} {β : Type} {g : kdM → Option (Int32 × kdM)} {f : Int32 → kdM → Option β} {w : β} (hX : kdX E A cc nL own ret h) (hLw : kdLw E A b N xs) (hd : decode cc pc = .ok (.invokestatic idx, 3)) (hL : kdL y bytes maxL ret2 n) (hlink : Cond.methodLink own idx y ∈ kdtb) (hstat : Cond.static y ∈ kdtb) (hh : h2 < h) (hn : As.length = n) (hst : (st.map fun v => v.category).sum ≤ 8) (hs : (As.reverse ++ st) = st1) (hcs : kdRO A (kdzc z) (kdzs z)) (hq : kcl g f σ = some w)
    (hC : ∀ (r : Int32) (σ1 : kdM), g σ = some (r, σ1) → ConS E G b N xs y bytes maxL ret2 h2 As σ (some (.int r), σ1)) (kk : ∀ (r : Int32) (σ1 : kdM), f r σ1 = some w → SW E G z A nL σ1 (pc + 3) L (.int r :: st)) : SW E G z A nL σ pc L st1 := by
  subst hs
  obtain ⟨r, σ1, e1, e2⟩ := kcl_inv hq
  have hC := hC r σ1 e1
  have kk := kk r σ1 e2
  obtain ⟨p, e, R, s, m, args, below, meth, c⟩ := A
  intro H locs ls hl hR hS
  obtain ⟨x1, x2, x3, x4, x5, x6, x7, x8, x9, x10, x11⟩ := hX
  obtain ⟨l1, l2, l3, l4, l5⟩ := hL
  obtain ⟨s1, s2, s3⟩ := hLw
  have hXH : va_X b N xs s H := s1.kept (hS.2.1 b s2 (by show ¬ E.2.2.2 ≤ b; omega))
  have cw : CallB R s args own idx y bytes maxL ret2 (Cond.code y bytes maxL ret2 :: kdtb) (kdrm h2) 0 0 n := callB_of n x5 (kdG l1) rfl rfl rfl (x5 _ l2) (x5 _ hlink) ⟨l3.1, l3.2, l4⟩ ⟨by show h2 + 1 ≤ _; omega, by show 8 + (maxL + 11) + 40 * h2 ≤ _; omega⟩
  exact kd_call (v := some (.int r)) (va_runS (rest := st) ⟨x1, x2, x3, x4, x5⟩ hC ⟨cw, x5 _ hstat⟩ (kdPreS hR x6 x7 hXH) rfl hn hl.1 rfl (lv_room hst) hd hcs) hl hS kk
end KDRL
/-- the law makes a row: the memory has a cell more, of zeros -/
theorem r_newL {E : kdE} {A : kdA} {G G2 : kdS} {σ : kdM} {nL h c0 s0 n pc : Nat} {Q : State → Prop} {L : List (Nat × Value)} {st : List Value} {bc : ByteArray} {own : String} {ret : Option FieldType} {len : Int32} (hX : kdX E A bc nL own ret h) (hd : decode bc pc = .ok (.newarray .int, 2)) (hl : len.toInt = (n : Int)) (hn : n ≤ 100000) (hc : c0 + 1 ≤ (kdAR A).cells) (hs : s0 + n ≤ (kdAR A).slots) (hG : G2 = ga G (13, n)) (kk : SWg E A nL Q (kdR E G2 (gz G.2.2 σ)) (c0 + 1) (s0 + n) (pc + 2) L (kr E G.2.2 :: st)) : SWg E A nL Q (kdR E G σ) c0 s0 pc L (.int len :: st) := by
  subst hG
  refine r1_newaLaw (cc := (kdAR A).cells - c0) (cs := (kdAR A).slots - s0) (f := fun t S => some (t, S)) (w := (G.2.2, (ga G (13, n), gz G.2.2 σ, (kdAR A).cells - c0 - 1, (kdAR A).slots - s0 - n))) hX hd w_ac_int (by omega) (by omega) ?_ ?_
  · unfold n1A
    rw [if_pos (by dsimp only; rw [hl]; refine ⟨by omega, by omega, by omega, by omega⟩)]
    have e : len.toInt.toNat = n := by omega
    rw [e]
  · intro t G' σ' cc' cs' c0' s0' h1 h2 h3
    have h3 := Option.some.inj h3
    have q0 : t = G.2.2 := congrArg (fun z : Nat × kd1 => z.1) h3
    have q1 : G' = ga G (13, n) := congrArg (fun z : Nat × kd1 => z.2.1) h3
    have q2 : σ' = gz G.2.2 σ := congrArg (fun z : Nat × kd1 => z.2.2.1) h3
    have q3 : cc' = (kdAR A).cells - c0 - 1 := congrArg (fun z : Nat × kd1 => z.2.2.2.1) h3
    have q4 : cs' = (kdAR A).slots - s0 - n := congrArg (fun z : Nat × kd1 => z.2.2.2.2) h3
    rw [q0, q1, q2, show c0' = c0 + 1 by omega, show s0' = s0 + n by omega]
    exact kk
theorem r_lawend {E : kdE} {A : kdA} {G : kdS} {σ : kdM} {h pc b : Nat} {z : Nat × Nat} {L : List (Nat × Value)} (hX : kdX E A cL_law 29 RL (some .boolean) h) (hLe : kdLe A b z) (hLs : kdLs E A) (hd : decode cL_law pc = .ok (.ireturn, 1)) : SW E G (.inr z) A 29 σ pc L [.int 1] := by
  obtain ⟨p, e, R, s, m, args, below, meth, c⟩ := A
  obtain ⟨rfl, rfl, e1, e2, hr⟩ := hLe
  intro H locs ls hl hR hS
  have hLs : E.2.2.2 = s.heap.size := hLs
  refine va_forget (fun q hq => by rw [← hLs]; exact hS.2.2 q hq) ?_
  refine W.widen (k := 600000) (n := 7302250) e1 e2 ?_
  exact lw_ret hX.1 hX.2.1 hr hX.2.2.2.2.2.2.2.1 hd
def L_pre : kd1 → Option ((Nat × Nat) × kd1) :=
  n1 11 12 fun t1 => sub1 611 10973 (X11_init t1) <| n1 11 12 fun t2 => sub1 611 10973 (X11_init t2) <| rt1 (t1, t2)
set_option maxRecDepth 100000 in
set_option maxHeartbeats 4000000 in
theorem wL_pre {E : kdE} {A : kdA} {G : kdS} {σ : kdM} {c0 s0 cc cs b : Nat} {Q : State → Prop} {x m cc1 cs1 : Nat} {G1 : kdS} {σ1 : kdM} (hX : kdX E A cL_law 29 RL (some .boolean) 8) (hY : kdYo A) (hc : c0 + cc = (kdAR A).cells) (hs : s0 + cs = (kdAR A).slots) (h : L_pre (G, σ, cc, cs) = some ((x, m), (G1, σ1, cc1, cs1)))
    (kk : ∀ c0' s0' : Nat, c0' + cc1 = (kdAR A).cells → s0' + cs1 = (kdAR A).slots → SWg E A 29 Q (kdR E G1 σ1) c0' s0' 16 [(0, .ref b), (1, kr E x), (2, kr E m)] []) : SWg E A 29 Q (kdR E G σ) c0 s0 0 [(0, .ref b)] [] := by
  unfold L_pre at h
  refine r1_newLaw (n := 12) hX hY dL_law_0 kd_dd_X11 ⟨_, rfl⟩ w_cL_L_9 w_is_X11 w_in_X11 hc hs h ?_
  clear h hc hs; intro t1 G σ cc cs c0 s0 hc hs h
  refine r_dup hX dL_law_3 rfl ?_
  refine r1_cILaw (As := []) (st := [kr E t1]) hX hY dL_law_4 kl_X11_init w_ml_L_31 w_im_X11_init rfl (by decide) rfl (Nat.le_of_ble_eq_true rfl) rfl hc hs h (fun G1 σ1 c1 s1 h => wX11_init h) ?_
  clear h hc hs; intro G σ cc cs c0 s0 hc hs h
  refine r_astore_n (L2 := [(1, kr E t1), (0, .ref b)]) hX dL_law_7 rfl (by decide) rfl ?_
  refine r1_newLaw (n := 12) hX hY dL_law_8 kd_dd_X11 ⟨_, rfl⟩ w_cL_L_9 w_is_X11 w_in_X11 hc hs h ?_
  clear h hc hs; intro t2 G σ cc cs c0 s0 hc hs h
  refine r_dup hX dL_law_11 rfl ?_
  refine r1_cILaw (As := []) (st := [kr E t2]) hX hY dL_law_12 kl_X11_init w_ml_L_31 w_im_X11_init rfl (by decide) rfl (Nat.le_of_ble_eq_true rfl) rfl hc hs h (fun G1 σ1 c1 s1 h => wX11_init h) ?_
  clear h hc hs; intro G σ cc cs c0 s0 hc hs h
  refine r_astore_n (L2 := [(2, kr E t2), (1, kr E t1), (0, .ref b)]) hX dL_law_15 rfl (by decide) rfl ?_
  refine r_sub [2, 1, 0] rfl ?_
  cases h
  exact kk c0 s0 hc hs
def L_cell_28 (G : kdS) (xs : Nat → Int32) (N : Nat) (l2 : Int32) (s0 : Int32) : kdM → Option (Int32 × kdM) :=
  nz l2 <|
  rt (krem s0 l2)
set_option maxRecDepth 100000 in
set_option maxHeartbeats 4000000 in
theorem wL_cell_28 {E : kdE} {G : kdS} {A : kdA} {b N : Nat} {xs : Nat → Int32} {r : Int32} {σ1 : kdM} (hX : kdX E A cL_cell 3 RL (some .int) 0) (hLw : kdLw E A b N xs) {l2 : Int32} {s0 : Int32} {σ : kdM} (h : L_cell_28 G xs N l2 s0 σ = some (r, σ1)) : SW E G (.inl (some (.int r), σ1)) A 3 σ 28 [(0, .ref b), (2, .int l2)] [.int s0] := by
  unfold L_cell_28 at h
  refine r_iload_n hX dL_cell_28 rfl 1 rfl ?_
  refine r_irem hX dL_cell_29 h ?_
  clear h; intro h
  exact r_iret hX dL_cell_30 h
def L_cell (G : kdS) (xs : Nat → Int32) (N : Nat) (l1 : Int32) (l2 : Int32) : kdM → Option (Int32 × kdM) :=
  cnd ((Int32.ofNat N) = 0)
    (L_cell_28 G xs N l2 ((l1 * (37 : Int32)) + (5 : Int32)))
    (nz (Int32.ofNat N) <|
    scd xs N ((krem l1 (Int32.ofNat N))) fun t1 =>
    nz (7 : Int32) <|
    L_cell_28 G xs N l2 ((t1 >>> ((krem l1 (7 : Int32)) &&& 31)) &&& (4194303 : Int32)))
set_option maxRecDepth 100000 in
set_option maxHeartbeats 4000000 in
theorem wL_cell {E : kdE} {G : kdS} {b N : Nat} {xs : Nat → Int32} {l1 : Int32} {l2 : Int32} {σ : kdM} {r : Int32} {σ1 : kdM} (hb : b < E.2.2.2) (h : L_cell G xs N l1 l2 σ = some (r, σ1)) : ConS E G b N xs yL_cell cL_cell 3 (some .int) 0 [.ref b, .int l1, .int l2] σ (some (.int r), σ1) := by
  refine kd_headS (own := RL) rfl (by decide +kernel) (Nat.le_of_ble_eq_true rfl) hb (fun A hX hLw => ?_)
  show SW E G (.inl (some (.int r), σ1)) A 3 σ 0 [(0, .ref b), (1, .int l1), (2, .int l2)] []
  unfold L_cell at h
  refine r_sload hX dL_cell_0 rfl 0 rfl ?_
  refine r_scn hX hLw dL_cell_1 ?_
  refine r_if_ne (tgt := 14) hX dL_cell_2 (by decide) h ?_ ?_
  · clear h; intro h
    refine r_iload_n hX dL_cell_5 rfl 1 rfl ?_
    refine r_bipush hX dL_cell_6 kk_b_37 ?_
    refine r_imul hX dL_cell_8 ?_
    refine r_iconst hX dL_cell_9 kk_i_5 ?_
    refine r_iadd hX dL_cell_10 ?_
    refine r_goto (tgt := 28) hX dL_cell_11 (by decide) ?_
    refine r_sub [0, 2] rfl ?_
    exact wL_cell_28 hX hLw h
  · clear h; intro h
    refine r_sload hX dL_cell_14 rfl 0 rfl ?_
    refine r_iload_n hX dL_cell_15 rfl 1 rfl ?_
    refine r_sload hX dL_cell_16 rfl 0 rfl ?_
    refine r_scn hX hLw dL_cell_17 ?_
    refine r_irem hX dL_cell_18 h ?_
    clear h; intro h
    refine r_sc hX hLw dL_cell_19 h ?_
    clear h; intro t1 h
    refine r_iload_n hX dL_cell_20 rfl 1 rfl ?_
    refine r_bipush hX dL_cell_21 kk_b_7 ?_
    refine r_irem hX dL_cell_23 h ?_
    clear h; intro h
    refine r_ishr hX dL_cell_24 ?_
    refine r_ldc hX dL_cell_25 w_ct_L_7 ?_
    refine r_iand hX dL_cell_27 ?_
    refine r_sub [0, 2] rfl ?_
    exact wL_cell_28 hX hLw h
def L_keys_10B (G : kdS) (xs : Nat → Int32) (N : Nat) (k10 : Nat → Int32 → Int32 → Int32 → Int32 → Int32 → kdM → Option (Int32 × kdM)) (l0 : Nat) (l2 : Int32) (l3 : Int32) (l4 : Int32) (l5 : Int32) (l6 : Int32) : kdM → Option (Int32 × kdM) :=
  cnd (l3 ≤ l6)
    (rt l5)
    (kcl (L_cell G xs N (l2 + l6) l4) fun t1 =>
    kcv G 11 l0 (X11_key G l0 t1) fun t2 =>
    ltI (l6 + Int32.ofInt 1) fun t3 =>
    k10 l0 l2 l3 l4 t2 t3)
set_option maxRecDepth 100000 in
set_option maxHeartbeats 4000000 in
theorem wL_keys_10B {E : kdE} {G : kdS} {A : kdA} {b N : Nat} {xs : Nat → Int32} {r : Int32} {σ1 : kdM} (hX : kdX E A cL_keys 7 RL (some .int) 4) (hLw : kdLw E A b N xs) (k10 : Nat → Int32 → Int32 → Int32 → Int32 → Int32 → kdM → Option (Int32 × kdM)) (hk10 : ∀ (l0 : Nat) (l2 : Int32) (l3 : Int32) (l4 : Int32) (l5 : Int32) (l6 : Int32) (σ : kdM), k10 l0 l2 l3 l4 l5 l6 σ = some (r, σ1) → SW E G (.inl (some (.int r), σ1)) A 7 σ 10 [(1, .ref b), (0, kr E l0), (2, .int l2), (3, .int l3), (4, .int l4), (5, .int l5), (6, .int l6)] []) {l0 : Nat} {l2 : Int32} {l3 : Int32} {l4 : Int32} {l5 : Int32} {l6 : Int32} {σ : kdM} (h : L_keys_10B G xs N k10 l0 l2 l3 l4 l5 l6 σ = some (r, σ1)) : SW E G (.inl (some (.int r), σ1)) A 7 σ 10 [(1, .ref b), (0, kr E l0), (2, .int l2), (3, .int l3), (4, .int l4), (5, .int l5), (6, .int l6)] [] := by
  unfold L_keys_10B at h
  refine r_iload hX dL_keys_10 6 rfl ?_
  refine r_iload_n hX dL_keys_12 rfl 3 rfl ?_
  refine r_icmp_ge (tgt := 38) hX dL_keys_13 (by decide) h ?_ ?_
  · clear h; intro h
    refine r_iload hX dL_keys_38 5 rfl ?_
    exact r_iret hX dL_keys_40 h
  · clear h; intro h
    refine r_aload_n hX dL_keys_16 rfl 1 rfl ?_
    refine r_sload hX dL_keys_17 rfl 0 rfl ?_
    refine r_iload_n hX dL_keys_18 rfl 2 rfl ?_
    refine r_iload hX dL_keys_19 6 rfl ?_
    refine r_iadd hX dL_keys_21 ?_
    refine r_iload hX dL_keys_22 4 rfl ?_
    refine r_cSs (As := [.ref b, .int (l2 + l6), .int l4]) (st := [kr E l0]) hX hLw dL_keys_24 kl_L_cell w_ml_L_14 w_st_L_cell (by decide) rfl (Nat.le_of_ble_eq_true rfl) rfl kdz0 h (fun r σ1 h => wL_cell (kdLw_b hLw) h) ?_
    clear h; intro t1 σ h
    refine r_cVi (As := [.int t1]) (st := []) hX dL_keys_27 kl_X11_key w_ml_L_20 w_im_X11_key w_se_X11_key ⟨_, _, rfl⟩ (by decide) rfl (Nat.le_of_ble_eq_true rfl) rfl kdz0 h (fun r σ1 h => wX11_key h) ?_
    clear h; intro t2 σ h
    refine r_istore (L2 := [(5, .int t2), (1, .ref b), (0, kr E l0), (2, .int l2), (3, .int l3), (4, .int l4), (6, .int l6)]) hX dL_keys_30 (by decide) rfl ?_
    refine r_iincL (L2 := fun t3 => [(6, .int t3), (5, .int t2), (1, .ref b), (0, kr E l0), (2, .int l2), (3, .int l3), (4, .int l4)]) hX dL_keys_32 h 6 rfl (by decide) (fun _ => rfl) ?_
    clear h; intro t3 h
    refine r_goto (tgt := 10) hX dL_keys_35 (by decide) ?_
    refine r_sub [2, 3, 4, 5, 6, 1, 0] rfl ?_
    exact hk10 _ _ _ _ _ _ _ h
def L_keys_10 (G : kdS) (xs : Nat → Int32) (N : Nat) : Nat → Int32 → Int32 → Int32 → Int32 → Int32 → kdM → Option (Int32 × kdM) := lp (fun _ _ _ _ _ _ _ => none) (L_keys_10B G xs N) NN
theorem wL_keys_10 {E : kdE} {G : kdS} {A : kdA} {b N : Nat} {xs : Nat → Int32} {r : Int32} {σ1 : kdM} (hX : kdX E A cL_keys 7 RL (some .int) 4) (hLw : kdLw E A b N xs) : ∀ (l0 : Nat) (l2 : Int32) (l3 : Int32) (l4 : Int32) (l5 : Int32) (l6 : Int32) (σ : kdM), L_keys_10 G xs N l0 l2 l3 l4 l5 l6 σ = some (r, σ1) → SW E G (.inl (some (.int r), σ1)) A 7 σ 10 [(1, .ref b), (0, kr E l0), (2, .int l2), (3, .int l3), (4, .int l4), (5, .int l5), (6, .int l6)] [] :=
  lp_ind (Q := fun f => ∀ (l0 : Nat) (l2 : Int32) (l3 : Int32) (l4 : Int32) (l5 : Int32) (l6 : Int32) (σ : kdM), f l0 l2 l3 l4 l5 l6 σ = some (r, σ1) → SW E G (.inl (some (.int r), σ1)) A 7 σ 10 [(1, .ref b), (0, kr E l0), (2, .int l2), (3, .int l3), (4, .int l4), (5, .int l5), (6, .int l6)] []) (by intros; contradiction) (fun k hk l0 l2 l3 l4 l5 l6 σ h => wL_keys_10B hX hLw k hk h) NN
def L_keys (G : kdS) (xs : Nat → Int32) (N : Nat) (l0 : Nat) (l2 : Int32) (l3 : Int32) (l4 : Int32) : kdM → Option (Int32 × kdM) :=
  kcv G 11 l0 (X11_told G l0 (0 : Int32)) fun t1 =>
  L_keys_10 G xs N l0 l2 l3 l4 t1 (0 : Int32)
set_option maxRecDepth 100000 in
set_option maxHeartbeats 4000000 in
theorem wL_keys {E : kdE} {G : kdS} {b N : Nat} {xs : Nat → Int32} {l0 : Nat} {l2 : Int32} {l3 : Int32} {l4 : Int32} {σ : kdM} {r : Int32} {σ1 : kdM} (hb : b < E.2.2.2) (h : L_keys G xs N l0 l2 l3 l4 σ = some (r, σ1)) : ConS E G b N xs yL_keys cL_keys 7 (some .int) 4 [kr E l0, .ref b, .int l2, .int l3, .int l4] σ (some (.int r), σ1) := by
  refine kd_headS (own := RL) rfl (by decide +kernel) (Nat.le_of_ble_eq_true rfl) hb (fun A hX hLw => ?_)
  show SW E G (.inl (some (.int r), σ1)) A 7 σ 0 [(0, kr E l0), (1, .ref b), (2, .int l2), (3, .int l3), (4, .int l4)] []
  unfold L_keys at h
  refine r_aload_n hX dL_keys_0 rfl 0 rfl ?_
  refine r_iconst hX dL_keys_1 kk_i_0 ?_
  refine r_cVi (As := [.int (0 : Int32)]) (st := []) hX dL_keys_2 kl_X11_told w_ml_L_8 w_im_X11_told w_se_X11_told ⟨_, _, rfl⟩ (by decide) rfl (Nat.le_of_ble_eq_true rfl) rfl kdz0 h (fun r σ1 h => wX11_told h) ?_
  clear h; intro t1 σ h
  refine r_istore (L2 := [(5, .int t1), (0, kr E l0), (1, .ref b), (2, .int l2), (3, .int l3), (4, .int l4)]) hX dL_keys_5 (by decide) rfl ?_
  refine r_iconst hX dL_keys_7 kk_i_0 ?_
  refine r_istore (L2 := [(6, .int (0 : Int32)), (5, .int t1), (0, kr E l0), (1, .ref b), (2, .int l2), (3, .int l3), (4, .int l4)]) hX dL_keys_8 (by decide) rfl ?_
  refine r_sub [3, 2, 4, 5, 6, 1, 0] rfl ?_
  exact wL_keys_10 hX hLw _ _ _ _ _ _ _ h
def L_words_109 (G : kdS) (xs : Nat → Int32) (N : Nat) : kdM → Option (Int32 × kdM) :=
  rt (vp_nar .boolean (0 : Int32))
set_option maxRecDepth 100000 in
set_option maxHeartbeats 4000000 in
theorem wL_words_109 {E : kdE} {G : kdS} {A : kdA} {b N : Nat} {xs : Nat → Int32} {r : Int32} {σ1 : kdM} (hX : kdX E A cL_words 7 RL (some .boolean) 6) (hLw : kdLw E A b N xs) {σ : kdM} (h : L_words_109 G xs N  σ = some (r, σ1)) : SW E G (.inl (some (.int r), σ1)) A 7 σ 109 [(1, .ref b)] [] := by
  unfold L_words_109 at h
  refine r_iconst hX dL_words_109 kk_i_0 ?_
  exact r_zret hX dL_words_110 h
def L_words_3B (G : kdS) (xs : Nat → Int32) (N : Nat) (k3 : Nat → Int32 → Int32 → Int32 → Int32 → kdM → Option (Int32 × kdM)) (l0 : Nat) (l2 : Int32) (l3 : Int32) (l4 : Int32) (l5 : Int32) : kdM → Option (Int32 × kdM) :=
  cnd (l3 ≤ l5)
    (rt (vp_nar .boolean (1 : Int32)))
    (kcl (L_cell G xs N (l2 + ((12 : Int32) * l5)) (4 : Int32)) fun t1 =>
    ltI (((1 : Int32) + t1)) fun t2 =>
    kcl (L_keys G xs N l0 ((l2 + ((12 : Int32) * l5)) + (1 : Int32)) t2 l4) fun t3 =>
    cnd (t3 = t2)
      (kcl (L_cell G xs N ((l2 + ((12 : Int32) * l5)) + (9 : Int32)) (3 : Int32)) fun t4 =>
      kcl (L_cell G xs N ((l2 + ((12 : Int32) * l5)) + (10 : Int32)) (999 : Int32)) fun t5 =>
      kcl (L_cell G xs N ((l2 + ((12 : Int32) * l5)) + (11 : Int32)) (20 : Int32)) fun t6 =>
      kcv G 11 l0 (X11_word G l0 t4 ((1 : Int32) + t5) ((1 : Int32) + t6)) fun t7 =>
      cnd (t7 = l5)
        (ltI (l5 + Int32.ofInt 1) fun t8 =>
        k3 l0 l2 l3 l4 t8)
        (L_words_109 G xs N ))
      (L_words_109 G xs N ))
set_option maxRecDepth 100000 in
set_option maxHeartbeats 4000000 in
theorem wL_words_3B {E : kdE} {G : kdS} {A : kdA} {b N : Nat} {xs : Nat → Int32} {r : Int32} {σ1 : kdM} (hX : kdX E A cL_words 7 RL (some .boolean) 6) (hLw : kdLw E A b N xs) (k3 : Nat → Int32 → Int32 → Int32 → Int32 → kdM → Option (Int32 × kdM)) (hk3 : ∀ (l0 : Nat) (l2 : Int32) (l3 : Int32) (l4 : Int32) (l5 : Int32) (σ : kdM), k3 l0 l2 l3 l4 l5 σ = some (r, σ1) → SW E G (.inl (some (.int r), σ1)) A 7 σ 3 [(1, .ref b), (0, kr E l0), (2, .int l2), (3, .int l3), (4, .int l4), (5, .int l5)] []) {l0 : Nat} {l2 : Int32} {l3 : Int32} {l4 : Int32} {l5 : Int32} {σ : kdM} (h : L_words_3B G xs N k3 l0 l2 l3 l4 l5 σ = some (r, σ1)) : SW E G (.inl (some (.int r), σ1)) A 7 σ 3 [(1, .ref b), (0, kr E l0), (2, .int l2), (3, .int l3), (4, .int l4), (5, .int l5)] [] := by
  unfold L_words_3B at h
  refine r_iload hX dL_words_3 5 rfl ?_
  refine r_iload_n hX dL_words_5 rfl 3 rfl ?_
  refine r_icmp_ge (tgt := 117) hX dL_words_6 (by decide) h ?_ ?_
  · clear h; intro h
    refine r_iconst hX dL_words_117 kk_i_1 ?_
    exact r_zret hX dL_words_118 h
  · clear h; intro h
    refine r_iconst hX dL_words_9 kk_i_1 ?_
    refine r_sload hX dL_words_10 rfl 0 rfl ?_
    refine r_iload_n hX dL_words_11 rfl 2 rfl ?_
    refine r_bipush hX dL_words_12 kk_b_12 ?_
    refine r_iload hX dL_words_14 5 rfl ?_
    refine r_imul hX dL_words_16 ?_
    refine r_iadd hX dL_words_17 ?_
    refine r_iconst hX dL_words_18 kk_i_4 ?_
    refine r_cSs (As := [.ref b, .int (l2 + ((12 : Int32) * l5)), .int (4 : Int32)]) (st := [.int (1 : Int32)]) hX hLw dL_words_19 kl_L_cell w_ml_L_14 w_st_L_cell (by decide) rfl (Nat.le_of_ble_eq_true rfl) rfl kdz0 h (fun r σ1 h => wL_cell (kdLw_b hLw) h) ?_
    clear h; intro t1 σ h
    refine r_iadd hX dL_words_22 ?_
    refine r_letI h ?_
    clear h; intro t2 h
    refine r_istore (L2 := [(6, .int t2), (1, .ref b), (0, kr E l0), (2, .int l2), (3, .int l3), (4, .int l4), (5, .int l5)]) hX dL_words_23 (by decide) rfl ?_
    refine r_aload_n hX dL_words_25 rfl 2 rfl ?_
    refine r_sload hX dL_words_26 rfl 1 rfl ?_
    refine r_iload_n hX dL_words_27 rfl 3 rfl ?_
    refine r_bipush hX dL_words_28 kk_b_12 ?_
    refine r_iload hX dL_words_30 6 rfl ?_
    refine r_imul hX dL_words_32 ?_
    refine r_iadd hX dL_words_33 ?_
    refine r_iconst hX dL_words_34 kk_i_1 ?_
    refine r_iadd hX dL_words_35 ?_
    refine r_iload hX dL_words_36 0 rfl ?_
    refine r_iload hX dL_words_38 5 rfl ?_
    refine r_cSs (As := [kr E l0, .ref b, .int ((l2 + ((12 : Int32) * l5)) + (1 : Int32)), .int t2, .int l4]) (st := []) hX hLw dL_words_40 kl_L_keys w_ml_L_23 w_st_L_keys (by decide) rfl (Nat.le_of_ble_eq_true rfl) rfl kdz0 h (fun r σ1 h => wL_keys (kdLw_b hLw) h) ?_
    clear h; intro t3 σ h
    refine r_iload hX dL_words_43 0 rfl ?_
    refine r_icmp_ne (tgt := 109) hX dL_words_45 (by decide) h ?_ ?_
    · clear h; intro h
      refine r_aload_n hX dL_words_48 rfl 2 rfl ?_
      refine r_sload hX dL_words_49 rfl 1 rfl ?_
      refine r_iload_n hX dL_words_50 rfl 3 rfl ?_
      refine r_bipush hX dL_words_51 kk_b_12 ?_
      refine r_iload hX dL_words_53 6 rfl ?_
      refine r_imul hX dL_words_55 ?_
      refine r_iadd hX dL_words_56 ?_
      refine r_bipush hX dL_words_57 kk_b_9 ?_
      refine r_iadd hX dL_words_59 ?_
      refine r_iconst hX dL_words_60 kk_i_3 ?_
      refine r_cSs (As := [.ref b, .int ((l2 + ((12 : Int32) * l5)) + (9 : Int32)), .int (3 : Int32)]) (st := [kr E l0]) hX hLw dL_words_61 kl_L_cell w_ml_L_14 w_st_L_cell (by decide) rfl (Nat.le_of_ble_eq_true rfl) rfl kdz0 h (fun r σ1 h => wL_cell (kdLw_b hLw) h) ?_
      clear h; intro t4 σ h
      refine r_iconst hX dL_words_64 kk_i_1 ?_
      refine r_sload hX dL_words_65 rfl 1 rfl ?_
      refine r_iload_n hX dL_words_66 rfl 3 rfl ?_
      refine r_bipush hX dL_words_67 kk_b_12 ?_
      refine r_iload hX dL_words_69 6 rfl ?_
      refine r_imul hX dL_words_71 ?_
      refine r_iadd hX dL_words_72 ?_
      refine r_bipush hX dL_words_73 kk_b_10 ?_
      refine r_iadd hX dL_words_75 ?_
      refine r_sipush hX dL_words_76 kk_s_999 ?_
      refine r_cSs (As := [.ref b, .int ((l2 + ((12 : Int32) * l5)) + (10 : Int32)), .int (999 : Int32)]) (st := [.int (1 : Int32), .int t4, kr E l0]) hX hLw dL_words_79 kl_L_cell w_ml_L_14 w_st_L_cell (by decide) rfl (Nat.le_of_ble_eq_true rfl) rfl kdz0 h (fun r σ1 h => wL_cell (kdLw_b hLw) h) ?_
      clear h; intro t5 σ h
      refine r_iadd hX dL_words_82 ?_
      refine r_iconst hX dL_words_83 kk_i_1 ?_
      refine r_sload hX dL_words_84 rfl 1 rfl ?_
      refine r_iload_n hX dL_words_85 rfl 3 rfl ?_
      refine r_bipush hX dL_words_86 kk_b_12 ?_
      refine r_iload hX dL_words_88 6 rfl ?_
      refine r_imul hX dL_words_90 ?_
      refine r_iadd hX dL_words_91 ?_
      refine r_bipush hX dL_words_92 kk_b_11 ?_
      refine r_iadd hX dL_words_94 ?_
      refine r_bipush hX dL_words_95 kk_b_20 ?_
      refine r_cSs (As := [.ref b, .int ((l2 + ((12 : Int32) * l5)) + (11 : Int32)), .int (20 : Int32)]) (st := [.int (1 : Int32), .int ((1 : Int32) + t5), .int t4, kr E l0]) hX hLw dL_words_97 kl_L_cell w_ml_L_14 w_st_L_cell (by decide) rfl (Nat.le_of_ble_eq_true rfl) rfl kdz0 h (fun r σ1 h => wL_cell (kdLw_b hLw) h) ?_
      clear h; intro t6 σ h
      refine r_iadd hX dL_words_100 ?_
      refine r_cVi (As := [.int t4, .int ((1 : Int32) + t5), .int ((1 : Int32) + t6)]) (st := []) hX dL_words_101 kl_X11_word w_ml_L_27 w_im_X11_word w_se_X11_word ⟨_, _, rfl⟩ (by decide) rfl (Nat.le_of_ble_eq_true rfl) rfl kdz0 h (fun r σ1 h => wX11_word h) ?_
      clear h; intro t7 σ h
      refine r_iload hX dL_words_104 6 rfl ?_
      refine r_icmp_eq (tgt := 111) hX dL_words_106 (by decide) h ?_ ?_
      · clear h; intro h
        refine r_iincL (L2 := fun t8 => [(5, .int t8), (6, .int t2), (1, .ref b), (0, kr E l0), (2, .int l2), (3, .int l3), (4, .int l4)]) hX dL_words_111 h 6 rfl (by decide) (fun _ => rfl) ?_
        clear h; intro t8 h
        refine r_goto (tgt := 3) hX dL_words_114 (by decide) ?_
        refine r_sub [2, 3, 4, 5, 6, 0] rfl ?_
        exact hk3 _ _ _ _ _ _ h
      · clear h; intro h
        refine r_sub [1] rfl ?_
        exact wL_words_109 hX hLw h
    · clear h; intro h
      refine r_sub [1] rfl ?_
      exact wL_words_109 hX hLw h
def L_words_3 (G : kdS) (xs : Nat → Int32) (N : Nat) : Nat → Int32 → Int32 → Int32 → Int32 → kdM → Option (Int32 × kdM) := lp (fun _ _ _ _ _ _ => none) (L_words_3B G xs N) NN
theorem wL_words_3 {E : kdE} {G : kdS} {A : kdA} {b N : Nat} {xs : Nat → Int32} {r : Int32} {σ1 : kdM} (hX : kdX E A cL_words 7 RL (some .boolean) 6) (hLw : kdLw E A b N xs) : ∀ (l0 : Nat) (l2 : Int32) (l3 : Int32) (l4 : Int32) (l5 : Int32) (σ : kdM), L_words_3 G xs N l0 l2 l3 l4 l5 σ = some (r, σ1) → SW E G (.inl (some (.int r), σ1)) A 7 σ 3 [(1, .ref b), (0, kr E l0), (2, .int l2), (3, .int l3), (4, .int l4), (5, .int l5)] [] :=
  lp_ind (Q := fun f => ∀ (l0 : Nat) (l2 : Int32) (l3 : Int32) (l4 : Int32) (l5 : Int32) (σ : kdM), f l0 l2 l3 l4 l5 σ = some (r, σ1) → SW E G (.inl (some (.int r), σ1)) A 7 σ 3 [(1, .ref b), (0, kr E l0), (2, .int l2), (3, .int l3), (4, .int l4), (5, .int l5)] []) (by intros; contradiction) (fun k hk l0 l2 l3 l4 l5 σ h => wL_words_3B hX hLw k hk h) NN
def L_words (G : kdS) (xs : Nat → Int32) (N : Nat) (l0 : Nat) (l2 : Int32) (l3 : Int32) (l4 : Int32) : kdM → Option (Int32 × kdM) :=
  L_words_3 G xs N l0 l2 l3 l4 (0 : Int32)
set_option maxRecDepth 100000 in
set_option maxHeartbeats 4000000 in
theorem wL_words {E : kdE} {G : kdS} {b N : Nat} {xs : Nat → Int32} {l0 : Nat} {l2 : Int32} {l3 : Int32} {l4 : Int32} {σ : kdM} {r : Int32} {σ1 : kdM} (hb : b < E.2.2.2) (h : L_words G xs N l0 l2 l3 l4 σ = some (r, σ1)) : ConS E G b N xs yL_words cL_words 7 (some .boolean) 6 [kr E l0, .ref b, .int l2, .int l3, .int l4] σ (some (.int r), σ1) := by
  refine kd_headS (own := RL) rfl (by decide +kernel) (Nat.le_of_ble_eq_true rfl) hb (fun A hX hLw => ?_)
  show SW E G (.inl (some (.int r), σ1)) A 7 σ 0 [(0, kr E l0), (1, .ref b), (2, .int l2), (3, .int l3), (4, .int l4)] []
  unfold L_words at h
  refine r_iconst hX dL_words_0 kk_i_0 ?_
  refine r_istore (L2 := [(5, .int (0 : Int32)), (0, kr E l0), (1, .ref b), (2, .int l2), (3, .int l3), (4, .int l4)]) hX dL_words_1 (by decide) rfl ?_
  refine r_sub [2, 1, 3, 4, 5, 0] rfl ?_
  exact wL_words_3 hX hLw _ _ _ _ _ _ h
def L_law_47 (G : kdS) (xs : Nat → Int32) (N : Nat) (k112 : Nat → Nat → Int32 → Int32 → Int32 → kdM → Option (Unit × kdM)) : kdM → Option (Unit × kdM) :=
  fun _ => none
set_option maxRecDepth 100000 in
set_option maxHeartbeats 4000000 in
theorem wL_law_47 {E : kdE} {G : kdS} {A : kdA} {z : Nat × Nat} {b N : Nat} {xs : Nat → Int32} {r : Unit} {σ1 : kdM} (hX : kdX E A cL_law 29 RL (some .boolean) 8) (hLw : kdLw E A b N xs) (hro : kdRO A z.1 z.2) (hLe : kdLe A b z) (hLs : kdLs E A) (k112 : Nat → Nat → Int32 → Int32 → Int32 → kdM → Option (Unit × kdM)) (hk112 : ∀ (l1 : Nat) (l2 : Nat) (l3 : Int32) (l4 : Int32) (l5 : Int32) (σ : kdM), k112 l1 l2 l3 l4 l5 σ = some (r, σ1) → SW E G (.inr z) A 29 σ 112 [(0, .ref b), (1, kr E l1), (2, kr E l2), (3, .int l3), (4, .int l4), (5, .int l5)] []) {σ : kdM} (h : L_law_47 G xs N k112  σ = some (r, σ1)) : SW E G (.inr z) A 29 σ 47 [(0, .ref b)] [] := by
  unfold L_law_47 at h
  exact absurd (show (none : Option (Unit × kdM)) = some (r, σ1) from h) (by simp)
def L_law_100 (G : kdS) (xs : Nat → Int32) (N : Nat) (k112 : Nat → Nat → Int32 → Int32 → Int32 → kdM → Option (Unit × kdM)) : kdM → Option (Unit × kdM) :=
  fun _ => none
set_option maxRecDepth 100000 in
set_option maxHeartbeats 4000000 in
theorem wL_law_100 {E : kdE} {G : kdS} {A : kdA} {z : Nat × Nat} {b N : Nat} {xs : Nat → Int32} {r : Unit} {σ1 : kdM} (hX : kdX E A cL_law 29 RL (some .boolean) 8) (hLw : kdLw E A b N xs) (hro : kdRO A z.1 z.2) (hLe : kdLe A b z) (hLs : kdLs E A) (k112 : Nat → Nat → Int32 → Int32 → Int32 → kdM → Option (Unit × kdM)) (hk112 : ∀ (l1 : Nat) (l2 : Nat) (l3 : Int32) (l4 : Int32) (l5 : Int32) (σ : kdM), k112 l1 l2 l3 l4 l5 σ = some (r, σ1) → SW E G (.inr z) A 29 σ 112 [(0, .ref b), (1, kr E l1), (2, kr E l2), (3, .int l3), (4, .int l4), (5, .int l5)] []) {σ : kdM} (h : L_law_100 G xs N k112  σ = some (r, σ1)) : SW E G (.inr z) A 29 σ 100 [(0, .ref b)] [] := by
  unfold L_law_100 at h
  exact absurd (show (none : Option (Unit × kdM)) = some (r, σ1) from h) (by simp)
def L_law_74 (G : kdS) (xs : Nat → Int32) (N : Nat) (k112 : Nat → Nat → Int32 → Int32 → Int32 → kdM → Option (Unit × kdM)) (l1 : Nat) (l2 : Nat) (l3 : Int32) (s0 : Int32) : kdM → Option (Unit × kdM) :=
  kcv G 11 l1 (X11_fade G l1 s0) fun t1 =>
  cnd (t1 = (900 : Int32))
    (kcv G 11 l2 (X11_fade G l2 s0) fun t2 =>
    cnd (t2 = (900 : Int32))
      (kcl (L_cell G xs N (102 : Int32) (16 : Int32)) fun t3 =>
      k112 l1 l2 l3 s0 t3)
      (L_law_100 G xs N k112 ))
    (L_law_100 G xs N k112 )
set_option maxRecDepth 100000 in
set_option maxHeartbeats 4000000 in
theorem wL_law_74 {E : kdE} {G : kdS} {A : kdA} {z : Nat × Nat} {b N : Nat} {xs : Nat → Int32} {r : Unit} {σ1 : kdM} (hX : kdX E A cL_law 29 RL (some .boolean) 8) (hLw : kdLw E A b N xs) (hro : kdRO A z.1 z.2) (hLe : kdLe A b z) (hLs : kdLs E A) (k112 : Nat → Nat → Int32 → Int32 → Int32 → kdM → Option (Unit × kdM)) (hk112 : ∀ (l1 : Nat) (l2 : Nat) (l3 : Int32) (l4 : Int32) (l5 : Int32) (σ : kdM), k112 l1 l2 l3 l4 l5 σ = some (r, σ1) → SW E G (.inr z) A 29 σ 112 [(0, .ref b), (1, kr E l1), (2, kr E l2), (3, .int l3), (4, .int l4), (5, .int l5)] []) {l1 : Nat} {l2 : Nat} {l3 : Int32} {s0 : Int32} {σ : kdM} (h : L_law_74 G xs N k112 l1 l2 l3 s0 σ = some (r, σ1)) : SW E G (.inr z) A 29 σ 74 [(0, .ref b), (1, kr E l1), (2, kr E l2), (3, .int l3)] [.int s0] := by
  unfold L_law_74 at h
  refine r_istore (L2 := [(4, .int s0), (0, .ref b), (1, kr E l1), (2, kr E l2), (3, .int l3)]) hX dL_law_74 (by decide) rfl ?_
  refine r_aload_n hX dL_law_76 rfl 2 rfl ?_
  refine r_iload hX dL_law_77 0 rfl ?_
  refine r_cVi (As := [.int s0]) (st := []) hX dL_law_79 kl_X11_fade w_ml_L_36 w_im_X11_fade w_se_X11_fade ⟨_, _, rfl⟩ (by decide) rfl (Nat.le_of_ble_eq_true rfl) rfl hro h (fun r σ1 h => wX11_fade h) ?_
  clear h; intro t1 σ h
  refine r_sipush hX dL_law_82 kk_s_900 ?_
  refine r_icmp_ne (tgt := 100) hX dL_law_85 (by decide) h ?_ ?_
  · clear h; intro h
    refine r_aload_n hX dL_law_88 rfl 3 rfl ?_
    refine r_iload hX dL_law_89 0 rfl ?_
    refine r_cVi (As := [.int s0]) (st := []) hX dL_law_91 kl_X11_fade w_ml_L_36 w_im_X11_fade w_se_X11_fade ⟨_, _, rfl⟩ (by decide) rfl (Nat.le_of_ble_eq_true rfl) rfl hro h (fun r σ1 h => wX11_fade h) ?_
    clear h; intro t2 σ h
    refine r_sipush hX dL_law_94 kk_s_900 ?_
    refine r_icmp_eq (tgt := 102) hX dL_law_97 (by decide) h ?_ ?_
    · clear h; intro h
      refine r_sload hX dL_law_102 rfl 1 rfl ?_
      refine r_bipush hX dL_law_103 kk_b_102 ?_
      refine r_bipush hX dL_law_105 kk_b_16 ?_
      refine r_cSs (As := [.ref b, .int (102 : Int32), .int (16 : Int32)]) (st := []) hX hLw dL_law_107 kl_L_cell w_ml_L_14 w_st_L_cell (by decide) rfl (Nat.le_of_ble_eq_true rfl) rfl hro h (fun r σ1 h => wL_cell (kdLw_b hLw) h) ?_
      clear h; intro t3 σ h
      refine r_istore (L2 := [(5, .int t3), (4, .int s0), (0, .ref b), (1, kr E l1), (2, kr E l2), (3, .int l3)]) hX dL_law_110 (by decide) rfl ?_
      refine r_sub [2, 3, 4, 5, 1, 0] rfl ?_
      exact hk112 _ _ _ _ _ _ h
    · clear h; intro h
      refine r_sub [1] rfl ?_
      exact wL_law_100 hX hLw hro hLe hLs k112 hk112 h
  · clear h; intro h
    refine r_sub [1] rfl ?_
    exact wL_law_100 hX hLw hro hLe hLs k112 hk112 h
def L_law_s1 (G : kdS) (xs : Nat → Int32) (N : Nat) (k112 : Nat → Nat → Int32 → Int32 → Int32 → kdM → Option (Unit × kdM)) (l1 : Nat) (l2 : Nat) : kdM → Option (Unit × kdM) :=
  kcl (L_cell G xs N (0 : Int32) (5 : Int32)) fun t1 =>
  ltI (((2 : Int32) + t1)) fun t2 =>
  kcl (L_words G xs N l1 (1 : Int32) t2 (4 : Int32)) fun t3 =>
  cnd (t3 = 0)
    (L_law_47 G xs N k112 )
    (kcl (L_words G xs N l2 (1 : Int32) t2 (4 : Int32)) fun t4 =>
    cnd (t4 = 0)
      (L_law_47 G xs N k112 )
      (kcl (L_cell G xs N (100 : Int32) (3 : Int32)) fun t5 =>
      cnd (t5 = 0)
        (L_law_74 G xs N k112 l1 l2 t2 (1000 : Int32))
        (kcl (L_cell G xs N (101 : Int32) (1001 : Int32)) fun t6 =>
        L_law_74 G xs N k112 l1 l2 t2 t6)))
set_option maxRecDepth 100000 in
set_option maxHeartbeats 4000000 in
theorem wL_law_s1 {E : kdE} {G : kdS} {A : kdA} {z : Nat × Nat} {b N : Nat} {xs : Nat → Int32} {r : Unit} {σ1 : kdM} (hX : kdX E A cL_law 29 RL (some .boolean) 8) (hLw : kdLw E A b N xs) (hro : kdRO A z.1 z.2) (hLe : kdLe A b z) (hLs : kdLs E A) (k112 : Nat → Nat → Int32 → Int32 → Int32 → kdM → Option (Unit × kdM)) (hk112 : ∀ (l1 : Nat) (l2 : Nat) (l3 : Int32) (l4 : Int32) (l5 : Int32) (σ : kdM), k112 l1 l2 l3 l4 l5 σ = some (r, σ1) → SW E G (.inr z) A 29 σ 112 [(0, .ref b), (1, kr E l1), (2, kr E l2), (3, .int l3), (4, .int l4), (5, .int l5)] []) {l1 : Nat} {l2 : Nat} {σ : kdM} (h : L_law_s1 G xs N k112 l1 l2 σ = some (r, σ1)) : SW E G (.inr z) A 29 σ 16 [(0, .ref b), (1, kr E l1), (2, kr E l2)] [] := by
  unfold L_law_s1 at h
  refine r_iconst hX dL_law_16 kk_i_2 ?_
  refine r_sload hX dL_law_17 rfl 0 rfl ?_
  refine r_iconst hX dL_law_18 kk_i_0 ?_
  refine r_iconst hX dL_law_19 kk_i_5 ?_
  refine r_cSs (As := [.ref b, .int (0 : Int32), .int (5 : Int32)]) (st := [.int (2 : Int32)]) hX hLw dL_law_20 kl_L_cell w_ml_L_14 w_st_L_cell (by decide) rfl (Nat.le_of_ble_eq_true rfl) rfl hro h (fun r σ1 h => wL_cell (kdLw_b hLw) h) ?_
  clear h; intro t1 σ h
  refine r_iadd hX dL_law_23 ?_
  refine r_letI h ?_
  clear h; intro t2 h
  refine r_istore_n (L2 := [(3, .int t2), (0, .ref b), (1, kr E l1), (2, kr E l2)]) hX dL_law_24 rfl (by decide) rfl ?_
  refine r_aload_n hX dL_law_25 rfl 2 rfl ?_
  refine r_sload hX dL_law_26 rfl 1 rfl ?_
  refine r_iconst hX dL_law_27 kk_i_1 ?_
  refine r_iload_n hX dL_law_28 rfl 0 rfl ?_
  refine r_iconst hX dL_law_29 kk_i_4 ?_
  refine r_cSs (As := [kr E l1, .ref b, .int (1 : Int32), .int t2, .int (4 : Int32)]) (st := []) hX hLw dL_law_30 kl_L_words w_ml_L_32 w_st_L_words (by decide) rfl (Nat.le_of_ble_eq_true rfl) rfl hro h (fun r σ1 h => wL_words (kdLw_b hLw) h) ?_
  clear h; intro t3 σ h
  refine r_if_eq (tgt := 47) hX dL_law_33 (by decide) h ?_ ?_
  · clear h; intro h
    refine r_sub [1] rfl ?_
    exact wL_law_47 hX hLw hro hLe hLs k112 hk112 h
  · clear h; intro h
    refine r_aload_n hX dL_law_36 rfl 3 rfl ?_
    refine r_sload hX dL_law_37 rfl 1 rfl ?_
    refine r_iconst hX dL_law_38 kk_i_1 ?_
    refine r_iload_n hX dL_law_39 rfl 0 rfl ?_
    refine r_iconst hX dL_law_40 kk_i_4 ?_
    refine r_cSs (As := [kr E l2, .ref b, .int (1 : Int32), .int t2, .int (4 : Int32)]) (st := []) hX hLw dL_law_41 kl_L_words w_ml_L_32 w_st_L_words (by decide) rfl (Nat.le_of_ble_eq_true rfl) rfl hro h (fun r σ1 h => wL_words (kdLw_b hLw) h) ?_
    clear h; intro t4 σ h
    refine r_if_ne (tgt := 49) hX dL_law_44 (by decide) h ?_ ?_
    · clear h; intro h
      refine r_sub [1] rfl ?_
      exact wL_law_47 hX hLw hro hLe hLs k112 hk112 h
    · clear h; intro h
      refine r_sload hX dL_law_49 rfl 1 rfl ?_
      refine r_bipush hX dL_law_50 kk_b_100 ?_
      refine r_iconst hX dL_law_52 kk_i_3 ?_
      refine r_cSs (As := [.ref b, .int (100 : Int32), .int (3 : Int32)]) (st := []) hX hLw dL_law_53 kl_L_cell w_ml_L_14 w_st_L_cell (by decide) rfl (Nat.le_of_ble_eq_true rfl) rfl hro h (fun r σ1 h => wL_cell (kdLw_b hLw) h) ?_
      clear h; intro t5 σ h
      refine r_if_ne (tgt := 65) hX dL_law_56 (by decide) h ?_ ?_
      · clear h; intro h
        refine r_sipush hX dL_law_59 kk_s_1000 ?_
        refine r_goto (tgt := 74) hX dL_law_62 (by decide) ?_
        refine r_sub [1, 2, 3, 0] rfl ?_
        exact wL_law_74 hX hLw hro hLe hLs k112 hk112 h
      · clear h; intro h
        refine r_sload hX dL_law_65 rfl 1 rfl ?_
        refine r_bipush hX dL_law_66 kk_b_101 ?_
        refine r_sipush hX dL_law_68 kk_s_1001 ?_
        refine r_cSs (As := [.ref b, .int (101 : Int32), .int (1001 : Int32)]) (st := []) hX hLw dL_law_71 kl_L_cell w_ml_L_14 w_st_L_cell (by decide) rfl (Nat.le_of_ble_eq_true rfl) rfl hro h (fun r σ1 h => wL_cell (kdLw_b hLw) h) ?_
        clear h; intro t6 σ h
        refine r_sub [1, 2, 3, 0] rfl ?_
        exact wL_law_74 hX hLw hro hLe hLs k112 hk112 h
def L_law_288 (G : kdS) (xs : Nat → Int32) (N : Nat) (k354 : Nat → Nat → Int32 → Int32 → Int32 → Nat → Nat → Nat → Int32 → Int32 → Int32 → kdM → Option (Unit × kdM)) : kdM → Option (Unit × kdM) :=
  fun _ => none
set_option maxRecDepth 100000 in
set_option maxHeartbeats 4000000 in
theorem wL_law_288 {E : kdE} {G : kdS} {A : kdA} {z : Nat × Nat} {b N : Nat} {xs : Nat → Int32} {r : Unit} {σ1 : kdM} (hX : kdX E A cL_law 29 RL (some .boolean) 8) (hLw : kdLw E A b N xs) (hro : kdRO A z.1 z.2) (hLe : kdLe A b z) (hLs : kdLs E A) (k354 : Nat → Nat → Int32 → Int32 → Int32 → Nat → Nat → Nat → Int32 → Int32 → Int32 → kdM → Option (Unit × kdM)) (hk354 : ∀ (l1 : Nat) (l2 : Nat) (l3 : Int32) (l4 : Int32) (l5 : Int32) (l6 : Nat) (l7 : Nat) (l8 : Nat) (l10 : Int32) (l11 : Int32) (l12 : Int32) (σ : kdM), k354 l1 l2 l3 l4 l5 l6 l7 l8 l10 l11 l12 σ = some (r, σ1) → SW E G (.inr z) A 29 σ 354 [(0, .ref b), (1, kr E l1), (2, kr E l2), (3, .int l3), (4, .int l4), (5, .int l5), (6, kr E l6), (7, kr E l7), (8, kr E l8), (10, .int l10), (11, .int l11), (12, .int l12)] []) {σ : kdM} (h : L_law_288 G xs N k354  σ = some (r, σ1)) : SW E G (.inr z) A 29 σ 288 [(0, .ref b)] [] := by
  unfold L_law_288 at h
  exact absurd (show (none : Option (Unit × kdM)) = some (r, σ1) from h) (by simp)
def L_law_337 (G : kdS) (xs : Nat → Int32) (N : Nat) (k150 : Nat → Nat → Int32 → Int32 → Int32 → Nat → Nat → Nat → Nat → Int32 → Int32 → Int32 → kdM → Option (Unit × kdM)) (k354 : Nat → Nat → Int32 → Int32 → Int32 → Nat → Nat → Nat → Int32 → Int32 → Int32 → kdM → Option (Unit × kdM)) (l1 : Nat) (l2 : Nat) (l3 : Int32) (l4 : Int32) (l5 : Int32) (l6 : Nat) (l7 : Nat) (l8 : Nat) (l9 : Nat) (l10 : Int32) (l11 : Int32) (l12 : Int32) : kdM → Option (Unit × kdM) :=
  ltI (l12 + Int32.ofInt 1) fun t1 =>
  k150 l1 l2 l3 l4 l5 l6 l7 l8 l9 l10 l11 t1
set_option maxRecDepth 100000 in
set_option maxHeartbeats 4000000 in
theorem wL_law_337 {E : kdE} {G : kdS} {A : kdA} {z : Nat × Nat} {b N : Nat} {xs : Nat → Int32} {r : Unit} {σ1 : kdM} (hX : kdX E A cL_law 29 RL (some .boolean) 8) (hLw : kdLw E A b N xs) (hro : kdRO A z.1 z.2) (hLe : kdLe A b z) (hLs : kdLs E A) (k150 : Nat → Nat → Int32 → Int32 → Int32 → Nat → Nat → Nat → Nat → Int32 → Int32 → Int32 → kdM → Option (Unit × kdM)) (k354 : Nat → Nat → Int32 → Int32 → Int32 → Nat → Nat → Nat → Int32 → Int32 → Int32 → kdM → Option (Unit × kdM)) (hk150 : ∀ (l1 : Nat) (l2 : Nat) (l3 : Int32) (l4 : Int32) (l5 : Int32) (l6 : Nat) (l7 : Nat) (l8 : Nat) (l9 : Nat) (l10 : Int32) (l11 : Int32) (l12 : Int32) (σ : kdM), k150 l1 l2 l3 l4 l5 l6 l7 l8 l9 l10 l11 l12 σ = some (r, σ1) → SW E G (.inr z) A 29 σ 150 [(0, .ref b), (1, kr E l1), (2, kr E l2), (3, .int l3), (4, .int l4), (5, .int l5), (6, kr E l6), (7, kr E l7), (8, kr E l8), (9, kr E l9), (10, .int l10), (11, .int l11), (12, .int l12)] []) (hk354 : ∀ (l1 : Nat) (l2 : Nat) (l3 : Int32) (l4 : Int32) (l5 : Int32) (l6 : Nat) (l7 : Nat) (l8 : Nat) (l10 : Int32) (l11 : Int32) (l12 : Int32) (σ : kdM), k354 l1 l2 l3 l4 l5 l6 l7 l8 l10 l11 l12 σ = some (r, σ1) → SW E G (.inr z) A 29 σ 354 [(0, .ref b), (1, kr E l1), (2, kr E l2), (3, .int l3), (4, .int l4), (5, .int l5), (6, kr E l6), (7, kr E l7), (8, kr E l8), (10, .int l10), (11, .int l11), (12, .int l12)] []) {l1 : Nat} {l2 : Nat} {l3 : Int32} {l4 : Int32} {l5 : Int32} {l6 : Nat} {l7 : Nat} {l8 : Nat} {l9 : Nat} {l10 : Int32} {l11 : Int32} {l12 : Int32} {σ : kdM} (h : L_law_337 G xs N k150 k354 l1 l2 l3 l4 l5 l6 l7 l8 l9 l10 l11 l12 σ = some (r, σ1)) : SW E G (.inr z) A 29 σ 337 [(0, .ref b), (1, kr E l1), (2, kr E l2), (3, .int l3), (4, .int l4), (5, .int l5), (6, kr E l6), (7, kr E l7), (8, kr E l8), (9, kr E l9), (10, .int l10), (11, .int l11), (12, .int l12)] [] := by
  unfold L_law_337 at h
  refine r_iincL (L2 := fun t1 => [(12, .int t1), (0, .ref b), (1, kr E l1), (2, kr E l2), (3, .int l3), (4, .int l4), (5, .int l5), (6, kr E l6), (7, kr E l7), (8, kr E l8), (9, kr E l9), (10, .int l10), (11, .int l11)]) hX dL_law_337 h 12 rfl (by decide) (fun _ => rfl) ?_
  clear h; intro t1 h
  refine r_goto (tgt := 150) hX dL_law_340 (by decide) ?_
  refine r_sub [1, 2, 3, 4, 5, 6, 7, 8, 9, 10, 11, 12, 0] rfl ?_
  exact hk150 _ _ _ _ _ _ _ _ _ _ _ _ _ h
def L_law_308 (G : kdS) (xs : Nat → Int32) (N : Nat) (k150 : Nat → Nat → Int32 → Int32 → Int32 → Nat → Nat → Nat → Nat → Int32 → Int32 → Int32 → kdM → Option (Unit × kdM)) (k354 : Nat → Nat → Int32 → Int32 → Int32 → Nat → Nat → Nat → Int32 → Int32 → Int32 → kdM → Option (Unit × kdM)) (l1 : Nat) (l2 : Nat) (l3 : Int32) (l4 : Int32) (l5 : Int32) (l6 : Nat) (l7 : Nat) (l8 : Nat) (l9 : Nat) (l10 : Int32) (l11 : Int32) (l12 : Int32) : kdM → Option (Unit × kdM) :=
  ltI (l11 + Int32.ofInt 1) fun t1 =>
  aI G l6 (l12) fun t2 =>
  aI G l7 (l12) fun t3 =>
  aI G l8 (l12) fun t4 =>
  kcv G 11 l2 (X11_learn G l2 t2 t3 t4) fun t5 =>
  cnd (t5 = t1)
    (L_law_337 G xs N k150 k354 l1 l2 l3 l4 l5 l6 l7 l8 l9 l10 t1 l12)
    (fun _ => none)
set_option maxRecDepth 100000 in
set_option maxHeartbeats 4000000 in
theorem wL_law_308 {E : kdE} {G : kdS} {A : kdA} {z : Nat × Nat} {b N : Nat} {xs : Nat → Int32} {r : Unit} {σ1 : kdM} (hX : kdX E A cL_law 29 RL (some .boolean) 8) (hLw : kdLw E A b N xs) (hro : kdRO A z.1 z.2) (hLe : kdLe A b z) (hLs : kdLs E A) (k150 : Nat → Nat → Int32 → Int32 → Int32 → Nat → Nat → Nat → Nat → Int32 → Int32 → Int32 → kdM → Option (Unit × kdM)) (k354 : Nat → Nat → Int32 → Int32 → Int32 → Nat → Nat → Nat → Int32 → Int32 → Int32 → kdM → Option (Unit × kdM)) (hk150 : ∀ (l1 : Nat) (l2 : Nat) (l3 : Int32) (l4 : Int32) (l5 : Int32) (l6 : Nat) (l7 : Nat) (l8 : Nat) (l9 : Nat) (l10 : Int32) (l11 : Int32) (l12 : Int32) (σ : kdM), k150 l1 l2 l3 l4 l5 l6 l7 l8 l9 l10 l11 l12 σ = some (r, σ1) → SW E G (.inr z) A 29 σ 150 [(0, .ref b), (1, kr E l1), (2, kr E l2), (3, .int l3), (4, .int l4), (5, .int l5), (6, kr E l6), (7, kr E l7), (8, kr E l8), (9, kr E l9), (10, .int l10), (11, .int l11), (12, .int l12)] []) (hk354 : ∀ (l1 : Nat) (l2 : Nat) (l3 : Int32) (l4 : Int32) (l5 : Int32) (l6 : Nat) (l7 : Nat) (l8 : Nat) (l10 : Int32) (l11 : Int32) (l12 : Int32) (σ : kdM), k354 l1 l2 l3 l4 l5 l6 l7 l8 l10 l11 l12 σ = some (r, σ1) → SW E G (.inr z) A 29 σ 354 [(0, .ref b), (1, kr E l1), (2, kr E l2), (3, .int l3), (4, .int l4), (5, .int l5), (6, kr E l6), (7, kr E l7), (8, kr E l8), (10, .int l10), (11, .int l11), (12, .int l12)] []) {l1 : Nat} {l2 : Nat} {l3 : Int32} {l4 : Int32} {l5 : Int32} {l6 : Nat} {l7 : Nat} {l8 : Nat} {l9 : Nat} {l10 : Int32} {l11 : Int32} {l12 : Int32} {σ : kdM} (h : L_law_308 G xs N k150 k354 l1 l2 l3 l4 l5 l6 l7 l8 l9 l10 l11 l12 σ = some (r, σ1)) : SW E G (.inr z) A 29 σ 308 [(0, .ref b), (1, kr E l1), (2, kr E l2), (3, .int l3), (4, .int l4), (5, .int l5), (6, kr E l6), (7, kr E l7), (8, kr E l8), (9, kr E l9), (10, .int l10), (11, .int l11), (12, .int l12)] [] := by
  unfold L_law_308 at h
  refine r_iincL (L2 := fun t1 => [(11, .int t1), (0, .ref b), (1, kr E l1), (2, kr E l2), (3, .int l3), (4, .int l4), (5, .int l5), (6, kr E l6), (7, kr E l7), (8, kr E l8), (9, kr E l9), (10, .int l10), (12, .int l12)]) hX dL_law_308 h 11 rfl (by decide) (fun _ => rfl) ?_
  clear h; intro t1 h
  refine r_aload_n hX dL_law_311 rfl 3 rfl ?_
  refine r_aload hX dL_law_312 7 rfl ?_
  refine r_iload hX dL_law_314 12 rfl ?_
  refine r_aI hX dL_law_316 h ?_
  clear h; intro t2 h
  refine r_aload hX dL_law_317 8 rfl ?_
  refine r_iload hX dL_law_319 12 rfl ?_
  refine r_aI hX dL_law_321 h ?_
  clear h; intro t3 h
  refine r_aload hX dL_law_322 9 rfl ?_
  refine r_iload hX dL_law_324 12 rfl ?_
  refine r_aI hX dL_law_326 h ?_
  clear h; intro t4 h
  refine r_cVi (As := [.int t2, .int t3, .int t4]) (st := []) hX dL_law_327 kl_X11_learn w_ml_L_39 w_im_X11_learn w_se_X11_learn ⟨_, _, rfl⟩ (by decide) rfl (Nat.le_of_ble_eq_true rfl) rfl hro h (fun r σ1 h => wX11_learn h) ?_
  clear h; intro t5 σ h
  refine r_iload hX dL_law_330 0 rfl ?_
  refine r_icmp_eq (tgt := 337) hX dL_law_332 (by decide) h ?_ ?_
  · clear h; intro h
    refine r_sub [1, 2, 3, 4, 5, 6, 7, 8, 9, 10, 11, 0, 12] rfl ?_
    exact wL_law_337 hX hLw hro hLe hLs k150 k354 hk150 hk354 h
  · clear h; intro h
    exact absurd (show (none : Option (Unit × kdM)) = some (r, σ1) from h) (by simp)
def L_law_290 (G : kdS) (xs : Nat → Int32) (N : Nat) (k150 : Nat → Nat → Int32 → Int32 → Int32 → Nat → Nat → Nat → Nat → Int32 → Int32 → Int32 → kdM → Option (Unit × kdM)) (k354 : Nat → Nat → Int32 → Int32 → Int32 → Nat → Nat → Nat → Int32 → Int32 → Int32 → kdM → Option (Unit × kdM)) (l1 : Nat) (l2 : Nat) (l3 : Int32) (l4 : Int32) (l5 : Int32) (l6 : Nat) (l7 : Nat) (l8 : Nat) (l9 : Nat) (l10 : Int32) (l11 : Int32) (l12 : Int32) : kdM → Option (Unit × kdM) :=
  aI G l6 (l12) fun t1 =>
  cnd (t1 = 0)
    (aI G l7 (l12) fun t2 =>
    cnd (t2 = l10)
      (L_law_337 G xs N k150 k354 l1 l2 l3 l4 l5 l6 l7 l8 l9 l10 l11 l12)
      (L_law_308 G xs N k150 k354 l1 l2 l3 l4 l5 l6 l7 l8 l9 l10 l11 l12))
    (L_law_308 G xs N k150 k354 l1 l2 l3 l4 l5 l6 l7 l8 l9 l10 l11 l12)
set_option maxRecDepth 100000 in
set_option maxHeartbeats 4000000 in
theorem wL_law_290 {E : kdE} {G : kdS} {A : kdA} {z : Nat × Nat} {b N : Nat} {xs : Nat → Int32} {r : Unit} {σ1 : kdM} (hX : kdX E A cL_law 29 RL (some .boolean) 8) (hLw : kdLw E A b N xs) (hro : kdRO A z.1 z.2) (hLe : kdLe A b z) (hLs : kdLs E A) (k150 : Nat → Nat → Int32 → Int32 → Int32 → Nat → Nat → Nat → Nat → Int32 → Int32 → Int32 → kdM → Option (Unit × kdM)) (k354 : Nat → Nat → Int32 → Int32 → Int32 → Nat → Nat → Nat → Int32 → Int32 → Int32 → kdM → Option (Unit × kdM)) (hk150 : ∀ (l1 : Nat) (l2 : Nat) (l3 : Int32) (l4 : Int32) (l5 : Int32) (l6 : Nat) (l7 : Nat) (l8 : Nat) (l9 : Nat) (l10 : Int32) (l11 : Int32) (l12 : Int32) (σ : kdM), k150 l1 l2 l3 l4 l5 l6 l7 l8 l9 l10 l11 l12 σ = some (r, σ1) → SW E G (.inr z) A 29 σ 150 [(0, .ref b), (1, kr E l1), (2, kr E l2), (3, .int l3), (4, .int l4), (5, .int l5), (6, kr E l6), (7, kr E l7), (8, kr E l8), (9, kr E l9), (10, .int l10), (11, .int l11), (12, .int l12)] []) (hk354 : ∀ (l1 : Nat) (l2 : Nat) (l3 : Int32) (l4 : Int32) (l5 : Int32) (l6 : Nat) (l7 : Nat) (l8 : Nat) (l10 : Int32) (l11 : Int32) (l12 : Int32) (σ : kdM), k354 l1 l2 l3 l4 l5 l6 l7 l8 l10 l11 l12 σ = some (r, σ1) → SW E G (.inr z) A 29 σ 354 [(0, .ref b), (1, kr E l1), (2, kr E l2), (3, .int l3), (4, .int l4), (5, .int l5), (6, kr E l6), (7, kr E l7), (8, kr E l8), (10, .int l10), (11, .int l11), (12, .int l12)] []) {l1 : Nat} {l2 : Nat} {l3 : Int32} {l4 : Int32} {l5 : Int32} {l6 : Nat} {l7 : Nat} {l8 : Nat} {l9 : Nat} {l10 : Int32} {l11 : Int32} {l12 : Int32} {σ : kdM} (h : L_law_290 G xs N k150 k354 l1 l2 l3 l4 l5 l6 l7 l8 l9 l10 l11 l12 σ = some (r, σ1)) : SW E G (.inr z) A 29 σ 290 [(0, .ref b), (1, kr E l1), (2, kr E l2), (3, .int l3), (4, .int l4), (5, .int l5), (6, kr E l6), (7, kr E l7), (8, kr E l8), (9, kr E l9), (10, .int l10), (11, .int l11), (12, .int l12)] [] := by
  unfold L_law_290 at h
  refine r_aload hX dL_law_290 6 rfl ?_
  refine r_iload hX dL_law_292 12 rfl ?_
  refine r_aI hX dL_law_294 h ?_
  clear h; intro t1 h
  refine r_if_ne (tgt := 308) hX dL_law_295 (by decide) h ?_ ?_
  · clear h; intro h
    refine r_aload hX dL_law_298 7 rfl ?_
    refine r_iload hX dL_law_300 12 rfl ?_
    refine r_aI hX dL_law_302 h ?_
    clear h; intro t2 h
    refine r_iload hX dL_law_303 10 rfl ?_
    refine r_icmp_eq (tgt := 337) hX dL_law_305 (by decide) h ?_ ?_
    · clear h; intro h
      refine r_sub [0, 1, 2, 3, 4, 5, 6, 7, 8, 9, 10, 11, 12] rfl ?_
      exact wL_law_337 hX hLw hro hLe hLs k150 k354 hk150 hk354 h
    · clear h; intro h
      refine r_sub [0, 1, 2, 3, 4, 5, 6, 7, 8, 9, 10, 11, 12] rfl ?_
      exact wL_law_308 hX hLw hro hLe hLs k150 k354 hk150 hk354 h
  · clear h; intro h
    refine r_sub [0, 1, 2, 3, 4, 5, 6, 7, 8, 9, 10, 11, 12] rfl ?_
    exact wL_law_308 hX hLw hro hLe hLs k150 k354 hk150 hk354 h
def L_law_150B (G : kdS) (xs : Nat → Int32) (N : Nat) (k354 : Nat → Nat → Int32 → Int32 → Int32 → Nat → Nat → Nat → Int32 → Int32 → Int32 → kdM → Option (Unit × kdM)) (k150 : Nat → Nat → Int32 → Int32 → Int32 → Nat → Nat → Nat → Nat → Int32 → Int32 → Int32 → kdM → Option (Unit × kdM)) (l1 : Nat) (l2 : Nat) (l3 : Int32) (l4 : Int32) (l5 : Int32) (l6 : Nat) (l7 : Nat) (l8 : Nat) (l9 : Nat) (l10 : Int32) (l11 : Int32) (l12 : Int32) : kdM → Option (Unit × kdM) :=
  cnd (l5 ≤ l12)
    (kcl (L_cell G xs N (160 : Int32) (60 : Int32)) fun t1 =>
    k354 l1 l2 l3 l4 l5 l6 l7 l8 l10 l11 t1)
    (kcl (L_cell G xs N (((3 : Int32) * l12) + (104 : Int32)) (4 : Int32)) fun t2 =>
    tI G l6 (l12) (t2) <|
    kcl (L_cell G xs N (((3 : Int32) * l12) + (105 : Int32)) l3) fun t3 =>
    tI G l7 (l12) (t3) <|
    aI G l6 (l12) fun t4 =>
    aI G l9 (t4) fun t5 =>
    kcl (L_cell G xs N (((3 : Int32) * l12) + (106 : Int32)) (6 : Int32)) fun t6 =>
    tI G l9 (t4) ((t5 + t6)) <|
    aI G l6 (l12) fun t7 =>
    aI G l9 (t7) fun t8 =>
    tI G l8 (l12) (t8) <|
    aI G l6 (l12) fun t9 =>
    aI G l7 (l12) fun t10 =>
    aI G l8 (l12) fun t11 =>
    kcv G 11 l1 (X11_learn G l1 t9 t10 t11) fun t12 =>
    cnd (t12 = (l12 + (1 : Int32)))
      (aI G l8 (l12) fun t13 =>
      cnd (t13 ≤ 0)
        (L_law_290 G xs N k150 k354 l1 l2 l3 l4 l5 l6 l7 l8 l9 l10 l11 l12)
        (aI G l6 (l12) fun t14 =>
        aI G l7 (l12) fun t15 =>
        aI G l8 (l12) fun t16 =>
        kcv G 11 l1 (X11_learn G l1 t14 t15 (t16 - (1 : Int32))) fun t17 =>
        cnd (t17 = (-5 : Int32))
          (L_law_290 G xs N k150 k354 l1 l2 l3 l4 l5 l6 l7 l8 l9 l10 l11 l12)
          (L_law_288 G xs N k354 )))
      (L_law_288 G xs N k354 ))
set_option maxRecDepth 100000 in
set_option maxHeartbeats 4000000 in
theorem wL_law_150B {E : kdE} {G : kdS} {A : kdA} {z : Nat × Nat} {b N : Nat} {xs : Nat → Int32} {r : Unit} {σ1 : kdM} (hX : kdX E A cL_law 29 RL (some .boolean) 8) (hLw : kdLw E A b N xs) (hro : kdRO A z.1 z.2) (hLe : kdLe A b z) (hLs : kdLs E A) (k354 : Nat → Nat → Int32 → Int32 → Int32 → Nat → Nat → Nat → Int32 → Int32 → Int32 → kdM → Option (Unit × kdM)) (k150 : Nat → Nat → Int32 → Int32 → Int32 → Nat → Nat → Nat → Nat → Int32 → Int32 → Int32 → kdM → Option (Unit × kdM)) (hk354 : ∀ (l1 : Nat) (l2 : Nat) (l3 : Int32) (l4 : Int32) (l5 : Int32) (l6 : Nat) (l7 : Nat) (l8 : Nat) (l10 : Int32) (l11 : Int32) (l12 : Int32) (σ : kdM), k354 l1 l2 l3 l4 l5 l6 l7 l8 l10 l11 l12 σ = some (r, σ1) → SW E G (.inr z) A 29 σ 354 [(0, .ref b), (1, kr E l1), (2, kr E l2), (3, .int l3), (4, .int l4), (5, .int l5), (6, kr E l6), (7, kr E l7), (8, kr E l8), (10, .int l10), (11, .int l11), (12, .int l12)] []) (hk150 : ∀ (l1 : Nat) (l2 : Nat) (l3 : Int32) (l4 : Int32) (l5 : Int32) (l6 : Nat) (l7 : Nat) (l8 : Nat) (l9 : Nat) (l10 : Int32) (l11 : Int32) (l12 : Int32) (σ : kdM), k150 l1 l2 l3 l4 l5 l6 l7 l8 l9 l10 l11 l12 σ = some (r, σ1) → SW E G (.inr z) A 29 σ 150 [(0, .ref b), (1, kr E l1), (2, kr E l2), (3, .int l3), (4, .int l4), (5, .int l5), (6, kr E l6), (7, kr E l7), (8, kr E l8), (9, kr E l9), (10, .int l10), (11, .int l11), (12, .int l12)] []) {l1 : Nat} {l2 : Nat} {l3 : Int32} {l4 : Int32} {l5 : Int32} {l6 : Nat} {l7 : Nat} {l8 : Nat} {l9 : Nat} {l10 : Int32} {l11 : Int32} {l12 : Int32} {σ : kdM} (h : L_law_150B G xs N k354 k150 l1 l2 l3 l4 l5 l6 l7 l8 l9 l10 l11 l12 σ = some (r, σ1)) : SW E G (.inr z) A 29 σ 150 [(0, .ref b), (1, kr E l1), (2, kr E l2), (3, .int l3), (4, .int l4), (5, .int l5), (6, kr E l6), (7, kr E l7), (8, kr E l8), (9, kr E l9), (10, .int l10), (11, .int l11), (12, .int l12)] [] := by
  unfold L_law_150B at h
  refine r_iload hX dL_law_150 12 rfl ?_
  refine r_iload hX dL_law_152 5 rfl ?_
  refine r_icmp_ge (tgt := 343) hX dL_law_154 (by decide) h ?_ ?_
  · clear h; intro h
    refine r_sload hX dL_law_343 rfl 0 rfl ?_
    refine r_sipush hX dL_law_344 kk_s_160 ?_
    refine r_bipush hX dL_law_347 kk_b_60 ?_
    refine r_cSs (As := [.ref b, .int (160 : Int32), .int (60 : Int32)]) (st := []) hX hLw dL_law_349 kl_L_cell w_ml_L_14 w_st_L_cell (by decide) rfl (Nat.le_of_ble_eq_true rfl) rfl hro h (fun r σ1 h => wL_cell (kdLw_b hLw) h) ?_
    clear h; intro t1 σ h
    refine r_istore (L2 := [(12, .int t1), (0, .ref b), (1, kr E l1), (2, kr E l2), (3, .int l3), (4, .int l4), (5, .int l5), (6, kr E l6), (7, kr E l7), (8, kr E l8), (9, kr E l9), (10, .int l10), (11, .int l11)]) hX dL_law_352 (by decide) rfl ?_
    refine r_sub [1, 2, 3, 4, 5, 6, 7, 8, 9, 11, 12, 0] rfl ?_
    exact hk354 _ _ _ _ _ _ _ _ _ _ _ _ h
  · clear h; intro h
    refine r_aload hX dL_law_157 6 rfl ?_
    refine r_iload hX dL_law_159 12 rfl ?_
    refine r_sload hX dL_law_161 rfl 0 rfl ?_
    refine r_iconst hX dL_law_162 kk_i_3 ?_
    refine r_iload hX dL_law_163 12 rfl ?_
    refine r_imul hX dL_law_165 ?_
    refine r_bipush hX dL_law_166 kk_b_104 ?_
    refine r_iadd hX dL_law_168 ?_
    refine r_iconst hX dL_law_169 kk_i_4 ?_
    refine r_cSs (As := [.ref b, .int (((3 : Int32) * l12) + (104 : Int32)), .int (4 : Int32)]) (st := [.int l12, kr E l6]) hX hLw dL_law_170 kl_L_cell w_ml_L_14 w_st_L_cell (by decide) rfl (Nat.le_of_ble_eq_true rfl) rfl hro h (fun r σ1 h => wL_cell (kdLw_b hLw) h) ?_
    clear h; intro t2 σ h
    refine r_tI hX dL_law_173 h ?_
    clear h; intro σ h
    refine r_aload hX dL_law_174 7 rfl ?_
    refine r_iload hX dL_law_176 12 rfl ?_
    refine r_sload hX dL_law_178 rfl 0 rfl ?_
    refine r_iconst hX dL_law_179 kk_i_3 ?_
    refine r_iload hX dL_law_180 12 rfl ?_
    refine r_imul hX dL_law_182 ?_
    refine r_bipush hX dL_law_183 kk_b_105 ?_
    refine r_iadd hX dL_law_185 ?_
    refine r_iload_n hX dL_law_186 rfl 3 rfl ?_
    refine r_cSs (As := [.ref b, .int (((3 : Int32) * l12) + (105 : Int32)), .int l3]) (st := [.int l12, kr E l7]) hX hLw dL_law_187 kl_L_cell w_ml_L_14 w_st_L_cell (by decide) rfl (Nat.le_of_ble_eq_true rfl) rfl hro h (fun r σ1 h => wL_cell (kdLw_b hLw) h) ?_
    clear h; intro t3 σ h
    refine r_tI hX dL_law_190 h ?_
    clear h; intro σ h
    refine r_aload hX dL_law_191 9 rfl ?_
    refine r_aload hX dL_law_193 6 rfl ?_
    refine r_iload hX dL_law_195 12 rfl ?_
    refine r_aI hX dL_law_197 h ?_
    clear h; intro t4 h
    refine r_dup2 hX dL_law_198 rfl rfl ?_
    refine r_aI hX dL_law_199 h ?_
    clear h; intro t5 h
    refine r_sload hX dL_law_200 rfl 0 rfl ?_
    refine r_iconst hX dL_law_201 kk_i_3 ?_
    refine r_iload hX dL_law_202 12 rfl ?_
    refine r_imul hX dL_law_204 ?_
    refine r_bipush hX dL_law_205 kk_b_106 ?_
    refine r_iadd hX dL_law_207 ?_
    refine r_bipush hX dL_law_208 kk_b_6 ?_
    refine r_cSs (As := [.ref b, .int (((3 : Int32) * l12) + (106 : Int32)), .int (6 : Int32)]) (st := [.int t5, .int t4, kr E l9]) hX hLw dL_law_210 kl_L_cell w_ml_L_14 w_st_L_cell (by decide) rfl (Nat.le_of_ble_eq_true rfl) rfl hro h (fun r σ1 h => wL_cell (kdLw_b hLw) h) ?_
    clear h; intro t6 σ h
    refine r_iadd hX dL_law_213 ?_
    refine r_tI hX dL_law_214 h ?_
    clear h; intro σ h
    refine r_aload hX dL_law_215 8 rfl ?_
    refine r_iload hX dL_law_217 12 rfl ?_
    refine r_aload hX dL_law_219 9 rfl ?_
    refine r_aload hX dL_law_221 6 rfl ?_
    refine r_iload hX dL_law_223 12 rfl ?_
    refine r_aI hX dL_law_225 h ?_
    clear h; intro t7 h
    refine r_aI hX dL_law_226 h ?_
    clear h; intro t8 h
    refine r_tI hX dL_law_227 h ?_
    clear h; intro σ h
    refine r_aload_n hX dL_law_228 rfl 1 rfl ?_
    refine r_aload hX dL_law_229 6 rfl ?_
    refine r_iload hX dL_law_231 12 rfl ?_
    refine r_aI hX dL_law_233 h ?_
    clear h; intro t9 h
    refine r_aload hX dL_law_234 7 rfl ?_
    refine r_iload hX dL_law_236 12 rfl ?_
    refine r_aI hX dL_law_238 h ?_
    clear h; intro t10 h
    refine r_aload hX dL_law_239 8 rfl ?_
    refine r_iload hX dL_law_241 12 rfl ?_
    refine r_aI hX dL_law_243 h ?_
    clear h; intro t11 h
    refine r_cVi (As := [.int t9, .int t10, .int t11]) (st := []) hX dL_law_244 kl_X11_learn w_ml_L_39 w_im_X11_learn w_se_X11_learn ⟨_, _, rfl⟩ (by decide) rfl (Nat.le_of_ble_eq_true rfl) rfl hro h (fun r σ1 h => wX11_learn h) ?_
    clear h; intro t12 σ h
    refine r_iload hX dL_law_247 12 rfl ?_
    refine r_iconst hX dL_law_249 kk_i_1 ?_
    refine r_iadd hX dL_law_250 ?_
    refine r_icmp_ne (tgt := 288) hX dL_law_251 (by decide) h ?_ ?_
    · clear h; intro h
      refine r_aload hX dL_law_254 8 rfl ?_
      refine r_iload hX dL_law_256 12 rfl ?_
      refine r_aI hX dL_law_258 h ?_
      clear h; intro t13 h
      refine r_if_le (tgt := 290) hX dL_law_259 (by decide) h ?_ ?_
      · clear h; intro h
        refine r_sub [0, 1, 2, 3, 4, 5, 6, 7, 8, 9, 10, 11, 12] rfl ?_
        exact wL_law_290 hX hLw hro hLe hLs k150 k354 hk150 hk354 h
      · clear h; intro h
        refine r_aload_n hX dL_law_262 rfl 1 rfl ?_
        refine r_aload hX dL_law_263 6 rfl ?_
        refine r_iload hX dL_law_265 12 rfl ?_
        refine r_aI hX dL_law_267 h ?_
        clear h; intro t14 h
        refine r_aload hX dL_law_268 7 rfl ?_
        refine r_iload hX dL_law_270 12 rfl ?_
        refine r_aI hX dL_law_272 h ?_
        clear h; intro t15 h
        refine r_aload hX dL_law_273 8 rfl ?_
        refine r_iload hX dL_law_275 12 rfl ?_
        refine r_aI hX dL_law_277 h ?_
        clear h; intro t16 h
        refine r_iconst hX dL_law_278 kk_i_1 ?_
        refine r_isub hX dL_law_279 ?_
        refine r_cVi (As := [.int t14, .int t15, .int (t16 - (1 : Int32))]) (st := []) hX dL_law_280 kl_X11_learn w_ml_L_39 w_im_X11_learn w_se_X11_learn ⟨_, _, rfl⟩ (by decide) rfl (Nat.le_of_ble_eq_true rfl) rfl hro h (fun r σ1 h => wX11_learn h) ?_
        clear h; intro t17 σ h
        refine r_bipush hX dL_law_283 kk_b_m5 ?_
        refine r_icmp_eq (tgt := 290) hX dL_law_285 (by decide) h ?_ ?_
        · clear h; intro h
          refine r_sub [0, 1, 2, 3, 4, 5, 6, 7, 8, 9, 10, 11, 12] rfl ?_
          exact wL_law_290 hX hLw hro hLe hLs k150 k354 hk150 hk354 h
        · clear h; intro h
          refine r_sub [0] rfl ?_
          exact wL_law_288 hX hLw hro hLe hLs k354 hk354 h
    · clear h; intro h
      refine r_sub [0] rfl ?_
      exact wL_law_288 hX hLw hro hLe hLs k354 hk354 h
def L_law_150 (G : kdS) (xs : Nat → Int32) (N : Nat) (k354 : Nat → Nat → Int32 → Int32 → Int32 → Nat → Nat → Nat → Int32 → Int32 → Int32 → kdM → Option (Unit × kdM)) : Nat → Nat → Int32 → Int32 → Int32 → Nat → Nat → Nat → Nat → Int32 → Int32 → Int32 → kdM → Option (Unit × kdM) := lp (fun _ _ _ _ _ _ _ _ _ _ _ _ _ => none) (L_law_150B G xs N k354) NN
theorem wL_law_150 {E : kdE} {G : kdS} {A : kdA} {z : Nat × Nat} {b N : Nat} {xs : Nat → Int32} {r : Unit} {σ1 : kdM} (hX : kdX E A cL_law 29 RL (some .boolean) 8) (hLw : kdLw E A b N xs) (hro : kdRO A z.1 z.2) (hLe : kdLe A b z) (hLs : kdLs E A) (k354 : Nat → Nat → Int32 → Int32 → Int32 → Nat → Nat → Nat → Int32 → Int32 → Int32 → kdM → Option (Unit × kdM)) (hk354 : ∀ (l1 : Nat) (l2 : Nat) (l3 : Int32) (l4 : Int32) (l5 : Int32) (l6 : Nat) (l7 : Nat) (l8 : Nat) (l10 : Int32) (l11 : Int32) (l12 : Int32) (σ : kdM), k354 l1 l2 l3 l4 l5 l6 l7 l8 l10 l11 l12 σ = some (r, σ1) → SW E G (.inr z) A 29 σ 354 [(0, .ref b), (1, kr E l1), (2, kr E l2), (3, .int l3), (4, .int l4), (5, .int l5), (6, kr E l6), (7, kr E l7), (8, kr E l8), (10, .int l10), (11, .int l11), (12, .int l12)] []) : ∀ (l1 : Nat) (l2 : Nat) (l3 : Int32) (l4 : Int32) (l5 : Int32) (l6 : Nat) (l7 : Nat) (l8 : Nat) (l9 : Nat) (l10 : Int32) (l11 : Int32) (l12 : Int32) (σ : kdM), L_law_150 G xs N k354 l1 l2 l3 l4 l5 l6 l7 l8 l9 l10 l11 l12 σ = some (r, σ1) → SW E G (.inr z) A 29 σ 150 [(0, .ref b), (1, kr E l1), (2, kr E l2), (3, .int l3), (4, .int l4), (5, .int l5), (6, kr E l6), (7, kr E l7), (8, kr E l8), (9, kr E l9), (10, .int l10), (11, .int l11), (12, .int l12)] [] :=
  lp_ind (Q := fun f => ∀ (l1 : Nat) (l2 : Nat) (l3 : Int32) (l4 : Int32) (l5 : Int32) (l6 : Nat) (l7 : Nat) (l8 : Nat) (l9 : Nat) (l10 : Int32) (l11 : Int32) (l12 : Int32) (σ : kdM), f l1 l2 l3 l4 l5 l6 l7 l8 l9 l10 l11 l12 σ = some (r, σ1) → SW E G (.inr z) A 29 σ 150 [(0, .ref b), (1, kr E l1), (2, kr E l2), (3, .int l3), (4, .int l4), (5, .int l5), (6, kr E l6), (7, kr E l7), (8, kr E l8), (9, kr E l9), (10, .int l10), (11, .int l11), (12, .int l12)] []) (by intros; contradiction) (fun k hk l1 l2 l3 l4 l5 l6 l7 l8 l9 l10 l11 l12 σ h => wL_law_150B hX hLw hro hLe hLs k354 k hk354 hk h) NN
def L_law_s2 (G : kdS) (xs : Nat → Int32) (N : Nat) (k354 : Nat → Nat → Int32 → Int32 → Int32 → Nat → Nat → Nat → Int32 → Int32 → Int32 → kdM → Option (Unit × kdM)) (l1 : Nat) (l2 : Nat) (l3 : Int32) (l4 : Int32) (l5 : Int32) (l6 : Nat) (l7 : Nat) (l8 : Nat) (l9 : Nat) : kdM → Option (Unit × kdM) :=
  kcl (L_cell G xs N (103 : Int32) l3) fun t1 =>
  L_law_150 G xs N k354 l1 l2 l3 l4 l5 l6 l7 l8 l9 t1 (0 : Int32) (0 : Int32)
set_option maxRecDepth 100000 in
set_option maxHeartbeats 4000000 in
theorem wL_law_s2 {E : kdE} {G : kdS} {A : kdA} {z : Nat × Nat} {b N : Nat} {xs : Nat → Int32} {r : Unit} {σ1 : kdM} (hX : kdX E A cL_law 29 RL (some .boolean) 8) (hLw : kdLw E A b N xs) (hro : kdRO A z.1 z.2) (hLe : kdLe A b z) (hLs : kdLs E A) (k354 : Nat → Nat → Int32 → Int32 → Int32 → Nat → Nat → Nat → Int32 → Int32 → Int32 → kdM → Option (Unit × kdM)) (hk354 : ∀ (l1 : Nat) (l2 : Nat) (l3 : Int32) (l4 : Int32) (l5 : Int32) (l6 : Nat) (l7 : Nat) (l8 : Nat) (l10 : Int32) (l11 : Int32) (l12 : Int32) (σ : kdM), k354 l1 l2 l3 l4 l5 l6 l7 l8 l10 l11 l12 σ = some (r, σ1) → SW E G (.inr z) A 29 σ 354 [(0, .ref b), (1, kr E l1), (2, kr E l2), (3, .int l3), (4, .int l4), (5, .int l5), (6, kr E l6), (7, kr E l7), (8, kr E l8), (10, .int l10), (11, .int l11), (12, .int l12)] []) {l1 : Nat} {l2 : Nat} {l3 : Int32} {l4 : Int32} {l5 : Int32} {l6 : Nat} {l7 : Nat} {l8 : Nat} {l9 : Nat} {σ : kdM} (h : L_law_s2 G xs N k354 l1 l2 l3 l4 l5 l6 l7 l8 l9 σ = some (r, σ1)) : SW E G (.inr z) A 29 σ 135 [(0, .ref b), (1, kr E l1), (2, kr E l2), (3, .int l3), (4, .int l4), (5, .int l5), (6, kr E l6), (7, kr E l7), (8, kr E l8), (9, kr E l9)] [] := by
  unfold L_law_s2 at h
  refine r_sload hX dL_law_135 rfl 0 rfl ?_
  refine r_bipush hX dL_law_136 kk_b_103 ?_
  refine r_iload_n hX dL_law_138 rfl 3 rfl ?_
  refine r_cSs (As := [.ref b, .int (103 : Int32), .int l3]) (st := []) hX hLw dL_law_139 kl_L_cell w_ml_L_14 w_st_L_cell (by decide) rfl (Nat.le_of_ble_eq_true rfl) rfl hro h (fun r σ1 h => wL_cell (kdLw_b hLw) h) ?_
  clear h; intro t1 σ h
  refine r_istore (L2 := [(10, .int t1), (0, .ref b), (1, kr E l1), (2, kr E l2), (3, .int l3), (4, .int l4), (5, .int l5), (6, kr E l6), (7, kr E l7), (8, kr E l8), (9, kr E l9)]) hX dL_law_142 (by decide) rfl ?_
  refine r_iconst hX dL_law_144 kk_i_0 ?_
  refine r_istore (L2 := [(11, .int (0 : Int32)), (10, .int t1), (0, .ref b), (1, kr E l1), (2, kr E l2), (3, .int l3), (4, .int l4), (5, .int l5), (6, kr E l6), (7, kr E l7), (8, kr E l8), (9, kr E l9)]) hX dL_law_145 (by decide) rfl ?_
  refine r_iconst hX dL_law_147 kk_i_0 ?_
  refine r_istore (L2 := [(12, .int (0 : Int32)), (11, .int (0 : Int32)), (10, .int t1), (0, .ref b), (1, kr E l1), (2, kr E l2), (3, .int l3), (4, .int l4), (5, .int l5), (6, kr E l6), (7, kr E l7), (8, kr E l8), (9, kr E l9)]) hX dL_law_148 (by decide) rfl ?_
  refine r_sub [3, 4, 5, 6, 7, 8, 9, 10, 11, 12, 2, 1, 0] rfl ?_
  exact wL_law_150 hX hLw hro hLe hLs k354 hk354 _ _ _ _ _ _ _ _ _ _ _ _ _ h
def L_law_465 (G : kdS) (xs : Nat → Int32) (N : Nat) (k363 : Nat → Nat → Int32 → Int32 → Int32 → Nat → Nat → Nat → Int32 → Int32 → Int32 → Nat → Int32 → kdM → Option (Unit × kdM)) (k372 : Nat → Nat → Int32 → Int32 → Int32 → Nat → Nat → Nat → Int32 → Int32 → Int32 → Nat → Int32 → Int32 → kdM → Option (Unit × kdM)) (k384 : Nat → Nat → Int32 → Int32 → Int32 → Nat → Nat → Nat → Int32 → Int32 → Int32 → Nat → Int32 → Int32 → Int32 → Int32 → kdM → Option (Unit × kdM)) (k776 : Nat → Nat → Int32 → Int32 → Int32 → Int32 → Int32 → Nat → Int32 → kdM → Option (Unit × kdM)) (l1 : Nat) (l2 : Nat) (l3 : Int32) (l4 : Int32) (l5 : Int32) (l6 : Nat) (l7 : Nat) (l8 : Nat) (l10 : Int32) (l11 : Int32) (l12 : Int32) (l13 : Nat) (l14 : Int32) (l15 : Int32) (l17 : Int32) (s0 : Int32) (s1 : Int32) : kdM → Option (Unit × kdM) :=
  ltI ((s0 + s1)) fun t1 =>
  ltI (l17 + Int32.ofInt 1) fun t2 =>
  k384 l1 l2 l3 l4 l5 l6 l7 l8 l10 l11 l12 l13 l14 l15 t1 t2
set_option maxRecDepth 100000 in
set_option maxHeartbeats 4000000 in
theorem wL_law_465 {E : kdE} {G : kdS} {A : kdA} {z : Nat × Nat} {b N : Nat} {xs : Nat → Int32} {r : Unit} {σ1 : kdM} (hX : kdX E A cL_law 29 RL (some .boolean) 8) (hLw : kdLw E A b N xs) (hro : kdRO A z.1 z.2) (hLe : kdLe A b z) (hLs : kdLs E A) (k363 : Nat → Nat → Int32 → Int32 → Int32 → Nat → Nat → Nat → Int32 → Int32 → Int32 → Nat → Int32 → kdM → Option (Unit × kdM)) (k372 : Nat → Nat → Int32 → Int32 → Int32 → Nat → Nat → Nat → Int32 → Int32 → Int32 → Nat → Int32 → Int32 → kdM → Option (Unit × kdM)) (k384 : Nat → Nat → Int32 → Int32 → Int32 → Nat → Nat → Nat → Int32 → Int32 → Int32 → Nat → Int32 → Int32 → Int32 → Int32 → kdM → Option (Unit × kdM)) (k776 : Nat → Nat → Int32 → Int32 → Int32 → Int32 → Int32 → Nat → Int32 → kdM → Option (Unit × kdM)) (hk363 : ∀ (l1 : Nat) (l2 : Nat) (l3 : Int32) (l4 : Int32) (l5 : Int32) (l6 : Nat) (l7 : Nat) (l8 : Nat) (l10 : Int32) (l11 : Int32) (l12 : Int32) (l13 : Nat) (l14 : Int32) (σ : kdM), k363 l1 l2 l3 l4 l5 l6 l7 l8 l10 l11 l12 l13 l14 σ = some (r, σ1) → SW E G (.inr z) A 29 σ 363 [(0, .ref b), (1, kr E l1), (2, kr E l2), (3, .int l3), (4, .int l4), (5, .int l5), (6, kr E l6), (7, kr E l7), (8, kr E l8), (10, .int l10), (11, .int l11), (12, .int l12), (13, kr E l13), (14, .int l14)] []) (hk372 : ∀ (l1 : Nat) (l2 : Nat) (l3 : Int32) (l4 : Int32) (l5 : Int32) (l6 : Nat) (l7 : Nat) (l8 : Nat) (l10 : Int32) (l11 : Int32) (l12 : Int32) (l13 : Nat) (l14 : Int32) (l15 : Int32) (σ : kdM), k372 l1 l2 l3 l4 l5 l6 l7 l8 l10 l11 l12 l13 l14 l15 σ = some (r, σ1) → SW E G (.inr z) A 29 σ 372 [(0, .ref b), (1, kr E l1), (2, kr E l2), (3, .int l3), (4, .int l4), (5, .int l5), (6, kr E l6), (7, kr E l7), (8, kr E l8), (10, .int l10), (11, .int l11), (12, .int l12), (13, kr E l13), (14, .int l14), (15, .int l15)] []) (hk384 : ∀ (l1 : Nat) (l2 : Nat) (l3 : Int32) (l4 : Int32) (l5 : Int32) (l6 : Nat) (l7 : Nat) (l8 : Nat) (l10 : Int32) (l11 : Int32) (l12 : Int32) (l13 : Nat) (l14 : Int32) (l15 : Int32) (l16 : Int32) (l17 : Int32) (σ : kdM), k384 l1 l2 l3 l4 l5 l6 l7 l8 l10 l11 l12 l13 l14 l15 l16 l17 σ = some (r, σ1) → SW E G (.inr z) A 29 σ 384 [(0, .ref b), (1, kr E l1), (2, kr E l2), (3, .int l3), (4, .int l4), (5, .int l5), (6, kr E l6), (7, kr E l7), (8, kr E l8), (10, .int l10), (11, .int l11), (12, .int l12), (13, kr E l13), (14, .int l14), (15, .int l15), (16, .int l16), (17, .int l17)] []) (hk776 : ∀ (l1 : Nat) (l2 : Nat) (l3 : Int32) (l5 : Int32) (l10 : Int32) (l11 : Int32) (l12 : Int32) (l13 : Nat) (l17 : Int32) (σ : kdM), k776 l1 l2 l3 l5 l10 l11 l12 l13 l17 σ = some (r, σ1) → SW E G (.inr z) A 29 σ 776 [(0, .ref b), (1, kr E l1), (2, kr E l2), (3, .int l3), (5, .int l5), (10, .int l10), (11, .int l11), (12, .int l12), (13, kr E l13), (17, .int l17)] []) {l1 : Nat} {l2 : Nat} {l3 : Int32} {l4 : Int32} {l5 : Int32} {l6 : Nat} {l7 : Nat} {l8 : Nat} {l10 : Int32} {l11 : Int32} {l12 : Int32} {l13 : Nat} {l14 : Int32} {l15 : Int32} {l17 : Int32} {s0 : Int32} {s1 : Int32} {σ : kdM} (h : L_law_465 G xs N k363 k372 k384 k776 l1 l2 l3 l4 l5 l6 l7 l8 l10 l11 l12 l13 l14 l15 l17 s0 s1 σ = some (r, σ1)) : SW E G (.inr z) A 29 σ 465 [(0, .ref b), (1, kr E l1), (2, kr E l2), (3, .int l3), (4, .int l4), (5, .int l5), (6, kr E l6), (7, kr E l7), (8, kr E l8), (10, .int l10), (11, .int l11), (12, .int l12), (13, kr E l13), (14, .int l14), (15, .int l15), (17, .int l17)] [.int s1, .int s0] := by
  unfold L_law_465 at h
  refine r_iadd hX dL_law_465 ?_
  refine r_letI h ?_
  clear h; intro t1 h
  refine r_istore (L2 := [(16, .int t1), (0, .ref b), (1, kr E l1), (2, kr E l2), (3, .int l3), (4, .int l4), (5, .int l5), (6, kr E l6), (7, kr E l7), (8, kr E l8), (10, .int l10), (11, .int l11), (12, .int l12), (13, kr E l13), (14, .int l14), (15, .int l15), (17, .int l17)]) hX dL_law_466 (by decide) rfl ?_
  refine r_iincL (L2 := fun t2 => [(17, .int t2), (16, .int t1), (0, .ref b), (1, kr E l1), (2, kr E l2), (3, .int l3), (4, .int l4), (5, .int l5), (6, kr E l6), (7, kr E l7), (8, kr E l8), (10, .int l10), (11, .int l11), (12, .int l12), (13, kr E l13), (14, .int l14), (15, .int l15)]) hX dL_law_468 h 16 rfl (by decide) (fun _ => rfl) ?_
  clear h; intro t2 h
  refine r_goto (tgt := 384) hX dL_law_471 (by decide) ?_
  refine r_sub [2, 3, 4, 5, 6, 7, 8, 9, 10, 11, 12, 13, 14, 15, 16, 1, 0] rfl ?_
  exact hk384 _ _ _ _ _ _ _ _ _ _ _ _ _ _ _ _ _ h
def L_law_464 (G : kdS) (xs : Nat → Int32) (N : Nat) (k363 : Nat → Nat → Int32 → Int32 → Int32 → Nat → Nat → Nat → Int32 → Int32 → Int32 → Nat → Int32 → kdM → Option (Unit × kdM)) (k372 : Nat → Nat → Int32 → Int32 → Int32 → Nat → Nat → Nat → Int32 → Int32 → Int32 → Nat → Int32 → Int32 → kdM → Option (Unit × kdM)) (k384 : Nat → Nat → Int32 → Int32 → Int32 → Nat → Nat → Nat → Int32 → Int32 → Int32 → Nat → Int32 → Int32 → Int32 → Int32 → kdM → Option (Unit × kdM)) (k776 : Nat → Nat → Int32 → Int32 → Int32 → Int32 → Int32 → Nat → Int32 → kdM → Option (Unit × kdM)) (l1 : Nat) (l2 : Nat) (l3 : Int32) (l4 : Int32) (l5 : Int32) (l6 : Nat) (l7 : Nat) (l8 : Nat) (l10 : Int32) (l11 : Int32) (l12 : Int32) (l13 : Nat) (l14 : Int32) (l15 : Int32) (l17 : Int32) (s0 : Int32) : kdM → Option (Unit × kdM) :=
  L_law_465 G xs N k363 k372 k384 k776 l1 l2 l3 l4 l5 l6 l7 l8 l10 l11 l12 l13 l14 l15 l17 s0 (0 : Int32)
set_option maxRecDepth 100000 in
set_option maxHeartbeats 4000000 in
theorem wL_law_464 {E : kdE} {G : kdS} {A : kdA} {z : Nat × Nat} {b N : Nat} {xs : Nat → Int32} {r : Unit} {σ1 : kdM} (hX : kdX E A cL_law 29 RL (some .boolean) 8) (hLw : kdLw E A b N xs) (hro : kdRO A z.1 z.2) (hLe : kdLe A b z) (hLs : kdLs E A) (k363 : Nat → Nat → Int32 → Int32 → Int32 → Nat → Nat → Nat → Int32 → Int32 → Int32 → Nat → Int32 → kdM → Option (Unit × kdM)) (k372 : Nat → Nat → Int32 → Int32 → Int32 → Nat → Nat → Nat → Int32 → Int32 → Int32 → Nat → Int32 → Int32 → kdM → Option (Unit × kdM)) (k384 : Nat → Nat → Int32 → Int32 → Int32 → Nat → Nat → Nat → Int32 → Int32 → Int32 → Nat → Int32 → Int32 → Int32 → Int32 → kdM → Option (Unit × kdM)) (k776 : Nat → Nat → Int32 → Int32 → Int32 → Int32 → Int32 → Nat → Int32 → kdM → Option (Unit × kdM)) (hk363 : ∀ (l1 : Nat) (l2 : Nat) (l3 : Int32) (l4 : Int32) (l5 : Int32) (l6 : Nat) (l7 : Nat) (l8 : Nat) (l10 : Int32) (l11 : Int32) (l12 : Int32) (l13 : Nat) (l14 : Int32) (σ : kdM), k363 l1 l2 l3 l4 l5 l6 l7 l8 l10 l11 l12 l13 l14 σ = some (r, σ1) → SW E G (.inr z) A 29 σ 363 [(0, .ref b), (1, kr E l1), (2, kr E l2), (3, .int l3), (4, .int l4), (5, .int l5), (6, kr E l6), (7, kr E l7), (8, kr E l8), (10, .int l10), (11, .int l11), (12, .int l12), (13, kr E l13), (14, .int l14)] []) (hk372 : ∀ (l1 : Nat) (l2 : Nat) (l3 : Int32) (l4 : Int32) (l5 : Int32) (l6 : Nat) (l7 : Nat) (l8 : Nat) (l10 : Int32) (l11 : Int32) (l12 : Int32) (l13 : Nat) (l14 : Int32) (l15 : Int32) (σ : kdM), k372 l1 l2 l3 l4 l5 l6 l7 l8 l10 l11 l12 l13 l14 l15 σ = some (r, σ1) → SW E G (.inr z) A 29 σ 372 [(0, .ref b), (1, kr E l1), (2, kr E l2), (3, .int l3), (4, .int l4), (5, .int l5), (6, kr E l6), (7, kr E l7), (8, kr E l8), (10, .int l10), (11, .int l11), (12, .int l12), (13, kr E l13), (14, .int l14), (15, .int l15)] []) (hk384 : ∀ (l1 : Nat) (l2 : Nat) (l3 : Int32) (l4 : Int32) (l5 : Int32) (l6 : Nat) (l7 : Nat) (l8 : Nat) (l10 : Int32) (l11 : Int32) (l12 : Int32) (l13 : Nat) (l14 : Int32) (l15 : Int32) (l16 : Int32) (l17 : Int32) (σ : kdM), k384 l1 l2 l3 l4 l5 l6 l7 l8 l10 l11 l12 l13 l14 l15 l16 l17 σ = some (r, σ1) → SW E G (.inr z) A 29 σ 384 [(0, .ref b), (1, kr E l1), (2, kr E l2), (3, .int l3), (4, .int l4), (5, .int l5), (6, kr E l6), (7, kr E l7), (8, kr E l8), (10, .int l10), (11, .int l11), (12, .int l12), (13, kr E l13), (14, .int l14), (15, .int l15), (16, .int l16), (17, .int l17)] []) (hk776 : ∀ (l1 : Nat) (l2 : Nat) (l3 : Int32) (l5 : Int32) (l10 : Int32) (l11 : Int32) (l12 : Int32) (l13 : Nat) (l17 : Int32) (σ : kdM), k776 l1 l2 l3 l5 l10 l11 l12 l13 l17 σ = some (r, σ1) → SW E G (.inr z) A 29 σ 776 [(0, .ref b), (1, kr E l1), (2, kr E l2), (3, .int l3), (5, .int l5), (10, .int l10), (11, .int l11), (12, .int l12), (13, kr E l13), (17, .int l17)] []) {l1 : Nat} {l2 : Nat} {l3 : Int32} {l4 : Int32} {l5 : Int32} {l6 : Nat} {l7 : Nat} {l8 : Nat} {l10 : Int32} {l11 : Int32} {l12 : Int32} {l13 : Nat} {l14 : Int32} {l15 : Int32} {l17 : Int32} {s0 : Int32} {σ : kdM} (h : L_law_464 G xs N k363 k372 k384 k776 l1 l2 l3 l4 l5 l6 l7 l8 l10 l11 l12 l13 l14 l15 l17 s0 σ = some (r, σ1)) : SW E G (.inr z) A 29 σ 464 [(0, .ref b), (1, kr E l1), (2, kr E l2), (3, .int l3), (4, .int l4), (5, .int l5), (6, kr E l6), (7, kr E l7), (8, kr E l8), (10, .int l10), (11, .int l11), (12, .int l12), (13, kr E l13), (14, .int l14), (15, .int l15), (17, .int l17)] [.int s0] := by
  unfold L_law_464 at h
  refine r_iconst hX dL_law_464 kk_i_0 ?_
  refine r_sub [0, 1, 2, 3, 4, 5, 6, 7, 8, 9, 10, 11, 12, 13, 14, 15] rfl ?_
  exact wL_law_465 hX hLw hro hLe hLs k363 k372 k384 k776 hk363 hk372 hk384 hk776 h
def L_law_403B (G : kdS) (xs : Nat → Int32) (N : Nat) (k363 : Nat → Nat → Int32 → Int32 → Int32 → Nat → Nat → Nat → Int32 → Int32 → Int32 → Nat → Int32 → kdM → Option (Unit × kdM)) (k372 : Nat → Nat → Int32 → Int32 → Int32 → Nat → Nat → Nat → Int32 → Int32 → Int32 → Nat → Int32 → Int32 → kdM → Option (Unit × kdM)) (k384 : Nat → Nat → Int32 → Int32 → Int32 → Nat → Nat → Nat → Int32 → Int32 → Int32 → Nat → Int32 → Int32 → Int32 → Int32 → kdM → Option (Unit × kdM)) (k776 : Nat → Nat → Int32 → Int32 → Int32 → Int32 → Int32 → Nat → Int32 → kdM → Option (Unit × kdM)) (k403 : Nat → Nat → Int32 → Int32 → Int32 → Nat → Nat → Nat → Int32 → Int32 → Int32 → Nat → Int32 → Int32 → Int32 → Int32 → Int32 → Int32 → kdM → Option (Unit × kdM)) (l1 : Nat) (l2 : Nat) (l3 : Int32) (l4 : Int32) (l5 : Int32) (l6 : Nat) (l7 : Nat) (l8 : Nat) (l10 : Int32) (l11 : Int32) (l12 : Int32) (l13 : Nat) (l14 : Int32) (l15 : Int32) (l16 : Int32) (l17 : Int32) (l18 : Int32) (l19 : Int32) : kdM → Option (Unit × kdM) :=
  cnd (l12 ≤ l19)
    (aI G l6 (l17) fun t1 =>
    cnd (t1 = l14)
      (aI G l7 (l17) fun t2 =>
      cnd (t2 = l15)
        (aI G l8 (l17) fun t3 =>
        cnd (l12 < t3)
          (L_law_464 G xs N k363 k372 k384 k776 l1 l2 l3 l4 l5 l6 l7 l8 l10 l11 l12 l13 l14 l15 l17 l16)
          (L_law_465 G xs N k363 k372 k384 k776 l1 l2 l3 l4 l5 l6 l7 l8 l10 l11 l12 l13 l14 l15 l17 l16 l18))
        (L_law_464 G xs N k363 k372 k384 k776 l1 l2 l3 l4 l5 l6 l7 l8 l10 l11 l12 l13 l14 l15 l17 l16))
      (L_law_464 G xs N k363 k372 k384 k776 l1 l2 l3 l4 l5 l6 l7 l8 l10 l11 l12 l13 l14 l15 l17 l16))
    (nz (1000 : Int32) <|
    ltI (((l18 * l4) / (1000 : Int32))) fun t4 =>
    ltI (l19 + Int32.ofInt 1) fun t5 =>
    k403 l1 l2 l3 l4 l5 l6 l7 l8 l10 l11 l12 l13 l14 l15 l16 l17 t4 t5)
set_option maxRecDepth 100000 in
set_option maxHeartbeats 4000000 in
theorem wL_law_403B {E : kdE} {G : kdS} {A : kdA} {z : Nat × Nat} {b N : Nat} {xs : Nat → Int32} {r : Unit} {σ1 : kdM} (hX : kdX E A cL_law 29 RL (some .boolean) 8) (hLw : kdLw E A b N xs) (hro : kdRO A z.1 z.2) (hLe : kdLe A b z) (hLs : kdLs E A) (k363 : Nat → Nat → Int32 → Int32 → Int32 → Nat → Nat → Nat → Int32 → Int32 → Int32 → Nat → Int32 → kdM → Option (Unit × kdM)) (k372 : Nat → Nat → Int32 → Int32 → Int32 → Nat → Nat → Nat → Int32 → Int32 → Int32 → Nat → Int32 → Int32 → kdM → Option (Unit × kdM)) (k384 : Nat → Nat → Int32 → Int32 → Int32 → Nat → Nat → Nat → Int32 → Int32 → Int32 → Nat → Int32 → Int32 → Int32 → Int32 → kdM → Option (Unit × kdM)) (k776 : Nat → Nat → Int32 → Int32 → Int32 → Int32 → Int32 → Nat → Int32 → kdM → Option (Unit × kdM)) (k403 : Nat → Nat → Int32 → Int32 → Int32 → Nat → Nat → Nat → Int32 → Int32 → Int32 → Nat → Int32 → Int32 → Int32 → Int32 → Int32 → Int32 → kdM → Option (Unit × kdM)) (hk363 : ∀ (l1 : Nat) (l2 : Nat) (l3 : Int32) (l4 : Int32) (l5 : Int32) (l6 : Nat) (l7 : Nat) (l8 : Nat) (l10 : Int32) (l11 : Int32) (l12 : Int32) (l13 : Nat) (l14 : Int32) (σ : kdM), k363 l1 l2 l3 l4 l5 l6 l7 l8 l10 l11 l12 l13 l14 σ = some (r, σ1) → SW E G (.inr z) A 29 σ 363 [(0, .ref b), (1, kr E l1), (2, kr E l2), (3, .int l3), (4, .int l4), (5, .int l5), (6, kr E l6), (7, kr E l7), (8, kr E l8), (10, .int l10), (11, .int l11), (12, .int l12), (13, kr E l13), (14, .int l14)] []) (hk372 : ∀ (l1 : Nat) (l2 : Nat) (l3 : Int32) (l4 : Int32) (l5 : Int32) (l6 : Nat) (l7 : Nat) (l8 : Nat) (l10 : Int32) (l11 : Int32) (l12 : Int32) (l13 : Nat) (l14 : Int32) (l15 : Int32) (σ : kdM), k372 l1 l2 l3 l4 l5 l6 l7 l8 l10 l11 l12 l13 l14 l15 σ = some (r, σ1) → SW E G (.inr z) A 29 σ 372 [(0, .ref b), (1, kr E l1), (2, kr E l2), (3, .int l3), (4, .int l4), (5, .int l5), (6, kr E l6), (7, kr E l7), (8, kr E l8), (10, .int l10), (11, .int l11), (12, .int l12), (13, kr E l13), (14, .int l14), (15, .int l15)] []) (hk384 : ∀ (l1 : Nat) (l2 : Nat) (l3 : Int32) (l4 : Int32) (l5 : Int32) (l6 : Nat) (l7 : Nat) (l8 : Nat) (l10 : Int32) (l11 : Int32) (l12 : Int32) (l13 : Nat) (l14 : Int32) (l15 : Int32) (l16 : Int32) (l17 : Int32) (σ : kdM), k384 l1 l2 l3 l4 l5 l6 l7 l8 l10 l11 l12 l13 l14 l15 l16 l17 σ = some (r, σ1) → SW E G (.inr z) A 29 σ 384 [(0, .ref b), (1, kr E l1), (2, kr E l2), (3, .int l3), (4, .int l4), (5, .int l5), (6, kr E l6), (7, kr E l7), (8, kr E l8), (10, .int l10), (11, .int l11), (12, .int l12), (13, kr E l13), (14, .int l14), (15, .int l15), (16, .int l16), (17, .int l17)] []) (hk776 : ∀ (l1 : Nat) (l2 : Nat) (l3 : Int32) (l5 : Int32) (l10 : Int32) (l11 : Int32) (l12 : Int32) (l13 : Nat) (l17 : Int32) (σ : kdM), k776 l1 l2 l3 l5 l10 l11 l12 l13 l17 σ = some (r, σ1) → SW E G (.inr z) A 29 σ 776 [(0, .ref b), (1, kr E l1), (2, kr E l2), (3, .int l3), (5, .int l5), (10, .int l10), (11, .int l11), (12, .int l12), (13, kr E l13), (17, .int l17)] []) (hk403 : ∀ (l1 : Nat) (l2 : Nat) (l3 : Int32) (l4 : Int32) (l5 : Int32) (l6 : Nat) (l7 : Nat) (l8 : Nat) (l10 : Int32) (l11 : Int32) (l12 : Int32) (l13 : Nat) (l14 : Int32) (l15 : Int32) (l16 : Int32) (l17 : Int32) (l18 : Int32) (l19 : Int32) (σ : kdM), k403 l1 l2 l3 l4 l5 l6 l7 l8 l10 l11 l12 l13 l14 l15 l16 l17 l18 l19 σ = some (r, σ1) → SW E G (.inr z) A 29 σ 403 [(0, .ref b), (1, kr E l1), (2, kr E l2), (3, .int l3), (4, .int l4), (5, .int l5), (6, kr E l6), (7, kr E l7), (8, kr E l8), (10, .int l10), (11, .int l11), (12, .int l12), (13, kr E l13), (14, .int l14), (15, .int l15), (16, .int l16), (17, .int l17), (18, .int l18), (19, .int l19)] []) {l1 : Nat} {l2 : Nat} {l3 : Int32} {l4 : Int32} {l5 : Int32} {l6 : Nat} {l7 : Nat} {l8 : Nat} {l10 : Int32} {l11 : Int32} {l12 : Int32} {l13 : Nat} {l14 : Int32} {l15 : Int32} {l16 : Int32} {l17 : Int32} {l18 : Int32} {l19 : Int32} {σ : kdM} (h : L_law_403B G xs N k363 k372 k384 k776 k403 l1 l2 l3 l4 l5 l6 l7 l8 l10 l11 l12 l13 l14 l15 l16 l17 l18 l19 σ = some (r, σ1)) : SW E G (.inr z) A 29 σ 403 [(0, .ref b), (1, kr E l1), (2, kr E l2), (3, .int l3), (4, .int l4), (5, .int l5), (6, kr E l6), (7, kr E l7), (8, kr E l8), (10, .int l10), (11, .int l11), (12, .int l12), (13, kr E l13), (14, .int l14), (15, .int l15), (16, .int l16), (17, .int l17), (18, .int l18), (19, .int l19)] [] := by
  unfold L_law_403B at h
  refine r_iload hX dL_law_403 18 rfl ?_
  refine r_iload hX dL_law_405 11 rfl ?_
  refine r_icmp_ge (tgt := 427) hX dL_law_407 (by decide) h ?_ ?_
  · clear h; intro h
    refine r_iload hX dL_law_427 15 rfl ?_
    refine r_aload hX dL_law_429 6 rfl ?_
    refine r_iload hX dL_law_431 16 rfl ?_
    refine r_aI hX dL_law_433 h ?_
    clear h; intro t1 h
    refine r_iload hX dL_law_434 13 rfl ?_
    refine r_icmp_ne (tgt := 464) hX dL_law_436 (by decide) h ?_ ?_
    · clear h; intro h
      refine r_aload hX dL_law_439 7 rfl ?_
      refine r_iload hX dL_law_441 16 rfl ?_
      refine r_aI hX dL_law_443 h ?_
      clear h; intro t2 h
      refine r_iload hX dL_law_444 14 rfl ?_
      refine r_icmp_ne (tgt := 464) hX dL_law_446 (by decide) h ?_ ?_
      · clear h; intro h
        refine r_aload hX dL_law_449 8 rfl ?_
        refine r_iload hX dL_law_451 16 rfl ?_
        refine r_aI hX dL_law_453 h ?_
        clear h; intro t3 h
        refine r_iload hX dL_law_454 11 rfl ?_
        refine r_icmp_gt (tgt := 464) hX dL_law_456 (by decide) h ?_ ?_
        · clear h; intro h
          refine r_sub [0, 1, 2, 3, 4, 5, 6, 7, 8, 9, 10, 11, 12, 13, 14, 16] rfl ?_
          exact wL_law_464 hX hLw hro hLe hLs k363 k372 k384 k776 hk363 hk372 hk384 hk776 h
        · clear h; intro h
          refine r_iload hX dL_law_459 17 rfl ?_
          refine r_goto (tgt := 465) hX dL_law_461 (by decide) ?_
          refine r_sub [0, 1, 2, 3, 4, 5, 6, 7, 8, 9, 10, 11, 12, 13, 14, 16] rfl ?_
          exact wL_law_465 hX hLw hro hLe hLs k363 k372 k384 k776 hk363 hk372 hk384 hk776 h
      · clear h; intro h
        refine r_sub [0, 1, 2, 3, 4, 5, 6, 7, 8, 9, 10, 11, 12, 13, 14, 16] rfl ?_
        exact wL_law_464 hX hLw hro hLe hLs k363 k372 k384 k776 hk363 hk372 hk384 hk776 h
    · clear h; intro h
      refine r_sub [0, 1, 2, 3, 4, 5, 6, 7, 8, 9, 10, 11, 12, 13, 14, 16] rfl ?_
      exact wL_law_464 hX hLw hro hLe hLs k363 k372 k384 k776 hk363 hk372 hk384 hk776 h
  · clear h; intro h
    refine r_iload hX dL_law_410 17 rfl ?_
    refine r_iload hX dL_law_412 4 rfl ?_
    refine r_imul hX dL_law_414 ?_
    refine r_sipush hX dL_law_415 kk_s_1000 ?_
    refine r_idiv hX dL_law_418 h ?_
    clear h; intro h
    refine r_letI h ?_
    clear h; intro t4 h
    refine r_istore (L2 := [(18, .int t4), (0, .ref b), (1, kr E l1), (2, kr E l2), (3, .int l3), (4, .int l4), (5, .int l5), (6, kr E l6), (7, kr E l7), (8, kr E l8), (10, .int l10), (11, .int l11), (12, .int l12), (13, kr E l13), (14, .int l14), (15, .int l15), (16, .int l16), (17, .int l17), (19, .int l19)]) hX dL_law_419 (by decide) rfl ?_
    refine r_iincL (L2 := fun t5 => [(19, .int t5), (18, .int t4), (0, .ref b), (1, kr E l1), (2, kr E l2), (3, .int l3), (4, .int l4), (5, .int l5), (6, kr E l6), (7, kr E l7), (8, kr E l8), (10, .int l10), (11, .int l11), (12, .int l12), (13, kr E l13), (14, .int l14), (15, .int l15), (16, .int l16), (17, .int l17)]) hX dL_law_421 h 18 rfl (by decide) (fun _ => rfl) ?_
    clear h; intro t5 h
    refine r_goto (tgt := 403) hX dL_law_424 (by decide) ?_
    refine r_sub [2, 3, 4, 5, 6, 7, 8, 9, 10, 11, 12, 13, 14, 15, 16, 17, 18, 1, 0] rfl ?_
    exact hk403 _ _ _ _ _ _ _ _ _ _ _ _ _ _ _ _ _ _ _ h
def L_law_403 (G : kdS) (xs : Nat → Int32) (N : Nat) (k363 : Nat → Nat → Int32 → Int32 → Int32 → Nat → Nat → Nat → Int32 → Int32 → Int32 → Nat → Int32 → kdM → Option (Unit × kdM)) (k372 : Nat → Nat → Int32 → Int32 → Int32 → Nat → Nat → Nat → Int32 → Int32 → Int32 → Nat → Int32 → Int32 → kdM → Option (Unit × kdM)) (k384 : Nat → Nat → Int32 → Int32 → Int32 → Nat → Nat → Nat → Int32 → Int32 → Int32 → Nat → Int32 → Int32 → Int32 → Int32 → kdM → Option (Unit × kdM)) (k776 : Nat → Nat → Int32 → Int32 → Int32 → Int32 → Int32 → Nat → Int32 → kdM → Option (Unit × kdM)) : Nat → Nat → Int32 → Int32 → Int32 → Nat → Nat → Nat → Int32 → Int32 → Int32 → Nat → Int32 → Int32 → Int32 → Int32 → Int32 → Int32 → kdM → Option (Unit × kdM) := lp (fun _ _ _ _ _ _ _ _ _ _ _ _ _ _ _ _ _ _ _ => none) (L_law_403B G xs N k363 k372 k384 k776) NN
theorem wL_law_403 {E : kdE} {G : kdS} {A : kdA} {z : Nat × Nat} {b N : Nat} {xs : Nat → Int32} {r : Unit} {σ1 : kdM} (hX : kdX E A cL_law 29 RL (some .boolean) 8) (hLw : kdLw E A b N xs) (hro : kdRO A z.1 z.2) (hLe : kdLe A b z) (hLs : kdLs E A) (k363 : Nat → Nat → Int32 → Int32 → Int32 → Nat → Nat → Nat → Int32 → Int32 → Int32 → Nat → Int32 → kdM → Option (Unit × kdM)) (k372 : Nat → Nat → Int32 → Int32 → Int32 → Nat → Nat → Nat → Int32 → Int32 → Int32 → Nat → Int32 → Int32 → kdM → Option (Unit × kdM)) (k384 : Nat → Nat → Int32 → Int32 → Int32 → Nat → Nat → Nat → Int32 → Int32 → Int32 → Nat → Int32 → Int32 → Int32 → Int32 → kdM → Option (Unit × kdM)) (k776 : Nat → Nat → Int32 → Int32 → Int32 → Int32 → Int32 → Nat → Int32 → kdM → Option (Unit × kdM)) (hk363 : ∀ (l1 : Nat) (l2 : Nat) (l3 : Int32) (l4 : Int32) (l5 : Int32) (l6 : Nat) (l7 : Nat) (l8 : Nat) (l10 : Int32) (l11 : Int32) (l12 : Int32) (l13 : Nat) (l14 : Int32) (σ : kdM), k363 l1 l2 l3 l4 l5 l6 l7 l8 l10 l11 l12 l13 l14 σ = some (r, σ1) → SW E G (.inr z) A 29 σ 363 [(0, .ref b), (1, kr E l1), (2, kr E l2), (3, .int l3), (4, .int l4), (5, .int l5), (6, kr E l6), (7, kr E l7), (8, kr E l8), (10, .int l10), (11, .int l11), (12, .int l12), (13, kr E l13), (14, .int l14)] []) (hk372 : ∀ (l1 : Nat) (l2 : Nat) (l3 : Int32) (l4 : Int32) (l5 : Int32) (l6 : Nat) (l7 : Nat) (l8 : Nat) (l10 : Int32) (l11 : Int32) (l12 : Int32) (l13 : Nat) (l14 : Int32) (l15 : Int32) (σ : kdM), k372 l1 l2 l3 l4 l5 l6 l7 l8 l10 l11 l12 l13 l14 l15 σ = some (r, σ1) → SW E G (.inr z) A 29 σ 372 [(0, .ref b), (1, kr E l1), (2, kr E l2), (3, .int l3), (4, .int l4), (5, .int l5), (6, kr E l6), (7, kr E l7), (8, kr E l8), (10, .int l10), (11, .int l11), (12, .int l12), (13, kr E l13), (14, .int l14), (15, .int l15)] []) (hk384 : ∀ (l1 : Nat) (l2 : Nat) (l3 : Int32) (l4 : Int32) (l5 : Int32) (l6 : Nat) (l7 : Nat) (l8 : Nat) (l10 : Int32) (l11 : Int32) (l12 : Int32) (l13 : Nat) (l14 : Int32) (l15 : Int32) (l16 : Int32) (l17 : Int32) (σ : kdM), k384 l1 l2 l3 l4 l5 l6 l7 l8 l10 l11 l12 l13 l14 l15 l16 l17 σ = some (r, σ1) → SW E G (.inr z) A 29 σ 384 [(0, .ref b), (1, kr E l1), (2, kr E l2), (3, .int l3), (4, .int l4), (5, .int l5), (6, kr E l6), (7, kr E l7), (8, kr E l8), (10, .int l10), (11, .int l11), (12, .int l12), (13, kr E l13), (14, .int l14), (15, .int l15), (16, .int l16), (17, .int l17)] []) (hk776 : ∀ (l1 : Nat) (l2 : Nat) (l3 : Int32) (l5 : Int32) (l10 : Int32) (l11 : Int32) (l12 : Int32) (l13 : Nat) (l17 : Int32) (σ : kdM), k776 l1 l2 l3 l5 l10 l11 l12 l13 l17 σ = some (r, σ1) → SW E G (.inr z) A 29 σ 776 [(0, .ref b), (1, kr E l1), (2, kr E l2), (3, .int l3), (5, .int l5), (10, .int l10), (11, .int l11), (12, .int l12), (13, kr E l13), (17, .int l17)] []) : ∀ (l1 : Nat) (l2 : Nat) (l3 : Int32) (l4 : Int32) (l5 : Int32) (l6 : Nat) (l7 : Nat) (l8 : Nat) (l10 : Int32) (l11 : Int32) (l12 : Int32) (l13 : Nat) (l14 : Int32) (l15 : Int32) (l16 : Int32) (l17 : Int32) (l18 : Int32) (l19 : Int32) (σ : kdM), L_law_403 G xs N k363 k372 k384 k776 l1 l2 l3 l4 l5 l6 l7 l8 l10 l11 l12 l13 l14 l15 l16 l17 l18 l19 σ = some (r, σ1) → SW E G (.inr z) A 29 σ 403 [(0, .ref b), (1, kr E l1), (2, kr E l2), (3, .int l3), (4, .int l4), (5, .int l5), (6, kr E l6), (7, kr E l7), (8, kr E l8), (10, .int l10), (11, .int l11), (12, .int l12), (13, kr E l13), (14, .int l14), (15, .int l15), (16, .int l16), (17, .int l17), (18, .int l18), (19, .int l19)] [] :=
  lp_ind (Q := fun f => ∀ (l1 : Nat) (l2 : Nat) (l3 : Int32) (l4 : Int32) (l5 : Int32) (l6 : Nat) (l7 : Nat) (l8 : Nat) (l10 : Int32) (l11 : Int32) (l12 : Int32) (l13 : Nat) (l14 : Int32) (l15 : Int32) (l16 : Int32) (l17 : Int32) (l18 : Int32) (l19 : Int32) (σ : kdM), f l1 l2 l3 l4 l5 l6 l7 l8 l10 l11 l12 l13 l14 l15 l16 l17 l18 l19 σ = some (r, σ1) → SW E G (.inr z) A 29 σ 403 [(0, .ref b), (1, kr E l1), (2, kr E l2), (3, .int l3), (4, .int l4), (5, .int l5), (6, kr E l6), (7, kr E l7), (8, kr E l8), (10, .int l10), (11, .int l11), (12, .int l12), (13, kr E l13), (14, .int l14), (15, .int l15), (16, .int l16), (17, .int l17), (18, .int l18), (19, .int l19)] []) (by intros; contradiction) (fun k hk l1 l2 l3 l4 l5 l6 l7 l8 l10 l11 l12 l13 l14 l15 l16 l17 l18 l19 σ h => wL_law_403B hX hLw hro hLe hLs k363 k372 k384 k776 k hk363 hk372 hk384 hk776 hk h) NN
def L_law_384B (G : kdS) (xs : Nat → Int32) (N : Nat) (k363 : Nat → Nat → Int32 → Int32 → Int32 → Nat → Nat → Nat → Int32 → Int32 → Int32 → Nat → Int32 → kdM → Option (Unit × kdM)) (k372 : Nat → Nat → Int32 → Int32 → Int32 → Nat → Nat → Nat → Int32 → Int32 → Int32 → Nat → Int32 → Int32 → kdM → Option (Unit × kdM)) (k776 : Nat → Nat → Int32 → Int32 → Int32 → Int32 → Int32 → Nat → Int32 → kdM → Option (Unit × kdM)) (k384 : Nat → Nat → Int32 → Int32 → Int32 → Nat → Nat → Nat → Int32 → Int32 → Int32 → Nat → Int32 → Int32 → Int32 → Int32 → kdM → Option (Unit × kdM)) (l1 : Nat) (l2 : Nat) (l3 : Int32) (l4 : Int32) (l5 : Int32) (l6 : Nat) (l7 : Nat) (l8 : Nat) (l10 : Int32) (l11 : Int32) (l12 : Int32) (l13 : Nat) (l14 : Int32) (l15 : Int32) (l16 : Int32) (l17 : Int32) : kdM → Option (Unit × kdM) :=
  cnd (l5 ≤ l17)
    (tI G l13 ((((8 : Int32) * l14) + l15)) (l16) <|
    kcv G 11 l1 (X11_worth G l1 l14 l15 l12) fun t1 =>
    cnd (t1 = l16)
      (ltI (l15 + Int32.ofInt 1) fun t2 =>
      k372 l1 l2 l3 l4 l5 l6 l7 l8 l10 l11 l12 l13 l14 t2)
      (fun _ => none))
    (aI G l8 (l17) fun t3 =>
    L_law_403 G xs N k363 k372 k384 k776 l1 l2 l3 l4 l5 l6 l7 l8 l10 l11 l12 l13 l14 l15 l16 l17 (1000 : Int32) t3)
set_option maxRecDepth 100000 in
set_option maxHeartbeats 4000000 in
theorem wL_law_384B {E : kdE} {G : kdS} {A : kdA} {z : Nat × Nat} {b N : Nat} {xs : Nat → Int32} {r : Unit} {σ1 : kdM} (hX : kdX E A cL_law 29 RL (some .boolean) 8) (hLw : kdLw E A b N xs) (hro : kdRO A z.1 z.2) (hLe : kdLe A b z) (hLs : kdLs E A) (k363 : Nat → Nat → Int32 → Int32 → Int32 → Nat → Nat → Nat → Int32 → Int32 → Int32 → Nat → Int32 → kdM → Option (Unit × kdM)) (k372 : Nat → Nat → Int32 → Int32 → Int32 → Nat → Nat → Nat → Int32 → Int32 → Int32 → Nat → Int32 → Int32 → kdM → Option (Unit × kdM)) (k776 : Nat → Nat → Int32 → Int32 → Int32 → Int32 → Int32 → Nat → Int32 → kdM → Option (Unit × kdM)) (k384 : Nat → Nat → Int32 → Int32 → Int32 → Nat → Nat → Nat → Int32 → Int32 → Int32 → Nat → Int32 → Int32 → Int32 → Int32 → kdM → Option (Unit × kdM)) (hk363 : ∀ (l1 : Nat) (l2 : Nat) (l3 : Int32) (l4 : Int32) (l5 : Int32) (l6 : Nat) (l7 : Nat) (l8 : Nat) (l10 : Int32) (l11 : Int32) (l12 : Int32) (l13 : Nat) (l14 : Int32) (σ : kdM), k363 l1 l2 l3 l4 l5 l6 l7 l8 l10 l11 l12 l13 l14 σ = some (r, σ1) → SW E G (.inr z) A 29 σ 363 [(0, .ref b), (1, kr E l1), (2, kr E l2), (3, .int l3), (4, .int l4), (5, .int l5), (6, kr E l6), (7, kr E l7), (8, kr E l8), (10, .int l10), (11, .int l11), (12, .int l12), (13, kr E l13), (14, .int l14)] []) (hk372 : ∀ (l1 : Nat) (l2 : Nat) (l3 : Int32) (l4 : Int32) (l5 : Int32) (l6 : Nat) (l7 : Nat) (l8 : Nat) (l10 : Int32) (l11 : Int32) (l12 : Int32) (l13 : Nat) (l14 : Int32) (l15 : Int32) (σ : kdM), k372 l1 l2 l3 l4 l5 l6 l7 l8 l10 l11 l12 l13 l14 l15 σ = some (r, σ1) → SW E G (.inr z) A 29 σ 372 [(0, .ref b), (1, kr E l1), (2, kr E l2), (3, .int l3), (4, .int l4), (5, .int l5), (6, kr E l6), (7, kr E l7), (8, kr E l8), (10, .int l10), (11, .int l11), (12, .int l12), (13, kr E l13), (14, .int l14), (15, .int l15)] []) (hk776 : ∀ (l1 : Nat) (l2 : Nat) (l3 : Int32) (l5 : Int32) (l10 : Int32) (l11 : Int32) (l12 : Int32) (l13 : Nat) (l17 : Int32) (σ : kdM), k776 l1 l2 l3 l5 l10 l11 l12 l13 l17 σ = some (r, σ1) → SW E G (.inr z) A 29 σ 776 [(0, .ref b), (1, kr E l1), (2, kr E l2), (3, .int l3), (5, .int l5), (10, .int l10), (11, .int l11), (12, .int l12), (13, kr E l13), (17, .int l17)] []) (hk384 : ∀ (l1 : Nat) (l2 : Nat) (l3 : Int32) (l4 : Int32) (l5 : Int32) (l6 : Nat) (l7 : Nat) (l8 : Nat) (l10 : Int32) (l11 : Int32) (l12 : Int32) (l13 : Nat) (l14 : Int32) (l15 : Int32) (l16 : Int32) (l17 : Int32) (σ : kdM), k384 l1 l2 l3 l4 l5 l6 l7 l8 l10 l11 l12 l13 l14 l15 l16 l17 σ = some (r, σ1) → SW E G (.inr z) A 29 σ 384 [(0, .ref b), (1, kr E l1), (2, kr E l2), (3, .int l3), (4, .int l4), (5, .int l5), (6, kr E l6), (7, kr E l7), (8, kr E l8), (10, .int l10), (11, .int l11), (12, .int l12), (13, kr E l13), (14, .int l14), (15, .int l15), (16, .int l16), (17, .int l17)] []) {l1 : Nat} {l2 : Nat} {l3 : Int32} {l4 : Int32} {l5 : Int32} {l6 : Nat} {l7 : Nat} {l8 : Nat} {l10 : Int32} {l11 : Int32} {l12 : Int32} {l13 : Nat} {l14 : Int32} {l15 : Int32} {l16 : Int32} {l17 : Int32} {σ : kdM} (h : L_law_384B G xs N k363 k372 k776 k384 l1 l2 l3 l4 l5 l6 l7 l8 l10 l11 l12 l13 l14 l15 l16 l17 σ = some (r, σ1)) : SW E G (.inr z) A 29 σ 384 [(0, .ref b), (1, kr E l1), (2, kr E l2), (3, .int l3), (4, .int l4), (5, .int l5), (6, kr E l6), (7, kr E l7), (8, kr E l8), (10, .int l10), (11, .int l11), (12, .int l12), (13, kr E l13), (14, .int l14), (15, .int l15), (16, .int l16), (17, .int l17)] [] := by
  unfold L_law_384B at h
  refine r_iload hX dL_law_384 16 rfl ?_
  refine r_iload hX dL_law_386 5 rfl ?_
  refine r_icmp_ge (tgt := 474) hX dL_law_388 (by decide) h ?_ ?_
  · clear h; intro h
    refine r_aload hX dL_law_474 12 rfl ?_
    refine r_bipush hX dL_law_476 kk_b_8 ?_
    refine r_iload hX dL_law_478 13 rfl ?_
    refine r_imul hX dL_law_480 ?_
    refine r_iload hX dL_law_481 14 rfl ?_
    refine r_iadd hX dL_law_483 ?_
    refine r_iload hX dL_law_484 15 rfl ?_
    refine r_tI hX dL_law_486 h ?_
    clear h; intro σ h
    refine r_aload_n hX dL_law_487 rfl 1 rfl ?_
    refine r_iload hX dL_law_488 13 rfl ?_
    refine r_iload hX dL_law_490 14 rfl ?_
    refine r_iload hX dL_law_492 11 rfl ?_
    refine r_cVi (As := [.int l14, .int l15, .int l12]) (st := []) hX dL_law_494 kl_X11_worth w_ml_L_42 w_im_X11_worth w_se_X11_worth ⟨_, _, rfl⟩ (by decide) rfl (Nat.le_of_ble_eq_true rfl) rfl hro h (fun r σ1 h => wX11_worth h) ?_
    clear h; intro t1 σ h
    refine r_iload hX dL_law_497 15 rfl ?_
    refine r_icmp_eq (tgt := 504) hX dL_law_499 (by decide) h ?_ ?_
    · clear h; intro h
      refine r_iincL (L2 := fun t2 => [(15, .int t2), (0, .ref b), (1, kr E l1), (2, kr E l2), (3, .int l3), (4, .int l4), (5, .int l5), (6, kr E l6), (7, kr E l7), (8, kr E l8), (10, .int l10), (11, .int l11), (12, .int l12), (13, kr E l13), (14, .int l14), (16, .int l16), (17, .int l17)]) hX dL_law_504 h 14 rfl (by decide) (fun _ => rfl) ?_
      clear h; intro t2 h
      refine r_goto (tgt := 372) hX dL_law_507 (by decide) ?_
      refine r_sub [1, 2, 3, 4, 5, 6, 7, 8, 9, 10, 11, 12, 13, 14, 0] rfl ?_
      exact hk372 _ _ _ _ _ _ _ _ _ _ _ _ _ _ _ h
    · clear h; intro h
      exact absurd (show (none : Option (Unit × kdM)) = some (r, σ1) from h) (by simp)
  · clear h; intro h
    refine r_sipush hX dL_law_391 kk_s_1000 ?_
    refine r_istore (L2 := [(18, .int (1000 : Int32)), (0, .ref b), (1, kr E l1), (2, kr E l2), (3, .int l3), (4, .int l4), (5, .int l5), (6, kr E l6), (7, kr E l7), (8, kr E l8), (10, .int l10), (11, .int l11), (12, .int l12), (13, kr E l13), (14, .int l14), (15, .int l15), (16, .int l16), (17, .int l17)]) hX dL_law_394 (by decide) rfl ?_
    refine r_aload hX dL_law_396 9 rfl ?_
    refine r_iload hX dL_law_398 17 rfl ?_
    refine r_aI hX dL_law_400 h ?_
    clear h; intro t3 h
    refine r_istore (L2 := [(19, .int t3), (18, .int (1000 : Int32)), (0, .ref b), (1, kr E l1), (2, kr E l2), (3, .int l3), (4, .int l4), (5, .int l5), (6, kr E l6), (7, kr E l7), (8, kr E l8), (10, .int l10), (11, .int l11), (12, .int l12), (13, kr E l13), (14, .int l14), (15, .int l15), (16, .int l16), (17, .int l17)]) hX dL_law_401 (by decide) rfl ?_
    refine r_sub [2, 3, 4, 5, 6, 7, 8, 9, 10, 11, 12, 13, 14, 15, 16, 17, 18, 1, 0] rfl ?_
    exact wL_law_403 hX hLw hro hLe hLs k363 k372 k384 k776 hk363 hk372 hk384 hk776 _ _ _ _ _ _ _ _ _ _ _ _ _ _ _ _ _ _ _ h
def L_law_384 (G : kdS) (xs : Nat → Int32) (N : Nat) (k363 : Nat → Nat → Int32 → Int32 → Int32 → Nat → Nat → Nat → Int32 → Int32 → Int32 → Nat → Int32 → kdM → Option (Unit × kdM)) (k372 : Nat → Nat → Int32 → Int32 → Int32 → Nat → Nat → Nat → Int32 → Int32 → Int32 → Nat → Int32 → Int32 → kdM → Option (Unit × kdM)) (k776 : Nat → Nat → Int32 → Int32 → Int32 → Int32 → Int32 → Nat → Int32 → kdM → Option (Unit × kdM)) : Nat → Nat → Int32 → Int32 → Int32 → Nat → Nat → Nat → Int32 → Int32 → Int32 → Nat → Int32 → Int32 → Int32 → Int32 → kdM → Option (Unit × kdM) := lp (fun _ _ _ _ _ _ _ _ _ _ _ _ _ _ _ _ _ => none) (L_law_384B G xs N k363 k372 k776) NN
theorem wL_law_384 {E : kdE} {G : kdS} {A : kdA} {z : Nat × Nat} {b N : Nat} {xs : Nat → Int32} {r : Unit} {σ1 : kdM} (hX : kdX E A cL_law 29 RL (some .boolean) 8) (hLw : kdLw E A b N xs) (hro : kdRO A z.1 z.2) (hLe : kdLe A b z) (hLs : kdLs E A) (k363 : Nat → Nat → Int32 → Int32 → Int32 → Nat → Nat → Nat → Int32 → Int32 → Int32 → Nat → Int32 → kdM → Option (Unit × kdM)) (k372 : Nat → Nat → Int32 → Int32 → Int32 → Nat → Nat → Nat → Int32 → Int32 → Int32 → Nat → Int32 → Int32 → kdM → Option (Unit × kdM)) (k776 : Nat → Nat → Int32 → Int32 → Int32 → Int32 → Int32 → Nat → Int32 → kdM → Option (Unit × kdM)) (hk363 : ∀ (l1 : Nat) (l2 : Nat) (l3 : Int32) (l4 : Int32) (l5 : Int32) (l6 : Nat) (l7 : Nat) (l8 : Nat) (l10 : Int32) (l11 : Int32) (l12 : Int32) (l13 : Nat) (l14 : Int32) (σ : kdM), k363 l1 l2 l3 l4 l5 l6 l7 l8 l10 l11 l12 l13 l14 σ = some (r, σ1) → SW E G (.inr z) A 29 σ 363 [(0, .ref b), (1, kr E l1), (2, kr E l2), (3, .int l3), (4, .int l4), (5, .int l5), (6, kr E l6), (7, kr E l7), (8, kr E l8), (10, .int l10), (11, .int l11), (12, .int l12), (13, kr E l13), (14, .int l14)] []) (hk372 : ∀ (l1 : Nat) (l2 : Nat) (l3 : Int32) (l4 : Int32) (l5 : Int32) (l6 : Nat) (l7 : Nat) (l8 : Nat) (l10 : Int32) (l11 : Int32) (l12 : Int32) (l13 : Nat) (l14 : Int32) (l15 : Int32) (σ : kdM), k372 l1 l2 l3 l4 l5 l6 l7 l8 l10 l11 l12 l13 l14 l15 σ = some (r, σ1) → SW E G (.inr z) A 29 σ 372 [(0, .ref b), (1, kr E l1), (2, kr E l2), (3, .int l3), (4, .int l4), (5, .int l5), (6, kr E l6), (7, kr E l7), (8, kr E l8), (10, .int l10), (11, .int l11), (12, .int l12), (13, kr E l13), (14, .int l14), (15, .int l15)] []) (hk776 : ∀ (l1 : Nat) (l2 : Nat) (l3 : Int32) (l5 : Int32) (l10 : Int32) (l11 : Int32) (l12 : Int32) (l13 : Nat) (l17 : Int32) (σ : kdM), k776 l1 l2 l3 l5 l10 l11 l12 l13 l17 σ = some (r, σ1) → SW E G (.inr z) A 29 σ 776 [(0, .ref b), (1, kr E l1), (2, kr E l2), (3, .int l3), (5, .int l5), (10, .int l10), (11, .int l11), (12, .int l12), (13, kr E l13), (17, .int l17)] []) : ∀ (l1 : Nat) (l2 : Nat) (l3 : Int32) (l4 : Int32) (l5 : Int32) (l6 : Nat) (l7 : Nat) (l8 : Nat) (l10 : Int32) (l11 : Int32) (l12 : Int32) (l13 : Nat) (l14 : Int32) (l15 : Int32) (l16 : Int32) (l17 : Int32) (σ : kdM), L_law_384 G xs N k363 k372 k776 l1 l2 l3 l4 l5 l6 l7 l8 l10 l11 l12 l13 l14 l15 l16 l17 σ = some (r, σ1) → SW E G (.inr z) A 29 σ 384 [(0, .ref b), (1, kr E l1), (2, kr E l2), (3, .int l3), (4, .int l4), (5, .int l5), (6, kr E l6), (7, kr E l7), (8, kr E l8), (10, .int l10), (11, .int l11), (12, .int l12), (13, kr E l13), (14, .int l14), (15, .int l15), (16, .int l16), (17, .int l17)] [] :=
  lp_ind (Q := fun f => ∀ (l1 : Nat) (l2 : Nat) (l3 : Int32) (l4 : Int32) (l5 : Int32) (l6 : Nat) (l7 : Nat) (l8 : Nat) (l10 : Int32) (l11 : Int32) (l12 : Int32) (l13 : Nat) (l14 : Int32) (l15 : Int32) (l16 : Int32) (l17 : Int32) (σ : kdM), f l1 l2 l3 l4 l5 l6 l7 l8 l10 l11 l12 l13 l14 l15 l16 l17 σ = some (r, σ1) → SW E G (.inr z) A 29 σ 384 [(0, .ref b), (1, kr E l1), (2, kr E l2), (3, .int l3), (4, .int l4), (5, .int l5), (6, kr E l6), (7, kr E l7), (8, kr E l8), (10, .int l10), (11, .int l11), (12, .int l12), (13, kr E l13), (14, .int l14), (15, .int l15), (16, .int l16), (17, .int l17)] []) (by intros; contradiction) (fun k hk l1 l2 l3 l4 l5 l6 l7 l8 l10 l11 l12 l13 l14 l15 l16 l17 σ h => wL_law_384B hX hLw hro hLe hLs k363 k372 k776 k hk363 hk372 hk776 hk h) NN
def L_law_372B (G : kdS) (xs : Nat → Int32) (N : Nat) (k363 : Nat → Nat → Int32 → Int32 → Int32 → Nat → Nat → Nat → Int32 → Int32 → Int32 → Nat → Int32 → kdM → Option (Unit × kdM)) (k776 : Nat → Nat → Int32 → Int32 → Int32 → Int32 → Int32 → Nat → Int32 → kdM → Option (Unit × kdM)) (k372 : Nat → Nat → Int32 → Int32 → Int32 → Nat → Nat → Nat → Int32 → Int32 → Int32 → Nat → Int32 → Int32 → kdM → Option (Unit × kdM)) (l1 : Nat) (l2 : Nat) (l3 : Int32) (l4 : Int32) (l5 : Int32) (l6 : Nat) (l7 : Nat) (l8 : Nat) (l10 : Int32) (l11 : Int32) (l12 : Int32) (l13 : Nat) (l14 : Int32) (l15 : Int32) : kdM → Option (Unit × kdM) :=
  cnd (l3 ≤ l15)
    (ltI (l14 + Int32.ofInt 1) fun t1 =>
    k363 l1 l2 l3 l4 l5 l6 l7 l8 l10 l11 l12 l13 t1)
    (L_law_384 G xs N k363 k372 k776 l1 l2 l3 l4 l5 l6 l7 l8 l10 l11 l12 l13 l14 l15 (0 : Int32) (0 : Int32))
set_option maxRecDepth 100000 in
set_option maxHeartbeats 4000000 in
theorem wL_law_372B {E : kdE} {G : kdS} {A : kdA} {z : Nat × Nat} {b N : Nat} {xs : Nat → Int32} {r : Unit} {σ1 : kdM} (hX : kdX E A cL_law 29 RL (some .boolean) 8) (hLw : kdLw E A b N xs) (hro : kdRO A z.1 z.2) (hLe : kdLe A b z) (hLs : kdLs E A) (k363 : Nat → Nat → Int32 → Int32 → Int32 → Nat → Nat → Nat → Int32 → Int32 → Int32 → Nat → Int32 → kdM → Option (Unit × kdM)) (k776 : Nat → Nat → Int32 → Int32 → Int32 → Int32 → Int32 → Nat → Int32 → kdM → Option (Unit × kdM)) (k372 : Nat → Nat → Int32 → Int32 → Int32 → Nat → Nat → Nat → Int32 → Int32 → Int32 → Nat → Int32 → Int32 → kdM → Option (Unit × kdM)) (hk363 : ∀ (l1 : Nat) (l2 : Nat) (l3 : Int32) (l4 : Int32) (l5 : Int32) (l6 : Nat) (l7 : Nat) (l8 : Nat) (l10 : Int32) (l11 : Int32) (l12 : Int32) (l13 : Nat) (l14 : Int32) (σ : kdM), k363 l1 l2 l3 l4 l5 l6 l7 l8 l10 l11 l12 l13 l14 σ = some (r, σ1) → SW E G (.inr z) A 29 σ 363 [(0, .ref b), (1, kr E l1), (2, kr E l2), (3, .int l3), (4, .int l4), (5, .int l5), (6, kr E l6), (7, kr E l7), (8, kr E l8), (10, .int l10), (11, .int l11), (12, .int l12), (13, kr E l13), (14, .int l14)] []) (hk776 : ∀ (l1 : Nat) (l2 : Nat) (l3 : Int32) (l5 : Int32) (l10 : Int32) (l11 : Int32) (l12 : Int32) (l13 : Nat) (l17 : Int32) (σ : kdM), k776 l1 l2 l3 l5 l10 l11 l12 l13 l17 σ = some (r, σ1) → SW E G (.inr z) A 29 σ 776 [(0, .ref b), (1, kr E l1), (2, kr E l2), (3, .int l3), (5, .int l5), (10, .int l10), (11, .int l11), (12, .int l12), (13, kr E l13), (17, .int l17)] []) (hk372 : ∀ (l1 : Nat) (l2 : Nat) (l3 : Int32) (l4 : Int32) (l5 : Int32) (l6 : Nat) (l7 : Nat) (l8 : Nat) (l10 : Int32) (l11 : Int32) (l12 : Int32) (l13 : Nat) (l14 : Int32) (l15 : Int32) (σ : kdM), k372 l1 l2 l3 l4 l5 l6 l7 l8 l10 l11 l12 l13 l14 l15 σ = some (r, σ1) → SW E G (.inr z) A 29 σ 372 [(0, .ref b), (1, kr E l1), (2, kr E l2), (3, .int l3), (4, .int l4), (5, .int l5), (6, kr E l6), (7, kr E l7), (8, kr E l8), (10, .int l10), (11, .int l11), (12, .int l12), (13, kr E l13), (14, .int l14), (15, .int l15)] []) {l1 : Nat} {l2 : Nat} {l3 : Int32} {l4 : Int32} {l5 : Int32} {l6 : Nat} {l7 : Nat} {l8 : Nat} {l10 : Int32} {l11 : Int32} {l12 : Int32} {l13 : Nat} {l14 : Int32} {l15 : Int32} {σ : kdM} (h : L_law_372B G xs N k363 k776 k372 l1 l2 l3 l4 l5 l6 l7 l8 l10 l11 l12 l13 l14 l15 σ = some (r, σ1)) : SW E G (.inr z) A 29 σ 372 [(0, .ref b), (1, kr E l1), (2, kr E l2), (3, .int l3), (4, .int l4), (5, .int l5), (6, kr E l6), (7, kr E l7), (8, kr E l8), (10, .int l10), (11, .int l11), (12, .int l12), (13, kr E l13), (14, .int l14), (15, .int l15)] [] := by
  unfold L_law_372B at h
  refine r_iload hX dL_law_372 14 rfl ?_
  refine r_iload_n hX dL_law_374 rfl 3 rfl ?_
  refine r_icmp_ge (tgt := 510) hX dL_law_375 (by decide) h ?_ ?_
  · clear h; intro h
    refine r_iincL (L2 := fun t1 => [(14, .int t1), (0, .ref b), (1, kr E l1), (2, kr E l2), (3, .int l3), (4, .int l4), (5, .int l5), (6, kr E l6), (7, kr E l7), (8, kr E l8), (10, .int l10), (11, .int l11), (12, .int l12), (13, kr E l13), (15, .int l15)]) hX dL_law_510 h 13 rfl (by decide) (fun _ => rfl) ?_
    clear h; intro t1 h
    refine r_goto (tgt := 363) hX dL_law_513 (by decide) ?_
    refine r_sub [1, 2, 3, 4, 5, 6, 7, 8, 9, 10, 11, 12, 13, 0] rfl ?_
    exact hk363 _ _ _ _ _ _ _ _ _ _ _ _ _ _ h
  · clear h; intro h
    refine r_iconst hX dL_law_378 kk_i_0 ?_
    refine r_istore (L2 := [(16, .int (0 : Int32)), (0, .ref b), (1, kr E l1), (2, kr E l2), (3, .int l3), (4, .int l4), (5, .int l5), (6, kr E l6), (7, kr E l7), (8, kr E l8), (10, .int l10), (11, .int l11), (12, .int l12), (13, kr E l13), (14, .int l14), (15, .int l15)]) hX dL_law_379 (by decide) rfl ?_
    refine r_iconst hX dL_law_381 kk_i_0 ?_
    refine r_istore (L2 := [(17, .int (0 : Int32)), (16, .int (0 : Int32)), (0, .ref b), (1, kr E l1), (2, kr E l2), (3, .int l3), (4, .int l4), (5, .int l5), (6, kr E l6), (7, kr E l7), (8, kr E l8), (10, .int l10), (11, .int l11), (12, .int l12), (13, kr E l13), (14, .int l14), (15, .int l15)]) hX dL_law_382 (by decide) rfl ?_
    refine r_sub [2, 3, 4, 5, 6, 7, 8, 9, 10, 11, 12, 13, 14, 15, 16, 1, 0] rfl ?_
    exact wL_law_384 hX hLw hro hLe hLs k363 k372 k776 hk363 hk372 hk776 _ _ _ _ _ _ _ _ _ _ _ _ _ _ _ _ _ h
def L_law_372 (G : kdS) (xs : Nat → Int32) (N : Nat) (k363 : Nat → Nat → Int32 → Int32 → Int32 → Nat → Nat → Nat → Int32 → Int32 → Int32 → Nat → Int32 → kdM → Option (Unit × kdM)) (k776 : Nat → Nat → Int32 → Int32 → Int32 → Int32 → Int32 → Nat → Int32 → kdM → Option (Unit × kdM)) : Nat → Nat → Int32 → Int32 → Int32 → Nat → Nat → Nat → Int32 → Int32 → Int32 → Nat → Int32 → Int32 → kdM → Option (Unit × kdM) := lp (fun _ _ _ _ _ _ _ _ _ _ _ _ _ _ _ => none) (L_law_372B G xs N k363 k776) NN
theorem wL_law_372 {E : kdE} {G : kdS} {A : kdA} {z : Nat × Nat} {b N : Nat} {xs : Nat → Int32} {r : Unit} {σ1 : kdM} (hX : kdX E A cL_law 29 RL (some .boolean) 8) (hLw : kdLw E A b N xs) (hro : kdRO A z.1 z.2) (hLe : kdLe A b z) (hLs : kdLs E A) (k363 : Nat → Nat → Int32 → Int32 → Int32 → Nat → Nat → Nat → Int32 → Int32 → Int32 → Nat → Int32 → kdM → Option (Unit × kdM)) (k776 : Nat → Nat → Int32 → Int32 → Int32 → Int32 → Int32 → Nat → Int32 → kdM → Option (Unit × kdM)) (hk363 : ∀ (l1 : Nat) (l2 : Nat) (l3 : Int32) (l4 : Int32) (l5 : Int32) (l6 : Nat) (l7 : Nat) (l8 : Nat) (l10 : Int32) (l11 : Int32) (l12 : Int32) (l13 : Nat) (l14 : Int32) (σ : kdM), k363 l1 l2 l3 l4 l5 l6 l7 l8 l10 l11 l12 l13 l14 σ = some (r, σ1) → SW E G (.inr z) A 29 σ 363 [(0, .ref b), (1, kr E l1), (2, kr E l2), (3, .int l3), (4, .int l4), (5, .int l5), (6, kr E l6), (7, kr E l7), (8, kr E l8), (10, .int l10), (11, .int l11), (12, .int l12), (13, kr E l13), (14, .int l14)] []) (hk776 : ∀ (l1 : Nat) (l2 : Nat) (l3 : Int32) (l5 : Int32) (l10 : Int32) (l11 : Int32) (l12 : Int32) (l13 : Nat) (l17 : Int32) (σ : kdM), k776 l1 l2 l3 l5 l10 l11 l12 l13 l17 σ = some (r, σ1) → SW E G (.inr z) A 29 σ 776 [(0, .ref b), (1, kr E l1), (2, kr E l2), (3, .int l3), (5, .int l5), (10, .int l10), (11, .int l11), (12, .int l12), (13, kr E l13), (17, .int l17)] []) : ∀ (l1 : Nat) (l2 : Nat) (l3 : Int32) (l4 : Int32) (l5 : Int32) (l6 : Nat) (l7 : Nat) (l8 : Nat) (l10 : Int32) (l11 : Int32) (l12 : Int32) (l13 : Nat) (l14 : Int32) (l15 : Int32) (σ : kdM), L_law_372 G xs N k363 k776 l1 l2 l3 l4 l5 l6 l7 l8 l10 l11 l12 l13 l14 l15 σ = some (r, σ1) → SW E G (.inr z) A 29 σ 372 [(0, .ref b), (1, kr E l1), (2, kr E l2), (3, .int l3), (4, .int l4), (5, .int l5), (6, kr E l6), (7, kr E l7), (8, kr E l8), (10, .int l10), (11, .int l11), (12, .int l12), (13, kr E l13), (14, .int l14), (15, .int l15)] [] :=
  lp_ind (Q := fun f => ∀ (l1 : Nat) (l2 : Nat) (l3 : Int32) (l4 : Int32) (l5 : Int32) (l6 : Nat) (l7 : Nat) (l8 : Nat) (l10 : Int32) (l11 : Int32) (l12 : Int32) (l13 : Nat) (l14 : Int32) (l15 : Int32) (σ : kdM), f l1 l2 l3 l4 l5 l6 l7 l8 l10 l11 l12 l13 l14 l15 σ = some (r, σ1) → SW E G (.inr z) A 29 σ 372 [(0, .ref b), (1, kr E l1), (2, kr E l2), (3, .int l3), (4, .int l4), (5, .int l5), (6, kr E l6), (7, kr E l7), (8, kr E l8), (10, .int l10), (11, .int l11), (12, .int l12), (13, kr E l13), (14, .int l14), (15, .int l15)] []) (by intros; contradiction) (fun k hk l1 l2 l3 l4 l5 l6 l7 l8 l10 l11 l12 l13 l14 l15 σ h => wL_law_372B hX hLw hro hLe hLs k363 k776 k hk363 hk776 hk h) NN
def L_law_714 (G : kdS) (xs : Nat → Int32) (N : Nat) (k565 : Nat → Nat → Int32 → Int32 → Int32 → Int32 → Int32 → Nat → Int32 → Int32 → Int32 → Int32 → kdM → Option (Unit × kdM)) (k776 : Nat → Nat → Int32 → Int32 → Int32 → Int32 → Int32 → Nat → Int32 → kdM → Option (Unit × kdM)) (l1 : Nat) (l2 : Nat) (l3 : Int32) (l5 : Int32) (l10 : Int32) (l11 : Int32) (l12 : Int32) (l13 : Nat) (l14 : Int32) (l15 : Int32) (l16 : Int32) (l17 : Int32) (s0 : Int32) : kdM → Option (Unit × kdM) :=
  cnd (s0 = 0)
    (fun _ => none)
    (ltI (l17 + Int32.ofInt 1) fun t1 =>
    k565 l1 l2 l3 l5 l10 l11 l12 l13 l14 l15 l16 t1)
set_option maxRecDepth 100000 in
set_option maxHeartbeats 4000000 in
theorem wL_law_714 {E : kdE} {G : kdS} {A : kdA} {z : Nat × Nat} {b N : Nat} {xs : Nat → Int32} {r : Unit} {σ1 : kdM} (hX : kdX E A cL_law 29 RL (some .boolean) 8) (hLw : kdLw E A b N xs) (hro : kdRO A z.1 z.2) (hLe : kdLe A b z) (hLs : kdLs E A) (k565 : Nat → Nat → Int32 → Int32 → Int32 → Int32 → Int32 → Nat → Int32 → Int32 → Int32 → Int32 → kdM → Option (Unit × kdM)) (k776 : Nat → Nat → Int32 → Int32 → Int32 → Int32 → Int32 → Nat → Int32 → kdM → Option (Unit × kdM)) (hk565 : ∀ (l1 : Nat) (l2 : Nat) (l3 : Int32) (l5 : Int32) (l10 : Int32) (l11 : Int32) (l12 : Int32) (l13 : Nat) (l14 : Int32) (l15 : Int32) (l16 : Int32) (l17 : Int32) (σ : kdM), k565 l1 l2 l3 l5 l10 l11 l12 l13 l14 l15 l16 l17 σ = some (r, σ1) → SW E G (.inr z) A 29 σ 565 [(0, .ref b), (1, kr E l1), (2, kr E l2), (3, .int l3), (5, .int l5), (10, .int l10), (11, .int l11), (12, .int l12), (13, kr E l13), (14, .int l14), (15, .int l15), (16, .int l16), (17, .int l17)] []) (hk776 : ∀ (l1 : Nat) (l2 : Nat) (l3 : Int32) (l5 : Int32) (l10 : Int32) (l11 : Int32) (l12 : Int32) (l13 : Nat) (l17 : Int32) (σ : kdM), k776 l1 l2 l3 l5 l10 l11 l12 l13 l17 σ = some (r, σ1) → SW E G (.inr z) A 29 σ 776 [(0, .ref b), (1, kr E l1), (2, kr E l2), (3, .int l3), (5, .int l5), (10, .int l10), (11, .int l11), (12, .int l12), (13, kr E l13), (17, .int l17)] []) {l1 : Nat} {l2 : Nat} {l3 : Int32} {l5 : Int32} {l10 : Int32} {l11 : Int32} {l12 : Int32} {l13 : Nat} {l14 : Int32} {l15 : Int32} {l16 : Int32} {l17 : Int32} {s0 : Int32} {σ : kdM} (h : L_law_714 G xs N k565 k776 l1 l2 l3 l5 l10 l11 l12 l13 l14 l15 l16 l17 s0 σ = some (r, σ1)) : SW E G (.inr z) A 29 σ 714 [(0, .ref b), (1, kr E l1), (2, kr E l2), (3, .int l3), (5, .int l5), (10, .int l10), (11, .int l11), (12, .int l12), (13, kr E l13), (14, .int l14), (15, .int l15), (16, .int l16), (17, .int l17)] [.int s0] := by
  unfold L_law_714 at h
  refine r_istore (L2 := [(22, .int s0), (0, .ref b), (1, kr E l1), (2, kr E l2), (3, .int l3), (5, .int l5), (10, .int l10), (11, .int l11), (12, .int l12), (13, kr E l13), (14, .int l14), (15, .int l15), (16, .int l16), (17, .int l17)]) hX dL_law_714 (by decide) rfl ?_
  refine r_iload hX dL_law_716 0 rfl ?_
  refine r_if_ne (tgt := 723) hX dL_law_718 (by decide) h ?_ ?_
  · clear h; intro h
    exact absurd (show (none : Option (Unit × kdM)) = some (r, σ1) from h) (by simp)
  · clear h; intro h
    refine r_iincL (L2 := fun t1 => [(17, .int t1), (22, .int s0), (0, .ref b), (1, kr E l1), (2, kr E l2), (3, .int l3), (5, .int l5), (10, .int l10), (11, .int l11), (12, .int l12), (13, kr E l13), (14, .int l14), (15, .int l15), (16, .int l16)]) hX dL_law_723 h 13 rfl (by decide) (fun _ => rfl) ?_
    clear h; intro t1 h
    refine r_goto (tgt := 565) hX dL_law_726 (by decide) ?_
    refine r_sub [2, 3, 4, 5, 6, 7, 8, 9, 10, 11, 12, 13, 0] rfl ?_
    exact hk565 _ _ _ _ _ _ _ _ _ _ _ _ _ h
def L_law_709 (G : kdS) (xs : Nat → Int32) (N : Nat) (k565 : Nat → Nat → Int32 → Int32 → Int32 → Int32 → Int32 → Nat → Int32 → Int32 → Int32 → Int32 → kdM → Option (Unit × kdM)) (k776 : Nat → Nat → Int32 → Int32 → Int32 → Int32 → Int32 → Nat → Int32 → kdM → Option (Unit × kdM)) (l1 : Nat) (l2 : Nat) (l3 : Int32) (l5 : Int32) (l10 : Int32) (l11 : Int32) (l12 : Int32) (l13 : Nat) (l14 : Int32) (l15 : Int32) (l16 : Int32) (l17 : Int32) : kdM → Option (Unit × kdM) :=
  L_law_714 G xs N k565 k776 l1 l2 l3 l5 l10 l11 l12 l13 l14 l15 l16 l17 (1 : Int32)
set_option maxRecDepth 100000 in
set_option maxHeartbeats 4000000 in
theorem wL_law_709 {E : kdE} {G : kdS} {A : kdA} {z : Nat × Nat} {b N : Nat} {xs : Nat → Int32} {r : Unit} {σ1 : kdM} (hX : kdX E A cL_law 29 RL (some .boolean) 8) (hLw : kdLw E A b N xs) (hro : kdRO A z.1 z.2) (hLe : kdLe A b z) (hLs : kdLs E A) (k565 : Nat → Nat → Int32 → Int32 → Int32 → Int32 → Int32 → Nat → Int32 → Int32 → Int32 → Int32 → kdM → Option (Unit × kdM)) (k776 : Nat → Nat → Int32 → Int32 → Int32 → Int32 → Int32 → Nat → Int32 → kdM → Option (Unit × kdM)) (hk565 : ∀ (l1 : Nat) (l2 : Nat) (l3 : Int32) (l5 : Int32) (l10 : Int32) (l11 : Int32) (l12 : Int32) (l13 : Nat) (l14 : Int32) (l15 : Int32) (l16 : Int32) (l17 : Int32) (σ : kdM), k565 l1 l2 l3 l5 l10 l11 l12 l13 l14 l15 l16 l17 σ = some (r, σ1) → SW E G (.inr z) A 29 σ 565 [(0, .ref b), (1, kr E l1), (2, kr E l2), (3, .int l3), (5, .int l5), (10, .int l10), (11, .int l11), (12, .int l12), (13, kr E l13), (14, .int l14), (15, .int l15), (16, .int l16), (17, .int l17)] []) (hk776 : ∀ (l1 : Nat) (l2 : Nat) (l3 : Int32) (l5 : Int32) (l10 : Int32) (l11 : Int32) (l12 : Int32) (l13 : Nat) (l17 : Int32) (σ : kdM), k776 l1 l2 l3 l5 l10 l11 l12 l13 l17 σ = some (r, σ1) → SW E G (.inr z) A 29 σ 776 [(0, .ref b), (1, kr E l1), (2, kr E l2), (3, .int l3), (5, .int l5), (10, .int l10), (11, .int l11), (12, .int l12), (13, kr E l13), (17, .int l17)] []) {l1 : Nat} {l2 : Nat} {l3 : Int32} {l5 : Int32} {l10 : Int32} {l11 : Int32} {l12 : Int32} {l13 : Nat} {l14 : Int32} {l15 : Int32} {l16 : Int32} {l17 : Int32} {σ : kdM} (h : L_law_709 G xs N k565 k776 l1 l2 l3 l5 l10 l11 l12 l13 l14 l15 l16 l17 σ = some (r, σ1)) : SW E G (.inr z) A 29 σ 709 [(0, .ref b), (1, kr E l1), (2, kr E l2), (3, .int l3), (5, .int l5), (10, .int l10), (11, .int l11), (12, .int l12), (13, kr E l13), (14, .int l14), (15, .int l15), (16, .int l16), (17, .int l17)] [] := by
  unfold L_law_709 at h
  refine r_iconst hX dL_law_709 kk_i_1 ?_
  refine r_goto (tgt := 714) hX dL_law_710 (by decide) ?_
  refine r_sub [0, 1, 2, 3, 4, 5, 6, 7, 8, 9, 10, 11, 12] rfl ?_
  exact wL_law_714 hX hLw hro hLe hLs k565 k776 hk565 hk776 h
def L_law_713 (G : kdS) (xs : Nat → Int32) (N : Nat) (k565 : Nat → Nat → Int32 → Int32 → Int32 → Int32 → Int32 → Nat → Int32 → Int32 → Int32 → Int32 → kdM → Option (Unit × kdM)) (k776 : Nat → Nat → Int32 → Int32 → Int32 → Int32 → Int32 → Nat → Int32 → kdM → Option (Unit × kdM)) (l1 : Nat) (l2 : Nat) (l3 : Int32) (l5 : Int32) (l10 : Int32) (l11 : Int32) (l12 : Int32) (l13 : Nat) (l14 : Int32) (l15 : Int32) (l16 : Int32) (l17 : Int32) : kdM → Option (Unit × kdM) :=
  L_law_714 G xs N k565 k776 l1 l2 l3 l5 l10 l11 l12 l13 l14 l15 l16 l17 (0 : Int32)
set_option maxRecDepth 100000 in
set_option maxHeartbeats 4000000 in
theorem wL_law_713 {E : kdE} {G : kdS} {A : kdA} {z : Nat × Nat} {b N : Nat} {xs : Nat → Int32} {r : Unit} {σ1 : kdM} (hX : kdX E A cL_law 29 RL (some .boolean) 8) (hLw : kdLw E A b N xs) (hro : kdRO A z.1 z.2) (hLe : kdLe A b z) (hLs : kdLs E A) (k565 : Nat → Nat → Int32 → Int32 → Int32 → Int32 → Int32 → Nat → Int32 → Int32 → Int32 → Int32 → kdM → Option (Unit × kdM)) (k776 : Nat → Nat → Int32 → Int32 → Int32 → Int32 → Int32 → Nat → Int32 → kdM → Option (Unit × kdM)) (hk565 : ∀ (l1 : Nat) (l2 : Nat) (l3 : Int32) (l5 : Int32) (l10 : Int32) (l11 : Int32) (l12 : Int32) (l13 : Nat) (l14 : Int32) (l15 : Int32) (l16 : Int32) (l17 : Int32) (σ : kdM), k565 l1 l2 l3 l5 l10 l11 l12 l13 l14 l15 l16 l17 σ = some (r, σ1) → SW E G (.inr z) A 29 σ 565 [(0, .ref b), (1, kr E l1), (2, kr E l2), (3, .int l3), (5, .int l5), (10, .int l10), (11, .int l11), (12, .int l12), (13, kr E l13), (14, .int l14), (15, .int l15), (16, .int l16), (17, .int l17)] []) (hk776 : ∀ (l1 : Nat) (l2 : Nat) (l3 : Int32) (l5 : Int32) (l10 : Int32) (l11 : Int32) (l12 : Int32) (l13 : Nat) (l17 : Int32) (σ : kdM), k776 l1 l2 l3 l5 l10 l11 l12 l13 l17 σ = some (r, σ1) → SW E G (.inr z) A 29 σ 776 [(0, .ref b), (1, kr E l1), (2, kr E l2), (3, .int l3), (5, .int l5), (10, .int l10), (11, .int l11), (12, .int l12), (13, kr E l13), (17, .int l17)] []) {l1 : Nat} {l2 : Nat} {l3 : Int32} {l5 : Int32} {l10 : Int32} {l11 : Int32} {l12 : Int32} {l13 : Nat} {l14 : Int32} {l15 : Int32} {l16 : Int32} {l17 : Int32} {σ : kdM} (h : L_law_713 G xs N k565 k776 l1 l2 l3 l5 l10 l11 l12 l13 l14 l15 l16 l17 σ = some (r, σ1)) : SW E G (.inr z) A 29 σ 713 [(0, .ref b), (1, kr E l1), (2, kr E l2), (3, .int l3), (5, .int l5), (10, .int l10), (11, .int l11), (12, .int l12), (13, kr E l13), (14, .int l14), (15, .int l15), (16, .int l16), (17, .int l17)] [] := by
  unfold L_law_713 at h
  refine r_iconst hX dL_law_713 kk_i_0 ?_
  refine r_sub [0, 1, 2, 3, 4, 5, 6, 7, 8, 9, 10, 11, 12] rfl ?_
  exact wL_law_714 hX hLw hro hLe hLs k565 k776 hk565 hk776 h
def L_law_749 (G : kdS) (xs : Nat → Int32) (N : Nat) (k776 : Nat → Nat → Int32 → Int32 → Int32 → Int32 → Int32 → Nat → Int32 → kdM → Option (Unit × kdM)) : kdM → Option (Unit × kdM) :=
  fun _ => none
set_option maxRecDepth 100000 in
set_option maxHeartbeats 4000000 in
theorem wL_law_749 {E : kdE} {G : kdS} {A : kdA} {z : Nat × Nat} {b N : Nat} {xs : Nat → Int32} {r : Unit} {σ1 : kdM} (hX : kdX E A cL_law 29 RL (some .boolean) 8) (hLw : kdLw E A b N xs) (hro : kdRO A z.1 z.2) (hLe : kdLe A b z) (hLs : kdLs E A) (k776 : Nat → Nat → Int32 → Int32 → Int32 → Int32 → Int32 → Nat → Int32 → kdM → Option (Unit × kdM)) (hk776 : ∀ (l1 : Nat) (l2 : Nat) (l3 : Int32) (l5 : Int32) (l10 : Int32) (l11 : Int32) (l12 : Int32) (l13 : Nat) (l17 : Int32) (σ : kdM), k776 l1 l2 l3 l5 l10 l11 l12 l13 l17 σ = some (r, σ1) → SW E G (.inr z) A 29 σ 776 [(0, .ref b), (1, kr E l1), (2, kr E l2), (3, .int l3), (5, .int l5), (10, .int l10), (11, .int l11), (12, .int l12), (13, kr E l13), (17, .int l17)] []) {σ : kdM} (h : L_law_749 G xs N k776  σ = some (r, σ1)) : SW E G (.inr z) A 29 σ 749 [(0, .ref b)] [] := by
  unfold L_law_749 at h
  exact absurd (show (none : Option (Unit × kdM)) = some (r, σ1) from h) (by simp)
def L_law_565B (G : kdS) (xs : Nat → Int32) (N : Nat) (k776 : Nat → Nat → Int32 → Int32 → Int32 → Int32 → Int32 → Nat → Int32 → kdM → Option (Unit × kdM)) (k565 : Nat → Nat → Int32 → Int32 → Int32 → Int32 → Int32 → Nat → Int32 → Int32 → Int32 → Int32 → kdM → Option (Unit × kdM)) (l1 : Nat) (l2 : Nat) (l3 : Int32) (l5 : Int32) (l10 : Int32) (l11 : Int32) (l12 : Int32) (l13 : Nat) (l14 : Int32) (l15 : Int32) (l16 : Int32) (l17 : Int32) : kdM → Option (Unit × kdM) :=
  cnd (l16 ≤ (l17 + (1 : Int32)))
    (kcv G 11 l1 (X11_guess G l1 (7 : Int32) (60 : Int32) (-1 : Int32)) fun t1 =>
    cnd (l16 = t1)
      (cnd ((1 : Int32) ≤ l14)
        (kcl (L_cell G xs N (180 : Int32) (1000000 : Int32)) fun t2 =>
        ltI (((1 : Int32) + t2)) fun t3 =>
        kcv G 11 l1 (X11_seed G l1 t3) fun t4 =>
        cnd (t4 = (1 : Int32))
          (k776 l1 l2 l3 l5 l10 l11 l12 l13 t3)
          (fun _ => none))
        (L_law_749 G xs N k776 ))
      (L_law_749 G xs N k776 ))
    (kcv G 11 l1 (X11_mine G l1 l15 l12 (7 : Int32) (60 : Int32) l17) fun t5 =>
    kcv G 11 l1 (X11_mine G l1 l15 l12 (7 : Int32) (60 : Int32) (l17 + (1 : Int32))) fun t6 =>
    kcv G 11 l1 (X11_ofWord G l1 t5 (2 : Int32)) fun t7 =>
    aI G l13 ((((8 : Int32) * l15) + t5)) fun t8 =>
    ltI ((((1000 : Int32) * t7) + t8)) fun t9 =>
    kcv G 11 l1 (X11_ofWord G l1 t6 (2 : Int32)) fun t10 =>
    aI G l13 ((((8 : Int32) * l15) + t6)) fun t11 =>
    ltI ((((1000 : Int32) * t10) + t11)) fun t12 =>
    kcv G 11 l1 (X11_slip G l1 t5) fun t13 =>
    kcv G 11 l1 (X11_slip G l1 t6) fun t14 =>
    cnd (t13 < t14)
      (L_law_709 G xs N k565 k776 l1 l2 l3 l5 l10 l11 l12 l13 l14 l15 l16 l17)
      (kcv G 11 l1 (X11_slip G l1 t5) fun t15 =>
      kcv G 11 l1 (X11_slip G l1 t6) fun t16 =>
      cnd (t15 = t16)
        (cnd (t12 < t9)
          (L_law_709 G xs N k565 k776 l1 l2 l3 l5 l10 l11 l12 l13 l14 l15 l16 l17)
          (cnd (t9 = t12)
            (cnd (t6 ≤ t5)
              (L_law_713 G xs N k565 k776 l1 l2 l3 l5 l10 l11 l12 l13 l14 l15 l16 l17)
              (L_law_709 G xs N k565 k776 l1 l2 l3 l5 l10 l11 l12 l13 l14 l15 l16 l17))
            (L_law_713 G xs N k565 k776 l1 l2 l3 l5 l10 l11 l12 l13 l14 l15 l16 l17)))
        (L_law_713 G xs N k565 k776 l1 l2 l3 l5 l10 l11 l12 l13 l14 l15 l16 l17)))
set_option maxRecDepth 100000 in
set_option maxHeartbeats 4000000 in
theorem wL_law_565B {E : kdE} {G : kdS} {A : kdA} {z : Nat × Nat} {b N : Nat} {xs : Nat → Int32} {r : Unit} {σ1 : kdM} (hX : kdX E A cL_law 29 RL (some .boolean) 8) (hLw : kdLw E A b N xs) (hro : kdRO A z.1 z.2) (hLe : kdLe A b z) (hLs : kdLs E A) (k776 : Nat → Nat → Int32 → Int32 → Int32 → Int32 → Int32 → Nat → Int32 → kdM → Option (Unit × kdM)) (k565 : Nat → Nat → Int32 → Int32 → Int32 → Int32 → Int32 → Nat → Int32 → Int32 → Int32 → Int32 → kdM → Option (Unit × kdM)) (hk776 : ∀ (l1 : Nat) (l2 : Nat) (l3 : Int32) (l5 : Int32) (l10 : Int32) (l11 : Int32) (l12 : Int32) (l13 : Nat) (l17 : Int32) (σ : kdM), k776 l1 l2 l3 l5 l10 l11 l12 l13 l17 σ = some (r, σ1) → SW E G (.inr z) A 29 σ 776 [(0, .ref b), (1, kr E l1), (2, kr E l2), (3, .int l3), (5, .int l5), (10, .int l10), (11, .int l11), (12, .int l12), (13, kr E l13), (17, .int l17)] []) (hk565 : ∀ (l1 : Nat) (l2 : Nat) (l3 : Int32) (l5 : Int32) (l10 : Int32) (l11 : Int32) (l12 : Int32) (l13 : Nat) (l14 : Int32) (l15 : Int32) (l16 : Int32) (l17 : Int32) (σ : kdM), k565 l1 l2 l3 l5 l10 l11 l12 l13 l14 l15 l16 l17 σ = some (r, σ1) → SW E G (.inr z) A 29 σ 565 [(0, .ref b), (1, kr E l1), (2, kr E l2), (3, .int l3), (5, .int l5), (10, .int l10), (11, .int l11), (12, .int l12), (13, kr E l13), (14, .int l14), (15, .int l15), (16, .int l16), (17, .int l17)] []) {l1 : Nat} {l2 : Nat} {l3 : Int32} {l5 : Int32} {l10 : Int32} {l11 : Int32} {l12 : Int32} {l13 : Nat} {l14 : Int32} {l15 : Int32} {l16 : Int32} {l17 : Int32} {σ : kdM} (h : L_law_565B G xs N k776 k565 l1 l2 l3 l5 l10 l11 l12 l13 l14 l15 l16 l17 σ = some (r, σ1)) : SW E G (.inr z) A 29 σ 565 [(0, .ref b), (1, kr E l1), (2, kr E l2), (3, .int l3), (5, .int l5), (10, .int l10), (11, .int l11), (12, .int l12), (13, kr E l13), (14, .int l14), (15, .int l15), (16, .int l16), (17, .int l17)] [] := by
  unfold L_law_565B at h
  refine r_iload hX dL_law_565 12 rfl ?_
  refine r_iconst hX dL_law_567 kk_i_1 ?_
  refine r_iadd hX dL_law_568 ?_
  refine r_iload hX dL_law_569 11 rfl ?_
  refine r_icmp_ge (tgt := 729) hX dL_law_571 (by decide) h ?_ ?_
  · clear h; intro h
    refine r_iload hX dL_law_729 11 rfl ?_
    refine r_aload_n hX dL_law_731 rfl 1 rfl ?_
    refine r_bipush hX dL_law_732 kk_b_7 ?_
    refine r_bipush hX dL_law_734 kk_b_60 ?_
    refine r_iconst hX dL_law_736 kk_i_m1 ?_
    refine r_cVi (As := [.int (7 : Int32), .int (60 : Int32), .int (-1 : Int32)]) (st := [.int l16]) hX dL_law_737 kl_X11_guess w_ml_L_56 w_im_X11_guess w_se_X11_guess ⟨_, _, rfl⟩ (by decide) rfl (Nat.le_of_ble_eq_true rfl) rfl hro h (fun r σ1 h => wX11_guess h) ?_
    clear h; intro t1 σ h
    refine r_icmp_ne (tgt := 749) hX dL_law_740 (by decide) h ?_ ?_
    · clear h; intro h
      refine r_iload hX dL_law_743 9 rfl ?_
      refine r_iconst hX dL_law_745 kk_i_1 ?_
      refine r_icmp_ge (tgt := 751) hX dL_law_746 (by decide) h ?_ ?_
      · clear h; intro h
        refine r_iconst hX dL_law_751 kk_i_1 ?_
        refine r_sload hX dL_law_752 rfl 0 rfl ?_
        refine r_sipush hX dL_law_753 kk_s_180 ?_
        refine r_ldc hX dL_law_756 w_ct_L_59 ?_
        refine r_cSs (As := [.ref b, .int (180 : Int32), .int (1000000 : Int32)]) (st := [.int (1 : Int32)]) hX hLw dL_law_758 kl_L_cell w_ml_L_14 w_st_L_cell (by decide) rfl (Nat.le_of_ble_eq_true rfl) rfl hro h (fun r σ1 h => wL_cell (kdLw_b hLw) h) ?_
        clear h; intro t2 σ h
        refine r_iadd hX dL_law_761 ?_
        refine r_letI h ?_
        clear h; intro t3 h
        refine r_istore (L2 := [(17, .int t3), (0, .ref b), (1, kr E l1), (2, kr E l2), (3, .int l3), (5, .int l5), (10, .int l10), (11, .int l11), (12, .int l12), (13, kr E l13), (14, .int l14), (15, .int l15), (16, .int l16)]) hX dL_law_762 (by decide) rfl ?_
        refine r_aload_n hX dL_law_764 rfl 2 rfl ?_
        refine r_iload hX dL_law_765 0 rfl ?_
        refine r_cVi (As := [.int t3]) (st := []) hX dL_law_767 kl_X11_seed w_ml_L_60 w_im_X11_seed w_se_X11_seed ⟨_, _, rfl⟩ (by decide) rfl (Nat.le_of_ble_eq_true rfl) rfl hro h (fun r σ1 h => wX11_seed h) ?_
        clear h; intro t4 σ h
        refine r_iconst hX dL_law_770 kk_i_1 ?_
        refine r_icmp_eq (tgt := 776) hX dL_law_771 (by decide) h ?_ ?_
        · clear h; intro h
          refine r_sub [1, 2, 3, 4, 5, 6, 7, 8, 9, 0] rfl ?_
          exact hk776 _ _ _ _ _ _ _ _ _ _ h
        · clear h; intro h
          exact absurd (show (none : Option (Unit × kdM)) = some (r, σ1) from h) (by simp)
      · clear h; intro h
        refine r_sub [0] rfl ?_
        exact wL_law_749 hX hLw hro hLe hLs k776 hk776 h
    · clear h; intro h
      refine r_sub [0] rfl ?_
      exact wL_law_749 hX hLw hro hLe hLs k776 hk776 h
  · clear h; intro h
    refine r_aload_n hX dL_law_574 rfl 1 rfl ?_
    refine r_iload hX dL_law_575 10 rfl ?_
    refine r_iload hX dL_law_577 7 rfl ?_
    refine r_bipush hX dL_law_579 kk_b_7 ?_
    refine r_bipush hX dL_law_581 kk_b_60 ?_
    refine r_iload hX dL_law_583 12 rfl ?_
    refine r_cVi (As := [.int l15, .int l12, .int (7 : Int32), .int (60 : Int32), .int l17]) (st := []) hX dL_law_585 kl_X11_mine w_ml_L_45 w_im_X11_mine w_se_X11_mine ⟨_, _, rfl⟩ (by decide) rfl (Nat.le_of_ble_eq_true rfl) rfl hro h (fun r σ1 h => wX11_mine h) ?_
    clear h; intro t5 σ h
    refine r_istore (L2 := [(18, .int t5), (0, .ref b), (1, kr E l1), (2, kr E l2), (3, .int l3), (5, .int l5), (10, .int l10), (11, .int l11), (12, .int l12), (13, kr E l13), (14, .int l14), (15, .int l15), (16, .int l16), (17, .int l17)]) hX dL_law_588 (by decide) rfl ?_
    refine r_aload_n hX dL_law_590 rfl 2 rfl ?_
    refine r_iload hX dL_law_591 11 rfl ?_
    refine r_iload hX dL_law_593 8 rfl ?_
    refine r_bipush hX dL_law_595 kk_b_7 ?_
    refine r_bipush hX dL_law_597 kk_b_60 ?_
    refine r_iload hX dL_law_599 13 rfl ?_
    refine r_iconst hX dL_law_601 kk_i_1 ?_
    refine r_iadd hX dL_law_602 ?_
    refine r_cVi (As := [.int l15, .int l12, .int (7 : Int32), .int (60 : Int32), .int (l17 + (1 : Int32))]) (st := []) hX dL_law_603 kl_X11_mine w_ml_L_45 w_im_X11_mine w_se_X11_mine ⟨_, _, rfl⟩ (by decide) rfl (Nat.le_of_ble_eq_true rfl) rfl hro h (fun r σ1 h => wX11_mine h) ?_
    clear h; intro t6 σ h
    refine r_istore (L2 := [(19, .int t6), (18, .int t5), (0, .ref b), (1, kr E l1), (2, kr E l2), (3, .int l3), (5, .int l5), (10, .int l10), (11, .int l11), (12, .int l12), (13, kr E l13), (14, .int l14), (15, .int l15), (16, .int l16), (17, .int l17)]) hX dL_law_606 (by decide) rfl ?_
    refine r_sipush hX dL_law_608 kk_s_1000 ?_
    refine r_aload_n hX dL_law_611 rfl 3 rfl ?_
    refine r_iload hX dL_law_612 1 rfl ?_
    refine r_iconst hX dL_law_614 kk_i_2 ?_
    refine r_cVi (As := [.int t5, .int (2 : Int32)]) (st := [.int (1000 : Int32)]) hX dL_law_615 kl_X11_ofWord w_ml_L_49 w_im_X11_ofWord w_se_X11_ofWord ⟨_, _, rfl⟩ (by decide) rfl (Nat.le_of_ble_eq_true rfl) rfl hro h (fun r σ1 h => wX11_ofWord h) ?_
    clear h; intro t7 σ h
    refine r_imul hX dL_law_618 ?_
    refine r_aload hX dL_law_619 10 rfl ?_
    refine r_bipush hX dL_law_621 kk_b_8 ?_
    refine r_iload hX dL_law_623 12 rfl ?_
    refine r_imul hX dL_law_625 ?_
    refine r_iload hX dL_law_626 1 rfl ?_
    refine r_iadd hX dL_law_628 ?_
    refine r_aI hX dL_law_629 h ?_
    clear h; intro t8 h
    refine r_iadd hX dL_law_630 ?_
    refine r_letI h ?_
    clear h; intro t9 h
    refine r_istore (L2 := [(20, .int t9), (19, .int t6), (18, .int t5), (0, .ref b), (1, kr E l1), (2, kr E l2), (3, .int l3), (5, .int l5), (10, .int l10), (11, .int l11), (12, .int l12), (13, kr E l13), (14, .int l14), (15, .int l15), (16, .int l16), (17, .int l17)]) hX dL_law_631 (by decide) rfl ?_
    refine r_sipush hX dL_law_633 kk_s_1000 ?_
    refine r_aload_n hX dL_law_636 rfl 4 rfl ?_
    refine r_iload hX dL_law_637 1 rfl ?_
    refine r_iconst hX dL_law_639 kk_i_2 ?_
    refine r_cVi (As := [.int t6, .int (2 : Int32)]) (st := [.int (1000 : Int32)]) hX dL_law_640 kl_X11_ofWord w_ml_L_49 w_im_X11_ofWord w_se_X11_ofWord ⟨_, _, rfl⟩ (by decide) rfl (Nat.le_of_ble_eq_true rfl) rfl hro h (fun r σ1 h => wX11_ofWord h) ?_
    clear h; intro t10 σ h
    refine r_imul hX dL_law_643 ?_
    refine r_aload hX dL_law_644 11 rfl ?_
    refine r_bipush hX dL_law_646 kk_b_8 ?_
    refine r_iload hX dL_law_648 13 rfl ?_
    refine r_imul hX dL_law_650 ?_
    refine r_iload hX dL_law_651 1 rfl ?_
    refine r_iadd hX dL_law_653 ?_
    refine r_aI hX dL_law_654 h ?_
    clear h; intro t11 h
    refine r_iadd hX dL_law_655 ?_
    refine r_letI h ?_
    clear h; intro t12 h
    refine r_istore (L2 := [(21, .int t12), (20, .int t9), (19, .int t6), (18, .int t5), (0, .ref b), (1, kr E l1), (2, kr E l2), (3, .int l3), (5, .int l5), (10, .int l10), (11, .int l11), (12, .int l12), (13, kr E l13), (14, .int l14), (15, .int l15), (16, .int l16), (17, .int l17)]) hX dL_law_656 (by decide) rfl ?_
    refine r_aload_n hX dL_law_658 rfl 5 rfl ?_
    refine r_iload hX dL_law_659 3 rfl ?_
    refine r_cVi (As := [.int t5]) (st := []) hX dL_law_661 kl_X11_slip w_ml_L_53 w_im_X11_slip w_se_X11_slip ⟨_, _, rfl⟩ (by decide) rfl (Nat.le_of_ble_eq_true rfl) rfl hro h (fun r σ1 h => wX11_slip h) ?_
    clear h; intro t13 σ h
    refine r_aload_n hX dL_law_664 rfl 5 rfl ?_
    refine r_iload hX dL_law_665 2 rfl ?_
    refine r_cVi (As := [.int t6]) (st := [.int t13]) hX dL_law_667 kl_X11_slip w_ml_L_53 w_im_X11_slip w_se_X11_slip ⟨_, _, rfl⟩ (by decide) rfl (Nat.le_of_ble_eq_true rfl) rfl hro h (fun r σ1 h => wX11_slip h) ?_
    clear h; intro t14 σ h
    refine r_icmp_lt (tgt := 709) hX dL_law_670 (by decide) h ?_ ?_
    · clear h; intro h
      refine r_sub [4, 5, 6, 7, 8, 9, 10, 11, 12, 13, 14, 15, 16] rfl ?_
      exact wL_law_709 hX hLw hro hLe hLs k565 k776 hk565 hk776 h
    · clear h; intro h
      refine r_aload_n hX dL_law_673 rfl 5 rfl ?_
      refine r_iload hX dL_law_674 3 rfl ?_
      refine r_cVi (As := [.int t5]) (st := []) hX dL_law_676 kl_X11_slip w_ml_L_53 w_im_X11_slip w_se_X11_slip ⟨_, _, rfl⟩ (by decide) rfl (Nat.le_of_ble_eq_true rfl) rfl hro h (fun r σ1 h => wX11_slip h) ?_
      clear h; intro t15 σ h
      refine r_aload_n hX dL_law_679 rfl 5 rfl ?_
      refine r_iload hX dL_law_680 2 rfl ?_
      refine r_cVi (As := [.int t6]) (st := [.int t15]) hX dL_law_682 kl_X11_slip w_ml_L_53 w_im_X11_slip w_se_X11_slip ⟨_, _, rfl⟩ (by decide) rfl (Nat.le_of_ble_eq_true rfl) rfl hro h (fun r σ1 h => wX11_slip h) ?_
      clear h; intro t16 σ h
      refine r_icmp_ne (tgt := 713) hX dL_law_685 (by decide) h ?_ ?_
      · clear h; intro h
        refine r_iload hX dL_law_688 1 rfl ?_
        refine r_iload hX dL_law_690 0 rfl ?_
        refine r_icmp_gt (tgt := 709) hX dL_law_692 (by decide) h ?_ ?_
        · clear h; intro h
          refine r_sub [4, 5, 6, 7, 8, 9, 10, 11, 12, 13, 14, 15, 16] rfl ?_
          exact wL_law_709 hX hLw hro hLe hLs k565 k776 hk565 hk776 h
        · clear h; intro h
          refine r_iload hX dL_law_695 1 rfl ?_
          refine r_iload hX dL_law_697 0 rfl ?_
          refine r_icmp_ne (tgt := 713) hX dL_law_699 (by decide) h ?_ ?_
          · clear h; intro h
            refine r_iload hX dL_law_702 3 rfl ?_
            refine r_iload hX dL_law_704 2 rfl ?_
            refine r_icmp_ge (tgt := 713) hX dL_law_706 (by decide) h ?_ ?_
            · clear h; intro h
              refine r_sub [4, 5, 6, 7, 8, 9, 10, 11, 12, 13, 14, 15, 16] rfl ?_
              exact wL_law_713 hX hLw hro hLe hLs k565 k776 hk565 hk776 h
            · clear h; intro h
              refine r_sub [4, 5, 6, 7, 8, 9, 10, 11, 12, 13, 14, 15, 16] rfl ?_
              exact wL_law_709 hX hLw hro hLe hLs k565 k776 hk565 hk776 h
          · clear h; intro h
            refine r_sub [4, 5, 6, 7, 8, 9, 10, 11, 12, 13, 14, 15, 16] rfl ?_
            exact wL_law_713 hX hLw hro hLe hLs k565 k776 hk565 hk776 h
      · clear h; intro h
        refine r_sub [4, 5, 6, 7, 8, 9, 10, 11, 12, 13, 14, 15, 16] rfl ?_
        exact wL_law_713 hX hLw hro hLe hLs k565 k776 hk565 hk776 h
def L_law_565 (G : kdS) (xs : Nat → Int32) (N : Nat) (k776 : Nat → Nat → Int32 → Int32 → Int32 → Int32 → Int32 → Nat → Int32 → kdM → Option (Unit × kdM)) : Nat → Nat → Int32 → Int32 → Int32 → Int32 → Int32 → Nat → Int32 → Int32 → Int32 → Int32 → kdM → Option (Unit × kdM) := lp (fun _ _ _ _ _ _ _ _ _ _ _ _ _ => none) (L_law_565B G xs N k776) NN
theorem wL_law_565 {E : kdE} {G : kdS} {A : kdA} {z : Nat × Nat} {b N : Nat} {xs : Nat → Int32} {r : Unit} {σ1 : kdM} (hX : kdX E A cL_law 29 RL (some .boolean) 8) (hLw : kdLw E A b N xs) (hro : kdRO A z.1 z.2) (hLe : kdLe A b z) (hLs : kdLs E A) (k776 : Nat → Nat → Int32 → Int32 → Int32 → Int32 → Int32 → Nat → Int32 → kdM → Option (Unit × kdM)) (hk776 : ∀ (l1 : Nat) (l2 : Nat) (l3 : Int32) (l5 : Int32) (l10 : Int32) (l11 : Int32) (l12 : Int32) (l13 : Nat) (l17 : Int32) (σ : kdM), k776 l1 l2 l3 l5 l10 l11 l12 l13 l17 σ = some (r, σ1) → SW E G (.inr z) A 29 σ 776 [(0, .ref b), (1, kr E l1), (2, kr E l2), (3, .int l3), (5, .int l5), (10, .int l10), (11, .int l11), (12, .int l12), (13, kr E l13), (17, .int l17)] []) : ∀ (l1 : Nat) (l2 : Nat) (l3 : Int32) (l5 : Int32) (l10 : Int32) (l11 : Int32) (l12 : Int32) (l13 : Nat) (l14 : Int32) (l15 : Int32) (l16 : Int32) (l17 : Int32) (σ : kdM), L_law_565 G xs N k776 l1 l2 l3 l5 l10 l11 l12 l13 l14 l15 l16 l17 σ = some (r, σ1) → SW E G (.inr z) A 29 σ 565 [(0, .ref b), (1, kr E l1), (2, kr E l2), (3, .int l3), (5, .int l5), (10, .int l10), (11, .int l11), (12, .int l12), (13, kr E l13), (14, .int l14), (15, .int l15), (16, .int l16), (17, .int l17)] [] :=
  lp_ind (Q := fun f => ∀ (l1 : Nat) (l2 : Nat) (l3 : Int32) (l5 : Int32) (l10 : Int32) (l11 : Int32) (l12 : Int32) (l13 : Nat) (l14 : Int32) (l15 : Int32) (l16 : Int32) (l17 : Int32) (σ : kdM), f l1 l2 l3 l5 l10 l11 l12 l13 l14 l15 l16 l17 σ = some (r, σ1) → SW E G (.inr z) A 29 σ 565 [(0, .ref b), (1, kr E l1), (2, kr E l2), (3, .int l3), (5, .int l5), (10, .int l10), (11, .int l11), (12, .int l12), (13, kr E l13), (14, .int l14), (15, .int l15), (16, .int l16), (17, .int l17)] []) (by intros; contradiction) (fun k hk l1 l2 l3 l5 l10 l11 l12 l13 l14 l15 l16 l17 σ h => wL_law_565B hX hLw hro hLe hLs k776 k hk776 hk h) NN
def L_law_363B (G : kdS) (xs : Nat → Int32) (N : Nat) (k776 : Nat → Nat → Int32 → Int32 → Int32 → Int32 → Int32 → Nat → Int32 → kdM → Option (Unit × kdM)) (k363 : Nat → Nat → Int32 → Int32 → Int32 → Nat → Nat → Nat → Int32 → Int32 → Int32 → Nat → Int32 → kdM → Option (Unit × kdM)) (l1 : Nat) (l2 : Nat) (l3 : Int32) (l4 : Int32) (l5 : Int32) (l6 : Nat) (l7 : Nat) (l8 : Nat) (l10 : Int32) (l11 : Int32) (l12 : Int32) (l13 : Nat) (l14 : Int32) : kdM → Option (Unit × kdM) :=
  cnd ((4 : Int32) ≤ l14)
    (kcl (L_cell G xs N (169 : Int32) (4 : Int32)) fun t1 =>
    kcl (L_keys G xs N l1 (170 : Int32) ((1 : Int32) + t1) (4 : Int32)) fun t2 =>
    kcl (L_cell G xs N (175 : Int32) (4 : Int32)) fun t3 =>
    kcv G 11 l1 (X11_mine G l1 t3 l12 (7 : Int32) (60 : Int32) (-1 : Int32)) fun t4 =>
    L_law_565 G xs N k776 l1 l2 l3 l5 l10 l11 l12 l13 t2 t3 t4 (0 : Int32))
    (L_law_372 G xs N k363 k776 l1 l2 l3 l4 l5 l6 l7 l8 l10 l11 l12 l13 l14 (0 : Int32))
set_option maxRecDepth 100000 in
set_option maxHeartbeats 4000000 in
theorem wL_law_363B {E : kdE} {G : kdS} {A : kdA} {z : Nat × Nat} {b N : Nat} {xs : Nat → Int32} {r : Unit} {σ1 : kdM} (hX : kdX E A cL_law 29 RL (some .boolean) 8) (hLw : kdLw E A b N xs) (hro : kdRO A z.1 z.2) (hLe : kdLe A b z) (hLs : kdLs E A) (k776 : Nat → Nat → Int32 → Int32 → Int32 → Int32 → Int32 → Nat → Int32 → kdM → Option (Unit × kdM)) (k363 : Nat → Nat → Int32 → Int32 → Int32 → Nat → Nat → Nat → Int32 → Int32 → Int32 → Nat → Int32 → kdM → Option (Unit × kdM)) (hk776 : ∀ (l1 : Nat) (l2 : Nat) (l3 : Int32) (l5 : Int32) (l10 : Int32) (l11 : Int32) (l12 : Int32) (l13 : Nat) (l17 : Int32) (σ : kdM), k776 l1 l2 l3 l5 l10 l11 l12 l13 l17 σ = some (r, σ1) → SW E G (.inr z) A 29 σ 776 [(0, .ref b), (1, kr E l1), (2, kr E l2), (3, .int l3), (5, .int l5), (10, .int l10), (11, .int l11), (12, .int l12), (13, kr E l13), (17, .int l17)] []) (hk363 : ∀ (l1 : Nat) (l2 : Nat) (l3 : Int32) (l4 : Int32) (l5 : Int32) (l6 : Nat) (l7 : Nat) (l8 : Nat) (l10 : Int32) (l11 : Int32) (l12 : Int32) (l13 : Nat) (l14 : Int32) (σ : kdM), k363 l1 l2 l3 l4 l5 l6 l7 l8 l10 l11 l12 l13 l14 σ = some (r, σ1) → SW E G (.inr z) A 29 σ 363 [(0, .ref b), (1, kr E l1), (2, kr E l2), (3, .int l3), (4, .int l4), (5, .int l5), (6, kr E l6), (7, kr E l7), (8, kr E l8), (10, .int l10), (11, .int l11), (12, .int l12), (13, kr E l13), (14, .int l14)] []) {l1 : Nat} {l2 : Nat} {l3 : Int32} {l4 : Int32} {l5 : Int32} {l6 : Nat} {l7 : Nat} {l8 : Nat} {l10 : Int32} {l11 : Int32} {l12 : Int32} {l13 : Nat} {l14 : Int32} {σ : kdM} (h : L_law_363B G xs N k776 k363 l1 l2 l3 l4 l5 l6 l7 l8 l10 l11 l12 l13 l14 σ = some (r, σ1)) : SW E G (.inr z) A 29 σ 363 [(0, .ref b), (1, kr E l1), (2, kr E l2), (3, .int l3), (4, .int l4), (5, .int l5), (6, kr E l6), (7, kr E l7), (8, kr E l8), (10, .int l10), (11, .int l11), (12, .int l12), (13, kr E l13), (14, .int l14)] [] := by
  unfold L_law_363B at h
  refine r_iload hX dL_law_363 13 rfl ?_
  refine r_iconst hX dL_law_365 kk_i_4 ?_
  refine r_icmp_ge (tgt := 516) hX dL_law_366 (by decide) h ?_ ?_
  · clear h; intro h
    refine r_aload_n hX dL_law_516 rfl 1 rfl ?_
    refine r_sload hX dL_law_517 rfl 0 rfl ?_
    refine r_sipush hX dL_law_518 kk_s_170 ?_
    refine r_iconst hX dL_law_521 kk_i_1 ?_
    refine r_sload hX dL_law_522 rfl 0 rfl ?_
    refine r_sipush hX dL_law_523 kk_s_169 ?_
    refine r_iconst hX dL_law_526 kk_i_4 ?_
    refine r_cSs (As := [.ref b, .int (169 : Int32), .int (4 : Int32)]) (st := [.int (1 : Int32), .int (170 : Int32), .ref b, kr E l1]) hX hLw dL_law_527 kl_L_cell w_ml_L_14 w_st_L_cell (by decide) rfl (Nat.le_of_ble_eq_true rfl) rfl hro h (fun r σ1 h => wL_cell (kdLw_b hLw) h) ?_
    clear h; intro t1 σ h
    refine r_iadd hX dL_law_530 ?_
    refine r_iconst hX dL_law_531 kk_i_4 ?_
    refine r_cSs (As := [kr E l1, .ref b, .int (170 : Int32), .int ((1 : Int32) + t1), .int (4 : Int32)]) (st := []) hX hLw dL_law_532 kl_L_keys w_ml_L_23 w_st_L_keys (by decide) rfl (Nat.le_of_ble_eq_true rfl) rfl hro h (fun r σ1 h => wL_keys (kdLw_b hLw) h) ?_
    clear h; intro t2 σ h
    refine r_istore (L2 := [(14, .int t2), (0, .ref b), (1, kr E l1), (2, kr E l2), (3, .int l3), (4, .int l4), (5, .int l5), (6, kr E l6), (7, kr E l7), (8, kr E l8), (10, .int l10), (11, .int l11), (12, .int l12), (13, kr E l13)]) hX dL_law_535 (by decide) rfl ?_
    refine r_sload hX dL_law_537 rfl 1 rfl ?_
    refine r_sipush hX dL_law_538 kk_s_175 ?_
    refine r_iconst hX dL_law_541 kk_i_4 ?_
    refine r_cSs (As := [.ref b, .int (175 : Int32), .int (4 : Int32)]) (st := []) hX hLw dL_law_542 kl_L_cell w_ml_L_14 w_st_L_cell (by decide) rfl (Nat.le_of_ble_eq_true rfl) rfl hro h (fun r σ1 h => wL_cell (kdLw_b hLw) h) ?_
    clear h; intro t3 σ h
    refine r_istore (L2 := [(15, .int t3), (14, .int t2), (0, .ref b), (1, kr E l1), (2, kr E l2), (3, .int l3), (4, .int l4), (5, .int l5), (6, kr E l6), (7, kr E l7), (8, kr E l8), (10, .int l10), (11, .int l11), (12, .int l12), (13, kr E l13)]) hX dL_law_545 (by decide) rfl ?_
    refine r_aload_n hX dL_law_547 rfl 3 rfl ?_
    refine r_iload hX dL_law_548 0 rfl ?_
    refine r_iload hX dL_law_550 13 rfl ?_
    refine r_bipush hX dL_law_552 kk_b_7 ?_
    refine r_bipush hX dL_law_554 kk_b_60 ?_
    refine r_iconst hX dL_law_556 kk_i_m1 ?_
    refine r_cVi (As := [.int t3, .int l12, .int (7 : Int32), .int (60 : Int32), .int (-1 : Int32)]) (st := []) hX dL_law_557 kl_X11_mine w_ml_L_45 w_im_X11_mine w_se_X11_mine ⟨_, _, rfl⟩ (by decide) rfl (Nat.le_of_ble_eq_true rfl) rfl hro h (fun r σ1 h => wX11_mine h) ?_
    clear h; intro t4 σ h
    refine r_istore (L2 := [(16, .int t4), (15, .int t3), (14, .int t2), (0, .ref b), (1, kr E l1), (2, kr E l2), (3, .int l3), (4, .int l4), (5, .int l5), (6, kr E l6), (7, kr E l7), (8, kr E l8), (10, .int l10), (11, .int l11), (12, .int l12), (13, kr E l13)]) hX dL_law_560 (by decide) rfl ?_
    refine r_iconst hX dL_law_562 kk_i_0 ?_
    refine r_istore (L2 := [(17, .int (0 : Int32)), (16, .int t4), (15, .int t3), (14, .int t2), (0, .ref b), (1, kr E l1), (2, kr E l2), (3, .int l3), (4, .int l4), (5, .int l5), (6, kr E l6), (7, kr E l7), (8, kr E l8), (10, .int l10), (11, .int l11), (12, .int l12), (13, kr E l13)]) hX dL_law_563 (by decide) rfl ?_
    refine r_sub [4, 5, 6, 7, 9, 13, 14, 15, 16, 3, 2, 1, 0] rfl ?_
    exact wL_law_565 hX hLw hro hLe hLs k776 hk776 _ _ _ _ _ _ _ _ _ _ _ _ _ h
  · clear h; intro h
    refine r_iconst hX dL_law_369 kk_i_0 ?_
    refine r_istore (L2 := [(15, .int (0 : Int32)), (0, .ref b), (1, kr E l1), (2, kr E l2), (3, .int l3), (4, .int l4), (5, .int l5), (6, kr E l6), (7, kr E l7), (8, kr E l8), (10, .int l10), (11, .int l11), (12, .int l12), (13, kr E l13), (14, .int l14)]) hX dL_law_370 (by decide) rfl ?_
    refine r_sub [1, 2, 3, 4, 5, 6, 7, 8, 9, 10, 11, 12, 13, 14, 0] rfl ?_
    exact wL_law_372 hX hLw hro hLe hLs k363 k776 hk363 hk776 _ _ _ _ _ _ _ _ _ _ _ _ _ _ _ h
def L_law_363 (G : kdS) (xs : Nat → Int32) (N : Nat) (k776 : Nat → Nat → Int32 → Int32 → Int32 → Int32 → Int32 → Nat → Int32 → kdM → Option (Unit × kdM)) : Nat → Nat → Int32 → Int32 → Int32 → Nat → Nat → Nat → Int32 → Int32 → Int32 → Nat → Int32 → kdM → Option (Unit × kdM) := lp (fun _ _ _ _ _ _ _ _ _ _ _ _ _ _ => none) (L_law_363B G xs N k776) NN
theorem wL_law_363 {E : kdE} {G : kdS} {A : kdA} {z : Nat × Nat} {b N : Nat} {xs : Nat → Int32} {r : Unit} {σ1 : kdM} (hX : kdX E A cL_law 29 RL (some .boolean) 8) (hLw : kdLw E A b N xs) (hro : kdRO A z.1 z.2) (hLe : kdLe A b z) (hLs : kdLs E A) (k776 : Nat → Nat → Int32 → Int32 → Int32 → Int32 → Int32 → Nat → Int32 → kdM → Option (Unit × kdM)) (hk776 : ∀ (l1 : Nat) (l2 : Nat) (l3 : Int32) (l5 : Int32) (l10 : Int32) (l11 : Int32) (l12 : Int32) (l13 : Nat) (l17 : Int32) (σ : kdM), k776 l1 l2 l3 l5 l10 l11 l12 l13 l17 σ = some (r, σ1) → SW E G (.inr z) A 29 σ 776 [(0, .ref b), (1, kr E l1), (2, kr E l2), (3, .int l3), (5, .int l5), (10, .int l10), (11, .int l11), (12, .int l12), (13, kr E l13), (17, .int l17)] []) : ∀ (l1 : Nat) (l2 : Nat) (l3 : Int32) (l4 : Int32) (l5 : Int32) (l6 : Nat) (l7 : Nat) (l8 : Nat) (l10 : Int32) (l11 : Int32) (l12 : Int32) (l13 : Nat) (l14 : Int32) (σ : kdM), L_law_363 G xs N k776 l1 l2 l3 l4 l5 l6 l7 l8 l10 l11 l12 l13 l14 σ = some (r, σ1) → SW E G (.inr z) A 29 σ 363 [(0, .ref b), (1, kr E l1), (2, kr E l2), (3, .int l3), (4, .int l4), (5, .int l5), (6, kr E l6), (7, kr E l7), (8, kr E l8), (10, .int l10), (11, .int l11), (12, .int l12), (13, kr E l13), (14, .int l14)] [] :=
  lp_ind (Q := fun f => ∀ (l1 : Nat) (l2 : Nat) (l3 : Int32) (l4 : Int32) (l5 : Int32) (l6 : Nat) (l7 : Nat) (l8 : Nat) (l10 : Int32) (l11 : Int32) (l12 : Int32) (l13 : Nat) (l14 : Int32) (σ : kdM), f l1 l2 l3 l4 l5 l6 l7 l8 l10 l11 l12 l13 l14 σ = some (r, σ1) → SW E G (.inr z) A 29 σ 363 [(0, .ref b), (1, kr E l1), (2, kr E l2), (3, .int l3), (4, .int l4), (5, .int l5), (6, kr E l6), (7, kr E l7), (8, kr E l8), (10, .int l10), (11, .int l11), (12, .int l12), (13, kr E l13), (14, .int l14)] []) (by intros; contradiction) (fun k hk l1 l2 l3 l4 l5 l6 l7 l8 l10 l11 l12 l13 l14 σ h => wL_law_363B hX hLw hro hLe hLs k776 k hk776 hk h) NN
def L_law_s3 (G : kdS) (xs : Nat → Int32) (N : Nat) (k776 : Nat → Nat → Int32 → Int32 → Int32 → Int32 → Int32 → Nat → Int32 → kdM → Option (Unit × kdM)) (l1 : Nat) (l2 : Nat) (l3 : Int32) (l4 : Int32) (l5 : Int32) (l6 : Nat) (l7 : Nat) (l8 : Nat) (l10 : Int32) (l11 : Int32) (l12 : Int32) (l13 : Nat) : kdM → Option (Unit × kdM) :=
  L_law_363 G xs N k776 l1 l2 l3 l4 l5 l6 l7 l8 l10 l11 l12 l13 (0 : Int32)
set_option maxRecDepth 100000 in
set_option maxHeartbeats 4000000 in
theorem wL_law_s3 {E : kdE} {G : kdS} {A : kdA} {z : Nat × Nat} {b N : Nat} {xs : Nat → Int32} {r : Unit} {σ1 : kdM} (hX : kdX E A cL_law 29 RL (some .boolean) 8) (hLw : kdLw E A b N xs) (hro : kdRO A z.1 z.2) (hLe : kdLe A b z) (hLs : kdLs E A) (k776 : Nat → Nat → Int32 → Int32 → Int32 → Int32 → Int32 → Nat → Int32 → kdM → Option (Unit × kdM)) (hk776 : ∀ (l1 : Nat) (l2 : Nat) (l3 : Int32) (l5 : Int32) (l10 : Int32) (l11 : Int32) (l12 : Int32) (l13 : Nat) (l17 : Int32) (σ : kdM), k776 l1 l2 l3 l5 l10 l11 l12 l13 l17 σ = some (r, σ1) → SW E G (.inr z) A 29 σ 776 [(0, .ref b), (1, kr E l1), (2, kr E l2), (3, .int l3), (5, .int l5), (10, .int l10), (11, .int l11), (12, .int l12), (13, kr E l13), (17, .int l17)] []) {l1 : Nat} {l2 : Nat} {l3 : Int32} {l4 : Int32} {l5 : Int32} {l6 : Nat} {l7 : Nat} {l8 : Nat} {l10 : Int32} {l11 : Int32} {l12 : Int32} {l13 : Nat} {σ : kdM} (h : L_law_s3 G xs N k776 l1 l2 l3 l4 l5 l6 l7 l8 l10 l11 l12 l13 σ = some (r, σ1)) : SW E G (.inr z) A 29 σ 360 [(0, .ref b), (1, kr E l1), (2, kr E l2), (3, .int l3), (4, .int l4), (5, .int l5), (6, kr E l6), (7, kr E l7), (8, kr E l8), (10, .int l10), (11, .int l11), (12, .int l12), (13, kr E l13)] [] := by
  unfold L_law_s3 at h
  refine r_iconst hX dL_law_360 kk_i_0 ?_
  refine r_istore (L2 := [(14, .int (0 : Int32)), (0, .ref b), (1, kr E l1), (2, kr E l2), (3, .int l3), (4, .int l4), (5, .int l5), (6, kr E l6), (7, kr E l7), (8, kr E l8), (10, .int l10), (11, .int l11), (12, .int l12), (13, kr E l13)]) hX dL_law_361 (by decide) rfl ?_
  refine r_sub [1, 2, 3, 4, 5, 6, 7, 8, 9, 10, 11, 12, 13, 0] rfl ?_
  exact wL_law_363 hX hLw hro hLe hLs k776 hk776 _ _ _ _ _ _ _ _ _ _ _ _ _ _ h
def L_law_976 (G : kdS) (xs : Nat → Int32) (N : Nat) (k840 : Nat → Nat → Int32 → Int32 → Int32 → Int32 → Int32 → Nat → Nat → Int64 → Int32 → kdM → Option (Unit × kdM)) (k889 : Nat → Nat → Int32 → Int32 → Int32 → Int32 → Int32 → Nat → Nat → Int64 → Int32 → Int32 → Int32 → Int32 → Int32 → Int32 → kdM → Option (Unit × kdM)) (l1 : Nat) (l2 : Nat) (l3 : Int32) (l5 : Int32) (l10 : Int32) (l11 : Int32) (l12 : Int32) (l13 : Nat) (l18 : Nat) (l19 : Int64) (l21 : Int32) (l22 : Int32) (l23 : Int32) (l24 : Int32) (l26 : Int32) (s0 : Int32) (s1 : Int32) : kdM → Option (Unit × kdM) :=
  ltI ((s0 + s1)) fun t1 =>
  ltI (l26 + Int32.ofInt 1) fun t2 =>
  k889 l1 l2 l3 l5 l10 l11 l12 l13 l18 l19 l21 l22 l23 l24 t1 t2
set_option maxRecDepth 100000 in
set_option maxHeartbeats 4000000 in
theorem wL_law_976 {E : kdE} {G : kdS} {A : kdA} {z : Nat × Nat} {b N : Nat} {xs : Nat → Int32} {r : Unit} {σ1 : kdM} (hX : kdX E A cL_law 29 RL (some .boolean) 8) (hLw : kdLw E A b N xs) (hro : kdRO A z.1 z.2) (hLe : kdLe A b z) (hLs : kdLs E A) (k840 : Nat → Nat → Int32 → Int32 → Int32 → Int32 → Int32 → Nat → Nat → Int64 → Int32 → kdM → Option (Unit × kdM)) (k889 : Nat → Nat → Int32 → Int32 → Int32 → Int32 → Int32 → Nat → Nat → Int64 → Int32 → Int32 → Int32 → Int32 → Int32 → Int32 → kdM → Option (Unit × kdM)) (hk840 : ∀ (l1 : Nat) (l2 : Nat) (l3 : Int32) (l5 : Int32) (l10 : Int32) (l11 : Int32) (l12 : Int32) (l13 : Nat) (l18 : Nat) (l19 : Int64) (l21 : Int32) (σ : kdM), k840 l1 l2 l3 l5 l10 l11 l12 l13 l18 l19 l21 σ = some (r, σ1) → SW E G (.inr z) A 29 σ 840 [(0, .ref b), (1, kr E l1), (2, kr E l2), (3, .int l3), (5, .int l5), (10, .int l10), (11, .int l11), (12, .int l12), (13, kr E l13), (18, kr E l18), (19, .long l19), (21, .int l21)] []) (hk889 : ∀ (l1 : Nat) (l2 : Nat) (l3 : Int32) (l5 : Int32) (l10 : Int32) (l11 : Int32) (l12 : Int32) (l13 : Nat) (l18 : Nat) (l19 : Int64) (l21 : Int32) (l22 : Int32) (l23 : Int32) (l24 : Int32) (l25 : Int32) (l26 : Int32) (σ : kdM), k889 l1 l2 l3 l5 l10 l11 l12 l13 l18 l19 l21 l22 l23 l24 l25 l26 σ = some (r, σ1) → SW E G (.inr z) A 29 σ 889 [(0, .ref b), (1, kr E l1), (2, kr E l2), (3, .int l3), (5, .int l5), (10, .int l10), (11, .int l11), (12, .int l12), (13, kr E l13), (18, kr E l18), (19, .long l19), (21, .int l21), (22, .int l22), (23, .int l23), (24, .int l24), (25, .int l25), (26, .int l26)] []) {l1 : Nat} {l2 : Nat} {l3 : Int32} {l5 : Int32} {l10 : Int32} {l11 : Int32} {l12 : Int32} {l13 : Nat} {l18 : Nat} {l19 : Int64} {l21 : Int32} {l22 : Int32} {l23 : Int32} {l24 : Int32} {l26 : Int32} {s0 : Int32} {s1 : Int32} {σ : kdM} (h : L_law_976 G xs N k840 k889 l1 l2 l3 l5 l10 l11 l12 l13 l18 l19 l21 l22 l23 l24 l26 s0 s1 σ = some (r, σ1)) : SW E G (.inr z) A 29 σ 976 [(0, .ref b), (1, kr E l1), (2, kr E l2), (3, .int l3), (5, .int l5), (10, .int l10), (11, .int l11), (12, .int l12), (13, kr E l13), (18, kr E l18), (19, .long l19), (21, .int l21), (22, .int l22), (23, .int l23), (24, .int l24), (26, .int l26)] [.int s1, .int s0] := by
  unfold L_law_976 at h
  refine r_iadd hX dL_law_976 ?_
  refine r_letI h ?_
  clear h; intro t1 h
  refine r_istore (L2 := [(25, .int t1), (0, .ref b), (1, kr E l1), (2, kr E l2), (3, .int l3), (5, .int l5), (10, .int l10), (11, .int l11), (12, .int l12), (13, kr E l13), (18, kr E l18), (19, .long l19), (21, .int l21), (22, .int l22), (23, .int l23), (24, .int l24), (26, .int l26)]) hX dL_law_977 (by decide) rfl ?_
  refine r_iincL (L2 := fun t2 => [(26, .int t2), (25, .int t1), (0, .ref b), (1, kr E l1), (2, kr E l2), (3, .int l3), (5, .int l5), (10, .int l10), (11, .int l11), (12, .int l12), (13, kr E l13), (18, kr E l18), (19, .long l19), (21, .int l21), (22, .int l22), (23, .int l23), (24, .int l24)]) hX dL_law_979 h 16 rfl (by decide) (fun _ => rfl) ?_
  clear h; intro t2 h
  refine r_goto (tgt := 889) hX dL_law_982 (by decide) ?_
  refine r_sub [2, 3, 4, 5, 6, 7, 8, 9, 10, 11, 12, 13, 14, 15, 16, 1, 0] rfl ?_
  exact hk889 _ _ _ _ _ _ _ _ _ _ _ _ _ _ _ _ _ h
def L_law_961 (G : kdS) (xs : Nat → Int32) (N : Nat) (k840 : Nat → Nat → Int32 → Int32 → Int32 → Int32 → Int32 → Nat → Nat → Int64 → Int32 → kdM → Option (Unit × kdM)) (k889 : Nat → Nat → Int32 → Int32 → Int32 → Int32 → Int32 → Nat → Nat → Int64 → Int32 → Int32 → Int32 → Int32 → Int32 → Int32 → kdM → Option (Unit × kdM)) (l1 : Nat) (l2 : Nat) (l3 : Int32) (l5 : Int32) (l10 : Int32) (l11 : Int32) (l12 : Int32) (l13 : Nat) (l18 : Nat) (l19 : Int64) (l21 : Int32) (l22 : Int32) (l23 : Int32) (l24 : Int32) (l25 : Int32) (l26 : Int32) (l27 : Int32) (s0 : Int32) : kdM → Option (Unit × kdM) :=
  cnd (l27 = 0)
    (L_law_976 G xs N k840 k889 l1 l2 l3 l5 l10 l11 l12 l13 l18 l19 l21 l22 l23 l24 l26 l25 (0 : Int32))
    (L_law_976 G xs N k840 k889 l1 l2 l3 l5 l10 l11 l12 l13 l18 l19 l21 l22 l23 l24 l26 l25 s0)
set_option maxRecDepth 100000 in
set_option maxHeartbeats 4000000 in
theorem wL_law_961 {E : kdE} {G : kdS} {A : kdA} {z : Nat × Nat} {b N : Nat} {xs : Nat → Int32} {r : Unit} {σ1 : kdM} (hX : kdX E A cL_law 29 RL (some .boolean) 8) (hLw : kdLw E A b N xs) (hro : kdRO A z.1 z.2) (hLe : kdLe A b z) (hLs : kdLs E A) (k840 : Nat → Nat → Int32 → Int32 → Int32 → Int32 → Int32 → Nat → Nat → Int64 → Int32 → kdM → Option (Unit × kdM)) (k889 : Nat → Nat → Int32 → Int32 → Int32 → Int32 → Int32 → Nat → Nat → Int64 → Int32 → Int32 → Int32 → Int32 → Int32 → Int32 → kdM → Option (Unit × kdM)) (hk840 : ∀ (l1 : Nat) (l2 : Nat) (l3 : Int32) (l5 : Int32) (l10 : Int32) (l11 : Int32) (l12 : Int32) (l13 : Nat) (l18 : Nat) (l19 : Int64) (l21 : Int32) (σ : kdM), k840 l1 l2 l3 l5 l10 l11 l12 l13 l18 l19 l21 σ = some (r, σ1) → SW E G (.inr z) A 29 σ 840 [(0, .ref b), (1, kr E l1), (2, kr E l2), (3, .int l3), (5, .int l5), (10, .int l10), (11, .int l11), (12, .int l12), (13, kr E l13), (18, kr E l18), (19, .long l19), (21, .int l21)] []) (hk889 : ∀ (l1 : Nat) (l2 : Nat) (l3 : Int32) (l5 : Int32) (l10 : Int32) (l11 : Int32) (l12 : Int32) (l13 : Nat) (l18 : Nat) (l19 : Int64) (l21 : Int32) (l22 : Int32) (l23 : Int32) (l24 : Int32) (l25 : Int32) (l26 : Int32) (σ : kdM), k889 l1 l2 l3 l5 l10 l11 l12 l13 l18 l19 l21 l22 l23 l24 l25 l26 σ = some (r, σ1) → SW E G (.inr z) A 29 σ 889 [(0, .ref b), (1, kr E l1), (2, kr E l2), (3, .int l3), (5, .int l5), (10, .int l10), (11, .int l11), (12, .int l12), (13, kr E l13), (18, kr E l18), (19, .long l19), (21, .int l21), (22, .int l22), (23, .int l23), (24, .int l24), (25, .int l25), (26, .int l26)] []) {l1 : Nat} {l2 : Nat} {l3 : Int32} {l5 : Int32} {l10 : Int32} {l11 : Int32} {l12 : Int32} {l13 : Nat} {l18 : Nat} {l19 : Int64} {l21 : Int32} {l22 : Int32} {l23 : Int32} {l24 : Int32} {l25 : Int32} {l26 : Int32} {l27 : Int32} {s0 : Int32} {σ : kdM} (h : L_law_961 G xs N k840 k889 l1 l2 l3 l5 l10 l11 l12 l13 l18 l19 l21 l22 l23 l24 l25 l26 l27 s0 σ = some (r, σ1)) : SW E G (.inr z) A 29 σ 961 [(0, .ref b), (1, kr E l1), (2, kr E l2), (3, .int l3), (5, .int l5), (10, .int l10), (11, .int l11), (12, .int l12), (13, kr E l13), (18, kr E l18), (19, .long l19), (21, .int l21), (22, .int l22), (23, .int l23), (24, .int l24), (25, .int l25), (26, .int l26), (27, .int l27)] [.int s0] := by
  unfold L_law_961 at h
  refine r_istore (L2 := [(28, .int s0), (0, .ref b), (1, kr E l1), (2, kr E l2), (3, .int l3), (5, .int l5), (10, .int l10), (11, .int l11), (12, .int l12), (13, kr E l13), (18, kr E l18), (19, .long l19), (21, .int l21), (22, .int l22), (23, .int l23), (24, .int l24), (25, .int l25), (26, .int l26), (27, .int l27)]) hX dL_law_961 (by decide) rfl ?_
  refine r_iload hX dL_law_963 16 rfl ?_
  refine r_iload hX dL_law_965 18 rfl ?_
  refine r_if_eq (tgt := 975) hX dL_law_967 (by decide) h ?_ ?_
  · clear h; intro h
    refine r_iconst hX dL_law_975 kk_i_0 ?_
    refine r_sub [1, 2, 3, 4, 5, 6, 7, 8, 9, 10, 11, 12, 13, 14, 15, 17] rfl ?_
    exact wL_law_976 hX hLw hro hLe hLs k840 k889 hk840 hk889 h
  · clear h; intro h
    refine r_iload hX dL_law_970 0 rfl ?_
    refine r_goto (tgt := 976) hX dL_law_972 (by decide) ?_
    refine r_sub [1, 2, 3, 4, 5, 6, 7, 8, 9, 10, 11, 12, 13, 14, 15, 17] rfl ?_
    exact wL_law_976 hX hLw hro hLe hLs k840 k889 hk840 hk889 h
def L_law_924 (G : kdS) (xs : Nat → Int32) (N : Nat) (k840 : Nat → Nat → Int32 → Int32 → Int32 → Int32 → Int32 → Nat → Nat → Int64 → Int32 → kdM → Option (Unit × kdM)) (k889 : Nat → Nat → Int32 → Int32 → Int32 → Int32 → Int32 → Nat → Nat → Int64 → Int32 → Int32 → Int32 → Int32 → Int32 → Int32 → kdM → Option (Unit × kdM)) (l1 : Nat) (l2 : Nat) (l3 : Int32) (l5 : Int32) (l10 : Int32) (l11 : Int32) (l12 : Int32) (l13 : Nat) (l18 : Nat) (l19 : Int64) (l21 : Int32) (l22 : Int32) (l23 : Int32) (l25 : Int32) (l26 : Int32) (l27 : Int32) (s0 : Int32) (s1 : Int32) : kdM → Option (Unit × kdM) :=
  ltI ((s0 + s1)) fun t1 =>
  aI G l13 ((((8 : Int32) * l26) + l23)) fun t2 =>
  cnd (t2 ≤ (5000 : Int32))
    (aI G l13 ((((8 : Int32) * l26) + l23)) fun t3 =>
    L_law_961 G xs N k840 k889 l1 l2 l3 l5 l10 l11 l12 l13 l18 l19 l21 l22 l23 t1 l25 l26 l27 t3)
    (L_law_961 G xs N k840 k889 l1 l2 l3 l5 l10 l11 l12 l13 l18 l19 l21 l22 l23 t1 l25 l26 l27 (5000 : Int32))
set_option maxRecDepth 100000 in
set_option maxHeartbeats 4000000 in
theorem wL_law_924 {E : kdE} {G : kdS} {A : kdA} {z : Nat × Nat} {b N : Nat} {xs : Nat → Int32} {r : Unit} {σ1 : kdM} (hX : kdX E A cL_law 29 RL (some .boolean) 8) (hLw : kdLw E A b N xs) (hro : kdRO A z.1 z.2) (hLe : kdLe A b z) (hLs : kdLs E A) (k840 : Nat → Nat → Int32 → Int32 → Int32 → Int32 → Int32 → Nat → Nat → Int64 → Int32 → kdM → Option (Unit × kdM)) (k889 : Nat → Nat → Int32 → Int32 → Int32 → Int32 → Int32 → Nat → Nat → Int64 → Int32 → Int32 → Int32 → Int32 → Int32 → Int32 → kdM → Option (Unit × kdM)) (hk840 : ∀ (l1 : Nat) (l2 : Nat) (l3 : Int32) (l5 : Int32) (l10 : Int32) (l11 : Int32) (l12 : Int32) (l13 : Nat) (l18 : Nat) (l19 : Int64) (l21 : Int32) (σ : kdM), k840 l1 l2 l3 l5 l10 l11 l12 l13 l18 l19 l21 σ = some (r, σ1) → SW E G (.inr z) A 29 σ 840 [(0, .ref b), (1, kr E l1), (2, kr E l2), (3, .int l3), (5, .int l5), (10, .int l10), (11, .int l11), (12, .int l12), (13, kr E l13), (18, kr E l18), (19, .long l19), (21, .int l21)] []) (hk889 : ∀ (l1 : Nat) (l2 : Nat) (l3 : Int32) (l5 : Int32) (l10 : Int32) (l11 : Int32) (l12 : Int32) (l13 : Nat) (l18 : Nat) (l19 : Int64) (l21 : Int32) (l22 : Int32) (l23 : Int32) (l24 : Int32) (l25 : Int32) (l26 : Int32) (σ : kdM), k889 l1 l2 l3 l5 l10 l11 l12 l13 l18 l19 l21 l22 l23 l24 l25 l26 σ = some (r, σ1) → SW E G (.inr z) A 29 σ 889 [(0, .ref b), (1, kr E l1), (2, kr E l2), (3, .int l3), (5, .int l5), (10, .int l10), (11, .int l11), (12, .int l12), (13, kr E l13), (18, kr E l18), (19, .long l19), (21, .int l21), (22, .int l22), (23, .int l23), (24, .int l24), (25, .int l25), (26, .int l26)] []) {l1 : Nat} {l2 : Nat} {l3 : Int32} {l5 : Int32} {l10 : Int32} {l11 : Int32} {l12 : Int32} {l13 : Nat} {l18 : Nat} {l19 : Int64} {l21 : Int32} {l22 : Int32} {l23 : Int32} {l25 : Int32} {l26 : Int32} {l27 : Int32} {s0 : Int32} {s1 : Int32} {σ : kdM} (h : L_law_924 G xs N k840 k889 l1 l2 l3 l5 l10 l11 l12 l13 l18 l19 l21 l22 l23 l25 l26 l27 s0 s1 σ = some (r, σ1)) : SW E G (.inr z) A 29 σ 924 [(0, .ref b), (1, kr E l1), (2, kr E l2), (3, .int l3), (5, .int l5), (10, .int l10), (11, .int l11), (12, .int l12), (13, kr E l13), (18, kr E l18), (19, .long l19), (21, .int l21), (22, .int l22), (23, .int l23), (25, .int l25), (26, .int l26), (27, .int l27)] [.int s1, .int s0] := by
  unfold L_law_924 at h
  refine r_iadd hX dL_law_924 ?_
  refine r_letI h ?_
  clear h; intro t1 h
  refine r_istore (L2 := [(24, .int t1), (0, .ref b), (1, kr E l1), (2, kr E l2), (3, .int l3), (5, .int l5), (10, .int l10), (11, .int l11), (12, .int l12), (13, kr E l13), (18, kr E l18), (19, .long l19), (21, .int l21), (22, .int l22), (23, .int l23), (25, .int l25), (26, .int l26), (27, .int l27)]) hX dL_law_925 (by decide) rfl ?_
  refine r_aload hX dL_law_927 9 rfl ?_
  refine r_bipush hX dL_law_929 kk_b_8 ?_
  refine r_iload hX dL_law_931 16 rfl ?_
  refine r_imul hX dL_law_933 ?_
  refine r_iload hX dL_law_934 14 rfl ?_
  refine r_iadd hX dL_law_936 ?_
  refine r_aI hX dL_law_937 h ?_
  clear h; intro t2 h
  refine r_sipush hX dL_law_938 kk_s_5000 ?_
  refine r_icmp_le (tgt := 950) hX dL_law_941 (by decide) h ?_ ?_
  · clear h; intro h
    refine r_aload hX dL_law_950 9 rfl ?_
    refine r_bipush hX dL_law_952 kk_b_8 ?_
    refine r_iload hX dL_law_954 16 rfl ?_
    refine r_imul hX dL_law_956 ?_
    refine r_iload hX dL_law_957 14 rfl ?_
    refine r_iadd hX dL_law_959 ?_
    refine r_aI hX dL_law_960 h ?_
    clear h; intro t3 h
    refine r_sub [1, 2, 3, 4, 5, 6, 7, 8, 9, 10, 11, 12, 13, 14, 0, 15, 16, 17] rfl ?_
    exact wL_law_961 hX hLw hro hLe hLs k840 k889 hk840 hk889 h
  · clear h; intro h
    refine r_sipush hX dL_law_944 kk_s_5000 ?_
    refine r_goto (tgt := 961) hX dL_law_947 (by decide) ?_
    refine r_sub [1, 2, 3, 4, 5, 6, 7, 8, 9, 10, 11, 12, 13, 14, 0, 15, 16, 17] rfl ?_
    exact wL_law_961 hX hLw hro hLe hLs k840 k889 hk840 hk889 h
def L_law_910 (G : kdS) (xs : Nat → Int32) (N : Nat) (k840 : Nat → Nat → Int32 → Int32 → Int32 → Int32 → Int32 → Nat → Nat → Int64 → Int32 → kdM → Option (Unit × kdM)) (k889 : Nat → Nat → Int32 → Int32 → Int32 → Int32 → Int32 → Nat → Nat → Int64 → Int32 → Int32 → Int32 → Int32 → Int32 → Int32 → kdM → Option (Unit × kdM)) (l1 : Nat) (l2 : Nat) (l3 : Int32) (l5 : Int32) (l10 : Int32) (l11 : Int32) (l12 : Int32) (l13 : Nat) (l18 : Nat) (l19 : Int64) (l21 : Int32) (l22 : Int32) (l23 : Int32) (l24 : Int32) (l25 : Int32) (l26 : Int32) (s0 : Int32) : kdM → Option (Unit × kdM) :=
  cnd (s0 = 0)
    (L_law_924 G xs N k840 k889 l1 l2 l3 l5 l10 l11 l12 l13 l18 l19 l21 l22 l23 l25 l26 s0 l24 (0 : Int32))
    (L_law_924 G xs N k840 k889 l1 l2 l3 l5 l10 l11 l12 l13 l18 l19 l21 l22 l23 l25 l26 s0 l24 (1 : Int32))
set_option maxRecDepth 100000 in
set_option maxHeartbeats 4000000 in
theorem wL_law_910 {E : kdE} {G : kdS} {A : kdA} {z : Nat × Nat} {b N : Nat} {xs : Nat → Int32} {r : Unit} {σ1 : kdM} (hX : kdX E A cL_law 29 RL (some .boolean) 8) (hLw : kdLw E A b N xs) (hro : kdRO A z.1 z.2) (hLe : kdLe A b z) (hLs : kdLs E A) (k840 : Nat → Nat → Int32 → Int32 → Int32 → Int32 → Int32 → Nat → Nat → Int64 → Int32 → kdM → Option (Unit × kdM)) (k889 : Nat → Nat → Int32 → Int32 → Int32 → Int32 → Int32 → Nat → Nat → Int64 → Int32 → Int32 → Int32 → Int32 → Int32 → Int32 → kdM → Option (Unit × kdM)) (hk840 : ∀ (l1 : Nat) (l2 : Nat) (l3 : Int32) (l5 : Int32) (l10 : Int32) (l11 : Int32) (l12 : Int32) (l13 : Nat) (l18 : Nat) (l19 : Int64) (l21 : Int32) (σ : kdM), k840 l1 l2 l3 l5 l10 l11 l12 l13 l18 l19 l21 σ = some (r, σ1) → SW E G (.inr z) A 29 σ 840 [(0, .ref b), (1, kr E l1), (2, kr E l2), (3, .int l3), (5, .int l5), (10, .int l10), (11, .int l11), (12, .int l12), (13, kr E l13), (18, kr E l18), (19, .long l19), (21, .int l21)] []) (hk889 : ∀ (l1 : Nat) (l2 : Nat) (l3 : Int32) (l5 : Int32) (l10 : Int32) (l11 : Int32) (l12 : Int32) (l13 : Nat) (l18 : Nat) (l19 : Int64) (l21 : Int32) (l22 : Int32) (l23 : Int32) (l24 : Int32) (l25 : Int32) (l26 : Int32) (σ : kdM), k889 l1 l2 l3 l5 l10 l11 l12 l13 l18 l19 l21 l22 l23 l24 l25 l26 σ = some (r, σ1) → SW E G (.inr z) A 29 σ 889 [(0, .ref b), (1, kr E l1), (2, kr E l2), (3, .int l3), (5, .int l5), (10, .int l10), (11, .int l11), (12, .int l12), (13, kr E l13), (18, kr E l18), (19, .long l19), (21, .int l21), (22, .int l22), (23, .int l23), (24, .int l24), (25, .int l25), (26, .int l26)] []) {l1 : Nat} {l2 : Nat} {l3 : Int32} {l5 : Int32} {l10 : Int32} {l11 : Int32} {l12 : Int32} {l13 : Nat} {l18 : Nat} {l19 : Int64} {l21 : Int32} {l22 : Int32} {l23 : Int32} {l24 : Int32} {l25 : Int32} {l26 : Int32} {s0 : Int32} {σ : kdM} (h : L_law_910 G xs N k840 k889 l1 l2 l3 l5 l10 l11 l12 l13 l18 l19 l21 l22 l23 l24 l25 l26 s0 σ = some (r, σ1)) : SW E G (.inr z) A 29 σ 910 [(0, .ref b), (1, kr E l1), (2, kr E l2), (3, .int l3), (5, .int l5), (10, .int l10), (11, .int l11), (12, .int l12), (13, kr E l13), (18, kr E l18), (19, .long l19), (21, .int l21), (22, .int l22), (23, .int l23), (24, .int l24), (25, .int l25), (26, .int l26)] [.int s0] := by
  unfold L_law_910 at h
  refine r_istore (L2 := [(27, .int s0), (0, .ref b), (1, kr E l1), (2, kr E l2), (3, .int l3), (5, .int l5), (10, .int l10), (11, .int l11), (12, .int l12), (13, kr E l13), (18, kr E l18), (19, .long l19), (21, .int l21), (22, .int l22), (23, .int l23), (24, .int l24), (25, .int l25), (26, .int l26)]) hX dL_law_910 (by decide) rfl ?_
  refine r_iload hX dL_law_912 15 rfl ?_
  refine r_iload hX dL_law_914 0 rfl ?_
  refine r_if_eq (tgt := 923) hX dL_law_916 (by decide) h ?_ ?_
  · clear h; intro h
    refine r_iconst hX dL_law_923 kk_i_0 ?_
    refine r_sub [1, 2, 3, 4, 5, 6, 7, 8, 9, 10, 11, 12, 13, 14, 16, 17, 0] rfl ?_
    exact wL_law_924 hX hLw hro hLe hLs k840 k889 hk840 hk889 h
  · clear h; intro h
    refine r_iconst hX dL_law_919 kk_i_1 ?_
    refine r_goto (tgt := 924) hX dL_law_920 (by decide) ?_
    refine r_sub [1, 2, 3, 4, 5, 6, 7, 8, 9, 10, 11, 12, 13, 14, 16, 17, 0] rfl ?_
    exact wL_law_924 hX hLw hro hLe hLs k840 k889 hk840 hk889 h
def L_law_1113 (G : kdS) (xs : Nat → Int32) (N : Nat) (k840 : Nat → Nat → Int32 → Int32 → Int32 → Int32 → Int32 → Nat → Nat → Int64 → Int32 → kdM → Option (Unit × kdM)) (l1 : Nat) (l2 : Nat) (l3 : Int32) (l5 : Int32) (l10 : Int32) (l11 : Int32) (l12 : Int32) (l13 : Nat) (l18 : Nat) (l19 : Int64) (l21 : Int32) : kdM → Option (Unit × kdM) :=
  ltI (l21 + Int32.ofInt 1) fun t1 =>
  k840 l1 l2 l3 l5 l10 l11 l12 l13 l18 l19 t1
set_option maxRecDepth 100000 in
set_option maxHeartbeats 4000000 in
theorem wL_law_1113 {E : kdE} {G : kdS} {A : kdA} {z : Nat × Nat} {b N : Nat} {xs : Nat → Int32} {r : Unit} {σ1 : kdM} (hX : kdX E A cL_law 29 RL (some .boolean) 8) (hLw : kdLw E A b N xs) (hro : kdRO A z.1 z.2) (hLe : kdLe A b z) (hLs : kdLs E A) (k840 : Nat → Nat → Int32 → Int32 → Int32 → Int32 → Int32 → Nat → Nat → Int64 → Int32 → kdM → Option (Unit × kdM)) (hk840 : ∀ (l1 : Nat) (l2 : Nat) (l3 : Int32) (l5 : Int32) (l10 : Int32) (l11 : Int32) (l12 : Int32) (l13 : Nat) (l18 : Nat) (l19 : Int64) (l21 : Int32) (σ : kdM), k840 l1 l2 l3 l5 l10 l11 l12 l13 l18 l19 l21 σ = some (r, σ1) → SW E G (.inr z) A 29 σ 840 [(0, .ref b), (1, kr E l1), (2, kr E l2), (3, .int l3), (5, .int l5), (10, .int l10), (11, .int l11), (12, .int l12), (13, kr E l13), (18, kr E l18), (19, .long l19), (21, .int l21)] []) {l1 : Nat} {l2 : Nat} {l3 : Int32} {l5 : Int32} {l10 : Int32} {l11 : Int32} {l12 : Int32} {l13 : Nat} {l18 : Nat} {l19 : Int64} {l21 : Int32} {σ : kdM} (h : L_law_1113 G xs N k840 l1 l2 l3 l5 l10 l11 l12 l13 l18 l19 l21 σ = some (r, σ1)) : SW E G (.inr z) A 29 σ 1113 [(0, .ref b), (1, kr E l1), (2, kr E l2), (3, .int l3), (5, .int l5), (10, .int l10), (11, .int l11), (12, .int l12), (13, kr E l13), (18, kr E l18), (19, .long l19), (21, .int l21)] [] := by
  unfold L_law_1113 at h
  refine r_iincL (L2 := fun t1 => [(21, .int t1), (0, .ref b), (1, kr E l1), (2, kr E l2), (3, .int l3), (5, .int l5), (10, .int l10), (11, .int l11), (12, .int l12), (13, kr E l13), (18, kr E l18), (19, .long l19)]) hX dL_law_1113 h 11 rfl (by decide) (fun _ => rfl) ?_
  clear h; intro t1 h
  refine r_goto (tgt := 840) hX dL_law_1116 (by decide) ?_
  refine r_sub [1, 2, 3, 4, 5, 6, 7, 8, 9, 10, 11, 0] rfl ?_
  exact hk840 _ _ _ _ _ _ _ _ _ _ _ _ h
def L_law_1086 (G : kdS) (xs : Nat → Int32) (N : Nat) (k840 : Nat → Nat → Int32 → Int32 → Int32 → Int32 → Int32 → Nat → Nat → Int64 → Int32 → kdM → Option (Unit × kdM)) (k1058 : Nat → Nat → Int32 → Int32 → Int32 → Int32 → Int32 → Nat → Nat → Int64 → Int32 → Int32 → Int32 → kdM → Option (Unit × kdM)) (l1 : Nat) (l2 : Nat) (l3 : Int32) (l5 : Int32) (l10 : Int32) (l11 : Int32) (l12 : Int32) (l13 : Nat) (l18 : Nat) (l19 : Int64) (l21 : Int32) (l22 : Int32) (l28 : Int32) (s0 : Nat) (s1 : Int32) (s2 : Int32) (s3 : Int32) : kdM → Option (Unit × kdM) :=
  tI G s0 (s1) ((s2 - s3)) <|
  kcv G 11 l1 (X11_told G l1 ((30 : Int32) + l28)) fun t1 =>
  aI G l18 (l28) fun t2 =>
  cnd (t1 = t2)
    (ltI (l28 + Int32.ofInt 1) fun t3 =>
    k1058 l1 l2 l3 l5 l10 l11 l12 l13 l18 l19 l21 l22 t3)
    (fun _ => none)
set_option maxRecDepth 100000 in
set_option maxHeartbeats 4000000 in
theorem wL_law_1086 {E : kdE} {G : kdS} {A : kdA} {z : Nat × Nat} {b N : Nat} {xs : Nat → Int32} {r : Unit} {σ1 : kdM} (hX : kdX E A cL_law 29 RL (some .boolean) 8) (hLw : kdLw E A b N xs) (hro : kdRO A z.1 z.2) (hLe : kdLe A b z) (hLs : kdLs E A) (k840 : Nat → Nat → Int32 → Int32 → Int32 → Int32 → Int32 → Nat → Nat → Int64 → Int32 → kdM → Option (Unit × kdM)) (k1058 : Nat → Nat → Int32 → Int32 → Int32 → Int32 → Int32 → Nat → Nat → Int64 → Int32 → Int32 → Int32 → kdM → Option (Unit × kdM)) (hk840 : ∀ (l1 : Nat) (l2 : Nat) (l3 : Int32) (l5 : Int32) (l10 : Int32) (l11 : Int32) (l12 : Int32) (l13 : Nat) (l18 : Nat) (l19 : Int64) (l21 : Int32) (σ : kdM), k840 l1 l2 l3 l5 l10 l11 l12 l13 l18 l19 l21 σ = some (r, σ1) → SW E G (.inr z) A 29 σ 840 [(0, .ref b), (1, kr E l1), (2, kr E l2), (3, .int l3), (5, .int l5), (10, .int l10), (11, .int l11), (12, .int l12), (13, kr E l13), (18, kr E l18), (19, .long l19), (21, .int l21)] []) (hk1058 : ∀ (l1 : Nat) (l2 : Nat) (l3 : Int32) (l5 : Int32) (l10 : Int32) (l11 : Int32) (l12 : Int32) (l13 : Nat) (l18 : Nat) (l19 : Int64) (l21 : Int32) (l22 : Int32) (l28 : Int32) (σ : kdM), k1058 l1 l2 l3 l5 l10 l11 l12 l13 l18 l19 l21 l22 l28 σ = some (r, σ1) → SW E G (.inr z) A 29 σ 1058 [(0, .ref b), (1, kr E l1), (2, kr E l2), (3, .int l3), (5, .int l5), (10, .int l10), (11, .int l11), (12, .int l12), (13, kr E l13), (18, kr E l18), (19, .long l19), (21, .int l21), (22, .int l22), (28, .int l28)] []) {l1 : Nat} {l2 : Nat} {l3 : Int32} {l5 : Int32} {l10 : Int32} {l11 : Int32} {l12 : Int32} {l13 : Nat} {l18 : Nat} {l19 : Int64} {l21 : Int32} {l22 : Int32} {l28 : Int32} {s0 : Nat} {s1 : Int32} {s2 : Int32} {s3 : Int32} {σ : kdM} (h : L_law_1086 G xs N k840 k1058 l1 l2 l3 l5 l10 l11 l12 l13 l18 l19 l21 l22 l28 s0 s1 s2 s3 σ = some (r, σ1)) : SW E G (.inr z) A 29 σ 1086 [(0, .ref b), (1, kr E l1), (2, kr E l2), (3, .int l3), (5, .int l5), (10, .int l10), (11, .int l11), (12, .int l12), (13, kr E l13), (18, kr E l18), (19, .long l19), (21, .int l21), (22, .int l22), (28, .int l28)] [.int s3, .int s2, .int s1, kr E s0] := by
  unfold L_law_1086 at h
  refine r_isub hX dL_law_1086 ?_
  refine r_tI hX dL_law_1087 h ?_
  clear h; intro σ h
  refine r_aload_n hX dL_law_1088 rfl 1 rfl ?_
  refine r_bipush hX dL_law_1089 kk_b_30 ?_
  refine r_iload hX dL_law_1091 13 rfl ?_
  refine r_iadd hX dL_law_1093 ?_
  refine r_cVi (As := [.int ((30 : Int32) + l28)]) (st := []) hX dL_law_1094 kl_X11_told w_ml_L_8 w_im_X11_told w_se_X11_told ⟨_, _, rfl⟩ (by decide) rfl (Nat.le_of_ble_eq_true rfl) rfl hro h (fun r σ1 h => wX11_told h) ?_
  clear h; intro t1 σ h
  refine r_aload hX dL_law_1097 9 rfl ?_
  refine r_iload hX dL_law_1099 13 rfl ?_
  refine r_aI hX dL_law_1101 h ?_
  clear h; intro t2 h
  refine r_icmp_eq (tgt := 1107) hX dL_law_1102 (by decide) h ?_ ?_
  · clear h; intro h
    refine r_iincL (L2 := fun t3 => [(28, .int t3), (0, .ref b), (1, kr E l1), (2, kr E l2), (3, .int l3), (5, .int l5), (10, .int l10), (11, .int l11), (12, .int l12), (13, kr E l13), (18, kr E l18), (19, .long l19), (21, .int l21), (22, .int l22)]) hX dL_law_1107 h 13 rfl (by decide) (fun _ => rfl) ?_
    clear h; intro t3 h
    refine r_goto (tgt := 1058) hX dL_law_1110 (by decide) ?_
    refine r_sub [1, 2, 3, 4, 5, 6, 7, 8, 9, 10, 11, 12, 13, 0] rfl ?_
    exact hk1058 _ _ _ _ _ _ _ _ _ _ _ _ _ _ h
  · clear h; intro h
    exact absurd (show (none : Option (Unit × kdM)) = some (r, σ1) from h) (by simp)
def L_law_1058B (G : kdS) (xs : Nat → Int32) (N : Nat) (k840 : Nat → Nat → Int32 → Int32 → Int32 → Int32 → Int32 → Nat → Nat → Int64 → Int32 → kdM → Option (Unit × kdM)) (k1058 : Nat → Nat → Int32 → Int32 → Int32 → Int32 → Int32 → Nat → Nat → Int64 → Int32 → Int32 → Int32 → kdM → Option (Unit × kdM)) (l1 : Nat) (l2 : Nat) (l3 : Int32) (l5 : Int32) (l10 : Int32) (l11 : Int32) (l12 : Int32) (l13 : Nat) (l18 : Nat) (l19 : Int64) (l21 : Int32) (l22 : Int32) (l28 : Int32) : kdM → Option (Unit × kdM) :=
  cnd ((4 : Int32) ≤ l28)
    (L_law_1113 G xs N k840 l1 l2 l3 l5 l10 l11 l12 l13 l18 l19 l21)
    (aI G l18 (l28) fun t1 =>
    aI G l18 (l28) fun t2 =>
    cnd (t2 < l22)
      (L_law_1086 G xs N k840 k1058 l1 l2 l3 l5 l10 l11 l12 l13 l18 l19 l21 l22 l28 l18 l28 t1 (0 : Int32))
      (L_law_1086 G xs N k840 k1058 l1 l2 l3 l5 l10 l11 l12 l13 l18 l19 l21 l22 l28 l18 l28 t1 l22))
set_option maxRecDepth 100000 in
set_option maxHeartbeats 4000000 in
theorem wL_law_1058B {E : kdE} {G : kdS} {A : kdA} {z : Nat × Nat} {b N : Nat} {xs : Nat → Int32} {r : Unit} {σ1 : kdM} (hX : kdX E A cL_law 29 RL (some .boolean) 8) (hLw : kdLw E A b N xs) (hro : kdRO A z.1 z.2) (hLe : kdLe A b z) (hLs : kdLs E A) (k840 : Nat → Nat → Int32 → Int32 → Int32 → Int32 → Int32 → Nat → Nat → Int64 → Int32 → kdM → Option (Unit × kdM)) (k1058 : Nat → Nat → Int32 → Int32 → Int32 → Int32 → Int32 → Nat → Nat → Int64 → Int32 → Int32 → Int32 → kdM → Option (Unit × kdM)) (hk840 : ∀ (l1 : Nat) (l2 : Nat) (l3 : Int32) (l5 : Int32) (l10 : Int32) (l11 : Int32) (l12 : Int32) (l13 : Nat) (l18 : Nat) (l19 : Int64) (l21 : Int32) (σ : kdM), k840 l1 l2 l3 l5 l10 l11 l12 l13 l18 l19 l21 σ = some (r, σ1) → SW E G (.inr z) A 29 σ 840 [(0, .ref b), (1, kr E l1), (2, kr E l2), (3, .int l3), (5, .int l5), (10, .int l10), (11, .int l11), (12, .int l12), (13, kr E l13), (18, kr E l18), (19, .long l19), (21, .int l21)] []) (hk1058 : ∀ (l1 : Nat) (l2 : Nat) (l3 : Int32) (l5 : Int32) (l10 : Int32) (l11 : Int32) (l12 : Int32) (l13 : Nat) (l18 : Nat) (l19 : Int64) (l21 : Int32) (l22 : Int32) (l28 : Int32) (σ : kdM), k1058 l1 l2 l3 l5 l10 l11 l12 l13 l18 l19 l21 l22 l28 σ = some (r, σ1) → SW E G (.inr z) A 29 σ 1058 [(0, .ref b), (1, kr E l1), (2, kr E l2), (3, .int l3), (5, .int l5), (10, .int l10), (11, .int l11), (12, .int l12), (13, kr E l13), (18, kr E l18), (19, .long l19), (21, .int l21), (22, .int l22), (28, .int l28)] []) {l1 : Nat} {l2 : Nat} {l3 : Int32} {l5 : Int32} {l10 : Int32} {l11 : Int32} {l12 : Int32} {l13 : Nat} {l18 : Nat} {l19 : Int64} {l21 : Int32} {l22 : Int32} {l28 : Int32} {σ : kdM} (h : L_law_1058B G xs N k840 k1058 l1 l2 l3 l5 l10 l11 l12 l13 l18 l19 l21 l22 l28 σ = some (r, σ1)) : SW E G (.inr z) A 29 σ 1058 [(0, .ref b), (1, kr E l1), (2, kr E l2), (3, .int l3), (5, .int l5), (10, .int l10), (11, .int l11), (12, .int l12), (13, kr E l13), (18, kr E l18), (19, .long l19), (21, .int l21), (22, .int l22), (28, .int l28)] [] := by
  unfold L_law_1058B at h
  refine r_iload hX dL_law_1058 13 rfl ?_
  refine r_iconst hX dL_law_1060 kk_i_4 ?_
  refine r_icmp_ge (tgt := 1113) hX dL_law_1061 (by decide) h ?_ ?_
  · clear h; intro h
    refine r_sub [0, 1, 2, 3, 4, 5, 6, 7, 8, 9, 10, 11] rfl ?_
    exact wL_law_1113 hX hLw hro hLe hLs k840 hk840 h
  · clear h; intro h
    refine r_aload hX dL_law_1064 9 rfl ?_
    refine r_iload hX dL_law_1066 13 rfl ?_
    refine r_dup2 hX dL_law_1068 rfl rfl ?_
    refine r_aI hX dL_law_1069 h ?_
    clear h; intro t1 h
    refine r_aload hX dL_law_1070 9 rfl ?_
    refine r_iload hX dL_law_1072 13 rfl ?_
    refine r_aI hX dL_law_1074 h ?_
    clear h; intro t2 h
    refine r_iload hX dL_law_1075 12 rfl ?_
    refine r_icmp_lt (tgt := 1085) hX dL_law_1077 (by decide) h ?_ ?_
    · clear h; intro h
      refine r_iconst hX dL_law_1085 kk_i_0 ?_
      refine r_sub [0, 1, 2, 3, 4, 5, 6, 7, 8, 9, 10, 11, 12, 13] rfl ?_
      exact wL_law_1086 hX hLw hro hLe hLs k840 k1058 hk840 hk1058 h
    · clear h; intro h
      refine r_iload hX dL_law_1080 12 rfl ?_
      refine r_goto (tgt := 1086) hX dL_law_1082 (by decide) ?_
      refine r_sub [0, 1, 2, 3, 4, 5, 6, 7, 8, 9, 10, 11, 12, 13] rfl ?_
      exact wL_law_1086 hX hLw hro hLe hLs k840 k1058 hk840 hk1058 h
def L_law_1058 (G : kdS) (xs : Nat → Int32) (N : Nat) (k840 : Nat → Nat → Int32 → Int32 → Int32 → Int32 → Int32 → Nat → Nat → Int64 → Int32 → kdM → Option (Unit × kdM)) : Nat → Nat → Int32 → Int32 → Int32 → Int32 → Int32 → Nat → Nat → Int64 → Int32 → Int32 → Int32 → kdM → Option (Unit × kdM) := lp (fun _ _ _ _ _ _ _ _ _ _ _ _ _ _ => none) (L_law_1058B G xs N k840) NN
theorem wL_law_1058 {E : kdE} {G : kdS} {A : kdA} {z : Nat × Nat} {b N : Nat} {xs : Nat → Int32} {r : Unit} {σ1 : kdM} (hX : kdX E A cL_law 29 RL (some .boolean) 8) (hLw : kdLw E A b N xs) (hro : kdRO A z.1 z.2) (hLe : kdLe A b z) (hLs : kdLs E A) (k840 : Nat → Nat → Int32 → Int32 → Int32 → Int32 → Int32 → Nat → Nat → Int64 → Int32 → kdM → Option (Unit × kdM)) (hk840 : ∀ (l1 : Nat) (l2 : Nat) (l3 : Int32) (l5 : Int32) (l10 : Int32) (l11 : Int32) (l12 : Int32) (l13 : Nat) (l18 : Nat) (l19 : Int64) (l21 : Int32) (σ : kdM), k840 l1 l2 l3 l5 l10 l11 l12 l13 l18 l19 l21 σ = some (r, σ1) → SW E G (.inr z) A 29 σ 840 [(0, .ref b), (1, kr E l1), (2, kr E l2), (3, .int l3), (5, .int l5), (10, .int l10), (11, .int l11), (12, .int l12), (13, kr E l13), (18, kr E l18), (19, .long l19), (21, .int l21)] []) : ∀ (l1 : Nat) (l2 : Nat) (l3 : Int32) (l5 : Int32) (l10 : Int32) (l11 : Int32) (l12 : Int32) (l13 : Nat) (l18 : Nat) (l19 : Int64) (l21 : Int32) (l22 : Int32) (l28 : Int32) (σ : kdM), L_law_1058 G xs N k840 l1 l2 l3 l5 l10 l11 l12 l13 l18 l19 l21 l22 l28 σ = some (r, σ1) → SW E G (.inr z) A 29 σ 1058 [(0, .ref b), (1, kr E l1), (2, kr E l2), (3, .int l3), (5, .int l5), (10, .int l10), (11, .int l11), (12, .int l12), (13, kr E l13), (18, kr E l18), (19, .long l19), (21, .int l21), (22, .int l22), (28, .int l28)] [] :=
  lp_ind (Q := fun f => ∀ (l1 : Nat) (l2 : Nat) (l3 : Int32) (l5 : Int32) (l10 : Int32) (l11 : Int32) (l12 : Int32) (l13 : Nat) (l18 : Nat) (l19 : Int64) (l21 : Int32) (l22 : Int32) (l28 : Int32) (σ : kdM), f l1 l2 l3 l5 l10 l11 l12 l13 l18 l19 l21 l22 l28 σ = some (r, σ1) → SW E G (.inr z) A 29 σ 1058 [(0, .ref b), (1, kr E l1), (2, kr E l2), (3, .int l3), (5, .int l5), (10, .int l10), (11, .int l11), (12, .int l12), (13, kr E l13), (18, kr E l18), (19, .long l19), (21, .int l21), (22, .int l22), (28, .int l28)] []) (by intros; contradiction) (fun k hk l1 l2 l3 l5 l10 l11 l12 l13 l18 l19 l21 l22 l28 σ h => wL_law_1058B hX hLw hro hLe hLs k840 k hk840 hk h) NN
def L_law_889B (G : kdS) (xs : Nat → Int32) (N : Nat) (k840 : Nat → Nat → Int32 → Int32 → Int32 → Int32 → Int32 → Nat → Nat → Int64 → Int32 → kdM → Option (Unit × kdM)) (k889 : Nat → Nat → Int32 → Int32 → Int32 → Int32 → Int32 → Nat → Nat → Int64 → Int32 → Int32 → Int32 → Int32 → Int32 → Int32 → kdM → Option (Unit × kdM)) (l1 : Nat) (l2 : Nat) (l3 : Int32) (l5 : Int32) (l10 : Int32) (l11 : Int32) (l12 : Int32) (l13 : Nat) (l18 : Nat) (l19 : Int64) (l21 : Int32) (l22 : Int32) (l23 : Int32) (l24 : Int32) (l25 : Int32) (l26 : Int32) : kdM → Option (Unit × kdM) :=
  cnd ((4 : Int32) ≤ l26)
    (kcv G 11 l1 (X11_share G l1 l23 l22 l12) fun t1 =>
    cnd ((2 : Int32) ≤ l24)
      (nzL (2147483647 : Int64) <|
      ltL ((kremL (l19 * (16807 : Int64)) (2147483647 : Int64))) fun t2 =>
      nzL (2001 : Int64) <|
      ltI (((Int64.toInt32 (kremL t2 (2001 : Int64))) - (1000 : Int32))) fun t3 =>
      nz l22 <|
      cnd (t1 = (l25 + ((t3 * (100 : Int32)) / l22)))
        (L_law_1058 G xs N k840 l1 l2 l3 l5 l10 l11 l12 l13 l18 t2 l21 l22 (0 : Int32))
        (fun _ => none))
      (cnd (t1 = (-1000005 : Int32))
        (L_law_1113 G xs N k840 l1 l2 l3 l5 l10 l11 l12 l13 l18 l19 l21)
        (fun _ => none)))
    (aI G l18 (l26) fun t4 =>
    cnd (t4 < l22)
      (L_law_910 G xs N k840 k889 l1 l2 l3 l5 l10 l11 l12 l13 l18 l19 l21 l22 l23 l24 l25 l26 (0 : Int32))
      (L_law_910 G xs N k840 k889 l1 l2 l3 l5 l10 l11 l12 l13 l18 l19 l21 l22 l23 l24 l25 l26 (1 : Int32)))
set_option maxRecDepth 100000 in
set_option maxHeartbeats 4000000 in
theorem wL_law_889B {E : kdE} {G : kdS} {A : kdA} {z : Nat × Nat} {b N : Nat} {xs : Nat → Int32} {r : Unit} {σ1 : kdM} (hX : kdX E A cL_law 29 RL (some .boolean) 8) (hLw : kdLw E A b N xs) (hro : kdRO A z.1 z.2) (hLe : kdLe A b z) (hLs : kdLs E A) (k840 : Nat → Nat → Int32 → Int32 → Int32 → Int32 → Int32 → Nat → Nat → Int64 → Int32 → kdM → Option (Unit × kdM)) (k889 : Nat → Nat → Int32 → Int32 → Int32 → Int32 → Int32 → Nat → Nat → Int64 → Int32 → Int32 → Int32 → Int32 → Int32 → Int32 → kdM → Option (Unit × kdM)) (hk840 : ∀ (l1 : Nat) (l2 : Nat) (l3 : Int32) (l5 : Int32) (l10 : Int32) (l11 : Int32) (l12 : Int32) (l13 : Nat) (l18 : Nat) (l19 : Int64) (l21 : Int32) (σ : kdM), k840 l1 l2 l3 l5 l10 l11 l12 l13 l18 l19 l21 σ = some (r, σ1) → SW E G (.inr z) A 29 σ 840 [(0, .ref b), (1, kr E l1), (2, kr E l2), (3, .int l3), (5, .int l5), (10, .int l10), (11, .int l11), (12, .int l12), (13, kr E l13), (18, kr E l18), (19, .long l19), (21, .int l21)] []) (hk889 : ∀ (l1 : Nat) (l2 : Nat) (l3 : Int32) (l5 : Int32) (l10 : Int32) (l11 : Int32) (l12 : Int32) (l13 : Nat) (l18 : Nat) (l19 : Int64) (l21 : Int32) (l22 : Int32) (l23 : Int32) (l24 : Int32) (l25 : Int32) (l26 : Int32) (σ : kdM), k889 l1 l2 l3 l5 l10 l11 l12 l13 l18 l19 l21 l22 l23 l24 l25 l26 σ = some (r, σ1) → SW E G (.inr z) A 29 σ 889 [(0, .ref b), (1, kr E l1), (2, kr E l2), (3, .int l3), (5, .int l5), (10, .int l10), (11, .int l11), (12, .int l12), (13, kr E l13), (18, kr E l18), (19, .long l19), (21, .int l21), (22, .int l22), (23, .int l23), (24, .int l24), (25, .int l25), (26, .int l26)] []) {l1 : Nat} {l2 : Nat} {l3 : Int32} {l5 : Int32} {l10 : Int32} {l11 : Int32} {l12 : Int32} {l13 : Nat} {l18 : Nat} {l19 : Int64} {l21 : Int32} {l22 : Int32} {l23 : Int32} {l24 : Int32} {l25 : Int32} {l26 : Int32} {σ : kdM} (h : L_law_889B G xs N k840 k889 l1 l2 l3 l5 l10 l11 l12 l13 l18 l19 l21 l22 l23 l24 l25 l26 σ = some (r, σ1)) : SW E G (.inr z) A 29 σ 889 [(0, .ref b), (1, kr E l1), (2, kr E l2), (3, .int l3), (5, .int l5), (10, .int l10), (11, .int l11), (12, .int l12), (13, kr E l13), (18, kr E l18), (19, .long l19), (21, .int l21), (22, .int l22), (23, .int l23), (24, .int l24), (25, .int l25), (26, .int l26)] [] := by
  unfold L_law_889B at h
  refine r_iload hX dL_law_889 16 rfl ?_
  refine r_iconst hX dL_law_891 kk_i_4 ?_
  refine r_icmp_ge (tgt := 985) hX dL_law_892 (by decide) h ?_ ?_
  · clear h; intro h
    refine r_aload_n hX dL_law_985 rfl 1 rfl ?_
    refine r_iload hX dL_law_986 13 rfl ?_
    refine r_iload hX dL_law_988 12 rfl ?_
    refine r_iload hX dL_law_990 7 rfl ?_
    refine r_cVi (As := [.int l23, .int l22, .int l12]) (st := []) hX dL_law_992 kl_X11_share w_ml_L_66 w_im_X11_share w_se_X11_share ⟨_, _, rfl⟩ (by decide) rfl (Nat.le_of_ble_eq_true rfl) rfl hro h (fun r σ1 h => wX11_share h) ?_
    clear h; intro t1 σ h
    refine r_istore (L2 := [(26, .int t1), (0, .ref b), (1, kr E l1), (2, kr E l2), (3, .int l3), (5, .int l5), (10, .int l10), (11, .int l11), (12, .int l12), (13, kr E l13), (18, kr E l18), (19, .long l19), (21, .int l21), (22, .int l22), (23, .int l23), (24, .int l24), (25, .int l25)]) hX dL_law_995 (by decide) rfl ?_
    refine r_iload hX dL_law_997 15 rfl ?_
    refine r_iconst hX dL_law_999 kk_i_2 ?_
    refine r_icmp_ge (tgt := 1012) hX dL_law_1000 (by decide) h ?_ ?_
    · clear h; intro h
      refine r_lload hX dL_law_1012 11 rfl ?_
      refine r_ldc2_w hX dL_law_1014 w_cl_L_70 ?_
      refine r_lmul hX dL_law_1017 ?_
      refine r_ldc2_w hX dL_law_1018 w_cl_L_72 ?_
      refine r_lrem hX dL_law_1021 h ?_
      clear h; intro h
      refine r_letL h ?_
      clear h; intro t2 h
      refine r_lstore (L2 := [(19, .long t2), (26, .int t1), (0, .ref b), (1, kr E l1), (2, kr E l2), (3, .int l3), (5, .int l5), (10, .int l10), (11, .int l11), (12, .int l12), (13, kr E l13), (18, kr E l18), (21, .int l21), (22, .int l22), (23, .int l23), (24, .int l24), (25, .int l25)]) hX dL_law_1022 (by decide) rfl ?_
      refine r_lload hX dL_law_1024 0 rfl ?_
      refine r_ldc2_w hX dL_law_1026 w_cl_L_74 ?_
      refine r_lrem hX dL_law_1029 h ?_
      clear h; intro h
      refine r_l2i hX dL_law_1030 ?_
      refine r_sipush hX dL_law_1031 kk_s_1000 ?_
      refine r_isub hX dL_law_1034 ?_
      refine r_letI h ?_
      clear h; intro t3 h
      refine r_istore (L2 := [(27, .int t3), (19, .long t2), (26, .int t1), (0, .ref b), (1, kr E l1), (2, kr E l2), (3, .int l3), (5, .int l5), (10, .int l10), (11, .int l11), (12, .int l12), (13, kr E l13), (18, kr E l18), (21, .int l21), (22, .int l22), (23, .int l23), (24, .int l24), (25, .int l25)]) hX dL_law_1035 (by decide) rfl ?_
      refine r_iload hX dL_law_1037 2 rfl ?_
      refine r_iload hX dL_law_1039 17 rfl ?_
      refine r_iload hX dL_law_1041 0 rfl ?_
      refine r_bipush hX dL_law_1043 kk_b_100 ?_
      refine r_imul hX dL_law_1045 ?_
      refine r_iload hX dL_law_1046 14 rfl ?_
      refine r_idiv hX dL_law_1048 h ?_
      clear h; intro h
      refine r_iadd hX dL_law_1049 ?_
      refine r_icmp_eq (tgt := 1055) hX dL_law_1050 (by decide) h ?_ ?_
      · clear h; intro h
        refine r_iconst hX dL_law_1055 kk_i_0 ?_
        refine r_istore (L2 := [(28, .int (0 : Int32)), (27, .int t3), (19, .long t2), (26, .int t1), (0, .ref b), (1, kr E l1), (2, kr E l2), (3, .int l3), (5, .int l5), (10, .int l10), (11, .int l11), (12, .int l12), (13, kr E l13), (18, kr E l18), (21, .int l21), (22, .int l22), (23, .int l23), (24, .int l24), (25, .int l25)]) hX dL_law_1056 (by decide) rfl ?_
        refine r_sub [4, 5, 6, 7, 8, 9, 10, 11, 12, 13, 2, 14, 15, 0] rfl ?_
        exact wL_law_1058 hX hLw hro hLe hLs k840 hk840 _ _ _ _ _ _ _ _ _ _ _ _ _ _ h
      · clear h; intro h
        exact absurd (show (none : Option (Unit × kdM)) = some (r, σ1) from h) (by simp)
    · clear h; intro h
      refine r_iload hX dL_law_1003 0 rfl ?_
      refine r_ldc hX dL_law_1005 w_ct_L_69 ?_
      refine r_icmp_eq (tgt := 1113) hX dL_law_1007 (by decide) h ?_ ?_
      · clear h; intro h
        refine r_sub [1, 2, 3, 4, 5, 6, 7, 8, 9, 10, 11, 12] rfl ?_
        exact wL_law_1113 hX hLw hro hLe hLs k840 hk840 h
      · clear h; intro h
        exact absurd (show (none : Option (Unit × kdM)) = some (r, σ1) from h) (by simp)
  · clear h; intro h
    refine r_aload hX dL_law_895 9 rfl ?_
    refine r_iload hX dL_law_897 16 rfl ?_
    refine r_aI hX dL_law_899 h ?_
    clear h; intro t4 h
    refine r_iload hX dL_law_900 12 rfl ?_
    refine r_icmp_lt (tgt := 909) hX dL_law_902 (by decide) h ?_ ?_
    · clear h; intro h
      refine r_iconst hX dL_law_909 kk_i_0 ?_
      refine r_sub [0, 1, 2, 3, 4, 5, 6, 7, 8, 9, 10, 11, 12, 13, 14, 15, 16] rfl ?_
      exact wL_law_910 hX hLw hro hLe hLs k840 k889 hk840 hk889 h
    · clear h; intro h
      refine r_iconst hX dL_law_905 kk_i_1 ?_
      refine r_goto (tgt := 910) hX dL_law_906 (by decide) ?_
      refine r_sub [0, 1, 2, 3, 4, 5, 6, 7, 8, 9, 10, 11, 12, 13, 14, 15, 16] rfl ?_
      exact wL_law_910 hX hLw hro hLe hLs k840 k889 hk840 hk889 h
def L_law_889 (G : kdS) (xs : Nat → Int32) (N : Nat) (k840 : Nat → Nat → Int32 → Int32 → Int32 → Int32 → Int32 → Nat → Nat → Int64 → Int32 → kdM → Option (Unit × kdM)) : Nat → Nat → Int32 → Int32 → Int32 → Int32 → Int32 → Nat → Nat → Int64 → Int32 → Int32 → Int32 → Int32 → Int32 → Int32 → kdM → Option (Unit × kdM) := lp (fun _ _ _ _ _ _ _ _ _ _ _ _ _ _ _ _ _ => none) (L_law_889B G xs N k840) NN
theorem wL_law_889 {E : kdE} {G : kdS} {A : kdA} {z : Nat × Nat} {b N : Nat} {xs : Nat → Int32} {r : Unit} {σ1 : kdM} (hX : kdX E A cL_law 29 RL (some .boolean) 8) (hLw : kdLw E A b N xs) (hro : kdRO A z.1 z.2) (hLe : kdLe A b z) (hLs : kdLs E A) (k840 : Nat → Nat → Int32 → Int32 → Int32 → Int32 → Int32 → Nat → Nat → Int64 → Int32 → kdM → Option (Unit × kdM)) (hk840 : ∀ (l1 : Nat) (l2 : Nat) (l3 : Int32) (l5 : Int32) (l10 : Int32) (l11 : Int32) (l12 : Int32) (l13 : Nat) (l18 : Nat) (l19 : Int64) (l21 : Int32) (σ : kdM), k840 l1 l2 l3 l5 l10 l11 l12 l13 l18 l19 l21 σ = some (r, σ1) → SW E G (.inr z) A 29 σ 840 [(0, .ref b), (1, kr E l1), (2, kr E l2), (3, .int l3), (5, .int l5), (10, .int l10), (11, .int l11), (12, .int l12), (13, kr E l13), (18, kr E l18), (19, .long l19), (21, .int l21)] []) : ∀ (l1 : Nat) (l2 : Nat) (l3 : Int32) (l5 : Int32) (l10 : Int32) (l11 : Int32) (l12 : Int32) (l13 : Nat) (l18 : Nat) (l19 : Int64) (l21 : Int32) (l22 : Int32) (l23 : Int32) (l24 : Int32) (l25 : Int32) (l26 : Int32) (σ : kdM), L_law_889 G xs N k840 l1 l2 l3 l5 l10 l11 l12 l13 l18 l19 l21 l22 l23 l24 l25 l26 σ = some (r, σ1) → SW E G (.inr z) A 29 σ 889 [(0, .ref b), (1, kr E l1), (2, kr E l2), (3, .int l3), (5, .int l5), (10, .int l10), (11, .int l11), (12, .int l12), (13, kr E l13), (18, kr E l18), (19, .long l19), (21, .int l21), (22, .int l22), (23, .int l23), (24, .int l24), (25, .int l25), (26, .int l26)] [] :=
  lp_ind (Q := fun f => ∀ (l1 : Nat) (l2 : Nat) (l3 : Int32) (l5 : Int32) (l10 : Int32) (l11 : Int32) (l12 : Int32) (l13 : Nat) (l18 : Nat) (l19 : Int64) (l21 : Int32) (l22 : Int32) (l23 : Int32) (l24 : Int32) (l25 : Int32) (l26 : Int32) (σ : kdM), f l1 l2 l3 l5 l10 l11 l12 l13 l18 l19 l21 l22 l23 l24 l25 l26 σ = some (r, σ1) → SW E G (.inr z) A 29 σ 889 [(0, .ref b), (1, kr E l1), (2, kr E l2), (3, .int l3), (5, .int l5), (10, .int l10), (11, .int l11), (12, .int l12), (13, kr E l13), (18, kr E l18), (19, .long l19), (21, .int l21), (22, .int l22), (23, .int l23), (24, .int l24), (25, .int l25), (26, .int l26)] []) (by intros; contradiction) (fun k hk l1 l2 l3 l5 l10 l11 l12 l13 l18 l19 l21 l22 l23 l24 l25 l26 σ h => wL_law_889B hX hLw hro hLe hLs k840 k hk840 hk h) NN
def L_law_1159 (G : kdS) (xs : Nat → Int32) (N : Nat) : kdM → Option (Unit × kdM) :=
  fun _ => none
set_option maxRecDepth 100000 in
set_option maxHeartbeats 4000000 in
theorem wL_law_1159 {E : kdE} {G : kdS} {A : kdA} {z : Nat × Nat} {b N : Nat} {xs : Nat → Int32} {r : Unit} {σ1 : kdM} (hX : kdX E A cL_law 29 RL (some .boolean) 8) (hLw : kdLw E A b N xs) (hro : kdRO A z.1 z.2) (hLe : kdLe A b z) (hLs : kdLs E A) {σ : kdM} (h : L_law_1159 G xs N  σ = some (r, σ1)) : SW E G (.inr z) A 29 σ 1159 [(0, .ref b)] [] := by
  unfold L_law_1159 at h
  exact absurd (show (none : Option (Unit × kdM)) = some (r, σ1) from h) (by simp)
def L_law_1173B (G : kdS) (xs : Nat → Int32) (N : Nat) (k1164 : Nat → Nat → Int32 → Int32 → Int32 → kdM → Option (Unit × kdM)) (k1173 : Nat → Nat → Int32 → Int32 → Int32 → Int32 → kdM → Option (Unit × kdM)) (l1 : Nat) (l2 : Nat) (l3 : Int32) (l12 : Int32) (l21 : Int32) (l22 : Int32) : kdM → Option (Unit × kdM) :=
  cnd (l3 ≤ l22)
    (ltI (l21 + Int32.ofInt 1) fun t1 =>
    k1164 l1 l2 l3 l12 t1)
    (kcv G 11 l1 (X11_worth G l1 l21 l22 l12) fun t2 =>
    kcv G 11 l2 (X11_worth G l2 l21 l22 l12) fun t3 =>
    cnd (t2 = t3)
      (ltI (l22 + Int32.ofInt 1) fun t4 =>
      k1173 l1 l2 l3 l12 l21 t4)
      (fun _ => none))
set_option maxRecDepth 100000 in
set_option maxHeartbeats 4000000 in
theorem wL_law_1173B {E : kdE} {G : kdS} {A : kdA} {z : Nat × Nat} {b N : Nat} {xs : Nat → Int32} {r : Unit} {σ1 : kdM} (hX : kdX E A cL_law 29 RL (some .boolean) 8) (hLw : kdLw E A b N xs) (hro : kdRO A z.1 z.2) (hLe : kdLe A b z) (hLs : kdLs E A) (k1164 : Nat → Nat → Int32 → Int32 → Int32 → kdM → Option (Unit × kdM)) (k1173 : Nat → Nat → Int32 → Int32 → Int32 → Int32 → kdM → Option (Unit × kdM)) (hk1164 : ∀ (l1 : Nat) (l2 : Nat) (l3 : Int32) (l12 : Int32) (l21 : Int32) (σ : kdM), k1164 l1 l2 l3 l12 l21 σ = some (r, σ1) → SW E G (.inr z) A 29 σ 1164 [(0, .ref b), (1, kr E l1), (2, kr E l2), (3, .int l3), (12, .int l12), (21, .int l21)] []) (hk1173 : ∀ (l1 : Nat) (l2 : Nat) (l3 : Int32) (l12 : Int32) (l21 : Int32) (l22 : Int32) (σ : kdM), k1173 l1 l2 l3 l12 l21 l22 σ = some (r, σ1) → SW E G (.inr z) A 29 σ 1173 [(0, .ref b), (1, kr E l1), (2, kr E l2), (3, .int l3), (12, .int l12), (21, .int l21), (22, .int l22)] []) {l1 : Nat} {l2 : Nat} {l3 : Int32} {l12 : Int32} {l21 : Int32} {l22 : Int32} {σ : kdM} (h : L_law_1173B G xs N k1164 k1173 l1 l2 l3 l12 l21 l22 σ = some (r, σ1)) : SW E G (.inr z) A 29 σ 1173 [(0, .ref b), (1, kr E l1), (2, kr E l2), (3, .int l3), (12, .int l12), (21, .int l21), (22, .int l22)] [] := by
  unfold L_law_1173B at h
  refine r_iload hX dL_law_1173 6 rfl ?_
  refine r_iload_n hX dL_law_1175 rfl 3 rfl ?_
  refine r_icmp_ge (tgt := 1210) hX dL_law_1176 (by decide) h ?_ ?_
  · clear h; intro h
    refine r_iincL (L2 := fun t1 => [(21, .int t1), (0, .ref b), (1, kr E l1), (2, kr E l2), (3, .int l3), (12, .int l12), (22, .int l22)]) hX dL_law_1210 h 5 rfl (by decide) (fun _ => rfl) ?_
    clear h; intro t1 h
    refine r_goto (tgt := 1164) hX dL_law_1213 (by decide) ?_
    refine r_sub [1, 2, 3, 4, 5, 0] rfl ?_
    exact hk1164 _ _ _ _ _ _ h
  · clear h; intro h
    refine r_aload_n hX dL_law_1179 rfl 1 rfl ?_
    refine r_iload hX dL_law_1180 5 rfl ?_
    refine r_iload hX dL_law_1182 6 rfl ?_
    refine r_iload hX dL_law_1184 4 rfl ?_
    refine r_cVi (As := [.int l21, .int l22, .int l12]) (st := []) hX dL_law_1186 kl_X11_worth w_ml_L_42 w_im_X11_worth w_se_X11_worth ⟨_, _, rfl⟩ (by decide) rfl (Nat.le_of_ble_eq_true rfl) rfl hro h (fun r σ1 h => wX11_worth h) ?_
    clear h; intro t2 σ h
    refine r_aload_n hX dL_law_1189 rfl 2 rfl ?_
    refine r_iload hX dL_law_1190 5 rfl ?_
    refine r_iload hX dL_law_1192 6 rfl ?_
    refine r_iload hX dL_law_1194 4 rfl ?_
    refine r_cVi (As := [.int l21, .int l22, .int l12]) (st := [.int t2]) hX dL_law_1196 kl_X11_worth w_ml_L_42 w_im_X11_worth w_se_X11_worth ⟨_, _, rfl⟩ (by decide) rfl (Nat.le_of_ble_eq_true rfl) rfl hro h (fun r σ1 h => wX11_worth h) ?_
    clear h; intro t3 σ h
    refine r_icmp_eq (tgt := 1204) hX dL_law_1199 (by decide) h ?_ ?_
    · clear h; intro h
      refine r_iincL (L2 := fun t4 => [(22, .int t4), (0, .ref b), (1, kr E l1), (2, kr E l2), (3, .int l3), (12, .int l12), (21, .int l21)]) hX dL_law_1204 h 6 rfl (by decide) (fun _ => rfl) ?_
      clear h; intro t4 h
      refine r_goto (tgt := 1173) hX dL_law_1207 (by decide) ?_
      refine r_sub [1, 2, 3, 4, 5, 6, 0] rfl ?_
      exact hk1173 _ _ _ _ _ _ _ h
    · clear h; intro h
      exact absurd (show (none : Option (Unit × kdM)) = some (r, σ1) from h) (by simp)
def L_law_1173 (G : kdS) (xs : Nat → Int32) (N : Nat) (k1164 : Nat → Nat → Int32 → Int32 → Int32 → kdM → Option (Unit × kdM)) : Nat → Nat → Int32 → Int32 → Int32 → Int32 → kdM → Option (Unit × kdM) := lp (fun _ _ _ _ _ _ _ => none) (L_law_1173B G xs N k1164) NN
theorem wL_law_1173 {E : kdE} {G : kdS} {A : kdA} {z : Nat × Nat} {b N : Nat} {xs : Nat → Int32} {r : Unit} {σ1 : kdM} (hX : kdX E A cL_law 29 RL (some .boolean) 8) (hLw : kdLw E A b N xs) (hro : kdRO A z.1 z.2) (hLe : kdLe A b z) (hLs : kdLs E A) (k1164 : Nat → Nat → Int32 → Int32 → Int32 → kdM → Option (Unit × kdM)) (hk1164 : ∀ (l1 : Nat) (l2 : Nat) (l3 : Int32) (l12 : Int32) (l21 : Int32) (σ : kdM), k1164 l1 l2 l3 l12 l21 σ = some (r, σ1) → SW E G (.inr z) A 29 σ 1164 [(0, .ref b), (1, kr E l1), (2, kr E l2), (3, .int l3), (12, .int l12), (21, .int l21)] []) : ∀ (l1 : Nat) (l2 : Nat) (l3 : Int32) (l12 : Int32) (l21 : Int32) (l22 : Int32) (σ : kdM), L_law_1173 G xs N k1164 l1 l2 l3 l12 l21 l22 σ = some (r, σ1) → SW E G (.inr z) A 29 σ 1173 [(0, .ref b), (1, kr E l1), (2, kr E l2), (3, .int l3), (12, .int l12), (21, .int l21), (22, .int l22)] [] :=
  lp_ind (Q := fun f => ∀ (l1 : Nat) (l2 : Nat) (l3 : Int32) (l12 : Int32) (l21 : Int32) (l22 : Int32) (σ : kdM), f l1 l2 l3 l12 l21 l22 σ = some (r, σ1) → SW E G (.inr z) A 29 σ 1173 [(0, .ref b), (1, kr E l1), (2, kr E l2), (3, .int l3), (12, .int l12), (21, .int l21), (22, .int l22)] []) (by intros; contradiction) (fun k hk l1 l2 l3 l12 l21 l22 σ h => wL_law_1173B hX hLw hro hLe hLs k1164 k hk1164 hk h) NN
def L_law_1236 (G : kdS) (xs : Nat → Int32) (N : Nat) (s0 : Int32) : kdM → Option (Unit × kdM) :=
  cnd (s0 = (1 : Int32))
    (rt ())
    (fun _ => none)
set_option maxRecDepth 100000 in
set_option maxHeartbeats 4000000 in
theorem wL_law_1236 {E : kdE} {G : kdS} {A : kdA} {z : Nat × Nat} {b N : Nat} {xs : Nat → Int32} {r : Unit} {σ1 : kdM} (hX : kdX E A cL_law 29 RL (some .boolean) 8) (hLw : kdLw E A b N xs) (hro : kdRO A z.1 z.2) (hLe : kdLe A b z) (hLs : kdLs E A) {s0 : Int32} {σ : kdM} (h : L_law_1236 G xs N s0 σ = some (r, σ1)) : SW E G (.inr z) A 29 σ 1236 [(0, .ref b)] [.int s0] := by
  unfold L_law_1236 at h
  refine r_case (q := s0 = (1 : Int32)) h ?_ ?_
  · clear h; intro hq h; subst hq
    exact r_lawend hX hLe hLs dL_law_1236
  · intro hq h; exact absurd (show (none : Option (Unit × kdM)) = some (r, σ1) from h) (by simp)
def L_law_1164B (G : kdS) (xs : Nat → Int32) (N : Nat) (k1164 : Nat → Nat → Int32 → Int32 → Int32 → kdM → Option (Unit × kdM)) (l1 : Nat) (l2 : Nat) (l3 : Int32) (l12 : Int32) (l21 : Int32) : kdM → Option (Unit × kdM) :=
  cnd ((4 : Int32) ≤ l21)
    (kcv G 11 l1 (X11_forget G l1 (1 : Int32) (-1 : Int32)) fun t1 =>
    kcv G 11 l2 (X11_forget G l2 (1 : Int32) (-1 : Int32)) fun t2 =>
    cnd (t1 = t2)
      (L_law_1236 G xs N (1 : Int32))
      (fun _ => none))
    (L_law_1173 G xs N k1164 l1 l2 l3 l12 l21 (0 : Int32))
set_option maxRecDepth 100000 in
set_option maxHeartbeats 4000000 in
theorem wL_law_1164B {E : kdE} {G : kdS} {A : kdA} {z : Nat × Nat} {b N : Nat} {xs : Nat → Int32} {r : Unit} {σ1 : kdM} (hX : kdX E A cL_law 29 RL (some .boolean) 8) (hLw : kdLw E A b N xs) (hro : kdRO A z.1 z.2) (hLe : kdLe A b z) (hLs : kdLs E A) (k1164 : Nat → Nat → Int32 → Int32 → Int32 → kdM → Option (Unit × kdM)) (hk1164 : ∀ (l1 : Nat) (l2 : Nat) (l3 : Int32) (l12 : Int32) (l21 : Int32) (σ : kdM), k1164 l1 l2 l3 l12 l21 σ = some (r, σ1) → SW E G (.inr z) A 29 σ 1164 [(0, .ref b), (1, kr E l1), (2, kr E l2), (3, .int l3), (12, .int l12), (21, .int l21)] []) {l1 : Nat} {l2 : Nat} {l3 : Int32} {l12 : Int32} {l21 : Int32} {σ : kdM} (h : L_law_1164B G xs N k1164 l1 l2 l3 l12 l21 σ = some (r, σ1)) : SW E G (.inr z) A 29 σ 1164 [(0, .ref b), (1, kr E l1), (2, kr E l2), (3, .int l3), (12, .int l12), (21, .int l21)] [] := by
  unfold L_law_1164B at h
  refine r_iload hX dL_law_1164 5 rfl ?_
  refine r_iconst hX dL_law_1166 kk_i_4 ?_
  refine r_icmp_ge (tgt := 1216) hX dL_law_1167 (by decide) h ?_ ?_
  · clear h; intro h
    refine r_aload_n hX dL_law_1216 rfl 1 rfl ?_
    refine r_iconst hX dL_law_1217 kk_i_1 ?_
    refine r_iconst hX dL_law_1218 kk_i_m1 ?_
    refine r_cVi (As := [.int (1 : Int32), .int (-1 : Int32)]) (st := []) hX dL_law_1219 kl_X11_forget w_ml_L_76 w_im_X11_forget w_se_X11_forget ⟨_, _, rfl⟩ (by decide) rfl (Nat.le_of_ble_eq_true rfl) rfl hro h (fun r σ1 h => wX11_forget h) ?_
    clear h; intro t1 σ h
    refine r_aload_n hX dL_law_1222 rfl 2 rfl ?_
    refine r_iconst hX dL_law_1223 kk_i_1 ?_
    refine r_iconst hX dL_law_1224 kk_i_m1 ?_
    refine r_cVi (As := [.int (1 : Int32), .int (-1 : Int32)]) (st := [.int t1]) hX dL_law_1225 kl_X11_forget w_ml_L_76 w_im_X11_forget w_se_X11_forget ⟨_, _, rfl⟩ (by decide) rfl (Nat.le_of_ble_eq_true rfl) rfl hro h (fun r σ1 h => wX11_forget h) ?_
    clear h; intro t2 σ h
    refine r_icmp_ne (tgt := 1235) hX dL_law_1228 (by decide) h ?_ ?_
    · clear h; intro h
      refine r_iconst hX dL_law_1231 kk_i_1 ?_
      refine r_goto (tgt := 1236) hX dL_law_1232 (by decide) ?_
      refine r_sub [0] rfl ?_
      exact wL_law_1236 hX hLw hro hLe hLs h
    · clear h; intro h
      exact absurd (show (none : Option (Unit × kdM)) = some (r, σ1) from h) (by simp)
  · clear h; intro h
    refine r_iconst hX dL_law_1170 kk_i_0 ?_
    refine r_istore (L2 := [(22, .int (0 : Int32)), (0, .ref b), (1, kr E l1), (2, kr E l2), (3, .int l3), (12, .int l12), (21, .int l21)]) hX dL_law_1171 (by decide) rfl ?_
    refine r_sub [1, 2, 3, 4, 5, 6, 0] rfl ?_
    exact wL_law_1173 hX hLw hro hLe hLs k1164 hk1164 _ _ _ _ _ _ _ h
def L_law_1164 (G : kdS) (xs : Nat → Int32) (N : Nat) : Nat → Nat → Int32 → Int32 → Int32 → kdM → Option (Unit × kdM) := lp (fun _ _ _ _ _ _ => none) (L_law_1164B G xs N) NN
theorem wL_law_1164 {E : kdE} {G : kdS} {A : kdA} {z : Nat × Nat} {b N : Nat} {xs : Nat → Int32} {r : Unit} {σ1 : kdM} (hX : kdX E A cL_law 29 RL (some .boolean) 8) (hLw : kdLw E A b N xs) (hro : kdRO A z.1 z.2) (hLe : kdLe A b z) (hLs : kdLs E A) : ∀ (l1 : Nat) (l2 : Nat) (l3 : Int32) (l12 : Int32) (l21 : Int32) (σ : kdM), L_law_1164 G xs N l1 l2 l3 l12 l21 σ = some (r, σ1) → SW E G (.inr z) A 29 σ 1164 [(0, .ref b), (1, kr E l1), (2, kr E l2), (3, .int l3), (12, .int l12), (21, .int l21)] [] :=
  lp_ind (Q := fun f => ∀ (l1 : Nat) (l2 : Nat) (l3 : Int32) (l12 : Int32) (l21 : Int32) (σ : kdM), f l1 l2 l3 l12 l21 σ = some (r, σ1) → SW E G (.inr z) A 29 σ 1164 [(0, .ref b), (1, kr E l1), (2, kr E l2), (3, .int l3), (12, .int l12), (21, .int l21)] []) (by intros; contradiction) (fun k hk l1 l2 l3 l12 l21 σ h => wL_law_1164B hX hLw hro hLe hLs k hk h) NN
def L_law_840B (G : kdS) (xs : Nat → Int32) (N : Nat) (k840 : Nat → Nat → Int32 → Int32 → Int32 → Int32 → Int32 → Nat → Nat → Int64 → Int32 → kdM → Option (Unit × kdM)) (l1 : Nat) (l2 : Nat) (l3 : Int32) (l5 : Int32) (l10 : Int32) (l11 : Int32) (l12 : Int32) (l13 : Nat) (l18 : Nat) (l19 : Int64) (l21 : Int32) : kdM → Option (Unit × kdM) :=
  cnd ((6 : Int32) ≤ l21)
    (kcv G 11 l1 (X11_forget G l1 (0 : Int32) l10) fun t1 =>
    cnd (t1 = (l5 - l11))
      (kcv G 11 l1 (X11_told G l1 (7 : Int32)) fun t2 =>
      kcv G 11 l2 (X11_told G l2 (7 : Int32)) fun t3 =>
      cnd (t2 = t3)
        (kcv G 11 l1 (X11_forget G l1 (0 : Int32) l10) fun t4 =>
        cnd (t4 = 0)
          (L_law_1164 G xs N l1 l2 l3 l12 (0 : Int32))
          (L_law_1159 G xs N ))
        (L_law_1159 G xs N ))
      (L_law_1159 G xs N ))
    (kcl (L_cell G xs N (((2 : Int32) * l21) + (190 : Int32)) (100 : Int32)) fun t5 =>
    ltI (((1 : Int32) + t5)) fun t6 =>
    kcl (L_cell G xs N (((2 : Int32) * l21) + (191 : Int32)) l3) fun t7 =>
    L_law_889 G xs N k840 l1 l2 l3 l5 l10 l11 l12 l13 l18 l19 l21 t6 t7 (0 : Int32) (0 : Int32) (0 : Int32))
set_option maxRecDepth 100000 in
set_option maxHeartbeats 4000000 in
theorem wL_law_840B {E : kdE} {G : kdS} {A : kdA} {z : Nat × Nat} {b N : Nat} {xs : Nat → Int32} {r : Unit} {σ1 : kdM} (hX : kdX E A cL_law 29 RL (some .boolean) 8) (hLw : kdLw E A b N xs) (hro : kdRO A z.1 z.2) (hLe : kdLe A b z) (hLs : kdLs E A) (k840 : Nat → Nat → Int32 → Int32 → Int32 → Int32 → Int32 → Nat → Nat → Int64 → Int32 → kdM → Option (Unit × kdM)) (hk840 : ∀ (l1 : Nat) (l2 : Nat) (l3 : Int32) (l5 : Int32) (l10 : Int32) (l11 : Int32) (l12 : Int32) (l13 : Nat) (l18 : Nat) (l19 : Int64) (l21 : Int32) (σ : kdM), k840 l1 l2 l3 l5 l10 l11 l12 l13 l18 l19 l21 σ = some (r, σ1) → SW E G (.inr z) A 29 σ 840 [(0, .ref b), (1, kr E l1), (2, kr E l2), (3, .int l3), (5, .int l5), (10, .int l10), (11, .int l11), (12, .int l12), (13, kr E l13), (18, kr E l18), (19, .long l19), (21, .int l21)] []) {l1 : Nat} {l2 : Nat} {l3 : Int32} {l5 : Int32} {l10 : Int32} {l11 : Int32} {l12 : Int32} {l13 : Nat} {l18 : Nat} {l19 : Int64} {l21 : Int32} {σ : kdM} (h : L_law_840B G xs N k840 l1 l2 l3 l5 l10 l11 l12 l13 l18 l19 l21 σ = some (r, σ1)) : SW E G (.inr z) A 29 σ 840 [(0, .ref b), (1, kr E l1), (2, kr E l2), (3, .int l3), (5, .int l5), (10, .int l10), (11, .int l11), (12, .int l12), (13, kr E l13), (18, kr E l18), (19, .long l19), (21, .int l21)] [] := by
  unfold L_law_840B at h
  refine r_iload hX dL_law_840 11 rfl ?_
  refine r_bipush hX dL_law_842 kk_b_6 ?_
  refine r_icmp_ge (tgt := 1119) hX dL_law_844 (by decide) h ?_ ?_
  · clear h; intro h
    refine r_aload_n hX dL_law_1119 rfl 1 rfl ?_
    refine r_iconst hX dL_law_1120 kk_i_0 ?_
    refine r_iload hX dL_law_1121 5 rfl ?_
    refine r_cVi (As := [.int (0 : Int32), .int l10]) (st := []) hX dL_law_1123 kl_X11_forget w_ml_L_76 w_im_X11_forget w_se_X11_forget ⟨_, _, rfl⟩ (by decide) rfl (Nat.le_of_ble_eq_true rfl) rfl hro h (fun r σ1 h => wX11_forget h) ?_
    clear h; intro t1 σ h
    refine r_iload hX dL_law_1126 4 rfl ?_
    refine r_iload hX dL_law_1128 6 rfl ?_
    refine r_isub hX dL_law_1130 ?_
    refine r_icmp_ne (tgt := 1159) hX dL_law_1131 (by decide) h ?_ ?_
    · clear h; intro h
      refine r_aload_n hX dL_law_1134 rfl 1 rfl ?_
      refine r_bipush hX dL_law_1135 kk_b_7 ?_
      refine r_cVi (As := [.int (7 : Int32)]) (st := []) hX dL_law_1137 kl_X11_told w_ml_L_8 w_im_X11_told w_se_X11_told ⟨_, _, rfl⟩ (by decide) rfl (Nat.le_of_ble_eq_true rfl) rfl hro h (fun r σ1 h => wX11_told h) ?_
      clear h; intro t2 σ h
      refine r_aload_n hX dL_law_1140 rfl 2 rfl ?_
      refine r_bipush hX dL_law_1141 kk_b_7 ?_
      refine r_cVi (As := [.int (7 : Int32)]) (st := [.int t2]) hX dL_law_1143 kl_X11_told w_ml_L_8 w_im_X11_told w_se_X11_told ⟨_, _, rfl⟩ (by decide) rfl (Nat.le_of_ble_eq_true rfl) rfl hro h (fun r σ1 h => wX11_told h) ?_
      clear h; intro t3 σ h
      refine r_icmp_ne (tgt := 1159) hX dL_law_1146 (by decide) h ?_ ?_
      · clear h; intro h
        refine r_aload_n hX dL_law_1149 rfl 1 rfl ?_
        refine r_iconst hX dL_law_1150 kk_i_0 ?_
        refine r_iload hX dL_law_1151 5 rfl ?_
        refine r_cVi (As := [.int (0 : Int32), .int l10]) (st := []) hX dL_law_1153 kl_X11_forget w_ml_L_76 w_im_X11_forget w_se_X11_forget ⟨_, _, rfl⟩ (by decide) rfl (Nat.le_of_ble_eq_true rfl) rfl hro h (fun r σ1 h => wX11_forget h) ?_
        clear h; intro t4 σ h
        refine r_if_eq (tgt := 1161) hX dL_law_1156 (by decide) h ?_ ?_
        · clear h; intro h
          refine r_iconst hX dL_law_1161 kk_i_0 ?_
          refine r_istore (L2 := [(21, .int (0 : Int32)), (0, .ref b), (1, kr E l1), (2, kr E l2), (3, .int l3), (5, .int l5), (10, .int l10), (11, .int l11), (12, .int l12), (13, kr E l13), (18, kr E l18), (19, .long l19)]) hX dL_law_1162 (by decide) rfl ?_
          refine r_sub [1, 2, 3, 4, 8, 0] rfl ?_
          exact wL_law_1164 hX hLw hro hLe hLs _ _ _ _ _ _ h
        · clear h; intro h
          refine r_sub [0] rfl ?_
          exact wL_law_1159 hX hLw hro hLe hLs h
      · clear h; intro h
        refine r_sub [0] rfl ?_
        exact wL_law_1159 hX hLw hro hLe hLs h
    · clear h; intro h
      refine r_sub [0] rfl ?_
      exact wL_law_1159 hX hLw hro hLe hLs h
  · clear h; intro h
    refine r_iconst hX dL_law_847 kk_i_1 ?_
    refine r_sload hX dL_law_848 rfl 0 rfl ?_
    refine r_iconst hX dL_law_849 kk_i_2 ?_
    refine r_iload hX dL_law_850 11 rfl ?_
    refine r_imul hX dL_law_852 ?_
    refine r_sipush hX dL_law_853 kk_s_190 ?_
    refine r_iadd hX dL_law_856 ?_
    refine r_bipush hX dL_law_857 kk_b_100 ?_
    refine r_cSs (As := [.ref b, .int (((2 : Int32) * l21) + (190 : Int32)), .int (100 : Int32)]) (st := [.int (1 : Int32)]) hX hLw dL_law_859 kl_L_cell w_ml_L_14 w_st_L_cell (by decide) rfl (Nat.le_of_ble_eq_true rfl) rfl hro h (fun r σ1 h => wL_cell (kdLw_b hLw) h) ?_
    clear h; intro t5 σ h
    refine r_iadd hX dL_law_862 ?_
    refine r_letI h ?_
    clear h; intro t6 h
    refine r_istore (L2 := [(22, .int t6), (0, .ref b), (1, kr E l1), (2, kr E l2), (3, .int l3), (5, .int l5), (10, .int l10), (11, .int l11), (12, .int l12), (13, kr E l13), (18, kr E l18), (19, .long l19), (21, .int l21)]) hX dL_law_863 (by decide) rfl ?_
    refine r_sload hX dL_law_865 rfl 1 rfl ?_
    refine r_iconst hX dL_law_866 kk_i_2 ?_
    refine r_iload hX dL_law_867 12 rfl ?_
    refine r_imul hX dL_law_869 ?_
    refine r_sipush hX dL_law_870 kk_s_191 ?_
    refine r_iadd hX dL_law_873 ?_
    refine r_iload_n hX dL_law_874 rfl 4 rfl ?_
    refine r_cSs (As := [.ref b, .int (((2 : Int32) * l21) + (191 : Int32)), .int l3]) (st := []) hX hLw dL_law_875 kl_L_cell w_ml_L_14 w_st_L_cell (by decide) rfl (Nat.le_of_ble_eq_true rfl) rfl hro h (fun r σ1 h => wL_cell (kdLw_b hLw) h) ?_
    clear h; intro t7 σ h
    refine r_istore (L2 := [(23, .int t7), (22, .int t6), (0, .ref b), (1, kr E l1), (2, kr E l2), (3, .int l3), (5, .int l5), (10, .int l10), (11, .int l11), (12, .int l12), (13, kr E l13), (18, kr E l18), (19, .long l19), (21, .int l21)]) hX dL_law_878 (by decide) rfl ?_
    refine r_iconst hX dL_law_880 kk_i_0 ?_
    refine r_istore (L2 := [(24, .int (0 : Int32)), (23, .int t7), (22, .int t6), (0, .ref b), (1, kr E l1), (2, kr E l2), (3, .int l3), (5, .int l5), (10, .int l10), (11, .int l11), (12, .int l12), (13, kr E l13), (18, kr E l18), (19, .long l19), (21, .int l21)]) hX dL_law_881 (by decide) rfl ?_
    refine r_iconst hX dL_law_883 kk_i_0 ?_
    refine r_istore (L2 := [(25, .int (0 : Int32)), (24, .int (0 : Int32)), (23, .int t7), (22, .int t6), (0, .ref b), (1, kr E l1), (2, kr E l2), (3, .int l3), (5, .int l5), (10, .int l10), (11, .int l11), (12, .int l12), (13, kr E l13), (18, kr E l18), (19, .long l19), (21, .int l21)]) hX dL_law_884 (by decide) rfl ?_
    refine r_iconst hX dL_law_886 kk_i_0 ?_
    refine r_istore (L2 := [(26, .int (0 : Int32)), (25, .int (0 : Int32)), (24, .int (0 : Int32)), (23, .int t7), (22, .int t6), (0, .ref b), (1, kr E l1), (2, kr E l2), (3, .int l3), (5, .int l5), (10, .int l10), (11, .int l11), (12, .int l12), (13, kr E l13), (18, kr E l18), (19, .long l19), (21, .int l21)]) hX dL_law_887 (by decide) rfl ?_
    refine r_sub [5, 6, 7, 8, 9, 10, 11, 12, 13, 14, 15, 16, 4, 3, 2, 1, 0] rfl ?_
    exact wL_law_889 hX hLw hro hLe hLs k840 hk840 _ _ _ _ _ _ _ _ _ _ _ _ _ _ _ _ _ h
def L_law_840 (G : kdS) (xs : Nat → Int32) (N : Nat) : Nat → Nat → Int32 → Int32 → Int32 → Int32 → Int32 → Nat → Nat → Int64 → Int32 → kdM → Option (Unit × kdM) := lp (fun _ _ _ _ _ _ _ _ _ _ _ _ => none) (L_law_840B G xs N) NN
theorem wL_law_840 {E : kdE} {G : kdS} {A : kdA} {z : Nat × Nat} {b N : Nat} {xs : Nat → Int32} {r : Unit} {σ1 : kdM} (hX : kdX E A cL_law 29 RL (some .boolean) 8) (hLw : kdLw E A b N xs) (hro : kdRO A z.1 z.2) (hLe : kdLe A b z) (hLs : kdLs E A) : ∀ (l1 : Nat) (l2 : Nat) (l3 : Int32) (l5 : Int32) (l10 : Int32) (l11 : Int32) (l12 : Int32) (l13 : Nat) (l18 : Nat) (l19 : Int64) (l21 : Int32) (σ : kdM), L_law_840 G xs N l1 l2 l3 l5 l10 l11 l12 l13 l18 l19 l21 σ = some (r, σ1) → SW E G (.inr z) A 29 σ 840 [(0, .ref b), (1, kr E l1), (2, kr E l2), (3, .int l3), (5, .int l5), (10, .int l10), (11, .int l11), (12, .int l12), (13, kr E l13), (18, kr E l18), (19, .long l19), (21, .int l21)] [] :=
  lp_ind (Q := fun f => ∀ (l1 : Nat) (l2 : Nat) (l3 : Int32) (l5 : Int32) (l10 : Int32) (l11 : Int32) (l12 : Int32) (l13 : Nat) (l18 : Nat) (l19 : Int64) (l21 : Int32) (σ : kdM), f l1 l2 l3 l5 l10 l11 l12 l13 l18 l19 l21 σ = some (r, σ1) → SW E G (.inr z) A 29 σ 840 [(0, .ref b), (1, kr E l1), (2, kr E l2), (3, .int l3), (5, .int l5), (10, .int l10), (11, .int l11), (12, .int l12), (13, kr E l13), (18, kr E l18), (19, .long l19), (21, .int l21)] []) (by intros; contradiction) (fun k hk l1 l2 l3 l5 l10 l11 l12 l13 l18 l19 l21 σ h => wL_law_840B hX hLw hro hLe hLs k hk h) NN
def L_law_784B (G : kdS) (xs : Nat → Int32) (N : Nat) (k784 : Nat → Nat → Int32 → Int32 → Int32 → Int32 → Int32 → Nat → Int32 → Nat → Int32 → kdM → Option (Unit × kdM)) (l1 : Nat) (l2 : Nat) (l3 : Int32) (l5 : Int32) (l10 : Int32) (l11 : Int32) (l12 : Int32) (l13 : Nat) (l17 : Int32) (l18 : Nat) (l19 : Int32) : kdM → Option (Unit × kdM) :=
  cnd ((4 : Int32) ≤ l19)
    (ltL ((Int32.toInt64 l17)) fun t1 =>
    L_law_840 G xs N l1 l2 l3 l5 l10 l11 l12 l13 l18 t1 (0 : Int32))
    (kcl (L_cell G xs N (l19 + (181 : Int32)) (200 : Int32)) fun t2 =>
    tI G l18 (l19) (t2) <|
    aI G l18 (l19) fun t3 =>
    kcv G 11 l1 (X11_budget G l1 l19 t3) fun t4 =>
    cnd (t4 = (100 : Int32))
      (ltI (l19 + Int32.ofInt 1) fun t5 =>
      k784 l1 l2 l3 l5 l10 l11 l12 l13 l17 l18 t5)
      (fun _ => none))
set_option maxRecDepth 100000 in
set_option maxHeartbeats 4000000 in
theorem wL_law_784B {E : kdE} {G : kdS} {A : kdA} {z : Nat × Nat} {b N : Nat} {xs : Nat → Int32} {r : Unit} {σ1 : kdM} (hX : kdX E A cL_law 29 RL (some .boolean) 8) (hLw : kdLw E A b N xs) (hro : kdRO A z.1 z.2) (hLe : kdLe A b z) (hLs : kdLs E A) (k784 : Nat → Nat → Int32 → Int32 → Int32 → Int32 → Int32 → Nat → Int32 → Nat → Int32 → kdM → Option (Unit × kdM)) (hk784 : ∀ (l1 : Nat) (l2 : Nat) (l3 : Int32) (l5 : Int32) (l10 : Int32) (l11 : Int32) (l12 : Int32) (l13 : Nat) (l17 : Int32) (l18 : Nat) (l19 : Int32) (σ : kdM), k784 l1 l2 l3 l5 l10 l11 l12 l13 l17 l18 l19 σ = some (r, σ1) → SW E G (.inr z) A 29 σ 784 [(0, .ref b), (1, kr E l1), (2, kr E l2), (3, .int l3), (5, .int l5), (10, .int l10), (11, .int l11), (12, .int l12), (13, kr E l13), (17, .int l17), (18, kr E l18), (19, .int l19)] []) {l1 : Nat} {l2 : Nat} {l3 : Int32} {l5 : Int32} {l10 : Int32} {l11 : Int32} {l12 : Int32} {l13 : Nat} {l17 : Int32} {l18 : Nat} {l19 : Int32} {σ : kdM} (h : L_law_784B G xs N k784 l1 l2 l3 l5 l10 l11 l12 l13 l17 l18 l19 σ = some (r, σ1)) : SW E G (.inr z) A 29 σ 784 [(0, .ref b), (1, kr E l1), (2, kr E l2), (3, .int l3), (5, .int l5), (10, .int l10), (11, .int l11), (12, .int l12), (13, kr E l13), (17, .int l17), (18, kr E l18), (19, .int l19)] [] := by
  unfold L_law_784B at h
  refine r_iload hX dL_law_784 11 rfl ?_
  refine r_iconst hX dL_law_786 kk_i_4 ?_
  refine r_icmp_ge (tgt := 832) hX dL_law_787 (by decide) h ?_ ?_
  · clear h; intro h
    refine r_iload hX dL_law_832 9 rfl ?_
    refine r_i2l hX dL_law_834 ?_
    refine r_letL h ?_
    clear h; intro t1 h
    refine r_lstore (L2 := [(19, .long t1), (0, .ref b), (1, kr E l1), (2, kr E l2), (3, .int l3), (5, .int l5), (10, .int l10), (11, .int l11), (12, .int l12), (13, kr E l13), (17, .int l17), (18, kr E l18)]) hX dL_law_835 (by decide) rfl ?_
    refine r_iconst hX dL_law_837 kk_i_0 ?_
    refine r_istore (L2 := [(21, .int (0 : Int32)), (19, .long t1), (0, .ref b), (1, kr E l1), (2, kr E l2), (3, .int l3), (5, .int l5), (10, .int l10), (11, .int l11), (12, .int l12), (13, kr E l13), (17, .int l17), (18, kr E l18)]) hX dL_law_838 (by decide) rfl ?_
    refine r_sub [2, 3, 4, 5, 6, 7, 8, 9, 10, 12, 1, 0] rfl ?_
    exact wL_law_840 hX hLw hro hLe hLs _ _ _ _ _ _ _ _ _ _ _ _ h
  · clear h; intro h
    refine r_aload hX dL_law_790 10 rfl ?_
    refine r_iload hX dL_law_792 11 rfl ?_
    refine r_sload hX dL_law_794 rfl 0 rfl ?_
    refine r_iload hX dL_law_795 11 rfl ?_
    refine r_sipush hX dL_law_797 kk_s_181 ?_
    refine r_iadd hX dL_law_800 ?_
    refine r_sipush hX dL_law_801 kk_s_200 ?_
    refine r_cSs (As := [.ref b, .int (l19 + (181 : Int32)), .int (200 : Int32)]) (st := [.int l19, kr E l18]) hX hLw dL_law_804 kl_L_cell w_ml_L_14 w_st_L_cell (by decide) rfl (Nat.le_of_ble_eq_true rfl) rfl hro h (fun r σ1 h => wL_cell (kdLw_b hLw) h) ?_
    clear h; intro t2 σ h
    refine r_tI hX dL_law_807 h ?_
    clear h; intro σ h
    refine r_aload_n hX dL_law_808 rfl 1 rfl ?_
    refine r_iload hX dL_law_809 11 rfl ?_
    refine r_aload hX dL_law_811 10 rfl ?_
    refine r_iload hX dL_law_813 11 rfl ?_
    refine r_aI hX dL_law_815 h ?_
    clear h; intro t3 h
    refine r_cVi (As := [.int l19, .int t3]) (st := []) hX dL_law_816 kl_X11_budget w_ml_L_63 w_im_X11_budget w_se_X11_budget ⟨_, _, rfl⟩ (by decide) rfl (Nat.le_of_ble_eq_true rfl) rfl hro h (fun r σ1 h => wX11_budget h) ?_
    clear h; intro t4 σ h
    refine r_bipush hX dL_law_819 kk_b_100 ?_
    refine r_icmp_eq (tgt := 826) hX dL_law_821 (by decide) h ?_ ?_
    · clear h; intro h
      refine r_iincL (L2 := fun t5 => [(19, .int t5), (0, .ref b), (1, kr E l1), (2, kr E l2), (3, .int l3), (5, .int l5), (10, .int l10), (11, .int l11), (12, .int l12), (13, kr E l13), (17, .int l17), (18, kr E l18)]) hX dL_law_826 h 11 rfl (by decide) (fun _ => rfl) ?_
      clear h; intro t5 h
      refine r_goto (tgt := 784) hX dL_law_829 (by decide) ?_
      refine r_sub [1, 2, 3, 4, 5, 6, 7, 8, 9, 10, 11, 0] rfl ?_
      exact hk784 _ _ _ _ _ _ _ _ _ _ _ _ h
    · clear h; intro h
      exact absurd (show (none : Option (Unit × kdM)) = some (r, σ1) from h) (by simp)
def L_law_784 (G : kdS) (xs : Nat → Int32) (N : Nat) : Nat → Nat → Int32 → Int32 → Int32 → Int32 → Int32 → Nat → Int32 → Nat → Int32 → kdM → Option (Unit × kdM) := lp (fun _ _ _ _ _ _ _ _ _ _ _ _ => none) (L_law_784B G xs N) NN
theorem wL_law_784 {E : kdE} {G : kdS} {A : kdA} {z : Nat × Nat} {b N : Nat} {xs : Nat → Int32} {r : Unit} {σ1 : kdM} (hX : kdX E A cL_law 29 RL (some .boolean) 8) (hLw : kdLw E A b N xs) (hro : kdRO A z.1 z.2) (hLe : kdLe A b z) (hLs : kdLs E A) : ∀ (l1 : Nat) (l2 : Nat) (l3 : Int32) (l5 : Int32) (l10 : Int32) (l11 : Int32) (l12 : Int32) (l13 : Nat) (l17 : Int32) (l18 : Nat) (l19 : Int32) (σ : kdM), L_law_784 G xs N l1 l2 l3 l5 l10 l11 l12 l13 l17 l18 l19 σ = some (r, σ1) → SW E G (.inr z) A 29 σ 784 [(0, .ref b), (1, kr E l1), (2, kr E l2), (3, .int l3), (5, .int l5), (10, .int l10), (11, .int l11), (12, .int l12), (13, kr E l13), (17, .int l17), (18, kr E l18), (19, .int l19)] [] :=
  lp_ind (Q := fun f => ∀ (l1 : Nat) (l2 : Nat) (l3 : Int32) (l5 : Int32) (l10 : Int32) (l11 : Int32) (l12 : Int32) (l13 : Nat) (l17 : Int32) (l18 : Nat) (l19 : Int32) (σ : kdM), f l1 l2 l3 l5 l10 l11 l12 l13 l17 l18 l19 σ = some (r, σ1) → SW E G (.inr z) A 29 σ 784 [(0, .ref b), (1, kr E l1), (2, kr E l2), (3, .int l3), (5, .int l5), (10, .int l10), (11, .int l11), (12, .int l12), (13, kr E l13), (17, .int l17), (18, kr E l18), (19, .int l19)] []) (by intros; contradiction) (fun k hk l1 l2 l3 l5 l10 l11 l12 l13 l17 l18 l19 σ h => wL_law_784B hX hLw hro hLe hLs k hk h) NN
def L_law_s4 (G : kdS) (xs : Nat → Int32) (N : Nat) (l1 : Nat) (l2 : Nat) (l3 : Int32) (l5 : Int32) (l10 : Int32) (l11 : Int32) (l12 : Int32) (l13 : Nat) (l17 : Int32) (l18 : Nat) : kdM → Option (Unit × kdM) :=
  L_law_784 G xs N l1 l2 l3 l5 l10 l11 l12 l13 l17 l18 (0 : Int32)
set_option maxRecDepth 100000 in
set_option maxHeartbeats 4000000 in
theorem wL_law_s4 {E : kdE} {G : kdS} {A : kdA} {z : Nat × Nat} {b N : Nat} {xs : Nat → Int32} {r : Unit} {σ1 : kdM} (hX : kdX E A cL_law 29 RL (some .boolean) 8) (hLw : kdLw E A b N xs) (hro : kdRO A z.1 z.2) (hLe : kdLe A b z) (hLs : kdLs E A) {l1 : Nat} {l2 : Nat} {l3 : Int32} {l5 : Int32} {l10 : Int32} {l11 : Int32} {l12 : Int32} {l13 : Nat} {l17 : Int32} {l18 : Nat} {σ : kdM} (h : L_law_s4 G xs N l1 l2 l3 l5 l10 l11 l12 l13 l17 l18 σ = some (r, σ1)) : SW E G (.inr z) A 29 σ 781 [(0, .ref b), (1, kr E l1), (2, kr E l2), (3, .int l3), (5, .int l5), (10, .int l10), (11, .int l11), (12, .int l12), (13, kr E l13), (17, .int l17), (18, kr E l18)] [] := by
  unfold L_law_s4 at h
  refine r_iconst hX dL_law_781 kk_i_0 ?_
  refine r_istore (L2 := [(19, .int (0 : Int32)), (0, .ref b), (1, kr E l1), (2, kr E l2), (3, .int l3), (5, .int l5), (10, .int l10), (11, .int l11), (12, .int l12), (13, kr E l13), (17, .int l17), (18, kr E l18)]) hX dL_law_782 (by decide) rfl ?_
  refine r_sub [1, 2, 3, 4, 5, 6, 7, 8, 9, 10, 11, 0] rfl ?_
  exact wL_law_784 hX hLw hro hLe hLs _ _ _ _ _ _ _ _ _ _ _ _ h
