-- the head of this part is a starting text (kit/laws/SKELETON.whole); the rest by program (wip/whole/gen/mk40.py)
def R_law : String := "KeyDeskLaw"
def lw_P (b : Addr) (xs : List Int32) (args : Array Value) (s : State) : Prop := args = #[.ref b] ∧ s.IntsAt b xs ∧ xs.length ≤ 3072 ∧ (Jvm.Cond.and given_1 narrow_1).before args s = true
def lw_Q (_ : Array Value) (s : State) (o : Outcome) (t : State) : Prop := o = .returned (some (.int 1)) ∧ Framed s o t [] 600000 7302250
def lw_Z (below : List Frame) (a : Array Value) (s : State) : State → Prop := fun t => ∃ o, t.status = .running ∧ Ended t below o ∧ lw_Q a s o t
/-- the law's own end, with 1 on the stack, nothing written that was there before, its room as the claim has it -/
theorem lw_ret {p : Program} {l : Launch} {e : Env} {s : State} {m : MethodId} {below : List Frame} {meth : Method} {c : Code} {b : Nat} (hx : p.tables.exec = Jvm.exec) (hb : c.code = code) (hr : meth.sig.returnType = ret) (hlocks : meth.locks = false) {pc : Nat} {H : Heap} {ls : Array Slot} (hdg : decode code pc = .ok (.ireturn, 1)) : W p l e room_1 s m #[Value.ref b] below meth c H [] 600000 7302250 (lw_Z below #[Value.ref b] s) (F0 m pc ls [.int 1]) := by
  intro T hT X
  obtain ⟨fs, hret, hrun, hended, hW, hframe⟩ := X.leave (v := some (.int 1)) (hlocks := hlocks) (fun h => by rw [hr] at h; cases h)
  have hmeth' : T.vm.method? m = some meth := X.method'
  refine ⟨T.setFrames fs, ?_, .returned (some (.int 1)), hrun, hended, rfl, ⟨_, rfl⟩, hW, hframe⟩
  jvm_step X.here [X.here.top, hx, hb, hdg, hmeth', hr, ret, narrow_b1]
  (try refine ⟨rfl, ?_⟩); (try refine ⟨rfl, ?_⟩)
  first | (intro acts; rw [hret _ acts rfl rfl rfl]) | rw [hret _ _ rfl rfl rfl]
  exact Steps.refl _
/-- what holds at the law's entry: the machine, the code, the tables' words (any of lw_tbl by 'hts w (by decide +kernel)'), the script of L ints xs at the cell b, what the Statement gives of the start (any of its parts by flat_of_before) -/
def lw_At (p : Program) (s : State) (m : MethodId) (meth : Method) (c : Code) (b L : Nat) (xs : Nat → Int32) : Prop :=
  p.tables.exec = Jvm.exec ∧ c.code = code ∧ meth.sig.returnType = ret ∧ c.maxLocals = 4 ∧ s.vm.findClass R_law = some m.cls ∧ (∀ w ∈ lw_tbl, w.before #[Value.ref b] s = true) ∧ va_X b L xs s s.heap ∧ b < s.heap.size ∧ meth.locks = false ∧ (Jvm.Cond.and given_1 narrow_1).before #[Value.ref b] s = true
def kdYo (A : kdA) : Prop := match A with
  | (_, _, _, s, _, _, _, _, _) => kdO s
def kdLw (E : kdE) (A : kdA) (b N : Nat) (xs : Nat → Int32) : Prop := match A with
  | (_, _, _, s, _, _, _, _, _) => va_X b N xs s s.heap ∧ b < s.heap.size ∧ E.2.2.2 = s.heap.size
def kdLe (A : kdA) (b : Nat) (z : Nat × Nat) : Prop := match A with
  | (_, _, R, _, _, args, _, meth, _) => R = room_1 ∧ args = #[.ref b] ∧ z.1 ≤ 600000 ∧ z.2 ≤ 7302250 ∧ meth.sig.returnType = ret
def scd {β : Type} (xs : Nat → Int32) (N : Nat) (i : Int32) (f : Int32 → kdM → Option β) : kdM → Option β := fun σ => if 0 ≤ i.toInt ∧ i.toInt < (N : Int) then f (xs (ix i)) σ else none
theorem w_cL_L_7 : Cond.classLink RL 7 "KeyDesk" ∈ kdtb := kdtb_mem 97 (by decide +kernel) rfl
theorem w_cL_L_10 : Cond.classLink RL 10 "KeyDeskModel" ∈ kdtb := kdtb_mem 1325 (by decide +kernel) rfl
theorem w_is_X11 : Cond.instantiable "KeyDesk" 12 ∈ kdtb := kdtb_mem 98 (by decide +kernel) rfl
theorem w_is_X12 : Cond.instantiable "KeyDeskModel" 66 ∈ kdtb := kdtb_mem 1326 (by decide +kernel) rfl
theorem w_cd_X11_key : Cond.code yX11_key cX11_key 2 (some .int) ∈ kdtb := kdtb_mem 460 (by decide +kernel) rfl
theorem w_ml_L_13 : Cond.methodLink RL 13 yX11_key ∈ kdtb := kdtb_mem 457 (by decide +kernel) rfl
theorem w_im_X11_key : Cond.instanceMethod yX11_key ∈ kdtb := kdtb_mem 458 (by decide +kernel) rfl
theorem w_se_X11_key : Cond.selects yX11_key.cls yX11_key yX11_key ∈ kdtb := kdtb_mem 459 (by decide +kernel) rfl
theorem w_cd_X12_key : Cond.code yX12_key cX12_key 2 (some .int) ∈ kdtb := kdtb_mem 1537 (by decide +kernel) rfl
theorem w_ml_L_17 : Cond.methodLink RL 17 yX12_key ∈ kdtb := kdtb_mem 1534 (by decide +kernel) rfl
theorem w_im_X12_key : Cond.instanceMethod yX12_key ∈ kdtb := kdtb_mem 1535 (by decide +kernel) rfl
theorem w_se_X12_key : Cond.selects yX12_key.cls yX12_key yX12_key ∈ kdtb := kdtb_mem 1536 (by decide +kernel) rfl
theorem w_cd_X11_letter : Cond.code yX11_letter cX11_letter 2 (some .int) ∈ kdtb := kdtb_mem 487 (by decide +kernel) rfl
theorem w_ml_L_18 : Cond.methodLink RL 18 yX11_letter ∈ kdtb := kdtb_mem 484 (by decide +kernel) rfl
theorem w_im_X11_letter : Cond.instanceMethod yX11_letter ∈ kdtb := kdtb_mem 485 (by decide +kernel) rfl
theorem w_se_X11_letter : Cond.selects yX11_letter.cls yX11_letter yX11_letter ∈ kdtb := kdtb_mem 486 (by decide +kernel) rfl
theorem w_cd_X12_letter : Cond.code yX12_letter cX12_letter 2 (some .int) ∈ kdtb := kdtb_mem 1545 (by decide +kernel) rfl
theorem w_ml_L_21 : Cond.methodLink RL 21 yX12_letter ∈ kdtb := kdtb_mem 1542 (by decide +kernel) rfl
theorem w_im_X12_letter : Cond.instanceMethod yX12_letter ∈ kdtb := kdtb_mem 1543 (by decide +kernel) rfl
theorem w_se_X12_letter : Cond.selects yX12_letter.cls yX12_letter yX12_letter ∈ kdtb := kdtb_mem 1544 (by decide +kernel) rfl
theorem w_cd_X11_wipe : Cond.code yX11_wipe cX11_wipe 2 (some .int) ∈ kdtb := kdtb_mem 494 (by decide +kernel) rfl
theorem w_ml_L_22 : Cond.methodLink RL 22 yX11_wipe ∈ kdtb := kdtb_mem 491 (by decide +kernel) rfl
theorem w_im_X11_wipe : Cond.instanceMethod yX11_wipe ∈ kdtb := kdtb_mem 492 (by decide +kernel) rfl
theorem w_se_X11_wipe : Cond.selects yX11_wipe.cls yX11_wipe yX11_wipe ∈ kdtb := kdtb_mem 493 (by decide +kernel) rfl
theorem w_cd_X12_wipe : Cond.code yX12_wipe cX12_wipe 3 (some .int) ∈ kdtb := kdtb_mem 1550 (by decide +kernel) rfl
theorem w_ml_L_25 : Cond.methodLink RL 25 yX12_wipe ∈ kdtb := kdtb_mem 1547 (by decide +kernel) rfl
theorem w_im_X12_wipe : Cond.instanceMethod yX12_wipe ∈ kdtb := kdtb_mem 1548 (by decide +kernel) rfl
theorem w_se_X12_wipe : Cond.selects yX12_wipe.cls yX12_wipe yX12_wipe ∈ kdtb := kdtb_mem 1549 (by decide +kernel) rfl
theorem w_cd_X11_rule : Cond.code yX11_rule cX11_rule 3 (some .int) ∈ kdtb := kdtb_mem 507 (by decide +kernel) rfl
theorem w_ml_L_26 : Cond.methodLink RL 26 yX11_rule ∈ kdtb := kdtb_mem 504 (by decide +kernel) rfl
theorem w_im_X11_rule : Cond.instanceMethod yX11_rule ∈ kdtb := kdtb_mem 505 (by decide +kernel) rfl
theorem w_se_X11_rule : Cond.selects yX11_rule.cls yX11_rule yX11_rule ∈ kdtb := kdtb_mem 506 (by decide +kernel) rfl
theorem w_cd_X12_rule : Cond.code yX12_rule cX12_rule 4 (some .int) ∈ kdtb := kdtb_mem 1554 (by decide +kernel) rfl
theorem w_ml_L_29 : Cond.methodLink RL 29 yX12_rule ∈ kdtb := kdtb_mem 1551 (by decide +kernel) rfl
theorem w_im_X12_rule : Cond.instanceMethod yX12_rule ∈ kdtb := kdtb_mem 1552 (by decide +kernel) rfl
theorem w_se_X12_rule : Cond.selects yX12_rule.cls yX12_rule yX12_rule ∈ kdtb := kdtb_mem 1553 (by decide +kernel) rfl
theorem w_cd_X11_join : Cond.code yX11_join cX11_join 5 (some .int) ∈ kdtb := kdtb_mem 533 (by decide +kernel) rfl
theorem w_ml_L_30 : Cond.methodLink RL 30 yX11_join ∈ kdtb := kdtb_mem 530 (by decide +kernel) rfl
theorem w_im_X11_join : Cond.instanceMethod yX11_join ∈ kdtb := kdtb_mem 531 (by decide +kernel) rfl
theorem w_se_X11_join : Cond.selects yX11_join.cls yX11_join yX11_join ∈ kdtb := kdtb_mem 532 (by decide +kernel) rfl
theorem w_cd_X12_join : Cond.code yX12_join cX12_join 6 (some .int) ∈ kdtb := kdtb_mem 1562 (by decide +kernel) rfl
theorem w_ml_L_34 : Cond.methodLink RL 34 yX12_join ∈ kdtb := kdtb_mem 1559 (by decide +kernel) rfl
theorem w_im_X12_join : Cond.instanceMethod yX12_join ∈ kdtb := kdtb_mem 1560 (by decide +kernel) rfl
theorem w_se_X12_join : Cond.selects yX12_join.cls yX12_join yX12_join ∈ kdtb := kdtb_mem 1561 (by decide +kernel) rfl
theorem w_cd_X12_own : Cond.code yX12_own cX12_own 5 (some .int) ∈ kdtb := kdtb_mem 1569 (by decide +kernel) rfl
theorem w_ml_L_39 : Cond.methodLink RL 39 yX12_own ∈ kdtb := kdtb_mem 1566 (by decide +kernel) rfl
theorem w_im_X12_own : Cond.instanceMethod yX12_own ∈ kdtb := kdtb_mem 1567 (by decide +kernel) rfl
theorem w_se_X12_own : Cond.selects yX12_own.cls yX12_own yX12_own ∈ kdtb := kdtb_mem 1568 (by decide +kernel) rfl
theorem w_cd_X11_own : Cond.code yX11_own cX11_own 4 (some .int) ∈ kdtb := kdtb_mem 548 (by decide +kernel) rfl
theorem w_ml_L_35 : Cond.methodLink RL 35 yX11_own ∈ kdtb := kdtb_mem 545 (by decide +kernel) rfl
theorem w_im_X11_own : Cond.instanceMethod yX11_own ∈ kdtb := kdtb_mem 546 (by decide +kernel) rfl
theorem w_se_X11_own : Cond.selects yX11_own.cls yX11_own yX11_own ∈ kdtb := kdtb_mem 547 (by decide +kernel) rfl
theorem w_cd_X11_quarrel : Cond.code yX11_quarrel cX11_quarrel 3 (some .int) ∈ kdtb := kdtb_mem 556 (by decide +kernel) rfl
theorem w_ml_L_40 : Cond.methodLink RL 40 yX11_quarrel ∈ kdtb := kdtb_mem 553 (by decide +kernel) rfl
theorem w_im_X11_quarrel : Cond.instanceMethod yX11_quarrel ∈ kdtb := kdtb_mem 554 (by decide +kernel) rfl
theorem w_se_X11_quarrel : Cond.selects yX11_quarrel.cls yX11_quarrel yX11_quarrel ∈ kdtb := kdtb_mem 555 (by decide +kernel) rfl
theorem w_cd_X12_quarrel : Cond.code yX12_quarrel cX12_quarrel 7 (some .int) ∈ kdtb := kdtb_mem 1573 (by decide +kernel) rfl
theorem w_ml_L_44 : Cond.methodLink RL 44 yX12_quarrel ∈ kdtb := kdtb_mem 1570 (by decide +kernel) rfl
theorem w_im_X12_quarrel : Cond.instanceMethod yX12_quarrel ∈ kdtb := kdtb_mem 1571 (by decide +kernel) rfl
theorem w_se_X12_quarrel : Cond.selects yX12_quarrel.cls yX12_quarrel yX12_quarrel ∈ kdtb := kdtb_mem 1572 (by decide +kernel) rfl
theorem w_cd_X11_idle : Cond.code yX11_idle cX11_idle 3 (some .int) ∈ kdtb := kdtb_mem 572 (by decide +kernel) rfl
theorem w_ml_L_45 : Cond.methodLink RL 45 yX11_idle ∈ kdtb := kdtb_mem 569 (by decide +kernel) rfl
theorem w_im_X11_idle : Cond.instanceMethod yX11_idle ∈ kdtb := kdtb_mem 570 (by decide +kernel) rfl
theorem w_se_X11_idle : Cond.selects yX11_idle.cls yX11_idle yX11_idle ∈ kdtb := kdtb_mem 571 (by decide +kernel) rfl
theorem w_cd_X12_idle : Cond.code yX12_idle cX12_idle 7 (some .int) ∈ kdtb := kdtb_mem 1585 (by decide +kernel) rfl
theorem w_ml_L_48 : Cond.methodLink RL 48 yX12_idle ∈ kdtb := kdtb_mem 1582 (by decide +kernel) rfl
theorem w_im_X12_idle : Cond.instanceMethod yX12_idle ∈ kdtb := kdtb_mem 1583 (by decide +kernel) rfl
theorem w_se_X12_idle : Cond.selects yX12_idle.cls yX12_idle yX12_idle ∈ kdtb := kdtb_mem 1584 (by decide +kernel) rfl
theorem w_cd_X11_missing : Cond.code yX11_missing cX11_missing 3 (some .int) ∈ kdtb := kdtb_mem 592 (by decide +kernel) rfl
theorem w_ml_L_49 : Cond.methodLink RL 49 yX11_missing ∈ kdtb := kdtb_mem 589 (by decide +kernel) rfl
theorem w_im_X11_missing : Cond.instanceMethod yX11_missing ∈ kdtb := kdtb_mem 590 (by decide +kernel) rfl
theorem w_se_X11_missing : Cond.selects yX11_missing.cls yX11_missing yX11_missing ∈ kdtb := kdtb_mem 591 (by decide +kernel) rfl
theorem w_cd_X12_missing : Cond.code yX12_missing cX12_missing 5 (some .int) ∈ kdtb := kdtb_mem 1593 (by decide +kernel) rfl
theorem w_ml_L_52 : Cond.methodLink RL 52 yX12_missing ∈ kdtb := kdtb_mem 1590 (by decide +kernel) rfl
theorem w_im_X12_missing : Cond.instanceMethod yX12_missing ∈ kdtb := kdtb_mem 1591 (by decide +kernel) rfl
theorem w_se_X12_missing : Cond.selects yX12_missing.cls yX12_missing yX12_missing ∈ kdtb := kdtb_mem 1592 (by decide +kernel) rfl
theorem w_cd_X11_speak : Cond.code yX11_speak cX11_speak 2 (some .int) ∈ kdtb := kdtb_mem 621 (by decide +kernel) rfl
theorem w_ml_L_53 : Cond.methodLink RL 53 yX11_speak ∈ kdtb := kdtb_mem 618 (by decide +kernel) rfl
theorem w_im_X11_speak : Cond.instanceMethod yX11_speak ∈ kdtb := kdtb_mem 619 (by decide +kernel) rfl
theorem w_se_X11_speak : Cond.selects yX11_speak.cls yX11_speak yX11_speak ∈ kdtb := kdtb_mem 620 (by decide +kernel) rfl
theorem w_cd_X12_speak : Cond.code yX12_speak cX12_speak 3 (some .int) ∈ kdtb := kdtb_mem 1601 (by decide +kernel) rfl
theorem w_ml_L_56 : Cond.methodLink RL 56 yX12_speak ∈ kdtb := kdtb_mem 1598 (by decide +kernel) rfl
theorem w_im_X12_speak : Cond.instanceMethod yX12_speak ∈ kdtb := kdtb_mem 1599 (by decide +kernel) rfl
theorem w_se_X12_speak : Cond.selects yX12_speak.cls yX12_speak yX12_speak ∈ kdtb := kdtb_mem 1600 (by decide +kernel) rfl
theorem w_cd_X11_strike : Cond.code yX11_strike cX11_strike 3 (some .int) ∈ kdtb := kdtb_mem 629 (by decide +kernel) rfl
theorem w_ml_L_57 : Cond.methodLink RL 57 yX11_strike ∈ kdtb := kdtb_mem 626 (by decide +kernel) rfl
theorem w_im_X11_strike : Cond.instanceMethod yX11_strike ∈ kdtb := kdtb_mem 627 (by decide +kernel) rfl
theorem w_se_X11_strike : Cond.selects yX11_strike.cls yX11_strike yX11_strike ∈ kdtb := kdtb_mem 628 (by decide +kernel) rfl
theorem w_cd_X12_strike : Cond.code yX12_strike cX12_strike 4 (some .int) ∈ kdtb := kdtb_mem 1605 (by decide +kernel) rfl
theorem w_ml_L_60 : Cond.methodLink RL 60 yX12_strike ∈ kdtb := kdtb_mem 1602 (by decide +kernel) rfl
theorem w_im_X12_strike : Cond.instanceMethod yX12_strike ∈ kdtb := kdtb_mem 1603 (by decide +kernel) rfl
theorem w_se_X12_strike : Cond.selects yX12_strike.cls yX12_strike yX12_strike ∈ kdtb := kdtb_mem 1604 (by decide +kernel) rfl
theorem w_cd_X11_change : Cond.code yX11_change cX11_change 3 (some .int) ∈ kdtb := kdtb_mem 638 (by decide +kernel) rfl
theorem w_ml_L_61 : Cond.methodLink RL 61 yX11_change ∈ kdtb := kdtb_mem 635 (by decide +kernel) rfl
theorem w_im_X11_change : Cond.instanceMethod yX11_change ∈ kdtb := kdtb_mem 636 (by decide +kernel) rfl
theorem w_se_X11_change : Cond.selects yX11_change.cls yX11_change yX11_change ∈ kdtb := kdtb_mem 637 (by decide +kernel) rfl
theorem w_cd_X12_change : Cond.code yX12_change cX12_change 4 (some .int) ∈ kdtb := kdtb_mem 1612 (by decide +kernel) rfl
theorem w_ml_L_64 : Cond.methodLink RL 64 yX12_change ∈ kdtb := kdtb_mem 1609 (by decide +kernel) rfl
theorem w_im_X12_change : Cond.instanceMethod yX12_change ∈ kdtb := kdtb_mem 1610 (by decide +kernel) rfl
theorem w_se_X12_change : Cond.selects yX12_change.cls yX12_change yX12_change ∈ kdtb := kdtb_mem 1611 (by decide +kernel) rfl
theorem w_cd_X11_back : Cond.code yX11_back cX11_back 2 (some .int) ∈ kdtb := kdtb_mem 652 (by decide +kernel) rfl
theorem w_ml_L_65 : Cond.methodLink RL 65 yX11_back ∈ kdtb := kdtb_mem 649 (by decide +kernel) rfl
theorem w_im_X11_back : Cond.instanceMethod yX11_back ∈ kdtb := kdtb_mem 650 (by decide +kernel) rfl
theorem w_se_X11_back : Cond.selects yX11_back.cls yX11_back yX11_back ∈ kdtb := kdtb_mem 651 (by decide +kernel) rfl
theorem w_cd_X12_back : Cond.code yX12_back cX12_back 4 (some .int) ∈ kdtb := kdtb_mem 1616 (by decide +kernel) rfl
theorem w_ml_L_68 : Cond.methodLink RL 68 yX12_back ∈ kdtb := kdtb_mem 1613 (by decide +kernel) rfl
theorem w_im_X12_back : Cond.instanceMethod yX12_back ∈ kdtb := kdtb_mem 1614 (by decide +kernel) rfl
theorem w_se_X12_back : Cond.selects yX12_back.cls yX12_back yX12_back ∈ kdtb := kdtb_mem 1615 (by decide +kernel) rfl
theorem w_cd_X11_stands : Cond.code yX11_stands cX11_stands 2 (some .int) ∈ kdtb := kdtb_mem 660 (by decide +kernel) rfl
theorem w_ml_L_69 : Cond.methodLink RL 69 yX11_stands ∈ kdtb := kdtb_mem 657 (by decide +kernel) rfl
theorem w_im_X11_stands : Cond.instanceMethod yX11_stands ∈ kdtb := kdtb_mem 658 (by decide +kernel) rfl
theorem w_se_X11_stands : Cond.selects yX11_stands.cls yX11_stands yX11_stands ∈ kdtb := kdtb_mem 659 (by decide +kernel) rfl
theorem w_cd_X12_stands : Cond.code yX12_stands cX12_stands 2 (some .int) ∈ kdtb := kdtb_mem 1620 (by decide +kernel) rfl
theorem w_ml_L_72 : Cond.methodLink RL 72 yX12_stands ∈ kdtb := kdtb_mem 1617 (by decide +kernel) rfl
theorem w_im_X12_stands : Cond.instanceMethod yX12_stands ∈ kdtb := kdtb_mem 1618 (by decide +kernel) rfl
theorem w_se_X12_stands : Cond.selects yX12_stands.cls yX12_stands yX12_stands ∈ kdtb := kdtb_mem 1619 (by decide +kernel) rfl
theorem w_cd_X11_piece : Cond.code yX11_piece cX11_piece 2 (some .int) ∈ kdtb := kdtb_mem 717 (by decide +kernel) rfl
theorem w_ml_L_73 : Cond.methodLink RL 73 yX11_piece ∈ kdtb := kdtb_mem 714 (by decide +kernel) rfl
theorem w_im_X11_piece : Cond.instanceMethod yX11_piece ∈ kdtb := kdtb_mem 715 (by decide +kernel) rfl
theorem w_se_X11_piece : Cond.selects yX11_piece.cls yX11_piece yX11_piece ∈ kdtb := kdtb_mem 716 (by decide +kernel) rfl
theorem w_cd_X12_piece : Cond.code yX12_piece cX12_piece 2 (some .int) ∈ kdtb := kdtb_mem 1640 (by decide +kernel) rfl
theorem w_ml_L_76 : Cond.methodLink RL 76 yX12_piece ∈ kdtb := kdtb_mem 1637 (by decide +kernel) rfl
theorem w_im_X12_piece : Cond.instanceMethod yX12_piece ∈ kdtb := kdtb_mem 1638 (by decide +kernel) rfl
theorem w_se_X12_piece : Cond.selects yX12_piece.cls yX12_piece yX12_piece ∈ kdtb := kdtb_mem 1639 (by decide +kernel) rfl
theorem w_cd_X11_could : Cond.code yX11_could cX11_could 1 (some .int) ∈ kdtb := kdtb_mem 727 (by decide +kernel) rfl
theorem w_ml_L_77 : Cond.methodLink RL 77 yX11_could ∈ kdtb := kdtb_mem 724 (by decide +kernel) rfl
theorem w_im_X11_could : Cond.instanceMethod yX11_could ∈ kdtb := kdtb_mem 725 (by decide +kernel) rfl
theorem w_se_X11_could : Cond.selects yX11_could.cls yX11_could yX11_could ∈ kdtb := kdtb_mem 726 (by decide +kernel) rfl
theorem w_cd_X12_could : Cond.code yX12_could cX12_could 8 (some .int) ∈ kdtb := kdtb_mem 1644 (by decide +kernel) rfl
theorem w_ml_L_81 : Cond.methodLink RL 81 yX12_could ∈ kdtb := kdtb_mem 1641 (by decide +kernel) rfl
theorem w_im_X12_could : Cond.instanceMethod yX12_could ∈ kdtb := kdtb_mem 1642 (by decide +kernel) rfl
theorem w_se_X12_could : Cond.selects yX12_could.cls yX12_could yX12_could ∈ kdtb := kdtb_mem 1643 (by decide +kernel) rfl
theorem w_cd_X11_word : Cond.code yX11_word cX11_word 5 (some .int) ∈ kdtb := kdtb_mem 740 (by decide +kernel) rfl
theorem w_ml_L_82 : Cond.methodLink RL 82 yX11_word ∈ kdtb := kdtb_mem 737 (by decide +kernel) rfl
theorem w_im_X11_word : Cond.instanceMethod yX11_word ∈ kdtb := kdtb_mem 738 (by decide +kernel) rfl
theorem w_se_X11_word : Cond.selects yX11_word.cls yX11_word yX11_word ∈ kdtb := kdtb_mem 739 (by decide +kernel) rfl
theorem w_cd_X12_word : Cond.code yX12_word cX12_word 5 (some .int) ∈ kdtb := kdtb_mem 1648 (by decide +kernel) rfl
theorem w_ml_L_86 : Cond.methodLink RL 86 yX12_word ∈ kdtb := kdtb_mem 1645 (by decide +kernel) rfl
theorem w_im_X12_word : Cond.instanceMethod yX12_word ∈ kdtb := kdtb_mem 1646 (by decide +kernel) rfl
theorem w_se_X12_word : Cond.selects yX12_word.cls yX12_word yX12_word ∈ kdtb := kdtb_mem 1647 (by decide +kernel) rfl
theorem w_cd_X11_ofWord : Cond.code yX11_ofWord cX11_ofWord 3 (some .int) ∈ kdtb := kdtb_mem 761 (by decide +kernel) rfl
theorem w_ml_L_87 : Cond.methodLink RL 87 yX11_ofWord ∈ kdtb := kdtb_mem 758 (by decide +kernel) rfl
theorem w_im_X11_ofWord : Cond.instanceMethod yX11_ofWord ∈ kdtb := kdtb_mem 759 (by decide +kernel) rfl
theorem w_se_X11_ofWord : Cond.selects yX11_ofWord.cls yX11_ofWord yX11_ofWord ∈ kdtb := kdtb_mem 760 (by decide +kernel) rfl
theorem w_cd_X12_ofWord : Cond.code yX12_ofWord cX12_ofWord 3 (some .int) ∈ kdtb := kdtb_mem 1654 (by decide +kernel) rfl
theorem w_ml_L_90 : Cond.methodLink RL 90 yX12_ofWord ∈ kdtb := kdtb_mem 1651 (by decide +kernel) rfl
theorem w_im_X12_ofWord : Cond.instanceMethod yX12_ofWord ∈ kdtb := kdtb_mem 1652 (by decide +kernel) rfl
theorem w_se_X12_ofWord : Cond.selects yX12_ofWord.cls yX12_ofWord yX12_ofWord ∈ kdtb := kdtb_mem 1653 (by decide +kernel) rfl
theorem w_cd_X11_count : Cond.code yX11_count cX11_count 3 (some .int) ∈ kdtb := kdtb_mem 787 (by decide +kernel) rfl
theorem w_ml_L_91 : Cond.methodLink RL 91 yX11_count ∈ kdtb := kdtb_mem 784 (by decide +kernel) rfl
theorem w_im_X11_count : Cond.instanceMethod yX11_count ∈ kdtb := kdtb_mem 785 (by decide +kernel) rfl
theorem w_se_X11_count : Cond.selects yX11_count.cls yX11_count yX11_count ∈ kdtb := kdtb_mem 786 (by decide +kernel) rfl
theorem w_cd_X12_count : Cond.code yX12_count cX12_count 4 (some .int) ∈ kdtb := kdtb_mem 1662 (by decide +kernel) rfl
theorem w_ml_L_94 : Cond.methodLink RL 94 yX12_count ∈ kdtb := kdtb_mem 1659 (by decide +kernel) rfl
theorem w_im_X12_count : Cond.instanceMethod yX12_count ∈ kdtb := kdtb_mem 1660 (by decide +kernel) rfl
theorem w_se_X12_count : Cond.selects yX12_count.cls yX12_count yX12_count ∈ kdtb := kdtb_mem 1661 (by decide +kernel) rfl
theorem w_cd_X11_price : Cond.code yX11_price cX11_price 3 (some .int) ∈ kdtb := kdtb_mem 796 (by decide +kernel) rfl
theorem w_ml_L_95 : Cond.methodLink RL 95 yX11_price ∈ kdtb := kdtb_mem 793 (by decide +kernel) rfl
theorem w_im_X11_price : Cond.instanceMethod yX11_price ∈ kdtb := kdtb_mem 794 (by decide +kernel) rfl
theorem w_se_X11_price : Cond.selects yX11_price.cls yX11_price yX11_price ∈ kdtb := kdtb_mem 795 (by decide +kernel) rfl
theorem w_cd_X12_price : Cond.code yX12_price cX12_price 4 (some .int) ∈ kdtb := kdtb_mem 1666 (by decide +kernel) rfl
theorem w_ml_L_98 : Cond.methodLink RL 98 yX12_price ∈ kdtb := kdtb_mem 1663 (by decide +kernel) rfl
theorem w_im_X12_price : Cond.instanceMethod yX12_price ∈ kdtb := kdtb_mem 1664 (by decide +kernel) rfl
theorem w_se_X12_price : Cond.selects yX12_price.cls yX12_price yX12_price ∈ kdtb := kdtb_mem 1665 (by decide +kernel) rfl
theorem w_cd_X11_slip : Cond.code yX11_slip cX11_slip 2 (some .int) ∈ kdtb := kdtb_mem 804 (by decide +kernel) rfl
theorem w_ml_L_99 : Cond.methodLink RL 99 yX11_slip ∈ kdtb := kdtb_mem 801 (by decide +kernel) rfl
theorem w_im_X11_slip : Cond.instanceMethod yX11_slip ∈ kdtb := kdtb_mem 802 (by decide +kernel) rfl
theorem w_se_X11_slip : Cond.selects yX11_slip.cls yX11_slip yX11_slip ∈ kdtb := kdtb_mem 803 (by decide +kernel) rfl
theorem w_cd_X12_slip : Cond.code yX12_slip cX12_slip 2 (some .int) ∈ kdtb := kdtb_mem 1672 (by decide +kernel) rfl
theorem w_ml_L_102 : Cond.methodLink RL 102 yX12_slip ∈ kdtb := kdtb_mem 1669 (by decide +kernel) rfl
theorem w_im_X12_slip : Cond.instanceMethod yX12_slip ∈ kdtb := kdtb_mem 1670 (by decide +kernel) rfl
theorem w_se_X12_slip : Cond.selects yX12_slip.cls yX12_slip yX12_slip ∈ kdtb := kdtb_mem 1671 (by decide +kernel) rfl
theorem w_cd_X11_guess : Cond.code yX11_guess cX11_guess 4 (some .int) ∈ kdtb := kdtb_mem 836 (by decide +kernel) rfl
theorem w_ml_L_103 : Cond.methodLink RL 103 yX11_guess ∈ kdtb := kdtb_mem 833 (by decide +kernel) rfl
theorem w_im_X11_guess : Cond.instanceMethod yX11_guess ∈ kdtb := kdtb_mem 834 (by decide +kernel) rfl
theorem w_se_X11_guess : Cond.selects yX11_guess.cls yX11_guess yX11_guess ∈ kdtb := kdtb_mem 835 (by decide +kernel) rfl
theorem w_cd_X12_guess : Cond.code yX12_guess cX12_guess 4 (some .int) ∈ kdtb := kdtb_mem 1694 (by decide +kernel) rfl
theorem w_ml_L_106 : Cond.methodLink RL 106 yX12_guess ∈ kdtb := kdtb_mem 1691 (by decide +kernel) rfl
theorem w_im_X12_guess : Cond.instanceMethod yX12_guess ∈ kdtb := kdtb_mem 1692 (by decide +kernel) rfl
theorem w_se_X12_guess : Cond.selects yX12_guess.cls yX12_guess yX12_guess ∈ kdtb := kdtb_mem 1693 (by decide +kernel) rfl
theorem w_cd_X11_part : Cond.code yX11_part cX11_part 4 (some .int) ∈ kdtb := kdtb_mem 887 (by decide +kernel) rfl
theorem w_ml_L_107 : Cond.methodLink RL 107 yX11_part ∈ kdtb := kdtb_mem 884 (by decide +kernel) rfl
theorem w_im_X11_part : Cond.instanceMethod yX11_part ∈ kdtb := kdtb_mem 885 (by decide +kernel) rfl
theorem w_se_X11_part : Cond.selects yX11_part.cls yX11_part yX11_part ∈ kdtb := kdtb_mem 886 (by decide +kernel) rfl
theorem w_cd_X12_part : Cond.code yX12_part cX12_part 5 (some .int) ∈ kdtb := kdtb_mem 1714 (by decide +kernel) rfl
theorem w_ml_L_110 : Cond.methodLink RL 110 yX12_part ∈ kdtb := kdtb_mem 1711 (by decide +kernel) rfl
theorem w_im_X12_part : Cond.instanceMethod yX12_part ∈ kdtb := kdtb_mem 1712 (by decide +kernel) rfl
theorem w_se_X12_part : Cond.selects yX12_part.cls yX12_part yX12_part ∈ kdtb := kdtb_mem 1713 (by decide +kernel) rfl
theorem w_cd_X11_pieceOf : Cond.code yX11_pieceOf cX11_pieceOf 4 (some .int) ∈ kdtb := kdtb_mem 950 (by decide +kernel) rfl
theorem w_ml_L_111 : Cond.methodLink RL 111 yX11_pieceOf ∈ kdtb := kdtb_mem 947 (by decide +kernel) rfl
theorem w_im_X11_pieceOf : Cond.instanceMethod yX11_pieceOf ∈ kdtb := kdtb_mem 948 (by decide +kernel) rfl
theorem w_se_X11_pieceOf : Cond.selects yX11_pieceOf.cls yX11_pieceOf yX11_pieceOf ∈ kdtb := kdtb_mem 949 (by decide +kernel) rfl
theorem w_cd_X12_pieceOf : Cond.code yX12_pieceOf cX12_pieceOf 5 (some .int) ∈ kdtb := kdtb_mem 1761 (by decide +kernel) rfl
theorem w_ml_L_114 : Cond.methodLink RL 114 yX12_pieceOf ∈ kdtb := kdtb_mem 1758 (by decide +kernel) rfl
theorem w_im_X12_pieceOf : Cond.instanceMethod yX12_pieceOf ∈ kdtb := kdtb_mem 1759 (by decide +kernel) rfl
theorem w_se_X12_pieceOf : Cond.selects yX12_pieceOf.cls yX12_pieceOf yX12_pieceOf ∈ kdtb := kdtb_mem 1760 (by decide +kernel) rfl
theorem w_cd_X11_both : Cond.code yX11_both cX11_both 4 (some .int) ∈ kdtb := kdtb_mem 958 (by decide +kernel) rfl
theorem w_ml_L_115 : Cond.methodLink RL 115 yX11_both ∈ kdtb := kdtb_mem 955 (by decide +kernel) rfl
theorem w_im_X11_both : Cond.instanceMethod yX11_both ∈ kdtb := kdtb_mem 956 (by decide +kernel) rfl
theorem w_se_X11_both : Cond.selects yX11_both.cls yX11_both yX11_both ∈ kdtb := kdtb_mem 957 (by decide +kernel) rfl
theorem w_cd_X12_both : Cond.code yX12_both cX12_both 6 (some .int) ∈ kdtb := kdtb_mem 1765 (by decide +kernel) rfl
theorem w_ml_L_118 : Cond.methodLink RL 118 yX12_both ∈ kdtb := kdtb_mem 1762 (by decide +kernel) rfl
theorem w_im_X12_both : Cond.instanceMethod yX12_both ∈ kdtb := kdtb_mem 1763 (by decide +kernel) rfl
theorem w_se_X12_both : Cond.selects yX12_both.cls yX12_both yX12_both ∈ kdtb := kdtb_mem 1764 (by decide +kernel) rfl
theorem w_cd_X12_say : Cond.code yX12_say cX12_say 3 (some .int) ∈ kdtb := kdtb_mem 1777 (by decide +kernel) rfl
theorem w_ml_L_123 : Cond.methodLink RL 123 yX12_say ∈ kdtb := kdtb_mem 1774 (by decide +kernel) rfl
theorem w_im_X12_say : Cond.instanceMethod yX12_say ∈ kdtb := kdtb_mem 1775 (by decide +kernel) rfl
theorem w_se_X12_say : Cond.selects yX12_say.cls yX12_say yX12_say ∈ kdtb := kdtb_mem 1776 (by decide +kernel) rfl
theorem w_cd_X11_say : Cond.code yX11_say cX11_say 3 (some .int) ∈ kdtb := kdtb_mem 974 (by decide +kernel) rfl
theorem w_ml_L_119 : Cond.methodLink RL 119 yX11_say ∈ kdtb := kdtb_mem 971 (by decide +kernel) rfl
theorem w_im_X11_say : Cond.instanceMethod yX11_say ∈ kdtb := kdtb_mem 972 (by decide +kernel) rfl
theorem w_se_X11_say : Cond.selects yX11_say.cls yX11_say yX11_say ∈ kdtb := kdtb_mem 973 (by decide +kernel) rfl
theorem w_cd_X11_chosen : Cond.code yX11_chosen cX11_chosen 2 (some .int) ∈ kdtb := kdtb_mem 989 (by decide +kernel) rfl
theorem w_ml_L_124 : Cond.methodLink RL 124 yX11_chosen ∈ kdtb := kdtb_mem 986 (by decide +kernel) rfl
theorem w_im_X11_chosen : Cond.instanceMethod yX11_chosen ∈ kdtb := kdtb_mem 987 (by decide +kernel) rfl
theorem w_se_X11_chosen : Cond.selects yX11_chosen.cls yX11_chosen yX11_chosen ∈ kdtb := kdtb_mem 988 (by decide +kernel) rfl
theorem w_cd_X12_chosen : Cond.code yX12_chosen cX12_chosen 2 (some .int) ∈ kdtb := kdtb_mem 1781 (by decide +kernel) rfl
theorem w_ml_L_127 : Cond.methodLink RL 127 yX12_chosen ∈ kdtb := kdtb_mem 1778 (by decide +kernel) rfl
theorem w_im_X12_chosen : Cond.instanceMethod yX12_chosen ∈ kdtb := kdtb_mem 1779 (by decide +kernel) rfl
theorem w_se_X12_chosen : Cond.selects yX12_chosen.cls yX12_chosen yX12_chosen ∈ kdtb := kdtb_mem 1780 (by decide +kernel) rfl
theorem w_cd_X11_product : Cond.code yX11_product cX11_product 1 (some .long) ∈ kdtb := kdtb_mem 1023 (by decide +kernel) rfl
theorem w_ml_L_128 : Cond.methodLink RL 128 yX11_product ∈ kdtb := kdtb_mem 1020 (by decide +kernel) rfl
theorem w_im_X11_product : Cond.instanceMethod yX11_product ∈ kdtb := kdtb_mem 1021 (by decide +kernel) rfl
theorem w_se_X11_product : Cond.selects yX11_product.cls yX11_product yX11_product ∈ kdtb := kdtb_mem 1022 (by decide +kernel) rfl
theorem w_cd_X12_product : Cond.code yX12_product cX12_product 1 (some .long) ∈ kdtb := kdtb_mem 1801 (by decide +kernel) rfl
theorem w_ml_L_132 : Cond.methodLink RL 132 yX12_product ∈ kdtb := kdtb_mem 1798 (by decide +kernel) rfl
theorem w_im_X12_product : Cond.instanceMethod yX12_product ∈ kdtb := kdtb_mem 1799 (by decide +kernel) rfl
theorem w_se_X12_product : Cond.selects yX12_product.cls yX12_product yX12_product ∈ kdtb := kdtb_mem 1800 (by decide +kernel) rfl
theorem w_cd_X11_learn : Cond.code yX11_learn cX11_learn 4 (some .int) ∈ kdtb := kdtb_mem 1027 (by decide +kernel) rfl
theorem w_ml_L_133 : Cond.methodLink RL 133 yX11_learn ∈ kdtb := kdtb_mem 1024 (by decide +kernel) rfl
theorem w_im_X11_learn : Cond.instanceMethod yX11_learn ∈ kdtb := kdtb_mem 1025 (by decide +kernel) rfl
theorem w_se_X11_learn : Cond.selects yX11_learn.cls yX11_learn yX11_learn ∈ kdtb := kdtb_mem 1026 (by decide +kernel) rfl
theorem w_cd_X12_learn : Cond.code yX12_learn cX12_learn 5 (some .int) ∈ kdtb := kdtb_mem 1805 (by decide +kernel) rfl
theorem w_ml_L_136 : Cond.methodLink RL 136 yX12_learn ∈ kdtb := kdtb_mem 1802 (by decide +kernel) rfl
theorem w_im_X12_learn : Cond.instanceMethod yX12_learn ∈ kdtb := kdtb_mem 1803 (by decide +kernel) rfl
theorem w_se_X12_learn : Cond.selects yX12_learn.cls yX12_learn yX12_learn ∈ kdtb := kdtb_mem 1804 (by decide +kernel) rfl
theorem w_cd_X11_worth : Cond.code yX11_worth cX11_worth 4 (some .int) ∈ kdtb := kdtb_mem 1052 (by decide +kernel) rfl
theorem w_ml_L_137 : Cond.methodLink RL 137 yX11_worth ∈ kdtb := kdtb_mem 1049 (by decide +kernel) rfl
theorem w_im_X11_worth : Cond.instanceMethod yX11_worth ∈ kdtb := kdtb_mem 1050 (by decide +kernel) rfl
theorem w_se_X11_worth : Cond.selects yX11_worth.cls yX11_worth yX11_worth ∈ kdtb := kdtb_mem 1051 (by decide +kernel) rfl
theorem w_cd_X12_worth : Cond.code yX12_worth cX12_worth 4 (some .int) ∈ kdtb := kdtb_mem 1814 (by decide +kernel) rfl
theorem w_ml_L_140 : Cond.methodLink RL 140 yX12_worth ∈ kdtb := kdtb_mem 1811 (by decide +kernel) rfl
theorem w_im_X12_worth : Cond.instanceMethod yX12_worth ∈ kdtb := kdtb_mem 1812 (by decide +kernel) rfl
theorem w_se_X12_worth : Cond.selects yX12_worth.cls yX12_worth yX12_worth ∈ kdtb := kdtb_mem 1813 (by decide +kernel) rfl
theorem w_cd_X11_forget : Cond.code yX11_forget cX11_forget 3 (some .int) ∈ kdtb := kdtb_mem 1056 (by decide +kernel) rfl
theorem w_ml_L_141 : Cond.methodLink RL 141 yX11_forget ∈ kdtb := kdtb_mem 1053 (by decide +kernel) rfl
theorem w_im_X11_forget : Cond.instanceMethod yX11_forget ∈ kdtb := kdtb_mem 1054 (by decide +kernel) rfl
theorem w_se_X11_forget : Cond.selects yX11_forget.cls yX11_forget yX11_forget ∈ kdtb := kdtb_mem 1055 (by decide +kernel) rfl
theorem w_cd_X12_forget : Cond.code yX12_forget cX12_forget 6 (some .int) ∈ kdtb := kdtb_mem 1818 (by decide +kernel) rfl
theorem w_ml_L_144 : Cond.methodLink RL 144 yX12_forget ∈ kdtb := kdtb_mem 1815 (by decide +kernel) rfl
theorem w_im_X12_forget : Cond.instanceMethod yX12_forget ∈ kdtb := kdtb_mem 1816 (by decide +kernel) rfl
theorem w_se_X12_forget : Cond.selects yX12_forget.cls yX12_forget yX12_forget ∈ kdtb := kdtb_mem 1817 (by decide +kernel) rfl
theorem w_cd_X11_fade : Cond.code yX11_fade cX11_fade 2 (some .int) ∈ kdtb := kdtb_mem 1065 (by decide +kernel) rfl
theorem w_ml_L_145 : Cond.methodLink RL 145 yX11_fade ∈ kdtb := kdtb_mem 1062 (by decide +kernel) rfl
theorem w_im_X11_fade : Cond.instanceMethod yX11_fade ∈ kdtb := kdtb_mem 1063 (by decide +kernel) rfl
theorem w_se_X11_fade : Cond.selects yX11_fade.cls yX11_fade yX11_fade ∈ kdtb := kdtb_mem 1064 (by decide +kernel) rfl
theorem w_cd_X12_fade : Cond.code yX12_fade cX12_fade 3 (some .int) ∈ kdtb := kdtb_mem 1822 (by decide +kernel) rfl
theorem w_ml_L_148 : Cond.methodLink RL 148 yX12_fade ∈ kdtb := kdtb_mem 1819 (by decide +kernel) rfl
theorem w_im_X12_fade : Cond.instanceMethod yX12_fade ∈ kdtb := kdtb_mem 1820 (by decide +kernel) rfl
theorem w_se_X12_fade : Cond.selects yX12_fade.cls yX12_fade yX12_fade ∈ kdtb := kdtb_mem 1821 (by decide +kernel) rfl
theorem w_cd_X11_mine : Cond.code yX11_mine cX11_mine 6 (some .int) ∈ kdtb := kdtb_mem 1073 (by decide +kernel) rfl
theorem w_ml_L_149 : Cond.methodLink RL 149 yX11_mine ∈ kdtb := kdtb_mem 1070 (by decide +kernel) rfl
theorem w_im_X11_mine : Cond.instanceMethod yX11_mine ∈ kdtb := kdtb_mem 1071 (by decide +kernel) rfl
theorem w_se_X11_mine : Cond.selects yX11_mine.cls yX11_mine yX11_mine ∈ kdtb := kdtb_mem 1072 (by decide +kernel) rfl
theorem w_cd_X12_mine : Cond.code yX12_mine cX12_mine 6 (some .int) ∈ kdtb := kdtb_mem 1827 (by decide +kernel) rfl
theorem w_ml_L_153 : Cond.methodLink RL 153 yX12_mine ∈ kdtb := kdtb_mem 1824 (by decide +kernel) rfl
theorem w_im_X12_mine : Cond.instanceMethod yX12_mine ∈ kdtb := kdtb_mem 1825 (by decide +kernel) rfl
theorem w_se_X12_mine : Cond.selects yX12_mine.cls yX12_mine yX12_mine ∈ kdtb := kdtb_mem 1826 (by decide +kernel) rfl
theorem w_cd_X11_budget : Cond.code yX11_budget cX11_budget 3 (some .int) ∈ kdtb := kdtb_mem 1077 (by decide +kernel) rfl
theorem w_ml_L_154 : Cond.methodLink RL 154 yX11_budget ∈ kdtb := kdtb_mem 1074 (by decide +kernel) rfl
theorem w_im_X11_budget : Cond.instanceMethod yX11_budget ∈ kdtb := kdtb_mem 1075 (by decide +kernel) rfl
theorem w_se_X11_budget : Cond.selects yX11_budget.cls yX11_budget yX11_budget ∈ kdtb := kdtb_mem 1076 (by decide +kernel) rfl
theorem w_cd_X12_budget : Cond.code yX12_budget cX12_budget 4 (some .int) ∈ kdtb := kdtb_mem 1831 (by decide +kernel) rfl
theorem w_ml_L_157 : Cond.methodLink RL 157 yX12_budget ∈ kdtb := kdtb_mem 1828 (by decide +kernel) rfl
theorem w_im_X12_budget : Cond.instanceMethod yX12_budget ∈ kdtb := kdtb_mem 1829 (by decide +kernel) rfl
theorem w_se_X12_budget : Cond.selects yX12_budget.cls yX12_budget yX12_budget ∈ kdtb := kdtb_mem 1830 (by decide +kernel) rfl
theorem w_cd_X11_seed : Cond.code yX11_seed cX11_seed 2 (some .int) ∈ kdtb := kdtb_mem 1085 (by decide +kernel) rfl
theorem w_ml_L_158 : Cond.methodLink RL 158 yX11_seed ∈ kdtb := kdtb_mem 1082 (by decide +kernel) rfl
theorem w_im_X11_seed : Cond.instanceMethod yX11_seed ∈ kdtb := kdtb_mem 1083 (by decide +kernel) rfl
theorem w_se_X11_seed : Cond.selects yX11_seed.cls yX11_seed yX11_seed ∈ kdtb := kdtb_mem 1084 (by decide +kernel) rfl
theorem w_cd_X12_seed : Cond.code yX12_seed cX12_seed 3 (some .int) ∈ kdtb := kdtb_mem 1835 (by decide +kernel) rfl
theorem w_ml_L_161 : Cond.methodLink RL 161 yX12_seed ∈ kdtb := kdtb_mem 1832 (by decide +kernel) rfl
theorem w_im_X12_seed : Cond.instanceMethod yX12_seed ∈ kdtb := kdtb_mem 1833 (by decide +kernel) rfl
theorem w_se_X12_seed : Cond.selects yX12_seed.cls yX12_seed yX12_seed ∈ kdtb := kdtb_mem 1834 (by decide +kernel) rfl
theorem w_cd_X11_share : Cond.code yX11_share cX11_share 4 (some .int) ∈ kdtb := kdtb_mem 1094 (by decide +kernel) rfl
theorem w_ml_L_162 : Cond.methodLink RL 162 yX11_share ∈ kdtb := kdtb_mem 1091 (by decide +kernel) rfl
theorem w_im_X11_share : Cond.instanceMethod yX11_share ∈ kdtb := kdtb_mem 1092 (by decide +kernel) rfl
theorem w_se_X11_share : Cond.selects yX11_share.cls yX11_share yX11_share ∈ kdtb := kdtb_mem 1093 (by decide +kernel) rfl
theorem w_cd_X12_share : Cond.code yX12_share cX12_share 7 (some .int) ∈ kdtb := kdtb_mem 1840 (by decide +kernel) rfl
theorem w_ml_L_165 : Cond.methodLink RL 165 yX12_share ∈ kdtb := kdtb_mem 1837 (by decide +kernel) rfl
theorem w_im_X12_share : Cond.instanceMethod yX12_share ∈ kdtb := kdtb_mem 1838 (by decide +kernel) rfl
theorem w_se_X12_share : Cond.selects yX12_share.cls yX12_share yX12_share ∈ kdtb := kdtb_mem 1839 (by decide +kernel) rfl
theorem w_cd_X11_symbols : Cond.code yX11_symbols cX11_symbols 2 (some .int) ∈ kdtb := kdtb_mem 1117 (by decide +kernel) rfl
theorem w_ml_L_166 : Cond.methodLink RL 166 yX11_symbols ∈ kdtb := kdtb_mem 1114 (by decide +kernel) rfl
theorem w_im_X11_symbols : Cond.instanceMethod yX11_symbols ∈ kdtb := kdtb_mem 1115 (by decide +kernel) rfl
theorem w_se_X11_symbols : Cond.selects yX11_symbols.cls yX11_symbols yX11_symbols ∈ kdtb := kdtb_mem 1116 (by decide +kernel) rfl
theorem w_cd_X12_symbols : Cond.code yX12_symbols cX12_symbols 3 (some .int) ∈ kdtb := kdtb_mem 1849 (by decide +kernel) rfl
theorem w_ml_L_169 : Cond.methodLink RL 169 yX12_symbols ∈ kdtb := kdtb_mem 1846 (by decide +kernel) rfl
theorem w_im_X12_symbols : Cond.instanceMethod yX12_symbols ∈ kdtb := kdtb_mem 1847 (by decide +kernel) rfl
theorem w_se_X12_symbols : Cond.selects yX12_symbols.cls yX12_symbols yX12_symbols ∈ kdtb := kdtb_mem 1848 (by decide +kernel) rfl
theorem w_cd_X11_set : Cond.code yX11_set cX11_set 4 (some .int) ∈ kdtb := kdtb_mem 1122 (by decide +kernel) rfl
theorem w_ml_L_170 : Cond.methodLink RL 170 yX11_set ∈ kdtb := kdtb_mem 1119 (by decide +kernel) rfl
theorem w_im_X11_set : Cond.instanceMethod yX11_set ∈ kdtb := kdtb_mem 1120 (by decide +kernel) rfl
theorem w_se_X11_set : Cond.selects yX11_set.cls yX11_set yX11_set ∈ kdtb := kdtb_mem 1121 (by decide +kernel) rfl
theorem w_cd_X12_set : Cond.code yX12_set cX12_set 5 (some .int) ∈ kdtb := kdtb_mem 1853 (by decide +kernel) rfl
theorem w_ml_L_173 : Cond.methodLink RL 173 yX12_set ∈ kdtb := kdtb_mem 1850 (by decide +kernel) rfl
theorem w_im_X12_set : Cond.instanceMethod yX12_set ∈ kdtb := kdtb_mem 1851 (by decide +kernel) rfl
theorem w_se_X12_set : Cond.selects yX12_set.cls yX12_set yX12_set ∈ kdtb := kdtb_mem 1852 (by decide +kernel) rfl
theorem w_cd_X11_pair : Cond.code yX11_pair cX11_pair 4 (some .int) ∈ kdtb := kdtb_mem 1142 (by decide +kernel) rfl
theorem w_ml_L_174 : Cond.methodLink RL 174 yX11_pair ∈ kdtb := kdtb_mem 1139 (by decide +kernel) rfl
theorem w_im_X11_pair : Cond.instanceMethod yX11_pair ∈ kdtb := kdtb_mem 1140 (by decide +kernel) rfl
theorem w_se_X11_pair : Cond.selects yX11_pair.cls yX11_pair yX11_pair ∈ kdtb := kdtb_mem 1141 (by decide +kernel) rfl
theorem w_cd_X12_pair : Cond.code yX12_pair cX12_pair 5 (some .int) ∈ kdtb := kdtb_mem 1863 (by decide +kernel) rfl
theorem w_ml_L_177 : Cond.methodLink RL 177 yX12_pair ∈ kdtb := kdtb_mem 1860 (by decide +kernel) rfl
theorem w_im_X12_pair : Cond.instanceMethod yX12_pair ∈ kdtb := kdtb_mem 1861 (by decide +kernel) rfl
theorem w_se_X12_pair : Cond.selects yX12_pair.cls yX12_pair yX12_pair ∈ kdtb := kdtb_mem 1862 (by decide +kernel) rfl
theorem w_cd_X11_same : Cond.code yX11_same cX11_same 2 (some .int) ∈ kdtb := kdtb_mem 1150 (by decide +kernel) rfl
theorem w_ml_L_178 : Cond.methodLink RL 178 yX11_same ∈ kdtb := kdtb_mem 1147 (by decide +kernel) rfl
theorem w_im_X11_same : Cond.instanceMethod yX11_same ∈ kdtb := kdtb_mem 1148 (by decide +kernel) rfl
theorem w_se_X11_same : Cond.selects yX11_same.cls yX11_same yX11_same ∈ kdtb := kdtb_mem 1149 (by decide +kernel) rfl
theorem w_cd_X12_same : Cond.code yX12_same cX12_same 3 (some .int) ∈ kdtb := kdtb_mem 1868 (by decide +kernel) rfl
theorem w_ml_L_181 : Cond.methodLink RL 181 yX12_same ∈ kdtb := kdtb_mem 1865 (by decide +kernel) rfl
theorem w_im_X12_same : Cond.instanceMethod yX12_same ∈ kdtb := kdtb_mem 1866 (by decide +kernel) rfl
theorem w_se_X12_same : Cond.selects yX12_same.cls yX12_same yX12_same ∈ kdtb := kdtb_mem 1867 (by decide +kernel) rfl
theorem w_cd_X11_cost : Cond.code yX11_cost cX11_cost 2 (some .int) ∈ kdtb := kdtb_mem 1158 (by decide +kernel) rfl
theorem w_ml_L_182 : Cond.methodLink RL 182 yX11_cost ∈ kdtb := kdtb_mem 1155 (by decide +kernel) rfl
theorem w_im_X11_cost : Cond.instanceMethod yX11_cost ∈ kdtb := kdtb_mem 1156 (by decide +kernel) rfl
theorem w_se_X11_cost : Cond.selects yX11_cost.cls yX11_cost yX11_cost ∈ kdtb := kdtb_mem 1157 (by decide +kernel) rfl
theorem w_cd_X12_cost : Cond.code yX12_cost cX12_cost 2 (some .int) ∈ kdtb := kdtb_mem 1872 (by decide +kernel) rfl
theorem w_ml_L_185 : Cond.methodLink RL 185 yX12_cost ∈ kdtb := kdtb_mem 1869 (by decide +kernel) rfl
theorem w_im_X12_cost : Cond.instanceMethod yX12_cost ∈ kdtb := kdtb_mem 1870 (by decide +kernel) rfl
theorem w_se_X12_cost : Cond.selects yX12_cost.cls yX12_cost yX12_cost ∈ kdtb := kdtb_mem 1871 (by decide +kernel) rfl
theorem w_cd_X11_best : Cond.code yX11_best cX11_best 1 (some .int) ∈ kdtb := kdtb_mem 1180 (by decide +kernel) rfl
theorem w_ml_L_186 : Cond.methodLink RL 186 yX11_best ∈ kdtb := kdtb_mem 1177 (by decide +kernel) rfl
theorem w_im_X11_best : Cond.instanceMethod yX11_best ∈ kdtb := kdtb_mem 1178 (by decide +kernel) rfl
theorem w_se_X11_best : Cond.selects yX11_best.cls yX11_best yX11_best ∈ kdtb := kdtb_mem 1179 (by decide +kernel) rfl
theorem w_cd_X12_best : Cond.code yX12_best cX12_best 3 (some .int) ∈ kdtb := kdtb_mem 1885 (by decide +kernel) rfl
theorem w_ml_L_189 : Cond.methodLink RL 189 yX12_best ∈ kdtb := kdtb_mem 1882 (by decide +kernel) rfl
theorem w_im_X12_best : Cond.instanceMethod yX12_best ∈ kdtb := kdtb_mem 1883 (by decide +kernel) rfl
theorem w_se_X12_best : Cond.selects yX12_best.cls yX12_best yX12_best ∈ kdtb := kdtb_mem 1884 (by decide +kernel) rfl
theorem w_cd_X11_bound : Cond.code yX11_bound cX11_bound 1 (some .int) ∈ kdtb := kdtb_mem 1197 (by decide +kernel) rfl
theorem w_ml_L_190 : Cond.methodLink RL 190 yX11_bound ∈ kdtb := kdtb_mem 1194 (by decide +kernel) rfl
theorem w_im_X11_bound : Cond.instanceMethod yX11_bound ∈ kdtb := kdtb_mem 1195 (by decide +kernel) rfl
theorem w_se_X11_bound : Cond.selects yX11_bound.cls yX11_bound yX11_bound ∈ kdtb := kdtb_mem 1196 (by decide +kernel) rfl
theorem w_cd_X12_bound : Cond.code yX12_bound cX12_bound 8 (some .int) ∈ kdtb := kdtb_mem 1905 (by decide +kernel) rfl
theorem w_ml_L_193 : Cond.methodLink RL 193 yX12_bound ∈ kdtb := kdtb_mem 1902 (by decide +kernel) rfl
theorem w_im_X12_bound : Cond.instanceMethod yX12_bound ∈ kdtb := kdtb_mem 1903 (by decide +kernel) rfl
theorem w_se_X12_bound : Cond.selects yX12_bound.cls yX12_bound yX12_bound ∈ kdtb := kdtb_mem 1904 (by decide +kernel) rfl
theorem w_cd_X11_better : Cond.code yX11_better cX11_better 4 (some .int) ∈ kdtb := kdtb_mem 1209 (by decide +kernel) rfl
theorem w_ml_L_194 : Cond.methodLink RL 194 yX11_better ∈ kdtb := kdtb_mem 1206 (by decide +kernel) rfl
theorem w_im_X11_better : Cond.instanceMethod yX11_better ∈ kdtb := kdtb_mem 1207 (by decide +kernel) rfl
theorem w_se_X11_better : Cond.selects yX11_better.cls yX11_better yX11_better ∈ kdtb := kdtb_mem 1208 (by decide +kernel) rfl
theorem w_cd_X12_better : Cond.code yX12_better cX12_better 10 (some .int) ∈ kdtb := kdtb_mem 1909 (by decide +kernel) rfl
theorem w_ml_L_197 : Cond.methodLink RL 197 yX12_better ∈ kdtb := kdtb_mem 1906 (by decide +kernel) rfl
theorem w_im_X12_better : Cond.instanceMethod yX12_better ∈ kdtb := kdtb_mem 1907 (by decide +kernel) rfl
theorem w_se_X12_better : Cond.selects yX12_better.cls yX12_better yX12_better ∈ kdtb := kdtb_mem 1908 (by decide +kernel) rfl
theorem w_cd_X11_way : Cond.code yX11_way cX11_way 4 (some .int) ∈ kdtb := kdtb_mem 1227 (by decide +kernel) rfl
theorem w_ml_L_198 : Cond.methodLink RL 198 yX11_way ∈ kdtb := kdtb_mem 1224 (by decide +kernel) rfl
theorem w_im_X11_way : Cond.instanceMethod yX11_way ∈ kdtb := kdtb_mem 1225 (by decide +kernel) rfl
theorem w_se_X11_way : Cond.selects yX11_way.cls yX11_way yX11_way ∈ kdtb := kdtb_mem 1226 (by decide +kernel) rfl
theorem w_cd_X12_way : Cond.code yX12_way cX12_way 8 (some .int) ∈ kdtb := kdtb_mem 1913 (by decide +kernel) rfl
theorem w_ml_L_201 : Cond.methodLink RL 201 yX12_way ∈ kdtb := kdtb_mem 1910 (by decide +kernel) rfl
theorem w_im_X12_way : Cond.instanceMethod yX12_way ∈ kdtb := kdtb_mem 1911 (by decide +kernel) rfl
theorem w_se_X12_way : Cond.selects yX12_way.cls yX12_way yX12_way ∈ kdtb := kdtb_mem 1912 (by decide +kernel) rfl
theorem w_cd_X11_told : Cond.code yX11_told cX11_told 2 (some .int) ∈ kdtb := kdtb_mem 1303 (by decide +kernel) rfl
theorem w_ml_L_202 : Cond.methodLink RL 202 yX11_told ∈ kdtb := kdtb_mem 1300 (by decide +kernel) rfl
theorem w_im_X11_told : Cond.instanceMethod yX11_told ∈ kdtb := kdtb_mem 1301 (by decide +kernel) rfl
theorem w_se_X11_told : Cond.selects yX11_told.cls yX11_told yX11_told ∈ kdtb := kdtb_mem 1302 (by decide +kernel) rfl
theorem w_cd_X12_told : Cond.code yX12_told cX12_told 2 (some .int) ∈ kdtb := kdtb_mem 1937 (by decide +kernel) rfl
theorem w_ml_L_205 : Cond.methodLink RL 205 yX12_told ∈ kdtb := kdtb_mem 1934 (by decide +kernel) rfl
theorem w_im_X12_told : Cond.instanceMethod yX12_told ∈ kdtb := kdtb_mem 1935 (by decide +kernel) rfl
theorem w_se_X12_told : Cond.selects yX12_told.cls yX12_told yX12_told ∈ kdtb := kdtb_mem 1936 (by decide +kernel) rfl
theorem w_cd_X11_init : Cond.code yX11_init cX11_init 2 none ∈ kdtb := kdtb_mem 101 (by decide +kernel) rfl
theorem w_cd_X12_init : Cond.code yX12_init cX12_init 2 none ∈ kdtb := kdtb_mem 1329 (by decide +kernel) rfl
theorem w_im_X11_init : Cond.instanceMethod yX11_init ∈ kdtb := kdtb_mem 100 (by decide +kernel) rfl
theorem w_im_X12_init : Cond.instanceMethod yX12_init ∈ kdtb := kdtb_mem 1328 (by decide +kernel) rfl
theorem w_ml_L_9 : Cond.methodLink RL 9 yX11_init ∈ kdtb := kdtb_mem 99 (by decide +kernel) rfl
theorem w_ml_L_12 : Cond.methodLink RL 12 yX12_init ∈ kdtb := kdtb_mem 1327 (by decide +kernel) rfl
theorem kd_dd_X11 : kdD 11 := ⟨RX11, TX11, 12, tyX11, rfl, kd_in_X11, tyX11_ok, by decide +kernel⟩
theorem kd_dd_X12 : kdD 12 := ⟨RX12, TX12, 66, tyX12, rfl, kd_in_X12, tyX12_ok, by decide +kernel⟩
theorem kk_b_63 : (Int8.ofInt 63).toInt32 = (63 : Int32) := by decide
theorem kl_X11_key : kdL yX11_key cX11_key 2 (some .int) 1 := ⟨w_cd_X11_key, w_in_X11, by decide +kernel, by decide +kernel, by decide⟩
theorem kl_X12_key : kdL yX12_key cX12_key 2 (some .int) 1 := ⟨w_cd_X12_key, w_in_X12, by decide +kernel, by decide +kernel, by decide⟩
theorem kl_X11_letter : kdL yX11_letter cX11_letter 2 (some .int) 1 := ⟨w_cd_X11_letter, w_in_X11, by decide +kernel, by decide +kernel, by decide⟩
theorem kl_X12_letter : kdL yX12_letter cX12_letter 2 (some .int) 1 := ⟨w_cd_X12_letter, w_in_X12, by decide +kernel, by decide +kernel, by decide⟩
theorem kl_X11_wipe : kdL yX11_wipe cX11_wipe 2 (some .int) 1 := ⟨w_cd_X11_wipe, w_in_X11, by decide +kernel, by decide +kernel, by decide⟩
theorem kl_X12_wipe : kdL yX12_wipe cX12_wipe 3 (some .int) 1 := ⟨w_cd_X12_wipe, w_in_X12, by decide +kernel, by decide +kernel, by decide⟩
theorem kl_X11_rule : kdL yX11_rule cX11_rule 3 (some .int) 1 := ⟨w_cd_X11_rule, w_in_X11, by decide +kernel, by decide +kernel, by decide⟩
theorem kl_X12_rule : kdL yX12_rule cX12_rule 4 (some .int) 1 := ⟨w_cd_X12_rule, w_in_X12, by decide +kernel, by decide +kernel, by decide⟩
theorem kl_X11_join : kdL yX11_join cX11_join 5 (some .int) 4 := ⟨w_cd_X11_join, w_in_X11, by decide +kernel, by decide +kernel, by decide⟩
theorem kl_X12_join : kdL yX12_join cX12_join 6 (some .int) 4 := ⟨w_cd_X12_join, w_in_X12, by decide +kernel, by decide +kernel, by decide⟩
theorem kl_X12_own : kdL yX12_own cX12_own 5 (some .int) 3 := ⟨w_cd_X12_own, w_in_X12, by decide +kernel, by decide +kernel, by decide⟩
theorem kl_X11_own : kdL yX11_own cX11_own 4 (some .int) 3 := ⟨w_cd_X11_own, w_in_X11, by decide +kernel, by decide +kernel, by decide⟩
theorem kl_X11_quarrel : kdL yX11_quarrel cX11_quarrel 3 (some .int) 2 := ⟨w_cd_X11_quarrel, w_in_X11, by decide +kernel, by decide +kernel, by decide⟩
theorem kl_X12_quarrel : kdL yX12_quarrel cX12_quarrel 7 (some .int) 2 := ⟨w_cd_X12_quarrel, w_in_X12, by decide +kernel, by decide +kernel, by decide⟩
theorem kl_X11_idle : kdL yX11_idle cX11_idle 3 (some .int) 2 := ⟨w_cd_X11_idle, w_in_X11, by decide +kernel, by decide +kernel, by decide⟩
theorem kl_X12_idle : kdL yX12_idle cX12_idle 7 (some .int) 2 := ⟨w_cd_X12_idle, w_in_X12, by decide +kernel, by decide +kernel, by decide⟩
theorem kl_X11_missing : kdL yX11_missing cX11_missing 3 (some .int) 2 := ⟨w_cd_X11_missing, w_in_X11, by decide +kernel, by decide +kernel, by decide⟩
theorem kl_X12_missing : kdL yX12_missing cX12_missing 5 (some .int) 2 := ⟨w_cd_X12_missing, w_in_X12, by decide +kernel, by decide +kernel, by decide⟩
theorem kl_X11_speak : kdL yX11_speak cX11_speak 2 (some .int) 1 := ⟨w_cd_X11_speak, w_in_X11, by decide +kernel, by decide +kernel, by decide⟩
theorem kl_X12_speak : kdL yX12_speak cX12_speak 3 (some .int) 1 := ⟨w_cd_X12_speak, w_in_X12, by decide +kernel, by decide +kernel, by decide⟩
theorem kl_X11_strike : kdL yX11_strike cX11_strike 3 (some .int) 2 := ⟨w_cd_X11_strike, w_in_X11, by decide +kernel, by decide +kernel, by decide⟩
theorem kl_X12_strike : kdL yX12_strike cX12_strike 4 (some .int) 2 := ⟨w_cd_X12_strike, w_in_X12, by decide +kernel, by decide +kernel, by decide⟩
theorem kl_X11_change : kdL yX11_change cX11_change 3 (some .int) 2 := ⟨w_cd_X11_change, w_in_X11, by decide +kernel, by decide +kernel, by decide⟩
theorem kl_X12_change : kdL yX12_change cX12_change 4 (some .int) 2 := ⟨w_cd_X12_change, w_in_X12, by decide +kernel, by decide +kernel, by decide⟩
theorem kl_X11_back : kdL yX11_back cX11_back 2 (some .int) 1 := ⟨w_cd_X11_back, w_in_X11, by decide +kernel, by decide +kernel, by decide⟩
theorem kl_X12_back : kdL yX12_back cX12_back 4 (some .int) 1 := ⟨w_cd_X12_back, w_in_X12, by decide +kernel, by decide +kernel, by decide⟩
theorem kl_X11_stands : kdL yX11_stands cX11_stands 2 (some .int) 1 := ⟨w_cd_X11_stands, w_in_X11, by decide +kernel, by decide +kernel, by decide⟩
theorem kl_X12_stands : kdL yX12_stands cX12_stands 2 (some .int) 1 := ⟨w_cd_X12_stands, w_in_X12, by decide +kernel, by decide +kernel, by decide⟩
theorem kl_X11_piece : kdL yX11_piece cX11_piece 2 (some .int) 1 := ⟨w_cd_X11_piece, w_in_X11, by decide +kernel, by decide +kernel, by decide⟩
theorem kl_X12_piece : kdL yX12_piece cX12_piece 2 (some .int) 1 := ⟨w_cd_X12_piece, w_in_X12, by decide +kernel, by decide +kernel, by decide⟩
theorem kl_X11_could : kdL yX11_could cX11_could 1 (some .int) 0 := ⟨w_cd_X11_could, w_in_X11, by decide +kernel, by decide +kernel, by decide⟩
theorem kl_X12_could : kdL yX12_could cX12_could 8 (some .int) 0 := ⟨w_cd_X12_could, w_in_X12, by decide +kernel, by decide +kernel, by decide⟩
theorem kl_X11_word : kdL yX11_word cX11_word 5 (some .int) 3 := ⟨w_cd_X11_word, w_in_X11, by decide +kernel, by decide +kernel, by decide⟩
theorem kl_X12_word : kdL yX12_word cX12_word 5 (some .int) 3 := ⟨w_cd_X12_word, w_in_X12, by decide +kernel, by decide +kernel, by decide⟩
theorem kl_X11_ofWord : kdL yX11_ofWord cX11_ofWord 3 (some .int) 2 := ⟨w_cd_X11_ofWord, w_in_X11, by decide +kernel, by decide +kernel, by decide⟩
theorem kl_X12_ofWord : kdL yX12_ofWord cX12_ofWord 3 (some .int) 2 := ⟨w_cd_X12_ofWord, w_in_X12, by decide +kernel, by decide +kernel, by decide⟩
theorem kl_X11_count : kdL yX11_count cX11_count 3 (some .int) 2 := ⟨w_cd_X11_count, w_in_X11, by decide +kernel, by decide +kernel, by decide⟩
theorem kl_X12_count : kdL yX12_count cX12_count 4 (some .int) 2 := ⟨w_cd_X12_count, w_in_X12, by decide +kernel, by decide +kernel, by decide⟩
theorem kl_X11_price : kdL yX11_price cX11_price 3 (some .int) 2 := ⟨w_cd_X11_price, w_in_X11, by decide +kernel, by decide +kernel, by decide⟩
theorem kl_X12_price : kdL yX12_price cX12_price 4 (some .int) 2 := ⟨w_cd_X12_price, w_in_X12, by decide +kernel, by decide +kernel, by decide⟩
theorem kl_X11_slip : kdL yX11_slip cX11_slip 2 (some .int) 1 := ⟨w_cd_X11_slip, w_in_X11, by decide +kernel, by decide +kernel, by decide⟩
theorem kl_X12_slip : kdL yX12_slip cX12_slip 2 (some .int) 1 := ⟨w_cd_X12_slip, w_in_X12, by decide +kernel, by decide +kernel, by decide⟩
theorem kl_X11_guess : kdL yX11_guess cX11_guess 4 (some .int) 3 := ⟨w_cd_X11_guess, w_in_X11, by decide +kernel, by decide +kernel, by decide⟩
theorem kl_X12_guess : kdL yX12_guess cX12_guess 4 (some .int) 3 := ⟨w_cd_X12_guess, w_in_X12, by decide +kernel, by decide +kernel, by decide⟩
theorem kl_X11_part : kdL yX11_part cX11_part 4 (some .int) 2 := ⟨w_cd_X11_part, w_in_X11, by decide +kernel, by decide +kernel, by decide⟩
theorem kl_X12_part : kdL yX12_part cX12_part 5 (some .int) 2 := ⟨w_cd_X12_part, w_in_X12, by decide +kernel, by decide +kernel, by decide⟩
theorem kl_X11_pieceOf : kdL yX11_pieceOf cX11_pieceOf 4 (some .int) 2 := ⟨w_cd_X11_pieceOf, w_in_X11, by decide +kernel, by decide +kernel, by decide⟩
theorem kl_X12_pieceOf : kdL yX12_pieceOf cX12_pieceOf 5 (some .int) 2 := ⟨w_cd_X12_pieceOf, w_in_X12, by decide +kernel, by decide +kernel, by decide⟩
theorem kl_X11_both : kdL yX11_both cX11_both 4 (some .int) 3 := ⟨w_cd_X11_both, w_in_X11, by decide +kernel, by decide +kernel, by decide⟩
theorem kl_X12_both : kdL yX12_both cX12_both 6 (some .int) 3 := ⟨w_cd_X12_both, w_in_X12, by decide +kernel, by decide +kernel, by decide⟩
theorem kl_X12_say : kdL yX12_say cX12_say 3 (some .int) 2 := ⟨w_cd_X12_say, w_in_X12, by decide +kernel, by decide +kernel, by decide⟩
theorem kl_X11_say : kdL yX11_say cX11_say 3 (some .int) 2 := ⟨w_cd_X11_say, w_in_X11, by decide +kernel, by decide +kernel, by decide⟩
theorem kl_X11_chosen : kdL yX11_chosen cX11_chosen 2 (some .int) 1 := ⟨w_cd_X11_chosen, w_in_X11, by decide +kernel, by decide +kernel, by decide⟩
theorem kl_X12_chosen : kdL yX12_chosen cX12_chosen 2 (some .int) 1 := ⟨w_cd_X12_chosen, w_in_X12, by decide +kernel, by decide +kernel, by decide⟩
theorem kl_X11_product : kdL yX11_product cX11_product 1 (some .long) 0 := ⟨w_cd_X11_product, w_in_X11, by decide +kernel, by decide +kernel, by decide⟩
theorem kl_X12_product : kdL yX12_product cX12_product 1 (some .long) 0 := ⟨w_cd_X12_product, w_in_X12, by decide +kernel, by decide +kernel, by decide⟩
theorem kl_X11_learn : kdL yX11_learn cX11_learn 4 (some .int) 3 := ⟨w_cd_X11_learn, w_in_X11, by decide +kernel, by decide +kernel, by decide⟩
theorem kl_X12_learn : kdL yX12_learn cX12_learn 5 (some .int) 3 := ⟨w_cd_X12_learn, w_in_X12, by decide +kernel, by decide +kernel, by decide⟩
theorem kl_X11_worth : kdL yX11_worth cX11_worth 4 (some .int) 3 := ⟨w_cd_X11_worth, w_in_X11, by decide +kernel, by decide +kernel, by decide⟩
theorem kl_X12_worth : kdL yX12_worth cX12_worth 4 (some .int) 3 := ⟨w_cd_X12_worth, w_in_X12, by decide +kernel, by decide +kernel, by decide⟩
theorem kl_X11_forget : kdL yX11_forget cX11_forget 3 (some .int) 2 := ⟨w_cd_X11_forget, w_in_X11, by decide +kernel, by decide +kernel, by decide⟩
theorem kl_X12_forget : kdL yX12_forget cX12_forget 6 (some .int) 2 := ⟨w_cd_X12_forget, w_in_X12, by decide +kernel, by decide +kernel, by decide⟩
theorem kl_X11_fade : kdL yX11_fade cX11_fade 2 (some .int) 1 := ⟨w_cd_X11_fade, w_in_X11, by decide +kernel, by decide +kernel, by decide⟩
theorem kl_X12_fade : kdL yX12_fade cX12_fade 3 (some .int) 1 := ⟨w_cd_X12_fade, w_in_X12, by decide +kernel, by decide +kernel, by decide⟩
theorem kl_X11_mine : kdL yX11_mine cX11_mine 6 (some .int) 5 := ⟨w_cd_X11_mine, w_in_X11, by decide +kernel, by decide +kernel, by decide⟩
theorem kl_X12_mine : kdL yX12_mine cX12_mine 6 (some .int) 5 := ⟨w_cd_X12_mine, w_in_X12, by decide +kernel, by decide +kernel, by decide⟩
theorem kl_X11_budget : kdL yX11_budget cX11_budget 3 (some .int) 2 := ⟨w_cd_X11_budget, w_in_X11, by decide +kernel, by decide +kernel, by decide⟩
theorem kl_X12_budget : kdL yX12_budget cX12_budget 4 (some .int) 2 := ⟨w_cd_X12_budget, w_in_X12, by decide +kernel, by decide +kernel, by decide⟩
theorem kl_X11_seed : kdL yX11_seed cX11_seed 2 (some .int) 1 := ⟨w_cd_X11_seed, w_in_X11, by decide +kernel, by decide +kernel, by decide⟩
theorem kl_X12_seed : kdL yX12_seed cX12_seed 3 (some .int) 1 := ⟨w_cd_X12_seed, w_in_X12, by decide +kernel, by decide +kernel, by decide⟩
theorem kl_X11_share : kdL yX11_share cX11_share 4 (some .int) 3 := ⟨w_cd_X11_share, w_in_X11, by decide +kernel, by decide +kernel, by decide⟩
theorem kl_X12_share : kdL yX12_share cX12_share 7 (some .int) 3 := ⟨w_cd_X12_share, w_in_X12, by decide +kernel, by decide +kernel, by decide⟩
theorem kl_X11_symbols : kdL yX11_symbols cX11_symbols 2 (some .int) 1 := ⟨w_cd_X11_symbols, w_in_X11, by decide +kernel, by decide +kernel, by decide⟩
theorem kl_X12_symbols : kdL yX12_symbols cX12_symbols 3 (some .int) 1 := ⟨w_cd_X12_symbols, w_in_X12, by decide +kernel, by decide +kernel, by decide⟩
theorem kl_X11_set : kdL yX11_set cX11_set 4 (some .int) 3 := ⟨w_cd_X11_set, w_in_X11, by decide +kernel, by decide +kernel, by decide⟩
theorem kl_X12_set : kdL yX12_set cX12_set 5 (some .int) 3 := ⟨w_cd_X12_set, w_in_X12, by decide +kernel, by decide +kernel, by decide⟩
theorem kl_X11_pair : kdL yX11_pair cX11_pair 4 (some .int) 3 := ⟨w_cd_X11_pair, w_in_X11, by decide +kernel, by decide +kernel, by decide⟩
theorem kl_X12_pair : kdL yX12_pair cX12_pair 5 (some .int) 3 := ⟨w_cd_X12_pair, w_in_X12, by decide +kernel, by decide +kernel, by decide⟩
theorem kl_X11_same : kdL yX11_same cX11_same 2 (some .int) 1 := ⟨w_cd_X11_same, w_in_X11, by decide +kernel, by decide +kernel, by decide⟩
theorem kl_X12_same : kdL yX12_same cX12_same 3 (some .int) 1 := ⟨w_cd_X12_same, w_in_X12, by decide +kernel, by decide +kernel, by decide⟩
theorem kl_X11_cost : kdL yX11_cost cX11_cost 2 (some .int) 1 := ⟨w_cd_X11_cost, w_in_X11, by decide +kernel, by decide +kernel, by decide⟩
theorem kl_X12_cost : kdL yX12_cost cX12_cost 2 (some .int) 1 := ⟨w_cd_X12_cost, w_in_X12, by decide +kernel, by decide +kernel, by decide⟩
theorem kl_X11_best : kdL yX11_best cX11_best 1 (some .int) 0 := ⟨w_cd_X11_best, w_in_X11, by decide +kernel, by decide +kernel, by decide⟩
theorem kl_X12_best : kdL yX12_best cX12_best 3 (some .int) 0 := ⟨w_cd_X12_best, w_in_X12, by decide +kernel, by decide +kernel, by decide⟩
theorem kl_X11_bound : kdL yX11_bound cX11_bound 1 (some .int) 0 := ⟨w_cd_X11_bound, w_in_X11, by decide +kernel, by decide +kernel, by decide⟩
theorem kl_X12_bound : kdL yX12_bound cX12_bound 8 (some .int) 0 := ⟨w_cd_X12_bound, w_in_X12, by decide +kernel, by decide +kernel, by decide⟩
theorem kl_X11_better : kdL yX11_better cX11_better 4 (some .int) 2 := ⟨w_cd_X11_better, w_in_X11, by decide +kernel, by decide +kernel, by decide⟩
theorem kl_X12_better : kdL yX12_better cX12_better 10 (some .int) 2 := ⟨w_cd_X12_better, w_in_X12, by decide +kernel, by decide +kernel, by decide⟩
theorem kl_X11_way : kdL yX11_way cX11_way 4 (some .int) 3 := ⟨w_cd_X11_way, w_in_X11, by decide +kernel, by decide +kernel, by decide⟩
theorem kl_X12_way : kdL yX12_way cX12_way 8 (some .int) 3 := ⟨w_cd_X12_way, w_in_X12, by decide +kernel, by decide +kernel, by decide⟩
theorem kl_X11_told : kdL yX11_told cX11_told 2 (some .int) 1 := ⟨w_cd_X11_told, w_in_X11, by decide +kernel, by decide +kernel, by decide⟩
theorem kl_X12_told : kdL yX12_told cX12_told 2 (some .int) 1 := ⟨w_cd_X12_told, w_in_X12, by decide +kernel, by decide +kernel, by decide⟩
theorem kl_X11_init : kdL yX11_init cX11_init 2 none 0 := ⟨w_cd_X11_init, w_in_X11, by decide +kernel, by decide +kernel, by decide⟩
theorem kl_X12_init : kdL yX12_init cX12_init 2 none 0 := ⟨w_cd_X12_init, w_in_X12, by decide +kernel, by decide +kernel, by decide⟩
section KDRL
variable {E : kdE} {A : kdA} {G : kdS} {σ : kdM} {nL h c0 s0 cc cs pc : Nat} {Q : State → Prop} {L : List (Nat × Value)} {st : List Value} {bc : ByteArray} {own : String} {ret : Option FieldType}
theorem r1_newLaw {ci n idx : Nat} {C : String} {β : Type} {f : Nat → kd1 → Option β} {w : β} (hX : kdX E A bc nL own ret h) (hY : kdYo A) (hd : decode bc pc = .ok (.new idx, 3)) (hD : kdD ci) (hcC : ∃ T, vwCl[ci]? = some (C, T, n)) (hcl : Cond.classLink own idx C ∈ kdtb) (hin : Cond.instantiable C n ∈ kdtb) (hini : Cond.initialized C ∈ kdtb) (hc : c0 + cc = (kdAR A).cells) (hs : s0 + cs = (kdAR A).slots) (hh : n1 ci n f (G, σ, cc, cs) = some w)
    (kk : ∀ (t : Nat) (G' : kdS) (σ' : kdM) (cc' cs' c0' s0' : Nat), c0' + cc' = (kdAR A).cells → s0' + cs' = (kdAR A).slots → f t (G', σ', cc', cs') = some w → SWg E A nL Q (kdR E G' σ') c0' s0' (pc + 3) L (kr E t :: st)) : SWg E A nL Q (kdR E G σ) c0 s0 pc L st := by
  unfold n1 at hh
  split at hh
  case isFalse => cases hh
  case isTrue hq =>
    obtain ⟨q1, q2⟩ := hq
    have q1 : 1 ≤ cc := q1
    have q2 : n ≤ cs := q2
    have kk := kk _ _ _ _ _ (c0 + 1) (s0 + n) (by show c0 + 1 + (cc - 1) = _; omega) (by show s0 + n + (cs - n) = _; omega) hh
    obtain ⟨p, e, R, s, m, args, below, meth, c⟩ := A
    intro H locs ls hl hR hS
    obtain ⟨x1, x2, x3, x4, x5, x6, -⟩ := hX
    obtain ⟨T', hcC⟩ := hcC
    obtain ⟨C', T, N, ty, hcv, hws, hty, hdf⟩ := hD
    cases hcv.symm.trans hcC
    have hKn := x6.1 ci _ hcv
    have hci13 : ci < 13 := (List.getElem?_eq_some_iff.mp hcv).1
    have hc' : c0 + cc = R.cells := hc
    have hs' : s0 + cs = R.slots := hs
    refine W.newcK x1 x2 x4 (x5 _ hcl) (x5 _ hin) (x5 _ hini) rfl hd (by omega) (by omega) hKn.2.1 hR.1 fun H1 kC hkC e1 z1 o1 => ?_
    have ho : ∀ x : Nat, x < H.size → H1[x]? = H[x]? := fun x hx => o1 x (by rw [← hR.1]; exact hx)
    refine kk H1 locs ls hl (hR.push (by rw [z1, hR.1]) ho ⟨fun _ => ⟨_, by simpa [ga] using hcv, ?_⟩, fun h13 => absurd h13 (by simp [ga]; omega)⟩) (va_S_push hS (by rw [z1, hR.1]; omega) ho)
    have hb := u_born ty x5 hws hKn hkC e1 hty
    have e9 : ((ga G (ci, 0)).1 G.2.2).1 = ci := by simp [ga]
    rw [e9]
    refine hb.to (fun j hj => ?_)
    rw [hdf j hj]
    simp [kdV, ga, gz, va_rf]
theorem r1_cILaw {y : MethodName} {bytes : ByteArray} {maxL n idx h2 b mc ms : Nat} {As st1 : List Value} {β : Type} {g : kd1 → Option (Unit × kd1)} {f : kd1 → Option β} {w : β} (hX : kdX E A bc nL own ret h) (hY : kdYo A) (hd : decode bc pc = .ok (.invokespecial idx, 3)) (hL : kdL y bytes maxL none n) (hlink : Cond.methodLink own idx y ∈ kdtb) (hinst : Cond.instanceMethod y ∈ kdtb) (hy1 : y.name = "<init>") (hh : h2 < h) (hn : As.length = n) (hst : (st.map fun v => v.category).sum ≤ 8) (hs1 : As.reverse ++ kr E b :: st = st1) (hc : c0 + cc = (kdAR A).cells) (hs : s0 + cs = (kdAR A).slots) (hq : sub1 mc ms g f (G, σ, cc, cs) = some w)
    (hC : ∀ (G1 : kdS) (σ1 : kdM) (c1 s1 : Nat), g (G, σ, mc, ms) = some ((), (G1, σ1, c1, s1)) → Con1 E y bytes maxL none h2 mc ms (kr E b :: As) G σ (none, G1, σ1))
    (kk : ∀ (G' : kdS) (σ' : kdM) (cc' cs' c0' s0' : Nat), c0' + cc' = (kdAR A).cells → s0' + cs' = (kdAR A).slots → f (G', σ', cc', cs') = some w → SWg E A nL Q (kdR E G' σ') c0' s0' (pc + 3) L st) : SWg E A nL Q (kdR E G σ) c0 s0 pc L st1 := by
  subst hs1
  obtain ⟨m1, m2, G1, σ1, c1, s1, e1, e2⟩ := sub1_inv hq
  have kk := kk G1 σ1 _ _ (c0 + mc) (s0 + ms) (by omega) (by omega) e2
  obtain ⟨p, e, R, s, m, args, below, meth, c⟩ := A
  intro H locs ls hl hR hS
  obtain ⟨x1, x2, x3, x4, x5, x6, x7, x8, x9, x10, x11⟩ := hX
  obtain ⟨l1, l2, l3, l4, l5⟩ := hL
  have hc' : c0 + cc = R.cells := hc
  have hs' : s0 + cs = R.slots := hs
  have cw : CallB R s args own idx y bytes maxL none (Cond.code y bytes maxL none :: kdtb) (kdr1 h2 mc ms) mc ms n := callB_of n x5 (kdG l1) rfl rfl rfl (x5 _ l2) (x5 _ hlink) ⟨l3.1, l3.2, l4⟩ ⟨by show h2 + 1 ≤ _; omega, by show 8 + (maxL + 11) + 64 * h2 ≤ _; omega⟩
  exact kd1_call (va_runI (As := As) (rest := st) (cells := c0) (slots := s0) (mc := mc) (ms := ms) (b := E.2.2.2 + b) (g := F0 m pc ls (As.reverse ++ kr E b :: st)) ⟨x1, x2, x3, x4, x5⟩ (hC G1 σ1 c1 s1 e1) ⟨cw, hy1, x5 _ hinst⟩ (kd1Pre (av := kr E b :: As) hR x6 x7 hY) rfl hn hl.1 rfl (lv_room hst) hd ⟨by omega, by omega⟩) hl hS kk
theorem r_sload {q : Fin 4} {i a : Nat} {Rl : Heap → Prop} {cc : ByteArray} (hX : kdX E A cc nL own ret h) (hd : decode cc pc = .ok (.aload_n q, 1)) (hi : (q : Nat) = i) (j : Nat) (hk : L[j]? = some (i, .ref a)) (k : SWg E A nL Q Rl c0 s0 (pc + 1) L (.ref a :: st)) : SWg E A nL Q Rl c0 s0 pc L st := by
  obtain ⟨p, e, R, s, m, args, below, meth, c⟩ := A
  intro H locs ls hl hR hS
  exact lv_aload_n hX.1 hX.2.1 hd hi (lv_at hl j hk) (k H locs ls hl hR hS)
theorem r_sc {z : kdZ} {b N : Nat} {xs : Nat → Int32} {cc : ByteArray} {i : Int32} {β : Type} {f : Int32 → kdM → Option β} {w : β} (hX : kdX E A cc nL own ret h) (hLw : kdLw E A b N xs) (hd : decode cc pc = .ok (.iaload, 1)) (hh : scd xs N i f σ = some w) (k : ∀ x : Int32, f x σ = some w → SW E G z A nL σ (pc + 1) L (.int x :: st)) : SW E G z A nL σ pc L (.int i :: .ref b :: st) := by
  unfold scd at hh
  split at hh
  case isFalse => cases hh
  case isTrue hin =>
    have k := k _ hh
    obtain ⟨p, e, R, s, m, args, below, meth, c⟩ := A
    obtain ⟨l1, l2, l3⟩ := hLw
    intro H locs ls hl hR hS
    exact va_sld hX.1 hX.2.1 l1 l2 (by show ¬ E.2.2.2 ≤ b; omega) hS (kd_in hin) hd (k H locs ls hl hR hS)
theorem r_scn {z : kdZ} {b N : Nat} {xs : Nat → Int32} {cc : ByteArray} (hX : kdX E A cc nL own ret h) (hLw : kdLw E A b N xs) (hd : decode cc pc = .ok (.arraylength, 1)) (k : SW E G z A nL σ (pc + 1) L (.int (Int32.ofNat N) :: st)) : SW E G z A nL σ pc L (.ref b :: st) := by
  obtain ⟨p, e, R, s, m, args, below, meth, c⟩ := A
  obtain ⟨l1, l2, l3⟩ := hLw
  intro H locs ls hl hR hS
  exact va_slen hX.1 hX.2.1 l1 l2 (by show ¬ E.2.2.2 ≤ b; omega) hS hd (k H locs ls hl hR hS)
end KDRL
theorem r_lawend {E : kdE} {A : kdA} {G : kdS} {σ : kdM} {h pc b : Nat} {z : Nat × Nat} {L : List (Nat × Value)} {N : Nat} {xs : Nat → Int32} (hX : kdX E A cL_law 4 RL (some .boolean) h) (hLe : kdLe A b z) (hLw : kdLw E A b N xs) (hd : decode cL_law pc = .ok (.ireturn, 1)) : SW E G (.inr z) A 4 σ pc L [.int 1] := by
  obtain ⟨p, e, R, s, m, args, below, meth, c⟩ := A
  obtain ⟨rfl, rfl, e1, e2, hr⟩ := hLe
  obtain ⟨l1, l2, l3⟩ := hLw
  intro H locs ls hl hR hS
  refine va_forget (fun q hq => by rw [← l3]; exact hS.2.2 q hq) ?_
  refine W.widen (k := 600000) (n := 7302250) e1 e2 ?_
  exact lw_ret hX.1 hX.2.1 hr hX.2.2.2.2.2.2.2.1 hd
def L_pre : kd1 → Option ((Nat × Nat) × kd1) :=
  n1 11 12 fun t1 => sub1 611 10973 (X11_init t1) <| n1 12 66 fun t2 => sub1 50 14008 (X12_init t2) <| rt1 (t1, t2)
set_option maxRecDepth 100000 in
set_option maxHeartbeats 4000000 in
theorem wL_pre {E : kdE} {A : kdA} {G : kdS} {σ : kdM} {c0 s0 cc cs b : Nat} {Q : State → Prop} {x m cc1 cs1 : Nat} {G1 : kdS} {σ1 : kdM} (hX : kdX E A cL_law 4 RL (some .boolean) 20) (hY : kdYo A) (hc : c0 + cc = (kdAR A).cells) (hs : s0 + cs = (kdAR A).slots) (h : L_pre (G, σ, cc, cs) = some ((x, m), (G1, σ1, cc1, cs1)))
    (kk : ∀ c0' s0' : Nat, c0' + cc1 = (kdAR A).cells → s0' + cs1 = (kdAR A).slots → SWg E A 4 Q (kdR E G1 σ1) c0' s0' 18 [(0, .ref b), (1, kr E x), (2, kr E m), (3, .int 0)] []) : SWg E A 4 Q (kdR E G σ) c0 s0 0 [(0, .ref b)] [] := by
  unfold L_pre at h
  refine r1_newLaw (n := 12) hX hY dL_law_0 kd_dd_X11 ⟨_, rfl⟩ w_cL_L_7 w_is_X11 w_in_X11 hc hs h ?_
  clear h hc hs; intro t1 G σ cc cs c0 s0 hc hs h
  refine r_dup hX dL_law_3 rfl ?_
  refine r1_cILaw (As := []) (st := [kr E t1]) hX hY dL_law_4 kl_X11_init w_ml_L_9 w_im_X11_init rfl (by decide) rfl (Nat.le_of_ble_eq_true rfl) rfl hc hs h (fun G1 σ1 c1 s1 h => wX11_init h) ?_
  clear h hc hs; intro G σ cc cs c0 s0 hc hs h
  refine r_astore_n (L2 := [(1, kr E t1), (0, .ref b)]) hX dL_law_7 rfl (by decide) rfl ?_
  refine r1_newLaw (n := 66) hX hY dL_law_8 kd_dd_X12 ⟨_, rfl⟩ w_cL_L_10 w_is_X12 w_in_X12 hc hs h ?_
  clear h hc hs; intro t2 G σ cc cs c0 s0 hc hs h
  refine r_dup hX dL_law_11 rfl ?_
  refine r1_cILaw (As := []) (st := [kr E t2]) hX hY dL_law_12 kl_X12_init w_ml_L_12 w_im_X12_init rfl (by decide) rfl (Nat.le_of_ble_eq_true rfl) rfl hc hs h (fun G1 σ1 c1 s1 h => wX12_init h) ?_
  clear h hc hs; intro G σ cc cs c0 s0 hc hs h
  refine r_astore_n (L2 := [(2, kr E t2), (1, kr E t1), (0, .ref b)]) hX dL_law_15 rfl (by decide) rfl ?_
  refine r_iconst hX dL_law_16 kk_i_0 ?_
  refine r_istore_n (L2 := [(3, .int 0), (2, kr E t2), (1, kr E t1), (0, .ref b)]) hX dL_law_17 rfl (by decide) rfl ?_
  refine r_sub [3, 2, 1, 0] rfl ?_
  cases h
  exact kk c0 s0 hc hs
def L_law_1693 (G : kdS) (xs : Nat → Int32) (N : Nat) (k18 : Nat → Nat → Int32 → kdM → Option (Unit × kdM)) (l1 : Nat) (l2 : Nat) (l3 : Int32) : kdM → Option (Unit × kdM) :=
  ltI (l3 + Int32.ofInt 6) fun t1 =>
  k18 l1 l2 t1
set_option maxRecDepth 100000 in
set_option maxHeartbeats 4000000 in
theorem wL_law_1693 {E : kdE} {G : kdS} {A : kdA} {z : Nat × Nat} {b N : Nat} {xs : Nat → Int32} {r : Unit} {σ1 : kdM} (hX : kdX E A cL_law 4 RL (some .boolean) 20) (hro : kdRO A z.1 z.2) (hLw : kdLw E A b N xs) (hLe : kdLe A b z) (k18 : Nat → Nat → Int32 → kdM → Option (Unit × kdM)) (hk18 : ∀ (l1 l2 : Nat) (l3 : Int32) (σ : kdM), k18 l1 l2 l3 σ = some (r, σ1) → SW E G (.inr z) A 4 σ 18 [(0, .ref b), (1, kr E l1), (2, kr E l2), (3, .int l3)] []) {l1 : Nat} {l2 : Nat} {l3 : Int32} {σ : kdM} (h : L_law_1693 G xs N k18 l1 l2 l3 σ = some (r, σ1)) : SW E G (.inr z) A 4 σ 1693 [(0, .ref b), (1, kr E l1), (2, kr E l2), (3, .int l3)] [] := by
  unfold L_law_1693 at h
  refine r_iincL (L2 := fun t1 => [(3, .int t1), (0, .ref b), (1, kr E l1), (2, kr E l2)]) hX dL_law_1693 h 3 rfl (by decide) (fun _ => rfl) ?_
  clear h; intro t1 h
  refine r_goto (tgt := 18) hX dL_law_1696 (by decide) ?_
  refine r_sub [1, 2, 3, 0] rfl ?_
  exact hk18 _ _ _ _ h
def L_law_232 (G : kdS) (xs : Nat → Int32) (N : Nat) (k18 : Nat → Nat → Int32 → kdM → Option (Unit × kdM)) (l1 : Nat) (l2 : Nat) (l3 : Int32) : kdM → Option (Unit × kdM) :=
  scd xs N ((l3 + (1 : Int32))) fun t1 =>
  kcv G 11 l1 (X11_key G l1 t1) fun t2 =>
  scd xs N ((l3 + (1 : Int32))) fun t3 =>
  kcv G 12 l2 (X12_key G l2 t3) fun t4 =>
  cnd (t2 = t4)
    (L_law_1693 G xs N k18 l1 l2 l3)
    (fun _ => none)
set_option maxRecDepth 100000 in
set_option maxHeartbeats 4000000 in
theorem wL_law_232 {E : kdE} {G : kdS} {A : kdA} {z : Nat × Nat} {b N : Nat} {xs : Nat → Int32} {r : Unit} {σ1 : kdM} (hX : kdX E A cL_law 4 RL (some .boolean) 20) (hro : kdRO A z.1 z.2) (hLw : kdLw E A b N xs) (hLe : kdLe A b z) (k18 : Nat → Nat → Int32 → kdM → Option (Unit × kdM)) (hk18 : ∀ (l1 l2 : Nat) (l3 : Int32) (σ : kdM), k18 l1 l2 l3 σ = some (r, σ1) → SW E G (.inr z) A 4 σ 18 [(0, .ref b), (1, kr E l1), (2, kr E l2), (3, .int l3)] []) {l1 : Nat} {l2 : Nat} {l3 : Int32} {σ : kdM} (h : L_law_232 G xs N k18 l1 l2 l3 σ = some (r, σ1)) : SW E G (.inr z) A 4 σ 232 [(0, .ref b), (1, kr E l1), (2, kr E l2), (3, .int l3)] [] := by
  unfold L_law_232 at h
  refine r_aload_n hX dL_law_232 rfl 1 rfl ?_
  refine r_sload hX dL_law_233 rfl 0 rfl ?_
  refine r_iload_n hX dL_law_234 rfl 3 rfl ?_
  refine r_iconst hX dL_law_235 kk_i_1 ?_
  refine r_iadd hX dL_law_236 ?_
  refine r_sc hX hLw dL_law_237 h ?_
  clear h; intro t1 h
  refine r_cVi (As := [.int t1]) (st := []) hX dL_law_238 kl_X11_key w_ml_L_13 w_im_X11_key w_se_X11_key ⟨_, _, rfl⟩ (by decide) rfl (Nat.le_of_ble_eq_true rfl) rfl hro h (fun r σ1 h => wX11_key h) ?_
  clear h; intro t2 σ h
  refine r_aload_n hX dL_law_241 rfl 2 rfl ?_
  refine r_sload hX dL_law_242 rfl 0 rfl ?_
  refine r_iload_n hX dL_law_243 rfl 3 rfl ?_
  refine r_iconst hX dL_law_244 kk_i_1 ?_
  refine r_iadd hX dL_law_245 ?_
  refine r_sc hX hLw dL_law_246 h ?_
  clear h; intro t3 h
  refine r_cVi (As := [.int t3]) (st := [.int t2]) hX dL_law_247 kl_X12_key w_ml_L_17 w_im_X12_key w_se_X12_key ⟨_, _, rfl⟩ (by decide) rfl (Nat.le_of_ble_eq_true rfl) rfl hro h (fun r σ1 h => wX12_key h) ?_
  clear h; intro t4 σ h
  refine r_icmp_eq (tgt := 1693) hX dL_law_250 (by decide) h ?_ ?_
  · clear h; intro h
    refine r_sub [0, 1, 2, 3] rfl ?_
    exact wL_law_1693 hX hro hLw hLe k18 hk18 h
  · clear h; intro h
    exact absurd (show (none : Option (Unit × kdM)) = some (r, σ1) from h) (by simp)
def L_law_255 (G : kdS) (xs : Nat → Int32) (N : Nat) (k18 : Nat → Nat → Int32 → kdM → Option (Unit × kdM)) (l1 : Nat) (l2 : Nat) (l3 : Int32) : kdM → Option (Unit × kdM) :=
  scd xs N ((l3 + (1 : Int32))) fun t1 =>
  kcv G 11 l1 (X11_letter G l1 t1) fun t2 =>
  scd xs N ((l3 + (1 : Int32))) fun t3 =>
  kcv G 12 l2 (X12_letter G l2 t3) fun t4 =>
  cnd (t2 = t4)
    (L_law_1693 G xs N k18 l1 l2 l3)
    (fun _ => none)
set_option maxRecDepth 100000 in
set_option maxHeartbeats 4000000 in
theorem wL_law_255 {E : kdE} {G : kdS} {A : kdA} {z : Nat × Nat} {b N : Nat} {xs : Nat → Int32} {r : Unit} {σ1 : kdM} (hX : kdX E A cL_law 4 RL (some .boolean) 20) (hro : kdRO A z.1 z.2) (hLw : kdLw E A b N xs) (hLe : kdLe A b z) (k18 : Nat → Nat → Int32 → kdM → Option (Unit × kdM)) (hk18 : ∀ (l1 l2 : Nat) (l3 : Int32) (σ : kdM), k18 l1 l2 l3 σ = some (r, σ1) → SW E G (.inr z) A 4 σ 18 [(0, .ref b), (1, kr E l1), (2, kr E l2), (3, .int l3)] []) {l1 : Nat} {l2 : Nat} {l3 : Int32} {σ : kdM} (h : L_law_255 G xs N k18 l1 l2 l3 σ = some (r, σ1)) : SW E G (.inr z) A 4 σ 255 [(0, .ref b), (1, kr E l1), (2, kr E l2), (3, .int l3)] [] := by
  unfold L_law_255 at h
  refine r_aload_n hX dL_law_255 rfl 1 rfl ?_
  refine r_sload hX dL_law_256 rfl 0 rfl ?_
  refine r_iload_n hX dL_law_257 rfl 3 rfl ?_
  refine r_iconst hX dL_law_258 kk_i_1 ?_
  refine r_iadd hX dL_law_259 ?_
  refine r_sc hX hLw dL_law_260 h ?_
  clear h; intro t1 h
  refine r_cVi (As := [.int t1]) (st := []) hX dL_law_261 kl_X11_letter w_ml_L_18 w_im_X11_letter w_se_X11_letter ⟨_, _, rfl⟩ (by decide) rfl (Nat.le_of_ble_eq_true rfl) rfl hro h (fun r σ1 h => wX11_letter h) ?_
  clear h; intro t2 σ h
  refine r_aload_n hX dL_law_264 rfl 2 rfl ?_
  refine r_sload hX dL_law_265 rfl 0 rfl ?_
  refine r_iload_n hX dL_law_266 rfl 3 rfl ?_
  refine r_iconst hX dL_law_267 kk_i_1 ?_
  refine r_iadd hX dL_law_268 ?_
  refine r_sc hX hLw dL_law_269 h ?_
  clear h; intro t3 h
  refine r_cVi (As := [.int t3]) (st := [.int t2]) hX dL_law_270 kl_X12_letter w_ml_L_21 w_im_X12_letter w_se_X12_letter ⟨_, _, rfl⟩ (by decide) rfl (Nat.le_of_ble_eq_true rfl) rfl hro h (fun r σ1 h => wX12_letter h) ?_
  clear h; intro t4 σ h
  refine r_icmp_eq (tgt := 1693) hX dL_law_273 (by decide) h ?_ ?_
  · clear h; intro h
    refine r_sub [0, 1, 2, 3] rfl ?_
    exact wL_law_1693 hX hro hLw hLe k18 hk18 h
  · clear h; intro h
    exact absurd (show (none : Option (Unit × kdM)) = some (r, σ1) from h) (by simp)
def L_law_278 (G : kdS) (xs : Nat → Int32) (N : Nat) (k18 : Nat → Nat → Int32 → kdM → Option (Unit × kdM)) (l1 : Nat) (l2 : Nat) (l3 : Int32) : kdM → Option (Unit × kdM) :=
  scd xs N ((l3 + (1 : Int32))) fun t1 =>
  kcv G 11 l1 (X11_wipe G l1 t1) fun t2 =>
  scd xs N ((l3 + (1 : Int32))) fun t3 =>
  kcv G 12 l2 (X12_wipe G l2 t3) fun t4 =>
  cnd (t2 = t4)
    (L_law_1693 G xs N k18 l1 l2 l3)
    (fun _ => none)
set_option maxRecDepth 100000 in
set_option maxHeartbeats 4000000 in
theorem wL_law_278 {E : kdE} {G : kdS} {A : kdA} {z : Nat × Nat} {b N : Nat} {xs : Nat → Int32} {r : Unit} {σ1 : kdM} (hX : kdX E A cL_law 4 RL (some .boolean) 20) (hro : kdRO A z.1 z.2) (hLw : kdLw E A b N xs) (hLe : kdLe A b z) (k18 : Nat → Nat → Int32 → kdM → Option (Unit × kdM)) (hk18 : ∀ (l1 l2 : Nat) (l3 : Int32) (σ : kdM), k18 l1 l2 l3 σ = some (r, σ1) → SW E G (.inr z) A 4 σ 18 [(0, .ref b), (1, kr E l1), (2, kr E l2), (3, .int l3)] []) {l1 : Nat} {l2 : Nat} {l3 : Int32} {σ : kdM} (h : L_law_278 G xs N k18 l1 l2 l3 σ = some (r, σ1)) : SW E G (.inr z) A 4 σ 278 [(0, .ref b), (1, kr E l1), (2, kr E l2), (3, .int l3)] [] := by
  unfold L_law_278 at h
  refine r_aload_n hX dL_law_278 rfl 1 rfl ?_
  refine r_sload hX dL_law_279 rfl 0 rfl ?_
  refine r_iload_n hX dL_law_280 rfl 3 rfl ?_
  refine r_iconst hX dL_law_281 kk_i_1 ?_
  refine r_iadd hX dL_law_282 ?_
  refine r_sc hX hLw dL_law_283 h ?_
  clear h; intro t1 h
  refine r_cVi (As := [.int t1]) (st := []) hX dL_law_284 kl_X11_wipe w_ml_L_22 w_im_X11_wipe w_se_X11_wipe ⟨_, _, rfl⟩ (by decide) rfl (Nat.le_of_ble_eq_true rfl) rfl hro h (fun r σ1 h => wX11_wipe h) ?_
  clear h; intro t2 σ h
  refine r_aload_n hX dL_law_287 rfl 2 rfl ?_
  refine r_sload hX dL_law_288 rfl 0 rfl ?_
  refine r_iload_n hX dL_law_289 rfl 3 rfl ?_
  refine r_iconst hX dL_law_290 kk_i_1 ?_
  refine r_iadd hX dL_law_291 ?_
  refine r_sc hX hLw dL_law_292 h ?_
  clear h; intro t3 h
  refine r_cVi (As := [.int t3]) (st := [.int t2]) hX dL_law_293 kl_X12_wipe w_ml_L_25 w_im_X12_wipe w_se_X12_wipe ⟨_, _, rfl⟩ (by decide) rfl (Nat.le_of_ble_eq_true rfl) rfl hro h (fun r σ1 h => wX12_wipe h) ?_
  clear h; intro t4 σ h
  refine r_icmp_eq (tgt := 1693) hX dL_law_296 (by decide) h ?_ ?_
  · clear h; intro h
    refine r_sub [0, 1, 2, 3] rfl ?_
    exact wL_law_1693 hX hro hLw hLe k18 hk18 h
  · clear h; intro h
    exact absurd (show (none : Option (Unit × kdM)) = some (r, σ1) from h) (by simp)
def L_law_301 (G : kdS) (xs : Nat → Int32) (N : Nat) (k18 : Nat → Nat → Int32 → kdM → Option (Unit × kdM)) (l1 : Nat) (l2 : Nat) (l3 : Int32) : kdM → Option (Unit × kdM) :=
  scd xs N ((l3 + (1 : Int32))) fun t1 =>
  kcv G 11 l1 (X11_rule G l1 t1) fun t2 =>
  scd xs N ((l3 + (1 : Int32))) fun t3 =>
  kcv G 12 l2 (X12_rule G l2 t3) fun t4 =>
  cnd (t2 = t4)
    (L_law_1693 G xs N k18 l1 l2 l3)
    (fun _ => none)
set_option maxRecDepth 100000 in
set_option maxHeartbeats 4000000 in
theorem wL_law_301 {E : kdE} {G : kdS} {A : kdA} {z : Nat × Nat} {b N : Nat} {xs : Nat → Int32} {r : Unit} {σ1 : kdM} (hX : kdX E A cL_law 4 RL (some .boolean) 20) (hro : kdRO A z.1 z.2) (hLw : kdLw E A b N xs) (hLe : kdLe A b z) (k18 : Nat → Nat → Int32 → kdM → Option (Unit × kdM)) (hk18 : ∀ (l1 l2 : Nat) (l3 : Int32) (σ : kdM), k18 l1 l2 l3 σ = some (r, σ1) → SW E G (.inr z) A 4 σ 18 [(0, .ref b), (1, kr E l1), (2, kr E l2), (3, .int l3)] []) {l1 : Nat} {l2 : Nat} {l3 : Int32} {σ : kdM} (h : L_law_301 G xs N k18 l1 l2 l3 σ = some (r, σ1)) : SW E G (.inr z) A 4 σ 301 [(0, .ref b), (1, kr E l1), (2, kr E l2), (3, .int l3)] [] := by
  unfold L_law_301 at h
  refine r_aload_n hX dL_law_301 rfl 1 rfl ?_
  refine r_sload hX dL_law_302 rfl 0 rfl ?_
  refine r_iload_n hX dL_law_303 rfl 3 rfl ?_
  refine r_iconst hX dL_law_304 kk_i_1 ?_
  refine r_iadd hX dL_law_305 ?_
  refine r_sc hX hLw dL_law_306 h ?_
  clear h; intro t1 h
  refine r_cVi (As := [.int t1]) (st := []) hX dL_law_307 kl_X11_rule w_ml_L_26 w_im_X11_rule w_se_X11_rule ⟨_, _, rfl⟩ (by decide) rfl (Nat.le_of_ble_eq_true rfl) rfl hro h (fun r σ1 h => wX11_rule h) ?_
  clear h; intro t2 σ h
  refine r_aload_n hX dL_law_310 rfl 2 rfl ?_
  refine r_sload hX dL_law_311 rfl 0 rfl ?_
  refine r_iload_n hX dL_law_312 rfl 3 rfl ?_
  refine r_iconst hX dL_law_313 kk_i_1 ?_
  refine r_iadd hX dL_law_314 ?_
  refine r_sc hX hLw dL_law_315 h ?_
  clear h; intro t3 h
  refine r_cVi (As := [.int t3]) (st := [.int t2]) hX dL_law_316 kl_X12_rule w_ml_L_29 w_im_X12_rule w_se_X12_rule ⟨_, _, rfl⟩ (by decide) rfl (Nat.le_of_ble_eq_true rfl) rfl hro h (fun r σ1 h => wX12_rule h) ?_
  clear h; intro t4 σ h
  refine r_icmp_eq (tgt := 1693) hX dL_law_319 (by decide) h ?_ ?_
  · clear h; intro h
    refine r_sub [0, 1, 2, 3] rfl ?_
    exact wL_law_1693 hX hro hLw hLe k18 hk18 h
  · clear h; intro h
    exact absurd (show (none : Option (Unit × kdM)) = some (r, σ1) from h) (by simp)
def L_law_324 (G : kdS) (xs : Nat → Int32) (N : Nat) (k18 : Nat → Nat → Int32 → kdM → Option (Unit × kdM)) (l1 : Nat) (l2 : Nat) (l3 : Int32) : kdM → Option (Unit × kdM) :=
  scd xs N ((l3 + (1 : Int32))) fun t1 =>
  scd xs N ((l3 + (2 : Int32))) fun t2 =>
  scd xs N ((l3 + (3 : Int32))) fun t3 =>
  scd xs N ((l3 + (4 : Int32))) fun t4 =>
  kcv G 11 l1 (X11_join G l1 t1 t2 t3 t4) fun t5 =>
  scd xs N ((l3 + (1 : Int32))) fun t6 =>
  scd xs N ((l3 + (2 : Int32))) fun t7 =>
  scd xs N ((l3 + (3 : Int32))) fun t8 =>
  scd xs N ((l3 + (4 : Int32))) fun t9 =>
  kcv G 12 l2 (X12_join G l2 t6 t7 t8 t9) fun t10 =>
  cnd (t5 = t10)
    (L_law_1693 G xs N k18 l1 l2 l3)
    (fun _ => none)
set_option maxRecDepth 100000 in
set_option maxHeartbeats 4000000 in
theorem wL_law_324 {E : kdE} {G : kdS} {A : kdA} {z : Nat × Nat} {b N : Nat} {xs : Nat → Int32} {r : Unit} {σ1 : kdM} (hX : kdX E A cL_law 4 RL (some .boolean) 20) (hro : kdRO A z.1 z.2) (hLw : kdLw E A b N xs) (hLe : kdLe A b z) (k18 : Nat → Nat → Int32 → kdM → Option (Unit × kdM)) (hk18 : ∀ (l1 l2 : Nat) (l3 : Int32) (σ : kdM), k18 l1 l2 l3 σ = some (r, σ1) → SW E G (.inr z) A 4 σ 18 [(0, .ref b), (1, kr E l1), (2, kr E l2), (3, .int l3)] []) {l1 : Nat} {l2 : Nat} {l3 : Int32} {σ : kdM} (h : L_law_324 G xs N k18 l1 l2 l3 σ = some (r, σ1)) : SW E G (.inr z) A 4 σ 324 [(0, .ref b), (1, kr E l1), (2, kr E l2), (3, .int l3)] [] := by
  unfold L_law_324 at h
  refine r_aload_n hX dL_law_324 rfl 1 rfl ?_
  refine r_sload hX dL_law_325 rfl 0 rfl ?_
  refine r_iload_n hX dL_law_326 rfl 3 rfl ?_
  refine r_iconst hX dL_law_327 kk_i_1 ?_
  refine r_iadd hX dL_law_328 ?_
  refine r_sc hX hLw dL_law_329 h ?_
  clear h; intro t1 h
  refine r_sload hX dL_law_330 rfl 0 rfl ?_
  refine r_iload_n hX dL_law_331 rfl 3 rfl ?_
  refine r_iconst hX dL_law_332 kk_i_2 ?_
  refine r_iadd hX dL_law_333 ?_
  refine r_sc hX hLw dL_law_334 h ?_
  clear h; intro t2 h
  refine r_sload hX dL_law_335 rfl 0 rfl ?_
  refine r_iload_n hX dL_law_336 rfl 3 rfl ?_
  refine r_iconst hX dL_law_337 kk_i_3 ?_
  refine r_iadd hX dL_law_338 ?_
  refine r_sc hX hLw dL_law_339 h ?_
  clear h; intro t3 h
  refine r_sload hX dL_law_340 rfl 0 rfl ?_
  refine r_iload_n hX dL_law_341 rfl 3 rfl ?_
  refine r_iconst hX dL_law_342 kk_i_4 ?_
  refine r_iadd hX dL_law_343 ?_
  refine r_sc hX hLw dL_law_344 h ?_
  clear h; intro t4 h
  refine r_cVi (As := [.int t1, .int t2, .int t3, .int t4]) (st := []) hX dL_law_345 kl_X11_join w_ml_L_30 w_im_X11_join w_se_X11_join ⟨_, _, rfl⟩ (by decide) rfl (Nat.le_of_ble_eq_true rfl) rfl hro h (fun r σ1 h => wX11_join h) ?_
  clear h; intro t5 σ h
  refine r_aload_n hX dL_law_348 rfl 2 rfl ?_
  refine r_sload hX dL_law_349 rfl 0 rfl ?_
  refine r_iload_n hX dL_law_350 rfl 3 rfl ?_
  refine r_iconst hX dL_law_351 kk_i_1 ?_
  refine r_iadd hX dL_law_352 ?_
  refine r_sc hX hLw dL_law_353 h ?_
  clear h; intro t6 h
  refine r_sload hX dL_law_354 rfl 0 rfl ?_
  refine r_iload_n hX dL_law_355 rfl 3 rfl ?_
  refine r_iconst hX dL_law_356 kk_i_2 ?_
  refine r_iadd hX dL_law_357 ?_
  refine r_sc hX hLw dL_law_358 h ?_
  clear h; intro t7 h
  refine r_sload hX dL_law_359 rfl 0 rfl ?_
  refine r_iload_n hX dL_law_360 rfl 3 rfl ?_
  refine r_iconst hX dL_law_361 kk_i_3 ?_
  refine r_iadd hX dL_law_362 ?_
  refine r_sc hX hLw dL_law_363 h ?_
  clear h; intro t8 h
  refine r_sload hX dL_law_364 rfl 0 rfl ?_
  refine r_iload_n hX dL_law_365 rfl 3 rfl ?_
  refine r_iconst hX dL_law_366 kk_i_4 ?_
  refine r_iadd hX dL_law_367 ?_
  refine r_sc hX hLw dL_law_368 h ?_
  clear h; intro t9 h
  refine r_cVi (As := [.int t6, .int t7, .int t8, .int t9]) (st := [.int t5]) hX dL_law_369 kl_X12_join w_ml_L_34 w_im_X12_join w_se_X12_join ⟨_, _, rfl⟩ (by decide) rfl (Nat.le_of_ble_eq_true rfl) rfl hro h (fun r σ1 h => wX12_join h) ?_
  clear h; intro t10 σ h
  refine r_icmp_eq (tgt := 1693) hX dL_law_372 (by decide) h ?_ ?_
  · clear h; intro h
    refine r_sub [0, 1, 2, 3] rfl ?_
    exact wL_law_1693 hX hro hLw hLe k18 hk18 h
  · clear h; intro h
    exact absurd (show (none : Option (Unit × kdM)) = some (r, σ1) from h) (by simp)
def L_law_428 (G : kdS) (xs : Nat → Int32) (N : Nat) (k18 : Nat → Nat → Int32 → kdM → Option (Unit × kdM)) (l1 : Nat) (l2 : Nat) (l3 : Int32) (s0 : Int32) (s1 : Nat) (s2 : Int32) (s3 : Int32) (s4 : Int32) : kdM → Option (Unit × kdM) :=
  kcv G 12 s1 (X12_own G s1 s2 s3 s4) fun t1 =>
  cnd (s0 = t1)
    (L_law_1693 G xs N k18 l1 l2 l3)
    (fun _ => none)
set_option maxRecDepth 100000 in
set_option maxHeartbeats 4000000 in
theorem wL_law_428 {E : kdE} {G : kdS} {A : kdA} {z : Nat × Nat} {b N : Nat} {xs : Nat → Int32} {r : Unit} {σ1 : kdM} (hX : kdX E A cL_law 4 RL (some .boolean) 20) (hro : kdRO A z.1 z.2) (hLw : kdLw E A b N xs) (hLe : kdLe A b z) (k18 : Nat → Nat → Int32 → kdM → Option (Unit × kdM)) (hk18 : ∀ (l1 l2 : Nat) (l3 : Int32) (σ : kdM), k18 l1 l2 l3 σ = some (r, σ1) → SW E G (.inr z) A 4 σ 18 [(0, .ref b), (1, kr E l1), (2, kr E l2), (3, .int l3)] []) {l1 : Nat} {l2 : Nat} {l3 : Int32} {s0 : Int32} {s1 : Nat} {s2 : Int32} {s3 : Int32} {s4 : Int32} {σ : kdM} (h : L_law_428 G xs N k18 l1 l2 l3 s0 s1 s2 s3 s4 σ = some (r, σ1)) : SW E G (.inr z) A 4 σ 428 [(0, .ref b), (1, kr E l1), (2, kr E l2), (3, .int l3)] [.int s4, .int s3, .int s2, kr E s1, .int s0] := by
  unfold L_law_428 at h
  refine r_cVi (As := [.int s2, .int s3, .int s4]) (st := [.int s0]) hX dL_law_428 kl_X12_own w_ml_L_39 w_im_X12_own w_se_X12_own ⟨_, _, rfl⟩ (by decide) rfl (Nat.le_of_ble_eq_true rfl) rfl hro h (fun r σ1 h => wX12_own h) ?_
  clear h; intro t1 σ h
  refine r_icmp_eq (tgt := 1693) hX dL_law_431 (by decide) h ?_ ?_
  · clear h; intro h
    refine r_sub [0, 1, 2, 3] rfl ?_
    exact wL_law_1693 hX hro hLw hLe k18 hk18 h
  · clear h; intro h
    exact absurd (show (none : Option (Unit × kdM)) = some (r, σ1) from h) (by simp)
def L_law_401 (G : kdS) (xs : Nat → Int32) (N : Nat) (k18 : Nat → Nat → Int32 → kdM → Option (Unit × kdM)) (l1 : Nat) (l2 : Nat) (l3 : Int32) (s0 : Nat) (s1 : Int32) (s2 : Int32) (s3 : Int32) : kdM → Option (Unit × kdM) :=
  kcv G 11 s0 (X11_own G s0 s1 s2 s3) fun t1 =>
  scd xs N ((l3 + (1 : Int32))) fun t2 =>
  scd xs N ((l3 + (2 : Int32))) fun t3 =>
  scd xs N ((l3 + (3 : Int32))) fun t4 =>
  cnd (t4 = 0)
    (L_law_428 G xs N k18 l1 l2 l3 t1 l2 t2 t3 (0 : Int32))
    (L_law_428 G xs N k18 l1 l2 l3 t1 l2 t2 t3 (1 : Int32))
set_option maxRecDepth 100000 in
set_option maxHeartbeats 4000000 in
theorem wL_law_401 {E : kdE} {G : kdS} {A : kdA} {z : Nat × Nat} {b N : Nat} {xs : Nat → Int32} {r : Unit} {σ1 : kdM} (hX : kdX E A cL_law 4 RL (some .boolean) 20) (hro : kdRO A z.1 z.2) (hLw : kdLw E A b N xs) (hLe : kdLe A b z) (k18 : Nat → Nat → Int32 → kdM → Option (Unit × kdM)) (hk18 : ∀ (l1 l2 : Nat) (l3 : Int32) (σ : kdM), k18 l1 l2 l3 σ = some (r, σ1) → SW E G (.inr z) A 4 σ 18 [(0, .ref b), (1, kr E l1), (2, kr E l2), (3, .int l3)] []) {l1 : Nat} {l2 : Nat} {l3 : Int32} {s0 : Nat} {s1 : Int32} {s2 : Int32} {s3 : Int32} {σ : kdM} (h : L_law_401 G xs N k18 l1 l2 l3 s0 s1 s2 s3 σ = some (r, σ1)) : SW E G (.inr z) A 4 σ 401 [(0, .ref b), (1, kr E l1), (2, kr E l2), (3, .int l3)] [.int s3, .int s2, .int s1, kr E s0] := by
  unfold L_law_401 at h
  refine r_cVi (As := [.int s1, .int s2, .int s3]) (st := []) hX dL_law_401 kl_X11_own w_ml_L_35 w_im_X11_own w_se_X11_own ⟨_, _, rfl⟩ (by decide) rfl (Nat.le_of_ble_eq_true rfl) rfl hro h (fun r σ1 h => wX11_own h) ?_
  clear h; intro t1 σ h
  refine r_aload_n hX dL_law_404 rfl 2 rfl ?_
  refine r_sload hX dL_law_405 rfl 0 rfl ?_
  refine r_iload_n hX dL_law_406 rfl 3 rfl ?_
  refine r_iconst hX dL_law_407 kk_i_1 ?_
  refine r_iadd hX dL_law_408 ?_
  refine r_sc hX hLw dL_law_409 h ?_
  clear h; intro t2 h
  refine r_sload hX dL_law_410 rfl 0 rfl ?_
  refine r_iload_n hX dL_law_411 rfl 3 rfl ?_
  refine r_iconst hX dL_law_412 kk_i_2 ?_
  refine r_iadd hX dL_law_413 ?_
  refine r_sc hX hLw dL_law_414 h ?_
  clear h; intro t3 h
  refine r_sload hX dL_law_415 rfl 0 rfl ?_
  refine r_iload_n hX dL_law_416 rfl 3 rfl ?_
  refine r_iconst hX dL_law_417 kk_i_3 ?_
  refine r_iadd hX dL_law_418 ?_
  refine r_sc hX hLw dL_law_419 h ?_
  clear h; intro t4 h
  refine r_if_eq (tgt := 427) hX dL_law_420 (by decide) h ?_ ?_
  · clear h; intro h
    refine r_iconst hX dL_law_427 kk_i_0 ?_
    refine r_sub [0, 1, 2, 3] rfl ?_
    exact wL_law_428 hX hro hLw hLe k18 hk18 h
  · clear h; intro h
    refine r_iconst hX dL_law_423 kk_i_1 ?_
    refine r_goto (tgt := 428) hX dL_law_424 (by decide) ?_
    refine r_sub [0, 1, 2, 3] rfl ?_
    exact wL_law_428 hX hro hLw hLe k18 hk18 h
def L_law_377 (G : kdS) (xs : Nat → Int32) (N : Nat) (k18 : Nat → Nat → Int32 → kdM → Option (Unit × kdM)) (l1 : Nat) (l2 : Nat) (l3 : Int32) : kdM → Option (Unit × kdM) :=
  scd xs N ((l3 + (1 : Int32))) fun t1 =>
  scd xs N ((l3 + (2 : Int32))) fun t2 =>
  scd xs N ((l3 + (3 : Int32))) fun t3 =>
  cnd (t3 = 0)
    (L_law_401 G xs N k18 l1 l2 l3 l1 t1 t2 (0 : Int32))
    (L_law_401 G xs N k18 l1 l2 l3 l1 t1 t2 (1 : Int32))
set_option maxRecDepth 100000 in
set_option maxHeartbeats 4000000 in
theorem wL_law_377 {E : kdE} {G : kdS} {A : kdA} {z : Nat × Nat} {b N : Nat} {xs : Nat → Int32} {r : Unit} {σ1 : kdM} (hX : kdX E A cL_law 4 RL (some .boolean) 20) (hro : kdRO A z.1 z.2) (hLw : kdLw E A b N xs) (hLe : kdLe A b z) (k18 : Nat → Nat → Int32 → kdM → Option (Unit × kdM)) (hk18 : ∀ (l1 l2 : Nat) (l3 : Int32) (σ : kdM), k18 l1 l2 l3 σ = some (r, σ1) → SW E G (.inr z) A 4 σ 18 [(0, .ref b), (1, kr E l1), (2, kr E l2), (3, .int l3)] []) {l1 : Nat} {l2 : Nat} {l3 : Int32} {σ : kdM} (h : L_law_377 G xs N k18 l1 l2 l3 σ = some (r, σ1)) : SW E G (.inr z) A 4 σ 377 [(0, .ref b), (1, kr E l1), (2, kr E l2), (3, .int l3)] [] := by
  unfold L_law_377 at h
  refine r_aload_n hX dL_law_377 rfl 1 rfl ?_
  refine r_sload hX dL_law_378 rfl 0 rfl ?_
  refine r_iload_n hX dL_law_379 rfl 3 rfl ?_
  refine r_iconst hX dL_law_380 kk_i_1 ?_
  refine r_iadd hX dL_law_381 ?_
  refine r_sc hX hLw dL_law_382 h ?_
  clear h; intro t1 h
  refine r_sload hX dL_law_383 rfl 0 rfl ?_
  refine r_iload_n hX dL_law_384 rfl 3 rfl ?_
  refine r_iconst hX dL_law_385 kk_i_2 ?_
  refine r_iadd hX dL_law_386 ?_
  refine r_sc hX hLw dL_law_387 h ?_
  clear h; intro t2 h
  refine r_sload hX dL_law_388 rfl 0 rfl ?_
  refine r_iload_n hX dL_law_389 rfl 3 rfl ?_
  refine r_iconst hX dL_law_390 kk_i_3 ?_
  refine r_iadd hX dL_law_391 ?_
  refine r_sc hX hLw dL_law_392 h ?_
  clear h; intro t3 h
  refine r_if_eq (tgt := 400) hX dL_law_393 (by decide) h ?_ ?_
  · clear h; intro h
    refine r_iconst hX dL_law_400 kk_i_0 ?_
    refine r_sub [0, 1, 2, 3] rfl ?_
    exact wL_law_401 hX hro hLw hLe k18 hk18 h
  · clear h; intro h
    refine r_iconst hX dL_law_396 kk_i_1 ?_
    refine r_goto (tgt := 401) hX dL_law_397 (by decide) ?_
    refine r_sub [0, 1, 2, 3] rfl ?_
    exact wL_law_401 hX hro hLw hLe k18 hk18 h
def L_law_436 (G : kdS) (xs : Nat → Int32) (N : Nat) (k18 : Nat → Nat → Int32 → kdM → Option (Unit × kdM)) (l1 : Nat) (l2 : Nat) (l3 : Int32) : kdM → Option (Unit × kdM) :=
  scd xs N ((l3 + (1 : Int32))) fun t1 =>
  scd xs N ((l3 + (2 : Int32))) fun t2 =>
  kcv G 11 l1 (X11_quarrel G l1 t1 t2) fun t3 =>
  scd xs N ((l3 + (1 : Int32))) fun t4 =>
  scd xs N ((l3 + (2 : Int32))) fun t5 =>
  kcv G 12 l2 (X12_quarrel G l2 t4 t5) fun t6 =>
  cnd (t3 = t6)
    (L_law_1693 G xs N k18 l1 l2 l3)
    (fun _ => none)
set_option maxRecDepth 100000 in
set_option maxHeartbeats 4000000 in
theorem wL_law_436 {E : kdE} {G : kdS} {A : kdA} {z : Nat × Nat} {b N : Nat} {xs : Nat → Int32} {r : Unit} {σ1 : kdM} (hX : kdX E A cL_law 4 RL (some .boolean) 20) (hro : kdRO A z.1 z.2) (hLw : kdLw E A b N xs) (hLe : kdLe A b z) (k18 : Nat → Nat → Int32 → kdM → Option (Unit × kdM)) (hk18 : ∀ (l1 l2 : Nat) (l3 : Int32) (σ : kdM), k18 l1 l2 l3 σ = some (r, σ1) → SW E G (.inr z) A 4 σ 18 [(0, .ref b), (1, kr E l1), (2, kr E l2), (3, .int l3)] []) {l1 : Nat} {l2 : Nat} {l3 : Int32} {σ : kdM} (h : L_law_436 G xs N k18 l1 l2 l3 σ = some (r, σ1)) : SW E G (.inr z) A 4 σ 436 [(0, .ref b), (1, kr E l1), (2, kr E l2), (3, .int l3)] [] := by
  unfold L_law_436 at h
  refine r_aload_n hX dL_law_436 rfl 1 rfl ?_
  refine r_sload hX dL_law_437 rfl 0 rfl ?_
  refine r_iload_n hX dL_law_438 rfl 3 rfl ?_
  refine r_iconst hX dL_law_439 kk_i_1 ?_
  refine r_iadd hX dL_law_440 ?_
  refine r_sc hX hLw dL_law_441 h ?_
  clear h; intro t1 h
  refine r_sload hX dL_law_442 rfl 0 rfl ?_
  refine r_iload_n hX dL_law_443 rfl 3 rfl ?_
  refine r_iconst hX dL_law_444 kk_i_2 ?_
  refine r_iadd hX dL_law_445 ?_
  refine r_sc hX hLw dL_law_446 h ?_
  clear h; intro t2 h
  refine r_cVi (As := [.int t1, .int t2]) (st := []) hX dL_law_447 kl_X11_quarrel w_ml_L_40 w_im_X11_quarrel w_se_X11_quarrel ⟨_, _, rfl⟩ (by decide) rfl (Nat.le_of_ble_eq_true rfl) rfl hro h (fun r σ1 h => wX11_quarrel h) ?_
  clear h; intro t3 σ h
  refine r_aload_n hX dL_law_450 rfl 2 rfl ?_
  refine r_sload hX dL_law_451 rfl 0 rfl ?_
  refine r_iload_n hX dL_law_452 rfl 3 rfl ?_
  refine r_iconst hX dL_law_453 kk_i_1 ?_
  refine r_iadd hX dL_law_454 ?_
  refine r_sc hX hLw dL_law_455 h ?_
  clear h; intro t4 h
  refine r_sload hX dL_law_456 rfl 0 rfl ?_
  refine r_iload_n hX dL_law_457 rfl 3 rfl ?_
  refine r_iconst hX dL_law_458 kk_i_2 ?_
  refine r_iadd hX dL_law_459 ?_
  refine r_sc hX hLw dL_law_460 h ?_
  clear h; intro t5 h
  refine r_cVi (As := [.int t4, .int t5]) (st := [.int t3]) hX dL_law_461 kl_X12_quarrel w_ml_L_44 w_im_X12_quarrel w_se_X12_quarrel ⟨_, _, rfl⟩ (by decide) rfl (Nat.le_of_ble_eq_true rfl) rfl hro h (fun r σ1 h => wX12_quarrel h) ?_
  clear h; intro t6 σ h
  refine r_icmp_eq (tgt := 1693) hX dL_law_464 (by decide) h ?_ ?_
  · clear h; intro h
    refine r_sub [0, 1, 2, 3] rfl ?_
    exact wL_law_1693 hX hro hLw hLe k18 hk18 h
  · clear h; intro h
    exact absurd (show (none : Option (Unit × kdM)) = some (r, σ1) from h) (by simp)
def L_law_469 (G : kdS) (xs : Nat → Int32) (N : Nat) (k18 : Nat → Nat → Int32 → kdM → Option (Unit × kdM)) (l1 : Nat) (l2 : Nat) (l3 : Int32) : kdM → Option (Unit × kdM) :=
  scd xs N ((l3 + (1 : Int32))) fun t1 =>
  scd xs N ((l3 + (2 : Int32))) fun t2 =>
  kcv G 11 l1 (X11_idle G l1 t1 t2) fun t3 =>
  scd xs N ((l3 + (1 : Int32))) fun t4 =>
  scd xs N ((l3 + (2 : Int32))) fun t5 =>
  kcv G 12 l2 (X12_idle G l2 t4 t5) fun t6 =>
  cnd (t3 = t6)
    (L_law_1693 G xs N k18 l1 l2 l3)
    (fun _ => none)
set_option maxRecDepth 100000 in
set_option maxHeartbeats 4000000 in
theorem wL_law_469 {E : kdE} {G : kdS} {A : kdA} {z : Nat × Nat} {b N : Nat} {xs : Nat → Int32} {r : Unit} {σ1 : kdM} (hX : kdX E A cL_law 4 RL (some .boolean) 20) (hro : kdRO A z.1 z.2) (hLw : kdLw E A b N xs) (hLe : kdLe A b z) (k18 : Nat → Nat → Int32 → kdM → Option (Unit × kdM)) (hk18 : ∀ (l1 l2 : Nat) (l3 : Int32) (σ : kdM), k18 l1 l2 l3 σ = some (r, σ1) → SW E G (.inr z) A 4 σ 18 [(0, .ref b), (1, kr E l1), (2, kr E l2), (3, .int l3)] []) {l1 : Nat} {l2 : Nat} {l3 : Int32} {σ : kdM} (h : L_law_469 G xs N k18 l1 l2 l3 σ = some (r, σ1)) : SW E G (.inr z) A 4 σ 469 [(0, .ref b), (1, kr E l1), (2, kr E l2), (3, .int l3)] [] := by
  unfold L_law_469 at h
  refine r_aload_n hX dL_law_469 rfl 1 rfl ?_
  refine r_sload hX dL_law_470 rfl 0 rfl ?_
  refine r_iload_n hX dL_law_471 rfl 3 rfl ?_
  refine r_iconst hX dL_law_472 kk_i_1 ?_
  refine r_iadd hX dL_law_473 ?_
  refine r_sc hX hLw dL_law_474 h ?_
  clear h; intro t1 h
  refine r_sload hX dL_law_475 rfl 0 rfl ?_
  refine r_iload_n hX dL_law_476 rfl 3 rfl ?_
  refine r_iconst hX dL_law_477 kk_i_2 ?_
  refine r_iadd hX dL_law_478 ?_
  refine r_sc hX hLw dL_law_479 h ?_
  clear h; intro t2 h
  refine r_cVi (As := [.int t1, .int t2]) (st := []) hX dL_law_480 kl_X11_idle w_ml_L_45 w_im_X11_idle w_se_X11_idle ⟨_, _, rfl⟩ (by decide) rfl (Nat.le_of_ble_eq_true rfl) rfl hro h (fun r σ1 h => wX11_idle h) ?_
  clear h; intro t3 σ h
  refine r_aload_n hX dL_law_483 rfl 2 rfl ?_
  refine r_sload hX dL_law_484 rfl 0 rfl ?_
  refine r_iload_n hX dL_law_485 rfl 3 rfl ?_
  refine r_iconst hX dL_law_486 kk_i_1 ?_
  refine r_iadd hX dL_law_487 ?_
  refine r_sc hX hLw dL_law_488 h ?_
  clear h; intro t4 h
  refine r_sload hX dL_law_489 rfl 0 rfl ?_
  refine r_iload_n hX dL_law_490 rfl 3 rfl ?_
  refine r_iconst hX dL_law_491 kk_i_2 ?_
  refine r_iadd hX dL_law_492 ?_
  refine r_sc hX hLw dL_law_493 h ?_
  clear h; intro t5 h
  refine r_cVi (As := [.int t4, .int t5]) (st := [.int t3]) hX dL_law_494 kl_X12_idle w_ml_L_48 w_im_X12_idle w_se_X12_idle ⟨_, _, rfl⟩ (by decide) rfl (Nat.le_of_ble_eq_true rfl) rfl hro h (fun r σ1 h => wX12_idle h) ?_
  clear h; intro t6 σ h
  refine r_icmp_eq (tgt := 1693) hX dL_law_497 (by decide) h ?_ ?_
  · clear h; intro h
    refine r_sub [0, 1, 2, 3] rfl ?_
    exact wL_law_1693 hX hro hLw hLe k18 hk18 h
  · clear h; intro h
    exact absurd (show (none : Option (Unit × kdM)) = some (r, σ1) from h) (by simp)
def L_law_502 (G : kdS) (xs : Nat → Int32) (N : Nat) (k18 : Nat → Nat → Int32 → kdM → Option (Unit × kdM)) (l1 : Nat) (l2 : Nat) (l3 : Int32) : kdM → Option (Unit × kdM) :=
  scd xs N ((l3 + (1 : Int32))) fun t1 =>
  scd xs N ((l3 + (2 : Int32))) fun t2 =>
  kcv G 11 l1 (X11_missing G l1 t1 t2) fun t3 =>
  scd xs N ((l3 + (1 : Int32))) fun t4 =>
  scd xs N ((l3 + (2 : Int32))) fun t5 =>
  kcv G 12 l2 (X12_missing G l2 t4 t5) fun t6 =>
  cnd (t3 = t6)
    (L_law_1693 G xs N k18 l1 l2 l3)
    (fun _ => none)
set_option maxRecDepth 100000 in
set_option maxHeartbeats 4000000 in
theorem wL_law_502 {E : kdE} {G : kdS} {A : kdA} {z : Nat × Nat} {b N : Nat} {xs : Nat → Int32} {r : Unit} {σ1 : kdM} (hX : kdX E A cL_law 4 RL (some .boolean) 20) (hro : kdRO A z.1 z.2) (hLw : kdLw E A b N xs) (hLe : kdLe A b z) (k18 : Nat → Nat → Int32 → kdM → Option (Unit × kdM)) (hk18 : ∀ (l1 l2 : Nat) (l3 : Int32) (σ : kdM), k18 l1 l2 l3 σ = some (r, σ1) → SW E G (.inr z) A 4 σ 18 [(0, .ref b), (1, kr E l1), (2, kr E l2), (3, .int l3)] []) {l1 : Nat} {l2 : Nat} {l3 : Int32} {σ : kdM} (h : L_law_502 G xs N k18 l1 l2 l3 σ = some (r, σ1)) : SW E G (.inr z) A 4 σ 502 [(0, .ref b), (1, kr E l1), (2, kr E l2), (3, .int l3)] [] := by
  unfold L_law_502 at h
  refine r_aload_n hX dL_law_502 rfl 1 rfl ?_
  refine r_sload hX dL_law_503 rfl 0 rfl ?_
  refine r_iload_n hX dL_law_504 rfl 3 rfl ?_
  refine r_iconst hX dL_law_505 kk_i_1 ?_
  refine r_iadd hX dL_law_506 ?_
  refine r_sc hX hLw dL_law_507 h ?_
  clear h; intro t1 h
  refine r_sload hX dL_law_508 rfl 0 rfl ?_
  refine r_iload_n hX dL_law_509 rfl 3 rfl ?_
  refine r_iconst hX dL_law_510 kk_i_2 ?_
  refine r_iadd hX dL_law_511 ?_
  refine r_sc hX hLw dL_law_512 h ?_
  clear h; intro t2 h
  refine r_cVi (As := [.int t1, .int t2]) (st := []) hX dL_law_513 kl_X11_missing w_ml_L_49 w_im_X11_missing w_se_X11_missing ⟨_, _, rfl⟩ (by decide) rfl (Nat.le_of_ble_eq_true rfl) rfl hro h (fun r σ1 h => wX11_missing h) ?_
  clear h; intro t3 σ h
  refine r_aload_n hX dL_law_516 rfl 2 rfl ?_
  refine r_sload hX dL_law_517 rfl 0 rfl ?_
  refine r_iload_n hX dL_law_518 rfl 3 rfl ?_
  refine r_iconst hX dL_law_519 kk_i_1 ?_
  refine r_iadd hX dL_law_520 ?_
  refine r_sc hX hLw dL_law_521 h ?_
  clear h; intro t4 h
  refine r_sload hX dL_law_522 rfl 0 rfl ?_
  refine r_iload_n hX dL_law_523 rfl 3 rfl ?_
  refine r_iconst hX dL_law_524 kk_i_2 ?_
  refine r_iadd hX dL_law_525 ?_
  refine r_sc hX hLw dL_law_526 h ?_
  clear h; intro t5 h
  refine r_cVi (As := [.int t4, .int t5]) (st := [.int t3]) hX dL_law_527 kl_X12_missing w_ml_L_52 w_im_X12_missing w_se_X12_missing ⟨_, _, rfl⟩ (by decide) rfl (Nat.le_of_ble_eq_true rfl) rfl hro h (fun r σ1 h => wX12_missing h) ?_
  clear h; intro t6 σ h
  refine r_icmp_eq (tgt := 1693) hX dL_law_530 (by decide) h ?_ ?_
  · clear h; intro h
    refine r_sub [0, 1, 2, 3] rfl ?_
    exact wL_law_1693 hX hro hLw hLe k18 hk18 h
  · clear h; intro h
    exact absurd (show (none : Option (Unit × kdM)) = some (r, σ1) from h) (by simp)
def L_law_535 (G : kdS) (xs : Nat → Int32) (N : Nat) (k18 : Nat → Nat → Int32 → kdM → Option (Unit × kdM)) (l1 : Nat) (l2 : Nat) (l3 : Int32) : kdM → Option (Unit × kdM) :=
  scd xs N ((l3 + (1 : Int32))) fun t1 =>
  kcv G 11 l1 (X11_speak G l1 t1) fun t2 =>
  scd xs N ((l3 + (1 : Int32))) fun t3 =>
  kcv G 12 l2 (X12_speak G l2 t3) fun t4 =>
  cnd (t2 = t4)
    (L_law_1693 G xs N k18 l1 l2 l3)
    (fun _ => none)
set_option maxRecDepth 100000 in
set_option maxHeartbeats 4000000 in
theorem wL_law_535 {E : kdE} {G : kdS} {A : kdA} {z : Nat × Nat} {b N : Nat} {xs : Nat → Int32} {r : Unit} {σ1 : kdM} (hX : kdX E A cL_law 4 RL (some .boolean) 20) (hro : kdRO A z.1 z.2) (hLw : kdLw E A b N xs) (hLe : kdLe A b z) (k18 : Nat → Nat → Int32 → kdM → Option (Unit × kdM)) (hk18 : ∀ (l1 l2 : Nat) (l3 : Int32) (σ : kdM), k18 l1 l2 l3 σ = some (r, σ1) → SW E G (.inr z) A 4 σ 18 [(0, .ref b), (1, kr E l1), (2, kr E l2), (3, .int l3)] []) {l1 : Nat} {l2 : Nat} {l3 : Int32} {σ : kdM} (h : L_law_535 G xs N k18 l1 l2 l3 σ = some (r, σ1)) : SW E G (.inr z) A 4 σ 535 [(0, .ref b), (1, kr E l1), (2, kr E l2), (3, .int l3)] [] := by
  unfold L_law_535 at h
  refine r_aload_n hX dL_law_535 rfl 1 rfl ?_
  refine r_sload hX dL_law_536 rfl 0 rfl ?_
  refine r_iload_n hX dL_law_537 rfl 3 rfl ?_
  refine r_iconst hX dL_law_538 kk_i_1 ?_
  refine r_iadd hX dL_law_539 ?_
  refine r_sc hX hLw dL_law_540 h ?_
  clear h; intro t1 h
  refine r_cVi (As := [.int t1]) (st := []) hX dL_law_541 kl_X11_speak w_ml_L_53 w_im_X11_speak w_se_X11_speak ⟨_, _, rfl⟩ (by decide) rfl (Nat.le_of_ble_eq_true rfl) rfl hro h (fun r σ1 h => wX11_speak h) ?_
  clear h; intro t2 σ h
  refine r_aload_n hX dL_law_544 rfl 2 rfl ?_
  refine r_sload hX dL_law_545 rfl 0 rfl ?_
  refine r_iload_n hX dL_law_546 rfl 3 rfl ?_
  refine r_iconst hX dL_law_547 kk_i_1 ?_
  refine r_iadd hX dL_law_548 ?_
  refine r_sc hX hLw dL_law_549 h ?_
  clear h; intro t3 h
  refine r_cVi (As := [.int t3]) (st := [.int t2]) hX dL_law_550 kl_X12_speak w_ml_L_56 w_im_X12_speak w_se_X12_speak ⟨_, _, rfl⟩ (by decide) rfl (Nat.le_of_ble_eq_true rfl) rfl hro h (fun r σ1 h => wX12_speak h) ?_
  clear h; intro t4 σ h
  refine r_icmp_eq (tgt := 1693) hX dL_law_553 (by decide) h ?_ ?_
  · clear h; intro h
    refine r_sub [0, 1, 2, 3] rfl ?_
    exact wL_law_1693 hX hro hLw hLe k18 hk18 h
  · clear h; intro h
    exact absurd (show (none : Option (Unit × kdM)) = some (r, σ1) from h) (by simp)
def L_law_558 (G : kdS) (xs : Nat → Int32) (N : Nat) (k18 : Nat → Nat → Int32 → kdM → Option (Unit × kdM)) (l1 : Nat) (l2 : Nat) (l3 : Int32) : kdM → Option (Unit × kdM) :=
  scd xs N ((l3 + (1 : Int32))) fun t1 =>
  scd xs N ((l3 + (2 : Int32))) fun t2 =>
  kcv G 11 l1 (X11_strike G l1 t1 t2) fun t3 =>
  scd xs N ((l3 + (1 : Int32))) fun t4 =>
  scd xs N ((l3 + (2 : Int32))) fun t5 =>
  kcv G 12 l2 (X12_strike G l2 t4 t5) fun t6 =>
  cnd (t3 = t6)
    (L_law_1693 G xs N k18 l1 l2 l3)
    (fun _ => none)
set_option maxRecDepth 100000 in
set_option maxHeartbeats 4000000 in
theorem wL_law_558 {E : kdE} {G : kdS} {A : kdA} {z : Nat × Nat} {b N : Nat} {xs : Nat → Int32} {r : Unit} {σ1 : kdM} (hX : kdX E A cL_law 4 RL (some .boolean) 20) (hro : kdRO A z.1 z.2) (hLw : kdLw E A b N xs) (hLe : kdLe A b z) (k18 : Nat → Nat → Int32 → kdM → Option (Unit × kdM)) (hk18 : ∀ (l1 l2 : Nat) (l3 : Int32) (σ : kdM), k18 l1 l2 l3 σ = some (r, σ1) → SW E G (.inr z) A 4 σ 18 [(0, .ref b), (1, kr E l1), (2, kr E l2), (3, .int l3)] []) {l1 : Nat} {l2 : Nat} {l3 : Int32} {σ : kdM} (h : L_law_558 G xs N k18 l1 l2 l3 σ = some (r, σ1)) : SW E G (.inr z) A 4 σ 558 [(0, .ref b), (1, kr E l1), (2, kr E l2), (3, .int l3)] [] := by
  unfold L_law_558 at h
  refine r_aload_n hX dL_law_558 rfl 1 rfl ?_
  refine r_sload hX dL_law_559 rfl 0 rfl ?_
  refine r_iload_n hX dL_law_560 rfl 3 rfl ?_
  refine r_iconst hX dL_law_561 kk_i_1 ?_
  refine r_iadd hX dL_law_562 ?_
  refine r_sc hX hLw dL_law_563 h ?_
  clear h; intro t1 h
  refine r_sload hX dL_law_564 rfl 0 rfl ?_
  refine r_iload_n hX dL_law_565 rfl 3 rfl ?_
  refine r_iconst hX dL_law_566 kk_i_2 ?_
  refine r_iadd hX dL_law_567 ?_
  refine r_sc hX hLw dL_law_568 h ?_
  clear h; intro t2 h
  refine r_cVi (As := [.int t1, .int t2]) (st := []) hX dL_law_569 kl_X11_strike w_ml_L_57 w_im_X11_strike w_se_X11_strike ⟨_, _, rfl⟩ (by decide) rfl (Nat.le_of_ble_eq_true rfl) rfl hro h (fun r σ1 h => wX11_strike h) ?_
  clear h; intro t3 σ h
  refine r_aload_n hX dL_law_572 rfl 2 rfl ?_
  refine r_sload hX dL_law_573 rfl 0 rfl ?_
  refine r_iload_n hX dL_law_574 rfl 3 rfl ?_
  refine r_iconst hX dL_law_575 kk_i_1 ?_
  refine r_iadd hX dL_law_576 ?_
  refine r_sc hX hLw dL_law_577 h ?_
  clear h; intro t4 h
  refine r_sload hX dL_law_578 rfl 0 rfl ?_
  refine r_iload_n hX dL_law_579 rfl 3 rfl ?_
  refine r_iconst hX dL_law_580 kk_i_2 ?_
  refine r_iadd hX dL_law_581 ?_
  refine r_sc hX hLw dL_law_582 h ?_
  clear h; intro t5 h
  refine r_cVi (As := [.int t4, .int t5]) (st := [.int t3]) hX dL_law_583 kl_X12_strike w_ml_L_60 w_im_X12_strike w_se_X12_strike ⟨_, _, rfl⟩ (by decide) rfl (Nat.le_of_ble_eq_true rfl) rfl hro h (fun r σ1 h => wX12_strike h) ?_
  clear h; intro t6 σ h
  refine r_icmp_eq (tgt := 1693) hX dL_law_586 (by decide) h ?_ ?_
  · clear h; intro h
    refine r_sub [0, 1, 2, 3] rfl ?_
    exact wL_law_1693 hX hro hLw hLe k18 hk18 h
  · clear h; intro h
    exact absurd (show (none : Option (Unit × kdM)) = some (r, σ1) from h) (by simp)
def L_law_591 (G : kdS) (xs : Nat → Int32) (N : Nat) (k18 : Nat → Nat → Int32 → kdM → Option (Unit × kdM)) (l1 : Nat) (l2 : Nat) (l3 : Int32) : kdM → Option (Unit × kdM) :=
  scd xs N ((l3 + (1 : Int32))) fun t1 =>
  scd xs N ((l3 + (2 : Int32))) fun t2 =>
  kcv G 11 l1 (X11_change G l1 t1 t2) fun t3 =>
  scd xs N ((l3 + (1 : Int32))) fun t4 =>
  scd xs N ((l3 + (2 : Int32))) fun t5 =>
  kcv G 12 l2 (X12_change G l2 t4 t5) fun t6 =>
  cnd (t3 = t6)
    (L_law_1693 G xs N k18 l1 l2 l3)
    (fun _ => none)
set_option maxRecDepth 100000 in
set_option maxHeartbeats 4000000 in
theorem wL_law_591 {E : kdE} {G : kdS} {A : kdA} {z : Nat × Nat} {b N : Nat} {xs : Nat → Int32} {r : Unit} {σ1 : kdM} (hX : kdX E A cL_law 4 RL (some .boolean) 20) (hro : kdRO A z.1 z.2) (hLw : kdLw E A b N xs) (hLe : kdLe A b z) (k18 : Nat → Nat → Int32 → kdM → Option (Unit × kdM)) (hk18 : ∀ (l1 l2 : Nat) (l3 : Int32) (σ : kdM), k18 l1 l2 l3 σ = some (r, σ1) → SW E G (.inr z) A 4 σ 18 [(0, .ref b), (1, kr E l1), (2, kr E l2), (3, .int l3)] []) {l1 : Nat} {l2 : Nat} {l3 : Int32} {σ : kdM} (h : L_law_591 G xs N k18 l1 l2 l3 σ = some (r, σ1)) : SW E G (.inr z) A 4 σ 591 [(0, .ref b), (1, kr E l1), (2, kr E l2), (3, .int l3)] [] := by
  unfold L_law_591 at h
  refine r_aload_n hX dL_law_591 rfl 1 rfl ?_
  refine r_sload hX dL_law_592 rfl 0 rfl ?_
  refine r_iload_n hX dL_law_593 rfl 3 rfl ?_
  refine r_iconst hX dL_law_594 kk_i_1 ?_
  refine r_iadd hX dL_law_595 ?_
  refine r_sc hX hLw dL_law_596 h ?_
  clear h; intro t1 h
  refine r_sload hX dL_law_597 rfl 0 rfl ?_
  refine r_iload_n hX dL_law_598 rfl 3 rfl ?_
  refine r_iconst hX dL_law_599 kk_i_2 ?_
  refine r_iadd hX dL_law_600 ?_
  refine r_sc hX hLw dL_law_601 h ?_
  clear h; intro t2 h
  refine r_cVi (As := [.int t1, .int t2]) (st := []) hX dL_law_602 kl_X11_change w_ml_L_61 w_im_X11_change w_se_X11_change ⟨_, _, rfl⟩ (by decide) rfl (Nat.le_of_ble_eq_true rfl) rfl hro h (fun r σ1 h => wX11_change h) ?_
  clear h; intro t3 σ h
  refine r_aload_n hX dL_law_605 rfl 2 rfl ?_
  refine r_sload hX dL_law_606 rfl 0 rfl ?_
  refine r_iload_n hX dL_law_607 rfl 3 rfl ?_
  refine r_iconst hX dL_law_608 kk_i_1 ?_
  refine r_iadd hX dL_law_609 ?_
  refine r_sc hX hLw dL_law_610 h ?_
  clear h; intro t4 h
  refine r_sload hX dL_law_611 rfl 0 rfl ?_
  refine r_iload_n hX dL_law_612 rfl 3 rfl ?_
  refine r_iconst hX dL_law_613 kk_i_2 ?_
  refine r_iadd hX dL_law_614 ?_
  refine r_sc hX hLw dL_law_615 h ?_
  clear h; intro t5 h
  refine r_cVi (As := [.int t4, .int t5]) (st := [.int t3]) hX dL_law_616 kl_X12_change w_ml_L_64 w_im_X12_change w_se_X12_change ⟨_, _, rfl⟩ (by decide) rfl (Nat.le_of_ble_eq_true rfl) rfl hro h (fun r σ1 h => wX12_change h) ?_
  clear h; intro t6 σ h
  refine r_icmp_eq (tgt := 1693) hX dL_law_619 (by decide) h ?_ ?_
  · clear h; intro h
    refine r_sub [0, 1, 2, 3] rfl ?_
    exact wL_law_1693 hX hro hLw hLe k18 hk18 h
  · clear h; intro h
    exact absurd (show (none : Option (Unit × kdM)) = some (r, σ1) from h) (by simp)
def L_law_624 (G : kdS) (xs : Nat → Int32) (N : Nat) (k18 : Nat → Nat → Int32 → kdM → Option (Unit × kdM)) (l1 : Nat) (l2 : Nat) (l3 : Int32) : kdM → Option (Unit × kdM) :=
  scd xs N ((l3 + (1 : Int32))) fun t1 =>
  kcv G 11 l1 (X11_back G l1 t1) fun t2 =>
  scd xs N ((l3 + (1 : Int32))) fun t3 =>
  kcv G 12 l2 (X12_back G l2 t3) fun t4 =>
  cnd (t2 = t4)
    (L_law_1693 G xs N k18 l1 l2 l3)
    (fun _ => none)
set_option maxRecDepth 100000 in
set_option maxHeartbeats 4000000 in
theorem wL_law_624 {E : kdE} {G : kdS} {A : kdA} {z : Nat × Nat} {b N : Nat} {xs : Nat → Int32} {r : Unit} {σ1 : kdM} (hX : kdX E A cL_law 4 RL (some .boolean) 20) (hro : kdRO A z.1 z.2) (hLw : kdLw E A b N xs) (hLe : kdLe A b z) (k18 : Nat → Nat → Int32 → kdM → Option (Unit × kdM)) (hk18 : ∀ (l1 l2 : Nat) (l3 : Int32) (σ : kdM), k18 l1 l2 l3 σ = some (r, σ1) → SW E G (.inr z) A 4 σ 18 [(0, .ref b), (1, kr E l1), (2, kr E l2), (3, .int l3)] []) {l1 : Nat} {l2 : Nat} {l3 : Int32} {σ : kdM} (h : L_law_624 G xs N k18 l1 l2 l3 σ = some (r, σ1)) : SW E G (.inr z) A 4 σ 624 [(0, .ref b), (1, kr E l1), (2, kr E l2), (3, .int l3)] [] := by
  unfold L_law_624 at h
  refine r_aload_n hX dL_law_624 rfl 1 rfl ?_
  refine r_sload hX dL_law_625 rfl 0 rfl ?_
  refine r_iload_n hX dL_law_626 rfl 3 rfl ?_
  refine r_iconst hX dL_law_627 kk_i_1 ?_
  refine r_iadd hX dL_law_628 ?_
  refine r_sc hX hLw dL_law_629 h ?_
  clear h; intro t1 h
  refine r_cVi (As := [.int t1]) (st := []) hX dL_law_630 kl_X11_back w_ml_L_65 w_im_X11_back w_se_X11_back ⟨_, _, rfl⟩ (by decide) rfl (Nat.le_of_ble_eq_true rfl) rfl hro h (fun r σ1 h => wX11_back h) ?_
  clear h; intro t2 σ h
  refine r_aload_n hX dL_law_633 rfl 2 rfl ?_
  refine r_sload hX dL_law_634 rfl 0 rfl ?_
  refine r_iload_n hX dL_law_635 rfl 3 rfl ?_
  refine r_iconst hX dL_law_636 kk_i_1 ?_
  refine r_iadd hX dL_law_637 ?_
  refine r_sc hX hLw dL_law_638 h ?_
  clear h; intro t3 h
  refine r_cVi (As := [.int t3]) (st := [.int t2]) hX dL_law_639 kl_X12_back w_ml_L_68 w_im_X12_back w_se_X12_back ⟨_, _, rfl⟩ (by decide) rfl (Nat.le_of_ble_eq_true rfl) rfl hro h (fun r σ1 h => wX12_back h) ?_
  clear h; intro t4 σ h
  refine r_icmp_eq (tgt := 1693) hX dL_law_642 (by decide) h ?_ ?_
  · clear h; intro h
    refine r_sub [0, 1, 2, 3] rfl ?_
    exact wL_law_1693 hX hro hLw hLe k18 hk18 h
  · clear h; intro h
    exact absurd (show (none : Option (Unit × kdM)) = some (r, σ1) from h) (by simp)
def L_law_647 (G : kdS) (xs : Nat → Int32) (N : Nat) (k18 : Nat → Nat → Int32 → kdM → Option (Unit × kdM)) (l1 : Nat) (l2 : Nat) (l3 : Int32) : kdM → Option (Unit × kdM) :=
  scd xs N ((l3 + (1 : Int32))) fun t1 =>
  kcv G 11 l1 (X11_stands G l1 t1) fun t2 =>
  scd xs N ((l3 + (1 : Int32))) fun t3 =>
  kcv G 12 l2 (X12_stands G l2 t3) fun t4 =>
  cnd (t2 = t4)
    (L_law_1693 G xs N k18 l1 l2 l3)
    (fun _ => none)
set_option maxRecDepth 100000 in
set_option maxHeartbeats 4000000 in
theorem wL_law_647 {E : kdE} {G : kdS} {A : kdA} {z : Nat × Nat} {b N : Nat} {xs : Nat → Int32} {r : Unit} {σ1 : kdM} (hX : kdX E A cL_law 4 RL (some .boolean) 20) (hro : kdRO A z.1 z.2) (hLw : kdLw E A b N xs) (hLe : kdLe A b z) (k18 : Nat → Nat → Int32 → kdM → Option (Unit × kdM)) (hk18 : ∀ (l1 l2 : Nat) (l3 : Int32) (σ : kdM), k18 l1 l2 l3 σ = some (r, σ1) → SW E G (.inr z) A 4 σ 18 [(0, .ref b), (1, kr E l1), (2, kr E l2), (3, .int l3)] []) {l1 : Nat} {l2 : Nat} {l3 : Int32} {σ : kdM} (h : L_law_647 G xs N k18 l1 l2 l3 σ = some (r, σ1)) : SW E G (.inr z) A 4 σ 647 [(0, .ref b), (1, kr E l1), (2, kr E l2), (3, .int l3)] [] := by
  unfold L_law_647 at h
  refine r_aload_n hX dL_law_647 rfl 1 rfl ?_
  refine r_sload hX dL_law_648 rfl 0 rfl ?_
  refine r_iload_n hX dL_law_649 rfl 3 rfl ?_
  refine r_iconst hX dL_law_650 kk_i_1 ?_
  refine r_iadd hX dL_law_651 ?_
  refine r_sc hX hLw dL_law_652 h ?_
  clear h; intro t1 h
  refine r_cVi (As := [.int t1]) (st := []) hX dL_law_653 kl_X11_stands w_ml_L_69 w_im_X11_stands w_se_X11_stands ⟨_, _, rfl⟩ (by decide) rfl (Nat.le_of_ble_eq_true rfl) rfl hro h (fun r σ1 h => wX11_stands h) ?_
  clear h; intro t2 σ h
  refine r_aload_n hX dL_law_656 rfl 2 rfl ?_
  refine r_sload hX dL_law_657 rfl 0 rfl ?_
  refine r_iload_n hX dL_law_658 rfl 3 rfl ?_
  refine r_iconst hX dL_law_659 kk_i_1 ?_
  refine r_iadd hX dL_law_660 ?_
  refine r_sc hX hLw dL_law_661 h ?_
  clear h; intro t3 h
  refine r_cVi (As := [.int t3]) (st := [.int t2]) hX dL_law_662 kl_X12_stands w_ml_L_72 w_im_X12_stands w_se_X12_stands ⟨_, _, rfl⟩ (by decide) rfl (Nat.le_of_ble_eq_true rfl) rfl hro h (fun r σ1 h => wX12_stands h) ?_
  clear h; intro t4 σ h
  refine r_icmp_eq (tgt := 1693) hX dL_law_665 (by decide) h ?_ ?_
  · clear h; intro h
    refine r_sub [0, 1, 2, 3] rfl ?_
    exact wL_law_1693 hX hro hLw hLe k18 hk18 h
  · clear h; intro h
    exact absurd (show (none : Option (Unit × kdM)) = some (r, σ1) from h) (by simp)
def L_law_670 (G : kdS) (xs : Nat → Int32) (N : Nat) (k18 : Nat → Nat → Int32 → kdM → Option (Unit × kdM)) (l1 : Nat) (l2 : Nat) (l3 : Int32) : kdM → Option (Unit × kdM) :=
  scd xs N ((l3 + (1 : Int32))) fun t1 =>
  kcv G 11 l1 (X11_piece G l1 t1) fun t2 =>
  scd xs N ((l3 + (1 : Int32))) fun t3 =>
  kcv G 12 l2 (X12_piece G l2 t3) fun t4 =>
  cnd (t2 = t4)
    (L_law_1693 G xs N k18 l1 l2 l3)
    (fun _ => none)
set_option maxRecDepth 100000 in
set_option maxHeartbeats 4000000 in
theorem wL_law_670 {E : kdE} {G : kdS} {A : kdA} {z : Nat × Nat} {b N : Nat} {xs : Nat → Int32} {r : Unit} {σ1 : kdM} (hX : kdX E A cL_law 4 RL (some .boolean) 20) (hro : kdRO A z.1 z.2) (hLw : kdLw E A b N xs) (hLe : kdLe A b z) (k18 : Nat → Nat → Int32 → kdM → Option (Unit × kdM)) (hk18 : ∀ (l1 l2 : Nat) (l3 : Int32) (σ : kdM), k18 l1 l2 l3 σ = some (r, σ1) → SW E G (.inr z) A 4 σ 18 [(0, .ref b), (1, kr E l1), (2, kr E l2), (3, .int l3)] []) {l1 : Nat} {l2 : Nat} {l3 : Int32} {σ : kdM} (h : L_law_670 G xs N k18 l1 l2 l3 σ = some (r, σ1)) : SW E G (.inr z) A 4 σ 670 [(0, .ref b), (1, kr E l1), (2, kr E l2), (3, .int l3)] [] := by
  unfold L_law_670 at h
  refine r_aload_n hX dL_law_670 rfl 1 rfl ?_
  refine r_sload hX dL_law_671 rfl 0 rfl ?_
  refine r_iload_n hX dL_law_672 rfl 3 rfl ?_
  refine r_iconst hX dL_law_673 kk_i_1 ?_
  refine r_iadd hX dL_law_674 ?_
  refine r_sc hX hLw dL_law_675 h ?_
  clear h; intro t1 h
  refine r_cVi (As := [.int t1]) (st := []) hX dL_law_676 kl_X11_piece w_ml_L_73 w_im_X11_piece w_se_X11_piece ⟨_, _, rfl⟩ (by decide) rfl (Nat.le_of_ble_eq_true rfl) rfl hro h (fun r σ1 h => wX11_piece h) ?_
  clear h; intro t2 σ h
  refine r_aload_n hX dL_law_679 rfl 2 rfl ?_
  refine r_sload hX dL_law_680 rfl 0 rfl ?_
  refine r_iload_n hX dL_law_681 rfl 3 rfl ?_
  refine r_iconst hX dL_law_682 kk_i_1 ?_
  refine r_iadd hX dL_law_683 ?_
  refine r_sc hX hLw dL_law_684 h ?_
  clear h; intro t3 h
  refine r_cVi (As := [.int t3]) (st := [.int t2]) hX dL_law_685 kl_X12_piece w_ml_L_76 w_im_X12_piece w_se_X12_piece ⟨_, _, rfl⟩ (by decide) rfl (Nat.le_of_ble_eq_true rfl) rfl hro h (fun r σ1 h => wX12_piece h) ?_
  clear h; intro t4 σ h
  refine r_icmp_eq (tgt := 1693) hX dL_law_688 (by decide) h ?_ ?_
  · clear h; intro h
    refine r_sub [0, 1, 2, 3] rfl ?_
    exact wL_law_1693 hX hro hLw hLe k18 hk18 h
  · clear h; intro h
    exact absurd (show (none : Option (Unit × kdM)) = some (r, σ1) from h) (by simp)
def L_law_693 (G : kdS) (xs : Nat → Int32) (N : Nat) (k18 : Nat → Nat → Int32 → kdM → Option (Unit × kdM)) (l1 : Nat) (l2 : Nat) (l3 : Int32) : kdM → Option (Unit × kdM) :=
  kcv G 11 l1 (X11_could G l1) fun t1 =>
  kcv G 12 l2 (X12_could G l2) fun t2 =>
  cnd (t1 = t2)
    (L_law_1693 G xs N k18 l1 l2 l3)
    (fun _ => none)
set_option maxRecDepth 100000 in
set_option maxHeartbeats 4000000 in
theorem wL_law_693 {E : kdE} {G : kdS} {A : kdA} {z : Nat × Nat} {b N : Nat} {xs : Nat → Int32} {r : Unit} {σ1 : kdM} (hX : kdX E A cL_law 4 RL (some .boolean) 20) (hro : kdRO A z.1 z.2) (hLw : kdLw E A b N xs) (hLe : kdLe A b z) (k18 : Nat → Nat → Int32 → kdM → Option (Unit × kdM)) (hk18 : ∀ (l1 l2 : Nat) (l3 : Int32) (σ : kdM), k18 l1 l2 l3 σ = some (r, σ1) → SW E G (.inr z) A 4 σ 18 [(0, .ref b), (1, kr E l1), (2, kr E l2), (3, .int l3)] []) {l1 : Nat} {l2 : Nat} {l3 : Int32} {σ : kdM} (h : L_law_693 G xs N k18 l1 l2 l3 σ = some (r, σ1)) : SW E G (.inr z) A 4 σ 693 [(0, .ref b), (1, kr E l1), (2, kr E l2), (3, .int l3)] [] := by
  unfold L_law_693 at h
  refine r_aload_n hX dL_law_693 rfl 1 rfl ?_
  refine r_cVi (As := []) (st := []) hX dL_law_694 kl_X11_could w_ml_L_77 w_im_X11_could w_se_X11_could ⟨_, _, rfl⟩ (by decide) rfl (Nat.le_of_ble_eq_true rfl) rfl hro h (fun r σ1 h => wX11_could h) ?_
  clear h; intro t1 σ h
  refine r_aload_n hX dL_law_697 rfl 2 rfl ?_
  refine r_cVi (As := []) (st := [.int t1]) hX dL_law_698 kl_X12_could w_ml_L_81 w_im_X12_could w_se_X12_could ⟨_, _, rfl⟩ (by decide) rfl (Nat.le_of_ble_eq_true rfl) rfl hro h (fun r σ1 h => wX12_could h) ?_
  clear h; intro t2 σ h
  refine r_icmp_eq (tgt := 1693) hX dL_law_701 (by decide) h ?_ ?_
  · clear h; intro h
    refine r_sub [0, 1, 2, 3] rfl ?_
    exact wL_law_1693 hX hro hLw hLe k18 hk18 h
  · clear h; intro h
    exact absurd (show (none : Option (Unit × kdM)) = some (r, σ1) from h) (by simp)
def L_law_706 (G : kdS) (xs : Nat → Int32) (N : Nat) (k18 : Nat → Nat → Int32 → kdM → Option (Unit × kdM)) (l1 : Nat) (l2 : Nat) (l3 : Int32) : kdM → Option (Unit × kdM) :=
  scd xs N ((l3 + (1 : Int32))) fun t1 =>
  scd xs N ((l3 + (2 : Int32))) fun t2 =>
  scd xs N ((l3 + (3 : Int32))) fun t3 =>
  kcv G 11 l1 (X11_word G l1 t1 t2 t3) fun t4 =>
  scd xs N ((l3 + (1 : Int32))) fun t5 =>
  scd xs N ((l3 + (2 : Int32))) fun t6 =>
  scd xs N ((l3 + (3 : Int32))) fun t7 =>
  kcv G 12 l2 (X12_word G l2 t5 t6 t7) fun t8 =>
  cnd (t4 = t8)
    (L_law_1693 G xs N k18 l1 l2 l3)
    (fun _ => none)
set_option maxRecDepth 100000 in
set_option maxHeartbeats 4000000 in
theorem wL_law_706 {E : kdE} {G : kdS} {A : kdA} {z : Nat × Nat} {b N : Nat} {xs : Nat → Int32} {r : Unit} {σ1 : kdM} (hX : kdX E A cL_law 4 RL (some .boolean) 20) (hro : kdRO A z.1 z.2) (hLw : kdLw E A b N xs) (hLe : kdLe A b z) (k18 : Nat → Nat → Int32 → kdM → Option (Unit × kdM)) (hk18 : ∀ (l1 l2 : Nat) (l3 : Int32) (σ : kdM), k18 l1 l2 l3 σ = some (r, σ1) → SW E G (.inr z) A 4 σ 18 [(0, .ref b), (1, kr E l1), (2, kr E l2), (3, .int l3)] []) {l1 : Nat} {l2 : Nat} {l3 : Int32} {σ : kdM} (h : L_law_706 G xs N k18 l1 l2 l3 σ = some (r, σ1)) : SW E G (.inr z) A 4 σ 706 [(0, .ref b), (1, kr E l1), (2, kr E l2), (3, .int l3)] [] := by
  unfold L_law_706 at h
  refine r_aload_n hX dL_law_706 rfl 1 rfl ?_
  refine r_sload hX dL_law_707 rfl 0 rfl ?_
  refine r_iload_n hX dL_law_708 rfl 3 rfl ?_
  refine r_iconst hX dL_law_709 kk_i_1 ?_
  refine r_iadd hX dL_law_710 ?_
  refine r_sc hX hLw dL_law_711 h ?_
  clear h; intro t1 h
  refine r_sload hX dL_law_712 rfl 0 rfl ?_
  refine r_iload_n hX dL_law_713 rfl 3 rfl ?_
  refine r_iconst hX dL_law_714 kk_i_2 ?_
  refine r_iadd hX dL_law_715 ?_
  refine r_sc hX hLw dL_law_716 h ?_
  clear h; intro t2 h
  refine r_sload hX dL_law_717 rfl 0 rfl ?_
  refine r_iload_n hX dL_law_718 rfl 3 rfl ?_
  refine r_iconst hX dL_law_719 kk_i_3 ?_
  refine r_iadd hX dL_law_720 ?_
  refine r_sc hX hLw dL_law_721 h ?_
  clear h; intro t3 h
  refine r_cVi (As := [.int t1, .int t2, .int t3]) (st := []) hX dL_law_722 kl_X11_word w_ml_L_82 w_im_X11_word w_se_X11_word ⟨_, _, rfl⟩ (by decide) rfl (Nat.le_of_ble_eq_true rfl) rfl hro h (fun r σ1 h => wX11_word h) ?_
  clear h; intro t4 σ h
  refine r_aload_n hX dL_law_725 rfl 2 rfl ?_
  refine r_sload hX dL_law_726 rfl 0 rfl ?_
  refine r_iload_n hX dL_law_727 rfl 3 rfl ?_
  refine r_iconst hX dL_law_728 kk_i_1 ?_
  refine r_iadd hX dL_law_729 ?_
  refine r_sc hX hLw dL_law_730 h ?_
  clear h; intro t5 h
  refine r_sload hX dL_law_731 rfl 0 rfl ?_
  refine r_iload_n hX dL_law_732 rfl 3 rfl ?_
  refine r_iconst hX dL_law_733 kk_i_2 ?_
  refine r_iadd hX dL_law_734 ?_
  refine r_sc hX hLw dL_law_735 h ?_
  clear h; intro t6 h
  refine r_sload hX dL_law_736 rfl 0 rfl ?_
  refine r_iload_n hX dL_law_737 rfl 3 rfl ?_
  refine r_iconst hX dL_law_738 kk_i_3 ?_
  refine r_iadd hX dL_law_739 ?_
  refine r_sc hX hLw dL_law_740 h ?_
  clear h; intro t7 h
  refine r_cVi (As := [.int t5, .int t6, .int t7]) (st := [.int t4]) hX dL_law_741 kl_X12_word w_ml_L_86 w_im_X12_word w_se_X12_word ⟨_, _, rfl⟩ (by decide) rfl (Nat.le_of_ble_eq_true rfl) rfl hro h (fun r σ1 h => wX12_word h) ?_
  clear h; intro t8 σ h
  refine r_icmp_eq (tgt := 1693) hX dL_law_744 (by decide) h ?_ ?_
  · clear h; intro h
    refine r_sub [0, 1, 2, 3] rfl ?_
    exact wL_law_1693 hX hro hLw hLe k18 hk18 h
  · clear h; intro h
    exact absurd (show (none : Option (Unit × kdM)) = some (r, σ1) from h) (by simp)
def L_law_749 (G : kdS) (xs : Nat → Int32) (N : Nat) (k18 : Nat → Nat → Int32 → kdM → Option (Unit × kdM)) (l1 : Nat) (l2 : Nat) (l3 : Int32) : kdM → Option (Unit × kdM) :=
  scd xs N ((l3 + (1 : Int32))) fun t1 =>
  scd xs N ((l3 + (2 : Int32))) fun t2 =>
  kcv G 11 l1 (X11_ofWord G l1 t1 t2) fun t3 =>
  scd xs N ((l3 + (1 : Int32))) fun t4 =>
  scd xs N ((l3 + (2 : Int32))) fun t5 =>
  kcv G 12 l2 (X12_ofWord G l2 t4 t5) fun t6 =>
  cnd (t3 = t6)
    (L_law_1693 G xs N k18 l1 l2 l3)
    (fun _ => none)
set_option maxRecDepth 100000 in
set_option maxHeartbeats 4000000 in
theorem wL_law_749 {E : kdE} {G : kdS} {A : kdA} {z : Nat × Nat} {b N : Nat} {xs : Nat → Int32} {r : Unit} {σ1 : kdM} (hX : kdX E A cL_law 4 RL (some .boolean) 20) (hro : kdRO A z.1 z.2) (hLw : kdLw E A b N xs) (hLe : kdLe A b z) (k18 : Nat → Nat → Int32 → kdM → Option (Unit × kdM)) (hk18 : ∀ (l1 l2 : Nat) (l3 : Int32) (σ : kdM), k18 l1 l2 l3 σ = some (r, σ1) → SW E G (.inr z) A 4 σ 18 [(0, .ref b), (1, kr E l1), (2, kr E l2), (3, .int l3)] []) {l1 : Nat} {l2 : Nat} {l3 : Int32} {σ : kdM} (h : L_law_749 G xs N k18 l1 l2 l3 σ = some (r, σ1)) : SW E G (.inr z) A 4 σ 749 [(0, .ref b), (1, kr E l1), (2, kr E l2), (3, .int l3)] [] := by
  unfold L_law_749 at h
  refine r_aload_n hX dL_law_749 rfl 1 rfl ?_
  refine r_sload hX dL_law_750 rfl 0 rfl ?_
  refine r_iload_n hX dL_law_751 rfl 3 rfl ?_
  refine r_iconst hX dL_law_752 kk_i_1 ?_
  refine r_iadd hX dL_law_753 ?_
  refine r_sc hX hLw dL_law_754 h ?_
  clear h; intro t1 h
  refine r_sload hX dL_law_755 rfl 0 rfl ?_
  refine r_iload_n hX dL_law_756 rfl 3 rfl ?_
  refine r_iconst hX dL_law_757 kk_i_2 ?_
  refine r_iadd hX dL_law_758 ?_
  refine r_sc hX hLw dL_law_759 h ?_
  clear h; intro t2 h
  refine r_cVi (As := [.int t1, .int t2]) (st := []) hX dL_law_760 kl_X11_ofWord w_ml_L_87 w_im_X11_ofWord w_se_X11_ofWord ⟨_, _, rfl⟩ (by decide) rfl (Nat.le_of_ble_eq_true rfl) rfl hro h (fun r σ1 h => wX11_ofWord h) ?_
  clear h; intro t3 σ h
  refine r_aload_n hX dL_law_763 rfl 2 rfl ?_
  refine r_sload hX dL_law_764 rfl 0 rfl ?_
  refine r_iload_n hX dL_law_765 rfl 3 rfl ?_
  refine r_iconst hX dL_law_766 kk_i_1 ?_
  refine r_iadd hX dL_law_767 ?_
  refine r_sc hX hLw dL_law_768 h ?_
  clear h; intro t4 h
  refine r_sload hX dL_law_769 rfl 0 rfl ?_
  refine r_iload_n hX dL_law_770 rfl 3 rfl ?_
  refine r_iconst hX dL_law_771 kk_i_2 ?_
  refine r_iadd hX dL_law_772 ?_
  refine r_sc hX hLw dL_law_773 h ?_
  clear h; intro t5 h
  refine r_cVi (As := [.int t4, .int t5]) (st := [.int t3]) hX dL_law_774 kl_X12_ofWord w_ml_L_90 w_im_X12_ofWord w_se_X12_ofWord ⟨_, _, rfl⟩ (by decide) rfl (Nat.le_of_ble_eq_true rfl) rfl hro h (fun r σ1 h => wX12_ofWord h) ?_
  clear h; intro t6 σ h
  refine r_icmp_eq (tgt := 1693) hX dL_law_777 (by decide) h ?_ ?_
  · clear h; intro h
    refine r_sub [0, 1, 2, 3] rfl ?_
    exact wL_law_1693 hX hro hLw hLe k18 hk18 h
  · clear h; intro h
    exact absurd (show (none : Option (Unit × kdM)) = some (r, σ1) from h) (by simp)
def L_law_782 (G : kdS) (xs : Nat → Int32) (N : Nat) (k18 : Nat → Nat → Int32 → kdM → Option (Unit × kdM)) (l1 : Nat) (l2 : Nat) (l3 : Int32) : kdM → Option (Unit × kdM) :=
  scd xs N ((l3 + (1 : Int32))) fun t1 =>
  scd xs N ((l3 + (2 : Int32))) fun t2 =>
  kcv G 11 l1 (X11_count G l1 t1 t2) fun t3 =>
  scd xs N ((l3 + (1 : Int32))) fun t4 =>
  scd xs N ((l3 + (2 : Int32))) fun t5 =>
  kcv G 12 l2 (X12_count G l2 t4 t5) fun t6 =>
  cnd (t3 = t6)
    (L_law_1693 G xs N k18 l1 l2 l3)
    (fun _ => none)
set_option maxRecDepth 100000 in
set_option maxHeartbeats 4000000 in
theorem wL_law_782 {E : kdE} {G : kdS} {A : kdA} {z : Nat × Nat} {b N : Nat} {xs : Nat → Int32} {r : Unit} {σ1 : kdM} (hX : kdX E A cL_law 4 RL (some .boolean) 20) (hro : kdRO A z.1 z.2) (hLw : kdLw E A b N xs) (hLe : kdLe A b z) (k18 : Nat → Nat → Int32 → kdM → Option (Unit × kdM)) (hk18 : ∀ (l1 l2 : Nat) (l3 : Int32) (σ : kdM), k18 l1 l2 l3 σ = some (r, σ1) → SW E G (.inr z) A 4 σ 18 [(0, .ref b), (1, kr E l1), (2, kr E l2), (3, .int l3)] []) {l1 : Nat} {l2 : Nat} {l3 : Int32} {σ : kdM} (h : L_law_782 G xs N k18 l1 l2 l3 σ = some (r, σ1)) : SW E G (.inr z) A 4 σ 782 [(0, .ref b), (1, kr E l1), (2, kr E l2), (3, .int l3)] [] := by
  unfold L_law_782 at h
  refine r_aload_n hX dL_law_782 rfl 1 rfl ?_
  refine r_sload hX dL_law_783 rfl 0 rfl ?_
  refine r_iload_n hX dL_law_784 rfl 3 rfl ?_
  refine r_iconst hX dL_law_785 kk_i_1 ?_
  refine r_iadd hX dL_law_786 ?_
  refine r_sc hX hLw dL_law_787 h ?_
  clear h; intro t1 h
  refine r_sload hX dL_law_788 rfl 0 rfl ?_
  refine r_iload_n hX dL_law_789 rfl 3 rfl ?_
  refine r_iconst hX dL_law_790 kk_i_2 ?_
  refine r_iadd hX dL_law_791 ?_
  refine r_sc hX hLw dL_law_792 h ?_
  clear h; intro t2 h
  refine r_cVi (As := [.int t1, .int t2]) (st := []) hX dL_law_793 kl_X11_count w_ml_L_91 w_im_X11_count w_se_X11_count ⟨_, _, rfl⟩ (by decide) rfl (Nat.le_of_ble_eq_true rfl) rfl hro h (fun r σ1 h => wX11_count h) ?_
  clear h; intro t3 σ h
  refine r_aload_n hX dL_law_796 rfl 2 rfl ?_
  refine r_sload hX dL_law_797 rfl 0 rfl ?_
  refine r_iload_n hX dL_law_798 rfl 3 rfl ?_
  refine r_iconst hX dL_law_799 kk_i_1 ?_
  refine r_iadd hX dL_law_800 ?_
  refine r_sc hX hLw dL_law_801 h ?_
  clear h; intro t4 h
  refine r_sload hX dL_law_802 rfl 0 rfl ?_
  refine r_iload_n hX dL_law_803 rfl 3 rfl ?_
  refine r_iconst hX dL_law_804 kk_i_2 ?_
  refine r_iadd hX dL_law_805 ?_
  refine r_sc hX hLw dL_law_806 h ?_
  clear h; intro t5 h
  refine r_cVi (As := [.int t4, .int t5]) (st := [.int t3]) hX dL_law_807 kl_X12_count w_ml_L_94 w_im_X12_count w_se_X12_count ⟨_, _, rfl⟩ (by decide) rfl (Nat.le_of_ble_eq_true rfl) rfl hro h (fun r σ1 h => wX12_count h) ?_
  clear h; intro t6 σ h
  refine r_icmp_eq (tgt := 1693) hX dL_law_810 (by decide) h ?_ ?_
  · clear h; intro h
    refine r_sub [0, 1, 2, 3] rfl ?_
    exact wL_law_1693 hX hro hLw hLe k18 hk18 h
  · clear h; intro h
    exact absurd (show (none : Option (Unit × kdM)) = some (r, σ1) from h) (by simp)
def L_law_815 (G : kdS) (xs : Nat → Int32) (N : Nat) (k18 : Nat → Nat → Int32 → kdM → Option (Unit × kdM)) (l1 : Nat) (l2 : Nat) (l3 : Int32) : kdM → Option (Unit × kdM) :=
  scd xs N ((l3 + (1 : Int32))) fun t1 =>
  scd xs N ((l3 + (2 : Int32))) fun t2 =>
  kcv G 11 l1 (X11_price G l1 t1 t2) fun t3 =>
  scd xs N ((l3 + (1 : Int32))) fun t4 =>
  scd xs N ((l3 + (2 : Int32))) fun t5 =>
  kcv G 12 l2 (X12_price G l2 t4 t5) fun t6 =>
  cnd (t3 = t6)
    (L_law_1693 G xs N k18 l1 l2 l3)
    (fun _ => none)
set_option maxRecDepth 100000 in
set_option maxHeartbeats 4000000 in
theorem wL_law_815 {E : kdE} {G : kdS} {A : kdA} {z : Nat × Nat} {b N : Nat} {xs : Nat → Int32} {r : Unit} {σ1 : kdM} (hX : kdX E A cL_law 4 RL (some .boolean) 20) (hro : kdRO A z.1 z.2) (hLw : kdLw E A b N xs) (hLe : kdLe A b z) (k18 : Nat → Nat → Int32 → kdM → Option (Unit × kdM)) (hk18 : ∀ (l1 l2 : Nat) (l3 : Int32) (σ : kdM), k18 l1 l2 l3 σ = some (r, σ1) → SW E G (.inr z) A 4 σ 18 [(0, .ref b), (1, kr E l1), (2, kr E l2), (3, .int l3)] []) {l1 : Nat} {l2 : Nat} {l3 : Int32} {σ : kdM} (h : L_law_815 G xs N k18 l1 l2 l3 σ = some (r, σ1)) : SW E G (.inr z) A 4 σ 815 [(0, .ref b), (1, kr E l1), (2, kr E l2), (3, .int l3)] [] := by
  unfold L_law_815 at h
  refine r_aload_n hX dL_law_815 rfl 1 rfl ?_
  refine r_sload hX dL_law_816 rfl 0 rfl ?_
  refine r_iload_n hX dL_law_817 rfl 3 rfl ?_
  refine r_iconst hX dL_law_818 kk_i_1 ?_
  refine r_iadd hX dL_law_819 ?_
  refine r_sc hX hLw dL_law_820 h ?_
  clear h; intro t1 h
  refine r_sload hX dL_law_821 rfl 0 rfl ?_
  refine r_iload_n hX dL_law_822 rfl 3 rfl ?_
  refine r_iconst hX dL_law_823 kk_i_2 ?_
  refine r_iadd hX dL_law_824 ?_
  refine r_sc hX hLw dL_law_825 h ?_
  clear h; intro t2 h
  refine r_cVi (As := [.int t1, .int t2]) (st := []) hX dL_law_826 kl_X11_price w_ml_L_95 w_im_X11_price w_se_X11_price ⟨_, _, rfl⟩ (by decide) rfl (Nat.le_of_ble_eq_true rfl) rfl hro h (fun r σ1 h => wX11_price h) ?_
  clear h; intro t3 σ h
  refine r_aload_n hX dL_law_829 rfl 2 rfl ?_
  refine r_sload hX dL_law_830 rfl 0 rfl ?_
  refine r_iload_n hX dL_law_831 rfl 3 rfl ?_
  refine r_iconst hX dL_law_832 kk_i_1 ?_
  refine r_iadd hX dL_law_833 ?_
  refine r_sc hX hLw dL_law_834 h ?_
  clear h; intro t4 h
  refine r_sload hX dL_law_835 rfl 0 rfl ?_
  refine r_iload_n hX dL_law_836 rfl 3 rfl ?_
  refine r_iconst hX dL_law_837 kk_i_2 ?_
  refine r_iadd hX dL_law_838 ?_
  refine r_sc hX hLw dL_law_839 h ?_
  clear h; intro t5 h
  refine r_cVi (As := [.int t4, .int t5]) (st := [.int t3]) hX dL_law_840 kl_X12_price w_ml_L_98 w_im_X12_price w_se_X12_price ⟨_, _, rfl⟩ (by decide) rfl (Nat.le_of_ble_eq_true rfl) rfl hro h (fun r σ1 h => wX12_price h) ?_
  clear h; intro t6 σ h
  refine r_icmp_eq (tgt := 1693) hX dL_law_843 (by decide) h ?_ ?_
  · clear h; intro h
    refine r_sub [0, 1, 2, 3] rfl ?_
    exact wL_law_1693 hX hro hLw hLe k18 hk18 h
  · clear h; intro h
    exact absurd (show (none : Option (Unit × kdM)) = some (r, σ1) from h) (by simp)
def L_law_848 (G : kdS) (xs : Nat → Int32) (N : Nat) (k18 : Nat → Nat → Int32 → kdM → Option (Unit × kdM)) (l1 : Nat) (l2 : Nat) (l3 : Int32) : kdM → Option (Unit × kdM) :=
  scd xs N ((l3 + (1 : Int32))) fun t1 =>
  kcv G 11 l1 (X11_slip G l1 t1) fun t2 =>
  scd xs N ((l3 + (1 : Int32))) fun t3 =>
  kcv G 12 l2 (X12_slip G l2 t3) fun t4 =>
  cnd (t2 = t4)
    (L_law_1693 G xs N k18 l1 l2 l3)
    (fun _ => none)
set_option maxRecDepth 100000 in
set_option maxHeartbeats 4000000 in
theorem wL_law_848 {E : kdE} {G : kdS} {A : kdA} {z : Nat × Nat} {b N : Nat} {xs : Nat → Int32} {r : Unit} {σ1 : kdM} (hX : kdX E A cL_law 4 RL (some .boolean) 20) (hro : kdRO A z.1 z.2) (hLw : kdLw E A b N xs) (hLe : kdLe A b z) (k18 : Nat → Nat → Int32 → kdM → Option (Unit × kdM)) (hk18 : ∀ (l1 l2 : Nat) (l3 : Int32) (σ : kdM), k18 l1 l2 l3 σ = some (r, σ1) → SW E G (.inr z) A 4 σ 18 [(0, .ref b), (1, kr E l1), (2, kr E l2), (3, .int l3)] []) {l1 : Nat} {l2 : Nat} {l3 : Int32} {σ : kdM} (h : L_law_848 G xs N k18 l1 l2 l3 σ = some (r, σ1)) : SW E G (.inr z) A 4 σ 848 [(0, .ref b), (1, kr E l1), (2, kr E l2), (3, .int l3)] [] := by
  unfold L_law_848 at h
  refine r_aload_n hX dL_law_848 rfl 1 rfl ?_
  refine r_sload hX dL_law_849 rfl 0 rfl ?_
  refine r_iload_n hX dL_law_850 rfl 3 rfl ?_
  refine r_iconst hX dL_law_851 kk_i_1 ?_
  refine r_iadd hX dL_law_852 ?_
  refine r_sc hX hLw dL_law_853 h ?_
  clear h; intro t1 h
  refine r_cVi (As := [.int t1]) (st := []) hX dL_law_854 kl_X11_slip w_ml_L_99 w_im_X11_slip w_se_X11_slip ⟨_, _, rfl⟩ (by decide) rfl (Nat.le_of_ble_eq_true rfl) rfl hro h (fun r σ1 h => wX11_slip h) ?_
  clear h; intro t2 σ h
  refine r_aload_n hX dL_law_857 rfl 2 rfl ?_
  refine r_sload hX dL_law_858 rfl 0 rfl ?_
  refine r_iload_n hX dL_law_859 rfl 3 rfl ?_
  refine r_iconst hX dL_law_860 kk_i_1 ?_
  refine r_iadd hX dL_law_861 ?_
  refine r_sc hX hLw dL_law_862 h ?_
  clear h; intro t3 h
  refine r_cVi (As := [.int t3]) (st := [.int t2]) hX dL_law_863 kl_X12_slip w_ml_L_102 w_im_X12_slip w_se_X12_slip ⟨_, _, rfl⟩ (by decide) rfl (Nat.le_of_ble_eq_true rfl) rfl hro h (fun r σ1 h => wX12_slip h) ?_
  clear h; intro t4 σ h
  refine r_icmp_eq (tgt := 1693) hX dL_law_866 (by decide) h ?_ ?_
  · clear h; intro h
    refine r_sub [0, 1, 2, 3] rfl ?_
    exact wL_law_1693 hX hro hLw hLe k18 hk18 h
  · clear h; intro h
    exact absurd (show (none : Option (Unit × kdM)) = some (r, σ1) from h) (by simp)
def L_law_871 (G : kdS) (xs : Nat → Int32) (N : Nat) (k18 : Nat → Nat → Int32 → kdM → Option (Unit × kdM)) (l1 : Nat) (l2 : Nat) (l3 : Int32) : kdM → Option (Unit × kdM) :=
  scd xs N ((l3 + (1 : Int32))) fun t1 =>
  scd xs N ((l3 + (2 : Int32))) fun t2 =>
  scd xs N ((l3 + (3 : Int32))) fun t3 =>
  kcv G 11 l1 (X11_guess G l1 t1 t2 t3) fun t4 =>
  scd xs N ((l3 + (1 : Int32))) fun t5 =>
  scd xs N ((l3 + (2 : Int32))) fun t6 =>
  scd xs N ((l3 + (3 : Int32))) fun t7 =>
  kcv G 12 l2 (X12_guess G l2 t5 t6 t7) fun t8 =>
  cnd (t4 = t8)
    (L_law_1693 G xs N k18 l1 l2 l3)
    (fun _ => none)
set_option maxRecDepth 100000 in
set_option maxHeartbeats 4000000 in
theorem wL_law_871 {E : kdE} {G : kdS} {A : kdA} {z : Nat × Nat} {b N : Nat} {xs : Nat → Int32} {r : Unit} {σ1 : kdM} (hX : kdX E A cL_law 4 RL (some .boolean) 20) (hro : kdRO A z.1 z.2) (hLw : kdLw E A b N xs) (hLe : kdLe A b z) (k18 : Nat → Nat → Int32 → kdM → Option (Unit × kdM)) (hk18 : ∀ (l1 l2 : Nat) (l3 : Int32) (σ : kdM), k18 l1 l2 l3 σ = some (r, σ1) → SW E G (.inr z) A 4 σ 18 [(0, .ref b), (1, kr E l1), (2, kr E l2), (3, .int l3)] []) {l1 : Nat} {l2 : Nat} {l3 : Int32} {σ : kdM} (h : L_law_871 G xs N k18 l1 l2 l3 σ = some (r, σ1)) : SW E G (.inr z) A 4 σ 871 [(0, .ref b), (1, kr E l1), (2, kr E l2), (3, .int l3)] [] := by
  unfold L_law_871 at h
  refine r_aload_n hX dL_law_871 rfl 1 rfl ?_
  refine r_sload hX dL_law_872 rfl 0 rfl ?_
  refine r_iload_n hX dL_law_873 rfl 3 rfl ?_
  refine r_iconst hX dL_law_874 kk_i_1 ?_
  refine r_iadd hX dL_law_875 ?_
  refine r_sc hX hLw dL_law_876 h ?_
  clear h; intro t1 h
  refine r_sload hX dL_law_877 rfl 0 rfl ?_
  refine r_iload_n hX dL_law_878 rfl 3 rfl ?_
  refine r_iconst hX dL_law_879 kk_i_2 ?_
  refine r_iadd hX dL_law_880 ?_
  refine r_sc hX hLw dL_law_881 h ?_
  clear h; intro t2 h
  refine r_sload hX dL_law_882 rfl 0 rfl ?_
  refine r_iload_n hX dL_law_883 rfl 3 rfl ?_
  refine r_iconst hX dL_law_884 kk_i_3 ?_
  refine r_iadd hX dL_law_885 ?_
  refine r_sc hX hLw dL_law_886 h ?_
  clear h; intro t3 h
  refine r_cVi (As := [.int t1, .int t2, .int t3]) (st := []) hX dL_law_887 kl_X11_guess w_ml_L_103 w_im_X11_guess w_se_X11_guess ⟨_, _, rfl⟩ (by decide) rfl (Nat.le_of_ble_eq_true rfl) rfl hro h (fun r σ1 h => wX11_guess h) ?_
  clear h; intro t4 σ h
  refine r_aload_n hX dL_law_890 rfl 2 rfl ?_
  refine r_sload hX dL_law_891 rfl 0 rfl ?_
  refine r_iload_n hX dL_law_892 rfl 3 rfl ?_
  refine r_iconst hX dL_law_893 kk_i_1 ?_
  refine r_iadd hX dL_law_894 ?_
  refine r_sc hX hLw dL_law_895 h ?_
  clear h; intro t5 h
  refine r_sload hX dL_law_896 rfl 0 rfl ?_
  refine r_iload_n hX dL_law_897 rfl 3 rfl ?_
  refine r_iconst hX dL_law_898 kk_i_2 ?_
  refine r_iadd hX dL_law_899 ?_
  refine r_sc hX hLw dL_law_900 h ?_
  clear h; intro t6 h
  refine r_sload hX dL_law_901 rfl 0 rfl ?_
  refine r_iload_n hX dL_law_902 rfl 3 rfl ?_
  refine r_iconst hX dL_law_903 kk_i_3 ?_
  refine r_iadd hX dL_law_904 ?_
  refine r_sc hX hLw dL_law_905 h ?_
  clear h; intro t7 h
  refine r_cVi (As := [.int t5, .int t6, .int t7]) (st := [.int t4]) hX dL_law_906 kl_X12_guess w_ml_L_106 w_im_X12_guess w_se_X12_guess ⟨_, _, rfl⟩ (by decide) rfl (Nat.le_of_ble_eq_true rfl) rfl hro h (fun r σ1 h => wX12_guess h) ?_
  clear h; intro t8 σ h
  refine r_icmp_eq (tgt := 1693) hX dL_law_909 (by decide) h ?_ ?_
  · clear h; intro h
    refine r_sub [0, 1, 2, 3] rfl ?_
    exact wL_law_1693 hX hro hLw hLe k18 hk18 h
  · clear h; intro h
    exact absurd (show (none : Option (Unit × kdM)) = some (r, σ1) from h) (by simp)
def L_law_914 (G : kdS) (xs : Nat → Int32) (N : Nat) (k18 : Nat → Nat → Int32 → kdM → Option (Unit × kdM)) (l1 : Nat) (l2 : Nat) (l3 : Int32) : kdM → Option (Unit × kdM) :=
  scd xs N ((l3 + (1 : Int32))) fun t1 =>
  scd xs N ((l3 + (2 : Int32))) fun t2 =>
  kcv G 11 l1 (X11_part G l1 t1 t2) fun t3 =>
  scd xs N ((l3 + (1 : Int32))) fun t4 =>
  scd xs N ((l3 + (2 : Int32))) fun t5 =>
  kcv G 12 l2 (X12_part G l2 t4 t5) fun t6 =>
  cnd (t3 = t6)
    (L_law_1693 G xs N k18 l1 l2 l3)
    (fun _ => none)
set_option maxRecDepth 100000 in
set_option maxHeartbeats 4000000 in
theorem wL_law_914 {E : kdE} {G : kdS} {A : kdA} {z : Nat × Nat} {b N : Nat} {xs : Nat → Int32} {r : Unit} {σ1 : kdM} (hX : kdX E A cL_law 4 RL (some .boolean) 20) (hro : kdRO A z.1 z.2) (hLw : kdLw E A b N xs) (hLe : kdLe A b z) (k18 : Nat → Nat → Int32 → kdM → Option (Unit × kdM)) (hk18 : ∀ (l1 l2 : Nat) (l3 : Int32) (σ : kdM), k18 l1 l2 l3 σ = some (r, σ1) → SW E G (.inr z) A 4 σ 18 [(0, .ref b), (1, kr E l1), (2, kr E l2), (3, .int l3)] []) {l1 : Nat} {l2 : Nat} {l3 : Int32} {σ : kdM} (h : L_law_914 G xs N k18 l1 l2 l3 σ = some (r, σ1)) : SW E G (.inr z) A 4 σ 914 [(0, .ref b), (1, kr E l1), (2, kr E l2), (3, .int l3)] [] := by
  unfold L_law_914 at h
  refine r_aload_n hX dL_law_914 rfl 1 rfl ?_
  refine r_sload hX dL_law_915 rfl 0 rfl ?_
  refine r_iload_n hX dL_law_916 rfl 3 rfl ?_
  refine r_iconst hX dL_law_917 kk_i_1 ?_
  refine r_iadd hX dL_law_918 ?_
  refine r_sc hX hLw dL_law_919 h ?_
  clear h; intro t1 h
  refine r_sload hX dL_law_920 rfl 0 rfl ?_
  refine r_iload_n hX dL_law_921 rfl 3 rfl ?_
  refine r_iconst hX dL_law_922 kk_i_2 ?_
  refine r_iadd hX dL_law_923 ?_
  refine r_sc hX hLw dL_law_924 h ?_
  clear h; intro t2 h
  refine r_cVi (As := [.int t1, .int t2]) (st := []) hX dL_law_925 kl_X11_part w_ml_L_107 w_im_X11_part w_se_X11_part ⟨_, _, rfl⟩ (by decide) rfl (Nat.le_of_ble_eq_true rfl) rfl hro h (fun r σ1 h => wX11_part h) ?_
  clear h; intro t3 σ h
  refine r_aload_n hX dL_law_928 rfl 2 rfl ?_
  refine r_sload hX dL_law_929 rfl 0 rfl ?_
  refine r_iload_n hX dL_law_930 rfl 3 rfl ?_
  refine r_iconst hX dL_law_931 kk_i_1 ?_
  refine r_iadd hX dL_law_932 ?_
  refine r_sc hX hLw dL_law_933 h ?_
  clear h; intro t4 h
  refine r_sload hX dL_law_934 rfl 0 rfl ?_
  refine r_iload_n hX dL_law_935 rfl 3 rfl ?_
  refine r_iconst hX dL_law_936 kk_i_2 ?_
  refine r_iadd hX dL_law_937 ?_
  refine r_sc hX hLw dL_law_938 h ?_
  clear h; intro t5 h
  refine r_cVi (As := [.int t4, .int t5]) (st := [.int t3]) hX dL_law_939 kl_X12_part w_ml_L_110 w_im_X12_part w_se_X12_part ⟨_, _, rfl⟩ (by decide) rfl (Nat.le_of_ble_eq_true rfl) rfl hro h (fun r σ1 h => wX12_part h) ?_
  clear h; intro t6 σ h
  refine r_icmp_eq (tgt := 1693) hX dL_law_942 (by decide) h ?_ ?_
  · clear h; intro h
    refine r_sub [0, 1, 2, 3] rfl ?_
    exact wL_law_1693 hX hro hLw hLe k18 hk18 h
  · clear h; intro h
    exact absurd (show (none : Option (Unit × kdM)) = some (r, σ1) from h) (by simp)
def L_law_947 (G : kdS) (xs : Nat → Int32) (N : Nat) (k18 : Nat → Nat → Int32 → kdM → Option (Unit × kdM)) (l1 : Nat) (l2 : Nat) (l3 : Int32) : kdM → Option (Unit × kdM) :=
  scd xs N ((l3 + (1 : Int32))) fun t1 =>
  scd xs N ((l3 + (2 : Int32))) fun t2 =>
  kcv G 11 l1 (X11_pieceOf G l1 t1 t2) fun t3 =>
  scd xs N ((l3 + (1 : Int32))) fun t4 =>
  scd xs N ((l3 + (2 : Int32))) fun t5 =>
  kcv G 12 l2 (X12_pieceOf G l2 t4 t5) fun t6 =>
  cnd (t3 = t6)
    (L_law_1693 G xs N k18 l1 l2 l3)
    (fun _ => none)
set_option maxRecDepth 100000 in
set_option maxHeartbeats 4000000 in
theorem wL_law_947 {E : kdE} {G : kdS} {A : kdA} {z : Nat × Nat} {b N : Nat} {xs : Nat → Int32} {r : Unit} {σ1 : kdM} (hX : kdX E A cL_law 4 RL (some .boolean) 20) (hro : kdRO A z.1 z.2) (hLw : kdLw E A b N xs) (hLe : kdLe A b z) (k18 : Nat → Nat → Int32 → kdM → Option (Unit × kdM)) (hk18 : ∀ (l1 l2 : Nat) (l3 : Int32) (σ : kdM), k18 l1 l2 l3 σ = some (r, σ1) → SW E G (.inr z) A 4 σ 18 [(0, .ref b), (1, kr E l1), (2, kr E l2), (3, .int l3)] []) {l1 : Nat} {l2 : Nat} {l3 : Int32} {σ : kdM} (h : L_law_947 G xs N k18 l1 l2 l3 σ = some (r, σ1)) : SW E G (.inr z) A 4 σ 947 [(0, .ref b), (1, kr E l1), (2, kr E l2), (3, .int l3)] [] := by
  unfold L_law_947 at h
  refine r_aload_n hX dL_law_947 rfl 1 rfl ?_
  refine r_sload hX dL_law_948 rfl 0 rfl ?_
  refine r_iload_n hX dL_law_949 rfl 3 rfl ?_
  refine r_iconst hX dL_law_950 kk_i_1 ?_
  refine r_iadd hX dL_law_951 ?_
  refine r_sc hX hLw dL_law_952 h ?_
  clear h; intro t1 h
  refine r_sload hX dL_law_953 rfl 0 rfl ?_
  refine r_iload_n hX dL_law_954 rfl 3 rfl ?_
  refine r_iconst hX dL_law_955 kk_i_2 ?_
  refine r_iadd hX dL_law_956 ?_
  refine r_sc hX hLw dL_law_957 h ?_
  clear h; intro t2 h
  refine r_cVi (As := [.int t1, .int t2]) (st := []) hX dL_law_958 kl_X11_pieceOf w_ml_L_111 w_im_X11_pieceOf w_se_X11_pieceOf ⟨_, _, rfl⟩ (by decide) rfl (Nat.le_of_ble_eq_true rfl) rfl hro h (fun r σ1 h => wX11_pieceOf h) ?_
  clear h; intro t3 σ h
  refine r_aload_n hX dL_law_961 rfl 2 rfl ?_
  refine r_sload hX dL_law_962 rfl 0 rfl ?_
  refine r_iload_n hX dL_law_963 rfl 3 rfl ?_
  refine r_iconst hX dL_law_964 kk_i_1 ?_
  refine r_iadd hX dL_law_965 ?_
  refine r_sc hX hLw dL_law_966 h ?_
  clear h; intro t4 h
  refine r_sload hX dL_law_967 rfl 0 rfl ?_
  refine r_iload_n hX dL_law_968 rfl 3 rfl ?_
  refine r_iconst hX dL_law_969 kk_i_2 ?_
  refine r_iadd hX dL_law_970 ?_
  refine r_sc hX hLw dL_law_971 h ?_
  clear h; intro t5 h
  refine r_cVi (As := [.int t4, .int t5]) (st := [.int t3]) hX dL_law_972 kl_X12_pieceOf w_ml_L_114 w_im_X12_pieceOf w_se_X12_pieceOf ⟨_, _, rfl⟩ (by decide) rfl (Nat.le_of_ble_eq_true rfl) rfl hro h (fun r σ1 h => wX12_pieceOf h) ?_
  clear h; intro t6 σ h
  refine r_icmp_eq (tgt := 1693) hX dL_law_975 (by decide) h ?_ ?_
  · clear h; intro h
    refine r_sub [0, 1, 2, 3] rfl ?_
    exact wL_law_1693 hX hro hLw hLe k18 hk18 h
  · clear h; intro h
    exact absurd (show (none : Option (Unit × kdM)) = some (r, σ1) from h) (by simp)
def L_law_980 (G : kdS) (xs : Nat → Int32) (N : Nat) (k18 : Nat → Nat → Int32 → kdM → Option (Unit × kdM)) (l1 : Nat) (l2 : Nat) (l3 : Int32) : kdM → Option (Unit × kdM) :=
  scd xs N ((l3 + (1 : Int32))) fun t1 =>
  scd xs N ((l3 + (2 : Int32))) fun t2 =>
  scd xs N ((l3 + (3 : Int32))) fun t3 =>
  kcv G 11 l1 (X11_both G l1 t1 t2 t3) fun t4 =>
  scd xs N ((l3 + (1 : Int32))) fun t5 =>
  scd xs N ((l3 + (2 : Int32))) fun t6 =>
  scd xs N ((l3 + (3 : Int32))) fun t7 =>
  kcv G 12 l2 (X12_both G l2 t5 t6 t7) fun t8 =>
  cnd (t4 = t8)
    (L_law_1693 G xs N k18 l1 l2 l3)
    (fun _ => none)
set_option maxRecDepth 100000 in
set_option maxHeartbeats 4000000 in
theorem wL_law_980 {E : kdE} {G : kdS} {A : kdA} {z : Nat × Nat} {b N : Nat} {xs : Nat → Int32} {r : Unit} {σ1 : kdM} (hX : kdX E A cL_law 4 RL (some .boolean) 20) (hro : kdRO A z.1 z.2) (hLw : kdLw E A b N xs) (hLe : kdLe A b z) (k18 : Nat → Nat → Int32 → kdM → Option (Unit × kdM)) (hk18 : ∀ (l1 l2 : Nat) (l3 : Int32) (σ : kdM), k18 l1 l2 l3 σ = some (r, σ1) → SW E G (.inr z) A 4 σ 18 [(0, .ref b), (1, kr E l1), (2, kr E l2), (3, .int l3)] []) {l1 : Nat} {l2 : Nat} {l3 : Int32} {σ : kdM} (h : L_law_980 G xs N k18 l1 l2 l3 σ = some (r, σ1)) : SW E G (.inr z) A 4 σ 980 [(0, .ref b), (1, kr E l1), (2, kr E l2), (3, .int l3)] [] := by
  unfold L_law_980 at h
  refine r_aload_n hX dL_law_980 rfl 1 rfl ?_
  refine r_sload hX dL_law_981 rfl 0 rfl ?_
  refine r_iload_n hX dL_law_982 rfl 3 rfl ?_
  refine r_iconst hX dL_law_983 kk_i_1 ?_
  refine r_iadd hX dL_law_984 ?_
  refine r_sc hX hLw dL_law_985 h ?_
  clear h; intro t1 h
  refine r_sload hX dL_law_986 rfl 0 rfl ?_
  refine r_iload_n hX dL_law_987 rfl 3 rfl ?_
  refine r_iconst hX dL_law_988 kk_i_2 ?_
  refine r_iadd hX dL_law_989 ?_
  refine r_sc hX hLw dL_law_990 h ?_
  clear h; intro t2 h
  refine r_sload hX dL_law_991 rfl 0 rfl ?_
  refine r_iload_n hX dL_law_992 rfl 3 rfl ?_
  refine r_iconst hX dL_law_993 kk_i_3 ?_
  refine r_iadd hX dL_law_994 ?_
  refine r_sc hX hLw dL_law_995 h ?_
  clear h; intro t3 h
  refine r_cVi (As := [.int t1, .int t2, .int t3]) (st := []) hX dL_law_996 kl_X11_both w_ml_L_115 w_im_X11_both w_se_X11_both ⟨_, _, rfl⟩ (by decide) rfl (Nat.le_of_ble_eq_true rfl) rfl hro h (fun r σ1 h => wX11_both h) ?_
  clear h; intro t4 σ h
  refine r_aload_n hX dL_law_999 rfl 2 rfl ?_
  refine r_sload hX dL_law_1000 rfl 0 rfl ?_
  refine r_iload_n hX dL_law_1001 rfl 3 rfl ?_
  refine r_iconst hX dL_law_1002 kk_i_1 ?_
  refine r_iadd hX dL_law_1003 ?_
  refine r_sc hX hLw dL_law_1004 h ?_
  clear h; intro t5 h
  refine r_sload hX dL_law_1005 rfl 0 rfl ?_
  refine r_iload_n hX dL_law_1006 rfl 3 rfl ?_
  refine r_iconst hX dL_law_1007 kk_i_2 ?_
  refine r_iadd hX dL_law_1008 ?_
  refine r_sc hX hLw dL_law_1009 h ?_
  clear h; intro t6 h
  refine r_sload hX dL_law_1010 rfl 0 rfl ?_
  refine r_iload_n hX dL_law_1011 rfl 3 rfl ?_
  refine r_iconst hX dL_law_1012 kk_i_3 ?_
  refine r_iadd hX dL_law_1013 ?_
  refine r_sc hX hLw dL_law_1014 h ?_
  clear h; intro t7 h
  refine r_cVi (As := [.int t5, .int t6, .int t7]) (st := [.int t4]) hX dL_law_1015 kl_X12_both w_ml_L_118 w_im_X12_both w_se_X12_both ⟨_, _, rfl⟩ (by decide) rfl (Nat.le_of_ble_eq_true rfl) rfl hro h (fun r σ1 h => wX12_both h) ?_
  clear h; intro t8 σ h
  refine r_icmp_eq (tgt := 1693) hX dL_law_1018 (by decide) h ?_ ?_
  · clear h; intro h
    refine r_sub [0, 1, 2, 3] rfl ?_
    exact wL_law_1693 hX hro hLw hLe k18 hk18 h
  · clear h; intro h
    exact absurd (show (none : Option (Unit × kdM)) = some (r, σ1) from h) (by simp)
def L_law_1064 (G : kdS) (xs : Nat → Int32) (N : Nat) (k18 : Nat → Nat → Int32 → kdM → Option (Unit × kdM)) (l1 : Nat) (l2 : Nat) (l3 : Int32) (s0 : Int32) (s1 : Nat) (s2 : Int32) (s3 : Int32) : kdM → Option (Unit × kdM) :=
  kcv G 12 s1 (X12_say G s1 s2 s3) fun t1 =>
  cnd (s0 = t1)
    (L_law_1693 G xs N k18 l1 l2 l3)
    (fun _ => none)
set_option maxRecDepth 100000 in
set_option maxHeartbeats 4000000 in
theorem wL_law_1064 {E : kdE} {G : kdS} {A : kdA} {z : Nat × Nat} {b N : Nat} {xs : Nat → Int32} {r : Unit} {σ1 : kdM} (hX : kdX E A cL_law 4 RL (some .boolean) 20) (hro : kdRO A z.1 z.2) (hLw : kdLw E A b N xs) (hLe : kdLe A b z) (k18 : Nat → Nat → Int32 → kdM → Option (Unit × kdM)) (hk18 : ∀ (l1 l2 : Nat) (l3 : Int32) (σ : kdM), k18 l1 l2 l3 σ = some (r, σ1) → SW E G (.inr z) A 4 σ 18 [(0, .ref b), (1, kr E l1), (2, kr E l2), (3, .int l3)] []) {l1 : Nat} {l2 : Nat} {l3 : Int32} {s0 : Int32} {s1 : Nat} {s2 : Int32} {s3 : Int32} {σ : kdM} (h : L_law_1064 G xs N k18 l1 l2 l3 s0 s1 s2 s3 σ = some (r, σ1)) : SW E G (.inr z) A 4 σ 1064 [(0, .ref b), (1, kr E l1), (2, kr E l2), (3, .int l3)] [.int s3, .int s2, kr E s1, .int s0] := by
  unfold L_law_1064 at h
  refine r_cVi (As := [.int s2, .int s3]) (st := [.int s0]) hX dL_law_1064 kl_X12_say w_ml_L_123 w_im_X12_say w_se_X12_say ⟨_, _, rfl⟩ (by decide) rfl (Nat.le_of_ble_eq_true rfl) rfl hro h (fun r σ1 h => wX12_say h) ?_
  clear h; intro t1 σ h
  refine r_icmp_eq (tgt := 1693) hX dL_law_1067 (by decide) h ?_ ?_
  · clear h; intro h
    refine r_sub [0, 1, 2, 3] rfl ?_
    exact wL_law_1693 hX hro hLw hLe k18 hk18 h
  · clear h; intro h
    exact absurd (show (none : Option (Unit × kdM)) = some (r, σ1) from h) (by simp)
def L_law_1042 (G : kdS) (xs : Nat → Int32) (N : Nat) (k18 : Nat → Nat → Int32 → kdM → Option (Unit × kdM)) (l1 : Nat) (l2 : Nat) (l3 : Int32) (s0 : Nat) (s1 : Int32) (s2 : Int32) : kdM → Option (Unit × kdM) :=
  kcv G 11 s0 (X11_say G s0 s1 s2) fun t1 =>
  scd xs N ((l3 + (1 : Int32))) fun t2 =>
  scd xs N ((l3 + (2 : Int32))) fun t3 =>
  cnd (t3 = 0)
    (L_law_1064 G xs N k18 l1 l2 l3 t1 l2 t2 (0 : Int32))
    (L_law_1064 G xs N k18 l1 l2 l3 t1 l2 t2 (1 : Int32))
set_option maxRecDepth 100000 in
set_option maxHeartbeats 4000000 in
theorem wL_law_1042 {E : kdE} {G : kdS} {A : kdA} {z : Nat × Nat} {b N : Nat} {xs : Nat → Int32} {r : Unit} {σ1 : kdM} (hX : kdX E A cL_law 4 RL (some .boolean) 20) (hro : kdRO A z.1 z.2) (hLw : kdLw E A b N xs) (hLe : kdLe A b z) (k18 : Nat → Nat → Int32 → kdM → Option (Unit × kdM)) (hk18 : ∀ (l1 l2 : Nat) (l3 : Int32) (σ : kdM), k18 l1 l2 l3 σ = some (r, σ1) → SW E G (.inr z) A 4 σ 18 [(0, .ref b), (1, kr E l1), (2, kr E l2), (3, .int l3)] []) {l1 : Nat} {l2 : Nat} {l3 : Int32} {s0 : Nat} {s1 : Int32} {s2 : Int32} {σ : kdM} (h : L_law_1042 G xs N k18 l1 l2 l3 s0 s1 s2 σ = some (r, σ1)) : SW E G (.inr z) A 4 σ 1042 [(0, .ref b), (1, kr E l1), (2, kr E l2), (3, .int l3)] [.int s2, .int s1, kr E s0] := by
  unfold L_law_1042 at h
  refine r_cVi (As := [.int s1, .int s2]) (st := []) hX dL_law_1042 kl_X11_say w_ml_L_119 w_im_X11_say w_se_X11_say ⟨_, _, rfl⟩ (by decide) rfl (Nat.le_of_ble_eq_true rfl) rfl hro h (fun r σ1 h => wX11_say h) ?_
  clear h; intro t1 σ h
  refine r_aload_n hX dL_law_1045 rfl 2 rfl ?_
  refine r_sload hX dL_law_1046 rfl 0 rfl ?_
  refine r_iload_n hX dL_law_1047 rfl 3 rfl ?_
  refine r_iconst hX dL_law_1048 kk_i_1 ?_
  refine r_iadd hX dL_law_1049 ?_
  refine r_sc hX hLw dL_law_1050 h ?_
  clear h; intro t2 h
  refine r_sload hX dL_law_1051 rfl 0 rfl ?_
  refine r_iload_n hX dL_law_1052 rfl 3 rfl ?_
  refine r_iconst hX dL_law_1053 kk_i_2 ?_
  refine r_iadd hX dL_law_1054 ?_
  refine r_sc hX hLw dL_law_1055 h ?_
  clear h; intro t3 h
  refine r_if_eq (tgt := 1063) hX dL_law_1056 (by decide) h ?_ ?_
  · clear h; intro h
    refine r_iconst hX dL_law_1063 kk_i_0 ?_
    refine r_sub [0, 1, 2, 3] rfl ?_
    exact wL_law_1064 hX hro hLw hLe k18 hk18 h
  · clear h; intro h
    refine r_iconst hX dL_law_1059 kk_i_1 ?_
    refine r_goto (tgt := 1064) hX dL_law_1060 (by decide) ?_
    refine r_sub [0, 1, 2, 3] rfl ?_
    exact wL_law_1064 hX hro hLw hLe k18 hk18 h
def L_law_1023 (G : kdS) (xs : Nat → Int32) (N : Nat) (k18 : Nat → Nat → Int32 → kdM → Option (Unit × kdM)) (l1 : Nat) (l2 : Nat) (l3 : Int32) : kdM → Option (Unit × kdM) :=
  scd xs N ((l3 + (1 : Int32))) fun t1 =>
  scd xs N ((l3 + (2 : Int32))) fun t2 =>
  cnd (t2 = 0)
    (L_law_1042 G xs N k18 l1 l2 l3 l1 t1 (0 : Int32))
    (L_law_1042 G xs N k18 l1 l2 l3 l1 t1 (1 : Int32))
set_option maxRecDepth 100000 in
set_option maxHeartbeats 4000000 in
theorem wL_law_1023 {E : kdE} {G : kdS} {A : kdA} {z : Nat × Nat} {b N : Nat} {xs : Nat → Int32} {r : Unit} {σ1 : kdM} (hX : kdX E A cL_law 4 RL (some .boolean) 20) (hro : kdRO A z.1 z.2) (hLw : kdLw E A b N xs) (hLe : kdLe A b z) (k18 : Nat → Nat → Int32 → kdM → Option (Unit × kdM)) (hk18 : ∀ (l1 l2 : Nat) (l3 : Int32) (σ : kdM), k18 l1 l2 l3 σ = some (r, σ1) → SW E G (.inr z) A 4 σ 18 [(0, .ref b), (1, kr E l1), (2, kr E l2), (3, .int l3)] []) {l1 : Nat} {l2 : Nat} {l3 : Int32} {σ : kdM} (h : L_law_1023 G xs N k18 l1 l2 l3 σ = some (r, σ1)) : SW E G (.inr z) A 4 σ 1023 [(0, .ref b), (1, kr E l1), (2, kr E l2), (3, .int l3)] [] := by
  unfold L_law_1023 at h
  refine r_aload_n hX dL_law_1023 rfl 1 rfl ?_
  refine r_sload hX dL_law_1024 rfl 0 rfl ?_
  refine r_iload_n hX dL_law_1025 rfl 3 rfl ?_
  refine r_iconst hX dL_law_1026 kk_i_1 ?_
  refine r_iadd hX dL_law_1027 ?_
  refine r_sc hX hLw dL_law_1028 h ?_
  clear h; intro t1 h
  refine r_sload hX dL_law_1029 rfl 0 rfl ?_
  refine r_iload_n hX dL_law_1030 rfl 3 rfl ?_
  refine r_iconst hX dL_law_1031 kk_i_2 ?_
  refine r_iadd hX dL_law_1032 ?_
  refine r_sc hX hLw dL_law_1033 h ?_
  clear h; intro t2 h
  refine r_if_eq (tgt := 1041) hX dL_law_1034 (by decide) h ?_ ?_
  · clear h; intro h
    refine r_iconst hX dL_law_1041 kk_i_0 ?_
    refine r_sub [0, 1, 2, 3] rfl ?_
    exact wL_law_1042 hX hro hLw hLe k18 hk18 h
  · clear h; intro h
    refine r_iconst hX dL_law_1037 kk_i_1 ?_
    refine r_goto (tgt := 1042) hX dL_law_1038 (by decide) ?_
    refine r_sub [0, 1, 2, 3] rfl ?_
    exact wL_law_1042 hX hro hLw hLe k18 hk18 h
def L_law_1072 (G : kdS) (xs : Nat → Int32) (N : Nat) (k18 : Nat → Nat → Int32 → kdM → Option (Unit × kdM)) (l1 : Nat) (l2 : Nat) (l3 : Int32) : kdM → Option (Unit × kdM) :=
  scd xs N ((l3 + (1 : Int32))) fun t1 =>
  kcv G 11 l1 (X11_chosen G l1 t1) fun t2 =>
  scd xs N ((l3 + (1 : Int32))) fun t3 =>
  kcv G 12 l2 (X12_chosen G l2 t3) fun t4 =>
  cnd (t2 = t4)
    (L_law_1693 G xs N k18 l1 l2 l3)
    (fun _ => none)
set_option maxRecDepth 100000 in
set_option maxHeartbeats 4000000 in
theorem wL_law_1072 {E : kdE} {G : kdS} {A : kdA} {z : Nat × Nat} {b N : Nat} {xs : Nat → Int32} {r : Unit} {σ1 : kdM} (hX : kdX E A cL_law 4 RL (some .boolean) 20) (hro : kdRO A z.1 z.2) (hLw : kdLw E A b N xs) (hLe : kdLe A b z) (k18 : Nat → Nat → Int32 → kdM → Option (Unit × kdM)) (hk18 : ∀ (l1 l2 : Nat) (l3 : Int32) (σ : kdM), k18 l1 l2 l3 σ = some (r, σ1) → SW E G (.inr z) A 4 σ 18 [(0, .ref b), (1, kr E l1), (2, kr E l2), (3, .int l3)] []) {l1 : Nat} {l2 : Nat} {l3 : Int32} {σ : kdM} (h : L_law_1072 G xs N k18 l1 l2 l3 σ = some (r, σ1)) : SW E G (.inr z) A 4 σ 1072 [(0, .ref b), (1, kr E l1), (2, kr E l2), (3, .int l3)] [] := by
  unfold L_law_1072 at h
  refine r_aload_n hX dL_law_1072 rfl 1 rfl ?_
  refine r_sload hX dL_law_1073 rfl 0 rfl ?_
  refine r_iload_n hX dL_law_1074 rfl 3 rfl ?_
  refine r_iconst hX dL_law_1075 kk_i_1 ?_
  refine r_iadd hX dL_law_1076 ?_
  refine r_sc hX hLw dL_law_1077 h ?_
  clear h; intro t1 h
  refine r_cVi (As := [.int t1]) (st := []) hX dL_law_1078 kl_X11_chosen w_ml_L_124 w_im_X11_chosen w_se_X11_chosen ⟨_, _, rfl⟩ (by decide) rfl (Nat.le_of_ble_eq_true rfl) rfl hro h (fun r σ1 h => wX11_chosen h) ?_
  clear h; intro t2 σ h
  refine r_aload_n hX dL_law_1081 rfl 2 rfl ?_
  refine r_sload hX dL_law_1082 rfl 0 rfl ?_
  refine r_iload_n hX dL_law_1083 rfl 3 rfl ?_
  refine r_iconst hX dL_law_1084 kk_i_1 ?_
  refine r_iadd hX dL_law_1085 ?_
  refine r_sc hX hLw dL_law_1086 h ?_
  clear h; intro t3 h
  refine r_cVi (As := [.int t3]) (st := [.int t2]) hX dL_law_1087 kl_X12_chosen w_ml_L_127 w_im_X12_chosen w_se_X12_chosen ⟨_, _, rfl⟩ (by decide) rfl (Nat.le_of_ble_eq_true rfl) rfl hro h (fun r σ1 h => wX12_chosen h) ?_
  clear h; intro t4 σ h
  refine r_icmp_eq (tgt := 1693) hX dL_law_1090 (by decide) h ?_ ?_
  · clear h; intro h
    refine r_sub [0, 1, 2, 3] rfl ?_
    exact wL_law_1693 hX hro hLw hLe k18 hk18 h
  · clear h; intro h
    exact absurd (show (none : Option (Unit × kdM)) = some (r, σ1) from h) (by simp)
def L_law_1095 (G : kdS) (xs : Nat → Int32) (N : Nat) (k18 : Nat → Nat → Int32 → kdM → Option (Unit × kdM)) (l1 : Nat) (l2 : Nat) (l3 : Int32) : kdM → Option (Unit × kdM) :=
  kcv G 11 l1 (X11_product G l1) fun t1 =>
  kcv G 12 l2 (X12_product G l2) fun t2 =>
  cnd ((lg_cmp t1 t2) = 0)
    (L_law_1693 G xs N k18 l1 l2 l3)
    (fun _ => none)
set_option maxRecDepth 100000 in
set_option maxHeartbeats 4000000 in
theorem wL_law_1095 {E : kdE} {G : kdS} {A : kdA} {z : Nat × Nat} {b N : Nat} {xs : Nat → Int32} {r : Unit} {σ1 : kdM} (hX : kdX E A cL_law 4 RL (some .boolean) 20) (hro : kdRO A z.1 z.2) (hLw : kdLw E A b N xs) (hLe : kdLe A b z) (k18 : Nat → Nat → Int32 → kdM → Option (Unit × kdM)) (hk18 : ∀ (l1 l2 : Nat) (l3 : Int32) (σ : kdM), k18 l1 l2 l3 σ = some (r, σ1) → SW E G (.inr z) A 4 σ 18 [(0, .ref b), (1, kr E l1), (2, kr E l2), (3, .int l3)] []) {l1 : Nat} {l2 : Nat} {l3 : Int32} {σ : kdM} (h : L_law_1095 G xs N k18 l1 l2 l3 σ = some (r, σ1)) : SW E G (.inr z) A 4 σ 1095 [(0, .ref b), (1, kr E l1), (2, kr E l2), (3, .int l3)] [] := by
  unfold L_law_1095 at h
  refine r_aload_n hX dL_law_1095 rfl 1 rfl ?_
  refine r_cVl (As := []) (st := []) hX dL_law_1096 kl_X11_product w_ml_L_128 w_im_X11_product w_se_X11_product ⟨_, _, rfl⟩ (by decide) rfl (Nat.le_of_ble_eq_true rfl) rfl hro h (fun r σ1 h => wX11_product h) ?_
  clear h; intro t1 σ h
  refine r_aload_n hX dL_law_1099 rfl 2 rfl ?_
  refine r_cVl (As := []) (st := [.long t1]) hX dL_law_1100 kl_X12_product w_ml_L_132 w_im_X12_product w_se_X12_product ⟨_, _, rfl⟩ (by decide) rfl (Nat.le_of_ble_eq_true rfl) rfl hro h (fun r σ1 h => wX12_product h) ?_
  clear h; intro t2 σ h
  refine r_lcmp hX dL_law_1103 ?_
  refine r_if_eq (tgt := 1693) hX dL_law_1104 (by decide) h ?_ ?_
  · clear h; intro h
    refine r_sub [0, 1, 2, 3] rfl ?_
    exact wL_law_1693 hX hro hLw hLe k18 hk18 h
  · clear h; intro h
    exact absurd (show (none : Option (Unit × kdM)) = some (r, σ1) from h) (by simp)
def L_law_1109 (G : kdS) (xs : Nat → Int32) (N : Nat) (k18 : Nat → Nat → Int32 → kdM → Option (Unit × kdM)) (l1 : Nat) (l2 : Nat) (l3 : Int32) : kdM → Option (Unit × kdM) :=
  scd xs N ((l3 + (1 : Int32))) fun t1 =>
  scd xs N ((l3 + (2 : Int32))) fun t2 =>
  scd xs N ((l3 + (3 : Int32))) fun t3 =>
  kcv G 11 l1 (X11_learn G l1 t1 t2 t3) fun t4 =>
  scd xs N ((l3 + (1 : Int32))) fun t5 =>
  scd xs N ((l3 + (2 : Int32))) fun t6 =>
  scd xs N ((l3 + (3 : Int32))) fun t7 =>
  kcv G 12 l2 (X12_learn G l2 t5 t6 t7) fun t8 =>
  cnd (t4 = t8)
    (L_law_1693 G xs N k18 l1 l2 l3)
    (fun _ => none)
set_option maxRecDepth 100000 in
set_option maxHeartbeats 4000000 in
theorem wL_law_1109 {E : kdE} {G : kdS} {A : kdA} {z : Nat × Nat} {b N : Nat} {xs : Nat → Int32} {r : Unit} {σ1 : kdM} (hX : kdX E A cL_law 4 RL (some .boolean) 20) (hro : kdRO A z.1 z.2) (hLw : kdLw E A b N xs) (hLe : kdLe A b z) (k18 : Nat → Nat → Int32 → kdM → Option (Unit × kdM)) (hk18 : ∀ (l1 l2 : Nat) (l3 : Int32) (σ : kdM), k18 l1 l2 l3 σ = some (r, σ1) → SW E G (.inr z) A 4 σ 18 [(0, .ref b), (1, kr E l1), (2, kr E l2), (3, .int l3)] []) {l1 : Nat} {l2 : Nat} {l3 : Int32} {σ : kdM} (h : L_law_1109 G xs N k18 l1 l2 l3 σ = some (r, σ1)) : SW E G (.inr z) A 4 σ 1109 [(0, .ref b), (1, kr E l1), (2, kr E l2), (3, .int l3)] [] := by
  unfold L_law_1109 at h
  refine r_aload_n hX dL_law_1109 rfl 1 rfl ?_
  refine r_sload hX dL_law_1110 rfl 0 rfl ?_
  refine r_iload_n hX dL_law_1111 rfl 3 rfl ?_
  refine r_iconst hX dL_law_1112 kk_i_1 ?_
  refine r_iadd hX dL_law_1113 ?_
  refine r_sc hX hLw dL_law_1114 h ?_
  clear h; intro t1 h
  refine r_sload hX dL_law_1115 rfl 0 rfl ?_
  refine r_iload_n hX dL_law_1116 rfl 3 rfl ?_
  refine r_iconst hX dL_law_1117 kk_i_2 ?_
  refine r_iadd hX dL_law_1118 ?_
  refine r_sc hX hLw dL_law_1119 h ?_
  clear h; intro t2 h
  refine r_sload hX dL_law_1120 rfl 0 rfl ?_
  refine r_iload_n hX dL_law_1121 rfl 3 rfl ?_
  refine r_iconst hX dL_law_1122 kk_i_3 ?_
  refine r_iadd hX dL_law_1123 ?_
  refine r_sc hX hLw dL_law_1124 h ?_
  clear h; intro t3 h
  refine r_cVi (As := [.int t1, .int t2, .int t3]) (st := []) hX dL_law_1125 kl_X11_learn w_ml_L_133 w_im_X11_learn w_se_X11_learn ⟨_, _, rfl⟩ (by decide) rfl (Nat.le_of_ble_eq_true rfl) rfl hro h (fun r σ1 h => wX11_learn h) ?_
  clear h; intro t4 σ h
  refine r_aload_n hX dL_law_1128 rfl 2 rfl ?_
  refine r_sload hX dL_law_1129 rfl 0 rfl ?_
  refine r_iload_n hX dL_law_1130 rfl 3 rfl ?_
  refine r_iconst hX dL_law_1131 kk_i_1 ?_
  refine r_iadd hX dL_law_1132 ?_
  refine r_sc hX hLw dL_law_1133 h ?_
  clear h; intro t5 h
  refine r_sload hX dL_law_1134 rfl 0 rfl ?_
  refine r_iload_n hX dL_law_1135 rfl 3 rfl ?_
  refine r_iconst hX dL_law_1136 kk_i_2 ?_
  refine r_iadd hX dL_law_1137 ?_
  refine r_sc hX hLw dL_law_1138 h ?_
  clear h; intro t6 h
  refine r_sload hX dL_law_1139 rfl 0 rfl ?_
  refine r_iload_n hX dL_law_1140 rfl 3 rfl ?_
  refine r_iconst hX dL_law_1141 kk_i_3 ?_
  refine r_iadd hX dL_law_1142 ?_
  refine r_sc hX hLw dL_law_1143 h ?_
  clear h; intro t7 h
  refine r_cVi (As := [.int t5, .int t6, .int t7]) (st := [.int t4]) hX dL_law_1144 kl_X12_learn w_ml_L_136 w_im_X12_learn w_se_X12_learn ⟨_, _, rfl⟩ (by decide) rfl (Nat.le_of_ble_eq_true rfl) rfl hro h (fun r σ1 h => wX12_learn h) ?_
  clear h; intro t8 σ h
  refine r_icmp_eq (tgt := 1693) hX dL_law_1147 (by decide) h ?_ ?_
  · clear h; intro h
    refine r_sub [0, 1, 2, 3] rfl ?_
    exact wL_law_1693 hX hro hLw hLe k18 hk18 h
  · clear h; intro h
    exact absurd (show (none : Option (Unit × kdM)) = some (r, σ1) from h) (by simp)
def L_law_1152 (G : kdS) (xs : Nat → Int32) (N : Nat) (k18 : Nat → Nat → Int32 → kdM → Option (Unit × kdM)) (l1 : Nat) (l2 : Nat) (l3 : Int32) : kdM → Option (Unit × kdM) :=
  scd xs N ((l3 + (1 : Int32))) fun t1 =>
  scd xs N ((l3 + (2 : Int32))) fun t2 =>
  scd xs N ((l3 + (3 : Int32))) fun t3 =>
  kcv G 11 l1 (X11_worth G l1 t1 t2 t3) fun t4 =>
  scd xs N ((l3 + (1 : Int32))) fun t5 =>
  scd xs N ((l3 + (2 : Int32))) fun t6 =>
  scd xs N ((l3 + (3 : Int32))) fun t7 =>
  kcv G 12 l2 (X12_worth G l2 t5 t6 t7) fun t8 =>
  cnd (t4 = t8)
    (L_law_1693 G xs N k18 l1 l2 l3)
    (fun _ => none)
set_option maxRecDepth 100000 in
set_option maxHeartbeats 4000000 in
theorem wL_law_1152 {E : kdE} {G : kdS} {A : kdA} {z : Nat × Nat} {b N : Nat} {xs : Nat → Int32} {r : Unit} {σ1 : kdM} (hX : kdX E A cL_law 4 RL (some .boolean) 20) (hro : kdRO A z.1 z.2) (hLw : kdLw E A b N xs) (hLe : kdLe A b z) (k18 : Nat → Nat → Int32 → kdM → Option (Unit × kdM)) (hk18 : ∀ (l1 l2 : Nat) (l3 : Int32) (σ : kdM), k18 l1 l2 l3 σ = some (r, σ1) → SW E G (.inr z) A 4 σ 18 [(0, .ref b), (1, kr E l1), (2, kr E l2), (3, .int l3)] []) {l1 : Nat} {l2 : Nat} {l3 : Int32} {σ : kdM} (h : L_law_1152 G xs N k18 l1 l2 l3 σ = some (r, σ1)) : SW E G (.inr z) A 4 σ 1152 [(0, .ref b), (1, kr E l1), (2, kr E l2), (3, .int l3)] [] := by
  unfold L_law_1152 at h
  refine r_aload_n hX dL_law_1152 rfl 1 rfl ?_
  refine r_sload hX dL_law_1153 rfl 0 rfl ?_
  refine r_iload_n hX dL_law_1154 rfl 3 rfl ?_
  refine r_iconst hX dL_law_1155 kk_i_1 ?_
  refine r_iadd hX dL_law_1156 ?_
  refine r_sc hX hLw dL_law_1157 h ?_
  clear h; intro t1 h
  refine r_sload hX dL_law_1158 rfl 0 rfl ?_
  refine r_iload_n hX dL_law_1159 rfl 3 rfl ?_
  refine r_iconst hX dL_law_1160 kk_i_2 ?_
  refine r_iadd hX dL_law_1161 ?_
  refine r_sc hX hLw dL_law_1162 h ?_
  clear h; intro t2 h
  refine r_sload hX dL_law_1163 rfl 0 rfl ?_
  refine r_iload_n hX dL_law_1164 rfl 3 rfl ?_
  refine r_iconst hX dL_law_1165 kk_i_3 ?_
  refine r_iadd hX dL_law_1166 ?_
  refine r_sc hX hLw dL_law_1167 h ?_
  clear h; intro t3 h
  refine r_cVi (As := [.int t1, .int t2, .int t3]) (st := []) hX dL_law_1168 kl_X11_worth w_ml_L_137 w_im_X11_worth w_se_X11_worth ⟨_, _, rfl⟩ (by decide) rfl (Nat.le_of_ble_eq_true rfl) rfl hro h (fun r σ1 h => wX11_worth h) ?_
  clear h; intro t4 σ h
  refine r_aload_n hX dL_law_1171 rfl 2 rfl ?_
  refine r_sload hX dL_law_1172 rfl 0 rfl ?_
  refine r_iload_n hX dL_law_1173 rfl 3 rfl ?_
  refine r_iconst hX dL_law_1174 kk_i_1 ?_
  refine r_iadd hX dL_law_1175 ?_
  refine r_sc hX hLw dL_law_1176 h ?_
  clear h; intro t5 h
  refine r_sload hX dL_law_1177 rfl 0 rfl ?_
  refine r_iload_n hX dL_law_1178 rfl 3 rfl ?_
  refine r_iconst hX dL_law_1179 kk_i_2 ?_
  refine r_iadd hX dL_law_1180 ?_
  refine r_sc hX hLw dL_law_1181 h ?_
  clear h; intro t6 h
  refine r_sload hX dL_law_1182 rfl 0 rfl ?_
  refine r_iload_n hX dL_law_1183 rfl 3 rfl ?_
  refine r_iconst hX dL_law_1184 kk_i_3 ?_
  refine r_iadd hX dL_law_1185 ?_
  refine r_sc hX hLw dL_law_1186 h ?_
  clear h; intro t7 h
  refine r_cVi (As := [.int t5, .int t6, .int t7]) (st := [.int t4]) hX dL_law_1187 kl_X12_worth w_ml_L_140 w_im_X12_worth w_se_X12_worth ⟨_, _, rfl⟩ (by decide) rfl (Nat.le_of_ble_eq_true rfl) rfl hro h (fun r σ1 h => wX12_worth h) ?_
  clear h; intro t8 σ h
  refine r_icmp_eq (tgt := 1693) hX dL_law_1190 (by decide) h ?_ ?_
  · clear h; intro h
    refine r_sub [0, 1, 2, 3] rfl ?_
    exact wL_law_1693 hX hro hLw hLe k18 hk18 h
  · clear h; intro h
    exact absurd (show (none : Option (Unit × kdM)) = some (r, σ1) from h) (by simp)
def L_law_1195 (G : kdS) (xs : Nat → Int32) (N : Nat) (k18 : Nat → Nat → Int32 → kdM → Option (Unit × kdM)) (l1 : Nat) (l2 : Nat) (l3 : Int32) : kdM → Option (Unit × kdM) :=
  scd xs N ((l3 + (1 : Int32))) fun t1 =>
  scd xs N ((l3 + (2 : Int32))) fun t2 =>
  kcv G 11 l1 (X11_forget G l1 t1 t2) fun t3 =>
  scd xs N ((l3 + (1 : Int32))) fun t4 =>
  scd xs N ((l3 + (2 : Int32))) fun t5 =>
  kcv G 12 l2 (X12_forget G l2 t4 t5) fun t6 =>
  cnd (t3 = t6)
    (L_law_1693 G xs N k18 l1 l2 l3)
    (fun _ => none)
set_option maxRecDepth 100000 in
set_option maxHeartbeats 4000000 in
theorem wL_law_1195 {E : kdE} {G : kdS} {A : kdA} {z : Nat × Nat} {b N : Nat} {xs : Nat → Int32} {r : Unit} {σ1 : kdM} (hX : kdX E A cL_law 4 RL (some .boolean) 20) (hro : kdRO A z.1 z.2) (hLw : kdLw E A b N xs) (hLe : kdLe A b z) (k18 : Nat → Nat → Int32 → kdM → Option (Unit × kdM)) (hk18 : ∀ (l1 l2 : Nat) (l3 : Int32) (σ : kdM), k18 l1 l2 l3 σ = some (r, σ1) → SW E G (.inr z) A 4 σ 18 [(0, .ref b), (1, kr E l1), (2, kr E l2), (3, .int l3)] []) {l1 : Nat} {l2 : Nat} {l3 : Int32} {σ : kdM} (h : L_law_1195 G xs N k18 l1 l2 l3 σ = some (r, σ1)) : SW E G (.inr z) A 4 σ 1195 [(0, .ref b), (1, kr E l1), (2, kr E l2), (3, .int l3)] [] := by
  unfold L_law_1195 at h
  refine r_aload_n hX dL_law_1195 rfl 1 rfl ?_
  refine r_sload hX dL_law_1196 rfl 0 rfl ?_
  refine r_iload_n hX dL_law_1197 rfl 3 rfl ?_
  refine r_iconst hX dL_law_1198 kk_i_1 ?_
  refine r_iadd hX dL_law_1199 ?_
  refine r_sc hX hLw dL_law_1200 h ?_
  clear h; intro t1 h
  refine r_sload hX dL_law_1201 rfl 0 rfl ?_
  refine r_iload_n hX dL_law_1202 rfl 3 rfl ?_
  refine r_iconst hX dL_law_1203 kk_i_2 ?_
  refine r_iadd hX dL_law_1204 ?_
  refine r_sc hX hLw dL_law_1205 h ?_
  clear h; intro t2 h
  refine r_cVi (As := [.int t1, .int t2]) (st := []) hX dL_law_1206 kl_X11_forget w_ml_L_141 w_im_X11_forget w_se_X11_forget ⟨_, _, rfl⟩ (by decide) rfl (Nat.le_of_ble_eq_true rfl) rfl hro h (fun r σ1 h => wX11_forget h) ?_
  clear h; intro t3 σ h
  refine r_aload_n hX dL_law_1209 rfl 2 rfl ?_
  refine r_sload hX dL_law_1210 rfl 0 rfl ?_
  refine r_iload_n hX dL_law_1211 rfl 3 rfl ?_
  refine r_iconst hX dL_law_1212 kk_i_1 ?_
  refine r_iadd hX dL_law_1213 ?_
  refine r_sc hX hLw dL_law_1214 h ?_
  clear h; intro t4 h
  refine r_sload hX dL_law_1215 rfl 0 rfl ?_
  refine r_iload_n hX dL_law_1216 rfl 3 rfl ?_
  refine r_iconst hX dL_law_1217 kk_i_2 ?_
  refine r_iadd hX dL_law_1218 ?_
  refine r_sc hX hLw dL_law_1219 h ?_
  clear h; intro t5 h
  refine r_cVi (As := [.int t4, .int t5]) (st := [.int t3]) hX dL_law_1220 kl_X12_forget w_ml_L_144 w_im_X12_forget w_se_X12_forget ⟨_, _, rfl⟩ (by decide) rfl (Nat.le_of_ble_eq_true rfl) rfl hro h (fun r σ1 h => wX12_forget h) ?_
  clear h; intro t6 σ h
  refine r_icmp_eq (tgt := 1693) hX dL_law_1223 (by decide) h ?_ ?_
  · clear h; intro h
    refine r_sub [0, 1, 2, 3] rfl ?_
    exact wL_law_1693 hX hro hLw hLe k18 hk18 h
  · clear h; intro h
    exact absurd (show (none : Option (Unit × kdM)) = some (r, σ1) from h) (by simp)
def L_law_1228 (G : kdS) (xs : Nat → Int32) (N : Nat) (k18 : Nat → Nat → Int32 → kdM → Option (Unit × kdM)) (l1 : Nat) (l2 : Nat) (l3 : Int32) : kdM → Option (Unit × kdM) :=
  scd xs N ((l3 + (1 : Int32))) fun t1 =>
  kcv G 11 l1 (X11_fade G l1 t1) fun t2 =>
  scd xs N ((l3 + (1 : Int32))) fun t3 =>
  kcv G 12 l2 (X12_fade G l2 t3) fun t4 =>
  cnd (t2 = t4)
    (L_law_1693 G xs N k18 l1 l2 l3)
    (fun _ => none)
set_option maxRecDepth 100000 in
set_option maxHeartbeats 4000000 in
theorem wL_law_1228 {E : kdE} {G : kdS} {A : kdA} {z : Nat × Nat} {b N : Nat} {xs : Nat → Int32} {r : Unit} {σ1 : kdM} (hX : kdX E A cL_law 4 RL (some .boolean) 20) (hro : kdRO A z.1 z.2) (hLw : kdLw E A b N xs) (hLe : kdLe A b z) (k18 : Nat → Nat → Int32 → kdM → Option (Unit × kdM)) (hk18 : ∀ (l1 l2 : Nat) (l3 : Int32) (σ : kdM), k18 l1 l2 l3 σ = some (r, σ1) → SW E G (.inr z) A 4 σ 18 [(0, .ref b), (1, kr E l1), (2, kr E l2), (3, .int l3)] []) {l1 : Nat} {l2 : Nat} {l3 : Int32} {σ : kdM} (h : L_law_1228 G xs N k18 l1 l2 l3 σ = some (r, σ1)) : SW E G (.inr z) A 4 σ 1228 [(0, .ref b), (1, kr E l1), (2, kr E l2), (3, .int l3)] [] := by
  unfold L_law_1228 at h
  refine r_aload_n hX dL_law_1228 rfl 1 rfl ?_
  refine r_sload hX dL_law_1229 rfl 0 rfl ?_
  refine r_iload_n hX dL_law_1230 rfl 3 rfl ?_
  refine r_iconst hX dL_law_1231 kk_i_1 ?_
  refine r_iadd hX dL_law_1232 ?_
  refine r_sc hX hLw dL_law_1233 h ?_
  clear h; intro t1 h
  refine r_cVi (As := [.int t1]) (st := []) hX dL_law_1234 kl_X11_fade w_ml_L_145 w_im_X11_fade w_se_X11_fade ⟨_, _, rfl⟩ (by decide) rfl (Nat.le_of_ble_eq_true rfl) rfl hro h (fun r σ1 h => wX11_fade h) ?_
  clear h; intro t2 σ h
  refine r_aload_n hX dL_law_1237 rfl 2 rfl ?_
  refine r_sload hX dL_law_1238 rfl 0 rfl ?_
  refine r_iload_n hX dL_law_1239 rfl 3 rfl ?_
  refine r_iconst hX dL_law_1240 kk_i_1 ?_
  refine r_iadd hX dL_law_1241 ?_
  refine r_sc hX hLw dL_law_1242 h ?_
  clear h; intro t3 h
  refine r_cVi (As := [.int t3]) (st := [.int t2]) hX dL_law_1243 kl_X12_fade w_ml_L_148 w_im_X12_fade w_se_X12_fade ⟨_, _, rfl⟩ (by decide) rfl (Nat.le_of_ble_eq_true rfl) rfl hro h (fun r σ1 h => wX12_fade h) ?_
  clear h; intro t4 σ h
  refine r_icmp_eq (tgt := 1693) hX dL_law_1246 (by decide) h ?_ ?_
  · clear h; intro h
    refine r_sub [0, 1, 2, 3] rfl ?_
    exact wL_law_1693 hX hro hLw hLe k18 hk18 h
  · clear h; intro h
    exact absurd (show (none : Option (Unit × kdM)) = some (r, σ1) from h) (by simp)
def L_law_1251 (G : kdS) (xs : Nat → Int32) (N : Nat) (k18 : Nat → Nat → Int32 → kdM → Option (Unit × kdM)) (l1 : Nat) (l2 : Nat) (l3 : Int32) : kdM → Option (Unit × kdM) :=
  scd xs N ((l3 + (1 : Int32))) fun t1 =>
  scd xs N ((l3 + (2 : Int32))) fun t2 =>
  scd xs N ((l3 + (3 : Int32))) fun t3 =>
  scd xs N ((l3 + (4 : Int32))) fun t4 =>
  scd xs N ((l3 + (5 : Int32))) fun t5 =>
  kcv G 11 l1 (X11_mine G l1 t1 t2 t3 t4 t5) fun t6 =>
  scd xs N ((l3 + (1 : Int32))) fun t7 =>
  scd xs N ((l3 + (2 : Int32))) fun t8 =>
  scd xs N ((l3 + (3 : Int32))) fun t9 =>
  scd xs N ((l3 + (4 : Int32))) fun t10 =>
  scd xs N ((l3 + (5 : Int32))) fun t11 =>
  kcv G 12 l2 (X12_mine G l2 t7 t8 t9 t10 t11) fun t12 =>
  cnd (t6 = t12)
    (L_law_1693 G xs N k18 l1 l2 l3)
    (fun _ => none)
set_option maxRecDepth 100000 in
set_option maxHeartbeats 4000000 in
theorem wL_law_1251 {E : kdE} {G : kdS} {A : kdA} {z : Nat × Nat} {b N : Nat} {xs : Nat → Int32} {r : Unit} {σ1 : kdM} (hX : kdX E A cL_law 4 RL (some .boolean) 20) (hro : kdRO A z.1 z.2) (hLw : kdLw E A b N xs) (hLe : kdLe A b z) (k18 : Nat → Nat → Int32 → kdM → Option (Unit × kdM)) (hk18 : ∀ (l1 l2 : Nat) (l3 : Int32) (σ : kdM), k18 l1 l2 l3 σ = some (r, σ1) → SW E G (.inr z) A 4 σ 18 [(0, .ref b), (1, kr E l1), (2, kr E l2), (3, .int l3)] []) {l1 : Nat} {l2 : Nat} {l3 : Int32} {σ : kdM} (h : L_law_1251 G xs N k18 l1 l2 l3 σ = some (r, σ1)) : SW E G (.inr z) A 4 σ 1251 [(0, .ref b), (1, kr E l1), (2, kr E l2), (3, .int l3)] [] := by
  unfold L_law_1251 at h
  refine r_aload_n hX dL_law_1251 rfl 1 rfl ?_
  refine r_sload hX dL_law_1252 rfl 0 rfl ?_
  refine r_iload_n hX dL_law_1253 rfl 3 rfl ?_
  refine r_iconst hX dL_law_1254 kk_i_1 ?_
  refine r_iadd hX dL_law_1255 ?_
  refine r_sc hX hLw dL_law_1256 h ?_
  clear h; intro t1 h
  refine r_sload hX dL_law_1257 rfl 0 rfl ?_
  refine r_iload_n hX dL_law_1258 rfl 3 rfl ?_
  refine r_iconst hX dL_law_1259 kk_i_2 ?_
  refine r_iadd hX dL_law_1260 ?_
  refine r_sc hX hLw dL_law_1261 h ?_
  clear h; intro t2 h
  refine r_sload hX dL_law_1262 rfl 0 rfl ?_
  refine r_iload_n hX dL_law_1263 rfl 3 rfl ?_
  refine r_iconst hX dL_law_1264 kk_i_3 ?_
  refine r_iadd hX dL_law_1265 ?_
  refine r_sc hX hLw dL_law_1266 h ?_
  clear h; intro t3 h
  refine r_sload hX dL_law_1267 rfl 0 rfl ?_
  refine r_iload_n hX dL_law_1268 rfl 3 rfl ?_
  refine r_iconst hX dL_law_1269 kk_i_4 ?_
  refine r_iadd hX dL_law_1270 ?_
  refine r_sc hX hLw dL_law_1271 h ?_
  clear h; intro t4 h
  refine r_sload hX dL_law_1272 rfl 0 rfl ?_
  refine r_iload_n hX dL_law_1273 rfl 3 rfl ?_
  refine r_iconst hX dL_law_1274 kk_i_5 ?_
  refine r_iadd hX dL_law_1275 ?_
  refine r_sc hX hLw dL_law_1276 h ?_
  clear h; intro t5 h
  refine r_cVi (As := [.int t1, .int t2, .int t3, .int t4, .int t5]) (st := []) hX dL_law_1277 kl_X11_mine w_ml_L_149 w_im_X11_mine w_se_X11_mine ⟨_, _, rfl⟩ (by decide) rfl (Nat.le_of_ble_eq_true rfl) rfl hro h (fun r σ1 h => wX11_mine h) ?_
  clear h; intro t6 σ h
  refine r_aload_n hX dL_law_1280 rfl 2 rfl ?_
  refine r_sload hX dL_law_1281 rfl 0 rfl ?_
  refine r_iload_n hX dL_law_1282 rfl 3 rfl ?_
  refine r_iconst hX dL_law_1283 kk_i_1 ?_
  refine r_iadd hX dL_law_1284 ?_
  refine r_sc hX hLw dL_law_1285 h ?_
  clear h; intro t7 h
  refine r_sload hX dL_law_1286 rfl 0 rfl ?_
  refine r_iload_n hX dL_law_1287 rfl 3 rfl ?_
  refine r_iconst hX dL_law_1288 kk_i_2 ?_
  refine r_iadd hX dL_law_1289 ?_
  refine r_sc hX hLw dL_law_1290 h ?_
  clear h; intro t8 h
  refine r_sload hX dL_law_1291 rfl 0 rfl ?_
  refine r_iload_n hX dL_law_1292 rfl 3 rfl ?_
  refine r_iconst hX dL_law_1293 kk_i_3 ?_
  refine r_iadd hX dL_law_1294 ?_
  refine r_sc hX hLw dL_law_1295 h ?_
  clear h; intro t9 h
  refine r_sload hX dL_law_1296 rfl 0 rfl ?_
  refine r_iload_n hX dL_law_1297 rfl 3 rfl ?_
  refine r_iconst hX dL_law_1298 kk_i_4 ?_
  refine r_iadd hX dL_law_1299 ?_
  refine r_sc hX hLw dL_law_1300 h ?_
  clear h; intro t10 h
  refine r_sload hX dL_law_1301 rfl 0 rfl ?_
  refine r_iload_n hX dL_law_1302 rfl 3 rfl ?_
  refine r_iconst hX dL_law_1303 kk_i_5 ?_
  refine r_iadd hX dL_law_1304 ?_
  refine r_sc hX hLw dL_law_1305 h ?_
  clear h; intro t11 h
  refine r_cVi (As := [.int t7, .int t8, .int t9, .int t10, .int t11]) (st := [.int t6]) hX dL_law_1306 kl_X12_mine w_ml_L_153 w_im_X12_mine w_se_X12_mine ⟨_, _, rfl⟩ (by decide) rfl (Nat.le_of_ble_eq_true rfl) rfl hro h (fun r σ1 h => wX12_mine h) ?_
  clear h; intro t12 σ h
  refine r_icmp_eq (tgt := 1693) hX dL_law_1309 (by decide) h ?_ ?_
  · clear h; intro h
    refine r_sub [0, 1, 2, 3] rfl ?_
    exact wL_law_1693 hX hro hLw hLe k18 hk18 h
  · clear h; intro h
    exact absurd (show (none : Option (Unit × kdM)) = some (r, σ1) from h) (by simp)
def L_law_1314 (G : kdS) (xs : Nat → Int32) (N : Nat) (k18 : Nat → Nat → Int32 → kdM → Option (Unit × kdM)) (l1 : Nat) (l2 : Nat) (l3 : Int32) : kdM → Option (Unit × kdM) :=
  scd xs N ((l3 + (1 : Int32))) fun t1 =>
  scd xs N ((l3 + (2 : Int32))) fun t2 =>
  kcv G 11 l1 (X11_budget G l1 t1 t2) fun t3 =>
  scd xs N ((l3 + (1 : Int32))) fun t4 =>
  scd xs N ((l3 + (2 : Int32))) fun t5 =>
  kcv G 12 l2 (X12_budget G l2 t4 t5) fun t6 =>
  cnd (t3 = t6)
    (L_law_1693 G xs N k18 l1 l2 l3)
    (fun _ => none)
set_option maxRecDepth 100000 in
set_option maxHeartbeats 4000000 in
theorem wL_law_1314 {E : kdE} {G : kdS} {A : kdA} {z : Nat × Nat} {b N : Nat} {xs : Nat → Int32} {r : Unit} {σ1 : kdM} (hX : kdX E A cL_law 4 RL (some .boolean) 20) (hro : kdRO A z.1 z.2) (hLw : kdLw E A b N xs) (hLe : kdLe A b z) (k18 : Nat → Nat → Int32 → kdM → Option (Unit × kdM)) (hk18 : ∀ (l1 l2 : Nat) (l3 : Int32) (σ : kdM), k18 l1 l2 l3 σ = some (r, σ1) → SW E G (.inr z) A 4 σ 18 [(0, .ref b), (1, kr E l1), (2, kr E l2), (3, .int l3)] []) {l1 : Nat} {l2 : Nat} {l3 : Int32} {σ : kdM} (h : L_law_1314 G xs N k18 l1 l2 l3 σ = some (r, σ1)) : SW E G (.inr z) A 4 σ 1314 [(0, .ref b), (1, kr E l1), (2, kr E l2), (3, .int l3)] [] := by
  unfold L_law_1314 at h
  refine r_aload_n hX dL_law_1314 rfl 1 rfl ?_
  refine r_sload hX dL_law_1315 rfl 0 rfl ?_
  refine r_iload_n hX dL_law_1316 rfl 3 rfl ?_
  refine r_iconst hX dL_law_1317 kk_i_1 ?_
  refine r_iadd hX dL_law_1318 ?_
  refine r_sc hX hLw dL_law_1319 h ?_
  clear h; intro t1 h
  refine r_sload hX dL_law_1320 rfl 0 rfl ?_
  refine r_iload_n hX dL_law_1321 rfl 3 rfl ?_
  refine r_iconst hX dL_law_1322 kk_i_2 ?_
  refine r_iadd hX dL_law_1323 ?_
  refine r_sc hX hLw dL_law_1324 h ?_
  clear h; intro t2 h
  refine r_cVi (As := [.int t1, .int t2]) (st := []) hX dL_law_1325 kl_X11_budget w_ml_L_154 w_im_X11_budget w_se_X11_budget ⟨_, _, rfl⟩ (by decide) rfl (Nat.le_of_ble_eq_true rfl) rfl hro h (fun r σ1 h => wX11_budget h) ?_
  clear h; intro t3 σ h
  refine r_aload_n hX dL_law_1328 rfl 2 rfl ?_
  refine r_sload hX dL_law_1329 rfl 0 rfl ?_
  refine r_iload_n hX dL_law_1330 rfl 3 rfl ?_
  refine r_iconst hX dL_law_1331 kk_i_1 ?_
  refine r_iadd hX dL_law_1332 ?_
  refine r_sc hX hLw dL_law_1333 h ?_
  clear h; intro t4 h
  refine r_sload hX dL_law_1334 rfl 0 rfl ?_
  refine r_iload_n hX dL_law_1335 rfl 3 rfl ?_
  refine r_iconst hX dL_law_1336 kk_i_2 ?_
  refine r_iadd hX dL_law_1337 ?_
  refine r_sc hX hLw dL_law_1338 h ?_
  clear h; intro t5 h
  refine r_cVi (As := [.int t4, .int t5]) (st := [.int t3]) hX dL_law_1339 kl_X12_budget w_ml_L_157 w_im_X12_budget w_se_X12_budget ⟨_, _, rfl⟩ (by decide) rfl (Nat.le_of_ble_eq_true rfl) rfl hro h (fun r σ1 h => wX12_budget h) ?_
  clear h; intro t6 σ h
  refine r_icmp_eq (tgt := 1693) hX dL_law_1342 (by decide) h ?_ ?_
  · clear h; intro h
    refine r_sub [0, 1, 2, 3] rfl ?_
    exact wL_law_1693 hX hro hLw hLe k18 hk18 h
  · clear h; intro h
    exact absurd (show (none : Option (Unit × kdM)) = some (r, σ1) from h) (by simp)
def L_law_1347 (G : kdS) (xs : Nat → Int32) (N : Nat) (k18 : Nat → Nat → Int32 → kdM → Option (Unit × kdM)) (l1 : Nat) (l2 : Nat) (l3 : Int32) : kdM → Option (Unit × kdM) :=
  scd xs N ((l3 + (1 : Int32))) fun t1 =>
  kcv G 11 l1 (X11_seed G l1 t1) fun t2 =>
  scd xs N ((l3 + (1 : Int32))) fun t3 =>
  kcv G 12 l2 (X12_seed G l2 t3) fun t4 =>
  cnd (t2 = t4)
    (L_law_1693 G xs N k18 l1 l2 l3)
    (fun _ => none)
set_option maxRecDepth 100000 in
set_option maxHeartbeats 4000000 in
theorem wL_law_1347 {E : kdE} {G : kdS} {A : kdA} {z : Nat × Nat} {b N : Nat} {xs : Nat → Int32} {r : Unit} {σ1 : kdM} (hX : kdX E A cL_law 4 RL (some .boolean) 20) (hro : kdRO A z.1 z.2) (hLw : kdLw E A b N xs) (hLe : kdLe A b z) (k18 : Nat → Nat → Int32 → kdM → Option (Unit × kdM)) (hk18 : ∀ (l1 l2 : Nat) (l3 : Int32) (σ : kdM), k18 l1 l2 l3 σ = some (r, σ1) → SW E G (.inr z) A 4 σ 18 [(0, .ref b), (1, kr E l1), (2, kr E l2), (3, .int l3)] []) {l1 : Nat} {l2 : Nat} {l3 : Int32} {σ : kdM} (h : L_law_1347 G xs N k18 l1 l2 l3 σ = some (r, σ1)) : SW E G (.inr z) A 4 σ 1347 [(0, .ref b), (1, kr E l1), (2, kr E l2), (3, .int l3)] [] := by
  unfold L_law_1347 at h
  refine r_aload_n hX dL_law_1347 rfl 1 rfl ?_
  refine r_sload hX dL_law_1348 rfl 0 rfl ?_
  refine r_iload_n hX dL_law_1349 rfl 3 rfl ?_
  refine r_iconst hX dL_law_1350 kk_i_1 ?_
  refine r_iadd hX dL_law_1351 ?_
  refine r_sc hX hLw dL_law_1352 h ?_
  clear h; intro t1 h
  refine r_cVi (As := [.int t1]) (st := []) hX dL_law_1353 kl_X11_seed w_ml_L_158 w_im_X11_seed w_se_X11_seed ⟨_, _, rfl⟩ (by decide) rfl (Nat.le_of_ble_eq_true rfl) rfl hro h (fun r σ1 h => wX11_seed h) ?_
  clear h; intro t2 σ h
  refine r_aload_n hX dL_law_1356 rfl 2 rfl ?_
  refine r_sload hX dL_law_1357 rfl 0 rfl ?_
  refine r_iload_n hX dL_law_1358 rfl 3 rfl ?_
  refine r_iconst hX dL_law_1359 kk_i_1 ?_
  refine r_iadd hX dL_law_1360 ?_
  refine r_sc hX hLw dL_law_1361 h ?_
  clear h; intro t3 h
  refine r_cVi (As := [.int t3]) (st := [.int t2]) hX dL_law_1362 kl_X12_seed w_ml_L_161 w_im_X12_seed w_se_X12_seed ⟨_, _, rfl⟩ (by decide) rfl (Nat.le_of_ble_eq_true rfl) rfl hro h (fun r σ1 h => wX12_seed h) ?_
  clear h; intro t4 σ h
  refine r_icmp_eq (tgt := 1693) hX dL_law_1365 (by decide) h ?_ ?_
  · clear h; intro h
    refine r_sub [0, 1, 2, 3] rfl ?_
    exact wL_law_1693 hX hro hLw hLe k18 hk18 h
  · clear h; intro h
    exact absurd (show (none : Option (Unit × kdM)) = some (r, σ1) from h) (by simp)
def L_law_1370 (G : kdS) (xs : Nat → Int32) (N : Nat) (k18 : Nat → Nat → Int32 → kdM → Option (Unit × kdM)) (l1 : Nat) (l2 : Nat) (l3 : Int32) : kdM → Option (Unit × kdM) :=
  scd xs N ((l3 + (1 : Int32))) fun t1 =>
  scd xs N ((l3 + (2 : Int32))) fun t2 =>
  scd xs N ((l3 + (3 : Int32))) fun t3 =>
  kcv G 11 l1 (X11_share G l1 t1 t2 t3) fun t4 =>
  scd xs N ((l3 + (1 : Int32))) fun t5 =>
  scd xs N ((l3 + (2 : Int32))) fun t6 =>
  scd xs N ((l3 + (3 : Int32))) fun t7 =>
  kcv G 12 l2 (X12_share G l2 t5 t6 t7) fun t8 =>
  cnd (t4 = t8)
    (L_law_1693 G xs N k18 l1 l2 l3)
    (fun _ => none)
set_option maxRecDepth 100000 in
set_option maxHeartbeats 4000000 in
theorem wL_law_1370 {E : kdE} {G : kdS} {A : kdA} {z : Nat × Nat} {b N : Nat} {xs : Nat → Int32} {r : Unit} {σ1 : kdM} (hX : kdX E A cL_law 4 RL (some .boolean) 20) (hro : kdRO A z.1 z.2) (hLw : kdLw E A b N xs) (hLe : kdLe A b z) (k18 : Nat → Nat → Int32 → kdM → Option (Unit × kdM)) (hk18 : ∀ (l1 l2 : Nat) (l3 : Int32) (σ : kdM), k18 l1 l2 l3 σ = some (r, σ1) → SW E G (.inr z) A 4 σ 18 [(0, .ref b), (1, kr E l1), (2, kr E l2), (3, .int l3)] []) {l1 : Nat} {l2 : Nat} {l3 : Int32} {σ : kdM} (h : L_law_1370 G xs N k18 l1 l2 l3 σ = some (r, σ1)) : SW E G (.inr z) A 4 σ 1370 [(0, .ref b), (1, kr E l1), (2, kr E l2), (3, .int l3)] [] := by
  unfold L_law_1370 at h
  refine r_aload_n hX dL_law_1370 rfl 1 rfl ?_
  refine r_sload hX dL_law_1371 rfl 0 rfl ?_
  refine r_iload_n hX dL_law_1372 rfl 3 rfl ?_
  refine r_iconst hX dL_law_1373 kk_i_1 ?_
  refine r_iadd hX dL_law_1374 ?_
  refine r_sc hX hLw dL_law_1375 h ?_
  clear h; intro t1 h
  refine r_sload hX dL_law_1376 rfl 0 rfl ?_
  refine r_iload_n hX dL_law_1377 rfl 3 rfl ?_
  refine r_iconst hX dL_law_1378 kk_i_2 ?_
  refine r_iadd hX dL_law_1379 ?_
  refine r_sc hX hLw dL_law_1380 h ?_
  clear h; intro t2 h
  refine r_sload hX dL_law_1381 rfl 0 rfl ?_
  refine r_iload_n hX dL_law_1382 rfl 3 rfl ?_
  refine r_iconst hX dL_law_1383 kk_i_3 ?_
  refine r_iadd hX dL_law_1384 ?_
  refine r_sc hX hLw dL_law_1385 h ?_
  clear h; intro t3 h
  refine r_cVi (As := [.int t1, .int t2, .int t3]) (st := []) hX dL_law_1386 kl_X11_share w_ml_L_162 w_im_X11_share w_se_X11_share ⟨_, _, rfl⟩ (by decide) rfl (Nat.le_of_ble_eq_true rfl) rfl hro h (fun r σ1 h => wX11_share h) ?_
  clear h; intro t4 σ h
  refine r_aload_n hX dL_law_1389 rfl 2 rfl ?_
  refine r_sload hX dL_law_1390 rfl 0 rfl ?_
  refine r_iload_n hX dL_law_1391 rfl 3 rfl ?_
  refine r_iconst hX dL_law_1392 kk_i_1 ?_
  refine r_iadd hX dL_law_1393 ?_
  refine r_sc hX hLw dL_law_1394 h ?_
  clear h; intro t5 h
  refine r_sload hX dL_law_1395 rfl 0 rfl ?_
  refine r_iload_n hX dL_law_1396 rfl 3 rfl ?_
  refine r_iconst hX dL_law_1397 kk_i_2 ?_
  refine r_iadd hX dL_law_1398 ?_
  refine r_sc hX hLw dL_law_1399 h ?_
  clear h; intro t6 h
  refine r_sload hX dL_law_1400 rfl 0 rfl ?_
  refine r_iload_n hX dL_law_1401 rfl 3 rfl ?_
  refine r_iconst hX dL_law_1402 kk_i_3 ?_
  refine r_iadd hX dL_law_1403 ?_
  refine r_sc hX hLw dL_law_1404 h ?_
  clear h; intro t7 h
  refine r_cVi (As := [.int t5, .int t6, .int t7]) (st := [.int t4]) hX dL_law_1405 kl_X12_share w_ml_L_165 w_im_X12_share w_se_X12_share ⟨_, _, rfl⟩ (by decide) rfl (Nat.le_of_ble_eq_true rfl) rfl hro h (fun r σ1 h => wX12_share h) ?_
  clear h; intro t8 σ h
  refine r_icmp_eq (tgt := 1693) hX dL_law_1408 (by decide) h ?_ ?_
  · clear h; intro h
    refine r_sub [0, 1, 2, 3] rfl ?_
    exact wL_law_1693 hX hro hLw hLe k18 hk18 h
  · clear h; intro h
    exact absurd (show (none : Option (Unit × kdM)) = some (r, σ1) from h) (by simp)
def L_law_1413 (G : kdS) (xs : Nat → Int32) (N : Nat) (k18 : Nat → Nat → Int32 → kdM → Option (Unit × kdM)) (l1 : Nat) (l2 : Nat) (l3 : Int32) : kdM → Option (Unit × kdM) :=
  scd xs N ((l3 + (1 : Int32))) fun t1 =>
  kcv G 11 l1 (X11_symbols G l1 t1) fun t2 =>
  scd xs N ((l3 + (1 : Int32))) fun t3 =>
  kcv G 12 l2 (X12_symbols G l2 t3) fun t4 =>
  cnd (t2 = t4)
    (L_law_1693 G xs N k18 l1 l2 l3)
    (fun _ => none)
set_option maxRecDepth 100000 in
set_option maxHeartbeats 4000000 in
theorem wL_law_1413 {E : kdE} {G : kdS} {A : kdA} {z : Nat × Nat} {b N : Nat} {xs : Nat → Int32} {r : Unit} {σ1 : kdM} (hX : kdX E A cL_law 4 RL (some .boolean) 20) (hro : kdRO A z.1 z.2) (hLw : kdLw E A b N xs) (hLe : kdLe A b z) (k18 : Nat → Nat → Int32 → kdM → Option (Unit × kdM)) (hk18 : ∀ (l1 l2 : Nat) (l3 : Int32) (σ : kdM), k18 l1 l2 l3 σ = some (r, σ1) → SW E G (.inr z) A 4 σ 18 [(0, .ref b), (1, kr E l1), (2, kr E l2), (3, .int l3)] []) {l1 : Nat} {l2 : Nat} {l3 : Int32} {σ : kdM} (h : L_law_1413 G xs N k18 l1 l2 l3 σ = some (r, σ1)) : SW E G (.inr z) A 4 σ 1413 [(0, .ref b), (1, kr E l1), (2, kr E l2), (3, .int l3)] [] := by
  unfold L_law_1413 at h
  refine r_aload_n hX dL_law_1413 rfl 1 rfl ?_
  refine r_sload hX dL_law_1414 rfl 0 rfl ?_
  refine r_iload_n hX dL_law_1415 rfl 3 rfl ?_
  refine r_iconst hX dL_law_1416 kk_i_1 ?_
  refine r_iadd hX dL_law_1417 ?_
  refine r_sc hX hLw dL_law_1418 h ?_
  clear h; intro t1 h
  refine r_cVi (As := [.int t1]) (st := []) hX dL_law_1419 kl_X11_symbols w_ml_L_166 w_im_X11_symbols w_se_X11_symbols ⟨_, _, rfl⟩ (by decide) rfl (Nat.le_of_ble_eq_true rfl) rfl hro h (fun r σ1 h => wX11_symbols h) ?_
  clear h; intro t2 σ h
  refine r_aload_n hX dL_law_1422 rfl 2 rfl ?_
  refine r_sload hX dL_law_1423 rfl 0 rfl ?_
  refine r_iload_n hX dL_law_1424 rfl 3 rfl ?_
  refine r_iconst hX dL_law_1425 kk_i_1 ?_
  refine r_iadd hX dL_law_1426 ?_
  refine r_sc hX hLw dL_law_1427 h ?_
  clear h; intro t3 h
  refine r_cVi (As := [.int t3]) (st := [.int t2]) hX dL_law_1428 kl_X12_symbols w_ml_L_169 w_im_X12_symbols w_se_X12_symbols ⟨_, _, rfl⟩ (by decide) rfl (Nat.le_of_ble_eq_true rfl) rfl hro h (fun r σ1 h => wX12_symbols h) ?_
  clear h; intro t4 σ h
  refine r_icmp_eq (tgt := 1693) hX dL_law_1431 (by decide) h ?_ ?_
  · clear h; intro h
    refine r_sub [0, 1, 2, 3] rfl ?_
    exact wL_law_1693 hX hro hLw hLe k18 hk18 h
  · clear h; intro h
    exact absurd (show (none : Option (Unit × kdM)) = some (r, σ1) from h) (by simp)
def L_law_1436 (G : kdS) (xs : Nat → Int32) (N : Nat) (k18 : Nat → Nat → Int32 → kdM → Option (Unit × kdM)) (l1 : Nat) (l2 : Nat) (l3 : Int32) : kdM → Option (Unit × kdM) :=
  scd xs N ((l3 + (1 : Int32))) fun t1 =>
  scd xs N ((l3 + (2 : Int32))) fun t2 =>
  scd xs N ((l3 + (3 : Int32))) fun t3 =>
  kcv G 11 l1 (X11_set G l1 t1 t2 t3) fun t4 =>
  scd xs N ((l3 + (1 : Int32))) fun t5 =>
  scd xs N ((l3 + (2 : Int32))) fun t6 =>
  scd xs N ((l3 + (3 : Int32))) fun t7 =>
  kcv G 12 l2 (X12_set G l2 t5 t6 t7) fun t8 =>
  cnd (t4 = t8)
    (L_law_1693 G xs N k18 l1 l2 l3)
    (fun _ => none)
set_option maxRecDepth 100000 in
set_option maxHeartbeats 4000000 in
theorem wL_law_1436 {E : kdE} {G : kdS} {A : kdA} {z : Nat × Nat} {b N : Nat} {xs : Nat → Int32} {r : Unit} {σ1 : kdM} (hX : kdX E A cL_law 4 RL (some .boolean) 20) (hro : kdRO A z.1 z.2) (hLw : kdLw E A b N xs) (hLe : kdLe A b z) (k18 : Nat → Nat → Int32 → kdM → Option (Unit × kdM)) (hk18 : ∀ (l1 l2 : Nat) (l3 : Int32) (σ : kdM), k18 l1 l2 l3 σ = some (r, σ1) → SW E G (.inr z) A 4 σ 18 [(0, .ref b), (1, kr E l1), (2, kr E l2), (3, .int l3)] []) {l1 : Nat} {l2 : Nat} {l3 : Int32} {σ : kdM} (h : L_law_1436 G xs N k18 l1 l2 l3 σ = some (r, σ1)) : SW E G (.inr z) A 4 σ 1436 [(0, .ref b), (1, kr E l1), (2, kr E l2), (3, .int l3)] [] := by
  unfold L_law_1436 at h
  refine r_aload_n hX dL_law_1436 rfl 1 rfl ?_
  refine r_sload hX dL_law_1437 rfl 0 rfl ?_
  refine r_iload_n hX dL_law_1438 rfl 3 rfl ?_
  refine r_iconst hX dL_law_1439 kk_i_1 ?_
  refine r_iadd hX dL_law_1440 ?_
  refine r_sc hX hLw dL_law_1441 h ?_
  clear h; intro t1 h
  refine r_sload hX dL_law_1442 rfl 0 rfl ?_
  refine r_iload_n hX dL_law_1443 rfl 3 rfl ?_
  refine r_iconst hX dL_law_1444 kk_i_2 ?_
  refine r_iadd hX dL_law_1445 ?_
  refine r_sc hX hLw dL_law_1446 h ?_
  clear h; intro t2 h
  refine r_sload hX dL_law_1447 rfl 0 rfl ?_
  refine r_iload_n hX dL_law_1448 rfl 3 rfl ?_
  refine r_iconst hX dL_law_1449 kk_i_3 ?_
  refine r_iadd hX dL_law_1450 ?_
  refine r_sc hX hLw dL_law_1451 h ?_
  clear h; intro t3 h
  refine r_cVi (As := [.int t1, .int t2, .int t3]) (st := []) hX dL_law_1452 kl_X11_set w_ml_L_170 w_im_X11_set w_se_X11_set ⟨_, _, rfl⟩ (by decide) rfl (Nat.le_of_ble_eq_true rfl) rfl hro h (fun r σ1 h => wX11_set h) ?_
  clear h; intro t4 σ h
  refine r_aload_n hX dL_law_1455 rfl 2 rfl ?_
  refine r_sload hX dL_law_1456 rfl 0 rfl ?_
  refine r_iload_n hX dL_law_1457 rfl 3 rfl ?_
  refine r_iconst hX dL_law_1458 kk_i_1 ?_
  refine r_iadd hX dL_law_1459 ?_
  refine r_sc hX hLw dL_law_1460 h ?_
  clear h; intro t5 h
  refine r_sload hX dL_law_1461 rfl 0 rfl ?_
  refine r_iload_n hX dL_law_1462 rfl 3 rfl ?_
  refine r_iconst hX dL_law_1463 kk_i_2 ?_
  refine r_iadd hX dL_law_1464 ?_
  refine r_sc hX hLw dL_law_1465 h ?_
  clear h; intro t6 h
  refine r_sload hX dL_law_1466 rfl 0 rfl ?_
  refine r_iload_n hX dL_law_1467 rfl 3 rfl ?_
  refine r_iconst hX dL_law_1468 kk_i_3 ?_
  refine r_iadd hX dL_law_1469 ?_
  refine r_sc hX hLw dL_law_1470 h ?_
  clear h; intro t7 h
  refine r_cVi (As := [.int t5, .int t6, .int t7]) (st := [.int t4]) hX dL_law_1471 kl_X12_set w_ml_L_173 w_im_X12_set w_se_X12_set ⟨_, _, rfl⟩ (by decide) rfl (Nat.le_of_ble_eq_true rfl) rfl hro h (fun r σ1 h => wX12_set h) ?_
  clear h; intro t8 σ h
  refine r_icmp_eq (tgt := 1693) hX dL_law_1474 (by decide) h ?_ ?_
  · clear h; intro h
    refine r_sub [0, 1, 2, 3] rfl ?_
    exact wL_law_1693 hX hro hLw hLe k18 hk18 h
  · clear h; intro h
    exact absurd (show (none : Option (Unit × kdM)) = some (r, σ1) from h) (by simp)
def L_law_1479 (G : kdS) (xs : Nat → Int32) (N : Nat) (k18 : Nat → Nat → Int32 → kdM → Option (Unit × kdM)) (l1 : Nat) (l2 : Nat) (l3 : Int32) : kdM → Option (Unit × kdM) :=
  scd xs N ((l3 + (1 : Int32))) fun t1 =>
  scd xs N ((l3 + (2 : Int32))) fun t2 =>
  scd xs N ((l3 + (3 : Int32))) fun t3 =>
  kcv G 11 l1 (X11_pair G l1 t1 t2 t3) fun t4 =>
  scd xs N ((l3 + (1 : Int32))) fun t5 =>
  scd xs N ((l3 + (2 : Int32))) fun t6 =>
  scd xs N ((l3 + (3 : Int32))) fun t7 =>
  kcv G 12 l2 (X12_pair G l2 t5 t6 t7) fun t8 =>
  cnd (t4 = t8)
    (L_law_1693 G xs N k18 l1 l2 l3)
    (fun _ => none)
set_option maxRecDepth 100000 in
set_option maxHeartbeats 4000000 in
theorem wL_law_1479 {E : kdE} {G : kdS} {A : kdA} {z : Nat × Nat} {b N : Nat} {xs : Nat → Int32} {r : Unit} {σ1 : kdM} (hX : kdX E A cL_law 4 RL (some .boolean) 20) (hro : kdRO A z.1 z.2) (hLw : kdLw E A b N xs) (hLe : kdLe A b z) (k18 : Nat → Nat → Int32 → kdM → Option (Unit × kdM)) (hk18 : ∀ (l1 l2 : Nat) (l3 : Int32) (σ : kdM), k18 l1 l2 l3 σ = some (r, σ1) → SW E G (.inr z) A 4 σ 18 [(0, .ref b), (1, kr E l1), (2, kr E l2), (3, .int l3)] []) {l1 : Nat} {l2 : Nat} {l3 : Int32} {σ : kdM} (h : L_law_1479 G xs N k18 l1 l2 l3 σ = some (r, σ1)) : SW E G (.inr z) A 4 σ 1479 [(0, .ref b), (1, kr E l1), (2, kr E l2), (3, .int l3)] [] := by
  unfold L_law_1479 at h
  refine r_aload_n hX dL_law_1479 rfl 1 rfl ?_
  refine r_sload hX dL_law_1480 rfl 0 rfl ?_
  refine r_iload_n hX dL_law_1481 rfl 3 rfl ?_
  refine r_iconst hX dL_law_1482 kk_i_1 ?_
  refine r_iadd hX dL_law_1483 ?_
  refine r_sc hX hLw dL_law_1484 h ?_
  clear h; intro t1 h
  refine r_sload hX dL_law_1485 rfl 0 rfl ?_
  refine r_iload_n hX dL_law_1486 rfl 3 rfl ?_
  refine r_iconst hX dL_law_1487 kk_i_2 ?_
  refine r_iadd hX dL_law_1488 ?_
  refine r_sc hX hLw dL_law_1489 h ?_
  clear h; intro t2 h
  refine r_sload hX dL_law_1490 rfl 0 rfl ?_
  refine r_iload_n hX dL_law_1491 rfl 3 rfl ?_
  refine r_iconst hX dL_law_1492 kk_i_3 ?_
  refine r_iadd hX dL_law_1493 ?_
  refine r_sc hX hLw dL_law_1494 h ?_
  clear h; intro t3 h
  refine r_cVi (As := [.int t1, .int t2, .int t3]) (st := []) hX dL_law_1495 kl_X11_pair w_ml_L_174 w_im_X11_pair w_se_X11_pair ⟨_, _, rfl⟩ (by decide) rfl (Nat.le_of_ble_eq_true rfl) rfl hro h (fun r σ1 h => wX11_pair h) ?_
  clear h; intro t4 σ h
  refine r_aload_n hX dL_law_1498 rfl 2 rfl ?_
  refine r_sload hX dL_law_1499 rfl 0 rfl ?_
  refine r_iload_n hX dL_law_1500 rfl 3 rfl ?_
  refine r_iconst hX dL_law_1501 kk_i_1 ?_
  refine r_iadd hX dL_law_1502 ?_
  refine r_sc hX hLw dL_law_1503 h ?_
  clear h; intro t5 h
  refine r_sload hX dL_law_1504 rfl 0 rfl ?_
  refine r_iload_n hX dL_law_1505 rfl 3 rfl ?_
  refine r_iconst hX dL_law_1506 kk_i_2 ?_
  refine r_iadd hX dL_law_1507 ?_
  refine r_sc hX hLw dL_law_1508 h ?_
  clear h; intro t6 h
  refine r_sload hX dL_law_1509 rfl 0 rfl ?_
  refine r_iload_n hX dL_law_1510 rfl 3 rfl ?_
  refine r_iconst hX dL_law_1511 kk_i_3 ?_
  refine r_iadd hX dL_law_1512 ?_
  refine r_sc hX hLw dL_law_1513 h ?_
  clear h; intro t7 h
  refine r_cVi (As := [.int t5, .int t6, .int t7]) (st := [.int t4]) hX dL_law_1514 kl_X12_pair w_ml_L_177 w_im_X12_pair w_se_X12_pair ⟨_, _, rfl⟩ (by decide) rfl (Nat.le_of_ble_eq_true rfl) rfl hro h (fun r σ1 h => wX12_pair h) ?_
  clear h; intro t8 σ h
  refine r_icmp_eq (tgt := 1693) hX dL_law_1517 (by decide) h ?_ ?_
  · clear h; intro h
    refine r_sub [0, 1, 2, 3] rfl ?_
    exact wL_law_1693 hX hro hLw hLe k18 hk18 h
  · clear h; intro h
    exact absurd (show (none : Option (Unit × kdM)) = some (r, σ1) from h) (by simp)
def L_law_1522 (G : kdS) (xs : Nat → Int32) (N : Nat) (k18 : Nat → Nat → Int32 → kdM → Option (Unit × kdM)) (l1 : Nat) (l2 : Nat) (l3 : Int32) : kdM → Option (Unit × kdM) :=
  scd xs N ((l3 + (1 : Int32))) fun t1 =>
  kcv G 11 l1 (X11_same G l1 t1) fun t2 =>
  scd xs N ((l3 + (1 : Int32))) fun t3 =>
  kcv G 12 l2 (X12_same G l2 t3) fun t4 =>
  cnd (t2 = t4)
    (L_law_1693 G xs N k18 l1 l2 l3)
    (fun _ => none)
set_option maxRecDepth 100000 in
set_option maxHeartbeats 4000000 in
theorem wL_law_1522 {E : kdE} {G : kdS} {A : kdA} {z : Nat × Nat} {b N : Nat} {xs : Nat → Int32} {r : Unit} {σ1 : kdM} (hX : kdX E A cL_law 4 RL (some .boolean) 20) (hro : kdRO A z.1 z.2) (hLw : kdLw E A b N xs) (hLe : kdLe A b z) (k18 : Nat → Nat → Int32 → kdM → Option (Unit × kdM)) (hk18 : ∀ (l1 l2 : Nat) (l3 : Int32) (σ : kdM), k18 l1 l2 l3 σ = some (r, σ1) → SW E G (.inr z) A 4 σ 18 [(0, .ref b), (1, kr E l1), (2, kr E l2), (3, .int l3)] []) {l1 : Nat} {l2 : Nat} {l3 : Int32} {σ : kdM} (h : L_law_1522 G xs N k18 l1 l2 l3 σ = some (r, σ1)) : SW E G (.inr z) A 4 σ 1522 [(0, .ref b), (1, kr E l1), (2, kr E l2), (3, .int l3)] [] := by
  unfold L_law_1522 at h
  refine r_aload_n hX dL_law_1522 rfl 1 rfl ?_
  refine r_sload hX dL_law_1523 rfl 0 rfl ?_
  refine r_iload_n hX dL_law_1524 rfl 3 rfl ?_
  refine r_iconst hX dL_law_1525 kk_i_1 ?_
  refine r_iadd hX dL_law_1526 ?_
  refine r_sc hX hLw dL_law_1527 h ?_
  clear h; intro t1 h
  refine r_cVi (As := [.int t1]) (st := []) hX dL_law_1528 kl_X11_same w_ml_L_178 w_im_X11_same w_se_X11_same ⟨_, _, rfl⟩ (by decide) rfl (Nat.le_of_ble_eq_true rfl) rfl hro h (fun r σ1 h => wX11_same h) ?_
  clear h; intro t2 σ h
  refine r_aload_n hX dL_law_1531 rfl 2 rfl ?_
  refine r_sload hX dL_law_1532 rfl 0 rfl ?_
  refine r_iload_n hX dL_law_1533 rfl 3 rfl ?_
  refine r_iconst hX dL_law_1534 kk_i_1 ?_
  refine r_iadd hX dL_law_1535 ?_
  refine r_sc hX hLw dL_law_1536 h ?_
  clear h; intro t3 h
  refine r_cVi (As := [.int t3]) (st := [.int t2]) hX dL_law_1537 kl_X12_same w_ml_L_181 w_im_X12_same w_se_X12_same ⟨_, _, rfl⟩ (by decide) rfl (Nat.le_of_ble_eq_true rfl) rfl hro h (fun r σ1 h => wX12_same h) ?_
  clear h; intro t4 σ h
  refine r_icmp_eq (tgt := 1693) hX dL_law_1540 (by decide) h ?_ ?_
  · clear h; intro h
    refine r_sub [0, 1, 2, 3] rfl ?_
    exact wL_law_1693 hX hro hLw hLe k18 hk18 h
  · clear h; intro h
    exact absurd (show (none : Option (Unit × kdM)) = some (r, σ1) from h) (by simp)
def L_law_1545 (G : kdS) (xs : Nat → Int32) (N : Nat) (k18 : Nat → Nat → Int32 → kdM → Option (Unit × kdM)) (l1 : Nat) (l2 : Nat) (l3 : Int32) : kdM → Option (Unit × kdM) :=
  scd xs N ((l3 + (1 : Int32))) fun t1 =>
  kcv G 11 l1 (X11_cost G l1 t1) fun t2 =>
  scd xs N ((l3 + (1 : Int32))) fun t3 =>
  kcv G 12 l2 (X12_cost G l2 t3) fun t4 =>
  cnd (t2 = t4)
    (L_law_1693 G xs N k18 l1 l2 l3)
    (fun _ => none)
set_option maxRecDepth 100000 in
set_option maxHeartbeats 4000000 in
theorem wL_law_1545 {E : kdE} {G : kdS} {A : kdA} {z : Nat × Nat} {b N : Nat} {xs : Nat → Int32} {r : Unit} {σ1 : kdM} (hX : kdX E A cL_law 4 RL (some .boolean) 20) (hro : kdRO A z.1 z.2) (hLw : kdLw E A b N xs) (hLe : kdLe A b z) (k18 : Nat → Nat → Int32 → kdM → Option (Unit × kdM)) (hk18 : ∀ (l1 l2 : Nat) (l3 : Int32) (σ : kdM), k18 l1 l2 l3 σ = some (r, σ1) → SW E G (.inr z) A 4 σ 18 [(0, .ref b), (1, kr E l1), (2, kr E l2), (3, .int l3)] []) {l1 : Nat} {l2 : Nat} {l3 : Int32} {σ : kdM} (h : L_law_1545 G xs N k18 l1 l2 l3 σ = some (r, σ1)) : SW E G (.inr z) A 4 σ 1545 [(0, .ref b), (1, kr E l1), (2, kr E l2), (3, .int l3)] [] := by
  unfold L_law_1545 at h
  refine r_aload_n hX dL_law_1545 rfl 1 rfl ?_
  refine r_sload hX dL_law_1546 rfl 0 rfl ?_
  refine r_iload_n hX dL_law_1547 rfl 3 rfl ?_
  refine r_iconst hX dL_law_1548 kk_i_1 ?_
  refine r_iadd hX dL_law_1549 ?_
  refine r_sc hX hLw dL_law_1550 h ?_
  clear h; intro t1 h
  refine r_cVi (As := [.int t1]) (st := []) hX dL_law_1551 kl_X11_cost w_ml_L_182 w_im_X11_cost w_se_X11_cost ⟨_, _, rfl⟩ (by decide) rfl (Nat.le_of_ble_eq_true rfl) rfl hro h (fun r σ1 h => wX11_cost h) ?_
  clear h; intro t2 σ h
  refine r_aload_n hX dL_law_1554 rfl 2 rfl ?_
  refine r_sload hX dL_law_1555 rfl 0 rfl ?_
  refine r_iload_n hX dL_law_1556 rfl 3 rfl ?_
  refine r_iconst hX dL_law_1557 kk_i_1 ?_
  refine r_iadd hX dL_law_1558 ?_
  refine r_sc hX hLw dL_law_1559 h ?_
  clear h; intro t3 h
  refine r_cVi (As := [.int t3]) (st := [.int t2]) hX dL_law_1560 kl_X12_cost w_ml_L_185 w_im_X12_cost w_se_X12_cost ⟨_, _, rfl⟩ (by decide) rfl (Nat.le_of_ble_eq_true rfl) rfl hro h (fun r σ1 h => wX12_cost h) ?_
  clear h; intro t4 σ h
  refine r_icmp_eq (tgt := 1693) hX dL_law_1563 (by decide) h ?_ ?_
  · clear h; intro h
    refine r_sub [0, 1, 2, 3] rfl ?_
    exact wL_law_1693 hX hro hLw hLe k18 hk18 h
  · clear h; intro h
    exact absurd (show (none : Option (Unit × kdM)) = some (r, σ1) from h) (by simp)
def L_law_1568 (G : kdS) (xs : Nat → Int32) (N : Nat) (k18 : Nat → Nat → Int32 → kdM → Option (Unit × kdM)) (l1 : Nat) (l2 : Nat) (l3 : Int32) : kdM → Option (Unit × kdM) :=
  kcv G 11 l1 (X11_best G l1) fun t1 =>
  kcv G 12 l2 (X12_best G l2) fun t2 =>
  cnd (t1 = t2)
    (L_law_1693 G xs N k18 l1 l2 l3)
    (fun _ => none)
set_option maxRecDepth 100000 in
set_option maxHeartbeats 4000000 in
theorem wL_law_1568 {E : kdE} {G : kdS} {A : kdA} {z : Nat × Nat} {b N : Nat} {xs : Nat → Int32} {r : Unit} {σ1 : kdM} (hX : kdX E A cL_law 4 RL (some .boolean) 20) (hro : kdRO A z.1 z.2) (hLw : kdLw E A b N xs) (hLe : kdLe A b z) (k18 : Nat → Nat → Int32 → kdM → Option (Unit × kdM)) (hk18 : ∀ (l1 l2 : Nat) (l3 : Int32) (σ : kdM), k18 l1 l2 l3 σ = some (r, σ1) → SW E G (.inr z) A 4 σ 18 [(0, .ref b), (1, kr E l1), (2, kr E l2), (3, .int l3)] []) {l1 : Nat} {l2 : Nat} {l3 : Int32} {σ : kdM} (h : L_law_1568 G xs N k18 l1 l2 l3 σ = some (r, σ1)) : SW E G (.inr z) A 4 σ 1568 [(0, .ref b), (1, kr E l1), (2, kr E l2), (3, .int l3)] [] := by
  unfold L_law_1568 at h
  refine r_aload_n hX dL_law_1568 rfl 1 rfl ?_
  refine r_cVi (As := []) (st := []) hX dL_law_1569 kl_X11_best w_ml_L_186 w_im_X11_best w_se_X11_best ⟨_, _, rfl⟩ (by decide) rfl (Nat.le_of_ble_eq_true rfl) rfl hro h (fun r σ1 h => wX11_best h) ?_
  clear h; intro t1 σ h
  refine r_aload_n hX dL_law_1572 rfl 2 rfl ?_
  refine r_cVi (As := []) (st := [.int t1]) hX dL_law_1573 kl_X12_best w_ml_L_189 w_im_X12_best w_se_X12_best ⟨_, _, rfl⟩ (by decide) rfl (Nat.le_of_ble_eq_true rfl) rfl hro h (fun r σ1 h => wX12_best h) ?_
  clear h; intro t2 σ h
  refine r_icmp_eq (tgt := 1693) hX dL_law_1576 (by decide) h ?_ ?_
  · clear h; intro h
    refine r_sub [0, 1, 2, 3] rfl ?_
    exact wL_law_1693 hX hro hLw hLe k18 hk18 h
  · clear h; intro h
    exact absurd (show (none : Option (Unit × kdM)) = some (r, σ1) from h) (by simp)
def L_law_1581 (G : kdS) (xs : Nat → Int32) (N : Nat) (k18 : Nat → Nat → Int32 → kdM → Option (Unit × kdM)) (l1 : Nat) (l2 : Nat) (l3 : Int32) : kdM → Option (Unit × kdM) :=
  kcv G 11 l1 (X11_bound G l1) fun t1 =>
  kcv G 12 l2 (X12_bound G l2) fun t2 =>
  cnd (t1 = t2)
    (L_law_1693 G xs N k18 l1 l2 l3)
    (fun _ => none)
set_option maxRecDepth 100000 in
set_option maxHeartbeats 4000000 in
theorem wL_law_1581 {E : kdE} {G : kdS} {A : kdA} {z : Nat × Nat} {b N : Nat} {xs : Nat → Int32} {r : Unit} {σ1 : kdM} (hX : kdX E A cL_law 4 RL (some .boolean) 20) (hro : kdRO A z.1 z.2) (hLw : kdLw E A b N xs) (hLe : kdLe A b z) (k18 : Nat → Nat → Int32 → kdM → Option (Unit × kdM)) (hk18 : ∀ (l1 l2 : Nat) (l3 : Int32) (σ : kdM), k18 l1 l2 l3 σ = some (r, σ1) → SW E G (.inr z) A 4 σ 18 [(0, .ref b), (1, kr E l1), (2, kr E l2), (3, .int l3)] []) {l1 : Nat} {l2 : Nat} {l3 : Int32} {σ : kdM} (h : L_law_1581 G xs N k18 l1 l2 l3 σ = some (r, σ1)) : SW E G (.inr z) A 4 σ 1581 [(0, .ref b), (1, kr E l1), (2, kr E l2), (3, .int l3)] [] := by
  unfold L_law_1581 at h
  refine r_aload_n hX dL_law_1581 rfl 1 rfl ?_
  refine r_cVi (As := []) (st := []) hX dL_law_1582 kl_X11_bound w_ml_L_190 w_im_X11_bound w_se_X11_bound ⟨_, _, rfl⟩ (by decide) rfl (Nat.le_of_ble_eq_true rfl) rfl hro h (fun r σ1 h => wX11_bound h) ?_
  clear h; intro t1 σ h
  refine r_aload_n hX dL_law_1585 rfl 2 rfl ?_
  refine r_cVi (As := []) (st := [.int t1]) hX dL_law_1586 kl_X12_bound w_ml_L_193 w_im_X12_bound w_se_X12_bound ⟨_, _, rfl⟩ (by decide) rfl (Nat.le_of_ble_eq_true rfl) rfl hro h (fun r σ1 h => wX12_bound h) ?_
  clear h; intro t2 σ h
  refine r_icmp_eq (tgt := 1693) hX dL_law_1589 (by decide) h ?_ ?_
  · clear h; intro h
    refine r_sub [0, 1, 2, 3] rfl ?_
    exact wL_law_1693 hX hro hLw hLe k18 hk18 h
  · clear h; intro h
    exact absurd (show (none : Option (Unit × kdM)) = some (r, σ1) from h) (by simp)
def L_law_1594 (G : kdS) (xs : Nat → Int32) (N : Nat) (k18 : Nat → Nat → Int32 → kdM → Option (Unit × kdM)) (l1 : Nat) (l2 : Nat) (l3 : Int32) : kdM → Option (Unit × kdM) :=
  scd xs N ((l3 + (1 : Int32))) fun t1 =>
  scd xs N ((l3 + (2 : Int32))) fun t2 =>
  kcv G 11 l1 (X11_better G l1 t1 t2) fun t3 =>
  scd xs N ((l3 + (1 : Int32))) fun t4 =>
  scd xs N ((l3 + (2 : Int32))) fun t5 =>
  kcv G 12 l2 (X12_better G l2 t4 t5) fun t6 =>
  cnd (t3 = t6)
    (L_law_1693 G xs N k18 l1 l2 l3)
    (fun _ => none)
set_option maxRecDepth 100000 in
set_option maxHeartbeats 4000000 in
theorem wL_law_1594 {E : kdE} {G : kdS} {A : kdA} {z : Nat × Nat} {b N : Nat} {xs : Nat → Int32} {r : Unit} {σ1 : kdM} (hX : kdX E A cL_law 4 RL (some .boolean) 20) (hro : kdRO A z.1 z.2) (hLw : kdLw E A b N xs) (hLe : kdLe A b z) (k18 : Nat → Nat → Int32 → kdM → Option (Unit × kdM)) (hk18 : ∀ (l1 l2 : Nat) (l3 : Int32) (σ : kdM), k18 l1 l2 l3 σ = some (r, σ1) → SW E G (.inr z) A 4 σ 18 [(0, .ref b), (1, kr E l1), (2, kr E l2), (3, .int l3)] []) {l1 : Nat} {l2 : Nat} {l3 : Int32} {σ : kdM} (h : L_law_1594 G xs N k18 l1 l2 l3 σ = some (r, σ1)) : SW E G (.inr z) A 4 σ 1594 [(0, .ref b), (1, kr E l1), (2, kr E l2), (3, .int l3)] [] := by
  unfold L_law_1594 at h
  refine r_aload_n hX dL_law_1594 rfl 1 rfl ?_
  refine r_sload hX dL_law_1595 rfl 0 rfl ?_
  refine r_iload_n hX dL_law_1596 rfl 3 rfl ?_
  refine r_iconst hX dL_law_1597 kk_i_1 ?_
  refine r_iadd hX dL_law_1598 ?_
  refine r_sc hX hLw dL_law_1599 h ?_
  clear h; intro t1 h
  refine r_sload hX dL_law_1600 rfl 0 rfl ?_
  refine r_iload_n hX dL_law_1601 rfl 3 rfl ?_
  refine r_iconst hX dL_law_1602 kk_i_2 ?_
  refine r_iadd hX dL_law_1603 ?_
  refine r_sc hX hLw dL_law_1604 h ?_
  clear h; intro t2 h
  refine r_cVi (As := [.int t1, .int t2]) (st := []) hX dL_law_1605 kl_X11_better w_ml_L_194 w_im_X11_better w_se_X11_better ⟨_, _, rfl⟩ (by decide) rfl (Nat.le_of_ble_eq_true rfl) rfl hro h (fun r σ1 h => wX11_better h) ?_
  clear h; intro t3 σ h
  refine r_aload_n hX dL_law_1608 rfl 2 rfl ?_
  refine r_sload hX dL_law_1609 rfl 0 rfl ?_
  refine r_iload_n hX dL_law_1610 rfl 3 rfl ?_
  refine r_iconst hX dL_law_1611 kk_i_1 ?_
  refine r_iadd hX dL_law_1612 ?_
  refine r_sc hX hLw dL_law_1613 h ?_
  clear h; intro t4 h
  refine r_sload hX dL_law_1614 rfl 0 rfl ?_
  refine r_iload_n hX dL_law_1615 rfl 3 rfl ?_
  refine r_iconst hX dL_law_1616 kk_i_2 ?_
  refine r_iadd hX dL_law_1617 ?_
  refine r_sc hX hLw dL_law_1618 h ?_
  clear h; intro t5 h
  refine r_cVi (As := [.int t4, .int t5]) (st := [.int t3]) hX dL_law_1619 kl_X12_better w_ml_L_197 w_im_X12_better w_se_X12_better ⟨_, _, rfl⟩ (by decide) rfl (Nat.le_of_ble_eq_true rfl) rfl hro h (fun r σ1 h => wX12_better h) ?_
  clear h; intro t6 σ h
  refine r_icmp_eq (tgt := 1693) hX dL_law_1622 (by decide) h ?_ ?_
  · clear h; intro h
    refine r_sub [0, 1, 2, 3] rfl ?_
    exact wL_law_1693 hX hro hLw hLe k18 hk18 h
  · clear h; intro h
    exact absurd (show (none : Option (Unit × kdM)) = some (r, σ1) from h) (by simp)
def L_law_1627 (G : kdS) (xs : Nat → Int32) (N : Nat) (k18 : Nat → Nat → Int32 → kdM → Option (Unit × kdM)) (l1 : Nat) (l2 : Nat) (l3 : Int32) : kdM → Option (Unit × kdM) :=
  scd xs N ((l3 + (1 : Int32))) fun t1 =>
  scd xs N ((l3 + (2 : Int32))) fun t2 =>
  scd xs N ((l3 + (3 : Int32))) fun t3 =>
  kcv G 11 l1 (X11_way G l1 t1 t2 t3) fun t4 =>
  scd xs N ((l3 + (1 : Int32))) fun t5 =>
  scd xs N ((l3 + (2 : Int32))) fun t6 =>
  scd xs N ((l3 + (3 : Int32))) fun t7 =>
  kcv G 12 l2 (X12_way G l2 t5 t6 t7) fun t8 =>
  cnd (t4 = t8)
    (L_law_1693 G xs N k18 l1 l2 l3)
    (fun _ => none)
set_option maxRecDepth 100000 in
set_option maxHeartbeats 4000000 in
theorem wL_law_1627 {E : kdE} {G : kdS} {A : kdA} {z : Nat × Nat} {b N : Nat} {xs : Nat → Int32} {r : Unit} {σ1 : kdM} (hX : kdX E A cL_law 4 RL (some .boolean) 20) (hro : kdRO A z.1 z.2) (hLw : kdLw E A b N xs) (hLe : kdLe A b z) (k18 : Nat → Nat → Int32 → kdM → Option (Unit × kdM)) (hk18 : ∀ (l1 l2 : Nat) (l3 : Int32) (σ : kdM), k18 l1 l2 l3 σ = some (r, σ1) → SW E G (.inr z) A 4 σ 18 [(0, .ref b), (1, kr E l1), (2, kr E l2), (3, .int l3)] []) {l1 : Nat} {l2 : Nat} {l3 : Int32} {σ : kdM} (h : L_law_1627 G xs N k18 l1 l2 l3 σ = some (r, σ1)) : SW E G (.inr z) A 4 σ 1627 [(0, .ref b), (1, kr E l1), (2, kr E l2), (3, .int l3)] [] := by
  unfold L_law_1627 at h
  refine r_aload_n hX dL_law_1627 rfl 1 rfl ?_
  refine r_sload hX dL_law_1628 rfl 0 rfl ?_
  refine r_iload_n hX dL_law_1629 rfl 3 rfl ?_
  refine r_iconst hX dL_law_1630 kk_i_1 ?_
  refine r_iadd hX dL_law_1631 ?_
  refine r_sc hX hLw dL_law_1632 h ?_
  clear h; intro t1 h
  refine r_sload hX dL_law_1633 rfl 0 rfl ?_
  refine r_iload_n hX dL_law_1634 rfl 3 rfl ?_
  refine r_iconst hX dL_law_1635 kk_i_2 ?_
  refine r_iadd hX dL_law_1636 ?_
  refine r_sc hX hLw dL_law_1637 h ?_
  clear h; intro t2 h
  refine r_sload hX dL_law_1638 rfl 0 rfl ?_
  refine r_iload_n hX dL_law_1639 rfl 3 rfl ?_
  refine r_iconst hX dL_law_1640 kk_i_3 ?_
  refine r_iadd hX dL_law_1641 ?_
  refine r_sc hX hLw dL_law_1642 h ?_
  clear h; intro t3 h
  refine r_cVi (As := [.int t1, .int t2, .int t3]) (st := []) hX dL_law_1643 kl_X11_way w_ml_L_198 w_im_X11_way w_se_X11_way ⟨_, _, rfl⟩ (by decide) rfl (Nat.le_of_ble_eq_true rfl) rfl hro h (fun r σ1 h => wX11_way h) ?_
  clear h; intro t4 σ h
  refine r_aload_n hX dL_law_1646 rfl 2 rfl ?_
  refine r_sload hX dL_law_1647 rfl 0 rfl ?_
  refine r_iload_n hX dL_law_1648 rfl 3 rfl ?_
  refine r_iconst hX dL_law_1649 kk_i_1 ?_
  refine r_iadd hX dL_law_1650 ?_
  refine r_sc hX hLw dL_law_1651 h ?_
  clear h; intro t5 h
  refine r_sload hX dL_law_1652 rfl 0 rfl ?_
  refine r_iload_n hX dL_law_1653 rfl 3 rfl ?_
  refine r_iconst hX dL_law_1654 kk_i_2 ?_
  refine r_iadd hX dL_law_1655 ?_
  refine r_sc hX hLw dL_law_1656 h ?_
  clear h; intro t6 h
  refine r_sload hX dL_law_1657 rfl 0 rfl ?_
  refine r_iload_n hX dL_law_1658 rfl 3 rfl ?_
  refine r_iconst hX dL_law_1659 kk_i_3 ?_
  refine r_iadd hX dL_law_1660 ?_
  refine r_sc hX hLw dL_law_1661 h ?_
  clear h; intro t7 h
  refine r_cVi (As := [.int t5, .int t6, .int t7]) (st := [.int t4]) hX dL_law_1662 kl_X12_way w_ml_L_201 w_im_X12_way w_se_X12_way ⟨_, _, rfl⟩ (by decide) rfl (Nat.le_of_ble_eq_true rfl) rfl hro h (fun r σ1 h => wX12_way h) ?_
  clear h; intro t8 σ h
  refine r_icmp_eq (tgt := 1693) hX dL_law_1665 (by decide) h ?_ ?_
  · clear h; intro h
    refine r_sub [0, 1, 2, 3] rfl ?_
    exact wL_law_1693 hX hro hLw hLe k18 hk18 h
  · clear h; intro h
    exact absurd (show (none : Option (Unit × kdM)) = some (r, σ1) from h) (by simp)
def L_law_1670 (G : kdS) (xs : Nat → Int32) (N : Nat) (k18 : Nat → Nat → Int32 → kdM → Option (Unit × kdM)) (l1 : Nat) (l2 : Nat) (l3 : Int32) : kdM → Option (Unit × kdM) :=
  scd xs N ((l3 + (1 : Int32))) fun t1 =>
  kcv G 11 l1 (X11_told G l1 t1) fun t2 =>
  scd xs N ((l3 + (1 : Int32))) fun t3 =>
  kcv G 12 l2 (X12_told G l2 t3) fun t4 =>
  cnd (t2 = t4)
    (L_law_1693 G xs N k18 l1 l2 l3)
    (fun _ => none)
set_option maxRecDepth 100000 in
set_option maxHeartbeats 4000000 in
theorem wL_law_1670 {E : kdE} {G : kdS} {A : kdA} {z : Nat × Nat} {b N : Nat} {xs : Nat → Int32} {r : Unit} {σ1 : kdM} (hX : kdX E A cL_law 4 RL (some .boolean) 20) (hro : kdRO A z.1 z.2) (hLw : kdLw E A b N xs) (hLe : kdLe A b z) (k18 : Nat → Nat → Int32 → kdM → Option (Unit × kdM)) (hk18 : ∀ (l1 l2 : Nat) (l3 : Int32) (σ : kdM), k18 l1 l2 l3 σ = some (r, σ1) → SW E G (.inr z) A 4 σ 18 [(0, .ref b), (1, kr E l1), (2, kr E l2), (3, .int l3)] []) {l1 : Nat} {l2 : Nat} {l3 : Int32} {σ : kdM} (h : L_law_1670 G xs N k18 l1 l2 l3 σ = some (r, σ1)) : SW E G (.inr z) A 4 σ 1670 [(0, .ref b), (1, kr E l1), (2, kr E l2), (3, .int l3)] [] := by
  unfold L_law_1670 at h
  refine r_aload_n hX dL_law_1670 rfl 1 rfl ?_
  refine r_sload hX dL_law_1671 rfl 0 rfl ?_
  refine r_iload_n hX dL_law_1672 rfl 3 rfl ?_
  refine r_iconst hX dL_law_1673 kk_i_1 ?_
  refine r_iadd hX dL_law_1674 ?_
  refine r_sc hX hLw dL_law_1675 h ?_
  clear h; intro t1 h
  refine r_cVi (As := [.int t1]) (st := []) hX dL_law_1676 kl_X11_told w_ml_L_202 w_im_X11_told w_se_X11_told ⟨_, _, rfl⟩ (by decide) rfl (Nat.le_of_ble_eq_true rfl) rfl hro h (fun r σ1 h => wX11_told h) ?_
  clear h; intro t2 σ h
  refine r_aload_n hX dL_law_1679 rfl 2 rfl ?_
  refine r_sload hX dL_law_1680 rfl 0 rfl ?_
  refine r_iload_n hX dL_law_1681 rfl 3 rfl ?_
  refine r_iconst hX dL_law_1682 kk_i_1 ?_
  refine r_iadd hX dL_law_1683 ?_
  refine r_sc hX hLw dL_law_1684 h ?_
  clear h; intro t3 h
  refine r_cVi (As := [.int t3]) (st := [.int t2]) hX dL_law_1685 kl_X12_told w_ml_L_205 w_im_X12_told w_se_X12_told ⟨_, _, rfl⟩ (by decide) rfl (Nat.le_of_ble_eq_true rfl) rfl hro h (fun r σ1 h => wX12_told h) ?_
  clear h; intro t4 σ h
  refine r_icmp_eq (tgt := 1693) hX dL_law_1688 (by decide) h ?_ ?_
  · clear h; intro h
    refine r_sub [0, 1, 2, 3] rfl ?_
    exact wL_law_1693 hX hro hLw hLe k18 hk18 h
  · clear h; intro h
    exact absurd (show (none : Option (Unit × kdM)) = some (r, σ1) from h) (by simp)
def L_law_18B (G : kdS) (xs : Nat → Int32) (N : Nat) (k18 : Nat → Nat → Int32 → kdM → Option (Unit × kdM)) (l1 : Nat) (l2 : Nat) (l3 : Int32) : kdM → Option (Unit × kdM) :=
  cnd (((Int32.ofNat N) - (6 : Int32)) < l3)
    (rt ())
    (scd xs N (l3) fun t1 =>
    cnd ((t1 &&& (63 : Int32)) = (0 : Int32))
      (L_law_232 G xs N k18 l1 l2 l3)
      (cnd ((t1 &&& (63 : Int32)) = (1 : Int32))
        (L_law_255 G xs N k18 l1 l2 l3)
        (cnd ((t1 &&& (63 : Int32)) = (2 : Int32))
          (L_law_278 G xs N k18 l1 l2 l3)
          (cnd ((t1 &&& (63 : Int32)) = (3 : Int32))
            (L_law_301 G xs N k18 l1 l2 l3)
            (cnd ((t1 &&& (63 : Int32)) = (4 : Int32))
              (L_law_324 G xs N k18 l1 l2 l3)
              (cnd ((t1 &&& (63 : Int32)) = (5 : Int32))
                (L_law_377 G xs N k18 l1 l2 l3)
                (cnd ((t1 &&& (63 : Int32)) = (6 : Int32))
                  (L_law_436 G xs N k18 l1 l2 l3)
                  (cnd ((t1 &&& (63 : Int32)) = (7 : Int32))
                    (L_law_469 G xs N k18 l1 l2 l3)
                    (cnd ((t1 &&& (63 : Int32)) = (8 : Int32))
                      (L_law_502 G xs N k18 l1 l2 l3)
                      (cnd ((t1 &&& (63 : Int32)) = (9 : Int32))
                        (L_law_535 G xs N k18 l1 l2 l3)
                        (cnd ((t1 &&& (63 : Int32)) = (10 : Int32))
                          (L_law_558 G xs N k18 l1 l2 l3)
                          (cnd ((t1 &&& (63 : Int32)) = (11 : Int32))
                            (L_law_591 G xs N k18 l1 l2 l3)
                            (cnd ((t1 &&& (63 : Int32)) = (12 : Int32))
                              (L_law_624 G xs N k18 l1 l2 l3)
                              (cnd ((t1 &&& (63 : Int32)) = (13 : Int32))
                                (L_law_647 G xs N k18 l1 l2 l3)
                                (cnd ((t1 &&& (63 : Int32)) = (14 : Int32))
                                  (L_law_670 G xs N k18 l1 l2 l3)
                                  (cnd ((t1 &&& (63 : Int32)) = (15 : Int32))
                                    (L_law_693 G xs N k18 l1 l2 l3)
                                    (cnd ((t1 &&& (63 : Int32)) = (16 : Int32))
                                      (L_law_706 G xs N k18 l1 l2 l3)
                                      (cnd ((t1 &&& (63 : Int32)) = (17 : Int32))
                                        (L_law_749 G xs N k18 l1 l2 l3)
                                        (cnd ((t1 &&& (63 : Int32)) = (18 : Int32))
                                          (L_law_782 G xs N k18 l1 l2 l3)
                                          (cnd ((t1 &&& (63 : Int32)) = (19 : Int32))
                                            (L_law_815 G xs N k18 l1 l2 l3)
                                            (cnd ((t1 &&& (63 : Int32)) = (20 : Int32))
                                              (L_law_848 G xs N k18 l1 l2 l3)
                                              (cnd ((t1 &&& (63 : Int32)) = (21 : Int32))
                                                (L_law_871 G xs N k18 l1 l2 l3)
                                                (cnd ((t1 &&& (63 : Int32)) = (22 : Int32))
                                                  (L_law_914 G xs N k18 l1 l2 l3)
                                                  (cnd ((t1 &&& (63 : Int32)) = (23 : Int32))
                                                    (L_law_947 G xs N k18 l1 l2 l3)
                                                    (cnd ((t1 &&& (63 : Int32)) = (24 : Int32))
                                                      (L_law_980 G xs N k18 l1 l2 l3)
                                                      (cnd ((t1 &&& (63 : Int32)) = (25 : Int32))
                                                        (L_law_1023 G xs N k18 l1 l2 l3)
                                                        (cnd ((t1 &&& (63 : Int32)) = (26 : Int32))
                                                          (L_law_1072 G xs N k18 l1 l2 l3)
                                                          (cnd ((t1 &&& (63 : Int32)) = (27 : Int32))
                                                            (L_law_1095 G xs N k18 l1 l2 l3)
                                                            (cnd ((t1 &&& (63 : Int32)) = (28 : Int32))
                                                              (L_law_1109 G xs N k18 l1 l2 l3)
                                                              (cnd ((t1 &&& (63 : Int32)) = (29 : Int32))
                                                                (L_law_1152 G xs N k18 l1 l2 l3)
                                                                (cnd ((t1 &&& (63 : Int32)) = (30 : Int32))
                                                                  (L_law_1195 G xs N k18 l1 l2 l3)
                                                                  (cnd ((t1 &&& (63 : Int32)) = (31 : Int32))
                                                                    (L_law_1228 G xs N k18 l1 l2 l3)
                                                                    (cnd ((t1 &&& (63 : Int32)) = (32 : Int32))
                                                                      (L_law_1251 G xs N k18 l1 l2 l3)
                                                                      (cnd ((t1 &&& (63 : Int32)) = (33 : Int32))
                                                                        (L_law_1314 G xs N k18 l1 l2 l3)
                                                                        (cnd ((t1 &&& (63 : Int32)) = (34 : Int32))
                                                                          (L_law_1347 G xs N k18 l1 l2 l3)
                                                                          (cnd ((t1 &&& (63 : Int32)) = (35 : Int32))
                                                                            (L_law_1370 G xs N k18 l1 l2 l3)
                                                                            (cnd ((t1 &&& (63 : Int32)) = (36 : Int32))
                                                                              (L_law_1413 G xs N k18 l1 l2 l3)
                                                                              (cnd ((t1 &&& (63 : Int32)) = (37 : Int32))
                                                                                (L_law_1436 G xs N k18 l1 l2 l3)
                                                                                (cnd ((t1 &&& (63 : Int32)) = (38 : Int32))
                                                                                  (L_law_1479 G xs N k18 l1 l2 l3)
                                                                                  (cnd ((t1 &&& (63 : Int32)) = (39 : Int32))
                                                                                    (L_law_1522 G xs N k18 l1 l2 l3)
                                                                                    (cnd ((t1 &&& (63 : Int32)) = (40 : Int32))
                                                                                      (L_law_1545 G xs N k18 l1 l2 l3)
                                                                                      (cnd ((t1 &&& (63 : Int32)) = (41 : Int32))
                                                                                        (L_law_1568 G xs N k18 l1 l2 l3)
                                                                                        (cnd ((t1 &&& (63 : Int32)) = (42 : Int32))
                                                                                          (L_law_1581 G xs N k18 l1 l2 l3)
                                                                                          (cnd ((t1 &&& (63 : Int32)) = (43 : Int32))
                                                                                            (L_law_1594 G xs N k18 l1 l2 l3)
                                                                                            (cnd ((t1 &&& (63 : Int32)) = (44 : Int32))
                                                                                              (L_law_1627 G xs N k18 l1 l2 l3)
                                                                                              (cnd ((t1 &&& (63 : Int32)) = (45 : Int32))
                                                                                                (L_law_1670 G xs N k18 l1 l2 l3)
                                                                                                (L_law_1693 G xs N k18 l1 l2 l3)))))))))))))))))))))))))))))))))))))))))))))))
set_option maxRecDepth 100000 in
set_option maxHeartbeats 4000000 in
theorem wL_law_18B {E : kdE} {G : kdS} {A : kdA} {z : Nat × Nat} {b N : Nat} {xs : Nat → Int32} {r : Unit} {σ1 : kdM} (hX : kdX E A cL_law 4 RL (some .boolean) 20) (hro : kdRO A z.1 z.2) (hLw : kdLw E A b N xs) (hLe : kdLe A b z) (k18 : Nat → Nat → Int32 → kdM → Option (Unit × kdM)) (hk18 : ∀ (l1 l2 : Nat) (l3 : Int32) (σ : kdM), k18 l1 l2 l3 σ = some (r, σ1) → SW E G (.inr z) A 4 σ 18 [(0, .ref b), (1, kr E l1), (2, kr E l2), (3, .int l3)] []) {l1 : Nat} {l2 : Nat} {l3 : Int32} {σ : kdM} (h : L_law_18B G xs N k18 l1 l2 l3 σ = some (r, σ1)) : SW E G (.inr z) A 4 σ 18 [(0, .ref b), (1, kr E l1), (2, kr E l2), (3, .int l3)] [] := by
  unfold L_law_18B at h
  refine r_iload_n hX dL_law_18 rfl 3 rfl ?_
  refine r_sload hX dL_law_19 rfl 0 rfl ?_
  refine r_scn hX hLw dL_law_20 ?_
  refine r_bipush hX dL_law_21 kk_b_6 ?_
  refine r_isub hX dL_law_23 ?_
  refine r_icmp_gt (tgt := 1699) hX dL_law_24 (by decide) h ?_ ?_
  · clear h; intro h
    refine r_iconst hX dL_law_1699 kk_i_1 ?_
    exact r_lawend hX hLe hLw dL_law_1700
  · clear h; intro h
    refine r_sload hX dL_law_27 rfl 0 rfl ?_
    refine r_iload_n hX dL_law_28 rfl 3 rfl ?_
    refine r_sc hX hLw dL_law_29 h ?_
    clear h; intro t1 h
    refine r_bipush hX dL_law_30 kk_b_63 ?_
    refine r_iand hX dL_law_32 ?_
    refine r_case (q := (t1 &&& (63 : Int32)) = (0 : Int32)) h ?_ ?_
    · clear h; intro hq h
      refine r_tsIn (tgt := 232) (off := 199) (v := (0 : Int32)) hX dL_law_33 hq (by decide) (by decide) (by decide +kernel) (by decide) ?_
      clear hq
      refine r_sub [0, 1, 2, 3] rfl ?_
      exact wL_law_232 hX hro hLw hLe k18 hk18 h
    · clear h; intro hn0 h
      refine r_case (q := (t1 &&& (63 : Int32)) = (1 : Int32)) h ?_ ?_
      · clear h; intro hq h
        refine r_tsIn (tgt := 255) (off := 222) (v := (1 : Int32)) hX dL_law_33 hq (by decide) (by decide) (by decide +kernel) (by decide) ?_
        clear hq
        refine r_sub [0, 1, 2, 3] rfl ?_
        exact wL_law_255 hX hro hLw hLe k18 hk18 h
      · clear h; intro hn1 h
        refine r_case (q := (t1 &&& (63 : Int32)) = (2 : Int32)) h ?_ ?_
        · clear h; intro hq h
          refine r_tsIn (tgt := 278) (off := 245) (v := (2 : Int32)) hX dL_law_33 hq (by decide) (by decide) (by decide +kernel) (by decide) ?_
          clear hq
          refine r_sub [0, 1, 2, 3] rfl ?_
          exact wL_law_278 hX hro hLw hLe k18 hk18 h
        · clear h; intro hn2 h
          refine r_case (q := (t1 &&& (63 : Int32)) = (3 : Int32)) h ?_ ?_
          · clear h; intro hq h
            refine r_tsIn (tgt := 301) (off := 268) (v := (3 : Int32)) hX dL_law_33 hq (by decide) (by decide) (by decide +kernel) (by decide) ?_
            clear hq
            refine r_sub [0, 1, 2, 3] rfl ?_
            exact wL_law_301 hX hro hLw hLe k18 hk18 h
          · clear h; intro hn3 h
            refine r_case (q := (t1 &&& (63 : Int32)) = (4 : Int32)) h ?_ ?_
            · clear h; intro hq h
              refine r_tsIn (tgt := 324) (off := 291) (v := (4 : Int32)) hX dL_law_33 hq (by decide) (by decide) (by decide +kernel) (by decide) ?_
              clear hq
              refine r_sub [0, 1, 2, 3] rfl ?_
              exact wL_law_324 hX hro hLw hLe k18 hk18 h
            · clear h; intro hn4 h
              refine r_case (q := (t1 &&& (63 : Int32)) = (5 : Int32)) h ?_ ?_
              · clear h; intro hq h
                refine r_tsIn (tgt := 377) (off := 344) (v := (5 : Int32)) hX dL_law_33 hq (by decide) (by decide) (by decide +kernel) (by decide) ?_
                clear hq
                refine r_sub [0, 1, 2, 3] rfl ?_
                exact wL_law_377 hX hro hLw hLe k18 hk18 h
              · clear h; intro hn5 h
                refine r_case (q := (t1 &&& (63 : Int32)) = (6 : Int32)) h ?_ ?_
                · clear h; intro hq h
                  refine r_tsIn (tgt := 436) (off := 403) (v := (6 : Int32)) hX dL_law_33 hq (by decide) (by decide) (by decide +kernel) (by decide) ?_
                  clear hq
                  refine r_sub [0, 1, 2, 3] rfl ?_
                  exact wL_law_436 hX hro hLw hLe k18 hk18 h
                · clear h; intro hn6 h
                  refine r_case (q := (t1 &&& (63 : Int32)) = (7 : Int32)) h ?_ ?_
                  · clear h; intro hq h
                    refine r_tsIn (tgt := 469) (off := 436) (v := (7 : Int32)) hX dL_law_33 hq (by decide) (by decide) (by decide +kernel) (by decide) ?_
                    clear hq
                    refine r_sub [0, 1, 2, 3] rfl ?_
                    exact wL_law_469 hX hro hLw hLe k18 hk18 h
                  · clear h; intro hn7 h
                    refine r_case (q := (t1 &&& (63 : Int32)) = (8 : Int32)) h ?_ ?_
                    · clear h; intro hq h
                      refine r_tsIn (tgt := 502) (off := 469) (v := (8 : Int32)) hX dL_law_33 hq (by decide) (by decide) (by decide +kernel) (by decide) ?_
                      clear hq
                      refine r_sub [0, 1, 2, 3] rfl ?_
                      exact wL_law_502 hX hro hLw hLe k18 hk18 h
                    · clear h; intro hn8 h
                      refine r_case (q := (t1 &&& (63 : Int32)) = (9 : Int32)) h ?_ ?_
                      · clear h; intro hq h
                        refine r_tsIn (tgt := 535) (off := 502) (v := (9 : Int32)) hX dL_law_33 hq (by decide) (by decide) (by decide +kernel) (by decide) ?_
                        clear hq
                        refine r_sub [0, 1, 2, 3] rfl ?_
                        exact wL_law_535 hX hro hLw hLe k18 hk18 h
                      · clear h; intro hn9 h
                        refine r_case (q := (t1 &&& (63 : Int32)) = (10 : Int32)) h ?_ ?_
                        · clear h; intro hq h
                          refine r_tsIn (tgt := 558) (off := 525) (v := (10 : Int32)) hX dL_law_33 hq (by decide) (by decide) (by decide +kernel) (by decide) ?_
                          clear hq
                          refine r_sub [0, 1, 2, 3] rfl ?_
                          exact wL_law_558 hX hro hLw hLe k18 hk18 h
                        · clear h; intro hn10 h
                          refine r_case (q := (t1 &&& (63 : Int32)) = (11 : Int32)) h ?_ ?_
                          · clear h; intro hq h
                            refine r_tsIn (tgt := 591) (off := 558) (v := (11 : Int32)) hX dL_law_33 hq (by decide) (by decide) (by decide +kernel) (by decide) ?_
                            clear hq
                            refine r_sub [0, 1, 2, 3] rfl ?_
                            exact wL_law_591 hX hro hLw hLe k18 hk18 h
                          · clear h; intro hn11 h
                            refine r_case (q := (t1 &&& (63 : Int32)) = (12 : Int32)) h ?_ ?_
                            · clear h; intro hq h
                              refine r_tsIn (tgt := 624) (off := 591) (v := (12 : Int32)) hX dL_law_33 hq (by decide) (by decide) (by decide +kernel) (by decide) ?_
                              clear hq
                              refine r_sub [0, 1, 2, 3] rfl ?_
                              exact wL_law_624 hX hro hLw hLe k18 hk18 h
                            · clear h; intro hn12 h
                              refine r_case (q := (t1 &&& (63 : Int32)) = (13 : Int32)) h ?_ ?_
                              · clear h; intro hq h
                                refine r_tsIn (tgt := 647) (off := 614) (v := (13 : Int32)) hX dL_law_33 hq (by decide) (by decide) (by decide +kernel) (by decide) ?_
                                clear hq
                                refine r_sub [0, 1, 2, 3] rfl ?_
                                exact wL_law_647 hX hro hLw hLe k18 hk18 h
                              · clear h; intro hn13 h
                                refine r_case (q := (t1 &&& (63 : Int32)) = (14 : Int32)) h ?_ ?_
                                · clear h; intro hq h
                                  refine r_tsIn (tgt := 670) (off := 637) (v := (14 : Int32)) hX dL_law_33 hq (by decide) (by decide) (by decide +kernel) (by decide) ?_
                                  clear hq
                                  refine r_sub [0, 1, 2, 3] rfl ?_
                                  exact wL_law_670 hX hro hLw hLe k18 hk18 h
                                · clear h; intro hn14 h
                                  refine r_case (q := (t1 &&& (63 : Int32)) = (15 : Int32)) h ?_ ?_
                                  · clear h; intro hq h
                                    refine r_tsIn (tgt := 693) (off := 660) (v := (15 : Int32)) hX dL_law_33 hq (by decide) (by decide) (by decide +kernel) (by decide) ?_
                                    clear hq
                                    refine r_sub [0, 1, 2, 3] rfl ?_
                                    exact wL_law_693 hX hro hLw hLe k18 hk18 h
                                  · clear h; intro hn15 h
                                    refine r_case (q := (t1 &&& (63 : Int32)) = (16 : Int32)) h ?_ ?_
                                    · clear h; intro hq h
                                      refine r_tsIn (tgt := 706) (off := 673) (v := (16 : Int32)) hX dL_law_33 hq (by decide) (by decide) (by decide +kernel) (by decide) ?_
                                      clear hq
                                      refine r_sub [0, 1, 2, 3] rfl ?_
                                      exact wL_law_706 hX hro hLw hLe k18 hk18 h
                                    · clear h; intro hn16 h
                                      refine r_case (q := (t1 &&& (63 : Int32)) = (17 : Int32)) h ?_ ?_
                                      · clear h; intro hq h
                                        refine r_tsIn (tgt := 749) (off := 716) (v := (17 : Int32)) hX dL_law_33 hq (by decide) (by decide) (by decide +kernel) (by decide) ?_
                                        clear hq
                                        refine r_sub [0, 1, 2, 3] rfl ?_
                                        exact wL_law_749 hX hro hLw hLe k18 hk18 h
                                      · clear h; intro hn17 h
                                        refine r_case (q := (t1 &&& (63 : Int32)) = (18 : Int32)) h ?_ ?_
                                        · clear h; intro hq h
                                          refine r_tsIn (tgt := 782) (off := 749) (v := (18 : Int32)) hX dL_law_33 hq (by decide) (by decide) (by decide +kernel) (by decide) ?_
                                          clear hq
                                          refine r_sub [0, 1, 2, 3] rfl ?_
                                          exact wL_law_782 hX hro hLw hLe k18 hk18 h
                                        · clear h; intro hn18 h
                                          refine r_case (q := (t1 &&& (63 : Int32)) = (19 : Int32)) h ?_ ?_
                                          · clear h; intro hq h
                                            refine r_tsIn (tgt := 815) (off := 782) (v := (19 : Int32)) hX dL_law_33 hq (by decide) (by decide) (by decide +kernel) (by decide) ?_
                                            clear hq
                                            refine r_sub [0, 1, 2, 3] rfl ?_
                                            exact wL_law_815 hX hro hLw hLe k18 hk18 h
                                          · clear h; intro hn19 h
                                            refine r_case (q := (t1 &&& (63 : Int32)) = (20 : Int32)) h ?_ ?_
                                            · clear h; intro hq h
                                              refine r_tsIn (tgt := 848) (off := 815) (v := (20 : Int32)) hX dL_law_33 hq (by decide) (by decide) (by decide +kernel) (by decide) ?_
                                              clear hq
                                              refine r_sub [0, 1, 2, 3] rfl ?_
                                              exact wL_law_848 hX hro hLw hLe k18 hk18 h
                                            · clear h; intro hn20 h
                                              refine r_case (q := (t1 &&& (63 : Int32)) = (21 : Int32)) h ?_ ?_
                                              · clear h; intro hq h
                                                refine r_tsIn (tgt := 871) (off := 838) (v := (21 : Int32)) hX dL_law_33 hq (by decide) (by decide) (by decide +kernel) (by decide) ?_
                                                clear hq
                                                refine r_sub [0, 1, 2, 3] rfl ?_
                                                exact wL_law_871 hX hro hLw hLe k18 hk18 h
                                              · clear h; intro hn21 h
                                                refine r_case (q := (t1 &&& (63 : Int32)) = (22 : Int32)) h ?_ ?_
                                                · clear h; intro hq h
                                                  refine r_tsIn (tgt := 914) (off := 881) (v := (22 : Int32)) hX dL_law_33 hq (by decide) (by decide) (by decide +kernel) (by decide) ?_
                                                  clear hq
                                                  refine r_sub [0, 1, 2, 3] rfl ?_
                                                  exact wL_law_914 hX hro hLw hLe k18 hk18 h
                                                · clear h; intro hn22 h
                                                  refine r_case (q := (t1 &&& (63 : Int32)) = (23 : Int32)) h ?_ ?_
                                                  · clear h; intro hq h
                                                    refine r_tsIn (tgt := 947) (off := 914) (v := (23 : Int32)) hX dL_law_33 hq (by decide) (by decide) (by decide +kernel) (by decide) ?_
                                                    clear hq
                                                    refine r_sub [0, 1, 2, 3] rfl ?_
                                                    exact wL_law_947 hX hro hLw hLe k18 hk18 h
                                                  · clear h; intro hn23 h
                                                    refine r_case (q := (t1 &&& (63 : Int32)) = (24 : Int32)) h ?_ ?_
                                                    · clear h; intro hq h
                                                      refine r_tsIn (tgt := 980) (off := 947) (v := (24 : Int32)) hX dL_law_33 hq (by decide) (by decide) (by decide +kernel) (by decide) ?_
                                                      clear hq
                                                      refine r_sub [0, 1, 2, 3] rfl ?_
                                                      exact wL_law_980 hX hro hLw hLe k18 hk18 h
                                                    · clear h; intro hn24 h
                                                      refine r_case (q := (t1 &&& (63 : Int32)) = (25 : Int32)) h ?_ ?_
                                                      · clear h; intro hq h
                                                        refine r_tsIn (tgt := 1023) (off := 990) (v := (25 : Int32)) hX dL_law_33 hq (by decide) (by decide) (by decide +kernel) (by decide) ?_
                                                        clear hq
                                                        refine r_sub [0, 1, 2, 3] rfl ?_
                                                        exact wL_law_1023 hX hro hLw hLe k18 hk18 h
                                                      · clear h; intro hn25 h
                                                        refine r_case (q := (t1 &&& (63 : Int32)) = (26 : Int32)) h ?_ ?_
                                                        · clear h; intro hq h
                                                          refine r_tsIn (tgt := 1072) (off := 1039) (v := (26 : Int32)) hX dL_law_33 hq (by decide) (by decide) (by decide +kernel) (by decide) ?_
                                                          clear hq
                                                          refine r_sub [0, 1, 2, 3] rfl ?_
                                                          exact wL_law_1072 hX hro hLw hLe k18 hk18 h
                                                        · clear h; intro hn26 h
                                                          refine r_case (q := (t1 &&& (63 : Int32)) = (27 : Int32)) h ?_ ?_
                                                          · clear h; intro hq h
                                                            refine r_tsIn (tgt := 1095) (off := 1062) (v := (27 : Int32)) hX dL_law_33 hq (by decide) (by decide) (by decide +kernel) (by decide) ?_
                                                            clear hq
                                                            refine r_sub [0, 1, 2, 3] rfl ?_
                                                            exact wL_law_1095 hX hro hLw hLe k18 hk18 h
                                                          · clear h; intro hn27 h
                                                            refine r_case (q := (t1 &&& (63 : Int32)) = (28 : Int32)) h ?_ ?_
                                                            · clear h; intro hq h
                                                              refine r_tsIn (tgt := 1109) (off := 1076) (v := (28 : Int32)) hX dL_law_33 hq (by decide) (by decide) (by decide +kernel) (by decide) ?_
                                                              clear hq
                                                              refine r_sub [0, 1, 2, 3] rfl ?_
                                                              exact wL_law_1109 hX hro hLw hLe k18 hk18 h
                                                            · clear h; intro hn28 h
                                                              refine r_case (q := (t1 &&& (63 : Int32)) = (29 : Int32)) h ?_ ?_
                                                              · clear h; intro hq h
                                                                refine r_tsIn (tgt := 1152) (off := 1119) (v := (29 : Int32)) hX dL_law_33 hq (by decide) (by decide) (by decide +kernel) (by decide) ?_
                                                                clear hq
                                                                refine r_sub [0, 1, 2, 3] rfl ?_
                                                                exact wL_law_1152 hX hro hLw hLe k18 hk18 h
                                                              · clear h; intro hn29 h
                                                                refine r_case (q := (t1 &&& (63 : Int32)) = (30 : Int32)) h ?_ ?_
                                                                · clear h; intro hq h
                                                                  refine r_tsIn (tgt := 1195) (off := 1162) (v := (30 : Int32)) hX dL_law_33 hq (by decide) (by decide) (by decide +kernel) (by decide) ?_
                                                                  clear hq
                                                                  refine r_sub [0, 1, 2, 3] rfl ?_
                                                                  exact wL_law_1195 hX hro hLw hLe k18 hk18 h
                                                                · clear h; intro hn30 h
                                                                  refine r_case (q := (t1 &&& (63 : Int32)) = (31 : Int32)) h ?_ ?_
                                                                  · clear h; intro hq h
                                                                    refine r_tsIn (tgt := 1228) (off := 1195) (v := (31 : Int32)) hX dL_law_33 hq (by decide) (by decide) (by decide +kernel) (by decide) ?_
                                                                    clear hq
                                                                    refine r_sub [0, 1, 2, 3] rfl ?_
                                                                    exact wL_law_1228 hX hro hLw hLe k18 hk18 h
                                                                  · clear h; intro hn31 h
                                                                    refine r_case (q := (t1 &&& (63 : Int32)) = (32 : Int32)) h ?_ ?_
                                                                    · clear h; intro hq h
                                                                      refine r_tsIn (tgt := 1251) (off := 1218) (v := (32 : Int32)) hX dL_law_33 hq (by decide) (by decide) (by decide +kernel) (by decide) ?_
                                                                      clear hq
                                                                      refine r_sub [0, 1, 2, 3] rfl ?_
                                                                      exact wL_law_1251 hX hro hLw hLe k18 hk18 h
                                                                    · clear h; intro hn32 h
                                                                      refine r_case (q := (t1 &&& (63 : Int32)) = (33 : Int32)) h ?_ ?_
                                                                      · clear h; intro hq h
                                                                        refine r_tsIn (tgt := 1314) (off := 1281) (v := (33 : Int32)) hX dL_law_33 hq (by decide) (by decide) (by decide +kernel) (by decide) ?_
                                                                        clear hq
                                                                        refine r_sub [0, 1, 2, 3] rfl ?_
                                                                        exact wL_law_1314 hX hro hLw hLe k18 hk18 h
                                                                      · clear h; intro hn33 h
                                                                        refine r_case (q := (t1 &&& (63 : Int32)) = (34 : Int32)) h ?_ ?_
                                                                        · clear h; intro hq h
                                                                          refine r_tsIn (tgt := 1347) (off := 1314) (v := (34 : Int32)) hX dL_law_33 hq (by decide) (by decide) (by decide +kernel) (by decide) ?_
                                                                          clear hq
                                                                          refine r_sub [0, 1, 2, 3] rfl ?_
                                                                          exact wL_law_1347 hX hro hLw hLe k18 hk18 h
                                                                        · clear h; intro hn34 h
                                                                          refine r_case (q := (t1 &&& (63 : Int32)) = (35 : Int32)) h ?_ ?_
                                                                          · clear h; intro hq h
                                                                            refine r_tsIn (tgt := 1370) (off := 1337) (v := (35 : Int32)) hX dL_law_33 hq (by decide) (by decide) (by decide +kernel) (by decide) ?_
                                                                            clear hq
                                                                            refine r_sub [0, 1, 2, 3] rfl ?_
                                                                            exact wL_law_1370 hX hro hLw hLe k18 hk18 h
                                                                          · clear h; intro hn35 h
                                                                            refine r_case (q := (t1 &&& (63 : Int32)) = (36 : Int32)) h ?_ ?_
                                                                            · clear h; intro hq h
                                                                              refine r_tsIn (tgt := 1413) (off := 1380) (v := (36 : Int32)) hX dL_law_33 hq (by decide) (by decide) (by decide +kernel) (by decide) ?_
                                                                              clear hq
                                                                              refine r_sub [0, 1, 2, 3] rfl ?_
                                                                              exact wL_law_1413 hX hro hLw hLe k18 hk18 h
                                                                            · clear h; intro hn36 h
                                                                              refine r_case (q := (t1 &&& (63 : Int32)) = (37 : Int32)) h ?_ ?_
                                                                              · clear h; intro hq h
                                                                                refine r_tsIn (tgt := 1436) (off := 1403) (v := (37 : Int32)) hX dL_law_33 hq (by decide) (by decide) (by decide +kernel) (by decide) ?_
                                                                                clear hq
                                                                                refine r_sub [0, 1, 2, 3] rfl ?_
                                                                                exact wL_law_1436 hX hro hLw hLe k18 hk18 h
                                                                              · clear h; intro hn37 h
                                                                                refine r_case (q := (t1 &&& (63 : Int32)) = (38 : Int32)) h ?_ ?_
                                                                                · clear h; intro hq h
                                                                                  refine r_tsIn (tgt := 1479) (off := 1446) (v := (38 : Int32)) hX dL_law_33 hq (by decide) (by decide) (by decide +kernel) (by decide) ?_
                                                                                  clear hq
                                                                                  refine r_sub [0, 1, 2, 3] rfl ?_
                                                                                  exact wL_law_1479 hX hro hLw hLe k18 hk18 h
                                                                                · clear h; intro hn38 h
                                                                                  refine r_case (q := (t1 &&& (63 : Int32)) = (39 : Int32)) h ?_ ?_
                                                                                  · clear h; intro hq h
                                                                                    refine r_tsIn (tgt := 1522) (off := 1489) (v := (39 : Int32)) hX dL_law_33 hq (by decide) (by decide) (by decide +kernel) (by decide) ?_
                                                                                    clear hq
                                                                                    refine r_sub [0, 1, 2, 3] rfl ?_
                                                                                    exact wL_law_1522 hX hro hLw hLe k18 hk18 h
                                                                                  · clear h; intro hn39 h
                                                                                    refine r_case (q := (t1 &&& (63 : Int32)) = (40 : Int32)) h ?_ ?_
                                                                                    · clear h; intro hq h
                                                                                      refine r_tsIn (tgt := 1545) (off := 1512) (v := (40 : Int32)) hX dL_law_33 hq (by decide) (by decide) (by decide +kernel) (by decide) ?_
                                                                                      clear hq
                                                                                      refine r_sub [0, 1, 2, 3] rfl ?_
                                                                                      exact wL_law_1545 hX hro hLw hLe k18 hk18 h
                                                                                    · clear h; intro hn40 h
                                                                                      refine r_case (q := (t1 &&& (63 : Int32)) = (41 : Int32)) h ?_ ?_
                                                                                      · clear h; intro hq h
                                                                                        refine r_tsIn (tgt := 1568) (off := 1535) (v := (41 : Int32)) hX dL_law_33 hq (by decide) (by decide) (by decide +kernel) (by decide) ?_
                                                                                        clear hq
                                                                                        refine r_sub [0, 1, 2, 3] rfl ?_
                                                                                        exact wL_law_1568 hX hro hLw hLe k18 hk18 h
                                                                                      · clear h; intro hn41 h
                                                                                        refine r_case (q := (t1 &&& (63 : Int32)) = (42 : Int32)) h ?_ ?_
                                                                                        · clear h; intro hq h
                                                                                          refine r_tsIn (tgt := 1581) (off := 1548) (v := (42 : Int32)) hX dL_law_33 hq (by decide) (by decide) (by decide +kernel) (by decide) ?_
                                                                                          clear hq
                                                                                          refine r_sub [0, 1, 2, 3] rfl ?_
                                                                                          exact wL_law_1581 hX hro hLw hLe k18 hk18 h
                                                                                        · clear h; intro hn42 h
                                                                                          refine r_case (q := (t1 &&& (63 : Int32)) = (43 : Int32)) h ?_ ?_
                                                                                          · clear h; intro hq h
                                                                                            refine r_tsIn (tgt := 1594) (off := 1561) (v := (43 : Int32)) hX dL_law_33 hq (by decide) (by decide) (by decide +kernel) (by decide) ?_
                                                                                            clear hq
                                                                                            refine r_sub [0, 1, 2, 3] rfl ?_
                                                                                            exact wL_law_1594 hX hro hLw hLe k18 hk18 h
                                                                                          · clear h; intro hn43 h
                                                                                            refine r_case (q := (t1 &&& (63 : Int32)) = (44 : Int32)) h ?_ ?_
                                                                                            · clear h; intro hq h
                                                                                              refine r_tsIn (tgt := 1627) (off := 1594) (v := (44 : Int32)) hX dL_law_33 hq (by decide) (by decide) (by decide +kernel) (by decide) ?_
                                                                                              clear hq
                                                                                              refine r_sub [0, 1, 2, 3] rfl ?_
                                                                                              exact wL_law_1627 hX hro hLw hLe k18 hk18 h
                                                                                            · clear h; intro hn44 h
                                                                                              refine r_case (q := (t1 &&& (63 : Int32)) = (45 : Int32)) h ?_ ?_
                                                                                              · clear h; intro hq h
                                                                                                refine r_tsIn (tgt := 1670) (off := 1637) (v := (45 : Int32)) hX dL_law_33 hq (by decide) (by decide) (by decide +kernel) (by decide) ?_
                                                                                                clear hq
                                                                                                refine r_sub [0, 1, 2, 3] rfl ?_
                                                                                                exact wL_law_1670 hX hro hLw hLe k18 hk18 h
                                                                                              · clear h; intro hn45 h
                                                                                                refine r_tsOut (tgt := 1693) hX dL_law_33 (by have e0 := kd_ne (a := 0) hn0 (by decide); have e1 := kd_ne (a := 1) hn1 (by decide); have e2 := kd_ne (a := 2) hn2 (by decide); have e3 := kd_ne (a := 3) hn3 (by decide); have e4 := kd_ne (a := 4) hn4 (by decide); have e5 := kd_ne (a := 5) hn5 (by decide); have e6 := kd_ne (a := 6) hn6 (by decide); have e7 := kd_ne (a := 7) hn7 (by decide); have e8 := kd_ne (a := 8) hn8 (by decide); have e9 := kd_ne (a := 9) hn9 (by decide); have e10 := kd_ne (a := 10) hn10 (by decide); have e11 := kd_ne (a := 11) hn11 (by decide); have e12 := kd_ne (a := 12) hn12 (by decide); have e13 := kd_ne (a := 13) hn13 (by decide); have e14 := kd_ne (a := 14) hn14 (by decide); have e15 := kd_ne (a := 15) hn15 (by decide); have e16 := kd_ne (a := 16) hn16 (by decide); have e17 := kd_ne (a := 17) hn17 (by decide); have e18 := kd_ne (a := 18) hn18 (by decide); have e19 := kd_ne (a := 19) hn19 (by decide); have e20 := kd_ne (a := 20) hn20 (by decide); have e21 := kd_ne (a := 21) hn21 (by decide); have e22 := kd_ne (a := 22) hn22 (by decide); have e23 := kd_ne (a := 23) hn23 (by decide); have e24 := kd_ne (a := 24) hn24 (by decide); have e25 := kd_ne (a := 25) hn25 (by decide); have e26 := kd_ne (a := 26) hn26 (by decide); have e27 := kd_ne (a := 27) hn27 (by decide); have e28 := kd_ne (a := 28) hn28 (by decide); have e29 := kd_ne (a := 29) hn29 (by decide); have e30 := kd_ne (a := 30) hn30 (by decide); have e31 := kd_ne (a := 31) hn31 (by decide); have e32 := kd_ne (a := 32) hn32 (by decide); have e33 := kd_ne (a := 33) hn33 (by decide); have e34 := kd_ne (a := 34) hn34 (by decide); have e35 := kd_ne (a := 35) hn35 (by decide); have e36 := kd_ne (a := 36) hn36 (by decide); have e37 := kd_ne (a := 37) hn37 (by decide); have e38 := kd_ne (a := 38) hn38 (by decide); have e39 := kd_ne (a := 39) hn39 (by decide); have e40 := kd_ne (a := 40) hn40 (by decide); have e41 := kd_ne (a := 41) hn41 (by decide); have e42 := kd_ne (a := 42) hn42 (by decide); have e43 := kd_ne (a := 43) hn43 (by decide); have e44 := kd_ne (a := 44) hn44 (by decide); have e45 := kd_ne (a := 45) hn45 (by decide); omega) (by decide) ?_
                                                                                                refine r_sub [0, 1, 2, 3] rfl ?_
                                                                                                exact wL_law_1693 hX hro hLw hLe k18 hk18 h
def L_law_18 (G : kdS) (xs : Nat → Int32) (N : Nat) : Nat → Nat → Int32 → kdM → Option (Unit × kdM) := lp (fun _ _ _ _ => none) (L_law_18B G xs N) NN
theorem wL_law_18 {E : kdE} {G : kdS} {A : kdA} {z : Nat × Nat} {b N : Nat} {xs : Nat → Int32} {r : Unit} {σ1 : kdM} (hX : kdX E A cL_law 4 RL (some .boolean) 20) (hro : kdRO A z.1 z.2) (hLw : kdLw E A b N xs) (hLe : kdLe A b z) : ∀ (l1 l2 : Nat) (l3 : Int32) (σ : kdM), L_law_18 G xs N l1 l2 l3 σ = some (r, σ1) → SW E G (.inr z) A 4 σ 18 [(0, .ref b), (1, kr E l1), (2, kr E l2), (3, .int l3)] [] :=
  lp_ind (Q := fun f => ∀ (l1 l2 : Nat) (l3 : Int32) (σ : kdM), f l1 l2 l3 σ = some (r, σ1) → SW E G (.inr z) A 4 σ 18 [(0, .ref b), (1, kr E l1), (2, kr E l2), (3, .int l3)] []) (by intros; contradiction) (fun k hk l1 l2 l3 σ h => wL_law_18B hX hro hLw hLe k hk h) NN
