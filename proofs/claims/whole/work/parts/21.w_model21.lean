def X12_change_23 (G : kdS) : kdM → Option (Int32 × kdM) :=
  rt (-2 : Int32)
set_option maxRecDepth 100000 in
set_option maxHeartbeats 4000000 in
theorem wX12_change_23 {E : kdE} {G : kdS} {A : kdA} {r : Int32} {σ1 : kdM} (hX : kdX E A cX12_change 4 RX12 (some .int) 2) {σ : kdM} (h : X12_change_23 G  σ = some (r, σ1)) : SW E G (.inl (some (.int r), σ1)) A 4 σ 23 [] [] := by
  unfold X12_change_23 at h
  refine r_bipush hX dX12_change_23 kk_b_m2 ?_
  exact r_iret hX dX12_change_25 h
def X12_change (G : kdS) (l0 : Nat) (l1 : Int32) (l2 : Int32) : kdM → Option (Int32 × kdM) :=
  gI G 12 17 l0 fun t1 =>
  kcl (X12_in G (Int32.toInt64 l1) (0 : Int64) (Int32.toInt64 (t1 - (1 : Int32)))) fun t2 =>
  cnd (t2 = 0)
    (X12_change_23 G )
    (kcl (X12_isKey G l2) fun t3 =>
    cnd (t3 = 0)
      (X12_change_23 G )
      (gR G 12 16 l0 fun t4 =>
      aI G t4 (l1) fun t5 =>
      gR G 12 16 l0 fun t6 =>
      tI G t6 (l1) (l2) <|
      rt t5))
set_option maxRecDepth 100000 in
set_option maxHeartbeats 4000000 in
theorem wX12_change {E : kdE} {G : kdS} {l0 : Nat} {l1 : Int32} {l2 : Int32} {σ : kdM} {r : Int32} {σ1 : kdM} (h : X12_change G l0 l1 l2 σ = some (r, σ1)) : Con E G yX12_change cX12_change 4 (some .int) 2 [kr E l0, .int l1, .int l2] σ (some (.int r), σ1) := by
  refine kd_head (own := RX12) rfl (by decide +kernel) (Nat.le_of_ble_eq_true rfl) (fun A hX => ?_)
  show SW E G (.inl (some (.int r), σ1)) A 4 σ 0 [(0, kr E l0), (1, .int l1), (2, .int l2)] []
  unfold X12_change at h
  refine r_iload_n hX dX12_change_0 rfl 1 rfl ?_
  refine r_i2l hX dX12_change_1 ?_
  refine r_lconst hX dX12_change_2 kk_l_0 ?_
  refine r_aload_n hX dX12_change_3 rfl 0 rfl ?_
  refine r_gI hX dX12_change_4 kf_X12_218 rfl h ?_
  clear h; intro t1 h
  refine r_iconst hX dX12_change_7 kk_i_1 ?_
  refine r_isub hX dX12_change_8 ?_
  refine r_i2l hX dX12_change_9 ?_
  refine r_cSi (As := [.long (Int32.toInt64 l1), .long (0 : Int64), .long (Int32.toInt64 (t1 - (1 : Int32)))]) (st := []) hX dX12_change_10 kl_X12_in w_ml_X12_178 w_st_X12_in (by decide) rfl (Nat.le_of_ble_eq_true rfl) rfl kdz0 h (fun r σ1 h => wX12_in h) ?_
  clear h; intro t2 σ h
  refine r_if_eq (tgt := 23) hX dX12_change_13 (by decide) h ?_ ?_
  · clear h; intro h
    refine r_sub [] rfl ?_
    exact wX12_change_23 hX h
  · clear h; intro h
    refine r_iload_n hX dX12_change_16 rfl 2 rfl ?_
    refine r_cSi (As := [.int l2]) (st := []) hX dX12_change_17 kl_X12_isKey w_ml_X12_221 w_st_X12_isKey (by decide) rfl (Nat.le_of_ble_eq_true rfl) rfl kdz0 h (fun r σ1 h => wX12_isKey h) ?_
    clear h; intro t3 σ h
    refine r_if_ne (tgt := 26) hX dX12_change_20 (by decide) h ?_ ?_
    · clear h; intro h
      refine r_sub [] rfl ?_
      exact wX12_change_23 hX h
    · clear h; intro h
      refine r_aload_n hX dX12_change_26 rfl 0 rfl ?_
      refine r_gR hX dX12_change_27 kf_X12_50 rfl h ?_
      clear h; intro t4 h
      refine r_iload_n hX dX12_change_30 rfl 1 rfl ?_
      refine r_aI hX dX12_change_31 h ?_
      clear h; intro t5 h
      refine r_istore_n (L2 := [(3, .int t5), (0, kr E l0), (1, .int l1), (2, .int l2)]) hX dX12_change_32 rfl (by decide) rfl ?_
      refine r_aload_n hX dX12_change_33 rfl 1 rfl ?_
      refine r_gR hX dX12_change_34 kf_X12_50 rfl h ?_
      clear h; intro t6 h
      refine r_iload_n hX dX12_change_37 rfl 2 rfl ?_
      refine r_iload_n hX dX12_change_38 rfl 3 rfl ?_
      refine r_tI hX dX12_change_39 h ?_
      clear h; intro σ h
      refine r_iload_n hX dX12_change_40 rfl 0 rfl ?_
      exact r_iret hX dX12_change_41 h
def X12_back_28B (G : kdS) (k28 : Nat → Int32 → Int32 → kdM → Option (Int32 × kdM)) (l0 : Nat) (l2 : Int32) (l3 : Int32) : kdM → Option (Int32 × kdM) :=
  gI G 12 17 l0 fun t1 =>
  cnd (t1 ≤ (l3 + (1 : Int32)))
    (gI G 12 17 l0 fun t2 =>
    sI G 12 17 l0 ((t2 - (1 : Int32))) <|
    rt l2)
    (gR G 12 16 l0 fun t3 =>
    gR G 12 16 l0 fun t4 =>
    aI G t4 ((l3 + (1 : Int32))) fun t5 =>
    tI G t3 (l3) (t5) <|
    ltI (l3 + Int32.ofInt 1) fun t6 =>
    k28 l0 l2 t6)
set_option maxRecDepth 100000 in
set_option maxHeartbeats 4000000 in
theorem wX12_back_28B {E : kdE} {G : kdS} {A : kdA} {r : Int32} {σ1 : kdM} (hX : kdX E A cX12_back 4 RX12 (some .int) 1) (k28 : Nat → Int32 → Int32 → kdM → Option (Int32 × kdM)) (hk28 : ∀ (l0 : Nat) (l2 : Int32) (l3 : Int32) (σ : kdM), k28 l0 l2 l3 σ = some (r, σ1) → SW E G (.inl (some (.int r), σ1)) A 4 σ 28 [(0, kr E l0), (2, .int l2), (3, .int l3)] []) {σ : kdM} {l0 : Nat} {l2 : Int32} {l3 : Int32} (h : X12_back_28B G k28 l0 l2 l3 σ = some (r, σ1)) : SW E G (.inl (some (.int r), σ1)) A 4 σ 28 [(0, kr E l0), (2, .int l2), (3, .int l3)] [] := by
  unfold X12_back_28B at h
  refine r_iload_n hX dX12_back_28 rfl 2 rfl ?_
  refine r_iconst hX dX12_back_29 kk_i_1 ?_
  refine r_iadd hX dX12_back_30 ?_
  refine r_aload_n hX dX12_back_31 rfl 0 rfl ?_
  refine r_gI hX dX12_back_32 kf_X12_218 rfl h ?_
  clear h; intro t1 h
  refine r_icmp_ge (tgt := 58) hX dX12_back_35 (by decide) h ?_ ?_
  · clear h; intro h
    refine r_aload_n hX dX12_back_58 rfl 0 rfl ?_
    refine r_dup hX dX12_back_59 rfl ?_
    refine r_gI hX dX12_back_60 kf_X12_218 rfl h ?_
    clear h; intro t2 h
    refine r_iconst hX dX12_back_63 kk_i_1 ?_
    refine r_isub hX dX12_back_64 ?_
    refine r_sI hX dX12_back_65 kf_X12_218 rfl (by intro q hq; cases hq; rfl) h ?_
    clear h; intro σ h
    refine r_iload_n hX dX12_back_68 rfl 1 rfl ?_
    exact r_iret hX dX12_back_69 h
  · clear h; intro h
    refine r_aload_n hX dX12_back_38 rfl 0 rfl ?_
    refine r_gR hX dX12_back_39 kf_X12_50 rfl h ?_
    clear h; intro t3 h
    refine r_iload_n hX dX12_back_42 rfl 2 rfl ?_
    refine r_aload_n hX dX12_back_43 rfl 0 rfl ?_
    refine r_gR hX dX12_back_44 kf_X12_50 rfl h ?_
    clear h; intro t4 h
    refine r_iload_n hX dX12_back_47 rfl 2 rfl ?_
    refine r_iconst hX dX12_back_48 kk_i_1 ?_
    refine r_iadd hX dX12_back_49 ?_
    refine r_aI hX dX12_back_50 h ?_
    clear h; intro t5 h
    refine r_tI hX dX12_back_51 h ?_
    clear h; intro σ h
    refine r_iincL (L2 := fun t6 => [(3, .int t6), (0, kr E l0), (2, .int l2)]) hX dX12_back_52 h 2 rfl (by decide) (fun _ => rfl) ?_
    clear h; intro t6 h
    refine r_goto (tgt := 28) hX dX12_back_55 (by decide) ?_
    refine r_sub [1, 2, 0] rfl ?_
    exact hk28 _ _ _ _ h
def X12_back_28 (G : kdS) : Nat → Int32 → Int32 → kdM → Option (Int32 × kdM) := lp (fun _ _ _ _ => none) (X12_back_28B G) NN
theorem wX12_back_28 {E : kdE} {G : kdS} {A : kdA} {r : Int32} {σ1 : kdM} (hX : kdX E A cX12_back 4 RX12 (some .int) 1) : ∀ (l0 : Nat) (l2 : Int32) (l3 : Int32) (σ : kdM), X12_back_28 G l0 l2 l3 σ = some (r, σ1) → SW E G (.inl (some (.int r), σ1)) A 4 σ 28 [(0, kr E l0), (2, .int l2), (3, .int l3)] [] :=
  lp_ind (Q := fun f => ∀ (l0 : Nat) (l2 : Int32) (l3 : Int32) (σ : kdM), f l0 l2 l3 σ = some (r, σ1) → SW E G (.inl (some (.int r), σ1)) A 4 σ 28 [(0, kr E l0), (2, .int l2), (3, .int l3)] []) (by intros; contradiction) (fun k hk l0 l2 l3 σ h => wX12_back_28B hX k hk h) NN
def X12_back (G : kdS) (l0 : Nat) (l1 : Int32) : kdM → Option (Int32 × kdM) :=
  gI G 12 17 l0 fun t1 =>
  kcl (X12_in G (Int32.toInt64 l1) (0 : Int64) (Int32.toInt64 (t1 - (1 : Int32)))) fun t2 =>
  cnd (t2 = 0)
    (rt (-2 : Int32))
    (gR G 12 16 l0 fun t3 =>
    aI G t3 (l1) fun t4 =>
    X12_back_28 G l0 t4 l1)
set_option maxRecDepth 100000 in
set_option maxHeartbeats 4000000 in
theorem wX12_back {E : kdE} {G : kdS} {l0 : Nat} {l1 : Int32} {σ : kdM} {r : Int32} {σ1 : kdM} (h : X12_back G l0 l1 σ = some (r, σ1)) : Con E G yX12_back cX12_back 4 (some .int) 1 [kr E l0, .int l1] σ (some (.int r), σ1) := by
  refine kd_head (own := RX12) rfl (by decide +kernel) (Nat.le_of_ble_eq_true rfl) (fun A hX => ?_)
  show SW E G (.inl (some (.int r), σ1)) A 4 σ 0 [(0, kr E l0), (1, .int l1)] []
  unfold X12_back at h
  refine r_iload_n hX dX12_back_0 rfl 1 rfl ?_
  refine r_i2l hX dX12_back_1 ?_
  refine r_lconst hX dX12_back_2 kk_l_0 ?_
  refine r_aload_n hX dX12_back_3 rfl 0 rfl ?_
  refine r_gI hX dX12_back_4 kf_X12_218 rfl h ?_
  clear h; intro t1 h
  refine r_iconst hX dX12_back_7 kk_i_1 ?_
  refine r_isub hX dX12_back_8 ?_
  refine r_i2l hX dX12_back_9 ?_
  refine r_cSi (As := [.long (Int32.toInt64 l1), .long (0 : Int64), .long (Int32.toInt64 (t1 - (1 : Int32)))]) (st := []) hX dX12_back_10 kl_X12_in w_ml_X12_178 w_st_X12_in (by decide) rfl (Nat.le_of_ble_eq_true rfl) rfl kdz0 h (fun r σ1 h => wX12_in h) ?_
  clear h; intro t2 σ h
  refine r_if_ne (tgt := 19) hX dX12_back_13 (by decide) h ?_ ?_
  · clear h; intro h
    refine r_bipush hX dX12_back_16 kk_b_m2 ?_
    exact r_iret hX dX12_back_18 h
  · clear h; intro h
    refine r_aload_n hX dX12_back_19 rfl 0 rfl ?_
    refine r_gR hX dX12_back_20 kf_X12_50 rfl h ?_
    clear h; intro t3 h
    refine r_iload_n hX dX12_back_23 rfl 1 rfl ?_
    refine r_aI hX dX12_back_24 h ?_
    clear h; intro t4 h
    refine r_istore_n (L2 := [(2, .int t4), (0, kr E l0), (1, .int l1)]) hX dX12_back_25 rfl (by decide) rfl ?_
    refine r_iload_n hX dX12_back_26 rfl 2 rfl ?_
    refine r_istore_n (L2 := [(3, .int l1), (2, .int t4), (0, kr E l0), (1, .int l1)]) hX dX12_back_27 rfl (by decide) rfl ?_
    refine r_sub [2, 1, 0] rfl ?_
    exact wX12_back_28 hX _ _ _ _ h
def X12_ruleAt_140 (G : kdS) (k7 : Nat → Int32 → Int32 → Int32 → Int32 → kdM → Option (Int32 × kdM)) (l0 : Nat) (l1 : Int32) (l2 : Int32) (l3 : Int32) (l4 : Int32) : kdM → Option (Int32 × kdM) :=
  ltI (l4 + Int32.ofInt 1) fun t1 =>
  k7 l0 l1 l2 l3 t1
set_option maxRecDepth 100000 in
set_option maxHeartbeats 4000000 in
theorem wX12_ruleAt_140 {E : kdE} {G : kdS} {A : kdA} {r : Int32} {σ1 : kdM} (hX : kdX E A cX12_ruleAt 8 RX12 (some .int) 0) (k7 : Nat → Int32 → Int32 → Int32 → Int32 → kdM → Option (Int32 × kdM)) (hk7 : ∀ (l0 : Nat) (l1 : Int32) (l2 : Int32) (l3 : Int32) (l4 : Int32) (σ : kdM), k7 l0 l1 l2 l3 l4 σ = some (r, σ1) → SW E G (.inl (some (.int r), σ1)) A 8 σ 7 [(0, kr E l0), (1, .int l1), (2, .int l2), (3, .int l3), (4, .int l4)] []) {σ : kdM} {l0 : Nat} {l1 : Int32} {l2 : Int32} {l3 : Int32} {l4 : Int32} (h : X12_ruleAt_140 G k7 l0 l1 l2 l3 l4 σ = some (r, σ1)) : SW E G (.inl (some (.int r), σ1)) A 8 σ 140 [(0, kr E l0), (1, .int l1), (2, .int l2), (3, .int l3), (4, .int l4)] [] := by
  unfold X12_ruleAt_140 at h
  refine r_iincL (L2 := fun t1 => [(4, .int t1), (0, kr E l0), (1, .int l1), (2, .int l2), (3, .int l3)]) hX dX12_ruleAt_140 h 4 rfl (by decide) (fun _ => rfl) ?_
  clear h; intro t1 h
  refine r_goto (tgt := 7) hX dX12_ruleAt_143 (by decide) ?_
  refine r_sub [1, 2, 3, 4, 0] rfl ?_
  exact hk7 _ _ _ _ _ _ h
def X12_ruleAt_113 (G : kdS) (k7 : Nat → Int32 → Int32 → Int32 → Int32 → kdM → Option (Int32 × kdM)) (l0 : Nat) (l1 : Int32) (l2 : Int32) (l3 : Int32) (l4 : Int32) (l5 : Int32) (l6 : Int32) : kdM → Option (Int32 × kdM) :=
  cnd (l6 = 0)
    (X12_ruleAt_140 G k7 l0 l1 l2 l3 l4)
    (gR G 12 8 l0 fun t1 =>
    aI G t1 (l5) fun t2 =>
    cnd (t2 ≤ l3)
      (X12_ruleAt_140 G k7 l0 l1 l2 l3 l4)
      (gR G 12 8 l0 fun t3 =>
      aI G t3 (l5) fun t4 =>
      X12_ruleAt_140 G k7 l0 l1 l4 t4 l4))
set_option maxRecDepth 100000 in
set_option maxHeartbeats 4000000 in
theorem wX12_ruleAt_113 {E : kdE} {G : kdS} {A : kdA} {r : Int32} {σ1 : kdM} (hX : kdX E A cX12_ruleAt 8 RX12 (some .int) 0) (k7 : Nat → Int32 → Int32 → Int32 → Int32 → kdM → Option (Int32 × kdM)) (hk7 : ∀ (l0 : Nat) (l1 : Int32) (l2 : Int32) (l3 : Int32) (l4 : Int32) (σ : kdM), k7 l0 l1 l2 l3 l4 σ = some (r, σ1) → SW E G (.inl (some (.int r), σ1)) A 8 σ 7 [(0, kr E l0), (1, .int l1), (2, .int l2), (3, .int l3), (4, .int l4)] []) {σ : kdM} {l0 : Nat} {l1 : Int32} {l2 : Int32} {l3 : Int32} {l4 : Int32} {l5 : Int32} {l6 : Int32} (h : X12_ruleAt_113 G k7 l0 l1 l2 l3 l4 l5 l6 σ = some (r, σ1)) : SW E G (.inl (some (.int r), σ1)) A 8 σ 113 [(0, kr E l0), (1, .int l1), (2, .int l2), (3, .int l3), (4, .int l4), (5, .int l5), (6, .int l6)] [] := by
  unfold X12_ruleAt_113 at h
  refine r_iload hX dX12_ruleAt_113 6 rfl ?_
  refine r_if_eq (tgt := 140) hX dX12_ruleAt_115 (by decide) h ?_ ?_
  · clear h; intro h
    refine r_sub [0, 1, 2, 3, 4] rfl ?_
    exact wX12_ruleAt_140 hX k7 hk7 h
  · clear h; intro h
    refine r_aload_n hX dX12_ruleAt_118 rfl 0 rfl ?_
    refine r_gR hX dX12_ruleAt_119 kf_X12_26 rfl h ?_
    clear h; intro t1 h
    refine r_iload hX dX12_ruleAt_122 5 rfl ?_
    refine r_aI hX dX12_ruleAt_124 h ?_
    clear h; intro t2 h
    refine r_iload_n hX dX12_ruleAt_125 rfl 3 rfl ?_
    refine r_icmp_le (tgt := 140) hX dX12_ruleAt_126 (by decide) h ?_ ?_
    · clear h; intro h
      refine r_sub [0, 1, 2, 3, 4] rfl ?_
      exact wX12_ruleAt_140 hX k7 hk7 h
    · clear h; intro h
      refine r_iload hX dX12_ruleAt_129 4 rfl ?_
      refine r_istore_n (L2 := [(2, .int l4), (0, kr E l0), (1, .int l1), (3, .int l3), (4, .int l4), (5, .int l5), (6, .int l6)]) hX dX12_ruleAt_131 rfl (by decide) rfl ?_
      refine r_aload_n hX dX12_ruleAt_132 rfl 1 rfl ?_
      refine r_gR hX dX12_ruleAt_133 kf_X12_26 rfl h ?_
      clear h; intro t3 h
      refine r_iload hX dX12_ruleAt_136 5 rfl ?_
      refine r_aI hX dX12_ruleAt_138 h ?_
      clear h; intro t4 h
      refine r_istore_n (L2 := [(3, .int t4), (2, .int l4), (0, kr E l0), (1, .int l1), (4, .int l4), (5, .int l5), (6, .int l6)]) hX dX12_ruleAt_139 rfl (by decide) rfl ?_
      refine r_sub [2, 3, 1, 0, 4] rfl ?_
      exact wX12_ruleAt_140 hX k7 hk7 h
def X12_ruleAt_105 (G : kdS) (k7 : Nat → Int32 → Int32 → Int32 → Int32 → kdM → Option (Int32 × kdM)) (k59 : Nat → Int32 → Int32 → Int32 → Int32 → Int32 → Int32 → Int32 → kdM → Option (Int32 × kdM)) (l0 : Nat) (l1 : Int32) (l2 : Int32) (l3 : Int32) (l4 : Int32) (l5 : Int32) (l7 : Int32) (s0 : Int32) : kdM → Option (Int32 × kdM) :=
  ltI (l7 + Int32.ofInt 1) fun t1 =>
  k59 l0 l1 l2 l3 l4 l5 s0 t1
set_option maxRecDepth 100000 in
set_option maxHeartbeats 4000000 in
theorem wX12_ruleAt_105 {E : kdE} {G : kdS} {A : kdA} {r : Int32} {σ1 : kdM} (hX : kdX E A cX12_ruleAt 8 RX12 (some .int) 0) (k7 : Nat → Int32 → Int32 → Int32 → Int32 → kdM → Option (Int32 × kdM)) (k59 : Nat → Int32 → Int32 → Int32 → Int32 → Int32 → Int32 → Int32 → kdM → Option (Int32 × kdM)) (hk7 : ∀ (l0 : Nat) (l1 : Int32) (l2 : Int32) (l3 : Int32) (l4 : Int32) (σ : kdM), k7 l0 l1 l2 l3 l4 σ = some (r, σ1) → SW E G (.inl (some (.int r), σ1)) A 8 σ 7 [(0, kr E l0), (1, .int l1), (2, .int l2), (3, .int l3), (4, .int l4)] []) (hk59 : ∀ (l0 : Nat) (l1 : Int32) (l2 : Int32) (l3 : Int32) (l4 : Int32) (l5 : Int32) (l6 : Int32) (l7 : Int32) (σ : kdM), k59 l0 l1 l2 l3 l4 l5 l6 l7 σ = some (r, σ1) → SW E G (.inl (some (.int r), σ1)) A 8 σ 59 [(0, kr E l0), (1, .int l1), (2, .int l2), (3, .int l3), (4, .int l4), (5, .int l5), (6, .int l6), (7, .int l7)] []) {σ : kdM} {l0 : Nat} {l1 : Int32} {l2 : Int32} {l3 : Int32} {l4 : Int32} {l5 : Int32} {l7 : Int32} {s0 : Int32} (h : X12_ruleAt_105 G k7 k59 l0 l1 l2 l3 l4 l5 l7 s0 σ = some (r, σ1)) : SW E G (.inl (some (.int r), σ1)) A 8 σ 105 [(0, kr E l0), (1, .int l1), (2, .int l2), (3, .int l3), (4, .int l4), (5, .int l5), (7, .int l7)] [.int s0] := by
  unfold X12_ruleAt_105 at h
  refine r_istore (L2 := [(6, .int s0), (0, kr E l0), (1, .int l1), (2, .int l2), (3, .int l3), (4, .int l4), (5, .int l5), (7, .int l7)]) hX dX12_ruleAt_105 (by decide) rfl ?_
  refine r_iincL (L2 := fun t1 => [(7, .int t1), (6, .int s0), (0, kr E l0), (1, .int l1), (2, .int l2), (3, .int l3), (4, .int l4), (5, .int l5)]) hX dX12_ruleAt_107 h 7 rfl (by decide) (fun _ => rfl) ?_
  clear h; intro t1 h
  refine r_goto (tgt := 59) hX dX12_ruleAt_110 (by decide) ?_
  refine r_sub [2, 3, 4, 5, 6, 7, 1, 0] rfl ?_
  exact hk59 _ _ _ _ _ _ _ _ _ h
def X12_ruleAt_59B (G : kdS) (k7 : Nat → Int32 → Int32 → Int32 → Int32 → kdM → Option (Int32 × kdM)) (k59 : Nat → Int32 → Int32 → Int32 → Int32 → Int32 → Int32 → Int32 → kdM → Option (Int32 × kdM)) (l0 : Nat) (l1 : Int32) (l2 : Int32) (l3 : Int32) (l4 : Int32) (l5 : Int32) (l6 : Int32) (l7 : Int32) : kdM → Option (Int32 × kdM) :=
  gR G 12 8 l0 fun t1 =>
  aI G t1 (l5) fun t2 =>
  cnd (t2 ≤ l7)
    (X12_ruleAt_113 G k7 l0 l1 l2 l3 l4 l5 l6)
    (cnd (l6 = 0)
      (X12_ruleAt_113 G k7 l0 l1 l2 l3 l4 l5 l6)
      (gR G 12 7 l0 fun t3 =>
      aI G t3 ((((4 : Int32) * l5) + l7)) fun t4 =>
      gR G 12 16 l0 fun t5 =>
      aI G t5 ((l1 + l7)) fun t6 =>
      cnd (t4 = t6)
        (X12_ruleAt_105 G k7 k59 l0 l1 l2 l3 l4 l5 l7 (1 : Int32))
        (X12_ruleAt_105 G k7 k59 l0 l1 l2 l3 l4 l5 l7 (0 : Int32))))
set_option maxRecDepth 100000 in
set_option maxHeartbeats 4000000 in
theorem wX12_ruleAt_59B {E : kdE} {G : kdS} {A : kdA} {r : Int32} {σ1 : kdM} (hX : kdX E A cX12_ruleAt 8 RX12 (some .int) 0) (k7 : Nat → Int32 → Int32 → Int32 → Int32 → kdM → Option (Int32 × kdM)) (k59 : Nat → Int32 → Int32 → Int32 → Int32 → Int32 → Int32 → Int32 → kdM → Option (Int32 × kdM)) (hk7 : ∀ (l0 : Nat) (l1 : Int32) (l2 : Int32) (l3 : Int32) (l4 : Int32) (σ : kdM), k7 l0 l1 l2 l3 l4 σ = some (r, σ1) → SW E G (.inl (some (.int r), σ1)) A 8 σ 7 [(0, kr E l0), (1, .int l1), (2, .int l2), (3, .int l3), (4, .int l4)] []) (hk59 : ∀ (l0 : Nat) (l1 : Int32) (l2 : Int32) (l3 : Int32) (l4 : Int32) (l5 : Int32) (l6 : Int32) (l7 : Int32) (σ : kdM), k59 l0 l1 l2 l3 l4 l5 l6 l7 σ = some (r, σ1) → SW E G (.inl (some (.int r), σ1)) A 8 σ 59 [(0, kr E l0), (1, .int l1), (2, .int l2), (3, .int l3), (4, .int l4), (5, .int l5), (6, .int l6), (7, .int l7)] []) {σ : kdM} {l0 : Nat} {l1 : Int32} {l2 : Int32} {l3 : Int32} {l4 : Int32} {l5 : Int32} {l6 : Int32} {l7 : Int32} (h : X12_ruleAt_59B G k7 k59 l0 l1 l2 l3 l4 l5 l6 l7 σ = some (r, σ1)) : SW E G (.inl (some (.int r), σ1)) A 8 σ 59 [(0, kr E l0), (1, .int l1), (2, .int l2), (3, .int l3), (4, .int l4), (5, .int l5), (6, .int l6), (7, .int l7)] [] := by
  unfold X12_ruleAt_59B at h
  refine r_iload hX dX12_ruleAt_59 7 rfl ?_
  refine r_aload_n hX dX12_ruleAt_61 rfl 0 rfl ?_
  refine r_gR hX dX12_ruleAt_62 kf_X12_26 rfl h ?_
  clear h; intro t1 h
  refine r_iload hX dX12_ruleAt_65 5 rfl ?_
  refine r_aI hX dX12_ruleAt_67 h ?_
  clear h; intro t2 h
  refine r_icmp_ge (tgt := 113) hX dX12_ruleAt_68 (by decide) h ?_ ?_
  · clear h; intro h
    refine r_sub [0, 1, 2, 3, 4, 5, 6] rfl ?_
    exact wX12_ruleAt_113 hX k7 hk7 h
  · clear h; intro h
    refine r_iload hX dX12_ruleAt_71 6 rfl ?_
    refine r_if_eq (tgt := 113) hX dX12_ruleAt_73 (by decide) h ?_ ?_
    · clear h; intro h
      refine r_sub [0, 1, 2, 3, 4, 5, 6] rfl ?_
      exact wX12_ruleAt_113 hX k7 hk7 h
    · clear h; intro h
      refine r_aload_n hX dX12_ruleAt_76 rfl 0 rfl ?_
      refine r_gR hX dX12_ruleAt_77 kf_X12_23 rfl h ?_
      clear h; intro t3 h
      refine r_iconst hX dX12_ruleAt_80 kk_i_4 ?_
      refine r_iload hX dX12_ruleAt_81 5 rfl ?_
      refine r_imul hX dX12_ruleAt_83 ?_
      refine r_iload hX dX12_ruleAt_84 7 rfl ?_
      refine r_iadd hX dX12_ruleAt_86 ?_
      refine r_aI hX dX12_ruleAt_87 h ?_
      clear h; intro t4 h
      refine r_aload_n hX dX12_ruleAt_88 rfl 0 rfl ?_
      refine r_gR hX dX12_ruleAt_89 kf_X12_50 rfl h ?_
      clear h; intro t5 h
      refine r_iload_n hX dX12_ruleAt_92 rfl 1 rfl ?_
      refine r_iload hX dX12_ruleAt_93 7 rfl ?_
      refine r_iadd hX dX12_ruleAt_95 ?_
      refine r_aI hX dX12_ruleAt_96 h ?_
      clear h; intro t6 h
      refine r_icmp_ne (tgt := 104) hX dX12_ruleAt_97 (by decide) h ?_ ?_
      · clear h; intro h
        refine r_iconst hX dX12_ruleAt_100 kk_i_1 ?_
        refine r_goto (tgt := 105) hX dX12_ruleAt_101 (by decide) ?_
        refine r_sub [0, 1, 2, 3, 4, 5, 7] rfl ?_
        exact wX12_ruleAt_105 hX k7 k59 hk7 hk59 h
      · clear h; intro h
        refine r_iconst hX dX12_ruleAt_104 kk_i_0 ?_
        refine r_sub [0, 1, 2, 3, 4, 5, 7] rfl ?_
        exact wX12_ruleAt_105 hX k7 k59 hk7 hk59 h
def X12_ruleAt_59 (G : kdS) (k7 : Nat → Int32 → Int32 → Int32 → Int32 → kdM → Option (Int32 × kdM)) : Nat → Int32 → Int32 → Int32 → Int32 → Int32 → Int32 → Int32 → kdM → Option (Int32 × kdM) := lp (fun _ _ _ _ _ _ _ _ _ => none) (X12_ruleAt_59B G k7) NN
theorem wX12_ruleAt_59 {E : kdE} {G : kdS} {A : kdA} {r : Int32} {σ1 : kdM} (hX : kdX E A cX12_ruleAt 8 RX12 (some .int) 0) (k7 : Nat → Int32 → Int32 → Int32 → Int32 → kdM → Option (Int32 × kdM)) (hk7 : ∀ (l0 : Nat) (l1 : Int32) (l2 : Int32) (l3 : Int32) (l4 : Int32) (σ : kdM), k7 l0 l1 l2 l3 l4 σ = some (r, σ1) → SW E G (.inl (some (.int r), σ1)) A 8 σ 7 [(0, kr E l0), (1, .int l1), (2, .int l2), (3, .int l3), (4, .int l4)] []) : ∀ (l0 : Nat) (l1 : Int32) (l2 : Int32) (l3 : Int32) (l4 : Int32) (l5 : Int32) (l6 : Int32) (l7 : Int32) (σ : kdM), X12_ruleAt_59 G k7 l0 l1 l2 l3 l4 l5 l6 l7 σ = some (r, σ1) → SW E G (.inl (some (.int r), σ1)) A 8 σ 59 [(0, kr E l0), (1, .int l1), (2, .int l2), (3, .int l3), (4, .int l4), (5, .int l5), (6, .int l6), (7, .int l7)] [] :=
  lp_ind (Q := fun f => ∀ (l0 : Nat) (l1 : Int32) (l2 : Int32) (l3 : Int32) (l4 : Int32) (l5 : Int32) (l6 : Int32) (l7 : Int32) (σ : kdM), f l0 l1 l2 l3 l4 l5 l6 l7 σ = some (r, σ1) → SW E G (.inl (some (.int r), σ1)) A 8 σ 59 [(0, kr E l0), (1, .int l1), (2, .int l2), (3, .int l3), (4, .int l4), (5, .int l5), (6, .int l6), (7, .int l7)] []) (by intros; contradiction) (fun k hk l0 l1 l2 l3 l4 l5 l6 l7 σ h => wX12_ruleAt_59B hX k7 k hk7 hk h) NN
def X12_ruleAt_54 (G : kdS) (k7 : Nat → Int32 → Int32 → Int32 → Int32 → kdM → Option (Int32 × kdM)) (l0 : Nat) (l1 : Int32) (l2 : Int32) (l3 : Int32) (l4 : Int32) (l5 : Int32) (s0 : Int32) : kdM → Option (Int32 × kdM) :=
  X12_ruleAt_59 G k7 l0 l1 l2 l3 l4 l5 s0 (0 : Int32)
set_option maxRecDepth 100000 in
set_option maxHeartbeats 4000000 in
theorem wX12_ruleAt_54 {E : kdE} {G : kdS} {A : kdA} {r : Int32} {σ1 : kdM} (hX : kdX E A cX12_ruleAt 8 RX12 (some .int) 0) (k7 : Nat → Int32 → Int32 → Int32 → Int32 → kdM → Option (Int32 × kdM)) (hk7 : ∀ (l0 : Nat) (l1 : Int32) (l2 : Int32) (l3 : Int32) (l4 : Int32) (σ : kdM), k7 l0 l1 l2 l3 l4 σ = some (r, σ1) → SW E G (.inl (some (.int r), σ1)) A 8 σ 7 [(0, kr E l0), (1, .int l1), (2, .int l2), (3, .int l3), (4, .int l4)] []) {σ : kdM} {l0 : Nat} {l1 : Int32} {l2 : Int32} {l3 : Int32} {l4 : Int32} {l5 : Int32} {s0 : Int32} (h : X12_ruleAt_54 G k7 l0 l1 l2 l3 l4 l5 s0 σ = some (r, σ1)) : SW E G (.inl (some (.int r), σ1)) A 8 σ 54 [(0, kr E l0), (1, .int l1), (2, .int l2), (3, .int l3), (4, .int l4), (5, .int l5)] [.int s0] := by
  unfold X12_ruleAt_54 at h
  refine r_istore (L2 := [(6, .int s0), (0, kr E l0), (1, .int l1), (2, .int l2), (3, .int l3), (4, .int l4), (5, .int l5)]) hX dX12_ruleAt_54 (by decide) rfl ?_
  refine r_iconst hX dX12_ruleAt_56 kk_i_0 ?_
  refine r_istore (L2 := [(7, .int (0 : Int32)), (6, .int s0), (0, kr E l0), (1, .int l1), (2, .int l2), (3, .int l3), (4, .int l4), (5, .int l5)]) hX dX12_ruleAt_57 (by decide) rfl ?_
  refine r_sub [2, 3, 4, 5, 6, 7, 1, 0] rfl ?_
  exact wX12_ruleAt_59 hX k7 hk7 _ _ _ _ _ _ _ _ _ h
def X12_ruleAt_7B (G : kdS) (k7 : Nat → Int32 → Int32 → Int32 → Int32 → kdM → Option (Int32 × kdM)) (l0 : Nat) (l1 : Int32) (l2 : Int32) (l3 : Int32) (l4 : Int32) : kdM → Option (Int32 × kdM) :=
  gR G 12 11 l0 fun t1 =>
  gI G 12 18 l0 fun t2 =>
  aI G t1 (t2) fun t3 =>
  cnd (t3 ≤ l4)
    (rt l2)
    (gI G 12 18 l0 fun t4 =>
    ltI ((((24 : Int32) * t4) + l4)) fun t5 =>
    gR G 12 8 l0 fun t6 =>
    aI G t6 (t5) fun t7 =>
    gI G 12 17 l0 fun t8 =>
    cnd (t8 < (l1 + t7))
      (X12_ruleAt_54 G k7 l0 l1 l2 l3 l4 t5 (0 : Int32))
      (X12_ruleAt_54 G k7 l0 l1 l2 l3 l4 t5 (1 : Int32)))
set_option maxRecDepth 100000 in
set_option maxHeartbeats 4000000 in
theorem wX12_ruleAt_7B {E : kdE} {G : kdS} {A : kdA} {r : Int32} {σ1 : kdM} (hX : kdX E A cX12_ruleAt 8 RX12 (some .int) 0) (k7 : Nat → Int32 → Int32 → Int32 → Int32 → kdM → Option (Int32 × kdM)) (hk7 : ∀ (l0 : Nat) (l1 : Int32) (l2 : Int32) (l3 : Int32) (l4 : Int32) (σ : kdM), k7 l0 l1 l2 l3 l4 σ = some (r, σ1) → SW E G (.inl (some (.int r), σ1)) A 8 σ 7 [(0, kr E l0), (1, .int l1), (2, .int l2), (3, .int l3), (4, .int l4)] []) {σ : kdM} {l0 : Nat} {l1 : Int32} {l2 : Int32} {l3 : Int32} {l4 : Int32} (h : X12_ruleAt_7B G k7 l0 l1 l2 l3 l4 σ = some (r, σ1)) : SW E G (.inl (some (.int r), σ1)) A 8 σ 7 [(0, kr E l0), (1, .int l1), (2, .int l2), (3, .int l3), (4, .int l4)] [] := by
  unfold X12_ruleAt_7B at h
  refine r_iload hX dX12_ruleAt_7 4 rfl ?_
  refine r_aload_n hX dX12_ruleAt_9 rfl 0 rfl ?_
  refine r_gR hX dX12_ruleAt_10 kf_X12_35 rfl h ?_
  clear h; intro t1 h
  refine r_aload_n hX dX12_ruleAt_13 rfl 0 rfl ?_
  refine r_gI hX dX12_ruleAt_14 kf_X12_215 rfl h ?_
  clear h; intro t2 h
  refine r_aI hX dX12_ruleAt_17 h ?_
  clear h; intro t3 h
  refine r_icmp_ge (tgt := 146) hX dX12_ruleAt_18 (by decide) h ?_ ?_
  · clear h; intro h
    refine r_iload_n hX dX12_ruleAt_146 rfl 2 rfl ?_
    exact r_iret hX dX12_ruleAt_147 h
  · clear h; intro h
    refine r_bipush hX dX12_ruleAt_21 kk_b_24 ?_
    refine r_aload_n hX dX12_ruleAt_23 rfl 0 rfl ?_
    refine r_gI hX dX12_ruleAt_24 kf_X12_215 rfl h ?_
    clear h; intro t4 h
    refine r_imul hX dX12_ruleAt_27 ?_
    refine r_iload hX dX12_ruleAt_28 4 rfl ?_
    refine r_iadd hX dX12_ruleAt_30 ?_
    refine r_letI h ?_
    clear h; intro t5 h
    refine r_istore (L2 := [(5, .int t5), (0, kr E l0), (1, .int l1), (2, .int l2), (3, .int l3), (4, .int l4)]) hX dX12_ruleAt_31 (by decide) rfl ?_
    refine r_iload_n hX dX12_ruleAt_33 rfl 2 rfl ?_
    refine r_aload_n hX dX12_ruleAt_34 rfl 1 rfl ?_
    refine r_gR hX dX12_ruleAt_35 kf_X12_26 rfl h ?_
    clear h; intro t6 h
    refine r_iload hX dX12_ruleAt_38 0 rfl ?_
    refine r_aI hX dX12_ruleAt_40 h ?_
    clear h; intro t7 h
    refine r_iadd hX dX12_ruleAt_41 ?_
    refine r_aload_n hX dX12_ruleAt_42 rfl 1 rfl ?_
    refine r_gI hX dX12_ruleAt_43 kf_X12_218 rfl h ?_
    clear h; intro t8 h
    refine r_icmp_gt (tgt := 53) hX dX12_ruleAt_46 (by decide) h ?_ ?_
    · clear h; intro h
      refine r_iconst hX dX12_ruleAt_53 kk_i_0 ?_
      refine r_sub [1, 2, 3, 4, 5, 0] rfl ?_
      exact wX12_ruleAt_54 hX k7 hk7 h
    · clear h; intro h
      refine r_iconst hX dX12_ruleAt_49 kk_i_1 ?_
      refine r_goto (tgt := 54) hX dX12_ruleAt_50 (by decide) ?_
      refine r_sub [1, 2, 3, 4, 5, 0] rfl ?_
      exact wX12_ruleAt_54 hX k7 hk7 h
def X12_ruleAt_7 (G : kdS) : Nat → Int32 → Int32 → Int32 → Int32 → kdM → Option (Int32 × kdM) := lp (fun _ _ _ _ _ _ => none) (X12_ruleAt_7B G) NN
theorem wX12_ruleAt_7 {E : kdE} {G : kdS} {A : kdA} {r : Int32} {σ1 : kdM} (hX : kdX E A cX12_ruleAt 8 RX12 (some .int) 0) : ∀ (l0 : Nat) (l1 : Int32) (l2 : Int32) (l3 : Int32) (l4 : Int32) (σ : kdM), X12_ruleAt_7 G l0 l1 l2 l3 l4 σ = some (r, σ1) → SW E G (.inl (some (.int r), σ1)) A 8 σ 7 [(0, kr E l0), (1, .int l1), (2, .int l2), (3, .int l3), (4, .int l4)] [] :=
  lp_ind (Q := fun f => ∀ (l0 : Nat) (l1 : Int32) (l2 : Int32) (l3 : Int32) (l4 : Int32) (σ : kdM), f l0 l1 l2 l3 l4 σ = some (r, σ1) → SW E G (.inl (some (.int r), σ1)) A 8 σ 7 [(0, kr E l0), (1, .int l1), (2, .int l2), (3, .int l3), (4, .int l4)] []) (by intros; contradiction) (fun k hk l0 l1 l2 l3 l4 σ h => wX12_ruleAt_7B hX k hk h) NN
def X12_ruleAt (G : kdS) (l0 : Nat) (l1 : Int32) : kdM → Option (Int32 × kdM) :=
  X12_ruleAt_7 G l0 l1 (-1 : Int32) (0 : Int32) (0 : Int32)
set_option maxRecDepth 100000 in
set_option maxHeartbeats 4000000 in
theorem wX12_ruleAt {E : kdE} {G : kdS} {l0 : Nat} {l1 : Int32} {σ : kdM} {r : Int32} {σ1 : kdM} (h : X12_ruleAt G l0 l1 σ = some (r, σ1)) : Con E G yX12_ruleAt cX12_ruleAt 8 (some .int) 0 [kr E l0, .int l1] σ (some (.int r), σ1) := by
  refine kd_head (own := RX12) rfl (by decide +kernel) (Nat.le_of_ble_eq_true rfl) (fun A hX => ?_)
  show SW E G (.inl (some (.int r), σ1)) A 8 σ 0 [(0, kr E l0), (1, .int l1)] []
  unfold X12_ruleAt at h
  refine r_iconst hX dX12_ruleAt_0 kk_i_m1 ?_
  refine r_istore_n (L2 := [(2, .int (-1 : Int32)), (0, kr E l0), (1, .int l1)]) hX dX12_ruleAt_1 rfl (by decide) rfl ?_
  refine r_iconst hX dX12_ruleAt_2 kk_i_0 ?_
  refine r_istore_n (L2 := [(3, .int (0 : Int32)), (2, .int (-1 : Int32)), (0, kr E l0), (1, .int l1)]) hX dX12_ruleAt_3 rfl (by decide) rfl ?_
  refine r_iconst hX dX12_ruleAt_4 kk_i_0 ?_
  refine r_istore (L2 := [(4, .int (0 : Int32)), (3, .int (0 : Int32)), (2, .int (-1 : Int32)), (0, kr E l0), (1, .int l1)]) hX dX12_ruleAt_5 (by decide) rfl ?_
  refine r_sub [3, 4, 2, 1, 0] rfl ?_
  exact wX12_ruleAt_7 hX _ _ _ _ _ _ h
def X12_joinOf_62 (G : kdS) (k2 : Nat → Int32 → Int32 → Int32 → kdM → Option (Int32 × kdM)) (l0 : Nat) (l1 : Int32) (l2 : Int32) (l3 : Int32) : kdM → Option (Int32 × kdM) :=
  ltI (l3 + Int32.ofInt 1) fun t1 =>
  k2 l0 l1 l2 t1
set_option maxRecDepth 100000 in
set_option maxHeartbeats 4000000 in
theorem wX12_joinOf_62 {E : kdE} {G : kdS} {A : kdA} {r : Int32} {σ1 : kdM} (hX : kdX E A cX12_joinOf 5 RX12 (some .int) 0) (k2 : Nat → Int32 → Int32 → Int32 → kdM → Option (Int32 × kdM)) (hk2 : ∀ (l0 : Nat) (l1 : Int32) (l2 : Int32) (l3 : Int32) (σ : kdM), k2 l0 l1 l2 l3 σ = some (r, σ1) → SW E G (.inl (some (.int r), σ1)) A 5 σ 2 [(0, kr E l0), (1, .int l1), (2, .int l2), (3, .int l3)] []) {σ : kdM} {l0 : Nat} {l1 : Int32} {l2 : Int32} {l3 : Int32} (h : X12_joinOf_62 G k2 l0 l1 l2 l3 σ = some (r, σ1)) : SW E G (.inl (some (.int r), σ1)) A 5 σ 62 [(0, kr E l0), (1, .int l1), (2, .int l2), (3, .int l3)] [] := by
  unfold X12_joinOf_62 at h
  refine r_iincL (L2 := fun t1 => [(3, .int t1), (0, kr E l0), (1, .int l1), (2, .int l2)]) hX dX12_joinOf_62 h 3 rfl (by decide) (fun _ => rfl) ?_
  clear h; intro t1 h
  refine r_goto (tgt := 2) hX dX12_joinOf_65 (by decide) ?_
  refine r_sub [1, 2, 3, 0] rfl ?_
  exact hk2 _ _ _ _ _ h
def X12_joinOf_2B (G : kdS) (k2 : Nat → Int32 → Int32 → Int32 → kdM → Option (Int32 × kdM)) (l0 : Nat) (l1 : Int32) (l2 : Int32) (l3 : Int32) : kdM → Option (Int32 × kdM) :=
  gR G 12 13 l0 fun t1 =>
  gI G 12 18 l0 fun t2 =>
  aI G t1 (t2) fun t3 =>
  cnd (t3 ≤ l3)
    (rt (0 : Int32))
    (gI G 12 18 l0 fun t4 =>
    ltI (((3 : Int32) * (((12 : Int32) * t4) + l3))) fun t5 =>
    gR G 12 12 l0 fun t6 =>
    aI G t6 (t5) fun t7 =>
    cnd (t7 = l1)
      (gR G 12 12 l0 fun t8 =>
      aI G t8 ((t5 + (1 : Int32))) fun t9 =>
      cnd (t9 = l2)
        (gR G 12 12 l0 fun t10 =>
        aI G t10 ((t5 + (2 : Int32))) fun t11 =>
        rt t11)
        (X12_joinOf_62 G k2 l0 l1 l2 l3))
      (X12_joinOf_62 G k2 l0 l1 l2 l3))
set_option maxRecDepth 100000 in
set_option maxHeartbeats 4000000 in
theorem wX12_joinOf_2B {E : kdE} {G : kdS} {A : kdA} {r : Int32} {σ1 : kdM} (hX : kdX E A cX12_joinOf 5 RX12 (some .int) 0) (k2 : Nat → Int32 → Int32 → Int32 → kdM → Option (Int32 × kdM)) (hk2 : ∀ (l0 : Nat) (l1 : Int32) (l2 : Int32) (l3 : Int32) (σ : kdM), k2 l0 l1 l2 l3 σ = some (r, σ1) → SW E G (.inl (some (.int r), σ1)) A 5 σ 2 [(0, kr E l0), (1, .int l1), (2, .int l2), (3, .int l3)] []) {σ : kdM} {l0 : Nat} {l1 : Int32} {l2 : Int32} {l3 : Int32} (h : X12_joinOf_2B G k2 l0 l1 l2 l3 σ = some (r, σ1)) : SW E G (.inl (some (.int r), σ1)) A 5 σ 2 [(0, kr E l0), (1, .int l1), (2, .int l2), (3, .int l3)] [] := by
  unfold X12_joinOf_2B at h
  refine r_iload_n hX dX12_joinOf_2 rfl 3 rfl ?_
  refine r_aload_n hX dX12_joinOf_3 rfl 0 rfl ?_
  refine r_gR hX dX12_joinOf_4 kf_X12_41 rfl h ?_
  clear h; intro t1 h
  refine r_aload_n hX dX12_joinOf_7 rfl 0 rfl ?_
  refine r_gI hX dX12_joinOf_8 kf_X12_215 rfl h ?_
  clear h; intro t2 h
  refine r_aI hX dX12_joinOf_11 h ?_
  clear h; intro t3 h
  refine r_icmp_ge (tgt := 68) hX dX12_joinOf_12 (by decide) h ?_ ?_
  · clear h; intro h
    refine r_iconst hX dX12_joinOf_68 kk_i_0 ?_
    exact r_iret hX dX12_joinOf_69 h
  · clear h; intro h
    refine r_iconst hX dX12_joinOf_15 kk_i_3 ?_
    refine r_bipush hX dX12_joinOf_16 kk_b_12 ?_
    refine r_aload_n hX dX12_joinOf_18 rfl 0 rfl ?_
    refine r_gI hX dX12_joinOf_19 kf_X12_215 rfl h ?_
    clear h; intro t4 h
    refine r_imul hX dX12_joinOf_22 ?_
    refine r_iload_n hX dX12_joinOf_23 rfl 3 rfl ?_
    refine r_iadd hX dX12_joinOf_24 ?_
    refine r_imul hX dX12_joinOf_25 ?_
    refine r_letI h ?_
    clear h; intro t5 h
    refine r_istore (L2 := [(4, .int t5), (0, kr E l0), (1, .int l1), (2, .int l2), (3, .int l3)]) hX dX12_joinOf_26 (by decide) rfl ?_
    refine r_aload_n hX dX12_joinOf_28 rfl 1 rfl ?_
    refine r_gR hX dX12_joinOf_29 kf_X12_38 rfl h ?_
    clear h; intro t6 h
    refine r_iload hX dX12_joinOf_32 0 rfl ?_
    refine r_aI hX dX12_joinOf_34 h ?_
    clear h; intro t7 h
    refine r_iload_n hX dX12_joinOf_35 rfl 2 rfl ?_
    refine r_icmp_ne (tgt := 62) hX dX12_joinOf_36 (by decide) h ?_ ?_
    · clear h; intro h
      refine r_aload_n hX dX12_joinOf_39 rfl 1 rfl ?_
      refine r_gR hX dX12_joinOf_40 kf_X12_38 rfl h ?_
      clear h; intro t8 h
      refine r_iload hX dX12_joinOf_43 0 rfl ?_
      refine r_iconst hX dX12_joinOf_45 kk_i_1 ?_
      refine r_iadd hX dX12_joinOf_46 ?_
      refine r_aI hX dX12_joinOf_47 h ?_
      clear h; intro t9 h
      refine r_iload_n hX dX12_joinOf_48 rfl 3 rfl ?_
      refine r_icmp_ne (tgt := 62) hX dX12_joinOf_49 (by decide) h ?_ ?_
      · clear h; intro h
        refine r_aload_n hX dX12_joinOf_52 rfl 1 rfl ?_
        refine r_gR hX dX12_joinOf_53 kf_X12_38 rfl h ?_
        clear h; intro t10 h
        refine r_iload hX dX12_joinOf_56 0 rfl ?_
        refine r_iconst hX dX12_joinOf_58 kk_i_2 ?_
        refine r_iadd hX dX12_joinOf_59 ?_
        refine r_aI hX dX12_joinOf_60 h ?_
        clear h; intro t11 h
        exact r_iret hX dX12_joinOf_61 h
      · clear h; intro h
        refine r_sub [1, 2, 3, 4] rfl ?_
        exact wX12_joinOf_62 hX k2 hk2 h
    · clear h; intro h
      refine r_sub [1, 2, 3, 4] rfl ?_
      exact wX12_joinOf_62 hX k2 hk2 h
def X12_joinOf_2 (G : kdS) : Nat → Int32 → Int32 → Int32 → kdM → Option (Int32 × kdM) := lp (fun _ _ _ _ _ => none) (X12_joinOf_2B G) NN
theorem wX12_joinOf_2 {E : kdE} {G : kdS} {A : kdA} {r : Int32} {σ1 : kdM} (hX : kdX E A cX12_joinOf 5 RX12 (some .int) 0) : ∀ (l0 : Nat) (l1 : Int32) (l2 : Int32) (l3 : Int32) (σ : kdM), X12_joinOf_2 G l0 l1 l2 l3 σ = some (r, σ1) → SW E G (.inl (some (.int r), σ1)) A 5 σ 2 [(0, kr E l0), (1, .int l1), (2, .int l2), (3, .int l3)] [] :=
  lp_ind (Q := fun f => ∀ (l0 : Nat) (l1 : Int32) (l2 : Int32) (l3 : Int32) (σ : kdM), f l0 l1 l2 l3 σ = some (r, σ1) → SW E G (.inl (some (.int r), σ1)) A 5 σ 2 [(0, kr E l0), (1, .int l1), (2, .int l2), (3, .int l3)] []) (by intros; contradiction) (fun k hk l0 l1 l2 l3 σ h => wX12_joinOf_2B hX k hk h) NN
def X12_joinOf (G : kdS) (l0 : Nat) (l1 : Int32) (l2 : Int32) : kdM → Option (Int32 × kdM) :=
  X12_joinOf_2 G l0 l1 l2 (0 : Int32)
set_option maxRecDepth 100000 in
set_option maxHeartbeats 4000000 in
theorem wX12_joinOf {E : kdE} {G : kdS} {l0 : Nat} {l1 : Int32} {l2 : Int32} {σ : kdM} {r : Int32} {σ1 : kdM} (h : X12_joinOf G l0 l1 l2 σ = some (r, σ1)) : Con E G yX12_joinOf cX12_joinOf 5 (some .int) 0 [kr E l0, .int l1, .int l2] σ (some (.int r), σ1) := by
  refine kd_head (own := RX12) rfl (by decide +kernel) (Nat.le_of_ble_eq_true rfl) (fun A hX => ?_)
  show SW E G (.inl (some (.int r), σ1)) A 5 σ 0 [(0, kr E l0), (1, .int l1), (2, .int l2)] []
  unfold X12_joinOf at h
  refine r_iconst hX dX12_joinOf_0 kk_i_0 ?_
  refine r_istore_n (L2 := [(3, .int (0 : Int32)), (0, kr E l0), (1, .int l1), (2, .int l2)]) hX dX12_joinOf_1 rfl (by decide) rfl ?_
  refine r_sub [1, 2, 3, 0] rfl ?_
  exact wX12_joinOf_2 hX _ _ _ _ _ h
def X12_come_79 (G : kdS) (k4 : Nat → Int32 → Int32 → kdM → Option (Unit × kdM)) (l0 : Nat) (l2 : Int32) (l3 : Int32) : kdM → Option (Unit × kdM) :=
  k4 l0 l2 l3
set_option maxRecDepth 100000 in
set_option maxHeartbeats 4000000 in
theorem wX12_come_79 {E : kdE} {G : kdS} {A : kdA} {r : Unit} {σ1 : kdM} (hX : kdX E A cX12_come 5 RX12 none 1) (k4 : Nat → Int32 → Int32 → kdM → Option (Unit × kdM)) (hk4 : ∀ (l0 : Nat) (l2 : Int32) (l3 : Int32) (σ : kdM), k4 l0 l2 l3 σ = some (r, σ1) → SW E G (.inl (none, σ1)) A 5 σ 4 [(0, kr E l0), (2, .int l2), (3, .int l3)] []) {σ : kdM} {l0 : Nat} {l2 : Int32} {l3 : Int32} (h : X12_come_79 G k4 l0 l2 l3 σ = some (r, σ1)) : SW E G (.inl (none, σ1)) A 5 σ 79 [(0, kr E l0), (2, .int l2), (3, .int l3)] [] := by
  unfold X12_come_79 at h
  refine r_goto (tgt := 4) hX dX12_come_79 (by decide) ?_
  refine r_sub [0, 1, 2] rfl ?_
  exact hk4 _ _ _ _ h
def X12_come_61 (G : kdS) (k4 : Nat → Int32 → Int32 → kdM → Option (Unit × kdM)) (l0 : Nat) (l2 : Int32) (l4 : Int32) (s0 : Int32) : kdM → Option (Unit × kdM) :=
  cnd (s0 = 0)
    (X12_come_79 G k4 l0 l2 s0)
    (gI G 12 23 l0 fun t1 =>
    sI G 12 23 l0 ((t1 - (1 : Int32))) <|
    X12_come_79 G k4 l0 l4 s0)
set_option maxRecDepth 100000 in
set_option maxHeartbeats 4000000 in
theorem wX12_come_61 {E : kdE} {G : kdS} {A : kdA} {r : Unit} {σ1 : kdM} (hX : kdX E A cX12_come 5 RX12 none 1) (k4 : Nat → Int32 → Int32 → kdM → Option (Unit × kdM)) (hk4 : ∀ (l0 : Nat) (l2 : Int32) (l3 : Int32) (σ : kdM), k4 l0 l2 l3 σ = some (r, σ1) → SW E G (.inl (none, σ1)) A 5 σ 4 [(0, kr E l0), (2, .int l2), (3, .int l3)] []) {σ : kdM} {l0 : Nat} {l2 : Int32} {l4 : Int32} {s0 : Int32} (h : X12_come_61 G k4 l0 l2 l4 s0 σ = some (r, σ1)) : SW E G (.inl (none, σ1)) A 5 σ 61 [(0, kr E l0), (2, .int l2), (4, .int l4)] [.int s0] := by
  unfold X12_come_61 at h
  refine r_istore_n (L2 := [(3, .int s0), (0, kr E l0), (2, .int l2), (4, .int l4)]) hX dX12_come_61 rfl (by decide) rfl ?_
  refine r_iload_n hX dX12_come_62 rfl 0 rfl ?_
  refine r_if_eq (tgt := 79) hX dX12_come_63 (by decide) h ?_ ?_
  · clear h; intro h
    refine r_sub [1, 2, 0] rfl ?_
    exact wX12_come_79 hX k4 hk4 h
  · clear h; intro h
    refine r_aload_n hX dX12_come_66 rfl 1 rfl ?_
    refine r_dup hX dX12_come_67 rfl ?_
    refine r_gI hX dX12_come_68 kf_X12_224 rfl h ?_
    clear h; intro t1 h
    refine r_iconst hX dX12_come_71 kk_i_1 ?_
    refine r_isub hX dX12_come_72 ?_
    refine r_sI hX dX12_come_73 kf_X12_224 rfl (by intro q hq; cases hq; rfl) h ?_
    clear h; intro σ h
    refine r_iload hX dX12_come_76 3 rfl ?_
    refine r_istore_n (L2 := [(2, .int l4), (3, .int s0), (0, kr E l0), (4, .int l4)]) hX dX12_come_78 rfl (by decide) rfl ?_
    refine r_sub [2, 0, 1] rfl ?_
    exact wX12_come_79 hX k4 hk4 h
def X12_come_49 (G : kdS) (k4 : Nat → Int32 → Int32 → kdM → Option (Unit × kdM)) (l0 : Nat) (l2 : Int32) (s0 : Int32) : kdM → Option (Unit × kdM) :=
  cnd (s0 ≤ 0)
    (X12_come_61 G k4 l0 l2 s0 (0 : Int32))
    (X12_come_61 G k4 l0 l2 s0 (1 : Int32))
set_option maxRecDepth 100000 in
set_option maxHeartbeats 4000000 in
theorem wX12_come_49 {E : kdE} {G : kdS} {A : kdA} {r : Unit} {σ1 : kdM} (hX : kdX E A cX12_come 5 RX12 none 1) (k4 : Nat → Int32 → Int32 → kdM → Option (Unit × kdM)) (hk4 : ∀ (l0 : Nat) (l2 : Int32) (l3 : Int32) (σ : kdM), k4 l0 l2 l3 σ = some (r, σ1) → SW E G (.inl (none, σ1)) A 5 σ 4 [(0, kr E l0), (2, .int l2), (3, .int l3)] []) {σ : kdM} {l0 : Nat} {l2 : Int32} {s0 : Int32} (h : X12_come_49 G k4 l0 l2 s0 σ = some (r, σ1)) : SW E G (.inl (none, σ1)) A 5 σ 49 [(0, kr E l0), (2, .int l2)] [.int s0] := by
  unfold X12_come_49 at h
  refine r_istore (L2 := [(4, .int s0), (0, kr E l0), (2, .int l2)]) hX dX12_come_49 (by decide) rfl ?_
  refine r_iload hX dX12_come_51 0 rfl ?_
  refine r_if_le (tgt := 60) hX dX12_come_53 (by decide) h ?_ ?_
  · clear h; intro h
    refine r_iconst hX dX12_come_60 kk_i_0 ?_
    refine r_sub [1, 2, 0] rfl ?_
    exact wX12_come_61 hX k4 hk4 h
  · clear h; intro h
    refine r_iconst hX dX12_come_56 kk_i_1 ?_
    refine r_goto (tgt := 61) hX dX12_come_57 (by decide) ?_
    refine r_sub [1, 2, 0] rfl ?_
    exact wX12_come_61 hX k4 hk4 h
def X12_come_48 (G : kdS) (k4 : Nat → Int32 → Int32 → kdM → Option (Unit × kdM)) (l0 : Nat) (l2 : Int32) : kdM → Option (Unit × kdM) :=
  X12_come_49 G k4 l0 l2 (0 : Int32)
set_option maxRecDepth 100000 in
set_option maxHeartbeats 4000000 in
theorem wX12_come_48 {E : kdE} {G : kdS} {A : kdA} {r : Unit} {σ1 : kdM} (hX : kdX E A cX12_come 5 RX12 none 1) (k4 : Nat → Int32 → Int32 → kdM → Option (Unit × kdM)) (hk4 : ∀ (l0 : Nat) (l2 : Int32) (l3 : Int32) (σ : kdM), k4 l0 l2 l3 σ = some (r, σ1) → SW E G (.inl (none, σ1)) A 5 σ 4 [(0, kr E l0), (2, .int l2), (3, .int l3)] []) {σ : kdM} {l0 : Nat} {l2 : Int32} (h : X12_come_48 G k4 l0 l2 σ = some (r, σ1)) : SW E G (.inl (none, σ1)) A 5 σ 48 [(0, kr E l0), (2, .int l2)] [] := by
  unfold X12_come_48 at h
  refine r_iconst hX dX12_come_48 kk_i_0 ?_
  refine r_sub [0, 1] rfl ?_
  exact wX12_come_49 hX k4 hk4 h
def X12_come_4B (G : kdS) (k4 : Nat → Int32 → Int32 → kdM → Option (Unit × kdM)) (l0 : Nat) (l2 : Int32) (l3 : Int32) : kdM → Option (Unit × kdM) :=
  cnd (l3 = 0)
    (gR G 12 22 l0 fun t1 =>
    gI G 12 23 l0 fun t2 =>
    tI G t1 (t2) (l2) <|
    gI G 12 23 l0 fun t3 =>
    sI G 12 23 l0 ((t3 + (1 : Int32))) <|
    rt ())
    (gI G 12 23 l0 fun t4 =>
    cnd (t4 ≤ 0)
      (X12_come_48 G k4 l0 l2)
      (gR G 12 22 l0 fun t5 =>
      gI G 12 23 l0 fun t6 =>
      aI G t5 ((t6 - (1 : Int32))) fun t7 =>
      cnd (t7 ≤ 0)
        (X12_come_48 G k4 l0 l2)
        (gR G 12 22 l0 fun t8 =>
        gI G 12 23 l0 fun t9 =>
        aI G t8 ((t9 - (1 : Int32))) fun t10 =>
        kcv G 12 l0 (X12_joinOf G l0 t10 l2) fun t11 =>
        X12_come_49 G k4 l0 l2 t11)))
set_option maxRecDepth 100000 in
set_option maxHeartbeats 4000000 in
theorem wX12_come_4B {E : kdE} {G : kdS} {A : kdA} {r : Unit} {σ1 : kdM} (hX : kdX E A cX12_come 5 RX12 none 1) (k4 : Nat → Int32 → Int32 → kdM → Option (Unit × kdM)) (hk4 : ∀ (l0 : Nat) (l2 : Int32) (l3 : Int32) (σ : kdM), k4 l0 l2 l3 σ = some (r, σ1) → SW E G (.inl (none, σ1)) A 5 σ 4 [(0, kr E l0), (2, .int l2), (3, .int l3)] []) {σ : kdM} {l0 : Nat} {l2 : Int32} {l3 : Int32} (h : X12_come_4B G k4 l0 l2 l3 σ = some (r, σ1)) : SW E G (.inl (none, σ1)) A 5 σ 4 [(0, kr E l0), (2, .int l2), (3, .int l3)] [] := by
  unfold X12_come_4B at h
  refine r_iload_n hX dX12_come_4 rfl 2 rfl ?_
  refine r_if_eq (tgt := 82) hX dX12_come_5 (by decide) h ?_ ?_
  · clear h; intro h
    refine r_aload_n hX dX12_come_82 rfl 0 rfl ?_
    refine r_gR hX dX12_come_83 kf_X12_59 rfl h ?_
    clear h; intro t1 h
    refine r_aload_n hX dX12_come_86 rfl 0 rfl ?_
    refine r_gI hX dX12_come_87 kf_X12_224 rfl h ?_
    clear h; intro t2 h
    refine r_iload_n hX dX12_come_90 rfl 1 rfl ?_
    refine r_tI hX dX12_come_91 h ?_
    clear h; intro σ h
    refine r_aload_n hX dX12_come_92 rfl 0 rfl ?_
    refine r_dup hX dX12_come_93 rfl ?_
    refine r_gI hX dX12_come_94 kf_X12_224 rfl h ?_
    clear h; intro t3 h
    refine r_iconst hX dX12_come_97 kk_i_1 ?_
    refine r_iadd hX dX12_come_98 ?_
    refine r_sI hX dX12_come_99 kf_X12_224 rfl (by intro q hq; cases hq; rfl) h ?_
    clear h; intro σ h
    exact r_vret hX dX12_come_102 h
  · clear h; intro h
    refine r_aload_n hX dX12_come_8 rfl 0 rfl ?_
    refine r_gI hX dX12_come_9 kf_X12_224 rfl h ?_
    clear h; intro t4 h
    refine r_if_le (tgt := 48) hX dX12_come_12 (by decide) h ?_ ?_
    · clear h; intro h
      refine r_sub [0, 1] rfl ?_
      exact wX12_come_48 hX k4 hk4 h
    · clear h; intro h
      refine r_aload_n hX dX12_come_15 rfl 0 rfl ?_
      refine r_gR hX dX12_come_16 kf_X12_59 rfl h ?_
      clear h; intro t5 h
      refine r_aload_n hX dX12_come_19 rfl 0 rfl ?_
      refine r_gI hX dX12_come_20 kf_X12_224 rfl h ?_
      clear h; intro t6 h
      refine r_iconst hX dX12_come_23 kk_i_1 ?_
      refine r_isub hX dX12_come_24 ?_
      refine r_aI hX dX12_come_25 h ?_
      clear h; intro t7 h
      refine r_if_le (tgt := 48) hX dX12_come_26 (by decide) h ?_ ?_
      · clear h; intro h
        refine r_sub [0, 1] rfl ?_
        exact wX12_come_48 hX k4 hk4 h
      · clear h; intro h
        refine r_aload_n hX dX12_come_29 rfl 0 rfl ?_
        refine r_aload_n hX dX12_come_30 rfl 0 rfl ?_
        refine r_gR hX dX12_come_31 kf_X12_59 rfl h ?_
        clear h; intro t8 h
        refine r_aload_n hX dX12_come_34 rfl 0 rfl ?_
        refine r_gI hX dX12_come_35 kf_X12_224 rfl h ?_
        clear h; intro t9 h
        refine r_iconst hX dX12_come_38 kk_i_1 ?_
        refine r_isub hX dX12_come_39 ?_
        refine r_aI hX dX12_come_40 h ?_
        clear h; intro t10 h
        refine r_iload_n hX dX12_come_41 rfl 1 rfl ?_
        refine r_cVi (As := [.int t10, .int l2]) (st := []) hX dX12_come_42 kl_X12_joinOf w_ml_X12_227 w_im_X12_joinOf w_se_X12_joinOf ⟨_, _, rfl⟩ (by decide) rfl (Nat.le_of_ble_eq_true rfl) rfl kdz0 h (fun r σ1 h => wX12_joinOf h) ?_
        clear h; intro t11 σ h
        refine r_goto (tgt := 49) hX dX12_come_45 (by decide) ?_
        refine r_sub [0, 1] rfl ?_
        exact wX12_come_49 hX k4 hk4 h
def X12_come_4 (G : kdS) : Nat → Int32 → Int32 → kdM → Option (Unit × kdM) := lp (fun _ _ _ _ => none) (X12_come_4B G) NN
theorem wX12_come_4 {E : kdE} {G : kdS} {A : kdA} {r : Unit} {σ1 : kdM} (hX : kdX E A cX12_come 5 RX12 none 1) : ∀ (l0 : Nat) (l2 : Int32) (l3 : Int32) (σ : kdM), X12_come_4 G l0 l2 l3 σ = some (r, σ1) → SW E G (.inl (none, σ1)) A 5 σ 4 [(0, kr E l0), (2, .int l2), (3, .int l3)] [] :=
  lp_ind (Q := fun f => ∀ (l0 : Nat) (l2 : Int32) (l3 : Int32) (σ : kdM), f l0 l2 l3 σ = some (r, σ1) → SW E G (.inl (none, σ1)) A 5 σ 4 [(0, kr E l0), (2, .int l2), (3, .int l3)] []) (by intros; contradiction) (fun k hk l0 l2 l3 σ h => wX12_come_4B hX k hk h) NN
def X12_come (G : kdS) (l0 : Nat) (l1 : Int32) : kdM → Option (Unit × kdM) :=
  X12_come_4 G l0 l1 (1 : Int32)
set_option maxRecDepth 100000 in
set_option maxHeartbeats 4000000 in
theorem wX12_come {E : kdE} {G : kdS} {l0 : Nat} {l1 : Int32} {σ : kdM} {r : Unit} {σ1 : kdM} (h : X12_come G l0 l1 σ = some (r, σ1)) : Con E G yX12_come cX12_come 5 none 1 [kr E l0, .int l1] σ (none, σ1) := by
  refine kd_head (own := RX12) rfl (by decide +kernel) (Nat.le_of_ble_eq_true rfl) (fun A hX => ?_)
  show SW E G (.inl (none, σ1)) A 5 σ 0 [(0, kr E l0), (1, .int l1)] []
  unfold X12_come at h
  refine r_iload_n hX dX12_come_0 rfl 1 rfl ?_
  refine r_istore_n (L2 := [(2, .int l1), (0, kr E l0), (1, .int l1)]) hX dX12_come_1 rfl (by decide) rfl ?_
  refine r_iconst hX dX12_come_2 kk_i_1 ?_
  refine r_istore_n (L2 := [(3, .int (1 : Int32)), (2, .int l1), (0, kr E l0), (1, .int l1)]) hX dX12_come_3 rfl (by decide) rfl ?_
  refine r_sub [2, 1, 0] rfl ?_
  exact wX12_come_4 hX _ _ _ _ h
def X12_walk_147 (G : kdS) (k12 : Nat → Int32 → kdM → Option (Unit × kdM)) (l0 : Nat) (l1 : Int32) : kdM → Option (Unit × kdM) :=
  k12 l0 l1
set_option maxRecDepth 100000 in
set_option maxHeartbeats 4000000 in
theorem wX12_walk_147 {E : kdE} {G : kdS} {A : kdA} {r : Unit} {σ1 : kdM} (hX : kdX E A cX12_walk 5 RX12 none 2) (k12 : Nat → Int32 → kdM → Option (Unit × kdM)) (hk12 : ∀ (l0 : Nat) (l1 : Int32) (σ : kdM), k12 l0 l1 σ = some (r, σ1) → SW E G (.inl (none, σ1)) A 5 σ 12 [(0, kr E l0), (1, .int l1)] []) {σ : kdM} {l0 : Nat} {l1 : Int32} (h : X12_walk_147 G k12 l0 l1 σ = some (r, σ1)) : SW E G (.inl (none, σ1)) A 5 σ 147 [(0, kr E l0), (1, .int l1)] [] := by
  unfold X12_walk_147 at h
  refine r_goto (tgt := 12) hX dX12_walk_147 (by decide) ?_
  refine r_sub [0, 1] rfl ?_
  exact hk12 _ _ _ h
def X12_walk_106B (G : kdS) (k12 : Nat → Int32 → kdM → Option (Unit × kdM)) (k106 : Nat → Int32 → Int32 → Int32 → kdM → Option (Unit × kdM)) (l0 : Nat) (l1 : Int32) (l3 : Int32) (l4 : Int32) : kdM → Option (Unit × kdM) :=
  gR G 12 10 l0 fun t1 =>
  aI G t1 (l3) fun t2 =>
  cnd (t2 ≤ l4)
    (gR G 12 8 l0 fun t3 =>
    aI G t3 (l3) fun t4 =>
    ltI ((l1 + t4)) fun t5 =>
    X12_walk_147 G k12 l0 t5)
    (gR G 12 9 l0 fun t6 =>
    aI G t6 ((((3 : Int32) * l3) + l4)) fun t7 =>
    kcv G 12 l0 (X12_come G l0 t7) fun _ =>
    ltI (l4 + Int32.ofInt 1) fun t8 =>
    k106 l0 l1 l3 t8)
set_option maxRecDepth 100000 in
set_option maxHeartbeats 4000000 in
theorem wX12_walk_106B {E : kdE} {G : kdS} {A : kdA} {r : Unit} {σ1 : kdM} (hX : kdX E A cX12_walk 5 RX12 none 2) (k12 : Nat → Int32 → kdM → Option (Unit × kdM)) (k106 : Nat → Int32 → Int32 → Int32 → kdM → Option (Unit × kdM)) (hk12 : ∀ (l0 : Nat) (l1 : Int32) (σ : kdM), k12 l0 l1 σ = some (r, σ1) → SW E G (.inl (none, σ1)) A 5 σ 12 [(0, kr E l0), (1, .int l1)] []) (hk106 : ∀ (l0 : Nat) (l1 : Int32) (l3 : Int32) (l4 : Int32) (σ : kdM), k106 l0 l1 l3 l4 σ = some (r, σ1) → SW E G (.inl (none, σ1)) A 5 σ 106 [(0, kr E l0), (1, .int l1), (3, .int l3), (4, .int l4)] []) {σ : kdM} {l0 : Nat} {l1 : Int32} {l3 : Int32} {l4 : Int32} (h : X12_walk_106B G k12 k106 l0 l1 l3 l4 σ = some (r, σ1)) : SW E G (.inl (none, σ1)) A 5 σ 106 [(0, kr E l0), (1, .int l1), (3, .int l3), (4, .int l4)] [] := by
  unfold X12_walk_106B at h
  refine r_iload hX dX12_walk_106 3 rfl ?_
  refine r_aload_n hX dX12_walk_108 rfl 0 rfl ?_
  refine r_gR hX dX12_walk_109 kf_X12_32 rfl h ?_
  clear h; intro t1 h
  refine r_iload_n hX dX12_walk_112 rfl 2 rfl ?_
  refine r_aI hX dX12_walk_113 h ?_
  clear h; intro t2 h
  refine r_icmp_ge (tgt := 138) hX dX12_walk_114 (by decide) h ?_ ?_
  · clear h; intro h
    refine r_iload_n hX dX12_walk_138 rfl 1 rfl ?_
    refine r_aload_n hX dX12_walk_139 rfl 0 rfl ?_
    refine r_gR hX dX12_walk_140 kf_X12_26 rfl h ?_
    clear h; intro t3 h
    refine r_iload_n hX dX12_walk_143 rfl 2 rfl ?_
    refine r_aI hX dX12_walk_144 h ?_
    clear h; intro t4 h
    refine r_iadd hX dX12_walk_145 ?_
    refine r_letI h ?_
    clear h; intro t5 h
    refine r_istore_n (L2 := [(1, .int t5), (0, kr E l0), (3, .int l3), (4, .int l4)]) hX dX12_walk_146 rfl (by decide) rfl ?_
    refine r_sub [1, 0] rfl ?_
    exact wX12_walk_147 hX k12 hk12 h
  · clear h; intro h
    refine r_aload_n hX dX12_walk_117 rfl 0 rfl ?_
    refine r_aload_n hX dX12_walk_118 rfl 0 rfl ?_
    refine r_gR hX dX12_walk_119 kf_X12_29 rfl h ?_
    clear h; intro t6 h
    refine r_iconst hX dX12_walk_122 kk_i_3 ?_
    refine r_iload_n hX dX12_walk_123 rfl 2 rfl ?_
    refine r_imul hX dX12_walk_124 ?_
    refine r_iload hX dX12_walk_125 3 rfl ?_
    refine r_iadd hX dX12_walk_127 ?_
    refine r_aI hX dX12_walk_128 h ?_
    clear h; intro t7 h
    refine r_cVv (As := [.int t7]) (st := []) hX dX12_walk_129 kl_X12_come w_ml_X12_238 w_im_X12_come w_se_X12_come ⟨_, _, rfl⟩ (by decide) rfl (Nat.le_of_ble_eq_true rfl) rfl kdz0 h (fun r σ1 h => wX12_come h) ?_
    clear h; intro u σ h
    refine r_iincL (L2 := fun t8 => [(4, .int t8), (0, kr E l0), (1, .int l1), (3, .int l3)]) hX dX12_walk_132 h 3 rfl (by decide) (fun _ => rfl) ?_
    clear h; intro t8 h
    refine r_goto (tgt := 106) hX dX12_walk_135 (by decide) ?_
    refine r_sub [1, 2, 3, 0] rfl ?_
    exact hk106 _ _ _ _ _ h
def X12_walk_106 (G : kdS) (k12 : Nat → Int32 → kdM → Option (Unit × kdM)) : Nat → Int32 → Int32 → Int32 → kdM → Option (Unit × kdM) := lp (fun _ _ _ _ _ => none) (X12_walk_106B G k12) NN
theorem wX12_walk_106 {E : kdE} {G : kdS} {A : kdA} {r : Unit} {σ1 : kdM} (hX : kdX E A cX12_walk 5 RX12 none 2) (k12 : Nat → Int32 → kdM → Option (Unit × kdM)) (hk12 : ∀ (l0 : Nat) (l1 : Int32) (σ : kdM), k12 l0 l1 σ = some (r, σ1) → SW E G (.inl (none, σ1)) A 5 σ 12 [(0, kr E l0), (1, .int l1)] []) : ∀ (l0 : Nat) (l1 : Int32) (l3 : Int32) (l4 : Int32) (σ : kdM), X12_walk_106 G k12 l0 l1 l3 l4 σ = some (r, σ1) → SW E G (.inl (none, σ1)) A 5 σ 106 [(0, kr E l0), (1, .int l1), (3, .int l3), (4, .int l4)] [] :=
  lp_ind (Q := fun f => ∀ (l0 : Nat) (l1 : Int32) (l3 : Int32) (l4 : Int32) (σ : kdM), f l0 l1 l3 l4 σ = some (r, σ1) → SW E G (.inl (none, σ1)) A 5 σ 106 [(0, kr E l0), (1, .int l1), (3, .int l3), (4, .int l4)] []) (by intros; contradiction) (fun k hk l0 l1 l3 l4 σ h => wX12_walk_106B hX k12 k hk12 hk h) NN
def X12_walk_12B (G : kdS) (k12 : Nat → Int32 → kdM → Option (Unit × kdM)) (l0 : Nat) (l1 : Int32) : kdM → Option (Unit × kdM) :=
  gI G 12 17 l0 fun t1 =>
  cnd (t1 ≤ l1)
    (rt ())
    (kcv G 12 l0 (X12_ruleAt G l0 l1) fun t2 =>
    gR G 12 19 l0 fun t3 =>
    gI G 12 21 l0 fun t4 =>
    tI G t3 (t4) (t2) <|
    gR G 12 20 l0 fun t5 =>
    gI G 12 21 l0 fun t6 =>
    tI G t5 (t6) (l1) <|
    gI G 12 21 l0 fun t7 =>
    sI G 12 21 l0 ((t7 + (1 : Int32))) <|
    cnd (0 ≤ t2)
      (gI G 12 18 l0 fun t8 =>
      ltI ((((24 : Int32) * t8) + t2)) fun t9 =>
      X12_walk_106 G k12 l0 l1 t9 (0 : Int32))
      (gR G 12 22 l0 fun t10 =>
      gI G 12 23 l0 fun t11 =>
      gR G 12 16 l0 fun t12 =>
      aI G t12 (l1) fun t13 =>
      tI G t10 (t11) (((-1 : Int32) - t13)) <|
      gI G 12 23 l0 fun t14 =>
      sI G 12 23 l0 ((t14 + (1 : Int32))) <|
      ltI (l1 + Int32.ofInt 1) fun t15 =>
      X12_walk_147 G k12 l0 t15))
set_option maxRecDepth 100000 in
set_option maxHeartbeats 4000000 in
theorem wX12_walk_12B {E : kdE} {G : kdS} {A : kdA} {r : Unit} {σ1 : kdM} (hX : kdX E A cX12_walk 5 RX12 none 2) (k12 : Nat → Int32 → kdM → Option (Unit × kdM)) (hk12 : ∀ (l0 : Nat) (l1 : Int32) (σ : kdM), k12 l0 l1 σ = some (r, σ1) → SW E G (.inl (none, σ1)) A 5 σ 12 [(0, kr E l0), (1, .int l1)] []) {σ : kdM} {l0 : Nat} {l1 : Int32} (h : X12_walk_12B G k12 l0 l1 σ = some (r, σ1)) : SW E G (.inl (none, σ1)) A 5 σ 12 [(0, kr E l0), (1, .int l1)] [] := by
  unfold X12_walk_12B at h
  refine r_iload_n hX dX12_walk_12 rfl 1 rfl ?_
  refine r_aload_n hX dX12_walk_13 rfl 0 rfl ?_
  refine r_gI hX dX12_walk_14 kf_X12_218 rfl h ?_
  clear h; intro t1 h
  refine r_icmp_ge (tgt := 150) hX dX12_walk_17 (by decide) h ?_ ?_
  · clear h; intro h
    exact r_vret hX dX12_walk_150 h
  · clear h; intro h
    refine r_aload_n hX dX12_walk_20 rfl 0 rfl ?_
    refine r_iload_n hX dX12_walk_21 rfl 1 rfl ?_
    refine r_cVi (As := [.int l1]) (st := []) hX dX12_walk_22 kl_X12_ruleAt w_ml_X12_234 w_im_X12_ruleAt w_se_X12_ruleAt ⟨_, _, rfl⟩ (by decide) rfl (Nat.le_of_ble_eq_true rfl) rfl kdz0 h (fun r σ1 h => wX12_ruleAt h) ?_
    clear h; intro t2 σ h
    refine r_istore_n (L2 := [(2, .int t2), (0, kr E l0), (1, .int l1)]) hX dX12_walk_25 rfl (by decide) rfl ?_
    refine r_aload_n hX dX12_walk_26 rfl 1 rfl ?_
    refine r_gR hX dX12_walk_27 kf_X12_53 rfl h ?_
    clear h; intro t3 h
    refine r_aload_n hX dX12_walk_30 rfl 1 rfl ?_
    refine r_gI hX dX12_walk_31 kf_X12_231 rfl h ?_
    clear h; intro t4 h
    refine r_iload_n hX dX12_walk_34 rfl 0 rfl ?_
    refine r_tI hX dX12_walk_35 h ?_
    clear h; intro σ h
    refine r_aload_n hX dX12_walk_36 rfl 1 rfl ?_
    refine r_gR hX dX12_walk_37 kf_X12_56 rfl h ?_
    clear h; intro t5 h
    refine r_aload_n hX dX12_walk_40 rfl 1 rfl ?_
    refine r_gI hX dX12_walk_41 kf_X12_231 rfl h ?_
    clear h; intro t6 h
    refine r_iload_n hX dX12_walk_44 rfl 2 rfl ?_
    refine r_tI hX dX12_walk_45 h ?_
    clear h; intro σ h
    refine r_aload_n hX dX12_walk_46 rfl 1 rfl ?_
    refine r_dup hX dX12_walk_47 rfl ?_
    refine r_gI hX dX12_walk_48 kf_X12_231 rfl h ?_
    clear h; intro t7 h
    refine r_iconst hX dX12_walk_51 kk_i_1 ?_
    refine r_iadd hX dX12_walk_52 ?_
    refine r_sI hX dX12_walk_53 kf_X12_231 rfl (by intro q hq; cases hq; rfl) h ?_
    clear h; intro σ h
    refine r_iload_n hX dX12_walk_56 rfl 0 rfl ?_
    refine r_if_ge (tgt := 93) hX dX12_walk_57 (by decide) h ?_ ?_
    · clear h; intro h
      refine r_bipush hX dX12_walk_93 kk_b_24 ?_
      refine r_aload_n hX dX12_walk_95 rfl 1 rfl ?_
      refine r_gI hX dX12_walk_96 kf_X12_215 rfl h ?_
      clear h; intro t8 h
      refine r_imul hX dX12_walk_99 ?_
      refine r_iload_n hX dX12_walk_100 rfl 0 rfl ?_
      refine r_iadd hX dX12_walk_101 ?_
      refine r_letI h ?_
      clear h; intro t9 h
      refine r_istore_n (L2 := [(3, .int t9), (2, .int t2), (0, kr E l0), (1, .int l1)]) hX dX12_walk_102 rfl (by decide) rfl ?_
      refine r_iconst hX dX12_walk_103 kk_i_0 ?_
      refine r_istore (L2 := [(4, .int (0 : Int32)), (3, .int t9), (2, .int t2), (0, kr E l0), (1, .int l1)]) hX dX12_walk_104 (by decide) rfl ?_
      refine r_sub [3, 4, 1, 0] rfl ?_
      exact wX12_walk_106 hX k12 hk12 _ _ _ _ _ h
    · clear h; intro h
      refine r_aload_n hX dX12_walk_60 rfl 1 rfl ?_
      refine r_gR hX dX12_walk_61 kf_X12_59 rfl h ?_
      clear h; intro t10 h
      refine r_aload_n hX dX12_walk_64 rfl 1 rfl ?_
      refine r_gI hX dX12_walk_65 kf_X12_224 rfl h ?_
      clear h; intro t11 h
      refine r_iconst hX dX12_walk_68 kk_i_m1 ?_
      refine r_aload_n hX dX12_walk_69 rfl 1 rfl ?_
      refine r_gR hX dX12_walk_70 kf_X12_50 rfl h ?_
      clear h; intro t12 h
      refine r_iload_n hX dX12_walk_73 rfl 2 rfl ?_
      refine r_aI hX dX12_walk_74 h ?_
      clear h; intro t13 h
      refine r_isub hX dX12_walk_75 ?_
      refine r_tI hX dX12_walk_76 h ?_
      clear h; intro σ h
      refine r_aload_n hX dX12_walk_77 rfl 1 rfl ?_
      refine r_dup hX dX12_walk_78 rfl ?_
      refine r_gI hX dX12_walk_79 kf_X12_224 rfl h ?_
      clear h; intro t14 h
      refine r_iconst hX dX12_walk_82 kk_i_1 ?_
      refine r_iadd hX dX12_walk_83 ?_
      refine r_sI hX dX12_walk_84 kf_X12_224 rfl (by intro q hq; cases hq; rfl) h ?_
      clear h; intro σ h
      refine r_iincL (L2 := fun t15 => [(1, .int t15), (2, .int t2), (0, kr E l0)]) hX dX12_walk_87 h 2 rfl (by decide) (fun _ => rfl) ?_
      clear h; intro t15 h
      refine r_goto (tgt := 147) hX dX12_walk_90 (by decide) ?_
      refine r_sub [2, 0] rfl ?_
      exact wX12_walk_147 hX k12 hk12 h
def X12_walk_12 (G : kdS) : Nat → Int32 → kdM → Option (Unit × kdM) := lp (fun _ _ _ => none) (X12_walk_12B G) NN
theorem wX12_walk_12 {E : kdE} {G : kdS} {A : kdA} {r : Unit} {σ1 : kdM} (hX : kdX E A cX12_walk 5 RX12 none 2) : ∀ (l0 : Nat) (l1 : Int32) (σ : kdM), X12_walk_12 G l0 l1 σ = some (r, σ1) → SW E G (.inl (none, σ1)) A 5 σ 12 [(0, kr E l0), (1, .int l1)] [] :=
  lp_ind (Q := fun f => ∀ (l0 : Nat) (l1 : Int32) (σ : kdM), f l0 l1 σ = some (r, σ1) → SW E G (.inl (none, σ1)) A 5 σ 12 [(0, kr E l0), (1, .int l1)] []) (by intros; contradiction) (fun k hk l0 l1 σ h => wX12_walk_12B hX k hk h) NN
def X12_walk (G : kdS) (l0 : Nat) : kdM → Option (Unit × kdM) :=
  sI G 12 21 l0 ((0 : Int32)) <|
  sI G 12 23 l0 ((0 : Int32)) <|
  X12_walk_12 G l0 (0 : Int32)
set_option maxRecDepth 100000 in
set_option maxHeartbeats 4000000 in
theorem wX12_walk {E : kdE} {G : kdS} {l0 : Nat} {σ : kdM} {r : Unit} {σ1 : kdM} (h : X12_walk G l0 σ = some (r, σ1)) : Con E G yX12_walk cX12_walk 5 none 2 [kr E l0] σ (none, σ1) := by
  refine kd_head (own := RX12) rfl (by decide +kernel) (Nat.le_of_ble_eq_true rfl) (fun A hX => ?_)
  show SW E G (.inl (none, σ1)) A 5 σ 0 [(0, kr E l0)] []
  unfold X12_walk at h
  refine r_aload_n hX dX12_walk_0 rfl 0 rfl ?_
  refine r_iconst hX dX12_walk_1 kk_i_0 ?_
  refine r_sI hX dX12_walk_2 kf_X12_231 rfl (by intro q hq; cases hq; rfl) h ?_
  clear h; intro σ h
  refine r_aload_n hX dX12_walk_5 rfl 0 rfl ?_
  refine r_iconst hX dX12_walk_6 kk_i_0 ?_
  refine r_sI hX dX12_walk_7 kf_X12_224 rfl (by intro q hq; cases hq; rfl) h ?_
  clear h; intro σ h
  refine r_iconst hX dX12_walk_10 kk_i_0 ?_
  refine r_istore_n (L2 := [(1, .int (0 : Int32)), (0, kr E l0)]) hX dX12_walk_11 rfl (by decide) rfl ?_
  refine r_sub [1, 0] rfl ?_
  exact wX12_walk_12 hX _ _ _ h
def X12_stands_45 (G : kdS) (s0 : Int32) : kdM → Option (Int32 × kdM) :=
  rt s0
set_option maxRecDepth 100000 in
set_option maxHeartbeats 4000000 in
theorem wX12_stands_45 {E : kdE} {G : kdS} {A : kdA} {r : Int32} {σ1 : kdM} (hX : kdX E A cX12_stands 2 RX12 (some .int) 3) {σ : kdM} {s0 : Int32} (h : X12_stands_45 G s0 σ = some (r, σ1)) : SW E G (.inl (some (.int r), σ1)) A 2 σ 45 [] [.int s0] := by
  unfold X12_stands_45 at h
  exact r_iret hX dX12_stands_45 h
def X12_stands (G : kdS) (l0 : Nat) (l1 : Int32) : kdM → Option (Int32 × kdM) :=
  cnd ((-1 : Int32) ≤ l1)
    (kcv G 12 l0 (X12_walk G l0) fun _ =>
    cnd (l1 = (-1 : Int32))
      (gI G 12 23 l0 fun t1 =>
      X12_stands_45 G t1)
      (gI G 12 23 l0 fun t2 =>
      cnd (t2 ≤ l1)
        (X12_stands_45 G (-1006 : Int32))
        (gR G 12 22 l0 fun t3 =>
        aI G t3 (l1) fun t4 =>
        X12_stands_45 G t4)))
    (rt (-1002 : Int32))
set_option maxRecDepth 100000 in
set_option maxHeartbeats 4000000 in
theorem wX12_stands {E : kdE} {G : kdS} {l0 : Nat} {l1 : Int32} {σ : kdM} {r : Int32} {σ1 : kdM} (h : X12_stands G l0 l1 σ = some (r, σ1)) : Con E G yX12_stands cX12_stands 2 (some .int) 3 [kr E l0, .int l1] σ (some (.int r), σ1) := by
  refine kd_head (own := RX12) rfl (by decide +kernel) (Nat.le_of_ble_eq_true rfl) (fun A hX => ?_)
  show SW E G (.inl (some (.int r), σ1)) A 2 σ 0 [(0, kr E l0), (1, .int l1)] []
  unfold X12_stands at h
  refine r_iload_n hX dX12_stands_0 rfl 1 rfl ?_
  refine r_iconst hX dX12_stands_1 kk_i_m1 ?_
  refine r_icmp_ge (tgt := 9) hX dX12_stands_2 (by decide) h ?_ ?_
  · clear h; intro h
    refine r_aload_n hX dX12_stands_9 rfl 0 rfl ?_
    refine r_cVv (As := []) (st := []) hX dX12_stands_10 kl_X12_walk w_ml_X12_241 w_im_X12_walk w_se_X12_walk ⟨_, _, rfl⟩ (by decide) rfl (Nat.le_of_ble_eq_true rfl) rfl kdz0 h (fun r σ1 h => wX12_walk h) ?_
    clear h; intro u σ h
    refine r_iload_n hX dX12_stands_13 rfl 1 rfl ?_
    refine r_iconst hX dX12_stands_14 kk_i_m1 ?_
    refine r_icmp_ne (tgt := 25) hX dX12_stands_15 (by decide) h ?_ ?_
    · clear h; intro h
      refine r_aload_n hX dX12_stands_18 rfl 0 rfl ?_
      refine r_gI hX dX12_stands_19 kf_X12_224 rfl h ?_
      clear h; intro t1 h
      refine r_goto (tgt := 45) hX dX12_stands_22 (by decide) ?_
      refine r_sub [] rfl ?_
      exact wX12_stands_45 hX h
    · clear h; intro h
      refine r_iload_n hX dX12_stands_25 rfl 1 rfl ?_
      refine r_aload_n hX dX12_stands_26 rfl 0 rfl ?_
      refine r_gI hX dX12_stands_27 kf_X12_224 rfl h ?_
      clear h; intro t2 h
      refine r_icmp_ge (tgt := 42) hX dX12_stands_30 (by decide) h ?_ ?_
      · clear h; intro h
        refine r_sipush hX dX12_stands_42 kk_s_m1006 ?_
        refine r_sub [] rfl ?_
        exact wX12_stands_45 hX h
      · clear h; intro h
        refine r_aload_n hX dX12_stands_33 rfl 0 rfl ?_
        refine r_gR hX dX12_stands_34 kf_X12_59 rfl h ?_
        clear h; intro t3 h
        refine r_iload_n hX dX12_stands_37 rfl 1 rfl ?_
        refine r_aI hX dX12_stands_38 h ?_
        clear h; intro t4 h
        refine r_goto (tgt := 45) hX dX12_stands_39 (by decide) ?_
        refine r_sub [] rfl ?_
        exact wX12_stands_45 hX h
  · clear h; intro h
    refine r_sipush hX dX12_stands_5 kk_s_m1002 ?_
    exact r_iret hX dX12_stands_8 h
def X12_piece_65 (G : kdS) (s0 : Int32) : kdM → Option (Int32 × kdM) :=
  rt s0
set_option maxRecDepth 100000 in
set_option maxHeartbeats 4000000 in
theorem wX12_piece_65 {E : kdE} {G : kdS} {A : kdA} {r : Int32} {σ1 : kdM} (hX : kdX E A cX12_piece 2 RX12 (some .int) 3) {σ : kdM} {s0 : Int32} (h : X12_piece_65 G s0 σ = some (r, σ1)) : SW E G (.inl (some (.int r), σ1)) A 2 σ 65 [] [.int s0] := by
  unfold X12_piece_65 at h
  exact r_iret hX dX12_piece_65 h
def X12_piece_52 (G : kdS) (l0 : Nat) (l1 : Int32) (s0 : Int32) (s1 : Int32) : kdM → Option (Int32 × kdM) :=
  gR G 12 20 l0 fun t1 =>
  aI G t1 (l1) fun t2 =>
  X12_piece_65 G ((s0 * s1) + t2)
set_option maxRecDepth 100000 in
set_option maxHeartbeats 4000000 in
theorem wX12_piece_52 {E : kdE} {G : kdS} {A : kdA} {r : Int32} {σ1 : kdM} (hX : kdX E A cX12_piece 2 RX12 (some .int) 3) {σ : kdM} {l0 : Nat} {l1 : Int32} {s0 : Int32} {s1 : Int32} (h : X12_piece_52 G l0 l1 s0 s1 σ = some (r, σ1)) : SW E G (.inl (some (.int r), σ1)) A 2 σ 52 [(0, kr E l0), (1, .int l1)] [.int s1, .int s0] := by
  unfold X12_piece_52 at h
  refine r_imul hX dX12_piece_52 ?_
  refine r_aload_n hX dX12_piece_53 rfl 0 rfl ?_
  refine r_gR hX dX12_piece_54 kf_X12_56 rfl h ?_
  clear h; intro t1 h
  refine r_iload_n hX dX12_piece_57 rfl 1 rfl ?_
  refine r_aI hX dX12_piece_58 h ?_
  clear h; intro t2 h
  refine r_iadd hX dX12_piece_59 ?_
  refine r_goto (tgt := 65) hX dX12_piece_60 (by decide) ?_
  refine r_sub [] rfl ?_
  exact wX12_piece_65 hX h
def X12_piece (G : kdS) (l0 : Nat) (l1 : Int32) : kdM → Option (Int32 × kdM) :=
  kcv G 12 l0 (X12_walk G l0) fun _ =>
  cnd (l1 = (-1 : Int32))
    (gI G 12 21 l0 fun t1 =>
    rt t1)
    (gI G 12 21 l0 fun t2 =>
    kcl (X12_in G (Int32.toInt64 l1) (0 : Int64) (Int32.toInt64 (t2 - (1 : Int32)))) fun t3 =>
    cnd (t3 = 0)
      (X12_piece_65 G (-6 : Int32))
      (gR G 12 19 l0 fun t4 =>
      aI G t4 (l1) fun t5 =>
      cnd (0 ≤ t5)
        (gR G 12 19 l0 fun t6 =>
        aI G t6 (l1) fun t7 =>
        X12_piece_52 G l0 l1 (100 : Int32) t7)
        (X12_piece_52 G l0 l1 (100 : Int32) (99 : Int32))))
set_option maxRecDepth 100000 in
set_option maxHeartbeats 4000000 in
theorem wX12_piece {E : kdE} {G : kdS} {l0 : Nat} {l1 : Int32} {σ : kdM} {r : Int32} {σ1 : kdM} (h : X12_piece G l0 l1 σ = some (r, σ1)) : Con E G yX12_piece cX12_piece 2 (some .int) 3 [kr E l0, .int l1] σ (some (.int r), σ1) := by
  refine kd_head (own := RX12) rfl (by decide +kernel) (Nat.le_of_ble_eq_true rfl) (fun A hX => ?_)
  show SW E G (.inl (some (.int r), σ1)) A 2 σ 0 [(0, kr E l0), (1, .int l1)] []
  unfold X12_piece at h
  refine r_aload_n hX dX12_piece_0 rfl 0 rfl ?_
  refine r_cVv (As := []) (st := []) hX dX12_piece_1 kl_X12_walk w_ml_X12_241 w_im_X12_walk w_se_X12_walk ⟨_, _, rfl⟩ (by decide) rfl (Nat.le_of_ble_eq_true rfl) rfl kdz0 h (fun r σ1 h => wX12_walk h) ?_
  clear h; intro u σ h
  refine r_iload_n hX dX12_piece_4 rfl 1 rfl ?_
  refine r_iconst hX dX12_piece_5 kk_i_m1 ?_
  refine r_icmp_ne (tgt := 14) hX dX12_piece_6 (by decide) h ?_ ?_
  · clear h; intro h
    refine r_aload_n hX dX12_piece_9 rfl 0 rfl ?_
    refine r_gI hX dX12_piece_10 kf_X12_231 rfl h ?_
    clear h; intro t1 h
    exact r_iret hX dX12_piece_13 h
  · clear h; intro h
    refine r_iload_n hX dX12_piece_14 rfl 1 rfl ?_
    refine r_i2l hX dX12_piece_15 ?_
    refine r_lconst hX dX12_piece_16 kk_l_0 ?_
    refine r_aload_n hX dX12_piece_17 rfl 0 rfl ?_
    refine r_gI hX dX12_piece_18 kf_X12_231 rfl h ?_
    clear h; intro t2 h
    refine r_iconst hX dX12_piece_21 kk_i_1 ?_
    refine r_isub hX dX12_piece_22 ?_
    refine r_i2l hX dX12_piece_23 ?_
    refine r_cSi (As := [.long (Int32.toInt64 l1), .long (0 : Int64), .long (Int32.toInt64 (t2 - (1 : Int32)))]) (st := []) hX dX12_piece_24 kl_X12_in w_ml_X12_178 w_st_X12_in (by decide) rfl (Nat.le_of_ble_eq_true rfl) rfl kdz0 h (fun r σ1 h => wX12_in h) ?_
    clear h; intro t3 σ h
    refine r_if_eq (tgt := 63) hX dX12_piece_27 (by decide) h ?_ ?_
    · clear h; intro h
      refine r_bipush hX dX12_piece_63 kk_b_m6 ?_
      refine r_sub [] rfl ?_
      exact wX12_piece_65 hX h
    · clear h; intro h
      refine r_bipush hX dX12_piece_30 kk_b_100 ?_
      refine r_aload_n hX dX12_piece_32 rfl 0 rfl ?_
      refine r_gR hX dX12_piece_33 kf_X12_53 rfl h ?_
      clear h; intro t4 h
      refine r_iload_n hX dX12_piece_36 rfl 1 rfl ?_
      refine r_aI hX dX12_piece_37 h ?_
      clear h; intro t5 h
      refine r_if_ge (tgt := 46) hX dX12_piece_38 (by decide) h ?_ ?_
      · clear h; intro h
        refine r_aload_n hX dX12_piece_46 rfl 0 rfl ?_
        refine r_gR hX dX12_piece_47 kf_X12_53 rfl h ?_
        clear h; intro t6 h
        refine r_iload_n hX dX12_piece_50 rfl 1 rfl ?_
        refine r_aI hX dX12_piece_51 h ?_
        clear h; intro t7 h
        refine r_sub [0, 1] rfl ?_
        exact wX12_piece_52 hX h
      · clear h; intro h
        refine r_bipush hX dX12_piece_41 kk_b_99 ?_
        refine r_goto (tgt := 52) hX dX12_piece_43 (by decide) ?_
        refine r_sub [0, 1] rfl ?_
        exact wX12_piece_52 hX h
def X12_could_157 (G : kdS) (k39 : Nat → Int32 → Int32 → Int32 → Int32 → kdM → Option (Int32 × kdM)) (l0 : Nat) (l1 : Int32) (l2 : Int32) (l4 : Int32) (s0 : Int32) (s1 : Int32) : kdM → Option (Int32 × kdM) :=
  ltI ((s0 ||| s1)) fun t1 =>
  ltI (l4 + Int32.ofInt 1) fun t2 =>
  k39 l0 l1 l2 t1 t2
set_option maxRecDepth 100000 in
set_option maxHeartbeats 4000000 in
theorem wX12_could_157 {E : kdE} {G : kdS} {A : kdA} {r : Int32} {σ1 : kdM} (hX : kdX E A cX12_could 8 RX12 (some .int) 3) (k39 : Nat → Int32 → Int32 → Int32 → Int32 → kdM → Option (Int32 × kdM)) (hk39 : ∀ (l0 : Nat) (l1 : Int32) (l2 : Int32) (l3 : Int32) (l4 : Int32) (σ : kdM), k39 l0 l1 l2 l3 l4 σ = some (r, σ1) → SW E G (.inl (some (.int r), σ1)) A 8 σ 39 [(0, kr E l0), (1, .int l1), (2, .int l2), (3, .int l3), (4, .int l4)] []) {σ : kdM} {l0 : Nat} {l1 : Int32} {l2 : Int32} {l4 : Int32} {s0 : Int32} {s1 : Int32} (h : X12_could_157 G k39 l0 l1 l2 l4 s0 s1 σ = some (r, σ1)) : SW E G (.inl (some (.int r), σ1)) A 8 σ 157 [(0, kr E l0), (1, .int l1), (2, .int l2), (4, .int l4)] [.int s1, .int s0] := by
  unfold X12_could_157 at h
  refine r_ior hX dX12_could_157 ?_
  refine r_letI h ?_
  clear h; intro t1 h
  refine r_istore_n (L2 := [(3, .int t1), (0, kr E l0), (1, .int l1), (2, .int l2), (4, .int l4)]) hX dX12_could_158 rfl (by decide) rfl ?_
  refine r_iincL (L2 := fun t2 => [(4, .int t2), (3, .int t1), (0, kr E l0), (1, .int l1), (2, .int l2)]) hX dX12_could_159 h 4 rfl (by decide) (fun _ => rfl) ?_
  clear h; intro t2 h
  refine r_goto (tgt := 39) hX dX12_could_162 (by decide) ?_
  refine r_sub [2, 3, 4, 1, 0] rfl ?_
  exact hk39 _ _ _ _ _ _ h
def X12_could_134 (G : kdS) (k39 : Nat → Int32 → Int32 → Int32 → Int32 → kdM → Option (Int32 × kdM)) (l0 : Nat) (l1 : Int32) (l2 : Int32) (l3 : Int32) (l4 : Int32) (l5 : Int32) (l6 : Int32) : kdM → Option (Int32 × kdM) :=
  cnd (l6 = 0)
    (X12_could_157 G k39 l0 l1 l2 l4 l3 (0 : Int32))
    (gR G 12 7 l0 fun t1 =>
    aI G t1 ((((4 : Int32) * l5) + l2)) fun t2 =>
    X12_could_157 G k39 l0 l1 l2 l4 l3 ((1 : Int32) <<< (t2 &&& 31)))
set_option maxRecDepth 100000 in
set_option maxHeartbeats 4000000 in
theorem wX12_could_134 {E : kdE} {G : kdS} {A : kdA} {r : Int32} {σ1 : kdM} (hX : kdX E A cX12_could 8 RX12 (some .int) 3) (k39 : Nat → Int32 → Int32 → Int32 → Int32 → kdM → Option (Int32 × kdM)) (hk39 : ∀ (l0 : Nat) (l1 : Int32) (l2 : Int32) (l3 : Int32) (l4 : Int32) (σ : kdM), k39 l0 l1 l2 l3 l4 σ = some (r, σ1) → SW E G (.inl (some (.int r), σ1)) A 8 σ 39 [(0, kr E l0), (1, .int l1), (2, .int l2), (3, .int l3), (4, .int l4)] []) {σ : kdM} {l0 : Nat} {l1 : Int32} {l2 : Int32} {l3 : Int32} {l4 : Int32} {l5 : Int32} {l6 : Int32} (h : X12_could_134 G k39 l0 l1 l2 l3 l4 l5 l6 σ = some (r, σ1)) : SW E G (.inl (some (.int r), σ1)) A 8 σ 134 [(0, kr E l0), (1, .int l1), (2, .int l2), (3, .int l3), (4, .int l4), (5, .int l5), (6, .int l6)] [] := by
  unfold X12_could_134 at h
  refine r_iload_n hX dX12_could_134 rfl 3 rfl ?_
  refine r_iload hX dX12_could_135 6 rfl ?_
  refine r_if_eq (tgt := 156) hX dX12_could_137 (by decide) h ?_ ?_
  · clear h; intro h
    refine r_iconst hX dX12_could_156 kk_i_0 ?_
    refine r_sub [0, 1, 2, 4] rfl ?_
    exact wX12_could_157 hX k39 hk39 h
  · clear h; intro h
    refine r_iconst hX dX12_could_140 kk_i_1 ?_
    refine r_aload_n hX dX12_could_141 rfl 0 rfl ?_
    refine r_gR hX dX12_could_142 kf_X12_23 rfl h ?_
    clear h; intro t1 h
    refine r_iconst hX dX12_could_145 kk_i_4 ?_
    refine r_iload hX dX12_could_146 5 rfl ?_
    refine r_imul hX dX12_could_148 ?_
    refine r_iload_n hX dX12_could_149 rfl 2 rfl ?_
    refine r_iadd hX dX12_could_150 ?_
    refine r_aI hX dX12_could_151 h ?_
    clear h; intro t2 h
    refine r_ishl hX dX12_could_152 ?_
    refine r_goto (tgt := 157) hX dX12_could_153 (by decide) ?_
    refine r_sub [0, 1, 2, 4] rfl ?_
    exact wX12_could_157 hX k39 hk39 h
def X12_could_126 (G : kdS) (k39 : Nat → Int32 → Int32 → Int32 → Int32 → kdM → Option (Int32 × kdM)) (k86 : Nat → Int32 → Int32 → Int32 → Int32 → Int32 → Int32 → Int32 → kdM → Option (Int32 × kdM)) (l0 : Nat) (l1 : Int32) (l2 : Int32) (l3 : Int32) (l4 : Int32) (l5 : Int32) (l7 : Int32) (s0 : Int32) : kdM → Option (Int32 × kdM) :=
  ltI (l7 + Int32.ofInt 1) fun t1 =>
  k86 l0 l1 l2 l3 l4 l5 s0 t1
set_option maxRecDepth 100000 in
set_option maxHeartbeats 4000000 in
theorem wX12_could_126 {E : kdE} {G : kdS} {A : kdA} {r : Int32} {σ1 : kdM} (hX : kdX E A cX12_could 8 RX12 (some .int) 3) (k39 : Nat → Int32 → Int32 → Int32 → Int32 → kdM → Option (Int32 × kdM)) (k86 : Nat → Int32 → Int32 → Int32 → Int32 → Int32 → Int32 → Int32 → kdM → Option (Int32 × kdM)) (hk39 : ∀ (l0 : Nat) (l1 : Int32) (l2 : Int32) (l3 : Int32) (l4 : Int32) (σ : kdM), k39 l0 l1 l2 l3 l4 σ = some (r, σ1) → SW E G (.inl (some (.int r), σ1)) A 8 σ 39 [(0, kr E l0), (1, .int l1), (2, .int l2), (3, .int l3), (4, .int l4)] []) (hk86 : ∀ (l0 : Nat) (l1 : Int32) (l2 : Int32) (l3 : Int32) (l4 : Int32) (l5 : Int32) (l6 : Int32) (l7 : Int32) (σ : kdM), k86 l0 l1 l2 l3 l4 l5 l6 l7 σ = some (r, σ1) → SW E G (.inl (some (.int r), σ1)) A 8 σ 86 [(0, kr E l0), (1, .int l1), (2, .int l2), (3, .int l3), (4, .int l4), (5, .int l5), (6, .int l6), (7, .int l7)] []) {σ : kdM} {l0 : Nat} {l1 : Int32} {l2 : Int32} {l3 : Int32} {l4 : Int32} {l5 : Int32} {l7 : Int32} {s0 : Int32} (h : X12_could_126 G k39 k86 l0 l1 l2 l3 l4 l5 l7 s0 σ = some (r, σ1)) : SW E G (.inl (some (.int r), σ1)) A 8 σ 126 [(0, kr E l0), (1, .int l1), (2, .int l2), (3, .int l3), (4, .int l4), (5, .int l5), (7, .int l7)] [.int s0] := by
  unfold X12_could_126 at h
  refine r_istore (L2 := [(6, .int s0), (0, kr E l0), (1, .int l1), (2, .int l2), (3, .int l3), (4, .int l4), (5, .int l5), (7, .int l7)]) hX dX12_could_126 (by decide) rfl ?_
  refine r_iincL (L2 := fun t1 => [(7, .int t1), (6, .int s0), (0, kr E l0), (1, .int l1), (2, .int l2), (3, .int l3), (4, .int l4), (5, .int l5)]) hX dX12_could_128 h 7 rfl (by decide) (fun _ => rfl) ?_
  clear h; intro t1 h
  refine r_goto (tgt := 86) hX dX12_could_131 (by decide) ?_
  refine r_sub [2, 3, 4, 5, 6, 7, 1, 0] rfl ?_
  exact hk86 _ _ _ _ _ _ _ _ _ h
def X12_could_86B (G : kdS) (k39 : Nat → Int32 → Int32 → Int32 → Int32 → kdM → Option (Int32 × kdM)) (k86 : Nat → Int32 → Int32 → Int32 → Int32 → Int32 → Int32 → Int32 → kdM → Option (Int32 × kdM)) (l0 : Nat) (l1 : Int32) (l2 : Int32) (l3 : Int32) (l4 : Int32) (l5 : Int32) (l6 : Int32) (l7 : Int32) : kdM → Option (Int32 × kdM) :=
  cnd (l2 ≤ l7)
    (X12_could_134 G k39 l0 l1 l2 l3 l4 l5 l6)
    (cnd (l6 = 0)
      (X12_could_134 G k39 l0 l1 l2 l3 l4 l5 l6)
      (gR G 12 7 l0 fun t1 =>
      aI G t1 ((((4 : Int32) * l5) + l7)) fun t2 =>
      gR G 12 16 l0 fun t3 =>
      aI G t3 ((l1 + l7)) fun t4 =>
      cnd (t2 = t4)
        (X12_could_126 G k39 k86 l0 l1 l2 l3 l4 l5 l7 (1 : Int32))
        (X12_could_126 G k39 k86 l0 l1 l2 l3 l4 l5 l7 (0 : Int32))))
set_option maxRecDepth 100000 in
set_option maxHeartbeats 4000000 in
theorem wX12_could_86B {E : kdE} {G : kdS} {A : kdA} {r : Int32} {σ1 : kdM} (hX : kdX E A cX12_could 8 RX12 (some .int) 3) (k39 : Nat → Int32 → Int32 → Int32 → Int32 → kdM → Option (Int32 × kdM)) (k86 : Nat → Int32 → Int32 → Int32 → Int32 → Int32 → Int32 → Int32 → kdM → Option (Int32 × kdM)) (hk39 : ∀ (l0 : Nat) (l1 : Int32) (l2 : Int32) (l3 : Int32) (l4 : Int32) (σ : kdM), k39 l0 l1 l2 l3 l4 σ = some (r, σ1) → SW E G (.inl (some (.int r), σ1)) A 8 σ 39 [(0, kr E l0), (1, .int l1), (2, .int l2), (3, .int l3), (4, .int l4)] []) (hk86 : ∀ (l0 : Nat) (l1 : Int32) (l2 : Int32) (l3 : Int32) (l4 : Int32) (l5 : Int32) (l6 : Int32) (l7 : Int32) (σ : kdM), k86 l0 l1 l2 l3 l4 l5 l6 l7 σ = some (r, σ1) → SW E G (.inl (some (.int r), σ1)) A 8 σ 86 [(0, kr E l0), (1, .int l1), (2, .int l2), (3, .int l3), (4, .int l4), (5, .int l5), (6, .int l6), (7, .int l7)] []) {σ : kdM} {l0 : Nat} {l1 : Int32} {l2 : Int32} {l3 : Int32} {l4 : Int32} {l5 : Int32} {l6 : Int32} {l7 : Int32} (h : X12_could_86B G k39 k86 l0 l1 l2 l3 l4 l5 l6 l7 σ = some (r, σ1)) : SW E G (.inl (some (.int r), σ1)) A 8 σ 86 [(0, kr E l0), (1, .int l1), (2, .int l2), (3, .int l3), (4, .int l4), (5, .int l5), (6, .int l6), (7, .int l7)] [] := by
  unfold X12_could_86B at h
  refine r_iload hX dX12_could_86 7 rfl ?_
  refine r_iload_n hX dX12_could_88 rfl 2 rfl ?_
  refine r_icmp_ge (tgt := 134) hX dX12_could_89 (by decide) h ?_ ?_
  · clear h; intro h
    refine r_sub [0, 1, 2, 3, 4, 5, 6] rfl ?_
    exact wX12_could_134 hX k39 hk39 h
  · clear h; intro h
    refine r_iload hX dX12_could_92 6 rfl ?_
    refine r_if_eq (tgt := 134) hX dX12_could_94 (by decide) h ?_ ?_
    · clear h; intro h
      refine r_sub [0, 1, 2, 3, 4, 5, 6] rfl ?_
      exact wX12_could_134 hX k39 hk39 h
    · clear h; intro h
      refine r_aload_n hX dX12_could_97 rfl 0 rfl ?_
      refine r_gR hX dX12_could_98 kf_X12_23 rfl h ?_
      clear h; intro t1 h
      refine r_iconst hX dX12_could_101 kk_i_4 ?_
      refine r_iload hX dX12_could_102 5 rfl ?_
      refine r_imul hX dX12_could_104 ?_
      refine r_iload hX dX12_could_105 7 rfl ?_
      refine r_iadd hX dX12_could_107 ?_
      refine r_aI hX dX12_could_108 h ?_
      clear h; intro t2 h
      refine r_aload_n hX dX12_could_109 rfl 0 rfl ?_
      refine r_gR hX dX12_could_110 kf_X12_50 rfl h ?_
      clear h; intro t3 h
      refine r_iload_n hX dX12_could_113 rfl 1 rfl ?_
      refine r_iload hX dX12_could_114 7 rfl ?_
      refine r_iadd hX dX12_could_116 ?_
      refine r_aI hX dX12_could_117 h ?_
      clear h; intro t4 h
      refine r_icmp_ne (tgt := 125) hX dX12_could_118 (by decide) h ?_ ?_
      · clear h; intro h
        refine r_iconst hX dX12_could_121 kk_i_1 ?_
        refine r_goto (tgt := 126) hX dX12_could_122 (by decide) ?_
        refine r_sub [0, 1, 2, 3, 4, 5, 7] rfl ?_
        exact wX12_could_126 hX k39 k86 hk39 hk86 h
      · clear h; intro h
        refine r_iconst hX dX12_could_125 kk_i_0 ?_
        refine r_sub [0, 1, 2, 3, 4, 5, 7] rfl ?_
        exact wX12_could_126 hX k39 k86 hk39 hk86 h
def X12_could_86 (G : kdS) (k39 : Nat → Int32 → Int32 → Int32 → Int32 → kdM → Option (Int32 × kdM)) : Nat → Int32 → Int32 → Int32 → Int32 → Int32 → Int32 → Int32 → kdM → Option (Int32 × kdM) := lp (fun _ _ _ _ _ _ _ _ _ => none) (X12_could_86B G k39) NN
theorem wX12_could_86 {E : kdE} {G : kdS} {A : kdA} {r : Int32} {σ1 : kdM} (hX : kdX E A cX12_could 8 RX12 (some .int) 3) (k39 : Nat → Int32 → Int32 → Int32 → Int32 → kdM → Option (Int32 × kdM)) (hk39 : ∀ (l0 : Nat) (l1 : Int32) (l2 : Int32) (l3 : Int32) (l4 : Int32) (σ : kdM), k39 l0 l1 l2 l3 l4 σ = some (r, σ1) → SW E G (.inl (some (.int r), σ1)) A 8 σ 39 [(0, kr E l0), (1, .int l1), (2, .int l2), (3, .int l3), (4, .int l4)] []) : ∀ (l0 : Nat) (l1 : Int32) (l2 : Int32) (l3 : Int32) (l4 : Int32) (l5 : Int32) (l6 : Int32) (l7 : Int32) (σ : kdM), X12_could_86 G k39 l0 l1 l2 l3 l4 l5 l6 l7 σ = some (r, σ1) → SW E G (.inl (some (.int r), σ1)) A 8 σ 86 [(0, kr E l0), (1, .int l1), (2, .int l2), (3, .int l3), (4, .int l4), (5, .int l5), (6, .int l6), (7, .int l7)] [] :=
  lp_ind (Q := fun f => ∀ (l0 : Nat) (l1 : Int32) (l2 : Int32) (l3 : Int32) (l4 : Int32) (l5 : Int32) (l6 : Int32) (l7 : Int32) (σ : kdM), f l0 l1 l2 l3 l4 l5 l6 l7 σ = some (r, σ1) → SW E G (.inl (some (.int r), σ1)) A 8 σ 86 [(0, kr E l0), (1, .int l1), (2, .int l2), (3, .int l3), (4, .int l4), (5, .int l5), (6, .int l6), (7, .int l7)] []) (by intros; contradiction) (fun k hk l0 l1 l2 l3 l4 l5 l6 l7 σ h => wX12_could_86B hX k39 k hk39 hk h) NN
def X12_could_81 (G : kdS) (k39 : Nat → Int32 → Int32 → Int32 → Int32 → kdM → Option (Int32 × kdM)) (l0 : Nat) (l1 : Int32) (l2 : Int32) (l3 : Int32) (l4 : Int32) (l5 : Int32) (s0 : Int32) : kdM → Option (Int32 × kdM) :=
  X12_could_86 G k39 l0 l1 l2 l3 l4 l5 s0 (0 : Int32)
set_option maxRecDepth 100000 in
set_option maxHeartbeats 4000000 in
theorem wX12_could_81 {E : kdE} {G : kdS} {A : kdA} {r : Int32} {σ1 : kdM} (hX : kdX E A cX12_could 8 RX12 (some .int) 3) (k39 : Nat → Int32 → Int32 → Int32 → Int32 → kdM → Option (Int32 × kdM)) (hk39 : ∀ (l0 : Nat) (l1 : Int32) (l2 : Int32) (l3 : Int32) (l4 : Int32) (σ : kdM), k39 l0 l1 l2 l3 l4 σ = some (r, σ1) → SW E G (.inl (some (.int r), σ1)) A 8 σ 39 [(0, kr E l0), (1, .int l1), (2, .int l2), (3, .int l3), (4, .int l4)] []) {σ : kdM} {l0 : Nat} {l1 : Int32} {l2 : Int32} {l3 : Int32} {l4 : Int32} {l5 : Int32} {s0 : Int32} (h : X12_could_81 G k39 l0 l1 l2 l3 l4 l5 s0 σ = some (r, σ1)) : SW E G (.inl (some (.int r), σ1)) A 8 σ 81 [(0, kr E l0), (1, .int l1), (2, .int l2), (3, .int l3), (4, .int l4), (5, .int l5)] [.int s0] := by
  unfold X12_could_81 at h
  refine r_istore (L2 := [(6, .int s0), (0, kr E l0), (1, .int l1), (2, .int l2), (3, .int l3), (4, .int l4), (5, .int l5)]) hX dX12_could_81 (by decide) rfl ?_
  refine r_iconst hX dX12_could_83 kk_i_0 ?_
  refine r_istore (L2 := [(7, .int (0 : Int32)), (6, .int s0), (0, kr E l0), (1, .int l1), (2, .int l2), (3, .int l3), (4, .int l4), (5, .int l5)]) hX dX12_could_84 (by decide) rfl ?_
  refine r_sub [2, 3, 4, 5, 6, 7, 1, 0] rfl ?_
  exact wX12_could_86 hX k39 hk39 _ _ _ _ _ _ _ _ _ h
def X12_could_39B (G : kdS) (k39 : Nat → Int32 → Int32 → Int32 → Int32 → kdM → Option (Int32 × kdM)) (l0 : Nat) (l1 : Int32) (l2 : Int32) (l3 : Int32) (l4 : Int32) : kdM → Option (Int32 × kdM) :=
  gR G 12 11 l0 fun t1 =>
  gI G 12 18 l0 fun t2 =>
  aI G t1 (t2) fun t3 =>
  cnd (t3 ≤ l4)
    (rt l3)
    (gI G 12 18 l0 fun t4 =>
    ltI ((((24 : Int32) * t4) + l4)) fun t5 =>
    gR G 12 8 l0 fun t6 =>
    aI G t6 (t5) fun t7 =>
    cnd (t7 ≤ l2)
      (X12_could_81 G k39 l0 l1 l2 l3 l4 t5 (0 : Int32))
      (X12_could_81 G k39 l0 l1 l2 l3 l4 t5 (1 : Int32)))
set_option maxRecDepth 100000 in
set_option maxHeartbeats 4000000 in
theorem wX12_could_39B {E : kdE} {G : kdS} {A : kdA} {r : Int32} {σ1 : kdM} (hX : kdX E A cX12_could 8 RX12 (some .int) 3) (k39 : Nat → Int32 → Int32 → Int32 → Int32 → kdM → Option (Int32 × kdM)) (hk39 : ∀ (l0 : Nat) (l1 : Int32) (l2 : Int32) (l3 : Int32) (l4 : Int32) (σ : kdM), k39 l0 l1 l2 l3 l4 σ = some (r, σ1) → SW E G (.inl (some (.int r), σ1)) A 8 σ 39 [(0, kr E l0), (1, .int l1), (2, .int l2), (3, .int l3), (4, .int l4)] []) {σ : kdM} {l0 : Nat} {l1 : Int32} {l2 : Int32} {l3 : Int32} {l4 : Int32} (h : X12_could_39B G k39 l0 l1 l2 l3 l4 σ = some (r, σ1)) : SW E G (.inl (some (.int r), σ1)) A 8 σ 39 [(0, kr E l0), (1, .int l1), (2, .int l2), (3, .int l3), (4, .int l4)] [] := by
  unfold X12_could_39B at h
  refine r_iload hX dX12_could_39 4 rfl ?_
  refine r_aload_n hX dX12_could_41 rfl 0 rfl ?_
  refine r_gR hX dX12_could_42 kf_X12_35 rfl h ?_
  clear h; intro t1 h
  refine r_aload_n hX dX12_could_45 rfl 0 rfl ?_
  refine r_gI hX dX12_could_46 kf_X12_215 rfl h ?_
  clear h; intro t2 h
  refine r_aI hX dX12_could_49 h ?_
  clear h; intro t3 h
  refine r_icmp_ge (tgt := 165) hX dX12_could_50 (by decide) h ?_ ?_
  · clear h; intro h
    refine r_iload_n hX dX12_could_165 rfl 3 rfl ?_
    exact r_iret hX dX12_could_166 h
  · clear h; intro h
    refine r_bipush hX dX12_could_53 kk_b_24 ?_
    refine r_aload_n hX dX12_could_55 rfl 0 rfl ?_
    refine r_gI hX dX12_could_56 kf_X12_215 rfl h ?_
    clear h; intro t4 h
    refine r_imul hX dX12_could_59 ?_
    refine r_iload hX dX12_could_60 4 rfl ?_
    refine r_iadd hX dX12_could_62 ?_
    refine r_letI h ?_
    clear h; intro t5 h
    refine r_istore (L2 := [(5, .int t5), (0, kr E l0), (1, .int l1), (2, .int l2), (3, .int l3), (4, .int l4)]) hX dX12_could_63 (by decide) rfl ?_
    refine r_aload_n hX dX12_could_65 rfl 1 rfl ?_
    refine r_gR hX dX12_could_66 kf_X12_26 rfl h ?_
    clear h; intro t6 h
    refine r_iload hX dX12_could_69 0 rfl ?_
    refine r_aI hX dX12_could_71 h ?_
    clear h; intro t7 h
    refine r_iload_n hX dX12_could_72 rfl 3 rfl ?_
    refine r_icmp_le (tgt := 80) hX dX12_could_73 (by decide) h ?_ ?_
    · clear h; intro h
      refine r_iconst hX dX12_could_80 kk_i_0 ?_
      refine r_sub [1, 2, 3, 4, 5, 0] rfl ?_
      exact wX12_could_81 hX k39 hk39 h
    · clear h; intro h
      refine r_iconst hX dX12_could_76 kk_i_1 ?_
      refine r_goto (tgt := 81) hX dX12_could_77 (by decide) ?_
      refine r_sub [1, 2, 3, 4, 5, 0] rfl ?_
      exact wX12_could_81 hX k39 hk39 h
def X12_could_39 (G : kdS) : Nat → Int32 → Int32 → Int32 → Int32 → kdM → Option (Int32 × kdM) := lp (fun _ _ _ _ _ _ => none) (X12_could_39B G) NN
theorem wX12_could_39 {E : kdE} {G : kdS} {A : kdA} {r : Int32} {σ1 : kdM} (hX : kdX E A cX12_could 8 RX12 (some .int) 3) : ∀ (l0 : Nat) (l1 : Int32) (l2 : Int32) (l3 : Int32) (l4 : Int32) (σ : kdM), X12_could_39 G l0 l1 l2 l3 l4 σ = some (r, σ1) → SW E G (.inl (some (.int r), σ1)) A 8 σ 39 [(0, kr E l0), (1, .int l1), (2, .int l2), (3, .int l3), (4, .int l4)] [] :=
  lp_ind (Q := fun f => ∀ (l0 : Nat) (l1 : Int32) (l2 : Int32) (l3 : Int32) (l4 : Int32) (σ : kdM), f l0 l1 l2 l3 l4 σ = some (r, σ1) → SW E G (.inl (some (.int r), σ1)) A 8 σ 39 [(0, kr E l0), (1, .int l1), (2, .int l2), (3, .int l3), (4, .int l4)] []) (by intros; contradiction) (fun k hk l0 l1 l2 l3 l4 σ h => wX12_could_39B hX k hk h) NN
def X12_could_26 (G : kdS) (l0 : Nat) (s0 : Int32) : kdM → Option (Int32 × kdM) :=
  gI G 12 17 l0 fun t1 =>
  ltI ((t1 - s0)) fun t2 =>
  X12_could_39 G l0 s0 t2 (0 : Int32) (0 : Int32)
set_option maxRecDepth 100000 in
set_option maxHeartbeats 4000000 in
theorem wX12_could_26 {E : kdE} {G : kdS} {A : kdA} {r : Int32} {σ1 : kdM} (hX : kdX E A cX12_could 8 RX12 (some .int) 3) {σ : kdM} {l0 : Nat} {s0 : Int32} (h : X12_could_26 G l0 s0 σ = some (r, σ1)) : SW E G (.inl (some (.int r), σ1)) A 8 σ 26 [(0, kr E l0)] [.int s0] := by
  unfold X12_could_26 at h
  refine r_istore_n (L2 := [(1, .int s0), (0, kr E l0)]) hX dX12_could_26 rfl (by decide) rfl ?_
  refine r_aload_n hX dX12_could_27 rfl 1 rfl ?_
  refine r_gI hX dX12_could_28 kf_X12_218 rfl h ?_
  clear h; intro t1 h
  refine r_iload_n hX dX12_could_31 rfl 0 rfl ?_
  refine r_isub hX dX12_could_32 ?_
  refine r_letI h ?_
  clear h; intro t2 h
  refine r_istore_n (L2 := [(2, .int t2), (1, .int s0), (0, kr E l0)]) hX dX12_could_33 rfl (by decide) rfl ?_
  refine r_iconst hX dX12_could_34 kk_i_0 ?_
  refine r_istore_n (L2 := [(3, .int (0 : Int32)), (2, .int t2), (1, .int s0), (0, kr E l0)]) hX dX12_could_35 rfl (by decide) rfl ?_
  refine r_iconst hX dX12_could_36 kk_i_0 ?_
  refine r_istore (L2 := [(4, .int (0 : Int32)), (3, .int (0 : Int32)), (2, .int t2), (1, .int s0), (0, kr E l0)]) hX dX12_could_37 (by decide) rfl ?_
  refine r_sub [4, 3, 2, 1, 0] rfl ?_
  exact wX12_could_39 hX _ _ _ _ _ _ h
def X12_could (G : kdS) (l0 : Nat) : kdM → Option (Int32 × kdM) :=
  kcv G 12 l0 (X12_walk G l0) fun _ =>
  gI G 12 21 l0 fun t1 =>
  cnd (t1 = 0)
    (X12_could_26 G l0 (0 : Int32))
    (gR G 12 20 l0 fun t2 =>
    gI G 12 21 l0 fun t3 =>
    aI G t2 ((t3 - (1 : Int32))) fun t4 =>
    X12_could_26 G l0 t4)
set_option maxRecDepth 100000 in
set_option maxHeartbeats 4000000 in
theorem wX12_could {E : kdE} {G : kdS} {l0 : Nat} {σ : kdM} {r : Int32} {σ1 : kdM} (h : X12_could G l0 σ = some (r, σ1)) : Con E G yX12_could cX12_could 8 (some .int) 3 [kr E l0] σ (some (.int r), σ1) := by
  refine kd_head (own := RX12) rfl (by decide +kernel) (Nat.le_of_ble_eq_true rfl) (fun A hX => ?_)
  show SW E G (.inl (some (.int r), σ1)) A 8 σ 0 [(0, kr E l0)] []
  unfold X12_could at h
  refine r_aload_n hX dX12_could_0 rfl 0 rfl ?_
  refine r_cVv (As := []) (st := []) hX dX12_could_1 kl_X12_walk w_ml_X12_241 w_im_X12_walk w_se_X12_walk ⟨_, _, rfl⟩ (by decide) rfl (Nat.le_of_ble_eq_true rfl) rfl kdz0 h (fun r σ1 h => wX12_walk h) ?_
  clear h; intro u σ h
  refine r_aload_n hX dX12_could_4 rfl 0 rfl ?_
  refine r_gI hX dX12_could_5 kf_X12_231 rfl h ?_
  clear h; intro t1 h
  refine r_if_ne (tgt := 15) hX dX12_could_8 (by decide) h ?_ ?_
  · clear h; intro h
    refine r_iconst hX dX12_could_11 kk_i_0 ?_
    refine r_goto (tgt := 26) hX dX12_could_12 (by decide) ?_
    refine r_sub [0] rfl ?_
    exact wX12_could_26 hX h
  · clear h; intro h
    refine r_aload_n hX dX12_could_15 rfl 0 rfl ?_
    refine r_gR hX dX12_could_16 kf_X12_56 rfl h ?_
    clear h; intro t2 h
    refine r_aload_n hX dX12_could_19 rfl 0 rfl ?_
    refine r_gI hX dX12_could_20 kf_X12_231 rfl h ?_
    clear h; intro t3 h
    refine r_iconst hX dX12_could_23 kk_i_1 ?_
    refine r_isub hX dX12_could_24 ?_
    refine r_aI hX dX12_could_25 h ?_
    clear h; intro t4 h
    refine r_sub [0] rfl ?_
    exact wX12_could_26 hX h
def X12_isWord (G : kdS) (l0 : Nat) (l1 : Int32) : kdM → Option (Int32 × kdM) :=
  gI G 12 29 l0 fun t1 =>
  kcl (X12_in G (Int32.toInt64 l1) (0 : Int64) (Int32.toInt64 (t1 - (1 : Int32)))) fun t2 =>
  rt (vp_nar .boolean t2)
set_option maxRecDepth 100000 in
set_option maxHeartbeats 4000000 in
theorem wX12_isWord {E : kdE} {G : kdS} {l0 : Nat} {l1 : Int32} {σ : kdM} {r : Int32} {σ1 : kdM} (h : X12_isWord G l0 l1 σ = some (r, σ1)) : Con E G yX12_isWord cX12_isWord 2 (some .boolean) 1 [kr E l0, .int l1] σ (some (.int r), σ1) := by
  refine kd_head (own := RX12) rfl (by decide +kernel) (Nat.le_of_ble_eq_true rfl) (fun A hX => ?_)
  show SW E G (.inl (some (.int r), σ1)) A 2 σ 0 [(0, kr E l0), (1, .int l1)] []
  unfold X12_isWord at h
  refine r_iload_n hX dX12_isWord_0 rfl 1 rfl ?_
  refine r_i2l hX dX12_isWord_1 ?_
  refine r_lconst hX dX12_isWord_2 kk_l_0 ?_
  refine r_aload_n hX dX12_isWord_3 rfl 0 rfl ?_
  refine r_gI hX dX12_isWord_4 kf_X12_244 rfl h ?_
  clear h; intro t1 h
  refine r_iconst hX dX12_isWord_7 kk_i_1 ?_
  refine r_isub hX dX12_isWord_8 ?_
  refine r_i2l hX dX12_isWord_9 ?_
  refine r_cSi (As := [.long (Int32.toInt64 l1), .long (0 : Int64), .long (Int32.toInt64 (t1 - (1 : Int32)))]) (st := []) hX dX12_isWord_10 kl_X12_in w_ml_X12_178 w_st_X12_in (by decide) rfl (Nat.le_of_ble_eq_true rfl) rfl kdz0 h (fun r σ1 h => wX12_in h) ?_
  clear h; intro t2 σ h
  exact r_zret hX dX12_isWord_13 h
def X12_word_33 (G : kdS) : kdM → Option (Int32 × kdM) :=
  rt (-2 : Int32)
set_option maxRecDepth 100000 in
set_option maxHeartbeats 4000000 in
theorem wX12_word_33 {E : kdE} {G : kdS} {A : kdA} {r : Int32} {σ1 : kdM} (hX : kdX E A cX12_word 5 RX12 (some .int) 2) {σ : kdM} (h : X12_word_33 G  σ = some (r, σ1)) : SW E G (.inl (some (.int r), σ1)) A 5 σ 33 [] [] := by
  unfold X12_word_33 at h
  refine r_bipush hX dX12_word_33 kk_b_m2 ?_
  exact r_iret hX dX12_word_35 h
def X12_word_64 (G : kdS) : kdM → Option (Int32 × kdM) :=
  rt (-5 : Int32)
set_option maxRecDepth 100000 in
set_option maxHeartbeats 4000000 in
theorem wX12_word_64 {E : kdE} {G : kdS} {A : kdA} {r : Int32} {σ1 : kdM} (hX : kdX E A cX12_word 5 RX12 (some .int) 2) {σ : kdM} (h : X12_word_64 G  σ = some (r, σ1)) : SW E G (.inl (some (.int r), σ1)) A 5 σ 64 [] [] := by
  unfold X12_word_64 at h
  refine r_bipush hX dX12_word_64 kk_b_m5 ?_
  exact r_iret hX dX12_word_66 h
def X12_word_113B (G : kdS) (k113 : Nat → Int32 → kdM → Option (Int32 × kdM)) (l0 : Nat) (l4 : Int32) : kdM → Option (Int32 × kdM) :=
  gI G 12 1 l0 fun t1 =>
  cnd (t1 ≤ l4)
    (sI G 12 1 l0 ((0 : Int32)) <|
    gI G 12 29 l0 fun t2 =>
    sI G 12 29 l0 ((t2 + (1 : Int32))) <|
    gI G 12 29 l0 fun t3 =>
    rt (t3 - (1 : Int32)))
    (gR G 12 28 l0 fun t4 =>
    gI G 12 29 l0 fun t5 =>
    gR G 12 0 l0 fun t6 =>
    aI G t6 (l4) fun t7 =>
    tI G t4 ((((8 : Int32) * t5) + l4)) (t7) <|
    ltI (l4 + Int32.ofInt 1) fun t8 =>
    k113 l0 t8)
set_option maxRecDepth 100000 in
set_option maxHeartbeats 4000000 in
theorem wX12_word_113B {E : kdE} {G : kdS} {A : kdA} {r : Int32} {σ1 : kdM} (hX : kdX E A cX12_word 5 RX12 (some .int) 2) (k113 : Nat → Int32 → kdM → Option (Int32 × kdM)) (hk113 : ∀ (l0 : Nat) (l4 : Int32) (σ : kdM), k113 l0 l4 σ = some (r, σ1) → SW E G (.inl (some (.int r), σ1)) A 5 σ 113 [(0, kr E l0), (4, .int l4)] []) {σ : kdM} {l0 : Nat} {l4 : Int32} (h : X12_word_113B G k113 l0 l4 σ = some (r, σ1)) : SW E G (.inl (some (.int r), σ1)) A 5 σ 113 [(0, kr E l0), (4, .int l4)] [] := by
  unfold X12_word_113B at h
  refine r_iload hX dX12_word_113 1 rfl ?_
  refine r_aload_n hX dX12_word_115 rfl 0 rfl ?_
  refine r_gI hX dX12_word_116 kf_X12_182 rfl h ?_
  clear h; intro t1 h
  refine r_icmp_ge (tgt := 150) hX dX12_word_119 (by decide) h ?_ ?_
  · clear h; intro h
    refine r_aload_n hX dX12_word_150 rfl 0 rfl ?_
    refine r_iconst hX dX12_word_151 kk_i_0 ?_
    refine r_sI hX dX12_word_152 kf_X12_182 rfl (by intro q hq; cases hq; rfl) h ?_
    clear h; intro σ h
    refine r_aload_n hX dX12_word_155 rfl 0 rfl ?_
    refine r_dup hX dX12_word_156 rfl ?_
    refine r_gI hX dX12_word_157 kf_X12_244 rfl h ?_
    clear h; intro t2 h
    refine r_iconst hX dX12_word_160 kk_i_1 ?_
    refine r_iadd hX dX12_word_161 ?_
    refine r_sI hX dX12_word_162 kf_X12_244 rfl (by intro q hq; cases hq; rfl) h ?_
    clear h; intro σ h
    refine r_aload_n hX dX12_word_165 rfl 0 rfl ?_
    refine r_gI hX dX12_word_166 kf_X12_244 rfl h ?_
    clear h; intro t3 h
    refine r_iconst hX dX12_word_169 kk_i_1 ?_
    refine r_isub hX dX12_word_170 ?_
    exact r_iret hX dX12_word_171 h
  · clear h; intro h
    refine r_aload_n hX dX12_word_122 rfl 0 rfl ?_
    refine r_gR hX dX12_word_123 kf_X12_74 rfl h ?_
    clear h; intro t4 h
    refine r_bipush hX dX12_word_126 kk_b_8 ?_
    refine r_aload_n hX dX12_word_128 rfl 0 rfl ?_
    refine r_gI hX dX12_word_129 kf_X12_244 rfl h ?_
    clear h; intro t5 h
    refine r_imul hX dX12_word_132 ?_
    refine r_iload hX dX12_word_133 1 rfl ?_
    refine r_iadd hX dX12_word_135 ?_
    refine r_aload_n hX dX12_word_136 rfl 0 rfl ?_
    refine r_gR hX dX12_word_137 kf_X12_7 rfl h ?_
    clear h; intro t6 h
    refine r_iload hX dX12_word_140 1 rfl ?_
    refine r_aI hX dX12_word_142 h ?_
    clear h; intro t7 h
    refine r_tI hX dX12_word_143 h ?_
    clear h; intro σ h
    refine r_iincL (L2 := fun t8 => [(4, .int t8), (0, kr E l0)]) hX dX12_word_144 h 1 rfl (by decide) (fun _ => rfl) ?_
    clear h; intro t8 h
    refine r_goto (tgt := 113) hX dX12_word_147 (by decide) ?_
    refine r_sub [1, 0] rfl ?_
    exact hk113 _ _ _ h
def X12_word_113 (G : kdS) : Nat → Int32 → kdM → Option (Int32 × kdM) := lp (fun _ _ _ => none) (X12_word_113B G) NN
theorem wX12_word_113 {E : kdE} {G : kdS} {A : kdA} {r : Int32} {σ1 : kdM} (hX : kdX E A cX12_word 5 RX12 (some .int) 2) : ∀ (l0 : Nat) (l4 : Int32) (σ : kdM), X12_word_113 G l0 l4 σ = some (r, σ1) → SW E G (.inl (some (.int r), σ1)) A 5 σ 113 [(0, kr E l0), (4, .int l4)] [] :=
  lp_ind (Q := fun f => ∀ (l0 : Nat) (l4 : Int32) (σ : kdM), f l0 l4 σ = some (r, σ1) → SW E G (.inl (some (.int r), σ1)) A 5 σ 113 [(0, kr E l0), (4, .int l4)] []) (by intros; contradiction) (fun k hk l0 l4 σ h => wX12_word_113B hX k hk h) NN
def X12_word (G : kdS) (l0 : Nat) (l1 : Int32) (l2 : Int32) (l3 : Int32) : kdM → Option (Int32 × kdM) :=
  kcl (X12_isTongue G l1) fun t1 =>
  cnd (t1 = 0)
    (rt (-1 : Int32))
    (kcl (X12_in G (Int32.toInt64 l2) (1 : Int64) (999 : Int64)) fun t2 =>
    cnd (t2 = 0)
      (X12_word_33 G )
      (kcl (X12_in G (Int32.toInt64 l3) (1 : Int64) (100 : Int64)) fun t3 =>
      cnd (t3 = 0)
        (X12_word_33 G )
        (gI G 12 29 l0 fun t4 =>
        cnd (t4 = (60 : Int32))
          (rt (-4 : Int32))
          (gI G 12 1 l0 fun t5 =>
          cnd (t5 = 0)
            (X12_word_64 G )
            (gI G 12 1 l0 fun t6 =>
            cnd (t6 ≤ (8 : Int32))
              (gR G 12 24 l0 fun t7 =>
              gI G 12 29 l0 fun t8 =>
              tI G t7 (t8) (l1) <|
              gR G 12 25 l0 fun t9 =>
              gI G 12 29 l0 fun t10 =>
              tI G t9 (t10) (l2) <|
              gR G 12 26 l0 fun t11 =>
              gI G 12 29 l0 fun t12 =>
              tI G t11 (t12) (l3) <|
              gR G 12 27 l0 fun t13 =>
              gI G 12 29 l0 fun t14 =>
              gI G 12 1 l0 fun t15 =>
              tI G t13 (t14) (t15) <|
              X12_word_113 G l0 (0 : Int32))
              (X12_word_64 G ))))))
set_option maxRecDepth 100000 in
set_option maxHeartbeats 4000000 in
theorem wX12_word {E : kdE} {G : kdS} {l0 : Nat} {l1 : Int32} {l2 : Int32} {l3 : Int32} {σ : kdM} {r : Int32} {σ1 : kdM} (h : X12_word G l0 l1 l2 l3 σ = some (r, σ1)) : Con E G yX12_word cX12_word 5 (some .int) 2 [kr E l0, .int l1, .int l2, .int l3] σ (some (.int r), σ1) := by
  refine kd_head (own := RX12) rfl (by decide +kernel) (Nat.le_of_ble_eq_true rfl) (fun A hX => ?_)
  show SW E G (.inl (some (.int r), σ1)) A 5 σ 0 [(0, kr E l0), (1, .int l1), (2, .int l2), (3, .int l3)] []
  unfold X12_word at h
  refine r_iload_n hX dX12_word_0 rfl 1 rfl ?_
  refine r_cSi (As := [.int l1]) (st := []) hX dX12_word_1 kl_X12_isTongue w_ml_X12_195 w_st_X12_isTongue (by decide) rfl (Nat.le_of_ble_eq_true rfl) rfl kdz0 h (fun r σ1 h => wX12_isTongue h) ?_
  clear h; intro t1 σ h
  refine r_if_ne (tgt := 9) hX dX12_word_4 (by decide) h ?_ ?_
  · clear h; intro h
    refine r_iconst hX dX12_word_7 kk_i_m1 ?_
    exact r_iret hX dX12_word_8 h
  · clear h; intro h
    refine r_iload_n hX dX12_word_9 rfl 2 rfl ?_
    refine r_i2l hX dX12_word_10 ?_
    refine r_lconst hX dX12_word_11 kk_l_1 ?_
    refine r_ldc2_w hX dX12_word_12 w_cl_X12_247 ?_
    refine r_cSi (As := [.long (Int32.toInt64 l2), .long (1 : Int64), .long (999 : Int64)]) (st := []) hX dX12_word_15 kl_X12_in w_ml_X12_178 w_st_X12_in (by decide) rfl (Nat.le_of_ble_eq_true rfl) rfl kdz0 h (fun r σ1 h => wX12_in h) ?_
    clear h; intro t2 σ h
    refine r_if_eq (tgt := 33) hX dX12_word_18 (by decide) h ?_ ?_
    · clear h; intro h
      refine r_sub [] rfl ?_
      exact wX12_word_33 hX h
    · clear h; intro h
      refine r_iload_n hX dX12_word_21 rfl 3 rfl ?_
      refine r_i2l hX dX12_word_22 ?_
      refine r_lconst hX dX12_word_23 kk_l_1 ?_
      refine r_ldc2_w hX dX12_word_24 w_cl_X12_249 ?_
      refine r_cSi (As := [.long (Int32.toInt64 l3), .long (1 : Int64), .long (100 : Int64)]) (st := []) hX dX12_word_27 kl_X12_in w_ml_X12_178 w_st_X12_in (by decide) rfl (Nat.le_of_ble_eq_true rfl) rfl kdz0 h (fun r σ1 h => wX12_in h) ?_
      clear h; intro t3 σ h
      refine r_if_ne (tgt := 36) hX dX12_word_30 (by decide) h ?_ ?_
      · clear h; intro h
        refine r_sub [] rfl ?_
        exact wX12_word_33 hX h
      · clear h; intro h
        refine r_aload_n hX dX12_word_36 rfl 0 rfl ?_
        refine r_gI hX dX12_word_37 kf_X12_244 rfl h ?_
        clear h; intro t4 h
        refine r_bipush hX dX12_word_40 kk_b_60 ?_
        refine r_icmp_ne (tgt := 48) hX dX12_word_42 (by decide) h ?_ ?_
        · clear h; intro h
          refine r_bipush hX dX12_word_45 kk_b_m4 ?_
          exact r_iret hX dX12_word_47 h
        · clear h; intro h
          refine r_aload_n hX dX12_word_48 rfl 0 rfl ?_
          refine r_gI hX dX12_word_49 kf_X12_182 rfl h ?_
          clear h; intro t5 h
          refine r_if_eq (tgt := 64) hX dX12_word_52 (by decide) h ?_ ?_
          · clear h; intro h
            refine r_sub [] rfl ?_
            exact wX12_word_64 hX h
          · clear h; intro h
            refine r_aload_n hX dX12_word_55 rfl 0 rfl ?_
            refine r_gI hX dX12_word_56 kf_X12_182 rfl h ?_
            clear h; intro t6 h
            refine r_bipush hX dX12_word_59 kk_b_8 ?_
            refine r_icmp_le (tgt := 67) hX dX12_word_61 (by decide) h ?_ ?_
            · clear h; intro h
              refine r_aload_n hX dX12_word_67 rfl 0 rfl ?_
              refine r_gR hX dX12_word_68 kf_X12_62 rfl h ?_
              clear h; intro t7 h
              refine r_aload_n hX dX12_word_71 rfl 0 rfl ?_
              refine r_gI hX dX12_word_72 kf_X12_244 rfl h ?_
              clear h; intro t8 h
              refine r_iload_n hX dX12_word_75 rfl 1 rfl ?_
              refine r_tI hX dX12_word_76 h ?_
              clear h; intro σ h
              refine r_aload_n hX dX12_word_77 rfl 0 rfl ?_
              refine r_gR hX dX12_word_78 kf_X12_65 rfl h ?_
              clear h; intro t9 h
              refine r_aload_n hX dX12_word_81 rfl 0 rfl ?_
              refine r_gI hX dX12_word_82 kf_X12_244 rfl h ?_
              clear h; intro t10 h
              refine r_iload_n hX dX12_word_85 rfl 2 rfl ?_
              refine r_tI hX dX12_word_86 h ?_
              clear h; intro σ h
              refine r_aload_n hX dX12_word_87 rfl 0 rfl ?_
              refine r_gR hX dX12_word_88 kf_X12_68 rfl h ?_
              clear h; intro t11 h
              refine r_aload_n hX dX12_word_91 rfl 0 rfl ?_
              refine r_gI hX dX12_word_92 kf_X12_244 rfl h ?_
              clear h; intro t12 h
              refine r_iload_n hX dX12_word_95 rfl 3 rfl ?_
              refine r_tI hX dX12_word_96 h ?_
              clear h; intro σ h
              refine r_aload_n hX dX12_word_97 rfl 0 rfl ?_
              refine r_gR hX dX12_word_98 kf_X12_71 rfl h ?_
              clear h; intro t13 h
              refine r_aload_n hX dX12_word_101 rfl 0 rfl ?_
              refine r_gI hX dX12_word_102 kf_X12_244 rfl h ?_
              clear h; intro t14 h
              refine r_aload_n hX dX12_word_105 rfl 0 rfl ?_
              refine r_gI hX dX12_word_106 kf_X12_182 rfl h ?_
              clear h; intro t15 h
              refine r_tI hX dX12_word_109 h ?_
              clear h; intro σ h
              refine r_iconst hX dX12_word_110 kk_i_0 ?_
              refine r_istore (L2 := [(4, .int (0 : Int32)), (0, kr E l0), (1, .int l1), (2, .int l2), (3, .int l3)]) hX dX12_word_111 (by decide) rfl ?_
              refine r_sub [1, 0] rfl ?_
              exact wX12_word_113 hX _ _ _ h
            · clear h; intro h
              refine r_sub [] rfl ?_
              exact wX12_word_64 hX h
def X12_ofWord_111 (G : kdS) (s0 : Int32) : kdM → Option (Int32 × kdM) :=
  rt s0
set_option maxRecDepth 100000 in
set_option maxHeartbeats 4000000 in
theorem wX12_ofWord_111 {E : kdE} {G : kdS} {A : kdA} {r : Int32} {σ1 : kdM} (hX : kdX E A cX12_ofWord 3 RX12 (some .int) 2) {σ : kdM} {s0 : Int32} (h : X12_ofWord_111 G s0 σ = some (r, σ1)) : SW E G (.inl (some (.int r), σ1)) A 3 σ 111 [] [.int s0] := by
  unfold X12_ofWord_111 at h
  exact r_iret hX dX12_ofWord_111 h
def X12_ofWord (G : kdS) (l0 : Nat) (l1 : Int32) (l2 : Int32) : kdM → Option (Int32 × kdM) :=
  kcv G 12 l0 (X12_isWord G l0 l1) fun t1 =>
  cnd (t1 = 0)
    (rt (-1 : Int32))
    (cnd (l2 = (0 : Int32))
      (gR G 12 24 l0 fun t2 =>
      aI G t2 (l1) fun t3 =>
      rt t3)
      (cnd (l2 = (1 : Int32))
        (gR G 12 25 l0 fun t4 =>
        aI G t4 (l1) fun t5 =>
        rt t5)
        (cnd (l2 = (2 : Int32))
          (gR G 12 26 l0 fun t6 =>
          aI G t6 (l1) fun t7 =>
          rt t7)
          (cnd (l2 = (3 : Int32))
            (gR G 12 27 l0 fun t8 =>
            aI G t8 (l1) fun t9 =>
            rt t9)
            (cnd ((10 : Int32) ≤ l2)
              (gR G 12 27 l0 fun t10 =>
              aI G t10 (l1) fun t11 =>
              cnd (t11 ≤ (l2 - (10 : Int32)))
                (X12_ofWord_111 G (-6 : Int32))
                (gR G 12 28 l0 fun t12 =>
                aI G t12 (((((8 : Int32) * l1) + l2) - (10 : Int32))) fun t13 =>
                X12_ofWord_111 G t13))
              (X12_ofWord_111 G (-2 : Int32)))))))
set_option maxRecDepth 100000 in
set_option maxHeartbeats 4000000 in
theorem wX12_ofWord {E : kdE} {G : kdS} {l0 : Nat} {l1 : Int32} {l2 : Int32} {σ : kdM} {r : Int32} {σ1 : kdM} (h : X12_ofWord G l0 l1 l2 σ = some (r, σ1)) : Con E G yX12_ofWord cX12_ofWord 3 (some .int) 2 [kr E l0, .int l1, .int l2] σ (some (.int r), σ1) := by
  refine kd_head (own := RX12) rfl (by decide +kernel) (Nat.le_of_ble_eq_true rfl) (fun A hX => ?_)
  show SW E G (.inl (some (.int r), σ1)) A 3 σ 0 [(0, kr E l0), (1, .int l1), (2, .int l2)] []
  unfold X12_ofWord at h
  refine r_aload_n hX dX12_ofWord_0 rfl 0 rfl ?_
  refine r_iload_n hX dX12_ofWord_1 rfl 1 rfl ?_
  refine r_cVi (As := [.int l1]) (st := []) hX dX12_ofWord_2 kl_X12_isWord w_ml_X12_251 w_im_X12_isWord w_se_X12_isWord ⟨_, _, rfl⟩ (by decide) rfl (Nat.le_of_ble_eq_true rfl) rfl kdz0 h (fun r σ1 h => wX12_isWord h) ?_
  clear h; intro t1 σ h
  refine r_if_ne (tgt := 10) hX dX12_ofWord_5 (by decide) h ?_ ?_
  · clear h; intro h
    refine r_iconst hX dX12_ofWord_8 kk_i_m1 ?_
    exact r_iret hX dX12_ofWord_9 h
  · clear h; intro h
    refine r_iload_n hX dX12_ofWord_10 rfl 2 rfl ?_
    refine r_case (q := l2 = (0 : Int32)) h ?_ ?_
    · clear h; intro hq h
      refine r_tsIn (tgt := 40) (off := 29) (v := (0 : Int32)) hX dX12_ofWord_11 hq (by decide) (by decide) (by decide +kernel) (by decide) ?_
      clear hq
      refine r_aload_n hX dX12_ofWord_40 rfl 0 rfl ?_
      refine r_gR hX dX12_ofWord_41 kf_X12_62 rfl h ?_
      clear h; intro t2 h
      refine r_iload_n hX dX12_ofWord_44 rfl 1 rfl ?_
      refine r_aI hX dX12_ofWord_45 h ?_
      clear h; intro t3 h
      exact r_iret hX dX12_ofWord_46 h
    · clear h; intro hn0 h
      refine r_case (q := l2 = (1 : Int32)) h ?_ ?_
      · clear h; intro hq h
        refine r_tsIn (tgt := 47) (off := 36) (v := (1 : Int32)) hX dX12_ofWord_11 hq (by decide) (by decide) (by decide +kernel) (by decide) ?_
        clear hq
        refine r_aload_n hX dX12_ofWord_47 rfl 0 rfl ?_
        refine r_gR hX dX12_ofWord_48 kf_X12_65 rfl h ?_
        clear h; intro t4 h
        refine r_iload_n hX dX12_ofWord_51 rfl 1 rfl ?_
        refine r_aI hX dX12_ofWord_52 h ?_
        clear h; intro t5 h
        exact r_iret hX dX12_ofWord_53 h
      · clear h; intro hn1 h
        refine r_case (q := l2 = (2 : Int32)) h ?_ ?_
        · clear h; intro hq h
          refine r_tsIn (tgt := 54) (off := 43) (v := (2 : Int32)) hX dX12_ofWord_11 hq (by decide) (by decide) (by decide +kernel) (by decide) ?_
          clear hq
          refine r_aload_n hX dX12_ofWord_54 rfl 0 rfl ?_
          refine r_gR hX dX12_ofWord_55 kf_X12_68 rfl h ?_
          clear h; intro t6 h
          refine r_iload_n hX dX12_ofWord_58 rfl 1 rfl ?_
          refine r_aI hX dX12_ofWord_59 h ?_
          clear h; intro t7 h
          exact r_iret hX dX12_ofWord_60 h
        · clear h; intro hn2 h
          refine r_case (q := l2 = (3 : Int32)) h ?_ ?_
          · clear h; intro hq h
            refine r_tsIn (tgt := 61) (off := 50) (v := (3 : Int32)) hX dX12_ofWord_11 hq (by decide) (by decide) (by decide +kernel) (by decide) ?_
            clear hq
            refine r_aload_n hX dX12_ofWord_61 rfl 0 rfl ?_
            refine r_gR hX dX12_ofWord_62 kf_X12_71 rfl h ?_
            clear h; intro t8 h
            refine r_iload_n hX dX12_ofWord_65 rfl 1 rfl ?_
            refine r_aI hX dX12_ofWord_66 h ?_
            clear h; intro t9 h
            exact r_iret hX dX12_ofWord_67 h
          · clear h; intro hn3 h
            refine r_tsOut (tgt := 68) hX dX12_ofWord_11 (by have e0 := kd_ne (a := 0) hn0 (by decide); have e1 := kd_ne (a := 1) hn1 (by decide); have e2 := kd_ne (a := 2) hn2 (by decide); have e3 := kd_ne (a := 3) hn3 (by decide); omega) (by decide) ?_
            refine r_iload_n hX dX12_ofWord_68 rfl 2 rfl ?_
            refine r_bipush hX dX12_ofWord_69 kk_b_10 ?_
            refine r_icmp_ge (tgt := 79) hX dX12_ofWord_71 (by decide) h ?_ ?_
            · clear h; intro h
              refine r_iload_n hX dX12_ofWord_79 rfl 2 rfl ?_
              refine r_bipush hX dX12_ofWord_80 kk_b_10 ?_
              refine r_isub hX dX12_ofWord_82 ?_
              refine r_aload_n hX dX12_ofWord_83 rfl 0 rfl ?_
              refine r_gR hX dX12_ofWord_84 kf_X12_71 rfl h ?_
              clear h; intro t10 h
              refine r_iload_n hX dX12_ofWord_87 rfl 1 rfl ?_
              refine r_aI hX dX12_ofWord_88 h ?_
              clear h; intro t11 h
              refine r_icmp_ge (tgt := 109) hX dX12_ofWord_89 (by decide) h ?_ ?_
              · clear h; intro h
                refine r_bipush hX dX12_ofWord_109 kk_b_m6 ?_
                refine r_sub [] rfl ?_
                exact wX12_ofWord_111 hX h
              · clear h; intro h
                refine r_aload_n hX dX12_ofWord_92 rfl 0 rfl ?_
                refine r_gR hX dX12_ofWord_93 kf_X12_74 rfl h ?_
                clear h; intro t12 h
                refine r_bipush hX dX12_ofWord_96 kk_b_8 ?_
                refine r_iload_n hX dX12_ofWord_98 rfl 1 rfl ?_
                refine r_imul hX dX12_ofWord_99 ?_
                refine r_iload_n hX dX12_ofWord_100 rfl 2 rfl ?_
                refine r_iadd hX dX12_ofWord_101 ?_
                refine r_bipush hX dX12_ofWord_102 kk_b_10 ?_
                refine r_isub hX dX12_ofWord_104 ?_
                refine r_aI hX dX12_ofWord_105 h ?_
                clear h; intro t13 h
                refine r_goto (tgt := 111) hX dX12_ofWord_106 (by decide) ?_
                refine r_sub [] rfl ?_
                exact wX12_ofWord_111 hX h
            · clear h; intro h
              refine r_bipush hX dX12_ofWord_74 kk_b_m2 ?_
              refine r_goto (tgt := 111) hX dX12_ofWord_76 (by decide) ?_
              refine r_sub [] rfl ?_
              exact wX12_ofWord_111 hX h
def X12_count (G : kdS) (l0 : Nat) (l1 : Int32) (l2 : Int32) : kdM → Option (Int32 × kdM) :=
  kcv G 12 l0 (X12_isWord G l0 l1) fun t1 =>
  cnd (t1 = 0)
    (rt (-1 : Int32))
    (kcl (X12_in G (Int32.toInt64 l2) (1 : Int64) (100 : Int64)) fun t2 =>
    cnd (t2 = 0)
      (rt (-2 : Int32))
      (gR G 12 26 l0 fun t3 =>
      aI G t3 (l1) fun t4 =>
      gR G 12 26 l0 fun t5 =>
      tI G t5 (l1) (l2) <|
      rt t4))
set_option maxRecDepth 100000 in
set_option maxHeartbeats 4000000 in
theorem wX12_count {E : kdE} {G : kdS} {l0 : Nat} {l1 : Int32} {l2 : Int32} {σ : kdM} {r : Int32} {σ1 : kdM} (h : X12_count G l0 l1 l2 σ = some (r, σ1)) : Con E G yX12_count cX12_count 4 (some .int) 2 [kr E l0, .int l1, .int l2] σ (some (.int r), σ1) := by
  refine kd_head (own := RX12) rfl (by decide +kernel) (Nat.le_of_ble_eq_true rfl) (fun A hX => ?_)
  show SW E G (.inl (some (.int r), σ1)) A 4 σ 0 [(0, kr E l0), (1, .int l1), (2, .int l2)] []
  unfold X12_count at h
  refine r_aload_n hX dX12_count_0 rfl 0 rfl ?_
  refine r_iload_n hX dX12_count_1 rfl 1 rfl ?_
  refine r_cVi (As := [.int l1]) (st := []) hX dX12_count_2 kl_X12_isWord w_ml_X12_251 w_im_X12_isWord w_se_X12_isWord ⟨_, _, rfl⟩ (by decide) rfl (Nat.le_of_ble_eq_true rfl) rfl kdz0 h (fun r σ1 h => wX12_isWord h) ?_
  clear h; intro t1 σ h
  refine r_if_ne (tgt := 10) hX dX12_count_5 (by decide) h ?_ ?_
  · clear h; intro h
    refine r_iconst hX dX12_count_8 kk_i_m1 ?_
    exact r_iret hX dX12_count_9 h
  · clear h; intro h
    refine r_iload_n hX dX12_count_10 rfl 2 rfl ?_
    refine r_i2l hX dX12_count_11 ?_
    refine r_lconst hX dX12_count_12 kk_l_1 ?_
    refine r_ldc2_w hX dX12_count_13 w_cl_X12_249 ?_
    refine r_cSi (As := [.long (Int32.toInt64 l2), .long (1 : Int64), .long (100 : Int64)]) (st := []) hX dX12_count_16 kl_X12_in w_ml_X12_178 w_st_X12_in (by decide) rfl (Nat.le_of_ble_eq_true rfl) rfl kdz0 h (fun r σ1 h => wX12_in h) ?_
    clear h; intro t2 σ h
    refine r_if_ne (tgt := 25) hX dX12_count_19 (by decide) h ?_ ?_
    · clear h; intro h
      refine r_bipush hX dX12_count_22 kk_b_m2 ?_
      exact r_iret hX dX12_count_24 h
    · clear h; intro h
      refine r_aload_n hX dX12_count_25 rfl 0 rfl ?_
      refine r_gR hX dX12_count_26 kf_X12_68 rfl h ?_
      clear h; intro t3 h
      refine r_iload_n hX dX12_count_29 rfl 1 rfl ?_
      refine r_aI hX dX12_count_30 h ?_
      clear h; intro t4 h
      refine r_istore_n (L2 := [(3, .int t4), (0, kr E l0), (1, .int l1), (2, .int l2)]) hX dX12_count_31 rfl (by decide) rfl ?_
      refine r_aload_n hX dX12_count_32 rfl 1 rfl ?_
      refine r_gR hX dX12_count_33 kf_X12_68 rfl h ?_
      clear h; intro t5 h
      refine r_iload_n hX dX12_count_36 rfl 2 rfl ?_
      refine r_iload_n hX dX12_count_37 rfl 3 rfl ?_
      refine r_tI hX dX12_count_38 h ?_
      clear h; intro σ h
      refine r_iload_n hX dX12_count_39 rfl 0 rfl ?_
      exact r_iret hX dX12_count_40 h
def X12_price_33 (G : kdS) : kdM → Option (Int32 × kdM) :=
  rt (-2 : Int32)
set_option maxRecDepth 100000 in
set_option maxHeartbeats 4000000 in
theorem wX12_price_33 {E : kdE} {G : kdS} {A : kdA} {r : Int32} {σ1 : kdM} (hX : kdX E A cX12_price 4 RX12 (some .int) 1) {σ : kdM} (h : X12_price_33 G  σ = some (r, σ1)) : SW E G (.inl (some (.int r), σ1)) A 4 σ 33 [] [] := by
  unfold X12_price_33 at h
  refine r_bipush hX dX12_price_33 kk_b_m2 ?_
  exact r_iret hX dX12_price_35 h
def X12_price_24 (G : kdS) (l0 : Nat) (l1 : Int32) (l2 : Int32) (s0 : Int64) (s1 : Int64) : kdM → Option (Int32 × kdM) :=
  kcl (X12_in G s0 s1 (20 : Int64)) fun t1 =>
  cnd (t1 = 0)
    (X12_price_33 G )
    (gR G 12 30 l0 fun t2 =>
    aI G t2 (l1) fun t3 =>
    gR G 12 30 l0 fun t4 =>
    tI G t4 (l1) (l2) <|
    rt t3)
set_option maxRecDepth 100000 in
set_option maxHeartbeats 4000000 in
theorem wX12_price_24 {E : kdE} {G : kdS} {A : kdA} {r : Int32} {σ1 : kdM} (hX : kdX E A cX12_price 4 RX12 (some .int) 1) {σ : kdM} {l0 : Nat} {l1 : Int32} {l2 : Int32} {s0 : Int64} {s1 : Int64} (h : X12_price_24 G l0 l1 l2 s0 s1 σ = some (r, σ1)) : SW E G (.inl (some (.int r), σ1)) A 4 σ 24 [(0, kr E l0), (1, .int l1), (2, .int l2)] [.long s1, .long s0] := by
  unfold X12_price_24 at h
  refine r_ldc2_w hX dX12_price_24 w_cl_X12_256 ?_
  refine r_cSi (As := [.long s0, .long s1, .long (20 : Int64)]) (st := []) hX dX12_price_27 kl_X12_in w_ml_X12_178 w_st_X12_in (by decide) rfl (Nat.le_of_ble_eq_true rfl) rfl kdz0 h (fun r σ1 h => wX12_in h) ?_
  clear h; intro t1 σ h
  refine r_if_ne (tgt := 36) hX dX12_price_30 (by decide) h ?_ ?_
  · clear h; intro h
    refine r_sub [] rfl ?_
    exact wX12_price_33 hX h
  · clear h; intro h
    refine r_aload_n hX dX12_price_36 rfl 0 rfl ?_
    refine r_gR hX dX12_price_37 kf_X12_77 rfl h ?_
    clear h; intro t2 h
    refine r_iload_n hX dX12_price_40 rfl 1 rfl ?_
    refine r_aI hX dX12_price_41 h ?_
    clear h; intro t3 h
    refine r_istore_n (L2 := [(3, .int t3), (0, kr E l0), (1, .int l1), (2, .int l2)]) hX dX12_price_42 rfl (by decide) rfl ?_
    refine r_aload_n hX dX12_price_43 rfl 1 rfl ?_
    refine r_gR hX dX12_price_44 kf_X12_77 rfl h ?_
    clear h; intro t4 h
    refine r_iload_n hX dX12_price_47 rfl 2 rfl ?_
    refine r_iload_n hX dX12_price_48 rfl 3 rfl ?_
    refine r_tI hX dX12_price_49 h ?_
    clear h; intro σ h
    refine r_iload_n hX dX12_price_50 rfl 0 rfl ?_
    exact r_iret hX dX12_price_51 h
def X12_price (G : kdS) (l0 : Nat) (l1 : Int32) (l2 : Int32) : kdM → Option (Int32 × kdM) :=
  kcl (X12_in G (Int32.toInt64 l1) (0 : Int64) (5 : Int64)) fun t1 =>
  cnd (t1 = 0)
    (X12_price_33 G )
    (cnd (l1 = (5 : Int32))
      (X12_price_24 G l0 l1 l2 (Int32.toInt64 l2) (0 : Int64))
      (X12_price_24 G l0 l1 l2 (Int32.toInt64 l2) (1 : Int64)))
set_option maxRecDepth 100000 in
set_option maxHeartbeats 4000000 in
theorem wX12_price {E : kdE} {G : kdS} {l0 : Nat} {l1 : Int32} {l2 : Int32} {σ : kdM} {r : Int32} {σ1 : kdM} (h : X12_price G l0 l1 l2 σ = some (r, σ1)) : Con E G yX12_price cX12_price 4 (some .int) 1 [kr E l0, .int l1, .int l2] σ (some (.int r), σ1) := by
  refine kd_head (own := RX12) rfl (by decide +kernel) (Nat.le_of_ble_eq_true rfl) (fun A hX => ?_)
  show SW E G (.inl (some (.int r), σ1)) A 4 σ 0 [(0, kr E l0), (1, .int l1), (2, .int l2)] []
  unfold X12_price at h
  refine r_iload_n hX dX12_price_0 rfl 1 rfl ?_
  refine r_i2l hX dX12_price_1 ?_
  refine r_lconst hX dX12_price_2 kk_l_0 ?_
  refine r_ldc2_w hX dX12_price_3 w_cl_X12_254 ?_
  refine r_cSi (As := [.long (Int32.toInt64 l1), .long (0 : Int64), .long (5 : Int64)]) (st := []) hX dX12_price_6 kl_X12_in w_ml_X12_178 w_st_X12_in (by decide) rfl (Nat.le_of_ble_eq_true rfl) rfl kdz0 h (fun r σ1 h => wX12_in h) ?_
  clear h; intro t1 σ h
  refine r_if_eq (tgt := 33) hX dX12_price_9 (by decide) h ?_ ?_
  · clear h; intro h
    refine r_sub [] rfl ?_
    exact wX12_price_33 hX h
  · clear h; intro h
    refine r_iload_n hX dX12_price_12 rfl 2 rfl ?_
    refine r_i2l hX dX12_price_13 ?_
    refine r_iload_n hX dX12_price_14 rfl 1 rfl ?_
    refine r_iconst hX dX12_price_15 kk_i_5 ?_
    refine r_icmp_ne (tgt := 23) hX dX12_price_16 (by decide) h ?_ ?_
    · clear h; intro h
      refine r_lconst hX dX12_price_19 kk_l_0 ?_
      refine r_goto (tgt := 24) hX dX12_price_20 (by decide) ?_
      refine r_sub [0, 1, 2] rfl ?_
      exact wX12_price_24 hX h
    · clear h; intro h
      refine r_lconst hX dX12_price_23 kk_l_1 ?_
      refine r_sub [0, 1, 2] rfl ?_
      exact wX12_price_24 hX h
def X12_areBeside_38 (G : kdS) (s0 : Int32) : kdM → Option (Int32 × kdM) :=
  rt (vp_nar .boolean s0)
set_option maxRecDepth 100000 in
set_option maxHeartbeats 4000000 in
theorem wX12_areBeside_38 {E : kdE} {G : kdS} {A : kdA} {r : Int32} {σ1 : kdM} (hX : kdX E A cX12_areBeside 2 RX12 (some .boolean) 1) {σ : kdM} {s0 : Int32} (h : X12_areBeside_38 G s0 σ = some (r, σ1)) : SW E G (.inl (some (.int r), σ1)) A 2 σ 38 [] [.int s0] := by
  unfold X12_areBeside_38 at h
  exact r_zret hX dX12_areBeside_38 h
def X12_areBeside_37 (G : kdS) : kdM → Option (Int32 × kdM) :=
  X12_areBeside_38 G (0 : Int32)
set_option maxRecDepth 100000 in
set_option maxHeartbeats 4000000 in
theorem wX12_areBeside_37 {E : kdE} {G : kdS} {A : kdA} {r : Int32} {σ1 : kdM} (hX : kdX E A cX12_areBeside 2 RX12 (some .boolean) 1) {σ : kdM} (h : X12_areBeside_37 G  σ = some (r, σ1)) : SW E G (.inl (some (.int r), σ1)) A 2 σ 37 [] [] := by
  unfold X12_areBeside_37 at h
  refine r_iconst hX dX12_areBeside_37 kk_i_0 ?_
  refine r_sub [] rfl ?_
  exact wX12_areBeside_38 hX h
def X12_areBeside (G : kdS) (l0 : Int32) (l1 : Int32) : kdM → Option (Int32 × kdM) :=
  cnd (l0 = l1)
    (X12_areBeside_37 G )
    (nz (4 : Int32) <|
    nz (4 : Int32) <|
    kcl (X12_size G ((l0 / (4 : Int32)) - (l1 / (4 : Int32)))) fun t1 =>
    cnd ((2 : Int32) ≤ t1)
      (X12_areBeside_37 G )
      (nz (4 : Int32) <|
      nz (4 : Int32) <|
      kcl (X12_size G ((krem l0 (4 : Int32)) - (krem l1 (4 : Int32)))) fun t2 =>
      cnd ((2 : Int32) ≤ t2)
        (X12_areBeside_37 G )
        (X12_areBeside_38 G (1 : Int32))))
set_option maxRecDepth 100000 in
set_option maxHeartbeats 4000000 in
theorem wX12_areBeside {E : kdE} {G : kdS} {l0 : Int32} {l1 : Int32} {σ : kdM} {r : Int32} {σ1 : kdM} (h : X12_areBeside G l0 l1 σ = some (r, σ1)) : Con E G yX12_areBeside cX12_areBeside 2 (some .boolean) 1 [.int l0, .int l1] σ (some (.int r), σ1) := by
  refine kd_head (own := RX12) rfl (by decide +kernel) (Nat.le_of_ble_eq_true rfl) (fun A hX => ?_)
  show SW E G (.inl (some (.int r), σ1)) A 2 σ 0 [(0, .int l0), (1, .int l1)] []
  unfold X12_areBeside at h
  refine r_iload_n hX dX12_areBeside_0 rfl 0 rfl ?_
  refine r_iload_n hX dX12_areBeside_1 rfl 1 rfl ?_
  refine r_icmp_eq (tgt := 37) hX dX12_areBeside_2 (by decide) h ?_ ?_
  · clear h; intro h
    refine r_sub [] rfl ?_
    exact wX12_areBeside_37 hX h
  · clear h; intro h
    refine r_iload_n hX dX12_areBeside_5 rfl 0 rfl ?_
    refine r_iconst hX dX12_areBeside_6 kk_i_4 ?_
    refine r_idiv hX dX12_areBeside_7 h ?_
    clear h; intro h
    refine r_iload_n hX dX12_areBeside_8 rfl 1 rfl ?_
    refine r_iconst hX dX12_areBeside_9 kk_i_4 ?_
    refine r_idiv hX dX12_areBeside_10 h ?_
    clear h; intro h
    refine r_isub hX dX12_areBeside_11 ?_
    refine r_cSi (As := [.int ((l0 / (4 : Int32)) - (l1 / (4 : Int32)))]) (st := []) hX dX12_areBeside_12 kl_X12_size w_ml_X12_258 w_st_X12_size (by decide) rfl (Nat.le_of_ble_eq_true rfl) rfl kdz0 h (fun r σ1 h => wX12_size h) ?_
    clear h; intro t1 σ h
    refine r_iconst hX dX12_areBeside_15 kk_i_2 ?_
    refine r_icmp_ge (tgt := 37) hX dX12_areBeside_16 (by decide) h ?_ ?_
    · clear h; intro h
      refine r_sub [] rfl ?_
      exact wX12_areBeside_37 hX h
    · clear h; intro h
      refine r_iload_n hX dX12_areBeside_19 rfl 0 rfl ?_
      refine r_iconst hX dX12_areBeside_20 kk_i_4 ?_
      refine r_irem hX dX12_areBeside_21 h ?_
      clear h; intro h
      refine r_iload_n hX dX12_areBeside_22 rfl 1 rfl ?_
      refine r_iconst hX dX12_areBeside_23 kk_i_4 ?_
      refine r_irem hX dX12_areBeside_24 h ?_
      clear h; intro h
      refine r_isub hX dX12_areBeside_25 ?_
      refine r_cSi (As := [.int ((krem l0 (4 : Int32)) - (krem l1 (4 : Int32)))]) (st := []) hX dX12_areBeside_26 kl_X12_size w_ml_X12_258 w_st_X12_size (by decide) rfl (Nat.le_of_ble_eq_true rfl) rfl kdz0 h (fun r σ1 h => wX12_size h) ?_
      clear h; intro t2 σ h
      refine r_iconst hX dX12_areBeside_29 kk_i_2 ?_
      refine r_icmp_ge (tgt := 37) hX dX12_areBeside_30 (by decide) h ?_ ?_
      · clear h; intro h
        refine r_sub [] rfl ?_
        exact wX12_areBeside_37 hX h
      · clear h; intro h
        refine r_iconst hX dX12_areBeside_33 kk_i_1 ?_
        refine r_goto (tgt := 38) hX dX12_areBeside_34 (by decide) ?_
        refine r_sub [] rfl ?_
        exact wX12_areBeside_38 hX h
def X12_lesser_10 (G : kdS) (s0 : Int32) : kdM → Option (Int32 × kdM) :=
  rt s0
set_option maxRecDepth 100000 in
set_option maxHeartbeats 4000000 in
theorem wX12_lesser_10 {E : kdE} {G : kdS} {A : kdA} {r : Int32} {σ1 : kdM} (hX : kdX E A cX12_lesser 2 RX12 (some .int) 0) {σ : kdM} {s0 : Int32} (h : X12_lesser_10 G s0 σ = some (r, σ1)) : SW E G (.inl (some (.int r), σ1)) A 2 σ 10 [] [.int s0] := by
  unfold X12_lesser_10 at h
  exact r_iret hX dX12_lesser_10 h
def X12_lesser (G : kdS) (l0 : Int32) (l1 : Int32) : kdM → Option (Int32 × kdM) :=
  cnd (l1 ≤ l0)
    (X12_lesser_10 G l1)
    (X12_lesser_10 G l0)
set_option maxRecDepth 100000 in
set_option maxHeartbeats 4000000 in
theorem wX12_lesser {E : kdE} {G : kdS} {l0 : Int32} {l1 : Int32} {σ : kdM} {r : Int32} {σ1 : kdM} (h : X12_lesser G l0 l1 σ = some (r, σ1)) : Con E G yX12_lesser cX12_lesser 2 (some .int) 0 [.int l0, .int l1] σ (some (.int r), σ1) := by
  refine kd_head (own := RX12) rfl (by decide +kernel) (Nat.le_of_ble_eq_true rfl) (fun A hX => ?_)
  show SW E G (.inl (some (.int r), σ1)) A 2 σ 0 [(0, .int l0), (1, .int l1)] []
  unfold X12_lesser at h
  refine r_iload_n hX dX12_lesser_0 rfl 0 rfl ?_
  refine r_iload_n hX dX12_lesser_1 rfl 1 rfl ?_
  refine r_icmp_ge (tgt := 9) hX dX12_lesser_2 (by decide) h ?_ ?_
  · clear h; intro h
    refine r_iload_n hX dX12_lesser_9 rfl 1 rfl ?_
    refine r_sub [] rfl ?_
    exact wX12_lesser_10 hX h
  · clear h; intro h
    refine r_iload_n hX dX12_lesser_5 rfl 0 rfl ?_
    refine r_goto (tgt := 10) hX dX12_lesser_6 (by decide) ?_
    refine r_sub [] rfl ?_
    exact wX12_lesser_10 hX h
def X12_cheapest_299 (G : kdS) (l5 : Int32) : kdM → Option (Int32 × kdM) :=
  rt l5
set_option maxRecDepth 100000 in
set_option maxHeartbeats 4000000 in
theorem wX12_cheapest_299 {E : kdE} {G : kdS} {A : kdA} {r : Int32} {σ1 : kdM} (hX : kdX E A cX12_cheapest 10 RX12 (some .int) 2) {σ : kdM} {l5 : Int32} (h : X12_cheapest_299 G l5 σ = some (r, σ1)) : SW E G (.inl (some (.int r), σ1)) A 10 σ 299 [(5, .int l5)] [] := by
  unfold X12_cheapest_299 at h
  refine r_iload hX dX12_cheapest_299 0 rfl ?_
  exact r_iret hX dX12_cheapest_301 h
def X12_cheapest_225 (G : kdS) (l0 : Nat) (l1 : Int32) (l3 : Int32) (l4 : Int32) (l5 : Int32) (l6 : Int32) (l7 : Int32) (l8 : Int32) : kdM → Option (Int32 × kdM) :=
  cnd (l3 ≤ (1 : Int32))
    (X12_cheapest_299 G l5)
    (cnd (l4 ≤ (1 : Int32))
      (X12_cheapest_299 G l5)
      (cnd (l8 = l6)
        (X12_cheapest_299 G l5)
        (cnd (l8 = l7)
          (gR G 12 28 l0 fun t1 =>
          aI G t1 (((((8 : Int32) * l1) + l4) - (2 : Int32))) fun t2 =>
          cnd (l6 = t2)
            (gR G 12 31 l0 fun t3 =>
            aI G t3 (((((9 : Int32) * (l3 - (2 : Int32))) + l4) - (2 : Int32))) fun t4 =>
            gR G 12 30 l0 fun t5 =>
            aI G t5 ((3 : Int32)) fun t6 =>
            kcl (X12_lesser G l5 (t4 + t6)) fun t7 =>
            X12_cheapest_299 G t7)
            (X12_cheapest_299 G l5))
          (X12_cheapest_299 G l5))))
set_option maxRecDepth 100000 in
set_option maxHeartbeats 4000000 in
theorem wX12_cheapest_225 {E : kdE} {G : kdS} {A : kdA} {r : Int32} {σ1 : kdM} (hX : kdX E A cX12_cheapest 10 RX12 (some .int) 2) {σ : kdM} {l0 : Nat} {l1 : Int32} {l3 : Int32} {l4 : Int32} {l5 : Int32} {l6 : Int32} {l7 : Int32} {l8 : Int32} (h : X12_cheapest_225 G l0 l1 l3 l4 l5 l6 l7 l8 σ = some (r, σ1)) : SW E G (.inl (some (.int r), σ1)) A 10 σ 225 [(0, kr E l0), (1, .int l1), (3, .int l3), (4, .int l4), (5, .int l5), (6, .int l6), (7, .int l7), (8, .int l8)] [] := by
  unfold X12_cheapest_225 at h
  refine r_iload_n hX dX12_cheapest_225 rfl 2 rfl ?_
  refine r_iconst hX dX12_cheapest_226 kk_i_1 ?_
  refine r_icmp_le (tgt := 299) hX dX12_cheapest_227 (by decide) h ?_ ?_
  · clear h; intro h
    refine r_sub [4] rfl ?_
    exact wX12_cheapest_299 hX h
  · clear h; intro h
    refine r_iload hX dX12_cheapest_230 3 rfl ?_
    refine r_iconst hX dX12_cheapest_232 kk_i_1 ?_
    refine r_icmp_le (tgt := 299) hX dX12_cheapest_233 (by decide) h ?_ ?_
    · clear h; intro h
      refine r_sub [4] rfl ?_
      exact wX12_cheapest_299 hX h
    · clear h; intro h
      refine r_iload hX dX12_cheapest_236 7 rfl ?_
      refine r_iload hX dX12_cheapest_238 5 rfl ?_
      refine r_icmp_eq (tgt := 299) hX dX12_cheapest_240 (by decide) h ?_ ?_
      · clear h; intro h
        refine r_sub [4] rfl ?_
        exact wX12_cheapest_299 hX h
      · clear h; intro h
        refine r_iload hX dX12_cheapest_243 7 rfl ?_
        refine r_iload hX dX12_cheapest_245 6 rfl ?_
        refine r_icmp_ne (tgt := 299) hX dX12_cheapest_247 (by decide) h ?_ ?_
        · clear h; intro h
          refine r_iload hX dX12_cheapest_250 5 rfl ?_
          refine r_aload_n hX dX12_cheapest_252 rfl 0 rfl ?_
          refine r_gR hX dX12_cheapest_253 kf_X12_74 rfl h ?_
          clear h; intro t1 h
          refine r_bipush hX dX12_cheapest_256 kk_b_8 ?_
          refine r_iload_n hX dX12_cheapest_258 rfl 1 rfl ?_
          refine r_imul hX dX12_cheapest_259 ?_
          refine r_iload hX dX12_cheapest_260 3 rfl ?_
          refine r_iadd hX dX12_cheapest_262 ?_
          refine r_iconst hX dX12_cheapest_263 kk_i_2 ?_
          refine r_isub hX dX12_cheapest_264 ?_
          refine r_aI hX dX12_cheapest_265 h ?_
          clear h; intro t2 h
          refine r_icmp_ne (tgt := 299) hX dX12_cheapest_266 (by decide) h ?_ ?_
          · clear h; intro h
            refine r_iload hX dX12_cheapest_269 4 rfl ?_
            refine r_aload_n hX dX12_cheapest_271 rfl 0 rfl ?_
            refine r_gR hX dX12_cheapest_272 kf_X12_80 rfl h ?_
            clear h; intro t3 h
            refine r_bipush hX dX12_cheapest_275 kk_b_9 ?_
            refine r_iload_n hX dX12_cheapest_277 rfl 2 rfl ?_
            refine r_iconst hX dX12_cheapest_278 kk_i_2 ?_
            refine r_isub hX dX12_cheapest_279 ?_
            refine r_imul hX dX12_cheapest_280 ?_
            refine r_iload hX dX12_cheapest_281 3 rfl ?_
            refine r_iadd hX dX12_cheapest_283 ?_
            refine r_iconst hX dX12_cheapest_284 kk_i_2 ?_
            refine r_isub hX dX12_cheapest_285 ?_
            refine r_aI hX dX12_cheapest_286 h ?_
            clear h; intro t4 h
            refine r_aload_n hX dX12_cheapest_287 rfl 0 rfl ?_
            refine r_gR hX dX12_cheapest_288 kf_X12_77 rfl h ?_
            clear h; intro t5 h
            refine r_iconst hX dX12_cheapest_291 kk_i_3 ?_
            refine r_aI hX dX12_cheapest_292 h ?_
            clear h; intro t6 h
            refine r_iadd hX dX12_cheapest_293 ?_
            refine r_cSi (As := [.int l5, .int (t4 + t6)]) (st := []) hX dX12_cheapest_294 kl_X12_lesser w_ml_X12_266 w_st_X12_lesser (by decide) rfl (Nat.le_of_ble_eq_true rfl) rfl kdz0 h (fun r σ1 h => wX12_lesser h) ?_
            clear h; intro t7 σ h
            refine r_istore (L2 := [(5, .int t7), (0, kr E l0), (1, .int l1), (3, .int l3), (4, .int l4), (6, .int l6), (7, .int l7), (8, .int l8)]) hX dX12_cheapest_297 (by decide) rfl ?_
            refine r_sub [0] rfl ?_
            exact wX12_cheapest_299 hX h
          · clear h; intro h
            refine r_sub [4] rfl ?_
            exact wX12_cheapest_299 hX h
        · clear h; intro h
          refine r_sub [4] rfl ?_
          exact wX12_cheapest_299 hX h
def X12_cheapest_197 (G : kdS) (l0 : Nat) (l1 : Int32) (l3 : Int32) (l4 : Int32) (l5 : Int32) (l6 : Int32) (l7 : Int32) (l8 : Int32) (s0 : Int32) : kdM → Option (Int32 × kdM) :=
  gR G 12 31 l0 fun t1 =>
  aI G t1 (((((9 : Int32) * (l3 - (1 : Int32))) + l4) - (1 : Int32))) fun t2 =>
  kcl (X12_lesser G l5 (t2 + s0)) fun t3 =>
  X12_cheapest_225 G l0 l1 l3 l4 t3 l6 l7 l8
set_option maxRecDepth 100000 in
set_option maxHeartbeats 4000000 in
theorem wX12_cheapest_197 {E : kdE} {G : kdS} {A : kdA} {r : Int32} {σ1 : kdM} (hX : kdX E A cX12_cheapest 10 RX12 (some .int) 2) {σ : kdM} {l0 : Nat} {l1 : Int32} {l3 : Int32} {l4 : Int32} {l5 : Int32} {l6 : Int32} {l7 : Int32} {l8 : Int32} {s0 : Int32} (h : X12_cheapest_197 G l0 l1 l3 l4 l5 l6 l7 l8 s0 σ = some (r, σ1)) : SW E G (.inl (some (.int r), σ1)) A 10 σ 197 [(0, kr E l0), (1, .int l1), (3, .int l3), (4, .int l4), (5, .int l5), (6, .int l6), (7, .int l7), (8, .int l8)] [.int s0] := by
  unfold X12_cheapest_197 at h
  refine r_istore (L2 := [(9, .int s0), (0, kr E l0), (1, .int l1), (3, .int l3), (4, .int l4), (5, .int l5), (6, .int l6), (7, .int l7), (8, .int l8)]) hX dX12_cheapest_197 (by decide) rfl ?_
  refine r_iload hX dX12_cheapest_199 5 rfl ?_
  refine r_aload_n hX dX12_cheapest_201 rfl 1 rfl ?_
  refine r_gR hX dX12_cheapest_202 kf_X12_80 rfl h ?_
  clear h; intro t1 h
  refine r_bipush hX dX12_cheapest_205 kk_b_9 ?_
  refine r_iload_n hX dX12_cheapest_207 rfl 3 rfl ?_
  refine r_iconst hX dX12_cheapest_208 kk_i_1 ?_
  refine r_isub hX dX12_cheapest_209 ?_
  refine r_imul hX dX12_cheapest_210 ?_
  refine r_iload hX dX12_cheapest_211 4 rfl ?_
  refine r_iadd hX dX12_cheapest_213 ?_
  refine r_iconst hX dX12_cheapest_214 kk_i_1 ?_
  refine r_isub hX dX12_cheapest_215 ?_
  refine r_aI hX dX12_cheapest_216 h ?_
  clear h; intro t2 h
  refine r_iload hX dX12_cheapest_217 0 rfl ?_
  refine r_iadd hX dX12_cheapest_219 ?_
  refine r_cSi (As := [.int l5, .int (t2 + s0)]) (st := []) hX dX12_cheapest_220 kl_X12_lesser w_ml_X12_266 w_st_X12_lesser (by decide) rfl (Nat.le_of_ble_eq_true rfl) rfl kdz0 h (fun r σ1 h => wX12_lesser h) ?_
  clear h; intro t3 σ h
  refine r_istore (L2 := [(5, .int t3), (9, .int s0), (0, kr E l0), (1, .int l1), (3, .int l3), (4, .int l4), (6, .int l6), (7, .int l7), (8, .int l8)]) hX dX12_cheapest_223 (by decide) rfl ?_
  refine r_sub [2, 3, 4, 5, 0, 6, 7, 8] rfl ?_
  exact wX12_cheapest_225 hX h
def X12_cheapest_152 (G : kdS) (l0 : Nat) (l1 : Int32) (l3 : Int32) (l4 : Int32) (l5 : Int32) (l6 : Int32) (l7 : Int32) (l8 : Int32) : kdM → Option (Int32 × kdM) :=
  cnd (l3 ≤ 0)
    (X12_cheapest_225 G l0 l1 l3 l4 l5 l6 l7 l8)
    (cnd (l4 ≤ 0)
      (X12_cheapest_225 G l0 l1 l3 l4 l5 l6 l7 l8)
      (cnd (l6 = l7)
        (X12_cheapest_197 G l0 l1 l3 l4 l5 l6 l7 l8 (0 : Int32))
        (kcl (X12_areBeside G l6 l7) fun t1 =>
        cnd (t1 = 0)
          (gR G 12 30 l0 fun t2 =>
          aI G t2 ((4 : Int32)) fun t3 =>
          X12_cheapest_197 G l0 l1 l3 l4 l5 l6 l7 l8 t3)
          (gR G 12 30 l0 fun t4 =>
          aI G t4 ((0 : Int32)) fun t5 =>
          X12_cheapest_197 G l0 l1 l3 l4 l5 l6 l7 l8 t5))))
set_option maxRecDepth 100000 in
set_option maxHeartbeats 4000000 in
theorem wX12_cheapest_152 {E : kdE} {G : kdS} {A : kdA} {r : Int32} {σ1 : kdM} (hX : kdX E A cX12_cheapest 10 RX12 (some .int) 2) {σ : kdM} {l0 : Nat} {l1 : Int32} {l3 : Int32} {l4 : Int32} {l5 : Int32} {l6 : Int32} {l7 : Int32} {l8 : Int32} (h : X12_cheapest_152 G l0 l1 l3 l4 l5 l6 l7 l8 σ = some (r, σ1)) : SW E G (.inl (some (.int r), σ1)) A 10 σ 152 [(0, kr E l0), (1, .int l1), (3, .int l3), (4, .int l4), (5, .int l5), (6, .int l6), (7, .int l7), (8, .int l8)] [] := by
  unfold X12_cheapest_152 at h
  refine r_iload_n hX dX12_cheapest_152 rfl 2 rfl ?_
  refine r_if_le (tgt := 225) hX dX12_cheapest_153 (by decide) h ?_ ?_
  · clear h; intro h
    refine r_sub [0, 1, 2, 3, 4, 5, 6, 7] rfl ?_
    exact wX12_cheapest_225 hX h
  · clear h; intro h
    refine r_iload hX dX12_cheapest_156 3 rfl ?_
    refine r_if_le (tgt := 225) hX dX12_cheapest_158 (by decide) h ?_ ?_
    · clear h; intro h
      refine r_sub [0, 1, 2, 3, 4, 5, 6, 7] rfl ?_
      exact wX12_cheapest_225 hX h
    · clear h; intro h
      refine r_iload hX dX12_cheapest_161 5 rfl ?_
      refine r_iload hX dX12_cheapest_163 6 rfl ?_
      refine r_icmp_ne (tgt := 172) hX dX12_cheapest_165 (by decide) h ?_ ?_
      · clear h; intro h
        refine r_iconst hX dX12_cheapest_168 kk_i_0 ?_
        refine r_goto (tgt := 197) hX dX12_cheapest_169 (by decide) ?_
        refine r_sub [0, 1, 2, 3, 4, 5, 6, 7] rfl ?_
        exact wX12_cheapest_197 hX h
      · clear h; intro h
        refine r_iload hX dX12_cheapest_172 5 rfl ?_
        refine r_iload hX dX12_cheapest_174 6 rfl ?_
        refine r_cSi (As := [.int l6, .int l7]) (st := []) hX dX12_cheapest_176 kl_X12_areBeside w_ml_X12_269 w_st_X12_areBeside (by decide) rfl (Nat.le_of_ble_eq_true rfl) rfl kdz0 h (fun r σ1 h => wX12_areBeside h) ?_
        clear h; intro t1 σ h
        refine r_if_eq (tgt := 191) hX dX12_cheapest_179 (by decide) h ?_ ?_
        · clear h; intro h
          refine r_aload_n hX dX12_cheapest_191 rfl 0 rfl ?_
          refine r_gR hX dX12_cheapest_192 kf_X12_77 rfl h ?_
          clear h; intro t2 h
          refine r_iconst hX dX12_cheapest_195 kk_i_4 ?_
          refine r_aI hX dX12_cheapest_196 h ?_
          clear h; intro t3 h
          refine r_sub [0, 1, 2, 3, 4, 5, 6, 7] rfl ?_
          exact wX12_cheapest_197 hX h
        · clear h; intro h
          refine r_aload_n hX dX12_cheapest_182 rfl 0 rfl ?_
          refine r_gR hX dX12_cheapest_183 kf_X12_77 rfl h ?_
          clear h; intro t4 h
          refine r_iconst hX dX12_cheapest_186 kk_i_0 ?_
          refine r_aI hX dX12_cheapest_187 h ?_
          clear h; intro t5 h
          refine r_goto (tgt := 197) hX dX12_cheapest_188 (by decide) ?_
          refine r_sub [0, 1, 2, 3, 4, 5, 6, 7] rfl ?_
          exact wX12_cheapest_197 hX h
def X12_cheapest_119 (G : kdS) (l0 : Nat) (l1 : Int32) (l3 : Int32) (l4 : Int32) (l5 : Int32) (l6 : Int32) (l7 : Int32) (l8 : Int32) : kdM → Option (Int32 × kdM) :=
  cnd (l4 ≤ 0)
    (X12_cheapest_152 G l0 l1 l3 l4 l5 l6 l7 l8)
    (gR G 12 31 l0 fun t1 =>
    aI G t1 (((((9 : Int32) * l3) + l4) - (1 : Int32))) fun t2 =>
    gR G 12 30 l0 fun t3 =>
    aI G t3 ((2 : Int32)) fun t4 =>
    kcl (X12_lesser G l5 (t2 + t4)) fun t5 =>
    X12_cheapest_152 G l0 l1 l3 l4 t5 l6 l7 l8)
set_option maxRecDepth 100000 in
set_option maxHeartbeats 4000000 in
theorem wX12_cheapest_119 {E : kdE} {G : kdS} {A : kdA} {r : Int32} {σ1 : kdM} (hX : kdX E A cX12_cheapest 10 RX12 (some .int) 2) {σ : kdM} {l0 : Nat} {l1 : Int32} {l3 : Int32} {l4 : Int32} {l5 : Int32} {l6 : Int32} {l7 : Int32} {l8 : Int32} (h : X12_cheapest_119 G l0 l1 l3 l4 l5 l6 l7 l8 σ = some (r, σ1)) : SW E G (.inl (some (.int r), σ1)) A 10 σ 119 [(0, kr E l0), (1, .int l1), (3, .int l3), (4, .int l4), (5, .int l5), (6, .int l6), (7, .int l7), (8, .int l8)] [] := by
  unfold X12_cheapest_119 at h
  refine r_iload hX dX12_cheapest_119 3 rfl ?_
  refine r_if_le (tgt := 152) hX dX12_cheapest_121 (by decide) h ?_ ?_
  · clear h; intro h
    refine r_sub [0, 1, 2, 3, 4, 5, 6, 7] rfl ?_
    exact wX12_cheapest_152 hX h
  · clear h; intro h
    refine r_iload hX dX12_cheapest_124 4 rfl ?_
    refine r_aload_n hX dX12_cheapest_126 rfl 0 rfl ?_
    refine r_gR hX dX12_cheapest_127 kf_X12_80 rfl h ?_
    clear h; intro t1 h
    refine r_bipush hX dX12_cheapest_130 kk_b_9 ?_
    refine r_iload_n hX dX12_cheapest_132 rfl 2 rfl ?_
    refine r_imul hX dX12_cheapest_133 ?_
    refine r_iload hX dX12_cheapest_134 3 rfl ?_
    refine r_iadd hX dX12_cheapest_136 ?_
    refine r_iconst hX dX12_cheapest_137 kk_i_1 ?_
    refine r_isub hX dX12_cheapest_138 ?_
    refine r_aI hX dX12_cheapest_139 h ?_
    clear h; intro t2 h
    refine r_aload_n hX dX12_cheapest_140 rfl 0 rfl ?_
    refine r_gR hX dX12_cheapest_141 kf_X12_77 rfl h ?_
    clear h; intro t3 h
    refine r_iconst hX dX12_cheapest_144 kk_i_2 ?_
    refine r_aI hX dX12_cheapest_145 h ?_
    clear h; intro t4 h
    refine r_iadd hX dX12_cheapest_146 ?_
    refine r_cSi (As := [.int l5, .int (t2 + t4)]) (st := []) hX dX12_cheapest_147 kl_X12_lesser w_ml_X12_266 w_st_X12_lesser (by decide) rfl (Nat.le_of_ble_eq_true rfl) rfl kdz0 h (fun r σ1 h => wX12_lesser h) ?_
    clear h; intro t5 σ h
    refine r_istore (L2 := [(5, .int t5), (0, kr E l0), (1, .int l1), (3, .int l3), (4, .int l4), (6, .int l6), (7, .int l7), (8, .int l8)]) hX dX12_cheapest_150 (by decide) rfl ?_
    refine r_sub [1, 2, 3, 4, 0, 5, 6, 7] rfl ?_
    exact wX12_cheapest_152 hX h
def X12_cheapest_113 (G : kdS) (l0 : Nat) (l1 : Int32) (l3 : Int32) (l4 : Int32) (l6 : Int32) (l7 : Int32) (l8 : Int32) (s0 : Int32) (s1 : Int32) (s2 : Int32) : kdM → Option (Int32 × kdM) :=
  kcl (X12_lesser G s0 (s1 + s2)) fun t1 =>
  X12_cheapest_119 G l0 l1 l3 l4 t1 l6 l7 l8
set_option maxRecDepth 100000 in
set_option maxHeartbeats 4000000 in
theorem wX12_cheapest_113 {E : kdE} {G : kdS} {A : kdA} {r : Int32} {σ1 : kdM} (hX : kdX E A cX12_cheapest 10 RX12 (some .int) 2) {σ : kdM} {l0 : Nat} {l1 : Int32} {l3 : Int32} {l4 : Int32} {l6 : Int32} {l7 : Int32} {l8 : Int32} {s0 : Int32} {s1 : Int32} {s2 : Int32} (h : X12_cheapest_113 G l0 l1 l3 l4 l6 l7 l8 s0 s1 s2 σ = some (r, σ1)) : SW E G (.inl (some (.int r), σ1)) A 10 σ 113 [(0, kr E l0), (1, .int l1), (3, .int l3), (4, .int l4), (6, .int l6), (7, .int l7), (8, .int l8)] [.int s2, .int s1, .int s0] := by
  unfold X12_cheapest_113 at h
  refine r_iadd hX dX12_cheapest_113 ?_
  refine r_cSi (As := [.int s0, .int (s1 + s2)]) (st := []) hX dX12_cheapest_114 kl_X12_lesser w_ml_X12_266 w_st_X12_lesser (by decide) rfl (Nat.le_of_ble_eq_true rfl) rfl kdz0 h (fun r σ1 h => wX12_lesser h) ?_
  clear h; intro t1 σ h
  refine r_istore (L2 := [(5, .int t1), (0, kr E l0), (1, .int l1), (3, .int l3), (4, .int l4), (6, .int l6), (7, .int l7), (8, .int l8)]) hX dX12_cheapest_117 (by decide) rfl ?_
  refine r_sub [1, 2, 3, 4, 0, 5, 6, 7] rfl ?_
  exact wX12_cheapest_119 hX h
def X12_cheapest_69 (G : kdS) (l0 : Nat) (l1 : Int32) (l3 : Int32) (l4 : Int32) (l5 : Int32) (l6 : Int32) (l7 : Int32) (s0 : Int32) : kdM → Option (Int32 × kdM) :=
  cnd (l3 ≤ 0)
    (X12_cheapest_119 G l0 l1 l3 l4 l5 l6 l7 s0)
    (gR G 12 31 l0 fun t1 =>
    aI G t1 ((((9 : Int32) * (l3 - (1 : Int32))) + l4)) fun t2 =>
    cnd (s0 = l6)
      (gR G 12 30 l0 fun t3 =>
      aI G t3 ((1 : Int32)) fun t4 =>
      X12_cheapest_113 G l0 l1 l3 l4 l6 l7 s0 l5 t2 t4)
      (gR G 12 30 l0 fun t5 =>
      aI G t5 ((4 : Int32)) fun t6 =>
      X12_cheapest_113 G l0 l1 l3 l4 l6 l7 s0 l5 t2 t6))
set_option maxRecDepth 100000 in
set_option maxHeartbeats 4000000 in
theorem wX12_cheapest_69 {E : kdE} {G : kdS} {A : kdA} {r : Int32} {σ1 : kdM} (hX : kdX E A cX12_cheapest 10 RX12 (some .int) 2) {σ : kdM} {l0 : Nat} {l1 : Int32} {l3 : Int32} {l4 : Int32} {l5 : Int32} {l6 : Int32} {l7 : Int32} {s0 : Int32} (h : X12_cheapest_69 G l0 l1 l3 l4 l5 l6 l7 s0 σ = some (r, σ1)) : SW E G (.inl (some (.int r), σ1)) A 10 σ 69 [(0, kr E l0), (1, .int l1), (3, .int l3), (4, .int l4), (5, .int l5), (6, .int l6), (7, .int l7)] [.int s0] := by
  unfold X12_cheapest_69 at h
  refine r_istore (L2 := [(8, .int s0), (0, kr E l0), (1, .int l1), (3, .int l3), (4, .int l4), (5, .int l5), (6, .int l6), (7, .int l7)]) hX dX12_cheapest_69 (by decide) rfl ?_
  refine r_iload_n hX dX12_cheapest_71 rfl 3 rfl ?_
  refine r_if_le (tgt := 119) hX dX12_cheapest_72 (by decide) h ?_ ?_
  · clear h; intro h
    refine r_sub [1, 2, 3, 4, 5, 6, 7, 0] rfl ?_
    exact wX12_cheapest_119 hX h
  · clear h; intro h
    refine r_iload hX dX12_cheapest_75 5 rfl ?_
    refine r_aload_n hX dX12_cheapest_77 rfl 1 rfl ?_
    refine r_gR hX dX12_cheapest_78 kf_X12_80 rfl h ?_
    clear h; intro t1 h
    refine r_bipush hX dX12_cheapest_81 kk_b_9 ?_
    refine r_iload_n hX dX12_cheapest_83 rfl 3 rfl ?_
    refine r_iconst hX dX12_cheapest_84 kk_i_1 ?_
    refine r_isub hX dX12_cheapest_85 ?_
    refine r_imul hX dX12_cheapest_86 ?_
    refine r_iload hX dX12_cheapest_87 4 rfl ?_
    refine r_iadd hX dX12_cheapest_89 ?_
    refine r_aI hX dX12_cheapest_90 h ?_
    clear h; intro t2 h
    refine r_iload hX dX12_cheapest_91 0 rfl ?_
    refine r_iload hX dX12_cheapest_93 6 rfl ?_
    refine r_icmp_ne (tgt := 107) hX dX12_cheapest_95 (by decide) h ?_ ?_
    · clear h; intro h
      refine r_aload_n hX dX12_cheapest_98 rfl 1 rfl ?_
      refine r_gR hX dX12_cheapest_99 kf_X12_77 rfl h ?_
      clear h; intro t3 h
      refine r_iconst hX dX12_cheapest_102 kk_i_1 ?_
      refine r_aI hX dX12_cheapest_103 h ?_
      clear h; intro t4 h
      refine r_goto (tgt := 113) hX dX12_cheapest_104 (by decide) ?_
      refine r_sub [1, 2, 3, 4, 6, 7, 0] rfl ?_
      exact wX12_cheapest_113 hX h
    · clear h; intro h
      refine r_aload_n hX dX12_cheapest_107 rfl 1 rfl ?_
      refine r_gR hX dX12_cheapest_108 kf_X12_77 rfl h ?_
      clear h; intro t5 h
      refine r_iconst hX dX12_cheapest_111 kk_i_4 ?_
      refine r_aI hX dX12_cheapest_112 h ?_
      clear h; intro t6 h
      refine r_sub [1, 2, 3, 4, 6, 7, 0] rfl ?_
      exact wX12_cheapest_113 hX h
def X12_cheapest_48 (G : kdS) (l0 : Nat) (l1 : Int32) (l2 : Int32) (l3 : Int32) (l4 : Int32) (l5 : Int32) (l6 : Int32) (s0 : Int32) : kdM → Option (Int32 × kdM) :=
  cnd (l3 ≤ (1 : Int32))
    (X12_cheapest_69 G l0 l1 l3 l4 l5 l6 s0 (-1 : Int32))
    (gR G 12 0 l0 fun t1 =>
    aI G t1 (((l2 + l3) - (2 : Int32))) fun t2 =>
    X12_cheapest_69 G l0 l1 l3 l4 l5 l6 s0 t2)
set_option maxRecDepth 100000 in
set_option maxHeartbeats 4000000 in
theorem wX12_cheapest_48 {E : kdE} {G : kdS} {A : kdA} {r : Int32} {σ1 : kdM} (hX : kdX E A cX12_cheapest 10 RX12 (some .int) 2) {σ : kdM} {l0 : Nat} {l1 : Int32} {l2 : Int32} {l3 : Int32} {l4 : Int32} {l5 : Int32} {l6 : Int32} {s0 : Int32} (h : X12_cheapest_48 G l0 l1 l2 l3 l4 l5 l6 s0 σ = some (r, σ1)) : SW E G (.inl (some (.int r), σ1)) A 10 σ 48 [(0, kr E l0), (1, .int l1), (2, .int l2), (3, .int l3), (4, .int l4), (5, .int l5), (6, .int l6)] [.int s0] := by
  unfold X12_cheapest_48 at h
  refine r_istore (L2 := [(7, .int s0), (0, kr E l0), (1, .int l1), (2, .int l2), (3, .int l3), (4, .int l4), (5, .int l5), (6, .int l6)]) hX dX12_cheapest_48 (by decide) rfl ?_
  refine r_iload_n hX dX12_cheapest_50 rfl 4 rfl ?_
  refine r_iconst hX dX12_cheapest_51 kk_i_1 ?_
  refine r_icmp_le (tgt := 68) hX dX12_cheapest_52 (by decide) h ?_ ?_
  · clear h; intro h
    refine r_iconst hX dX12_cheapest_68 kk_i_m1 ?_
    refine r_sub [1, 2, 4, 5, 6, 7, 0] rfl ?_
    exact wX12_cheapest_69 hX h
  · clear h; intro h
    refine r_aload_n hX dX12_cheapest_55 rfl 1 rfl ?_
    refine r_gR hX dX12_cheapest_56 kf_X12_7 rfl h ?_
    clear h; intro t1 h
    refine r_iload_n hX dX12_cheapest_59 rfl 3 rfl ?_
    refine r_iload_n hX dX12_cheapest_60 rfl 4 rfl ?_
    refine r_iadd hX dX12_cheapest_61 ?_
    refine r_iconst hX dX12_cheapest_62 kk_i_2 ?_
    refine r_isub hX dX12_cheapest_63 ?_
    refine r_aI hX dX12_cheapest_64 h ?_
    clear h; intro t2 h
    refine r_goto (tgt := 69) hX dX12_cheapest_65 (by decide) ?_
    refine r_sub [1, 2, 4, 5, 6, 7, 0] rfl ?_
    exact wX12_cheapest_69 hX h
def X12_cheapest_23 (G : kdS) (l0 : Nat) (l1 : Int32) (l2 : Int32) (l3 : Int32) (l4 : Int32) (l5 : Int32) (s0 : Int32) : kdM → Option (Int32 × kdM) :=
  cnd (l4 ≤ 0)
    (X12_cheapest_48 G l0 l1 l2 l3 l4 l5 s0 (-1 : Int32))
    (gR G 12 28 l0 fun t1 =>
    aI G t1 (((((8 : Int32) * l1) + l4) - (1 : Int32))) fun t2 =>
    X12_cheapest_48 G l0 l1 l2 l3 l4 l5 s0 t2)
set_option maxRecDepth 100000 in
set_option maxHeartbeats 4000000 in
theorem wX12_cheapest_23 {E : kdE} {G : kdS} {A : kdA} {r : Int32} {σ1 : kdM} (hX : kdX E A cX12_cheapest 10 RX12 (some .int) 2) {σ : kdM} {l0 : Nat} {l1 : Int32} {l2 : Int32} {l3 : Int32} {l4 : Int32} {l5 : Int32} {s0 : Int32} (h : X12_cheapest_23 G l0 l1 l2 l3 l4 l5 s0 σ = some (r, σ1)) : SW E G (.inl (some (.int r), σ1)) A 10 σ 23 [(0, kr E l0), (1, .int l1), (2, .int l2), (3, .int l3), (4, .int l4), (5, .int l5)] [.int s0] := by
  unfold X12_cheapest_23 at h
  refine r_istore (L2 := [(6, .int s0), (0, kr E l0), (1, .int l1), (2, .int l2), (3, .int l3), (4, .int l4), (5, .int l5)]) hX dX12_cheapest_23 (by decide) rfl ?_
  refine r_iload hX dX12_cheapest_25 5 rfl ?_
  refine r_if_le (tgt := 47) hX dX12_cheapest_27 (by decide) h ?_ ?_
  · clear h; intro h
    refine r_iconst hX dX12_cheapest_47 kk_i_m1 ?_
    refine r_sub [1, 2, 3, 4, 5, 6, 0] rfl ?_
    exact wX12_cheapest_48 hX h
  · clear h; intro h
    refine r_aload_n hX dX12_cheapest_30 rfl 1 rfl ?_
    refine r_gR hX dX12_cheapest_31 kf_X12_74 rfl h ?_
    clear h; intro t1 h
    refine r_bipush hX dX12_cheapest_34 kk_b_8 ?_
    refine r_iload_n hX dX12_cheapest_36 rfl 2 rfl ?_
    refine r_imul hX dX12_cheapest_37 ?_
    refine r_iload hX dX12_cheapest_38 5 rfl ?_
    refine r_iadd hX dX12_cheapest_40 ?_
    refine r_iconst hX dX12_cheapest_41 kk_i_1 ?_
    refine r_isub hX dX12_cheapest_42 ?_
    refine r_aI hX dX12_cheapest_43 h ?_
    clear h; intro t2 h
    refine r_goto (tgt := 48) hX dX12_cheapest_44 (by decide) ?_
    refine r_sub [1, 2, 3, 4, 5, 6, 0] rfl ?_
    exact wX12_cheapest_48 hX h
def X12_cheapest (G : kdS) (l0 : Nat) (l1 : Int32) (l2 : Int32) (l3 : Int32) (l4 : Int32) : kdM → Option (Int32 × kdM) :=
  cnd (l3 ≤ 0)
    (X12_cheapest_23 G l0 l1 l2 l3 l4 (1000000000 : Int32) (-1 : Int32))
    (gR G 12 0 l0 fun t1 =>
    aI G t1 (((l2 + l3) - (1 : Int32))) fun t2 =>
    X12_cheapest_23 G l0 l1 l2 l3 l4 (1000000000 : Int32) t2)
set_option maxRecDepth 100000 in
set_option maxHeartbeats 4000000 in
theorem wX12_cheapest {E : kdE} {G : kdS} {l0 : Nat} {l1 : Int32} {l2 : Int32} {l3 : Int32} {l4 : Int32} {σ : kdM} {r : Int32} {σ1 : kdM} (h : X12_cheapest G l0 l1 l2 l3 l4 σ = some (r, σ1)) : Con E G yX12_cheapest cX12_cheapest 10 (some .int) 2 [kr E l0, .int l1, .int l2, .int l3, .int l4] σ (some (.int r), σ1) := by
  refine kd_head (own := RX12) rfl (by decide +kernel) (Nat.le_of_ble_eq_true rfl) (fun A hX => ?_)
  show SW E G (.inl (some (.int r), σ1)) A 10 σ 0 [(0, kr E l0), (1, .int l1), (2, .int l2), (3, .int l3), (4, .int l4)] []
  unfold X12_cheapest at h
  refine r_ldc_w hX dX12_cheapest_0 w_ct_X12_265 ?_
  refine r_istore (L2 := [(5, .int (1000000000 : Int32)), (0, kr E l0), (1, .int l1), (2, .int l2), (3, .int l3), (4, .int l4)]) hX dX12_cheapest_3 (by decide) rfl ?_
  refine r_iload_n hX dX12_cheapest_5 rfl 4 rfl ?_
  refine r_if_le (tgt := 22) hX dX12_cheapest_6 (by decide) h ?_ ?_
  · clear h; intro h
    refine r_iconst hX dX12_cheapest_22 kk_i_m1 ?_
    refine r_sub [1, 2, 3, 4, 5, 0] rfl ?_
    exact wX12_cheapest_23 hX h
  · clear h; intro h
    refine r_aload_n hX dX12_cheapest_9 rfl 1 rfl ?_
    refine r_gR hX dX12_cheapest_10 kf_X12_7 rfl h ?_
    clear h; intro t1 h
    refine r_iload_n hX dX12_cheapest_13 rfl 3 rfl ?_
    refine r_iload_n hX dX12_cheapest_14 rfl 4 rfl ?_
    refine r_iadd hX dX12_cheapest_15 ?_
    refine r_iconst hX dX12_cheapest_16 kk_i_1 ?_
    refine r_isub hX dX12_cheapest_17 ?_
    refine r_aI hX dX12_cheapest_18 h ?_
    clear h; intro t2 h
    refine r_goto (tgt := 23) hX dX12_cheapest_19 (by decide) ?_
    refine r_sub [1, 2, 3, 4, 5, 0] rfl ?_
    exact wX12_cheapest_23 hX h
