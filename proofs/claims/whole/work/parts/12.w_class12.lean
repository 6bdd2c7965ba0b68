def X0_canStand_42 (G : kdS) (s0 : Int32) : kdM → Option (Int32 × kdM) :=
  rt (vp_nar .boolean s0)
set_option maxRecDepth 100000 in
set_option maxHeartbeats 4000000 in
theorem wX0_canStand_42 {E : kdE} {G : kdS} {A : kdA} {r : Int32} {σ1 : kdM} (hX : kdX E A cX0_canStand 4 RX0 (some .boolean) 3) {σ : kdM} {s0 : Int32} (h : X0_canStand_42 G s0 σ = some (r, σ1)) : SW E G (.inl (some (.int r), σ1)) A 4 σ 42 [] [.int s0] := by
  unfold X0_canStand_42 at h
  exact r_zret hX dX0_canStand_42 h
def X0_canStand_37 (G : kdS) : kdM → Option (Int32 × kdM) :=
  X0_canStand_42 G (1 : Int32)
set_option maxRecDepth 100000 in
set_option maxHeartbeats 4000000 in
theorem wX0_canStand_37 {E : kdE} {G : kdS} {A : kdA} {r : Int32} {σ1 : kdM} (hX : kdX E A cX0_canStand 4 RX0 (some .boolean) 3) {σ : kdM} (h : X0_canStand_37 G  σ = some (r, σ1)) : SW E G (.inl (some (.int r), σ1)) A 4 σ 37 [] [] := by
  unfold X0_canStand_37 at h
  refine r_iconst hX dX0_canStand_37 kk_i_1 ?_
  refine r_goto (tgt := 42) hX dX0_canStand_38 (by decide) ?_
  refine r_sub [] rfl ?_
  exact wX0_canStand_42 hX h
def X0_canStand_41 (G : kdS) : kdM → Option (Int32 × kdM) :=
  X0_canStand_42 G (0 : Int32)
set_option maxRecDepth 100000 in
set_option maxHeartbeats 4000000 in
theorem wX0_canStand_41 {E : kdE} {G : kdS} {A : kdA} {r : Int32} {σ1 : kdM} (hX : kdX E A cX0_canStand 4 RX0 (some .boolean) 3) {σ : kdM} (h : X0_canStand_41 G  σ = some (r, σ1)) : SW E G (.inl (some (.int r), σ1)) A 4 σ 41 [] [] := by
  unfold X0_canStand_41 at h
  refine r_iconst hX dX0_canStand_41 kk_i_0 ?_
  refine r_sub [] rfl ?_
  exact wX0_canStand_42 hX h
def X0_canStand (G : kdS) (l0 : Nat) (l1 : Int32) (l2 : Int32) : kdM → Option (Int32 × kdM) :=
  gR G 0 3 l0 fun t1 =>
  kcv G 6 t1 (X6_at G t1 l1) fun t2 =>
  cnd (l2 = t2)
    (X0_canStand_37 G )
    (gR G 0 4 l0 fun t3 =>
    kcv G 6 t3 (X6_at G t3 l1) fun t4 =>
    cnd (t4 = 0)
      (gR G 0 0 l0 fun t5 =>
      kcv G 10 t5 (X10_soundAlike G t5 t2 l2) fun t6 =>
      cnd (t6 = 0)
        (X0_canStand_41 G )
        (X0_canStand_37 G ))
      (X0_canStand_41 G ))
set_option maxRecDepth 100000 in
set_option maxHeartbeats 4000000 in
theorem wX0_canStand {E : kdE} {G : kdS} {l0 : Nat} {l1 : Int32} {l2 : Int32} {σ : kdM} {r : Int32} {σ1 : kdM} (h : X0_canStand G l0 l1 l2 σ = some (r, σ1)) : Con E G yX0_canStand cX0_canStand 4 (some .boolean) 3 [kr E l0, .int l1, .int l2] σ (some (.int r), σ1) := by
  refine kd_head (own := RX0) rfl (by decide +kernel) (Nat.le_of_ble_eq_true rfl) (fun A hX => ?_)
  show SW E G (.inl (some (.int r), σ1)) A 4 σ 0 [(0, kr E l0), (1, .int l1), (2, .int l2)] []
  unfold X0_canStand at h
  refine r_aload_n hX dX0_canStand_0 rfl 0 rfl ?_
  refine r_gR hX dX0_canStand_1 kf_X0_21 rfl h ?_
  clear h; intro t1 h
  refine r_iload_n hX dX0_canStand_4 rfl 1 rfl ?_
  refine r_cVi (As := [.int l1]) (st := []) hX dX0_canStand_5 kl_X6_at w_ml_X0_82 w_im_X6_at w_se_X6_at ⟨_, _, rfl⟩ (by decide) rfl (Nat.le_of_ble_eq_true rfl) rfl kdz0 h (fun r σ1 h => wX6_at h) ?_
  clear h; intro t2 σ h
  refine r_istore_n (L2 := [(3, .int t2), (0, kr E l0), (1, .int l1), (2, .int l2)]) hX dX0_canStand_8 rfl (by decide) rfl ?_
  refine r_iload_n hX dX0_canStand_9 rfl 3 rfl ?_
  refine r_iload_n hX dX0_canStand_10 rfl 0 rfl ?_
  refine r_icmp_eq (tgt := 37) hX dX0_canStand_11 (by decide) h ?_ ?_
  · clear h; intro h
    refine r_sub [] rfl ?_
    exact wX0_canStand_37 hX h
  · clear h; intro h
    refine r_aload_n hX dX0_canStand_14 rfl 1 rfl ?_
    refine r_gR hX dX0_canStand_15 kf_X0_25 rfl h ?_
    clear h; intro t3 h
    refine r_iload_n hX dX0_canStand_18 rfl 2 rfl ?_
    refine r_cVi (As := [.int l1]) (st := []) hX dX0_canStand_19 kl_X6_at w_ml_X0_82 w_im_X6_at w_se_X6_at ⟨_, _, rfl⟩ (by decide) rfl (Nat.le_of_ble_eq_true rfl) rfl kdz0 h (fun r σ1 h => wX6_at h) ?_
    clear h; intro t4 σ h
    refine r_if_ne (tgt := 41) hX dX0_canStand_22 (by decide) h ?_ ?_
    · clear h; intro h
      refine r_aload_n hX dX0_canStand_25 rfl 1 rfl ?_
      refine r_gR hX dX0_canStand_26 kf_X0_39 rfl h ?_
      clear h; intro t5 h
      refine r_iload_n hX dX0_canStand_29 rfl 0 rfl ?_
      refine r_iload_n hX dX0_canStand_30 rfl 3 rfl ?_
      refine r_cVi (As := [.int t2, .int l2]) (st := []) hX dX0_canStand_31 kl_X10_soundAlike w_ml_X0_85 w_im_X10_soundAlike w_se_X10_soundAlike ⟨_, _, rfl⟩ (by decide) rfl (Nat.le_of_ble_eq_true rfl) rfl kdz0 h (fun r σ1 h => wX10_soundAlike h) ?_
      clear h; intro t6 σ h
      refine r_if_eq (tgt := 41) hX dX0_canStand_34 (by decide) h ?_ ?_
      · clear h; intro h
        refine r_sub [] rfl ?_
        exact wX0_canStand_41 hX h
      · clear h; intro h
        refine r_sub [] rfl ?_
        exact wX0_canStand_37 hX h
    · clear h; intro h
      refine r_sub [] rfl ?_
      exact wX0_canStand_41 hX h
def X0_greatestBehind_87 (G : kdS) (k29 : Nat → Int32 → Int32 → Int64 → Int32 → kdM → Option (Int64 × kdM)) (l0 : Nat) (l1 : Int32) (l2 : Int32) (l3 : Int64) (l5 : Int32) : kdM → Option (Int64 × kdM) :=
  ltI (l5 + Int32.ofInt 1) fun t1 =>
  k29 l0 l1 l2 l3 t1
set_option maxRecDepth 100000 in
set_option maxHeartbeats 4000000 in
theorem wX0_greatestBehind_87 {E : kdE} {G : kdS} {A : kdA} {r : Int64} {σ1 : kdM} (hX : kdX E A cX0_greatestBehind 8 RX0 (some .long) 2) (k29 : Nat → Int32 → Int32 → Int64 → Int32 → kdM → Option (Int64 × kdM)) (hk29 : ∀ (l0 : Nat) (l1 : Int32) (l2 : Int32) (l3 : Int64) (l5 : Int32) (σ : kdM), k29 l0 l1 l2 l3 l5 σ = some (r, σ1) → SW E G (.inl (some (.long r), σ1)) A 8 σ 29 [(0, kr E l0), (1, .int l1), (2, .int l2), (3, .long l3), (5, .int l5)] []) {σ : kdM} {l0 : Nat} {l1 : Int32} {l2 : Int32} {l3 : Int64} {l5 : Int32} (h : X0_greatestBehind_87 G k29 l0 l1 l2 l3 l5 σ = some (r, σ1)) : SW E G (.inl (some (.long r), σ1)) A 8 σ 87 [(0, kr E l0), (1, .int l1), (2, .int l2), (3, .long l3), (5, .int l5)] [] := by
  unfold X0_greatestBehind_87 at h
  refine r_iincL (L2 := fun t1 => [(5, .int t1), (0, kr E l0), (1, .int l1), (2, .int l2), (3, .long l3)]) hX dX0_greatestBehind_87 h 4 rfl (by decide) (fun _ => rfl) ?_
  clear h; intro t1 h
  refine r_goto (tgt := 29) hX dX0_greatestBehind_90 (by decide) ?_
  refine r_sub [1, 2, 3, 4, 0] rfl ?_
  exact hk29 _ _ _ _ _ _ h
def X0_greatestBehind_29B (G : kdS) (k29 : Nat → Int32 → Int32 → Int64 → Int32 → kdM → Option (Int64 × kdM)) (l0 : Nat) (l1 : Int32) (l2 : Int32) (l3 : Int64) (l5 : Int32) : kdM → Option (Int64 × kdM) :=
  gR G 0 0 l0 fun t1 =>
  kcv G 10 t1 (X10_size G t1) fun t2 =>
  cnd (t2 ≤ l5)
    (rt l3)
    (gR G 0 1 l0 fun t3 =>
    aR G 18 t3 (l2) fun t4 =>
    aI G t4 (l5) fun t5 =>
    gR G 0 6 l0 fun t6 =>
    aR G 19 t6 ((l1 + (1 : Int32))) fun t7 =>
    aL G t7 (l5) fun t8 =>
    ltL (((Int32.toInt64 (t5 + (1 : Int32))) * t8)) fun t9 =>
    cnd ((lg_cmp t9 l3) ≤ 0)
      (X0_greatestBehind_87 G k29 l0 l1 l2 l3 l5)
      (gR G 0 7 l0 fun t10 =>
      aR G 18 t10 (l1) fun t11 =>
      tI G t11 (l2) (l5) <|
      X0_greatestBehind_87 G k29 l0 l1 l2 t9 l5))
set_option maxRecDepth 100000 in
set_option maxHeartbeats 4000000 in
theorem wX0_greatestBehind_29B {E : kdE} {G : kdS} {A : kdA} {r : Int64} {σ1 : kdM} (hX : kdX E A cX0_greatestBehind 8 RX0 (some .long) 2) (k29 : Nat → Int32 → Int32 → Int64 → Int32 → kdM → Option (Int64 × kdM)) (hk29 : ∀ (l0 : Nat) (l1 : Int32) (l2 : Int32) (l3 : Int64) (l5 : Int32) (σ : kdM), k29 l0 l1 l2 l3 l5 σ = some (r, σ1) → SW E G (.inl (some (.long r), σ1)) A 8 σ 29 [(0, kr E l0), (1, .int l1), (2, .int l2), (3, .long l3), (5, .int l5)] []) {σ : kdM} {l0 : Nat} {l1 : Int32} {l2 : Int32} {l3 : Int64} {l5 : Int32} (h : X0_greatestBehind_29B G k29 l0 l1 l2 l3 l5 σ = some (r, σ1)) : SW E G (.inl (some (.long r), σ1)) A 8 σ 29 [(0, kr E l0), (1, .int l1), (2, .int l2), (3, .long l3), (5, .int l5)] [] := by
  unfold X0_greatestBehind_29B at h
  refine r_iload hX dX0_greatestBehind_29 4 rfl ?_
  refine r_aload_n hX dX0_greatestBehind_31 rfl 0 rfl ?_
  refine r_gR hX dX0_greatestBehind_32 kf_X0_39 rfl h ?_
  clear h; intro t1 h
  refine r_cVi (As := []) (st := [.int l5]) hX dX0_greatestBehind_35 kl_X10_size w_ml_X0_67 w_im_X10_size w_se_X10_size ⟨_, _, rfl⟩ (by decide) rfl (Nat.le_of_ble_eq_true rfl) rfl kdz0 h (fun r σ1 h => wX10_size h) ?_
  clear h; intro t2 σ h
  refine r_icmp_ge (tgt := 93) hX dX0_greatestBehind_38 (by decide) h ?_ ?_
  · clear h; intro h
    refine r_lload_n hX dX0_greatestBehind_93 rfl 3 rfl ?_
    exact r_lret hX dX0_greatestBehind_94 h
  · clear h; intro h
    refine r_aload_n hX dX0_greatestBehind_41 rfl 0 rfl ?_
    refine r_gR hX dX0_greatestBehind_42 kf_X0_11 rfl h ?_
    clear h; intro t3 h
    refine r_iload_n hX dX0_greatestBehind_45 rfl 2 rfl ?_
    refine r_aR18 hX dX0_greatestBehind_46 h ?_
    clear h; intro t4 h
    refine r_iload hX dX0_greatestBehind_47 4 rfl ?_
    refine r_aI hX dX0_greatestBehind_49 h ?_
    clear h; intro t5 h
    refine r_iconst hX dX0_greatestBehind_50 kk_i_1 ?_
    refine r_iadd hX dX0_greatestBehind_51 ?_
    refine r_i2l hX dX0_greatestBehind_52 ?_
    refine r_aload_n hX dX0_greatestBehind_53 rfl 0 rfl ?_
    refine r_gR hX dX0_greatestBehind_54 kf_X0_33 rfl h ?_
    clear h; intro t6 h
    refine r_iload_n hX dX0_greatestBehind_57 rfl 1 rfl ?_
    refine r_iconst hX dX0_greatestBehind_58 kk_i_1 ?_
    refine r_iadd hX dX0_greatestBehind_59 ?_
    refine r_aR19 hX dX0_greatestBehind_60 h ?_
    clear h; intro t7 h
    refine r_iload hX dX0_greatestBehind_61 4 rfl ?_
    refine r_aL hX dX0_greatestBehind_63 h ?_
    clear h; intro t8 h
    refine r_lmul hX dX0_greatestBehind_64 ?_
    refine r_letL h ?_
    clear h; intro t9 h
    refine r_lstore (L2 := [(6, .long t9), (0, kr E l0), (1, .int l1), (2, .int l2), (3, .long l3), (5, .int l5)]) hX dX0_greatestBehind_65 (by decide) rfl ?_
    refine r_lload hX dX0_greatestBehind_67 0 rfl ?_
    refine r_lload_n hX dX0_greatestBehind_69 rfl 4 rfl ?_
    refine r_lcmp hX dX0_greatestBehind_70 ?_
    refine r_if_le (tgt := 87) hX dX0_greatestBehind_71 (by decide) h ?_ ?_
    · clear h; intro h
      refine r_sub [1, 2, 3, 4, 5] rfl ?_
      exact wX0_greatestBehind_87 hX k29 hk29 h
    · clear h; intro h
      refine r_lload hX dX0_greatestBehind_74 0 rfl ?_
      refine r_lstore_n (L2 := [(3, .long t9), (6, .long t9), (0, kr E l0), (1, .int l1), (2, .int l2), (5, .int l5)]) hX dX0_greatestBehind_76 rfl (by decide) rfl ?_
      refine r_aload_n hX dX0_greatestBehind_77 rfl 2 rfl ?_
      refine r_gR hX dX0_greatestBehind_78 kf_X0_36 rfl h ?_
      clear h; intro t10 h
      refine r_iload_n hX dX0_greatestBehind_81 rfl 3 rfl ?_
      refine r_aR18 hX dX0_greatestBehind_82 h ?_
      clear h; intro t11 h
      refine r_iload_n hX dX0_greatestBehind_83 rfl 4 rfl ?_
      refine r_iload hX dX0_greatestBehind_84 5 rfl ?_
      refine r_tI hX dX0_greatestBehind_86 h ?_
      clear h; intro σ h
      refine r_sub [2, 3, 4, 0, 5] rfl ?_
      exact wX0_greatestBehind_87 hX k29 hk29 h
def X0_greatestBehind_29 (G : kdS) : Nat → Int32 → Int32 → Int64 → Int32 → kdM → Option (Int64 × kdM) := lp (fun _ _ _ _ _ _ => none) (X0_greatestBehind_29B G) NN
theorem wX0_greatestBehind_29 {E : kdE} {G : kdS} {A : kdA} {r : Int64} {σ1 : kdM} (hX : kdX E A cX0_greatestBehind 8 RX0 (some .long) 2) : ∀ (l0 : Nat) (l1 : Int32) (l2 : Int32) (l3 : Int64) (l5 : Int32) (σ : kdM), X0_greatestBehind_29 G l0 l1 l2 l3 l5 σ = some (r, σ1) → SW E G (.inl (some (.long r), σ1)) A 8 σ 29 [(0, kr E l0), (1, .int l1), (2, .int l2), (3, .long l3), (5, .int l5)] [] :=
  lp_ind (Q := fun f => ∀ (l0 : Nat) (l1 : Int32) (l2 : Int32) (l3 : Int64) (l5 : Int32) (σ : kdM), f l0 l1 l2 l3 l5 σ = some (r, σ1) → SW E G (.inl (some (.long r), σ1)) A 8 σ 29 [(0, kr E l0), (1, .int l1), (2, .int l2), (3, .long l3), (5, .int l5)] []) (by intros; contradiction) (fun k hk l0 l1 l2 l3 l5 σ h => wX0_greatestBehind_29B hX k hk h) NN
def X0_greatestBehind (G : kdS) (l0 : Nat) (l1 : Int32) (l2 : Int32) : kdM → Option (Int64 × kdM) :=
  gR G 0 7 l0 fun t1 =>
  aR G 18 t1 (l1) fun t2 =>
  tI G t2 (l2) ((0 : Int32)) <|
  gR G 0 3 l0 fun t3 =>
  kcv G 6 t3 (X6_size G t3) fun t4 =>
  cnd (l1 = (t4 - (1 : Int32)))
    (rt (1 : Int64))
    (X0_greatestBehind_29 G l0 l1 l2 (0 : Int64) (0 : Int32))
set_option maxRecDepth 100000 in
set_option maxHeartbeats 4000000 in
theorem wX0_greatestBehind {E : kdE} {G : kdS} {l0 : Nat} {l1 : Int32} {l2 : Int32} {σ : kdM} {r : Int64} {σ1 : kdM} (h : X0_greatestBehind G l0 l1 l2 σ = some (r, σ1)) : Con E G yX0_greatestBehind cX0_greatestBehind 8 (some .long) 2 [kr E l0, .int l1, .int l2] σ (some (.long r), σ1) := by
  refine kd_head (own := RX0) rfl (by decide +kernel) (Nat.le_of_ble_eq_true rfl) (fun A hX => ?_)
  show SW E G (.inl (some (.long r), σ1)) A 8 σ 0 [(0, kr E l0), (1, .int l1), (2, .int l2)] []
  unfold X0_greatestBehind at h
  refine r_aload_n hX dX0_greatestBehind_0 rfl 0 rfl ?_
  refine r_gR hX dX0_greatestBehind_1 kf_X0_36 rfl h ?_
  clear h; intro t1 h
  refine r_iload_n hX dX0_greatestBehind_4 rfl 1 rfl ?_
  refine r_aR18 hX dX0_greatestBehind_5 h ?_
  clear h; intro t2 h
  refine r_iload_n hX dX0_greatestBehind_6 rfl 2 rfl ?_
  refine r_iconst hX dX0_greatestBehind_7 kk_i_0 ?_
  refine r_tI hX dX0_greatestBehind_8 h ?_
  clear h; intro σ h
  refine r_iload_n hX dX0_greatestBehind_9 rfl 1 rfl ?_
  refine r_aload_n hX dX0_greatestBehind_10 rfl 0 rfl ?_
  refine r_gR hX dX0_greatestBehind_11 kf_X0_21 rfl h ?_
  clear h; intro t3 h
  refine r_cVi (As := []) (st := [.int l1]) hX dX0_greatestBehind_14 kl_X6_size w_ml_X0_47 w_im_X6_size w_se_X6_size ⟨_, _, rfl⟩ (by decide) rfl (Nat.le_of_ble_eq_true rfl) rfl kdz0 h (fun r σ1 h => wX6_size h) ?_
  clear h; intro t4 σ h
  refine r_iconst hX dX0_greatestBehind_17 kk_i_1 ?_
  refine r_isub hX dX0_greatestBehind_18 ?_
  refine r_icmp_ne (tgt := 24) hX dX0_greatestBehind_19 (by decide) h ?_ ?_
  · clear h; intro h
    refine r_lconst hX dX0_greatestBehind_22 kk_l_1 ?_
    exact r_lret hX dX0_greatestBehind_23 h
  · clear h; intro h
    refine r_lconst hX dX0_greatestBehind_24 kk_l_0 ?_
    refine r_lstore_n (L2 := [(3, .long (0 : Int64)), (0, kr E l0), (1, .int l1), (2, .int l2)]) hX dX0_greatestBehind_25 rfl (by decide) rfl ?_
    refine r_iconst hX dX0_greatestBehind_26 kk_i_0 ?_
    refine r_istore (L2 := [(5, .int (0 : Int32)), (3, .long (0 : Int64)), (0, kr E l0), (1, .int l1), (2, .int l2)]) hX dX0_greatestBehind_27 (by decide) rfl ?_
    refine r_sub [2, 3, 4, 1, 0] rfl ?_
    exact wX0_greatestBehind_29 hX _ _ _ _ _ _ h
def X0_weighPlace_49 (G : kdS) (k2 : Nat → Int32 → Int32 → kdM → Option (Unit × kdM)) (l0 : Nat) (l1 : Int32) (l2 : Int32) (s0 : Nat) (s1 : Int32) (s2 : Int64) : kdM → Option (Unit × kdM) :=
  tL G s0 (s1) (s2) <|
  ltI (l2 + Int32.ofInt 1) fun t1 =>
  k2 l0 l1 t1
set_option maxRecDepth 100000 in
set_option maxHeartbeats 4000000 in
theorem wX0_weighPlace_49 {E : kdE} {G : kdS} {A : kdA} {r : Unit} {σ1 : kdM} (hX : kdX E A cX0_weighPlace 3 RX0 none 4) (k2 : Nat → Int32 → Int32 → kdM → Option (Unit × kdM)) (hk2 : ∀ (l0 : Nat) (l1 : Int32) (l2 : Int32) (σ : kdM), k2 l0 l1 l2 σ = some (r, σ1) → SW E G (.inl (none, σ1)) A 3 σ 2 [(0, kr E l0), (1, .int l1), (2, .int l2)] []) {σ : kdM} {l0 : Nat} {l1 : Int32} {l2 : Int32} {s0 : Nat} {s1 : Int32} {s2 : Int64} (h : X0_weighPlace_49 G k2 l0 l1 l2 s0 s1 s2 σ = some (r, σ1)) : SW E G (.inl (none, σ1)) A 3 σ 49 [(0, kr E l0), (1, .int l1), (2, .int l2)] [.long s2, .int s1, kr E s0] := by
  unfold X0_weighPlace_49 at h
  refine r_tL hX dX0_weighPlace_49 h ?_
  clear h; intro σ h
  refine r_iincL (L2 := fun t1 => [(2, .int t1), (0, kr E l0), (1, .int l1)]) hX dX0_weighPlace_50 h 2 rfl (by decide) (fun _ => rfl) ?_
  clear h; intro t1 h
  refine r_goto (tgt := 2) hX dX0_weighPlace_53 (by decide) ?_
  refine r_sub [1, 2, 0] rfl ?_
  exact hk2 _ _ _ _ h
def X0_weighPlace_2B (G : kdS) (k2 : Nat → Int32 → Int32 → kdM → Option (Unit × kdM)) (l0 : Nat) (l1 : Int32) (l2 : Int32) : kdM → Option (Unit × kdM) :=
  gR G 0 0 l0 fun t1 =>
  kcv G 10 t1 (X10_size G t1) fun t2 =>
  cnd (t2 ≤ l2)
    (rt ())
    (gR G 0 6 l0 fun t3 =>
    aR G 19 t3 (l1) fun t4 =>
    kcv G 0 l0 (X0_canStand G l0 l1 l2) fun t5 =>
    cnd (t5 = 0)
      (X0_weighPlace_49 G k2 l0 l1 l2 t4 l2 (0 : Int64))
      (gR G 0 0 l0 fun t6 =>
      kcv G 10 t6 (X10_countOf G t6 l2) fun t7 =>
      kcv G 0 l0 (X0_greatestBehind G l0 l1 l2) fun t8 =>
      X0_weighPlace_49 G k2 l0 l1 l2 t4 l2 ((Int32.toInt64 t7) * t8)))
set_option maxRecDepth 100000 in
set_option maxHeartbeats 4000000 in
theorem wX0_weighPlace_2B {E : kdE} {G : kdS} {A : kdA} {r : Unit} {σ1 : kdM} (hX : kdX E A cX0_weighPlace 3 RX0 none 4) (k2 : Nat → Int32 → Int32 → kdM → Option (Unit × kdM)) (hk2 : ∀ (l0 : Nat) (l1 : Int32) (l2 : Int32) (σ : kdM), k2 l0 l1 l2 σ = some (r, σ1) → SW E G (.inl (none, σ1)) A 3 σ 2 [(0, kr E l0), (1, .int l1), (2, .int l2)] []) {σ : kdM} {l0 : Nat} {l1 : Int32} {l2 : Int32} (h : X0_weighPlace_2B G k2 l0 l1 l2 σ = some (r, σ1)) : SW E G (.inl (none, σ1)) A 3 σ 2 [(0, kr E l0), (1, .int l1), (2, .int l2)] [] := by
  unfold X0_weighPlace_2B at h
  refine r_iload_n hX dX0_weighPlace_2 rfl 2 rfl ?_
  refine r_aload_n hX dX0_weighPlace_3 rfl 0 rfl ?_
  refine r_gR hX dX0_weighPlace_4 kf_X0_39 rfl h ?_
  clear h; intro t1 h
  refine r_cVi (As := []) (st := [.int l2]) hX dX0_weighPlace_7 kl_X10_size w_ml_X0_67 w_im_X10_size w_se_X10_size ⟨_, _, rfl⟩ (by decide) rfl (Nat.le_of_ble_eq_true rfl) rfl kdz0 h (fun r σ1 h => wX10_size h) ?_
  clear h; intro t2 σ h
  refine r_icmp_ge (tgt := 56) hX dX0_weighPlace_10 (by decide) h ?_ ?_
  · clear h; intro h
    exact r_vret hX dX0_weighPlace_56 h
  · clear h; intro h
    refine r_aload_n hX dX0_weighPlace_13 rfl 0 rfl ?_
    refine r_gR hX dX0_weighPlace_14 kf_X0_33 rfl h ?_
    clear h; intro t3 h
    refine r_iload_n hX dX0_weighPlace_17 rfl 1 rfl ?_
    refine r_aR19 hX dX0_weighPlace_18 h ?_
    clear h; intro t4 h
    refine r_iload_n hX dX0_weighPlace_19 rfl 2 rfl ?_
    refine r_aload_n hX dX0_weighPlace_20 rfl 0 rfl ?_
    refine r_iload_n hX dX0_weighPlace_21 rfl 1 rfl ?_
    refine r_iload_n hX dX0_weighPlace_22 rfl 2 rfl ?_
    refine r_cVi (As := [.int l1, .int l2]) (st := [.int l2, kr E t4]) hX dX0_weighPlace_23 kl_X0_canStand w_ml_X0_70 w_im_X0_canStand w_se_X0_canStand ⟨_, _, rfl⟩ (by decide) rfl (Nat.le_of_ble_eq_true rfl) rfl kdz0 h (fun r σ1 h => wX0_canStand h) ?_
    clear h; intro t5 σ h
    refine r_if_eq (tgt := 48) hX dX0_weighPlace_26 (by decide) h ?_ ?_
    · clear h; intro h
      refine r_lconst hX dX0_weighPlace_48 kk_l_0 ?_
      refine r_sub [0, 1, 2] rfl ?_
      exact wX0_weighPlace_49 hX k2 hk2 h
    · clear h; intro h
      refine r_aload_n hX dX0_weighPlace_29 rfl 0 rfl ?_
      refine r_gR hX dX0_weighPlace_30 kf_X0_39 rfl h ?_
      clear h; intro t6 h
      refine r_iload_n hX dX0_weighPlace_33 rfl 2 rfl ?_
      refine r_cVi (As := [.int l2]) (st := [.int l2, kr E t4]) hX dX0_weighPlace_34 kl_X10_countOf w_ml_X0_74 w_im_X10_countOf w_se_X10_countOf ⟨_, _, rfl⟩ (by decide) rfl (Nat.le_of_ble_eq_true rfl) rfl kdz0 h (fun r σ1 h => wX10_countOf h) ?_
      clear h; intro t7 σ h
      refine r_i2l hX dX0_weighPlace_37 ?_
      refine r_aload_n hX dX0_weighPlace_38 rfl 0 rfl ?_
      refine r_iload_n hX dX0_weighPlace_39 rfl 1 rfl ?_
      refine r_iload_n hX dX0_weighPlace_40 rfl 2 rfl ?_
      refine r_cVl (As := [.int l1, .int l2]) (st := [.long (Int32.toInt64 t7), .int l2, kr E t4]) hX dX0_weighPlace_41 kl_X0_greatestBehind w_ml_X0_78 w_im_X0_greatestBehind w_se_X0_greatestBehind ⟨_, _, rfl⟩ (by decide) rfl (Nat.le_of_ble_eq_true rfl) rfl kdz0 h (fun r σ1 h => wX0_greatestBehind h) ?_
      clear h; intro t8 σ h
      refine r_lmul hX dX0_weighPlace_44 ?_
      refine r_goto (tgt := 49) hX dX0_weighPlace_45 (by decide) ?_
      refine r_sub [0, 1, 2] rfl ?_
      exact wX0_weighPlace_49 hX k2 hk2 h
def X0_weighPlace_2 (G : kdS) : Nat → Int32 → Int32 → kdM → Option (Unit × kdM) := lp (fun _ _ _ _ => none) (X0_weighPlace_2B G) NN
theorem wX0_weighPlace_2 {E : kdE} {G : kdS} {A : kdA} {r : Unit} {σ1 : kdM} (hX : kdX E A cX0_weighPlace 3 RX0 none 4) : ∀ (l0 : Nat) (l1 : Int32) (l2 : Int32) (σ : kdM), X0_weighPlace_2 G l0 l1 l2 σ = some (r, σ1) → SW E G (.inl (none, σ1)) A 3 σ 2 [(0, kr E l0), (1, .int l1), (2, .int l2)] [] :=
  lp_ind (Q := fun f => ∀ (l0 : Nat) (l1 : Int32) (l2 : Int32) (σ : kdM), f l0 l1 l2 σ = some (r, σ1) → SW E G (.inl (none, σ1)) A 3 σ 2 [(0, kr E l0), (1, .int l1), (2, .int l2)] []) (by intros; contradiction) (fun k hk l0 l1 l2 σ h => wX0_weighPlace_2B hX k hk h) NN
def X0_weighPlace (G : kdS) (l0 : Nat) (l1 : Int32) : kdM → Option (Unit × kdM) :=
  X0_weighPlace_2 G l0 l1 (0 : Int32)
set_option maxRecDepth 100000 in
set_option maxHeartbeats 4000000 in
theorem wX0_weighPlace {E : kdE} {G : kdS} {l0 : Nat} {l1 : Int32} {σ : kdM} {r : Unit} {σ1 : kdM} (h : X0_weighPlace G l0 l1 σ = some (r, σ1)) : Con E G yX0_weighPlace cX0_weighPlace 3 none 4 [kr E l0, .int l1] σ (none, σ1) := by
  refine kd_head (own := RX0) rfl (by decide +kernel) (Nat.le_of_ble_eq_true rfl) (fun A hX => ?_)
  show SW E G (.inl (none, σ1)) A 3 σ 0 [(0, kr E l0), (1, .int l1)] []
  unfold X0_weighPlace at h
  refine r_iconst hX dX0_weighPlace_0 kk_i_0 ?_
  refine r_istore_n (L2 := [(2, .int (0 : Int32)), (0, kr E l0), (1, .int l1)]) hX dX0_weighPlace_1 rfl (by decide) rfl ?_
  refine r_sub [1, 2, 0] rfl ?_
  exact wX0_weighPlace_2 hX _ _ _ _ h
def X0_choose_82 (G : kdS) (k49 : Nat → Int32 → Int32 → kdM → Option (Int64 × kdM)) (l0 : Nat) (l1 : Int32) (l2 : Int32) : kdM → Option (Int64 × kdM) :=
  ltI (l2 + Int32.ofInt 1) fun t1 =>
  k49 l0 l1 t1
set_option maxRecDepth 100000 in
set_option maxHeartbeats 4000000 in
theorem wX0_choose_82 {E : kdE} {G : kdS} {A : kdA} {r : Int64} {σ1 : kdM} (hX : kdX E A cX0_choose 4 RX0 (some .long) 5) (k49 : Nat → Int32 → Int32 → kdM → Option (Int64 × kdM)) (hk49 : ∀ (l0 : Nat) (l1 : Int32) (l2 : Int32) (σ : kdM), k49 l0 l1 l2 σ = some (r, σ1) → SW E G (.inl (some (.long r), σ1)) A 4 σ 49 [(0, kr E l0), (1, .int l1), (2, .int l2)] []) {σ : kdM} {l0 : Nat} {l1 : Int32} {l2 : Int32} (h : X0_choose_82 G k49 l0 l1 l2 σ = some (r, σ1)) : SW E G (.inl (some (.long r), σ1)) A 4 σ 82 [(0, kr E l0), (1, .int l1), (2, .int l2)] [] := by
  unfold X0_choose_82 at h
  refine r_iincL (L2 := fun t1 => [(2, .int t1), (0, kr E l0), (1, .int l1)]) hX dX0_choose_82 h 2 rfl (by decide) (fun _ => rfl) ?_
  clear h; intro t1 h
  refine r_goto (tgt := 49) hX dX0_choose_85 (by decide) ?_
  refine r_sub [1, 2, 0] rfl ?_
  exact hk49 _ _ _ _ h
def X0_choose_92B (G : kdS) (k92 : Nat → Int32 → Int32 → Int32 → kdM → Option (Int64 × kdM)) (l0 : Nat) (l1 : Int32) (l2 : Int32) (l3 : Int32) : kdM → Option (Int64 × kdM) :=
  gR G 0 3 l0 fun t1 =>
  kcv G 6 t1 (X6_size G t1) fun t2 =>
  cnd (t2 ≤ l3)
    (gR G 0 6 l0 fun t3 =>
    aR G 19 t3 ((0 : Int32)) fun t4 =>
    aL G t4 (l1) fun t5 =>
    rt t5)
    (gR G 0 5 l0 fun t6 =>
    kcv G 6 t6 (X6_add G t6 l2) fun _ =>
    gR G 0 7 l0 fun t7 =>
    aR G 18 t7 (l3) fun t8 =>
    aI G t8 (l2) fun t9 =>
    ltI (l3 + Int32.ofInt 1) fun t10 =>
    k92 l0 l1 t9 t10)
set_option maxRecDepth 100000 in
set_option maxHeartbeats 4000000 in
theorem wX0_choose_92B {E : kdE} {G : kdS} {A : kdA} {r : Int64} {σ1 : kdM} (hX : kdX E A cX0_choose 4 RX0 (some .long) 5) (k92 : Nat → Int32 → Int32 → Int32 → kdM → Option (Int64 × kdM)) (hk92 : ∀ (l0 : Nat) (l1 : Int32) (l2 : Int32) (l3 : Int32) (σ : kdM), k92 l0 l1 l2 l3 σ = some (r, σ1) → SW E G (.inl (some (.long r), σ1)) A 4 σ 92 [(0, kr E l0), (1, .int l1), (2, .int l2), (3, .int l3)] []) {σ : kdM} {l0 : Nat} {l1 : Int32} {l2 : Int32} {l3 : Int32} (h : X0_choose_92B G k92 l0 l1 l2 l3 σ = some (r, σ1)) : SW E G (.inl (some (.long r), σ1)) A 4 σ 92 [(0, kr E l0), (1, .int l1), (2, .int l2), (3, .int l3)] [] := by
  unfold X0_choose_92B at h
  refine r_iload_n hX dX0_choose_92 rfl 3 rfl ?_
  refine r_aload_n hX dX0_choose_93 rfl 0 rfl ?_
  refine r_gR hX dX0_choose_94 kf_X0_21 rfl h ?_
  clear h; intro t1 h
  refine r_cVi (As := []) (st := [.int l3]) hX dX0_choose_97 kl_X6_size w_ml_X0_47 w_im_X6_size w_se_X6_size ⟨_, _, rfl⟩ (by decide) rfl (Nat.le_of_ble_eq_true rfl) rfl kdz0 h (fun r σ1 h => wX6_size h) ?_
  clear h; intro t2 σ h
  refine r_icmp_ge (tgt := 126) hX dX0_choose_100 (by decide) h ?_ ?_
  · clear h; intro h
    refine r_aload_n hX dX0_choose_126 rfl 0 rfl ?_
    refine r_gR hX dX0_choose_127 kf_X0_33 rfl h ?_
    clear h; intro t3 h
    refine r_iconst hX dX0_choose_130 kk_i_0 ?_
    refine r_aR19 hX dX0_choose_131 h ?_
    clear h; intro t4 h
    refine r_iload_n hX dX0_choose_132 rfl 1 rfl ?_
    refine r_aL hX dX0_choose_133 h ?_
    clear h; intro t5 h
    exact r_lret hX dX0_choose_134 h
  · clear h; intro h
    refine r_aload_n hX dX0_choose_103 rfl 0 rfl ?_
    refine r_gR hX dX0_choose_104 kf_X0_28 rfl h ?_
    clear h; intro t6 h
    refine r_iload_n hX dX0_choose_107 rfl 2 rfl ?_
    refine r_cVv (As := [.int l2]) (st := []) hX dX0_choose_108 kl_X6_add w_ml_X0_55 w_im_X6_add w_se_X6_add ⟨_, _, rfl⟩ (by decide) rfl (Nat.le_of_ble_eq_true rfl) rfl kdz0 h (fun r σ1 h => wX6_add h) ?_
    clear h; intro u σ h
    refine r_aload_n hX dX0_choose_111 rfl 0 rfl ?_
    refine r_gR hX dX0_choose_112 kf_X0_36 rfl h ?_
    clear h; intro t7 h
    refine r_iload_n hX dX0_choose_115 rfl 3 rfl ?_
    refine r_aR18 hX dX0_choose_116 h ?_
    clear h; intro t8 h
    refine r_iload_n hX dX0_choose_117 rfl 2 rfl ?_
    refine r_aI hX dX0_choose_118 h ?_
    clear h; intro t9 h
    refine r_istore_n (L2 := [(2, .int t9), (0, kr E l0), (1, .int l1), (3, .int l3)]) hX dX0_choose_119 rfl (by decide) rfl ?_
    refine r_iincL (L2 := fun t10 => [(3, .int t10), (2, .int t9), (0, kr E l0), (1, .int l1)]) hX dX0_choose_120 h 3 rfl (by decide) (fun _ => rfl) ?_
    clear h; intro t10 h
    refine r_goto (tgt := 92) hX dX0_choose_123 (by decide) ?_
    refine r_sub [2, 3, 1, 0] rfl ?_
    exact hk92 _ _ _ _ _ h
def X0_choose_92 (G : kdS) : Nat → Int32 → Int32 → Int32 → kdM → Option (Int64 × kdM) := lp (fun _ _ _ _ _ => none) (X0_choose_92B G) NN
theorem wX0_choose_92 {E : kdE} {G : kdS} {A : kdA} {r : Int64} {σ1 : kdM} (hX : kdX E A cX0_choose 4 RX0 (some .long) 5) : ∀ (l0 : Nat) (l1 : Int32) (l2 : Int32) (l3 : Int32) (σ : kdM), X0_choose_92 G l0 l1 l2 l3 σ = some (r, σ1) → SW E G (.inl (some (.long r), σ1)) A 4 σ 92 [(0, kr E l0), (1, .int l1), (2, .int l2), (3, .int l3)] [] :=
  lp_ind (Q := fun f => ∀ (l0 : Nat) (l1 : Int32) (l2 : Int32) (l3 : Int32) (σ : kdM), f l0 l1 l2 l3 σ = some (r, σ1) → SW E G (.inl (some (.long r), σ1)) A 4 σ 92 [(0, kr E l0), (1, .int l1), (2, .int l2), (3, .int l3)] []) (by intros; contradiction) (fun k hk l0 l1 l2 l3 σ h => wX0_choose_92B hX k hk h) NN
def X0_choose_49B (G : kdS) (k49 : Nat → Int32 → Int32 → kdM → Option (Int64 × kdM)) (l0 : Nat) (l1 : Int32) (l2 : Int32) : kdM → Option (Int64 × kdM) :=
  gR G 0 0 l0 fun t1 =>
  kcv G 10 t1 (X10_size G t1) fun t2 =>
  cnd (t2 ≤ l2)
    (X0_choose_92 G l0 l1 l1 (0 : Int32))
    (gR G 0 6 l0 fun t3 =>
    aR G 19 t3 ((0 : Int32)) fun t4 =>
    aL G t4 (l2) fun t5 =>
    gR G 0 6 l0 fun t6 =>
    aR G 19 t6 ((0 : Int32)) fun t7 =>
    aL G t7 (l1) fun t8 =>
    cnd ((lg_cmp t5 t8) ≤ 0)
      (X0_choose_82 G k49 l0 l1 l2)
      (X0_choose_82 G k49 l0 l2 l2))
set_option maxRecDepth 100000 in
set_option maxHeartbeats 4000000 in
theorem wX0_choose_49B {E : kdE} {G : kdS} {A : kdA} {r : Int64} {σ1 : kdM} (hX : kdX E A cX0_choose 4 RX0 (some .long) 5) (k49 : Nat → Int32 → Int32 → kdM → Option (Int64 × kdM)) (hk49 : ∀ (l0 : Nat) (l1 : Int32) (l2 : Int32) (σ : kdM), k49 l0 l1 l2 σ = some (r, σ1) → SW E G (.inl (some (.long r), σ1)) A 4 σ 49 [(0, kr E l0), (1, .int l1), (2, .int l2)] []) {σ : kdM} {l0 : Nat} {l1 : Int32} {l2 : Int32} (h : X0_choose_49B G k49 l0 l1 l2 σ = some (r, σ1)) : SW E G (.inl (some (.long r), σ1)) A 4 σ 49 [(0, kr E l0), (1, .int l1), (2, .int l2)] [] := by
  unfold X0_choose_49B at h
  refine r_iload_n hX dX0_choose_49 rfl 2 rfl ?_
  refine r_aload_n hX dX0_choose_50 rfl 0 rfl ?_
  refine r_gR hX dX0_choose_51 kf_X0_39 rfl h ?_
  clear h; intro t1 h
  refine r_cVi (As := []) (st := [.int l2]) hX dX0_choose_54 kl_X10_size w_ml_X0_67 w_im_X10_size w_se_X10_size ⟨_, _, rfl⟩ (by decide) rfl (Nat.le_of_ble_eq_true rfl) rfl kdz0 h (fun r σ1 h => wX10_size h) ?_
  clear h; intro t2 σ h
  refine r_icmp_ge (tgt := 88) hX dX0_choose_57 (by decide) h ?_ ?_
  · clear h; intro h
    refine r_iload_n hX dX0_choose_88 rfl 1 rfl ?_
    refine r_istore_n (L2 := [(2, .int l1), (0, kr E l0), (1, .int l1)]) hX dX0_choose_89 rfl (by decide) rfl ?_
    refine r_iconst hX dX0_choose_90 kk_i_0 ?_
    refine r_istore_n (L2 := [(3, .int (0 : Int32)), (2, .int l1), (0, kr E l0), (1, .int l1)]) hX dX0_choose_91 rfl (by decide) rfl ?_
    refine r_sub [2, 3, 1, 0] rfl ?_
    exact wX0_choose_92 hX _ _ _ _ _ h
  · clear h; intro h
    refine r_aload_n hX dX0_choose_60 rfl 0 rfl ?_
    refine r_gR hX dX0_choose_61 kf_X0_33 rfl h ?_
    clear h; intro t3 h
    refine r_iconst hX dX0_choose_64 kk_i_0 ?_
    refine r_aR19 hX dX0_choose_65 h ?_
    clear h; intro t4 h
    refine r_iload_n hX dX0_choose_66 rfl 2 rfl ?_
    refine r_aL hX dX0_choose_67 h ?_
    clear h; intro t5 h
    refine r_aload_n hX dX0_choose_68 rfl 0 rfl ?_
    refine r_gR hX dX0_choose_69 kf_X0_33 rfl h ?_
    clear h; intro t6 h
    refine r_iconst hX dX0_choose_72 kk_i_0 ?_
    refine r_aR19 hX dX0_choose_73 h ?_
    clear h; intro t7 h
    refine r_iload_n hX dX0_choose_74 rfl 1 rfl ?_
    refine r_aL hX dX0_choose_75 h ?_
    clear h; intro t8 h
    refine r_lcmp hX dX0_choose_76 ?_
    refine r_if_le (tgt := 82) hX dX0_choose_77 (by decide) h ?_ ?_
    · clear h; intro h
      refine r_sub [0, 1, 2] rfl ?_
      exact wX0_choose_82 hX k49 hk49 h
    · clear h; intro h
      refine r_iload_n hX dX0_choose_80 rfl 2 rfl ?_
      refine r_istore_n (L2 := [(1, .int l2), (0, kr E l0), (2, .int l2)]) hX dX0_choose_81 rfl (by decide) rfl ?_
      refine r_sub [1, 0, 2] rfl ?_
      exact wX0_choose_82 hX k49 hk49 h
def X0_choose_49 (G : kdS) : Nat → Int32 → Int32 → kdM → Option (Int64 × kdM) := lp (fun _ _ _ _ => none) (X0_choose_49B G) NN
theorem wX0_choose_49 {E : kdE} {G : kdS} {A : kdA} {r : Int64} {σ1 : kdM} (hX : kdX E A cX0_choose 4 RX0 (some .long) 5) : ∀ (l0 : Nat) (l1 : Int32) (l2 : Int32) (σ : kdM), X0_choose_49 G l0 l1 l2 σ = some (r, σ1) → SW E G (.inl (some (.long r), σ1)) A 4 σ 49 [(0, kr E l0), (1, .int l1), (2, .int l2)] [] :=
  lp_ind (Q := fun f => ∀ (l0 : Nat) (l1 : Int32) (l2 : Int32) (σ : kdM), f l0 l1 l2 σ = some (r, σ1) → SW E G (.inl (some (.long r), σ1)) A 4 σ 49 [(0, kr E l0), (1, .int l1), (2, .int l2)] []) (by intros; contradiction) (fun k hk l0 l1 l2 σ h => wX0_choose_49B hX k hk h) NN
def X0_choose_10B (G : kdS) (k10 : Nat → Int32 → kdM → Option (Int64 × kdM)) (l0 : Nat) (l1 : Int32) : kdM → Option (Int64 × kdM) :=
  cnd (l1 < 0)
    (gR G 0 5 l0 fun t1 =>
    kcv G 6 t1 (X6_clear G t1) fun t2 =>
    gR G 0 3 l0 fun t3 =>
    kcv G 6 t3 (X6_isEmpty G t3) fun t4 =>
    cnd (t4 = 0)
      (X0_choose_49 G l0 (0 : Int32) (1 : Int32))
      (rt (0 : Int64)))
    (kcv G 0 l0 (X0_weighPlace G l0 l1) fun _ =>
    ltI (l1 + Int32.ofInt (-1)) fun t5 =>
    k10 l0 t5)
set_option maxRecDepth 100000 in
set_option maxHeartbeats 4000000 in
theorem wX0_choose_10B {E : kdE} {G : kdS} {A : kdA} {r : Int64} {σ1 : kdM} (hX : kdX E A cX0_choose 4 RX0 (some .long) 5) (k10 : Nat → Int32 → kdM → Option (Int64 × kdM)) (hk10 : ∀ (l0 : Nat) (l1 : Int32) (σ : kdM), k10 l0 l1 σ = some (r, σ1) → SW E G (.inl (some (.long r), σ1)) A 4 σ 10 [(0, kr E l0), (1, .int l1)] []) {σ : kdM} {l0 : Nat} {l1 : Int32} (h : X0_choose_10B G k10 l0 l1 σ = some (r, σ1)) : SW E G (.inl (some (.long r), σ1)) A 4 σ 10 [(0, kr E l0), (1, .int l1)] [] := by
  unfold X0_choose_10B at h
  refine r_iload_n hX dX0_choose_10 rfl 1 rfl ?_
  refine r_if_lt (tgt := 25) hX dX0_choose_11 (by decide) h ?_ ?_
  · clear h; intro h
    refine r_aload_n hX dX0_choose_25 rfl 0 rfl ?_
    refine r_gR hX dX0_choose_26 kf_X0_28 rfl h ?_
    clear h; intro t1 h
    refine r_cVi (As := []) (st := []) hX dX0_choose_29 kl_X6_clear w_ml_X0_58 w_im_X6_clear w_se_X6_clear ⟨_, _, rfl⟩ (by decide) rfl (Nat.le_of_ble_eq_true rfl) rfl kdz0 h (fun r σ1 h => wX6_clear h) ?_
    clear h; intro t2 σ h
    refine r_pop hX dX0_choose_32 rfl ?_
    refine r_aload_n hX dX0_choose_33 rfl 0 rfl ?_
    refine r_gR hX dX0_choose_34 kf_X0_21 rfl h ?_
    clear h; intro t3 h
    refine r_cVi (As := []) (st := []) hX dX0_choose_37 kl_X6_isEmpty w_ml_X0_64 w_im_X6_isEmpty w_se_X6_isEmpty ⟨_, _, rfl⟩ (by decide) rfl (Nat.le_of_ble_eq_true rfl) rfl kdz0 h (fun r σ1 h => wX6_isEmpty h) ?_
    clear h; intro t4 σ h
    refine r_if_eq (tgt := 45) hX dX0_choose_40 (by decide) h ?_ ?_
    · clear h; intro h
      refine r_iconst hX dX0_choose_45 kk_i_0 ?_
      refine r_istore_n (L2 := [(1, .int (0 : Int32)), (0, kr E l0)]) hX dX0_choose_46 rfl (by decide) rfl ?_
      refine r_iconst hX dX0_choose_47 kk_i_1 ?_
      refine r_istore_n (L2 := [(2, .int (1 : Int32)), (1, .int (0 : Int32)), (0, kr E l0)]) hX dX0_choose_48 rfl (by decide) rfl ?_
      refine r_sub [2, 1, 0] rfl ?_
      exact wX0_choose_49 hX _ _ _ _ h
    · clear h; intro h
      refine r_lconst hX dX0_choose_43 kk_l_0 ?_
      exact r_lret hX dX0_choose_44 h
  · clear h; intro h
    refine r_aload_n hX dX0_choose_14 rfl 0 rfl ?_
    refine r_iload_n hX dX0_choose_15 rfl 1 rfl ?_
    refine r_cVv (As := [.int l1]) (st := []) hX dX0_choose_16 kl_X0_weighPlace w_ml_X0_61 w_im_X0_weighPlace w_se_X0_weighPlace ⟨_, _, rfl⟩ (by decide) rfl (Nat.le_of_ble_eq_true rfl) rfl kdz0 h (fun r σ1 h => wX0_weighPlace h) ?_
    clear h; intro u σ h
    refine r_iincL (L2 := fun t5 => [(1, .int t5), (0, kr E l0)]) hX dX0_choose_19 h 1 rfl (by decide) (fun _ => rfl) ?_
    clear h; intro t5 h
    refine r_goto (tgt := 10) hX dX0_choose_22 (by decide) ?_
    refine r_sub [1, 0] rfl ?_
    exact hk10 _ _ _ h
def X0_choose_10 (G : kdS) : Nat → Int32 → kdM → Option (Int64 × kdM) := lp (fun _ _ _ => none) (X0_choose_10B G) NN
theorem wX0_choose_10 {E : kdE} {G : kdS} {A : kdA} {r : Int64} {σ1 : kdM} (hX : kdX E A cX0_choose 4 RX0 (some .long) 5) : ∀ (l0 : Nat) (l1 : Int32) (σ : kdM), X0_choose_10 G l0 l1 σ = some (r, σ1) → SW E G (.inl (some (.long r), σ1)) A 4 σ 10 [(0, kr E l0), (1, .int l1)] [] :=
  lp_ind (Q := fun f => ∀ (l0 : Nat) (l1 : Int32) (σ : kdM), f l0 l1 σ = some (r, σ1) → SW E G (.inl (some (.long r), σ1)) A 4 σ 10 [(0, kr E l0), (1, .int l1)] []) (by intros; contradiction) (fun k hk l0 l1 σ h => wX0_choose_10B hX k hk h) NN
def X0_choose (G : kdS) (l0 : Nat) : kdM → Option (Int64 × kdM) :=
  gR G 0 3 l0 fun t1 =>
  kcv G 6 t1 (X6_size G t1) fun t2 =>
  ltI ((t2 - (1 : Int32))) fun t3 =>
  X0_choose_10 G l0 t3
set_option maxRecDepth 100000 in
set_option maxHeartbeats 4000000 in
theorem wX0_choose {E : kdE} {G : kdS} {l0 : Nat} {σ : kdM} {r : Int64} {σ1 : kdM} (h : X0_choose G l0 σ = some (r, σ1)) : Con E G yX0_choose cX0_choose 4 (some .long) 5 [kr E l0] σ (some (.long r), σ1) := by
  refine kd_head (own := RX0) rfl (by decide +kernel) (Nat.le_of_ble_eq_true rfl) (fun A hX => ?_)
  show SW E G (.inl (some (.long r), σ1)) A 4 σ 0 [(0, kr E l0)] []
  unfold X0_choose at h
  refine r_aload_n hX dX0_choose_0 rfl 0 rfl ?_
  refine r_gR hX dX0_choose_1 kf_X0_21 rfl h ?_
  clear h; intro t1 h
  refine r_cVi (As := []) (st := []) hX dX0_choose_4 kl_X6_size w_ml_X0_47 w_im_X6_size w_se_X6_size ⟨_, _, rfl⟩ (by decide) rfl (Nat.le_of_ble_eq_true rfl) rfl kdz0 h (fun r σ1 h => wX6_size h) ?_
  clear h; intro t2 σ h
  refine r_iconst hX dX0_choose_7 kk_i_1 ?_
  refine r_isub hX dX0_choose_8 ?_
  refine r_letI h ?_
  clear h; intro t3 h
  refine r_istore_n (L2 := [(1, .int t3), (0, kr E l0)]) hX dX0_choose_9 rfl (by decide) rfl ?_
  refine r_sub [1, 0] rfl ?_
  exact wX0_choose_10 hX _ _ _ h
def X2_learnings (G : kdS) (l0 : Nat) : kdM → Option (Int32 × kdM) :=
  gR G 2 0 l0 fun t1 =>
  kcv G 6 t1 (X6_size G t1) fun t2 =>
  rt t2
set_option maxRecDepth 100000 in
set_option maxHeartbeats 4000000 in
theorem wX2_learnings {E : kdE} {G : kdS} {l0 : Nat} {σ : kdM} {r : Int32} {σ1 : kdM} (h : X2_learnings G l0 σ = some (r, σ1)) : Con E G yX2_learnings cX2_learnings 1 (some .int) 1 [kr E l0] σ (some (.int r), σ1) := by
  refine kd_head (own := RX2) rfl (by decide +kernel) (Nat.le_of_ble_eq_true rfl) (fun A hX => ?_)
  show SW E G (.inl (some (.int r), σ1)) A 1 σ 0 [(0, kr E l0)] []
  unfold X2_learnings at h
  refine r_aload_n hX dX2_learnings_0 rfl 0 rfl ?_
  refine r_gR hX dX2_learnings_1 kf_X2_14 rfl h ?_
  clear h; intro t1 h
  refine r_cVi (As := []) (st := []) hX dX2_learnings_4 kl_X6_size w_ml_X2_37 w_im_X6_size w_se_X6_size ⟨_, _, rfl⟩ (by decide) rfl (Nat.le_of_ble_eq_true rfl) rfl kdz0 h (fun r σ1 h => wX6_size h) ?_
  clear h; intro t2 σ h
  exact r_iret hX dX2_learnings_7 h
def X2_isFull (G : kdS) (l0 : Nat) : kdM → Option (Int32 × kdM) :=
  gR G 2 0 l0 fun t1 =>
  kcv G 6 t1 (X6_isFull G t1) fun t2 =>
  rt (vp_nar .boolean t2)
set_option maxRecDepth 100000 in
set_option maxHeartbeats 4000000 in
theorem wX2_isFull {E : kdE} {G : kdS} {l0 : Nat} {σ : kdM} {r : Int32} {σ1 : kdM} (h : X2_isFull G l0 σ = some (r, σ1)) : Con E G yX2_isFull cX2_isFull 1 (some .boolean) 1 [kr E l0] σ (some (.int r), σ1) := by
  refine kd_head (own := RX2) rfl (by decide +kernel) (Nat.le_of_ble_eq_true rfl) (fun A hX => ?_)
  show SW E G (.inl (some (.int r), σ1)) A 1 σ 0 [(0, kr E l0)] []
  unfold X2_isFull at h
  refine r_aload_n hX dX2_isFull_0 rfl 0 rfl ?_
  refine r_gR hX dX2_isFull_1 kf_X2_14 rfl h ?_
  clear h; intro t1 h
  refine r_cVi (As := []) (st := []) hX dX2_isFull_4 kl_X6_isFull w_ml_X2_41 w_im_X6_isFull w_se_X6_isFull ⟨_, _, rfl⟩ (by decide) rfl (Nat.le_of_ble_eq_true rfl) rfl kdz0 h (fun r σ1 h => wX6_isFull h) ?_
  clear h; intro t2 σ h
  exact r_zret hX dX2_isFull_7 h
def X2_addLearning (G : kdS) (l0 : Nat) (l1 : Int32) (l2 : Int32) (l3 : Int32) : kdM → Option (Int32 × kdM) :=
  gR G 2 0 l0 fun t1 =>
  kcv G 6 t1 (X6_add G t1 l1) fun _ =>
  gR G 2 1 l0 fun t2 =>
  kcv G 6 t2 (X6_add G t2 l2) fun _ =>
  gR G 2 2 l0 fun t3 =>
  kcv G 6 t3 (X6_add G t3 l3) fun _ =>
  kcv G 2 l0 (X2_learnings G l0) fun t4 =>
  rt t4
set_option maxRecDepth 100000 in
set_option maxHeartbeats 4000000 in
theorem wX2_addLearning {E : kdE} {G : kdS} {l0 : Nat} {l1 : Int32} {l2 : Int32} {l3 : Int32} {σ : kdM} {r : Int32} {σ1 : kdM} (h : X2_addLearning G l0 l1 l2 l3 σ = some (r, σ1)) : Con E G yX2_addLearning cX2_addLearning 4 (some .int) 3 [kr E l0, .int l1, .int l2, .int l3] σ (some (.int r), σ1) := by
  refine kd_head (own := RX2) rfl (by decide +kernel) (Nat.le_of_ble_eq_true rfl) (fun A hX => ?_)
  show SW E G (.inl (some (.int r), σ1)) A 4 σ 0 [(0, kr E l0), (1, .int l1), (2, .int l2), (3, .int l3)] []
  unfold X2_addLearning at h
  refine r_aload_n hX dX2_addLearning_0 rfl 0 rfl ?_
  refine r_gR hX dX2_addLearning_1 kf_X2_14 rfl h ?_
  clear h; intro t1 h
  refine r_iload_n hX dX2_addLearning_4 rfl 1 rfl ?_
  refine r_cVv (As := [.int l1]) (st := []) hX dX2_addLearning_5 kl_X6_add w_ml_X2_45 w_im_X6_add w_se_X6_add ⟨_, _, rfl⟩ (by decide) rfl (Nat.le_of_ble_eq_true rfl) rfl kdz0 h (fun r σ1 h => wX6_add h) ?_
  clear h; intro u σ h
  refine r_aload_n hX dX2_addLearning_8 rfl 0 rfl ?_
  refine r_gR hX dX2_addLearning_9 kf_X2_20 rfl h ?_
  clear h; intro t2 h
  refine r_iload_n hX dX2_addLearning_12 rfl 2 rfl ?_
  refine r_cVv (As := [.int l2]) (st := []) hX dX2_addLearning_13 kl_X6_add w_ml_X2_45 w_im_X6_add w_se_X6_add ⟨_, _, rfl⟩ (by decide) rfl (Nat.le_of_ble_eq_true rfl) rfl kdz0 h (fun r σ1 h => wX6_add h) ?_
  clear h; intro u σ h
  refine r_aload_n hX dX2_addLearning_16 rfl 0 rfl ?_
  refine r_gR hX dX2_addLearning_17 kf_X2_23 rfl h ?_
  clear h; intro t3 h
  refine r_iload_n hX dX2_addLearning_20 rfl 3 rfl ?_
  refine r_cVv (As := [.int l3]) (st := []) hX dX2_addLearning_21 kl_X6_add w_ml_X2_45 w_im_X6_add w_se_X6_add ⟨_, _, rfl⟩ (by decide) rfl (Nat.le_of_ble_eq_true rfl) rfl kdz0 h (fun r σ1 h => wX6_add h) ?_
  clear h; intro u σ h
  refine r_aload_n hX dX2_addLearning_24 rfl 0 rfl ?_
  refine r_cVi (As := []) (st := []) hX dX2_addLearning_25 kl_X2_learnings w_ml_X2_48 w_im_X2_learnings w_se_X2_learnings ⟨_, _, rfl⟩ (by decide) rfl (Nat.le_of_ble_eq_true rfl) rfl kdz0 h (fun r σ1 h => wX2_learnings h) ?_
  clear h; intro t4 σ h
  exact r_iret hX dX2_addLearning_28 h
def X2_latestDay_37 (G : kdS) (k4 : Nat → Int32 → Int32 → Int32 → kdM → Option (Int32 × kdM)) (l0 : Nat) (l1 : Int32) (l2 : Int32) (l3 : Int32) : kdM → Option (Int32 × kdM) :=
  ltI (l3 + Int32.ofInt 1) fun t1 =>
  k4 l0 l1 l2 t1
set_option maxRecDepth 100000 in
set_option maxHeartbeats 4000000 in
theorem wX2_latestDay_37 {E : kdE} {G : kdS} {A : kdA} {r : Int32} {σ1 : kdM} (hX : kdX E A cX2_latestDay 4 RX2 (some .int) 2) (k4 : Nat → Int32 → Int32 → Int32 → kdM → Option (Int32 × kdM)) (hk4 : ∀ (l0 : Nat) (l1 : Int32) (l2 : Int32) (l3 : Int32) (σ : kdM), k4 l0 l1 l2 l3 σ = some (r, σ1) → SW E G (.inl (some (.int r), σ1)) A 4 σ 4 [(0, kr E l0), (1, .int l1), (2, .int l2), (3, .int l3)] []) {σ : kdM} {l0 : Nat} {l1 : Int32} {l2 : Int32} {l3 : Int32} (h : X2_latestDay_37 G k4 l0 l1 l2 l3 σ = some (r, σ1)) : SW E G (.inl (some (.int r), σ1)) A 4 σ 37 [(0, kr E l0), (1, .int l1), (2, .int l2), (3, .int l3)] [] := by
  unfold X2_latestDay_37 at h
  refine r_iincL (L2 := fun t1 => [(3, .int t1), (0, kr E l0), (1, .int l1), (2, .int l2)]) hX dX2_latestDay_37 h 3 rfl (by decide) (fun _ => rfl) ?_
  clear h; intro t1 h
  refine r_goto (tgt := 4) hX dX2_latestDay_40 (by decide) ?_
  refine r_sub [1, 2, 3, 0] rfl ?_
  exact hk4 _ _ _ _ _ h
def X2_latestDay_4B (G : kdS) (k4 : Nat → Int32 → Int32 → Int32 → kdM → Option (Int32 × kdM)) (l0 : Nat) (l1 : Int32) (l2 : Int32) (l3 : Int32) : kdM → Option (Int32 × kdM) :=
  kcv G 2 l0 (X2_learnings G l0) fun t1 =>
  cnd (t1 ≤ l3)
    (rt l2)
    (gR G 2 0 l0 fun t2 =>
    kcv G 6 t2 (X6_at G t2 l3) fun t3 =>
    cnd (t3 = l1)
      (gR G 2 2 l0 fun t4 =>
      kcv G 6 t4 (X6_at G t4 l3) fun t5 =>
      ltI ((kmax l2 t5)) fun t6 =>
      X2_latestDay_37 G k4 l0 l1 t6 l3)
      (X2_latestDay_37 G k4 l0 l1 l2 l3))
set_option maxRecDepth 100000 in
set_option maxHeartbeats 4000000 in
theorem wX2_latestDay_4B {E : kdE} {G : kdS} {A : kdA} {r : Int32} {σ1 : kdM} (hX : kdX E A cX2_latestDay 4 RX2 (some .int) 2) (k4 : Nat → Int32 → Int32 → Int32 → kdM → Option (Int32 × kdM)) (hk4 : ∀ (l0 : Nat) (l1 : Int32) (l2 : Int32) (l3 : Int32) (σ : kdM), k4 l0 l1 l2 l3 σ = some (r, σ1) → SW E G (.inl (some (.int r), σ1)) A 4 σ 4 [(0, kr E l0), (1, .int l1), (2, .int l2), (3, .int l3)] []) {σ : kdM} {l0 : Nat} {l1 : Int32} {l2 : Int32} {l3 : Int32} (h : X2_latestDay_4B G k4 l0 l1 l2 l3 σ = some (r, σ1)) : SW E G (.inl (some (.int r), σ1)) A 4 σ 4 [(0, kr E l0), (1, .int l1), (2, .int l2), (3, .int l3)] [] := by
  unfold X2_latestDay_4B at h
  refine r_iload_n hX dX2_latestDay_4 rfl 3 rfl ?_
  refine r_aload_n hX dX2_latestDay_5 rfl 0 rfl ?_
  refine r_cVi (As := []) (st := [.int l3]) hX dX2_latestDay_6 kl_X2_learnings w_ml_X2_48 w_im_X2_learnings w_se_X2_learnings ⟨_, _, rfl⟩ (by decide) rfl (Nat.le_of_ble_eq_true rfl) rfl kdz0 h (fun r σ1 h => wX2_learnings h) ?_
  clear h; intro t1 σ h
  refine r_icmp_ge (tgt := 43) hX dX2_latestDay_9 (by decide) h ?_ ?_
  · clear h; intro h
    refine r_iload_n hX dX2_latestDay_43 rfl 2 rfl ?_
    exact r_iret hX dX2_latestDay_44 h
  · clear h; intro h
    refine r_aload_n hX dX2_latestDay_12 rfl 0 rfl ?_
    refine r_gR hX dX2_latestDay_13 kf_X2_14 rfl h ?_
    clear h; intro t2 h
    refine r_iload_n hX dX2_latestDay_16 rfl 3 rfl ?_
    refine r_cVi (As := [.int l3]) (st := []) hX dX2_latestDay_17 kl_X6_at w_ml_X2_51 w_im_X6_at w_se_X6_at ⟨_, _, rfl⟩ (by decide) rfl (Nat.le_of_ble_eq_true rfl) rfl kdz0 h (fun r σ1 h => wX6_at h) ?_
    clear h; intro t3 σ h
    refine r_iload_n hX dX2_latestDay_20 rfl 1 rfl ?_
    refine r_icmp_ne (tgt := 37) hX dX2_latestDay_21 (by decide) h ?_ ?_
    · clear h; intro h
      refine r_iload_n hX dX2_latestDay_24 rfl 2 rfl ?_
      refine r_aload_n hX dX2_latestDay_25 rfl 0 rfl ?_
      refine r_gR hX dX2_latestDay_26 kf_X2_23 rfl h ?_
      clear h; intro t4 h
      refine r_iload_n hX dX2_latestDay_29 rfl 3 rfl ?_
      refine r_cVi (As := [.int l3]) (st := [.int l2]) hX dX2_latestDay_30 kl_X6_at w_ml_X2_51 w_im_X6_at w_se_X6_at ⟨_, _, rfl⟩ (by decide) rfl (Nat.le_of_ble_eq_true rfl) rfl kdz0 h (fun r σ1 h => wX6_at h) ?_
      clear h; intro t5 σ h
      refine r_mmax hX dX2_latestDay_33 w_ml_X2_55 w_st_Math_max w_in_Math w_cd_Math_max (by decide) (Nat.le_of_ble_eq_true rfl) kdz0 ?_
      refine r_letI h ?_
      clear h; intro t6 h
      refine r_istore_n (L2 := [(2, .int t6), (0, kr E l0), (1, .int l1), (3, .int l3)]) hX dX2_latestDay_36 rfl (by decide) rfl ?_
      refine r_sub [1, 2, 0, 3] rfl ?_
      exact wX2_latestDay_37 hX k4 hk4 h
    · clear h; intro h
      refine r_sub [0, 1, 2, 3] rfl ?_
      exact wX2_latestDay_37 hX k4 hk4 h
def X2_latestDay_4 (G : kdS) : Nat → Int32 → Int32 → Int32 → kdM → Option (Int32 × kdM) := lp (fun _ _ _ _ _ => none) (X2_latestDay_4B G) NN
theorem wX2_latestDay_4 {E : kdE} {G : kdS} {A : kdA} {r : Int32} {σ1 : kdM} (hX : kdX E A cX2_latestDay 4 RX2 (some .int) 2) : ∀ (l0 : Nat) (l1 : Int32) (l2 : Int32) (l3 : Int32) (σ : kdM), X2_latestDay_4 G l0 l1 l2 l3 σ = some (r, σ1) → SW E G (.inl (some (.int r), σ1)) A 4 σ 4 [(0, kr E l0), (1, .int l1), (2, .int l2), (3, .int l3)] [] :=
  lp_ind (Q := fun f => ∀ (l0 : Nat) (l1 : Int32) (l2 : Int32) (l3 : Int32) (σ : kdM), f l0 l1 l2 l3 σ = some (r, σ1) → SW E G (.inl (some (.int r), σ1)) A 4 σ 4 [(0, kr E l0), (1, .int l1), (2, .int l2), (3, .int l3)] []) (by intros; contradiction) (fun k hk l0 l1 l2 l3 σ h => wX2_latestDay_4B hX k hk h) NN
def X2_latestDay (G : kdS) (l0 : Nat) (l1 : Int32) : kdM → Option (Int32 × kdM) :=
  X2_latestDay_4 G l0 l1 (0 : Int32) (0 : Int32)
set_option maxRecDepth 100000 in
set_option maxHeartbeats 4000000 in
theorem wX2_latestDay {E : kdE} {G : kdS} {l0 : Nat} {l1 : Int32} {σ : kdM} {r : Int32} {σ1 : kdM} (h : X2_latestDay G l0 l1 σ = some (r, σ1)) : Con E G yX2_latestDay cX2_latestDay 4 (some .int) 2 [kr E l0, .int l1] σ (some (.int r), σ1) := by
  refine kd_head (own := RX2) rfl (by decide +kernel) (Nat.le_of_ble_eq_true rfl) (fun A hX => ?_)
  show SW E G (.inl (some (.int r), σ1)) A 4 σ 0 [(0, kr E l0), (1, .int l1)] []
  unfold X2_latestDay at h
  refine r_iconst hX dX2_latestDay_0 kk_i_0 ?_
  refine r_istore_n (L2 := [(2, .int (0 : Int32)), (0, kr E l0), (1, .int l1)]) hX dX2_latestDay_1 rfl (by decide) rfl ?_
  refine r_iconst hX dX2_latestDay_2 kk_i_0 ?_
  refine r_istore_n (L2 := [(3, .int (0 : Int32)), (2, .int (0 : Int32)), (0, kr E l0), (1, .int l1)]) hX dX2_latestDay_3 rfl (by decide) rfl ?_
  refine r_sub [2, 3, 1, 0] rfl ?_
  exact wX2_latestDay_4 hX _ _ _ _ _ h
def X2_faded_6B (G : kdS) (k6 : Nat → Int32 → Int32 → Int32 → kdM → Option (Int32 × kdM)) (l0 : Nat) (l1 : Int32) (l2 : Int32) (l3 : Int32) : kdM → Option (Int32 × kdM) :=
  cnd (l1 ≤ l3)
    (rt l2)
    (gI G 2 4 l0 fun t1 =>
    nz (1000 : Int32) <|
    ltI (((l2 * t1) / (1000 : Int32))) fun t2 =>
    cnd (t2 = l2)
      (rt l2)
      (ltI (l3 + Int32.ofInt 1) fun t3 =>
      k6 l0 l1 t2 t3))
set_option maxRecDepth 100000 in
set_option maxHeartbeats 4000000 in
theorem wX2_faded_6B {E : kdE} {G : kdS} {A : kdA} {r : Int32} {σ1 : kdM} (hX : kdX E A cX2_faded 5 RX2 (some .int) 0) (k6 : Nat → Int32 → Int32 → Int32 → kdM → Option (Int32 × kdM)) (hk6 : ∀ (l0 : Nat) (l1 : Int32) (l2 : Int32) (l3 : Int32) (σ : kdM), k6 l0 l1 l2 l3 σ = some (r, σ1) → SW E G (.inl (some (.int r), σ1)) A 5 σ 6 [(0, kr E l0), (1, .int l1), (2, .int l2), (3, .int l3)] []) {σ : kdM} {l0 : Nat} {l1 : Int32} {l2 : Int32} {l3 : Int32} (h : X2_faded_6B G k6 l0 l1 l2 l3 σ = some (r, σ1)) : SW E G (.inl (some (.int r), σ1)) A 5 σ 6 [(0, kr E l0), (1, .int l1), (2, .int l2), (3, .int l3)] [] := by
  unfold X2_faded_6B at h
  refine r_iload_n hX dX2_faded_6 rfl 3 rfl ?_
  refine r_iload_n hX dX2_faded_7 rfl 1 rfl ?_
  refine r_icmp_ge (tgt := 40) hX dX2_faded_8 (by decide) h ?_ ?_
  · clear h; intro h
    refine r_iload_n hX dX2_faded_40 rfl 2 rfl ?_
    exact r_iret hX dX2_faded_41 h
  · clear h; intro h
    refine r_iload_n hX dX2_faded_11 rfl 2 rfl ?_
    refine r_aload_n hX dX2_faded_12 rfl 0 rfl ?_
    refine r_gI hX dX2_faded_13 kf_X2_30 rfl h ?_
    clear h; intro t1 h
    refine r_imul hX dX2_faded_16 ?_
    refine r_sipush hX dX2_faded_17 kk_s_1000 ?_
    refine r_idiv hX dX2_faded_20 h ?_
    clear h; intro h
    refine r_letI h ?_
    clear h; intro t2 h
    refine r_istore (L2 := [(4, .int t2), (0, kr E l0), (1, .int l1), (2, .int l2), (3, .int l3)]) hX dX2_faded_21 (by decide) rfl ?_
    refine r_iload hX dX2_faded_23 0 rfl ?_
    refine r_iload_n hX dX2_faded_25 rfl 3 rfl ?_
    refine r_icmp_ne (tgt := 31) hX dX2_faded_26 (by decide) h ?_ ?_
    · clear h; intro h
      refine r_iload_n hX dX2_faded_29 rfl 3 rfl ?_
      exact r_iret hX dX2_faded_30 h
    · clear h; intro h
      refine r_iload hX dX2_faded_31 0 rfl ?_
      refine r_istore_n (L2 := [(2, .int t2), (4, .int t2), (0, kr E l0), (1, .int l1), (3, .int l3)]) hX dX2_faded_33 rfl (by decide) rfl ?_
      refine r_iincL (L2 := fun t3 => [(3, .int t3), (2, .int t2), (4, .int t2), (0, kr E l0), (1, .int l1)]) hX dX2_faded_34 h 4 rfl (by decide) (fun _ => rfl) ?_
      clear h; intro t3 h
      refine r_goto (tgt := 6) hX dX2_faded_37 (by decide) ?_
      refine r_sub [3, 4, 1, 0] rfl ?_
      exact hk6 _ _ _ _ _ h
def X2_faded_6 (G : kdS) : Nat → Int32 → Int32 → Int32 → kdM → Option (Int32 × kdM) := lp (fun _ _ _ _ _ => none) (X2_faded_6B G) NN
theorem wX2_faded_6 {E : kdE} {G : kdS} {A : kdA} {r : Int32} {σ1 : kdM} (hX : kdX E A cX2_faded 5 RX2 (some .int) 0) : ∀ (l0 : Nat) (l1 : Int32) (l2 : Int32) (l3 : Int32) (σ : kdM), X2_faded_6 G l0 l1 l2 l3 σ = some (r, σ1) → SW E G (.inl (some (.int r), σ1)) A 5 σ 6 [(0, kr E l0), (1, .int l1), (2, .int l2), (3, .int l3)] [] :=
  lp_ind (Q := fun f => ∀ (l0 : Nat) (l1 : Int32) (l2 : Int32) (l3 : Int32) (σ : kdM), f l0 l1 l2 l3 σ = some (r, σ1) → SW E G (.inl (some (.int r), σ1)) A 5 σ 6 [(0, kr E l0), (1, .int l1), (2, .int l2), (3, .int l3)] []) (by intros; contradiction) (fun k hk l0 l1 l2 l3 σ h => wX2_faded_6B hX k hk h) NN
def X2_faded (G : kdS) (l0 : Nat) (l1 : Int32) : kdM → Option (Int32 × kdM) :=
  X2_faded_6 G l0 l1 (1000 : Int32) (0 : Int32)
set_option maxRecDepth 100000 in
set_option maxHeartbeats 4000000 in
theorem wX2_faded {E : kdE} {G : kdS} {l0 : Nat} {l1 : Int32} {σ : kdM} {r : Int32} {σ1 : kdM} (h : X2_faded G l0 l1 σ = some (r, σ1)) : Con E G yX2_faded cX2_faded 5 (some .int) 0 [kr E l0, .int l1] σ (some (.int r), σ1) := by
  refine kd_head (own := RX2) rfl (by decide +kernel) (Nat.le_of_ble_eq_true rfl) (fun A hX => ?_)
  show SW E G (.inl (some (.int r), σ1)) A 5 σ 0 [(0, kr E l0), (1, .int l1)] []
  unfold X2_faded at h
  refine r_sipush hX dX2_faded_0 kk_s_1000 ?_
  refine r_istore_n (L2 := [(2, .int (1000 : Int32)), (0, kr E l0), (1, .int l1)]) hX dX2_faded_3 rfl (by decide) rfl ?_
  refine r_iconst hX dX2_faded_4 kk_i_0 ?_
  refine r_istore_n (L2 := [(3, .int (0 : Int32)), (2, .int (1000 : Int32)), (0, kr E l0), (1, .int l1)]) hX dX2_faded_5 rfl (by decide) rfl ?_
  refine r_sub [2, 3, 1, 0] rfl ?_
  exact wX2_faded_6 hX _ _ _ _ _ h
def X2_isOf_29 (G : kdS) (s0 : Int32) : kdM → Option (Int32 × kdM) :=
  rt (vp_nar .boolean s0)
set_option maxRecDepth 100000 in
set_option maxHeartbeats 4000000 in
theorem wX2_isOf_29 {E : kdE} {G : kdS} {A : kdA} {r : Int32} {σ1 : kdM} (hX : kdX E A cX2_isOf 4 RX2 (some .boolean) 1) {σ : kdM} {s0 : Int32} (h : X2_isOf_29 G s0 σ = some (r, σ1)) : SW E G (.inl (some (.int r), σ1)) A 4 σ 29 [] [.int s0] := by
  unfold X2_isOf_29 at h
  exact r_zret hX dX2_isOf_29 h
def X2_isOf_28 (G : kdS) : kdM → Option (Int32 × kdM) :=
  X2_isOf_29 G (0 : Int32)
set_option maxRecDepth 100000 in
set_option maxHeartbeats 4000000 in
theorem wX2_isOf_28 {E : kdE} {G : kdS} {A : kdA} {r : Int32} {σ1 : kdM} (hX : kdX E A cX2_isOf 4 RX2 (some .boolean) 1) {σ : kdM} (h : X2_isOf_28 G  σ = some (r, σ1)) : SW E G (.inl (some (.int r), σ1)) A 4 σ 28 [] [] := by
  unfold X2_isOf_28 at h
  refine r_iconst hX dX2_isOf_28 kk_i_0 ?_
  refine r_sub [] rfl ?_
  exact wX2_isOf_29 hX h
def X2_isOf (G : kdS) (l0 : Nat) (l1 : Int32) (l2 : Int32) (l3 : Int32) : kdM → Option (Int32 × kdM) :=
  gR G 2 0 l0 fun t1 =>
  kcv G 6 t1 (X6_at G t1 l1) fun t2 =>
  cnd (t2 = l2)
    (gR G 2 1 l0 fun t3 =>
    kcv G 6 t3 (X6_at G t3 l1) fun t4 =>
    cnd (t4 = l3)
      (X2_isOf_29 G (1 : Int32))
      (X2_isOf_28 G ))
    (X2_isOf_28 G )
set_option maxRecDepth 100000 in
set_option maxHeartbeats 4000000 in
theorem wX2_isOf {E : kdE} {G : kdS} {l0 : Nat} {l1 : Int32} {l2 : Int32} {l3 : Int32} {σ : kdM} {r : Int32} {σ1 : kdM} (h : X2_isOf G l0 l1 l2 l3 σ = some (r, σ1)) : Con E G yX2_isOf cX2_isOf 4 (some .boolean) 1 [kr E l0, .int l1, .int l2, .int l3] σ (some (.int r), σ1) := by
  refine kd_head (own := RX2) rfl (by decide +kernel) (Nat.le_of_ble_eq_true rfl) (fun A hX => ?_)
  show SW E G (.inl (some (.int r), σ1)) A 4 σ 0 [(0, kr E l0), (1, .int l1), (2, .int l2), (3, .int l3)] []
  unfold X2_isOf at h
  refine r_aload_n hX dX2_isOf_0 rfl 0 rfl ?_
  refine r_gR hX dX2_isOf_1 kf_X2_14 rfl h ?_
  clear h; intro t1 h
  refine r_iload_n hX dX2_isOf_4 rfl 1 rfl ?_
  refine r_cVi (As := [.int l1]) (st := []) hX dX2_isOf_5 kl_X6_at w_ml_X2_51 w_im_X6_at w_se_X6_at ⟨_, _, rfl⟩ (by decide) rfl (Nat.le_of_ble_eq_true rfl) rfl kdz0 h (fun r σ1 h => wX6_at h) ?_
  clear h; intro t2 σ h
  refine r_iload_n hX dX2_isOf_8 rfl 2 rfl ?_
  refine r_icmp_ne (tgt := 28) hX dX2_isOf_9 (by decide) h ?_ ?_
  · clear h; intro h
    refine r_aload_n hX dX2_isOf_12 rfl 0 rfl ?_
    refine r_gR hX dX2_isOf_13 kf_X2_20 rfl h ?_
    clear h; intro t3 h
    refine r_iload_n hX dX2_isOf_16 rfl 1 rfl ?_
    refine r_cVi (As := [.int l1]) (st := []) hX dX2_isOf_17 kl_X6_at w_ml_X2_51 w_im_X6_at w_se_X6_at ⟨_, _, rfl⟩ (by decide) rfl (Nat.le_of_ble_eq_true rfl) rfl kdz0 h (fun r σ1 h => wX6_at h) ?_
    clear h; intro t4 σ h
    refine r_iload_n hX dX2_isOf_20 rfl 3 rfl ?_
    refine r_icmp_ne (tgt := 28) hX dX2_isOf_21 (by decide) h ?_ ?_
    · clear h; intro h
      refine r_iconst hX dX2_isOf_24 kk_i_1 ?_
      refine r_goto (tgt := 29) hX dX2_isOf_25 (by decide) ?_
      refine r_sub [] rfl ?_
      exact wX2_isOf_29 hX h
    · clear h; intro h
      refine r_sub [] rfl ?_
      exact wX2_isOf_28 hX h
  · clear h; intro h
    refine r_sub [] rfl ?_
    exact wX2_isOf_28 hX h
def X2_worthOf_59 (G : kdS) (k6 : Nat → Int32 → Int32 → Int32 → Int32 → Int32 → kdM → Option (Int32 × kdM)) (l0 : Nat) (l1 : Int32) (l2 : Int32) (l3 : Int32) (l4 : Int32) (l5 : Int32) : kdM → Option (Int32 × kdM) :=
  ltI (l5 + Int32.ofInt 1) fun t1 =>
  k6 l0 l1 l2 l3 l4 t1
set_option maxRecDepth 100000 in
set_option maxHeartbeats 4000000 in
theorem wX2_worthOf_59 {E : kdE} {G : kdS} {A : kdA} {r : Int32} {σ1 : kdM} (hX : kdX E A cX2_worthOf 6 RX2 (some .int) 2) (k6 : Nat → Int32 → Int32 → Int32 → Int32 → Int32 → kdM → Option (Int32 × kdM)) (hk6 : ∀ (l0 : Nat) (l1 : Int32) (l2 : Int32) (l3 : Int32) (l4 : Int32) (l5 : Int32) (σ : kdM), k6 l0 l1 l2 l3 l4 l5 σ = some (r, σ1) → SW E G (.inl (some (.int r), σ1)) A 6 σ 6 [(0, kr E l0), (1, .int l1), (2, .int l2), (3, .int l3), (4, .int l4), (5, .int l5)] []) {σ : kdM} {l0 : Nat} {l1 : Int32} {l2 : Int32} {l3 : Int32} {l4 : Int32} {l5 : Int32} (h : X2_worthOf_59 G k6 l0 l1 l2 l3 l4 l5 σ = some (r, σ1)) : SW E G (.inl (some (.int r), σ1)) A 6 σ 59 [(0, kr E l0), (1, .int l1), (2, .int l2), (3, .int l3), (4, .int l4), (5, .int l5)] [] := by
  unfold X2_worthOf_59 at h
  refine r_iincL (L2 := fun t1 => [(5, .int t1), (0, kr E l0), (1, .int l1), (2, .int l2), (3, .int l3), (4, .int l4)]) hX dX2_worthOf_59 h 5 rfl (by decide) (fun _ => rfl) ?_
  clear h; intro t1 h
  refine r_goto (tgt := 6) hX dX2_worthOf_62 (by decide) ?_
  refine r_sub [1, 2, 3, 4, 5, 0] rfl ?_
  exact hk6 _ _ _ _ _ _ _ h
def X2_worthOf_6B (G : kdS) (k6 : Nat → Int32 → Int32 → Int32 → Int32 → Int32 → kdM → Option (Int32 × kdM)) (l0 : Nat) (l1 : Int32) (l2 : Int32) (l3 : Int32) (l4 : Int32) (l5 : Int32) : kdM → Option (Int32 × kdM) :=
  kcv G 2 l0 (X2_learnings G l0) fun t1 =>
  cnd (t1 ≤ l5)
    (rt l4)
    (kcv G 2 l0 (X2_isOf G l0 l5 l1 l2) fun t2 =>
    cnd (t2 = 0)
      (X2_worthOf_59 G k6 l0 l1 l2 l3 l4 l5)
      (gR G 2 2 l0 fun t3 =>
      kcv G 6 t3 (X6_at G t3 l5) fun t4 =>
      cnd (l3 < t4)
        (X2_worthOf_59 G k6 l0 l1 l2 l3 l4 l5)
        (gR G 2 2 l0 fun t5 =>
        kcv G 6 t5 (X6_at G t5 l5) fun t6 =>
        kcv G 2 l0 (X2_faded G l0 (l3 - t6)) fun t7 =>
        ltI ((l4 + t7)) fun t8 =>
        X2_worthOf_59 G k6 l0 l1 l2 l3 t8 l5)))
set_option maxRecDepth 100000 in
set_option maxHeartbeats 4000000 in
theorem wX2_worthOf_6B {E : kdE} {G : kdS} {A : kdA} {r : Int32} {σ1 : kdM} (hX : kdX E A cX2_worthOf 6 RX2 (some .int) 2) (k6 : Nat → Int32 → Int32 → Int32 → Int32 → Int32 → kdM → Option (Int32 × kdM)) (hk6 : ∀ (l0 : Nat) (l1 : Int32) (l2 : Int32) (l3 : Int32) (l4 : Int32) (l5 : Int32) (σ : kdM), k6 l0 l1 l2 l3 l4 l5 σ = some (r, σ1) → SW E G (.inl (some (.int r), σ1)) A 6 σ 6 [(0, kr E l0), (1, .int l1), (2, .int l2), (3, .int l3), (4, .int l4), (5, .int l5)] []) {σ : kdM} {l0 : Nat} {l1 : Int32} {l2 : Int32} {l3 : Int32} {l4 : Int32} {l5 : Int32} (h : X2_worthOf_6B G k6 l0 l1 l2 l3 l4 l5 σ = some (r, σ1)) : SW E G (.inl (some (.int r), σ1)) A 6 σ 6 [(0, kr E l0), (1, .int l1), (2, .int l2), (3, .int l3), (4, .int l4), (5, .int l5)] [] := by
  unfold X2_worthOf_6B at h
  refine r_iload hX dX2_worthOf_6 5 rfl ?_
  refine r_aload_n hX dX2_worthOf_8 rfl 0 rfl ?_
  refine r_cVi (As := []) (st := [.int l5]) hX dX2_worthOf_9 kl_X2_learnings w_ml_X2_48 w_im_X2_learnings w_se_X2_learnings ⟨_, _, rfl⟩ (by decide) rfl (Nat.le_of_ble_eq_true rfl) rfl kdz0 h (fun r σ1 h => wX2_learnings h) ?_
  clear h; intro t1 σ h
  refine r_icmp_ge (tgt := 65) hX dX2_worthOf_12 (by decide) h ?_ ?_
  · clear h; intro h
    refine r_iload hX dX2_worthOf_65 4 rfl ?_
    exact r_iret hX dX2_worthOf_67 h
  · clear h; intro h
    refine r_aload_n hX dX2_worthOf_15 rfl 0 rfl ?_
    refine r_iload hX dX2_worthOf_16 5 rfl ?_
    refine r_iload_n hX dX2_worthOf_18 rfl 1 rfl ?_
    refine r_iload_n hX dX2_worthOf_19 rfl 2 rfl ?_
    refine r_cVi (As := [.int l5, .int l1, .int l2]) (st := []) hX dX2_worthOf_20 kl_X2_isOf w_ml_X2_61 w_im_X2_isOf w_se_X2_isOf ⟨_, _, rfl⟩ (by decide) rfl (Nat.le_of_ble_eq_true rfl) rfl kdz0 h (fun r σ1 h => wX2_isOf h) ?_
    clear h; intro t2 σ h
    refine r_if_eq (tgt := 59) hX dX2_worthOf_23 (by decide) h ?_ ?_
    · clear h; intro h
      refine r_sub [0, 1, 2, 3, 4, 5] rfl ?_
      exact wX2_worthOf_59 hX k6 hk6 h
    · clear h; intro h
      refine r_aload_n hX dX2_worthOf_26 rfl 0 rfl ?_
      refine r_gR hX dX2_worthOf_27 kf_X2_23 rfl h ?_
      clear h; intro t3 h
      refine r_iload hX dX2_worthOf_30 5 rfl ?_
      refine r_cVi (As := [.int l5]) (st := []) hX dX2_worthOf_32 kl_X6_at w_ml_X2_51 w_im_X6_at w_se_X6_at ⟨_, _, rfl⟩ (by decide) rfl (Nat.le_of_ble_eq_true rfl) rfl kdz0 h (fun r σ1 h => wX6_at h) ?_
      clear h; intro t4 σ h
      refine r_iload_n hX dX2_worthOf_35 rfl 3 rfl ?_
      refine r_icmp_gt (tgt := 59) hX dX2_worthOf_36 (by decide) h ?_ ?_
      · clear h; intro h
        refine r_sub [0, 1, 2, 3, 4, 5] rfl ?_
        exact wX2_worthOf_59 hX k6 hk6 h
      · clear h; intro h
        refine r_iload hX dX2_worthOf_39 4 rfl ?_
        refine r_aload_n hX dX2_worthOf_41 rfl 0 rfl ?_
        refine r_iload_n hX dX2_worthOf_42 rfl 3 rfl ?_
        refine r_aload_n hX dX2_worthOf_43 rfl 0 rfl ?_
        refine r_gR hX dX2_worthOf_44 kf_X2_23 rfl h ?_
        clear h; intro t5 h
        refine r_iload hX dX2_worthOf_47 5 rfl ?_
        refine r_cVi (As := [.int l5]) (st := [.int l3, kr E l0, .int l4]) hX dX2_worthOf_49 kl_X6_at w_ml_X2_51 w_im_X6_at w_se_X6_at ⟨_, _, rfl⟩ (by decide) rfl (Nat.le_of_ble_eq_true rfl) rfl kdz0 h (fun r σ1 h => wX6_at h) ?_
        clear h; intro t6 σ h
        refine r_isub hX dX2_worthOf_52 ?_
        refine r_cVi (As := [.int (l3 - t6)]) (st := [.int l4]) hX dX2_worthOf_53 kl_X2_faded w_ml_X2_65 w_im_X2_faded w_se_X2_faded ⟨_, _, rfl⟩ (by decide) rfl (Nat.le_of_ble_eq_true rfl) rfl kdz0 h (fun r σ1 h => wX2_faded h) ?_
        clear h; intro t7 σ h
        refine r_iadd hX dX2_worthOf_56 ?_
        refine r_letI h ?_
        clear h; intro t8 h
        refine r_istore (L2 := [(4, .int t8), (0, kr E l0), (1, .int l1), (2, .int l2), (3, .int l3), (5, .int l5)]) hX dX2_worthOf_57 (by decide) rfl ?_
        refine r_sub [1, 2, 3, 4, 0, 5] rfl ?_
        exact wX2_worthOf_59 hX k6 hk6 h
def X2_worthOf_6 (G : kdS) : Nat → Int32 → Int32 → Int32 → Int32 → Int32 → kdM → Option (Int32 × kdM) := lp (fun _ _ _ _ _ _ _ => none) (X2_worthOf_6B G) NN
theorem wX2_worthOf_6 {E : kdE} {G : kdS} {A : kdA} {r : Int32} {σ1 : kdM} (hX : kdX E A cX2_worthOf 6 RX2 (some .int) 2) : ∀ (l0 : Nat) (l1 : Int32) (l2 : Int32) (l3 : Int32) (l4 : Int32) (l5 : Int32) (σ : kdM), X2_worthOf_6 G l0 l1 l2 l3 l4 l5 σ = some (r, σ1) → SW E G (.inl (some (.int r), σ1)) A 6 σ 6 [(0, kr E l0), (1, .int l1), (2, .int l2), (3, .int l3), (4, .int l4), (5, .int l5)] [] :=
  lp_ind (Q := fun f => ∀ (l0 : Nat) (l1 : Int32) (l2 : Int32) (l3 : Int32) (l4 : Int32) (l5 : Int32) (σ : kdM), f l0 l1 l2 l3 l4 l5 σ = some (r, σ1) → SW E G (.inl (some (.int r), σ1)) A 6 σ 6 [(0, kr E l0), (1, .int l1), (2, .int l2), (3, .int l3), (4, .int l4), (5, .int l5)] []) (by intros; contradiction) (fun k hk l0 l1 l2 l3 l4 l5 σ h => wX2_worthOf_6B hX k hk h) NN
def X2_worthOf (G : kdS) (l0 : Nat) (l1 : Int32) (l2 : Int32) (l3 : Int32) : kdM → Option (Int32 × kdM) :=
  X2_worthOf_6 G l0 l1 l2 l3 (0 : Int32) (0 : Int32)
set_option maxRecDepth 100000 in
set_option maxHeartbeats 4000000 in
theorem wX2_worthOf {E : kdE} {G : kdS} {l0 : Nat} {l1 : Int32} {l2 : Int32} {l3 : Int32} {σ : kdM} {r : Int32} {σ1 : kdM} (h : X2_worthOf G l0 l1 l2 l3 σ = some (r, σ1)) : Con E G yX2_worthOf cX2_worthOf 6 (some .int) 2 [kr E l0, .int l1, .int l2, .int l3] σ (some (.int r), σ1) := by
  refine kd_head (own := RX2) rfl (by decide +kernel) (Nat.le_of_ble_eq_true rfl) (fun A hX => ?_)
  show SW E G (.inl (some (.int r), σ1)) A 6 σ 0 [(0, kr E l0), (1, .int l1), (2, .int l2), (3, .int l3)] []
  unfold X2_worthOf at h
  refine r_iconst hX dX2_worthOf_0 kk_i_0 ?_
  refine r_istore (L2 := [(4, .int (0 : Int32)), (0, kr E l0), (1, .int l1), (2, .int l2), (3, .int l3)]) hX dX2_worthOf_1 (by decide) rfl ?_
  refine r_iconst hX dX2_worthOf_3 kk_i_0 ?_
  refine r_istore (L2 := [(5, .int (0 : Int32)), (4, .int (0 : Int32)), (0, kr E l0), (1, .int l1), (2, .int l2), (3, .int l3)]) hX dX2_worthOf_4 (by decide) rfl ?_
  refine r_sub [2, 3, 4, 5, 1, 0] rfl ?_
  exact wX2_worthOf_6 hX _ _ _ _ _ _ _ h
def X2_dropLearnings_73 (G : kdS) (k10 : Nat → Int32 → Int32 → Int32 → Int32 → kdM → Option (Int32 × kdM)) (l0 : Nat) (l1 : Int32) (l2 : Int32) (l3 : Int32) (l4 : Int32) : kdM → Option (Int32 × kdM) :=
  ltI (l4 + Int32.ofInt (-1)) fun t1 =>
  k10 l0 l1 l2 l3 t1
set_option maxRecDepth 100000 in
set_option maxHeartbeats 4000000 in
theorem wX2_dropLearnings_73 {E : kdE} {G : kdS} {A : kdA} {r : Int32} {σ1 : kdM} (hX : kdX E A cX2_dropLearnings 5 RX2 (some .int) 2) (k10 : Nat → Int32 → Int32 → Int32 → Int32 → kdM → Option (Int32 × kdM)) (hk10 : ∀ (l0 : Nat) (l1 : Int32) (l2 : Int32) (l3 : Int32) (l4 : Int32) (σ : kdM), k10 l0 l1 l2 l3 l4 σ = some (r, σ1) → SW E G (.inl (some (.int r), σ1)) A 5 σ 10 [(0, kr E l0), (1, .int l1), (2, .int l2), (3, .int l3), (4, .int l4)] []) {σ : kdM} {l0 : Nat} {l1 : Int32} {l2 : Int32} {l3 : Int32} {l4 : Int32} (h : X2_dropLearnings_73 G k10 l0 l1 l2 l3 l4 σ = some (r, σ1)) : SW E G (.inl (some (.int r), σ1)) A 5 σ 73 [(0, kr E l0), (1, .int l1), (2, .int l2), (3, .int l3), (4, .int l4)] [] := by
  unfold X2_dropLearnings_73 at h
  refine r_iincL (L2 := fun t1 => [(4, .int t1), (0, kr E l0), (1, .int l1), (2, .int l2), (3, .int l3)]) hX dX2_dropLearnings_73 h 4 rfl (by decide) (fun _ => rfl) ?_
  clear h; intro t1 h
  refine r_goto (tgt := 10) hX dX2_dropLearnings_76 (by decide) ?_
  refine r_sub [1, 2, 3, 4, 0] rfl ?_
  exact hk10 _ _ _ _ _ _ h
def X2_dropLearnings_37 (G : kdS) (k10 : Nat → Int32 → Int32 → Int32 → Int32 → kdM → Option (Int32 × kdM)) (l0 : Nat) (l1 : Int32) (l2 : Int32) (l3 : Int32) (l4 : Int32) (s0 : Nat) (s1 : Int32) (s2 : Int32) (s3 : Int32) : kdM → Option (Int32 × kdM) :=
  kcv G 2 s0 (X2_isOf G s0 s1 s2 s3) fun t1 =>
  cnd (t1 = 0)
    (X2_dropLearnings_73 G k10 l0 l1 l2 l3 l4)
    (gR G 2 0 l0 fun t2 =>
    kcv G 6 t2 (X6_remove G t2 l4) fun t3 =>
    gR G 2 1 l0 fun t4 =>
    kcv G 6 t4 (X6_remove G t4 l4) fun t5 =>
    gR G 2 2 l0 fun t6 =>
    kcv G 6 t6 (X6_remove G t6 l4) fun t7 =>
    X2_dropLearnings_73 G k10 l0 l1 l2 l3 l4)
set_option maxRecDepth 100000 in
set_option maxHeartbeats 4000000 in
theorem wX2_dropLearnings_37 {E : kdE} {G : kdS} {A : kdA} {r : Int32} {σ1 : kdM} (hX : kdX E A cX2_dropLearnings 5 RX2 (some .int) 2) (k10 : Nat → Int32 → Int32 → Int32 → Int32 → kdM → Option (Int32 × kdM)) (hk10 : ∀ (l0 : Nat) (l1 : Int32) (l2 : Int32) (l3 : Int32) (l4 : Int32) (σ : kdM), k10 l0 l1 l2 l3 l4 σ = some (r, σ1) → SW E G (.inl (some (.int r), σ1)) A 5 σ 10 [(0, kr E l0), (1, .int l1), (2, .int l2), (3, .int l3), (4, .int l4)] []) {σ : kdM} {l0 : Nat} {l1 : Int32} {l2 : Int32} {l3 : Int32} {l4 : Int32} {s0 : Nat} {s1 : Int32} {s2 : Int32} {s3 : Int32} (h : X2_dropLearnings_37 G k10 l0 l1 l2 l3 l4 s0 s1 s2 s3 σ = some (r, σ1)) : SW E G (.inl (some (.int r), σ1)) A 5 σ 37 [(0, kr E l0), (1, .int l1), (2, .int l2), (3, .int l3), (4, .int l4)] [.int s3, .int s2, .int s1, kr E s0] := by
  unfold X2_dropLearnings_37 at h
  refine r_cVi (As := [.int s1, .int s2, .int s3]) (st := []) hX dX2_dropLearnings_37 kl_X2_isOf w_ml_X2_61 w_im_X2_isOf w_se_X2_isOf ⟨_, _, rfl⟩ (by decide) rfl (Nat.le_of_ble_eq_true rfl) rfl kdz0 h (fun r σ1 h => wX2_isOf h) ?_
  clear h; intro t1 σ h
  refine r_if_eq (tgt := 73) hX dX2_dropLearnings_40 (by decide) h ?_ ?_
  · clear h; intro h
    refine r_sub [0, 1, 2, 3, 4] rfl ?_
    exact wX2_dropLearnings_73 hX k10 hk10 h
  · clear h; intro h
    refine r_aload_n hX dX2_dropLearnings_43 rfl 0 rfl ?_
    refine r_gR hX dX2_dropLearnings_44 kf_X2_14 rfl h ?_
    clear h; intro t2 h
    refine r_iload hX dX2_dropLearnings_47 4 rfl ?_
    refine r_cVi (As := [.int l4]) (st := []) hX dX2_dropLearnings_49 kl_X6_remove w_ml_X2_68 w_im_X6_remove w_se_X6_remove ⟨_, _, rfl⟩ (by decide) rfl (Nat.le_of_ble_eq_true rfl) rfl kdz0 h (fun r σ1 h => wX6_remove h) ?_
    clear h; intro t3 σ h
    refine r_pop hX dX2_dropLearnings_52 rfl ?_
    refine r_aload_n hX dX2_dropLearnings_53 rfl 0 rfl ?_
    refine r_gR hX dX2_dropLearnings_54 kf_X2_20 rfl h ?_
    clear h; intro t4 h
    refine r_iload hX dX2_dropLearnings_57 4 rfl ?_
    refine r_cVi (As := [.int l4]) (st := []) hX dX2_dropLearnings_59 kl_X6_remove w_ml_X2_68 w_im_X6_remove w_se_X6_remove ⟨_, _, rfl⟩ (by decide) rfl (Nat.le_of_ble_eq_true rfl) rfl kdz0 h (fun r σ1 h => wX6_remove h) ?_
    clear h; intro t5 σ h
    refine r_pop hX dX2_dropLearnings_62 rfl ?_
    refine r_aload_n hX dX2_dropLearnings_63 rfl 0 rfl ?_
    refine r_gR hX dX2_dropLearnings_64 kf_X2_23 rfl h ?_
    clear h; intro t6 h
    refine r_iload hX dX2_dropLearnings_67 4 rfl ?_
    refine r_cVi (As := [.int l4]) (st := []) hX dX2_dropLearnings_69 kl_X6_remove w_ml_X2_68 w_im_X6_remove w_se_X6_remove ⟨_, _, rfl⟩ (by decide) rfl (Nat.le_of_ble_eq_true rfl) rfl kdz0 h (fun r σ1 h => wX6_remove h) ?_
    clear h; intro t7 σ h
    refine r_pop hX dX2_dropLearnings_72 rfl ?_
    refine r_sub [0, 1, 2, 3, 4] rfl ?_
    exact wX2_dropLearnings_73 hX k10 hk10 h
def X2_dropLearnings_10B (G : kdS) (k10 : Nat → Int32 → Int32 → Int32 → Int32 → kdM → Option (Int32 × kdM)) (l0 : Nat) (l1 : Int32) (l2 : Int32) (l3 : Int32) (l4 : Int32) : kdM → Option (Int32 × kdM) :=
  cnd (l4 < 0)
    (kcv G 2 l0 (X2_learnings G l0) fun t1 =>
    rt (l3 - t1))
    (cnd (l2 = (-1 : Int32))
      (gR G 2 1 l0 fun t2 =>
      kcv G 6 t2 (X6_at G t2 l4) fun t3 =>
      X2_dropLearnings_37 G k10 l0 l1 l2 l3 l4 l0 l4 l1 t3)
      (X2_dropLearnings_37 G k10 l0 l1 l2 l3 l4 l0 l4 l1 l2))
set_option maxRecDepth 100000 in
set_option maxHeartbeats 4000000 in
theorem wX2_dropLearnings_10B {E : kdE} {G : kdS} {A : kdA} {r : Int32} {σ1 : kdM} (hX : kdX E A cX2_dropLearnings 5 RX2 (some .int) 2) (k10 : Nat → Int32 → Int32 → Int32 → Int32 → kdM → Option (Int32 × kdM)) (hk10 : ∀ (l0 : Nat) (l1 : Int32) (l2 : Int32) (l3 : Int32) (l4 : Int32) (σ : kdM), k10 l0 l1 l2 l3 l4 σ = some (r, σ1) → SW E G (.inl (some (.int r), σ1)) A 5 σ 10 [(0, kr E l0), (1, .int l1), (2, .int l2), (3, .int l3), (4, .int l4)] []) {σ : kdM} {l0 : Nat} {l1 : Int32} {l2 : Int32} {l3 : Int32} {l4 : Int32} (h : X2_dropLearnings_10B G k10 l0 l1 l2 l3 l4 σ = some (r, σ1)) : SW E G (.inl (some (.int r), σ1)) A 5 σ 10 [(0, kr E l0), (1, .int l1), (2, .int l2), (3, .int l3), (4, .int l4)] [] := by
  unfold X2_dropLearnings_10B at h
  refine r_iload hX dX2_dropLearnings_10 4 rfl ?_
  refine r_if_lt (tgt := 79) hX dX2_dropLearnings_12 (by decide) h ?_ ?_
  · clear h; intro h
    refine r_iload_n hX dX2_dropLearnings_79 rfl 3 rfl ?_
    refine r_aload_n hX dX2_dropLearnings_80 rfl 0 rfl ?_
    refine r_cVi (As := []) (st := [.int l3]) hX dX2_dropLearnings_81 kl_X2_learnings w_ml_X2_48 w_im_X2_learnings w_se_X2_learnings ⟨_, _, rfl⟩ (by decide) rfl (Nat.le_of_ble_eq_true rfl) rfl kdz0 h (fun r σ1 h => wX2_learnings h) ?_
    clear h; intro t1 σ h
    refine r_isub hX dX2_dropLearnings_84 ?_
    exact r_iret hX dX2_dropLearnings_85 h
  · clear h; intro h
    refine r_aload_n hX dX2_dropLearnings_15 rfl 0 rfl ?_
    refine r_iload hX dX2_dropLearnings_16 4 rfl ?_
    refine r_iload_n hX dX2_dropLearnings_18 rfl 1 rfl ?_
    refine r_iload_n hX dX2_dropLearnings_19 rfl 2 rfl ?_
    refine r_iconst hX dX2_dropLearnings_20 kk_i_m1 ?_
    refine r_icmp_ne (tgt := 36) hX dX2_dropLearnings_21 (by decide) h ?_ ?_
    · clear h; intro h
      refine r_aload_n hX dX2_dropLearnings_24 rfl 0 rfl ?_
      refine r_gR hX dX2_dropLearnings_25 kf_X2_20 rfl h ?_
      clear h; intro t2 h
      refine r_iload hX dX2_dropLearnings_28 4 rfl ?_
      refine r_cVi (As := [.int l4]) (st := [.int l1, .int l4, kr E l0]) hX dX2_dropLearnings_30 kl_X6_at w_ml_X2_51 w_im_X6_at w_se_X6_at ⟨_, _, rfl⟩ (by decide) rfl (Nat.le_of_ble_eq_true rfl) rfl kdz0 h (fun r σ1 h => wX6_at h) ?_
      clear h; intro t3 σ h
      refine r_goto (tgt := 37) hX dX2_dropLearnings_33 (by decide) ?_
      refine r_sub [0, 1, 2, 3, 4] rfl ?_
      exact wX2_dropLearnings_37 hX k10 hk10 h
    · clear h; intro h
      refine r_iload_n hX dX2_dropLearnings_36 rfl 2 rfl ?_
      refine r_sub [0, 1, 2, 3, 4] rfl ?_
      exact wX2_dropLearnings_37 hX k10 hk10 h
def X2_dropLearnings_10 (G : kdS) : Nat → Int32 → Int32 → Int32 → Int32 → kdM → Option (Int32 × kdM) := lp (fun _ _ _ _ _ _ => none) (X2_dropLearnings_10B G) NN
theorem wX2_dropLearnings_10 {E : kdE} {G : kdS} {A : kdA} {r : Int32} {σ1 : kdM} (hX : kdX E A cX2_dropLearnings 5 RX2 (some .int) 2) : ∀ (l0 : Nat) (l1 : Int32) (l2 : Int32) (l3 : Int32) (l4 : Int32) (σ : kdM), X2_dropLearnings_10 G l0 l1 l2 l3 l4 σ = some (r, σ1) → SW E G (.inl (some (.int r), σ1)) A 5 σ 10 [(0, kr E l0), (1, .int l1), (2, .int l2), (3, .int l3), (4, .int l4)] [] :=
  lp_ind (Q := fun f => ∀ (l0 : Nat) (l1 : Int32) (l2 : Int32) (l3 : Int32) (l4 : Int32) (σ : kdM), f l0 l1 l2 l3 l4 σ = some (r, σ1) → SW E G (.inl (some (.int r), σ1)) A 5 σ 10 [(0, kr E l0), (1, .int l1), (2, .int l2), (3, .int l3), (4, .int l4)] []) (by intros; contradiction) (fun k hk l0 l1 l2 l3 l4 σ h => wX2_dropLearnings_10B hX k hk h) NN
def X2_dropLearnings (G : kdS) (l0 : Nat) (l1 : Int32) (l2 : Int32) : kdM → Option (Int32 × kdM) :=
  kcv G 2 l0 (X2_learnings G l0) fun t1 =>
  ltI ((t1 - (1 : Int32))) fun t2 =>
  X2_dropLearnings_10 G l0 l1 l2 t1 t2
set_option maxRecDepth 100000 in
set_option maxHeartbeats 4000000 in
theorem wX2_dropLearnings {E : kdE} {G : kdS} {l0 : Nat} {l1 : Int32} {l2 : Int32} {σ : kdM} {r : Int32} {σ1 : kdM} (h : X2_dropLearnings G l0 l1 l2 σ = some (r, σ1)) : Con E G yX2_dropLearnings cX2_dropLearnings 5 (some .int) 2 [kr E l0, .int l1, .int l2] σ (some (.int r), σ1) := by
  refine kd_head (own := RX2) rfl (by decide +kernel) (Nat.le_of_ble_eq_true rfl) (fun A hX => ?_)
  show SW E G (.inl (some (.int r), σ1)) A 5 σ 0 [(0, kr E l0), (1, .int l1), (2, .int l2)] []
  unfold X2_dropLearnings at h
  refine r_aload_n hX dX2_dropLearnings_0 rfl 0 rfl ?_
  refine r_cVi (As := []) (st := []) hX dX2_dropLearnings_1 kl_X2_learnings w_ml_X2_48 w_im_X2_learnings w_se_X2_learnings ⟨_, _, rfl⟩ (by decide) rfl (Nat.le_of_ble_eq_true rfl) rfl kdz0 h (fun r σ1 h => wX2_learnings h) ?_
  clear h; intro t1 σ h
  refine r_istore_n (L2 := [(3, .int t1), (0, kr E l0), (1, .int l1), (2, .int l2)]) hX dX2_dropLearnings_4 rfl (by decide) rfl ?_
  refine r_iload_n hX dX2_dropLearnings_5 rfl 0 rfl ?_
  refine r_iconst hX dX2_dropLearnings_6 kk_i_1 ?_
  refine r_isub hX dX2_dropLearnings_7 ?_
  refine r_letI h ?_
  clear h; intro t2 h
  refine r_istore (L2 := [(4, .int t2), (3, .int t1), (0, kr E l0), (1, .int l1), (2, .int l2)]) hX dX2_dropLearnings_8 (by decide) rfl ?_
  refine r_sub [2, 3, 4, 1, 0] rfl ?_
  exact wX2_dropLearnings_10 hX _ _ _ _ _ _ h
def X2_setFade (G : kdS) (l0 : Nat) (l1 : Int32) : kdM → Option (Int32 × kdM) :=
  gI G 2 4 l0 fun t1 =>
  sI G 2 4 l0 (l1) <|
  rt t1
set_option maxRecDepth 100000 in
set_option maxHeartbeats 4000000 in
theorem wX2_setFade {E : kdE} {G : kdS} {l0 : Nat} {l1 : Int32} {σ : kdM} {r : Int32} {σ1 : kdM} (h : X2_setFade G l0 l1 σ = some (r, σ1)) : Con E G yX2_setFade cX2_setFade 3 (some .int) 0 [kr E l0, .int l1] σ (some (.int r), σ1) := by
  refine kd_head (own := RX2) rfl (by decide +kernel) (Nat.le_of_ble_eq_true rfl) (fun A hX => ?_)
  show SW E G (.inl (some (.int r), σ1)) A 3 σ 0 [(0, kr E l0), (1, .int l1)] []
  unfold X2_setFade at h
  refine r_aload_n hX dX2_setFade_0 rfl 0 rfl ?_
  refine r_gI hX dX2_setFade_1 kf_X2_30 rfl h ?_
  clear h; intro t1 h
  refine r_istore_n (L2 := [(2, .int t1), (0, kr E l0), (1, .int l1)]) hX dX2_setFade_4 rfl (by decide) rfl ?_
  refine r_aload_n hX dX2_setFade_5 rfl 1 rfl ?_
  refine r_iload_n hX dX2_setFade_6 rfl 2 rfl ?_
  refine r_sI hX dX2_setFade_7 kf_X2_30 rfl (by intro q hq; cases hq; rfl) h ?_
  clear h; intro σ h
  refine r_iload_n hX dX2_setFade_10 rfl 0 rfl ?_
  exact r_iret hX dX2_setFade_11 h
def X2_budgetOf (G : kdS) (l0 : Nat) (l1 : Int32) : kdM → Option (Int32 × kdM) :=
  gR G 2 3 l0 fun t1 =>
  aI G t1 (l1) fun t2 =>
  rt t2
set_option maxRecDepth 100000 in
set_option maxHeartbeats 4000000 in
theorem wX2_budgetOf {E : kdE} {G : kdS} {l0 : Nat} {l1 : Int32} {σ : kdM} {r : Int32} {σ1 : kdM} (h : X2_budgetOf G l0 l1 σ = some (r, σ1)) : Con E G yX2_budgetOf cX2_budgetOf 2 (some .int) 0 [kr E l0, .int l1] σ (some (.int r), σ1) := by
  refine kd_head (own := RX2) rfl (by decide +kernel) (Nat.le_of_ble_eq_true rfl) (fun A hX => ?_)
  show SW E G (.inl (some (.int r), σ1)) A 2 σ 0 [(0, kr E l0), (1, .int l1)] []
  unfold X2_budgetOf at h
  refine r_aload_n hX dX2_budgetOf_0 rfl 0 rfl ?_
  refine r_gR hX dX2_budgetOf_1 kf_X2_26 rfl h ?_
  clear h; intro t1 h
  refine r_iload_n hX dX2_budgetOf_4 rfl 1 rfl ?_
  refine r_aI hX dX2_budgetOf_5 h ?_
  clear h; intro t2 h
  exact r_iret hX dX2_budgetOf_6 h
def X2_setBudget (G : kdS) (l0 : Nat) (l1 : Int32) (l2 : Int32) : kdM → Option (Int32 × kdM) :=
  gR G 2 3 l0 fun t1 =>
  aI G t1 (l1) fun t2 =>
  gR G 2 3 l0 fun t3 =>
  tI G t3 (l1) (l2) <|
  rt t2
set_option maxRecDepth 100000 in
set_option maxHeartbeats 4000000 in
theorem wX2_setBudget {E : kdE} {G : kdS} {l0 : Nat} {l1 : Int32} {l2 : Int32} {σ : kdM} {r : Int32} {σ1 : kdM} (h : X2_setBudget G l0 l1 l2 σ = some (r, σ1)) : Con E G yX2_setBudget cX2_setBudget 4 (some .int) 0 [kr E l0, .int l1, .int l2] σ (some (.int r), σ1) := by
  refine kd_head (own := RX2) rfl (by decide +kernel) (Nat.le_of_ble_eq_true rfl) (fun A hX => ?_)
  show SW E G (.inl (some (.int r), σ1)) A 4 σ 0 [(0, kr E l0), (1, .int l1), (2, .int l2)] []
  unfold X2_setBudget at h
  refine r_aload_n hX dX2_setBudget_0 rfl 0 rfl ?_
  refine r_gR hX dX2_setBudget_1 kf_X2_26 rfl h ?_
  clear h; intro t1 h
  refine r_iload_n hX dX2_setBudget_4 rfl 1 rfl ?_
  refine r_aI hX dX2_setBudget_5 h ?_
  clear h; intro t2 h
  refine r_istore_n (L2 := [(3, .int t2), (0, kr E l0), (1, .int l1), (2, .int l2)]) hX dX2_setBudget_6 rfl (by decide) rfl ?_
  refine r_aload_n hX dX2_setBudget_7 rfl 1 rfl ?_
  refine r_gR hX dX2_setBudget_8 kf_X2_26 rfl h ?_
  clear h; intro t3 h
  refine r_iload_n hX dX2_setBudget_11 rfl 2 rfl ?_
  refine r_iload_n hX dX2_setBudget_12 rfl 3 rfl ?_
  refine r_tI hX dX2_setBudget_13 h ?_
  clear h; intro σ h
  refine r_iload_n hX dX2_setBudget_14 rfl 0 rfl ?_
  exact r_iret hX dX2_setBudget_15 h
def X2_setSeed (G : kdS) (l0 : Nat) (l1 : Int32) : kdM → Option (Int32 × kdM) :=
  gI G 2 5 l0 fun t1 =>
  sI G 2 5 l0 (l1) <|
  rt t1
set_option maxRecDepth 100000 in
set_option maxHeartbeats 4000000 in
theorem wX2_setSeed {E : kdE} {G : kdS} {l0 : Nat} {l1 : Int32} {σ : kdM} {r : Int32} {σ1 : kdM} (h : X2_setSeed G l0 l1 σ = some (r, σ1)) : Con E G yX2_setSeed cX2_setSeed 3 (some .int) 0 [kr E l0, .int l1] σ (some (.int r), σ1) := by
  refine kd_head (own := RX2) rfl (by decide +kernel) (Nat.le_of_ble_eq_true rfl) (fun A hX => ?_)
  show SW E G (.inl (some (.int r), σ1)) A 3 σ 0 [(0, kr E l0), (1, .int l1)] []
  unfold X2_setSeed at h
  refine r_aload_n hX dX2_setSeed_0 rfl 0 rfl ?_
  refine r_gI hX dX2_setSeed_1 kf_X2_34 rfl h ?_
  clear h; intro t1 h
  refine r_istore_n (L2 := [(2, .int t1), (0, kr E l0), (1, .int l1)]) hX dX2_setSeed_4 rfl (by decide) rfl ?_
  refine r_aload_n hX dX2_setSeed_5 rfl 1 rfl ?_
  refine r_iload_n hX dX2_setSeed_6 rfl 2 rfl ?_
  refine r_sI hX dX2_setSeed_7 kf_X2_34 rfl (by intro q hq; cases hq; rfl) h ?_
  clear h; intro σ h
  refine r_iload_n hX dX2_setSeed_10 rfl 0 rfl ?_
  exact r_iret hX dX2_setSeed_11 h
def X2_givers_25 (G : kdS) (k4 : Nat → Int32 → Int32 → Int32 → kdM → Option (Int32 × kdM)) (l0 : Nat) (l1 : Int32) (l3 : Int32) (s0 : Int32) (s1 : Int32) : kdM → Option (Int32 × kdM) :=
  ltI ((s0 + s1)) fun t1 =>
  ltI (l3 + Int32.ofInt 1) fun t2 =>
  k4 l0 l1 t1 t2
set_option maxRecDepth 100000 in
set_option maxHeartbeats 4000000 in
theorem wX2_givers_25 {E : kdE} {G : kdS} {A : kdA} {r : Int32} {σ1 : kdM} (hX : kdX E A cX2_givers 4 RX2 (some .int) 0) (k4 : Nat → Int32 → Int32 → Int32 → kdM → Option (Int32 × kdM)) (hk4 : ∀ (l0 : Nat) (l1 : Int32) (l2 : Int32) (l3 : Int32) (σ : kdM), k4 l0 l1 l2 l3 σ = some (r, σ1) → SW E G (.inl (some (.int r), σ1)) A 4 σ 4 [(0, kr E l0), (1, .int l1), (2, .int l2), (3, .int l3)] []) {σ : kdM} {l0 : Nat} {l1 : Int32} {l3 : Int32} {s0 : Int32} {s1 : Int32} (h : X2_givers_25 G k4 l0 l1 l3 s0 s1 σ = some (r, σ1)) : SW E G (.inl (some (.int r), σ1)) A 4 σ 25 [(0, kr E l0), (1, .int l1), (3, .int l3)] [.int s1, .int s0] := by
  unfold X2_givers_25 at h
  refine r_iadd hX dX2_givers_25 ?_
  refine r_letI h ?_
  clear h; intro t1 h
  refine r_istore_n (L2 := [(2, .int t1), (0, kr E l0), (1, .int l1), (3, .int l3)]) hX dX2_givers_26 rfl (by decide) rfl ?_
  refine r_iincL (L2 := fun t2 => [(3, .int t2), (2, .int t1), (0, kr E l0), (1, .int l1)]) hX dX2_givers_27 h 3 rfl (by decide) (fun _ => rfl) ?_
  clear h; intro t2 h
  refine r_goto (tgt := 4) hX dX2_givers_30 (by decide) ?_
  refine r_sub [2, 3, 1, 0] rfl ?_
  exact hk4 _ _ _ _ _ h
def X2_givers_4B (G : kdS) (k4 : Nat → Int32 → Int32 → Int32 → kdM → Option (Int32 × kdM)) (l0 : Nat) (l1 : Int32) (l2 : Int32) (l3 : Int32) : kdM → Option (Int32 × kdM) :=
  cnd ((4 : Int32) ≤ l3)
    (rt l2)
    (gR G 2 3 l0 fun t1 =>
    aI G t1 (l3) fun t2 =>
    cnd (t2 < l1)
      (X2_givers_25 G k4 l0 l1 l3 l2 (0 : Int32))
      (X2_givers_25 G k4 l0 l1 l3 l2 (1 : Int32)))
set_option maxRecDepth 100000 in
set_option maxHeartbeats 4000000 in
theorem wX2_givers_4B {E : kdE} {G : kdS} {A : kdA} {r : Int32} {σ1 : kdM} (hX : kdX E A cX2_givers 4 RX2 (some .int) 0) (k4 : Nat → Int32 → Int32 → Int32 → kdM → Option (Int32 × kdM)) (hk4 : ∀ (l0 : Nat) (l1 : Int32) (l2 : Int32) (l3 : Int32) (σ : kdM), k4 l0 l1 l2 l3 σ = some (r, σ1) → SW E G (.inl (some (.int r), σ1)) A 4 σ 4 [(0, kr E l0), (1, .int l1), (2, .int l2), (3, .int l3)] []) {σ : kdM} {l0 : Nat} {l1 : Int32} {l2 : Int32} {l3 : Int32} (h : X2_givers_4B G k4 l0 l1 l2 l3 σ = some (r, σ1)) : SW E G (.inl (some (.int r), σ1)) A 4 σ 4 [(0, kr E l0), (1, .int l1), (2, .int l2), (3, .int l3)] [] := by
  unfold X2_givers_4B at h
  refine r_iload_n hX dX2_givers_4 rfl 3 rfl ?_
  refine r_iconst hX dX2_givers_5 kk_i_4 ?_
  refine r_icmp_ge (tgt := 33) hX dX2_givers_6 (by decide) h ?_ ?_
  · clear h; intro h
    refine r_iload_n hX dX2_givers_33 rfl 2 rfl ?_
    exact r_iret hX dX2_givers_34 h
  · clear h; intro h
    refine r_iload_n hX dX2_givers_9 rfl 2 rfl ?_
    refine r_aload_n hX dX2_givers_10 rfl 0 rfl ?_
    refine r_gR hX dX2_givers_11 kf_X2_26 rfl h ?_
    clear h; intro t1 h
    refine r_iload_n hX dX2_givers_14 rfl 3 rfl ?_
    refine r_aI hX dX2_givers_15 h ?_
    clear h; intro t2 h
    refine r_iload_n hX dX2_givers_16 rfl 1 rfl ?_
    refine r_icmp_lt (tgt := 24) hX dX2_givers_17 (by decide) h ?_ ?_
    · clear h; intro h
      refine r_iconst hX dX2_givers_24 kk_i_0 ?_
      refine r_sub [0, 1, 3] rfl ?_
      exact wX2_givers_25 hX k4 hk4 h
    · clear h; intro h
      refine r_iconst hX dX2_givers_20 kk_i_1 ?_
      refine r_goto (tgt := 25) hX dX2_givers_21 (by decide) ?_
      refine r_sub [0, 1, 3] rfl ?_
      exact wX2_givers_25 hX k4 hk4 h
def X2_givers_4 (G : kdS) : Nat → Int32 → Int32 → Int32 → kdM → Option (Int32 × kdM) := lp (fun _ _ _ _ _ => none) (X2_givers_4B G) NN
theorem wX2_givers_4 {E : kdE} {G : kdS} {A : kdA} {r : Int32} {σ1 : kdM} (hX : kdX E A cX2_givers 4 RX2 (some .int) 0) : ∀ (l0 : Nat) (l1 : Int32) (l2 : Int32) (l3 : Int32) (σ : kdM), X2_givers_4 G l0 l1 l2 l3 σ = some (r, σ1) → SW E G (.inl (some (.int r), σ1)) A 4 σ 4 [(0, kr E l0), (1, .int l1), (2, .int l2), (3, .int l3)] [] :=
  lp_ind (Q := fun f => ∀ (l0 : Nat) (l1 : Int32) (l2 : Int32) (l3 : Int32) (σ : kdM), f l0 l1 l2 l3 σ = some (r, σ1) → SW E G (.inl (some (.int r), σ1)) A 4 σ 4 [(0, kr E l0), (1, .int l1), (2, .int l2), (3, .int l3)] []) (by intros; contradiction) (fun k hk l0 l1 l2 l3 σ h => wX2_givers_4B hX k hk h) NN
def X2_givers (G : kdS) (l0 : Nat) (l1 : Int32) : kdM → Option (Int32 × kdM) :=
  X2_givers_4 G l0 l1 (0 : Int32) (0 : Int32)
set_option maxRecDepth 100000 in
set_option maxHeartbeats 4000000 in
theorem wX2_givers {E : kdE} {G : kdS} {l0 : Nat} {l1 : Int32} {σ : kdM} {r : Int32} {σ1 : kdM} (h : X2_givers G l0 l1 σ = some (r, σ1)) : Con E G yX2_givers cX2_givers 4 (some .int) 0 [kr E l0, .int l1] σ (some (.int r), σ1) := by
  refine kd_head (own := RX2) rfl (by decide +kernel) (Nat.le_of_ble_eq_true rfl) (fun A hX => ?_)
  show SW E G (.inl (some (.int r), σ1)) A 4 σ 0 [(0, kr E l0), (1, .int l1)] []
  unfold X2_givers at h
  refine r_iconst hX dX2_givers_0 kk_i_0 ?_
  refine r_istore_n (L2 := [(2, .int (0 : Int32)), (0, kr E l0), (1, .int l1)]) hX dX2_givers_1 rfl (by decide) rfl ?_
  refine r_iconst hX dX2_givers_2 kk_i_0 ?_
  refine r_istore_n (L2 := [(3, .int (0 : Int32)), (2, .int (0 : Int32)), (0, kr E l0), (1, .int l1)]) hX dX2_givers_3 rfl (by decide) rfl ?_
  refine r_sub [2, 3, 1, 0] rfl ?_
  exact wX2_givers_4 hX _ _ _ _ _ h
def X2_drawLot (G : kdS) (l0 : Nat) (l1 : Int32) : kdM → Option (Int32 × kdM) :=
  gI G 2 5 l0 fun t1 =>
  nzL (2147483647 : Int64) <|
  sI G 2 5 l0 ((Int64.toInt32 (kremL ((Int32.toInt64 t1) * (16807 : Int64)) (2147483647 : Int64)))) <|
  gI G 2 5 l0 fun t2 =>
  nz (2001 : Int32) <|
  nz (kmax l1 (1 : Int32)) <|
  rt ((((krem t2 (2001 : Int32)) - (1000 : Int32)) * (100 : Int32)) / (kmax l1 (1 : Int32)))
set_option maxRecDepth 100000 in
set_option maxHeartbeats 4000000 in
theorem wX2_drawLot {E : kdE} {G : kdS} {l0 : Nat} {l1 : Int32} {σ : kdM} {r : Int32} {σ1 : kdM} (h : X2_drawLot G l0 l1 σ = some (r, σ1)) : Con E G yX2_drawLot cX2_drawLot 2 (some .int) 1 [kr E l0, .int l1] σ (some (.int r), σ1) := by
  refine kd_head (own := RX2) rfl (by decide +kernel) (Nat.le_of_ble_eq_true rfl) (fun A hX => ?_)
  show SW E G (.inl (some (.int r), σ1)) A 2 σ 0 [(0, kr E l0), (1, .int l1)] []
  unfold X2_drawLot at h
  refine r_aload_n hX dX2_drawLot_0 rfl 0 rfl ?_
  refine r_aload_n hX dX2_drawLot_1 rfl 0 rfl ?_
  refine r_gI hX dX2_drawLot_2 kf_X2_34 rfl h ?_
  clear h; intro t1 h
  refine r_i2l hX dX2_drawLot_5 ?_
  refine r_ldc2_w hX dX2_drawLot_6 w_cl_X2_81 ?_
  refine r_lmul hX dX2_drawLot_9 ?_
  refine r_ldc2_w hX dX2_drawLot_10 w_cl_X2_83 ?_
  refine r_lrem hX dX2_drawLot_13 h ?_
  clear h; intro h
  refine r_l2i hX dX2_drawLot_14 ?_
  refine r_sI hX dX2_drawLot_15 kf_X2_34 rfl (by intro q hq; cases hq; rfl) h ?_
  clear h; intro σ h
  refine r_aload_n hX dX2_drawLot_18 rfl 0 rfl ?_
  refine r_gI hX dX2_drawLot_19 kf_X2_34 rfl h ?_
  clear h; intro t2 h
  refine r_sipush hX dX2_drawLot_22 kk_s_2001 ?_
  refine r_irem hX dX2_drawLot_25 h ?_
  clear h; intro h
  refine r_sipush hX dX2_drawLot_26 kk_s_1000 ?_
  refine r_isub hX dX2_drawLot_29 ?_
  refine r_bipush hX dX2_drawLot_30 kk_b_100 ?_
  refine r_imul hX dX2_drawLot_32 ?_
  refine r_iload_n hX dX2_drawLot_33 rfl 1 rfl ?_
  refine r_iconst hX dX2_drawLot_34 kk_i_1 ?_
  refine r_mmax hX dX2_drawLot_35 w_ml_X2_55 w_st_Math_max w_in_Math w_cd_Math_max (by decide) (Nat.le_of_ble_eq_true rfl) kdz0 ?_
  refine r_idiv hX dX2_drawLot_38 h ?_
  clear h; intro h
  exact r_iret hX dX2_drawLot_39 h
def X2_sumWithLot_53 (G : kdS) (k6 : Nat → Int32 → Int32 → Int32 → Int32 → Int32 → kdM → Option (Int32 × kdM)) (l0 : Nat) (l1 : Int32) (l2 : Int32) (l3 : Int32) (l4 : Int32) (l5 : Int32) : kdM → Option (Int32 × kdM) :=
  ltI (l5 + Int32.ofInt 1) fun t1 =>
  k6 l0 l1 l2 l3 l4 t1
set_option maxRecDepth 100000 in
set_option maxHeartbeats 4000000 in
theorem wX2_sumWithLot_53 {E : kdE} {G : kdS} {A : kdA} {r : Int32} {σ1 : kdM} (hX : kdX E A cX2_sumWithLot 6 RX2 (some .int) 3) (k6 : Nat → Int32 → Int32 → Int32 → Int32 → Int32 → kdM → Option (Int32 × kdM)) (hk6 : ∀ (l0 : Nat) (l1 : Int32) (l2 : Int32) (l3 : Int32) (l4 : Int32) (l5 : Int32) (σ : kdM), k6 l0 l1 l2 l3 l4 l5 σ = some (r, σ1) → SW E G (.inl (some (.int r), σ1)) A 6 σ 6 [(0, kr E l0), (1, .int l1), (2, .int l2), (3, .int l3), (4, .int l4), (5, .int l5)] []) {σ : kdM} {l0 : Nat} {l1 : Int32} {l2 : Int32} {l3 : Int32} {l4 : Int32} {l5 : Int32} (h : X2_sumWithLot_53 G k6 l0 l1 l2 l3 l4 l5 σ = some (r, σ1)) : SW E G (.inl (some (.int r), σ1)) A 6 σ 53 [(0, kr E l0), (1, .int l1), (2, .int l2), (3, .int l3), (4, .int l4), (5, .int l5)] [] := by
  unfold X2_sumWithLot_53 at h
  refine r_iincL (L2 := fun t1 => [(5, .int t1), (0, kr E l0), (1, .int l1), (2, .int l2), (3, .int l3), (4, .int l4)]) hX dX2_sumWithLot_53 h 5 rfl (by decide) (fun _ => rfl) ?_
  clear h; intro t1 h
  refine r_goto (tgt := 6) hX dX2_sumWithLot_56 (by decide) ?_
  refine r_sub [1, 2, 3, 4, 5, 0] rfl ?_
  exact hk6 _ _ _ _ _ _ _ h
def X2_sumWithLot_6B (G : kdS) (k6 : Nat → Int32 → Int32 → Int32 → Int32 → Int32 → kdM → Option (Int32 × kdM)) (l0 : Nat) (l1 : Int32) (l2 : Int32) (l3 : Int32) (l4 : Int32) (l5 : Int32) : kdM → Option (Int32 × kdM) :=
  cnd ((4 : Int32) ≤ l5)
    (kcv G 2 l0 (X2_drawLot G l0 l2) fun t1 =>
    rt (l4 + t1))
    (gR G 2 3 l0 fun t2 =>
    aI G t2 (l5) fun t3 =>
    cnd (t3 < l2)
      (X2_sumWithLot_53 G k6 l0 l1 l2 l3 l4 l5)
      (kcv G 2 l0 (X2_worthOf G l0 l5 l1 l3) fun t4 =>
      ltI ((l4 + (kmin (5000 : Int32) t4))) fun t5 =>
      gR G 2 3 l0 fun t6 =>
      aI G t6 (l5) fun t7 =>
      tI G t6 (l5) ((t7 - l2)) <|
      X2_sumWithLot_53 G k6 l0 l1 l2 l3 t5 l5))
set_option maxRecDepth 100000 in
set_option maxHeartbeats 4000000 in
theorem wX2_sumWithLot_6B {E : kdE} {G : kdS} {A : kdA} {r : Int32} {σ1 : kdM} (hX : kdX E A cX2_sumWithLot 6 RX2 (some .int) 3) (k6 : Nat → Int32 → Int32 → Int32 → Int32 → Int32 → kdM → Option (Int32 × kdM)) (hk6 : ∀ (l0 : Nat) (l1 : Int32) (l2 : Int32) (l3 : Int32) (l4 : Int32) (l5 : Int32) (σ : kdM), k6 l0 l1 l2 l3 l4 l5 σ = some (r, σ1) → SW E G (.inl (some (.int r), σ1)) A 6 σ 6 [(0, kr E l0), (1, .int l1), (2, .int l2), (3, .int l3), (4, .int l4), (5, .int l5)] []) {σ : kdM} {l0 : Nat} {l1 : Int32} {l2 : Int32} {l3 : Int32} {l4 : Int32} {l5 : Int32} (h : X2_sumWithLot_6B G k6 l0 l1 l2 l3 l4 l5 σ = some (r, σ1)) : SW E G (.inl (some (.int r), σ1)) A 6 σ 6 [(0, kr E l0), (1, .int l1), (2, .int l2), (3, .int l3), (4, .int l4), (5, .int l5)] [] := by
  unfold X2_sumWithLot_6B at h
  refine r_iload hX dX2_sumWithLot_6 5 rfl ?_
  refine r_iconst hX dX2_sumWithLot_8 kk_i_4 ?_
  refine r_icmp_ge (tgt := 59) hX dX2_sumWithLot_9 (by decide) h ?_ ?_
  · clear h; intro h
    refine r_iload hX dX2_sumWithLot_59 4 rfl ?_
    refine r_aload_n hX dX2_sumWithLot_61 rfl 0 rfl ?_
    refine r_iload_n hX dX2_sumWithLot_62 rfl 2 rfl ?_
    refine r_cVi (As := [.int l2]) (st := [.int l4]) hX dX2_sumWithLot_63 kl_X2_drawLot w_ml_X2_78 w_im_X2_drawLot w_se_X2_drawLot ⟨_, _, rfl⟩ (by decide) rfl (Nat.le_of_ble_eq_true rfl) rfl kdz0 h (fun r σ1 h => wX2_drawLot h) ?_
    clear h; intro t1 σ h
    refine r_iadd hX dX2_sumWithLot_66 ?_
    exact r_iret hX dX2_sumWithLot_67 h
  · clear h; intro h
    refine r_aload_n hX dX2_sumWithLot_12 rfl 0 rfl ?_
    refine r_gR hX dX2_sumWithLot_13 kf_X2_26 rfl h ?_
    clear h; intro t2 h
    refine r_iload hX dX2_sumWithLot_16 5 rfl ?_
    refine r_aI hX dX2_sumWithLot_18 h ?_
    clear h; intro t3 h
    refine r_iload_n hX dX2_sumWithLot_19 rfl 2 rfl ?_
    refine r_icmp_lt (tgt := 53) hX dX2_sumWithLot_20 (by decide) h ?_ ?_
    · clear h; intro h
      refine r_sub [0, 1, 2, 3, 4, 5] rfl ?_
      exact wX2_sumWithLot_53 hX k6 hk6 h
    · clear h; intro h
      refine r_iload hX dX2_sumWithLot_23 4 rfl ?_
      refine r_sipush hX dX2_sumWithLot_25 kk_s_5000 ?_
      refine r_aload_n hX dX2_sumWithLot_28 rfl 0 rfl ?_
      refine r_iload hX dX2_sumWithLot_29 5 rfl ?_
      refine r_iload_n hX dX2_sumWithLot_31 rfl 1 rfl ?_
      refine r_iload_n hX dX2_sumWithLot_32 rfl 3 rfl ?_
      refine r_cVi (As := [.int l5, .int l1, .int l3]) (st := [.int (5000 : Int32), .int l4]) hX dX2_sumWithLot_33 kl_X2_worthOf w_ml_X2_71 w_im_X2_worthOf w_se_X2_worthOf ⟨_, _, rfl⟩ (by decide) rfl (Nat.le_of_ble_eq_true rfl) rfl kdz0 h (fun r σ1 h => wX2_worthOf h) ?_
      clear h; intro t4 σ h
      refine r_mmin hX dX2_sumWithLot_36 w_ml_X2_75 w_st_Math_min w_in_Math w_cd_Math_min (by decide) (Nat.le_of_ble_eq_true rfl) kdz0 ?_
      refine r_iadd hX dX2_sumWithLot_39 ?_
      refine r_letI h ?_
      clear h; intro t5 h
      refine r_istore (L2 := [(4, .int t5), (0, kr E l0), (1, .int l1), (2, .int l2), (3, .int l3), (5, .int l5)]) hX dX2_sumWithLot_40 (by decide) rfl ?_
      refine r_aload_n hX dX2_sumWithLot_42 rfl 1 rfl ?_
      refine r_gR hX dX2_sumWithLot_43 kf_X2_26 rfl h ?_
      clear h; intro t6 h
      refine r_iload hX dX2_sumWithLot_46 5 rfl ?_
      refine r_dup2 hX dX2_sumWithLot_48 rfl rfl ?_
      refine r_aI hX dX2_sumWithLot_49 h ?_
      clear h; intro t7 h
      refine r_iload_n hX dX2_sumWithLot_50 rfl 3 rfl ?_
      refine r_isub hX dX2_sumWithLot_51 ?_
      refine r_tI hX dX2_sumWithLot_52 h ?_
      clear h; intro σ h
      refine r_sub [1, 2, 3, 4, 0, 5] rfl ?_
      exact wX2_sumWithLot_53 hX k6 hk6 h
def X2_sumWithLot_6 (G : kdS) : Nat → Int32 → Int32 → Int32 → Int32 → Int32 → kdM → Option (Int32 × kdM) := lp (fun _ _ _ _ _ _ _ => none) (X2_sumWithLot_6B G) NN
theorem wX2_sumWithLot_6 {E : kdE} {G : kdS} {A : kdA} {r : Int32} {σ1 : kdM} (hX : kdX E A cX2_sumWithLot 6 RX2 (some .int) 3) : ∀ (l0 : Nat) (l1 : Int32) (l2 : Int32) (l3 : Int32) (l4 : Int32) (l5 : Int32) (σ : kdM), X2_sumWithLot_6 G l0 l1 l2 l3 l4 l5 σ = some (r, σ1) → SW E G (.inl (some (.int r), σ1)) A 6 σ 6 [(0, kr E l0), (1, .int l1), (2, .int l2), (3, .int l3), (4, .int l4), (5, .int l5)] [] :=
  lp_ind (Q := fun f => ∀ (l0 : Nat) (l1 : Int32) (l2 : Int32) (l3 : Int32) (l4 : Int32) (l5 : Int32) (σ : kdM), f l0 l1 l2 l3 l4 l5 σ = some (r, σ1) → SW E G (.inl (some (.int r), σ1)) A 6 σ 6 [(0, kr E l0), (1, .int l1), (2, .int l2), (3, .int l3), (4, .int l4), (5, .int l5)] []) (by intros; contradiction) (fun k hk l0 l1 l2 l3 l4 l5 σ h => wX2_sumWithLot_6B hX k hk h) NN
def X2_sumWithLot (G : kdS) (l0 : Nat) (l1 : Int32) (l2 : Int32) (l3 : Int32) : kdM → Option (Int32 × kdM) :=
  X2_sumWithLot_6 G l0 l1 l2 l3 (0 : Int32) (0 : Int32)
set_option maxRecDepth 100000 in
set_option maxHeartbeats 4000000 in
theorem wX2_sumWithLot {E : kdE} {G : kdS} {l0 : Nat} {l1 : Int32} {l2 : Int32} {l3 : Int32} {σ : kdM} {r : Int32} {σ1 : kdM} (h : X2_sumWithLot G l0 l1 l2 l3 σ = some (r, σ1)) : Con E G yX2_sumWithLot cX2_sumWithLot 6 (some .int) 3 [kr E l0, .int l1, .int l2, .int l3] σ (some (.int r), σ1) := by
  refine kd_head (own := RX2) rfl (by decide +kernel) (Nat.le_of_ble_eq_true rfl) (fun A hX => ?_)
  show SW E G (.inl (some (.int r), σ1)) A 6 σ 0 [(0, kr E l0), (1, .int l1), (2, .int l2), (3, .int l3)] []
  unfold X2_sumWithLot at h
  refine r_iconst hX dX2_sumWithLot_0 kk_i_0 ?_
  refine r_istore (L2 := [(4, .int (0 : Int32)), (0, kr E l0), (1, .int l1), (2, .int l2), (3, .int l3)]) hX dX2_sumWithLot_1 (by decide) rfl ?_
  refine r_iconst hX dX2_sumWithLot_3 kk_i_0 ?_
  refine r_istore (L2 := [(5, .int (0 : Int32)), (4, .int (0 : Int32)), (0, kr E l0), (1, .int l1), (2, .int l2), (3, .int l3)]) hX dX2_sumWithLot_4 (by decide) rfl ?_
  refine r_sub [2, 3, 4, 5, 1, 0] rfl ?_
  exact wX2_sumWithLot_6 hX _ _ _ _ _ _ _ h
def X3_size (G : kdS) (l0 : Nat) : kdM → Option (Int32 × kdM) :=
  gI G 3 0 l0 fun t1 =>
  rt t1
set_option maxRecDepth 100000 in
set_option maxHeartbeats 4000000 in
theorem wX3_size {E : kdE} {G : kdS} {l0 : Nat} {σ : kdM} {r : Int32} {σ1 : kdM} (h : X3_size G l0 σ = some (r, σ1)) : Con E G yX3_size cX3_size 1 (some .int) 0 [kr E l0] σ (some (.int r), σ1) := by
  refine kd_head (own := RX3) rfl (by decide +kernel) (Nat.le_of_ble_eq_true rfl) (fun A hX => ?_)
  show SW E G (.inl (some (.int r), σ1)) A 1 σ 0 [(0, kr E l0)] []
  unfold X3_size at h
  refine r_aload_n hX dX3_size_0 rfl 0 rfl ?_
  refine r_gI hX dX3_size_1 kf_X3_37 rfl h ?_
  clear h; intro t1 h
  exact r_iret hX dX3_size_4 h
def X3_has_17 (G : kdS) (s0 : Int32) : kdM → Option (Int32 × kdM) :=
  rt (vp_nar .boolean s0)
set_option maxRecDepth 100000 in
set_option maxHeartbeats 4000000 in
theorem wX3_has_17 {E : kdE} {G : kdS} {A : kdA} {r : Int32} {σ1 : kdM} (hX : kdX E A cX3_has 2 RX3 (some .boolean) 0) {σ : kdM} {s0 : Int32} (h : X3_has_17 G s0 σ = some (r, σ1)) : SW E G (.inl (some (.int r), σ1)) A 2 σ 17 [] [.int s0] := by
  unfold X3_has_17 at h
  exact r_zret hX dX3_has_17 h
def X3_has_16 (G : kdS) : kdM → Option (Int32 × kdM) :=
  X3_has_17 G (0 : Int32)
set_option maxRecDepth 100000 in
set_option maxHeartbeats 4000000 in
theorem wX3_has_16 {E : kdE} {G : kdS} {A : kdA} {r : Int32} {σ1 : kdM} (hX : kdX E A cX3_has 2 RX3 (some .boolean) 0) {σ : kdM} (h : X3_has_16 G  σ = some (r, σ1)) : SW E G (.inl (some (.int r), σ1)) A 2 σ 16 [] [] := by
  unfold X3_has_16 at h
  refine r_iconst hX dX3_has_16 kk_i_0 ?_
  refine r_sub [] rfl ?_
  exact wX3_has_17 hX h
def X3_has (G : kdS) (l0 : Nat) (l1 : Int32) : kdM → Option (Int32 × kdM) :=
  cnd (l1 < 0)
    (X3_has_16 G )
    (gI G 3 0 l0 fun t1 =>
    cnd (t1 ≤ l1)
      (X3_has_16 G )
      (X3_has_17 G (1 : Int32)))
set_option maxRecDepth 100000 in
set_option maxHeartbeats 4000000 in
theorem wX3_has {E : kdE} {G : kdS} {l0 : Nat} {l1 : Int32} {σ : kdM} {r : Int32} {σ1 : kdM} (h : X3_has G l0 l1 σ = some (r, σ1)) : Con E G yX3_has cX3_has 2 (some .boolean) 0 [kr E l0, .int l1] σ (some (.int r), σ1) := by
  refine kd_head (own := RX3) rfl (by decide +kernel) (Nat.le_of_ble_eq_true rfl) (fun A hX => ?_)
  show SW E G (.inl (some (.int r), σ1)) A 2 σ 0 [(0, kr E l0), (1, .int l1)] []
  unfold X3_has at h
  refine r_iload_n hX dX3_has_0 rfl 1 rfl ?_
  refine r_if_lt (tgt := 16) hX dX3_has_1 (by decide) h ?_ ?_
  · clear h; intro h
    refine r_sub [] rfl ?_
    exact wX3_has_16 hX h
  · clear h; intro h
    refine r_iload_n hX dX3_has_4 rfl 1 rfl ?_
    refine r_aload_n hX dX3_has_5 rfl 0 rfl ?_
    refine r_gI hX dX3_has_6 kf_X3_37 rfl h ?_
    clear h; intro t1 h
    refine r_icmp_ge (tgt := 16) hX dX3_has_9 (by decide) h ?_ ?_
    · clear h; intro h
      refine r_sub [] rfl ?_
      exact wX3_has_16 hX h
    · clear h; intro h
      refine r_iconst hX dX3_has_12 kk_i_1 ?_
      refine r_goto (tgt := 17) hX dX3_has_13 (by decide) ?_
      refine r_sub [] rfl ?_
      exact wX3_has_17 hX h
def X3_startAnew_42B (G : kdS) (k12 : Nat → Int32 → Int32 → kdM → Option (Int32 × kdM)) (k42 : Nat → Int32 → Int32 → Int32 → kdM → Option (Int32 × kdM)) (l0 : Nat) (l2 : Int32) (l3 : Int32) (l4 : Int32) : kdM → Option (Int32 × kdM) :=
  cnd ((7 : Int32) ≤ l4)
    (ltI (l3 + Int32.ofInt 1) fun t1 =>
    k12 l0 l2 t1)
    (gR G 3 4 l0 fun t2 =>
    aR G 18 t2 (l3) fun t3 =>
    tI G t3 (l4) ((0 : Int32)) <|
    ltI (l4 + Int32.ofInt 1) fun t4 =>
    k42 l0 l2 l3 t4)
set_option maxRecDepth 100000 in
set_option maxHeartbeats 4000000 in
theorem wX3_startAnew_42B {E : kdE} {G : kdS} {A : kdA} {r : Int32} {σ1 : kdM} (hX : kdX E A cX3_startAnew 5 RX3 (some .int) 0) (k12 : Nat → Int32 → Int32 → kdM → Option (Int32 × kdM)) (k42 : Nat → Int32 → Int32 → Int32 → kdM → Option (Int32 × kdM)) (hk12 : ∀ (l0 : Nat) (l2 : Int32) (l3 : Int32) (σ : kdM), k12 l0 l2 l3 σ = some (r, σ1) → SW E G (.inl (some (.int r), σ1)) A 5 σ 12 [(0, kr E l0), (2, .int l2), (3, .int l3)] []) (hk42 : ∀ (l0 : Nat) (l2 : Int32) (l3 : Int32) (l4 : Int32) (σ : kdM), k42 l0 l2 l3 l4 σ = some (r, σ1) → SW E G (.inl (some (.int r), σ1)) A 5 σ 42 [(0, kr E l0), (2, .int l2), (3, .int l3), (4, .int l4)] []) {σ : kdM} {l0 : Nat} {l2 : Int32} {l3 : Int32} {l4 : Int32} (h : X3_startAnew_42B G k12 k42 l0 l2 l3 l4 σ = some (r, σ1)) : SW E G (.inl (some (.int r), σ1)) A 5 σ 42 [(0, kr E l0), (2, .int l2), (3, .int l3), (4, .int l4)] [] := by
  unfold X3_startAnew_42B at h
  refine r_iload hX dX3_startAnew_42 3 rfl ?_
  refine r_bipush hX dX3_startAnew_44 kk_b_7 ?_
  refine r_icmp_ge (tgt := 65) hX dX3_startAnew_46 (by decide) h ?_ ?_
  · clear h; intro h
    refine r_iincL (L2 := fun t1 => [(3, .int t1), (0, kr E l0), (2, .int l2), (4, .int l4)]) hX dX3_startAnew_65 h 2 rfl (by decide) (fun _ => rfl) ?_
    clear h; intro t1 h
    refine r_goto (tgt := 12) hX dX3_startAnew_68 (by decide) ?_
    refine r_sub [1, 2, 0] rfl ?_
    exact hk12 _ _ _ _ h
  · clear h; intro h
    refine r_aload_n hX dX3_startAnew_49 rfl 0 rfl ?_
    refine r_gR hX dX3_startAnew_50 kf_X3_23 rfl h ?_
    clear h; intro t2 h
    refine r_iload_n hX dX3_startAnew_53 rfl 2 rfl ?_
    refine r_aR18 hX dX3_startAnew_54 h ?_
    clear h; intro t3 h
    refine r_iload hX dX3_startAnew_55 3 rfl ?_
    refine r_iconst hX dX3_startAnew_57 kk_i_0 ?_
    refine r_tI hX dX3_startAnew_58 h ?_
    clear h; intro σ h
    refine r_iincL (L2 := fun t4 => [(4, .int t4), (0, kr E l0), (2, .int l2), (3, .int l3)]) hX dX3_startAnew_59 h 3 rfl (by decide) (fun _ => rfl) ?_
    clear h; intro t4 h
    refine r_goto (tgt := 42) hX dX3_startAnew_62 (by decide) ?_
    refine r_sub [1, 2, 3, 0] rfl ?_
    exact hk42 _ _ _ _ _ h
def X3_startAnew_42 (G : kdS) (k12 : Nat → Int32 → Int32 → kdM → Option (Int32 × kdM)) : Nat → Int32 → Int32 → Int32 → kdM → Option (Int32 × kdM) := lp (fun _ _ _ _ _ => none) (X3_startAnew_42B G k12) NN
theorem wX3_startAnew_42 {E : kdE} {G : kdS} {A : kdA} {r : Int32} {σ1 : kdM} (hX : kdX E A cX3_startAnew 5 RX3 (some .int) 0) (k12 : Nat → Int32 → Int32 → kdM → Option (Int32 × kdM)) (hk12 : ∀ (l0 : Nat) (l2 : Int32) (l3 : Int32) (σ : kdM), k12 l0 l2 l3 σ = some (r, σ1) → SW E G (.inl (some (.int r), σ1)) A 5 σ 12 [(0, kr E l0), (2, .int l2), (3, .int l3)] []) : ∀ (l0 : Nat) (l2 : Int32) (l3 : Int32) (l4 : Int32) (σ : kdM), X3_startAnew_42 G k12 l0 l2 l3 l4 σ = some (r, σ1) → SW E G (.inl (some (.int r), σ1)) A 5 σ 42 [(0, kr E l0), (2, .int l2), (3, .int l3), (4, .int l4)] [] :=
  lp_ind (Q := fun f => ∀ (l0 : Nat) (l2 : Int32) (l3 : Int32) (l4 : Int32) (σ : kdM), f l0 l2 l3 l4 σ = some (r, σ1) → SW E G (.inl (some (.int r), σ1)) A 5 σ 42 [(0, kr E l0), (2, .int l2), (3, .int l3), (4, .int l4)] []) (by intros; contradiction) (fun k hk l0 l2 l3 l4 σ h => wX3_startAnew_42B hX k12 k hk12 hk h) NN
def X3_startAnew_12B (G : kdS) (k12 : Nat → Int32 → Int32 → kdM → Option (Int32 × kdM)) (l0 : Nat) (l2 : Int32) (l3 : Int32) : kdM → Option (Int32 × kdM) :=
  cnd ((7 : Int32) ≤ l3)
    (rt l2)
    (gR G 3 1 l0 fun t1 =>
    tI G t1 (l3) ((1 : Int32)) <|
    gR G 3 2 l0 fun t2 =>
    tI G t2 (l3) ((0 : Int32)) <|
    gR G 3 3 l0 fun t3 =>
    tI G t3 (l3) ((0 : Int32)) <|
    X3_startAnew_42 G k12 l0 l2 l3 (0 : Int32))
set_option maxRecDepth 100000 in
set_option maxHeartbeats 4000000 in
theorem wX3_startAnew_12B {E : kdE} {G : kdS} {A : kdA} {r : Int32} {σ1 : kdM} (hX : kdX E A cX3_startAnew 5 RX3 (some .int) 0) (k12 : Nat → Int32 → Int32 → kdM → Option (Int32 × kdM)) (hk12 : ∀ (l0 : Nat) (l2 : Int32) (l3 : Int32) (σ : kdM), k12 l0 l2 l3 σ = some (r, σ1) → SW E G (.inl (some (.int r), σ1)) A 5 σ 12 [(0, kr E l0), (2, .int l2), (3, .int l3)] []) {σ : kdM} {l0 : Nat} {l2 : Int32} {l3 : Int32} (h : X3_startAnew_12B G k12 l0 l2 l3 σ = some (r, σ1)) : SW E G (.inl (some (.int r), σ1)) A 5 σ 12 [(0, kr E l0), (2, .int l2), (3, .int l3)] [] := by
  unfold X3_startAnew_12B at h
  refine r_iload_n hX dX3_startAnew_12 rfl 2 rfl ?_
  refine r_bipush hX dX3_startAnew_13 kk_b_7 ?_
  refine r_icmp_ge (tgt := 71) hX dX3_startAnew_15 (by decide) h ?_ ?_
  · clear h; intro h
    refine r_iload_n hX dX3_startAnew_71 rfl 1 rfl ?_
    exact r_iret hX dX3_startAnew_72 h
  · clear h; intro h
    refine r_aload_n hX dX3_startAnew_18 rfl 0 rfl ?_
    refine r_gR hX dX3_startAnew_19 kf_X3_9 rfl h ?_
    clear h; intro t1 h
    refine r_iload_n hX dX3_startAnew_22 rfl 2 rfl ?_
    refine r_iconst hX dX3_startAnew_23 kk_i_1 ?_
    refine r_tI hX dX3_startAnew_24 h ?_
    clear h; intro σ h
    refine r_aload_n hX dX3_startAnew_25 rfl 0 rfl ?_
    refine r_gR hX dX3_startAnew_26 kf_X3_15 rfl h ?_
    clear h; intro t2 h
    refine r_iload_n hX dX3_startAnew_29 rfl 2 rfl ?_
    refine r_iconst hX dX3_startAnew_30 kk_i_0 ?_
    refine r_tI hX dX3_startAnew_31 h ?_
    clear h; intro σ h
    refine r_aload_n hX dX3_startAnew_32 rfl 0 rfl ?_
    refine r_gR hX dX3_startAnew_33 kf_X3_18 rfl h ?_
    clear h; intro t3 h
    refine r_iload_n hX dX3_startAnew_36 rfl 2 rfl ?_
    refine r_iconst hX dX3_startAnew_37 kk_i_0 ?_
    refine r_tI hX dX3_startAnew_38 h ?_
    clear h; intro σ h
    refine r_iconst hX dX3_startAnew_39 kk_i_0 ?_
    refine r_istore (L2 := [(4, .int (0 : Int32)), (0, kr E l0), (2, .int l2), (3, .int l3)]) hX dX3_startAnew_40 (by decide) rfl ?_
    refine r_sub [1, 2, 3, 0] rfl ?_
    exact wX3_startAnew_42 hX k12 hk12 _ _ _ _ _ h
def X3_startAnew_12 (G : kdS) : Nat → Int32 → Int32 → kdM → Option (Int32 × kdM) := lp (fun _ _ _ _ => none) (X3_startAnew_12B G) NN
theorem wX3_startAnew_12 {E : kdE} {G : kdS} {A : kdA} {r : Int32} {σ1 : kdM} (hX : kdX E A cX3_startAnew 5 RX3 (some .int) 0) : ∀ (l0 : Nat) (l2 : Int32) (l3 : Int32) (σ : kdM), X3_startAnew_12 G l0 l2 l3 σ = some (r, σ1) → SW E G (.inl (some (.int r), σ1)) A 5 σ 12 [(0, kr E l0), (2, .int l2), (3, .int l3)] [] :=
  lp_ind (Q := fun f => ∀ (l0 : Nat) (l2 : Int32) (l3 : Int32) (σ : kdM), f l0 l2 l3 σ = some (r, σ1) → SW E G (.inl (some (.int r), σ1)) A 5 σ 12 [(0, kr E l0), (2, .int l2), (3, .int l3)] []) (by intros; contradiction) (fun k hk l0 l2 l3 σ h => wX3_startAnew_12B hX k hk h) NN
def X3_startAnew (G : kdS) (l0 : Nat) (l1 : Int32) : kdM → Option (Int32 × kdM) :=
  gI G 3 0 l0 fun t1 =>
  sI G 3 0 l0 (l1) <|
  X3_startAnew_12 G l0 t1 (0 : Int32)
set_option maxRecDepth 100000 in
set_option maxHeartbeats 4000000 in
theorem wX3_startAnew {E : kdE} {G : kdS} {l0 : Nat} {l1 : Int32} {σ : kdM} {r : Int32} {σ1 : kdM} (h : X3_startAnew G l0 l1 σ = some (r, σ1)) : Con E G yX3_startAnew cX3_startAnew 5 (some .int) 0 [kr E l0, .int l1] σ (some (.int r), σ1) := by
  refine kd_head (own := RX3) rfl (by decide +kernel) (Nat.le_of_ble_eq_true rfl) (fun A hX => ?_)
  show SW E G (.inl (some (.int r), σ1)) A 5 σ 0 [(0, kr E l0), (1, .int l1)] []
  unfold X3_startAnew at h
  refine r_aload_n hX dX3_startAnew_0 rfl 0 rfl ?_
  refine r_gI hX dX3_startAnew_1 kf_X3_37 rfl h ?_
  clear h; intro t1 h
  refine r_istore_n (L2 := [(2, .int t1), (0, kr E l0), (1, .int l1)]) hX dX3_startAnew_4 rfl (by decide) rfl ?_
  refine r_aload_n hX dX3_startAnew_5 rfl 1 rfl ?_
  refine r_iload_n hX dX3_startAnew_6 rfl 2 rfl ?_
  refine r_sI hX dX3_startAnew_7 kf_X3_37 rfl (by intro q hq; cases hq; rfl) h ?_
  clear h; intro σ h
  refine r_iconst hX dX3_startAnew_10 kk_i_0 ?_
  refine r_istore_n (L2 := [(3, .int (0 : Int32)), (2, .int t1), (0, kr E l0), (1, .int l1)]) hX dX3_startAnew_11 rfl (by decide) rfl ?_
  refine r_sub [2, 1, 0] rfl ?_
  exact wX3_startAnew_12 hX _ _ _ _ h
def X3_setEffort (G : kdS) (l0 : Nat) (l1 : Int32) (l2 : Int32) : kdM → Option (Int32 × kdM) :=
  gR G 3 1 l0 fun t1 =>
  aI G t1 (l1) fun t2 =>
  gR G 3 1 l0 fun t3 =>
  tI G t3 (l1) (l2) <|
  rt t2
set_option maxRecDepth 100000 in
set_option maxHeartbeats 4000000 in
theorem wX3_setEffort {E : kdE} {G : kdS} {l0 : Nat} {l1 : Int32} {l2 : Int32} {σ : kdM} {r : Int32} {σ1 : kdM} (h : X3_setEffort G l0 l1 l2 σ = some (r, σ1)) : Con E G yX3_setEffort cX3_setEffort 4 (some .int) 0 [kr E l0, .int l1, .int l2] σ (some (.int r), σ1) := by
  refine kd_head (own := RX3) rfl (by decide +kernel) (Nat.le_of_ble_eq_true rfl) (fun A hX => ?_)
  show SW E G (.inl (some (.int r), σ1)) A 4 σ 0 [(0, kr E l0), (1, .int l1), (2, .int l2)] []
  unfold X3_setEffort at h
  refine r_aload_n hX dX3_setEffort_0 rfl 0 rfl ?_
  refine r_gR hX dX3_setEffort_1 kf_X3_9 rfl h ?_
  clear h; intro t1 h
  refine r_iload_n hX dX3_setEffort_4 rfl 1 rfl ?_
  refine r_aI hX dX3_setEffort_5 h ?_
  clear h; intro t2 h
  refine r_istore_n (L2 := [(3, .int t2), (0, kr E l0), (1, .int l1), (2, .int l2)]) hX dX3_setEffort_6 rfl (by decide) rfl ?_
  refine r_aload_n hX dX3_setEffort_7 rfl 1 rfl ?_
  refine r_gR hX dX3_setEffort_8 kf_X3_9 rfl h ?_
  clear h; intro t3 h
  refine r_iload_n hX dX3_setEffort_11 rfl 2 rfl ?_
  refine r_iload_n hX dX3_setEffort_12 rfl 3 rfl ?_
  refine r_tI hX dX3_setEffort_13 h ?_
  clear h; intro σ h
  refine r_iload_n hX dX3_setEffort_14 rfl 0 rfl ?_
  exact r_iret hX dX3_setEffort_15 h
def X3_setFinger (G : kdS) (l0 : Nat) (l1 : Int32) (l2 : Int32) : kdM → Option (Int32 × kdM) :=
  gR G 3 2 l0 fun t1 =>
  aI G t1 (l1) fun t2 =>
  gR G 3 2 l0 fun t3 =>
  tI G t3 (l1) (l2) <|
  rt t2
set_option maxRecDepth 100000 in
set_option maxHeartbeats 4000000 in
theorem wX3_setFinger {E : kdE} {G : kdS} {l0 : Nat} {l1 : Int32} {l2 : Int32} {σ : kdM} {r : Int32} {σ1 : kdM} (h : X3_setFinger G l0 l1 l2 σ = some (r, σ1)) : Con E G yX3_setFinger cX3_setFinger 4 (some .int) 0 [kr E l0, .int l1, .int l2] σ (some (.int r), σ1) := by
  refine kd_head (own := RX3) rfl (by decide +kernel) (Nat.le_of_ble_eq_true rfl) (fun A hX => ?_)
  show SW E G (.inl (some (.int r), σ1)) A 4 σ 0 [(0, kr E l0), (1, .int l1), (2, .int l2)] []
  unfold X3_setFinger at h
  refine r_aload_n hX dX3_setFinger_0 rfl 0 rfl ?_
  refine r_gR hX dX3_setFinger_1 kf_X3_15 rfl h ?_
  clear h; intro t1 h
  refine r_iload_n hX dX3_setFinger_4 rfl 1 rfl ?_
  refine r_aI hX dX3_setFinger_5 h ?_
  clear h; intro t2 h
  refine r_istore_n (L2 := [(3, .int t2), (0, kr E l0), (1, .int l1), (2, .int l2)]) hX dX3_setFinger_6 rfl (by decide) rfl ?_
  refine r_aload_n hX dX3_setFinger_7 rfl 1 rfl ?_
  refine r_gR hX dX3_setFinger_8 kf_X3_15 rfl h ?_
  clear h; intro t3 h
  refine r_iload_n hX dX3_setFinger_11 rfl 2 rfl ?_
  refine r_iload_n hX dX3_setFinger_12 rfl 3 rfl ?_
  refine r_tI hX dX3_setFinger_13 h ?_
  clear h; intro σ h
  refine r_iload_n hX dX3_setFinger_14 rfl 0 rfl ?_
  exact r_iret hX dX3_setFinger_15 h
def X3_setLoad (G : kdS) (l0 : Nat) (l1 : Int32) (l2 : Int32) : kdM → Option (Int32 × kdM) :=
  gR G 3 3 l0 fun t1 =>
  aI G t1 (l1) fun t2 =>
  gR G 3 3 l0 fun t3 =>
  tI G t3 (l1) (l2) <|
  rt t2
set_option maxRecDepth 100000 in
set_option maxHeartbeats 4000000 in
theorem wX3_setLoad {E : kdE} {G : kdS} {l0 : Nat} {l1 : Int32} {l2 : Int32} {σ : kdM} {r : Int32} {σ1 : kdM} (h : X3_setLoad G l0 l1 l2 σ = some (r, σ1)) : Con E G yX3_setLoad cX3_setLoad 4 (some .int) 0 [kr E l0, .int l1, .int l2] σ (some (.int r), σ1) := by
  refine kd_head (own := RX3) rfl (by decide +kernel) (Nat.le_of_ble_eq_true rfl) (fun A hX => ?_)
  show SW E G (.inl (some (.int r), σ1)) A 4 σ 0 [(0, kr E l0), (1, .int l1), (2, .int l2)] []
  unfold X3_setLoad at h
  refine r_aload_n hX dX3_setLoad_0 rfl 0 rfl ?_
  refine r_gR hX dX3_setLoad_1 kf_X3_18 rfl h ?_
  clear h; intro t1 h
  refine r_iload_n hX dX3_setLoad_4 rfl 1 rfl ?_
  refine r_aI hX dX3_setLoad_5 h ?_
  clear h; intro t2 h
  refine r_istore_n (L2 := [(3, .int t2), (0, kr E l0), (1, .int l1), (2, .int l2)]) hX dX3_setLoad_6 rfl (by decide) rfl ?_
  refine r_aload_n hX dX3_setLoad_7 rfl 1 rfl ?_
  refine r_gR hX dX3_setLoad_8 kf_X3_18 rfl h ?_
  clear h; intro t3 h
  refine r_iload_n hX dX3_setLoad_11 rfl 2 rfl ?_
  refine r_iload_n hX dX3_setLoad_12 rfl 3 rfl ?_
  refine r_tI hX dX3_setLoad_13 h ?_
  clear h; intro σ h
  refine r_iload_n hX dX3_setLoad_14 rfl 0 rfl ?_
  exact r_iret hX dX3_setLoad_15 h
def X3_setPair (G : kdS) (l0 : Nat) (l1 : Int32) (l2 : Int32) (l3 : Int32) : kdM → Option (Int32 × kdM) :=
  gR G 3 4 l0 fun t1 =>
  aR G 18 t1 (l1) fun t2 =>
  aI G t2 (l2) fun t3 =>
  gR G 3 4 l0 fun t4 =>
  aR G 18 t4 (l1) fun t5 =>
  tI G t5 (l2) (l3) <|
  rt t3
set_option maxRecDepth 100000 in
set_option maxHeartbeats 4000000 in
theorem wX3_setPair {E : kdE} {G : kdS} {l0 : Nat} {l1 : Int32} {l2 : Int32} {l3 : Int32} {σ : kdM} {r : Int32} {σ1 : kdM} (h : X3_setPair G l0 l1 l2 l3 σ = some (r, σ1)) : Con E G yX3_setPair cX3_setPair 5 (some .int) 0 [kr E l0, .int l1, .int l2, .int l3] σ (some (.int r), σ1) := by
  refine kd_head (own := RX3) rfl (by decide +kernel) (Nat.le_of_ble_eq_true rfl) (fun A hX => ?_)
  show SW E G (.inl (some (.int r), σ1)) A 5 σ 0 [(0, kr E l0), (1, .int l1), (2, .int l2), (3, .int l3)] []
  unfold X3_setPair at h
  refine r_aload_n hX dX3_setPair_0 rfl 0 rfl ?_
  refine r_gR hX dX3_setPair_1 kf_X3_23 rfl h ?_
  clear h; intro t1 h
  refine r_iload_n hX dX3_setPair_4 rfl 1 rfl ?_
  refine r_aR18 hX dX3_setPair_5 h ?_
  clear h; intro t2 h
  refine r_iload_n hX dX3_setPair_6 rfl 2 rfl ?_
  refine r_aI hX dX3_setPair_7 h ?_
  clear h; intro t3 h
  refine r_istore (L2 := [(4, .int t3), (0, kr E l0), (1, .int l1), (2, .int l2), (3, .int l3)]) hX dX3_setPair_8 (by decide) rfl ?_
  refine r_aload_n hX dX3_setPair_10 rfl 1 rfl ?_
  refine r_gR hX dX3_setPair_11 kf_X3_23 rfl h ?_
  clear h; intro t4 h
  refine r_iload_n hX dX3_setPair_14 rfl 2 rfl ?_
  refine r_aR18 hX dX3_setPair_15 h ?_
  clear h; intro t5 h
  refine r_iload_n hX dX3_setPair_16 rfl 3 rfl ?_
  refine r_iload_n hX dX3_setPair_17 rfl 4 rfl ?_
  refine r_tI hX dX3_setPair_18 h ?_
  clear h; intro σ h
  refine r_iload hX dX3_setPair_19 0 rfl ?_
  exact r_iret hX dX3_setPair_21 h
def X3_setSame (G : kdS) (l0 : Nat) (l1 : Int32) : kdM → Option (Int32 × kdM) :=
  gI G 3 5 l0 fun t1 =>
  sI G 3 5 l0 (l1) <|
  rt t1
set_option maxRecDepth 100000 in
set_option maxHeartbeats 4000000 in
theorem wX3_setSame {E : kdE} {G : kdS} {l0 : Nat} {l1 : Int32} {σ : kdM} {r : Int32} {σ1 : kdM} (h : X3_setSame G l0 l1 σ = some (r, σ1)) : Con E G yX3_setSame cX3_setSame 3 (some .int) 0 [kr E l0, .int l1] σ (some (.int r), σ1) := by
  refine kd_head (own := RX3) rfl (by decide +kernel) (Nat.le_of_ble_eq_true rfl) (fun A hX => ?_)
  show SW E G (.inl (some (.int r), σ1)) A 3 σ 0 [(0, kr E l0), (1, .int l1)] []
  unfold X3_setSame at h
  refine r_aload_n hX dX3_setSame_0 rfl 0 rfl ?_
  refine r_gI hX dX3_setSame_1 kf_X3_26 rfl h ?_
  clear h; intro t1 h
  refine r_istore_n (L2 := [(2, .int t1), (0, kr E l0), (1, .int l1)]) hX dX3_setSame_4 rfl (by decide) rfl ?_
  refine r_aload_n hX dX3_setSame_5 rfl 1 rfl ?_
  refine r_iload_n hX dX3_setSame_6 rfl 2 rfl ?_
  refine r_sI hX dX3_setSame_7 kf_X3_26 rfl (by intro q hq; cases hq; rfl) h ?_
  clear h; intro σ h
  refine r_iload_n hX dX3_setSame_10 rfl 0 rfl ?_
  exact r_iret hX dX3_setSame_11 h
def X3_read_80 (G : kdS) (s0 : Int32) : kdM → Option (Int32 × kdM) :=
  rt (vp_nar .boolean s0)
set_option maxRecDepth 100000 in
set_option maxHeartbeats 4000000 in
theorem wX3_read_80 {E : kdE} {G : kdS} {A : kdA} {r : Int32} {σ1 : kdM} (hX : kdX E A cX3_read 5 RX3 (some .boolean) 1) {σ : kdM} {s0 : Int32} (h : X3_read_80 G s0 σ = some (r, σ1)) : SW E G (.inl (some (.int r), σ1)) A 5 σ 80 [] [.int s0] := by
  unfold X3_read_80 at h
  exact r_zret hX dX3_read_80 h
def X3_read_79 (G : kdS) : kdM → Option (Int32 × kdM) :=
  X3_read_80 G (0 : Int32)
set_option maxRecDepth 100000 in
set_option maxHeartbeats 4000000 in
theorem wX3_read_79 {E : kdE} {G : kdS} {A : kdA} {r : Int32} {σ1 : kdM} (hX : kdX E A cX3_read 5 RX3 (some .boolean) 1) {σ : kdM} (h : X3_read_79 G  σ = some (r, σ1)) : SW E G (.inl (some (.int r), σ1)) A 5 σ 79 [] [] := by
  unfold X3_read_79 at h
  refine r_iconst hX dX3_read_79 kk_i_0 ?_
  refine r_sub [] rfl ?_
  exact wX3_read_80 hX h
def X3_read_16B (G : kdS) (k16 : Nat → Int32 → Int32 → Int32 → Int32 → kdM → Option (Int32 × kdM)) (l0 : Nat) (l1 : Int32) (l2 : Int32) (l3 : Int32) (l4 : Int32) : kdM → Option (Int32 × kdM) :=
  cnd (l4 < 0)
    (cnd (l1 < 0)
      (X3_read_79 G )
      (cnd (l2 = 0)
        (gI G 3 0 l0 fun t1 =>
        cnd (l3 = (((1 : Int32) <<< (t1 &&& 31)) - (1 : Int32)))
          (X3_read_80 G (1 : Int32))
          (X3_read_79 G ))
        (X3_read_79 G )))
    (gR G 3 6 l0 fun t2 =>
    nz (10 : Int32) <|
    tI G t2 (l4) ((krem l2 (10 : Int32))) <|
    gR G 3 6 l0 fun t3 =>
    aI G t3 (l4) fun t4 =>
    ltI ((l3 ||| ((1 : Int32) <<< (t4 &&& 31)))) fun t5 =>
    nz (10 : Int32) <|
    ltI ((l2 / (10 : Int32))) fun t6 =>
    ltI (l4 + Int32.ofInt (-1)) fun t7 =>
    k16 l0 l1 t6 t5 t7)
set_option maxRecDepth 100000 in
set_option maxHeartbeats 4000000 in
theorem wX3_read_16B {E : kdE} {G : kdS} {A : kdA} {r : Int32} {σ1 : kdM} (hX : kdX E A cX3_read 5 RX3 (some .boolean) 1) (k16 : Nat → Int32 → Int32 → Int32 → Int32 → kdM → Option (Int32 × kdM)) (hk16 : ∀ (l0 : Nat) (l1 : Int32) (l2 : Int32) (l3 : Int32) (l4 : Int32) (σ : kdM), k16 l0 l1 l2 l3 l4 σ = some (r, σ1) → SW E G (.inl (some (.int r), σ1)) A 5 σ 16 [(0, kr E l0), (1, .int l1), (2, .int l2), (3, .int l3), (4, .int l4)] []) {σ : kdM} {l0 : Nat} {l1 : Int32} {l2 : Int32} {l3 : Int32} {l4 : Int32} (h : X3_read_16B G k16 l0 l1 l2 l3 l4 σ = some (r, σ1)) : SW E G (.inl (some (.int r), σ1)) A 5 σ 16 [(0, kr E l0), (1, .int l1), (2, .int l2), (3, .int l3), (4, .int l4)] [] := by
  unfold X3_read_16B at h
  refine r_iload hX dX3_read_16 4 rfl ?_
  refine r_if_lt (tgt := 55) hX dX3_read_18 (by decide) h ?_ ?_
  · clear h; intro h
    refine r_iload_n hX dX3_read_55 rfl 1 rfl ?_
    refine r_if_lt (tgt := 79) hX dX3_read_56 (by decide) h ?_ ?_
    · clear h; intro h
      refine r_sub [] rfl ?_
      exact wX3_read_79 hX h
    · clear h; intro h
      refine r_iload_n hX dX3_read_59 rfl 2 rfl ?_
      refine r_if_ne (tgt := 79) hX dX3_read_60 (by decide) h ?_ ?_
      · clear h; intro h
        refine r_iload_n hX dX3_read_63 rfl 3 rfl ?_
        refine r_iconst hX dX3_read_64 kk_i_1 ?_
        refine r_aload_n hX dX3_read_65 rfl 0 rfl ?_
        refine r_gI hX dX3_read_66 kf_X3_37 rfl h ?_
        clear h; intro t1 h
        refine r_ishl hX dX3_read_69 ?_
        refine r_iconst hX dX3_read_70 kk_i_1 ?_
        refine r_isub hX dX3_read_71 ?_
        refine r_icmp_ne (tgt := 79) hX dX3_read_72 (by decide) h ?_ ?_
        · clear h; intro h
          refine r_iconst hX dX3_read_75 kk_i_1 ?_
          refine r_goto (tgt := 80) hX dX3_read_76 (by decide) ?_
          refine r_sub [] rfl ?_
          exact wX3_read_80 hX h
        · clear h; intro h
          refine r_sub [] rfl ?_
          exact wX3_read_79 hX h
      · clear h; intro h
        refine r_sub [] rfl ?_
        exact wX3_read_79 hX h
  · clear h; intro h
    refine r_aload_n hX dX3_read_21 rfl 0 rfl ?_
    refine r_gR hX dX3_read_22 kf_X3_30 rfl h ?_
    clear h; intro t2 h
    refine r_iload hX dX3_read_25 4 rfl ?_
    refine r_iload_n hX dX3_read_27 rfl 2 rfl ?_
    refine r_bipush hX dX3_read_28 kk_b_10 ?_
    refine r_irem hX dX3_read_30 h ?_
    clear h; intro h
    refine r_tI hX dX3_read_31 h ?_
    clear h; intro σ h
    refine r_iload_n hX dX3_read_32 rfl 3 rfl ?_
    refine r_iconst hX dX3_read_33 kk_i_1 ?_
    refine r_aload_n hX dX3_read_34 rfl 0 rfl ?_
    refine r_gR hX dX3_read_35 kf_X3_30 rfl h ?_
    clear h; intro t3 h
    refine r_iload hX dX3_read_38 4 rfl ?_
    refine r_aI hX dX3_read_40 h ?_
    clear h; intro t4 h
    refine r_ishl hX dX3_read_41 ?_
    refine r_ior hX dX3_read_42 ?_
    refine r_letI h ?_
    clear h; intro t5 h
    refine r_istore_n (L2 := [(3, .int t5), (0, kr E l0), (1, .int l1), (2, .int l2), (4, .int l4)]) hX dX3_read_43 rfl (by decide) rfl ?_
    refine r_iload_n hX dX3_read_44 rfl 3 rfl ?_
    refine r_bipush hX dX3_read_45 kk_b_10 ?_
    refine r_idiv hX dX3_read_47 h ?_
    clear h; intro h
    refine r_letI h ?_
    clear h; intro t6 h
    refine r_istore_n (L2 := [(2, .int t6), (3, .int t5), (0, kr E l0), (1, .int l1), (4, .int l4)]) hX dX3_read_48 rfl (by decide) rfl ?_
    refine r_iincL (L2 := fun t7 => [(4, .int t7), (2, .int t6), (3, .int t5), (0, kr E l0), (1, .int l1)]) hX dX3_read_49 h 4 rfl (by decide) (fun _ => rfl) ?_
    clear h; intro t7 h
    refine r_goto (tgt := 16) hX dX3_read_52 (by decide) ?_
    refine r_sub [3, 4, 1, 2, 0] rfl ?_
    exact hk16 _ _ _ _ _ _ h
def X3_read_16 (G : kdS) : Nat → Int32 → Int32 → Int32 → Int32 → kdM → Option (Int32 × kdM) := lp (fun _ _ _ _ _ _ => none) (X3_read_16B G) NN
theorem wX3_read_16 {E : kdE} {G : kdS} {A : kdA} {r : Int32} {σ1 : kdM} (hX : kdX E A cX3_read 5 RX3 (some .boolean) 1) : ∀ (l0 : Nat) (l1 : Int32) (l2 : Int32) (l3 : Int32) (l4 : Int32) (σ : kdM), X3_read_16 G l0 l1 l2 l3 l4 σ = some (r, σ1) → SW E G (.inl (some (.int r), σ1)) A 5 σ 16 [(0, kr E l0), (1, .int l1), (2, .int l2), (3, .int l3), (4, .int l4)] [] :=
  lp_ind (Q := fun f => ∀ (l0 : Nat) (l1 : Int32) (l2 : Int32) (l3 : Int32) (l4 : Int32) (σ : kdM), f l0 l1 l2 l3 l4 σ = some (r, σ1) → SW E G (.inl (some (.int r), σ1)) A 5 σ 16 [(0, kr E l0), (1, .int l1), (2, .int l2), (3, .int l3), (4, .int l4)] []) (by intros; contradiction) (fun k hk l0 l1 l2 l3 l4 σ h => wX3_read_16B hX k hk h) NN
def X3_read (G : kdS) (l0 : Nat) (l1 : Int32) : kdM → Option (Int32 × kdM) :=
  ltI ((kmax l1 (0 : Int32))) fun t1 =>
  gI G 3 0 l0 fun t2 =>
  ltI ((t2 - (1 : Int32))) fun t3 =>
  X3_read_16 G l0 l1 t1 (0 : Int32) t3
set_option maxRecDepth 100000 in
set_option maxHeartbeats 4000000 in
theorem wX3_read {E : kdE} {G : kdS} {l0 : Nat} {l1 : Int32} {σ : kdM} {r : Int32} {σ1 : kdM} (h : X3_read G l0 l1 σ = some (r, σ1)) : Con E G yX3_read cX3_read 5 (some .boolean) 1 [kr E l0, .int l1] σ (some (.int r), σ1) := by
  refine kd_head (own := RX3) rfl (by decide +kernel) (Nat.le_of_ble_eq_true rfl) (fun A hX => ?_)
  show SW E G (.inl (some (.int r), σ1)) A 5 σ 0 [(0, kr E l0), (1, .int l1)] []
  unfold X3_read at h
  refine r_iload_n hX dX3_read_0 rfl 1 rfl ?_
  refine r_iconst hX dX3_read_1 kk_i_0 ?_
  refine r_mmax hX dX3_read_2 w_ml_X3_40 w_st_Math_max w_in_Math w_cd_Math_max (by decide) (Nat.le_of_ble_eq_true rfl) kdz0 ?_
  refine r_letI h ?_
  clear h; intro t1 h
  refine r_istore_n (L2 := [(2, .int t1), (0, kr E l0), (1, .int l1)]) hX dX3_read_5 rfl (by decide) rfl ?_
  refine r_iconst hX dX3_read_6 kk_i_0 ?_
  refine r_istore_n (L2 := [(3, .int (0 : Int32)), (2, .int t1), (0, kr E l0), (1, .int l1)]) hX dX3_read_7 rfl (by decide) rfl ?_
  refine r_aload_n hX dX3_read_8 rfl 2 rfl ?_
  refine r_gI hX dX3_read_9 kf_X3_37 rfl h ?_
  clear h; intro t2 h
  refine r_iconst hX dX3_read_12 kk_i_1 ?_
  refine r_isub hX dX3_read_13 ?_
  refine r_letI h ?_
  clear h; intro t3 h
  refine r_istore (L2 := [(4, .int t3), (3, .int (0 : Int32)), (2, .int t1), (0, kr E l0), (1, .int l1)]) hX dX3_read_14 (by decide) rfl ?_
  refine r_sub [3, 4, 2, 1, 0] rfl ?_
  exact wX3_read_16 hX _ _ _ _ _ _ h
def X3_digits_4B (G : kdS) (k4 : Nat → Int32 → Int32 → kdM → Option (Int32 × kdM)) (l0 : Nat) (l1 : Int32) (l2 : Int32) : kdM → Option (Int32 × kdM) :=
  gI G 3 0 l0 fun t1 =>
  cnd (t1 ≤ l2)
    (rt l1)
    (gR G 3 6 l0 fun t2 =>
    aI G t2 (l2) fun t3 =>
    ltI ((((10 : Int32) * l1) + t3)) fun t4 =>
    ltI (l2 + Int32.ofInt 1) fun t5 =>
    k4 l0 t4 t5)
set_option maxRecDepth 100000 in
set_option maxHeartbeats 4000000 in
theorem wX3_digits_4B {E : kdE} {G : kdS} {A : kdA} {r : Int32} {σ1 : kdM} (hX : kdX E A cX3_digits 3 RX3 (some .int) 0) (k4 : Nat → Int32 → Int32 → kdM → Option (Int32 × kdM)) (hk4 : ∀ (l0 : Nat) (l1 : Int32) (l2 : Int32) (σ : kdM), k4 l0 l1 l2 σ = some (r, σ1) → SW E G (.inl (some (.int r), σ1)) A 3 σ 4 [(0, kr E l0), (1, .int l1), (2, .int l2)] []) {σ : kdM} {l0 : Nat} {l1 : Int32} {l2 : Int32} (h : X3_digits_4B G k4 l0 l1 l2 σ = some (r, σ1)) : SW E G (.inl (some (.int r), σ1)) A 3 σ 4 [(0, kr E l0), (1, .int l1), (2, .int l2)] [] := by
  unfold X3_digits_4B at h
  refine r_iload_n hX dX3_digits_4 rfl 2 rfl ?_
  refine r_aload_n hX dX3_digits_5 rfl 0 rfl ?_
  refine r_gI hX dX3_digits_6 kf_X3_37 rfl h ?_
  clear h; intro t1 h
  refine r_icmp_ge (tgt := 30) hX dX3_digits_9 (by decide) h ?_ ?_
  · clear h; intro h
    refine r_iload_n hX dX3_digits_30 rfl 1 rfl ?_
    exact r_iret hX dX3_digits_31 h
  · clear h; intro h
    refine r_bipush hX dX3_digits_12 kk_b_10 ?_
    refine r_iload_n hX dX3_digits_14 rfl 1 rfl ?_
    refine r_imul hX dX3_digits_15 ?_
    refine r_aload_n hX dX3_digits_16 rfl 0 rfl ?_
    refine r_gR hX dX3_digits_17 kf_X3_30 rfl h ?_
    clear h; intro t2 h
    refine r_iload_n hX dX3_digits_20 rfl 2 rfl ?_
    refine r_aI hX dX3_digits_21 h ?_
    clear h; intro t3 h
    refine r_iadd hX dX3_digits_22 ?_
    refine r_letI h ?_
    clear h; intro t4 h
    refine r_istore_n (L2 := [(1, .int t4), (0, kr E l0), (2, .int l2)]) hX dX3_digits_23 rfl (by decide) rfl ?_
    refine r_iincL (L2 := fun t5 => [(2, .int t5), (1, .int t4), (0, kr E l0)]) hX dX3_digits_24 h 2 rfl (by decide) (fun _ => rfl) ?_
    clear h; intro t5 h
    refine r_goto (tgt := 4) hX dX3_digits_27 (by decide) ?_
    refine r_sub [2, 1, 0] rfl ?_
    exact hk4 _ _ _ _ h
def X3_digits_4 (G : kdS) : Nat → Int32 → Int32 → kdM → Option (Int32 × kdM) := lp (fun _ _ _ _ => none) (X3_digits_4B G) NN
theorem wX3_digits_4 {E : kdE} {G : kdS} {A : kdA} {r : Int32} {σ1 : kdM} (hX : kdX E A cX3_digits 3 RX3 (some .int) 0) : ∀ (l0 : Nat) (l1 : Int32) (l2 : Int32) (σ : kdM), X3_digits_4 G l0 l1 l2 σ = some (r, σ1) → SW E G (.inl (some (.int r), σ1)) A 3 σ 4 [(0, kr E l0), (1, .int l1), (2, .int l2)] [] :=
  lp_ind (Q := fun f => ∀ (l0 : Nat) (l1 : Int32) (l2 : Int32) (σ : kdM), f l0 l1 l2 σ = some (r, σ1) → SW E G (.inl (some (.int r), σ1)) A 3 σ 4 [(0, kr E l0), (1, .int l1), (2, .int l2)] []) (by intros; contradiction) (fun k hk l0 l1 l2 σ h => wX3_digits_4B hX k hk h) NN
def X3_digits (G : kdS) (l0 : Nat) : kdM → Option (Int32 × kdM) :=
  X3_digits_4 G l0 (0 : Int32) (0 : Int32)
set_option maxRecDepth 100000 in
set_option maxHeartbeats 4000000 in
theorem wX3_digits {E : kdE} {G : kdS} {l0 : Nat} {σ : kdM} {r : Int32} {σ1 : kdM} (h : X3_digits G l0 σ = some (r, σ1)) : Con E G yX3_digits cX3_digits 3 (some .int) 0 [kr E l0] σ (some (.int r), σ1) := by
  refine kd_head (own := RX3) rfl (by decide +kernel) (Nat.le_of_ble_eq_true rfl) (fun A hX => ?_)
  show SW E G (.inl (some (.int r), σ1)) A 3 σ 0 [(0, kr E l0)] []
  unfold X3_digits at h
  refine r_iconst hX dX3_digits_0 kk_i_0 ?_
  refine r_istore_n (L2 := [(1, .int (0 : Int32)), (0, kr E l0)]) hX dX3_digits_1 rfl (by decide) rfl ?_
  refine r_iconst hX dX3_digits_2 kk_i_0 ?_
  refine r_istore_n (L2 := [(2, .int (0 : Int32)), (1, .int (0 : Int32)), (0, kr E l0)]) hX dX3_digits_3 rfl (by decide) rfl ?_
  refine r_sub [2, 1, 0] rfl ?_
  exact wX3_digits_4 hX _ _ _ _ h
def X3_farness_29 (G : kdS) (s0 : Int32) (s1 : Int32) : kdM → Option (Int32 × kdM) :=
  rt (s0 + s1)
set_option maxRecDepth 100000 in
set_option maxHeartbeats 4000000 in
theorem wX3_farness_29 {E : kdE} {G : kdS} {A : kdA} {r : Int32} {σ1 : kdM} (hX : kdX E A cX3_farness 3 RX3 (some .int) 1) {σ : kdM} {s0 : Int32} {s1 : Int32} (h : X3_farness_29 G s0 s1 σ = some (r, σ1)) : SW E G (.inl (some (.int r), σ1)) A 3 σ 29 [] [.int s1, .int s0] := by
  unfold X3_farness_29 at h
  refine r_iadd hX dX3_farness_29 ?_
  exact r_iret hX dX3_farness_30 h
def X3_farness (G : kdS) (l0 : Nat) (l1 : Int32) (l2 : Int32) : kdM → Option (Int32 × kdM) :=
  gR G 3 2 l0 fun t1 =>
  aI G t1 (l1) fun t2 =>
  gR G 3 2 l0 fun t3 =>
  aI G t3 (l2) fun t4 =>
  cnd (t2 = t4)
    (gI G 3 5 l0 fun t5 =>
    X3_farness_29 G (kabs (l1 - l2)) t5)
    (X3_farness_29 G (kabs (l1 - l2)) (0 : Int32))
set_option maxRecDepth 100000 in
set_option maxHeartbeats 4000000 in
theorem wX3_farness {E : kdE} {G : kdS} {l0 : Nat} {l1 : Int32} {l2 : Int32} {σ : kdM} {r : Int32} {σ1 : kdM} (h : X3_farness G l0 l1 l2 σ = some (r, σ1)) : Con E G yX3_farness cX3_farness 3 (some .int) 1 [kr E l0, .int l1, .int l2] σ (some (.int r), σ1) := by
  refine kd_head (own := RX3) rfl (by decide +kernel) (Nat.le_of_ble_eq_true rfl) (fun A hX => ?_)
  show SW E G (.inl (some (.int r), σ1)) A 3 σ 0 [(0, kr E l0), (1, .int l1), (2, .int l2)] []
  unfold X3_farness at h
  refine r_iload_n hX dX3_farness_0 rfl 1 rfl ?_
  refine r_iload_n hX dX3_farness_1 rfl 2 rfl ?_
  refine r_isub hX dX3_farness_2 ?_
  refine r_mabs hX dX3_farness_3 w_ml_X3_52 w_st_Math_abs w_in_Math w_cd_Math_abs (by decide) (Nat.le_of_ble_eq_true rfl) kdz0 ?_
  refine r_aload_n hX dX3_farness_6 rfl 0 rfl ?_
  refine r_gR hX dX3_farness_7 kf_X3_15 rfl h ?_
  clear h; intro t1 h
  refine r_iload_n hX dX3_farness_10 rfl 1 rfl ?_
  refine r_aI hX dX3_farness_11 h ?_
  clear h; intro t2 h
  refine r_aload_n hX dX3_farness_12 rfl 0 rfl ?_
  refine r_gR hX dX3_farness_13 kf_X3_15 rfl h ?_
  clear h; intro t3 h
  refine r_iload_n hX dX3_farness_16 rfl 2 rfl ?_
  refine r_aI hX dX3_farness_17 h ?_
  clear h; intro t4 h
  refine r_icmp_ne (tgt := 28) hX dX3_farness_18 (by decide) h ?_ ?_
  · clear h; intro h
    refine r_aload_n hX dX3_farness_21 rfl 0 rfl ?_
    refine r_gI hX dX3_farness_22 kf_X3_26 rfl h ?_
    clear h; intro t5 h
    refine r_goto (tgt := 29) hX dX3_farness_25 (by decide) ?_
    refine r_sub [] rfl ?_
    exact wX3_farness_29 hX h
  · clear h; intro h
    refine r_iconst hX dX3_farness_28 kk_i_0 ?_
    refine r_sub [] rfl ?_
    exact wX3_farness_29 hX h
def X3_addedCost_72 (G : kdS) (k21 : Nat → Int32 → Int32 → Int32 → kdM → Option (Int32 × kdM)) (l0 : Nat) (l1 : Int32) (l2 : Int32) (l3 : Int32) : kdM → Option (Int32 × kdM) :=
  ltI (l3 + Int32.ofInt 1) fun t1 =>
  k21 l0 l1 l2 t1
set_option maxRecDepth 100000 in
set_option maxHeartbeats 4000000 in
theorem wX3_addedCost_72 {E : kdE} {G : kdS} {A : kdA} {r : Int32} {σ1 : kdM} (hX : kdX E A cX3_addedCost 5 RX3 (some .int) 2) (k21 : Nat → Int32 → Int32 → Int32 → kdM → Option (Int32 × kdM)) (hk21 : ∀ (l0 : Nat) (l1 : Int32) (l2 : Int32) (l3 : Int32) (σ : kdM), k21 l0 l1 l2 l3 σ = some (r, σ1) → SW E G (.inl (some (.int r), σ1)) A 5 σ 21 [(0, kr E l0), (1, .int l1), (2, .int l2), (3, .int l3)] []) {σ : kdM} {l0 : Nat} {l1 : Int32} {l2 : Int32} {l3 : Int32} (h : X3_addedCost_72 G k21 l0 l1 l2 l3 σ = some (r, σ1)) : SW E G (.inl (some (.int r), σ1)) A 5 σ 72 [(0, kr E l0), (1, .int l1), (2, .int l2), (3, .int l3)] [] := by
  unfold X3_addedCost_72 at h
  refine r_iincL (L2 := fun t1 => [(3, .int t1), (0, kr E l0), (1, .int l1), (2, .int l2)]) hX dX3_addedCost_72 h 3 rfl (by decide) (fun _ => rfl) ?_
  clear h; intro t1 h
  refine r_goto (tgt := 21) hX dX3_addedCost_75 (by decide) ?_
  refine r_sub [1, 2, 3, 0] rfl ?_
  exact hk21 _ _ _ _ _ h
def X3_addedCost_21B (G : kdS) (k21 : Nat → Int32 → Int32 → Int32 → kdM → Option (Int32 × kdM)) (l0 : Nat) (l1 : Int32) (l2 : Int32) (l3 : Int32) : kdM → Option (Int32 × kdM) :=
  cnd (l1 ≤ l3)
    (rt l2)
    (gR G 3 4 l0 fun t1 =>
    aR G 18 t1 (l1) fun t2 =>
    aI G t2 (l3) fun t3 =>
    gR G 3 4 l0 fun t4 =>
    aR G 18 t4 (l3) fun t5 =>
    aI G t5 (l1) fun t6 =>
    ltI ((t3 + t6)) fun t7 =>
    cnd (t7 ≤ 0)
      (X3_addedCost_72 G k21 l0 l1 l2 l3)
      (gR G 3 6 l0 fun t8 =>
      aI G t8 (l1) fun t9 =>
      gR G 3 6 l0 fun t10 =>
      aI G t10 (l3) fun t11 =>
      kcv G 3 l0 (X3_farness G l0 t9 t11) fun t12 =>
      ltI ((l2 + (t7 * t12))) fun t13 =>
      X3_addedCost_72 G k21 l0 l1 t13 l3))
set_option maxRecDepth 100000 in
set_option maxHeartbeats 4000000 in
theorem wX3_addedCost_21B {E : kdE} {G : kdS} {A : kdA} {r : Int32} {σ1 : kdM} (hX : kdX E A cX3_addedCost 5 RX3 (some .int) 2) (k21 : Nat → Int32 → Int32 → Int32 → kdM → Option (Int32 × kdM)) (hk21 : ∀ (l0 : Nat) (l1 : Int32) (l2 : Int32) (l3 : Int32) (σ : kdM), k21 l0 l1 l2 l3 σ = some (r, σ1) → SW E G (.inl (some (.int r), σ1)) A 5 σ 21 [(0, kr E l0), (1, .int l1), (2, .int l2), (3, .int l3)] []) {σ : kdM} {l0 : Nat} {l1 : Int32} {l2 : Int32} {l3 : Int32} (h : X3_addedCost_21B G k21 l0 l1 l2 l3 σ = some (r, σ1)) : SW E G (.inl (some (.int r), σ1)) A 5 σ 21 [(0, kr E l0), (1, .int l1), (2, .int l2), (3, .int l3)] [] := by
  unfold X3_addedCost_21B at h
  refine r_iload_n hX dX3_addedCost_21 rfl 3 rfl ?_
  refine r_iload_n hX dX3_addedCost_22 rfl 1 rfl ?_
  refine r_icmp_ge (tgt := 78) hX dX3_addedCost_23 (by decide) h ?_ ?_
  · clear h; intro h
    refine r_iload_n hX dX3_addedCost_78 rfl 2 rfl ?_
    exact r_iret hX dX3_addedCost_79 h
  · clear h; intro h
    refine r_aload_n hX dX3_addedCost_26 rfl 0 rfl ?_
    refine r_gR hX dX3_addedCost_27 kf_X3_23 rfl h ?_
    clear h; intro t1 h
    refine r_iload_n hX dX3_addedCost_30 rfl 1 rfl ?_
    refine r_aR18 hX dX3_addedCost_31 h ?_
    clear h; intro t2 h
    refine r_iload_n hX dX3_addedCost_32 rfl 3 rfl ?_
    refine r_aI hX dX3_addedCost_33 h ?_
    clear h; intro t3 h
    refine r_aload_n hX dX3_addedCost_34 rfl 0 rfl ?_
    refine r_gR hX dX3_addedCost_35 kf_X3_23 rfl h ?_
    clear h; intro t4 h
    refine r_iload_n hX dX3_addedCost_38 rfl 3 rfl ?_
    refine r_aR18 hX dX3_addedCost_39 h ?_
    clear h; intro t5 h
    refine r_iload_n hX dX3_addedCost_40 rfl 1 rfl ?_
    refine r_aI hX dX3_addedCost_41 h ?_
    clear h; intro t6 h
    refine r_iadd hX dX3_addedCost_42 ?_
    refine r_letI h ?_
    clear h; intro t7 h
    refine r_istore (L2 := [(4, .int t7), (0, kr E l0), (1, .int l1), (2, .int l2), (3, .int l3)]) hX dX3_addedCost_43 (by decide) rfl ?_
    refine r_iload hX dX3_addedCost_45 0 rfl ?_
    refine r_if_le (tgt := 72) hX dX3_addedCost_47 (by decide) h ?_ ?_
    · clear h; intro h
      refine r_sub [1, 2, 3, 4] rfl ?_
      exact wX3_addedCost_72 hX k21 hk21 h
    · clear h; intro h
      refine r_iload_n hX dX3_addedCost_50 rfl 3 rfl ?_
      refine r_iload hX dX3_addedCost_51 0 rfl ?_
      refine r_aload_n hX dX3_addedCost_53 rfl 1 rfl ?_
      refine r_aload_n hX dX3_addedCost_54 rfl 1 rfl ?_
      refine r_gR hX dX3_addedCost_55 kf_X3_30 rfl h ?_
      clear h; intro t8 h
      refine r_iload_n hX dX3_addedCost_58 rfl 2 rfl ?_
      refine r_aI hX dX3_addedCost_59 h ?_
      clear h; intro t9 h
      refine r_aload_n hX dX3_addedCost_60 rfl 1 rfl ?_
      refine r_gR hX dX3_addedCost_61 kf_X3_30 rfl h ?_
      clear h; intro t10 h
      refine r_iload_n hX dX3_addedCost_64 rfl 4 rfl ?_
      refine r_aI hX dX3_addedCost_65 h ?_
      clear h; intro t11 h
      refine r_cVi (As := [.int t9, .int t11]) (st := [.int t7, .int l2]) hX dX3_addedCost_66 kl_X3_farness w_ml_X3_49 w_im_X3_farness w_se_X3_farness ⟨_, _, rfl⟩ (by decide) rfl (Nat.le_of_ble_eq_true rfl) rfl kdz0 h (fun r σ1 h => wX3_farness h) ?_
      clear h; intro t12 σ h
      refine r_imul hX dX3_addedCost_69 ?_
      refine r_iadd hX dX3_addedCost_70 ?_
      refine r_letI h ?_
      clear h; intro t13 h
      refine r_istore_n (L2 := [(2, .int t13), (4, .int t7), (0, kr E l0), (1, .int l1), (3, .int l3)]) hX dX3_addedCost_71 rfl (by decide) rfl ?_
      refine r_sub [2, 3, 0, 4] rfl ?_
      exact wX3_addedCost_72 hX k21 hk21 h
def X3_addedCost_21 (G : kdS) : Nat → Int32 → Int32 → Int32 → kdM → Option (Int32 × kdM) := lp (fun _ _ _ _ _ => none) (X3_addedCost_21B G) NN
theorem wX3_addedCost_21 {E : kdE} {G : kdS} {A : kdA} {r : Int32} {σ1 : kdM} (hX : kdX E A cX3_addedCost 5 RX3 (some .int) 2) : ∀ (l0 : Nat) (l1 : Int32) (l2 : Int32) (l3 : Int32) (σ : kdM), X3_addedCost_21 G l0 l1 l2 l3 σ = some (r, σ1) → SW E G (.inl (some (.int r), σ1)) A 5 σ 21 [(0, kr E l0), (1, .int l1), (2, .int l2), (3, .int l3)] [] :=
  lp_ind (Q := fun f => ∀ (l0 : Nat) (l1 : Int32) (l2 : Int32) (l3 : Int32) (σ : kdM), f l0 l1 l2 l3 σ = some (r, σ1) → SW E G (.inl (some (.int r), σ1)) A 5 σ 21 [(0, kr E l0), (1, .int l1), (2, .int l2), (3, .int l3)] []) (by intros; contradiction) (fun k hk l0 l1 l2 l3 σ h => wX3_addedCost_21B hX k hk h) NN
def X3_addedCost (G : kdS) (l0 : Nat) (l1 : Int32) : kdM → Option (Int32 × kdM) :=
  gR G 3 3 l0 fun t1 =>
  aI G t1 (l1) fun t2 =>
  gR G 3 1 l0 fun t3 =>
  gR G 3 6 l0 fun t4 =>
  aI G t4 (l1) fun t5 =>
  aI G t3 (t5) fun t6 =>
  ltI ((t2 * t6)) fun t7 =>
  X3_addedCost_21 G l0 l1 t7 (0 : Int32)
set_option maxRecDepth 100000 in
set_option maxHeartbeats 4000000 in
theorem wX3_addedCost {E : kdE} {G : kdS} {l0 : Nat} {l1 : Int32} {σ : kdM} {r : Int32} {σ1 : kdM} (h : X3_addedCost G l0 l1 σ = some (r, σ1)) : Con E G yX3_addedCost cX3_addedCost 5 (some .int) 2 [kr E l0, .int l1] σ (some (.int r), σ1) := by
  refine kd_head (own := RX3) rfl (by decide +kernel) (Nat.le_of_ble_eq_true rfl) (fun A hX => ?_)
  show SW E G (.inl (some (.int r), σ1)) A 5 σ 0 [(0, kr E l0), (1, .int l1)] []
  unfold X3_addedCost at h
  refine r_aload_n hX dX3_addedCost_0 rfl 0 rfl ?_
  refine r_gR hX dX3_addedCost_1 kf_X3_18 rfl h ?_
  clear h; intro t1 h
  refine r_iload_n hX dX3_addedCost_4 rfl 1 rfl ?_
  refine r_aI hX dX3_addedCost_5 h ?_
  clear h; intro t2 h
  refine r_aload_n hX dX3_addedCost_6 rfl 0 rfl ?_
  refine r_gR hX dX3_addedCost_7 kf_X3_9 rfl h ?_
  clear h; intro t3 h
  refine r_aload_n hX dX3_addedCost_10 rfl 0 rfl ?_
  refine r_gR hX dX3_addedCost_11 kf_X3_30 rfl h ?_
  clear h; intro t4 h
  refine r_iload_n hX dX3_addedCost_14 rfl 1 rfl ?_
  refine r_aI hX dX3_addedCost_15 h ?_
  clear h; intro t5 h
  refine r_aI hX dX3_addedCost_16 h ?_
  clear h; intro t6 h
  refine r_imul hX dX3_addedCost_17 ?_
  refine r_letI h ?_
  clear h; intro t7 h
  refine r_istore_n (L2 := [(2, .int t7), (0, kr E l0), (1, .int l1)]) hX dX3_addedCost_18 rfl (by decide) rfl ?_
  refine r_iconst hX dX3_addedCost_19 kk_i_0 ?_
  refine r_istore_n (L2 := [(3, .int (0 : Int32)), (2, .int t7), (0, kr E l0), (1, .int l1)]) hX dX3_addedCost_20 rfl (by decide) rfl ?_
  refine r_sub [2, 3, 1, 0] rfl ?_
  exact wX3_addedCost_21 hX _ _ _ _ _ h
def X3_totalCost_4B (G : kdS) (k4 : Nat → Int32 → Int32 → kdM → Option (Int32 × kdM)) (l0 : Nat) (l1 : Int32) (l2 : Int32) : kdM → Option (Int32 × kdM) :=
  gI G 3 0 l0 fun t1 =>
  cnd (t1 ≤ l2)
    (rt l1)
    (kcv G 3 l0 (X3_addedCost G l0 l2) fun t2 =>
    ltI ((l1 + t2)) fun t3 =>
    ltI (l2 + Int32.ofInt 1) fun t4 =>
    k4 l0 t3 t4)
set_option maxRecDepth 100000 in
set_option maxHeartbeats 4000000 in
theorem wX3_totalCost_4B {E : kdE} {G : kdS} {A : kdA} {r : Int32} {σ1 : kdM} (hX : kdX E A cX3_totalCost 3 RX3 (some .int) 3) (k4 : Nat → Int32 → Int32 → kdM → Option (Int32 × kdM)) (hk4 : ∀ (l0 : Nat) (l1 : Int32) (l2 : Int32) (σ : kdM), k4 l0 l1 l2 σ = some (r, σ1) → SW E G (.inl (some (.int r), σ1)) A 3 σ 4 [(0, kr E l0), (1, .int l1), (2, .int l2)] []) {σ : kdM} {l0 : Nat} {l1 : Int32} {l2 : Int32} (h : X3_totalCost_4B G k4 l0 l1 l2 σ = some (r, σ1)) : SW E G (.inl (some (.int r), σ1)) A 3 σ 4 [(0, kr E l0), (1, .int l1), (2, .int l2)] [] := by
  unfold X3_totalCost_4B at h
  refine r_iload_n hX dX3_totalCost_4 rfl 2 rfl ?_
  refine r_aload_n hX dX3_totalCost_5 rfl 0 rfl ?_
  refine r_gI hX dX3_totalCost_6 kf_X3_37 rfl h ?_
  clear h; intro t1 h
  refine r_icmp_ge (tgt := 26) hX dX3_totalCost_9 (by decide) h ?_ ?_
  · clear h; intro h
    refine r_iload_n hX dX3_totalCost_26 rfl 1 rfl ?_
    exact r_iret hX dX3_totalCost_27 h
  · clear h; intro h
    refine r_iload_n hX dX3_totalCost_12 rfl 1 rfl ?_
    refine r_aload_n hX dX3_totalCost_13 rfl 0 rfl ?_
    refine r_iload_n hX dX3_totalCost_14 rfl 2 rfl ?_
    refine r_cVi (As := [.int l2]) (st := [.int l1]) hX dX3_totalCost_15 kl_X3_addedCost w_ml_X3_46 w_im_X3_addedCost w_se_X3_addedCost ⟨_, _, rfl⟩ (by decide) rfl (Nat.le_of_ble_eq_true rfl) rfl kdz0 h (fun r σ1 h => wX3_addedCost h) ?_
    clear h; intro t2 σ h
    refine r_iadd hX dX3_totalCost_18 ?_
    refine r_letI h ?_
    clear h; intro t3 h
    refine r_istore_n (L2 := [(1, .int t3), (0, kr E l0), (2, .int l2)]) hX dX3_totalCost_19 rfl (by decide) rfl ?_
    refine r_iincL (L2 := fun t4 => [(2, .int t4), (1, .int t3), (0, kr E l0)]) hX dX3_totalCost_20 h 2 rfl (by decide) (fun _ => rfl) ?_
    clear h; intro t4 h
    refine r_goto (tgt := 4) hX dX3_totalCost_23 (by decide) ?_
    refine r_sub [2, 1, 0] rfl ?_
    exact hk4 _ _ _ _ h
def X3_totalCost_4 (G : kdS) : Nat → Int32 → Int32 → kdM → Option (Int32 × kdM) := lp (fun _ _ _ _ => none) (X3_totalCost_4B G) NN
theorem wX3_totalCost_4 {E : kdE} {G : kdS} {A : kdA} {r : Int32} {σ1 : kdM} (hX : kdX E A cX3_totalCost 3 RX3 (some .int) 3) : ∀ (l0 : Nat) (l1 : Int32) (l2 : Int32) (σ : kdM), X3_totalCost_4 G l0 l1 l2 σ = some (r, σ1) → SW E G (.inl (some (.int r), σ1)) A 3 σ 4 [(0, kr E l0), (1, .int l1), (2, .int l2)] [] :=
  lp_ind (Q := fun f => ∀ (l0 : Nat) (l1 : Int32) (l2 : Int32) (σ : kdM), f l0 l1 l2 σ = some (r, σ1) → SW E G (.inl (some (.int r), σ1)) A 3 σ 4 [(0, kr E l0), (1, .int l1), (2, .int l2)] []) (by intros; contradiction) (fun k hk l0 l1 l2 σ h => wX3_totalCost_4B hX k hk h) NN
def X3_totalCost (G : kdS) (l0 : Nat) : kdM → Option (Int32 × kdM) :=
  X3_totalCost_4 G l0 (0 : Int32) (0 : Int32)
set_option maxRecDepth 100000 in
set_option maxHeartbeats 4000000 in
theorem wX3_totalCost {E : kdE} {G : kdS} {l0 : Nat} {σ : kdM} {r : Int32} {σ1 : kdM} (h : X3_totalCost G l0 σ = some (r, σ1)) : Con E G yX3_totalCost cX3_totalCost 3 (some .int) 3 [kr E l0] σ (some (.int r), σ1) := by
  refine kd_head (own := RX3) rfl (by decide +kernel) (Nat.le_of_ble_eq_true rfl) (fun A hX => ?_)
  show SW E G (.inl (some (.int r), σ1)) A 3 σ 0 [(0, kr E l0)] []
  unfold X3_totalCost at h
  refine r_iconst hX dX3_totalCost_0 kk_i_0 ?_
  refine r_istore_n (L2 := [(1, .int (0 : Int32)), (0, kr E l0)]) hX dX3_totalCost_1 rfl (by decide) rfl ?_
  refine r_iconst hX dX3_totalCost_2 kk_i_0 ?_
  refine r_istore_n (L2 := [(2, .int (0 : Int32)), (1, .int (0 : Int32)), (0, kr E l0)]) hX dX3_totalCost_3 rfl (by decide) rfl ?_
  refine r_sub [2, 1, 0] rfl ?_
  exact wX3_totalCost_4 hX _ _ _ _ h
def X3_exchange (G : kdS) (l0 : Nat) (l1 : Int32) (l2 : Int32) : kdM → Option (Unit × kdM) :=
  gR G 3 6 l0 fun t1 =>
  aI G t1 (l1) fun t2 =>
  gR G 3 6 l0 fun t3 =>
  gR G 3 6 l0 fun t4 =>
  aI G t4 (l2) fun t5 =>
  tI G t3 (l1) (t5) <|
  gR G 3 6 l0 fun t6 =>
  tI G t6 (l2) (t2) <|
  rt ()
set_option maxRecDepth 100000 in
set_option maxHeartbeats 4000000 in
theorem wX3_exchange {E : kdE} {G : kdS} {l0 : Nat} {l1 : Int32} {l2 : Int32} {σ : kdM} {r : Unit} {σ1 : kdM} (h : X3_exchange G l0 l1 l2 σ = some (r, σ1)) : Con E G yX3_exchange cX3_exchange 4 none 0 [kr E l0, .int l1, .int l2] σ (none, σ1) := by
  refine kd_head (own := RX3) rfl (by decide +kernel) (Nat.le_of_ble_eq_true rfl) (fun A hX => ?_)
  show SW E G (.inl (none, σ1)) A 4 σ 0 [(0, kr E l0), (1, .int l1), (2, .int l2)] []
  unfold X3_exchange at h
  refine r_aload_n hX dX3_exchange_0 rfl 0 rfl ?_
  refine r_gR hX dX3_exchange_1 kf_X3_30 rfl h ?_
  clear h; intro t1 h
  refine r_iload_n hX dX3_exchange_4 rfl 1 rfl ?_
  refine r_aI hX dX3_exchange_5 h ?_
  clear h; intro t2 h
  refine r_istore_n (L2 := [(3, .int t2), (0, kr E l0), (1, .int l1), (2, .int l2)]) hX dX3_exchange_6 rfl (by decide) rfl ?_
  refine r_aload_n hX dX3_exchange_7 rfl 1 rfl ?_
  refine r_gR hX dX3_exchange_8 kf_X3_30 rfl h ?_
  clear h; intro t3 h
  refine r_iload_n hX dX3_exchange_11 rfl 2 rfl ?_
  refine r_aload_n hX dX3_exchange_12 rfl 1 rfl ?_
  refine r_gR hX dX3_exchange_13 kf_X3_30 rfl h ?_
  clear h; intro t4 h
  refine r_iload_n hX dX3_exchange_16 rfl 3 rfl ?_
  refine r_aI hX dX3_exchange_17 h ?_
  clear h; intro t5 h
  refine r_tI hX dX3_exchange_18 h ?_
  clear h; intro σ h
  refine r_aload_n hX dX3_exchange_19 rfl 1 rfl ?_
  refine r_gR hX dX3_exchange_20 kf_X3_30 rfl h ?_
  clear h; intro t6 h
  refine r_iload_n hX dX3_exchange_23 rfl 3 rfl ?_
  refine r_iload_n hX dX3_exchange_24 rfl 0 rfl ?_
  refine r_tI hX dX3_exchange_25 h ?_
  clear h; intro σ h
  exact r_vret hX dX3_exchange_26 h
def X3_placeOnward_80 (G : kdS) (krec : Nat → Int32 → Int32 → Int32 → kdM → Option (Unit × kdM)) (k34 : Nat → Int32 → Int32 → Int32 → Int32 → kdM → Option (Unit × kdM)) (l0 : Nat) (l1 : Int32) (l2 : Int32) (l3 : Int32) (l4 : Int32) : kdM → Option (Unit × kdM) :=
  ltI (l4 + Int32.ofInt 1) fun t1 =>
  k34 l0 l1 l2 l3 t1
set_option maxRecDepth 100000 in
set_option maxHeartbeats 4000000 in
theorem wX3_placeOnward_80 {E : kdE} {G : kdS} {A : kdA} {r : Unit} {σ1 : kdM} (n : Nat) (krec : Nat → Int32 → Int32 → Int32 → kdM → Option (Unit × kdM)) (hX : kdX E A cX3_placeOnward 5 RX3 none (3 + n + 1)) (hrec : ∀ (x0 : Nat) (x1 : Int32) (x2 : Int32) (x3 : Int32) (σ : kdM) (r : Unit) (σ1 : kdM), krec x0 x1 x2 x3 σ = some (r, σ1) → Con E G yX3_placeOnward cX3_placeOnward 5 none (3 + n) [kr E x0, .int x1, .int x2, .int x3] σ (none, σ1)) (k34 : Nat → Int32 → Int32 → Int32 → Int32 → kdM → Option (Unit × kdM)) (hk34 : ∀ (l0 : Nat) (l1 : Int32) (l2 : Int32) (l3 : Int32) (l4 : Int32) (σ : kdM), k34 l0 l1 l2 l3 l4 σ = some (r, σ1) → SW E G (.inl (none, σ1)) A 5 σ 34 [(0, kr E l0), (1, .int l1), (2, .int l2), (3, .int l3), (4, .int l4)] []) {σ : kdM} {l0 : Nat} {l1 : Int32} {l2 : Int32} {l3 : Int32} {l4 : Int32} (h : X3_placeOnward_80 G krec k34 l0 l1 l2 l3 l4 σ = some (r, σ1)) : SW E G (.inl (none, σ1)) A 5 σ 80 [(0, kr E l0), (1, .int l1), (2, .int l2), (3, .int l3), (4, .int l4)] [] := by
  unfold X3_placeOnward_80 at h
  refine r_iincL (L2 := fun t1 => [(4, .int t1), (0, kr E l0), (1, .int l1), (2, .int l2), (3, .int l3)]) hX dX3_placeOnward_80 h 4 rfl (by decide) (fun _ => rfl) ?_
  clear h; intro t1 h
  refine r_goto (tgt := 34) hX dX3_placeOnward_83 (by decide) ?_
  refine r_sub [1, 2, 3, 4, 0] rfl ?_
  exact hk34 _ _ _ _ _ _ h
def X3_placeOnward_34B (G : kdS) (krec : Nat → Int32 → Int32 → Int32 → kdM → Option (Unit × kdM)) (k34 : Nat → Int32 → Int32 → Int32 → Int32 → kdM → Option (Unit × kdM)) (l0 : Nat) (l1 : Int32) (l2 : Int32) (l3 : Int32) (l4 : Int32) : kdM → Option (Unit × kdM) :=
  gI G 3 0 l0 fun t1 =>
  cnd (t1 ≤ l4)
    (rt ())
    (kcl (X11_hasBit G l2 l4) fun t2 =>
    cnd (t2 = 0)
      (gR G 3 6 l0 fun t3 =>
      tI G t3 (l1) (l4) <|
      kcv G 3 l0 (X3_addedCost G l0 l1) fun t4 =>
      kcl (krec l0 (l1 + (1 : Int32)) (l2 ||| ((1 : Int32) <<< (l4 &&& 31))) (l3 + t4)) fun _ =>
      X3_placeOnward_80 G krec k34 l0 l1 l2 l3 l4)
      (X3_placeOnward_80 G krec k34 l0 l1 l2 l3 l4))
set_option maxRecDepth 100000 in
set_option maxHeartbeats 4000000 in
theorem wX3_placeOnward_34B {E : kdE} {G : kdS} {A : kdA} {r : Unit} {σ1 : kdM} (n : Nat) (krec : Nat → Int32 → Int32 → Int32 → kdM → Option (Unit × kdM)) (hX : kdX E A cX3_placeOnward 5 RX3 none (3 + n + 1)) (hrec : ∀ (x0 : Nat) (x1 : Int32) (x2 : Int32) (x3 : Int32) (σ : kdM) (r : Unit) (σ1 : kdM), krec x0 x1 x2 x3 σ = some (r, σ1) → Con E G yX3_placeOnward cX3_placeOnward 5 none (3 + n) [kr E x0, .int x1, .int x2, .int x3] σ (none, σ1)) (k34 : Nat → Int32 → Int32 → Int32 → Int32 → kdM → Option (Unit × kdM)) (hk34 : ∀ (l0 : Nat) (l1 : Int32) (l2 : Int32) (l3 : Int32) (l4 : Int32) (σ : kdM), k34 l0 l1 l2 l3 l4 σ = some (r, σ1) → SW E G (.inl (none, σ1)) A 5 σ 34 [(0, kr E l0), (1, .int l1), (2, .int l2), (3, .int l3), (4, .int l4)] []) {σ : kdM} {l0 : Nat} {l1 : Int32} {l2 : Int32} {l3 : Int32} {l4 : Int32} (h : X3_placeOnward_34B G krec k34 l0 l1 l2 l3 l4 σ = some (r, σ1)) : SW E G (.inl (none, σ1)) A 5 σ 34 [(0, kr E l0), (1, .int l1), (2, .int l2), (3, .int l3), (4, .int l4)] [] := by
  unfold X3_placeOnward_34B at h
  refine r_iload hX dX3_placeOnward_34 4 rfl ?_
  refine r_aload_n hX dX3_placeOnward_36 rfl 0 rfl ?_
  refine r_gI hX dX3_placeOnward_37 kf_X3_37 rfl h ?_
  clear h; intro t1 h
  refine r_icmp_ge (tgt := 86) hX dX3_placeOnward_40 (by decide) h ?_ ?_
  · clear h; intro h
    exact r_vret hX dX3_placeOnward_86 h
  · clear h; intro h
    refine r_iload_n hX dX3_placeOnward_43 rfl 2 rfl ?_
    refine r_iload hX dX3_placeOnward_44 4 rfl ?_
    refine r_cNi (host := "KeyDesk") (As := [.int l2, .int l4]) (st := []) hX dX3_placeOnward_46 kl_X11_hasBit (by decide +kernel) w_st_X11_hasBit (by omega) rfl (Nat.le_of_ble_eq_true rfl) rfl kdz0 h (fun r σ1 h => wX11_hasBit h) ?_
    clear h; intro t2 σ h
    refine r_if_ne (tgt := 80) hX dX3_placeOnward_49 (by decide) h ?_ ?_
    · clear h; intro h
      refine r_aload_n hX dX3_placeOnward_52 rfl 0 rfl ?_
      refine r_gR hX dX3_placeOnward_53 kf_X3_30 rfl h ?_
      clear h; intro t3 h
      refine r_iload_n hX dX3_placeOnward_56 rfl 1 rfl ?_
      refine r_iload hX dX3_placeOnward_57 4 rfl ?_
      refine r_tI hX dX3_placeOnward_59 h ?_
      clear h; intro σ h
      refine r_aload_n hX dX3_placeOnward_60 rfl 0 rfl ?_
      refine r_iload_n hX dX3_placeOnward_61 rfl 1 rfl ?_
      refine r_iconst hX dX3_placeOnward_62 kk_i_1 ?_
      refine r_iadd hX dX3_placeOnward_63 ?_
      refine r_iload_n hX dX3_placeOnward_64 rfl 2 rfl ?_
      refine r_iconst hX dX3_placeOnward_65 kk_i_1 ?_
      refine r_iload hX dX3_placeOnward_66 4 rfl ?_
      refine r_ishl hX dX3_placeOnward_68 ?_
      refine r_ior hX dX3_placeOnward_69 ?_
      refine r_iload_n hX dX3_placeOnward_70 rfl 3 rfl ?_
      refine r_aload_n hX dX3_placeOnward_71 rfl 0 rfl ?_
      refine r_iload_n hX dX3_placeOnward_72 rfl 1 rfl ?_
      refine r_cVi (As := [.int l1]) (st := [.int l3, .int (l2 ||| ((1 : Int32) <<< (l4 &&& 31))), .int (l1 + (1 : Int32)), kr E l0]) hX dX3_placeOnward_73 kl_X3_addedCost w_ml_X3_46 w_im_X3_addedCost w_se_X3_addedCost ⟨_, _, rfl⟩ (by omega) rfl (Nat.le_of_ble_eq_true rfl) rfl kdz0 h (fun r σ1 h => wX3_addedCost h) ?_
      clear h; intro t4 σ h
      refine r_iadd hX dX3_placeOnward_76 ?_
      refine r_cSv (As := [kr E l0, .int (l1 + (1 : Int32)), .int (l2 ||| ((1 : Int32) <<< (l4 &&& 31))), .int (l3 + t4)]) (st := []) hX dX3_placeOnward_77 kl_X3_placeOnward w_ml_X3_62 w_st_X3_placeOnward (by omega) rfl (Nat.le_of_ble_eq_true rfl) rfl kdz0 h (fun r σ1 h => hrec _ _ _ _ _ _ _ h) ?_
      clear h; intro u σ h
      refine r_sub [0, 1, 2, 3, 4] rfl ?_
      exact wX3_placeOnward_80 n krec hX hrec k34 hk34 h
    · clear h; intro h
      refine r_sub [0, 1, 2, 3, 4] rfl ?_
      exact wX3_placeOnward_80 n krec hX hrec k34 hk34 h
def X3_placeOnward_34 (G : kdS) (krec : Nat → Int32 → Int32 → Int32 → kdM → Option (Unit × kdM)) : Nat → Int32 → Int32 → Int32 → Int32 → kdM → Option (Unit × kdM) := lp (fun _ _ _ _ _ _ => none) (X3_placeOnward_34B G krec) NN
theorem wX3_placeOnward_34 {E : kdE} {G : kdS} {A : kdA} {r : Unit} {σ1 : kdM} (n : Nat) (krec : Nat → Int32 → Int32 → Int32 → kdM → Option (Unit × kdM)) (hX : kdX E A cX3_placeOnward 5 RX3 none (3 + n + 1)) (hrec : ∀ (x0 : Nat) (x1 : Int32) (x2 : Int32) (x3 : Int32) (σ : kdM) (r : Unit) (σ1 : kdM), krec x0 x1 x2 x3 σ = some (r, σ1) → Con E G yX3_placeOnward cX3_placeOnward 5 none (3 + n) [kr E x0, .int x1, .int x2, .int x3] σ (none, σ1)) : ∀ (l0 : Nat) (l1 : Int32) (l2 : Int32) (l3 : Int32) (l4 : Int32) (σ : kdM), X3_placeOnward_34 G krec l0 l1 l2 l3 l4 σ = some (r, σ1) → SW E G (.inl (none, σ1)) A 5 σ 34 [(0, kr E l0), (1, .int l1), (2, .int l2), (3, .int l3), (4, .int l4)] [] :=
  lp_ind (Q := fun f => ∀ (l0 : Nat) (l1 : Int32) (l2 : Int32) (l3 : Int32) (l4 : Int32) (σ : kdM), f l0 l1 l2 l3 l4 σ = some (r, σ1) → SW E G (.inl (none, σ1)) A 5 σ 34 [(0, kr E l0), (1, .int l1), (2, .int l2), (3, .int l3), (4, .int l4)] []) (by intros; contradiction) (fun k hk l0 l1 l2 l3 l4 σ h => wX3_placeOnward_34B n krec hX hrec k hk h) NN
def X3_placeOnward_0B (G : kdS) (krec : Nat → Int32 → Int32 → Int32 → kdM → Option (Unit × kdM)) (l0 : Nat) (l1 : Int32) (l2 : Int32) (l3 : Int32) : kdM → Option (Unit × kdM) :=
  gI G 3 7 l0 fun t1 =>
  cnd (l3 < t1)
    (gI G 3 0 l0 fun t2 =>
    cnd (l1 < t2)
      (X3_placeOnward_34 G krec l0 l1 l2 l3 (0 : Int32))
      (sI G 3 7 l0 (l3) <|
      kcv G 3 l0 (X3_digits G l0) fun t3 =>
      sI G 3 8 l0 (t3) <|
      rt ()))
    (rt ())
set_option maxRecDepth 100000 in
set_option maxHeartbeats 4000000 in
theorem wX3_placeOnward_0B {E : kdE} {G : kdS} (n : Nat) (krec : Nat → Int32 → Int32 → Int32 → kdM → Option (Unit × kdM)) (hrec : ∀ (x0 : Nat) (x1 : Int32) (x2 : Int32) (x3 : Int32) (σ : kdM) (r : Unit) (σ1 : kdM), krec x0 x1 x2 x3 σ = some (r, σ1) → Con E G yX3_placeOnward cX3_placeOnward 5 none (3 + n) [kr E x0, .int x1, .int x2, .int x3] σ (none, σ1)) {l0 : Nat} {l1 : Int32} {l2 : Int32} {l3 : Int32} {σ : kdM} {r : Unit} {σ1 : kdM} (h : X3_placeOnward_0B G krec l0 l1 l2 l3 σ = some (r, σ1)) : Con E G yX3_placeOnward cX3_placeOnward 5 none (3 + n + 1) [kr E l0, .int l1, .int l2, .int l3] σ (none, σ1) := by
  refine kd_head (own := RX3) rfl (by decide +kernel) (Nat.le_of_ble_eq_true rfl) (fun A hX => ?_)
  show SW E G (.inl (none, σ1)) A 5 σ 0 [(0, kr E l0), (1, .int l1), (2, .int l2), (3, .int l3)] []
  unfold X3_placeOnward_0B at h
  refine r_iload_n hX dX3_placeOnward_0 rfl 3 rfl ?_
  refine r_aload_n hX dX3_placeOnward_1 rfl 0 rfl ?_
  refine r_gI hX dX3_placeOnward_2 kf_X3_56 rfl h ?_
  clear h; intro t1 h
  refine r_icmp_lt (tgt := 9) hX dX3_placeOnward_5 (by decide) h ?_ ?_
  · clear h; intro h
    refine r_iload_n hX dX3_placeOnward_9 rfl 1 rfl ?_
    refine r_aload_n hX dX3_placeOnward_10 rfl 0 rfl ?_
    refine r_gI hX dX3_placeOnward_11 kf_X3_37 rfl h ?_
    clear h; intro t2 h
    refine r_icmp_lt (tgt := 31) hX dX3_placeOnward_14 (by decide) h ?_ ?_
    · clear h; intro h
      refine r_iconst hX dX3_placeOnward_31 kk_i_0 ?_
      refine r_istore (L2 := [(4, .int (0 : Int32)), (0, kr E l0), (1, .int l1), (2, .int l2), (3, .int l3)]) hX dX3_placeOnward_32 (by decide) rfl ?_
      refine r_sub [1, 2, 3, 4, 0] rfl ?_
      exact wX3_placeOnward_34 n krec hX hrec _ _ _ _ _ _ h
    · clear h; intro h
      refine r_aload_n hX dX3_placeOnward_17 rfl 0 rfl ?_
      refine r_iload_n hX dX3_placeOnward_18 rfl 3 rfl ?_
      refine r_sI hX dX3_placeOnward_19 kf_X3_56 rfl (by intro q hq; cases hq; rfl) h ?_
      clear h; intro σ h
      refine r_aload_n hX dX3_placeOnward_22 rfl 0 rfl ?_
      refine r_aload_n hX dX3_placeOnward_23 rfl 0 rfl ?_
      refine r_cVi (As := []) (st := [kr E l0]) hX dX3_placeOnward_24 kl_X3_digits w_ml_X3_66 w_im_X3_digits w_se_X3_digits ⟨_, _, rfl⟩ (by omega) rfl (Nat.le_of_ble_eq_true rfl) rfl kdz0 h (fun r σ1 h => wX3_digits h) ?_
      clear h; intro t3 σ h
      refine r_sI hX dX3_placeOnward_27 kf_X3_59 rfl (by intro q hq; cases hq; rfl) h ?_
      clear h; intro σ h
      exact r_vret hX dX3_placeOnward_30 h
  · clear h; intro h
    exact r_vret hX dX3_placeOnward_8 h
def X3_placeOnward (G : kdS) (n : Nat) : Nat → Int32 → Int32 → Int32 → kdM → Option (Unit × kdM) := lp (fun _ _ _ _ _ => none) (X3_placeOnward_0B G) n
theorem wX3_placeOnward {E : kdE} {G : kdS} : ∀ (n : Nat) (l0 : Nat) (l1 : Int32) (l2 : Int32) (l3 : Int32) (σ : kdM) (r : Unit) (σ1 : kdM), X3_placeOnward G n l0 l1 l2 l3 σ = some (r, σ1) → Con E G yX3_placeOnward cX3_placeOnward 5 none (3 + n) [kr E l0, .int l1, .int l2, .int l3] σ (none, σ1) :=
  lp_indN (Q := fun n f => ∀ (l0 : Nat) (l1 : Int32) (l2 : Int32) (l3 : Int32) (σ : kdM) (r : Unit) (σ1 : kdM), f l0 l1 l2 l3 σ = some (r, σ1) → Con E G yX3_placeOnward cX3_placeOnward 5 none (3 + n) [kr E l0, .int l1, .int l2, .int l3] σ (none, σ1)) (by intros; contradiction) (fun n k hk l0 l1 l2 l3 σ r σ1 h => wX3_placeOnward_0B n k hk h)
def X3_leastCostly (G : kdS) (l0 : Nat) : kdM → Option (Int32 × kdM) :=
  sI G 3 7 l0 ((1000000000 : Int32)) <|
  sI G 3 8 l0 ((0 : Int32)) <|
  kcl (X3_placeOnward G 12 l0 (0 : Int32) (0 : Int32) (0 : Int32)) fun _ =>
  gI G 3 8 l0 fun t1 =>
  rt t1
set_option maxRecDepth 100000 in
set_option maxHeartbeats 4000000 in
theorem wX3_leastCostly {E : kdE} {G : kdS} {l0 : Nat} {σ : kdM} {r : Int32} {σ1 : kdM} (h : X3_leastCostly G l0 σ = some (r, σ1)) : Con E G yX3_leastCostly cX3_leastCostly 1 (some .int) 16 [kr E l0] σ (some (.int r), σ1) := by
  refine kd_head (own := RX3) rfl (by decide +kernel) (Nat.le_of_ble_eq_true rfl) (fun A hX => ?_)
  show SW E G (.inl (some (.int r), σ1)) A 1 σ 0 [(0, kr E l0)] []
  unfold X3_leastCostly at h
  refine r_aload_n hX dX3_leastCostly_0 rfl 0 rfl ?_
  refine r_ldc hX dX3_leastCostly_1 w_ct_X3_55 ?_
  refine r_sI hX dX3_leastCostly_3 kf_X3_56 rfl (by intro q hq; cases hq; rfl) h ?_
  clear h; intro σ h
  refine r_aload_n hX dX3_leastCostly_6 rfl 0 rfl ?_
  refine r_iconst hX dX3_leastCostly_7 kk_i_0 ?_
  refine r_sI hX dX3_leastCostly_8 kf_X3_59 rfl (by intro q hq; cases hq; rfl) h ?_
  clear h; intro σ h
  refine r_aload_n hX dX3_leastCostly_11 rfl 0 rfl ?_
  refine r_iconst hX dX3_leastCostly_12 kk_i_0 ?_
  refine r_iconst hX dX3_leastCostly_13 kk_i_0 ?_
  refine r_iconst hX dX3_leastCostly_14 kk_i_0 ?_
  refine r_cSv (As := [kr E l0, .int (0 : Int32), .int (0 : Int32), .int (0 : Int32)]) (st := []) hX dX3_leastCostly_15 kl_X3_placeOnward w_ml_X3_62 w_st_X3_placeOnward (by decide) rfl (Nat.le_of_ble_eq_true rfl) rfl kdz0 h (fun r σ1 h => wX3_placeOnward 12 _ _ _ _ _ _ _ h) ?_
  clear h; intro u σ h
  refine r_aload_n hX dX3_leastCostly_18 rfl 0 rfl ?_
  refine r_gI hX dX3_leastCostly_19 kf_X3_59 rfl h ?_
  clear h; intro t1 h
  exact r_iret hX dX3_leastCostly_22 h
def X3_ranked_58 (G : kdS) (k2 : Nat → Nat → Int32 → Int32 → kdM → Option (Int32 × kdM)) (k16 : Nat → Nat → Int32 → Int32 → Int32 → Int32 → kdM → Option (Int32 × kdM)) (l0 : Nat) (l1 : Nat) (l2 : Int32) (l3 : Int32) (l5 : Int32) (s0 : Int32) (s1 : Int32) : kdM → Option (Int32 × kdM) :=
  ltI ((s0 + s1)) fun t1 =>
  ltI (l5 + Int32.ofInt 1) fun t2 =>
  k16 l0 l1 l2 l3 t1 t2
set_option maxRecDepth 100000 in
set_option maxHeartbeats 4000000 in
theorem wX3_ranked_58 {E : kdE} {G : kdS} {A : kdA} {r : Int32} {σ1 : kdM} (hX : kdX E A cX3_ranked 6 RX3 (some .int) 0) (k2 : Nat → Nat → Int32 → Int32 → kdM → Option (Int32 × kdM)) (k16 : Nat → Nat → Int32 → Int32 → Int32 → Int32 → kdM → Option (Int32 × kdM)) (hk2 : ∀ (l0 : Nat) (l1 : Nat) (l2 : Int32) (l3 : Int32) (σ : kdM), k2 l0 l1 l2 l3 σ = some (r, σ1) → SW E G (.inl (some (.int r), σ1)) A 6 σ 2 [(0, kr E l0), (1, kr E l1), (2, .int l2), (3, .int l3)] []) (hk16 : ∀ (l0 : Nat) (l1 : Nat) (l2 : Int32) (l3 : Int32) (l4 : Int32) (l5 : Int32) (σ : kdM), k16 l0 l1 l2 l3 l4 l5 σ = some (r, σ1) → SW E G (.inl (some (.int r), σ1)) A 6 σ 16 [(0, kr E l0), (1, kr E l1), (2, .int l2), (3, .int l3), (4, .int l4), (5, .int l5)] []) {σ : kdM} {l0 : Nat} {l1 : Nat} {l2 : Int32} {l3 : Int32} {l5 : Int32} {s0 : Int32} {s1 : Int32} (h : X3_ranked_58 G k2 k16 l0 l1 l2 l3 l5 s0 s1 σ = some (r, σ1)) : SW E G (.inl (some (.int r), σ1)) A 6 σ 58 [(0, kr E l0), (1, kr E l1), (2, .int l2), (3, .int l3), (5, .int l5)] [.int s1, .int s0] := by
  unfold X3_ranked_58 at h
  refine r_iadd hX dX3_ranked_58 ?_
  refine r_letI h ?_
  clear h; intro t1 h
  refine r_istore (L2 := [(4, .int t1), (0, kr E l0), (1, kr E l1), (2, .int l2), (3, .int l3), (5, .int l5)]) hX dX3_ranked_59 (by decide) rfl ?_
  refine r_iincL (L2 := fun t2 => [(5, .int t2), (4, .int t1), (0, kr E l0), (1, kr E l1), (2, .int l2), (3, .int l3)]) hX dX3_ranked_61 h 5 rfl (by decide) (fun _ => rfl) ?_
  clear h; intro t2 h
  refine r_goto (tgt := 16) hX dX3_ranked_64 (by decide) ?_
  refine r_sub [2, 3, 4, 5, 1, 0] rfl ?_
  exact hk16 _ _ _ _ _ _ _ h
def X3_ranked_53 (G : kdS) (k2 : Nat → Nat → Int32 → Int32 → kdM → Option (Int32 × kdM)) (k16 : Nat → Nat → Int32 → Int32 → Int32 → Int32 → kdM → Option (Int32 × kdM)) (l0 : Nat) (l1 : Nat) (l2 : Int32) (l3 : Int32) (l5 : Int32) (s0 : Int32) : kdM → Option (Int32 × kdM) :=
  X3_ranked_58 G k2 k16 l0 l1 l2 l3 l5 s0 (1 : Int32)
set_option maxRecDepth 100000 in
set_option maxHeartbeats 4000000 in
theorem wX3_ranked_53 {E : kdE} {G : kdS} {A : kdA} {r : Int32} {σ1 : kdM} (hX : kdX E A cX3_ranked 6 RX3 (some .int) 0) (k2 : Nat → Nat → Int32 → Int32 → kdM → Option (Int32 × kdM)) (k16 : Nat → Nat → Int32 → Int32 → Int32 → Int32 → kdM → Option (Int32 × kdM)) (hk2 : ∀ (l0 : Nat) (l1 : Nat) (l2 : Int32) (l3 : Int32) (σ : kdM), k2 l0 l1 l2 l3 σ = some (r, σ1) → SW E G (.inl (some (.int r), σ1)) A 6 σ 2 [(0, kr E l0), (1, kr E l1), (2, .int l2), (3, .int l3)] []) (hk16 : ∀ (l0 : Nat) (l1 : Nat) (l2 : Int32) (l3 : Int32) (l4 : Int32) (l5 : Int32) (σ : kdM), k16 l0 l1 l2 l3 l4 l5 σ = some (r, σ1) → SW E G (.inl (some (.int r), σ1)) A 6 σ 16 [(0, kr E l0), (1, kr E l1), (2, .int l2), (3, .int l3), (4, .int l4), (5, .int l5)] []) {σ : kdM} {l0 : Nat} {l1 : Nat} {l2 : Int32} {l3 : Int32} {l5 : Int32} {s0 : Int32} (h : X3_ranked_53 G k2 k16 l0 l1 l2 l3 l5 s0 σ = some (r, σ1)) : SW E G (.inl (some (.int r), σ1)) A 6 σ 53 [(0, kr E l0), (1, kr E l1), (2, .int l2), (3, .int l3), (5, .int l5)] [.int s0] := by
  unfold X3_ranked_53 at h
  refine r_iconst hX dX3_ranked_53 kk_i_1 ?_
  refine r_goto (tgt := 58) hX dX3_ranked_54 (by decide) ?_
  refine r_sub [0, 1, 2, 3, 4] rfl ?_
  exact wX3_ranked_58 hX k2 k16 hk2 hk16 h
def X3_ranked_57 (G : kdS) (k2 : Nat → Nat → Int32 → Int32 → kdM → Option (Int32 × kdM)) (k16 : Nat → Nat → Int32 → Int32 → Int32 → Int32 → kdM → Option (Int32 × kdM)) (l0 : Nat) (l1 : Nat) (l2 : Int32) (l3 : Int32) (l5 : Int32) (s0 : Int32) : kdM → Option (Int32 × kdM) :=
  X3_ranked_58 G k2 k16 l0 l1 l2 l3 l5 s0 (0 : Int32)
set_option maxRecDepth 100000 in
set_option maxHeartbeats 4000000 in
theorem wX3_ranked_57 {E : kdE} {G : kdS} {A : kdA} {r : Int32} {σ1 : kdM} (hX : kdX E A cX3_ranked 6 RX3 (some .int) 0) (k2 : Nat → Nat → Int32 → Int32 → kdM → Option (Int32 × kdM)) (k16 : Nat → Nat → Int32 → Int32 → Int32 → Int32 → kdM → Option (Int32 × kdM)) (hk2 : ∀ (l0 : Nat) (l1 : Nat) (l2 : Int32) (l3 : Int32) (σ : kdM), k2 l0 l1 l2 l3 σ = some (r, σ1) → SW E G (.inl (some (.int r), σ1)) A 6 σ 2 [(0, kr E l0), (1, kr E l1), (2, .int l2), (3, .int l3)] []) (hk16 : ∀ (l0 : Nat) (l1 : Nat) (l2 : Int32) (l3 : Int32) (l4 : Int32) (l5 : Int32) (σ : kdM), k16 l0 l1 l2 l3 l4 l5 σ = some (r, σ1) → SW E G (.inl (some (.int r), σ1)) A 6 σ 16 [(0, kr E l0), (1, kr E l1), (2, .int l2), (3, .int l3), (4, .int l4), (5, .int l5)] []) {σ : kdM} {l0 : Nat} {l1 : Nat} {l2 : Int32} {l3 : Int32} {l5 : Int32} {s0 : Int32} (h : X3_ranked_57 G k2 k16 l0 l1 l2 l3 l5 s0 σ = some (r, σ1)) : SW E G (.inl (some (.int r), σ1)) A 6 σ 57 [(0, kr E l0), (1, kr E l1), (2, .int l2), (3, .int l3), (5, .int l5)] [.int s0] := by
  unfold X3_ranked_57 at h
  refine r_iconst hX dX3_ranked_57 kk_i_0 ?_
  refine r_sub [0, 1, 2, 3, 4] rfl ?_
  exact wX3_ranked_58 hX k2 k16 hk2 hk16 h
def X3_ranked_16B (G : kdS) (k2 : Nat → Nat → Int32 → Int32 → kdM → Option (Int32 × kdM)) (k16 : Nat → Nat → Int32 → Int32 → Int32 → Int32 → kdM → Option (Int32 × kdM)) (l0 : Nat) (l1 : Nat) (l2 : Int32) (l3 : Int32) (l4 : Int32) (l5 : Int32) : kdM → Option (Int32 × kdM) :=
  gI G 3 0 l0 fun t1 =>
  cnd (t1 ≤ l5)
    (cnd (l4 = l2)
      (aI G l1 (l3) fun t2 =>
      rt t2)
      (ltI (l3 + Int32.ofInt 1) fun t3 =>
      k2 l0 l1 l2 t3))
    (aI G l1 (l5) fun t4 =>
    aI G l1 (l3) fun t5 =>
    cnd (t4 < t5)
      (X3_ranked_53 G k2 k16 l0 l1 l2 l3 l5 l4)
      (aI G l1 (l5) fun t6 =>
      aI G l1 (l3) fun t7 =>
      cnd (t6 = t7)
        (cnd (l3 ≤ l5)
          (X3_ranked_57 G k2 k16 l0 l1 l2 l3 l5 l4)
          (X3_ranked_53 G k2 k16 l0 l1 l2 l3 l5 l4))
        (X3_ranked_57 G k2 k16 l0 l1 l2 l3 l5 l4)))
set_option maxRecDepth 100000 in
set_option maxHeartbeats 4000000 in
theorem wX3_ranked_16B {E : kdE} {G : kdS} {A : kdA} {r : Int32} {σ1 : kdM} (hX : kdX E A cX3_ranked 6 RX3 (some .int) 0) (k2 : Nat → Nat → Int32 → Int32 → kdM → Option (Int32 × kdM)) (k16 : Nat → Nat → Int32 → Int32 → Int32 → Int32 → kdM → Option (Int32 × kdM)) (hk2 : ∀ (l0 : Nat) (l1 : Nat) (l2 : Int32) (l3 : Int32) (σ : kdM), k2 l0 l1 l2 l3 σ = some (r, σ1) → SW E G (.inl (some (.int r), σ1)) A 6 σ 2 [(0, kr E l0), (1, kr E l1), (2, .int l2), (3, .int l3)] []) (hk16 : ∀ (l0 : Nat) (l1 : Nat) (l2 : Int32) (l3 : Int32) (l4 : Int32) (l5 : Int32) (σ : kdM), k16 l0 l1 l2 l3 l4 l5 σ = some (r, σ1) → SW E G (.inl (some (.int r), σ1)) A 6 σ 16 [(0, kr E l0), (1, kr E l1), (2, .int l2), (3, .int l3), (4, .int l4), (5, .int l5)] []) {σ : kdM} {l0 : Nat} {l1 : Nat} {l2 : Int32} {l3 : Int32} {l4 : Int32} {l5 : Int32} (h : X3_ranked_16B G k2 k16 l0 l1 l2 l3 l4 l5 σ = some (r, σ1)) : SW E G (.inl (some (.int r), σ1)) A 6 σ 16 [(0, kr E l0), (1, kr E l1), (2, .int l2), (3, .int l3), (4, .int l4), (5, .int l5)] [] := by
  unfold X3_ranked_16B at h
  refine r_iload hX dX3_ranked_16 5 rfl ?_
  refine r_aload_n hX dX3_ranked_18 rfl 0 rfl ?_
  refine r_gI hX dX3_ranked_19 kf_X3_37 rfl h ?_
  clear h; intro t1 h
  refine r_icmp_ge (tgt := 67) hX dX3_ranked_22 (by decide) h ?_ ?_
  · clear h; intro h
    refine r_iload hX dX3_ranked_67 4 rfl ?_
    refine r_iload_n hX dX3_ranked_69 rfl 2 rfl ?_
    refine r_icmp_ne (tgt := 77) hX dX3_ranked_70 (by decide) h ?_ ?_
    · clear h; intro h
      refine r_aload_n hX dX3_ranked_73 rfl 1 rfl ?_
      refine r_iload_n hX dX3_ranked_74 rfl 3 rfl ?_
      refine r_aI hX dX3_ranked_75 h ?_
      clear h; intro t2 h
      exact r_iret hX dX3_ranked_76 h
    · clear h; intro h
      refine r_iincL (L2 := fun t3 => [(3, .int t3), (0, kr E l0), (1, kr E l1), (2, .int l2), (4, .int l4), (5, .int l5)]) hX dX3_ranked_77 h 3 rfl (by decide) (fun _ => rfl) ?_
      clear h; intro t3 h
      refine r_goto (tgt := 2) hX dX3_ranked_80 (by decide) ?_
      refine r_sub [1, 2, 3, 0] rfl ?_
      exact hk2 _ _ _ _ _ h
  · clear h; intro h
    refine r_iload hX dX3_ranked_25 4 rfl ?_
    refine r_aload_n hX dX3_ranked_27 rfl 1 rfl ?_
    refine r_iload hX dX3_ranked_28 5 rfl ?_
    refine r_aI hX dX3_ranked_30 h ?_
    clear h; intro t4 h
    refine r_aload_n hX dX3_ranked_31 rfl 1 rfl ?_
    refine r_iload_n hX dX3_ranked_32 rfl 3 rfl ?_
    refine r_aI hX dX3_ranked_33 h ?_
    clear h; intro t5 h
    refine r_icmp_lt (tgt := 53) hX dX3_ranked_34 (by decide) h ?_ ?_
    · clear h; intro h
      refine r_sub [0, 1, 2, 3, 5] rfl ?_
      exact wX3_ranked_53 hX k2 k16 hk2 hk16 h
    · clear h; intro h
      refine r_aload_n hX dX3_ranked_37 rfl 1 rfl ?_
      refine r_iload hX dX3_ranked_38 5 rfl ?_
      refine r_aI hX dX3_ranked_40 h ?_
      clear h; intro t6 h
      refine r_aload_n hX dX3_ranked_41 rfl 1 rfl ?_
      refine r_iload_n hX dX3_ranked_42 rfl 3 rfl ?_
      refine r_aI hX dX3_ranked_43 h ?_
      clear h; intro t7 h
      refine r_icmp_ne (tgt := 57) hX dX3_ranked_44 (by decide) h ?_ ?_
      · clear h; intro h
        refine r_iload hX dX3_ranked_47 5 rfl ?_
        refine r_iload_n hX dX3_ranked_49 rfl 3 rfl ?_
        refine r_icmp_ge (tgt := 57) hX dX3_ranked_50 (by decide) h ?_ ?_
        · clear h; intro h
          refine r_sub [0, 1, 2, 3, 5] rfl ?_
          exact wX3_ranked_57 hX k2 k16 hk2 hk16 h
        · clear h; intro h
          refine r_sub [0, 1, 2, 3, 5] rfl ?_
          exact wX3_ranked_53 hX k2 k16 hk2 hk16 h
      · clear h; intro h
        refine r_sub [0, 1, 2, 3, 5] rfl ?_
        exact wX3_ranked_57 hX k2 k16 hk2 hk16 h
def X3_ranked_16 (G : kdS) (k2 : Nat → Nat → Int32 → Int32 → kdM → Option (Int32 × kdM)) : Nat → Nat → Int32 → Int32 → Int32 → Int32 → kdM → Option (Int32 × kdM) := lp (fun _ _ _ _ _ _ _ => none) (X3_ranked_16B G k2) NN
theorem wX3_ranked_16 {E : kdE} {G : kdS} {A : kdA} {r : Int32} {σ1 : kdM} (hX : kdX E A cX3_ranked 6 RX3 (some .int) 0) (k2 : Nat → Nat → Int32 → Int32 → kdM → Option (Int32 × kdM)) (hk2 : ∀ (l0 : Nat) (l1 : Nat) (l2 : Int32) (l3 : Int32) (σ : kdM), k2 l0 l1 l2 l3 σ = some (r, σ1) → SW E G (.inl (some (.int r), σ1)) A 6 σ 2 [(0, kr E l0), (1, kr E l1), (2, .int l2), (3, .int l3)] []) : ∀ (l0 : Nat) (l1 : Nat) (l2 : Int32) (l3 : Int32) (l4 : Int32) (l5 : Int32) (σ : kdM), X3_ranked_16 G k2 l0 l1 l2 l3 l4 l5 σ = some (r, σ1) → SW E G (.inl (some (.int r), σ1)) A 6 σ 16 [(0, kr E l0), (1, kr E l1), (2, .int l2), (3, .int l3), (4, .int l4), (5, .int l5)] [] :=
  lp_ind (Q := fun f => ∀ (l0 : Nat) (l1 : Nat) (l2 : Int32) (l3 : Int32) (l4 : Int32) (l5 : Int32) (σ : kdM), f l0 l1 l2 l3 l4 l5 σ = some (r, σ1) → SW E G (.inl (some (.int r), σ1)) A 6 σ 16 [(0, kr E l0), (1, kr E l1), (2, .int l2), (3, .int l3), (4, .int l4), (5, .int l5)] []) (by intros; contradiction) (fun k hk l0 l1 l2 l3 l4 l5 σ h => wX3_ranked_16B hX k2 k hk2 hk h) NN
def X3_ranked_2B (G : kdS) (k2 : Nat → Nat → Int32 → Int32 → kdM → Option (Int32 × kdM)) (l0 : Nat) (l1 : Nat) (l2 : Int32) (l3 : Int32) : kdM → Option (Int32 × kdM) :=
  gI G 3 0 l0 fun t1 =>
  cnd (t1 ≤ l3)
    (rt (0 : Int32))
    (X3_ranked_16 G k2 l0 l1 l2 l3 (0 : Int32) (0 : Int32))
set_option maxRecDepth 100000 in
set_option maxHeartbeats 4000000 in
theorem wX3_ranked_2B {E : kdE} {G : kdS} {A : kdA} {r : Int32} {σ1 : kdM} (hX : kdX E A cX3_ranked 6 RX3 (some .int) 0) (k2 : Nat → Nat → Int32 → Int32 → kdM → Option (Int32 × kdM)) (hk2 : ∀ (l0 : Nat) (l1 : Nat) (l2 : Int32) (l3 : Int32) (σ : kdM), k2 l0 l1 l2 l3 σ = some (r, σ1) → SW E G (.inl (some (.int r), σ1)) A 6 σ 2 [(0, kr E l0), (1, kr E l1), (2, .int l2), (3, .int l3)] []) {σ : kdM} {l0 : Nat} {l1 : Nat} {l2 : Int32} {l3 : Int32} (h : X3_ranked_2B G k2 l0 l1 l2 l3 σ = some (r, σ1)) : SW E G (.inl (some (.int r), σ1)) A 6 σ 2 [(0, kr E l0), (1, kr E l1), (2, .int l2), (3, .int l3)] [] := by
  unfold X3_ranked_2B at h
  refine r_iload_n hX dX3_ranked_2 rfl 3 rfl ?_
  refine r_aload_n hX dX3_ranked_3 rfl 0 rfl ?_
  refine r_gI hX dX3_ranked_4 kf_X3_37 rfl h ?_
  clear h; intro t1 h
  refine r_icmp_ge (tgt := 83) hX dX3_ranked_7 (by decide) h ?_ ?_
  · clear h; intro h
    refine r_iconst hX dX3_ranked_83 kk_i_0 ?_
    exact r_iret hX dX3_ranked_84 h
  · clear h; intro h
    refine r_iconst hX dX3_ranked_10 kk_i_0 ?_
    refine r_istore (L2 := [(4, .int (0 : Int32)), (0, kr E l0), (1, kr E l1), (2, .int l2), (3, .int l3)]) hX dX3_ranked_11 (by decide) rfl ?_
    refine r_iconst hX dX3_ranked_13 kk_i_0 ?_
    refine r_istore (L2 := [(5, .int (0 : Int32)), (4, .int (0 : Int32)), (0, kr E l0), (1, kr E l1), (2, .int l2), (3, .int l3)]) hX dX3_ranked_14 (by decide) rfl ?_
    refine r_sub [2, 3, 4, 5, 1, 0] rfl ?_
    exact wX3_ranked_16 hX k2 hk2 _ _ _ _ _ _ _ h
def X3_ranked_2 (G : kdS) : Nat → Nat → Int32 → Int32 → kdM → Option (Int32 × kdM) := lp (fun _ _ _ _ _ => none) (X3_ranked_2B G) NN
theorem wX3_ranked_2 {E : kdE} {G : kdS} {A : kdA} {r : Int32} {σ1 : kdM} (hX : kdX E A cX3_ranked 6 RX3 (some .int) 0) : ∀ (l0 : Nat) (l1 : Nat) (l2 : Int32) (l3 : Int32) (σ : kdM), X3_ranked_2 G l0 l1 l2 l3 σ = some (r, σ1) → SW E G (.inl (some (.int r), σ1)) A 6 σ 2 [(0, kr E l0), (1, kr E l1), (2, .int l2), (3, .int l3)] [] :=
  lp_ind (Q := fun f => ∀ (l0 : Nat) (l1 : Nat) (l2 : Int32) (l3 : Int32) (σ : kdM), f l0 l1 l2 l3 σ = some (r, σ1) → SW E G (.inl (some (.int r), σ1)) A 6 σ 2 [(0, kr E l0), (1, kr E l1), (2, .int l2), (3, .int l3)] []) (by intros; contradiction) (fun k hk l0 l1 l2 l3 σ h => wX3_ranked_2B hX k hk h) NN
def X3_ranked (G : kdS) (l0 : Nat) (l1 : Nat) (l2 : Int32) : kdM → Option (Int32 × kdM) :=
  X3_ranked_2 G l0 l1 l2 (0 : Int32)
set_option maxRecDepth 100000 in
set_option maxHeartbeats 4000000 in
theorem wX3_ranked {E : kdE} {G : kdS} {l0 : Nat} {l1 : Nat} {l2 : Int32} {σ : kdM} {r : Int32} {σ1 : kdM} (h : X3_ranked G l0 l1 l2 σ = some (r, σ1)) : Con E G yX3_ranked cX3_ranked 6 (some .int) 0 [kr E l0, kr E l1, .int l2] σ (some (.int r), σ1) := by
  refine kd_head (own := RX3) rfl (by decide +kernel) (Nat.le_of_ble_eq_true rfl) (fun A hX => ?_)
  show SW E G (.inl (some (.int r), σ1)) A 6 σ 0 [(0, kr E l0), (1, kr E l1), (2, .int l2)] []
  unfold X3_ranked at h
  refine r_iconst hX dX3_ranked_0 kk_i_0 ?_
  refine r_istore_n (L2 := [(3, .int (0 : Int32)), (0, kr E l0), (1, kr E l1), (2, .int l2)]) hX dX3_ranked_1 rfl (by decide) rfl ?_
  refine r_sub [1, 2, 3, 0] rfl ?_
  exact wX3_ranked_2 hX _ _ _ _ _ h
def X3_lowerBound_69 (G : kdS) (k4 : Nat → Int32 → Int32 → kdM → Option (Int32 × kdM)) (k43 : Nat → Int32 → Int32 → Int32 → kdM → Option (Int32 × kdM)) (l0 : Nat) (l2 : Int32) (l3 : Int32) (s0 : Int32) (s1 : Int32) : kdM → Option (Int32 × kdM) :=
  ltI ((s0 + s1)) fun t1 =>
  ltI (l3 + Int32.ofInt 1) fun t2 =>
  k43 l0 t1 l2 t2
set_option maxRecDepth 100000 in
set_option maxHeartbeats 4000000 in
theorem wX3_lowerBound_69 {E : kdE} {G : kdS} {A : kdA} {r : Int32} {σ1 : kdM} (hX : kdX E A cX3_lowerBound 4 RX3 (some .int) 1) (k4 : Nat → Int32 → Int32 → kdM → Option (Int32 × kdM)) (k43 : Nat → Int32 → Int32 → Int32 → kdM → Option (Int32 × kdM)) (hk4 : ∀ (l0 : Nat) (l1 : Int32) (l2 : Int32) (σ : kdM), k4 l0 l1 l2 σ = some (r, σ1) → SW E G (.inl (some (.int r), σ1)) A 4 σ 4 [(0, kr E l0), (1, .int l1), (2, .int l2)] []) (hk43 : ∀ (l0 : Nat) (l1 : Int32) (l2 : Int32) (l3 : Int32) (σ : kdM), k43 l0 l1 l2 l3 σ = some (r, σ1) → SW E G (.inl (some (.int r), σ1)) A 4 σ 43 [(0, kr E l0), (1, .int l1), (2, .int l2), (3, .int l3)] []) {σ : kdM} {l0 : Nat} {l2 : Int32} {l3 : Int32} {s0 : Int32} {s1 : Int32} (h : X3_lowerBound_69 G k4 k43 l0 l2 l3 s0 s1 σ = some (r, σ1)) : SW E G (.inl (some (.int r), σ1)) A 4 σ 69 [(0, kr E l0), (2, .int l2), (3, .int l3)] [.int s1, .int s0] := by
  unfold X3_lowerBound_69 at h
  refine r_iadd hX dX3_lowerBound_69 ?_
  refine r_letI h ?_
  clear h; intro t1 h
  refine r_istore_n (L2 := [(1, .int t1), (0, kr E l0), (2, .int l2), (3, .int l3)]) hX dX3_lowerBound_70 rfl (by decide) rfl ?_
  refine r_iincL (L2 := fun t2 => [(3, .int t2), (1, .int t1), (0, kr E l0), (2, .int l2)]) hX dX3_lowerBound_71 h 3 rfl (by decide) (fun _ => rfl) ?_
  clear h; intro t2 h
  refine r_goto (tgt := 43) hX dX3_lowerBound_74 (by decide) ?_
  refine r_sub [2, 1, 3, 0] rfl ?_
  exact hk43 _ _ _ _ _ h
def X3_lowerBound_43B (G : kdS) (k4 : Nat → Int32 → Int32 → kdM → Option (Int32 × kdM)) (k43 : Nat → Int32 → Int32 → Int32 → kdM → Option (Int32 × kdM)) (l0 : Nat) (l1 : Int32) (l2 : Int32) (l3 : Int32) : kdM → Option (Int32 × kdM) :=
  gI G 3 0 l0 fun t1 =>
  cnd (t1 ≤ l3)
    (ltI (l2 + Int32.ofInt 1) fun t2 =>
    k4 l0 l1 t2)
    (cnd (l2 = l3)
      (X3_lowerBound_69 G k4 k43 l0 l2 l3 l1 (0 : Int32))
      (gR G 3 4 l0 fun t3 =>
      aR G 18 t3 (l2) fun t4 =>
      aI G t4 (l3) fun t5 =>
      X3_lowerBound_69 G k4 k43 l0 l2 l3 l1 t5))
set_option maxRecDepth 100000 in
set_option maxHeartbeats 4000000 in
theorem wX3_lowerBound_43B {E : kdE} {G : kdS} {A : kdA} {r : Int32} {σ1 : kdM} (hX : kdX E A cX3_lowerBound 4 RX3 (some .int) 1) (k4 : Nat → Int32 → Int32 → kdM → Option (Int32 × kdM)) (k43 : Nat → Int32 → Int32 → Int32 → kdM → Option (Int32 × kdM)) (hk4 : ∀ (l0 : Nat) (l1 : Int32) (l2 : Int32) (σ : kdM), k4 l0 l1 l2 σ = some (r, σ1) → SW E G (.inl (some (.int r), σ1)) A 4 σ 4 [(0, kr E l0), (1, .int l1), (2, .int l2)] []) (hk43 : ∀ (l0 : Nat) (l1 : Int32) (l2 : Int32) (l3 : Int32) (σ : kdM), k43 l0 l1 l2 l3 σ = some (r, σ1) → SW E G (.inl (some (.int r), σ1)) A 4 σ 43 [(0, kr E l0), (1, .int l1), (2, .int l2), (3, .int l3)] []) {σ : kdM} {l0 : Nat} {l1 : Int32} {l2 : Int32} {l3 : Int32} (h : X3_lowerBound_43B G k4 k43 l0 l1 l2 l3 σ = some (r, σ1)) : SW E G (.inl (some (.int r), σ1)) A 4 σ 43 [(0, kr E l0), (1, .int l1), (2, .int l2), (3, .int l3)] [] := by
  unfold X3_lowerBound_43B at h
  refine r_iload_n hX dX3_lowerBound_43 rfl 3 rfl ?_
  refine r_aload_n hX dX3_lowerBound_44 rfl 0 rfl ?_
  refine r_gI hX dX3_lowerBound_45 kf_X3_37 rfl h ?_
  clear h; intro t1 h
  refine r_icmp_ge (tgt := 77) hX dX3_lowerBound_48 (by decide) h ?_ ?_
  · clear h; intro h
    refine r_iincL (L2 := fun t2 => [(2, .int t2), (0, kr E l0), (1, .int l1), (3, .int l3)]) hX dX3_lowerBound_77 h 2 rfl (by decide) (fun _ => rfl) ?_
    clear h; intro t2 h
    refine r_goto (tgt := 4) hX dX3_lowerBound_80 (by decide) ?_
    refine r_sub [1, 2, 0] rfl ?_
    exact hk4 _ _ _ _ h
  · clear h; intro h
    refine r_iload_n hX dX3_lowerBound_51 rfl 1 rfl ?_
    refine r_iload_n hX dX3_lowerBound_52 rfl 2 rfl ?_
    refine r_iload_n hX dX3_lowerBound_53 rfl 3 rfl ?_
    refine r_icmp_ne (tgt := 61) hX dX3_lowerBound_54 (by decide) h ?_ ?_
    · clear h; intro h
      refine r_iconst hX dX3_lowerBound_57 kk_i_0 ?_
      refine r_goto (tgt := 69) hX dX3_lowerBound_58 (by decide) ?_
      refine r_sub [0, 2, 3] rfl ?_
      exact wX3_lowerBound_69 hX k4 k43 hk4 hk43 h
    · clear h; intro h
      refine r_aload_n hX dX3_lowerBound_61 rfl 0 rfl ?_
      refine r_gR hX dX3_lowerBound_62 kf_X3_23 rfl h ?_
      clear h; intro t3 h
      refine r_iload_n hX dX3_lowerBound_65 rfl 2 rfl ?_
      refine r_aR18 hX dX3_lowerBound_66 h ?_
      clear h; intro t4 h
      refine r_iload_n hX dX3_lowerBound_67 rfl 3 rfl ?_
      refine r_aI hX dX3_lowerBound_68 h ?_
      clear h; intro t5 h
      refine r_sub [0, 2, 3] rfl ?_
      exact wX3_lowerBound_69 hX k4 k43 hk4 hk43 h
def X3_lowerBound_43 (G : kdS) (k4 : Nat → Int32 → Int32 → kdM → Option (Int32 × kdM)) : Nat → Int32 → Int32 → Int32 → kdM → Option (Int32 × kdM) := lp (fun _ _ _ _ _ => none) (X3_lowerBound_43B G k4) NN
theorem wX3_lowerBound_43 {E : kdE} {G : kdS} {A : kdA} {r : Int32} {σ1 : kdM} (hX : kdX E A cX3_lowerBound 4 RX3 (some .int) 1) (k4 : Nat → Int32 → Int32 → kdM → Option (Int32 × kdM)) (hk4 : ∀ (l0 : Nat) (l1 : Int32) (l2 : Int32) (σ : kdM), k4 l0 l1 l2 σ = some (r, σ1) → SW E G (.inl (some (.int r), σ1)) A 4 σ 4 [(0, kr E l0), (1, .int l1), (2, .int l2)] []) : ∀ (l0 : Nat) (l1 : Int32) (l2 : Int32) (l3 : Int32) (σ : kdM), X3_lowerBound_43 G k4 l0 l1 l2 l3 σ = some (r, σ1) → SW E G (.inl (some (.int r), σ1)) A 4 σ 43 [(0, kr E l0), (1, .int l1), (2, .int l2), (3, .int l3)] [] :=
  lp_ind (Q := fun f => ∀ (l0 : Nat) (l1 : Int32) (l2 : Int32) (l3 : Int32) (σ : kdM), f l0 l1 l2 l3 σ = some (r, σ1) → SW E G (.inl (some (.int r), σ1)) A 4 σ 43 [(0, kr E l0), (1, .int l1), (2, .int l2), (3, .int l3)] []) (by intros; contradiction) (fun k hk l0 l1 l2 l3 σ h => wX3_lowerBound_43B hX k4 k hk4 hk h) NN
def X3_lowerBound_4B (G : kdS) (k4 : Nat → Int32 → Int32 → kdM → Option (Int32 × kdM)) (l0 : Nat) (l1 : Int32) (l2 : Int32) : kdM → Option (Int32 × kdM) :=
  gI G 3 0 l0 fun t1 =>
  cnd (t1 ≤ l2)
    (rt l1)
    (gR G 3 3 l0 fun t2 =>
    gI G 3 0 l0 fun t3 =>
    kcv G 3 l0 (X3_ranked G l0 t2 ((t3 - (1 : Int32)) - l2)) fun t4 =>
    gR G 3 1 l0 fun t5 =>
    kcv G 3 l0 (X3_ranked G l0 t5 l2) fun t6 =>
    ltI ((l1 + (t4 * t6))) fun t7 =>
    X3_lowerBound_43 G k4 l0 t7 l2 (0 : Int32))
set_option maxRecDepth 100000 in
set_option maxHeartbeats 4000000 in
theorem wX3_lowerBound_4B {E : kdE} {G : kdS} {A : kdA} {r : Int32} {σ1 : kdM} (hX : kdX E A cX3_lowerBound 4 RX3 (some .int) 1) (k4 : Nat → Int32 → Int32 → kdM → Option (Int32 × kdM)) (hk4 : ∀ (l0 : Nat) (l1 : Int32) (l2 : Int32) (σ : kdM), k4 l0 l1 l2 σ = some (r, σ1) → SW E G (.inl (some (.int r), σ1)) A 4 σ 4 [(0, kr E l0), (1, .int l1), (2, .int l2)] []) {σ : kdM} {l0 : Nat} {l1 : Int32} {l2 : Int32} (h : X3_lowerBound_4B G k4 l0 l1 l2 σ = some (r, σ1)) : SW E G (.inl (some (.int r), σ1)) A 4 σ 4 [(0, kr E l0), (1, .int l1), (2, .int l2)] [] := by
  unfold X3_lowerBound_4B at h
  refine r_iload_n hX dX3_lowerBound_4 rfl 2 rfl ?_
  refine r_aload_n hX dX3_lowerBound_5 rfl 0 rfl ?_
  refine r_gI hX dX3_lowerBound_6 kf_X3_37 rfl h ?_
  clear h; intro t1 h
  refine r_icmp_ge (tgt := 83) hX dX3_lowerBound_9 (by decide) h ?_ ?_
  · clear h; intro h
    refine r_iload_n hX dX3_lowerBound_83 rfl 1 rfl ?_
    exact r_iret hX dX3_lowerBound_84 h
  · clear h; intro h
    refine r_iload_n hX dX3_lowerBound_12 rfl 1 rfl ?_
    refine r_aload_n hX dX3_lowerBound_13 rfl 0 rfl ?_
    refine r_aload_n hX dX3_lowerBound_14 rfl 0 rfl ?_
    refine r_gR hX dX3_lowerBound_15 kf_X3_18 rfl h ?_
    clear h; intro t2 h
    refine r_aload_n hX dX3_lowerBound_18 rfl 0 rfl ?_
    refine r_gI hX dX3_lowerBound_19 kf_X3_37 rfl h ?_
    clear h; intro t3 h
    refine r_iconst hX dX3_lowerBound_22 kk_i_1 ?_
    refine r_isub hX dX3_lowerBound_23 ?_
    refine r_iload_n hX dX3_lowerBound_24 rfl 2 rfl ?_
    refine r_isub hX dX3_lowerBound_25 ?_
    refine r_cVi (As := [kr E t2, .int ((t3 - (1 : Int32)) - l2)]) (st := [.int l1]) hX dX3_lowerBound_26 kl_X3_ranked w_ml_X3_74 w_im_X3_ranked w_se_X3_ranked ⟨_, _, rfl⟩ (by decide) rfl (Nat.le_of_ble_eq_true rfl) rfl kdz0 h (fun r σ1 h => wX3_ranked h) ?_
    clear h; intro t4 σ h
    refine r_aload_n hX dX3_lowerBound_29 rfl 0 rfl ?_
    refine r_aload_n hX dX3_lowerBound_30 rfl 0 rfl ?_
    refine r_gR hX dX3_lowerBound_31 kf_X3_9 rfl h ?_
    clear h; intro t5 h
    refine r_iload_n hX dX3_lowerBound_34 rfl 2 rfl ?_
    refine r_cVi (As := [kr E t5, .int l2]) (st := [.int t4, .int l1]) hX dX3_lowerBound_35 kl_X3_ranked w_ml_X3_74 w_im_X3_ranked w_se_X3_ranked ⟨_, _, rfl⟩ (by decide) rfl (Nat.le_of_ble_eq_true rfl) rfl kdz0 h (fun r σ1 h => wX3_ranked h) ?_
    clear h; intro t6 σ h
    refine r_imul hX dX3_lowerBound_38 ?_
    refine r_iadd hX dX3_lowerBound_39 ?_
    refine r_letI h ?_
    clear h; intro t7 h
    refine r_istore_n (L2 := [(1, .int t7), (0, kr E l0), (2, .int l2)]) hX dX3_lowerBound_40 rfl (by decide) rfl ?_
    refine r_iconst hX dX3_lowerBound_41 kk_i_0 ?_
    refine r_istore_n (L2 := [(3, .int (0 : Int32)), (1, .int t7), (0, kr E l0), (2, .int l2)]) hX dX3_lowerBound_42 rfl (by decide) rfl ?_
    refine r_sub [2, 1, 3, 0] rfl ?_
    exact wX3_lowerBound_43 hX k4 hk4 _ _ _ _ _ h
def X3_lowerBound_4 (G : kdS) : Nat → Int32 → Int32 → kdM → Option (Int32 × kdM) := lp (fun _ _ _ _ => none) (X3_lowerBound_4B G) NN
theorem wX3_lowerBound_4 {E : kdE} {G : kdS} {A : kdA} {r : Int32} {σ1 : kdM} (hX : kdX E A cX3_lowerBound 4 RX3 (some .int) 1) : ∀ (l0 : Nat) (l1 : Int32) (l2 : Int32) (σ : kdM), X3_lowerBound_4 G l0 l1 l2 σ = some (r, σ1) → SW E G (.inl (some (.int r), σ1)) A 4 σ 4 [(0, kr E l0), (1, .int l1), (2, .int l2)] [] :=
  lp_ind (Q := fun f => ∀ (l0 : Nat) (l1 : Int32) (l2 : Int32) (σ : kdM), f l0 l1 l2 σ = some (r, σ1) → SW E G (.inl (some (.int r), σ1)) A 4 σ 4 [(0, kr E l0), (1, .int l1), (2, .int l2)] []) (by intros; contradiction) (fun k hk l0 l1 l2 σ h => wX3_lowerBound_4B hX k hk h) NN
def X3_lowerBound (G : kdS) (l0 : Nat) : kdM → Option (Int32 × kdM) :=
  X3_lowerBound_4 G l0 (0 : Int32) (0 : Int32)
set_option maxRecDepth 100000 in
set_option maxHeartbeats 4000000 in
theorem wX3_lowerBound {E : kdE} {G : kdS} {l0 : Nat} {σ : kdM} {r : Int32} {σ1 : kdM} (h : X3_lowerBound G l0 σ = some (r, σ1)) : Con E G yX3_lowerBound cX3_lowerBound 4 (some .int) 1 [kr E l0] σ (some (.int r), σ1) := by
  refine kd_head (own := RX3) rfl (by decide +kernel) (Nat.le_of_ble_eq_true rfl) (fun A hX => ?_)
  show SW E G (.inl (some (.int r), σ1)) A 4 σ 0 [(0, kr E l0)] []
  unfold X3_lowerBound at h
  refine r_iconst hX dX3_lowerBound_0 kk_i_0 ?_
  refine r_istore_n (L2 := [(1, .int (0 : Int32)), (0, kr E l0)]) hX dX3_lowerBound_1 rfl (by decide) rfl ?_
  refine r_iconst hX dX3_lowerBound_2 kk_i_0 ?_
  refine r_istore_n (L2 := [(2, .int (0 : Int32)), (1, .int (0 : Int32)), (0, kr E l0)]) hX dX3_lowerBound_3 rfl (by decide) rfl ?_
  refine r_sub [2, 1, 0] rfl ?_
  exact wX3_lowerBound_4 hX _ _ _ _ h
