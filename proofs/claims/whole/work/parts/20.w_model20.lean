def X12_in_18 (G : kdS) (s0 : Int32) : kdM → Option (Int32 × kdM) :=
  rt (vp_nar .boolean s0)
set_option maxRecDepth 100000 in
set_option maxHeartbeats 4000000 in
theorem wX12_in_18 {E : kdE} {G : kdS} {A : kdA} {r : Int32} {σ1 : kdM} (hX : kdX E A cX12_in 6 RX12 (some .boolean) 0) {σ : kdM} {s0 : Int32} (h : X12_in_18 G s0 σ = some (r, σ1)) : SW E G (.inl (some (.int r), σ1)) A 6 σ 18 [] [.int s0] := by
  unfold X12_in_18 at h
  exact r_zret hX dX12_in_18 h
def X12_in_17 (G : kdS) : kdM → Option (Int32 × kdM) :=
  X12_in_18 G (0 : Int32)
set_option maxRecDepth 100000 in
set_option maxHeartbeats 4000000 in
theorem wX12_in_17 {E : kdE} {G : kdS} {A : kdA} {r : Int32} {σ1 : kdM} (hX : kdX E A cX12_in 6 RX12 (some .boolean) 0) {σ : kdM} (h : X12_in_17 G  σ = some (r, σ1)) : SW E G (.inl (some (.int r), σ1)) A 6 σ 17 [] [] := by
  unfold X12_in_17 at h
  refine r_iconst hX dX12_in_17 kk_i_0 ?_
  refine r_sub [] rfl ?_
  exact wX12_in_18 hX h
def X12_in (G : kdS) (l0 : Int64) (l2 : Int64) (l4 : Int64) : kdM → Option (Int32 × kdM) :=
  cnd ((lg_cmp l0 l2) < 0)
    (X12_in_17 G )
    (cnd (0 < (lg_cmp l0 l4))
      (X12_in_17 G )
      (X12_in_18 G (1 : Int32)))
set_option maxRecDepth 100000 in
set_option maxHeartbeats 4000000 in
theorem wX12_in {E : kdE} {G : kdS} {l0 : Int64} {l2 : Int64} {l4 : Int64} {σ : kdM} {r : Int32} {σ1 : kdM} (h : X12_in G l0 l2 l4 σ = some (r, σ1)) : Con E G yX12_in cX12_in 6 (some .boolean) 0 [.long l0, .long l2, .long l4] σ (some (.int r), σ1) := by
  refine kd_head (own := RX12) rfl (by decide +kernel) (Nat.le_of_ble_eq_true rfl) (fun A hX => ?_)
  show SW E G (.inl (some (.int r), σ1)) A 6 σ 0 [(0, .long l0), (2, .long l2), (4, .long l4)] []
  unfold X12_in at h
  refine r_lload_n hX dX12_in_0 rfl 0 rfl ?_
  refine r_lload_n hX dX12_in_1 rfl 1 rfl ?_
  refine r_lcmp hX dX12_in_2 ?_
  refine r_if_lt (tgt := 17) hX dX12_in_3 (by decide) h ?_ ?_
  · clear h; intro h
    refine r_sub [] rfl ?_
    exact wX12_in_17 hX h
  · clear h; intro h
    refine r_lload_n hX dX12_in_6 rfl 0 rfl ?_
    refine r_lload hX dX12_in_7 2 rfl ?_
    refine r_lcmp hX dX12_in_9 ?_
    refine r_if_gt (tgt := 17) hX dX12_in_10 (by decide) h ?_ ?_
    · clear h; intro h
      refine r_sub [] rfl ?_
      exact wX12_in_17 hX h
    · clear h; intro h
      refine r_iconst hX dX12_in_13 kk_i_1 ?_
      refine r_goto (tgt := 18) hX dX12_in_14 (by decide) ?_
      refine r_sub [] rfl ?_
      exact wX12_in_18 hX h
def X12_size_10 (G : kdS) (s0 : Int32) : kdM → Option (Int32 × kdM) :=
  rt s0
set_option maxRecDepth 100000 in
set_option maxHeartbeats 4000000 in
theorem wX12_size_10 {E : kdE} {G : kdS} {A : kdA} {r : Int32} {σ1 : kdM} (hX : kdX E A cX12_size 1 RX12 (some .int) 0) {σ : kdM} {s0 : Int32} (h : X12_size_10 G s0 σ = some (r, σ1)) : SW E G (.inl (some (.int r), σ1)) A 1 σ 10 [] [.int s0] := by
  unfold X12_size_10 at h
  exact r_iret hX dX12_size_10 h
def X12_size (G : kdS) (l0 : Int32) : kdM → Option (Int32 × kdM) :=
  cnd (0 ≤ l0)
    (X12_size_10 G l0)
    (X12_size_10 G (-l0))
set_option maxRecDepth 100000 in
set_option maxHeartbeats 4000000 in
theorem wX12_size {E : kdE} {G : kdS} {l0 : Int32} {σ : kdM} {r : Int32} {σ1 : kdM} (h : X12_size G l0 σ = some (r, σ1)) : Con E G yX12_size cX12_size 1 (some .int) 0 [.int l0] σ (some (.int r), σ1) := by
  refine kd_head (own := RX12) rfl (by decide +kernel) (Nat.le_of_ble_eq_true rfl) (fun A hX => ?_)
  show SW E G (.inl (some (.int r), σ1)) A 1 σ 0 [(0, .int l0)] []
  unfold X12_size at h
  refine r_iload_n hX dX12_size_0 rfl 0 rfl ?_
  refine r_if_ge (tgt := 9) hX dX12_size_1 (by decide) h ?_ ?_
  · clear h; intro h
    refine r_iload_n hX dX12_size_9 rfl 0 rfl ?_
    refine r_sub [] rfl ?_
    exact wX12_size_10 hX h
  · clear h; intro h
    refine r_iload_n hX dX12_size_4 rfl 0 rfl ?_
    refine r_ineg hX dX12_size_5 ?_
    refine r_goto (tgt := 10) hX dX12_size_6 (by decide) ?_
    refine r_sub [] rfl ?_
    exact wX12_size_10 hX h
def X12_key (G : kdS) (l0 : Nat) (l1 : Int32) : kdM → Option (Int32 × kdM) :=
  kcl (X12_in G (Int32.toInt64 l1) (0 : Int64) (11 : Int64)) fun t1 =>
  cnd (t1 = 0)
    (rt (-2 : Int32))
    (gI G 12 1 l0 fun t2 =>
    cnd (t2 = (16 : Int32))
      (rt (-4 : Int32))
      (gR G 12 0 l0 fun t3 =>
      gI G 12 1 l0 fun t4 =>
      tI G t3 (t4) (l1) <|
      gI G 12 1 l0 fun t5 =>
      sI G 12 1 l0 ((t5 + (1 : Int32))) <|
      gI G 12 1 l0 fun t6 =>
      rt t6))
set_option maxRecDepth 100000 in
set_option maxHeartbeats 4000000 in
theorem wX12_key {E : kdE} {G : kdS} {l0 : Nat} {l1 : Int32} {σ : kdM} {r : Int32} {σ1 : kdM} (h : X12_key G l0 l1 σ = some (r, σ1)) : Con E G yX12_key cX12_key 2 (some .int) 1 [kr E l0, .int l1] σ (some (.int r), σ1) := by
  refine kd_head (own := RX12) rfl (by decide +kernel) (Nat.le_of_ble_eq_true rfl) (fun A hX => ?_)
  show SW E G (.inl (some (.int r), σ1)) A 2 σ 0 [(0, kr E l0), (1, .int l1)] []
  unfold X12_key at h
  refine r_iload_n hX dX12_key_0 rfl 1 rfl ?_
  refine r_i2l hX dX12_key_1 ?_
  refine r_lconst hX dX12_key_2 kk_l_0 ?_
  refine r_ldc2_w hX dX12_key_3 w_cl_X12_176 ?_
  refine r_cSi (As := [.long (Int32.toInt64 l1), .long (0 : Int64), .long (11 : Int64)]) (st := []) hX dX12_key_6 kl_X12_in w_ml_X12_178 w_st_X12_in (by decide) rfl (Nat.le_of_ble_eq_true rfl) rfl kdz0 h (fun r σ1 h => wX12_in h) ?_
  clear h; intro t1 σ h
  refine r_if_ne (tgt := 15) hX dX12_key_9 (by decide) h ?_ ?_
  · clear h; intro h
    refine r_bipush hX dX12_key_12 kk_b_m2 ?_
    exact r_iret hX dX12_key_14 h
  · clear h; intro h
    refine r_aload_n hX dX12_key_15 rfl 0 rfl ?_
    refine r_gI hX dX12_key_16 kf_X12_182 rfl h ?_
    clear h; intro t2 h
    refine r_bipush hX dX12_key_19 kk_b_16 ?_
    refine r_icmp_ne (tgt := 27) hX dX12_key_21 (by decide) h ?_ ?_
    · clear h; intro h
      refine r_bipush hX dX12_key_24 kk_b_m4 ?_
      exact r_iret hX dX12_key_26 h
    · clear h; intro h
      refine r_aload_n hX dX12_key_27 rfl 0 rfl ?_
      refine r_gR hX dX12_key_28 kf_X12_7 rfl h ?_
      clear h; intro t3 h
      refine r_aload_n hX dX12_key_31 rfl 0 rfl ?_
      refine r_gI hX dX12_key_32 kf_X12_182 rfl h ?_
      clear h; intro t4 h
      refine r_iload_n hX dX12_key_35 rfl 1 rfl ?_
      refine r_tI hX dX12_key_36 h ?_
      clear h; intro σ h
      refine r_aload_n hX dX12_key_37 rfl 0 rfl ?_
      refine r_dup hX dX12_key_38 rfl ?_
      refine r_gI hX dX12_key_39 kf_X12_182 rfl h ?_
      clear h; intro t5 h
      refine r_iconst hX dX12_key_42 kk_i_1 ?_
      refine r_iadd hX dX12_key_43 ?_
      refine r_sI hX dX12_key_44 kf_X12_182 rfl (by intro q hq; cases hq; rfl) h ?_
      clear h; intro σ h
      refine r_aload_n hX dX12_key_47 rfl 0 rfl ?_
      refine r_gI hX dX12_key_48 kf_X12_182 rfl h ?_
      clear h; intro t6 h
      exact r_iret hX dX12_key_51 h
def X12_letter (G : kdS) (l0 : Nat) (l1 : Int32) : kdM → Option (Int32 × kdM) :=
  kcl (X12_in G (Int32.toInt64 l1) (1 : Int64) (60 : Int64)) fun t1 =>
  cnd (t1 = 0)
    (rt (-2 : Int32))
    (gI G 12 3 l0 fun t2 =>
    cnd (t2 = (3 : Int32))
      (rt (-4 : Int32))
      (gR G 12 2 l0 fun t3 =>
      gI G 12 3 l0 fun t4 =>
      tI G t3 (t4) (l1) <|
      gI G 12 3 l0 fun t5 =>
      sI G 12 3 l0 ((t5 + (1 : Int32))) <|
      gI G 12 3 l0 fun t6 =>
      rt t6))
set_option maxRecDepth 100000 in
set_option maxHeartbeats 4000000 in
theorem wX12_letter {E : kdE} {G : kdS} {l0 : Nat} {l1 : Int32} {σ : kdM} {r : Int32} {σ1 : kdM} (h : X12_letter G l0 l1 σ = some (r, σ1)) : Con E G yX12_letter cX12_letter 2 (some .int) 1 [kr E l0, .int l1] σ (some (.int r), σ1) := by
  refine kd_head (own := RX12) rfl (by decide +kernel) (Nat.le_of_ble_eq_true rfl) (fun A hX => ?_)
  show SW E G (.inl (some (.int r), σ1)) A 2 σ 0 [(0, kr E l0), (1, .int l1)] []
  unfold X12_letter at h
  refine r_iload_n hX dX12_letter_0 rfl 1 rfl ?_
  refine r_i2l hX dX12_letter_1 ?_
  refine r_lconst hX dX12_letter_2 kk_l_1 ?_
  refine r_ldc2_w hX dX12_letter_3 w_cl_X12_185 ?_
  refine r_cSi (As := [.long (Int32.toInt64 l1), .long (1 : Int64), .long (60 : Int64)]) (st := []) hX dX12_letter_6 kl_X12_in w_ml_X12_178 w_st_X12_in (by decide) rfl (Nat.le_of_ble_eq_true rfl) rfl kdz0 h (fun r σ1 h => wX12_in h) ?_
  clear h; intro t1 σ h
  refine r_if_ne (tgt := 15) hX dX12_letter_9 (by decide) h ?_ ?_
  · clear h; intro h
    refine r_bipush hX dX12_letter_12 kk_b_m2 ?_
    exact r_iret hX dX12_letter_14 h
  · clear h; intro h
    refine r_aload_n hX dX12_letter_15 rfl 0 rfl ?_
    refine r_gI hX dX12_letter_16 kf_X12_187 rfl h ?_
    clear h; intro t2 h
    refine r_iconst hX dX12_letter_19 kk_i_3 ?_
    refine r_icmp_ne (tgt := 26) hX dX12_letter_20 (by decide) h ?_ ?_
    · clear h; intro h
      refine r_bipush hX dX12_letter_23 kk_b_m4 ?_
      exact r_iret hX dX12_letter_25 h
    · clear h; intro h
      refine r_aload_n hX dX12_letter_26 rfl 0 rfl ?_
      refine r_gR hX dX12_letter_27 kf_X12_13 rfl h ?_
      clear h; intro t3 h
      refine r_aload_n hX dX12_letter_30 rfl 0 rfl ?_
      refine r_gI hX dX12_letter_31 kf_X12_187 rfl h ?_
      clear h; intro t4 h
      refine r_iload_n hX dX12_letter_34 rfl 1 rfl ?_
      refine r_tI hX dX12_letter_35 h ?_
      clear h; intro σ h
      refine r_aload_n hX dX12_letter_36 rfl 0 rfl ?_
      refine r_dup hX dX12_letter_37 rfl ?_
      refine r_gI hX dX12_letter_38 kf_X12_187 rfl h ?_
      clear h; intro t5 h
      refine r_iconst hX dX12_letter_41 kk_i_1 ?_
      refine r_iadd hX dX12_letter_42 ?_
      refine r_sI hX dX12_letter_43 kf_X12_187 rfl (by intro q hq; cases hq; rfl) h ?_
      clear h; intro σ h
      refine r_aload_n hX dX12_letter_46 rfl 0 rfl ?_
      refine r_gI hX dX12_letter_47 kf_X12_187 rfl h ?_
      clear h; intro t6 h
      exact r_iret hX dX12_letter_50 h
def X12_wipe_73 (G : kdS) (l2 : Int32) : kdM → Option (Int32 × kdM) :=
  rt l2
set_option maxRecDepth 100000 in
set_option maxHeartbeats 4000000 in
theorem wX12_wipe_73 {E : kdE} {G : kdS} {A : kdA} {r : Int32} {σ1 : kdM} (hX : kdX E A cX12_wipe 3 RX12 (some .int) 0) {σ : kdM} {l2 : Int32} (h : X12_wipe_73 G l2 σ = some (r, σ1)) : SW E G (.inl (some (.int r), σ1)) A 3 σ 73 [(2, .int l2)] [] := by
  unfold X12_wipe_73 at h
  refine r_iload_n hX dX12_wipe_73 rfl 0 rfl ?_
  exact r_iret hX dX12_wipe_74 h
def X12_wipe_37 (G : kdS) (l0 : Nat) (l1 : Int32) (s0 : Int32) : kdM → Option (Int32 × kdM) :=
  cnd (l1 = 0)
    (sI G 12 1 l0 ((0 : Int32)) <|
    X12_wipe_73 G s0)
    (cnd (l1 = (1 : Int32))
      (sI G 12 3 l0 ((0 : Int32)) <|
      X12_wipe_73 G s0)
      (cnd (l1 = (2 : Int32))
        (sI G 12 6 l0 ((0 : Int32)) <|
        X12_wipe_73 G s0)
        (X12_wipe_73 G s0)))
set_option maxRecDepth 100000 in
set_option maxHeartbeats 4000000 in
theorem wX12_wipe_37 {E : kdE} {G : kdS} {A : kdA} {r : Int32} {σ1 : kdM} (hX : kdX E A cX12_wipe 3 RX12 (some .int) 0) {σ : kdM} {l0 : Nat} {l1 : Int32} {s0 : Int32} (h : X12_wipe_37 G l0 l1 s0 σ = some (r, σ1)) : SW E G (.inl (some (.int r), σ1)) A 3 σ 37 [(0, kr E l0), (1, .int l1)] [.int s0] := by
  unfold X12_wipe_37 at h
  refine r_istore_n (L2 := [(2, .int s0), (0, kr E l0), (1, .int l1)]) hX dX12_wipe_37 rfl (by decide) rfl ?_
  refine r_iload_n hX dX12_wipe_38 rfl 2 rfl ?_
  refine r_if_ne (tgt := 50) hX dX12_wipe_39 (by decide) h ?_ ?_
  · clear h; intro h
    refine r_aload_n hX dX12_wipe_42 rfl 1 rfl ?_
    refine r_iconst hX dX12_wipe_43 kk_i_0 ?_
    refine r_sI hX dX12_wipe_44 kf_X12_182 rfl (by intro q hq; cases hq; rfl) h ?_
    clear h; intro σ h
    refine r_goto (tgt := 73) hX dX12_wipe_47 (by decide) ?_
    refine r_sub [0] rfl ?_
    exact wX12_wipe_73 hX h
  · clear h; intro h
    refine r_iload_n hX dX12_wipe_50 rfl 2 rfl ?_
    refine r_iconst hX dX12_wipe_51 kk_i_1 ?_
    refine r_icmp_ne (tgt := 63) hX dX12_wipe_52 (by decide) h ?_ ?_
    · clear h; intro h
      refine r_aload_n hX dX12_wipe_55 rfl 1 rfl ?_
      refine r_iconst hX dX12_wipe_56 kk_i_0 ?_
      refine r_sI hX dX12_wipe_57 kf_X12_187 rfl (by intro q hq; cases hq; rfl) h ?_
      clear h; intro σ h
      refine r_goto (tgt := 73) hX dX12_wipe_60 (by decide) ?_
      refine r_sub [0] rfl ?_
      exact wX12_wipe_73 hX h
    · clear h; intro h
      refine r_iload_n hX dX12_wipe_63 rfl 2 rfl ?_
      refine r_iconst hX dX12_wipe_64 kk_i_2 ?_
      refine r_icmp_ne (tgt := 73) hX dX12_wipe_65 (by decide) h ?_ ?_
      · clear h; intro h
        refine r_aload_n hX dX12_wipe_68 rfl 1 rfl ?_
        refine r_iconst hX dX12_wipe_69 kk_i_0 ?_
        refine r_sI hX dX12_wipe_70 kf_X12_190 rfl (by intro q hq; cases hq; rfl) h ?_
        clear h; intro σ h
        refine r_sub [0] rfl ?_
        exact wX12_wipe_73 hX h
      · clear h; intro h
        refine r_sub [0] rfl ?_
        exact wX12_wipe_73 hX h
def X12_wipe (G : kdS) (l0 : Nat) (l1 : Int32) : kdM → Option (Int32 × kdM) :=
  cnd (l1 = 0)
    (gI G 12 1 l0 fun t1 =>
    X12_wipe_37 G l0 l1 t1)
    (cnd (l1 = (1 : Int32))
      (gI G 12 3 l0 fun t2 =>
      X12_wipe_37 G l0 l1 t2)
      (cnd (l1 = (2 : Int32))
        (gI G 12 6 l0 fun t3 =>
        X12_wipe_37 G l0 l1 t3)
        (X12_wipe_37 G l0 l1 (-2 : Int32))))
set_option maxRecDepth 100000 in
set_option maxHeartbeats 4000000 in
theorem wX12_wipe {E : kdE} {G : kdS} {l0 : Nat} {l1 : Int32} {σ : kdM} {r : Int32} {σ1 : kdM} (h : X12_wipe G l0 l1 σ = some (r, σ1)) : Con E G yX12_wipe cX12_wipe 3 (some .int) 0 [kr E l0, .int l1] σ (some (.int r), σ1) := by
  refine kd_head (own := RX12) rfl (by decide +kernel) (Nat.le_of_ble_eq_true rfl) (fun A hX => ?_)
  show SW E G (.inl (some (.int r), σ1)) A 3 σ 0 [(0, kr E l0), (1, .int l1)] []
  unfold X12_wipe at h
  refine r_iload_n hX dX12_wipe_0 rfl 1 rfl ?_
  refine r_if_ne (tgt := 11) hX dX12_wipe_1 (by decide) h ?_ ?_
  · clear h; intro h
    refine r_aload_n hX dX12_wipe_4 rfl 0 rfl ?_
    refine r_gI hX dX12_wipe_5 kf_X12_182 rfl h ?_
    clear h; intro t1 h
    refine r_goto (tgt := 37) hX dX12_wipe_8 (by decide) ?_
    refine r_sub [0, 1] rfl ?_
    exact wX12_wipe_37 hX h
  · clear h; intro h
    refine r_iload_n hX dX12_wipe_11 rfl 1 rfl ?_
    refine r_iconst hX dX12_wipe_12 kk_i_1 ?_
    refine r_icmp_ne (tgt := 23) hX dX12_wipe_13 (by decide) h ?_ ?_
    · clear h; intro h
      refine r_aload_n hX dX12_wipe_16 rfl 0 rfl ?_
      refine r_gI hX dX12_wipe_17 kf_X12_187 rfl h ?_
      clear h; intro t2 h
      refine r_goto (tgt := 37) hX dX12_wipe_20 (by decide) ?_
      refine r_sub [0, 1] rfl ?_
      exact wX12_wipe_37 hX h
    · clear h; intro h
      refine r_iload_n hX dX12_wipe_23 rfl 1 rfl ?_
      refine r_iconst hX dX12_wipe_24 kk_i_2 ?_
      refine r_icmp_ne (tgt := 35) hX dX12_wipe_25 (by decide) h ?_ ?_
      · clear h; intro h
        refine r_aload_n hX dX12_wipe_28 rfl 0 rfl ?_
        refine r_gI hX dX12_wipe_29 kf_X12_190 rfl h ?_
        clear h; intro t3 h
        refine r_goto (tgt := 37) hX dX12_wipe_32 (by decide) ?_
        refine r_sub [0, 1] rfl ?_
        exact wX12_wipe_37 hX h
      · clear h; intro h
        refine r_bipush hX dX12_wipe_35 kk_b_m2 ?_
        refine r_sub [0, 1] rfl ?_
        exact wX12_wipe_37 hX h
def X12_isTongue (G : kdS) (l0 : Int32) : kdM → Option (Int32 × kdM) :=
  kcl (X12_in G (Int32.toInt64 l0) (0 : Int64) (2 : Int64)) fun t1 =>
  rt (vp_nar .boolean t1)
set_option maxRecDepth 100000 in
set_option maxHeartbeats 4000000 in
theorem wX12_isTongue {E : kdE} {G : kdS} {l0 : Int32} {σ : kdM} {r : Int32} {σ1 : kdM} (h : X12_isTongue G l0 σ = some (r, σ1)) : Con E G yX12_isTongue cX12_isTongue 1 (some .boolean) 1 [.int l0] σ (some (.int r), σ1) := by
  refine kd_head (own := RX12) rfl (by decide +kernel) (Nat.le_of_ble_eq_true rfl) (fun A hX => ?_)
  show SW E G (.inl (some (.int r), σ1)) A 1 σ 0 [(0, .int l0)] []
  unfold X12_isTongue at h
  refine r_iload_n hX dX12_isTongue_0 rfl 0 rfl ?_
  refine r_i2l hX dX12_isTongue_1 ?_
  refine r_lconst hX dX12_isTongue_2 kk_l_0 ?_
  refine r_ldc2_w hX dX12_isTongue_3 w_cl_X12_193 ?_
  refine r_cSi (As := [.long (Int32.toInt64 l0), .long (0 : Int64), .long (2 : Int64)]) (st := []) hX dX12_isTongue_6 kl_X12_in w_ml_X12_178 w_st_X12_in (by decide) rfl (Nat.le_of_ble_eq_true rfl) rfl kdz0 h (fun r σ1 h => wX12_in h) ?_
  clear h; intro t1 σ h
  exact r_zret hX dX12_isTongue_9 h
def X12_rule_45 (G : kdS) : kdM → Option (Int32 × kdM) :=
  rt (-5 : Int32)
set_option maxRecDepth 100000 in
set_option maxHeartbeats 4000000 in
theorem wX12_rule_45 {E : kdE} {G : kdS} {A : kdA} {r : Int32} {σ1 : kdM} (hX : kdX E A cX12_rule 4 RX12 (some .int) 2) {σ : kdM} (h : X12_rule_45 G  σ = some (r, σ1)) : SW E G (.inl (some (.int r), σ1)) A 4 σ 45 [] [] := by
  unfold X12_rule_45 at h
  refine r_bipush hX dX12_rule_45 kk_b_m5 ?_
  exact r_iret hX dX12_rule_47 h
def X12_rule_94B (G : kdS) (k94 : Nat → Int32 → Int32 → Int32 → kdM → Option (Int32 × kdM)) (l0 : Nat) (l1 : Int32) (l2 : Int32) (l3 : Int32) : kdM → Option (Int32 × kdM) :=
  gI G 12 3 l0 fun t1 =>
  cnd (t1 ≤ l3)
    (gR G 12 8 l0 fun t2 =>
    gI G 12 1 l0 fun t3 =>
    tI G t2 (l2) (t3) <|
    gR G 12 10 l0 fun t4 =>
    gI G 12 3 l0 fun t5 =>
    tI G t4 (l2) (t5) <|
    sI G 12 1 l0 ((0 : Int32)) <|
    sI G 12 3 l0 ((0 : Int32)) <|
    gR G 12 11 l0 fun t6 =>
    aI G t6 (l1) fun t7 =>
    tI G t6 (l1) ((t7 + (1 : Int32))) <|
    gR G 12 11 l0 fun t8 =>
    aI G t8 (l1) fun t9 =>
    rt (t9 - (1 : Int32)))
    (gR G 12 9 l0 fun t10 =>
    gR G 12 2 l0 fun t11 =>
    aI G t11 (l3) fun t12 =>
    tI G t10 ((((3 : Int32) * l2) + l3)) (t12) <|
    ltI (l3 + Int32.ofInt 1) fun t13 =>
    k94 l0 l1 l2 t13)
set_option maxRecDepth 100000 in
set_option maxHeartbeats 4000000 in
theorem wX12_rule_94B {E : kdE} {G : kdS} {A : kdA} {r : Int32} {σ1 : kdM} (hX : kdX E A cX12_rule 4 RX12 (some .int) 2) (k94 : Nat → Int32 → Int32 → Int32 → kdM → Option (Int32 × kdM)) (hk94 : ∀ (l0 : Nat) (l1 : Int32) (l2 : Int32) (l3 : Int32) (σ : kdM), k94 l0 l1 l2 l3 σ = some (r, σ1) → SW E G (.inl (some (.int r), σ1)) A 4 σ 94 [(0, kr E l0), (1, .int l1), (2, .int l2), (3, .int l3)] []) {σ : kdM} {l0 : Nat} {l1 : Int32} {l2 : Int32} {l3 : Int32} (h : X12_rule_94B G k94 l0 l1 l2 l3 σ = some (r, σ1)) : SW E G (.inl (some (.int r), σ1)) A 4 σ 94 [(0, kr E l0), (1, .int l1), (2, .int l2), (3, .int l3)] [] := by
  unfold X12_rule_94B at h
  refine r_iload_n hX dX12_rule_94 rfl 3 rfl ?_
  refine r_aload_n hX dX12_rule_95 rfl 0 rfl ?_
  refine r_gI hX dX12_rule_96 kf_X12_187 rfl h ?_
  clear h; intro t1 h
  refine r_icmp_ge (tgt := 124) hX dX12_rule_99 (by decide) h ?_ ?_
  · clear h; intro h
    refine r_aload_n hX dX12_rule_124 rfl 0 rfl ?_
    refine r_gR hX dX12_rule_125 kf_X12_26 rfl h ?_
    clear h; intro t2 h
    refine r_iload_n hX dX12_rule_128 rfl 2 rfl ?_
    refine r_aload_n hX dX12_rule_129 rfl 0 rfl ?_
    refine r_gI hX dX12_rule_130 kf_X12_182 rfl h ?_
    clear h; intro t3 h
    refine r_tI hX dX12_rule_133 h ?_
    clear h; intro σ h
    refine r_aload_n hX dX12_rule_134 rfl 0 rfl ?_
    refine r_gR hX dX12_rule_135 kf_X12_32 rfl h ?_
    clear h; intro t4 h
    refine r_iload_n hX dX12_rule_138 rfl 2 rfl ?_
    refine r_aload_n hX dX12_rule_139 rfl 0 rfl ?_
    refine r_gI hX dX12_rule_140 kf_X12_187 rfl h ?_
    clear h; intro t5 h
    refine r_tI hX dX12_rule_143 h ?_
    clear h; intro σ h
    refine r_aload_n hX dX12_rule_144 rfl 0 rfl ?_
    refine r_iconst hX dX12_rule_145 kk_i_0 ?_
    refine r_sI hX dX12_rule_146 kf_X12_182 rfl (by intro q hq; cases hq; rfl) h ?_
    clear h; intro σ h
    refine r_aload_n hX dX12_rule_149 rfl 0 rfl ?_
    refine r_iconst hX dX12_rule_150 kk_i_0 ?_
    refine r_sI hX dX12_rule_151 kf_X12_187 rfl (by intro q hq; cases hq; rfl) h ?_
    clear h; intro σ h
    refine r_aload_n hX dX12_rule_154 rfl 0 rfl ?_
    refine r_gR hX dX12_rule_155 kf_X12_35 rfl h ?_
    clear h; intro t6 h
    refine r_iload_n hX dX12_rule_158 rfl 1 rfl ?_
    refine r_dup2 hX dX12_rule_159 rfl rfl ?_
    refine r_aI hX dX12_rule_160 h ?_
    clear h; intro t7 h
    refine r_iconst hX dX12_rule_161 kk_i_1 ?_
    refine r_iadd hX dX12_rule_162 ?_
    refine r_tI hX dX12_rule_163 h ?_
    clear h; intro σ h
    refine r_aload_n hX dX12_rule_164 rfl 0 rfl ?_
    refine r_gR hX dX12_rule_165 kf_X12_35 rfl h ?_
    clear h; intro t8 h
    refine r_iload_n hX dX12_rule_168 rfl 1 rfl ?_
    refine r_aI hX dX12_rule_169 h ?_
    clear h; intro t9 h
    refine r_iconst hX dX12_rule_170 kk_i_1 ?_
    refine r_isub hX dX12_rule_171 ?_
    exact r_iret hX dX12_rule_172 h
  · clear h; intro h
    refine r_aload_n hX dX12_rule_102 rfl 0 rfl ?_
    refine r_gR hX dX12_rule_103 kf_X12_29 rfl h ?_
    clear h; intro t10 h
    refine r_iconst hX dX12_rule_106 kk_i_3 ?_
    refine r_iload_n hX dX12_rule_107 rfl 2 rfl ?_
    refine r_imul hX dX12_rule_108 ?_
    refine r_iload_n hX dX12_rule_109 rfl 3 rfl ?_
    refine r_iadd hX dX12_rule_110 ?_
    refine r_aload_n hX dX12_rule_111 rfl 0 rfl ?_
    refine r_gR hX dX12_rule_112 kf_X12_13 rfl h ?_
    clear h; intro t11 h
    refine r_iload_n hX dX12_rule_115 rfl 3 rfl ?_
    refine r_aI hX dX12_rule_116 h ?_
    clear h; intro t12 h
    refine r_tI hX dX12_rule_117 h ?_
    clear h; intro σ h
    refine r_iincL (L2 := fun t13 => [(3, .int t13), (0, kr E l0), (1, .int l1), (2, .int l2)]) hX dX12_rule_118 h 3 rfl (by decide) (fun _ => rfl) ?_
    clear h; intro t13 h
    refine r_goto (tgt := 94) hX dX12_rule_121 (by decide) ?_
    refine r_sub [1, 2, 3, 0] rfl ?_
    exact hk94 _ _ _ _ _ h
def X12_rule_94 (G : kdS) : Nat → Int32 → Int32 → Int32 → kdM → Option (Int32 × kdM) := lp (fun _ _ _ _ _ => none) (X12_rule_94B G) NN
theorem wX12_rule_94 {E : kdE} {G : kdS} {A : kdA} {r : Int32} {σ1 : kdM} (hX : kdX E A cX12_rule 4 RX12 (some .int) 2) : ∀ (l0 : Nat) (l1 : Int32) (l2 : Int32) (l3 : Int32) (σ : kdM), X12_rule_94 G l0 l1 l2 l3 σ = some (r, σ1) → SW E G (.inl (some (.int r), σ1)) A 4 σ 94 [(0, kr E l0), (1, .int l1), (2, .int l2), (3, .int l3)] [] :=
  lp_ind (Q := fun f => ∀ (l0 : Nat) (l1 : Int32) (l2 : Int32) (l3 : Int32) (σ : kdM), f l0 l1 l2 l3 σ = some (r, σ1) → SW E G (.inl (some (.int r), σ1)) A 4 σ 94 [(0, kr E l0), (1, .int l1), (2, .int l2), (3, .int l3)] []) (by intros; contradiction) (fun k hk l0 l1 l2 l3 σ h => wX12_rule_94B hX k hk h) NN
def X12_rule_62B (G : kdS) (k62 : Nat → Int32 → Int32 → Int32 → kdM → Option (Int32 × kdM)) (l0 : Nat) (l1 : Int32) (l2 : Int32) (l3 : Int32) : kdM → Option (Int32 × kdM) :=
  gI G 12 1 l0 fun t1 =>
  cnd (t1 ≤ l3)
    (X12_rule_94 G l0 l1 l2 (0 : Int32))
    (gR G 12 7 l0 fun t2 =>
    gR G 12 0 l0 fun t3 =>
    aI G t3 (l3) fun t4 =>
    tI G t2 ((((4 : Int32) * l2) + l3)) (t4) <|
    ltI (l3 + Int32.ofInt 1) fun t5 =>
    k62 l0 l1 l2 t5)
set_option maxRecDepth 100000 in
set_option maxHeartbeats 4000000 in
theorem wX12_rule_62B {E : kdE} {G : kdS} {A : kdA} {r : Int32} {σ1 : kdM} (hX : kdX E A cX12_rule 4 RX12 (some .int) 2) (k62 : Nat → Int32 → Int32 → Int32 → kdM → Option (Int32 × kdM)) (hk62 : ∀ (l0 : Nat) (l1 : Int32) (l2 : Int32) (l3 : Int32) (σ : kdM), k62 l0 l1 l2 l3 σ = some (r, σ1) → SW E G (.inl (some (.int r), σ1)) A 4 σ 62 [(0, kr E l0), (1, .int l1), (2, .int l2), (3, .int l3)] []) {σ : kdM} {l0 : Nat} {l1 : Int32} {l2 : Int32} {l3 : Int32} (h : X12_rule_62B G k62 l0 l1 l2 l3 σ = some (r, σ1)) : SW E G (.inl (some (.int r), σ1)) A 4 σ 62 [(0, kr E l0), (1, .int l1), (2, .int l2), (3, .int l3)] [] := by
  unfold X12_rule_62B at h
  refine r_iload_n hX dX12_rule_62 rfl 3 rfl ?_
  refine r_aload_n hX dX12_rule_63 rfl 0 rfl ?_
  refine r_gI hX dX12_rule_64 kf_X12_182 rfl h ?_
  clear h; intro t1 h
  refine r_icmp_ge (tgt := 92) hX dX12_rule_67 (by decide) h ?_ ?_
  · clear h; intro h
    refine r_iconst hX dX12_rule_92 kk_i_0 ?_
    refine r_istore_n (L2 := [(3, .int (0 : Int32)), (0, kr E l0), (1, .int l1), (2, .int l2)]) hX dX12_rule_93 rfl (by decide) rfl ?_
    refine r_sub [1, 2, 3, 0] rfl ?_
    exact wX12_rule_94 hX _ _ _ _ _ h
  · clear h; intro h
    refine r_aload_n hX dX12_rule_70 rfl 0 rfl ?_
    refine r_gR hX dX12_rule_71 kf_X12_23 rfl h ?_
    clear h; intro t2 h
    refine r_iconst hX dX12_rule_74 kk_i_4 ?_
    refine r_iload_n hX dX12_rule_75 rfl 2 rfl ?_
    refine r_imul hX dX12_rule_76 ?_
    refine r_iload_n hX dX12_rule_77 rfl 3 rfl ?_
    refine r_iadd hX dX12_rule_78 ?_
    refine r_aload_n hX dX12_rule_79 rfl 0 rfl ?_
    refine r_gR hX dX12_rule_80 kf_X12_7 rfl h ?_
    clear h; intro t3 h
    refine r_iload_n hX dX12_rule_83 rfl 3 rfl ?_
    refine r_aI hX dX12_rule_84 h ?_
    clear h; intro t4 h
    refine r_tI hX dX12_rule_85 h ?_
    clear h; intro σ h
    refine r_iincL (L2 := fun t5 => [(3, .int t5), (0, kr E l0), (1, .int l1), (2, .int l2)]) hX dX12_rule_86 h 3 rfl (by decide) (fun _ => rfl) ?_
    clear h; intro t5 h
    refine r_goto (tgt := 62) hX dX12_rule_89 (by decide) ?_
    refine r_sub [1, 2, 3, 0] rfl ?_
    exact hk62 _ _ _ _ _ h
def X12_rule_62 (G : kdS) : Nat → Int32 → Int32 → Int32 → kdM → Option (Int32 × kdM) := lp (fun _ _ _ _ _ => none) (X12_rule_62B G) NN
theorem wX12_rule_62 {E : kdE} {G : kdS} {A : kdA} {r : Int32} {σ1 : kdM} (hX : kdX E A cX12_rule 4 RX12 (some .int) 2) : ∀ (l0 : Nat) (l1 : Int32) (l2 : Int32) (l3 : Int32) (σ : kdM), X12_rule_62 G l0 l1 l2 l3 σ = some (r, σ1) → SW E G (.inl (some (.int r), σ1)) A 4 σ 62 [(0, kr E l0), (1, .int l1), (2, .int l2), (3, .int l3)] [] :=
  lp_ind (Q := fun f => ∀ (l0 : Nat) (l1 : Int32) (l2 : Int32) (l3 : Int32) (σ : kdM), f l0 l1 l2 l3 σ = some (r, σ1) → SW E G (.inl (some (.int r), σ1)) A 4 σ 62 [(0, kr E l0), (1, .int l1), (2, .int l2), (3, .int l3)] []) (by intros; contradiction) (fun k hk l0 l1 l2 l3 σ h => wX12_rule_62B hX k hk h) NN
def X12_rule (G : kdS) (l0 : Nat) (l1 : Int32) : kdM → Option (Int32 × kdM) :=
  kcl (X12_isTongue G l1) fun t1 =>
  cnd (t1 = 0)
    (rt (-1 : Int32))
    (gR G 12 11 l0 fun t2 =>
    aI G t2 (l1) fun t3 =>
    cnd (t3 = (24 : Int32))
      (rt (-4 : Int32))
      (gI G 12 1 l0 fun t4 =>
      cnd (t4 = 0)
        (X12_rule_45 G )
        (gI G 12 3 l0 fun t5 =>
        cnd (t5 = 0)
          (X12_rule_45 G )
          (gI G 12 1 l0 fun t6 =>
          cnd (t6 ≤ (4 : Int32))
            (gR G 12 11 l0 fun t7 =>
            aI G t7 (l1) fun t8 =>
            ltI ((((24 : Int32) * l1) + t8)) fun t9 =>
            X12_rule_62 G l0 l1 t9 (0 : Int32))
            (X12_rule_45 G )))))
set_option maxRecDepth 100000 in
set_option maxHeartbeats 4000000 in
theorem wX12_rule {E : kdE} {G : kdS} {l0 : Nat} {l1 : Int32} {σ : kdM} {r : Int32} {σ1 : kdM} (h : X12_rule G l0 l1 σ = some (r, σ1)) : Con E G yX12_rule cX12_rule 4 (some .int) 2 [kr E l0, .int l1] σ (some (.int r), σ1) := by
  refine kd_head (own := RX12) rfl (by decide +kernel) (Nat.le_of_ble_eq_true rfl) (fun A hX => ?_)
  show SW E G (.inl (some (.int r), σ1)) A 4 σ 0 [(0, kr E l0), (1, .int l1)] []
  unfold X12_rule at h
  refine r_iload_n hX dX12_rule_0 rfl 1 rfl ?_
  refine r_cSi (As := [.int l1]) (st := []) hX dX12_rule_1 kl_X12_isTongue w_ml_X12_195 w_st_X12_isTongue (by decide) rfl (Nat.le_of_ble_eq_true rfl) rfl kdz0 h (fun r σ1 h => wX12_isTongue h) ?_
  clear h; intro t1 σ h
  refine r_if_ne (tgt := 9) hX dX12_rule_4 (by decide) h ?_ ?_
  · clear h; intro h
    refine r_iconst hX dX12_rule_7 kk_i_m1 ?_
    exact r_iret hX dX12_rule_8 h
  · clear h; intro h
    refine r_aload_n hX dX12_rule_9 rfl 0 rfl ?_
    refine r_gR hX dX12_rule_10 kf_X12_35 rfl h ?_
    clear h; intro t2 h
    refine r_iload_n hX dX12_rule_13 rfl 1 rfl ?_
    refine r_aI hX dX12_rule_14 h ?_
    clear h; intro t3 h
    refine r_bipush hX dX12_rule_15 kk_b_24 ?_
    refine r_icmp_ne (tgt := 23) hX dX12_rule_17 (by decide) h ?_ ?_
    · clear h; intro h
      refine r_bipush hX dX12_rule_20 kk_b_m4 ?_
      exact r_iret hX dX12_rule_22 h
    · clear h; intro h
      refine r_aload_n hX dX12_rule_23 rfl 0 rfl ?_
      refine r_gI hX dX12_rule_24 kf_X12_182 rfl h ?_
      clear h; intro t4 h
      refine r_if_eq (tgt := 45) hX dX12_rule_27 (by decide) h ?_ ?_
      · clear h; intro h
        refine r_sub [] rfl ?_
        exact wX12_rule_45 hX h
      · clear h; intro h
        refine r_aload_n hX dX12_rule_30 rfl 0 rfl ?_
        refine r_gI hX dX12_rule_31 kf_X12_187 rfl h ?_
        clear h; intro t5 h
        refine r_if_eq (tgt := 45) hX dX12_rule_34 (by decide) h ?_ ?_
        · clear h; intro h
          refine r_sub [] rfl ?_
          exact wX12_rule_45 hX h
        · clear h; intro h
          refine r_aload_n hX dX12_rule_37 rfl 0 rfl ?_
          refine r_gI hX dX12_rule_38 kf_X12_182 rfl h ?_
          clear h; intro t6 h
          refine r_iconst hX dX12_rule_41 kk_i_4 ?_
          refine r_icmp_le (tgt := 48) hX dX12_rule_42 (by decide) h ?_ ?_
          · clear h; intro h
            refine r_bipush hX dX12_rule_48 kk_b_24 ?_
            refine r_iload_n hX dX12_rule_50 rfl 1 rfl ?_
            refine r_imul hX dX12_rule_51 ?_
            refine r_aload_n hX dX12_rule_52 rfl 0 rfl ?_
            refine r_gR hX dX12_rule_53 kf_X12_35 rfl h ?_
            clear h; intro t7 h
            refine r_iload_n hX dX12_rule_56 rfl 1 rfl ?_
            refine r_aI hX dX12_rule_57 h ?_
            clear h; intro t8 h
            refine r_iadd hX dX12_rule_58 ?_
            refine r_letI h ?_
            clear h; intro t9 h
            refine r_istore_n (L2 := [(2, .int t9), (0, kr E l0), (1, .int l1)]) hX dX12_rule_59 rfl (by decide) rfl ?_
            refine r_iconst hX dX12_rule_60 kk_i_0 ?_
            refine r_istore_n (L2 := [(3, .int (0 : Int32)), (2, .int t9), (0, kr E l0), (1, .int l1)]) hX dX12_rule_61 rfl (by decide) rfl ?_
            refine r_sub [2, 3, 1, 0] rfl ?_
            exact wX12_rule_62 hX _ _ _ _ _ h
          · clear h; intro h
            refine r_sub [] rfl ?_
            exact wX12_rule_45 hX h
def X12_isLetter (G : kdS) (l0 : Int32) : kdM → Option (Int32 × kdM) :=
  kcl (X12_in G (Int32.toInt64 l0) (1 : Int64) (60 : Int64)) fun t1 =>
  rt (vp_nar .boolean t1)
set_option maxRecDepth 100000 in
set_option maxHeartbeats 4000000 in
theorem wX12_isLetter {E : kdE} {G : kdS} {l0 : Int32} {σ : kdM} {r : Int32} {σ1 : kdM} (h : X12_isLetter G l0 σ = some (r, σ1)) : Con E G yX12_isLetter cX12_isLetter 1 (some .boolean) 1 [.int l0] σ (some (.int r), σ1) := by
  refine kd_head (own := RX12) rfl (by decide +kernel) (Nat.le_of_ble_eq_true rfl) (fun A hX => ?_)
  show SW E G (.inl (some (.int r), σ1)) A 1 σ 0 [(0, .int l0)] []
  unfold X12_isLetter at h
  refine r_iload_n hX dX12_isLetter_0 rfl 0 rfl ?_
  refine r_i2l hX dX12_isLetter_1 ?_
  refine r_lconst hX dX12_isLetter_2 kk_l_1 ?_
  refine r_ldc2_w hX dX12_isLetter_3 w_cl_X12_185 ?_
  refine r_cSi (As := [.long (Int32.toInt64 l0), .long (1 : Int64), .long (60 : Int64)]) (st := []) hX dX12_isLetter_6 kl_X12_in w_ml_X12_178 w_st_X12_in (by decide) rfl (Nat.le_of_ble_eq_true rfl) rfl kdz0 h (fun r σ1 h => wX12_in h) ?_
  clear h; intro t1 σ h
  exact r_zret hX dX12_isLetter_9 h
def X12_join_31 (G : kdS) : kdM → Option (Int32 × kdM) :=
  rt (-2 : Int32)
set_option maxRecDepth 100000 in
set_option maxHeartbeats 4000000 in
theorem wX12_join_31 {E : kdE} {G : kdS} {A : kdA} {r : Int32} {σ1 : kdM} (hX : kdX E A cX12_join 6 RX12 (some .int) 2) {σ : kdM} (h : X12_join_31 G  σ = some (r, σ1)) : SW E G (.inl (some (.int r), σ1)) A 6 σ 31 [] [] := by
  unfold X12_join_31 at h
  refine r_bipush hX dX12_join_31 kk_b_m2 ?_
  exact r_iret hX dX12_join_33 h
def X12_join (G : kdS) (l0 : Nat) (l1 : Int32) (l2 : Int32) (l3 : Int32) (l4 : Int32) : kdM → Option (Int32 × kdM) :=
  kcl (X12_isTongue G l1) fun t1 =>
  cnd (t1 = 0)
    (rt (-1 : Int32))
    (kcl (X12_isLetter G l2) fun t2 =>
    cnd (t2 = 0)
      (X12_join_31 G )
      (kcl (X12_isLetter G l3) fun t3 =>
      cnd (t3 = 0)
        (X12_join_31 G )
        (kcl (X12_isLetter G l4) fun t4 =>
        cnd (t4 = 0)
          (X12_join_31 G )
          (gR G 12 13 l0 fun t5 =>
          aI G t5 (l1) fun t6 =>
          cnd (t6 = (12 : Int32))
            (rt (-4 : Int32))
            (gR G 12 13 l0 fun t7 =>
            aI G t7 (l1) fun t8 =>
            ltI (((3 : Int32) * (((12 : Int32) * l1) + t8))) fun t9 =>
            gR G 12 12 l0 fun t10 =>
            tI G t10 (t9) (l2) <|
            gR G 12 12 l0 fun t11 =>
            tI G t11 ((t9 + (1 : Int32))) (l3) <|
            gR G 12 12 l0 fun t12 =>
            tI G t12 ((t9 + (2 : Int32))) (l4) <|
            gR G 12 13 l0 fun t13 =>
            aI G t13 (l1) fun t14 =>
            tI G t13 (l1) ((t14 + (1 : Int32))) <|
            gR G 12 13 l0 fun t15 =>
            aI G t15 (l1) fun t16 =>
            rt t16)))))
set_option maxRecDepth 100000 in
set_option maxHeartbeats 4000000 in
theorem wX12_join {E : kdE} {G : kdS} {l0 : Nat} {l1 : Int32} {l2 : Int32} {l3 : Int32} {l4 : Int32} {σ : kdM} {r : Int32} {σ1 : kdM} (h : X12_join G l0 l1 l2 l3 l4 σ = some (r, σ1)) : Con E G yX12_join cX12_join 6 (some .int) 2 [kr E l0, .int l1, .int l2, .int l3, .int l4] σ (some (.int r), σ1) := by
  refine kd_head (own := RX12) rfl (by decide +kernel) (Nat.le_of_ble_eq_true rfl) (fun A hX => ?_)
  show SW E G (.inl (some (.int r), σ1)) A 6 σ 0 [(0, kr E l0), (1, .int l1), (2, .int l2), (3, .int l3), (4, .int l4)] []
  unfold X12_join at h
  refine r_iload_n hX dX12_join_0 rfl 1 rfl ?_
  refine r_cSi (As := [.int l1]) (st := []) hX dX12_join_1 kl_X12_isTongue w_ml_X12_195 w_st_X12_isTongue (by decide) rfl (Nat.le_of_ble_eq_true rfl) rfl kdz0 h (fun r σ1 h => wX12_isTongue h) ?_
  clear h; intro t1 σ h
  refine r_if_ne (tgt := 9) hX dX12_join_4 (by decide) h ?_ ?_
  · clear h; intro h
    refine r_iconst hX dX12_join_7 kk_i_m1 ?_
    exact r_iret hX dX12_join_8 h
  · clear h; intro h
    refine r_iload_n hX dX12_join_9 rfl 2 rfl ?_
    refine r_cSi (As := [.int l2]) (st := []) hX dX12_join_10 kl_X12_isLetter w_ml_X12_199 w_st_X12_isLetter (by decide) rfl (Nat.le_of_ble_eq_true rfl) rfl kdz0 h (fun r σ1 h => wX12_isLetter h) ?_
    clear h; intro t2 σ h
    refine r_if_eq (tgt := 31) hX dX12_join_13 (by decide) h ?_ ?_
    · clear h; intro h
      refine r_sub [] rfl ?_
      exact wX12_join_31 hX h
    · clear h; intro h
      refine r_iload_n hX dX12_join_16 rfl 3 rfl ?_
      refine r_cSi (As := [.int l3]) (st := []) hX dX12_join_17 kl_X12_isLetter w_ml_X12_199 w_st_X12_isLetter (by decide) rfl (Nat.le_of_ble_eq_true rfl) rfl kdz0 h (fun r σ1 h => wX12_isLetter h) ?_
      clear h; intro t3 σ h
      refine r_if_eq (tgt := 31) hX dX12_join_20 (by decide) h ?_ ?_
      · clear h; intro h
        refine r_sub [] rfl ?_
        exact wX12_join_31 hX h
      · clear h; intro h
        refine r_iload hX dX12_join_23 4 rfl ?_
        refine r_cSi (As := [.int l4]) (st := []) hX dX12_join_25 kl_X12_isLetter w_ml_X12_199 w_st_X12_isLetter (by decide) rfl (Nat.le_of_ble_eq_true rfl) rfl kdz0 h (fun r σ1 h => wX12_isLetter h) ?_
        clear h; intro t4 σ h
        refine r_if_ne (tgt := 34) hX dX12_join_28 (by decide) h ?_ ?_
        · clear h; intro h
          refine r_sub [] rfl ?_
          exact wX12_join_31 hX h
        · clear h; intro h
          refine r_aload_n hX dX12_join_34 rfl 0 rfl ?_
          refine r_gR hX dX12_join_35 kf_X12_41 rfl h ?_
          clear h; intro t5 h
          refine r_iload_n hX dX12_join_38 rfl 1 rfl ?_
          refine r_aI hX dX12_join_39 h ?_
          clear h; intro t6 h
          refine r_bipush hX dX12_join_40 kk_b_12 ?_
          refine r_icmp_ne (tgt := 48) hX dX12_join_42 (by decide) h ?_ ?_
          · clear h; intro h
            refine r_bipush hX dX12_join_45 kk_b_m4 ?_
            exact r_iret hX dX12_join_47 h
          · clear h; intro h
            refine r_iconst hX dX12_join_48 kk_i_3 ?_
            refine r_bipush hX dX12_join_49 kk_b_12 ?_
            refine r_iload_n hX dX12_join_51 rfl 1 rfl ?_
            refine r_imul hX dX12_join_52 ?_
            refine r_aload_n hX dX12_join_53 rfl 0 rfl ?_
            refine r_gR hX dX12_join_54 kf_X12_41 rfl h ?_
            clear h; intro t7 h
            refine r_iload_n hX dX12_join_57 rfl 1 rfl ?_
            refine r_aI hX dX12_join_58 h ?_
            clear h; intro t8 h
            refine r_iadd hX dX12_join_59 ?_
            refine r_imul hX dX12_join_60 ?_
            refine r_letI h ?_
            clear h; intro t9 h
            refine r_istore (L2 := [(5, .int t9), (0, kr E l0), (1, .int l1), (2, .int l2), (3, .int l3), (4, .int l4)]) hX dX12_join_61 (by decide) rfl ?_
            refine r_aload_n hX dX12_join_63 rfl 1 rfl ?_
            refine r_gR hX dX12_join_64 kf_X12_38 rfl h ?_
            clear h; intro t10 h
            refine r_iload hX dX12_join_67 0 rfl ?_
            refine r_iload_n hX dX12_join_69 rfl 3 rfl ?_
            refine r_tI hX dX12_join_70 h ?_
            clear h; intro σ h
            refine r_aload_n hX dX12_join_71 rfl 1 rfl ?_
            refine r_gR hX dX12_join_72 kf_X12_38 rfl h ?_
            clear h; intro t11 h
            refine r_iload hX dX12_join_75 0 rfl ?_
            refine r_iconst hX dX12_join_77 kk_i_1 ?_
            refine r_iadd hX dX12_join_78 ?_
            refine r_iload_n hX dX12_join_79 rfl 4 rfl ?_
            refine r_tI hX dX12_join_80 h ?_
            clear h; intro σ h
            refine r_aload_n hX dX12_join_81 rfl 1 rfl ?_
            refine r_gR hX dX12_join_82 kf_X12_38 rfl h ?_
            clear h; intro t12 h
            refine r_iload hX dX12_join_85 0 rfl ?_
            refine r_iconst hX dX12_join_87 kk_i_2 ?_
            refine r_iadd hX dX12_join_88 ?_
            refine r_iload hX dX12_join_89 5 rfl ?_
            refine r_tI hX dX12_join_91 h ?_
            clear h; intro σ h
            refine r_aload_n hX dX12_join_92 rfl 1 rfl ?_
            refine r_gR hX dX12_join_93 kf_X12_41 rfl h ?_
            clear h; intro t13 h
            refine r_iload_n hX dX12_join_96 rfl 2 rfl ?_
            refine r_dup2 hX dX12_join_97 rfl rfl ?_
            refine r_aI hX dX12_join_98 h ?_
            clear h; intro t14 h
            refine r_iconst hX dX12_join_99 kk_i_1 ?_
            refine r_iadd hX dX12_join_100 ?_
            refine r_tI hX dX12_join_101 h ?_
            clear h; intro σ h
            refine r_aload_n hX dX12_join_102 rfl 1 rfl ?_
            refine r_gR hX dX12_join_103 kf_X12_41 rfl h ?_
            clear h; intro t15 h
            refine r_iload_n hX dX12_join_106 rfl 2 rfl ?_
            refine r_aI hX dX12_join_107 h ?_
            clear h; intro t16 h
            exact r_iret hX dX12_join_108 h
def X12_own_38 (G : kdS) (l0 : Nat) (l1 : Int32) (l2 : Int32) (l3 : Int32) (s0 : Int32) : kdM → Option (Int32 × kdM) :=
  gR G 12 14 l0 fun t1 =>
  tZ G t1 ((((61 : Int32) * l1) + l2)) (l3) <|
  rt s0
set_option maxRecDepth 100000 in
set_option maxHeartbeats 4000000 in
theorem wX12_own_38 {E : kdE} {G : kdS} {A : kdA} {r : Int32} {σ1 : kdM} (hX : kdX E A cX12_own 5 RX12 (some .int) 2) {σ : kdM} {l0 : Nat} {l1 : Int32} {l2 : Int32} {l3 : Int32} {s0 : Int32} (h : X12_own_38 G l0 l1 l2 l3 s0 σ = some (r, σ1)) : SW E G (.inl (some (.int r), σ1)) A 5 σ 38 [(0, kr E l0), (1, .int l1), (2, .int l2), (3, .int l3)] [.int s0] := by
  unfold X12_own_38 at h
  refine r_istore (L2 := [(4, .int s0), (0, kr E l0), (1, .int l1), (2, .int l2), (3, .int l3)]) hX dX12_own_38 (by decide) rfl ?_
  refine r_aload_n hX dX12_own_40 rfl 1 rfl ?_
  refine r_gR hX dX12_own_41 kf_X12_44 rfl h ?_
  clear h; intro t1 h
  refine r_bipush hX dX12_own_44 kk_b_61 ?_
  refine r_iload_n hX dX12_own_46 rfl 2 rfl ?_
  refine r_imul hX dX12_own_47 ?_
  refine r_iload_n hX dX12_own_48 rfl 3 rfl ?_
  refine r_iadd hX dX12_own_49 ?_
  refine r_iload_n hX dX12_own_50 rfl 4 rfl ?_
  refine r_tZ hX dX12_own_51 h ?_
  clear h; intro σ h
  refine r_iload hX dX12_own_52 0 rfl ?_
  exact r_iret hX dX12_own_54 h
def X12_own (G : kdS) (l0 : Nat) (l1 : Int32) (l2 : Int32) (l3 : Int32) : kdM → Option (Int32 × kdM) :=
  kcl (X12_isTongue G l1) fun t1 =>
  cnd (t1 = 0)
    (rt (-1 : Int32))
    (kcl (X12_isLetter G l2) fun t2 =>
    cnd (t2 = 0)
      (rt (-2 : Int32))
      (gR G 12 14 l0 fun t3 =>
      aZ G t3 ((((61 : Int32) * l1) + l2)) fun t4 =>
      cnd (t4 = 0)
        (X12_own_38 G l0 l1 l2 l3 (0 : Int32))
        (X12_own_38 G l0 l1 l2 l3 (1 : Int32))))
set_option maxRecDepth 100000 in
set_option maxHeartbeats 4000000 in
theorem wX12_own {E : kdE} {G : kdS} {l0 : Nat} {l1 : Int32} {l2 : Int32} {l3 : Int32} {σ : kdM} {r : Int32} {σ1 : kdM} (h : X12_own G l0 l1 l2 l3 σ = some (r, σ1)) : Con E G yX12_own cX12_own 5 (some .int) 2 [kr E l0, .int l1, .int l2, .int l3] σ (some (.int r), σ1) := by
  refine kd_head (own := RX12) rfl (by decide +kernel) (Nat.le_of_ble_eq_true rfl) (fun A hX => ?_)
  show SW E G (.inl (some (.int r), σ1)) A 5 σ 0 [(0, kr E l0), (1, .int l1), (2, .int l2), (3, .int l3)] []
  unfold X12_own at h
  refine r_iload_n hX dX12_own_0 rfl 1 rfl ?_
  refine r_cSi (As := [.int l1]) (st := []) hX dX12_own_1 kl_X12_isTongue w_ml_X12_195 w_st_X12_isTongue (by decide) rfl (Nat.le_of_ble_eq_true rfl) rfl kdz0 h (fun r σ1 h => wX12_isTongue h) ?_
  clear h; intro t1 σ h
  refine r_if_ne (tgt := 9) hX dX12_own_4 (by decide) h ?_ ?_
  · clear h; intro h
    refine r_iconst hX dX12_own_7 kk_i_m1 ?_
    exact r_iret hX dX12_own_8 h
  · clear h; intro h
    refine r_iload_n hX dX12_own_9 rfl 2 rfl ?_
    refine r_cSi (As := [.int l2]) (st := []) hX dX12_own_10 kl_X12_isLetter w_ml_X12_199 w_st_X12_isLetter (by decide) rfl (Nat.le_of_ble_eq_true rfl) rfl kdz0 h (fun r σ1 h => wX12_isLetter h) ?_
    clear h; intro t2 σ h
    refine r_if_ne (tgt := 19) hX dX12_own_13 (by decide) h ?_ ?_
    · clear h; intro h
      refine r_bipush hX dX12_own_16 kk_b_m2 ?_
      exact r_iret hX dX12_own_18 h
    · clear h; intro h
      refine r_aload_n hX dX12_own_19 rfl 0 rfl ?_
      refine r_gR hX dX12_own_20 kf_X12_44 rfl h ?_
      clear h; intro t3 h
      refine r_bipush hX dX12_own_23 kk_b_61 ?_
      refine r_iload_n hX dX12_own_25 rfl 1 rfl ?_
      refine r_imul hX dX12_own_26 ?_
      refine r_iload_n hX dX12_own_27 rfl 2 rfl ?_
      refine r_iadd hX dX12_own_28 ?_
      refine r_aZ hX dX12_own_29 h ?_
      clear h; intro t4 h
      refine r_if_eq (tgt := 37) hX dX12_own_30 (by decide) h ?_ ?_
      · clear h; intro h
        refine r_iconst hX dX12_own_37 kk_i_0 ?_
        refine r_sub [0, 1, 2, 3] rfl ?_
        exact wX12_own_38 hX h
      · clear h; intro h
        refine r_iconst hX dX12_own_33 kk_i_1 ?_
        refine r_goto (tgt := 38) hX dX12_own_34 (by decide) ?_
        refine r_sub [0, 1, 2, 3] rfl ?_
        exact wX12_own_38 hX h
def X12_haveSameKeys_76 (G : kdS) (l3 : Int32) : kdM → Option (Int32 × kdM) :=
  rt (vp_nar .boolean l3)
set_option maxRecDepth 100000 in
set_option maxHeartbeats 4000000 in
theorem wX12_haveSameKeys_76 {E : kdE} {G : kdS} {A : kdA} {r : Int32} {σ1 : kdM} (hX : kdX E A cX12_haveSameKeys 5 RX12 (some .boolean) 0) {σ : kdM} {l3 : Int32} (h : X12_haveSameKeys_76 G l3 σ = some (r, σ1)) : SW E G (.inl (some (.int r), σ1)) A 5 σ 76 [(3, .int l3)] [] := by
  unfold X12_haveSameKeys_76 at h
  refine r_iload_n hX dX12_haveSameKeys_76 rfl 0 rfl ?_
  exact r_zret hX dX12_haveSameKeys_77 h
def X12_haveSameKeys_69 (G : kdS) (k24 : Nat → Int32 → Int32 → Int32 → Int32 → kdM → Option (Int32 × kdM)) (l0 : Nat) (l1 : Int32) (l2 : Int32) (l4 : Int32) (s0 : Int32) : kdM → Option (Int32 × kdM) :=
  ltI (l4 + Int32.ofInt 1) fun t1 =>
  k24 l0 l1 l2 s0 t1
set_option maxRecDepth 100000 in
set_option maxHeartbeats 4000000 in
theorem wX12_haveSameKeys_69 {E : kdE} {G : kdS} {A : kdA} {r : Int32} {σ1 : kdM} (hX : kdX E A cX12_haveSameKeys 5 RX12 (some .boolean) 0) (k24 : Nat → Int32 → Int32 → Int32 → Int32 → kdM → Option (Int32 × kdM)) (hk24 : ∀ (l0 : Nat) (l1 : Int32) (l2 : Int32) (l3 : Int32) (l4 : Int32) (σ : kdM), k24 l0 l1 l2 l3 l4 σ = some (r, σ1) → SW E G (.inl (some (.int r), σ1)) A 5 σ 24 [(0, kr E l0), (1, .int l1), (2, .int l2), (3, .int l3), (4, .int l4)] []) {σ : kdM} {l0 : Nat} {l1 : Int32} {l2 : Int32} {l4 : Int32} {s0 : Int32} (h : X12_haveSameKeys_69 G k24 l0 l1 l2 l4 s0 σ = some (r, σ1)) : SW E G (.inl (some (.int r), σ1)) A 5 σ 69 [(0, kr E l0), (1, .int l1), (2, .int l2), (4, .int l4)] [.int s0] := by
  unfold X12_haveSameKeys_69 at h
  refine r_istore_n (L2 := [(3, .int s0), (0, kr E l0), (1, .int l1), (2, .int l2), (4, .int l4)]) hX dX12_haveSameKeys_69 rfl (by decide) rfl ?_
  refine r_iincL (L2 := fun t1 => [(4, .int t1), (3, .int s0), (0, kr E l0), (1, .int l1), (2, .int l2)]) hX dX12_haveSameKeys_70 h 4 rfl (by decide) (fun _ => rfl) ?_
  clear h; intro t1 h
  refine r_goto (tgt := 24) hX dX12_haveSameKeys_73 (by decide) ?_
  refine r_sub [2, 3, 4, 1, 0] rfl ?_
  exact hk24 _ _ _ _ _ _ h
def X12_haveSameKeys_24B (G : kdS) (k24 : Nat → Int32 → Int32 → Int32 → Int32 → kdM → Option (Int32 × kdM)) (l0 : Nat) (l1 : Int32) (l2 : Int32) (l3 : Int32) (l4 : Int32) : kdM → Option (Int32 × kdM) :=
  gR G 12 8 l0 fun t1 =>
  aI G t1 (l1) fun t2 =>
  cnd (t2 ≤ l4)
    (X12_haveSameKeys_76 G l3)
    (cnd (l3 = 0)
      (X12_haveSameKeys_76 G l3)
      (gR G 12 7 l0 fun t3 =>
      aI G t3 ((((4 : Int32) * l1) + l4)) fun t4 =>
      gR G 12 7 l0 fun t5 =>
      aI G t5 ((((4 : Int32) * l2) + l4)) fun t6 =>
      cnd (t4 = t6)
        (X12_haveSameKeys_69 G k24 l0 l1 l2 l4 (1 : Int32))
        (X12_haveSameKeys_69 G k24 l0 l1 l2 l4 (0 : Int32))))
set_option maxRecDepth 100000 in
set_option maxHeartbeats 4000000 in
theorem wX12_haveSameKeys_24B {E : kdE} {G : kdS} {A : kdA} {r : Int32} {σ1 : kdM} (hX : kdX E A cX12_haveSameKeys 5 RX12 (some .boolean) 0) (k24 : Nat → Int32 → Int32 → Int32 → Int32 → kdM → Option (Int32 × kdM)) (hk24 : ∀ (l0 : Nat) (l1 : Int32) (l2 : Int32) (l3 : Int32) (l4 : Int32) (σ : kdM), k24 l0 l1 l2 l3 l4 σ = some (r, σ1) → SW E G (.inl (some (.int r), σ1)) A 5 σ 24 [(0, kr E l0), (1, .int l1), (2, .int l2), (3, .int l3), (4, .int l4)] []) {σ : kdM} {l0 : Nat} {l1 : Int32} {l2 : Int32} {l3 : Int32} {l4 : Int32} (h : X12_haveSameKeys_24B G k24 l0 l1 l2 l3 l4 σ = some (r, σ1)) : SW E G (.inl (some (.int r), σ1)) A 5 σ 24 [(0, kr E l0), (1, .int l1), (2, .int l2), (3, .int l3), (4, .int l4)] [] := by
  unfold X12_haveSameKeys_24B at h
  refine r_iload hX dX12_haveSameKeys_24 4 rfl ?_
  refine r_aload_n hX dX12_haveSameKeys_26 rfl 0 rfl ?_
  refine r_gR hX dX12_haveSameKeys_27 kf_X12_26 rfl h ?_
  clear h; intro t1 h
  refine r_iload_n hX dX12_haveSameKeys_30 rfl 1 rfl ?_
  refine r_aI hX dX12_haveSameKeys_31 h ?_
  clear h; intro t2 h
  refine r_icmp_ge (tgt := 76) hX dX12_haveSameKeys_32 (by decide) h ?_ ?_
  · clear h; intro h
    refine r_sub [3] rfl ?_
    exact wX12_haveSameKeys_76 hX h
  · clear h; intro h
    refine r_iload_n hX dX12_haveSameKeys_35 rfl 3 rfl ?_
    refine r_if_eq (tgt := 76) hX dX12_haveSameKeys_36 (by decide) h ?_ ?_
    · clear h; intro h
      refine r_sub [3] rfl ?_
      exact wX12_haveSameKeys_76 hX h
    · clear h; intro h
      refine r_aload_n hX dX12_haveSameKeys_39 rfl 0 rfl ?_
      refine r_gR hX dX12_haveSameKeys_40 kf_X12_23 rfl h ?_
      clear h; intro t3 h
      refine r_iconst hX dX12_haveSameKeys_43 kk_i_4 ?_
      refine r_iload_n hX dX12_haveSameKeys_44 rfl 1 rfl ?_
      refine r_imul hX dX12_haveSameKeys_45 ?_
      refine r_iload hX dX12_haveSameKeys_46 4 rfl ?_
      refine r_iadd hX dX12_haveSameKeys_48 ?_
      refine r_aI hX dX12_haveSameKeys_49 h ?_
      clear h; intro t4 h
      refine r_aload_n hX dX12_haveSameKeys_50 rfl 0 rfl ?_
      refine r_gR hX dX12_haveSameKeys_51 kf_X12_23 rfl h ?_
      clear h; intro t5 h
      refine r_iconst hX dX12_haveSameKeys_54 kk_i_4 ?_
      refine r_iload_n hX dX12_haveSameKeys_55 rfl 2 rfl ?_
      refine r_imul hX dX12_haveSameKeys_56 ?_
      refine r_iload hX dX12_haveSameKeys_57 4 rfl ?_
      refine r_iadd hX dX12_haveSameKeys_59 ?_
      refine r_aI hX dX12_haveSameKeys_60 h ?_
      clear h; intro t6 h
      refine r_icmp_ne (tgt := 68) hX dX12_haveSameKeys_61 (by decide) h ?_ ?_
      · clear h; intro h
        refine r_iconst hX dX12_haveSameKeys_64 kk_i_1 ?_
        refine r_goto (tgt := 69) hX dX12_haveSameKeys_65 (by decide) ?_
        refine r_sub [0, 1, 2, 4] rfl ?_
        exact wX12_haveSameKeys_69 hX k24 hk24 h
      · clear h; intro h
        refine r_iconst hX dX12_haveSameKeys_68 kk_i_0 ?_
        refine r_sub [0, 1, 2, 4] rfl ?_
        exact wX12_haveSameKeys_69 hX k24 hk24 h
def X12_haveSameKeys_24 (G : kdS) : Nat → Int32 → Int32 → Int32 → Int32 → kdM → Option (Int32 × kdM) := lp (fun _ _ _ _ _ _ => none) (X12_haveSameKeys_24B G) NN
theorem wX12_haveSameKeys_24 {E : kdE} {G : kdS} {A : kdA} {r : Int32} {σ1 : kdM} (hX : kdX E A cX12_haveSameKeys 5 RX12 (some .boolean) 0) : ∀ (l0 : Nat) (l1 : Int32) (l2 : Int32) (l3 : Int32) (l4 : Int32) (σ : kdM), X12_haveSameKeys_24 G l0 l1 l2 l3 l4 σ = some (r, σ1) → SW E G (.inl (some (.int r), σ1)) A 5 σ 24 [(0, kr E l0), (1, .int l1), (2, .int l2), (3, .int l3), (4, .int l4)] [] :=
  lp_ind (Q := fun f => ∀ (l0 : Nat) (l1 : Int32) (l2 : Int32) (l3 : Int32) (l4 : Int32) (σ : kdM), f l0 l1 l2 l3 l4 σ = some (r, σ1) → SW E G (.inl (some (.int r), σ1)) A 5 σ 24 [(0, kr E l0), (1, .int l1), (2, .int l2), (3, .int l3), (4, .int l4)] []) (by intros; contradiction) (fun k hk l0 l1 l2 l3 l4 σ h => wX12_haveSameKeys_24B hX k hk h) NN
def X12_haveSameKeys_20 (G : kdS) (l0 : Nat) (l1 : Int32) (l2 : Int32) (s0 : Int32) : kdM → Option (Int32 × kdM) :=
  X12_haveSameKeys_24 G l0 l1 l2 s0 (0 : Int32)
set_option maxRecDepth 100000 in
set_option maxHeartbeats 4000000 in
theorem wX12_haveSameKeys_20 {E : kdE} {G : kdS} {A : kdA} {r : Int32} {σ1 : kdM} (hX : kdX E A cX12_haveSameKeys 5 RX12 (some .boolean) 0) {σ : kdM} {l0 : Nat} {l1 : Int32} {l2 : Int32} {s0 : Int32} (h : X12_haveSameKeys_20 G l0 l1 l2 s0 σ = some (r, σ1)) : SW E G (.inl (some (.int r), σ1)) A 5 σ 20 [(0, kr E l0), (1, .int l1), (2, .int l2)] [.int s0] := by
  unfold X12_haveSameKeys_20 at h
  refine r_istore_n (L2 := [(3, .int s0), (0, kr E l0), (1, .int l1), (2, .int l2)]) hX dX12_haveSameKeys_20 rfl (by decide) rfl ?_
  refine r_iconst hX dX12_haveSameKeys_21 kk_i_0 ?_
  refine r_istore (L2 := [(4, .int (0 : Int32)), (3, .int s0), (0, kr E l0), (1, .int l1), (2, .int l2)]) hX dX12_haveSameKeys_22 (by decide) rfl ?_
  refine r_sub [2, 3, 4, 1, 0] rfl ?_
  exact wX12_haveSameKeys_24 hX _ _ _ _ _ _ h
def X12_haveSameKeys (G : kdS) (l0 : Nat) (l1 : Int32) (l2 : Int32) : kdM → Option (Int32 × kdM) :=
  gR G 12 8 l0 fun t1 =>
  aI G t1 (l1) fun t2 =>
  gR G 12 8 l0 fun t3 =>
  aI G t3 (l2) fun t4 =>
  cnd (t2 = t4)
    (X12_haveSameKeys_20 G l0 l1 l2 (1 : Int32))
    (X12_haveSameKeys_20 G l0 l1 l2 (0 : Int32))
set_option maxRecDepth 100000 in
set_option maxHeartbeats 4000000 in
theorem wX12_haveSameKeys {E : kdE} {G : kdS} {l0 : Nat} {l1 : Int32} {l2 : Int32} {σ : kdM} {r : Int32} {σ1 : kdM} (h : X12_haveSameKeys G l0 l1 l2 σ = some (r, σ1)) : Con E G yX12_haveSameKeys cX12_haveSameKeys 5 (some .boolean) 0 [kr E l0, .int l1, .int l2] σ (some (.int r), σ1) := by
  refine kd_head (own := RX12) rfl (by decide +kernel) (Nat.le_of_ble_eq_true rfl) (fun A hX => ?_)
  show SW E G (.inl (some (.int r), σ1)) A 5 σ 0 [(0, kr E l0), (1, .int l1), (2, .int l2)] []
  unfold X12_haveSameKeys at h
  refine r_aload_n hX dX12_haveSameKeys_0 rfl 0 rfl ?_
  refine r_gR hX dX12_haveSameKeys_1 kf_X12_26 rfl h ?_
  clear h; intro t1 h
  refine r_iload_n hX dX12_haveSameKeys_4 rfl 1 rfl ?_
  refine r_aI hX dX12_haveSameKeys_5 h ?_
  clear h; intro t2 h
  refine r_aload_n hX dX12_haveSameKeys_6 rfl 0 rfl ?_
  refine r_gR hX dX12_haveSameKeys_7 kf_X12_26 rfl h ?_
  clear h; intro t3 h
  refine r_iload_n hX dX12_haveSameKeys_10 rfl 2 rfl ?_
  refine r_aI hX dX12_haveSameKeys_11 h ?_
  clear h; intro t4 h
  refine r_icmp_ne (tgt := 19) hX dX12_haveSameKeys_12 (by decide) h ?_ ?_
  · clear h; intro h
    refine r_iconst hX dX12_haveSameKeys_15 kk_i_1 ?_
    refine r_goto (tgt := 20) hX dX12_haveSameKeys_16 (by decide) ?_
    refine r_sub [0, 1, 2] rfl ?_
    exact wX12_haveSameKeys_20 hX h
  · clear h; intro h
    refine r_iconst hX dX12_haveSameKeys_19 kk_i_0 ?_
    refine r_sub [0, 1, 2] rfl ?_
    exact wX12_haveSameKeys_20 hX h
def X12_haveSameLetters_76 (G : kdS) (l3 : Int32) : kdM → Option (Int32 × kdM) :=
  rt (vp_nar .boolean l3)
set_option maxRecDepth 100000 in
set_option maxHeartbeats 4000000 in
theorem wX12_haveSameLetters_76 {E : kdE} {G : kdS} {A : kdA} {r : Int32} {σ1 : kdM} (hX : kdX E A cX12_haveSameLetters 5 RX12 (some .boolean) 0) {σ : kdM} {l3 : Int32} (h : X12_haveSameLetters_76 G l3 σ = some (r, σ1)) : SW E G (.inl (some (.int r), σ1)) A 5 σ 76 [(3, .int l3)] [] := by
  unfold X12_haveSameLetters_76 at h
  refine r_iload_n hX dX12_haveSameLetters_76 rfl 0 rfl ?_
  exact r_zret hX dX12_haveSameLetters_77 h
def X12_haveSameLetters_69 (G : kdS) (k24 : Nat → Int32 → Int32 → Int32 → Int32 → kdM → Option (Int32 × kdM)) (l0 : Nat) (l1 : Int32) (l2 : Int32) (l4 : Int32) (s0 : Int32) : kdM → Option (Int32 × kdM) :=
  ltI (l4 + Int32.ofInt 1) fun t1 =>
  k24 l0 l1 l2 s0 t1
set_option maxRecDepth 100000 in
set_option maxHeartbeats 4000000 in
theorem wX12_haveSameLetters_69 {E : kdE} {G : kdS} {A : kdA} {r : Int32} {σ1 : kdM} (hX : kdX E A cX12_haveSameLetters 5 RX12 (some .boolean) 0) (k24 : Nat → Int32 → Int32 → Int32 → Int32 → kdM → Option (Int32 × kdM)) (hk24 : ∀ (l0 : Nat) (l1 : Int32) (l2 : Int32) (l3 : Int32) (l4 : Int32) (σ : kdM), k24 l0 l1 l2 l3 l4 σ = some (r, σ1) → SW E G (.inl (some (.int r), σ1)) A 5 σ 24 [(0, kr E l0), (1, .int l1), (2, .int l2), (3, .int l3), (4, .int l4)] []) {σ : kdM} {l0 : Nat} {l1 : Int32} {l2 : Int32} {l4 : Int32} {s0 : Int32} (h : X12_haveSameLetters_69 G k24 l0 l1 l2 l4 s0 σ = some (r, σ1)) : SW E G (.inl (some (.int r), σ1)) A 5 σ 69 [(0, kr E l0), (1, .int l1), (2, .int l2), (4, .int l4)] [.int s0] := by
  unfold X12_haveSameLetters_69 at h
  refine r_istore_n (L2 := [(3, .int s0), (0, kr E l0), (1, .int l1), (2, .int l2), (4, .int l4)]) hX dX12_haveSameLetters_69 rfl (by decide) rfl ?_
  refine r_iincL (L2 := fun t1 => [(4, .int t1), (3, .int s0), (0, kr E l0), (1, .int l1), (2, .int l2)]) hX dX12_haveSameLetters_70 h 4 rfl (by decide) (fun _ => rfl) ?_
  clear h; intro t1 h
  refine r_goto (tgt := 24) hX dX12_haveSameLetters_73 (by decide) ?_
  refine r_sub [2, 3, 4, 1, 0] rfl ?_
  exact hk24 _ _ _ _ _ _ h
def X12_haveSameLetters_24B (G : kdS) (k24 : Nat → Int32 → Int32 → Int32 → Int32 → kdM → Option (Int32 × kdM)) (l0 : Nat) (l1 : Int32) (l2 : Int32) (l3 : Int32) (l4 : Int32) : kdM → Option (Int32 × kdM) :=
  gR G 12 10 l0 fun t1 =>
  aI G t1 (l1) fun t2 =>
  cnd (t2 ≤ l4)
    (X12_haveSameLetters_76 G l3)
    (cnd (l3 = 0)
      (X12_haveSameLetters_76 G l3)
      (gR G 12 9 l0 fun t3 =>
      aI G t3 ((((3 : Int32) * l1) + l4)) fun t4 =>
      gR G 12 9 l0 fun t5 =>
      aI G t5 ((((3 : Int32) * l2) + l4)) fun t6 =>
      cnd (t4 = t6)
        (X12_haveSameLetters_69 G k24 l0 l1 l2 l4 (1 : Int32))
        (X12_haveSameLetters_69 G k24 l0 l1 l2 l4 (0 : Int32))))
set_option maxRecDepth 100000 in
set_option maxHeartbeats 4000000 in
theorem wX12_haveSameLetters_24B {E : kdE} {G : kdS} {A : kdA} {r : Int32} {σ1 : kdM} (hX : kdX E A cX12_haveSameLetters 5 RX12 (some .boolean) 0) (k24 : Nat → Int32 → Int32 → Int32 → Int32 → kdM → Option (Int32 × kdM)) (hk24 : ∀ (l0 : Nat) (l1 : Int32) (l2 : Int32) (l3 : Int32) (l4 : Int32) (σ : kdM), k24 l0 l1 l2 l3 l4 σ = some (r, σ1) → SW E G (.inl (some (.int r), σ1)) A 5 σ 24 [(0, kr E l0), (1, .int l1), (2, .int l2), (3, .int l3), (4, .int l4)] []) {σ : kdM} {l0 : Nat} {l1 : Int32} {l2 : Int32} {l3 : Int32} {l4 : Int32} (h : X12_haveSameLetters_24B G k24 l0 l1 l2 l3 l4 σ = some (r, σ1)) : SW E G (.inl (some (.int r), σ1)) A 5 σ 24 [(0, kr E l0), (1, .int l1), (2, .int l2), (3, .int l3), (4, .int l4)] [] := by
  unfold X12_haveSameLetters_24B at h
  refine r_iload hX dX12_haveSameLetters_24 4 rfl ?_
  refine r_aload_n hX dX12_haveSameLetters_26 rfl 0 rfl ?_
  refine r_gR hX dX12_haveSameLetters_27 kf_X12_32 rfl h ?_
  clear h; intro t1 h
  refine r_iload_n hX dX12_haveSameLetters_30 rfl 1 rfl ?_
  refine r_aI hX dX12_haveSameLetters_31 h ?_
  clear h; intro t2 h
  refine r_icmp_ge (tgt := 76) hX dX12_haveSameLetters_32 (by decide) h ?_ ?_
  · clear h; intro h
    refine r_sub [3] rfl ?_
    exact wX12_haveSameLetters_76 hX h
  · clear h; intro h
    refine r_iload_n hX dX12_haveSameLetters_35 rfl 3 rfl ?_
    refine r_if_eq (tgt := 76) hX dX12_haveSameLetters_36 (by decide) h ?_ ?_
    · clear h; intro h
      refine r_sub [3] rfl ?_
      exact wX12_haveSameLetters_76 hX h
    · clear h; intro h
      refine r_aload_n hX dX12_haveSameLetters_39 rfl 0 rfl ?_
      refine r_gR hX dX12_haveSameLetters_40 kf_X12_29 rfl h ?_
      clear h; intro t3 h
      refine r_iconst hX dX12_haveSameLetters_43 kk_i_3 ?_
      refine r_iload_n hX dX12_haveSameLetters_44 rfl 1 rfl ?_
      refine r_imul hX dX12_haveSameLetters_45 ?_
      refine r_iload hX dX12_haveSameLetters_46 4 rfl ?_
      refine r_iadd hX dX12_haveSameLetters_48 ?_
      refine r_aI hX dX12_haveSameLetters_49 h ?_
      clear h; intro t4 h
      refine r_aload_n hX dX12_haveSameLetters_50 rfl 0 rfl ?_
      refine r_gR hX dX12_haveSameLetters_51 kf_X12_29 rfl h ?_
      clear h; intro t5 h
      refine r_iconst hX dX12_haveSameLetters_54 kk_i_3 ?_
      refine r_iload_n hX dX12_haveSameLetters_55 rfl 2 rfl ?_
      refine r_imul hX dX12_haveSameLetters_56 ?_
      refine r_iload hX dX12_haveSameLetters_57 4 rfl ?_
      refine r_iadd hX dX12_haveSameLetters_59 ?_
      refine r_aI hX dX12_haveSameLetters_60 h ?_
      clear h; intro t6 h
      refine r_icmp_ne (tgt := 68) hX dX12_haveSameLetters_61 (by decide) h ?_ ?_
      · clear h; intro h
        refine r_iconst hX dX12_haveSameLetters_64 kk_i_1 ?_
        refine r_goto (tgt := 69) hX dX12_haveSameLetters_65 (by decide) ?_
        refine r_sub [0, 1, 2, 4] rfl ?_
        exact wX12_haveSameLetters_69 hX k24 hk24 h
      · clear h; intro h
        refine r_iconst hX dX12_haveSameLetters_68 kk_i_0 ?_
        refine r_sub [0, 1, 2, 4] rfl ?_
        exact wX12_haveSameLetters_69 hX k24 hk24 h
def X12_haveSameLetters_24 (G : kdS) : Nat → Int32 → Int32 → Int32 → Int32 → kdM → Option (Int32 × kdM) := lp (fun _ _ _ _ _ _ => none) (X12_haveSameLetters_24B G) NN
theorem wX12_haveSameLetters_24 {E : kdE} {G : kdS} {A : kdA} {r : Int32} {σ1 : kdM} (hX : kdX E A cX12_haveSameLetters 5 RX12 (some .boolean) 0) : ∀ (l0 : Nat) (l1 : Int32) (l2 : Int32) (l3 : Int32) (l4 : Int32) (σ : kdM), X12_haveSameLetters_24 G l0 l1 l2 l3 l4 σ = some (r, σ1) → SW E G (.inl (some (.int r), σ1)) A 5 σ 24 [(0, kr E l0), (1, .int l1), (2, .int l2), (3, .int l3), (4, .int l4)] [] :=
  lp_ind (Q := fun f => ∀ (l0 : Nat) (l1 : Int32) (l2 : Int32) (l3 : Int32) (l4 : Int32) (σ : kdM), f l0 l1 l2 l3 l4 σ = some (r, σ1) → SW E G (.inl (some (.int r), σ1)) A 5 σ 24 [(0, kr E l0), (1, .int l1), (2, .int l2), (3, .int l3), (4, .int l4)] []) (by intros; contradiction) (fun k hk l0 l1 l2 l3 l4 σ h => wX12_haveSameLetters_24B hX k hk h) NN
def X12_haveSameLetters_20 (G : kdS) (l0 : Nat) (l1 : Int32) (l2 : Int32) (s0 : Int32) : kdM → Option (Int32 × kdM) :=
  X12_haveSameLetters_24 G l0 l1 l2 s0 (0 : Int32)
set_option maxRecDepth 100000 in
set_option maxHeartbeats 4000000 in
theorem wX12_haveSameLetters_20 {E : kdE} {G : kdS} {A : kdA} {r : Int32} {σ1 : kdM} (hX : kdX E A cX12_haveSameLetters 5 RX12 (some .boolean) 0) {σ : kdM} {l0 : Nat} {l1 : Int32} {l2 : Int32} {s0 : Int32} (h : X12_haveSameLetters_20 G l0 l1 l2 s0 σ = some (r, σ1)) : SW E G (.inl (some (.int r), σ1)) A 5 σ 20 [(0, kr E l0), (1, .int l1), (2, .int l2)] [.int s0] := by
  unfold X12_haveSameLetters_20 at h
  refine r_istore_n (L2 := [(3, .int s0), (0, kr E l0), (1, .int l1), (2, .int l2)]) hX dX12_haveSameLetters_20 rfl (by decide) rfl ?_
  refine r_iconst hX dX12_haveSameLetters_21 kk_i_0 ?_
  refine r_istore (L2 := [(4, .int (0 : Int32)), (3, .int s0), (0, kr E l0), (1, .int l1), (2, .int l2)]) hX dX12_haveSameLetters_22 (by decide) rfl ?_
  refine r_sub [2, 3, 4, 1, 0] rfl ?_
  exact wX12_haveSameLetters_24 hX _ _ _ _ _ _ h
def X12_haveSameLetters (G : kdS) (l0 : Nat) (l1 : Int32) (l2 : Int32) : kdM → Option (Int32 × kdM) :=
  gR G 12 10 l0 fun t1 =>
  aI G t1 (l1) fun t2 =>
  gR G 12 10 l0 fun t3 =>
  aI G t3 (l2) fun t4 =>
  cnd (t2 = t4)
    (X12_haveSameLetters_20 G l0 l1 l2 (1 : Int32))
    (X12_haveSameLetters_20 G l0 l1 l2 (0 : Int32))
set_option maxRecDepth 100000 in
set_option maxHeartbeats 4000000 in
theorem wX12_haveSameLetters {E : kdE} {G : kdS} {l0 : Nat} {l1 : Int32} {l2 : Int32} {σ : kdM} {r : Int32} {σ1 : kdM} (h : X12_haveSameLetters G l0 l1 l2 σ = some (r, σ1)) : Con E G yX12_haveSameLetters cX12_haveSameLetters 5 (some .boolean) 0 [kr E l0, .int l1, .int l2] σ (some (.int r), σ1) := by
  refine kd_head (own := RX12) rfl (by decide +kernel) (Nat.le_of_ble_eq_true rfl) (fun A hX => ?_)
  show SW E G (.inl (some (.int r), σ1)) A 5 σ 0 [(0, kr E l0), (1, .int l1), (2, .int l2)] []
  unfold X12_haveSameLetters at h
  refine r_aload_n hX dX12_haveSameLetters_0 rfl 0 rfl ?_
  refine r_gR hX dX12_haveSameLetters_1 kf_X12_32 rfl h ?_
  clear h; intro t1 h
  refine r_iload_n hX dX12_haveSameLetters_4 rfl 1 rfl ?_
  refine r_aI hX dX12_haveSameLetters_5 h ?_
  clear h; intro t2 h
  refine r_aload_n hX dX12_haveSameLetters_6 rfl 0 rfl ?_
  refine r_gR hX dX12_haveSameLetters_7 kf_X12_32 rfl h ?_
  clear h; intro t3 h
  refine r_iload_n hX dX12_haveSameLetters_10 rfl 2 rfl ?_
  refine r_aI hX dX12_haveSameLetters_11 h ?_
  clear h; intro t4 h
  refine r_icmp_ne (tgt := 19) hX dX12_haveSameLetters_12 (by decide) h ?_ ?_
  · clear h; intro h
    refine r_iconst hX dX12_haveSameLetters_15 kk_i_1 ?_
    refine r_goto (tgt := 20) hX dX12_haveSameLetters_16 (by decide) ?_
    refine r_sub [0, 1, 2] rfl ?_
    exact wX12_haveSameLetters_20 hX h
  · clear h; intro h
    refine r_iconst hX dX12_haveSameLetters_19 kk_i_0 ?_
    refine r_sub [0, 1, 2] rfl ?_
    exact wX12_haveSameLetters_20 hX h
def X12_quarrel_99 (G : kdS) (k20 : Nat → Int32 → Int32 → Int32 → Int32 → Int32 → kdM → Option (Int32 × kdM)) (k37 : Nat → Int32 → Int32 → Int32 → Int32 → Int32 → Int32 → kdM → Option (Int32 × kdM)) (l0 : Nat) (l1 : Int32) (l2 : Int32) (l3 : Int32) (l4 : Int32) (l5 : Int32) (l6 : Int32) : kdM → Option (Int32 × kdM) :=
  ltI (l6 + Int32.ofInt 1) fun t1 =>
  k37 l0 l1 l2 l3 l4 l5 t1
set_option maxRecDepth 100000 in
set_option maxHeartbeats 4000000 in
theorem wX12_quarrel_99 {E : kdE} {G : kdS} {A : kdA} {r : Int32} {σ1 : kdM} (hX : kdX E A cX12_quarrel 7 RX12 (some .int) 2) (k20 : Nat → Int32 → Int32 → Int32 → Int32 → Int32 → kdM → Option (Int32 × kdM)) (k37 : Nat → Int32 → Int32 → Int32 → Int32 → Int32 → Int32 → kdM → Option (Int32 × kdM)) (hk20 : ∀ (l0 : Nat) (l1 : Int32) (l2 : Int32) (l3 : Int32) (l4 : Int32) (l5 : Int32) (σ : kdM), k20 l0 l1 l2 l3 l4 l5 σ = some (r, σ1) → SW E G (.inl (some (.int r), σ1)) A 7 σ 20 [(0, kr E l0), (1, .int l1), (2, .int l2), (3, .int l3), (4, .int l4), (5, .int l5)] []) (hk37 : ∀ (l0 : Nat) (l1 : Int32) (l2 : Int32) (l3 : Int32) (l4 : Int32) (l5 : Int32) (l6 : Int32) (σ : kdM), k37 l0 l1 l2 l3 l4 l5 l6 σ = some (r, σ1) → SW E G (.inl (some (.int r), σ1)) A 7 σ 37 [(0, kr E l0), (1, .int l1), (2, .int l2), (3, .int l3), (4, .int l4), (5, .int l5), (6, .int l6)] []) {σ : kdM} {l0 : Nat} {l1 : Int32} {l2 : Int32} {l3 : Int32} {l4 : Int32} {l5 : Int32} {l6 : Int32} (h : X12_quarrel_99 G k20 k37 l0 l1 l2 l3 l4 l5 l6 σ = some (r, σ1)) : SW E G (.inl (some (.int r), σ1)) A 7 σ 99 [(0, kr E l0), (1, .int l1), (2, .int l2), (3, .int l3), (4, .int l4), (5, .int l5), (6, .int l6)] [] := by
  unfold X12_quarrel_99 at h
  refine r_iincL (L2 := fun t1 => [(6, .int t1), (0, kr E l0), (1, .int l1), (2, .int l2), (3, .int l3), (4, .int l4), (5, .int l5)]) hX dX12_quarrel_99 h 6 rfl (by decide) (fun _ => rfl) ?_
  clear h; intro t1 h
  refine r_goto (tgt := 37) hX dX12_quarrel_102 (by decide) ?_
  refine r_sub [1, 2, 3, 4, 5, 6, 0] rfl ?_
  exact hk37 _ _ _ _ _ _ _ _ h
def X12_quarrel_37B (G : kdS) (k20 : Nat → Int32 → Int32 → Int32 → Int32 → Int32 → kdM → Option (Int32 × kdM)) (k37 : Nat → Int32 → Int32 → Int32 → Int32 → Int32 → Int32 → kdM → Option (Int32 × kdM)) (l0 : Nat) (l1 : Int32) (l2 : Int32) (l3 : Int32) (l4 : Int32) (l5 : Int32) (l6 : Int32) : kdM → Option (Int32 × kdM) :=
  gR G 12 11 l0 fun t1 =>
  aI G t1 (l1) fun t2 =>
  cnd (t2 ≤ l6)
    (ltI (l5 + Int32.ofInt 1) fun t3 =>
    k20 l0 l1 l2 l3 l4 t3)
    (kcv G 12 l0 (X12_haveSameKeys G l0 (l4 + l5) (l4 + l6)) fun t4 =>
    cnd (t4 = 0)
      (X12_quarrel_99 G k20 k37 l0 l1 l2 l3 l4 l5 l6)
      (kcv G 12 l0 (X12_haveSameLetters G l0 (l4 + l5) (l4 + l6)) fun t5 =>
      cnd (t5 = 0)
        (cnd (l3 = l2)
          (rt (((100 : Int32) * l5) + l6))
          (ltI (l3 + Int32.ofInt 1) fun t6 =>
          X12_quarrel_99 G k20 k37 l0 l1 l2 t6 l4 l5 l6))
        (X12_quarrel_99 G k20 k37 l0 l1 l2 l3 l4 l5 l6)))
set_option maxRecDepth 100000 in
set_option maxHeartbeats 4000000 in
theorem wX12_quarrel_37B {E : kdE} {G : kdS} {A : kdA} {r : Int32} {σ1 : kdM} (hX : kdX E A cX12_quarrel 7 RX12 (some .int) 2) (k20 : Nat → Int32 → Int32 → Int32 → Int32 → Int32 → kdM → Option (Int32 × kdM)) (k37 : Nat → Int32 → Int32 → Int32 → Int32 → Int32 → Int32 → kdM → Option (Int32 × kdM)) (hk20 : ∀ (l0 : Nat) (l1 : Int32) (l2 : Int32) (l3 : Int32) (l4 : Int32) (l5 : Int32) (σ : kdM), k20 l0 l1 l2 l3 l4 l5 σ = some (r, σ1) → SW E G (.inl (some (.int r), σ1)) A 7 σ 20 [(0, kr E l0), (1, .int l1), (2, .int l2), (3, .int l3), (4, .int l4), (5, .int l5)] []) (hk37 : ∀ (l0 : Nat) (l1 : Int32) (l2 : Int32) (l3 : Int32) (l4 : Int32) (l5 : Int32) (l6 : Int32) (σ : kdM), k37 l0 l1 l2 l3 l4 l5 l6 σ = some (r, σ1) → SW E G (.inl (some (.int r), σ1)) A 7 σ 37 [(0, kr E l0), (1, .int l1), (2, .int l2), (3, .int l3), (4, .int l4), (5, .int l5), (6, .int l6)] []) {σ : kdM} {l0 : Nat} {l1 : Int32} {l2 : Int32} {l3 : Int32} {l4 : Int32} {l5 : Int32} {l6 : Int32} (h : X12_quarrel_37B G k20 k37 l0 l1 l2 l3 l4 l5 l6 σ = some (r, σ1)) : SW E G (.inl (some (.int r), σ1)) A 7 σ 37 [(0, kr E l0), (1, .int l1), (2, .int l2), (3, .int l3), (4, .int l4), (5, .int l5), (6, .int l6)] [] := by
  unfold X12_quarrel_37B at h
  refine r_iload hX dX12_quarrel_37 6 rfl ?_
  refine r_aload_n hX dX12_quarrel_39 rfl 0 rfl ?_
  refine r_gR hX dX12_quarrel_40 kf_X12_35 rfl h ?_
  clear h; intro t1 h
  refine r_iload_n hX dX12_quarrel_43 rfl 1 rfl ?_
  refine r_aI hX dX12_quarrel_44 h ?_
  clear h; intro t2 h
  refine r_icmp_ge (tgt := 105) hX dX12_quarrel_45 (by decide) h ?_ ?_
  · clear h; intro h
    refine r_iincL (L2 := fun t3 => [(5, .int t3), (0, kr E l0), (1, .int l1), (2, .int l2), (3, .int l3), (4, .int l4), (6, .int l6)]) hX dX12_quarrel_105 h 5 rfl (by decide) (fun _ => rfl) ?_
    clear h; intro t3 h
    refine r_goto (tgt := 20) hX dX12_quarrel_108 (by decide) ?_
    refine r_sub [1, 2, 3, 4, 5, 0] rfl ?_
    exact hk20 _ _ _ _ _ _ _ h
  · clear h; intro h
    refine r_aload_n hX dX12_quarrel_48 rfl 0 rfl ?_
    refine r_iload hX dX12_quarrel_49 4 rfl ?_
    refine r_iload hX dX12_quarrel_51 5 rfl ?_
    refine r_iadd hX dX12_quarrel_53 ?_
    refine r_iload hX dX12_quarrel_54 4 rfl ?_
    refine r_iload hX dX12_quarrel_56 6 rfl ?_
    refine r_iadd hX dX12_quarrel_58 ?_
    refine r_cVi (As := [.int (l4 + l5), .int (l4 + l6)]) (st := []) hX dX12_quarrel_59 kl_X12_haveSameKeys w_ml_X12_202 w_im_X12_haveSameKeys w_se_X12_haveSameKeys ⟨_, _, rfl⟩ (by decide) rfl (Nat.le_of_ble_eq_true rfl) rfl kdz0 h (fun r σ1 h => wX12_haveSameKeys h) ?_
    clear h; intro t4 σ h
    refine r_if_eq (tgt := 99) hX dX12_quarrel_62 (by decide) h ?_ ?_
    · clear h; intro h
      refine r_sub [0, 1, 2, 3, 4, 5, 6] rfl ?_
      exact wX12_quarrel_99 hX k20 k37 hk20 hk37 h
    · clear h; intro h
      refine r_aload_n hX dX12_quarrel_65 rfl 0 rfl ?_
      refine r_iload hX dX12_quarrel_66 4 rfl ?_
      refine r_iload hX dX12_quarrel_68 5 rfl ?_
      refine r_iadd hX dX12_quarrel_70 ?_
      refine r_iload hX dX12_quarrel_71 4 rfl ?_
      refine r_iload hX dX12_quarrel_73 6 rfl ?_
      refine r_iadd hX dX12_quarrel_75 ?_
      refine r_cVi (As := [.int (l4 + l5), .int (l4 + l6)]) (st := []) hX dX12_quarrel_76 kl_X12_haveSameLetters w_ml_X12_206 w_im_X12_haveSameLetters w_se_X12_haveSameLetters ⟨_, _, rfl⟩ (by decide) rfl (Nat.le_of_ble_eq_true rfl) rfl kdz0 h (fun r σ1 h => wX12_haveSameLetters h) ?_
      clear h; intro t5 σ h
      refine r_if_ne (tgt := 99) hX dX12_quarrel_79 (by decide) h ?_ ?_
      · clear h; intro h
        refine r_iload_n hX dX12_quarrel_82 rfl 3 rfl ?_
        refine r_iload_n hX dX12_quarrel_83 rfl 2 rfl ?_
        refine r_icmp_ne (tgt := 96) hX dX12_quarrel_84 (by decide) h ?_ ?_
        · clear h; intro h
          refine r_bipush hX dX12_quarrel_87 kk_b_100 ?_
          refine r_iload hX dX12_quarrel_89 5 rfl ?_
          refine r_imul hX dX12_quarrel_91 ?_
          refine r_iload hX dX12_quarrel_92 6 rfl ?_
          refine r_iadd hX dX12_quarrel_94 ?_
          exact r_iret hX dX12_quarrel_95 h
        · clear h; intro h
          refine r_iincL (L2 := fun t6 => [(3, .int t6), (0, kr E l0), (1, .int l1), (2, .int l2), (4, .int l4), (5, .int l5), (6, .int l6)]) hX dX12_quarrel_96 h 3 rfl (by decide) (fun _ => rfl) ?_
          clear h; intro t6 h
          refine r_sub [1, 2, 3, 0, 4, 5, 6] rfl ?_
          exact wX12_quarrel_99 hX k20 k37 hk20 hk37 h
      · clear h; intro h
        refine r_sub [0, 1, 2, 3, 4, 5, 6] rfl ?_
        exact wX12_quarrel_99 hX k20 k37 hk20 hk37 h
def X12_quarrel_37 (G : kdS) (k20 : Nat → Int32 → Int32 → Int32 → Int32 → Int32 → kdM → Option (Int32 × kdM)) : Nat → Int32 → Int32 → Int32 → Int32 → Int32 → Int32 → kdM → Option (Int32 × kdM) := lp (fun _ _ _ _ _ _ _ _ => none) (X12_quarrel_37B G k20) NN
theorem wX12_quarrel_37 {E : kdE} {G : kdS} {A : kdA} {r : Int32} {σ1 : kdM} (hX : kdX E A cX12_quarrel 7 RX12 (some .int) 2) (k20 : Nat → Int32 → Int32 → Int32 → Int32 → Int32 → kdM → Option (Int32 × kdM)) (hk20 : ∀ (l0 : Nat) (l1 : Int32) (l2 : Int32) (l3 : Int32) (l4 : Int32) (l5 : Int32) (σ : kdM), k20 l0 l1 l2 l3 l4 l5 σ = some (r, σ1) → SW E G (.inl (some (.int r), σ1)) A 7 σ 20 [(0, kr E l0), (1, .int l1), (2, .int l2), (3, .int l3), (4, .int l4), (5, .int l5)] []) : ∀ (l0 : Nat) (l1 : Int32) (l2 : Int32) (l3 : Int32) (l4 : Int32) (l5 : Int32) (l6 : Int32) (σ : kdM), X12_quarrel_37 G k20 l0 l1 l2 l3 l4 l5 l6 σ = some (r, σ1) → SW E G (.inl (some (.int r), σ1)) A 7 σ 37 [(0, kr E l0), (1, .int l1), (2, .int l2), (3, .int l3), (4, .int l4), (5, .int l5), (6, .int l6)] [] :=
  lp_ind (Q := fun f => ∀ (l0 : Nat) (l1 : Int32) (l2 : Int32) (l3 : Int32) (l4 : Int32) (l5 : Int32) (l6 : Int32) (σ : kdM), f l0 l1 l2 l3 l4 l5 l6 σ = some (r, σ1) → SW E G (.inl (some (.int r), σ1)) A 7 σ 37 [(0, kr E l0), (1, .int l1), (2, .int l2), (3, .int l3), (4, .int l4), (5, .int l5), (6, .int l6)] []) (by intros; contradiction) (fun k hk l0 l1 l2 l3 l4 l5 l6 σ h => wX12_quarrel_37B hX k20 k hk20 hk h) NN
def X12_quarrel_122 (G : kdS) (s0 : Int32) : kdM → Option (Int32 × kdM) :=
  rt s0
set_option maxRecDepth 100000 in
set_option maxHeartbeats 4000000 in
theorem wX12_quarrel_122 {E : kdE} {G : kdS} {A : kdA} {r : Int32} {σ1 : kdM} (hX : kdX E A cX12_quarrel 7 RX12 (some .int) 2) {σ : kdM} {s0 : Int32} (h : X12_quarrel_122 G s0 σ = some (r, σ1)) : SW E G (.inl (some (.int r), σ1)) A 7 σ 122 [] [.int s0] := by
  unfold X12_quarrel_122 at h
  exact r_iret hX dX12_quarrel_122 h
def X12_quarrel_20B (G : kdS) (k20 : Nat → Int32 → Int32 → Int32 → Int32 → Int32 → kdM → Option (Int32 × kdM)) (l0 : Nat) (l1 : Int32) (l2 : Int32) (l3 : Int32) (l4 : Int32) (l5 : Int32) : kdM → Option (Int32 × kdM) :=
  gR G 12 11 l0 fun t1 =>
  aI G t1 (l1) fun t2 =>
  cnd (t2 ≤ l5)
    (cnd (l2 = (-1 : Int32))
      (X12_quarrel_122 G l3)
      (X12_quarrel_122 G (-6 : Int32)))
    (ltI ((l5 + (1 : Int32))) fun t3 =>
    X12_quarrel_37 G k20 l0 l1 l2 l3 l4 l5 t3)
set_option maxRecDepth 100000 in
set_option maxHeartbeats 4000000 in
theorem wX12_quarrel_20B {E : kdE} {G : kdS} {A : kdA} {r : Int32} {σ1 : kdM} (hX : kdX E A cX12_quarrel 7 RX12 (some .int) 2) (k20 : Nat → Int32 → Int32 → Int32 → Int32 → Int32 → kdM → Option (Int32 × kdM)) (hk20 : ∀ (l0 : Nat) (l1 : Int32) (l2 : Int32) (l3 : Int32) (l4 : Int32) (l5 : Int32) (σ : kdM), k20 l0 l1 l2 l3 l4 l5 σ = some (r, σ1) → SW E G (.inl (some (.int r), σ1)) A 7 σ 20 [(0, kr E l0), (1, .int l1), (2, .int l2), (3, .int l3), (4, .int l4), (5, .int l5)] []) {σ : kdM} {l0 : Nat} {l1 : Int32} {l2 : Int32} {l3 : Int32} {l4 : Int32} {l5 : Int32} (h : X12_quarrel_20B G k20 l0 l1 l2 l3 l4 l5 σ = some (r, σ1)) : SW E G (.inl (some (.int r), σ1)) A 7 σ 20 [(0, kr E l0), (1, .int l1), (2, .int l2), (3, .int l3), (4, .int l4), (5, .int l5)] [] := by
  unfold X12_quarrel_20B at h
  refine r_iload hX dX12_quarrel_20 5 rfl ?_
  refine r_aload_n hX dX12_quarrel_22 rfl 0 rfl ?_
  refine r_gR hX dX12_quarrel_23 kf_X12_35 rfl h ?_
  clear h; intro t1 h
  refine r_iload_n hX dX12_quarrel_26 rfl 1 rfl ?_
  refine r_aI hX dX12_quarrel_27 h ?_
  clear h; intro t2 h
  refine r_icmp_ge (tgt := 111) hX dX12_quarrel_28 (by decide) h ?_ ?_
  · clear h; intro h
    refine r_iload_n hX dX12_quarrel_111 rfl 2 rfl ?_
    refine r_iconst hX dX12_quarrel_112 kk_i_m1 ?_
    refine r_icmp_ne (tgt := 120) hX dX12_quarrel_113 (by decide) h ?_ ?_
    · clear h; intro h
      refine r_iload_n hX dX12_quarrel_116 rfl 3 rfl ?_
      refine r_goto (tgt := 122) hX dX12_quarrel_117 (by decide) ?_
      refine r_sub [] rfl ?_
      exact wX12_quarrel_122 hX h
    · clear h; intro h
      refine r_bipush hX dX12_quarrel_120 kk_b_m6 ?_
      refine r_sub [] rfl ?_
      exact wX12_quarrel_122 hX h
  · clear h; intro h
    refine r_iload hX dX12_quarrel_31 5 rfl ?_
    refine r_iconst hX dX12_quarrel_33 kk_i_1 ?_
    refine r_iadd hX dX12_quarrel_34 ?_
    refine r_letI h ?_
    clear h; intro t3 h
    refine r_istore (L2 := [(6, .int t3), (0, kr E l0), (1, .int l1), (2, .int l2), (3, .int l3), (4, .int l4), (5, .int l5)]) hX dX12_quarrel_35 (by decide) rfl ?_
    refine r_sub [1, 2, 3, 4, 5, 6, 0] rfl ?_
    exact wX12_quarrel_37 hX k20 hk20 _ _ _ _ _ _ _ _ h
def X12_quarrel_20 (G : kdS) : Nat → Int32 → Int32 → Int32 → Int32 → Int32 → kdM → Option (Int32 × kdM) := lp (fun _ _ _ _ _ _ _ => none) (X12_quarrel_20B G) NN
theorem wX12_quarrel_20 {E : kdE} {G : kdS} {A : kdA} {r : Int32} {σ1 : kdM} (hX : kdX E A cX12_quarrel 7 RX12 (some .int) 2) : ∀ (l0 : Nat) (l1 : Int32) (l2 : Int32) (l3 : Int32) (l4 : Int32) (l5 : Int32) (σ : kdM), X12_quarrel_20 G l0 l1 l2 l3 l4 l5 σ = some (r, σ1) → SW E G (.inl (some (.int r), σ1)) A 7 σ 20 [(0, kr E l0), (1, .int l1), (2, .int l2), (3, .int l3), (4, .int l4), (5, .int l5)] [] :=
  lp_ind (Q := fun f => ∀ (l0 : Nat) (l1 : Int32) (l2 : Int32) (l3 : Int32) (l4 : Int32) (l5 : Int32) (σ : kdM), f l0 l1 l2 l3 l4 l5 σ = some (r, σ1) → SW E G (.inl (some (.int r), σ1)) A 7 σ 20 [(0, kr E l0), (1, .int l1), (2, .int l2), (3, .int l3), (4, .int l4), (5, .int l5)] []) (by intros; contradiction) (fun k hk l0 l1 l2 l3 l4 l5 σ h => wX12_quarrel_20B hX k hk h) NN
def X12_quarrel (G : kdS) (l0 : Nat) (l1 : Int32) (l2 : Int32) : kdM → Option (Int32 × kdM) :=
  kcl (X12_isTongue G l1) fun t1 =>
  cnd (t1 = 0)
    (rt (-1 : Int32))
    (ltI (((24 : Int32) * l1)) fun t2 =>
    X12_quarrel_20 G l0 l1 l2 (0 : Int32) t2 (0 : Int32))
set_option maxRecDepth 100000 in
set_option maxHeartbeats 4000000 in
theorem wX12_quarrel {E : kdE} {G : kdS} {l0 : Nat} {l1 : Int32} {l2 : Int32} {σ : kdM} {r : Int32} {σ1 : kdM} (h : X12_quarrel G l0 l1 l2 σ = some (r, σ1)) : Con E G yX12_quarrel cX12_quarrel 7 (some .int) 2 [kr E l0, .int l1, .int l2] σ (some (.int r), σ1) := by
  refine kd_head (own := RX12) rfl (by decide +kernel) (Nat.le_of_ble_eq_true rfl) (fun A hX => ?_)
  show SW E G (.inl (some (.int r), σ1)) A 7 σ 0 [(0, kr E l0), (1, .int l1), (2, .int l2)] []
  unfold X12_quarrel at h
  refine r_iload_n hX dX12_quarrel_0 rfl 1 rfl ?_
  refine r_cSi (As := [.int l1]) (st := []) hX dX12_quarrel_1 kl_X12_isTongue w_ml_X12_195 w_st_X12_isTongue (by decide) rfl (Nat.le_of_ble_eq_true rfl) rfl kdz0 h (fun r σ1 h => wX12_isTongue h) ?_
  clear h; intro t1 σ h
  refine r_if_ne (tgt := 9) hX dX12_quarrel_4 (by decide) h ?_ ?_
  · clear h; intro h
    refine r_iconst hX dX12_quarrel_7 kk_i_m1 ?_
    exact r_iret hX dX12_quarrel_8 h
  · clear h; intro h
    refine r_iconst hX dX12_quarrel_9 kk_i_0 ?_
    refine r_istore_n (L2 := [(3, .int (0 : Int32)), (0, kr E l0), (1, .int l1), (2, .int l2)]) hX dX12_quarrel_10 rfl (by decide) rfl ?_
    refine r_bipush hX dX12_quarrel_11 kk_b_24 ?_
    refine r_iload_n hX dX12_quarrel_13 rfl 2 rfl ?_
    refine r_imul hX dX12_quarrel_14 ?_
    refine r_letI h ?_
    clear h; intro t2 h
    refine r_istore (L2 := [(4, .int t2), (3, .int (0 : Int32)), (0, kr E l0), (1, .int l1), (2, .int l2)]) hX dX12_quarrel_15 (by decide) rfl ?_
    refine r_iconst hX dX12_quarrel_17 kk_i_0 ?_
    refine r_istore (L2 := [(5, .int (0 : Int32)), (4, .int t2), (3, .int (0 : Int32)), (0, kr E l0), (1, .int l1), (2, .int l2)]) hX dX12_quarrel_18 (by decide) rfl ?_
    refine r_sub [3, 4, 5, 2, 1, 0] rfl ?_
    exact wX12_quarrel_20 hX _ _ _ _ _ _ _ h
def X12_isIdle_40 (G : kdS) (k5 : Nat → Int32 → Int32 → Int32 → Int32 → kdM → Option (Int32 × kdM)) (l0 : Nat) (l1 : Int32) (l2 : Int32) (l4 : Int32) (s0 : Int32) : kdM → Option (Int32 × kdM) :=
  ltI (l4 + Int32.ofInt 1) fun t1 =>
  k5 l0 l1 l2 s0 t1
set_option maxRecDepth 100000 in
set_option maxHeartbeats 4000000 in
theorem wX12_isIdle_40 {E : kdE} {G : kdS} {A : kdA} {r : Int32} {σ1 : kdM} (hX : kdX E A cX12_isIdle 5 RX12 (some .boolean) 1) (k5 : Nat → Int32 → Int32 → Int32 → Int32 → kdM → Option (Int32 × kdM)) (hk5 : ∀ (l0 : Nat) (l1 : Int32) (l2 : Int32) (l3 : Int32) (l4 : Int32) (σ : kdM), k5 l0 l1 l2 l3 l4 σ = some (r, σ1) → SW E G (.inl (some (.int r), σ1)) A 5 σ 5 [(0, kr E l0), (1, .int l1), (2, .int l2), (3, .int l3), (4, .int l4)] []) {σ : kdM} {l0 : Nat} {l1 : Int32} {l2 : Int32} {l4 : Int32} {s0 : Int32} (h : X12_isIdle_40 G k5 l0 l1 l2 l4 s0 σ = some (r, σ1)) : SW E G (.inl (some (.int r), σ1)) A 5 σ 40 [(0, kr E l0), (1, .int l1), (2, .int l2), (4, .int l4)] [.int s0] := by
  unfold X12_isIdle_40 at h
  refine r_istore_n (L2 := [(3, .int s0), (0, kr E l0), (1, .int l1), (2, .int l2), (4, .int l4)]) hX dX12_isIdle_40 rfl (by decide) rfl ?_
  refine r_iincL (L2 := fun t1 => [(4, .int t1), (3, .int s0), (0, kr E l0), (1, .int l1), (2, .int l2)]) hX dX12_isIdle_41 h 4 rfl (by decide) (fun _ => rfl) ?_
  clear h; intro t1 h
  refine r_goto (tgt := 5) hX dX12_isIdle_44 (by decide) ?_
  refine r_sub [2, 3, 4, 1, 0] rfl ?_
  exact hk5 _ _ _ _ _ _ h
def X12_isIdle_35 (G : kdS) (k5 : Nat → Int32 → Int32 → Int32 → Int32 → kdM → Option (Int32 × kdM)) (l0 : Nat) (l1 : Int32) (l2 : Int32) (l4 : Int32) : kdM → Option (Int32 × kdM) :=
  X12_isIdle_40 G k5 l0 l1 l2 l4 (1 : Int32)
set_option maxRecDepth 100000 in
set_option maxHeartbeats 4000000 in
theorem wX12_isIdle_35 {E : kdE} {G : kdS} {A : kdA} {r : Int32} {σ1 : kdM} (hX : kdX E A cX12_isIdle 5 RX12 (some .boolean) 1) (k5 : Nat → Int32 → Int32 → Int32 → Int32 → kdM → Option (Int32 × kdM)) (hk5 : ∀ (l0 : Nat) (l1 : Int32) (l2 : Int32) (l3 : Int32) (l4 : Int32) (σ : kdM), k5 l0 l1 l2 l3 l4 σ = some (r, σ1) → SW E G (.inl (some (.int r), σ1)) A 5 σ 5 [(0, kr E l0), (1, .int l1), (2, .int l2), (3, .int l3), (4, .int l4)] []) {σ : kdM} {l0 : Nat} {l1 : Int32} {l2 : Int32} {l4 : Int32} (h : X12_isIdle_35 G k5 l0 l1 l2 l4 σ = some (r, σ1)) : SW E G (.inl (some (.int r), σ1)) A 5 σ 35 [(0, kr E l0), (1, .int l1), (2, .int l2), (4, .int l4)] [] := by
  unfold X12_isIdle_35 at h
  refine r_iconst hX dX12_isIdle_35 kk_i_1 ?_
  refine r_goto (tgt := 40) hX dX12_isIdle_36 (by decide) ?_
  refine r_sub [0, 1, 2, 3] rfl ?_
  exact wX12_isIdle_40 hX k5 hk5 h
def X12_isIdle_5B (G : kdS) (k5 : Nat → Int32 → Int32 → Int32 → Int32 → kdM → Option (Int32 × kdM)) (l0 : Nat) (l1 : Int32) (l2 : Int32) (l3 : Int32) (l4 : Int32) : kdM → Option (Int32 × kdM) :=
  cnd (l2 ≤ l4)
    (rt (vp_nar .boolean l3))
    (cnd (l3 = 0)
      (kcv G 12 l0 (X12_haveSameKeys G l0 (((24 : Int32) * l1) + l4) (((24 : Int32) * l1) + l2)) fun t1 =>
      cnd (t1 = 0)
        (X12_isIdle_40 G k5 l0 l1 l2 l4 (0 : Int32))
        (X12_isIdle_35 G k5 l0 l1 l2 l4))
      (X12_isIdle_35 G k5 l0 l1 l2 l4))
set_option maxRecDepth 100000 in
set_option maxHeartbeats 4000000 in
theorem wX12_isIdle_5B {E : kdE} {G : kdS} {A : kdA} {r : Int32} {σ1 : kdM} (hX : kdX E A cX12_isIdle 5 RX12 (some .boolean) 1) (k5 : Nat → Int32 → Int32 → Int32 → Int32 → kdM → Option (Int32 × kdM)) (hk5 : ∀ (l0 : Nat) (l1 : Int32) (l2 : Int32) (l3 : Int32) (l4 : Int32) (σ : kdM), k5 l0 l1 l2 l3 l4 σ = some (r, σ1) → SW E G (.inl (some (.int r), σ1)) A 5 σ 5 [(0, kr E l0), (1, .int l1), (2, .int l2), (3, .int l3), (4, .int l4)] []) {σ : kdM} {l0 : Nat} {l1 : Int32} {l2 : Int32} {l3 : Int32} {l4 : Int32} (h : X12_isIdle_5B G k5 l0 l1 l2 l3 l4 σ = some (r, σ1)) : SW E G (.inl (some (.int r), σ1)) A 5 σ 5 [(0, kr E l0), (1, .int l1), (2, .int l2), (3, .int l3), (4, .int l4)] [] := by
  unfold X12_isIdle_5B at h
  refine r_iload hX dX12_isIdle_5 4 rfl ?_
  refine r_iload_n hX dX12_isIdle_7 rfl 2 rfl ?_
  refine r_icmp_ge (tgt := 47) hX dX12_isIdle_8 (by decide) h ?_ ?_
  · clear h; intro h
    refine r_iload_n hX dX12_isIdle_47 rfl 3 rfl ?_
    exact r_zret hX dX12_isIdle_48 h
  · clear h; intro h
    refine r_iload_n hX dX12_isIdle_11 rfl 3 rfl ?_
    refine r_if_ne (tgt := 35) hX dX12_isIdle_12 (by decide) h ?_ ?_
    · clear h; intro h
      refine r_aload_n hX dX12_isIdle_15 rfl 0 rfl ?_
      refine r_bipush hX dX12_isIdle_16 kk_b_24 ?_
      refine r_iload_n hX dX12_isIdle_18 rfl 1 rfl ?_
      refine r_imul hX dX12_isIdle_19 ?_
      refine r_iload hX dX12_isIdle_20 4 rfl ?_
      refine r_iadd hX dX12_isIdle_22 ?_
      refine r_bipush hX dX12_isIdle_23 kk_b_24 ?_
      refine r_iload_n hX dX12_isIdle_25 rfl 1 rfl ?_
      refine r_imul hX dX12_isIdle_26 ?_
      refine r_iload_n hX dX12_isIdle_27 rfl 2 rfl ?_
      refine r_iadd hX dX12_isIdle_28 ?_
      refine r_cVi (As := [.int (((24 : Int32) * l1) + l4), .int (((24 : Int32) * l1) + l2)]) (st := []) hX dX12_isIdle_29 kl_X12_haveSameKeys w_ml_X12_202 w_im_X12_haveSameKeys w_se_X12_haveSameKeys ⟨_, _, rfl⟩ (by decide) rfl (Nat.le_of_ble_eq_true rfl) rfl kdz0 h (fun r σ1 h => wX12_haveSameKeys h) ?_
      clear h; intro t1 σ h
      refine r_if_eq (tgt := 39) hX dX12_isIdle_32 (by decide) h ?_ ?_
      · clear h; intro h
        refine r_iconst hX dX12_isIdle_39 kk_i_0 ?_
        refine r_sub [0, 1, 2, 4] rfl ?_
        exact wX12_isIdle_40 hX k5 hk5 h
      · clear h; intro h
        refine r_sub [0, 1, 2, 4] rfl ?_
        exact wX12_isIdle_35 hX k5 hk5 h
    · clear h; intro h
      refine r_sub [0, 1, 2, 4] rfl ?_
      exact wX12_isIdle_35 hX k5 hk5 h
def X12_isIdle_5 (G : kdS) : Nat → Int32 → Int32 → Int32 → Int32 → kdM → Option (Int32 × kdM) := lp (fun _ _ _ _ _ _ => none) (X12_isIdle_5B G) NN
theorem wX12_isIdle_5 {E : kdE} {G : kdS} {A : kdA} {r : Int32} {σ1 : kdM} (hX : kdX E A cX12_isIdle 5 RX12 (some .boolean) 1) : ∀ (l0 : Nat) (l1 : Int32) (l2 : Int32) (l3 : Int32) (l4 : Int32) (σ : kdM), X12_isIdle_5 G l0 l1 l2 l3 l4 σ = some (r, σ1) → SW E G (.inl (some (.int r), σ1)) A 5 σ 5 [(0, kr E l0), (1, .int l1), (2, .int l2), (3, .int l3), (4, .int l4)] [] :=
  lp_ind (Q := fun f => ∀ (l0 : Nat) (l1 : Int32) (l2 : Int32) (l3 : Int32) (l4 : Int32) (σ : kdM), f l0 l1 l2 l3 l4 σ = some (r, σ1) → SW E G (.inl (some (.int r), σ1)) A 5 σ 5 [(0, kr E l0), (1, .int l1), (2, .int l2), (3, .int l3), (4, .int l4)] []) (by intros; contradiction) (fun k hk l0 l1 l2 l3 l4 σ h => wX12_isIdle_5B hX k hk h) NN
def X12_isIdle (G : kdS) (l0 : Nat) (l1 : Int32) (l2 : Int32) : kdM → Option (Int32 × kdM) :=
  X12_isIdle_5 G l0 l1 l2 (0 : Int32) (0 : Int32)
set_option maxRecDepth 100000 in
set_option maxHeartbeats 4000000 in
theorem wX12_isIdle {E : kdE} {G : kdS} {l0 : Nat} {l1 : Int32} {l2 : Int32} {σ : kdM} {r : Int32} {σ1 : kdM} (h : X12_isIdle G l0 l1 l2 σ = some (r, σ1)) : Con E G yX12_isIdle cX12_isIdle 5 (some .boolean) 1 [kr E l0, .int l1, .int l2] σ (some (.int r), σ1) := by
  refine kd_head (own := RX12) rfl (by decide +kernel) (Nat.le_of_ble_eq_true rfl) (fun A hX => ?_)
  show SW E G (.inl (some (.int r), σ1)) A 5 σ 0 [(0, kr E l0), (1, .int l1), (2, .int l2)] []
  unfold X12_isIdle at h
  refine r_iconst hX dX12_isIdle_0 kk_i_0 ?_
  refine r_istore_n (L2 := [(3, .int (0 : Int32)), (0, kr E l0), (1, .int l1), (2, .int l2)]) hX dX12_isIdle_1 rfl (by decide) rfl ?_
  refine r_iconst hX dX12_isIdle_2 kk_i_0 ?_
  refine r_istore (L2 := [(4, .int (0 : Int32)), (3, .int (0 : Int32)), (0, kr E l0), (1, .int l1), (2, .int l2)]) hX dX12_isIdle_3 (by decide) rfl ?_
  refine r_sub [2, 3, 4, 1, 0] rfl ?_
  exact wX12_isIdle_5 hX _ _ _ _ _ _ h
def X12_idle_65B (G : kdS) (k30 : Nat → Int32 → Int32 → Int32 → Int32 → Int32 → kdM → Option (Int32 × kdM)) (k65 : Nat → Int32 → Int32 → Int32 → Int32 → Int32 → Int32 → kdM → Option (Int32 × kdM)) (l0 : Nat) (l1 : Int32) (l2 : Int32) (l3 : Int32) (l4 : Int32) (l5 : Int32) (l6 : Int32) : kdM → Option (Int32 × kdM) :=
  gR G 12 8 l0 fun t1 =>
  aI G t1 ((((24 : Int32) * l1) + l5)) fun t2 =>
  cnd (t2 ≤ l6)
    (ltI (l5 + Int32.ofInt 1) fun t3 =>
    k30 l0 l1 l2 l3 l4 t3)
    (gR G 12 7 l0 fun t4 =>
    aI G t4 ((((4 : Int32) * (((24 : Int32) * l1) + l5)) + l6)) fun t5 =>
    ltI ((l4 ||| ((1 : Int32) <<< (t5 &&& 31)))) fun t6 =>
    ltI (l6 + Int32.ofInt 1) fun t7 =>
    k65 l0 l1 l2 l3 t6 l5 t7)
set_option maxRecDepth 100000 in
set_option maxHeartbeats 4000000 in
theorem wX12_idle_65B {E : kdE} {G : kdS} {A : kdA} {r : Int32} {σ1 : kdM} (hX : kdX E A cX12_idle 7 RX12 (some .int) 2) (k30 : Nat → Int32 → Int32 → Int32 → Int32 → Int32 → kdM → Option (Int32 × kdM)) (k65 : Nat → Int32 → Int32 → Int32 → Int32 → Int32 → Int32 → kdM → Option (Int32 × kdM)) (hk30 : ∀ (l0 : Nat) (l1 : Int32) (l2 : Int32) (l3 : Int32) (l4 : Int32) (l5 : Int32) (σ : kdM), k30 l0 l1 l2 l3 l4 l5 σ = some (r, σ1) → SW E G (.inl (some (.int r), σ1)) A 7 σ 30 [(0, kr E l0), (1, .int l1), (2, .int l2), (3, .int l3), (4, .int l4), (5, .int l5)] []) (hk65 : ∀ (l0 : Nat) (l1 : Int32) (l2 : Int32) (l3 : Int32) (l4 : Int32) (l5 : Int32) (l6 : Int32) (σ : kdM), k65 l0 l1 l2 l3 l4 l5 l6 σ = some (r, σ1) → SW E G (.inl (some (.int r), σ1)) A 7 σ 65 [(0, kr E l0), (1, .int l1), (2, .int l2), (3, .int l3), (4, .int l4), (5, .int l5), (6, .int l6)] []) {σ : kdM} {l0 : Nat} {l1 : Int32} {l2 : Int32} {l3 : Int32} {l4 : Int32} {l5 : Int32} {l6 : Int32} (h : X12_idle_65B G k30 k65 l0 l1 l2 l3 l4 l5 l6 σ = some (r, σ1)) : SW E G (.inl (some (.int r), σ1)) A 7 σ 65 [(0, kr E l0), (1, .int l1), (2, .int l2), (3, .int l3), (4, .int l4), (5, .int l5), (6, .int l6)] [] := by
  unfold X12_idle_65B at h
  refine r_iload hX dX12_idle_65 6 rfl ?_
  refine r_aload_n hX dX12_idle_67 rfl 0 rfl ?_
  refine r_gR hX dX12_idle_68 kf_X12_26 rfl h ?_
  clear h; intro t1 h
  refine r_bipush hX dX12_idle_71 kk_b_24 ?_
  refine r_iload_n hX dX12_idle_73 rfl 1 rfl ?_
  refine r_imul hX dX12_idle_74 ?_
  refine r_iload hX dX12_idle_75 5 rfl ?_
  refine r_iadd hX dX12_idle_77 ?_
  refine r_aI hX dX12_idle_78 h ?_
  clear h; intro t2 h
  refine r_icmp_ge (tgt := 112) hX dX12_idle_79 (by decide) h ?_ ?_
  · clear h; intro h
    refine r_iincL (L2 := fun t3 => [(5, .int t3), (0, kr E l0), (1, .int l1), (2, .int l2), (3, .int l3), (4, .int l4), (6, .int l6)]) hX dX12_idle_112 h 5 rfl (by decide) (fun _ => rfl) ?_
    clear h; intro t3 h
    refine r_goto (tgt := 30) hX dX12_idle_115 (by decide) ?_
    refine r_sub [1, 2, 3, 4, 5, 0] rfl ?_
    exact hk30 _ _ _ _ _ _ _ h
  · clear h; intro h
    refine r_iload hX dX12_idle_82 4 rfl ?_
    refine r_iconst hX dX12_idle_84 kk_i_1 ?_
    refine r_aload_n hX dX12_idle_85 rfl 0 rfl ?_
    refine r_gR hX dX12_idle_86 kf_X12_23 rfl h ?_
    clear h; intro t4 h
    refine r_iconst hX dX12_idle_89 kk_i_4 ?_
    refine r_bipush hX dX12_idle_90 kk_b_24 ?_
    refine r_iload_n hX dX12_idle_92 rfl 1 rfl ?_
    refine r_imul hX dX12_idle_93 ?_
    refine r_iload hX dX12_idle_94 5 rfl ?_
    refine r_iadd hX dX12_idle_96 ?_
    refine r_imul hX dX12_idle_97 ?_
    refine r_iload hX dX12_idle_98 6 rfl ?_
    refine r_iadd hX dX12_idle_100 ?_
    refine r_aI hX dX12_idle_101 h ?_
    clear h; intro t5 h
    refine r_ishl hX dX12_idle_102 ?_
    refine r_ior hX dX12_idle_103 ?_
    refine r_letI h ?_
    clear h; intro t6 h
    refine r_istore (L2 := [(4, .int t6), (0, kr E l0), (1, .int l1), (2, .int l2), (3, .int l3), (5, .int l5), (6, .int l6)]) hX dX12_idle_104 (by decide) rfl ?_
    refine r_iincL (L2 := fun t7 => [(6, .int t7), (4, .int t6), (0, kr E l0), (1, .int l1), (2, .int l2), (3, .int l3), (5, .int l5)]) hX dX12_idle_106 h 6 rfl (by decide) (fun _ => rfl) ?_
    clear h; intro t7 h
    refine r_goto (tgt := 65) hX dX12_idle_109 (by decide) ?_
    refine r_sub [2, 3, 4, 5, 1, 6, 0] rfl ?_
    exact hk65 _ _ _ _ _ _ _ _ h
def X12_idle_65 (G : kdS) (k30 : Nat → Int32 → Int32 → Int32 → Int32 → Int32 → kdM → Option (Int32 × kdM)) : Nat → Int32 → Int32 → Int32 → Int32 → Int32 → Int32 → kdM → Option (Int32 × kdM) := lp (fun _ _ _ _ _ _ _ _ => none) (X12_idle_65B G k30) NN
theorem wX12_idle_65 {E : kdE} {G : kdS} {A : kdA} {r : Int32} {σ1 : kdM} (hX : kdX E A cX12_idle 7 RX12 (some .int) 2) (k30 : Nat → Int32 → Int32 → Int32 → Int32 → Int32 → kdM → Option (Int32 × kdM)) (hk30 : ∀ (l0 : Nat) (l1 : Int32) (l2 : Int32) (l3 : Int32) (l4 : Int32) (l5 : Int32) (σ : kdM), k30 l0 l1 l2 l3 l4 l5 σ = some (r, σ1) → SW E G (.inl (some (.int r), σ1)) A 7 σ 30 [(0, kr E l0), (1, .int l1), (2, .int l2), (3, .int l3), (4, .int l4), (5, .int l5)] []) : ∀ (l0 : Nat) (l1 : Int32) (l2 : Int32) (l3 : Int32) (l4 : Int32) (l5 : Int32) (l6 : Int32) (σ : kdM), X12_idle_65 G k30 l0 l1 l2 l3 l4 l5 l6 σ = some (r, σ1) → SW E G (.inl (some (.int r), σ1)) A 7 σ 65 [(0, kr E l0), (1, .int l1), (2, .int l2), (3, .int l3), (4, .int l4), (5, .int l5), (6, .int l6)] [] :=
  lp_ind (Q := fun f => ∀ (l0 : Nat) (l1 : Int32) (l2 : Int32) (l3 : Int32) (l4 : Int32) (l5 : Int32) (l6 : Int32) (σ : kdM), f l0 l1 l2 l3 l4 l5 l6 σ = some (r, σ1) → SW E G (.inl (some (.int r), σ1)) A 7 σ 65 [(0, kr E l0), (1, .int l1), (2, .int l2), (3, .int l3), (4, .int l4), (5, .int l5), (6, .int l6)] []) (by intros; contradiction) (fun k hk l0 l1 l2 l3 l4 l5 l6 σ h => wX12_idle_65B hX k30 k hk30 hk h) NN
def X12_idle_60 (G : kdS) (k30 : Nat → Int32 → Int32 → Int32 → Int32 → Int32 → kdM → Option (Int32 × kdM)) (l0 : Nat) (l1 : Int32) (l2 : Int32) (l4 : Int32) (l5 : Int32) (s0 : Int32) (s1 : Int32) : kdM → Option (Int32 × kdM) :=
  ltI ((s0 ||| s1)) fun t1 =>
  X12_idle_65 G k30 l0 l1 l2 t1 l4 l5 (0 : Int32)
set_option maxRecDepth 100000 in
set_option maxHeartbeats 4000000 in
theorem wX12_idle_60 {E : kdE} {G : kdS} {A : kdA} {r : Int32} {σ1 : kdM} (hX : kdX E A cX12_idle 7 RX12 (some .int) 2) (k30 : Nat → Int32 → Int32 → Int32 → Int32 → Int32 → kdM → Option (Int32 × kdM)) (hk30 : ∀ (l0 : Nat) (l1 : Int32) (l2 : Int32) (l3 : Int32) (l4 : Int32) (l5 : Int32) (σ : kdM), k30 l0 l1 l2 l3 l4 l5 σ = some (r, σ1) → SW E G (.inl (some (.int r), σ1)) A 7 σ 30 [(0, kr E l0), (1, .int l1), (2, .int l2), (3, .int l3), (4, .int l4), (5, .int l5)] []) {σ : kdM} {l0 : Nat} {l1 : Int32} {l2 : Int32} {l4 : Int32} {l5 : Int32} {s0 : Int32} {s1 : Int32} (h : X12_idle_60 G k30 l0 l1 l2 l4 l5 s0 s1 σ = some (r, σ1)) : SW E G (.inl (some (.int r), σ1)) A 7 σ 60 [(0, kr E l0), (1, .int l1), (2, .int l2), (4, .int l4), (5, .int l5)] [.int s1, .int s0] := by
  unfold X12_idle_60 at h
  refine r_ior hX dX12_idle_60 ?_
  refine r_letI h ?_
  clear h; intro t1 h
  refine r_istore_n (L2 := [(3, .int t1), (0, kr E l0), (1, .int l1), (2, .int l2), (4, .int l4), (5, .int l5)]) hX dX12_idle_61 rfl (by decide) rfl ?_
  refine r_iconst hX dX12_idle_62 kk_i_0 ?_
  refine r_istore (L2 := [(6, .int (0 : Int32)), (3, .int t1), (0, kr E l0), (1, .int l1), (2, .int l2), (4, .int l4), (5, .int l5)]) hX dX12_idle_63 (by decide) rfl ?_
  refine r_sub [2, 3, 4, 1, 5, 6, 0] rfl ?_
  exact wX12_idle_65 hX k30 hk30 _ _ _ _ _ _ _ _ h
def X12_idle_134 (G : kdS) (s0 : Int32) : kdM → Option (Int32 × kdM) :=
  rt s0
set_option maxRecDepth 100000 in
set_option maxHeartbeats 4000000 in
theorem wX12_idle_134 {E : kdE} {G : kdS} {A : kdA} {r : Int32} {σ1 : kdM} (hX : kdX E A cX12_idle 7 RX12 (some .int) 2) {σ : kdM} {s0 : Int32} (h : X12_idle_134 G s0 σ = some (r, σ1)) : SW E G (.inl (some (.int r), σ1)) A 7 σ 134 [] [.int s0] := by
  unfold X12_idle_134 at h
  exact r_iret hX dX12_idle_134 h
def X12_idle_30B (G : kdS) (k30 : Nat → Int32 → Int32 → Int32 → Int32 → Int32 → kdM → Option (Int32 × kdM)) (l0 : Nat) (l1 : Int32) (l2 : Int32) (l3 : Int32) (l4 : Int32) (l5 : Int32) : kdM → Option (Int32 × kdM) :=
  gR G 12 11 l0 fun t1 =>
  aI G t1 (l1) fun t2 =>
  cnd (t2 ≤ l5)
    (cnd (l2 = 0)
      (X12_idle_134 G l3)
      (X12_idle_134 G ((4095 : Int32) &&& (l4 ^^^ (-1 : Int32)))))
    (kcv G 12 l0 (X12_isIdle G l0 l1 l5) fun t3 =>
    cnd (t3 = 0)
      (X12_idle_60 G k30 l0 l1 l2 l4 l5 l3 (0 : Int32))
      (X12_idle_60 G k30 l0 l1 l2 l4 l5 l3 ((1 : Int32) <<< (l5 &&& 31))))
set_option maxRecDepth 100000 in
set_option maxHeartbeats 4000000 in
theorem wX12_idle_30B {E : kdE} {G : kdS} {A : kdA} {r : Int32} {σ1 : kdM} (hX : kdX E A cX12_idle 7 RX12 (some .int) 2) (k30 : Nat → Int32 → Int32 → Int32 → Int32 → Int32 → kdM → Option (Int32 × kdM)) (hk30 : ∀ (l0 : Nat) (l1 : Int32) (l2 : Int32) (l3 : Int32) (l4 : Int32) (l5 : Int32) (σ : kdM), k30 l0 l1 l2 l3 l4 l5 σ = some (r, σ1) → SW E G (.inl (some (.int r), σ1)) A 7 σ 30 [(0, kr E l0), (1, .int l1), (2, .int l2), (3, .int l3), (4, .int l4), (5, .int l5)] []) {σ : kdM} {l0 : Nat} {l1 : Int32} {l2 : Int32} {l3 : Int32} {l4 : Int32} {l5 : Int32} (h : X12_idle_30B G k30 l0 l1 l2 l3 l4 l5 σ = some (r, σ1)) : SW E G (.inl (some (.int r), σ1)) A 7 σ 30 [(0, kr E l0), (1, .int l1), (2, .int l2), (3, .int l3), (4, .int l4), (5, .int l5)] [] := by
  unfold X12_idle_30B at h
  refine r_iload hX dX12_idle_30 5 rfl ?_
  refine r_aload_n hX dX12_idle_32 rfl 0 rfl ?_
  refine r_gR hX dX12_idle_33 kf_X12_35 rfl h ?_
  clear h; intro t1 h
  refine r_iload_n hX dX12_idle_36 rfl 1 rfl ?_
  refine r_aI hX dX12_idle_37 h ?_
  clear h; intro t2 h
  refine r_icmp_ge (tgt := 118) hX dX12_idle_38 (by decide) h ?_ ?_
  · clear h; intro h
    refine r_iload_n hX dX12_idle_118 rfl 2 rfl ?_
    refine r_if_ne (tgt := 126) hX dX12_idle_119 (by decide) h ?_ ?_
    · clear h; intro h
      refine r_iload_n hX dX12_idle_122 rfl 3 rfl ?_
      refine r_goto (tgt := 134) hX dX12_idle_123 (by decide) ?_
      refine r_sub [] rfl ?_
      exact wX12_idle_134 hX h
    · clear h; intro h
      refine r_sipush hX dX12_idle_126 kk_s_4095 ?_
      refine r_iload hX dX12_idle_129 4 rfl ?_
      refine r_iconst hX dX12_idle_131 kk_i_m1 ?_
      refine r_ixor hX dX12_idle_132 ?_
      refine r_iand hX dX12_idle_133 ?_
      refine r_sub [] rfl ?_
      exact wX12_idle_134 hX h
  · clear h; intro h
    refine r_iload_n hX dX12_idle_41 rfl 3 rfl ?_
    refine r_aload_n hX dX12_idle_42 rfl 0 rfl ?_
    refine r_iload_n hX dX12_idle_43 rfl 1 rfl ?_
    refine r_iload hX dX12_idle_44 5 rfl ?_
    refine r_cVi (As := [.int l1, .int l5]) (st := [.int l3]) hX dX12_idle_46 kl_X12_isIdle w_ml_X12_209 w_im_X12_isIdle w_se_X12_isIdle ⟨_, _, rfl⟩ (by decide) rfl (Nat.le_of_ble_eq_true rfl) rfl kdz0 h (fun r σ1 h => wX12_isIdle h) ?_
    clear h; intro t3 σ h
    refine r_if_eq (tgt := 59) hX dX12_idle_49 (by decide) h ?_ ?_
    · clear h; intro h
      refine r_iconst hX dX12_idle_59 kk_i_0 ?_
      refine r_sub [0, 1, 2, 4, 5] rfl ?_
      exact wX12_idle_60 hX k30 hk30 h
    · clear h; intro h
      refine r_iconst hX dX12_idle_52 kk_i_1 ?_
      refine r_iload hX dX12_idle_53 5 rfl ?_
      refine r_ishl hX dX12_idle_55 ?_
      refine r_goto (tgt := 60) hX dX12_idle_56 (by decide) ?_
      refine r_sub [0, 1, 2, 4, 5] rfl ?_
      exact wX12_idle_60 hX k30 hk30 h
def X12_idle_30 (G : kdS) : Nat → Int32 → Int32 → Int32 → Int32 → Int32 → kdM → Option (Int32 × kdM) := lp (fun _ _ _ _ _ _ _ => none) (X12_idle_30B G) NN
theorem wX12_idle_30 {E : kdE} {G : kdS} {A : kdA} {r : Int32} {σ1 : kdM} (hX : kdX E A cX12_idle 7 RX12 (some .int) 2) : ∀ (l0 : Nat) (l1 : Int32) (l2 : Int32) (l3 : Int32) (l4 : Int32) (l5 : Int32) (σ : kdM), X12_idle_30 G l0 l1 l2 l3 l4 l5 σ = some (r, σ1) → SW E G (.inl (some (.int r), σ1)) A 7 σ 30 [(0, kr E l0), (1, .int l1), (2, .int l2), (3, .int l3), (4, .int l4), (5, .int l5)] [] :=
  lp_ind (Q := fun f => ∀ (l0 : Nat) (l1 : Int32) (l2 : Int32) (l3 : Int32) (l4 : Int32) (l5 : Int32) (σ : kdM), f l0 l1 l2 l3 l4 l5 σ = some (r, σ1) → SW E G (.inl (some (.int r), σ1)) A 7 σ 30 [(0, kr E l0), (1, .int l1), (2, .int l2), (3, .int l3), (4, .int l4), (5, .int l5)] []) (by intros; contradiction) (fun k hk l0 l1 l2 l3 l4 l5 σ h => wX12_idle_30B hX k hk h) NN
def X12_idle (G : kdS) (l0 : Nat) (l1 : Int32) (l2 : Int32) : kdM → Option (Int32 × kdM) :=
  kcl (X12_isTongue G l1) fun t1 =>
  cnd (t1 = 0)
    (rt (-1 : Int32))
    (kcl (X12_in G (Int32.toInt64 l2) (0 : Int64) (1 : Int64)) fun t2 =>
    cnd (t2 = 0)
      (rt (-2 : Int32))
      (X12_idle_30 G l0 l1 l2 (0 : Int32) (0 : Int32) (0 : Int32)))
set_option maxRecDepth 100000 in
set_option maxHeartbeats 4000000 in
theorem wX12_idle {E : kdE} {G : kdS} {l0 : Nat} {l1 : Int32} {l2 : Int32} {σ : kdM} {r : Int32} {σ1 : kdM} (h : X12_idle G l0 l1 l2 σ = some (r, σ1)) : Con E G yX12_idle cX12_idle 7 (some .int) 2 [kr E l0, .int l1, .int l2] σ (some (.int r), σ1) := by
  refine kd_head (own := RX12) rfl (by decide +kernel) (Nat.le_of_ble_eq_true rfl) (fun A hX => ?_)
  show SW E G (.inl (some (.int r), σ1)) A 7 σ 0 [(0, kr E l0), (1, .int l1), (2, .int l2)] []
  unfold X12_idle at h
  refine r_iload_n hX dX12_idle_0 rfl 1 rfl ?_
  refine r_cSi (As := [.int l1]) (st := []) hX dX12_idle_1 kl_X12_isTongue w_ml_X12_195 w_st_X12_isTongue (by decide) rfl (Nat.le_of_ble_eq_true rfl) rfl kdz0 h (fun r σ1 h => wX12_isTongue h) ?_
  clear h; intro t1 σ h
  refine r_if_ne (tgt := 9) hX dX12_idle_4 (by decide) h ?_ ?_
  · clear h; intro h
    refine r_iconst hX dX12_idle_7 kk_i_m1 ?_
    exact r_iret hX dX12_idle_8 h
  · clear h; intro h
    refine r_iload_n hX dX12_idle_9 rfl 2 rfl ?_
    refine r_i2l hX dX12_idle_10 ?_
    refine r_lconst hX dX12_idle_11 kk_l_0 ?_
    refine r_lconst hX dX12_idle_12 kk_l_1 ?_
    refine r_cSi (As := [.long (Int32.toInt64 l2), .long (0 : Int64), .long (1 : Int64)]) (st := []) hX dX12_idle_13 kl_X12_in w_ml_X12_178 w_st_X12_in (by decide) rfl (Nat.le_of_ble_eq_true rfl) rfl kdz0 h (fun r σ1 h => wX12_in h) ?_
    clear h; intro t2 σ h
    refine r_if_ne (tgt := 22) hX dX12_idle_16 (by decide) h ?_ ?_
    · clear h; intro h
      refine r_bipush hX dX12_idle_19 kk_b_m2 ?_
      exact r_iret hX dX12_idle_21 h
    · clear h; intro h
      refine r_iconst hX dX12_idle_22 kk_i_0 ?_
      refine r_istore_n (L2 := [(3, .int (0 : Int32)), (0, kr E l0), (1, .int l1), (2, .int l2)]) hX dX12_idle_23 rfl (by decide) rfl ?_
      refine r_iconst hX dX12_idle_24 kk_i_0 ?_
      refine r_istore (L2 := [(4, .int (0 : Int32)), (3, .int (0 : Int32)), (0, kr E l0), (1, .int l1), (2, .int l2)]) hX dX12_idle_25 (by decide) rfl ?_
      refine r_iconst hX dX12_idle_27 kk_i_0 ?_
      refine r_istore (L2 := [(5, .int (0 : Int32)), (4, .int (0 : Int32)), (3, .int (0 : Int32)), (0, kr E l0), (1, .int l1), (2, .int l2)]) hX dX12_idle_28 (by decide) rfl ?_
      refine r_sub [3, 4, 5, 2, 1, 0] rfl ?_
      exact wX12_idle_30 hX _ _ _ _ _ _ _ h
def X12_findMade_86 (G : kdS) (k23 : Nat → Int32 → Int32 → kdM → Option (Unit × kdM)) (l0 : Nat) (l1 : Int32) (l2 : Int32) : kdM → Option (Unit × kdM) :=
  ltI (l2 + Int32.ofInt 1) fun t1 =>
  k23 l0 l1 t1
set_option maxRecDepth 100000 in
set_option maxHeartbeats 4000000 in
theorem wX12_findMade_86 {E : kdE} {G : kdS} {A : kdA} {r : Unit} {σ1 : kdM} (hX : kdX E A cX12_findMade 5 RX12 none 2) (k23 : Nat → Int32 → Int32 → kdM → Option (Unit × kdM)) (hk23 : ∀ (l0 : Nat) (l1 : Int32) (l2 : Int32) (σ : kdM), k23 l0 l1 l2 σ = some (r, σ1) → SW E G (.inl (none, σ1)) A 5 σ 23 [(0, kr E l0), (1, .int l1), (2, .int l2)] []) {σ : kdM} {l0 : Nat} {l1 : Int32} {l2 : Int32} (h : X12_findMade_86 G k23 l0 l1 l2 σ = some (r, σ1)) : SW E G (.inl (none, σ1)) A 5 σ 86 [(0, kr E l0), (1, .int l1), (2, .int l2)] [] := by
  unfold X12_findMade_86 at h
  refine r_iincL (L2 := fun t1 => [(2, .int t1), (0, kr E l0), (1, .int l1)]) hX dX12_findMade_86 h 2 rfl (by decide) (fun _ => rfl) ?_
  clear h; intro t1 h
  refine r_goto (tgt := 23) hX dX12_findMade_89 (by decide) ?_
  refine r_sub [1, 2, 0] rfl ?_
  exact hk23 _ _ _ _ h
def X12_findMade_43B (G : kdS) (k23 : Nat → Int32 → Int32 → kdM → Option (Unit × kdM)) (k43 : Nat → Int32 → Int32 → Int32 → Int32 → kdM → Option (Unit × kdM)) (l0 : Nat) (l1 : Int32) (l2 : Int32) (l3 : Int32) (l4 : Int32) : kdM → Option (Unit × kdM) :=
  gR G 12 10 l0 fun t1 =>
  aI G t1 (l3) fun t2 =>
  cnd (t2 ≤ l4)
    (X12_findMade_86 G k23 l0 l1 l2)
    (kcv G 12 l0 (X12_isIdle G l0 l1 l2) fun t3 =>
    cnd (t3 = 0)
      (gR G 12 15 l0 fun t4 =>
      gR G 12 9 l0 fun t5 =>
      aI G t5 ((((3 : Int32) * l3) + l4)) fun t6 =>
      tZ G t4 (t6) ((1 : Int32)) <|
      ltI (l4 + Int32.ofInt 1) fun t7 =>
      k43 l0 l1 l2 l3 t7)
      (X12_findMade_86 G k23 l0 l1 l2))
set_option maxRecDepth 100000 in
set_option maxHeartbeats 4000000 in
theorem wX12_findMade_43B {E : kdE} {G : kdS} {A : kdA} {r : Unit} {σ1 : kdM} (hX : kdX E A cX12_findMade 5 RX12 none 2) (k23 : Nat → Int32 → Int32 → kdM → Option (Unit × kdM)) (k43 : Nat → Int32 → Int32 → Int32 → Int32 → kdM → Option (Unit × kdM)) (hk23 : ∀ (l0 : Nat) (l1 : Int32) (l2 : Int32) (σ : kdM), k23 l0 l1 l2 σ = some (r, σ1) → SW E G (.inl (none, σ1)) A 5 σ 23 [(0, kr E l0), (1, .int l1), (2, .int l2)] []) (hk43 : ∀ (l0 : Nat) (l1 : Int32) (l2 : Int32) (l3 : Int32) (l4 : Int32) (σ : kdM), k43 l0 l1 l2 l3 l4 σ = some (r, σ1) → SW E G (.inl (none, σ1)) A 5 σ 43 [(0, kr E l0), (1, .int l1), (2, .int l2), (3, .int l3), (4, .int l4)] []) {σ : kdM} {l0 : Nat} {l1 : Int32} {l2 : Int32} {l3 : Int32} {l4 : Int32} (h : X12_findMade_43B G k23 k43 l0 l1 l2 l3 l4 σ = some (r, σ1)) : SW E G (.inl (none, σ1)) A 5 σ 43 [(0, kr E l0), (1, .int l1), (2, .int l2), (3, .int l3), (4, .int l4)] [] := by
  unfold X12_findMade_43B at h
  refine r_iload hX dX12_findMade_43 4 rfl ?_
  refine r_aload_n hX dX12_findMade_45 rfl 0 rfl ?_
  refine r_gR hX dX12_findMade_46 kf_X12_32 rfl h ?_
  clear h; intro t1 h
  refine r_iload_n hX dX12_findMade_49 rfl 3 rfl ?_
  refine r_aI hX dX12_findMade_50 h ?_
  clear h; intro t2 h
  refine r_icmp_ge (tgt := 86) hX dX12_findMade_51 (by decide) h ?_ ?_
  · clear h; intro h
    refine r_sub [0, 1, 2] rfl ?_
    exact wX12_findMade_86 hX k23 hk23 h
  · clear h; intro h
    refine r_aload_n hX dX12_findMade_54 rfl 0 rfl ?_
    refine r_iload_n hX dX12_findMade_55 rfl 1 rfl ?_
    refine r_iload_n hX dX12_findMade_56 rfl 2 rfl ?_
    refine r_cVi (As := [.int l1, .int l2]) (st := []) hX dX12_findMade_57 kl_X12_isIdle w_ml_X12_209 w_im_X12_isIdle w_se_X12_isIdle ⟨_, _, rfl⟩ (by decide) rfl (Nat.le_of_ble_eq_true rfl) rfl kdz0 h (fun r σ1 h => wX12_isIdle h) ?_
    clear h; intro t3 σ h
    refine r_if_ne (tgt := 86) hX dX12_findMade_60 (by decide) h ?_ ?_
    · clear h; intro h
      refine r_aload_n hX dX12_findMade_63 rfl 0 rfl ?_
      refine r_gR hX dX12_findMade_64 kf_X12_47 rfl h ?_
      clear h; intro t4 h
      refine r_aload_n hX dX12_findMade_67 rfl 0 rfl ?_
      refine r_gR hX dX12_findMade_68 kf_X12_29 rfl h ?_
      clear h; intro t5 h
      refine r_iconst hX dX12_findMade_71 kk_i_3 ?_
      refine r_iload_n hX dX12_findMade_72 rfl 3 rfl ?_
      refine r_imul hX dX12_findMade_73 ?_
      refine r_iload hX dX12_findMade_74 4 rfl ?_
      refine r_iadd hX dX12_findMade_76 ?_
      refine r_aI hX dX12_findMade_77 h ?_
      clear h; intro t6 h
      refine r_iconst hX dX12_findMade_78 kk_i_1 ?_
      refine r_tZ hX dX12_findMade_79 h ?_
      clear h; intro σ h
      refine r_iincL (L2 := fun t7 => [(4, .int t7), (0, kr E l0), (1, .int l1), (2, .int l2), (3, .int l3)]) hX dX12_findMade_80 h 4 rfl (by decide) (fun _ => rfl) ?_
      clear h; intro t7 h
      refine r_goto (tgt := 43) hX dX12_findMade_83 (by decide) ?_
      refine r_sub [1, 2, 3, 4, 0] rfl ?_
      exact hk43 _ _ _ _ _ _ h
    · clear h; intro h
      refine r_sub [0, 1, 2] rfl ?_
      exact wX12_findMade_86 hX k23 hk23 h
def X12_findMade_43 (G : kdS) (k23 : Nat → Int32 → Int32 → kdM → Option (Unit × kdM)) : Nat → Int32 → Int32 → Int32 → Int32 → kdM → Option (Unit × kdM) := lp (fun _ _ _ _ _ _ => none) (X12_findMade_43B G k23) NN
theorem wX12_findMade_43 {E : kdE} {G : kdS} {A : kdA} {r : Unit} {σ1 : kdM} (hX : kdX E A cX12_findMade 5 RX12 none 2) (k23 : Nat → Int32 → Int32 → kdM → Option (Unit × kdM)) (hk23 : ∀ (l0 : Nat) (l1 : Int32) (l2 : Int32) (σ : kdM), k23 l0 l1 l2 σ = some (r, σ1) → SW E G (.inl (none, σ1)) A 5 σ 23 [(0, kr E l0), (1, .int l1), (2, .int l2)] []) : ∀ (l0 : Nat) (l1 : Int32) (l2 : Int32) (l3 : Int32) (l4 : Int32) (σ : kdM), X12_findMade_43 G k23 l0 l1 l2 l3 l4 σ = some (r, σ1) → SW E G (.inl (none, σ1)) A 5 σ 43 [(0, kr E l0), (1, .int l1), (2, .int l2), (3, .int l3), (4, .int l4)] [] :=
  lp_ind (Q := fun f => ∀ (l0 : Nat) (l1 : Int32) (l2 : Int32) (l3 : Int32) (l4 : Int32) (σ : kdM), f l0 l1 l2 l3 l4 σ = some (r, σ1) → SW E G (.inl (none, σ1)) A 5 σ 43 [(0, kr E l0), (1, .int l1), (2, .int l2), (3, .int l3), (4, .int l4)] []) (by intros; contradiction) (fun k hk l0 l1 l2 l3 l4 σ h => wX12_findMade_43B hX k23 k hk23 hk h) NN
def X12_findMade_189 (G : kdS) (k94 : Nat → Int32 → Int32 → kdM → Option (Unit × kdM)) (k102 : Nat → Int32 → Int32 → Int32 → kdM → Option (Unit × kdM)) (l0 : Nat) (l1 : Int32) (l2 : Int32) (l3 : Int32) (s0 : Nat) (s1 : Int32) (s2 : Int32) : kdM → Option (Unit × kdM) :=
  tZ G s0 (s1) (s2) <|
  ltI (l3 + Int32.ofInt 1) fun t1 =>
  k102 l0 l1 l2 t1
set_option maxRecDepth 100000 in
set_option maxHeartbeats 4000000 in
theorem wX12_findMade_189 {E : kdE} {G : kdS} {A : kdA} {r : Unit} {σ1 : kdM} (hX : kdX E A cX12_findMade 5 RX12 none 2) (k94 : Nat → Int32 → Int32 → kdM → Option (Unit × kdM)) (k102 : Nat → Int32 → Int32 → Int32 → kdM → Option (Unit × kdM)) (hk94 : ∀ (l0 : Nat) (l1 : Int32) (l2 : Int32) (σ : kdM), k94 l0 l1 l2 σ = some (r, σ1) → SW E G (.inl (none, σ1)) A 5 σ 94 [(0, kr E l0), (1, .int l1), (2, .int l2)] []) (hk102 : ∀ (l0 : Nat) (l1 : Int32) (l2 : Int32) (l3 : Int32) (σ : kdM), k102 l0 l1 l2 l3 σ = some (r, σ1) → SW E G (.inl (none, σ1)) A 5 σ 102 [(0, kr E l0), (1, .int l1), (2, .int l2), (3, .int l3)] []) {σ : kdM} {l0 : Nat} {l1 : Int32} {l2 : Int32} {l3 : Int32} {s0 : Nat} {s1 : Int32} {s2 : Int32} (h : X12_findMade_189 G k94 k102 l0 l1 l2 l3 s0 s1 s2 σ = some (r, σ1)) : SW E G (.inl (none, σ1)) A 5 σ 189 [(0, kr E l0), (1, .int l1), (2, .int l2), (3, .int l3)] [.int s2, .int s1, kr E s0] := by
  unfold X12_findMade_189 at h
  refine r_tZ hX dX12_findMade_189 h ?_
  clear h; intro σ h
  refine r_iincL (L2 := fun t1 => [(3, .int t1), (0, kr E l0), (1, .int l1), (2, .int l2)]) hX dX12_findMade_190 h 3 rfl (by decide) (fun _ => rfl) ?_
  clear h; intro t1 h
  refine r_goto (tgt := 102) hX dX12_findMade_193 (by decide) ?_
  refine r_sub [1, 2, 3, 0] rfl ?_
  exact hk102 _ _ _ _ _ h
def X12_findMade_184 (G : kdS) (k94 : Nat → Int32 → Int32 → kdM → Option (Unit × kdM)) (k102 : Nat → Int32 → Int32 → Int32 → kdM → Option (Unit × kdM)) (l0 : Nat) (l1 : Int32) (l2 : Int32) (l3 : Int32) (s0 : Nat) (s1 : Int32) : kdM → Option (Unit × kdM) :=
  X12_findMade_189 G k94 k102 l0 l1 l2 l3 s0 s1 (1 : Int32)
set_option maxRecDepth 100000 in
set_option maxHeartbeats 4000000 in
theorem wX12_findMade_184 {E : kdE} {G : kdS} {A : kdA} {r : Unit} {σ1 : kdM} (hX : kdX E A cX12_findMade 5 RX12 none 2) (k94 : Nat → Int32 → Int32 → kdM → Option (Unit × kdM)) (k102 : Nat → Int32 → Int32 → Int32 → kdM → Option (Unit × kdM)) (hk94 : ∀ (l0 : Nat) (l1 : Int32) (l2 : Int32) (σ : kdM), k94 l0 l1 l2 σ = some (r, σ1) → SW E G (.inl (none, σ1)) A 5 σ 94 [(0, kr E l0), (1, .int l1), (2, .int l2)] []) (hk102 : ∀ (l0 : Nat) (l1 : Int32) (l2 : Int32) (l3 : Int32) (σ : kdM), k102 l0 l1 l2 l3 σ = some (r, σ1) → SW E G (.inl (none, σ1)) A 5 σ 102 [(0, kr E l0), (1, .int l1), (2, .int l2), (3, .int l3)] []) {σ : kdM} {l0 : Nat} {l1 : Int32} {l2 : Int32} {l3 : Int32} {s0 : Nat} {s1 : Int32} (h : X12_findMade_184 G k94 k102 l0 l1 l2 l3 s0 s1 σ = some (r, σ1)) : SW E G (.inl (none, σ1)) A 5 σ 184 [(0, kr E l0), (1, .int l1), (2, .int l2), (3, .int l3)] [.int s1, kr E s0] := by
  unfold X12_findMade_184 at h
  refine r_iconst hX dX12_findMade_184 kk_i_1 ?_
  refine r_goto (tgt := 189) hX dX12_findMade_185 (by decide) ?_
  refine r_sub [0, 1, 2, 3] rfl ?_
  exact wX12_findMade_189 hX k94 k102 hk94 hk102 h
def X12_findMade_188 (G : kdS) (k94 : Nat → Int32 → Int32 → kdM → Option (Unit × kdM)) (k102 : Nat → Int32 → Int32 → Int32 → kdM → Option (Unit × kdM)) (l0 : Nat) (l1 : Int32) (l2 : Int32) (l3 : Int32) (s0 : Nat) (s1 : Int32) : kdM → Option (Unit × kdM) :=
  X12_findMade_189 G k94 k102 l0 l1 l2 l3 s0 s1 (0 : Int32)
set_option maxRecDepth 100000 in
set_option maxHeartbeats 4000000 in
theorem wX12_findMade_188 {E : kdE} {G : kdS} {A : kdA} {r : Unit} {σ1 : kdM} (hX : kdX E A cX12_findMade 5 RX12 none 2) (k94 : Nat → Int32 → Int32 → kdM → Option (Unit × kdM)) (k102 : Nat → Int32 → Int32 → Int32 → kdM → Option (Unit × kdM)) (hk94 : ∀ (l0 : Nat) (l1 : Int32) (l2 : Int32) (σ : kdM), k94 l0 l1 l2 σ = some (r, σ1) → SW E G (.inl (none, σ1)) A 5 σ 94 [(0, kr E l0), (1, .int l1), (2, .int l2)] []) (hk102 : ∀ (l0 : Nat) (l1 : Int32) (l2 : Int32) (l3 : Int32) (σ : kdM), k102 l0 l1 l2 l3 σ = some (r, σ1) → SW E G (.inl (none, σ1)) A 5 σ 102 [(0, kr E l0), (1, .int l1), (2, .int l2), (3, .int l3)] []) {σ : kdM} {l0 : Nat} {l1 : Int32} {l2 : Int32} {l3 : Int32} {s0 : Nat} {s1 : Int32} (h : X12_findMade_188 G k94 k102 l0 l1 l2 l3 s0 s1 σ = some (r, σ1)) : SW E G (.inl (none, σ1)) A 5 σ 188 [(0, kr E l0), (1, .int l1), (2, .int l2), (3, .int l3)] [.int s1, kr E s0] := by
  unfold X12_findMade_188 at h
  refine r_iconst hX dX12_findMade_188 kk_i_0 ?_
  refine r_sub [0, 1, 2, 3] rfl ?_
  exact wX12_findMade_189 hX k94 k102 hk94 hk102 h
def X12_findMade_102B (G : kdS) (k94 : Nat → Int32 → Int32 → kdM → Option (Unit × kdM)) (k102 : Nat → Int32 → Int32 → Int32 → kdM → Option (Unit × kdM)) (l0 : Nat) (l1 : Int32) (l2 : Int32) (l3 : Int32) : kdM → Option (Unit × kdM) :=
  gR G 12 13 l0 fun t1 =>
  aI G t1 (l1) fun t2 =>
  cnd (t2 ≤ l3)
    (ltI (l2 + Int32.ofInt 1) fun t3 =>
    k94 l0 l1 t3)
    (ltI (((3 : Int32) * (((12 : Int32) * l1) + l3))) fun t4 =>
    gR G 12 15 l0 fun t5 =>
    gR G 12 12 l0 fun t6 =>
    aI G t6 ((t4 + (2 : Int32))) fun t7 =>
    gR G 12 15 l0 fun t8 =>
    gR G 12 12 l0 fun t9 =>
    aI G t9 ((t4 + (2 : Int32))) fun t10 =>
    aZ G t8 (t10) fun t11 =>
    cnd (t11 = 0)
      (gR G 12 15 l0 fun t12 =>
      gR G 12 12 l0 fun t13 =>
      aI G t13 (t4) fun t14 =>
      aZ G t12 (t14) fun t15 =>
      cnd (t15 = 0)
        (X12_findMade_188 G k94 k102 l0 l1 l2 l3 t5 t7)
        (gR G 12 15 l0 fun t16 =>
        gR G 12 12 l0 fun t17 =>
        aI G t17 ((t4 + (1 : Int32))) fun t18 =>
        aZ G t16 (t18) fun t19 =>
        cnd (t19 = 0)
          (X12_findMade_188 G k94 k102 l0 l1 l2 l3 t5 t7)
          (X12_findMade_184 G k94 k102 l0 l1 l2 l3 t5 t7)))
      (X12_findMade_184 G k94 k102 l0 l1 l2 l3 t5 t7))
set_option maxRecDepth 100000 in
set_option maxHeartbeats 4000000 in
theorem wX12_findMade_102B {E : kdE} {G : kdS} {A : kdA} {r : Unit} {σ1 : kdM} (hX : kdX E A cX12_findMade 5 RX12 none 2) (k94 : Nat → Int32 → Int32 → kdM → Option (Unit × kdM)) (k102 : Nat → Int32 → Int32 → Int32 → kdM → Option (Unit × kdM)) (hk94 : ∀ (l0 : Nat) (l1 : Int32) (l2 : Int32) (σ : kdM), k94 l0 l1 l2 σ = some (r, σ1) → SW E G (.inl (none, σ1)) A 5 σ 94 [(0, kr E l0), (1, .int l1), (2, .int l2)] []) (hk102 : ∀ (l0 : Nat) (l1 : Int32) (l2 : Int32) (l3 : Int32) (σ : kdM), k102 l0 l1 l2 l3 σ = some (r, σ1) → SW E G (.inl (none, σ1)) A 5 σ 102 [(0, kr E l0), (1, .int l1), (2, .int l2), (3, .int l3)] []) {σ : kdM} {l0 : Nat} {l1 : Int32} {l2 : Int32} {l3 : Int32} (h : X12_findMade_102B G k94 k102 l0 l1 l2 l3 σ = some (r, σ1)) : SW E G (.inl (none, σ1)) A 5 σ 102 [(0, kr E l0), (1, .int l1), (2, .int l2), (3, .int l3)] [] := by
  unfold X12_findMade_102B at h
  refine r_iload_n hX dX12_findMade_102 rfl 3 rfl ?_
  refine r_aload_n hX dX12_findMade_103 rfl 0 rfl ?_
  refine r_gR hX dX12_findMade_104 kf_X12_41 rfl h ?_
  clear h; intro t1 h
  refine r_iload_n hX dX12_findMade_107 rfl 1 rfl ?_
  refine r_aI hX dX12_findMade_108 h ?_
  clear h; intro t2 h
  refine r_icmp_ge (tgt := 196) hX dX12_findMade_109 (by decide) h ?_ ?_
  · clear h; intro h
    refine r_iincL (L2 := fun t3 => [(2, .int t3), (0, kr E l0), (1, .int l1), (3, .int l3)]) hX dX12_findMade_196 h 2 rfl (by decide) (fun _ => rfl) ?_
    clear h; intro t3 h
    refine r_goto (tgt := 94) hX dX12_findMade_199 (by decide) ?_
    refine r_sub [1, 2, 0] rfl ?_
    exact hk94 _ _ _ _ h
  · clear h; intro h
    refine r_iconst hX dX12_findMade_112 kk_i_3 ?_
    refine r_bipush hX dX12_findMade_113 kk_b_12 ?_
    refine r_iload_n hX dX12_findMade_115 rfl 1 rfl ?_
    refine r_imul hX dX12_findMade_116 ?_
    refine r_iload_n hX dX12_findMade_117 rfl 3 rfl ?_
    refine r_iadd hX dX12_findMade_118 ?_
    refine r_imul hX dX12_findMade_119 ?_
    refine r_letI h ?_
    clear h; intro t4 h
    refine r_istore (L2 := [(4, .int t4), (0, kr E l0), (1, .int l1), (2, .int l2), (3, .int l3)]) hX dX12_findMade_120 (by decide) rfl ?_
    refine r_aload_n hX dX12_findMade_122 rfl 1 rfl ?_
    refine r_gR hX dX12_findMade_123 kf_X12_47 rfl h ?_
    clear h; intro t5 h
    refine r_aload_n hX dX12_findMade_126 rfl 1 rfl ?_
    refine r_gR hX dX12_findMade_127 kf_X12_38 rfl h ?_
    clear h; intro t6 h
    refine r_iload hX dX12_findMade_130 0 rfl ?_
    refine r_iconst hX dX12_findMade_132 kk_i_2 ?_
    refine r_iadd hX dX12_findMade_133 ?_
    refine r_aI hX dX12_findMade_134 h ?_
    clear h; intro t7 h
    refine r_aload_n hX dX12_findMade_135 rfl 1 rfl ?_
    refine r_gR hX dX12_findMade_136 kf_X12_47 rfl h ?_
    clear h; intro t8 h
    refine r_aload_n hX dX12_findMade_139 rfl 1 rfl ?_
    refine r_gR hX dX12_findMade_140 kf_X12_38 rfl h ?_
    clear h; intro t9 h
    refine r_iload hX dX12_findMade_143 0 rfl ?_
    refine r_iconst hX dX12_findMade_145 kk_i_2 ?_
    refine r_iadd hX dX12_findMade_146 ?_
    refine r_aI hX dX12_findMade_147 h ?_
    clear h; intro t10 h
    refine r_aZ hX dX12_findMade_148 h ?_
    clear h; intro t11 h
    refine r_if_ne (tgt := 184) hX dX12_findMade_149 (by decide) h ?_ ?_
    · clear h; intro h
      refine r_aload_n hX dX12_findMade_152 rfl 1 rfl ?_
      refine r_gR hX dX12_findMade_153 kf_X12_47 rfl h ?_
      clear h; intro t12 h
      refine r_aload_n hX dX12_findMade_156 rfl 1 rfl ?_
      refine r_gR hX dX12_findMade_157 kf_X12_38 rfl h ?_
      clear h; intro t13 h
      refine r_iload hX dX12_findMade_160 0 rfl ?_
      refine r_aI hX dX12_findMade_162 h ?_
      clear h; intro t14 h
      refine r_aZ hX dX12_findMade_163 h ?_
      clear h; intro t15 h
      refine r_if_eq (tgt := 188) hX dX12_findMade_164 (by decide) h ?_ ?_
      · clear h; intro h
        refine r_sub [1, 2, 3, 4] rfl ?_
        exact wX12_findMade_188 hX k94 k102 hk94 hk102 h
      · clear h; intro h
        refine r_aload_n hX dX12_findMade_167 rfl 1 rfl ?_
        refine r_gR hX dX12_findMade_168 kf_X12_47 rfl h ?_
        clear h; intro t16 h
        refine r_aload_n hX dX12_findMade_171 rfl 1 rfl ?_
        refine r_gR hX dX12_findMade_172 kf_X12_38 rfl h ?_
        clear h; intro t17 h
        refine r_iload hX dX12_findMade_175 0 rfl ?_
        refine r_iconst hX dX12_findMade_177 kk_i_1 ?_
        refine r_iadd hX dX12_findMade_178 ?_
        refine r_aI hX dX12_findMade_179 h ?_
        clear h; intro t18 h
        refine r_aZ hX dX12_findMade_180 h ?_
        clear h; intro t19 h
        refine r_if_eq (tgt := 188) hX dX12_findMade_181 (by decide) h ?_ ?_
        · clear h; intro h
          refine r_sub [1, 2, 3, 4] rfl ?_
          exact wX12_findMade_188 hX k94 k102 hk94 hk102 h
        · clear h; intro h
          refine r_sub [1, 2, 3, 4] rfl ?_
          exact wX12_findMade_184 hX k94 k102 hk94 hk102 h
    · clear h; intro h
      refine r_sub [1, 2, 3, 4] rfl ?_
      exact wX12_findMade_184 hX k94 k102 hk94 hk102 h
def X12_findMade_102 (G : kdS) (k94 : Nat → Int32 → Int32 → kdM → Option (Unit × kdM)) : Nat → Int32 → Int32 → Int32 → kdM → Option (Unit × kdM) := lp (fun _ _ _ _ _ => none) (X12_findMade_102B G k94) NN
theorem wX12_findMade_102 {E : kdE} {G : kdS} {A : kdA} {r : Unit} {σ1 : kdM} (hX : kdX E A cX12_findMade 5 RX12 none 2) (k94 : Nat → Int32 → Int32 → kdM → Option (Unit × kdM)) (hk94 : ∀ (l0 : Nat) (l1 : Int32) (l2 : Int32) (σ : kdM), k94 l0 l1 l2 σ = some (r, σ1) → SW E G (.inl (none, σ1)) A 5 σ 94 [(0, kr E l0), (1, .int l1), (2, .int l2)] []) : ∀ (l0 : Nat) (l1 : Int32) (l2 : Int32) (l3 : Int32) (σ : kdM), X12_findMade_102 G k94 l0 l1 l2 l3 σ = some (r, σ1) → SW E G (.inl (none, σ1)) A 5 σ 102 [(0, kr E l0), (1, .int l1), (2, .int l2), (3, .int l3)] [] :=
  lp_ind (Q := fun f => ∀ (l0 : Nat) (l1 : Int32) (l2 : Int32) (l3 : Int32) (σ : kdM), f l0 l1 l2 l3 σ = some (r, σ1) → SW E G (.inl (none, σ1)) A 5 σ 102 [(0, kr E l0), (1, .int l1), (2, .int l2), (3, .int l3)] []) (by intros; contradiction) (fun k hk l0 l1 l2 l3 σ h => wX12_findMade_102B hX k94 k hk94 hk h) NN
def X12_findMade_94B (G : kdS) (k94 : Nat → Int32 → Int32 → kdM → Option (Unit × kdM)) (l0 : Nat) (l1 : Int32) (l2 : Int32) : kdM → Option (Unit × kdM) :=
  cnd ((12 : Int32) ≤ l2)
    (rt ())
    (X12_findMade_102 G k94 l0 l1 l2 (0 : Int32))
set_option maxRecDepth 100000 in
set_option maxHeartbeats 4000000 in
theorem wX12_findMade_94B {E : kdE} {G : kdS} {A : kdA} {r : Unit} {σ1 : kdM} (hX : kdX E A cX12_findMade 5 RX12 none 2) (k94 : Nat → Int32 → Int32 → kdM → Option (Unit × kdM)) (hk94 : ∀ (l0 : Nat) (l1 : Int32) (l2 : Int32) (σ : kdM), k94 l0 l1 l2 σ = some (r, σ1) → SW E G (.inl (none, σ1)) A 5 σ 94 [(0, kr E l0), (1, .int l1), (2, .int l2)] []) {σ : kdM} {l0 : Nat} {l1 : Int32} {l2 : Int32} (h : X12_findMade_94B G k94 l0 l1 l2 σ = some (r, σ1)) : SW E G (.inl (none, σ1)) A 5 σ 94 [(0, kr E l0), (1, .int l1), (2, .int l2)] [] := by
  unfold X12_findMade_94B at h
  refine r_iload_n hX dX12_findMade_94 rfl 2 rfl ?_
  refine r_bipush hX dX12_findMade_95 kk_b_12 ?_
  refine r_icmp_ge (tgt := 202) hX dX12_findMade_97 (by decide) h ?_ ?_
  · clear h; intro h
    exact r_vret hX dX12_findMade_202 h
  · clear h; intro h
    refine r_iconst hX dX12_findMade_100 kk_i_0 ?_
    refine r_istore_n (L2 := [(3, .int (0 : Int32)), (0, kr E l0), (1, .int l1), (2, .int l2)]) hX dX12_findMade_101 rfl (by decide) rfl ?_
    refine r_sub [1, 2, 3, 0] rfl ?_
    exact wX12_findMade_102 hX k94 hk94 _ _ _ _ _ h
def X12_findMade_94 (G : kdS) : Nat → Int32 → Int32 → kdM → Option (Unit × kdM) := lp (fun _ _ _ _ => none) (X12_findMade_94B G) NN
theorem wX12_findMade_94 {E : kdE} {G : kdS} {A : kdA} {r : Unit} {σ1 : kdM} (hX : kdX E A cX12_findMade 5 RX12 none 2) : ∀ (l0 : Nat) (l1 : Int32) (l2 : Int32) (σ : kdM), X12_findMade_94 G l0 l1 l2 σ = some (r, σ1) → SW E G (.inl (none, σ1)) A 5 σ 94 [(0, kr E l0), (1, .int l1), (2, .int l2)] [] :=
  lp_ind (Q := fun f => ∀ (l0 : Nat) (l1 : Int32) (l2 : Int32) (σ : kdM), f l0 l1 l2 σ = some (r, σ1) → SW E G (.inl (none, σ1)) A 5 σ 94 [(0, kr E l0), (1, .int l1), (2, .int l2)] []) (by intros; contradiction) (fun k hk l0 l1 l2 σ h => wX12_findMade_94B hX k hk h) NN
def X12_findMade_23B (G : kdS) (k23 : Nat → Int32 → Int32 → kdM → Option (Unit × kdM)) (l0 : Nat) (l1 : Int32) (l2 : Int32) : kdM → Option (Unit × kdM) :=
  gR G 12 11 l0 fun t1 =>
  aI G t1 (l1) fun t2 =>
  cnd (t2 ≤ l2)
    (X12_findMade_94 G l0 l1 (0 : Int32))
    (ltI ((((24 : Int32) * l1) + l2)) fun t3 =>
    X12_findMade_43 G k23 l0 l1 l2 t3 (0 : Int32))
set_option maxRecDepth 100000 in
set_option maxHeartbeats 4000000 in
theorem wX12_findMade_23B {E : kdE} {G : kdS} {A : kdA} {r : Unit} {σ1 : kdM} (hX : kdX E A cX12_findMade 5 RX12 none 2) (k23 : Nat → Int32 → Int32 → kdM → Option (Unit × kdM)) (hk23 : ∀ (l0 : Nat) (l1 : Int32) (l2 : Int32) (σ : kdM), k23 l0 l1 l2 σ = some (r, σ1) → SW E G (.inl (none, σ1)) A 5 σ 23 [(0, kr E l0), (1, .int l1), (2, .int l2)] []) {σ : kdM} {l0 : Nat} {l1 : Int32} {l2 : Int32} (h : X12_findMade_23B G k23 l0 l1 l2 σ = some (r, σ1)) : SW E G (.inl (none, σ1)) A 5 σ 23 [(0, kr E l0), (1, .int l1), (2, .int l2)] [] := by
  unfold X12_findMade_23B at h
  refine r_iload_n hX dX12_findMade_23 rfl 2 rfl ?_
  refine r_aload_n hX dX12_findMade_24 rfl 0 rfl ?_
  refine r_gR hX dX12_findMade_25 kf_X12_35 rfl h ?_
  clear h; intro t1 h
  refine r_iload_n hX dX12_findMade_28 rfl 1 rfl ?_
  refine r_aI hX dX12_findMade_29 h ?_
  clear h; intro t2 h
  refine r_icmp_ge (tgt := 92) hX dX12_findMade_30 (by decide) h ?_ ?_
  · clear h; intro h
    refine r_iconst hX dX12_findMade_92 kk_i_0 ?_
    refine r_istore_n (L2 := [(2, .int (0 : Int32)), (0, kr E l0), (1, .int l1)]) hX dX12_findMade_93 rfl (by decide) rfl ?_
    refine r_sub [1, 2, 0] rfl ?_
    exact wX12_findMade_94 hX _ _ _ _ h
  · clear h; intro h
    refine r_bipush hX dX12_findMade_33 kk_b_24 ?_
    refine r_iload_n hX dX12_findMade_35 rfl 1 rfl ?_
    refine r_imul hX dX12_findMade_36 ?_
    refine r_iload_n hX dX12_findMade_37 rfl 2 rfl ?_
    refine r_iadd hX dX12_findMade_38 ?_
    refine r_letI h ?_
    clear h; intro t3 h
    refine r_istore_n (L2 := [(3, .int t3), (0, kr E l0), (1, .int l1), (2, .int l2)]) hX dX12_findMade_39 rfl (by decide) rfl ?_
    refine r_iconst hX dX12_findMade_40 kk_i_0 ?_
    refine r_istore (L2 := [(4, .int (0 : Int32)), (3, .int t3), (0, kr E l0), (1, .int l1), (2, .int l2)]) hX dX12_findMade_41 (by decide) rfl ?_
    refine r_sub [2, 3, 4, 1, 0] rfl ?_
    exact wX12_findMade_43 hX k23 hk23 _ _ _ _ _ _ h
def X12_findMade_23 (G : kdS) : Nat → Int32 → Int32 → kdM → Option (Unit × kdM) := lp (fun _ _ _ _ => none) (X12_findMade_23B G) NN
theorem wX12_findMade_23 {E : kdE} {G : kdS} {A : kdA} {r : Unit} {σ1 : kdM} (hX : kdX E A cX12_findMade 5 RX12 none 2) : ∀ (l0 : Nat) (l1 : Int32) (l2 : Int32) (σ : kdM), X12_findMade_23 G l0 l1 l2 σ = some (r, σ1) → SW E G (.inl (none, σ1)) A 5 σ 23 [(0, kr E l0), (1, .int l1), (2, .int l2)] [] :=
  lp_ind (Q := fun f => ∀ (l0 : Nat) (l1 : Int32) (l2 : Int32) (σ : kdM), f l0 l1 l2 σ = some (r, σ1) → SW E G (.inl (none, σ1)) A 5 σ 23 [(0, kr E l0), (1, .int l1), (2, .int l2)] []) (by intros; contradiction) (fun k hk l0 l1 l2 σ h => wX12_findMade_23B hX k hk h) NN
def X12_findMade_2B (G : kdS) (k2 : Nat → Int32 → Int32 → kdM → Option (Unit × kdM)) (l0 : Nat) (l1 : Int32) (l2 : Int32) : kdM → Option (Unit × kdM) :=
  cnd ((61 : Int32) ≤ l2)
    (X12_findMade_23 G l0 l1 (0 : Int32))
    (gR G 12 15 l0 fun t1 =>
    tZ G t1 (l2) ((0 : Int32)) <|
    ltI (l2 + Int32.ofInt 1) fun t2 =>
    k2 l0 l1 t2)
set_option maxRecDepth 100000 in
set_option maxHeartbeats 4000000 in
theorem wX12_findMade_2B {E : kdE} {G : kdS} {A : kdA} {r : Unit} {σ1 : kdM} (hX : kdX E A cX12_findMade 5 RX12 none 2) (k2 : Nat → Int32 → Int32 → kdM → Option (Unit × kdM)) (hk2 : ∀ (l0 : Nat) (l1 : Int32) (l2 : Int32) (σ : kdM), k2 l0 l1 l2 σ = some (r, σ1) → SW E G (.inl (none, σ1)) A 5 σ 2 [(0, kr E l0), (1, .int l1), (2, .int l2)] []) {σ : kdM} {l0 : Nat} {l1 : Int32} {l2 : Int32} (h : X12_findMade_2B G k2 l0 l1 l2 σ = some (r, σ1)) : SW E G (.inl (none, σ1)) A 5 σ 2 [(0, kr E l0), (1, .int l1), (2, .int l2)] [] := by
  unfold X12_findMade_2B at h
  refine r_iload_n hX dX12_findMade_2 rfl 2 rfl ?_
  refine r_bipush hX dX12_findMade_3 kk_b_61 ?_
  refine r_icmp_ge (tgt := 21) hX dX12_findMade_5 (by decide) h ?_ ?_
  · clear h; intro h
    refine r_iconst hX dX12_findMade_21 kk_i_0 ?_
    refine r_istore_n (L2 := [(2, .int (0 : Int32)), (0, kr E l0), (1, .int l1)]) hX dX12_findMade_22 rfl (by decide) rfl ?_
    refine r_sub [1, 2, 0] rfl ?_
    exact wX12_findMade_23 hX _ _ _ _ h
  · clear h; intro h
    refine r_aload_n hX dX12_findMade_8 rfl 0 rfl ?_
    refine r_gR hX dX12_findMade_9 kf_X12_47 rfl h ?_
    clear h; intro t1 h
    refine r_iload_n hX dX12_findMade_12 rfl 2 rfl ?_
    refine r_iconst hX dX12_findMade_13 kk_i_0 ?_
    refine r_tZ hX dX12_findMade_14 h ?_
    clear h; intro σ h
    refine r_iincL (L2 := fun t2 => [(2, .int t2), (0, kr E l0), (1, .int l1)]) hX dX12_findMade_15 h 2 rfl (by decide) (fun _ => rfl) ?_
    clear h; intro t2 h
    refine r_goto (tgt := 2) hX dX12_findMade_18 (by decide) ?_
    refine r_sub [1, 2, 0] rfl ?_
    exact hk2 _ _ _ _ h
def X12_findMade_2 (G : kdS) : Nat → Int32 → Int32 → kdM → Option (Unit × kdM) := lp (fun _ _ _ _ => none) (X12_findMade_2B G) NN
theorem wX12_findMade_2 {E : kdE} {G : kdS} {A : kdA} {r : Unit} {σ1 : kdM} (hX : kdX E A cX12_findMade 5 RX12 none 2) : ∀ (l0 : Nat) (l1 : Int32) (l2 : Int32) (σ : kdM), X12_findMade_2 G l0 l1 l2 σ = some (r, σ1) → SW E G (.inl (none, σ1)) A 5 σ 2 [(0, kr E l0), (1, .int l1), (2, .int l2)] [] :=
  lp_ind (Q := fun f => ∀ (l0 : Nat) (l1 : Int32) (l2 : Int32) (σ : kdM), f l0 l1 l2 σ = some (r, σ1) → SW E G (.inl (none, σ1)) A 5 σ 2 [(0, kr E l0), (1, .int l1), (2, .int l2)] []) (by intros; contradiction) (fun k hk l0 l1 l2 σ h => wX12_findMade_2B hX k hk h) NN
def X12_findMade (G : kdS) (l0 : Nat) (l1 : Int32) : kdM → Option (Unit × kdM) :=
  X12_findMade_2 G l0 l1 (0 : Int32)
set_option maxRecDepth 100000 in
set_option maxHeartbeats 4000000 in
theorem wX12_findMade {E : kdE} {G : kdS} {l0 : Nat} {l1 : Int32} {σ : kdM} {r : Unit} {σ1 : kdM} (h : X12_findMade G l0 l1 σ = some (r, σ1)) : Con E G yX12_findMade cX12_findMade 5 none 2 [kr E l0, .int l1] σ (none, σ1) := by
  refine kd_head (own := RX12) rfl (by decide +kernel) (Nat.le_of_ble_eq_true rfl) (fun A hX => ?_)
  show SW E G (.inl (none, σ1)) A 5 σ 0 [(0, kr E l0), (1, .int l1)] []
  unfold X12_findMade at h
  refine r_iconst hX dX12_findMade_0 kk_i_0 ?_
  refine r_istore_n (L2 := [(2, .int (0 : Int32)), (0, kr E l0), (1, .int l1)]) hX dX12_findMade_1 rfl (by decide) rfl ?_
  refine r_sub [1, 2, 0] rfl ?_
  exact wX12_findMade_2 hX _ _ _ _ h
def X12_missing_62 (G : kdS) (k19 : Nat → Int32 → Int32 → Int32 → Int32 → kdM → Option (Int32 × kdM)) (l0 : Nat) (l1 : Int32) (l2 : Int32) (l3 : Int32) (l4 : Int32) : kdM → Option (Int32 × kdM) :=
  ltI (l4 + Int32.ofInt 1) fun t1 =>
  k19 l0 l1 l2 l3 t1
set_option maxRecDepth 100000 in
set_option maxHeartbeats 4000000 in
theorem wX12_missing_62 {E : kdE} {G : kdS} {A : kdA} {r : Int32} {σ1 : kdM} (hX : kdX E A cX12_missing 5 RX12 (some .int) 3) (k19 : Nat → Int32 → Int32 → Int32 → Int32 → kdM → Option (Int32 × kdM)) (hk19 : ∀ (l0 : Nat) (l1 : Int32) (l2 : Int32) (l3 : Int32) (l4 : Int32) (σ : kdM), k19 l0 l1 l2 l3 l4 σ = some (r, σ1) → SW E G (.inl (some (.int r), σ1)) A 5 σ 19 [(0, kr E l0), (1, .int l1), (2, .int l2), (3, .int l3), (4, .int l4)] []) {σ : kdM} {l0 : Nat} {l1 : Int32} {l2 : Int32} {l3 : Int32} {l4 : Int32} (h : X12_missing_62 G k19 l0 l1 l2 l3 l4 σ = some (r, σ1)) : SW E G (.inl (some (.int r), σ1)) A 5 σ 62 [(0, kr E l0), (1, .int l1), (2, .int l2), (3, .int l3), (4, .int l4)] [] := by
  unfold X12_missing_62 at h
  refine r_iincL (L2 := fun t1 => [(4, .int t1), (0, kr E l0), (1, .int l1), (2, .int l2), (3, .int l3)]) hX dX12_missing_62 h 4 rfl (by decide) (fun _ => rfl) ?_
  clear h; intro t1 h
  refine r_goto (tgt := 19) hX dX12_missing_65 (by decide) ?_
  refine r_sub [1, 2, 3, 4, 0] rfl ?_
  exact hk19 _ _ _ _ _ _ h
def X12_missing_79 (G : kdS) (s0 : Int32) : kdM → Option (Int32 × kdM) :=
  rt s0
set_option maxRecDepth 100000 in
set_option maxHeartbeats 4000000 in
theorem wX12_missing_79 {E : kdE} {G : kdS} {A : kdA} {r : Int32} {σ1 : kdM} (hX : kdX E A cX12_missing 5 RX12 (some .int) 3) {σ : kdM} {s0 : Int32} (h : X12_missing_79 G s0 σ = some (r, σ1)) : SW E G (.inl (some (.int r), σ1)) A 5 σ 79 [] [.int s0] := by
  unfold X12_missing_79 at h
  exact r_iret hX dX12_missing_79 h
def X12_missing_19B (G : kdS) (k19 : Nat → Int32 → Int32 → Int32 → Int32 → kdM → Option (Int32 × kdM)) (l0 : Nat) (l1 : Int32) (l2 : Int32) (l3 : Int32) (l4 : Int32) : kdM → Option (Int32 × kdM) :=
  cnd ((60 : Int32) < l4)
    (cnd (l2 = (-1 : Int32))
      (X12_missing_79 G l3)
      (X12_missing_79 G (-6 : Int32)))
    (gR G 12 14 l0 fun t1 =>
    aZ G t1 ((((61 : Int32) * l1) + l4)) fun t2 =>
    cnd (t2 = 0)
      (X12_missing_62 G k19 l0 l1 l2 l3 l4)
      (gR G 12 15 l0 fun t3 =>
      aZ G t3 (l4) fun t4 =>
      cnd (t4 = 0)
        (cnd (l3 = l2)
          (rt l4)
          (ltI (l3 + Int32.ofInt 1) fun t5 =>
          X12_missing_62 G k19 l0 l1 l2 t5 l4))
        (X12_missing_62 G k19 l0 l1 l2 l3 l4)))
set_option maxRecDepth 100000 in
set_option maxHeartbeats 4000000 in
theorem wX12_missing_19B {E : kdE} {G : kdS} {A : kdA} {r : Int32} {σ1 : kdM} (hX : kdX E A cX12_missing 5 RX12 (some .int) 3) (k19 : Nat → Int32 → Int32 → Int32 → Int32 → kdM → Option (Int32 × kdM)) (hk19 : ∀ (l0 : Nat) (l1 : Int32) (l2 : Int32) (l3 : Int32) (l4 : Int32) (σ : kdM), k19 l0 l1 l2 l3 l4 σ = some (r, σ1) → SW E G (.inl (some (.int r), σ1)) A 5 σ 19 [(0, kr E l0), (1, .int l1), (2, .int l2), (3, .int l3), (4, .int l4)] []) {σ : kdM} {l0 : Nat} {l1 : Int32} {l2 : Int32} {l3 : Int32} {l4 : Int32} (h : X12_missing_19B G k19 l0 l1 l2 l3 l4 σ = some (r, σ1)) : SW E G (.inl (some (.int r), σ1)) A 5 σ 19 [(0, kr E l0), (1, .int l1), (2, .int l2), (3, .int l3), (4, .int l4)] [] := by
  unfold X12_missing_19B at h
  refine r_iload hX dX12_missing_19 4 rfl ?_
  refine r_bipush hX dX12_missing_21 kk_b_60 ?_
  refine r_icmp_gt (tgt := 68) hX dX12_missing_23 (by decide) h ?_ ?_
  · clear h; intro h
    refine r_iload_n hX dX12_missing_68 rfl 2 rfl ?_
    refine r_iconst hX dX12_missing_69 kk_i_m1 ?_
    refine r_icmp_ne (tgt := 77) hX dX12_missing_70 (by decide) h ?_ ?_
    · clear h; intro h
      refine r_iload_n hX dX12_missing_73 rfl 3 rfl ?_
      refine r_goto (tgt := 79) hX dX12_missing_74 (by decide) ?_
      refine r_sub [] rfl ?_
      exact wX12_missing_79 hX h
    · clear h; intro h
      refine r_bipush hX dX12_missing_77 kk_b_m6 ?_
      refine r_sub [] rfl ?_
      exact wX12_missing_79 hX h
  · clear h; intro h
    refine r_aload_n hX dX12_missing_26 rfl 0 rfl ?_
    refine r_gR hX dX12_missing_27 kf_X12_44 rfl h ?_
    clear h; intro t1 h
    refine r_bipush hX dX12_missing_30 kk_b_61 ?_
    refine r_iload_n hX dX12_missing_32 rfl 1 rfl ?_
    refine r_imul hX dX12_missing_33 ?_
    refine r_iload hX dX12_missing_34 4 rfl ?_
    refine r_iadd hX dX12_missing_36 ?_
    refine r_aZ hX dX12_missing_37 h ?_
    clear h; intro t2 h
    refine r_if_eq (tgt := 62) hX dX12_missing_38 (by decide) h ?_ ?_
    · clear h; intro h
      refine r_sub [0, 1, 2, 3, 4] rfl ?_
      exact wX12_missing_62 hX k19 hk19 h
    · clear h; intro h
      refine r_aload_n hX dX12_missing_41 rfl 0 rfl ?_
      refine r_gR hX dX12_missing_42 kf_X12_47 rfl h ?_
      clear h; intro t3 h
      refine r_iload hX dX12_missing_45 4 rfl ?_
      refine r_aZ hX dX12_missing_47 h ?_
      clear h; intro t4 h
      refine r_if_ne (tgt := 62) hX dX12_missing_48 (by decide) h ?_ ?_
      · clear h; intro h
        refine r_iload_n hX dX12_missing_51 rfl 3 rfl ?_
        refine r_iload_n hX dX12_missing_52 rfl 2 rfl ?_
        refine r_icmp_ne (tgt := 59) hX dX12_missing_53 (by decide) h ?_ ?_
        · clear h; intro h
          refine r_iload hX dX12_missing_56 4 rfl ?_
          exact r_iret hX dX12_missing_58 h
        · clear h; intro h
          refine r_iincL (L2 := fun t5 => [(3, .int t5), (0, kr E l0), (1, .int l1), (2, .int l2), (4, .int l4)]) hX dX12_missing_59 h 3 rfl (by decide) (fun _ => rfl) ?_
          clear h; intro t5 h
          refine r_sub [1, 2, 3, 0, 4] rfl ?_
          exact wX12_missing_62 hX k19 hk19 h
      · clear h; intro h
        refine r_sub [0, 1, 2, 3, 4] rfl ?_
        exact wX12_missing_62 hX k19 hk19 h
def X12_missing_19 (G : kdS) : Nat → Int32 → Int32 → Int32 → Int32 → kdM → Option (Int32 × kdM) := lp (fun _ _ _ _ _ _ => none) (X12_missing_19B G) NN
theorem wX12_missing_19 {E : kdE} {G : kdS} {A : kdA} {r : Int32} {σ1 : kdM} (hX : kdX E A cX12_missing 5 RX12 (some .int) 3) : ∀ (l0 : Nat) (l1 : Int32) (l2 : Int32) (l3 : Int32) (l4 : Int32) (σ : kdM), X12_missing_19 G l0 l1 l2 l3 l4 σ = some (r, σ1) → SW E G (.inl (some (.int r), σ1)) A 5 σ 19 [(0, kr E l0), (1, .int l1), (2, .int l2), (3, .int l3), (4, .int l4)] [] :=
  lp_ind (Q := fun f => ∀ (l0 : Nat) (l1 : Int32) (l2 : Int32) (l3 : Int32) (l4 : Int32) (σ : kdM), f l0 l1 l2 l3 l4 σ = some (r, σ1) → SW E G (.inl (some (.int r), σ1)) A 5 σ 19 [(0, kr E l0), (1, .int l1), (2, .int l2), (3, .int l3), (4, .int l4)] []) (by intros; contradiction) (fun k hk l0 l1 l2 l3 l4 σ h => wX12_missing_19B hX k hk h) NN
def X12_missing (G : kdS) (l0 : Nat) (l1 : Int32) (l2 : Int32) : kdM → Option (Int32 × kdM) :=
  kcl (X12_isTongue G l1) fun t1 =>
  cnd (t1 = 0)
    (rt (-1 : Int32))
    (kcv G 12 l0 (X12_findMade G l0 l1) fun _ =>
    X12_missing_19 G l0 l1 l2 (0 : Int32) (1 : Int32))
set_option maxRecDepth 100000 in
set_option maxHeartbeats 4000000 in
theorem wX12_missing {E : kdE} {G : kdS} {l0 : Nat} {l1 : Int32} {l2 : Int32} {σ : kdM} {r : Int32} {σ1 : kdM} (h : X12_missing G l0 l1 l2 σ = some (r, σ1)) : Con E G yX12_missing cX12_missing 5 (some .int) 3 [kr E l0, .int l1, .int l2] σ (some (.int r), σ1) := by
  refine kd_head (own := RX12) rfl (by decide +kernel) (Nat.le_of_ble_eq_true rfl) (fun A hX => ?_)
  show SW E G (.inl (some (.int r), σ1)) A 5 σ 0 [(0, kr E l0), (1, .int l1), (2, .int l2)] []
  unfold X12_missing at h
  refine r_iload_n hX dX12_missing_0 rfl 1 rfl ?_
  refine r_cSi (As := [.int l1]) (st := []) hX dX12_missing_1 kl_X12_isTongue w_ml_X12_195 w_st_X12_isTongue (by decide) rfl (Nat.le_of_ble_eq_true rfl) rfl kdz0 h (fun r σ1 h => wX12_isTongue h) ?_
  clear h; intro t1 σ h
  refine r_if_ne (tgt := 9) hX dX12_missing_4 (by decide) h ?_ ?_
  · clear h; intro h
    refine r_iconst hX dX12_missing_7 kk_i_m1 ?_
    exact r_iret hX dX12_missing_8 h
  · clear h; intro h
    refine r_aload_n hX dX12_missing_9 rfl 0 rfl ?_
    refine r_iload_n hX dX12_missing_10 rfl 1 rfl ?_
    refine r_cVv (As := [.int l1]) (st := []) hX dX12_missing_11 kl_X12_findMade w_ml_X12_212 w_im_X12_findMade w_se_X12_findMade ⟨_, _, rfl⟩ (by decide) rfl (Nat.le_of_ble_eq_true rfl) rfl kdz0 h (fun r σ1 h => wX12_findMade h) ?_
    clear h; intro u σ h
    refine r_iconst hX dX12_missing_14 kk_i_0 ?_
    refine r_istore_n (L2 := [(3, .int (0 : Int32)), (0, kr E l0), (1, .int l1), (2, .int l2)]) hX dX12_missing_15 rfl (by decide) rfl ?_
    refine r_iconst hX dX12_missing_16 kk_i_1 ?_
    refine r_istore (L2 := [(4, .int (1 : Int32)), (3, .int (0 : Int32)), (0, kr E l0), (1, .int l1), (2, .int l2)]) hX dX12_missing_17 (by decide) rfl ?_
    refine r_sub [2, 3, 4, 1, 0] rfl ?_
    exact wX12_missing_19 hX _ _ _ _ _ _ h
def X12_speak (G : kdS) (l0 : Nat) (l1 : Int32) : kdM → Option (Int32 × kdM) :=
  kcl (X12_isTongue G l1) fun t1 =>
  cnd (t1 = 0)
    (rt (-1 : Int32))
    (gI G 12 18 l0 fun t2 =>
    sI G 12 18 l0 (l1) <|
    rt t2)
set_option maxRecDepth 100000 in
set_option maxHeartbeats 4000000 in
theorem wX12_speak {E : kdE} {G : kdS} {l0 : Nat} {l1 : Int32} {σ : kdM} {r : Int32} {σ1 : kdM} (h : X12_speak G l0 l1 σ = some (r, σ1)) : Con E G yX12_speak cX12_speak 3 (some .int) 2 [kr E l0, .int l1] σ (some (.int r), σ1) := by
  refine kd_head (own := RX12) rfl (by decide +kernel) (Nat.le_of_ble_eq_true rfl) (fun A hX => ?_)
  show SW E G (.inl (some (.int r), σ1)) A 3 σ 0 [(0, kr E l0), (1, .int l1)] []
  unfold X12_speak at h
  refine r_iload_n hX dX12_speak_0 rfl 1 rfl ?_
  refine r_cSi (As := [.int l1]) (st := []) hX dX12_speak_1 kl_X12_isTongue w_ml_X12_195 w_st_X12_isTongue (by decide) rfl (Nat.le_of_ble_eq_true rfl) rfl kdz0 h (fun r σ1 h => wX12_isTongue h) ?_
  clear h; intro t1 σ h
  refine r_if_ne (tgt := 9) hX dX12_speak_4 (by decide) h ?_ ?_
  · clear h; intro h
    refine r_iconst hX dX12_speak_7 kk_i_m1 ?_
    exact r_iret hX dX12_speak_8 h
  · clear h; intro h
    refine r_aload_n hX dX12_speak_9 rfl 0 rfl ?_
    refine r_gI hX dX12_speak_10 kf_X12_215 rfl h ?_
    clear h; intro t2 h
    refine r_istore_n (L2 := [(2, .int t2), (0, kr E l0), (1, .int l1)]) hX dX12_speak_13 rfl (by decide) rfl ?_
    refine r_aload_n hX dX12_speak_14 rfl 1 rfl ?_
    refine r_iload_n hX dX12_speak_15 rfl 2 rfl ?_
    refine r_sI hX dX12_speak_16 kf_X12_215 rfl (by intro q hq; cases hq; rfl) h ?_
    clear h; intro σ h
    refine r_iload_n hX dX12_speak_19 rfl 0 rfl ?_
    exact r_iret hX dX12_speak_20 h
def X12_isKey (G : kdS) (l0 : Int32) : kdM → Option (Int32 × kdM) :=
  kcl (X12_in G (Int32.toInt64 l0) (0 : Int64) (11 : Int64)) fun t1 =>
  rt (vp_nar .boolean t1)
set_option maxRecDepth 100000 in
set_option maxHeartbeats 4000000 in
theorem wX12_isKey {E : kdE} {G : kdS} {l0 : Int32} {σ : kdM} {r : Int32} {σ1 : kdM} (h : X12_isKey G l0 σ = some (r, σ1)) : Con E G yX12_isKey cX12_isKey 1 (some .boolean) 1 [.int l0] σ (some (.int r), σ1) := by
  refine kd_head (own := RX12) rfl (by decide +kernel) (Nat.le_of_ble_eq_true rfl) (fun A hX => ?_)
  show SW E G (.inl (some (.int r), σ1)) A 1 σ 0 [(0, .int l0)] []
  unfold X12_isKey at h
  refine r_iload_n hX dX12_isKey_0 rfl 0 rfl ?_
  refine r_i2l hX dX12_isKey_1 ?_
  refine r_lconst hX dX12_isKey_2 kk_l_0 ?_
  refine r_ldc2_w hX dX12_isKey_3 w_cl_X12_176 ?_
  refine r_cSi (As := [.long (Int32.toInt64 l0), .long (0 : Int64), .long (11 : Int64)]) (st := []) hX dX12_isKey_6 kl_X12_in w_ml_X12_178 w_st_X12_in (by decide) rfl (Nat.le_of_ble_eq_true rfl) rfl kdz0 h (fun r σ1 h => wX12_in h) ?_
  clear h; intro t1 σ h
  exact r_zret hX dX12_isKey_9 h
def X12_strike_21 (G : kdS) : kdM → Option (Int32 × kdM) :=
  rt (-2 : Int32)
set_option maxRecDepth 100000 in
set_option maxHeartbeats 4000000 in
theorem wX12_strike_21 {E : kdE} {G : kdS} {A : kdA} {r : Int32} {σ1 : kdM} (hX : kdX E A cX12_strike 4 RX12 (some .int) 2) {σ : kdM} (h : X12_strike_21 G  σ = some (r, σ1)) : SW E G (.inl (some (.int r), σ1)) A 4 σ 21 [] [] := by
  unfold X12_strike_21 at h
  refine r_bipush hX dX12_strike_21 kk_b_m2 ?_
  exact r_iret hX dX12_strike_23 h
def X12_strike_41B (G : kdS) (k41 : Nat → Int32 → Int32 → Int32 → kdM → Option (Int32 × kdM)) (l0 : Nat) (l1 : Int32) (l2 : Int32) (l3 : Int32) : kdM → Option (Int32 × kdM) :=
  cnd (l3 ≤ l1)
    (gR G 12 16 l0 fun t1 =>
    tI G t1 (l1) (l2) <|
    gI G 12 17 l0 fun t2 =>
    sI G 12 17 l0 ((t2 + (1 : Int32))) <|
    gI G 12 17 l0 fun t3 =>
    rt t3)
    (gR G 12 16 l0 fun t4 =>
    gR G 12 16 l0 fun t5 =>
    aI G t5 ((l3 - (1 : Int32))) fun t6 =>
    tI G t4 (l3) (t6) <|
    ltI (l3 + Int32.ofInt (-1)) fun t7 =>
    k41 l0 l1 l2 t7)
set_option maxRecDepth 100000 in
set_option maxHeartbeats 4000000 in
theorem wX12_strike_41B {E : kdE} {G : kdS} {A : kdA} {r : Int32} {σ1 : kdM} (hX : kdX E A cX12_strike 4 RX12 (some .int) 2) (k41 : Nat → Int32 → Int32 → Int32 → kdM → Option (Int32 × kdM)) (hk41 : ∀ (l0 : Nat) (l1 : Int32) (l2 : Int32) (l3 : Int32) (σ : kdM), k41 l0 l1 l2 l3 σ = some (r, σ1) → SW E G (.inl (some (.int r), σ1)) A 4 σ 41 [(0, kr E l0), (1, .int l1), (2, .int l2), (3, .int l3)] []) {σ : kdM} {l0 : Nat} {l1 : Int32} {l2 : Int32} {l3 : Int32} (h : X12_strike_41B G k41 l0 l1 l2 l3 σ = some (r, σ1)) : SW E G (.inl (some (.int r), σ1)) A 4 σ 41 [(0, kr E l0), (1, .int l1), (2, .int l2), (3, .int l3)] [] := by
  unfold X12_strike_41B at h
  refine r_iload_n hX dX12_strike_41 rfl 3 rfl ?_
  refine r_iload_n hX dX12_strike_42 rfl 1 rfl ?_
  refine r_icmp_le (tgt := 66) hX dX12_strike_43 (by decide) h ?_ ?_
  · clear h; intro h
    refine r_aload_n hX dX12_strike_66 rfl 0 rfl ?_
    refine r_gR hX dX12_strike_67 kf_X12_50 rfl h ?_
    clear h; intro t1 h
    refine r_iload_n hX dX12_strike_70 rfl 1 rfl ?_
    refine r_iload_n hX dX12_strike_71 rfl 2 rfl ?_
    refine r_tI hX dX12_strike_72 h ?_
    clear h; intro σ h
    refine r_aload_n hX dX12_strike_73 rfl 0 rfl ?_
    refine r_dup hX dX12_strike_74 rfl ?_
    refine r_gI hX dX12_strike_75 kf_X12_218 rfl h ?_
    clear h; intro t2 h
    refine r_iconst hX dX12_strike_78 kk_i_1 ?_
    refine r_iadd hX dX12_strike_79 ?_
    refine r_sI hX dX12_strike_80 kf_X12_218 rfl (by intro q hq; cases hq; rfl) h ?_
    clear h; intro σ h
    refine r_aload_n hX dX12_strike_83 rfl 0 rfl ?_
    refine r_gI hX dX12_strike_84 kf_X12_218 rfl h ?_
    clear h; intro t3 h
    exact r_iret hX dX12_strike_87 h
  · clear h; intro h
    refine r_aload_n hX dX12_strike_46 rfl 0 rfl ?_
    refine r_gR hX dX12_strike_47 kf_X12_50 rfl h ?_
    clear h; intro t4 h
    refine r_iload_n hX dX12_strike_50 rfl 3 rfl ?_
    refine r_aload_n hX dX12_strike_51 rfl 0 rfl ?_
    refine r_gR hX dX12_strike_52 kf_X12_50 rfl h ?_
    clear h; intro t5 h
    refine r_iload_n hX dX12_strike_55 rfl 3 rfl ?_
    refine r_iconst hX dX12_strike_56 kk_i_1 ?_
    refine r_isub hX dX12_strike_57 ?_
    refine r_aI hX dX12_strike_58 h ?_
    clear h; intro t6 h
    refine r_tI hX dX12_strike_59 h ?_
    clear h; intro σ h
    refine r_iincL (L2 := fun t7 => [(3, .int t7), (0, kr E l0), (1, .int l1), (2, .int l2)]) hX dX12_strike_60 h 3 rfl (by decide) (fun _ => rfl) ?_
    clear h; intro t7 h
    refine r_goto (tgt := 41) hX dX12_strike_63 (by decide) ?_
    refine r_sub [1, 2, 3, 0] rfl ?_
    exact hk41 _ _ _ _ _ h
def X12_strike_41 (G : kdS) : Nat → Int32 → Int32 → Int32 → kdM → Option (Int32 × kdM) := lp (fun _ _ _ _ _ => none) (X12_strike_41B G) NN
theorem wX12_strike_41 {E : kdE} {G : kdS} {A : kdA} {r : Int32} {σ1 : kdM} (hX : kdX E A cX12_strike 4 RX12 (some .int) 2) : ∀ (l0 : Nat) (l1 : Int32) (l2 : Int32) (l3 : Int32) (σ : kdM), X12_strike_41 G l0 l1 l2 l3 σ = some (r, σ1) → SW E G (.inl (some (.int r), σ1)) A 4 σ 41 [(0, kr E l0), (1, .int l1), (2, .int l2), (3, .int l3)] [] :=
  lp_ind (Q := fun f => ∀ (l0 : Nat) (l1 : Int32) (l2 : Int32) (l3 : Int32) (σ : kdM), f l0 l1 l2 l3 σ = some (r, σ1) → SW E G (.inl (some (.int r), σ1)) A 4 σ 41 [(0, kr E l0), (1, .int l1), (2, .int l2), (3, .int l3)] []) (by intros; contradiction) (fun k hk l0 l1 l2 l3 σ h => wX12_strike_41B hX k hk h) NN
def X12_strike (G : kdS) (l0 : Nat) (l1 : Int32) (l2 : Int32) : kdM → Option (Int32 × kdM) :=
  gI G 12 17 l0 fun t1 =>
  kcl (X12_in G (Int32.toInt64 l1) (0 : Int64) (Int32.toInt64 t1)) fun t2 =>
  cnd (t2 = 0)
    (X12_strike_21 G )
    (kcl (X12_isKey G l2) fun t3 =>
    cnd (t3 = 0)
      (X12_strike_21 G )
      (gI G 12 17 l0 fun t4 =>
      cnd (t4 = (40 : Int32))
        (rt (-4 : Int32))
        (gI G 12 17 l0 fun t5 =>
        X12_strike_41 G l0 l1 l2 t5)))
set_option maxRecDepth 100000 in
set_option maxHeartbeats 4000000 in
theorem wX12_strike {E : kdE} {G : kdS} {l0 : Nat} {l1 : Int32} {l2 : Int32} {σ : kdM} {r : Int32} {σ1 : kdM} (h : X12_strike G l0 l1 l2 σ = some (r, σ1)) : Con E G yX12_strike cX12_strike 4 (some .int) 2 [kr E l0, .int l1, .int l2] σ (some (.int r), σ1) := by
  refine kd_head (own := RX12) rfl (by decide +kernel) (Nat.le_of_ble_eq_true rfl) (fun A hX => ?_)
  show SW E G (.inl (some (.int r), σ1)) A 4 σ 0 [(0, kr E l0), (1, .int l1), (2, .int l2)] []
  unfold X12_strike at h
  refine r_iload_n hX dX12_strike_0 rfl 1 rfl ?_
  refine r_i2l hX dX12_strike_1 ?_
  refine r_lconst hX dX12_strike_2 kk_l_0 ?_
  refine r_aload_n hX dX12_strike_3 rfl 0 rfl ?_
  refine r_gI hX dX12_strike_4 kf_X12_218 rfl h ?_
  clear h; intro t1 h
  refine r_i2l hX dX12_strike_7 ?_
  refine r_cSi (As := [.long (Int32.toInt64 l1), .long (0 : Int64), .long (Int32.toInt64 t1)]) (st := []) hX dX12_strike_8 kl_X12_in w_ml_X12_178 w_st_X12_in (by decide) rfl (Nat.le_of_ble_eq_true rfl) rfl kdz0 h (fun r σ1 h => wX12_in h) ?_
  clear h; intro t2 σ h
  refine r_if_eq (tgt := 21) hX dX12_strike_11 (by decide) h ?_ ?_
  · clear h; intro h
    refine r_sub [] rfl ?_
    exact wX12_strike_21 hX h
  · clear h; intro h
    refine r_iload_n hX dX12_strike_14 rfl 2 rfl ?_
    refine r_cSi (As := [.int l2]) (st := []) hX dX12_strike_15 kl_X12_isKey w_ml_X12_221 w_st_X12_isKey (by decide) rfl (Nat.le_of_ble_eq_true rfl) rfl kdz0 h (fun r σ1 h => wX12_isKey h) ?_
    clear h; intro t3 σ h
    refine r_if_ne (tgt := 24) hX dX12_strike_18 (by decide) h ?_ ?_
    · clear h; intro h
      refine r_sub [] rfl ?_
      exact wX12_strike_21 hX h
    · clear h; intro h
      refine r_aload_n hX dX12_strike_24 rfl 0 rfl ?_
      refine r_gI hX dX12_strike_25 kf_X12_218 rfl h ?_
      clear h; intro t4 h
      refine r_bipush hX dX12_strike_28 kk_b_40 ?_
      refine r_icmp_ne (tgt := 36) hX dX12_strike_30 (by decide) h ?_ ?_
      · clear h; intro h
        refine r_bipush hX dX12_strike_33 kk_b_m4 ?_
        exact r_iret hX dX12_strike_35 h
      · clear h; intro h
        refine r_aload_n hX dX12_strike_36 rfl 0 rfl ?_
        refine r_gI hX dX12_strike_37 kf_X12_218 rfl h ?_
        clear h; intro t5 h
        refine r_istore_n (L2 := [(3, .int t5), (0, kr E l0), (1, .int l1), (2, .int l2)]) hX dX12_strike_40 rfl (by decide) rfl ?_
        refine r_sub [1, 2, 3, 0] rfl ?_
        exact wX12_strike_41 hX _ _ _ _ _ h
