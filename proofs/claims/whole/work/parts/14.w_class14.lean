def X11_stands_67 (G : kdS) (s0 : Int32) : kdM → Option (Int32 × kdM) :=
  rt s0
set_option maxRecDepth 100000 in
set_option maxHeartbeats 4000000 in
theorem wX11_stands_67 {E : kdE} {G : kdS} {A : kdA} {r : Int32} {σ1 : kdM} (hX : kdX E A cX11_stands 2 RX11 (some .int) 5) {σ : kdM} {s0 : Int32} (h : X11_stands_67 G s0 σ = some (r, σ1)) : SW E G (.inl (some (.int r), σ1)) A 2 σ 67 [] [.int s0] := by
  unfold X11_stands_67 at h
  exact r_iret hX dX11_stands_67 h
def X11_stands (G : kdS) (l0 : Nat) (l1 : Int32) : kdM → Option (Int32 × kdM) :=
  cnd ((-1 : Int32) ≤ l1)
    (gR G 11 3 l0 fun t1 =>
    kcv G 11 l0 (X11_tongueOfLine G l0) fun t2 =>
    kcv G 4 t1 (X4_write G t1 t2) fun _ =>
    cnd (l1 = (-1 : Int32))
      (gR G 11 3 l0 fun t3 =>
      kcv G 4 t3 (X4_signs G t3) fun t4 =>
      kcv G 6 t4 (X6_size G t4) fun t5 =>
      rt t5)
      (gR G 11 3 l0 fun t6 =>
      kcv G 4 t6 (X4_signs G t6) fun t7 =>
      kcv G 6 t7 (X6_has G t7 l1) fun t8 =>
      cnd (t8 = 0)
        (X11_stands_67 G (-1006 : Int32))
        (gR G 11 3 l0 fun t9 =>
        kcv G 4 t9 (X4_signs G t9) fun t10 =>
        kcv G 6 t10 (X6_at G t10 l1) fun t11 =>
        X11_stands_67 G t11)))
    (rt (-1002 : Int32))
set_option maxRecDepth 100000 in
set_option maxHeartbeats 4000000 in
theorem wX11_stands {E : kdE} {G : kdS} {l0 : Nat} {l1 : Int32} {σ : kdM} {r : Int32} {σ1 : kdM} (h : X11_stands G l0 l1 σ = some (r, σ1)) : Con E G yX11_stands cX11_stands 2 (some .int) 5 [kr E l0, .int l1] σ (some (.int r), σ1) := by
  refine kd_head (own := RX11) rfl (by decide +kernel) (Nat.le_of_ble_eq_true rfl) (fun A hX => ?_)
  show SW E G (.inl (some (.int r), σ1)) A 2 σ 0 [(0, kr E l0), (1, .int l1)] []
  unfold X11_stands at h
  refine r_iload_n hX dX11_stands_0 rfl 1 rfl ?_
  refine r_iconst hX dX11_stands_1 kk_i_m1 ?_
  refine r_icmp_ge (tgt := 9) hX dX11_stands_2 (by decide) h ?_ ?_
  · clear h; intro h
    refine r_aload_n hX dX11_stands_9 rfl 0 rfl ?_
    refine r_gR hX dX11_stands_10 kf_X11_31 rfl h ?_
    clear h; intro t1 h
    refine r_aload_n hX dX11_stands_13 rfl 0 rfl ?_
    refine r_cVa (As := []) (st := [kr E t1]) hX dX11_stands_14 kl_X11_tongueOfLine w_ml_X11_183 w_im_X11_tongueOfLine w_se_X11_tongueOfLine ⟨_, _, rfl⟩ (by decide) rfl (Nat.le_of_ble_eq_true rfl) rfl kdz0 h (fun r σ1 h => wX11_tongueOfLine h) ?_
    clear h; intro t2 σ h
    refine r_cVv (As := [kr E t2]) (st := []) hX dX11_stands_17 kl_X4_write w_ml_X11_187 w_im_X4_write w_se_X4_write ⟨_, _, rfl⟩ (by decide) rfl (Nat.le_of_ble_eq_true rfl) rfl kdz0 h (fun r σ1 h => wX4_write h) ?_
    clear h; intro u σ h
    refine r_iload_n hX dX11_stands_20 rfl 1 rfl ?_
    refine r_iconst hX dX11_stands_21 kk_i_m1 ?_
    refine r_icmp_ne (tgt := 36) hX dX11_stands_22 (by decide) h ?_ ?_
    · clear h; intro h
      refine r_aload_n hX dX11_stands_25 rfl 0 rfl ?_
      refine r_gR hX dX11_stands_26 kf_X11_31 rfl h ?_
      clear h; intro t3 h
      refine r_cVa (As := []) (st := []) hX dX11_stands_29 kl_X4_signs w_ml_X11_191 w_im_X4_signs w_se_X4_signs ⟨_, _, rfl⟩ (by decide) rfl (Nat.le_of_ble_eq_true rfl) rfl kdz0 h (fun r σ1 h => wX4_signs h) ?_
      clear h; intro t4 σ h
      refine r_cVi (As := []) (st := []) hX dX11_stands_32 kl_X6_size w_ml_X11_108 w_im_X6_size w_se_X6_size ⟨_, _, rfl⟩ (by decide) rfl (Nat.le_of_ble_eq_true rfl) rfl kdz0 h (fun r σ1 h => wX6_size h) ?_
      clear h; intro t5 σ h
      exact r_iret hX dX11_stands_35 h
    · clear h; intro h
      refine r_aload_n hX dX11_stands_36 rfl 0 rfl ?_
      refine r_gR hX dX11_stands_37 kf_X11_31 rfl h ?_
      clear h; intro t6 h
      refine r_cVa (As := []) (st := []) hX dX11_stands_40 kl_X4_signs w_ml_X11_191 w_im_X4_signs w_se_X4_signs ⟨_, _, rfl⟩ (by decide) rfl (Nat.le_of_ble_eq_true rfl) rfl kdz0 h (fun r σ1 h => wX4_signs h) ?_
      clear h; intro t7 σ h
      refine r_iload_n hX dX11_stands_43 rfl 1 rfl ?_
      refine r_cVi (As := [.int l1]) (st := []) hX dX11_stands_44 kl_X6_has w_ml_X11_173 w_im_X6_has w_se_X6_has ⟨_, _, rfl⟩ (by decide) rfl (Nat.le_of_ble_eq_true rfl) rfl kdz0 h (fun r σ1 h => wX6_has h) ?_
      clear h; intro t8 σ h
      refine r_if_eq (tgt := 64) hX dX11_stands_47 (by decide) h ?_ ?_
      · clear h; intro h
        refine r_sipush hX dX11_stands_64 kk_s_m1006 ?_
        refine r_sub [] rfl ?_
        exact wX11_stands_67 hX h
      · clear h; intro h
        refine r_aload_n hX dX11_stands_50 rfl 0 rfl ?_
        refine r_gR hX dX11_stands_51 kf_X11_31 rfl h ?_
        clear h; intro t9 h
        refine r_cVa (As := []) (st := []) hX dX11_stands_54 kl_X4_signs w_ml_X11_191 w_im_X4_signs w_se_X4_signs ⟨_, _, rfl⟩ (by decide) rfl (Nat.le_of_ble_eq_true rfl) rfl kdz0 h (fun r σ1 h => wX4_signs h) ?_
        clear h; intro t10 σ h
        refine r_iload_n hX dX11_stands_57 rfl 1 rfl ?_
        refine r_cVi (As := [.int l1]) (st := []) hX dX11_stands_58 kl_X6_at w_ml_X11_194 w_im_X6_at w_se_X6_at ⟨_, _, rfl⟩ (by decide) rfl (Nat.le_of_ble_eq_true rfl) rfl kdz0 h (fun r σ1 h => wX6_at h) ?_
        clear h; intro t11 σ h
        refine r_goto (tgt := 67) hX dX11_stands_61 (by decide) ?_
        refine r_sub [] rfl ?_
        exact wX11_stands_67 hX h
  · clear h; intro h
    refine r_sipush hX dX11_stands_5 kk_s_m1002 ?_
    exact r_iret hX dX11_stands_8 h
def X11_piece (G : kdS) (l0 : Nat) (l1 : Int32) : kdM → Option (Int32 × kdM) :=
  gR G 11 3 l0 fun t1 =>
  kcv G 11 l0 (X11_tongueOfLine G l0) fun t2 =>
  kcv G 4 t1 (X4_cut G t1 t2) fun _ =>
  gR G 11 3 l0 fun t3 =>
  kcv G 4 t3 (X4_pieceAt G t3 l1) fun t4 =>
  rt t4
set_option maxRecDepth 100000 in
set_option maxHeartbeats 4000000 in
theorem wX11_piece {E : kdE} {G : kdS} {l0 : Nat} {l1 : Int32} {σ : kdM} {r : Int32} {σ1 : kdM} (h : X11_piece G l0 l1 σ = some (r, σ1)) : Con E G yX11_piece cX11_piece 2 (some .int) 4 [kr E l0, .int l1] σ (some (.int r), σ1) := by
  refine kd_head (own := RX11) rfl (by decide +kernel) (Nat.le_of_ble_eq_true rfl) (fun A hX => ?_)
  show SW E G (.inl (some (.int r), σ1)) A 2 σ 0 [(0, kr E l0), (1, .int l1)] []
  unfold X11_piece at h
  refine r_aload_n hX dX11_piece_0 rfl 0 rfl ?_
  refine r_gR hX dX11_piece_1 kf_X11_31 rfl h ?_
  clear h; intro t1 h
  refine r_aload_n hX dX11_piece_4 rfl 0 rfl ?_
  refine r_cVa (As := []) (st := [kr E t1]) hX dX11_piece_5 kl_X11_tongueOfLine w_ml_X11_183 w_im_X11_tongueOfLine w_se_X11_tongueOfLine ⟨_, _, rfl⟩ (by decide) rfl (Nat.le_of_ble_eq_true rfl) rfl kdz0 h (fun r σ1 h => wX11_tongueOfLine h) ?_
  clear h; intro t2 σ h
  refine r_cVv (As := [kr E t2]) (st := []) hX dX11_piece_8 kl_X4_cut w_ml_X11_197 w_im_X4_cut w_se_X4_cut ⟨_, _, rfl⟩ (by decide) rfl (Nat.le_of_ble_eq_true rfl) rfl kdz0 h (fun r σ1 h => wX4_cut h) ?_
  clear h; intro u σ h
  refine r_aload_n hX dX11_piece_11 rfl 0 rfl ?_
  refine r_gR hX dX11_piece_12 kf_X11_31 rfl h ?_
  clear h; intro t3 h
  refine r_iload_n hX dX11_piece_15 rfl 1 rfl ?_
  refine r_cVi (As := [.int l1]) (st := []) hX dX11_piece_16 kl_X4_pieceAt w_ml_X11_200 w_im_X4_pieceAt w_se_X4_pieceAt ⟨_, _, rfl⟩ (by decide) rfl (Nat.le_of_ble_eq_true rfl) rfl kdz0 h (fun r σ1 h => wX4_pieceAt h) ?_
  clear h; intro t4 σ h
  exact r_iret hX dX11_piece_19 h
def X11_could (G : kdS) (l0 : Nat) : kdM → Option (Int32 × kdM) :=
  gR G 11 3 l0 fun t1 =>
  kcv G 11 l0 (X11_tongueOfLine G l0) fun t2 =>
  kcv G 4 t1 (X4_onward G t1 t2) fun t3 =>
  rt t3
set_option maxRecDepth 100000 in
set_option maxHeartbeats 4000000 in
theorem wX11_could {E : kdE} {G : kdS} {l0 : Nat} {σ : kdM} {r : Int32} {σ1 : kdM} (h : X11_could G l0 σ = some (r, σ1)) : Con E G yX11_could cX11_could 1 (some .int) 5 [kr E l0] σ (some (.int r), σ1) := by
  refine kd_head (own := RX11) rfl (by decide +kernel) (Nat.le_of_ble_eq_true rfl) (fun A hX => ?_)
  show SW E G (.inl (some (.int r), σ1)) A 1 σ 0 [(0, kr E l0)] []
  unfold X11_could at h
  refine r_aload_n hX dX11_could_0 rfl 0 rfl ?_
  refine r_gR hX dX11_could_1 kf_X11_31 rfl h ?_
  clear h; intro t1 h
  refine r_aload_n hX dX11_could_4 rfl 0 rfl ?_
  refine r_cVa (As := []) (st := [kr E t1]) hX dX11_could_5 kl_X11_tongueOfLine w_ml_X11_183 w_im_X11_tongueOfLine w_se_X11_tongueOfLine ⟨_, _, rfl⟩ (by decide) rfl (Nat.le_of_ble_eq_true rfl) rfl kdz0 h (fun r σ1 h => wX11_tongueOfLine h) ?_
  clear h; intro t2 σ h
  refine r_cVi (As := [kr E t2]) (st := []) hX dX11_could_8 kl_X4_onward w_ml_X11_203 w_im_X4_onward w_se_X4_onward ⟨_, _, rfl⟩ (by decide) rfl (Nat.le_of_ble_eq_true rfl) rfl kdz0 h (fun r σ1 h => wX4_onward h) ?_
  clear h; intro t3 σ h
  exact r_iret hX dX11_could_11 h
def X11_word_30 (G : kdS) : kdM → Option (Int32 × kdM) :=
  rt (-2 : Int32)
set_option maxRecDepth 100000 in
set_option maxHeartbeats 4000000 in
theorem wX11_word_30 {E : kdE} {G : kdS} {A : kdA} {r : Int32} {σ1 : kdM} (hX : kdX E A cX11_word 5 RX11 (some .int) 5) {σ : kdM} (h : X11_word_30 G  σ = some (r, σ1)) : SW E G (.inl (some (.int r), σ1)) A 5 σ 30 [] [] := by
  unfold X11_word_30 at h
  refine r_bipush hX dX11_word_30 kk_b_m2 ?_
  exact r_iret hX dX11_word_32 h
def X11_word_68 (G : kdS) : kdM → Option (Int32 × kdM) :=
  rt (-5 : Int32)
set_option maxRecDepth 100000 in
set_option maxHeartbeats 4000000 in
theorem wX11_word_68 {E : kdE} {G : kdS} {A : kdA} {r : Int32} {σ1 : kdM} (hX : kdX E A cX11_word 5 RX11 (some .int) 5) {σ : kdM} (h : X11_word_68 G  σ = some (r, σ1)) : SW E G (.inl (some (.int r), σ1)) A 5 σ 68 [] [] := by
  unfold X11_word_68 at h
  refine r_bipush hX dX11_word_68 kk_b_m5 ?_
  exact r_iret hX dX11_word_70 h
def X11_word (G : kdS) (l0 : Nat) (l1 : Int32) (l2 : Int32) (l3 : Int32) : kdM → Option (Int32 × kdM) :=
  kcl (X11_isTongue G l1) fun t1 =>
  cnd (t1 = 0)
    (rt (-1 : Int32))
    (kcl (X11_within G l2 (1 : Int32) (999 : Int32)) fun t2 =>
    cnd (t2 = 0)
      (X11_word_30 G )
      (kcl (X11_within G l3 (1 : Int32) (100 : Int32)) fun t3 =>
      cnd (t3 = 0)
        (X11_word_30 G )
        (gR G 11 4 l0 fun t4 =>
        kcv G 10 t4 (X10_isFull G t4) fun t5 =>
        cnd (t5 = 0)
          (gR G 11 0 l0 fun t6 =>
          kcv G 6 t6 (X6_isEmpty G t6) fun t7 =>
          cnd (t7 = 0)
            (gR G 11 0 l0 fun t8 =>
            kcv G 6 t8 (X6_size G t8) fun t9 =>
            cnd (t9 ≤ (8 : Int32))
              (gR G 11 4 l0 fun t10 =>
              gR G 11 0 l0 fun t11 =>
              kcv G 10 t10 (X10_addWord G t10 l1 l2 l3 t11) fun t12 =>
              gR G 11 0 l0 fun t13 =>
              kcv G 6 t13 (X6_clear G t13) fun t14 =>
              rt t12)
              (X11_word_68 G ))
            (X11_word_68 G ))
          (rt (-4 : Int32)))))
set_option maxRecDepth 100000 in
set_option maxHeartbeats 4000000 in
theorem wX11_word {E : kdE} {G : kdS} {l0 : Nat} {l1 : Int32} {l2 : Int32} {l3 : Int32} {σ : kdM} {r : Int32} {σ1 : kdM} (h : X11_word G l0 l1 l2 l3 σ = some (r, σ1)) : Con E G yX11_word cX11_word 5 (some .int) 5 [kr E l0, .int l1, .int l2, .int l3] σ (some (.int r), σ1) := by
  refine kd_head (own := RX11) rfl (by decide +kernel) (Nat.le_of_ble_eq_true rfl) (fun A hX => ?_)
  show SW E G (.inl (some (.int r), σ1)) A 5 σ 0 [(0, kr E l0), (1, .int l1), (2, .int l2), (3, .int l3)] []
  unfold X11_word at h
  refine r_iload_n hX dX11_word_0 rfl 1 rfl ?_
  refine r_cSi (As := [.int l1]) (st := []) hX dX11_word_1 kl_X11_isTongue w_ml_X11_121 w_st_X11_isTongue (by decide) rfl (Nat.le_of_ble_eq_true rfl) rfl kdz0 h (fun r σ1 h => wX11_isTongue h) ?_
  clear h; intro t1 σ h
  refine r_if_ne (tgt := 9) hX dX11_word_4 (by decide) h ?_ ?_
  · clear h; intro h
    refine r_iconst hX dX11_word_7 kk_i_m1 ?_
    exact r_iret hX dX11_word_8 h
  · clear h; intro h
    refine r_iload_n hX dX11_word_9 rfl 2 rfl ?_
    refine r_iconst hX dX11_word_10 kk_i_1 ?_
    refine r_sipush hX dX11_word_11 kk_s_999 ?_
    refine r_cSi (As := [.int l2, .int (1 : Int32), .int (999 : Int32)]) (st := []) hX dX11_word_14 kl_X11_within w_ml_X11_165 w_st_X11_within (by decide) rfl (Nat.le_of_ble_eq_true rfl) rfl kdz0 h (fun r σ1 h => wX11_within h) ?_
    clear h; intro t2 σ h
    refine r_if_eq (tgt := 30) hX dX11_word_17 (by decide) h ?_ ?_
    · clear h; intro h
      refine r_sub [] rfl ?_
      exact wX11_word_30 hX h
    · clear h; intro h
      refine r_iload_n hX dX11_word_20 rfl 3 rfl ?_
      refine r_iconst hX dX11_word_21 kk_i_1 ?_
      refine r_bipush hX dX11_word_22 kk_b_100 ?_
      refine r_cSi (As := [.int l3, .int (1 : Int32), .int (100 : Int32)]) (st := []) hX dX11_word_24 kl_X11_within w_ml_X11_165 w_st_X11_within (by decide) rfl (Nat.le_of_ble_eq_true rfl) rfl kdz0 h (fun r σ1 h => wX11_within h) ?_
      clear h; intro t3 σ h
      refine r_if_ne (tgt := 33) hX dX11_word_27 (by decide) h ?_ ?_
      · clear h; intro h
        refine r_sub [] rfl ?_
        exact wX11_word_30 hX h
      · clear h; intro h
        refine r_aload_n hX dX11_word_33 rfl 0 rfl ?_
        refine r_gR hX dX11_word_34 kf_X11_38 rfl h ?_
        clear h; intro t4 h
        refine r_cVi (As := []) (st := []) hX dX11_word_37 kl_X10_isFull w_ml_X11_207 w_im_X10_isFull w_se_X10_isFull ⟨_, _, rfl⟩ (by decide) rfl (Nat.le_of_ble_eq_true rfl) rfl kdz0 h (fun r σ1 h => wX10_isFull h) ?_
        clear h; intro t5 σ h
        refine r_if_eq (tgt := 46) hX dX11_word_40 (by decide) h ?_ ?_
        · clear h; intro h
          refine r_aload_n hX dX11_word_46 rfl 0 rfl ?_
          refine r_gR hX dX11_word_47 kf_X11_14 rfl h ?_
          clear h; intro t6 h
          refine r_cVi (As := []) (st := []) hX dX11_word_50 kl_X6_isEmpty w_ml_X11_127 w_im_X6_isEmpty w_se_X6_isEmpty ⟨_, _, rfl⟩ (by decide) rfl (Nat.le_of_ble_eq_true rfl) rfl kdz0 h (fun r σ1 h => wX6_isEmpty h) ?_
          clear h; intro t7 σ h
          refine r_if_ne (tgt := 68) hX dX11_word_53 (by decide) h ?_ ?_
          · clear h; intro h
            refine r_aload_n hX dX11_word_56 rfl 0 rfl ?_
            refine r_gR hX dX11_word_57 kf_X11_14 rfl h ?_
            clear h; intro t8 h
            refine r_cVi (As := []) (st := []) hX dX11_word_60 kl_X6_size w_ml_X11_108 w_im_X6_size w_se_X6_size ⟨_, _, rfl⟩ (by decide) rfl (Nat.le_of_ble_eq_true rfl) rfl kdz0 h (fun r σ1 h => wX6_size h) ?_
            clear h; intro t9 σ h
            refine r_bipush hX dX11_word_63 kk_b_8 ?_
            refine r_icmp_le (tgt := 71) hX dX11_word_65 (by decide) h ?_ ?_
            · clear h; intro h
              refine r_aload_n hX dX11_word_71 rfl 0 rfl ?_
              refine r_gR hX dX11_word_72 kf_X11_38 rfl h ?_
              clear h; intro t10 h
              refine r_iload_n hX dX11_word_75 rfl 1 rfl ?_
              refine r_iload_n hX dX11_word_76 rfl 2 rfl ?_
              refine r_iload_n hX dX11_word_77 rfl 3 rfl ?_
              refine r_aload_n hX dX11_word_78 rfl 0 rfl ?_
              refine r_gR hX dX11_word_79 kf_X11_14 rfl h ?_
              clear h; intro t11 h
              refine r_cVi (As := [.int l1, .int l2, .int l3, kr E t11]) (st := []) hX dX11_word_82 kl_X10_addWord w_ml_X11_208 w_im_X10_addWord w_se_X10_addWord ⟨_, _, rfl⟩ (by decide) rfl (Nat.le_of_ble_eq_true rfl) rfl kdz0 h (fun r σ1 h => wX10_addWord h) ?_
              clear h; intro t12 σ h
              refine r_istore (L2 := [(4, .int t12), (0, kr E l0), (1, .int l1), (2, .int l2), (3, .int l3)]) hX dX11_word_85 (by decide) rfl ?_
              refine r_aload_n hX dX11_word_87 rfl 1 rfl ?_
              refine r_gR hX dX11_word_88 kf_X11_14 rfl h ?_
              clear h; intro t13 h
              refine r_cVi (As := []) (st := []) hX dX11_word_91 kl_X6_clear w_ml_X11_115 w_im_X6_clear w_se_X6_clear ⟨_, _, rfl⟩ (by decide) rfl (Nat.le_of_ble_eq_true rfl) rfl kdz0 h (fun r σ1 h => wX6_clear h) ?_
              clear h; intro t14 σ h
              refine r_pop hX dX11_word_94 rfl ?_
              refine r_iload hX dX11_word_95 0 rfl ?_
              exact r_iret hX dX11_word_97 h
            · clear h; intro h
              refine r_sub [] rfl ?_
              exact wX11_word_68 hX h
          · clear h; intro h
            refine r_sub [] rfl ?_
            exact wX11_word_68 hX h
        · clear h; intro h
          refine r_bipush hX dX11_word_43 kk_b_m4 ?_
          exact r_iret hX dX11_word_45 h
def X11_ofWord_130 (G : kdS) (s0 : Int32) : kdM → Option (Int32 × kdM) :=
  rt s0
set_option maxRecDepth 100000 in
set_option maxHeartbeats 4000000 in
theorem wX11_ofWord_130 {E : kdE} {G : kdS} {A : kdA} {r : Int32} {σ1 : kdM} (hX : kdX E A cX11_ofWord 3 RX11 (some .int) 2) {σ : kdM} {s0 : Int32} (h : X11_ofWord_130 G s0 σ = some (r, σ1)) : SW E G (.inl (some (.int r), σ1)) A 3 σ 130 [] [.int s0] := by
  unfold X11_ofWord_130 at h
  exact r_iret hX dX11_ofWord_130 h
def X11_ofWord (G : kdS) (l0 : Nat) (l1 : Int32) (l2 : Int32) : kdM → Option (Int32 × kdM) :=
  gR G 11 4 l0 fun t1 =>
  kcv G 10 t1 (X10_has G t1 l1) fun t2 =>
  cnd (t2 = 0)
    (rt (-1 : Int32))
    (cnd (l2 = (0 : Int32))
      (gR G 11 4 l0 fun t3 =>
      kcv G 10 t3 (X10_tongueOf G t3 l1) fun t4 =>
      rt t4)
      (cnd (l2 = (1 : Int32))
        (gR G 11 4 l0 fun t5 =>
        kcv G 10 t5 (X10_signOf G t5 l1) fun t6 =>
        rt t6)
        (cnd (l2 = (2 : Int32))
          (gR G 11 4 l0 fun t7 =>
          kcv G 10 t7 (X10_countOf G t7 l1) fun t8 =>
          rt t8)
          (cnd (l2 = (3 : Int32))
            (gR G 11 4 l0 fun t9 =>
            kcv G 10 t9 (X10_keysOf G t9 l1) fun t10 =>
            kcv G 6 t10 (X6_size G t10) fun t11 =>
            rt t11)
            (cnd ((10 : Int32) ≤ l2)
              (gR G 11 4 l0 fun t12 =>
              kcv G 10 t12 (X10_keysOf G t12 l1) fun t13 =>
              kcv G 6 t13 (X6_has G t13 (l2 - (10 : Int32))) fun t14 =>
              cnd (t14 = 0)
                (X11_ofWord_130 G (-6 : Int32))
                (gR G 11 4 l0 fun t15 =>
                kcv G 10 t15 (X10_keysOf G t15 l1) fun t16 =>
                kcv G 6 t16 (X6_at G t16 (l2 - (10 : Int32))) fun t17 =>
                X11_ofWord_130 G t17))
              (rt (-2 : Int32)))))))
set_option maxRecDepth 100000 in
set_option maxHeartbeats 4000000 in
theorem wX11_ofWord {E : kdE} {G : kdS} {l0 : Nat} {l1 : Int32} {l2 : Int32} {σ : kdM} {r : Int32} {σ1 : kdM} (h : X11_ofWord G l0 l1 l2 σ = some (r, σ1)) : Con E G yX11_ofWord cX11_ofWord 3 (some .int) 2 [kr E l0, .int l1, .int l2] σ (some (.int r), σ1) := by
  refine kd_head (own := RX11) rfl (by decide +kernel) (Nat.le_of_ble_eq_true rfl) (fun A hX => ?_)
  show SW E G (.inl (some (.int r), σ1)) A 3 σ 0 [(0, kr E l0), (1, .int l1), (2, .int l2)] []
  unfold X11_ofWord at h
  refine r_aload_n hX dX11_ofWord_0 rfl 0 rfl ?_
  refine r_gR hX dX11_ofWord_1 kf_X11_38 rfl h ?_
  clear h; intro t1 h
  refine r_iload_n hX dX11_ofWord_4 rfl 1 rfl ?_
  refine r_cVi (As := [.int l1]) (st := []) hX dX11_ofWord_5 kl_X10_has w_ml_X11_212 w_im_X10_has w_se_X10_has ⟨_, _, rfl⟩ (by decide) rfl (Nat.le_of_ble_eq_true rfl) rfl kdz0 h (fun r σ1 h => wX10_has h) ?_
  clear h; intro t2 σ h
  refine r_if_ne (tgt := 13) hX dX11_ofWord_8 (by decide) h ?_ ?_
  · clear h; intro h
    refine r_iconst hX dX11_ofWord_11 kk_i_m1 ?_
    exact r_iret hX dX11_ofWord_12 h
  · clear h; intro h
    refine r_iload_n hX dX11_ofWord_13 rfl 2 rfl ?_
    refine r_case (q := l2 = (0 : Int32)) h ?_ ?_
    · clear h; intro hq h
      refine r_tsIn (tgt := 44) (off := 30) (v := (0 : Int32)) hX dX11_ofWord_14 hq (by decide) (by decide) (by decide +kernel) (by decide) ?_
      clear hq
      refine r_aload_n hX dX11_ofWord_44 rfl 0 rfl ?_
      refine r_gR hX dX11_ofWord_45 kf_X11_38 rfl h ?_
      clear h; intro t3 h
      refine r_iload_n hX dX11_ofWord_48 rfl 1 rfl ?_
      refine r_cVi (As := [.int l1]) (st := []) hX dX11_ofWord_49 kl_X10_tongueOf w_ml_X11_213 w_im_X10_tongueOf w_se_X10_tongueOf ⟨_, _, rfl⟩ (by decide) rfl (Nat.le_of_ble_eq_true rfl) rfl kdz0 h (fun r σ1 h => wX10_tongueOf h) ?_
      clear h; intro t4 σ h
      exact r_iret hX dX11_ofWord_52 h
    · clear h; intro hn0 h
      refine r_case (q := l2 = (1 : Int32)) h ?_ ?_
      · clear h; intro hq h
        refine r_tsIn (tgt := 53) (off := 39) (v := (1 : Int32)) hX dX11_ofWord_14 hq (by decide) (by decide) (by decide +kernel) (by decide) ?_
        clear hq
        refine r_aload_n hX dX11_ofWord_53 rfl 0 rfl ?_
        refine r_gR hX dX11_ofWord_54 kf_X11_38 rfl h ?_
        clear h; intro t5 h
        refine r_iload_n hX dX11_ofWord_57 rfl 1 rfl ?_
        refine r_cVi (As := [.int l1]) (st := []) hX dX11_ofWord_58 kl_X10_signOf w_ml_X11_216 w_im_X10_signOf w_se_X10_signOf ⟨_, _, rfl⟩ (by decide) rfl (Nat.le_of_ble_eq_true rfl) rfl kdz0 h (fun r σ1 h => wX10_signOf h) ?_
        clear h; intro t6 σ h
        exact r_iret hX dX11_ofWord_61 h
      · clear h; intro hn1 h
        refine r_case (q := l2 = (2 : Int32)) h ?_ ?_
        · clear h; intro hq h
          refine r_tsIn (tgt := 62) (off := 48) (v := (2 : Int32)) hX dX11_ofWord_14 hq (by decide) (by decide) (by decide +kernel) (by decide) ?_
          clear hq
          refine r_aload_n hX dX11_ofWord_62 rfl 0 rfl ?_
          refine r_gR hX dX11_ofWord_63 kf_X11_38 rfl h ?_
          clear h; intro t7 h
          refine r_iload_n hX dX11_ofWord_66 rfl 1 rfl ?_
          refine r_cVi (As := [.int l1]) (st := []) hX dX11_ofWord_67 kl_X10_countOf w_ml_X11_219 w_im_X10_countOf w_se_X10_countOf ⟨_, _, rfl⟩ (by decide) rfl (Nat.le_of_ble_eq_true rfl) rfl kdz0 h (fun r σ1 h => wX10_countOf h) ?_
          clear h; intro t8 σ h
          exact r_iret hX dX11_ofWord_70 h
        · clear h; intro hn2 h
          refine r_case (q := l2 = (3 : Int32)) h ?_ ?_
          · clear h; intro hq h
            refine r_tsIn (tgt := 71) (off := 57) (v := (3 : Int32)) hX dX11_ofWord_14 hq (by decide) (by decide) (by decide +kernel) (by decide) ?_
            clear hq
            refine r_aload_n hX dX11_ofWord_71 rfl 0 rfl ?_
            refine r_gR hX dX11_ofWord_72 kf_X11_38 rfl h ?_
            clear h; intro t9 h
            refine r_iload_n hX dX11_ofWord_75 rfl 1 rfl ?_
            refine r_cVa (As := [.int l1]) (st := []) hX dX11_ofWord_76 kl_X10_keysOf w_ml_X11_222 w_im_X10_keysOf w_se_X10_keysOf ⟨_, _, rfl⟩ (by decide) rfl (Nat.le_of_ble_eq_true rfl) rfl kdz0 h (fun r σ1 h => wX10_keysOf h) ?_
            clear h; intro t10 σ h
            refine r_cVi (As := []) (st := []) hX dX11_ofWord_79 kl_X6_size w_ml_X11_108 w_im_X6_size w_se_X6_size ⟨_, _, rfl⟩ (by decide) rfl (Nat.le_of_ble_eq_true rfl) rfl kdz0 h (fun r σ1 h => wX6_size h) ?_
            clear h; intro t11 σ h
            exact r_iret hX dX11_ofWord_82 h
          · clear h; intro hn3 h
            refine r_tsOut (tgt := 83) hX dX11_ofWord_14 (by have e0 := kd_ne (a := 0) hn0 (by decide); have e1 := kd_ne (a := 1) hn1 (by decide); have e2 := kd_ne (a := 2) hn2 (by decide); have e3 := kd_ne (a := 3) hn3 (by decide); omega) (by decide) ?_
            refine r_iload_n hX dX11_ofWord_83 rfl 2 rfl ?_
            refine r_bipush hX dX11_ofWord_84 kk_b_10 ?_
            refine r_icmp_ge (tgt := 92) hX dX11_ofWord_86 (by decide) h ?_ ?_
            · clear h; intro h
              refine r_aload_n hX dX11_ofWord_92 rfl 0 rfl ?_
              refine r_gR hX dX11_ofWord_93 kf_X11_38 rfl h ?_
              clear h; intro t12 h
              refine r_iload_n hX dX11_ofWord_96 rfl 1 rfl ?_
              refine r_cVa (As := [.int l1]) (st := []) hX dX11_ofWord_97 kl_X10_keysOf w_ml_X11_222 w_im_X10_keysOf w_se_X10_keysOf ⟨_, _, rfl⟩ (by decide) rfl (Nat.le_of_ble_eq_true rfl) rfl kdz0 h (fun r σ1 h => wX10_keysOf h) ?_
              clear h; intro t13 σ h
              refine r_iload_n hX dX11_ofWord_100 rfl 2 rfl ?_
              refine r_bipush hX dX11_ofWord_101 kk_b_10 ?_
              refine r_isub hX dX11_ofWord_103 ?_
              refine r_cVi (As := [.int (l2 - (10 : Int32))]) (st := []) hX dX11_ofWord_104 kl_X6_has w_ml_X11_173 w_im_X6_has w_se_X6_has ⟨_, _, rfl⟩ (by decide) rfl (Nat.le_of_ble_eq_true rfl) rfl kdz0 h (fun r σ1 h => wX6_has h) ?_
              clear h; intro t14 σ h
              refine r_if_eq (tgt := 128) hX dX11_ofWord_107 (by decide) h ?_ ?_
              · clear h; intro h
                refine r_bipush hX dX11_ofWord_128 kk_b_m6 ?_
                refine r_sub [] rfl ?_
                exact wX11_ofWord_130 hX h
              · clear h; intro h
                refine r_aload_n hX dX11_ofWord_110 rfl 0 rfl ?_
                refine r_gR hX dX11_ofWord_111 kf_X11_38 rfl h ?_
                clear h; intro t15 h
                refine r_iload_n hX dX11_ofWord_114 rfl 1 rfl ?_
                refine r_cVa (As := [.int l1]) (st := []) hX dX11_ofWord_115 kl_X10_keysOf w_ml_X11_222 w_im_X10_keysOf w_se_X10_keysOf ⟨_, _, rfl⟩ (by decide) rfl (Nat.le_of_ble_eq_true rfl) rfl kdz0 h (fun r σ1 h => wX10_keysOf h) ?_
                clear h; intro t16 σ h
                refine r_iload_n hX dX11_ofWord_118 rfl 2 rfl ?_
                refine r_bipush hX dX11_ofWord_119 kk_b_10 ?_
                refine r_isub hX dX11_ofWord_121 ?_
                refine r_cVi (As := [.int (l2 - (10 : Int32))]) (st := []) hX dX11_ofWord_122 kl_X6_at w_ml_X11_194 w_im_X6_at w_se_X6_at ⟨_, _, rfl⟩ (by decide) rfl (Nat.le_of_ble_eq_true rfl) rfl kdz0 h (fun r σ1 h => wX6_at h) ?_
                clear h; intro t17 σ h
                refine r_goto (tgt := 130) hX dX11_ofWord_125 (by decide) ?_
                refine r_sub [] rfl ?_
                exact wX11_ofWord_130 hX h
            · clear h; intro h
              refine r_bipush hX dX11_ofWord_89 kk_b_m2 ?_
              exact r_iret hX dX11_ofWord_91 h
def X11_count_37 (G : kdS) (s0 : Int32) : kdM → Option (Int32 × kdM) :=
  rt s0
set_option maxRecDepth 100000 in
set_option maxHeartbeats 4000000 in
theorem wX11_count_37 {E : kdE} {G : kdS} {A : kdA} {r : Int32} {σ1 : kdM} (hX : kdX E A cX11_count 3 RX11 (some .int) 3) {σ : kdM} {s0 : Int32} (h : X11_count_37 G s0 σ = some (r, σ1)) : SW E G (.inl (some (.int r), σ1)) A 3 σ 37 [] [.int s0] := by
  unfold X11_count_37 at h
  exact r_iret hX dX11_count_37 h
def X11_count (G : kdS) (l0 : Nat) (l1 : Int32) (l2 : Int32) : kdM → Option (Int32 × kdM) :=
  gR G 11 4 l0 fun t1 =>
  kcv G 10 t1 (X10_has G t1 l1) fun t2 =>
  cnd (t2 = 0)
    (rt (-1 : Int32))
    (kcl (X11_within G l2 (1 : Int32) (100 : Int32)) fun t3 =>
    cnd (t3 = 0)
      (X11_count_37 G (-2 : Int32))
      (gR G 11 4 l0 fun t4 =>
      kcv G 10 t4 (X10_setCount G t4 l1 l2) fun t5 =>
      X11_count_37 G t5))
set_option maxRecDepth 100000 in
set_option maxHeartbeats 4000000 in
theorem wX11_count {E : kdE} {G : kdS} {l0 : Nat} {l1 : Int32} {l2 : Int32} {σ : kdM} {r : Int32} {σ1 : kdM} (h : X11_count G l0 l1 l2 σ = some (r, σ1)) : Con E G yX11_count cX11_count 3 (some .int) 3 [kr E l0, .int l1, .int l2] σ (some (.int r), σ1) := by
  refine kd_head (own := RX11) rfl (by decide +kernel) (Nat.le_of_ble_eq_true rfl) (fun A hX => ?_)
  show SW E G (.inl (some (.int r), σ1)) A 3 σ 0 [(0, kr E l0), (1, .int l1), (2, .int l2)] []
  unfold X11_count at h
  refine r_aload_n hX dX11_count_0 rfl 0 rfl ?_
  refine r_gR hX dX11_count_1 kf_X11_38 rfl h ?_
  clear h; intro t1 h
  refine r_iload_n hX dX11_count_4 rfl 1 rfl ?_
  refine r_cVi (As := [.int l1]) (st := []) hX dX11_count_5 kl_X10_has w_ml_X11_212 w_im_X10_has w_se_X10_has ⟨_, _, rfl⟩ (by decide) rfl (Nat.le_of_ble_eq_true rfl) rfl kdz0 h (fun r σ1 h => wX10_has h) ?_
  clear h; intro t2 σ h
  refine r_if_ne (tgt := 13) hX dX11_count_8 (by decide) h ?_ ?_
  · clear h; intro h
    refine r_iconst hX dX11_count_11 kk_i_m1 ?_
    exact r_iret hX dX11_count_12 h
  · clear h; intro h
    refine r_iload_n hX dX11_count_13 rfl 2 rfl ?_
    refine r_iconst hX dX11_count_14 kk_i_1 ?_
    refine r_bipush hX dX11_count_15 kk_b_100 ?_
    refine r_cSi (As := [.int l2, .int (1 : Int32), .int (100 : Int32)]) (st := []) hX dX11_count_17 kl_X11_within w_ml_X11_165 w_st_X11_within (by decide) rfl (Nat.le_of_ble_eq_true rfl) rfl kdz0 h (fun r σ1 h => wX11_within h) ?_
    clear h; intro t3 σ h
    refine r_if_eq (tgt := 35) hX dX11_count_20 (by decide) h ?_ ?_
    · clear h; intro h
      refine r_bipush hX dX11_count_35 kk_b_m2 ?_
      refine r_sub [] rfl ?_
      exact wX11_count_37 hX h
    · clear h; intro h
      refine r_aload_n hX dX11_count_23 rfl 0 rfl ?_
      refine r_gR hX dX11_count_24 kf_X11_38 rfl h ?_
      clear h; intro t4 h
      refine r_iload_n hX dX11_count_27 rfl 1 rfl ?_
      refine r_iload_n hX dX11_count_28 rfl 2 rfl ?_
      refine r_cVi (As := [.int l1, .int l2]) (st := []) hX dX11_count_29 kl_X10_setCount w_ml_X11_226 w_im_X10_setCount w_se_X10_setCount ⟨_, _, rfl⟩ (by decide) rfl (Nat.le_of_ble_eq_true rfl) rfl kdz0 h (fun r σ1 h => wX10_setCount h) ?_
      clear h; intro t5 σ h
      refine r_goto (tgt := 37) hX dX11_count_32 (by decide) ?_
      refine r_sub [] rfl ?_
      exact wX11_count_37 hX h
def X11_price_28 (G : kdS) : kdM → Option (Int32 × kdM) :=
  rt (-2 : Int32)
set_option maxRecDepth 100000 in
set_option maxHeartbeats 4000000 in
theorem wX11_price_28 {E : kdE} {G : kdS} {A : kdA} {r : Int32} {σ1 : kdM} (hX : kdX E A cX11_price 3 RX11 (some .int) 1) {σ : kdM} (h : X11_price_28 G  σ = some (r, σ1)) : SW E G (.inl (some (.int r), σ1)) A 3 σ 28 [] [] := by
  unfold X11_price_28 at h
  refine r_bipush hX dX11_price_28 kk_b_m2 ?_
  exact r_iret hX dX11_price_30 h
def X11_price_20 (G : kdS) (l0 : Nat) (l1 : Int32) (l2 : Int32) (s0 : Int32) (s1 : Int32) : kdM → Option (Int32 × kdM) :=
  kcl (X11_within G s0 s1 (20 : Int32)) fun t1 =>
  cnd (t1 = 0)
    (X11_price_28 G )
    (gR G 11 5 l0 fun t2 =>
    kcv G 7 t2 (X7_setPrice G t2 l1 l2) fun t3 =>
    rt t3)
set_option maxRecDepth 100000 in
set_option maxHeartbeats 4000000 in
theorem wX11_price_20 {E : kdE} {G : kdS} {A : kdA} {r : Int32} {σ1 : kdM} (hX : kdX E A cX11_price 3 RX11 (some .int) 1) {σ : kdM} {l0 : Nat} {l1 : Int32} {l2 : Int32} {s0 : Int32} {s1 : Int32} (h : X11_price_20 G l0 l1 l2 s0 s1 σ = some (r, σ1)) : SW E G (.inl (some (.int r), σ1)) A 3 σ 20 [(0, kr E l0), (1, .int l1), (2, .int l2)] [.int s1, .int s0] := by
  unfold X11_price_20 at h
  refine r_bipush hX dX11_price_20 kk_b_20 ?_
  refine r_cSi (As := [.int s0, .int s1, .int (20 : Int32)]) (st := []) hX dX11_price_22 kl_X11_within w_ml_X11_165 w_st_X11_within (by decide) rfl (Nat.le_of_ble_eq_true rfl) rfl kdz0 h (fun r σ1 h => wX11_within h) ?_
  clear h; intro t1 σ h
  refine r_if_ne (tgt := 31) hX dX11_price_25 (by decide) h ?_ ?_
  · clear h; intro h
    refine r_sub [] rfl ?_
    exact wX11_price_28 hX h
  · clear h; intro h
    refine r_aload_n hX dX11_price_31 rfl 0 rfl ?_
    refine r_gR hX dX11_price_32 kf_X11_45 rfl h ?_
    clear h; intro t2 h
    refine r_iload_n hX dX11_price_35 rfl 1 rfl ?_
    refine r_iload_n hX dX11_price_36 rfl 2 rfl ?_
    refine r_cVi (As := [.int l1, .int l2]) (st := []) hX dX11_price_37 kl_X7_setPrice w_ml_X11_229 w_im_X7_setPrice w_se_X7_setPrice ⟨_, _, rfl⟩ (by decide) rfl (Nat.le_of_ble_eq_true rfl) rfl kdz0 h (fun r σ1 h => wX7_setPrice h) ?_
    clear h; intro t3 σ h
    exact r_iret hX dX11_price_40 h
def X11_price (G : kdS) (l0 : Nat) (l1 : Int32) (l2 : Int32) : kdM → Option (Int32 × kdM) :=
  kcl (X11_within G l1 (0 : Int32) (5 : Int32)) fun t1 =>
  cnd (t1 = 0)
    (X11_price_28 G )
    (cnd (l1 = (5 : Int32))
      (X11_price_20 G l0 l1 l2 l2 (0 : Int32))
      (X11_price_20 G l0 l1 l2 l2 (1 : Int32)))
set_option maxRecDepth 100000 in
set_option maxHeartbeats 4000000 in
theorem wX11_price {E : kdE} {G : kdS} {l0 : Nat} {l1 : Int32} {l2 : Int32} {σ : kdM} {r : Int32} {σ1 : kdM} (h : X11_price G l0 l1 l2 σ = some (r, σ1)) : Con E G yX11_price cX11_price 3 (some .int) 1 [kr E l0, .int l1, .int l2] σ (some (.int r), σ1) := by
  refine kd_head (own := RX11) rfl (by decide +kernel) (Nat.le_of_ble_eq_true rfl) (fun A hX => ?_)
  show SW E G (.inl (some (.int r), σ1)) A 3 σ 0 [(0, kr E l0), (1, .int l1), (2, .int l2)] []
  unfold X11_price at h
  refine r_iload_n hX dX11_price_0 rfl 1 rfl ?_
  refine r_iconst hX dX11_price_1 kk_i_0 ?_
  refine r_iconst hX dX11_price_2 kk_i_5 ?_
  refine r_cSi (As := [.int l1, .int (0 : Int32), .int (5 : Int32)]) (st := []) hX dX11_price_3 kl_X11_within w_ml_X11_165 w_st_X11_within (by decide) rfl (Nat.le_of_ble_eq_true rfl) rfl kdz0 h (fun r σ1 h => wX11_within h) ?_
  clear h; intro t1 σ h
  refine r_if_eq (tgt := 28) hX dX11_price_6 (by decide) h ?_ ?_
  · clear h; intro h
    refine r_sub [] rfl ?_
    exact wX11_price_28 hX h
  · clear h; intro h
    refine r_iload_n hX dX11_price_9 rfl 2 rfl ?_
    refine r_iload_n hX dX11_price_10 rfl 1 rfl ?_
    refine r_iconst hX dX11_price_11 kk_i_5 ?_
    refine r_icmp_ne (tgt := 19) hX dX11_price_12 (by decide) h ?_ ?_
    · clear h; intro h
      refine r_iconst hX dX11_price_15 kk_i_0 ?_
      refine r_goto (tgt := 20) hX dX11_price_16 (by decide) ?_
      refine r_sub [0, 1, 2] rfl ?_
      exact wX11_price_20 hX h
    · clear h; intro h
      refine r_iconst hX dX11_price_19 kk_i_1 ?_
      refine r_sub [0, 1, 2] rfl ?_
      exact wX11_price_20 hX h
def X11_slip_47 (G : kdS) (s0 : Int32) : kdM → Option (Int32 × kdM) :=
  rt s0
set_option maxRecDepth 100000 in
set_option maxHeartbeats 4000000 in
theorem wX11_slip_47 {E : kdE} {G : kdS} {A : kdA} {r : Int32} {σ1 : kdM} (hX : kdX E A cX11_slip 2 RX11 (some .int) 5) {σ : kdM} {s0 : Int32} (h : X11_slip_47 G s0 σ = some (r, σ1)) : SW E G (.inl (some (.int r), σ1)) A 2 σ 47 [] [.int s0] := by
  unfold X11_slip_47 at h
  exact r_iret hX dX11_slip_47 h
def X11_slip (G : kdS) (l0 : Nat) (l1 : Int32) : kdM → Option (Int32 × kdM) :=
  gR G 11 4 l0 fun t1 =>
  kcv G 10 t1 (X10_has G t1 l1) fun t2 =>
  cnd (t2 = 0)
    (rt (-1 : Int32))
    (gR G 11 0 l0 fun t3 =>
    kcv G 6 t3 (X6_isEmpty G t3) fun t4 =>
    cnd (t4 = 0)
      (gR G 11 5 l0 fun t5 =>
      gR G 11 0 l0 fun t6 =>
      gR G 11 4 l0 fun t7 =>
      kcv G 10 t7 (X10_keysOf G t7 l1) fun t8 =>
      kcv G 7 t5 (X7_priceOf G t5 t6 t8) fun t9 =>
      X11_slip_47 G t9)
      (X11_slip_47 G (-3 : Int32)))
set_option maxRecDepth 100000 in
set_option maxHeartbeats 4000000 in
theorem wX11_slip {E : kdE} {G : kdS} {l0 : Nat} {l1 : Int32} {σ : kdM} {r : Int32} {σ1 : kdM} (h : X11_slip G l0 l1 σ = some (r, σ1)) : Con E G yX11_slip cX11_slip 2 (some .int) 5 [kr E l0, .int l1] σ (some (.int r), σ1) := by
  refine kd_head (own := RX11) rfl (by decide +kernel) (Nat.le_of_ble_eq_true rfl) (fun A hX => ?_)
  show SW E G (.inl (some (.int r), σ1)) A 2 σ 0 [(0, kr E l0), (1, .int l1)] []
  unfold X11_slip at h
  refine r_aload_n hX dX11_slip_0 rfl 0 rfl ?_
  refine r_gR hX dX11_slip_1 kf_X11_38 rfl h ?_
  clear h; intro t1 h
  refine r_iload_n hX dX11_slip_4 rfl 1 rfl ?_
  refine r_cVi (As := [.int l1]) (st := []) hX dX11_slip_5 kl_X10_has w_ml_X11_212 w_im_X10_has w_se_X10_has ⟨_, _, rfl⟩ (by decide) rfl (Nat.le_of_ble_eq_true rfl) rfl kdz0 h (fun r σ1 h => wX10_has h) ?_
  clear h; intro t2 σ h
  refine r_if_ne (tgt := 13) hX dX11_slip_8 (by decide) h ?_ ?_
  · clear h; intro h
    refine r_iconst hX dX11_slip_11 kk_i_m1 ?_
    exact r_iret hX dX11_slip_12 h
  · clear h; intro h
    refine r_aload_n hX dX11_slip_13 rfl 0 rfl ?_
    refine r_gR hX dX11_slip_14 kf_X11_14 rfl h ?_
    clear h; intro t3 h
    refine r_cVi (As := []) (st := []) hX dX11_slip_17 kl_X6_isEmpty w_ml_X11_127 w_im_X6_isEmpty w_se_X6_isEmpty ⟨_, _, rfl⟩ (by decide) rfl (Nat.le_of_ble_eq_true rfl) rfl kdz0 h (fun r σ1 h => wX6_isEmpty h) ?_
    clear h; intro t4 σ h
    refine r_if_eq (tgt := 28) hX dX11_slip_20 (by decide) h ?_ ?_
    · clear h; intro h
      refine r_aload_n hX dX11_slip_28 rfl 0 rfl ?_
      refine r_gR hX dX11_slip_29 kf_X11_45 rfl h ?_
      clear h; intro t5 h
      refine r_aload_n hX dX11_slip_32 rfl 0 rfl ?_
      refine r_gR hX dX11_slip_33 kf_X11_14 rfl h ?_
      clear h; intro t6 h
      refine r_aload_n hX dX11_slip_36 rfl 0 rfl ?_
      refine r_gR hX dX11_slip_37 kf_X11_38 rfl h ?_
      clear h; intro t7 h
      refine r_iload_n hX dX11_slip_40 rfl 1 rfl ?_
      refine r_cVa (As := [.int l1]) (st := [kr E t6, kr E t5]) hX dX11_slip_41 kl_X10_keysOf w_ml_X11_222 w_im_X10_keysOf w_se_X10_keysOf ⟨_, _, rfl⟩ (by decide) rfl (Nat.le_of_ble_eq_true rfl) rfl kdz0 h (fun r σ1 h => wX10_keysOf h) ?_
      clear h; intro t8 σ h
      refine r_cVi (As := [kr E t6, kr E t8]) (st := []) hX dX11_slip_44 kl_X7_priceOf w_ml_X11_232 w_im_X7_priceOf w_se_X7_priceOf ⟨_, _, rfl⟩ (by decide) rfl (Nat.le_of_ble_eq_true rfl) rfl kdz0 h (fun r σ1 h => wX7_priceOf h) ?_
      clear h; intro t9 σ h
      refine r_sub [] rfl ?_
      exact wX11_slip_47 hX h
    · clear h; intro h
      refine r_bipush hX dX11_slip_23 kk_b_m3 ?_
      refine r_goto (tgt := 47) hX dX11_slip_25 (by decide) ?_
      refine r_sub [] rfl ?_
      exact wX11_slip_47 hX h
def X11_gather_103 (G : kdS) (k10 : Nat → Int32 → Int32 → Int32 → Int32 → Int32 → kdM → Option (Unit × kdM)) (l0 : Nat) (l1 : Int32) (l2 : Int32) (l3 : Int32) (l4 : Int32) (l5 : Int32) : kdM → Option (Unit × kdM) :=
  ltI (l5 + Int32.ofInt 1) fun t1 =>
  k10 l0 l1 l2 l3 l4 t1
set_option maxRecDepth 100000 in
set_option maxHeartbeats 4000000 in
theorem wX11_gather_103 {E : kdE} {G : kdS} {A : kdA} {r : Unit} {σ1 : kdM} (hX : kdX E A cX11_gather 7 RX11 none 5) (k10 : Nat → Int32 → Int32 → Int32 → Int32 → Int32 → kdM → Option (Unit × kdM)) (hk10 : ∀ (l0 : Nat) (l1 : Int32) (l2 : Int32) (l3 : Int32) (l4 : Int32) (l5 : Int32) (σ : kdM), k10 l0 l1 l2 l3 l4 l5 σ = some (r, σ1) → SW E G (.inl (none, σ1)) A 7 σ 10 [(0, kr E l0), (1, .int l1), (2, .int l2), (3, .int l3), (4, .int l4), (5, .int l5)] []) {σ : kdM} {l0 : Nat} {l1 : Int32} {l2 : Int32} {l3 : Int32} {l4 : Int32} {l5 : Int32} (h : X11_gather_103 G k10 l0 l1 l2 l3 l4 l5 σ = some (r, σ1)) : SW E G (.inl (none, σ1)) A 7 σ 103 [(0, kr E l0), (1, .int l1), (2, .int l2), (3, .int l3), (4, .int l4), (5, .int l5)] [] := by
  unfold X11_gather_103 at h
  refine r_iincL (L2 := fun t1 => [(5, .int t1), (0, kr E l0), (1, .int l1), (2, .int l2), (3, .int l3), (4, .int l4)]) hX dX11_gather_103 h 5 rfl (by decide) (fun _ => rfl) ?_
  clear h; intro t1 h
  refine r_goto (tgt := 10) hX dX11_gather_106 (by decide) ?_
  refine r_sub [1, 2, 3, 4, 5, 0] rfl ?_
  exact hk10 _ _ _ _ _ _ _ h
def X11_gather_10B (G : kdS) (k10 : Nat → Int32 → Int32 → Int32 → Int32 → Int32 → kdM → Option (Unit × kdM)) (l0 : Nat) (l1 : Int32) (l2 : Int32) (l3 : Int32) (l4 : Int32) (l5 : Int32) : kdM → Option (Unit × kdM) :=
  gR G 11 4 l0 fun t1 =>
  kcv G 10 t1 (X10_size G t1) fun t2 =>
  cnd (t2 ≤ l5)
    (rt ())
    (gR G 11 4 l0 fun t3 =>
    kcv G 10 t3 (X10_tongueOf G t3 l5) fun t4 =>
    kcl (X11_hasBit G l1 t4) fun t5 =>
    cnd (t5 = 0)
      (X11_gather_103 G k10 l0 l1 l2 l3 l4 l5)
      (gR G 11 5 l0 fun t6 =>
      gR G 11 0 l0 fun t7 =>
      gR G 11 4 l0 fun t8 =>
      kcv G 10 t8 (X10_keysOf G t8 l5) fun t9 =>
      kcv G 7 t6 (X7_priceOf G t6 t7 t9) fun t10 =>
      cnd (l2 < t10)
        (X11_gather_103 G k10 l0 l1 l2 l3 l4 l5)
        (gR G 11 6 l0 fun t11 =>
        gR G 11 4 l0 fun t12 =>
        kcv G 10 t12 (X10_countOf G t12 l5) fun t13 =>
        gR G 11 9 l0 fun t14 =>
        kcv G 2 t14 (X2_worthOf G t14 l3 l5 l4) fun t15 =>
        kcv G 1 t11 (X1_insert G t11 l5 t10 (((1000 : Int32) * t13) + t15)) fun _ =>
        X11_gather_103 G k10 l0 l1 l2 l3 l4 l5)))
set_option maxRecDepth 100000 in
set_option maxHeartbeats 4000000 in
theorem wX11_gather_10B {E : kdE} {G : kdS} {A : kdA} {r : Unit} {σ1 : kdM} (hX : kdX E A cX11_gather 7 RX11 none 5) (k10 : Nat → Int32 → Int32 → Int32 → Int32 → Int32 → kdM → Option (Unit × kdM)) (hk10 : ∀ (l0 : Nat) (l1 : Int32) (l2 : Int32) (l3 : Int32) (l4 : Int32) (l5 : Int32) (σ : kdM), k10 l0 l1 l2 l3 l4 l5 σ = some (r, σ1) → SW E G (.inl (none, σ1)) A 7 σ 10 [(0, kr E l0), (1, .int l1), (2, .int l2), (3, .int l3), (4, .int l4), (5, .int l5)] []) {σ : kdM} {l0 : Nat} {l1 : Int32} {l2 : Int32} {l3 : Int32} {l4 : Int32} {l5 : Int32} (h : X11_gather_10B G k10 l0 l1 l2 l3 l4 l5 σ = some (r, σ1)) : SW E G (.inl (none, σ1)) A 7 σ 10 [(0, kr E l0), (1, .int l1), (2, .int l2), (3, .int l3), (4, .int l4), (5, .int l5)] [] := by
  unfold X11_gather_10B at h
  refine r_iload hX dX11_gather_10 5 rfl ?_
  refine r_aload_n hX dX11_gather_12 rfl 0 rfl ?_
  refine r_gR hX dX11_gather_13 kf_X11_38 rfl h ?_
  clear h; intro t1 h
  refine r_cVi (As := []) (st := [.int l5]) hX dX11_gather_16 kl_X10_size w_ml_X11_367 w_im_X10_size w_se_X10_size ⟨_, _, rfl⟩ (by decide) rfl (Nat.le_of_ble_eq_true rfl) rfl kdz0 h (fun r σ1 h => wX10_size h) ?_
  clear h; intro t2 σ h
  refine r_icmp_ge (tgt := 109) hX dX11_gather_19 (by decide) h ?_ ?_
  · clear h; intro h
    exact r_vret hX dX11_gather_109 h
  · clear h; intro h
    refine r_iload_n hX dX11_gather_22 rfl 1 rfl ?_
    refine r_aload_n hX dX11_gather_23 rfl 0 rfl ?_
    refine r_gR hX dX11_gather_24 kf_X11_38 rfl h ?_
    clear h; intro t3 h
    refine r_iload hX dX11_gather_27 5 rfl ?_
    refine r_cVi (As := [.int l5]) (st := [.int l1]) hX dX11_gather_29 kl_X10_tongueOf w_ml_X11_213 w_im_X10_tongueOf w_se_X10_tongueOf ⟨_, _, rfl⟩ (by decide) rfl (Nat.le_of_ble_eq_true rfl) rfl kdz0 h (fun r σ1 h => wX10_tongueOf h) ?_
    clear h; intro t4 σ h
    refine r_cSi (As := [.int l1, .int t4]) (st := []) hX dX11_gather_32 kl_X11_hasBit w_ml_X11_385 w_st_X11_hasBit (by decide) rfl (Nat.le_of_ble_eq_true rfl) rfl kdz0 h (fun r σ1 h => wX11_hasBit h) ?_
    clear h; intro t5 σ h
    refine r_if_eq (tgt := 103) hX dX11_gather_35 (by decide) h ?_ ?_
    · clear h; intro h
      refine r_sub [0, 1, 2, 3, 4, 5] rfl ?_
      exact wX11_gather_103 hX k10 hk10 h
    · clear h; intro h
      refine r_aload_n hX dX11_gather_38 rfl 0 rfl ?_
      refine r_gR hX dX11_gather_39 kf_X11_45 rfl h ?_
      clear h; intro t6 h
      refine r_aload_n hX dX11_gather_42 rfl 0 rfl ?_
      refine r_gR hX dX11_gather_43 kf_X11_14 rfl h ?_
      clear h; intro t7 h
      refine r_aload_n hX dX11_gather_46 rfl 0 rfl ?_
      refine r_gR hX dX11_gather_47 kf_X11_38 rfl h ?_
      clear h; intro t8 h
      refine r_iload hX dX11_gather_50 5 rfl ?_
      refine r_cVa (As := [.int l5]) (st := [kr E t7, kr E t6]) hX dX11_gather_52 kl_X10_keysOf w_ml_X11_222 w_im_X10_keysOf w_se_X10_keysOf ⟨_, _, rfl⟩ (by decide) rfl (Nat.le_of_ble_eq_true rfl) rfl kdz0 h (fun r σ1 h => wX10_keysOf h) ?_
      clear h; intro t9 σ h
      refine r_cVi (As := [kr E t7, kr E t9]) (st := []) hX dX11_gather_55 kl_X7_priceOf w_ml_X11_232 w_im_X7_priceOf w_se_X7_priceOf ⟨_, _, rfl⟩ (by decide) rfl (Nat.le_of_ble_eq_true rfl) rfl kdz0 h (fun r σ1 h => wX7_priceOf h) ?_
      clear h; intro t10 σ h
      refine r_istore (L2 := [(6, .int t10), (0, kr E l0), (1, .int l1), (2, .int l2), (3, .int l3), (4, .int l4), (5, .int l5)]) hX dX11_gather_58 (by decide) rfl ?_
      refine r_iload hX dX11_gather_60 0 rfl ?_
      refine r_iload_n hX dX11_gather_62 rfl 3 rfl ?_
      refine r_icmp_gt (tgt := 103) hX dX11_gather_63 (by decide) h ?_ ?_
      · clear h; intro h
        refine r_sub [1, 2, 3, 4, 5, 6] rfl ?_
        exact wX11_gather_103 hX k10 hk10 h
      · clear h; intro h
        refine r_aload_n hX dX11_gather_66 rfl 1 rfl ?_
        refine r_gR hX dX11_gather_67 kf_X11_52 rfl h ?_
        clear h; intro t11 h
        refine r_iload hX dX11_gather_70 6 rfl ?_
        refine r_iload hX dX11_gather_72 0 rfl ?_
        refine r_sipush hX dX11_gather_74 kk_s_1000 ?_
        refine r_aload_n hX dX11_gather_77 rfl 1 rfl ?_
        refine r_gR hX dX11_gather_78 kf_X11_38 rfl h ?_
        clear h; intro t12 h
        refine r_iload hX dX11_gather_81 6 rfl ?_
        refine r_cVi (As := [.int l5]) (st := [.int (1000 : Int32), .int t10, .int l5, kr E t11]) hX dX11_gather_83 kl_X10_countOf w_ml_X11_219 w_im_X10_countOf w_se_X10_countOf ⟨_, _, rfl⟩ (by decide) rfl (Nat.le_of_ble_eq_true rfl) rfl kdz0 h (fun r σ1 h => wX10_countOf h) ?_
        clear h; intro t13 σ h
        refine r_imul hX dX11_gather_86 ?_
        refine r_aload_n hX dX11_gather_87 rfl 1 rfl ?_
        refine r_gR hX dX11_gather_88 kf_X11_77 rfl h ?_
        clear h; intro t14 h
        refine r_iload_n hX dX11_gather_91 rfl 4 rfl ?_
        refine r_iload hX dX11_gather_92 6 rfl ?_
        refine r_iload hX dX11_gather_94 5 rfl ?_
        refine r_cVi (As := [.int l3, .int l5, .int l4]) (st := [.int ((1000 : Int32) * t13), .int t10, .int l5, kr E t11]) hX dX11_gather_96 kl_X2_worthOf w_ml_X11_289 w_im_X2_worthOf w_se_X2_worthOf ⟨_, _, rfl⟩ (by decide) rfl (Nat.le_of_ble_eq_true rfl) rfl kdz0 h (fun r σ1 h => wX2_worthOf h) ?_
        clear h; intro t15 σ h
        refine r_iadd hX dX11_gather_99 ?_
        refine r_cVv (As := [.int l5, .int t10, .int (((1000 : Int32) * t13) + t15)]) (st := []) hX dX11_gather_100 kl_X1_insert w_ml_X11_389 w_im_X1_insert w_se_X1_insert ⟨_, _, rfl⟩ (by decide) rfl (Nat.le_of_ble_eq_true rfl) rfl kdz0 h (fun r σ1 h => wX1_insert h) ?_
        clear h; intro u σ h
        refine r_sub [1, 2, 3, 4, 5, 6] rfl ?_
        exact wX11_gather_103 hX k10 hk10 h
def X11_gather_10 (G : kdS) : Nat → Int32 → Int32 → Int32 → Int32 → Int32 → kdM → Option (Unit × kdM) := lp (fun _ _ _ _ _ _ _ => none) (X11_gather_10B G) NN
theorem wX11_gather_10 {E : kdE} {G : kdS} {A : kdA} {r : Unit} {σ1 : kdM} (hX : kdX E A cX11_gather 7 RX11 none 5) : ∀ (l0 : Nat) (l1 : Int32) (l2 : Int32) (l3 : Int32) (l4 : Int32) (l5 : Int32) (σ : kdM), X11_gather_10 G l0 l1 l2 l3 l4 l5 σ = some (r, σ1) → SW E G (.inl (none, σ1)) A 7 σ 10 [(0, kr E l0), (1, .int l1), (2, .int l2), (3, .int l3), (4, .int l4), (5, .int l5)] [] :=
  lp_ind (Q := fun f => ∀ (l0 : Nat) (l1 : Int32) (l2 : Int32) (l3 : Int32) (l4 : Int32) (l5 : Int32) (σ : kdM), f l0 l1 l2 l3 l4 l5 σ = some (r, σ1) → SW E G (.inl (none, σ1)) A 7 σ 10 [(0, kr E l0), (1, .int l1), (2, .int l2), (3, .int l3), (4, .int l4), (5, .int l5)] []) (by intros; contradiction) (fun k hk l0 l1 l2 l3 l4 l5 σ h => wX11_gather_10B hX k hk h) NN
def X11_gather (G : kdS) (l0 : Nat) (l1 : Int32) (l2 : Int32) (l3 : Int32) (l4 : Int32) : kdM → Option (Unit × kdM) :=
  gR G 11 6 l0 fun t1 =>
  kcv G 1 t1 (X1_clear G t1) fun _ =>
  X11_gather_10 G l0 l1 l2 l3 l4 (0 : Int32)
set_option maxRecDepth 100000 in
set_option maxHeartbeats 4000000 in
theorem wX11_gather {E : kdE} {G : kdS} {l0 : Nat} {l1 : Int32} {l2 : Int32} {l3 : Int32} {l4 : Int32} {σ : kdM} {r : Unit} {σ1 : kdM} (h : X11_gather G l0 l1 l2 l3 l4 σ = some (r, σ1)) : Con E G yX11_gather cX11_gather 7 none 5 [kr E l0, .int l1, .int l2, .int l3, .int l4] σ (none, σ1) := by
  refine kd_head (own := RX11) rfl (by decide +kernel) (Nat.le_of_ble_eq_true rfl) (fun A hX => ?_)
  show SW E G (.inl (none, σ1)) A 7 σ 0 [(0, kr E l0), (1, .int l1), (2, .int l2), (3, .int l3), (4, .int l4)] []
  unfold X11_gather at h
  refine r_aload_n hX dX11_gather_0 rfl 0 rfl ?_
  refine r_gR hX dX11_gather_1 kf_X11_52 rfl h ?_
  clear h; intro t1 h
  refine r_cVv (As := []) (st := []) hX dX11_gather_4 kl_X1_clear w_ml_X11_383 w_im_X1_clear w_se_X1_clear ⟨_, _, rfl⟩ (by decide) rfl (Nat.le_of_ble_eq_true rfl) rfl kdz0 h (fun r σ1 h => wX1_clear h) ?_
  clear h; intro u σ h
  refine r_iconst hX dX11_gather_7 kk_i_0 ?_
  refine r_istore (L2 := [(5, .int (0 : Int32)), (0, kr E l0), (1, .int l1), (2, .int l2), (3, .int l3), (4, .int l4)]) hX dX11_gather_8 (by decide) rfl ?_
  refine r_sub [1, 2, 3, 4, 5, 0] rfl ?_
  exact wX11_gather_10 hX _ _ _ _ _ _ _ h
def X11_guess_20 (G : kdS) : kdM → Option (Int32 × kdM) :=
  rt (-2 : Int32)
set_option maxRecDepth 100000 in
set_option maxHeartbeats 4000000 in
theorem wX11_guess_20 {E : kdE} {G : kdS} {A : kdA} {r : Int32} {σ1 : kdM} (hX : kdX E A cX11_guess 4 RX11 (some .int) 6) {σ : kdM} (h : X11_guess_20 G  σ = some (r, σ1)) : SW E G (.inl (some (.int r), σ1)) A 4 σ 20 [] [] := by
  unfold X11_guess_20 at h
  refine r_bipush hX dX11_guess_20 kk_b_m2 ?_
  exact r_iret hX dX11_guess_22 h
def X11_guess (G : kdS) (l0 : Nat) (l1 : Int32) (l2 : Int32) (l3 : Int32) : kdM → Option (Int32 × kdM) :=
  kcl (X11_within G l1 (1 : Int32) (7 : Int32)) fun t1 =>
  cnd (t1 = 0)
    (X11_guess_20 G )
    (kcl (X11_within G l2 (0 : Int32) (60 : Int32)) fun t2 =>
    cnd (t2 = 0)
      (X11_guess_20 G )
      (gR G 11 0 l0 fun t3 =>
      kcv G 6 t3 (X6_isEmpty G t3) fun t4 =>
      cnd (t4 = 0)
        (kcv G 11 l0 (X11_gather G l0 l1 l2 (-1 : Int32) (0 : Int32)) fun _ =>
        gR G 11 6 l0 fun t5 =>
        kcv G 1 t5 (X1_guessAt G t5 l3) fun t6 =>
        rt t6)
        (rt (-3 : Int32))))
set_option maxRecDepth 100000 in
set_option maxHeartbeats 4000000 in
theorem wX11_guess {E : kdE} {G : kdS} {l0 : Nat} {l1 : Int32} {l2 : Int32} {l3 : Int32} {σ : kdM} {r : Int32} {σ1 : kdM} (h : X11_guess G l0 l1 l2 l3 σ = some (r, σ1)) : Con E G yX11_guess cX11_guess 4 (some .int) 6 [kr E l0, .int l1, .int l2, .int l3] σ (some (.int r), σ1) := by
  refine kd_head (own := RX11) rfl (by decide +kernel) (Nat.le_of_ble_eq_true rfl) (fun A hX => ?_)
  show SW E G (.inl (some (.int r), σ1)) A 4 σ 0 [(0, kr E l0), (1, .int l1), (2, .int l2), (3, .int l3)] []
  unfold X11_guess at h
  refine r_iload_n hX dX11_guess_0 rfl 1 rfl ?_
  refine r_iconst hX dX11_guess_1 kk_i_1 ?_
  refine r_bipush hX dX11_guess_2 kk_b_7 ?_
  refine r_cSi (As := [.int l1, .int (1 : Int32), .int (7 : Int32)]) (st := []) hX dX11_guess_4 kl_X11_within w_ml_X11_165 w_st_X11_within (by decide) rfl (Nat.le_of_ble_eq_true rfl) rfl kdz0 h (fun r σ1 h => wX11_within h) ?_
  clear h; intro t1 σ h
  refine r_if_eq (tgt := 20) hX dX11_guess_7 (by decide) h ?_ ?_
  · clear h; intro h
    refine r_sub [] rfl ?_
    exact wX11_guess_20 hX h
  · clear h; intro h
    refine r_iload_n hX dX11_guess_10 rfl 2 rfl ?_
    refine r_iconst hX dX11_guess_11 kk_i_0 ?_
    refine r_bipush hX dX11_guess_12 kk_b_60 ?_
    refine r_cSi (As := [.int l2, .int (0 : Int32), .int (60 : Int32)]) (st := []) hX dX11_guess_14 kl_X11_within w_ml_X11_165 w_st_X11_within (by decide) rfl (Nat.le_of_ble_eq_true rfl) rfl kdz0 h (fun r σ1 h => wX11_within h) ?_
    clear h; intro t2 σ h
    refine r_if_ne (tgt := 23) hX dX11_guess_17 (by decide) h ?_ ?_
    · clear h; intro h
      refine r_sub [] rfl ?_
      exact wX11_guess_20 hX h
    · clear h; intro h
      refine r_aload_n hX dX11_guess_23 rfl 0 rfl ?_
      refine r_gR hX dX11_guess_24 kf_X11_14 rfl h ?_
      clear h; intro t3 h
      refine r_cVi (As := []) (st := []) hX dX11_guess_27 kl_X6_isEmpty w_ml_X11_127 w_im_X6_isEmpty w_se_X6_isEmpty ⟨_, _, rfl⟩ (by decide) rfl (Nat.le_of_ble_eq_true rfl) rfl kdz0 h (fun r σ1 h => wX6_isEmpty h) ?_
      clear h; intro t4 σ h
      refine r_if_eq (tgt := 36) hX dX11_guess_30 (by decide) h ?_ ?_
      · clear h; intro h
        refine r_aload_n hX dX11_guess_36 rfl 0 rfl ?_
        refine r_iload_n hX dX11_guess_37 rfl 1 rfl ?_
        refine r_iload_n hX dX11_guess_38 rfl 2 rfl ?_
        refine r_iconst hX dX11_guess_39 kk_i_m1 ?_
        refine r_iconst hX dX11_guess_40 kk_i_0 ?_
        refine r_cVv (As := [.int l1, .int l2, .int (-1 : Int32), .int (0 : Int32)]) (st := []) hX dX11_guess_41 kl_X11_gather w_ml_X11_235 w_im_X11_gather w_se_X11_gather ⟨_, _, rfl⟩ (by decide) rfl (Nat.le_of_ble_eq_true rfl) rfl kdz0 h (fun r σ1 h => wX11_gather h) ?_
        clear h; intro u σ h
        refine r_aload_n hX dX11_guess_44 rfl 0 rfl ?_
        refine r_gR hX dX11_guess_45 kf_X11_52 rfl h ?_
        clear h; intro t5 h
        refine r_iload_n hX dX11_guess_48 rfl 3 rfl ?_
        refine r_cVi (As := [.int l3]) (st := []) hX dX11_guess_49 kl_X1_guessAt w_ml_X11_239 w_im_X1_guessAt w_se_X1_guessAt ⟨_, _, rfl⟩ (by decide) rfl (Nat.le_of_ble_eq_true rfl) rfl kdz0 h (fun r σ1 h => wX1_guessAt h) ?_
        clear h; intro t6 σ h
        exact r_iret hX dX11_guess_52 h
      · clear h; intro h
        refine r_bipush hX dX11_guess_33 kk_b_m3 ?_
        exact r_iret hX dX11_guess_35 h
def X11_partPad_47 (G : kdS) (s0 : Int32) : kdM → Option (Int32 × kdM) :=
  rt s0
set_option maxRecDepth 100000 in
set_option maxHeartbeats 4000000 in
theorem wX11_partPad_47 {E : kdE} {G : kdS} {A : kdA} {r : Int32} {σ1 : kdM} (hX : kdX E A cX11_partPad 2 RX11 (some .int) 6) {σ : kdM} {s0 : Int32} (h : X11_partPad_47 G s0 σ = some (r, σ1)) : SW E G (.inl (some (.int r), σ1)) A 2 σ 47 [] [.int s0] := by
  unfold X11_partPad_47 at h
  exact r_iret hX dX11_partPad_47 h
def X11_partPad (G : kdS) (l0 : Nat) (l1 : Int32) : kdM → Option (Int32 × kdM) :=
  kcl (X11_within G l1 (1 : Int32) (7 : Int32)) fun t1 =>
  cnd (t1 = 0)
    (rt (-2 : Int32))
    (gR G 11 0 l0 fun t2 =>
    kcv G 6 t2 (X6_isEmpty G t2) fun t3 =>
    cnd (t3 = 0)
      (gR G 11 7 l0 fun t4 =>
      gR G 11 0 l0 fun t5 =>
      kcv G 5 t4 (X5_find G t4 t5 l1) fun t6 =>
      cnd (t6 = 0)
        (X11_partPad_47 G (-5 : Int32))
        (X11_partPad_47 G (0 : Int32)))
      (rt (-3 : Int32)))
set_option maxRecDepth 100000 in
set_option maxHeartbeats 4000000 in
theorem wX11_partPad {E : kdE} {G : kdS} {l0 : Nat} {l1 : Int32} {σ : kdM} {r : Int32} {σ1 : kdM} (h : X11_partPad G l0 l1 σ = some (r, σ1)) : Con E G yX11_partPad cX11_partPad 2 (some .int) 6 [kr E l0, .int l1] σ (some (.int r), σ1) := by
  refine kd_head (own := RX11) rfl (by decide +kernel) (Nat.le_of_ble_eq_true rfl) (fun A hX => ?_)
  show SW E G (.inl (some (.int r), σ1)) A 2 σ 0 [(0, kr E l0), (1, .int l1)] []
  unfold X11_partPad at h
  refine r_iload_n hX dX11_partPad_0 rfl 1 rfl ?_
  refine r_iconst hX dX11_partPad_1 kk_i_1 ?_
  refine r_bipush hX dX11_partPad_2 kk_b_7 ?_
  refine r_cSi (As := [.int l1, .int (1 : Int32), .int (7 : Int32)]) (st := []) hX dX11_partPad_4 kl_X11_within w_ml_X11_165 w_st_X11_within (by decide) rfl (Nat.le_of_ble_eq_true rfl) rfl kdz0 h (fun r σ1 h => wX11_within h) ?_
  clear h; intro t1 σ h
  refine r_if_ne (tgt := 13) hX dX11_partPad_7 (by decide) h ?_ ?_
  · clear h; intro h
    refine r_bipush hX dX11_partPad_10 kk_b_m2 ?_
    exact r_iret hX dX11_partPad_12 h
  · clear h; intro h
    refine r_aload_n hX dX11_partPad_13 rfl 0 rfl ?_
    refine r_gR hX dX11_partPad_14 kf_X11_14 rfl h ?_
    clear h; intro t2 h
    refine r_cVi (As := []) (st := []) hX dX11_partPad_17 kl_X6_isEmpty w_ml_X11_127 w_im_X6_isEmpty w_se_X6_isEmpty ⟨_, _, rfl⟩ (by decide) rfl (Nat.le_of_ble_eq_true rfl) rfl kdz0 h (fun r σ1 h => wX6_isEmpty h) ?_
    clear h; intro t3 σ h
    refine r_if_eq (tgt := 26) hX dX11_partPad_20 (by decide) h ?_ ?_
    · clear h; intro h
      refine r_aload_n hX dX11_partPad_26 rfl 0 rfl ?_
      refine r_gR hX dX11_partPad_27 kf_X11_61 rfl h ?_
      clear h; intro t4 h
      refine r_aload_n hX dX11_partPad_30 rfl 0 rfl ?_
      refine r_gR hX dX11_partPad_31 kf_X11_14 rfl h ?_
      clear h; intro t5 h
      refine r_iload_n hX dX11_partPad_34 rfl 1 rfl ?_
      refine r_cVi (As := [kr E t5, .int l1]) (st := []) hX dX11_partPad_35 kl_X5_find w_ml_X11_392 w_im_X5_find w_se_X5_find ⟨_, _, rfl⟩ (by decide) rfl (Nat.le_of_ble_eq_true rfl) rfl kdz0 h (fun r σ1 h => wX5_find h) ?_
      clear h; intro t6 σ h
      refine r_if_eq (tgt := 45) hX dX11_partPad_38 (by decide) h ?_ ?_
      · clear h; intro h
        refine r_bipush hX dX11_partPad_45 kk_b_m5 ?_
        refine r_sub [] rfl ?_
        exact wX11_partPad_47 hX h
      · clear h; intro h
        refine r_iconst hX dX11_partPad_41 kk_i_0 ?_
        refine r_goto (tgt := 47) hX dX11_partPad_42 (by decide) ?_
        refine r_sub [] rfl ?_
        exact wX11_partPad_47 hX h
    · clear h; intro h
      refine r_bipush hX dX11_partPad_23 kk_b_m3 ?_
      exact r_iret hX dX11_partPad_25 h
def X11_part_89 (G : kdS) (s0 : Int32) : kdM → Option (Int32 × kdM) :=
  rt s0
set_option maxRecDepth 100000 in
set_option maxHeartbeats 4000000 in
theorem wX11_part_89 {E : kdE} {G : kdS} {A : kdA} {r : Int32} {σ1 : kdM} (hX : kdX E A cX11_part 4 RX11 (some .int) 7) {σ : kdM} {s0 : Int32} (h : X11_part_89 G s0 σ = some (r, σ1)) : SW E G (.inl (some (.int r), σ1)) A 4 σ 89 [] [.int s0] := by
  unfold X11_part_89 at h
  exact r_iret hX dX11_part_89 h
def X11_part (G : kdS) (l0 : Nat) (l1 : Int32) (l2 : Int32) : kdM → Option (Int32 × kdM) :=
  kcv G 11 l0 (X11_partPad G l0 l1) fun t1 =>
  cnd (t1 = 0)
    (cnd (l2 = (-2 : Int32))
      (gR G 11 7 l0 fun t2 =>
      kcv G 5 t2 (X5_words G t2) fun t3 =>
      kcv G 6 t3 (X6_size G t3) fun t4 =>
      rt t4)
      (cnd (l2 = (-1 : Int32))
        (gR G 11 7 l0 fun t5 =>
        kcv G 5 t5 (X5_sum G t5) fun t6 =>
        rt t6)
        (gR G 11 7 l0 fun t7 =>
        kcv G 5 t7 (X5_words G t7) fun t8 =>
        kcv G 6 t8 (X6_has G t8 l2) fun t9 =>
        cnd (t9 = 0)
          (X11_part_89 G (-6 : Int32))
          (gR G 11 7 l0 fun t10 =>
          kcv G 5 t10 (X5_words G t10) fun t11 =>
          kcv G 6 t11 (X6_at G t11 l2) fun t12 =>
          X11_part_89 G t12))))
    (rt t1)
set_option maxRecDepth 100000 in
set_option maxHeartbeats 4000000 in
theorem wX11_part {E : kdE} {G : kdS} {l0 : Nat} {l1 : Int32} {l2 : Int32} {σ : kdM} {r : Int32} {σ1 : kdM} (h : X11_part G l0 l1 l2 σ = some (r, σ1)) : Con E G yX11_part cX11_part 4 (some .int) 7 [kr E l0, .int l1, .int l2] σ (some (.int r), σ1) := by
  refine kd_head (own := RX11) rfl (by decide +kernel) (Nat.le_of_ble_eq_true rfl) (fun A hX => ?_)
  show SW E G (.inl (some (.int r), σ1)) A 4 σ 0 [(0, kr E l0), (1, .int l1), (2, .int l2)] []
  unfold X11_part at h
  refine r_aload_n hX dX11_part_0 rfl 0 rfl ?_
  refine r_iload_n hX dX11_part_1 rfl 1 rfl ?_
  refine r_cVi (As := [.int l1]) (st := []) hX dX11_part_2 kl_X11_partPad w_ml_X11_242 w_im_X11_partPad w_se_X11_partPad ⟨_, _, rfl⟩ (by decide) rfl (Nat.le_of_ble_eq_true rfl) rfl kdz0 h (fun r σ1 h => wX11_partPad h) ?_
  clear h; intro t1 σ h
  refine r_istore_n (L2 := [(3, .int t1), (0, kr E l0), (1, .int l1), (2, .int l2)]) hX dX11_part_5 rfl (by decide) rfl ?_
  refine r_iload_n hX dX11_part_6 rfl 0 rfl ?_
  refine r_if_eq (tgt := 12) hX dX11_part_7 (by decide) h ?_ ?_
  · clear h; intro h
    refine r_iload_n hX dX11_part_12 rfl 3 rfl ?_
    refine r_case (q := l2 = (-2 : Int32)) h ?_ ?_
    · clear h; intro hq h
      refine r_ls (tgt := 48) (off := 35) hX dX11_part_13 (by decide +kernel) (by rw [hq] <;> decide +kernel) (by decide) ?_
      clear hq
      refine r_aload_n hX dX11_part_48 rfl 1 rfl ?_
      refine r_gR hX dX11_part_49 kf_X11_61 rfl h ?_
      clear h; intro t2 h
      refine r_cVa (As := []) (st := []) hX dX11_part_52 kl_X5_words w_ml_X11_248 w_im_X5_words w_se_X5_words ⟨_, _, rfl⟩ (by decide) rfl (Nat.le_of_ble_eq_true rfl) rfl kdz0 h (fun r σ1 h => wX5_words h) ?_
      clear h; intro t3 σ h
      refine r_cVi (As := []) (st := []) hX dX11_part_55 kl_X6_size w_ml_X11_108 w_im_X6_size w_se_X6_size ⟨_, _, rfl⟩ (by decide) rfl (Nat.le_of_ble_eq_true rfl) rfl kdz0 h (fun r σ1 h => wX6_size h) ?_
      clear h; intro t4 σ h
      exact r_iret hX dX11_part_58 h
    · clear h; intro hn0 h
      refine r_case (q := l2 = (-1 : Int32)) h ?_ ?_
      · clear h; intro hq h
        refine r_ls (tgt := 40) (off := 27) hX dX11_part_13 (by decide +kernel) (by rw [hq] <;> decide +kernel) (by decide) ?_
        clear hq
        refine r_aload_n hX dX11_part_40 rfl 1 rfl ?_
        refine r_gR hX dX11_part_41 kf_X11_61 rfl h ?_
        clear h; intro t5 h
        refine r_cVi (As := []) (st := []) hX dX11_part_44 kl_X5_sum w_ml_X11_245 w_im_X5_sum w_se_X5_sum ⟨_, _, rfl⟩ (by decide) rfl (Nat.le_of_ble_eq_true rfl) rfl kdz0 h (fun r σ1 h => wX5_sum h) ?_
        clear h; intro t6 σ h
        exact r_iret hX dX11_part_47 h
      · clear h; intro hn1 h
        refine r_ls (tgt := 59) (off := 46) hX dX11_part_13 (by decide +kernel) (by rw [lv_osw (a := -2) hn0 (by decide), lv_osw (a := -1) hn1 (by decide)] <;> rfl) (by decide) ?_
        refine r_aload_n hX dX11_part_59 rfl 1 rfl ?_
        refine r_gR hX dX11_part_60 kf_X11_61 rfl h ?_
        clear h; intro t7 h
        refine r_cVa (As := []) (st := []) hX dX11_part_63 kl_X5_words w_ml_X11_248 w_im_X5_words w_se_X5_words ⟨_, _, rfl⟩ (by decide) rfl (Nat.le_of_ble_eq_true rfl) rfl kdz0 h (fun r σ1 h => wX5_words h) ?_
        clear h; intro t8 σ h
        refine r_iload_n hX dX11_part_66 rfl 3 rfl ?_
        refine r_cVi (As := [.int l2]) (st := []) hX dX11_part_67 kl_X6_has w_ml_X11_173 w_im_X6_has w_se_X6_has ⟨_, _, rfl⟩ (by decide) rfl (Nat.le_of_ble_eq_true rfl) rfl kdz0 h (fun r σ1 h => wX6_has h) ?_
        clear h; intro t9 σ h
        refine r_if_eq (tgt := 87) hX dX11_part_70 (by decide) h ?_ ?_
        · clear h; intro h
          refine r_bipush hX dX11_part_87 kk_b_m6 ?_
          refine r_sub [] rfl ?_
          exact wX11_part_89 hX h
        · clear h; intro h
          refine r_aload_n hX dX11_part_73 rfl 1 rfl ?_
          refine r_gR hX dX11_part_74 kf_X11_61 rfl h ?_
          clear h; intro t10 h
          refine r_cVa (As := []) (st := []) hX dX11_part_77 kl_X5_words w_ml_X11_248 w_im_X5_words w_se_X5_words ⟨_, _, rfl⟩ (by decide) rfl (Nat.le_of_ble_eq_true rfl) rfl kdz0 h (fun r σ1 h => wX5_words h) ?_
          clear h; intro t11 σ h
          refine r_iload_n hX dX11_part_80 rfl 3 rfl ?_
          refine r_cVi (As := [.int l2]) (st := []) hX dX11_part_81 kl_X6_at w_ml_X11_194 w_im_X6_at w_se_X6_at ⟨_, _, rfl⟩ (by decide) rfl (Nat.le_of_ble_eq_true rfl) rfl kdz0 h (fun r σ1 h => wX6_at h) ?_
          clear h; intro t12 σ h
          refine r_goto (tgt := 89) hX dX11_part_84 (by decide) ?_
          refine r_sub [] rfl ?_
          exact wX11_part_89 hX h
  · clear h; intro h
    refine r_iload_n hX dX11_part_10 rfl 0 rfl ?_
    exact r_iret hX dX11_part_11 h
def X11_pieceOf_42 (G : kdS) (s0 : Int32) : kdM → Option (Int32 × kdM) :=
  rt s0
set_option maxRecDepth 100000 in
set_option maxHeartbeats 4000000 in
theorem wX11_pieceOf_42 {E : kdE} {G : kdS} {A : kdA} {r : Int32} {σ1 : kdM} (hX : kdX E A cX11_pieceOf 4 RX11 (some .int) 7) {σ : kdM} {s0 : Int32} (h : X11_pieceOf_42 G s0 σ = some (r, σ1)) : SW E G (.inl (some (.int r), σ1)) A 4 σ 42 [] [.int s0] := by
  unfold X11_pieceOf_42 at h
  exact r_iret hX dX11_pieceOf_42 h
def X11_pieceOf (G : kdS) (l0 : Nat) (l1 : Int32) (l2 : Int32) : kdM → Option (Int32 × kdM) :=
  kcv G 11 l0 (X11_partPad G l0 l1) fun t1 =>
  cnd (t1 = 0)
    (gR G 11 7 l0 fun t2 =>
    kcv G 5 t2 (X5_lengths G t2) fun t3 =>
    kcv G 6 t3 (X6_has G t3 l2) fun t4 =>
    cnd (t4 = 0)
      (X11_pieceOf_42 G (-6 : Int32))
      (gR G 11 7 l0 fun t5 =>
      kcv G 5 t5 (X5_lengths G t5) fun t6 =>
      kcv G 6 t6 (X6_at G t6 l2) fun t7 =>
      X11_pieceOf_42 G t7))
    (rt t1)
set_option maxRecDepth 100000 in
set_option maxHeartbeats 4000000 in
theorem wX11_pieceOf {E : kdE} {G : kdS} {l0 : Nat} {l1 : Int32} {l2 : Int32} {σ : kdM} {r : Int32} {σ1 : kdM} (h : X11_pieceOf G l0 l1 l2 σ = some (r, σ1)) : Con E G yX11_pieceOf cX11_pieceOf 4 (some .int) 7 [kr E l0, .int l1, .int l2] σ (some (.int r), σ1) := by
  refine kd_head (own := RX11) rfl (by decide +kernel) (Nat.le_of_ble_eq_true rfl) (fun A hX => ?_)
  show SW E G (.inl (some (.int r), σ1)) A 4 σ 0 [(0, kr E l0), (1, .int l1), (2, .int l2)] []
  unfold X11_pieceOf at h
  refine r_aload_n hX dX11_pieceOf_0 rfl 0 rfl ?_
  refine r_iload_n hX dX11_pieceOf_1 rfl 1 rfl ?_
  refine r_cVi (As := [.int l1]) (st := []) hX dX11_pieceOf_2 kl_X11_partPad w_ml_X11_242 w_im_X11_partPad w_se_X11_partPad ⟨_, _, rfl⟩ (by decide) rfl (Nat.le_of_ble_eq_true rfl) rfl kdz0 h (fun r σ1 h => wX11_partPad h) ?_
  clear h; intro t1 σ h
  refine r_istore_n (L2 := [(3, .int t1), (0, kr E l0), (1, .int l1), (2, .int l2)]) hX dX11_pieceOf_5 rfl (by decide) rfl ?_
  refine r_iload_n hX dX11_pieceOf_6 rfl 0 rfl ?_
  refine r_if_eq (tgt := 12) hX dX11_pieceOf_7 (by decide) h ?_ ?_
  · clear h; intro h
    refine r_aload_n hX dX11_pieceOf_12 rfl 1 rfl ?_
    refine r_gR hX dX11_pieceOf_13 kf_X11_61 rfl h ?_
    clear h; intro t2 h
    refine r_cVa (As := []) (st := []) hX dX11_pieceOf_16 kl_X5_lengths w_ml_X11_250 w_im_X5_lengths w_se_X5_lengths ⟨_, _, rfl⟩ (by decide) rfl (Nat.le_of_ble_eq_true rfl) rfl kdz0 h (fun r σ1 h => wX5_lengths h) ?_
    clear h; intro t3 σ h
    refine r_iload_n hX dX11_pieceOf_19 rfl 3 rfl ?_
    refine r_cVi (As := [.int l2]) (st := []) hX dX11_pieceOf_20 kl_X6_has w_ml_X11_173 w_im_X6_has w_se_X6_has ⟨_, _, rfl⟩ (by decide) rfl (Nat.le_of_ble_eq_true rfl) rfl kdz0 h (fun r σ1 h => wX6_has h) ?_
    clear h; intro t4 σ h
    refine r_if_eq (tgt := 40) hX dX11_pieceOf_23 (by decide) h ?_ ?_
    · clear h; intro h
      refine r_bipush hX dX11_pieceOf_40 kk_b_m6 ?_
      refine r_sub [] rfl ?_
      exact wX11_pieceOf_42 hX h
    · clear h; intro h
      refine r_aload_n hX dX11_pieceOf_26 rfl 1 rfl ?_
      refine r_gR hX dX11_pieceOf_27 kf_X11_61 rfl h ?_
      clear h; intro t5 h
      refine r_cVa (As := []) (st := []) hX dX11_pieceOf_30 kl_X5_lengths w_ml_X11_250 w_im_X5_lengths w_se_X5_lengths ⟨_, _, rfl⟩ (by decide) rfl (Nat.le_of_ble_eq_true rfl) rfl kdz0 h (fun r σ1 h => wX5_lengths h) ?_
      clear h; intro t6 σ h
      refine r_iload_n hX dX11_pieceOf_33 rfl 3 rfl ?_
      refine r_cVi (As := [.int l2]) (st := []) hX dX11_pieceOf_34 kl_X6_at w_ml_X11_194 w_im_X6_at w_se_X6_at ⟨_, _, rfl⟩ (by decide) rfl (Nat.le_of_ble_eq_true rfl) rfl kdz0 h (fun r σ1 h => wX6_at h) ?_
      clear h; intro t7 σ h
      refine r_goto (tgt := 42) hX dX11_pieceOf_37 (by decide) ?_
      refine r_sub [] rfl ?_
      exact wX11_pieceOf_42 hX h
  · clear h; intro h
    refine r_iload_n hX dX11_pieceOf_10 rfl 0 rfl ?_
    exact r_iret hX dX11_pieceOf_11 h
def X11_both_22 (G : kdS) : kdM → Option (Int32 × kdM) :=
  rt (-1 : Int32)
set_option maxRecDepth 100000 in
set_option maxHeartbeats 4000000 in
theorem wX11_both_22 {E : kdE} {G : kdS} {A : kdA} {r : Int32} {σ1 : kdM} (hX : kdX E A cX11_both 4 RX11 (some .int) 2) {σ : kdM} (h : X11_both_22 G  σ = some (r, σ1)) : SW E G (.inl (some (.int r), σ1)) A 4 σ 22 [] [] := by
  unfold X11_both_22 at h
  refine r_iconst hX dX11_both_22 kk_i_m1 ?_
  exact r_iret hX dX11_both_23 h
def X11_both_68 (G : kdS) (l0 : Nat) (l1 : Int32) (l2 : Int32) (l3 : Int32) : kdM → Option (Int32 × kdM) :=
  gR G 11 8 l0 fun t1 =>
  kcv G 0 t1 (X0_setTogether G t1 l1 l2 l3) fun t2 =>
  rt t2
set_option maxRecDepth 100000 in
set_option maxHeartbeats 4000000 in
theorem wX11_both_68 {E : kdE} {G : kdS} {A : kdA} {r : Int32} {σ1 : kdM} (hX : kdX E A cX11_both 4 RX11 (some .int) 2) {σ : kdM} {l0 : Nat} {l1 : Int32} {l2 : Int32} {l3 : Int32} (h : X11_both_68 G l0 l1 l2 l3 σ = some (r, σ1)) : SW E G (.inl (some (.int r), σ1)) A 4 σ 68 [(0, kr E l0), (1, .int l1), (2, .int l2), (3, .int l3)] [] := by
  unfold X11_both_68 at h
  refine r_aload_n hX dX11_both_68 rfl 0 rfl ?_
  refine r_gR hX dX11_both_69 kf_X11_70 rfl h ?_
  clear h; intro t1 h
  refine r_iload_n hX dX11_both_72 rfl 1 rfl ?_
  refine r_iload_n hX dX11_both_73 rfl 2 rfl ?_
  refine r_iload_n hX dX11_both_74 rfl 3 rfl ?_
  refine r_cVi (As := [.int l1, .int l2, .int l3]) (st := []) hX dX11_both_75 kl_X0_setTogether w_ml_X11_259 w_im_X0_setTogether w_se_X0_setTogether ⟨_, _, rfl⟩ (by decide) rfl (Nat.le_of_ble_eq_true rfl) rfl kdz0 h (fun r σ1 h => wX0_setTogether h) ?_
  clear h; intro t2 σ h
  exact r_iret hX dX11_both_78 h
def X11_both (G : kdS) (l0 : Nat) (l1 : Int32) (l2 : Int32) (l3 : Int32) : kdM → Option (Int32 × kdM) :=
  gR G 11 4 l0 fun t1 =>
  kcv G 10 t1 (X10_has G t1 l1) fun t2 =>
  cnd (t2 = 0)
    (X11_both_22 G )
    (gR G 11 4 l0 fun t3 =>
    kcv G 10 t3 (X10_has G t3 l2) fun t4 =>
    cnd (t4 = 0)
      (X11_both_22 G )
      (kcl (X11_within G l3 (0 : Int32) (100 : Int32)) fun t5 =>
      cnd (t5 = 0)
        (rt (-2 : Int32))
        (cnd (l3 ≤ 0)
          (X11_both_68 G l0 l1 l2 l3)
          (gR G 11 8 l0 fun t6 =>
          kcv G 0 t6 (X0_together G t6 l1 l2) fun t7 =>
          cnd (t7 = 0)
            (gR G 11 8 l0 fun t8 =>
            kcv G 0 t8 (X0_pairs G t8) fun t9 =>
            cnd (t9 < (40 : Int32))
              (X11_both_68 G l0 l1 l2 l3)
              (rt (-4 : Int32)))
            (X11_both_68 G l0 l1 l2 l3)))))
set_option maxRecDepth 100000 in
set_option maxHeartbeats 4000000 in
theorem wX11_both {E : kdE} {G : kdS} {l0 : Nat} {l1 : Int32} {l2 : Int32} {l3 : Int32} {σ : kdM} {r : Int32} {σ1 : kdM} (h : X11_both G l0 l1 l2 l3 σ = some (r, σ1)) : Con E G yX11_both cX11_both 4 (some .int) 2 [kr E l0, .int l1, .int l2, .int l3] σ (some (.int r), σ1) := by
  refine kd_head (own := RX11) rfl (by decide +kernel) (Nat.le_of_ble_eq_true rfl) (fun A hX => ?_)
  show SW E G (.inl (some (.int r), σ1)) A 4 σ 0 [(0, kr E l0), (1, .int l1), (2, .int l2), (3, .int l3)] []
  unfold X11_both at h
  refine r_aload_n hX dX11_both_0 rfl 0 rfl ?_
  refine r_gR hX dX11_both_1 kf_X11_38 rfl h ?_
  clear h; intro t1 h
  refine r_iload_n hX dX11_both_4 rfl 1 rfl ?_
  refine r_cVi (As := [.int l1]) (st := []) hX dX11_both_5 kl_X10_has w_ml_X11_212 w_im_X10_has w_se_X10_has ⟨_, _, rfl⟩ (by decide) rfl (Nat.le_of_ble_eq_true rfl) rfl kdz0 h (fun r σ1 h => wX10_has h) ?_
  clear h; intro t2 σ h
  refine r_if_eq (tgt := 22) hX dX11_both_8 (by decide) h ?_ ?_
  · clear h; intro h
    refine r_sub [] rfl ?_
    exact wX11_both_22 hX h
  · clear h; intro h
    refine r_aload_n hX dX11_both_11 rfl 0 rfl ?_
    refine r_gR hX dX11_both_12 kf_X11_38 rfl h ?_
    clear h; intro t3 h
    refine r_iload_n hX dX11_both_15 rfl 2 rfl ?_
    refine r_cVi (As := [.int l2]) (st := []) hX dX11_both_16 kl_X10_has w_ml_X11_212 w_im_X10_has w_se_X10_has ⟨_, _, rfl⟩ (by decide) rfl (Nat.le_of_ble_eq_true rfl) rfl kdz0 h (fun r σ1 h => wX10_has h) ?_
    clear h; intro t4 σ h
    refine r_if_ne (tgt := 24) hX dX11_both_19 (by decide) h ?_ ?_
    · clear h; intro h
      refine r_sub [] rfl ?_
      exact wX11_both_22 hX h
    · clear h; intro h
      refine r_iload_n hX dX11_both_24 rfl 3 rfl ?_
      refine r_iconst hX dX11_both_25 kk_i_0 ?_
      refine r_bipush hX dX11_both_26 kk_b_100 ?_
      refine r_cSi (As := [.int l3, .int (0 : Int32), .int (100 : Int32)]) (st := []) hX dX11_both_28 kl_X11_within w_ml_X11_165 w_st_X11_within (by decide) rfl (Nat.le_of_ble_eq_true rfl) rfl kdz0 h (fun r σ1 h => wX11_within h) ?_
      clear h; intro t5 σ h
      refine r_if_ne (tgt := 37) hX dX11_both_31 (by decide) h ?_ ?_
      · clear h; intro h
        refine r_bipush hX dX11_both_34 kk_b_m2 ?_
        exact r_iret hX dX11_both_36 h
      · clear h; intro h
        refine r_iload_n hX dX11_both_37 rfl 3 rfl ?_
        refine r_if_le (tgt := 68) hX dX11_both_38 (by decide) h ?_ ?_
        · clear h; intro h
          refine r_sub [0, 1, 2, 3] rfl ?_
          exact wX11_both_68 hX h
        · clear h; intro h
          refine r_aload_n hX dX11_both_41 rfl 0 rfl ?_
          refine r_gR hX dX11_both_42 kf_X11_70 rfl h ?_
          clear h; intro t6 h
          refine r_iload_n hX dX11_both_45 rfl 1 rfl ?_
          refine r_iload_n hX dX11_both_46 rfl 2 rfl ?_
          refine r_cVi (As := [.int l1, .int l2]) (st := []) hX dX11_both_47 kl_X0_together w_ml_X11_253 w_im_X0_together w_se_X0_together ⟨_, _, rfl⟩ (by decide) rfl (Nat.le_of_ble_eq_true rfl) rfl kdz0 h (fun r σ1 h => wX0_together h) ?_
          clear h; intro t7 σ h
          refine r_if_ne (tgt := 68) hX dX11_both_50 (by decide) h ?_ ?_
          · clear h; intro h
            refine r_aload_n hX dX11_both_53 rfl 0 rfl ?_
            refine r_gR hX dX11_both_54 kf_X11_70 rfl h ?_
            clear h; intro t8 h
            refine r_cVi (As := []) (st := []) hX dX11_both_57 kl_X0_pairs w_ml_X11_256 w_im_X0_pairs w_se_X0_pairs ⟨_, _, rfl⟩ (by decide) rfl (Nat.le_of_ble_eq_true rfl) rfl kdz0 h (fun r σ1 h => wX0_pairs h) ?_
            clear h; intro t9 σ h
            refine r_bipush hX dX11_both_60 kk_b_40 ?_
            refine r_icmp_lt (tgt := 68) hX dX11_both_62 (by decide) h ?_ ?_
            · clear h; intro h
              refine r_sub [0, 1, 2, 3] rfl ?_
              exact wX11_both_68 hX h
            · clear h; intro h
              refine r_bipush hX dX11_both_65 kk_b_m4 ?_
              exact r_iret hX dX11_both_67 h
          · clear h; intro h
            refine r_sub [0, 1, 2, 3] rfl ?_
            exact wX11_both_68 hX h
def X11_say_37 (G : kdS) (s0 : Int32) : kdM → Option (Int32 × kdM) :=
  rt s0
set_option maxRecDepth 100000 in
set_option maxHeartbeats 4000000 in
theorem wX11_say_37 {E : kdE} {G : kdS} {A : kdA} {r : Int32} {σ1 : kdM} (hX : kdX E A cX11_say 3 RX11 (some .int) 4) {σ : kdM} {s0 : Int32} (h : X11_say_37 G s0 σ = some (r, σ1)) : SW E G (.inl (some (.int r), σ1)) A 3 σ 37 [] [.int s0] := by
  unfold X11_say_37 at h
  exact r_iret hX dX11_say_37 h
def X11_say (G : kdS) (l0 : Nat) (l1 : Int32) (l2 : Int32) : kdM → Option (Int32 × kdM) :=
  gR G 11 4 l0 fun t1 =>
  kcv G 10 t1 (X10_has G t1 l1) fun t2 =>
  cnd (t2 = 0)
    (rt (-1 : Int32))
    (gR G 11 8 l0 fun t3 =>
    kcv G 0 t3 (X0_isPadFull G t3) fun t4 =>
    cnd (t4 = 0)
      (gR G 11 8 l0 fun t5 =>
      kcv G 0 t5 (X0_addToPad G t5 l1 l2) fun t6 =>
      X11_say_37 G t6)
      (X11_say_37 G (-4 : Int32)))
set_option maxRecDepth 100000 in
set_option maxHeartbeats 4000000 in
theorem wX11_say {E : kdE} {G : kdS} {l0 : Nat} {l1 : Int32} {l2 : Int32} {σ : kdM} {r : Int32} {σ1 : kdM} (h : X11_say G l0 l1 l2 σ = some (r, σ1)) : Con E G yX11_say cX11_say 3 (some .int) 4 [kr E l0, .int l1, .int l2] σ (some (.int r), σ1) := by
  refine kd_head (own := RX11) rfl (by decide +kernel) (Nat.le_of_ble_eq_true rfl) (fun A hX => ?_)
  show SW E G (.inl (some (.int r), σ1)) A 3 σ 0 [(0, kr E l0), (1, .int l1), (2, .int l2)] []
  unfold X11_say at h
  refine r_aload_n hX dX11_say_0 rfl 0 rfl ?_
  refine r_gR hX dX11_say_1 kf_X11_38 rfl h ?_
  clear h; intro t1 h
  refine r_iload_n hX dX11_say_4 rfl 1 rfl ?_
  refine r_cVi (As := [.int l1]) (st := []) hX dX11_say_5 kl_X10_has w_ml_X11_212 w_im_X10_has w_se_X10_has ⟨_, _, rfl⟩ (by decide) rfl (Nat.le_of_ble_eq_true rfl) rfl kdz0 h (fun r σ1 h => wX10_has h) ?_
  clear h; intro t2 σ h
  refine r_if_ne (tgt := 13) hX dX11_say_8 (by decide) h ?_ ?_
  · clear h; intro h
    refine r_iconst hX dX11_say_11 kk_i_m1 ?_
    exact r_iret hX dX11_say_12 h
  · clear h; intro h
    refine r_aload_n hX dX11_say_13 rfl 0 rfl ?_
    refine r_gR hX dX11_say_14 kf_X11_70 rfl h ?_
    clear h; intro t3 h
    refine r_cVi (As := []) (st := []) hX dX11_say_17 kl_X0_isPadFull w_ml_X11_262 w_im_X0_isPadFull w_se_X0_isPadFull ⟨_, _, rfl⟩ (by decide) rfl (Nat.le_of_ble_eq_true rfl) rfl kdz0 h (fun r σ1 h => wX0_isPadFull h) ?_
    clear h; intro t4 σ h
    refine r_if_eq (tgt := 28) hX dX11_say_20 (by decide) h ?_ ?_
    · clear h; intro h
      refine r_aload_n hX dX11_say_28 rfl 0 rfl ?_
      refine r_gR hX dX11_say_29 kf_X11_70 rfl h ?_
      clear h; intro t5 h
      refine r_iload_n hX dX11_say_32 rfl 1 rfl ?_
      refine r_iload_n hX dX11_say_33 rfl 2 rfl ?_
      refine r_cVi (As := [.int l1, .int l2]) (st := []) hX dX11_say_34 kl_X0_addToPad w_ml_X11_265 w_im_X0_addToPad w_se_X0_addToPad ⟨_, _, rfl⟩ (by decide) rfl (Nat.le_of_ble_eq_true rfl) rfl kdz0 h (fun r σ1 h => wX0_addToPad h) ?_
      clear h; intro t6 σ h
      refine r_sub [] rfl ?_
      exact wX11_say_37 hX h
    · clear h; intro h
      refine r_bipush hX dX11_say_23 kk_b_m4 ?_
      refine r_goto (tgt := 37) hX dX11_say_25 (by decide) ?_
      refine r_sub [] rfl ?_
      exact wX11_say_37 hX h
def X11_chosen_38 (G : kdS) (s0 : Int32) : kdM → Option (Int32 × kdM) :=
  rt s0
set_option maxRecDepth 100000 in
set_option maxHeartbeats 4000000 in
theorem wX11_chosen_38 {E : kdE} {G : kdS} {A : kdA} {r : Int32} {σ1 : kdM} (hX : kdX E A cX11_chosen 2 RX11 (some .int) 6) {σ : kdM} {s0 : Int32} (h : X11_chosen_38 G s0 σ = some (r, σ1)) : SW E G (.inl (some (.int r), σ1)) A 2 σ 38 [] [.int s0] := by
  unfold X11_chosen_38 at h
  exact r_iret hX dX11_chosen_38 h
def X11_chosen (G : kdS) (l0 : Nat) (l1 : Int32) : kdM → Option (Int32 × kdM) :=
  gR G 11 8 l0 fun t1 =>
  kcv G 0 t1 (X0_choose G t1) fun t2 =>
  gR G 11 8 l0 fun t3 =>
  kcv G 0 t3 (X0_chosenWords G t3) fun t4 =>
  kcv G 6 t4 (X6_has G t4 l1) fun t5 =>
  cnd (t5 = 0)
    (X11_chosen_38 G (-6 : Int32))
    (gR G 11 8 l0 fun t6 =>
    kcv G 0 t6 (X0_chosenWords G t6) fun t7 =>
    kcv G 6 t7 (X6_at G t7 l1) fun t8 =>
    X11_chosen_38 G t8)
set_option maxRecDepth 100000 in
set_option maxHeartbeats 4000000 in
theorem wX11_chosen {E : kdE} {G : kdS} {l0 : Nat} {l1 : Int32} {σ : kdM} {r : Int32} {σ1 : kdM} (h : X11_chosen G l0 l1 σ = some (r, σ1)) : Con E G yX11_chosen cX11_chosen 2 (some .int) 6 [kr E l0, .int l1] σ (some (.int r), σ1) := by
  refine kd_head (own := RX11) rfl (by decide +kernel) (Nat.le_of_ble_eq_true rfl) (fun A hX => ?_)
  show SW E G (.inl (some (.int r), σ1)) A 2 σ 0 [(0, kr E l0), (1, .int l1)] []
  unfold X11_chosen at h
  refine r_aload_n hX dX11_chosen_0 rfl 0 rfl ?_
  refine r_gR hX dX11_chosen_1 kf_X11_70 rfl h ?_
  clear h; intro t1 h
  refine r_cVl (As := []) (st := []) hX dX11_chosen_4 kl_X0_choose w_ml_X11_269 w_im_X0_choose w_se_X0_choose ⟨_, _, rfl⟩ (by decide) rfl (Nat.le_of_ble_eq_true rfl) rfl kdz0 h (fun r σ1 h => wX0_choose h) ?_
  clear h; intro t2 σ h
  refine r_pop2L hX dX11_chosen_7 rfl ?_
  refine r_aload_n hX dX11_chosen_8 rfl 0 rfl ?_
  refine r_gR hX dX11_chosen_9 kf_X11_70 rfl h ?_
  clear h; intro t3 h
  refine r_cVa (As := []) (st := []) hX dX11_chosen_12 kl_X0_chosenWords w_ml_X11_273 w_im_X0_chosenWords w_se_X0_chosenWords ⟨_, _, rfl⟩ (by decide) rfl (Nat.le_of_ble_eq_true rfl) rfl kdz0 h (fun r σ1 h => wX0_chosenWords h) ?_
  clear h; intro t4 σ h
  refine r_iload_n hX dX11_chosen_15 rfl 1 rfl ?_
  refine r_cVi (As := [.int l1]) (st := []) hX dX11_chosen_16 kl_X6_has w_ml_X11_173 w_im_X6_has w_se_X6_has ⟨_, _, rfl⟩ (by decide) rfl (Nat.le_of_ble_eq_true rfl) rfl kdz0 h (fun r σ1 h => wX6_has h) ?_
  clear h; intro t5 σ h
  refine r_if_eq (tgt := 36) hX dX11_chosen_19 (by decide) h ?_ ?_
  · clear h; intro h
    refine r_bipush hX dX11_chosen_36 kk_b_m6 ?_
    refine r_sub [] rfl ?_
    exact wX11_chosen_38 hX h
  · clear h; intro h
    refine r_aload_n hX dX11_chosen_22 rfl 0 rfl ?_
    refine r_gR hX dX11_chosen_23 kf_X11_70 rfl h ?_
    clear h; intro t6 h
    refine r_cVa (As := []) (st := []) hX dX11_chosen_26 kl_X0_chosenWords w_ml_X11_273 w_im_X0_chosenWords w_se_X0_chosenWords ⟨_, _, rfl⟩ (by decide) rfl (Nat.le_of_ble_eq_true rfl) rfl kdz0 h (fun r σ1 h => wX0_chosenWords h) ?_
    clear h; intro t7 σ h
    refine r_iload_n hX dX11_chosen_29 rfl 1 rfl ?_
    refine r_cVi (As := [.int l1]) (st := []) hX dX11_chosen_30 kl_X6_at w_ml_X11_194 w_im_X6_at w_se_X6_at ⟨_, _, rfl⟩ (by decide) rfl (Nat.le_of_ble_eq_true rfl) rfl kdz0 h (fun r σ1 h => wX6_at h) ?_
    clear h; intro t8 σ h
    refine r_goto (tgt := 38) hX dX11_chosen_33 (by decide) ?_
    refine r_sub [] rfl ?_
    exact wX11_chosen_38 hX h
def X11_product (G : kdS) (l0 : Nat) : kdM → Option (Int64 × kdM) :=
  gR G 11 8 l0 fun t1 =>
  kcv G 0 t1 (X0_choose G t1) fun t2 =>
  rt t2
set_option maxRecDepth 100000 in
set_option maxHeartbeats 4000000 in
theorem wX11_product {E : kdE} {G : kdS} {l0 : Nat} {σ : kdM} {r : Int64} {σ1 : kdM} (h : X11_product G l0 σ = some (r, σ1)) : Con E G yX11_product cX11_product 1 (some .long) 6 [kr E l0] σ (some (.long r), σ1) := by
  refine kd_head (own := RX11) rfl (by decide +kernel) (Nat.le_of_ble_eq_true rfl) (fun A hX => ?_)
  show SW E G (.inl (some (.long r), σ1)) A 1 σ 0 [(0, kr E l0)] []
  unfold X11_product at h
  refine r_aload_n hX dX11_product_0 rfl 0 rfl ?_
  refine r_gR hX dX11_product_1 kf_X11_70 rfl h ?_
  clear h; intro t1 h
  refine r_cVl (As := []) (st := []) hX dX11_product_4 kl_X0_choose w_ml_X11_269 w_im_X0_choose w_se_X0_choose ⟨_, _, rfl⟩ (by decide) rfl (Nat.le_of_ble_eq_true rfl) rfl kdz0 h (fun r σ1 h => wX0_choose h) ?_
  clear h; intro t2 σ h
  exact r_lret hX dX11_product_7 h
def X11_isDay (G : kdS) (l0 : Int32) : kdM → Option (Int32 × kdM) :=
  kcl (X11_within G l0 (0 : Int32) (3000 : Int32)) fun t1 =>
  rt (vp_nar .boolean t1)
set_option maxRecDepth 100000 in
set_option maxHeartbeats 4000000 in
theorem wX11_isDay {E : kdE} {G : kdS} {l0 : Int32} {σ : kdM} {r : Int32} {σ1 : kdM} (h : X11_isDay G l0 σ = some (r, σ1)) : Con E G yX11_isDay cX11_isDay 1 (some .boolean) 1 [.int l0] σ (some (.int r), σ1) := by
  refine kd_head (own := RX11) rfl (by decide +kernel) (Nat.le_of_ble_eq_true rfl) (fun A hX => ?_)
  show SW E G (.inl (some (.int r), σ1)) A 1 σ 0 [(0, .int l0)] []
  unfold X11_isDay at h
  refine r_iload_n hX dX11_isDay_0 rfl 0 rfl ?_
  refine r_iconst hX dX11_isDay_1 kk_i_0 ?_
  refine r_sipush hX dX11_isDay_2 kk_s_3000 ?_
  refine r_cSi (As := [.int l0, .int (0 : Int32), .int (3000 : Int32)]) (st := []) hX dX11_isDay_5 kl_X11_within w_ml_X11_165 w_st_X11_within (by decide) rfl (Nat.le_of_ble_eq_true rfl) rfl kdz0 h (fun r σ1 h => wX11_within h) ?_
  clear h; intro t1 σ h
  exact r_zret hX dX11_isDay_8 h
def X11_isHand (G : kdS) (l0 : Int32) : kdM → Option (Int32 × kdM) :=
  kcl (X11_within G l0 (0 : Int32) (3 : Int32)) fun t1 =>
  rt (vp_nar .boolean t1)
set_option maxRecDepth 100000 in
set_option maxHeartbeats 4000000 in
theorem wX11_isHand {E : kdE} {G : kdS} {l0 : Int32} {σ : kdM} {r : Int32} {σ1 : kdM} (h : X11_isHand G l0 σ = some (r, σ1)) : Con E G yX11_isHand cX11_isHand 1 (some .boolean) 1 [.int l0] σ (some (.int r), σ1) := by
  refine kd_head (own := RX11) rfl (by decide +kernel) (Nat.le_of_ble_eq_true rfl) (fun A hX => ?_)
  show SW E G (.inl (some (.int r), σ1)) A 1 σ 0 [(0, .int l0)] []
  unfold X11_isHand at h
  refine r_iload_n hX dX11_isHand_0 rfl 0 rfl ?_
  refine r_iconst hX dX11_isHand_1 kk_i_0 ?_
  refine r_iconst hX dX11_isHand_2 kk_i_3 ?_
  refine r_cSi (As := [.int l0, .int (0 : Int32), .int (3 : Int32)]) (st := []) hX dX11_isHand_3 kl_X11_within w_ml_X11_165 w_st_X11_within (by decide) rfl (Nat.le_of_ble_eq_true rfl) rfl kdz0 h (fun r σ1 h => wX11_within h) ?_
  clear h; intro t1 σ h
  exact r_zret hX dX11_isHand_6 h
def X11_learn_18 (G : kdS) : kdM → Option (Int32 × kdM) :=
  rt (-1 : Int32)
set_option maxRecDepth 100000 in
set_option maxHeartbeats 4000000 in
theorem wX11_learn_18 {E : kdE} {G : kdS} {A : kdA} {r : Int32} {σ1 : kdM} (hX : kdX E A cX11_learn 4 RX11 (some .int) 4) {σ : kdM} (h : X11_learn_18 G  σ = some (r, σ1)) : SW E G (.inl (some (.int r), σ1)) A 4 σ 18 [] [] := by
  unfold X11_learn_18 at h
  refine r_iconst hX dX11_learn_18 kk_i_m1 ?_
  exact r_iret hX dX11_learn_19 h
def X11_learn_70 (G : kdS) (s0 : Int32) : kdM → Option (Int32 × kdM) :=
  rt s0
set_option maxRecDepth 100000 in
set_option maxHeartbeats 4000000 in
theorem wX11_learn_70 {E : kdE} {G : kdS} {A : kdA} {r : Int32} {σ1 : kdM} (hX : kdX E A cX11_learn 4 RX11 (some .int) 4) {σ : kdM} {s0 : Int32} (h : X11_learn_70 G s0 σ = some (r, σ1)) : SW E G (.inl (some (.int r), σ1)) A 4 σ 70 [] [.int s0] := by
  unfold X11_learn_70 at h
  exact r_iret hX dX11_learn_70 h
def X11_learn (G : kdS) (l0 : Nat) (l1 : Int32) (l2 : Int32) (l3 : Int32) : kdM → Option (Int32 × kdM) :=
  kcl (X11_isHand G l1) fun t1 =>
  cnd (t1 = 0)
    (X11_learn_18 G )
    (gR G 11 4 l0 fun t2 =>
    kcv G 10 t2 (X10_has G t2 l2) fun t3 =>
    cnd (t3 = 0)
      (X11_learn_18 G )
      (kcl (X11_isDay G l3) fun t4 =>
      cnd (t4 = 0)
        (rt (-2 : Int32))
        (gR G 11 9 l0 fun t5 =>
        kcv G 2 t5 (X2_isFull G t5) fun t6 =>
        cnd (t6 = 0)
          (gR G 11 9 l0 fun t7 =>
          kcv G 2 t7 (X2_latestDay G t7 l1) fun t8 =>
          cnd (t8 ≤ l3)
            (gR G 11 9 l0 fun t9 =>
            kcv G 2 t9 (X2_addLearning G t9 l1 l2 l3) fun t10 =>
            X11_learn_70 G t10)
            (X11_learn_70 G (-5 : Int32)))
          (rt (-4 : Int32)))))
set_option maxRecDepth 100000 in
set_option maxHeartbeats 4000000 in
theorem wX11_learn {E : kdE} {G : kdS} {l0 : Nat} {l1 : Int32} {l2 : Int32} {l3 : Int32} {σ : kdM} {r : Int32} {σ1 : kdM} (h : X11_learn G l0 l1 l2 l3 σ = some (r, σ1)) : Con E G yX11_learn cX11_learn 4 (some .int) 4 [kr E l0, .int l1, .int l2, .int l3] σ (some (.int r), σ1) := by
  refine kd_head (own := RX11) rfl (by decide +kernel) (Nat.le_of_ble_eq_true rfl) (fun A hX => ?_)
  show SW E G (.inl (some (.int r), σ1)) A 4 σ 0 [(0, kr E l0), (1, .int l1), (2, .int l2), (3, .int l3)] []
  unfold X11_learn at h
  refine r_iload_n hX dX11_learn_0 rfl 1 rfl ?_
  refine r_cSi (As := [.int l1]) (st := []) hX dX11_learn_1 kl_X11_isHand w_ml_X11_276 w_st_X11_isHand (by decide) rfl (Nat.le_of_ble_eq_true rfl) rfl kdz0 h (fun r σ1 h => wX11_isHand h) ?_
  clear h; intro t1 σ h
  refine r_if_eq (tgt := 18) hX dX11_learn_4 (by decide) h ?_ ?_
  · clear h; intro h
    refine r_sub [] rfl ?_
    exact wX11_learn_18 hX h
  · clear h; intro h
    refine r_aload_n hX dX11_learn_7 rfl 0 rfl ?_
    refine r_gR hX dX11_learn_8 kf_X11_38 rfl h ?_
    clear h; intro t2 h
    refine r_iload_n hX dX11_learn_11 rfl 2 rfl ?_
    refine r_cVi (As := [.int l2]) (st := []) hX dX11_learn_12 kl_X10_has w_ml_X11_212 w_im_X10_has w_se_X10_has ⟨_, _, rfl⟩ (by decide) rfl (Nat.le_of_ble_eq_true rfl) rfl kdz0 h (fun r σ1 h => wX10_has h) ?_
    clear h; intro t3 σ h
    refine r_if_ne (tgt := 20) hX dX11_learn_15 (by decide) h ?_ ?_
    · clear h; intro h
      refine r_sub [] rfl ?_
      exact wX11_learn_18 hX h
    · clear h; intro h
      refine r_iload_n hX dX11_learn_20 rfl 3 rfl ?_
      refine r_cSi (As := [.int l3]) (st := []) hX dX11_learn_21 kl_X11_isDay w_ml_X11_279 w_st_X11_isDay (by decide) rfl (Nat.le_of_ble_eq_true rfl) rfl kdz0 h (fun r σ1 h => wX11_isDay h) ?_
      clear h; intro t4 σ h
      refine r_if_ne (tgt := 30) hX dX11_learn_24 (by decide) h ?_ ?_
      · clear h; intro h
        refine r_bipush hX dX11_learn_27 kk_b_m2 ?_
        exact r_iret hX dX11_learn_29 h
      · clear h; intro h
        refine r_aload_n hX dX11_learn_30 rfl 0 rfl ?_
        refine r_gR hX dX11_learn_31 kf_X11_77 rfl h ?_
        clear h; intro t5 h
        refine r_cVi (As := []) (st := []) hX dX11_learn_34 kl_X2_isFull w_ml_X11_282 w_im_X2_isFull w_se_X2_isFull ⟨_, _, rfl⟩ (by decide) rfl (Nat.le_of_ble_eq_true rfl) rfl kdz0 h (fun r σ1 h => wX2_isFull h) ?_
        clear h; intro t6 σ h
        refine r_if_eq (tgt := 43) hX dX11_learn_37 (by decide) h ?_ ?_
        · clear h; intro h
          refine r_iload_n hX dX11_learn_43 rfl 3 rfl ?_
          refine r_aload_n hX dX11_learn_44 rfl 0 rfl ?_
          refine r_gR hX dX11_learn_45 kf_X11_77 rfl h ?_
          clear h; intro t7 h
          refine r_iload_n hX dX11_learn_48 rfl 1 rfl ?_
          refine r_cVi (As := [.int l1]) (st := [.int l3]) hX dX11_learn_49 kl_X2_latestDay w_ml_X11_283 w_im_X2_latestDay w_se_X2_latestDay ⟨_, _, rfl⟩ (by decide) rfl (Nat.le_of_ble_eq_true rfl) rfl kdz0 h (fun r σ1 h => wX2_latestDay h) ?_
          clear h; intro t8 σ h
          refine r_icmp_ge (tgt := 60) hX dX11_learn_52 (by decide) h ?_ ?_
          · clear h; intro h
            refine r_aload_n hX dX11_learn_60 rfl 0 rfl ?_
            refine r_gR hX dX11_learn_61 kf_X11_77 rfl h ?_
            clear h; intro t9 h
            refine r_iload_n hX dX11_learn_64 rfl 1 rfl ?_
            refine r_iload_n hX dX11_learn_65 rfl 2 rfl ?_
            refine r_iload_n hX dX11_learn_66 rfl 3 rfl ?_
            refine r_cVi (As := [.int l1, .int l2, .int l3]) (st := []) hX dX11_learn_67 kl_X2_addLearning w_ml_X11_286 w_im_X2_addLearning w_se_X2_addLearning ⟨_, _, rfl⟩ (by decide) rfl (Nat.le_of_ble_eq_true rfl) rfl kdz0 h (fun r σ1 h => wX2_addLearning h) ?_
            clear h; intro t10 σ h
            refine r_sub [] rfl ?_
            exact wX11_learn_70 hX h
          · clear h; intro h
            refine r_bipush hX dX11_learn_55 kk_b_m5 ?_
            refine r_goto (tgt := 70) hX dX11_learn_57 (by decide) ?_
            refine r_sub [] rfl ?_
            exact wX11_learn_70 hX h
        · clear h; intro h
          refine r_bipush hX dX11_learn_40 kk_b_m4 ?_
          exact r_iret hX dX11_learn_42 h
def X11_worth_18 (G : kdS) : kdM → Option (Int32 × kdM) :=
  rt (-1 : Int32)
set_option maxRecDepth 100000 in
set_option maxHeartbeats 4000000 in
theorem wX11_worth_18 {E : kdE} {G : kdS} {A : kdA} {r : Int32} {σ1 : kdM} (hX : kdX E A cX11_worth 4 RX11 (some .int) 3) {σ : kdM} (h : X11_worth_18 G  σ = some (r, σ1)) : SW E G (.inl (some (.int r), σ1)) A 4 σ 18 [] [] := by
  unfold X11_worth_18 at h
  refine r_iconst hX dX11_worth_18 kk_i_m1 ?_
  exact r_iret hX dX11_worth_19 h
def X11_worth_42 (G : kdS) (s0 : Int32) : kdM → Option (Int32 × kdM) :=
  rt s0
set_option maxRecDepth 100000 in
set_option maxHeartbeats 4000000 in
theorem wX11_worth_42 {E : kdE} {G : kdS} {A : kdA} {r : Int32} {σ1 : kdM} (hX : kdX E A cX11_worth 4 RX11 (some .int) 3) {σ : kdM} {s0 : Int32} (h : X11_worth_42 G s0 σ = some (r, σ1)) : SW E G (.inl (some (.int r), σ1)) A 4 σ 42 [] [.int s0] := by
  unfold X11_worth_42 at h
  exact r_iret hX dX11_worth_42 h
def X11_worth (G : kdS) (l0 : Nat) (l1 : Int32) (l2 : Int32) (l3 : Int32) : kdM → Option (Int32 × kdM) :=
  kcl (X11_isHand G l1) fun t1 =>
  cnd (t1 = 0)
    (X11_worth_18 G )
    (gR G 11 4 l0 fun t2 =>
    kcv G 10 t2 (X10_has G t2 l2) fun t3 =>
    cnd (t3 = 0)
      (X11_worth_18 G )
      (kcl (X11_isDay G l3) fun t4 =>
      cnd (t4 = 0)
        (X11_worth_42 G (-2 : Int32))
        (gR G 11 9 l0 fun t5 =>
        kcv G 2 t5 (X2_worthOf G t5 l1 l2 l3) fun t6 =>
        X11_worth_42 G t6)))
set_option maxRecDepth 100000 in
set_option maxHeartbeats 4000000 in
theorem wX11_worth {E : kdE} {G : kdS} {l0 : Nat} {l1 : Int32} {l2 : Int32} {l3 : Int32} {σ : kdM} {r : Int32} {σ1 : kdM} (h : X11_worth G l0 l1 l2 l3 σ = some (r, σ1)) : Con E G yX11_worth cX11_worth 4 (some .int) 3 [kr E l0, .int l1, .int l2, .int l3] σ (some (.int r), σ1) := by
  refine kd_head (own := RX11) rfl (by decide +kernel) (Nat.le_of_ble_eq_true rfl) (fun A hX => ?_)
  show SW E G (.inl (some (.int r), σ1)) A 4 σ 0 [(0, kr E l0), (1, .int l1), (2, .int l2), (3, .int l3)] []
  unfold X11_worth at h
  refine r_iload_n hX dX11_worth_0 rfl 1 rfl ?_
  refine r_cSi (As := [.int l1]) (st := []) hX dX11_worth_1 kl_X11_isHand w_ml_X11_276 w_st_X11_isHand (by decide) rfl (Nat.le_of_ble_eq_true rfl) rfl kdz0 h (fun r σ1 h => wX11_isHand h) ?_
  clear h; intro t1 σ h
  refine r_if_eq (tgt := 18) hX dX11_worth_4 (by decide) h ?_ ?_
  · clear h; intro h
    refine r_sub [] rfl ?_
    exact wX11_worth_18 hX h
  · clear h; intro h
    refine r_aload_n hX dX11_worth_7 rfl 0 rfl ?_
    refine r_gR hX dX11_worth_8 kf_X11_38 rfl h ?_
    clear h; intro t2 h
    refine r_iload_n hX dX11_worth_11 rfl 2 rfl ?_
    refine r_cVi (As := [.int l2]) (st := []) hX dX11_worth_12 kl_X10_has w_ml_X11_212 w_im_X10_has w_se_X10_has ⟨_, _, rfl⟩ (by decide) rfl (Nat.le_of_ble_eq_true rfl) rfl kdz0 h (fun r σ1 h => wX10_has h) ?_
    clear h; intro t3 σ h
    refine r_if_ne (tgt := 20) hX dX11_worth_15 (by decide) h ?_ ?_
    · clear h; intro h
      refine r_sub [] rfl ?_
      exact wX11_worth_18 hX h
    · clear h; intro h
      refine r_iload_n hX dX11_worth_20 rfl 3 rfl ?_
      refine r_cSi (As := [.int l3]) (st := []) hX dX11_worth_21 kl_X11_isDay w_ml_X11_279 w_st_X11_isDay (by decide) rfl (Nat.le_of_ble_eq_true rfl) rfl kdz0 h (fun r σ1 h => wX11_isDay h) ?_
      clear h; intro t4 σ h
      refine r_if_eq (tgt := 40) hX dX11_worth_24 (by decide) h ?_ ?_
      · clear h; intro h
        refine r_bipush hX dX11_worth_40 kk_b_m2 ?_
        refine r_sub [] rfl ?_
        exact wX11_worth_42 hX h
      · clear h; intro h
        refine r_aload_n hX dX11_worth_27 rfl 0 rfl ?_
        refine r_gR hX dX11_worth_28 kf_X11_77 rfl h ?_
        clear h; intro t5 h
        refine r_iload_n hX dX11_worth_31 rfl 1 rfl ?_
        refine r_iload_n hX dX11_worth_32 rfl 2 rfl ?_
        refine r_iload_n hX dX11_worth_33 rfl 3 rfl ?_
        refine r_cVi (As := [.int l1, .int l2, .int l3]) (st := []) hX dX11_worth_34 kl_X2_worthOf w_ml_X11_289 w_im_X2_worthOf w_se_X2_worthOf ⟨_, _, rfl⟩ (by decide) rfl (Nat.le_of_ble_eq_true rfl) rfl kdz0 h (fun r σ1 h => wX2_worthOf h) ?_
        clear h; intro t6 σ h
        refine r_goto (tgt := 42) hX dX11_worth_37 (by decide) ?_
        refine r_sub [] rfl ?_
        exact wX11_worth_42 hX h
def X11_forget_23 (G : kdS) : kdM → Option (Int32 × kdM) :=
  rt (-1 : Int32)
set_option maxRecDepth 100000 in
set_option maxHeartbeats 4000000 in
theorem wX11_forget_23 {E : kdE} {G : kdS} {A : kdA} {r : Int32} {σ1 : kdM} (hX : kdX E A cX11_forget 3 RX11 (some .int) 3) {σ : kdM} (h : X11_forget_23 G  σ = some (r, σ1)) : SW E G (.inl (some (.int r), σ1)) A 3 σ 23 [] [] := by
  unfold X11_forget_23 at h
  refine r_iconst hX dX11_forget_23 kk_i_m1 ?_
  exact r_iret hX dX11_forget_24 h
def X11_forget_25 (G : kdS) (l0 : Nat) (l1 : Int32) (l2 : Int32) : kdM → Option (Int32 × kdM) :=
  gR G 11 9 l0 fun t1 =>
  kcv G 2 t1 (X2_dropLearnings G t1 l1 l2) fun t2 =>
  rt t2
set_option maxRecDepth 100000 in
set_option maxHeartbeats 4000000 in
theorem wX11_forget_25 {E : kdE} {G : kdS} {A : kdA} {r : Int32} {σ1 : kdM} (hX : kdX E A cX11_forget 3 RX11 (some .int) 3) {σ : kdM} {l0 : Nat} {l1 : Int32} {l2 : Int32} (h : X11_forget_25 G l0 l1 l2 σ = some (r, σ1)) : SW E G (.inl (some (.int r), σ1)) A 3 σ 25 [(0, kr E l0), (1, .int l1), (2, .int l2)] [] := by
  unfold X11_forget_25 at h
  refine r_aload_n hX dX11_forget_25 rfl 0 rfl ?_
  refine r_gR hX dX11_forget_26 kf_X11_77 rfl h ?_
  clear h; intro t1 h
  refine r_iload_n hX dX11_forget_29 rfl 1 rfl ?_
  refine r_iload_n hX dX11_forget_30 rfl 2 rfl ?_
  refine r_cVi (As := [.int l1, .int l2]) (st := []) hX dX11_forget_31 kl_X2_dropLearnings w_ml_X11_292 w_im_X2_dropLearnings w_se_X2_dropLearnings ⟨_, _, rfl⟩ (by decide) rfl (Nat.le_of_ble_eq_true rfl) rfl kdz0 h (fun r σ1 h => wX2_dropLearnings h) ?_
  clear h; intro t2 σ h
  exact r_iret hX dX11_forget_34 h
def X11_forget (G : kdS) (l0 : Nat) (l1 : Int32) (l2 : Int32) : kdM → Option (Int32 × kdM) :=
  kcl (X11_isHand G l1) fun t1 =>
  cnd (t1 = 0)
    (X11_forget_23 G )
    (cnd (l2 = (-1 : Int32))
      (X11_forget_25 G l0 l1 l2)
      (gR G 11 4 l0 fun t2 =>
      kcv G 10 t2 (X10_has G t2 l2) fun t3 =>
      cnd (t3 = 0)
        (X11_forget_23 G )
        (X11_forget_25 G l0 l1 l2)))
set_option maxRecDepth 100000 in
set_option maxHeartbeats 4000000 in
theorem wX11_forget {E : kdE} {G : kdS} {l0 : Nat} {l1 : Int32} {l2 : Int32} {σ : kdM} {r : Int32} {σ1 : kdM} (h : X11_forget G l0 l1 l2 σ = some (r, σ1)) : Con E G yX11_forget cX11_forget 3 (some .int) 3 [kr E l0, .int l1, .int l2] σ (some (.int r), σ1) := by
  refine kd_head (own := RX11) rfl (by decide +kernel) (Nat.le_of_ble_eq_true rfl) (fun A hX => ?_)
  show SW E G (.inl (some (.int r), σ1)) A 3 σ 0 [(0, kr E l0), (1, .int l1), (2, .int l2)] []
  unfold X11_forget at h
  refine r_iload_n hX dX11_forget_0 rfl 1 rfl ?_
  refine r_cSi (As := [.int l1]) (st := []) hX dX11_forget_1 kl_X11_isHand w_ml_X11_276 w_st_X11_isHand (by decide) rfl (Nat.le_of_ble_eq_true rfl) rfl kdz0 h (fun r σ1 h => wX11_isHand h) ?_
  clear h; intro t1 σ h
  refine r_if_eq (tgt := 23) hX dX11_forget_4 (by decide) h ?_ ?_
  · clear h; intro h
    refine r_sub [] rfl ?_
    exact wX11_forget_23 hX h
  · clear h; intro h
    refine r_iload_n hX dX11_forget_7 rfl 2 rfl ?_
    refine r_iconst hX dX11_forget_8 kk_i_m1 ?_
    refine r_icmp_eq (tgt := 25) hX dX11_forget_9 (by decide) h ?_ ?_
    · clear h; intro h
      refine r_sub [0, 1, 2] rfl ?_
      exact wX11_forget_25 hX h
    · clear h; intro h
      refine r_aload_n hX dX11_forget_12 rfl 0 rfl ?_
      refine r_gR hX dX11_forget_13 kf_X11_38 rfl h ?_
      clear h; intro t2 h
      refine r_iload_n hX dX11_forget_16 rfl 2 rfl ?_
      refine r_cVi (As := [.int l2]) (st := []) hX dX11_forget_17 kl_X10_has w_ml_X11_212 w_im_X10_has w_se_X10_has ⟨_, _, rfl⟩ (by decide) rfl (Nat.le_of_ble_eq_true rfl) rfl kdz0 h (fun r σ1 h => wX10_has h) ?_
      clear h; intro t3 σ h
      refine r_if_ne (tgt := 25) hX dX11_forget_20 (by decide) h ?_ ?_
      · clear h; intro h
        refine r_sub [] rfl ?_
        exact wX11_forget_23 hX h
      · clear h; intro h
        refine r_sub [0, 1, 2] rfl ?_
        exact wX11_forget_25 hX h
def X11_fade_24 (G : kdS) (s0 : Int32) : kdM → Option (Int32 × kdM) :=
  rt s0
set_option maxRecDepth 100000 in
set_option maxHeartbeats 4000000 in
theorem wX11_fade_24 {E : kdE} {G : kdS} {A : kdA} {r : Int32} {σ1 : kdM} (hX : kdX E A cX11_fade 2 RX11 (some .int) 1) {σ : kdM} {s0 : Int32} (h : X11_fade_24 G s0 σ = some (r, σ1)) : SW E G (.inl (some (.int r), σ1)) A 2 σ 24 [] [.int s0] := by
  unfold X11_fade_24 at h
  exact r_iret hX dX11_fade_24 h
def X11_fade (G : kdS) (l0 : Nat) (l1 : Int32) : kdM → Option (Int32 × kdM) :=
  kcl (X11_within G l1 (0 : Int32) (1000 : Int32)) fun t1 =>
  cnd (t1 = 0)
    (X11_fade_24 G (-2 : Int32))
    (gR G 11 9 l0 fun t2 =>
    kcv G 2 t2 (X2_setFade G t2 l1) fun t3 =>
    X11_fade_24 G t3)
set_option maxRecDepth 100000 in
set_option maxHeartbeats 4000000 in
theorem wX11_fade {E : kdE} {G : kdS} {l0 : Nat} {l1 : Int32} {σ : kdM} {r : Int32} {σ1 : kdM} (h : X11_fade G l0 l1 σ = some (r, σ1)) : Con E G yX11_fade cX11_fade 2 (some .int) 1 [kr E l0, .int l1] σ (some (.int r), σ1) := by
  refine kd_head (own := RX11) rfl (by decide +kernel) (Nat.le_of_ble_eq_true rfl) (fun A hX => ?_)
  show SW E G (.inl (some (.int r), σ1)) A 2 σ 0 [(0, kr E l0), (1, .int l1)] []
  unfold X11_fade at h
  refine r_iload_n hX dX11_fade_0 rfl 1 rfl ?_
  refine r_iconst hX dX11_fade_1 kk_i_0 ?_
  refine r_sipush hX dX11_fade_2 kk_s_1000 ?_
  refine r_cSi (As := [.int l1, .int (0 : Int32), .int (1000 : Int32)]) (st := []) hX dX11_fade_5 kl_X11_within w_ml_X11_165 w_st_X11_within (by decide) rfl (Nat.le_of_ble_eq_true rfl) rfl kdz0 h (fun r σ1 h => wX11_within h) ?_
  clear h; intro t1 σ h
  refine r_if_eq (tgt := 22) hX dX11_fade_8 (by decide) h ?_ ?_
  · clear h; intro h
    refine r_bipush hX dX11_fade_22 kk_b_m2 ?_
    refine r_sub [] rfl ?_
    exact wX11_fade_24 hX h
  · clear h; intro h
    refine r_aload_n hX dX11_fade_11 rfl 0 rfl ?_
    refine r_gR hX dX11_fade_12 kf_X11_77 rfl h ?_
    clear h; intro t2 h
    refine r_iload_n hX dX11_fade_15 rfl 1 rfl ?_
    refine r_cVi (As := [.int l1]) (st := []) hX dX11_fade_16 kl_X2_setFade w_ml_X11_295 w_im_X2_setFade w_se_X2_setFade ⟨_, _, rfl⟩ (by decide) rfl (Nat.le_of_ble_eq_true rfl) rfl kdz0 h (fun r σ1 h => wX2_setFade h) ?_
    clear h; intro t3 σ h
    refine r_goto (tgt := 24) hX dX11_fade_19 (by decide) ?_
    refine r_sub [] rfl ?_
    exact wX11_fade_24 hX h
def X11_mine_37 (G : kdS) : kdM → Option (Int32 × kdM) :=
  rt (-2 : Int32)
set_option maxRecDepth 100000 in
set_option maxHeartbeats 4000000 in
theorem wX11_mine_37 {E : kdE} {G : kdS} {A : kdA} {r : Int32} {σ1 : kdM} (hX : kdX E A cX11_mine 6 RX11 (some .int) 6) {σ : kdM} (h : X11_mine_37 G  σ = some (r, σ1)) : SW E G (.inl (some (.int r), σ1)) A 6 σ 37 [] [] := by
  unfold X11_mine_37 at h
  refine r_bipush hX dX11_mine_37 kk_b_m2 ?_
  exact r_iret hX dX11_mine_39 h
def X11_mine (G : kdS) (l0 : Nat) (l1 : Int32) (l2 : Int32) (l3 : Int32) (l4 : Int32) (l5 : Int32) : kdM → Option (Int32 × kdM) :=
  kcl (X11_isHand G l1) fun t1 =>
  cnd (t1 = 0)
    (rt (-1 : Int32))
    (kcl (X11_isDay G l2) fun t2 =>
    cnd (t2 = 0)
      (X11_mine_37 G )
      (kcl (X11_within G l3 (1 : Int32) (7 : Int32)) fun t3 =>
      cnd (t3 = 0)
        (X11_mine_37 G )
        (kcl (X11_within G l4 (0 : Int32) (60 : Int32)) fun t4 =>
        cnd (t4 = 0)
          (X11_mine_37 G )
          (gR G 11 0 l0 fun t5 =>
          kcv G 6 t5 (X6_isEmpty G t5) fun t6 =>
          cnd (t6 = 0)
            (kcv G 11 l0 (X11_gather G l0 l3 l4 l1 l2) fun _ =>
            gR G 11 6 l0 fun t7 =>
            kcv G 1 t7 (X1_guessAt G t7 l5) fun t8 =>
            rt t8)
            (rt (-3 : Int32))))))
set_option maxRecDepth 100000 in
set_option maxHeartbeats 4000000 in
theorem wX11_mine {E : kdE} {G : kdS} {l0 : Nat} {l1 : Int32} {l2 : Int32} {l3 : Int32} {l4 : Int32} {l5 : Int32} {σ : kdM} {r : Int32} {σ1 : kdM} (h : X11_mine G l0 l1 l2 l3 l4 l5 σ = some (r, σ1)) : Con E G yX11_mine cX11_mine 6 (some .int) 6 [kr E l0, .int l1, .int l2, .int l3, .int l4, .int l5] σ (some (.int r), σ1) := by
  refine kd_head (own := RX11) rfl (by decide +kernel) (Nat.le_of_ble_eq_true rfl) (fun A hX => ?_)
  show SW E G (.inl (some (.int r), σ1)) A 6 σ 0 [(0, kr E l0), (1, .int l1), (2, .int l2), (3, .int l3), (4, .int l4), (5, .int l5)] []
  unfold X11_mine at h
  refine r_iload_n hX dX11_mine_0 rfl 1 rfl ?_
  refine r_cSi (As := [.int l1]) (st := []) hX dX11_mine_1 kl_X11_isHand w_ml_X11_276 w_st_X11_isHand (by decide) rfl (Nat.le_of_ble_eq_true rfl) rfl kdz0 h (fun r σ1 h => wX11_isHand h) ?_
  clear h; intro t1 σ h
  refine r_if_ne (tgt := 9) hX dX11_mine_4 (by decide) h ?_ ?_
  · clear h; intro h
    refine r_iconst hX dX11_mine_7 kk_i_m1 ?_
    exact r_iret hX dX11_mine_8 h
  · clear h; intro h
    refine r_iload_n hX dX11_mine_9 rfl 2 rfl ?_
    refine r_cSi (As := [.int l2]) (st := []) hX dX11_mine_10 kl_X11_isDay w_ml_X11_279 w_st_X11_isDay (by decide) rfl (Nat.le_of_ble_eq_true rfl) rfl kdz0 h (fun r σ1 h => wX11_isDay h) ?_
    clear h; intro t2 σ h
    refine r_if_eq (tgt := 37) hX dX11_mine_13 (by decide) h ?_ ?_
    · clear h; intro h
      refine r_sub [] rfl ?_
      exact wX11_mine_37 hX h
    · clear h; intro h
      refine r_iload_n hX dX11_mine_16 rfl 3 rfl ?_
      refine r_iconst hX dX11_mine_17 kk_i_1 ?_
      refine r_bipush hX dX11_mine_18 kk_b_7 ?_
      refine r_cSi (As := [.int l3, .int (1 : Int32), .int (7 : Int32)]) (st := []) hX dX11_mine_20 kl_X11_within w_ml_X11_165 w_st_X11_within (by decide) rfl (Nat.le_of_ble_eq_true rfl) rfl kdz0 h (fun r σ1 h => wX11_within h) ?_
      clear h; intro t3 σ h
      refine r_if_eq (tgt := 37) hX dX11_mine_23 (by decide) h ?_ ?_
      · clear h; intro h
        refine r_sub [] rfl ?_
        exact wX11_mine_37 hX h
      · clear h; intro h
        refine r_iload hX dX11_mine_26 4 rfl ?_
        refine r_iconst hX dX11_mine_28 kk_i_0 ?_
        refine r_bipush hX dX11_mine_29 kk_b_60 ?_
        refine r_cSi (As := [.int l4, .int (0 : Int32), .int (60 : Int32)]) (st := []) hX dX11_mine_31 kl_X11_within w_ml_X11_165 w_st_X11_within (by decide) rfl (Nat.le_of_ble_eq_true rfl) rfl kdz0 h (fun r σ1 h => wX11_within h) ?_
        clear h; intro t4 σ h
        refine r_if_ne (tgt := 40) hX dX11_mine_34 (by decide) h ?_ ?_
        · clear h; intro h
          refine r_sub [] rfl ?_
          exact wX11_mine_37 hX h
        · clear h; intro h
          refine r_aload_n hX dX11_mine_40 rfl 0 rfl ?_
          refine r_gR hX dX11_mine_41 kf_X11_14 rfl h ?_
          clear h; intro t5 h
          refine r_cVi (As := []) (st := []) hX dX11_mine_44 kl_X6_isEmpty w_ml_X11_127 w_im_X6_isEmpty w_se_X6_isEmpty ⟨_, _, rfl⟩ (by decide) rfl (Nat.le_of_ble_eq_true rfl) rfl kdz0 h (fun r σ1 h => wX6_isEmpty h) ?_
          clear h; intro t6 σ h
          refine r_if_eq (tgt := 53) hX dX11_mine_47 (by decide) h ?_ ?_
          · clear h; intro h
            refine r_aload_n hX dX11_mine_53 rfl 0 rfl ?_
            refine r_iload_n hX dX11_mine_54 rfl 3 rfl ?_
            refine r_iload hX dX11_mine_55 4 rfl ?_
            refine r_iload_n hX dX11_mine_57 rfl 1 rfl ?_
            refine r_iload_n hX dX11_mine_58 rfl 2 rfl ?_
            refine r_cVv (As := [.int l3, .int l4, .int l1, .int l2]) (st := []) hX dX11_mine_59 kl_X11_gather w_ml_X11_235 w_im_X11_gather w_se_X11_gather ⟨_, _, rfl⟩ (by decide) rfl (Nat.le_of_ble_eq_true rfl) rfl kdz0 h (fun r σ1 h => wX11_gather h) ?_
            clear h; intro u σ h
            refine r_aload_n hX dX11_mine_62 rfl 0 rfl ?_
            refine r_gR hX dX11_mine_63 kf_X11_52 rfl h ?_
            clear h; intro t7 h
            refine r_iload hX dX11_mine_66 5 rfl ?_
            refine r_cVi (As := [.int l5]) (st := []) hX dX11_mine_68 kl_X1_guessAt w_ml_X11_239 w_im_X1_guessAt w_se_X1_guessAt ⟨_, _, rfl⟩ (by decide) rfl (Nat.le_of_ble_eq_true rfl) rfl kdz0 h (fun r σ1 h => wX1_guessAt h) ?_
            clear h; intro t8 σ h
            exact r_iret hX dX11_mine_71 h
          · clear h; intro h
            refine r_bipush hX dX11_mine_50 kk_b_m3 ?_
            exact r_iret hX dX11_mine_52 h
def X11_budget_34 (G : kdS) (s0 : Int32) : kdM → Option (Int32 × kdM) :=
  rt s0
set_option maxRecDepth 100000 in
set_option maxHeartbeats 4000000 in
theorem wX11_budget_34 {E : kdE} {G : kdS} {A : kdA} {r : Int32} {σ1 : kdM} (hX : kdX E A cX11_budget 3 RX11 (some .int) 2) {σ : kdM} {s0 : Int32} (h : X11_budget_34 G s0 σ = some (r, σ1)) : SW E G (.inl (some (.int r), σ1)) A 3 σ 34 [] [.int s0] := by
  unfold X11_budget_34 at h
  exact r_iret hX dX11_budget_34 h
def X11_budget (G : kdS) (l0 : Nat) (l1 : Int32) (l2 : Int32) : kdM → Option (Int32 × kdM) :=
  kcl (X11_isHand G l1) fun t1 =>
  cnd (t1 = 0)
    (rt (-1 : Int32))
    (kcl (X11_within G l2 (0 : Int32) (1000 : Int32)) fun t2 =>
    cnd (t2 = 0)
      (X11_budget_34 G (-2 : Int32))
      (gR G 11 9 l0 fun t3 =>
      kcv G 2 t3 (X2_setBudget G t3 l1 l2) fun t4 =>
      X11_budget_34 G t4))
set_option maxRecDepth 100000 in
set_option maxHeartbeats 4000000 in
theorem wX11_budget {E : kdE} {G : kdS} {l0 : Nat} {l1 : Int32} {l2 : Int32} {σ : kdM} {r : Int32} {σ1 : kdM} (h : X11_budget G l0 l1 l2 σ = some (r, σ1)) : Con E G yX11_budget cX11_budget 3 (some .int) 2 [kr E l0, .int l1, .int l2] σ (some (.int r), σ1) := by
  refine kd_head (own := RX11) rfl (by decide +kernel) (Nat.le_of_ble_eq_true rfl) (fun A hX => ?_)
  show SW E G (.inl (some (.int r), σ1)) A 3 σ 0 [(0, kr E l0), (1, .int l1), (2, .int l2)] []
  unfold X11_budget at h
  refine r_iload_n hX dX11_budget_0 rfl 1 rfl ?_
  refine r_cSi (As := [.int l1]) (st := []) hX dX11_budget_1 kl_X11_isHand w_ml_X11_276 w_st_X11_isHand (by decide) rfl (Nat.le_of_ble_eq_true rfl) rfl kdz0 h (fun r σ1 h => wX11_isHand h) ?_
  clear h; intro t1 σ h
  refine r_if_ne (tgt := 9) hX dX11_budget_4 (by decide) h ?_ ?_
  · clear h; intro h
    refine r_iconst hX dX11_budget_7 kk_i_m1 ?_
    exact r_iret hX dX11_budget_8 h
  · clear h; intro h
    refine r_iload_n hX dX11_budget_9 rfl 2 rfl ?_
    refine r_iconst hX dX11_budget_10 kk_i_0 ?_
    refine r_sipush hX dX11_budget_11 kk_s_1000 ?_
    refine r_cSi (As := [.int l2, .int (0 : Int32), .int (1000 : Int32)]) (st := []) hX dX11_budget_14 kl_X11_within w_ml_X11_165 w_st_X11_within (by decide) rfl (Nat.le_of_ble_eq_true rfl) rfl kdz0 h (fun r σ1 h => wX11_within h) ?_
    clear h; intro t2 σ h
    refine r_if_eq (tgt := 32) hX dX11_budget_17 (by decide) h ?_ ?_
    · clear h; intro h
      refine r_bipush hX dX11_budget_32 kk_b_m2 ?_
      refine r_sub [] rfl ?_
      exact wX11_budget_34 hX h
    · clear h; intro h
      refine r_aload_n hX dX11_budget_20 rfl 0 rfl ?_
      refine r_gR hX dX11_budget_21 kf_X11_77 rfl h ?_
      clear h; intro t3 h
      refine r_iload_n hX dX11_budget_24 rfl 1 rfl ?_
      refine r_iload_n hX dX11_budget_25 rfl 2 rfl ?_
      refine r_cVi (As := [.int l1, .int l2]) (st := []) hX dX11_budget_26 kl_X2_setBudget w_ml_X11_298 w_im_X2_setBudget w_se_X2_setBudget ⟨_, _, rfl⟩ (by decide) rfl (Nat.le_of_ble_eq_true rfl) rfl kdz0 h (fun r σ1 h => wX2_setBudget h) ?_
      clear h; intro t4 σ h
      refine r_goto (tgt := 34) hX dX11_budget_29 (by decide) ?_
      refine r_sub [] rfl ?_
      exact wX11_budget_34 hX h
def X11_seed_24 (G : kdS) (s0 : Int32) : kdM → Option (Int32 × kdM) :=
  rt s0
set_option maxRecDepth 100000 in
set_option maxHeartbeats 4000000 in
theorem wX11_seed_24 {E : kdE} {G : kdS} {A : kdA} {r : Int32} {σ1 : kdM} (hX : kdX E A cX11_seed 2 RX11 (some .int) 1) {σ : kdM} {s0 : Int32} (h : X11_seed_24 G s0 σ = some (r, σ1)) : SW E G (.inl (some (.int r), σ1)) A 2 σ 24 [] [.int s0] := by
  unfold X11_seed_24 at h
  exact r_iret hX dX11_seed_24 h
def X11_seed (G : kdS) (l0 : Nat) (l1 : Int32) : kdM → Option (Int32 × kdM) :=
  kcl (X11_within G l1 (1 : Int32) (1000000 : Int32)) fun t1 =>
  cnd (t1 = 0)
    (X11_seed_24 G (-2 : Int32))
    (gR G 11 9 l0 fun t2 =>
    kcv G 2 t2 (X2_setSeed G t2 l1) fun t3 =>
    X11_seed_24 G t3)
set_option maxRecDepth 100000 in
set_option maxHeartbeats 4000000 in
theorem wX11_seed {E : kdE} {G : kdS} {l0 : Nat} {l1 : Int32} {σ : kdM} {r : Int32} {σ1 : kdM} (h : X11_seed G l0 l1 σ = some (r, σ1)) : Con E G yX11_seed cX11_seed 2 (some .int) 1 [kr E l0, .int l1] σ (some (.int r), σ1) := by
  refine kd_head (own := RX11) rfl (by decide +kernel) (Nat.le_of_ble_eq_true rfl) (fun A hX => ?_)
  show SW E G (.inl (some (.int r), σ1)) A 2 σ 0 [(0, kr E l0), (1, .int l1)] []
  unfold X11_seed at h
  refine r_iload_n hX dX11_seed_0 rfl 1 rfl ?_
  refine r_iconst hX dX11_seed_1 kk_i_1 ?_
  refine r_ldc_w hX dX11_seed_2 w_ct_X11_301 ?_
  refine r_cSi (As := [.int l1, .int (1 : Int32), .int (1000000 : Int32)]) (st := []) hX dX11_seed_5 kl_X11_within w_ml_X11_165 w_st_X11_within (by decide) rfl (Nat.le_of_ble_eq_true rfl) rfl kdz0 h (fun r σ1 h => wX11_within h) ?_
  clear h; intro t1 σ h
  refine r_if_eq (tgt := 22) hX dX11_seed_8 (by decide) h ?_ ?_
  · clear h; intro h
    refine r_bipush hX dX11_seed_22 kk_b_m2 ?_
    refine r_sub [] rfl ?_
    exact wX11_seed_24 hX h
  · clear h; intro h
    refine r_aload_n hX dX11_seed_11 rfl 0 rfl ?_
    refine r_gR hX dX11_seed_12 kf_X11_77 rfl h ?_
    clear h; intro t2 h
    refine r_iload_n hX dX11_seed_15 rfl 1 rfl ?_
    refine r_cVi (As := [.int l1]) (st := []) hX dX11_seed_16 kl_X2_setSeed w_ml_X11_302 w_im_X2_setSeed w_se_X2_setSeed ⟨_, _, rfl⟩ (by decide) rfl (Nat.le_of_ble_eq_true rfl) rfl kdz0 h (fun r σ1 h => wX2_setSeed h) ?_
    clear h; intro t3 σ h
    refine r_goto (tgt := 24) hX dX11_seed_19 (by decide) ?_
    refine r_sub [] rfl ?_
    exact wX11_seed_24 hX h
def X11_share_32 (G : kdS) : kdM → Option (Int32 × kdM) :=
  rt (-1000002 : Int32)
set_option maxRecDepth 100000 in
set_option maxHeartbeats 4000000 in
theorem wX11_share_32 {E : kdE} {G : kdS} {A : kdA} {r : Int32} {σ1 : kdM} (hX : kdX E A cX11_share 4 RX11 (some .int) 4) {σ : kdM} (h : X11_share_32 G  σ = some (r, σ1)) : SW E G (.inl (some (.int r), σ1)) A 4 σ 32 [] [] := by
  unfold X11_share_32 at h
  refine r_ldc_w hX dX11_share_32 w_ct_X11_306 ?_
  exact r_iret hX dX11_share_35 h
def X11_share_64 (G : kdS) (s0 : Int32) : kdM → Option (Int32 × kdM) :=
  rt s0
set_option maxRecDepth 100000 in
set_option maxHeartbeats 4000000 in
theorem wX11_share_64 {E : kdE} {G : kdS} {A : kdA} {r : Int32} {σ1 : kdM} (hX : kdX E A cX11_share 4 RX11 (some .int) 4) {σ : kdM} {s0 : Int32} (h : X11_share_64 G s0 σ = some (r, σ1)) : SW E G (.inl (some (.int r), σ1)) A 4 σ 64 [] [.int s0] := by
  unfold X11_share_64 at h
  exact r_iret hX dX11_share_64 h
def X11_share (G : kdS) (l0 : Nat) (l1 : Int32) (l2 : Int32) (l3 : Int32) : kdM → Option (Int32 × kdM) :=
  gR G 11 4 l0 fun t1 =>
  kcv G 10 t1 (X10_has G t1 l1) fun t2 =>
  cnd (t2 = 0)
    (rt (-1000001 : Int32))
    (kcl (X11_within G l2 (1 : Int32) (100 : Int32)) fun t3 =>
    cnd (t3 = 0)
      (X11_share_32 G )
      (kcl (X11_isDay G l3) fun t4 =>
      cnd (t4 = 0)
        (X11_share_32 G )
        (gR G 11 9 l0 fun t5 =>
        kcv G 2 t5 (X2_givers G t5 l2) fun t6 =>
        cnd ((2 : Int32) ≤ t6)
          (gR G 11 9 l0 fun t7 =>
          kcv G 2 t7 (X2_sumWithLot G t7 l1 l2 l3) fun t8 =>
          X11_share_64 G t8)
          (X11_share_64 G (-1000005 : Int32)))))
set_option maxRecDepth 100000 in
set_option maxHeartbeats 4000000 in
theorem wX11_share {E : kdE} {G : kdS} {l0 : Nat} {l1 : Int32} {l2 : Int32} {l3 : Int32} {σ : kdM} {r : Int32} {σ1 : kdM} (h : X11_share G l0 l1 l2 l3 σ = some (r, σ1)) : Con E G yX11_share cX11_share 4 (some .int) 4 [kr E l0, .int l1, .int l2, .int l3] σ (some (.int r), σ1) := by
  refine kd_head (own := RX11) rfl (by decide +kernel) (Nat.le_of_ble_eq_true rfl) (fun A hX => ?_)
  show SW E G (.inl (some (.int r), σ1)) A 4 σ 0 [(0, kr E l0), (1, .int l1), (2, .int l2), (3, .int l3)] []
  unfold X11_share at h
  refine r_aload_n hX dX11_share_0 rfl 0 rfl ?_
  refine r_gR hX dX11_share_1 kf_X11_38 rfl h ?_
  clear h; intro t1 h
  refine r_iload_n hX dX11_share_4 rfl 1 rfl ?_
  refine r_cVi (As := [.int l1]) (st := []) hX dX11_share_5 kl_X10_has w_ml_X11_212 w_im_X10_has w_se_X10_has ⟨_, _, rfl⟩ (by decide) rfl (Nat.le_of_ble_eq_true rfl) rfl kdz0 h (fun r σ1 h => wX10_has h) ?_
  clear h; intro t2 σ h
  refine r_if_ne (tgt := 15) hX dX11_share_8 (by decide) h ?_ ?_
  · clear h; intro h
    refine r_ldc_w hX dX11_share_11 w_ct_X11_305 ?_
    exact r_iret hX dX11_share_14 h
  · clear h; intro h
    refine r_iload_n hX dX11_share_15 rfl 2 rfl ?_
    refine r_iconst hX dX11_share_16 kk_i_1 ?_
    refine r_bipush hX dX11_share_17 kk_b_100 ?_
    refine r_cSi (As := [.int l2, .int (1 : Int32), .int (100 : Int32)]) (st := []) hX dX11_share_19 kl_X11_within w_ml_X11_165 w_st_X11_within (by decide) rfl (Nat.le_of_ble_eq_true rfl) rfl kdz0 h (fun r σ1 h => wX11_within h) ?_
    clear h; intro t3 σ h
    refine r_if_eq (tgt := 32) hX dX11_share_22 (by decide) h ?_ ?_
    · clear h; intro h
      refine r_sub [] rfl ?_
      exact wX11_share_32 hX h
    · clear h; intro h
      refine r_iload_n hX dX11_share_25 rfl 3 rfl ?_
      refine r_cSi (As := [.int l3]) (st := []) hX dX11_share_26 kl_X11_isDay w_ml_X11_279 w_st_X11_isDay (by decide) rfl (Nat.le_of_ble_eq_true rfl) rfl kdz0 h (fun r σ1 h => wX11_isDay h) ?_
      clear h; intro t4 σ h
      refine r_if_ne (tgt := 36) hX dX11_share_29 (by decide) h ?_ ?_
      · clear h; intro h
        refine r_sub [] rfl ?_
        exact wX11_share_32 hX h
      · clear h; intro h
        refine r_aload_n hX dX11_share_36 rfl 0 rfl ?_
        refine r_gR hX dX11_share_37 kf_X11_77 rfl h ?_
        clear h; intro t5 h
        refine r_iload_n hX dX11_share_40 rfl 2 rfl ?_
        refine r_cVi (As := [.int l2]) (st := []) hX dX11_share_41 kl_X2_givers w_ml_X11_307 w_im_X2_givers w_se_X2_givers ⟨_, _, rfl⟩ (by decide) rfl (Nat.le_of_ble_eq_true rfl) rfl kdz0 h (fun r σ1 h => wX2_givers h) ?_
        clear h; intro t6 σ h
        refine r_iconst hX dX11_share_44 kk_i_2 ?_
        refine r_icmp_ge (tgt := 54) hX dX11_share_45 (by decide) h ?_ ?_
        · clear h; intro h
          refine r_aload_n hX dX11_share_54 rfl 0 rfl ?_
          refine r_gR hX dX11_share_55 kf_X11_77 rfl h ?_
          clear h; intro t7 h
          refine r_iload_n hX dX11_share_58 rfl 1 rfl ?_
          refine r_iload_n hX dX11_share_59 rfl 2 rfl ?_
          refine r_iload_n hX dX11_share_60 rfl 3 rfl ?_
          refine r_cVi (As := [.int l1, .int l2, .int l3]) (st := []) hX dX11_share_61 kl_X2_sumWithLot w_ml_X11_311 w_im_X2_sumWithLot w_se_X2_sumWithLot ⟨_, _, rfl⟩ (by decide) rfl (Nat.le_of_ble_eq_true rfl) rfl kdz0 h (fun r σ1 h => wX2_sumWithLot h) ?_
          clear h; intro t8 σ h
          refine r_sub [] rfl ?_
          exact wX11_share_64 hX h
        · clear h; intro h
          refine r_ldc_w hX dX11_share_48 w_ct_X11_310 ?_
          refine r_goto (tgt := 64) hX dX11_share_51 (by decide) ?_
          refine r_sub [] rfl ?_
          exact wX11_share_64 hX h
def X11_symbols_23 (G : kdS) (s0 : Int32) : kdM → Option (Int32 × kdM) :=
  rt s0
set_option maxRecDepth 100000 in
set_option maxHeartbeats 4000000 in
theorem wX11_symbols_23 {E : kdE} {G : kdS} {A : kdA} {r : Int32} {σ1 : kdM} (hX : kdX E A cX11_symbols 2 RX11 (some .int) 1) {σ : kdM} {s0 : Int32} (h : X11_symbols_23 G s0 σ = some (r, σ1)) : SW E G (.inl (some (.int r), σ1)) A 2 σ 23 [] [.int s0] := by
  unfold X11_symbols_23 at h
  exact r_iret hX dX11_symbols_23 h
def X11_symbols (G : kdS) (l0 : Nat) (l1 : Int32) : kdM → Option (Int32 × kdM) :=
  kcl (X11_within G l1 (2 : Int32) (7 : Int32)) fun t1 =>
  cnd (t1 = 0)
    (X11_symbols_23 G (-2 : Int32))
    (gR G 11 10 l0 fun t2 =>
    kcv G 3 t2 (X3_startAnew G t2 l1) fun t3 =>
    X11_symbols_23 G t3)
set_option maxRecDepth 100000 in
set_option maxHeartbeats 4000000 in
theorem wX11_symbols {E : kdE} {G : kdS} {l0 : Nat} {l1 : Int32} {σ : kdM} {r : Int32} {σ1 : kdM} (h : X11_symbols G l0 l1 σ = some (r, σ1)) : Con E G yX11_symbols cX11_symbols 2 (some .int) 1 [kr E l0, .int l1] σ (some (.int r), σ1) := by
  refine kd_head (own := RX11) rfl (by decide +kernel) (Nat.le_of_ble_eq_true rfl) (fun A hX => ?_)
  show SW E G (.inl (some (.int r), σ1)) A 2 σ 0 [(0, kr E l0), (1, .int l1)] []
  unfold X11_symbols at h
  refine r_iload_n hX dX11_symbols_0 rfl 1 rfl ?_
  refine r_iconst hX dX11_symbols_1 kk_i_2 ?_
  refine r_bipush hX dX11_symbols_2 kk_b_7 ?_
  refine r_cSi (As := [.int l1, .int (2 : Int32), .int (7 : Int32)]) (st := []) hX dX11_symbols_4 kl_X11_within w_ml_X11_165 w_st_X11_within (by decide) rfl (Nat.le_of_ble_eq_true rfl) rfl kdz0 h (fun r σ1 h => wX11_within h) ?_
  clear h; intro t1 σ h
  refine r_if_eq (tgt := 21) hX dX11_symbols_7 (by decide) h ?_ ?_
  · clear h; intro h
    refine r_bipush hX dX11_symbols_21 kk_b_m2 ?_
    refine r_sub [] rfl ?_
    exact wX11_symbols_23 hX h
  · clear h; intro h
    refine r_aload_n hX dX11_symbols_10 rfl 0 rfl ?_
    refine r_gR hX dX11_symbols_11 kf_X11_84 rfl h ?_
    clear h; intro t2 h
    refine r_iload_n hX dX11_symbols_14 rfl 1 rfl ?_
    refine r_cVi (As := [.int l1]) (st := []) hX dX11_symbols_15 kl_X3_startAnew w_ml_X11_314 w_im_X3_startAnew w_se_X3_startAnew ⟨_, _, rfl⟩ (by decide) rfl (Nat.le_of_ble_eq_true rfl) rfl kdz0 h (fun r σ1 h => wX3_startAnew h) ?_
    clear h; intro t3 σ h
    refine r_goto (tgt := 23) hX dX11_symbols_18 (by decide) ?_
    refine r_sub [] rfl ?_
    exact wX11_symbols_23 hX h
def X11_set_113 (G : kdS) (s0 : Int32) : kdM → Option (Int32 × kdM) :=
  rt s0
set_option maxRecDepth 100000 in
set_option maxHeartbeats 4000000 in
theorem wX11_set_113 {E : kdE} {G : kdS} {A : kdA} {r : Int32} {σ1 : kdM} (hX : kdX E A cX11_set 4 RX11 (some .int) 1) {σ : kdM} {s0 : Int32} (h : X11_set_113 G s0 σ = some (r, σ1)) : SW E G (.inl (some (.int r), σ1)) A 4 σ 113 [] [.int s0] := by
  unfold X11_set_113 at h
  exact r_iret hX dX11_set_113 h
def X11_set_88 (G : kdS) (s0 : Int32) : kdM → Option (Int32 × kdM) :=
  rt s0
set_option maxRecDepth 100000 in
set_option maxHeartbeats 4000000 in
theorem wX11_set_88 {E : kdE} {G : kdS} {A : kdA} {r : Int32} {σ1 : kdM} (hX : kdX E A cX11_set 4 RX11 (some .int) 1) {σ : kdM} {s0 : Int32} (h : X11_set_88 G s0 σ = some (r, σ1)) : SW E G (.inl (some (.int r), σ1)) A 4 σ 88 [] [.int s0] := by
  unfold X11_set_88 at h
  exact r_iret hX dX11_set_88 h
def X11_set_64 (G : kdS) (s0 : Int32) : kdM → Option (Int32 × kdM) :=
  rt s0
set_option maxRecDepth 100000 in
set_option maxHeartbeats 4000000 in
theorem wX11_set_64 {E : kdE} {G : kdS} {A : kdA} {r : Int32} {σ1 : kdM} (hX : kdX E A cX11_set 4 RX11 (some .int) 1) {σ : kdM} {s0 : Int32} (h : X11_set_64 G s0 σ = some (r, σ1)) : SW E G (.inl (some (.int r), σ1)) A 4 σ 64 [] [.int s0] := by
  unfold X11_set_64 at h
  exact r_iret hX dX11_set_64 h
def X11_set (G : kdS) (l0 : Nat) (l1 : Int32) (l2 : Int32) (l3 : Int32) : kdM → Option (Int32 × kdM) :=
  gR G 11 10 l0 fun t1 =>
  kcv G 3 t1 (X3_has G t1 l2) fun t2 =>
  cnd (t2 = 0)
    (rt (-1 : Int32))
    (cnd (l1 = (0 : Int32))
      (kcl (X11_within G l3 (0 : Int32) (20 : Int32)) fun t3 =>
      cnd (t3 = 0)
        (X11_set_64 G (-2 : Int32))
        (gR G 11 10 l0 fun t4 =>
        kcv G 3 t4 (X3_setEffort G t4 l2 l3) fun t5 =>
        X11_set_64 G t5))
      (cnd (l1 = (1 : Int32))
        (kcl (X11_within G l3 (0 : Int32) (4 : Int32)) fun t6 =>
        cnd (t6 = 0)
          (X11_set_88 G (-2 : Int32))
          (gR G 11 10 l0 fun t7 =>
          kcv G 3 t7 (X3_setFinger G t7 l2 l3) fun t8 =>
          X11_set_88 G t8))
        (cnd (l1 = (2 : Int32))
          (kcl (X11_within G l3 (0 : Int32) (99 : Int32)) fun t9 =>
          cnd (t9 = 0)
            (X11_set_113 G (-2 : Int32))
            (gR G 11 10 l0 fun t10 =>
            kcv G 3 t10 (X3_setLoad G t10 l2 l3) fun t11 =>
            X11_set_113 G t11))
          (rt (-2 : Int32)))))
set_option maxRecDepth 100000 in
set_option maxHeartbeats 4000000 in
theorem wX11_set {E : kdE} {G : kdS} {l0 : Nat} {l1 : Int32} {l2 : Int32} {l3 : Int32} {σ : kdM} {r : Int32} {σ1 : kdM} (h : X11_set G l0 l1 l2 l3 σ = some (r, σ1)) : Con E G yX11_set cX11_set 4 (some .int) 1 [kr E l0, .int l1, .int l2, .int l3] σ (some (.int r), σ1) := by
  refine kd_head (own := RX11) rfl (by decide +kernel) (Nat.le_of_ble_eq_true rfl) (fun A hX => ?_)
  show SW E G (.inl (some (.int r), σ1)) A 4 σ 0 [(0, kr E l0), (1, .int l1), (2, .int l2), (3, .int l3)] []
  unfold X11_set at h
  refine r_aload_n hX dX11_set_0 rfl 0 rfl ?_
  refine r_gR hX dX11_set_1 kf_X11_84 rfl h ?_
  clear h; intro t1 h
  refine r_iload_n hX dX11_set_4 rfl 2 rfl ?_
  refine r_cVi (As := [.int l2]) (st := []) hX dX11_set_5 kl_X3_has w_ml_X11_317 w_im_X3_has w_se_X3_has ⟨_, _, rfl⟩ (by decide) rfl (Nat.le_of_ble_eq_true rfl) rfl kdz0 h (fun r σ1 h => wX3_has h) ?_
  clear h; intro t2 σ h
  refine r_if_ne (tgt := 13) hX dX11_set_8 (by decide) h ?_ ?_
  · clear h; intro h
    refine r_iconst hX dX11_set_11 kk_i_m1 ?_
    exact r_iret hX dX11_set_12 h
  · clear h; intro h
    refine r_iload_n hX dX11_set_13 rfl 1 rfl ?_
    refine r_case (q := l1 = (0 : Int32)) h ?_ ?_
    · clear h; intro hq h
      refine r_tsIn (tgt := 40) (off := 26) (v := (0 : Int32)) hX dX11_set_14 hq (by decide) (by decide) (by decide +kernel) (by decide) ?_
      clear hq
      refine r_iload_n hX dX11_set_40 rfl 3 rfl ?_
      refine r_iconst hX dX11_set_41 kk_i_0 ?_
      refine r_bipush hX dX11_set_42 kk_b_20 ?_
      refine r_cSi (As := [.int l3, .int (0 : Int32), .int (20 : Int32)]) (st := []) hX dX11_set_44 kl_X11_within w_ml_X11_165 w_st_X11_within (by decide) rfl (Nat.le_of_ble_eq_true rfl) rfl kdz0 h (fun r σ1 h => wX11_within h) ?_
      clear h; intro t3 σ h
      refine r_if_eq (tgt := 62) hX dX11_set_47 (by decide) h ?_ ?_
      · clear h; intro h
        refine r_bipush hX dX11_set_62 kk_b_m2 ?_
        refine r_sub [] rfl ?_
        exact wX11_set_64 hX h
      · clear h; intro h
        refine r_aload_n hX dX11_set_50 rfl 0 rfl ?_
        refine r_gR hX dX11_set_51 kf_X11_84 rfl h ?_
        clear h; intro t4 h
        refine r_iload_n hX dX11_set_54 rfl 2 rfl ?_
        refine r_iload_n hX dX11_set_55 rfl 3 rfl ?_
        refine r_cVi (As := [.int l2, .int l3]) (st := []) hX dX11_set_56 kl_X3_setEffort w_ml_X11_318 w_im_X3_setEffort w_se_X3_setEffort ⟨_, _, rfl⟩ (by decide) rfl (Nat.le_of_ble_eq_true rfl) rfl kdz0 h (fun r σ1 h => wX3_setEffort h) ?_
        clear h; intro t5 σ h
        refine r_goto (tgt := 64) hX dX11_set_59 (by decide) ?_
        refine r_sub [] rfl ?_
        exact wX11_set_64 hX h
    · clear h; intro hn0 h
      refine r_case (q := l1 = (1 : Int32)) h ?_ ?_
      · clear h; intro hq h
        refine r_tsIn (tgt := 65) (off := 51) (v := (1 : Int32)) hX dX11_set_14 hq (by decide) (by decide) (by decide +kernel) (by decide) ?_
        clear hq
        refine r_iload_n hX dX11_set_65 rfl 3 rfl ?_
        refine r_iconst hX dX11_set_66 kk_i_0 ?_
        refine r_iconst hX dX11_set_67 kk_i_4 ?_
        refine r_cSi (As := [.int l3, .int (0 : Int32), .int (4 : Int32)]) (st := []) hX dX11_set_68 kl_X11_within w_ml_X11_165 w_st_X11_within (by decide) rfl (Nat.le_of_ble_eq_true rfl) rfl kdz0 h (fun r σ1 h => wX11_within h) ?_
        clear h; intro t6 σ h
        refine r_if_eq (tgt := 86) hX dX11_set_71 (by decide) h ?_ ?_
        · clear h; intro h
          refine r_bipush hX dX11_set_86 kk_b_m2 ?_
          refine r_sub [] rfl ?_
          exact wX11_set_88 hX h
        · clear h; intro h
          refine r_aload_n hX dX11_set_74 rfl 0 rfl ?_
          refine r_gR hX dX11_set_75 kf_X11_84 rfl h ?_
          clear h; intro t7 h
          refine r_iload_n hX dX11_set_78 rfl 2 rfl ?_
          refine r_iload_n hX dX11_set_79 rfl 3 rfl ?_
          refine r_cVi (As := [.int l2, .int l3]) (st := []) hX dX11_set_80 kl_X3_setFinger w_ml_X11_321 w_im_X3_setFinger w_se_X3_setFinger ⟨_, _, rfl⟩ (by decide) rfl (Nat.le_of_ble_eq_true rfl) rfl kdz0 h (fun r σ1 h => wX3_setFinger h) ?_
          clear h; intro t8 σ h
          refine r_goto (tgt := 88) hX dX11_set_83 (by decide) ?_
          refine r_sub [] rfl ?_
          exact wX11_set_88 hX h
      · clear h; intro hn1 h
        refine r_case (q := l1 = (2 : Int32)) h ?_ ?_
        · clear h; intro hq h
          refine r_tsIn (tgt := 89) (off := 75) (v := (2 : Int32)) hX dX11_set_14 hq (by decide) (by decide) (by decide +kernel) (by decide) ?_
          clear hq
          refine r_iload_n hX dX11_set_89 rfl 3 rfl ?_
          refine r_iconst hX dX11_set_90 kk_i_0 ?_
          refine r_bipush hX dX11_set_91 kk_b_99 ?_
          refine r_cSi (As := [.int l3, .int (0 : Int32), .int (99 : Int32)]) (st := []) hX dX11_set_93 kl_X11_within w_ml_X11_165 w_st_X11_within (by decide) rfl (Nat.le_of_ble_eq_true rfl) rfl kdz0 h (fun r σ1 h => wX11_within h) ?_
          clear h; intro t9 σ h
          refine r_if_eq (tgt := 111) hX dX11_set_96 (by decide) h ?_ ?_
          · clear h; intro h
            refine r_bipush hX dX11_set_111 kk_b_m2 ?_
            refine r_sub [] rfl ?_
            exact wX11_set_113 hX h
          · clear h; intro h
            refine r_aload_n hX dX11_set_99 rfl 0 rfl ?_
            refine r_gR hX dX11_set_100 kf_X11_84 rfl h ?_
            clear h; intro t10 h
            refine r_iload_n hX dX11_set_103 rfl 2 rfl ?_
            refine r_iload_n hX dX11_set_104 rfl 3 rfl ?_
            refine r_cVi (As := [.int l2, .int l3]) (st := []) hX dX11_set_105 kl_X3_setLoad w_ml_X11_324 w_im_X3_setLoad w_se_X3_setLoad ⟨_, _, rfl⟩ (by decide) rfl (Nat.le_of_ble_eq_true rfl) rfl kdz0 h (fun r σ1 h => wX3_setLoad h) ?_
            clear h; intro t11 σ h
            refine r_goto (tgt := 113) hX dX11_set_108 (by decide) ?_
            refine r_sub [] rfl ?_
            exact wX11_set_113 hX h
        · clear h; intro hn2 h
          refine r_tsOut (tgt := 114) hX dX11_set_14 (by have e0 := kd_ne (a := 0) hn0 (by decide); have e1 := kd_ne (a := 1) hn1 (by decide); have e2 := kd_ne (a := 2) hn2 (by decide); omega) (by decide) ?_
          refine r_bipush hX dX11_set_114 kk_b_m2 ?_
          exact r_iret hX dX11_set_116 h
def X11_pair_22 (G : kdS) : kdM → Option (Int32 × kdM) :=
  rt (-1 : Int32)
set_option maxRecDepth 100000 in
set_option maxHeartbeats 4000000 in
theorem wX11_pair_22 {E : kdE} {G : kdS} {A : kdA} {r : Int32} {σ1 : kdM} (hX : kdX E A cX11_pair 4 RX11 (some .int) 1) {σ : kdM} (h : X11_pair_22 G  σ = some (r, σ1)) : SW E G (.inl (some (.int r), σ1)) A 4 σ 22 [] [] := by
  unfold X11_pair_22 at h
  refine r_iconst hX dX11_pair_22 kk_i_m1 ?_
  exact r_iret hX dX11_pair_23 h
def X11_pair_49 (G : kdS) (s0 : Int32) : kdM → Option (Int32 × kdM) :=
  rt s0
set_option maxRecDepth 100000 in
set_option maxHeartbeats 4000000 in
theorem wX11_pair_49 {E : kdE} {G : kdS} {A : kdA} {r : Int32} {σ1 : kdM} (hX : kdX E A cX11_pair 4 RX11 (some .int) 1) {σ : kdM} {s0 : Int32} (h : X11_pair_49 G s0 σ = some (r, σ1)) : SW E G (.inl (some (.int r), σ1)) A 4 σ 49 [] [.int s0] := by
  unfold X11_pair_49 at h
  exact r_iret hX dX11_pair_49 h
def X11_pair (G : kdS) (l0 : Nat) (l1 : Int32) (l2 : Int32) (l3 : Int32) : kdM → Option (Int32 × kdM) :=
  gR G 11 10 l0 fun t1 =>
  kcv G 3 t1 (X3_has G t1 l1) fun t2 =>
  cnd (t2 = 0)
    (X11_pair_22 G )
    (gR G 11 10 l0 fun t3 =>
    kcv G 3 t3 (X3_has G t3 l2) fun t4 =>
    cnd (t4 = 0)
      (X11_pair_22 G )
      (kcl (X11_within G l3 (0 : Int32) (50 : Int32)) fun t5 =>
      cnd (t5 = 0)
        (X11_pair_49 G (-2 : Int32))
        (gR G 11 10 l0 fun t6 =>
        kcv G 3 t6 (X3_setPair G t6 l1 l2 l3) fun t7 =>
        X11_pair_49 G t7)))
set_option maxRecDepth 100000 in
set_option maxHeartbeats 4000000 in
theorem wX11_pair {E : kdE} {G : kdS} {l0 : Nat} {l1 : Int32} {l2 : Int32} {l3 : Int32} {σ : kdM} {r : Int32} {σ1 : kdM} (h : X11_pair G l0 l1 l2 l3 σ = some (r, σ1)) : Con E G yX11_pair cX11_pair 4 (some .int) 1 [kr E l0, .int l1, .int l2, .int l3] σ (some (.int r), σ1) := by
  refine kd_head (own := RX11) rfl (by decide +kernel) (Nat.le_of_ble_eq_true rfl) (fun A hX => ?_)
  show SW E G (.inl (some (.int r), σ1)) A 4 σ 0 [(0, kr E l0), (1, .int l1), (2, .int l2), (3, .int l3)] []
  unfold X11_pair at h
  refine r_aload_n hX dX11_pair_0 rfl 0 rfl ?_
  refine r_gR hX dX11_pair_1 kf_X11_84 rfl h ?_
  clear h; intro t1 h
  refine r_iload_n hX dX11_pair_4 rfl 1 rfl ?_
  refine r_cVi (As := [.int l1]) (st := []) hX dX11_pair_5 kl_X3_has w_ml_X11_317 w_im_X3_has w_se_X3_has ⟨_, _, rfl⟩ (by decide) rfl (Nat.le_of_ble_eq_true rfl) rfl kdz0 h (fun r σ1 h => wX3_has h) ?_
  clear h; intro t2 σ h
  refine r_if_eq (tgt := 22) hX dX11_pair_8 (by decide) h ?_ ?_
  · clear h; intro h
    refine r_sub [] rfl ?_
    exact wX11_pair_22 hX h
  · clear h; intro h
    refine r_aload_n hX dX11_pair_11 rfl 0 rfl ?_
    refine r_gR hX dX11_pair_12 kf_X11_84 rfl h ?_
    clear h; intro t3 h
    refine r_iload_n hX dX11_pair_15 rfl 2 rfl ?_
    refine r_cVi (As := [.int l2]) (st := []) hX dX11_pair_16 kl_X3_has w_ml_X11_317 w_im_X3_has w_se_X3_has ⟨_, _, rfl⟩ (by decide) rfl (Nat.le_of_ble_eq_true rfl) rfl kdz0 h (fun r σ1 h => wX3_has h) ?_
    clear h; intro t4 σ h
    refine r_if_ne (tgt := 24) hX dX11_pair_19 (by decide) h ?_ ?_
    · clear h; intro h
      refine r_sub [] rfl ?_
      exact wX11_pair_22 hX h
    · clear h; intro h
      refine r_iload_n hX dX11_pair_24 rfl 3 rfl ?_
      refine r_iconst hX dX11_pair_25 kk_i_0 ?_
      refine r_bipush hX dX11_pair_26 kk_b_50 ?_
      refine r_cSi (As := [.int l3, .int (0 : Int32), .int (50 : Int32)]) (st := []) hX dX11_pair_28 kl_X11_within w_ml_X11_165 w_st_X11_within (by decide) rfl (Nat.le_of_ble_eq_true rfl) rfl kdz0 h (fun r σ1 h => wX11_within h) ?_
      clear h; intro t5 σ h
      refine r_if_eq (tgt := 47) hX dX11_pair_31 (by decide) h ?_ ?_
      · clear h; intro h
        refine r_bipush hX dX11_pair_47 kk_b_m2 ?_
        refine r_sub [] rfl ?_
        exact wX11_pair_49 hX h
      · clear h; intro h
        refine r_aload_n hX dX11_pair_34 rfl 0 rfl ?_
        refine r_gR hX dX11_pair_35 kf_X11_84 rfl h ?_
        clear h; intro t6 h
        refine r_iload_n hX dX11_pair_38 rfl 1 rfl ?_
        refine r_iload_n hX dX11_pair_39 rfl 2 rfl ?_
        refine r_iload_n hX dX11_pair_40 rfl 3 rfl ?_
        refine r_cVi (As := [.int l1, .int l2, .int l3]) (st := []) hX dX11_pair_41 kl_X3_setPair w_ml_X11_327 w_im_X3_setPair w_se_X3_setPair ⟨_, _, rfl⟩ (by decide) rfl (Nat.le_of_ble_eq_true rfl) rfl kdz0 h (fun r σ1 h => wX3_setPair h) ?_
        clear h; intro t7 σ h
        refine r_goto (tgt := 49) hX dX11_pair_44 (by decide) ?_
        refine r_sub [] rfl ?_
        exact wX11_pair_49 hX h
def X11_same_23 (G : kdS) (s0 : Int32) : kdM → Option (Int32 × kdM) :=
  rt s0
set_option maxRecDepth 100000 in
set_option maxHeartbeats 4000000 in
theorem wX11_same_23 {E : kdE} {G : kdS} {A : kdA} {r : Int32} {σ1 : kdM} (hX : kdX E A cX11_same 2 RX11 (some .int) 1) {σ : kdM} {s0 : Int32} (h : X11_same_23 G s0 σ = some (r, σ1)) : SW E G (.inl (some (.int r), σ1)) A 2 σ 23 [] [.int s0] := by
  unfold X11_same_23 at h
  exact r_iret hX dX11_same_23 h
def X11_same (G : kdS) (l0 : Nat) (l1 : Int32) : kdM → Option (Int32 × kdM) :=
  kcl (X11_within G l1 (0 : Int32) (20 : Int32)) fun t1 =>
  cnd (t1 = 0)
    (X11_same_23 G (-2 : Int32))
    (gR G 11 10 l0 fun t2 =>
    kcv G 3 t2 (X3_setSame G t2 l1) fun t3 =>
    X11_same_23 G t3)
set_option maxRecDepth 100000 in
set_option maxHeartbeats 4000000 in
theorem wX11_same {E : kdE} {G : kdS} {l0 : Nat} {l1 : Int32} {σ : kdM} {r : Int32} {σ1 : kdM} (h : X11_same G l0 l1 σ = some (r, σ1)) : Con E G yX11_same cX11_same 2 (some .int) 1 [kr E l0, .int l1] σ (some (.int r), σ1) := by
  refine kd_head (own := RX11) rfl (by decide +kernel) (Nat.le_of_ble_eq_true rfl) (fun A hX => ?_)
  show SW E G (.inl (some (.int r), σ1)) A 2 σ 0 [(0, kr E l0), (1, .int l1)] []
  unfold X11_same at h
  refine r_iload_n hX dX11_same_0 rfl 1 rfl ?_
  refine r_iconst hX dX11_same_1 kk_i_0 ?_
  refine r_bipush hX dX11_same_2 kk_b_20 ?_
  refine r_cSi (As := [.int l1, .int (0 : Int32), .int (20 : Int32)]) (st := []) hX dX11_same_4 kl_X11_within w_ml_X11_165 w_st_X11_within (by decide) rfl (Nat.le_of_ble_eq_true rfl) rfl kdz0 h (fun r σ1 h => wX11_within h) ?_
  clear h; intro t1 σ h
  refine r_if_eq (tgt := 21) hX dX11_same_7 (by decide) h ?_ ?_
  · clear h; intro h
    refine r_bipush hX dX11_same_21 kk_b_m2 ?_
    refine r_sub [] rfl ?_
    exact wX11_same_23 hX h
  · clear h; intro h
    refine r_aload_n hX dX11_same_10 rfl 0 rfl ?_
    refine r_gR hX dX11_same_11 kf_X11_84 rfl h ?_
    clear h; intro t2 h
    refine r_iload_n hX dX11_same_14 rfl 1 rfl ?_
    refine r_cVi (As := [.int l1]) (st := []) hX dX11_same_15 kl_X3_setSame w_ml_X11_330 w_im_X3_setSame w_se_X3_setSame ⟨_, _, rfl⟩ (by decide) rfl (Nat.le_of_ble_eq_true rfl) rfl kdz0 h (fun r σ1 h => wX3_setSame h) ?_
    clear h; intro t3 σ h
    refine r_goto (tgt := 23) hX dX11_same_18 (by decide) ?_
    refine r_sub [] rfl ?_
    exact wX11_same_23 hX h
def X11_cost_23 (G : kdS) (s0 : Int32) : kdM → Option (Int32 × kdM) :=
  rt s0
set_option maxRecDepth 100000 in
set_option maxHeartbeats 4000000 in
theorem wX11_cost_23 {E : kdE} {G : kdS} {A : kdA} {r : Int32} {σ1 : kdM} (hX : kdX E A cX11_cost 2 RX11 (some .int) 4) {σ : kdM} {s0 : Int32} (h : X11_cost_23 G s0 σ = some (r, σ1)) : SW E G (.inl (some (.int r), σ1)) A 2 σ 23 [] [.int s0] := by
  unfold X11_cost_23 at h
  exact r_iret hX dX11_cost_23 h
def X11_cost (G : kdS) (l0 : Nat) (l1 : Int32) : kdM → Option (Int32 × kdM) :=
  gR G 11 10 l0 fun t1 =>
  kcv G 3 t1 (X3_read G t1 l1) fun t2 =>
  cnd (t2 = 0)
    (X11_cost_23 G (-2 : Int32))
    (gR G 11 10 l0 fun t3 =>
    kcv G 3 t3 (X3_totalCost G t3) fun t4 =>
    X11_cost_23 G t4)
set_option maxRecDepth 100000 in
set_option maxHeartbeats 4000000 in
theorem wX11_cost {E : kdE} {G : kdS} {l0 : Nat} {l1 : Int32} {σ : kdM} {r : Int32} {σ1 : kdM} (h : X11_cost G l0 l1 σ = some (r, σ1)) : Con E G yX11_cost cX11_cost 2 (some .int) 4 [kr E l0, .int l1] σ (some (.int r), σ1) := by
  refine kd_head (own := RX11) rfl (by decide +kernel) (Nat.le_of_ble_eq_true rfl) (fun A hX => ?_)
  show SW E G (.inl (some (.int r), σ1)) A 2 σ 0 [(0, kr E l0), (1, .int l1)] []
  unfold X11_cost at h
  refine r_aload_n hX dX11_cost_0 rfl 0 rfl ?_
  refine r_gR hX dX11_cost_1 kf_X11_84 rfl h ?_
  clear h; intro t1 h
  refine r_iload_n hX dX11_cost_4 rfl 1 rfl ?_
  refine r_cVi (As := [.int l1]) (st := []) hX dX11_cost_5 kl_X3_read w_ml_X11_333 w_im_X3_read w_se_X3_read ⟨_, _, rfl⟩ (by decide) rfl (Nat.le_of_ble_eq_true rfl) rfl kdz0 h (fun r σ1 h => wX3_read h) ?_
  clear h; intro t2 σ h
  refine r_if_eq (tgt := 21) hX dX11_cost_8 (by decide) h ?_ ?_
  · clear h; intro h
    refine r_bipush hX dX11_cost_21 kk_b_m2 ?_
    refine r_sub [] rfl ?_
    exact wX11_cost_23 hX h
  · clear h; intro h
    refine r_aload_n hX dX11_cost_11 rfl 0 rfl ?_
    refine r_gR hX dX11_cost_12 kf_X11_84 rfl h ?_
    clear h; intro t3 h
    refine r_cVi (As := []) (st := []) hX dX11_cost_15 kl_X3_totalCost w_ml_X11_336 w_im_X3_totalCost w_se_X3_totalCost ⟨_, _, rfl⟩ (by decide) rfl (Nat.le_of_ble_eq_true rfl) rfl kdz0 h (fun r σ1 h => wX3_totalCost h) ?_
    clear h; intro t4 σ h
    refine r_goto (tgt := 23) hX dX11_cost_18 (by decide) ?_
    refine r_sub [] rfl ?_
    exact wX11_cost_23 hX h
def X11_best (G : kdS) (l0 : Nat) : kdM → Option (Int32 × kdM) :=
  gR G 11 10 l0 fun t1 =>
  kcv G 3 t1 (X3_leastCostly G t1) fun t2 =>
  rt t2
set_option maxRecDepth 100000 in
set_option maxHeartbeats 4000000 in
theorem wX11_best {E : kdE} {G : kdS} {l0 : Nat} {σ : kdM} {r : Int32} {σ1 : kdM} (h : X11_best G l0 σ = some (r, σ1)) : Con E G yX11_best cX11_best 1 (some .int) 17 [kr E l0] σ (some (.int r), σ1) := by
  refine kd_head (own := RX11) rfl (by decide +kernel) (Nat.le_of_ble_eq_true rfl) (fun A hX => ?_)
  show SW E G (.inl (some (.int r), σ1)) A 1 σ 0 [(0, kr E l0)] []
  unfold X11_best at h
  refine r_aload_n hX dX11_best_0 rfl 0 rfl ?_
  refine r_gR hX dX11_best_1 kf_X11_84 rfl h ?_
  clear h; intro t1 h
  refine r_cVi (As := []) (st := []) hX dX11_best_4 kl_X3_leastCostly w_ml_X11_339 w_im_X3_leastCostly w_se_X3_leastCostly ⟨_, _, rfl⟩ (by decide) rfl (Nat.le_of_ble_eq_true rfl) rfl kdz0 h (fun r σ1 h => wX3_leastCostly h) ?_
  clear h; intro t2 σ h
  exact r_iret hX dX11_best_7 h
def X11_bound (G : kdS) (l0 : Nat) : kdM → Option (Int32 × kdM) :=
  gR G 11 10 l0 fun t1 =>
  kcv G 3 t1 (X3_lowerBound G t1) fun t2 =>
  rt t2
set_option maxRecDepth 100000 in
set_option maxHeartbeats 4000000 in
theorem wX11_bound {E : kdE} {G : kdS} {l0 : Nat} {σ : kdM} {r : Int32} {σ1 : kdM} (h : X11_bound G l0 σ = some (r, σ1)) : Con E G yX11_bound cX11_bound 1 (some .int) 2 [kr E l0] σ (some (.int r), σ1) := by
  refine kd_head (own := RX11) rfl (by decide +kernel) (Nat.le_of_ble_eq_true rfl) (fun A hX => ?_)
  show SW E G (.inl (some (.int r), σ1)) A 1 σ 0 [(0, kr E l0)] []
  unfold X11_bound at h
  refine r_aload_n hX dX11_bound_0 rfl 0 rfl ?_
  refine r_gR hX dX11_bound_1 kf_X11_84 rfl h ?_
  clear h; intro t1 h
  refine r_cVi (As := []) (st := []) hX dX11_bound_4 kl_X3_lowerBound w_ml_X11_342 w_im_X3_lowerBound w_se_X3_lowerBound ⟨_, _, rfl⟩ (by decide) rfl (Nat.le_of_ble_eq_true rfl) rfl kdz0 h (fun r σ1 h => wX3_lowerBound h) ?_
  clear h; intro t2 σ h
  exact r_iret hX dX11_bound_7 h
def X11_better_20 (G : kdS) : kdM → Option (Int32 × kdM) :=
  rt (-2 : Int32)
set_option maxRecDepth 100000 in
set_option maxHeartbeats 4000000 in
theorem wX11_better_20 {E : kdE} {G : kdS} {A : kdA} {r : Int32} {σ1 : kdM} (hX : kdX E A cX11_better 4 RX11 (some .int) 6) {σ : kdM} (h : X11_better_20 G  σ = some (r, σ1)) : SW E G (.inl (some (.int r), σ1)) A 4 σ 20 [] [] := by
  unfold X11_better_20 at h
  refine r_bipush hX dX11_better_20 kk_b_m2 ?_
  exact r_iret hX dX11_better_22 h
def X11_better_46 (G : kdS) (s0 : Int32) : kdM → Option (Int32 × kdM) :=
  rt s0
set_option maxRecDepth 100000 in
set_option maxHeartbeats 4000000 in
theorem wX11_better_46 {E : kdE} {G : kdS} {A : kdA} {r : Int32} {σ1 : kdM} (hX : kdX E A cX11_better 4 RX11 (some .int) 6) {σ : kdM} {s0 : Int32} (h : X11_better_46 G s0 σ = some (r, σ1)) : SW E G (.inl (some (.int r), σ1)) A 4 σ 46 [] [.int s0] := by
  unfold X11_better_46 at h
  exact r_iret hX dX11_better_46 h
def X11_better (G : kdS) (l0 : Nat) (l1 : Int32) (l2 : Int32) : kdM → Option (Int32 × kdM) :=
  kcl (X11_within G l2 (0 : Int32) (1 : Int32)) fun t1 =>
  cnd (t1 = 0)
    (X11_better_20 G )
    (gR G 11 10 l0 fun t2 =>
    kcv G 3 t2 (X3_read G t2 l1) fun t3 =>
    cnd (t3 = 0)
      (X11_better_20 G )
      (gR G 11 10 l0 fun t4 =>
      kcv G 3 t4 (X3_improve G t4) fun t5 =>
      cnd (l2 = 0)
        (gR G 11 10 l0 fun t6 =>
        kcv G 3 t6 (X3_digits G t6) fun t7 =>
        X11_better_46 G t7)
        (X11_better_46 G t5)))
set_option maxRecDepth 100000 in
set_option maxHeartbeats 4000000 in
theorem wX11_better {E : kdE} {G : kdS} {l0 : Nat} {l1 : Int32} {l2 : Int32} {σ : kdM} {r : Int32} {σ1 : kdM} (h : X11_better G l0 l1 l2 σ = some (r, σ1)) : Con E G yX11_better cX11_better 4 (some .int) 6 [kr E l0, .int l1, .int l2] σ (some (.int r), σ1) := by
  refine kd_head (own := RX11) rfl (by decide +kernel) (Nat.le_of_ble_eq_true rfl) (fun A hX => ?_)
  show SW E G (.inl (some (.int r), σ1)) A 4 σ 0 [(0, kr E l0), (1, .int l1), (2, .int l2)] []
  unfold X11_better at h
  refine r_iload_n hX dX11_better_0 rfl 2 rfl ?_
  refine r_iconst hX dX11_better_1 kk_i_0 ?_
  refine r_iconst hX dX11_better_2 kk_i_1 ?_
  refine r_cSi (As := [.int l2, .int (0 : Int32), .int (1 : Int32)]) (st := []) hX dX11_better_3 kl_X11_within w_ml_X11_165 w_st_X11_within (by decide) rfl (Nat.le_of_ble_eq_true rfl) rfl kdz0 h (fun r σ1 h => wX11_within h) ?_
  clear h; intro t1 σ h
  refine r_if_eq (tgt := 20) hX dX11_better_6 (by decide) h ?_ ?_
  · clear h; intro h
    refine r_sub [] rfl ?_
    exact wX11_better_20 hX h
  · clear h; intro h
    refine r_aload_n hX dX11_better_9 rfl 0 rfl ?_
    refine r_gR hX dX11_better_10 kf_X11_84 rfl h ?_
    clear h; intro t2 h
    refine r_iload_n hX dX11_better_13 rfl 1 rfl ?_
    refine r_cVi (As := [.int l1]) (st := []) hX dX11_better_14 kl_X3_read w_ml_X11_333 w_im_X3_read w_se_X3_read ⟨_, _, rfl⟩ (by decide) rfl (Nat.le_of_ble_eq_true rfl) rfl kdz0 h (fun r σ1 h => wX3_read h) ?_
    clear h; intro t3 σ h
    refine r_if_ne (tgt := 23) hX dX11_better_17 (by decide) h ?_ ?_
    · clear h; intro h
      refine r_sub [] rfl ?_
      exact wX11_better_20 hX h
    · clear h; intro h
      refine r_aload_n hX dX11_better_23 rfl 0 rfl ?_
      refine r_gR hX dX11_better_24 kf_X11_84 rfl h ?_
      clear h; intro t4 h
      refine r_cVi (As := []) (st := []) hX dX11_better_27 kl_X3_improve w_ml_X11_345 w_im_X3_improve w_se_X3_improve ⟨_, _, rfl⟩ (by decide) rfl (Nat.le_of_ble_eq_true rfl) rfl kdz0 h (fun r σ1 h => wX3_improve h) ?_
      clear h; intro t5 σ h
      refine r_istore_n (L2 := [(3, .int t5), (0, kr E l0), (1, .int l1), (2, .int l2)]) hX dX11_better_30 rfl (by decide) rfl ?_
      refine r_iload_n hX dX11_better_31 rfl 3 rfl ?_
      refine r_if_ne (tgt := 45) hX dX11_better_32 (by decide) h ?_ ?_
      · clear h; intro h
        refine r_aload_n hX dX11_better_35 rfl 1 rfl ?_
        refine r_gR hX dX11_better_36 kf_X11_84 rfl h ?_
        clear h; intro t6 h
        refine r_cVi (As := []) (st := []) hX dX11_better_39 kl_X3_digits w_ml_X11_348 w_im_X3_digits w_se_X3_digits ⟨_, _, rfl⟩ (by decide) rfl (Nat.le_of_ble_eq_true rfl) rfl kdz0 h (fun r σ1 h => wX3_digits h) ?_
        clear h; intro t7 σ h
        refine r_goto (tgt := 46) hX dX11_better_42 (by decide) ?_
        refine r_sub [] rfl ?_
        exact wX11_better_46 hX h
      · clear h; intro h
        refine r_iload_n hX dX11_better_45 rfl 0 rfl ?_
        refine r_sub [] rfl ?_
        exact wX11_better_46 hX h
def X11_way_22 (G : kdS) : kdM → Option (Int32 × kdM) :=
  rt (-2 : Int32)
set_option maxRecDepth 100000 in
set_option maxHeartbeats 4000000 in
theorem wX11_way_22 {E : kdE} {G : kdS} {A : kdA} {r : Int32} {σ1 : kdM} (hX : kdX E A cX11_way 4 RX11 (some .int) 6) {σ : kdM} (h : X11_way_22 G  σ = some (r, σ1)) : SW E G (.inl (some (.int r), σ1)) A 4 σ 22 [] [] := by
  unfold X11_way_22 at h
  refine r_bipush hX dX11_way_22 kk_b_m2 ?_
  exact r_iret hX dX11_way_24 h
def X11_way_127 (G : kdS) (s0 : Int32) : kdM → Option (Int32 × kdM) :=
  rt s0
set_option maxRecDepth 100000 in
set_option maxHeartbeats 4000000 in
theorem wX11_way_127 {E : kdE} {G : kdS} {A : kdA} {r : Int32} {σ1 : kdM} (hX : kdX E A cX11_way 4 RX11 (some .int) 6) {σ : kdM} {s0 : Int32} (h : X11_way_127 G s0 σ = some (r, σ1)) : SW E G (.inl (some (.int r), σ1)) A 4 σ 127 [] [.int s0] := by
  unfold X11_way_127 at h
  exact r_iret hX dX11_way_127 h
def X11_way (G : kdS) (l0 : Nat) (l1 : Int32) (l2 : Int32) (l3 : Int32) : kdM → Option (Int32 × kdM) :=
  gR G 11 10 l0 fun t1 =>
  kcv G 3 t1 (X3_read G t1 l1) fun t2 =>
  cnd (t2 = 0)
    (X11_way_22 G )
    (gR G 11 10 l0 fun t3 =>
    kcv G 3 t3 (X3_read G t3 l2) fun t4 =>
    cnd (t4 = 0)
      (X11_way_22 G )
      (gR G 11 10 l0 fun t5 =>
      kcv G 3 t5 (X3_size G t5) fun t6 =>
      cnd (t6 ≤ (5 : Int32))
        (gR G 11 11 l0 fun t7 =>
        kcv G 9 t7 (X9_find G t7 l1 l2) fun _ =>
        cnd (l3 = (-2 : Int32))
          (gR G 11 11 l0 fun t8 =>
          kcv G 9 t8 (X9_path G t8) fun t9 =>
          kcv G 6 t9 (X6_size G t9) fun t10 =>
          rt (t10 - (1 : Int32)))
          (cnd (l3 = (-1 : Int32))
            (gR G 11 11 l0 fun t11 =>
            kcv G 9 t11 (X9_peak G t11) fun t12 =>
            rt t12)
            (gR G 11 11 l0 fun t13 =>
            kcv G 9 t13 (X9_path G t13) fun t14 =>
            kcv G 6 t14 (X6_has G t14 l3) fun t15 =>
            cnd (t15 = 0)
              (X11_way_127 G (-6 : Int32))
              (gR G 11 11 l0 fun t16 =>
              kcv G 9 t16 (X9_path G t16) fun t17 =>
              kcv G 6 t17 (X6_at G t17 l3) fun t18 =>
              X11_way_127 G t18))))
        (rt (-3 : Int32))))
set_option maxRecDepth 100000 in
set_option maxHeartbeats 4000000 in
theorem wX11_way {E : kdE} {G : kdS} {l0 : Nat} {l1 : Int32} {l2 : Int32} {l3 : Int32} {σ : kdM} {r : Int32} {σ1 : kdM} (h : X11_way G l0 l1 l2 l3 σ = some (r, σ1)) : Con E G yX11_way cX11_way 4 (some .int) 6 [kr E l0, .int l1, .int l2, .int l3] σ (some (.int r), σ1) := by
  refine kd_head (own := RX11) rfl (by decide +kernel) (Nat.le_of_ble_eq_true rfl) (fun A hX => ?_)
  show SW E G (.inl (some (.int r), σ1)) A 4 σ 0 [(0, kr E l0), (1, .int l1), (2, .int l2), (3, .int l3)] []
  unfold X11_way at h
  refine r_aload_n hX dX11_way_0 rfl 0 rfl ?_
  refine r_gR hX dX11_way_1 kf_X11_84 rfl h ?_
  clear h; intro t1 h
  refine r_iload_n hX dX11_way_4 rfl 1 rfl ?_
  refine r_cVi (As := [.int l1]) (st := []) hX dX11_way_5 kl_X3_read w_ml_X11_333 w_im_X3_read w_se_X3_read ⟨_, _, rfl⟩ (by decide) rfl (Nat.le_of_ble_eq_true rfl) rfl kdz0 h (fun r σ1 h => wX3_read h) ?_
  clear h; intro t2 σ h
  refine r_if_eq (tgt := 22) hX dX11_way_8 (by decide) h ?_ ?_
  · clear h; intro h
    refine r_sub [] rfl ?_
    exact wX11_way_22 hX h
  · clear h; intro h
    refine r_aload_n hX dX11_way_11 rfl 0 rfl ?_
    refine r_gR hX dX11_way_12 kf_X11_84 rfl h ?_
    clear h; intro t3 h
    refine r_iload_n hX dX11_way_15 rfl 2 rfl ?_
    refine r_cVi (As := [.int l2]) (st := []) hX dX11_way_16 kl_X3_read w_ml_X11_333 w_im_X3_read w_se_X3_read ⟨_, _, rfl⟩ (by decide) rfl (Nat.le_of_ble_eq_true rfl) rfl kdz0 h (fun r σ1 h => wX3_read h) ?_
    clear h; intro t4 σ h
    refine r_if_ne (tgt := 25) hX dX11_way_19 (by decide) h ?_ ?_
    · clear h; intro h
      refine r_sub [] rfl ?_
      exact wX11_way_22 hX h
    · clear h; intro h
      refine r_aload_n hX dX11_way_25 rfl 0 rfl ?_
      refine r_gR hX dX11_way_26 kf_X11_84 rfl h ?_
      clear h; intro t5 h
      refine r_cVi (As := []) (st := []) hX dX11_way_29 kl_X3_size w_ml_X11_351 w_im_X3_size w_se_X3_size ⟨_, _, rfl⟩ (by decide) rfl (Nat.le_of_ble_eq_true rfl) rfl kdz0 h (fun r σ1 h => wX3_size h) ?_
      clear h; intro t6 σ h
      refine r_iconst hX dX11_way_32 kk_i_5 ?_
      refine r_icmp_le (tgt := 39) hX dX11_way_33 (by decide) h ?_ ?_
      · clear h; intro h
        refine r_aload_n hX dX11_way_39 rfl 0 rfl ?_
        refine r_gR hX dX11_way_40 kf_X11_93 rfl h ?_
        clear h; intro t7 h
        refine r_iload_n hX dX11_way_43 rfl 1 rfl ?_
        refine r_iload_n hX dX11_way_44 rfl 2 rfl ?_
        refine r_cVv (As := [.int l1, .int l2]) (st := []) hX dX11_way_45 kl_X9_find w_ml_X11_352 w_im_X9_find w_se_X9_find ⟨_, _, rfl⟩ (by decide) rfl (Nat.le_of_ble_eq_true rfl) rfl kdz0 h (fun r σ1 h => wX9_find h) ?_
        clear h; intro u σ h
        refine r_iload_n hX dX11_way_48 rfl 3 rfl ?_
        refine r_case (q := l3 = (-2 : Int32)) h ?_ ?_
        · clear h; intro hq h
          refine r_ls (tgt := 84) (off := 35) hX dX11_way_49 (by decide +kernel) (by rw [hq] <;> decide +kernel) (by decide) ?_
          clear hq
          refine r_aload_n hX dX11_way_84 rfl 0 rfl ?_
          refine r_gR hX dX11_way_85 kf_X11_93 rfl h ?_
          clear h; intro t8 h
          refine r_cVa (As := []) (st := []) hX dX11_way_88 kl_X9_path w_ml_X11_358 w_im_X9_path w_se_X9_path ⟨_, _, rfl⟩ (by decide) rfl (Nat.le_of_ble_eq_true rfl) rfl kdz0 h (fun r σ1 h => wX9_path h) ?_
          clear h; intro t9 σ h
          refine r_cVi (As := []) (st := []) hX dX11_way_91 kl_X6_size w_ml_X11_108 w_im_X6_size w_se_X6_size ⟨_, _, rfl⟩ (by decide) rfl (Nat.le_of_ble_eq_true rfl) rfl kdz0 h (fun r σ1 h => wX6_size h) ?_
          clear h; intro t10 σ h
          refine r_iconst hX dX11_way_94 kk_i_1 ?_
          refine r_isub hX dX11_way_95 ?_
          exact r_iret hX dX11_way_96 h
        · clear h; intro hn0 h
          refine r_case (q := l3 = (-1 : Int32)) h ?_ ?_
          · clear h; intro hq h
            refine r_ls (tgt := 76) (off := 27) hX dX11_way_49 (by decide +kernel) (by rw [hq] <;> decide +kernel) (by decide) ?_
            clear hq
            refine r_aload_n hX dX11_way_76 rfl 0 rfl ?_
            refine r_gR hX dX11_way_77 kf_X11_93 rfl h ?_
            clear h; intro t11 h
            refine r_cVi (As := []) (st := []) hX dX11_way_80 kl_X9_peak w_ml_X11_355 w_im_X9_peak w_se_X9_peak ⟨_, _, rfl⟩ (by decide) rfl (Nat.le_of_ble_eq_true rfl) rfl kdz0 h (fun r σ1 h => wX9_peak h) ?_
            clear h; intro t12 σ h
            exact r_iret hX dX11_way_83 h
          · clear h; intro hn1 h
            refine r_ls (tgt := 97) (off := 48) hX dX11_way_49 (by decide +kernel) (by rw [lv_osw (a := -2) hn0 (by decide), lv_osw (a := -1) hn1 (by decide)] <;> rfl) (by decide) ?_
            refine r_aload_n hX dX11_way_97 rfl 0 rfl ?_
            refine r_gR hX dX11_way_98 kf_X11_93 rfl h ?_
            clear h; intro t13 h
            refine r_cVa (As := []) (st := []) hX dX11_way_101 kl_X9_path w_ml_X11_358 w_im_X9_path w_se_X9_path ⟨_, _, rfl⟩ (by decide) rfl (Nat.le_of_ble_eq_true rfl) rfl kdz0 h (fun r σ1 h => wX9_path h) ?_
            clear h; intro t14 σ h
            refine r_iload_n hX dX11_way_104 rfl 3 rfl ?_
            refine r_cVi (As := [.int l3]) (st := []) hX dX11_way_105 kl_X6_has w_ml_X11_173 w_im_X6_has w_se_X6_has ⟨_, _, rfl⟩ (by decide) rfl (Nat.le_of_ble_eq_true rfl) rfl kdz0 h (fun r σ1 h => wX6_has h) ?_
            clear h; intro t15 σ h
            refine r_if_eq (tgt := 125) hX dX11_way_108 (by decide) h ?_ ?_
            · clear h; intro h
              refine r_bipush hX dX11_way_125 kk_b_m6 ?_
              refine r_sub [] rfl ?_
              exact wX11_way_127 hX h
            · clear h; intro h
              refine r_aload_n hX dX11_way_111 rfl 0 rfl ?_
              refine r_gR hX dX11_way_112 kf_X11_93 rfl h ?_
              clear h; intro t16 h
              refine r_cVa (As := []) (st := []) hX dX11_way_115 kl_X9_path w_ml_X11_358 w_im_X9_path w_se_X9_path ⟨_, _, rfl⟩ (by decide) rfl (Nat.le_of_ble_eq_true rfl) rfl kdz0 h (fun r σ1 h => wX9_path h) ?_
              clear h; intro t17 σ h
              refine r_iload_n hX dX11_way_118 rfl 3 rfl ?_
              refine r_cVi (As := [.int l3]) (st := []) hX dX11_way_119 kl_X6_at w_ml_X11_194 w_im_X6_at w_se_X6_at ⟨_, _, rfl⟩ (by decide) rfl (Nat.le_of_ble_eq_true rfl) rfl kdz0 h (fun r σ1 h => wX6_at h) ?_
              clear h; intro t18 σ h
              refine r_goto (tgt := 127) hX dX11_way_122 (by decide) ?_
              refine r_sub [] rfl ?_
              exact wX11_way_127 hX h
      · clear h; intro h
        refine r_bipush hX dX11_way_36 kk_b_m3 ?_
        exact r_iret hX dX11_way_38 h
def X11_toldOfOne_72 (G : kdS) (s0 : Int32) : kdM → Option (Int32 × kdM) :=
  rt s0
set_option maxRecDepth 100000 in
set_option maxHeartbeats 4000000 in
theorem wX11_toldOfOne_72 {E : kdE} {G : kdS} {A : kdA} {r : Int32} {σ1 : kdM} (hX : kdX E A cX11_toldOfOne 2 RX11 (some .int) 2) {σ : kdM} {s0 : Int32} (h : X11_toldOfOne_72 G s0 σ = some (r, σ1)) : SW E G (.inl (some (.int r), σ1)) A 2 σ 72 [] [.int s0] := by
  unfold X11_toldOfOne_72 at h
  exact r_iret hX dX11_toldOfOne_72 h
def X11_toldOfOne (G : kdS) (l0 : Nat) (l1 : Int32) : kdM → Option (Int32 × kdM) :=
  kcl (X11_isTongue G (l1 - (10 : Int32))) fun t1 =>
  cnd (t1 = 0)
    (kcl (X11_isTongue G (l1 - (20 : Int32))) fun t2 =>
    cnd (t2 = 0)
      (kcl (X11_isHand G (l1 - (30 : Int32))) fun t3 =>
      cnd (t3 = 0)
        (X11_toldOfOne_72 G (-2 : Int32))
        (gR G 11 9 l0 fun t4 =>
        kcv G 2 t4 (X2_budgetOf G t4 (l1 - (30 : Int32))) fun t5 =>
        X11_toldOfOne_72 G t5))
      (gR G 11 2 l0 fun t6 =>
      aR G 17 t6 ((l1 - (20 : Int32))) fun t7 =>
      kcv G 8 t7 (X8_joins G t7) fun t8 =>
      rt t8))
    (gR G 11 2 l0 fun t9 =>
    aR G 17 t9 ((l1 - (10 : Int32))) fun t10 =>
    kcv G 8 t10 (X8_rules G t10) fun t11 =>
    rt t11)
set_option maxRecDepth 100000 in
set_option maxHeartbeats 4000000 in
theorem wX11_toldOfOne {E : kdE} {G : kdS} {l0 : Nat} {l1 : Int32} {σ : kdM} {r : Int32} {σ1 : kdM} (h : X11_toldOfOne G l0 l1 σ = some (r, σ1)) : Con E G yX11_toldOfOne cX11_toldOfOne 2 (some .int) 2 [kr E l0, .int l1] σ (some (.int r), σ1) := by
  refine kd_head (own := RX11) rfl (by decide +kernel) (Nat.le_of_ble_eq_true rfl) (fun A hX => ?_)
  show SW E G (.inl (some (.int r), σ1)) A 2 σ 0 [(0, kr E l0), (1, .int l1)] []
  unfold X11_toldOfOne at h
  refine r_iload_n hX dX11_toldOfOne_0 rfl 1 rfl ?_
  refine r_bipush hX dX11_toldOfOne_1 kk_b_10 ?_
  refine r_isub hX dX11_toldOfOne_3 ?_
  refine r_cSi (As := [.int (l1 - (10 : Int32))]) (st := []) hX dX11_toldOfOne_4 kl_X11_isTongue w_ml_X11_121 w_st_X11_isTongue (by decide) rfl (Nat.le_of_ble_eq_true rfl) rfl kdz0 h (fun r σ1 h => wX11_isTongue h) ?_
  clear h; intro t1 σ h
  refine r_if_eq (tgt := 23) hX dX11_toldOfOne_7 (by decide) h ?_ ?_
  · clear h; intro h
    refine r_iload_n hX dX11_toldOfOne_23 rfl 1 rfl ?_
    refine r_bipush hX dX11_toldOfOne_24 kk_b_20 ?_
    refine r_isub hX dX11_toldOfOne_26 ?_
    refine r_cSi (As := [.int (l1 - (20 : Int32))]) (st := []) hX dX11_toldOfOne_27 kl_X11_isTongue w_ml_X11_121 w_st_X11_isTongue (by decide) rfl (Nat.le_of_ble_eq_true rfl) rfl kdz0 h (fun r σ1 h => wX11_isTongue h) ?_
    clear h; intro t2 σ h
    refine r_if_eq (tgt := 46) hX dX11_toldOfOne_30 (by decide) h ?_ ?_
    · clear h; intro h
      refine r_iload_n hX dX11_toldOfOne_46 rfl 1 rfl ?_
      refine r_bipush hX dX11_toldOfOne_47 kk_b_30 ?_
      refine r_isub hX dX11_toldOfOne_49 ?_
      refine r_cSi (As := [.int (l1 - (30 : Int32))]) (st := []) hX dX11_toldOfOne_50 kl_X11_isHand w_ml_X11_276 w_st_X11_isHand (by decide) rfl (Nat.le_of_ble_eq_true rfl) rfl kdz0 h (fun r σ1 h => wX11_isHand h) ?_
      clear h; intro t3 σ h
      refine r_if_eq (tgt := 70) hX dX11_toldOfOne_53 (by decide) h ?_ ?_
      · clear h; intro h
        refine r_bipush hX dX11_toldOfOne_70 kk_b_m2 ?_
        refine r_sub [] rfl ?_
        exact wX11_toldOfOne_72 hX h
      · clear h; intro h
        refine r_aload_n hX dX11_toldOfOne_56 rfl 0 rfl ?_
        refine r_gR hX dX11_toldOfOne_57 kf_X11_77 rfl h ?_
        clear h; intro t4 h
        refine r_iload_n hX dX11_toldOfOne_60 rfl 1 rfl ?_
        refine r_bipush hX dX11_toldOfOne_61 kk_b_30 ?_
        refine r_isub hX dX11_toldOfOne_63 ?_
        refine r_cVi (As := [.int (l1 - (30 : Int32))]) (st := []) hX dX11_toldOfOne_64 kl_X2_budgetOf w_ml_X11_380 w_im_X2_budgetOf w_se_X2_budgetOf ⟨_, _, rfl⟩ (by decide) rfl (Nat.le_of_ble_eq_true rfl) rfl kdz0 h (fun r σ1 h => wX2_budgetOf h) ?_
        clear h; intro t5 σ h
        refine r_goto (tgt := 72) hX dX11_toldOfOne_67 (by decide) ?_
        refine r_sub [] rfl ?_
        exact wX11_toldOfOne_72 hX h
    · clear h; intro h
      refine r_aload_n hX dX11_toldOfOne_33 rfl 0 rfl ?_
      refine r_gR hX dX11_toldOfOne_34 kf_X11_23 rfl h ?_
      clear h; intro t6 h
      refine r_iload_n hX dX11_toldOfOne_37 rfl 1 rfl ?_
      refine r_bipush hX dX11_toldOfOne_38 kk_b_20 ?_
      refine r_isub hX dX11_toldOfOne_40 ?_
      refine r_aR17 hX dX11_toldOfOne_41 h ?_
      clear h; intro t7 h
      refine r_cVi (As := []) (st := []) hX dX11_toldOfOne_42 kl_X8_joins w_ml_X11_377 w_im_X8_joins w_se_X8_joins ⟨_, _, rfl⟩ (by decide) rfl (Nat.le_of_ble_eq_true rfl) rfl kdz0 h (fun r σ1 h => wX8_joins h) ?_
      clear h; intro t8 σ h
      exact r_iret hX dX11_toldOfOne_45 h
  · clear h; intro h
    refine r_aload_n hX dX11_toldOfOne_10 rfl 0 rfl ?_
    refine r_gR hX dX11_toldOfOne_11 kf_X11_23 rfl h ?_
    clear h; intro t9 h
    refine r_iload_n hX dX11_toldOfOne_14 rfl 1 rfl ?_
    refine r_bipush hX dX11_toldOfOne_15 kk_b_10 ?_
    refine r_isub hX dX11_toldOfOne_17 ?_
    refine r_aR17 hX dX11_toldOfOne_18 h ?_
    clear h; intro t10 h
    refine r_cVi (As := []) (st := []) hX dX11_toldOfOne_19 kl_X8_rules w_ml_X11_374 w_im_X8_rules w_se_X8_rules ⟨_, _, rfl⟩ (by decide) rfl (Nat.le_of_ble_eq_true rfl) rfl kdz0 h (fun r σ1 h => wX8_rules h) ?_
    clear h; intro t11 σ h
    exact r_iret hX dX11_toldOfOne_22 h
def X11_told (G : kdS) (l0 : Nat) (l1 : Int32) : kdM → Option (Int32 × kdM) :=
  cnd (l1 = (0 : Int32))
    (gR G 11 0 l0 fun t1 =>
    kcv G 6 t1 (X6_size G t1) fun t2 =>
    rt t2)
    (cnd (l1 = (1 : Int32))
      (gR G 11 1 l0 fun t3 =>
      kcv G 6 t3 (X6_size G t3) fun t4 =>
      rt t4)
      (cnd (l1 = (2 : Int32))
        (gR G 11 8 l0 fun t5 =>
        kcv G 0 t5 (X0_padSize G t5) fun t6 =>
        rt t6)
        (cnd (l1 = (3 : Int32))
          (gR G 11 3 l0 fun t7 =>
          kcv G 4 t7 (X4_tongue G t7) fun t8 =>
          rt t8)
          (cnd (l1 = (4 : Int32))
            (gR G 11 3 l0 fun t9 =>
            kcv G 4 t9 (X4_strokes G t9) fun t10 =>
            kcv G 6 t10 (X6_size G t10) fun t11 =>
            rt t11)
            (cnd (l1 = (5 : Int32))
              (gR G 11 4 l0 fun t12 =>
              kcv G 10 t12 (X10_size G t12) fun t13 =>
              rt t13)
              (cnd (l1 = (6 : Int32))
                (gR G 11 8 l0 fun t14 =>
                kcv G 0 t14 (X0_pairs G t14) fun t15 =>
                rt t15)
                (cnd (l1 = (7 : Int32))
                  (gR G 11 9 l0 fun t16 =>
                  kcv G 2 t16 (X2_learnings G t16) fun t17 =>
                  rt t17)
                  (cnd (l1 = (8 : Int32))
                    (gR G 11 10 l0 fun t18 =>
                    kcv G 3 t18 (X3_size G t18) fun t19 =>
                    rt t19)
                    (kcv G 11 l0 (X11_toldOfOne G l0 l1) fun t20 =>
                    rt t20)))))))))
set_option maxRecDepth 100000 in
set_option maxHeartbeats 4000000 in
theorem wX11_told {E : kdE} {G : kdS} {l0 : Nat} {l1 : Int32} {σ : kdM} {r : Int32} {σ1 : kdM} (h : X11_told G l0 l1 σ = some (r, σ1)) : Con E G yX11_told cX11_told 2 (some .int) 3 [kr E l0, .int l1] σ (some (.int r), σ1) := by
  refine kd_head (own := RX11) rfl (by decide +kernel) (Nat.le_of_ble_eq_true rfl) (fun A hX => ?_)
  show SW E G (.inl (some (.int r), σ1)) A 2 σ 0 [(0, kr E l0), (1, .int l1)] []
  unfold X11_told at h
  refine r_iload_n hX dX11_told_0 rfl 1 rfl ?_
  refine r_case (q := l1 = (0 : Int32)) h ?_ ?_
  · clear h; intro hq h
    refine r_tsIn (tgt := 52) (off := 51) (v := (0 : Int32)) hX dX11_told_1 hq (by decide) (by decide) (by decide +kernel) (by decide) ?_
    clear hq
    refine r_aload_n hX dX11_told_52 rfl 0 rfl ?_
    refine r_gR hX dX11_told_53 kf_X11_14 rfl h ?_
    clear h; intro t1 h
    refine r_cVi (As := []) (st := []) hX dX11_told_56 kl_X6_size w_ml_X11_108 w_im_X6_size w_se_X6_size ⟨_, _, rfl⟩ (by decide) rfl (Nat.le_of_ble_eq_true rfl) rfl kdz0 h (fun r σ1 h => wX6_size h) ?_
    clear h; intro t2 σ h
    exact r_iret hX dX11_told_59 h
  · clear h; intro hn0 h
    refine r_case (q := l1 = (1 : Int32)) h ?_ ?_
    · clear h; intro hq h
      refine r_tsIn (tgt := 60) (off := 59) (v := (1 : Int32)) hX dX11_told_1 hq (by decide) (by decide) (by decide +kernel) (by decide) ?_
      clear hq
      refine r_aload_n hX dX11_told_60 rfl 0 rfl ?_
      refine r_gR hX dX11_told_61 kf_X11_18 rfl h ?_
      clear h; intro t3 h
      refine r_cVi (As := []) (st := []) hX dX11_told_64 kl_X6_size w_ml_X11_108 w_im_X6_size w_se_X6_size ⟨_, _, rfl⟩ (by decide) rfl (Nat.le_of_ble_eq_true rfl) rfl kdz0 h (fun r σ1 h => wX6_size h) ?_
      clear h; intro t4 σ h
      exact r_iret hX dX11_told_67 h
    · clear h; intro hn1 h
      refine r_case (q := l1 = (2 : Int32)) h ?_ ?_
      · clear h; intro hq h
        refine r_tsIn (tgt := 68) (off := 67) (v := (2 : Int32)) hX dX11_told_1 hq (by decide) (by decide) (by decide +kernel) (by decide) ?_
        clear hq
        refine r_aload_n hX dX11_told_68 rfl 0 rfl ?_
        refine r_gR hX dX11_told_69 kf_X11_70 rfl h ?_
        clear h; intro t5 h
        refine r_cVi (As := []) (st := []) hX dX11_told_72 kl_X0_padSize w_ml_X11_361 w_im_X0_padSize w_se_X0_padSize ⟨_, _, rfl⟩ (by decide) rfl (Nat.le_of_ble_eq_true rfl) rfl kdz0 h (fun r σ1 h => wX0_padSize h) ?_
        clear h; intro t6 σ h
        exact r_iret hX dX11_told_75 h
      · clear h; intro hn2 h
        refine r_case (q := l1 = (3 : Int32)) h ?_ ?_
        · clear h; intro hq h
          refine r_tsIn (tgt := 76) (off := 75) (v := (3 : Int32)) hX dX11_told_1 hq (by decide) (by decide) (by decide +kernel) (by decide) ?_
          clear hq
          refine r_aload_n hX dX11_told_76 rfl 0 rfl ?_
          refine r_gR hX dX11_told_77 kf_X11_31 rfl h ?_
          clear h; intro t7 h
          refine r_cVi (As := []) (st := []) hX dX11_told_80 kl_X4_tongue w_ml_X11_364 w_im_X4_tongue w_se_X4_tongue ⟨_, _, rfl⟩ (by decide) rfl (Nat.le_of_ble_eq_true rfl) rfl kdz0 h (fun r σ1 h => wX4_tongue h) ?_
          clear h; intro t8 σ h
          exact r_iret hX dX11_told_83 h
        · clear h; intro hn3 h
          refine r_case (q := l1 = (4 : Int32)) h ?_ ?_
          · clear h; intro hq h
            refine r_tsIn (tgt := 84) (off := 83) (v := (4 : Int32)) hX dX11_told_1 hq (by decide) (by decide) (by decide +kernel) (by decide) ?_
            clear hq
            refine r_aload_n hX dX11_told_84 rfl 0 rfl ?_
            refine r_gR hX dX11_told_85 kf_X11_31 rfl h ?_
            clear h; intro t9 h
            refine r_cVa (As := []) (st := []) hX dX11_told_88 kl_X4_strokes w_ml_X11_161 w_im_X4_strokes w_se_X4_strokes ⟨_, _, rfl⟩ (by decide) rfl (Nat.le_of_ble_eq_true rfl) rfl kdz0 h (fun r σ1 h => wX4_strokes h) ?_
            clear h; intro t10 σ h
            refine r_cVi (As := []) (st := []) hX dX11_told_91 kl_X6_size w_ml_X11_108 w_im_X6_size w_se_X6_size ⟨_, _, rfl⟩ (by decide) rfl (Nat.le_of_ble_eq_true rfl) rfl kdz0 h (fun r σ1 h => wX6_size h) ?_
            clear h; intro t11 σ h
            exact r_iret hX dX11_told_94 h
          · clear h; intro hn4 h
            refine r_case (q := l1 = (5 : Int32)) h ?_ ?_
            · clear h; intro hq h
              refine r_tsIn (tgt := 95) (off := 94) (v := (5 : Int32)) hX dX11_told_1 hq (by decide) (by decide) (by decide +kernel) (by decide) ?_
              clear hq
              refine r_aload_n hX dX11_told_95 rfl 0 rfl ?_
              refine r_gR hX dX11_told_96 kf_X11_38 rfl h ?_
              clear h; intro t12 h
              refine r_cVi (As := []) (st := []) hX dX11_told_99 kl_X10_size w_ml_X11_367 w_im_X10_size w_se_X10_size ⟨_, _, rfl⟩ (by decide) rfl (Nat.le_of_ble_eq_true rfl) rfl kdz0 h (fun r σ1 h => wX10_size h) ?_
              clear h; intro t13 σ h
              exact r_iret hX dX11_told_102 h
            · clear h; intro hn5 h
              refine r_case (q := l1 = (6 : Int32)) h ?_ ?_
              · clear h; intro hq h
                refine r_tsIn (tgt := 103) (off := 102) (v := (6 : Int32)) hX dX11_told_1 hq (by decide) (by decide) (by decide +kernel) (by decide) ?_
                clear hq
                refine r_aload_n hX dX11_told_103 rfl 0 rfl ?_
                refine r_gR hX dX11_told_104 kf_X11_70 rfl h ?_
                clear h; intro t14 h
                refine r_cVi (As := []) (st := []) hX dX11_told_107 kl_X0_pairs w_ml_X11_256 w_im_X0_pairs w_se_X0_pairs ⟨_, _, rfl⟩ (by decide) rfl (Nat.le_of_ble_eq_true rfl) rfl kdz0 h (fun r σ1 h => wX0_pairs h) ?_
                clear h; intro t15 σ h
                exact r_iret hX dX11_told_110 h
              · clear h; intro hn6 h
                refine r_case (q := l1 = (7 : Int32)) h ?_ ?_
                · clear h; intro hq h
                  refine r_tsIn (tgt := 111) (off := 110) (v := (7 : Int32)) hX dX11_told_1 hq (by decide) (by decide) (by decide +kernel) (by decide) ?_
                  clear hq
                  refine r_aload_n hX dX11_told_111 rfl 0 rfl ?_
                  refine r_gR hX dX11_told_112 kf_X11_77 rfl h ?_
                  clear h; intro t16 h
                  refine r_cVi (As := []) (st := []) hX dX11_told_115 kl_X2_learnings w_ml_X11_368 w_im_X2_learnings w_se_X2_learnings ⟨_, _, rfl⟩ (by decide) rfl (Nat.le_of_ble_eq_true rfl) rfl kdz0 h (fun r σ1 h => wX2_learnings h) ?_
                  clear h; intro t17 σ h
                  exact r_iret hX dX11_told_118 h
                · clear h; intro hn7 h
                  refine r_case (q := l1 = (8 : Int32)) h ?_ ?_
                  · clear h; intro hq h
                    refine r_tsIn (tgt := 119) (off := 118) (v := (8 : Int32)) hX dX11_told_1 hq (by decide) (by decide) (by decide +kernel) (by decide) ?_
                    clear hq
                    refine r_aload_n hX dX11_told_119 rfl 0 rfl ?_
                    refine r_gR hX dX11_told_120 kf_X11_84 rfl h ?_
                    clear h; intro t18 h
                    refine r_cVi (As := []) (st := []) hX dX11_told_123 kl_X3_size w_ml_X11_351 w_im_X3_size w_se_X3_size ⟨_, _, rfl⟩ (by decide) rfl (Nat.le_of_ble_eq_true rfl) rfl kdz0 h (fun r σ1 h => wX3_size h) ?_
                    clear h; intro t19 σ h
                    exact r_iret hX dX11_told_126 h
                  · clear h; intro hn8 h
                    refine r_tsOut (tgt := 127) hX dX11_told_1 (by have e0 := kd_ne (a := 0) hn0 (by decide); have e1 := kd_ne (a := 1) hn1 (by decide); have e2 := kd_ne (a := 2) hn2 (by decide); have e3 := kd_ne (a := 3) hn3 (by decide); have e4 := kd_ne (a := 4) hn4 (by decide); have e5 := kd_ne (a := 5) hn5 (by decide); have e6 := kd_ne (a := 6) hn6 (by decide); have e7 := kd_ne (a := 7) hn7 (by decide); have e8 := kd_ne (a := 8) hn8 (by decide); omega) (by decide) ?_
                    refine r_aload_n hX dX11_told_127 rfl 0 rfl ?_
                    refine r_iload_n hX dX11_told_128 rfl 1 rfl ?_
                    refine r_cVi (As := [.int l1]) (st := []) hX dX11_told_129 kl_X11_toldOfOne w_ml_X11_371 w_im_X11_toldOfOne w_se_X11_toldOfOne ⟨_, _, rfl⟩ (by decide) rfl (Nat.le_of_ble_eq_true rfl) rfl kdz0 h (fun r σ1 h => wX11_toldOfOne h) ?_
                    clear h; intro t20 σ h
                    exact r_iret hX dX11_told_132 h
