def X11_ofWord_130 (G : kdS) (s0 : Int32) : kdM → Option (Int32 × kdM) :=
  rt s0
set_option maxRecDepth 100000 in
set_option maxHeartbeats 4000000 in
theorem wX11_ofWord_130 {E : kdE} {G : kdS} {A : kdA} {r : Int32} {σ1 : kdM} (hX : kdX E A cX11_ofWord 3 RX11 (some .int) 2) {σ : kdM} {s0 : Int32} (h : X11_ofWord_130 G s0 σ = some (r, σ1)) : SW E G (.inl (some (.int r), σ1)) A 3 σ 130 [] [.int s0] := by
  unfold X11_ofWord_130 at h
  exact r_iret hX dX11_ofWord_130 h
def X11_ofWord (G : kdS) (l0 : Nat) (l1 : Int32) (l2 : Int32) : kdM → Option (Int32 × kdM) :=
  gR G 11 4 l0 fun t1 =>
  kcv G 10 t1 (X10_has G t1 l1) fun t2 =>
  cnd (t2 = 0)
    (rt (-1 : Int32))
    (cnd (l2 = (0 : Int32))
      (gR G 11 4 l0 fun t3 =>
      kcv G 10 t3 (X10_tongueOf G t3 l1) fun t4 =>
      rt t4)
      (cnd (l2 = (1 : Int32))
        (gR G 11 4 l0 fun t5 =>
        kcv G 10 t5 (X10_signOf G t5 l1) fun t6 =>
        rt t6)
        (cnd (l2 = (2 : Int32))
          (gR G 11 4 l0 fun t7 =>
          kcv G 10 t7 (X10_countOf G t7 l1) fun t8 =>
          rt t8)
          (cnd (l2 = (3 : Int32))
            (gR G 11 4 l0 fun t9 =>
            kcv G 10 t9 (X10_keysOf G t9 l1) fun t10 =>
            kcv G 6 t10 (X6_size G t10) fun t11 =>
            rt t11)
            (cnd ((10 : Int32) ≤ l2)
              (gR G 11 4 l0 fun t12 =>
              kcv G 10 t12 (X10_keysOf G t12 l1) fun t13 =>
              kcv G 6 t13 (X6_has G t13 (l2 - (10 : Int32))) fun t14 =>
              cnd (t14 = 0)
                (X11_ofWord_130 G (-6 : Int32))
                (gR G 11 4 l0 fun t15 =>
                kcv G 10 t15 (X10_keysOf G t15 l1) fun t16 =>
                kcv G 6 t16 (X6_at G t16 (l2 - (10 : Int32))) fun t17 =>
                X11_ofWord_130 G t17))
              (rt (-2 : Int32)))))))
set_option maxRecDepth 100000 in
set_option maxHeartbeats 4000000 in
theorem wX11_ofWord {E : kdE} {G : kdS} {l0 : Nat} {l1 : Int32} {l2 : Int32} {σ : kdM} {r : Int32} {σ1 : kdM} (h : X11_ofWord G l0 l1 l2 σ = some (r, σ1)) : Con E G yX11_ofWord cX11_ofWord 3 (some .int) 2 [kr E l0, .int l1, .int l2] σ (some (.int r), σ1) := by
  refine kd_head (own := RX11) rfl (by decide +kernel) (Nat.le_of_ble_eq_true rfl) (fun A hX => ?_)
  show SW E G (.inl (some (.int r), σ1)) A 3 σ 0 [(0, kr E l0), (1, .int l1), (2, .int l2)] []
  unfold X11_ofWord at h
  refine r_aload_n hX dX11_ofWord_0 rfl 0 rfl ?_
  refine r_gR hX dX11_ofWord_1 kf_X11_38 rfl h ?_
  clear h; intro t1 h
  refine r_iload_n hX dX11_ofWord_4 rfl 1 rfl ?_
  refine r_cVi (As := [.int l1]) (st := []) hX dX11_ofWord_5 kl_X10_has w_ml_X11_212 w_im_X10_has w_se_X10_has ⟨_, _, rfl⟩ (by decide) rfl (Nat.le_of_ble_eq_true rfl) rfl kdz0 h (fun r σ1 h => wX10_has h) ?_
  clear h; intro t2 σ h
  refine r_if_ne (tgt := 13) hX dX11_ofWord_8 (by decide) h ?_ ?_
  · clear h; intro h
    refine r_iconst hX dX11_ofWord_11 kk_i_m1 ?_
    exact r_iret hX dX11_ofWord_12 h
  · clear h; intro h
    refine r_iload_n hX dX11_ofWord_13 rfl 2 rfl ?_
    refine r_case (q := l2 = (0 : Int32)) h ?_ ?_
    · clear h; intro hq h
      refine r_tsIn (tgt := 44) (off := 30) (v := (0 : Int32)) hX dX11_ofWord_14 hq (by decide) (by decide) (by decide +kernel) (by decide) ?_
      clear hq
      refine r_aload_n hX dX11_ofWord_44 rfl 0 rfl ?_
      refine r_gR hX dX11_ofWord_45 kf_X11_38 rfl h ?_
      clear h; intro t3 h
      refine r_iload_n hX dX11_ofWord_48 rfl 1 rfl ?_
      refine r_cVi (As := [.int l1]) (st := []) hX dX11_ofWord_49 kl_X10_tongueOf w_ml_X11_213 w_im_X10_tongueOf w_se_X10_tongueOf ⟨_, _, rfl⟩ (by decide) rfl (Nat.le_of_ble_eq_true rfl) rfl kdz0 h (fun r σ1 h => wX10_tongueOf h) ?_
      clear h; intro t4 σ h
      exact r_iret hX dX11_ofWord_52 h
    · clear h; intro hn0 h
      refine r_case (q := l2 = (1 : Int32)) h ?_ ?_
      · clear h; intro hq h
        refine r_tsIn (tgt := 53) (off := 39) (v := (1 : Int32)) hX dX11_ofWord_14 hq (by decide) (by decide) (by decide +kernel) (by decide) ?_
        clear hq
        refine r_aload_n hX dX11_ofWord_53 rfl 0 rfl ?_
        refine r_gR hX dX11_ofWord_54 kf_X11_38 rfl h ?_
        clear h; intro t5 h
        refine r_iload_n hX dX11_ofWord_57 rfl 1 rfl ?_
        refine r_cVi (As := [.int l1]) (st := []) hX dX11_ofWord_58 kl_X10_signOf w_ml_X11_216 w_im_X10_signOf w_se_X10_signOf ⟨_, _, rfl⟩ (by decide) rfl (Nat.le_of_ble_eq_true rfl) rfl kdz0 h (fun r σ1 h => wX10_signOf h) ?_
        clear h; intro t6 σ h
        exact r_iret hX dX11_ofWord_61 h
      · clear h; intro hn1 h
        refine r_case (q := l2 = (2 : Int32)) h ?_ ?_
        · clear h; intro hq h
          refine r_tsIn (tgt := 62) (off := 48) (v := (2 : Int32)) hX dX11_ofWord_14 hq (by decide) (by decide) (by decide +kernel) (by decide) ?_
          clear hq
          refine r_aload_n hX dX11_ofWord_62 rfl 0 rfl ?_
          refine r_gR hX dX11_ofWord_63 kf_X11_38 rfl h ?_
          clear h; intro t7 h
          refine r_iload_n hX dX11_ofWord_66 rfl 1 rfl ?_
          refine r_cVi (As := [.int l1]) (st := []) hX dX11_ofWord_67 kl_X10_countOf w_ml_X11_219 w_im_X10_countOf w_se_X10_countOf ⟨_, _, rfl⟩ (by decide) rfl (Nat.le_of_ble_eq_true rfl) rfl kdz0 h (fun r σ1 h => wX10_countOf h) ?_
          clear h; intro t8 σ h
          exact r_iret hX dX11_ofWord_70 h
        · clear h; intro hn2 h
          refine r_case (q := l2 = (3 : Int32)) h ?_ ?_
          · clear h; intro hq h
            refine r_tsIn (tgt := 71) (off := 57) (v := (3 : Int32)) hX dX11_ofWord_14 hq (by decide) (by decide) (by decide +kernel) (by decide) ?_
            clear hq
            refine r_aload_n hX dX11_ofWord_71 rfl 0 rfl ?_
            refine r_gR hX dX11_ofWord_72 kf_X11_38 rfl h ?_
            clear h; intro t9 h
            refine r_iload_n hX dX11_ofWord_75 rfl 1 rfl ?_
            refine r_cVa (As := [.int l1]) (st := []) hX dX11_ofWord_76 kl_X10_keysOf w_ml_X11_222 w_im_X10_keysOf w_se_X10_keysOf ⟨_, _, rfl⟩ (by decide) rfl (Nat.le_of_ble_eq_true rfl) rfl kdz0 h (fun r σ1 h => wX10_keysOf h) ?_
            clear h; intro t10 σ h
            refine r_cVi (As := []) (st := []) hX dX11_ofWord_79 kl_X6_size w_ml_X11_108 w_im_X6_size w_se_X6_size ⟨_, _, rfl⟩ (by decide) rfl (Nat.le_of_ble_eq_true rfl) rfl kdz0 h (fun r σ1 h => wX6_size h) ?_
            clear h; intro t11 σ h
            exact r_iret hX dX11_ofWord_82 h
          · clear h; intro hn3 h
            refine r_tsOut (tgt := 83) hX dX11_ofWord_14 (by have e0 := kd_ne (a := 0) hn0 (by decide); have e1 := kd_ne (a := 1) hn1 (by decide); have e2 := kd_ne (a := 2) hn2 (by decide); have e3 := kd_ne (a := 3) hn3 (by decide); omega) (by decide) ?_
            refine r_iload_n hX dX11_ofWord_83 rfl 2 rfl ?_
            refine r_bipush hX dX11_ofWord_84 kk_b_10 ?_
            refine r_icmp_ge (tgt := 92) hX dX11_ofWord_86 (by decide) h ?_ ?_
            · clear h; intro h
              refine r_aload_n hX dX11_ofWord_92 rfl 0 rfl ?_
              refine r_gR hX dX11_ofWord_93 kf_X11_38 rfl h ?_
              clear h; intro t12 h
              refine r_iload_n hX dX11_ofWord_96 rfl 1 rfl ?_
              refine r_cVa (As := [.int l1]) (st := []) hX dX11_ofWord_97 kl_X10_keysOf w_ml_X11_222 w_im_X10_keysOf w_se_X10_keysOf ⟨_, _, rfl⟩ (by decide) rfl (Nat.le_of_ble_eq_true rfl) rfl kdz0 h (fun r σ1 h => wX10_keysOf h) ?_
              clear h; intro t13 σ h
              refine r_iload_n hX dX11_ofWord_100 rfl 2 rfl ?_
              refine r_bipush hX dX11_ofWord_101 kk_b_10 ?_
              refine r_isub hX dX11_ofWord_103 ?_
              refine r_cVi (As := [.int (l2 - (10 : Int32))]) (st := []) hX dX11_ofWord_104 kl_X6_has w_ml_X11_173 w_im_X6_has w_se_X6_has ⟨_, _, rfl⟩ (by decide) rfl (Nat.le_of_ble_eq_true rfl) rfl kdz0 h (fun r σ1 h => wX6_has h) ?_
              clear h; intro t14 σ h
              refine r_if_eq (tgt := 128) hX dX11_ofWord_107 (by decide) h ?_ ?_
              · clear h; intro h
                refine r_bipush hX dX11_ofWord_128 kk_b_m6 ?_
                refine r_sub [] rfl ?_
                exact wX11_ofWord_130 hX h
              · clear h; intro h
                refine r_aload_n hX dX11_ofWord_110 rfl 0 rfl ?_
                refine r_gR hX dX11_ofWord_111 kf_X11_38 rfl h ?_
                clear h; intro t15 h
                refine r_iload_n hX dX11_ofWord_114 rfl 1 rfl ?_
                refine r_cVa (As := [.int l1]) (st := []) hX dX11_ofWord_115 kl_X10_keysOf w_ml_X11_222 w_im_X10_keysOf w_se_X10_keysOf ⟨_, _, rfl⟩ (by decide) rfl (Nat.le_of_ble_eq_true rfl) rfl kdz0 h (fun r σ1 h => wX10_keysOf h) ?_
                clear h; intro t16 σ h
                refine r_iload_n hX dX11_ofWord_118 rfl 2 rfl ?_
                refine r_bipush hX dX11_ofWord_119 kk_b_10 ?_
                refine r_isub hX dX11_ofWord_121 ?_
                refine r_cVi (As := [.int (l2 - (10 : Int32))]) (st := []) hX dX11_ofWord_122 kl_X6_at w_ml_X11_194 w_im_X6_at w_se_X6_at ⟨_, _, rfl⟩ (by decide) rfl (Nat.le_of_ble_eq_true rfl) rfl kdz0 h (fun r σ1 h => wX6_at h) ?_
                clear h; intro t17 σ h
                refine r_goto (tgt := 130) hX dX11_ofWord_125 (by decide) ?_
                refine r_sub [] rfl ?_
                exact wX11_ofWord_130 hX h
            · clear h; intro h
              refine r_bipush hX dX11_ofWord_89 kk_b_m2 ?_
              exact r_iret hX dX11_ofWord_91 h
def X11_slip_47 (G : kdS) (s0 : Int32) : kdM → Option (Int32 × kdM) :=
  rt s0
set_option maxRecDepth 100000 in
set_option maxHeartbeats 4000000 in
theorem wX11_slip_47 {E : kdE} {G : kdS} {A : kdA} {r : Int32} {σ1 : kdM} (hX : kdX E A cX11_slip 2 RX11 (some .int) 5) {σ : kdM} {s0 : Int32} (h : X11_slip_47 G s0 σ = some (r, σ1)) : SW E G (.inl (some (.int r), σ1)) A 2 σ 47 [] [.int s0] := by
  unfold X11_slip_47 at h
  exact r_iret hX dX11_slip_47 h
def X11_slip (G : kdS) (l0 : Nat) (l1 : Int32) : kdM → Option (Int32 × kdM) :=
  gR G 11 4 l0 fun t1 =>
  kcv G 10 t1 (X10_has G t1 l1) fun t2 =>
  cnd (t2 = 0)
    (rt (-1 : Int32))
    (gR G 11 0 l0 fun t3 =>
    kcv G 6 t3 (X6_isEmpty G t3) fun t4 =>
    cnd (t4 = 0)
      (gR G 11 5 l0 fun t5 =>
      gR G 11 0 l0 fun t6 =>
      gR G 11 4 l0 fun t7 =>
      kcv G 10 t7 (X10_keysOf G t7 l1) fun t8 =>
      kcv G 7 t5 (X7_priceOf G t5 t6 t8) fun t9 =>
      X11_slip_47 G t9)
      (X11_slip_47 G (-3 : Int32)))
set_option maxRecDepth 100000 in
set_option maxHeartbeats 4000000 in
theorem wX11_slip {E : kdE} {G : kdS} {l0 : Nat} {l1 : Int32} {σ : kdM} {r : Int32} {σ1 : kdM} (h : X11_slip G l0 l1 σ = some (r, σ1)) : Con E G yX11_slip cX11_slip 2 (some .int) 5 [kr E l0, .int l1] σ (some (.int r), σ1) := by
  refine kd_head (own := RX11) rfl (by decide +kernel) (Nat.le_of_ble_eq_true rfl) (fun A hX => ?_)
  show SW E G (.inl (some (.int r), σ1)) A 2 σ 0 [(0, kr E l0), (1, .int l1)] []
  unfold X11_slip at h
  refine r_aload_n hX dX11_slip_0 rfl 0 rfl ?_
  refine r_gR hX dX11_slip_1 kf_X11_38 rfl h ?_
  clear h; intro t1 h
  refine r_iload_n hX dX11_slip_4 rfl 1 rfl ?_
  refine r_cVi (As := [.int l1]) (st := []) hX dX11_slip_5 kl_X10_has w_ml_X11_212 w_im_X10_has w_se_X10_has ⟨_, _, rfl⟩ (by decide) rfl (Nat.le_of_ble_eq_true rfl) rfl kdz0 h (fun r σ1 h => wX10_has h) ?_
  clear h; intro t2 σ h
  refine r_if_ne (tgt := 13) hX dX11_slip_8 (by decide) h ?_ ?_
  · clear h; intro h
    refine r_iconst hX dX11_slip_11 kk_i_m1 ?_
    exact r_iret hX dX11_slip_12 h
  · clear h; intro h
    refine r_aload_n hX dX11_slip_13 rfl 0 rfl ?_
    refine r_gR hX dX11_slip_14 kf_X11_14 rfl h ?_
    clear h; intro t3 h
    refine r_cVi (As := []) (st := []) hX dX11_slip_17 kl_X6_isEmpty w_ml_X11_127 w_im_X6_isEmpty w_se_X6_isEmpty ⟨_, _, rfl⟩ (by decide) rfl (Nat.le_of_ble_eq_true rfl) rfl kdz0 h (fun r σ1 h => wX6_isEmpty h) ?_
    clear h; intro t4 σ h
    refine r_if_eq (tgt := 28) hX dX11_slip_20 (by decide) h ?_ ?_
    · clear h; intro h
      refine r_aload_n hX dX11_slip_28 rfl 0 rfl ?_
      refine r_gR hX dX11_slip_29 kf_X11_45 rfl h ?_
      clear h; intro t5 h
      refine r_aload_n hX dX11_slip_32 rfl 0 rfl ?_
      refine r_gR hX dX11_slip_33 kf_X11_14 rfl h ?_
      clear h; intro t6 h
      refine r_aload_n hX dX11_slip_36 rfl 0 rfl ?_
      refine r_gR hX dX11_slip_37 kf_X11_38 rfl h ?_
      clear h; intro t7 h
      refine r_iload_n hX dX11_slip_40 rfl 1 rfl ?_
      refine r_cVa (As := [.int l1]) (st := [kr E t6, kr E t5]) hX dX11_slip_41 kl_X10_keysOf w_ml_X11_222 w_im_X10_keysOf w_se_X10_keysOf ⟨_, _, rfl⟩ (by decide) rfl (Nat.le_of_ble_eq_true rfl) rfl kdz0 h (fun r σ1 h => wX10_keysOf h) ?_
      clear h; intro t8 σ h
      refine r_cVi (As := [kr E t6, kr E t8]) (st := []) hX dX11_slip_44 kl_X7_priceOf w_ml_X11_232 w_im_X7_priceOf w_se_X7_priceOf ⟨_, _, rfl⟩ (by decide) rfl (Nat.le_of_ble_eq_true rfl) rfl kdz0 h (fun r σ1 h => wX7_priceOf h) ?_
      clear h; intro t9 σ h
      refine r_sub [] rfl ?_
      exact wX11_slip_47 hX h
    · clear h; intro h
      refine r_bipush hX dX11_slip_23 kk_b_m3 ?_
      refine r_goto (tgt := 47) hX dX11_slip_25 (by decide) ?_
      refine r_sub [] rfl ?_
      exact wX11_slip_47 hX h
def X11_hasBit_14 (G : kdS) (s0 : Int32) : kdM → Option (Int32 × kdM) :=
  rt (vp_nar .boolean s0)
set_option maxRecDepth 100000 in
set_option maxHeartbeats 4000000 in
theorem wX11_hasBit_14 {E : kdE} {G : kdS} {A : kdA} {r : Int32} {σ1 : kdM} (hX : kdX E A cX11_hasBit 2 RX11 (some .boolean) 0) {σ : kdM} {s0 : Int32} (h : X11_hasBit_14 G s0 σ = some (r, σ1)) : SW E G (.inl (some (.int r), σ1)) A 2 σ 14 [] [.int s0] := by
  unfold X11_hasBit_14 at h
  exact r_zret hX dX11_hasBit_14 h
def X11_hasBit (G : kdS) (l0 : Int32) (l1 : Int32) : kdM → Option (Int32 × kdM) :=
  cnd (((l0 >>> (l1 &&& 31)) &&& (1 : Int32)) = (1 : Int32))
    (X11_hasBit_14 G (1 : Int32))
    (X11_hasBit_14 G (0 : Int32))
set_option maxRecDepth 100000 in
set_option maxHeartbeats 4000000 in
theorem wX11_hasBit {E : kdE} {G : kdS} {l0 : Int32} {l1 : Int32} {σ : kdM} {r : Int32} {σ1 : kdM} (h : X11_hasBit G l0 l1 σ = some (r, σ1)) : Con E G yX11_hasBit cX11_hasBit 2 (some .boolean) 0 [.int l0, .int l1] σ (some (.int r), σ1) := by
  refine kd_head (own := RX11) rfl (by decide +kernel) (Nat.le_of_ble_eq_true rfl) (fun A hX => ?_)
  show SW E G (.inl (some (.int r), σ1)) A 2 σ 0 [(0, .int l0), (1, .int l1)] []
  unfold X11_hasBit at h
  refine r_iload_n hX dX11_hasBit_0 rfl 0 rfl ?_
  refine r_iload_n hX dX11_hasBit_1 rfl 1 rfl ?_
  refine r_ishr hX dX11_hasBit_2 ?_
  refine r_iconst hX dX11_hasBit_3 kk_i_1 ?_
  refine r_iand hX dX11_hasBit_4 ?_
  refine r_iconst hX dX11_hasBit_5 kk_i_1 ?_
  refine r_icmp_ne (tgt := 13) hX dX11_hasBit_6 (by decide) h ?_ ?_
  · clear h; intro h
    refine r_iconst hX dX11_hasBit_9 kk_i_1 ?_
    refine r_goto (tgt := 14) hX dX11_hasBit_10 (by decide) ?_
    refine r_sub [] rfl ?_
    exact wX11_hasBit_14 hX h
  · clear h; intro h
    refine r_iconst hX dX11_hasBit_13 kk_i_0 ?_
    refine r_sub [] rfl ?_
    exact wX11_hasBit_14 hX h
def X11_gather_103 (G : kdS) (k10 : Nat → Int32 → Int32 → Int32 → Int32 → Int32 → kdM → Option (Unit × kdM)) (l0 : Nat) (l1 : Int32) (l2 : Int32) (l3 : Int32) (l4 : Int32) (l5 : Int32) : kdM → Option (Unit × kdM) :=
  ltI (l5 + Int32.ofInt 1) fun t1 =>
  k10 l0 l1 l2 l3 l4 t1
set_option maxRecDepth 100000 in
set_option maxHeartbeats 4000000 in
theorem wX11_gather_103 {E : kdE} {G : kdS} {A : kdA} {r : Unit} {σ1 : kdM} (hX : kdX E A cX11_gather 7 RX11 none 5) (k10 : Nat → Int32 → Int32 → Int32 → Int32 → Int32 → kdM → Option (Unit × kdM)) (hk10 : ∀ (l0 : Nat) (l1 : Int32) (l2 : Int32) (l3 : Int32) (l4 : Int32) (l5 : Int32) (σ : kdM), k10 l0 l1 l2 l3 l4 l5 σ = some (r, σ1) → SW E G (.inl (none, σ1)) A 7 σ 10 [(0, kr E l0), (1, .int l1), (2, .int l2), (3, .int l3), (4, .int l4), (5, .int l5)] []) {σ : kdM} {l0 : Nat} {l1 : Int32} {l2 : Int32} {l3 : Int32} {l4 : Int32} {l5 : Int32} (h : X11_gather_103 G k10 l0 l1 l2 l3 l4 l5 σ = some (r, σ1)) : SW E G (.inl (none, σ1)) A 7 σ 103 [(0, kr E l0), (1, .int l1), (2, .int l2), (3, .int l3), (4, .int l4), (5, .int l5)] [] := by
  unfold X11_gather_103 at h
  refine r_iincL (L2 := fun t1 => [(5, .int t1), (0, kr E l0), (1, .int l1), (2, .int l2), (3, .int l3), (4, .int l4)]) hX dX11_gather_103 h 5 rfl (by decide) (fun _ => rfl) ?_
  clear h; intro t1 h
  refine r_goto (tgt := 10) hX dX11_gather_106 (by decide) ?_
  refine r_sub [1, 2, 3, 4, 5, 0] rfl ?_
  exact hk10 _ _ _ _ _ _ _ h
def X11_gather_10B (G : kdS) (k10 : Nat → Int32 → Int32 → Int32 → Int32 → Int32 → kdM → Option (Unit × kdM)) (l0 : Nat) (l1 : Int32) (l2 : Int32) (l3 : Int32) (l4 : Int32) (l5 : Int32) : kdM → Option (Unit × kdM) :=
  gR G 11 4 l0 fun t1 =>
  kcv G 10 t1 (X10_size G t1) fun t2 =>
  cnd (t2 ≤ l5)
    (rt ())
    (gR G 11 4 l0 fun t3 =>
    kcv G 10 t3 (X10_tongueOf G t3 l5) fun t4 =>
    kcl (X11_hasBit G l1 t4) fun t5 =>
    cnd (t5 = 0)
      (X11_gather_103 G k10 l0 l1 l2 l3 l4 l5)
      (gR G 11 5 l0 fun t6 =>
      gR G 11 0 l0 fun t7 =>
      gR G 11 4 l0 fun t8 =>
      kcv G 10 t8 (X10_keysOf G t8 l5) fun t9 =>
      kcv G 7 t6 (X7_priceOf G t6 t7 t9) fun t10 =>
      cnd (l2 < t10)
        (X11_gather_103 G k10 l0 l1 l2 l3 l4 l5)
        (gR G 11 6 l0 fun t11 =>
        gR G 11 4 l0 fun t12 =>
        kcv G 10 t12 (X10_countOf G t12 l5) fun t13 =>
        gR G 11 9 l0 fun t14 =>
        kcv G 2 t14 (X2_worthOf G t14 l3 l5 l4) fun t15 =>
        kcv G 1 t11 (X1_insert G t11 l5 t10 (((1000 : Int32) * t13) + t15)) fun _ =>
        X11_gather_103 G k10 l0 l1 l2 l3 l4 l5)))
set_option maxRecDepth 100000 in
set_option maxHeartbeats 4000000 in
theorem wX11_gather_10B {E : kdE} {G : kdS} {A : kdA} {r : Unit} {σ1 : kdM} (hX : kdX E A cX11_gather 7 RX11 none 5) (k10 : Nat → Int32 → Int32 → Int32 → Int32 → Int32 → kdM → Option (Unit × kdM)) (hk10 : ∀ (l0 : Nat) (l1 : Int32) (l2 : Int32) (l3 : Int32) (l4 : Int32) (l5 : Int32) (σ : kdM), k10 l0 l1 l2 l3 l4 l5 σ = some (r, σ1) → SW E G (.inl (none, σ1)) A 7 σ 10 [(0, kr E l0), (1, .int l1), (2, .int l2), (3, .int l3), (4, .int l4), (5, .int l5)] []) {σ : kdM} {l0 : Nat} {l1 : Int32} {l2 : Int32} {l3 : Int32} {l4 : Int32} {l5 : Int32} (h : X11_gather_10B G k10 l0 l1 l2 l3 l4 l5 σ = some (r, σ1)) : SW E G (.inl (none, σ1)) A 7 σ 10 [(0, kr E l0), (1, .int l1), (2, .int l2), (3, .int l3), (4, .int l4), (5, .int l5)] [] := by
  unfold X11_gather_10B at h
  refine r_iload hX dX11_gather_10 5 rfl ?_
  refine r_aload_n hX dX11_gather_12 rfl 0 rfl ?_
  refine r_gR hX dX11_gather_13 kf_X11_38 rfl h ?_
  clear h; intro t1 h
  refine r_cVi (As := []) (st := [.int l5]) hX dX11_gather_16 kl_X10_size w_ml_X11_367 w_im_X10_size w_se_X10_size ⟨_, _, rfl⟩ (by decide) rfl (Nat.le_of_ble_eq_true rfl) rfl kdz0 h (fun r σ1 h => wX10_size h) ?_
  clear h; intro t2 σ h
  refine r_icmp_ge (tgt := 109) hX dX11_gather_19 (by decide) h ?_ ?_
  · clear h; intro h
    exact r_vret hX dX11_gather_109 h
  · clear h; intro h
    refine r_iload_n hX dX11_gather_22 rfl 1 rfl ?_
    refine r_aload_n hX dX11_gather_23 rfl 0 rfl ?_
    refine r_gR hX dX11_gather_24 kf_X11_38 rfl h ?_
    clear h; intro t3 h
    refine r_iload hX dX11_gather_27 5 rfl ?_
    refine r_cVi (As := [.int l5]) (st := [.int l1]) hX dX11_gather_29 kl_X10_tongueOf w_ml_X11_213 w_im_X10_tongueOf w_se_X10_tongueOf ⟨_, _, rfl⟩ (by decide) rfl (Nat.le_of_ble_eq_true rfl) rfl kdz0 h (fun r σ1 h => wX10_tongueOf h) ?_
    clear h; intro t4 σ h
    refine r_cSi (As := [.int l1, .int t4]) (st := []) hX dX11_gather_32 kl_X11_hasBit w_ml_X11_385 w_st_X11_hasBit (by decide) rfl (Nat.le_of_ble_eq_true rfl) rfl kdz0 h (fun r σ1 h => wX11_hasBit h) ?_
    clear h; intro t5 σ h
    refine r_if_eq (tgt := 103) hX dX11_gather_35 (by decide) h ?_ ?_
    · clear h; intro h
      refine r_sub [0, 1, 2, 3, 4, 5] rfl ?_
      exact wX11_gather_103 hX k10 hk10 h
    · clear h; intro h
      refine r_aload_n hX dX11_gather_38 rfl 0 rfl ?_
      refine r_gR hX dX11_gather_39 kf_X11_45 rfl h ?_
      clear h; intro t6 h
      refine r_aload_n hX dX11_gather_42 rfl 0 rfl ?_
      refine r_gR hX dX11_gather_43 kf_X11_14 rfl h ?_
      clear h; intro t7 h
      refine r_aload_n hX dX11_gather_46 rfl 0 rfl ?_
      refine r_gR hX dX11_gather_47 kf_X11_38 rfl h ?_
      clear h; intro t8 h
      refine r_iload hX dX11_gather_50 5 rfl ?_
      refine r_cVa (As := [.int l5]) (st := [kr E t7, kr E t6]) hX dX11_gather_52 kl_X10_keysOf w_ml_X11_222 w_im_X10_keysOf w_se_X10_keysOf ⟨_, _, rfl⟩ (by decide) rfl (Nat.le_of_ble_eq_true rfl) rfl kdz0 h (fun r σ1 h => wX10_keysOf h) ?_
      clear h; intro t9 σ h
      refine r_cVi (As := [kr E t7, kr E t9]) (st := []) hX dX11_gather_55 kl_X7_priceOf w_ml_X11_232 w_im_X7_priceOf w_se_X7_priceOf ⟨_, _, rfl⟩ (by decide) rfl (Nat.le_of_ble_eq_true rfl) rfl kdz0 h (fun r σ1 h => wX7_priceOf h) ?_
      clear h; intro t10 σ h
      refine r_istore (L2 := [(6, .int t10), (0, kr E l0), (1, .int l1), (2, .int l2), (3, .int l3), (4, .int l4), (5, .int l5)]) hX dX11_gather_58 (by decide) rfl ?_
      refine r_iload hX dX11_gather_60 0 rfl ?_
      refine r_iload_n hX dX11_gather_62 rfl 3 rfl ?_
      refine r_icmp_gt (tgt := 103) hX dX11_gather_63 (by decide) h ?_ ?_
      · clear h; intro h
        refine r_sub [1, 2, 3, 4, 5, 6] rfl ?_
        exact wX11_gather_103 hX k10 hk10 h
      · clear h; intro h
        refine r_aload_n hX dX11_gather_66 rfl 1 rfl ?_
        refine r_gR hX dX11_gather_67 kf_X11_52 rfl h ?_
        clear h; intro t11 h
        refine r_iload hX dX11_gather_70 6 rfl ?_
        refine r_iload hX dX11_gather_72 0 rfl ?_
        refine r_sipush hX dX11_gather_74 kk_s_1000 ?_
        refine r_aload_n hX dX11_gather_77 rfl 1 rfl ?_
        refine r_gR hX dX11_gather_78 kf_X11_38 rfl h ?_
        clear h; intro t12 h
        refine r_iload hX dX11_gather_81 6 rfl ?_
        refine r_cVi (As := [.int l5]) (st := [.int (1000 : Int32), .int t10, .int l5, kr E t11]) hX dX11_gather_83 kl_X10_countOf w_ml_X11_219 w_im_X10_countOf w_se_X10_countOf ⟨_, _, rfl⟩ (by decide) rfl (Nat.le_of_ble_eq_true rfl) rfl kdz0 h (fun r σ1 h => wX10_countOf h) ?_
        clear h; intro t13 σ h
        refine r_imul hX dX11_gather_86 ?_
        refine r_aload_n hX dX11_gather_87 rfl 1 rfl ?_
        refine r_gR hX dX11_gather_88 kf_X11_77 rfl h ?_
        clear h; intro t14 h
        refine r_iload_n hX dX11_gather_91 rfl 4 rfl ?_
        refine r_iload hX dX11_gather_92 6 rfl ?_
        refine r_iload hX dX11_gather_94 5 rfl ?_
        refine r_cVi (As := [.int l3, .int l5, .int l4]) (st := [.int ((1000 : Int32) * t13), .int t10, .int l5, kr E t11]) hX dX11_gather_96 kl_X2_worthOf w_ml_X11_289 w_im_X2_worthOf w_se_X2_worthOf ⟨_, _, rfl⟩ (by decide) rfl (Nat.le_of_ble_eq_true rfl) rfl kdz0 h (fun r σ1 h => wX2_worthOf h) ?_
        clear h; intro t15 σ h
        refine r_iadd hX dX11_gather_99 ?_
        refine r_cVv (As := [.int l5, .int t10, .int (((1000 : Int32) * t13) + t15)]) (st := []) hX dX11_gather_100 kl_X1_insert w_ml_X11_389 w_im_X1_insert w_se_X1_insert ⟨_, _, rfl⟩ (by decide) rfl (Nat.le_of_ble_eq_true rfl) rfl kdz0 h (fun r σ1 h => wX1_insert h) ?_
        clear h; intro u σ h
        refine r_sub [1, 2, 3, 4, 5, 6] rfl ?_
        exact wX11_gather_103 hX k10 hk10 h
def X11_gather_10 (G : kdS) : Nat → Int32 → Int32 → Int32 → Int32 → Int32 → kdM → Option (Unit × kdM) := lp (fun _ _ _ _ _ _ _ => none) (X11_gather_10B G) NN
theorem wX11_gather_10 {E : kdE} {G : kdS} {A : kdA} {r : Unit} {σ1 : kdM} (hX : kdX E A cX11_gather 7 RX11 none 5) : ∀ (l0 : Nat) (l1 : Int32) (l2 : Int32) (l3 : Int32) (l4 : Int32) (l5 : Int32) (σ : kdM), X11_gather_10 G l0 l1 l2 l3 l4 l5 σ = some (r, σ1) → SW E G (.inl (none, σ1)) A 7 σ 10 [(0, kr E l0), (1, .int l1), (2, .int l2), (3, .int l3), (4, .int l4), (5, .int l5)] [] :=
  lp_ind (Q := fun f => ∀ (l0 : Nat) (l1 : Int32) (l2 : Int32) (l3 : Int32) (l4 : Int32) (l5 : Int32) (σ : kdM), f l0 l1 l2 l3 l4 l5 σ = some (r, σ1) → SW E G (.inl (none, σ1)) A 7 σ 10 [(0, kr E l0), (1, .int l1), (2, .int l2), (3, .int l3), (4, .int l4), (5, .int l5)] []) (by intros; contradiction) (fun k hk l0 l1 l2 l3 l4 l5 σ h => wX11_gather_10B hX k hk h) NN
def X11_gather (G : kdS) (l0 : Nat) (l1 : Int32) (l2 : Int32) (l3 : Int32) (l4 : Int32) : kdM → Option (Unit × kdM) :=
  gR G 11 6 l0 fun t1 =>
  kcv G 1 t1 (X1_clear G t1) fun _ =>
  X11_gather_10 G l0 l1 l2 l3 l4 (0 : Int32)
set_option maxRecDepth 100000 in
set_option maxHeartbeats 4000000 in
theorem wX11_gather {E : kdE} {G : kdS} {l0 : Nat} {l1 : Int32} {l2 : Int32} {l3 : Int32} {l4 : Int32} {σ : kdM} {r : Unit} {σ1 : kdM} (h : X11_gather G l0 l1 l2 l3 l4 σ = some (r, σ1)) : Con E G yX11_gather cX11_gather 7 none 5 [kr E l0, .int l1, .int l2, .int l3, .int l4] σ (none, σ1) := by
  refine kd_head (own := RX11) rfl (by decide +kernel) (Nat.le_of_ble_eq_true rfl) (fun A hX => ?_)
  show SW E G (.inl (none, σ1)) A 7 σ 0 [(0, kr E l0), (1, .int l1), (2, .int l2), (3, .int l3), (4, .int l4)] []
  unfold X11_gather at h
  refine r_aload_n hX dX11_gather_0 rfl 0 rfl ?_
  refine r_gR hX dX11_gather_1 kf_X11_52 rfl h ?_
  clear h; intro t1 h
  refine r_cVv (As := []) (st := []) hX dX11_gather_4 kl_X1_clear w_ml_X11_383 w_im_X1_clear w_se_X1_clear ⟨_, _, rfl⟩ (by decide) rfl (Nat.le_of_ble_eq_true rfl) rfl kdz0 h (fun r σ1 h => wX1_clear h) ?_
  clear h; intro u σ h
  refine r_iconst hX dX11_gather_7 kk_i_0 ?_
  refine r_istore (L2 := [(5, .int (0 : Int32)), (0, kr E l0), (1, .int l1), (2, .int l2), (3, .int l3), (4, .int l4)]) hX dX11_gather_8 (by decide) rfl ?_
  refine r_sub [1, 2, 3, 4, 5, 0] rfl ?_
  exact wX11_gather_10 hX _ _ _ _ _ _ _ h
def X11_guess_20 (G : kdS) : kdM → Option (Int32 × kdM) :=
  rt (-2 : Int32)
set_option maxRecDepth 100000 in
set_option maxHeartbeats 4000000 in
theorem wX11_guess_20 {E : kdE} {G : kdS} {A : kdA} {r : Int32} {σ1 : kdM} (hX : kdX E A cX11_guess 4 RX11 (some .int) 6) {σ : kdM} (h : X11_guess_20 G  σ = some (r, σ1)) : SW E G (.inl (some (.int r), σ1)) A 4 σ 20 [] [] := by
  unfold X11_guess_20 at h
  refine r_bipush hX dX11_guess_20 kk_b_m2 ?_
  exact r_iret hX dX11_guess_22 h
def X11_guess (G : kdS) (l0 : Nat) (l1 : Int32) (l2 : Int32) (l3 : Int32) : kdM → Option (Int32 × kdM) :=
  kcl (X11_within G l1 (1 : Int32) (7 : Int32)) fun t1 =>
  cnd (t1 = 0)
    (X11_guess_20 G )
    (kcl (X11_within G l2 (0 : Int32) (60 : Int32)) fun t2 =>
    cnd (t2 = 0)
      (X11_guess_20 G )
      (gR G 11 0 l0 fun t3 =>
      kcv G 6 t3 (X6_isEmpty G t3) fun t4 =>
      cnd (t4 = 0)
        (kcv G 11 l0 (X11_gather G l0 l1 l2 (-1 : Int32) (0 : Int32)) fun _ =>
        gR G 11 6 l0 fun t5 =>
        kcv G 1 t5 (X1_guessAt G t5 l3) fun t6 =>
        rt t6)
        (rt (-3 : Int32))))
set_option maxRecDepth 100000 in
set_option maxHeartbeats 4000000 in
theorem wX11_guess {E : kdE} {G : kdS} {l0 : Nat} {l1 : Int32} {l2 : Int32} {l3 : Int32} {σ : kdM} {r : Int32} {σ1 : kdM} (h : X11_guess G l0 l1 l2 l3 σ = some (r, σ1)) : Con E G yX11_guess cX11_guess 4 (some .int) 6 [kr E l0, .int l1, .int l2, .int l3] σ (some (.int r), σ1) := by
  refine kd_head (own := RX11) rfl (by decide +kernel) (Nat.le_of_ble_eq_true rfl) (fun A hX => ?_)
  show SW E G (.inl (some (.int r), σ1)) A 4 σ 0 [(0, kr E l0), (1, .int l1), (2, .int l2), (3, .int l3)] []
  unfold X11_guess at h
  refine r_iload_n hX dX11_guess_0 rfl 1 rfl ?_
  refine r_iconst hX dX11_guess_1 kk_i_1 ?_
  refine r_bipush hX dX11_guess_2 kk_b_7 ?_
  refine r_cSi (As := [.int l1, .int (1 : Int32), .int (7 : Int32)]) (st := []) hX dX11_guess_4 kl_X11_within w_ml_X11_165 w_st_X11_within (by decide) rfl (Nat.le_of_ble_eq_true rfl) rfl kdz0 h (fun r σ1 h => wX11_within h) ?_
  clear h; intro t1 σ h
  refine r_if_eq (tgt := 20) hX dX11_guess_7 (by decide) h ?_ ?_
  · clear h; intro h
    refine r_sub [] rfl ?_
    exact wX11_guess_20 hX h
  · clear h; intro h
    refine r_iload_n hX dX11_guess_10 rfl 2 rfl ?_
    refine r_iconst hX dX11_guess_11 kk_i_0 ?_
    refine r_bipush hX dX11_guess_12 kk_b_60 ?_
    refine r_cSi (As := [.int l2, .int (0 : Int32), .int (60 : Int32)]) (st := []) hX dX11_guess_14 kl_X11_within w_ml_X11_165 w_st_X11_within (by decide) rfl (Nat.le_of_ble_eq_true rfl) rfl kdz0 h (fun r σ1 h => wX11_within h) ?_
    clear h; intro t2 σ h
    refine r_if_ne (tgt := 23) hX dX11_guess_17 (by decide) h ?_ ?_
    · clear h; intro h
      refine r_sub [] rfl ?_
      exact wX11_guess_20 hX h
    · clear h; intro h
      refine r_aload_n hX dX11_guess_23 rfl 0 rfl ?_
      refine r_gR hX dX11_guess_24 kf_X11_14 rfl h ?_
      clear h; intro t3 h
      refine r_cVi (As := []) (st := []) hX dX11_guess_27 kl_X6_isEmpty w_ml_X11_127 w_im_X6_isEmpty w_se_X6_isEmpty ⟨_, _, rfl⟩ (by decide) rfl (Nat.le_of_ble_eq_true rfl) rfl kdz0 h (fun r σ1 h => wX6_isEmpty h) ?_
      clear h; intro t4 σ h
      refine r_if_eq (tgt := 36) hX dX11_guess_30 (by decide) h ?_ ?_
      · clear h; intro h
        refine r_aload_n hX dX11_guess_36 rfl 0 rfl ?_
        refine r_iload_n hX dX11_guess_37 rfl 1 rfl ?_
        refine r_iload_n hX dX11_guess_38 rfl 2 rfl ?_
        refine r_iconst hX dX11_guess_39 kk_i_m1 ?_
        refine r_iconst hX dX11_guess_40 kk_i_0 ?_
        refine r_cVv (As := [.int l1, .int l2, .int (-1 : Int32), .int (0 : Int32)]) (st := []) hX dX11_guess_41 kl_X11_gather w_ml_X11_235 w_im_X11_gather w_se_X11_gather ⟨_, _, rfl⟩ (by decide) rfl (Nat.le_of_ble_eq_true rfl) rfl kdz0 h (fun r σ1 h => wX11_gather h) ?_
        clear h; intro u σ h
        refine r_aload_n hX dX11_guess_44 rfl 0 rfl ?_
        refine r_gR hX dX11_guess_45 kf_X11_52 rfl h ?_
        clear h; intro t5 h
        refine r_iload_n hX dX11_guess_48 rfl 3 rfl ?_
        refine r_cVi (As := [.int l3]) (st := []) hX dX11_guess_49 kl_X1_guessAt w_ml_X11_239 w_im_X1_guessAt w_se_X1_guessAt ⟨_, _, rfl⟩ (by decide) rfl (Nat.le_of_ble_eq_true rfl) rfl kdz0 h (fun r σ1 h => wX1_guessAt h) ?_
        clear h; intro t6 σ h
        exact r_iret hX dX11_guess_52 h
      · clear h; intro h
        refine r_bipush hX dX11_guess_33 kk_b_m3 ?_
        exact r_iret hX dX11_guess_35 h
def X11_isDay (G : kdS) (l0 : Int32) : kdM → Option (Int32 × kdM) :=
  kcl (X11_within G l0 (0 : Int32) (3000 : Int32)) fun t1 =>
  rt (vp_nar .boolean t1)
set_option maxRecDepth 100000 in
set_option maxHeartbeats 4000000 in
theorem wX11_isDay {E : kdE} {G : kdS} {l0 : Int32} {σ : kdM} {r : Int32} {σ1 : kdM} (h : X11_isDay G l0 σ = some (r, σ1)) : Con E G yX11_isDay cX11_isDay 1 (some .boolean) 1 [.int l0] σ (some (.int r), σ1) := by
  refine kd_head (own := RX11) rfl (by decide +kernel) (Nat.le_of_ble_eq_true rfl) (fun A hX => ?_)
  show SW E G (.inl (some (.int r), σ1)) A 1 σ 0 [(0, .int l0)] []
  unfold X11_isDay at h
  refine r_iload_n hX dX11_isDay_0 rfl 0 rfl ?_
  refine r_iconst hX dX11_isDay_1 kk_i_0 ?_
  refine r_sipush hX dX11_isDay_2 kk_s_3000 ?_
  refine r_cSi (As := [.int l0, .int (0 : Int32), .int (3000 : Int32)]) (st := []) hX dX11_isDay_5 kl_X11_within w_ml_X11_165 w_st_X11_within (by decide) rfl (Nat.le_of_ble_eq_true rfl) rfl kdz0 h (fun r σ1 h => wX11_within h) ?_
  clear h; intro t1 σ h
  exact r_zret hX dX11_isDay_8 h
def X11_isHand (G : kdS) (l0 : Int32) : kdM → Option (Int32 × kdM) :=
  kcl (X11_within G l0 (0 : Int32) (3 : Int32)) fun t1 =>
  rt (vp_nar .boolean t1)
set_option maxRecDepth 100000 in
set_option maxHeartbeats 4000000 in
theorem wX11_isHand {E : kdE} {G : kdS} {l0 : Int32} {σ : kdM} {r : Int32} {σ1 : kdM} (h : X11_isHand G l0 σ = some (r, σ1)) : Con E G yX11_isHand cX11_isHand 1 (some .boolean) 1 [.int l0] σ (some (.int r), σ1) := by
  refine kd_head (own := RX11) rfl (by decide +kernel) (Nat.le_of_ble_eq_true rfl) (fun A hX => ?_)
  show SW E G (.inl (some (.int r), σ1)) A 1 σ 0 [(0, .int l0)] []
  unfold X11_isHand at h
  refine r_iload_n hX dX11_isHand_0 rfl 0 rfl ?_
  refine r_iconst hX dX11_isHand_1 kk_i_0 ?_
  refine r_iconst hX dX11_isHand_2 kk_i_3 ?_
  refine r_cSi (As := [.int l0, .int (0 : Int32), .int (3 : Int32)]) (st := []) hX dX11_isHand_3 kl_X11_within w_ml_X11_165 w_st_X11_within (by decide) rfl (Nat.le_of_ble_eq_true rfl) rfl kdz0 h (fun r σ1 h => wX11_within h) ?_
  clear h; intro t1 σ h
  exact r_zret hX dX11_isHand_6 h
def X11_learn_18 (G : kdS) : kdM → Option (Int32 × kdM) :=
  rt (-1 : Int32)
set_option maxRecDepth 100000 in
set_option maxHeartbeats 4000000 in
theorem wX11_learn_18 {E : kdE} {G : kdS} {A : kdA} {r : Int32} {σ1 : kdM} (hX : kdX E A cX11_learn 4 RX11 (some .int) 4) {σ : kdM} (h : X11_learn_18 G  σ = some (r, σ1)) : SW E G (.inl (some (.int r), σ1)) A 4 σ 18 [] [] := by
  unfold X11_learn_18 at h
  refine r_iconst hX dX11_learn_18 kk_i_m1 ?_
  exact r_iret hX dX11_learn_19 h
def X11_learn_70 (G : kdS) (s0 : Int32) : kdM → Option (Int32 × kdM) :=
  rt s0
set_option maxRecDepth 100000 in
set_option maxHeartbeats 4000000 in
theorem wX11_learn_70 {E : kdE} {G : kdS} {A : kdA} {r : Int32} {σ1 : kdM} (hX : kdX E A cX11_learn 4 RX11 (some .int) 4) {σ : kdM} {s0 : Int32} (h : X11_learn_70 G s0 σ = some (r, σ1)) : SW E G (.inl (some (.int r), σ1)) A 4 σ 70 [] [.int s0] := by
  unfold X11_learn_70 at h
  exact r_iret hX dX11_learn_70 h
def X11_learn (G : kdS) (l0 : Nat) (l1 : Int32) (l2 : Int32) (l3 : Int32) : kdM → Option (Int32 × kdM) :=
  kcl (X11_isHand G l1) fun t1 =>
  cnd (t1 = 0)
    (X11_learn_18 G )
    (gR G 11 4 l0 fun t2 =>
    kcv G 10 t2 (X10_has G t2 l2) fun t3 =>
    cnd (t3 = 0)
      (X11_learn_18 G )
      (kcl (X11_isDay G l3) fun t4 =>
      cnd (t4 = 0)
        (rt (-2 : Int32))
        (gR G 11 9 l0 fun t5 =>
        kcv G 2 t5 (X2_isFull G t5) fun t6 =>
        cnd (t6 = 0)
          (gR G 11 9 l0 fun t7 =>
          kcv G 2 t7 (X2_latestDay G t7 l1) fun t8 =>
          cnd (t8 ≤ l3)
            (gR G 11 9 l0 fun t9 =>
            kcv G 2 t9 (X2_addLearning G t9 l1 l2 l3) fun t10 =>
            X11_learn_70 G t10)
            (X11_learn_70 G (-5 : Int32)))
          (rt (-4 : Int32)))))
set_option maxRecDepth 100000 in
set_option maxHeartbeats 4000000 in
theorem wX11_learn {E : kdE} {G : kdS} {l0 : Nat} {l1 : Int32} {l2 : Int32} {l3 : Int32} {σ : kdM} {r : Int32} {σ1 : kdM} (h : X11_learn G l0 l1 l2 l3 σ = some (r, σ1)) : Con E G yX11_learn cX11_learn 4 (some .int) 4 [kr E l0, .int l1, .int l2, .int l3] σ (some (.int r), σ1) := by
  refine kd_head (own := RX11) rfl (by decide +kernel) (Nat.le_of_ble_eq_true rfl) (fun A hX => ?_)
  show SW E G (.inl (some (.int r), σ1)) A 4 σ 0 [(0, kr E l0), (1, .int l1), (2, .int l2), (3, .int l3)] []
  unfold X11_learn at h
  refine r_iload_n hX dX11_learn_0 rfl 1 rfl ?_
  refine r_cSi (As := [.int l1]) (st := []) hX dX11_learn_1 kl_X11_isHand w_ml_X11_276 w_st_X11_isHand (by decide) rfl (Nat.le_of_ble_eq_true rfl) rfl kdz0 h (fun r σ1 h => wX11_isHand h) ?_
  clear h; intro t1 σ h
  refine r_if_eq (tgt := 18) hX dX11_learn_4 (by decide) h ?_ ?_
  · clear h; intro h
    refine r_sub [] rfl ?_
    exact wX11_learn_18 hX h
  · clear h; intro h
    refine r_aload_n hX dX11_learn_7 rfl 0 rfl ?_
    refine r_gR hX dX11_learn_8 kf_X11_38 rfl h ?_
    clear h; intro t2 h
    refine r_iload_n hX dX11_learn_11 rfl 2 rfl ?_
    refine r_cVi (As := [.int l2]) (st := []) hX dX11_learn_12 kl_X10_has w_ml_X11_212 w_im_X10_has w_se_X10_has ⟨_, _, rfl⟩ (by decide) rfl (Nat.le_of_ble_eq_true rfl) rfl kdz0 h (fun r σ1 h => wX10_has h) ?_
    clear h; intro t3 σ h
    refine r_if_ne (tgt := 20) hX dX11_learn_15 (by decide) h ?_ ?_
    · clear h; intro h
      refine r_sub [] rfl ?_
      exact wX11_learn_18 hX h
    · clear h; intro h
      refine r_iload_n hX dX11_learn_20 rfl 3 rfl ?_
      refine r_cSi (As := [.int l3]) (st := []) hX dX11_learn_21 kl_X11_isDay w_ml_X11_279 w_st_X11_isDay (by decide) rfl (Nat.le_of_ble_eq_true rfl) rfl kdz0 h (fun r σ1 h => wX11_isDay h) ?_
      clear h; intro t4 σ h
      refine r_if_ne (tgt := 30) hX dX11_learn_24 (by decide) h ?_ ?_
      · clear h; intro h
        refine r_bipush hX dX11_learn_27 kk_b_m2 ?_
        exact r_iret hX dX11_learn_29 h
      · clear h; intro h
        refine r_aload_n hX dX11_learn_30 rfl 0 rfl ?_
        refine r_gR hX dX11_learn_31 kf_X11_77 rfl h ?_
        clear h; intro t5 h
        refine r_cVi (As := []) (st := []) hX dX11_learn_34 kl_X2_isFull w_ml_X11_282 w_im_X2_isFull w_se_X2_isFull ⟨_, _, rfl⟩ (by decide) rfl (Nat.le_of_ble_eq_true rfl) rfl kdz0 h (fun r σ1 h => wX2_isFull h) ?_
        clear h; intro t6 σ h
        refine r_if_eq (tgt := 43) hX dX11_learn_37 (by decide) h ?_ ?_
        · clear h; intro h
          refine r_iload_n hX dX11_learn_43 rfl 3 rfl ?_
          refine r_aload_n hX dX11_learn_44 rfl 0 rfl ?_
          refine r_gR hX dX11_learn_45 kf_X11_77 rfl h ?_
          clear h; intro t7 h
          refine r_iload_n hX dX11_learn_48 rfl 1 rfl ?_
          refine r_cVi (As := [.int l1]) (st := [.int l3]) hX dX11_learn_49 kl_X2_latestDay w_ml_X11_283 w_im_X2_latestDay w_se_X2_latestDay ⟨_, _, rfl⟩ (by decide) rfl (Nat.le_of_ble_eq_true rfl) rfl kdz0 h (fun r σ1 h => wX2_latestDay h) ?_
          clear h; intro t8 σ h
          refine r_icmp_ge (tgt := 60) hX dX11_learn_52 (by decide) h ?_ ?_
          · clear h; intro h
            refine r_aload_n hX dX11_learn_60 rfl 0 rfl ?_
            refine r_gR hX dX11_learn_61 kf_X11_77 rfl h ?_
            clear h; intro t9 h
            refine r_iload_n hX dX11_learn_64 rfl 1 rfl ?_
            refine r_iload_n hX dX11_learn_65 rfl 2 rfl ?_
            refine r_iload_n hX dX11_learn_66 rfl 3 rfl ?_
            refine r_cVi (As := [.int l1, .int l2, .int l3]) (st := []) hX dX11_learn_67 kl_X2_addLearning w_ml_X11_286 w_im_X2_addLearning w_se_X2_addLearning ⟨_, _, rfl⟩ (by decide) rfl (Nat.le_of_ble_eq_true rfl) rfl kdz0 h (fun r σ1 h => wX2_addLearning h) ?_
            clear h; intro t10 σ h
            refine r_sub [] rfl ?_
            exact wX11_learn_70 hX h
          · clear h; intro h
            refine r_bipush hX dX11_learn_55 kk_b_m5 ?_
            refine r_goto (tgt := 70) hX dX11_learn_57 (by decide) ?_
            refine r_sub [] rfl ?_
            exact wX11_learn_70 hX h
        · clear h; intro h
          refine r_bipush hX dX11_learn_40 kk_b_m4 ?_
          exact r_iret hX dX11_learn_42 h
def X11_worth_18 (G : kdS) : kdM → Option (Int32 × kdM) :=
  rt (-1 : Int32)
set_option maxRecDepth 100000 in
set_option maxHeartbeats 4000000 in
theorem wX11_worth_18 {E : kdE} {G : kdS} {A : kdA} {r : Int32} {σ1 : kdM} (hX : kdX E A cX11_worth 4 RX11 (some .int) 3) {σ : kdM} (h : X11_worth_18 G  σ = some (r, σ1)) : SW E G (.inl (some (.int r), σ1)) A 4 σ 18 [] [] := by
  unfold X11_worth_18 at h
  refine r_iconst hX dX11_worth_18 kk_i_m1 ?_
  exact r_iret hX dX11_worth_19 h
def X11_worth_42 (G : kdS) (s0 : Int32) : kdM → Option (Int32 × kdM) :=
  rt s0
set_option maxRecDepth 100000 in
set_option maxHeartbeats 4000000 in
theorem wX11_worth_42 {E : kdE} {G : kdS} {A : kdA} {r : Int32} {σ1 : kdM} (hX : kdX E A cX11_worth 4 RX11 (some .int) 3) {σ : kdM} {s0 : Int32} (h : X11_worth_42 G s0 σ = some (r, σ1)) : SW E G (.inl (some (.int r), σ1)) A 4 σ 42 [] [.int s0] := by
  unfold X11_worth_42 at h
  exact r_iret hX dX11_worth_42 h
def X11_worth (G : kdS) (l0 : Nat) (l1 : Int32) (l2 : Int32) (l3 : Int32) : kdM → Option (Int32 × kdM) :=
  kcl (X11_isHand G l1) fun t1 =>
  cnd (t1 = 0)
    (X11_worth_18 G )
    (gR G 11 4 l0 fun t2 =>
    kcv G 10 t2 (X10_has G t2 l2) fun t3 =>
    cnd (t3 = 0)
      (X11_worth_18 G )
      (kcl (X11_isDay G l3) fun t4 =>
      cnd (t4 = 0)
        (X11_worth_42 G (-2 : Int32))
        (gR G 11 9 l0 fun t5 =>
        kcv G 2 t5 (X2_worthOf G t5 l1 l2 l3) fun t6 =>
        X11_worth_42 G t6)))
set_option maxRecDepth 100000 in
set_option maxHeartbeats 4000000 in
theorem wX11_worth {E : kdE} {G : kdS} {l0 : Nat} {l1 : Int32} {l2 : Int32} {l3 : Int32} {σ : kdM} {r : Int32} {σ1 : kdM} (h : X11_worth G l0 l1 l2 l3 σ = some (r, σ1)) : Con E G yX11_worth cX11_worth 4 (some .int) 3 [kr E l0, .int l1, .int l2, .int l3] σ (some (.int r), σ1) := by
  refine kd_head (own := RX11) rfl (by decide +kernel) (Nat.le_of_ble_eq_true rfl) (fun A hX => ?_)
  show SW E G (.inl (some (.int r), σ1)) A 4 σ 0 [(0, kr E l0), (1, .int l1), (2, .int l2), (3, .int l3)] []
  unfold X11_worth at h
  refine r_iload_n hX dX11_worth_0 rfl 1 rfl ?_
  refine r_cSi (As := [.int l1]) (st := []) hX dX11_worth_1 kl_X11_isHand w_ml_X11_276 w_st_X11_isHand (by decide) rfl (Nat.le_of_ble_eq_true rfl) rfl kdz0 h (fun r σ1 h => wX11_isHand h) ?_
  clear h; intro t1 σ h
  refine r_if_eq (tgt := 18) hX dX11_worth_4 (by decide) h ?_ ?_
  · clear h; intro h
    refine r_sub [] rfl ?_
    exact wX11_worth_18 hX h
  · clear h; intro h
    refine r_aload_n hX dX11_worth_7 rfl 0 rfl ?_
    refine r_gR hX dX11_worth_8 kf_X11_38 rfl h ?_
    clear h; intro t2 h
    refine r_iload_n hX dX11_worth_11 rfl 2 rfl ?_
    refine r_cVi (As := [.int l2]) (st := []) hX dX11_worth_12 kl_X10_has w_ml_X11_212 w_im_X10_has w_se_X10_has ⟨_, _, rfl⟩ (by decide) rfl (Nat.le_of_ble_eq_true rfl) rfl kdz0 h (fun r σ1 h => wX10_has h) ?_
    clear h; intro t3 σ h
    refine r_if_ne (tgt := 20) hX dX11_worth_15 (by decide) h ?_ ?_
    · clear h; intro h
      refine r_sub [] rfl ?_
      exact wX11_worth_18 hX h
    · clear h; intro h
      refine r_iload_n hX dX11_worth_20 rfl 3 rfl ?_
      refine r_cSi (As := [.int l3]) (st := []) hX dX11_worth_21 kl_X11_isDay w_ml_X11_279 w_st_X11_isDay (by decide) rfl (Nat.le_of_ble_eq_true rfl) rfl kdz0 h (fun r σ1 h => wX11_isDay h) ?_
      clear h; intro t4 σ h
      refine r_if_eq (tgt := 40) hX dX11_worth_24 (by decide) h ?_ ?_
      · clear h; intro h
        refine r_bipush hX dX11_worth_40 kk_b_m2 ?_
        refine r_sub [] rfl ?_
        exact wX11_worth_42 hX h
      · clear h; intro h
        refine r_aload_n hX dX11_worth_27 rfl 0 rfl ?_
        refine r_gR hX dX11_worth_28 kf_X11_77 rfl h ?_
        clear h; intro t5 h
        refine r_iload_n hX dX11_worth_31 rfl 1 rfl ?_
        refine r_iload_n hX dX11_worth_32 rfl 2 rfl ?_
        refine r_iload_n hX dX11_worth_33 rfl 3 rfl ?_
        refine r_cVi (As := [.int l1, .int l2, .int l3]) (st := []) hX dX11_worth_34 kl_X2_worthOf w_ml_X11_289 w_im_X2_worthOf w_se_X2_worthOf ⟨_, _, rfl⟩ (by decide) rfl (Nat.le_of_ble_eq_true rfl) rfl kdz0 h (fun r σ1 h => wX2_worthOf h) ?_
        clear h; intro t6 σ h
        refine r_goto (tgt := 42) hX dX11_worth_37 (by decide) ?_
        refine r_sub [] rfl ?_
        exact wX11_worth_42 hX h
def X11_forget_23 (G : kdS) : kdM → Option (Int32 × kdM) :=
  rt (-1 : Int32)
set_option maxRecDepth 100000 in
set_option maxHeartbeats 4000000 in
theorem wX11_forget_23 {E : kdE} {G : kdS} {A : kdA} {r : Int32} {σ1 : kdM} (hX : kdX E A cX11_forget 3 RX11 (some .int) 3) {σ : kdM} (h : X11_forget_23 G  σ = some (r, σ1)) : SW E G (.inl (some (.int r), σ1)) A 3 σ 23 [] [] := by
  unfold X11_forget_23 at h
  refine r_iconst hX dX11_forget_23 kk_i_m1 ?_
  exact r_iret hX dX11_forget_24 h
def X11_forget_25 (G : kdS) (l0 : Nat) (l1 : Int32) (l2 : Int32) : kdM → Option (Int32 × kdM) :=
  gR G 11 9 l0 fun t1 =>
  kcv G 2 t1 (X2_dropLearnings G t1 l1 l2) fun t2 =>
  rt t2
set_option maxRecDepth 100000 in
set_option maxHeartbeats 4000000 in
theorem wX11_forget_25 {E : kdE} {G : kdS} {A : kdA} {r : Int32} {σ1 : kdM} (hX : kdX E A cX11_forget 3 RX11 (some .int) 3) {σ : kdM} {l0 : Nat} {l1 : Int32} {l2 : Int32} (h : X11_forget_25 G l0 l1 l2 σ = some (r, σ1)) : SW E G (.inl (some (.int r), σ1)) A 3 σ 25 [(0, kr E l0), (1, .int l1), (2, .int l2)] [] := by
  unfold X11_forget_25 at h
  refine r_aload_n hX dX11_forget_25 rfl 0 rfl ?_
  refine r_gR hX dX11_forget_26 kf_X11_77 rfl h ?_
  clear h; intro t1 h
  refine r_iload_n hX dX11_forget_29 rfl 1 rfl ?_
  refine r_iload_n hX dX11_forget_30 rfl 2 rfl ?_
  refine r_cVi (As := [.int l1, .int l2]) (st := []) hX dX11_forget_31 kl_X2_dropLearnings w_ml_X11_292 w_im_X2_dropLearnings w_se_X2_dropLearnings ⟨_, _, rfl⟩ (by decide) rfl (Nat.le_of_ble_eq_true rfl) rfl kdz0 h (fun r σ1 h => wX2_dropLearnings h) ?_
  clear h; intro t2 σ h
  exact r_iret hX dX11_forget_34 h
def X11_forget (G : kdS) (l0 : Nat) (l1 : Int32) (l2 : Int32) : kdM → Option (Int32 × kdM) :=
  kcl (X11_isHand G l1) fun t1 =>
  cnd (t1 = 0)
    (X11_forget_23 G )
    (cnd (l2 = (-1 : Int32))
      (X11_forget_25 G l0 l1 l2)
      (gR G 11 4 l0 fun t2 =>
      kcv G 10 t2 (X10_has G t2 l2) fun t3 =>
      cnd (t3 = 0)
        (X11_forget_23 G )
        (X11_forget_25 G l0 l1 l2)))
set_option maxRecDepth 100000 in
set_option maxHeartbeats 4000000 in
theorem wX11_forget {E : kdE} {G : kdS} {l0 : Nat} {l1 : Int32} {l2 : Int32} {σ : kdM} {r : Int32} {σ1 : kdM} (h : X11_forget G l0 l1 l2 σ = some (r, σ1)) : Con E G yX11_forget cX11_forget 3 (some .int) 3 [kr E l0, .int l1, .int l2] σ (some (.int r), σ1) := by
  refine kd_head (own := RX11) rfl (by decide +kernel) (Nat.le_of_ble_eq_true rfl) (fun A hX => ?_)
  show SW E G (.inl (some (.int r), σ1)) A 3 σ 0 [(0, kr E l0), (1, .int l1), (2, .int l2)] []
  unfold X11_forget at h
  refine r_iload_n hX dX11_forget_0 rfl 1 rfl ?_
  refine r_cSi (As := [.int l1]) (st := []) hX dX11_forget_1 kl_X11_isHand w_ml_X11_276 w_st_X11_isHand (by decide) rfl (Nat.le_of_ble_eq_true rfl) rfl kdz0 h (fun r σ1 h => wX11_isHand h) ?_
  clear h; intro t1 σ h
  refine r_if_eq (tgt := 23) hX dX11_forget_4 (by decide) h ?_ ?_
  · clear h; intro h
    refine r_sub [] rfl ?_
    exact wX11_forget_23 hX h
  · clear h; intro h
    refine r_iload_n hX dX11_forget_7 rfl 2 rfl ?_
    refine r_iconst hX dX11_forget_8 kk_i_m1 ?_
    refine r_icmp_eq (tgt := 25) hX dX11_forget_9 (by decide) h ?_ ?_
    · clear h; intro h
      refine r_sub [0, 1, 2] rfl ?_
      exact wX11_forget_25 hX h
    · clear h; intro h
      refine r_aload_n hX dX11_forget_12 rfl 0 rfl ?_
      refine r_gR hX dX11_forget_13 kf_X11_38 rfl h ?_
      clear h; intro t2 h
      refine r_iload_n hX dX11_forget_16 rfl 2 rfl ?_
      refine r_cVi (As := [.int l2]) (st := []) hX dX11_forget_17 kl_X10_has w_ml_X11_212 w_im_X10_has w_se_X10_has ⟨_, _, rfl⟩ (by decide) rfl (Nat.le_of_ble_eq_true rfl) rfl kdz0 h (fun r σ1 h => wX10_has h) ?_
      clear h; intro t3 σ h
      refine r_if_ne (tgt := 25) hX dX11_forget_20 (by decide) h ?_ ?_
      · clear h; intro h
        refine r_sub [] rfl ?_
        exact wX11_forget_23 hX h
      · clear h; intro h
        refine r_sub [0, 1, 2] rfl ?_
        exact wX11_forget_25 hX h
def X11_fade_24 (G : kdS) (s0 : Int32) : kdM → Option (Int32 × kdM) :=
  rt s0
set_option maxRecDepth 100000 in
set_option maxHeartbeats 4000000 in
theorem wX11_fade_24 {E : kdE} {G : kdS} {A : kdA} {r : Int32} {σ1 : kdM} (hX : kdX E A cX11_fade 2 RX11 (some .int) 1) {σ : kdM} {s0 : Int32} (h : X11_fade_24 G s0 σ = some (r, σ1)) : SW E G (.inl (some (.int r), σ1)) A 2 σ 24 [] [.int s0] := by
  unfold X11_fade_24 at h
  exact r_iret hX dX11_fade_24 h
def X11_fade (G : kdS) (l0 : Nat) (l1 : Int32) : kdM → Option (Int32 × kdM) :=
  kcl (X11_within G l1 (0 : Int32) (1000 : Int32)) fun t1 =>
  cnd (t1 = 0)
    (X11_fade_24 G (-2 : Int32))
    (gR G 11 9 l0 fun t2 =>
    kcv G 2 t2 (X2_setFade G t2 l1) fun t3 =>
    X11_fade_24 G t3)
set_option maxRecDepth 100000 in
set_option maxHeartbeats 4000000 in
theorem wX11_fade {E : kdE} {G : kdS} {l0 : Nat} {l1 : Int32} {σ : kdM} {r : Int32} {σ1 : kdM} (h : X11_fade G l0 l1 σ = some (r, σ1)) : Con E G yX11_fade cX11_fade 2 (some .int) 1 [kr E l0, .int l1] σ (some (.int r), σ1) := by
  refine kd_head (own := RX11) rfl (by decide +kernel) (Nat.le_of_ble_eq_true rfl) (fun A hX => ?_)
  show SW E G (.inl (some (.int r), σ1)) A 2 σ 0 [(0, kr E l0), (1, .int l1)] []
  unfold X11_fade at h
  refine r_iload_n hX dX11_fade_0 rfl 1 rfl ?_
  refine r_iconst hX dX11_fade_1 kk_i_0 ?_
  refine r_sipush hX dX11_fade_2 kk_s_1000 ?_
  refine r_cSi (As := [.int l1, .int (0 : Int32), .int (1000 : Int32)]) (st := []) hX dX11_fade_5 kl_X11_within w_ml_X11_165 w_st_X11_within (by decide) rfl (Nat.le_of_ble_eq_true rfl) rfl kdz0 h (fun r σ1 h => wX11_within h) ?_
  clear h; intro t1 σ h
  refine r_if_eq (tgt := 22) hX dX11_fade_8 (by decide) h ?_ ?_
  · clear h; intro h
    refine r_bipush hX dX11_fade_22 kk_b_m2 ?_
    refine r_sub [] rfl ?_
    exact wX11_fade_24 hX h
  · clear h; intro h
    refine r_aload_n hX dX11_fade_11 rfl 0 rfl ?_
    refine r_gR hX dX11_fade_12 kf_X11_77 rfl h ?_
    clear h; intro t2 h
    refine r_iload_n hX dX11_fade_15 rfl 1 rfl ?_
    refine r_cVi (As := [.int l1]) (st := []) hX dX11_fade_16 kl_X2_setFade w_ml_X11_295 w_im_X2_setFade w_se_X2_setFade ⟨_, _, rfl⟩ (by decide) rfl (Nat.le_of_ble_eq_true rfl) rfl kdz0 h (fun r σ1 h => wX2_setFade h) ?_
    clear h; intro t3 σ h
    refine r_goto (tgt := 24) hX dX11_fade_19 (by decide) ?_
    refine r_sub [] rfl ?_
    exact wX11_fade_24 hX h
def X11_mine_37 (G : kdS) : kdM → Option (Int32 × kdM) :=
  rt (-2 : Int32)
set_option maxRecDepth 100000 in
set_option maxHeartbeats 4000000 in
theorem wX11_mine_37 {E : kdE} {G : kdS} {A : kdA} {r : Int32} {σ1 : kdM} (hX : kdX E A cX11_mine 6 RX11 (some .int) 6) {σ : kdM} (h : X11_mine_37 G  σ = some (r, σ1)) : SW E G (.inl (some (.int r), σ1)) A 6 σ 37 [] [] := by
  unfold X11_mine_37 at h
  refine r_bipush hX dX11_mine_37 kk_b_m2 ?_
  exact r_iret hX dX11_mine_39 h
def X11_mine (G : kdS) (l0 : Nat) (l1 : Int32) (l2 : Int32) (l3 : Int32) (l4 : Int32) (l5 : Int32) : kdM → Option (Int32 × kdM) :=
  kcl (X11_isHand G l1) fun t1 =>
  cnd (t1 = 0)
    (rt (-1 : Int32))
    (kcl (X11_isDay G l2) fun t2 =>
    cnd (t2 = 0)
      (X11_mine_37 G )
      (kcl (X11_within G l3 (1 : Int32) (7 : Int32)) fun t3 =>
      cnd (t3 = 0)
        (X11_mine_37 G )
        (kcl (X11_within G l4 (0 : Int32) (60 : Int32)) fun t4 =>
        cnd (t4 = 0)
          (X11_mine_37 G )
          (gR G 11 0 l0 fun t5 =>
          kcv G 6 t5 (X6_isEmpty G t5) fun t6 =>
          cnd (t6 = 0)
            (kcv G 11 l0 (X11_gather G l0 l3 l4 l1 l2) fun _ =>
            gR G 11 6 l0 fun t7 =>
            kcv G 1 t7 (X1_guessAt G t7 l5) fun t8 =>
            rt t8)
            (rt (-3 : Int32))))))
set_option maxRecDepth 100000 in
set_option maxHeartbeats 4000000 in
theorem wX11_mine {E : kdE} {G : kdS} {l0 : Nat} {l1 : Int32} {l2 : Int32} {l3 : Int32} {l4 : Int32} {l5 : Int32} {σ : kdM} {r : Int32} {σ1 : kdM} (h : X11_mine G l0 l1 l2 l3 l4 l5 σ = some (r, σ1)) : Con E G yX11_mine cX11_mine 6 (some .int) 6 [kr E l0, .int l1, .int l2, .int l3, .int l4, .int l5] σ (some (.int r), σ1) := by
  refine kd_head (own := RX11) rfl (by decide +kernel) (Nat.le_of_ble_eq_true rfl) (fun A hX => ?_)
  show SW E G (.inl (some (.int r), σ1)) A 6 σ 0 [(0, kr E l0), (1, .int l1), (2, .int l2), (3, .int l3), (4, .int l4), (5, .int l5)] []
  unfold X11_mine at h
  refine r_iload_n hX dX11_mine_0 rfl 1 rfl ?_
  refine r_cSi (As := [.int l1]) (st := []) hX dX11_mine_1 kl_X11_isHand w_ml_X11_276 w_st_X11_isHand (by decide) rfl (Nat.le_of_ble_eq_true rfl) rfl kdz0 h (fun r σ1 h => wX11_isHand h) ?_
  clear h; intro t1 σ h
  refine r_if_ne (tgt := 9) hX dX11_mine_4 (by decide) h ?_ ?_
  · clear h; intro h
    refine r_iconst hX dX11_mine_7 kk_i_m1 ?_
    exact r_iret hX dX11_mine_8 h
  · clear h; intro h
    refine r_iload_n hX dX11_mine_9 rfl 2 rfl ?_
    refine r_cSi (As := [.int l2]) (st := []) hX dX11_mine_10 kl_X11_isDay w_ml_X11_279 w_st_X11_isDay (by decide) rfl (Nat.le_of_ble_eq_true rfl) rfl kdz0 h (fun r σ1 h => wX11_isDay h) ?_
    clear h; intro t2 σ h
    refine r_if_eq (tgt := 37) hX dX11_mine_13 (by decide) h ?_ ?_
    · clear h; intro h
      refine r_sub [] rfl ?_
      exact wX11_mine_37 hX h
    · clear h; intro h
      refine r_iload_n hX dX11_mine_16 rfl 3 rfl ?_
      refine r_iconst hX dX11_mine_17 kk_i_1 ?_
      refine r_bipush hX dX11_mine_18 kk_b_7 ?_
      refine r_cSi (As := [.int l3, .int (1 : Int32), .int (7 : Int32)]) (st := []) hX dX11_mine_20 kl_X11_within w_ml_X11_165 w_st_X11_within (by decide) rfl (Nat.le_of_ble_eq_true rfl) rfl kdz0 h (fun r σ1 h => wX11_within h) ?_
      clear h; intro t3 σ h
      refine r_if_eq (tgt := 37) hX dX11_mine_23 (by decide) h ?_ ?_
      · clear h; intro h
        refine r_sub [] rfl ?_
        exact wX11_mine_37 hX h
      · clear h; intro h
        refine r_iload hX dX11_mine_26 4 rfl ?_
        refine r_iconst hX dX11_mine_28 kk_i_0 ?_
        refine r_bipush hX dX11_mine_29 kk_b_60 ?_
        refine r_cSi (As := [.int l4, .int (0 : Int32), .int (60 : Int32)]) (st := []) hX dX11_mine_31 kl_X11_within w_ml_X11_165 w_st_X11_within (by decide) rfl (Nat.le_of_ble_eq_true rfl) rfl kdz0 h (fun r σ1 h => wX11_within h) ?_
        clear h; intro t4 σ h
        refine r_if_ne (tgt := 40) hX dX11_mine_34 (by decide) h ?_ ?_
        · clear h; intro h
          refine r_sub [] rfl ?_
          exact wX11_mine_37 hX h
        · clear h; intro h
          refine r_aload_n hX dX11_mine_40 rfl 0 rfl ?_
          refine r_gR hX dX11_mine_41 kf_X11_14 rfl h ?_
          clear h; intro t5 h
          refine r_cVi (As := []) (st := []) hX dX11_mine_44 kl_X6_isEmpty w_ml_X11_127 w_im_X6_isEmpty w_se_X6_isEmpty ⟨_, _, rfl⟩ (by decide) rfl (Nat.le_of_ble_eq_true rfl) rfl kdz0 h (fun r σ1 h => wX6_isEmpty h) ?_
          clear h; intro t6 σ h
          refine r_if_eq (tgt := 53) hX dX11_mine_47 (by decide) h ?_ ?_
          · clear h; intro h
            refine r_aload_n hX dX11_mine_53 rfl 0 rfl ?_
            refine r_iload_n hX dX11_mine_54 rfl 3 rfl ?_
            refine r_iload hX dX11_mine_55 4 rfl ?_
            refine r_iload_n hX dX11_mine_57 rfl 1 rfl ?_
            refine r_iload_n hX dX11_mine_58 rfl 2 rfl ?_
            refine r_cVv (As := [.int l3, .int l4, .int l1, .int l2]) (st := []) hX dX11_mine_59 kl_X11_gather w_ml_X11_235 w_im_X11_gather w_se_X11_gather ⟨_, _, rfl⟩ (by decide) rfl (Nat.le_of_ble_eq_true rfl) rfl kdz0 h (fun r σ1 h => wX11_gather h) ?_
            clear h; intro u σ h
            refine r_aload_n hX dX11_mine_62 rfl 0 rfl ?_
            refine r_gR hX dX11_mine_63 kf_X11_52 rfl h ?_
            clear h; intro t7 h
            refine r_iload hX dX11_mine_66 5 rfl ?_
            refine r_cVi (As := [.int l5]) (st := []) hX dX11_mine_68 kl_X1_guessAt w_ml_X11_239 w_im_X1_guessAt w_se_X1_guessAt ⟨_, _, rfl⟩ (by decide) rfl (Nat.le_of_ble_eq_true rfl) rfl kdz0 h (fun r σ1 h => wX1_guessAt h) ?_
            clear h; intro t8 σ h
            exact r_iret hX dX11_mine_71 h
          · clear h; intro h
            refine r_bipush hX dX11_mine_50 kk_b_m3 ?_
            exact r_iret hX dX11_mine_52 h
def X11_budget_34 (G : kdS) (s0 : Int32) : kdM → Option (Int32 × kdM) :=
  rt s0
set_option maxRecDepth 100000 in
set_option maxHeartbeats 4000000 in
theorem wX11_budget_34 {E : kdE} {G : kdS} {A : kdA} {r : Int32} {σ1 : kdM} (hX : kdX E A cX11_budget 3 RX11 (some .int) 2) {σ : kdM} {s0 : Int32} (h : X11_budget_34 G s0 σ = some (r, σ1)) : SW E G (.inl (some (.int r), σ1)) A 3 σ 34 [] [.int s0] := by
  unfold X11_budget_34 at h
  exact r_iret hX dX11_budget_34 h
def X11_budget (G : kdS) (l0 : Nat) (l1 : Int32) (l2 : Int32) : kdM → Option (Int32 × kdM) :=
  kcl (X11_isHand G l1) fun t1 =>
  cnd (t1 = 0)
    (rt (-1 : Int32))
    (kcl (X11_within G l2 (0 : Int32) (1000 : Int32)) fun t2 =>
    cnd (t2 = 0)
      (X11_budget_34 G (-2 : Int32))
      (gR G 11 9 l0 fun t3 =>
      kcv G 2 t3 (X2_setBudget G t3 l1 l2) fun t4 =>
      X11_budget_34 G t4))
set_option maxRecDepth 100000 in
set_option maxHeartbeats 4000000 in
theorem wX11_budget {E : kdE} {G : kdS} {l0 : Nat} {l1 : Int32} {l2 : Int32} {σ : kdM} {r : Int32} {σ1 : kdM} (h : X11_budget G l0 l1 l2 σ = some (r, σ1)) : Con E G yX11_budget cX11_budget 3 (some .int) 2 [kr E l0, .int l1, .int l2] σ (some (.int r), σ1) := by
  refine kd_head (own := RX11) rfl (by decide +kernel) (Nat.le_of_ble_eq_true rfl) (fun A hX => ?_)
  show SW E G (.inl (some (.int r), σ1)) A 3 σ 0 [(0, kr E l0), (1, .int l1), (2, .int l2)] []
  unfold X11_budget at h
  refine r_iload_n hX dX11_budget_0 rfl 1 rfl ?_
  refine r_cSi (As := [.int l1]) (st := []) hX dX11_budget_1 kl_X11_isHand w_ml_X11_276 w_st_X11_isHand (by decide) rfl (Nat.le_of_ble_eq_true rfl) rfl kdz0 h (fun r σ1 h => wX11_isHand h) ?_
  clear h; intro t1 σ h
  refine r_if_ne (tgt := 9) hX dX11_budget_4 (by decide) h ?_ ?_
  · clear h; intro h
    refine r_iconst hX dX11_budget_7 kk_i_m1 ?_
    exact r_iret hX dX11_budget_8 h
  · clear h; intro h
    refine r_iload_n hX dX11_budget_9 rfl 2 rfl ?_
    refine r_iconst hX dX11_budget_10 kk_i_0 ?_
    refine r_sipush hX dX11_budget_11 kk_s_1000 ?_
    refine r_cSi (As := [.int l2, .int (0 : Int32), .int (1000 : Int32)]) (st := []) hX dX11_budget_14 kl_X11_within w_ml_X11_165 w_st_X11_within (by decide) rfl (Nat.le_of_ble_eq_true rfl) rfl kdz0 h (fun r σ1 h => wX11_within h) ?_
    clear h; intro t2 σ h
    refine r_if_eq (tgt := 32) hX dX11_budget_17 (by decide) h ?_ ?_
    · clear h; intro h
      refine r_bipush hX dX11_budget_32 kk_b_m2 ?_
      refine r_sub [] rfl ?_
      exact wX11_budget_34 hX h
    · clear h; intro h
      refine r_aload_n hX dX11_budget_20 rfl 0 rfl ?_
      refine r_gR hX dX11_budget_21 kf_X11_77 rfl h ?_
      clear h; intro t3 h
      refine r_iload_n hX dX11_budget_24 rfl 1 rfl ?_
      refine r_iload_n hX dX11_budget_25 rfl 2 rfl ?_
      refine r_cVi (As := [.int l1, .int l2]) (st := []) hX dX11_budget_26 kl_X2_setBudget w_ml_X11_298 w_im_X2_setBudget w_se_X2_setBudget ⟨_, _, rfl⟩ (by decide) rfl (Nat.le_of_ble_eq_true rfl) rfl kdz0 h (fun r σ1 h => wX2_setBudget h) ?_
      clear h; intro t4 σ h
      refine r_goto (tgt := 34) hX dX11_budget_29 (by decide) ?_
      refine r_sub [] rfl ?_
      exact wX11_budget_34 hX h
def X11_seed_24 (G : kdS) (s0 : Int32) : kdM → Option (Int32 × kdM) :=
  rt s0
set_option maxRecDepth 100000 in
set_option maxHeartbeats 4000000 in
theorem wX11_seed_24 {E : kdE} {G : kdS} {A : kdA} {r : Int32} {σ1 : kdM} (hX : kdX E A cX11_seed 2 RX11 (some .int) 1) {σ : kdM} {s0 : Int32} (h : X11_seed_24 G s0 σ = some (r, σ1)) : SW E G (.inl (some (.int r), σ1)) A 2 σ 24 [] [.int s0] := by
  unfold X11_seed_24 at h
  exact r_iret hX dX11_seed_24 h
def X11_seed (G : kdS) (l0 : Nat) (l1 : Int32) : kdM → Option (Int32 × kdM) :=
  kcl (X11_within G l1 (1 : Int32) (1000000 : Int32)) fun t1 =>
  cnd (t1 = 0)
    (X11_seed_24 G (-2 : Int32))
    (gR G 11 9 l0 fun t2 =>
    kcv G 2 t2 (X2_setSeed G t2 l1) fun t3 =>
    X11_seed_24 G t3)
set_option maxRecDepth 100000 in
set_option maxHeartbeats 4000000 in
theorem wX11_seed {E : kdE} {G : kdS} {l0 : Nat} {l1 : Int32} {σ : kdM} {r : Int32} {σ1 : kdM} (h : X11_seed G l0 l1 σ = some (r, σ1)) : Con E G yX11_seed cX11_seed 2 (some .int) 1 [kr E l0, .int l1] σ (some (.int r), σ1) := by
  refine kd_head (own := RX11) rfl (by decide +kernel) (Nat.le_of_ble_eq_true rfl) (fun A hX => ?_)
  show SW E G (.inl (some (.int r), σ1)) A 2 σ 0 [(0, kr E l0), (1, .int l1)] []
  unfold X11_seed at h
  refine r_iload_n hX dX11_seed_0 rfl 1 rfl ?_
  refine r_iconst hX dX11_seed_1 kk_i_1 ?_
  refine r_ldc_w hX dX11_seed_2 w_ct_X11_301 ?_
  refine r_cSi (As := [.int l1, .int (1 : Int32), .int (1000000 : Int32)]) (st := []) hX dX11_seed_5 kl_X11_within w_ml_X11_165 w_st_X11_within (by decide) rfl (Nat.le_of_ble_eq_true rfl) rfl kdz0 h (fun r σ1 h => wX11_within h) ?_
  clear h; intro t1 σ h
  refine r_if_eq (tgt := 22) hX dX11_seed_8 (by decide) h ?_ ?_
  · clear h; intro h
    refine r_bipush hX dX11_seed_22 kk_b_m2 ?_
    refine r_sub [] rfl ?_
    exact wX11_seed_24 hX h
  · clear h; intro h
    refine r_aload_n hX dX11_seed_11 rfl 0 rfl ?_
    refine r_gR hX dX11_seed_12 kf_X11_77 rfl h ?_
    clear h; intro t2 h
    refine r_iload_n hX dX11_seed_15 rfl 1 rfl ?_
    refine r_cVi (As := [.int l1]) (st := []) hX dX11_seed_16 kl_X2_setSeed w_ml_X11_302 w_im_X2_setSeed w_se_X2_setSeed ⟨_, _, rfl⟩ (by decide) rfl (Nat.le_of_ble_eq_true rfl) rfl kdz0 h (fun r σ1 h => wX2_setSeed h) ?_
    clear h; intro t3 σ h
    refine r_goto (tgt := 24) hX dX11_seed_19 (by decide) ?_
    refine r_sub [] rfl ?_
    exact wX11_seed_24 hX h
def X11_share_32 (G : kdS) : kdM → Option (Int32 × kdM) :=
  rt (-1000002 : Int32)
set_option maxRecDepth 100000 in
set_option maxHeartbeats 4000000 in
theorem wX11_share_32 {E : kdE} {G : kdS} {A : kdA} {r : Int32} {σ1 : kdM} (hX : kdX E A cX11_share 4 RX11 (some .int) 4) {σ : kdM} (h : X11_share_32 G  σ = some (r, σ1)) : SW E G (.inl (some (.int r), σ1)) A 4 σ 32 [] [] := by
  unfold X11_share_32 at h
  refine r_ldc_w hX dX11_share_32 w_ct_X11_306 ?_
  exact r_iret hX dX11_share_35 h
def X11_share_64 (G : kdS) (s0 : Int32) : kdM → Option (Int32 × kdM) :=
  rt s0
set_option maxRecDepth 100000 in
set_option maxHeartbeats 4000000 in
theorem wX11_share_64 {E : kdE} {G : kdS} {A : kdA} {r : Int32} {σ1 : kdM} (hX : kdX E A cX11_share 4 RX11 (some .int) 4) {σ : kdM} {s0 : Int32} (h : X11_share_64 G s0 σ = some (r, σ1)) : SW E G (.inl (some (.int r), σ1)) A 4 σ 64 [] [.int s0] := by
  unfold X11_share_64 at h
  exact r_iret hX dX11_share_64 h
def X11_share (G : kdS) (l0 : Nat) (l1 : Int32) (l2 : Int32) (l3 : Int32) : kdM → Option (Int32 × kdM) :=
  gR G 11 4 l0 fun t1 =>
  kcv G 10 t1 (X10_has G t1 l1) fun t2 =>
  cnd (t2 = 0)
    (rt (-1000001 : Int32))
    (kcl (X11_within G l2 (1 : Int32) (100 : Int32)) fun t3 =>
    cnd (t3 = 0)
      (X11_share_32 G )
      (kcl (X11_isDay G l3) fun t4 =>
      cnd (t4 = 0)
        (X11_share_32 G )
        (gR G 11 9 l0 fun t5 =>
        kcv G 2 t5 (X2_givers G t5 l2) fun t6 =>
        cnd ((2 : Int32) ≤ t6)
          (gR G 11 9 l0 fun t7 =>
          kcv G 2 t7 (X2_sumWithLot G t7 l1 l2 l3) fun t8 =>
          X11_share_64 G t8)
          (X11_share_64 G (-1000005 : Int32)))))
set_option maxRecDepth 100000 in
set_option maxHeartbeats 4000000 in
theorem wX11_share {E : kdE} {G : kdS} {l0 : Nat} {l1 : Int32} {l2 : Int32} {l3 : Int32} {σ : kdM} {r : Int32} {σ1 : kdM} (h : X11_share G l0 l1 l2 l3 σ = some (r, σ1)) : Con E G yX11_share cX11_share 4 (some .int) 4 [kr E l0, .int l1, .int l2, .int l3] σ (some (.int r), σ1) := by
  refine kd_head (own := RX11) rfl (by decide +kernel) (Nat.le_of_ble_eq_true rfl) (fun A hX => ?_)
  show SW E G (.inl (some (.int r), σ1)) A 4 σ 0 [(0, kr E l0), (1, .int l1), (2, .int l2), (3, .int l3)] []
  unfold X11_share at h
  refine r_aload_n hX dX11_share_0 rfl 0 rfl ?_
  refine r_gR hX dX11_share_1 kf_X11_38 rfl h ?_
  clear h; intro t1 h
  refine r_iload_n hX dX11_share_4 rfl 1 rfl ?_
  refine r_cVi (As := [.int l1]) (st := []) hX dX11_share_5 kl_X10_has w_ml_X11_212 w_im_X10_has w_se_X10_has ⟨_, _, rfl⟩ (by decide) rfl (Nat.le_of_ble_eq_true rfl) rfl kdz0 h (fun r σ1 h => wX10_has h) ?_
  clear h; intro t2 σ h
  refine r_if_ne (tgt := 15) hX dX11_share_8 (by decide) h ?_ ?_
  · clear h; intro h
    refine r_ldc_w hX dX11_share_11 w_ct_X11_305 ?_
    exact r_iret hX dX11_share_14 h
  · clear h; intro h
    refine r_iload_n hX dX11_share_15 rfl 2 rfl ?_
    refine r_iconst hX dX11_share_16 kk_i_1 ?_
    refine r_bipush hX dX11_share_17 kk_b_100 ?_
    refine r_cSi (As := [.int l2, .int (1 : Int32), .int (100 : Int32)]) (st := []) hX dX11_share_19 kl_X11_within w_ml_X11_165 w_st_X11_within (by decide) rfl (Nat.le_of_ble_eq_true rfl) rfl kdz0 h (fun r σ1 h => wX11_within h) ?_
    clear h; intro t3 σ h
    refine r_if_eq (tgt := 32) hX dX11_share_22 (by decide) h ?_ ?_
    · clear h; intro h
      refine r_sub [] rfl ?_
      exact wX11_share_32 hX h
    · clear h; intro h
      refine r_iload_n hX dX11_share_25 rfl 3 rfl ?_
      refine r_cSi (As := [.int l3]) (st := []) hX dX11_share_26 kl_X11_isDay w_ml_X11_279 w_st_X11_isDay (by decide) rfl (Nat.le_of_ble_eq_true rfl) rfl kdz0 h (fun r σ1 h => wX11_isDay h) ?_
      clear h; intro t4 σ h
      refine r_if_ne (tgt := 36) hX dX11_share_29 (by decide) h ?_ ?_
      · clear h; intro h
        refine r_sub [] rfl ?_
        exact wX11_share_32 hX h
      · clear h; intro h
        refine r_aload_n hX dX11_share_36 rfl 0 rfl ?_
        refine r_gR hX dX11_share_37 kf_X11_77 rfl h ?_
        clear h; intro t5 h
        refine r_iload_n hX dX11_share_40 rfl 2 rfl ?_
        refine r_cVi (As := [.int l2]) (st := []) hX dX11_share_41 kl_X2_givers w_ml_X11_307 w_im_X2_givers w_se_X2_givers ⟨_, _, rfl⟩ (by decide) rfl (Nat.le_of_ble_eq_true rfl) rfl kdz0 h (fun r σ1 h => wX2_givers h) ?_
        clear h; intro t6 σ h
        refine r_iconst hX dX11_share_44 kk_i_2 ?_
        refine r_icmp_ge (tgt := 54) hX dX11_share_45 (by decide) h ?_ ?_
        · clear h; intro h
          refine r_aload_n hX dX11_share_54 rfl 0 rfl ?_
          refine r_gR hX dX11_share_55 kf_X11_77 rfl h ?_
          clear h; intro t7 h
          refine r_iload_n hX dX11_share_58 rfl 1 rfl ?_
          refine r_iload_n hX dX11_share_59 rfl 2 rfl ?_
          refine r_iload_n hX dX11_share_60 rfl 3 rfl ?_
          refine r_cVi (As := [.int l1, .int l2, .int l3]) (st := []) hX dX11_share_61 kl_X2_sumWithLot w_ml_X11_311 w_im_X2_sumWithLot w_se_X2_sumWithLot ⟨_, _, rfl⟩ (by decide) rfl (Nat.le_of_ble_eq_true rfl) rfl kdz0 h (fun r σ1 h => wX2_sumWithLot h) ?_
          clear h; intro t8 σ h
          refine r_sub [] rfl ?_
          exact wX11_share_64 hX h
        · clear h; intro h
          refine r_ldc_w hX dX11_share_48 w_ct_X11_310 ?_
          refine r_goto (tgt := 64) hX dX11_share_51 (by decide) ?_
          refine r_sub [] rfl ?_
          exact wX11_share_64 hX h
def X11_toldOfOne_72 (G : kdS) (s0 : Int32) : kdM → Option (Int32 × kdM) :=
  rt s0
set_option maxRecDepth 100000 in
set_option maxHeartbeats 4000000 in
theorem wX11_toldOfOne_72 {E : kdE} {G : kdS} {A : kdA} {r : Int32} {σ1 : kdM} (hX : kdX E A cX11_toldOfOne 2 RX11 (some .int) 2) {σ : kdM} {s0 : Int32} (h : X11_toldOfOne_72 G s0 σ = some (r, σ1)) : SW E G (.inl (some (.int r), σ1)) A 2 σ 72 [] [.int s0] := by
  unfold X11_toldOfOne_72 at h
  exact r_iret hX dX11_toldOfOne_72 h
def X11_toldOfOne (G : kdS) (l0 : Nat) (l1 : Int32) : kdM → Option (Int32 × kdM) :=
  kcl (X11_isTongue G (l1 - (10 : Int32))) fun t1 =>
  cnd (t1 = 0)
    (kcl (X11_isTongue G (l1 - (20 : Int32))) fun t2 =>
    cnd (t2 = 0)
      (kcl (X11_isHand G (l1 - (30 : Int32))) fun t3 =>
      cnd (t3 = 0)
        (X11_toldOfOne_72 G (-2 : Int32))
        (gR G 11 9 l0 fun t4 =>
        kcv G 2 t4 (X2_budgetOf G t4 (l1 - (30 : Int32))) fun t5 =>
        X11_toldOfOne_72 G t5))
      (gR G 11 2 l0 fun t6 =>
      aR G 17 t6 ((l1 - (20 : Int32))) fun t7 =>
      kcv G 8 t7 (X8_joins G t7) fun t8 =>
      rt t8))
    (gR G 11 2 l0 fun t9 =>
    aR G 17 t9 ((l1 - (10 : Int32))) fun t10 =>
    kcv G 8 t10 (X8_rules G t10) fun t11 =>
    rt t11)
set_option maxRecDepth 100000 in
set_option maxHeartbeats 4000000 in
theorem wX11_toldOfOne {E : kdE} {G : kdS} {l0 : Nat} {l1 : Int32} {σ : kdM} {r : Int32} {σ1 : kdM} (h : X11_toldOfOne G l0 l1 σ = some (r, σ1)) : Con E G yX11_toldOfOne cX11_toldOfOne 2 (some .int) 2 [kr E l0, .int l1] σ (some (.int r), σ1) := by
  refine kd_head (own := RX11) rfl (by decide +kernel) (Nat.le_of_ble_eq_true rfl) (fun A hX => ?_)
  show SW E G (.inl (some (.int r), σ1)) A 2 σ 0 [(0, kr E l0), (1, .int l1)] []
  unfold X11_toldOfOne at h
  refine r_iload_n hX dX11_toldOfOne_0 rfl 1 rfl ?_
  refine r_bipush hX dX11_toldOfOne_1 kk_b_10 ?_
  refine r_isub hX dX11_toldOfOne_3 ?_
  refine r_cSi (As := [.int (l1 - (10 : Int32))]) (st := []) hX dX11_toldOfOne_4 kl_X11_isTongue w_ml_X11_121 w_st_X11_isTongue (by decide) rfl (Nat.le_of_ble_eq_true rfl) rfl kdz0 h (fun r σ1 h => wX11_isTongue h) ?_
  clear h; intro t1 σ h
  refine r_if_eq (tgt := 23) hX dX11_toldOfOne_7 (by decide) h ?_ ?_
  · clear h; intro h
    refine r_iload_n hX dX11_toldOfOne_23 rfl 1 rfl ?_
    refine r_bipush hX dX11_toldOfOne_24 kk_b_20 ?_
    refine r_isub hX dX11_toldOfOne_26 ?_
    refine r_cSi (As := [.int (l1 - (20 : Int32))]) (st := []) hX dX11_toldOfOne_27 kl_X11_isTongue w_ml_X11_121 w_st_X11_isTongue (by decide) rfl (Nat.le_of_ble_eq_true rfl) rfl kdz0 h (fun r σ1 h => wX11_isTongue h) ?_
    clear h; intro t2 σ h
    refine r_if_eq (tgt := 46) hX dX11_toldOfOne_30 (by decide) h ?_ ?_
    · clear h; intro h
      refine r_iload_n hX dX11_toldOfOne_46 rfl 1 rfl ?_
      refine r_bipush hX dX11_toldOfOne_47 kk_b_30 ?_
      refine r_isub hX dX11_toldOfOne_49 ?_
      refine r_cSi (As := [.int (l1 - (30 : Int32))]) (st := []) hX dX11_toldOfOne_50 kl_X11_isHand w_ml_X11_276 w_st_X11_isHand (by decide) rfl (Nat.le_of_ble_eq_true rfl) rfl kdz0 h (fun r σ1 h => wX11_isHand h) ?_
      clear h; intro t3 σ h
      refine r_if_eq (tgt := 70) hX dX11_toldOfOne_53 (by decide) h ?_ ?_
      · clear h; intro h
        refine r_bipush hX dX11_toldOfOne_70 kk_b_m2 ?_
        refine r_sub [] rfl ?_
        exact wX11_toldOfOne_72 hX h
      · clear h; intro h
        refine r_aload_n hX dX11_toldOfOne_56 rfl 0 rfl ?_
        refine r_gR hX dX11_toldOfOne_57 kf_X11_77 rfl h ?_
        clear h; intro t4 h
        refine r_iload_n hX dX11_toldOfOne_60 rfl 1 rfl ?_
        refine r_bipush hX dX11_toldOfOne_61 kk_b_30 ?_
        refine r_isub hX dX11_toldOfOne_63 ?_
        refine r_cVi (As := [.int (l1 - (30 : Int32))]) (st := []) hX dX11_toldOfOne_64 kl_X2_budgetOf w_ml_X11_380 w_im_X2_budgetOf w_se_X2_budgetOf ⟨_, _, rfl⟩ (by decide) rfl (Nat.le_of_ble_eq_true rfl) rfl kdz0 h (fun r σ1 h => wX2_budgetOf h) ?_
        clear h; intro t5 σ h
        refine r_goto (tgt := 72) hX dX11_toldOfOne_67 (by decide) ?_
        refine r_sub [] rfl ?_
        exact wX11_toldOfOne_72 hX h
    · clear h; intro h
      refine r_aload_n hX dX11_toldOfOne_33 rfl 0 rfl ?_
      refine r_gR hX dX11_toldOfOne_34 kf_X11_23 rfl h ?_
      clear h; intro t6 h
      refine r_iload_n hX dX11_toldOfOne_37 rfl 1 rfl ?_
      refine r_bipush hX dX11_toldOfOne_38 kk_b_20 ?_
      refine r_isub hX dX11_toldOfOne_40 ?_
      refine r_aR17 hX dX11_toldOfOne_41 h ?_
      clear h; intro t7 h
      refine r_cVi (As := []) (st := []) hX dX11_toldOfOne_42 kl_X8_joins w_ml_X11_377 w_im_X8_joins w_se_X8_joins ⟨_, _, rfl⟩ (by decide) rfl (Nat.le_of_ble_eq_true rfl) rfl kdz0 h (fun r σ1 h => wX8_joins h) ?_
      clear h; intro t8 σ h
      exact r_iret hX dX11_toldOfOne_45 h
  · clear h; intro h
    refine r_aload_n hX dX11_toldOfOne_10 rfl 0 rfl ?_
    refine r_gR hX dX11_toldOfOne_11 kf_X11_23 rfl h ?_
    clear h; intro t9 h
    refine r_iload_n hX dX11_toldOfOne_14 rfl 1 rfl ?_
    refine r_bipush hX dX11_toldOfOne_15 kk_b_10 ?_
    refine r_isub hX dX11_toldOfOne_17 ?_
    refine r_aR17 hX dX11_toldOfOne_18 h ?_
    clear h; intro t10 h
    refine r_cVi (As := []) (st := []) hX dX11_toldOfOne_19 kl_X8_rules w_ml_X11_374 w_im_X8_rules w_se_X8_rules ⟨_, _, rfl⟩ (by decide) rfl (Nat.le_of_ble_eq_true rfl) rfl kdz0 h (fun r σ1 h => wX8_rules h) ?_
    clear h; intro t11 σ h
    exact r_iret hX dX11_toldOfOne_22 h
def X11_told (G : kdS) (l0 : Nat) (l1 : Int32) : kdM → Option (Int32 × kdM) :=
  cnd (l1 = (0 : Int32))
    (gR G 11 0 l0 fun t1 =>
    kcv G 6 t1 (X6_size G t1) fun t2 =>
    rt t2)
    (cnd (l1 = (1 : Int32))
      (gR G 11 1 l0 fun t3 =>
      kcv G 6 t3 (X6_size G t3) fun t4 =>
      rt t4)
      (cnd (l1 = (2 : Int32))
        (gR G 11 8 l0 fun t5 =>
        kcv G 0 t5 (X0_padSize G t5) fun t6 =>
        rt t6)
        (cnd (l1 = (3 : Int32))
          (gR G 11 3 l0 fun t7 =>
          kcv G 4 t7 (X4_tongue G t7) fun t8 =>
          rt t8)
          (cnd (l1 = (4 : Int32))
            (gR G 11 3 l0 fun t9 =>
            kcv G 4 t9 (X4_strokes G t9) fun t10 =>
            kcv G 6 t10 (X6_size G t10) fun t11 =>
            rt t11)
            (cnd (l1 = (5 : Int32))
              (gR G 11 4 l0 fun t12 =>
              kcv G 10 t12 (X10_size G t12) fun t13 =>
              rt t13)
              (cnd (l1 = (6 : Int32))
                (gR G 11 8 l0 fun t14 =>
                kcv G 0 t14 (X0_pairs G t14) fun t15 =>
                rt t15)
                (cnd (l1 = (7 : Int32))
                  (gR G 11 9 l0 fun t16 =>
                  kcv G 2 t16 (X2_learnings G t16) fun t17 =>
                  rt t17)
                  (cnd (l1 = (8 : Int32))
                    (gR G 11 10 l0 fun t18 =>
                    kcv G 3 t18 (X3_size G t18) fun t19 =>
                    rt t19)
                    (kcv G 11 l0 (X11_toldOfOne G l0 l1) fun t20 =>
                    rt t20)))))))))
set_option maxRecDepth 100000 in
set_option maxHeartbeats 4000000 in
theorem wX11_told {E : kdE} {G : kdS} {l0 : Nat} {l1 : Int32} {σ : kdM} {r : Int32} {σ1 : kdM} (h : X11_told G l0 l1 σ = some (r, σ1)) : Con E G yX11_told cX11_told 2 (some .int) 3 [kr E l0, .int l1] σ (some (.int r), σ1) := by
  refine kd_head (own := RX11) rfl (by decide +kernel) (Nat.le_of_ble_eq_true rfl) (fun A hX => ?_)
  show SW E G (.inl (some (.int r), σ1)) A 2 σ 0 [(0, kr E l0), (1, .int l1)] []
  unfold X11_told at h
  refine r_iload_n hX dX11_told_0 rfl 1 rfl ?_
  refine r_case (q := l1 = (0 : Int32)) h ?_ ?_
  · clear h; intro hq h
    refine r_tsIn (tgt := 52) (off := 51) (v := (0 : Int32)) hX dX11_told_1 hq (by decide) (by decide) (by decide +kernel) (by decide) ?_
    clear hq
    refine r_aload_n hX dX11_told_52 rfl 0 rfl ?_
    refine r_gR hX dX11_told_53 kf_X11_14 rfl h ?_
    clear h; intro t1 h
    refine r_cVi (As := []) (st := []) hX dX11_told_56 kl_X6_size w_ml_X11_108 w_im_X6_size w_se_X6_size ⟨_, _, rfl⟩ (by decide) rfl (Nat.le_of_ble_eq_true rfl) rfl kdz0 h (fun r σ1 h => wX6_size h) ?_
    clear h; intro t2 σ h
    exact r_iret hX dX11_told_59 h
  · clear h; intro hn0 h
    refine r_case (q := l1 = (1 : Int32)) h ?_ ?_
    · clear h; intro hq h
      refine r_tsIn (tgt := 60) (off := 59) (v := (1 : Int32)) hX dX11_told_1 hq (by decide) (by decide) (by decide +kernel) (by decide) ?_
      clear hq
      refine r_aload_n hX dX11_told_60 rfl 0 rfl ?_
      refine r_gR hX dX11_told_61 kf_X11_18 rfl h ?_
      clear h; intro t3 h
      refine r_cVi (As := []) (st := []) hX dX11_told_64 kl_X6_size w_ml_X11_108 w_im_X6_size w_se_X6_size ⟨_, _, rfl⟩ (by decide) rfl (Nat.le_of_ble_eq_true rfl) rfl kdz0 h (fun r σ1 h => wX6_size h) ?_
      clear h; intro t4 σ h
      exact r_iret hX dX11_told_67 h
    · clear h; intro hn1 h
      refine r_case (q := l1 = (2 : Int32)) h ?_ ?_
      · clear h; intro hq h
        refine r_tsIn (tgt := 68) (off := 67) (v := (2 : Int32)) hX dX11_told_1 hq (by decide) (by decide) (by decide +kernel) (by decide) ?_
        clear hq
        refine r_aload_n hX dX11_told_68 rfl 0 rfl ?_
        refine r_gR hX dX11_told_69 kf_X11_70 rfl h ?_
        clear h; intro t5 h
        refine r_cVi (As := []) (st := []) hX dX11_told_72 kl_X0_padSize w_ml_X11_361 w_im_X0_padSize w_se_X0_padSize ⟨_, _, rfl⟩ (by decide) rfl (Nat.le_of_ble_eq_true rfl) rfl kdz0 h (fun r σ1 h => wX0_padSize h) ?_
        clear h; intro t6 σ h
        exact r_iret hX dX11_told_75 h
      · clear h; intro hn2 h
        refine r_case (q := l1 = (3 : Int32)) h ?_ ?_
        · clear h; intro hq h
          refine r_tsIn (tgt := 76) (off := 75) (v := (3 : Int32)) hX dX11_told_1 hq (by decide) (by decide) (by decide +kernel) (by decide) ?_
          clear hq
          refine r_aload_n hX dX11_told_76 rfl 0 rfl ?_
          refine r_gR hX dX11_told_77 kf_X11_31 rfl h ?_
          clear h; intro t7 h
          refine r_cVi (As := []) (st := []) hX dX11_told_80 kl_X4_tongue w_ml_X11_364 w_im_X4_tongue w_se_X4_tongue ⟨_, _, rfl⟩ (by decide) rfl (Nat.le_of_ble_eq_true rfl) rfl kdz0 h (fun r σ1 h => wX4_tongue h) ?_
          clear h; intro t8 σ h
          exact r_iret hX dX11_told_83 h
        · clear h; intro hn3 h
          refine r_case (q := l1 = (4 : Int32)) h ?_ ?_
          · clear h; intro hq h
            refine r_tsIn (tgt := 84) (off := 83) (v := (4 : Int32)) hX dX11_told_1 hq (by decide) (by decide) (by decide +kernel) (by decide) ?_
            clear hq
            refine r_aload_n hX dX11_told_84 rfl 0 rfl ?_
            refine r_gR hX dX11_told_85 kf_X11_31 rfl h ?_
            clear h; intro t9 h
            refine r_cVa (As := []) (st := []) hX dX11_told_88 kl_X4_strokes w_ml_X11_161 w_im_X4_strokes w_se_X4_strokes ⟨_, _, rfl⟩ (by decide) rfl (Nat.le_of_ble_eq_true rfl) rfl kdz0 h (fun r σ1 h => wX4_strokes h) ?_
            clear h; intro t10 σ h
            refine r_cVi (As := []) (st := []) hX dX11_told_91 kl_X6_size w_ml_X11_108 w_im_X6_size w_se_X6_size ⟨_, _, rfl⟩ (by decide) rfl (Nat.le_of_ble_eq_true rfl) rfl kdz0 h (fun r σ1 h => wX6_size h) ?_
            clear h; intro t11 σ h
            exact r_iret hX dX11_told_94 h
          · clear h; intro hn4 h
            refine r_case (q := l1 = (5 : Int32)) h ?_ ?_
            · clear h; intro hq h
              refine r_tsIn (tgt := 95) (off := 94) (v := (5 : Int32)) hX dX11_told_1 hq (by decide) (by decide) (by decide +kernel) (by decide) ?_
              clear hq
              refine r_aload_n hX dX11_told_95 rfl 0 rfl ?_
              refine r_gR hX dX11_told_96 kf_X11_38 rfl h ?_
              clear h; intro t12 h
              refine r_cVi (As := []) (st := []) hX dX11_told_99 kl_X10_size w_ml_X11_367 w_im_X10_size w_se_X10_size ⟨_, _, rfl⟩ (by decide) rfl (Nat.le_of_ble_eq_true rfl) rfl kdz0 h (fun r σ1 h => wX10_size h) ?_
              clear h; intro t13 σ h
              exact r_iret hX dX11_told_102 h
            · clear h; intro hn5 h
              refine r_case (q := l1 = (6 : Int32)) h ?_ ?_
              · clear h; intro hq h
                refine r_tsIn (tgt := 103) (off := 102) (v := (6 : Int32)) hX dX11_told_1 hq (by decide) (by decide) (by decide +kernel) (by decide) ?_
                clear hq
                refine r_aload_n hX dX11_told_103 rfl 0 rfl ?_
                refine r_gR hX dX11_told_104 kf_X11_70 rfl h ?_
                clear h; intro t14 h
                refine r_cVi (As := []) (st := []) hX dX11_told_107 kl_X0_pairs w_ml_X11_256 w_im_X0_pairs w_se_X0_pairs ⟨_, _, rfl⟩ (by decide) rfl (Nat.le_of_ble_eq_true rfl) rfl kdz0 h (fun r σ1 h => wX0_pairs h) ?_
                clear h; intro t15 σ h
                exact r_iret hX dX11_told_110 h
              · clear h; intro hn6 h
                refine r_case (q := l1 = (7 : Int32)) h ?_ ?_
                · clear h; intro hq h
                  refine r_tsIn (tgt := 111) (off := 110) (v := (7 : Int32)) hX dX11_told_1 hq (by decide) (by decide) (by decide +kernel) (by decide) ?_
                  clear hq
                  refine r_aload_n hX dX11_told_111 rfl 0 rfl ?_
                  refine r_gR hX dX11_told_112 kf_X11_77 rfl h ?_
                  clear h; intro t16 h
                  refine r_cVi (As := []) (st := []) hX dX11_told_115 kl_X2_learnings w_ml_X11_368 w_im_X2_learnings w_se_X2_learnings ⟨_, _, rfl⟩ (by decide) rfl (Nat.le_of_ble_eq_true rfl) rfl kdz0 h (fun r σ1 h => wX2_learnings h) ?_
                  clear h; intro t17 σ h
                  exact r_iret hX dX11_told_118 h
                · clear h; intro hn7 h
                  refine r_case (q := l1 = (8 : Int32)) h ?_ ?_
                  · clear h; intro hq h
                    refine r_tsIn (tgt := 119) (off := 118) (v := (8 : Int32)) hX dX11_told_1 hq (by decide) (by decide) (by decide +kernel) (by decide) ?_
                    clear hq
                    refine r_aload_n hX dX11_told_119 rfl 0 rfl ?_
                    refine r_gR hX dX11_told_120 kf_X11_84 rfl h ?_
                    clear h; intro t18 h
                    refine r_cVi (As := []) (st := []) hX dX11_told_123 kl_X3_size w_ml_X11_351 w_im_X3_size w_se_X3_size ⟨_, _, rfl⟩ (by decide) rfl (Nat.le_of_ble_eq_true rfl) rfl kdz0 h (fun r σ1 h => wX3_size h) ?_
                    clear h; intro t19 σ h
                    exact r_iret hX dX11_told_126 h
                  · clear h; intro hn8 h
                    refine r_tsOut (tgt := 127) hX dX11_told_1 (by have e0 := kd_ne (a := 0) hn0 (by decide); have e1 := kd_ne (a := 1) hn1 (by decide); have e2 := kd_ne (a := 2) hn2 (by decide); have e3 := kd_ne (a := 3) hn3 (by decide); have e4 := kd_ne (a := 4) hn4 (by decide); have e5 := kd_ne (a := 5) hn5 (by decide); have e6 := kd_ne (a := 6) hn6 (by decide); have e7 := kd_ne (a := 7) hn7 (by decide); have e8 := kd_ne (a := 8) hn8 (by decide); omega) (by decide) ?_
                    refine r_aload_n hX dX11_told_127 rfl 0 rfl ?_
                    refine r_iload_n hX dX11_told_128 rfl 1 rfl ?_
                    refine r_cVi (As := [.int l1]) (st := []) hX dX11_told_129 kl_X11_toldOfOne w_ml_X11_371 w_im_X11_toldOfOne w_se_X11_toldOfOne ⟨_, _, rfl⟩ (by decide) rfl (Nat.le_of_ble_eq_true rfl) rfl kdz0 h (fun r σ1 h => wX11_toldOfOne h) ?_
                    clear h; intro t20 σ h
                    exact r_iret hX dX11_told_132 h
