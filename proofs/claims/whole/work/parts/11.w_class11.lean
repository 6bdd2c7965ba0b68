def X4_write_106 (G : kdS) (k15 : Nat → Nat → Int32 → kdM → Option (Unit × kdM)) (l0 : Nat) (l1 : Nat) (l2 : Int32) : kdM → Option (Unit × kdM) :=
  ltI (l2 + Int32.ofInt 1) fun t1 =>
  k15 l0 l1 t1
set_option maxRecDepth 100000 in
set_option maxHeartbeats 4000000 in
theorem wX4_write_106 {E : kdE} {G : kdS} {A : kdA} {r : Unit} {σ1 : kdM} (hX : kdX E A cX4_write 6 RX4 none 4) (k15 : Nat → Nat → Int32 → kdM → Option (Unit × kdM)) (hk15 : ∀ (l0 : Nat) (l1 : Nat) (l2 : Int32) (σ : kdM), k15 l0 l1 l2 σ = some (r, σ1) → SW E G (.inl (none, σ1)) A 6 σ 15 [(0, kr E l0), (1, kr E l1), (2, .int l2)] []) {σ : kdM} {l0 : Nat} {l1 : Nat} {l2 : Int32} (h : X4_write_106 G k15 l0 l1 l2 σ = some (r, σ1)) : SW E G (.inl (none, σ1)) A 6 σ 106 [(0, kr E l0), (1, kr E l1), (2, .int l2)] [] := by
  unfold X4_write_106 at h
  refine r_iincL (L2 := fun t1 => [(2, .int t1), (0, kr E l0), (1, kr E l1)]) hX dX4_write_106 h 2 rfl (by decide) (fun _ => rfl) ?_
  clear h; intro t1 h
  refine r_goto (tgt := 15) hX dX4_write_109 (by decide) ?_
  refine r_sub [1, 2, 0] rfl ?_
  exact hk15 _ _ _ _ h
def X4_write_78B (G : kdS) (k15 : Nat → Nat → Int32 → kdM → Option (Unit × kdM)) (k78 : Nat → Nat → Int32 → Nat → Int32 → kdM → Option (Unit × kdM)) (l0 : Nat) (l1 : Nat) (l2 : Int32) (l4 : Nat) (l5 : Int32) : kdM → Option (Unit × kdM) :=
  kcv G 6 l4 (X6_size G l4) fun t1 =>
  cnd (t1 ≤ l5)
    (X4_write_106 G k15 l0 l1 l2)
    (kcv G 6 l4 (X6_at G l4 l5) fun t2 =>
    kcv G 4 l0 (X4_arrive G l0 l1 t2) fun _ =>
    ltI (l5 + Int32.ofInt 1) fun t3 =>
    k78 l0 l1 l2 l4 t3)
set_option maxRecDepth 100000 in
set_option maxHeartbeats 4000000 in
theorem wX4_write_78B {E : kdE} {G : kdS} {A : kdA} {r : Unit} {σ1 : kdM} (hX : kdX E A cX4_write 6 RX4 none 4) (k15 : Nat → Nat → Int32 → kdM → Option (Unit × kdM)) (k78 : Nat → Nat → Int32 → Nat → Int32 → kdM → Option (Unit × kdM)) (hk15 : ∀ (l0 : Nat) (l1 : Nat) (l2 : Int32) (σ : kdM), k15 l0 l1 l2 σ = some (r, σ1) → SW E G (.inl (none, σ1)) A 6 σ 15 [(0, kr E l0), (1, kr E l1), (2, .int l2)] []) (hk78 : ∀ (l0 : Nat) (l1 : Nat) (l2 : Int32) (l4 : Nat) (l5 : Int32) (σ : kdM), k78 l0 l1 l2 l4 l5 σ = some (r, σ1) → SW E G (.inl (none, σ1)) A 6 σ 78 [(0, kr E l0), (1, kr E l1), (2, .int l2), (4, kr E l4), (5, .int l5)] []) {σ : kdM} {l0 : Nat} {l1 : Nat} {l2 : Int32} {l4 : Nat} {l5 : Int32} (h : X4_write_78B G k15 k78 l0 l1 l2 l4 l5 σ = some (r, σ1)) : SW E G (.inl (none, σ1)) A 6 σ 78 [(0, kr E l0), (1, kr E l1), (2, .int l2), (4, kr E l4), (5, .int l5)] [] := by
  unfold X4_write_78B at h
  refine r_iload hX dX4_write_78 4 rfl ?_
  refine r_aload hX dX4_write_80 3 rfl ?_
  refine r_cVi (As := []) (st := [.int l5]) hX dX4_write_82 kl_X6_size w_ml_X4_37 w_im_X6_size w_se_X6_size ⟨_, _, rfl⟩ (by decide) rfl (Nat.le_of_ble_eq_true rfl) rfl kdz0 h (fun r σ1 h => wX6_size h) ?_
  clear h; intro t1 σ h
  refine r_icmp_ge (tgt := 106) hX dX4_write_85 (by decide) h ?_ ?_
  · clear h; intro h
    refine r_sub [0, 1, 2] rfl ?_
    exact wX4_write_106 hX k15 hk15 h
  · clear h; intro h
    refine r_aload_n hX dX4_write_88 rfl 0 rfl ?_
    refine r_aload_n hX dX4_write_89 rfl 1 rfl ?_
    refine r_aload hX dX4_write_90 3 rfl ?_
    refine r_iload hX dX4_write_92 4 rfl ?_
    refine r_cVi (As := [.int l5]) (st := [kr E l1, kr E l0]) hX dX4_write_94 kl_X6_at w_ml_X4_63 w_im_X6_at w_se_X6_at ⟨_, _, rfl⟩ (by decide) rfl (Nat.le_of_ble_eq_true rfl) rfl kdz0 h (fun r σ1 h => wX6_at h) ?_
    clear h; intro t2 σ h
    refine r_cVv (As := [kr E l1, .int t2]) (st := []) hX dX4_write_97 kl_X4_arrive w_ml_X4_77 w_im_X4_arrive w_se_X4_arrive ⟨_, _, rfl⟩ (by decide) rfl (Nat.le_of_ble_eq_true rfl) rfl kdz0 h (fun r σ1 h => wX4_arrive h) ?_
    clear h; intro u σ h
    refine r_iincL (L2 := fun t3 => [(5, .int t3), (0, kr E l0), (1, kr E l1), (2, .int l2), (4, kr E l4)]) hX dX4_write_100 h 4 rfl (by decide) (fun _ => rfl) ?_
    clear h; intro t3 h
    refine r_goto (tgt := 78) hX dX4_write_103 (by decide) ?_
    refine r_sub [1, 2, 3, 4, 0] rfl ?_
    exact hk78 _ _ _ _ _ _ h
def X4_write_78 (G : kdS) (k15 : Nat → Nat → Int32 → kdM → Option (Unit × kdM)) : Nat → Nat → Int32 → Nat → Int32 → kdM → Option (Unit × kdM) := lp (fun _ _ _ _ _ _ => none) (X4_write_78B G k15) NN
theorem wX4_write_78 {E : kdE} {G : kdS} {A : kdA} {r : Unit} {σ1 : kdM} (hX : kdX E A cX4_write 6 RX4 none 4) (k15 : Nat → Nat → Int32 → kdM → Option (Unit × kdM)) (hk15 : ∀ (l0 : Nat) (l1 : Nat) (l2 : Int32) (σ : kdM), k15 l0 l1 l2 σ = some (r, σ1) → SW E G (.inl (none, σ1)) A 6 σ 15 [(0, kr E l0), (1, kr E l1), (2, .int l2)] []) : ∀ (l0 : Nat) (l1 : Nat) (l2 : Int32) (l4 : Nat) (l5 : Int32) (σ : kdM), X4_write_78 G k15 l0 l1 l2 l4 l5 σ = some (r, σ1) → SW E G (.inl (none, σ1)) A 6 σ 78 [(0, kr E l0), (1, kr E l1), (2, .int l2), (4, kr E l4), (5, .int l5)] [] :=
  lp_ind (Q := fun f => ∀ (l0 : Nat) (l1 : Nat) (l2 : Int32) (l4 : Nat) (l5 : Int32) (σ : kdM), f l0 l1 l2 l4 l5 σ = some (r, σ1) → SW E G (.inl (none, σ1)) A 6 σ 78 [(0, kr E l0), (1, kr E l1), (2, .int l2), (4, kr E l4), (5, .int l5)] []) (by intros; contradiction) (fun k hk l0 l1 l2 l4 l5 σ h => wX4_write_78B hX k15 k hk15 hk h) NN
def X4_write_15B (G : kdS) (k15 : Nat → Nat → Int32 → kdM → Option (Unit × kdM)) (l0 : Nat) (l1 : Nat) (l2 : Int32) : kdM → Option (Unit × kdM) :=
  gR G 4 2 l0 fun t1 =>
  kcv G 6 t1 (X6_size G t1) fun t2 =>
  cnd (t2 ≤ l2)
    (rt ())
    (gR G 4 1 l0 fun t3 =>
    kcv G 6 t3 (X6_at G t3 l2) fun t4 =>
    cnd (t4 = (99 : Int32))
      (gR G 4 3 l0 fun t5 =>
      gR G 4 0 l0 fun t6 =>
      gR G 4 2 l0 fun t7 =>
      kcv G 6 t7 (X6_at G t7 l2) fun t8 =>
      kcv G 6 t6 (X6_at G t6 t8) fun t9 =>
      kcv G 6 t5 (X6_add G t5 ((-1 : Int32) - t9)) fun _ =>
      X4_write_106 G k15 l0 l1 l2)
      (kcv G 8 l1 (X8_lettersOfRule G l1 t4) fun t10 =>
      X4_write_78 G k15 l0 l1 l2 t10 (0 : Int32)))
set_option maxRecDepth 100000 in
set_option maxHeartbeats 4000000 in
theorem wX4_write_15B {E : kdE} {G : kdS} {A : kdA} {r : Unit} {σ1 : kdM} (hX : kdX E A cX4_write 6 RX4 none 4) (k15 : Nat → Nat → Int32 → kdM → Option (Unit × kdM)) (hk15 : ∀ (l0 : Nat) (l1 : Nat) (l2 : Int32) (σ : kdM), k15 l0 l1 l2 σ = some (r, σ1) → SW E G (.inl (none, σ1)) A 6 σ 15 [(0, kr E l0), (1, kr E l1), (2, .int l2)] []) {σ : kdM} {l0 : Nat} {l1 : Nat} {l2 : Int32} (h : X4_write_15B G k15 l0 l1 l2 σ = some (r, σ1)) : SW E G (.inl (none, σ1)) A 6 σ 15 [(0, kr E l0), (1, kr E l1), (2, .int l2)] [] := by
  unfold X4_write_15B at h
  refine r_iload_n hX dX4_write_15 rfl 2 rfl ?_
  refine r_aload_n hX dX4_write_16 rfl 0 rfl ?_
  refine r_gR hX dX4_write_17 kf_X4_23 rfl h ?_
  clear h; intro t1 h
  refine r_cVi (As := []) (st := [.int l2]) hX dX4_write_20 kl_X6_size w_ml_X4_37 w_im_X6_size w_se_X6_size ⟨_, _, rfl⟩ (by decide) rfl (Nat.le_of_ble_eq_true rfl) rfl kdz0 h (fun r σ1 h => wX6_size h) ?_
  clear h; intro t2 σ h
  refine r_icmp_ge (tgt := 112) hX dX4_write_23 (by decide) h ?_ ?_
  · clear h; intro h
    exact r_vret hX dX4_write_112 h
  · clear h; intro h
    refine r_aload_n hX dX4_write_26 rfl 0 rfl ?_
    refine r_gR hX dX4_write_27 kf_X4_20 rfl h ?_
    clear h; intro t3 h
    refine r_iload_n hX dX4_write_30 rfl 2 rfl ?_
    refine r_cVi (As := [.int l2]) (st := []) hX dX4_write_31 kl_X6_at w_ml_X4_63 w_im_X6_at w_se_X6_at ⟨_, _, rfl⟩ (by decide) rfl (Nat.le_of_ble_eq_true rfl) rfl kdz0 h (fun r σ1 h => wX6_at h) ?_
    clear h; intro t4 σ h
    refine r_istore_n (L2 := [(3, .int t4), (0, kr E l0), (1, kr E l1), (2, .int l2)]) hX dX4_write_34 rfl (by decide) rfl ?_
    refine r_iload_n hX dX4_write_35 rfl 0 rfl ?_
    refine r_bipush hX dX4_write_36 kk_b_99 ?_
    refine r_icmp_ne (tgt := 68) hX dX4_write_38 (by decide) h ?_ ?_
    · clear h; intro h
      refine r_aload_n hX dX4_write_41 rfl 1 rfl ?_
      refine r_gR hX dX4_write_42 kf_X4_26 rfl h ?_
      clear h; intro t5 h
      refine r_iconst hX dX4_write_45 kk_i_m1 ?_
      refine r_aload_n hX dX4_write_46 rfl 1 rfl ?_
      refine r_gR hX dX4_write_47 kf_X4_14 rfl h ?_
      clear h; intro t6 h
      refine r_aload_n hX dX4_write_50 rfl 1 rfl ?_
      refine r_gR hX dX4_write_51 kf_X4_23 rfl h ?_
      clear h; intro t7 h
      refine r_iload_n hX dX4_write_54 rfl 3 rfl ?_
      refine r_cVi (As := [.int l2]) (st := [kr E t6, .int (-1 : Int32), kr E t5]) hX dX4_write_55 kl_X6_at w_ml_X4_63 w_im_X6_at w_se_X6_at ⟨_, _, rfl⟩ (by decide) rfl (Nat.le_of_ble_eq_true rfl) rfl kdz0 h (fun r σ1 h => wX6_at h) ?_
      clear h; intro t8 σ h
      refine r_cVi (As := [.int t8]) (st := [.int (-1 : Int32), kr E t5]) hX dX4_write_58 kl_X6_at w_ml_X4_63 w_im_X6_at w_se_X6_at ⟨_, _, rfl⟩ (by decide) rfl (Nat.le_of_ble_eq_true rfl) rfl kdz0 h (fun r σ1 h => wX6_at h) ?_
      clear h; intro t9 σ h
      refine r_isub hX dX4_write_61 ?_
      refine r_cVv (As := [.int ((-1 : Int32) - t9)]) (st := []) hX dX4_write_62 kl_X6_add w_ml_X4_46 w_im_X6_add w_se_X6_add ⟨_, _, rfl⟩ (by decide) rfl (Nat.le_of_ble_eq_true rfl) rfl kdz0 h (fun r σ1 h => wX6_add h) ?_
      clear h; intro u σ h
      refine r_goto (tgt := 106) hX dX4_write_65 (by decide) ?_
      refine r_sub [1, 2, 3] rfl ?_
      exact wX4_write_106 hX k15 hk15 h
    · clear h; intro h
      refine r_aload_n hX dX4_write_68 rfl 2 rfl ?_
      refine r_iload_n hX dX4_write_69 rfl 0 rfl ?_
      refine r_cVa (As := [.int t4]) (st := []) hX dX4_write_70 kl_X8_lettersOfRule w_ml_X4_74 w_im_X8_lettersOfRule w_se_X8_lettersOfRule ⟨_, _, rfl⟩ (by decide) rfl (Nat.le_of_ble_eq_true rfl) rfl kdz0 h (fun r σ1 h => wX8_lettersOfRule h) ?_
      clear h; intro t10 σ h
      refine r_astore (L2 := [(4, kr E t10), (3, .int t4), (0, kr E l0), (1, kr E l1), (2, .int l2)]) hX dX4_write_73 (by decide) rfl ?_
      refine r_iconst hX dX4_write_75 kk_i_0 ?_
      refine r_istore (L2 := [(5, .int (0 : Int32)), (4, kr E t10), (3, .int t4), (0, kr E l0), (1, kr E l1), (2, .int l2)]) hX dX4_write_76 (by decide) rfl ?_
      refine r_sub [3, 4, 5, 1, 0] rfl ?_
      exact wX4_write_78 hX k15 hk15 _ _ _ _ _ _ h
def X4_write_15 (G : kdS) : Nat → Nat → Int32 → kdM → Option (Unit × kdM) := lp (fun _ _ _ _ => none) (X4_write_15B G) NN
theorem wX4_write_15 {E : kdE} {G : kdS} {A : kdA} {r : Unit} {σ1 : kdM} (hX : kdX E A cX4_write 6 RX4 none 4) : ∀ (l0 : Nat) (l1 : Nat) (l2 : Int32) (σ : kdM), X4_write_15 G l0 l1 l2 σ = some (r, σ1) → SW E G (.inl (none, σ1)) A 6 σ 15 [(0, kr E l0), (1, kr E l1), (2, .int l2)] [] :=
  lp_ind (Q := fun f => ∀ (l0 : Nat) (l1 : Nat) (l2 : Int32) (σ : kdM), f l0 l1 l2 σ = some (r, σ1) → SW E G (.inl (none, σ1)) A 6 σ 15 [(0, kr E l0), (1, kr E l1), (2, .int l2)] []) (by intros; contradiction) (fun k hk l0 l1 l2 σ h => wX4_write_15B hX k hk h) NN
def X4_write (G : kdS) (l0 : Nat) (l1 : Nat) : kdM → Option (Unit × kdM) :=
  kcv G 4 l0 (X4_cut G l0 l1) fun _ =>
  gR G 4 3 l0 fun t1 =>
  kcv G 6 t1 (X6_clear G t1) fun t2 =>
  X4_write_15 G l0 l1 (0 : Int32)
set_option maxRecDepth 100000 in
set_option maxHeartbeats 4000000 in
theorem wX4_write {E : kdE} {G : kdS} {l0 : Nat} {l1 : Nat} {σ : kdM} {r : Unit} {σ1 : kdM} (h : X4_write G l0 l1 σ = some (r, σ1)) : Con E G yX4_write cX4_write 6 none 4 [kr E l0, kr E l1] σ (none, σ1) := by
  refine kd_head (own := RX4) rfl (by decide +kernel) (Nat.le_of_ble_eq_true rfl) (fun A hX => ?_)
  show SW E G (.inl (none, σ1)) A 6 σ 0 [(0, kr E l0), (1, kr E l1)] []
  unfold X4_write at h
  refine r_aload_n hX dX4_write_0 rfl 0 rfl ?_
  refine r_aload_n hX dX4_write_1 rfl 1 rfl ?_
  refine r_cVv (As := [kr E l1]) (st := []) hX dX4_write_2 kl_X4_cut w_ml_X4_67 w_im_X4_cut w_se_X4_cut ⟨_, _, rfl⟩ (by decide) rfl (Nat.le_of_ble_eq_true rfl) rfl kdz0 h (fun r σ1 h => wX4_cut h) ?_
  clear h; intro u σ h
  refine r_aload_n hX dX4_write_5 rfl 0 rfl ?_
  refine r_gR hX dX4_write_6 kf_X4_26 rfl h ?_
  clear h; intro t1 h
  refine r_cVi (As := []) (st := []) hX dX4_write_9 kl_X6_clear w_ml_X4_33 w_im_X6_clear w_se_X6_clear ⟨_, _, rfl⟩ (by decide) rfl (Nat.le_of_ble_eq_true rfl) rfl kdz0 h (fun r σ1 h => wX6_clear h) ?_
  clear h; intro t2 σ h
  refine r_pop hX dX4_write_12 rfl ?_
  refine r_iconst hX dX4_write_13 kk_i_0 ?_
  refine r_istore_n (L2 := [(2, .int (0 : Int32)), (0, kr E l0), (1, kr E l1)]) hX dX4_write_14 rfl (by decide) rfl ?_
  refine r_sub [1, 2, 0] rfl ?_
  exact wX4_write_15 hX _ _ _ _ h
def X10_size (G : kdS) (l0 : Nat) : kdM → Option (Int32 × kdM) :=
  gR G 10 0 l0 fun t1 =>
  kcv G 6 t1 (X6_size G t1) fun t2 =>
  rt t2
set_option maxRecDepth 100000 in
set_option maxHeartbeats 4000000 in
theorem wX10_size {E : kdE} {G : kdS} {l0 : Nat} {σ : kdM} {r : Int32} {σ1 : kdM} (h : X10_size G l0 σ = some (r, σ1)) : Con E G yX10_size cX10_size 1 (some .int) 1 [kr E l0] σ (some (.int r), σ1) := by
  refine kd_head (own := RX10) rfl (by decide +kernel) (Nat.le_of_ble_eq_true rfl) (fun A hX => ?_)
  show SW E G (.inl (some (.int r), σ1)) A 1 σ 0 [(0, kr E l0)] []
  unfold X10_size at h
  refine r_aload_n hX dX10_size_0 rfl 0 rfl ?_
  refine r_gR hX dX10_size_1 kf_X10_14 rfl h ?_
  clear h; intro t1 h
  refine r_cVi (As := []) (st := []) hX dX10_size_4 kl_X6_size w_ml_X10_30 w_im_X6_size w_se_X6_size ⟨_, _, rfl⟩ (by decide) rfl (Nat.le_of_ble_eq_true rfl) rfl kdz0 h (fun r σ1 h => wX6_size h) ?_
  clear h; intro t2 σ h
  exact r_iret hX dX10_size_7 h
def X10_isFull (G : kdS) (l0 : Nat) : kdM → Option (Int32 × kdM) :=
  gR G 10 0 l0 fun t1 =>
  kcv G 6 t1 (X6_isFull G t1) fun t2 =>
  rt (vp_nar .boolean t2)
set_option maxRecDepth 100000 in
set_option maxHeartbeats 4000000 in
theorem wX10_isFull {E : kdE} {G : kdS} {l0 : Nat} {σ : kdM} {r : Int32} {σ1 : kdM} (h : X10_isFull G l0 σ = some (r, σ1)) : Con E G yX10_isFull cX10_isFull 1 (some .boolean) 1 [kr E l0] σ (some (.int r), σ1) := by
  refine kd_head (own := RX10) rfl (by decide +kernel) (Nat.le_of_ble_eq_true rfl) (fun A hX => ?_)
  show SW E G (.inl (some (.int r), σ1)) A 1 σ 0 [(0, kr E l0)] []
  unfold X10_isFull at h
  refine r_aload_n hX dX10_isFull_0 rfl 0 rfl ?_
  refine r_gR hX dX10_isFull_1 kf_X10_14 rfl h ?_
  clear h; intro t1 h
  refine r_cVi (As := []) (st := []) hX dX10_isFull_4 kl_X6_isFull w_ml_X10_34 w_im_X6_isFull w_se_X6_isFull ⟨_, _, rfl⟩ (by decide) rfl (Nat.le_of_ble_eq_true rfl) rfl kdz0 h (fun r σ1 h => wX6_isFull h) ?_
  clear h; intro t2 σ h
  exact r_zret hX dX10_isFull_7 h
def X10_has (G : kdS) (l0 : Nat) (l1 : Int32) : kdM → Option (Int32 × kdM) :=
  gR G 10 0 l0 fun t1 =>
  kcv G 6 t1 (X6_has G t1 l1) fun t2 =>
  rt (vp_nar .boolean t2)
set_option maxRecDepth 100000 in
set_option maxHeartbeats 4000000 in
theorem wX10_has {E : kdE} {G : kdS} {l0 : Nat} {l1 : Int32} {σ : kdM} {r : Int32} {σ1 : kdM} (h : X10_has G l0 l1 σ = some (r, σ1)) : Con E G yX10_has cX10_has 2 (some .boolean) 1 [kr E l0, .int l1] σ (some (.int r), σ1) := by
  refine kd_head (own := RX10) rfl (by decide +kernel) (Nat.le_of_ble_eq_true rfl) (fun A hX => ?_)
  show SW E G (.inl (some (.int r), σ1)) A 2 σ 0 [(0, kr E l0), (1, .int l1)] []
  unfold X10_has at h
  refine r_aload_n hX dX10_has_0 rfl 0 rfl ?_
  refine r_gR hX dX10_has_1 kf_X10_14 rfl h ?_
  clear h; intro t1 h
  refine r_iload_n hX dX10_has_4 rfl 1 rfl ?_
  refine r_cVi (As := [.int l1]) (st := []) hX dX10_has_5 kl_X6_has w_ml_X10_38 w_im_X6_has w_se_X6_has ⟨_, _, rfl⟩ (by decide) rfl (Nat.le_of_ble_eq_true rfl) rfl kdz0 h (fun r σ1 h => wX6_has h) ?_
  clear h; intro t2 σ h
  exact r_zret hX dX10_has_8 h
def X10_tongueOf (G : kdS) (l0 : Nat) (l1 : Int32) : kdM → Option (Int32 × kdM) :=
  gR G 10 0 l0 fun t1 =>
  kcv G 6 t1 (X6_at G t1 l1) fun t2 =>
  rt t2
set_option maxRecDepth 100000 in
set_option maxHeartbeats 4000000 in
theorem wX10_tongueOf {E : kdE} {G : kdS} {l0 : Nat} {l1 : Int32} {σ : kdM} {r : Int32} {σ1 : kdM} (h : X10_tongueOf G l0 l1 σ = some (r, σ1)) : Con E G yX10_tongueOf cX10_tongueOf 2 (some .int) 1 [kr E l0, .int l1] σ (some (.int r), σ1) := by
  refine kd_head (own := RX10) rfl (by decide +kernel) (Nat.le_of_ble_eq_true rfl) (fun A hX => ?_)
  show SW E G (.inl (some (.int r), σ1)) A 2 σ 0 [(0, kr E l0), (1, .int l1)] []
  unfold X10_tongueOf at h
  refine r_aload_n hX dX10_tongueOf_0 rfl 0 rfl ?_
  refine r_gR hX dX10_tongueOf_1 kf_X10_14 rfl h ?_
  clear h; intro t1 h
  refine r_iload_n hX dX10_tongueOf_4 rfl 1 rfl ?_
  refine r_cVi (As := [.int l1]) (st := []) hX dX10_tongueOf_5 kl_X6_at w_ml_X10_42 w_im_X6_at w_se_X6_at ⟨_, _, rfl⟩ (by decide) rfl (Nat.le_of_ble_eq_true rfl) rfl kdz0 h (fun r σ1 h => wX6_at h) ?_
  clear h; intro t2 σ h
  exact r_iret hX dX10_tongueOf_8 h
def X10_signOf (G : kdS) (l0 : Nat) (l1 : Int32) : kdM → Option (Int32 × kdM) :=
  gR G 10 1 l0 fun t1 =>
  kcv G 6 t1 (X6_at G t1 l1) fun t2 =>
  rt t2
set_option maxRecDepth 100000 in
set_option maxHeartbeats 4000000 in
theorem wX10_signOf {E : kdE} {G : kdS} {l0 : Nat} {l1 : Int32} {σ : kdM} {r : Int32} {σ1 : kdM} (h : X10_signOf G l0 l1 σ = some (r, σ1)) : Con E G yX10_signOf cX10_signOf 2 (some .int) 1 [kr E l0, .int l1] σ (some (.int r), σ1) := by
  refine kd_head (own := RX10) rfl (by decide +kernel) (Nat.le_of_ble_eq_true rfl) (fun A hX => ?_)
  show SW E G (.inl (some (.int r), σ1)) A 2 σ 0 [(0, kr E l0), (1, .int l1)] []
  unfold X10_signOf at h
  refine r_aload_n hX dX10_signOf_0 rfl 0 rfl ?_
  refine r_gR hX dX10_signOf_1 kf_X10_20 rfl h ?_
  clear h; intro t1 h
  refine r_iload_n hX dX10_signOf_4 rfl 1 rfl ?_
  refine r_cVi (As := [.int l1]) (st := []) hX dX10_signOf_5 kl_X6_at w_ml_X10_42 w_im_X6_at w_se_X6_at ⟨_, _, rfl⟩ (by decide) rfl (Nat.le_of_ble_eq_true rfl) rfl kdz0 h (fun r σ1 h => wX6_at h) ?_
  clear h; intro t2 σ h
  exact r_iret hX dX10_signOf_8 h
def X10_countOf (G : kdS) (l0 : Nat) (l1 : Int32) : kdM → Option (Int32 × kdM) :=
  gR G 10 2 l0 fun t1 =>
  kcv G 6 t1 (X6_at G t1 l1) fun t2 =>
  rt t2
set_option maxRecDepth 100000 in
set_option maxHeartbeats 4000000 in
theorem wX10_countOf {E : kdE} {G : kdS} {l0 : Nat} {l1 : Int32} {σ : kdM} {r : Int32} {σ1 : kdM} (h : X10_countOf G l0 l1 σ = some (r, σ1)) : Con E G yX10_countOf cX10_countOf 2 (some .int) 1 [kr E l0, .int l1] σ (some (.int r), σ1) := by
  refine kd_head (own := RX10) rfl (by decide +kernel) (Nat.le_of_ble_eq_true rfl) (fun A hX => ?_)
  show SW E G (.inl (some (.int r), σ1)) A 2 σ 0 [(0, kr E l0), (1, .int l1)] []
  unfold X10_countOf at h
  refine r_aload_n hX dX10_countOf_0 rfl 0 rfl ?_
  refine r_gR hX dX10_countOf_1 kf_X10_23 rfl h ?_
  clear h; intro t1 h
  refine r_iload_n hX dX10_countOf_4 rfl 1 rfl ?_
  refine r_cVi (As := [.int l1]) (st := []) hX dX10_countOf_5 kl_X6_at w_ml_X10_42 w_im_X6_at w_se_X6_at ⟨_, _, rfl⟩ (by decide) rfl (Nat.le_of_ble_eq_true rfl) rfl kdz0 h (fun r σ1 h => wX6_at h) ?_
  clear h; intro t2 σ h
  exact r_iret hX dX10_countOf_8 h
def X10_keysOf (G : kdS) (l0 : Nat) (l1 : Int32) : kdM → Option (Nat × kdM) :=
  gR G 10 3 l0 fun t1 =>
  aR G 16 t1 (l1) fun t2 =>
  rt t2
set_option maxRecDepth 100000 in
set_option maxHeartbeats 4000000 in
theorem wX10_keysOf {E : kdE} {G : kdS} {l0 : Nat} {l1 : Int32} {σ : kdM} {r : Nat} {σ1 : kdM} (h : X10_keysOf G l0 l1 σ = some (r, σ1)) : Con E G yX10_keysOf cX10_keysOf 2 (some (.object "KeyDesk$Row")) 0 [kr E l0, .int l1] σ (some (kr E r), σ1) := by
  refine kd_head (own := RX10) rfl (by decide +kernel) (Nat.le_of_ble_eq_true rfl) (fun A hX => ?_)
  show SW E G (.inl (some (kr E r), σ1)) A 2 σ 0 [(0, kr E l0), (1, .int l1)] []
  unfold X10_keysOf at h
  refine r_aload_n hX dX10_keysOf_0 rfl 0 rfl ?_
  refine r_gR hX dX10_keysOf_1 kf_X10_26 rfl h ?_
  clear h; intro t1 h
  refine r_iload_n hX dX10_keysOf_4 rfl 1 rfl ?_
  refine r_aR16 hX dX10_keysOf_5 h ?_
  clear h; intro t2 h
  exact r_aret hX dX10_keysOf_6 h
def X10_setCount (G : kdS) (l0 : Nat) (l1 : Int32) (l2 : Int32) : kdM → Option (Int32 × kdM) :=
  gR G 10 2 l0 fun t1 =>
  kcv G 6 t1 (X6_replace G t1 l1 l2) fun t2 =>
  rt t2
set_option maxRecDepth 100000 in
set_option maxHeartbeats 4000000 in
theorem wX10_setCount {E : kdE} {G : kdS} {l0 : Nat} {l1 : Int32} {l2 : Int32} {σ : kdM} {r : Int32} {σ1 : kdM} (h : X10_setCount G l0 l1 l2 σ = some (r, σ1)) : Con E G yX10_setCount cX10_setCount 3 (some .int) 2 [kr E l0, .int l1, .int l2] σ (some (.int r), σ1) := by
  refine kd_head (own := RX10) rfl (by decide +kernel) (Nat.le_of_ble_eq_true rfl) (fun A hX => ?_)
  show SW E G (.inl (some (.int r), σ1)) A 3 σ 0 [(0, kr E l0), (1, .int l1), (2, .int l2)] []
  unfold X10_setCount at h
  refine r_aload_n hX dX10_setCount_0 rfl 0 rfl ?_
  refine r_gR hX dX10_setCount_1 kf_X10_23 rfl h ?_
  clear h; intro t1 h
  refine r_iload_n hX dX10_setCount_4 rfl 1 rfl ?_
  refine r_iload_n hX dX10_setCount_5 rfl 2 rfl ?_
  refine r_cVi (As := [.int l1, .int l2]) (st := []) hX dX10_setCount_6 kl_X6_replace w_ml_X10_46 w_im_X6_replace w_se_X6_replace ⟨_, _, rfl⟩ (by decide) rfl (Nat.le_of_ble_eq_true rfl) rfl kdz0 h (fun r σ1 h => wX6_replace h) ?_
  clear h; intro t2 σ h
  exact r_iret hX dX10_setCount_9 h
def X10_addWord (G : kdS) (l0 : Nat) (l1 : Int32) (l2 : Int32) (l3 : Int32) (l4 : Nat) : kdM → Option (Int32 × kdM) :=
  kcv G 10 l0 (X10_isFull G l0) fun t1 =>
  cnd (t1 = 0)
    (gR G 10 3 l0 fun t2 =>
    kcv G 10 l0 (X10_size G l0) fun t3 =>
    aR G 16 t2 (t3) fun t4 =>
    kcv G 6 t4 (X6_copy G t4 l4) fun _ =>
    gR G 10 0 l0 fun t5 =>
    kcv G 6 t5 (X6_add G t5 l1) fun _ =>
    gR G 10 1 l0 fun t6 =>
    kcv G 6 t6 (X6_add G t6 l2) fun _ =>
    gR G 10 2 l0 fun t7 =>
    kcv G 6 t7 (X6_add G t7 l3) fun _ =>
    kcv G 10 l0 (X10_size G l0) fun t8 =>
    rt (t8 - (1 : Int32)))
    (rt (-4 : Int32))
set_option maxRecDepth 100000 in
set_option maxHeartbeats 4000000 in
theorem wX10_addWord {E : kdE} {G : kdS} {l0 : Nat} {l1 : Int32} {l2 : Int32} {l3 : Int32} {l4 : Nat} {σ : kdM} {r : Int32} {σ1 : kdM} (h : X10_addWord G l0 l1 l2 l3 l4 σ = some (r, σ1)) : Con E G yX10_addWord cX10_addWord 5 (some .int) 4 [kr E l0, .int l1, .int l2, .int l3, kr E l4] σ (some (.int r), σ1) := by
  refine kd_head (own := RX10) rfl (by decide +kernel) (Nat.le_of_ble_eq_true rfl) (fun A hX => ?_)
  show SW E G (.inl (some (.int r), σ1)) A 5 σ 0 [(0, kr E l0), (1, .int l1), (2, .int l2), (3, .int l3), (4, kr E l4)] []
  unfold X10_addWord at h
  refine r_aload_n hX dX10_addWord_0 rfl 0 rfl ?_
  refine r_cVi (As := []) (st := []) hX dX10_addWord_1 kl_X10_isFull w_ml_X10_50 w_im_X10_isFull w_se_X10_isFull ⟨_, _, rfl⟩ (by decide) rfl (Nat.le_of_ble_eq_true rfl) rfl kdz0 h (fun r σ1 h => wX10_isFull h) ?_
  clear h; intro t1 σ h
  refine r_if_eq (tgt := 10) hX dX10_addWord_4 (by decide) h ?_ ?_
  · clear h; intro h
    refine r_aload_n hX dX10_addWord_10 rfl 0 rfl ?_
    refine r_gR hX dX10_addWord_11 kf_X10_26 rfl h ?_
    clear h; intro t2 h
    refine r_aload_n hX dX10_addWord_14 rfl 0 rfl ?_
    refine r_cVi (As := []) (st := [kr E t2]) hX dX10_addWord_15 kl_X10_size w_ml_X10_51 w_im_X10_size w_se_X10_size ⟨_, _, rfl⟩ (by decide) rfl (Nat.le_of_ble_eq_true rfl) rfl kdz0 h (fun r σ1 h => wX10_size h) ?_
    clear h; intro t3 σ h
    refine r_aR16 hX dX10_addWord_18 h ?_
    clear h; intro t4 h
    refine r_aload hX dX10_addWord_19 4 rfl ?_
    refine r_cVv (As := [kr E l4]) (st := []) hX dX10_addWord_21 kl_X6_copy w_ml_X10_52 w_im_X6_copy w_se_X6_copy ⟨_, _, rfl⟩ (by decide) rfl (Nat.le_of_ble_eq_true rfl) rfl kdz0 h (fun r σ1 h => wX6_copy h) ?_
    clear h; intro u σ h
    refine r_aload_n hX dX10_addWord_24 rfl 0 rfl ?_
    refine r_gR hX dX10_addWord_25 kf_X10_14 rfl h ?_
    clear h; intro t5 h
    refine r_iload_n hX dX10_addWord_28 rfl 1 rfl ?_
    refine r_cVv (As := [.int l1]) (st := []) hX dX10_addWord_29 kl_X6_add w_ml_X10_56 w_im_X6_add w_se_X6_add ⟨_, _, rfl⟩ (by decide) rfl (Nat.le_of_ble_eq_true rfl) rfl kdz0 h (fun r σ1 h => wX6_add h) ?_
    clear h; intro u σ h
    refine r_aload_n hX dX10_addWord_32 rfl 0 rfl ?_
    refine r_gR hX dX10_addWord_33 kf_X10_20 rfl h ?_
    clear h; intro t6 h
    refine r_iload_n hX dX10_addWord_36 rfl 2 rfl ?_
    refine r_cVv (As := [.int l2]) (st := []) hX dX10_addWord_37 kl_X6_add w_ml_X10_56 w_im_X6_add w_se_X6_add ⟨_, _, rfl⟩ (by decide) rfl (Nat.le_of_ble_eq_true rfl) rfl kdz0 h (fun r σ1 h => wX6_add h) ?_
    clear h; intro u σ h
    refine r_aload_n hX dX10_addWord_40 rfl 0 rfl ?_
    refine r_gR hX dX10_addWord_41 kf_X10_23 rfl h ?_
    clear h; intro t7 h
    refine r_iload_n hX dX10_addWord_44 rfl 3 rfl ?_
    refine r_cVv (As := [.int l3]) (st := []) hX dX10_addWord_45 kl_X6_add w_ml_X10_56 w_im_X6_add w_se_X6_add ⟨_, _, rfl⟩ (by decide) rfl (Nat.le_of_ble_eq_true rfl) rfl kdz0 h (fun r σ1 h => wX6_add h) ?_
    clear h; intro u σ h
    refine r_aload_n hX dX10_addWord_48 rfl 0 rfl ?_
    refine r_cVi (As := []) (st := []) hX dX10_addWord_49 kl_X10_size w_ml_X10_51 w_im_X10_size w_se_X10_size ⟨_, _, rfl⟩ (by decide) rfl (Nat.le_of_ble_eq_true rfl) rfl kdz0 h (fun r σ1 h => wX10_size h) ?_
    clear h; intro t8 σ h
    refine r_iconst hX dX10_addWord_52 kk_i_1 ?_
    refine r_isub hX dX10_addWord_53 ?_
    exact r_iret hX dX10_addWord_54 h
  · clear h; intro h
    refine r_bipush hX dX10_addWord_7 kk_b_m4 ?_
    exact r_iret hX dX10_addWord_9 h
def X10_soundAlike_36 (G : kdS) (s0 : Int32) : kdM → Option (Int32 × kdM) :=
  rt (vp_nar .boolean s0)
set_option maxRecDepth 100000 in
set_option maxHeartbeats 4000000 in
theorem wX10_soundAlike_36 {E : kdE} {G : kdS} {A : kdA} {r : Int32} {σ1 : kdM} (hX : kdX E A cX10_soundAlike 3 RX10 (some .boolean) 2) {σ : kdM} {s0 : Int32} (h : X10_soundAlike_36 G s0 σ = some (r, σ1)) : SW E G (.inl (some (.int r), σ1)) A 3 σ 36 [] [.int s0] := by
  unfold X10_soundAlike_36 at h
  exact r_zret hX dX10_soundAlike_36 h
def X10_soundAlike_35 (G : kdS) : kdM → Option (Int32 × kdM) :=
  X10_soundAlike_36 G (0 : Int32)
set_option maxRecDepth 100000 in
set_option maxHeartbeats 4000000 in
theorem wX10_soundAlike_35 {E : kdE} {G : kdS} {A : kdA} {r : Int32} {σ1 : kdM} (hX : kdX E A cX10_soundAlike 3 RX10 (some .boolean) 2) {σ : kdM} (h : X10_soundAlike_35 G  σ = some (r, σ1)) : SW E G (.inl (some (.int r), σ1)) A 3 σ 35 [] [] := by
  unfold X10_soundAlike_35 at h
  refine r_iconst hX dX10_soundAlike_35 kk_i_0 ?_
  refine r_sub [] rfl ?_
  exact wX10_soundAlike_36 hX h
def X10_soundAlike (G : kdS) (l0 : Nat) (l1 : Int32) (l2 : Int32) : kdM → Option (Int32 × kdM) :=
  kcv G 10 l0 (X10_tongueOf G l0 l1) fun t1 =>
  kcv G 10 l0 (X10_tongueOf G l0 l2) fun t2 =>
  cnd (t1 = t2)
    (gR G 10 3 l0 fun t3 =>
    aR G 16 t3 (l1) fun t4 =>
    gR G 10 3 l0 fun t5 =>
    aR G 16 t5 (l2) fun t6 =>
    kcv G 6 t4 (X6_isLike G t4 t6) fun t7 =>
    cnd (t7 = 0)
      (X10_soundAlike_35 G )
      (X10_soundAlike_36 G (1 : Int32)))
    (X10_soundAlike_35 G )
set_option maxRecDepth 100000 in
set_option maxHeartbeats 4000000 in
theorem wX10_soundAlike {E : kdE} {G : kdS} {l0 : Nat} {l1 : Int32} {l2 : Int32} {σ : kdM} {r : Int32} {σ1 : kdM} (h : X10_soundAlike G l0 l1 l2 σ = some (r, σ1)) : Con E G yX10_soundAlike cX10_soundAlike 3 (some .boolean) 2 [kr E l0, .int l1, .int l2] σ (some (.int r), σ1) := by
  refine kd_head (own := RX10) rfl (by decide +kernel) (Nat.le_of_ble_eq_true rfl) (fun A hX => ?_)
  show SW E G (.inl (some (.int r), σ1)) A 3 σ 0 [(0, kr E l0), (1, .int l1), (2, .int l2)] []
  unfold X10_soundAlike at h
  refine r_aload_n hX dX10_soundAlike_0 rfl 0 rfl ?_
  refine r_iload_n hX dX10_soundAlike_1 rfl 1 rfl ?_
  refine r_cVi (As := [.int l1]) (st := []) hX dX10_soundAlike_2 kl_X10_tongueOf w_ml_X10_59 w_im_X10_tongueOf w_se_X10_tongueOf ⟨_, _, rfl⟩ (by decide) rfl (Nat.le_of_ble_eq_true rfl) rfl kdz0 h (fun r σ1 h => wX10_tongueOf h) ?_
  clear h; intro t1 σ h
  refine r_aload_n hX dX10_soundAlike_5 rfl 0 rfl ?_
  refine r_iload_n hX dX10_soundAlike_6 rfl 2 rfl ?_
  refine r_cVi (As := [.int l2]) (st := [.int t1]) hX dX10_soundAlike_7 kl_X10_tongueOf w_ml_X10_59 w_im_X10_tongueOf w_se_X10_tongueOf ⟨_, _, rfl⟩ (by decide) rfl (Nat.le_of_ble_eq_true rfl) rfl kdz0 h (fun r σ1 h => wX10_tongueOf h) ?_
  clear h; intro t2 σ h
  refine r_icmp_ne (tgt := 35) hX dX10_soundAlike_10 (by decide) h ?_ ?_
  · clear h; intro h
    refine r_aload_n hX dX10_soundAlike_13 rfl 0 rfl ?_
    refine r_gR hX dX10_soundAlike_14 kf_X10_26 rfl h ?_
    clear h; intro t3 h
    refine r_iload_n hX dX10_soundAlike_17 rfl 1 rfl ?_
    refine r_aR16 hX dX10_soundAlike_18 h ?_
    clear h; intro t4 h
    refine r_aload_n hX dX10_soundAlike_19 rfl 0 rfl ?_
    refine r_gR hX dX10_soundAlike_20 kf_X10_26 rfl h ?_
    clear h; intro t5 h
    refine r_iload_n hX dX10_soundAlike_23 rfl 2 rfl ?_
    refine r_aR16 hX dX10_soundAlike_24 h ?_
    clear h; intro t6 h
    refine r_cVi (As := [kr E t6]) (st := []) hX dX10_soundAlike_25 kl_X6_isLike w_ml_X10_62 w_im_X6_isLike w_se_X6_isLike ⟨_, _, rfl⟩ (by decide) rfl (Nat.le_of_ble_eq_true rfl) rfl kdz0 h (fun r σ1 h => wX6_isLike h) ?_
    clear h; intro t7 σ h
    refine r_if_eq (tgt := 35) hX dX10_soundAlike_28 (by decide) h ?_ ?_
    · clear h; intro h
      refine r_sub [] rfl ?_
      exact wX10_soundAlike_35 hX h
    · clear h; intro h
      refine r_iconst hX dX10_soundAlike_31 kk_i_1 ?_
      refine r_goto (tgt := 36) hX dX10_soundAlike_32 (by decide) ?_
      refine r_sub [] rfl ?_
      exact wX10_soundAlike_36 hX h
  · clear h; intro h
    refine r_sub [] rfl ?_
    exact wX10_soundAlike_35 hX h
def X7_setPrice (G : kdS) (l0 : Nat) (l1 : Int32) (l2 : Int32) : kdM → Option (Int32 × kdM) :=
  gR G 7 0 l0 fun t1 =>
  aI G t1 (l1) fun t2 =>
  gR G 7 0 l0 fun t3 =>
  tI G t3 (l1) (l2) <|
  rt t2
set_option maxRecDepth 100000 in
set_option maxHeartbeats 4000000 in
theorem wX7_setPrice {E : kdE} {G : kdS} {l0 : Nat} {l1 : Int32} {l2 : Int32} {σ : kdM} {r : Int32} {σ1 : kdM} (h : X7_setPrice G l0 l1 l2 σ = some (r, σ1)) : Con E G yX7_setPrice cX7_setPrice 4 (some .int) 0 [kr E l0, .int l1, .int l2] σ (some (.int r), σ1) := by
  refine kd_head (own := RX7) rfl (by decide +kernel) (Nat.le_of_ble_eq_true rfl) (fun A hX => ?_)
  show SW E G (.inl (some (.int r), σ1)) A 4 σ 0 [(0, kr E l0), (1, .int l1), (2, .int l2)] []
  unfold X7_setPrice at h
  refine r_aload_n hX dX7_setPrice_0 rfl 0 rfl ?_
  refine r_gR hX dX7_setPrice_1 kf_X7_9 rfl h ?_
  clear h; intro t1 h
  refine r_iload_n hX dX7_setPrice_4 rfl 1 rfl ?_
  refine r_aI hX dX7_setPrice_5 h ?_
  clear h; intro t2 h
  refine r_istore_n (L2 := [(3, .int t2), (0, kr E l0), (1, .int l1), (2, .int l2)]) hX dX7_setPrice_6 rfl (by decide) rfl ?_
  refine r_aload_n hX dX7_setPrice_7 rfl 1 rfl ?_
  refine r_gR hX dX7_setPrice_8 kf_X7_9 rfl h ?_
  clear h; intro t3 h
  refine r_iload_n hX dX7_setPrice_11 rfl 2 rfl ?_
  refine r_iload_n hX dX7_setPrice_12 rfl 3 rfl ?_
  refine r_tI hX dX7_setPrice_13 h ?_
  clear h; intro σ h
  refine r_iload_n hX dX7_setPrice_14 rfl 0 rfl ?_
  exact r_iret hX dX7_setPrice_15 h
def X7_switchPrice (G : kdS) (l0 : Nat) : kdM → Option (Int32 × kdM) :=
  gR G 7 0 l0 fun t1 =>
  aI G t1 ((5 : Int32)) fun t2 =>
  rt t2
set_option maxRecDepth 100000 in
set_option maxHeartbeats 4000000 in
theorem wX7_switchPrice {E : kdE} {G : kdS} {l0 : Nat} {σ : kdM} {r : Int32} {σ1 : kdM} (h : X7_switchPrice G l0 σ = some (r, σ1)) : Con E G yX7_switchPrice cX7_switchPrice 1 (some .int) 0 [kr E l0] σ (some (.int r), σ1) := by
  refine kd_head (own := RX7) rfl (by decide +kernel) (Nat.le_of_ble_eq_true rfl) (fun A hX => ?_)
  show SW E G (.inl (some (.int r), σ1)) A 1 σ 0 [(0, kr E l0)] []
  unfold X7_switchPrice at h
  refine r_aload_n hX dX7_switchPrice_0 rfl 0 rfl ?_
  refine r_gR hX dX7_switchPrice_1 kf_X7_9 rfl h ?_
  clear h; intro t1 h
  refine r_iconst hX dX7_switchPrice_4 kk_i_5 ?_
  refine r_aI hX dX7_switchPrice_5 h ?_
  clear h; intro t2 h
  exact r_iret hX dX7_switchPrice_6 h
def X7_leastFor (G : kdS) (l0 : Nat) (l1 : Int32) (l2 : Nat) : kdM → Option (Int32 × kdM) :=
  gR G 7 1 l0 fun t1 =>
  aR G 18 t1 (l1) fun t2 =>
  kcv G 6 l2 (X6_size G l2) fun t3 =>
  aI G t2 (t3) fun t4 =>
  rt t4
set_option maxRecDepth 100000 in
set_option maxHeartbeats 4000000 in
theorem wX7_leastFor {E : kdE} {G : kdS} {l0 : Nat} {l1 : Int32} {l2 : Nat} {σ : kdM} {r : Int32} {σ1 : kdM} (h : X7_leastFor G l0 l1 l2 σ = some (r, σ1)) : Con E G yX7_leastFor cX7_leastFor 3 (some .int) 1 [kr E l0, .int l1, kr E l2] σ (some (.int r), σ1) := by
  refine kd_head (own := RX7) rfl (by decide +kernel) (Nat.le_of_ble_eq_true rfl) (fun A hX => ?_)
  show SW E G (.inl (some (.int r), σ1)) A 3 σ 0 [(0, kr E l0), (1, .int l1), (2, kr E l2)] []
  unfold X7_leastFor at h
  refine r_aload_n hX dX7_leastFor_0 rfl 0 rfl ?_
  refine r_gR hX dX7_leastFor_1 kf_X7_17 rfl h ?_
  clear h; intro t1 h
  refine r_iload_n hX dX7_leastFor_4 rfl 1 rfl ?_
  refine r_aR18 hX dX7_leastFor_5 h ?_
  clear h; intro t2 h
  refine r_aload_n hX dX7_leastFor_6 rfl 2 rfl ?_
  refine r_cVi (As := []) (st := [kr E t2]) hX dX7_leastFor_7 kl_X6_size w_ml_X7_20 w_im_X6_size w_se_X6_size ⟨_, _, rfl⟩ (by decide) rfl (Nat.le_of_ble_eq_true rfl) rfl kdz0 h (fun r σ1 h => wX6_size h) ?_
  clear h; intro t3 σ h
  refine r_aI hX dX7_leastFor_10 h ?_
  clear h; intro t4 h
  exact r_iret hX dX7_leastFor_11 h
def X7_priceOfOne_50 (G : kdS) (s0 : Nat) (s1 : Int32) : kdM → Option (Int32 × kdM) :=
  aI G s0 (s1) fun t1 =>
  rt t1
set_option maxRecDepth 100000 in
set_option maxHeartbeats 4000000 in
theorem wX7_priceOfOne_50 {E : kdE} {G : kdS} {A : kdA} {r : Int32} {σ1 : kdM} (hX : kdX E A cX7_priceOfOne 5 RX7 (some .int) 1) {σ : kdM} {s0 : Nat} {s1 : Int32} (h : X7_priceOfOne_50 G s0 s1 σ = some (r, σ1)) : SW E G (.inl (some (.int r), σ1)) A 5 σ 50 [] [.int s1, kr E s0] := by
  unfold X7_priceOfOne_50 at h
  refine r_aI hX dX7_priceOfOne_50 h ?_
  clear h; intro t1 h
  exact r_iret hX dX7_priceOfOne_51 h
def X7_priceOfOne_49 (G : kdS) (s0 : Nat) : kdM → Option (Int32 × kdM) :=
  X7_priceOfOne_50 G s0 (4 : Int32)
set_option maxRecDepth 100000 in
set_option maxHeartbeats 4000000 in
theorem wX7_priceOfOne_49 {E : kdE} {G : kdS} {A : kdA} {r : Int32} {σ1 : kdM} (hX : kdX E A cX7_priceOfOne 5 RX7 (some .int) 1) {σ : kdM} {s0 : Nat} (h : X7_priceOfOne_49 G s0 σ = some (r, σ1)) : SW E G (.inl (some (.int r), σ1)) A 5 σ 49 [] [kr E s0] := by
  unfold X7_priceOfOne_49 at h
  refine r_iconst hX dX7_priceOfOne_49 kk_i_4 ?_
  refine r_sub [] rfl ?_
  exact wX7_priceOfOne_50 hX h
def X7_priceOfOne (G : kdS) (l0 : Nat) (l1 : Int32) (l2 : Int32) : kdM → Option (Int32 × kdM) :=
  cnd (l1 = l2)
    (rt (0 : Int32))
    (nz (4 : Int32) <|
    nz (4 : Int32) <|
    ltI ((kabs ((l1 / (4 : Int32)) - (l2 / (4 : Int32))))) fun t1 =>
    nz (4 : Int32) <|
    nz (4 : Int32) <|
    ltI ((kabs ((krem l1 (4 : Int32)) - (krem l2 (4 : Int32))))) fun t2 =>
    gR G 7 0 l0 fun t3 =>
    cnd ((1 : Int32) < t1)
      (X7_priceOfOne_49 G t3)
      (cnd ((1 : Int32) < t2)
        (X7_priceOfOne_49 G t3)
        (X7_priceOfOne_50 G t3 (0 : Int32))))
set_option maxRecDepth 100000 in
set_option maxHeartbeats 4000000 in
theorem wX7_priceOfOne {E : kdE} {G : kdS} {l0 : Nat} {l1 : Int32} {l2 : Int32} {σ : kdM} {r : Int32} {σ1 : kdM} (h : X7_priceOfOne G l0 l1 l2 σ = some (r, σ1)) : Con E G yX7_priceOfOne cX7_priceOfOne 5 (some .int) 1 [kr E l0, .int l1, .int l2] σ (some (.int r), σ1) := by
  refine kd_head (own := RX7) rfl (by decide +kernel) (Nat.le_of_ble_eq_true rfl) (fun A hX => ?_)
  show SW E G (.inl (some (.int r), σ1)) A 5 σ 0 [(0, kr E l0), (1, .int l1), (2, .int l2)] []
  unfold X7_priceOfOne at h
  refine r_iload_n hX dX7_priceOfOne_0 rfl 1 rfl ?_
  refine r_iload_n hX dX7_priceOfOne_1 rfl 2 rfl ?_
  refine r_icmp_ne (tgt := 7) hX dX7_priceOfOne_2 (by decide) h ?_ ?_
  · clear h; intro h
    refine r_iconst hX dX7_priceOfOne_5 kk_i_0 ?_
    exact r_iret hX dX7_priceOfOne_6 h
  · clear h; intro h
    refine r_iload_n hX dX7_priceOfOne_7 rfl 1 rfl ?_
    refine r_iconst hX dX7_priceOfOne_8 kk_i_4 ?_
    refine r_idiv hX dX7_priceOfOne_9 h ?_
    clear h; intro h
    refine r_iload_n hX dX7_priceOfOne_10 rfl 2 rfl ?_
    refine r_iconst hX dX7_priceOfOne_11 kk_i_4 ?_
    refine r_idiv hX dX7_priceOfOne_12 h ?_
    clear h; intro h
    refine r_isub hX dX7_priceOfOne_13 ?_
    refine r_mabs hX dX7_priceOfOne_14 w_ml_X7_51 w_st_Math_abs w_in_Math w_cd_Math_abs (by decide) (Nat.le_of_ble_eq_true rfl) kdz0 ?_
    refine r_letI h ?_
    clear h; intro t1 h
    refine r_istore_n (L2 := [(3, .int t1), (0, kr E l0), (1, .int l1), (2, .int l2)]) hX dX7_priceOfOne_17 rfl (by decide) rfl ?_
    refine r_iload_n hX dX7_priceOfOne_18 rfl 2 rfl ?_
    refine r_iconst hX dX7_priceOfOne_19 kk_i_4 ?_
    refine r_irem hX dX7_priceOfOne_20 h ?_
    clear h; intro h
    refine r_iload_n hX dX7_priceOfOne_21 rfl 3 rfl ?_
    refine r_iconst hX dX7_priceOfOne_22 kk_i_4 ?_
    refine r_irem hX dX7_priceOfOne_23 h ?_
    clear h; intro h
    refine r_isub hX dX7_priceOfOne_24 ?_
    refine r_mabs hX dX7_priceOfOne_25 w_ml_X7_51 w_st_Math_abs w_in_Math w_cd_Math_abs (by decide) (Nat.le_of_ble_eq_true rfl) kdz0 ?_
    refine r_letI h ?_
    clear h; intro t2 h
    refine r_istore (L2 := [(4, .int t2), (3, .int t1), (0, kr E l0), (1, .int l1), (2, .int l2)]) hX dX7_priceOfOne_28 (by decide) rfl ?_
    refine r_aload_n hX dX7_priceOfOne_30 rfl 2 rfl ?_
    refine r_gR hX dX7_priceOfOne_31 kf_X7_9 rfl h ?_
    clear h; intro t3 h
    refine r_iload_n hX dX7_priceOfOne_34 rfl 1 rfl ?_
    refine r_iconst hX dX7_priceOfOne_35 kk_i_1 ?_
    refine r_icmp_gt (tgt := 49) hX dX7_priceOfOne_36 (by decide) h ?_ ?_
    · clear h; intro h
      refine r_sub [] rfl ?_
      exact wX7_priceOfOne_49 hX h
    · clear h; intro h
      refine r_iload hX dX7_priceOfOne_39 0 rfl ?_
      refine r_iconst hX dX7_priceOfOne_41 kk_i_1 ?_
      refine r_icmp_gt (tgt := 49) hX dX7_priceOfOne_42 (by decide) h ?_ ?_
      · clear h; intro h
        refine r_sub [] rfl ?_
        exact wX7_priceOfOne_49 hX h
      · clear h; intro h
        refine r_iconst hX dX7_priceOfOne_45 kk_i_0 ?_
        refine r_goto (tgt := 50) hX dX7_priceOfOne_46 (by decide) ?_
        refine r_sub [] rfl ?_
        exact wX7_priceOfOne_50 hX h
def X7_leastSum_215 (G : kdS) (l8 : Int32) : kdM → Option (Int32 × kdM) :=
  rt l8
set_option maxRecDepth 100000 in
set_option maxHeartbeats 4000000 in
theorem wX7_leastSum_215 {E : kdE} {G : kdS} {A : kdA} {r : Int32} {σ1 : kdM} (hX : kdX E A cX7_leastSum 9 RX7 (some .int) 2) {σ : kdM} {l8 : Int32} (h : X7_leastSum_215 G l8 σ = some (r, σ1)) : SW E G (.inl (some (.int r), σ1)) A 9 σ 215 [(8, .int l8)] [] := by
  unfold X7_leastSum_215 at h
  refine r_iload hX dX7_leastSum_215 0 rfl ?_
  exact r_iret hX dX7_leastSum_217 h
def X7_leastSum_142 (G : kdS) (l0 : Nat) (l3 : Int32) (l4 : Nat) (l5 : Int32) (l6 : Int32) (l7 : Int32) (l8 : Int32) : kdM → Option (Int32 × kdM) :=
  cnd (l3 ≤ (1 : Int32))
    (X7_leastSum_215 G l8)
    (cnd (l5 ≤ (1 : Int32))
      (X7_leastSum_215 G l8)
      (cnd (l6 = l7)
        (X7_leastSum_215 G l8)
        (kcv G 6 l4 (X6_at G l4 (l5 - (2 : Int32))) fun t1 =>
        cnd (l6 = t1)
          (kcv G 6 l4 (X6_at G l4 (l5 - (1 : Int32))) fun t2 =>
          cnd (l7 = t2)
            (gR G 7 1 l0 fun t3 =>
            aR G 18 t3 ((l3 - (2 : Int32))) fun t4 =>
            aI G t4 ((l5 - (2 : Int32))) fun t5 =>
            gR G 7 0 l0 fun t6 =>
            aI G t6 ((3 : Int32)) fun t7 =>
            ltI ((kmin l8 (t5 + t7))) fun t8 =>
            X7_leastSum_215 G t8)
            (X7_leastSum_215 G l8))
          (X7_leastSum_215 G l8))))
set_option maxRecDepth 100000 in
set_option maxHeartbeats 4000000 in
theorem wX7_leastSum_142 {E : kdE} {G : kdS} {A : kdA} {r : Int32} {σ1 : kdM} (hX : kdX E A cX7_leastSum 9 RX7 (some .int) 2) {σ : kdM} {l0 : Nat} {l3 : Int32} {l4 : Nat} {l5 : Int32} {l6 : Int32} {l7 : Int32} {l8 : Int32} (h : X7_leastSum_142 G l0 l3 l4 l5 l6 l7 l8 σ = some (r, σ1)) : SW E G (.inl (some (.int r), σ1)) A 9 σ 142 [(0, kr E l0), (3, .int l3), (4, kr E l4), (5, .int l5), (6, .int l6), (7, .int l7), (8, .int l8)] [] := by
  unfold X7_leastSum_142 at h
  refine r_iload_n hX dX7_leastSum_142 rfl 1 rfl ?_
  refine r_iconst hX dX7_leastSum_143 kk_i_1 ?_
  refine r_icmp_le (tgt := 215) hX dX7_leastSum_144 (by decide) h ?_ ?_
  · clear h; intro h
    refine r_sub [6] rfl ?_
    exact wX7_leastSum_215 hX h
  · clear h; intro h
    refine r_iload hX dX7_leastSum_147 3 rfl ?_
    refine r_iconst hX dX7_leastSum_149 kk_i_1 ?_
    refine r_icmp_le (tgt := 215) hX dX7_leastSum_150 (by decide) h ?_ ?_
    · clear h; intro h
      refine r_sub [6] rfl ?_
      exact wX7_leastSum_215 hX h
    · clear h; intro h
      refine r_iload hX dX7_leastSum_153 4 rfl ?_
      refine r_iload hX dX7_leastSum_155 5 rfl ?_
      refine r_icmp_eq (tgt := 215) hX dX7_leastSum_157 (by decide) h ?_ ?_
      · clear h; intro h
        refine r_sub [6] rfl ?_
        exact wX7_leastSum_215 hX h
      · clear h; intro h
        refine r_iload hX dX7_leastSum_160 4 rfl ?_
        refine r_aload hX dX7_leastSum_162 2 rfl ?_
        refine r_iload hX dX7_leastSum_164 3 rfl ?_
        refine r_iconst hX dX7_leastSum_166 kk_i_2 ?_
        refine r_isub hX dX7_leastSum_167 ?_
        refine r_cVi (As := [.int (l5 - (2 : Int32))]) (st := [.int l6]) hX dX7_leastSum_168 kl_X6_at w_ml_X7_38 w_im_X6_at w_se_X6_at ⟨_, _, rfl⟩ (by decide) rfl (Nat.le_of_ble_eq_true rfl) rfl kdz0 h (fun r σ1 h => wX6_at h) ?_
        clear h; intro t1 σ h
        refine r_icmp_ne (tgt := 215) hX dX7_leastSum_171 (by decide) h ?_ ?_
        · clear h; intro h
          refine r_iload hX dX7_leastSum_174 5 rfl ?_
          refine r_aload hX dX7_leastSum_176 2 rfl ?_
          refine r_iload hX dX7_leastSum_178 3 rfl ?_
          refine r_iconst hX dX7_leastSum_180 kk_i_1 ?_
          refine r_isub hX dX7_leastSum_181 ?_
          refine r_cVi (As := [.int (l5 - (1 : Int32))]) (st := [.int l7]) hX dX7_leastSum_182 kl_X6_at w_ml_X7_38 w_im_X6_at w_se_X6_at ⟨_, _, rfl⟩ (by decide) rfl (Nat.le_of_ble_eq_true rfl) rfl kdz0 h (fun r σ1 h => wX6_at h) ?_
          clear h; intro t2 σ h
          refine r_icmp_ne (tgt := 215) hX dX7_leastSum_185 (by decide) h ?_ ?_
          · clear h; intro h
            refine r_iload hX dX7_leastSum_188 6 rfl ?_
            refine r_aload_n hX dX7_leastSum_190 rfl 0 rfl ?_
            refine r_gR hX dX7_leastSum_191 kf_X7_17 rfl h ?_
            clear h; intro t3 h
            refine r_iload_n hX dX7_leastSum_194 rfl 1 rfl ?_
            refine r_iconst hX dX7_leastSum_195 kk_i_2 ?_
            refine r_isub hX dX7_leastSum_196 ?_
            refine r_aR18 hX dX7_leastSum_197 h ?_
            clear h; intro t4 h
            refine r_iload hX dX7_leastSum_198 3 rfl ?_
            refine r_iconst hX dX7_leastSum_200 kk_i_2 ?_
            refine r_isub hX dX7_leastSum_201 ?_
            refine r_aI hX dX7_leastSum_202 h ?_
            clear h; intro t5 h
            refine r_aload_n hX dX7_leastSum_203 rfl 0 rfl ?_
            refine r_gR hX dX7_leastSum_204 kf_X7_9 rfl h ?_
            clear h; intro t6 h
            refine r_iconst hX dX7_leastSum_207 kk_i_3 ?_
            refine r_aI hX dX7_leastSum_208 h ?_
            clear h; intro t7 h
            refine r_iadd hX dX7_leastSum_209 ?_
            refine r_mmin hX dX7_leastSum_210 w_ml_X7_42 w_st_Math_min w_in_Math w_cd_Math_min (by decide) (Nat.le_of_ble_eq_true rfl) kdz0 ?_
            refine r_letI h ?_
            clear h; intro t8 h
            refine r_istore (L2 := [(8, .int t8), (0, kr E l0), (3, .int l3), (4, kr E l4), (5, .int l5), (6, .int l6), (7, .int l7)]) hX dX7_leastSum_213 (by decide) rfl ?_
            refine r_sub [0] rfl ?_
            exact wX7_leastSum_215 hX h
          · clear h; intro h
            refine r_sub [6] rfl ?_
            exact wX7_leastSum_215 hX h
        · clear h; intro h
          refine r_sub [6] rfl ?_
          exact wX7_leastSum_215 hX h
def X7_leastSum_72 (G : kdS) (l0 : Nat) (l3 : Int32) (l4 : Nat) (l5 : Int32) (l6 : Int32) (l7 : Int32) (s0 : Int32) (s1 : Nat) (s2 : Int32) : kdM → Option (Int32 × kdM) :=
  aI G s1 (s2) fun t1 =>
  ltI ((s0 + t1)) fun t2 =>
  cnd (l5 ≤ 0)
    (X7_leastSum_142 G l0 l3 l4 l5 l6 l7 t2)
    (gR G 7 1 l0 fun t3 =>
    aR G 18 t3 (l3) fun t4 =>
    aI G t4 ((l5 - (1 : Int32))) fun t5 =>
    gR G 7 0 l0 fun t6 =>
    aI G t6 ((2 : Int32)) fun t7 =>
    ltI ((kmin t2 (t5 + t7))) fun t8 =>
    gR G 7 1 l0 fun t9 =>
    aR G 18 t9 ((l3 - (1 : Int32))) fun t10 =>
    aI G t10 ((l5 - (1 : Int32))) fun t11 =>
    kcv G 6 l4 (X6_at G l4 (l5 - (1 : Int32))) fun t12 =>
    kcv G 7 l0 (X7_priceOfOne G l0 l6 t12) fun t13 =>
    ltI ((kmin t8 (t11 + t13))) fun t14 =>
    X7_leastSum_142 G l0 l3 l4 l5 l6 l7 t14)
set_option maxRecDepth 100000 in
set_option maxHeartbeats 4000000 in
theorem wX7_leastSum_72 {E : kdE} {G : kdS} {A : kdA} {r : Int32} {σ1 : kdM} (hX : kdX E A cX7_leastSum 9 RX7 (some .int) 2) {σ : kdM} {l0 : Nat} {l3 : Int32} {l4 : Nat} {l5 : Int32} {l6 : Int32} {l7 : Int32} {s0 : Int32} {s1 : Nat} {s2 : Int32} (h : X7_leastSum_72 G l0 l3 l4 l5 l6 l7 s0 s1 s2 σ = some (r, σ1)) : SW E G (.inl (some (.int r), σ1)) A 9 σ 72 [(0, kr E l0), (3, .int l3), (4, kr E l4), (5, .int l5), (6, .int l6), (7, .int l7)] [.int s2, kr E s1, .int s0] := by
  unfold X7_leastSum_72 at h
  refine r_aI hX dX7_leastSum_72 h ?_
  clear h; intro t1 h
  refine r_iadd hX dX7_leastSum_73 ?_
  refine r_letI h ?_
  clear h; intro t2 h
  refine r_istore (L2 := [(8, .int t2), (0, kr E l0), (3, .int l3), (4, kr E l4), (5, .int l5), (6, .int l6), (7, .int l7)]) hX dX7_leastSum_74 (by decide) rfl ?_
  refine r_iload hX dX7_leastSum_76 4 rfl ?_
  refine r_if_le (tgt := 142) hX dX7_leastSum_78 (by decide) h ?_ ?_
  · clear h; intro h
    refine r_sub [1, 2, 3, 4, 5, 6, 0] rfl ?_
    exact wX7_leastSum_142 hX h
  · clear h; intro h
    refine r_iload hX dX7_leastSum_81 0 rfl ?_
    refine r_aload_n hX dX7_leastSum_83 rfl 1 rfl ?_
    refine r_gR hX dX7_leastSum_84 kf_X7_17 rfl h ?_
    clear h; intro t3 h
    refine r_iload_n hX dX7_leastSum_87 rfl 2 rfl ?_
    refine r_aR18 hX dX7_leastSum_88 h ?_
    clear h; intro t4 h
    refine r_iload hX dX7_leastSum_89 4 rfl ?_
    refine r_iconst hX dX7_leastSum_91 kk_i_1 ?_
    refine r_isub hX dX7_leastSum_92 ?_
    refine r_aI hX dX7_leastSum_93 h ?_
    clear h; intro t5 h
    refine r_aload_n hX dX7_leastSum_94 rfl 1 rfl ?_
    refine r_gR hX dX7_leastSum_95 kf_X7_9 rfl h ?_
    clear h; intro t6 h
    refine r_iconst hX dX7_leastSum_98 kk_i_2 ?_
    refine r_aI hX dX7_leastSum_99 h ?_
    clear h; intro t7 h
    refine r_iadd hX dX7_leastSum_100 ?_
    refine r_mmin hX dX7_leastSum_101 w_ml_X7_42 w_st_Math_min w_in_Math w_cd_Math_min (by decide) (Nat.le_of_ble_eq_true rfl) kdz0 ?_
    refine r_letI h ?_
    clear h; intro t8 h
    refine r_istore (L2 := [(8, .int t8), (0, kr E l0), (3, .int l3), (4, kr E l4), (5, .int l5), (6, .int l6), (7, .int l7)]) hX dX7_leastSum_104 (by decide) rfl ?_
    refine r_iload hX dX7_leastSum_106 0 rfl ?_
    refine r_aload_n hX dX7_leastSum_108 rfl 1 rfl ?_
    refine r_gR hX dX7_leastSum_109 kf_X7_17 rfl h ?_
    clear h; intro t9 h
    refine r_iload_n hX dX7_leastSum_112 rfl 2 rfl ?_
    refine r_iconst hX dX7_leastSum_113 kk_i_1 ?_
    refine r_isub hX dX7_leastSum_114 ?_
    refine r_aR18 hX dX7_leastSum_115 h ?_
    clear h; intro t10 h
    refine r_iload hX dX7_leastSum_116 4 rfl ?_
    refine r_iconst hX dX7_leastSum_118 kk_i_1 ?_
    refine r_isub hX dX7_leastSum_119 ?_
    refine r_aI hX dX7_leastSum_120 h ?_
    clear h; intro t11 h
    refine r_aload_n hX dX7_leastSum_121 rfl 1 rfl ?_
    refine r_iload hX dX7_leastSum_122 5 rfl ?_
    refine r_aload hX dX7_leastSum_124 3 rfl ?_
    refine r_iload hX dX7_leastSum_126 4 rfl ?_
    refine r_iconst hX dX7_leastSum_128 kk_i_1 ?_
    refine r_isub hX dX7_leastSum_129 ?_
    refine r_cVi (As := [.int (l5 - (1 : Int32))]) (st := [.int l6, kr E l0, .int t11, .int t8]) hX dX7_leastSum_130 kl_X6_at w_ml_X7_38 w_im_X6_at w_se_X6_at ⟨_, _, rfl⟩ (by decide) rfl (Nat.le_of_ble_eq_true rfl) rfl kdz0 h (fun r σ1 h => wX6_at h) ?_
    clear h; intro t12 σ h
    refine r_cVi (As := [.int l6, .int t12]) (st := [.int t11, .int t8]) hX dX7_leastSum_133 kl_X7_priceOfOne w_ml_X7_48 w_im_X7_priceOfOne w_se_X7_priceOfOne ⟨_, _, rfl⟩ (by decide) rfl (Nat.le_of_ble_eq_true rfl) rfl kdz0 h (fun r σ1 h => wX7_priceOfOne h) ?_
    clear h; intro t13 σ h
    refine r_iadd hX dX7_leastSum_136 ?_
    refine r_mmin hX dX7_leastSum_137 w_ml_X7_42 w_st_Math_min w_in_Math w_cd_Math_min (by decide) (Nat.le_of_ble_eq_true rfl) kdz0 ?_
    refine r_letI h ?_
    clear h; intro t14 h
    refine r_istore (L2 := [(8, .int t14), (0, kr E l0), (3, .int l3), (4, kr E l4), (5, .int l5), (6, .int l6), (7, .int l7)]) hX dX7_leastSum_140 (by decide) rfl ?_
    refine r_sub [1, 2, 3, 4, 5, 6, 0] rfl ?_
    exact wX7_leastSum_142 hX h
def X7_leastSum_43 (G : kdS) (l0 : Nat) (l3 : Int32) (l4 : Nat) (l5 : Int32) (l6 : Int32) (s0 : Int32) : kdM → Option (Int32 × kdM) :=
  gR G 7 1 l0 fun t1 =>
  aR G 18 t1 ((l3 - (1 : Int32))) fun t2 =>
  aI G t2 (l5) fun t3 =>
  gR G 7 0 l0 fun t4 =>
  cnd (l6 = s0)
    (X7_leastSum_72 G l0 l3 l4 l5 l6 s0 t3 t4 (1 : Int32))
    (X7_leastSum_72 G l0 l3 l4 l5 l6 s0 t3 t4 (4 : Int32))
set_option maxRecDepth 100000 in
set_option maxHeartbeats 4000000 in
theorem wX7_leastSum_43 {E : kdE} {G : kdS} {A : kdA} {r : Int32} {σ1 : kdM} (hX : kdX E A cX7_leastSum 9 RX7 (some .int) 2) {σ : kdM} {l0 : Nat} {l3 : Int32} {l4 : Nat} {l5 : Int32} {l6 : Int32} {s0 : Int32} (h : X7_leastSum_43 G l0 l3 l4 l5 l6 s0 σ = some (r, σ1)) : SW E G (.inl (some (.int r), σ1)) A 9 σ 43 [(0, kr E l0), (3, .int l3), (4, kr E l4), (5, .int l5), (6, .int l6)] [.int s0] := by
  unfold X7_leastSum_43 at h
  refine r_istore (L2 := [(7, .int s0), (0, kr E l0), (3, .int l3), (4, kr E l4), (5, .int l5), (6, .int l6)]) hX dX7_leastSum_43 (by decide) rfl ?_
  refine r_aload_n hX dX7_leastSum_45 rfl 1 rfl ?_
  refine r_gR hX dX7_leastSum_46 kf_X7_17 rfl h ?_
  clear h; intro t1 h
  refine r_iload_n hX dX7_leastSum_49 rfl 2 rfl ?_
  refine r_iconst hX dX7_leastSum_50 kk_i_1 ?_
  refine r_isub hX dX7_leastSum_51 ?_
  refine r_aR18 hX dX7_leastSum_52 h ?_
  clear h; intro t2 h
  refine r_iload hX dX7_leastSum_53 4 rfl ?_
  refine r_aI hX dX7_leastSum_55 h ?_
  clear h; intro t3 h
  refine r_aload_n hX dX7_leastSum_56 rfl 1 rfl ?_
  refine r_gR hX dX7_leastSum_57 kf_X7_9 rfl h ?_
  clear h; intro t4 h
  refine r_iload hX dX7_leastSum_60 5 rfl ?_
  refine r_iload hX dX7_leastSum_62 0 rfl ?_
  refine r_icmp_ne (tgt := 71) hX dX7_leastSum_64 (by decide) h ?_ ?_
  · clear h; intro h
    refine r_iconst hX dX7_leastSum_67 kk_i_1 ?_
    refine r_goto (tgt := 72) hX dX7_leastSum_68 (by decide) ?_
    refine r_sub [1, 2, 3, 4, 5, 0] rfl ?_
    exact wX7_leastSum_72 hX h
  · clear h; intro h
    refine r_iconst hX dX7_leastSum_71 kk_i_4 ?_
    refine r_sub [1, 2, 3, 4, 5, 0] rfl ?_
    exact wX7_leastSum_72 hX h
def X7_leastSum (G : kdS) (l0 : Nat) (l1 : Nat) (l2 : Int32) (l3 : Int32) (l4 : Nat) (l5 : Int32) : kdM → Option (Int32 × kdM) :=
  cnd (l3 = 0)
    (gR G 7 0 l0 fun t1 =>
    aI G t1 ((2 : Int32)) fun t2 =>
    rt (l5 * t2))
    (kcv G 6 l1 (X6_at G l1 ((l2 + l3) - (1 : Int32))) fun t3 =>
    cnd (l3 ≤ (1 : Int32))
      (X7_leastSum_43 G l0 l3 l4 l5 t3 (-1 : Int32))
      (kcv G 6 l1 (X6_at G l1 ((l2 + l3) - (2 : Int32))) fun t4 =>
      X7_leastSum_43 G l0 l3 l4 l5 t3 t4))
set_option maxRecDepth 100000 in
set_option maxHeartbeats 4000000 in
theorem wX7_leastSum {E : kdE} {G : kdS} {l0 : Nat} {l1 : Nat} {l2 : Int32} {l3 : Int32} {l4 : Nat} {l5 : Int32} {σ : kdM} {r : Int32} {σ1 : kdM} (h : X7_leastSum G l0 l1 l2 l3 l4 l5 σ = some (r, σ1)) : Con E G yX7_leastSum cX7_leastSum 9 (some .int) 2 [kr E l0, kr E l1, .int l2, .int l3, kr E l4, .int l5] σ (some (.int r), σ1) := by
  refine kd_head (own := RX7) rfl (by decide +kernel) (Nat.le_of_ble_eq_true rfl) (fun A hX => ?_)
  show SW E G (.inl (some (.int r), σ1)) A 9 σ 0 [(0, kr E l0), (1, kr E l1), (2, .int l2), (3, .int l3), (4, kr E l4), (5, .int l5)] []
  unfold X7_leastSum at h
  refine r_iload_n hX dX7_leastSum_0 rfl 3 rfl ?_
  refine r_if_ne (tgt := 14) hX dX7_leastSum_1 (by decide) h ?_ ?_
  · clear h; intro h
    refine r_iload hX dX7_leastSum_4 5 rfl ?_
    refine r_aload_n hX dX7_leastSum_6 rfl 0 rfl ?_
    refine r_gR hX dX7_leastSum_7 kf_X7_9 rfl h ?_
    clear h; intro t1 h
    refine r_iconst hX dX7_leastSum_10 kk_i_2 ?_
    refine r_aI hX dX7_leastSum_11 h ?_
    clear h; intro t2 h
    refine r_imul hX dX7_leastSum_12 ?_
    exact r_iret hX dX7_leastSum_13 h
  · clear h; intro h
    refine r_aload_n hX dX7_leastSum_14 rfl 1 rfl ?_
    refine r_iload_n hX dX7_leastSum_15 rfl 2 rfl ?_
    refine r_iload_n hX dX7_leastSum_16 rfl 3 rfl ?_
    refine r_iadd hX dX7_leastSum_17 ?_
    refine r_iconst hX dX7_leastSum_18 kk_i_1 ?_
    refine r_isub hX dX7_leastSum_19 ?_
    refine r_cVi (As := [.int ((l2 + l3) - (1 : Int32))]) (st := []) hX dX7_leastSum_20 kl_X6_at w_ml_X7_38 w_im_X6_at w_se_X6_at ⟨_, _, rfl⟩ (by decide) rfl (Nat.le_of_ble_eq_true rfl) rfl kdz0 h (fun r σ1 h => wX6_at h) ?_
    clear h; intro t3 σ h
    refine r_istore (L2 := [(6, .int t3), (0, kr E l0), (1, kr E l1), (2, .int l2), (3, .int l3), (4, kr E l4), (5, .int l5)]) hX dX7_leastSum_23 (by decide) rfl ?_
    refine r_iload_n hX dX7_leastSum_25 rfl 4 rfl ?_
    refine r_iconst hX dX7_leastSum_26 kk_i_1 ?_
    refine r_icmp_le (tgt := 42) hX dX7_leastSum_27 (by decide) h ?_ ?_
    · clear h; intro h
      refine r_iconst hX dX7_leastSum_42 kk_i_m1 ?_
      refine r_sub [1, 4, 5, 6, 0] rfl ?_
      exact wX7_leastSum_43 hX h
    · clear h; intro h
      refine r_aload_n hX dX7_leastSum_30 rfl 2 rfl ?_
      refine r_iload_n hX dX7_leastSum_31 rfl 3 rfl ?_
      refine r_iload_n hX dX7_leastSum_32 rfl 4 rfl ?_
      refine r_iadd hX dX7_leastSum_33 ?_
      refine r_iconst hX dX7_leastSum_34 kk_i_2 ?_
      refine r_isub hX dX7_leastSum_35 ?_
      refine r_cVi (As := [.int ((l2 + l3) - (2 : Int32))]) (st := []) hX dX7_leastSum_36 kl_X6_at w_ml_X7_38 w_im_X6_at w_se_X6_at ⟨_, _, rfl⟩ (by decide) rfl (Nat.le_of_ble_eq_true rfl) rfl kdz0 h (fun r σ1 h => wX6_at h) ?_
      clear h; intro t4 σ h
      refine r_goto (tgt := 43) hX dX7_leastSum_39 (by decide) ?_
      refine r_sub [1, 4, 5, 6, 0] rfl ?_
      exact wX7_leastSum_43 hX h
def X7_workOut_12B (G : kdS) (k3 : Nat → Nat → Int32 → Int32 → Nat → Int32 → kdM → Option (Unit × kdM)) (k12 : Nat → Nat → Int32 → Int32 → Nat → Int32 → Int32 → kdM → Option (Unit × kdM)) (l0 : Nat) (l1 : Nat) (l2 : Int32) (l3 : Int32) (l4 : Nat) (l5 : Int32) (l6 : Int32) : kdM → Option (Unit × kdM) :=
  kcv G 6 l4 (X6_size G l4) fun t1 =>
  cnd (t1 < l6)
    (ltI (l5 + Int32.ofInt 1) fun t2 =>
    k3 l0 l1 l2 l3 l4 t2)
    (gR G 7 1 l0 fun t3 =>
    aR G 18 t3 (l5) fun t4 =>
    kcv G 7 l0 (X7_leastSum G l0 l1 l2 l5 l4 l6) fun t5 =>
    tI G t4 (l6) (t5) <|
    ltI (l6 + Int32.ofInt 1) fun t6 =>
    k12 l0 l1 l2 l3 l4 l5 t6)
set_option maxRecDepth 100000 in
set_option maxHeartbeats 4000000 in
theorem wX7_workOut_12B {E : kdE} {G : kdS} {A : kdA} {r : Unit} {σ1 : kdM} (hX : kdX E A cX7_workOut 7 RX7 none 3) (k3 : Nat → Nat → Int32 → Int32 → Nat → Int32 → kdM → Option (Unit × kdM)) (k12 : Nat → Nat → Int32 → Int32 → Nat → Int32 → Int32 → kdM → Option (Unit × kdM)) (hk3 : ∀ (l0 : Nat) (l1 : Nat) (l2 : Int32) (l3 : Int32) (l4 : Nat) (l5 : Int32) (σ : kdM), k3 l0 l1 l2 l3 l4 l5 σ = some (r, σ1) → SW E G (.inl (none, σ1)) A 7 σ 3 [(0, kr E l0), (1, kr E l1), (2, .int l2), (3, .int l3), (4, kr E l4), (5, .int l5)] []) (hk12 : ∀ (l0 : Nat) (l1 : Nat) (l2 : Int32) (l3 : Int32) (l4 : Nat) (l5 : Int32) (l6 : Int32) (σ : kdM), k12 l0 l1 l2 l3 l4 l5 l6 σ = some (r, σ1) → SW E G (.inl (none, σ1)) A 7 σ 12 [(0, kr E l0), (1, kr E l1), (2, .int l2), (3, .int l3), (4, kr E l4), (5, .int l5), (6, .int l6)] []) {σ : kdM} {l0 : Nat} {l1 : Nat} {l2 : Int32} {l3 : Int32} {l4 : Nat} {l5 : Int32} {l6 : Int32} (h : X7_workOut_12B G k3 k12 l0 l1 l2 l3 l4 l5 l6 σ = some (r, σ1)) : SW E G (.inl (none, σ1)) A 7 σ 12 [(0, kr E l0), (1, kr E l1), (2, .int l2), (3, .int l3), (4, kr E l4), (5, .int l5), (6, .int l6)] [] := by
  unfold X7_workOut_12B at h
  refine r_iload hX dX7_workOut_12 6 rfl ?_
  refine r_aload hX dX7_workOut_14 4 rfl ?_
  refine r_cVi (As := []) (st := [.int l6]) hX dX7_workOut_16 kl_X6_size w_ml_X7_20 w_im_X6_size w_se_X6_size ⟨_, _, rfl⟩ (by decide) rfl (Nat.le_of_ble_eq_true rfl) rfl kdz0 h (fun r σ1 h => wX6_size h) ?_
  clear h; intro t1 σ h
  refine r_icmp_gt (tgt := 50) hX dX7_workOut_19 (by decide) h ?_ ?_
  · clear h; intro h
    refine r_iincL (L2 := fun t2 => [(5, .int t2), (0, kr E l0), (1, kr E l1), (2, .int l2), (3, .int l3), (4, kr E l4), (6, .int l6)]) hX dX7_workOut_50 h 5 rfl (by decide) (fun _ => rfl) ?_
    clear h; intro t2 h
    refine r_goto (tgt := 3) hX dX7_workOut_53 (by decide) ?_
    refine r_sub [1, 2, 3, 4, 5, 0] rfl ?_
    exact hk3 _ _ _ _ _ _ _ h
  · clear h; intro h
    refine r_aload_n hX dX7_workOut_22 rfl 0 rfl ?_
    refine r_gR hX dX7_workOut_23 kf_X7_17 rfl h ?_
    clear h; intro t3 h
    refine r_iload hX dX7_workOut_26 5 rfl ?_
    refine r_aR18 hX dX7_workOut_28 h ?_
    clear h; intro t4 h
    refine r_iload hX dX7_workOut_29 6 rfl ?_
    refine r_aload_n hX dX7_workOut_31 rfl 0 rfl ?_
    refine r_aload_n hX dX7_workOut_32 rfl 1 rfl ?_
    refine r_iload_n hX dX7_workOut_33 rfl 2 rfl ?_
    refine r_iload hX dX7_workOut_34 5 rfl ?_
    refine r_aload hX dX7_workOut_36 4 rfl ?_
    refine r_iload hX dX7_workOut_38 6 rfl ?_
    refine r_cVi (As := [kr E l1, .int l2, .int l5, kr E l4, .int l6]) (st := [.int l6, kr E t4]) hX dX7_workOut_40 kl_X7_leastSum w_ml_X7_34 w_im_X7_leastSum w_se_X7_leastSum ⟨_, _, rfl⟩ (by decide) rfl (Nat.le_of_ble_eq_true rfl) rfl kdz0 h (fun r σ1 h => wX7_leastSum h) ?_
    clear h; intro t5 σ h
    refine r_tI hX dX7_workOut_43 h ?_
    clear h; intro σ h
    refine r_iincL (L2 := fun t6 => [(6, .int t6), (0, kr E l0), (1, kr E l1), (2, .int l2), (3, .int l3), (4, kr E l4), (5, .int l5)]) hX dX7_workOut_44 h 6 rfl (by decide) (fun _ => rfl) ?_
    clear h; intro t6 h
    refine r_goto (tgt := 12) hX dX7_workOut_47 (by decide) ?_
    refine r_sub [1, 2, 3, 4, 5, 6, 0] rfl ?_
    exact hk12 _ _ _ _ _ _ _ _ h
def X7_workOut_12 (G : kdS) (k3 : Nat → Nat → Int32 → Int32 → Nat → Int32 → kdM → Option (Unit × kdM)) : Nat → Nat → Int32 → Int32 → Nat → Int32 → Int32 → kdM → Option (Unit × kdM) := lp (fun _ _ _ _ _ _ _ _ => none) (X7_workOut_12B G k3) NN
theorem wX7_workOut_12 {E : kdE} {G : kdS} {A : kdA} {r : Unit} {σ1 : kdM} (hX : kdX E A cX7_workOut 7 RX7 none 3) (k3 : Nat → Nat → Int32 → Int32 → Nat → Int32 → kdM → Option (Unit × kdM)) (hk3 : ∀ (l0 : Nat) (l1 : Nat) (l2 : Int32) (l3 : Int32) (l4 : Nat) (l5 : Int32) (σ : kdM), k3 l0 l1 l2 l3 l4 l5 σ = some (r, σ1) → SW E G (.inl (none, σ1)) A 7 σ 3 [(0, kr E l0), (1, kr E l1), (2, .int l2), (3, .int l3), (4, kr E l4), (5, .int l5)] []) : ∀ (l0 : Nat) (l1 : Nat) (l2 : Int32) (l3 : Int32) (l4 : Nat) (l5 : Int32) (l6 : Int32) (σ : kdM), X7_workOut_12 G k3 l0 l1 l2 l3 l4 l5 l6 σ = some (r, σ1) → SW E G (.inl (none, σ1)) A 7 σ 12 [(0, kr E l0), (1, kr E l1), (2, .int l2), (3, .int l3), (4, kr E l4), (5, .int l5), (6, .int l6)] [] :=
  lp_ind (Q := fun f => ∀ (l0 : Nat) (l1 : Nat) (l2 : Int32) (l3 : Int32) (l4 : Nat) (l5 : Int32) (l6 : Int32) (σ : kdM), f l0 l1 l2 l3 l4 l5 l6 σ = some (r, σ1) → SW E G (.inl (none, σ1)) A 7 σ 12 [(0, kr E l0), (1, kr E l1), (2, .int l2), (3, .int l3), (4, kr E l4), (5, .int l5), (6, .int l6)] []) (by intros; contradiction) (fun k hk l0 l1 l2 l3 l4 l5 l6 σ h => wX7_workOut_12B hX k3 k hk3 hk h) NN
def X7_workOut_3B (G : kdS) (k3 : Nat → Nat → Int32 → Int32 → Nat → Int32 → kdM → Option (Unit × kdM)) (l0 : Nat) (l1 : Nat) (l2 : Int32) (l3 : Int32) (l4 : Nat) (l5 : Int32) : kdM → Option (Unit × kdM) :=
  cnd (l3 < l5)
    (rt ())
    (X7_workOut_12 G k3 l0 l1 l2 l3 l4 l5 (0 : Int32))
set_option maxRecDepth 100000 in
set_option maxHeartbeats 4000000 in
theorem wX7_workOut_3B {E : kdE} {G : kdS} {A : kdA} {r : Unit} {σ1 : kdM} (hX : kdX E A cX7_workOut 7 RX7 none 3) (k3 : Nat → Nat → Int32 → Int32 → Nat → Int32 → kdM → Option (Unit × kdM)) (hk3 : ∀ (l0 : Nat) (l1 : Nat) (l2 : Int32) (l3 : Int32) (l4 : Nat) (l5 : Int32) (σ : kdM), k3 l0 l1 l2 l3 l4 l5 σ = some (r, σ1) → SW E G (.inl (none, σ1)) A 7 σ 3 [(0, kr E l0), (1, kr E l1), (2, .int l2), (3, .int l3), (4, kr E l4), (5, .int l5)] []) {σ : kdM} {l0 : Nat} {l1 : Nat} {l2 : Int32} {l3 : Int32} {l4 : Nat} {l5 : Int32} (h : X7_workOut_3B G k3 l0 l1 l2 l3 l4 l5 σ = some (r, σ1)) : SW E G (.inl (none, σ1)) A 7 σ 3 [(0, kr E l0), (1, kr E l1), (2, .int l2), (3, .int l3), (4, kr E l4), (5, .int l5)] [] := by
  unfold X7_workOut_3B at h
  refine r_iload hX dX7_workOut_3 5 rfl ?_
  refine r_iload_n hX dX7_workOut_5 rfl 3 rfl ?_
  refine r_icmp_gt (tgt := 56) hX dX7_workOut_6 (by decide) h ?_ ?_
  · clear h; intro h
    exact r_vret hX dX7_workOut_56 h
  · clear h; intro h
    refine r_iconst hX dX7_workOut_9 kk_i_0 ?_
    refine r_istore (L2 := [(6, .int (0 : Int32)), (0, kr E l0), (1, kr E l1), (2, .int l2), (3, .int l3), (4, kr E l4), (5, .int l5)]) hX dX7_workOut_10 (by decide) rfl ?_
    refine r_sub [1, 2, 3, 4, 5, 6, 0] rfl ?_
    exact wX7_workOut_12 hX k3 hk3 _ _ _ _ _ _ _ _ h
def X7_workOut_3 (G : kdS) : Nat → Nat → Int32 → Int32 → Nat → Int32 → kdM → Option (Unit × kdM) := lp (fun _ _ _ _ _ _ _ => none) (X7_workOut_3B G) NN
theorem wX7_workOut_3 {E : kdE} {G : kdS} {A : kdA} {r : Unit} {σ1 : kdM} (hX : kdX E A cX7_workOut 7 RX7 none 3) : ∀ (l0 : Nat) (l1 : Nat) (l2 : Int32) (l3 : Int32) (l4 : Nat) (l5 : Int32) (σ : kdM), X7_workOut_3 G l0 l1 l2 l3 l4 l5 σ = some (r, σ1) → SW E G (.inl (none, σ1)) A 7 σ 3 [(0, kr E l0), (1, kr E l1), (2, .int l2), (3, .int l3), (4, kr E l4), (5, .int l5)] [] :=
  lp_ind (Q := fun f => ∀ (l0 : Nat) (l1 : Nat) (l2 : Int32) (l3 : Int32) (l4 : Nat) (l5 : Int32) (σ : kdM), f l0 l1 l2 l3 l4 l5 σ = some (r, σ1) → SW E G (.inl (none, σ1)) A 7 σ 3 [(0, kr E l0), (1, kr E l1), (2, .int l2), (3, .int l3), (4, kr E l4), (5, .int l5)] []) (by intros; contradiction) (fun k hk l0 l1 l2 l3 l4 l5 σ h => wX7_workOut_3B hX k hk h) NN
def X7_workOut (G : kdS) (l0 : Nat) (l1 : Nat) (l2 : Int32) (l3 : Int32) (l4 : Nat) : kdM → Option (Unit × kdM) :=
  X7_workOut_3 G l0 l1 l2 l3 l4 (0 : Int32)
set_option maxRecDepth 100000 in
set_option maxHeartbeats 4000000 in
theorem wX7_workOut {E : kdE} {G : kdS} {l0 : Nat} {l1 : Nat} {l2 : Int32} {l3 : Int32} {l4 : Nat} {σ : kdM} {r : Unit} {σ1 : kdM} (h : X7_workOut G l0 l1 l2 l3 l4 σ = some (r, σ1)) : Con E G yX7_workOut cX7_workOut 7 none 3 [kr E l0, kr E l1, .int l2, .int l3, kr E l4] σ (none, σ1) := by
  refine kd_head (own := RX7) rfl (by decide +kernel) (Nat.le_of_ble_eq_true rfl) (fun A hX => ?_)
  show SW E G (.inl (none, σ1)) A 7 σ 0 [(0, kr E l0), (1, kr E l1), (2, .int l2), (3, .int l3), (4, kr E l4)] []
  unfold X7_workOut at h
  refine r_iconst hX dX7_workOut_0 kk_i_0 ?_
  refine r_istore (L2 := [(5, .int (0 : Int32)), (0, kr E l0), (1, kr E l1), (2, .int l2), (3, .int l3), (4, kr E l4)]) hX dX7_workOut_1 (by decide) rfl ?_
  refine r_sub [1, 2, 3, 4, 5, 0] rfl ?_
  exact wX7_workOut_3 hX _ _ _ _ _ _ _ h
def X7_priceOf (G : kdS) (l0 : Nat) (l1 : Nat) (l2 : Nat) : kdM → Option (Int32 × kdM) :=
  kcv G 6 l1 (X6_size G l1) fun t1 =>
  kcv G 7 l0 (X7_workOut G l0 l1 (0 : Int32) t1 l2) fun _ =>
  kcv G 6 l1 (X6_size G l1) fun t2 =>
  kcv G 7 l0 (X7_leastFor G l0 t2 l2) fun t3 =>
  rt t3
set_option maxRecDepth 100000 in
set_option maxHeartbeats 4000000 in
theorem wX7_priceOf {E : kdE} {G : kdS} {l0 : Nat} {l1 : Nat} {l2 : Nat} {σ : kdM} {r : Int32} {σ1 : kdM} (h : X7_priceOf G l0 l1 l2 σ = some (r, σ1)) : Con E G yX7_priceOf cX7_priceOf 3 (some .int) 4 [kr E l0, kr E l1, kr E l2] σ (some (.int r), σ1) := by
  refine kd_head (own := RX7) rfl (by decide +kernel) (Nat.le_of_ble_eq_true rfl) (fun A hX => ?_)
  show SW E G (.inl (some (.int r), σ1)) A 3 σ 0 [(0, kr E l0), (1, kr E l1), (2, kr E l2)] []
  unfold X7_priceOf at h
  refine r_aload_n hX dX7_priceOf_0 rfl 0 rfl ?_
  refine r_aload_n hX dX7_priceOf_1 rfl 1 rfl ?_
  refine r_iconst hX dX7_priceOf_2 kk_i_0 ?_
  refine r_aload_n hX dX7_priceOf_3 rfl 1 rfl ?_
  refine r_cVi (As := []) (st := [.int (0 : Int32), kr E l1, kr E l0]) hX dX7_priceOf_4 kl_X6_size w_ml_X7_20 w_im_X6_size w_se_X6_size ⟨_, _, rfl⟩ (by decide) rfl (Nat.le_of_ble_eq_true rfl) rfl kdz0 h (fun r σ1 h => wX6_size h) ?_
  clear h; intro t1 σ h
  refine r_aload_n hX dX7_priceOf_7 rfl 2 rfl ?_
  refine r_cVv (As := [kr E l1, .int (0 : Int32), .int t1, kr E l2]) (st := []) hX dX7_priceOf_8 kl_X7_workOut w_ml_X7_26 w_im_X7_workOut w_se_X7_workOut ⟨_, _, rfl⟩ (by decide) rfl (Nat.le_of_ble_eq_true rfl) rfl kdz0 h (fun r σ1 h => wX7_workOut h) ?_
  clear h; intro u σ h
  refine r_aload_n hX dX7_priceOf_11 rfl 0 rfl ?_
  refine r_aload_n hX dX7_priceOf_12 rfl 1 rfl ?_
  refine r_cVi (As := []) (st := [kr E l0]) hX dX7_priceOf_13 kl_X6_size w_ml_X7_20 w_im_X6_size w_se_X6_size ⟨_, _, rfl⟩ (by decide) rfl (Nat.le_of_ble_eq_true rfl) rfl kdz0 h (fun r σ1 h => wX6_size h) ?_
  clear h; intro t2 σ h
  refine r_aload_n hX dX7_priceOf_16 rfl 2 rfl ?_
  refine r_cVi (As := [.int t2, kr E l2]) (st := []) hX dX7_priceOf_17 kl_X7_leastFor w_ml_X7_30 w_im_X7_leastFor w_se_X7_leastFor ⟨_, _, rfl⟩ (by decide) rfl (Nat.le_of_ble_eq_true rfl) rfl kdz0 h (fun r σ1 h => wX7_leastFor h) ?_
  clear h; intro t3 σ h
  exact r_iret hX dX7_priceOf_20 h
def X1_clear (G : kdS) (l0 : Nat) : kdM → Option (Unit × kdM) :=
  gR G 1 0 l0 fun t1 =>
  kcv G 6 t1 (X6_clear G t1) fun t2 =>
  gR G 1 1 l0 fun t3 =>
  kcv G 6 t3 (X6_clear G t3) fun t4 =>
  gR G 1 2 l0 fun t5 =>
  kcv G 6 t5 (X6_clear G t5) fun t6 =>
  rt ()
set_option maxRecDepth 100000 in
set_option maxHeartbeats 4000000 in
theorem wX1_clear {E : kdE} {G : kdS} {l0 : Nat} {σ : kdM} {r : Unit} {σ1 : kdM} (h : X1_clear G l0 σ = some (r, σ1)) : Con E G yX1_clear cX1_clear 1 none 1 [kr E l0] σ (none, σ1) := by
  refine kd_head (own := RX1) rfl (by decide +kernel) (Nat.le_of_ble_eq_true rfl) (fun A hX => ?_)
  show SW E G (.inl (none, σ1)) A 1 σ 0 [(0, kr E l0)] []
  unfold X1_clear at h
  refine r_aload_n hX dX1_clear_0 rfl 0 rfl ?_
  refine r_gR hX dX1_clear_1 kf_X1_14 rfl h ?_
  clear h; intro t1 h
  refine r_cVi (As := []) (st := []) hX dX1_clear_4 kl_X6_clear w_ml_X1_26 w_im_X6_clear w_se_X6_clear ⟨_, _, rfl⟩ (by decide) rfl (Nat.le_of_ble_eq_true rfl) rfl kdz0 h (fun r σ1 h => wX6_clear h) ?_
  clear h; intro t2 σ h
  refine r_pop hX dX1_clear_7 rfl ?_
  refine r_aload_n hX dX1_clear_8 rfl 0 rfl ?_
  refine r_gR hX dX1_clear_9 kf_X1_20 rfl h ?_
  clear h; intro t3 h
  refine r_cVi (As := []) (st := []) hX dX1_clear_12 kl_X6_clear w_ml_X1_26 w_im_X6_clear w_se_X6_clear ⟨_, _, rfl⟩ (by decide) rfl (Nat.le_of_ble_eq_true rfl) rfl kdz0 h (fun r σ1 h => wX6_clear h) ?_
  clear h; intro t4 σ h
  refine r_pop hX dX1_clear_15 rfl ?_
  refine r_aload_n hX dX1_clear_16 rfl 0 rfl ?_
  refine r_gR hX dX1_clear_17 kf_X1_23 rfl h ?_
  clear h; intro t5 h
  refine r_cVi (As := []) (st := []) hX dX1_clear_20 kl_X6_clear w_ml_X1_26 w_im_X6_clear w_se_X6_clear ⟨_, _, rfl⟩ (by decide) rfl (Nat.le_of_ble_eq_true rfl) rfl kdz0 h (fun r σ1 h => wX6_clear h) ?_
  clear h; intro t6 σ h
  refine r_pop hX dX1_clear_23 rfl ?_
  exact r_vret hX dX1_clear_24 h
def X1_goesAhead_41 (G : kdS) (s0 : Int32) : kdM → Option (Int32 × kdM) :=
  rt (vp_nar .boolean s0)
set_option maxRecDepth 100000 in
set_option maxHeartbeats 4000000 in
theorem wX1_goesAhead_41 {E : kdE} {G : kdS} {A : kdA} {r : Int32} {σ1 : kdM} (hX : kdX E A cX1_goesAhead 4 RX1 (some .boolean) 1) {σ : kdM} {s0 : Int32} (h : X1_goesAhead_41 G s0 σ = some (r, σ1)) : SW E G (.inl (some (.int r), σ1)) A 4 σ 41 [] [.int s0] := by
  unfold X1_goesAhead_41 at h
  exact r_zret hX dX1_goesAhead_41 h
def X1_goesAhead_36 (G : kdS) : kdM → Option (Int32 × kdM) :=
  X1_goesAhead_41 G (1 : Int32)
set_option maxRecDepth 100000 in
set_option maxHeartbeats 4000000 in
theorem wX1_goesAhead_36 {E : kdE} {G : kdS} {A : kdA} {r : Int32} {σ1 : kdM} (hX : kdX E A cX1_goesAhead 4 RX1 (some .boolean) 1) {σ : kdM} (h : X1_goesAhead_36 G  σ = some (r, σ1)) : SW E G (.inl (some (.int r), σ1)) A 4 σ 36 [] [] := by
  unfold X1_goesAhead_36 at h
  refine r_iconst hX dX1_goesAhead_36 kk_i_1 ?_
  refine r_goto (tgt := 41) hX dX1_goesAhead_37 (by decide) ?_
  refine r_sub [] rfl ?_
  exact wX1_goesAhead_41 hX h
def X1_goesAhead_40 (G : kdS) : kdM → Option (Int32 × kdM) :=
  X1_goesAhead_41 G (0 : Int32)
set_option maxRecDepth 100000 in
set_option maxHeartbeats 4000000 in
theorem wX1_goesAhead_40 {E : kdE} {G : kdS} {A : kdA} {r : Int32} {σ1 : kdM} (hX : kdX E A cX1_goesAhead 4 RX1 (some .boolean) 1) {σ : kdM} (h : X1_goesAhead_40 G  σ = some (r, σ1)) : SW E G (.inl (some (.int r), σ1)) A 4 σ 40 [] [] := by
  unfold X1_goesAhead_40 at h
  refine r_iconst hX dX1_goesAhead_40 kk_i_0 ?_
  refine r_sub [] rfl ?_
  exact wX1_goesAhead_41 hX h
def X1_goesAhead (G : kdS) (l0 : Nat) (l1 : Int32) (l2 : Int32) (l3 : Int32) : kdM → Option (Int32 × kdM) :=
  gR G 1 1 l0 fun t1 =>
  kcv G 6 t1 (X6_at G t1 l3) fun t2 =>
  cnd (l1 < t2)
    (X1_goesAhead_36 G )
    (gR G 1 1 l0 fun t3 =>
    kcv G 6 t3 (X6_at G t3 l3) fun t4 =>
    cnd (l1 = t4)
      (gR G 1 2 l0 fun t5 =>
      kcv G 6 t5 (X6_at G t5 l3) fun t6 =>
      cnd (l2 ≤ t6)
        (X1_goesAhead_40 G )
        (X1_goesAhead_36 G ))
      (X1_goesAhead_40 G ))
set_option maxRecDepth 100000 in
set_option maxHeartbeats 4000000 in
theorem wX1_goesAhead {E : kdE} {G : kdS} {l0 : Nat} {l1 : Int32} {l2 : Int32} {l3 : Int32} {σ : kdM} {r : Int32} {σ1 : kdM} (h : X1_goesAhead G l0 l1 l2 l3 σ = some (r, σ1)) : Con E G yX1_goesAhead cX1_goesAhead 4 (some .boolean) 1 [kr E l0, .int l1, .int l2, .int l3] σ (some (.int r), σ1) := by
  refine kd_head (own := RX1) rfl (by decide +kernel) (Nat.le_of_ble_eq_true rfl) (fun A hX => ?_)
  show SW E G (.inl (some (.int r), σ1)) A 4 σ 0 [(0, kr E l0), (1, .int l1), (2, .int l2), (3, .int l3)] []
  unfold X1_goesAhead at h
  refine r_iload_n hX dX1_goesAhead_0 rfl 1 rfl ?_
  refine r_aload_n hX dX1_goesAhead_1 rfl 0 rfl ?_
  refine r_gR hX dX1_goesAhead_2 kf_X1_20 rfl h ?_
  clear h; intro t1 h
  refine r_iload_n hX dX1_goesAhead_5 rfl 3 rfl ?_
  refine r_cVi (As := [.int l3]) (st := [.int l1]) hX dX1_goesAhead_6 kl_X6_at w_ml_X1_41 w_im_X6_at w_se_X6_at ⟨_, _, rfl⟩ (by decide) rfl (Nat.le_of_ble_eq_true rfl) rfl kdz0 h (fun r σ1 h => wX6_at h) ?_
  clear h; intro t2 σ h
  refine r_icmp_lt (tgt := 36) hX dX1_goesAhead_9 (by decide) h ?_ ?_
  · clear h; intro h
    refine r_sub [] rfl ?_
    exact wX1_goesAhead_36 hX h
  · clear h; intro h
    refine r_iload_n hX dX1_goesAhead_12 rfl 1 rfl ?_
    refine r_aload_n hX dX1_goesAhead_13 rfl 0 rfl ?_
    refine r_gR hX dX1_goesAhead_14 kf_X1_20 rfl h ?_
    clear h; intro t3 h
    refine r_iload_n hX dX1_goesAhead_17 rfl 3 rfl ?_
    refine r_cVi (As := [.int l3]) (st := [.int l1]) hX dX1_goesAhead_18 kl_X6_at w_ml_X1_41 w_im_X6_at w_se_X6_at ⟨_, _, rfl⟩ (by decide) rfl (Nat.le_of_ble_eq_true rfl) rfl kdz0 h (fun r σ1 h => wX6_at h) ?_
    clear h; intro t4 σ h
    refine r_icmp_ne (tgt := 40) hX dX1_goesAhead_21 (by decide) h ?_ ?_
    · clear h; intro h
      refine r_iload_n hX dX1_goesAhead_24 rfl 2 rfl ?_
      refine r_aload_n hX dX1_goesAhead_25 rfl 0 rfl ?_
      refine r_gR hX dX1_goesAhead_26 kf_X1_23 rfl h ?_
      clear h; intro t5 h
      refine r_iload_n hX dX1_goesAhead_29 rfl 3 rfl ?_
      refine r_cVi (As := [.int l3]) (st := [.int l2]) hX dX1_goesAhead_30 kl_X6_at w_ml_X1_41 w_im_X6_at w_se_X6_at ⟨_, _, rfl⟩ (by decide) rfl (Nat.le_of_ble_eq_true rfl) rfl kdz0 h (fun r σ1 h => wX6_at h) ?_
      clear h; intro t6 σ h
      refine r_icmp_le (tgt := 40) hX dX1_goesAhead_33 (by decide) h ?_ ?_
      · clear h; intro h
        refine r_sub [] rfl ?_
        exact wX1_goesAhead_40 hX h
      · clear h; intro h
        refine r_sub [] rfl ?_
        exact wX1_goesAhead_36 hX h
    · clear h; intro h
      refine r_sub [] rfl ?_
      exact wX1_goesAhead_40 hX h
def X1_insert_33 (G : kdS) (l0 : Nat) (l1 : Int32) (l2 : Int32) (l3 : Int32) (l4 : Int32) : kdM → Option (Unit × kdM) :=
  gR G 1 0 l0 fun t1 =>
  kcv G 6 t1 (X6_insert G t1 l4 l1) fun _ =>
  gR G 1 1 l0 fun t2 =>
  kcv G 6 t2 (X6_insert G t2 l4 l2) fun _ =>
  gR G 1 2 l0 fun t3 =>
  kcv G 6 t3 (X6_insert G t3 l4 l3) fun _ =>
  rt ()
set_option maxRecDepth 100000 in
set_option maxHeartbeats 4000000 in
theorem wX1_insert_33 {E : kdE} {G : kdS} {A : kdA} {r : Unit} {σ1 : kdM} (hX : kdX E A cX1_insert 5 RX1 none 2) {σ : kdM} {l0 : Nat} {l1 : Int32} {l2 : Int32} {l3 : Int32} {l4 : Int32} (h : X1_insert_33 G l0 l1 l2 l3 l4 σ = some (r, σ1)) : SW E G (.inl (none, σ1)) A 5 σ 33 [(0, kr E l0), (1, .int l1), (2, .int l2), (3, .int l3), (4, .int l4)] [] := by
  unfold X1_insert_33 at h
  refine r_aload_n hX dX1_insert_33 rfl 0 rfl ?_
  refine r_gR hX dX1_insert_34 kf_X1_14 rfl h ?_
  clear h; intro t1 h
  refine r_iload hX dX1_insert_37 4 rfl ?_
  refine r_iload_n hX dX1_insert_39 rfl 1 rfl ?_
  refine r_cVv (As := [.int l4, .int l1]) (st := []) hX dX1_insert_40 kl_X6_insert w_ml_X1_37 w_im_X6_insert w_se_X6_insert ⟨_, _, rfl⟩ (by decide) rfl (Nat.le_of_ble_eq_true rfl) rfl kdz0 h (fun r σ1 h => wX6_insert h) ?_
  clear h; intro u σ h
  refine r_aload_n hX dX1_insert_43 rfl 0 rfl ?_
  refine r_gR hX dX1_insert_44 kf_X1_20 rfl h ?_
  clear h; intro t2 h
  refine r_iload hX dX1_insert_47 4 rfl ?_
  refine r_iload_n hX dX1_insert_49 rfl 2 rfl ?_
  refine r_cVv (As := [.int l4, .int l2]) (st := []) hX dX1_insert_50 kl_X6_insert w_ml_X1_37 w_im_X6_insert w_se_X6_insert ⟨_, _, rfl⟩ (by decide) rfl (Nat.le_of_ble_eq_true rfl) rfl kdz0 h (fun r σ1 h => wX6_insert h) ?_
  clear h; intro u σ h
  refine r_aload_n hX dX1_insert_53 rfl 0 rfl ?_
  refine r_gR hX dX1_insert_54 kf_X1_23 rfl h ?_
  clear h; intro t3 h
  refine r_iload hX dX1_insert_57 4 rfl ?_
  refine r_iload_n hX dX1_insert_59 rfl 3 rfl ?_
  refine r_cVv (As := [.int l4, .int l3]) (st := []) hX dX1_insert_60 kl_X6_insert w_ml_X1_37 w_im_X6_insert w_se_X6_insert ⟨_, _, rfl⟩ (by decide) rfl (Nat.le_of_ble_eq_true rfl) rfl kdz0 h (fun r σ1 h => wX6_insert h) ?_
  clear h; intro u σ h
  exact r_vret hX dX1_insert_63 h
def X1_insert_9B (G : kdS) (k9 : Nat → Int32 → Int32 → Int32 → Int32 → kdM → Option (Unit × kdM)) (l0 : Nat) (l1 : Int32) (l2 : Int32) (l3 : Int32) (l4 : Int32) : kdM → Option (Unit × kdM) :=
  cnd (l4 ≤ 0)
    (X1_insert_33 G l0 l1 l2 l3 l4)
    (kcv G 1 l0 (X1_goesAhead G l0 l2 l3 (l4 - (1 : Int32))) fun t1 =>
    cnd (t1 = 0)
      (X1_insert_33 G l0 l1 l2 l3 l4)
      (ltI (l4 + Int32.ofInt (-1)) fun t2 =>
      k9 l0 l1 l2 l3 t2))
set_option maxRecDepth 100000 in
set_option maxHeartbeats 4000000 in
theorem wX1_insert_9B {E : kdE} {G : kdS} {A : kdA} {r : Unit} {σ1 : kdM} (hX : kdX E A cX1_insert 5 RX1 none 2) (k9 : Nat → Int32 → Int32 → Int32 → Int32 → kdM → Option (Unit × kdM)) (hk9 : ∀ (l0 : Nat) (l1 : Int32) (l2 : Int32) (l3 : Int32) (l4 : Int32) (σ : kdM), k9 l0 l1 l2 l3 l4 σ = some (r, σ1) → SW E G (.inl (none, σ1)) A 5 σ 9 [(0, kr E l0), (1, .int l1), (2, .int l2), (3, .int l3), (4, .int l4)] []) {σ : kdM} {l0 : Nat} {l1 : Int32} {l2 : Int32} {l3 : Int32} {l4 : Int32} (h : X1_insert_9B G k9 l0 l1 l2 l3 l4 σ = some (r, σ1)) : SW E G (.inl (none, σ1)) A 5 σ 9 [(0, kr E l0), (1, .int l1), (2, .int l2), (3, .int l3), (4, .int l4)] [] := by
  unfold X1_insert_9B at h
  refine r_iload hX dX1_insert_9 4 rfl ?_
  refine r_if_le (tgt := 33) hX dX1_insert_11 (by decide) h ?_ ?_
  · clear h; intro h
    refine r_sub [0, 1, 2, 3, 4] rfl ?_
    exact wX1_insert_33 hX h
  · clear h; intro h
    refine r_aload_n hX dX1_insert_14 rfl 0 rfl ?_
    refine r_iload_n hX dX1_insert_15 rfl 2 rfl ?_
    refine r_iload_n hX dX1_insert_16 rfl 3 rfl ?_
    refine r_iload hX dX1_insert_17 4 rfl ?_
    refine r_iconst hX dX1_insert_19 kk_i_1 ?_
    refine r_isub hX dX1_insert_20 ?_
    refine r_cVi (As := [.int l2, .int l3, .int (l4 - (1 : Int32))]) (st := []) hX dX1_insert_21 kl_X1_goesAhead w_ml_X1_33 w_im_X1_goesAhead w_se_X1_goesAhead ⟨_, _, rfl⟩ (by decide) rfl (Nat.le_of_ble_eq_true rfl) rfl kdz0 h (fun r σ1 h => wX1_goesAhead h) ?_
    clear h; intro t1 σ h
    refine r_if_eq (tgt := 33) hX dX1_insert_24 (by decide) h ?_ ?_
    · clear h; intro h
      refine r_sub [0, 1, 2, 3, 4] rfl ?_
      exact wX1_insert_33 hX h
    · clear h; intro h
      refine r_iincL (L2 := fun t2 => [(4, .int t2), (0, kr E l0), (1, .int l1), (2, .int l2), (3, .int l3)]) hX dX1_insert_27 h 4 rfl (by decide) (fun _ => rfl) ?_
      clear h; intro t2 h
      refine r_goto (tgt := 9) hX dX1_insert_30 (by decide) ?_
      refine r_sub [1, 2, 3, 4, 0] rfl ?_
      exact hk9 _ _ _ _ _ _ h
def X1_insert_9 (G : kdS) : Nat → Int32 → Int32 → Int32 → Int32 → kdM → Option (Unit × kdM) := lp (fun _ _ _ _ _ _ => none) (X1_insert_9B G) NN
theorem wX1_insert_9 {E : kdE} {G : kdS} {A : kdA} {r : Unit} {σ1 : kdM} (hX : kdX E A cX1_insert 5 RX1 none 2) : ∀ (l0 : Nat) (l1 : Int32) (l2 : Int32) (l3 : Int32) (l4 : Int32) (σ : kdM), X1_insert_9 G l0 l1 l2 l3 l4 σ = some (r, σ1) → SW E G (.inl (none, σ1)) A 5 σ 9 [(0, kr E l0), (1, .int l1), (2, .int l2), (3, .int l3), (4, .int l4)] [] :=
  lp_ind (Q := fun f => ∀ (l0 : Nat) (l1 : Int32) (l2 : Int32) (l3 : Int32) (l4 : Int32) (σ : kdM), f l0 l1 l2 l3 l4 σ = some (r, σ1) → SW E G (.inl (none, σ1)) A 5 σ 9 [(0, kr E l0), (1, .int l1), (2, .int l2), (3, .int l3), (4, .int l4)] []) (by intros; contradiction) (fun k hk l0 l1 l2 l3 l4 σ h => wX1_insert_9B hX k hk h) NN
def X1_insert (G : kdS) (l0 : Nat) (l1 : Int32) (l2 : Int32) (l3 : Int32) : kdM → Option (Unit × kdM) :=
  gR G 1 0 l0 fun t1 =>
  kcv G 6 t1 (X6_size G t1) fun t2 =>
  X1_insert_9 G l0 l1 l2 l3 t2
set_option maxRecDepth 100000 in
set_option maxHeartbeats 4000000 in
theorem wX1_insert {E : kdE} {G : kdS} {l0 : Nat} {l1 : Int32} {l2 : Int32} {l3 : Int32} {σ : kdM} {r : Unit} {σ1 : kdM} (h : X1_insert G l0 l1 l2 l3 σ = some (r, σ1)) : Con E G yX1_insert cX1_insert 5 none 2 [kr E l0, .int l1, .int l2, .int l3] σ (none, σ1) := by
  refine kd_head (own := RX1) rfl (by decide +kernel) (Nat.le_of_ble_eq_true rfl) (fun A hX => ?_)
  show SW E G (.inl (none, σ1)) A 5 σ 0 [(0, kr E l0), (1, .int l1), (2, .int l2), (3, .int l3)] []
  unfold X1_insert at h
  refine r_aload_n hX dX1_insert_0 rfl 0 rfl ?_
  refine r_gR hX dX1_insert_1 kf_X1_14 rfl h ?_
  clear h; intro t1 h
  refine r_cVi (As := []) (st := []) hX dX1_insert_4 kl_X6_size w_ml_X1_30 w_im_X6_size w_se_X6_size ⟨_, _, rfl⟩ (by decide) rfl (Nat.le_of_ble_eq_true rfl) rfl kdz0 h (fun r σ1 h => wX6_size h) ?_
  clear h; intro t2 σ h
  refine r_istore (L2 := [(4, .int t2), (0, kr E l0), (1, .int l1), (2, .int l2), (3, .int l3)]) hX dX1_insert_7 (by decide) rfl ?_
  refine r_sub [1, 2, 3, 4, 0] rfl ?_
  exact wX1_insert_9 hX _ _ _ _ _ _ h
def X1_guessAt_37 (G : kdS) (s0 : Int32) : kdM → Option (Int32 × kdM) :=
  rt s0
set_option maxRecDepth 100000 in
set_option maxHeartbeats 4000000 in
theorem wX1_guessAt_37 {E : kdE} {G : kdS} {A : kdA} {r : Int32} {σ1 : kdM} (hX : kdX E A cX1_guessAt 2 RX1 (some .int) 1) {σ : kdM} {s0 : Int32} (h : X1_guessAt_37 G s0 σ = some (r, σ1)) : SW E G (.inl (some (.int r), σ1)) A 2 σ 37 [] [.int s0] := by
  unfold X1_guessAt_37 at h
  exact r_iret hX dX1_guessAt_37 h
def X1_guessAt (G : kdS) (l0 : Nat) (l1 : Int32) : kdM → Option (Int32 × kdM) :=
  cnd (l1 = (-1 : Int32))
    (gR G 1 0 l0 fun t1 =>
    kcv G 6 t1 (X6_size G t1) fun t2 =>
    rt t2)
    (gR G 1 0 l0 fun t3 =>
    kcv G 6 t3 (X6_has G t3 l1) fun t4 =>
    cnd (t4 = 0)
      (X1_guessAt_37 G (-6 : Int32))
      (gR G 1 0 l0 fun t5 =>
      kcv G 6 t5 (X6_at G t5 l1) fun t6 =>
      X1_guessAt_37 G t6))
set_option maxRecDepth 100000 in
set_option maxHeartbeats 4000000 in
theorem wX1_guessAt {E : kdE} {G : kdS} {l0 : Nat} {l1 : Int32} {σ : kdM} {r : Int32} {σ1 : kdM} (h : X1_guessAt G l0 l1 σ = some (r, σ1)) : Con E G yX1_guessAt cX1_guessAt 2 (some .int) 1 [kr E l0, .int l1] σ (some (.int r), σ1) := by
  refine kd_head (own := RX1) rfl (by decide +kernel) (Nat.le_of_ble_eq_true rfl) (fun A hX => ?_)
  show SW E G (.inl (some (.int r), σ1)) A 2 σ 0 [(0, kr E l0), (1, .int l1)] []
  unfold X1_guessAt at h
  refine r_iload_n hX dX1_guessAt_0 rfl 1 rfl ?_
  refine r_iconst hX dX1_guessAt_1 kk_i_m1 ?_
  refine r_icmp_ne (tgt := 13) hX dX1_guessAt_2 (by decide) h ?_ ?_
  · clear h; intro h
    refine r_aload_n hX dX1_guessAt_5 rfl 0 rfl ?_
    refine r_gR hX dX1_guessAt_6 kf_X1_14 rfl h ?_
    clear h; intro t1 h
    refine r_cVi (As := []) (st := []) hX dX1_guessAt_9 kl_X6_size w_ml_X1_30 w_im_X6_size w_se_X6_size ⟨_, _, rfl⟩ (by decide) rfl (Nat.le_of_ble_eq_true rfl) rfl kdz0 h (fun r σ1 h => wX6_size h) ?_
    clear h; intro t2 σ h
    exact r_iret hX dX1_guessAt_12 h
  · clear h; intro h
    refine r_aload_n hX dX1_guessAt_13 rfl 0 rfl ?_
    refine r_gR hX dX1_guessAt_14 kf_X1_14 rfl h ?_
    clear h; intro t3 h
    refine r_iload_n hX dX1_guessAt_17 rfl 1 rfl ?_
    refine r_cVi (As := [.int l1]) (st := []) hX dX1_guessAt_18 kl_X6_has w_ml_X1_45 w_im_X6_has w_se_X6_has ⟨_, _, rfl⟩ (by decide) rfl (Nat.le_of_ble_eq_true rfl) rfl kdz0 h (fun r σ1 h => wX6_has h) ?_
    clear h; intro t4 σ h
    refine r_if_eq (tgt := 35) hX dX1_guessAt_21 (by decide) h ?_ ?_
    · clear h; intro h
      refine r_bipush hX dX1_guessAt_35 kk_b_m6 ?_
      refine r_sub [] rfl ?_
      exact wX1_guessAt_37 hX h
    · clear h; intro h
      refine r_aload_n hX dX1_guessAt_24 rfl 0 rfl ?_
      refine r_gR hX dX1_guessAt_25 kf_X1_14 rfl h ?_
      clear h; intro t5 h
      refine r_iload_n hX dX1_guessAt_28 rfl 1 rfl ?_
      refine r_cVi (As := [.int l1]) (st := []) hX dX1_guessAt_29 kl_X6_at w_ml_X1_41 w_im_X6_at w_se_X6_at ⟨_, _, rfl⟩ (by decide) rfl (Nat.le_of_ble_eq_true rfl) rfl kdz0 h (fun r σ1 h => wX6_at h) ?_
      clear h; intro t6 σ h
      refine r_goto (tgt := 37) hX dX1_guessAt_32 (by decide) ?_
      refine r_sub [] rfl ?_
      exact wX1_guessAt_37 hX h
def X5_sum (G : kdS) (l0 : Nat) : kdM → Option (Int32 × kdM) :=
  gI G 5 8 l0 fun t1 =>
  rt t1
set_option maxRecDepth 100000 in
set_option maxHeartbeats 4000000 in
theorem wX5_sum {E : kdE} {G : kdS} {l0 : Nat} {σ : kdM} {r : Int32} {σ1 : kdM} (h : X5_sum G l0 σ = some (r, σ1)) : Con E G yX5_sum cX5_sum 1 (some .int) 0 [kr E l0] σ (some (.int r), σ1) := by
  refine kd_head (own := RX5) rfl (by decide +kernel) (Nat.le_of_ble_eq_true rfl) (fun A hX => ?_)
  show SW E G (.inl (some (.int r), σ1)) A 1 σ 0 [(0, kr E l0)] []
  unfold X5_sum at h
  refine r_aload_n hX dX5_sum_0 rfl 0 rfl ?_
  refine r_gI hX dX5_sum_1 kf_X5_44 rfl h ?_
  clear h; intro t1 h
  exact r_iret hX dX5_sum_4 h
def X5_words (G : kdS) (l0 : Nat) : kdM → Option (Nat × kdM) :=
  gR G 5 6 l0 fun t1 =>
  rt t1
set_option maxRecDepth 100000 in
set_option maxHeartbeats 4000000 in
theorem wX5_words {E : kdE} {G : kdS} {l0 : Nat} {σ : kdM} {r : Nat} {σ1 : kdM} (h : X5_words G l0 σ = some (r, σ1)) : Con E G yX5_words cX5_words 1 (some (.object "KeyDesk$Row")) 0 [kr E l0] σ (some (kr E r), σ1) := by
  refine kd_head (own := RX5) rfl (by decide +kernel) (Nat.le_of_ble_eq_true rfl) (fun A hX => ?_)
  show SW E G (.inl (some (kr E r), σ1)) A 1 σ 0 [(0, kr E l0)] []
  unfold X5_words at h
  refine r_aload_n hX dX5_words_0 rfl 0 rfl ?_
  refine r_gR hX dX5_words_1 kf_X5_29 rfl h ?_
  clear h; intro t1 h
  exact r_aret hX dX5_words_4 h
def X5_lengths (G : kdS) (l0 : Nat) : kdM → Option (Nat × kdM) :=
  gR G 5 7 l0 fun t1 =>
  rt t1
set_option maxRecDepth 100000 in
set_option maxHeartbeats 4000000 in
theorem wX5_lengths {E : kdE} {G : kdS} {l0 : Nat} {σ : kdM} {r : Nat} {σ1 : kdM} (h : X5_lengths G l0 σ = some (r, σ1)) : Con E G yX5_lengths cX5_lengths 1 (some (.object "KeyDesk$Row")) 0 [kr E l0] σ (some (kr E r), σ1) := by
  refine kd_head (own := RX5) rfl (by decide +kernel) (Nat.le_of_ble_eq_true rfl) (fun A hX => ?_)
  show SW E G (.inl (some (kr E r), σ1)) A 1 σ 0 [(0, kr E l0)] []
  unfold X5_lengths at h
  refine r_aload_n hX dX5_lengths_0 rfl 0 rfl ?_
  refine r_gR hX dX5_lengths_1 kf_X5_33 rfl h ?_
  clear h; intro t1 h
  exact r_aret hX dX5_lengths_4 h
def X11_hasBit_14 (G : kdS) (s0 : Int32) : kdM → Option (Int32 × kdM) :=
  rt (vp_nar .boolean s0)
set_option maxRecDepth 100000 in
set_option maxHeartbeats 4000000 in
theorem wX11_hasBit_14 {E : kdE} {G : kdS} {A : kdA} {r : Int32} {σ1 : kdM} (hX : kdX E A cX11_hasBit 2 RX11 (some .boolean) 0) {σ : kdM} {s0 : Int32} (h : X11_hasBit_14 G s0 σ = some (r, σ1)) : SW E G (.inl (some (.int r), σ1)) A 2 σ 14 [] [.int s0] := by
  unfold X11_hasBit_14 at h
  exact r_zret hX dX11_hasBit_14 h
def X11_hasBit (G : kdS) (l0 : Int32) (l1 : Int32) : kdM → Option (Int32 × kdM) :=
  cnd (((l0 >>> (l1 &&& 31)) &&& (1 : Int32)) = (1 : Int32))
    (X11_hasBit_14 G (1 : Int32))
    (X11_hasBit_14 G (0 : Int32))
set_option maxRecDepth 100000 in
set_option maxHeartbeats 4000000 in
theorem wX11_hasBit {E : kdE} {G : kdS} {l0 : Int32} {l1 : Int32} {σ : kdM} {r : Int32} {σ1 : kdM} (h : X11_hasBit G l0 l1 σ = some (r, σ1)) : Con E G yX11_hasBit cX11_hasBit 2 (some .boolean) 0 [.int l0, .int l1] σ (some (.int r), σ1) := by
  refine kd_head (own := RX11) rfl (by decide +kernel) (Nat.le_of_ble_eq_true rfl) (fun A hX => ?_)
  show SW E G (.inl (some (.int r), σ1)) A 2 σ 0 [(0, .int l0), (1, .int l1)] []
  unfold X11_hasBit at h
  refine r_iload_n hX dX11_hasBit_0 rfl 0 rfl ?_
  refine r_iload_n hX dX11_hasBit_1 rfl 1 rfl ?_
  refine r_ishr hX dX11_hasBit_2 ?_
  refine r_iconst hX dX11_hasBit_3 kk_i_1 ?_
  refine r_iand hX dX11_hasBit_4 ?_
  refine r_iconst hX dX11_hasBit_5 kk_i_1 ?_
  refine r_icmp_ne (tgt := 13) hX dX11_hasBit_6 (by decide) h ?_ ?_
  · clear h; intro h
    refine r_iconst hX dX11_hasBit_9 kk_i_1 ?_
    refine r_goto (tgt := 14) hX dX11_hasBit_10 (by decide) ?_
    refine r_sub [] rfl ?_
    exact wX11_hasBit_14 hX h
  · clear h; intro h
    refine r_iconst hX dX11_hasBit_13 kk_i_0 ?_
    refine r_sub [] rfl ?_
    exact wX11_hasBit_14 hX h
def X5_caseOf (G : kdS) (l0 : Int32) (l1 : Int32) (l2 : Int32) : kdM → Option (Int32 × kdM) :=
  rt ((((l0 * (5 : Int32)) + l1) * (4 : Int32)) + l2)
set_option maxRecDepth 100000 in
set_option maxHeartbeats 4000000 in
theorem wX5_caseOf {E : kdE} {G : kdS} {l0 : Int32} {l1 : Int32} {l2 : Int32} {σ : kdM} {r : Int32} {σ1 : kdM} (h : X5_caseOf G l0 l1 l2 σ = some (r, σ1)) : Con E G yX5_caseOf cX5_caseOf 3 (some .int) 0 [.int l0, .int l1, .int l2] σ (some (.int r), σ1) := by
  refine kd_head (own := RX5) rfl (by decide +kernel) (Nat.le_of_ble_eq_true rfl) (fun A hX => ?_)
  show SW E G (.inl (some (.int r), σ1)) A 3 σ 0 [(0, .int l0), (1, .int l1), (2, .int l2)] []
  unfold X5_caseOf at h
  refine r_iload_n hX dX5_caseOf_0 rfl 0 rfl ?_
  refine r_iconst hX dX5_caseOf_1 kk_i_5 ?_
  refine r_imul hX dX5_caseOf_2 ?_
  refine r_iload_n hX dX5_caseOf_3 rfl 1 rfl ?_
  refine r_iadd hX dX5_caseOf_4 ?_
  refine r_iconst hX dX5_caseOf_5 kk_i_4 ?_
  refine r_imul hX dX5_caseOf_6 ?_
  refine r_iload_n hX dX5_caseOf_7 rfl 2 rfl ?_
  refine r_iadd hX dX5_caseOf_8 ?_
  exact r_iret hX dX5_caseOf_9 h
def X5_isBetter_35 (G : kdS) (s0 : Int32) : kdM → Option (Int32 × kdM) :=
  rt (vp_nar .boolean s0)
set_option maxRecDepth 100000 in
set_option maxHeartbeats 4000000 in
theorem wX5_isBetter_35 {E : kdE} {G : kdS} {A : kdA} {r : Int32} {σ1 : kdM} (hX : kdX E A cX5_isBetter 4 RX5 (some .boolean) 0) {σ : kdM} {s0 : Int32} (h : X5_isBetter_35 G s0 σ = some (r, σ1)) : SW E G (.inl (some (.int r), σ1)) A 4 σ 35 [] [.int s0] := by
  unfold X5_isBetter_35 at h
  exact r_zret hX dX5_isBetter_35 h
def X5_isBetter_30 (G : kdS) : kdM → Option (Int32 × kdM) :=
  X5_isBetter_35 G (1 : Int32)
set_option maxRecDepth 100000 in
set_option maxHeartbeats 4000000 in
theorem wX5_isBetter_30 {E : kdE} {G : kdS} {A : kdA} {r : Int32} {σ1 : kdM} (hX : kdX E A cX5_isBetter 4 RX5 (some .boolean) 0) {σ : kdM} (h : X5_isBetter_30 G  σ = some (r, σ1)) : SW E G (.inl (some (.int r), σ1)) A 4 σ 30 [] [] := by
  unfold X5_isBetter_30 at h
  refine r_iconst hX dX5_isBetter_30 kk_i_1 ?_
  refine r_goto (tgt := 35) hX dX5_isBetter_31 (by decide) ?_
  refine r_sub [] rfl ?_
  exact wX5_isBetter_35 hX h
def X5_isBetter_34 (G : kdS) : kdM → Option (Int32 × kdM) :=
  X5_isBetter_35 G (0 : Int32)
set_option maxRecDepth 100000 in
set_option maxHeartbeats 4000000 in
theorem wX5_isBetter_34 {E : kdE} {G : kdS} {A : kdA} {r : Int32} {σ1 : kdM} (hX : kdX E A cX5_isBetter 4 RX5 (some .boolean) 0) {σ : kdM} (h : X5_isBetter_34 G  σ = some (r, σ1)) : SW E G (.inl (some (.int r), σ1)) A 4 σ 34 [] [] := by
  unfold X5_isBetter_34 at h
  refine r_iconst hX dX5_isBetter_34 kk_i_0 ?_
  refine r_sub [] rfl ?_
  exact wX5_isBetter_35 hX h
def X5_isBetter (G : kdS) (l0 : Nat) (l1 : Int32) (l2 : Int32) (l3 : Int32) : kdM → Option (Int32 × kdM) :=
  gR G 5 2 l0 fun t1 =>
  aI G t1 (l3) fun t2 =>
  cnd (l1 < t2)
    (X5_isBetter_30 G )
    (gR G 5 2 l0 fun t3 =>
    aI G t3 (l3) fun t4 =>
    cnd (l1 = t4)
      (gR G 5 3 l0 fun t5 =>
      aI G t5 (l3) fun t6 =>
      cnd (l2 ≤ t6)
        (X5_isBetter_34 G )
        (X5_isBetter_30 G ))
      (X5_isBetter_34 G ))
set_option maxRecDepth 100000 in
set_option maxHeartbeats 4000000 in
theorem wX5_isBetter {E : kdE} {G : kdS} {l0 : Nat} {l1 : Int32} {l2 : Int32} {l3 : Int32} {σ : kdM} {r : Int32} {σ1 : kdM} (h : X5_isBetter G l0 l1 l2 l3 σ = some (r, σ1)) : Con E G yX5_isBetter cX5_isBetter 4 (some .boolean) 0 [kr E l0, .int l1, .int l2, .int l3] σ (some (.int r), σ1) := by
  refine kd_head (own := RX5) rfl (by decide +kernel) (Nat.le_of_ble_eq_true rfl) (fun A hX => ?_)
  show SW E G (.inl (some (.int r), σ1)) A 4 σ 0 [(0, kr E l0), (1, .int l1), (2, .int l2), (3, .int l3)] []
  unfold X5_isBetter at h
  refine r_iload_n hX dX5_isBetter_0 rfl 1 rfl ?_
  refine r_aload_n hX dX5_isBetter_1 rfl 0 rfl ?_
  refine r_gR hX dX5_isBetter_2 kf_X5_11 rfl h ?_
  clear h; intro t1 h
  refine r_iload_n hX dX5_isBetter_5 rfl 3 rfl ?_
  refine r_aI hX dX5_isBetter_6 h ?_
  clear h; intro t2 h
  refine r_icmp_lt (tgt := 30) hX dX5_isBetter_7 (by decide) h ?_ ?_
  · clear h; intro h
    refine r_sub [] rfl ?_
    exact wX5_isBetter_30 hX h
  · clear h; intro h
    refine r_iload_n hX dX5_isBetter_10 rfl 1 rfl ?_
    refine r_aload_n hX dX5_isBetter_11 rfl 0 rfl ?_
    refine r_gR hX dX5_isBetter_12 kf_X5_11 rfl h ?_
    clear h; intro t3 h
    refine r_iload_n hX dX5_isBetter_15 rfl 3 rfl ?_
    refine r_aI hX dX5_isBetter_16 h ?_
    clear h; intro t4 h
    refine r_icmp_ne (tgt := 34) hX dX5_isBetter_17 (by decide) h ?_ ?_
    · clear h; intro h
      refine r_iload_n hX dX5_isBetter_20 rfl 2 rfl ?_
      refine r_aload_n hX dX5_isBetter_21 rfl 0 rfl ?_
      refine r_gR hX dX5_isBetter_22 kf_X5_15 rfl h ?_
      clear h; intro t5 h
      refine r_iload_n hX dX5_isBetter_25 rfl 3 rfl ?_
      refine r_aI hX dX5_isBetter_26 h ?_
      clear h; intro t6 h
      refine r_icmp_le (tgt := 34) hX dX5_isBetter_27 (by decide) h ?_ ?_
      · clear h; intro h
        refine r_sub [] rfl ?_
        exact wX5_isBetter_34 hX h
      · clear h; intro h
        refine r_sub [] rfl ?_
        exact wX5_isBetter_30 hX h
    · clear h; intro h
      refine r_sub [] rfl ?_
      exact wX5_isBetter_34 hX h
def X5_bestNumberOfPieces_58 (G : kdS) (k4 : Nat → Int32 → Int32 → kdM → Option (Int32 × kdM)) (l0 : Nat) (l1 : Int32) (l2 : Int32) : kdM → Option (Int32 × kdM) :=
  ltI (l2 + Int32.ofInt 1) fun t1 =>
  k4 l0 l1 t1
set_option maxRecDepth 100000 in
set_option maxHeartbeats 4000000 in
theorem wX5_bestNumberOfPieces_58 {E : kdE} {G : kdS} {A : kdA} {r : Int32} {σ1 : kdM} (hX : kdX E A cX5_bestNumberOfPieces 4 RX5 (some .int) 1) (k4 : Nat → Int32 → Int32 → kdM → Option (Int32 × kdM)) (hk4 : ∀ (l0 : Nat) (l1 : Int32) (l2 : Int32) (σ : kdM), k4 l0 l1 l2 σ = some (r, σ1) → SW E G (.inl (some (.int r), σ1)) A 4 σ 4 [(0, kr E l0), (1, .int l1), (2, .int l2)] []) {σ : kdM} {l0 : Nat} {l1 : Int32} {l2 : Int32} (h : X5_bestNumberOfPieces_58 G k4 l0 l1 l2 σ = some (r, σ1)) : SW E G (.inl (some (.int r), σ1)) A 4 σ 58 [(0, kr E l0), (1, .int l1), (2, .int l2)] [] := by
  unfold X5_bestNumberOfPieces_58 at h
  refine r_iincL (L2 := fun t1 => [(2, .int t1), (0, kr E l0), (1, .int l1)]) hX dX5_bestNumberOfPieces_58 h 2 rfl (by decide) (fun _ => rfl) ?_
  clear h; intro t1 h
  refine r_goto (tgt := 4) hX dX5_bestNumberOfPieces_61 (by decide) ?_
  refine r_sub [1, 2, 0] rfl ?_
  exact hk4 _ _ _ _ h
def X5_bestNumberOfPieces_56 (G : kdS) (k4 : Nat → Int32 → Int32 → kdM → Option (Int32 × kdM)) (l0 : Nat) (l2 : Int32) : kdM → Option (Int32 × kdM) :=
  X5_bestNumberOfPieces_58 G k4 l0 l2 l2
set_option maxRecDepth 100000 in
set_option maxHeartbeats 4000000 in
theorem wX5_bestNumberOfPieces_56 {E : kdE} {G : kdS} {A : kdA} {r : Int32} {σ1 : kdM} (hX : kdX E A cX5_bestNumberOfPieces 4 RX5 (some .int) 1) (k4 : Nat → Int32 → Int32 → kdM → Option (Int32 × kdM)) (hk4 : ∀ (l0 : Nat) (l1 : Int32) (l2 : Int32) (σ : kdM), k4 l0 l1 l2 σ = some (r, σ1) → SW E G (.inl (some (.int r), σ1)) A 4 σ 4 [(0, kr E l0), (1, .int l1), (2, .int l2)] []) {σ : kdM} {l0 : Nat} {l2 : Int32} (h : X5_bestNumberOfPieces_56 G k4 l0 l2 σ = some (r, σ1)) : SW E G (.inl (some (.int r), σ1)) A 4 σ 56 [(0, kr E l0), (2, .int l2)] [] := by
  unfold X5_bestNumberOfPieces_56 at h
  refine r_iload_n hX dX5_bestNumberOfPieces_56 rfl 1 rfl ?_
  refine r_istore_n (L2 := [(1, .int l2), (0, kr E l0), (2, .int l2)]) hX dX5_bestNumberOfPieces_57 rfl (by decide) rfl ?_
  refine r_sub [1, 0, 2] rfl ?_
  exact wX5_bestNumberOfPieces_58 hX k4 hk4 h
def X5_bestNumberOfPieces_4B (G : kdS) (k4 : Nat → Int32 → Int32 → kdM → Option (Int32 × kdM)) (l0 : Nat) (l1 : Int32) (l2 : Int32) : kdM → Option (Int32 × kdM) :=
  cnd ((4 : Int32) < l2)
    (rt l1)
    (kcl (X5_caseOf G (0 : Int32) l2 (3 : Int32)) fun t1 =>
    gR G 5 2 l0 fun t2 =>
    aI G t2 (t1) fun t3 =>
    cnd ((1000000000 : Int32) ≤ t3)
      (X5_bestNumberOfPieces_58 G k4 l0 l1 l2)
      (cnd (l1 = 0)
        (X5_bestNumberOfPieces_56 G k4 l0 l2)
        (gR G 5 2 l0 fun t4 =>
        aI G t4 (t1) fun t5 =>
        gR G 5 3 l0 fun t6 =>
        aI G t6 (t1) fun t7 =>
        kcl (X5_caseOf G (0 : Int32) l1 (3 : Int32)) fun t8 =>
        kcv G 5 l0 (X5_isBetter G l0 t5 t7 t8) fun t9 =>
        cnd (t9 = 0)
          (X5_bestNumberOfPieces_58 G k4 l0 l1 l2)
          (X5_bestNumberOfPieces_56 G k4 l0 l2))))
set_option maxRecDepth 100000 in
set_option maxHeartbeats 4000000 in
theorem wX5_bestNumberOfPieces_4B {E : kdE} {G : kdS} {A : kdA} {r : Int32} {σ1 : kdM} (hX : kdX E A cX5_bestNumberOfPieces 4 RX5 (some .int) 1) (k4 : Nat → Int32 → Int32 → kdM → Option (Int32 × kdM)) (hk4 : ∀ (l0 : Nat) (l1 : Int32) (l2 : Int32) (σ : kdM), k4 l0 l1 l2 σ = some (r, σ1) → SW E G (.inl (some (.int r), σ1)) A 4 σ 4 [(0, kr E l0), (1, .int l1), (2, .int l2)] []) {σ : kdM} {l0 : Nat} {l1 : Int32} {l2 : Int32} (h : X5_bestNumberOfPieces_4B G k4 l0 l1 l2 σ = some (r, σ1)) : SW E G (.inl (some (.int r), σ1)) A 4 σ 4 [(0, kr E l0), (1, .int l1), (2, .int l2)] [] := by
  unfold X5_bestNumberOfPieces_4B at h
  refine r_iload_n hX dX5_bestNumberOfPieces_4 rfl 2 rfl ?_
  refine r_iconst hX dX5_bestNumberOfPieces_5 kk_i_4 ?_
  refine r_icmp_gt (tgt := 64) hX dX5_bestNumberOfPieces_6 (by decide) h ?_ ?_
  · clear h; intro h
    refine r_iload_n hX dX5_bestNumberOfPieces_64 rfl 1 rfl ?_
    exact r_iret hX dX5_bestNumberOfPieces_65 h
  · clear h; intro h
    refine r_iconst hX dX5_bestNumberOfPieces_9 kk_i_0 ?_
    refine r_iload_n hX dX5_bestNumberOfPieces_10 rfl 2 rfl ?_
    refine r_iconst hX dX5_bestNumberOfPieces_11 kk_i_3 ?_
    refine r_cSi (As := [.int (0 : Int32), .int l2, .int (3 : Int32)]) (st := []) hX dX5_bestNumberOfPieces_12 kl_X5_caseOf w_ml_X5_77 w_st_X5_caseOf (by decide) rfl (Nat.le_of_ble_eq_true rfl) rfl kdz0 h (fun r σ1 h => wX5_caseOf h) ?_
    clear h; intro t1 σ h
    refine r_istore_n (L2 := [(3, .int t1), (0, kr E l0), (1, .int l1), (2, .int l2)]) hX dX5_bestNumberOfPieces_15 rfl (by decide) rfl ?_
    refine r_aload_n hX dX5_bestNumberOfPieces_16 rfl 1 rfl ?_
    refine r_gR hX dX5_bestNumberOfPieces_17 kf_X5_11 rfl h ?_
    clear h; intro t2 h
    refine r_iload_n hX dX5_bestNumberOfPieces_20 rfl 0 rfl ?_
    refine r_aI hX dX5_bestNumberOfPieces_21 h ?_
    clear h; intro t3 h
    refine r_ldc hX dX5_bestNumberOfPieces_22 w_ct_X5_76 ?_
    refine r_icmp_ge (tgt := 58) hX dX5_bestNumberOfPieces_24 (by decide) h ?_ ?_
    · clear h; intro h
      refine r_sub [1, 2, 3] rfl ?_
      exact wX5_bestNumberOfPieces_58 hX k4 hk4 h
    · clear h; intro h
      refine r_iload_n hX dX5_bestNumberOfPieces_27 rfl 2 rfl ?_
      refine r_if_eq (tgt := 56) hX dX5_bestNumberOfPieces_28 (by decide) h ?_ ?_
      · clear h; intro h
        refine r_sub [1, 3] rfl ?_
        exact wX5_bestNumberOfPieces_56 hX k4 hk4 h
      · clear h; intro h
        refine r_aload_n hX dX5_bestNumberOfPieces_31 rfl 1 rfl ?_
        refine r_aload_n hX dX5_bestNumberOfPieces_32 rfl 1 rfl ?_
        refine r_gR hX dX5_bestNumberOfPieces_33 kf_X5_11 rfl h ?_
        clear h; intro t4 h
        refine r_iload_n hX dX5_bestNumberOfPieces_36 rfl 0 rfl ?_
        refine r_aI hX dX5_bestNumberOfPieces_37 h ?_
        clear h; intro t5 h
        refine r_aload_n hX dX5_bestNumberOfPieces_38 rfl 1 rfl ?_
        refine r_gR hX dX5_bestNumberOfPieces_39 kf_X5_15 rfl h ?_
        clear h; intro t6 h
        refine r_iload_n hX dX5_bestNumberOfPieces_42 rfl 0 rfl ?_
        refine r_aI hX dX5_bestNumberOfPieces_43 h ?_
        clear h; intro t7 h
        refine r_iconst hX dX5_bestNumberOfPieces_44 kk_i_0 ?_
        refine r_iload_n hX dX5_bestNumberOfPieces_45 rfl 2 rfl ?_
        refine r_iconst hX dX5_bestNumberOfPieces_46 kk_i_3 ?_
        refine r_cSi (As := [.int (0 : Int32), .int l1, .int (3 : Int32)]) (st := [.int t7, .int t5, kr E l0]) hX dX5_bestNumberOfPieces_47 kl_X5_caseOf w_ml_X5_77 w_st_X5_caseOf (by decide) rfl (Nat.le_of_ble_eq_true rfl) rfl kdz0 h (fun r σ1 h => wX5_caseOf h) ?_
        clear h; intro t8 σ h
        refine r_cVi (As := [.int t5, .int t7, .int t8]) (st := []) hX dX5_bestNumberOfPieces_50 kl_X5_isBetter w_ml_X5_111 w_im_X5_isBetter w_se_X5_isBetter ⟨_, _, rfl⟩ (by decide) rfl (Nat.le_of_ble_eq_true rfl) rfl kdz0 h (fun r σ1 h => wX5_isBetter h) ?_
        clear h; intro t9 σ h
        refine r_if_eq (tgt := 58) hX dX5_bestNumberOfPieces_53 (by decide) h ?_ ?_
        · clear h; intro h
          refine r_sub [1, 2, 3] rfl ?_
          exact wX5_bestNumberOfPieces_58 hX k4 hk4 h
        · clear h; intro h
          refine r_sub [1, 3] rfl ?_
          exact wX5_bestNumberOfPieces_56 hX k4 hk4 h
def X5_bestNumberOfPieces_4 (G : kdS) : Nat → Int32 → Int32 → kdM → Option (Int32 × kdM) := lp (fun _ _ _ _ => none) (X5_bestNumberOfPieces_4B G) NN
theorem wX5_bestNumberOfPieces_4 {E : kdE} {G : kdS} {A : kdA} {r : Int32} {σ1 : kdM} (hX : kdX E A cX5_bestNumberOfPieces 4 RX5 (some .int) 1) : ∀ (l0 : Nat) (l1 : Int32) (l2 : Int32) (σ : kdM), X5_bestNumberOfPieces_4 G l0 l1 l2 σ = some (r, σ1) → SW E G (.inl (some (.int r), σ1)) A 4 σ 4 [(0, kr E l0), (1, .int l1), (2, .int l2)] [] :=
  lp_ind (Q := fun f => ∀ (l0 : Nat) (l1 : Int32) (l2 : Int32) (σ : kdM), f l0 l1 l2 σ = some (r, σ1) → SW E G (.inl (some (.int r), σ1)) A 4 σ 4 [(0, kr E l0), (1, .int l1), (2, .int l2)] []) (by intros; contradiction) (fun k hk l0 l1 l2 σ h => wX5_bestNumberOfPieces_4B hX k hk h) NN
def X5_bestNumberOfPieces (G : kdS) (l0 : Nat) : kdM → Option (Int32 × kdM) :=
  X5_bestNumberOfPieces_4 G l0 (0 : Int32) (1 : Int32)
set_option maxRecDepth 100000 in
set_option maxHeartbeats 4000000 in
theorem wX5_bestNumberOfPieces {E : kdE} {G : kdS} {l0 : Nat} {σ : kdM} {r : Int32} {σ1 : kdM} (h : X5_bestNumberOfPieces G l0 σ = some (r, σ1)) : Con E G yX5_bestNumberOfPieces cX5_bestNumberOfPieces 4 (some .int) 1 [kr E l0] σ (some (.int r), σ1) := by
  refine kd_head (own := RX5) rfl (by decide +kernel) (Nat.le_of_ble_eq_true rfl) (fun A hX => ?_)
  show SW E G (.inl (some (.int r), σ1)) A 4 σ 0 [(0, kr E l0)] []
  unfold X5_bestNumberOfPieces at h
  refine r_iconst hX dX5_bestNumberOfPieces_0 kk_i_0 ?_
  refine r_istore_n (L2 := [(1, .int (0 : Int32)), (0, kr E l0)]) hX dX5_bestNumberOfPieces_1 rfl (by decide) rfl ?_
  refine r_iconst hX dX5_bestNumberOfPieces_2 kk_i_1 ?_
  refine r_istore_n (L2 := [(2, .int (1 : Int32)), (1, .int (0 : Int32)), (0, kr E l0)]) hX dX5_bestNumberOfPieces_3 rfl (by decide) rfl ?_
  refine r_sub [2, 1, 0] rfl ?_
  exact wX5_bestNumberOfPieces_4 hX _ _ _ _ h
def X5_follow_38B (G : kdS) (k38 : Nat → Int32 → Int32 → Int32 → kdM → Option (Unit × kdM)) (l0 : Nat) (l2 : Int32) (l3 : Int32) (l4 : Int32) : kdM → Option (Unit × kdM) :=
  cnd (l4 ≤ 0)
    (rt ())
    (kcl (X5_caseOf G l2 l4 l3) fun t1 =>
    gR G 5 6 l0 fun t2 =>
    gR G 5 4 l0 fun t3 =>
    aI G t3 (t1) fun t4 =>
    kcv G 6 t2 (X6_add G t2 t4) fun _ =>
    gR G 5 7 l0 fun t5 =>
    gR G 5 5 l0 fun t6 =>
    aI G t6 (t1) fun t7 =>
    kcv G 6 t5 (X6_add G t5 t7) fun _ =>
    gR G 5 5 l0 fun t8 =>
    aI G t8 (t1) fun t9 =>
    ltI ((l2 + t9)) fun t10 =>
    gR G 5 0 l0 fun t11 =>
    gR G 5 4 l0 fun t12 =>
    aI G t12 (t1) fun t13 =>
    kcv G 10 t11 (X10_tongueOf G t11 t13) fun t14 =>
    ltI (l4 + Int32.ofInt (-1)) fun t15 =>
    k38 l0 t10 t14 t15)
set_option maxRecDepth 100000 in
set_option maxHeartbeats 4000000 in
theorem wX5_follow_38B {E : kdE} {G : kdS} {A : kdA} {r : Unit} {σ1 : kdM} (hX : kdX E A cX5_follow 6 RX5 none 3) (k38 : Nat → Int32 → Int32 → Int32 → kdM → Option (Unit × kdM)) (hk38 : ∀ (l0 : Nat) (l2 : Int32) (l3 : Int32) (l4 : Int32) (σ : kdM), k38 l0 l2 l3 l4 σ = some (r, σ1) → SW E G (.inl (none, σ1)) A 6 σ 38 [(0, kr E l0), (2, .int l2), (3, .int l3), (4, .int l4)] []) {σ : kdM} {l0 : Nat} {l2 : Int32} {l3 : Int32} {l4 : Int32} (h : X5_follow_38B G k38 l0 l2 l3 l4 σ = some (r, σ1)) : SW E G (.inl (none, σ1)) A 6 σ 38 [(0, kr E l0), (2, .int l2), (3, .int l3), (4, .int l4)] [] := by
  unfold X5_follow_38B at h
  refine r_iload hX dX5_follow_38 3 rfl ?_
  refine r_if_le (tgt := 111) hX dX5_follow_40 (by decide) h ?_ ?_
  · clear h; intro h
    exact r_vret hX dX5_follow_111 h
  · clear h; intro h
    refine r_iload_n hX dX5_follow_43 rfl 1 rfl ?_
    refine r_iload hX dX5_follow_44 3 rfl ?_
    refine r_iload_n hX dX5_follow_46 rfl 2 rfl ?_
    refine r_cSi (As := [.int l2, .int l4, .int l3]) (st := []) hX dX5_follow_47 kl_X5_caseOf w_ml_X5_77 w_st_X5_caseOf (by decide) rfl (Nat.le_of_ble_eq_true rfl) rfl kdz0 h (fun r σ1 h => wX5_caseOf h) ?_
    clear h; intro t1 σ h
    refine r_istore (L2 := [(5, .int t1), (0, kr E l0), (2, .int l2), (3, .int l3), (4, .int l4)]) hX dX5_follow_50 (by decide) rfl ?_
    refine r_aload_n hX dX5_follow_52 rfl 1 rfl ?_
    refine r_gR hX dX5_follow_53 kf_X5_29 rfl h ?_
    clear h; intro t2 h
    refine r_aload_n hX dX5_follow_56 rfl 1 rfl ?_
    refine r_gR hX dX5_follow_57 kf_X5_18 rfl h ?_
    clear h; intro t3 h
    refine r_iload hX dX5_follow_60 0 rfl ?_
    refine r_aI hX dX5_follow_62 h ?_
    clear h; intro t4 h
    refine r_cVv (As := [.int t4]) (st := []) hX dX5_follow_63 kl_X6_add w_ml_X5_118 w_im_X6_add w_se_X6_add ⟨_, _, rfl⟩ (by decide) rfl (Nat.le_of_ble_eq_true rfl) rfl kdz0 h (fun r σ1 h => wX6_add h) ?_
    clear h; intro u σ h
    refine r_aload_n hX dX5_follow_66 rfl 1 rfl ?_
    refine r_gR hX dX5_follow_67 kf_X5_33 rfl h ?_
    clear h; intro t5 h
    refine r_aload_n hX dX5_follow_70 rfl 1 rfl ?_
    refine r_gR hX dX5_follow_71 kf_X5_21 rfl h ?_
    clear h; intro t6 h
    refine r_iload hX dX5_follow_74 0 rfl ?_
    refine r_aI hX dX5_follow_76 h ?_
    clear h; intro t7 h
    refine r_cVv (As := [.int t7]) (st := []) hX dX5_follow_77 kl_X6_add w_ml_X5_118 w_im_X6_add w_se_X6_add ⟨_, _, rfl⟩ (by decide) rfl (Nat.le_of_ble_eq_true rfl) rfl kdz0 h (fun r σ1 h => wX6_add h) ?_
    clear h; intro u σ h
    refine r_iload_n hX dX5_follow_80 rfl 2 rfl ?_
    refine r_aload_n hX dX5_follow_81 rfl 1 rfl ?_
    refine r_gR hX dX5_follow_82 kf_X5_21 rfl h ?_
    clear h; intro t8 h
    refine r_iload hX dX5_follow_85 0 rfl ?_
    refine r_aI hX dX5_follow_87 h ?_
    clear h; intro t9 h
    refine r_iadd hX dX5_follow_88 ?_
    refine r_letI h ?_
    clear h; intro t10 h
    refine r_istore_n (L2 := [(2, .int t10), (5, .int t1), (0, kr E l0), (3, .int l3), (4, .int l4)]) hX dX5_follow_89 rfl (by decide) rfl ?_
    refine r_aload_n hX dX5_follow_90 rfl 2 rfl ?_
    refine r_gR hX dX5_follow_91 kf_X5_36 rfl h ?_
    clear h; intro t11 h
    refine r_aload_n hX dX5_follow_94 rfl 2 rfl ?_
    refine r_gR hX dX5_follow_95 kf_X5_18 rfl h ?_
    clear h; intro t12 h
    refine r_iload hX dX5_follow_98 1 rfl ?_
    refine r_aI hX dX5_follow_100 h ?_
    clear h; intro t13 h
    refine r_cVi (As := [.int t13]) (st := []) hX dX5_follow_101 kl_X10_tongueOf w_ml_X5_58 w_im_X10_tongueOf w_se_X10_tongueOf ⟨_, _, rfl⟩ (by decide) rfl (Nat.le_of_ble_eq_true rfl) rfl kdz0 h (fun r σ1 h => wX10_tongueOf h) ?_
    clear h; intro t14 σ h
    refine r_istore_n (L2 := [(3, .int t14), (2, .int t10), (5, .int t1), (0, kr E l0), (4, .int l4)]) hX dX5_follow_104 rfl (by decide) rfl ?_
    refine r_iincL (L2 := fun t15 => [(4, .int t15), (3, .int t14), (2, .int t10), (5, .int t1), (0, kr E l0)]) hX dX5_follow_105 h 4 rfl (by decide) (fun _ => rfl) ?_
    clear h; intro t15 h
    refine r_goto (tgt := 38) hX dX5_follow_108 (by decide) ?_
    refine r_sub [4, 2, 1, 0] rfl ?_
    exact hk38 _ _ _ _ _ h
def X5_follow_38 (G : kdS) : Nat → Int32 → Int32 → Int32 → kdM → Option (Unit × kdM) := lp (fun _ _ _ _ _ => none) (X5_follow_38B G) NN
theorem wX5_follow_38 {E : kdE} {G : kdS} {A : kdA} {r : Unit} {σ1 : kdM} (hX : kdX E A cX5_follow 6 RX5 none 3) : ∀ (l0 : Nat) (l2 : Int32) (l3 : Int32) (l4 : Int32) (σ : kdM), X5_follow_38 G l0 l2 l3 l4 σ = some (r, σ1) → SW E G (.inl (none, σ1)) A 6 σ 38 [(0, kr E l0), (2, .int l2), (3, .int l3), (4, .int l4)] [] :=
  lp_ind (Q := fun f => ∀ (l0 : Nat) (l2 : Int32) (l3 : Int32) (l4 : Int32) (σ : kdM), f l0 l2 l3 l4 σ = some (r, σ1) → SW E G (.inl (none, σ1)) A 6 σ 38 [(0, kr E l0), (2, .int l2), (3, .int l3), (4, .int l4)] []) (by intros; contradiction) (fun k hk l0 l2 l3 l4 σ h => wX5_follow_38B hX k hk h) NN
def X5_follow (G : kdS) (l0 : Nat) (l1 : Int32) : kdM → Option (Unit × kdM) :=
  gR G 5 6 l0 fun t1 =>
  kcv G 6 t1 (X6_clear G t1) fun t2 =>
  gR G 5 7 l0 fun t3 =>
  kcv G 6 t3 (X6_clear G t3) fun t4 =>
  gR G 5 2 l0 fun t5 =>
  kcl (X5_caseOf G (0 : Int32) l1 (3 : Int32)) fun t6 =>
  aI G t5 (t6) fun t7 =>
  sI G 5 8 l0 (t7) <|
  X5_follow_38 G l0 (0 : Int32) (3 : Int32) l1
set_option maxRecDepth 100000 in
set_option maxHeartbeats 4000000 in
theorem wX5_follow {E : kdE} {G : kdS} {l0 : Nat} {l1 : Int32} {σ : kdM} {r : Unit} {σ1 : kdM} (h : X5_follow G l0 l1 σ = some (r, σ1)) : Con E G yX5_follow cX5_follow 6 none 3 [kr E l0, .int l1] σ (none, σ1) := by
  refine kd_head (own := RX5) rfl (by decide +kernel) (Nat.le_of_ble_eq_true rfl) (fun A hX => ?_)
  show SW E G (.inl (none, σ1)) A 6 σ 0 [(0, kr E l0), (1, .int l1)] []
  unfold X5_follow at h
  refine r_aload_n hX dX5_follow_0 rfl 0 rfl ?_
  refine r_gR hX dX5_follow_1 kf_X5_29 rfl h ?_
  clear h; intro t1 h
  refine r_cVi (As := []) (st := []) hX dX5_follow_4 kl_X6_clear w_ml_X5_115 w_im_X6_clear w_se_X6_clear ⟨_, _, rfl⟩ (by decide) rfl (Nat.le_of_ble_eq_true rfl) rfl kdz0 h (fun r σ1 h => wX6_clear h) ?_
  clear h; intro t2 σ h
  refine r_pop hX dX5_follow_7 rfl ?_
  refine r_aload_n hX dX5_follow_8 rfl 0 rfl ?_
  refine r_gR hX dX5_follow_9 kf_X5_33 rfl h ?_
  clear h; intro t3 h
  refine r_cVi (As := []) (st := []) hX dX5_follow_12 kl_X6_clear w_ml_X5_115 w_im_X6_clear w_se_X6_clear ⟨_, _, rfl⟩ (by decide) rfl (Nat.le_of_ble_eq_true rfl) rfl kdz0 h (fun r σ1 h => wX6_clear h) ?_
  clear h; intro t4 σ h
  refine r_pop hX dX5_follow_15 rfl ?_
  refine r_aload_n hX dX5_follow_16 rfl 0 rfl ?_
  refine r_aload_n hX dX5_follow_17 rfl 0 rfl ?_
  refine r_gR hX dX5_follow_18 kf_X5_11 rfl h ?_
  clear h; intro t5 h
  refine r_iconst hX dX5_follow_21 kk_i_0 ?_
  refine r_iload_n hX dX5_follow_22 rfl 1 rfl ?_
  refine r_iconst hX dX5_follow_23 kk_i_3 ?_
  refine r_cSi (As := [.int (0 : Int32), .int l1, .int (3 : Int32)]) (st := [kr E t5, kr E l0]) hX dX5_follow_24 kl_X5_caseOf w_ml_X5_77 w_st_X5_caseOf (by decide) rfl (Nat.le_of_ble_eq_true rfl) rfl kdz0 h (fun r σ1 h => wX5_caseOf h) ?_
  clear h; intro t6 σ h
  refine r_aI hX dX5_follow_27 h ?_
  clear h; intro t7 h
  refine r_sI hX dX5_follow_28 kf_X5_44 rfl (by intro q hq; cases hq; rfl) h ?_
  clear h; intro σ h
  refine r_iconst hX dX5_follow_31 kk_i_0 ?_
  refine r_istore_n (L2 := [(2, .int (0 : Int32)), (0, kr E l0), (1, .int l1)]) hX dX5_follow_32 rfl (by decide) rfl ?_
  refine r_iconst hX dX5_follow_33 kk_i_3 ?_
  refine r_istore_n (L2 := [(3, .int (3 : Int32)), (2, .int (0 : Int32)), (0, kr E l0), (1, .int l1)]) hX dX5_follow_34 rfl (by decide) rfl ?_
  refine r_iload_n hX dX5_follow_35 rfl 3 rfl ?_
  refine r_istore (L2 := [(4, .int l1), (3, .int (3 : Int32)), (2, .int (0 : Int32)), (0, kr E l0), (1, .int l1)]) hX dX5_follow_36 (by decide) rfl ?_
  refine r_sub [3, 2, 1, 0] rfl ?_
  exact wX5_follow_38 hX _ _ _ _ _ h
def X5_start_32B (G : kdS) (k32 : Nat → Int32 → Int32 → kdM → Option (Unit × kdM)) (l0 : Nat) (l1 : Int32) (l2 : Int32) : kdM → Option (Unit × kdM) :=
  cnd ((3 : Int32) ≤ l2)
    (rt ())
    (gR G 5 2 l0 fun t1 =>
    kcl (X5_caseOf G l1 (0 : Int32) l2) fun t2 =>
    tI G t1 (t2) ((0 : Int32)) <|
    ltI (l2 + Int32.ofInt 1) fun t3 =>
    k32 l0 l1 t3)
set_option maxRecDepth 100000 in
set_option maxHeartbeats 4000000 in
theorem wX5_start_32B {E : kdE} {G : kdS} {A : kdA} {r : Unit} {σ1 : kdM} (hX : kdX E A cX5_start 3 RX5 none 1) (k32 : Nat → Int32 → Int32 → kdM → Option (Unit × kdM)) (hk32 : ∀ (l0 : Nat) (l1 : Int32) (l2 : Int32) (σ : kdM), k32 l0 l1 l2 σ = some (r, σ1) → SW E G (.inl (none, σ1)) A 3 σ 32 [(0, kr E l0), (1, .int l1), (2, .int l2)] []) {σ : kdM} {l0 : Nat} {l1 : Int32} {l2 : Int32} (h : X5_start_32B G k32 l0 l1 l2 σ = some (r, σ1)) : SW E G (.inl (none, σ1)) A 3 σ 32 [(0, kr E l0), (1, .int l1), (2, .int l2)] [] := by
  unfold X5_start_32B at h
  refine r_iload_n hX dX5_start_32 rfl 2 rfl ?_
  refine r_iconst hX dX5_start_33 kk_i_3 ?_
  refine r_icmp_ge (tgt := 55) hX dX5_start_34 (by decide) h ?_ ?_
  · clear h; intro h
    exact r_vret hX dX5_start_55 h
  · clear h; intro h
    refine r_aload_n hX dX5_start_37 rfl 0 rfl ?_
    refine r_gR hX dX5_start_38 kf_X5_11 rfl h ?_
    clear h; intro t1 h
    refine r_iload_n hX dX5_start_41 rfl 1 rfl ?_
    refine r_iconst hX dX5_start_42 kk_i_0 ?_
    refine r_iload_n hX dX5_start_43 rfl 2 rfl ?_
    refine r_cSi (As := [.int l1, .int (0 : Int32), .int l2]) (st := [kr E t1]) hX dX5_start_44 kl_X5_caseOf w_ml_X5_77 w_st_X5_caseOf (by decide) rfl (Nat.le_of_ble_eq_true rfl) rfl kdz0 h (fun r σ1 h => wX5_caseOf h) ?_
    clear h; intro t2 σ h
    refine r_iconst hX dX5_start_47 kk_i_0 ?_
    refine r_tI hX dX5_start_48 h ?_
    clear h; intro σ h
    refine r_iincL (L2 := fun t3 => [(2, .int t3), (0, kr E l0), (1, .int l1)]) hX dX5_start_49 h 2 rfl (by decide) (fun _ => rfl) ?_
    clear h; intro t3 h
    refine r_goto (tgt := 32) hX dX5_start_52 (by decide) ?_
    refine r_sub [1, 2, 0] rfl ?_
    exact hk32 _ _ _ _ h
def X5_start_32 (G : kdS) : Nat → Int32 → Int32 → kdM → Option (Unit × kdM) := lp (fun _ _ _ _ => none) (X5_start_32B G) NN
theorem wX5_start_32 {E : kdE} {G : kdS} {A : kdA} {r : Unit} {σ1 : kdM} (hX : kdX E A cX5_start 3 RX5 none 1) : ∀ (l0 : Nat) (l1 : Int32) (l2 : Int32) (σ : kdM), X5_start_32 G l0 l1 l2 σ = some (r, σ1) → SW E G (.inl (none, σ1)) A 3 σ 32 [(0, kr E l0), (1, .int l1), (2, .int l2)] [] :=
  lp_ind (Q := fun f => ∀ (l0 : Nat) (l1 : Int32) (l2 : Int32) (σ : kdM), f l0 l1 l2 σ = some (r, σ1) → SW E G (.inl (none, σ1)) A 3 σ 32 [(0, kr E l0), (1, .int l1), (2, .int l2)] []) (by intros; contradiction) (fun k hk l0 l1 l2 σ h => wX5_start_32B hX k hk h) NN
def X5_start_2B (G : kdS) (k2 : Nat → Int32 → Int32 → kdM → Option (Unit × kdM)) (l0 : Nat) (l1 : Int32) (l2 : Int32) : kdM → Option (Unit × kdM) :=
  cnd ((340 : Int32) ≤ l2)
    (X5_start_32 G l0 l1 (0 : Int32))
    (gR G 5 2 l0 fun t1 =>
    tI G t1 (l2) ((1000000000 : Int32)) <|
    gR G 5 3 l0 fun t2 =>
    tI G t2 (l2) ((1 : Int32)) <|
    ltI (l2 + Int32.ofInt 1) fun t3 =>
    k2 l0 l1 t3)
set_option maxRecDepth 100000 in
set_option maxHeartbeats 4000000 in
theorem wX5_start_2B {E : kdE} {G : kdS} {A : kdA} {r : Unit} {σ1 : kdM} (hX : kdX E A cX5_start 3 RX5 none 1) (k2 : Nat → Int32 → Int32 → kdM → Option (Unit × kdM)) (hk2 : ∀ (l0 : Nat) (l1 : Int32) (l2 : Int32) (σ : kdM), k2 l0 l1 l2 σ = some (r, σ1) → SW E G (.inl (none, σ1)) A 3 σ 2 [(0, kr E l0), (1, .int l1), (2, .int l2)] []) {σ : kdM} {l0 : Nat} {l1 : Int32} {l2 : Int32} (h : X5_start_2B G k2 l0 l1 l2 σ = some (r, σ1)) : SW E G (.inl (none, σ1)) A 3 σ 2 [(0, kr E l0), (1, .int l1), (2, .int l2)] [] := by
  unfold X5_start_2B at h
  refine r_iload_n hX dX5_start_2 rfl 2 rfl ?_
  refine r_sipush hX dX5_start_3 kk_s_340 ?_
  refine r_icmp_ge (tgt := 30) hX dX5_start_6 (by decide) h ?_ ?_
  · clear h; intro h
    refine r_iconst hX dX5_start_30 kk_i_0 ?_
    refine r_istore_n (L2 := [(2, .int (0 : Int32)), (0, kr E l0), (1, .int l1)]) hX dX5_start_31 rfl (by decide) rfl ?_
    refine r_sub [1, 2, 0] rfl ?_
    exact wX5_start_32 hX _ _ _ _ h
  · clear h; intro h
    refine r_aload_n hX dX5_start_9 rfl 0 rfl ?_
    refine r_gR hX dX5_start_10 kf_X5_11 rfl h ?_
    clear h; intro t1 h
    refine r_iload_n hX dX5_start_13 rfl 2 rfl ?_
    refine r_ldc hX dX5_start_14 w_ct_X5_76 ?_
    refine r_tI hX dX5_start_16 h ?_
    clear h; intro σ h
    refine r_aload_n hX dX5_start_17 rfl 0 rfl ?_
    refine r_gR hX dX5_start_18 kf_X5_15 rfl h ?_
    clear h; intro t2 h
    refine r_iload_n hX dX5_start_21 rfl 2 rfl ?_
    refine r_iconst hX dX5_start_22 kk_i_1 ?_
    refine r_tI hX dX5_start_23 h ?_
    clear h; intro σ h
    refine r_iincL (L2 := fun t3 => [(2, .int t3), (0, kr E l0), (1, .int l1)]) hX dX5_start_24 h 2 rfl (by decide) (fun _ => rfl) ?_
    clear h; intro t3 h
    refine r_goto (tgt := 2) hX dX5_start_27 (by decide) ?_
    refine r_sub [1, 2, 0] rfl ?_
    exact hk2 _ _ _ _ h
def X5_start_2 (G : kdS) : Nat → Int32 → Int32 → kdM → Option (Unit × kdM) := lp (fun _ _ _ _ => none) (X5_start_2B G) NN
theorem wX5_start_2 {E : kdE} {G : kdS} {A : kdA} {r : Unit} {σ1 : kdM} (hX : kdX E A cX5_start 3 RX5 none 1) : ∀ (l0 : Nat) (l1 : Int32) (l2 : Int32) (σ : kdM), X5_start_2 G l0 l1 l2 σ = some (r, σ1) → SW E G (.inl (none, σ1)) A 3 σ 2 [(0, kr E l0), (1, .int l1), (2, .int l2)] [] :=
  lp_ind (Q := fun f => ∀ (l0 : Nat) (l1 : Int32) (l2 : Int32) (σ : kdM), f l0 l1 l2 σ = some (r, σ1) → SW E G (.inl (none, σ1)) A 3 σ 2 [(0, kr E l0), (1, .int l1), (2, .int l2)] []) (by intros; contradiction) (fun k hk l0 l1 l2 σ h => wX5_start_2B hX k hk h) NN
def X5_start (G : kdS) (l0 : Nat) (l1 : Int32) : kdM → Option (Unit × kdM) :=
  X5_start_2 G l0 l1 (0 : Int32)
set_option maxRecDepth 100000 in
set_option maxHeartbeats 4000000 in
theorem wX5_start {E : kdE} {G : kdS} {l0 : Nat} {l1 : Int32} {σ : kdM} {r : Unit} {σ1 : kdM} (h : X5_start G l0 l1 σ = some (r, σ1)) : Con E G yX5_start cX5_start 3 none 1 [kr E l0, .int l1] σ (none, σ1) := by
  refine kd_head (own := RX5) rfl (by decide +kernel) (Nat.le_of_ble_eq_true rfl) (fun A hX => ?_)
  show SW E G (.inl (none, σ1)) A 3 σ 0 [(0, kr E l0), (1, .int l1)] []
  unfold X5_start at h
  refine r_iconst hX dX5_start_0 kk_i_0 ?_
  refine r_istore_n (L2 := [(2, .int (0 : Int32)), (0, kr E l0), (1, .int l1)]) hX dX5_start_1 rfl (by decide) rfl ?_
  refine r_sub [1, 2, 0] rfl ?_
  exact wX5_start_2 hX _ _ _ _ h
def X5_tryPiece_189 (G : kdS) (k70 : Nat → Int32 → Int32 → Int32 → Int32 → Int32 → Int32 → Int32 → Int32 → kdM → Option (Unit × kdM)) (l0 : Nat) (l1 : Int32) (l2 : Int32) (l3 : Int32) (l4 : Int32) (l6 : Int32) (l8 : Int32) (l9 : Int32) (l10 : Int32) : kdM → Option (Unit × kdM) :=
  ltI (l10 + Int32.ofInt 1) fun t1 =>
  k70 l0 l1 l2 l3 l4 l6 l8 l9 t1
set_option maxRecDepth 100000 in
set_option maxHeartbeats 4000000 in
theorem wX5_tryPiece_189 {E : kdE} {G : kdS} {A : kdA} {r : Unit} {σ1 : kdM} (hX : kdX E A cX5_tryPiece 13 RX5 none 2) (k70 : Nat → Int32 → Int32 → Int32 → Int32 → Int32 → Int32 → Int32 → Int32 → kdM → Option (Unit × kdM)) (hk70 : ∀ (l0 : Nat) (l1 : Int32) (l2 : Int32) (l3 : Int32) (l4 : Int32) (l6 : Int32) (l8 : Int32) (l9 : Int32) (l10 : Int32) (σ : kdM), k70 l0 l1 l2 l3 l4 l6 l8 l9 l10 σ = some (r, σ1) → SW E G (.inl (none, σ1)) A 13 σ 70 [(0, kr E l0), (1, .int l1), (2, .int l2), (3, .int l3), (4, .int l4), (6, .int l6), (8, .int l8), (9, .int l9), (10, .int l10)] []) {σ : kdM} {l0 : Nat} {l1 : Int32} {l2 : Int32} {l3 : Int32} {l4 : Int32} {l6 : Int32} {l8 : Int32} {l9 : Int32} {l10 : Int32} (h : X5_tryPiece_189 G k70 l0 l1 l2 l3 l4 l6 l8 l9 l10 σ = some (r, σ1)) : SW E G (.inl (none, σ1)) A 13 σ 189 [(0, kr E l0), (1, .int l1), (2, .int l2), (3, .int l3), (4, .int l4), (6, .int l6), (8, .int l8), (9, .int l9), (10, .int l10)] [] := by
  unfold X5_tryPiece_189 at h
  refine r_iincL (L2 := fun t1 => [(10, .int t1), (0, kr E l0), (1, .int l1), (2, .int l2), (3, .int l3), (4, .int l4), (6, .int l6), (8, .int l8), (9, .int l9)]) hX dX5_tryPiece_189 h 8 rfl (by decide) (fun _ => rfl) ?_
  clear h; intro t1 h
  refine r_goto (tgt := 70) hX dX5_tryPiece_192 (by decide) ?_
  refine r_sub [1, 2, 3, 4, 5, 6, 7, 8, 0] rfl ?_
  exact hk70 _ _ _ _ _ _ _ _ _ _ h
def X5_tryPiece_162 (G : kdS) (k70 : Nat → Int32 → Int32 → Int32 → Int32 → Int32 → Int32 → Int32 → Int32 → kdM → Option (Unit × kdM)) (l0 : Nat) (l1 : Int32) (l2 : Int32) (l3 : Int32) (l4 : Int32) (l6 : Int32) (l8 : Int32) (l9 : Int32) (l10 : Int32) (l12 : Int32) (s0 : Nat) (s1 : Int32) (s2 : Int32) : kdM → Option (Unit × kdM) :=
  tI G s0 (s1) (s2) <|
  gR G 5 3 l0 fun t1 =>
  tI G t1 (l12) (l9) <|
  gR G 5 4 l0 fun t2 =>
  tI G t2 (l12) (l3) <|
  gR G 5 5 l0 fun t3 =>
  tI G t3 (l12) (l4) <|
  X5_tryPiece_189 G k70 l0 l1 l2 l3 l4 l6 l8 l9 l10
set_option maxRecDepth 100000 in
set_option maxHeartbeats 4000000 in
theorem wX5_tryPiece_162 {E : kdE} {G : kdS} {A : kdA} {r : Unit} {σ1 : kdM} (hX : kdX E A cX5_tryPiece 13 RX5 none 2) (k70 : Nat → Int32 → Int32 → Int32 → Int32 → Int32 → Int32 → Int32 → Int32 → kdM → Option (Unit × kdM)) (hk70 : ∀ (l0 : Nat) (l1 : Int32) (l2 : Int32) (l3 : Int32) (l4 : Int32) (l6 : Int32) (l8 : Int32) (l9 : Int32) (l10 : Int32) (σ : kdM), k70 l0 l1 l2 l3 l4 l6 l8 l9 l10 σ = some (r, σ1) → SW E G (.inl (none, σ1)) A 13 σ 70 [(0, kr E l0), (1, .int l1), (2, .int l2), (3, .int l3), (4, .int l4), (6, .int l6), (8, .int l8), (9, .int l9), (10, .int l10)] []) {σ : kdM} {l0 : Nat} {l1 : Int32} {l2 : Int32} {l3 : Int32} {l4 : Int32} {l6 : Int32} {l8 : Int32} {l9 : Int32} {l10 : Int32} {l12 : Int32} {s0 : Nat} {s1 : Int32} {s2 : Int32} (h : X5_tryPiece_162 G k70 l0 l1 l2 l3 l4 l6 l8 l9 l10 l12 s0 s1 s2 σ = some (r, σ1)) : SW E G (.inl (none, σ1)) A 13 σ 162 [(0, kr E l0), (1, .int l1), (2, .int l2), (3, .int l3), (4, .int l4), (6, .int l6), (8, .int l8), (9, .int l9), (10, .int l10), (12, .int l12)] [.int s2, .int s1, kr E s0] := by
  unfold X5_tryPiece_162 at h
  refine r_tI hX dX5_tryPiece_162 h ?_
  clear h; intro σ h
  refine r_aload_n hX dX5_tryPiece_163 rfl 0 rfl ?_
  refine r_gR hX dX5_tryPiece_164 kf_X5_15 rfl h ?_
  clear h; intro t1 h
  refine r_iload hX dX5_tryPiece_167 9 rfl ?_
  refine r_iload hX dX5_tryPiece_169 7 rfl ?_
  refine r_tI hX dX5_tryPiece_171 h ?_
  clear h; intro σ h
  refine r_aload_n hX dX5_tryPiece_172 rfl 0 rfl ?_
  refine r_gR hX dX5_tryPiece_173 kf_X5_18 rfl h ?_
  clear h; intro t2 h
  refine r_iload hX dX5_tryPiece_176 9 rfl ?_
  refine r_iload_n hX dX5_tryPiece_178 rfl 3 rfl ?_
  refine r_tI hX dX5_tryPiece_179 h ?_
  clear h; intro σ h
  refine r_aload_n hX dX5_tryPiece_180 rfl 0 rfl ?_
  refine r_gR hX dX5_tryPiece_181 kf_X5_21 rfl h ?_
  clear h; intro t3 h
  refine r_iload hX dX5_tryPiece_184 9 rfl ?_
  refine r_iload hX dX5_tryPiece_186 4 rfl ?_
  refine r_tI hX dX5_tryPiece_188 h ?_
  clear h; intro σ h
  refine r_sub [0, 1, 2, 3, 4, 5, 6, 7, 8] rfl ?_
  exact wX5_tryPiece_189 hX k70 hk70 h
def X5_tryPiece_126 (G : kdS) (k70 : Nat → Int32 → Int32 → Int32 → Int32 → Int32 → Int32 → Int32 → Int32 → kdM → Option (Unit × kdM)) (l0 : Nat) (l1 : Int32) (l2 : Int32) (l3 : Int32) (l4 : Int32) (l6 : Int32) (l8 : Int32) (l9 : Int32) (l10 : Int32) (l11 : Int32) (l12 : Int32) (s0 : Nat) (s1 : Int32) : kdM → Option (Unit × kdM) :=
  kcv G 5 s0 (X5_isBetter G s0 s1 l9 l12) fun t1 =>
  cnd (t1 = 0)
    (X5_tryPiece_189 G k70 l0 l1 l2 l3 l4 l6 l8 l9 l10)
    (gR G 5 2 l0 fun t2 =>
    cnd (l11 = 0)
      (X5_tryPiece_162 G k70 l0 l1 l2 l3 l4 l6 l8 l9 l10 l12 t2 l12 l8)
      (gR G 5 1 l0 fun t3 =>
      kcv G 7 t3 (X7_switchPrice G t3) fun t4 =>
      X5_tryPiece_162 G k70 l0 l1 l2 l3 l4 l6 l8 l9 l10 l12 t2 l12 (l8 + t4)))
set_option maxRecDepth 100000 in
set_option maxHeartbeats 4000000 in
theorem wX5_tryPiece_126 {E : kdE} {G : kdS} {A : kdA} {r : Unit} {σ1 : kdM} (hX : kdX E A cX5_tryPiece 13 RX5 none 2) (k70 : Nat → Int32 → Int32 → Int32 → Int32 → Int32 → Int32 → Int32 → Int32 → kdM → Option (Unit × kdM)) (hk70 : ∀ (l0 : Nat) (l1 : Int32) (l2 : Int32) (l3 : Int32) (l4 : Int32) (l6 : Int32) (l8 : Int32) (l9 : Int32) (l10 : Int32) (σ : kdM), k70 l0 l1 l2 l3 l4 l6 l8 l9 l10 σ = some (r, σ1) → SW E G (.inl (none, σ1)) A 13 σ 70 [(0, kr E l0), (1, .int l1), (2, .int l2), (3, .int l3), (4, .int l4), (6, .int l6), (8, .int l8), (9, .int l9), (10, .int l10)] []) {σ : kdM} {l0 : Nat} {l1 : Int32} {l2 : Int32} {l3 : Int32} {l4 : Int32} {l6 : Int32} {l8 : Int32} {l9 : Int32} {l10 : Int32} {l11 : Int32} {l12 : Int32} {s0 : Nat} {s1 : Int32} (h : X5_tryPiece_126 G k70 l0 l1 l2 l3 l4 l6 l8 l9 l10 l11 l12 s0 s1 σ = some (r, σ1)) : SW E G (.inl (none, σ1)) A 13 σ 126 [(0, kr E l0), (1, .int l1), (2, .int l2), (3, .int l3), (4, .int l4), (6, .int l6), (8, .int l8), (9, .int l9), (10, .int l10), (11, .int l11), (12, .int l12)] [.int s1, kr E s0] := by
  unfold X5_tryPiece_126 at h
  refine r_iload hX dX5_tryPiece_126 7 rfl ?_
  refine r_iload hX dX5_tryPiece_128 10 rfl ?_
  refine r_cVi (As := [.int s1, .int l9, .int l12]) (st := []) hX dX5_tryPiece_130 kl_X5_isBetter w_ml_X5_111 w_im_X5_isBetter w_se_X5_isBetter ⟨_, _, rfl⟩ (by decide) rfl (Nat.le_of_ble_eq_true rfl) rfl kdz0 h (fun r σ1 h => wX5_isBetter h) ?_
  clear h; intro t1 σ h
  refine r_if_eq (tgt := 189) hX dX5_tryPiece_133 (by decide) h ?_ ?_
  · clear h; intro h
    refine r_sub [0, 1, 2, 3, 4, 5, 6, 7, 8] rfl ?_
    exact wX5_tryPiece_189 hX k70 hk70 h
  · clear h; intro h
    refine r_aload_n hX dX5_tryPiece_136 rfl 0 rfl ?_
    refine r_gR hX dX5_tryPiece_137 kf_X5_11 rfl h ?_
    clear h; intro t2 h
    refine r_iload hX dX5_tryPiece_140 10 rfl ?_
    refine r_iload hX dX5_tryPiece_142 9 rfl ?_
    refine r_if_eq (tgt := 160) hX dX5_tryPiece_144 (by decide) h ?_ ?_
    · clear h; intro h
      refine r_iload hX dX5_tryPiece_160 6 rfl ?_
      refine r_sub [0, 1, 2, 3, 4, 5, 6, 7, 8, 10] rfl ?_
      exact wX5_tryPiece_162 hX k70 hk70 h
    · clear h; intro h
      refine r_iload hX dX5_tryPiece_147 6 rfl ?_
      refine r_aload_n hX dX5_tryPiece_149 rfl 0 rfl ?_
      refine r_gR hX dX5_tryPiece_150 kf_X5_40 rfl h ?_
      clear h; intro t3 h
      refine r_cVi (As := []) (st := [.int l8, .int l12, kr E t2]) hX dX5_tryPiece_153 kl_X7_switchPrice w_ml_X5_108 w_im_X7_switchPrice w_se_X7_switchPrice ⟨_, _, rfl⟩ (by decide) rfl (Nat.le_of_ble_eq_true rfl) rfl kdz0 h (fun r σ1 h => wX7_switchPrice h) ?_
      clear h; intro t4 σ h
      refine r_iadd hX dX5_tryPiece_156 ?_
      refine r_goto (tgt := 162) hX dX5_tryPiece_157 (by decide) ?_
      refine r_sub [0, 1, 2, 3, 4, 5, 6, 7, 8, 10] rfl ?_
      exact wX5_tryPiece_162 hX k70 hk70 h
def X5_tryPiece_94 (G : kdS) (k70 : Nat → Int32 → Int32 → Int32 → Int32 → Int32 → Int32 → Int32 → Int32 → kdM → Option (Unit × kdM)) (l0 : Nat) (l1 : Int32) (l2 : Int32) (l3 : Int32) (l4 : Int32) (l6 : Int32) (l8 : Int32) (l9 : Int32) (l10 : Int32) (s0 : Int32) : kdM → Option (Unit × kdM) :=
  kcl (X5_caseOf G l1 l2 l10) fun t1 =>
  cnd (s0 = 0)
    (X5_tryPiece_126 G k70 l0 l1 l2 l3 l4 l6 l8 l9 l10 s0 t1 l0 l8)
    (gR G 5 1 l0 fun t2 =>
    kcv G 7 t2 (X7_switchPrice G t2) fun t3 =>
    X5_tryPiece_126 G k70 l0 l1 l2 l3 l4 l6 l8 l9 l10 s0 t1 l0 (l8 + t3))
set_option maxRecDepth 100000 in
set_option maxHeartbeats 4000000 in
theorem wX5_tryPiece_94 {E : kdE} {G : kdS} {A : kdA} {r : Unit} {σ1 : kdM} (hX : kdX E A cX5_tryPiece 13 RX5 none 2) (k70 : Nat → Int32 → Int32 → Int32 → Int32 → Int32 → Int32 → Int32 → Int32 → kdM → Option (Unit × kdM)) (hk70 : ∀ (l0 : Nat) (l1 : Int32) (l2 : Int32) (l3 : Int32) (l4 : Int32) (l6 : Int32) (l8 : Int32) (l9 : Int32) (l10 : Int32) (σ : kdM), k70 l0 l1 l2 l3 l4 l6 l8 l9 l10 σ = some (r, σ1) → SW E G (.inl (none, σ1)) A 13 σ 70 [(0, kr E l0), (1, .int l1), (2, .int l2), (3, .int l3), (4, .int l4), (6, .int l6), (8, .int l8), (9, .int l9), (10, .int l10)] []) {σ : kdM} {l0 : Nat} {l1 : Int32} {l2 : Int32} {l3 : Int32} {l4 : Int32} {l6 : Int32} {l8 : Int32} {l9 : Int32} {l10 : Int32} {s0 : Int32} (h : X5_tryPiece_94 G k70 l0 l1 l2 l3 l4 l6 l8 l9 l10 s0 σ = some (r, σ1)) : SW E G (.inl (none, σ1)) A 13 σ 94 [(0, kr E l0), (1, .int l1), (2, .int l2), (3, .int l3), (4, .int l4), (6, .int l6), (8, .int l8), (9, .int l9), (10, .int l10)] [.int s0] := by
  unfold X5_tryPiece_94 at h
  refine r_istore (L2 := [(11, .int s0), (0, kr E l0), (1, .int l1), (2, .int l2), (3, .int l3), (4, .int l4), (6, .int l6), (8, .int l8), (9, .int l9), (10, .int l10)]) hX dX5_tryPiece_94 (by decide) rfl ?_
  refine r_iload_n hX dX5_tryPiece_96 rfl 2 rfl ?_
  refine r_iload_n hX dX5_tryPiece_97 rfl 3 rfl ?_
  refine r_iload hX dX5_tryPiece_98 9 rfl ?_
  refine r_cSi (As := [.int l1, .int l2, .int l10]) (st := []) hX dX5_tryPiece_100 kl_X5_caseOf w_ml_X5_77 w_st_X5_caseOf (by decide) rfl (Nat.le_of_ble_eq_true rfl) rfl kdz0 h (fun r σ1 h => wX5_caseOf h) ?_
  clear h; intro t1 σ h
  refine r_istore (L2 := [(12, .int t1), (11, .int s0), (0, kr E l0), (1, .int l1), (2, .int l2), (3, .int l3), (4, .int l4), (6, .int l6), (8, .int l8), (9, .int l9), (10, .int l10)]) hX dX5_tryPiece_103 (by decide) rfl ?_
  refine r_aload_n hX dX5_tryPiece_105 rfl 2 rfl ?_
  refine r_iload hX dX5_tryPiece_106 1 rfl ?_
  refine r_if_eq (tgt := 124) hX dX5_tryPiece_108 (by decide) h ?_ ?_
  · clear h; intro h
    refine r_iload hX dX5_tryPiece_124 8 rfl ?_
    refine r_sub [2, 3, 4, 5, 6, 7, 8, 9, 10, 1, 0] rfl ?_
    exact wX5_tryPiece_126 hX k70 hk70 h
  · clear h; intro h
    refine r_iload hX dX5_tryPiece_111 8 rfl ?_
    refine r_aload_n hX dX5_tryPiece_113 rfl 2 rfl ?_
    refine r_gR hX dX5_tryPiece_114 kf_X5_40 rfl h ?_
    clear h; intro t2 h
    refine r_cVi (As := []) (st := [.int l8, kr E l0]) hX dX5_tryPiece_117 kl_X7_switchPrice w_ml_X5_108 w_im_X7_switchPrice w_se_X7_switchPrice ⟨_, _, rfl⟩ (by decide) rfl (Nat.le_of_ble_eq_true rfl) rfl kdz0 h (fun r σ1 h => wX7_switchPrice h) ?_
    clear h; intro t3 σ h
    refine r_iadd hX dX5_tryPiece_120 ?_
    refine r_goto (tgt := 126) hX dX5_tryPiece_121 (by decide) ?_
    refine r_sub [2, 3, 4, 5, 6, 7, 8, 9, 10, 1, 0] rfl ?_
    exact wX5_tryPiece_126 hX k70 hk70 h
def X5_tryPiece_93 (G : kdS) (k70 : Nat → Int32 → Int32 → Int32 → Int32 → Int32 → Int32 → Int32 → Int32 → kdM → Option (Unit × kdM)) (l0 : Nat) (l1 : Int32) (l2 : Int32) (l3 : Int32) (l4 : Int32) (l6 : Int32) (l8 : Int32) (l9 : Int32) (l10 : Int32) : kdM → Option (Unit × kdM) :=
  X5_tryPiece_94 G k70 l0 l1 l2 l3 l4 l6 l8 l9 l10 (0 : Int32)
set_option maxRecDepth 100000 in
set_option maxHeartbeats 4000000 in
theorem wX5_tryPiece_93 {E : kdE} {G : kdS} {A : kdA} {r : Unit} {σ1 : kdM} (hX : kdX E A cX5_tryPiece 13 RX5 none 2) (k70 : Nat → Int32 → Int32 → Int32 → Int32 → Int32 → Int32 → Int32 → Int32 → kdM → Option (Unit × kdM)) (hk70 : ∀ (l0 : Nat) (l1 : Int32) (l2 : Int32) (l3 : Int32) (l4 : Int32) (l6 : Int32) (l8 : Int32) (l9 : Int32) (l10 : Int32) (σ : kdM), k70 l0 l1 l2 l3 l4 l6 l8 l9 l10 σ = some (r, σ1) → SW E G (.inl (none, σ1)) A 13 σ 70 [(0, kr E l0), (1, .int l1), (2, .int l2), (3, .int l3), (4, .int l4), (6, .int l6), (8, .int l8), (9, .int l9), (10, .int l10)] []) {σ : kdM} {l0 : Nat} {l1 : Int32} {l2 : Int32} {l3 : Int32} {l4 : Int32} {l6 : Int32} {l8 : Int32} {l9 : Int32} {l10 : Int32} (h : X5_tryPiece_93 G k70 l0 l1 l2 l3 l4 l6 l8 l9 l10 σ = some (r, σ1)) : SW E G (.inl (none, σ1)) A 13 σ 93 [(0, kr E l0), (1, .int l1), (2, .int l2), (3, .int l3), (4, .int l4), (6, .int l6), (8, .int l8), (9, .int l9), (10, .int l10)] [] := by
  unfold X5_tryPiece_93 at h
  refine r_iconst hX dX5_tryPiece_93 kk_i_0 ?_
  refine r_sub [0, 1, 2, 3, 4, 5, 6, 7, 8] rfl ?_
  exact wX5_tryPiece_94 hX k70 hk70 h
def X5_tryPiece_70B (G : kdS) (k70 : Nat → Int32 → Int32 → Int32 → Int32 → Int32 → Int32 → Int32 → Int32 → kdM → Option (Unit × kdM)) (l0 : Nat) (l1 : Int32) (l2 : Int32) (l3 : Int32) (l4 : Int32) (l6 : Int32) (l8 : Int32) (l9 : Int32) (l10 : Int32) : kdM → Option (Unit × kdM) :=
  cnd ((3 : Int32) < l10)
    (rt ())
    (cnd (l10 = l6)
      (X5_tryPiece_93 G k70 l0 l1 l2 l3 l4 l6 l8 l9 l10)
      (cnd (l10 = (3 : Int32))
        (X5_tryPiece_93 G k70 l0 l1 l2 l3 l4 l6 l8 l9 l10)
        (X5_tryPiece_94 G k70 l0 l1 l2 l3 l4 l6 l8 l9 l10 (1 : Int32))))
set_option maxRecDepth 100000 in
set_option maxHeartbeats 4000000 in
theorem wX5_tryPiece_70B {E : kdE} {G : kdS} {A : kdA} {r : Unit} {σ1 : kdM} (hX : kdX E A cX5_tryPiece 13 RX5 none 2) (k70 : Nat → Int32 → Int32 → Int32 → Int32 → Int32 → Int32 → Int32 → Int32 → kdM → Option (Unit × kdM)) (hk70 : ∀ (l0 : Nat) (l1 : Int32) (l2 : Int32) (l3 : Int32) (l4 : Int32) (l6 : Int32) (l8 : Int32) (l9 : Int32) (l10 : Int32) (σ : kdM), k70 l0 l1 l2 l3 l4 l6 l8 l9 l10 σ = some (r, σ1) → SW E G (.inl (none, σ1)) A 13 σ 70 [(0, kr E l0), (1, .int l1), (2, .int l2), (3, .int l3), (4, .int l4), (6, .int l6), (8, .int l8), (9, .int l9), (10, .int l10)] []) {σ : kdM} {l0 : Nat} {l1 : Int32} {l2 : Int32} {l3 : Int32} {l4 : Int32} {l6 : Int32} {l8 : Int32} {l9 : Int32} {l10 : Int32} (h : X5_tryPiece_70B G k70 l0 l1 l2 l3 l4 l6 l8 l9 l10 σ = some (r, σ1)) : SW E G (.inl (none, σ1)) A 13 σ 70 [(0, kr E l0), (1, .int l1), (2, .int l2), (3, .int l3), (4, .int l4), (6, .int l6), (8, .int l8), (9, .int l9), (10, .int l10)] [] := by
  unfold X5_tryPiece_70B at h
  refine r_iload hX dX5_tryPiece_70 8 rfl ?_
  refine r_iconst hX dX5_tryPiece_72 kk_i_3 ?_
  refine r_icmp_gt (tgt := 195) hX dX5_tryPiece_73 (by decide) h ?_ ?_
  · clear h; intro h
    exact r_vret hX dX5_tryPiece_195 h
  · clear h; intro h
    refine r_iload hX dX5_tryPiece_76 8 rfl ?_
    refine r_iload hX dX5_tryPiece_78 5 rfl ?_
    refine r_icmp_eq (tgt := 93) hX dX5_tryPiece_80 (by decide) h ?_ ?_
    · clear h; intro h
      refine r_sub [0, 1, 2, 3, 4, 5, 6, 7, 8] rfl ?_
      exact wX5_tryPiece_93 hX k70 hk70 h
    · clear h; intro h
      refine r_iload hX dX5_tryPiece_83 8 rfl ?_
      refine r_iconst hX dX5_tryPiece_85 kk_i_3 ?_
      refine r_icmp_eq (tgt := 93) hX dX5_tryPiece_86 (by decide) h ?_ ?_
      · clear h; intro h
        refine r_sub [0, 1, 2, 3, 4, 5, 6, 7, 8] rfl ?_
        exact wX5_tryPiece_93 hX k70 hk70 h
      · clear h; intro h
        refine r_iconst hX dX5_tryPiece_89 kk_i_1 ?_
        refine r_goto (tgt := 94) hX dX5_tryPiece_90 (by decide) ?_
        refine r_sub [0, 1, 2, 3, 4, 5, 6, 7, 8] rfl ?_
        exact wX5_tryPiece_94 hX k70 hk70 h
def X5_tryPiece_70 (G : kdS) : Nat → Int32 → Int32 → Int32 → Int32 → Int32 → Int32 → Int32 → Int32 → kdM → Option (Unit × kdM) := lp (fun _ _ _ _ _ _ _ _ _ _ => none) (X5_tryPiece_70B G) NN
theorem wX5_tryPiece_70 {E : kdE} {G : kdS} {A : kdA} {r : Unit} {σ1 : kdM} (hX : kdX E A cX5_tryPiece 13 RX5 none 2) : ∀ (l0 : Nat) (l1 : Int32) (l2 : Int32) (l3 : Int32) (l4 : Int32) (l6 : Int32) (l8 : Int32) (l9 : Int32) (l10 : Int32) (σ : kdM), X5_tryPiece_70 G l0 l1 l2 l3 l4 l6 l8 l9 l10 σ = some (r, σ1) → SW E G (.inl (none, σ1)) A 13 σ 70 [(0, kr E l0), (1, .int l1), (2, .int l2), (3, .int l3), (4, .int l4), (6, .int l6), (8, .int l8), (9, .int l9), (10, .int l10)] [] :=
  lp_ind (Q := fun f => ∀ (l0 : Nat) (l1 : Int32) (l2 : Int32) (l3 : Int32) (l4 : Int32) (l6 : Int32) (l8 : Int32) (l9 : Int32) (l10 : Int32) (σ : kdM), f l0 l1 l2 l3 l4 l6 l8 l9 l10 σ = some (r, σ1) → SW E G (.inl (none, σ1)) A 13 σ 70 [(0, kr E l0), (1, .int l1), (2, .int l2), (3, .int l3), (4, .int l4), (6, .int l6), (8, .int l8), (9, .int l9), (10, .int l10)] []) (by intros; contradiction) (fun k hk l0 l1 l2 l3 l4 l6 l8 l9 l10 σ h => wX5_tryPiece_70B hX k hk h) NN
def X5_tryPiece (G : kdS) (l0 : Nat) (l1 : Int32) (l2 : Int32) (l3 : Int32) (l4 : Int32) (l5 : Int32) : kdM → Option (Unit × kdM) :=
  gR G 5 0 l0 fun t1 =>
  kcv G 10 t1 (X10_tongueOf G t1 l3) fun t2 =>
  kcl (X5_caseOf G (l1 + l4) (l2 - (1 : Int32)) t2) fun t3 =>
  gR G 5 2 l0 fun t4 =>
  aI G t4 (t3) fun t5 =>
  cnd (t5 = (1000000000 : Int32))
    (rt ())
    (gR G 5 2 l0 fun t6 =>
    aI G t6 (t3) fun t7 =>
    ltI ((l5 + t7)) fun t8 =>
    gR G 5 0 l0 fun t9 =>
    kcv G 10 t9 (X10_countOf G t9 l3) fun t10 =>
    gR G 5 3 l0 fun t11 =>
    aI G t11 (t3) fun t12 =>
    ltI ((t10 * t12)) fun t13 =>
    X5_tryPiece_70 G l0 l1 l2 l3 l4 t2 t8 t13 (0 : Int32))
set_option maxRecDepth 100000 in
set_option maxHeartbeats 4000000 in
theorem wX5_tryPiece {E : kdE} {G : kdS} {l0 : Nat} {l1 : Int32} {l2 : Int32} {l3 : Int32} {l4 : Int32} {l5 : Int32} {σ : kdM} {r : Unit} {σ1 : kdM} (h : X5_tryPiece G l0 l1 l2 l3 l4 l5 σ = some (r, σ1)) : Con E G yX5_tryPiece cX5_tryPiece 13 none 2 [kr E l0, .int l1, .int l2, .int l3, .int l4, .int l5] σ (none, σ1) := by
  refine kd_head (own := RX5) rfl (by decide +kernel) (Nat.le_of_ble_eq_true rfl) (fun A hX => ?_)
  show SW E G (.inl (none, σ1)) A 13 σ 0 [(0, kr E l0), (1, .int l1), (2, .int l2), (3, .int l3), (4, .int l4), (5, .int l5)] []
  unfold X5_tryPiece at h
  refine r_aload_n hX dX5_tryPiece_0 rfl 0 rfl ?_
  refine r_gR hX dX5_tryPiece_1 kf_X5_36 rfl h ?_
  clear h; intro t1 h
  refine r_iload_n hX dX5_tryPiece_4 rfl 3 rfl ?_
  refine r_cVi (As := [.int l3]) (st := []) hX dX5_tryPiece_5 kl_X10_tongueOf w_ml_X5_58 w_im_X10_tongueOf w_se_X10_tongueOf ⟨_, _, rfl⟩ (by decide) rfl (Nat.le_of_ble_eq_true rfl) rfl kdz0 h (fun r σ1 h => wX10_tongueOf h) ?_
  clear h; intro t2 σ h
  refine r_istore (L2 := [(6, .int t2), (0, kr E l0), (1, .int l1), (2, .int l2), (3, .int l3), (4, .int l4), (5, .int l5)]) hX dX5_tryPiece_8 (by decide) rfl ?_
  refine r_iload_n hX dX5_tryPiece_10 rfl 2 rfl ?_
  refine r_iload hX dX5_tryPiece_11 5 rfl ?_
  refine r_iadd hX dX5_tryPiece_13 ?_
  refine r_iload_n hX dX5_tryPiece_14 rfl 3 rfl ?_
  refine r_iconst hX dX5_tryPiece_15 kk_i_1 ?_
  refine r_isub hX dX5_tryPiece_16 ?_
  refine r_iload hX dX5_tryPiece_17 0 rfl ?_
  refine r_cSi (As := [.int (l1 + l4), .int (l2 - (1 : Int32)), .int t2]) (st := []) hX dX5_tryPiece_19 kl_X5_caseOf w_ml_X5_77 w_st_X5_caseOf (by decide) rfl (Nat.le_of_ble_eq_true rfl) rfl kdz0 h (fun r σ1 h => wX5_caseOf h) ?_
  clear h; intro t3 σ h
  refine r_istore (L2 := [(7, .int t3), (6, .int t2), (0, kr E l0), (1, .int l1), (2, .int l2), (3, .int l3), (4, .int l4), (5, .int l5)]) hX dX5_tryPiece_22 (by decide) rfl ?_
  refine r_aload_n hX dX5_tryPiece_24 rfl 2 rfl ?_
  refine r_gR hX dX5_tryPiece_25 kf_X5_11 rfl h ?_
  clear h; intro t4 h
  refine r_iload hX dX5_tryPiece_28 0 rfl ?_
  refine r_aI hX dX5_tryPiece_30 h ?_
  clear h; intro t5 h
  refine r_ldc hX dX5_tryPiece_31 w_ct_X5_76 ?_
  refine r_icmp_ne (tgt := 37) hX dX5_tryPiece_33 (by decide) h ?_ ?_
  · clear h; intro h
    exact r_vret hX dX5_tryPiece_36 h
  · clear h; intro h
    refine r_iload hX dX5_tryPiece_37 7 rfl ?_
    refine r_aload_n hX dX5_tryPiece_39 rfl 2 rfl ?_
    refine r_gR hX dX5_tryPiece_40 kf_X5_11 rfl h ?_
    clear h; intro t6 h
    refine r_iload hX dX5_tryPiece_43 0 rfl ?_
    refine r_aI hX dX5_tryPiece_45 h ?_
    clear h; intro t7 h
    refine r_iadd hX dX5_tryPiece_46 ?_
    refine r_letI h ?_
    clear h; intro t8 h
    refine r_istore (L2 := [(8, .int t8), (7, .int t3), (6, .int t2), (0, kr E l0), (1, .int l1), (2, .int l2), (3, .int l3), (4, .int l4), (5, .int l5)]) hX dX5_tryPiece_47 (by decide) rfl ?_
    refine r_aload_n hX dX5_tryPiece_49 rfl 3 rfl ?_
    refine r_gR hX dX5_tryPiece_50 kf_X5_36 rfl h ?_
    clear h; intro t9 h
    refine r_iload_n hX dX5_tryPiece_53 rfl 6 rfl ?_
    refine r_cVi (As := [.int l3]) (st := []) hX dX5_tryPiece_54 kl_X10_countOf w_ml_X5_105 w_im_X10_countOf w_se_X10_countOf ⟨_, _, rfl⟩ (by decide) rfl (Nat.le_of_ble_eq_true rfl) rfl kdz0 h (fun r σ1 h => wX10_countOf h) ?_
    clear h; intro t10 σ h
    refine r_aload_n hX dX5_tryPiece_57 rfl 3 rfl ?_
    refine r_gR hX dX5_tryPiece_58 kf_X5_15 rfl h ?_
    clear h; intro t11 h
    refine r_iload hX dX5_tryPiece_61 1 rfl ?_
    refine r_aI hX dX5_tryPiece_63 h ?_
    clear h; intro t12 h
    refine r_imul hX dX5_tryPiece_64 ?_
    refine r_letI h ?_
    clear h; intro t13 h
    refine r_istore (L2 := [(9, .int t13), (8, .int t8), (7, .int t3), (6, .int t2), (0, kr E l0), (1, .int l1), (2, .int l2), (3, .int l3), (4, .int l4), (5, .int l5)]) hX dX5_tryPiece_65 (by decide) rfl ?_
    refine r_iconst hX dX5_tryPiece_67 kk_i_0 ?_
    refine r_istore (L2 := [(10, .int (0 : Int32)), (9, .int t13), (8, .int t8), (7, .int t3), (6, .int t2), (0, kr E l0), (1, .int l1), (2, .int l2), (3, .int l3), (4, .int l4), (5, .int l5)]) hX dX5_tryPiece_68 (by decide) rfl ?_
    refine r_sub [5, 6, 7, 8, 9, 4, 2, 1, 0] rfl ?_
    exact wX5_tryPiece_70 hX _ _ _ _ _ _ _ _ _ _ h
def X5_tryWord_64B (G : kdS) (k35 : Nat → Int32 → Int32 → Int32 → Int32 → kdM → Option (Unit × kdM)) (k64 : Nat → Int32 → Int32 → Int32 → Int32 → Int32 → Int32 → kdM → Option (Unit × kdM)) (l0 : Nat) (l2 : Int32) (l3 : Int32) (l4 : Int32) (l5 : Int32) (l6 : Int32) (l7 : Int32) : kdM → Option (Unit × kdM) :=
  cnd ((4 : Int32) < l7)
    (ltI (l5 + Int32.ofInt 1) fun t1 =>
    k35 l0 l2 l3 l4 t1)
    (kcv G 5 l0 (X5_tryPiece G l0 l2 l7 l3 l5 l6) fun _ =>
    ltI (l7 + Int32.ofInt 1) fun t2 =>
    k64 l0 l2 l3 l4 l5 l6 t2)
set_option maxRecDepth 100000 in
set_option maxHeartbeats 4000000 in
theorem wX5_tryWord_64B {E : kdE} {G : kdS} {A : kdA} {r : Unit} {σ1 : kdM} (hX : kdX E A cX5_tryWord 8 RX5 none 4) (k35 : Nat → Int32 → Int32 → Int32 → Int32 → kdM → Option (Unit × kdM)) (k64 : Nat → Int32 → Int32 → Int32 → Int32 → Int32 → Int32 → kdM → Option (Unit × kdM)) (hk35 : ∀ (l0 : Nat) (l2 : Int32) (l3 : Int32) (l4 : Int32) (l5 : Int32) (σ : kdM), k35 l0 l2 l3 l4 l5 σ = some (r, σ1) → SW E G (.inl (none, σ1)) A 8 σ 35 [(0, kr E l0), (2, .int l2), (3, .int l3), (4, .int l4), (5, .int l5)] []) (hk64 : ∀ (l0 : Nat) (l2 : Int32) (l3 : Int32) (l4 : Int32) (l5 : Int32) (l6 : Int32) (l7 : Int32) (σ : kdM), k64 l0 l2 l3 l4 l5 l6 l7 σ = some (r, σ1) → SW E G (.inl (none, σ1)) A 8 σ 64 [(0, kr E l0), (2, .int l2), (3, .int l3), (4, .int l4), (5, .int l5), (6, .int l6), (7, .int l7)] []) {σ : kdM} {l0 : Nat} {l2 : Int32} {l3 : Int32} {l4 : Int32} {l5 : Int32} {l6 : Int32} {l7 : Int32} (h : X5_tryWord_64B G k35 k64 l0 l2 l3 l4 l5 l6 l7 σ = some (r, σ1)) : SW E G (.inl (none, σ1)) A 8 σ 64 [(0, kr E l0), (2, .int l2), (3, .int l3), (4, .int l4), (5, .int l5), (6, .int l6), (7, .int l7)] [] := by
  unfold X5_tryWord_64B at h
  refine r_iload hX dX5_tryWord_64 6 rfl ?_
  refine r_iconst hX dX5_tryWord_66 kk_i_4 ?_
  refine r_icmp_gt (tgt := 88) hX dX5_tryWord_67 (by decide) h ?_ ?_
  · clear h; intro h
    refine r_iincL (L2 := fun t1 => [(5, .int t1), (0, kr E l0), (2, .int l2), (3, .int l3), (4, .int l4), (6, .int l6), (7, .int l7)]) hX dX5_tryWord_88 h 4 rfl (by decide) (fun _ => rfl) ?_
    clear h; intro t1 h
    refine r_goto (tgt := 35) hX dX5_tryWord_91 (by decide) ?_
    refine r_sub [1, 2, 3, 4, 0] rfl ?_
    exact hk35 _ _ _ _ _ _ h
  · clear h; intro h
    refine r_aload_n hX dX5_tryWord_70 rfl 0 rfl ?_
    refine r_iload_n hX dX5_tryWord_71 rfl 1 rfl ?_
    refine r_iload hX dX5_tryWord_72 6 rfl ?_
    refine r_iload_n hX dX5_tryWord_74 rfl 2 rfl ?_
    refine r_iload hX dX5_tryWord_75 4 rfl ?_
    refine r_iload hX dX5_tryWord_77 5 rfl ?_
    refine r_cVv (As := [.int l2, .int l7, .int l3, .int l5, .int l6]) (st := []) hX dX5_tryWord_79 kl_X5_tryPiece w_ml_X5_101 w_im_X5_tryPiece w_se_X5_tryPiece ⟨_, _, rfl⟩ (by decide) rfl (Nat.le_of_ble_eq_true rfl) rfl kdz0 h (fun r σ1 h => wX5_tryPiece h) ?_
    clear h; intro u σ h
    refine r_iincL (L2 := fun t2 => [(7, .int t2), (0, kr E l0), (2, .int l2), (3, .int l3), (4, .int l4), (5, .int l5), (6, .int l6)]) hX dX5_tryWord_82 h 6 rfl (by decide) (fun _ => rfl) ?_
    clear h; intro t2 h
    refine r_goto (tgt := 64) hX dX5_tryWord_85 (by decide) ?_
    refine r_sub [1, 2, 3, 4, 5, 6, 0] rfl ?_
    exact hk64 _ _ _ _ _ _ _ _ h
def X5_tryWord_64 (G : kdS) (k35 : Nat → Int32 → Int32 → Int32 → Int32 → kdM → Option (Unit × kdM)) : Nat → Int32 → Int32 → Int32 → Int32 → Int32 → Int32 → kdM → Option (Unit × kdM) := lp (fun _ _ _ _ _ _ _ _ => none) (X5_tryWord_64B G k35) NN
theorem wX5_tryWord_64 {E : kdE} {G : kdS} {A : kdA} {r : Unit} {σ1 : kdM} (hX : kdX E A cX5_tryWord 8 RX5 none 4) (k35 : Nat → Int32 → Int32 → Int32 → Int32 → kdM → Option (Unit × kdM)) (hk35 : ∀ (l0 : Nat) (l2 : Int32) (l3 : Int32) (l4 : Int32) (l5 : Int32) (σ : kdM), k35 l0 l2 l3 l4 l5 σ = some (r, σ1) → SW E G (.inl (none, σ1)) A 8 σ 35 [(0, kr E l0), (2, .int l2), (3, .int l3), (4, .int l4), (5, .int l5)] []) : ∀ (l0 : Nat) (l2 : Int32) (l3 : Int32) (l4 : Int32) (l5 : Int32) (l6 : Int32) (l7 : Int32) (σ : kdM), X5_tryWord_64 G k35 l0 l2 l3 l4 l5 l6 l7 σ = some (r, σ1) → SW E G (.inl (none, σ1)) A 8 σ 64 [(0, kr E l0), (2, .int l2), (3, .int l3), (4, .int l4), (5, .int l5), (6, .int l6), (7, .int l7)] [] :=
  lp_ind (Q := fun f => ∀ (l0 : Nat) (l2 : Int32) (l3 : Int32) (l4 : Int32) (l5 : Int32) (l6 : Int32) (l7 : Int32) (σ : kdM), f l0 l2 l3 l4 l5 l6 l7 σ = some (r, σ1) → SW E G (.inl (none, σ1)) A 8 σ 64 [(0, kr E l0), (2, .int l2), (3, .int l3), (4, .int l4), (5, .int l5), (6, .int l6), (7, .int l7)] []) (by intros; contradiction) (fun k hk l0 l2 l3 l4 l5 l6 l7 σ h => wX5_tryWord_64B hX k35 k hk35 hk h) NN
def X5_tryWord_35B (G : kdS) (k35 : Nat → Int32 → Int32 → Int32 → Int32 → kdM → Option (Unit × kdM)) (l0 : Nat) (l2 : Int32) (l3 : Int32) (l4 : Int32) (l5 : Int32) : kdM → Option (Unit × kdM) :=
  cnd (l4 < l5)
    (rt ())
    (gR G 5 1 l0 fun t1 =>
    gR G 5 0 l0 fun t2 =>
    kcv G 10 t2 (X10_keysOf G t2 l3) fun t3 =>
    kcv G 7 t1 (X7_leastFor G t1 l5 t3) fun t4 =>
    X5_tryWord_64 G k35 l0 l2 l3 l4 l5 t4 (1 : Int32))
set_option maxRecDepth 100000 in
set_option maxHeartbeats 4000000 in
theorem wX5_tryWord_35B {E : kdE} {G : kdS} {A : kdA} {r : Unit} {σ1 : kdM} (hX : kdX E A cX5_tryWord 8 RX5 none 4) (k35 : Nat → Int32 → Int32 → Int32 → Int32 → kdM → Option (Unit × kdM)) (hk35 : ∀ (l0 : Nat) (l2 : Int32) (l3 : Int32) (l4 : Int32) (l5 : Int32) (σ : kdM), k35 l0 l2 l3 l4 l5 σ = some (r, σ1) → SW E G (.inl (none, σ1)) A 8 σ 35 [(0, kr E l0), (2, .int l2), (3, .int l3), (4, .int l4), (5, .int l5)] []) {σ : kdM} {l0 : Nat} {l2 : Int32} {l3 : Int32} {l4 : Int32} {l5 : Int32} (h : X5_tryWord_35B G k35 l0 l2 l3 l4 l5 σ = some (r, σ1)) : SW E G (.inl (none, σ1)) A 8 σ 35 [(0, kr E l0), (2, .int l2), (3, .int l3), (4, .int l4), (5, .int l5)] [] := by
  unfold X5_tryWord_35B at h
  refine r_iload hX dX5_tryWord_35 4 rfl ?_
  refine r_iload hX dX5_tryWord_37 3 rfl ?_
  refine r_icmp_gt (tgt := 94) hX dX5_tryWord_39 (by decide) h ?_ ?_
  · clear h; intro h
    exact r_vret hX dX5_tryWord_94 h
  · clear h; intro h
    refine r_aload_n hX dX5_tryWord_42 rfl 0 rfl ?_
    refine r_gR hX dX5_tryWord_43 kf_X5_40 rfl h ?_
    clear h; intro t1 h
    refine r_iload hX dX5_tryWord_46 4 rfl ?_
    refine r_aload_n hX dX5_tryWord_48 rfl 0 rfl ?_
    refine r_gR hX dX5_tryWord_49 kf_X5_36 rfl h ?_
    clear h; intro t2 h
    refine r_iload_n hX dX5_tryWord_52 rfl 2 rfl ?_
    refine r_cVa (As := [.int l3]) (st := [.int l5, kr E t1]) hX dX5_tryWord_53 kl_X10_keysOf w_ml_X5_87 w_im_X10_keysOf w_se_X10_keysOf ⟨_, _, rfl⟩ (by decide) rfl (Nat.le_of_ble_eq_true rfl) rfl kdz0 h (fun r σ1 h => wX10_keysOf h) ?_
    clear h; intro t3 σ h
    refine r_cVi (As := [.int l5, kr E t3]) (st := []) hX dX5_tryWord_56 kl_X7_leastFor w_ml_X5_97 w_im_X7_leastFor w_se_X7_leastFor ⟨_, _, rfl⟩ (by decide) rfl (Nat.le_of_ble_eq_true rfl) rfl kdz0 h (fun r σ1 h => wX7_leastFor h) ?_
    clear h; intro t4 σ h
    refine r_istore (L2 := [(6, .int t4), (0, kr E l0), (2, .int l2), (3, .int l3), (4, .int l4), (5, .int l5)]) hX dX5_tryWord_59 (by decide) rfl ?_
    refine r_iconst hX dX5_tryWord_61 kk_i_1 ?_
    refine r_istore (L2 := [(7, .int (1 : Int32)), (6, .int t4), (0, kr E l0), (2, .int l2), (3, .int l3), (4, .int l4), (5, .int l5)]) hX dX5_tryWord_62 (by decide) rfl ?_
    refine r_sub [2, 3, 4, 5, 6, 1, 0] rfl ?_
    exact wX5_tryWord_64 hX k35 hk35 _ _ _ _ _ _ _ _ h
def X5_tryWord_35 (G : kdS) : Nat → Int32 → Int32 → Int32 → Int32 → kdM → Option (Unit × kdM) := lp (fun _ _ _ _ _ _ => none) (X5_tryWord_35B G) NN
theorem wX5_tryWord_35 {E : kdE} {G : kdS} {A : kdA} {r : Unit} {σ1 : kdM} (hX : kdX E A cX5_tryWord 8 RX5 none 4) : ∀ (l0 : Nat) (l2 : Int32) (l3 : Int32) (l4 : Int32) (l5 : Int32) (σ : kdM), X5_tryWord_35 G l0 l2 l3 l4 l5 σ = some (r, σ1) → SW E G (.inl (none, σ1)) A 8 σ 35 [(0, kr E l0), (2, .int l2), (3, .int l3), (4, .int l4), (5, .int l5)] [] :=
  lp_ind (Q := fun f => ∀ (l0 : Nat) (l2 : Int32) (l3 : Int32) (l4 : Int32) (l5 : Int32) (σ : kdM), f l0 l2 l3 l4 l5 σ = some (r, σ1) → SW E G (.inl (none, σ1)) A 8 σ 35 [(0, kr E l0), (2, .int l2), (3, .int l3), (4, .int l4), (5, .int l5)] []) (by intros; contradiction) (fun k hk l0 l2 l3 l4 l5 σ h => wX5_tryWord_35B hX k hk h) NN
def X5_tryWord (G : kdS) (l0 : Nat) (l1 : Nat) (l2 : Int32) (l3 : Int32) : kdM → Option (Unit × kdM) :=
  kcv G 6 l1 (X6_size G l1) fun t1 =>
  ltI ((kmin (10 : Int32) (t1 - l2))) fun t2 =>
  gR G 5 1 l0 fun t3 =>
  gR G 5 0 l0 fun t4 =>
  kcv G 10 t4 (X10_keysOf G t4 l3) fun t5 =>
  kcv G 7 t3 (X7_workOut G t3 l1 l2 t2 t5) fun _ =>
  X5_tryWord_35 G l0 l2 l3 t2 (1 : Int32)
set_option maxRecDepth 100000 in
set_option maxHeartbeats 4000000 in
theorem wX5_tryWord {E : kdE} {G : kdS} {l0 : Nat} {l1 : Nat} {l2 : Int32} {l3 : Int32} {σ : kdM} {r : Unit} {σ1 : kdM} (h : X5_tryWord G l0 l1 l2 l3 σ = some (r, σ1)) : Con E G yX5_tryWord cX5_tryWord 8 none 4 [kr E l0, kr E l1, .int l2, .int l3] σ (none, σ1) := by
  refine kd_head (own := RX5) rfl (by decide +kernel) (Nat.le_of_ble_eq_true rfl) (fun A hX => ?_)
  show SW E G (.inl (none, σ1)) A 8 σ 0 [(0, kr E l0), (1, kr E l1), (2, .int l2), (3, .int l3)] []
  unfold X5_tryWord at h
  refine r_bipush hX dX5_tryWord_0 kk_b_10 ?_
  refine r_aload_n hX dX5_tryWord_2 rfl 1 rfl ?_
  refine r_cVi (As := []) (st := [.int (10 : Int32)]) hX dX5_tryWord_3 kl_X6_size w_ml_X5_48 w_im_X6_size w_se_X6_size ⟨_, _, rfl⟩ (by decide) rfl (Nat.le_of_ble_eq_true rfl) rfl kdz0 h (fun r σ1 h => wX6_size h) ?_
  clear h; intro t1 σ h
  refine r_iload_n hX dX5_tryWord_6 rfl 2 rfl ?_
  refine r_isub hX dX5_tryWord_7 ?_
  refine r_mmin hX dX5_tryWord_8 w_ml_X5_81 w_st_Math_min w_in_Math w_cd_Math_min (by decide) (Nat.le_of_ble_eq_true rfl) kdz0 ?_
  refine r_letI h ?_
  clear h; intro t2 h
  refine r_istore (L2 := [(4, .int t2), (0, kr E l0), (1, kr E l1), (2, .int l2), (3, .int l3)]) hX dX5_tryWord_11 (by decide) rfl ?_
  refine r_aload_n hX dX5_tryWord_13 rfl 1 rfl ?_
  refine r_gR hX dX5_tryWord_14 kf_X5_40 rfl h ?_
  clear h; intro t3 h
  refine r_aload_n hX dX5_tryWord_17 rfl 2 rfl ?_
  refine r_iload_n hX dX5_tryWord_18 rfl 3 rfl ?_
  refine r_iload hX dX5_tryWord_19 0 rfl ?_
  refine r_aload_n hX dX5_tryWord_21 rfl 1 rfl ?_
  refine r_gR hX dX5_tryWord_22 kf_X5_36 rfl h ?_
  clear h; intro t4 h
  refine r_iload_n hX dX5_tryWord_25 rfl 4 rfl ?_
  refine r_cVa (As := [.int l3]) (st := [.int t2, .int l2, kr E l1, kr E t3]) hX dX5_tryWord_26 kl_X10_keysOf w_ml_X5_87 w_im_X10_keysOf w_se_X10_keysOf ⟨_, _, rfl⟩ (by decide) rfl (Nat.le_of_ble_eq_true rfl) rfl kdz0 h (fun r σ1 h => wX10_keysOf h) ?_
  clear h; intro t5 σ h
  refine r_cVv (As := [kr E l1, .int l2, .int t2, kr E t5]) (st := []) hX dX5_tryWord_29 kl_X7_workOut w_ml_X5_91 w_im_X7_workOut w_se_X7_workOut ⟨_, _, rfl⟩ (by decide) rfl (Nat.le_of_ble_eq_true rfl) rfl kdz0 h (fun r σ1 h => wX7_workOut h) ?_
  clear h; intro u σ h
  refine r_iconst hX dX5_tryWord_32 kk_i_1 ?_
  refine r_istore (L2 := [(5, .int (1 : Int32)), (4, .int t2), (0, kr E l0), (1, kr E l1), (2, .int l2), (3, .int l3)]) hX dX5_tryWord_33 (by decide) rfl ?_
  refine r_sub [2, 4, 5, 1, 0] rfl ?_
  exact wX5_tryWord_35 hX _ _ _ _ _ _ h
def X5_find_58 (G : kdS) (k15 : Nat → Nat → Int32 → Int32 → kdM → Option (Int32 × kdM)) (k22 : Nat → Nat → Int32 → Int32 → Int32 → kdM → Option (Int32 × kdM)) (l0 : Nat) (l1 : Nat) (l2 : Int32) (l3 : Int32) (l4 : Int32) : kdM → Option (Int32 × kdM) :=
  ltI (l4 + Int32.ofInt 1) fun t1 =>
  k22 l0 l1 l2 l3 t1
set_option maxRecDepth 100000 in
set_option maxHeartbeats 4000000 in
theorem wX5_find_58 {E : kdE} {G : kdS} {A : kdA} {r : Int32} {σ1 : kdM} (hX : kdX E A cX5_find 5 RX5 (some .boolean) 5) (k15 : Nat → Nat → Int32 → Int32 → kdM → Option (Int32 × kdM)) (k22 : Nat → Nat → Int32 → Int32 → Int32 → kdM → Option (Int32 × kdM)) (hk15 : ∀ (l0 : Nat) (l1 : Nat) (l2 : Int32) (l3 : Int32) (σ : kdM), k15 l0 l1 l2 l3 σ = some (r, σ1) → SW E G (.inl (some (.int r), σ1)) A 5 σ 15 [(0, kr E l0), (1, kr E l1), (2, .int l2), (3, .int l3)] []) (hk22 : ∀ (l0 : Nat) (l1 : Nat) (l2 : Int32) (l3 : Int32) (l4 : Int32) (σ : kdM), k22 l0 l1 l2 l3 l4 σ = some (r, σ1) → SW E G (.inl (some (.int r), σ1)) A 5 σ 22 [(0, kr E l0), (1, kr E l1), (2, .int l2), (3, .int l3), (4, .int l4)] []) {σ : kdM} {l0 : Nat} {l1 : Nat} {l2 : Int32} {l3 : Int32} {l4 : Int32} (h : X5_find_58 G k15 k22 l0 l1 l2 l3 l4 σ = some (r, σ1)) : SW E G (.inl (some (.int r), σ1)) A 5 σ 58 [(0, kr E l0), (1, kr E l1), (2, .int l2), (3, .int l3), (4, .int l4)] [] := by
  unfold X5_find_58 at h
  refine r_iincL (L2 := fun t1 => [(4, .int t1), (0, kr E l0), (1, kr E l1), (2, .int l2), (3, .int l3)]) hX dX5_find_58 h 4 rfl (by decide) (fun _ => rfl) ?_
  clear h; intro t1 h
  refine r_goto (tgt := 22) hX dX5_find_61 (by decide) ?_
  refine r_sub [1, 2, 3, 4, 0] rfl ?_
  exact hk22 _ _ _ _ _ _ h
def X5_find_22B (G : kdS) (k15 : Nat → Nat → Int32 → Int32 → kdM → Option (Int32 × kdM)) (k22 : Nat → Nat → Int32 → Int32 → Int32 → kdM → Option (Int32 × kdM)) (l0 : Nat) (l1 : Nat) (l2 : Int32) (l3 : Int32) (l4 : Int32) : kdM → Option (Int32 × kdM) :=
  gR G 5 0 l0 fun t1 =>
  kcv G 10 t1 (X10_size G t1) fun t2 =>
  cnd (t2 ≤ l4)
    (ltI (l3 + Int32.ofInt (-1)) fun t3 =>
    k15 l0 l1 l2 t3)
    (gR G 5 0 l0 fun t4 =>
    kcv G 10 t4 (X10_tongueOf G t4 l4) fun t5 =>
    kcl (X11_hasBit G l2 t5) fun t6 =>
    cnd (t6 = 0)
      (X5_find_58 G k15 k22 l0 l1 l2 l3 l4)
      (kcv G 5 l0 (X5_tryWord G l0 l1 l3 l4) fun _ =>
      X5_find_58 G k15 k22 l0 l1 l2 l3 l4))
set_option maxRecDepth 100000 in
set_option maxHeartbeats 4000000 in
theorem wX5_find_22B {E : kdE} {G : kdS} {A : kdA} {r : Int32} {σ1 : kdM} (hX : kdX E A cX5_find 5 RX5 (some .boolean) 5) (k15 : Nat → Nat → Int32 → Int32 → kdM → Option (Int32 × kdM)) (k22 : Nat → Nat → Int32 → Int32 → Int32 → kdM → Option (Int32 × kdM)) (hk15 : ∀ (l0 : Nat) (l1 : Nat) (l2 : Int32) (l3 : Int32) (σ : kdM), k15 l0 l1 l2 l3 σ = some (r, σ1) → SW E G (.inl (some (.int r), σ1)) A 5 σ 15 [(0, kr E l0), (1, kr E l1), (2, .int l2), (3, .int l3)] []) (hk22 : ∀ (l0 : Nat) (l1 : Nat) (l2 : Int32) (l3 : Int32) (l4 : Int32) (σ : kdM), k22 l0 l1 l2 l3 l4 σ = some (r, σ1) → SW E G (.inl (some (.int r), σ1)) A 5 σ 22 [(0, kr E l0), (1, kr E l1), (2, .int l2), (3, .int l3), (4, .int l4)] []) {σ : kdM} {l0 : Nat} {l1 : Nat} {l2 : Int32} {l3 : Int32} {l4 : Int32} (h : X5_find_22B G k15 k22 l0 l1 l2 l3 l4 σ = some (r, σ1)) : SW E G (.inl (some (.int r), σ1)) A 5 σ 22 [(0, kr E l0), (1, kr E l1), (2, .int l2), (3, .int l3), (4, .int l4)] [] := by
  unfold X5_find_22B at h
  refine r_iload hX dX5_find_22 4 rfl ?_
  refine r_aload_n hX dX5_find_24 rfl 0 rfl ?_
  refine r_gR hX dX5_find_25 kf_X5_36 rfl h ?_
  clear h; intro t1 h
  refine r_cVi (As := []) (st := [.int l4]) hX dX5_find_28 kl_X10_size w_ml_X5_55 w_im_X10_size w_se_X10_size ⟨_, _, rfl⟩ (by decide) rfl (Nat.le_of_ble_eq_true rfl) rfl kdz0 h (fun r σ1 h => wX10_size h) ?_
  clear h; intro t2 σ h
  refine r_icmp_ge (tgt := 64) hX dX5_find_31 (by decide) h ?_ ?_
  · clear h; intro h
    refine r_iincL (L2 := fun t3 => [(3, .int t3), (0, kr E l0), (1, kr E l1), (2, .int l2), (4, .int l4)]) hX dX5_find_64 h 3 rfl (by decide) (fun _ => rfl) ?_
    clear h; intro t3 h
    refine r_goto (tgt := 15) hX dX5_find_67 (by decide) ?_
    refine r_sub [1, 2, 3, 0] rfl ?_
    exact hk15 _ _ _ _ _ h
  · clear h; intro h
    refine r_iload_n hX dX5_find_34 rfl 2 rfl ?_
    refine r_aload_n hX dX5_find_35 rfl 0 rfl ?_
    refine r_gR hX dX5_find_36 kf_X5_36 rfl h ?_
    clear h; intro t4 h
    refine r_iload hX dX5_find_39 4 rfl ?_
    refine r_cVi (As := [.int l4]) (st := [.int l2]) hX dX5_find_41 kl_X10_tongueOf w_ml_X5_58 w_im_X10_tongueOf w_se_X10_tongueOf ⟨_, _, rfl⟩ (by decide) rfl (Nat.le_of_ble_eq_true rfl) rfl kdz0 h (fun r σ1 h => wX10_tongueOf h) ?_
    clear h; intro t5 σ h
    refine r_cNi (host := "KeyDesk") (As := [.int l2, .int t5]) (st := []) hX dX5_find_44 kl_X11_hasBit (by decide +kernel) w_st_X11_hasBit (by decide) rfl (Nat.le_of_ble_eq_true rfl) rfl kdz0 h (fun r σ1 h => wX11_hasBit h) ?_
    clear h; intro t6 σ h
    refine r_if_eq (tgt := 58) hX dX5_find_47 (by decide) h ?_ ?_
    · clear h; intro h
      refine r_sub [0, 1, 2, 3, 4] rfl ?_
      exact wX5_find_58 hX k15 k22 hk15 hk22 h
    · clear h; intro h
      refine r_aload_n hX dX5_find_50 rfl 0 rfl ?_
      refine r_aload_n hX dX5_find_51 rfl 1 rfl ?_
      refine r_iload_n hX dX5_find_52 rfl 3 rfl ?_
      refine r_iload hX dX5_find_53 4 rfl ?_
      refine r_cVv (As := [kr E l1, .int l3, .int l4]) (st := []) hX dX5_find_55 kl_X5_tryWord w_ml_X5_66 w_im_X5_tryWord w_se_X5_tryWord ⟨_, _, rfl⟩ (by decide) rfl (Nat.le_of_ble_eq_true rfl) rfl kdz0 h (fun r σ1 h => wX5_tryWord h) ?_
      clear h; intro u σ h
      refine r_sub [0, 1, 2, 3, 4] rfl ?_
      exact wX5_find_58 hX k15 k22 hk15 hk22 h
def X5_find_22 (G : kdS) (k15 : Nat → Nat → Int32 → Int32 → kdM → Option (Int32 × kdM)) : Nat → Nat → Int32 → Int32 → Int32 → kdM → Option (Int32 × kdM) := lp (fun _ _ _ _ _ _ => none) (X5_find_22B G k15) NN
theorem wX5_find_22 {E : kdE} {G : kdS} {A : kdA} {r : Int32} {σ1 : kdM} (hX : kdX E A cX5_find 5 RX5 (some .boolean) 5) (k15 : Nat → Nat → Int32 → Int32 → kdM → Option (Int32 × kdM)) (hk15 : ∀ (l0 : Nat) (l1 : Nat) (l2 : Int32) (l3 : Int32) (σ : kdM), k15 l0 l1 l2 l3 σ = some (r, σ1) → SW E G (.inl (some (.int r), σ1)) A 5 σ 15 [(0, kr E l0), (1, kr E l1), (2, .int l2), (3, .int l3)] []) : ∀ (l0 : Nat) (l1 : Nat) (l2 : Int32) (l3 : Int32) (l4 : Int32) (σ : kdM), X5_find_22 G k15 l0 l1 l2 l3 l4 σ = some (r, σ1) → SW E G (.inl (some (.int r), σ1)) A 5 σ 22 [(0, kr E l0), (1, kr E l1), (2, .int l2), (3, .int l3), (4, .int l4)] [] :=
  lp_ind (Q := fun f => ∀ (l0 : Nat) (l1 : Nat) (l2 : Int32) (l3 : Int32) (l4 : Int32) (σ : kdM), f l0 l1 l2 l3 l4 σ = some (r, σ1) → SW E G (.inl (some (.int r), σ1)) A 5 σ 22 [(0, kr E l0), (1, kr E l1), (2, .int l2), (3, .int l3), (4, .int l4)] []) (by intros; contradiction) (fun k hk l0 l1 l2 l3 l4 σ h => wX5_find_22B hX k15 k hk15 hk h) NN
def X5_find_89 (G : kdS) (s0 : Int32) : kdM → Option (Int32 × kdM) :=
  rt (vp_nar .boolean s0)
set_option maxRecDepth 100000 in
set_option maxHeartbeats 4000000 in
theorem wX5_find_89 {E : kdE} {G : kdS} {A : kdA} {r : Int32} {σ1 : kdM} (hX : kdX E A cX5_find 5 RX5 (some .boolean) 5) {σ : kdM} {s0 : Int32} (h : X5_find_89 G s0 σ = some (r, σ1)) : SW E G (.inl (some (.int r), σ1)) A 5 σ 89 [] [.int s0] := by
  unfold X5_find_89 at h
  exact r_zret hX dX5_find_89 h
def X5_find_15B (G : kdS) (k15 : Nat → Nat → Int32 → Int32 → kdM → Option (Int32 × kdM)) (l0 : Nat) (l1 : Nat) (l2 : Int32) (l3 : Int32) : kdM → Option (Int32 × kdM) :=
  cnd (l3 < 0)
    (kcv G 5 l0 (X5_bestNumberOfPieces G l0) fun t1 =>
    kcv G 5 l0 (X5_follow G l0 t1) fun _ =>
    cnd (t1 ≤ 0)
      (X5_find_89 G (0 : Int32))
      (X5_find_89 G (1 : Int32)))
    (X5_find_22 G k15 l0 l1 l2 l3 (0 : Int32))
set_option maxRecDepth 100000 in
set_option maxHeartbeats 4000000 in
theorem wX5_find_15B {E : kdE} {G : kdS} {A : kdA} {r : Int32} {σ1 : kdM} (hX : kdX E A cX5_find 5 RX5 (some .boolean) 5) (k15 : Nat → Nat → Int32 → Int32 → kdM → Option (Int32 × kdM)) (hk15 : ∀ (l0 : Nat) (l1 : Nat) (l2 : Int32) (l3 : Int32) (σ : kdM), k15 l0 l1 l2 l3 σ = some (r, σ1) → SW E G (.inl (some (.int r), σ1)) A 5 σ 15 [(0, kr E l0), (1, kr E l1), (2, .int l2), (3, .int l3)] []) {σ : kdM} {l0 : Nat} {l1 : Nat} {l2 : Int32} {l3 : Int32} (h : X5_find_15B G k15 l0 l1 l2 l3 σ = some (r, σ1)) : SW E G (.inl (some (.int r), σ1)) A 5 σ 15 [(0, kr E l0), (1, kr E l1), (2, .int l2), (3, .int l3)] [] := by
  unfold X5_find_15B at h
  refine r_iload_n hX dX5_find_15 rfl 3 rfl ?_
  refine r_if_lt (tgt := 70) hX dX5_find_16 (by decide) h ?_ ?_
  · clear h; intro h
    refine r_aload_n hX dX5_find_70 rfl 0 rfl ?_
    refine r_cVi (As := []) (st := []) hX dX5_find_71 kl_X5_bestNumberOfPieces w_ml_X5_70 w_im_X5_bestNumberOfPieces w_se_X5_bestNumberOfPieces ⟨_, _, rfl⟩ (by decide) rfl (Nat.le_of_ble_eq_true rfl) rfl kdz0 h (fun r σ1 h => wX5_bestNumberOfPieces h) ?_
    clear h; intro t1 σ h
    refine r_istore_n (L2 := [(3, .int t1), (0, kr E l0), (1, kr E l1), (2, .int l2)]) hX dX5_find_74 rfl (by decide) rfl ?_
    refine r_aload_n hX dX5_find_75 rfl 1 rfl ?_
    refine r_iload_n hX dX5_find_76 rfl 0 rfl ?_
    refine r_cVv (As := [.int t1]) (st := []) hX dX5_find_77 kl_X5_follow w_ml_X5_73 w_im_X5_follow w_se_X5_follow ⟨_, _, rfl⟩ (by decide) rfl (Nat.le_of_ble_eq_true rfl) rfl kdz0 h (fun r σ1 h => wX5_follow h) ?_
    clear h; intro u σ h
    refine r_iload_n hX dX5_find_80 rfl 0 rfl ?_
    refine r_if_le (tgt := 88) hX dX5_find_81 (by decide) h ?_ ?_
    · clear h; intro h
      refine r_iconst hX dX5_find_88 kk_i_0 ?_
      refine r_sub [] rfl ?_
      exact wX5_find_89 hX h
    · clear h; intro h
      refine r_iconst hX dX5_find_84 kk_i_1 ?_
      refine r_goto (tgt := 89) hX dX5_find_85 (by decide) ?_
      refine r_sub [] rfl ?_
      exact wX5_find_89 hX h
  · clear h; intro h
    refine r_iconst hX dX5_find_19 kk_i_0 ?_
    refine r_istore (L2 := [(4, .int (0 : Int32)), (0, kr E l0), (1, kr E l1), (2, .int l2), (3, .int l3)]) hX dX5_find_20 (by decide) rfl ?_
    refine r_sub [1, 2, 3, 4, 0] rfl ?_
    exact wX5_find_22 hX k15 hk15 _ _ _ _ _ _ h
def X5_find_15 (G : kdS) : Nat → Nat → Int32 → Int32 → kdM → Option (Int32 × kdM) := lp (fun _ _ _ _ _ => none) (X5_find_15B G) NN
theorem wX5_find_15 {E : kdE} {G : kdS} {A : kdA} {r : Int32} {σ1 : kdM} (hX : kdX E A cX5_find 5 RX5 (some .boolean) 5) : ∀ (l0 : Nat) (l1 : Nat) (l2 : Int32) (l3 : Int32) (σ : kdM), X5_find_15 G l0 l1 l2 l3 σ = some (r, σ1) → SW E G (.inl (some (.int r), σ1)) A 5 σ 15 [(0, kr E l0), (1, kr E l1), (2, .int l2), (3, .int l3)] [] :=
  lp_ind (Q := fun f => ∀ (l0 : Nat) (l1 : Nat) (l2 : Int32) (l3 : Int32) (σ : kdM), f l0 l1 l2 l3 σ = some (r, σ1) → SW E G (.inl (some (.int r), σ1)) A 5 σ 15 [(0, kr E l0), (1, kr E l1), (2, .int l2), (3, .int l3)] []) (by intros; contradiction) (fun k hk l0 l1 l2 l3 σ h => wX5_find_15B hX k hk h) NN
def X5_find (G : kdS) (l0 : Nat) (l1 : Nat) (l2 : Int32) : kdM → Option (Int32 × kdM) :=
  kcv G 6 l1 (X6_size G l1) fun t1 =>
  kcv G 5 l0 (X5_start G l0 t1) fun _ =>
  kcv G 6 l1 (X6_size G l1) fun t2 =>
  ltI ((t2 - (1 : Int32))) fun t3 =>
  X5_find_15 G l0 l1 l2 t3
set_option maxRecDepth 100000 in
set_option maxHeartbeats 4000000 in
theorem wX5_find {E : kdE} {G : kdS} {l0 : Nat} {l1 : Nat} {l2 : Int32} {σ : kdM} {r : Int32} {σ1 : kdM} (h : X5_find G l0 l1 l2 σ = some (r, σ1)) : Con E G yX5_find cX5_find 5 (some .boolean) 5 [kr E l0, kr E l1, .int l2] σ (some (.int r), σ1) := by
  refine kd_head (own := RX5) rfl (by decide +kernel) (Nat.le_of_ble_eq_true rfl) (fun A hX => ?_)
  show SW E G (.inl (some (.int r), σ1)) A 5 σ 0 [(0, kr E l0), (1, kr E l1), (2, .int l2)] []
  unfold X5_find at h
  refine r_aload_n hX dX5_find_0 rfl 0 rfl ?_
  refine r_aload_n hX dX5_find_1 rfl 1 rfl ?_
  refine r_cVi (As := []) (st := [kr E l0]) hX dX5_find_2 kl_X6_size w_ml_X5_48 w_im_X6_size w_se_X6_size ⟨_, _, rfl⟩ (by decide) rfl (Nat.le_of_ble_eq_true rfl) rfl kdz0 h (fun r σ1 h => wX6_size h) ?_
  clear h; intro t1 σ h
  refine r_cVv (As := [.int t1]) (st := []) hX dX5_find_5 kl_X5_start w_ml_X5_52 w_im_X5_start w_se_X5_start ⟨_, _, rfl⟩ (by decide) rfl (Nat.le_of_ble_eq_true rfl) rfl kdz0 h (fun r σ1 h => wX5_start h) ?_
  clear h; intro u σ h
  refine r_aload_n hX dX5_find_8 rfl 1 rfl ?_
  refine r_cVi (As := []) (st := []) hX dX5_find_9 kl_X6_size w_ml_X5_48 w_im_X6_size w_se_X6_size ⟨_, _, rfl⟩ (by decide) rfl (Nat.le_of_ble_eq_true rfl) rfl kdz0 h (fun r σ1 h => wX6_size h) ?_
  clear h; intro t2 σ h
  refine r_iconst hX dX5_find_12 kk_i_1 ?_
  refine r_isub hX dX5_find_13 ?_
  refine r_letI h ?_
  clear h; intro t3 h
  refine r_istore_n (L2 := [(3, .int t3), (0, kr E l0), (1, kr E l1), (2, .int l2)]) hX dX5_find_14 rfl (by decide) rfl ?_
  refine r_sub [1, 2, 3, 0] rfl ?_
  exact wX5_find_15 hX _ _ _ _ _ h
def X0_pairs (G : kdS) (l0 : Nat) : kdM → Option (Int32 × kdM) :=
  gI G 0 2 l0 fun t1 =>
  rt t1
set_option maxRecDepth 100000 in
set_option maxHeartbeats 4000000 in
theorem wX0_pairs {E : kdE} {G : kdS} {l0 : Nat} {σ : kdM} {r : Int32} {σ1 : kdM} (h : X0_pairs G l0 σ = some (r, σ1)) : Con E G yX0_pairs cX0_pairs 1 (some .int) 0 [kr E l0] σ (some (.int r), σ1) := by
  refine kd_head (own := RX0) rfl (by decide +kernel) (Nat.le_of_ble_eq_true rfl) (fun A hX => ?_)
  show SW E G (.inl (some (.int r), σ1)) A 1 σ 0 [(0, kr E l0)] []
  unfold X0_pairs at h
  refine r_aload_n hX dX0_pairs_0 rfl 0 rfl ?_
  refine r_gI hX dX0_pairs_1 kf_X0_43 rfl h ?_
  clear h; intro t1 h
  exact r_iret hX dX0_pairs_4 h
def X0_together (G : kdS) (l0 : Nat) (l1 : Int32) (l2 : Int32) : kdM → Option (Int32 × kdM) :=
  gR G 0 1 l0 fun t1 =>
  aR G 18 t1 (l1) fun t2 =>
  aI G t2 (l2) fun t3 =>
  rt t3
set_option maxRecDepth 100000 in
set_option maxHeartbeats 4000000 in
theorem wX0_together {E : kdE} {G : kdS} {l0 : Nat} {l1 : Int32} {l2 : Int32} {σ : kdM} {r : Int32} {σ1 : kdM} (h : X0_together G l0 l1 l2 σ = some (r, σ1)) : Con E G yX0_together cX0_together 3 (some .int) 0 [kr E l0, .int l1, .int l2] σ (some (.int r), σ1) := by
  refine kd_head (own := RX0) rfl (by decide +kernel) (Nat.le_of_ble_eq_true rfl) (fun A hX => ?_)
  show SW E G (.inl (some (.int r), σ1)) A 3 σ 0 [(0, kr E l0), (1, .int l1), (2, .int l2)] []
  unfold X0_together at h
  refine r_aload_n hX dX0_together_0 rfl 0 rfl ?_
  refine r_gR hX dX0_together_1 kf_X0_11 rfl h ?_
  clear h; intro t1 h
  refine r_iload_n hX dX0_together_4 rfl 1 rfl ?_
  refine r_aR18 hX dX0_together_5 h ?_
  clear h; intro t2 h
  refine r_iload_n hX dX0_together_6 rfl 2 rfl ?_
  refine r_aI hX dX0_together_7 h ?_
  clear h; intro t3 h
  exact r_iret hX dX0_together_8 h
def X0_setTogether_43 (G : kdS) (l4 : Int32) (s0 : Nat) (s1 : Int32) (s2 : Int32) (s3 : Int32) : kdM → Option (Int32 × kdM) :=
  sI G 0 2 s0 ((s1 + (s2 - s3))) <|
  rt l4
set_option maxRecDepth 100000 in
set_option maxHeartbeats 4000000 in
theorem wX0_setTogether_43 {E : kdE} {G : kdS} {A : kdA} {r : Int32} {σ1 : kdM} (hX : kdX E A cX0_setTogether 5 RX0 (some .int) 0) {σ : kdM} {l4 : Int32} {s0 : Nat} {s1 : Int32} {s2 : Int32} {s3 : Int32} (h : X0_setTogether_43 G l4 s0 s1 s2 s3 σ = some (r, σ1)) : SW E G (.inl (some (.int r), σ1)) A 5 σ 43 [(4, .int l4)] [.int s3, .int s2, .int s1, kr E s0] := by
  unfold X0_setTogether_43 at h
  refine r_isub hX dX0_setTogether_43 ?_
  refine r_iadd hX dX0_setTogether_44 ?_
  refine r_sI hX dX0_setTogether_45 kf_X0_43 rfl (by intro q hq; cases hq; rfl) h ?_
  clear h; intro σ h
  refine r_iload hX dX0_setTogether_48 0 rfl ?_
  exact r_iret hX dX0_setTogether_50 h
def X0_setTogether_33 (G : kdS) (l4 : Int32) (s0 : Nat) (s1 : Int32) (s2 : Int32) : kdM → Option (Int32 × kdM) :=
  cnd (l4 ≤ 0)
    (X0_setTogether_43 G l4 s0 s1 s2 (0 : Int32))
    (X0_setTogether_43 G l4 s0 s1 s2 (1 : Int32))
set_option maxRecDepth 100000 in
set_option maxHeartbeats 4000000 in
theorem wX0_setTogether_33 {E : kdE} {G : kdS} {A : kdA} {r : Int32} {σ1 : kdM} (hX : kdX E A cX0_setTogether 5 RX0 (some .int) 0) {σ : kdM} {l4 : Int32} {s0 : Nat} {s1 : Int32} {s2 : Int32} (h : X0_setTogether_33 G l4 s0 s1 s2 σ = some (r, σ1)) : SW E G (.inl (some (.int r), σ1)) A 5 σ 33 [(4, .int l4)] [.int s2, .int s1, kr E s0] := by
  unfold X0_setTogether_33 at h
  refine r_iload hX dX0_setTogether_33 0 rfl ?_
  refine r_if_le (tgt := 42) hX dX0_setTogether_35 (by decide) h ?_ ?_
  · clear h; intro h
    refine r_iconst hX dX0_setTogether_42 kk_i_0 ?_
    refine r_sub [0] rfl ?_
    exact wX0_setTogether_43 hX h
  · clear h; intro h
    refine r_iconst hX dX0_setTogether_38 kk_i_1 ?_
    refine r_goto (tgt := 43) hX dX0_setTogether_39 (by decide) ?_
    refine r_sub [0] rfl ?_
    exact wX0_setTogether_43 hX h
def X0_setTogether (G : kdS) (l0 : Nat) (l1 : Int32) (l2 : Int32) (l3 : Int32) : kdM → Option (Int32 × kdM) :=
  gR G 0 1 l0 fun t1 =>
  aR G 18 t1 (l1) fun t2 =>
  aI G t2 (l2) fun t3 =>
  gR G 0 1 l0 fun t4 =>
  aR G 18 t4 (l1) fun t5 =>
  tI G t5 (l2) (l3) <|
  gI G 0 2 l0 fun t6 =>
  cnd (l3 ≤ 0)
    (X0_setTogether_33 G t3 l0 t6 (0 : Int32))
    (X0_setTogether_33 G t3 l0 t6 (1 : Int32))
set_option maxRecDepth 100000 in
set_option maxHeartbeats 4000000 in
theorem wX0_setTogether {E : kdE} {G : kdS} {l0 : Nat} {l1 : Int32} {l2 : Int32} {l3 : Int32} {σ : kdM} {r : Int32} {σ1 : kdM} (h : X0_setTogether G l0 l1 l2 l3 σ = some (r, σ1)) : Con E G yX0_setTogether cX0_setTogether 5 (some .int) 0 [kr E l0, .int l1, .int l2, .int l3] σ (some (.int r), σ1) := by
  refine kd_head (own := RX0) rfl (by decide +kernel) (Nat.le_of_ble_eq_true rfl) (fun A hX => ?_)
  show SW E G (.inl (some (.int r), σ1)) A 5 σ 0 [(0, kr E l0), (1, .int l1), (2, .int l2), (3, .int l3)] []
  unfold X0_setTogether at h
  refine r_aload_n hX dX0_setTogether_0 rfl 0 rfl ?_
  refine r_gR hX dX0_setTogether_1 kf_X0_11 rfl h ?_
  clear h; intro t1 h
  refine r_iload_n hX dX0_setTogether_4 rfl 1 rfl ?_
  refine r_aR18 hX dX0_setTogether_5 h ?_
  clear h; intro t2 h
  refine r_iload_n hX dX0_setTogether_6 rfl 2 rfl ?_
  refine r_aI hX dX0_setTogether_7 h ?_
  clear h; intro t3 h
  refine r_istore (L2 := [(4, .int t3), (0, kr E l0), (1, .int l1), (2, .int l2), (3, .int l3)]) hX dX0_setTogether_8 (by decide) rfl ?_
  refine r_aload_n hX dX0_setTogether_10 rfl 1 rfl ?_
  refine r_gR hX dX0_setTogether_11 kf_X0_11 rfl h ?_
  clear h; intro t4 h
  refine r_iload_n hX dX0_setTogether_14 rfl 2 rfl ?_
  refine r_aR18 hX dX0_setTogether_15 h ?_
  clear h; intro t5 h
  refine r_iload_n hX dX0_setTogether_16 rfl 3 rfl ?_
  refine r_iload_n hX dX0_setTogether_17 rfl 4 rfl ?_
  refine r_tI hX dX0_setTogether_18 h ?_
  clear h; intro σ h
  refine r_aload_n hX dX0_setTogether_19 rfl 1 rfl ?_
  refine r_dup hX dX0_setTogether_20 rfl ?_
  refine r_gI hX dX0_setTogether_21 kf_X0_43 rfl h ?_
  clear h; intro t6 h
  refine r_iload_n hX dX0_setTogether_24 rfl 4 rfl ?_
  refine r_if_le (tgt := 32) hX dX0_setTogether_25 (by decide) h ?_ ?_
  · clear h; intro h
    refine r_iconst hX dX0_setTogether_32 kk_i_0 ?_
    refine r_sub [0] rfl ?_
    exact wX0_setTogether_33 hX h
  · clear h; intro h
    refine r_iconst hX dX0_setTogether_28 kk_i_1 ?_
    refine r_goto (tgt := 33) hX dX0_setTogether_29 (by decide) ?_
    refine r_sub [0] rfl ?_
    exact wX0_setTogether_33 hX h
def X0_padSize (G : kdS) (l0 : Nat) : kdM → Option (Int32 × kdM) :=
  gR G 0 3 l0 fun t1 =>
  kcv G 6 t1 (X6_size G t1) fun t2 =>
  rt t2
set_option maxRecDepth 100000 in
set_option maxHeartbeats 4000000 in
theorem wX0_padSize {E : kdE} {G : kdS} {l0 : Nat} {σ : kdM} {r : Int32} {σ1 : kdM} (h : X0_padSize G l0 σ = some (r, σ1)) : Con E G yX0_padSize cX0_padSize 1 (some .int) 1 [kr E l0] σ (some (.int r), σ1) := by
  refine kd_head (own := RX0) rfl (by decide +kernel) (Nat.le_of_ble_eq_true rfl) (fun A hX => ?_)
  show SW E G (.inl (some (.int r), σ1)) A 1 σ 0 [(0, kr E l0)] []
  unfold X0_padSize at h
  refine r_aload_n hX dX0_padSize_0 rfl 0 rfl ?_
  refine r_gR hX dX0_padSize_1 kf_X0_21 rfl h ?_
  clear h; intro t1 h
  refine r_cVi (As := []) (st := []) hX dX0_padSize_4 kl_X6_size w_ml_X0_47 w_im_X6_size w_se_X6_size ⟨_, _, rfl⟩ (by decide) rfl (Nat.le_of_ble_eq_true rfl) rfl kdz0 h (fun r σ1 h => wX6_size h) ?_
  clear h; intro t2 σ h
  exact r_iret hX dX0_padSize_7 h
def X0_isPadFull (G : kdS) (l0 : Nat) : kdM → Option (Int32 × kdM) :=
  gR G 0 3 l0 fun t1 =>
  kcv G 6 t1 (X6_isFull G t1) fun t2 =>
  rt (vp_nar .boolean t2)
set_option maxRecDepth 100000 in
set_option maxHeartbeats 4000000 in
theorem wX0_isPadFull {E : kdE} {G : kdS} {l0 : Nat} {σ : kdM} {r : Int32} {σ1 : kdM} (h : X0_isPadFull G l0 σ = some (r, σ1)) : Con E G yX0_isPadFull cX0_isPadFull 1 (some .boolean) 1 [kr E l0] σ (some (.int r), σ1) := by
  refine kd_head (own := RX0) rfl (by decide +kernel) (Nat.le_of_ble_eq_true rfl) (fun A hX => ?_)
  show SW E G (.inl (some (.int r), σ1)) A 1 σ 0 [(0, kr E l0)] []
  unfold X0_isPadFull at h
  refine r_aload_n hX dX0_isPadFull_0 rfl 0 rfl ?_
  refine r_gR hX dX0_isPadFull_1 kf_X0_21 rfl h ?_
  clear h; intro t1 h
  refine r_cVi (As := []) (st := []) hX dX0_isPadFull_4 kl_X6_isFull w_ml_X0_51 w_im_X6_isFull w_se_X6_isFull ⟨_, _, rfl⟩ (by decide) rfl (Nat.le_of_ble_eq_true rfl) rfl kdz0 h (fun r σ1 h => wX6_isFull h) ?_
  clear h; intro t2 σ h
  exact r_zret hX dX0_isPadFull_7 h
def X0_addToPad_21 (G : kdS) (l0 : Nat) (s0 : Nat) (s1 : Int32) : kdM → Option (Int32 × kdM) :=
  kcv G 6 s0 (X6_add G s0 s1) fun _ =>
  gR G 0 3 l0 fun t1 =>
  kcv G 6 t1 (X6_size G t1) fun t2 =>
  rt t2
set_option maxRecDepth 100000 in
set_option maxHeartbeats 4000000 in
theorem wX0_addToPad_21 {E : kdE} {G : kdS} {A : kdA} {r : Int32} {σ1 : kdM} (hX : kdX E A cX0_addToPad 3 RX0 (some .int) 3) {σ : kdM} {l0 : Nat} {s0 : Nat} {s1 : Int32} (h : X0_addToPad_21 G l0 s0 s1 σ = some (r, σ1)) : SW E G (.inl (some (.int r), σ1)) A 3 σ 21 [(0, kr E l0)] [.int s1, kr E s0] := by
  unfold X0_addToPad_21 at h
  refine r_cVv (As := [.int s1]) (st := []) hX dX0_addToPad_21 kl_X6_add w_ml_X0_55 w_im_X6_add w_se_X6_add ⟨_, _, rfl⟩ (by decide) rfl (Nat.le_of_ble_eq_true rfl) rfl kdz0 h (fun r σ1 h => wX6_add h) ?_
  clear h; intro u σ h
  refine r_aload_n hX dX0_addToPad_24 rfl 0 rfl ?_
  refine r_gR hX dX0_addToPad_25 kf_X0_21 rfl h ?_
  clear h; intro t1 h
  refine r_cVi (As := []) (st := []) hX dX0_addToPad_28 kl_X6_size w_ml_X0_47 w_im_X6_size w_se_X6_size ⟨_, _, rfl⟩ (by decide) rfl (Nat.le_of_ble_eq_true rfl) rfl kdz0 h (fun r σ1 h => wX6_size h) ?_
  clear h; intro t2 σ h
  exact r_iret hX dX0_addToPad_31 h
def X0_addToPad (G : kdS) (l0 : Nat) (l1 : Int32) (l2 : Int32) : kdM → Option (Int32 × kdM) :=
  gR G 0 3 l0 fun t1 =>
  kcv G 6 t1 (X6_add G t1 l1) fun _ =>
  gR G 0 4 l0 fun t2 =>
  cnd (l2 = 0)
    (X0_addToPad_21 G l0 t2 (0 : Int32))
    (X0_addToPad_21 G l0 t2 (1 : Int32))
set_option maxRecDepth 100000 in
set_option maxHeartbeats 4000000 in
theorem wX0_addToPad {E : kdE} {G : kdS} {l0 : Nat} {l1 : Int32} {l2 : Int32} {σ : kdM} {r : Int32} {σ1 : kdM} (h : X0_addToPad G l0 l1 l2 σ = some (r, σ1)) : Con E G yX0_addToPad cX0_addToPad 3 (some .int) 3 [kr E l0, .int l1, .int l2] σ (some (.int r), σ1) := by
  refine kd_head (own := RX0) rfl (by decide +kernel) (Nat.le_of_ble_eq_true rfl) (fun A hX => ?_)
  show SW E G (.inl (some (.int r), σ1)) A 3 σ 0 [(0, kr E l0), (1, .int l1), (2, .int l2)] []
  unfold X0_addToPad at h
  refine r_aload_n hX dX0_addToPad_0 rfl 0 rfl ?_
  refine r_gR hX dX0_addToPad_1 kf_X0_21 rfl h ?_
  clear h; intro t1 h
  refine r_iload_n hX dX0_addToPad_4 rfl 1 rfl ?_
  refine r_cVv (As := [.int l1]) (st := []) hX dX0_addToPad_5 kl_X6_add w_ml_X0_55 w_im_X6_add w_se_X6_add ⟨_, _, rfl⟩ (by decide) rfl (Nat.le_of_ble_eq_true rfl) rfl kdz0 h (fun r σ1 h => wX6_add h) ?_
  clear h; intro u σ h
  refine r_aload_n hX dX0_addToPad_8 rfl 0 rfl ?_
  refine r_gR hX dX0_addToPad_9 kf_X0_25 rfl h ?_
  clear h; intro t2 h
  refine r_iload_n hX dX0_addToPad_12 rfl 2 rfl ?_
  refine r_if_eq (tgt := 20) hX dX0_addToPad_13 (by decide) h ?_ ?_
  · clear h; intro h
    refine r_iconst hX dX0_addToPad_20 kk_i_0 ?_
    refine r_sub [0] rfl ?_
    exact wX0_addToPad_21 hX h
  · clear h; intro h
    refine r_iconst hX dX0_addToPad_16 kk_i_1 ?_
    refine r_goto (tgt := 21) hX dX0_addToPad_17 (by decide) ?_
    refine r_sub [0] rfl ?_
    exact wX0_addToPad_21 hX h
def X0_clearPad (G : kdS) (l0 : Nat) : kdM → Option (Int32 × kdM) :=
  gR G 0 4 l0 fun t1 =>
  kcv G 6 t1 (X6_clear G t1) fun t2 =>
  gR G 0 3 l0 fun t3 =>
  kcv G 6 t3 (X6_clear G t3) fun t4 =>
  rt t4
set_option maxRecDepth 100000 in
set_option maxHeartbeats 4000000 in
theorem wX0_clearPad {E : kdE} {G : kdS} {l0 : Nat} {σ : kdM} {r : Int32} {σ1 : kdM} (h : X0_clearPad G l0 σ = some (r, σ1)) : Con E G yX0_clearPad cX0_clearPad 1 (some .int) 1 [kr E l0] σ (some (.int r), σ1) := by
  refine kd_head (own := RX0) rfl (by decide +kernel) (Nat.le_of_ble_eq_true rfl) (fun A hX => ?_)
  show SW E G (.inl (some (.int r), σ1)) A 1 σ 0 [(0, kr E l0)] []
  unfold X0_clearPad at h
  refine r_aload_n hX dX0_clearPad_0 rfl 0 rfl ?_
  refine r_gR hX dX0_clearPad_1 kf_X0_25 rfl h ?_
  clear h; intro t1 h
  refine r_cVi (As := []) (st := []) hX dX0_clearPad_4 kl_X6_clear w_ml_X0_58 w_im_X6_clear w_se_X6_clear ⟨_, _, rfl⟩ (by decide) rfl (Nat.le_of_ble_eq_true rfl) rfl kdz0 h (fun r σ1 h => wX6_clear h) ?_
  clear h; intro t2 σ h
  refine r_pop hX dX0_clearPad_7 rfl ?_
  refine r_aload_n hX dX0_clearPad_8 rfl 0 rfl ?_
  refine r_gR hX dX0_clearPad_9 kf_X0_21 rfl h ?_
  clear h; intro t3 h
  refine r_cVi (As := []) (st := []) hX dX0_clearPad_12 kl_X6_clear w_ml_X0_58 w_im_X6_clear w_se_X6_clear ⟨_, _, rfl⟩ (by decide) rfl (Nat.le_of_ble_eq_true rfl) rfl kdz0 h (fun r σ1 h => wX6_clear h) ?_
  clear h; intro t4 σ h
  exact r_iret hX dX0_clearPad_15 h
def X0_chosenWords (G : kdS) (l0 : Nat) : kdM → Option (Nat × kdM) :=
  gR G 0 5 l0 fun t1 =>
  rt t1
set_option maxRecDepth 100000 in
set_option maxHeartbeats 4000000 in
theorem wX0_chosenWords {E : kdE} {G : kdS} {l0 : Nat} {σ : kdM} {r : Nat} {σ1 : kdM} (h : X0_chosenWords G l0 σ = some (r, σ1)) : Con E G yX0_chosenWords cX0_chosenWords 1 (some (.object "KeyDesk$Row")) 0 [kr E l0] σ (some (kr E r), σ1) := by
  refine kd_head (own := RX0) rfl (by decide +kernel) (Nat.le_of_ble_eq_true rfl) (fun A hX => ?_)
  show SW E G (.inl (some (kr E r), σ1)) A 1 σ 0 [(0, kr E l0)] []
  unfold X0_chosenWords at h
  refine r_aload_n hX dX0_chosenWords_0 rfl 0 rfl ?_
  refine r_gR hX dX0_chosenWords_1 kf_X0_28 rfl h ?_
  clear h; intro t1 h
  exact r_aret hX dX0_chosenWords_4 h
