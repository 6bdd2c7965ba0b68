def X1_guessAt_37 (G : kdS) (s0 : Int32) : kdM → Option (Int32 × kdM) :=
  rt s0
set_option maxRecDepth 100000 in
set_option maxHeartbeats 4000000 in
theorem wX1_guessAt_37 {E : kdE} {G : kdS} {A : kdA} {r : Int32} {σ1 : kdM} (hX : kdX E A cX1_guessAt 2 RX1 (some .int) 1) {σ : kdM} {s0 : Int32} (h : X1_guessAt_37 G s0 σ = some (r, σ1)) : SW E G (.inl (some (.int r), σ1)) A 2 σ 37 [] [.int s0] := by
  unfold X1_guessAt_37 at h
  exact r_iret hX dX1_guessAt_37 h
def X1_guessAt (G : kdS) (l0 : Nat) (l1 : Int32) : kdM → Option (Int32 × kdM) :=
  cnd (l1 = (-1 : Int32))
    (gR G 1 0 l0 fun t1 =>
    kcv G 6 t1 (X6_size G t1) fun t2 =>
    rt t2)
    (gR G 1 0 l0 fun t3 =>
    kcv G 6 t3 (X6_has G t3 l1) fun t4 =>
    cnd (t4 = 0)
      (X1_guessAt_37 G (-6 : Int32))
      (gR G 1 0 l0 fun t5 =>
      kcv G 6 t5 (X6_at G t5 l1) fun t6 =>
      X1_guessAt_37 G t6))
set_option maxRecDepth 100000 in
set_option maxHeartbeats 4000000 in
theorem wX1_guessAt {E : kdE} {G : kdS} {l0 : Nat} {l1 : Int32} {σ : kdM} {r : Int32} {σ1 : kdM} (h : X1_guessAt G l0 l1 σ = some (r, σ1)) : Con E G yX1_guessAt cX1_guessAt 2 (some .int) 1 [kr E l0, .int l1] σ (some (.int r), σ1) := by
  refine kd_head (own := RX1) rfl (by decide +kernel) (Nat.le_of_ble_eq_true rfl) (fun A hX => ?_)
  show SW E G (.inl (some (.int r), σ1)) A 2 σ 0 [(0, kr E l0), (1, .int l1)] []
  unfold X1_guessAt at h
  refine r_iload_n hX dX1_guessAt_0 rfl 1 rfl ?_
  refine r_iconst hX dX1_guessAt_1 kk_i_m1 ?_
  refine r_icmp_ne (tgt := 13) hX dX1_guessAt_2 (by decide) h ?_ ?_
  · clear h; intro h
    refine r_aload_n hX dX1_guessAt_5 rfl 0 rfl ?_
    refine r_gR hX dX1_guessAt_6 kf_X1_14 rfl h ?_
    clear h; intro t1 h
    refine r_cVi (As := []) (st := []) hX dX1_guessAt_9 kl_X6_size w_ml_X1_30 w_im_X6_size w_se_X6_size ⟨_, _, rfl⟩ (by decide) rfl (Nat.le_of_ble_eq_true rfl) rfl kdz0 h (fun r σ1 h => wX6_size h) ?_
    clear h; intro t2 σ h
    exact r_iret hX dX1_guessAt_12 h
  · clear h; intro h
    refine r_aload_n hX dX1_guessAt_13 rfl 0 rfl ?_
    refine r_gR hX dX1_guessAt_14 kf_X1_14 rfl h ?_
    clear h; intro t3 h
    refine r_iload_n hX dX1_guessAt_17 rfl 1 rfl ?_
    refine r_cVi (As := [.int l1]) (st := []) hX dX1_guessAt_18 kl_X6_has w_ml_X1_45 w_im_X6_has w_se_X6_has ⟨_, _, rfl⟩ (by decide) rfl (Nat.le_of_ble_eq_true rfl) rfl kdz0 h (fun r σ1 h => wX6_has h) ?_
    clear h; intro t4 σ h
    refine r_if_eq (tgt := 35) hX dX1_guessAt_21 (by decide) h ?_ ?_
    · clear h; intro h
      refine r_bipush hX dX1_guessAt_35 kk_b_m6 ?_
      refine r_sub [] rfl ?_
      exact wX1_guessAt_37 hX h
    · clear h; intro h
      refine r_aload_n hX dX1_guessAt_24 rfl 0 rfl ?_
      refine r_gR hX dX1_guessAt_25 kf_X1_14 rfl h ?_
      clear h; intro t5 h
      refine r_iload_n hX dX1_guessAt_28 rfl 1 rfl ?_
      refine r_cVi (As := [.int l1]) (st := []) hX dX1_guessAt_29 kl_X6_at w_ml_X1_41 w_im_X6_at w_se_X6_at ⟨_, _, rfl⟩ (by decide) rfl (Nat.le_of_ble_eq_true rfl) rfl kdz0 h (fun r σ1 h => wX6_at h) ?_
      clear h; intro t6 σ h
      refine r_goto (tgt := 37) hX dX1_guessAt_32 (by decide) ?_
      refine r_sub [] rfl ?_
      exact wX1_guessAt_37 hX h
def X0_pairs (G : kdS) (l0 : Nat) : kdM → Option (Int32 × kdM) :=
  gI G 0 2 l0 fun t1 =>
  rt t1
set_option maxRecDepth 100000 in
set_option maxHeartbeats 4000000 in
theorem wX0_pairs {E : kdE} {G : kdS} {l0 : Nat} {σ : kdM} {r : Int32} {σ1 : kdM} (h : X0_pairs G l0 σ = some (r, σ1)) : Con E G yX0_pairs cX0_pairs 1 (some .int) 0 [kr E l0] σ (some (.int r), σ1) := by
  refine kd_head (own := RX0) rfl (by decide +kernel) (Nat.le_of_ble_eq_true rfl) (fun A hX => ?_)
  show SW E G (.inl (some (.int r), σ1)) A 1 σ 0 [(0, kr E l0)] []
  unfold X0_pairs at h
  refine r_aload_n hX dX0_pairs_0 rfl 0 rfl ?_
  refine r_gI hX dX0_pairs_1 kf_X0_43 rfl h ?_
  clear h; intro t1 h
  exact r_iret hX dX0_pairs_4 h
def X0_padSize (G : kdS) (l0 : Nat) : kdM → Option (Int32 × kdM) :=
  gR G 0 3 l0 fun t1 =>
  kcv G 6 t1 (X6_size G t1) fun t2 =>
  rt t2
set_option maxRecDepth 100000 in
set_option maxHeartbeats 4000000 in
theorem wX0_padSize {E : kdE} {G : kdS} {l0 : Nat} {σ : kdM} {r : Int32} {σ1 : kdM} (h : X0_padSize G l0 σ = some (r, σ1)) : Con E G yX0_padSize cX0_padSize 1 (some .int) 1 [kr E l0] σ (some (.int r), σ1) := by
  refine kd_head (own := RX0) rfl (by decide +kernel) (Nat.le_of_ble_eq_true rfl) (fun A hX => ?_)
  show SW E G (.inl (some (.int r), σ1)) A 1 σ 0 [(0, kr E l0)] []
  unfold X0_padSize at h
  refine r_aload_n hX dX0_padSize_0 rfl 0 rfl ?_
  refine r_gR hX dX0_padSize_1 kf_X0_21 rfl h ?_
  clear h; intro t1 h
  refine r_cVi (As := []) (st := []) hX dX0_padSize_4 kl_X6_size w_ml_X0_47 w_im_X6_size w_se_X6_size ⟨_, _, rfl⟩ (by decide) rfl (Nat.le_of_ble_eq_true rfl) rfl kdz0 h (fun r σ1 h => wX6_size h) ?_
  clear h; intro t2 σ h
  exact r_iret hX dX0_padSize_7 h
def X2_learnings (G : kdS) (l0 : Nat) : kdM → Option (Int32 × kdM) :=
  gR G 2 0 l0 fun t1 =>
  kcv G 6 t1 (X6_size G t1) fun t2 =>
  rt t2
set_option maxRecDepth 100000 in
set_option maxHeartbeats 4000000 in
theorem wX2_learnings {E : kdE} {G : kdS} {l0 : Nat} {σ : kdM} {r : Int32} {σ1 : kdM} (h : X2_learnings G l0 σ = some (r, σ1)) : Con E G yX2_learnings cX2_learnings 1 (some .int) 1 [kr E l0] σ (some (.int r), σ1) := by
  refine kd_head (own := RX2) rfl (by decide +kernel) (Nat.le_of_ble_eq_true rfl) (fun A hX => ?_)
  show SW E G (.inl (some (.int r), σ1)) A 1 σ 0 [(0, kr E l0)] []
  unfold X2_learnings at h
  refine r_aload_n hX dX2_learnings_0 rfl 0 rfl ?_
  refine r_gR hX dX2_learnings_1 kf_X2_14 rfl h ?_
  clear h; intro t1 h
  refine r_cVi (As := []) (st := []) hX dX2_learnings_4 kl_X6_size w_ml_X2_37 w_im_X6_size w_se_X6_size ⟨_, _, rfl⟩ (by decide) rfl (Nat.le_of_ble_eq_true rfl) rfl kdz0 h (fun r σ1 h => wX6_size h) ?_
  clear h; intro t2 σ h
  exact r_iret hX dX2_learnings_7 h
def X2_isFull (G : kdS) (l0 : Nat) : kdM → Option (Int32 × kdM) :=
  gR G 2 0 l0 fun t1 =>
  kcv G 6 t1 (X6_isFull G t1) fun t2 =>
  rt (vp_nar .boolean t2)
set_option maxRecDepth 100000 in
set_option maxHeartbeats 4000000 in
theorem wX2_isFull {E : kdE} {G : kdS} {l0 : Nat} {σ : kdM} {r : Int32} {σ1 : kdM} (h : X2_isFull G l0 σ = some (r, σ1)) : Con E G yX2_isFull cX2_isFull 1 (some .boolean) 1 [kr E l0] σ (some (.int r), σ1) := by
  refine kd_head (own := RX2) rfl (by decide +kernel) (Nat.le_of_ble_eq_true rfl) (fun A hX => ?_)
  show SW E G (.inl (some (.int r), σ1)) A 1 σ 0 [(0, kr E l0)] []
  unfold X2_isFull at h
  refine r_aload_n hX dX2_isFull_0 rfl 0 rfl ?_
  refine r_gR hX dX2_isFull_1 kf_X2_14 rfl h ?_
  clear h; intro t1 h
  refine r_cVi (As := []) (st := []) hX dX2_isFull_4 kl_X6_isFull w_ml_X2_41 w_im_X6_isFull w_se_X6_isFull ⟨_, _, rfl⟩ (by decide) rfl (Nat.le_of_ble_eq_true rfl) rfl kdz0 h (fun r σ1 h => wX6_isFull h) ?_
  clear h; intro t2 σ h
  exact r_zret hX dX2_isFull_7 h
def X2_addLearning (G : kdS) (l0 : Nat) (l1 : Int32) (l2 : Int32) (l3 : Int32) : kdM → Option (Int32 × kdM) :=
  gR G 2 0 l0 fun t1 =>
  kcv G 6 t1 (X6_add G t1 l1) fun _ =>
  gR G 2 1 l0 fun t2 =>
  kcv G 6 t2 (X6_add G t2 l2) fun _ =>
  gR G 2 2 l0 fun t3 =>
  kcv G 6 t3 (X6_add G t3 l3) fun _ =>
  kcv G 2 l0 (X2_learnings G l0) fun t4 =>
  rt t4
set_option maxRecDepth 100000 in
set_option maxHeartbeats 4000000 in
theorem wX2_addLearning {E : kdE} {G : kdS} {l0 : Nat} {l1 : Int32} {l2 : Int32} {l3 : Int32} {σ : kdM} {r : Int32} {σ1 : kdM} (h : X2_addLearning G l0 l1 l2 l3 σ = some (r, σ1)) : Con E G yX2_addLearning cX2_addLearning 4 (some .int) 3 [kr E l0, .int l1, .int l2, .int l3] σ (some (.int r), σ1) := by
  refine kd_head (own := RX2) rfl (by decide +kernel) (Nat.le_of_ble_eq_true rfl) (fun A hX => ?_)
  show SW E G (.inl (some (.int r), σ1)) A 4 σ 0 [(0, kr E l0), (1, .int l1), (2, .int l2), (3, .int l3)] []
  unfold X2_addLearning at h
  refine r_aload_n hX dX2_addLearning_0 rfl 0 rfl ?_
  refine r_gR hX dX2_addLearning_1 kf_X2_14 rfl h ?_
  clear h; intro t1 h
  refine r_iload_n hX dX2_addLearning_4 rfl 1 rfl ?_
  refine r_cVv (As := [.int l1]) (st := []) hX dX2_addLearning_5 kl_X6_add w_ml_X2_45 w_im_X6_add w_se_X6_add ⟨_, _, rfl⟩ (by decide) rfl (Nat.le_of_ble_eq_true rfl) rfl kdz0 h (fun r σ1 h => wX6_add h) ?_
  clear h; intro u σ h
  refine r_aload_n hX dX2_addLearning_8 rfl 0 rfl ?_
  refine r_gR hX dX2_addLearning_9 kf_X2_20 rfl h ?_
  clear h; intro t2 h
  refine r_iload_n hX dX2_addLearning_12 rfl 2 rfl ?_
  refine r_cVv (As := [.int l2]) (st := []) hX dX2_addLearning_13 kl_X6_add w_ml_X2_45 w_im_X6_add w_se_X6_add ⟨_, _, rfl⟩ (by decide) rfl (Nat.le_of_ble_eq_true rfl) rfl kdz0 h (fun r σ1 h => wX6_add h) ?_
  clear h; intro u σ h
  refine r_aload_n hX dX2_addLearning_16 rfl 0 rfl ?_
  refine r_gR hX dX2_addLearning_17 kf_X2_23 rfl h ?_
  clear h; intro t3 h
  refine r_iload_n hX dX2_addLearning_20 rfl 3 rfl ?_
  refine r_cVv (As := [.int l3]) (st := []) hX dX2_addLearning_21 kl_X6_add w_ml_X2_45 w_im_X6_add w_se_X6_add ⟨_, _, rfl⟩ (by decide) rfl (Nat.le_of_ble_eq_true rfl) rfl kdz0 h (fun r σ1 h => wX6_add h) ?_
  clear h; intro u σ h
  refine r_aload_n hX dX2_addLearning_24 rfl 0 rfl ?_
  refine r_cVi (As := []) (st := []) hX dX2_addLearning_25 kl_X2_learnings w_ml_X2_48 w_im_X2_learnings w_se_X2_learnings ⟨_, _, rfl⟩ (by decide) rfl (Nat.le_of_ble_eq_true rfl) rfl kdz0 h (fun r σ1 h => wX2_learnings h) ?_
  clear h; intro t4 σ h
  exact r_iret hX dX2_addLearning_28 h
def X2_latestDay_37 (G : kdS) (k4 : Nat → Int32 → Int32 → Int32 → kdM → Option (Int32 × kdM)) (l0 : Nat) (l1 : Int32) (l2 : Int32) (l3 : Int32) : kdM → Option (Int32 × kdM) :=
  ltI (l3 + Int32.ofInt 1) fun t1 =>
  k4 l0 l1 l2 t1
set_option maxRecDepth 100000 in
set_option maxHeartbeats 4000000 in
theorem wX2_latestDay_37 {E : kdE} {G : kdS} {A : kdA} {r : Int32} {σ1 : kdM} (hX : kdX E A cX2_latestDay 4 RX2 (some .int) 2) (k4 : Nat → Int32 → Int32 → Int32 → kdM → Option (Int32 × kdM)) (hk4 : ∀ (l0 : Nat) (l1 : Int32) (l2 : Int32) (l3 : Int32) (σ : kdM), k4 l0 l1 l2 l3 σ = some (r, σ1) → SW E G (.inl (some (.int r), σ1)) A 4 σ 4 [(0, kr E l0), (1, .int l1), (2, .int l2), (3, .int l3)] []) {σ : kdM} {l0 : Nat} {l1 : Int32} {l2 : Int32} {l3 : Int32} (h : X2_latestDay_37 G k4 l0 l1 l2 l3 σ = some (r, σ1)) : SW E G (.inl (some (.int r), σ1)) A 4 σ 37 [(0, kr E l0), (1, .int l1), (2, .int l2), (3, .int l3)] [] := by
  unfold X2_latestDay_37 at h
  refine r_iincL (L2 := fun t1 => [(3, .int t1), (0, kr E l0), (1, .int l1), (2, .int l2)]) hX dX2_latestDay_37 h 3 rfl (by decide) (fun _ => rfl) ?_
  clear h; intro t1 h
  refine r_goto (tgt := 4) hX dX2_latestDay_40 (by decide) ?_
  refine r_sub [1, 2, 3, 0] rfl ?_
  exact hk4 _ _ _ _ _ h
def X2_latestDay_4B (G : kdS) (k4 : Nat → Int32 → Int32 → Int32 → kdM → Option (Int32 × kdM)) (l0 : Nat) (l1 : Int32) (l2 : Int32) (l3 : Int32) : kdM → Option (Int32 × kdM) :=
  kcv G 2 l0 (X2_learnings G l0) fun t1 =>
  cnd (t1 ≤ l3)
    (rt l2)
    (gR G 2 0 l0 fun t2 =>
    kcv G 6 t2 (X6_at G t2 l3) fun t3 =>
    cnd (t3 = l1)
      (gR G 2 2 l0 fun t4 =>
      kcv G 6 t4 (X6_at G t4 l3) fun t5 =>
      ltI ((kmax l2 t5)) fun t6 =>
      X2_latestDay_37 G k4 l0 l1 t6 l3)
      (X2_latestDay_37 G k4 l0 l1 l2 l3))
set_option maxRecDepth 100000 in
set_option maxHeartbeats 4000000 in
theorem wX2_latestDay_4B {E : kdE} {G : kdS} {A : kdA} {r : Int32} {σ1 : kdM} (hX : kdX E A cX2_latestDay 4 RX2 (some .int) 2) (k4 : Nat → Int32 → Int32 → Int32 → kdM → Option (Int32 × kdM)) (hk4 : ∀ (l0 : Nat) (l1 : Int32) (l2 : Int32) (l3 : Int32) (σ : kdM), k4 l0 l1 l2 l3 σ = some (r, σ1) → SW E G (.inl (some (.int r), σ1)) A 4 σ 4 [(0, kr E l0), (1, .int l1), (2, .int l2), (3, .int l3)] []) {σ : kdM} {l0 : Nat} {l1 : Int32} {l2 : Int32} {l3 : Int32} (h : X2_latestDay_4B G k4 l0 l1 l2 l3 σ = some (r, σ1)) : SW E G (.inl (some (.int r), σ1)) A 4 σ 4 [(0, kr E l0), (1, .int l1), (2, .int l2), (3, .int l3)] [] := by
  unfold X2_latestDay_4B at h
  refine r_iload_n hX dX2_latestDay_4 rfl 3 rfl ?_
  refine r_aload_n hX dX2_latestDay_5 rfl 0 rfl ?_
  refine r_cVi (As := []) (st := [.int l3]) hX dX2_latestDay_6 kl_X2_learnings w_ml_X2_48 w_im_X2_learnings w_se_X2_learnings ⟨_, _, rfl⟩ (by decide) rfl (Nat.le_of_ble_eq_true rfl) rfl kdz0 h (fun r σ1 h => wX2_learnings h) ?_
  clear h; intro t1 σ h
  refine r_icmp_ge (tgt := 43) hX dX2_latestDay_9 (by decide) h ?_ ?_
  · clear h; intro h
    refine r_iload_n hX dX2_latestDay_43 rfl 2 rfl ?_
    exact r_iret hX dX2_latestDay_44 h
  · clear h; intro h
    refine r_aload_n hX dX2_latestDay_12 rfl 0 rfl ?_
    refine r_gR hX dX2_latestDay_13 kf_X2_14 rfl h ?_
    clear h; intro t2 h
    refine r_iload_n hX dX2_latestDay_16 rfl 3 rfl ?_
    refine r_cVi (As := [.int l3]) (st := []) hX dX2_latestDay_17 kl_X6_at w_ml_X2_51 w_im_X6_at w_se_X6_at ⟨_, _, rfl⟩ (by decide) rfl (Nat.le_of_ble_eq_true rfl) rfl kdz0 h (fun r σ1 h => wX6_at h) ?_
    clear h; intro t3 σ h
    refine r_iload_n hX dX2_latestDay_20 rfl 1 rfl ?_
    refine r_icmp_ne (tgt := 37) hX dX2_latestDay_21 (by decide) h ?_ ?_
    · clear h; intro h
      refine r_iload_n hX dX2_latestDay_24 rfl 2 rfl ?_
      refine r_aload_n hX dX2_latestDay_25 rfl 0 rfl ?_
      refine r_gR hX dX2_latestDay_26 kf_X2_23 rfl h ?_
      clear h; intro t4 h
      refine r_iload_n hX dX2_latestDay_29 rfl 3 rfl ?_
      refine r_cVi (As := [.int l3]) (st := [.int l2]) hX dX2_latestDay_30 kl_X6_at w_ml_X2_51 w_im_X6_at w_se_X6_at ⟨_, _, rfl⟩ (by decide) rfl (Nat.le_of_ble_eq_true rfl) rfl kdz0 h (fun r σ1 h => wX6_at h) ?_
      clear h; intro t5 σ h
      refine r_mmax hX dX2_latestDay_33 w_ml_X2_55 w_st_Math_max w_in_Math w_cd_Math_max (by decide) (Nat.le_of_ble_eq_true rfl) kdz0 ?_
      refine r_letI h ?_
      clear h; intro t6 h
      refine r_istore_n (L2 := [(2, .int t6), (0, kr E l0), (1, .int l1), (3, .int l3)]) hX dX2_latestDay_36 rfl (by decide) rfl ?_
      refine r_sub [1, 2, 0, 3] rfl ?_
      exact wX2_latestDay_37 hX k4 hk4 h
    · clear h; intro h
      refine r_sub [0, 1, 2, 3] rfl ?_
      exact wX2_latestDay_37 hX k4 hk4 h
def X2_latestDay_4 (G : kdS) : Nat → Int32 → Int32 → Int32 → kdM → Option (Int32 × kdM) := lp (fun _ _ _ _ _ => none) (X2_latestDay_4B G) NN
theorem wX2_latestDay_4 {E : kdE} {G : kdS} {A : kdA} {r : Int32} {σ1 : kdM} (hX : kdX E A cX2_latestDay 4 RX2 (some .int) 2) : ∀ (l0 : Nat) (l1 : Int32) (l2 : Int32) (l3 : Int32) (σ : kdM), X2_latestDay_4 G l0 l1 l2 l3 σ = some (r, σ1) → SW E G (.inl (some (.int r), σ1)) A 4 σ 4 [(0, kr E l0), (1, .int l1), (2, .int l2), (3, .int l3)] [] :=
  lp_ind (Q := fun f => ∀ (l0 : Nat) (l1 : Int32) (l2 : Int32) (l3 : Int32) (σ : kdM), f l0 l1 l2 l3 σ = some (r, σ1) → SW E G (.inl (some (.int r), σ1)) A 4 σ 4 [(0, kr E l0), (1, .int l1), (2, .int l2), (3, .int l3)] []) (by intros; contradiction) (fun k hk l0 l1 l2 l3 σ h => wX2_latestDay_4B hX k hk h) NN
def X2_latestDay (G : kdS) (l0 : Nat) (l1 : Int32) : kdM → Option (Int32 × kdM) :=
  X2_latestDay_4 G l0 l1 (0 : Int32) (0 : Int32)
set_option maxRecDepth 100000 in
set_option maxHeartbeats 4000000 in
theorem wX2_latestDay {E : kdE} {G : kdS} {l0 : Nat} {l1 : Int32} {σ : kdM} {r : Int32} {σ1 : kdM} (h : X2_latestDay G l0 l1 σ = some (r, σ1)) : Con E G yX2_latestDay cX2_latestDay 4 (some .int) 2 [kr E l0, .int l1] σ (some (.int r), σ1) := by
  refine kd_head (own := RX2) rfl (by decide +kernel) (Nat.le_of_ble_eq_true rfl) (fun A hX => ?_)
  show SW E G (.inl (some (.int r), σ1)) A 4 σ 0 [(0, kr E l0), (1, .int l1)] []
  unfold X2_latestDay at h
  refine r_iconst hX dX2_latestDay_0 kk_i_0 ?_
  refine r_istore_n (L2 := [(2, .int (0 : Int32)), (0, kr E l0), (1, .int l1)]) hX dX2_latestDay_1 rfl (by decide) rfl ?_
  refine r_iconst hX dX2_latestDay_2 kk_i_0 ?_
  refine r_istore_n (L2 := [(3, .int (0 : Int32)), (2, .int (0 : Int32)), (0, kr E l0), (1, .int l1)]) hX dX2_latestDay_3 rfl (by decide) rfl ?_
  refine r_sub [2, 3, 1, 0] rfl ?_
  exact wX2_latestDay_4 hX _ _ _ _ _ h
def X2_faded_6B (G : kdS) (k6 : Nat → Int32 → Int32 → Int32 → kdM → Option (Int32 × kdM)) (l0 : Nat) (l1 : Int32) (l2 : Int32) (l3 : Int32) : kdM → Option (Int32 × kdM) :=
  cnd (l1 ≤ l3)
    (rt l2)
    (gI G 2 4 l0 fun t1 =>
    nz (1000 : Int32) <|
    ltI (((l2 * t1) / (1000 : Int32))) fun t2 =>
    cnd (t2 = l2)
      (rt l2)
      (ltI (l3 + Int32.ofInt 1) fun t3 =>
      k6 l0 l1 t2 t3))
set_option maxRecDepth 100000 in
set_option maxHeartbeats 4000000 in
theorem wX2_faded_6B {E : kdE} {G : kdS} {A : kdA} {r : Int32} {σ1 : kdM} (hX : kdX E A cX2_faded 5 RX2 (some .int) 0) (k6 : Nat → Int32 → Int32 → Int32 → kdM → Option (Int32 × kdM)) (hk6 : ∀ (l0 : Nat) (l1 : Int32) (l2 : Int32) (l3 : Int32) (σ : kdM), k6 l0 l1 l2 l3 σ = some (r, σ1) → SW E G (.inl (some (.int r), σ1)) A 5 σ 6 [(0, kr E l0), (1, .int l1), (2, .int l2), (3, .int l3)] []) {σ : kdM} {l0 : Nat} {l1 : Int32} {l2 : Int32} {l3 : Int32} (h : X2_faded_6B G k6 l0 l1 l2 l3 σ = some (r, σ1)) : SW E G (.inl (some (.int r), σ1)) A 5 σ 6 [(0, kr E l0), (1, .int l1), (2, .int l2), (3, .int l3)] [] := by
  unfold X2_faded_6B at h
  refine r_iload_n hX dX2_faded_6 rfl 3 rfl ?_
  refine r_iload_n hX dX2_faded_7 rfl 1 rfl ?_
  refine r_icmp_ge (tgt := 40) hX dX2_faded_8 (by decide) h ?_ ?_
  · clear h; intro h
    refine r_iload_n hX dX2_faded_40 rfl 2 rfl ?_
    exact r_iret hX dX2_faded_41 h
  · clear h; intro h
    refine r_iload_n hX dX2_faded_11 rfl 2 rfl ?_
    refine r_aload_n hX dX2_faded_12 rfl 0 rfl ?_
    refine r_gI hX dX2_faded_13 kf_X2_30 rfl h ?_
    clear h; intro t1 h
    refine r_imul hX dX2_faded_16 ?_
    refine r_sipush hX dX2_faded_17 kk_s_1000 ?_
    refine r_idiv hX dX2_faded_20 h ?_
    clear h; intro h
    refine r_letI h ?_
    clear h; intro t2 h
    refine r_istore (L2 := [(4, .int t2), (0, kr E l0), (1, .int l1), (2, .int l2), (3, .int l3)]) hX dX2_faded_21 (by decide) rfl ?_
    refine r_iload hX dX2_faded_23 0 rfl ?_
    refine r_iload_n hX dX2_faded_25 rfl 3 rfl ?_
    refine r_icmp_ne (tgt := 31) hX dX2_faded_26 (by decide) h ?_ ?_
    · clear h; intro h
      refine r_iload_n hX dX2_faded_29 rfl 3 rfl ?_
      exact r_iret hX dX2_faded_30 h
    · clear h; intro h
      refine r_iload hX dX2_faded_31 0 rfl ?_
      refine r_istore_n (L2 := [(2, .int t2), (4, .int t2), (0, kr E l0), (1, .int l1), (3, .int l3)]) hX dX2_faded_33 rfl (by decide) rfl ?_
      refine r_iincL (L2 := fun t3 => [(3, .int t3), (2, .int t2), (4, .int t2), (0, kr E l0), (1, .int l1)]) hX dX2_faded_34 h 4 rfl (by decide) (fun _ => rfl) ?_
      clear h; intro t3 h
      refine r_goto (tgt := 6) hX dX2_faded_37 (by decide) ?_
      refine r_sub [3, 4, 1, 0] rfl ?_
      exact hk6 _ _ _ _ _ h
def X2_faded_6 (G : kdS) : Nat → Int32 → Int32 → Int32 → kdM → Option (Int32 × kdM) := lp (fun _ _ _ _ _ => none) (X2_faded_6B G) NN
theorem wX2_faded_6 {E : kdE} {G : kdS} {A : kdA} {r : Int32} {σ1 : kdM} (hX : kdX E A cX2_faded 5 RX2 (some .int) 0) : ∀ (l0 : Nat) (l1 : Int32) (l2 : Int32) (l3 : Int32) (σ : kdM), X2_faded_6 G l0 l1 l2 l3 σ = some (r, σ1) → SW E G (.inl (some (.int r), σ1)) A 5 σ 6 [(0, kr E l0), (1, .int l1), (2, .int l2), (3, .int l3)] [] :=
  lp_ind (Q := fun f => ∀ (l0 : Nat) (l1 : Int32) (l2 : Int32) (l3 : Int32) (σ : kdM), f l0 l1 l2 l3 σ = some (r, σ1) → SW E G (.inl (some (.int r), σ1)) A 5 σ 6 [(0, kr E l0), (1, .int l1), (2, .int l2), (3, .int l3)] []) (by intros; contradiction) (fun k hk l0 l1 l2 l3 σ h => wX2_faded_6B hX k hk h) NN
def X2_faded (G : kdS) (l0 : Nat) (l1 : Int32) : kdM → Option (Int32 × kdM) :=
  X2_faded_6 G l0 l1 (1000 : Int32) (0 : Int32)
set_option maxRecDepth 100000 in
set_option maxHeartbeats 4000000 in
theorem wX2_faded {E : kdE} {G : kdS} {l0 : Nat} {l1 : Int32} {σ : kdM} {r : Int32} {σ1 : kdM} (h : X2_faded G l0 l1 σ = some (r, σ1)) : Con E G yX2_faded cX2_faded 5 (some .int) 0 [kr E l0, .int l1] σ (some (.int r), σ1) := by
  refine kd_head (own := RX2) rfl (by decide +kernel) (Nat.le_of_ble_eq_true rfl) (fun A hX => ?_)
  show SW E G (.inl (some (.int r), σ1)) A 5 σ 0 [(0, kr E l0), (1, .int l1)] []
  unfold X2_faded at h
  refine r_sipush hX dX2_faded_0 kk_s_1000 ?_
  refine r_istore_n (L2 := [(2, .int (1000 : Int32)), (0, kr E l0), (1, .int l1)]) hX dX2_faded_3 rfl (by decide) rfl ?_
  refine r_iconst hX dX2_faded_4 kk_i_0 ?_
  refine r_istore_n (L2 := [(3, .int (0 : Int32)), (2, .int (1000 : Int32)), (0, kr E l0), (1, .int l1)]) hX dX2_faded_5 rfl (by decide) rfl ?_
  refine r_sub [2, 3, 1, 0] rfl ?_
  exact wX2_faded_6 hX _ _ _ _ _ h
def X2_isOf_29 (G : kdS) (s0 : Int32) : kdM → Option (Int32 × kdM) :=
  rt (vp_nar .boolean s0)
set_option maxRecDepth 100000 in
set_option maxHeartbeats 4000000 in
theorem wX2_isOf_29 {E : kdE} {G : kdS} {A : kdA} {r : Int32} {σ1 : kdM} (hX : kdX E A cX2_isOf 4 RX2 (some .boolean) 1) {σ : kdM} {s0 : Int32} (h : X2_isOf_29 G s0 σ = some (r, σ1)) : SW E G (.inl (some (.int r), σ1)) A 4 σ 29 [] [.int s0] := by
  unfold X2_isOf_29 at h
  exact r_zret hX dX2_isOf_29 h
def X2_isOf_28 (G : kdS) : kdM → Option (Int32 × kdM) :=
  X2_isOf_29 G (0 : Int32)
set_option maxRecDepth 100000 in
set_option maxHeartbeats 4000000 in
theorem wX2_isOf_28 {E : kdE} {G : kdS} {A : kdA} {r : Int32} {σ1 : kdM} (hX : kdX E A cX2_isOf 4 RX2 (some .boolean) 1) {σ : kdM} (h : X2_isOf_28 G  σ = some (r, σ1)) : SW E G (.inl (some (.int r), σ1)) A 4 σ 28 [] [] := by
  unfold X2_isOf_28 at h
  refine r_iconst hX dX2_isOf_28 kk_i_0 ?_
  refine r_sub [] rfl ?_
  exact wX2_isOf_29 hX h
def X2_isOf (G : kdS) (l0 : Nat) (l1 : Int32) (l2 : Int32) (l3 : Int32) : kdM → Option (Int32 × kdM) :=
  gR G 2 0 l0 fun t1 =>
  kcv G 6 t1 (X6_at G t1 l1) fun t2 =>
  cnd (t2 = l2)
    (gR G 2 1 l0 fun t3 =>
    kcv G 6 t3 (X6_at G t3 l1) fun t4 =>
    cnd (t4 = l3)
      (X2_isOf_29 G (1 : Int32))
      (X2_isOf_28 G ))
    (X2_isOf_28 G )
set_option maxRecDepth 100000 in
set_option maxHeartbeats 4000000 in
theorem wX2_isOf {E : kdE} {G : kdS} {l0 : Nat} {l1 : Int32} {l2 : Int32} {l3 : Int32} {σ : kdM} {r : Int32} {σ1 : kdM} (h : X2_isOf G l0 l1 l2 l3 σ = some (r, σ1)) : Con E G yX2_isOf cX2_isOf 4 (some .boolean) 1 [kr E l0, .int l1, .int l2, .int l3] σ (some (.int r), σ1) := by
  refine kd_head (own := RX2) rfl (by decide +kernel) (Nat.le_of_ble_eq_true rfl) (fun A hX => ?_)
  show SW E G (.inl (some (.int r), σ1)) A 4 σ 0 [(0, kr E l0), (1, .int l1), (2, .int l2), (3, .int l3)] []
  unfold X2_isOf at h
  refine r_aload_n hX dX2_isOf_0 rfl 0 rfl ?_
  refine r_gR hX dX2_isOf_1 kf_X2_14 rfl h ?_
  clear h; intro t1 h
  refine r_iload_n hX dX2_isOf_4 rfl 1 rfl ?_
  refine r_cVi (As := [.int l1]) (st := []) hX dX2_isOf_5 kl_X6_at w_ml_X2_51 w_im_X6_at w_se_X6_at ⟨_, _, rfl⟩ (by decide) rfl (Nat.le_of_ble_eq_true rfl) rfl kdz0 h (fun r σ1 h => wX6_at h) ?_
  clear h; intro t2 σ h
  refine r_iload_n hX dX2_isOf_8 rfl 2 rfl ?_
  refine r_icmp_ne (tgt := 28) hX dX2_isOf_9 (by decide) h ?_ ?_
  · clear h; intro h
    refine r_aload_n hX dX2_isOf_12 rfl 0 rfl ?_
    refine r_gR hX dX2_isOf_13 kf_X2_20 rfl h ?_
    clear h; intro t3 h
    refine r_iload_n hX dX2_isOf_16 rfl 1 rfl ?_
    refine r_cVi (As := [.int l1]) (st := []) hX dX2_isOf_17 kl_X6_at w_ml_X2_51 w_im_X6_at w_se_X6_at ⟨_, _, rfl⟩ (by decide) rfl (Nat.le_of_ble_eq_true rfl) rfl kdz0 h (fun r σ1 h => wX6_at h) ?_
    clear h; intro t4 σ h
    refine r_iload_n hX dX2_isOf_20 rfl 3 rfl ?_
    refine r_icmp_ne (tgt := 28) hX dX2_isOf_21 (by decide) h ?_ ?_
    · clear h; intro h
      refine r_iconst hX dX2_isOf_24 kk_i_1 ?_
      refine r_goto (tgt := 29) hX dX2_isOf_25 (by decide) ?_
      refine r_sub [] rfl ?_
      exact wX2_isOf_29 hX h
    · clear h; intro h
      refine r_sub [] rfl ?_
      exact wX2_isOf_28 hX h
  · clear h; intro h
    refine r_sub [] rfl ?_
    exact wX2_isOf_28 hX h
def X2_worthOf_59 (G : kdS) (k6 : Nat → Int32 → Int32 → Int32 → Int32 → Int32 → kdM → Option (Int32 × kdM)) (l0 : Nat) (l1 : Int32) (l2 : Int32) (l3 : Int32) (l4 : Int32) (l5 : Int32) : kdM → Option (Int32 × kdM) :=
  ltI (l5 + Int32.ofInt 1) fun t1 =>
  k6 l0 l1 l2 l3 l4 t1
set_option maxRecDepth 100000 in
set_option maxHeartbeats 4000000 in
theorem wX2_worthOf_59 {E : kdE} {G : kdS} {A : kdA} {r : Int32} {σ1 : kdM} (hX : kdX E A cX2_worthOf 6 RX2 (some .int) 2) (k6 : Nat → Int32 → Int32 → Int32 → Int32 → Int32 → kdM → Option (Int32 × kdM)) (hk6 : ∀ (l0 : Nat) (l1 : Int32) (l2 : Int32) (l3 : Int32) (l4 : Int32) (l5 : Int32) (σ : kdM), k6 l0 l1 l2 l3 l4 l5 σ = some (r, σ1) → SW E G (.inl (some (.int r), σ1)) A 6 σ 6 [(0, kr E l0), (1, .int l1), (2, .int l2), (3, .int l3), (4, .int l4), (5, .int l5)] []) {σ : kdM} {l0 : Nat} {l1 : Int32} {l2 : Int32} {l3 : Int32} {l4 : Int32} {l5 : Int32} (h : X2_worthOf_59 G k6 l0 l1 l2 l3 l4 l5 σ = some (r, σ1)) : SW E G (.inl (some (.int r), σ1)) A 6 σ 59 [(0, kr E l0), (1, .int l1), (2, .int l2), (3, .int l3), (4, .int l4), (5, .int l5)] [] := by
  unfold X2_worthOf_59 at h
  refine r_iincL (L2 := fun t1 => [(5, .int t1), (0, kr E l0), (1, .int l1), (2, .int l2), (3, .int l3), (4, .int l4)]) hX dX2_worthOf_59 h 5 rfl (by decide) (fun _ => rfl) ?_
  clear h; intro t1 h
  refine r_goto (tgt := 6) hX dX2_worthOf_62 (by decide) ?_
  refine r_sub [1, 2, 3, 4, 5, 0] rfl ?_
  exact hk6 _ _ _ _ _ _ _ h
def X2_worthOf_6B (G : kdS) (k6 : Nat → Int32 → Int32 → Int32 → Int32 → Int32 → kdM → Option (Int32 × kdM)) (l0 : Nat) (l1 : Int32) (l2 : Int32) (l3 : Int32) (l4 : Int32) (l5 : Int32) : kdM → Option (Int32 × kdM) :=
  kcv G 2 l0 (X2_learnings G l0) fun t1 =>
  cnd (t1 ≤ l5)
    (rt l4)
    (kcv G 2 l0 (X2_isOf G l0 l5 l1 l2) fun t2 =>
    cnd (t2 = 0)
      (X2_worthOf_59 G k6 l0 l1 l2 l3 l4 l5)
      (gR G 2 2 l0 fun t3 =>
      kcv G 6 t3 (X6_at G t3 l5) fun t4 =>
      cnd (l3 < t4)
        (X2_worthOf_59 G k6 l0 l1 l2 l3 l4 l5)
        (gR G 2 2 l0 fun t5 =>
        kcv G 6 t5 (X6_at G t5 l5) fun t6 =>
        kcv G 2 l0 (X2_faded G l0 (l3 - t6)) fun t7 =>
        ltI ((l4 + t7)) fun t8 =>
        X2_worthOf_59 G k6 l0 l1 l2 l3 t8 l5)))
set_option maxRecDepth 100000 in
set_option maxHeartbeats 4000000 in
theorem wX2_worthOf_6B {E : kdE} {G : kdS} {A : kdA} {r : Int32} {σ1 : kdM} (hX : kdX E A cX2_worthOf 6 RX2 (some .int) 2) (k6 : Nat → Int32 → Int32 → Int32 → Int32 → Int32 → kdM → Option (Int32 × kdM)) (hk6 : ∀ (l0 : Nat) (l1 : Int32) (l2 : Int32) (l3 : Int32) (l4 : Int32) (l5 : Int32) (σ : kdM), k6 l0 l1 l2 l3 l4 l5 σ = some (r, σ1) → SW E G (.inl (some (.int r), σ1)) A 6 σ 6 [(0, kr E l0), (1, .int l1), (2, .int l2), (3, .int l3), (4, .int l4), (5, .int l5)] []) {σ : kdM} {l0 : Nat} {l1 : Int32} {l2 : Int32} {l3 : Int32} {l4 : Int32} {l5 : Int32} (h : X2_worthOf_6B G k6 l0 l1 l2 l3 l4 l5 σ = some (r, σ1)) : SW E G (.inl (some (.int r), σ1)) A 6 σ 6 [(0, kr E l0), (1, .int l1), (2, .int l2), (3, .int l3), (4, .int l4), (5, .int l5)] [] := by
  unfold X2_worthOf_6B at h
  refine r_iload hX dX2_worthOf_6 5 rfl ?_
  refine r_aload_n hX dX2_worthOf_8 rfl 0 rfl ?_
  refine r_cVi (As := []) (st := [.int l5]) hX dX2_worthOf_9 kl_X2_learnings w_ml_X2_48 w_im_X2_learnings w_se_X2_learnings ⟨_, _, rfl⟩ (by decide) rfl (Nat.le_of_ble_eq_true rfl) rfl kdz0 h (fun r σ1 h => wX2_learnings h) ?_
  clear h; intro t1 σ h
  refine r_icmp_ge (tgt := 65) hX dX2_worthOf_12 (by decide) h ?_ ?_
  · clear h; intro h
    refine r_iload hX dX2_worthOf_65 4 rfl ?_
    exact r_iret hX dX2_worthOf_67 h
  · clear h; intro h
    refine r_aload_n hX dX2_worthOf_15 rfl 0 rfl ?_
    refine r_iload hX dX2_worthOf_16 5 rfl ?_
    refine r_iload_n hX dX2_worthOf_18 rfl 1 rfl ?_
    refine r_iload_n hX dX2_worthOf_19 rfl 2 rfl ?_
    refine r_cVi (As := [.int l5, .int l1, .int l2]) (st := []) hX dX2_worthOf_20 kl_X2_isOf w_ml_X2_61 w_im_X2_isOf w_se_X2_isOf ⟨_, _, rfl⟩ (by decide) rfl (Nat.le_of_ble_eq_true rfl) rfl kdz0 h (fun r σ1 h => wX2_isOf h) ?_
    clear h; intro t2 σ h
    refine r_if_eq (tgt := 59) hX dX2_worthOf_23 (by decide) h ?_ ?_
    · clear h; intro h
      refine r_sub [0, 1, 2, 3, 4, 5] rfl ?_
      exact wX2_worthOf_59 hX k6 hk6 h
    · clear h; intro h
      refine r_aload_n hX dX2_worthOf_26 rfl 0 rfl ?_
      refine r_gR hX dX2_worthOf_27 kf_X2_23 rfl h ?_
      clear h; intro t3 h
      refine r_iload hX dX2_worthOf_30 5 rfl ?_
      refine r_cVi (As := [.int l5]) (st := []) hX dX2_worthOf_32 kl_X6_at w_ml_X2_51 w_im_X6_at w_se_X6_at ⟨_, _, rfl⟩ (by decide) rfl (Nat.le_of_ble_eq_true rfl) rfl kdz0 h (fun r σ1 h => wX6_at h) ?_
      clear h; intro t4 σ h
      refine r_iload_n hX dX2_worthOf_35 rfl 3 rfl ?_
      refine r_icmp_gt (tgt := 59) hX dX2_worthOf_36 (by decide) h ?_ ?_
      · clear h; intro h
        refine r_sub [0, 1, 2, 3, 4, 5] rfl ?_
        exact wX2_worthOf_59 hX k6 hk6 h
      · clear h; intro h
        refine r_iload hX dX2_worthOf_39 4 rfl ?_
        refine r_aload_n hX dX2_worthOf_41 rfl 0 rfl ?_
        refine r_iload_n hX dX2_worthOf_42 rfl 3 rfl ?_
        refine r_aload_n hX dX2_worthOf_43 rfl 0 rfl ?_
        refine r_gR hX dX2_worthOf_44 kf_X2_23 rfl h ?_
        clear h; intro t5 h
        refine r_iload hX dX2_worthOf_47 5 rfl ?_
        refine r_cVi (As := [.int l5]) (st := [.int l3, kr E l0, .int l4]) hX dX2_worthOf_49 kl_X6_at w_ml_X2_51 w_im_X6_at w_se_X6_at ⟨_, _, rfl⟩ (by decide) rfl (Nat.le_of_ble_eq_true rfl) rfl kdz0 h (fun r σ1 h => wX6_at h) ?_
        clear h; intro t6 σ h
        refine r_isub hX dX2_worthOf_52 ?_
        refine r_cVi (As := [.int (l3 - t6)]) (st := [.int l4]) hX dX2_worthOf_53 kl_X2_faded w_ml_X2_65 w_im_X2_faded w_se_X2_faded ⟨_, _, rfl⟩ (by decide) rfl (Nat.le_of_ble_eq_true rfl) rfl kdz0 h (fun r σ1 h => wX2_faded h) ?_
        clear h; intro t7 σ h
        refine r_iadd hX dX2_worthOf_56 ?_
        refine r_letI h ?_
        clear h; intro t8 h
        refine r_istore (L2 := [(4, .int t8), (0, kr E l0), (1, .int l1), (2, .int l2), (3, .int l3), (5, .int l5)]) hX dX2_worthOf_57 (by decide) rfl ?_
        refine r_sub [1, 2, 3, 4, 0, 5] rfl ?_
        exact wX2_worthOf_59 hX k6 hk6 h
def X2_worthOf_6 (G : kdS) : Nat → Int32 → Int32 → Int32 → Int32 → Int32 → kdM → Option (Int32 × kdM) := lp (fun _ _ _ _ _ _ _ => none) (X2_worthOf_6B G) NN
theorem wX2_worthOf_6 {E : kdE} {G : kdS} {A : kdA} {r : Int32} {σ1 : kdM} (hX : kdX E A cX2_worthOf 6 RX2 (some .int) 2) : ∀ (l0 : Nat) (l1 : Int32) (l2 : Int32) (l3 : Int32) (l4 : Int32) (l5 : Int32) (σ : kdM), X2_worthOf_6 G l0 l1 l2 l3 l4 l5 σ = some (r, σ1) → SW E G (.inl (some (.int r), σ1)) A 6 σ 6 [(0, kr E l0), (1, .int l1), (2, .int l2), (3, .int l3), (4, .int l4), (5, .int l5)] [] :=
  lp_ind (Q := fun f => ∀ (l0 : Nat) (l1 : Int32) (l2 : Int32) (l3 : Int32) (l4 : Int32) (l5 : Int32) (σ : kdM), f l0 l1 l2 l3 l4 l5 σ = some (r, σ1) → SW E G (.inl (some (.int r), σ1)) A 6 σ 6 [(0, kr E l0), (1, .int l1), (2, .int l2), (3, .int l3), (4, .int l4), (5, .int l5)] []) (by intros; contradiction) (fun k hk l0 l1 l2 l3 l4 l5 σ h => wX2_worthOf_6B hX k hk h) NN
def X2_worthOf (G : kdS) (l0 : Nat) (l1 : Int32) (l2 : Int32) (l3 : Int32) : kdM → Option (Int32 × kdM) :=
  X2_worthOf_6 G l0 l1 l2 l3 (0 : Int32) (0 : Int32)
set_option maxRecDepth 100000 in
set_option maxHeartbeats 4000000 in
theorem wX2_worthOf {E : kdE} {G : kdS} {l0 : Nat} {l1 : Int32} {l2 : Int32} {l3 : Int32} {σ : kdM} {r : Int32} {σ1 : kdM} (h : X2_worthOf G l0 l1 l2 l3 σ = some (r, σ1)) : Con E G yX2_worthOf cX2_worthOf 6 (some .int) 2 [kr E l0, .int l1, .int l2, .int l3] σ (some (.int r), σ1) := by
  refine kd_head (own := RX2) rfl (by decide +kernel) (Nat.le_of_ble_eq_true rfl) (fun A hX => ?_)
  show SW E G (.inl (some (.int r), σ1)) A 6 σ 0 [(0, kr E l0), (1, .int l1), (2, .int l2), (3, .int l3)] []
  unfold X2_worthOf at h
  refine r_iconst hX dX2_worthOf_0 kk_i_0 ?_
  refine r_istore (L2 := [(4, .int (0 : Int32)), (0, kr E l0), (1, .int l1), (2, .int l2), (3, .int l3)]) hX dX2_worthOf_1 (by decide) rfl ?_
  refine r_iconst hX dX2_worthOf_3 kk_i_0 ?_
  refine r_istore (L2 := [(5, .int (0 : Int32)), (4, .int (0 : Int32)), (0, kr E l0), (1, .int l1), (2, .int l2), (3, .int l3)]) hX dX2_worthOf_4 (by decide) rfl ?_
  refine r_sub [2, 3, 4, 5, 1, 0] rfl ?_
  exact wX2_worthOf_6 hX _ _ _ _ _ _ _ h
def X2_dropLearnings_73 (G : kdS) (k10 : Nat → Int32 → Int32 → Int32 → Int32 → kdM → Option (Int32 × kdM)) (l0 : Nat) (l1 : Int32) (l2 : Int32) (l3 : Int32) (l4 : Int32) : kdM → Option (Int32 × kdM) :=
  ltI (l4 + Int32.ofInt (-1)) fun t1 =>
  k10 l0 l1 l2 l3 t1
set_option maxRecDepth 100000 in
set_option maxHeartbeats 4000000 in
theorem wX2_dropLearnings_73 {E : kdE} {G : kdS} {A : kdA} {r : Int32} {σ1 : kdM} (hX : kdX E A cX2_dropLearnings 5 RX2 (some .int) 2) (k10 : Nat → Int32 → Int32 → Int32 → Int32 → kdM → Option (Int32 × kdM)) (hk10 : ∀ (l0 : Nat) (l1 : Int32) (l2 : Int32) (l3 : Int32) (l4 : Int32) (σ : kdM), k10 l0 l1 l2 l3 l4 σ = some (r, σ1) → SW E G (.inl (some (.int r), σ1)) A 5 σ 10 [(0, kr E l0), (1, .int l1), (2, .int l2), (3, .int l3), (4, .int l4)] []) {σ : kdM} {l0 : Nat} {l1 : Int32} {l2 : Int32} {l3 : Int32} {l4 : Int32} (h : X2_dropLearnings_73 G k10 l0 l1 l2 l3 l4 σ = some (r, σ1)) : SW E G (.inl (some (.int r), σ1)) A 5 σ 73 [(0, kr E l0), (1, .int l1), (2, .int l2), (3, .int l3), (4, .int l4)] [] := by
  unfold X2_dropLearnings_73 at h
  refine r_iincL (L2 := fun t1 => [(4, .int t1), (0, kr E l0), (1, .int l1), (2, .int l2), (3, .int l3)]) hX dX2_dropLearnings_73 h 4 rfl (by decide) (fun _ => rfl) ?_
  clear h; intro t1 h
  refine r_goto (tgt := 10) hX dX2_dropLearnings_76 (by decide) ?_
  refine r_sub [1, 2, 3, 4, 0] rfl ?_
  exact hk10 _ _ _ _ _ _ h
def X2_dropLearnings_37 (G : kdS) (k10 : Nat → Int32 → Int32 → Int32 → Int32 → kdM → Option (Int32 × kdM)) (l0 : Nat) (l1 : Int32) (l2 : Int32) (l3 : Int32) (l4 : Int32) (s0 : Nat) (s1 : Int32) (s2 : Int32) (s3 : Int32) : kdM → Option (Int32 × kdM) :=
  kcv G 2 s0 (X2_isOf G s0 s1 s2 s3) fun t1 =>
  cnd (t1 = 0)
    (X2_dropLearnings_73 G k10 l0 l1 l2 l3 l4)
    (gR G 2 0 l0 fun t2 =>
    kcv G 6 t2 (X6_remove G t2 l4) fun t3 =>
    gR G 2 1 l0 fun t4 =>
    kcv G 6 t4 (X6_remove G t4 l4) fun t5 =>
    gR G 2 2 l0 fun t6 =>
    kcv G 6 t6 (X6_remove G t6 l4) fun t7 =>
    X2_dropLearnings_73 G k10 l0 l1 l2 l3 l4)
set_option maxRecDepth 100000 in
set_option maxHeartbeats 4000000 in
theorem wX2_dropLearnings_37 {E : kdE} {G : kdS} {A : kdA} {r : Int32} {σ1 : kdM} (hX : kdX E A cX2_dropLearnings 5 RX2 (some .int) 2) (k10 : Nat → Int32 → Int32 → Int32 → Int32 → kdM → Option (Int32 × kdM)) (hk10 : ∀ (l0 : Nat) (l1 : Int32) (l2 : Int32) (l3 : Int32) (l4 : Int32) (σ : kdM), k10 l0 l1 l2 l3 l4 σ = some (r, σ1) → SW E G (.inl (some (.int r), σ1)) A 5 σ 10 [(0, kr E l0), (1, .int l1), (2, .int l2), (3, .int l3), (4, .int l4)] []) {σ : kdM} {l0 : Nat} {l1 : Int32} {l2 : Int32} {l3 : Int32} {l4 : Int32} {s0 : Nat} {s1 : Int32} {s2 : Int32} {s3 : Int32} (h : X2_dropLearnings_37 G k10 l0 l1 l2 l3 l4 s0 s1 s2 s3 σ = some (r, σ1)) : SW E G (.inl (some (.int r), σ1)) A 5 σ 37 [(0, kr E l0), (1, .int l1), (2, .int l2), (3, .int l3), (4, .int l4)] [.int s3, .int s2, .int s1, kr E s0] := by
  unfold X2_dropLearnings_37 at h
  refine r_cVi (As := [.int s1, .int s2, .int s3]) (st := []) hX dX2_dropLearnings_37 kl_X2_isOf w_ml_X2_61 w_im_X2_isOf w_se_X2_isOf ⟨_, _, rfl⟩ (by decide) rfl (Nat.le_of_ble_eq_true rfl) rfl kdz0 h (fun r σ1 h => wX2_isOf h) ?_
  clear h; intro t1 σ h
  refine r_if_eq (tgt := 73) hX dX2_dropLearnings_40 (by decide) h ?_ ?_
  · clear h; intro h
    refine r_sub [0, 1, 2, 3, 4] rfl ?_
    exact wX2_dropLearnings_73 hX k10 hk10 h
  · clear h; intro h
    refine r_aload_n hX dX2_dropLearnings_43 rfl 0 rfl ?_
    refine r_gR hX dX2_dropLearnings_44 kf_X2_14 rfl h ?_
    clear h; intro t2 h
    refine r_iload hX dX2_dropLearnings_47 4 rfl ?_
    refine r_cVi (As := [.int l4]) (st := []) hX dX2_dropLearnings_49 kl_X6_remove w_ml_X2_68 w_im_X6_remove w_se_X6_remove ⟨_, _, rfl⟩ (by decide) rfl (Nat.le_of_ble_eq_true rfl) rfl kdz0 h (fun r σ1 h => wX6_remove h) ?_
    clear h; intro t3 σ h
    refine r_pop hX dX2_dropLearnings_52 rfl ?_
    refine r_aload_n hX dX2_dropLearnings_53 rfl 0 rfl ?_
    refine r_gR hX dX2_dropLearnings_54 kf_X2_20 rfl h ?_
    clear h; intro t4 h
    refine r_iload hX dX2_dropLearnings_57 4 rfl ?_
    refine r_cVi (As := [.int l4]) (st := []) hX dX2_dropLearnings_59 kl_X6_remove w_ml_X2_68 w_im_X6_remove w_se_X6_remove ⟨_, _, rfl⟩ (by decide) rfl (Nat.le_of_ble_eq_true rfl) rfl kdz0 h (fun r σ1 h => wX6_remove h) ?_
    clear h; intro t5 σ h
    refine r_pop hX dX2_dropLearnings_62 rfl ?_
    refine r_aload_n hX dX2_dropLearnings_63 rfl 0 rfl ?_
    refine r_gR hX dX2_dropLearnings_64 kf_X2_23 rfl h ?_
    clear h; intro t6 h
    refine r_iload hX dX2_dropLearnings_67 4 rfl ?_
    refine r_cVi (As := [.int l4]) (st := []) hX dX2_dropLearnings_69 kl_X6_remove w_ml_X2_68 w_im_X6_remove w_se_X6_remove ⟨_, _, rfl⟩ (by decide) rfl (Nat.le_of_ble_eq_true rfl) rfl kdz0 h (fun r σ1 h => wX6_remove h) ?_
    clear h; intro t7 σ h
    refine r_pop hX dX2_dropLearnings_72 rfl ?_
    refine r_sub [0, 1, 2, 3, 4] rfl ?_
    exact wX2_dropLearnings_73 hX k10 hk10 h
def X2_dropLearnings_10B (G : kdS) (k10 : Nat → Int32 → Int32 → Int32 → Int32 → kdM → Option (Int32 × kdM)) (l0 : Nat) (l1 : Int32) (l2 : Int32) (l3 : Int32) (l4 : Int32) : kdM → Option (Int32 × kdM) :=
  cnd (l4 < 0)
    (kcv G 2 l0 (X2_learnings G l0) fun t1 =>
    rt (l3 - t1))
    (cnd (l2 = (-1 : Int32))
      (gR G 2 1 l0 fun t2 =>
      kcv G 6 t2 (X6_at G t2 l4) fun t3 =>
      X2_dropLearnings_37 G k10 l0 l1 l2 l3 l4 l0 l4 l1 t3)
      (X2_dropLearnings_37 G k10 l0 l1 l2 l3 l4 l0 l4 l1 l2))
set_option maxRecDepth 100000 in
set_option maxHeartbeats 4000000 in
theorem wX2_dropLearnings_10B {E : kdE} {G : kdS} {A : kdA} {r : Int32} {σ1 : kdM} (hX : kdX E A cX2_dropLearnings 5 RX2 (some .int) 2) (k10 : Nat → Int32 → Int32 → Int32 → Int32 → kdM → Option (Int32 × kdM)) (hk10 : ∀ (l0 : Nat) (l1 : Int32) (l2 : Int32) (l3 : Int32) (l4 : Int32) (σ : kdM), k10 l0 l1 l2 l3 l4 σ = some (r, σ1) → SW E G (.inl (some (.int r), σ1)) A 5 σ 10 [(0, kr E l0), (1, .int l1), (2, .int l2), (3, .int l3), (4, .int l4)] []) {σ : kdM} {l0 : Nat} {l1 : Int32} {l2 : Int32} {l3 : Int32} {l4 : Int32} (h : X2_dropLearnings_10B G k10 l0 l1 l2 l3 l4 σ = some (r, σ1)) : SW E G (.inl (some (.int r), σ1)) A 5 σ 10 [(0, kr E l0), (1, .int l1), (2, .int l2), (3, .int l3), (4, .int l4)] [] := by
  unfold X2_dropLearnings_10B at h
  refine r_iload hX dX2_dropLearnings_10 4 rfl ?_
  refine r_if_lt (tgt := 79) hX dX2_dropLearnings_12 (by decide) h ?_ ?_
  · clear h; intro h
    refine r_iload_n hX dX2_dropLearnings_79 rfl 3 rfl ?_
    refine r_aload_n hX dX2_dropLearnings_80 rfl 0 rfl ?_
    refine r_cVi (As := []) (st := [.int l3]) hX dX2_dropLearnings_81 kl_X2_learnings w_ml_X2_48 w_im_X2_learnings w_se_X2_learnings ⟨_, _, rfl⟩ (by decide) rfl (Nat.le_of_ble_eq_true rfl) rfl kdz0 h (fun r σ1 h => wX2_learnings h) ?_
    clear h; intro t1 σ h
    refine r_isub hX dX2_dropLearnings_84 ?_
    exact r_iret hX dX2_dropLearnings_85 h
  · clear h; intro h
    refine r_aload_n hX dX2_dropLearnings_15 rfl 0 rfl ?_
    refine r_iload hX dX2_dropLearnings_16 4 rfl ?_
    refine r_iload_n hX dX2_dropLearnings_18 rfl 1 rfl ?_
    refine r_iload_n hX dX2_dropLearnings_19 rfl 2 rfl ?_
    refine r_iconst hX dX2_dropLearnings_20 kk_i_m1 ?_
    refine r_icmp_ne (tgt := 36) hX dX2_dropLearnings_21 (by decide) h ?_ ?_
    · clear h; intro h
      refine r_aload_n hX dX2_dropLearnings_24 rfl 0 rfl ?_
      refine r_gR hX dX2_dropLearnings_25 kf_X2_20 rfl h ?_
      clear h; intro t2 h
      refine r_iload hX dX2_dropLearnings_28 4 rfl ?_
      refine r_cVi (As := [.int l4]) (st := [.int l1, .int l4, kr E l0]) hX dX2_dropLearnings_30 kl_X6_at w_ml_X2_51 w_im_X6_at w_se_X6_at ⟨_, _, rfl⟩ (by decide) rfl (Nat.le_of_ble_eq_true rfl) rfl kdz0 h (fun r σ1 h => wX6_at h) ?_
      clear h; intro t3 σ h
      refine r_goto (tgt := 37) hX dX2_dropLearnings_33 (by decide) ?_
      refine r_sub [0, 1, 2, 3, 4] rfl ?_
      exact wX2_dropLearnings_37 hX k10 hk10 h
    · clear h; intro h
      refine r_iload_n hX dX2_dropLearnings_36 rfl 2 rfl ?_
      refine r_sub [0, 1, 2, 3, 4] rfl ?_
      exact wX2_dropLearnings_37 hX k10 hk10 h
def X2_dropLearnings_10 (G : kdS) : Nat → Int32 → Int32 → Int32 → Int32 → kdM → Option (Int32 × kdM) := lp (fun _ _ _ _ _ _ => none) (X2_dropLearnings_10B G) NN
theorem wX2_dropLearnings_10 {E : kdE} {G : kdS} {A : kdA} {r : Int32} {σ1 : kdM} (hX : kdX E A cX2_dropLearnings 5 RX2 (some .int) 2) : ∀ (l0 : Nat) (l1 : Int32) (l2 : Int32) (l3 : Int32) (l4 : Int32) (σ : kdM), X2_dropLearnings_10 G l0 l1 l2 l3 l4 σ = some (r, σ1) → SW E G (.inl (some (.int r), σ1)) A 5 σ 10 [(0, kr E l0), (1, .int l1), (2, .int l2), (3, .int l3), (4, .int l4)] [] :=
  lp_ind (Q := fun f => ∀ (l0 : Nat) (l1 : Int32) (l2 : Int32) (l3 : Int32) (l4 : Int32) (σ : kdM), f l0 l1 l2 l3 l4 σ = some (r, σ1) → SW E G (.inl (some (.int r), σ1)) A 5 σ 10 [(0, kr E l0), (1, .int l1), (2, .int l2), (3, .int l3), (4, .int l4)] []) (by intros; contradiction) (fun k hk l0 l1 l2 l3 l4 σ h => wX2_dropLearnings_10B hX k hk h) NN
def X2_dropLearnings (G : kdS) (l0 : Nat) (l1 : Int32) (l2 : Int32) : kdM → Option (Int32 × kdM) :=
  kcv G 2 l0 (X2_learnings G l0) fun t1 =>
  ltI ((t1 - (1 : Int32))) fun t2 =>
  X2_dropLearnings_10 G l0 l1 l2 t1 t2
set_option maxRecDepth 100000 in
set_option maxHeartbeats 4000000 in
theorem wX2_dropLearnings {E : kdE} {G : kdS} {l0 : Nat} {l1 : Int32} {l2 : Int32} {σ : kdM} {r : Int32} {σ1 : kdM} (h : X2_dropLearnings G l0 l1 l2 σ = some (r, σ1)) : Con E G yX2_dropLearnings cX2_dropLearnings 5 (some .int) 2 [kr E l0, .int l1, .int l2] σ (some (.int r), σ1) := by
  refine kd_head (own := RX2) rfl (by decide +kernel) (Nat.le_of_ble_eq_true rfl) (fun A hX => ?_)
  show SW E G (.inl (some (.int r), σ1)) A 5 σ 0 [(0, kr E l0), (1, .int l1), (2, .int l2)] []
  unfold X2_dropLearnings at h
  refine r_aload_n hX dX2_dropLearnings_0 rfl 0 rfl ?_
  refine r_cVi (As := []) (st := []) hX dX2_dropLearnings_1 kl_X2_learnings w_ml_X2_48 w_im_X2_learnings w_se_X2_learnings ⟨_, _, rfl⟩ (by decide) rfl (Nat.le_of_ble_eq_true rfl) rfl kdz0 h (fun r σ1 h => wX2_learnings h) ?_
  clear h; intro t1 σ h
  refine r_istore_n (L2 := [(3, .int t1), (0, kr E l0), (1, .int l1), (2, .int l2)]) hX dX2_dropLearnings_4 rfl (by decide) rfl ?_
  refine r_iload_n hX dX2_dropLearnings_5 rfl 0 rfl ?_
  refine r_iconst hX dX2_dropLearnings_6 kk_i_1 ?_
  refine r_isub hX dX2_dropLearnings_7 ?_
  refine r_letI h ?_
  clear h; intro t2 h
  refine r_istore (L2 := [(4, .int t2), (3, .int t1), (0, kr E l0), (1, .int l1), (2, .int l2)]) hX dX2_dropLearnings_8 (by decide) rfl ?_
  refine r_sub [2, 3, 4, 1, 0] rfl ?_
  exact wX2_dropLearnings_10 hX _ _ _ _ _ _ h
def X2_setFade (G : kdS) (l0 : Nat) (l1 : Int32) : kdM → Option (Int32 × kdM) :=
  gI G 2 4 l0 fun t1 =>
  sI G 2 4 l0 (l1) <|
  rt t1
set_option maxRecDepth 100000 in
set_option maxHeartbeats 4000000 in
theorem wX2_setFade {E : kdE} {G : kdS} {l0 : Nat} {l1 : Int32} {σ : kdM} {r : Int32} {σ1 : kdM} (h : X2_setFade G l0 l1 σ = some (r, σ1)) : Con E G yX2_setFade cX2_setFade 3 (some .int) 0 [kr E l0, .int l1] σ (some (.int r), σ1) := by
  refine kd_head (own := RX2) rfl (by decide +kernel) (Nat.le_of_ble_eq_true rfl) (fun A hX => ?_)
  show SW E G (.inl (some (.int r), σ1)) A 3 σ 0 [(0, kr E l0), (1, .int l1)] []
  unfold X2_setFade at h
  refine r_aload_n hX dX2_setFade_0 rfl 0 rfl ?_
  refine r_gI hX dX2_setFade_1 kf_X2_30 rfl h ?_
  clear h; intro t1 h
  refine r_istore_n (L2 := [(2, .int t1), (0, kr E l0), (1, .int l1)]) hX dX2_setFade_4 rfl (by decide) rfl ?_
  refine r_aload_n hX dX2_setFade_5 rfl 1 rfl ?_
  refine r_iload_n hX dX2_setFade_6 rfl 2 rfl ?_
  refine r_sI hX dX2_setFade_7 kf_X2_30 rfl (by intro q hq; cases hq; rfl) h ?_
  clear h; intro σ h
  refine r_iload_n hX dX2_setFade_10 rfl 0 rfl ?_
  exact r_iret hX dX2_setFade_11 h
def X2_budgetOf (G : kdS) (l0 : Nat) (l1 : Int32) : kdM → Option (Int32 × kdM) :=
  gR G 2 3 l0 fun t1 =>
  aI G t1 (l1) fun t2 =>
  rt t2
set_option maxRecDepth 100000 in
set_option maxHeartbeats 4000000 in
theorem wX2_budgetOf {E : kdE} {G : kdS} {l0 : Nat} {l1 : Int32} {σ : kdM} {r : Int32} {σ1 : kdM} (h : X2_budgetOf G l0 l1 σ = some (r, σ1)) : Con E G yX2_budgetOf cX2_budgetOf 2 (some .int) 0 [kr E l0, .int l1] σ (some (.int r), σ1) := by
  refine kd_head (own := RX2) rfl (by decide +kernel) (Nat.le_of_ble_eq_true rfl) (fun A hX => ?_)
  show SW E G (.inl (some (.int r), σ1)) A 2 σ 0 [(0, kr E l0), (1, .int l1)] []
  unfold X2_budgetOf at h
  refine r_aload_n hX dX2_budgetOf_0 rfl 0 rfl ?_
  refine r_gR hX dX2_budgetOf_1 kf_X2_26 rfl h ?_
  clear h; intro t1 h
  refine r_iload_n hX dX2_budgetOf_4 rfl 1 rfl ?_
  refine r_aI hX dX2_budgetOf_5 h ?_
  clear h; intro t2 h
  exact r_iret hX dX2_budgetOf_6 h
def X2_setBudget (G : kdS) (l0 : Nat) (l1 : Int32) (l2 : Int32) : kdM → Option (Int32 × kdM) :=
  gR G 2 3 l0 fun t1 =>
  aI G t1 (l1) fun t2 =>
  gR G 2 3 l0 fun t3 =>
  tI G t3 (l1) (l2) <|
  rt t2
set_option maxRecDepth 100000 in
set_option maxHeartbeats 4000000 in
theorem wX2_setBudget {E : kdE} {G : kdS} {l0 : Nat} {l1 : Int32} {l2 : Int32} {σ : kdM} {r : Int32} {σ1 : kdM} (h : X2_setBudget G l0 l1 l2 σ = some (r, σ1)) : Con E G yX2_setBudget cX2_setBudget 4 (some .int) 0 [kr E l0, .int l1, .int l2] σ (some (.int r), σ1) := by
  refine kd_head (own := RX2) rfl (by decide +kernel) (Nat.le_of_ble_eq_true rfl) (fun A hX => ?_)
  show SW E G (.inl (some (.int r), σ1)) A 4 σ 0 [(0, kr E l0), (1, .int l1), (2, .int l2)] []
  unfold X2_setBudget at h
  refine r_aload_n hX dX2_setBudget_0 rfl 0 rfl ?_
  refine r_gR hX dX2_setBudget_1 kf_X2_26 rfl h ?_
  clear h; intro t1 h
  refine r_iload_n hX dX2_setBudget_4 rfl 1 rfl ?_
  refine r_aI hX dX2_setBudget_5 h ?_
  clear h; intro t2 h
  refine r_istore_n (L2 := [(3, .int t2), (0, kr E l0), (1, .int l1), (2, .int l2)]) hX dX2_setBudget_6 rfl (by decide) rfl ?_
  refine r_aload_n hX dX2_setBudget_7 rfl 1 rfl ?_
  refine r_gR hX dX2_setBudget_8 kf_X2_26 rfl h ?_
  clear h; intro t3 h
  refine r_iload_n hX dX2_setBudget_11 rfl 2 rfl ?_
  refine r_iload_n hX dX2_setBudget_12 rfl 3 rfl ?_
  refine r_tI hX dX2_setBudget_13 h ?_
  clear h; intro σ h
  refine r_iload_n hX dX2_setBudget_14 rfl 0 rfl ?_
  exact r_iret hX dX2_setBudget_15 h
def X2_setSeed (G : kdS) (l0 : Nat) (l1 : Int32) : kdM → Option (Int32 × kdM) :=
  gI G 2 5 l0 fun t1 =>
  sI G 2 5 l0 (l1) <|
  rt t1
set_option maxRecDepth 100000 in
set_option maxHeartbeats 4000000 in
theorem wX2_setSeed {E : kdE} {G : kdS} {l0 : Nat} {l1 : Int32} {σ : kdM} {r : Int32} {σ1 : kdM} (h : X2_setSeed G l0 l1 σ = some (r, σ1)) : Con E G yX2_setSeed cX2_setSeed 3 (some .int) 0 [kr E l0, .int l1] σ (some (.int r), σ1) := by
  refine kd_head (own := RX2) rfl (by decide +kernel) (Nat.le_of_ble_eq_true rfl) (fun A hX => ?_)
  show SW E G (.inl (some (.int r), σ1)) A 3 σ 0 [(0, kr E l0), (1, .int l1)] []
  unfold X2_setSeed at h
  refine r_aload_n hX dX2_setSeed_0 rfl 0 rfl ?_
  refine r_gI hX dX2_setSeed_1 kf_X2_34 rfl h ?_
  clear h; intro t1 h
  refine r_istore_n (L2 := [(2, .int t1), (0, kr E l0), (1, .int l1)]) hX dX2_setSeed_4 rfl (by decide) rfl ?_
  refine r_aload_n hX dX2_setSeed_5 rfl 1 rfl ?_
  refine r_iload_n hX dX2_setSeed_6 rfl 2 rfl ?_
  refine r_sI hX dX2_setSeed_7 kf_X2_34 rfl (by intro q hq; cases hq; rfl) h ?_
  clear h; intro σ h
  refine r_iload_n hX dX2_setSeed_10 rfl 0 rfl ?_
  exact r_iret hX dX2_setSeed_11 h
def X2_givers_25 (G : kdS) (k4 : Nat → Int32 → Int32 → Int32 → kdM → Option (Int32 × kdM)) (l0 : Nat) (l1 : Int32) (l3 : Int32) (s0 : Int32) (s1 : Int32) : kdM → Option (Int32 × kdM) :=
  ltI ((s0 + s1)) fun t1 =>
  ltI (l3 + Int32.ofInt 1) fun t2 =>
  k4 l0 l1 t1 t2
set_option maxRecDepth 100000 in
set_option maxHeartbeats 4000000 in
theorem wX2_givers_25 {E : kdE} {G : kdS} {A : kdA} {r : Int32} {σ1 : kdM} (hX : kdX E A cX2_givers 4 RX2 (some .int) 0) (k4 : Nat → Int32 → Int32 → Int32 → kdM → Option (Int32 × kdM)) (hk4 : ∀ (l0 : Nat) (l1 : Int32) (l2 : Int32) (l3 : Int32) (σ : kdM), k4 l0 l1 l2 l3 σ = some (r, σ1) → SW E G (.inl (some (.int r), σ1)) A 4 σ 4 [(0, kr E l0), (1, .int l1), (2, .int l2), (3, .int l3)] []) {σ : kdM} {l0 : Nat} {l1 : Int32} {l3 : Int32} {s0 : Int32} {s1 : Int32} (h : X2_givers_25 G k4 l0 l1 l3 s0 s1 σ = some (r, σ1)) : SW E G (.inl (some (.int r), σ1)) A 4 σ 25 [(0, kr E l0), (1, .int l1), (3, .int l3)] [.int s1, .int s0] := by
  unfold X2_givers_25 at h
  refine r_iadd hX dX2_givers_25 ?_
  refine r_letI h ?_
  clear h; intro t1 h
  refine r_istore_n (L2 := [(2, .int t1), (0, kr E l0), (1, .int l1), (3, .int l3)]) hX dX2_givers_26 rfl (by decide) rfl ?_
  refine r_iincL (L2 := fun t2 => [(3, .int t2), (2, .int t1), (0, kr E l0), (1, .int l1)]) hX dX2_givers_27 h 3 rfl (by decide) (fun _ => rfl) ?_
  clear h; intro t2 h
  refine r_goto (tgt := 4) hX dX2_givers_30 (by decide) ?_
  refine r_sub [2, 3, 1, 0] rfl ?_
  exact hk4 _ _ _ _ _ h
def X2_givers_4B (G : kdS) (k4 : Nat → Int32 → Int32 → Int32 → kdM → Option (Int32 × kdM)) (l0 : Nat) (l1 : Int32) (l2 : Int32) (l3 : Int32) : kdM → Option (Int32 × kdM) :=
  cnd ((4 : Int32) ≤ l3)
    (rt l2)
    (gR G 2 3 l0 fun t1 =>
    aI G t1 (l3) fun t2 =>
    cnd (t2 < l1)
      (X2_givers_25 G k4 l0 l1 l3 l2 (0 : Int32))
      (X2_givers_25 G k4 l0 l1 l3 l2 (1 : Int32)))
set_option maxRecDepth 100000 in
set_option maxHeartbeats 4000000 in
theorem wX2_givers_4B {E : kdE} {G : kdS} {A : kdA} {r : Int32} {σ1 : kdM} (hX : kdX E A cX2_givers 4 RX2 (some .int) 0) (k4 : Nat → Int32 → Int32 → Int32 → kdM → Option (Int32 × kdM)) (hk4 : ∀ (l0 : Nat) (l1 : Int32) (l2 : Int32) (l3 : Int32) (σ : kdM), k4 l0 l1 l2 l3 σ = some (r, σ1) → SW E G (.inl (some (.int r), σ1)) A 4 σ 4 [(0, kr E l0), (1, .int l1), (2, .int l2), (3, .int l3)] []) {σ : kdM} {l0 : Nat} {l1 : Int32} {l2 : Int32} {l3 : Int32} (h : X2_givers_4B G k4 l0 l1 l2 l3 σ = some (r, σ1)) : SW E G (.inl (some (.int r), σ1)) A 4 σ 4 [(0, kr E l0), (1, .int l1), (2, .int l2), (3, .int l3)] [] := by
  unfold X2_givers_4B at h
  refine r_iload_n hX dX2_givers_4 rfl 3 rfl ?_
  refine r_iconst hX dX2_givers_5 kk_i_4 ?_
  refine r_icmp_ge (tgt := 33) hX dX2_givers_6 (by decide) h ?_ ?_
  · clear h; intro h
    refine r_iload_n hX dX2_givers_33 rfl 2 rfl ?_
    exact r_iret hX dX2_givers_34 h
  · clear h; intro h
    refine r_iload_n hX dX2_givers_9 rfl 2 rfl ?_
    refine r_aload_n hX dX2_givers_10 rfl 0 rfl ?_
    refine r_gR hX dX2_givers_11 kf_X2_26 rfl h ?_
    clear h; intro t1 h
    refine r_iload_n hX dX2_givers_14 rfl 3 rfl ?_
    refine r_aI hX dX2_givers_15 h ?_
    clear h; intro t2 h
    refine r_iload_n hX dX2_givers_16 rfl 1 rfl ?_
    refine r_icmp_lt (tgt := 24) hX dX2_givers_17 (by decide) h ?_ ?_
    · clear h; intro h
      refine r_iconst hX dX2_givers_24 kk_i_0 ?_
      refine r_sub [0, 1, 3] rfl ?_
      exact wX2_givers_25 hX k4 hk4 h
    · clear h; intro h
      refine r_iconst hX dX2_givers_20 kk_i_1 ?_
      refine r_goto (tgt := 25) hX dX2_givers_21 (by decide) ?_
      refine r_sub [0, 1, 3] rfl ?_
      exact wX2_givers_25 hX k4 hk4 h
def X2_givers_4 (G : kdS) : Nat → Int32 → Int32 → Int32 → kdM → Option (Int32 × kdM) := lp (fun _ _ _ _ _ => none) (X2_givers_4B G) NN
theorem wX2_givers_4 {E : kdE} {G : kdS} {A : kdA} {r : Int32} {σ1 : kdM} (hX : kdX E A cX2_givers 4 RX2 (some .int) 0) : ∀ (l0 : Nat) (l1 : Int32) (l2 : Int32) (l3 : Int32) (σ : kdM), X2_givers_4 G l0 l1 l2 l3 σ = some (r, σ1) → SW E G (.inl (some (.int r), σ1)) A 4 σ 4 [(0, kr E l0), (1, .int l1), (2, .int l2), (3, .int l3)] [] :=
  lp_ind (Q := fun f => ∀ (l0 : Nat) (l1 : Int32) (l2 : Int32) (l3 : Int32) (σ : kdM), f l0 l1 l2 l3 σ = some (r, σ1) → SW E G (.inl (some (.int r), σ1)) A 4 σ 4 [(0, kr E l0), (1, .int l1), (2, .int l2), (3, .int l3)] []) (by intros; contradiction) (fun k hk l0 l1 l2 l3 σ h => wX2_givers_4B hX k hk h) NN
def X2_givers (G : kdS) (l0 : Nat) (l1 : Int32) : kdM → Option (Int32 × kdM) :=
  X2_givers_4 G l0 l1 (0 : Int32) (0 : Int32)
set_option maxRecDepth 100000 in
set_option maxHeartbeats 4000000 in
theorem wX2_givers {E : kdE} {G : kdS} {l0 : Nat} {l1 : Int32} {σ : kdM} {r : Int32} {σ1 : kdM} (h : X2_givers G l0 l1 σ = some (r, σ1)) : Con E G yX2_givers cX2_givers 4 (some .int) 0 [kr E l0, .int l1] σ (some (.int r), σ1) := by
  refine kd_head (own := RX2) rfl (by decide +kernel) (Nat.le_of_ble_eq_true rfl) (fun A hX => ?_)
  show SW E G (.inl (some (.int r), σ1)) A 4 σ 0 [(0, kr E l0), (1, .int l1)] []
  unfold X2_givers at h
  refine r_iconst hX dX2_givers_0 kk_i_0 ?_
  refine r_istore_n (L2 := [(2, .int (0 : Int32)), (0, kr E l0), (1, .int l1)]) hX dX2_givers_1 rfl (by decide) rfl ?_
  refine r_iconst hX dX2_givers_2 kk_i_0 ?_
  refine r_istore_n (L2 := [(3, .int (0 : Int32)), (2, .int (0 : Int32)), (0, kr E l0), (1, .int l1)]) hX dX2_givers_3 rfl (by decide) rfl ?_
  refine r_sub [2, 3, 1, 0] rfl ?_
  exact wX2_givers_4 hX _ _ _ _ _ h
def X2_drawLot (G : kdS) (l0 : Nat) (l1 : Int32) : kdM → Option (Int32 × kdM) :=
  gI G 2 5 l0 fun t1 =>
  nzL (2147483647 : Int64) <|
  sI G 2 5 l0 ((Int64.toInt32 (kremL ((Int32.toInt64 t1) * (16807 : Int64)) (2147483647 : Int64)))) <|
  gI G 2 5 l0 fun t2 =>
  nz (2001 : Int32) <|
  nz (kmax l1 (1 : Int32)) <|
  rt ((((krem t2 (2001 : Int32)) - (1000 : Int32)) * (100 : Int32)) / (kmax l1 (1 : Int32)))
set_option maxRecDepth 100000 in
set_option maxHeartbeats 4000000 in
theorem wX2_drawLot {E : kdE} {G : kdS} {l0 : Nat} {l1 : Int32} {σ : kdM} {r : Int32} {σ1 : kdM} (h : X2_drawLot G l0 l1 σ = some (r, σ1)) : Con E G yX2_drawLot cX2_drawLot 2 (some .int) 1 [kr E l0, .int l1] σ (some (.int r), σ1) := by
  refine kd_head (own := RX2) rfl (by decide +kernel) (Nat.le_of_ble_eq_true rfl) (fun A hX => ?_)
  show SW E G (.inl (some (.int r), σ1)) A 2 σ 0 [(0, kr E l0), (1, .int l1)] []
  unfold X2_drawLot at h
  refine r_aload_n hX dX2_drawLot_0 rfl 0 rfl ?_
  refine r_aload_n hX dX2_drawLot_1 rfl 0 rfl ?_
  refine r_gI hX dX2_drawLot_2 kf_X2_34 rfl h ?_
  clear h; intro t1 h
  refine r_i2l hX dX2_drawLot_5 ?_
  refine r_ldc2_w hX dX2_drawLot_6 w_cl_X2_81 ?_
  refine r_lmul hX dX2_drawLot_9 ?_
  refine r_ldc2_w hX dX2_drawLot_10 w_cl_X2_83 ?_
  refine r_lrem hX dX2_drawLot_13 h ?_
  clear h; intro h
  refine r_l2i hX dX2_drawLot_14 ?_
  refine r_sI hX dX2_drawLot_15 kf_X2_34 rfl (by intro q hq; cases hq; rfl) h ?_
  clear h; intro σ h
  refine r_aload_n hX dX2_drawLot_18 rfl 0 rfl ?_
  refine r_gI hX dX2_drawLot_19 kf_X2_34 rfl h ?_
  clear h; intro t2 h
  refine r_sipush hX dX2_drawLot_22 kk_s_2001 ?_
  refine r_irem hX dX2_drawLot_25 h ?_
  clear h; intro h
  refine r_sipush hX dX2_drawLot_26 kk_s_1000 ?_
  refine r_isub hX dX2_drawLot_29 ?_
  refine r_bipush hX dX2_drawLot_30 kk_b_100 ?_
  refine r_imul hX dX2_drawLot_32 ?_
  refine r_iload_n hX dX2_drawLot_33 rfl 1 rfl ?_
  refine r_iconst hX dX2_drawLot_34 kk_i_1 ?_
  refine r_mmax hX dX2_drawLot_35 w_ml_X2_55 w_st_Math_max w_in_Math w_cd_Math_max (by decide) (Nat.le_of_ble_eq_true rfl) kdz0 ?_
  refine r_idiv hX dX2_drawLot_38 h ?_
  clear h; intro h
  exact r_iret hX dX2_drawLot_39 h
def X2_sumWithLot_53 (G : kdS) (k6 : Nat → Int32 → Int32 → Int32 → Int32 → Int32 → kdM → Option (Int32 × kdM)) (l0 : Nat) (l1 : Int32) (l2 : Int32) (l3 : Int32) (l4 : Int32) (l5 : Int32) : kdM → Option (Int32 × kdM) :=
  ltI (l5 + Int32.ofInt 1) fun t1 =>
  k6 l0 l1 l2 l3 l4 t1
set_option maxRecDepth 100000 in
set_option maxHeartbeats 4000000 in
theorem wX2_sumWithLot_53 {E : kdE} {G : kdS} {A : kdA} {r : Int32} {σ1 : kdM} (hX : kdX E A cX2_sumWithLot 6 RX2 (some .int) 3) (k6 : Nat → Int32 → Int32 → Int32 → Int32 → Int32 → kdM → Option (Int32 × kdM)) (hk6 : ∀ (l0 : Nat) (l1 : Int32) (l2 : Int32) (l3 : Int32) (l4 : Int32) (l5 : Int32) (σ : kdM), k6 l0 l1 l2 l3 l4 l5 σ = some (r, σ1) → SW E G (.inl (some (.int r), σ1)) A 6 σ 6 [(0, kr E l0), (1, .int l1), (2, .int l2), (3, .int l3), (4, .int l4), (5, .int l5)] []) {σ : kdM} {l0 : Nat} {l1 : Int32} {l2 : Int32} {l3 : Int32} {l4 : Int32} {l5 : Int32} (h : X2_sumWithLot_53 G k6 l0 l1 l2 l3 l4 l5 σ = some (r, σ1)) : SW E G (.inl (some (.int r), σ1)) A 6 σ 53 [(0, kr E l0), (1, .int l1), (2, .int l2), (3, .int l3), (4, .int l4), (5, .int l5)] [] := by
  unfold X2_sumWithLot_53 at h
  refine r_iincL (L2 := fun t1 => [(5, .int t1), (0, kr E l0), (1, .int l1), (2, .int l2), (3, .int l3), (4, .int l4)]) hX dX2_sumWithLot_53 h 5 rfl (by decide) (fun _ => rfl) ?_
  clear h; intro t1 h
  refine r_goto (tgt := 6) hX dX2_sumWithLot_56 (by decide) ?_
  refine r_sub [1, 2, 3, 4, 5, 0] rfl ?_
  exact hk6 _ _ _ _ _ _ _ h
def X2_sumWithLot_6B (G : kdS) (k6 : Nat → Int32 → Int32 → Int32 → Int32 → Int32 → kdM → Option (Int32 × kdM)) (l0 : Nat) (l1 : Int32) (l2 : Int32) (l3 : Int32) (l4 : Int32) (l5 : Int32) : kdM → Option (Int32 × kdM) :=
  cnd ((4 : Int32) ≤ l5)
    (kcv G 2 l0 (X2_drawLot G l0 l2) fun t1 =>
    rt (l4 + t1))
    (gR G 2 3 l0 fun t2 =>
    aI G t2 (l5) fun t3 =>
    cnd (t3 < l2)
      (X2_sumWithLot_53 G k6 l0 l1 l2 l3 l4 l5)
      (kcv G 2 l0 (X2_worthOf G l0 l5 l1 l3) fun t4 =>
      ltI ((l4 + (kmin (5000 : Int32) t4))) fun t5 =>
      gR G 2 3 l0 fun t6 =>
      aI G t6 (l5) fun t7 =>
      tI G t6 (l5) ((t7 - l2)) <|
      X2_sumWithLot_53 G k6 l0 l1 l2 l3 t5 l5))
set_option maxRecDepth 100000 in
set_option maxHeartbeats 4000000 in
theorem wX2_sumWithLot_6B {E : kdE} {G : kdS} {A : kdA} {r : Int32} {σ1 : kdM} (hX : kdX E A cX2_sumWithLot 6 RX2 (some .int) 3) (k6 : Nat → Int32 → Int32 → Int32 → Int32 → Int32 → kdM → Option (Int32 × kdM)) (hk6 : ∀ (l0 : Nat) (l1 : Int32) (l2 : Int32) (l3 : Int32) (l4 : Int32) (l5 : Int32) (σ : kdM), k6 l0 l1 l2 l3 l4 l5 σ = some (r, σ1) → SW E G (.inl (some (.int r), σ1)) A 6 σ 6 [(0, kr E l0), (1, .int l1), (2, .int l2), (3, .int l3), (4, .int l4), (5, .int l5)] []) {σ : kdM} {l0 : Nat} {l1 : Int32} {l2 : Int32} {l3 : Int32} {l4 : Int32} {l5 : Int32} (h : X2_sumWithLot_6B G k6 l0 l1 l2 l3 l4 l5 σ = some (r, σ1)) : SW E G (.inl (some (.int r), σ1)) A 6 σ 6 [(0, kr E l0), (1, .int l1), (2, .int l2), (3, .int l3), (4, .int l4), (5, .int l5)] [] := by
  unfold X2_sumWithLot_6B at h
  refine r_iload hX dX2_sumWithLot_6 5 rfl ?_
  refine r_iconst hX dX2_sumWithLot_8 kk_i_4 ?_
  refine r_icmp_ge (tgt := 59) hX dX2_sumWithLot_9 (by decide) h ?_ ?_
  · clear h; intro h
    refine r_iload hX dX2_sumWithLot_59 4 rfl ?_
    refine r_aload_n hX dX2_sumWithLot_61 rfl 0 rfl ?_
    refine r_iload_n hX dX2_sumWithLot_62 rfl 2 rfl ?_
    refine r_cVi (As := [.int l2]) (st := [.int l4]) hX dX2_sumWithLot_63 kl_X2_drawLot w_ml_X2_78 w_im_X2_drawLot w_se_X2_drawLot ⟨_, _, rfl⟩ (by decide) rfl (Nat.le_of_ble_eq_true rfl) rfl kdz0 h (fun r σ1 h => wX2_drawLot h) ?_
    clear h; intro t1 σ h
    refine r_iadd hX dX2_sumWithLot_66 ?_
    exact r_iret hX dX2_sumWithLot_67 h
  · clear h; intro h
    refine r_aload_n hX dX2_sumWithLot_12 rfl 0 rfl ?_
    refine r_gR hX dX2_sumWithLot_13 kf_X2_26 rfl h ?_
    clear h; intro t2 h
    refine r_iload hX dX2_sumWithLot_16 5 rfl ?_
    refine r_aI hX dX2_sumWithLot_18 h ?_
    clear h; intro t3 h
    refine r_iload_n hX dX2_sumWithLot_19 rfl 2 rfl ?_
    refine r_icmp_lt (tgt := 53) hX dX2_sumWithLot_20 (by decide) h ?_ ?_
    · clear h; intro h
      refine r_sub [0, 1, 2, 3, 4, 5] rfl ?_
      exact wX2_sumWithLot_53 hX k6 hk6 h
    · clear h; intro h
      refine r_iload hX dX2_sumWithLot_23 4 rfl ?_
      refine r_sipush hX dX2_sumWithLot_25 kk_s_5000 ?_
      refine r_aload_n hX dX2_sumWithLot_28 rfl 0 rfl ?_
      refine r_iload hX dX2_sumWithLot_29 5 rfl ?_
      refine r_iload_n hX dX2_sumWithLot_31 rfl 1 rfl ?_
      refine r_iload_n hX dX2_sumWithLot_32 rfl 3 rfl ?_
      refine r_cVi (As := [.int l5, .int l1, .int l3]) (st := [.int (5000 : Int32), .int l4]) hX dX2_sumWithLot_33 kl_X2_worthOf w_ml_X2_71 w_im_X2_worthOf w_se_X2_worthOf ⟨_, _, rfl⟩ (by decide) rfl (Nat.le_of_ble_eq_true rfl) rfl kdz0 h (fun r σ1 h => wX2_worthOf h) ?_
      clear h; intro t4 σ h
      refine r_mmin hX dX2_sumWithLot_36 w_ml_X2_75 w_st_Math_min w_in_Math w_cd_Math_min (by decide) (Nat.le_of_ble_eq_true rfl) kdz0 ?_
      refine r_iadd hX dX2_sumWithLot_39 ?_
      refine r_letI h ?_
      clear h; intro t5 h
      refine r_istore (L2 := [(4, .int t5), (0, kr E l0), (1, .int l1), (2, .int l2), (3, .int l3), (5, .int l5)]) hX dX2_sumWithLot_40 (by decide) rfl ?_
      refine r_aload_n hX dX2_sumWithLot_42 rfl 1 rfl ?_
      refine r_gR hX dX2_sumWithLot_43 kf_X2_26 rfl h ?_
      clear h; intro t6 h
      refine r_iload hX dX2_sumWithLot_46 5 rfl ?_
      refine r_dup2 hX dX2_sumWithLot_48 rfl rfl ?_
      refine r_aI hX dX2_sumWithLot_49 h ?_
      clear h; intro t7 h
      refine r_iload_n hX dX2_sumWithLot_50 rfl 3 rfl ?_
      refine r_isub hX dX2_sumWithLot_51 ?_
      refine r_tI hX dX2_sumWithLot_52 h ?_
      clear h; intro σ h
      refine r_sub [1, 2, 3, 4, 0, 5] rfl ?_
      exact wX2_sumWithLot_53 hX k6 hk6 h
def X2_sumWithLot_6 (G : kdS) : Nat → Int32 → Int32 → Int32 → Int32 → Int32 → kdM → Option (Int32 × kdM) := lp (fun _ _ _ _ _ _ _ => none) (X2_sumWithLot_6B G) NN
theorem wX2_sumWithLot_6 {E : kdE} {G : kdS} {A : kdA} {r : Int32} {σ1 : kdM} (hX : kdX E A cX2_sumWithLot 6 RX2 (some .int) 3) : ∀ (l0 : Nat) (l1 : Int32) (l2 : Int32) (l3 : Int32) (l4 : Int32) (l5 : Int32) (σ : kdM), X2_sumWithLot_6 G l0 l1 l2 l3 l4 l5 σ = some (r, σ1) → SW E G (.inl (some (.int r), σ1)) A 6 σ 6 [(0, kr E l0), (1, .int l1), (2, .int l2), (3, .int l3), (4, .int l4), (5, .int l5)] [] :=
  lp_ind (Q := fun f => ∀ (l0 : Nat) (l1 : Int32) (l2 : Int32) (l3 : Int32) (l4 : Int32) (l5 : Int32) (σ : kdM), f l0 l1 l2 l3 l4 l5 σ = some (r, σ1) → SW E G (.inl (some (.int r), σ1)) A 6 σ 6 [(0, kr E l0), (1, .int l1), (2, .int l2), (3, .int l3), (4, .int l4), (5, .int l5)] []) (by intros; contradiction) (fun k hk l0 l1 l2 l3 l4 l5 σ h => wX2_sumWithLot_6B hX k hk h) NN
def X2_sumWithLot (G : kdS) (l0 : Nat) (l1 : Int32) (l2 : Int32) (l3 : Int32) : kdM → Option (Int32 × kdM) :=
  X2_sumWithLot_6 G l0 l1 l2 l3 (0 : Int32) (0 : Int32)
set_option maxRecDepth 100000 in
set_option maxHeartbeats 4000000 in
theorem wX2_sumWithLot {E : kdE} {G : kdS} {l0 : Nat} {l1 : Int32} {l2 : Int32} {l3 : Int32} {σ : kdM} {r : Int32} {σ1 : kdM} (h : X2_sumWithLot G l0 l1 l2 l3 σ = some (r, σ1)) : Con E G yX2_sumWithLot cX2_sumWithLot 6 (some .int) 3 [kr E l0, .int l1, .int l2, .int l3] σ (some (.int r), σ1) := by
  refine kd_head (own := RX2) rfl (by decide +kernel) (Nat.le_of_ble_eq_true rfl) (fun A hX => ?_)
  show SW E G (.inl (some (.int r), σ1)) A 6 σ 0 [(0, kr E l0), (1, .int l1), (2, .int l2), (3, .int l3)] []
  unfold X2_sumWithLot at h
  refine r_iconst hX dX2_sumWithLot_0 kk_i_0 ?_
  refine r_istore (L2 := [(4, .int (0 : Int32)), (0, kr E l0), (1, .int l1), (2, .int l2), (3, .int l3)]) hX dX2_sumWithLot_1 (by decide) rfl ?_
  refine r_iconst hX dX2_sumWithLot_3 kk_i_0 ?_
  refine r_istore (L2 := [(5, .int (0 : Int32)), (4, .int (0 : Int32)), (0, kr E l0), (1, .int l1), (2, .int l2), (3, .int l3)]) hX dX2_sumWithLot_4 (by decide) rfl ?_
  refine r_sub [2, 3, 4, 5, 1, 0] rfl ?_
  exact wX2_sumWithLot_6 hX _ _ _ _ _ _ _ h
def X3_size (G : kdS) (l0 : Nat) : kdM → Option (Int32 × kdM) :=
  gI G 3 0 l0 fun t1 =>
  rt t1
set_option maxRecDepth 100000 in
set_option maxHeartbeats 4000000 in
theorem wX3_size {E : kdE} {G : kdS} {l0 : Nat} {σ : kdM} {r : Int32} {σ1 : kdM} (h : X3_size G l0 σ = some (r, σ1)) : Con E G yX3_size cX3_size 1 (some .int) 0 [kr E l0] σ (some (.int r), σ1) := by
  refine kd_head (own := RX3) rfl (by decide +kernel) (Nat.le_of_ble_eq_true rfl) (fun A hX => ?_)
  show SW E G (.inl (some (.int r), σ1)) A 1 σ 0 [(0, kr E l0)] []
  unfold X3_size at h
  refine r_aload_n hX dX3_size_0 rfl 0 rfl ?_
  refine r_gI hX dX3_size_1 kf_X3_37 rfl h ?_
  clear h; intro t1 h
  exact r_iret hX dX3_size_4 h
def X3_startAnew_42B (G : kdS) (k12 : Nat → Int32 → Int32 → kdM → Option (Int32 × kdM)) (k42 : Nat → Int32 → Int32 → Int32 → kdM → Option (Int32 × kdM)) (l0 : Nat) (l2 : Int32) (l3 : Int32) (l4 : Int32) : kdM → Option (Int32 × kdM) :=
  cnd ((7 : Int32) ≤ l4)
    (ltI (l3 + Int32.ofInt 1) fun t1 =>
    k12 l0 l2 t1)
    (gR G 3 4 l0 fun t2 =>
    aR G 18 t2 (l3) fun t3 =>
    tI G t3 (l4) ((0 : Int32)) <|
    ltI (l4 + Int32.ofInt 1) fun t4 =>
    k42 l0 l2 l3 t4)
set_option maxRecDepth 100000 in
set_option maxHeartbeats 4000000 in
theorem wX3_startAnew_42B {E : kdE} {G : kdS} {A : kdA} {r : Int32} {σ1 : kdM} (hX : kdX E A cX3_startAnew 5 RX3 (some .int) 0) (k12 : Nat → Int32 → Int32 → kdM → Option (Int32 × kdM)) (k42 : Nat → Int32 → Int32 → Int32 → kdM → Option (Int32 × kdM)) (hk12 : ∀ (l0 : Nat) (l2 : Int32) (l3 : Int32) (σ : kdM), k12 l0 l2 l3 σ = some (r, σ1) → SW E G (.inl (some (.int r), σ1)) A 5 σ 12 [(0, kr E l0), (2, .int l2), (3, .int l3)] []) (hk42 : ∀ (l0 : Nat) (l2 : Int32) (l3 : Int32) (l4 : Int32) (σ : kdM), k42 l0 l2 l3 l4 σ = some (r, σ1) → SW E G (.inl (some (.int r), σ1)) A 5 σ 42 [(0, kr E l0), (2, .int l2), (3, .int l3), (4, .int l4)] []) {σ : kdM} {l0 : Nat} {l2 : Int32} {l3 : Int32} {l4 : Int32} (h : X3_startAnew_42B G k12 k42 l0 l2 l3 l4 σ = some (r, σ1)) : SW E G (.inl (some (.int r), σ1)) A 5 σ 42 [(0, kr E l0), (2, .int l2), (3, .int l3), (4, .int l4)] [] := by
  unfold X3_startAnew_42B at h
  refine r_iload hX dX3_startAnew_42 3 rfl ?_
  refine r_bipush hX dX3_startAnew_44 kk_b_7 ?_
  refine r_icmp_ge (tgt := 65) hX dX3_startAnew_46 (by decide) h ?_ ?_
  · clear h; intro h
    refine r_iincL (L2 := fun t1 => [(3, .int t1), (0, kr E l0), (2, .int l2), (4, .int l4)]) hX dX3_startAnew_65 h 2 rfl (by decide) (fun _ => rfl) ?_
    clear h; intro t1 h
    refine r_goto (tgt := 12) hX dX3_startAnew_68 (by decide) ?_
    refine r_sub [1, 2, 0] rfl ?_
    exact hk12 _ _ _ _ h
  · clear h; intro h
    refine r_aload_n hX dX3_startAnew_49 rfl 0 rfl ?_
    refine r_gR hX dX3_startAnew_50 kf_X3_23 rfl h ?_
    clear h; intro t2 h
    refine r_iload_n hX dX3_startAnew_53 rfl 2 rfl ?_
    refine r_aR18 hX dX3_startAnew_54 h ?_
    clear h; intro t3 h
    refine r_iload hX dX3_startAnew_55 3 rfl ?_
    refine r_iconst hX dX3_startAnew_57 kk_i_0 ?_
    refine r_tI hX dX3_startAnew_58 h ?_
    clear h; intro σ h
    refine r_iincL (L2 := fun t4 => [(4, .int t4), (0, kr E l0), (2, .int l2), (3, .int l3)]) hX dX3_startAnew_59 h 3 rfl (by decide) (fun _ => rfl) ?_
    clear h; intro t4 h
    refine r_goto (tgt := 42) hX dX3_startAnew_62 (by decide) ?_
    refine r_sub [1, 2, 3, 0] rfl ?_
    exact hk42 _ _ _ _ _ h
def X3_startAnew_42 (G : kdS) (k12 : Nat → Int32 → Int32 → kdM → Option (Int32 × kdM)) : Nat → Int32 → Int32 → Int32 → kdM → Option (Int32 × kdM) := lp (fun _ _ _ _ _ => none) (X3_startAnew_42B G k12) NN
theorem wX3_startAnew_42 {E : kdE} {G : kdS} {A : kdA} {r : Int32} {σ1 : kdM} (hX : kdX E A cX3_startAnew 5 RX3 (some .int) 0) (k12 : Nat → Int32 → Int32 → kdM → Option (Int32 × kdM)) (hk12 : ∀ (l0 : Nat) (l2 : Int32) (l3 : Int32) (σ : kdM), k12 l0 l2 l3 σ = some (r, σ1) → SW E G (.inl (some (.int r), σ1)) A 5 σ 12 [(0, kr E l0), (2, .int l2), (3, .int l3)] []) : ∀ (l0 : Nat) (l2 : Int32) (l3 : Int32) (l4 : Int32) (σ : kdM), X3_startAnew_42 G k12 l0 l2 l3 l4 σ = some (r, σ1) → SW E G (.inl (some (.int r), σ1)) A 5 σ 42 [(0, kr E l0), (2, .int l2), (3, .int l3), (4, .int l4)] [] :=
  lp_ind (Q := fun f => ∀ (l0 : Nat) (l2 : Int32) (l3 : Int32) (l4 : Int32) (σ : kdM), f l0 l2 l3 l4 σ = some (r, σ1) → SW E G (.inl (some (.int r), σ1)) A 5 σ 42 [(0, kr E l0), (2, .int l2), (3, .int l3), (4, .int l4)] []) (by intros; contradiction) (fun k hk l0 l2 l3 l4 σ h => wX3_startAnew_42B hX k12 k hk12 hk h) NN
def X3_startAnew_12B (G : kdS) (k12 : Nat → Int32 → Int32 → kdM → Option (Int32 × kdM)) (l0 : Nat) (l2 : Int32) (l3 : Int32) : kdM → Option (Int32 × kdM) :=
  cnd ((7 : Int32) ≤ l3)
    (rt l2)
    (gR G 3 1 l0 fun t1 =>
    tI G t1 (l3) ((1 : Int32)) <|
    gR G 3 2 l0 fun t2 =>
    tI G t2 (l3) ((0 : Int32)) <|
    gR G 3 3 l0 fun t3 =>
    tI G t3 (l3) ((0 : Int32)) <|
    X3_startAnew_42 G k12 l0 l2 l3 (0 : Int32))
set_option maxRecDepth 100000 in
set_option maxHeartbeats 4000000 in
theorem wX3_startAnew_12B {E : kdE} {G : kdS} {A : kdA} {r : Int32} {σ1 : kdM} (hX : kdX E A cX3_startAnew 5 RX3 (some .int) 0) (k12 : Nat → Int32 → Int32 → kdM → Option (Int32 × kdM)) (hk12 : ∀ (l0 : Nat) (l2 : Int32) (l3 : Int32) (σ : kdM), k12 l0 l2 l3 σ = some (r, σ1) → SW E G (.inl (some (.int r), σ1)) A 5 σ 12 [(0, kr E l0), (2, .int l2), (3, .int l3)] []) {σ : kdM} {l0 : Nat} {l2 : Int32} {l3 : Int32} (h : X3_startAnew_12B G k12 l0 l2 l3 σ = some (r, σ1)) : SW E G (.inl (some (.int r), σ1)) A 5 σ 12 [(0, kr E l0), (2, .int l2), (3, .int l3)] [] := by
  unfold X3_startAnew_12B at h
  refine r_iload_n hX dX3_startAnew_12 rfl 2 rfl ?_
  refine r_bipush hX dX3_startAnew_13 kk_b_7 ?_
  refine r_icmp_ge (tgt := 71) hX dX3_startAnew_15 (by decide) h ?_ ?_
  · clear h; intro h
    refine r_iload_n hX dX3_startAnew_71 rfl 1 rfl ?_
    exact r_iret hX dX3_startAnew_72 h
  · clear h; intro h
    refine r_aload_n hX dX3_startAnew_18 rfl 0 rfl ?_
    refine r_gR hX dX3_startAnew_19 kf_X3_9 rfl h ?_
    clear h; intro t1 h
    refine r_iload_n hX dX3_startAnew_22 rfl 2 rfl ?_
    refine r_iconst hX dX3_startAnew_23 kk_i_1 ?_
    refine r_tI hX dX3_startAnew_24 h ?_
    clear h; intro σ h
    refine r_aload_n hX dX3_startAnew_25 rfl 0 rfl ?_
    refine r_gR hX dX3_startAnew_26 kf_X3_15 rfl h ?_
    clear h; intro t2 h
    refine r_iload_n hX dX3_startAnew_29 rfl 2 rfl ?_
    refine r_iconst hX dX3_startAnew_30 kk_i_0 ?_
    refine r_tI hX dX3_startAnew_31 h ?_
    clear h; intro σ h
    refine r_aload_n hX dX3_startAnew_32 rfl 0 rfl ?_
    refine r_gR hX dX3_startAnew_33 kf_X3_18 rfl h ?_
    clear h; intro t3 h
    refine r_iload_n hX dX3_startAnew_36 rfl 2 rfl ?_
    refine r_iconst hX dX3_startAnew_37 kk_i_0 ?_
    refine r_tI hX dX3_startAnew_38 h ?_
    clear h; intro σ h
    refine r_iconst hX dX3_startAnew_39 kk_i_0 ?_
    refine r_istore (L2 := [(4, .int (0 : Int32)), (0, kr E l0), (2, .int l2), (3, .int l3)]) hX dX3_startAnew_40 (by decide) rfl ?_
    refine r_sub [1, 2, 3, 0] rfl ?_
    exact wX3_startAnew_42 hX k12 hk12 _ _ _ _ _ h
def X3_startAnew_12 (G : kdS) : Nat → Int32 → Int32 → kdM → Option (Int32 × kdM) := lp (fun _ _ _ _ => none) (X3_startAnew_12B G) NN
theorem wX3_startAnew_12 {E : kdE} {G : kdS} {A : kdA} {r : Int32} {σ1 : kdM} (hX : kdX E A cX3_startAnew 5 RX3 (some .int) 0) : ∀ (l0 : Nat) (l2 : Int32) (l3 : Int32) (σ : kdM), X3_startAnew_12 G l0 l2 l3 σ = some (r, σ1) → SW E G (.inl (some (.int r), σ1)) A 5 σ 12 [(0, kr E l0), (2, .int l2), (3, .int l3)] [] :=
  lp_ind (Q := fun f => ∀ (l0 : Nat) (l2 : Int32) (l3 : Int32) (σ : kdM), f l0 l2 l3 σ = some (r, σ1) → SW E G (.inl (some (.int r), σ1)) A 5 σ 12 [(0, kr E l0), (2, .int l2), (3, .int l3)] []) (by intros; contradiction) (fun k hk l0 l2 l3 σ h => wX3_startAnew_12B hX k hk h) NN
def X3_startAnew (G : kdS) (l0 : Nat) (l1 : Int32) : kdM → Option (Int32 × kdM) :=
  gI G 3 0 l0 fun t1 =>
  sI G 3 0 l0 (l1) <|
  X3_startAnew_12 G l0 t1 (0 : Int32)
set_option maxRecDepth 100000 in
set_option maxHeartbeats 4000000 in
theorem wX3_startAnew {E : kdE} {G : kdS} {l0 : Nat} {l1 : Int32} {σ : kdM} {r : Int32} {σ1 : kdM} (h : X3_startAnew G l0 l1 σ = some (r, σ1)) : Con E G yX3_startAnew cX3_startAnew 5 (some .int) 0 [kr E l0, .int l1] σ (some (.int r), σ1) := by
  refine kd_head (own := RX3) rfl (by decide +kernel) (Nat.le_of_ble_eq_true rfl) (fun A hX => ?_)
  show SW E G (.inl (some (.int r), σ1)) A 5 σ 0 [(0, kr E l0), (1, .int l1)] []
  unfold X3_startAnew at h
  refine r_aload_n hX dX3_startAnew_0 rfl 0 rfl ?_
  refine r_gI hX dX3_startAnew_1 kf_X3_37 rfl h ?_
  clear h; intro t1 h
  refine r_istore_n (L2 := [(2, .int t1), (0, kr E l0), (1, .int l1)]) hX dX3_startAnew_4 rfl (by decide) rfl ?_
  refine r_aload_n hX dX3_startAnew_5 rfl 1 rfl ?_
  refine r_iload_n hX dX3_startAnew_6 rfl 2 rfl ?_
  refine r_sI hX dX3_startAnew_7 kf_X3_37 rfl (by intro q hq; cases hq; rfl) h ?_
  clear h; intro σ h
  refine r_iconst hX dX3_startAnew_10 kk_i_0 ?_
  refine r_istore_n (L2 := [(3, .int (0 : Int32)), (2, .int t1), (0, kr E l0), (1, .int l1)]) hX dX3_startAnew_11 rfl (by decide) rfl ?_
  refine r_sub [2, 1, 0] rfl ?_
  exact wX3_startAnew_12 hX _ _ _ _ h
def X11_within_15 (G : kdS) (s0 : Int32) : kdM → Option (Int32 × kdM) :=
  rt (vp_nar .boolean s0)
set_option maxRecDepth 100000 in
set_option maxHeartbeats 4000000 in
theorem wX11_within_15 {E : kdE} {G : kdS} {A : kdA} {r : Int32} {σ1 : kdM} (hX : kdX E A cX11_within 3 RX11 (some .boolean) 0) {σ : kdM} {s0 : Int32} (h : X11_within_15 G s0 σ = some (r, σ1)) : SW E G (.inl (some (.int r), σ1)) A 3 σ 15 [] [.int s0] := by
  unfold X11_within_15 at h
  exact r_zret hX dX11_within_15 h
def X11_within_14 (G : kdS) : kdM → Option (Int32 × kdM) :=
  X11_within_15 G (0 : Int32)
set_option maxRecDepth 100000 in
set_option maxHeartbeats 4000000 in
theorem wX11_within_14 {E : kdE} {G : kdS} {A : kdA} {r : Int32} {σ1 : kdM} (hX : kdX E A cX11_within 3 RX11 (some .boolean) 0) {σ : kdM} (h : X11_within_14 G  σ = some (r, σ1)) : SW E G (.inl (some (.int r), σ1)) A 3 σ 14 [] [] := by
  unfold X11_within_14 at h
  refine r_iconst hX dX11_within_14 kk_i_0 ?_
  refine r_sub [] rfl ?_
  exact wX11_within_15 hX h
def X11_within (G : kdS) (l0 : Int32) (l1 : Int32) (l2 : Int32) : kdM → Option (Int32 × kdM) :=
  cnd (l0 < l1)
    (X11_within_14 G )
    (cnd (l2 < l0)
      (X11_within_14 G )
      (X11_within_15 G (1 : Int32)))
set_option maxRecDepth 100000 in
set_option maxHeartbeats 4000000 in
theorem wX11_within {E : kdE} {G : kdS} {l0 : Int32} {l1 : Int32} {l2 : Int32} {σ : kdM} {r : Int32} {σ1 : kdM} (h : X11_within G l0 l1 l2 σ = some (r, σ1)) : Con E G yX11_within cX11_within 3 (some .boolean) 0 [.int l0, .int l1, .int l2] σ (some (.int r), σ1) := by
  refine kd_head (own := RX11) rfl (by decide +kernel) (Nat.le_of_ble_eq_true rfl) (fun A hX => ?_)
  show SW E G (.inl (some (.int r), σ1)) A 3 σ 0 [(0, .int l0), (1, .int l1), (2, .int l2)] []
  unfold X11_within at h
  refine r_iload_n hX dX11_within_0 rfl 0 rfl ?_
  refine r_iload_n hX dX11_within_1 rfl 1 rfl ?_
  refine r_icmp_lt (tgt := 14) hX dX11_within_2 (by decide) h ?_ ?_
  · clear h; intro h
    refine r_sub [] rfl ?_
    exact wX11_within_14 hX h
  · clear h; intro h
    refine r_iload_n hX dX11_within_5 rfl 0 rfl ?_
    refine r_iload_n hX dX11_within_6 rfl 2 rfl ?_
    refine r_icmp_gt (tgt := 14) hX dX11_within_7 (by decide) h ?_ ?_
    · clear h; intro h
      refine r_sub [] rfl ?_
      exact wX11_within_14 hX h
    · clear h; intro h
      refine r_iconst hX dX11_within_10 kk_i_1 ?_
      refine r_goto (tgt := 15) hX dX11_within_11 (by decide) ?_
      refine r_sub [] rfl ?_
      exact wX11_within_15 hX h
def X11_isKey (G : kdS) (l0 : Int32) : kdM → Option (Int32 × kdM) :=
  kcl (X11_within G l0 (0 : Int32) (11 : Int32)) fun t1 =>
  rt (vp_nar .boolean t1)
set_option maxRecDepth 100000 in
set_option maxHeartbeats 4000000 in
theorem wX11_isKey {E : kdE} {G : kdS} {l0 : Int32} {σ : kdM} {r : Int32} {σ1 : kdM} (h : X11_isKey G l0 σ = some (r, σ1)) : Con E G yX11_isKey cX11_isKey 1 (some .boolean) 1 [.int l0] σ (some (.int r), σ1) := by
  refine kd_head (own := RX11) rfl (by decide +kernel) (Nat.le_of_ble_eq_true rfl) (fun A hX => ?_)
  show SW E G (.inl (some (.int r), σ1)) A 1 σ 0 [(0, .int l0)] []
  unfold X11_isKey at h
  refine r_iload_n hX dX11_isKey_0 rfl 0 rfl ?_
  refine r_iconst hX dX11_isKey_1 kk_i_0 ?_
  refine r_bipush hX dX11_isKey_2 kk_b_11 ?_
  refine r_cSi (As := [.int l0, .int (0 : Int32), .int (11 : Int32)]) (st := []) hX dX11_isKey_4 kl_X11_within w_ml_X11_165 w_st_X11_within (by decide) rfl (Nat.le_of_ble_eq_true rfl) rfl kdz0 h (fun r σ1 h => wX11_within h) ?_
  clear h; intro t1 σ h
  exact r_zret hX dX11_isKey_7 h
def X11_key (G : kdS) (l0 : Nat) (l1 : Int32) : kdM → Option (Int32 × kdM) :=
  kcl (X11_isKey G l1) fun t1 =>
  cnd (t1 = 0)
    (rt (-2 : Int32))
    (gR G 11 0 l0 fun t2 =>
    kcv G 6 t2 (X6_isFull G t2) fun t3 =>
    cnd (t3 = 0)
      (gR G 11 0 l0 fun t4 =>
      kcv G 6 t4 (X6_add G t4 l1) fun _ =>
      gR G 11 0 l0 fun t5 =>
      kcv G 6 t5 (X6_size G t5) fun t6 =>
      rt t6)
      (rt (-4 : Int32)))
set_option maxRecDepth 100000 in
set_option maxHeartbeats 4000000 in
theorem wX11_key {E : kdE} {G : kdS} {l0 : Nat} {l1 : Int32} {σ : kdM} {r : Int32} {σ1 : kdM} (h : X11_key G l0 l1 σ = some (r, σ1)) : Con E G yX11_key cX11_key 2 (some .int) 3 [kr E l0, .int l1] σ (some (.int r), σ1) := by
  refine kd_head (own := RX11) rfl (by decide +kernel) (Nat.le_of_ble_eq_true rfl) (fun A hX => ?_)
  show SW E G (.inl (some (.int r), σ1)) A 2 σ 0 [(0, kr E l0), (1, .int l1)] []
  unfold X11_key at h
  refine r_iload_n hX dX11_key_0 rfl 1 rfl ?_
  refine r_cSi (As := [.int l1]) (st := []) hX dX11_key_1 kl_X11_isKey w_ml_X11_97 w_st_X11_isKey (by decide) rfl (Nat.le_of_ble_eq_true rfl) rfl kdz0 h (fun r σ1 h => wX11_isKey h) ?_
  clear h; intro t1 σ h
  refine r_if_ne (tgt := 10) hX dX11_key_4 (by decide) h ?_ ?_
  · clear h; intro h
    refine r_bipush hX dX11_key_7 kk_b_m2 ?_
    exact r_iret hX dX11_key_9 h
  · clear h; intro h
    refine r_aload_n hX dX11_key_10 rfl 0 rfl ?_
    refine r_gR hX dX11_key_11 kf_X11_14 rfl h ?_
    clear h; intro t2 h
    refine r_cVi (As := []) (st := []) hX dX11_key_14 kl_X6_isFull w_ml_X11_101 w_im_X6_isFull w_se_X6_isFull ⟨_, _, rfl⟩ (by decide) rfl (Nat.le_of_ble_eq_true rfl) rfl kdz0 h (fun r σ1 h => wX6_isFull h) ?_
    clear h; intro t3 σ h
    refine r_if_eq (tgt := 23) hX dX11_key_17 (by decide) h ?_ ?_
    · clear h; intro h
      refine r_aload_n hX dX11_key_23 rfl 0 rfl ?_
      refine r_gR hX dX11_key_24 kf_X11_14 rfl h ?_
      clear h; intro t4 h
      refine r_iload_n hX dX11_key_27 rfl 1 rfl ?_
      refine r_cVv (As := [.int l1]) (st := []) hX dX11_key_28 kl_X6_add w_ml_X11_105 w_im_X6_add w_se_X6_add ⟨_, _, rfl⟩ (by decide) rfl (Nat.le_of_ble_eq_true rfl) rfl kdz0 h (fun r σ1 h => wX6_add h) ?_
      clear h; intro u σ h
      refine r_aload_n hX dX11_key_31 rfl 0 rfl ?_
      refine r_gR hX dX11_key_32 kf_X11_14 rfl h ?_
      clear h; intro t5 h
      refine r_cVi (As := []) (st := []) hX dX11_key_35 kl_X6_size w_ml_X11_108 w_im_X6_size w_se_X6_size ⟨_, _, rfl⟩ (by decide) rfl (Nat.le_of_ble_eq_true rfl) rfl kdz0 h (fun r σ1 h => wX6_size h) ?_
      clear h; intro t6 σ h
      exact r_iret hX dX11_key_38 h
    · clear h; intro h
      refine r_bipush hX dX11_key_20 kk_b_m4 ?_
      exact r_iret hX dX11_key_22 h
def X11_isTongue (G : kdS) (l0 : Int32) : kdM → Option (Int32 × kdM) :=
  kcl (X11_within G l0 (0 : Int32) (2 : Int32)) fun t1 =>
  rt (vp_nar .boolean t1)
set_option maxRecDepth 100000 in
set_option maxHeartbeats 4000000 in
theorem wX11_isTongue {E : kdE} {G : kdS} {l0 : Int32} {σ : kdM} {r : Int32} {σ1 : kdM} (h : X11_isTongue G l0 σ = some (r, σ1)) : Con E G yX11_isTongue cX11_isTongue 1 (some .boolean) 1 [.int l0] σ (some (.int r), σ1) := by
  refine kd_head (own := RX11) rfl (by decide +kernel) (Nat.le_of_ble_eq_true rfl) (fun A hX => ?_)
  show SW E G (.inl (some (.int r), σ1)) A 1 σ 0 [(0, .int l0)] []
  unfold X11_isTongue at h
  refine r_iload_n hX dX11_isTongue_0 rfl 0 rfl ?_
  refine r_iconst hX dX11_isTongue_1 kk_i_0 ?_
  refine r_iconst hX dX11_isTongue_2 kk_i_2 ?_
  refine r_cSi (As := [.int l0, .int (0 : Int32), .int (2 : Int32)]) (st := []) hX dX11_isTongue_3 kl_X11_within w_ml_X11_165 w_st_X11_within (by decide) rfl (Nat.le_of_ble_eq_true rfl) rfl kdz0 h (fun r σ1 h => wX11_within h) ?_
  clear h; intro t1 σ h
  exact r_zret hX dX11_isTongue_6 h
def X11_word_30 (G : kdS) : kdM → Option (Int32 × kdM) :=
  rt (-2 : Int32)
set_option maxRecDepth 100000 in
set_option maxHeartbeats 4000000 in
theorem wX11_word_30 {E : kdE} {G : kdS} {A : kdA} {r : Int32} {σ1 : kdM} (hX : kdX E A cX11_word 5 RX11 (some .int) 5) {σ : kdM} (h : X11_word_30 G  σ = some (r, σ1)) : SW E G (.inl (some (.int r), σ1)) A 5 σ 30 [] [] := by
  unfold X11_word_30 at h
  refine r_bipush hX dX11_word_30 kk_b_m2 ?_
  exact r_iret hX dX11_word_32 h
def X11_word_68 (G : kdS) : kdM → Option (Int32 × kdM) :=
  rt (-5 : Int32)
set_option maxRecDepth 100000 in
set_option maxHeartbeats 4000000 in
theorem wX11_word_68 {E : kdE} {G : kdS} {A : kdA} {r : Int32} {σ1 : kdM} (hX : kdX E A cX11_word 5 RX11 (some .int) 5) {σ : kdM} (h : X11_word_68 G  σ = some (r, σ1)) : SW E G (.inl (some (.int r), σ1)) A 5 σ 68 [] [] := by
  unfold X11_word_68 at h
  refine r_bipush hX dX11_word_68 kk_b_m5 ?_
  exact r_iret hX dX11_word_70 h
def X11_word (G : kdS) (l0 : Nat) (l1 : Int32) (l2 : Int32) (l3 : Int32) : kdM → Option (Int32 × kdM) :=
  kcl (X11_isTongue G l1) fun t1 =>
  cnd (t1 = 0)
    (rt (-1 : Int32))
    (kcl (X11_within G l2 (1 : Int32) (999 : Int32)) fun t2 =>
    cnd (t2 = 0)
      (X11_word_30 G )
      (kcl (X11_within G l3 (1 : Int32) (100 : Int32)) fun t3 =>
      cnd (t3 = 0)
        (X11_word_30 G )
        (gR G 11 4 l0 fun t4 =>
        kcv G 10 t4 (X10_isFull G t4) fun t5 =>
        cnd (t5 = 0)
          (gR G 11 0 l0 fun t6 =>
          kcv G 6 t6 (X6_isEmpty G t6) fun t7 =>
          cnd (t7 = 0)
            (gR G 11 0 l0 fun t8 =>
            kcv G 6 t8 (X6_size G t8) fun t9 =>
            cnd (t9 ≤ (8 : Int32))
              (gR G 11 4 l0 fun t10 =>
              gR G 11 0 l0 fun t11 =>
              kcv G 10 t10 (X10_addWord G t10 l1 l2 l3 t11) fun t12 =>
              gR G 11 0 l0 fun t13 =>
              kcv G 6 t13 (X6_clear G t13) fun t14 =>
              rt t12)
              (X11_word_68 G ))
            (X11_word_68 G ))
          (rt (-4 : Int32)))))
set_option maxRecDepth 100000 in
set_option maxHeartbeats 4000000 in
theorem wX11_word {E : kdE} {G : kdS} {l0 : Nat} {l1 : Int32} {l2 : Int32} {l3 : Int32} {σ : kdM} {r : Int32} {σ1 : kdM} (h : X11_word G l0 l1 l2 l3 σ = some (r, σ1)) : Con E G yX11_word cX11_word 5 (some .int) 5 [kr E l0, .int l1, .int l2, .int l3] σ (some (.int r), σ1) := by
  refine kd_head (own := RX11) rfl (by decide +kernel) (Nat.le_of_ble_eq_true rfl) (fun A hX => ?_)
  show SW E G (.inl (some (.int r), σ1)) A 5 σ 0 [(0, kr E l0), (1, .int l1), (2, .int l2), (3, .int l3)] []
  unfold X11_word at h
  refine r_iload_n hX dX11_word_0 rfl 1 rfl ?_
  refine r_cSi (As := [.int l1]) (st := []) hX dX11_word_1 kl_X11_isTongue w_ml_X11_121 w_st_X11_isTongue (by decide) rfl (Nat.le_of_ble_eq_true rfl) rfl kdz0 h (fun r σ1 h => wX11_isTongue h) ?_
  clear h; intro t1 σ h
  refine r_if_ne (tgt := 9) hX dX11_word_4 (by decide) h ?_ ?_
  · clear h; intro h
    refine r_iconst hX dX11_word_7 kk_i_m1 ?_
    exact r_iret hX dX11_word_8 h
  · clear h; intro h
    refine r_iload_n hX dX11_word_9 rfl 2 rfl ?_
    refine r_iconst hX dX11_word_10 kk_i_1 ?_
    refine r_sipush hX dX11_word_11 kk_s_999 ?_
    refine r_cSi (As := [.int l2, .int (1 : Int32), .int (999 : Int32)]) (st := []) hX dX11_word_14 kl_X11_within w_ml_X11_165 w_st_X11_within (by decide) rfl (Nat.le_of_ble_eq_true rfl) rfl kdz0 h (fun r σ1 h => wX11_within h) ?_
    clear h; intro t2 σ h
    refine r_if_eq (tgt := 30) hX dX11_word_17 (by decide) h ?_ ?_
    · clear h; intro h
      refine r_sub [] rfl ?_
      exact wX11_word_30 hX h
    · clear h; intro h
      refine r_iload_n hX dX11_word_20 rfl 3 rfl ?_
      refine r_iconst hX dX11_word_21 kk_i_1 ?_
      refine r_bipush hX dX11_word_22 kk_b_100 ?_
      refine r_cSi (As := [.int l3, .int (1 : Int32), .int (100 : Int32)]) (st := []) hX dX11_word_24 kl_X11_within w_ml_X11_165 w_st_X11_within (by decide) rfl (Nat.le_of_ble_eq_true rfl) rfl kdz0 h (fun r σ1 h => wX11_within h) ?_
      clear h; intro t3 σ h
      refine r_if_ne (tgt := 33) hX dX11_word_27 (by decide) h ?_ ?_
      · clear h; intro h
        refine r_sub [] rfl ?_
        exact wX11_word_30 hX h
      · clear h; intro h
        refine r_aload_n hX dX11_word_33 rfl 0 rfl ?_
        refine r_gR hX dX11_word_34 kf_X11_38 rfl h ?_
        clear h; intro t4 h
        refine r_cVi (As := []) (st := []) hX dX11_word_37 kl_X10_isFull w_ml_X11_207 w_im_X10_isFull w_se_X10_isFull ⟨_, _, rfl⟩ (by decide) rfl (Nat.le_of_ble_eq_true rfl) rfl kdz0 h (fun r σ1 h => wX10_isFull h) ?_
        clear h; intro t5 σ h
        refine r_if_eq (tgt := 46) hX dX11_word_40 (by decide) h ?_ ?_
        · clear h; intro h
          refine r_aload_n hX dX11_word_46 rfl 0 rfl ?_
          refine r_gR hX dX11_word_47 kf_X11_14 rfl h ?_
          clear h; intro t6 h
          refine r_cVi (As := []) (st := []) hX dX11_word_50 kl_X6_isEmpty w_ml_X11_127 w_im_X6_isEmpty w_se_X6_isEmpty ⟨_, _, rfl⟩ (by decide) rfl (Nat.le_of_ble_eq_true rfl) rfl kdz0 h (fun r σ1 h => wX6_isEmpty h) ?_
          clear h; intro t7 σ h
          refine r_if_ne (tgt := 68) hX dX11_word_53 (by decide) h ?_ ?_
          · clear h; intro h
            refine r_aload_n hX dX11_word_56 rfl 0 rfl ?_
            refine r_gR hX dX11_word_57 kf_X11_14 rfl h ?_
            clear h; intro t8 h
            refine r_cVi (As := []) (st := []) hX dX11_word_60 kl_X6_size w_ml_X11_108 w_im_X6_size w_se_X6_size ⟨_, _, rfl⟩ (by decide) rfl (Nat.le_of_ble_eq_true rfl) rfl kdz0 h (fun r σ1 h => wX6_size h) ?_
            clear h; intro t9 σ h
            refine r_bipush hX dX11_word_63 kk_b_8 ?_
            refine r_icmp_le (tgt := 71) hX dX11_word_65 (by decide) h ?_ ?_
            · clear h; intro h
              refine r_aload_n hX dX11_word_71 rfl 0 rfl ?_
              refine r_gR hX dX11_word_72 kf_X11_38 rfl h ?_
              clear h; intro t10 h
              refine r_iload_n hX dX11_word_75 rfl 1 rfl ?_
              refine r_iload_n hX dX11_word_76 rfl 2 rfl ?_
              refine r_iload_n hX dX11_word_77 rfl 3 rfl ?_
              refine r_aload_n hX dX11_word_78 rfl 0 rfl ?_
              refine r_gR hX dX11_word_79 kf_X11_14 rfl h ?_
              clear h; intro t11 h
              refine r_cVi (As := [.int l1, .int l2, .int l3, kr E t11]) (st := []) hX dX11_word_82 kl_X10_addWord w_ml_X11_208 w_im_X10_addWord w_se_X10_addWord ⟨_, _, rfl⟩ (by decide) rfl (Nat.le_of_ble_eq_true rfl) rfl kdz0 h (fun r σ1 h => wX10_addWord h) ?_
              clear h; intro t12 σ h
              refine r_istore (L2 := [(4, .int t12), (0, kr E l0), (1, .int l1), (2, .int l2), (3, .int l3)]) hX dX11_word_85 (by decide) rfl ?_
              refine r_aload_n hX dX11_word_87 rfl 1 rfl ?_
              refine r_gR hX dX11_word_88 kf_X11_14 rfl h ?_
              clear h; intro t13 h
              refine r_cVi (As := []) (st := []) hX dX11_word_91 kl_X6_clear w_ml_X11_115 w_im_X6_clear w_se_X6_clear ⟨_, _, rfl⟩ (by decide) rfl (Nat.le_of_ble_eq_true rfl) rfl kdz0 h (fun r σ1 h => wX6_clear h) ?_
              clear h; intro t14 σ h
              refine r_pop hX dX11_word_94 rfl ?_
              refine r_iload hX dX11_word_95 0 rfl ?_
              exact r_iret hX dX11_word_97 h
            · clear h; intro h
              refine r_sub [] rfl ?_
              exact wX11_word_68 hX h
          · clear h; intro h
            refine r_sub [] rfl ?_
            exact wX11_word_68 hX h
        · clear h; intro h
          refine r_bipush hX dX11_word_43 kk_b_m4 ?_
          exact r_iret hX dX11_word_45 h
