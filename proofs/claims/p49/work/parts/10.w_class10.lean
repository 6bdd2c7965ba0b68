def X6_size (G : kdS) (l0 : Nat) : kdM → Option (Int32 × kdM) :=
  gI G 6 1 l0 fun t1 =>
  rt t1
set_option maxRecDepth 100000 in
set_option maxHeartbeats 4000000 in
theorem wX6_size {E : kdE} {G : kdS} {l0 : Nat} {σ : kdM} {r : Int32} {σ1 : kdM} (h : X6_size G l0 σ = some (r, σ1)) : Con E G yX6_size cX6_size 1 (some .int) 0 [kr E l0] σ (some (.int r), σ1) := by
  refine kd_head (own := RX6) rfl (by decide +kernel) (Nat.le_of_ble_eq_true rfl) (fun A hX => ?_)
  show SW E G (.inl (some (.int r), σ1)) A 1 σ 0 [(0, kr E l0)] []
  unfold X6_size at h
  refine r_aload_n hX dX6_size_0 rfl 0 rfl ?_
  refine r_gI hX dX6_size_1 kf_X6_21 rfl h ?_
  clear h; intro t1 h
  exact r_iret hX dX6_size_4 h
def X6_isEmpty_12 (G : kdS) (s0 : Int32) : kdM → Option (Int32 × kdM) :=
  rt (vp_nar .boolean s0)
set_option maxRecDepth 100000 in
set_option maxHeartbeats 4000000 in
theorem wX6_isEmpty_12 {E : kdE} {G : kdS} {A : kdA} {r : Int32} {σ1 : kdM} (hX : kdX E A cX6_isEmpty 1 RX6 (some .boolean) 0) {σ : kdM} {s0 : Int32} (h : X6_isEmpty_12 G s0 σ = some (r, σ1)) : SW E G (.inl (some (.int r), σ1)) A 1 σ 12 [] [.int s0] := by
  unfold X6_isEmpty_12 at h
  exact r_zret hX dX6_isEmpty_12 h
def X6_isEmpty (G : kdS) (l0 : Nat) : kdM → Option (Int32 × kdM) :=
  gI G 6 1 l0 fun t1 =>
  cnd (t1 = 0)
    (X6_isEmpty_12 G (1 : Int32))
    (X6_isEmpty_12 G (0 : Int32))
set_option maxRecDepth 100000 in
set_option maxHeartbeats 4000000 in
theorem wX6_isEmpty {E : kdE} {G : kdS} {l0 : Nat} {σ : kdM} {r : Int32} {σ1 : kdM} (h : X6_isEmpty G l0 σ = some (r, σ1)) : Con E G yX6_isEmpty cX6_isEmpty 1 (some .boolean) 0 [kr E l0] σ (some (.int r), σ1) := by
  refine kd_head (own := RX6) rfl (by decide +kernel) (Nat.le_of_ble_eq_true rfl) (fun A hX => ?_)
  show SW E G (.inl (some (.int r), σ1)) A 1 σ 0 [(0, kr E l0)] []
  unfold X6_isEmpty at h
  refine r_aload_n hX dX6_isEmpty_0 rfl 0 rfl ?_
  refine r_gI hX dX6_isEmpty_1 kf_X6_21 rfl h ?_
  clear h; intro t1 h
  refine r_if_ne (tgt := 11) hX dX6_isEmpty_4 (by decide) h ?_ ?_
  · clear h; intro h
    refine r_iconst hX dX6_isEmpty_7 kk_i_1 ?_
    refine r_goto (tgt := 12) hX dX6_isEmpty_8 (by decide) ?_
    refine r_sub [] rfl ?_
    exact wX6_isEmpty_12 hX h
  · clear h; intro h
    refine r_iconst hX dX6_isEmpty_11 kk_i_0 ?_
    refine r_sub [] rfl ?_
    exact wX6_isEmpty_12 hX h
def X6_isFull_17 (G : kdS) (s0 : Int32) : kdM → Option (Int32 × kdM) :=
  rt (vp_nar .boolean s0)
set_option maxRecDepth 100000 in
set_option maxHeartbeats 4000000 in
theorem wX6_isFull_17 {E : kdE} {G : kdS} {A : kdA} {r : Int32} {σ1 : kdM} (hX : kdX E A cX6_isFull 1 RX6 (some .boolean) 0) {σ : kdM} {s0 : Int32} (h : X6_isFull_17 G s0 σ = some (r, σ1)) : SW E G (.inl (some (.int r), σ1)) A 1 σ 17 [] [.int s0] := by
  unfold X6_isFull_17 at h
  exact r_zret hX dX6_isFull_17 h
def X6_isFull (G : kdS) (l0 : Nat) : kdM → Option (Int32 × kdM) :=
  gI G 6 1 l0 fun t1 =>
  gR G 6 0 l0 fun t2 =>
  aN G t2 fun t3 =>
  cnd (t1 < t3)
    (X6_isFull_17 G (0 : Int32))
    (X6_isFull_17 G (1 : Int32))
set_option maxRecDepth 100000 in
set_option maxHeartbeats 4000000 in
theorem wX6_isFull {E : kdE} {G : kdS} {l0 : Nat} {σ : kdM} {r : Int32} {σ1 : kdM} (h : X6_isFull G l0 σ = some (r, σ1)) : Con E G yX6_isFull cX6_isFull 1 (some .boolean) 0 [kr E l0] σ (some (.int r), σ1) := by
  refine kd_head (own := RX6) rfl (by decide +kernel) (Nat.le_of_ble_eq_true rfl) (fun A hX => ?_)
  show SW E G (.inl (some (.int r), σ1)) A 1 σ 0 [(0, kr E l0)] []
  unfold X6_isFull at h
  refine r_aload_n hX dX6_isFull_0 rfl 0 rfl ?_
  refine r_gI hX dX6_isFull_1 kf_X6_21 rfl h ?_
  clear h; intro t1 h
  refine r_aload_n hX dX6_isFull_4 rfl 0 rfl ?_
  refine r_gR hX dX6_isFull_5 kf_X6_15 rfl h ?_
  clear h; intro t2 h
  refine r_aN hX dX6_isFull_8 h ?_
  clear h; intro t3 h
  refine r_icmp_lt (tgt := 16) hX dX6_isFull_9 (by decide) h ?_ ?_
  · clear h; intro h
    refine r_iconst hX dX6_isFull_16 kk_i_0 ?_
    refine r_sub [] rfl ?_
    exact wX6_isFull_17 hX h
  · clear h; intro h
    refine r_iconst hX dX6_isFull_12 kk_i_1 ?_
    refine r_goto (tgt := 17) hX dX6_isFull_13 (by decide) ?_
    refine r_sub [] rfl ?_
    exact wX6_isFull_17 hX h
def X6_has_17 (G : kdS) (s0 : Int32) : kdM → Option (Int32 × kdM) :=
  rt (vp_nar .boolean s0)
set_option maxRecDepth 100000 in
set_option maxHeartbeats 4000000 in
theorem wX6_has_17 {E : kdE} {G : kdS} {A : kdA} {r : Int32} {σ1 : kdM} (hX : kdX E A cX6_has 2 RX6 (some .boolean) 0) {σ : kdM} {s0 : Int32} (h : X6_has_17 G s0 σ = some (r, σ1)) : SW E G (.inl (some (.int r), σ1)) A 2 σ 17 [] [.int s0] := by
  unfold X6_has_17 at h
  exact r_zret hX dX6_has_17 h
def X6_has_16 (G : kdS) : kdM → Option (Int32 × kdM) :=
  X6_has_17 G (0 : Int32)
set_option maxRecDepth 100000 in
set_option maxHeartbeats 4000000 in
theorem wX6_has_16 {E : kdE} {G : kdS} {A : kdA} {r : Int32} {σ1 : kdM} (hX : kdX E A cX6_has 2 RX6 (some .boolean) 0) {σ : kdM} (h : X6_has_16 G  σ = some (r, σ1)) : SW E G (.inl (some (.int r), σ1)) A 2 σ 16 [] [] := by
  unfold X6_has_16 at h
  refine r_iconst hX dX6_has_16 kk_i_0 ?_
  refine r_sub [] rfl ?_
  exact wX6_has_17 hX h
def X6_has (G : kdS) (l0 : Nat) (l1 : Int32) : kdM → Option (Int32 × kdM) :=
  cnd (l1 < 0)
    (X6_has_16 G )
    (gI G 6 1 l0 fun t1 =>
    cnd (t1 ≤ l1)
      (X6_has_16 G )
      (X6_has_17 G (1 : Int32)))
set_option maxRecDepth 100000 in
set_option maxHeartbeats 4000000 in
theorem wX6_has {E : kdE} {G : kdS} {l0 : Nat} {l1 : Int32} {σ : kdM} {r : Int32} {σ1 : kdM} (h : X6_has G l0 l1 σ = some (r, σ1)) : Con E G yX6_has cX6_has 2 (some .boolean) 0 [kr E l0, .int l1] σ (some (.int r), σ1) := by
  refine kd_head (own := RX6) rfl (by decide +kernel) (Nat.le_of_ble_eq_true rfl) (fun A hX => ?_)
  show SW E G (.inl (some (.int r), σ1)) A 2 σ 0 [(0, kr E l0), (1, .int l1)] []
  unfold X6_has at h
  refine r_iload_n hX dX6_has_0 rfl 1 rfl ?_
  refine r_if_lt (tgt := 16) hX dX6_has_1 (by decide) h ?_ ?_
  · clear h; intro h
    refine r_sub [] rfl ?_
    exact wX6_has_16 hX h
  · clear h; intro h
    refine r_iload_n hX dX6_has_4 rfl 1 rfl ?_
    refine r_aload_n hX dX6_has_5 rfl 0 rfl ?_
    refine r_gI hX dX6_has_6 kf_X6_21 rfl h ?_
    clear h; intro t1 h
    refine r_icmp_ge (tgt := 16) hX dX6_has_9 (by decide) h ?_ ?_
    · clear h; intro h
      refine r_sub [] rfl ?_
      exact wX6_has_16 hX h
    · clear h; intro h
      refine r_iconst hX dX6_has_12 kk_i_1 ?_
      refine r_goto (tgt := 17) hX dX6_has_13 (by decide) ?_
      refine r_sub [] rfl ?_
      exact wX6_has_17 hX h
def X6_at_22 (G : kdS) (s0 : Int32) : kdM → Option (Int32 × kdM) :=
  rt s0
set_option maxRecDepth 100000 in
set_option maxHeartbeats 4000000 in
theorem wX6_at_22 {E : kdE} {G : kdS} {A : kdA} {r : Int32} {σ1 : kdM} (hX : kdX E A cX6_at 2 RX6 (some .int) 0) {σ : kdM} {s0 : Int32} (h : X6_at_22 G s0 σ = some (r, σ1)) : SW E G (.inl (some (.int r), σ1)) A 2 σ 22 [] [.int s0] := by
  unfold X6_at_22 at h
  exact r_iret hX dX6_at_22 h
def X6_at_21 (G : kdS) : kdM → Option (Int32 × kdM) :=
  X6_at_22 G (-1 : Int32)
set_option maxRecDepth 100000 in
set_option maxHeartbeats 4000000 in
theorem wX6_at_21 {E : kdE} {G : kdS} {A : kdA} {r : Int32} {σ1 : kdM} (hX : kdX E A cX6_at 2 RX6 (some .int) 0) {σ : kdM} (h : X6_at_21 G  σ = some (r, σ1)) : SW E G (.inl (some (.int r), σ1)) A 2 σ 21 [] [] := by
  unfold X6_at_21 at h
  refine r_iconst hX dX6_at_21 kk_i_m1 ?_
  refine r_sub [] rfl ?_
  exact wX6_at_22 hX h
def X6_at (G : kdS) (l0 : Nat) (l1 : Int32) : kdM → Option (Int32 × kdM) :=
  cnd (l1 < 0)
    (X6_at_21 G )
    (gI G 6 1 l0 fun t1 =>
    cnd (t1 ≤ l1)
      (X6_at_21 G )
      (gR G 6 0 l0 fun t2 =>
      aI G t2 (l1) fun t3 =>
      X6_at_22 G t3))
set_option maxRecDepth 100000 in
set_option maxHeartbeats 4000000 in
theorem wX6_at {E : kdE} {G : kdS} {l0 : Nat} {l1 : Int32} {σ : kdM} {r : Int32} {σ1 : kdM} (h : X6_at G l0 l1 σ = some (r, σ1)) : Con E G yX6_at cX6_at 2 (some .int) 0 [kr E l0, .int l1] σ (some (.int r), σ1) := by
  refine kd_head (own := RX6) rfl (by decide +kernel) (Nat.le_of_ble_eq_true rfl) (fun A hX => ?_)
  show SW E G (.inl (some (.int r), σ1)) A 2 σ 0 [(0, kr E l0), (1, .int l1)] []
  unfold X6_at at h
  refine r_iload_n hX dX6_at_0 rfl 1 rfl ?_
  refine r_if_lt (tgt := 21) hX dX6_at_1 (by decide) h ?_ ?_
  · clear h; intro h
    refine r_sub [] rfl ?_
    exact wX6_at_21 hX h
  · clear h; intro h
    refine r_iload_n hX dX6_at_4 rfl 1 rfl ?_
    refine r_aload_n hX dX6_at_5 rfl 0 rfl ?_
    refine r_gI hX dX6_at_6 kf_X6_21 rfl h ?_
    clear h; intro t1 h
    refine r_icmp_ge (tgt := 21) hX dX6_at_9 (by decide) h ?_ ?_
    · clear h; intro h
      refine r_sub [] rfl ?_
      exact wX6_at_21 hX h
    · clear h; intro h
      refine r_aload_n hX dX6_at_12 rfl 0 rfl ?_
      refine r_gR hX dX6_at_13 kf_X6_15 rfl h ?_
      clear h; intro t2 h
      refine r_iload_n hX dX6_at_16 rfl 1 rfl ?_
      refine r_aI hX dX6_at_17 h ?_
      clear h; intro t3 h
      refine r_goto (tgt := 22) hX dX6_at_18 (by decide) ?_
      refine r_sub [] rfl ?_
      exact wX6_at_22 hX h
def X6_insert_19 (G : kdS) : kdM → Option (Unit × kdM) :=
  rt ()
set_option maxRecDepth 100000 in
set_option maxHeartbeats 4000000 in
theorem wX6_insert_19 {E : kdE} {G : kdS} {A : kdA} {r : Unit} {σ1 : kdM} (hX : kdX E A cX6_insert 4 RX6 none 1) {σ : kdM} (h : X6_insert_19 G  σ = some (r, σ1)) : SW E G (.inl (none, σ1)) A 4 σ 19 [] [] := by
  unfold X6_insert_19 at h
  exact r_vret hX dX6_insert_19 h
def X6_insert_25B (G : kdS) (k25 : Nat → Int32 → Int32 → Int32 → kdM → Option (Unit × kdM)) (l0 : Nat) (l1 : Int32) (l2 : Int32) (l3 : Int32) : kdM → Option (Unit × kdM) :=
  cnd (l3 ≤ l1)
    (gR G 6 0 l0 fun t1 =>
    tI G t1 (l1) (l2) <|
    gI G 6 1 l0 fun t2 =>
    sI G 6 1 l0 ((t2 + (1 : Int32))) <|
    rt ())
    (gR G 6 0 l0 fun t3 =>
    gR G 6 0 l0 fun t4 =>
    aI G t4 ((l3 - (1 : Int32))) fun t5 =>
    tI G t3 (l3) (t5) <|
    ltI (l3 + Int32.ofInt (-1)) fun t6 =>
    k25 l0 l1 l2 t6)
set_option maxRecDepth 100000 in
set_option maxHeartbeats 4000000 in
theorem wX6_insert_25B {E : kdE} {G : kdS} {A : kdA} {r : Unit} {σ1 : kdM} (hX : kdX E A cX6_insert 4 RX6 none 1) (k25 : Nat → Int32 → Int32 → Int32 → kdM → Option (Unit × kdM)) (hk25 : ∀ (l0 : Nat) (l1 : Int32) (l2 : Int32) (l3 : Int32) (σ : kdM), k25 l0 l1 l2 l3 σ = some (r, σ1) → SW E G (.inl (none, σ1)) A 4 σ 25 [(0, kr E l0), (1, .int l1), (2, .int l2), (3, .int l3)] []) {σ : kdM} {l0 : Nat} {l1 : Int32} {l2 : Int32} {l3 : Int32} (h : X6_insert_25B G k25 l0 l1 l2 l3 σ = some (r, σ1)) : SW E G (.inl (none, σ1)) A 4 σ 25 [(0, kr E l0), (1, .int l1), (2, .int l2), (3, .int l3)] [] := by
  unfold X6_insert_25B at h
  refine r_iload_n hX dX6_insert_25 rfl 3 rfl ?_
  refine r_iload_n hX dX6_insert_26 rfl 1 rfl ?_
  refine r_icmp_le (tgt := 50) hX dX6_insert_27 (by decide) h ?_ ?_
  · clear h; intro h
    refine r_aload_n hX dX6_insert_50 rfl 0 rfl ?_
    refine r_gR hX dX6_insert_51 kf_X6_15 rfl h ?_
    clear h; intro t1 h
    refine r_iload_n hX dX6_insert_54 rfl 1 rfl ?_
    refine r_iload_n hX dX6_insert_55 rfl 2 rfl ?_
    refine r_tI hX dX6_insert_56 h ?_
    clear h; intro σ h
    refine r_aload_n hX dX6_insert_57 rfl 0 rfl ?_
    refine r_dup hX dX6_insert_58 rfl ?_
    refine r_gI hX dX6_insert_59 kf_X6_21 rfl h ?_
    clear h; intro t2 h
    refine r_iconst hX dX6_insert_62 kk_i_1 ?_
    refine r_iadd hX dX6_insert_63 ?_
    refine r_sI hX dX6_insert_64 kf_X6_21 rfl (by intro q hq; cases hq; rfl) h ?_
    clear h; intro σ h
    exact r_vret hX dX6_insert_67 h
  · clear h; intro h
    refine r_aload_n hX dX6_insert_30 rfl 0 rfl ?_
    refine r_gR hX dX6_insert_31 kf_X6_15 rfl h ?_
    clear h; intro t3 h
    refine r_iload_n hX dX6_insert_34 rfl 3 rfl ?_
    refine r_aload_n hX dX6_insert_35 rfl 0 rfl ?_
    refine r_gR hX dX6_insert_36 kf_X6_15 rfl h ?_
    clear h; intro t4 h
    refine r_iload_n hX dX6_insert_39 rfl 3 rfl ?_
    refine r_iconst hX dX6_insert_40 kk_i_1 ?_
    refine r_isub hX dX6_insert_41 ?_
    refine r_aI hX dX6_insert_42 h ?_
    clear h; intro t5 h
    refine r_tI hX dX6_insert_43 h ?_
    clear h; intro σ h
    refine r_iincL (L2 := fun t6 => [(3, .int t6), (0, kr E l0), (1, .int l1), (2, .int l2)]) hX dX6_insert_44 h 3 rfl (by decide) (fun _ => rfl) ?_
    clear h; intro t6 h
    refine r_goto (tgt := 25) hX dX6_insert_47 (by decide) ?_
    refine r_sub [1, 2, 3, 0] rfl ?_
    exact hk25 _ _ _ _ _ h
def X6_insert_25 (G : kdS) : Nat → Int32 → Int32 → Int32 → kdM → Option (Unit × kdM) := lp (fun _ _ _ _ _ => none) (X6_insert_25B G) NN
theorem wX6_insert_25 {E : kdE} {G : kdS} {A : kdA} {r : Unit} {σ1 : kdM} (hX : kdX E A cX6_insert 4 RX6 none 1) : ∀ (l0 : Nat) (l1 : Int32) (l2 : Int32) (l3 : Int32) (σ : kdM), X6_insert_25 G l0 l1 l2 l3 σ = some (r, σ1) → SW E G (.inl (none, σ1)) A 4 σ 25 [(0, kr E l0), (1, .int l1), (2, .int l2), (3, .int l3)] [] :=
  lp_ind (Q := fun f => ∀ (l0 : Nat) (l1 : Int32) (l2 : Int32) (l3 : Int32) (σ : kdM), f l0 l1 l2 l3 σ = some (r, σ1) → SW E G (.inl (none, σ1)) A 4 σ 25 [(0, kr E l0), (1, .int l1), (2, .int l2), (3, .int l3)] []) (by intros; contradiction) (fun k hk l0 l1 l2 l3 σ h => wX6_insert_25B hX k hk h) NN
def X6_insert (G : kdS) (l0 : Nat) (l1 : Int32) (l2 : Int32) : kdM → Option (Unit × kdM) :=
  kcv G 6 l0 (X6_isFull G l0) fun t1 =>
  cnd (t1 = 0)
    (cnd (l1 < 0)
      (X6_insert_19 G )
      (gI G 6 1 l0 fun t2 =>
      cnd (l1 ≤ t2)
        (gI G 6 1 l0 fun t3 =>
        X6_insert_25 G l0 l1 l2 t3)
        (X6_insert_19 G )))
    (X6_insert_19 G )
set_option maxRecDepth 100000 in
set_option maxHeartbeats 4000000 in
theorem wX6_insert {E : kdE} {G : kdS} {l0 : Nat} {l1 : Int32} {l2 : Int32} {σ : kdM} {r : Unit} {σ1 : kdM} (h : X6_insert G l0 l1 l2 σ = some (r, σ1)) : Con E G yX6_insert cX6_insert 4 none 1 [kr E l0, .int l1, .int l2] σ (none, σ1) := by
  refine kd_head (own := RX6) rfl (by decide +kernel) (Nat.le_of_ble_eq_true rfl) (fun A hX => ?_)
  show SW E G (.inl (none, σ1)) A 4 σ 0 [(0, kr E l0), (1, .int l1), (2, .int l2)] []
  unfold X6_insert at h
  refine r_aload_n hX dX6_insert_0 rfl 0 rfl ?_
  refine r_cVi (As := []) (st := []) hX dX6_insert_1 kl_X6_isFull w_ml_X6_29 w_im_X6_isFull w_se_X6_isFull ⟨_, _, rfl⟩ (by decide) rfl (Nat.le_of_ble_eq_true rfl) rfl kdz0 h (fun r σ1 h => wX6_isFull h) ?_
  clear h; intro t1 σ h
  refine r_if_ne (tgt := 19) hX dX6_insert_4 (by decide) h ?_ ?_
  · clear h; intro h
    refine r_iload_n hX dX6_insert_7 rfl 1 rfl ?_
    refine r_if_lt (tgt := 19) hX dX6_insert_8 (by decide) h ?_ ?_
    · clear h; intro h
      refine r_sub [] rfl ?_
      exact wX6_insert_19 hX h
    · clear h; intro h
      refine r_iload_n hX dX6_insert_11 rfl 1 rfl ?_
      refine r_aload_n hX dX6_insert_12 rfl 0 rfl ?_
      refine r_gI hX dX6_insert_13 kf_X6_21 rfl h ?_
      clear h; intro t2 h
      refine r_icmp_le (tgt := 20) hX dX6_insert_16 (by decide) h ?_ ?_
      · clear h; intro h
        refine r_aload_n hX dX6_insert_20 rfl 0 rfl ?_
        refine r_gI hX dX6_insert_21 kf_X6_21 rfl h ?_
        clear h; intro t3 h
        refine r_istore_n (L2 := [(3, .int t3), (0, kr E l0), (1, .int l1), (2, .int l2)]) hX dX6_insert_24 rfl (by decide) rfl ?_
        refine r_sub [1, 2, 3, 0] rfl ?_
        exact wX6_insert_25 hX _ _ _ _ _ h
      · clear h; intro h
        refine r_sub [] rfl ?_
        exact wX6_insert_19 hX h
  · clear h; intro h
    refine r_sub [] rfl ?_
    exact wX6_insert_19 hX h
def X6_add (G : kdS) (l0 : Nat) (l1 : Int32) : kdM → Option (Unit × kdM) :=
  gI G 6 1 l0 fun t1 =>
  kcv G 6 l0 (X6_insert G l0 t1 l1) fun _ =>
  rt ()
set_option maxRecDepth 100000 in
set_option maxHeartbeats 4000000 in
theorem wX6_add {E : kdE} {G : kdS} {l0 : Nat} {l1 : Int32} {σ : kdM} {r : Unit} {σ1 : kdM} (h : X6_add G l0 l1 σ = some (r, σ1)) : Con E G yX6_add cX6_add 2 none 2 [kr E l0, .int l1] σ (none, σ1) := by
  refine kd_head (own := RX6) rfl (by decide +kernel) (Nat.le_of_ble_eq_true rfl) (fun A hX => ?_)
  show SW E G (.inl (none, σ1)) A 2 σ 0 [(0, kr E l0), (1, .int l1)] []
  unfold X6_add at h
  refine r_aload_n hX dX6_add_0 rfl 0 rfl ?_
  refine r_aload_n hX dX6_add_1 rfl 0 rfl ?_
  refine r_gI hX dX6_add_2 kf_X6_21 rfl h ?_
  clear h; intro t1 h
  refine r_iload_n hX dX6_add_5 rfl 1 rfl ?_
  refine r_cVv (As := [.int t1, .int l1]) (st := []) hX dX6_add_6 kl_X6_insert w_ml_X6_25 w_im_X6_insert w_se_X6_insert ⟨_, _, rfl⟩ (by decide) rfl (Nat.le_of_ble_eq_true rfl) rfl kdz0 h (fun r σ1 h => wX6_insert h) ?_
  clear h; intro u σ h
  exact r_vret hX dX6_add_9 h
def X6_remove_54 (G : kdS) (l2 : Int32) : kdM → Option (Int32 × kdM) :=
  rt l2
set_option maxRecDepth 100000 in
set_option maxHeartbeats 4000000 in
theorem wX6_remove_54 {E : kdE} {G : kdS} {A : kdA} {r : Int32} {σ1 : kdM} (hX : kdX E A cX6_remove 4 RX6 (some .int) 1) {σ : kdM} {l2 : Int32} (h : X6_remove_54 G l2 σ = some (r, σ1)) : SW E G (.inl (some (.int r), σ1)) A 4 σ 54 [(2, .int l2)] [] := by
  unfold X6_remove_54 at h
  refine r_iload_n hX dX6_remove_54 rfl 0 rfl ?_
  exact r_iret hX dX6_remove_55 h
def X6_remove_26B (G : kdS) (k26 : Nat → Int32 → Int32 → kdM → Option (Int32 × kdM)) (l0 : Nat) (l2 : Int32) (l3 : Int32) : kdM → Option (Int32 × kdM) :=
  gI G 6 1 l0 fun t1 =>
  cnd (t1 ≤ l3)
    (X6_remove_54 G l2)
    (gR G 6 0 l0 fun t2 =>
    gR G 6 0 l0 fun t3 =>
    aI G t3 ((l3 + (1 : Int32))) fun t4 =>
    tI G t2 (l3) (t4) <|
    ltI (l3 + Int32.ofInt 1) fun t5 =>
    k26 l0 l2 t5)
set_option maxRecDepth 100000 in
set_option maxHeartbeats 4000000 in
theorem wX6_remove_26B {E : kdE} {G : kdS} {A : kdA} {r : Int32} {σ1 : kdM} (hX : kdX E A cX6_remove 4 RX6 (some .int) 1) (k26 : Nat → Int32 → Int32 → kdM → Option (Int32 × kdM)) (hk26 : ∀ (l0 : Nat) (l2 : Int32) (l3 : Int32) (σ : kdM), k26 l0 l2 l3 σ = some (r, σ1) → SW E G (.inl (some (.int r), σ1)) A 4 σ 26 [(0, kr E l0), (2, .int l2), (3, .int l3)] []) {σ : kdM} {l0 : Nat} {l2 : Int32} {l3 : Int32} (h : X6_remove_26B G k26 l0 l2 l3 σ = some (r, σ1)) : SW E G (.inl (some (.int r), σ1)) A 4 σ 26 [(0, kr E l0), (2, .int l2), (3, .int l3)] [] := by
  unfold X6_remove_26B at h
  refine r_iload_n hX dX6_remove_26 rfl 2 rfl ?_
  refine r_aload_n hX dX6_remove_27 rfl 0 rfl ?_
  refine r_gI hX dX6_remove_28 kf_X6_21 rfl h ?_
  clear h; intro t1 h
  refine r_icmp_ge (tgt := 54) hX dX6_remove_31 (by decide) h ?_ ?_
  · clear h; intro h
    refine r_sub [1] rfl ?_
    exact wX6_remove_54 hX h
  · clear h; intro h
    refine r_aload_n hX dX6_remove_34 rfl 0 rfl ?_
    refine r_gR hX dX6_remove_35 kf_X6_15 rfl h ?_
    clear h; intro t2 h
    refine r_iload_n hX dX6_remove_38 rfl 2 rfl ?_
    refine r_aload_n hX dX6_remove_39 rfl 0 rfl ?_
    refine r_gR hX dX6_remove_40 kf_X6_15 rfl h ?_
    clear h; intro t3 h
    refine r_iload_n hX dX6_remove_43 rfl 2 rfl ?_
    refine r_iconst hX dX6_remove_44 kk_i_1 ?_
    refine r_iadd hX dX6_remove_45 ?_
    refine r_aI hX dX6_remove_46 h ?_
    clear h; intro t4 h
    refine r_tI hX dX6_remove_47 h ?_
    clear h; intro σ h
    refine r_iincL (L2 := fun t5 => [(3, .int t5), (0, kr E l0), (2, .int l2)]) hX dX6_remove_48 h 2 rfl (by decide) (fun _ => rfl) ?_
    clear h; intro t5 h
    refine r_goto (tgt := 26) hX dX6_remove_51 (by decide) ?_
    refine r_sub [1, 2, 0] rfl ?_
    exact hk26 _ _ _ _ h
def X6_remove_26 (G : kdS) : Nat → Int32 → Int32 → kdM → Option (Int32 × kdM) := lp (fun _ _ _ _ => none) (X6_remove_26B G) NN
theorem wX6_remove_26 {E : kdE} {G : kdS} {A : kdA} {r : Int32} {σ1 : kdM} (hX : kdX E A cX6_remove 4 RX6 (some .int) 1) : ∀ (l0 : Nat) (l2 : Int32) (l3 : Int32) (σ : kdM), X6_remove_26 G l0 l2 l3 σ = some (r, σ1) → SW E G (.inl (some (.int r), σ1)) A 4 σ 26 [(0, kr E l0), (2, .int l2), (3, .int l3)] [] :=
  lp_ind (Q := fun f => ∀ (l0 : Nat) (l2 : Int32) (l3 : Int32) (σ : kdM), f l0 l2 l3 σ = some (r, σ1) → SW E G (.inl (some (.int r), σ1)) A 4 σ 26 [(0, kr E l0), (2, .int l2), (3, .int l3)] []) (by intros; contradiction) (fun k hk l0 l2 l3 σ h => wX6_remove_26B hX k hk h) NN
def X6_remove (G : kdS) (l0 : Nat) (l1 : Int32) : kdM → Option (Int32 × kdM) :=
  kcv G 6 l0 (X6_at G l0 l1) fun t1 =>
  kcv G 6 l0 (X6_has G l0 l1) fun t2 =>
  cnd (t2 = 0)
    (X6_remove_54 G t1)
    (gI G 6 1 l0 fun t3 =>
    sI G 6 1 l0 ((t3 - (1 : Int32))) <|
    X6_remove_26 G l0 t1 l1)
set_option maxRecDepth 100000 in
set_option maxHeartbeats 4000000 in
theorem wX6_remove {E : kdE} {G : kdS} {l0 : Nat} {l1 : Int32} {σ : kdM} {r : Int32} {σ1 : kdM} (h : X6_remove G l0 l1 σ = some (r, σ1)) : Con E G yX6_remove cX6_remove 4 (some .int) 1 [kr E l0, .int l1] σ (some (.int r), σ1) := by
  refine kd_head (own := RX6) rfl (by decide +kernel) (Nat.le_of_ble_eq_true rfl) (fun A hX => ?_)
  show SW E G (.inl (some (.int r), σ1)) A 4 σ 0 [(0, kr E l0), (1, .int l1)] []
  unfold X6_remove at h
  refine r_aload_n hX dX6_remove_0 rfl 0 rfl ?_
  refine r_iload_n hX dX6_remove_1 rfl 1 rfl ?_
  refine r_cVi (As := [.int l1]) (st := []) hX dX6_remove_2 kl_X6_at w_ml_X6_33 w_im_X6_at w_se_X6_at ⟨_, _, rfl⟩ (by decide) rfl (Nat.le_of_ble_eq_true rfl) rfl kdz0 h (fun r σ1 h => wX6_at h) ?_
  clear h; intro t1 σ h
  refine r_istore_n (L2 := [(2, .int t1), (0, kr E l0), (1, .int l1)]) hX dX6_remove_5 rfl (by decide) rfl ?_
  refine r_aload_n hX dX6_remove_6 rfl 1 rfl ?_
  refine r_iload_n hX dX6_remove_7 rfl 2 rfl ?_
  refine r_cVi (As := [.int l1]) (st := []) hX dX6_remove_8 kl_X6_has w_ml_X6_37 w_im_X6_has w_se_X6_has ⟨_, _, rfl⟩ (by decide) rfl (Nat.le_of_ble_eq_true rfl) rfl kdz0 h (fun r σ1 h => wX6_has h) ?_
  clear h; intro t2 σ h
  refine r_if_eq (tgt := 54) hX dX6_remove_11 (by decide) h ?_ ?_
  · clear h; intro h
    refine r_sub [0] rfl ?_
    exact wX6_remove_54 hX h
  · clear h; intro h
    refine r_aload_n hX dX6_remove_14 rfl 1 rfl ?_
    refine r_dup hX dX6_remove_15 rfl ?_
    refine r_gI hX dX6_remove_16 kf_X6_21 rfl h ?_
    clear h; intro t3 h
    refine r_iconst hX dX6_remove_19 kk_i_1 ?_
    refine r_isub hX dX6_remove_20 ?_
    refine r_sI hX dX6_remove_21 kf_X6_21 rfl (by intro q hq; cases hq; rfl) h ?_
    clear h; intro σ h
    refine r_iload_n hX dX6_remove_24 rfl 2 rfl ?_
    refine r_istore_n (L2 := [(3, .int l1), (2, .int t1), (0, kr E l0), (1, .int l1)]) hX dX6_remove_25 rfl (by decide) rfl ?_
    refine r_sub [2, 1, 0] rfl ?_
    exact wX6_remove_26 hX _ _ _ _ h
def X6_clear (G : kdS) (l0 : Nat) : kdM → Option (Int32 × kdM) :=
  gI G 6 1 l0 fun t1 =>
  sI G 6 1 l0 ((0 : Int32)) <|
  rt t1
set_option maxRecDepth 100000 in
set_option maxHeartbeats 4000000 in
theorem wX6_clear {E : kdE} {G : kdS} {l0 : Nat} {σ : kdM} {r : Int32} {σ1 : kdM} (h : X6_clear G l0 σ = some (r, σ1)) : Con E G yX6_clear cX6_clear 2 (some .int) 0 [kr E l0] σ (some (.int r), σ1) := by
  refine kd_head (own := RX6) rfl (by decide +kernel) (Nat.le_of_ble_eq_true rfl) (fun A hX => ?_)
  show SW E G (.inl (some (.int r), σ1)) A 2 σ 0 [(0, kr E l0)] []
  unfold X6_clear at h
  refine r_aload_n hX dX6_clear_0 rfl 0 rfl ?_
  refine r_gI hX dX6_clear_1 kf_X6_21 rfl h ?_
  clear h; intro t1 h
  refine r_istore_n (L2 := [(1, .int t1), (0, kr E l0)]) hX dX6_clear_4 rfl (by decide) rfl ?_
  refine r_aload_n hX dX6_clear_5 rfl 1 rfl ?_
  refine r_iconst hX dX6_clear_6 kk_i_0 ?_
  refine r_sI hX dX6_clear_7 kf_X6_21 rfl (by intro q hq; cases hq; rfl) h ?_
  clear h; intro σ h
  refine r_iload_n hX dX6_clear_10 rfl 0 rfl ?_
  exact r_iret hX dX6_clear_11 h
def X6_copy_7B (G : kdS) (k7 : Nat → Nat → Int32 → kdM → Option (Unit × kdM)) (l0 : Nat) (l1 : Nat) (l2 : Int32) : kdM → Option (Unit × kdM) :=
  gI G 6 1 l1 fun t1 =>
  cnd (t1 ≤ l2)
    (rt ())
    (gR G 6 0 l1 fun t2 =>
    aI G t2 (l2) fun t3 =>
    kcv G 6 l0 (X6_add G l0 t3) fun _ =>
    ltI (l2 + Int32.ofInt 1) fun t4 =>
    k7 l0 l1 t4)
set_option maxRecDepth 100000 in
set_option maxHeartbeats 4000000 in
theorem wX6_copy_7B {E : kdE} {G : kdS} {A : kdA} {r : Unit} {σ1 : kdM} (hX : kdX E A cX6_copy 3 RX6 none 3) (k7 : Nat → Nat → Int32 → kdM → Option (Unit × kdM)) (hk7 : ∀ (l0 : Nat) (l1 : Nat) (l2 : Int32) (σ : kdM), k7 l0 l1 l2 σ = some (r, σ1) → SW E G (.inl (none, σ1)) A 3 σ 7 [(0, kr E l0), (1, kr E l1), (2, .int l2)] []) {σ : kdM} {l0 : Nat} {l1 : Nat} {l2 : Int32} (h : X6_copy_7B G k7 l0 l1 l2 σ = some (r, σ1)) : SW E G (.inl (none, σ1)) A 3 σ 7 [(0, kr E l0), (1, kr E l1), (2, .int l2)] [] := by
  unfold X6_copy_7B at h
  refine r_iload_n hX dX6_copy_7 rfl 2 rfl ?_
  refine r_aload_n hX dX6_copy_8 rfl 1 rfl ?_
  refine r_gI hX dX6_copy_9 kf_X6_21 rfl h ?_
  clear h; intro t1 h
  refine r_icmp_ge (tgt := 31) hX dX6_copy_12 (by decide) h ?_ ?_
  · clear h; intro h
    exact r_vret hX dX6_copy_31 h
  · clear h; intro h
    refine r_aload_n hX dX6_copy_15 rfl 0 rfl ?_
    refine r_aload_n hX dX6_copy_16 rfl 1 rfl ?_
    refine r_gR hX dX6_copy_17 kf_X6_15 rfl h ?_
    clear h; intro t2 h
    refine r_iload_n hX dX6_copy_20 rfl 2 rfl ?_
    refine r_aI hX dX6_copy_21 h ?_
    clear h; intro t3 h
    refine r_cVv (As := [.int t3]) (st := []) hX dX6_copy_22 kl_X6_add w_ml_X6_45 w_im_X6_add w_se_X6_add ⟨_, _, rfl⟩ (by decide) rfl (Nat.le_of_ble_eq_true rfl) rfl kdz0 h (fun r σ1 h => wX6_add h) ?_
    clear h; intro u σ h
    refine r_iincL (L2 := fun t4 => [(2, .int t4), (0, kr E l0), (1, kr E l1)]) hX dX6_copy_25 h 2 rfl (by decide) (fun _ => rfl) ?_
    clear h; intro t4 h
    refine r_goto (tgt := 7) hX dX6_copy_28 (by decide) ?_
    refine r_sub [1, 2, 0] rfl ?_
    exact hk7 _ _ _ _ h
def X6_copy_7 (G : kdS) : Nat → Nat → Int32 → kdM → Option (Unit × kdM) := lp (fun _ _ _ _ => none) (X6_copy_7B G) NN
theorem wX6_copy_7 {E : kdE} {G : kdS} {A : kdA} {r : Unit} {σ1 : kdM} (hX : kdX E A cX6_copy 3 RX6 none 3) : ∀ (l0 : Nat) (l1 : Nat) (l2 : Int32) (σ : kdM), X6_copy_7 G l0 l1 l2 σ = some (r, σ1) → SW E G (.inl (none, σ1)) A 3 σ 7 [(0, kr E l0), (1, kr E l1), (2, .int l2)] [] :=
  lp_ind (Q := fun f => ∀ (l0 : Nat) (l1 : Nat) (l2 : Int32) (σ : kdM), f l0 l1 l2 σ = some (r, σ1) → SW E G (.inl (none, σ1)) A 3 σ 7 [(0, kr E l0), (1, kr E l1), (2, .int l2)] []) (by intros; contradiction) (fun k hk l0 l1 l2 σ h => wX6_copy_7B hX k hk h) NN
def X6_copy (G : kdS) (l0 : Nat) (l1 : Nat) : kdM → Option (Unit × kdM) :=
  kcv G 6 l0 (X6_clear G l0) fun t1 =>
  X6_copy_7 G l0 l1 (0 : Int32)
set_option maxRecDepth 100000 in
set_option maxHeartbeats 4000000 in
theorem wX6_copy {E : kdE} {G : kdS} {l0 : Nat} {l1 : Nat} {σ : kdM} {r : Unit} {σ1 : kdM} (h : X6_copy G l0 l1 σ = some (r, σ1)) : Con E G yX6_copy cX6_copy 3 none 3 [kr E l0, kr E l1] σ (none, σ1) := by
  refine kd_head (own := RX6) rfl (by decide +kernel) (Nat.le_of_ble_eq_true rfl) (fun A hX => ?_)
  show SW E G (.inl (none, σ1)) A 3 σ 0 [(0, kr E l0), (1, kr E l1)] []
  unfold X6_copy at h
  refine r_aload_n hX dX6_copy_0 rfl 0 rfl ?_
  refine r_cVi (As := []) (st := []) hX dX6_copy_1 kl_X6_clear w_ml_X6_41 w_im_X6_clear w_se_X6_clear ⟨_, _, rfl⟩ (by decide) rfl (Nat.le_of_ble_eq_true rfl) rfl kdz0 h (fun r σ1 h => wX6_clear h) ?_
  clear h; intro t1 σ h
  refine r_pop hX dX6_copy_4 rfl ?_
  refine r_iconst hX dX6_copy_5 kk_i_0 ?_
  refine r_istore_n (L2 := [(2, .int (0 : Int32)), (0, kr E l0), (1, kr E l1)]) hX dX6_copy_6 rfl (by decide) rfl ?_
  refine r_sub [1, 2, 0] rfl ?_
  exact wX6_copy_7 hX _ _ _ _ h
def X8_rules (G : kdS) (l0 : Nat) : kdM → Option (Int32 × kdM) :=
  gI G 8 2 l0 fun t1 =>
  rt t1
set_option maxRecDepth 100000 in
set_option maxHeartbeats 4000000 in
theorem wX8_rules {E : kdE} {G : kdS} {l0 : Nat} {σ : kdM} {r : Int32} {σ1 : kdM} (h : X8_rules G l0 σ = some (r, σ1)) : Con E G yX8_rules cX8_rules 1 (some .int) 0 [kr E l0] σ (some (.int r), σ1) := by
  refine kd_head (own := RX8) rfl (by decide +kernel) (Nat.le_of_ble_eq_true rfl) (fun A hX => ?_)
  show SW E G (.inl (some (.int r), σ1)) A 1 σ 0 [(0, kr E l0)] []
  unfold X8_rules at h
  refine r_aload_n hX dX8_rules_0 rfl 0 rfl ?_
  refine r_gI hX dX8_rules_1 kf_X8_40 rfl h ?_
  clear h; intro t1 h
  exact r_iret hX dX8_rules_4 h
def X8_joins (G : kdS) (l0 : Nat) : kdM → Option (Int32 × kdM) :=
  gR G 8 5 l0 fun t1 =>
  kcv G 6 t1 (X6_size G t1) fun t2 =>
  rt t2
set_option maxRecDepth 100000 in
set_option maxHeartbeats 4000000 in
theorem wX8_joins {E : kdE} {G : kdS} {l0 : Nat} {σ : kdM} {r : Int32} {σ1 : kdM} (h : X8_joins G l0 σ = some (r, σ1)) : Con E G yX8_joins cX8_joins 1 (some .int) 1 [kr E l0] σ (some (.int r), σ1) := by
  refine kd_head (own := RX8) rfl (by decide +kernel) (Nat.le_of_ble_eq_true rfl) (fun A hX => ?_)
  show SW E G (.inl (some (.int r), σ1)) A 1 σ 0 [(0, kr E l0)] []
  unfold X8_joins at h
  refine r_aload_n hX dX8_joins_0 rfl 0 rfl ?_
  refine r_gR hX dX8_joins_1 kf_X8_30 rfl h ?_
  clear h; intro t1 h
  refine r_cVi (As := []) (st := []) hX dX8_joins_4 kl_X6_size w_ml_X8_44 w_im_X6_size w_se_X6_size ⟨_, _, rfl⟩ (by decide) rfl (Nat.le_of_ble_eq_true rfl) rfl kdz0 h (fun r σ1 h => wX6_size h) ?_
  clear h; intro t2 σ h
  exact r_iret hX dX8_joins_7 h
def X4_strokes (G : kdS) (l0 : Nat) : kdM → Option (Nat × kdM) :=
  gR G 4 0 l0 fun t1 =>
  rt t1
set_option maxRecDepth 100000 in
set_option maxHeartbeats 4000000 in
theorem wX4_strokes {E : kdE} {G : kdS} {l0 : Nat} {σ : kdM} {r : Nat} {σ1 : kdM} (h : X4_strokes G l0 σ = some (r, σ1)) : Con E G yX4_strokes cX4_strokes 1 (some (.object "KeyDesk$Row")) 0 [kr E l0] σ (some (kr E r), σ1) := by
  refine kd_head (own := RX4) rfl (by decide +kernel) (Nat.le_of_ble_eq_true rfl) (fun A hX => ?_)
  show SW E G (.inl (some (kr E r), σ1)) A 1 σ 0 [(0, kr E l0)] []
  unfold X4_strokes at h
  refine r_aload_n hX dX4_strokes_0 rfl 0 rfl ?_
  refine r_gR hX dX4_strokes_1 kf_X4_14 rfl h ?_
  clear h; intro t1 h
  exact r_aret hX dX4_strokes_4 h
def X4_tongue (G : kdS) (l0 : Nat) : kdM → Option (Int32 × kdM) :=
  gI G 4 4 l0 fun t1 =>
  rt t1
set_option maxRecDepth 100000 in
set_option maxHeartbeats 4000000 in
theorem wX4_tongue {E : kdE} {G : kdS} {l0 : Nat} {σ : kdM} {r : Int32} {σ1 : kdM} (h : X4_tongue G l0 σ = some (r, σ1)) : Con E G yX4_tongue cX4_tongue 1 (some .int) 0 [kr E l0] σ (some (.int r), σ1) := by
  refine kd_head (own := RX4) rfl (by decide +kernel) (Nat.le_of_ble_eq_true rfl) (fun A hX => ?_)
  show SW E G (.inl (some (.int r), σ1)) A 1 σ 0 [(0, kr E l0)] []
  unfold X4_tongue at h
  refine r_aload_n hX dX4_tongue_0 rfl 0 rfl ?_
  refine r_gI hX dX4_tongue_1 kf_X4_29 rfl h ?_
  clear h; intro t1 h
  exact r_iret hX dX4_tongue_4 h
def X10_size (G : kdS) (l0 : Nat) : kdM → Option (Int32 × kdM) :=
  gR G 10 0 l0 fun t1 =>
  kcv G 6 t1 (X6_size G t1) fun t2 =>
  rt t2
set_option maxRecDepth 100000 in
set_option maxHeartbeats 4000000 in
theorem wX10_size {E : kdE} {G : kdS} {l0 : Nat} {σ : kdM} {r : Int32} {σ1 : kdM} (h : X10_size G l0 σ = some (r, σ1)) : Con E G yX10_size cX10_size 1 (some .int) 1 [kr E l0] σ (some (.int r), σ1) := by
  refine kd_head (own := RX10) rfl (by decide +kernel) (Nat.le_of_ble_eq_true rfl) (fun A hX => ?_)
  show SW E G (.inl (some (.int r), σ1)) A 1 σ 0 [(0, kr E l0)] []
  unfold X10_size at h
  refine r_aload_n hX dX10_size_0 rfl 0 rfl ?_
  refine r_gR hX dX10_size_1 kf_X10_14 rfl h ?_
  clear h; intro t1 h
  refine r_cVi (As := []) (st := []) hX dX10_size_4 kl_X6_size w_ml_X10_30 w_im_X6_size w_se_X6_size ⟨_, _, rfl⟩ (by decide) rfl (Nat.le_of_ble_eq_true rfl) rfl kdz0 h (fun r σ1 h => wX6_size h) ?_
  clear h; intro t2 σ h
  exact r_iret hX dX10_size_7 h
def X10_isFull (G : kdS) (l0 : Nat) : kdM → Option (Int32 × kdM) :=
  gR G 10 0 l0 fun t1 =>
  kcv G 6 t1 (X6_isFull G t1) fun t2 =>
  rt (vp_nar .boolean t2)
set_option maxRecDepth 100000 in
set_option maxHeartbeats 4000000 in
theorem wX10_isFull {E : kdE} {G : kdS} {l0 : Nat} {σ : kdM} {r : Int32} {σ1 : kdM} (h : X10_isFull G l0 σ = some (r, σ1)) : Con E G yX10_isFull cX10_isFull 1 (some .boolean) 1 [kr E l0] σ (some (.int r), σ1) := by
  refine kd_head (own := RX10) rfl (by decide +kernel) (Nat.le_of_ble_eq_true rfl) (fun A hX => ?_)
  show SW E G (.inl (some (.int r), σ1)) A 1 σ 0 [(0, kr E l0)] []
  unfold X10_isFull at h
  refine r_aload_n hX dX10_isFull_0 rfl 0 rfl ?_
  refine r_gR hX dX10_isFull_1 kf_X10_14 rfl h ?_
  clear h; intro t1 h
  refine r_cVi (As := []) (st := []) hX dX10_isFull_4 kl_X6_isFull w_ml_X10_34 w_im_X6_isFull w_se_X6_isFull ⟨_, _, rfl⟩ (by decide) rfl (Nat.le_of_ble_eq_true rfl) rfl kdz0 h (fun r σ1 h => wX6_isFull h) ?_
  clear h; intro t2 σ h
  exact r_zret hX dX10_isFull_7 h
def X10_has (G : kdS) (l0 : Nat) (l1 : Int32) : kdM → Option (Int32 × kdM) :=
  gR G 10 0 l0 fun t1 =>
  kcv G 6 t1 (X6_has G t1 l1) fun t2 =>
  rt (vp_nar .boolean t2)
set_option maxRecDepth 100000 in
set_option maxHeartbeats 4000000 in
theorem wX10_has {E : kdE} {G : kdS} {l0 : Nat} {l1 : Int32} {σ : kdM} {r : Int32} {σ1 : kdM} (h : X10_has G l0 l1 σ = some (r, σ1)) : Con E G yX10_has cX10_has 2 (some .boolean) 1 [kr E l0, .int l1] σ (some (.int r), σ1) := by
  refine kd_head (own := RX10) rfl (by decide +kernel) (Nat.le_of_ble_eq_true rfl) (fun A hX => ?_)
  show SW E G (.inl (some (.int r), σ1)) A 2 σ 0 [(0, kr E l0), (1, .int l1)] []
  unfold X10_has at h
  refine r_aload_n hX dX10_has_0 rfl 0 rfl ?_
  refine r_gR hX dX10_has_1 kf_X10_14 rfl h ?_
  clear h; intro t1 h
  refine r_iload_n hX dX10_has_4 rfl 1 rfl ?_
  refine r_cVi (As := [.int l1]) (st := []) hX dX10_has_5 kl_X6_has w_ml_X10_38 w_im_X6_has w_se_X6_has ⟨_, _, rfl⟩ (by decide) rfl (Nat.le_of_ble_eq_true rfl) rfl kdz0 h (fun r σ1 h => wX6_has h) ?_
  clear h; intro t2 σ h
  exact r_zret hX dX10_has_8 h
def X10_tongueOf (G : kdS) (l0 : Nat) (l1 : Int32) : kdM → Option (Int32 × kdM) :=
  gR G 10 0 l0 fun t1 =>
  kcv G 6 t1 (X6_at G t1 l1) fun t2 =>
  rt t2
set_option maxRecDepth 100000 in
set_option maxHeartbeats 4000000 in
theorem wX10_tongueOf {E : kdE} {G : kdS} {l0 : Nat} {l1 : Int32} {σ : kdM} {r : Int32} {σ1 : kdM} (h : X10_tongueOf G l0 l1 σ = some (r, σ1)) : Con E G yX10_tongueOf cX10_tongueOf 2 (some .int) 1 [kr E l0, .int l1] σ (some (.int r), σ1) := by
  refine kd_head (own := RX10) rfl (by decide +kernel) (Nat.le_of_ble_eq_true rfl) (fun A hX => ?_)
  show SW E G (.inl (some (.int r), σ1)) A 2 σ 0 [(0, kr E l0), (1, .int l1)] []
  unfold X10_tongueOf at h
  refine r_aload_n hX dX10_tongueOf_0 rfl 0 rfl ?_
  refine r_gR hX dX10_tongueOf_1 kf_X10_14 rfl h ?_
  clear h; intro t1 h
  refine r_iload_n hX dX10_tongueOf_4 rfl 1 rfl ?_
  refine r_cVi (As := [.int l1]) (st := []) hX dX10_tongueOf_5 kl_X6_at w_ml_X10_42 w_im_X6_at w_se_X6_at ⟨_, _, rfl⟩ (by decide) rfl (Nat.le_of_ble_eq_true rfl) rfl kdz0 h (fun r σ1 h => wX6_at h) ?_
  clear h; intro t2 σ h
  exact r_iret hX dX10_tongueOf_8 h
def X10_signOf (G : kdS) (l0 : Nat) (l1 : Int32) : kdM → Option (Int32 × kdM) :=
  gR G 10 1 l0 fun t1 =>
  kcv G 6 t1 (X6_at G t1 l1) fun t2 =>
  rt t2
set_option maxRecDepth 100000 in
set_option maxHeartbeats 4000000 in
theorem wX10_signOf {E : kdE} {G : kdS} {l0 : Nat} {l1 : Int32} {σ : kdM} {r : Int32} {σ1 : kdM} (h : X10_signOf G l0 l1 σ = some (r, σ1)) : Con E G yX10_signOf cX10_signOf 2 (some .int) 1 [kr E l0, .int l1] σ (some (.int r), σ1) := by
  refine kd_head (own := RX10) rfl (by decide +kernel) (Nat.le_of_ble_eq_true rfl) (fun A hX => ?_)
  show SW E G (.inl (some (.int r), σ1)) A 2 σ 0 [(0, kr E l0), (1, .int l1)] []
  unfold X10_signOf at h
  refine r_aload_n hX dX10_signOf_0 rfl 0 rfl ?_
  refine r_gR hX dX10_signOf_1 kf_X10_20 rfl h ?_
  clear h; intro t1 h
  refine r_iload_n hX dX10_signOf_4 rfl 1 rfl ?_
  refine r_cVi (As := [.int l1]) (st := []) hX dX10_signOf_5 kl_X6_at w_ml_X10_42 w_im_X6_at w_se_X6_at ⟨_, _, rfl⟩ (by decide) rfl (Nat.le_of_ble_eq_true rfl) rfl kdz0 h (fun r σ1 h => wX6_at h) ?_
  clear h; intro t2 σ h
  exact r_iret hX dX10_signOf_8 h
def X10_countOf (G : kdS) (l0 : Nat) (l1 : Int32) : kdM → Option (Int32 × kdM) :=
  gR G 10 2 l0 fun t1 =>
  kcv G 6 t1 (X6_at G t1 l1) fun t2 =>
  rt t2
set_option maxRecDepth 100000 in
set_option maxHeartbeats 4000000 in
theorem wX10_countOf {E : kdE} {G : kdS} {l0 : Nat} {l1 : Int32} {σ : kdM} {r : Int32} {σ1 : kdM} (h : X10_countOf G l0 l1 σ = some (r, σ1)) : Con E G yX10_countOf cX10_countOf 2 (some .int) 1 [kr E l0, .int l1] σ (some (.int r), σ1) := by
  refine kd_head (own := RX10) rfl (by decide +kernel) (Nat.le_of_ble_eq_true rfl) (fun A hX => ?_)
  show SW E G (.inl (some (.int r), σ1)) A 2 σ 0 [(0, kr E l0), (1, .int l1)] []
  unfold X10_countOf at h
  refine r_aload_n hX dX10_countOf_0 rfl 0 rfl ?_
  refine r_gR hX dX10_countOf_1 kf_X10_23 rfl h ?_
  clear h; intro t1 h
  refine r_iload_n hX dX10_countOf_4 rfl 1 rfl ?_
  refine r_cVi (As := [.int l1]) (st := []) hX dX10_countOf_5 kl_X6_at w_ml_X10_42 w_im_X6_at w_se_X6_at ⟨_, _, rfl⟩ (by decide) rfl (Nat.le_of_ble_eq_true rfl) rfl kdz0 h (fun r σ1 h => wX6_at h) ?_
  clear h; intro t2 σ h
  exact r_iret hX dX10_countOf_8 h
def X10_keysOf (G : kdS) (l0 : Nat) (l1 : Int32) : kdM → Option (Nat × kdM) :=
  gR G 10 3 l0 fun t1 =>
  aR G 16 t1 (l1) fun t2 =>
  rt t2
set_option maxRecDepth 100000 in
set_option maxHeartbeats 4000000 in
theorem wX10_keysOf {E : kdE} {G : kdS} {l0 : Nat} {l1 : Int32} {σ : kdM} {r : Nat} {σ1 : kdM} (h : X10_keysOf G l0 l1 σ = some (r, σ1)) : Con E G yX10_keysOf cX10_keysOf 2 (some (.object "KeyDesk$Row")) 0 [kr E l0, .int l1] σ (some (kr E r), σ1) := by
  refine kd_head (own := RX10) rfl (by decide +kernel) (Nat.le_of_ble_eq_true rfl) (fun A hX => ?_)
  show SW E G (.inl (some (kr E r), σ1)) A 2 σ 0 [(0, kr E l0), (1, .int l1)] []
  unfold X10_keysOf at h
  refine r_aload_n hX dX10_keysOf_0 rfl 0 rfl ?_
  refine r_gR hX dX10_keysOf_1 kf_X10_26 rfl h ?_
  clear h; intro t1 h
  refine r_iload_n hX dX10_keysOf_4 rfl 1 rfl ?_
  refine r_aR16 hX dX10_keysOf_5 h ?_
  clear h; intro t2 h
  exact r_aret hX dX10_keysOf_6 h
def X10_addWord (G : kdS) (l0 : Nat) (l1 : Int32) (l2 : Int32) (l3 : Int32) (l4 : Nat) : kdM → Option (Int32 × kdM) :=
  kcv G 10 l0 (X10_isFull G l0) fun t1 =>
  cnd (t1 = 0)
    (gR G 10 3 l0 fun t2 =>
    kcv G 10 l0 (X10_size G l0) fun t3 =>
    aR G 16 t2 (t3) fun t4 =>
    kcv G 6 t4 (X6_copy G t4 l4) fun _ =>
    gR G 10 0 l0 fun t5 =>
    kcv G 6 t5 (X6_add G t5 l1) fun _ =>
    gR G 10 1 l0 fun t6 =>
    kcv G 6 t6 (X6_add G t6 l2) fun _ =>
    gR G 10 2 l0 fun t7 =>
    kcv G 6 t7 (X6_add G t7 l3) fun _ =>
    kcv G 10 l0 (X10_size G l0) fun t8 =>
    rt (t8 - (1 : Int32)))
    (rt (-4 : Int32))
set_option maxRecDepth 100000 in
set_option maxHeartbeats 4000000 in
theorem wX10_addWord {E : kdE} {G : kdS} {l0 : Nat} {l1 : Int32} {l2 : Int32} {l3 : Int32} {l4 : Nat} {σ : kdM} {r : Int32} {σ1 : kdM} (h : X10_addWord G l0 l1 l2 l3 l4 σ = some (r, σ1)) : Con E G yX10_addWord cX10_addWord 5 (some .int) 4 [kr E l0, .int l1, .int l2, .int l3, kr E l4] σ (some (.int r), σ1) := by
  refine kd_head (own := RX10) rfl (by decide +kernel) (Nat.le_of_ble_eq_true rfl) (fun A hX => ?_)
  show SW E G (.inl (some (.int r), σ1)) A 5 σ 0 [(0, kr E l0), (1, .int l1), (2, .int l2), (3, .int l3), (4, kr E l4)] []
  unfold X10_addWord at h
  refine r_aload_n hX dX10_addWord_0 rfl 0 rfl ?_
  refine r_cVi (As := []) (st := []) hX dX10_addWord_1 kl_X10_isFull w_ml_X10_50 w_im_X10_isFull w_se_X10_isFull ⟨_, _, rfl⟩ (by decide) rfl (Nat.le_of_ble_eq_true rfl) rfl kdz0 h (fun r σ1 h => wX10_isFull h) ?_
  clear h; intro t1 σ h
  refine r_if_eq (tgt := 10) hX dX10_addWord_4 (by decide) h ?_ ?_
  · clear h; intro h
    refine r_aload_n hX dX10_addWord_10 rfl 0 rfl ?_
    refine r_gR hX dX10_addWord_11 kf_X10_26 rfl h ?_
    clear h; intro t2 h
    refine r_aload_n hX dX10_addWord_14 rfl 0 rfl ?_
    refine r_cVi (As := []) (st := [kr E t2]) hX dX10_addWord_15 kl_X10_size w_ml_X10_51 w_im_X10_size w_se_X10_size ⟨_, _, rfl⟩ (by decide) rfl (Nat.le_of_ble_eq_true rfl) rfl kdz0 h (fun r σ1 h => wX10_size h) ?_
    clear h; intro t3 σ h
    refine r_aR16 hX dX10_addWord_18 h ?_
    clear h; intro t4 h
    refine r_aload hX dX10_addWord_19 4 rfl ?_
    refine r_cVv (As := [kr E l4]) (st := []) hX dX10_addWord_21 kl_X6_copy w_ml_X10_52 w_im_X6_copy w_se_X6_copy ⟨_, _, rfl⟩ (by decide) rfl (Nat.le_of_ble_eq_true rfl) rfl kdz0 h (fun r σ1 h => wX6_copy h) ?_
    clear h; intro u σ h
    refine r_aload_n hX dX10_addWord_24 rfl 0 rfl ?_
    refine r_gR hX dX10_addWord_25 kf_X10_14 rfl h ?_
    clear h; intro t5 h
    refine r_iload_n hX dX10_addWord_28 rfl 1 rfl ?_
    refine r_cVv (As := [.int l1]) (st := []) hX dX10_addWord_29 kl_X6_add w_ml_X10_56 w_im_X6_add w_se_X6_add ⟨_, _, rfl⟩ (by decide) rfl (Nat.le_of_ble_eq_true rfl) rfl kdz0 h (fun r σ1 h => wX6_add h) ?_
    clear h; intro u σ h
    refine r_aload_n hX dX10_addWord_32 rfl 0 rfl ?_
    refine r_gR hX dX10_addWord_33 kf_X10_20 rfl h ?_
    clear h; intro t6 h
    refine r_iload_n hX dX10_addWord_36 rfl 2 rfl ?_
    refine r_cVv (As := [.int l2]) (st := []) hX dX10_addWord_37 kl_X6_add w_ml_X10_56 w_im_X6_add w_se_X6_add ⟨_, _, rfl⟩ (by decide) rfl (Nat.le_of_ble_eq_true rfl) rfl kdz0 h (fun r σ1 h => wX6_add h) ?_
    clear h; intro u σ h
    refine r_aload_n hX dX10_addWord_40 rfl 0 rfl ?_
    refine r_gR hX dX10_addWord_41 kf_X10_23 rfl h ?_
    clear h; intro t7 h
    refine r_iload_n hX dX10_addWord_44 rfl 3 rfl ?_
    refine r_cVv (As := [.int l3]) (st := []) hX dX10_addWord_45 kl_X6_add w_ml_X10_56 w_im_X6_add w_se_X6_add ⟨_, _, rfl⟩ (by decide) rfl (Nat.le_of_ble_eq_true rfl) rfl kdz0 h (fun r σ1 h => wX6_add h) ?_
    clear h; intro u σ h
    refine r_aload_n hX dX10_addWord_48 rfl 0 rfl ?_
    refine r_cVi (As := []) (st := []) hX dX10_addWord_49 kl_X10_size w_ml_X10_51 w_im_X10_size w_se_X10_size ⟨_, _, rfl⟩ (by decide) rfl (Nat.le_of_ble_eq_true rfl) rfl kdz0 h (fun r σ1 h => wX10_size h) ?_
    clear h; intro t8 σ h
    refine r_iconst hX dX10_addWord_52 kk_i_1 ?_
    refine r_isub hX dX10_addWord_53 ?_
    exact r_iret hX dX10_addWord_54 h
  · clear h; intro h
    refine r_bipush hX dX10_addWord_7 kk_b_m4 ?_
    exact r_iret hX dX10_addWord_9 h
def X7_leastFor (G : kdS) (l0 : Nat) (l1 : Int32) (l2 : Nat) : kdM → Option (Int32 × kdM) :=
  gR G 7 1 l0 fun t1 =>
  aR G 18 t1 (l1) fun t2 =>
  kcv G 6 l2 (X6_size G l2) fun t3 =>
  aI G t2 (t3) fun t4 =>
  rt t4
set_option maxRecDepth 100000 in
set_option maxHeartbeats 4000000 in
theorem wX7_leastFor {E : kdE} {G : kdS} {l0 : Nat} {l1 : Int32} {l2 : Nat} {σ : kdM} {r : Int32} {σ1 : kdM} (h : X7_leastFor G l0 l1 l2 σ = some (r, σ1)) : Con E G yX7_leastFor cX7_leastFor 3 (some .int) 1 [kr E l0, .int l1, kr E l2] σ (some (.int r), σ1) := by
  refine kd_head (own := RX7) rfl (by decide +kernel) (Nat.le_of_ble_eq_true rfl) (fun A hX => ?_)
  show SW E G (.inl (some (.int r), σ1)) A 3 σ 0 [(0, kr E l0), (1, .int l1), (2, kr E l2)] []
  unfold X7_leastFor at h
  refine r_aload_n hX dX7_leastFor_0 rfl 0 rfl ?_
  refine r_gR hX dX7_leastFor_1 kf_X7_17 rfl h ?_
  clear h; intro t1 h
  refine r_iload_n hX dX7_leastFor_4 rfl 1 rfl ?_
  refine r_aR18 hX dX7_leastFor_5 h ?_
  clear h; intro t2 h
  refine r_aload_n hX dX7_leastFor_6 rfl 2 rfl ?_
  refine r_cVi (As := []) (st := [kr E t2]) hX dX7_leastFor_7 kl_X6_size w_ml_X7_20 w_im_X6_size w_se_X6_size ⟨_, _, rfl⟩ (by decide) rfl (Nat.le_of_ble_eq_true rfl) rfl kdz0 h (fun r σ1 h => wX6_size h) ?_
  clear h; intro t3 σ h
  refine r_aI hX dX7_leastFor_10 h ?_
  clear h; intro t4 h
  exact r_iret hX dX7_leastFor_11 h
def X7_priceOfOne_50 (G : kdS) (s0 : Nat) (s1 : Int32) : kdM → Option (Int32 × kdM) :=
  aI G s0 (s1) fun t1 =>
  rt t1
set_option maxRecDepth 100000 in
set_option maxHeartbeats 4000000 in
theorem wX7_priceOfOne_50 {E : kdE} {G : kdS} {A : kdA} {r : Int32} {σ1 : kdM} (hX : kdX E A cX7_priceOfOne 5 RX7 (some .int) 1) {σ : kdM} {s0 : Nat} {s1 : Int32} (h : X7_priceOfOne_50 G s0 s1 σ = some (r, σ1)) : SW E G (.inl (some (.int r), σ1)) A 5 σ 50 [] [.int s1, kr E s0] := by
  unfold X7_priceOfOne_50 at h
  refine r_aI hX dX7_priceOfOne_50 h ?_
  clear h; intro t1 h
  exact r_iret hX dX7_priceOfOne_51 h
def X7_priceOfOne_49 (G : kdS) (s0 : Nat) : kdM → Option (Int32 × kdM) :=
  X7_priceOfOne_50 G s0 (4 : Int32)
set_option maxRecDepth 100000 in
set_option maxHeartbeats 4000000 in
theorem wX7_priceOfOne_49 {E : kdE} {G : kdS} {A : kdA} {r : Int32} {σ1 : kdM} (hX : kdX E A cX7_priceOfOne 5 RX7 (some .int) 1) {σ : kdM} {s0 : Nat} (h : X7_priceOfOne_49 G s0 σ = some (r, σ1)) : SW E G (.inl (some (.int r), σ1)) A 5 σ 49 [] [kr E s0] := by
  unfold X7_priceOfOne_49 at h
  refine r_iconst hX dX7_priceOfOne_49 kk_i_4 ?_
  refine r_sub [] rfl ?_
  exact wX7_priceOfOne_50 hX h
def X7_priceOfOne (G : kdS) (l0 : Nat) (l1 : Int32) (l2 : Int32) : kdM → Option (Int32 × kdM) :=
  cnd (l1 = l2)
    (rt (0 : Int32))
    (nz (4 : Int32) <|
    nz (4 : Int32) <|
    ltI ((kabs ((l1 / (4 : Int32)) - (l2 / (4 : Int32))))) fun t1 =>
    nz (4 : Int32) <|
    nz (4 : Int32) <|
    ltI ((kabs ((krem l1 (4 : Int32)) - (krem l2 (4 : Int32))))) fun t2 =>
    gR G 7 0 l0 fun t3 =>
    cnd ((1 : Int32) < t1)
      (X7_priceOfOne_49 G t3)
      (cnd ((1 : Int32) < t2)
        (X7_priceOfOne_49 G t3)
        (X7_priceOfOne_50 G t3 (0 : Int32))))
set_option maxRecDepth 100000 in
set_option maxHeartbeats 4000000 in
theorem wX7_priceOfOne {E : kdE} {G : kdS} {l0 : Nat} {l1 : Int32} {l2 : Int32} {σ : kdM} {r : Int32} {σ1 : kdM} (h : X7_priceOfOne G l0 l1 l2 σ = some (r, σ1)) : Con E G yX7_priceOfOne cX7_priceOfOne 5 (some .int) 1 [kr E l0, .int l1, .int l2] σ (some (.int r), σ1) := by
  refine kd_head (own := RX7) rfl (by decide +kernel) (Nat.le_of_ble_eq_true rfl) (fun A hX => ?_)
  show SW E G (.inl (some (.int r), σ1)) A 5 σ 0 [(0, kr E l0), (1, .int l1), (2, .int l2)] []
  unfold X7_priceOfOne at h
  refine r_iload_n hX dX7_priceOfOne_0 rfl 1 rfl ?_
  refine r_iload_n hX dX7_priceOfOne_1 rfl 2 rfl ?_
  refine r_icmp_ne (tgt := 7) hX dX7_priceOfOne_2 (by decide) h ?_ ?_
  · clear h; intro h
    refine r_iconst hX dX7_priceOfOne_5 kk_i_0 ?_
    exact r_iret hX dX7_priceOfOne_6 h
  · clear h; intro h
    refine r_iload_n hX dX7_priceOfOne_7 rfl 1 rfl ?_
    refine r_iconst hX dX7_priceOfOne_8 kk_i_4 ?_
    refine r_idiv hX dX7_priceOfOne_9 h ?_
    clear h; intro h
    refine r_iload_n hX dX7_priceOfOne_10 rfl 2 rfl ?_
    refine r_iconst hX dX7_priceOfOne_11 kk_i_4 ?_
    refine r_idiv hX dX7_priceOfOne_12 h ?_
    clear h; intro h
    refine r_isub hX dX7_priceOfOne_13 ?_
    refine r_mabs hX dX7_priceOfOne_14 w_ml_X7_51 w_st_Math_abs w_in_Math w_cd_Math_abs (by decide) (Nat.le_of_ble_eq_true rfl) kdz0 ?_
    refine r_letI h ?_
    clear h; intro t1 h
    refine r_istore_n (L2 := [(3, .int t1), (0, kr E l0), (1, .int l1), (2, .int l2)]) hX dX7_priceOfOne_17 rfl (by decide) rfl ?_
    refine r_iload_n hX dX7_priceOfOne_18 rfl 2 rfl ?_
    refine r_iconst hX dX7_priceOfOne_19 kk_i_4 ?_
    refine r_irem hX dX7_priceOfOne_20 h ?_
    clear h; intro h
    refine r_iload_n hX dX7_priceOfOne_21 rfl 3 rfl ?_
    refine r_iconst hX dX7_priceOfOne_22 kk_i_4 ?_
    refine r_irem hX dX7_priceOfOne_23 h ?_
    clear h; intro h
    refine r_isub hX dX7_priceOfOne_24 ?_
    refine r_mabs hX dX7_priceOfOne_25 w_ml_X7_51 w_st_Math_abs w_in_Math w_cd_Math_abs (by decide) (Nat.le_of_ble_eq_true rfl) kdz0 ?_
    refine r_letI h ?_
    clear h; intro t2 h
    refine r_istore (L2 := [(4, .int t2), (3, .int t1), (0, kr E l0), (1, .int l1), (2, .int l2)]) hX dX7_priceOfOne_28 (by decide) rfl ?_
    refine r_aload_n hX dX7_priceOfOne_30 rfl 2 rfl ?_
    refine r_gR hX dX7_priceOfOne_31 kf_X7_9 rfl h ?_
    clear h; intro t3 h
    refine r_iload_n hX dX7_priceOfOne_34 rfl 1 rfl ?_
    refine r_iconst hX dX7_priceOfOne_35 kk_i_1 ?_
    refine r_icmp_gt (tgt := 49) hX dX7_priceOfOne_36 (by decide) h ?_ ?_
    · clear h; intro h
      refine r_sub [] rfl ?_
      exact wX7_priceOfOne_49 hX h
    · clear h; intro h
      refine r_iload hX dX7_priceOfOne_39 0 rfl ?_
      refine r_iconst hX dX7_priceOfOne_41 kk_i_1 ?_
      refine r_icmp_gt (tgt := 49) hX dX7_priceOfOne_42 (by decide) h ?_ ?_
      · clear h; intro h
        refine r_sub [] rfl ?_
        exact wX7_priceOfOne_49 hX h
      · clear h; intro h
        refine r_iconst hX dX7_priceOfOne_45 kk_i_0 ?_
        refine r_goto (tgt := 50) hX dX7_priceOfOne_46 (by decide) ?_
        refine r_sub [] rfl ?_
        exact wX7_priceOfOne_50 hX h
def X7_leastSum_215 (G : kdS) (l8 : Int32) : kdM → Option (Int32 × kdM) :=
  rt l8
set_option maxRecDepth 100000 in
set_option maxHeartbeats 4000000 in
theorem wX7_leastSum_215 {E : kdE} {G : kdS} {A : kdA} {r : Int32} {σ1 : kdM} (hX : kdX E A cX7_leastSum 9 RX7 (some .int) 2) {σ : kdM} {l8 : Int32} (h : X7_leastSum_215 G l8 σ = some (r, σ1)) : SW E G (.inl (some (.int r), σ1)) A 9 σ 215 [(8, .int l8)] [] := by
  unfold X7_leastSum_215 at h
  refine r_iload hX dX7_leastSum_215 0 rfl ?_
  exact r_iret hX dX7_leastSum_217 h
def X7_leastSum_142 (G : kdS) (l0 : Nat) (l3 : Int32) (l4 : Nat) (l5 : Int32) (l6 : Int32) (l7 : Int32) (l8 : Int32) : kdM → Option (Int32 × kdM) :=
  cnd (l3 ≤ (1 : Int32))
    (X7_leastSum_215 G l8)
    (cnd (l5 ≤ (1 : Int32))
      (X7_leastSum_215 G l8)
      (cnd (l6 = l7)
        (X7_leastSum_215 G l8)
        (kcv G 6 l4 (X6_at G l4 (l5 - (2 : Int32))) fun t1 =>
        cnd (l6 = t1)
          (kcv G 6 l4 (X6_at G l4 (l5 - (1 : Int32))) fun t2 =>
          cnd (l7 = t2)
            (gR G 7 1 l0 fun t3 =>
            aR G 18 t3 ((l3 - (2 : Int32))) fun t4 =>
            aI G t4 ((l5 - (2 : Int32))) fun t5 =>
            gR G 7 0 l0 fun t6 =>
            aI G t6 ((3 : Int32)) fun t7 =>
            ltI ((kmin l8 (t5 + t7))) fun t8 =>
            X7_leastSum_215 G t8)
            (X7_leastSum_215 G l8))
          (X7_leastSum_215 G l8))))
set_option maxRecDepth 100000 in
set_option maxHeartbeats 4000000 in
theorem wX7_leastSum_142 {E : kdE} {G : kdS} {A : kdA} {r : Int32} {σ1 : kdM} (hX : kdX E A cX7_leastSum 9 RX7 (some .int) 2) {σ : kdM} {l0 : Nat} {l3 : Int32} {l4 : Nat} {l5 : Int32} {l6 : Int32} {l7 : Int32} {l8 : Int32} (h : X7_leastSum_142 G l0 l3 l4 l5 l6 l7 l8 σ = some (r, σ1)) : SW E G (.inl (some (.int r), σ1)) A 9 σ 142 [(0, kr E l0), (3, .int l3), (4, kr E l4), (5, .int l5), (6, .int l6), (7, .int l7), (8, .int l8)] [] := by
  unfold X7_leastSum_142 at h
  refine r_iload_n hX dX7_leastSum_142 rfl 1 rfl ?_
  refine r_iconst hX dX7_leastSum_143 kk_i_1 ?_
  refine r_icmp_le (tgt := 215) hX dX7_leastSum_144 (by decide) h ?_ ?_
  · clear h; intro h
    refine r_sub [6] rfl ?_
    exact wX7_leastSum_215 hX h
  · clear h; intro h
    refine r_iload hX dX7_leastSum_147 3 rfl ?_
    refine r_iconst hX dX7_leastSum_149 kk_i_1 ?_
    refine r_icmp_le (tgt := 215) hX dX7_leastSum_150 (by decide) h ?_ ?_
    · clear h; intro h
      refine r_sub [6] rfl ?_
      exact wX7_leastSum_215 hX h
    · clear h; intro h
      refine r_iload hX dX7_leastSum_153 4 rfl ?_
      refine r_iload hX dX7_leastSum_155 5 rfl ?_
      refine r_icmp_eq (tgt := 215) hX dX7_leastSum_157 (by decide) h ?_ ?_
      · clear h; intro h
        refine r_sub [6] rfl ?_
        exact wX7_leastSum_215 hX h
      · clear h; intro h
        refine r_iload hX dX7_leastSum_160 4 rfl ?_
        refine r_aload hX dX7_leastSum_162 2 rfl ?_
        refine r_iload hX dX7_leastSum_164 3 rfl ?_
        refine r_iconst hX dX7_leastSum_166 kk_i_2 ?_
        refine r_isub hX dX7_leastSum_167 ?_
        refine r_cVi (As := [.int (l5 - (2 : Int32))]) (st := [.int l6]) hX dX7_leastSum_168 kl_X6_at w_ml_X7_38 w_im_X6_at w_se_X6_at ⟨_, _, rfl⟩ (by decide) rfl (Nat.le_of_ble_eq_true rfl) rfl kdz0 h (fun r σ1 h => wX6_at h) ?_
        clear h; intro t1 σ h
        refine r_icmp_ne (tgt := 215) hX dX7_leastSum_171 (by decide) h ?_ ?_
        · clear h; intro h
          refine r_iload hX dX7_leastSum_174 5 rfl ?_
          refine r_aload hX dX7_leastSum_176 2 rfl ?_
          refine r_iload hX dX7_leastSum_178 3 rfl ?_
          refine r_iconst hX dX7_leastSum_180 kk_i_1 ?_
          refine r_isub hX dX7_leastSum_181 ?_
          refine r_cVi (As := [.int (l5 - (1 : Int32))]) (st := [.int l7]) hX dX7_leastSum_182 kl_X6_at w_ml_X7_38 w_im_X6_at w_se_X6_at ⟨_, _, rfl⟩ (by decide) rfl (Nat.le_of_ble_eq_true rfl) rfl kdz0 h (fun r σ1 h => wX6_at h) ?_
          clear h; intro t2 σ h
          refine r_icmp_ne (tgt := 215) hX dX7_leastSum_185 (by decide) h ?_ ?_
          · clear h; intro h
            refine r_iload hX dX7_leastSum_188 6 rfl ?_
            refine r_aload_n hX dX7_leastSum_190 rfl 0 rfl ?_
            refine r_gR hX dX7_leastSum_191 kf_X7_17 rfl h ?_
            clear h; intro t3 h
            refine r_iload_n hX dX7_leastSum_194 rfl 1 rfl ?_
            refine r_iconst hX dX7_leastSum_195 kk_i_2 ?_
            refine r_isub hX dX7_leastSum_196 ?_
            refine r_aR18 hX dX7_leastSum_197 h ?_
            clear h; intro t4 h
            refine r_iload hX dX7_leastSum_198 3 rfl ?_
            refine r_iconst hX dX7_leastSum_200 kk_i_2 ?_
            refine r_isub hX dX7_leastSum_201 ?_
            refine r_aI hX dX7_leastSum_202 h ?_
            clear h; intro t5 h
            refine r_aload_n hX dX7_leastSum_203 rfl 0 rfl ?_
            refine r_gR hX dX7_leastSum_204 kf_X7_9 rfl h ?_
            clear h; intro t6 h
            refine r_iconst hX dX7_leastSum_207 kk_i_3 ?_
            refine r_aI hX dX7_leastSum_208 h ?_
            clear h; intro t7 h
            refine r_iadd hX dX7_leastSum_209 ?_
            refine r_mmin hX dX7_leastSum_210 w_ml_X7_42 w_st_Math_min w_in_Math w_cd_Math_min (by decide) (Nat.le_of_ble_eq_true rfl) kdz0 ?_
            refine r_letI h ?_
            clear h; intro t8 h
            refine r_istore (L2 := [(8, .int t8), (0, kr E l0), (3, .int l3), (4, kr E l4), (5, .int l5), (6, .int l6), (7, .int l7)]) hX dX7_leastSum_213 (by decide) rfl ?_
            refine r_sub [0] rfl ?_
            exact wX7_leastSum_215 hX h
          · clear h; intro h
            refine r_sub [6] rfl ?_
            exact wX7_leastSum_215 hX h
        · clear h; intro h
          refine r_sub [6] rfl ?_
          exact wX7_leastSum_215 hX h
def X7_leastSum_72 (G : kdS) (l0 : Nat) (l3 : Int32) (l4 : Nat) (l5 : Int32) (l6 : Int32) (l7 : Int32) (s0 : Int32) (s1 : Nat) (s2 : Int32) : kdM → Option (Int32 × kdM) :=
  aI G s1 (s2) fun t1 =>
  ltI ((s0 + t1)) fun t2 =>
  cnd (l5 ≤ 0)
    (X7_leastSum_142 G l0 l3 l4 l5 l6 l7 t2)
    (gR G 7 1 l0 fun t3 =>
    aR G 18 t3 (l3) fun t4 =>
    aI G t4 ((l5 - (1 : Int32))) fun t5 =>
    gR G 7 0 l0 fun t6 =>
    aI G t6 ((2 : Int32)) fun t7 =>
    ltI ((kmin t2 (t5 + t7))) fun t8 =>
    gR G 7 1 l0 fun t9 =>
    aR G 18 t9 ((l3 - (1 : Int32))) fun t10 =>
    aI G t10 ((l5 - (1 : Int32))) fun t11 =>
    kcv G 6 l4 (X6_at G l4 (l5 - (1 : Int32))) fun t12 =>
    kcv G 7 l0 (X7_priceOfOne G l0 l6 t12) fun t13 =>
    ltI ((kmin t8 (t11 + t13))) fun t14 =>
    X7_leastSum_142 G l0 l3 l4 l5 l6 l7 t14)
set_option maxRecDepth 100000 in
set_option maxHeartbeats 4000000 in
theorem wX7_leastSum_72 {E : kdE} {G : kdS} {A : kdA} {r : Int32} {σ1 : kdM} (hX : kdX E A cX7_leastSum 9 RX7 (some .int) 2) {σ : kdM} {l0 : Nat} {l3 : Int32} {l4 : Nat} {l5 : Int32} {l6 : Int32} {l7 : Int32} {s0 : Int32} {s1 : Nat} {s2 : Int32} (h : X7_leastSum_72 G l0 l3 l4 l5 l6 l7 s0 s1 s2 σ = some (r, σ1)) : SW E G (.inl (some (.int r), σ1)) A 9 σ 72 [(0, kr E l0), (3, .int l3), (4, kr E l4), (5, .int l5), (6, .int l6), (7, .int l7)] [.int s2, kr E s1, .int s0] := by
  unfold X7_leastSum_72 at h
  refine r_aI hX dX7_leastSum_72 h ?_
  clear h; intro t1 h
  refine r_iadd hX dX7_leastSum_73 ?_
  refine r_letI h ?_
  clear h; intro t2 h
  refine r_istore (L2 := [(8, .int t2), (0, kr E l0), (3, .int l3), (4, kr E l4), (5, .int l5), (6, .int l6), (7, .int l7)]) hX dX7_leastSum_74 (by decide) rfl ?_
  refine r_iload hX dX7_leastSum_76 4 rfl ?_
  refine r_if_le (tgt := 142) hX dX7_leastSum_78 (by decide) h ?_ ?_
  · clear h; intro h
    refine r_sub [1, 2, 3, 4, 5, 6, 0] rfl ?_
    exact wX7_leastSum_142 hX h
  · clear h; intro h
    refine r_iload hX dX7_leastSum_81 0 rfl ?_
    refine r_aload_n hX dX7_leastSum_83 rfl 1 rfl ?_
    refine r_gR hX dX7_leastSum_84 kf_X7_17 rfl h ?_
    clear h; intro t3 h
    refine r_iload_n hX dX7_leastSum_87 rfl 2 rfl ?_
    refine r_aR18 hX dX7_leastSum_88 h ?_
    clear h; intro t4 h
    refine r_iload hX dX7_leastSum_89 4 rfl ?_
    refine r_iconst hX dX7_leastSum_91 kk_i_1 ?_
    refine r_isub hX dX7_leastSum_92 ?_
    refine r_aI hX dX7_leastSum_93 h ?_
    clear h; intro t5 h
    refine r_aload_n hX dX7_leastSum_94 rfl 1 rfl ?_
    refine r_gR hX dX7_leastSum_95 kf_X7_9 rfl h ?_
    clear h; intro t6 h
    refine r_iconst hX dX7_leastSum_98 kk_i_2 ?_
    refine r_aI hX dX7_leastSum_99 h ?_
    clear h; intro t7 h
    refine r_iadd hX dX7_leastSum_100 ?_
    refine r_mmin hX dX7_leastSum_101 w_ml_X7_42 w_st_Math_min w_in_Math w_cd_Math_min (by decide) (Nat.le_of_ble_eq_true rfl) kdz0 ?_
    refine r_letI h ?_
    clear h; intro t8 h
    refine r_istore (L2 := [(8, .int t8), (0, kr E l0), (3, .int l3), (4, kr E l4), (5, .int l5), (6, .int l6), (7, .int l7)]) hX dX7_leastSum_104 (by decide) rfl ?_
    refine r_iload hX dX7_leastSum_106 0 rfl ?_
    refine r_aload_n hX dX7_leastSum_108 rfl 1 rfl ?_
    refine r_gR hX dX7_leastSum_109 kf_X7_17 rfl h ?_
    clear h; intro t9 h
    refine r_iload_n hX dX7_leastSum_112 rfl 2 rfl ?_
    refine r_iconst hX dX7_leastSum_113 kk_i_1 ?_
    refine r_isub hX dX7_leastSum_114 ?_
    refine r_aR18 hX dX7_leastSum_115 h ?_
    clear h; intro t10 h
    refine r_iload hX dX7_leastSum_116 4 rfl ?_
    refine r_iconst hX dX7_leastSum_118 kk_i_1 ?_
    refine r_isub hX dX7_leastSum_119 ?_
    refine r_aI hX dX7_leastSum_120 h ?_
    clear h; intro t11 h
    refine r_aload_n hX dX7_leastSum_121 rfl 1 rfl ?_
    refine r_iload hX dX7_leastSum_122 5 rfl ?_
    refine r_aload hX dX7_leastSum_124 3 rfl ?_
    refine r_iload hX dX7_leastSum_126 4 rfl ?_
    refine r_iconst hX dX7_leastSum_128 kk_i_1 ?_
    refine r_isub hX dX7_leastSum_129 ?_
    refine r_cVi (As := [.int (l5 - (1 : Int32))]) (st := [.int l6, kr E l0, .int t11, .int t8]) hX dX7_leastSum_130 kl_X6_at w_ml_X7_38 w_im_X6_at w_se_X6_at ⟨_, _, rfl⟩ (by decide) rfl (Nat.le_of_ble_eq_true rfl) rfl kdz0 h (fun r σ1 h => wX6_at h) ?_
    clear h; intro t12 σ h
    refine r_cVi (As := [.int l6, .int t12]) (st := [.int t11, .int t8]) hX dX7_leastSum_133 kl_X7_priceOfOne w_ml_X7_48 w_im_X7_priceOfOne w_se_X7_priceOfOne ⟨_, _, rfl⟩ (by decide) rfl (Nat.le_of_ble_eq_true rfl) rfl kdz0 h (fun r σ1 h => wX7_priceOfOne h) ?_
    clear h; intro t13 σ h
    refine r_iadd hX dX7_leastSum_136 ?_
    refine r_mmin hX dX7_leastSum_137 w_ml_X7_42 w_st_Math_min w_in_Math w_cd_Math_min (by decide) (Nat.le_of_ble_eq_true rfl) kdz0 ?_
    refine r_letI h ?_
    clear h; intro t14 h
    refine r_istore (L2 := [(8, .int t14), (0, kr E l0), (3, .int l3), (4, kr E l4), (5, .int l5), (6, .int l6), (7, .int l7)]) hX dX7_leastSum_140 (by decide) rfl ?_
    refine r_sub [1, 2, 3, 4, 5, 6, 0] rfl ?_
    exact wX7_leastSum_142 hX h
def X7_leastSum_43 (G : kdS) (l0 : Nat) (l3 : Int32) (l4 : Nat) (l5 : Int32) (l6 : Int32) (s0 : Int32) : kdM → Option (Int32 × kdM) :=
  gR G 7 1 l0 fun t1 =>
  aR G 18 t1 ((l3 - (1 : Int32))) fun t2 =>
  aI G t2 (l5) fun t3 =>
  gR G 7 0 l0 fun t4 =>
  cnd (l6 = s0)
    (X7_leastSum_72 G l0 l3 l4 l5 l6 s0 t3 t4 (1 : Int32))
    (X7_leastSum_72 G l0 l3 l4 l5 l6 s0 t3 t4 (4 : Int32))
set_option maxRecDepth 100000 in
set_option maxHeartbeats 4000000 in
theorem wX7_leastSum_43 {E : kdE} {G : kdS} {A : kdA} {r : Int32} {σ1 : kdM} (hX : kdX E A cX7_leastSum 9 RX7 (some .int) 2) {σ : kdM} {l0 : Nat} {l3 : Int32} {l4 : Nat} {l5 : Int32} {l6 : Int32} {s0 : Int32} (h : X7_leastSum_43 G l0 l3 l4 l5 l6 s0 σ = some (r, σ1)) : SW E G (.inl (some (.int r), σ1)) A 9 σ 43 [(0, kr E l0), (3, .int l3), (4, kr E l4), (5, .int l5), (6, .int l6)] [.int s0] := by
  unfold X7_leastSum_43 at h
  refine r_istore (L2 := [(7, .int s0), (0, kr E l0), (3, .int l3), (4, kr E l4), (5, .int l5), (6, .int l6)]) hX dX7_leastSum_43 (by decide) rfl ?_
  refine r_aload_n hX dX7_leastSum_45 rfl 1 rfl ?_
  refine r_gR hX dX7_leastSum_46 kf_X7_17 rfl h ?_
  clear h; intro t1 h
  refine r_iload_n hX dX7_leastSum_49 rfl 2 rfl ?_
  refine r_iconst hX dX7_leastSum_50 kk_i_1 ?_
  refine r_isub hX dX7_leastSum_51 ?_
  refine r_aR18 hX dX7_leastSum_52 h ?_
  clear h; intro t2 h
  refine r_iload hX dX7_leastSum_53 4 rfl ?_
  refine r_aI hX dX7_leastSum_55 h ?_
  clear h; intro t3 h
  refine r_aload_n hX dX7_leastSum_56 rfl 1 rfl ?_
  refine r_gR hX dX7_leastSum_57 kf_X7_9 rfl h ?_
  clear h; intro t4 h
  refine r_iload hX dX7_leastSum_60 5 rfl ?_
  refine r_iload hX dX7_leastSum_62 0 rfl ?_
  refine r_icmp_ne (tgt := 71) hX dX7_leastSum_64 (by decide) h ?_ ?_
  · clear h; intro h
    refine r_iconst hX dX7_leastSum_67 kk_i_1 ?_
    refine r_goto (tgt := 72) hX dX7_leastSum_68 (by decide) ?_
    refine r_sub [1, 2, 3, 4, 5, 0] rfl ?_
    exact wX7_leastSum_72 hX h
  · clear h; intro h
    refine r_iconst hX dX7_leastSum_71 kk_i_4 ?_
    refine r_sub [1, 2, 3, 4, 5, 0] rfl ?_
    exact wX7_leastSum_72 hX h
def X7_leastSum (G : kdS) (l0 : Nat) (l1 : Nat) (l2 : Int32) (l3 : Int32) (l4 : Nat) (l5 : Int32) : kdM → Option (Int32 × kdM) :=
  cnd (l3 = 0)
    (gR G 7 0 l0 fun t1 =>
    aI G t1 ((2 : Int32)) fun t2 =>
    rt (l5 * t2))
    (kcv G 6 l1 (X6_at G l1 ((l2 + l3) - (1 : Int32))) fun t3 =>
    cnd (l3 ≤ (1 : Int32))
      (X7_leastSum_43 G l0 l3 l4 l5 t3 (-1 : Int32))
      (kcv G 6 l1 (X6_at G l1 ((l2 + l3) - (2 : Int32))) fun t4 =>
      X7_leastSum_43 G l0 l3 l4 l5 t3 t4))
set_option maxRecDepth 100000 in
set_option maxHeartbeats 4000000 in
theorem wX7_leastSum {E : kdE} {G : kdS} {l0 : Nat} {l1 : Nat} {l2 : Int32} {l3 : Int32} {l4 : Nat} {l5 : Int32} {σ : kdM} {r : Int32} {σ1 : kdM} (h : X7_leastSum G l0 l1 l2 l3 l4 l5 σ = some (r, σ1)) : Con E G yX7_leastSum cX7_leastSum 9 (some .int) 2 [kr E l0, kr E l1, .int l2, .int l3, kr E l4, .int l5] σ (some (.int r), σ1) := by
  refine kd_head (own := RX7) rfl (by decide +kernel) (Nat.le_of_ble_eq_true rfl) (fun A hX => ?_)
  show SW E G (.inl (some (.int r), σ1)) A 9 σ 0 [(0, kr E l0), (1, kr E l1), (2, .int l2), (3, .int l3), (4, kr E l4), (5, .int l5)] []
  unfold X7_leastSum at h
  refine r_iload_n hX dX7_leastSum_0 rfl 3 rfl ?_
  refine r_if_ne (tgt := 14) hX dX7_leastSum_1 (by decide) h ?_ ?_
  · clear h; intro h
    refine r_iload hX dX7_leastSum_4 5 rfl ?_
    refine r_aload_n hX dX7_leastSum_6 rfl 0 rfl ?_
    refine r_gR hX dX7_leastSum_7 kf_X7_9 rfl h ?_
    clear h; intro t1 h
    refine r_iconst hX dX7_leastSum_10 kk_i_2 ?_
    refine r_aI hX dX7_leastSum_11 h ?_
    clear h; intro t2 h
    refine r_imul hX dX7_leastSum_12 ?_
    exact r_iret hX dX7_leastSum_13 h
  · clear h; intro h
    refine r_aload_n hX dX7_leastSum_14 rfl 1 rfl ?_
    refine r_iload_n hX dX7_leastSum_15 rfl 2 rfl ?_
    refine r_iload_n hX dX7_leastSum_16 rfl 3 rfl ?_
    refine r_iadd hX dX7_leastSum_17 ?_
    refine r_iconst hX dX7_leastSum_18 kk_i_1 ?_
    refine r_isub hX dX7_leastSum_19 ?_
    refine r_cVi (As := [.int ((l2 + l3) - (1 : Int32))]) (st := []) hX dX7_leastSum_20 kl_X6_at w_ml_X7_38 w_im_X6_at w_se_X6_at ⟨_, _, rfl⟩ (by decide) rfl (Nat.le_of_ble_eq_true rfl) rfl kdz0 h (fun r σ1 h => wX6_at h) ?_
    clear h; intro t3 σ h
    refine r_istore (L2 := [(6, .int t3), (0, kr E l0), (1, kr E l1), (2, .int l2), (3, .int l3), (4, kr E l4), (5, .int l5)]) hX dX7_leastSum_23 (by decide) rfl ?_
    refine r_iload_n hX dX7_leastSum_25 rfl 4 rfl ?_
    refine r_iconst hX dX7_leastSum_26 kk_i_1 ?_
    refine r_icmp_le (tgt := 42) hX dX7_leastSum_27 (by decide) h ?_ ?_
    · clear h; intro h
      refine r_iconst hX dX7_leastSum_42 kk_i_m1 ?_
      refine r_sub [1, 4, 5, 6, 0] rfl ?_
      exact wX7_leastSum_43 hX h
    · clear h; intro h
      refine r_aload_n hX dX7_leastSum_30 rfl 2 rfl ?_
      refine r_iload_n hX dX7_leastSum_31 rfl 3 rfl ?_
      refine r_iload_n hX dX7_leastSum_32 rfl 4 rfl ?_
      refine r_iadd hX dX7_leastSum_33 ?_
      refine r_iconst hX dX7_leastSum_34 kk_i_2 ?_
      refine r_isub hX dX7_leastSum_35 ?_
      refine r_cVi (As := [.int ((l2 + l3) - (2 : Int32))]) (st := []) hX dX7_leastSum_36 kl_X6_at w_ml_X7_38 w_im_X6_at w_se_X6_at ⟨_, _, rfl⟩ (by decide) rfl (Nat.le_of_ble_eq_true rfl) rfl kdz0 h (fun r σ1 h => wX6_at h) ?_
      clear h; intro t4 σ h
      refine r_goto (tgt := 43) hX dX7_leastSum_39 (by decide) ?_
      refine r_sub [1, 4, 5, 6, 0] rfl ?_
      exact wX7_leastSum_43 hX h
def X7_workOut_12B (G : kdS) (k3 : Nat → Nat → Int32 → Int32 → Nat → Int32 → kdM → Option (Unit × kdM)) (k12 : Nat → Nat → Int32 → Int32 → Nat → Int32 → Int32 → kdM → Option (Unit × kdM)) (l0 : Nat) (l1 : Nat) (l2 : Int32) (l3 : Int32) (l4 : Nat) (l5 : Int32) (l6 : Int32) : kdM → Option (Unit × kdM) :=
  kcv G 6 l4 (X6_size G l4) fun t1 =>
  cnd (t1 < l6)
    (ltI (l5 + Int32.ofInt 1) fun t2 =>
    k3 l0 l1 l2 l3 l4 t2)
    (gR G 7 1 l0 fun t3 =>
    aR G 18 t3 (l5) fun t4 =>
    kcv G 7 l0 (X7_leastSum G l0 l1 l2 l5 l4 l6) fun t5 =>
    tI G t4 (l6) (t5) <|
    ltI (l6 + Int32.ofInt 1) fun t6 =>
    k12 l0 l1 l2 l3 l4 l5 t6)
set_option maxRecDepth 100000 in
set_option maxHeartbeats 4000000 in
theorem wX7_workOut_12B {E : kdE} {G : kdS} {A : kdA} {r : Unit} {σ1 : kdM} (hX : kdX E A cX7_workOut 7 RX7 none 3) (k3 : Nat → Nat → Int32 → Int32 → Nat → Int32 → kdM → Option (Unit × kdM)) (k12 : Nat → Nat → Int32 → Int32 → Nat → Int32 → Int32 → kdM → Option (Unit × kdM)) (hk3 : ∀ (l0 : Nat) (l1 : Nat) (l2 : Int32) (l3 : Int32) (l4 : Nat) (l5 : Int32) (σ : kdM), k3 l0 l1 l2 l3 l4 l5 σ = some (r, σ1) → SW E G (.inl (none, σ1)) A 7 σ 3 [(0, kr E l0), (1, kr E l1), (2, .int l2), (3, .int l3), (4, kr E l4), (5, .int l5)] []) (hk12 : ∀ (l0 : Nat) (l1 : Nat) (l2 : Int32) (l3 : Int32) (l4 : Nat) (l5 : Int32) (l6 : Int32) (σ : kdM), k12 l0 l1 l2 l3 l4 l5 l6 σ = some (r, σ1) → SW E G (.inl (none, σ1)) A 7 σ 12 [(0, kr E l0), (1, kr E l1), (2, .int l2), (3, .int l3), (4, kr E l4), (5, .int l5), (6, .int l6)] []) {σ : kdM} {l0 : Nat} {l1 : Nat} {l2 : Int32} {l3 : Int32} {l4 : Nat} {l5 : Int32} {l6 : Int32} (h : X7_workOut_12B G k3 k12 l0 l1 l2 l3 l4 l5 l6 σ = some (r, σ1)) : SW E G (.inl (none, σ1)) A 7 σ 12 [(0, kr E l0), (1, kr E l1), (2, .int l2), (3, .int l3), (4, kr E l4), (5, .int l5), (6, .int l6)] [] := by
  unfold X7_workOut_12B at h
  refine r_iload hX dX7_workOut_12 6 rfl ?_
  refine r_aload hX dX7_workOut_14 4 rfl ?_
  refine r_cVi (As := []) (st := [.int l6]) hX dX7_workOut_16 kl_X6_size w_ml_X7_20 w_im_X6_size w_se_X6_size ⟨_, _, rfl⟩ (by decide) rfl (Nat.le_of_ble_eq_true rfl) rfl kdz0 h (fun r σ1 h => wX6_size h) ?_
  clear h; intro t1 σ h
  refine r_icmp_gt (tgt := 50) hX dX7_workOut_19 (by decide) h ?_ ?_
  · clear h; intro h
    refine r_iincL (L2 := fun t2 => [(5, .int t2), (0, kr E l0), (1, kr E l1), (2, .int l2), (3, .int l3), (4, kr E l4), (6, .int l6)]) hX dX7_workOut_50 h 5 rfl (by decide) (fun _ => rfl) ?_
    clear h; intro t2 h
    refine r_goto (tgt := 3) hX dX7_workOut_53 (by decide) ?_
    refine r_sub [1, 2, 3, 4, 5, 0] rfl ?_
    exact hk3 _ _ _ _ _ _ _ h
  · clear h; intro h
    refine r_aload_n hX dX7_workOut_22 rfl 0 rfl ?_
    refine r_gR hX dX7_workOut_23 kf_X7_17 rfl h ?_
    clear h; intro t3 h
    refine r_iload hX dX7_workOut_26 5 rfl ?_
    refine r_aR18 hX dX7_workOut_28 h ?_
    clear h; intro t4 h
    refine r_iload hX dX7_workOut_29 6 rfl ?_
    refine r_aload_n hX dX7_workOut_31 rfl 0 rfl ?_
    refine r_aload_n hX dX7_workOut_32 rfl 1 rfl ?_
    refine r_iload_n hX dX7_workOut_33 rfl 2 rfl ?_
    refine r_iload hX dX7_workOut_34 5 rfl ?_
    refine r_aload hX dX7_workOut_36 4 rfl ?_
    refine r_iload hX dX7_workOut_38 6 rfl ?_
    refine r_cVi (As := [kr E l1, .int l2, .int l5, kr E l4, .int l6]) (st := [.int l6, kr E t4]) hX dX7_workOut_40 kl_X7_leastSum w_ml_X7_34 w_im_X7_leastSum w_se_X7_leastSum ⟨_, _, rfl⟩ (by decide) rfl (Nat.le_of_ble_eq_true rfl) rfl kdz0 h (fun r σ1 h => wX7_leastSum h) ?_
    clear h; intro t5 σ h
    refine r_tI hX dX7_workOut_43 h ?_
    clear h; intro σ h
    refine r_iincL (L2 := fun t6 => [(6, .int t6), (0, kr E l0), (1, kr E l1), (2, .int l2), (3, .int l3), (4, kr E l4), (5, .int l5)]) hX dX7_workOut_44 h 6 rfl (by decide) (fun _ => rfl) ?_
    clear h; intro t6 h
    refine r_goto (tgt := 12) hX dX7_workOut_47 (by decide) ?_
    refine r_sub [1, 2, 3, 4, 5, 6, 0] rfl ?_
    exact hk12 _ _ _ _ _ _ _ _ h
def X7_workOut_12 (G : kdS) (k3 : Nat → Nat → Int32 → Int32 → Nat → Int32 → kdM → Option (Unit × kdM)) : Nat → Nat → Int32 → Int32 → Nat → Int32 → Int32 → kdM → Option (Unit × kdM) := lp (fun _ _ _ _ _ _ _ _ => none) (X7_workOut_12B G k3) NN
theorem wX7_workOut_12 {E : kdE} {G : kdS} {A : kdA} {r : Unit} {σ1 : kdM} (hX : kdX E A cX7_workOut 7 RX7 none 3) (k3 : Nat → Nat → Int32 → Int32 → Nat → Int32 → kdM → Option (Unit × kdM)) (hk3 : ∀ (l0 : Nat) (l1 : Nat) (l2 : Int32) (l3 : Int32) (l4 : Nat) (l5 : Int32) (σ : kdM), k3 l0 l1 l2 l3 l4 l5 σ = some (r, σ1) → SW E G (.inl (none, σ1)) A 7 σ 3 [(0, kr E l0), (1, kr E l1), (2, .int l2), (3, .int l3), (4, kr E l4), (5, .int l5)] []) : ∀ (l0 : Nat) (l1 : Nat) (l2 : Int32) (l3 : Int32) (l4 : Nat) (l5 : Int32) (l6 : Int32) (σ : kdM), X7_workOut_12 G k3 l0 l1 l2 l3 l4 l5 l6 σ = some (r, σ1) → SW E G (.inl (none, σ1)) A 7 σ 12 [(0, kr E l0), (1, kr E l1), (2, .int l2), (3, .int l3), (4, kr E l4), (5, .int l5), (6, .int l6)] [] :=
  lp_ind (Q := fun f => ∀ (l0 : Nat) (l1 : Nat) (l2 : Int32) (l3 : Int32) (l4 : Nat) (l5 : Int32) (l6 : Int32) (σ : kdM), f l0 l1 l2 l3 l4 l5 l6 σ = some (r, σ1) → SW E G (.inl (none, σ1)) A 7 σ 12 [(0, kr E l0), (1, kr E l1), (2, .int l2), (3, .int l3), (4, kr E l4), (5, .int l5), (6, .int l6)] []) (by intros; contradiction) (fun k hk l0 l1 l2 l3 l4 l5 l6 σ h => wX7_workOut_12B hX k3 k hk3 hk h) NN
def X7_workOut_3B (G : kdS) (k3 : Nat → Nat → Int32 → Int32 → Nat → Int32 → kdM → Option (Unit × kdM)) (l0 : Nat) (l1 : Nat) (l2 : Int32) (l3 : Int32) (l4 : Nat) (l5 : Int32) : kdM → Option (Unit × kdM) :=
  cnd (l3 < l5)
    (rt ())
    (X7_workOut_12 G k3 l0 l1 l2 l3 l4 l5 (0 : Int32))
set_option maxRecDepth 100000 in
set_option maxHeartbeats 4000000 in
theorem wX7_workOut_3B {E : kdE} {G : kdS} {A : kdA} {r : Unit} {σ1 : kdM} (hX : kdX E A cX7_workOut 7 RX7 none 3) (k3 : Nat → Nat → Int32 → Int32 → Nat → Int32 → kdM → Option (Unit × kdM)) (hk3 : ∀ (l0 : Nat) (l1 : Nat) (l2 : Int32) (l3 : Int32) (l4 : Nat) (l5 : Int32) (σ : kdM), k3 l0 l1 l2 l3 l4 l5 σ = some (r, σ1) → SW E G (.inl (none, σ1)) A 7 σ 3 [(0, kr E l0), (1, kr E l1), (2, .int l2), (3, .int l3), (4, kr E l4), (5, .int l5)] []) {σ : kdM} {l0 : Nat} {l1 : Nat} {l2 : Int32} {l3 : Int32} {l4 : Nat} {l5 : Int32} (h : X7_workOut_3B G k3 l0 l1 l2 l3 l4 l5 σ = some (r, σ1)) : SW E G (.inl (none, σ1)) A 7 σ 3 [(0, kr E l0), (1, kr E l1), (2, .int l2), (3, .int l3), (4, kr E l4), (5, .int l5)] [] := by
  unfold X7_workOut_3B at h
  refine r_iload hX dX7_workOut_3 5 rfl ?_
  refine r_iload_n hX dX7_workOut_5 rfl 3 rfl ?_
  refine r_icmp_gt (tgt := 56) hX dX7_workOut_6 (by decide) h ?_ ?_
  · clear h; intro h
    exact r_vret hX dX7_workOut_56 h
  · clear h; intro h
    refine r_iconst hX dX7_workOut_9 kk_i_0 ?_
    refine r_istore (L2 := [(6, .int (0 : Int32)), (0, kr E l0), (1, kr E l1), (2, .int l2), (3, .int l3), (4, kr E l4), (5, .int l5)]) hX dX7_workOut_10 (by decide) rfl ?_
    refine r_sub [1, 2, 3, 4, 5, 6, 0] rfl ?_
    exact wX7_workOut_12 hX k3 hk3 _ _ _ _ _ _ _ _ h
def X7_workOut_3 (G : kdS) : Nat → Nat → Int32 → Int32 → Nat → Int32 → kdM → Option (Unit × kdM) := lp (fun _ _ _ _ _ _ _ => none) (X7_workOut_3B G) NN
theorem wX7_workOut_3 {E : kdE} {G : kdS} {A : kdA} {r : Unit} {σ1 : kdM} (hX : kdX E A cX7_workOut 7 RX7 none 3) : ∀ (l0 : Nat) (l1 : Nat) (l2 : Int32) (l3 : Int32) (l4 : Nat) (l5 : Int32) (σ : kdM), X7_workOut_3 G l0 l1 l2 l3 l4 l5 σ = some (r, σ1) → SW E G (.inl (none, σ1)) A 7 σ 3 [(0, kr E l0), (1, kr E l1), (2, .int l2), (3, .int l3), (4, kr E l4), (5, .int l5)] [] :=
  lp_ind (Q := fun f => ∀ (l0 : Nat) (l1 : Nat) (l2 : Int32) (l3 : Int32) (l4 : Nat) (l5 : Int32) (σ : kdM), f l0 l1 l2 l3 l4 l5 σ = some (r, σ1) → SW E G (.inl (none, σ1)) A 7 σ 3 [(0, kr E l0), (1, kr E l1), (2, .int l2), (3, .int l3), (4, kr E l4), (5, .int l5)] []) (by intros; contradiction) (fun k hk l0 l1 l2 l3 l4 l5 σ h => wX7_workOut_3B hX k hk h) NN
def X7_workOut (G : kdS) (l0 : Nat) (l1 : Nat) (l2 : Int32) (l3 : Int32) (l4 : Nat) : kdM → Option (Unit × kdM) :=
  X7_workOut_3 G l0 l1 l2 l3 l4 (0 : Int32)
set_option maxRecDepth 100000 in
set_option maxHeartbeats 4000000 in
theorem wX7_workOut {E : kdE} {G : kdS} {l0 : Nat} {l1 : Nat} {l2 : Int32} {l3 : Int32} {l4 : Nat} {σ : kdM} {r : Unit} {σ1 : kdM} (h : X7_workOut G l0 l1 l2 l3 l4 σ = some (r, σ1)) : Con E G yX7_workOut cX7_workOut 7 none 3 [kr E l0, kr E l1, .int l2, .int l3, kr E l4] σ (none, σ1) := by
  refine kd_head (own := RX7) rfl (by decide +kernel) (Nat.le_of_ble_eq_true rfl) (fun A hX => ?_)
  show SW E G (.inl (none, σ1)) A 7 σ 0 [(0, kr E l0), (1, kr E l1), (2, .int l2), (3, .int l3), (4, kr E l4)] []
  unfold X7_workOut at h
  refine r_iconst hX dX7_workOut_0 kk_i_0 ?_
  refine r_istore (L2 := [(5, .int (0 : Int32)), (0, kr E l0), (1, kr E l1), (2, .int l2), (3, .int l3), (4, kr E l4)]) hX dX7_workOut_1 (by decide) rfl ?_
  refine r_sub [1, 2, 3, 4, 5, 0] rfl ?_
  exact wX7_workOut_3 hX _ _ _ _ _ _ _ h
def X7_priceOf (G : kdS) (l0 : Nat) (l1 : Nat) (l2 : Nat) : kdM → Option (Int32 × kdM) :=
  kcv G 6 l1 (X6_size G l1) fun t1 =>
  kcv G 7 l0 (X7_workOut G l0 l1 (0 : Int32) t1 l2) fun _ =>
  kcv G 6 l1 (X6_size G l1) fun t2 =>
  kcv G 7 l0 (X7_leastFor G l0 t2 l2) fun t3 =>
  rt t3
set_option maxRecDepth 100000 in
set_option maxHeartbeats 4000000 in
theorem wX7_priceOf {E : kdE} {G : kdS} {l0 : Nat} {l1 : Nat} {l2 : Nat} {σ : kdM} {r : Int32} {σ1 : kdM} (h : X7_priceOf G l0 l1 l2 σ = some (r, σ1)) : Con E G yX7_priceOf cX7_priceOf 3 (some .int) 4 [kr E l0, kr E l1, kr E l2] σ (some (.int r), σ1) := by
  refine kd_head (own := RX7) rfl (by decide +kernel) (Nat.le_of_ble_eq_true rfl) (fun A hX => ?_)
  show SW E G (.inl (some (.int r), σ1)) A 3 σ 0 [(0, kr E l0), (1, kr E l1), (2, kr E l2)] []
  unfold X7_priceOf at h
  refine r_aload_n hX dX7_priceOf_0 rfl 0 rfl ?_
  refine r_aload_n hX dX7_priceOf_1 rfl 1 rfl ?_
  refine r_iconst hX dX7_priceOf_2 kk_i_0 ?_
  refine r_aload_n hX dX7_priceOf_3 rfl 1 rfl ?_
  refine r_cVi (As := []) (st := [.int (0 : Int32), kr E l1, kr E l0]) hX dX7_priceOf_4 kl_X6_size w_ml_X7_20 w_im_X6_size w_se_X6_size ⟨_, _, rfl⟩ (by decide) rfl (Nat.le_of_ble_eq_true rfl) rfl kdz0 h (fun r σ1 h => wX6_size h) ?_
  clear h; intro t1 σ h
  refine r_aload_n hX dX7_priceOf_7 rfl 2 rfl ?_
  refine r_cVv (As := [kr E l1, .int (0 : Int32), .int t1, kr E l2]) (st := []) hX dX7_priceOf_8 kl_X7_workOut w_ml_X7_26 w_im_X7_workOut w_se_X7_workOut ⟨_, _, rfl⟩ (by decide) rfl (Nat.le_of_ble_eq_true rfl) rfl kdz0 h (fun r σ1 h => wX7_workOut h) ?_
  clear h; intro u σ h
  refine r_aload_n hX dX7_priceOf_11 rfl 0 rfl ?_
  refine r_aload_n hX dX7_priceOf_12 rfl 1 rfl ?_
  refine r_cVi (As := []) (st := [kr E l0]) hX dX7_priceOf_13 kl_X6_size w_ml_X7_20 w_im_X6_size w_se_X6_size ⟨_, _, rfl⟩ (by decide) rfl (Nat.le_of_ble_eq_true rfl) rfl kdz0 h (fun r σ1 h => wX6_size h) ?_
  clear h; intro t2 σ h
  refine r_aload_n hX dX7_priceOf_16 rfl 2 rfl ?_
  refine r_cVi (As := [.int t2, kr E l2]) (st := []) hX dX7_priceOf_17 kl_X7_leastFor w_ml_X7_30 w_im_X7_leastFor w_se_X7_leastFor ⟨_, _, rfl⟩ (by decide) rfl (Nat.le_of_ble_eq_true rfl) rfl kdz0 h (fun r σ1 h => wX7_leastFor h) ?_
  clear h; intro t3 σ h
  exact r_iret hX dX7_priceOf_20 h
def X1_clear (G : kdS) (l0 : Nat) : kdM → Option (Unit × kdM) :=
  gR G 1 0 l0 fun t1 =>
  kcv G 6 t1 (X6_clear G t1) fun t2 =>
  gR G 1 1 l0 fun t3 =>
  kcv G 6 t3 (X6_clear G t3) fun t4 =>
  gR G 1 2 l0 fun t5 =>
  kcv G 6 t5 (X6_clear G t5) fun t6 =>
  rt ()
set_option maxRecDepth 100000 in
set_option maxHeartbeats 4000000 in
theorem wX1_clear {E : kdE} {G : kdS} {l0 : Nat} {σ : kdM} {r : Unit} {σ1 : kdM} (h : X1_clear G l0 σ = some (r, σ1)) : Con E G yX1_clear cX1_clear 1 none 1 [kr E l0] σ (none, σ1) := by
  refine kd_head (own := RX1) rfl (by decide +kernel) (Nat.le_of_ble_eq_true rfl) (fun A hX => ?_)
  show SW E G (.inl (none, σ1)) A 1 σ 0 [(0, kr E l0)] []
  unfold X1_clear at h
  refine r_aload_n hX dX1_clear_0 rfl 0 rfl ?_
  refine r_gR hX dX1_clear_1 kf_X1_14 rfl h ?_
  clear h; intro t1 h
  refine r_cVi (As := []) (st := []) hX dX1_clear_4 kl_X6_clear w_ml_X1_26 w_im_X6_clear w_se_X6_clear ⟨_, _, rfl⟩ (by decide) rfl (Nat.le_of_ble_eq_true rfl) rfl kdz0 h (fun r σ1 h => wX6_clear h) ?_
  clear h; intro t2 σ h
  refine r_pop hX dX1_clear_7 rfl ?_
  refine r_aload_n hX dX1_clear_8 rfl 0 rfl ?_
  refine r_gR hX dX1_clear_9 kf_X1_20 rfl h ?_
  clear h; intro t3 h
  refine r_cVi (As := []) (st := []) hX dX1_clear_12 kl_X6_clear w_ml_X1_26 w_im_X6_clear w_se_X6_clear ⟨_, _, rfl⟩ (by decide) rfl (Nat.le_of_ble_eq_true rfl) rfl kdz0 h (fun r σ1 h => wX6_clear h) ?_
  clear h; intro t4 σ h
  refine r_pop hX dX1_clear_15 rfl ?_
  refine r_aload_n hX dX1_clear_16 rfl 0 rfl ?_
  refine r_gR hX dX1_clear_17 kf_X1_23 rfl h ?_
  clear h; intro t5 h
  refine r_cVi (As := []) (st := []) hX dX1_clear_20 kl_X6_clear w_ml_X1_26 w_im_X6_clear w_se_X6_clear ⟨_, _, rfl⟩ (by decide) rfl (Nat.le_of_ble_eq_true rfl) rfl kdz0 h (fun r σ1 h => wX6_clear h) ?_
  clear h; intro t6 σ h
  refine r_pop hX dX1_clear_23 rfl ?_
  exact r_vret hX dX1_clear_24 h
def X1_goesAhead_41 (G : kdS) (s0 : Int32) : kdM → Option (Int32 × kdM) :=
  rt (vp_nar .boolean s0)
set_option maxRecDepth 100000 in
set_option maxHeartbeats 4000000 in
theorem wX1_goesAhead_41 {E : kdE} {G : kdS} {A : kdA} {r : Int32} {σ1 : kdM} (hX : kdX E A cX1_goesAhead 4 RX1 (some .boolean) 1) {σ : kdM} {s0 : Int32} (h : X1_goesAhead_41 G s0 σ = some (r, σ1)) : SW E G (.inl (some (.int r), σ1)) A 4 σ 41 [] [.int s0] := by
  unfold X1_goesAhead_41 at h
  exact r_zret hX dX1_goesAhead_41 h
def X1_goesAhead_36 (G : kdS) : kdM → Option (Int32 × kdM) :=
  X1_goesAhead_41 G (1 : Int32)
set_option maxRecDepth 100000 in
set_option maxHeartbeats 4000000 in
theorem wX1_goesAhead_36 {E : kdE} {G : kdS} {A : kdA} {r : Int32} {σ1 : kdM} (hX : kdX E A cX1_goesAhead 4 RX1 (some .boolean) 1) {σ : kdM} (h : X1_goesAhead_36 G  σ = some (r, σ1)) : SW E G (.inl (some (.int r), σ1)) A 4 σ 36 [] [] := by
  unfold X1_goesAhead_36 at h
  refine r_iconst hX dX1_goesAhead_36 kk_i_1 ?_
  refine r_goto (tgt := 41) hX dX1_goesAhead_37 (by decide) ?_
  refine r_sub [] rfl ?_
  exact wX1_goesAhead_41 hX h
def X1_goesAhead_40 (G : kdS) : kdM → Option (Int32 × kdM) :=
  X1_goesAhead_41 G (0 : Int32)
set_option maxRecDepth 100000 in
set_option maxHeartbeats 4000000 in
theorem wX1_goesAhead_40 {E : kdE} {G : kdS} {A : kdA} {r : Int32} {σ1 : kdM} (hX : kdX E A cX1_goesAhead 4 RX1 (some .boolean) 1) {σ : kdM} (h : X1_goesAhead_40 G  σ = some (r, σ1)) : SW E G (.inl (some (.int r), σ1)) A 4 σ 40 [] [] := by
  unfold X1_goesAhead_40 at h
  refine r_iconst hX dX1_goesAhead_40 kk_i_0 ?_
  refine r_sub [] rfl ?_
  exact wX1_goesAhead_41 hX h
def X1_goesAhead (G : kdS) (l0 : Nat) (l1 : Int32) (l2 : Int32) (l3 : Int32) : kdM → Option (Int32 × kdM) :=
  gR G 1 1 l0 fun t1 =>
  kcv G 6 t1 (X6_at G t1 l3) fun t2 =>
  cnd (l1 < t2)
    (X1_goesAhead_36 G )
    (gR G 1 1 l0 fun t3 =>
    kcv G 6 t3 (X6_at G t3 l3) fun t4 =>
    cnd (l1 = t4)
      (gR G 1 2 l0 fun t5 =>
      kcv G 6 t5 (X6_at G t5 l3) fun t6 =>
      cnd (l2 ≤ t6)
        (X1_goesAhead_40 G )
        (X1_goesAhead_36 G ))
      (X1_goesAhead_40 G ))
set_option maxRecDepth 100000 in
set_option maxHeartbeats 4000000 in
theorem wX1_goesAhead {E : kdE} {G : kdS} {l0 : Nat} {l1 : Int32} {l2 : Int32} {l3 : Int32} {σ : kdM} {r : Int32} {σ1 : kdM} (h : X1_goesAhead G l0 l1 l2 l3 σ = some (r, σ1)) : Con E G yX1_goesAhead cX1_goesAhead 4 (some .boolean) 1 [kr E l0, .int l1, .int l2, .int l3] σ (some (.int r), σ1) := by
  refine kd_head (own := RX1) rfl (by decide +kernel) (Nat.le_of_ble_eq_true rfl) (fun A hX => ?_)
  show SW E G (.inl (some (.int r), σ1)) A 4 σ 0 [(0, kr E l0), (1, .int l1), (2, .int l2), (3, .int l3)] []
  unfold X1_goesAhead at h
  refine r_iload_n hX dX1_goesAhead_0 rfl 1 rfl ?_
  refine r_aload_n hX dX1_goesAhead_1 rfl 0 rfl ?_
  refine r_gR hX dX1_goesAhead_2 kf_X1_20 rfl h ?_
  clear h; intro t1 h
  refine r_iload_n hX dX1_goesAhead_5 rfl 3 rfl ?_
  refine r_cVi (As := [.int l3]) (st := [.int l1]) hX dX1_goesAhead_6 kl_X6_at w_ml_X1_41 w_im_X6_at w_se_X6_at ⟨_, _, rfl⟩ (by decide) rfl (Nat.le_of_ble_eq_true rfl) rfl kdz0 h (fun r σ1 h => wX6_at h) ?_
  clear h; intro t2 σ h
  refine r_icmp_lt (tgt := 36) hX dX1_goesAhead_9 (by decide) h ?_ ?_
  · clear h; intro h
    refine r_sub [] rfl ?_
    exact wX1_goesAhead_36 hX h
  · clear h; intro h
    refine r_iload_n hX dX1_goesAhead_12 rfl 1 rfl ?_
    refine r_aload_n hX dX1_goesAhead_13 rfl 0 rfl ?_
    refine r_gR hX dX1_goesAhead_14 kf_X1_20 rfl h ?_
    clear h; intro t3 h
    refine r_iload_n hX dX1_goesAhead_17 rfl 3 rfl ?_
    refine r_cVi (As := [.int l3]) (st := [.int l1]) hX dX1_goesAhead_18 kl_X6_at w_ml_X1_41 w_im_X6_at w_se_X6_at ⟨_, _, rfl⟩ (by decide) rfl (Nat.le_of_ble_eq_true rfl) rfl kdz0 h (fun r σ1 h => wX6_at h) ?_
    clear h; intro t4 σ h
    refine r_icmp_ne (tgt := 40) hX dX1_goesAhead_21 (by decide) h ?_ ?_
    · clear h; intro h
      refine r_iload_n hX dX1_goesAhead_24 rfl 2 rfl ?_
      refine r_aload_n hX dX1_goesAhead_25 rfl 0 rfl ?_
      refine r_gR hX dX1_goesAhead_26 kf_X1_23 rfl h ?_
      clear h; intro t5 h
      refine r_iload_n hX dX1_goesAhead_29 rfl 3 rfl ?_
      refine r_cVi (As := [.int l3]) (st := [.int l2]) hX dX1_goesAhead_30 kl_X6_at w_ml_X1_41 w_im_X6_at w_se_X6_at ⟨_, _, rfl⟩ (by decide) rfl (Nat.le_of_ble_eq_true rfl) rfl kdz0 h (fun r σ1 h => wX6_at h) ?_
      clear h; intro t6 σ h
      refine r_icmp_le (tgt := 40) hX dX1_goesAhead_33 (by decide) h ?_ ?_
      · clear h; intro h
        refine r_sub [] rfl ?_
        exact wX1_goesAhead_40 hX h
      · clear h; intro h
        refine r_sub [] rfl ?_
        exact wX1_goesAhead_36 hX h
    · clear h; intro h
      refine r_sub [] rfl ?_
      exact wX1_goesAhead_40 hX h
def X1_insert_33 (G : kdS) (l0 : Nat) (l1 : Int32) (l2 : Int32) (l3 : Int32) (l4 : Int32) : kdM → Option (Unit × kdM) :=
  gR G 1 0 l0 fun t1 =>
  kcv G 6 t1 (X6_insert G t1 l4 l1) fun _ =>
  gR G 1 1 l0 fun t2 =>
  kcv G 6 t2 (X6_insert G t2 l4 l2) fun _ =>
  gR G 1 2 l0 fun t3 =>
  kcv G 6 t3 (X6_insert G t3 l4 l3) fun _ =>
  rt ()
set_option maxRecDepth 100000 in
set_option maxHeartbeats 4000000 in
theorem wX1_insert_33 {E : kdE} {G : kdS} {A : kdA} {r : Unit} {σ1 : kdM} (hX : kdX E A cX1_insert 5 RX1 none 2) {σ : kdM} {l0 : Nat} {l1 : Int32} {l2 : Int32} {l3 : Int32} {l4 : Int32} (h : X1_insert_33 G l0 l1 l2 l3 l4 σ = some (r, σ1)) : SW E G (.inl (none, σ1)) A 5 σ 33 [(0, kr E l0), (1, .int l1), (2, .int l2), (3, .int l3), (4, .int l4)] [] := by
  unfold X1_insert_33 at h
  refine r_aload_n hX dX1_insert_33 rfl 0 rfl ?_
  refine r_gR hX dX1_insert_34 kf_X1_14 rfl h ?_
  clear h; intro t1 h
  refine r_iload hX dX1_insert_37 4 rfl ?_
  refine r_iload_n hX dX1_insert_39 rfl 1 rfl ?_
  refine r_cVv (As := [.int l4, .int l1]) (st := []) hX dX1_insert_40 kl_X6_insert w_ml_X1_37 w_im_X6_insert w_se_X6_insert ⟨_, _, rfl⟩ (by decide) rfl (Nat.le_of_ble_eq_true rfl) rfl kdz0 h (fun r σ1 h => wX6_insert h) ?_
  clear h; intro u σ h
  refine r_aload_n hX dX1_insert_43 rfl 0 rfl ?_
  refine r_gR hX dX1_insert_44 kf_X1_20 rfl h ?_
  clear h; intro t2 h
  refine r_iload hX dX1_insert_47 4 rfl ?_
  refine r_iload_n hX dX1_insert_49 rfl 2 rfl ?_
  refine r_cVv (As := [.int l4, .int l2]) (st := []) hX dX1_insert_50 kl_X6_insert w_ml_X1_37 w_im_X6_insert w_se_X6_insert ⟨_, _, rfl⟩ (by decide) rfl (Nat.le_of_ble_eq_true rfl) rfl kdz0 h (fun r σ1 h => wX6_insert h) ?_
  clear h; intro u σ h
  refine r_aload_n hX dX1_insert_53 rfl 0 rfl ?_
  refine r_gR hX dX1_insert_54 kf_X1_23 rfl h ?_
  clear h; intro t3 h
  refine r_iload hX dX1_insert_57 4 rfl ?_
  refine r_iload_n hX dX1_insert_59 rfl 3 rfl ?_
  refine r_cVv (As := [.int l4, .int l3]) (st := []) hX dX1_insert_60 kl_X6_insert w_ml_X1_37 w_im_X6_insert w_se_X6_insert ⟨_, _, rfl⟩ (by decide) rfl (Nat.le_of_ble_eq_true rfl) rfl kdz0 h (fun r σ1 h => wX6_insert h) ?_
  clear h; intro u σ h
  exact r_vret hX dX1_insert_63 h
def X1_insert_9B (G : kdS) (k9 : Nat → Int32 → Int32 → Int32 → Int32 → kdM → Option (Unit × kdM)) (l0 : Nat) (l1 : Int32) (l2 : Int32) (l3 : Int32) (l4 : Int32) : kdM → Option (Unit × kdM) :=
  cnd (l4 ≤ 0)
    (X1_insert_33 G l0 l1 l2 l3 l4)
    (kcv G 1 l0 (X1_goesAhead G l0 l2 l3 (l4 - (1 : Int32))) fun t1 =>
    cnd (t1 = 0)
      (X1_insert_33 G l0 l1 l2 l3 l4)
      (ltI (l4 + Int32.ofInt (-1)) fun t2 =>
      k9 l0 l1 l2 l3 t2))
set_option maxRecDepth 100000 in
set_option maxHeartbeats 4000000 in
theorem wX1_insert_9B {E : kdE} {G : kdS} {A : kdA} {r : Unit} {σ1 : kdM} (hX : kdX E A cX1_insert 5 RX1 none 2) (k9 : Nat → Int32 → Int32 → Int32 → Int32 → kdM → Option (Unit × kdM)) (hk9 : ∀ (l0 : Nat) (l1 : Int32) (l2 : Int32) (l3 : Int32) (l4 : Int32) (σ : kdM), k9 l0 l1 l2 l3 l4 σ = some (r, σ1) → SW E G (.inl (none, σ1)) A 5 σ 9 [(0, kr E l0), (1, .int l1), (2, .int l2), (3, .int l3), (4, .int l4)] []) {σ : kdM} {l0 : Nat} {l1 : Int32} {l2 : Int32} {l3 : Int32} {l4 : Int32} (h : X1_insert_9B G k9 l0 l1 l2 l3 l4 σ = some (r, σ1)) : SW E G (.inl (none, σ1)) A 5 σ 9 [(0, kr E l0), (1, .int l1), (2, .int l2), (3, .int l3), (4, .int l4)] [] := by
  unfold X1_insert_9B at h
  refine r_iload hX dX1_insert_9 4 rfl ?_
  refine r_if_le (tgt := 33) hX dX1_insert_11 (by decide) h ?_ ?_
  · clear h; intro h
    refine r_sub [0, 1, 2, 3, 4] rfl ?_
    exact wX1_insert_33 hX h
  · clear h; intro h
    refine r_aload_n hX dX1_insert_14 rfl 0 rfl ?_
    refine r_iload_n hX dX1_insert_15 rfl 2 rfl ?_
    refine r_iload_n hX dX1_insert_16 rfl 3 rfl ?_
    refine r_iload hX dX1_insert_17 4 rfl ?_
    refine r_iconst hX dX1_insert_19 kk_i_1 ?_
    refine r_isub hX dX1_insert_20 ?_
    refine r_cVi (As := [.int l2, .int l3, .int (l4 - (1 : Int32))]) (st := []) hX dX1_insert_21 kl_X1_goesAhead w_ml_X1_33 w_im_X1_goesAhead w_se_X1_goesAhead ⟨_, _, rfl⟩ (by decide) rfl (Nat.le_of_ble_eq_true rfl) rfl kdz0 h (fun r σ1 h => wX1_goesAhead h) ?_
    clear h; intro t1 σ h
    refine r_if_eq (tgt := 33) hX dX1_insert_24 (by decide) h ?_ ?_
    · clear h; intro h
      refine r_sub [0, 1, 2, 3, 4] rfl ?_
      exact wX1_insert_33 hX h
    · clear h; intro h
      refine r_iincL (L2 := fun t2 => [(4, .int t2), (0, kr E l0), (1, .int l1), (2, .int l2), (3, .int l3)]) hX dX1_insert_27 h 4 rfl (by decide) (fun _ => rfl) ?_
      clear h; intro t2 h
      refine r_goto (tgt := 9) hX dX1_insert_30 (by decide) ?_
      refine r_sub [1, 2, 3, 4, 0] rfl ?_
      exact hk9 _ _ _ _ _ _ h
def X1_insert_9 (G : kdS) : Nat → Int32 → Int32 → Int32 → Int32 → kdM → Option (Unit × kdM) := lp (fun _ _ _ _ _ _ => none) (X1_insert_9B G) NN
theorem wX1_insert_9 {E : kdE} {G : kdS} {A : kdA} {r : Unit} {σ1 : kdM} (hX : kdX E A cX1_insert 5 RX1 none 2) : ∀ (l0 : Nat) (l1 : Int32) (l2 : Int32) (l3 : Int32) (l4 : Int32) (σ : kdM), X1_insert_9 G l0 l1 l2 l3 l4 σ = some (r, σ1) → SW E G (.inl (none, σ1)) A 5 σ 9 [(0, kr E l0), (1, .int l1), (2, .int l2), (3, .int l3), (4, .int l4)] [] :=
  lp_ind (Q := fun f => ∀ (l0 : Nat) (l1 : Int32) (l2 : Int32) (l3 : Int32) (l4 : Int32) (σ : kdM), f l0 l1 l2 l3 l4 σ = some (r, σ1) → SW E G (.inl (none, σ1)) A 5 σ 9 [(0, kr E l0), (1, .int l1), (2, .int l2), (3, .int l3), (4, .int l4)] []) (by intros; contradiction) (fun k hk l0 l1 l2 l3 l4 σ h => wX1_insert_9B hX k hk h) NN
def X1_insert (G : kdS) (l0 : Nat) (l1 : Int32) (l2 : Int32) (l3 : Int32) : kdM → Option (Unit × kdM) :=
  gR G 1 0 l0 fun t1 =>
  kcv G 6 t1 (X6_size G t1) fun t2 =>
  X1_insert_9 G l0 l1 l2 l3 t2
set_option maxRecDepth 100000 in
set_option maxHeartbeats 4000000 in
theorem wX1_insert {E : kdE} {G : kdS} {l0 : Nat} {l1 : Int32} {l2 : Int32} {l3 : Int32} {σ : kdM} {r : Unit} {σ1 : kdM} (h : X1_insert G l0 l1 l2 l3 σ = some (r, σ1)) : Con E G yX1_insert cX1_insert 5 none 2 [kr E l0, .int l1, .int l2, .int l3] σ (none, σ1) := by
  refine kd_head (own := RX1) rfl (by decide +kernel) (Nat.le_of_ble_eq_true rfl) (fun A hX => ?_)
  show SW E G (.inl (none, σ1)) A 5 σ 0 [(0, kr E l0), (1, .int l1), (2, .int l2), (3, .int l3)] []
  unfold X1_insert at h
  refine r_aload_n hX dX1_insert_0 rfl 0 rfl ?_
  refine r_gR hX dX1_insert_1 kf_X1_14 rfl h ?_
  clear h; intro t1 h
  refine r_cVi (As := []) (st := []) hX dX1_insert_4 kl_X6_size w_ml_X1_30 w_im_X6_size w_se_X6_size ⟨_, _, rfl⟩ (by decide) rfl (Nat.le_of_ble_eq_true rfl) rfl kdz0 h (fun r σ1 h => wX6_size h) ?_
  clear h; intro t2 σ h
  refine r_istore (L2 := [(4, .int t2), (0, kr E l0), (1, .int l1), (2, .int l2), (3, .int l3)]) hX dX1_insert_7 (by decide) rfl ?_
  refine r_sub [1, 2, 3, 4, 0] rfl ?_
  exact wX1_insert_9 hX _ _ _ _ _ _ h
