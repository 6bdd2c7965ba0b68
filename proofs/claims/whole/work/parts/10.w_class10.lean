def X6_size (G : kdS) (l0 : Nat) : kdM → Option (Int32 × kdM) :=
  gI G 6 1 l0 fun t1 =>
  rt t1
set_option maxRecDepth 100000 in
set_option maxHeartbeats 4000000 in
theorem wX6_size {E : kdE} {G : kdS} {l0 : Nat} {σ : kdM} {r : Int32} {σ1 : kdM} (h : X6_size G l0 σ = some (r, σ1)) : Con E G yX6_size cX6_size 1 (some .int) 0 [kr E l0] σ (some (.int r), σ1) := by
  refine kd_head (own := RX6) rfl (by decide +kernel) (Nat.le_of_ble_eq_true rfl) (fun A hX => ?_)
  show SW E G (.inl (some (.int r), σ1)) A 1 σ 0 [(0, kr E l0)] []
  unfold X6_size at h
  refine r_aload_n hX dX6_size_0 rfl 0 rfl ?_
  refine r_gI hX dX6_size_1 kf_X6_21 rfl h ?_
  clear h; intro t1 h
  exact r_iret hX dX6_size_4 h
def X6_isEmpty_12 (G : kdS) (s0 : Int32) : kdM → Option (Int32 × kdM) :=
  rt (vp_nar .boolean s0)
set_option maxRecDepth 100000 in
set_option maxHeartbeats 4000000 in
theorem wX6_isEmpty_12 {E : kdE} {G : kdS} {A : kdA} {r : Int32} {σ1 : kdM} (hX : kdX E A cX6_isEmpty 1 RX6 (some .boolean) 0) {σ : kdM} {s0 : Int32} (h : X6_isEmpty_12 G s0 σ = some (r, σ1)) : SW E G (.inl (some (.int r), σ1)) A 1 σ 12 [] [.int s0] := by
  unfold X6_isEmpty_12 at h
  exact r_zret hX dX6_isEmpty_12 h
def X6_isEmpty (G : kdS) (l0 : Nat) : kdM → Option (Int32 × kdM) :=
  gI G 6 1 l0 fun t1 =>
  cnd (t1 = 0)
    (X6_isEmpty_12 G (1 : Int32))
    (X6_isEmpty_12 G (0 : Int32))
set_option maxRecDepth 100000 in
set_option maxHeartbeats 4000000 in
theorem wX6_isEmpty {E : kdE} {G : kdS} {l0 : Nat} {σ : kdM} {r : Int32} {σ1 : kdM} (h : X6_isEmpty G l0 σ = some (r, σ1)) : Con E G yX6_isEmpty cX6_isEmpty 1 (some .boolean) 0 [kr E l0] σ (some (.int r), σ1) := by
  refine kd_head (own := RX6) rfl (by decide +kernel) (Nat.le_of_ble_eq_true rfl) (fun A hX => ?_)
  show SW E G (.inl (some (.int r), σ1)) A 1 σ 0 [(0, kr E l0)] []
  unfold X6_isEmpty at h
  refine r_aload_n hX dX6_isEmpty_0 rfl 0 rfl ?_
  refine r_gI hX dX6_isEmpty_1 kf_X6_21 rfl h ?_
  clear h; intro t1 h
  refine r_if_ne (tgt := 11) hX dX6_isEmpty_4 (by decide) h ?_ ?_
  · clear h; intro h
    refine r_iconst hX dX6_isEmpty_7 kk_i_1 ?_
    refine r_goto (tgt := 12) hX dX6_isEmpty_8 (by decide) ?_
    refine r_sub [] rfl ?_
    exact wX6_isEmpty_12 hX h
  · clear h; intro h
    refine r_iconst hX dX6_isEmpty_11 kk_i_0 ?_
    refine r_sub [] rfl ?_
    exact wX6_isEmpty_12 hX h
def X6_isFull_17 (G : kdS) (s0 : Int32) : kdM → Option (Int32 × kdM) :=
  rt (vp_nar .boolean s0)
set_option maxRecDepth 100000 in
set_option maxHeartbeats 4000000 in
theorem wX6_isFull_17 {E : kdE} {G : kdS} {A : kdA} {r : Int32} {σ1 : kdM} (hX : kdX E A cX6_isFull 1 RX6 (some .boolean) 0) {σ : kdM} {s0 : Int32} (h : X6_isFull_17 G s0 σ = some (r, σ1)) : SW E G (.inl (some (.int r), σ1)) A 1 σ 17 [] [.int s0] := by
  unfold X6_isFull_17 at h
  exact r_zret hX dX6_isFull_17 h
def X6_isFull (G : kdS) (l0 : Nat) : kdM → Option (Int32 × kdM) :=
  gI G 6 1 l0 fun t1 =>
  gR G 6 0 l0 fun t2 =>
  aN G t2 fun t3 =>
  cnd (t1 < t3)
    (X6_isFull_17 G (0 : Int32))
    (X6_isFull_17 G (1 : Int32))
set_option maxRecDepth 100000 in
set_option maxHeartbeats 4000000 in
theorem wX6_isFull {E : kdE} {G : kdS} {l0 : Nat} {σ : kdM} {r : Int32} {σ1 : kdM} (h : X6_isFull G l0 σ = some (r, σ1)) : Con E G yX6_isFull cX6_isFull 1 (some .boolean) 0 [kr E l0] σ (some (.int r), σ1) := by
  refine kd_head (own := RX6) rfl (by decide +kernel) (Nat.le_of_ble_eq_true rfl) (fun A hX => ?_)
  show SW E G (.inl (some (.int r), σ1)) A 1 σ 0 [(0, kr E l0)] []
  unfold X6_isFull at h
  refine r_aload_n hX dX6_isFull_0 rfl 0 rfl ?_
  refine r_gI hX dX6_isFull_1 kf_X6_21 rfl h ?_
  clear h; intro t1 h
  refine r_aload_n hX dX6_isFull_4 rfl 0 rfl ?_
  refine r_gR hX dX6_isFull_5 kf_X6_15 rfl h ?_
  clear h; intro t2 h
  refine r_aN hX dX6_isFull_8 h ?_
  clear h; intro t3 h
  refine r_icmp_lt (tgt := 16) hX dX6_isFull_9 (by decide) h ?_ ?_
  · clear h; intro h
    refine r_iconst hX dX6_isFull_16 kk_i_0 ?_
    refine r_sub [] rfl ?_
    exact wX6_isFull_17 hX h
  · clear h; intro h
    refine r_iconst hX dX6_isFull_12 kk_i_1 ?_
    refine r_goto (tgt := 17) hX dX6_isFull_13 (by decide) ?_
    refine r_sub [] rfl ?_
    exact wX6_isFull_17 hX h
def X6_has_17 (G : kdS) (s0 : Int32) : kdM → Option (Int32 × kdM) :=
  rt (vp_nar .boolean s0)
set_option maxRecDepth 100000 in
set_option maxHeartbeats 4000000 in
theorem wX6_has_17 {E : kdE} {G : kdS} {A : kdA} {r : Int32} {σ1 : kdM} (hX : kdX E A cX6_has 2 RX6 (some .boolean) 0) {σ : kdM} {s0 : Int32} (h : X6_has_17 G s0 σ = some (r, σ1)) : SW E G (.inl (some (.int r), σ1)) A 2 σ 17 [] [.int s0] := by
  unfold X6_has_17 at h
  exact r_zret hX dX6_has_17 h
def X6_has_16 (G : kdS) : kdM → Option (Int32 × kdM) :=
  X6_has_17 G (0 : Int32)
set_option maxRecDepth 100000 in
set_option maxHeartbeats 4000000 in
theorem wX6_has_16 {E : kdE} {G : kdS} {A : kdA} {r : Int32} {σ1 : kdM} (hX : kdX E A cX6_has 2 RX6 (some .boolean) 0) {σ : kdM} (h : X6_has_16 G  σ = some (r, σ1)) : SW E G (.inl (some (.int r), σ1)) A 2 σ 16 [] [] := by
  unfold X6_has_16 at h
  refine r_iconst hX dX6_has_16 kk_i_0 ?_
  refine r_sub [] rfl ?_
  exact wX6_has_17 hX h
def X6_has (G : kdS) (l0 : Nat) (l1 : Int32) : kdM → Option (Int32 × kdM) :=
  cnd (l1 < 0)
    (X6_has_16 G )
    (gI G 6 1 l0 fun t1 =>
    cnd (t1 ≤ l1)
      (X6_has_16 G )
      (X6_has_17 G (1 : Int32)))
set_option maxRecDepth 100000 in
set_option maxHeartbeats 4000000 in
theorem wX6_has {E : kdE} {G : kdS} {l0 : Nat} {l1 : Int32} {σ : kdM} {r : Int32} {σ1 : kdM} (h : X6_has G l0 l1 σ = some (r, σ1)) : Con E G yX6_has cX6_has 2 (some .boolean) 0 [kr E l0, .int l1] σ (some (.int r), σ1) := by
  refine kd_head (own := RX6) rfl (by decide +kernel) (Nat.le_of_ble_eq_true rfl) (fun A hX => ?_)
  show SW E G (.inl (some (.int r), σ1)) A 2 σ 0 [(0, kr E l0), (1, .int l1)] []
  unfold X6_has at h
  refine r_iload_n hX dX6_has_0 rfl 1 rfl ?_
  refine r_if_lt (tgt := 16) hX dX6_has_1 (by decide) h ?_ ?_
  · clear h; intro h
    refine r_sub [] rfl ?_
    exact wX6_has_16 hX h
  · clear h; intro h
    refine r_iload_n hX dX6_has_4 rfl 1 rfl ?_
    refine r_aload_n hX dX6_has_5 rfl 0 rfl ?_
    refine r_gI hX dX6_has_6 kf_X6_21 rfl h ?_
    clear h; intro t1 h
    refine r_icmp_ge (tgt := 16) hX dX6_has_9 (by decide) h ?_ ?_
    · clear h; intro h
      refine r_sub [] rfl ?_
      exact wX6_has_16 hX h
    · clear h; intro h
      refine r_iconst hX dX6_has_12 kk_i_1 ?_
      refine r_goto (tgt := 17) hX dX6_has_13 (by decide) ?_
      refine r_sub [] rfl ?_
      exact wX6_has_17 hX h
def X6_at_22 (G : kdS) (s0 : Int32) : kdM → Option (Int32 × kdM) :=
  rt s0
set_option maxRecDepth 100000 in
set_option maxHeartbeats 4000000 in
theorem wX6_at_22 {E : kdE} {G : kdS} {A : kdA} {r : Int32} {σ1 : kdM} (hX : kdX E A cX6_at 2 RX6 (some .int) 0) {σ : kdM} {s0 : Int32} (h : X6_at_22 G s0 σ = some (r, σ1)) : SW E G (.inl (some (.int r), σ1)) A 2 σ 22 [] [.int s0] := by
  unfold X6_at_22 at h
  exact r_iret hX dX6_at_22 h
def X6_at_21 (G : kdS) : kdM → Option (Int32 × kdM) :=
  X6_at_22 G (-1 : Int32)
set_option maxRecDepth 100000 in
set_option maxHeartbeats 4000000 in
theorem wX6_at_21 {E : kdE} {G : kdS} {A : kdA} {r : Int32} {σ1 : kdM} (hX : kdX E A cX6_at 2 RX6 (some .int) 0) {σ : kdM} (h : X6_at_21 G  σ = some (r, σ1)) : SW E G (.inl (some (.int r), σ1)) A 2 σ 21 [] [] := by
  unfold X6_at_21 at h
  refine r_iconst hX dX6_at_21 kk_i_m1 ?_
  refine r_sub [] rfl ?_
  exact wX6_at_22 hX h
def X6_at (G : kdS) (l0 : Nat) (l1 : Int32) : kdM → Option (Int32 × kdM) :=
  cnd (l1 < 0)
    (X6_at_21 G )
    (gI G 6 1 l0 fun t1 =>
    cnd (t1 ≤ l1)
      (X6_at_21 G )
      (gR G 6 0 l0 fun t2 =>
      aI G t2 (l1) fun t3 =>
      X6_at_22 G t3))
set_option maxRecDepth 100000 in
set_option maxHeartbeats 4000000 in
theorem wX6_at {E : kdE} {G : kdS} {l0 : Nat} {l1 : Int32} {σ : kdM} {r : Int32} {σ1 : kdM} (h : X6_at G l0 l1 σ = some (r, σ1)) : Con E G yX6_at cX6_at 2 (some .int) 0 [kr E l0, .int l1] σ (some (.int r), σ1) := by
  refine kd_head (own := RX6) rfl (by decide +kernel) (Nat.le_of_ble_eq_true rfl) (fun A hX => ?_)
  show SW E G (.inl (some (.int r), σ1)) A 2 σ 0 [(0, kr E l0), (1, .int l1)] []
  unfold X6_at at h
  refine r_iload_n hX dX6_at_0 rfl 1 rfl ?_
  refine r_if_lt (tgt := 21) hX dX6_at_1 (by decide) h ?_ ?_
  · clear h; intro h
    refine r_sub [] rfl ?_
    exact wX6_at_21 hX h
  · clear h; intro h
    refine r_iload_n hX dX6_at_4 rfl 1 rfl ?_
    refine r_aload_n hX dX6_at_5 rfl 0 rfl ?_
    refine r_gI hX dX6_at_6 kf_X6_21 rfl h ?_
    clear h; intro t1 h
    refine r_icmp_ge (tgt := 21) hX dX6_at_9 (by decide) h ?_ ?_
    · clear h; intro h
      refine r_sub [] rfl ?_
      exact wX6_at_21 hX h
    · clear h; intro h
      refine r_aload_n hX dX6_at_12 rfl 0 rfl ?_
      refine r_gR hX dX6_at_13 kf_X6_15 rfl h ?_
      clear h; intro t2 h
      refine r_iload_n hX dX6_at_16 rfl 1 rfl ?_
      refine r_aI hX dX6_at_17 h ?_
      clear h; intro t3 h
      refine r_goto (tgt := 22) hX dX6_at_18 (by decide) ?_
      refine r_sub [] rfl ?_
      exact wX6_at_22 hX h
def X6_insert_19 (G : kdS) : kdM → Option (Unit × kdM) :=
  rt ()
set_option maxRecDepth 100000 in
set_option maxHeartbeats 4000000 in
theorem wX6_insert_19 {E : kdE} {G : kdS} {A : kdA} {r : Unit} {σ1 : kdM} (hX : kdX E A cX6_insert 4 RX6 none 1) {σ : kdM} (h : X6_insert_19 G  σ = some (r, σ1)) : SW E G (.inl (none, σ1)) A 4 σ 19 [] [] := by
  unfold X6_insert_19 at h
  exact r_vret hX dX6_insert_19 h
def X6_insert_25B (G : kdS) (k25 : Nat → Int32 → Int32 → Int32 → kdM → Option (Unit × kdM)) (l0 : Nat) (l1 : Int32) (l2 : Int32) (l3 : Int32) : kdM → Option (Unit × kdM) :=
  cnd (l3 ≤ l1)
    (gR G 6 0 l0 fun t1 =>
    tI G t1 (l1) (l2) <|
    gI G 6 1 l0 fun t2 =>
    sI G 6 1 l0 ((t2 + (1 : Int32))) <|
    rt ())
    (gR G 6 0 l0 fun t3 =>
    gR G 6 0 l0 fun t4 =>
    aI G t4 ((l3 - (1 : Int32))) fun t5 =>
    tI G t3 (l3) (t5) <|
    ltI (l3 + Int32.ofInt (-1)) fun t6 =>
    k25 l0 l1 l2 t6)
set_option maxRecDepth 100000 in
set_option maxHeartbeats 4000000 in
theorem wX6_insert_25B {E : kdE} {G : kdS} {A : kdA} {r : Unit} {σ1 : kdM} (hX : kdX E A cX6_insert 4 RX6 none 1) (k25 : Nat → Int32 → Int32 → Int32 → kdM → Option (Unit × kdM)) (hk25 : ∀ (l0 : Nat) (l1 : Int32) (l2 : Int32) (l3 : Int32) (σ : kdM), k25 l0 l1 l2 l3 σ = some (r, σ1) → SW E G (.inl (none, σ1)) A 4 σ 25 [(0, kr E l0), (1, .int l1), (2, .int l2), (3, .int l3)] []) {σ : kdM} {l0 : Nat} {l1 : Int32} {l2 : Int32} {l3 : Int32} (h : X6_insert_25B G k25 l0 l1 l2 l3 σ = some (r, σ1)) : SW E G (.inl (none, σ1)) A 4 σ 25 [(0, kr E l0), (1, .int l1), (2, .int l2), (3, .int l3)] [] := by
  unfold X6_insert_25B at h
  refine r_iload_n hX dX6_insert_25 rfl 3 rfl ?_
  refine r_iload_n hX dX6_insert_26 rfl 1 rfl ?_
  refine r_icmp_le (tgt := 50) hX dX6_insert_27 (by decide) h ?_ ?_
  · clear h; intro h
    refine r_aload_n hX dX6_insert_50 rfl 0 rfl ?_
    refine r_gR hX dX6_insert_51 kf_X6_15 rfl h ?_
    clear h; intro t1 h
    refine r_iload_n hX dX6_insert_54 rfl 1 rfl ?_
    refine r_iload_n hX dX6_insert_55 rfl 2 rfl ?_
    refine r_tI hX dX6_insert_56 h ?_
    clear h; intro σ h
    refine r_aload_n hX dX6_insert_57 rfl 0 rfl ?_
    refine r_dup hX dX6_insert_58 rfl ?_
    refine r_gI hX dX6_insert_59 kf_X6_21 rfl h ?_
    clear h; intro t2 h
    refine r_iconst hX dX6_insert_62 kk_i_1 ?_
    refine r_iadd hX dX6_insert_63 ?_
    refine r_sI hX dX6_insert_64 kf_X6_21 rfl (by intro q hq; cases hq; rfl) h ?_
    clear h; intro σ h
    exact r_vret hX dX6_insert_67 h
  · clear h; intro h
    refine r_aload_n hX dX6_insert_30 rfl 0 rfl ?_
    refine r_gR hX dX6_insert_31 kf_X6_15 rfl h ?_
    clear h; intro t3 h
    refine r_iload_n hX dX6_insert_34 rfl 3 rfl ?_
    refine r_aload_n hX dX6_insert_35 rfl 0 rfl ?_
    refine r_gR hX dX6_insert_36 kf_X6_15 rfl h ?_
    clear h; intro t4 h
    refine r_iload_n hX dX6_insert_39 rfl 3 rfl ?_
    refine r_iconst hX dX6_insert_40 kk_i_1 ?_
    refine r_isub hX dX6_insert_41 ?_
    refine r_aI hX dX6_insert_42 h ?_
    clear h; intro t5 h
    refine r_tI hX dX6_insert_43 h ?_
    clear h; intro σ h
    refine r_iincL (L2 := fun t6 => [(3, .int t6), (0, kr E l0), (1, .int l1), (2, .int l2)]) hX dX6_insert_44 h 3 rfl (by decide) (fun _ => rfl) ?_
    clear h; intro t6 h
    refine r_goto (tgt := 25) hX dX6_insert_47 (by decide) ?_
    refine r_sub [1, 2, 3, 0] rfl ?_
    exact hk25 _ _ _ _ _ h
def X6_insert_25 (G : kdS) : Nat → Int32 → Int32 → Int32 → kdM → Option (Unit × kdM) := lp (fun _ _ _ _ _ => none) (X6_insert_25B G) NN
theorem wX6_insert_25 {E : kdE} {G : kdS} {A : kdA} {r : Unit} {σ1 : kdM} (hX : kdX E A cX6_insert 4 RX6 none 1) : ∀ (l0 : Nat) (l1 : Int32) (l2 : Int32) (l3 : Int32) (σ : kdM), X6_insert_25 G l0 l1 l2 l3 σ = some (r, σ1) → SW E G (.inl (none, σ1)) A 4 σ 25 [(0, kr E l0), (1, .int l1), (2, .int l2), (3, .int l3)] [] :=
  lp_ind (Q := fun f => ∀ (l0 : Nat) (l1 : Int32) (l2 : Int32) (l3 : Int32) (σ : kdM), f l0 l1 l2 l3 σ = some (r, σ1) → SW E G (.inl (none, σ1)) A 4 σ 25 [(0, kr E l0), (1, .int l1), (2, .int l2), (3, .int l3)] []) (by intros; contradiction) (fun k hk l0 l1 l2 l3 σ h => wX6_insert_25B hX k hk h) NN
def X6_insert (G : kdS) (l0 : Nat) (l1 : Int32) (l2 : Int32) : kdM → Option (Unit × kdM) :=
  kcv G 6 l0 (X6_isFull G l0) fun t1 =>
  cnd (t1 = 0)
    (cnd (l1 < 0)
      (X6_insert_19 G )
      (gI G 6 1 l0 fun t2 =>
      cnd (l1 ≤ t2)
        (gI G 6 1 l0 fun t3 =>
        X6_insert_25 G l0 l1 l2 t3)
        (X6_insert_19 G )))
    (X6_insert_19 G )
set_option maxRecDepth 100000 in
set_option maxHeartbeats 4000000 in
theorem wX6_insert {E : kdE} {G : kdS} {l0 : Nat} {l1 : Int32} {l2 : Int32} {σ : kdM} {r : Unit} {σ1 : kdM} (h : X6_insert G l0 l1 l2 σ = some (r, σ1)) : Con E G yX6_insert cX6_insert 4 none 1 [kr E l0, .int l1, .int l2] σ (none, σ1) := by
  refine kd_head (own := RX6) rfl (by decide +kernel) (Nat.le_of_ble_eq_true rfl) (fun A hX => ?_)
  show SW E G (.inl (none, σ1)) A 4 σ 0 [(0, kr E l0), (1, .int l1), (2, .int l2)] []
  unfold X6_insert at h
  refine r_aload_n hX dX6_insert_0 rfl 0 rfl ?_
  refine r_cVi (As := []) (st := []) hX dX6_insert_1 kl_X6_isFull w_ml_X6_29 w_im_X6_isFull w_se_X6_isFull ⟨_, _, rfl⟩ (by decide) rfl (Nat.le_of_ble_eq_true rfl) rfl kdz0 h (fun r σ1 h => wX6_isFull h) ?_
  clear h; intro t1 σ h
  refine r_if_ne (tgt := 19) hX dX6_insert_4 (by decide) h ?_ ?_
  · clear h; intro h
    refine r_iload_n hX dX6_insert_7 rfl 1 rfl ?_
    refine r_if_lt (tgt := 19) hX dX6_insert_8 (by decide) h ?_ ?_
    · clear h; intro h
      refine r_sub [] rfl ?_
      exact wX6_insert_19 hX h
    · clear h; intro h
      refine r_iload_n hX dX6_insert_11 rfl 1 rfl ?_
      refine r_aload_n hX dX6_insert_12 rfl 0 rfl ?_
      refine r_gI hX dX6_insert_13 kf_X6_21 rfl h ?_
      clear h; intro t2 h
      refine r_icmp_le (tgt := 20) hX dX6_insert_16 (by decide) h ?_ ?_
      · clear h; intro h
        refine r_aload_n hX dX6_insert_20 rfl 0 rfl ?_
        refine r_gI hX dX6_insert_21 kf_X6_21 rfl h ?_
        clear h; intro t3 h
        refine r_istore_n (L2 := [(3, .int t3), (0, kr E l0), (1, .int l1), (2, .int l2)]) hX dX6_insert_24 rfl (by decide) rfl ?_
        refine r_sub [1, 2, 3, 0] rfl ?_
        exact wX6_insert_25 hX _ _ _ _ _ h
      · clear h; intro h
        refine r_sub [] rfl ?_
        exact wX6_insert_19 hX h
  · clear h; intro h
    refine r_sub [] rfl ?_
    exact wX6_insert_19 hX h
def X6_add (G : kdS) (l0 : Nat) (l1 : Int32) : kdM → Option (Unit × kdM) :=
  gI G 6 1 l0 fun t1 =>
  kcv G 6 l0 (X6_insert G l0 t1 l1) fun _ =>
  rt ()
set_option maxRecDepth 100000 in
set_option maxHeartbeats 4000000 in
theorem wX6_add {E : kdE} {G : kdS} {l0 : Nat} {l1 : Int32} {σ : kdM} {r : Unit} {σ1 : kdM} (h : X6_add G l0 l1 σ = some (r, σ1)) : Con E G yX6_add cX6_add 2 none 2 [kr E l0, .int l1] σ (none, σ1) := by
  refine kd_head (own := RX6) rfl (by decide +kernel) (Nat.le_of_ble_eq_true rfl) (fun A hX => ?_)
  show SW E G (.inl (none, σ1)) A 2 σ 0 [(0, kr E l0), (1, .int l1)] []
  unfold X6_add at h
  refine r_aload_n hX dX6_add_0 rfl 0 rfl ?_
  refine r_aload_n hX dX6_add_1 rfl 0 rfl ?_
  refine r_gI hX dX6_add_2 kf_X6_21 rfl h ?_
  clear h; intro t1 h
  refine r_iload_n hX dX6_add_5 rfl 1 rfl ?_
  refine r_cVv (As := [.int t1, .int l1]) (st := []) hX dX6_add_6 kl_X6_insert w_ml_X6_25 w_im_X6_insert w_se_X6_insert ⟨_, _, rfl⟩ (by decide) rfl (Nat.le_of_ble_eq_true rfl) rfl kdz0 h (fun r σ1 h => wX6_insert h) ?_
  clear h; intro u σ h
  exact r_vret hX dX6_add_9 h
def X6_replace_21 (G : kdS) (l3 : Int32) : kdM → Option (Int32 × kdM) :=
  rt l3
set_option maxRecDepth 100000 in
set_option maxHeartbeats 4000000 in
theorem wX6_replace_21 {E : kdE} {G : kdS} {A : kdA} {r : Int32} {σ1 : kdM} (hX : kdX E A cX6_replace 4 RX6 (some .int) 1) {σ : kdM} {l3 : Int32} (h : X6_replace_21 G l3 σ = some (r, σ1)) : SW E G (.inl (some (.int r), σ1)) A 4 σ 21 [(3, .int l3)] [] := by
  unfold X6_replace_21 at h
  refine r_iload_n hX dX6_replace_21 rfl 0 rfl ?_
  exact r_iret hX dX6_replace_22 h
def X6_replace (G : kdS) (l0 : Nat) (l1 : Int32) (l2 : Int32) : kdM → Option (Int32 × kdM) :=
  kcv G 6 l0 (X6_at G l0 l1) fun t1 =>
  kcv G 6 l0 (X6_has G l0 l1) fun t2 =>
  cnd (t2 = 0)
    (X6_replace_21 G t1)
    (gR G 6 0 l0 fun t3 =>
    tI G t3 (l1) (l2) <|
    X6_replace_21 G t1)
set_option maxRecDepth 100000 in
set_option maxHeartbeats 4000000 in
theorem wX6_replace {E : kdE} {G : kdS} {l0 : Nat} {l1 : Int32} {l2 : Int32} {σ : kdM} {r : Int32} {σ1 : kdM} (h : X6_replace G l0 l1 l2 σ = some (r, σ1)) : Con E G yX6_replace cX6_replace 4 (some .int) 1 [kr E l0, .int l1, .int l2] σ (some (.int r), σ1) := by
  refine kd_head (own := RX6) rfl (by decide +kernel) (Nat.le_of_ble_eq_true rfl) (fun A hX => ?_)
  show SW E G (.inl (some (.int r), σ1)) A 4 σ 0 [(0, kr E l0), (1, .int l1), (2, .int l2)] []
  unfold X6_replace at h
  refine r_aload_n hX dX6_replace_0 rfl 0 rfl ?_
  refine r_iload_n hX dX6_replace_1 rfl 1 rfl ?_
  refine r_cVi (As := [.int l1]) (st := []) hX dX6_replace_2 kl_X6_at w_ml_X6_33 w_im_X6_at w_se_X6_at ⟨_, _, rfl⟩ (by decide) rfl (Nat.le_of_ble_eq_true rfl) rfl kdz0 h (fun r σ1 h => wX6_at h) ?_
  clear h; intro t1 σ h
  refine r_istore_n (L2 := [(3, .int t1), (0, kr E l0), (1, .int l1), (2, .int l2)]) hX dX6_replace_5 rfl (by decide) rfl ?_
  refine r_aload_n hX dX6_replace_6 rfl 1 rfl ?_
  refine r_iload_n hX dX6_replace_7 rfl 2 rfl ?_
  refine r_cVi (As := [.int l1]) (st := []) hX dX6_replace_8 kl_X6_has w_ml_X6_37 w_im_X6_has w_se_X6_has ⟨_, _, rfl⟩ (by decide) rfl (Nat.le_of_ble_eq_true rfl) rfl kdz0 h (fun r σ1 h => wX6_has h) ?_
  clear h; intro t2 σ h
  refine r_if_eq (tgt := 21) hX dX6_replace_11 (by decide) h ?_ ?_
  · clear h; intro h
    refine r_sub [0] rfl ?_
    exact wX6_replace_21 hX h
  · clear h; intro h
    refine r_aload_n hX dX6_replace_14 rfl 1 rfl ?_
    refine r_gR hX dX6_replace_15 kf_X6_15 rfl h ?_
    clear h; intro t3 h
    refine r_iload_n hX dX6_replace_18 rfl 2 rfl ?_
    refine r_iload_n hX dX6_replace_19 rfl 3 rfl ?_
    refine r_tI hX dX6_replace_20 h ?_
    clear h; intro σ h
    refine r_sub [0] rfl ?_
    exact wX6_replace_21 hX h
def X6_remove_54 (G : kdS) (l2 : Int32) : kdM → Option (Int32 × kdM) :=
  rt l2
set_option maxRecDepth 100000 in
set_option maxHeartbeats 4000000 in
theorem wX6_remove_54 {E : kdE} {G : kdS} {A : kdA} {r : Int32} {σ1 : kdM} (hX : kdX E A cX6_remove 4 RX6 (some .int) 1) {σ : kdM} {l2 : Int32} (h : X6_remove_54 G l2 σ = some (r, σ1)) : SW E G (.inl (some (.int r), σ1)) A 4 σ 54 [(2, .int l2)] [] := by
  unfold X6_remove_54 at h
  refine r_iload_n hX dX6_remove_54 rfl 0 rfl ?_
  exact r_iret hX dX6_remove_55 h
def X6_remove_26B (G : kdS) (k26 : Nat → Int32 → Int32 → kdM → Option (Int32 × kdM)) (l0 : Nat) (l2 : Int32) (l3 : Int32) : kdM → Option (Int32 × kdM) :=
  gI G 6 1 l0 fun t1 =>
  cnd (t1 ≤ l3)
    (X6_remove_54 G l2)
    (gR G 6 0 l0 fun t2 =>
    gR G 6 0 l0 fun t3 =>
    aI G t3 ((l3 + (1 : Int32))) fun t4 =>
    tI G t2 (l3) (t4) <|
    ltI (l3 + Int32.ofInt 1) fun t5 =>
    k26 l0 l2 t5)
set_option maxRecDepth 100000 in
set_option maxHeartbeats 4000000 in
theorem wX6_remove_26B {E : kdE} {G : kdS} {A : kdA} {r : Int32} {σ1 : kdM} (hX : kdX E A cX6_remove 4 RX6 (some .int) 1) (k26 : Nat → Int32 → Int32 → kdM → Option (Int32 × kdM)) (hk26 : ∀ (l0 : Nat) (l2 : Int32) (l3 : Int32) (σ : kdM), k26 l0 l2 l3 σ = some (r, σ1) → SW E G (.inl (some (.int r), σ1)) A 4 σ 26 [(0, kr E l0), (2, .int l2), (3, .int l3)] []) {σ : kdM} {l0 : Nat} {l2 : Int32} {l3 : Int32} (h : X6_remove_26B G k26 l0 l2 l3 σ = some (r, σ1)) : SW E G (.inl (some (.int r), σ1)) A 4 σ 26 [(0, kr E l0), (2, .int l2), (3, .int l3)] [] := by
  unfold X6_remove_26B at h
  refine r_iload_n hX dX6_remove_26 rfl 2 rfl ?_
  refine r_aload_n hX dX6_remove_27 rfl 0 rfl ?_
  refine r_gI hX dX6_remove_28 kf_X6_21 rfl h ?_
  clear h; intro t1 h
  refine r_icmp_ge (tgt := 54) hX dX6_remove_31 (by decide) h ?_ ?_
  · clear h; intro h
    refine r_sub [1] rfl ?_
    exact wX6_remove_54 hX h
  · clear h; intro h
    refine r_aload_n hX dX6_remove_34 rfl 0 rfl ?_
    refine r_gR hX dX6_remove_35 kf_X6_15 rfl h ?_
    clear h; intro t2 h
    refine r_iload_n hX dX6_remove_38 rfl 2 rfl ?_
    refine r_aload_n hX dX6_remove_39 rfl 0 rfl ?_
    refine r_gR hX dX6_remove_40 kf_X6_15 rfl h ?_
    clear h; intro t3 h
    refine r_iload_n hX dX6_remove_43 rfl 2 rfl ?_
    refine r_iconst hX dX6_remove_44 kk_i_1 ?_
    refine r_iadd hX dX6_remove_45 ?_
    refine r_aI hX dX6_remove_46 h ?_
    clear h; intro t4 h
    refine r_tI hX dX6_remove_47 h ?_
    clear h; intro σ h
    refine r_iincL (L2 := fun t5 => [(3, .int t5), (0, kr E l0), (2, .int l2)]) hX dX6_remove_48 h 2 rfl (by decide) (fun _ => rfl) ?_
    clear h; intro t5 h
    refine r_goto (tgt := 26) hX dX6_remove_51 (by decide) ?_
    refine r_sub [1, 2, 0] rfl ?_
    exact hk26 _ _ _ _ h
def X6_remove_26 (G : kdS) : Nat → Int32 → Int32 → kdM → Option (Int32 × kdM) := lp (fun _ _ _ _ => none) (X6_remove_26B G) NN
theorem wX6_remove_26 {E : kdE} {G : kdS} {A : kdA} {r : Int32} {σ1 : kdM} (hX : kdX E A cX6_remove 4 RX6 (some .int) 1) : ∀ (l0 : Nat) (l2 : Int32) (l3 : Int32) (σ : kdM), X6_remove_26 G l0 l2 l3 σ = some (r, σ1) → SW E G (.inl (some (.int r), σ1)) A 4 σ 26 [(0, kr E l0), (2, .int l2), (3, .int l3)] [] :=
  lp_ind (Q := fun f => ∀ (l0 : Nat) (l2 : Int32) (l3 : Int32) (σ : kdM), f l0 l2 l3 σ = some (r, σ1) → SW E G (.inl (some (.int r), σ1)) A 4 σ 26 [(0, kr E l0), (2, .int l2), (3, .int l3)] []) (by intros; contradiction) (fun k hk l0 l2 l3 σ h => wX6_remove_26B hX k hk h) NN
def X6_remove (G : kdS) (l0 : Nat) (l1 : Int32) : kdM → Option (Int32 × kdM) :=
  kcv G 6 l0 (X6_at G l0 l1) fun t1 =>
  kcv G 6 l0 (X6_has G l0 l1) fun t2 =>
  cnd (t2 = 0)
    (X6_remove_54 G t1)
    (gI G 6 1 l0 fun t3 =>
    sI G 6 1 l0 ((t3 - (1 : Int32))) <|
    X6_remove_26 G l0 t1 l1)
set_option maxRecDepth 100000 in
set_option maxHeartbeats 4000000 in
theorem wX6_remove {E : kdE} {G : kdS} {l0 : Nat} {l1 : Int32} {σ : kdM} {r : Int32} {σ1 : kdM} (h : X6_remove G l0 l1 σ = some (r, σ1)) : Con E G yX6_remove cX6_remove 4 (some .int) 1 [kr E l0, .int l1] σ (some (.int r), σ1) := by
  refine kd_head (own := RX6) rfl (by decide +kernel) (Nat.le_of_ble_eq_true rfl) (fun A hX => ?_)
  show SW E G (.inl (some (.int r), σ1)) A 4 σ 0 [(0, kr E l0), (1, .int l1)] []
  unfold X6_remove at h
  refine r_aload_n hX dX6_remove_0 rfl 0 rfl ?_
  refine r_iload_n hX dX6_remove_1 rfl 1 rfl ?_
  refine r_cVi (As := [.int l1]) (st := []) hX dX6_remove_2 kl_X6_at w_ml_X6_33 w_im_X6_at w_se_X6_at ⟨_, _, rfl⟩ (by decide) rfl (Nat.le_of_ble_eq_true rfl) rfl kdz0 h (fun r σ1 h => wX6_at h) ?_
  clear h; intro t1 σ h
  refine r_istore_n (L2 := [(2, .int t1), (0, kr E l0), (1, .int l1)]) hX dX6_remove_5 rfl (by decide) rfl ?_
  refine r_aload_n hX dX6_remove_6 rfl 1 rfl ?_
  refine r_iload_n hX dX6_remove_7 rfl 2 rfl ?_
  refine r_cVi (As := [.int l1]) (st := []) hX dX6_remove_8 kl_X6_has w_ml_X6_37 w_im_X6_has w_se_X6_has ⟨_, _, rfl⟩ (by decide) rfl (Nat.le_of_ble_eq_true rfl) rfl kdz0 h (fun r σ1 h => wX6_has h) ?_
  clear h; intro t2 σ h
  refine r_if_eq (tgt := 54) hX dX6_remove_11 (by decide) h ?_ ?_
  · clear h; intro h
    refine r_sub [0] rfl ?_
    exact wX6_remove_54 hX h
  · clear h; intro h
    refine r_aload_n hX dX6_remove_14 rfl 1 rfl ?_
    refine r_dup hX dX6_remove_15 rfl ?_
    refine r_gI hX dX6_remove_16 kf_X6_21 rfl h ?_
    clear h; intro t3 h
    refine r_iconst hX dX6_remove_19 kk_i_1 ?_
    refine r_isub hX dX6_remove_20 ?_
    refine r_sI hX dX6_remove_21 kf_X6_21 rfl (by intro q hq; cases hq; rfl) h ?_
    clear h; intro σ h
    refine r_iload_n hX dX6_remove_24 rfl 2 rfl ?_
    refine r_istore_n (L2 := [(3, .int l1), (2, .int t1), (0, kr E l0), (1, .int l1)]) hX dX6_remove_25 rfl (by decide) rfl ?_
    refine r_sub [2, 1, 0] rfl ?_
    exact wX6_remove_26 hX _ _ _ _ h
def X6_clear (G : kdS) (l0 : Nat) : kdM → Option (Int32 × kdM) :=
  gI G 6 1 l0 fun t1 =>
  sI G 6 1 l0 ((0 : Int32)) <|
  rt t1
set_option maxRecDepth 100000 in
set_option maxHeartbeats 4000000 in
theorem wX6_clear {E : kdE} {G : kdS} {l0 : Nat} {σ : kdM} {r : Int32} {σ1 : kdM} (h : X6_clear G l0 σ = some (r, σ1)) : Con E G yX6_clear cX6_clear 2 (some .int) 0 [kr E l0] σ (some (.int r), σ1) := by
  refine kd_head (own := RX6) rfl (by decide +kernel) (Nat.le_of_ble_eq_true rfl) (fun A hX => ?_)
  show SW E G (.inl (some (.int r), σ1)) A 2 σ 0 [(0, kr E l0)] []
  unfold X6_clear at h
  refine r_aload_n hX dX6_clear_0 rfl 0 rfl ?_
  refine r_gI hX dX6_clear_1 kf_X6_21 rfl h ?_
  clear h; intro t1 h
  refine r_istore_n (L2 := [(1, .int t1), (0, kr E l0)]) hX dX6_clear_4 rfl (by decide) rfl ?_
  refine r_aload_n hX dX6_clear_5 rfl 1 rfl ?_
  refine r_iconst hX dX6_clear_6 kk_i_0 ?_
  refine r_sI hX dX6_clear_7 kf_X6_21 rfl (by intro q hq; cases hq; rfl) h ?_
  clear h; intro σ h
  refine r_iload_n hX dX6_clear_10 rfl 0 rfl ?_
  exact r_iret hX dX6_clear_11 h
def X6_copy_7B (G : kdS) (k7 : Nat → Nat → Int32 → kdM → Option (Unit × kdM)) (l0 : Nat) (l1 : Nat) (l2 : Int32) : kdM → Option (Unit × kdM) :=
  gI G 6 1 l1 fun t1 =>
  cnd (t1 ≤ l2)
    (rt ())
    (gR G 6 0 l1 fun t2 =>
    aI G t2 (l2) fun t3 =>
    kcv G 6 l0 (X6_add G l0 t3) fun _ =>
    ltI (l2 + Int32.ofInt 1) fun t4 =>
    k7 l0 l1 t4)
set_option maxRecDepth 100000 in
set_option maxHeartbeats 4000000 in
theorem wX6_copy_7B {E : kdE} {G : kdS} {A : kdA} {r : Unit} {σ1 : kdM} (hX : kdX E A cX6_copy 3 RX6 none 3) (k7 : Nat → Nat → Int32 → kdM → Option (Unit × kdM)) (hk7 : ∀ (l0 : Nat) (l1 : Nat) (l2 : Int32) (σ : kdM), k7 l0 l1 l2 σ = some (r, σ1) → SW E G (.inl (none, σ1)) A 3 σ 7 [(0, kr E l0), (1, kr E l1), (2, .int l2)] []) {σ : kdM} {l0 : Nat} {l1 : Nat} {l2 : Int32} (h : X6_copy_7B G k7 l0 l1 l2 σ = some (r, σ1)) : SW E G (.inl (none, σ1)) A 3 σ 7 [(0, kr E l0), (1, kr E l1), (2, .int l2)] [] := by
  unfold X6_copy_7B at h
  refine r_iload_n hX dX6_copy_7 rfl 2 rfl ?_
  refine r_aload_n hX dX6_copy_8 rfl 1 rfl ?_
  refine r_gI hX dX6_copy_9 kf_X6_21 rfl h ?_
  clear h; intro t1 h
  refine r_icmp_ge (tgt := 31) hX dX6_copy_12 (by decide) h ?_ ?_
  · clear h; intro h
    exact r_vret hX dX6_copy_31 h
  · clear h; intro h
    refine r_aload_n hX dX6_copy_15 rfl 0 rfl ?_
    refine r_aload_n hX dX6_copy_16 rfl 1 rfl ?_
    refine r_gR hX dX6_copy_17 kf_X6_15 rfl h ?_
    clear h; intro t2 h
    refine r_iload_n hX dX6_copy_20 rfl 2 rfl ?_
    refine r_aI hX dX6_copy_21 h ?_
    clear h; intro t3 h
    refine r_cVv (As := [.int t3]) (st := []) hX dX6_copy_22 kl_X6_add w_ml_X6_45 w_im_X6_add w_se_X6_add ⟨_, _, rfl⟩ (by decide) rfl (Nat.le_of_ble_eq_true rfl) rfl kdz0 h (fun r σ1 h => wX6_add h) ?_
    clear h; intro u σ h
    refine r_iincL (L2 := fun t4 => [(2, .int t4), (0, kr E l0), (1, kr E l1)]) hX dX6_copy_25 h 2 rfl (by decide) (fun _ => rfl) ?_
    clear h; intro t4 h
    refine r_goto (tgt := 7) hX dX6_copy_28 (by decide) ?_
    refine r_sub [1, 2, 0] rfl ?_
    exact hk7 _ _ _ _ h
def X6_copy_7 (G : kdS) : Nat → Nat → Int32 → kdM → Option (Unit × kdM) := lp (fun _ _ _ _ => none) (X6_copy_7B G) NN
theorem wX6_copy_7 {E : kdE} {G : kdS} {A : kdA} {r : Unit} {σ1 : kdM} (hX : kdX E A cX6_copy 3 RX6 none 3) : ∀ (l0 : Nat) (l1 : Nat) (l2 : Int32) (σ : kdM), X6_copy_7 G l0 l1 l2 σ = some (r, σ1) → SW E G (.inl (none, σ1)) A 3 σ 7 [(0, kr E l0), (1, kr E l1), (2, .int l2)] [] :=
  lp_ind (Q := fun f => ∀ (l0 : Nat) (l1 : Nat) (l2 : Int32) (σ : kdM), f l0 l1 l2 σ = some (r, σ1) → SW E G (.inl (none, σ1)) A 3 σ 7 [(0, kr E l0), (1, kr E l1), (2, .int l2)] []) (by intros; contradiction) (fun k hk l0 l1 l2 σ h => wX6_copy_7B hX k hk h) NN
def X6_copy (G : kdS) (l0 : Nat) (l1 : Nat) : kdM → Option (Unit × kdM) :=
  kcv G 6 l0 (X6_clear G l0) fun t1 =>
  X6_copy_7 G l0 l1 (0 : Int32)
set_option maxRecDepth 100000 in
set_option maxHeartbeats 4000000 in
theorem wX6_copy {E : kdE} {G : kdS} {l0 : Nat} {l1 : Nat} {σ : kdM} {r : Unit} {σ1 : kdM} (h : X6_copy G l0 l1 σ = some (r, σ1)) : Con E G yX6_copy cX6_copy 3 none 3 [kr E l0, kr E l1] σ (none, σ1) := by
  refine kd_head (own := RX6) rfl (by decide +kernel) (Nat.le_of_ble_eq_true rfl) (fun A hX => ?_)
  show SW E G (.inl (none, σ1)) A 3 σ 0 [(0, kr E l0), (1, kr E l1)] []
  unfold X6_copy at h
  refine r_aload_n hX dX6_copy_0 rfl 0 rfl ?_
  refine r_cVi (As := []) (st := []) hX dX6_copy_1 kl_X6_clear w_ml_X6_41 w_im_X6_clear w_se_X6_clear ⟨_, _, rfl⟩ (by decide) rfl (Nat.le_of_ble_eq_true rfl) rfl kdz0 h (fun r σ1 h => wX6_clear h) ?_
  clear h; intro t1 σ h
  refine r_pop hX dX6_copy_4 rfl ?_
  refine r_iconst hX dX6_copy_5 kk_i_0 ?_
  refine r_istore_n (L2 := [(2, .int (0 : Int32)), (0, kr E l0), (1, kr E l1)]) hX dX6_copy_6 rfl (by decide) rfl ?_
  refine r_sub [1, 2, 0] rfl ?_
  exact wX6_copy_7 hX _ _ _ _ h
def X6_agrees_22 (G : kdS) : kdM → Option (Int32 × kdM) :=
  rt (vp_nar .boolean (0 : Int32))
set_option maxRecDepth 100000 in
set_option maxHeartbeats 4000000 in
theorem wX6_agrees_22 {E : kdE} {G : kdS} {A : kdA} {r : Int32} {σ1 : kdM} (hX : kdX E A cX6_agrees 5 RX6 (some .boolean) 0) {σ : kdM} (h : X6_agrees_22 G  σ = some (r, σ1)) : SW E G (.inl (some (.int r), σ1)) A 5 σ 22 [] [] := by
  unfold X6_agrees_22 at h
  refine r_iconst hX dX6_agrees_22 kk_i_0 ?_
  exact r_zret hX dX6_agrees_23 h
def X6_agrees_27B (G : kdS) (k27 : Nat → Nat → Int32 → Int32 → Int32 → kdM → Option (Int32 × kdM)) (l0 : Nat) (l1 : Nat) (l2 : Int32) (l3 : Int32) (l4 : Int32) : kdM → Option (Int32 × kdM) :=
  cnd (l3 ≤ l4)
    (rt (vp_nar .boolean (1 : Int32)))
    (gR G 6 0 l0 fun t1 =>
    aI G t1 (l4) fun t2 =>
    gR G 6 0 l1 fun t3 =>
    aI G t3 ((l2 + l4)) fun t4 =>
    cnd (t2 = t4)
      (ltI (l4 + Int32.ofInt 1) fun t5 =>
      k27 l0 l1 l2 l3 t5)
      (rt (vp_nar .boolean (0 : Int32))))
set_option maxRecDepth 100000 in
set_option maxHeartbeats 4000000 in
theorem wX6_agrees_27B {E : kdE} {G : kdS} {A : kdA} {r : Int32} {σ1 : kdM} (hX : kdX E A cX6_agrees 5 RX6 (some .boolean) 0) (k27 : Nat → Nat → Int32 → Int32 → Int32 → kdM → Option (Int32 × kdM)) (hk27 : ∀ (l0 : Nat) (l1 : Nat) (l2 : Int32) (l3 : Int32) (l4 : Int32) (σ : kdM), k27 l0 l1 l2 l3 l4 σ = some (r, σ1) → SW E G (.inl (some (.int r), σ1)) A 5 σ 27 [(0, kr E l0), (1, kr E l1), (2, .int l2), (3, .int l3), (4, .int l4)] []) {σ : kdM} {l0 : Nat} {l1 : Nat} {l2 : Int32} {l3 : Int32} {l4 : Int32} (h : X6_agrees_27B G k27 l0 l1 l2 l3 l4 σ = some (r, σ1)) : SW E G (.inl (some (.int r), σ1)) A 5 σ 27 [(0, kr E l0), (1, kr E l1), (2, .int l2), (3, .int l3), (4, .int l4)] [] := by
  unfold X6_agrees_27B at h
  refine r_iload hX dX6_agrees_27 4 rfl ?_
  refine r_iload_n hX dX6_agrees_29 rfl 3 rfl ?_
  refine r_icmp_ge (tgt := 60) hX dX6_agrees_30 (by decide) h ?_ ?_
  · clear h; intro h
    refine r_iconst hX dX6_agrees_60 kk_i_1 ?_
    exact r_zret hX dX6_agrees_61 h
  · clear h; intro h
    refine r_aload_n hX dX6_agrees_33 rfl 0 rfl ?_
    refine r_gR hX dX6_agrees_34 kf_X6_15 rfl h ?_
    clear h; intro t1 h
    refine r_iload hX dX6_agrees_37 4 rfl ?_
    refine r_aI hX dX6_agrees_39 h ?_
    clear h; intro t2 h
    refine r_aload_n hX dX6_agrees_40 rfl 1 rfl ?_
    refine r_gR hX dX6_agrees_41 kf_X6_15 rfl h ?_
    clear h; intro t3 h
    refine r_iload_n hX dX6_agrees_44 rfl 2 rfl ?_
    refine r_iload hX dX6_agrees_45 4 rfl ?_
    refine r_iadd hX dX6_agrees_47 ?_
    refine r_aI hX dX6_agrees_48 h ?_
    clear h; intro t4 h
    refine r_icmp_eq (tgt := 54) hX dX6_agrees_49 (by decide) h ?_ ?_
    · clear h; intro h
      refine r_iincL (L2 := fun t5 => [(4, .int t5), (0, kr E l0), (1, kr E l1), (2, .int l2), (3, .int l3)]) hX dX6_agrees_54 h 4 rfl (by decide) (fun _ => rfl) ?_
      clear h; intro t5 h
      refine r_goto (tgt := 27) hX dX6_agrees_57 (by decide) ?_
      refine r_sub [1, 2, 3, 4, 0] rfl ?_
      exact hk27 _ _ _ _ _ _ h
    · clear h; intro h
      refine r_iconst hX dX6_agrees_52 kk_i_0 ?_
      exact r_zret hX dX6_agrees_53 h
def X6_agrees_27 (G : kdS) : Nat → Nat → Int32 → Int32 → Int32 → kdM → Option (Int32 × kdM) := lp (fun _ _ _ _ _ _ => none) (X6_agrees_27B G) NN
theorem wX6_agrees_27 {E : kdE} {G : kdS} {A : kdA} {r : Int32} {σ1 : kdM} (hX : kdX E A cX6_agrees 5 RX6 (some .boolean) 0) : ∀ (l0 : Nat) (l1 : Nat) (l2 : Int32) (l3 : Int32) (l4 : Int32) (σ : kdM), X6_agrees_27 G l0 l1 l2 l3 l4 σ = some (r, σ1) → SW E G (.inl (some (.int r), σ1)) A 5 σ 27 [(0, kr E l0), (1, kr E l1), (2, .int l2), (3, .int l3), (4, .int l4)] [] :=
  lp_ind (Q := fun f => ∀ (l0 : Nat) (l1 : Nat) (l2 : Int32) (l3 : Int32) (l4 : Int32) (σ : kdM), f l0 l1 l2 l3 l4 σ = some (r, σ1) → SW E G (.inl (some (.int r), σ1)) A 5 σ 27 [(0, kr E l0), (1, kr E l1), (2, .int l2), (3, .int l3), (4, .int l4)] []) (by intros; contradiction) (fun k hk l0 l1 l2 l3 l4 σ h => wX6_agrees_27B hX k hk h) NN
def X6_agrees (G : kdS) (l0 : Nat) (l1 : Nat) (l2 : Int32) (l3 : Int32) : kdM → Option (Int32 × kdM) :=
  gI G 6 1 l0 fun t1 =>
  cnd (t1 < l3)
    (X6_agrees_22 G )
    (cnd (l2 < 0)
      (X6_agrees_22 G )
      (gI G 6 1 l1 fun t2 =>
      cnd (l3 ≤ (t2 - l2))
        (X6_agrees_27 G l0 l1 l2 l3 (0 : Int32))
        (X6_agrees_22 G )))
set_option maxRecDepth 100000 in
set_option maxHeartbeats 4000000 in
theorem wX6_agrees {E : kdE} {G : kdS} {l0 : Nat} {l1 : Nat} {l2 : Int32} {l3 : Int32} {σ : kdM} {r : Int32} {σ1 : kdM} (h : X6_agrees G l0 l1 l2 l3 σ = some (r, σ1)) : Con E G yX6_agrees cX6_agrees 5 (some .boolean) 0 [kr E l0, kr E l1, .int l2, .int l3] σ (some (.int r), σ1) := by
  refine kd_head (own := RX6) rfl (by decide +kernel) (Nat.le_of_ble_eq_true rfl) (fun A hX => ?_)
  show SW E G (.inl (some (.int r), σ1)) A 5 σ 0 [(0, kr E l0), (1, kr E l1), (2, .int l2), (3, .int l3)] []
  unfold X6_agrees at h
  refine r_iload_n hX dX6_agrees_0 rfl 3 rfl ?_
  refine r_aload_n hX dX6_agrees_1 rfl 0 rfl ?_
  refine r_gI hX dX6_agrees_2 kf_X6_21 rfl h ?_
  clear h; intro t1 h
  refine r_icmp_gt (tgt := 22) hX dX6_agrees_5 (by decide) h ?_ ?_
  · clear h; intro h
    refine r_sub [] rfl ?_
    exact wX6_agrees_22 hX h
  · clear h; intro h
    refine r_iload_n hX dX6_agrees_8 rfl 2 rfl ?_
    refine r_if_lt (tgt := 22) hX dX6_agrees_9 (by decide) h ?_ ?_
    · clear h; intro h
      refine r_sub [] rfl ?_
      exact wX6_agrees_22 hX h
    · clear h; intro h
      refine r_iload_n hX dX6_agrees_12 rfl 3 rfl ?_
      refine r_aload_n hX dX6_agrees_13 rfl 1 rfl ?_
      refine r_gI hX dX6_agrees_14 kf_X6_21 rfl h ?_
      clear h; intro t2 h
      refine r_iload_n hX dX6_agrees_17 rfl 2 rfl ?_
      refine r_isub hX dX6_agrees_18 ?_
      refine r_icmp_le (tgt := 24) hX dX6_agrees_19 (by decide) h ?_ ?_
      · clear h; intro h
        refine r_iconst hX dX6_agrees_24 kk_i_0 ?_
        refine r_istore (L2 := [(4, .int (0 : Int32)), (0, kr E l0), (1, kr E l1), (2, .int l2), (3, .int l3)]) hX dX6_agrees_25 (by decide) rfl ?_
        refine r_sub [1, 2, 3, 4, 0] rfl ?_
        exact wX6_agrees_27 hX _ _ _ _ _ _ h
      · clear h; intro h
        refine r_sub [] rfl ?_
        exact wX6_agrees_22 hX h
def X6_isLike_29 (G : kdS) (s0 : Int32) : kdM → Option (Int32 × kdM) :=
  rt (vp_nar .boolean s0)
set_option maxRecDepth 100000 in
set_option maxHeartbeats 4000000 in
theorem wX6_isLike_29 {E : kdE} {G : kdS} {A : kdA} {r : Int32} {σ1 : kdM} (hX : kdX E A cX6_isLike 2 RX6 (some .boolean) 1) {σ : kdM} {s0 : Int32} (h : X6_isLike_29 G s0 σ = some (r, σ1)) : SW E G (.inl (some (.int r), σ1)) A 2 σ 29 [] [.int s0] := by
  unfold X6_isLike_29 at h
  exact r_zret hX dX6_isLike_29 h
def X6_isLike_28 (G : kdS) : kdM → Option (Int32 × kdM) :=
  X6_isLike_29 G (0 : Int32)
set_option maxRecDepth 100000 in
set_option maxHeartbeats 4000000 in
theorem wX6_isLike_28 {E : kdE} {G : kdS} {A : kdA} {r : Int32} {σ1 : kdM} (hX : kdX E A cX6_isLike 2 RX6 (some .boolean) 1) {σ : kdM} (h : X6_isLike_28 G  σ = some (r, σ1)) : SW E G (.inl (some (.int r), σ1)) A 2 σ 28 [] [] := by
  unfold X6_isLike_28 at h
  refine r_iconst hX dX6_isLike_28 kk_i_0 ?_
  refine r_sub [] rfl ?_
  exact wX6_isLike_29 hX h
def X6_isLike (G : kdS) (l0 : Nat) (l1 : Nat) : kdM → Option (Int32 × kdM) :=
  gI G 6 1 l0 fun t1 =>
  gI G 6 1 l1 fun t2 =>
  cnd (t1 = t2)
    (gI G 6 1 l0 fun t3 =>
    kcv G 6 l0 (X6_agrees G l0 l1 (0 : Int32) t3) fun t4 =>
    cnd (t4 = 0)
      (X6_isLike_28 G )
      (X6_isLike_29 G (1 : Int32)))
    (X6_isLike_28 G )
set_option maxRecDepth 100000 in
set_option maxHeartbeats 4000000 in
theorem wX6_isLike {E : kdE} {G : kdS} {l0 : Nat} {l1 : Nat} {σ : kdM} {r : Int32} {σ1 : kdM} (h : X6_isLike G l0 l1 σ = some (r, σ1)) : Con E G yX6_isLike cX6_isLike 2 (some .boolean) 1 [kr E l0, kr E l1] σ (some (.int r), σ1) := by
  refine kd_head (own := RX6) rfl (by decide +kernel) (Nat.le_of_ble_eq_true rfl) (fun A hX => ?_)
  show SW E G (.inl (some (.int r), σ1)) A 2 σ 0 [(0, kr E l0), (1, kr E l1)] []
  unfold X6_isLike at h
  refine r_aload_n hX dX6_isLike_0 rfl 0 rfl ?_
  refine r_gI hX dX6_isLike_1 kf_X6_21 rfl h ?_
  clear h; intro t1 h
  refine r_aload_n hX dX6_isLike_4 rfl 1 rfl ?_
  refine r_gI hX dX6_isLike_5 kf_X6_21 rfl h ?_
  clear h; intro t2 h
  refine r_icmp_ne (tgt := 28) hX dX6_isLike_8 (by decide) h ?_ ?_
  · clear h; intro h
    refine r_aload_n hX dX6_isLike_11 rfl 0 rfl ?_
    refine r_aload_n hX dX6_isLike_12 rfl 1 rfl ?_
    refine r_iconst hX dX6_isLike_13 kk_i_0 ?_
    refine r_aload_n hX dX6_isLike_14 rfl 0 rfl ?_
    refine r_gI hX dX6_isLike_15 kf_X6_21 rfl h ?_
    clear h; intro t3 h
    refine r_cVi (As := [kr E l1, .int (0 : Int32), .int t3]) (st := []) hX dX6_isLike_18 kl_X6_agrees w_ml_X6_49 w_im_X6_agrees w_se_X6_agrees ⟨_, _, rfl⟩ (by decide) rfl (Nat.le_of_ble_eq_true rfl) rfl kdz0 h (fun r σ1 h => wX6_agrees h) ?_
    clear h; intro t4 σ h
    refine r_if_eq (tgt := 28) hX dX6_isLike_21 (by decide) h ?_ ?_
    · clear h; intro h
      refine r_sub [] rfl ?_
      exact wX6_isLike_28 hX h
    · clear h; intro h
      refine r_iconst hX dX6_isLike_24 kk_i_1 ?_
      refine r_goto (tgt := 29) hX dX6_isLike_25 (by decide) ?_
      refine r_sub [] rfl ?_
      exact wX6_isLike_29 hX h
  · clear h; intro h
    refine r_sub [] rfl ?_
    exact wX6_isLike_28 hX h
def X8_rules (G : kdS) (l0 : Nat) : kdM → Option (Int32 × kdM) :=
  gI G 8 2 l0 fun t1 =>
  rt t1
set_option maxRecDepth 100000 in
set_option maxHeartbeats 4000000 in
theorem wX8_rules {E : kdE} {G : kdS} {l0 : Nat} {σ : kdM} {r : Int32} {σ1 : kdM} (h : X8_rules G l0 σ = some (r, σ1)) : Con E G yX8_rules cX8_rules 1 (some .int) 0 [kr E l0] σ (some (.int r), σ1) := by
  refine kd_head (own := RX8) rfl (by decide +kernel) (Nat.le_of_ble_eq_true rfl) (fun A hX => ?_)
  show SW E G (.inl (some (.int r), σ1)) A 1 σ 0 [(0, kr E l0)] []
  unfold X8_rules at h
  refine r_aload_n hX dX8_rules_0 rfl 0 rfl ?_
  refine r_gI hX dX8_rules_1 kf_X8_40 rfl h ?_
  clear h; intro t1 h
  exact r_iret hX dX8_rules_4 h
def X8_joins (G : kdS) (l0 : Nat) : kdM → Option (Int32 × kdM) :=
  gR G 8 5 l0 fun t1 =>
  kcv G 6 t1 (X6_size G t1) fun t2 =>
  rt t2
set_option maxRecDepth 100000 in
set_option maxHeartbeats 4000000 in
theorem wX8_joins {E : kdE} {G : kdS} {l0 : Nat} {σ : kdM} {r : Int32} {σ1 : kdM} (h : X8_joins G l0 σ = some (r, σ1)) : Con E G yX8_joins cX8_joins 1 (some .int) 1 [kr E l0] σ (some (.int r), σ1) := by
  refine kd_head (own := RX8) rfl (by decide +kernel) (Nat.le_of_ble_eq_true rfl) (fun A hX => ?_)
  show SW E G (.inl (some (.int r), σ1)) A 1 σ 0 [(0, kr E l0)] []
  unfold X8_joins at h
  refine r_aload_n hX dX8_joins_0 rfl 0 rfl ?_
  refine r_gR hX dX8_joins_1 kf_X8_30 rfl h ?_
  clear h; intro t1 h
  refine r_cVi (As := []) (st := []) hX dX8_joins_4 kl_X6_size w_ml_X8_44 w_im_X6_size w_se_X6_size ⟨_, _, rfl⟩ (by decide) rfl (Nat.le_of_ble_eq_true rfl) rfl kdz0 h (fun r σ1 h => wX6_size h) ?_
  clear h; intro t2 σ h
  exact r_iret hX dX8_joins_7 h
def X8_isFullOfRules_14 (G : kdS) (s0 : Int32) : kdM → Option (Int32 × kdM) :=
  rt (vp_nar .boolean s0)
set_option maxRecDepth 100000 in
set_option maxHeartbeats 4000000 in
theorem wX8_isFullOfRules_14 {E : kdE} {G : kdS} {A : kdA} {r : Int32} {σ1 : kdM} (hX : kdX E A cX8_isFullOfRules 1 RX8 (some .boolean) 0) {σ : kdM} {s0 : Int32} (h : X8_isFullOfRules_14 G s0 σ = some (r, σ1)) : SW E G (.inl (some (.int r), σ1)) A 1 σ 14 [] [.int s0] := by
  unfold X8_isFullOfRules_14 at h
  exact r_zret hX dX8_isFullOfRules_14 h
def X8_isFullOfRules (G : kdS) (l0 : Nat) : kdM → Option (Int32 × kdM) :=
  gI G 8 2 l0 fun t1 =>
  cnd (t1 < (24 : Int32))
    (X8_isFullOfRules_14 G (0 : Int32))
    (X8_isFullOfRules_14 G (1 : Int32))
set_option maxRecDepth 100000 in
set_option maxHeartbeats 4000000 in
theorem wX8_isFullOfRules {E : kdE} {G : kdS} {l0 : Nat} {σ : kdM} {r : Int32} {σ1 : kdM} (h : X8_isFullOfRules G l0 σ = some (r, σ1)) : Con E G yX8_isFullOfRules cX8_isFullOfRules 1 (some .boolean) 0 [kr E l0] σ (some (.int r), σ1) := by
  refine kd_head (own := RX8) rfl (by decide +kernel) (Nat.le_of_ble_eq_true rfl) (fun A hX => ?_)
  show SW E G (.inl (some (.int r), σ1)) A 1 σ 0 [(0, kr E l0)] []
  unfold X8_isFullOfRules at h
  refine r_aload_n hX dX8_isFullOfRules_0 rfl 0 rfl ?_
  refine r_gI hX dX8_isFullOfRules_1 kf_X8_40 rfl h ?_
  clear h; intro t1 h
  refine r_bipush hX dX8_isFullOfRules_4 kk_b_24 ?_
  refine r_icmp_lt (tgt := 13) hX dX8_isFullOfRules_6 (by decide) h ?_ ?_
  · clear h; intro h
    refine r_iconst hX dX8_isFullOfRules_13 kk_i_0 ?_
    refine r_sub [] rfl ?_
    exact wX8_isFullOfRules_14 hX h
  · clear h; intro h
    refine r_iconst hX dX8_isFullOfRules_9 kk_i_1 ?_
    refine r_goto (tgt := 14) hX dX8_isFullOfRules_10 (by decide) ?_
    refine r_sub [] rfl ?_
    exact wX8_isFullOfRules_14 hX h
def X8_isFullOfJoins (G : kdS) (l0 : Nat) : kdM → Option (Int32 × kdM) :=
  gR G 8 5 l0 fun t1 =>
  kcv G 6 t1 (X6_isFull G t1) fun t2 =>
  rt (vp_nar .boolean t2)
set_option maxRecDepth 100000 in
set_option maxHeartbeats 4000000 in
theorem wX8_isFullOfJoins {E : kdE} {G : kdS} {l0 : Nat} {σ : kdM} {r : Int32} {σ1 : kdM} (h : X8_isFullOfJoins G l0 σ = some (r, σ1)) : Con E G yX8_isFullOfJoins cX8_isFullOfJoins 1 (some .boolean) 1 [kr E l0] σ (some (.int r), σ1) := by
  refine kd_head (own := RX8) rfl (by decide +kernel) (Nat.le_of_ble_eq_true rfl) (fun A hX => ?_)
  show SW E G (.inl (some (.int r), σ1)) A 1 σ 0 [(0, kr E l0)] []
  unfold X8_isFullOfJoins at h
  refine r_aload_n hX dX8_isFullOfJoins_0 rfl 0 rfl ?_
  refine r_gR hX dX8_isFullOfJoins_1 kf_X8_30 rfl h ?_
  clear h; intro t1 h
  refine r_cVi (As := []) (st := []) hX dX8_isFullOfJoins_4 kl_X6_isFull w_ml_X8_48 w_im_X6_isFull w_se_X6_isFull ⟨_, _, rfl⟩ (by decide) rfl (Nat.le_of_ble_eq_true rfl) rfl kdz0 h (fun r σ1 h => wX6_isFull h) ?_
  clear h; intro t2 σ h
  exact r_zret hX dX8_isFullOfJoins_7 h
def X8_keysOfRule (G : kdS) (l0 : Nat) (l1 : Int32) : kdM → Option (Nat × kdM) :=
  gR G 8 0 l0 fun t1 =>
  aR G 16 t1 (l1) fun t2 =>
  rt t2
set_option maxRecDepth 100000 in
set_option maxHeartbeats 4000000 in
theorem wX8_keysOfRule {E : kdE} {G : kdS} {l0 : Nat} {l1 : Int32} {σ : kdM} {r : Nat} {σ1 : kdM} (h : X8_keysOfRule G l0 l1 σ = some (r, σ1)) : Con E G yX8_keysOfRule cX8_keysOfRule 2 (some (.object "KeyDesk$Row")) 0 [kr E l0, .int l1] σ (some (kr E r), σ1) := by
  refine kd_head (own := RX8) rfl (by decide +kernel) (Nat.le_of_ble_eq_true rfl) (fun A hX => ?_)
  show SW E G (.inl (some (kr E r), σ1)) A 2 σ 0 [(0, kr E l0), (1, .int l1)] []
  unfold X8_keysOfRule at h
  refine r_aload_n hX dX8_keysOfRule_0 rfl 0 rfl ?_
  refine r_gR hX dX8_keysOfRule_1 kf_X8_11 rfl h ?_
  clear h; intro t1 h
  refine r_iload_n hX dX8_keysOfRule_4 rfl 1 rfl ?_
  refine r_aR16 hX dX8_keysOfRule_5 h ?_
  clear h; intro t2 h
  exact r_aret hX dX8_keysOfRule_6 h
def X8_lettersOfRule (G : kdS) (l0 : Nat) (l1 : Int32) : kdM → Option (Nat × kdM) :=
  gR G 8 1 l0 fun t1 =>
  aR G 16 t1 (l1) fun t2 =>
  rt t2
set_option maxRecDepth 100000 in
set_option maxHeartbeats 4000000 in
theorem wX8_lettersOfRule {E : kdE} {G : kdS} {l0 : Nat} {l1 : Int32} {σ : kdM} {r : Nat} {σ1 : kdM} (h : X8_lettersOfRule G l0 l1 σ = some (r, σ1)) : Con E G yX8_lettersOfRule cX8_lettersOfRule 2 (some (.object "KeyDesk$Row")) 0 [kr E l0, .int l1] σ (some (kr E r), σ1) := by
  refine kd_head (own := RX8) rfl (by decide +kernel) (Nat.le_of_ble_eq_true rfl) (fun A hX => ?_)
  show SW E G (.inl (some (kr E r), σ1)) A 2 σ 0 [(0, kr E l0), (1, .int l1)] []
  unfold X8_lettersOfRule at h
  refine r_aload_n hX dX8_lettersOfRule_0 rfl 0 rfl ?_
  refine r_gR hX dX8_lettersOfRule_1 kf_X8_17 rfl h ?_
  clear h; intro t1 h
  refine r_iload_n hX dX8_lettersOfRule_4 rfl 1 rfl ?_
  refine r_aR16 hX dX8_lettersOfRule_5 h ?_
  clear h; intro t2 h
  exact r_aret hX dX8_lettersOfRule_6 h
def X8_addRule (G : kdS) (l0 : Nat) (l1 : Nat) (l2 : Nat) : kdM → Option (Int32 × kdM) :=
  kcv G 8 l0 (X8_isFullOfRules G l0) fun t1 =>
  cnd (t1 = 0)
    (gR G 8 0 l0 fun t2 =>
    gI G 8 2 l0 fun t3 =>
    aR G 16 t2 (t3) fun t4 =>
    kcv G 6 t4 (X6_copy G t4 l1) fun _ =>
    gR G 8 1 l0 fun t5 =>
    gI G 8 2 l0 fun t6 =>
    aR G 16 t5 (t6) fun t7 =>
    kcv G 6 t7 (X6_copy G t7 l2) fun _ =>
    gI G 8 2 l0 fun t8 =>
    sI G 8 2 l0 ((t8 + (1 : Int32))) <|
    gI G 8 2 l0 fun t9 =>
    rt (t9 - (1 : Int32)))
    (rt (-4 : Int32))
set_option maxRecDepth 100000 in
set_option maxHeartbeats 4000000 in
theorem wX8_addRule {E : kdE} {G : kdS} {l0 : Nat} {l1 : Nat} {l2 : Nat} {σ : kdM} {r : Int32} {σ1 : kdM} (h : X8_addRule G l0 l1 l2 σ = some (r, σ1)) : Con E G yX8_addRule cX8_addRule 3 (some .int) 4 [kr E l0, kr E l1, kr E l2] σ (some (.int r), σ1) := by
  refine kd_head (own := RX8) rfl (by decide +kernel) (Nat.le_of_ble_eq_true rfl) (fun A hX => ?_)
  show SW E G (.inl (some (.int r), σ1)) A 3 σ 0 [(0, kr E l0), (1, kr E l1), (2, kr E l2)] []
  unfold X8_addRule at h
  refine r_aload_n hX dX8_addRule_0 rfl 0 rfl ?_
  refine r_cVi (As := []) (st := []) hX dX8_addRule_1 kl_X8_isFullOfRules w_ml_X8_52 w_im_X8_isFullOfRules w_se_X8_isFullOfRules ⟨_, _, rfl⟩ (by decide) rfl (Nat.le_of_ble_eq_true rfl) rfl kdz0 h (fun r σ1 h => wX8_isFullOfRules h) ?_
  clear h; intro t1 σ h
  refine r_if_eq (tgt := 10) hX dX8_addRule_4 (by decide) h ?_ ?_
  · clear h; intro h
    refine r_aload_n hX dX8_addRule_10 rfl 0 rfl ?_
    refine r_gR hX dX8_addRule_11 kf_X8_11 rfl h ?_
    clear h; intro t2 h
    refine r_aload_n hX dX8_addRule_14 rfl 0 rfl ?_
    refine r_gI hX dX8_addRule_15 kf_X8_40 rfl h ?_
    clear h; intro t3 h
    refine r_aR16 hX dX8_addRule_18 h ?_
    clear h; intro t4 h
    refine r_aload_n hX dX8_addRule_19 rfl 1 rfl ?_
    refine r_cVv (As := [kr E l1]) (st := []) hX dX8_addRule_20 kl_X6_copy w_ml_X8_55 w_im_X6_copy w_se_X6_copy ⟨_, _, rfl⟩ (by decide) rfl (Nat.le_of_ble_eq_true rfl) rfl kdz0 h (fun r σ1 h => wX6_copy h) ?_
    clear h; intro u σ h
    refine r_aload_n hX dX8_addRule_23 rfl 0 rfl ?_
    refine r_gR hX dX8_addRule_24 kf_X8_17 rfl h ?_
    clear h; intro t5 h
    refine r_aload_n hX dX8_addRule_27 rfl 0 rfl ?_
    refine r_gI hX dX8_addRule_28 kf_X8_40 rfl h ?_
    clear h; intro t6 h
    refine r_aR16 hX dX8_addRule_31 h ?_
    clear h; intro t7 h
    refine r_aload_n hX dX8_addRule_32 rfl 2 rfl ?_
    refine r_cVv (As := [kr E l2]) (st := []) hX dX8_addRule_33 kl_X6_copy w_ml_X8_55 w_im_X6_copy w_se_X6_copy ⟨_, _, rfl⟩ (by decide) rfl (Nat.le_of_ble_eq_true rfl) rfl kdz0 h (fun r σ1 h => wX6_copy h) ?_
    clear h; intro u σ h
    refine r_aload_n hX dX8_addRule_36 rfl 0 rfl ?_
    refine r_dup hX dX8_addRule_37 rfl ?_
    refine r_gI hX dX8_addRule_38 kf_X8_40 rfl h ?_
    clear h; intro t8 h
    refine r_iconst hX dX8_addRule_41 kk_i_1 ?_
    refine r_iadd hX dX8_addRule_42 ?_
    refine r_sI hX dX8_addRule_43 kf_X8_40 rfl (by intro q hq; cases hq; rfl) h ?_
    clear h; intro σ h
    refine r_aload_n hX dX8_addRule_46 rfl 0 rfl ?_
    refine r_gI hX dX8_addRule_47 kf_X8_40 rfl h ?_
    clear h; intro t9 h
    refine r_iconst hX dX8_addRule_50 kk_i_1 ?_
    refine r_isub hX dX8_addRule_51 ?_
    exact r_iret hX dX8_addRule_52 h
  · clear h; intro h
    refine r_bipush hX dX8_addRule_7 kk_b_m4 ?_
    exact r_iret hX dX8_addRule_9 h
def X8_addJoin (G : kdS) (l0 : Nat) (l1 : Int32) (l2 : Int32) (l3 : Int32) : kdM → Option (Int32 × kdM) :=
  gR G 8 3 l0 fun t1 =>
  kcv G 6 t1 (X6_add G t1 l1) fun _ =>
  gR G 8 4 l0 fun t2 =>
  kcv G 6 t2 (X6_add G t2 l2) fun _ =>
  gR G 8 5 l0 fun t3 =>
  kcv G 6 t3 (X6_add G t3 l3) fun _ =>
  gR G 8 5 l0 fun t4 =>
  kcv G 6 t4 (X6_size G t4) fun t5 =>
  rt t5
set_option maxRecDepth 100000 in
set_option maxHeartbeats 4000000 in
theorem wX8_addJoin {E : kdE} {G : kdS} {l0 : Nat} {l1 : Int32} {l2 : Int32} {l3 : Int32} {σ : kdM} {r : Int32} {σ1 : kdM} (h : X8_addJoin G l0 l1 l2 l3 σ = some (r, σ1)) : Con E G yX8_addJoin cX8_addJoin 4 (some .int) 3 [kr E l0, .int l1, .int l2, .int l3] σ (some (.int r), σ1) := by
  refine kd_head (own := RX8) rfl (by decide +kernel) (Nat.le_of_ble_eq_true rfl) (fun A hX => ?_)
  show SW E G (.inl (some (.int r), σ1)) A 4 σ 0 [(0, kr E l0), (1, .int l1), (2, .int l2), (3, .int l3)] []
  unfold X8_addJoin at h
  refine r_aload_n hX dX8_addJoin_0 rfl 0 rfl ?_
  refine r_gR hX dX8_addJoin_1 kf_X8_23 rfl h ?_
  clear h; intro t1 h
  refine r_iload_n hX dX8_addJoin_4 rfl 1 rfl ?_
  refine r_cVv (As := [.int l1]) (st := []) hX dX8_addJoin_5 kl_X6_add w_ml_X8_59 w_im_X6_add w_se_X6_add ⟨_, _, rfl⟩ (by decide) rfl (Nat.le_of_ble_eq_true rfl) rfl kdz0 h (fun r σ1 h => wX6_add h) ?_
  clear h; intro u σ h
  refine r_aload_n hX dX8_addJoin_8 rfl 0 rfl ?_
  refine r_gR hX dX8_addJoin_9 kf_X8_27 rfl h ?_
  clear h; intro t2 h
  refine r_iload_n hX dX8_addJoin_12 rfl 2 rfl ?_
  refine r_cVv (As := [.int l2]) (st := []) hX dX8_addJoin_13 kl_X6_add w_ml_X8_59 w_im_X6_add w_se_X6_add ⟨_, _, rfl⟩ (by decide) rfl (Nat.le_of_ble_eq_true rfl) rfl kdz0 h (fun r σ1 h => wX6_add h) ?_
  clear h; intro u σ h
  refine r_aload_n hX dX8_addJoin_16 rfl 0 rfl ?_
  refine r_gR hX dX8_addJoin_17 kf_X8_30 rfl h ?_
  clear h; intro t3 h
  refine r_iload_n hX dX8_addJoin_20 rfl 3 rfl ?_
  refine r_cVv (As := [.int l3]) (st := []) hX dX8_addJoin_21 kl_X6_add w_ml_X8_59 w_im_X6_add w_se_X6_add ⟨_, _, rfl⟩ (by decide) rfl (Nat.le_of_ble_eq_true rfl) rfl kdz0 h (fun r σ1 h => wX6_add h) ?_
  clear h; intro u σ h
  refine r_aload_n hX dX8_addJoin_24 rfl 0 rfl ?_
  refine r_gR hX dX8_addJoin_25 kf_X8_30 rfl h ?_
  clear h; intro t4 h
  refine r_cVi (As := []) (st := []) hX dX8_addJoin_28 kl_X6_size w_ml_X8_44 w_im_X6_size w_se_X6_size ⟨_, _, rfl⟩ (by decide) rfl (Nat.le_of_ble_eq_true rfl) rfl kdz0 h (fun r σ1 h => wX6_size h) ?_
  clear h; intro t5 σ h
  exact r_iret hX dX8_addJoin_31 h
def X8_setLetter (G : kdS) (l0 : Nat) (l1 : Int32) (l2 : Int32) : kdM → Option (Int32 × kdM) :=
  gR G 8 6 l0 fun t1 =>
  aZ G t1 (l1) fun t2 =>
  gR G 8 6 l0 fun t3 =>
  tZ G t3 (l1) (l2) <|
  rt (vp_nar .boolean t2)
set_option maxRecDepth 100000 in
set_option maxHeartbeats 4000000 in
theorem wX8_setLetter {E : kdE} {G : kdS} {l0 : Nat} {l1 : Int32} {l2 : Int32} {σ : kdM} {r : Int32} {σ1 : kdM} (h : X8_setLetter G l0 l1 l2 σ = some (r, σ1)) : Con E G yX8_setLetter cX8_setLetter 4 (some .boolean) 0 [kr E l0, .int l1, .int l2] σ (some (.int r), σ1) := by
  refine kd_head (own := RX8) rfl (by decide +kernel) (Nat.le_of_ble_eq_true rfl) (fun A hX => ?_)
  show SW E G (.inl (some (.int r), σ1)) A 4 σ 0 [(0, kr E l0), (1, .int l1), (2, .int l2)] []
  unfold X8_setLetter at h
  refine r_aload_n hX dX8_setLetter_0 rfl 0 rfl ?_
  refine r_gR hX dX8_setLetter_1 kf_X8_33 rfl h ?_
  clear h; intro t1 h
  refine r_iload_n hX dX8_setLetter_4 rfl 1 rfl ?_
  refine r_aZ hX dX8_setLetter_5 h ?_
  clear h; intro t2 h
  refine r_istore_n (L2 := [(3, .int t2), (0, kr E l0), (1, .int l1), (2, .int l2)]) hX dX8_setLetter_6 rfl (by decide) rfl ?_
  refine r_aload_n hX dX8_setLetter_7 rfl 1 rfl ?_
  refine r_gR hX dX8_setLetter_8 kf_X8_33 rfl h ?_
  clear h; intro t3 h
  refine r_iload_n hX dX8_setLetter_11 rfl 2 rfl ?_
  refine r_iload_n hX dX8_setLetter_12 rfl 3 rfl ?_
  refine r_tZ hX dX8_setLetter_13 h ?_
  clear h; intro σ h
  refine r_iload_n hX dX8_setLetter_14 rfl 0 rfl ?_
  exact r_zret hX dX8_setLetter_15 h
def X8_joined_46 (G : kdS) (k2 : Nat → Int32 → Int32 → Int32 → kdM → Option (Int32 × kdM)) (l0 : Nat) (l1 : Int32) (l2 : Int32) (l3 : Int32) : kdM → Option (Int32 × kdM) :=
  ltI (l3 + Int32.ofInt 1) fun t1 =>
  k2 l0 l1 l2 t1
set_option maxRecDepth 100000 in
set_option maxHeartbeats 4000000 in
theorem wX8_joined_46 {E : kdE} {G : kdS} {A : kdA} {r : Int32} {σ1 : kdM} (hX : kdX E A cX8_joined 4 RX8 (some .int) 1) (k2 : Nat → Int32 → Int32 → Int32 → kdM → Option (Int32 × kdM)) (hk2 : ∀ (l0 : Nat) (l1 : Int32) (l2 : Int32) (l3 : Int32) (σ : kdM), k2 l0 l1 l2 l3 σ = some (r, σ1) → SW E G (.inl (some (.int r), σ1)) A 4 σ 2 [(0, kr E l0), (1, .int l1), (2, .int l2), (3, .int l3)] []) {σ : kdM} {l0 : Nat} {l1 : Int32} {l2 : Int32} {l3 : Int32} (h : X8_joined_46 G k2 l0 l1 l2 l3 σ = some (r, σ1)) : SW E G (.inl (some (.int r), σ1)) A 4 σ 46 [(0, kr E l0), (1, .int l1), (2, .int l2), (3, .int l3)] [] := by
  unfold X8_joined_46 at h
  refine r_iincL (L2 := fun t1 => [(3, .int t1), (0, kr E l0), (1, .int l1), (2, .int l2)]) hX dX8_joined_46 h 3 rfl (by decide) (fun _ => rfl) ?_
  clear h; intro t1 h
  refine r_goto (tgt := 2) hX dX8_joined_49 (by decide) ?_
  refine r_sub [1, 2, 3, 0] rfl ?_
  exact hk2 _ _ _ _ _ h
def X8_joined_2B (G : kdS) (k2 : Nat → Int32 → Int32 → Int32 → kdM → Option (Int32 × kdM)) (l0 : Nat) (l1 : Int32) (l2 : Int32) (l3 : Int32) : kdM → Option (Int32 × kdM) :=
  gR G 8 5 l0 fun t1 =>
  kcv G 6 t1 (X6_size G t1) fun t2 =>
  cnd (t2 ≤ l3)
    (rt (0 : Int32))
    (gR G 8 3 l0 fun t3 =>
    kcv G 6 t3 (X6_at G t3 l3) fun t4 =>
    cnd (t4 = l1)
      (gR G 8 4 l0 fun t5 =>
      kcv G 6 t5 (X6_at G t5 l3) fun t6 =>
      cnd (t6 = l2)
        (gR G 8 5 l0 fun t7 =>
        kcv G 6 t7 (X6_at G t7 l3) fun t8 =>
        rt t8)
        (X8_joined_46 G k2 l0 l1 l2 l3))
      (X8_joined_46 G k2 l0 l1 l2 l3))
set_option maxRecDepth 100000 in
set_option maxHeartbeats 4000000 in
theorem wX8_joined_2B {E : kdE} {G : kdS} {A : kdA} {r : Int32} {σ1 : kdM} (hX : kdX E A cX8_joined 4 RX8 (some .int) 1) (k2 : Nat → Int32 → Int32 → Int32 → kdM → Option (Int32 × kdM)) (hk2 : ∀ (l0 : Nat) (l1 : Int32) (l2 : Int32) (l3 : Int32) (σ : kdM), k2 l0 l1 l2 l3 σ = some (r, σ1) → SW E G (.inl (some (.int r), σ1)) A 4 σ 2 [(0, kr E l0), (1, .int l1), (2, .int l2), (3, .int l3)] []) {σ : kdM} {l0 : Nat} {l1 : Int32} {l2 : Int32} {l3 : Int32} (h : X8_joined_2B G k2 l0 l1 l2 l3 σ = some (r, σ1)) : SW E G (.inl (some (.int r), σ1)) A 4 σ 2 [(0, kr E l0), (1, .int l1), (2, .int l2), (3, .int l3)] [] := by
  unfold X8_joined_2B at h
  refine r_iload_n hX dX8_joined_2 rfl 3 rfl ?_
  refine r_aload_n hX dX8_joined_3 rfl 0 rfl ?_
  refine r_gR hX dX8_joined_4 kf_X8_30 rfl h ?_
  clear h; intro t1 h
  refine r_cVi (As := []) (st := [.int l3]) hX dX8_joined_7 kl_X6_size w_ml_X8_44 w_im_X6_size w_se_X6_size ⟨_, _, rfl⟩ (by decide) rfl (Nat.le_of_ble_eq_true rfl) rfl kdz0 h (fun r σ1 h => wX6_size h) ?_
  clear h; intro t2 σ h
  refine r_icmp_ge (tgt := 52) hX dX8_joined_10 (by decide) h ?_ ?_
  · clear h; intro h
    refine r_iconst hX dX8_joined_52 kk_i_0 ?_
    exact r_iret hX dX8_joined_53 h
  · clear h; intro h
    refine r_aload_n hX dX8_joined_13 rfl 0 rfl ?_
    refine r_gR hX dX8_joined_14 kf_X8_23 rfl h ?_
    clear h; intro t3 h
    refine r_iload_n hX dX8_joined_17 rfl 3 rfl ?_
    refine r_cVi (As := [.int l3]) (st := []) hX dX8_joined_18 kl_X6_at w_ml_X8_62 w_im_X6_at w_se_X6_at ⟨_, _, rfl⟩ (by decide) rfl (Nat.le_of_ble_eq_true rfl) rfl kdz0 h (fun r σ1 h => wX6_at h) ?_
    clear h; intro t4 σ h
    refine r_iload_n hX dX8_joined_21 rfl 1 rfl ?_
    refine r_icmp_ne (tgt := 46) hX dX8_joined_22 (by decide) h ?_ ?_
    · clear h; intro h
      refine r_aload_n hX dX8_joined_25 rfl 0 rfl ?_
      refine r_gR hX dX8_joined_26 kf_X8_27 rfl h ?_
      clear h; intro t5 h
      refine r_iload_n hX dX8_joined_29 rfl 3 rfl ?_
      refine r_cVi (As := [.int l3]) (st := []) hX dX8_joined_30 kl_X6_at w_ml_X8_62 w_im_X6_at w_se_X6_at ⟨_, _, rfl⟩ (by decide) rfl (Nat.le_of_ble_eq_true rfl) rfl kdz0 h (fun r σ1 h => wX6_at h) ?_
      clear h; intro t6 σ h
      refine r_iload_n hX dX8_joined_33 rfl 2 rfl ?_
      refine r_icmp_ne (tgt := 46) hX dX8_joined_34 (by decide) h ?_ ?_
      · clear h; intro h
        refine r_aload_n hX dX8_joined_37 rfl 0 rfl ?_
        refine r_gR hX dX8_joined_38 kf_X8_30 rfl h ?_
        clear h; intro t7 h
        refine r_iload_n hX dX8_joined_41 rfl 3 rfl ?_
        refine r_cVi (As := [.int l3]) (st := []) hX dX8_joined_42 kl_X6_at w_ml_X8_62 w_im_X6_at w_se_X6_at ⟨_, _, rfl⟩ (by decide) rfl (Nat.le_of_ble_eq_true rfl) rfl kdz0 h (fun r σ1 h => wX6_at h) ?_
        clear h; intro t8 σ h
        exact r_iret hX dX8_joined_45 h
      · clear h; intro h
        refine r_sub [0, 1, 2, 3] rfl ?_
        exact wX8_joined_46 hX k2 hk2 h
    · clear h; intro h
      refine r_sub [0, 1, 2, 3] rfl ?_
      exact wX8_joined_46 hX k2 hk2 h
def X8_joined_2 (G : kdS) : Nat → Int32 → Int32 → Int32 → kdM → Option (Int32 × kdM) := lp (fun _ _ _ _ _ => none) (X8_joined_2B G) NN
theorem wX8_joined_2 {E : kdE} {G : kdS} {A : kdA} {r : Int32} {σ1 : kdM} (hX : kdX E A cX8_joined 4 RX8 (some .int) 1) : ∀ (l0 : Nat) (l1 : Int32) (l2 : Int32) (l3 : Int32) (σ : kdM), X8_joined_2 G l0 l1 l2 l3 σ = some (r, σ1) → SW E G (.inl (some (.int r), σ1)) A 4 σ 2 [(0, kr E l0), (1, .int l1), (2, .int l2), (3, .int l3)] [] :=
  lp_ind (Q := fun f => ∀ (l0 : Nat) (l1 : Int32) (l2 : Int32) (l3 : Int32) (σ : kdM), f l0 l1 l2 l3 σ = some (r, σ1) → SW E G (.inl (some (.int r), σ1)) A 4 σ 2 [(0, kr E l0), (1, .int l1), (2, .int l2), (3, .int l3)] []) (by intros; contradiction) (fun k hk l0 l1 l2 l3 σ h => wX8_joined_2B hX k hk h) NN
def X8_joined (G : kdS) (l0 : Nat) (l1 : Int32) (l2 : Int32) : kdM → Option (Int32 × kdM) :=
  X8_joined_2 G l0 l1 l2 (0 : Int32)
set_option maxRecDepth 100000 in
set_option maxHeartbeats 4000000 in
theorem wX8_joined {E : kdE} {G : kdS} {l0 : Nat} {l1 : Int32} {l2 : Int32} {σ : kdM} {r : Int32} {σ1 : kdM} (h : X8_joined G l0 l1 l2 σ = some (r, σ1)) : Con E G yX8_joined cX8_joined 4 (some .int) 1 [kr E l0, .int l1, .int l2] σ (some (.int r), σ1) := by
  refine kd_head (own := RX8) rfl (by decide +kernel) (Nat.le_of_ble_eq_true rfl) (fun A hX => ?_)
  show SW E G (.inl (some (.int r), σ1)) A 4 σ 0 [(0, kr E l0), (1, .int l1), (2, .int l2)] []
  unfold X8_joined at h
  refine r_iconst hX dX8_joined_0 kk_i_0 ?_
  refine r_istore_n (L2 := [(3, .int (0 : Int32)), (0, kr E l0), (1, .int l1), (2, .int l2)]) hX dX8_joined_1 rfl (by decide) rfl ?_
  refine r_sub [1, 2, 3, 0] rfl ?_
  exact wX8_joined_2 hX _ _ _ _ _ h
def X8_longestRule_61 (G : kdS) (k8 : Nat → Nat → Int32 → Int32 → Int32 → Int32 → kdM → Option (Int32 × kdM)) (l0 : Nat) (l1 : Nat) (l2 : Int32) (l3 : Int32) (l4 : Int32) (l5 : Int32) : kdM → Option (Int32 × kdM) :=
  ltI (l5 + Int32.ofInt 1) fun t1 =>
  k8 l0 l1 l2 l3 l4 t1
set_option maxRecDepth 100000 in
set_option maxHeartbeats 4000000 in
theorem wX8_longestRule_61 {E : kdE} {G : kdS} {A : kdA} {r : Int32} {σ1 : kdM} (hX : kdX E A cX8_longestRule 7 RX8 (some .int) 1) (k8 : Nat → Nat → Int32 → Int32 → Int32 → Int32 → kdM → Option (Int32 × kdM)) (hk8 : ∀ (l0 : Nat) (l1 : Nat) (l2 : Int32) (l3 : Int32) (l4 : Int32) (l5 : Int32) (σ : kdM), k8 l0 l1 l2 l3 l4 l5 σ = some (r, σ1) → SW E G (.inl (some (.int r), σ1)) A 7 σ 8 [(0, kr E l0), (1, kr E l1), (2, .int l2), (3, .int l3), (4, .int l4), (5, .int l5)] []) {σ : kdM} {l0 : Nat} {l1 : Nat} {l2 : Int32} {l3 : Int32} {l4 : Int32} {l5 : Int32} (h : X8_longestRule_61 G k8 l0 l1 l2 l3 l4 l5 σ = some (r, σ1)) : SW E G (.inl (some (.int r), σ1)) A 7 σ 61 [(0, kr E l0), (1, kr E l1), (2, .int l2), (3, .int l3), (4, .int l4), (5, .int l5)] [] := by
  unfold X8_longestRule_61 at h
  refine r_iincL (L2 := fun t1 => [(5, .int t1), (0, kr E l0), (1, kr E l1), (2, .int l2), (3, .int l3), (4, .int l4)]) hX dX8_longestRule_61 h 5 rfl (by decide) (fun _ => rfl) ?_
  clear h; intro t1 h
  refine r_goto (tgt := 8) hX dX8_longestRule_64 (by decide) ?_
  refine r_sub [1, 2, 3, 4, 5, 0] rfl ?_
  exact hk8 _ _ _ _ _ _ _ h
def X8_longestRule_8B (G : kdS) (k8 : Nat → Nat → Int32 → Int32 → Int32 → Int32 → kdM → Option (Int32 × kdM)) (l0 : Nat) (l1 : Nat) (l2 : Int32) (l3 : Int32) (l4 : Int32) (l5 : Int32) : kdM → Option (Int32 × kdM) :=
  gI G 8 2 l0 fun t1 =>
  cnd (t1 ≤ l5)
    (rt l3)
    (gR G 8 0 l0 fun t2 =>
    aR G 16 t2 (l5) fun t3 =>
    kcv G 6 t3 (X6_size G t3) fun t4 =>
    cnd (t4 ≤ l4)
      (X8_longestRule_61 G k8 l0 l1 l2 l3 l4 l5)
      (kcv G 6 t3 (X6_size G t3) fun t5 =>
      kcv G 6 t3 (X6_agrees G t3 l1 l2 t5) fun t6 =>
      cnd (t6 = 0)
        (X8_longestRule_61 G k8 l0 l1 l2 l3 l4 l5)
        (kcv G 6 t3 (X6_size G t3) fun t7 =>
        X8_longestRule_61 G k8 l0 l1 l2 l5 t7 l5)))
set_option maxRecDepth 100000 in
set_option maxHeartbeats 4000000 in
theorem wX8_longestRule_8B {E : kdE} {G : kdS} {A : kdA} {r : Int32} {σ1 : kdM} (hX : kdX E A cX8_longestRule 7 RX8 (some .int) 1) (k8 : Nat → Nat → Int32 → Int32 → Int32 → Int32 → kdM → Option (Int32 × kdM)) (hk8 : ∀ (l0 : Nat) (l1 : Nat) (l2 : Int32) (l3 : Int32) (l4 : Int32) (l5 : Int32) (σ : kdM), k8 l0 l1 l2 l3 l4 l5 σ = some (r, σ1) → SW E G (.inl (some (.int r), σ1)) A 7 σ 8 [(0, kr E l0), (1, kr E l1), (2, .int l2), (3, .int l3), (4, .int l4), (5, .int l5)] []) {σ : kdM} {l0 : Nat} {l1 : Nat} {l2 : Int32} {l3 : Int32} {l4 : Int32} {l5 : Int32} (h : X8_longestRule_8B G k8 l0 l1 l2 l3 l4 l5 σ = some (r, σ1)) : SW E G (.inl (some (.int r), σ1)) A 7 σ 8 [(0, kr E l0), (1, kr E l1), (2, .int l2), (3, .int l3), (4, .int l4), (5, .int l5)] [] := by
  unfold X8_longestRule_8B at h
  refine r_iload hX dX8_longestRule_8 5 rfl ?_
  refine r_aload_n hX dX8_longestRule_10 rfl 0 rfl ?_
  refine r_gI hX dX8_longestRule_11 kf_X8_40 rfl h ?_
  clear h; intro t1 h
  refine r_icmp_ge (tgt := 67) hX dX8_longestRule_14 (by decide) h ?_ ?_
  · clear h; intro h
    refine r_iload_n hX dX8_longestRule_67 rfl 3 rfl ?_
    exact r_iret hX dX8_longestRule_68 h
  · clear h; intro h
    refine r_aload_n hX dX8_longestRule_17 rfl 0 rfl ?_
    refine r_gR hX dX8_longestRule_18 kf_X8_11 rfl h ?_
    clear h; intro t2 h
    refine r_iload hX dX8_longestRule_21 5 rfl ?_
    refine r_aR16 hX dX8_longestRule_23 h ?_
    clear h; intro t3 h
    refine r_astore (L2 := [(6, kr E t3), (0, kr E l0), (1, kr E l1), (2, .int l2), (3, .int l3), (4, .int l4), (5, .int l5)]) hX dX8_longestRule_24 (by decide) rfl ?_
    refine r_aload hX dX8_longestRule_26 0 rfl ?_
    refine r_cVi (As := []) (st := []) hX dX8_longestRule_28 kl_X6_size w_ml_X8_44 w_im_X6_size w_se_X6_size ⟨_, _, rfl⟩ (by decide) rfl (Nat.le_of_ble_eq_true rfl) rfl kdz0 h (fun r σ1 h => wX6_size h) ?_
    clear h; intro t4 σ h
    refine r_iload hX dX8_longestRule_31 5 rfl ?_
    refine r_icmp_le (tgt := 61) hX dX8_longestRule_33 (by decide) h ?_ ?_
    · clear h; intro h
      refine r_sub [1, 2, 3, 4, 5, 6] rfl ?_
      exact wX8_longestRule_61 hX k8 hk8 h
    · clear h; intro h
      refine r_aload hX dX8_longestRule_36 0 rfl ?_
      refine r_aload_n hX dX8_longestRule_38 rfl 2 rfl ?_
      refine r_iload_n hX dX8_longestRule_39 rfl 3 rfl ?_
      refine r_aload hX dX8_longestRule_40 0 rfl ?_
      refine r_cVi (As := []) (st := [.int l2, kr E l1, kr E t3]) hX dX8_longestRule_42 kl_X6_size w_ml_X8_44 w_im_X6_size w_se_X6_size ⟨_, _, rfl⟩ (by decide) rfl (Nat.le_of_ble_eq_true rfl) rfl kdz0 h (fun r σ1 h => wX6_size h) ?_
      clear h; intro t5 σ h
      refine r_cVi (As := [kr E l1, .int l2, .int t5]) (st := []) hX dX8_longestRule_45 kl_X6_agrees w_ml_X8_66 w_im_X6_agrees w_se_X6_agrees ⟨_, _, rfl⟩ (by decide) rfl (Nat.le_of_ble_eq_true rfl) rfl kdz0 h (fun r σ1 h => wX6_agrees h) ?_
      clear h; intro t6 σ h
      refine r_if_eq (tgt := 61) hX dX8_longestRule_48 (by decide) h ?_ ?_
      · clear h; intro h
        refine r_sub [1, 2, 3, 4, 5, 6] rfl ?_
        exact wX8_longestRule_61 hX k8 hk8 h
      · clear h; intro h
        refine r_aload hX dX8_longestRule_51 0 rfl ?_
        refine r_cVi (As := []) (st := []) hX dX8_longestRule_53 kl_X6_size w_ml_X8_44 w_im_X6_size w_se_X6_size ⟨_, _, rfl⟩ (by decide) rfl (Nat.le_of_ble_eq_true rfl) rfl kdz0 h (fun r σ1 h => wX6_size h) ?_
        clear h; intro t7 σ h
        refine r_istore (L2 := [(4, .int t7), (6, kr E t3), (0, kr E l0), (1, kr E l1), (2, .int l2), (3, .int l3), (5, .int l5)]) hX dX8_longestRule_56 (by decide) rfl ?_
        refine r_iload hX dX8_longestRule_58 6 rfl ?_
        refine r_istore_n (L2 := [(3, .int l5), (4, .int t7), (6, kr E t3), (0, kr E l0), (1, kr E l1), (2, .int l2), (5, .int l5)]) hX dX8_longestRule_60 rfl (by decide) rfl ?_
        refine r_sub [3, 4, 5, 0, 1, 6] rfl ?_
        exact wX8_longestRule_61 hX k8 hk8 h
def X8_longestRule_8 (G : kdS) : Nat → Nat → Int32 → Int32 → Int32 → Int32 → kdM → Option (Int32 × kdM) := lp (fun _ _ _ _ _ _ _ => none) (X8_longestRule_8B G) NN
theorem wX8_longestRule_8 {E : kdE} {G : kdS} {A : kdA} {r : Int32} {σ1 : kdM} (hX : kdX E A cX8_longestRule 7 RX8 (some .int) 1) : ∀ (l0 : Nat) (l1 : Nat) (l2 : Int32) (l3 : Int32) (l4 : Int32) (l5 : Int32) (σ : kdM), X8_longestRule_8 G l0 l1 l2 l3 l4 l5 σ = some (r, σ1) → SW E G (.inl (some (.int r), σ1)) A 7 σ 8 [(0, kr E l0), (1, kr E l1), (2, .int l2), (3, .int l3), (4, .int l4), (5, .int l5)] [] :=
  lp_ind (Q := fun f => ∀ (l0 : Nat) (l1 : Nat) (l2 : Int32) (l3 : Int32) (l4 : Int32) (l5 : Int32) (σ : kdM), f l0 l1 l2 l3 l4 l5 σ = some (r, σ1) → SW E G (.inl (some (.int r), σ1)) A 7 σ 8 [(0, kr E l0), (1, kr E l1), (2, .int l2), (3, .int l3), (4, .int l4), (5, .int l5)] []) (by intros; contradiction) (fun k hk l0 l1 l2 l3 l4 l5 σ h => wX8_longestRule_8B hX k hk h) NN
def X8_longestRule (G : kdS) (l0 : Nat) (l1 : Nat) (l2 : Int32) : kdM → Option (Int32 × kdM) :=
  X8_longestRule_8 G l0 l1 l2 (-1 : Int32) (0 : Int32) (0 : Int32)
set_option maxRecDepth 100000 in
set_option maxHeartbeats 4000000 in
theorem wX8_longestRule {E : kdE} {G : kdS} {l0 : Nat} {l1 : Nat} {l2 : Int32} {σ : kdM} {r : Int32} {σ1 : kdM} (h : X8_longestRule G l0 l1 l2 σ = some (r, σ1)) : Con E G yX8_longestRule cX8_longestRule 7 (some .int) 1 [kr E l0, kr E l1, .int l2] σ (some (.int r), σ1) := by
  refine kd_head (own := RX8) rfl (by decide +kernel) (Nat.le_of_ble_eq_true rfl) (fun A hX => ?_)
  show SW E G (.inl (some (.int r), σ1)) A 7 σ 0 [(0, kr E l0), (1, kr E l1), (2, .int l2)] []
  unfold X8_longestRule at h
  refine r_iconst hX dX8_longestRule_0 kk_i_m1 ?_
  refine r_istore_n (L2 := [(3, .int (-1 : Int32)), (0, kr E l0), (1, kr E l1), (2, .int l2)]) hX dX8_longestRule_1 rfl (by decide) rfl ?_
  refine r_iconst hX dX8_longestRule_2 kk_i_0 ?_
  refine r_istore (L2 := [(4, .int (0 : Int32)), (3, .int (-1 : Int32)), (0, kr E l0), (1, kr E l1), (2, .int l2)]) hX dX8_longestRule_3 (by decide) rfl ?_
  refine r_iconst hX dX8_longestRule_5 kk_i_0 ?_
  refine r_istore (L2 := [(5, .int (0 : Int32)), (4, .int (0 : Int32)), (3, .int (-1 : Int32)), (0, kr E l0), (1, kr E l1), (2, .int l2)]) hX dX8_longestRule_6 (by decide) rfl ?_
  refine r_sub [3, 4, 5, 2, 1, 0] rfl ?_
  exact wX8_longestRule_8 hX _ _ _ _ _ _ _ h
def X8_keysBehind_64 (G : kdS) (k13 : Nat → Nat → Int32 → Int32 → Int32 → Int32 → kdM → Option (Int32 × kdM)) (l0 : Nat) (l1 : Nat) (l2 : Int32) (l3 : Int32) (l4 : Int32) (l5 : Int32) : kdM → Option (Int32 × kdM) :=
  ltI (l5 + Int32.ofInt 1) fun t1 =>
  k13 l0 l1 l2 l3 l4 t1
set_option maxRecDepth 100000 in
set_option maxHeartbeats 4000000 in
theorem wX8_keysBehind_64 {E : kdE} {G : kdS} {A : kdA} {r : Int32} {σ1 : kdM} (hX : kdX E A cX8_keysBehind 7 RX8 (some .int) 1) (k13 : Nat → Nat → Int32 → Int32 → Int32 → Int32 → kdM → Option (Int32 × kdM)) (hk13 : ∀ (l0 : Nat) (l1 : Nat) (l2 : Int32) (l3 : Int32) (l4 : Int32) (l5 : Int32) (σ : kdM), k13 l0 l1 l2 l3 l4 l5 σ = some (r, σ1) → SW E G (.inl (some (.int r), σ1)) A 7 σ 13 [(0, kr E l0), (1, kr E l1), (2, .int l2), (3, .int l3), (4, .int l4), (5, .int l5)] []) {σ : kdM} {l0 : Nat} {l1 : Nat} {l2 : Int32} {l3 : Int32} {l4 : Int32} {l5 : Int32} (h : X8_keysBehind_64 G k13 l0 l1 l2 l3 l4 l5 σ = some (r, σ1)) : SW E G (.inl (some (.int r), σ1)) A 7 σ 64 [(0, kr E l0), (1, kr E l1), (2, .int l2), (3, .int l3), (4, .int l4), (5, .int l5)] [] := by
  unfold X8_keysBehind_64 at h
  refine r_iincL (L2 := fun t1 => [(5, .int t1), (0, kr E l0), (1, kr E l1), (2, .int l2), (3, .int l3), (4, .int l4)]) hX dX8_keysBehind_64 h 5 rfl (by decide) (fun _ => rfl) ?_
  clear h; intro t1 h
  refine r_goto (tgt := 13) hX dX8_keysBehind_67 (by decide) ?_
  refine r_sub [1, 2, 3, 4, 5, 0] rfl ?_
  exact hk13 _ _ _ _ _ _ _ h
def X8_keysBehind_13B (G : kdS) (k13 : Nat → Nat → Int32 → Int32 → Int32 → Int32 → kdM → Option (Int32 × kdM)) (l0 : Nat) (l1 : Nat) (l2 : Int32) (l3 : Int32) (l4 : Int32) (l5 : Int32) : kdM → Option (Int32 × kdM) :=
  gI G 8 2 l0 fun t1 =>
  cnd (t1 ≤ l5)
    (rt l4)
    (gR G 8 0 l0 fun t2 =>
    aR G 16 t2 (l5) fun t3 =>
    kcv G 6 t3 (X6_has G t3 l3) fun t4 =>
    cnd (t4 = 0)
      (X8_keysBehind_64 G k13 l0 l1 l2 l3 l4 l5)
      (kcv G 6 t3 (X6_agrees G t3 l1 l2 l3) fun t5 =>
      cnd (t5 = 0)
        (X8_keysBehind_64 G k13 l0 l1 l2 l3 l4 l5)
        (kcv G 6 t3 (X6_at G t3 l3) fun t6 =>
        ltI ((l4 ||| ((1 : Int32) <<< (t6 &&& 31)))) fun t7 =>
        X8_keysBehind_64 G k13 l0 l1 l2 l3 t7 l5)))
set_option maxRecDepth 100000 in
set_option maxHeartbeats 4000000 in
theorem wX8_keysBehind_13B {E : kdE} {G : kdS} {A : kdA} {r : Int32} {σ1 : kdM} (hX : kdX E A cX8_keysBehind 7 RX8 (some .int) 1) (k13 : Nat → Nat → Int32 → Int32 → Int32 → Int32 → kdM → Option (Int32 × kdM)) (hk13 : ∀ (l0 : Nat) (l1 : Nat) (l2 : Int32) (l3 : Int32) (l4 : Int32) (l5 : Int32) (σ : kdM), k13 l0 l1 l2 l3 l4 l5 σ = some (r, σ1) → SW E G (.inl (some (.int r), σ1)) A 7 σ 13 [(0, kr E l0), (1, kr E l1), (2, .int l2), (3, .int l3), (4, .int l4), (5, .int l5)] []) {σ : kdM} {l0 : Nat} {l1 : Nat} {l2 : Int32} {l3 : Int32} {l4 : Int32} {l5 : Int32} (h : X8_keysBehind_13B G k13 l0 l1 l2 l3 l4 l5 σ = some (r, σ1)) : SW E G (.inl (some (.int r), σ1)) A 7 σ 13 [(0, kr E l0), (1, kr E l1), (2, .int l2), (3, .int l3), (4, .int l4), (5, .int l5)] [] := by
  unfold X8_keysBehind_13B at h
  refine r_iload hX dX8_keysBehind_13 5 rfl ?_
  refine r_aload_n hX dX8_keysBehind_15 rfl 0 rfl ?_
  refine r_gI hX dX8_keysBehind_16 kf_X8_40 rfl h ?_
  clear h; intro t1 h
  refine r_icmp_ge (tgt := 70) hX dX8_keysBehind_19 (by decide) h ?_ ?_
  · clear h; intro h
    refine r_iload hX dX8_keysBehind_70 4 rfl ?_
    exact r_iret hX dX8_keysBehind_72 h
  · clear h; intro h
    refine r_aload_n hX dX8_keysBehind_22 rfl 0 rfl ?_
    refine r_gR hX dX8_keysBehind_23 kf_X8_11 rfl h ?_
    clear h; intro t2 h
    refine r_iload hX dX8_keysBehind_26 5 rfl ?_
    refine r_aR16 hX dX8_keysBehind_28 h ?_
    clear h; intro t3 h
    refine r_astore (L2 := [(6, kr E t3), (0, kr E l0), (1, kr E l1), (2, .int l2), (3, .int l3), (4, .int l4), (5, .int l5)]) hX dX8_keysBehind_29 (by decide) rfl ?_
    refine r_aload hX dX8_keysBehind_31 0 rfl ?_
    refine r_iload_n hX dX8_keysBehind_33 rfl 4 rfl ?_
    refine r_cVi (As := [.int l3]) (st := []) hX dX8_keysBehind_34 kl_X6_has w_ml_X8_70 w_im_X6_has w_se_X6_has ⟨_, _, rfl⟩ (by decide) rfl (Nat.le_of_ble_eq_true rfl) rfl kdz0 h (fun r σ1 h => wX6_has h) ?_
    clear h; intro t4 σ h
    refine r_if_eq (tgt := 64) hX dX8_keysBehind_37 (by decide) h ?_ ?_
    · clear h; intro h
      refine r_sub [1, 2, 3, 4, 5, 6] rfl ?_
      exact wX8_keysBehind_64 hX k13 hk13 h
    · clear h; intro h
      refine r_aload hX dX8_keysBehind_40 0 rfl ?_
      refine r_aload_n hX dX8_keysBehind_42 rfl 2 rfl ?_
      refine r_iload_n hX dX8_keysBehind_43 rfl 3 rfl ?_
      refine r_iload_n hX dX8_keysBehind_44 rfl 4 rfl ?_
      refine r_cVi (As := [kr E l1, .int l2, .int l3]) (st := []) hX dX8_keysBehind_45 kl_X6_agrees w_ml_X8_66 w_im_X6_agrees w_se_X6_agrees ⟨_, _, rfl⟩ (by decide) rfl (Nat.le_of_ble_eq_true rfl) rfl kdz0 h (fun r σ1 h => wX6_agrees h) ?_
      clear h; intro t5 σ h
      refine r_if_eq (tgt := 64) hX dX8_keysBehind_48 (by decide) h ?_ ?_
      · clear h; intro h
        refine r_sub [1, 2, 3, 4, 5, 6] rfl ?_
        exact wX8_keysBehind_64 hX k13 hk13 h
      · clear h; intro h
        refine r_iload hX dX8_keysBehind_51 5 rfl ?_
        refine r_iconst hX dX8_keysBehind_53 kk_i_1 ?_
        refine r_aload hX dX8_keysBehind_54 0 rfl ?_
        refine r_iload_n hX dX8_keysBehind_56 rfl 4 rfl ?_
        refine r_cVi (As := [.int l3]) (st := [.int (1 : Int32), .int l4]) hX dX8_keysBehind_57 kl_X6_at w_ml_X8_62 w_im_X6_at w_se_X6_at ⟨_, _, rfl⟩ (by decide) rfl (Nat.le_of_ble_eq_true rfl) rfl kdz0 h (fun r σ1 h => wX6_at h) ?_
        clear h; intro t6 σ h
        refine r_ishl hX dX8_keysBehind_60 ?_
        refine r_ior hX dX8_keysBehind_61 ?_
        refine r_letI h ?_
        clear h; intro t7 h
        refine r_istore (L2 := [(4, .int t7), (6, kr E t3), (0, kr E l0), (1, kr E l1), (2, .int l2), (3, .int l3), (5, .int l5)]) hX dX8_keysBehind_62 (by decide) rfl ?_
        refine r_sub [2, 3, 4, 5, 0, 6] rfl ?_
        exact wX8_keysBehind_64 hX k13 hk13 h
def X8_keysBehind_13 (G : kdS) : Nat → Nat → Int32 → Int32 → Int32 → Int32 → kdM → Option (Int32 × kdM) := lp (fun _ _ _ _ _ _ _ => none) (X8_keysBehind_13B G) NN
theorem wX8_keysBehind_13 {E : kdE} {G : kdS} {A : kdA} {r : Int32} {σ1 : kdM} (hX : kdX E A cX8_keysBehind 7 RX8 (some .int) 1) : ∀ (l0 : Nat) (l1 : Nat) (l2 : Int32) (l3 : Int32) (l4 : Int32) (l5 : Int32) (σ : kdM), X8_keysBehind_13 G l0 l1 l2 l3 l4 l5 σ = some (r, σ1) → SW E G (.inl (some (.int r), σ1)) A 7 σ 13 [(0, kr E l0), (1, kr E l1), (2, .int l2), (3, .int l3), (4, .int l4), (5, .int l5)] [] :=
  lp_ind (Q := fun f => ∀ (l0 : Nat) (l1 : Nat) (l2 : Int32) (l3 : Int32) (l4 : Int32) (l5 : Int32) (σ : kdM), f l0 l1 l2 l3 l4 l5 σ = some (r, σ1) → SW E G (.inl (some (.int r), σ1)) A 7 σ 13 [(0, kr E l0), (1, kr E l1), (2, .int l2), (3, .int l3), (4, .int l4), (5, .int l5)] []) (by intros; contradiction) (fun k hk l0 l1 l2 l3 l4 l5 σ h => wX8_keysBehind_13B hX k hk h) NN
def X8_keysBehind (G : kdS) (l0 : Nat) (l1 : Nat) (l2 : Int32) : kdM → Option (Int32 × kdM) :=
  kcv G 6 l1 (X6_size G l1) fun t1 =>
  ltI ((t1 - l2)) fun t2 =>
  X8_keysBehind_13 G l0 l1 l2 t2 (0 : Int32) (0 : Int32)
set_option maxRecDepth 100000 in
set_option maxHeartbeats 4000000 in
theorem wX8_keysBehind {E : kdE} {G : kdS} {l0 : Nat} {l1 : Nat} {l2 : Int32} {σ : kdM} {r : Int32} {σ1 : kdM} (h : X8_keysBehind G l0 l1 l2 σ = some (r, σ1)) : Con E G yX8_keysBehind cX8_keysBehind 7 (some .int) 1 [kr E l0, kr E l1, .int l2] σ (some (.int r), σ1) := by
  refine kd_head (own := RX8) rfl (by decide +kernel) (Nat.le_of_ble_eq_true rfl) (fun A hX => ?_)
  show SW E G (.inl (some (.int r), σ1)) A 7 σ 0 [(0, kr E l0), (1, kr E l1), (2, .int l2)] []
  unfold X8_keysBehind at h
  refine r_aload_n hX dX8_keysBehind_0 rfl 1 rfl ?_
  refine r_cVi (As := []) (st := []) hX dX8_keysBehind_1 kl_X6_size w_ml_X8_44 w_im_X6_size w_se_X6_size ⟨_, _, rfl⟩ (by decide) rfl (Nat.le_of_ble_eq_true rfl) rfl kdz0 h (fun r σ1 h => wX6_size h) ?_
  clear h; intro t1 σ h
  refine r_iload_n hX dX8_keysBehind_4 rfl 2 rfl ?_
  refine r_isub hX dX8_keysBehind_5 ?_
  refine r_letI h ?_
  clear h; intro t2 h
  refine r_istore_n (L2 := [(3, .int t2), (0, kr E l0), (1, kr E l1), (2, .int l2)]) hX dX8_keysBehind_6 rfl (by decide) rfl ?_
  refine r_iconst hX dX8_keysBehind_7 kk_i_0 ?_
  refine r_istore (L2 := [(4, .int (0 : Int32)), (3, .int t2), (0, kr E l0), (1, kr E l1), (2, .int l2)]) hX dX8_keysBehind_8 (by decide) rfl ?_
  refine r_iconst hX dX8_keysBehind_10 kk_i_0 ?_
  refine r_istore (L2 := [(5, .int (0 : Int32)), (4, .int (0 : Int32)), (3, .int t2), (0, kr E l0), (1, kr E l1), (2, .int l2)]) hX dX8_keysBehind_11 (by decide) rfl ?_
  refine r_sub [3, 4, 5, 2, 1, 0] rfl ?_
  exact wX8_keysBehind_13 hX _ _ _ _ _ _ _ h
def X8_quarrelAt_80 (G : kdS) (k4 : Nat → Int32 → Int32 → Int32 → kdM → Option (Int32 × kdM)) (k17 : Nat → Int32 → Int32 → Int32 → Int32 → kdM → Option (Int32 × kdM)) (l0 : Nat) (l1 : Int32) (l2 : Int32) (l3 : Int32) (l4 : Int32) : kdM → Option (Int32 × kdM) :=
  ltI (l4 + Int32.ofInt 1) fun t1 =>
  k17 l0 l1 l2 l3 t1
set_option maxRecDepth 100000 in
set_option maxHeartbeats 4000000 in
theorem wX8_quarrelAt_80 {E : kdE} {G : kdS} {A : kdA} {r : Int32} {σ1 : kdM} (hX : kdX E A cX8_quarrelAt 5 RX8 (some .int) 2) (k4 : Nat → Int32 → Int32 → Int32 → kdM → Option (Int32 × kdM)) (k17 : Nat → Int32 → Int32 → Int32 → Int32 → kdM → Option (Int32 × kdM)) (hk4 : ∀ (l0 : Nat) (l1 : Int32) (l2 : Int32) (l3 : Int32) (σ : kdM), k4 l0 l1 l2 l3 σ = some (r, σ1) → SW E G (.inl (some (.int r), σ1)) A 5 σ 4 [(0, kr E l0), (1, .int l1), (2, .int l2), (3, .int l3)] []) (hk17 : ∀ (l0 : Nat) (l1 : Int32) (l2 : Int32) (l3 : Int32) (l4 : Int32) (σ : kdM), k17 l0 l1 l2 l3 l4 σ = some (r, σ1) → SW E G (.inl (some (.int r), σ1)) A 5 σ 17 [(0, kr E l0), (1, .int l1), (2, .int l2), (3, .int l3), (4, .int l4)] []) {σ : kdM} {l0 : Nat} {l1 : Int32} {l2 : Int32} {l3 : Int32} {l4 : Int32} (h : X8_quarrelAt_80 G k4 k17 l0 l1 l2 l3 l4 σ = some (r, σ1)) : SW E G (.inl (some (.int r), σ1)) A 5 σ 80 [(0, kr E l0), (1, .int l1), (2, .int l2), (3, .int l3), (4, .int l4)] [] := by
  unfold X8_quarrelAt_80 at h
  refine r_iincL (L2 := fun t1 => [(4, .int t1), (0, kr E l0), (1, .int l1), (2, .int l2), (3, .int l3)]) hX dX8_quarrelAt_80 h 4 rfl (by decide) (fun _ => rfl) ?_
  clear h; intro t1 h
  refine r_goto (tgt := 17) hX dX8_quarrelAt_83 (by decide) ?_
  refine r_sub [1, 2, 3, 4, 0] rfl ?_
  exact hk17 _ _ _ _ _ _ h
def X8_quarrelAt_17B (G : kdS) (k4 : Nat → Int32 → Int32 → Int32 → kdM → Option (Int32 × kdM)) (k17 : Nat → Int32 → Int32 → Int32 → Int32 → kdM → Option (Int32 × kdM)) (l0 : Nat) (l1 : Int32) (l2 : Int32) (l3 : Int32) (l4 : Int32) : kdM → Option (Int32 × kdM) :=
  gI G 8 2 l0 fun t1 =>
  cnd (t1 ≤ l4)
    (ltI (l3 + Int32.ofInt 1) fun t2 =>
    k4 l0 l1 l2 t2)
    (gR G 8 0 l0 fun t3 =>
    aR G 16 t3 (l3) fun t4 =>
    gR G 8 0 l0 fun t5 =>
    aR G 16 t5 (l4) fun t6 =>
    kcv G 6 t4 (X6_isLike G t4 t6) fun t7 =>
    cnd (t7 = 0)
      (X8_quarrelAt_80 G k4 k17 l0 l1 l2 l3 l4)
      (gR G 8 1 l0 fun t8 =>
      aR G 16 t8 (l3) fun t9 =>
      gR G 8 1 l0 fun t10 =>
      aR G 16 t10 (l4) fun t11 =>
      kcv G 6 t9 (X6_isLike G t9 t11) fun t12 =>
      cnd (t12 = 0)
        (cnd (l2 = l1)
          (rt (((100 : Int32) * l3) + l4))
          (ltI (l2 + Int32.ofInt 1) fun t13 =>
          X8_quarrelAt_80 G k4 k17 l0 l1 t13 l3 l4))
        (X8_quarrelAt_80 G k4 k17 l0 l1 l2 l3 l4)))
set_option maxRecDepth 100000 in
set_option maxHeartbeats 4000000 in
theorem wX8_quarrelAt_17B {E : kdE} {G : kdS} {A : kdA} {r : Int32} {σ1 : kdM} (hX : kdX E A cX8_quarrelAt 5 RX8 (some .int) 2) (k4 : Nat → Int32 → Int32 → Int32 → kdM → Option (Int32 × kdM)) (k17 : Nat → Int32 → Int32 → Int32 → Int32 → kdM → Option (Int32 × kdM)) (hk4 : ∀ (l0 : Nat) (l1 : Int32) (l2 : Int32) (l3 : Int32) (σ : kdM), k4 l0 l1 l2 l3 σ = some (r, σ1) → SW E G (.inl (some (.int r), σ1)) A 5 σ 4 [(0, kr E l0), (1, .int l1), (2, .int l2), (3, .int l3)] []) (hk17 : ∀ (l0 : Nat) (l1 : Int32) (l2 : Int32) (l3 : Int32) (l4 : Int32) (σ : kdM), k17 l0 l1 l2 l3 l4 σ = some (r, σ1) → SW E G (.inl (some (.int r), σ1)) A 5 σ 17 [(0, kr E l0), (1, .int l1), (2, .int l2), (3, .int l3), (4, .int l4)] []) {σ : kdM} {l0 : Nat} {l1 : Int32} {l2 : Int32} {l3 : Int32} {l4 : Int32} (h : X8_quarrelAt_17B G k4 k17 l0 l1 l2 l3 l4 σ = some (r, σ1)) : SW E G (.inl (some (.int r), σ1)) A 5 σ 17 [(0, kr E l0), (1, .int l1), (2, .int l2), (3, .int l3), (4, .int l4)] [] := by
  unfold X8_quarrelAt_17B at h
  refine r_iload hX dX8_quarrelAt_17 4 rfl ?_
  refine r_aload_n hX dX8_quarrelAt_19 rfl 0 rfl ?_
  refine r_gI hX dX8_quarrelAt_20 kf_X8_40 rfl h ?_
  clear h; intro t1 h
  refine r_icmp_ge (tgt := 86) hX dX8_quarrelAt_23 (by decide) h ?_ ?_
  · clear h; intro h
    refine r_iincL (L2 := fun t2 => [(3, .int t2), (0, kr E l0), (1, .int l1), (2, .int l2), (4, .int l4)]) hX dX8_quarrelAt_86 h 3 rfl (by decide) (fun _ => rfl) ?_
    clear h; intro t2 h
    refine r_goto (tgt := 4) hX dX8_quarrelAt_89 (by decide) ?_
    refine r_sub [1, 2, 3, 0] rfl ?_
    exact hk4 _ _ _ _ _ h
  · clear h; intro h
    refine r_aload_n hX dX8_quarrelAt_26 rfl 0 rfl ?_
    refine r_gR hX dX8_quarrelAt_27 kf_X8_11 rfl h ?_
    clear h; intro t3 h
    refine r_iload_n hX dX8_quarrelAt_30 rfl 3 rfl ?_
    refine r_aR16 hX dX8_quarrelAt_31 h ?_
    clear h; intro t4 h
    refine r_aload_n hX dX8_quarrelAt_32 rfl 0 rfl ?_
    refine r_gR hX dX8_quarrelAt_33 kf_X8_11 rfl h ?_
    clear h; intro t5 h
    refine r_iload hX dX8_quarrelAt_36 4 rfl ?_
    refine r_aR16 hX dX8_quarrelAt_38 h ?_
    clear h; intro t6 h
    refine r_cVi (As := [kr E t6]) (st := []) hX dX8_quarrelAt_39 kl_X6_isLike w_ml_X8_74 w_im_X6_isLike w_se_X6_isLike ⟨_, _, rfl⟩ (by decide) rfl (Nat.le_of_ble_eq_true rfl) rfl kdz0 h (fun r σ1 h => wX6_isLike h) ?_
    clear h; intro t7 σ h
    refine r_if_eq (tgt := 80) hX dX8_quarrelAt_42 (by decide) h ?_ ?_
    · clear h; intro h
      refine r_sub [0, 1, 2, 3, 4] rfl ?_
      exact wX8_quarrelAt_80 hX k4 k17 hk4 hk17 h
    · clear h; intro h
      refine r_aload_n hX dX8_quarrelAt_45 rfl 0 rfl ?_
      refine r_gR hX dX8_quarrelAt_46 kf_X8_17 rfl h ?_
      clear h; intro t8 h
      refine r_iload_n hX dX8_quarrelAt_49 rfl 3 rfl ?_
      refine r_aR16 hX dX8_quarrelAt_50 h ?_
      clear h; intro t9 h
      refine r_aload_n hX dX8_quarrelAt_51 rfl 0 rfl ?_
      refine r_gR hX dX8_quarrelAt_52 kf_X8_17 rfl h ?_
      clear h; intro t10 h
      refine r_iload hX dX8_quarrelAt_55 4 rfl ?_
      refine r_aR16 hX dX8_quarrelAt_57 h ?_
      clear h; intro t11 h
      refine r_cVi (As := [kr E t11]) (st := []) hX dX8_quarrelAt_58 kl_X6_isLike w_ml_X8_74 w_im_X6_isLike w_se_X6_isLike ⟨_, _, rfl⟩ (by decide) rfl (Nat.le_of_ble_eq_true rfl) rfl kdz0 h (fun r σ1 h => wX6_isLike h) ?_
      clear h; intro t12 σ h
      refine r_if_ne (tgt := 80) hX dX8_quarrelAt_61 (by decide) h ?_ ?_
      · clear h; intro h
        refine r_iload_n hX dX8_quarrelAt_64 rfl 2 rfl ?_
        refine r_iload_n hX dX8_quarrelAt_65 rfl 1 rfl ?_
        refine r_icmp_ne (tgt := 77) hX dX8_quarrelAt_66 (by decide) h ?_ ?_
        · clear h; intro h
          refine r_bipush hX dX8_quarrelAt_69 kk_b_100 ?_
          refine r_iload_n hX dX8_quarrelAt_71 rfl 3 rfl ?_
          refine r_imul hX dX8_quarrelAt_72 ?_
          refine r_iload hX dX8_quarrelAt_73 4 rfl ?_
          refine r_iadd hX dX8_quarrelAt_75 ?_
          exact r_iret hX dX8_quarrelAt_76 h
        · clear h; intro h
          refine r_iincL (L2 := fun t13 => [(2, .int t13), (0, kr E l0), (1, .int l1), (3, .int l3), (4, .int l4)]) hX dX8_quarrelAt_77 h 2 rfl (by decide) (fun _ => rfl) ?_
          clear h; intro t13 h
          refine r_sub [1, 2, 0, 3, 4] rfl ?_
          exact wX8_quarrelAt_80 hX k4 k17 hk4 hk17 h
      · clear h; intro h
        refine r_sub [0, 1, 2, 3, 4] rfl ?_
        exact wX8_quarrelAt_80 hX k4 k17 hk4 hk17 h
def X8_quarrelAt_17 (G : kdS) (k4 : Nat → Int32 → Int32 → Int32 → kdM → Option (Int32 × kdM)) : Nat → Int32 → Int32 → Int32 → Int32 → kdM → Option (Int32 × kdM) := lp (fun _ _ _ _ _ _ => none) (X8_quarrelAt_17B G k4) NN
theorem wX8_quarrelAt_17 {E : kdE} {G : kdS} {A : kdA} {r : Int32} {σ1 : kdM} (hX : kdX E A cX8_quarrelAt 5 RX8 (some .int) 2) (k4 : Nat → Int32 → Int32 → Int32 → kdM → Option (Int32 × kdM)) (hk4 : ∀ (l0 : Nat) (l1 : Int32) (l2 : Int32) (l3 : Int32) (σ : kdM), k4 l0 l1 l2 l3 σ = some (r, σ1) → SW E G (.inl (some (.int r), σ1)) A 5 σ 4 [(0, kr E l0), (1, .int l1), (2, .int l2), (3, .int l3)] []) : ∀ (l0 : Nat) (l1 : Int32) (l2 : Int32) (l3 : Int32) (l4 : Int32) (σ : kdM), X8_quarrelAt_17 G k4 l0 l1 l2 l3 l4 σ = some (r, σ1) → SW E G (.inl (some (.int r), σ1)) A 5 σ 17 [(0, kr E l0), (1, .int l1), (2, .int l2), (3, .int l3), (4, .int l4)] [] :=
  lp_ind (Q := fun f => ∀ (l0 : Nat) (l1 : Int32) (l2 : Int32) (l3 : Int32) (l4 : Int32) (σ : kdM), f l0 l1 l2 l3 l4 σ = some (r, σ1) → SW E G (.inl (some (.int r), σ1)) A 5 σ 17 [(0, kr E l0), (1, .int l1), (2, .int l2), (3, .int l3), (4, .int l4)] []) (by intros; contradiction) (fun k hk l0 l1 l2 l3 l4 σ h => wX8_quarrelAt_17B hX k4 k hk4 hk h) NN
def X8_quarrelAt_103 (G : kdS) (s0 : Int32) : kdM → Option (Int32 × kdM) :=
  rt s0
set_option maxRecDepth 100000 in
set_option maxHeartbeats 4000000 in
theorem wX8_quarrelAt_103 {E : kdE} {G : kdS} {A : kdA} {r : Int32} {σ1 : kdM} (hX : kdX E A cX8_quarrelAt 5 RX8 (some .int) 2) {σ : kdM} {s0 : Int32} (h : X8_quarrelAt_103 G s0 σ = some (r, σ1)) : SW E G (.inl (some (.int r), σ1)) A 5 σ 103 [] [.int s0] := by
  unfold X8_quarrelAt_103 at h
  exact r_iret hX dX8_quarrelAt_103 h
def X8_quarrelAt_4B (G : kdS) (k4 : Nat → Int32 → Int32 → Int32 → kdM → Option (Int32 × kdM)) (l0 : Nat) (l1 : Int32) (l2 : Int32) (l3 : Int32) : kdM → Option (Int32 × kdM) :=
  gI G 8 2 l0 fun t1 =>
  cnd (t1 ≤ l3)
    (cnd (l1 = (-1 : Int32))
      (X8_quarrelAt_103 G l2)
      (X8_quarrelAt_103 G (-6 : Int32)))
    (ltI ((l3 + (1 : Int32))) fun t2 =>
    X8_quarrelAt_17 G k4 l0 l1 l2 l3 t2)
set_option maxRecDepth 100000 in
set_option maxHeartbeats 4000000 in
theorem wX8_quarrelAt_4B {E : kdE} {G : kdS} {A : kdA} {r : Int32} {σ1 : kdM} (hX : kdX E A cX8_quarrelAt 5 RX8 (some .int) 2) (k4 : Nat → Int32 → Int32 → Int32 → kdM → Option (Int32 × kdM)) (hk4 : ∀ (l0 : Nat) (l1 : Int32) (l2 : Int32) (l3 : Int32) (σ : kdM), k4 l0 l1 l2 l3 σ = some (r, σ1) → SW E G (.inl (some (.int r), σ1)) A 5 σ 4 [(0, kr E l0), (1, .int l1), (2, .int l2), (3, .int l3)] []) {σ : kdM} {l0 : Nat} {l1 : Int32} {l2 : Int32} {l3 : Int32} (h : X8_quarrelAt_4B G k4 l0 l1 l2 l3 σ = some (r, σ1)) : SW E G (.inl (some (.int r), σ1)) A 5 σ 4 [(0, kr E l0), (1, .int l1), (2, .int l2), (3, .int l3)] [] := by
  unfold X8_quarrelAt_4B at h
  refine r_iload_n hX dX8_quarrelAt_4 rfl 3 rfl ?_
  refine r_aload_n hX dX8_quarrelAt_5 rfl 0 rfl ?_
  refine r_gI hX dX8_quarrelAt_6 kf_X8_40 rfl h ?_
  clear h; intro t1 h
  refine r_icmp_ge (tgt := 92) hX dX8_quarrelAt_9 (by decide) h ?_ ?_
  · clear h; intro h
    refine r_iload_n hX dX8_quarrelAt_92 rfl 1 rfl ?_
    refine r_iconst hX dX8_quarrelAt_93 kk_i_m1 ?_
    refine r_icmp_ne (tgt := 101) hX dX8_quarrelAt_94 (by decide) h ?_ ?_
    · clear h; intro h
      refine r_iload_n hX dX8_quarrelAt_97 rfl 2 rfl ?_
      refine r_goto (tgt := 103) hX dX8_quarrelAt_98 (by decide) ?_
      refine r_sub [] rfl ?_
      exact wX8_quarrelAt_103 hX h
    · clear h; intro h
      refine r_bipush hX dX8_quarrelAt_101 kk_b_m6 ?_
      refine r_sub [] rfl ?_
      exact wX8_quarrelAt_103 hX h
  · clear h; intro h
    refine r_iload_n hX dX8_quarrelAt_12 rfl 3 rfl ?_
    refine r_iconst hX dX8_quarrelAt_13 kk_i_1 ?_
    refine r_iadd hX dX8_quarrelAt_14 ?_
    refine r_letI h ?_
    clear h; intro t2 h
    refine r_istore (L2 := [(4, .int t2), (0, kr E l0), (1, .int l1), (2, .int l2), (3, .int l3)]) hX dX8_quarrelAt_15 (by decide) rfl ?_
    refine r_sub [1, 2, 3, 4, 0] rfl ?_
    exact wX8_quarrelAt_17 hX k4 hk4 _ _ _ _ _ _ h
def X8_quarrelAt_4 (G : kdS) : Nat → Int32 → Int32 → Int32 → kdM → Option (Int32 × kdM) := lp (fun _ _ _ _ _ => none) (X8_quarrelAt_4B G) NN
theorem wX8_quarrelAt_4 {E : kdE} {G : kdS} {A : kdA} {r : Int32} {σ1 : kdM} (hX : kdX E A cX8_quarrelAt 5 RX8 (some .int) 2) : ∀ (l0 : Nat) (l1 : Int32) (l2 : Int32) (l3 : Int32) (σ : kdM), X8_quarrelAt_4 G l0 l1 l2 l3 σ = some (r, σ1) → SW E G (.inl (some (.int r), σ1)) A 5 σ 4 [(0, kr E l0), (1, .int l1), (2, .int l2), (3, .int l3)] [] :=
  lp_ind (Q := fun f => ∀ (l0 : Nat) (l1 : Int32) (l2 : Int32) (l3 : Int32) (σ : kdM), f l0 l1 l2 l3 σ = some (r, σ1) → SW E G (.inl (some (.int r), σ1)) A 5 σ 4 [(0, kr E l0), (1, .int l1), (2, .int l2), (3, .int l3)] []) (by intros; contradiction) (fun k hk l0 l1 l2 l3 σ h => wX8_quarrelAt_4B hX k hk h) NN
def X8_quarrelAt (G : kdS) (l0 : Nat) (l1 : Int32) : kdM → Option (Int32 × kdM) :=
  X8_quarrelAt_4 G l0 l1 (0 : Int32) (0 : Int32)
set_option maxRecDepth 100000 in
set_option maxHeartbeats 4000000 in
theorem wX8_quarrelAt {E : kdE} {G : kdS} {l0 : Nat} {l1 : Int32} {σ : kdM} {r : Int32} {σ1 : kdM} (h : X8_quarrelAt G l0 l1 σ = some (r, σ1)) : Con E G yX8_quarrelAt cX8_quarrelAt 5 (some .int) 2 [kr E l0, .int l1] σ (some (.int r), σ1) := by
  refine kd_head (own := RX8) rfl (by decide +kernel) (Nat.le_of_ble_eq_true rfl) (fun A hX => ?_)
  show SW E G (.inl (some (.int r), σ1)) A 5 σ 0 [(0, kr E l0), (1, .int l1)] []
  unfold X8_quarrelAt at h
  refine r_iconst hX dX8_quarrelAt_0 kk_i_0 ?_
  refine r_istore_n (L2 := [(2, .int (0 : Int32)), (0, kr E l0), (1, .int l1)]) hX dX8_quarrelAt_1 rfl (by decide) rfl ?_
  refine r_iconst hX dX8_quarrelAt_2 kk_i_0 ?_
  refine r_istore_n (L2 := [(3, .int (0 : Int32)), (2, .int (0 : Int32)), (0, kr E l0), (1, .int l1)]) hX dX8_quarrelAt_3 rfl (by decide) rfl ?_
  refine r_sub [2, 3, 1, 0] rfl ?_
  exact wX8_quarrelAt_4 hX _ _ _ _ _ h
def X8_isIdle_2B (G : kdS) (k2 : Nat → Int32 → Int32 → kdM → Option (Int32 × kdM)) (l0 : Nat) (l1 : Int32) (l2 : Int32) : kdM → Option (Int32 × kdM) :=
  cnd (l1 ≤ l2)
    (rt (vp_nar .boolean (0 : Int32)))
    (gR G 8 0 l0 fun t1 =>
    aR G 16 t1 (l2) fun t2 =>
    gR G 8 0 l0 fun t3 =>
    aR G 16 t3 (l1) fun t4 =>
    kcv G 6 t2 (X6_isLike G t2 t4) fun t5 =>
    cnd (t5 = 0)
      (ltI (l2 + Int32.ofInt 1) fun t6 =>
      k2 l0 l1 t6)
      (rt (vp_nar .boolean (1 : Int32))))
set_option maxRecDepth 100000 in
set_option maxHeartbeats 4000000 in
theorem wX8_isIdle_2B {E : kdE} {G : kdS} {A : kdA} {r : Int32} {σ1 : kdM} (hX : kdX E A cX8_isIdle 3 RX8 (some .boolean) 2) (k2 : Nat → Int32 → Int32 → kdM → Option (Int32 × kdM)) (hk2 : ∀ (l0 : Nat) (l1 : Int32) (l2 : Int32) (σ : kdM), k2 l0 l1 l2 σ = some (r, σ1) → SW E G (.inl (some (.int r), σ1)) A 3 σ 2 [(0, kr E l0), (1, .int l1), (2, .int l2)] []) {σ : kdM} {l0 : Nat} {l1 : Int32} {l2 : Int32} (h : X8_isIdle_2B G k2 l0 l1 l2 σ = some (r, σ1)) : SW E G (.inl (some (.int r), σ1)) A 3 σ 2 [(0, kr E l0), (1, .int l1), (2, .int l2)] [] := by
  unfold X8_isIdle_2B at h
  refine r_iload_n hX dX8_isIdle_2 rfl 2 rfl ?_
  refine r_iload_n hX dX8_isIdle_3 rfl 1 rfl ?_
  refine r_icmp_ge (tgt := 33) hX dX8_isIdle_4 (by decide) h ?_ ?_
  · clear h; intro h
    refine r_iconst hX dX8_isIdle_33 kk_i_0 ?_
    exact r_zret hX dX8_isIdle_34 h
  · clear h; intro h
    refine r_aload_n hX dX8_isIdle_7 rfl 0 rfl ?_
    refine r_gR hX dX8_isIdle_8 kf_X8_11 rfl h ?_
    clear h; intro t1 h
    refine r_iload_n hX dX8_isIdle_11 rfl 2 rfl ?_
    refine r_aR16 hX dX8_isIdle_12 h ?_
    clear h; intro t2 h
    refine r_aload_n hX dX8_isIdle_13 rfl 0 rfl ?_
    refine r_gR hX dX8_isIdle_14 kf_X8_11 rfl h ?_
    clear h; intro t3 h
    refine r_iload_n hX dX8_isIdle_17 rfl 1 rfl ?_
    refine r_aR16 hX dX8_isIdle_18 h ?_
    clear h; intro t4 h
    refine r_cVi (As := [kr E t4]) (st := []) hX dX8_isIdle_19 kl_X6_isLike w_ml_X8_74 w_im_X6_isLike w_se_X6_isLike ⟨_, _, rfl⟩ (by decide) rfl (Nat.le_of_ble_eq_true rfl) rfl kdz0 h (fun r σ1 h => wX6_isLike h) ?_
    clear h; intro t5 σ h
    refine r_if_eq (tgt := 27) hX dX8_isIdle_22 (by decide) h ?_ ?_
    · clear h; intro h
      refine r_iincL (L2 := fun t6 => [(2, .int t6), (0, kr E l0), (1, .int l1)]) hX dX8_isIdle_27 h 2 rfl (by decide) (fun _ => rfl) ?_
      clear h; intro t6 h
      refine r_goto (tgt := 2) hX dX8_isIdle_30 (by decide) ?_
      refine r_sub [1, 2, 0] rfl ?_
      exact hk2 _ _ _ _ h
    · clear h; intro h
      refine r_iconst hX dX8_isIdle_25 kk_i_1 ?_
      exact r_zret hX dX8_isIdle_26 h
def X8_isIdle_2 (G : kdS) : Nat → Int32 → Int32 → kdM → Option (Int32 × kdM) := lp (fun _ _ _ _ => none) (X8_isIdle_2B G) NN
theorem wX8_isIdle_2 {E : kdE} {G : kdS} {A : kdA} {r : Int32} {σ1 : kdM} (hX : kdX E A cX8_isIdle 3 RX8 (some .boolean) 2) : ∀ (l0 : Nat) (l1 : Int32) (l2 : Int32) (σ : kdM), X8_isIdle_2 G l0 l1 l2 σ = some (r, σ1) → SW E G (.inl (some (.int r), σ1)) A 3 σ 2 [(0, kr E l0), (1, .int l1), (2, .int l2)] [] :=
  lp_ind (Q := fun f => ∀ (l0 : Nat) (l1 : Int32) (l2 : Int32) (σ : kdM), f l0 l1 l2 σ = some (r, σ1) → SW E G (.inl (some (.int r), σ1)) A 3 σ 2 [(0, kr E l0), (1, .int l1), (2, .int l2)] []) (by intros; contradiction) (fun k hk l0 l1 l2 σ h => wX8_isIdle_2B hX k hk h) NN
def X8_isIdle (G : kdS) (l0 : Nat) (l1 : Int32) : kdM → Option (Int32 × kdM) :=
  X8_isIdle_2 G l0 l1 (0 : Int32)
set_option maxRecDepth 100000 in
set_option maxHeartbeats 4000000 in
theorem wX8_isIdle {E : kdE} {G : kdS} {l0 : Nat} {l1 : Int32} {σ : kdM} {r : Int32} {σ1 : kdM} (h : X8_isIdle G l0 l1 σ = some (r, σ1)) : Con E G yX8_isIdle cX8_isIdle 3 (some .boolean) 2 [kr E l0, .int l1] σ (some (.int r), σ1) := by
  refine kd_head (own := RX8) rfl (by decide +kernel) (Nat.le_of_ble_eq_true rfl) (fun A hX => ?_)
  show SW E G (.inl (some (.int r), σ1)) A 3 σ 0 [(0, kr E l0), (1, .int l1)] []
  unfold X8_isIdle at h
  refine r_iconst hX dX8_isIdle_0 kk_i_0 ?_
  refine r_istore_n (L2 := [(2, .int (0 : Int32)), (0, kr E l0), (1, .int l1)]) hX dX8_isIdle_1 rfl (by decide) rfl ?_
  refine r_sub [1, 2, 0] rfl ?_
  exact wX8_isIdle_2 hX _ _ _ _ h
def X8_idleRules_26 (G : kdS) (k4 : Nat → Int32 → Int32 → kdM → Option (Int32 × kdM)) (l0 : Nat) (l1 : Int32) (l2 : Int32) : kdM → Option (Int32 × kdM) :=
  ltI (l2 + Int32.ofInt 1) fun t1 =>
  k4 l0 l1 t1
set_option maxRecDepth 100000 in
set_option maxHeartbeats 4000000 in
theorem wX8_idleRules_26 {E : kdE} {G : kdS} {A : kdA} {r : Int32} {σ1 : kdM} (hX : kdX E A cX8_idleRules 3 RX8 (some .int) 3) (k4 : Nat → Int32 → Int32 → kdM → Option (Int32 × kdM)) (hk4 : ∀ (l0 : Nat) (l1 : Int32) (l2 : Int32) (σ : kdM), k4 l0 l1 l2 σ = some (r, σ1) → SW E G (.inl (some (.int r), σ1)) A 3 σ 4 [(0, kr E l0), (1, .int l1), (2, .int l2)] []) {σ : kdM} {l0 : Nat} {l1 : Int32} {l2 : Int32} (h : X8_idleRules_26 G k4 l0 l1 l2 σ = some (r, σ1)) : SW E G (.inl (some (.int r), σ1)) A 3 σ 26 [(0, kr E l0), (1, .int l1), (2, .int l2)] [] := by
  unfold X8_idleRules_26 at h
  refine r_iincL (L2 := fun t1 => [(2, .int t1), (0, kr E l0), (1, .int l1)]) hX dX8_idleRules_26 h 2 rfl (by decide) (fun _ => rfl) ?_
  clear h; intro t1 h
  refine r_goto (tgt := 4) hX dX8_idleRules_29 (by decide) ?_
  refine r_sub [1, 2, 0] rfl ?_
  exact hk4 _ _ _ _ h
def X8_idleRules_4B (G : kdS) (k4 : Nat → Int32 → Int32 → kdM → Option (Int32 × kdM)) (l0 : Nat) (l1 : Int32) (l2 : Int32) : kdM → Option (Int32 × kdM) :=
  gI G 8 2 l0 fun t1 =>
  cnd (t1 ≤ l2)
    (rt l1)
    (kcv G 8 l0 (X8_isIdle G l0 l2) fun t2 =>
    cnd (t2 = 0)
      (X8_idleRules_26 G k4 l0 l1 l2)
      (ltI ((l1 ||| ((1 : Int32) <<< (l2 &&& 31)))) fun t3 =>
      X8_idleRules_26 G k4 l0 t3 l2))
set_option maxRecDepth 100000 in
set_option maxHeartbeats 4000000 in
theorem wX8_idleRules_4B {E : kdE} {G : kdS} {A : kdA} {r : Int32} {σ1 : kdM} (hX : kdX E A cX8_idleRules 3 RX8 (some .int) 3) (k4 : Nat → Int32 → Int32 → kdM → Option (Int32 × kdM)) (hk4 : ∀ (l0 : Nat) (l1 : Int32) (l2 : Int32) (σ : kdM), k4 l0 l1 l2 σ = some (r, σ1) → SW E G (.inl (some (.int r), σ1)) A 3 σ 4 [(0, kr E l0), (1, .int l1), (2, .int l2)] []) {σ : kdM} {l0 : Nat} {l1 : Int32} {l2 : Int32} (h : X8_idleRules_4B G k4 l0 l1 l2 σ = some (r, σ1)) : SW E G (.inl (some (.int r), σ1)) A 3 σ 4 [(0, kr E l0), (1, .int l1), (2, .int l2)] [] := by
  unfold X8_idleRules_4B at h
  refine r_iload_n hX dX8_idleRules_4 rfl 2 rfl ?_
  refine r_aload_n hX dX8_idleRules_5 rfl 0 rfl ?_
  refine r_gI hX dX8_idleRules_6 kf_X8_40 rfl h ?_
  clear h; intro t1 h
  refine r_icmp_ge (tgt := 32) hX dX8_idleRules_9 (by decide) h ?_ ?_
  · clear h; intro h
    refine r_iload_n hX dX8_idleRules_32 rfl 1 rfl ?_
    exact r_iret hX dX8_idleRules_33 h
  · clear h; intro h
    refine r_aload_n hX dX8_idleRules_12 rfl 0 rfl ?_
    refine r_iload_n hX dX8_idleRules_13 rfl 2 rfl ?_
    refine r_cVi (As := [.int l2]) (st := []) hX dX8_idleRules_14 kl_X8_isIdle w_ml_X8_78 w_im_X8_isIdle w_se_X8_isIdle ⟨_, _, rfl⟩ (by decide) rfl (Nat.le_of_ble_eq_true rfl) rfl kdz0 h (fun r σ1 h => wX8_isIdle h) ?_
    clear h; intro t2 σ h
    refine r_if_eq (tgt := 26) hX dX8_idleRules_17 (by decide) h ?_ ?_
    · clear h; intro h
      refine r_sub [0, 1, 2] rfl ?_
      exact wX8_idleRules_26 hX k4 hk4 h
    · clear h; intro h
      refine r_iload_n hX dX8_idleRules_20 rfl 1 rfl ?_
      refine r_iconst hX dX8_idleRules_21 kk_i_1 ?_
      refine r_iload_n hX dX8_idleRules_22 rfl 2 rfl ?_
      refine r_ishl hX dX8_idleRules_23 ?_
      refine r_ior hX dX8_idleRules_24 ?_
      refine r_letI h ?_
      clear h; intro t3 h
      refine r_istore_n (L2 := [(1, .int t3), (0, kr E l0), (2, .int l2)]) hX dX8_idleRules_25 rfl (by decide) rfl ?_
      refine r_sub [1, 0, 2] rfl ?_
      exact wX8_idleRules_26 hX k4 hk4 h
def X8_idleRules_4 (G : kdS) : Nat → Int32 → Int32 → kdM → Option (Int32 × kdM) := lp (fun _ _ _ _ => none) (X8_idleRules_4B G) NN
theorem wX8_idleRules_4 {E : kdE} {G : kdS} {A : kdA} {r : Int32} {σ1 : kdM} (hX : kdX E A cX8_idleRules 3 RX8 (some .int) 3) : ∀ (l0 : Nat) (l1 : Int32) (l2 : Int32) (σ : kdM), X8_idleRules_4 G l0 l1 l2 σ = some (r, σ1) → SW E G (.inl (some (.int r), σ1)) A 3 σ 4 [(0, kr E l0), (1, .int l1), (2, .int l2)] [] :=
  lp_ind (Q := fun f => ∀ (l0 : Nat) (l1 : Int32) (l2 : Int32) (σ : kdM), f l0 l1 l2 σ = some (r, σ1) → SW E G (.inl (some (.int r), σ1)) A 3 σ 4 [(0, kr E l0), (1, .int l1), (2, .int l2)] []) (by intros; contradiction) (fun k hk l0 l1 l2 σ h => wX8_idleRules_4B hX k hk h) NN
def X8_idleRules (G : kdS) (l0 : Nat) : kdM → Option (Int32 × kdM) :=
  X8_idleRules_4 G l0 (0 : Int32) (0 : Int32)
set_option maxRecDepth 100000 in
set_option maxHeartbeats 4000000 in
theorem wX8_idleRules {E : kdE} {G : kdS} {l0 : Nat} {σ : kdM} {r : Int32} {σ1 : kdM} (h : X8_idleRules G l0 σ = some (r, σ1)) : Con E G yX8_idleRules cX8_idleRules 3 (some .int) 3 [kr E l0] σ (some (.int r), σ1) := by
  refine kd_head (own := RX8) rfl (by decide +kernel) (Nat.le_of_ble_eq_true rfl) (fun A hX => ?_)
  show SW E G (.inl (some (.int r), σ1)) A 3 σ 0 [(0, kr E l0)] []
  unfold X8_idleRules at h
  refine r_iconst hX dX8_idleRules_0 kk_i_0 ?_
  refine r_istore_n (L2 := [(1, .int (0 : Int32)), (0, kr E l0)]) hX dX8_idleRules_1 rfl (by decide) rfl ?_
  refine r_iconst hX dX8_idleRules_2 kk_i_0 ?_
  refine r_istore_n (L2 := [(2, .int (0 : Int32)), (1, .int (0 : Int32)), (0, kr E l0)]) hX dX8_idleRules_3 rfl (by decide) rfl ?_
  refine r_sub [2, 1, 0] rfl ?_
  exact wX8_idleRules_4 hX _ _ _ _ h
def X8_unusedKeys_16B (G : kdS) (k6 : Nat → Int32 → Int32 → kdM → Option (Int32 × kdM)) (k16 : Nat → Int32 → Int32 → Int32 → kdM → Option (Int32 × kdM)) (l0 : Nat) (l1 : Int32) (l2 : Int32) (l3 : Int32) : kdM → Option (Int32 × kdM) :=
  gR G 8 0 l0 fun t1 =>
  aR G 16 t1 (l2) fun t2 =>
  kcv G 6 t2 (X6_size G t2) fun t3 =>
  cnd (t3 ≤ l3)
    (ltI (l2 + Int32.ofInt 1) fun t4 =>
    k6 l0 l1 t4)
    (gR G 8 0 l0 fun t5 =>
    aR G 16 t5 (l2) fun t6 =>
    kcv G 6 t6 (X6_at G t6 l3) fun t7 =>
    ltI ((l1 &&& (((1 : Int32) <<< (t7 &&& 31)) ^^^ (-1 : Int32)))) fun t8 =>
    ltI (l3 + Int32.ofInt 1) fun t9 =>
    k16 l0 t8 l2 t9)
set_option maxRecDepth 100000 in
set_option maxHeartbeats 4000000 in
theorem wX8_unusedKeys_16B {E : kdE} {G : kdS} {A : kdA} {r : Int32} {σ1 : kdM} (hX : kdX E A cX8_unusedKeys 4 RX8 (some .int) 1) (k6 : Nat → Int32 → Int32 → kdM → Option (Int32 × kdM)) (k16 : Nat → Int32 → Int32 → Int32 → kdM → Option (Int32 × kdM)) (hk6 : ∀ (l0 : Nat) (l1 : Int32) (l2 : Int32) (σ : kdM), k6 l0 l1 l2 σ = some (r, σ1) → SW E G (.inl (some (.int r), σ1)) A 4 σ 6 [(0, kr E l0), (1, .int l1), (2, .int l2)] []) (hk16 : ∀ (l0 : Nat) (l1 : Int32) (l2 : Int32) (l3 : Int32) (σ : kdM), k16 l0 l1 l2 l3 σ = some (r, σ1) → SW E G (.inl (some (.int r), σ1)) A 4 σ 16 [(0, kr E l0), (1, .int l1), (2, .int l2), (3, .int l3)] []) {σ : kdM} {l0 : Nat} {l1 : Int32} {l2 : Int32} {l3 : Int32} (h : X8_unusedKeys_16B G k6 k16 l0 l1 l2 l3 σ = some (r, σ1)) : SW E G (.inl (some (.int r), σ1)) A 4 σ 16 [(0, kr E l0), (1, .int l1), (2, .int l2), (3, .int l3)] [] := by
  unfold X8_unusedKeys_16B at h
  refine r_iload_n hX dX8_unusedKeys_16 rfl 3 rfl ?_
  refine r_aload_n hX dX8_unusedKeys_17 rfl 0 rfl ?_
  refine r_gR hX dX8_unusedKeys_18 kf_X8_11 rfl h ?_
  clear h; intro t1 h
  refine r_iload_n hX dX8_unusedKeys_21 rfl 2 rfl ?_
  refine r_aR16 hX dX8_unusedKeys_22 h ?_
  clear h; intro t2 h
  refine r_cVi (As := []) (st := [.int l3]) hX dX8_unusedKeys_23 kl_X6_size w_ml_X8_44 w_im_X6_size w_se_X6_size ⟨_, _, rfl⟩ (by decide) rfl (Nat.le_of_ble_eq_true rfl) rfl kdz0 h (fun r σ1 h => wX6_size h) ?_
  clear h; intro t3 σ h
  refine r_icmp_ge (tgt := 52) hX dX8_unusedKeys_26 (by decide) h ?_ ?_
  · clear h; intro h
    refine r_iincL (L2 := fun t4 => [(2, .int t4), (0, kr E l0), (1, .int l1), (3, .int l3)]) hX dX8_unusedKeys_52 h 2 rfl (by decide) (fun _ => rfl) ?_
    clear h; intro t4 h
    refine r_goto (tgt := 6) hX dX8_unusedKeys_55 (by decide) ?_
    refine r_sub [1, 2, 0] rfl ?_
    exact hk6 _ _ _ _ h
  · clear h; intro h
    refine r_iload_n hX dX8_unusedKeys_29 rfl 1 rfl ?_
    refine r_iconst hX dX8_unusedKeys_30 kk_i_1 ?_
    refine r_aload_n hX dX8_unusedKeys_31 rfl 0 rfl ?_
    refine r_gR hX dX8_unusedKeys_32 kf_X8_11 rfl h ?_
    clear h; intro t5 h
    refine r_iload_n hX dX8_unusedKeys_35 rfl 2 rfl ?_
    refine r_aR16 hX dX8_unusedKeys_36 h ?_
    clear h; intro t6 h
    refine r_iload_n hX dX8_unusedKeys_37 rfl 3 rfl ?_
    refine r_cVi (As := [.int l3]) (st := [.int (1 : Int32), .int l1]) hX dX8_unusedKeys_38 kl_X6_at w_ml_X8_62 w_im_X6_at w_se_X6_at ⟨_, _, rfl⟩ (by decide) rfl (Nat.le_of_ble_eq_true rfl) rfl kdz0 h (fun r σ1 h => wX6_at h) ?_
    clear h; intro t7 σ h
    refine r_ishl hX dX8_unusedKeys_41 ?_
    refine r_iconst hX dX8_unusedKeys_42 kk_i_m1 ?_
    refine r_ixor hX dX8_unusedKeys_43 ?_
    refine r_iand hX dX8_unusedKeys_44 ?_
    refine r_letI h ?_
    clear h; intro t8 h
    refine r_istore_n (L2 := [(1, .int t8), (0, kr E l0), (2, .int l2), (3, .int l3)]) hX dX8_unusedKeys_45 rfl (by decide) rfl ?_
    refine r_iincL (L2 := fun t9 => [(3, .int t9), (1, .int t8), (0, kr E l0), (2, .int l2)]) hX dX8_unusedKeys_46 h 3 rfl (by decide) (fun _ => rfl) ?_
    clear h; intro t9 h
    refine r_goto (tgt := 16) hX dX8_unusedKeys_49 (by decide) ?_
    refine r_sub [2, 1, 3, 0] rfl ?_
    exact hk16 _ _ _ _ _ h
def X8_unusedKeys_16 (G : kdS) (k6 : Nat → Int32 → Int32 → kdM → Option (Int32 × kdM)) : Nat → Int32 → Int32 → Int32 → kdM → Option (Int32 × kdM) := lp (fun _ _ _ _ _ => none) (X8_unusedKeys_16B G k6) NN
theorem wX8_unusedKeys_16 {E : kdE} {G : kdS} {A : kdA} {r : Int32} {σ1 : kdM} (hX : kdX E A cX8_unusedKeys 4 RX8 (some .int) 1) (k6 : Nat → Int32 → Int32 → kdM → Option (Int32 × kdM)) (hk6 : ∀ (l0 : Nat) (l1 : Int32) (l2 : Int32) (σ : kdM), k6 l0 l1 l2 σ = some (r, σ1) → SW E G (.inl (some (.int r), σ1)) A 4 σ 6 [(0, kr E l0), (1, .int l1), (2, .int l2)] []) : ∀ (l0 : Nat) (l1 : Int32) (l2 : Int32) (l3 : Int32) (σ : kdM), X8_unusedKeys_16 G k6 l0 l1 l2 l3 σ = some (r, σ1) → SW E G (.inl (some (.int r), σ1)) A 4 σ 16 [(0, kr E l0), (1, .int l1), (2, .int l2), (3, .int l3)] [] :=
  lp_ind (Q := fun f => ∀ (l0 : Nat) (l1 : Int32) (l2 : Int32) (l3 : Int32) (σ : kdM), f l0 l1 l2 l3 σ = some (r, σ1) → SW E G (.inl (some (.int r), σ1)) A 4 σ 16 [(0, kr E l0), (1, .int l1), (2, .int l2), (3, .int l3)] []) (by intros; contradiction) (fun k hk l0 l1 l2 l3 σ h => wX8_unusedKeys_16B hX k6 k hk6 hk h) NN
def X8_unusedKeys_6B (G : kdS) (k6 : Nat → Int32 → Int32 → kdM → Option (Int32 × kdM)) (l0 : Nat) (l1 : Int32) (l2 : Int32) : kdM → Option (Int32 × kdM) :=
  gI G 8 2 l0 fun t1 =>
  cnd (t1 ≤ l2)
    (rt l1)
    (X8_unusedKeys_16 G k6 l0 l1 l2 (0 : Int32))
set_option maxRecDepth 100000 in
set_option maxHeartbeats 4000000 in
theorem wX8_unusedKeys_6B {E : kdE} {G : kdS} {A : kdA} {r : Int32} {σ1 : kdM} (hX : kdX E A cX8_unusedKeys 4 RX8 (some .int) 1) (k6 : Nat → Int32 → Int32 → kdM → Option (Int32 × kdM)) (hk6 : ∀ (l0 : Nat) (l1 : Int32) (l2 : Int32) (σ : kdM), k6 l0 l1 l2 σ = some (r, σ1) → SW E G (.inl (some (.int r), σ1)) A 4 σ 6 [(0, kr E l0), (1, .int l1), (2, .int l2)] []) {σ : kdM} {l0 : Nat} {l1 : Int32} {l2 : Int32} (h : X8_unusedKeys_6B G k6 l0 l1 l2 σ = some (r, σ1)) : SW E G (.inl (some (.int r), σ1)) A 4 σ 6 [(0, kr E l0), (1, .int l1), (2, .int l2)] [] := by
  unfold X8_unusedKeys_6B at h
  refine r_iload_n hX dX8_unusedKeys_6 rfl 2 rfl ?_
  refine r_aload_n hX dX8_unusedKeys_7 rfl 0 rfl ?_
  refine r_gI hX dX8_unusedKeys_8 kf_X8_40 rfl h ?_
  clear h; intro t1 h
  refine r_icmp_ge (tgt := 58) hX dX8_unusedKeys_11 (by decide) h ?_ ?_
  · clear h; intro h
    refine r_iload_n hX dX8_unusedKeys_58 rfl 1 rfl ?_
    exact r_iret hX dX8_unusedKeys_59 h
  · clear h; intro h
    refine r_iconst hX dX8_unusedKeys_14 kk_i_0 ?_
    refine r_istore_n (L2 := [(3, .int (0 : Int32)), (0, kr E l0), (1, .int l1), (2, .int l2)]) hX dX8_unusedKeys_15 rfl (by decide) rfl ?_
    refine r_sub [1, 2, 3, 0] rfl ?_
    exact wX8_unusedKeys_16 hX k6 hk6 _ _ _ _ _ h
def X8_unusedKeys_6 (G : kdS) : Nat → Int32 → Int32 → kdM → Option (Int32 × kdM) := lp (fun _ _ _ _ => none) (X8_unusedKeys_6B G) NN
theorem wX8_unusedKeys_6 {E : kdE} {G : kdS} {A : kdA} {r : Int32} {σ1 : kdM} (hX : kdX E A cX8_unusedKeys 4 RX8 (some .int) 1) : ∀ (l0 : Nat) (l1 : Int32) (l2 : Int32) (σ : kdM), X8_unusedKeys_6 G l0 l1 l2 σ = some (r, σ1) → SW E G (.inl (some (.int r), σ1)) A 4 σ 6 [(0, kr E l0), (1, .int l1), (2, .int l2)] [] :=
  lp_ind (Q := fun f => ∀ (l0 : Nat) (l1 : Int32) (l2 : Int32) (σ : kdM), f l0 l1 l2 σ = some (r, σ1) → SW E G (.inl (some (.int r), σ1)) A 4 σ 6 [(0, kr E l0), (1, .int l1), (2, .int l2)] []) (by intros; contradiction) (fun k hk l0 l1 l2 σ h => wX8_unusedKeys_6B hX k hk h) NN
def X8_unusedKeys (G : kdS) (l0 : Nat) : kdM → Option (Int32 × kdM) :=
  X8_unusedKeys_6 G l0 (4095 : Int32) (0 : Int32)
set_option maxRecDepth 100000 in
set_option maxHeartbeats 4000000 in
theorem wX8_unusedKeys {E : kdE} {G : kdS} {l0 : Nat} {σ : kdM} {r : Int32} {σ1 : kdM} (h : X8_unusedKeys G l0 σ = some (r, σ1)) : Con E G yX8_unusedKeys cX8_unusedKeys 4 (some .int) 1 [kr E l0] σ (some (.int r), σ1) := by
  refine kd_head (own := RX8) rfl (by decide +kernel) (Nat.le_of_ble_eq_true rfl) (fun A hX => ?_)
  show SW E G (.inl (some (.int r), σ1)) A 4 σ 0 [(0, kr E l0)] []
  unfold X8_unusedKeys at h
  refine r_sipush hX dX8_unusedKeys_0 kk_s_4095 ?_
  refine r_istore_n (L2 := [(1, .int (4095 : Int32)), (0, kr E l0)]) hX dX8_unusedKeys_3 rfl (by decide) rfl ?_
  refine r_iconst hX dX8_unusedKeys_4 kk_i_0 ?_
  refine r_istore_n (L2 := [(2, .int (0 : Int32)), (1, .int (4095 : Int32)), (0, kr E l0)]) hX dX8_unusedKeys_5 rfl (by decide) rfl ?_
  refine r_sub [2, 1, 0] rfl ?_
  exact wX8_unusedKeys_6 hX _ _ _ _ h
def X11_within_15 (G : kdS) (s0 : Int32) : kdM → Option (Int32 × kdM) :=
  rt (vp_nar .boolean s0)
set_option maxRecDepth 100000 in
set_option maxHeartbeats 4000000 in
theorem wX11_within_15 {E : kdE} {G : kdS} {A : kdA} {r : Int32} {σ1 : kdM} (hX : kdX E A cX11_within 3 RX11 (some .boolean) 0) {σ : kdM} {s0 : Int32} (h : X11_within_15 G s0 σ = some (r, σ1)) : SW E G (.inl (some (.int r), σ1)) A 3 σ 15 [] [.int s0] := by
  unfold X11_within_15 at h
  exact r_zret hX dX11_within_15 h
def X11_within_14 (G : kdS) : kdM → Option (Int32 × kdM) :=
  X11_within_15 G (0 : Int32)
set_option maxRecDepth 100000 in
set_option maxHeartbeats 4000000 in
theorem wX11_within_14 {E : kdE} {G : kdS} {A : kdA} {r : Int32} {σ1 : kdM} (hX : kdX E A cX11_within 3 RX11 (some .boolean) 0) {σ : kdM} (h : X11_within_14 G  σ = some (r, σ1)) : SW E G (.inl (some (.int r), σ1)) A 3 σ 14 [] [] := by
  unfold X11_within_14 at h
  refine r_iconst hX dX11_within_14 kk_i_0 ?_
  refine r_sub [] rfl ?_
  exact wX11_within_15 hX h
def X11_within (G : kdS) (l0 : Int32) (l1 : Int32) (l2 : Int32) : kdM → Option (Int32 × kdM) :=
  cnd (l0 < l1)
    (X11_within_14 G )
    (cnd (l2 < l0)
      (X11_within_14 G )
      (X11_within_15 G (1 : Int32)))
set_option maxRecDepth 100000 in
set_option maxHeartbeats 4000000 in
theorem wX11_within {E : kdE} {G : kdS} {l0 : Int32} {l1 : Int32} {l2 : Int32} {σ : kdM} {r : Int32} {σ1 : kdM} (h : X11_within G l0 l1 l2 σ = some (r, σ1)) : Con E G yX11_within cX11_within 3 (some .boolean) 0 [.int l0, .int l1, .int l2] σ (some (.int r), σ1) := by
  refine kd_head (own := RX11) rfl (by decide +kernel) (Nat.le_of_ble_eq_true rfl) (fun A hX => ?_)
  show SW E G (.inl (some (.int r), σ1)) A 3 σ 0 [(0, .int l0), (1, .int l1), (2, .int l2)] []
  unfold X11_within at h
  refine r_iload_n hX dX11_within_0 rfl 0 rfl ?_
  refine r_iload_n hX dX11_within_1 rfl 1 rfl ?_
  refine r_icmp_lt (tgt := 14) hX dX11_within_2 (by decide) h ?_ ?_
  · clear h; intro h
    refine r_sub [] rfl ?_
    exact wX11_within_14 hX h
  · clear h; intro h
    refine r_iload_n hX dX11_within_5 rfl 0 rfl ?_
    refine r_iload_n hX dX11_within_6 rfl 2 rfl ?_
    refine r_icmp_gt (tgt := 14) hX dX11_within_7 (by decide) h ?_ ?_
    · clear h; intro h
      refine r_sub [] rfl ?_
      exact wX11_within_14 hX h
    · clear h; intro h
      refine r_iconst hX dX11_within_10 kk_i_1 ?_
      refine r_goto (tgt := 15) hX dX11_within_11 (by decide) ?_
      refine r_sub [] rfl ?_
      exact wX11_within_15 hX h
def X11_isLetter (G : kdS) (l0 : Int32) : kdM → Option (Int32 × kdM) :=
  kcl (X11_within G l0 (1 : Int32) (60 : Int32)) fun t1 =>
  rt (vp_nar .boolean t1)
set_option maxRecDepth 100000 in
set_option maxHeartbeats 4000000 in
theorem wX11_isLetter {E : kdE} {G : kdS} {l0 : Int32} {σ : kdM} {r : Int32} {σ1 : kdM} (h : X11_isLetter G l0 σ = some (r, σ1)) : Con E G yX11_isLetter cX11_isLetter 1 (some .boolean) 1 [.int l0] σ (some (.int r), σ1) := by
  refine kd_head (own := RX11) rfl (by decide +kernel) (Nat.le_of_ble_eq_true rfl) (fun A hX => ?_)
  show SW E G (.inl (some (.int r), σ1)) A 1 σ 0 [(0, .int l0)] []
  unfold X11_isLetter at h
  refine r_iload_n hX dX11_isLetter_0 rfl 0 rfl ?_
  refine r_iconst hX dX11_isLetter_1 kk_i_1 ?_
  refine r_bipush hX dX11_isLetter_2 kk_b_60 ?_
  refine r_cSi (As := [.int l0, .int (1 : Int32), .int (60 : Int32)]) (st := []) hX dX11_isLetter_4 kl_X11_within w_ml_X11_165 w_st_X11_within (by decide) rfl (Nat.le_of_ble_eq_true rfl) rfl kdz0 h (fun r σ1 h => wX11_within h) ?_
  clear h; intro t1 σ h
  exact r_zret hX dX11_isLetter_7 h
def X8_isMade_21 (G : kdS) (s0 : Int32) : kdM → Option (Int32 × kdM) :=
  rt (vp_nar .boolean s0)
set_option maxRecDepth 100000 in
set_option maxHeartbeats 4000000 in
theorem wX8_isMade_21 {E : kdE} {G : kdS} {A : kdA} {r : Int32} {σ1 : kdM} (hX : kdX E A cX8_isMade 2 RX8 (some .boolean) 2) {σ : kdM} {s0 : Int32} (h : X8_isMade_21 G s0 σ = some (r, σ1)) : SW E G (.inl (some (.int r), σ1)) A 2 σ 21 [] [.int s0] := by
  unfold X8_isMade_21 at h
  exact r_zret hX dX8_isMade_21 h
def X8_isMade_20 (G : kdS) : kdM → Option (Int32 × kdM) :=
  X8_isMade_21 G (0 : Int32)
set_option maxRecDepth 100000 in
set_option maxHeartbeats 4000000 in
theorem wX8_isMade_20 {E : kdE} {G : kdS} {A : kdA} {r : Int32} {σ1 : kdM} (hX : kdX E A cX8_isMade 2 RX8 (some .boolean) 2) {σ : kdM} (h : X8_isMade_20 G  σ = some (r, σ1)) : SW E G (.inl (some (.int r), σ1)) A 2 σ 20 [] [] := by
  unfold X8_isMade_20 at h
  refine r_iconst hX dX8_isMade_20 kk_i_0 ?_
  refine r_sub [] rfl ?_
  exact wX8_isMade_21 hX h
def X8_isMade (G : kdS) (l0 : Nat) (l1 : Int32) : kdM → Option (Int32 × kdM) :=
  kcl (X11_isLetter G l1) fun t1 =>
  cnd (t1 = 0)
    (X8_isMade_20 G )
    (gR G 8 7 l0 fun t2 =>
    aZ G t2 (l1) fun t3 =>
    cnd (t3 = 0)
      (X8_isMade_20 G )
      (X8_isMade_21 G (1 : Int32)))
set_option maxRecDepth 100000 in
set_option maxHeartbeats 4000000 in
theorem wX8_isMade {E : kdE} {G : kdS} {l0 : Nat} {l1 : Int32} {σ : kdM} {r : Int32} {σ1 : kdM} (h : X8_isMade G l0 l1 σ = some (r, σ1)) : Con E G yX8_isMade cX8_isMade 2 (some .boolean) 2 [kr E l0, .int l1] σ (some (.int r), σ1) := by
  refine kd_head (own := RX8) rfl (by decide +kernel) (Nat.le_of_ble_eq_true rfl) (fun A hX => ?_)
  show SW E G (.inl (some (.int r), σ1)) A 2 σ 0 [(0, kr E l0), (1, .int l1)] []
  unfold X8_isMade at h
  refine r_iload_n hX dX8_isMade_0 rfl 1 rfl ?_
  refine r_cNi (host := "KeyDesk") (As := [.int l1]) (st := []) hX dX8_isMade_1 kl_X11_isLetter (by decide +kernel) w_st_X11_isLetter (by decide) rfl (Nat.le_of_ble_eq_true rfl) rfl kdz0 h (fun r σ1 h => wX11_isLetter h) ?_
  clear h; intro t1 σ h
  refine r_if_eq (tgt := 20) hX dX8_isMade_4 (by decide) h ?_ ?_
  · clear h; intro h
    refine r_sub [] rfl ?_
    exact wX8_isMade_20 hX h
  · clear h; intro h
    refine r_aload_n hX dX8_isMade_7 rfl 0 rfl ?_
    refine r_gR hX dX8_isMade_8 kf_X8_37 rfl h ?_
    clear h; intro t2 h
    refine r_iload_n hX dX8_isMade_11 rfl 1 rfl ?_
    refine r_aZ hX dX8_isMade_12 h ?_
    clear h; intro t3 h
    refine r_if_eq (tgt := 20) hX dX8_isMade_13 (by decide) h ?_ ?_
    · clear h; intro h
      refine r_sub [] rfl ?_
      exact wX8_isMade_20 hX h
    · clear h; intro h
      refine r_iconst hX dX8_isMade_16 kk_i_1 ?_
      refine r_goto (tgt := 21) hX dX8_isMade_17 (by decide) ?_
      refine r_sub [] rfl ?_
      exact wX8_isMade_21 hX h
def X8_mark_14 (G : kdS) : kdM → Option (Unit × kdM) :=
  rt ()
set_option maxRecDepth 100000 in
set_option maxHeartbeats 4000000 in
theorem wX8_mark_14 {E : kdE} {G : kdS} {A : kdA} {r : Unit} {σ1 : kdM} (hX : kdX E A cX8_mark 2 RX8 none 2) {σ : kdM} (h : X8_mark_14 G  σ = some (r, σ1)) : SW E G (.inl (none, σ1)) A 2 σ 14 [] [] := by
  unfold X8_mark_14 at h
  exact r_vret hX dX8_mark_14 h
def X8_mark (G : kdS) (l0 : Nat) (l1 : Int32) : kdM → Option (Unit × kdM) :=
  kcl (X11_isLetter G l1) fun t1 =>
  cnd (t1 = 0)
    (X8_mark_14 G )
    (gR G 8 7 l0 fun t2 =>
    tZ G t2 (l1) ((1 : Int32)) <|
    X8_mark_14 G )
set_option maxRecDepth 100000 in
set_option maxHeartbeats 4000000 in
theorem wX8_mark {E : kdE} {G : kdS} {l0 : Nat} {l1 : Int32} {σ : kdM} {r : Unit} {σ1 : kdM} (h : X8_mark G l0 l1 σ = some (r, σ1)) : Con E G yX8_mark cX8_mark 2 none 2 [kr E l0, .int l1] σ (none, σ1) := by
  refine kd_head (own := RX8) rfl (by decide +kernel) (Nat.le_of_ble_eq_true rfl) (fun A hX => ?_)
  show SW E G (.inl (none, σ1)) A 2 σ 0 [(0, kr E l0), (1, .int l1)] []
  unfold X8_mark at h
  refine r_iload_n hX dX8_mark_0 rfl 1 rfl ?_
  refine r_cNi (host := "KeyDesk") (As := [.int l1]) (st := []) hX dX8_mark_1 kl_X11_isLetter (by decide +kernel) w_st_X11_isLetter (by decide) rfl (Nat.le_of_ble_eq_true rfl) rfl kdz0 h (fun r σ1 h => wX11_isLetter h) ?_
  clear h; intro t1 σ h
  refine r_if_eq (tgt := 14) hX dX8_mark_4 (by decide) h ?_ ?_
  · clear h; intro h
    refine r_sub [] rfl ?_
    exact wX8_mark_14 hX h
  · clear h; intro h
    refine r_aload_n hX dX8_mark_7 rfl 0 rfl ?_
    refine r_gR hX dX8_mark_8 kf_X8_37 rfl h ?_
    clear h; intro t2 h
    refine r_iload_n hX dX8_mark_11 rfl 1 rfl ?_
    refine r_iconst hX dX8_mark_12 kk_i_1 ?_
    refine r_tZ hX dX8_mark_13 h ?_
    clear h; intro σ h
    refine r_sub [] rfl ?_
    exact wX8_mark_14 hX h
def X8_markJoints_55 (G : kdS) (k2 : Nat → Int32 → kdM → Option (Unit × kdM)) (l0 : Nat) (l1 : Int32) : kdM → Option (Unit × kdM) :=
  ltI (l1 + Int32.ofInt 1) fun t1 =>
  k2 l0 t1
set_option maxRecDepth 100000 in
set_option maxHeartbeats 4000000 in
theorem wX8_markJoints_55 {E : kdE} {G : kdS} {A : kdA} {r : Unit} {σ1 : kdM} (hX : kdX E A cX8_markJoints 2 RX8 none 3) (k2 : Nat → Int32 → kdM → Option (Unit × kdM)) (hk2 : ∀ (l0 : Nat) (l1 : Int32) (σ : kdM), k2 l0 l1 σ = some (r, σ1) → SW E G (.inl (none, σ1)) A 2 σ 2 [(0, kr E l0), (1, .int l1)] []) {σ : kdM} {l0 : Nat} {l1 : Int32} (h : X8_markJoints_55 G k2 l0 l1 σ = some (r, σ1)) : SW E G (.inl (none, σ1)) A 2 σ 55 [(0, kr E l0), (1, .int l1)] [] := by
  unfold X8_markJoints_55 at h
  refine r_iincL (L2 := fun t1 => [(1, .int t1), (0, kr E l0)]) hX dX8_markJoints_55 h 1 rfl (by decide) (fun _ => rfl) ?_
  clear h; intro t1 h
  refine r_goto (tgt := 2) hX dX8_markJoints_58 (by decide) ?_
  refine r_sub [1, 0] rfl ?_
  exact hk2 _ _ _ h
def X8_markJoints_2B (G : kdS) (k2 : Nat → Int32 → kdM → Option (Unit × kdM)) (l0 : Nat) (l1 : Int32) : kdM → Option (Unit × kdM) :=
  gR G 8 5 l0 fun t1 =>
  kcv G 6 t1 (X6_size G t1) fun t2 =>
  cnd (t2 ≤ l1)
    (rt ())
    (gR G 8 3 l0 fun t3 =>
    kcv G 6 t3 (X6_at G t3 l1) fun t4 =>
    kcv G 8 l0 (X8_isMade G l0 t4) fun t5 =>
    cnd (t5 = 0)
      (X8_markJoints_55 G k2 l0 l1)
      (gR G 8 4 l0 fun t6 =>
      kcv G 6 t6 (X6_at G t6 l1) fun t7 =>
      kcv G 8 l0 (X8_isMade G l0 t7) fun t8 =>
      cnd (t8 = 0)
        (X8_markJoints_55 G k2 l0 l1)
        (gR G 8 5 l0 fun t9 =>
        kcv G 6 t9 (X6_at G t9 l1) fun t10 =>
        kcv G 8 l0 (X8_mark G l0 t10) fun _ =>
        X8_markJoints_55 G k2 l0 l1)))
set_option maxRecDepth 100000 in
set_option maxHeartbeats 4000000 in
theorem wX8_markJoints_2B {E : kdE} {G : kdS} {A : kdA} {r : Unit} {σ1 : kdM} (hX : kdX E A cX8_markJoints 2 RX8 none 3) (k2 : Nat → Int32 → kdM → Option (Unit × kdM)) (hk2 : ∀ (l0 : Nat) (l1 : Int32) (σ : kdM), k2 l0 l1 σ = some (r, σ1) → SW E G (.inl (none, σ1)) A 2 σ 2 [(0, kr E l0), (1, .int l1)] []) {σ : kdM} {l0 : Nat} {l1 : Int32} (h : X8_markJoints_2B G k2 l0 l1 σ = some (r, σ1)) : SW E G (.inl (none, σ1)) A 2 σ 2 [(0, kr E l0), (1, .int l1)] [] := by
  unfold X8_markJoints_2B at h
  refine r_iload_n hX dX8_markJoints_2 rfl 1 rfl ?_
  refine r_aload_n hX dX8_markJoints_3 rfl 0 rfl ?_
  refine r_gR hX dX8_markJoints_4 kf_X8_30 rfl h ?_
  clear h; intro t1 h
  refine r_cVi (As := []) (st := [.int l1]) hX dX8_markJoints_7 kl_X6_size w_ml_X8_44 w_im_X6_size w_se_X6_size ⟨_, _, rfl⟩ (by decide) rfl (Nat.le_of_ble_eq_true rfl) rfl kdz0 h (fun r σ1 h => wX6_size h) ?_
  clear h; intro t2 σ h
  refine r_icmp_ge (tgt := 61) hX dX8_markJoints_10 (by decide) h ?_ ?_
  · clear h; intro h
    exact r_vret hX dX8_markJoints_61 h
  · clear h; intro h
    refine r_aload_n hX dX8_markJoints_13 rfl 0 rfl ?_
    refine r_aload_n hX dX8_markJoints_14 rfl 0 rfl ?_
    refine r_gR hX dX8_markJoints_15 kf_X8_23 rfl h ?_
    clear h; intro t3 h
    refine r_iload_n hX dX8_markJoints_18 rfl 1 rfl ?_
    refine r_cVi (As := [.int l1]) (st := [kr E l0]) hX dX8_markJoints_19 kl_X6_at w_ml_X8_62 w_im_X6_at w_se_X6_at ⟨_, _, rfl⟩ (by decide) rfl (Nat.le_of_ble_eq_true rfl) rfl kdz0 h (fun r σ1 h => wX6_at h) ?_
    clear h; intro t4 σ h
    refine r_cVi (As := [.int t4]) (st := []) hX dX8_markJoints_22 kl_X8_isMade w_ml_X8_93 w_im_X8_isMade w_se_X8_isMade ⟨_, _, rfl⟩ (by decide) rfl (Nat.le_of_ble_eq_true rfl) rfl kdz0 h (fun r σ1 h => wX8_isMade h) ?_
    clear h; intro t5 σ h
    refine r_if_eq (tgt := 55) hX dX8_markJoints_25 (by decide) h ?_ ?_
    · clear h; intro h
      refine r_sub [0, 1] rfl ?_
      exact wX8_markJoints_55 hX k2 hk2 h
    · clear h; intro h
      refine r_aload_n hX dX8_markJoints_28 rfl 0 rfl ?_
      refine r_aload_n hX dX8_markJoints_29 rfl 0 rfl ?_
      refine r_gR hX dX8_markJoints_30 kf_X8_27 rfl h ?_
      clear h; intro t6 h
      refine r_iload_n hX dX8_markJoints_33 rfl 1 rfl ?_
      refine r_cVi (As := [.int l1]) (st := [kr E l0]) hX dX8_markJoints_34 kl_X6_at w_ml_X8_62 w_im_X6_at w_se_X6_at ⟨_, _, rfl⟩ (by decide) rfl (Nat.le_of_ble_eq_true rfl) rfl kdz0 h (fun r σ1 h => wX6_at h) ?_
      clear h; intro t7 σ h
      refine r_cVi (As := [.int t7]) (st := []) hX dX8_markJoints_37 kl_X8_isMade w_ml_X8_93 w_im_X8_isMade w_se_X8_isMade ⟨_, _, rfl⟩ (by decide) rfl (Nat.le_of_ble_eq_true rfl) rfl kdz0 h (fun r σ1 h => wX8_isMade h) ?_
      clear h; intro t8 σ h
      refine r_if_eq (tgt := 55) hX dX8_markJoints_40 (by decide) h ?_ ?_
      · clear h; intro h
        refine r_sub [0, 1] rfl ?_
        exact wX8_markJoints_55 hX k2 hk2 h
      · clear h; intro h
        refine r_aload_n hX dX8_markJoints_43 rfl 0 rfl ?_
        refine r_aload_n hX dX8_markJoints_44 rfl 0 rfl ?_
        refine r_gR hX dX8_markJoints_45 kf_X8_30 rfl h ?_
        clear h; intro t9 h
        refine r_iload_n hX dX8_markJoints_48 rfl 1 rfl ?_
        refine r_cVi (As := [.int l1]) (st := [kr E l0]) hX dX8_markJoints_49 kl_X6_at w_ml_X8_62 w_im_X6_at w_se_X6_at ⟨_, _, rfl⟩ (by decide) rfl (Nat.le_of_ble_eq_true rfl) rfl kdz0 h (fun r σ1 h => wX6_at h) ?_
        clear h; intro t10 σ h
        refine r_cVv (As := [.int t10]) (st := []) hX dX8_markJoints_52 kl_X8_mark w_ml_X8_90 w_im_X8_mark w_se_X8_mark ⟨_, _, rfl⟩ (by decide) rfl (Nat.le_of_ble_eq_true rfl) rfl kdz0 h (fun r σ1 h => wX8_mark h) ?_
        clear h; intro u σ h
        refine r_sub [0, 1] rfl ?_
        exact wX8_markJoints_55 hX k2 hk2 h
def X8_markJoints_2 (G : kdS) : Nat → Int32 → kdM → Option (Unit × kdM) := lp (fun _ _ _ => none) (X8_markJoints_2B G) NN
theorem wX8_markJoints_2 {E : kdE} {G : kdS} {A : kdA} {r : Unit} {σ1 : kdM} (hX : kdX E A cX8_markJoints 2 RX8 none 3) : ∀ (l0 : Nat) (l1 : Int32) (σ : kdM), X8_markJoints_2 G l0 l1 σ = some (r, σ1) → SW E G (.inl (none, σ1)) A 2 σ 2 [(0, kr E l0), (1, .int l1)] [] :=
  lp_ind (Q := fun f => ∀ (l0 : Nat) (l1 : Int32) (σ : kdM), f l0 l1 σ = some (r, σ1) → SW E G (.inl (none, σ1)) A 2 σ 2 [(0, kr E l0), (1, .int l1)] []) (by intros; contradiction) (fun k hk l0 l1 σ h => wX8_markJoints_2B hX k hk h) NN
def X8_markJoints (G : kdS) (l0 : Nat) : kdM → Option (Unit × kdM) :=
  X8_markJoints_2 G l0 (0 : Int32)
set_option maxRecDepth 100000 in
set_option maxHeartbeats 4000000 in
theorem wX8_markJoints {E : kdE} {G : kdS} {l0 : Nat} {σ : kdM} {r : Unit} {σ1 : kdM} (h : X8_markJoints G l0 σ = some (r, σ1)) : Con E G yX8_markJoints cX8_markJoints 2 none 3 [kr E l0] σ (none, σ1) := by
  refine kd_head (own := RX8) rfl (by decide +kernel) (Nat.le_of_ble_eq_true rfl) (fun A hX => ?_)
  show SW E G (.inl (none, σ1)) A 2 σ 0 [(0, kr E l0)] []
  unfold X8_markJoints at h
  refine r_iconst hX dX8_markJoints_0 kk_i_0 ?_
  refine r_istore_n (L2 := [(1, .int (0 : Int32)), (0, kr E l0)]) hX dX8_markJoints_1 rfl (by decide) rfl ?_
  refine r_sub [1, 0] rfl ?_
  exact wX8_markJoints_2 hX _ _ _ h
def X8_markLettersOf_2B (G : kdS) (k2 : Nat → Int32 → Int32 → kdM → Option (Unit × kdM)) (l0 : Nat) (l1 : Int32) (l2 : Int32) : kdM → Option (Unit × kdM) :=
  gR G 8 1 l0 fun t1 =>
  aR G 16 t1 (l1) fun t2 =>
  kcv G 6 t2 (X6_size G t2) fun t3 =>
  cnd (t3 ≤ l2)
    (rt ())
    (gR G 8 1 l0 fun t4 =>
    aR G 16 t4 (l1) fun t5 =>
    kcv G 6 t5 (X6_at G t5 l2) fun t6 =>
    kcv G 8 l0 (X8_mark G l0 t6) fun _ =>
    ltI (l2 + Int32.ofInt 1) fun t7 =>
    k2 l0 l1 t7)
set_option maxRecDepth 100000 in
set_option maxHeartbeats 4000000 in
theorem wX8_markLettersOf_2B {E : kdE} {G : kdS} {A : kdA} {r : Unit} {σ1 : kdM} (hX : kdX E A cX8_markLettersOf 3 RX8 none 3) (k2 : Nat → Int32 → Int32 → kdM → Option (Unit × kdM)) (hk2 : ∀ (l0 : Nat) (l1 : Int32) (l2 : Int32) (σ : kdM), k2 l0 l1 l2 σ = some (r, σ1) → SW E G (.inl (none, σ1)) A 3 σ 2 [(0, kr E l0), (1, .int l1), (2, .int l2)] []) {σ : kdM} {l0 : Nat} {l1 : Int32} {l2 : Int32} (h : X8_markLettersOf_2B G k2 l0 l1 l2 σ = some (r, σ1)) : SW E G (.inl (none, σ1)) A 3 σ 2 [(0, kr E l0), (1, .int l1), (2, .int l2)] [] := by
  unfold X8_markLettersOf_2B at h
  refine r_iload_n hX dX8_markLettersOf_2 rfl 2 rfl ?_
  refine r_aload_n hX dX8_markLettersOf_3 rfl 0 rfl ?_
  refine r_gR hX dX8_markLettersOf_4 kf_X8_17 rfl h ?_
  clear h; intro t1 h
  refine r_iload_n hX dX8_markLettersOf_7 rfl 1 rfl ?_
  refine r_aR16 hX dX8_markLettersOf_8 h ?_
  clear h; intro t2 h
  refine r_cVi (As := []) (st := [.int l2]) hX dX8_markLettersOf_9 kl_X6_size w_ml_X8_44 w_im_X6_size w_se_X6_size ⟨_, _, rfl⟩ (by decide) rfl (Nat.le_of_ble_eq_true rfl) rfl kdz0 h (fun r σ1 h => wX6_size h) ?_
  clear h; intro t3 σ h
  refine r_icmp_ge (tgt := 35) hX dX8_markLettersOf_12 (by decide) h ?_ ?_
  · clear h; intro h
    exact r_vret hX dX8_markLettersOf_35 h
  · clear h; intro h
    refine r_aload_n hX dX8_markLettersOf_15 rfl 0 rfl ?_
    refine r_aload_n hX dX8_markLettersOf_16 rfl 0 rfl ?_
    refine r_gR hX dX8_markLettersOf_17 kf_X8_17 rfl h ?_
    clear h; intro t4 h
    refine r_iload_n hX dX8_markLettersOf_20 rfl 1 rfl ?_
    refine r_aR16 hX dX8_markLettersOf_21 h ?_
    clear h; intro t5 h
    refine r_iload_n hX dX8_markLettersOf_22 rfl 2 rfl ?_
    refine r_cVi (As := [.int l2]) (st := [kr E l0]) hX dX8_markLettersOf_23 kl_X6_at w_ml_X8_62 w_im_X6_at w_se_X6_at ⟨_, _, rfl⟩ (by decide) rfl (Nat.le_of_ble_eq_true rfl) rfl kdz0 h (fun r σ1 h => wX6_at h) ?_
    clear h; intro t6 σ h
    refine r_cVv (As := [.int t6]) (st := []) hX dX8_markLettersOf_26 kl_X8_mark w_ml_X8_90 w_im_X8_mark w_se_X8_mark ⟨_, _, rfl⟩ (by decide) rfl (Nat.le_of_ble_eq_true rfl) rfl kdz0 h (fun r σ1 h => wX8_mark h) ?_
    clear h; intro u σ h
    refine r_iincL (L2 := fun t7 => [(2, .int t7), (0, kr E l0), (1, .int l1)]) hX dX8_markLettersOf_29 h 2 rfl (by decide) (fun _ => rfl) ?_
    clear h; intro t7 h
    refine r_goto (tgt := 2) hX dX8_markLettersOf_32 (by decide) ?_
    refine r_sub [1, 2, 0] rfl ?_
    exact hk2 _ _ _ _ h
def X8_markLettersOf_2 (G : kdS) : Nat → Int32 → Int32 → kdM → Option (Unit × kdM) := lp (fun _ _ _ _ => none) (X8_markLettersOf_2B G) NN
theorem wX8_markLettersOf_2 {E : kdE} {G : kdS} {A : kdA} {r : Unit} {σ1 : kdM} (hX : kdX E A cX8_markLettersOf 3 RX8 none 3) : ∀ (l0 : Nat) (l1 : Int32) (l2 : Int32) (σ : kdM), X8_markLettersOf_2 G l0 l1 l2 σ = some (r, σ1) → SW E G (.inl (none, σ1)) A 3 σ 2 [(0, kr E l0), (1, .int l1), (2, .int l2)] [] :=
  lp_ind (Q := fun f => ∀ (l0 : Nat) (l1 : Int32) (l2 : Int32) (σ : kdM), f l0 l1 l2 σ = some (r, σ1) → SW E G (.inl (none, σ1)) A 3 σ 2 [(0, kr E l0), (1, .int l1), (2, .int l2)] []) (by intros; contradiction) (fun k hk l0 l1 l2 σ h => wX8_markLettersOf_2B hX k hk h) NN
def X8_markLettersOf (G : kdS) (l0 : Nat) (l1 : Int32) : kdM → Option (Unit × kdM) :=
  X8_markLettersOf_2 G l0 l1 (0 : Int32)
set_option maxRecDepth 100000 in
set_option maxHeartbeats 4000000 in
theorem wX8_markLettersOf {E : kdE} {G : kdS} {l0 : Nat} {l1 : Int32} {σ : kdM} {r : Unit} {σ1 : kdM} (h : X8_markLettersOf G l0 l1 σ = some (r, σ1)) : Con E G yX8_markLettersOf cX8_markLettersOf 3 none 3 [kr E l0, .int l1] σ (none, σ1) := by
  refine kd_head (own := RX8) rfl (by decide +kernel) (Nat.le_of_ble_eq_true rfl) (fun A hX => ?_)
  show SW E G (.inl (none, σ1)) A 3 σ 0 [(0, kr E l0), (1, .int l1)] []
  unfold X8_markLettersOf at h
  refine r_iconst hX dX8_markLettersOf_0 kk_i_0 ?_
  refine r_istore_n (L2 := [(2, .int (0 : Int32)), (0, kr E l0), (1, .int l1)]) hX dX8_markLettersOf_1 rfl (by decide) rfl ?_
  refine r_sub [1, 2, 0] rfl ?_
  exact wX8_markLettersOf_2 hX _ _ _ _ h
def X8_markMade_44 (G : kdS) (k23 : Nat → Int32 → kdM → Option (Unit × kdM)) (l0 : Nat) (l1 : Int32) : kdM → Option (Unit × kdM) :=
  ltI (l1 + Int32.ofInt 1) fun t1 =>
  k23 l0 t1
set_option maxRecDepth 100000 in
set_option maxHeartbeats 4000000 in
theorem wX8_markMade_44 {E : kdE} {G : kdS} {A : kdA} {r : Unit} {σ1 : kdM} (hX : kdX E A cX8_markMade 2 RX8 none 4) (k23 : Nat → Int32 → kdM → Option (Unit × kdM)) (hk23 : ∀ (l0 : Nat) (l1 : Int32) (σ : kdM), k23 l0 l1 σ = some (r, σ1) → SW E G (.inl (none, σ1)) A 2 σ 23 [(0, kr E l0), (1, .int l1)] []) {σ : kdM} {l0 : Nat} {l1 : Int32} (h : X8_markMade_44 G k23 l0 l1 σ = some (r, σ1)) : SW E G (.inl (none, σ1)) A 2 σ 44 [(0, kr E l0), (1, .int l1)] [] := by
  unfold X8_markMade_44 at h
  refine r_iincL (L2 := fun t1 => [(1, .int t1), (0, kr E l0)]) hX dX8_markMade_44 h 1 rfl (by decide) (fun _ => rfl) ?_
  clear h; intro t1 h
  refine r_goto (tgt := 23) hX dX8_markMade_47 (by decide) ?_
  refine r_sub [1, 0] rfl ?_
  exact hk23 _ _ _ h
def X8_markMade_52B (G : kdS) (k52 : Nat → Int32 → kdM → Option (Unit × kdM)) (l0 : Nat) (l1 : Int32) : kdM → Option (Unit × kdM) :=
  gR G 8 5 l0 fun t1 =>
  kcv G 6 t1 (X6_size G t1) fun t2 =>
  cnd (t2 ≤ l1)
    (rt ())
    (kcv G 8 l0 (X8_markJoints G l0) fun _ =>
    ltI (l1 + Int32.ofInt 1) fun t3 =>
    k52 l0 t3)
set_option maxRecDepth 100000 in
set_option maxHeartbeats 4000000 in
theorem wX8_markMade_52B {E : kdE} {G : kdS} {A : kdA} {r : Unit} {σ1 : kdM} (hX : kdX E A cX8_markMade 2 RX8 none 4) (k52 : Nat → Int32 → kdM → Option (Unit × kdM)) (hk52 : ∀ (l0 : Nat) (l1 : Int32) (σ : kdM), k52 l0 l1 σ = some (r, σ1) → SW E G (.inl (none, σ1)) A 2 σ 52 [(0, kr E l0), (1, .int l1)] []) {σ : kdM} {l0 : Nat} {l1 : Int32} (h : X8_markMade_52B G k52 l0 l1 σ = some (r, σ1)) : SW E G (.inl (none, σ1)) A 2 σ 52 [(0, kr E l0), (1, .int l1)] [] := by
  unfold X8_markMade_52B at h
  refine r_iload_n hX dX8_markMade_52 rfl 1 rfl ?_
  refine r_aload_n hX dX8_markMade_53 rfl 0 rfl ?_
  refine r_gR hX dX8_markMade_54 kf_X8_30 rfl h ?_
  clear h; intro t1 h
  refine r_cVi (As := []) (st := [.int l1]) hX dX8_markMade_57 kl_X6_size w_ml_X8_44 w_im_X6_size w_se_X6_size ⟨_, _, rfl⟩ (by decide) rfl (Nat.le_of_ble_eq_true rfl) rfl kdz0 h (fun r σ1 h => wX6_size h) ?_
  clear h; intro t2 σ h
  refine r_icmp_ge (tgt := 73) hX dX8_markMade_60 (by decide) h ?_ ?_
  · clear h; intro h
    exact r_vret hX dX8_markMade_73 h
  · clear h; intro h
    refine r_aload_n hX dX8_markMade_63 rfl 0 rfl ?_
    refine r_cVv (As := []) (st := []) hX dX8_markMade_64 kl_X8_markJoints w_ml_X8_87 w_im_X8_markJoints w_se_X8_markJoints ⟨_, _, rfl⟩ (by decide) rfl (Nat.le_of_ble_eq_true rfl) rfl kdz0 h (fun r σ1 h => wX8_markJoints h) ?_
    clear h; intro u σ h
    refine r_iincL (L2 := fun t3 => [(1, .int t3), (0, kr E l0)]) hX dX8_markMade_67 h 1 rfl (by decide) (fun _ => rfl) ?_
    clear h; intro t3 h
    refine r_goto (tgt := 52) hX dX8_markMade_70 (by decide) ?_
    refine r_sub [1, 0] rfl ?_
    exact hk52 _ _ _ h
def X8_markMade_52 (G : kdS) : Nat → Int32 → kdM → Option (Unit × kdM) := lp (fun _ _ _ => none) (X8_markMade_52B G) NN
theorem wX8_markMade_52 {E : kdE} {G : kdS} {A : kdA} {r : Unit} {σ1 : kdM} (hX : kdX E A cX8_markMade 2 RX8 none 4) : ∀ (l0 : Nat) (l1 : Int32) (σ : kdM), X8_markMade_52 G l0 l1 σ = some (r, σ1) → SW E G (.inl (none, σ1)) A 2 σ 52 [(0, kr E l0), (1, .int l1)] [] :=
  lp_ind (Q := fun f => ∀ (l0 : Nat) (l1 : Int32) (σ : kdM), f l0 l1 σ = some (r, σ1) → SW E G (.inl (none, σ1)) A 2 σ 52 [(0, kr E l0), (1, .int l1)] []) (by intros; contradiction) (fun k hk l0 l1 σ h => wX8_markMade_52B hX k hk h) NN
def X8_markMade_23B (G : kdS) (k23 : Nat → Int32 → kdM → Option (Unit × kdM)) (l0 : Nat) (l1 : Int32) : kdM → Option (Unit × kdM) :=
  gI G 8 2 l0 fun t1 =>
  cnd (t1 ≤ l1)
    (X8_markMade_52 G l0 (0 : Int32))
    (kcv G 8 l0 (X8_isIdle G l0 l1) fun t2 =>
    cnd (t2 = 0)
      (kcv G 8 l0 (X8_markLettersOf G l0 l1) fun _ =>
      X8_markMade_44 G k23 l0 l1)
      (X8_markMade_44 G k23 l0 l1))
set_option maxRecDepth 100000 in
set_option maxHeartbeats 4000000 in
theorem wX8_markMade_23B {E : kdE} {G : kdS} {A : kdA} {r : Unit} {σ1 : kdM} (hX : kdX E A cX8_markMade 2 RX8 none 4) (k23 : Nat → Int32 → kdM → Option (Unit × kdM)) (hk23 : ∀ (l0 : Nat) (l1 : Int32) (σ : kdM), k23 l0 l1 σ = some (r, σ1) → SW E G (.inl (none, σ1)) A 2 σ 23 [(0, kr E l0), (1, .int l1)] []) {σ : kdM} {l0 : Nat} {l1 : Int32} (h : X8_markMade_23B G k23 l0 l1 σ = some (r, σ1)) : SW E G (.inl (none, σ1)) A 2 σ 23 [(0, kr E l0), (1, .int l1)] [] := by
  unfold X8_markMade_23B at h
  refine r_iload_n hX dX8_markMade_23 rfl 1 rfl ?_
  refine r_aload_n hX dX8_markMade_24 rfl 0 rfl ?_
  refine r_gI hX dX8_markMade_25 kf_X8_40 rfl h ?_
  clear h; intro t1 h
  refine r_icmp_ge (tgt := 50) hX dX8_markMade_28 (by decide) h ?_ ?_
  · clear h; intro h
    refine r_iconst hX dX8_markMade_50 kk_i_0 ?_
    refine r_istore_n (L2 := [(1, .int (0 : Int32)), (0, kr E l0)]) hX dX8_markMade_51 rfl (by decide) rfl ?_
    refine r_sub [1, 0] rfl ?_
    exact wX8_markMade_52 hX _ _ _ h
  · clear h; intro h
    refine r_aload_n hX dX8_markMade_31 rfl 0 rfl ?_
    refine r_iload_n hX dX8_markMade_32 rfl 1 rfl ?_
    refine r_cVi (As := [.int l1]) (st := []) hX dX8_markMade_33 kl_X8_isIdle w_ml_X8_78 w_im_X8_isIdle w_se_X8_isIdle ⟨_, _, rfl⟩ (by decide) rfl (Nat.le_of_ble_eq_true rfl) rfl kdz0 h (fun r σ1 h => wX8_isIdle h) ?_
    clear h; intro t2 σ h
    refine r_if_ne (tgt := 44) hX dX8_markMade_36 (by decide) h ?_ ?_
    · clear h; intro h
      refine r_aload_n hX dX8_markMade_39 rfl 0 rfl ?_
      refine r_iload_n hX dX8_markMade_40 rfl 1 rfl ?_
      refine r_cVv (As := [.int l1]) (st := []) hX dX8_markMade_41 kl_X8_markLettersOf w_ml_X8_84 w_im_X8_markLettersOf w_se_X8_markLettersOf ⟨_, _, rfl⟩ (by decide) rfl (Nat.le_of_ble_eq_true rfl) rfl kdz0 h (fun r σ1 h => wX8_markLettersOf h) ?_
      clear h; intro u σ h
      refine r_sub [0, 1] rfl ?_
      exact wX8_markMade_44 hX k23 hk23 h
    · clear h; intro h
      refine r_sub [0, 1] rfl ?_
      exact wX8_markMade_44 hX k23 hk23 h
def X8_markMade_23 (G : kdS) : Nat → Int32 → kdM → Option (Unit × kdM) := lp (fun _ _ _ => none) (X8_markMade_23B G) NN
theorem wX8_markMade_23 {E : kdE} {G : kdS} {A : kdA} {r : Unit} {σ1 : kdM} (hX : kdX E A cX8_markMade 2 RX8 none 4) : ∀ (l0 : Nat) (l1 : Int32) (σ : kdM), X8_markMade_23 G l0 l1 σ = some (r, σ1) → SW E G (.inl (none, σ1)) A 2 σ 23 [(0, kr E l0), (1, .int l1)] [] :=
  lp_ind (Q := fun f => ∀ (l0 : Nat) (l1 : Int32) (σ : kdM), f l0 l1 σ = some (r, σ1) → SW E G (.inl (none, σ1)) A 2 σ 23 [(0, kr E l0), (1, .int l1)] []) (by intros; contradiction) (fun k hk l0 l1 σ h => wX8_markMade_23B hX k hk h) NN
def X8_markMade_2B (G : kdS) (k2 : Nat → Int32 → kdM → Option (Unit × kdM)) (l0 : Nat) (l1 : Int32) : kdM → Option (Unit × kdM) :=
  cnd ((60 : Int32) < l1)
    (X8_markMade_23 G l0 (0 : Int32))
    (gR G 8 7 l0 fun t1 =>
    tZ G t1 (l1) ((0 : Int32)) <|
    ltI (l1 + Int32.ofInt 1) fun t2 =>
    k2 l0 t2)
set_option maxRecDepth 100000 in
set_option maxHeartbeats 4000000 in
theorem wX8_markMade_2B {E : kdE} {G : kdS} {A : kdA} {r : Unit} {σ1 : kdM} (hX : kdX E A cX8_markMade 2 RX8 none 4) (k2 : Nat → Int32 → kdM → Option (Unit × kdM)) (hk2 : ∀ (l0 : Nat) (l1 : Int32) (σ : kdM), k2 l0 l1 σ = some (r, σ1) → SW E G (.inl (none, σ1)) A 2 σ 2 [(0, kr E l0), (1, .int l1)] []) {σ : kdM} {l0 : Nat} {l1 : Int32} (h : X8_markMade_2B G k2 l0 l1 σ = some (r, σ1)) : SW E G (.inl (none, σ1)) A 2 σ 2 [(0, kr E l0), (1, .int l1)] [] := by
  unfold X8_markMade_2B at h
  refine r_iload_n hX dX8_markMade_2 rfl 1 rfl ?_
  refine r_bipush hX dX8_markMade_3 kk_b_60 ?_
  refine r_icmp_gt (tgt := 21) hX dX8_markMade_5 (by decide) h ?_ ?_
  · clear h; intro h
    refine r_iconst hX dX8_markMade_21 kk_i_0 ?_
    refine r_istore_n (L2 := [(1, .int (0 : Int32)), (0, kr E l0)]) hX dX8_markMade_22 rfl (by decide) rfl ?_
    refine r_sub [1, 0] rfl ?_
    exact wX8_markMade_23 hX _ _ _ h
  · clear h; intro h
    refine r_aload_n hX dX8_markMade_8 rfl 0 rfl ?_
    refine r_gR hX dX8_markMade_9 kf_X8_37 rfl h ?_
    clear h; intro t1 h
    refine r_iload_n hX dX8_markMade_12 rfl 1 rfl ?_
    refine r_iconst hX dX8_markMade_13 kk_i_0 ?_
    refine r_tZ hX dX8_markMade_14 h ?_
    clear h; intro σ h
    refine r_iincL (L2 := fun t2 => [(1, .int t2), (0, kr E l0)]) hX dX8_markMade_15 h 1 rfl (by decide) (fun _ => rfl) ?_
    clear h; intro t2 h
    refine r_goto (tgt := 2) hX dX8_markMade_18 (by decide) ?_
    refine r_sub [1, 0] rfl ?_
    exact hk2 _ _ _ h
def X8_markMade_2 (G : kdS) : Nat → Int32 → kdM → Option (Unit × kdM) := lp (fun _ _ _ => none) (X8_markMade_2B G) NN
theorem wX8_markMade_2 {E : kdE} {G : kdS} {A : kdA} {r : Unit} {σ1 : kdM} (hX : kdX E A cX8_markMade 2 RX8 none 4) : ∀ (l0 : Nat) (l1 : Int32) (σ : kdM), X8_markMade_2 G l0 l1 σ = some (r, σ1) → SW E G (.inl (none, σ1)) A 2 σ 2 [(0, kr E l0), (1, .int l1)] [] :=
  lp_ind (Q := fun f => ∀ (l0 : Nat) (l1 : Int32) (σ : kdM), f l0 l1 σ = some (r, σ1) → SW E G (.inl (none, σ1)) A 2 σ 2 [(0, kr E l0), (1, .int l1)] []) (by intros; contradiction) (fun k hk l0 l1 σ h => wX8_markMade_2B hX k hk h) NN
def X8_markMade (G : kdS) (l0 : Nat) : kdM → Option (Unit × kdM) :=
  X8_markMade_2 G l0 (0 : Int32)
set_option maxRecDepth 100000 in
set_option maxHeartbeats 4000000 in
theorem wX8_markMade {E : kdE} {G : kdS} {l0 : Nat} {σ : kdM} {r : Unit} {σ1 : kdM} (h : X8_markMade G l0 σ = some (r, σ1)) : Con E G yX8_markMade cX8_markMade 2 none 4 [kr E l0] σ (none, σ1) := by
  refine kd_head (own := RX8) rfl (by decide +kernel) (Nat.le_of_ble_eq_true rfl) (fun A hX => ?_)
  show SW E G (.inl (none, σ1)) A 2 σ 0 [(0, kr E l0)] []
  unfold X8_markMade at h
  refine r_iconst hX dX8_markMade_0 kk_i_0 ?_
  refine r_istore_n (L2 := [(1, .int (0 : Int32)), (0, kr E l0)]) hX dX8_markMade_1 rfl (by decide) rfl ?_
  refine r_sub [1, 0] rfl ?_
  exact wX8_markMade_2 hX _ _ _ h
def X8_missingAt_42 (G : kdS) (k8 : Nat → Int32 → Int32 → Int32 → kdM → Option (Int32 × kdM)) (l0 : Nat) (l1 : Int32) (l2 : Int32) (l3 : Int32) : kdM → Option (Int32 × kdM) :=
  ltI (l3 + Int32.ofInt 1) fun t1 =>
  k8 l0 l1 l2 t1
set_option maxRecDepth 100000 in
set_option maxHeartbeats 4000000 in
theorem wX8_missingAt_42 {E : kdE} {G : kdS} {A : kdA} {r : Int32} {σ1 : kdM} (hX : kdX E A cX8_missingAt 4 RX8 (some .int) 5) (k8 : Nat → Int32 → Int32 → Int32 → kdM → Option (Int32 × kdM)) (hk8 : ∀ (l0 : Nat) (l1 : Int32) (l2 : Int32) (l3 : Int32) (σ : kdM), k8 l0 l1 l2 l3 σ = some (r, σ1) → SW E G (.inl (some (.int r), σ1)) A 4 σ 8 [(0, kr E l0), (1, .int l1), (2, .int l2), (3, .int l3)] []) {σ : kdM} {l0 : Nat} {l1 : Int32} {l2 : Int32} {l3 : Int32} (h : X8_missingAt_42 G k8 l0 l1 l2 l3 σ = some (r, σ1)) : SW E G (.inl (some (.int r), σ1)) A 4 σ 42 [(0, kr E l0), (1, .int l1), (2, .int l2), (3, .int l3)] [] := by
  unfold X8_missingAt_42 at h
  refine r_iincL (L2 := fun t1 => [(3, .int t1), (0, kr E l0), (1, .int l1), (2, .int l2)]) hX dX8_missingAt_42 h 3 rfl (by decide) (fun _ => rfl) ?_
  clear h; intro t1 h
  refine r_goto (tgt := 8) hX dX8_missingAt_45 (by decide) ?_
  refine r_sub [1, 2, 3, 0] rfl ?_
  exact hk8 _ _ _ _ _ h
def X8_missingAt_59 (G : kdS) (s0 : Int32) : kdM → Option (Int32 × kdM) :=
  rt s0
set_option maxRecDepth 100000 in
set_option maxHeartbeats 4000000 in
theorem wX8_missingAt_59 {E : kdE} {G : kdS} {A : kdA} {r : Int32} {σ1 : kdM} (hX : kdX E A cX8_missingAt 4 RX8 (some .int) 5) {σ : kdM} {s0 : Int32} (h : X8_missingAt_59 G s0 σ = some (r, σ1)) : SW E G (.inl (some (.int r), σ1)) A 4 σ 59 [] [.int s0] := by
  unfold X8_missingAt_59 at h
  exact r_iret hX dX8_missingAt_59 h
def X8_missingAt_8B (G : kdS) (k8 : Nat → Int32 → Int32 → Int32 → kdM → Option (Int32 × kdM)) (l0 : Nat) (l1 : Int32) (l2 : Int32) (l3 : Int32) : kdM → Option (Int32 × kdM) :=
  cnd ((60 : Int32) < l3)
    (cnd (l1 = (-1 : Int32))
      (X8_missingAt_59 G l2)
      (X8_missingAt_59 G (-6 : Int32)))
    (gR G 8 6 l0 fun t1 =>
    aZ G t1 (l3) fun t2 =>
    cnd (t2 = 0)
      (X8_missingAt_42 G k8 l0 l1 l2 l3)
      (gR G 8 7 l0 fun t3 =>
      aZ G t3 (l3) fun t4 =>
      cnd (t4 = 0)
        (cnd (l2 = l1)
          (rt l3)
          (ltI (l2 + Int32.ofInt 1) fun t5 =>
          X8_missingAt_42 G k8 l0 l1 t5 l3))
        (X8_missingAt_42 G k8 l0 l1 l2 l3)))
set_option maxRecDepth 100000 in
set_option maxHeartbeats 4000000 in
theorem wX8_missingAt_8B {E : kdE} {G : kdS} {A : kdA} {r : Int32} {σ1 : kdM} (hX : kdX E A cX8_missingAt 4 RX8 (some .int) 5) (k8 : Nat → Int32 → Int32 → Int32 → kdM → Option (Int32 × kdM)) (hk8 : ∀ (l0 : Nat) (l1 : Int32) (l2 : Int32) (l3 : Int32) (σ : kdM), k8 l0 l1 l2 l3 σ = some (r, σ1) → SW E G (.inl (some (.int r), σ1)) A 4 σ 8 [(0, kr E l0), (1, .int l1), (2, .int l2), (3, .int l3)] []) {σ : kdM} {l0 : Nat} {l1 : Int32} {l2 : Int32} {l3 : Int32} (h : X8_missingAt_8B G k8 l0 l1 l2 l3 σ = some (r, σ1)) : SW E G (.inl (some (.int r), σ1)) A 4 σ 8 [(0, kr E l0), (1, .int l1), (2, .int l2), (3, .int l3)] [] := by
  unfold X8_missingAt_8B at h
  refine r_iload_n hX dX8_missingAt_8 rfl 3 rfl ?_
  refine r_bipush hX dX8_missingAt_9 kk_b_60 ?_
  refine r_icmp_gt (tgt := 48) hX dX8_missingAt_11 (by decide) h ?_ ?_
  · clear h; intro h
    refine r_iload_n hX dX8_missingAt_48 rfl 1 rfl ?_
    refine r_iconst hX dX8_missingAt_49 kk_i_m1 ?_
    refine r_icmp_ne (tgt := 57) hX dX8_missingAt_50 (by decide) h ?_ ?_
    · clear h; intro h
      refine r_iload_n hX dX8_missingAt_53 rfl 2 rfl ?_
      refine r_goto (tgt := 59) hX dX8_missingAt_54 (by decide) ?_
      refine r_sub [] rfl ?_
      exact wX8_missingAt_59 hX h
    · clear h; intro h
      refine r_bipush hX dX8_missingAt_57 kk_b_m6 ?_
      refine r_sub [] rfl ?_
      exact wX8_missingAt_59 hX h
  · clear h; intro h
    refine r_aload_n hX dX8_missingAt_14 rfl 0 rfl ?_
    refine r_gR hX dX8_missingAt_15 kf_X8_33 rfl h ?_
    clear h; intro t1 h
    refine r_iload_n hX dX8_missingAt_18 rfl 3 rfl ?_
    refine r_aZ hX dX8_missingAt_19 h ?_
    clear h; intro t2 h
    refine r_if_eq (tgt := 42) hX dX8_missingAt_20 (by decide) h ?_ ?_
    · clear h; intro h
      refine r_sub [0, 1, 2, 3] rfl ?_
      exact wX8_missingAt_42 hX k8 hk8 h
    · clear h; intro h
      refine r_aload_n hX dX8_missingAt_23 rfl 0 rfl ?_
      refine r_gR hX dX8_missingAt_24 kf_X8_37 rfl h ?_
      clear h; intro t3 h
      refine r_iload_n hX dX8_missingAt_27 rfl 3 rfl ?_
      refine r_aZ hX dX8_missingAt_28 h ?_
      clear h; intro t4 h
      refine r_if_ne (tgt := 42) hX dX8_missingAt_29 (by decide) h ?_ ?_
      · clear h; intro h
        refine r_iload_n hX dX8_missingAt_32 rfl 2 rfl ?_
        refine r_iload_n hX dX8_missingAt_33 rfl 1 rfl ?_
        refine r_icmp_ne (tgt := 39) hX dX8_missingAt_34 (by decide) h ?_ ?_
        · clear h; intro h
          refine r_iload_n hX dX8_missingAt_37 rfl 3 rfl ?_
          exact r_iret hX dX8_missingAt_38 h
        · clear h; intro h
          refine r_iincL (L2 := fun t5 => [(2, .int t5), (0, kr E l0), (1, .int l1), (3, .int l3)]) hX dX8_missingAt_39 h 2 rfl (by decide) (fun _ => rfl) ?_
          clear h; intro t5 h
          refine r_sub [1, 2, 0, 3] rfl ?_
          exact wX8_missingAt_42 hX k8 hk8 h
      · clear h; intro h
        refine r_sub [0, 1, 2, 3] rfl ?_
        exact wX8_missingAt_42 hX k8 hk8 h
def X8_missingAt_8 (G : kdS) : Nat → Int32 → Int32 → Int32 → kdM → Option (Int32 × kdM) := lp (fun _ _ _ _ _ => none) (X8_missingAt_8B G) NN
theorem wX8_missingAt_8 {E : kdE} {G : kdS} {A : kdA} {r : Int32} {σ1 : kdM} (hX : kdX E A cX8_missingAt 4 RX8 (some .int) 5) : ∀ (l0 : Nat) (l1 : Int32) (l2 : Int32) (l3 : Int32) (σ : kdM), X8_missingAt_8 G l0 l1 l2 l3 σ = some (r, σ1) → SW E G (.inl (some (.int r), σ1)) A 4 σ 8 [(0, kr E l0), (1, .int l1), (2, .int l2), (3, .int l3)] [] :=
  lp_ind (Q := fun f => ∀ (l0 : Nat) (l1 : Int32) (l2 : Int32) (l3 : Int32) (σ : kdM), f l0 l1 l2 l3 σ = some (r, σ1) → SW E G (.inl (some (.int r), σ1)) A 4 σ 8 [(0, kr E l0), (1, .int l1), (2, .int l2), (3, .int l3)] []) (by intros; contradiction) (fun k hk l0 l1 l2 l3 σ h => wX8_missingAt_8B hX k hk h) NN
def X8_missingAt (G : kdS) (l0 : Nat) (l1 : Int32) : kdM → Option (Int32 × kdM) :=
  kcv G 8 l0 (X8_markMade G l0) fun _ =>
  X8_missingAt_8 G l0 l1 (0 : Int32) (1 : Int32)
set_option maxRecDepth 100000 in
set_option maxHeartbeats 4000000 in
theorem wX8_missingAt {E : kdE} {G : kdS} {l0 : Nat} {l1 : Int32} {σ : kdM} {r : Int32} {σ1 : kdM} (h : X8_missingAt G l0 l1 σ = some (r, σ1)) : Con E G yX8_missingAt cX8_missingAt 4 (some .int) 5 [kr E l0, .int l1] σ (some (.int r), σ1) := by
  refine kd_head (own := RX8) rfl (by decide +kernel) (Nat.le_of_ble_eq_true rfl) (fun A hX => ?_)
  show SW E G (.inl (some (.int r), σ1)) A 4 σ 0 [(0, kr E l0), (1, .int l1)] []
  unfold X8_missingAt at h
  refine r_aload_n hX dX8_missingAt_0 rfl 0 rfl ?_
  refine r_cVv (As := []) (st := []) hX dX8_missingAt_1 kl_X8_markMade w_ml_X8_81 w_im_X8_markMade w_se_X8_markMade ⟨_, _, rfl⟩ (by decide) rfl (Nat.le_of_ble_eq_true rfl) rfl kdz0 h (fun r σ1 h => wX8_markMade h) ?_
  clear h; intro u σ h
  refine r_iconst hX dX8_missingAt_4 kk_i_0 ?_
  refine r_istore_n (L2 := [(2, .int (0 : Int32)), (0, kr E l0), (1, .int l1)]) hX dX8_missingAt_5 rfl (by decide) rfl ?_
  refine r_iconst hX dX8_missingAt_6 kk_i_1 ?_
  refine r_istore_n (L2 := [(3, .int (1 : Int32)), (2, .int (0 : Int32)), (0, kr E l0), (1, .int l1)]) hX dX8_missingAt_7 rfl (by decide) rfl ?_
  refine r_sub [2, 3, 1, 0] rfl ?_
  exact wX8_missingAt_8 hX _ _ _ _ _ h
def X4_strokes (G : kdS) (l0 : Nat) : kdM → Option (Nat × kdM) :=
  gR G 4 0 l0 fun t1 =>
  rt t1
set_option maxRecDepth 100000 in
set_option maxHeartbeats 4000000 in
theorem wX4_strokes {E : kdE} {G : kdS} {l0 : Nat} {σ : kdM} {r : Nat} {σ1 : kdM} (h : X4_strokes G l0 σ = some (r, σ1)) : Con E G yX4_strokes cX4_strokes 1 (some (.object "KeyDesk$Row")) 0 [kr E l0] σ (some (kr E r), σ1) := by
  refine kd_head (own := RX4) rfl (by decide +kernel) (Nat.le_of_ble_eq_true rfl) (fun A hX => ?_)
  show SW E G (.inl (some (kr E r), σ1)) A 1 σ 0 [(0, kr E l0)] []
  unfold X4_strokes at h
  refine r_aload_n hX dX4_strokes_0 rfl 0 rfl ?_
  refine r_gR hX dX4_strokes_1 kf_X4_14 rfl h ?_
  clear h; intro t1 h
  exact r_aret hX dX4_strokes_4 h
def X4_signs (G : kdS) (l0 : Nat) : kdM → Option (Nat × kdM) :=
  gR G 4 3 l0 fun t1 =>
  rt t1
set_option maxRecDepth 100000 in
set_option maxHeartbeats 4000000 in
theorem wX4_signs {E : kdE} {G : kdS} {l0 : Nat} {σ : kdM} {r : Nat} {σ1 : kdM} (h : X4_signs G l0 σ = some (r, σ1)) : Con E G yX4_signs cX4_signs 1 (some (.object "KeyDesk$Row")) 0 [kr E l0] σ (some (kr E r), σ1) := by
  refine kd_head (own := RX4) rfl (by decide +kernel) (Nat.le_of_ble_eq_true rfl) (fun A hX => ?_)
  show SW E G (.inl (some (kr E r), σ1)) A 1 σ 0 [(0, kr E l0)] []
  unfold X4_signs at h
  refine r_aload_n hX dX4_signs_0 rfl 0 rfl ?_
  refine r_gR hX dX4_signs_1 kf_X4_26 rfl h ?_
  clear h; intro t1 h
  exact r_aret hX dX4_signs_4 h
def X4_tongue (G : kdS) (l0 : Nat) : kdM → Option (Int32 × kdM) :=
  gI G 4 4 l0 fun t1 =>
  rt t1
set_option maxRecDepth 100000 in
set_option maxHeartbeats 4000000 in
theorem wX4_tongue {E : kdE} {G : kdS} {l0 : Nat} {σ : kdM} {r : Int32} {σ1 : kdM} (h : X4_tongue G l0 σ = some (r, σ1)) : Con E G yX4_tongue cX4_tongue 1 (some .int) 0 [kr E l0] σ (some (.int r), σ1) := by
  refine kd_head (own := RX4) rfl (by decide +kernel) (Nat.le_of_ble_eq_true rfl) (fun A hX => ?_)
  show SW E G (.inl (some (.int r), σ1)) A 1 σ 0 [(0, kr E l0)] []
  unfold X4_tongue at h
  refine r_aload_n hX dX4_tongue_0 rfl 0 rfl ?_
  refine r_gI hX dX4_tongue_1 kf_X4_29 rfl h ?_
  clear h; intro t1 h
  exact r_iret hX dX4_tongue_4 h
def X4_setTongue (G : kdS) (l0 : Nat) (l1 : Int32) : kdM → Option (Int32 × kdM) :=
  gI G 4 4 l0 fun t1 =>
  sI G 4 4 l0 (l1) <|
  rt t1
set_option maxRecDepth 100000 in
set_option maxHeartbeats 4000000 in
theorem wX4_setTongue {E : kdE} {G : kdS} {l0 : Nat} {l1 : Int32} {σ : kdM} {r : Int32} {σ1 : kdM} (h : X4_setTongue G l0 l1 σ = some (r, σ1)) : Con E G yX4_setTongue cX4_setTongue 3 (some .int) 0 [kr E l0, .int l1] σ (some (.int r), σ1) := by
  refine kd_head (own := RX4) rfl (by decide +kernel) (Nat.le_of_ble_eq_true rfl) (fun A hX => ?_)
  show SW E G (.inl (some (.int r), σ1)) A 3 σ 0 [(0, kr E l0), (1, .int l1)] []
  unfold X4_setTongue at h
  refine r_aload_n hX dX4_setTongue_0 rfl 0 rfl ?_
  refine r_gI hX dX4_setTongue_1 kf_X4_29 rfl h ?_
  clear h; intro t1 h
  refine r_istore_n (L2 := [(2, .int t1), (0, kr E l0), (1, .int l1)]) hX dX4_setTongue_4 rfl (by decide) rfl ?_
  refine r_aload_n hX dX4_setTongue_5 rfl 1 rfl ?_
  refine r_iload_n hX dX4_setTongue_6 rfl 2 rfl ?_
  refine r_sI hX dX4_setTongue_7 kf_X4_29 rfl (by intro q hq; cases hq; rfl) h ?_
  clear h; intro σ h
  refine r_iload_n hX dX4_setTongue_10 rfl 0 rfl ?_
  exact r_iret hX dX4_setTongue_11 h
def X4_cut_87 (G : kdS) (k18 : Nat → Nat → Int32 → kdM → Option (Unit × kdM)) (l0 : Nat) (l1 : Nat) (s0 : Int32) (s1 : Int32) : kdM → Option (Unit × kdM) :=
  ltI ((s0 + s1)) fun t1 =>
  k18 l0 l1 t1
set_option maxRecDepth 100000 in
set_option maxHeartbeats 4000000 in
theorem wX4_cut_87 {E : kdE} {G : kdS} {A : kdA} {r : Unit} {σ1 : kdM} (hX : kdX E A cX4_cut 4 RX4 none 3) (k18 : Nat → Nat → Int32 → kdM → Option (Unit × kdM)) (hk18 : ∀ (l0 : Nat) (l1 : Nat) (l2 : Int32) (σ : kdM), k18 l0 l1 l2 σ = some (r, σ1) → SW E G (.inl (none, σ1)) A 4 σ 18 [(0, kr E l0), (1, kr E l1), (2, .int l2)] []) {σ : kdM} {l0 : Nat} {l1 : Nat} {s0 : Int32} {s1 : Int32} (h : X4_cut_87 G k18 l0 l1 s0 s1 σ = some (r, σ1)) : SW E G (.inl (none, σ1)) A 4 σ 87 [(0, kr E l0), (1, kr E l1)] [.int s1, .int s0] := by
  unfold X4_cut_87 at h
  refine r_iadd hX dX4_cut_87 ?_
  refine r_letI h ?_
  clear h; intro t1 h
  refine r_istore_n (L2 := [(2, .int t1), (0, kr E l0), (1, kr E l1)]) hX dX4_cut_88 rfl (by decide) rfl ?_
  refine r_goto (tgt := 18) hX dX4_cut_89 (by decide) ?_
  refine r_sub [1, 2, 0] rfl ?_
  exact hk18 _ _ _ _ h
def X4_cut_54 (G : kdS) (k18 : Nat → Nat → Int32 → kdM → Option (Unit × kdM)) (l0 : Nat) (l1 : Nat) (l2 : Int32) (l3 : Int32) (s0 : Nat) (s1 : Int32) : kdM → Option (Unit × kdM) :=
  kcv G 6 s0 (X6_add G s0 s1) fun _ =>
  gR G 4 2 l0 fun t1 =>
  kcv G 6 t1 (X6_add G t1 l2) fun _ =>
  cnd (l3 = (-1 : Int32))
    (X4_cut_87 G k18 l0 l1 l2 (1 : Int32))
    (kcv G 8 l1 (X8_keysOfRule G l1 l3) fun t2 =>
    kcv G 6 t2 (X6_size G t2) fun t3 =>
    X4_cut_87 G k18 l0 l1 l2 (kmax (1 : Int32) t3))
set_option maxRecDepth 100000 in
set_option maxHeartbeats 4000000 in
theorem wX4_cut_54 {E : kdE} {G : kdS} {A : kdA} {r : Unit} {σ1 : kdM} (hX : kdX E A cX4_cut 4 RX4 none 3) (k18 : Nat → Nat → Int32 → kdM → Option (Unit × kdM)) (hk18 : ∀ (l0 : Nat) (l1 : Nat) (l2 : Int32) (σ : kdM), k18 l0 l1 l2 σ = some (r, σ1) → SW E G (.inl (none, σ1)) A 4 σ 18 [(0, kr E l0), (1, kr E l1), (2, .int l2)] []) {σ : kdM} {l0 : Nat} {l1 : Nat} {l2 : Int32} {l3 : Int32} {s0 : Nat} {s1 : Int32} (h : X4_cut_54 G k18 l0 l1 l2 l3 s0 s1 σ = some (r, σ1)) : SW E G (.inl (none, σ1)) A 4 σ 54 [(0, kr E l0), (1, kr E l1), (2, .int l2), (3, .int l3)] [.int s1, kr E s0] := by
  unfold X4_cut_54 at h
  refine r_cVv (As := [.int s1]) (st := []) hX dX4_cut_54 kl_X6_add w_ml_X4_46 w_im_X6_add w_se_X6_add ⟨_, _, rfl⟩ (by decide) rfl (Nat.le_of_ble_eq_true rfl) rfl kdz0 h (fun r σ1 h => wX6_add h) ?_
  clear h; intro u σ h
  refine r_aload_n hX dX4_cut_57 rfl 0 rfl ?_
  refine r_gR hX dX4_cut_58 kf_X4_23 rfl h ?_
  clear h; intro t1 h
  refine r_iload_n hX dX4_cut_61 rfl 2 rfl ?_
  refine r_cVv (As := [.int l2]) (st := []) hX dX4_cut_62 kl_X6_add w_ml_X4_46 w_im_X6_add w_se_X6_add ⟨_, _, rfl⟩ (by decide) rfl (Nat.le_of_ble_eq_true rfl) rfl kdz0 h (fun r σ1 h => wX6_add h) ?_
  clear h; intro u σ h
  refine r_iload_n hX dX4_cut_65 rfl 2 rfl ?_
  refine r_iload_n hX dX4_cut_66 rfl 3 rfl ?_
  refine r_iconst hX dX4_cut_67 kk_i_m1 ?_
  refine r_icmp_ne (tgt := 75) hX dX4_cut_68 (by decide) h ?_ ?_
  · clear h; intro h
    refine r_iconst hX dX4_cut_71 kk_i_1 ?_
    refine r_goto (tgt := 87) hX dX4_cut_72 (by decide) ?_
    refine r_sub [0, 1] rfl ?_
    exact wX4_cut_87 hX k18 hk18 h
  · clear h; intro h
    refine r_iconst hX dX4_cut_75 kk_i_1 ?_
    refine r_aload_n hX dX4_cut_76 rfl 1 rfl ?_
    refine r_iload_n hX dX4_cut_77 rfl 3 rfl ?_
    refine r_cVa (As := [.int l3]) (st := [.int (1 : Int32), .int l2]) hX dX4_cut_78 kl_X8_keysOfRule w_ml_X4_49 w_im_X8_keysOfRule w_se_X8_keysOfRule ⟨_, _, rfl⟩ (by decide) rfl (Nat.le_of_ble_eq_true rfl) rfl kdz0 h (fun r σ1 h => wX8_keysOfRule h) ?_
    clear h; intro t2 σ h
    refine r_cVi (As := []) (st := [.int (1 : Int32), .int l2]) hX dX4_cut_81 kl_X6_size w_ml_X4_37 w_im_X6_size w_se_X6_size ⟨_, _, rfl⟩ (by decide) rfl (Nat.le_of_ble_eq_true rfl) rfl kdz0 h (fun r σ1 h => wX6_size h) ?_
    clear h; intro t3 σ h
    refine r_mmax hX dX4_cut_84 w_ml_X4_53 w_st_Math_max w_in_Math w_cd_Math_max (by decide) (Nat.le_of_ble_eq_true rfl) kdz0 ?_
    refine r_sub [0, 1] rfl ?_
    exact wX4_cut_87 hX k18 hk18 h
def X4_cut_18B (G : kdS) (k18 : Nat → Nat → Int32 → kdM → Option (Unit × kdM)) (l0 : Nat) (l1 : Nat) (l2 : Int32) : kdM → Option (Unit × kdM) :=
  gR G 4 0 l0 fun t1 =>
  kcv G 6 t1 (X6_size G t1) fun t2 =>
  cnd (t2 ≤ l2)
    (rt ())
    (gR G 4 0 l0 fun t3 =>
    kcv G 8 l1 (X8_longestRule G l1 t3 l2) fun t4 =>
    gR G 4 1 l0 fun t5 =>
    cnd (t4 = (-1 : Int32))
      (X4_cut_54 G k18 l0 l1 l2 t4 t5 (99 : Int32))
      (X4_cut_54 G k18 l0 l1 l2 t4 t5 t4))
set_option maxRecDepth 100000 in
set_option maxHeartbeats 4000000 in
theorem wX4_cut_18B {E : kdE} {G : kdS} {A : kdA} {r : Unit} {σ1 : kdM} (hX : kdX E A cX4_cut 4 RX4 none 3) (k18 : Nat → Nat → Int32 → kdM → Option (Unit × kdM)) (hk18 : ∀ (l0 : Nat) (l1 : Nat) (l2 : Int32) (σ : kdM), k18 l0 l1 l2 σ = some (r, σ1) → SW E G (.inl (none, σ1)) A 4 σ 18 [(0, kr E l0), (1, kr E l1), (2, .int l2)] []) {σ : kdM} {l0 : Nat} {l1 : Nat} {l2 : Int32} (h : X4_cut_18B G k18 l0 l1 l2 σ = some (r, σ1)) : SW E G (.inl (none, σ1)) A 4 σ 18 [(0, kr E l0), (1, kr E l1), (2, .int l2)] [] := by
  unfold X4_cut_18B at h
  refine r_iload_n hX dX4_cut_18 rfl 2 rfl ?_
  refine r_aload_n hX dX4_cut_19 rfl 0 rfl ?_
  refine r_gR hX dX4_cut_20 kf_X4_14 rfl h ?_
  clear h; intro t1 h
  refine r_cVi (As := []) (st := [.int l2]) hX dX4_cut_23 kl_X6_size w_ml_X4_37 w_im_X6_size w_se_X6_size ⟨_, _, rfl⟩ (by decide) rfl (Nat.le_of_ble_eq_true rfl) rfl kdz0 h (fun r σ1 h => wX6_size h) ?_
  clear h; intro t2 σ h
  refine r_icmp_ge (tgt := 92) hX dX4_cut_26 (by decide) h ?_ ?_
  · clear h; intro h
    exact r_vret hX dX4_cut_92 h
  · clear h; intro h
    refine r_aload_n hX dX4_cut_29 rfl 1 rfl ?_
    refine r_aload_n hX dX4_cut_30 rfl 0 rfl ?_
    refine r_gR hX dX4_cut_31 kf_X4_14 rfl h ?_
    clear h; intro t3 h
    refine r_iload_n hX dX4_cut_34 rfl 2 rfl ?_
    refine r_cVi (As := [kr E t3, .int l2]) (st := []) hX dX4_cut_35 kl_X8_longestRule w_ml_X4_40 w_im_X8_longestRule w_se_X8_longestRule ⟨_, _, rfl⟩ (by decide) rfl (Nat.le_of_ble_eq_true rfl) rfl kdz0 h (fun r σ1 h => wX8_longestRule h) ?_
    clear h; intro t4 σ h
    refine r_istore_n (L2 := [(3, .int t4), (0, kr E l0), (1, kr E l1), (2, .int l2)]) hX dX4_cut_38 rfl (by decide) rfl ?_
    refine r_aload_n hX dX4_cut_39 rfl 1 rfl ?_
    refine r_gR hX dX4_cut_40 kf_X4_20 rfl h ?_
    clear h; intro t5 h
    refine r_iload_n hX dX4_cut_43 rfl 0 rfl ?_
    refine r_iconst hX dX4_cut_44 kk_i_m1 ?_
    refine r_icmp_ne (tgt := 53) hX dX4_cut_45 (by decide) h ?_ ?_
    · clear h; intro h
      refine r_bipush hX dX4_cut_48 kk_b_99 ?_
      refine r_goto (tgt := 54) hX dX4_cut_50 (by decide) ?_
      refine r_sub [1, 2, 3, 0] rfl ?_
      exact wX4_cut_54 hX k18 hk18 h
    · clear h; intro h
      refine r_iload_n hX dX4_cut_53 rfl 0 rfl ?_
      refine r_sub [1, 2, 3, 0] rfl ?_
      exact wX4_cut_54 hX k18 hk18 h
def X4_cut_18 (G : kdS) : Nat → Nat → Int32 → kdM → Option (Unit × kdM) := lp (fun _ _ _ _ => none) (X4_cut_18B G) NN
theorem wX4_cut_18 {E : kdE} {G : kdS} {A : kdA} {r : Unit} {σ1 : kdM} (hX : kdX E A cX4_cut 4 RX4 none 3) : ∀ (l0 : Nat) (l1 : Nat) (l2 : Int32) (σ : kdM), X4_cut_18 G l0 l1 l2 σ = some (r, σ1) → SW E G (.inl (none, σ1)) A 4 σ 18 [(0, kr E l0), (1, kr E l1), (2, .int l2)] [] :=
  lp_ind (Q := fun f => ∀ (l0 : Nat) (l1 : Nat) (l2 : Int32) (σ : kdM), f l0 l1 l2 σ = some (r, σ1) → SW E G (.inl (none, σ1)) A 4 σ 18 [(0, kr E l0), (1, kr E l1), (2, .int l2)] []) (by intros; contradiction) (fun k hk l0 l1 l2 σ h => wX4_cut_18B hX k hk h) NN
def X4_cut (G : kdS) (l0 : Nat) (l1 : Nat) : kdM → Option (Unit × kdM) :=
  gR G 4 1 l0 fun t1 =>
  kcv G 6 t1 (X6_clear G t1) fun t2 =>
  gR G 4 2 l0 fun t3 =>
  kcv G 6 t3 (X6_clear G t3) fun t4 =>
  X4_cut_18 G l0 l1 (0 : Int32)
set_option maxRecDepth 100000 in
set_option maxHeartbeats 4000000 in
theorem wX4_cut {E : kdE} {G : kdS} {l0 : Nat} {l1 : Nat} {σ : kdM} {r : Unit} {σ1 : kdM} (h : X4_cut G l0 l1 σ = some (r, σ1)) : Con E G yX4_cut cX4_cut 4 none 3 [kr E l0, kr E l1] σ (none, σ1) := by
  refine kd_head (own := RX4) rfl (by decide +kernel) (Nat.le_of_ble_eq_true rfl) (fun A hX => ?_)
  show SW E G (.inl (none, σ1)) A 4 σ 0 [(0, kr E l0), (1, kr E l1)] []
  unfold X4_cut at h
  refine r_aload_n hX dX4_cut_0 rfl 0 rfl ?_
  refine r_gR hX dX4_cut_1 kf_X4_20 rfl h ?_
  clear h; intro t1 h
  refine r_cVi (As := []) (st := []) hX dX4_cut_4 kl_X6_clear w_ml_X4_33 w_im_X6_clear w_se_X6_clear ⟨_, _, rfl⟩ (by decide) rfl (Nat.le_of_ble_eq_true rfl) rfl kdz0 h (fun r σ1 h => wX6_clear h) ?_
  clear h; intro t2 σ h
  refine r_pop hX dX4_cut_7 rfl ?_
  refine r_aload_n hX dX4_cut_8 rfl 0 rfl ?_
  refine r_gR hX dX4_cut_9 kf_X4_23 rfl h ?_
  clear h; intro t3 h
  refine r_cVi (As := []) (st := []) hX dX4_cut_12 kl_X6_clear w_ml_X4_33 w_im_X6_clear w_se_X6_clear ⟨_, _, rfl⟩ (by decide) rfl (Nat.le_of_ble_eq_true rfl) rfl kdz0 h (fun r σ1 h => wX6_clear h) ?_
  clear h; intro t4 σ h
  refine r_pop hX dX4_cut_15 rfl ?_
  refine r_iconst hX dX4_cut_16 kk_i_0 ?_
  refine r_istore_n (L2 := [(2, .int (0 : Int32)), (0, kr E l0), (1, kr E l1)]) hX dX4_cut_17 rfl (by decide) rfl ?_
  refine r_sub [1, 2, 0] rfl ?_
  exact wX4_cut_18 hX _ _ _ _ h
def X4_pieceAt_49 (G : kdS) (s0 : Int32) : kdM → Option (Int32 × kdM) :=
  rt s0
set_option maxRecDepth 100000 in
set_option maxHeartbeats 4000000 in
theorem wX4_pieceAt_49 {E : kdE} {G : kdS} {A : kdA} {r : Int32} {σ1 : kdM} (hX : kdX E A cX4_pieceAt 2 RX4 (some .int) 1) {σ : kdM} {s0 : Int32} (h : X4_pieceAt_49 G s0 σ = some (r, σ1)) : SW E G (.inl (some (.int r), σ1)) A 2 σ 49 [] [.int s0] := by
  unfold X4_pieceAt_49 at h
  exact r_iret hX dX4_pieceAt_49 h
def X4_pieceAt (G : kdS) (l0 : Nat) (l1 : Int32) : kdM → Option (Int32 × kdM) :=
  cnd (l1 = (-1 : Int32))
    (gR G 4 2 l0 fun t1 =>
    kcv G 6 t1 (X6_size G t1) fun t2 =>
    rt t2)
    (gR G 4 2 l0 fun t3 =>
    kcv G 6 t3 (X6_has G t3 l1) fun t4 =>
    cnd (t4 = 0)
      (X4_pieceAt_49 G (-6 : Int32))
      (gR G 4 1 l0 fun t5 =>
      kcv G 6 t5 (X6_at G t5 l1) fun t6 =>
      gR G 4 2 l0 fun t7 =>
      kcv G 6 t7 (X6_at G t7 l1) fun t8 =>
      X4_pieceAt_49 G (((100 : Int32) * t6) + t8)))
set_option maxRecDepth 100000 in
set_option maxHeartbeats 4000000 in
theorem wX4_pieceAt {E : kdE} {G : kdS} {l0 : Nat} {l1 : Int32} {σ : kdM} {r : Int32} {σ1 : kdM} (h : X4_pieceAt G l0 l1 σ = some (r, σ1)) : Con E G yX4_pieceAt cX4_pieceAt 2 (some .int) 1 [kr E l0, .int l1] σ (some (.int r), σ1) := by
  refine kd_head (own := RX4) rfl (by decide +kernel) (Nat.le_of_ble_eq_true rfl) (fun A hX => ?_)
  show SW E G (.inl (some (.int r), σ1)) A 2 σ 0 [(0, kr E l0), (1, .int l1)] []
  unfold X4_pieceAt at h
  refine r_iload_n hX dX4_pieceAt_0 rfl 1 rfl ?_
  refine r_iconst hX dX4_pieceAt_1 kk_i_m1 ?_
  refine r_icmp_ne (tgt := 13) hX dX4_pieceAt_2 (by decide) h ?_ ?_
  · clear h; intro h
    refine r_aload_n hX dX4_pieceAt_5 rfl 0 rfl ?_
    refine r_gR hX dX4_pieceAt_6 kf_X4_23 rfl h ?_
    clear h; intro t1 h
    refine r_cVi (As := []) (st := []) hX dX4_pieceAt_9 kl_X6_size w_ml_X4_37 w_im_X6_size w_se_X6_size ⟨_, _, rfl⟩ (by decide) rfl (Nat.le_of_ble_eq_true rfl) rfl kdz0 h (fun r σ1 h => wX6_size h) ?_
    clear h; intro t2 σ h
    exact r_iret hX dX4_pieceAt_12 h
  · clear h; intro h
    refine r_aload_n hX dX4_pieceAt_13 rfl 0 rfl ?_
    refine r_gR hX dX4_pieceAt_14 kf_X4_23 rfl h ?_
    clear h; intro t3 h
    refine r_iload_n hX dX4_pieceAt_17 rfl 1 rfl ?_
    refine r_cVi (As := [.int l1]) (st := []) hX dX4_pieceAt_18 kl_X6_has w_ml_X4_59 w_im_X6_has w_se_X6_has ⟨_, _, rfl⟩ (by decide) rfl (Nat.le_of_ble_eq_true rfl) rfl kdz0 h (fun r σ1 h => wX6_has h) ?_
    clear h; intro t4 σ h
    refine r_if_eq (tgt := 47) hX dX4_pieceAt_21 (by decide) h ?_ ?_
    · clear h; intro h
      refine r_bipush hX dX4_pieceAt_47 kk_b_m6 ?_
      refine r_sub [] rfl ?_
      exact wX4_pieceAt_49 hX h
    · clear h; intro h
      refine r_bipush hX dX4_pieceAt_24 kk_b_100 ?_
      refine r_aload_n hX dX4_pieceAt_26 rfl 0 rfl ?_
      refine r_gR hX dX4_pieceAt_27 kf_X4_20 rfl h ?_
      clear h; intro t5 h
      refine r_iload_n hX dX4_pieceAt_30 rfl 1 rfl ?_
      refine r_cVi (As := [.int l1]) (st := [.int (100 : Int32)]) hX dX4_pieceAt_31 kl_X6_at w_ml_X4_63 w_im_X6_at w_se_X6_at ⟨_, _, rfl⟩ (by decide) rfl (Nat.le_of_ble_eq_true rfl) rfl kdz0 h (fun r σ1 h => wX6_at h) ?_
      clear h; intro t6 σ h
      refine r_imul hX dX4_pieceAt_34 ?_
      refine r_aload_n hX dX4_pieceAt_35 rfl 0 rfl ?_
      refine r_gR hX dX4_pieceAt_36 kf_X4_23 rfl h ?_
      clear h; intro t7 h
      refine r_iload_n hX dX4_pieceAt_39 rfl 1 rfl ?_
      refine r_cVi (As := [.int l1]) (st := [.int ((100 : Int32) * t6)]) hX dX4_pieceAt_40 kl_X6_at w_ml_X4_63 w_im_X6_at w_se_X6_at ⟨_, _, rfl⟩ (by decide) rfl (Nat.le_of_ble_eq_true rfl) rfl kdz0 h (fun r σ1 h => wX6_at h) ?_
      clear h; intro t8 σ h
      refine r_iadd hX dX4_pieceAt_43 ?_
      refine r_goto (tgt := 49) hX dX4_pieceAt_44 (by decide) ?_
      refine r_sub [] rfl ?_
      exact wX4_pieceAt_49 hX h
def X4_onward_43 (G : kdS) (s0 : Nat) (s1 : Nat) (s2 : Int32) : kdM → Option (Int32 × kdM) :=
  kcv G 8 s0 (X8_keysBehind G s0 s1 s2) fun t1 =>
  rt t1
set_option maxRecDepth 100000 in
set_option maxHeartbeats 4000000 in
theorem wX4_onward_43 {E : kdE} {G : kdS} {A : kdA} {r : Int32} {σ1 : kdM} (hX : kdX E A cX4_onward 3 RX4 (some .int) 4) {σ : kdM} {s0 : Nat} {s1 : Nat} {s2 : Int32} (h : X4_onward_43 G s0 s1 s2 σ = some (r, σ1)) : SW E G (.inl (some (.int r), σ1)) A 3 σ 43 [] [.int s2, kr E s1, kr E s0] := by
  unfold X4_onward_43 at h
  refine r_cVi (As := [kr E s1, .int s2]) (st := []) hX dX4_onward_43 kl_X8_keysBehind w_ml_X4_71 w_im_X8_keysBehind w_se_X8_keysBehind ⟨_, _, rfl⟩ (by decide) rfl (Nat.le_of_ble_eq_true rfl) rfl kdz0 h (fun r σ1 h => wX8_keysBehind h) ?_
  clear h; intro t1 σ h
  exact r_iret hX dX4_onward_46 h
def X4_onward (G : kdS) (l0 : Nat) (l1 : Nat) : kdM → Option (Int32 × kdM) :=
  kcv G 4 l0 (X4_cut G l0 l1) fun _ =>
  gR G 4 2 l0 fun t1 =>
  kcv G 6 t1 (X6_size G t1) fun t2 =>
  ltI ((t2 - (1 : Int32))) fun t3 =>
  gR G 4 0 l0 fun t4 =>
  gR G 4 2 l0 fun t5 =>
  kcv G 6 t5 (X6_has G t5 t3) fun t6 =>
  cnd (t6 = 0)
    (X4_onward_43 G l1 t4 (0 : Int32))
    (gR G 4 2 l0 fun t7 =>
    kcv G 6 t7 (X6_at G t7 t3) fun t8 =>
    X4_onward_43 G l1 t4 t8)
set_option maxRecDepth 100000 in
set_option maxHeartbeats 4000000 in
theorem wX4_onward {E : kdE} {G : kdS} {l0 : Nat} {l1 : Nat} {σ : kdM} {r : Int32} {σ1 : kdM} (h : X4_onward G l0 l1 σ = some (r, σ1)) : Con E G yX4_onward cX4_onward 3 (some .int) 4 [kr E l0, kr E l1] σ (some (.int r), σ1) := by
  refine kd_head (own := RX4) rfl (by decide +kernel) (Nat.le_of_ble_eq_true rfl) (fun A hX => ?_)
  show SW E G (.inl (some (.int r), σ1)) A 3 σ 0 [(0, kr E l0), (1, kr E l1)] []
  unfold X4_onward at h
  refine r_aload_n hX dX4_onward_0 rfl 0 rfl ?_
  refine r_aload_n hX dX4_onward_1 rfl 1 rfl ?_
  refine r_cVv (As := [kr E l1]) (st := []) hX dX4_onward_2 kl_X4_cut w_ml_X4_67 w_im_X4_cut w_se_X4_cut ⟨_, _, rfl⟩ (by decide) rfl (Nat.le_of_ble_eq_true rfl) rfl kdz0 h (fun r σ1 h => wX4_cut h) ?_
  clear h; intro u σ h
  refine r_aload_n hX dX4_onward_5 rfl 0 rfl ?_
  refine r_gR hX dX4_onward_6 kf_X4_23 rfl h ?_
  clear h; intro t1 h
  refine r_cVi (As := []) (st := []) hX dX4_onward_9 kl_X6_size w_ml_X4_37 w_im_X6_size w_se_X6_size ⟨_, _, rfl⟩ (by decide) rfl (Nat.le_of_ble_eq_true rfl) rfl kdz0 h (fun r σ1 h => wX6_size h) ?_
  clear h; intro t2 σ h
  refine r_iconst hX dX4_onward_12 kk_i_1 ?_
  refine r_isub hX dX4_onward_13 ?_
  refine r_letI h ?_
  clear h; intro t3 h
  refine r_istore_n (L2 := [(2, .int t3), (0, kr E l0), (1, kr E l1)]) hX dX4_onward_14 rfl (by decide) rfl ?_
  refine r_aload_n hX dX4_onward_15 rfl 2 rfl ?_
  refine r_aload_n hX dX4_onward_16 rfl 1 rfl ?_
  refine r_gR hX dX4_onward_17 kf_X4_14 rfl h ?_
  clear h; intro t4 h
  refine r_aload_n hX dX4_onward_20 rfl 1 rfl ?_
  refine r_gR hX dX4_onward_21 kf_X4_23 rfl h ?_
  clear h; intro t5 h
  refine r_iload_n hX dX4_onward_24 rfl 0 rfl ?_
  refine r_cVi (As := [.int t3]) (st := [kr E t4, kr E l1]) hX dX4_onward_25 kl_X6_has w_ml_X4_59 w_im_X6_has w_se_X6_has ⟨_, _, rfl⟩ (by decide) rfl (Nat.le_of_ble_eq_true rfl) rfl kdz0 h (fun r σ1 h => wX6_has h) ?_
  clear h; intro t6 σ h
  refine r_if_eq (tgt := 42) hX dX4_onward_28 (by decide) h ?_ ?_
  · clear h; intro h
    refine r_iconst hX dX4_onward_42 kk_i_0 ?_
    refine r_sub [] rfl ?_
    exact wX4_onward_43 hX h
  · clear h; intro h
    refine r_aload_n hX dX4_onward_31 rfl 1 rfl ?_
    refine r_gR hX dX4_onward_32 kf_X4_23 rfl h ?_
    clear h; intro t7 h
    refine r_iload_n hX dX4_onward_35 rfl 0 rfl ?_
    refine r_cVi (As := [.int t3]) (st := [kr E t4, kr E l1]) hX dX4_onward_36 kl_X6_at w_ml_X4_63 w_im_X6_at w_se_X6_at ⟨_, _, rfl⟩ (by decide) rfl (Nat.le_of_ble_eq_true rfl) rfl kdz0 h (fun r σ1 h => wX6_at h) ?_
    clear h; intro t8 σ h
    refine r_goto (tgt := 43) hX dX4_onward_39 (by decide) ?_
    refine r_sub [] rfl ?_
    exact wX4_onward_43 hX h
def X4_jointWithLast_35 (G : kdS) (s0 : Int32) : kdM → Option (Int32 × kdM) :=
  rt s0
set_option maxRecDepth 100000 in
set_option maxHeartbeats 4000000 in
theorem wX4_jointWithLast_35 {E : kdE} {G : kdS} {A : kdA} {r : Int32} {σ1 : kdM} (hX : kdX E A cX4_jointWithLast 3 RX4 (some .int) 2) {σ : kdM} {s0 : Int32} (h : X4_jointWithLast_35 G s0 σ = some (r, σ1)) : SW E G (.inl (some (.int r), σ1)) A 3 σ 35 [] [.int s0] := by
  unfold X4_jointWithLast_35 at h
  exact r_iret hX dX4_jointWithLast_35 h
def X4_jointWithLast (G : kdS) (l0 : Nat) (l1 : Nat) (l2 : Int32) : kdM → Option (Int32 × kdM) :=
  gR G 4 3 l0 fun t1 =>
  kcv G 6 t1 (X6_isEmpty G t1) fun t2 =>
  cnd (t2 = 0)
    (gR G 4 3 l0 fun t3 =>
    gR G 4 3 l0 fun t4 =>
    kcv G 6 t4 (X6_size G t4) fun t5 =>
    kcv G 6 t3 (X6_at G t3 (t5 - (1 : Int32))) fun t6 =>
    kcv G 8 l1 (X8_joined G l1 t6 l2) fun t7 =>
    X4_jointWithLast_35 G t7)
    (X4_jointWithLast_35 G (0 : Int32))
set_option maxRecDepth 100000 in
set_option maxHeartbeats 4000000 in
theorem wX4_jointWithLast {E : kdE} {G : kdS} {l0 : Nat} {l1 : Nat} {l2 : Int32} {σ : kdM} {r : Int32} {σ1 : kdM} (h : X4_jointWithLast G l0 l1 l2 σ = some (r, σ1)) : Con E G yX4_jointWithLast cX4_jointWithLast 3 (some .int) 2 [kr E l0, kr E l1, .int l2] σ (some (.int r), σ1) := by
  refine kd_head (own := RX4) rfl (by decide +kernel) (Nat.le_of_ble_eq_true rfl) (fun A hX => ?_)
  show SW E G (.inl (some (.int r), σ1)) A 3 σ 0 [(0, kr E l0), (1, kr E l1), (2, .int l2)] []
  unfold X4_jointWithLast at h
  refine r_aload_n hX dX4_jointWithLast_0 rfl 0 rfl ?_
  refine r_gR hX dX4_jointWithLast_1 kf_X4_26 rfl h ?_
  clear h; intro t1 h
  refine r_cVi (As := []) (st := []) hX dX4_jointWithLast_4 kl_X6_isEmpty w_ml_X4_85 w_im_X6_isEmpty w_se_X6_isEmpty ⟨_, _, rfl⟩ (by decide) rfl (Nat.le_of_ble_eq_true rfl) rfl kdz0 h (fun r σ1 h => wX6_isEmpty h) ?_
  clear h; intro t2 σ h
  refine r_if_eq (tgt := 14) hX dX4_jointWithLast_7 (by decide) h ?_ ?_
  · clear h; intro h
    refine r_aload_n hX dX4_jointWithLast_14 rfl 1 rfl ?_
    refine r_aload_n hX dX4_jointWithLast_15 rfl 0 rfl ?_
    refine r_gR hX dX4_jointWithLast_16 kf_X4_26 rfl h ?_
    clear h; intro t3 h
    refine r_aload_n hX dX4_jointWithLast_19 rfl 0 rfl ?_
    refine r_gR hX dX4_jointWithLast_20 kf_X4_26 rfl h ?_
    clear h; intro t4 h
    refine r_cVi (As := []) (st := [kr E t3, kr E l1]) hX dX4_jointWithLast_23 kl_X6_size w_ml_X4_37 w_im_X6_size w_se_X6_size ⟨_, _, rfl⟩ (by decide) rfl (Nat.le_of_ble_eq_true rfl) rfl kdz0 h (fun r σ1 h => wX6_size h) ?_
    clear h; intro t5 σ h
    refine r_iconst hX dX4_jointWithLast_26 kk_i_1 ?_
    refine r_isub hX dX4_jointWithLast_27 ?_
    refine r_cVi (As := [.int (t5 - (1 : Int32))]) (st := [kr E l1]) hX dX4_jointWithLast_28 kl_X6_at w_ml_X4_63 w_im_X6_at w_se_X6_at ⟨_, _, rfl⟩ (by decide) rfl (Nat.le_of_ble_eq_true rfl) rfl kdz0 h (fun r σ1 h => wX6_at h) ?_
    clear h; intro t6 σ h
    refine r_iload_n hX dX4_jointWithLast_31 rfl 2 rfl ?_
    refine r_cVi (As := [.int t6, .int l2]) (st := []) hX dX4_jointWithLast_32 kl_X8_joined w_ml_X4_92 w_im_X8_joined w_se_X8_joined ⟨_, _, rfl⟩ (by decide) rfl (Nat.le_of_ble_eq_true rfl) rfl kdz0 h (fun r σ1 h => wX8_joined h) ?_
    clear h; intro t7 σ h
    refine r_sub [] rfl ?_
    exact wX4_jointWithLast_35 hX h
  · clear h; intro h
    refine r_iconst hX dX4_jointWithLast_10 kk_i_0 ?_
    refine r_goto (tgt := 35) hX dX4_jointWithLast_11 (by decide) ?_
    refine r_sub [] rfl ?_
    exact wX4_jointWithLast_35 hX h
def X4_arrive_56 (G : kdS) (l0 : Nat) (l3 : Int32) : kdM → Option (Unit × kdM) :=
  gR G 4 3 l0 fun t1 =>
  kcv G 6 t1 (X6_add G t1 l3) fun _ =>
  rt ()
set_option maxRecDepth 100000 in
set_option maxHeartbeats 4000000 in
theorem wX4_arrive_56 {E : kdE} {G : kdS} {A : kdA} {r : Unit} {σ1 : kdM} (hX : kdX E A cX4_arrive 5 RX4 none 3) {σ : kdM} {l0 : Nat} {l3 : Int32} (h : X4_arrive_56 G l0 l3 σ = some (r, σ1)) : SW E G (.inl (none, σ1)) A 5 σ 56 [(0, kr E l0), (3, .int l3)] [] := by
  unfold X4_arrive_56 at h
  refine r_aload_n hX dX4_arrive_56 rfl 0 rfl ?_
  refine r_gR hX dX4_arrive_57 kf_X4_26 rfl h ?_
  clear h; intro t1 h
  refine r_iload_n hX dX4_arrive_60 rfl 1 rfl ?_
  refine r_cVv (As := [.int l3]) (st := []) hX dX4_arrive_61 kl_X6_add w_ml_X4_46 w_im_X6_add w_se_X6_add ⟨_, _, rfl⟩ (by decide) rfl (Nat.le_of_ble_eq_true rfl) rfl kdz0 h (fun r σ1 h => wX6_add h) ?_
  clear h; intro u σ h
  exact r_vret hX dX4_arrive_64 h
def X4_arrive_10B (G : kdS) (k10 : Nat → Nat → Int32 → Int32 → kdM → Option (Unit × kdM)) (l0 : Nat) (l1 : Nat) (l3 : Int32) (l4 : Int32) : kdM → Option (Unit × kdM) :=
  cnd (l4 = 0)
    (X4_arrive_56 G l0 l3)
    (gR G 4 3 l0 fun t1 =>
    kcv G 6 t1 (X6_isEmpty G t1) fun t2 =>
    cnd (t2 = 0)
      (gR G 4 3 l0 fun t3 =>
      gR G 4 3 l0 fun t4 =>
      kcv G 6 t4 (X6_size G t4) fun t5 =>
      kcv G 6 t3 (X6_remove G t3 (t5 - (1 : Int32))) fun t6 =>
      kcv G 4 l0 (X4_jointWithLast G l0 l1 l4) fun t7 =>
      k10 l0 l1 l4 t7)
      (X4_arrive_56 G l0 l3))
set_option maxRecDepth 100000 in
set_option maxHeartbeats 4000000 in
theorem wX4_arrive_10B {E : kdE} {G : kdS} {A : kdA} {r : Unit} {σ1 : kdM} (hX : kdX E A cX4_arrive 5 RX4 none 3) (k10 : Nat → Nat → Int32 → Int32 → kdM → Option (Unit × kdM)) (hk10 : ∀ (l0 : Nat) (l1 : Nat) (l3 : Int32) (l4 : Int32) (σ : kdM), k10 l0 l1 l3 l4 σ = some (r, σ1) → SW E G (.inl (none, σ1)) A 5 σ 10 [(0, kr E l0), (1, kr E l1), (3, .int l3), (4, .int l4)] []) {σ : kdM} {l0 : Nat} {l1 : Nat} {l3 : Int32} {l4 : Int32} (h : X4_arrive_10B G k10 l0 l1 l3 l4 σ = some (r, σ1)) : SW E G (.inl (none, σ1)) A 5 σ 10 [(0, kr E l0), (1, kr E l1), (3, .int l3), (4, .int l4)] [] := by
  unfold X4_arrive_10B at h
  refine r_iload hX dX4_arrive_10 3 rfl ?_
  refine r_if_eq (tgt := 56) hX dX4_arrive_12 (by decide) h ?_ ?_
  · clear h; intro h
    refine r_sub [0, 2] rfl ?_
    exact wX4_arrive_56 hX h
  · clear h; intro h
    refine r_aload_n hX dX4_arrive_15 rfl 0 rfl ?_
    refine r_gR hX dX4_arrive_16 kf_X4_26 rfl h ?_
    clear h; intro t1 h
    refine r_cVi (As := []) (st := []) hX dX4_arrive_19 kl_X6_isEmpty w_ml_X4_85 w_im_X6_isEmpty w_se_X6_isEmpty ⟨_, _, rfl⟩ (by decide) rfl (Nat.le_of_ble_eq_true rfl) rfl kdz0 h (fun r σ1 h => wX6_isEmpty h) ?_
    clear h; intro t2 σ h
    refine r_if_ne (tgt := 56) hX dX4_arrive_22 (by decide) h ?_ ?_
    · clear h; intro h
      refine r_aload_n hX dX4_arrive_25 rfl 0 rfl ?_
      refine r_gR hX dX4_arrive_26 kf_X4_26 rfl h ?_
      clear h; intro t3 h
      refine r_aload_n hX dX4_arrive_29 rfl 0 rfl ?_
      refine r_gR hX dX4_arrive_30 kf_X4_26 rfl h ?_
      clear h; intro t4 h
      refine r_cVi (As := []) (st := [kr E t3]) hX dX4_arrive_33 kl_X6_size w_ml_X4_37 w_im_X6_size w_se_X6_size ⟨_, _, rfl⟩ (by decide) rfl (Nat.le_of_ble_eq_true rfl) rfl kdz0 h (fun r σ1 h => wX6_size h) ?_
      clear h; intro t5 σ h
      refine r_iconst hX dX4_arrive_36 kk_i_1 ?_
      refine r_isub hX dX4_arrive_37 ?_
      refine r_cVi (As := [.int (t5 - (1 : Int32))]) (st := []) hX dX4_arrive_38 kl_X6_remove w_ml_X4_89 w_im_X6_remove w_se_X6_remove ⟨_, _, rfl⟩ (by decide) rfl (Nat.le_of_ble_eq_true rfl) rfl kdz0 h (fun r σ1 h => wX6_remove h) ?_
      clear h; intro t6 σ h
      refine r_pop hX dX4_arrive_41 rfl ?_
      refine r_iload hX dX4_arrive_42 3 rfl ?_
      refine r_istore_n (L2 := [(3, .int l4), (0, kr E l0), (1, kr E l1), (4, .int l4)]) hX dX4_arrive_44 rfl (by decide) rfl ?_
      refine r_aload_n hX dX4_arrive_45 rfl 1 rfl ?_
      refine r_aload_n hX dX4_arrive_46 rfl 2 rfl ?_
      refine r_iload_n hX dX4_arrive_47 rfl 0 rfl ?_
      refine r_cVi (As := [kr E l1, .int l4]) (st := []) hX dX4_arrive_48 kl_X4_jointWithLast w_ml_X4_81 w_im_X4_jointWithLast w_se_X4_jointWithLast ⟨_, _, rfl⟩ (by decide) rfl (Nat.le_of_ble_eq_true rfl) rfl kdz0 h (fun r σ1 h => wX4_jointWithLast h) ?_
      clear h; intro t7 σ h
      refine r_istore (L2 := [(4, .int t7), (3, .int l4), (0, kr E l0), (1, kr E l1)]) hX dX4_arrive_51 (by decide) rfl ?_
      refine r_goto (tgt := 10) hX dX4_arrive_53 (by decide) ?_
      refine r_sub [2, 3, 1, 0] rfl ?_
      exact hk10 _ _ _ _ _ h
    · clear h; intro h
      refine r_sub [0, 2] rfl ?_
      exact wX4_arrive_56 hX h
def X4_arrive_10 (G : kdS) : Nat → Nat → Int32 → Int32 → kdM → Option (Unit × kdM) := lp (fun _ _ _ _ _ => none) (X4_arrive_10B G) NN
theorem wX4_arrive_10 {E : kdE} {G : kdS} {A : kdA} {r : Unit} {σ1 : kdM} (hX : kdX E A cX4_arrive 5 RX4 none 3) : ∀ (l0 : Nat) (l1 : Nat) (l3 : Int32) (l4 : Int32) (σ : kdM), X4_arrive_10 G l0 l1 l3 l4 σ = some (r, σ1) → SW E G (.inl (none, σ1)) A 5 σ 10 [(0, kr E l0), (1, kr E l1), (3, .int l3), (4, .int l4)] [] :=
  lp_ind (Q := fun f => ∀ (l0 : Nat) (l1 : Nat) (l3 : Int32) (l4 : Int32) (σ : kdM), f l0 l1 l3 l4 σ = some (r, σ1) → SW E G (.inl (none, σ1)) A 5 σ 10 [(0, kr E l0), (1, kr E l1), (3, .int l3), (4, .int l4)] []) (by intros; contradiction) (fun k hk l0 l1 l3 l4 σ h => wX4_arrive_10B hX k hk h) NN
def X4_arrive (G : kdS) (l0 : Nat) (l1 : Nat) (l2 : Int32) : kdM → Option (Unit × kdM) :=
  kcv G 4 l0 (X4_jointWithLast G l0 l1 l2) fun t1 =>
  X4_arrive_10 G l0 l1 l2 t1
set_option maxRecDepth 100000 in
set_option maxHeartbeats 4000000 in
theorem wX4_arrive {E : kdE} {G : kdS} {l0 : Nat} {l1 : Nat} {l2 : Int32} {σ : kdM} {r : Unit} {σ1 : kdM} (h : X4_arrive G l0 l1 l2 σ = some (r, σ1)) : Con E G yX4_arrive cX4_arrive 5 none 3 [kr E l0, kr E l1, .int l2] σ (none, σ1) := by
  refine kd_head (own := RX4) rfl (by decide +kernel) (Nat.le_of_ble_eq_true rfl) (fun A hX => ?_)
  show SW E G (.inl (none, σ1)) A 5 σ 0 [(0, kr E l0), (1, kr E l1), (2, .int l2)] []
  unfold X4_arrive at h
  refine r_iload_n hX dX4_arrive_0 rfl 2 rfl ?_
  refine r_istore_n (L2 := [(3, .int l2), (0, kr E l0), (1, kr E l1), (2, .int l2)]) hX dX4_arrive_1 rfl (by decide) rfl ?_
  refine r_aload_n hX dX4_arrive_2 rfl 1 rfl ?_
  refine r_aload_n hX dX4_arrive_3 rfl 2 rfl ?_
  refine r_iload_n hX dX4_arrive_4 rfl 0 rfl ?_
  refine r_cVi (As := [kr E l1, .int l2]) (st := []) hX dX4_arrive_5 kl_X4_jointWithLast w_ml_X4_81 w_im_X4_jointWithLast w_se_X4_jointWithLast ⟨_, _, rfl⟩ (by decide) rfl (Nat.le_of_ble_eq_true rfl) rfl kdz0 h (fun r σ1 h => wX4_jointWithLast h) ?_
  clear h; intro t1 σ h
  refine r_istore (L2 := [(4, .int t1), (3, .int l2), (0, kr E l0), (1, kr E l1), (2, .int l2)]) hX dX4_arrive_8 (by decide) rfl ?_
  refine r_sub [2, 3, 1, 0] rfl ?_
  exact wX4_arrive_10 hX _ _ _ _ _ h
