def X12_priceOf_57 (G : kdS) (k3 : Nat → Int32 → Int32 → Int32 → Int32 → kdM → Option (Int32 × kdM)) (k12 : Nat → Int32 → Int32 → Int32 → Int32 → Int32 → kdM → Option (Int32 × kdM)) (l0 : Nat) (l1 : Int32) (l2 : Int32) (l3 : Int32) (l4 : Int32) (l5 : Int32) (s0 : Nat) (s1 : Int32) (s2 : Int32) : kdM → Option (Int32 × kdM) :=
  tI G s0 (s1) (s2) <|
  ltI (l5 + Int32.ofInt 1) fun t1 =>
  k12 l0 l1 l2 l3 l4 t1
set_option maxRecDepth 100000 in
set_option maxHeartbeats 4000000 in
theorem wX12_priceOf_57 {E : kdE} {G : kdS} {A : kdA} {r : Int32} {σ1 : kdM} (hX : kdX E A cX12_priceOf 6 RX12 (some .int) 3) (k3 : Nat → Int32 → Int32 → Int32 → Int32 → kdM → Option (Int32 × kdM)) (k12 : Nat → Int32 → Int32 → Int32 → Int32 → Int32 → kdM → Option (Int32 × kdM)) (hk3 : ∀ (l0 : Nat) (l1 : Int32) (l2 : Int32) (l3 : Int32) (l4 : Int32) (σ : kdM), k3 l0 l1 l2 l3 l4 σ = some (r, σ1) → SW E G (.inl (some (.int r), σ1)) A 6 σ 3 [(0, kr E l0), (1, .int l1), (2, .int l2), (3, .int l3), (4, .int l4)] []) (hk12 : ∀ (l0 : Nat) (l1 : Int32) (l2 : Int32) (l3 : Int32) (l4 : Int32) (l5 : Int32) (σ : kdM), k12 l0 l1 l2 l3 l4 l5 σ = some (r, σ1) → SW E G (.inl (some (.int r), σ1)) A 6 σ 12 [(0, kr E l0), (1, .int l1), (2, .int l2), (3, .int l3), (4, .int l4), (5, .int l5)] []) {σ : kdM} {l0 : Nat} {l1 : Int32} {l2 : Int32} {l3 : Int32} {l4 : Int32} {l5 : Int32} {s0 : Nat} {s1 : Int32} {s2 : Int32} (h : X12_priceOf_57 G k3 k12 l0 l1 l2 l3 l4 l5 s0 s1 s2 σ = some (r, σ1)) : SW E G (.inl (some (.int r), σ1)) A 6 σ 57 [(0, kr E l0), (1, .int l1), (2, .int l2), (3, .int l3), (4, .int l4), (5, .int l5)] [.int s2, .int s1, kr E s0] := by
  unfold X12_priceOf_57 at h
  refine r_tI hX dX12_priceOf_57 h ?_
  clear h; intro σ h
  refine r_iincL (L2 := fun t1 => [(5, .int t1), (0, kr E l0), (1, .int l1), (2, .int l2), (3, .int l3), (4, .int l4)]) hX dX12_priceOf_58 h 5 rfl (by decide) (fun _ => rfl) ?_
  clear h; intro t1 h
  refine r_goto (tgt := 12) hX dX12_priceOf_61 (by decide) ?_
  refine r_sub [1, 2, 3, 4, 5, 0] rfl ?_
  exact hk12 _ _ _ _ _ _ _ h
def X12_priceOf_12B (G : kdS) (k3 : Nat → Int32 → Int32 → Int32 → Int32 → kdM → Option (Int32 × kdM)) (k12 : Nat → Int32 → Int32 → Int32 → Int32 → Int32 → kdM → Option (Int32 × kdM)) (l0 : Nat) (l1 : Int32) (l2 : Int32) (l3 : Int32) (l4 : Int32) (l5 : Int32) : kdM → Option (Int32 × kdM) :=
  gR G 12 27 l0 fun t1 =>
  aI G t1 (l1) fun t2 =>
  cnd (t2 < l5)
    (ltI (l4 + Int32.ofInt 1) fun t3 =>
    k3 l0 l1 l2 l3 t3)
    (gR G 12 31 l0 fun t4 =>
    cnd ((l4 + l5) = 0)
      (X12_priceOf_57 G k3 k12 l0 l1 l2 l3 l4 l5 t4 (((9 : Int32) * l4) + l5) (0 : Int32))
      (kcv G 12 l0 (X12_cheapest G l0 l1 l2 l4 l5) fun t5 =>
      X12_priceOf_57 G k3 k12 l0 l1 l2 l3 l4 l5 t4 (((9 : Int32) * l4) + l5) t5))
set_option maxRecDepth 100000 in
set_option maxHeartbeats 4000000 in
theorem wX12_priceOf_12B {E : kdE} {G : kdS} {A : kdA} {r : Int32} {σ1 : kdM} (hX : kdX E A cX12_priceOf 6 RX12 (some .int) 3) (k3 : Nat → Int32 → Int32 → Int32 → Int32 → kdM → Option (Int32 × kdM)) (k12 : Nat → Int32 → Int32 → Int32 → Int32 → Int32 → kdM → Option (Int32 × kdM)) (hk3 : ∀ (l0 : Nat) (l1 : Int32) (l2 : Int32) (l3 : Int32) (l4 : Int32) (σ : kdM), k3 l0 l1 l2 l3 l4 σ = some (r, σ1) → SW E G (.inl (some (.int r), σ1)) A 6 σ 3 [(0, kr E l0), (1, .int l1), (2, .int l2), (3, .int l3), (4, .int l4)] []) (hk12 : ∀ (l0 : Nat) (l1 : Int32) (l2 : Int32) (l3 : Int32) (l4 : Int32) (l5 : Int32) (σ : kdM), k12 l0 l1 l2 l3 l4 l5 σ = some (r, σ1) → SW E G (.inl (some (.int r), σ1)) A 6 σ 12 [(0, kr E l0), (1, .int l1), (2, .int l2), (3, .int l3), (4, .int l4), (5, .int l5)] []) {σ : kdM} {l0 : Nat} {l1 : Int32} {l2 : Int32} {l3 : Int32} {l4 : Int32} {l5 : Int32} (h : X12_priceOf_12B G k3 k12 l0 l1 l2 l3 l4 l5 σ = some (r, σ1)) : SW E G (.inl (some (.int r), σ1)) A 6 σ 12 [(0, kr E l0), (1, .int l1), (2, .int l2), (3, .int l3), (4, .int l4), (5, .int l5)] [] := by
  unfold X12_priceOf_12B at h
  refine r_iload hX dX12_priceOf_12 5 rfl ?_
  refine r_aload_n hX dX12_priceOf_14 rfl 0 rfl ?_
  refine r_gR hX dX12_priceOf_15 kf_X12_71 rfl h ?_
  clear h; intro t1 h
  refine r_iload_n hX dX12_priceOf_18 rfl 1 rfl ?_
  refine r_aI hX dX12_priceOf_19 h ?_
  clear h; intro t2 h
  refine r_icmp_gt (tgt := 64) hX dX12_priceOf_20 (by decide) h ?_ ?_
  · clear h; intro h
    refine r_iincL (L2 := fun t3 => [(4, .int t3), (0, kr E l0), (1, .int l1), (2, .int l2), (3, .int l3), (5, .int l5)]) hX dX12_priceOf_64 h 4 rfl (by decide) (fun _ => rfl) ?_
    clear h; intro t3 h
    refine r_goto (tgt := 3) hX dX12_priceOf_67 (by decide) ?_
    refine r_sub [1, 2, 3, 4, 0] rfl ?_
    exact hk3 _ _ _ _ _ _ h
  · clear h; intro h
    refine r_aload_n hX dX12_priceOf_23 rfl 0 rfl ?_
    refine r_gR hX dX12_priceOf_24 kf_X12_80 rfl h ?_
    clear h; intro t4 h
    refine r_bipush hX dX12_priceOf_27 kk_b_9 ?_
    refine r_iload hX dX12_priceOf_29 4 rfl ?_
    refine r_imul hX dX12_priceOf_31 ?_
    refine r_iload hX dX12_priceOf_32 5 rfl ?_
    refine r_iadd hX dX12_priceOf_34 ?_
    refine r_iload hX dX12_priceOf_35 4 rfl ?_
    refine r_iload hX dX12_priceOf_37 5 rfl ?_
    refine r_iadd hX dX12_priceOf_39 ?_
    refine r_if_ne (tgt := 47) hX dX12_priceOf_40 (by decide) h ?_ ?_
    · clear h; intro h
      refine r_iconst hX dX12_priceOf_43 kk_i_0 ?_
      refine r_goto (tgt := 57) hX dX12_priceOf_44 (by decide) ?_
      refine r_sub [0, 1, 2, 3, 4, 5] rfl ?_
      exact wX12_priceOf_57 hX k3 k12 hk3 hk12 h
    · clear h; intro h
      refine r_aload_n hX dX12_priceOf_47 rfl 0 rfl ?_
      refine r_iload_n hX dX12_priceOf_48 rfl 1 rfl ?_
      refine r_iload_n hX dX12_priceOf_49 rfl 2 rfl ?_
      refine r_iload hX dX12_priceOf_50 4 rfl ?_
      refine r_iload hX dX12_priceOf_52 5 rfl ?_
      refine r_cVi (As := [.int l1, .int l2, .int l4, .int l5]) (st := [.int (((9 : Int32) * l4) + l5), kr E t4]) hX dX12_priceOf_54 kl_X12_cheapest w_ml_X12_261 w_im_X12_cheapest w_se_X12_cheapest ⟨_, _, rfl⟩ (by decide) rfl (Nat.le_of_ble_eq_true rfl) rfl kdz0 h (fun r σ1 h => wX12_cheapest h) ?_
      clear h; intro t5 σ h
      refine r_sub [0, 1, 2, 3, 4, 5] rfl ?_
      exact wX12_priceOf_57 hX k3 k12 hk3 hk12 h
def X12_priceOf_12 (G : kdS) (k3 : Nat → Int32 → Int32 → Int32 → Int32 → kdM → Option (Int32 × kdM)) : Nat → Int32 → Int32 → Int32 → Int32 → Int32 → kdM → Option (Int32 × kdM) := lp (fun _ _ _ _ _ _ _ => none) (X12_priceOf_12B G k3) NN
theorem wX12_priceOf_12 {E : kdE} {G : kdS} {A : kdA} {r : Int32} {σ1 : kdM} (hX : kdX E A cX12_priceOf 6 RX12 (some .int) 3) (k3 : Nat → Int32 → Int32 → Int32 → Int32 → kdM → Option (Int32 × kdM)) (hk3 : ∀ (l0 : Nat) (l1 : Int32) (l2 : Int32) (l3 : Int32) (l4 : Int32) (σ : kdM), k3 l0 l1 l2 l3 l4 σ = some (r, σ1) → SW E G (.inl (some (.int r), σ1)) A 6 σ 3 [(0, kr E l0), (1, .int l1), (2, .int l2), (3, .int l3), (4, .int l4)] []) : ∀ (l0 : Nat) (l1 : Int32) (l2 : Int32) (l3 : Int32) (l4 : Int32) (l5 : Int32) (σ : kdM), X12_priceOf_12 G k3 l0 l1 l2 l3 l4 l5 σ = some (r, σ1) → SW E G (.inl (some (.int r), σ1)) A 6 σ 12 [(0, kr E l0), (1, .int l1), (2, .int l2), (3, .int l3), (4, .int l4), (5, .int l5)] [] :=
  lp_ind (Q := fun f => ∀ (l0 : Nat) (l1 : Int32) (l2 : Int32) (l3 : Int32) (l4 : Int32) (l5 : Int32) (σ : kdM), f l0 l1 l2 l3 l4 l5 σ = some (r, σ1) → SW E G (.inl (some (.int r), σ1)) A 6 σ 12 [(0, kr E l0), (1, .int l1), (2, .int l2), (3, .int l3), (4, .int l4), (5, .int l5)] []) (by intros; contradiction) (fun k hk l0 l1 l2 l3 l4 l5 σ h => wX12_priceOf_12B hX k3 k hk3 hk h) NN
def X12_priceOf_3B (G : kdS) (k3 : Nat → Int32 → Int32 → Int32 → Int32 → kdM → Option (Int32 × kdM)) (l0 : Nat) (l1 : Int32) (l2 : Int32) (l3 : Int32) (l4 : Int32) : kdM → Option (Int32 × kdM) :=
  cnd (l3 < l4)
    (gR G 12 31 l0 fun t1 =>
    gR G 12 27 l0 fun t2 =>
    aI G t2 (l1) fun t3 =>
    aI G t1 ((((9 : Int32) * l3) + t3)) fun t4 =>
    rt t4)
    (X12_priceOf_12 G k3 l0 l1 l2 l3 l4 (0 : Int32))
set_option maxRecDepth 100000 in
set_option maxHeartbeats 4000000 in
theorem wX12_priceOf_3B {E : kdE} {G : kdS} {A : kdA} {r : Int32} {σ1 : kdM} (hX : kdX E A cX12_priceOf 6 RX12 (some .int) 3) (k3 : Nat → Int32 → Int32 → Int32 → Int32 → kdM → Option (Int32 × kdM)) (hk3 : ∀ (l0 : Nat) (l1 : Int32) (l2 : Int32) (l3 : Int32) (l4 : Int32) (σ : kdM), k3 l0 l1 l2 l3 l4 σ = some (r, σ1) → SW E G (.inl (some (.int r), σ1)) A 6 σ 3 [(0, kr E l0), (1, .int l1), (2, .int l2), (3, .int l3), (4, .int l4)] []) {σ : kdM} {l0 : Nat} {l1 : Int32} {l2 : Int32} {l3 : Int32} {l4 : Int32} (h : X12_priceOf_3B G k3 l0 l1 l2 l3 l4 σ = some (r, σ1)) : SW E G (.inl (some (.int r), σ1)) A 6 σ 3 [(0, kr E l0), (1, .int l1), (2, .int l2), (3, .int l3), (4, .int l4)] [] := by
  unfold X12_priceOf_3B at h
  refine r_iload hX dX12_priceOf_3 4 rfl ?_
  refine r_iload_n hX dX12_priceOf_5 rfl 3 rfl ?_
  refine r_icmp_gt (tgt := 70) hX dX12_priceOf_6 (by decide) h ?_ ?_
  · clear h; intro h
    refine r_aload_n hX dX12_priceOf_70 rfl 0 rfl ?_
    refine r_gR hX dX12_priceOf_71 kf_X12_80 rfl h ?_
    clear h; intro t1 h
    refine r_bipush hX dX12_priceOf_74 kk_b_9 ?_
    refine r_iload_n hX dX12_priceOf_76 rfl 3 rfl ?_
    refine r_imul hX dX12_priceOf_77 ?_
    refine r_aload_n hX dX12_priceOf_78 rfl 0 rfl ?_
    refine r_gR hX dX12_priceOf_79 kf_X12_71 rfl h ?_
    clear h; intro t2 h
    refine r_iload_n hX dX12_priceOf_82 rfl 1 rfl ?_
    refine r_aI hX dX12_priceOf_83 h ?_
    clear h; intro t3 h
    refine r_iadd hX dX12_priceOf_84 ?_
    refine r_aI hX dX12_priceOf_85 h ?_
    clear h; intro t4 h
    exact r_iret hX dX12_priceOf_86 h
  · clear h; intro h
    refine r_iconst hX dX12_priceOf_9 kk_i_0 ?_
    refine r_istore (L2 := [(5, .int (0 : Int32)), (0, kr E l0), (1, .int l1), (2, .int l2), (3, .int l3), (4, .int l4)]) hX dX12_priceOf_10 (by decide) rfl ?_
    refine r_sub [1, 2, 3, 4, 5, 0] rfl ?_
    exact wX12_priceOf_12 hX k3 hk3 _ _ _ _ _ _ _ h
def X12_priceOf_3 (G : kdS) : Nat → Int32 → Int32 → Int32 → Int32 → kdM → Option (Int32 × kdM) := lp (fun _ _ _ _ _ _ => none) (X12_priceOf_3B G) NN
theorem wX12_priceOf_3 {E : kdE} {G : kdS} {A : kdA} {r : Int32} {σ1 : kdM} (hX : kdX E A cX12_priceOf 6 RX12 (some .int) 3) : ∀ (l0 : Nat) (l1 : Int32) (l2 : Int32) (l3 : Int32) (l4 : Int32) (σ : kdM), X12_priceOf_3 G l0 l1 l2 l3 l4 σ = some (r, σ1) → SW E G (.inl (some (.int r), σ1)) A 6 σ 3 [(0, kr E l0), (1, .int l1), (2, .int l2), (3, .int l3), (4, .int l4)] [] :=
  lp_ind (Q := fun f => ∀ (l0 : Nat) (l1 : Int32) (l2 : Int32) (l3 : Int32) (l4 : Int32) (σ : kdM), f l0 l1 l2 l3 l4 σ = some (r, σ1) → SW E G (.inl (some (.int r), σ1)) A 6 σ 3 [(0, kr E l0), (1, .int l1), (2, .int l2), (3, .int l3), (4, .int l4)] []) (by intros; contradiction) (fun k hk l0 l1 l2 l3 l4 σ h => wX12_priceOf_3B hX k hk h) NN
def X12_priceOf (G : kdS) (l0 : Nat) (l1 : Int32) (l2 : Int32) (l3 : Int32) : kdM → Option (Int32 × kdM) :=
  X12_priceOf_3 G l0 l1 l2 l3 (0 : Int32)
set_option maxRecDepth 100000 in
set_option maxHeartbeats 4000000 in
theorem wX12_priceOf {E : kdE} {G : kdS} {l0 : Nat} {l1 : Int32} {l2 : Int32} {l3 : Int32} {σ : kdM} {r : Int32} {σ1 : kdM} (h : X12_priceOf G l0 l1 l2 l3 σ = some (r, σ1)) : Con E G yX12_priceOf cX12_priceOf 6 (some .int) 3 [kr E l0, .int l1, .int l2, .int l3] σ (some (.int r), σ1) := by
  refine kd_head (own := RX12) rfl (by decide +kernel) (Nat.le_of_ble_eq_true rfl) (fun A hX => ?_)
  show SW E G (.inl (some (.int r), σ1)) A 6 σ 0 [(0, kr E l0), (1, .int l1), (2, .int l2), (3, .int l3)] []
  unfold X12_priceOf at h
  refine r_iconst hX dX12_priceOf_0 kk_i_0 ?_
  refine r_istore (L2 := [(4, .int (0 : Int32)), (0, kr E l0), (1, .int l1), (2, .int l2), (3, .int l3)]) hX dX12_priceOf_1 (by decide) rfl ?_
  refine r_sub [1, 2, 3, 4, 0] rfl ?_
  exact wX12_priceOf_3 hX _ _ _ _ _ _ h
def X12_slip_32 (G : kdS) (s0 : Int32) : kdM → Option (Int32 × kdM) :=
  rt s0
set_option maxRecDepth 100000 in
set_option maxHeartbeats 4000000 in
theorem wX12_slip_32 {E : kdE} {G : kdS} {A : kdA} {r : Int32} {σ1 : kdM} (hX : kdX E A cX12_slip 2 RX12 (some .int) 4) {σ : kdM} {s0 : Int32} (h : X12_slip_32 G s0 σ = some (r, σ1)) : SW E G (.inl (some (.int r), σ1)) A 2 σ 32 [] [.int s0] := by
  unfold X12_slip_32 at h
  exact r_iret hX dX12_slip_32 h
def X12_slip (G : kdS) (l0 : Nat) (l1 : Int32) : kdM → Option (Int32 × kdM) :=
  kcv G 12 l0 (X12_isWord G l0 l1) fun t1 =>
  cnd (t1 = 0)
    (rt (-1 : Int32))
    (gI G 12 1 l0 fun t2 =>
    cnd (t2 = 0)
      (X12_slip_32 G (-3 : Int32))
      (gI G 12 1 l0 fun t3 =>
      kcv G 12 l0 (X12_priceOf G l0 l1 (0 : Int32) t3) fun t4 =>
      X12_slip_32 G t4))
set_option maxRecDepth 100000 in
set_option maxHeartbeats 4000000 in
theorem wX12_slip {E : kdE} {G : kdS} {l0 : Nat} {l1 : Int32} {σ : kdM} {r : Int32} {σ1 : kdM} (h : X12_slip G l0 l1 σ = some (r, σ1)) : Con E G yX12_slip cX12_slip 2 (some .int) 4 [kr E l0, .int l1] σ (some (.int r), σ1) := by
  refine kd_head (own := RX12) rfl (by decide +kernel) (Nat.le_of_ble_eq_true rfl) (fun A hX => ?_)
  show SW E G (.inl (some (.int r), σ1)) A 2 σ 0 [(0, kr E l0), (1, .int l1)] []
  unfold X12_slip at h
  refine r_aload_n hX dX12_slip_0 rfl 0 rfl ?_
  refine r_iload_n hX dX12_slip_1 rfl 1 rfl ?_
  refine r_cVi (As := [.int l1]) (st := []) hX dX12_slip_2 kl_X12_isWord w_ml_X12_251 w_im_X12_isWord w_se_X12_isWord ⟨_, _, rfl⟩ (by decide) rfl (Nat.le_of_ble_eq_true rfl) rfl kdz0 h (fun r σ1 h => wX12_isWord h) ?_
  clear h; intro t1 σ h
  refine r_if_ne (tgt := 10) hX dX12_slip_5 (by decide) h ?_ ?_
  · clear h; intro h
    refine r_iconst hX dX12_slip_8 kk_i_m1 ?_
    exact r_iret hX dX12_slip_9 h
  · clear h; intro h
    refine r_aload_n hX dX12_slip_10 rfl 0 rfl ?_
    refine r_gI hX dX12_slip_11 kf_X12_182 rfl h ?_
    clear h; intro t2 h
    refine r_if_ne (tgt := 22) hX dX12_slip_14 (by decide) h ?_ ?_
    · clear h; intro h
      refine r_bipush hX dX12_slip_17 kk_b_m3 ?_
      refine r_goto (tgt := 32) hX dX12_slip_19 (by decide) ?_
      refine r_sub [] rfl ?_
      exact wX12_slip_32 hX h
    · clear h; intro h
      refine r_aload_n hX dX12_slip_22 rfl 0 rfl ?_
      refine r_iload_n hX dX12_slip_23 rfl 1 rfl ?_
      refine r_iconst hX dX12_slip_24 kk_i_0 ?_
      refine r_aload_n hX dX12_slip_25 rfl 0 rfl ?_
      refine r_gI hX dX12_slip_26 kf_X12_182 rfl h ?_
      clear h; intro t3 h
      refine r_cVi (As := [.int l1, .int (0 : Int32), .int t3]) (st := []) hX dX12_slip_29 kl_X12_priceOf w_ml_X12_272 w_im_X12_priceOf w_se_X12_priceOf ⟨_, _, rfl⟩ (by decide) rfl (Nat.le_of_ble_eq_true rfl) rfl kdz0 h (fun r σ1 h => wX12_priceOf h) ?_
      clear h; intro t4 σ h
      refine r_sub [] rfl ?_
      exact wX12_slip_32 hX h
def X12_isAhead_35 (G : kdS) (s0 : Int32) : kdM → Option (Int32 × kdM) :=
  rt (vp_nar .boolean s0)
set_option maxRecDepth 100000 in
set_option maxHeartbeats 4000000 in
theorem wX12_isAhead_35 {E : kdE} {G : kdS} {A : kdA} {r : Int32} {σ1 : kdM} (hX : kdX E A cX12_isAhead 3 RX12 (some .boolean) 0) {σ : kdM} {s0 : Int32} (h : X12_isAhead_35 G s0 σ = some (r, σ1)) : SW E G (.inl (some (.int r), σ1)) A 3 σ 35 [] [.int s0] := by
  unfold X12_isAhead_35 at h
  exact r_zret hX dX12_isAhead_35 h
def X12_isAhead_76 (G : kdS) (s0 : Int32) : kdM → Option (Int32 × kdM) :=
  rt (vp_nar .boolean s0)
set_option maxRecDepth 100000 in
set_option maxHeartbeats 4000000 in
theorem wX12_isAhead_76 {E : kdE} {G : kdS} {A : kdA} {r : Int32} {σ1 : kdM} (hX : kdX E A cX12_isAhead 3 RX12 (some .boolean) 0) {σ : kdM} {s0 : Int32} (h : X12_isAhead_76 G s0 σ = some (r, σ1)) : SW E G (.inl (some (.int r), σ1)) A 3 σ 76 [] [.int s0] := by
  unfold X12_isAhead_76 at h
  exact r_zret hX dX12_isAhead_76 h
def X12_isAhead_71 (G : kdS) : kdM → Option (Int32 × kdM) :=
  X12_isAhead_76 G (1 : Int32)
set_option maxRecDepth 100000 in
set_option maxHeartbeats 4000000 in
theorem wX12_isAhead_71 {E : kdE} {G : kdS} {A : kdA} {r : Int32} {σ1 : kdM} (hX : kdX E A cX12_isAhead 3 RX12 (some .boolean) 0) {σ : kdM} (h : X12_isAhead_71 G  σ = some (r, σ1)) : SW E G (.inl (some (.int r), σ1)) A 3 σ 71 [] [] := by
  unfold X12_isAhead_71 at h
  refine r_iconst hX dX12_isAhead_71 kk_i_1 ?_
  refine r_goto (tgt := 76) hX dX12_isAhead_72 (by decide) ?_
  refine r_sub [] rfl ?_
  exact wX12_isAhead_76 hX h
def X12_isAhead_75 (G : kdS) : kdM → Option (Int32 × kdM) :=
  X12_isAhead_76 G (0 : Int32)
set_option maxRecDepth 100000 in
set_option maxHeartbeats 4000000 in
theorem wX12_isAhead_75 {E : kdE} {G : kdS} {A : kdA} {r : Int32} {σ1 : kdM} (hX : kdX E A cX12_isAhead 3 RX12 (some .boolean) 0) {σ : kdM} (h : X12_isAhead_75 G  σ = some (r, σ1)) : SW E G (.inl (some (.int r), σ1)) A 3 σ 75 [] [] := by
  unfold X12_isAhead_75 at h
  refine r_iconst hX dX12_isAhead_75 kk_i_0 ?_
  refine r_sub [] rfl ?_
  exact wX12_isAhead_76 hX h
def X12_isAhead (G : kdS) (l0 : Nat) (l1 : Int32) (l2 : Int32) : kdM → Option (Int32 × kdM) :=
  gR G 12 33 l0 fun t1 =>
  aI G t1 (l1) fun t2 =>
  gR G 12 33 l0 fun t3 =>
  aI G t3 (l2) fun t4 =>
  cnd (t2 = t4)
    (gR G 12 34 l0 fun t5 =>
    aI G t5 (l1) fun t6 =>
    gR G 12 34 l0 fun t7 =>
    aI G t7 (l2) fun t8 =>
    cnd (t8 < t6)
      (X12_isAhead_71 G )
      (gR G 12 34 l0 fun t9 =>
      aI G t9 (l1) fun t10 =>
      gR G 12 34 l0 fun t11 =>
      aI G t11 (l2) fun t12 =>
      cnd (t10 = t12)
        (cnd (l2 ≤ l1)
          (X12_isAhead_75 G )
          (X12_isAhead_71 G ))
        (X12_isAhead_75 G )))
    (gR G 12 33 l0 fun t13 =>
    aI G t13 (l1) fun t14 =>
    gR G 12 33 l0 fun t15 =>
    aI G t15 (l2) fun t16 =>
    cnd (t16 ≤ t14)
      (X12_isAhead_35 G (0 : Int32))
      (X12_isAhead_35 G (1 : Int32)))
set_option maxRecDepth 100000 in
set_option maxHeartbeats 4000000 in
theorem wX12_isAhead {E : kdE} {G : kdS} {l0 : Nat} {l1 : Int32} {l2 : Int32} {σ : kdM} {r : Int32} {σ1 : kdM} (h : X12_isAhead G l0 l1 l2 σ = some (r, σ1)) : Con E G yX12_isAhead cX12_isAhead 3 (some .boolean) 0 [kr E l0, .int l1, .int l2] σ (some (.int r), σ1) := by
  refine kd_head (own := RX12) rfl (by decide +kernel) (Nat.le_of_ble_eq_true rfl) (fun A hX => ?_)
  show SW E G (.inl (some (.int r), σ1)) A 3 σ 0 [(0, kr E l0), (1, .int l1), (2, .int l2)] []
  unfold X12_isAhead at h
  refine r_aload_n hX dX12_isAhead_0 rfl 0 rfl ?_
  refine r_gR hX dX12_isAhead_1 kf_X12_86 rfl h ?_
  clear h; intro t1 h
  refine r_iload_n hX dX12_isAhead_4 rfl 1 rfl ?_
  refine r_aI hX dX12_isAhead_5 h ?_
  clear h; intro t2 h
  refine r_aload_n hX dX12_isAhead_6 rfl 0 rfl ?_
  refine r_gR hX dX12_isAhead_7 kf_X12_86 rfl h ?_
  clear h; intro t3 h
  refine r_iload_n hX dX12_isAhead_10 rfl 2 rfl ?_
  refine r_aI hX dX12_isAhead_11 h ?_
  clear h; intro t4 h
  refine r_icmp_eq (tgt := 36) hX dX12_isAhead_12 (by decide) h ?_ ?_
  · clear h; intro h
    refine r_aload_n hX dX12_isAhead_36 rfl 0 rfl ?_
    refine r_gR hX dX12_isAhead_37 kf_X12_89 rfl h ?_
    clear h; intro t5 h
    refine r_iload_n hX dX12_isAhead_40 rfl 1 rfl ?_
    refine r_aI hX dX12_isAhead_41 h ?_
    clear h; intro t6 h
    refine r_aload_n hX dX12_isAhead_42 rfl 0 rfl ?_
    refine r_gR hX dX12_isAhead_43 kf_X12_89 rfl h ?_
    clear h; intro t7 h
    refine r_iload_n hX dX12_isAhead_46 rfl 2 rfl ?_
    refine r_aI hX dX12_isAhead_47 h ?_
    clear h; intro t8 h
    refine r_icmp_gt (tgt := 71) hX dX12_isAhead_48 (by decide) h ?_ ?_
    · clear h; intro h
      refine r_sub [] rfl ?_
      exact wX12_isAhead_71 hX h
    · clear h; intro h
      refine r_aload_n hX dX12_isAhead_51 rfl 0 rfl ?_
      refine r_gR hX dX12_isAhead_52 kf_X12_89 rfl h ?_
      clear h; intro t9 h
      refine r_iload_n hX dX12_isAhead_55 rfl 1 rfl ?_
      refine r_aI hX dX12_isAhead_56 h ?_
      clear h; intro t10 h
      refine r_aload_n hX dX12_isAhead_57 rfl 0 rfl ?_
      refine r_gR hX dX12_isAhead_58 kf_X12_89 rfl h ?_
      clear h; intro t11 h
      refine r_iload_n hX dX12_isAhead_61 rfl 2 rfl ?_
      refine r_aI hX dX12_isAhead_62 h ?_
      clear h; intro t12 h
      refine r_icmp_ne (tgt := 75) hX dX12_isAhead_63 (by decide) h ?_ ?_
      · clear h; intro h
        refine r_iload_n hX dX12_isAhead_66 rfl 1 rfl ?_
        refine r_iload_n hX dX12_isAhead_67 rfl 2 rfl ?_
        refine r_icmp_ge (tgt := 75) hX dX12_isAhead_68 (by decide) h ?_ ?_
        · clear h; intro h
          refine r_sub [] rfl ?_
          exact wX12_isAhead_75 hX h
        · clear h; intro h
          refine r_sub [] rfl ?_
          exact wX12_isAhead_71 hX h
      · clear h; intro h
        refine r_sub [] rfl ?_
        exact wX12_isAhead_75 hX h
  · clear h; intro h
    refine r_aload_n hX dX12_isAhead_15 rfl 0 rfl ?_
    refine r_gR hX dX12_isAhead_16 kf_X12_86 rfl h ?_
    clear h; intro t13 h
    refine r_iload_n hX dX12_isAhead_19 rfl 1 rfl ?_
    refine r_aI hX dX12_isAhead_20 h ?_
    clear h; intro t14 h
    refine r_aload_n hX dX12_isAhead_21 rfl 0 rfl ?_
    refine r_gR hX dX12_isAhead_22 kf_X12_86 rfl h ?_
    clear h; intro t15 h
    refine r_iload_n hX dX12_isAhead_25 rfl 2 rfl ?_
    refine r_aI hX dX12_isAhead_26 h ?_
    clear h; intro t16 h
    refine r_icmp_ge (tgt := 34) hX dX12_isAhead_27 (by decide) h ?_ ?_
    · clear h; intro h
      refine r_iconst hX dX12_isAhead_34 kk_i_0 ?_
      refine r_sub [] rfl ?_
      exact wX12_isAhead_35 hX h
    · clear h; intro h
      refine r_iconst hX dX12_isAhead_30 kk_i_1 ?_
      refine r_goto (tgt := 35) hX dX12_isAhead_31 (by decide) ?_
      refine r_sub [] rfl ?_
      exact wX12_isAhead_35 hX h
def X12_worthOf_109 (G : kdS) (k6 : Nat → Int32 → Int32 → Int32 → Int32 → Int32 → kdM → Option (Int32 × kdM)) (l0 : Nat) (l1 : Int32) (l2 : Int32) (l3 : Int32) (l4 : Int32) (l5 : Int32) : kdM → Option (Int32 × kdM) :=
  ltI (l5 + Int32.ofInt 1) fun t1 =>
  k6 l0 l1 l2 l3 l4 t1
set_option maxRecDepth 100000 in
set_option maxHeartbeats 4000000 in
theorem wX12_worthOf_109 {E : kdE} {G : kdS} {A : kdA} {r : Int32} {σ1 : kdM} (hX : kdX E A cX12_worthOf 8 RX12 (some .int) 0) (k6 : Nat → Int32 → Int32 → Int32 → Int32 → Int32 → kdM → Option (Int32 × kdM)) (hk6 : ∀ (l0 : Nat) (l1 : Int32) (l2 : Int32) (l3 : Int32) (l4 : Int32) (l5 : Int32) (σ : kdM), k6 l0 l1 l2 l3 l4 l5 σ = some (r, σ1) → SW E G (.inl (some (.int r), σ1)) A 8 σ 6 [(0, kr E l0), (1, .int l1), (2, .int l2), (3, .int l3), (4, .int l4), (5, .int l5)] []) {σ : kdM} {l0 : Nat} {l1 : Int32} {l2 : Int32} {l3 : Int32} {l4 : Int32} {l5 : Int32} (h : X12_worthOf_109 G k6 l0 l1 l2 l3 l4 l5 σ = some (r, σ1)) : SW E G (.inl (some (.int r), σ1)) A 8 σ 109 [(0, kr E l0), (1, .int l1), (2, .int l2), (3, .int l3), (4, .int l4), (5, .int l5)] [] := by
  unfold X12_worthOf_109 at h
  refine r_iincL (L2 := fun t1 => [(5, .int t1), (0, kr E l0), (1, .int l1), (2, .int l2), (3, .int l3), (4, .int l4)]) hX dX12_worthOf_109 h 5 rfl (by decide) (fun _ => rfl) ?_
  clear h; intro t1 h
  refine r_goto (tgt := 6) hX dX12_worthOf_112 (by decide) ?_
  refine r_sub [1, 2, 3, 4, 5, 0] rfl ?_
  exact hk6 _ _ _ _ _ _ _ h
def X12_worthOf_102 (G : kdS) (k6 : Nat → Int32 → Int32 → Int32 → Int32 → Int32 → kdM → Option (Int32 × kdM)) (l0 : Nat) (l1 : Int32) (l2 : Int32) (l3 : Int32) (l4 : Int32) (l5 : Int32) (l6 : Int32) : kdM → Option (Int32 × kdM) :=
  ltI ((l4 + l6)) fun t1 =>
  X12_worthOf_109 G k6 l0 l1 l2 l3 t1 l5
set_option maxRecDepth 100000 in
set_option maxHeartbeats 4000000 in
theorem wX12_worthOf_102 {E : kdE} {G : kdS} {A : kdA} {r : Int32} {σ1 : kdM} (hX : kdX E A cX12_worthOf 8 RX12 (some .int) 0) (k6 : Nat → Int32 → Int32 → Int32 → Int32 → Int32 → kdM → Option (Int32 × kdM)) (hk6 : ∀ (l0 : Nat) (l1 : Int32) (l2 : Int32) (l3 : Int32) (l4 : Int32) (l5 : Int32) (σ : kdM), k6 l0 l1 l2 l3 l4 l5 σ = some (r, σ1) → SW E G (.inl (some (.int r), σ1)) A 8 σ 6 [(0, kr E l0), (1, .int l1), (2, .int l2), (3, .int l3), (4, .int l4), (5, .int l5)] []) {σ : kdM} {l0 : Nat} {l1 : Int32} {l2 : Int32} {l3 : Int32} {l4 : Int32} {l5 : Int32} {l6 : Int32} (h : X12_worthOf_102 G k6 l0 l1 l2 l3 l4 l5 l6 σ = some (r, σ1)) : SW E G (.inl (some (.int r), σ1)) A 8 σ 102 [(0, kr E l0), (1, .int l1), (2, .int l2), (3, .int l3), (4, .int l4), (5, .int l5), (6, .int l6)] [] := by
  unfold X12_worthOf_102 at h
  refine r_iload hX dX12_worthOf_102 4 rfl ?_
  refine r_iload hX dX12_worthOf_104 6 rfl ?_
  refine r_iadd hX dX12_worthOf_106 ?_
  refine r_letI h ?_
  clear h; intro t1 h
  refine r_istore (L2 := [(4, .int t1), (0, kr E l0), (1, .int l1), (2, .int l2), (3, .int l3), (5, .int l5), (6, .int l6)]) hX dX12_worthOf_107 (by decide) rfl ?_
  refine r_sub [1, 2, 3, 4, 0, 5] rfl ?_
  exact wX12_worthOf_109 hX k6 hk6 h
def X12_worthOf_62B (G : kdS) (k6 : Nat → Int32 → Int32 → Int32 → Int32 → Int32 → kdM → Option (Int32 × kdM)) (k62 : Nat → Int32 → Int32 → Int32 → Int32 → Int32 → Int32 → Int32 → kdM → Option (Int32 × kdM)) (l0 : Nat) (l1 : Int32) (l2 : Int32) (l3 : Int32) (l4 : Int32) (l5 : Int32) (l6 : Int32) (l7 : Int32) : kdM → Option (Int32 × kdM) :=
  cnd (l3 ≤ l7)
    (X12_worthOf_102 G k6 l0 l1 l2 l3 l4 l5 l6)
    (cnd (l6 ≤ 0)
      (X12_worthOf_102 G k6 l0 l1 l2 l3 l4 l5 l6)
      (gI G 12 52 l0 fun t1 =>
      cnd ((1000 : Int32) ≤ t1)
        (X12_worthOf_102 G k6 l0 l1 l2 l3 l4 l5 l6)
        (gI G 12 52 l0 fun t2 =>
        nz (1000 : Int32) <|
        ltI (((l6 * t2) / (1000 : Int32))) fun t3 =>
        ltI (l7 + Int32.ofInt 1) fun t4 =>
        k62 l0 l1 l2 l3 l4 l5 t3 t4)))
set_option maxRecDepth 100000 in
set_option maxHeartbeats 4000000 in
theorem wX12_worthOf_62B {E : kdE} {G : kdS} {A : kdA} {r : Int32} {σ1 : kdM} (hX : kdX E A cX12_worthOf 8 RX12 (some .int) 0) (k6 : Nat → Int32 → Int32 → Int32 → Int32 → Int32 → kdM → Option (Int32 × kdM)) (k62 : Nat → Int32 → Int32 → Int32 → Int32 → Int32 → Int32 → Int32 → kdM → Option (Int32 × kdM)) (hk6 : ∀ (l0 : Nat) (l1 : Int32) (l2 : Int32) (l3 : Int32) (l4 : Int32) (l5 : Int32) (σ : kdM), k6 l0 l1 l2 l3 l4 l5 σ = some (r, σ1) → SW E G (.inl (some (.int r), σ1)) A 8 σ 6 [(0, kr E l0), (1, .int l1), (2, .int l2), (3, .int l3), (4, .int l4), (5, .int l5)] []) (hk62 : ∀ (l0 : Nat) (l1 : Int32) (l2 : Int32) (l3 : Int32) (l4 : Int32) (l5 : Int32) (l6 : Int32) (l7 : Int32) (σ : kdM), k62 l0 l1 l2 l3 l4 l5 l6 l7 σ = some (r, σ1) → SW E G (.inl (some (.int r), σ1)) A 8 σ 62 [(0, kr E l0), (1, .int l1), (2, .int l2), (3, .int l3), (4, .int l4), (5, .int l5), (6, .int l6), (7, .int l7)] []) {σ : kdM} {l0 : Nat} {l1 : Int32} {l2 : Int32} {l3 : Int32} {l4 : Int32} {l5 : Int32} {l6 : Int32} {l7 : Int32} (h : X12_worthOf_62B G k6 k62 l0 l1 l2 l3 l4 l5 l6 l7 σ = some (r, σ1)) : SW E G (.inl (some (.int r), σ1)) A 8 σ 62 [(0, kr E l0), (1, .int l1), (2, .int l2), (3, .int l3), (4, .int l4), (5, .int l5), (6, .int l6), (7, .int l7)] [] := by
  unfold X12_worthOf_62B at h
  refine r_iload hX dX12_worthOf_62 7 rfl ?_
  refine r_iload_n hX dX12_worthOf_64 rfl 3 rfl ?_
  refine r_icmp_ge (tgt := 102) hX dX12_worthOf_65 (by decide) h ?_ ?_
  · clear h; intro h
    refine r_sub [0, 1, 2, 3, 4, 5, 6] rfl ?_
    exact wX12_worthOf_102 hX k6 hk6 h
  · clear h; intro h
    refine r_iload hX dX12_worthOf_68 6 rfl ?_
    refine r_if_le (tgt := 102) hX dX12_worthOf_70 (by decide) h ?_ ?_
    · clear h; intro h
      refine r_sub [0, 1, 2, 3, 4, 5, 6] rfl ?_
      exact wX12_worthOf_102 hX k6 hk6 h
    · clear h; intro h
      refine r_aload_n hX dX12_worthOf_73 rfl 0 rfl ?_
      refine r_gI hX dX12_worthOf_74 kf_X12_135 rfl h ?_
      clear h; intro t1 h
      refine r_sipush hX dX12_worthOf_77 kk_s_1000 ?_
      refine r_icmp_ge (tgt := 102) hX dX12_worthOf_80 (by decide) h ?_ ?_
      · clear h; intro h
        refine r_sub [0, 1, 2, 3, 4, 5, 6] rfl ?_
        exact wX12_worthOf_102 hX k6 hk6 h
      · clear h; intro h
        refine r_iload hX dX12_worthOf_83 6 rfl ?_
        refine r_aload_n hX dX12_worthOf_85 rfl 0 rfl ?_
        refine r_gI hX dX12_worthOf_86 kf_X12_135 rfl h ?_
        clear h; intro t2 h
        refine r_imul hX dX12_worthOf_89 ?_
        refine r_sipush hX dX12_worthOf_90 kk_s_1000 ?_
        refine r_idiv hX dX12_worthOf_93 h ?_
        clear h; intro h
        refine r_letI h ?_
        clear h; intro t3 h
        refine r_istore (L2 := [(6, .int t3), (0, kr E l0), (1, .int l1), (2, .int l2), (3, .int l3), (4, .int l4), (5, .int l5), (7, .int l7)]) hX dX12_worthOf_94 (by decide) rfl ?_
        refine r_iincL (L2 := fun t4 => [(7, .int t4), (6, .int t3), (0, kr E l0), (1, .int l1), (2, .int l2), (3, .int l3), (4, .int l4), (5, .int l5)]) hX dX12_worthOf_96 h 7 rfl (by decide) (fun _ => rfl) ?_
        clear h; intro t4 h
        refine r_goto (tgt := 62) hX dX12_worthOf_99 (by decide) ?_
        refine r_sub [2, 3, 4, 5, 6, 7, 1, 0] rfl ?_
        exact hk62 _ _ _ _ _ _ _ _ _ h
def X12_worthOf_62 (G : kdS) (k6 : Nat → Int32 → Int32 → Int32 → Int32 → Int32 → kdM → Option (Int32 × kdM)) : Nat → Int32 → Int32 → Int32 → Int32 → Int32 → Int32 → Int32 → kdM → Option (Int32 × kdM) := lp (fun _ _ _ _ _ _ _ _ _ => none) (X12_worthOf_62B G k6) NN
theorem wX12_worthOf_62 {E : kdE} {G : kdS} {A : kdA} {r : Int32} {σ1 : kdM} (hX : kdX E A cX12_worthOf 8 RX12 (some .int) 0) (k6 : Nat → Int32 → Int32 → Int32 → Int32 → Int32 → kdM → Option (Int32 × kdM)) (hk6 : ∀ (l0 : Nat) (l1 : Int32) (l2 : Int32) (l3 : Int32) (l4 : Int32) (l5 : Int32) (σ : kdM), k6 l0 l1 l2 l3 l4 l5 σ = some (r, σ1) → SW E G (.inl (some (.int r), σ1)) A 8 σ 6 [(0, kr E l0), (1, .int l1), (2, .int l2), (3, .int l3), (4, .int l4), (5, .int l5)] []) : ∀ (l0 : Nat) (l1 : Int32) (l2 : Int32) (l3 : Int32) (l4 : Int32) (l5 : Int32) (l6 : Int32) (l7 : Int32) (σ : kdM), X12_worthOf_62 G k6 l0 l1 l2 l3 l4 l5 l6 l7 σ = some (r, σ1) → SW E G (.inl (some (.int r), σ1)) A 8 σ 62 [(0, kr E l0), (1, .int l1), (2, .int l2), (3, .int l3), (4, .int l4), (5, .int l5), (6, .int l6), (7, .int l7)] [] :=
  lp_ind (Q := fun f => ∀ (l0 : Nat) (l1 : Int32) (l2 : Int32) (l3 : Int32) (l4 : Int32) (l5 : Int32) (l6 : Int32) (l7 : Int32) (σ : kdM), f l0 l1 l2 l3 l4 l5 l6 l7 σ = some (r, σ1) → SW E G (.inl (some (.int r), σ1)) A 8 σ 62 [(0, kr E l0), (1, .int l1), (2, .int l2), (3, .int l3), (4, .int l4), (5, .int l5), (6, .int l6), (7, .int l7)] []) (by intros; contradiction) (fun k hk l0 l1 l2 l3 l4 l5 l6 l7 σ h => wX12_worthOf_62B hX k6 k hk6 hk h) NN
def X12_worthOf_6B (G : kdS) (k6 : Nat → Int32 → Int32 → Int32 → Int32 → Int32 → kdM → Option (Int32 × kdM)) (l0 : Nat) (l1 : Int32) (l2 : Int32) (l3 : Int32) (l4 : Int32) (l5 : Int32) : kdM → Option (Int32 × kdM) :=
  gI G 12 51 l0 fun t1 =>
  cnd (t1 ≤ l5)
    (rt l4)
    (gR G 12 48 l0 fun t2 =>
    aI G t2 (l5) fun t3 =>
    cnd (t3 = l1)
      (gR G 12 49 l0 fun t4 =>
      aI G t4 (l5) fun t5 =>
      cnd (t5 = l2)
        (gR G 12 50 l0 fun t6 =>
        aI G t6 (l5) fun t7 =>
        cnd (l3 < t7)
          (X12_worthOf_109 G k6 l0 l1 l2 l3 l4 l5)
          (gR G 12 50 l0 fun t8 =>
          aI G t8 (l5) fun t9 =>
          X12_worthOf_62 G k6 l0 l1 l2 l3 l4 l5 (1000 : Int32) t9))
        (X12_worthOf_109 G k6 l0 l1 l2 l3 l4 l5))
      (X12_worthOf_109 G k6 l0 l1 l2 l3 l4 l5))
set_option maxRecDepth 100000 in
set_option maxHeartbeats 4000000 in
theorem wX12_worthOf_6B {E : kdE} {G : kdS} {A : kdA} {r : Int32} {σ1 : kdM} (hX : kdX E A cX12_worthOf 8 RX12 (some .int) 0) (k6 : Nat → Int32 → Int32 → Int32 → Int32 → Int32 → kdM → Option (Int32 × kdM)) (hk6 : ∀ (l0 : Nat) (l1 : Int32) (l2 : Int32) (l3 : Int32) (l4 : Int32) (l5 : Int32) (σ : kdM), k6 l0 l1 l2 l3 l4 l5 σ = some (r, σ1) → SW E G (.inl (some (.int r), σ1)) A 8 σ 6 [(0, kr E l0), (1, .int l1), (2, .int l2), (3, .int l3), (4, .int l4), (5, .int l5)] []) {σ : kdM} {l0 : Nat} {l1 : Int32} {l2 : Int32} {l3 : Int32} {l4 : Int32} {l5 : Int32} (h : X12_worthOf_6B G k6 l0 l1 l2 l3 l4 l5 σ = some (r, σ1)) : SW E G (.inl (some (.int r), σ1)) A 8 σ 6 [(0, kr E l0), (1, .int l1), (2, .int l2), (3, .int l3), (4, .int l4), (5, .int l5)] [] := by
  unfold X12_worthOf_6B at h
  refine r_iload hX dX12_worthOf_6 5 rfl ?_
  refine r_aload_n hX dX12_worthOf_8 rfl 0 rfl ?_
  refine r_gI hX dX12_worthOf_9 kf_X12_360 rfl h ?_
  clear h; intro t1 h
  refine r_icmp_ge (tgt := 115) hX dX12_worthOf_12 (by decide) h ?_ ?_
  · clear h; intro h
    refine r_iload hX dX12_worthOf_115 4 rfl ?_
    exact r_iret hX dX12_worthOf_117 h
  · clear h; intro h
    refine r_aload_n hX dX12_worthOf_15 rfl 0 rfl ?_
    refine r_gR hX dX12_worthOf_16 kf_X12_126 rfl h ?_
    clear h; intro t2 h
    refine r_iload hX dX12_worthOf_19 5 rfl ?_
    refine r_aI hX dX12_worthOf_21 h ?_
    clear h; intro t3 h
    refine r_iload_n hX dX12_worthOf_22 rfl 1 rfl ?_
    refine r_icmp_ne (tgt := 109) hX dX12_worthOf_23 (by decide) h ?_ ?_
    · clear h; intro h
      refine r_aload_n hX dX12_worthOf_26 rfl 0 rfl ?_
      refine r_gR hX dX12_worthOf_27 kf_X12_129 rfl h ?_
      clear h; intro t4 h
      refine r_iload hX dX12_worthOf_30 5 rfl ?_
      refine r_aI hX dX12_worthOf_32 h ?_
      clear h; intro t5 h
      refine r_iload_n hX dX12_worthOf_33 rfl 2 rfl ?_
      refine r_icmp_ne (tgt := 109) hX dX12_worthOf_34 (by decide) h ?_ ?_
      · clear h; intro h
        refine r_aload_n hX dX12_worthOf_37 rfl 0 rfl ?_
        refine r_gR hX dX12_worthOf_38 kf_X12_132 rfl h ?_
        clear h; intro t6 h
        refine r_iload hX dX12_worthOf_41 5 rfl ?_
        refine r_aI hX dX12_worthOf_43 h ?_
        clear h; intro t7 h
        refine r_iload_n hX dX12_worthOf_44 rfl 3 rfl ?_
        refine r_icmp_gt (tgt := 109) hX dX12_worthOf_45 (by decide) h ?_ ?_
        · clear h; intro h
          refine r_sub [0, 1, 2, 3, 4, 5] rfl ?_
          exact wX12_worthOf_109 hX k6 hk6 h
        · clear h; intro h
          refine r_sipush hX dX12_worthOf_48 kk_s_1000 ?_
          refine r_istore (L2 := [(6, .int (1000 : Int32)), (0, kr E l0), (1, .int l1), (2, .int l2), (3, .int l3), (4, .int l4), (5, .int l5)]) hX dX12_worthOf_51 (by decide) rfl ?_
          refine r_aload_n hX dX12_worthOf_53 rfl 1 rfl ?_
          refine r_gR hX dX12_worthOf_54 kf_X12_132 rfl h ?_
          clear h; intro t8 h
          refine r_iload hX dX12_worthOf_57 6 rfl ?_
          refine r_aI hX dX12_worthOf_59 h ?_
          clear h; intro t9 h
          refine r_istore (L2 := [(7, .int t9), (6, .int (1000 : Int32)), (0, kr E l0), (1, .int l1), (2, .int l2), (3, .int l3), (4, .int l4), (5, .int l5)]) hX dX12_worthOf_60 (by decide) rfl ?_
          refine r_sub [2, 3, 4, 5, 6, 7, 1, 0] rfl ?_
          exact wX12_worthOf_62 hX k6 hk6 _ _ _ _ _ _ _ _ _ h
      · clear h; intro h
        refine r_sub [0, 1, 2, 3, 4, 5] rfl ?_
        exact wX12_worthOf_109 hX k6 hk6 h
    · clear h; intro h
      refine r_sub [0, 1, 2, 3, 4, 5] rfl ?_
      exact wX12_worthOf_109 hX k6 hk6 h
def X12_worthOf_6 (G : kdS) : Nat → Int32 → Int32 → Int32 → Int32 → Int32 → kdM → Option (Int32 × kdM) := lp (fun _ _ _ _ _ _ _ => none) (X12_worthOf_6B G) NN
theorem wX12_worthOf_6 {E : kdE} {G : kdS} {A : kdA} {r : Int32} {σ1 : kdM} (hX : kdX E A cX12_worthOf 8 RX12 (some .int) 0) : ∀ (l0 : Nat) (l1 : Int32) (l2 : Int32) (l3 : Int32) (l4 : Int32) (l5 : Int32) (σ : kdM), X12_worthOf_6 G l0 l1 l2 l3 l4 l5 σ = some (r, σ1) → SW E G (.inl (some (.int r), σ1)) A 8 σ 6 [(0, kr E l0), (1, .int l1), (2, .int l2), (3, .int l3), (4, .int l4), (5, .int l5)] [] :=
  lp_ind (Q := fun f => ∀ (l0 : Nat) (l1 : Int32) (l2 : Int32) (l3 : Int32) (l4 : Int32) (l5 : Int32) (σ : kdM), f l0 l1 l2 l3 l4 l5 σ = some (r, σ1) → SW E G (.inl (some (.int r), σ1)) A 8 σ 6 [(0, kr E l0), (1, .int l1), (2, .int l2), (3, .int l3), (4, .int l4), (5, .int l5)] []) (by intros; contradiction) (fun k hk l0 l1 l2 l3 l4 l5 σ h => wX12_worthOf_6B hX k hk h) NN
def X12_worthOf (G : kdS) (l0 : Nat) (l1 : Int32) (l2 : Int32) (l3 : Int32) : kdM → Option (Int32 × kdM) :=
  X12_worthOf_6 G l0 l1 l2 l3 (0 : Int32) (0 : Int32)
set_option maxRecDepth 100000 in
set_option maxHeartbeats 4000000 in
theorem wX12_worthOf {E : kdE} {G : kdS} {l0 : Nat} {l1 : Int32} {l2 : Int32} {l3 : Int32} {σ : kdM} {r : Int32} {σ1 : kdM} (h : X12_worthOf G l0 l1 l2 l3 σ = some (r, σ1)) : Con E G yX12_worthOf cX12_worthOf 8 (some .int) 0 [kr E l0, .int l1, .int l2, .int l3] σ (some (.int r), σ1) := by
  refine kd_head (own := RX12) rfl (by decide +kernel) (Nat.le_of_ble_eq_true rfl) (fun A hX => ?_)
  show SW E G (.inl (some (.int r), σ1)) A 8 σ 0 [(0, kr E l0), (1, .int l1), (2, .int l2), (3, .int l3)] []
  unfold X12_worthOf at h
  refine r_iconst hX dX12_worthOf_0 kk_i_0 ?_
  refine r_istore (L2 := [(4, .int (0 : Int32)), (0, kr E l0), (1, .int l1), (2, .int l2), (3, .int l3)]) hX dX12_worthOf_1 (by decide) rfl ?_
  refine r_iconst hX dX12_worthOf_3 kk_i_0 ?_
  refine r_istore (L2 := [(5, .int (0 : Int32)), (4, .int (0 : Int32)), (0, kr E l0), (1, .int l1), (2, .int l2), (3, .int l3)]) hX dX12_worthOf_4 (by decide) rfl ?_
  refine r_sub [2, 3, 4, 5, 1, 0] rfl ?_
  exact wX12_worthOf_6 hX _ _ _ _ _ _ _ h
def X12_findGuesses_173 (G : kdS) (k8 : Nat → Int32 → Int32 → Int32 → Int32 → Int32 → kdM → Option (Unit × kdM)) (l0 : Nat) (l1 : Int32) (l2 : Int32) (l3 : Int32) (l4 : Int32) (l5 : Int32) : kdM → Option (Unit × kdM) :=
  ltI (l5 + Int32.ofInt 1) fun t1 =>
  k8 l0 l1 l2 l3 l4 t1
set_option maxRecDepth 100000 in
set_option maxHeartbeats 4000000 in
theorem wX12_findGuesses_173 {E : kdE} {G : kdS} {A : kdA} {r : Unit} {σ1 : kdM} (hX : kdX E A cX12_findGuesses 7 RX12 none 4) (k8 : Nat → Int32 → Int32 → Int32 → Int32 → Int32 → kdM → Option (Unit × kdM)) (hk8 : ∀ (l0 : Nat) (l1 : Int32) (l2 : Int32) (l3 : Int32) (l4 : Int32) (l5 : Int32) (σ : kdM), k8 l0 l1 l2 l3 l4 l5 σ = some (r, σ1) → SW E G (.inl (none, σ1)) A 7 σ 8 [(0, kr E l0), (1, .int l1), (2, .int l2), (3, .int l3), (4, .int l4), (5, .int l5)] []) {σ : kdM} {l0 : Nat} {l1 : Int32} {l2 : Int32} {l3 : Int32} {l4 : Int32} {l5 : Int32} (h : X12_findGuesses_173 G k8 l0 l1 l2 l3 l4 l5 σ = some (r, σ1)) : SW E G (.inl (none, σ1)) A 7 σ 173 [(0, kr E l0), (1, .int l1), (2, .int l2), (3, .int l3), (4, .int l4), (5, .int l5)] [] := by
  unfold X12_findGuesses_173 at h
  refine r_iincL (L2 := fun t1 => [(5, .int t1), (0, kr E l0), (1, .int l1), (2, .int l2), (3, .int l3), (4, .int l4)]) hX dX12_findGuesses_173 h 5 rfl (by decide) (fun _ => rfl) ?_
  clear h; intro t1 h
  refine r_goto (tgt := 8) hX dX12_findGuesses_176 (by decide) ?_
  refine r_sub [1, 2, 3, 4, 5, 0] rfl ?_
  exact hk8 _ _ _ _ _ _ _ h
def X12_findGuesses_154 (G : kdS) (k8 : Nat → Int32 → Int32 → Int32 → Int32 → Int32 → kdM → Option (Unit × kdM)) (l0 : Nat) (l1 : Int32) (l2 : Int32) (l3 : Int32) (l4 : Int32) (l5 : Int32) (l6 : Int32) : kdM → Option (Unit × kdM) :=
  gR G 12 32 l0 fun t1 =>
  tI G t1 (l6) (l5) <|
  gI G 12 35 l0 fun t2 =>
  sI G 12 35 l0 ((t2 + (1 : Int32))) <|
  X12_findGuesses_173 G k8 l0 l1 l2 l3 l4 l5
set_option maxRecDepth 100000 in
set_option maxHeartbeats 4000000 in
theorem wX12_findGuesses_154 {E : kdE} {G : kdS} {A : kdA} {r : Unit} {σ1 : kdM} (hX : kdX E A cX12_findGuesses 7 RX12 none 4) (k8 : Nat → Int32 → Int32 → Int32 → Int32 → Int32 → kdM → Option (Unit × kdM)) (hk8 : ∀ (l0 : Nat) (l1 : Int32) (l2 : Int32) (l3 : Int32) (l4 : Int32) (l5 : Int32) (σ : kdM), k8 l0 l1 l2 l3 l4 l5 σ = some (r, σ1) → SW E G (.inl (none, σ1)) A 7 σ 8 [(0, kr E l0), (1, .int l1), (2, .int l2), (3, .int l3), (4, .int l4), (5, .int l5)] []) {σ : kdM} {l0 : Nat} {l1 : Int32} {l2 : Int32} {l3 : Int32} {l4 : Int32} {l5 : Int32} {l6 : Int32} (h : X12_findGuesses_154 G k8 l0 l1 l2 l3 l4 l5 l6 σ = some (r, σ1)) : SW E G (.inl (none, σ1)) A 7 σ 154 [(0, kr E l0), (1, .int l1), (2, .int l2), (3, .int l3), (4, .int l4), (5, .int l5), (6, .int l6)] [] := by
  unfold X12_findGuesses_154 at h
  refine r_aload_n hX dX12_findGuesses_154 rfl 0 rfl ?_
  refine r_gR hX dX12_findGuesses_155 kf_X12_83 rfl h ?_
  clear h; intro t1 h
  refine r_iload hX dX12_findGuesses_158 6 rfl ?_
  refine r_iload hX dX12_findGuesses_160 5 rfl ?_
  refine r_tI hX dX12_findGuesses_162 h ?_
  clear h; intro σ h
  refine r_aload_n hX dX12_findGuesses_163 rfl 0 rfl ?_
  refine r_dup hX dX12_findGuesses_164 rfl ?_
  refine r_gI hX dX12_findGuesses_165 kf_X12_276 rfl h ?_
  clear h; intro t2 h
  refine r_iconst hX dX12_findGuesses_168 kk_i_1 ?_
  refine r_iadd hX dX12_findGuesses_169 ?_
  refine r_sI hX dX12_findGuesses_170 kf_X12_276 rfl (by intro q hq; cases hq; rfl) h ?_
  clear h; intro σ h
  refine r_sub [0, 1, 2, 3, 4, 5] rfl ?_
  exact wX12_findGuesses_173 hX k8 hk8 h
def X12_findGuesses_109B (G : kdS) (k8 : Nat → Int32 → Int32 → Int32 → Int32 → Int32 → kdM → Option (Unit × kdM)) (k109 : Nat → Int32 → Int32 → Int32 → Int32 → Int32 → Int32 → kdM → Option (Unit × kdM)) (l0 : Nat) (l1 : Int32) (l2 : Int32) (l3 : Int32) (l4 : Int32) (l5 : Int32) (l6 : Int32) : kdM → Option (Unit × kdM) :=
  cnd (l6 ≤ 0)
    (X12_findGuesses_154 G k8 l0 l1 l2 l3 l4 l5 l6)
    (gR G 12 32 l0 fun t1 =>
    aI G t1 ((l6 - (1 : Int32))) fun t2 =>
    kcv G 12 l0 (X12_isAhead G l0 l5 t2) fun t3 =>
    cnd (t3 = 0)
      (X12_findGuesses_154 G k8 l0 l1 l2 l3 l4 l5 l6)
      (gR G 12 32 l0 fun t4 =>
      gR G 12 32 l0 fun t5 =>
      aI G t5 ((l6 - (1 : Int32))) fun t6 =>
      tI G t4 (l6) (t6) <|
      ltI (l6 + Int32.ofInt (-1)) fun t7 =>
      k109 l0 l1 l2 l3 l4 l5 t7))
set_option maxRecDepth 100000 in
set_option maxHeartbeats 4000000 in
theorem wX12_findGuesses_109B {E : kdE} {G : kdS} {A : kdA} {r : Unit} {σ1 : kdM} (hX : kdX E A cX12_findGuesses 7 RX12 none 4) (k8 : Nat → Int32 → Int32 → Int32 → Int32 → Int32 → kdM → Option (Unit × kdM)) (k109 : Nat → Int32 → Int32 → Int32 → Int32 → Int32 → Int32 → kdM → Option (Unit × kdM)) (hk8 : ∀ (l0 : Nat) (l1 : Int32) (l2 : Int32) (l3 : Int32) (l4 : Int32) (l5 : Int32) (σ : kdM), k8 l0 l1 l2 l3 l4 l5 σ = some (r, σ1) → SW E G (.inl (none, σ1)) A 7 σ 8 [(0, kr E l0), (1, .int l1), (2, .int l2), (3, .int l3), (4, .int l4), (5, .int l5)] []) (hk109 : ∀ (l0 : Nat) (l1 : Int32) (l2 : Int32) (l3 : Int32) (l4 : Int32) (l5 : Int32) (l6 : Int32) (σ : kdM), k109 l0 l1 l2 l3 l4 l5 l6 σ = some (r, σ1) → SW E G (.inl (none, σ1)) A 7 σ 109 [(0, kr E l0), (1, .int l1), (2, .int l2), (3, .int l3), (4, .int l4), (5, .int l5), (6, .int l6)] []) {σ : kdM} {l0 : Nat} {l1 : Int32} {l2 : Int32} {l3 : Int32} {l4 : Int32} {l5 : Int32} {l6 : Int32} (h : X12_findGuesses_109B G k8 k109 l0 l1 l2 l3 l4 l5 l6 σ = some (r, σ1)) : SW E G (.inl (none, σ1)) A 7 σ 109 [(0, kr E l0), (1, .int l1), (2, .int l2), (3, .int l3), (4, .int l4), (5, .int l5), (6, .int l6)] [] := by
  unfold X12_findGuesses_109B at h
  refine r_iload hX dX12_findGuesses_109 6 rfl ?_
  refine r_if_le (tgt := 154) hX dX12_findGuesses_111 (by decide) h ?_ ?_
  · clear h; intro h
    refine r_sub [0, 1, 2, 3, 4, 5, 6] rfl ?_
    exact wX12_findGuesses_154 hX k8 hk8 h
  · clear h; intro h
    refine r_aload_n hX dX12_findGuesses_114 rfl 0 rfl ?_
    refine r_iload hX dX12_findGuesses_115 5 rfl ?_
    refine r_aload_n hX dX12_findGuesses_117 rfl 0 rfl ?_
    refine r_gR hX dX12_findGuesses_118 kf_X12_83 rfl h ?_
    clear h; intro t1 h
    refine r_iload hX dX12_findGuesses_121 6 rfl ?_
    refine r_iconst hX dX12_findGuesses_123 kk_i_1 ?_
    refine r_isub hX dX12_findGuesses_124 ?_
    refine r_aI hX dX12_findGuesses_125 h ?_
    clear h; intro t2 h
    refine r_cVi (As := [.int l5, .int t2]) (st := []) hX dX12_findGuesses_126 kl_X12_isAhead w_ml_X12_282 w_im_X12_isAhead w_se_X12_isAhead ⟨_, _, rfl⟩ (by decide) rfl (Nat.le_of_ble_eq_true rfl) rfl kdz0 h (fun r σ1 h => wX12_isAhead h) ?_
    clear h; intro t3 σ h
    refine r_if_eq (tgt := 154) hX dX12_findGuesses_129 (by decide) h ?_ ?_
    · clear h; intro h
      refine r_sub [0, 1, 2, 3, 4, 5, 6] rfl ?_
      exact wX12_findGuesses_154 hX k8 hk8 h
    · clear h; intro h
      refine r_aload_n hX dX12_findGuesses_132 rfl 0 rfl ?_
      refine r_gR hX dX12_findGuesses_133 kf_X12_83 rfl h ?_
      clear h; intro t4 h
      refine r_iload hX dX12_findGuesses_136 6 rfl ?_
      refine r_aload_n hX dX12_findGuesses_138 rfl 0 rfl ?_
      refine r_gR hX dX12_findGuesses_139 kf_X12_83 rfl h ?_
      clear h; intro t5 h
      refine r_iload hX dX12_findGuesses_142 6 rfl ?_
      refine r_iconst hX dX12_findGuesses_144 kk_i_1 ?_
      refine r_isub hX dX12_findGuesses_145 ?_
      refine r_aI hX dX12_findGuesses_146 h ?_
      clear h; intro t6 h
      refine r_tI hX dX12_findGuesses_147 h ?_
      clear h; intro σ h
      refine r_iincL (L2 := fun t7 => [(6, .int t7), (0, kr E l0), (1, .int l1), (2, .int l2), (3, .int l3), (4, .int l4), (5, .int l5)]) hX dX12_findGuesses_148 h 6 rfl (by decide) (fun _ => rfl) ?_
      clear h; intro t7 h
      refine r_goto (tgt := 109) hX dX12_findGuesses_151 (by decide) ?_
      refine r_sub [1, 2, 3, 4, 5, 6, 0] rfl ?_
      exact hk109 _ _ _ _ _ _ _ _ h
def X12_findGuesses_109 (G : kdS) (k8 : Nat → Int32 → Int32 → Int32 → Int32 → Int32 → kdM → Option (Unit × kdM)) : Nat → Int32 → Int32 → Int32 → Int32 → Int32 → Int32 → kdM → Option (Unit × kdM) := lp (fun _ _ _ _ _ _ _ _ => none) (X12_findGuesses_109B G k8) NN
theorem wX12_findGuesses_109 {E : kdE} {G : kdS} {A : kdA} {r : Unit} {σ1 : kdM} (hX : kdX E A cX12_findGuesses 7 RX12 none 4) (k8 : Nat → Int32 → Int32 → Int32 → Int32 → Int32 → kdM → Option (Unit × kdM)) (hk8 : ∀ (l0 : Nat) (l1 : Int32) (l2 : Int32) (l3 : Int32) (l4 : Int32) (l5 : Int32) (σ : kdM), k8 l0 l1 l2 l3 l4 l5 σ = some (r, σ1) → SW E G (.inl (none, σ1)) A 7 σ 8 [(0, kr E l0), (1, .int l1), (2, .int l2), (3, .int l3), (4, .int l4), (5, .int l5)] []) : ∀ (l0 : Nat) (l1 : Int32) (l2 : Int32) (l3 : Int32) (l4 : Int32) (l5 : Int32) (l6 : Int32) (σ : kdM), X12_findGuesses_109 G k8 l0 l1 l2 l3 l4 l5 l6 σ = some (r, σ1) → SW E G (.inl (none, σ1)) A 7 σ 109 [(0, kr E l0), (1, .int l1), (2, .int l2), (3, .int l3), (4, .int l4), (5, .int l5), (6, .int l6)] [] :=
  lp_ind (Q := fun f => ∀ (l0 : Nat) (l1 : Int32) (l2 : Int32) (l3 : Int32) (l4 : Int32) (l5 : Int32) (l6 : Int32) (σ : kdM), f l0 l1 l2 l3 l4 l5 l6 σ = some (r, σ1) → SW E G (.inl (none, σ1)) A 7 σ 109 [(0, kr E l0), (1, .int l1), (2, .int l2), (3, .int l3), (4, .int l4), (5, .int l5), (6, .int l6)] []) (by intros; contradiction) (fun k hk l0 l1 l2 l3 l4 l5 l6 σ h => wX12_findGuesses_109B hX k8 k hk8 hk h) NN
def X12_findGuesses_75 (G : kdS) (k8 : Nat → Int32 → Int32 → Int32 → Int32 → Int32 → kdM → Option (Unit × kdM)) (l0 : Nat) (l1 : Int32) (l2 : Int32) (l3 : Int32) (l4 : Int32) (l5 : Int32) (s0 : Nat) (s1 : Int32) (s2 : Int32) : kdM → Option (Unit × kdM) :=
  tI G s0 (s1) (s2) <|
  gR G 12 24 l0 fun t1 =>
  aI G t1 (l5) fun t2 =>
  cnd (((l3 >>> (t2 &&& 31)) &&& (1 : Int32)) = (1 : Int32))
    (gR G 12 33 l0 fun t3 =>
    aI G t3 (l5) fun t4 =>
    cnd (l4 < t4)
      (X12_findGuesses_173 G k8 l0 l1 l2 l3 l4 l5)
      (gI G 12 35 l0 fun t5 =>
      X12_findGuesses_109 G k8 l0 l1 l2 l3 l4 l5 t5))
    (X12_findGuesses_173 G k8 l0 l1 l2 l3 l4 l5)
set_option maxRecDepth 100000 in
set_option maxHeartbeats 4000000 in
theorem wX12_findGuesses_75 {E : kdE} {G : kdS} {A : kdA} {r : Unit} {σ1 : kdM} (hX : kdX E A cX12_findGuesses 7 RX12 none 4) (k8 : Nat → Int32 → Int32 → Int32 → Int32 → Int32 → kdM → Option (Unit × kdM)) (hk8 : ∀ (l0 : Nat) (l1 : Int32) (l2 : Int32) (l3 : Int32) (l4 : Int32) (l5 : Int32) (σ : kdM), k8 l0 l1 l2 l3 l4 l5 σ = some (r, σ1) → SW E G (.inl (none, σ1)) A 7 σ 8 [(0, kr E l0), (1, .int l1), (2, .int l2), (3, .int l3), (4, .int l4), (5, .int l5)] []) {σ : kdM} {l0 : Nat} {l1 : Int32} {l2 : Int32} {l3 : Int32} {l4 : Int32} {l5 : Int32} {s0 : Nat} {s1 : Int32} {s2 : Int32} (h : X12_findGuesses_75 G k8 l0 l1 l2 l3 l4 l5 s0 s1 s2 σ = some (r, σ1)) : SW E G (.inl (none, σ1)) A 7 σ 75 [(0, kr E l0), (1, .int l1), (2, .int l2), (3, .int l3), (4, .int l4), (5, .int l5)] [.int s2, .int s1, kr E s0] := by
  unfold X12_findGuesses_75 at h
  refine r_tI hX dX12_findGuesses_75 h ?_
  clear h; intro σ h
  refine r_iload_n hX dX12_findGuesses_76 rfl 3 rfl ?_
  refine r_aload_n hX dX12_findGuesses_77 rfl 0 rfl ?_
  refine r_gR hX dX12_findGuesses_78 kf_X12_62 rfl h ?_
  clear h; intro t1 h
  refine r_iload hX dX12_findGuesses_81 5 rfl ?_
  refine r_aI hX dX12_findGuesses_83 h ?_
  clear h; intro t2 h
  refine r_ishr hX dX12_findGuesses_84 ?_
  refine r_iconst hX dX12_findGuesses_85 kk_i_1 ?_
  refine r_iand hX dX12_findGuesses_86 ?_
  refine r_iconst hX dX12_findGuesses_87 kk_i_1 ?_
  refine r_icmp_ne (tgt := 173) hX dX12_findGuesses_88 (by decide) h ?_ ?_
  · clear h; intro h
    refine r_aload_n hX dX12_findGuesses_91 rfl 0 rfl ?_
    refine r_gR hX dX12_findGuesses_92 kf_X12_86 rfl h ?_
    clear h; intro t3 h
    refine r_iload hX dX12_findGuesses_95 5 rfl ?_
    refine r_aI hX dX12_findGuesses_97 h ?_
    clear h; intro t4 h
    refine r_iload hX dX12_findGuesses_98 4 rfl ?_
    refine r_icmp_gt (tgt := 173) hX dX12_findGuesses_100 (by decide) h ?_ ?_
    · clear h; intro h
      refine r_sub [0, 1, 2, 3, 4, 5] rfl ?_
      exact wX12_findGuesses_173 hX k8 hk8 h
    · clear h; intro h
      refine r_aload_n hX dX12_findGuesses_103 rfl 0 rfl ?_
      refine r_gI hX dX12_findGuesses_104 kf_X12_276 rfl h ?_
      clear h; intro t5 h
      refine r_istore (L2 := [(6, .int t5), (0, kr E l0), (1, .int l1), (2, .int l2), (3, .int l3), (4, .int l4), (5, .int l5)]) hX dX12_findGuesses_107 (by decide) rfl ?_
      refine r_sub [1, 2, 3, 4, 5, 6, 0] rfl ?_
      exact wX12_findGuesses_109 hX k8 hk8 _ _ _ _ _ _ _ _ h
  · clear h; intro h
    refine r_sub [0, 1, 2, 3, 4, 5] rfl ?_
    exact wX12_findGuesses_173 hX k8 hk8 h
def X12_findGuesses_8B (G : kdS) (k8 : Nat → Int32 → Int32 → Int32 → Int32 → Int32 → kdM → Option (Unit × kdM)) (l0 : Nat) (l1 : Int32) (l2 : Int32) (l3 : Int32) (l4 : Int32) (l5 : Int32) : kdM → Option (Unit × kdM) :=
  gI G 12 29 l0 fun t1 =>
  cnd (t1 ≤ l5)
    (rt ())
    (gR G 12 33 l0 fun t2 =>
    gI G 12 1 l0 fun t3 =>
    kcv G 12 l0 (X12_priceOf G l0 l5 (0 : Int32) t3) fun t4 =>
    tI G t2 (l5) (t4) <|
    gR G 12 34 l0 fun t5 =>
    cnd (0 ≤ l1)
      (gR G 12 26 l0 fun t6 =>
      aI G t6 (l5) fun t7 =>
      kcv G 12 l0 (X12_worthOf G l0 l1 l5 l2) fun t8 =>
      X12_findGuesses_75 G k8 l0 l1 l2 l3 l4 l5 t5 l5 (((1000 : Int32) * t7) + t8))
      (gR G 12 26 l0 fun t9 =>
      aI G t9 (l5) fun t10 =>
      X12_findGuesses_75 G k8 l0 l1 l2 l3 l4 l5 t5 l5 t10))
set_option maxRecDepth 100000 in
set_option maxHeartbeats 4000000 in
theorem wX12_findGuesses_8B {E : kdE} {G : kdS} {A : kdA} {r : Unit} {σ1 : kdM} (hX : kdX E A cX12_findGuesses 7 RX12 none 4) (k8 : Nat → Int32 → Int32 → Int32 → Int32 → Int32 → kdM → Option (Unit × kdM)) (hk8 : ∀ (l0 : Nat) (l1 : Int32) (l2 : Int32) (l3 : Int32) (l4 : Int32) (l5 : Int32) (σ : kdM), k8 l0 l1 l2 l3 l4 l5 σ = some (r, σ1) → SW E G (.inl (none, σ1)) A 7 σ 8 [(0, kr E l0), (1, .int l1), (2, .int l2), (3, .int l3), (4, .int l4), (5, .int l5)] []) {σ : kdM} {l0 : Nat} {l1 : Int32} {l2 : Int32} {l3 : Int32} {l4 : Int32} {l5 : Int32} (h : X12_findGuesses_8B G k8 l0 l1 l2 l3 l4 l5 σ = some (r, σ1)) : SW E G (.inl (none, σ1)) A 7 σ 8 [(0, kr E l0), (1, .int l1), (2, .int l2), (3, .int l3), (4, .int l4), (5, .int l5)] [] := by
  unfold X12_findGuesses_8B at h
  refine r_iload hX dX12_findGuesses_8 5 rfl ?_
  refine r_aload_n hX dX12_findGuesses_10 rfl 0 rfl ?_
  refine r_gI hX dX12_findGuesses_11 kf_X12_244 rfl h ?_
  clear h; intro t1 h
  refine r_icmp_ge (tgt := 179) hX dX12_findGuesses_14 (by decide) h ?_ ?_
  · clear h; intro h
    exact r_vret hX dX12_findGuesses_179 h
  · clear h; intro h
    refine r_aload_n hX dX12_findGuesses_17 rfl 0 rfl ?_
    refine r_gR hX dX12_findGuesses_18 kf_X12_86 rfl h ?_
    clear h; intro t2 h
    refine r_iload hX dX12_findGuesses_21 5 rfl ?_
    refine r_aload_n hX dX12_findGuesses_23 rfl 0 rfl ?_
    refine r_iload hX dX12_findGuesses_24 5 rfl ?_
    refine r_iconst hX dX12_findGuesses_26 kk_i_0 ?_
    refine r_aload_n hX dX12_findGuesses_27 rfl 0 rfl ?_
    refine r_gI hX dX12_findGuesses_28 kf_X12_182 rfl h ?_
    clear h; intro t3 h
    refine r_cVi (As := [.int l5, .int (0 : Int32), .int t3]) (st := [.int l5, kr E t2]) hX dX12_findGuesses_31 kl_X12_priceOf w_ml_X12_272 w_im_X12_priceOf w_se_X12_priceOf ⟨_, _, rfl⟩ (by decide) rfl (Nat.le_of_ble_eq_true rfl) rfl kdz0 h (fun r σ1 h => wX12_priceOf h) ?_
    clear h; intro t4 σ h
    refine r_tI hX dX12_findGuesses_34 h ?_
    clear h; intro σ h
    refine r_aload_n hX dX12_findGuesses_35 rfl 0 rfl ?_
    refine r_gR hX dX12_findGuesses_36 kf_X12_89 rfl h ?_
    clear h; intro t5 h
    refine r_iload hX dX12_findGuesses_39 5 rfl ?_
    refine r_iload_n hX dX12_findGuesses_41 rfl 1 rfl ?_
    refine r_if_ge (tgt := 55) hX dX12_findGuesses_42 (by decide) h ?_ ?_
    · clear h; intro h
      refine r_sipush hX dX12_findGuesses_55 kk_s_1000 ?_
      refine r_aload_n hX dX12_findGuesses_58 rfl 0 rfl ?_
      refine r_gR hX dX12_findGuesses_59 kf_X12_68 rfl h ?_
      clear h; intro t6 h
      refine r_iload hX dX12_findGuesses_62 5 rfl ?_
      refine r_aI hX dX12_findGuesses_64 h ?_
      clear h; intro t7 h
      refine r_imul hX dX12_findGuesses_65 ?_
      refine r_aload_n hX dX12_findGuesses_66 rfl 0 rfl ?_
      refine r_iload_n hX dX12_findGuesses_67 rfl 1 rfl ?_
      refine r_iload hX dX12_findGuesses_68 5 rfl ?_
      refine r_iload_n hX dX12_findGuesses_70 rfl 2 rfl ?_
      refine r_cVi (As := [.int l1, .int l5, .int l2]) (st := [.int ((1000 : Int32) * t7), .int l5, kr E t5]) hX dX12_findGuesses_71 kl_X12_worthOf w_ml_X12_279 w_im_X12_worthOf w_se_X12_worthOf ⟨_, _, rfl⟩ (by decide) rfl (Nat.le_of_ble_eq_true rfl) rfl kdz0 h (fun r σ1 h => wX12_worthOf h) ?_
      clear h; intro t8 σ h
      refine r_iadd hX dX12_findGuesses_74 ?_
      refine r_sub [0, 1, 2, 3, 4, 5] rfl ?_
      exact wX12_findGuesses_75 hX k8 hk8 h
    · clear h; intro h
      refine r_aload_n hX dX12_findGuesses_45 rfl 0 rfl ?_
      refine r_gR hX dX12_findGuesses_46 kf_X12_68 rfl h ?_
      clear h; intro t9 h
      refine r_iload hX dX12_findGuesses_49 5 rfl ?_
      refine r_aI hX dX12_findGuesses_51 h ?_
      clear h; intro t10 h
      refine r_goto (tgt := 75) hX dX12_findGuesses_52 (by decide) ?_
      refine r_sub [0, 1, 2, 3, 4, 5] rfl ?_
      exact wX12_findGuesses_75 hX k8 hk8 h
def X12_findGuesses_8 (G : kdS) : Nat → Int32 → Int32 → Int32 → Int32 → Int32 → kdM → Option (Unit × kdM) := lp (fun _ _ _ _ _ _ _ => none) (X12_findGuesses_8B G) NN
theorem wX12_findGuesses_8 {E : kdE} {G : kdS} {A : kdA} {r : Unit} {σ1 : kdM} (hX : kdX E A cX12_findGuesses 7 RX12 none 4) : ∀ (l0 : Nat) (l1 : Int32) (l2 : Int32) (l3 : Int32) (l4 : Int32) (l5 : Int32) (σ : kdM), X12_findGuesses_8 G l0 l1 l2 l3 l4 l5 σ = some (r, σ1) → SW E G (.inl (none, σ1)) A 7 σ 8 [(0, kr E l0), (1, .int l1), (2, .int l2), (3, .int l3), (4, .int l4), (5, .int l5)] [] :=
  lp_ind (Q := fun f => ∀ (l0 : Nat) (l1 : Int32) (l2 : Int32) (l3 : Int32) (l4 : Int32) (l5 : Int32) (σ : kdM), f l0 l1 l2 l3 l4 l5 σ = some (r, σ1) → SW E G (.inl (none, σ1)) A 7 σ 8 [(0, kr E l0), (1, .int l1), (2, .int l2), (3, .int l3), (4, .int l4), (5, .int l5)] []) (by intros; contradiction) (fun k hk l0 l1 l2 l3 l4 l5 σ h => wX12_findGuesses_8B hX k hk h) NN
def X12_findGuesses (G : kdS) (l0 : Nat) (l1 : Int32) (l2 : Int32) (l3 : Int32) (l4 : Int32) : kdM → Option (Unit × kdM) :=
  sI G 12 35 l0 ((0 : Int32)) <|
  X12_findGuesses_8 G l0 l1 l2 l3 l4 (0 : Int32)
set_option maxRecDepth 100000 in
set_option maxHeartbeats 4000000 in
theorem wX12_findGuesses {E : kdE} {G : kdS} {l0 : Nat} {l1 : Int32} {l2 : Int32} {l3 : Int32} {l4 : Int32} {σ : kdM} {r : Unit} {σ1 : kdM} (h : X12_findGuesses G l0 l1 l2 l3 l4 σ = some (r, σ1)) : Con E G yX12_findGuesses cX12_findGuesses 7 none 4 [kr E l0, .int l1, .int l2, .int l3, .int l4] σ (none, σ1) := by
  refine kd_head (own := RX12) rfl (by decide +kernel) (Nat.le_of_ble_eq_true rfl) (fun A hX => ?_)
  show SW E G (.inl (none, σ1)) A 7 σ 0 [(0, kr E l0), (1, .int l1), (2, .int l2), (3, .int l3), (4, .int l4)] []
  unfold X12_findGuesses at h
  refine r_aload_n hX dX12_findGuesses_0 rfl 0 rfl ?_
  refine r_iconst hX dX12_findGuesses_1 kk_i_0 ?_
  refine r_sI hX dX12_findGuesses_2 kf_X12_276 rfl (by intro q hq; cases hq; rfl) h ?_
  clear h; intro σ h
  refine r_iconst hX dX12_findGuesses_5 kk_i_0 ?_
  refine r_istore (L2 := [(5, .int (0 : Int32)), (0, kr E l0), (1, .int l1), (2, .int l2), (3, .int l3), (4, .int l4)]) hX dX12_findGuesses_6 (by decide) rfl ?_
  refine r_sub [1, 2, 3, 4, 5, 0] rfl ?_
  exact wX12_findGuesses_8 hX _ _ _ _ _ _ _ h
def X12_areTongues (G : kdS) (l0 : Int32) : kdM → Option (Int32 × kdM) :=
  kcl (X12_in G (Int32.toInt64 l0) (1 : Int64) (7 : Int64)) fun t1 =>
  rt (vp_nar .boolean t1)
set_option maxRecDepth 100000 in
set_option maxHeartbeats 4000000 in
theorem wX12_areTongues {E : kdE} {G : kdS} {l0 : Int32} {σ : kdM} {r : Int32} {σ1 : kdM} (h : X12_areTongues G l0 σ = some (r, σ1)) : Con E G yX12_areTongues cX12_areTongues 1 (some .boolean) 1 [.int l0] σ (some (.int r), σ1) := by
  refine kd_head (own := RX12) rfl (by decide +kernel) (Nat.le_of_ble_eq_true rfl) (fun A hX => ?_)
  show SW E G (.inl (some (.int r), σ1)) A 1 σ 0 [(0, .int l0)] []
  unfold X12_areTongues at h
  refine r_iload_n hX dX12_areTongues_0 rfl 0 rfl ?_
  refine r_i2l hX dX12_areTongues_1 ?_
  refine r_lconst hX dX12_areTongues_2 kk_l_1 ?_
  refine r_ldc2_w hX dX12_areTongues_3 w_cl_X12_285 ?_
  refine r_cSi (As := [.long (Int32.toInt64 l0), .long (1 : Int64), .long (7 : Int64)]) (st := []) hX dX12_areTongues_6 kl_X12_in w_ml_X12_178 w_st_X12_in (by decide) rfl (Nat.le_of_ble_eq_true rfl) rfl kdz0 h (fun r σ1 h => wX12_in h) ?_
  clear h; intro t1 σ h
  exact r_zret hX dX12_areTongues_9 h
def X12_guess_19 (G : kdS) : kdM → Option (Int32 × kdM) :=
  rt (-2 : Int32)
set_option maxRecDepth 100000 in
set_option maxHeartbeats 4000000 in
theorem wX12_guess_19 {E : kdE} {G : kdS} {A : kdA} {r : Int32} {σ1 : kdM} (hX : kdX E A cX12_guess 4 RX12 (some .int) 5) {σ : kdM} (h : X12_guess_19 G  σ = some (r, σ1)) : SW E G (.inl (some (.int r), σ1)) A 4 σ 19 [] [] := by
  unfold X12_guess_19 at h
  refine r_bipush hX dX12_guess_19 kk_b_m2 ?_
  exact r_iret hX dX12_guess_21 h
def X12_guess_79 (G : kdS) (s0 : Int32) : kdM → Option (Int32 × kdM) :=
  rt s0
set_option maxRecDepth 100000 in
set_option maxHeartbeats 4000000 in
theorem wX12_guess_79 {E : kdE} {G : kdS} {A : kdA} {r : Int32} {σ1 : kdM} (hX : kdX E A cX12_guess 4 RX12 (some .int) 5) {σ : kdM} {s0 : Int32} (h : X12_guess_79 G s0 σ = some (r, σ1)) : SW E G (.inl (some (.int r), σ1)) A 4 σ 79 [] [.int s0] := by
  unfold X12_guess_79 at h
  exact r_iret hX dX12_guess_79 h
def X12_guess (G : kdS) (l0 : Nat) (l1 : Int32) (l2 : Int32) (l3 : Int32) : kdM → Option (Int32 × kdM) :=
  kcl (X12_areTongues G l1) fun t1 =>
  cnd (t1 = 0)
    (X12_guess_19 G )
    (kcl (X12_in G (Int32.toInt64 l2) (0 : Int64) (60 : Int64)) fun t2 =>
    cnd (t2 = 0)
      (X12_guess_19 G )
      (gI G 12 1 l0 fun t3 =>
      cnd (t3 = 0)
        (rt (-3 : Int32))
        (kcv G 12 l0 (X12_findGuesses G l0 (-1 : Int32) (0 : Int32) l1 l2) fun _ =>
        cnd (l3 = (-1 : Int32))
          (gI G 12 35 l0 fun t4 =>
          X12_guess_79 G t4)
          (gI G 12 35 l0 fun t5 =>
          kcl (X12_in G (Int32.toInt64 l3) (0 : Int64) (Int32.toInt64 (t5 - (1 : Int32)))) fun t6 =>
          cnd (t6 = 0)
            (X12_guess_79 G (-6 : Int32))
            (gR G 12 32 l0 fun t7 =>
            aI G t7 (l3) fun t8 =>
            X12_guess_79 G t8)))))
set_option maxRecDepth 100000 in
set_option maxHeartbeats 4000000 in
theorem wX12_guess {E : kdE} {G : kdS} {l0 : Nat} {l1 : Int32} {l2 : Int32} {l3 : Int32} {σ : kdM} {r : Int32} {σ1 : kdM} (h : X12_guess G l0 l1 l2 l3 σ = some (r, σ1)) : Con E G yX12_guess cX12_guess 4 (some .int) 5 [kr E l0, .int l1, .int l2, .int l3] σ (some (.int r), σ1) := by
  refine kd_head (own := RX12) rfl (by decide +kernel) (Nat.le_of_ble_eq_true rfl) (fun A hX => ?_)
  show SW E G (.inl (some (.int r), σ1)) A 4 σ 0 [(0, kr E l0), (1, .int l1), (2, .int l2), (3, .int l3)] []
  unfold X12_guess at h
  refine r_iload_n hX dX12_guess_0 rfl 1 rfl ?_
  refine r_cSi (As := [.int l1]) (st := []) hX dX12_guess_1 kl_X12_areTongues w_ml_X12_287 w_st_X12_areTongues (by decide) rfl (Nat.le_of_ble_eq_true rfl) rfl kdz0 h (fun r σ1 h => wX12_areTongues h) ?_
  clear h; intro t1 σ h
  refine r_if_eq (tgt := 19) hX dX12_guess_4 (by decide) h ?_ ?_
  · clear h; intro h
    refine r_sub [] rfl ?_
    exact wX12_guess_19 hX h
  · clear h; intro h
    refine r_iload_n hX dX12_guess_7 rfl 2 rfl ?_
    refine r_i2l hX dX12_guess_8 ?_
    refine r_lconst hX dX12_guess_9 kk_l_0 ?_
    refine r_ldc2_w hX dX12_guess_10 w_cl_X12_185 ?_
    refine r_cSi (As := [.long (Int32.toInt64 l2), .long (0 : Int64), .long (60 : Int64)]) (st := []) hX dX12_guess_13 kl_X12_in w_ml_X12_178 w_st_X12_in (by decide) rfl (Nat.le_of_ble_eq_true rfl) rfl kdz0 h (fun r σ1 h => wX12_in h) ?_
    clear h; intro t2 σ h
    refine r_if_ne (tgt := 22) hX dX12_guess_16 (by decide) h ?_ ?_
    · clear h; intro h
      refine r_sub [] rfl ?_
      exact wX12_guess_19 hX h
    · clear h; intro h
      refine r_aload_n hX dX12_guess_22 rfl 0 rfl ?_
      refine r_gI hX dX12_guess_23 kf_X12_182 rfl h ?_
      clear h; intro t3 h
      refine r_if_ne (tgt := 32) hX dX12_guess_26 (by decide) h ?_ ?_
      · clear h; intro h
        refine r_bipush hX dX12_guess_29 kk_b_m3 ?_
        exact r_iret hX dX12_guess_31 h
      · clear h; intro h
        refine r_aload_n hX dX12_guess_32 rfl 0 rfl ?_
        refine r_iconst hX dX12_guess_33 kk_i_m1 ?_
        refine r_iconst hX dX12_guess_34 kk_i_0 ?_
        refine r_iload_n hX dX12_guess_35 rfl 1 rfl ?_
        refine r_iload_n hX dX12_guess_36 rfl 2 rfl ?_
        refine r_cVv (As := [.int (-1 : Int32), .int (0 : Int32), .int l1, .int l2]) (st := []) hX dX12_guess_37 kl_X12_findGuesses w_ml_X12_290 w_im_X12_findGuesses w_se_X12_findGuesses ⟨_, _, rfl⟩ (by decide) rfl (Nat.le_of_ble_eq_true rfl) rfl kdz0 h (fun r σ1 h => wX12_findGuesses h) ?_
        clear h; intro u σ h
        refine r_iload_n hX dX12_guess_40 rfl 3 rfl ?_
        refine r_iconst hX dX12_guess_41 kk_i_m1 ?_
        refine r_icmp_ne (tgt := 52) hX dX12_guess_42 (by decide) h ?_ ?_
        · clear h; intro h
          refine r_aload_n hX dX12_guess_45 rfl 0 rfl ?_
          refine r_gI hX dX12_guess_46 kf_X12_276 rfl h ?_
          clear h; intro t4 h
          refine r_goto (tgt := 79) hX dX12_guess_49 (by decide) ?_
          refine r_sub [] rfl ?_
          exact wX12_guess_79 hX h
        · clear h; intro h
          refine r_iload_n hX dX12_guess_52 rfl 3 rfl ?_
          refine r_i2l hX dX12_guess_53 ?_
          refine r_lconst hX dX12_guess_54 kk_l_0 ?_
          refine r_aload_n hX dX12_guess_55 rfl 0 rfl ?_
          refine r_gI hX dX12_guess_56 kf_X12_276 rfl h ?_
          clear h; intro t5 h
          refine r_iconst hX dX12_guess_59 kk_i_1 ?_
          refine r_isub hX dX12_guess_60 ?_
          refine r_i2l hX dX12_guess_61 ?_
          refine r_cSi (As := [.long (Int32.toInt64 l3), .long (0 : Int64), .long (Int32.toInt64 (t5 - (1 : Int32)))]) (st := []) hX dX12_guess_62 kl_X12_in w_ml_X12_178 w_st_X12_in (by decide) rfl (Nat.le_of_ble_eq_true rfl) rfl kdz0 h (fun r σ1 h => wX12_in h) ?_
          clear h; intro t6 σ h
          refine r_if_eq (tgt := 77) hX dX12_guess_65 (by decide) h ?_ ?_
          · clear h; intro h
            refine r_bipush hX dX12_guess_77 kk_b_m6 ?_
            refine r_sub [] rfl ?_
            exact wX12_guess_79 hX h
          · clear h; intro h
            refine r_aload_n hX dX12_guess_68 rfl 0 rfl ?_
            refine r_gR hX dX12_guess_69 kf_X12_83 rfl h ?_
            clear h; intro t7 h
            refine r_iload_n hX dX12_guess_72 rfl 3 rfl ?_
            refine r_aI hX dX12_guess_73 h ?_
            clear h; intro t8 h
            refine r_goto (tgt := 79) hX dX12_guess_74 (by decide) ?_
            refine r_sub [] rfl ?_
            exact wX12_guess_79 hX h
def X12_placeOf (G : kdS) (l0 : Int32) (l1 : Int32) (l2 : Int32) : kdM → Option (Int32 × kdM) :=
  rt ((((20 : Int32) * l0) + ((4 : Int32) * l1)) + l2)
set_option maxRecDepth 100000 in
set_option maxHeartbeats 4000000 in
theorem wX12_placeOf {E : kdE} {G : kdS} {l0 : Int32} {l1 : Int32} {l2 : Int32} {σ : kdM} {r : Int32} {σ1 : kdM} (h : X12_placeOf G l0 l1 l2 σ = some (r, σ1)) : Con E G yX12_placeOf cX12_placeOf 3 (some .int) 0 [.int l0, .int l1, .int l2] σ (some (.int r), σ1) := by
  refine kd_head (own := RX12) rfl (by decide +kernel) (Nat.le_of_ble_eq_true rfl) (fun A hX => ?_)
  show SW E G (.inl (some (.int r), σ1)) A 3 σ 0 [(0, .int l0), (1, .int l1), (2, .int l2)] []
  unfold X12_placeOf at h
  refine r_bipush hX dX12_placeOf_0 kk_b_20 ?_
  refine r_iload_n hX dX12_placeOf_2 rfl 0 rfl ?_
  refine r_imul hX dX12_placeOf_3 ?_
  refine r_iconst hX dX12_placeOf_4 kk_i_4 ?_
  refine r_iload_n hX dX12_placeOf_5 rfl 1 rfl ?_
  refine r_imul hX dX12_placeOf_6 ?_
  refine r_iadd hX dX12_placeOf_7 ?_
  refine r_iload_n hX dX12_placeOf_8 rfl 2 rfl ?_
  refine r_iadd hX dX12_placeOf_9 ?_
  exact r_iret hX dX12_placeOf_10 h
def X12_priceAt (G : kdS) (l0 : Nat) (l1 : Int32) (l2 : Int32) (l3 : Int32) : kdM → Option (Int32 × kdM) :=
  gR G 12 41 l0 fun t1 =>
  aI G t1 ((((((160 : Int32) * l1) + ((10 : Int32) * l2)) + l3) - (1 : Int32))) fun t2 =>
  rt t2
set_option maxRecDepth 100000 in
set_option maxHeartbeats 4000000 in
theorem wX12_priceAt {E : kdE} {G : kdS} {l0 : Nat} {l1 : Int32} {l2 : Int32} {l3 : Int32} {σ : kdM} {r : Int32} {σ1 : kdM} (h : X12_priceAt G l0 l1 l2 l3 σ = some (r, σ1)) : Con E G yX12_priceAt cX12_priceAt 4 (some .int) 0 [kr E l0, .int l1, .int l2, .int l3] σ (some (.int r), σ1) := by
  refine kd_head (own := RX12) rfl (by decide +kernel) (Nat.le_of_ble_eq_true rfl) (fun A hX => ?_)
  show SW E G (.inl (some (.int r), σ1)) A 4 σ 0 [(0, kr E l0), (1, .int l1), (2, .int l2), (3, .int l3)] []
  unfold X12_priceAt at h
  refine r_aload_n hX dX12_priceAt_0 rfl 0 rfl ?_
  refine r_gR hX dX12_priceAt_1 kf_X12_108 rfl h ?_
  clear h; intro t1 h
  refine r_sipush hX dX12_priceAt_4 kk_s_160 ?_
  refine r_iload_n hX dX12_priceAt_7 rfl 1 rfl ?_
  refine r_imul hX dX12_priceAt_8 ?_
  refine r_bipush hX dX12_priceAt_9 kk_b_10 ?_
  refine r_iload_n hX dX12_priceAt_11 rfl 2 rfl ?_
  refine r_imul hX dX12_priceAt_12 ?_
  refine r_iadd hX dX12_priceAt_13 ?_
  refine r_iload_n hX dX12_priceAt_14 rfl 3 rfl ?_
  refine r_iadd hX dX12_priceAt_15 ?_
  refine r_iconst hX dX12_priceAt_16 kk_i_1 ?_
  refine r_isub hX dX12_priceAt_17 ?_
  refine r_aI hX dX12_priceAt_18 h ?_
  clear h; intro t2 h
  exact r_iret hX dX12_priceAt_19 h
def X12_findPrices_95 (G : kdS) (k2 : Nat → Int32 → Int32 → kdM → Option (Unit × kdM)) (l0 : Nat) (l1 : Int32) (l2 : Int32) : kdM → Option (Unit × kdM) :=
  ltI (l2 + Int32.ofInt 1) fun t1 =>
  k2 l0 l1 t1
set_option maxRecDepth 100000 in
set_option maxHeartbeats 4000000 in
theorem wX12_findPrices_95 {E : kdE} {G : kdS} {A : kdA} {r : Unit} {σ1 : kdM} (hX : kdX E A cX12_findPrices 5 RX12 none 4) (k2 : Nat → Int32 → Int32 → kdM → Option (Unit × kdM)) (hk2 : ∀ (l0 : Nat) (l1 : Int32) (l2 : Int32) (σ : kdM), k2 l0 l1 l2 σ = some (r, σ1) → SW E G (.inl (none, σ1)) A 5 σ 2 [(0, kr E l0), (1, .int l1), (2, .int l2)] []) {σ : kdM} {l0 : Nat} {l1 : Int32} {l2 : Int32} (h : X12_findPrices_95 G k2 l0 l1 l2 σ = some (r, σ1)) : SW E G (.inl (none, σ1)) A 5 σ 95 [(0, kr E l0), (1, .int l1), (2, .int l2)] [] := by
  unfold X12_findPrices_95 at h
  refine r_iincL (L2 := fun t1 => [(2, .int t1), (0, kr E l0), (1, .int l1)]) hX dX12_findPrices_95 h 2 rfl (by decide) (fun _ => rfl) ?_
  clear h; intro t1 h
  refine r_goto (tgt := 2) hX dX12_findPrices_98 (by decide) ?_
  refine r_sub [1, 2, 0] rfl ?_
  exact hk2 _ _ _ _ h
def X12_findPrices_89 (G : kdS) (k2 : Nat → Int32 → Int32 → kdM → Option (Unit × kdM)) (k12 : Nat → Int32 → Int32 → Int32 → kdM → Option (Unit × kdM)) (l0 : Nat) (l1 : Int32) (l2 : Int32) (l3 : Int32) : kdM → Option (Unit × kdM) :=
  ltI (l3 + Int32.ofInt 1) fun t1 =>
  k12 l0 l1 l2 t1
set_option maxRecDepth 100000 in
set_option maxHeartbeats 4000000 in
theorem wX12_findPrices_89 {E : kdE} {G : kdS} {A : kdA} {r : Unit} {σ1 : kdM} (hX : kdX E A cX12_findPrices 5 RX12 none 4) (k2 : Nat → Int32 → Int32 → kdM → Option (Unit × kdM)) (k12 : Nat → Int32 → Int32 → Int32 → kdM → Option (Unit × kdM)) (hk2 : ∀ (l0 : Nat) (l1 : Int32) (l2 : Int32) (σ : kdM), k2 l0 l1 l2 σ = some (r, σ1) → SW E G (.inl (none, σ1)) A 5 σ 2 [(0, kr E l0), (1, .int l1), (2, .int l2)] []) (hk12 : ∀ (l0 : Nat) (l1 : Int32) (l2 : Int32) (l3 : Int32) (σ : kdM), k12 l0 l1 l2 l3 σ = some (r, σ1) → SW E G (.inl (none, σ1)) A 5 σ 12 [(0, kr E l0), (1, .int l1), (2, .int l2), (3, .int l3)] []) {σ : kdM} {l0 : Nat} {l1 : Int32} {l2 : Int32} {l3 : Int32} (h : X12_findPrices_89 G k2 k12 l0 l1 l2 l3 σ = some (r, σ1)) : SW E G (.inl (none, σ1)) A 5 σ 89 [(0, kr E l0), (1, .int l1), (2, .int l2), (3, .int l3)] [] := by
  unfold X12_findPrices_89 at h
  refine r_iincL (L2 := fun t1 => [(3, .int t1), (0, kr E l0), (1, .int l1), (2, .int l2)]) hX dX12_findPrices_89 h 3 rfl (by decide) (fun _ => rfl) ?_
  clear h; intro t1 h
  refine r_goto (tgt := 12) hX dX12_findPrices_92 (by decide) ?_
  refine r_sub [1, 2, 3, 0] rfl ?_
  exact hk12 _ _ _ _ _ h
def X12_findPrices_37B (G : kdS) (k2 : Nat → Int32 → Int32 → kdM → Option (Unit × kdM)) (k12 : Nat → Int32 → Int32 → Int32 → kdM → Option (Unit × kdM)) (k37 : Nat → Int32 → Int32 → Int32 → Int32 → kdM → Option (Unit × kdM)) (l0 : Nat) (l1 : Int32) (l2 : Int32) (l3 : Int32) (l4 : Int32) : kdM → Option (Unit × kdM) :=
  cnd ((10 : Int32) < l4)
    (X12_findPrices_89 G k2 k12 l0 l1 l2 l3)
    (gI G 12 1 l0 fun t1 =>
    cnd (t1 < (l3 + l4))
      (X12_findPrices_89 G k2 k12 l0 l1 l2 l3)
      (gR G 12 41 l0 fun t2 =>
      kcv G 12 l0 (X12_priceOf G l0 l2 l3 l4) fun t3 =>
      tI G t2 ((((((160 : Int32) * l2) + ((10 : Int32) * l3)) + l4) - (1 : Int32))) (t3) <|
      ltI (l4 + Int32.ofInt 1) fun t4 =>
      k37 l0 l1 l2 l3 t4))
set_option maxRecDepth 100000 in
set_option maxHeartbeats 4000000 in
theorem wX12_findPrices_37B {E : kdE} {G : kdS} {A : kdA} {r : Unit} {σ1 : kdM} (hX : kdX E A cX12_findPrices 5 RX12 none 4) (k2 : Nat → Int32 → Int32 → kdM → Option (Unit × kdM)) (k12 : Nat → Int32 → Int32 → Int32 → kdM → Option (Unit × kdM)) (k37 : Nat → Int32 → Int32 → Int32 → Int32 → kdM → Option (Unit × kdM)) (hk2 : ∀ (l0 : Nat) (l1 : Int32) (l2 : Int32) (σ : kdM), k2 l0 l1 l2 σ = some (r, σ1) → SW E G (.inl (none, σ1)) A 5 σ 2 [(0, kr E l0), (1, .int l1), (2, .int l2)] []) (hk12 : ∀ (l0 : Nat) (l1 : Int32) (l2 : Int32) (l3 : Int32) (σ : kdM), k12 l0 l1 l2 l3 σ = some (r, σ1) → SW E G (.inl (none, σ1)) A 5 σ 12 [(0, kr E l0), (1, .int l1), (2, .int l2), (3, .int l3)] []) (hk37 : ∀ (l0 : Nat) (l1 : Int32) (l2 : Int32) (l3 : Int32) (l4 : Int32) (σ : kdM), k37 l0 l1 l2 l3 l4 σ = some (r, σ1) → SW E G (.inl (none, σ1)) A 5 σ 37 [(0, kr E l0), (1, .int l1), (2, .int l2), (3, .int l3), (4, .int l4)] []) {σ : kdM} {l0 : Nat} {l1 : Int32} {l2 : Int32} {l3 : Int32} {l4 : Int32} (h : X12_findPrices_37B G k2 k12 k37 l0 l1 l2 l3 l4 σ = some (r, σ1)) : SW E G (.inl (none, σ1)) A 5 σ 37 [(0, kr E l0), (1, .int l1), (2, .int l2), (3, .int l3), (4, .int l4)] [] := by
  unfold X12_findPrices_37B at h
  refine r_iload hX dX12_findPrices_37 4 rfl ?_
  refine r_bipush hX dX12_findPrices_39 kk_b_10 ?_
  refine r_icmp_gt (tgt := 89) hX dX12_findPrices_41 (by decide) h ?_ ?_
  · clear h; intro h
    refine r_sub [0, 1, 2, 3] rfl ?_
    exact wX12_findPrices_89 hX k2 k12 hk2 hk12 h
  · clear h; intro h
    refine r_iload_n hX dX12_findPrices_44 rfl 3 rfl ?_
    refine r_iload hX dX12_findPrices_45 4 rfl ?_
    refine r_iadd hX dX12_findPrices_47 ?_
    refine r_aload_n hX dX12_findPrices_48 rfl 0 rfl ?_
    refine r_gI hX dX12_findPrices_49 kf_X12_182 rfl h ?_
    clear h; intro t1 h
    refine r_icmp_gt (tgt := 89) hX dX12_findPrices_52 (by decide) h ?_ ?_
    · clear h; intro h
      refine r_sub [0, 1, 2, 3] rfl ?_
      exact wX12_findPrices_89 hX k2 k12 hk2 hk12 h
    · clear h; intro h
      refine r_aload_n hX dX12_findPrices_55 rfl 0 rfl ?_
      refine r_gR hX dX12_findPrices_56 kf_X12_108 rfl h ?_
      clear h; intro t2 h
      refine r_sipush hX dX12_findPrices_59 kk_s_160 ?_
      refine r_iload_n hX dX12_findPrices_62 rfl 2 rfl ?_
      refine r_imul hX dX12_findPrices_63 ?_
      refine r_bipush hX dX12_findPrices_64 kk_b_10 ?_
      refine r_iload_n hX dX12_findPrices_66 rfl 3 rfl ?_
      refine r_imul hX dX12_findPrices_67 ?_
      refine r_iadd hX dX12_findPrices_68 ?_
      refine r_iload hX dX12_findPrices_69 4 rfl ?_
      refine r_iadd hX dX12_findPrices_71 ?_
      refine r_iconst hX dX12_findPrices_72 kk_i_1 ?_
      refine r_isub hX dX12_findPrices_73 ?_
      refine r_aload_n hX dX12_findPrices_74 rfl 0 rfl ?_
      refine r_iload_n hX dX12_findPrices_75 rfl 2 rfl ?_
      refine r_iload_n hX dX12_findPrices_76 rfl 3 rfl ?_
      refine r_iload hX dX12_findPrices_77 4 rfl ?_
      refine r_cVi (As := [.int l2, .int l3, .int l4]) (st := [.int (((((160 : Int32) * l2) + ((10 : Int32) * l3)) + l4) - (1 : Int32)), kr E t2]) hX dX12_findPrices_79 kl_X12_priceOf w_ml_X12_272 w_im_X12_priceOf w_se_X12_priceOf ⟨_, _, rfl⟩ (by decide) rfl (Nat.le_of_ble_eq_true rfl) rfl kdz0 h (fun r σ1 h => wX12_priceOf h) ?_
      clear h; intro t3 σ h
      refine r_tI hX dX12_findPrices_82 h ?_
      clear h; intro σ h
      refine r_iincL (L2 := fun t4 => [(4, .int t4), (0, kr E l0), (1, .int l1), (2, .int l2), (3, .int l3)]) hX dX12_findPrices_83 h 4 rfl (by decide) (fun _ => rfl) ?_
      clear h; intro t4 h
      refine r_goto (tgt := 37) hX dX12_findPrices_86 (by decide) ?_
      refine r_sub [1, 2, 3, 4, 0] rfl ?_
      exact hk37 _ _ _ _ _ _ h
def X12_findPrices_37 (G : kdS) (k2 : Nat → Int32 → Int32 → kdM → Option (Unit × kdM)) (k12 : Nat → Int32 → Int32 → Int32 → kdM → Option (Unit × kdM)) : Nat → Int32 → Int32 → Int32 → Int32 → kdM → Option (Unit × kdM) := lp (fun _ _ _ _ _ _ => none) (X12_findPrices_37B G k2 k12) NN
theorem wX12_findPrices_37 {E : kdE} {G : kdS} {A : kdA} {r : Unit} {σ1 : kdM} (hX : kdX E A cX12_findPrices 5 RX12 none 4) (k2 : Nat → Int32 → Int32 → kdM → Option (Unit × kdM)) (k12 : Nat → Int32 → Int32 → Int32 → kdM → Option (Unit × kdM)) (hk2 : ∀ (l0 : Nat) (l1 : Int32) (l2 : Int32) (σ : kdM), k2 l0 l1 l2 σ = some (r, σ1) → SW E G (.inl (none, σ1)) A 5 σ 2 [(0, kr E l0), (1, .int l1), (2, .int l2)] []) (hk12 : ∀ (l0 : Nat) (l1 : Int32) (l2 : Int32) (l3 : Int32) (σ : kdM), k12 l0 l1 l2 l3 σ = some (r, σ1) → SW E G (.inl (none, σ1)) A 5 σ 12 [(0, kr E l0), (1, .int l1), (2, .int l2), (3, .int l3)] []) : ∀ (l0 : Nat) (l1 : Int32) (l2 : Int32) (l3 : Int32) (l4 : Int32) (σ : kdM), X12_findPrices_37 G k2 k12 l0 l1 l2 l3 l4 σ = some (r, σ1) → SW E G (.inl (none, σ1)) A 5 σ 37 [(0, kr E l0), (1, .int l1), (2, .int l2), (3, .int l3), (4, .int l4)] [] :=
  lp_ind (Q := fun f => ∀ (l0 : Nat) (l1 : Int32) (l2 : Int32) (l3 : Int32) (l4 : Int32) (σ : kdM), f l0 l1 l2 l3 l4 σ = some (r, σ1) → SW E G (.inl (none, σ1)) A 5 σ 37 [(0, kr E l0), (1, .int l1), (2, .int l2), (3, .int l3), (4, .int l4)] []) (by intros; contradiction) (fun k hk l0 l1 l2 l3 l4 σ h => wX12_findPrices_37B hX k2 k12 k hk2 hk12 hk h) NN
def X12_findPrices_12B (G : kdS) (k2 : Nat → Int32 → Int32 → kdM → Option (Unit × kdM)) (k12 : Nat → Int32 → Int32 → Int32 → kdM → Option (Unit × kdM)) (l0 : Nat) (l1 : Int32) (l2 : Int32) (l3 : Int32) : kdM → Option (Unit × kdM) :=
  gI G 12 1 l0 fun t1 =>
  cnd (t1 ≤ l3)
    (X12_findPrices_95 G k2 l0 l1 l2)
    (gR G 12 24 l0 fun t2 =>
    aI G t2 (l2) fun t3 =>
    cnd (((l1 >>> (t3 &&& 31)) &&& (1 : Int32)) = (1 : Int32))
      (X12_findPrices_37 G k2 k12 l0 l1 l2 l3 (1 : Int32))
      (X12_findPrices_95 G k2 l0 l1 l2))
set_option maxRecDepth 100000 in
set_option maxHeartbeats 4000000 in
theorem wX12_findPrices_12B {E : kdE} {G : kdS} {A : kdA} {r : Unit} {σ1 : kdM} (hX : kdX E A cX12_findPrices 5 RX12 none 4) (k2 : Nat → Int32 → Int32 → kdM → Option (Unit × kdM)) (k12 : Nat → Int32 → Int32 → Int32 → kdM → Option (Unit × kdM)) (hk2 : ∀ (l0 : Nat) (l1 : Int32) (l2 : Int32) (σ : kdM), k2 l0 l1 l2 σ = some (r, σ1) → SW E G (.inl (none, σ1)) A 5 σ 2 [(0, kr E l0), (1, .int l1), (2, .int l2)] []) (hk12 : ∀ (l0 : Nat) (l1 : Int32) (l2 : Int32) (l3 : Int32) (σ : kdM), k12 l0 l1 l2 l3 σ = some (r, σ1) → SW E G (.inl (none, σ1)) A 5 σ 12 [(0, kr E l0), (1, .int l1), (2, .int l2), (3, .int l3)] []) {σ : kdM} {l0 : Nat} {l1 : Int32} {l2 : Int32} {l3 : Int32} (h : X12_findPrices_12B G k2 k12 l0 l1 l2 l3 σ = some (r, σ1)) : SW E G (.inl (none, σ1)) A 5 σ 12 [(0, kr E l0), (1, .int l1), (2, .int l2), (3, .int l3)] [] := by
  unfold X12_findPrices_12B at h
  refine r_iload_n hX dX12_findPrices_12 rfl 3 rfl ?_
  refine r_aload_n hX dX12_findPrices_13 rfl 0 rfl ?_
  refine r_gI hX dX12_findPrices_14 kf_X12_182 rfl h ?_
  clear h; intro t1 h
  refine r_icmp_ge (tgt := 95) hX dX12_findPrices_17 (by decide) h ?_ ?_
  · clear h; intro h
    refine r_sub [0, 1, 2] rfl ?_
    exact wX12_findPrices_95 hX k2 hk2 h
  · clear h; intro h
    refine r_iload_n hX dX12_findPrices_20 rfl 1 rfl ?_
    refine r_aload_n hX dX12_findPrices_21 rfl 0 rfl ?_
    refine r_gR hX dX12_findPrices_22 kf_X12_62 rfl h ?_
    clear h; intro t2 h
    refine r_iload_n hX dX12_findPrices_25 rfl 2 rfl ?_
    refine r_aI hX dX12_findPrices_26 h ?_
    clear h; intro t3 h
    refine r_ishr hX dX12_findPrices_27 ?_
    refine r_iconst hX dX12_findPrices_28 kk_i_1 ?_
    refine r_iand hX dX12_findPrices_29 ?_
    refine r_iconst hX dX12_findPrices_30 kk_i_1 ?_
    refine r_icmp_ne (tgt := 95) hX dX12_findPrices_31 (by decide) h ?_ ?_
    · clear h; intro h
      refine r_iconst hX dX12_findPrices_34 kk_i_1 ?_
      refine r_istore (L2 := [(4, .int (1 : Int32)), (0, kr E l0), (1, .int l1), (2, .int l2), (3, .int l3)]) hX dX12_findPrices_35 (by decide) rfl ?_
      refine r_sub [1, 2, 3, 4, 0] rfl ?_
      exact wX12_findPrices_37 hX k2 k12 hk2 hk12 _ _ _ _ _ _ h
    · clear h; intro h
      refine r_sub [0, 1, 2] rfl ?_
      exact wX12_findPrices_95 hX k2 hk2 h
def X12_findPrices_12 (G : kdS) (k2 : Nat → Int32 → Int32 → kdM → Option (Unit × kdM)) : Nat → Int32 → Int32 → Int32 → kdM → Option (Unit × kdM) := lp (fun _ _ _ _ _ => none) (X12_findPrices_12B G k2) NN
theorem wX12_findPrices_12 {E : kdE} {G : kdS} {A : kdA} {r : Unit} {σ1 : kdM} (hX : kdX E A cX12_findPrices 5 RX12 none 4) (k2 : Nat → Int32 → Int32 → kdM → Option (Unit × kdM)) (hk2 : ∀ (l0 : Nat) (l1 : Int32) (l2 : Int32) (σ : kdM), k2 l0 l1 l2 σ = some (r, σ1) → SW E G (.inl (none, σ1)) A 5 σ 2 [(0, kr E l0), (1, .int l1), (2, .int l2)] []) : ∀ (l0 : Nat) (l1 : Int32) (l2 : Int32) (l3 : Int32) (σ : kdM), X12_findPrices_12 G k2 l0 l1 l2 l3 σ = some (r, σ1) → SW E G (.inl (none, σ1)) A 5 σ 12 [(0, kr E l0), (1, .int l1), (2, .int l2), (3, .int l3)] [] :=
  lp_ind (Q := fun f => ∀ (l0 : Nat) (l1 : Int32) (l2 : Int32) (l3 : Int32) (σ : kdM), f l0 l1 l2 l3 σ = some (r, σ1) → SW E G (.inl (none, σ1)) A 5 σ 12 [(0, kr E l0), (1, .int l1), (2, .int l2), (3, .int l3)] []) (by intros; contradiction) (fun k hk l0 l1 l2 l3 σ h => wX12_findPrices_12B hX k2 k hk2 hk h) NN
def X12_findPrices_2B (G : kdS) (k2 : Nat → Int32 → Int32 → kdM → Option (Unit × kdM)) (l0 : Nat) (l1 : Int32) (l2 : Int32) : kdM → Option (Unit × kdM) :=
  gI G 12 29 l0 fun t1 =>
  cnd (t1 ≤ l2)
    (rt ())
    (X12_findPrices_12 G k2 l0 l1 l2 (0 : Int32))
set_option maxRecDepth 100000 in
set_option maxHeartbeats 4000000 in
theorem wX12_findPrices_2B {E : kdE} {G : kdS} {A : kdA} {r : Unit} {σ1 : kdM} (hX : kdX E A cX12_findPrices 5 RX12 none 4) (k2 : Nat → Int32 → Int32 → kdM → Option (Unit × kdM)) (hk2 : ∀ (l0 : Nat) (l1 : Int32) (l2 : Int32) (σ : kdM), k2 l0 l1 l2 σ = some (r, σ1) → SW E G (.inl (none, σ1)) A 5 σ 2 [(0, kr E l0), (1, .int l1), (2, .int l2)] []) {σ : kdM} {l0 : Nat} {l1 : Int32} {l2 : Int32} (h : X12_findPrices_2B G k2 l0 l1 l2 σ = some (r, σ1)) : SW E G (.inl (none, σ1)) A 5 σ 2 [(0, kr E l0), (1, .int l1), (2, .int l2)] [] := by
  unfold X12_findPrices_2B at h
  refine r_iload_n hX dX12_findPrices_2 rfl 2 rfl ?_
  refine r_aload_n hX dX12_findPrices_3 rfl 0 rfl ?_
  refine r_gI hX dX12_findPrices_4 kf_X12_244 rfl h ?_
  clear h; intro t1 h
  refine r_icmp_ge (tgt := 101) hX dX12_findPrices_7 (by decide) h ?_ ?_
  · clear h; intro h
    exact r_vret hX dX12_findPrices_101 h
  · clear h; intro h
    refine r_iconst hX dX12_findPrices_10 kk_i_0 ?_
    refine r_istore_n (L2 := [(3, .int (0 : Int32)), (0, kr E l0), (1, .int l1), (2, .int l2)]) hX dX12_findPrices_11 rfl (by decide) rfl ?_
    refine r_sub [1, 2, 3, 0] rfl ?_
    exact wX12_findPrices_12 hX k2 hk2 _ _ _ _ _ h
def X12_findPrices_2 (G : kdS) : Nat → Int32 → Int32 → kdM → Option (Unit × kdM) := lp (fun _ _ _ _ => none) (X12_findPrices_2B G) NN
theorem wX12_findPrices_2 {E : kdE} {G : kdS} {A : kdA} {r : Unit} {σ1 : kdM} (hX : kdX E A cX12_findPrices 5 RX12 none 4) : ∀ (l0 : Nat) (l1 : Int32) (l2 : Int32) (σ : kdM), X12_findPrices_2 G l0 l1 l2 σ = some (r, σ1) → SW E G (.inl (none, σ1)) A 5 σ 2 [(0, kr E l0), (1, .int l1), (2, .int l2)] [] :=
  lp_ind (Q := fun f => ∀ (l0 : Nat) (l1 : Int32) (l2 : Int32) (σ : kdM), f l0 l1 l2 σ = some (r, σ1) → SW E G (.inl (none, σ1)) A 5 σ 2 [(0, kr E l0), (1, .int l1), (2, .int l2)] []) (by intros; contradiction) (fun k hk l0 l1 l2 σ h => wX12_findPrices_2B hX k hk h) NN
def X12_findPrices (G : kdS) (l0 : Nat) (l1 : Int32) : kdM → Option (Unit × kdM) :=
  X12_findPrices_2 G l0 l1 (0 : Int32)
set_option maxRecDepth 100000 in
set_option maxHeartbeats 4000000 in
theorem wX12_findPrices {E : kdE} {G : kdS} {l0 : Nat} {l1 : Int32} {σ : kdM} {r : Unit} {σ1 : kdM} (h : X12_findPrices G l0 l1 σ = some (r, σ1)) : Con E G yX12_findPrices cX12_findPrices 5 none 4 [kr E l0, .int l1] σ (none, σ1) := by
  refine kd_head (own := RX12) rfl (by decide +kernel) (Nat.le_of_ble_eq_true rfl) (fun A hX => ?_)
  show SW E G (.inl (none, σ1)) A 5 σ 0 [(0, kr E l0), (1, .int l1)] []
  unfold X12_findPrices at h
  refine r_iconst hX dX12_findPrices_0 kk_i_0 ?_
  refine r_istore_n (L2 := [(2, .int (0 : Int32)), (0, kr E l0), (1, .int l1)]) hX dX12_findPrices_1 rfl (by decide) rfl ?_
  refine r_sub [1, 2, 0] rfl ?_
  exact wX12_findPrices_2 hX _ _ _ _ h
def X12_sumBy_81 (G : kdS) (s0 : Int32) : kdM → Option (Int32 × kdM) :=
  rt s0
set_option maxRecDepth 100000 in
set_option maxHeartbeats 4000000 in
theorem wX12_sumBy_81 {E : kdE} {G : kdS} {A : kdA} {r : Int32} {σ1 : kdM} (hX : kdX E A cX12_sumBy 8 RX12 (some .int) 1) {σ : kdM} {s0 : Int32} (h : X12_sumBy_81 G s0 σ = some (r, σ1)) : SW E G (.inl (some (.int r), σ1)) A 8 σ 81 [] [.int s0] := by
  unfold X12_sumBy_81 at h
  exact r_iret hX dX12_sumBy_81 h
def X12_sumBy_50 (G : kdS) (l0 : Nat) (l1 : Int32) (l4 : Int32) (l5 : Int32) (l6 : Int32) (s0 : Int32) : kdM → Option (Int32 × kdM) :=
  cnd (l6 = (1000000000 : Int32))
    (X12_sumBy_81 G (1000000000 : Int32))
    (kcv G 12 l0 (X12_priceAt G l0 l4 l1 l5) fun t1 =>
    X12_sumBy_81 G ((l6 + s0) + t1))
set_option maxRecDepth 100000 in
set_option maxHeartbeats 4000000 in
theorem wX12_sumBy_50 {E : kdE} {G : kdS} {A : kdA} {r : Int32} {σ1 : kdM} (hX : kdX E A cX12_sumBy 8 RX12 (some .int) 1) {σ : kdM} {l0 : Nat} {l1 : Int32} {l4 : Int32} {l5 : Int32} {l6 : Int32} {s0 : Int32} (h : X12_sumBy_50 G l0 l1 l4 l5 l6 s0 σ = some (r, σ1)) : SW E G (.inl (some (.int r), σ1)) A 8 σ 50 [(0, kr E l0), (1, .int l1), (4, .int l4), (5, .int l5), (6, .int l6)] [.int s0] := by
  unfold X12_sumBy_50 at h
  refine r_istore (L2 := [(7, .int s0), (0, kr E l0), (1, .int l1), (4, .int l4), (5, .int l5), (6, .int l6)]) hX dX12_sumBy_50 (by decide) rfl ?_
  refine r_iload hX dX12_sumBy_52 5 rfl ?_
  refine r_ldc_w hX dX12_sumBy_54 w_ct_X12_265 ?_
  refine r_icmp_ne (tgt := 66) hX dX12_sumBy_57 (by decide) h ?_ ?_
  · clear h; intro h
    refine r_ldc_w hX dX12_sumBy_60 w_ct_X12_265 ?_
    refine r_goto (tgt := 81) hX dX12_sumBy_63 (by decide) ?_
    refine r_sub [] rfl ?_
    exact wX12_sumBy_81 hX h
  · clear h; intro h
    refine r_iload hX dX12_sumBy_66 5 rfl ?_
    refine r_iload hX dX12_sumBy_68 0 rfl ?_
    refine r_iadd hX dX12_sumBy_70 ?_
    refine r_aload_n hX dX12_sumBy_71 rfl 1 rfl ?_
    refine r_iload hX dX12_sumBy_72 3 rfl ?_
    refine r_iload_n hX dX12_sumBy_74 rfl 2 rfl ?_
    refine r_iload hX dX12_sumBy_75 4 rfl ?_
    refine r_cVi (As := [.int l4, .int l1, .int l5]) (st := [.int (l6 + s0)]) hX dX12_sumBy_77 kl_X12_priceAt w_ml_X12_297 w_im_X12_priceAt w_se_X12_priceAt ⟨_, _, rfl⟩ (by decide) rfl (Nat.le_of_ble_eq_true rfl) rfl kdz0 h (fun r σ1 h => wX12_priceAt h) ?_
    clear h; intro t1 σ h
    refine r_iadd hX dX12_sumBy_80 ?_
    refine r_sub [] rfl ?_
    exact wX12_sumBy_81 hX h
def X12_sumBy_49 (G : kdS) (l0 : Nat) (l1 : Int32) (l4 : Int32) (l5 : Int32) (l6 : Int32) : kdM → Option (Int32 × kdM) :=
  X12_sumBy_50 G l0 l1 l4 l5 l6 (0 : Int32)
set_option maxRecDepth 100000 in
set_option maxHeartbeats 4000000 in
theorem wX12_sumBy_49 {E : kdE} {G : kdS} {A : kdA} {r : Int32} {σ1 : kdM} (hX : kdX E A cX12_sumBy 8 RX12 (some .int) 1) {σ : kdM} {l0 : Nat} {l1 : Int32} {l4 : Int32} {l5 : Int32} {l6 : Int32} (h : X12_sumBy_49 G l0 l1 l4 l5 l6 σ = some (r, σ1)) : SW E G (.inl (some (.int r), σ1)) A 8 σ 49 [(0, kr E l0), (1, .int l1), (4, .int l4), (5, .int l5), (6, .int l6)] [] := by
  unfold X12_sumBy_49 at h
  refine r_iconst hX dX12_sumBy_49 kk_i_0 ?_
  refine r_sub [0, 1, 2, 3, 4] rfl ?_
  exact wX12_sumBy_50 hX h
def X12_sumBy (G : kdS) (l0 : Nat) (l1 : Int32) (l2 : Int32) (l3 : Int32) (l4 : Int32) (l5 : Int32) : kdM → Option (Int32 × kdM) :=
  gR G 12 36 l0 fun t1 =>
  gR G 12 24 l0 fun t2 =>
  aI G t2 (l4) fun t3 =>
  kcl (X12_placeOf G (l1 + l5) (l2 - (1 : Int32)) t3) fun t4 =>
  aI G t1 (t4) fun t5 =>
  cnd ((3 : Int32) ≤ l3)
    (X12_sumBy_49 G l0 l1 l4 l5 t5)
    (gR G 12 24 l0 fun t6 =>
    aI G t6 (l4) fun t7 =>
    cnd (l3 = t7)
      (X12_sumBy_49 G l0 l1 l4 l5 t5)
      (gR G 12 30 l0 fun t8 =>
      aI G t8 ((5 : Int32)) fun t9 =>
      X12_sumBy_50 G l0 l1 l4 l5 t5 t9))
set_option maxRecDepth 100000 in
set_option maxHeartbeats 4000000 in
theorem wX12_sumBy {E : kdE} {G : kdS} {l0 : Nat} {l1 : Int32} {l2 : Int32} {l3 : Int32} {l4 : Int32} {l5 : Int32} {σ : kdM} {r : Int32} {σ1 : kdM} (h : X12_sumBy G l0 l1 l2 l3 l4 l5 σ = some (r, σ1)) : Con E G yX12_sumBy cX12_sumBy 8 (some .int) 1 [kr E l0, .int l1, .int l2, .int l3, .int l4, .int l5] σ (some (.int r), σ1) := by
  refine kd_head (own := RX12) rfl (by decide +kernel) (Nat.le_of_ble_eq_true rfl) (fun A hX => ?_)
  show SW E G (.inl (some (.int r), σ1)) A 8 σ 0 [(0, kr E l0), (1, .int l1), (2, .int l2), (3, .int l3), (4, .int l4), (5, .int l5)] []
  unfold X12_sumBy at h
  refine r_aload_n hX dX12_sumBy_0 rfl 0 rfl ?_
  refine r_gR hX dX12_sumBy_1 kf_X12_92 rfl h ?_
  clear h; intro t1 h
  refine r_iload_n hX dX12_sumBy_4 rfl 1 rfl ?_
  refine r_iload hX dX12_sumBy_5 5 rfl ?_
  refine r_iadd hX dX12_sumBy_7 ?_
  refine r_iload_n hX dX12_sumBy_8 rfl 2 rfl ?_
  refine r_iconst hX dX12_sumBy_9 kk_i_1 ?_
  refine r_isub hX dX12_sumBy_10 ?_
  refine r_aload_n hX dX12_sumBy_11 rfl 0 rfl ?_
  refine r_gR hX dX12_sumBy_12 kf_X12_62 rfl h ?_
  clear h; intro t2 h
  refine r_iload hX dX12_sumBy_15 4 rfl ?_
  refine r_aI hX dX12_sumBy_17 h ?_
  clear h; intro t3 h
  refine r_cSi (As := [.int (l1 + l5), .int (l2 - (1 : Int32)), .int t3]) (st := [kr E t1]) hX dX12_sumBy_18 kl_X12_placeOf w_ml_X12_294 w_st_X12_placeOf (by decide) rfl (Nat.le_of_ble_eq_true rfl) rfl kdz0 h (fun r σ1 h => wX12_placeOf h) ?_
  clear h; intro t4 σ h
  refine r_aI hX dX12_sumBy_21 h ?_
  clear h; intro t5 h
  refine r_istore (L2 := [(6, .int t5), (0, kr E l0), (1, .int l1), (2, .int l2), (3, .int l3), (4, .int l4), (5, .int l5)]) hX dX12_sumBy_22 (by decide) rfl ?_
  refine r_iload_n hX dX12_sumBy_24 rfl 4 rfl ?_
  refine r_iconst hX dX12_sumBy_25 kk_i_3 ?_
  refine r_icmp_ge (tgt := 49) hX dX12_sumBy_26 (by decide) h ?_ ?_
  · clear h; intro h
    refine r_sub [1, 2, 5, 6, 0] rfl ?_
    exact wX12_sumBy_49 hX h
  · clear h; intro h
    refine r_iload_n hX dX12_sumBy_29 rfl 4 rfl ?_
    refine r_aload_n hX dX12_sumBy_30 rfl 1 rfl ?_
    refine r_gR hX dX12_sumBy_31 kf_X12_62 rfl h ?_
    clear h; intro t6 h
    refine r_iload hX dX12_sumBy_34 5 rfl ?_
    refine r_aI hX dX12_sumBy_36 h ?_
    clear h; intro t7 h
    refine r_icmp_eq (tgt := 49) hX dX12_sumBy_37 (by decide) h ?_ ?_
    · clear h; intro h
      refine r_sub [1, 2, 5, 6, 0] rfl ?_
      exact wX12_sumBy_49 hX h
    · clear h; intro h
      refine r_aload_n hX dX12_sumBy_40 rfl 1 rfl ?_
      refine r_gR hX dX12_sumBy_41 kf_X12_77 rfl h ?_
      clear h; intro t8 h
      refine r_iconst hX dX12_sumBy_44 kk_i_5 ?_
      refine r_aI hX dX12_sumBy_45 h ?_
      clear h; intro t9 h
      refine r_goto (tgt := 50) hX dX12_sumBy_46 (by decide) ?_
      refine r_sub [1, 2, 5, 6, 0] rfl ?_
      exact wX12_sumBy_50 hX h
def X12_productBy (G : kdS) (l0 : Nat) (l1 : Int32) (l2 : Int32) (l3 : Int32) (l4 : Int32) : kdM → Option (Int64 × kdM) :=
  gR G 12 37 l0 fun t1 =>
  gR G 12 24 l0 fun t2 =>
  aI G t2 (l3) fun t3 =>
  kcl (X12_placeOf G (l1 + l4) (l2 - (1 : Int32)) t3) fun t4 =>
  aL G t1 (t4) fun t5 =>
  gR G 12 26 l0 fun t6 =>
  aI G t6 (l3) fun t7 =>
  rt (t5 * (Int32.toInt64 t7))
set_option maxRecDepth 100000 in
set_option maxHeartbeats 4000000 in
theorem wX12_productBy {E : kdE} {G : kdS} {l0 : Nat} {l1 : Int32} {l2 : Int32} {l3 : Int32} {l4 : Int32} {σ : kdM} {r : Int64} {σ1 : kdM} (h : X12_productBy G l0 l1 l2 l3 l4 σ = some (r, σ1)) : Con E G yX12_productBy cX12_productBy 5 (some .long) 1 [kr E l0, .int l1, .int l2, .int l3, .int l4] σ (some (.long r), σ1) := by
  refine kd_head (own := RX12) rfl (by decide +kernel) (Nat.le_of_ble_eq_true rfl) (fun A hX => ?_)
  show SW E G (.inl (some (.long r), σ1)) A 5 σ 0 [(0, kr E l0), (1, .int l1), (2, .int l2), (3, .int l3), (4, .int l4)] []
  unfold X12_productBy at h
  refine r_aload_n hX dX12_productBy_0 rfl 0 rfl ?_
  refine r_gR hX dX12_productBy_1 kf_X12_95 rfl h ?_
  clear h; intro t1 h
  refine r_iload_n hX dX12_productBy_4 rfl 1 rfl ?_
  refine r_iload hX dX12_productBy_5 4 rfl ?_
  refine r_iadd hX dX12_productBy_7 ?_
  refine r_iload_n hX dX12_productBy_8 rfl 2 rfl ?_
  refine r_iconst hX dX12_productBy_9 kk_i_1 ?_
  refine r_isub hX dX12_productBy_10 ?_
  refine r_aload_n hX dX12_productBy_11 rfl 0 rfl ?_
  refine r_gR hX dX12_productBy_12 kf_X12_62 rfl h ?_
  clear h; intro t2 h
  refine r_iload_n hX dX12_productBy_15 rfl 3 rfl ?_
  refine r_aI hX dX12_productBy_16 h ?_
  clear h; intro t3 h
  refine r_cSi (As := [.int (l1 + l4), .int (l2 - (1 : Int32)), .int t3]) (st := [kr E t1]) hX dX12_productBy_17 kl_X12_placeOf w_ml_X12_294 w_st_X12_placeOf (by decide) rfl (Nat.le_of_ble_eq_true rfl) rfl kdz0 h (fun r σ1 h => wX12_placeOf h) ?_
  clear h; intro t4 σ h
  refine r_aL hX dX12_productBy_20 h ?_
  clear h; intro t5 h
  refine r_aload_n hX dX12_productBy_21 rfl 0 rfl ?_
  refine r_gR hX dX12_productBy_22 kf_X12_68 rfl h ?_
  clear h; intro t6 h
  refine r_iload_n hX dX12_productBy_25 rfl 3 rfl ?_
  refine r_aI hX dX12_productBy_26 h ?_
  clear h; intro t7 h
  refine r_i2l hX dX12_productBy_27 ?_
  refine r_lmul hX dX12_productBy_28 ?_
  exact r_lret hX dX12_productBy_29 h
def X12_manyBy (G : kdS) (l0 : Nat) (l1 : Int32) (l2 : Int32) (l3 : Int32) (l4 : Int32) : kdM → Option (Int32 × kdM) :=
  gR G 12 38 l0 fun t1 =>
  gR G 12 24 l0 fun t2 =>
  aI G t2 (l3) fun t3 =>
  kcl (X12_placeOf G (l1 + l4) (l2 - (1 : Int32)) t3) fun t4 =>
  aI G t1 (t4) fun t5 =>
  rt (t5 + (1 : Int32))
set_option maxRecDepth 100000 in
set_option maxHeartbeats 4000000 in
theorem wX12_manyBy {E : kdE} {G : kdS} {l0 : Nat} {l1 : Int32} {l2 : Int32} {l3 : Int32} {l4 : Int32} {σ : kdM} {r : Int32} {σ1 : kdM} (h : X12_manyBy G l0 l1 l2 l3 l4 σ = some (r, σ1)) : Con E G yX12_manyBy cX12_manyBy 5 (some .int) 1 [kr E l0, .int l1, .int l2, .int l3, .int l4] σ (some (.int r), σ1) := by
  refine kd_head (own := RX12) rfl (by decide +kernel) (Nat.le_of_ble_eq_true rfl) (fun A hX => ?_)
  show SW E G (.inl (some (.int r), σ1)) A 5 σ 0 [(0, kr E l0), (1, .int l1), (2, .int l2), (3, .int l3), (4, .int l4)] []
  unfold X12_manyBy at h
  refine r_aload_n hX dX12_manyBy_0 rfl 0 rfl ?_
  refine r_gR hX dX12_manyBy_1 kf_X12_99 rfl h ?_
  clear h; intro t1 h
  refine r_iload_n hX dX12_manyBy_4 rfl 1 rfl ?_
  refine r_iload hX dX12_manyBy_5 4 rfl ?_
  refine r_iadd hX dX12_manyBy_7 ?_
  refine r_iload_n hX dX12_manyBy_8 rfl 2 rfl ?_
  refine r_iconst hX dX12_manyBy_9 kk_i_1 ?_
  refine r_isub hX dX12_manyBy_10 ?_
  refine r_aload_n hX dX12_manyBy_11 rfl 0 rfl ?_
  refine r_gR hX dX12_manyBy_12 kf_X12_62 rfl h ?_
  clear h; intro t2 h
  refine r_iload_n hX dX12_manyBy_15 rfl 3 rfl ?_
  refine r_aI hX dX12_manyBy_16 h ?_
  clear h; intro t3 h
  refine r_cSi (As := [.int (l1 + l4), .int (l2 - (1 : Int32)), .int t3]) (st := [kr E t1]) hX dX12_manyBy_17 kl_X12_placeOf w_ml_X12_294 w_st_X12_placeOf (by decide) rfl (Nat.le_of_ble_eq_true rfl) rfl kdz0 h (fun r σ1 h => wX12_placeOf h) ?_
  clear h; intro t4 σ h
  refine r_aI hX dX12_manyBy_20 h ?_
  clear h; intro t5 h
  refine r_iconst hX dX12_manyBy_21 kk_i_1 ?_
  refine r_iadd hX dX12_manyBy_22 ?_
  exact r_iret hX dX12_manyBy_23 h
def X12_findPart_247 (G : kdS) (k37 : Nat → Int32 → Int32 → Int32 → Int32 → Int32 → Int32 → kdM → Option (Unit × kdM)) (l0 : Nat) (l1 : Int32) (l2 : Int32) (l3 : Int32) (l4 : Int32) (l5 : Int32) (l6 : Int32) : kdM → Option (Unit × kdM) :=
  ltI (l6 + Int32.ofInt 1) fun t1 =>
  k37 l0 l1 l2 l3 l4 l5 t1
set_option maxRecDepth 100000 in
set_option maxHeartbeats 4000000 in
theorem wX12_findPart_247 {E : kdE} {G : kdS} {A : kdA} {r : Unit} {σ1 : kdM} (hX : kdX E A cX12_findPart 14 RX12 none 2) (k37 : Nat → Int32 → Int32 → Int32 → Int32 → Int32 → Int32 → kdM → Option (Unit × kdM)) (hk37 : ∀ (l0 : Nat) (l1 : Int32) (l2 : Int32) (l3 : Int32) (l4 : Int32) (l5 : Int32) (l6 : Int32) (σ : kdM), k37 l0 l1 l2 l3 l4 l5 l6 σ = some (r, σ1) → SW E G (.inl (none, σ1)) A 14 σ 37 [(0, kr E l0), (1, .int l1), (2, .int l2), (3, .int l3), (4, .int l4), (5, .int l5), (6, .int l6)] []) {σ : kdM} {l0 : Nat} {l1 : Int32} {l2 : Int32} {l3 : Int32} {l4 : Int32} {l5 : Int32} {l6 : Int32} (h : X12_findPart_247 G k37 l0 l1 l2 l3 l4 l5 l6 σ = some (r, σ1)) : SW E G (.inl (none, σ1)) A 14 σ 247 [(0, kr E l0), (1, .int l1), (2, .int l2), (3, .int l3), (4, .int l4), (5, .int l5), (6, .int l6)] [] := by
  unfold X12_findPart_247 at h
  refine r_iincL (L2 := fun t1 => [(6, .int t1), (0, kr E l0), (1, .int l1), (2, .int l2), (3, .int l3), (4, .int l4), (5, .int l5)]) hX dX12_findPart_247 h 6 rfl (by decide) (fun _ => rfl) ?_
  clear h; intro t1 h
  refine r_goto (tgt := 37) hX dX12_findPart_250 (by decide) ?_
  refine r_sub [1, 2, 3, 4, 5, 6, 0] rfl ?_
  exact hk37 _ _ _ _ _ _ _ _ h
def X12_findPart_241 (G : kdS) (k37 : Nat → Int32 → Int32 → Int32 → Int32 → Int32 → Int32 → kdM → Option (Unit × kdM)) (k49 : Nat → Int32 → Int32 → Int32 → Int32 → Int32 → Int32 → Int32 → kdM → Option (Unit × kdM)) (l0 : Nat) (l1 : Int32) (l2 : Int32) (l3 : Int32) (l4 : Int32) (l5 : Int32) (l6 : Int32) (l7 : Int32) : kdM → Option (Unit × kdM) :=
  ltI (l7 + Int32.ofInt 1) fun t1 =>
  k49 l0 l1 l2 l3 l4 l5 l6 t1
set_option maxRecDepth 100000 in
set_option maxHeartbeats 4000000 in
theorem wX12_findPart_241 {E : kdE} {G : kdS} {A : kdA} {r : Unit} {σ1 : kdM} (hX : kdX E A cX12_findPart 14 RX12 none 2) (k37 : Nat → Int32 → Int32 → Int32 → Int32 → Int32 → Int32 → kdM → Option (Unit × kdM)) (k49 : Nat → Int32 → Int32 → Int32 → Int32 → Int32 → Int32 → Int32 → kdM → Option (Unit × kdM)) (hk37 : ∀ (l0 : Nat) (l1 : Int32) (l2 : Int32) (l3 : Int32) (l4 : Int32) (l5 : Int32) (l6 : Int32) (σ : kdM), k37 l0 l1 l2 l3 l4 l5 l6 σ = some (r, σ1) → SW E G (.inl (none, σ1)) A 14 σ 37 [(0, kr E l0), (1, .int l1), (2, .int l2), (3, .int l3), (4, .int l4), (5, .int l5), (6, .int l6)] []) (hk49 : ∀ (l0 : Nat) (l1 : Int32) (l2 : Int32) (l3 : Int32) (l4 : Int32) (l5 : Int32) (l6 : Int32) (l7 : Int32) (σ : kdM), k49 l0 l1 l2 l3 l4 l5 l6 l7 σ = some (r, σ1) → SW E G (.inl (none, σ1)) A 14 σ 49 [(0, kr E l0), (1, .int l1), (2, .int l2), (3, .int l3), (4, .int l4), (5, .int l5), (6, .int l6), (7, .int l7)] []) {σ : kdM} {l0 : Nat} {l1 : Int32} {l2 : Int32} {l3 : Int32} {l4 : Int32} {l5 : Int32} {l6 : Int32} {l7 : Int32} (h : X12_findPart_241 G k37 k49 l0 l1 l2 l3 l4 l5 l6 l7 σ = some (r, σ1)) : SW E G (.inl (none, σ1)) A 14 σ 241 [(0, kr E l0), (1, .int l1), (2, .int l2), (3, .int l3), (4, .int l4), (5, .int l5), (6, .int l6), (7, .int l7)] [] := by
  unfold X12_findPart_241 at h
  refine r_iincL (L2 := fun t1 => [(7, .int t1), (0, kr E l0), (1, .int l1), (2, .int l2), (3, .int l3), (4, .int l4), (5, .int l5), (6, .int l6)]) hX dX12_findPart_241 h 7 rfl (by decide) (fun _ => rfl) ?_
  clear h; intro t1 h
  refine r_goto (tgt := 49) hX dX12_findPart_244 (by decide) ?_
  refine r_sub [1, 2, 3, 4, 5, 6, 7, 0] rfl ?_
  exact hk49 _ _ _ _ _ _ _ _ _ h
def X12_findPart_214 (G : kdS) (k37 : Nat → Int32 → Int32 → Int32 → Int32 → Int32 → Int32 → kdM → Option (Unit × kdM)) (k49 : Nat → Int32 → Int32 → Int32 → Int32 → Int32 → Int32 → Int32 → kdM → Option (Unit × kdM)) (l0 : Nat) (l1 : Int32) (l2 : Int32) (l3 : Int32) (l4 : Int32) (l5 : Int32) (l6 : Int32) (l7 : Int32) (l8 : Int32) (l9 : Int64) (l11 : Int32) : kdM → Option (Unit × kdM) :=
  gR G 12 36 l0 fun t1 =>
  tI G t1 (l5) (l8) <|
  gR G 12 37 l0 fun t2 =>
  tL G t2 (l5) (l9) <|
  gR G 12 38 l0 fun t3 =>
  tI G t3 (l5) (l11) <|
  X12_findPart_241 G k37 k49 l0 l1 l2 l3 l4 l5 l6 l7
set_option maxRecDepth 100000 in
set_option maxHeartbeats 4000000 in
theorem wX12_findPart_214 {E : kdE} {G : kdS} {A : kdA} {r : Unit} {σ1 : kdM} (hX : kdX E A cX12_findPart 14 RX12 none 2) (k37 : Nat → Int32 → Int32 → Int32 → Int32 → Int32 → Int32 → kdM → Option (Unit × kdM)) (k49 : Nat → Int32 → Int32 → Int32 → Int32 → Int32 → Int32 → Int32 → kdM → Option (Unit × kdM)) (hk37 : ∀ (l0 : Nat) (l1 : Int32) (l2 : Int32) (l3 : Int32) (l4 : Int32) (l5 : Int32) (l6 : Int32) (σ : kdM), k37 l0 l1 l2 l3 l4 l5 l6 σ = some (r, σ1) → SW E G (.inl (none, σ1)) A 14 σ 37 [(0, kr E l0), (1, .int l1), (2, .int l2), (3, .int l3), (4, .int l4), (5, .int l5), (6, .int l6)] []) (hk49 : ∀ (l0 : Nat) (l1 : Int32) (l2 : Int32) (l3 : Int32) (l4 : Int32) (l5 : Int32) (l6 : Int32) (l7 : Int32) (σ : kdM), k49 l0 l1 l2 l3 l4 l5 l6 l7 σ = some (r, σ1) → SW E G (.inl (none, σ1)) A 14 σ 49 [(0, kr E l0), (1, .int l1), (2, .int l2), (3, .int l3), (4, .int l4), (5, .int l5), (6, .int l6), (7, .int l7)] []) {σ : kdM} {l0 : Nat} {l1 : Int32} {l2 : Int32} {l3 : Int32} {l4 : Int32} {l5 : Int32} {l6 : Int32} {l7 : Int32} {l8 : Int32} {l9 : Int64} {l11 : Int32} (h : X12_findPart_214 G k37 k49 l0 l1 l2 l3 l4 l5 l6 l7 l8 l9 l11 σ = some (r, σ1)) : SW E G (.inl (none, σ1)) A 14 σ 214 [(0, kr E l0), (1, .int l1), (2, .int l2), (3, .int l3), (4, .int l4), (5, .int l5), (6, .int l6), (7, .int l7), (8, .int l8), (9, .long l9), (11, .int l11)] [] := by
  unfold X12_findPart_214 at h
  refine r_aload_n hX dX12_findPart_214 rfl 0 rfl ?_
  refine r_gR hX dX12_findPart_215 kf_X12_92 rfl h ?_
  clear h; intro t1 h
  refine r_iload hX dX12_findPart_218 5 rfl ?_
  refine r_iload hX dX12_findPart_220 8 rfl ?_
  refine r_tI hX dX12_findPart_222 h ?_
  clear h; intro σ h
  refine r_aload_n hX dX12_findPart_223 rfl 0 rfl ?_
  refine r_gR hX dX12_findPart_224 kf_X12_95 rfl h ?_
  clear h; intro t2 h
  refine r_iload hX dX12_findPart_227 5 rfl ?_
  refine r_lload hX dX12_findPart_229 9 rfl ?_
  refine r_tL hX dX12_findPart_231 h ?_
  clear h; intro σ h
  refine r_aload_n hX dX12_findPart_232 rfl 0 rfl ?_
  refine r_gR hX dX12_findPart_233 kf_X12_99 rfl h ?_
  clear h; intro t3 h
  refine r_iload hX dX12_findPart_236 5 rfl ?_
  refine r_iload hX dX12_findPart_238 10 rfl ?_
  refine r_tI hX dX12_findPart_240 h ?_
  clear h; intro σ h
  refine r_sub [0, 1, 2, 3, 4, 5, 6, 7] rfl ?_
  exact wX12_findPart_241 hX k37 k49 hk37 hk49 h
def X12_findPart_164 (G : kdS) (k37 : Nat → Int32 → Int32 → Int32 → Int32 → Int32 → Int32 → kdM → Option (Unit × kdM)) (k49 : Nat → Int32 → Int32 → Int32 → Int32 → Int32 → Int32 → Int32 → kdM → Option (Unit × kdM)) (l0 : Nat) (l1 : Int32) (l2 : Int32) (l3 : Int32) (l4 : Int32) (l5 : Int32) (l6 : Int32) (l7 : Int32) (l8 : Int32) (l9 : Int64) (l11 : Int32) (l12 : Int32) (s0 : Int32) : kdM → Option (Unit × kdM) :=
  cnd (l12 = 0)
    (cnd (s0 = 0)
      (X12_findPart_241 G k37 k49 l0 l1 l2 l3 l4 l5 l6 l7)
      (gR G 12 37 l0 fun t1 =>
      aL G t1 (l5) fun t2 =>
      cnd (0 < (lg_cmp l9 t2))
        (X12_findPart_214 G k37 k49 l0 l1 l2 l3 l4 l5 l6 l7 l8 l9 l11)
        (gR G 12 37 l0 fun t3 =>
        aL G t3 (l5) fun t4 =>
        cnd ((lg_cmp l9 t4) = 0)
          (gR G 12 38 l0 fun t5 =>
          aI G t5 (l5) fun t6 =>
          cnd (t6 ≤ l11)
            (X12_findPart_241 G k37 k49 l0 l1 l2 l3 l4 l5 l6 l7)
            (X12_findPart_214 G k37 k49 l0 l1 l2 l3 l4 l5 l6 l7 l8 l9 l11))
          (X12_findPart_241 G k37 k49 l0 l1 l2 l3 l4 l5 l6 l7))))
    (X12_findPart_214 G k37 k49 l0 l1 l2 l3 l4 l5 l6 l7 l8 l9 l11)
set_option maxRecDepth 100000 in
set_option maxHeartbeats 4000000 in
theorem wX12_findPart_164 {E : kdE} {G : kdS} {A : kdA} {r : Unit} {σ1 : kdM} (hX : kdX E A cX12_findPart 14 RX12 none 2) (k37 : Nat → Int32 → Int32 → Int32 → Int32 → Int32 → Int32 → kdM → Option (Unit × kdM)) (k49 : Nat → Int32 → Int32 → Int32 → Int32 → Int32 → Int32 → Int32 → kdM → Option (Unit × kdM)) (hk37 : ∀ (l0 : Nat) (l1 : Int32) (l2 : Int32) (l3 : Int32) (l4 : Int32) (l5 : Int32) (l6 : Int32) (σ : kdM), k37 l0 l1 l2 l3 l4 l5 l6 σ = some (r, σ1) → SW E G (.inl (none, σ1)) A 14 σ 37 [(0, kr E l0), (1, .int l1), (2, .int l2), (3, .int l3), (4, .int l4), (5, .int l5), (6, .int l6)] []) (hk49 : ∀ (l0 : Nat) (l1 : Int32) (l2 : Int32) (l3 : Int32) (l4 : Int32) (l5 : Int32) (l6 : Int32) (l7 : Int32) (σ : kdM), k49 l0 l1 l2 l3 l4 l5 l6 l7 σ = some (r, σ1) → SW E G (.inl (none, σ1)) A 14 σ 49 [(0, kr E l0), (1, .int l1), (2, .int l2), (3, .int l3), (4, .int l4), (5, .int l5), (6, .int l6), (7, .int l7)] []) {σ : kdM} {l0 : Nat} {l1 : Int32} {l2 : Int32} {l3 : Int32} {l4 : Int32} {l5 : Int32} {l6 : Int32} {l7 : Int32} {l8 : Int32} {l9 : Int64} {l11 : Int32} {l12 : Int32} {s0 : Int32} (h : X12_findPart_164 G k37 k49 l0 l1 l2 l3 l4 l5 l6 l7 l8 l9 l11 l12 s0 σ = some (r, σ1)) : SW E G (.inl (none, σ1)) A 14 σ 164 [(0, kr E l0), (1, .int l1), (2, .int l2), (3, .int l3), (4, .int l4), (5, .int l5), (6, .int l6), (7, .int l7), (8, .int l8), (9, .long l9), (11, .int l11), (12, .int l12)] [.int s0] := by
  unfold X12_findPart_164 at h
  refine r_istore (L2 := [(13, .int s0), (0, kr E l0), (1, .int l1), (2, .int l2), (3, .int l3), (4, .int l4), (5, .int l5), (6, .int l6), (7, .int l7), (8, .int l8), (9, .long l9), (11, .int l11), (12, .int l12)]) hX dX12_findPart_164 (by decide) rfl ?_
  refine r_iload hX dX12_findPart_166 12 rfl ?_
  refine r_if_ne (tgt := 214) hX dX12_findPart_168 (by decide) h ?_ ?_
  · clear h; intro h
    refine r_iload hX dX12_findPart_171 0 rfl ?_
    refine r_if_eq (tgt := 241) hX dX12_findPart_173 (by decide) h ?_ ?_
    · clear h; intro h
      refine r_sub [1, 2, 3, 4, 5, 6, 7, 8] rfl ?_
      exact wX12_findPart_241 hX k37 k49 hk37 hk49 h
    · clear h; intro h
      refine r_lload hX dX12_findPart_176 10 rfl ?_
      refine r_aload_n hX dX12_findPart_178 rfl 1 rfl ?_
      refine r_gR hX dX12_findPart_179 kf_X12_95 rfl h ?_
      clear h; intro t1 h
      refine r_iload hX dX12_findPart_182 6 rfl ?_
      refine r_aL hX dX12_findPart_184 h ?_
      clear h; intro t2 h
      refine r_lcmp hX dX12_findPart_185 ?_
      refine r_if_gt (tgt := 214) hX dX12_findPart_186 (by decide) h ?_ ?_
      · clear h; intro h
        refine r_sub [1, 2, 3, 4, 5, 6, 7, 8, 9, 10, 11] rfl ?_
        exact wX12_findPart_214 hX k37 k49 hk37 hk49 h
      · clear h; intro h
        refine r_lload hX dX12_findPart_189 10 rfl ?_
        refine r_aload_n hX dX12_findPart_191 rfl 1 rfl ?_
        refine r_gR hX dX12_findPart_192 kf_X12_95 rfl h ?_
        clear h; intro t3 h
        refine r_iload hX dX12_findPart_195 6 rfl ?_
        refine r_aL hX dX12_findPart_197 h ?_
        clear h; intro t4 h
        refine r_lcmp hX dX12_findPart_198 ?_
        refine r_if_ne (tgt := 241) hX dX12_findPart_199 (by decide) h ?_ ?_
        · clear h; intro h
          refine r_iload hX dX12_findPart_202 11 rfl ?_
          refine r_aload_n hX dX12_findPart_204 rfl 1 rfl ?_
          refine r_gR hX dX12_findPart_205 kf_X12_99 rfl h ?_
          clear h; intro t5 h
          refine r_iload hX dX12_findPart_208 6 rfl ?_
          refine r_aI hX dX12_findPart_210 h ?_
          clear h; intro t6 h
          refine r_icmp_ge (tgt := 241) hX dX12_findPart_211 (by decide) h ?_ ?_
          · clear h; intro h
            refine r_sub [1, 2, 3, 4, 5, 6, 7, 8] rfl ?_
            exact wX12_findPart_241 hX k37 k49 hk37 hk49 h
          · clear h; intro h
            refine r_sub [1, 2, 3, 4, 5, 6, 7, 8, 9, 10, 11] rfl ?_
            exact wX12_findPart_214 hX k37 k49 hk37 hk49 h
        · clear h; intro h
          refine r_sub [1, 2, 3, 4, 5, 6, 7, 8] rfl ?_
          exact wX12_findPart_241 hX k37 k49 hk37 hk49 h
  · clear h; intro h
    refine r_sub [1, 2, 3, 4, 5, 6, 7, 8, 9, 10, 11] rfl ?_
    exact wX12_findPart_214 hX k37 k49 hk37 hk49 h
def X12_findPart_163 (G : kdS) (k37 : Nat → Int32 → Int32 → Int32 → Int32 → Int32 → Int32 → kdM → Option (Unit × kdM)) (k49 : Nat → Int32 → Int32 → Int32 → Int32 → Int32 → Int32 → Int32 → kdM → Option (Unit × kdM)) (l0 : Nat) (l1 : Int32) (l2 : Int32) (l3 : Int32) (l4 : Int32) (l5 : Int32) (l6 : Int32) (l7 : Int32) (l8 : Int32) (l9 : Int64) (l11 : Int32) (l12 : Int32) : kdM → Option (Unit × kdM) :=
  X12_findPart_164 G k37 k49 l0 l1 l2 l3 l4 l5 l6 l7 l8 l9 l11 l12 (0 : Int32)
set_option maxRecDepth 100000 in
set_option maxHeartbeats 4000000 in
theorem wX12_findPart_163 {E : kdE} {G : kdS} {A : kdA} {r : Unit} {σ1 : kdM} (hX : kdX E A cX12_findPart 14 RX12 none 2) (k37 : Nat → Int32 → Int32 → Int32 → Int32 → Int32 → Int32 → kdM → Option (Unit × kdM)) (k49 : Nat → Int32 → Int32 → Int32 → Int32 → Int32 → Int32 → Int32 → kdM → Option (Unit × kdM)) (hk37 : ∀ (l0 : Nat) (l1 : Int32) (l2 : Int32) (l3 : Int32) (l4 : Int32) (l5 : Int32) (l6 : Int32) (σ : kdM), k37 l0 l1 l2 l3 l4 l5 l6 σ = some (r, σ1) → SW E G (.inl (none, σ1)) A 14 σ 37 [(0, kr E l0), (1, .int l1), (2, .int l2), (3, .int l3), (4, .int l4), (5, .int l5), (6, .int l6)] []) (hk49 : ∀ (l0 : Nat) (l1 : Int32) (l2 : Int32) (l3 : Int32) (l4 : Int32) (l5 : Int32) (l6 : Int32) (l7 : Int32) (σ : kdM), k49 l0 l1 l2 l3 l4 l5 l6 l7 σ = some (r, σ1) → SW E G (.inl (none, σ1)) A 14 σ 49 [(0, kr E l0), (1, .int l1), (2, .int l2), (3, .int l3), (4, .int l4), (5, .int l5), (6, .int l6), (7, .int l7)] []) {σ : kdM} {l0 : Nat} {l1 : Int32} {l2 : Int32} {l3 : Int32} {l4 : Int32} {l5 : Int32} {l6 : Int32} {l7 : Int32} {l8 : Int32} {l9 : Int64} {l11 : Int32} {l12 : Int32} (h : X12_findPart_163 G k37 k49 l0 l1 l2 l3 l4 l5 l6 l7 l8 l9 l11 l12 σ = some (r, σ1)) : SW E G (.inl (none, σ1)) A 14 σ 163 [(0, kr E l0), (1, .int l1), (2, .int l2), (3, .int l3), (4, .int l4), (5, .int l5), (6, .int l6), (7, .int l7), (8, .int l8), (9, .long l9), (11, .int l11), (12, .int l12)] [] := by
  unfold X12_findPart_163 at h
  refine r_iconst hX dX12_findPart_163 kk_i_0 ?_
  refine r_sub [0, 1, 2, 3, 4, 5, 6, 7, 8, 9, 10, 11] rfl ?_
  exact wX12_findPart_164 hX k37 k49 hk37 hk49 h
def X12_findPart_137 (G : kdS) (k37 : Nat → Int32 → Int32 → Int32 → Int32 → Int32 → Int32 → kdM → Option (Unit × kdM)) (k49 : Nat → Int32 → Int32 → Int32 → Int32 → Int32 → Int32 → Int32 → kdM → Option (Unit × kdM)) (l0 : Nat) (l1 : Int32) (l2 : Int32) (l3 : Int32) (l4 : Int32) (l5 : Int32) (l6 : Int32) (l7 : Int32) (l8 : Int32) (l9 : Int64) (l11 : Int32) (s0 : Int32) : kdM → Option (Unit × kdM) :=
  gR G 12 36 l0 fun t1 =>
  aI G t1 (l5) fun t2 =>
  cnd (l8 = t2)
    (cnd ((1000000000 : Int32) ≤ l8)
      (X12_findPart_163 G k37 k49 l0 l1 l2 l3 l4 l5 l6 l7 l8 l9 l11 s0)
      (X12_findPart_164 G k37 k49 l0 l1 l2 l3 l4 l5 l6 l7 l8 l9 l11 s0 (1 : Int32)))
    (X12_findPart_163 G k37 k49 l0 l1 l2 l3 l4 l5 l6 l7 l8 l9 l11 s0)
set_option maxRecDepth 100000 in
set_option maxHeartbeats 4000000 in
theorem wX12_findPart_137 {E : kdE} {G : kdS} {A : kdA} {r : Unit} {σ1 : kdM} (hX : kdX E A cX12_findPart 14 RX12 none 2) (k37 : Nat → Int32 → Int32 → Int32 → Int32 → Int32 → Int32 → kdM → Option (Unit × kdM)) (k49 : Nat → Int32 → Int32 → Int32 → Int32 → Int32 → Int32 → Int32 → kdM → Option (Unit × kdM)) (hk37 : ∀ (l0 : Nat) (l1 : Int32) (l2 : Int32) (l3 : Int32) (l4 : Int32) (l5 : Int32) (l6 : Int32) (σ : kdM), k37 l0 l1 l2 l3 l4 l5 l6 σ = some (r, σ1) → SW E G (.inl (none, σ1)) A 14 σ 37 [(0, kr E l0), (1, .int l1), (2, .int l2), (3, .int l3), (4, .int l4), (5, .int l5), (6, .int l6)] []) (hk49 : ∀ (l0 : Nat) (l1 : Int32) (l2 : Int32) (l3 : Int32) (l4 : Int32) (l5 : Int32) (l6 : Int32) (l7 : Int32) (σ : kdM), k49 l0 l1 l2 l3 l4 l5 l6 l7 σ = some (r, σ1) → SW E G (.inl (none, σ1)) A 14 σ 49 [(0, kr E l0), (1, .int l1), (2, .int l2), (3, .int l3), (4, .int l4), (5, .int l5), (6, .int l6), (7, .int l7)] []) {σ : kdM} {l0 : Nat} {l1 : Int32} {l2 : Int32} {l3 : Int32} {l4 : Int32} {l5 : Int32} {l6 : Int32} {l7 : Int32} {l8 : Int32} {l9 : Int64} {l11 : Int32} {s0 : Int32} (h : X12_findPart_137 G k37 k49 l0 l1 l2 l3 l4 l5 l6 l7 l8 l9 l11 s0 σ = some (r, σ1)) : SW E G (.inl (none, σ1)) A 14 σ 137 [(0, kr E l0), (1, .int l1), (2, .int l2), (3, .int l3), (4, .int l4), (5, .int l5), (6, .int l6), (7, .int l7), (8, .int l8), (9, .long l9), (11, .int l11)] [.int s0] := by
  unfold X12_findPart_137 at h
  refine r_istore (L2 := [(12, .int s0), (0, kr E l0), (1, .int l1), (2, .int l2), (3, .int l3), (4, .int l4), (5, .int l5), (6, .int l6), (7, .int l7), (8, .int l8), (9, .long l9), (11, .int l11)]) hX dX12_findPart_137 (by decide) rfl ?_
  refine r_iload hX dX12_findPart_139 9 rfl ?_
  refine r_aload_n hX dX12_findPart_141 rfl 1 rfl ?_
  refine r_gR hX dX12_findPart_142 kf_X12_92 rfl h ?_
  clear h; intro t1 h
  refine r_iload hX dX12_findPart_145 6 rfl ?_
  refine r_aI hX dX12_findPart_147 h ?_
  clear h; intro t2 h
  refine r_icmp_ne (tgt := 163) hX dX12_findPart_148 (by decide) h ?_ ?_
  · clear h; intro h
    refine r_iload hX dX12_findPart_151 9 rfl ?_
    refine r_ldc_w hX dX12_findPart_153 w_ct_X12_265 ?_
    refine r_icmp_ge (tgt := 163) hX dX12_findPart_156 (by decide) h ?_ ?_
    · clear h; intro h
      refine r_sub [1, 2, 3, 4, 5, 6, 7, 8, 9, 10, 11, 0] rfl ?_
      exact wX12_findPart_163 hX k37 k49 hk37 hk49 h
    · clear h; intro h
      refine r_iconst hX dX12_findPart_159 kk_i_1 ?_
      refine r_goto (tgt := 164) hX dX12_findPart_160 (by decide) ?_
      refine r_sub [1, 2, 3, 4, 5, 6, 7, 8, 9, 10, 11, 0] rfl ?_
      exact wX12_findPart_164 hX k37 k49 hk37 hk49 h
  · clear h; intro h
    refine r_sub [1, 2, 3, 4, 5, 6, 7, 8, 9, 10, 11, 0] rfl ?_
    exact wX12_findPart_163 hX k37 k49 hk37 hk49 h
def X12_findPart_49B (G : kdS) (k37 : Nat → Int32 → Int32 → Int32 → Int32 → Int32 → Int32 → kdM → Option (Unit × kdM)) (k49 : Nat → Int32 → Int32 → Int32 → Int32 → Int32 → Int32 → Int32 → kdM → Option (Unit × kdM)) (l0 : Nat) (l1 : Int32) (l2 : Int32) (l3 : Int32) (l4 : Int32) (l5 : Int32) (l6 : Int32) (l7 : Int32) : kdM → Option (Unit × kdM) :=
  cnd ((10 : Int32) < l7)
    (X12_findPart_247 G k37 l0 l1 l2 l3 l4 l5 l6)
    (gI G 12 1 l0 fun t1 =>
    cnd (t1 < (l1 + l7))
      (X12_findPart_247 G k37 l0 l1 l2 l3 l4 l5 l6)
      (gR G 12 24 l0 fun t2 =>
      aI G t2 (l6) fun t3 =>
      cnd (((l4 >>> (t3 &&& 31)) &&& (1 : Int32)) = (1 : Int32))
        (kcv G 12 l0 (X12_sumBy G l0 l1 l2 l3 l6 l7) fun t4 =>
        kcv G 12 l0 (X12_productBy G l0 l1 l2 l6 l7) fun t5 =>
        kcv G 12 l0 (X12_manyBy G l0 l1 l2 l6 l7) fun t6 =>
        gR G 12 36 l0 fun t7 =>
        aI G t7 (l5) fun t8 =>
        cnd (t8 ≤ t4)
          (X12_findPart_137 G k37 k49 l0 l1 l2 l3 l4 l5 l6 l7 t4 t5 t6 (0 : Int32))
          (X12_findPart_137 G k37 k49 l0 l1 l2 l3 l4 l5 l6 l7 t4 t5 t6 (1 : Int32)))
        (X12_findPart_247 G k37 l0 l1 l2 l3 l4 l5 l6)))
set_option maxRecDepth 100000 in
set_option maxHeartbeats 4000000 in
theorem wX12_findPart_49B {E : kdE} {G : kdS} {A : kdA} {r : Unit} {σ1 : kdM} (hX : kdX E A cX12_findPart 14 RX12 none 2) (k37 : Nat → Int32 → Int32 → Int32 → Int32 → Int32 → Int32 → kdM → Option (Unit × kdM)) (k49 : Nat → Int32 → Int32 → Int32 → Int32 → Int32 → Int32 → Int32 → kdM → Option (Unit × kdM)) (hk37 : ∀ (l0 : Nat) (l1 : Int32) (l2 : Int32) (l3 : Int32) (l4 : Int32) (l5 : Int32) (l6 : Int32) (σ : kdM), k37 l0 l1 l2 l3 l4 l5 l6 σ = some (r, σ1) → SW E G (.inl (none, σ1)) A 14 σ 37 [(0, kr E l0), (1, .int l1), (2, .int l2), (3, .int l3), (4, .int l4), (5, .int l5), (6, .int l6)] []) (hk49 : ∀ (l0 : Nat) (l1 : Int32) (l2 : Int32) (l3 : Int32) (l4 : Int32) (l5 : Int32) (l6 : Int32) (l7 : Int32) (σ : kdM), k49 l0 l1 l2 l3 l4 l5 l6 l7 σ = some (r, σ1) → SW E G (.inl (none, σ1)) A 14 σ 49 [(0, kr E l0), (1, .int l1), (2, .int l2), (3, .int l3), (4, .int l4), (5, .int l5), (6, .int l6), (7, .int l7)] []) {σ : kdM} {l0 : Nat} {l1 : Int32} {l2 : Int32} {l3 : Int32} {l4 : Int32} {l5 : Int32} {l6 : Int32} {l7 : Int32} (h : X12_findPart_49B G k37 k49 l0 l1 l2 l3 l4 l5 l6 l7 σ = some (r, σ1)) : SW E G (.inl (none, σ1)) A 14 σ 49 [(0, kr E l0), (1, .int l1), (2, .int l2), (3, .int l3), (4, .int l4), (5, .int l5), (6, .int l6), (7, .int l7)] [] := by
  unfold X12_findPart_49B at h
  refine r_iload hX dX12_findPart_49 7 rfl ?_
  refine r_bipush hX dX12_findPart_51 kk_b_10 ?_
  refine r_icmp_gt (tgt := 247) hX dX12_findPart_53 (by decide) h ?_ ?_
  · clear h; intro h
    refine r_sub [0, 1, 2, 3, 4, 5, 6] rfl ?_
    exact wX12_findPart_247 hX k37 hk37 h
  · clear h; intro h
    refine r_iload_n hX dX12_findPart_56 rfl 1 rfl ?_
    refine r_iload hX dX12_findPart_57 7 rfl ?_
    refine r_iadd hX dX12_findPart_59 ?_
    refine r_aload_n hX dX12_findPart_60 rfl 0 rfl ?_
    refine r_gI hX dX12_findPart_61 kf_X12_182 rfl h ?_
    clear h; intro t1 h
    refine r_icmp_gt (tgt := 247) hX dX12_findPart_64 (by decide) h ?_ ?_
    · clear h; intro h
      refine r_sub [0, 1, 2, 3, 4, 5, 6] rfl ?_
      exact wX12_findPart_247 hX k37 hk37 h
    · clear h; intro h
      refine r_iload hX dX12_findPart_67 4 rfl ?_
      refine r_aload_n hX dX12_findPart_69 rfl 0 rfl ?_
      refine r_gR hX dX12_findPart_70 kf_X12_62 rfl h ?_
      clear h; intro t2 h
      refine r_iload hX dX12_findPart_73 6 rfl ?_
      refine r_aI hX dX12_findPart_75 h ?_
      clear h; intro t3 h
      refine r_ishr hX dX12_findPart_76 ?_
      refine r_iconst hX dX12_findPart_77 kk_i_1 ?_
      refine r_iand hX dX12_findPart_78 ?_
      refine r_iconst hX dX12_findPart_79 kk_i_1 ?_
      refine r_icmp_ne (tgt := 247) hX dX12_findPart_80 (by decide) h ?_ ?_
      · clear h; intro h
        refine r_aload_n hX dX12_findPart_83 rfl 0 rfl ?_
        refine r_iload_n hX dX12_findPart_84 rfl 1 rfl ?_
        refine r_iload_n hX dX12_findPart_85 rfl 2 rfl ?_
        refine r_iload_n hX dX12_findPart_86 rfl 3 rfl ?_
        refine r_iload hX dX12_findPart_87 6 rfl ?_
        refine r_iload hX dX12_findPart_89 7 rfl ?_
        refine r_cVi (As := [.int l1, .int l2, .int l3, .int l6, .int l7]) (st := []) hX dX12_findPart_91 kl_X12_sumBy w_ml_X12_300 w_im_X12_sumBy w_se_X12_sumBy ⟨_, _, rfl⟩ (by decide) rfl (Nat.le_of_ble_eq_true rfl) rfl kdz0 h (fun r σ1 h => wX12_sumBy h) ?_
        clear h; intro t4 σ h
        refine r_istore (L2 := [(8, .int t4), (0, kr E l0), (1, .int l1), (2, .int l2), (3, .int l3), (4, .int l4), (5, .int l5), (6, .int l6), (7, .int l7)]) hX dX12_findPart_94 (by decide) rfl ?_
        refine r_aload_n hX dX12_findPart_96 rfl 1 rfl ?_
        refine r_iload_n hX dX12_findPart_97 rfl 2 rfl ?_
        refine r_iload_n hX dX12_findPart_98 rfl 3 rfl ?_
        refine r_iload hX dX12_findPart_99 7 rfl ?_
        refine r_iload hX dX12_findPart_101 8 rfl ?_
        refine r_cVl (As := [.int l1, .int l2, .int l6, .int l7]) (st := []) hX dX12_findPart_103 kl_X12_productBy w_ml_X12_304 w_im_X12_productBy w_se_X12_productBy ⟨_, _, rfl⟩ (by decide) rfl (Nat.le_of_ble_eq_true rfl) rfl kdz0 h (fun r σ1 h => wX12_productBy h) ?_
        clear h; intro t5 σ h
        refine r_lstore (L2 := [(9, .long t5), (8, .int t4), (0, kr E l0), (1, .int l1), (2, .int l2), (3, .int l3), (4, .int l4), (5, .int l5), (6, .int l6), (7, .int l7)]) hX dX12_findPart_106 (by decide) rfl ?_
        refine r_aload_n hX dX12_findPart_108 rfl 2 rfl ?_
        refine r_iload_n hX dX12_findPart_109 rfl 3 rfl ?_
        refine r_iload_n hX dX12_findPart_110 rfl 4 rfl ?_
        refine r_iload hX dX12_findPart_111 8 rfl ?_
        refine r_iload hX dX12_findPart_113 9 rfl ?_
        refine r_cVi (As := [.int l1, .int l2, .int l6, .int l7]) (st := []) hX dX12_findPart_115 kl_X12_manyBy w_ml_X12_308 w_im_X12_manyBy w_se_X12_manyBy ⟨_, _, rfl⟩ (by decide) rfl (Nat.le_of_ble_eq_true rfl) rfl kdz0 h (fun r σ1 h => wX12_manyBy h) ?_
        clear h; intro t6 σ h
        refine r_istore (L2 := [(11, .int t6), (9, .long t5), (8, .int t4), (0, kr E l0), (1, .int l1), (2, .int l2), (3, .int l3), (4, .int l4), (5, .int l5), (6, .int l6), (7, .int l7)]) hX dX12_findPart_118 (by decide) rfl ?_
        refine r_iload hX dX12_findPart_120 2 rfl ?_
        refine r_aload_n hX dX12_findPart_122 rfl 3 rfl ?_
        refine r_gR hX dX12_findPart_123 kf_X12_92 rfl h ?_
        clear h; intro t7 h
        refine r_iload hX dX12_findPart_126 8 rfl ?_
        refine r_aI hX dX12_findPart_128 h ?_
        clear h; intro t8 h
        refine r_icmp_ge (tgt := 136) hX dX12_findPart_129 (by decide) h ?_ ?_
        · clear h; intro h
          refine r_iconst hX dX12_findPart_136 kk_i_0 ?_
          refine r_sub [3, 4, 5, 6, 7, 8, 9, 10, 2, 1, 0] rfl ?_
          exact wX12_findPart_137 hX k37 k49 hk37 hk49 h
        · clear h; intro h
          refine r_iconst hX dX12_findPart_132 kk_i_1 ?_
          refine r_goto (tgt := 137) hX dX12_findPart_133 (by decide) ?_
          refine r_sub [3, 4, 5, 6, 7, 8, 9, 10, 2, 1, 0] rfl ?_
          exact wX12_findPart_137 hX k37 k49 hk37 hk49 h
      · clear h; intro h
        refine r_sub [0, 1, 2, 3, 4, 5, 6] rfl ?_
        exact wX12_findPart_247 hX k37 hk37 h
def X12_findPart_49 (G : kdS) (k37 : Nat → Int32 → Int32 → Int32 → Int32 → Int32 → Int32 → kdM → Option (Unit × kdM)) : Nat → Int32 → Int32 → Int32 → Int32 → Int32 → Int32 → Int32 → kdM → Option (Unit × kdM) := lp (fun _ _ _ _ _ _ _ _ _ => none) (X12_findPart_49B G k37) NN
theorem wX12_findPart_49 {E : kdE} {G : kdS} {A : kdA} {r : Unit} {σ1 : kdM} (hX : kdX E A cX12_findPart 14 RX12 none 2) (k37 : Nat → Int32 → Int32 → Int32 → Int32 → Int32 → Int32 → kdM → Option (Unit × kdM)) (hk37 : ∀ (l0 : Nat) (l1 : Int32) (l2 : Int32) (l3 : Int32) (l4 : Int32) (l5 : Int32) (l6 : Int32) (σ : kdM), k37 l0 l1 l2 l3 l4 l5 l6 σ = some (r, σ1) → SW E G (.inl (none, σ1)) A 14 σ 37 [(0, kr E l0), (1, .int l1), (2, .int l2), (3, .int l3), (4, .int l4), (5, .int l5), (6, .int l6)] []) : ∀ (l0 : Nat) (l1 : Int32) (l2 : Int32) (l3 : Int32) (l4 : Int32) (l5 : Int32) (l6 : Int32) (l7 : Int32) (σ : kdM), X12_findPart_49 G k37 l0 l1 l2 l3 l4 l5 l6 l7 σ = some (r, σ1) → SW E G (.inl (none, σ1)) A 14 σ 49 [(0, kr E l0), (1, .int l1), (2, .int l2), (3, .int l3), (4, .int l4), (5, .int l5), (6, .int l6), (7, .int l7)] [] :=
  lp_ind (Q := fun f => ∀ (l0 : Nat) (l1 : Int32) (l2 : Int32) (l3 : Int32) (l4 : Int32) (l5 : Int32) (l6 : Int32) (l7 : Int32) (σ : kdM), f l0 l1 l2 l3 l4 l5 l6 l7 σ = some (r, σ1) → SW E G (.inl (none, σ1)) A 14 σ 49 [(0, kr E l0), (1, .int l1), (2, .int l2), (3, .int l3), (4, .int l4), (5, .int l5), (6, .int l6), (7, .int l7)] []) (by intros; contradiction) (fun k hk l0 l1 l2 l3 l4 l5 l6 l7 σ h => wX12_findPart_49B hX k37 k hk37 hk h) NN
def X12_findPart_37B (G : kdS) (k37 : Nat → Int32 → Int32 → Int32 → Int32 → Int32 → Int32 → kdM → Option (Unit × kdM)) (l0 : Nat) (l1 : Int32) (l2 : Int32) (l3 : Int32) (l4 : Int32) (l5 : Int32) (l6 : Int32) : kdM → Option (Unit × kdM) :=
  gI G 12 29 l0 fun t1 =>
  cnd (t1 ≤ l6)
    (rt ())
    (X12_findPart_49 G k37 l0 l1 l2 l3 l4 l5 l6 (1 : Int32))
set_option maxRecDepth 100000 in
set_option maxHeartbeats 4000000 in
theorem wX12_findPart_37B {E : kdE} {G : kdS} {A : kdA} {r : Unit} {σ1 : kdM} (hX : kdX E A cX12_findPart 14 RX12 none 2) (k37 : Nat → Int32 → Int32 → Int32 → Int32 → Int32 → Int32 → kdM → Option (Unit × kdM)) (hk37 : ∀ (l0 : Nat) (l1 : Int32) (l2 : Int32) (l3 : Int32) (l4 : Int32) (l5 : Int32) (l6 : Int32) (σ : kdM), k37 l0 l1 l2 l3 l4 l5 l6 σ = some (r, σ1) → SW E G (.inl (none, σ1)) A 14 σ 37 [(0, kr E l0), (1, .int l1), (2, .int l2), (3, .int l3), (4, .int l4), (5, .int l5), (6, .int l6)] []) {σ : kdM} {l0 : Nat} {l1 : Int32} {l2 : Int32} {l3 : Int32} {l4 : Int32} {l5 : Int32} {l6 : Int32} (h : X12_findPart_37B G k37 l0 l1 l2 l3 l4 l5 l6 σ = some (r, σ1)) : SW E G (.inl (none, σ1)) A 14 σ 37 [(0, kr E l0), (1, .int l1), (2, .int l2), (3, .int l3), (4, .int l4), (5, .int l5), (6, .int l6)] [] := by
  unfold X12_findPart_37B at h
  refine r_iload hX dX12_findPart_37 6 rfl ?_
  refine r_aload_n hX dX12_findPart_39 rfl 0 rfl ?_
  refine r_gI hX dX12_findPart_40 kf_X12_244 rfl h ?_
  clear h; intro t1 h
  refine r_icmp_ge (tgt := 253) hX dX12_findPart_43 (by decide) h ?_ ?_
  · clear h; intro h
    exact r_vret hX dX12_findPart_253 h
  · clear h; intro h
    refine r_iconst hX dX12_findPart_46 kk_i_1 ?_
    refine r_istore (L2 := [(7, .int (1 : Int32)), (0, kr E l0), (1, .int l1), (2, .int l2), (3, .int l3), (4, .int l4), (5, .int l5), (6, .int l6)]) hX dX12_findPart_47 (by decide) rfl ?_
    refine r_sub [1, 2, 3, 4, 5, 6, 7, 0] rfl ?_
    exact wX12_findPart_49 hX k37 hk37 _ _ _ _ _ _ _ _ _ h
def X12_findPart_37 (G : kdS) : Nat → Int32 → Int32 → Int32 → Int32 → Int32 → Int32 → kdM → Option (Unit × kdM) := lp (fun _ _ _ _ _ _ _ _ => none) (X12_findPart_37B G) NN
theorem wX12_findPart_37 {E : kdE} {G : kdS} {A : kdA} {r : Unit} {σ1 : kdM} (hX : kdX E A cX12_findPart 14 RX12 none 2) : ∀ (l0 : Nat) (l1 : Int32) (l2 : Int32) (l3 : Int32) (l4 : Int32) (l5 : Int32) (l6 : Int32) (σ : kdM), X12_findPart_37 G l0 l1 l2 l3 l4 l5 l6 σ = some (r, σ1) → SW E G (.inl (none, σ1)) A 14 σ 37 [(0, kr E l0), (1, .int l1), (2, .int l2), (3, .int l3), (4, .int l4), (5, .int l5), (6, .int l6)] [] :=
  lp_ind (Q := fun f => ∀ (l0 : Nat) (l1 : Int32) (l2 : Int32) (l3 : Int32) (l4 : Int32) (l5 : Int32) (l6 : Int32) (σ : kdM), f l0 l1 l2 l3 l4 l5 l6 σ = some (r, σ1) → SW E G (.inl (none, σ1)) A 14 σ 37 [(0, kr E l0), (1, .int l1), (2, .int l2), (3, .int l3), (4, .int l4), (5, .int l5), (6, .int l6)] []) (by intros; contradiction) (fun k hk l0 l1 l2 l3 l4 l5 l6 σ h => wX12_findPart_37B hX k hk h) NN
def X12_findPart (G : kdS) (l0 : Nat) (l1 : Int32) (l2 : Int32) (l3 : Int32) (l4 : Int32) : kdM → Option (Unit × kdM) :=
  kcl (X12_placeOf G l1 l2 l3) fun t1 =>
  gR G 12 36 l0 fun t2 =>
  tI G t2 (t1) ((1000000000 : Int32)) <|
  gR G 12 37 l0 fun t3 =>
  tL G t3 (t1) ((0 : Int64)) <|
  gR G 12 38 l0 fun t4 =>
  tI G t4 (t1) ((0 : Int32)) <|
  X12_findPart_37 G l0 l1 l2 l3 l4 t1 (0 : Int32)
set_option maxRecDepth 100000 in
set_option maxHeartbeats 4000000 in
theorem wX12_findPart {E : kdE} {G : kdS} {l0 : Nat} {l1 : Int32} {l2 : Int32} {l3 : Int32} {l4 : Int32} {σ : kdM} {r : Unit} {σ1 : kdM} (h : X12_findPart G l0 l1 l2 l3 l4 σ = some (r, σ1)) : Con E G yX12_findPart cX12_findPart 14 none 2 [kr E l0, .int l1, .int l2, .int l3, .int l4] σ (none, σ1) := by
  refine kd_head (own := RX12) rfl (by decide +kernel) (Nat.le_of_ble_eq_true rfl) (fun A hX => ?_)
  show SW E G (.inl (none, σ1)) A 14 σ 0 [(0, kr E l0), (1, .int l1), (2, .int l2), (3, .int l3), (4, .int l4)] []
  unfold X12_findPart at h
  refine r_iload_n hX dX12_findPart_0 rfl 1 rfl ?_
  refine r_iload_n hX dX12_findPart_1 rfl 2 rfl ?_
  refine r_iload_n hX dX12_findPart_2 rfl 3 rfl ?_
  refine r_cSi (As := [.int l1, .int l2, .int l3]) (st := []) hX dX12_findPart_3 kl_X12_placeOf w_ml_X12_294 w_st_X12_placeOf (by decide) rfl (Nat.le_of_ble_eq_true rfl) rfl kdz0 h (fun r σ1 h => wX12_placeOf h) ?_
  clear h; intro t1 σ h
  refine r_istore (L2 := [(5, .int t1), (0, kr E l0), (1, .int l1), (2, .int l2), (3, .int l3), (4, .int l4)]) hX dX12_findPart_6 (by decide) rfl ?_
  refine r_aload_n hX dX12_findPart_8 rfl 1 rfl ?_
  refine r_gR hX dX12_findPart_9 kf_X12_92 rfl h ?_
  clear h; intro t2 h
  refine r_iload hX dX12_findPart_12 0 rfl ?_
  refine r_ldc_w hX dX12_findPart_14 w_ct_X12_265 ?_
  refine r_tI hX dX12_findPart_17 h ?_
  clear h; intro σ h
  refine r_aload_n hX dX12_findPart_18 rfl 1 rfl ?_
  refine r_gR hX dX12_findPart_19 kf_X12_95 rfl h ?_
  clear h; intro t3 h
  refine r_iload hX dX12_findPart_22 0 rfl ?_
  refine r_lconst hX dX12_findPart_24 kk_l_0 ?_
  refine r_tL hX dX12_findPart_25 h ?_
  clear h; intro σ h
  refine r_aload_n hX dX12_findPart_26 rfl 1 rfl ?_
  refine r_gR hX dX12_findPart_27 kf_X12_99 rfl h ?_
  clear h; intro t4 h
  refine r_iload hX dX12_findPart_30 0 rfl ?_
  refine r_iconst hX dX12_findPart_32 kk_i_0 ?_
  refine r_tI hX dX12_findPart_33 h ?_
  clear h; intro σ h
  refine r_iconst hX dX12_findPart_34 kk_i_0 ?_
  refine r_istore (L2 := [(6, .int (0 : Int32)), (5, .int t1), (0, kr E l0), (1, .int l1), (2, .int l2), (3, .int l3), (4, .int l4)]) hX dX12_findPart_35 (by decide) rfl ?_
  refine r_sub [2, 3, 4, 5, 6, 1, 0] rfl ?_
  exact wX12_findPart_37 hX _ _ _ _ _ _ _ _ h
def X12_findParts_98 (G : kdS) (k10 : Nat → Int32 → Int32 → kdM → Option (Unit × kdM)) (k16 : Nat → Int32 → Int32 → Int32 → kdM → Option (Unit × kdM)) (k24 : Nat → Int32 → Int32 → Int32 → Int32 → kdM → Option (Unit × kdM)) (l0 : Nat) (l1 : Int32) (l2 : Int32) (l3 : Int32) (l4 : Int32) : kdM → Option (Unit × kdM) :=
  ltI (l4 + Int32.ofInt 1) fun t1 =>
  k24 l0 l1 l2 l3 t1
set_option maxRecDepth 100000 in
set_option maxHeartbeats 4000000 in
theorem wX12_findParts_98 {E : kdE} {G : kdS} {A : kdA} {r : Unit} {σ1 : kdM} (hX : kdX E A cX12_findParts 6 RX12 none 5) (k10 : Nat → Int32 → Int32 → kdM → Option (Unit × kdM)) (k16 : Nat → Int32 → Int32 → Int32 → kdM → Option (Unit × kdM)) (k24 : Nat → Int32 → Int32 → Int32 → Int32 → kdM → Option (Unit × kdM)) (hk10 : ∀ (l0 : Nat) (l1 : Int32) (l2 : Int32) (σ : kdM), k10 l0 l1 l2 σ = some (r, σ1) → SW E G (.inl (none, σ1)) A 6 σ 10 [(0, kr E l0), (1, .int l1), (2, .int l2)] []) (hk16 : ∀ (l0 : Nat) (l1 : Int32) (l2 : Int32) (l3 : Int32) (σ : kdM), k16 l0 l1 l2 l3 σ = some (r, σ1) → SW E G (.inl (none, σ1)) A 6 σ 16 [(0, kr E l0), (1, .int l1), (2, .int l2), (3, .int l3)] []) (hk24 : ∀ (l0 : Nat) (l1 : Int32) (l2 : Int32) (l3 : Int32) (l4 : Int32) (σ : kdM), k24 l0 l1 l2 l3 l4 σ = some (r, σ1) → SW E G (.inl (none, σ1)) A 6 σ 24 [(0, kr E l0), (1, .int l1), (2, .int l2), (3, .int l3), (4, .int l4)] []) {σ : kdM} {l0 : Nat} {l1 : Int32} {l2 : Int32} {l3 : Int32} {l4 : Int32} (h : X12_findParts_98 G k10 k16 k24 l0 l1 l2 l3 l4 σ = some (r, σ1)) : SW E G (.inl (none, σ1)) A 6 σ 98 [(0, kr E l0), (1, .int l1), (2, .int l2), (3, .int l3), (4, .int l4)] [] := by
  unfold X12_findParts_98 at h
  refine r_iincL (L2 := fun t1 => [(4, .int t1), (0, kr E l0), (1, .int l1), (2, .int l2), (3, .int l3)]) hX dX12_findParts_98 h 4 rfl (by decide) (fun _ => rfl) ?_
  clear h; intro t1 h
  refine r_goto (tgt := 24) hX dX12_findParts_101 (by decide) ?_
  refine r_sub [1, 2, 3, 4, 0] rfl ?_
  exact hk24 _ _ _ _ _ _ h
def X12_findParts_60 (G : kdS) (k10 : Nat → Int32 → Int32 → kdM → Option (Unit × kdM)) (k16 : Nat → Int32 → Int32 → Int32 → kdM → Option (Unit × kdM)) (k24 : Nat → Int32 → Int32 → Int32 → Int32 → kdM → Option (Unit × kdM)) (l0 : Nat) (l1 : Int32) (l2 : Int32) (l3 : Int32) (l4 : Int32) (l5 : Int32) (s0 : Nat) (s1 : Int32) (s2 : Int32) : kdM → Option (Unit × kdM) :=
  tI G s0 (s1) (s2) <|
  gR G 12 37 l0 fun t1 =>
  tL G t1 (l5) ((1 : Int64)) <|
  gR G 12 38 l0 fun t2 =>
  tI G t2 (l5) ((0 : Int32)) <|
  gI G 12 1 l0 fun t3 =>
  cnd (t3 ≤ l2)
    (X12_findParts_98 G k10 k16 k24 l0 l1 l2 l3 l4)
    (cnd (l3 ≤ 0)
      (X12_findParts_98 G k10 k16 k24 l0 l1 l2 l3 l4)
      (kcv G 12 l0 (X12_findPart G l0 l2 l3 l4 l1) fun _ =>
      X12_findParts_98 G k10 k16 k24 l0 l1 l2 l3 l4))
set_option maxRecDepth 100000 in
set_option maxHeartbeats 4000000 in
theorem wX12_findParts_60 {E : kdE} {G : kdS} {A : kdA} {r : Unit} {σ1 : kdM} (hX : kdX E A cX12_findParts 6 RX12 none 5) (k10 : Nat → Int32 → Int32 → kdM → Option (Unit × kdM)) (k16 : Nat → Int32 → Int32 → Int32 → kdM → Option (Unit × kdM)) (k24 : Nat → Int32 → Int32 → Int32 → Int32 → kdM → Option (Unit × kdM)) (hk10 : ∀ (l0 : Nat) (l1 : Int32) (l2 : Int32) (σ : kdM), k10 l0 l1 l2 σ = some (r, σ1) → SW E G (.inl (none, σ1)) A 6 σ 10 [(0, kr E l0), (1, .int l1), (2, .int l2)] []) (hk16 : ∀ (l0 : Nat) (l1 : Int32) (l2 : Int32) (l3 : Int32) (σ : kdM), k16 l0 l1 l2 l3 σ = some (r, σ1) → SW E G (.inl (none, σ1)) A 6 σ 16 [(0, kr E l0), (1, .int l1), (2, .int l2), (3, .int l3)] []) (hk24 : ∀ (l0 : Nat) (l1 : Int32) (l2 : Int32) (l3 : Int32) (l4 : Int32) (σ : kdM), k24 l0 l1 l2 l3 l4 σ = some (r, σ1) → SW E G (.inl (none, σ1)) A 6 σ 24 [(0, kr E l0), (1, .int l1), (2, .int l2), (3, .int l3), (4, .int l4)] []) {σ : kdM} {l0 : Nat} {l1 : Int32} {l2 : Int32} {l3 : Int32} {l4 : Int32} {l5 : Int32} {s0 : Nat} {s1 : Int32} {s2 : Int32} (h : X12_findParts_60 G k10 k16 k24 l0 l1 l2 l3 l4 l5 s0 s1 s2 σ = some (r, σ1)) : SW E G (.inl (none, σ1)) A 6 σ 60 [(0, kr E l0), (1, .int l1), (2, .int l2), (3, .int l3), (4, .int l4), (5, .int l5)] [.int s2, .int s1, kr E s0] := by
  unfold X12_findParts_60 at h
  refine r_tI hX dX12_findParts_60 h ?_
  clear h; intro σ h
  refine r_aload_n hX dX12_findParts_61 rfl 0 rfl ?_
  refine r_gR hX dX12_findParts_62 kf_X12_95 rfl h ?_
  clear h; intro t1 h
  refine r_iload hX dX12_findParts_65 5 rfl ?_
  refine r_lconst hX dX12_findParts_67 kk_l_1 ?_
  refine r_tL hX dX12_findParts_68 h ?_
  clear h; intro σ h
  refine r_aload_n hX dX12_findParts_69 rfl 0 rfl ?_
  refine r_gR hX dX12_findParts_70 kf_X12_99 rfl h ?_
  clear h; intro t2 h
  refine r_iload hX dX12_findParts_73 5 rfl ?_
  refine r_iconst hX dX12_findParts_75 kk_i_0 ?_
  refine r_tI hX dX12_findParts_76 h ?_
  clear h; intro σ h
  refine r_iload_n hX dX12_findParts_77 rfl 2 rfl ?_
  refine r_aload_n hX dX12_findParts_78 rfl 0 rfl ?_
  refine r_gI hX dX12_findParts_79 kf_X12_182 rfl h ?_
  clear h; intro t3 h
  refine r_icmp_ge (tgt := 98) hX dX12_findParts_82 (by decide) h ?_ ?_
  · clear h; intro h
    refine r_sub [0, 1, 2, 3, 4] rfl ?_
    exact wX12_findParts_98 hX k10 k16 k24 hk10 hk16 hk24 h
  · clear h; intro h
    refine r_iload_n hX dX12_findParts_85 rfl 3 rfl ?_
    refine r_if_le (tgt := 98) hX dX12_findParts_86 (by decide) h ?_ ?_
    · clear h; intro h
      refine r_sub [0, 1, 2, 3, 4] rfl ?_
      exact wX12_findParts_98 hX k10 k16 k24 hk10 hk16 hk24 h
    · clear h; intro h
      refine r_aload_n hX dX12_findParts_89 rfl 0 rfl ?_
      refine r_iload_n hX dX12_findParts_90 rfl 2 rfl ?_
      refine r_iload_n hX dX12_findParts_91 rfl 3 rfl ?_
      refine r_iload hX dX12_findParts_92 4 rfl ?_
      refine r_iload_n hX dX12_findParts_94 rfl 1 rfl ?_
      refine r_cVv (As := [.int l2, .int l3, .int l4, .int l1]) (st := []) hX dX12_findParts_95 kl_X12_findPart w_ml_X12_314 w_im_X12_findPart w_se_X12_findPart ⟨_, _, rfl⟩ (by decide) rfl (Nat.le_of_ble_eq_true rfl) rfl kdz0 h (fun r σ1 h => wX12_findPart h) ?_
      clear h; intro u σ h
      refine r_sub [0, 1, 2, 3, 4] rfl ?_
      exact wX12_findParts_98 hX k10 k16 k24 hk10 hk16 hk24 h
def X12_findParts_24B (G : kdS) (k10 : Nat → Int32 → Int32 → kdM → Option (Unit × kdM)) (k16 : Nat → Int32 → Int32 → Int32 → kdM → Option (Unit × kdM)) (k24 : Nat → Int32 → Int32 → Int32 → Int32 → kdM → Option (Unit × kdM)) (l0 : Nat) (l1 : Int32) (l2 : Int32) (l3 : Int32) (l4 : Int32) : kdM → Option (Unit × kdM) :=
  cnd ((4 : Int32) ≤ l4)
    (ltI (l3 + Int32.ofInt 1) fun t1 =>
    k16 l0 l1 l2 t1)
    (kcl (X12_placeOf G l2 l3 l4) fun t2 =>
    gR G 12 36 l0 fun t3 =>
    gI G 12 1 l0 fun t4 =>
    cnd (l2 = t4)
      (X12_findParts_60 G k10 k16 k24 l0 l1 l2 l3 l4 t2 t3 t2 (0 : Int32))
      (X12_findParts_60 G k10 k16 k24 l0 l1 l2 l3 l4 t2 t3 t2 (1000000000 : Int32)))
set_option maxRecDepth 100000 in
set_option maxHeartbeats 4000000 in
theorem wX12_findParts_24B {E : kdE} {G : kdS} {A : kdA} {r : Unit} {σ1 : kdM} (hX : kdX E A cX12_findParts 6 RX12 none 5) (k10 : Nat → Int32 → Int32 → kdM → Option (Unit × kdM)) (k16 : Nat → Int32 → Int32 → Int32 → kdM → Option (Unit × kdM)) (k24 : Nat → Int32 → Int32 → Int32 → Int32 → kdM → Option (Unit × kdM)) (hk10 : ∀ (l0 : Nat) (l1 : Int32) (l2 : Int32) (σ : kdM), k10 l0 l1 l2 σ = some (r, σ1) → SW E G (.inl (none, σ1)) A 6 σ 10 [(0, kr E l0), (1, .int l1), (2, .int l2)] []) (hk16 : ∀ (l0 : Nat) (l1 : Int32) (l2 : Int32) (l3 : Int32) (σ : kdM), k16 l0 l1 l2 l3 σ = some (r, σ1) → SW E G (.inl (none, σ1)) A 6 σ 16 [(0, kr E l0), (1, .int l1), (2, .int l2), (3, .int l3)] []) (hk24 : ∀ (l0 : Nat) (l1 : Int32) (l2 : Int32) (l3 : Int32) (l4 : Int32) (σ : kdM), k24 l0 l1 l2 l3 l4 σ = some (r, σ1) → SW E G (.inl (none, σ1)) A 6 σ 24 [(0, kr E l0), (1, .int l1), (2, .int l2), (3, .int l3), (4, .int l4)] []) {σ : kdM} {l0 : Nat} {l1 : Int32} {l2 : Int32} {l3 : Int32} {l4 : Int32} (h : X12_findParts_24B G k10 k16 k24 l0 l1 l2 l3 l4 σ = some (r, σ1)) : SW E G (.inl (none, σ1)) A 6 σ 24 [(0, kr E l0), (1, .int l1), (2, .int l2), (3, .int l3), (4, .int l4)] [] := by
  unfold X12_findParts_24B at h
  refine r_iload hX dX12_findParts_24 4 rfl ?_
  refine r_iconst hX dX12_findParts_26 kk_i_4 ?_
  refine r_icmp_ge (tgt := 104) hX dX12_findParts_27 (by decide) h ?_ ?_
  · clear h; intro h
    refine r_iincL (L2 := fun t1 => [(3, .int t1), (0, kr E l0), (1, .int l1), (2, .int l2), (4, .int l4)]) hX dX12_findParts_104 h 3 rfl (by decide) (fun _ => rfl) ?_
    clear h; intro t1 h
    refine r_goto (tgt := 16) hX dX12_findParts_107 (by decide) ?_
    refine r_sub [1, 2, 3, 0] rfl ?_
    exact hk16 _ _ _ _ _ h
  · clear h; intro h
    refine r_iload_n hX dX12_findParts_30 rfl 2 rfl ?_
    refine r_iload_n hX dX12_findParts_31 rfl 3 rfl ?_
    refine r_iload hX dX12_findParts_32 4 rfl ?_
    refine r_cSi (As := [.int l2, .int l3, .int l4]) (st := []) hX dX12_findParts_34 kl_X12_placeOf w_ml_X12_294 w_st_X12_placeOf (by decide) rfl (Nat.le_of_ble_eq_true rfl) rfl kdz0 h (fun r σ1 h => wX12_placeOf h) ?_
    clear h; intro t2 σ h
    refine r_istore (L2 := [(5, .int t2), (0, kr E l0), (1, .int l1), (2, .int l2), (3, .int l3), (4, .int l4)]) hX dX12_findParts_37 (by decide) rfl ?_
    refine r_aload_n hX dX12_findParts_39 rfl 1 rfl ?_
    refine r_gR hX dX12_findParts_40 kf_X12_92 rfl h ?_
    clear h; intro t3 h
    refine r_iload hX dX12_findParts_43 0 rfl ?_
    refine r_iload_n hX dX12_findParts_45 rfl 3 rfl ?_
    refine r_aload_n hX dX12_findParts_46 rfl 1 rfl ?_
    refine r_gI hX dX12_findParts_47 kf_X12_182 rfl h ?_
    clear h; intro t4 h
    refine r_icmp_ne (tgt := 57) hX dX12_findParts_50 (by decide) h ?_ ?_
    · clear h; intro h
      refine r_iconst hX dX12_findParts_53 kk_i_0 ?_
      refine r_goto (tgt := 60) hX dX12_findParts_54 (by decide) ?_
      refine r_sub [1, 2, 3, 4, 5, 0] rfl ?_
      exact wX12_findParts_60 hX k10 k16 k24 hk10 hk16 hk24 h
    · clear h; intro h
      refine r_ldc_w hX dX12_findParts_57 w_ct_X12_265 ?_
      refine r_sub [1, 2, 3, 4, 5, 0] rfl ?_
      exact wX12_findParts_60 hX k10 k16 k24 hk10 hk16 hk24 h
def X12_findParts_24 (G : kdS) (k10 : Nat → Int32 → Int32 → kdM → Option (Unit × kdM)) (k16 : Nat → Int32 → Int32 → Int32 → kdM → Option (Unit × kdM)) : Nat → Int32 → Int32 → Int32 → Int32 → kdM → Option (Unit × kdM) := lp (fun _ _ _ _ _ _ => none) (X12_findParts_24B G k10 k16) NN
theorem wX12_findParts_24 {E : kdE} {G : kdS} {A : kdA} {r : Unit} {σ1 : kdM} (hX : kdX E A cX12_findParts 6 RX12 none 5) (k10 : Nat → Int32 → Int32 → kdM → Option (Unit × kdM)) (k16 : Nat → Int32 → Int32 → Int32 → kdM → Option (Unit × kdM)) (hk10 : ∀ (l0 : Nat) (l1 : Int32) (l2 : Int32) (σ : kdM), k10 l0 l1 l2 σ = some (r, σ1) → SW E G (.inl (none, σ1)) A 6 σ 10 [(0, kr E l0), (1, .int l1), (2, .int l2)] []) (hk16 : ∀ (l0 : Nat) (l1 : Int32) (l2 : Int32) (l3 : Int32) (σ : kdM), k16 l0 l1 l2 l3 σ = some (r, σ1) → SW E G (.inl (none, σ1)) A 6 σ 16 [(0, kr E l0), (1, .int l1), (2, .int l2), (3, .int l3)] []) : ∀ (l0 : Nat) (l1 : Int32) (l2 : Int32) (l3 : Int32) (l4 : Int32) (σ : kdM), X12_findParts_24 G k10 k16 l0 l1 l2 l3 l4 σ = some (r, σ1) → SW E G (.inl (none, σ1)) A 6 σ 24 [(0, kr E l0), (1, .int l1), (2, .int l2), (3, .int l3), (4, .int l4)] [] :=
  lp_ind (Q := fun f => ∀ (l0 : Nat) (l1 : Int32) (l2 : Int32) (l3 : Int32) (l4 : Int32) (σ : kdM), f l0 l1 l2 l3 l4 σ = some (r, σ1) → SW E G (.inl (none, σ1)) A 6 σ 24 [(0, kr E l0), (1, .int l1), (2, .int l2), (3, .int l3), (4, .int l4)] []) (by intros; contradiction) (fun k hk l0 l1 l2 l3 l4 σ h => wX12_findParts_24B hX k10 k16 k hk10 hk16 hk h) NN
def X12_findParts_16B (G : kdS) (k10 : Nat → Int32 → Int32 → kdM → Option (Unit × kdM)) (k16 : Nat → Int32 → Int32 → Int32 → kdM → Option (Unit × kdM)) (l0 : Nat) (l1 : Int32) (l2 : Int32) (l3 : Int32) : kdM → Option (Unit × kdM) :=
  cnd ((5 : Int32) ≤ l3)
    (ltI (l2 + Int32.ofInt (-1)) fun t1 =>
    k10 l0 l1 t1)
    (X12_findParts_24 G k10 k16 l0 l1 l2 l3 (0 : Int32))
set_option maxRecDepth 100000 in
set_option maxHeartbeats 4000000 in
theorem wX12_findParts_16B {E : kdE} {G : kdS} {A : kdA} {r : Unit} {σ1 : kdM} (hX : kdX E A cX12_findParts 6 RX12 none 5) (k10 : Nat → Int32 → Int32 → kdM → Option (Unit × kdM)) (k16 : Nat → Int32 → Int32 → Int32 → kdM → Option (Unit × kdM)) (hk10 : ∀ (l0 : Nat) (l1 : Int32) (l2 : Int32) (σ : kdM), k10 l0 l1 l2 σ = some (r, σ1) → SW E G (.inl (none, σ1)) A 6 σ 10 [(0, kr E l0), (1, .int l1), (2, .int l2)] []) (hk16 : ∀ (l0 : Nat) (l1 : Int32) (l2 : Int32) (l3 : Int32) (σ : kdM), k16 l0 l1 l2 l3 σ = some (r, σ1) → SW E G (.inl (none, σ1)) A 6 σ 16 [(0, kr E l0), (1, .int l1), (2, .int l2), (3, .int l3)] []) {σ : kdM} {l0 : Nat} {l1 : Int32} {l2 : Int32} {l3 : Int32} (h : X12_findParts_16B G k10 k16 l0 l1 l2 l3 σ = some (r, σ1)) : SW E G (.inl (none, σ1)) A 6 σ 16 [(0, kr E l0), (1, .int l1), (2, .int l2), (3, .int l3)] [] := by
  unfold X12_findParts_16B at h
  refine r_iload_n hX dX12_findParts_16 rfl 3 rfl ?_
  refine r_iconst hX dX12_findParts_17 kk_i_5 ?_
  refine r_icmp_ge (tgt := 110) hX dX12_findParts_18 (by decide) h ?_ ?_
  · clear h; intro h
    refine r_iincL (L2 := fun t1 => [(2, .int t1), (0, kr E l0), (1, .int l1), (3, .int l3)]) hX dX12_findParts_110 h 2 rfl (by decide) (fun _ => rfl) ?_
    clear h; intro t1 h
    refine r_goto (tgt := 10) hX dX12_findParts_113 (by decide) ?_
    refine r_sub [1, 2, 0] rfl ?_
    exact hk10 _ _ _ _ h
  · clear h; intro h
    refine r_iconst hX dX12_findParts_21 kk_i_0 ?_
    refine r_istore (L2 := [(4, .int (0 : Int32)), (0, kr E l0), (1, .int l1), (2, .int l2), (3, .int l3)]) hX dX12_findParts_22 (by decide) rfl ?_
    refine r_sub [1, 2, 3, 4, 0] rfl ?_
    exact wX12_findParts_24 hX k10 k16 hk10 hk16 _ _ _ _ _ _ h
def X12_findParts_16 (G : kdS) (k10 : Nat → Int32 → Int32 → kdM → Option (Unit × kdM)) : Nat → Int32 → Int32 → Int32 → kdM → Option (Unit × kdM) := lp (fun _ _ _ _ _ => none) (X12_findParts_16B G k10) NN
theorem wX12_findParts_16 {E : kdE} {G : kdS} {A : kdA} {r : Unit} {σ1 : kdM} (hX : kdX E A cX12_findParts 6 RX12 none 5) (k10 : Nat → Int32 → Int32 → kdM → Option (Unit × kdM)) (hk10 : ∀ (l0 : Nat) (l1 : Int32) (l2 : Int32) (σ : kdM), k10 l0 l1 l2 σ = some (r, σ1) → SW E G (.inl (none, σ1)) A 6 σ 10 [(0, kr E l0), (1, .int l1), (2, .int l2)] []) : ∀ (l0 : Nat) (l1 : Int32) (l2 : Int32) (l3 : Int32) (σ : kdM), X12_findParts_16 G k10 l0 l1 l2 l3 σ = some (r, σ1) → SW E G (.inl (none, σ1)) A 6 σ 16 [(0, kr E l0), (1, .int l1), (2, .int l2), (3, .int l3)] [] :=
  lp_ind (Q := fun f => ∀ (l0 : Nat) (l1 : Int32) (l2 : Int32) (l3 : Int32) (σ : kdM), f l0 l1 l2 l3 σ = some (r, σ1) → SW E G (.inl (none, σ1)) A 6 σ 16 [(0, kr E l0), (1, .int l1), (2, .int l2), (3, .int l3)] []) (by intros; contradiction) (fun k hk l0 l1 l2 l3 σ h => wX12_findParts_16B hX k10 k hk10 hk h) NN
def X12_findParts_10B (G : kdS) (k10 : Nat → Int32 → Int32 → kdM → Option (Unit × kdM)) (l0 : Nat) (l1 : Int32) (l2 : Int32) : kdM → Option (Unit × kdM) :=
  cnd (l2 < 0)
    (rt ())
    (X12_findParts_16 G k10 l0 l1 l2 (0 : Int32))
set_option maxRecDepth 100000 in
set_option maxHeartbeats 4000000 in
theorem wX12_findParts_10B {E : kdE} {G : kdS} {A : kdA} {r : Unit} {σ1 : kdM} (hX : kdX E A cX12_findParts 6 RX12 none 5) (k10 : Nat → Int32 → Int32 → kdM → Option (Unit × kdM)) (hk10 : ∀ (l0 : Nat) (l1 : Int32) (l2 : Int32) (σ : kdM), k10 l0 l1 l2 σ = some (r, σ1) → SW E G (.inl (none, σ1)) A 6 σ 10 [(0, kr E l0), (1, .int l1), (2, .int l2)] []) {σ : kdM} {l0 : Nat} {l1 : Int32} {l2 : Int32} (h : X12_findParts_10B G k10 l0 l1 l2 σ = some (r, σ1)) : SW E G (.inl (none, σ1)) A 6 σ 10 [(0, kr E l0), (1, .int l1), (2, .int l2)] [] := by
  unfold X12_findParts_10B at h
  refine r_iload_n hX dX12_findParts_10 rfl 2 rfl ?_
  refine r_if_lt (tgt := 116) hX dX12_findParts_11 (by decide) h ?_ ?_
  · clear h; intro h
    exact r_vret hX dX12_findParts_116 h
  · clear h; intro h
    refine r_iconst hX dX12_findParts_14 kk_i_0 ?_
    refine r_istore_n (L2 := [(3, .int (0 : Int32)), (0, kr E l0), (1, .int l1), (2, .int l2)]) hX dX12_findParts_15 rfl (by decide) rfl ?_
    refine r_sub [1, 2, 3, 0] rfl ?_
    exact wX12_findParts_16 hX k10 hk10 _ _ _ _ _ h
def X12_findParts_10 (G : kdS) : Nat → Int32 → Int32 → kdM → Option (Unit × kdM) := lp (fun _ _ _ _ => none) (X12_findParts_10B G) NN
theorem wX12_findParts_10 {E : kdE} {G : kdS} {A : kdA} {r : Unit} {σ1 : kdM} (hX : kdX E A cX12_findParts 6 RX12 none 5) : ∀ (l0 : Nat) (l1 : Int32) (l2 : Int32) (σ : kdM), X12_findParts_10 G l0 l1 l2 σ = some (r, σ1) → SW E G (.inl (none, σ1)) A 6 σ 10 [(0, kr E l0), (1, .int l1), (2, .int l2)] [] :=
  lp_ind (Q := fun f => ∀ (l0 : Nat) (l1 : Int32) (l2 : Int32) (σ : kdM), f l0 l1 l2 σ = some (r, σ1) → SW E G (.inl (none, σ1)) A 6 σ 10 [(0, kr E l0), (1, .int l1), (2, .int l2)] []) (by intros; contradiction) (fun k hk l0 l1 l2 σ h => wX12_findParts_10B hX k hk h) NN
def X12_findParts (G : kdS) (l0 : Nat) (l1 : Int32) : kdM → Option (Unit × kdM) :=
  kcv G 12 l0 (X12_findPrices G l0 l1) fun _ =>
  gI G 12 1 l0 fun t1 =>
  X12_findParts_10 G l0 l1 t1
set_option maxRecDepth 100000 in
set_option maxHeartbeats 4000000 in
theorem wX12_findParts {E : kdE} {G : kdS} {l0 : Nat} {l1 : Int32} {σ : kdM} {r : Unit} {σ1 : kdM} (h : X12_findParts G l0 l1 σ = some (r, σ1)) : Con E G yX12_findParts cX12_findParts 6 none 5 [kr E l0, .int l1] σ (none, σ1) := by
  refine kd_head (own := RX12) rfl (by decide +kernel) (Nat.le_of_ble_eq_true rfl) (fun A hX => ?_)
  show SW E G (.inl (none, σ1)) A 6 σ 0 [(0, kr E l0), (1, .int l1)] []
  unfold X12_findParts at h
  refine r_aload_n hX dX12_findParts_0 rfl 0 rfl ?_
  refine r_iload_n hX dX12_findParts_1 rfl 1 rfl ?_
  refine r_cVv (As := [.int l1]) (st := []) hX dX12_findParts_2 kl_X12_findPrices w_ml_X12_311 w_im_X12_findPrices w_se_X12_findPrices ⟨_, _, rfl⟩ (by decide) rfl (Nat.le_of_ble_eq_true rfl) rfl kdz0 h (fun r σ1 h => wX12_findPrices h) ?_
  clear h; intro u σ h
  refine r_aload_n hX dX12_findParts_5 rfl 0 rfl ?_
  refine r_gI hX dX12_findParts_6 kf_X12_182 rfl h ?_
  clear h; intro t1 h
  refine r_istore_n (L2 := [(2, .int t1), (0, kr E l0), (1, .int l1)]) hX dX12_findParts_9 rfl (by decide) rfl ?_
  refine r_sub [1, 2, 0] rfl ?_
  exact wX12_findParts_10 hX _ _ _ _ h
def X12_isBestPart_75 (G : kdS) (s0 : Int32) : kdM → Option (Int32 × kdM) :=
  rt (vp_nar .boolean s0)
set_option maxRecDepth 100000 in
set_option maxHeartbeats 4000000 in
theorem wX12_isBestPart_75 {E : kdE} {G : kdS} {A : kdA} {r : Int32} {σ1 : kdM} (hX : kdX E A cX12_isBestPart 7 RX12 (some .boolean) 2) {σ : kdM} {s0 : Int32} (h : X12_isBestPart_75 G s0 σ = some (r, σ1)) : SW E G (.inl (some (.int r), σ1)) A 7 σ 75 [] [.int s0] := by
  unfold X12_isBestPart_75 at h
  exact r_zret hX dX12_isBestPart_75 h
def X12_isBestPart_74 (G : kdS) : kdM → Option (Int32 × kdM) :=
  X12_isBestPart_75 G (0 : Int32)
set_option maxRecDepth 100000 in
set_option maxHeartbeats 4000000 in
theorem wX12_isBestPart_74 {E : kdE} {G : kdS} {A : kdA} {r : Int32} {σ1 : kdM} (hX : kdX E A cX12_isBestPart 7 RX12 (some .boolean) 2) {σ : kdM} (h : X12_isBestPart_74 G  σ = some (r, σ1)) : SW E G (.inl (some (.int r), σ1)) A 7 σ 74 [] [] := by
  unfold X12_isBestPart_74 at h
  refine r_iconst hX dX12_isBestPart_74 kk_i_0 ?_
  refine r_sub [] rfl ?_
  exact wX12_isBestPart_75 hX h
def X12_isBestPart (G : kdS) (l0 : Nat) (l1 : Int32) (l2 : Int32) (l3 : Int32) (l4 : Int32) (l5 : Int32) : kdM → Option (Int32 × kdM) :=
  kcl (X12_placeOf G l1 l2 l3) fun t1 =>
  kcv G 12 l0 (X12_sumBy G l0 l1 l2 l3 l4 l5) fun t2 =>
  gR G 12 36 l0 fun t3 =>
  aI G t3 (t1) fun t4 =>
  cnd (t2 = t4)
    (kcv G 12 l0 (X12_productBy G l0 l1 l2 l4 l5) fun t5 =>
    gR G 12 37 l0 fun t6 =>
    aL G t6 (t1) fun t7 =>
    cnd ((lg_cmp t5 t7) = 0)
      (kcv G 12 l0 (X12_manyBy G l0 l1 l2 l4 l5) fun t8 =>
      gR G 12 38 l0 fun t9 =>
      aI G t9 (t1) fun t10 =>
      cnd (t8 = t10)
        (X12_isBestPart_75 G (1 : Int32))
        (X12_isBestPart_74 G ))
      (X12_isBestPart_74 G ))
    (X12_isBestPart_74 G )
set_option maxRecDepth 100000 in
set_option maxHeartbeats 4000000 in
theorem wX12_isBestPart {E : kdE} {G : kdS} {l0 : Nat} {l1 : Int32} {l2 : Int32} {l3 : Int32} {l4 : Int32} {l5 : Int32} {σ : kdM} {r : Int32} {σ1 : kdM} (h : X12_isBestPart G l0 l1 l2 l3 l4 l5 σ = some (r, σ1)) : Con E G yX12_isBestPart cX12_isBestPart 7 (some .boolean) 2 [kr E l0, .int l1, .int l2, .int l3, .int l4, .int l5] σ (some (.int r), σ1) := by
  refine kd_head (own := RX12) rfl (by decide +kernel) (Nat.le_of_ble_eq_true rfl) (fun A hX => ?_)
  show SW E G (.inl (some (.int r), σ1)) A 7 σ 0 [(0, kr E l0), (1, .int l1), (2, .int l2), (3, .int l3), (4, .int l4), (5, .int l5)] []
  unfold X12_isBestPart at h
  refine r_iload_n hX dX12_isBestPart_0 rfl 1 rfl ?_
  refine r_iload_n hX dX12_isBestPart_1 rfl 2 rfl ?_
  refine r_iload_n hX dX12_isBestPart_2 rfl 3 rfl ?_
  refine r_cSi (As := [.int l1, .int l2, .int l3]) (st := []) hX dX12_isBestPart_3 kl_X12_placeOf w_ml_X12_294 w_st_X12_placeOf (by decide) rfl (Nat.le_of_ble_eq_true rfl) rfl kdz0 h (fun r σ1 h => wX12_placeOf h) ?_
  clear h; intro t1 σ h
  refine r_istore (L2 := [(6, .int t1), (0, kr E l0), (1, .int l1), (2, .int l2), (3, .int l3), (4, .int l4), (5, .int l5)]) hX dX12_isBestPart_6 (by decide) rfl ?_
  refine r_aload_n hX dX12_isBestPart_8 rfl 1 rfl ?_
  refine r_iload_n hX dX12_isBestPart_9 rfl 2 rfl ?_
  refine r_iload_n hX dX12_isBestPart_10 rfl 3 rfl ?_
  refine r_iload_n hX dX12_isBestPart_11 rfl 4 rfl ?_
  refine r_iload hX dX12_isBestPart_12 5 rfl ?_
  refine r_iload hX dX12_isBestPart_14 6 rfl ?_
  refine r_cVi (As := [.int l1, .int l2, .int l3, .int l4, .int l5]) (st := []) hX dX12_isBestPart_16 kl_X12_sumBy w_ml_X12_300 w_im_X12_sumBy w_se_X12_sumBy ⟨_, _, rfl⟩ (by decide) rfl (Nat.le_of_ble_eq_true rfl) rfl kdz0 h (fun r σ1 h => wX12_sumBy h) ?_
  clear h; intro t2 σ h
  refine r_aload_n hX dX12_isBestPart_19 rfl 1 rfl ?_
  refine r_gR hX dX12_isBestPart_20 kf_X12_92 rfl h ?_
  clear h; intro t3 h
  refine r_iload hX dX12_isBestPart_23 0 rfl ?_
  refine r_aI hX dX12_isBestPart_25 h ?_
  clear h; intro t4 h
  refine r_icmp_ne (tgt := 74) hX dX12_isBestPart_26 (by decide) h ?_ ?_
  · clear h; intro h
    refine r_aload_n hX dX12_isBestPart_29 rfl 1 rfl ?_
    refine r_iload_n hX dX12_isBestPart_30 rfl 2 rfl ?_
    refine r_iload_n hX dX12_isBestPart_31 rfl 3 rfl ?_
    refine r_iload hX dX12_isBestPart_32 5 rfl ?_
    refine r_iload hX dX12_isBestPart_34 6 rfl ?_
    refine r_cVl (As := [.int l1, .int l2, .int l4, .int l5]) (st := []) hX dX12_isBestPart_36 kl_X12_productBy w_ml_X12_304 w_im_X12_productBy w_se_X12_productBy ⟨_, _, rfl⟩ (by decide) rfl (Nat.le_of_ble_eq_true rfl) rfl kdz0 h (fun r σ1 h => wX12_productBy h) ?_
    clear h; intro t5 σ h
    refine r_aload_n hX dX12_isBestPart_39 rfl 1 rfl ?_
    refine r_gR hX dX12_isBestPart_40 kf_X12_95 rfl h ?_
    clear h; intro t6 h
    refine r_iload hX dX12_isBestPart_43 0 rfl ?_
    refine r_aL hX dX12_isBestPart_45 h ?_
    clear h; intro t7 h
    refine r_lcmp hX dX12_isBestPart_46 ?_
    refine r_if_ne (tgt := 74) hX dX12_isBestPart_47 (by decide) h ?_ ?_
    · clear h; intro h
      refine r_aload_n hX dX12_isBestPart_50 rfl 1 rfl ?_
      refine r_iload_n hX dX12_isBestPart_51 rfl 2 rfl ?_
      refine r_iload_n hX dX12_isBestPart_52 rfl 3 rfl ?_
      refine r_iload hX dX12_isBestPart_53 5 rfl ?_
      refine r_iload hX dX12_isBestPart_55 6 rfl ?_
      refine r_cVi (As := [.int l1, .int l2, .int l4, .int l5]) (st := []) hX dX12_isBestPart_57 kl_X12_manyBy w_ml_X12_308 w_im_X12_manyBy w_se_X12_manyBy ⟨_, _, rfl⟩ (by decide) rfl (Nat.le_of_ble_eq_true rfl) rfl kdz0 h (fun r σ1 h => wX12_manyBy h) ?_
      clear h; intro t8 σ h
      refine r_aload_n hX dX12_isBestPart_60 rfl 1 rfl ?_
      refine r_gR hX dX12_isBestPart_61 kf_X12_99 rfl h ?_
      clear h; intro t9 h
      refine r_iload hX dX12_isBestPart_64 0 rfl ?_
      refine r_aI hX dX12_isBestPart_66 h ?_
      clear h; intro t10 h
      refine r_icmp_ne (tgt := 74) hX dX12_isBestPart_67 (by decide) h ?_ ?_
      · clear h; intro h
        refine r_iconst hX dX12_isBestPart_70 kk_i_1 ?_
        refine r_goto (tgt := 75) hX dX12_isBestPart_71 (by decide) ?_
        refine r_sub [] rfl ?_
        exact wX12_isBestPart_75 hX h
      · clear h; intro h
        refine r_sub [] rfl ?_
        exact wX12_isBestPart_74 hX h
    · clear h; intro h
      refine r_sub [] rfl ?_
      exact wX12_isBestPart_74 hX h
  · clear h; intro h
    refine r_sub [] rfl ?_
    exact wX12_isBestPart_74 hX h
