def X12_better_18 (G : kdS) : kdM → Option (Int32 × kdM) :=
  rt (-2 : Int32)
set_option maxRecDepth 100000 in
set_option maxHeartbeats 4000000 in
theorem wX12_better_18 {E : kdE} {G : kdS} {A : kdA} {r : Int32} {σ1 : kdM} (hX : kdX E A cX12_better 10 RX12 (some .int) 3) {σ : kdM} (h : X12_better_18 G  σ = some (r, σ1)) : SW E G (.inl (some (.int r), σ1)) A 10 σ 18 [] [] := by
  unfold X12_better_18 at h
  refine r_bipush hX dX12_better_18 kk_b_m2 ?_
  exact r_iret hX dX12_better_20 h
def X12_better_101 (G : kdS) (k26 : Nat → Int32 → Int32 → Int32 → kdM → Option (Int32 × kdM)) (k46 : Nat → Int32 → Int32 → Int32 → Int32 → Int32 → Int32 → kdM → Option (Int32 × kdM)) (k61 : Nat → Int32 → Int32 → Int32 → Int32 → Int32 → Int32 → Int32 → kdM → Option (Int32 × kdM)) (l0 : Nat) (l2 : Int32) (l3 : Int32) (l5 : Int32) (l6 : Int32) (l7 : Int32) (l8 : Int32) (l9 : Int32) : kdM → Option (Int32 × kdM) :=
  kcv G 12 l0 (X12_exchange G l0 l8 l9) fun _ =>
  ltI (l9 + Int32.ofInt 1) fun t1 =>
  k61 l0 l2 l3 l5 l6 l7 l8 t1
set_option maxRecDepth 100000 in
set_option maxHeartbeats 4000000 in
theorem wX12_better_101 {E : kdE} {G : kdS} {A : kdA} {r : Int32} {σ1 : kdM} (hX : kdX E A cX12_better 10 RX12 (some .int) 3) (k26 : Nat → Int32 → Int32 → Int32 → kdM → Option (Int32 × kdM)) (k46 : Nat → Int32 → Int32 → Int32 → Int32 → Int32 → Int32 → kdM → Option (Int32 × kdM)) (k61 : Nat → Int32 → Int32 → Int32 → Int32 → Int32 → Int32 → Int32 → kdM → Option (Int32 × kdM)) (hk26 : ∀ (l0 : Nat) (l2 : Int32) (l3 : Int32) (l4 : Int32) (σ : kdM), k26 l0 l2 l3 l4 σ = some (r, σ1) → SW E G (.inl (some (.int r), σ1)) A 10 σ 26 [(0, kr E l0), (2, .int l2), (3, .int l3), (4, .int l4)] []) (hk46 : ∀ (l0 : Nat) (l2 : Int32) (l3 : Int32) (l5 : Int32) (l6 : Int32) (l7 : Int32) (l8 : Int32) (σ : kdM), k46 l0 l2 l3 l5 l6 l7 l8 σ = some (r, σ1) → SW E G (.inl (some (.int r), σ1)) A 10 σ 46 [(0, kr E l0), (2, .int l2), (3, .int l3), (5, .int l5), (6, .int l6), (7, .int l7), (8, .int l8)] []) (hk61 : ∀ (l0 : Nat) (l2 : Int32) (l3 : Int32) (l5 : Int32) (l6 : Int32) (l7 : Int32) (l8 : Int32) (l9 : Int32) (σ : kdM), k61 l0 l2 l3 l5 l6 l7 l8 l9 σ = some (r, σ1) → SW E G (.inl (some (.int r), σ1)) A 10 σ 61 [(0, kr E l0), (2, .int l2), (3, .int l3), (5, .int l5), (6, .int l6), (7, .int l7), (8, .int l8), (9, .int l9)] []) {σ : kdM} {l0 : Nat} {l2 : Int32} {l3 : Int32} {l5 : Int32} {l6 : Int32} {l7 : Int32} {l8 : Int32} {l9 : Int32} (h : X12_better_101 G k26 k46 k61 l0 l2 l3 l5 l6 l7 l8 l9 σ = some (r, σ1)) : SW E G (.inl (some (.int r), σ1)) A 10 σ 101 [(0, kr E l0), (2, .int l2), (3, .int l3), (5, .int l5), (6, .int l6), (7, .int l7), (8, .int l8), (9, .int l9)] [] := by
  unfold X12_better_101 at h
  refine r_aload_n hX dX12_better_101 rfl 0 rfl ?_
  refine r_iload hX dX12_better_102 6 rfl ?_
  refine r_iload hX dX12_better_104 7 rfl ?_
  refine r_cVv (As := [.int l8, .int l9]) (st := []) hX dX12_better_106 kl_X12_exchange w_ml_X12_394 w_im_X12_exchange w_se_X12_exchange ⟨_, _, rfl⟩ (by decide) rfl (Nat.le_of_ble_eq_true rfl) rfl kdz0 h (fun r σ1 h => wX12_exchange h) ?_
  clear h; intro u σ h
  refine r_iincL (L2 := fun t1 => [(9, .int t1), (0, kr E l0), (2, .int l2), (3, .int l3), (5, .int l5), (6, .int l6), (7, .int l7), (8, .int l8)]) hX dX12_better_109 h 7 rfl (by decide) (fun _ => rfl) ?_
  clear h; intro t1 h
  refine r_goto (tgt := 61) hX dX12_better_112 (by decide) ?_
  refine r_sub [1, 2, 3, 4, 5, 6, 7, 0] rfl ?_
  exact hk61 _ _ _ _ _ _ _ _ _ h
def X12_better_61B (G : kdS) (k26 : Nat → Int32 → Int32 → Int32 → kdM → Option (Int32 × kdM)) (k46 : Nat → Int32 → Int32 → Int32 → Int32 → Int32 → Int32 → kdM → Option (Int32 × kdM)) (k61 : Nat → Int32 → Int32 → Int32 → Int32 → Int32 → Int32 → Int32 → kdM → Option (Int32 × kdM)) (l0 : Nat) (l2 : Int32) (l3 : Int32) (l5 : Int32) (l6 : Int32) (l7 : Int32) (l8 : Int32) (l9 : Int32) : kdM → Option (Int32 × kdM) :=
  gI G 12 55 l0 fun t1 =>
  cnd (t1 ≤ l9)
    (ltI (l8 + Int32.ofInt 1) fun t2 =>
    k46 l0 l2 l3 l5 l6 l7 t2)
    (kcv G 12 l0 (X12_exchange G l0 l8 l9) fun _ =>
    kcv G 12 l0 (X12_costOf G l0) fun t3 =>
    cnd (l5 ≤ t3)
      (X12_better_101 G k26 k46 k61 l0 l2 l3 l5 l6 l7 l8 l9)
      (kcv G 12 l0 (X12_costOf G l0) fun t4 =>
      X12_better_101 G k26 k46 k61 l0 l2 l3 t4 l8 l9 l8 l9))
set_option maxRecDepth 100000 in
set_option maxHeartbeats 4000000 in
theorem wX12_better_61B {E : kdE} {G : kdS} {A : kdA} {r : Int32} {σ1 : kdM} (hX : kdX E A cX12_better 10 RX12 (some .int) 3) (k26 : Nat → Int32 → Int32 → Int32 → kdM → Option (Int32 × kdM)) (k46 : Nat → Int32 → Int32 → Int32 → Int32 → Int32 → Int32 → kdM → Option (Int32 × kdM)) (k61 : Nat → Int32 → Int32 → Int32 → Int32 → Int32 → Int32 → Int32 → kdM → Option (Int32 × kdM)) (hk26 : ∀ (l0 : Nat) (l2 : Int32) (l3 : Int32) (l4 : Int32) (σ : kdM), k26 l0 l2 l3 l4 σ = some (r, σ1) → SW E G (.inl (some (.int r), σ1)) A 10 σ 26 [(0, kr E l0), (2, .int l2), (3, .int l3), (4, .int l4)] []) (hk46 : ∀ (l0 : Nat) (l2 : Int32) (l3 : Int32) (l5 : Int32) (l6 : Int32) (l7 : Int32) (l8 : Int32) (σ : kdM), k46 l0 l2 l3 l5 l6 l7 l8 σ = some (r, σ1) → SW E G (.inl (some (.int r), σ1)) A 10 σ 46 [(0, kr E l0), (2, .int l2), (3, .int l3), (5, .int l5), (6, .int l6), (7, .int l7), (8, .int l8)] []) (hk61 : ∀ (l0 : Nat) (l2 : Int32) (l3 : Int32) (l5 : Int32) (l6 : Int32) (l7 : Int32) (l8 : Int32) (l9 : Int32) (σ : kdM), k61 l0 l2 l3 l5 l6 l7 l8 l9 σ = some (r, σ1) → SW E G (.inl (some (.int r), σ1)) A 10 σ 61 [(0, kr E l0), (2, .int l2), (3, .int l3), (5, .int l5), (6, .int l6), (7, .int l7), (8, .int l8), (9, .int l9)] []) {σ : kdM} {l0 : Nat} {l2 : Int32} {l3 : Int32} {l5 : Int32} {l6 : Int32} {l7 : Int32} {l8 : Int32} {l9 : Int32} (h : X12_better_61B G k26 k46 k61 l0 l2 l3 l5 l6 l7 l8 l9 σ = some (r, σ1)) : SW E G (.inl (some (.int r), σ1)) A 10 σ 61 [(0, kr E l0), (2, .int l2), (3, .int l3), (5, .int l5), (6, .int l6), (7, .int l7), (8, .int l8), (9, .int l9)] [] := by
  unfold X12_better_61B at h
  refine r_iload hX dX12_better_61 7 rfl ?_
  refine r_aload_n hX dX12_better_63 rfl 0 rfl ?_
  refine r_gI hX dX12_better_64 kf_X12_374 rfl h ?_
  clear h; intro t1 h
  refine r_icmp_ge (tgt := 115) hX dX12_better_67 (by decide) h ?_ ?_
  · clear h; intro h
    refine r_iincL (L2 := fun t2 => [(8, .int t2), (0, kr E l0), (2, .int l2), (3, .int l3), (5, .int l5), (6, .int l6), (7, .int l7), (9, .int l9)]) hX dX12_better_115 h 6 rfl (by decide) (fun _ => rfl) ?_
    clear h; intro t2 h
    refine r_goto (tgt := 46) hX dX12_better_118 (by decide) ?_
    refine r_sub [1, 2, 3, 4, 5, 6, 0] rfl ?_
    exact hk46 _ _ _ _ _ _ _ _ h
  · clear h; intro h
    refine r_aload_n hX dX12_better_70 rfl 0 rfl ?_
    refine r_iload hX dX12_better_71 6 rfl ?_
    refine r_iload hX dX12_better_73 7 rfl ?_
    refine r_cVv (As := [.int l8, .int l9]) (st := []) hX dX12_better_75 kl_X12_exchange w_ml_X12_394 w_im_X12_exchange w_se_X12_exchange ⟨_, _, rfl⟩ (by decide) rfl (Nat.le_of_ble_eq_true rfl) rfl kdz0 h (fun r σ1 h => wX12_exchange h) ?_
    clear h; intro u σ h
    refine r_aload_n hX dX12_better_78 rfl 0 rfl ?_
    refine r_cVi (As := []) (st := []) hX dX12_better_79 kl_X12_costOf w_ml_X12_390 w_im_X12_costOf w_se_X12_costOf ⟨_, _, rfl⟩ (by decide) rfl (Nat.le_of_ble_eq_true rfl) rfl kdz0 h (fun r σ1 h => wX12_costOf h) ?_
    clear h; intro t3 σ h
    refine r_iload hX dX12_better_82 3 rfl ?_
    refine r_icmp_ge (tgt := 101) hX dX12_better_84 (by decide) h ?_ ?_
    · clear h; intro h
      refine r_sub [0, 1, 2, 3, 4, 5, 6, 7] rfl ?_
      exact wX12_better_101 hX k26 k46 k61 hk26 hk46 hk61 h
    · clear h; intro h
      refine r_aload_n hX dX12_better_87 rfl 0 rfl ?_
      refine r_cVi (As := []) (st := []) hX dX12_better_88 kl_X12_costOf w_ml_X12_390 w_im_X12_costOf w_se_X12_costOf ⟨_, _, rfl⟩ (by decide) rfl (Nat.le_of_ble_eq_true rfl) rfl kdz0 h (fun r σ1 h => wX12_costOf h) ?_
      clear h; intro t4 σ h
      refine r_istore (L2 := [(5, .int t4), (0, kr E l0), (2, .int l2), (3, .int l3), (6, .int l6), (7, .int l7), (8, .int l8), (9, .int l9)]) hX dX12_better_91 (by decide) rfl ?_
      refine r_iload hX dX12_better_93 6 rfl ?_
      refine r_istore (L2 := [(6, .int l8), (5, .int t4), (0, kr E l0), (2, .int l2), (3, .int l3), (7, .int l7), (8, .int l8), (9, .int l9)]) hX dX12_better_95 (by decide) rfl ?_
      refine r_iload hX dX12_better_97 7 rfl ?_
      refine r_istore (L2 := [(7, .int l9), (6, .int l8), (5, .int t4), (0, kr E l0), (2, .int l2), (3, .int l3), (8, .int l8), (9, .int l9)]) hX dX12_better_99 (by decide) rfl ?_
      refine r_sub [3, 4, 5, 2, 1, 0, 6, 7] rfl ?_
      exact wX12_better_101 hX k26 k46 k61 hk26 hk46 hk61 h
def X12_better_61 (G : kdS) (k26 : Nat → Int32 → Int32 → Int32 → kdM → Option (Int32 × kdM)) (k46 : Nat → Int32 → Int32 → Int32 → Int32 → Int32 → Int32 → kdM → Option (Int32 × kdM)) : Nat → Int32 → Int32 → Int32 → Int32 → Int32 → Int32 → Int32 → kdM → Option (Int32 × kdM) := lp (fun _ _ _ _ _ _ _ _ _ => none) (X12_better_61B G k26 k46) NN
theorem wX12_better_61 {E : kdE} {G : kdS} {A : kdA} {r : Int32} {σ1 : kdM} (hX : kdX E A cX12_better 10 RX12 (some .int) 3) (k26 : Nat → Int32 → Int32 → Int32 → kdM → Option (Int32 × kdM)) (k46 : Nat → Int32 → Int32 → Int32 → Int32 → Int32 → Int32 → kdM → Option (Int32 × kdM)) (hk26 : ∀ (l0 : Nat) (l2 : Int32) (l3 : Int32) (l4 : Int32) (σ : kdM), k26 l0 l2 l3 l4 σ = some (r, σ1) → SW E G (.inl (some (.int r), σ1)) A 10 σ 26 [(0, kr E l0), (2, .int l2), (3, .int l3), (4, .int l4)] []) (hk46 : ∀ (l0 : Nat) (l2 : Int32) (l3 : Int32) (l5 : Int32) (l6 : Int32) (l7 : Int32) (l8 : Int32) (σ : kdM), k46 l0 l2 l3 l5 l6 l7 l8 σ = some (r, σ1) → SW E G (.inl (some (.int r), σ1)) A 10 σ 46 [(0, kr E l0), (2, .int l2), (3, .int l3), (5, .int l5), (6, .int l6), (7, .int l7), (8, .int l8)] []) : ∀ (l0 : Nat) (l2 : Int32) (l3 : Int32) (l5 : Int32) (l6 : Int32) (l7 : Int32) (l8 : Int32) (l9 : Int32) (σ : kdM), X12_better_61 G k26 k46 l0 l2 l3 l5 l6 l7 l8 l9 σ = some (r, σ1) → SW E G (.inl (some (.int r), σ1)) A 10 σ 61 [(0, kr E l0), (2, .int l2), (3, .int l3), (5, .int l5), (6, .int l6), (7, .int l7), (8, .int l8), (9, .int l9)] [] :=
  lp_ind (Q := fun f => ∀ (l0 : Nat) (l2 : Int32) (l3 : Int32) (l5 : Int32) (l6 : Int32) (l7 : Int32) (l8 : Int32) (l9 : Int32) (σ : kdM), f l0 l2 l3 l5 l6 l7 l8 l9 σ = some (r, σ1) → SW E G (.inl (some (.int r), σ1)) A 10 σ 61 [(0, kr E l0), (2, .int l2), (3, .int l3), (5, .int l5), (6, .int l6), (7, .int l7), (8, .int l8), (9, .int l9)] []) (by intros; contradiction) (fun k hk l0 l2 l3 l5 l6 l7 l8 l9 σ h => wX12_better_61B hX k26 k46 k hk26 hk46 hk h) NN
def X12_better_149 (G : kdS) (k26 : Nat → Int32 → Int32 → Int32 → kdM → Option (Int32 × kdM)) (l0 : Nat) (l2 : Int32) (l3 : Int32) (l4 : Int32) : kdM → Option (Int32 × kdM) :=
  k26 l0 l2 l3 l4
set_option maxRecDepth 100000 in
set_option maxHeartbeats 4000000 in
theorem wX12_better_149 {E : kdE} {G : kdS} {A : kdA} {r : Int32} {σ1 : kdM} (hX : kdX E A cX12_better 10 RX12 (some .int) 3) (k26 : Nat → Int32 → Int32 → Int32 → kdM → Option (Int32 × kdM)) (hk26 : ∀ (l0 : Nat) (l2 : Int32) (l3 : Int32) (l4 : Int32) (σ : kdM), k26 l0 l2 l3 l4 σ = some (r, σ1) → SW E G (.inl (some (.int r), σ1)) A 10 σ 26 [(0, kr E l0), (2, .int l2), (3, .int l3), (4, .int l4)] []) {σ : kdM} {l0 : Nat} {l2 : Int32} {l3 : Int32} {l4 : Int32} (h : X12_better_149 G k26 l0 l2 l3 l4 σ = some (r, σ1)) : SW E G (.inl (some (.int r), σ1)) A 10 σ 149 [(0, kr E l0), (2, .int l2), (3, .int l3), (4, .int l4)] [] := by
  unfold X12_better_149 at h
  refine r_goto (tgt := 26) hX dX12_better_149 (by decide) ?_
  refine r_sub [0, 1, 2, 3] rfl ?_
  exact hk26 _ _ _ _ _ h
def X12_better_131 (G : kdS) (k26 : Nat → Int32 → Int32 → Int32 → kdM → Option (Int32 × kdM)) (l0 : Nat) (l2 : Int32) (l3 : Int32) (l6 : Int32) (l7 : Int32) (s0 : Int32) : kdM → Option (Int32 × kdM) :=
  cnd (s0 = 0)
    (X12_better_149 G k26 l0 l2 l3 s0)
    (kcv G 12 l0 (X12_exchange G l0 l6 l7) fun _ =>
    ltI (l3 + Int32.ofInt 1) fun t1 =>
    X12_better_149 G k26 l0 l2 t1 s0)
set_option maxRecDepth 100000 in
set_option maxHeartbeats 4000000 in
theorem wX12_better_131 {E : kdE} {G : kdS} {A : kdA} {r : Int32} {σ1 : kdM} (hX : kdX E A cX12_better 10 RX12 (some .int) 3) (k26 : Nat → Int32 → Int32 → Int32 → kdM → Option (Int32 × kdM)) (hk26 : ∀ (l0 : Nat) (l2 : Int32) (l3 : Int32) (l4 : Int32) (σ : kdM), k26 l0 l2 l3 l4 σ = some (r, σ1) → SW E G (.inl (some (.int r), σ1)) A 10 σ 26 [(0, kr E l0), (2, .int l2), (3, .int l3), (4, .int l4)] []) {σ : kdM} {l0 : Nat} {l2 : Int32} {l3 : Int32} {l6 : Int32} {l7 : Int32} {s0 : Int32} (h : X12_better_131 G k26 l0 l2 l3 l6 l7 s0 σ = some (r, σ1)) : SW E G (.inl (some (.int r), σ1)) A 10 σ 131 [(0, kr E l0), (2, .int l2), (3, .int l3), (6, .int l6), (7, .int l7)] [.int s0] := by
  unfold X12_better_131 at h
  refine r_istore (L2 := [(4, .int s0), (0, kr E l0), (2, .int l2), (3, .int l3), (6, .int l6), (7, .int l7)]) hX dX12_better_131 (by decide) rfl ?_
  refine r_iload hX dX12_better_133 0 rfl ?_
  refine r_if_eq (tgt := 149) hX dX12_better_135 (by decide) h ?_ ?_
  · clear h; intro h
    refine r_sub [1, 2, 3, 0] rfl ?_
    exact wX12_better_149 hX k26 hk26 h
  · clear h; intro h
    refine r_aload_n hX dX12_better_138 rfl 1 rfl ?_
    refine r_iload hX dX12_better_139 4 rfl ?_
    refine r_iload hX dX12_better_141 5 rfl ?_
    refine r_cVv (As := [.int l6, .int l7]) (st := []) hX dX12_better_143 kl_X12_exchange w_ml_X12_394 w_im_X12_exchange w_se_X12_exchange ⟨_, _, rfl⟩ (by decide) rfl (Nat.le_of_ble_eq_true rfl) rfl kdz0 h (fun r σ1 h => wX12_exchange h) ?_
    clear h; intro u σ h
    refine r_iincL (L2 := fun t1 => [(3, .int t1), (4, .int s0), (0, kr E l0), (2, .int l2), (6, .int l6), (7, .int l7)]) hX dX12_better_146 h 3 rfl (by decide) (fun _ => rfl) ?_
    clear h; intro t1 h
    refine r_sub [2, 3, 0, 1] rfl ?_
    exact wX12_better_149 hX k26 hk26 h
def X12_better_46B (G : kdS) (k26 : Nat → Int32 → Int32 → Int32 → kdM → Option (Int32 × kdM)) (k46 : Nat → Int32 → Int32 → Int32 → Int32 → Int32 → Int32 → kdM → Option (Int32 × kdM)) (l0 : Nat) (l2 : Int32) (l3 : Int32) (l5 : Int32) (l6 : Int32) (l7 : Int32) (l8 : Int32) : kdM → Option (Int32 × kdM) :=
  gI G 12 55 l0 fun t1 =>
  cnd (t1 ≤ l8)
    (cnd (l6 < 0)
      (X12_better_131 G k26 l0 l2 l3 l6 l7 (0 : Int32))
      (X12_better_131 G k26 l0 l2 l3 l6 l7 (1 : Int32)))
    (ltI ((l8 + (1 : Int32))) fun t2 =>
    X12_better_61 G k26 k46 l0 l2 l3 l5 l6 l7 l8 t2)
set_option maxRecDepth 100000 in
set_option maxHeartbeats 4000000 in
theorem wX12_better_46B {E : kdE} {G : kdS} {A : kdA} {r : Int32} {σ1 : kdM} (hX : kdX E A cX12_better 10 RX12 (some .int) 3) (k26 : Nat → Int32 → Int32 → Int32 → kdM → Option (Int32 × kdM)) (k46 : Nat → Int32 → Int32 → Int32 → Int32 → Int32 → Int32 → kdM → Option (Int32 × kdM)) (hk26 : ∀ (l0 : Nat) (l2 : Int32) (l3 : Int32) (l4 : Int32) (σ : kdM), k26 l0 l2 l3 l4 σ = some (r, σ1) → SW E G (.inl (some (.int r), σ1)) A 10 σ 26 [(0, kr E l0), (2, .int l2), (3, .int l3), (4, .int l4)] []) (hk46 : ∀ (l0 : Nat) (l2 : Int32) (l3 : Int32) (l5 : Int32) (l6 : Int32) (l7 : Int32) (l8 : Int32) (σ : kdM), k46 l0 l2 l3 l5 l6 l7 l8 σ = some (r, σ1) → SW E G (.inl (some (.int r), σ1)) A 10 σ 46 [(0, kr E l0), (2, .int l2), (3, .int l3), (5, .int l5), (6, .int l6), (7, .int l7), (8, .int l8)] []) {σ : kdM} {l0 : Nat} {l2 : Int32} {l3 : Int32} {l5 : Int32} {l6 : Int32} {l7 : Int32} {l8 : Int32} (h : X12_better_46B G k26 k46 l0 l2 l3 l5 l6 l7 l8 σ = some (r, σ1)) : SW E G (.inl (some (.int r), σ1)) A 10 σ 46 [(0, kr E l0), (2, .int l2), (3, .int l3), (5, .int l5), (6, .int l6), (7, .int l7), (8, .int l8)] [] := by
  unfold X12_better_46B at h
  refine r_iload hX dX12_better_46 6 rfl ?_
  refine r_aload_n hX dX12_better_48 rfl 0 rfl ?_
  refine r_gI hX dX12_better_49 kf_X12_374 rfl h ?_
  clear h; intro t1 h
  refine r_icmp_ge (tgt := 121) hX dX12_better_52 (by decide) h ?_ ?_
  · clear h; intro h
    refine r_iload hX dX12_better_121 4 rfl ?_
    refine r_if_lt (tgt := 130) hX dX12_better_123 (by decide) h ?_ ?_
    · clear h; intro h
      refine r_iconst hX dX12_better_130 kk_i_0 ?_
      refine r_sub [0, 1, 2, 4, 5] rfl ?_
      exact wX12_better_131 hX k26 hk26 h
    · clear h; intro h
      refine r_iconst hX dX12_better_126 kk_i_1 ?_
      refine r_goto (tgt := 131) hX dX12_better_127 (by decide) ?_
      refine r_sub [0, 1, 2, 4, 5] rfl ?_
      exact wX12_better_131 hX k26 hk26 h
  · clear h; intro h
    refine r_iload hX dX12_better_55 6 rfl ?_
    refine r_iconst hX dX12_better_57 kk_i_1 ?_
    refine r_iadd hX dX12_better_58 ?_
    refine r_letI h ?_
    clear h; intro t2 h
    refine r_istore (L2 := [(9, .int t2), (0, kr E l0), (2, .int l2), (3, .int l3), (5, .int l5), (6, .int l6), (7, .int l7), (8, .int l8)]) hX dX12_better_59 (by decide) rfl ?_
    refine r_sub [1, 2, 3, 4, 5, 6, 7, 0] rfl ?_
    exact wX12_better_61 hX k26 k46 hk26 hk46 _ _ _ _ _ _ _ _ _ h
def X12_better_46 (G : kdS) (k26 : Nat → Int32 → Int32 → Int32 → kdM → Option (Int32 × kdM)) : Nat → Int32 → Int32 → Int32 → Int32 → Int32 → Int32 → kdM → Option (Int32 × kdM) := lp (fun _ _ _ _ _ _ _ _ => none) (X12_better_46B G k26) NN
theorem wX12_better_46 {E : kdE} {G : kdS} {A : kdA} {r : Int32} {σ1 : kdM} (hX : kdX E A cX12_better 10 RX12 (some .int) 3) (k26 : Nat → Int32 → Int32 → Int32 → kdM → Option (Int32 × kdM)) (hk26 : ∀ (l0 : Nat) (l2 : Int32) (l3 : Int32) (l4 : Int32) (σ : kdM), k26 l0 l2 l3 l4 σ = some (r, σ1) → SW E G (.inl (some (.int r), σ1)) A 10 σ 26 [(0, kr E l0), (2, .int l2), (3, .int l3), (4, .int l4)] []) : ∀ (l0 : Nat) (l2 : Int32) (l3 : Int32) (l5 : Int32) (l6 : Int32) (l7 : Int32) (l8 : Int32) (σ : kdM), X12_better_46 G k26 l0 l2 l3 l5 l6 l7 l8 σ = some (r, σ1) → SW E G (.inl (some (.int r), σ1)) A 10 σ 46 [(0, kr E l0), (2, .int l2), (3, .int l3), (5, .int l5), (6, .int l6), (7, .int l7), (8, .int l8)] [] :=
  lp_ind (Q := fun f => ∀ (l0 : Nat) (l2 : Int32) (l3 : Int32) (l5 : Int32) (l6 : Int32) (l7 : Int32) (l8 : Int32) (σ : kdM), f l0 l2 l3 l5 l6 l7 l8 σ = some (r, σ1) → SW E G (.inl (some (.int r), σ1)) A 10 σ 46 [(0, kr E l0), (2, .int l2), (3, .int l3), (5, .int l5), (6, .int l6), (7, .int l7), (8, .int l8)] []) (by intros; contradiction) (fun k hk l0 l2 l3 l5 l6 l7 l8 σ h => wX12_better_46B hX k26 k hk26 hk h) NN
def X12_better_164 (G : kdS) (s0 : Int32) : kdM → Option (Int32 × kdM) :=
  rt s0
set_option maxRecDepth 100000 in
set_option maxHeartbeats 4000000 in
theorem wX12_better_164 {E : kdE} {G : kdS} {A : kdA} {r : Int32} {σ1 : kdM} (hX : kdX E A cX12_better 10 RX12 (some .int) 3) {σ : kdM} {s0 : Int32} (h : X12_better_164 G s0 σ = some (r, σ1)) : SW E G (.inl (some (.int r), σ1)) A 10 σ 164 [] [.int s0] := by
  unfold X12_better_164 at h
  exact r_iret hX dX12_better_164 h
def X12_better_26B (G : kdS) (k26 : Nat → Int32 → Int32 → Int32 → kdM → Option (Int32 × kdM)) (l0 : Nat) (l2 : Int32) (l3 : Int32) (l4 : Int32) : kdM → Option (Int32 × kdM) :=
  cnd (l4 = 0)
    (cnd (l2 = 0)
      (kcv G 12 l0 (X12_digits G l0) fun t1 =>
      X12_better_164 G t1)
      (X12_better_164 G l3))
    (kcv G 12 l0 (X12_costOf G l0) fun t2 =>
    X12_better_46 G k26 l0 l2 l3 t2 (-1 : Int32) (-1 : Int32) (0 : Int32))
set_option maxRecDepth 100000 in
set_option maxHeartbeats 4000000 in
theorem wX12_better_26B {E : kdE} {G : kdS} {A : kdA} {r : Int32} {σ1 : kdM} (hX : kdX E A cX12_better 10 RX12 (some .int) 3) (k26 : Nat → Int32 → Int32 → Int32 → kdM → Option (Int32 × kdM)) (hk26 : ∀ (l0 : Nat) (l2 : Int32) (l3 : Int32) (l4 : Int32) (σ : kdM), k26 l0 l2 l3 l4 σ = some (r, σ1) → SW E G (.inl (some (.int r), σ1)) A 10 σ 26 [(0, kr E l0), (2, .int l2), (3, .int l3), (4, .int l4)] []) {σ : kdM} {l0 : Nat} {l2 : Int32} {l3 : Int32} {l4 : Int32} (h : X12_better_26B G k26 l0 l2 l3 l4 σ = some (r, σ1)) : SW E G (.inl (some (.int r), σ1)) A 10 σ 26 [(0, kr E l0), (2, .int l2), (3, .int l3), (4, .int l4)] [] := by
  unfold X12_better_26B at h
  refine r_iload hX dX12_better_26 3 rfl ?_
  refine r_if_eq (tgt := 152) hX dX12_better_28 (by decide) h ?_ ?_
  · clear h; intro h
    refine r_iload_n hX dX12_better_152 rfl 1 rfl ?_
    refine r_if_ne (tgt := 163) hX dX12_better_153 (by decide) h ?_ ?_
    · clear h; intro h
      refine r_aload_n hX dX12_better_156 rfl 0 rfl ?_
      refine r_cVi (As := []) (st := []) hX dX12_better_157 kl_X12_digits w_ml_X12_401 w_im_X12_digits w_se_X12_digits ⟨_, _, rfl⟩ (by decide) rfl (Nat.le_of_ble_eq_true rfl) rfl kdz0 h (fun r σ1 h => wX12_digits h) ?_
      clear h; intro t1 σ h
      refine r_goto (tgt := 164) hX dX12_better_160 (by decide) ?_
      refine r_sub [] rfl ?_
      exact wX12_better_164 hX h
    · clear h; intro h
      refine r_iload_n hX dX12_better_163 rfl 2 rfl ?_
      refine r_sub [] rfl ?_
      exact wX12_better_164 hX h
  · clear h; intro h
    refine r_aload_n hX dX12_better_31 rfl 0 rfl ?_
    refine r_cVi (As := []) (st := []) hX dX12_better_32 kl_X12_costOf w_ml_X12_390 w_im_X12_costOf w_se_X12_costOf ⟨_, _, rfl⟩ (by decide) rfl (Nat.le_of_ble_eq_true rfl) rfl kdz0 h (fun r σ1 h => wX12_costOf h) ?_
    clear h; intro t2 σ h
    refine r_istore (L2 := [(5, .int t2), (0, kr E l0), (2, .int l2), (3, .int l3), (4, .int l4)]) hX dX12_better_35 (by decide) rfl ?_
    refine r_iconst hX dX12_better_37 kk_i_m1 ?_
    refine r_istore (L2 := [(6, .int (-1 : Int32)), (5, .int t2), (0, kr E l0), (2, .int l2), (3, .int l3), (4, .int l4)]) hX dX12_better_38 (by decide) rfl ?_
    refine r_iconst hX dX12_better_40 kk_i_m1 ?_
    refine r_istore (L2 := [(7, .int (-1 : Int32)), (6, .int (-1 : Int32)), (5, .int t2), (0, kr E l0), (2, .int l2), (3, .int l3), (4, .int l4)]) hX dX12_better_41 (by decide) rfl ?_
    refine r_iconst hX dX12_better_43 kk_i_0 ?_
    refine r_istore (L2 := [(8, .int (0 : Int32)), (7, .int (-1 : Int32)), (6, .int (-1 : Int32)), (5, .int t2), (0, kr E l0), (2, .int l2), (3, .int l3), (4, .int l4)]) hX dX12_better_44 (by decide) rfl ?_
    refine r_sub [4, 5, 6, 3, 2, 1, 0] rfl ?_
    exact wX12_better_46 hX k26 hk26 _ _ _ _ _ _ _ _ h
def X12_better_26 (G : kdS) : Nat → Int32 → Int32 → Int32 → kdM → Option (Int32 × kdM) := lp (fun _ _ _ _ _ => none) (X12_better_26B G) NN
theorem wX12_better_26 {E : kdE} {G : kdS} {A : kdA} {r : Int32} {σ1 : kdM} (hX : kdX E A cX12_better 10 RX12 (some .int) 3) : ∀ (l0 : Nat) (l2 : Int32) (l3 : Int32) (l4 : Int32) (σ : kdM), X12_better_26 G l0 l2 l3 l4 σ = some (r, σ1) → SW E G (.inl (some (.int r), σ1)) A 10 σ 26 [(0, kr E l0), (2, .int l2), (3, .int l3), (4, .int l4)] [] :=
  lp_ind (Q := fun f => ∀ (l0 : Nat) (l2 : Int32) (l3 : Int32) (l4 : Int32) (σ : kdM), f l0 l2 l3 l4 σ = some (r, σ1) → SW E G (.inl (some (.int r), σ1)) A 10 σ 26 [(0, kr E l0), (2, .int l2), (3, .int l3), (4, .int l4)] []) (by intros; contradiction) (fun k hk l0 l2 l3 l4 σ h => wX12_better_26B hX k hk h) NN
def X12_better (G : kdS) (l0 : Nat) (l1 : Int32) (l2 : Int32) : kdM → Option (Int32 × kdM) :=
  kcl (X12_in G (Int32.toInt64 l2) (0 : Int64) (1 : Int64)) fun t1 =>
  cnd (t1 = 0)
    (X12_better_18 G )
    (kcv G 12 l0 (X12_lay G l0 l1) fun t2 =>
    cnd (t2 = 0)
      (X12_better_18 G )
      (X12_better_26 G l0 l2 (0 : Int32) (1 : Int32)))
set_option maxRecDepth 100000 in
set_option maxHeartbeats 4000000 in
theorem wX12_better {E : kdE} {G : kdS} {l0 : Nat} {l1 : Int32} {l2 : Int32} {σ : kdM} {r : Int32} {σ1 : kdM} (h : X12_better G l0 l1 l2 σ = some (r, σ1)) : Con E G yX12_better cX12_better 10 (some .int) 3 [kr E l0, .int l1, .int l2] σ (some (.int r), σ1) := by
  refine kd_head (own := RX12) rfl (by decide +kernel) (Nat.le_of_ble_eq_true rfl) (fun A hX => ?_)
  show SW E G (.inl (some (.int r), σ1)) A 10 σ 0 [(0, kr E l0), (1, .int l1), (2, .int l2)] []
  unfold X12_better at h
  refine r_iload_n hX dX12_better_0 rfl 2 rfl ?_
  refine r_i2l hX dX12_better_1 ?_
  refine r_lconst hX dX12_better_2 kk_l_0 ?_
  refine r_lconst hX dX12_better_3 kk_l_1 ?_
  refine r_cSi (As := [.long (Int32.toInt64 l2), .long (0 : Int64), .long (1 : Int64)]) (st := []) hX dX12_better_4 kl_X12_in w_ml_X12_178 w_st_X12_in (by decide) rfl (Nat.le_of_ble_eq_true rfl) rfl kdz0 h (fun r σ1 h => wX12_in h) ?_
  clear h; intro t1 σ h
  refine r_if_eq (tgt := 18) hX dX12_better_7 (by decide) h ?_ ?_
  · clear h; intro h
    refine r_sub [] rfl ?_
    exact wX12_better_18 hX h
  · clear h; intro h
    refine r_aload_n hX dX12_better_10 rfl 0 rfl ?_
    refine r_iload_n hX dX12_better_11 rfl 1 rfl ?_
    refine r_cVi (As := [.int l1]) (st := []) hX dX12_better_12 kl_X12_lay w_ml_X12_387 w_im_X12_lay w_se_X12_lay ⟨_, _, rfl⟩ (by decide) rfl (Nat.le_of_ble_eq_true rfl) rfl kdz0 h (fun r σ1 h => wX12_lay h) ?_
    clear h; intro t2 σ h
    refine r_if_ne (tgt := 21) hX dX12_better_15 (by decide) h ?_ ?_
    · clear h; intro h
      refine r_sub [] rfl ?_
      exact wX12_better_18 hX h
    · clear h; intro h
      refine r_iconst hX dX12_better_21 kk_i_0 ?_
      refine r_istore_n (L2 := [(3, .int (0 : Int32)), (0, kr E l0), (1, .int l1), (2, .int l2)]) hX dX12_better_22 rfl (by decide) rfl ?_
      refine r_iconst hX dX12_better_23 kk_i_1 ?_
      refine r_istore (L2 := [(4, .int (1 : Int32)), (3, .int (0 : Int32)), (0, kr E l0), (1, .int l1), (2, .int l2)]) hX dX12_better_24 (by decide) rfl ?_
      refine r_sub [2, 4, 1, 0] rfl ?_
      exact wX12_better_26 hX _ _ _ _ _ h
def X12_findLayouts_11B (G : kdS) (k11 : Nat → Int32 → kdM → Option (Unit × kdM)) (l0 : Nat) (l1 : Int32) : kdM → Option (Unit × kdM) :=
  cnd (l1 = 0)
    (rt ())
    (gR G 12 62 l0 fun t1 =>
    gI G 12 65 l0 fun t2 =>
    kcv G 12 l0 (X12_digits G l0) fun t3 =>
    tI G t1 (t2) (t3) <|
    gR G 12 63 l0 fun t4 =>
    gI G 12 65 l0 fun t5 =>
    kcv G 12 l0 (X12_costOf G l0) fun t6 =>
    tI G t4 (t5) (t6) <|
    gI G 12 65 l0 fun t7 =>
    sI G 12 65 l0 ((t7 + (1 : Int32))) <|
    kcv G 12 l0 (X12_next G l0) fun t8 =>
    k11 l0 t8)
set_option maxRecDepth 100000 in
set_option maxHeartbeats 4000000 in
theorem wX12_findLayouts_11B {E : kdE} {G : kdS} {A : kdA} {r : Unit} {σ1 : kdM} (hX : kdX E A cX12_findLayouts 2 RX12 none 2) (k11 : Nat → Int32 → kdM → Option (Unit × kdM)) (hk11 : ∀ (l0 : Nat) (l1 : Int32) (σ : kdM), k11 l0 l1 σ = some (r, σ1) → SW E G (.inl (none, σ1)) A 2 σ 11 [(0, kr E l0), (1, .int l1)] []) {σ : kdM} {l0 : Nat} {l1 : Int32} (h : X12_findLayouts_11B G k11 l0 l1 σ = some (r, σ1)) : SW E G (.inl (none, σ1)) A 2 σ 11 [(0, kr E l0), (1, .int l1)] [] := by
  unfold X12_findLayouts_11B at h
  refine r_iload_n hX dX12_findLayouts_11 rfl 1 rfl ?_
  refine r_if_eq (tgt := 59) hX dX12_findLayouts_12 (by decide) h ?_ ?_
  · clear h; intro h
    exact r_vret hX dX12_findLayouts_59 h
  · clear h; intro h
    refine r_aload_n hX dX12_findLayouts_15 rfl 0 rfl ?_
    refine r_gR hX dX12_findLayouts_16 kf_X12_163 rfl h ?_
    clear h; intro t1 h
    refine r_aload_n hX dX12_findLayouts_19 rfl 0 rfl ?_
    refine r_gI hX dX12_findLayouts_20 kf_X12_408 rfl h ?_
    clear h; intro t2 h
    refine r_aload_n hX dX12_findLayouts_23 rfl 0 rfl ?_
    refine r_cVi (As := []) (st := [.int t2, kr E t1]) hX dX12_findLayouts_24 kl_X12_digits w_ml_X12_401 w_im_X12_digits w_se_X12_digits ⟨_, _, rfl⟩ (by decide) rfl (Nat.le_of_ble_eq_true rfl) rfl kdz0 h (fun r σ1 h => wX12_digits h) ?_
    clear h; intro t3 σ h
    refine r_tI hX dX12_findLayouts_27 h ?_
    clear h; intro σ h
    refine r_aload_n hX dX12_findLayouts_28 rfl 0 rfl ?_
    refine r_gR hX dX12_findLayouts_29 kf_X12_166 rfl h ?_
    clear h; intro t4 h
    refine r_aload_n hX dX12_findLayouts_32 rfl 0 rfl ?_
    refine r_gI hX dX12_findLayouts_33 kf_X12_408 rfl h ?_
    clear h; intro t5 h
    refine r_aload_n hX dX12_findLayouts_36 rfl 0 rfl ?_
    refine r_cVi (As := []) (st := [.int t5, kr E t4]) hX dX12_findLayouts_37 kl_X12_costOf w_ml_X12_390 w_im_X12_costOf w_se_X12_costOf ⟨_, _, rfl⟩ (by decide) rfl (Nat.le_of_ble_eq_true rfl) rfl kdz0 h (fun r σ1 h => wX12_costOf h) ?_
    clear h; intro t6 σ h
    refine r_tI hX dX12_findLayouts_40 h ?_
    clear h; intro σ h
    refine r_aload_n hX dX12_findLayouts_41 rfl 0 rfl ?_
    refine r_dup hX dX12_findLayouts_42 rfl ?_
    refine r_gI hX dX12_findLayouts_43 kf_X12_408 rfl h ?_
    clear h; intro t7 h
    refine r_iconst hX dX12_findLayouts_46 kk_i_1 ?_
    refine r_iadd hX dX12_findLayouts_47 ?_
    refine r_sI hX dX12_findLayouts_48 kf_X12_408 rfl (by intro q hq; cases hq; rfl) h ?_
    clear h; intro σ h
    refine r_aload_n hX dX12_findLayouts_51 rfl 0 rfl ?_
    refine r_cVi (As := []) (st := []) hX dX12_findLayouts_52 kl_X12_next w_ml_X12_404 w_im_X12_next w_se_X12_next ⟨_, _, rfl⟩ (by decide) rfl (Nat.le_of_ble_eq_true rfl) rfl kdz0 h (fun r σ1 h => wX12_next h) ?_
    clear h; intro t8 σ h
    refine r_istore_n (L2 := [(1, .int t8), (0, kr E l0)]) hX dX12_findLayouts_55 rfl (by decide) rfl ?_
    refine r_goto (tgt := 11) hX dX12_findLayouts_56 (by decide) ?_
    refine r_sub [1, 0] rfl ?_
    exact hk11 _ _ _ h
def X12_findLayouts_11 (G : kdS) : Nat → Int32 → kdM → Option (Unit × kdM) := lp (fun _ _ _ => none) (X12_findLayouts_11B G) NN
theorem wX12_findLayouts_11 {E : kdE} {G : kdS} {A : kdA} {r : Unit} {σ1 : kdM} (hX : kdX E A cX12_findLayouts 2 RX12 none 2) : ∀ (l0 : Nat) (l1 : Int32) (σ : kdM), X12_findLayouts_11 G l0 l1 σ = some (r, σ1) → SW E G (.inl (none, σ1)) A 2 σ 11 [(0, kr E l0), (1, .int l1)] [] :=
  lp_ind (Q := fun f => ∀ (l0 : Nat) (l1 : Int32) (σ : kdM), f l0 l1 σ = some (r, σ1) → SW E G (.inl (none, σ1)) A 2 σ 11 [(0, kr E l0), (1, .int l1)] []) (by intros; contradiction) (fun k hk l0 l1 σ h => wX12_findLayouts_11B hX k hk h) NN
def X12_findLayouts (G : kdS) (l0 : Nat) : kdM → Option (Unit × kdM) :=
  sI G 12 65 l0 ((0 : Int32)) <|
  kcv G 12 l0 (X12_layFirst G l0) fun _ =>
  X12_findLayouts_11 G l0 (1 : Int32)
set_option maxRecDepth 100000 in
set_option maxHeartbeats 4000000 in
theorem wX12_findLayouts {E : kdE} {G : kdS} {l0 : Nat} {σ : kdM} {r : Unit} {σ1 : kdM} (h : X12_findLayouts G l0 σ = some (r, σ1)) : Con E G yX12_findLayouts cX12_findLayouts 2 none 2 [kr E l0] σ (none, σ1) := by
  refine kd_head (own := RX12) rfl (by decide +kernel) (Nat.le_of_ble_eq_true rfl) (fun A hX => ?_)
  show SW E G (.inl (none, σ1)) A 2 σ 0 [(0, kr E l0)] []
  unfold X12_findLayouts at h
  refine r_aload_n hX dX12_findLayouts_0 rfl 0 rfl ?_
  refine r_iconst hX dX12_findLayouts_1 kk_i_0 ?_
  refine r_sI hX dX12_findLayouts_2 kf_X12_408 rfl (by intro q hq; cases hq; rfl) h ?_
  clear h; intro σ h
  refine r_aload_n hX dX12_findLayouts_5 rfl 0 rfl ?_
  refine r_cVv (As := []) (st := []) hX dX12_findLayouts_6 kl_X12_layFirst w_ml_X12_398 w_im_X12_layFirst w_se_X12_layFirst ⟨_, _, rfl⟩ (by decide) rfl (Nat.le_of_ble_eq_true rfl) rfl kdz0 h (fun r σ1 h => wX12_layFirst h) ?_
  clear h; intro u σ h
  refine r_iconst hX dX12_findLayouts_9 kk_i_1 ?_
  refine r_istore_n (L2 := [(1, .int (1 : Int32)), (0, kr E l0)]) hX dX12_findLayouts_10 rfl (by decide) rfl ?_
  refine r_sub [1, 0] rfl ?_
  exact wX12_findLayouts_11 hX _ _ _ h
def X12_areOneApart_49 (G : kdS) (k21 : Nat → Int32 → Int32 → Int32 → Int32 → kdM → Option (Int32 × kdM)) (l0 : Nat) (l3 : Int32) (l4 : Int32) (l6 : Int32) (s0 : Int32) (s1 : Int32) : kdM → Option (Int32 × kdM) :=
  ltI ((s0 + s1)) fun t1 =>
  nz (10 : Int32) <|
  ltI ((l3 / (10 : Int32))) fun t2 =>
  nz (10 : Int32) <|
  ltI ((l4 / (10 : Int32))) fun t3 =>
  ltI (l6 + Int32.ofInt 1) fun t4 =>
  k21 l0 t2 t3 t1 t4
set_option maxRecDepth 100000 in
set_option maxHeartbeats 4000000 in
theorem wX12_areOneApart_49 {E : kdE} {G : kdS} {A : kdA} {r : Int32} {σ1 : kdM} (hX : kdX E A cX12_areOneApart 7 RX12 (some .boolean) 0) (k21 : Nat → Int32 → Int32 → Int32 → Int32 → kdM → Option (Int32 × kdM)) (hk21 : ∀ (l0 : Nat) (l3 : Int32) (l4 : Int32) (l5 : Int32) (l6 : Int32) (σ : kdM), k21 l0 l3 l4 l5 l6 σ = some (r, σ1) → SW E G (.inl (some (.int r), σ1)) A 7 σ 21 [(0, kr E l0), (3, .int l3), (4, .int l4), (5, .int l5), (6, .int l6)] []) {σ : kdM} {l0 : Nat} {l3 : Int32} {l4 : Int32} {l6 : Int32} {s0 : Int32} {s1 : Int32} (h : X12_areOneApart_49 G k21 l0 l3 l4 l6 s0 s1 σ = some (r, σ1)) : SW E G (.inl (some (.int r), σ1)) A 7 σ 49 [(0, kr E l0), (3, .int l3), (4, .int l4), (6, .int l6)] [.int s1, .int s0] := by
  unfold X12_areOneApart_49 at h
  refine r_iadd hX dX12_areOneApart_49 ?_
  refine r_letI h ?_
  clear h; intro t1 h
  refine r_istore (L2 := [(5, .int t1), (0, kr E l0), (3, .int l3), (4, .int l4), (6, .int l6)]) hX dX12_areOneApart_50 (by decide) rfl ?_
  refine r_iload_n hX dX12_areOneApart_52 rfl 2 rfl ?_
  refine r_bipush hX dX12_areOneApart_53 kk_b_10 ?_
  refine r_idiv hX dX12_areOneApart_55 h ?_
  clear h; intro h
  refine r_letI h ?_
  clear h; intro t2 h
  refine r_istore_n (L2 := [(3, .int t2), (5, .int t1), (0, kr E l0), (4, .int l4), (6, .int l6)]) hX dX12_areOneApart_56 rfl (by decide) rfl ?_
  refine r_iload hX dX12_areOneApart_57 3 rfl ?_
  refine r_bipush hX dX12_areOneApart_59 kk_b_10 ?_
  refine r_idiv hX dX12_areOneApart_61 h ?_
  clear h; intro h
  refine r_letI h ?_
  clear h; intro t3 h
  refine r_istore (L2 := [(4, .int t3), (3, .int t2), (5, .int t1), (0, kr E l0), (6, .int l6)]) hX dX12_areOneApart_62 (by decide) rfl ?_
  refine r_iincL (L2 := fun t4 => [(6, .int t4), (4, .int t3), (3, .int t2), (5, .int t1), (0, kr E l0)]) hX dX12_areOneApart_64 h 4 rfl (by decide) (fun _ => rfl) ?_
  clear h; intro t4 h
  refine r_goto (tgt := 21) hX dX12_areOneApart_67 (by decide) ?_
  refine r_sub [4, 2, 1, 3, 0] rfl ?_
  exact hk21 _ _ _ _ _ _ h
def X12_areOneApart_81 (G : kdS) (s0 : Int32) : kdM → Option (Int32 × kdM) :=
  rt (vp_nar .boolean s0)
set_option maxRecDepth 100000 in
set_option maxHeartbeats 4000000 in
theorem wX12_areOneApart_81 {E : kdE} {G : kdS} {A : kdA} {r : Int32} {σ1 : kdM} (hX : kdX E A cX12_areOneApart 7 RX12 (some .boolean) 0) {σ : kdM} {s0 : Int32} (h : X12_areOneApart_81 G s0 σ = some (r, σ1)) : SW E G (.inl (some (.int r), σ1)) A 7 σ 81 [] [.int s0] := by
  unfold X12_areOneApart_81 at h
  exact r_zret hX dX12_areOneApart_81 h
def X12_areOneApart_21B (G : kdS) (k21 : Nat → Int32 → Int32 → Int32 → Int32 → kdM → Option (Int32 × kdM)) (l0 : Nat) (l3 : Int32) (l4 : Int32) (l5 : Int32) (l6 : Int32) : kdM → Option (Int32 × kdM) :=
  gI G 12 55 l0 fun t1 =>
  cnd (t1 ≤ l6)
    (cnd (l5 = (2 : Int32))
      (X12_areOneApart_81 G (1 : Int32))
      (X12_areOneApart_81 G (0 : Int32)))
    (nz (10 : Int32) <|
    nz (10 : Int32) <|
    cnd ((krem l3 (10 : Int32)) = (krem l4 (10 : Int32)))
      (X12_areOneApart_49 G k21 l0 l3 l4 l6 l5 (0 : Int32))
      (X12_areOneApart_49 G k21 l0 l3 l4 l6 l5 (1 : Int32)))
set_option maxRecDepth 100000 in
set_option maxHeartbeats 4000000 in
theorem wX12_areOneApart_21B {E : kdE} {G : kdS} {A : kdA} {r : Int32} {σ1 : kdM} (hX : kdX E A cX12_areOneApart 7 RX12 (some .boolean) 0) (k21 : Nat → Int32 → Int32 → Int32 → Int32 → kdM → Option (Int32 × kdM)) (hk21 : ∀ (l0 : Nat) (l3 : Int32) (l4 : Int32) (l5 : Int32) (l6 : Int32) (σ : kdM), k21 l0 l3 l4 l5 l6 σ = some (r, σ1) → SW E G (.inl (some (.int r), σ1)) A 7 σ 21 [(0, kr E l0), (3, .int l3), (4, .int l4), (5, .int l5), (6, .int l6)] []) {σ : kdM} {l0 : Nat} {l3 : Int32} {l4 : Int32} {l5 : Int32} {l6 : Int32} (h : X12_areOneApart_21B G k21 l0 l3 l4 l5 l6 σ = some (r, σ1)) : SW E G (.inl (some (.int r), σ1)) A 7 σ 21 [(0, kr E l0), (3, .int l3), (4, .int l4), (5, .int l5), (6, .int l6)] [] := by
  unfold X12_areOneApart_21B at h
  refine r_iload hX dX12_areOneApart_21 4 rfl ?_
  refine r_aload_n hX dX12_areOneApart_23 rfl 0 rfl ?_
  refine r_gI hX dX12_areOneApart_24 kf_X12_374 rfl h ?_
  clear h; intro t1 h
  refine r_icmp_ge (tgt := 70) hX dX12_areOneApart_27 (by decide) h ?_ ?_
  · clear h; intro h
    refine r_iload hX dX12_areOneApart_70 3 rfl ?_
    refine r_iconst hX dX12_areOneApart_72 kk_i_2 ?_
    refine r_icmp_ne (tgt := 80) hX dX12_areOneApart_73 (by decide) h ?_ ?_
    · clear h; intro h
      refine r_iconst hX dX12_areOneApart_76 kk_i_1 ?_
      refine r_goto (tgt := 81) hX dX12_areOneApart_77 (by decide) ?_
      refine r_sub [] rfl ?_
      exact wX12_areOneApart_81 hX h
    · clear h; intro h
      refine r_iconst hX dX12_areOneApart_80 kk_i_0 ?_
      refine r_sub [] rfl ?_
      exact wX12_areOneApart_81 hX h
  · clear h; intro h
    refine r_iload hX dX12_areOneApart_30 3 rfl ?_
    refine r_iload_n hX dX12_areOneApart_32 rfl 1 rfl ?_
    refine r_bipush hX dX12_areOneApart_33 kk_b_10 ?_
    refine r_irem hX dX12_areOneApart_35 h ?_
    clear h; intro h
    refine r_iload hX dX12_areOneApart_36 2 rfl ?_
    refine r_bipush hX dX12_areOneApart_38 kk_b_10 ?_
    refine r_irem hX dX12_areOneApart_40 h ?_
    clear h; intro h
    refine r_icmp_ne (tgt := 48) hX dX12_areOneApart_41 (by decide) h ?_ ?_
    · clear h; intro h
      refine r_iconst hX dX12_areOneApart_44 kk_i_0 ?_
      refine r_goto (tgt := 49) hX dX12_areOneApart_45 (by decide) ?_
      refine r_sub [0, 1, 2, 4] rfl ?_
      exact wX12_areOneApart_49 hX k21 hk21 h
    · clear h; intro h
      refine r_iconst hX dX12_areOneApart_48 kk_i_1 ?_
      refine r_sub [0, 1, 2, 4] rfl ?_
      exact wX12_areOneApart_49 hX k21 hk21 h
def X12_areOneApart_21 (G : kdS) : Nat → Int32 → Int32 → Int32 → Int32 → kdM → Option (Int32 × kdM) := lp (fun _ _ _ _ _ _ => none) (X12_areOneApart_21B G) NN
theorem wX12_areOneApart_21 {E : kdE} {G : kdS} {A : kdA} {r : Int32} {σ1 : kdM} (hX : kdX E A cX12_areOneApart 7 RX12 (some .boolean) 0) : ∀ (l0 : Nat) (l3 : Int32) (l4 : Int32) (l5 : Int32) (l6 : Int32) (σ : kdM), X12_areOneApart_21 G l0 l3 l4 l5 l6 σ = some (r, σ1) → SW E G (.inl (some (.int r), σ1)) A 7 σ 21 [(0, kr E l0), (3, .int l3), (4, .int l4), (5, .int l5), (6, .int l6)] [] :=
  lp_ind (Q := fun f => ∀ (l0 : Nat) (l3 : Int32) (l4 : Int32) (l5 : Int32) (l6 : Int32) (σ : kdM), f l0 l3 l4 l5 l6 σ = some (r, σ1) → SW E G (.inl (some (.int r), σ1)) A 7 σ 21 [(0, kr E l0), (3, .int l3), (4, .int l4), (5, .int l5), (6, .int l6)] []) (by intros; contradiction) (fun k hk l0 l3 l4 l5 l6 σ h => wX12_areOneApart_21B hX k hk h) NN
def X12_areOneApart (G : kdS) (l0 : Nat) (l1 : Int32) (l2 : Int32) : kdM → Option (Int32 × kdM) :=
  gR G 12 62 l0 fun t1 =>
  aI G t1 (l1) fun t2 =>
  gR G 12 62 l0 fun t3 =>
  aI G t3 (l2) fun t4 =>
  X12_areOneApart_21 G l0 t2 t4 (0 : Int32) (0 : Int32)
set_option maxRecDepth 100000 in
set_option maxHeartbeats 4000000 in
theorem wX12_areOneApart {E : kdE} {G : kdS} {l0 : Nat} {l1 : Int32} {l2 : Int32} {σ : kdM} {r : Int32} {σ1 : kdM} (h : X12_areOneApart G l0 l1 l2 σ = some (r, σ1)) : Con E G yX12_areOneApart cX12_areOneApart 7 (some .boolean) 0 [kr E l0, .int l1, .int l2] σ (some (.int r), σ1) := by
  refine kd_head (own := RX12) rfl (by decide +kernel) (Nat.le_of_ble_eq_true rfl) (fun A hX => ?_)
  show SW E G (.inl (some (.int r), σ1)) A 7 σ 0 [(0, kr E l0), (1, .int l1), (2, .int l2)] []
  unfold X12_areOneApart at h
  refine r_aload_n hX dX12_areOneApart_0 rfl 0 rfl ?_
  refine r_gR hX dX12_areOneApart_1 kf_X12_163 rfl h ?_
  clear h; intro t1 h
  refine r_iload_n hX dX12_areOneApart_4 rfl 1 rfl ?_
  refine r_aI hX dX12_areOneApart_5 h ?_
  clear h; intro t2 h
  refine r_istore_n (L2 := [(3, .int t2), (0, kr E l0), (1, .int l1), (2, .int l2)]) hX dX12_areOneApart_6 rfl (by decide) rfl ?_
  refine r_aload_n hX dX12_areOneApart_7 rfl 1 rfl ?_
  refine r_gR hX dX12_areOneApart_8 kf_X12_163 rfl h ?_
  clear h; intro t3 h
  refine r_iload_n hX dX12_areOneApart_11 rfl 3 rfl ?_
  refine r_aI hX dX12_areOneApart_12 h ?_
  clear h; intro t4 h
  refine r_istore (L2 := [(4, .int t4), (3, .int t2), (0, kr E l0), (1, .int l1), (2, .int l2)]) hX dX12_areOneApart_13 (by decide) rfl ?_
  refine r_iconst hX dX12_areOneApart_15 kk_i_0 ?_
  refine r_istore (L2 := [(5, .int (0 : Int32)), (4, .int t4), (3, .int t2), (0, kr E l0), (1, .int l1), (2, .int l2)]) hX dX12_areOneApart_16 (by decide) rfl ?_
  refine r_iconst hX dX12_areOneApart_18 kk_i_0 ?_
  refine r_istore (L2 := [(6, .int (0 : Int32)), (5, .int (0 : Int32)), (4, .int t4), (3, .int t2), (0, kr E l0), (1, .int l1), (2, .int l2)]) hX dX12_areOneApart_19 (by decide) rfl ?_
  refine r_sub [4, 3, 2, 1, 0] rfl ?_
  exact wX12_areOneApart_21 hX _ _ _ _ _ _ h
def X12_findSteps_37 (G : kdS) (k2 : Nat → Int32 → Int32 → Int32 → kdM → Option (Unit × kdM)) (l0 : Nat) (l1 : Int32) (l2 : Int32) (l3 : Int32) (s0 : Nat) (s1 : Int32) (s2 : Int32) : kdM → Option (Unit × kdM) :=
  tI G s0 (s1) (s2) <|
  ltI (l3 + Int32.ofInt 1) fun t1 =>
  k2 l0 l1 l2 t1
set_option maxRecDepth 100000 in
set_option maxHeartbeats 4000000 in
theorem wX12_findSteps_37 {E : kdE} {G : kdS} {A : kdA} {r : Unit} {σ1 : kdM} (hX : kdX E A cX12_findSteps 7 RX12 none 1) (k2 : Nat → Int32 → Int32 → Int32 → kdM → Option (Unit × kdM)) (hk2 : ∀ (l0 : Nat) (l1 : Int32) (l2 : Int32) (l3 : Int32) (σ : kdM), k2 l0 l1 l2 l3 σ = some (r, σ1) → SW E G (.inl (none, σ1)) A 7 σ 2 [(0, kr E l0), (1, .int l1), (2, .int l2), (3, .int l3)] []) {σ : kdM} {l0 : Nat} {l1 : Int32} {l2 : Int32} {l3 : Int32} {s0 : Nat} {s1 : Int32} {s2 : Int32} (h : X12_findSteps_37 G k2 l0 l1 l2 l3 s0 s1 s2 σ = some (r, σ1)) : SW E G (.inl (none, σ1)) A 7 σ 37 [(0, kr E l0), (1, .int l1), (2, .int l2), (3, .int l3)] [.int s2, .int s1, kr E s0] := by
  unfold X12_findSteps_37 at h
  refine r_tI hX dX12_findSteps_37 h ?_
  clear h; intro σ h
  refine r_iincL (L2 := fun t1 => [(3, .int t1), (0, kr E l0), (1, .int l1), (2, .int l2)]) hX dX12_findSteps_38 h 3 rfl (by decide) (fun _ => rfl) ?_
  clear h; intro t1 h
  refine r_goto (tgt := 2) hX dX12_findSteps_41 (by decide) ?_
  refine r_sub [1, 2, 3, 0] rfl ?_
  exact hk2 _ _ _ _ _ h
def X12_findSteps_34 (G : kdS) (k2 : Nat → Int32 → Int32 → Int32 → kdM → Option (Unit × kdM)) (l0 : Nat) (l1 : Int32) (l2 : Int32) (l3 : Int32) (s0 : Nat) (s1 : Int32) : kdM → Option (Unit × kdM) :=
  X12_findSteps_37 G k2 l0 l1 l2 l3 s0 s1 (1000000000 : Int32)
set_option maxRecDepth 100000 in
set_option maxHeartbeats 4000000 in
theorem wX12_findSteps_34 {E : kdE} {G : kdS} {A : kdA} {r : Unit} {σ1 : kdM} (hX : kdX E A cX12_findSteps 7 RX12 none 1) (k2 : Nat → Int32 → Int32 → Int32 → kdM → Option (Unit × kdM)) (hk2 : ∀ (l0 : Nat) (l1 : Int32) (l2 : Int32) (l3 : Int32) (σ : kdM), k2 l0 l1 l2 l3 σ = some (r, σ1) → SW E G (.inl (none, σ1)) A 7 σ 2 [(0, kr E l0), (1, .int l1), (2, .int l2), (3, .int l3)] []) {σ : kdM} {l0 : Nat} {l1 : Int32} {l2 : Int32} {l3 : Int32} {s0 : Nat} {s1 : Int32} (h : X12_findSteps_34 G k2 l0 l1 l2 l3 s0 s1 σ = some (r, σ1)) : SW E G (.inl (none, σ1)) A 7 σ 34 [(0, kr E l0), (1, .int l1), (2, .int l2), (3, .int l3)] [.int s1, kr E s0] := by
  unfold X12_findSteps_34 at h
  refine r_ldc_w hX dX12_findSteps_34 w_ct_X12_265 ?_
  refine r_sub [0, 1, 2, 3] rfl ?_
  exact wX12_findSteps_37 hX k2 hk2 h
def X12_findSteps_145 (G : kdS) (k49 : Nat → Int32 → Int32 → Int32 → kdM → Option (Unit × kdM)) (k58 : Nat → Int32 → Int32 → Int32 → Int32 → kdM → Option (Unit × kdM)) (l0 : Nat) (l2 : Int32) (l3 : Int32) (l4 : Int32) (l5 : Int32) : kdM → Option (Unit × kdM) :=
  ltI (l5 + Int32.ofInt 1) fun t1 =>
  k58 l0 l2 l3 l4 t1
set_option maxRecDepth 100000 in
set_option maxHeartbeats 4000000 in
theorem wX12_findSteps_145 {E : kdE} {G : kdS} {A : kdA} {r : Unit} {σ1 : kdM} (hX : kdX E A cX12_findSteps 7 RX12 none 1) (k49 : Nat → Int32 → Int32 → Int32 → kdM → Option (Unit × kdM)) (k58 : Nat → Int32 → Int32 → Int32 → Int32 → kdM → Option (Unit × kdM)) (hk49 : ∀ (l0 : Nat) (l2 : Int32) (l3 : Int32) (l4 : Int32) (σ : kdM), k49 l0 l2 l3 l4 σ = some (r, σ1) → SW E G (.inl (none, σ1)) A 7 σ 49 [(0, kr E l0), (2, .int l2), (3, .int l3), (4, .int l4)] []) (hk58 : ∀ (l0 : Nat) (l2 : Int32) (l3 : Int32) (l4 : Int32) (l5 : Int32) (σ : kdM), k58 l0 l2 l3 l4 l5 σ = some (r, σ1) → SW E G (.inl (none, σ1)) A 7 σ 58 [(0, kr E l0), (2, .int l2), (3, .int l3), (4, .int l4), (5, .int l5)] []) {σ : kdM} {l0 : Nat} {l2 : Int32} {l3 : Int32} {l4 : Int32} {l5 : Int32} (h : X12_findSteps_145 G k49 k58 l0 l2 l3 l4 l5 σ = some (r, σ1)) : SW E G (.inl (none, σ1)) A 7 σ 145 [(0, kr E l0), (2, .int l2), (3, .int l3), (4, .int l4), (5, .int l5)] [] := by
  unfold X12_findSteps_145 at h
  refine r_iincL (L2 := fun t1 => [(5, .int t1), (0, kr E l0), (2, .int l2), (3, .int l3), (4, .int l4)]) hX dX12_findSteps_145 h 4 rfl (by decide) (fun _ => rfl) ?_
  clear h; intro t1 h
  refine r_goto (tgt := 58) hX dX12_findSteps_148 (by decide) ?_
  refine r_sub [1, 2, 3, 4, 0] rfl ?_
  exact hk58 _ _ _ _ _ _ h
def X12_findSteps_139 (G : kdS) (k49 : Nat → Int32 → Int32 → Int32 → kdM → Option (Unit × kdM)) (k58 : Nat → Int32 → Int32 → Int32 → Int32 → kdM → Option (Unit × kdM)) (k70 : Nat → Int32 → Int32 → Int32 → Int32 → Int32 → kdM → Option (Unit × kdM)) (l0 : Nat) (l2 : Int32) (l3 : Int32) (l4 : Int32) (l5 : Int32) (l6 : Int32) : kdM → Option (Unit × kdM) :=
  ltI (l6 + Int32.ofInt 1) fun t1 =>
  k70 l0 l2 l3 l4 l5 t1
set_option maxRecDepth 100000 in
set_option maxHeartbeats 4000000 in
theorem wX12_findSteps_139 {E : kdE} {G : kdS} {A : kdA} {r : Unit} {σ1 : kdM} (hX : kdX E A cX12_findSteps 7 RX12 none 1) (k49 : Nat → Int32 → Int32 → Int32 → kdM → Option (Unit × kdM)) (k58 : Nat → Int32 → Int32 → Int32 → Int32 → kdM → Option (Unit × kdM)) (k70 : Nat → Int32 → Int32 → Int32 → Int32 → Int32 → kdM → Option (Unit × kdM)) (hk49 : ∀ (l0 : Nat) (l2 : Int32) (l3 : Int32) (l4 : Int32) (σ : kdM), k49 l0 l2 l3 l4 σ = some (r, σ1) → SW E G (.inl (none, σ1)) A 7 σ 49 [(0, kr E l0), (2, .int l2), (3, .int l3), (4, .int l4)] []) (hk58 : ∀ (l0 : Nat) (l2 : Int32) (l3 : Int32) (l4 : Int32) (l5 : Int32) (σ : kdM), k58 l0 l2 l3 l4 l5 σ = some (r, σ1) → SW E G (.inl (none, σ1)) A 7 σ 58 [(0, kr E l0), (2, .int l2), (3, .int l3), (4, .int l4), (5, .int l5)] []) (hk70 : ∀ (l0 : Nat) (l2 : Int32) (l3 : Int32) (l4 : Int32) (l5 : Int32) (l6 : Int32) (σ : kdM), k70 l0 l2 l3 l4 l5 l6 σ = some (r, σ1) → SW E G (.inl (none, σ1)) A 7 σ 70 [(0, kr E l0), (2, .int l2), (3, .int l3), (4, .int l4), (5, .int l5), (6, .int l6)] []) {σ : kdM} {l0 : Nat} {l2 : Int32} {l3 : Int32} {l4 : Int32} {l5 : Int32} {l6 : Int32} (h : X12_findSteps_139 G k49 k58 k70 l0 l2 l3 l4 l5 l6 σ = some (r, σ1)) : SW E G (.inl (none, σ1)) A 7 σ 139 [(0, kr E l0), (2, .int l2), (3, .int l3), (4, .int l4), (5, .int l5), (6, .int l6)] [] := by
  unfold X12_findSteps_139 at h
  refine r_iincL (L2 := fun t1 => [(6, .int t1), (0, kr E l0), (2, .int l2), (3, .int l3), (4, .int l4), (5, .int l5)]) hX dX12_findSteps_139 h 5 rfl (by decide) (fun _ => rfl) ?_
  clear h; intro t1 h
  refine r_goto (tgt := 70) hX dX12_findSteps_142 (by decide) ?_
  refine r_sub [1, 2, 3, 4, 5, 0] rfl ?_
  exact hk70 _ _ _ _ _ _ _ h
def X12_findSteps_70B (G : kdS) (k49 : Nat → Int32 → Int32 → Int32 → kdM → Option (Unit × kdM)) (k58 : Nat → Int32 → Int32 → Int32 → Int32 → kdM → Option (Unit × kdM)) (k70 : Nat → Int32 → Int32 → Int32 → Int32 → Int32 → kdM → Option (Unit × kdM)) (l0 : Nat) (l2 : Int32) (l3 : Int32) (l4 : Int32) (l5 : Int32) (l6 : Int32) : kdM → Option (Unit × kdM) :=
  gI G 12 65 l0 fun t1 =>
  cnd (t1 ≤ l6)
    (X12_findSteps_145 G k49 k58 l0 l2 l3 l4 l5)
    (gR G 12 64 l0 fun t2 =>
    aI G t2 (l5) fun t3 =>
    cnd (t3 = l4)
      (gR G 12 64 l0 fun t4 =>
      aI G t4 (l6) fun t5 =>
      cnd (t5 = (1000000000 : Int32))
        (gR G 12 63 l0 fun t6 =>
        aI G t6 (l6) fun t7 =>
        cnd (l2 < t7)
          (X12_findSteps_139 G k49 k58 k70 l0 l2 l3 l4 l5 l6)
          (kcv G 12 l0 (X12_areOneApart G l0 l5 l6) fun t8 =>
          cnd (t8 = 0)
            (X12_findSteps_139 G k49 k58 k70 l0 l2 l3 l4 l5 l6)
            (gR G 12 64 l0 fun t9 =>
            tI G t9 (l6) ((l4 + (1 : Int32))) <|
            X12_findSteps_139 G k49 k58 k70 l0 l2 (1 : Int32) l4 l5 l6)))
        (X12_findSteps_139 G k49 k58 k70 l0 l2 l3 l4 l5 l6))
      (X12_findSteps_145 G k49 k58 l0 l2 l3 l4 l5))
set_option maxRecDepth 100000 in
set_option maxHeartbeats 4000000 in
theorem wX12_findSteps_70B {E : kdE} {G : kdS} {A : kdA} {r : Unit} {σ1 : kdM} (hX : kdX E A cX12_findSteps 7 RX12 none 1) (k49 : Nat → Int32 → Int32 → Int32 → kdM → Option (Unit × kdM)) (k58 : Nat → Int32 → Int32 → Int32 → Int32 → kdM → Option (Unit × kdM)) (k70 : Nat → Int32 → Int32 → Int32 → Int32 → Int32 → kdM → Option (Unit × kdM)) (hk49 : ∀ (l0 : Nat) (l2 : Int32) (l3 : Int32) (l4 : Int32) (σ : kdM), k49 l0 l2 l3 l4 σ = some (r, σ1) → SW E G (.inl (none, σ1)) A 7 σ 49 [(0, kr E l0), (2, .int l2), (3, .int l3), (4, .int l4)] []) (hk58 : ∀ (l0 : Nat) (l2 : Int32) (l3 : Int32) (l4 : Int32) (l5 : Int32) (σ : kdM), k58 l0 l2 l3 l4 l5 σ = some (r, σ1) → SW E G (.inl (none, σ1)) A 7 σ 58 [(0, kr E l0), (2, .int l2), (3, .int l3), (4, .int l4), (5, .int l5)] []) (hk70 : ∀ (l0 : Nat) (l2 : Int32) (l3 : Int32) (l4 : Int32) (l5 : Int32) (l6 : Int32) (σ : kdM), k70 l0 l2 l3 l4 l5 l6 σ = some (r, σ1) → SW E G (.inl (none, σ1)) A 7 σ 70 [(0, kr E l0), (2, .int l2), (3, .int l3), (4, .int l4), (5, .int l5), (6, .int l6)] []) {σ : kdM} {l0 : Nat} {l2 : Int32} {l3 : Int32} {l4 : Int32} {l5 : Int32} {l6 : Int32} (h : X12_findSteps_70B G k49 k58 k70 l0 l2 l3 l4 l5 l6 σ = some (r, σ1)) : SW E G (.inl (none, σ1)) A 7 σ 70 [(0, kr E l0), (2, .int l2), (3, .int l3), (4, .int l4), (5, .int l5), (6, .int l6)] [] := by
  unfold X12_findSteps_70B at h
  refine r_iload hX dX12_findSteps_70 5 rfl ?_
  refine r_aload_n hX dX12_findSteps_72 rfl 0 rfl ?_
  refine r_gI hX dX12_findSteps_73 kf_X12_408 rfl h ?_
  clear h; intro t1 h
  refine r_icmp_ge (tgt := 145) hX dX12_findSteps_76 (by decide) h ?_ ?_
  · clear h; intro h
    refine r_sub [0, 1, 2, 3, 4] rfl ?_
    exact wX12_findSteps_145 hX k49 k58 hk49 hk58 h
  · clear h; intro h
    refine r_aload_n hX dX12_findSteps_79 rfl 0 rfl ?_
    refine r_gR hX dX12_findSteps_80 kf_X12_169 rfl h ?_
    clear h; intro t2 h
    refine r_iload hX dX12_findSteps_83 4 rfl ?_
    refine r_aI hX dX12_findSteps_85 h ?_
    clear h; intro t3 h
    refine r_iload hX dX12_findSteps_86 3 rfl ?_
    refine r_icmp_ne (tgt := 145) hX dX12_findSteps_88 (by decide) h ?_ ?_
    · clear h; intro h
      refine r_aload_n hX dX12_findSteps_91 rfl 0 rfl ?_
      refine r_gR hX dX12_findSteps_92 kf_X12_169 rfl h ?_
      clear h; intro t4 h
      refine r_iload hX dX12_findSteps_95 5 rfl ?_
      refine r_aI hX dX12_findSteps_97 h ?_
      clear h; intro t5 h
      refine r_ldc_w hX dX12_findSteps_98 w_ct_X12_265 ?_
      refine r_icmp_ne (tgt := 139) hX dX12_findSteps_101 (by decide) h ?_ ?_
      · clear h; intro h
        refine r_aload_n hX dX12_findSteps_104 rfl 0 rfl ?_
        refine r_gR hX dX12_findSteps_105 kf_X12_166 rfl h ?_
        clear h; intro t6 h
        refine r_iload hX dX12_findSteps_108 5 rfl ?_
        refine r_aI hX dX12_findSteps_110 h ?_
        clear h; intro t7 h
        refine r_iload_n hX dX12_findSteps_111 rfl 1 rfl ?_
        refine r_icmp_gt (tgt := 139) hX dX12_findSteps_112 (by decide) h ?_ ?_
        · clear h; intro h
          refine r_sub [0, 1, 2, 3, 4, 5] rfl ?_
          exact wX12_findSteps_139 hX k49 k58 k70 hk49 hk58 hk70 h
        · clear h; intro h
          refine r_aload_n hX dX12_findSteps_115 rfl 0 rfl ?_
          refine r_iload hX dX12_findSteps_116 4 rfl ?_
          refine r_iload hX dX12_findSteps_118 5 rfl ?_
          refine r_cVi (As := [.int l5, .int l6]) (st := []) hX dX12_findSteps_120 kl_X12_areOneApart w_ml_X12_411 w_im_X12_areOneApart w_se_X12_areOneApart ⟨_, _, rfl⟩ (by decide) rfl (Nat.le_of_ble_eq_true rfl) rfl kdz0 h (fun r σ1 h => wX12_areOneApart h) ?_
          clear h; intro t8 σ h
          refine r_if_eq (tgt := 139) hX dX12_findSteps_123 (by decide) h ?_ ?_
          · clear h; intro h
            refine r_sub [0, 1, 2, 3, 4, 5] rfl ?_
            exact wX12_findSteps_139 hX k49 k58 k70 hk49 hk58 hk70 h
          · clear h; intro h
            refine r_aload_n hX dX12_findSteps_126 rfl 0 rfl ?_
            refine r_gR hX dX12_findSteps_127 kf_X12_169 rfl h ?_
            clear h; intro t9 h
            refine r_iload hX dX12_findSteps_130 5 rfl ?_
            refine r_iload hX dX12_findSteps_132 3 rfl ?_
            refine r_iconst hX dX12_findSteps_134 kk_i_1 ?_
            refine r_iadd hX dX12_findSteps_135 ?_
            refine r_tI hX dX12_findSteps_136 h ?_
            clear h; intro σ h
            refine r_iconst hX dX12_findSteps_137 kk_i_1 ?_
            refine r_istore_n (L2 := [(3, .int (1 : Int32)), (0, kr E l0), (2, .int l2), (4, .int l4), (5, .int l5), (6, .int l6)]) hX dX12_findSteps_138 rfl (by decide) rfl ?_
            refine r_sub [1, 2, 0, 3, 4, 5] rfl ?_
            exact wX12_findSteps_139 hX k49 k58 k70 hk49 hk58 hk70 h
      · clear h; intro h
        refine r_sub [0, 1, 2, 3, 4, 5] rfl ?_
        exact wX12_findSteps_139 hX k49 k58 k70 hk49 hk58 hk70 h
    · clear h; intro h
      refine r_sub [0, 1, 2, 3, 4] rfl ?_
      exact wX12_findSteps_145 hX k49 k58 hk49 hk58 h
def X12_findSteps_70 (G : kdS) (k49 : Nat → Int32 → Int32 → Int32 → kdM → Option (Unit × kdM)) (k58 : Nat → Int32 → Int32 → Int32 → Int32 → kdM → Option (Unit × kdM)) : Nat → Int32 → Int32 → Int32 → Int32 → Int32 → kdM → Option (Unit × kdM) := lp (fun _ _ _ _ _ _ _ => none) (X12_findSteps_70B G k49 k58) NN
theorem wX12_findSteps_70 {E : kdE} {G : kdS} {A : kdA} {r : Unit} {σ1 : kdM} (hX : kdX E A cX12_findSteps 7 RX12 none 1) (k49 : Nat → Int32 → Int32 → Int32 → kdM → Option (Unit × kdM)) (k58 : Nat → Int32 → Int32 → Int32 → Int32 → kdM → Option (Unit × kdM)) (hk49 : ∀ (l0 : Nat) (l2 : Int32) (l3 : Int32) (l4 : Int32) (σ : kdM), k49 l0 l2 l3 l4 σ = some (r, σ1) → SW E G (.inl (none, σ1)) A 7 σ 49 [(0, kr E l0), (2, .int l2), (3, .int l3), (4, .int l4)] []) (hk58 : ∀ (l0 : Nat) (l2 : Int32) (l3 : Int32) (l4 : Int32) (l5 : Int32) (σ : kdM), k58 l0 l2 l3 l4 l5 σ = some (r, σ1) → SW E G (.inl (none, σ1)) A 7 σ 58 [(0, kr E l0), (2, .int l2), (3, .int l3), (4, .int l4), (5, .int l5)] []) : ∀ (l0 : Nat) (l2 : Int32) (l3 : Int32) (l4 : Int32) (l5 : Int32) (l6 : Int32) (σ : kdM), X12_findSteps_70 G k49 k58 l0 l2 l3 l4 l5 l6 σ = some (r, σ1) → SW E G (.inl (none, σ1)) A 7 σ 70 [(0, kr E l0), (2, .int l2), (3, .int l3), (4, .int l4), (5, .int l5), (6, .int l6)] [] :=
  lp_ind (Q := fun f => ∀ (l0 : Nat) (l2 : Int32) (l3 : Int32) (l4 : Int32) (l5 : Int32) (l6 : Int32) (σ : kdM), f l0 l2 l3 l4 l5 l6 σ = some (r, σ1) → SW E G (.inl (none, σ1)) A 7 σ 70 [(0, kr E l0), (2, .int l2), (3, .int l3), (4, .int l4), (5, .int l5), (6, .int l6)] []) (by intros; contradiction) (fun k hk l0 l2 l3 l4 l5 l6 σ h => wX12_findSteps_70B hX k49 k58 k hk49 hk58 hk h) NN
def X12_findSteps_58B (G : kdS) (k49 : Nat → Int32 → Int32 → Int32 → kdM → Option (Unit × kdM)) (k58 : Nat → Int32 → Int32 → Int32 → Int32 → kdM → Option (Unit × kdM)) (l0 : Nat) (l2 : Int32) (l3 : Int32) (l4 : Int32) (l5 : Int32) : kdM → Option (Unit × kdM) :=
  gI G 12 65 l0 fun t1 =>
  cnd (t1 ≤ l5)
    (ltI (l4 + Int32.ofInt 1) fun t2 =>
    k49 l0 l2 l3 t2)
    (X12_findSteps_70 G k49 k58 l0 l2 l3 l4 l5 (0 : Int32))
set_option maxRecDepth 100000 in
set_option maxHeartbeats 4000000 in
theorem wX12_findSteps_58B {E : kdE} {G : kdS} {A : kdA} {r : Unit} {σ1 : kdM} (hX : kdX E A cX12_findSteps 7 RX12 none 1) (k49 : Nat → Int32 → Int32 → Int32 → kdM → Option (Unit × kdM)) (k58 : Nat → Int32 → Int32 → Int32 → Int32 → kdM → Option (Unit × kdM)) (hk49 : ∀ (l0 : Nat) (l2 : Int32) (l3 : Int32) (l4 : Int32) (σ : kdM), k49 l0 l2 l3 l4 σ = some (r, σ1) → SW E G (.inl (none, σ1)) A 7 σ 49 [(0, kr E l0), (2, .int l2), (3, .int l3), (4, .int l4)] []) (hk58 : ∀ (l0 : Nat) (l2 : Int32) (l3 : Int32) (l4 : Int32) (l5 : Int32) (σ : kdM), k58 l0 l2 l3 l4 l5 σ = some (r, σ1) → SW E G (.inl (none, σ1)) A 7 σ 58 [(0, kr E l0), (2, .int l2), (3, .int l3), (4, .int l4), (5, .int l5)] []) {σ : kdM} {l0 : Nat} {l2 : Int32} {l3 : Int32} {l4 : Int32} {l5 : Int32} (h : X12_findSteps_58B G k49 k58 l0 l2 l3 l4 l5 σ = some (r, σ1)) : SW E G (.inl (none, σ1)) A 7 σ 58 [(0, kr E l0), (2, .int l2), (3, .int l3), (4, .int l4), (5, .int l5)] [] := by
  unfold X12_findSteps_58B at h
  refine r_iload hX dX12_findSteps_58 4 rfl ?_
  refine r_aload_n hX dX12_findSteps_60 rfl 0 rfl ?_
  refine r_gI hX dX12_findSteps_61 kf_X12_408 rfl h ?_
  clear h; intro t1 h
  refine r_icmp_ge (tgt := 151) hX dX12_findSteps_64 (by decide) h ?_ ?_
  · clear h; intro h
    refine r_iincL (L2 := fun t2 => [(4, .int t2), (0, kr E l0), (2, .int l2), (3, .int l3), (5, .int l5)]) hX dX12_findSteps_151 h 3 rfl (by decide) (fun _ => rfl) ?_
    clear h; intro t2 h
    refine r_goto (tgt := 49) hX dX12_findSteps_154 (by decide) ?_
    refine r_sub [1, 2, 3, 0] rfl ?_
    exact hk49 _ _ _ _ _ h
  · clear h; intro h
    refine r_iconst hX dX12_findSteps_67 kk_i_0 ?_
    refine r_istore (L2 := [(6, .int (0 : Int32)), (0, kr E l0), (2, .int l2), (3, .int l3), (4, .int l4), (5, .int l5)]) hX dX12_findSteps_68 (by decide) rfl ?_
    refine r_sub [1, 2, 3, 4, 5, 0] rfl ?_
    exact wX12_findSteps_70 hX k49 k58 hk49 hk58 _ _ _ _ _ _ _ h
def X12_findSteps_58 (G : kdS) (k49 : Nat → Int32 → Int32 → Int32 → kdM → Option (Unit × kdM)) : Nat → Int32 → Int32 → Int32 → Int32 → kdM → Option (Unit × kdM) := lp (fun _ _ _ _ _ _ => none) (X12_findSteps_58B G k49) NN
theorem wX12_findSteps_58 {E : kdE} {G : kdS} {A : kdA} {r : Unit} {σ1 : kdM} (hX : kdX E A cX12_findSteps 7 RX12 none 1) (k49 : Nat → Int32 → Int32 → Int32 → kdM → Option (Unit × kdM)) (hk49 : ∀ (l0 : Nat) (l2 : Int32) (l3 : Int32) (l4 : Int32) (σ : kdM), k49 l0 l2 l3 l4 σ = some (r, σ1) → SW E G (.inl (none, σ1)) A 7 σ 49 [(0, kr E l0), (2, .int l2), (3, .int l3), (4, .int l4)] []) : ∀ (l0 : Nat) (l2 : Int32) (l3 : Int32) (l4 : Int32) (l5 : Int32) (σ : kdM), X12_findSteps_58 G k49 l0 l2 l3 l4 l5 σ = some (r, σ1) → SW E G (.inl (none, σ1)) A 7 σ 58 [(0, kr E l0), (2, .int l2), (3, .int l3), (4, .int l4), (5, .int l5)] [] :=
  lp_ind (Q := fun f => ∀ (l0 : Nat) (l2 : Int32) (l3 : Int32) (l4 : Int32) (l5 : Int32) (σ : kdM), f l0 l2 l3 l4 l5 σ = some (r, σ1) → SW E G (.inl (none, σ1)) A 7 σ 58 [(0, kr E l0), (2, .int l2), (3, .int l3), (4, .int l4), (5, .int l5)] []) (by intros; contradiction) (fun k hk l0 l2 l3 l4 l5 σ h => wX12_findSteps_58B hX k49 k hk49 hk h) NN
def X12_findSteps_49B (G : kdS) (k49 : Nat → Int32 → Int32 → Int32 → kdM → Option (Unit × kdM)) (l0 : Nat) (l2 : Int32) (l3 : Int32) (l4 : Int32) : kdM → Option (Unit × kdM) :=
  cnd (l3 = 0)
    (rt ())
    (X12_findSteps_58 G k49 l0 l2 (0 : Int32) l4 (0 : Int32))
set_option maxRecDepth 100000 in
set_option maxHeartbeats 4000000 in
theorem wX12_findSteps_49B {E : kdE} {G : kdS} {A : kdA} {r : Unit} {σ1 : kdM} (hX : kdX E A cX12_findSteps 7 RX12 none 1) (k49 : Nat → Int32 → Int32 → Int32 → kdM → Option (Unit × kdM)) (hk49 : ∀ (l0 : Nat) (l2 : Int32) (l3 : Int32) (l4 : Int32) (σ : kdM), k49 l0 l2 l3 l4 σ = some (r, σ1) → SW E G (.inl (none, σ1)) A 7 σ 49 [(0, kr E l0), (2, .int l2), (3, .int l3), (4, .int l4)] []) {σ : kdM} {l0 : Nat} {l2 : Int32} {l3 : Int32} {l4 : Int32} (h : X12_findSteps_49B G k49 l0 l2 l3 l4 σ = some (r, σ1)) : SW E G (.inl (none, σ1)) A 7 σ 49 [(0, kr E l0), (2, .int l2), (3, .int l3), (4, .int l4)] [] := by
  unfold X12_findSteps_49B at h
  refine r_iload_n hX dX12_findSteps_49 rfl 2 rfl ?_
  refine r_if_eq (tgt := 157) hX dX12_findSteps_50 (by decide) h ?_ ?_
  · clear h; intro h
    exact r_vret hX dX12_findSteps_157 h
  · clear h; intro h
    refine r_iconst hX dX12_findSteps_53 kk_i_0 ?_
    refine r_istore_n (L2 := [(3, .int (0 : Int32)), (0, kr E l0), (2, .int l2), (4, .int l4)]) hX dX12_findSteps_54 rfl (by decide) rfl ?_
    refine r_iconst hX dX12_findSteps_55 kk_i_0 ?_
    refine r_istore (L2 := [(5, .int (0 : Int32)), (3, .int (0 : Int32)), (0, kr E l0), (2, .int l2), (4, .int l4)]) hX dX12_findSteps_56 (by decide) rfl ?_
    refine r_sub [2, 3, 1, 4, 0] rfl ?_
    exact wX12_findSteps_58 hX k49 hk49 _ _ _ _ _ _ h
def X12_findSteps_49 (G : kdS) : Nat → Int32 → Int32 → Int32 → kdM → Option (Unit × kdM) := lp (fun _ _ _ _ _ => none) (X12_findSteps_49B G) NN
theorem wX12_findSteps_49 {E : kdE} {G : kdS} {A : kdA} {r : Unit} {σ1 : kdM} (hX : kdX E A cX12_findSteps 7 RX12 none 1) : ∀ (l0 : Nat) (l2 : Int32) (l3 : Int32) (l4 : Int32) (σ : kdM), X12_findSteps_49 G l0 l2 l3 l4 σ = some (r, σ1) → SW E G (.inl (none, σ1)) A 7 σ 49 [(0, kr E l0), (2, .int l2), (3, .int l3), (4, .int l4)] [] :=
  lp_ind (Q := fun f => ∀ (l0 : Nat) (l2 : Int32) (l3 : Int32) (l4 : Int32) (σ : kdM), f l0 l2 l3 l4 σ = some (r, σ1) → SW E G (.inl (none, σ1)) A 7 σ 49 [(0, kr E l0), (2, .int l2), (3, .int l3), (4, .int l4)] []) (by intros; contradiction) (fun k hk l0 l2 l3 l4 σ h => wX12_findSteps_49B hX k hk h) NN
def X12_findSteps_2B (G : kdS) (k2 : Nat → Int32 → Int32 → Int32 → kdM → Option (Unit × kdM)) (l0 : Nat) (l1 : Int32) (l2 : Int32) (l3 : Int32) : kdM → Option (Unit × kdM) :=
  gI G 12 65 l0 fun t1 =>
  cnd (t1 ≤ l3)
    (X12_findSteps_49 G l0 l2 (1 : Int32) (0 : Int32))
    (gR G 12 64 l0 fun t2 =>
    cnd (l3 = l1)
      (gR G 12 63 l0 fun t3 =>
      aI G t3 (l3) fun t4 =>
      cnd (l2 < t4)
        (X12_findSteps_34 G k2 l0 l1 l2 l3 t2 l3)
        (X12_findSteps_37 G k2 l0 l1 l2 l3 t2 l3 (0 : Int32)))
      (X12_findSteps_34 G k2 l0 l1 l2 l3 t2 l3))
set_option maxRecDepth 100000 in
set_option maxHeartbeats 4000000 in
theorem wX12_findSteps_2B {E : kdE} {G : kdS} {A : kdA} {r : Unit} {σ1 : kdM} (hX : kdX E A cX12_findSteps 7 RX12 none 1) (k2 : Nat → Int32 → Int32 → Int32 → kdM → Option (Unit × kdM)) (hk2 : ∀ (l0 : Nat) (l1 : Int32) (l2 : Int32) (l3 : Int32) (σ : kdM), k2 l0 l1 l2 l3 σ = some (r, σ1) → SW E G (.inl (none, σ1)) A 7 σ 2 [(0, kr E l0), (1, .int l1), (2, .int l2), (3, .int l3)] []) {σ : kdM} {l0 : Nat} {l1 : Int32} {l2 : Int32} {l3 : Int32} (h : X12_findSteps_2B G k2 l0 l1 l2 l3 σ = some (r, σ1)) : SW E G (.inl (none, σ1)) A 7 σ 2 [(0, kr E l0), (1, .int l1), (2, .int l2), (3, .int l3)] [] := by
  unfold X12_findSteps_2B at h
  refine r_iload_n hX dX12_findSteps_2 rfl 3 rfl ?_
  refine r_aload_n hX dX12_findSteps_3 rfl 0 rfl ?_
  refine r_gI hX dX12_findSteps_4 kf_X12_408 rfl h ?_
  clear h; intro t1 h
  refine r_icmp_ge (tgt := 44) hX dX12_findSteps_7 (by decide) h ?_ ?_
  · clear h; intro h
    refine r_iconst hX dX12_findSteps_44 kk_i_1 ?_
    refine r_istore_n (L2 := [(3, .int (1 : Int32)), (0, kr E l0), (1, .int l1), (2, .int l2)]) hX dX12_findSteps_45 rfl (by decide) rfl ?_
    refine r_iconst hX dX12_findSteps_46 kk_i_0 ?_
    refine r_istore (L2 := [(4, .int (0 : Int32)), (3, .int (1 : Int32)), (0, kr E l0), (1, .int l1), (2, .int l2)]) hX dX12_findSteps_47 (by decide) rfl ?_
    refine r_sub [2, 4, 1, 0] rfl ?_
    exact wX12_findSteps_49 hX _ _ _ _ _ h
  · clear h; intro h
    refine r_aload_n hX dX12_findSteps_10 rfl 0 rfl ?_
    refine r_gR hX dX12_findSteps_11 kf_X12_169 rfl h ?_
    clear h; intro t2 h
    refine r_iload_n hX dX12_findSteps_14 rfl 3 rfl ?_
    refine r_iload_n hX dX12_findSteps_15 rfl 3 rfl ?_
    refine r_iload_n hX dX12_findSteps_16 rfl 1 rfl ?_
    refine r_icmp_ne (tgt := 34) hX dX12_findSteps_17 (by decide) h ?_ ?_
    · clear h; intro h
      refine r_aload_n hX dX12_findSteps_20 rfl 0 rfl ?_
      refine r_gR hX dX12_findSteps_21 kf_X12_166 rfl h ?_
      clear h; intro t3 h
      refine r_iload_n hX dX12_findSteps_24 rfl 3 rfl ?_
      refine r_aI hX dX12_findSteps_25 h ?_
      clear h; intro t4 h
      refine r_iload_n hX dX12_findSteps_26 rfl 2 rfl ?_
      refine r_icmp_gt (tgt := 34) hX dX12_findSteps_27 (by decide) h ?_ ?_
      · clear h; intro h
        refine r_sub [0, 1, 2, 3] rfl ?_
        exact wX12_findSteps_34 hX k2 hk2 h
      · clear h; intro h
        refine r_iconst hX dX12_findSteps_30 kk_i_0 ?_
        refine r_goto (tgt := 37) hX dX12_findSteps_31 (by decide) ?_
        refine r_sub [0, 1, 2, 3] rfl ?_
        exact wX12_findSteps_37 hX k2 hk2 h
    · clear h; intro h
      refine r_sub [0, 1, 2, 3] rfl ?_
      exact wX12_findSteps_34 hX k2 hk2 h
def X12_findSteps_2 (G : kdS) : Nat → Int32 → Int32 → Int32 → kdM → Option (Unit × kdM) := lp (fun _ _ _ _ _ => none) (X12_findSteps_2B G) NN
theorem wX12_findSteps_2 {E : kdE} {G : kdS} {A : kdA} {r : Unit} {σ1 : kdM} (hX : kdX E A cX12_findSteps 7 RX12 none 1) : ∀ (l0 : Nat) (l1 : Int32) (l2 : Int32) (l3 : Int32) (σ : kdM), X12_findSteps_2 G l0 l1 l2 l3 σ = some (r, σ1) → SW E G (.inl (none, σ1)) A 7 σ 2 [(0, kr E l0), (1, .int l1), (2, .int l2), (3, .int l3)] [] :=
  lp_ind (Q := fun f => ∀ (l0 : Nat) (l1 : Int32) (l2 : Int32) (l3 : Int32) (σ : kdM), f l0 l1 l2 l3 σ = some (r, σ1) → SW E G (.inl (none, σ1)) A 7 σ 2 [(0, kr E l0), (1, .int l1), (2, .int l2), (3, .int l3)] []) (by intros; contradiction) (fun k hk l0 l1 l2 l3 σ h => wX12_findSteps_2B hX k hk h) NN
def X12_findSteps (G : kdS) (l0 : Nat) (l1 : Int32) (l2 : Int32) : kdM → Option (Unit × kdM) :=
  X12_findSteps_2 G l0 l1 l2 (0 : Int32)
set_option maxRecDepth 100000 in
set_option maxHeartbeats 4000000 in
theorem wX12_findSteps {E : kdE} {G : kdS} {l0 : Nat} {l1 : Int32} {l2 : Int32} {σ : kdM} {r : Unit} {σ1 : kdM} (h : X12_findSteps G l0 l1 l2 σ = some (r, σ1)) : Con E G yX12_findSteps cX12_findSteps 7 none 1 [kr E l0, .int l1, .int l2] σ (none, σ1) := by
  refine kd_head (own := RX12) rfl (by decide +kernel) (Nat.le_of_ble_eq_true rfl) (fun A hX => ?_)
  show SW E G (.inl (none, σ1)) A 7 σ 0 [(0, kr E l0), (1, .int l1), (2, .int l2)] []
  unfold X12_findSteps at h
  refine r_iconst hX dX12_findSteps_0 kk_i_0 ?_
  refine r_istore_n (L2 := [(3, .int (0 : Int32)), (0, kr E l0), (1, .int l1), (2, .int l2)]) hX dX12_findSteps_1 rfl (by decide) rfl ?_
  refine r_sub [1, 2, 3, 0] rfl ?_
  exact wX12_findSteps_2 hX _ _ _ _ _ h
def X12_indexOf_2B (G : kdS) (k2 : Nat → Int32 → Int32 → kdM → Option (Int32 × kdM)) (l0 : Nat) (l1 : Int32) (l2 : Int32) : kdM → Option (Int32 × kdM) :=
  gR G 12 62 l0 fun t1 =>
  aI G t1 (l2) fun t2 =>
  cnd (t2 = l1)
    (rt l2)
    (ltI (l2 + Int32.ofInt 1) fun t3 =>
    k2 l0 l1 t3)
set_option maxRecDepth 100000 in
set_option maxHeartbeats 4000000 in
theorem wX12_indexOf_2B {E : kdE} {G : kdS} {A : kdA} {r : Int32} {σ1 : kdM} (hX : kdX E A cX12_indexOf 3 RX12 (some .int) 0) (k2 : Nat → Int32 → Int32 → kdM → Option (Int32 × kdM)) (hk2 : ∀ (l0 : Nat) (l1 : Int32) (l2 : Int32) (σ : kdM), k2 l0 l1 l2 σ = some (r, σ1) → SW E G (.inl (some (.int r), σ1)) A 3 σ 2 [(0, kr E l0), (1, .int l1), (2, .int l2)] []) {σ : kdM} {l0 : Nat} {l1 : Int32} {l2 : Int32} (h : X12_indexOf_2B G k2 l0 l1 l2 σ = some (r, σ1)) : SW E G (.inl (some (.int r), σ1)) A 3 σ 2 [(0, kr E l0), (1, .int l1), (2, .int l2)] [] := by
  unfold X12_indexOf_2B at h
  refine r_aload_n hX dX12_indexOf_2 rfl 0 rfl ?_
  refine r_gR hX dX12_indexOf_3 kf_X12_163 rfl h ?_
  clear h; intro t1 h
  refine r_iload_n hX dX12_indexOf_6 rfl 2 rfl ?_
  refine r_aI hX dX12_indexOf_7 h ?_
  clear h; intro t2 h
  refine r_iload_n hX dX12_indexOf_8 rfl 1 rfl ?_
  refine r_icmp_eq (tgt := 18) hX dX12_indexOf_9 (by decide) h ?_ ?_
  · clear h; intro h
    refine r_iload_n hX dX12_indexOf_18 rfl 2 rfl ?_
    exact r_iret hX dX12_indexOf_19 h
  · clear h; intro h
    refine r_iincL (L2 := fun t3 => [(2, .int t3), (0, kr E l0), (1, .int l1)]) hX dX12_indexOf_12 h 2 rfl (by decide) (fun _ => rfl) ?_
    clear h; intro t3 h
    refine r_goto (tgt := 2) hX dX12_indexOf_15 (by decide) ?_
    refine r_sub [1, 2, 0] rfl ?_
    exact hk2 _ _ _ _ h
def X12_indexOf_2 (G : kdS) : Nat → Int32 → Int32 → kdM → Option (Int32 × kdM) := lp (fun _ _ _ _ => none) (X12_indexOf_2B G) NN
theorem wX12_indexOf_2 {E : kdE} {G : kdS} {A : kdA} {r : Int32} {σ1 : kdM} (hX : kdX E A cX12_indexOf 3 RX12 (some .int) 0) : ∀ (l0 : Nat) (l1 : Int32) (l2 : Int32) (σ : kdM), X12_indexOf_2 G l0 l1 l2 σ = some (r, σ1) → SW E G (.inl (some (.int r), σ1)) A 3 σ 2 [(0, kr E l0), (1, .int l1), (2, .int l2)] [] :=
  lp_ind (Q := fun f => ∀ (l0 : Nat) (l1 : Int32) (l2 : Int32) (σ : kdM), f l0 l1 l2 σ = some (r, σ1) → SW E G (.inl (some (.int r), σ1)) A 3 σ 2 [(0, kr E l0), (1, .int l1), (2, .int l2)] []) (by intros; contradiction) (fun k hk l0 l1 l2 σ h => wX12_indexOf_2B hX k hk h) NN
def X12_indexOf (G : kdS) (l0 : Nat) (l1 : Int32) : kdM → Option (Int32 × kdM) :=
  X12_indexOf_2 G l0 l1 (0 : Int32)
set_option maxRecDepth 100000 in
set_option maxHeartbeats 4000000 in
theorem wX12_indexOf {E : kdE} {G : kdS} {l0 : Nat} {l1 : Int32} {σ : kdM} {r : Int32} {σ1 : kdM} (h : X12_indexOf G l0 l1 σ = some (r, σ1)) : Con E G yX12_indexOf cX12_indexOf 3 (some .int) 0 [kr E l0, .int l1] σ (some (.int r), σ1) := by
  refine kd_head (own := RX12) rfl (by decide +kernel) (Nat.le_of_ble_eq_true rfl) (fun A hX => ?_)
  show SW E G (.inl (some (.int r), σ1)) A 3 σ 0 [(0, kr E l0), (1, .int l1)] []
  unfold X12_indexOf at h
  refine r_iconst hX dX12_indexOf_0 kk_i_0 ?_
  refine r_istore_n (L2 := [(2, .int (0 : Int32)), (0, kr E l0), (1, .int l1)]) hX dX12_indexOf_1 rfl (by decide) rfl ?_
  refine r_sub [1, 2, 0] rfl ?_
  exact wX12_indexOf_2 hX _ _ _ _ h
def X12_leastMost_101 (G : kdS) (k37 : Nat → Int32 → Int32 → Int32 → kdM → Option (Int32 × kdM)) (k57 : Nat → Int32 → Int32 → Int32 → Int32 → Int32 → kdM → Option (Int32 × kdM)) (l0 : Nat) (l1 : Int32) (l2 : Int32) (l3 : Int32) (l5 : Int32) (s0 : Int32) : kdM → Option (Int32 × kdM) :=
  ltI (l5 + Int32.ofInt 1) fun t1 =>
  k57 l0 l1 l2 l3 s0 t1
set_option maxRecDepth 100000 in
set_option maxHeartbeats 4000000 in
theorem wX12_leastMost_101 {E : kdE} {G : kdS} {A : kdA} {r : Int32} {σ1 : kdM} (hX : kdX E A cX12_leastMost 6 RX12 (some .int) 2) (k37 : Nat → Int32 → Int32 → Int32 → kdM → Option (Int32 × kdM)) (k57 : Nat → Int32 → Int32 → Int32 → Int32 → Int32 → kdM → Option (Int32 × kdM)) (hk37 : ∀ (l0 : Nat) (l1 : Int32) (l2 : Int32) (l3 : Int32) (σ : kdM), k37 l0 l1 l2 l3 σ = some (r, σ1) → SW E G (.inl (some (.int r), σ1)) A 6 σ 37 [(0, kr E l0), (1, .int l1), (2, .int l2), (3, .int l3)] []) (hk57 : ∀ (l0 : Nat) (l1 : Int32) (l2 : Int32) (l3 : Int32) (l4 : Int32) (l5 : Int32) (σ : kdM), k57 l0 l1 l2 l3 l4 l5 σ = some (r, σ1) → SW E G (.inl (some (.int r), σ1)) A 6 σ 57 [(0, kr E l0), (1, .int l1), (2, .int l2), (3, .int l3), (4, .int l4), (5, .int l5)] []) {σ : kdM} {l0 : Nat} {l1 : Int32} {l2 : Int32} {l3 : Int32} {l5 : Int32} {s0 : Int32} (h : X12_leastMost_101 G k37 k57 l0 l1 l2 l3 l5 s0 σ = some (r, σ1)) : SW E G (.inl (some (.int r), σ1)) A 6 σ 101 [(0, kr E l0), (1, .int l1), (2, .int l2), (3, .int l3), (5, .int l5)] [.int s0] := by
  unfold X12_leastMost_101 at h
  refine r_istore (L2 := [(4, .int s0), (0, kr E l0), (1, .int l1), (2, .int l2), (3, .int l3), (5, .int l5)]) hX dX12_leastMost_101 (by decide) rfl ?_
  refine r_iincL (L2 := fun t1 => [(5, .int t1), (4, .int s0), (0, kr E l0), (1, .int l1), (2, .int l2), (3, .int l3)]) hX dX12_leastMost_103 h 5 rfl (by decide) (fun _ => rfl) ?_
  clear h; intro t1 h
  refine r_goto (tgt := 57) hX dX12_leastMost_106 (by decide) ?_
  refine r_sub [2, 3, 4, 5, 1, 0] rfl ?_
  exact hk57 _ _ _ _ _ _ _ h
def X12_leastMost_99 (G : kdS) (k37 : Nat → Int32 → Int32 → Int32 → kdM → Option (Int32 × kdM)) (k57 : Nat → Int32 → Int32 → Int32 → Int32 → Int32 → kdM → Option (Int32 × kdM)) (l0 : Nat) (l1 : Int32) (l2 : Int32) (l3 : Int32) (l4 : Int32) (l5 : Int32) : kdM → Option (Int32 × kdM) :=
  X12_leastMost_101 G k37 k57 l0 l1 l2 l3 l5 l4
set_option maxRecDepth 100000 in
set_option maxHeartbeats 4000000 in
theorem wX12_leastMost_99 {E : kdE} {G : kdS} {A : kdA} {r : Int32} {σ1 : kdM} (hX : kdX E A cX12_leastMost 6 RX12 (some .int) 2) (k37 : Nat → Int32 → Int32 → Int32 → kdM → Option (Int32 × kdM)) (k57 : Nat → Int32 → Int32 → Int32 → Int32 → Int32 → kdM → Option (Int32 × kdM)) (hk37 : ∀ (l0 : Nat) (l1 : Int32) (l2 : Int32) (l3 : Int32) (σ : kdM), k37 l0 l1 l2 l3 σ = some (r, σ1) → SW E G (.inl (some (.int r), σ1)) A 6 σ 37 [(0, kr E l0), (1, .int l1), (2, .int l2), (3, .int l3)] []) (hk57 : ∀ (l0 : Nat) (l1 : Int32) (l2 : Int32) (l3 : Int32) (l4 : Int32) (l5 : Int32) (σ : kdM), k57 l0 l1 l2 l3 l4 l5 σ = some (r, σ1) → SW E G (.inl (some (.int r), σ1)) A 6 σ 57 [(0, kr E l0), (1, .int l1), (2, .int l2), (3, .int l3), (4, .int l4), (5, .int l5)] []) {σ : kdM} {l0 : Nat} {l1 : Int32} {l2 : Int32} {l3 : Int32} {l4 : Int32} {l5 : Int32} (h : X12_leastMost_99 G k37 k57 l0 l1 l2 l3 l4 l5 σ = some (r, σ1)) : SW E G (.inl (some (.int r), σ1)) A 6 σ 99 [(0, kr E l0), (1, .int l1), (2, .int l2), (3, .int l3), (4, .int l4), (5, .int l5)] [] := by
  unfold X12_leastMost_99 at h
  refine r_iload hX dX12_leastMost_99 4 rfl ?_
  refine r_sub [0, 1, 2, 3, 5] rfl ?_
  exact wX12_leastMost_101 hX k37 k57 hk37 hk57 h
def X12_leastMost_57B (G : kdS) (k37 : Nat → Int32 → Int32 → Int32 → kdM → Option (Int32 × kdM)) (k57 : Nat → Int32 → Int32 → Int32 → Int32 → Int32 → kdM → Option (Int32 × kdM)) (l0 : Nat) (l1 : Int32) (l2 : Int32) (l3 : Int32) (l4 : Int32) (l5 : Int32) : kdM → Option (Int32 × kdM) :=
  gI G 12 65 l0 fun t1 =>
  cnd (t1 ≤ l5)
    (kcv G 12 l0 (X12_findSteps G l0 l2 l4) fun _ =>
    k37 l0 l1 l2 l4)
    (gR G 12 63 l0 fun t2 =>
    aI G t2 (l5) fun t3 =>
    cnd (t3 ≤ l3)
      (X12_leastMost_99 G k37 k57 l0 l1 l2 l3 l4 l5)
      (gR G 12 63 l0 fun t4 =>
      aI G t4 (l5) fun t5 =>
      cnd (l4 ≤ t5)
        (X12_leastMost_99 G k37 k57 l0 l1 l2 l3 l4 l5)
        (gR G 12 63 l0 fun t6 =>
        aI G t6 (l5) fun t7 =>
        X12_leastMost_101 G k37 k57 l0 l1 l2 l3 l5 t7)))
set_option maxRecDepth 100000 in
set_option maxHeartbeats 4000000 in
theorem wX12_leastMost_57B {E : kdE} {G : kdS} {A : kdA} {r : Int32} {σ1 : kdM} (hX : kdX E A cX12_leastMost 6 RX12 (some .int) 2) (k37 : Nat → Int32 → Int32 → Int32 → kdM → Option (Int32 × kdM)) (k57 : Nat → Int32 → Int32 → Int32 → Int32 → Int32 → kdM → Option (Int32 × kdM)) (hk37 : ∀ (l0 : Nat) (l1 : Int32) (l2 : Int32) (l3 : Int32) (σ : kdM), k37 l0 l1 l2 l3 σ = some (r, σ1) → SW E G (.inl (some (.int r), σ1)) A 6 σ 37 [(0, kr E l0), (1, .int l1), (2, .int l2), (3, .int l3)] []) (hk57 : ∀ (l0 : Nat) (l1 : Int32) (l2 : Int32) (l3 : Int32) (l4 : Int32) (l5 : Int32) (σ : kdM), k57 l0 l1 l2 l3 l4 l5 σ = some (r, σ1) → SW E G (.inl (some (.int r), σ1)) A 6 σ 57 [(0, kr E l0), (1, .int l1), (2, .int l2), (3, .int l3), (4, .int l4), (5, .int l5)] []) {σ : kdM} {l0 : Nat} {l1 : Int32} {l2 : Int32} {l3 : Int32} {l4 : Int32} {l5 : Int32} (h : X12_leastMost_57B G k37 k57 l0 l1 l2 l3 l4 l5 σ = some (r, σ1)) : SW E G (.inl (some (.int r), σ1)) A 6 σ 57 [(0, kr E l0), (1, .int l1), (2, .int l2), (3, .int l3), (4, .int l4), (5, .int l5)] [] := by
  unfold X12_leastMost_57B at h
  refine r_iload hX dX12_leastMost_57 5 rfl ?_
  refine r_aload_n hX dX12_leastMost_59 rfl 0 rfl ?_
  refine r_gI hX dX12_leastMost_60 kf_X12_408 rfl h ?_
  clear h; intro t1 h
  refine r_icmp_ge (tgt := 109) hX dX12_leastMost_63 (by decide) h ?_ ?_
  · clear h; intro h
    refine r_iload hX dX12_leastMost_109 4 rfl ?_
    refine r_istore_n (L2 := [(3, .int l4), (0, kr E l0), (1, .int l1), (2, .int l2), (4, .int l4), (5, .int l5)]) hX dX12_leastMost_111 rfl (by decide) rfl ?_
    refine r_aload_n hX dX12_leastMost_112 rfl 1 rfl ?_
    refine r_iload_n hX dX12_leastMost_113 rfl 3 rfl ?_
    refine r_iload_n hX dX12_leastMost_114 rfl 0 rfl ?_
    refine r_cVv (As := [.int l2, .int l4]) (st := []) hX dX12_leastMost_115 kl_X12_findSteps w_ml_X12_414 w_im_X12_findSteps w_se_X12_findSteps ⟨_, _, rfl⟩ (by decide) rfl (Nat.le_of_ble_eq_true rfl) rfl kdz0 h (fun r σ1 h => wX12_findSteps h) ?_
    clear h; intro u σ h
    refine r_goto (tgt := 37) hX dX12_leastMost_118 (by decide) ?_
    refine r_sub [1, 2, 3, 0] rfl ?_
    exact hk37 _ _ _ _ _ h
  · clear h; intro h
    refine r_aload_n hX dX12_leastMost_66 rfl 0 rfl ?_
    refine r_gR hX dX12_leastMost_67 kf_X12_166 rfl h ?_
    clear h; intro t2 h
    refine r_iload hX dX12_leastMost_70 5 rfl ?_
    refine r_aI hX dX12_leastMost_72 h ?_
    clear h; intro t3 h
    refine r_iload_n hX dX12_leastMost_73 rfl 3 rfl ?_
    refine r_icmp_le (tgt := 99) hX dX12_leastMost_74 (by decide) h ?_ ?_
    · clear h; intro h
      refine r_sub [0, 1, 2, 3, 4, 5] rfl ?_
      exact wX12_leastMost_99 hX k37 k57 hk37 hk57 h
    · clear h; intro h
      refine r_aload_n hX dX12_leastMost_77 rfl 0 rfl ?_
      refine r_gR hX dX12_leastMost_78 kf_X12_166 rfl h ?_
      clear h; intro t4 h
      refine r_iload hX dX12_leastMost_81 5 rfl ?_
      refine r_aI hX dX12_leastMost_83 h ?_
      clear h; intro t5 h
      refine r_iload hX dX12_leastMost_84 4 rfl ?_
      refine r_icmp_ge (tgt := 99) hX dX12_leastMost_86 (by decide) h ?_ ?_
      · clear h; intro h
        refine r_sub [0, 1, 2, 3, 4, 5] rfl ?_
        exact wX12_leastMost_99 hX k37 k57 hk37 hk57 h
      · clear h; intro h
        refine r_aload_n hX dX12_leastMost_89 rfl 0 rfl ?_
        refine r_gR hX dX12_leastMost_90 kf_X12_166 rfl h ?_
        clear h; intro t6 h
        refine r_iload hX dX12_leastMost_93 5 rfl ?_
        refine r_aI hX dX12_leastMost_95 h ?_
        clear h; intro t7 h
        refine r_goto (tgt := 101) hX dX12_leastMost_96 (by decide) ?_
        refine r_sub [0, 1, 2, 3, 5] rfl ?_
        exact wX12_leastMost_101 hX k37 k57 hk37 hk57 h
def X12_leastMost_57 (G : kdS) (k37 : Nat → Int32 → Int32 → Int32 → kdM → Option (Int32 × kdM)) : Nat → Int32 → Int32 → Int32 → Int32 → Int32 → kdM → Option (Int32 × kdM) := lp (fun _ _ _ _ _ _ _ => none) (X12_leastMost_57B G k37) NN
theorem wX12_leastMost_57 {E : kdE} {G : kdS} {A : kdA} {r : Int32} {σ1 : kdM} (hX : kdX E A cX12_leastMost 6 RX12 (some .int) 2) (k37 : Nat → Int32 → Int32 → Int32 → kdM → Option (Int32 × kdM)) (hk37 : ∀ (l0 : Nat) (l1 : Int32) (l2 : Int32) (l3 : Int32) (σ : kdM), k37 l0 l1 l2 l3 σ = some (r, σ1) → SW E G (.inl (some (.int r), σ1)) A 6 σ 37 [(0, kr E l0), (1, .int l1), (2, .int l2), (3, .int l3)] []) : ∀ (l0 : Nat) (l1 : Int32) (l2 : Int32) (l3 : Int32) (l4 : Int32) (l5 : Int32) (σ : kdM), X12_leastMost_57 G k37 l0 l1 l2 l3 l4 l5 σ = some (r, σ1) → SW E G (.inl (some (.int r), σ1)) A 6 σ 57 [(0, kr E l0), (1, .int l1), (2, .int l2), (3, .int l3), (4, .int l4), (5, .int l5)] [] :=
  lp_ind (Q := fun f => ∀ (l0 : Nat) (l1 : Int32) (l2 : Int32) (l3 : Int32) (l4 : Int32) (l5 : Int32) (σ : kdM), f l0 l1 l2 l3 l4 l5 σ = some (r, σ1) → SW E G (.inl (some (.int r), σ1)) A 6 σ 57 [(0, kr E l0), (1, .int l1), (2, .int l2), (3, .int l3), (4, .int l4), (5, .int l5)] []) (by intros; contradiction) (fun k hk l0 l1 l2 l3 l4 l5 σ h => wX12_leastMost_57B hX k37 k hk37 hk h) NN
def X12_leastMost_37B (G : kdS) (k37 : Nat → Int32 → Int32 → Int32 → kdM → Option (Int32 × kdM)) (l0 : Nat) (l1 : Int32) (l2 : Int32) (l3 : Int32) : kdM → Option (Int32 × kdM) :=
  gR G 12 64 l0 fun t1 =>
  aI G t1 (l1) fun t2 =>
  cnd (t2 = (1000000000 : Int32))
    (X12_leastMost_57 G k37 l0 l1 l2 l3 (1000000000 : Int32) (0 : Int32))
    (rt l3)
set_option maxRecDepth 100000 in
set_option maxHeartbeats 4000000 in
theorem wX12_leastMost_37B {E : kdE} {G : kdS} {A : kdA} {r : Int32} {σ1 : kdM} (hX : kdX E A cX12_leastMost 6 RX12 (some .int) 2) (k37 : Nat → Int32 → Int32 → Int32 → kdM → Option (Int32 × kdM)) (hk37 : ∀ (l0 : Nat) (l1 : Int32) (l2 : Int32) (l3 : Int32) (σ : kdM), k37 l0 l1 l2 l3 σ = some (r, σ1) → SW E G (.inl (some (.int r), σ1)) A 6 σ 37 [(0, kr E l0), (1, .int l1), (2, .int l2), (3, .int l3)] []) {σ : kdM} {l0 : Nat} {l1 : Int32} {l2 : Int32} {l3 : Int32} (h : X12_leastMost_37B G k37 l0 l1 l2 l3 σ = some (r, σ1)) : SW E G (.inl (some (.int r), σ1)) A 6 σ 37 [(0, kr E l0), (1, .int l1), (2, .int l2), (3, .int l3)] [] := by
  unfold X12_leastMost_37B at h
  refine r_aload_n hX dX12_leastMost_37 rfl 0 rfl ?_
  refine r_gR hX dX12_leastMost_38 kf_X12_169 rfl h ?_
  clear h; intro t1 h
  refine r_iload_n hX dX12_leastMost_41 rfl 1 rfl ?_
  refine r_aI hX dX12_leastMost_42 h ?_
  clear h; intro t2 h
  refine r_ldc_w hX dX12_leastMost_43 w_ct_X12_265 ?_
  refine r_icmp_ne (tgt := 121) hX dX12_leastMost_46 (by decide) h ?_ ?_
  · clear h; intro h
    refine r_ldc_w hX dX12_leastMost_49 w_ct_X12_265 ?_
    refine r_istore (L2 := [(4, .int (1000000000 : Int32)), (0, kr E l0), (1, .int l1), (2, .int l2), (3, .int l3)]) hX dX12_leastMost_52 (by decide) rfl ?_
    refine r_iconst hX dX12_leastMost_54 kk_i_0 ?_
    refine r_istore (L2 := [(5, .int (0 : Int32)), (4, .int (1000000000 : Int32)), (0, kr E l0), (1, .int l1), (2, .int l2), (3, .int l3)]) hX dX12_leastMost_55 (by decide) rfl ?_
    refine r_sub [2, 3, 4, 5, 1, 0] rfl ?_
    exact wX12_leastMost_57 hX k37 hk37 _ _ _ _ _ _ _ h
  · clear h; intro h
    refine r_iload_n hX dX12_leastMost_121 rfl 3 rfl ?_
    exact r_iret hX dX12_leastMost_122 h
def X12_leastMost_37 (G : kdS) : Nat → Int32 → Int32 → Int32 → kdM → Option (Int32 × kdM) := lp (fun _ _ _ _ _ => none) (X12_leastMost_37B G) NN
theorem wX12_leastMost_37 {E : kdE} {G : kdS} {A : kdA} {r : Int32} {σ1 : kdM} (hX : kdX E A cX12_leastMost 6 RX12 (some .int) 2) : ∀ (l0 : Nat) (l1 : Int32) (l2 : Int32) (l3 : Int32) (σ : kdM), X12_leastMost_37 G l0 l1 l2 l3 σ = some (r, σ1) → SW E G (.inl (some (.int r), σ1)) A 6 σ 37 [(0, kr E l0), (1, .int l1), (2, .int l2), (3, .int l3)] [] :=
  lp_ind (Q := fun f => ∀ (l0 : Nat) (l1 : Int32) (l2 : Int32) (l3 : Int32) (σ : kdM), f l0 l1 l2 l3 σ = some (r, σ1) → SW E G (.inl (some (.int r), σ1)) A 6 σ 37 [(0, kr E l0), (1, .int l1), (2, .int l2), (3, .int l3)] []) (by intros; contradiction) (fun k hk l0 l1 l2 l3 σ h => wX12_leastMost_37B hX k hk h) NN
def X12_leastMost_30 (G : kdS) (l0 : Nat) (l1 : Int32) (l2 : Int32) (s0 : Int32) : kdM → Option (Int32 × kdM) :=
  kcv G 12 l0 (X12_findSteps G l0 l2 s0) fun _ =>
  X12_leastMost_37 G l0 l1 l2 s0
set_option maxRecDepth 100000 in
set_option maxHeartbeats 4000000 in
theorem wX12_leastMost_30 {E : kdE} {G : kdS} {A : kdA} {r : Int32} {σ1 : kdM} (hX : kdX E A cX12_leastMost 6 RX12 (some .int) 2) {σ : kdM} {l0 : Nat} {l1 : Int32} {l2 : Int32} {s0 : Int32} (h : X12_leastMost_30 G l0 l1 l2 s0 σ = some (r, σ1)) : SW E G (.inl (some (.int r), σ1)) A 6 σ 30 [(0, kr E l0), (1, .int l1), (2, .int l2)] [.int s0] := by
  unfold X12_leastMost_30 at h
  refine r_istore_n (L2 := [(3, .int s0), (0, kr E l0), (1, .int l1), (2, .int l2)]) hX dX12_leastMost_30 rfl (by decide) rfl ?_
  refine r_aload_n hX dX12_leastMost_31 rfl 1 rfl ?_
  refine r_iload_n hX dX12_leastMost_32 rfl 3 rfl ?_
  refine r_iload_n hX dX12_leastMost_33 rfl 0 rfl ?_
  refine r_cVv (As := [.int l2, .int s0]) (st := []) hX dX12_leastMost_34 kl_X12_findSteps w_ml_X12_414 w_im_X12_findSteps w_se_X12_findSteps ⟨_, _, rfl⟩ (by decide) rfl (Nat.le_of_ble_eq_true rfl) rfl kdz0 h (fun r σ1 h => wX12_findSteps h) ?_
  clear h; intro u σ h
  refine r_sub [1, 2, 3, 0] rfl ?_
  exact wX12_leastMost_37 hX _ _ _ _ _ h
def X12_leastMost (G : kdS) (l0 : Nat) (l1 : Int32) (l2 : Int32) : kdM → Option (Int32 × kdM) :=
  gR G 12 63 l0 fun t1 =>
  aI G t1 (l1) fun t2 =>
  gR G 12 63 l0 fun t3 =>
  aI G t3 (l2) fun t4 =>
  cnd (t2 ≤ t4)
    (gR G 12 63 l0 fun t5 =>
    aI G t5 (l2) fun t6 =>
    X12_leastMost_30 G l0 l1 l2 t6)
    (gR G 12 63 l0 fun t7 =>
    aI G t7 (l1) fun t8 =>
    X12_leastMost_30 G l0 l1 l2 t8)
set_option maxRecDepth 100000 in
set_option maxHeartbeats 4000000 in
theorem wX12_leastMost {E : kdE} {G : kdS} {l0 : Nat} {l1 : Int32} {l2 : Int32} {σ : kdM} {r : Int32} {σ1 : kdM} (h : X12_leastMost G l0 l1 l2 σ = some (r, σ1)) : Con E G yX12_leastMost cX12_leastMost 6 (some .int) 2 [kr E l0, .int l1, .int l2] σ (some (.int r), σ1) := by
  refine kd_head (own := RX12) rfl (by decide +kernel) (Nat.le_of_ble_eq_true rfl) (fun A hX => ?_)
  show SW E G (.inl (some (.int r), σ1)) A 6 σ 0 [(0, kr E l0), (1, .int l1), (2, .int l2)] []
  unfold X12_leastMost at h
  refine r_aload_n hX dX12_leastMost_0 rfl 0 rfl ?_
  refine r_gR hX dX12_leastMost_1 kf_X12_166 rfl h ?_
  clear h; intro t1 h
  refine r_iload_n hX dX12_leastMost_4 rfl 1 rfl ?_
  refine r_aI hX dX12_leastMost_5 h ?_
  clear h; intro t2 h
  refine r_aload_n hX dX12_leastMost_6 rfl 0 rfl ?_
  refine r_gR hX dX12_leastMost_7 kf_X12_166 rfl h ?_
  clear h; intro t3 h
  refine r_iload_n hX dX12_leastMost_10 rfl 2 rfl ?_
  refine r_aI hX dX12_leastMost_11 h ?_
  clear h; intro t4 h
  refine r_icmp_le (tgt := 24) hX dX12_leastMost_12 (by decide) h ?_ ?_
  · clear h; intro h
    refine r_aload_n hX dX12_leastMost_24 rfl 0 rfl ?_
    refine r_gR hX dX12_leastMost_25 kf_X12_166 rfl h ?_
    clear h; intro t5 h
    refine r_iload_n hX dX12_leastMost_28 rfl 2 rfl ?_
    refine r_aI hX dX12_leastMost_29 h ?_
    clear h; intro t6 h
    refine r_sub [0, 1, 2] rfl ?_
    exact wX12_leastMost_30 hX h
  · clear h; intro h
    refine r_aload_n hX dX12_leastMost_15 rfl 0 rfl ?_
    refine r_gR hX dX12_leastMost_16 kf_X12_166 rfl h ?_
    clear h; intro t7 h
    refine r_iload_n hX dX12_leastMost_19 rfl 1 rfl ?_
    refine r_aI hX dX12_leastMost_20 h ?_
    clear h; intro t8 h
    refine r_goto (tgt := 30) hX dX12_leastMost_21 (by decide) ?_
    refine r_sub [0, 1, 2] rfl ?_
    exact wX12_leastMost_30 hX h
def X12_way_16 (G : kdS) : kdM → Option (Int32 × kdM) :=
  rt (-2 : Int32)
set_option maxRecDepth 100000 in
set_option maxHeartbeats 4000000 in
theorem wX12_way_16 {E : kdE} {G : kdS} {A : kdA} {r : Int32} {σ1 : kdM} (hX : kdX E A cX12_way 8 RX12 (some .int) 3) {σ : kdM} (h : X12_way_16 G  σ = some (r, σ1)) : SW E G (.inl (some (.int r), σ1)) A 8 σ 16 [] [] := by
  unfold X12_way_16 at h
  refine r_bipush hX dX12_way_16 kk_b_m2 ?_
  exact r_iret hX dX12_way_18 h
def X12_way_138 (G : kdS) (k99 : Nat → Int32 → Int32 → Int32 → kdM → Option (Int32 × kdM)) (k108 : Nat → Int32 → Int32 → Int32 → Int32 → kdM → Option (Int32 × kdM)) (l0 : Nat) (l3 : Int32) (l4 : Int32) (l6 : Int32) (l7 : Int32) : kdM → Option (Int32 × kdM) :=
  ltI (l7 + Int32.ofInt 1) fun t1 =>
  k108 l0 l3 l4 l6 t1
set_option maxRecDepth 100000 in
set_option maxHeartbeats 4000000 in
theorem wX12_way_138 {E : kdE} {G : kdS} {A : kdA} {r : Int32} {σ1 : kdM} (hX : kdX E A cX12_way 8 RX12 (some .int) 3) (k99 : Nat → Int32 → Int32 → Int32 → kdM → Option (Int32 × kdM)) (k108 : Nat → Int32 → Int32 → Int32 → Int32 → kdM → Option (Int32 × kdM)) (hk99 : ∀ (l0 : Nat) (l3 : Int32) (l4 : Int32) (l6 : Int32) (σ : kdM), k99 l0 l3 l4 l6 σ = some (r, σ1) → SW E G (.inl (some (.int r), σ1)) A 8 σ 99 [(0, kr E l0), (3, .int l3), (4, .int l4), (6, .int l6)] []) (hk108 : ∀ (l0 : Nat) (l3 : Int32) (l4 : Int32) (l6 : Int32) (l7 : Int32) (σ : kdM), k108 l0 l3 l4 l6 l7 σ = some (r, σ1) → SW E G (.inl (some (.int r), σ1)) A 8 σ 108 [(0, kr E l0), (3, .int l3), (4, .int l4), (6, .int l6), (7, .int l7)] []) {σ : kdM} {l0 : Nat} {l3 : Int32} {l4 : Int32} {l6 : Int32} {l7 : Int32} (h : X12_way_138 G k99 k108 l0 l3 l4 l6 l7 σ = some (r, σ1)) : SW E G (.inl (some (.int r), σ1)) A 8 σ 138 [(0, kr E l0), (3, .int l3), (4, .int l4), (6, .int l6), (7, .int l7)] [] := by
  unfold X12_way_138 at h
  refine r_iincL (L2 := fun t1 => [(7, .int t1), (0, kr E l0), (3, .int l3), (4, .int l4), (6, .int l6)]) hX dX12_way_138 h 4 rfl (by decide) (fun _ => rfl) ?_
  clear h; intro t1 h
  refine r_goto (tgt := 108) hX dX12_way_141 (by decide) ?_
  refine r_sub [1, 2, 3, 4, 0] rfl ?_
  exact hk108 _ _ _ _ _ _ h
def X12_way_108B (G : kdS) (k99 : Nat → Int32 → Int32 → Int32 → kdM → Option (Int32 × kdM)) (k108 : Nat → Int32 → Int32 → Int32 → Int32 → kdM → Option (Int32 × kdM)) (l0 : Nat) (l3 : Int32) (l4 : Int32) (l6 : Int32) (l7 : Int32) : kdM → Option (Int32 × kdM) :=
  gR G 12 64 l0 fun t1 =>
  aI G t1 (l7) fun t2 =>
  gR G 12 64 l0 fun t3 =>
  aI G t3 (l4) fun t4 =>
  cnd (t2 = (t4 - (1 : Int32)))
    (kcv G 12 l0 (X12_areOneApart G l0 l4 l7) fun t5 =>
    cnd (t5 = 0)
      (X12_way_138 G k99 k108 l0 l3 l4 l6 l7)
      (ltI (l6 + Int32.ofInt 1) fun t6 =>
      k99 l0 l3 l7 t6))
    (X12_way_138 G k99 k108 l0 l3 l4 l6 l7)
set_option maxRecDepth 100000 in
set_option maxHeartbeats 4000000 in
theorem wX12_way_108B {E : kdE} {G : kdS} {A : kdA} {r : Int32} {σ1 : kdM} (hX : kdX E A cX12_way 8 RX12 (some .int) 3) (k99 : Nat → Int32 → Int32 → Int32 → kdM → Option (Int32 × kdM)) (k108 : Nat → Int32 → Int32 → Int32 → Int32 → kdM → Option (Int32 × kdM)) (hk99 : ∀ (l0 : Nat) (l3 : Int32) (l4 : Int32) (l6 : Int32) (σ : kdM), k99 l0 l3 l4 l6 σ = some (r, σ1) → SW E G (.inl (some (.int r), σ1)) A 8 σ 99 [(0, kr E l0), (3, .int l3), (4, .int l4), (6, .int l6)] []) (hk108 : ∀ (l0 : Nat) (l3 : Int32) (l4 : Int32) (l6 : Int32) (l7 : Int32) (σ : kdM), k108 l0 l3 l4 l6 l7 σ = some (r, σ1) → SW E G (.inl (some (.int r), σ1)) A 8 σ 108 [(0, kr E l0), (3, .int l3), (4, .int l4), (6, .int l6), (7, .int l7)] []) {σ : kdM} {l0 : Nat} {l3 : Int32} {l4 : Int32} {l6 : Int32} {l7 : Int32} (h : X12_way_108B G k99 k108 l0 l3 l4 l6 l7 σ = some (r, σ1)) : SW E G (.inl (some (.int r), σ1)) A 8 σ 108 [(0, kr E l0), (3, .int l3), (4, .int l4), (6, .int l6), (7, .int l7)] [] := by
  unfold X12_way_108B at h
  refine r_aload_n hX dX12_way_108 rfl 0 rfl ?_
  refine r_gR hX dX12_way_109 kf_X12_169 rfl h ?_
  clear h; intro t1 h
  refine r_iload hX dX12_way_112 4 rfl ?_
  refine r_aI hX dX12_way_114 h ?_
  clear h; intro t2 h
  refine r_aload_n hX dX12_way_115 rfl 0 rfl ?_
  refine r_gR hX dX12_way_116 kf_X12_169 rfl h ?_
  clear h; intro t3 h
  refine r_iload hX dX12_way_119 2 rfl ?_
  refine r_aI hX dX12_way_121 h ?_
  clear h; intro t4 h
  refine r_iconst hX dX12_way_122 kk_i_1 ?_
  refine r_isub hX dX12_way_123 ?_
  refine r_icmp_ne (tgt := 138) hX dX12_way_124 (by decide) h ?_ ?_
  · clear h; intro h
    refine r_aload_n hX dX12_way_127 rfl 0 rfl ?_
    refine r_iload hX dX12_way_128 2 rfl ?_
    refine r_iload hX dX12_way_130 4 rfl ?_
    refine r_cVi (As := [.int l4, .int l7]) (st := []) hX dX12_way_132 kl_X12_areOneApart w_ml_X12_411 w_im_X12_areOneApart w_se_X12_areOneApart ⟨_, _, rfl⟩ (by decide) rfl (Nat.le_of_ble_eq_true rfl) rfl kdz0 h (fun r σ1 h => wX12_areOneApart h) ?_
    clear h; intro t5 σ h
    refine r_if_ne (tgt := 144) hX dX12_way_135 (by decide) h ?_ ?_
    · clear h; intro h
      refine r_sub [0, 1, 2, 3, 4] rfl ?_
      exact wX12_way_138 hX k99 k108 hk99 hk108 h
    · clear h; intro h
      refine r_iload hX dX12_way_144 4 rfl ?_
      refine r_istore (L2 := [(4, .int l7), (0, kr E l0), (3, .int l3), (6, .int l6), (7, .int l7)]) hX dX12_way_146 (by decide) rfl ?_
      refine r_iincL (L2 := fun t6 => [(6, .int t6), (4, .int l7), (0, kr E l0), (3, .int l3), (7, .int l7)]) hX dX12_way_148 h 3 rfl (by decide) (fun _ => rfl) ?_
      clear h; intro t6 h
      refine r_goto (tgt := 99) hX dX12_way_151 (by decide) ?_
      refine r_sub [2, 3, 1, 0] rfl ?_
      exact hk99 _ _ _ _ _ h
  · clear h; intro h
    refine r_sub [0, 1, 2, 3, 4] rfl ?_
    exact wX12_way_138 hX k99 k108 hk99 hk108 h
def X12_way_108 (G : kdS) (k99 : Nat → Int32 → Int32 → Int32 → kdM → Option (Int32 × kdM)) : Nat → Int32 → Int32 → Int32 → Int32 → kdM → Option (Int32 × kdM) := lp (fun _ _ _ _ _ _ => none) (X12_way_108B G k99) NN
theorem wX12_way_108 {E : kdE} {G : kdS} {A : kdA} {r : Int32} {σ1 : kdM} (hX : kdX E A cX12_way 8 RX12 (some .int) 3) (k99 : Nat → Int32 → Int32 → Int32 → kdM → Option (Int32 × kdM)) (hk99 : ∀ (l0 : Nat) (l3 : Int32) (l4 : Int32) (l6 : Int32) (σ : kdM), k99 l0 l3 l4 l6 σ = some (r, σ1) → SW E G (.inl (some (.int r), σ1)) A 8 σ 99 [(0, kr E l0), (3, .int l3), (4, .int l4), (6, .int l6)] []) : ∀ (l0 : Nat) (l3 : Int32) (l4 : Int32) (l6 : Int32) (l7 : Int32) (σ : kdM), X12_way_108 G k99 l0 l3 l4 l6 l7 σ = some (r, σ1) → SW E G (.inl (some (.int r), σ1)) A 8 σ 108 [(0, kr E l0), (3, .int l3), (4, .int l4), (6, .int l6), (7, .int l7)] [] :=
  lp_ind (Q := fun f => ∀ (l0 : Nat) (l3 : Int32) (l4 : Int32) (l6 : Int32) (l7 : Int32) (σ : kdM), f l0 l3 l4 l6 l7 σ = some (r, σ1) → SW E G (.inl (some (.int r), σ1)) A 8 σ 108 [(0, kr E l0), (3, .int l3), (4, .int l4), (6, .int l6), (7, .int l7)] []) (by intros; contradiction) (fun k hk l0 l3 l4 l6 l7 σ h => wX12_way_108B hX k99 k hk99 hk h) NN
def X12_way_99B (G : kdS) (k99 : Nat → Int32 → Int32 → Int32 → kdM → Option (Int32 × kdM)) (l0 : Nat) (l3 : Int32) (l4 : Int32) (l6 : Int32) : kdM → Option (Int32 × kdM) :=
  cnd (l3 ≤ l6)
    (gR G 12 62 l0 fun t1 =>
    aI G t1 (l4) fun t2 =>
    rt t2)
    (X12_way_108 G k99 l0 l3 l4 l6 (0 : Int32))
set_option maxRecDepth 100000 in
set_option maxHeartbeats 4000000 in
theorem wX12_way_99B {E : kdE} {G : kdS} {A : kdA} {r : Int32} {σ1 : kdM} (hX : kdX E A cX12_way 8 RX12 (some .int) 3) (k99 : Nat → Int32 → Int32 → Int32 → kdM → Option (Int32 × kdM)) (hk99 : ∀ (l0 : Nat) (l3 : Int32) (l4 : Int32) (l6 : Int32) (σ : kdM), k99 l0 l3 l4 l6 σ = some (r, σ1) → SW E G (.inl (some (.int r), σ1)) A 8 σ 99 [(0, kr E l0), (3, .int l3), (4, .int l4), (6, .int l6)] []) {σ : kdM} {l0 : Nat} {l3 : Int32} {l4 : Int32} {l6 : Int32} (h : X12_way_99B G k99 l0 l3 l4 l6 σ = some (r, σ1)) : SW E G (.inl (some (.int r), σ1)) A 8 σ 99 [(0, kr E l0), (3, .int l3), (4, .int l4), (6, .int l6)] [] := by
  unfold X12_way_99B at h
  refine r_iload hX dX12_way_99 3 rfl ?_
  refine r_iload_n hX dX12_way_101 rfl 1 rfl ?_
  refine r_icmp_ge (tgt := 154) hX dX12_way_102 (by decide) h ?_ ?_
  · clear h; intro h
    refine r_aload_n hX dX12_way_154 rfl 0 rfl ?_
    refine r_gR hX dX12_way_155 kf_X12_163 rfl h ?_
    clear h; intro t1 h
    refine r_iload hX dX12_way_158 2 rfl ?_
    refine r_aI hX dX12_way_160 h ?_
    clear h; intro t2 h
    exact r_iret hX dX12_way_161 h
  · clear h; intro h
    refine r_iconst hX dX12_way_105 kk_i_0 ?_
    refine r_istore (L2 := [(7, .int (0 : Int32)), (0, kr E l0), (3, .int l3), (4, .int l4), (6, .int l6)]) hX dX12_way_106 (by decide) rfl ?_
    refine r_sub [1, 2, 3, 4, 0] rfl ?_
    exact wX12_way_108 hX k99 hk99 _ _ _ _ _ _ h
def X12_way_99 (G : kdS) : Nat → Int32 → Int32 → Int32 → kdM → Option (Int32 × kdM) := lp (fun _ _ _ _ _ => none) (X12_way_99B G) NN
theorem wX12_way_99 {E : kdE} {G : kdS} {A : kdA} {r : Int32} {σ1 : kdM} (hX : kdX E A cX12_way 8 RX12 (some .int) 3) : ∀ (l0 : Nat) (l3 : Int32) (l4 : Int32) (l6 : Int32) (σ : kdM), X12_way_99 G l0 l3 l4 l6 σ = some (r, σ1) → SW E G (.inl (some (.int r), σ1)) A 8 σ 99 [(0, kr E l0), (3, .int l3), (4, .int l4), (6, .int l6)] [] :=
  lp_ind (Q := fun f => ∀ (l0 : Nat) (l3 : Int32) (l4 : Int32) (l6 : Int32) (σ : kdM), f l0 l3 l4 l6 σ = some (r, σ1) → SW E G (.inl (some (.int r), σ1)) A 8 σ 99 [(0, kr E l0), (3, .int l3), (4, .int l4), (6, .int l6)] []) (by intros; contradiction) (fun k hk l0 l3 l4 l6 σ h => wX12_way_99B hX k hk h) NN
def X12_way (G : kdS) (l0 : Nat) (l1 : Int32) (l2 : Int32) (l3 : Int32) : kdM → Option (Int32 × kdM) :=
  kcv G 12 l0 (X12_lay G l0 l1) fun t1 =>
  cnd (t1 = 0)
    (X12_way_16 G )
    (kcv G 12 l0 (X12_lay G l0 l2) fun t2 =>
    cnd (t2 = 0)
      (X12_way_16 G )
      (gI G 12 55 l0 fun t3 =>
      cnd (t3 ≤ (5 : Int32))
        (kcv G 12 l0 (X12_findLayouts G l0) fun _ =>
        kcv G 12 l0 (X12_indexOf G l0 l1) fun t4 =>
        kcv G 12 l0 (X12_indexOf G l0 l2) fun t5 =>
        kcv G 12 l0 (X12_leastMost G l0 t4 t5) fun t6 =>
        cnd (l3 = (-1 : Int32))
          (rt t6)
          (cnd (l3 = (-2 : Int32))
            (gR G 12 64 l0 fun t7 =>
            aI G t7 (t4) fun t8 =>
            rt t8)
            (gR G 12 64 l0 fun t9 =>
            aI G t9 (t4) fun t10 =>
            kcl (X12_in G (Int32.toInt64 l3) (0 : Int64) (Int32.toInt64 t10)) fun t11 =>
            cnd (t11 = 0)
              (rt (-6 : Int32))
              (X12_way_99 G l0 l3 t4 (0 : Int32)))))
        (rt (-3 : Int32))))
set_option maxRecDepth 100000 in
set_option maxHeartbeats 4000000 in
theorem wX12_way {E : kdE} {G : kdS} {l0 : Nat} {l1 : Int32} {l2 : Int32} {l3 : Int32} {σ : kdM} {r : Int32} {σ1 : kdM} (h : X12_way G l0 l1 l2 l3 σ = some (r, σ1)) : Con E G yX12_way cX12_way 8 (some .int) 3 [kr E l0, .int l1, .int l2, .int l3] σ (some (.int r), σ1) := by
  refine kd_head (own := RX12) rfl (by decide +kernel) (Nat.le_of_ble_eq_true rfl) (fun A hX => ?_)
  show SW E G (.inl (some (.int r), σ1)) A 8 σ 0 [(0, kr E l0), (1, .int l1), (2, .int l2), (3, .int l3)] []
  unfold X12_way at h
  refine r_aload_n hX dX12_way_0 rfl 0 rfl ?_
  refine r_iload_n hX dX12_way_1 rfl 1 rfl ?_
  refine r_cVi (As := [.int l1]) (st := []) hX dX12_way_2 kl_X12_lay w_ml_X12_387 w_im_X12_lay w_se_X12_lay ⟨_, _, rfl⟩ (by decide) rfl (Nat.le_of_ble_eq_true rfl) rfl kdz0 h (fun r σ1 h => wX12_lay h) ?_
  clear h; intro t1 σ h
  refine r_if_eq (tgt := 16) hX dX12_way_5 (by decide) h ?_ ?_
  · clear h; intro h
    refine r_sub [] rfl ?_
    exact wX12_way_16 hX h
  · clear h; intro h
    refine r_aload_n hX dX12_way_8 rfl 0 rfl ?_
    refine r_iload_n hX dX12_way_9 rfl 2 rfl ?_
    refine r_cVi (As := [.int l2]) (st := []) hX dX12_way_10 kl_X12_lay w_ml_X12_387 w_im_X12_lay w_se_X12_lay ⟨_, _, rfl⟩ (by decide) rfl (Nat.le_of_ble_eq_true rfl) rfl kdz0 h (fun r σ1 h => wX12_lay h) ?_
    clear h; intro t2 σ h
    refine r_if_ne (tgt := 19) hX dX12_way_13 (by decide) h ?_ ?_
    · clear h; intro h
      refine r_sub [] rfl ?_
      exact wX12_way_16 hX h
    · clear h; intro h
      refine r_aload_n hX dX12_way_19 rfl 0 rfl ?_
      refine r_gI hX dX12_way_20 kf_X12_374 rfl h ?_
      clear h; intro t3 h
      refine r_iconst hX dX12_way_23 kk_i_5 ?_
      refine r_icmp_le (tgt := 30) hX dX12_way_24 (by decide) h ?_ ?_
      · clear h; intro h
        refine r_aload_n hX dX12_way_30 rfl 0 rfl ?_
        refine r_cVv (As := []) (st := []) hX dX12_way_31 kl_X12_findLayouts w_ml_X12_417 w_im_X12_findLayouts w_se_X12_findLayouts ⟨_, _, rfl⟩ (by decide) rfl (Nat.le_of_ble_eq_true rfl) rfl kdz0 h (fun r σ1 h => wX12_findLayouts h) ?_
        clear h; intro u σ h
        refine r_aload_n hX dX12_way_34 rfl 0 rfl ?_
        refine r_iload_n hX dX12_way_35 rfl 1 rfl ?_
        refine r_cVi (As := [.int l1]) (st := []) hX dX12_way_36 kl_X12_indexOf w_ml_X12_420 w_im_X12_indexOf w_se_X12_indexOf ⟨_, _, rfl⟩ (by decide) rfl (Nat.le_of_ble_eq_true rfl) rfl kdz0 h (fun r σ1 h => wX12_indexOf h) ?_
        clear h; intro t4 σ h
        refine r_istore (L2 := [(4, .int t4), (0, kr E l0), (1, .int l1), (2, .int l2), (3, .int l3)]) hX dX12_way_39 (by decide) rfl ?_
        refine r_aload_n hX dX12_way_41 rfl 1 rfl ?_
        refine r_iload hX dX12_way_42 0 rfl ?_
        refine r_aload_n hX dX12_way_44 rfl 1 rfl ?_
        refine r_iload_n hX dX12_way_45 rfl 3 rfl ?_
        refine r_cVi (As := [.int l2]) (st := [.int t4, kr E l0]) hX dX12_way_46 kl_X12_indexOf w_ml_X12_420 w_im_X12_indexOf w_se_X12_indexOf ⟨_, _, rfl⟩ (by decide) rfl (Nat.le_of_ble_eq_true rfl) rfl kdz0 h (fun r σ1 h => wX12_indexOf h) ?_
        clear h; intro t5 σ h
        refine r_cVi (As := [.int t4, .int t5]) (st := []) hX dX12_way_49 kl_X12_leastMost w_ml_X12_423 w_im_X12_leastMost w_se_X12_leastMost ⟨_, _, rfl⟩ (by decide) rfl (Nat.le_of_ble_eq_true rfl) rfl kdz0 h (fun r σ1 h => wX12_leastMost h) ?_
        clear h; intro t6 σ h
        refine r_istore (L2 := [(5, .int t6), (4, .int t4), (0, kr E l0), (1, .int l1), (2, .int l2), (3, .int l3)]) hX dX12_way_52 (by decide) rfl ?_
        refine r_iload_n hX dX12_way_54 rfl 5 rfl ?_
        refine r_iconst hX dX12_way_55 kk_i_m1 ?_
        refine r_icmp_ne (tgt := 62) hX dX12_way_56 (by decide) h ?_ ?_
        · clear h; intro h
          refine r_iload hX dX12_way_59 0 rfl ?_
          exact r_iret hX dX12_way_61 h
        · clear h; intro h
          refine r_iload_n hX dX12_way_62 rfl 5 rfl ?_
          refine r_bipush hX dX12_way_63 kk_b_m2 ?_
          refine r_icmp_ne (tgt := 76) hX dX12_way_65 (by decide) h ?_ ?_
          · clear h; intro h
            refine r_aload_n hX dX12_way_68 rfl 2 rfl ?_
            refine r_gR hX dX12_way_69 kf_X12_169 rfl h ?_
            clear h; intro t7 h
            refine r_iload hX dX12_way_72 1 rfl ?_
            refine r_aI hX dX12_way_74 h ?_
            clear h; intro t8 h
            exact r_iret hX dX12_way_75 h
          · clear h; intro h
            refine r_iload_n hX dX12_way_76 rfl 5 rfl ?_
            refine r_i2l hX dX12_way_77 ?_
            refine r_lconst hX dX12_way_78 kk_l_0 ?_
            refine r_aload_n hX dX12_way_79 rfl 2 rfl ?_
            refine r_gR hX dX12_way_80 kf_X12_169 rfl h ?_
            clear h; intro t9 h
            refine r_iload hX dX12_way_83 1 rfl ?_
            refine r_aI hX dX12_way_85 h ?_
            clear h; intro t10 h
            refine r_i2l hX dX12_way_86 ?_
            refine r_cSi (As := [.long (Int32.toInt64 l3), .long (0 : Int64), .long (Int32.toInt64 t10)]) (st := []) hX dX12_way_87 kl_X12_in w_ml_X12_178 w_st_X12_in (by decide) rfl (Nat.le_of_ble_eq_true rfl) rfl kdz0 h (fun r σ1 h => wX12_in h) ?_
            clear h; intro t11 σ h
            refine r_if_ne (tgt := 96) hX dX12_way_90 (by decide) h ?_ ?_
            · clear h; intro h
              refine r_bipush hX dX12_way_93 kk_b_m6 ?_
              exact r_iret hX dX12_way_95 h
            · clear h; intro h
              refine r_iconst hX dX12_way_96 kk_i_0 ?_
              refine r_istore (L2 := [(6, .int (0 : Int32)), (5, .int t6), (4, .int t4), (0, kr E l0), (1, .int l1), (2, .int l2), (3, .int l3)]) hX dX12_way_97 (by decide) rfl ?_
              refine r_sub [3, 6, 2, 0] rfl ?_
              exact wX12_way_99 hX _ _ _ _ _ h
      · clear h; intro h
        refine r_bipush hX dX12_way_27 kk_b_m3 ?_
        exact r_iret hX dX12_way_29 h
def X12_told (G : kdS) (l0 : Nat) (l1 : Int32) : kdM → Option (Int32 × kdM) :=
  kcl (X12_in G (Int32.toInt64 l1) (10 : Int64) (12 : Int64)) fun t1 =>
  cnd (t1 = 0)
    (kcl (X12_in G (Int32.toInt64 l1) (20 : Int64) (22 : Int64)) fun t2 =>
    cnd (t2 = 0)
      (kcl (X12_in G (Int32.toInt64 l1) (30 : Int64) (33 : Int64)) fun t3 =>
      cnd (t3 = 0)
        (cnd (l1 = (0 : Int32))
          (gI G 12 1 l0 fun t4 =>
          rt t4)
          (cnd (l1 = (1 : Int32))
            (gI G 12 3 l0 fun t5 =>
            rt t5)
            (cnd (l1 = (2 : Int32))
              (gI G 12 6 l0 fun t6 =>
              rt t6)
              (cnd (l1 = (3 : Int32))
                (gI G 12 18 l0 fun t7 =>
                rt t7)
                (cnd (l1 = (4 : Int32))
                  (gI G 12 17 l0 fun t8 =>
                  rt t8)
                  (cnd (l1 = (5 : Int32))
                    (gI G 12 29 l0 fun t9 =>
                    rt t9)
                    (cnd (l1 = (6 : Int32))
                      (gI G 12 45 l0 fun t10 =>
                      rt t10)
                      (cnd (l1 = (7 : Int32))
                        (gI G 12 51 l0 fun t11 =>
                        rt t11)
                        (cnd (l1 = (8 : Int32))
                          (gI G 12 55 l0 fun t12 =>
                          rt t12)
                          (rt (-2 : Int32)))))))))))
        (gR G 12 53 l0 fun t13 =>
        aI G t13 ((l1 - (30 : Int32))) fun t14 =>
        rt t14))
      (gR G 12 13 l0 fun t15 =>
      aI G t15 ((l1 - (20 : Int32))) fun t16 =>
      rt t16))
    (gR G 12 11 l0 fun t17 =>
    aI G t17 ((l1 - (10 : Int32))) fun t18 =>
    rt t18)
set_option maxRecDepth 100000 in
set_option maxHeartbeats 4000000 in
theorem wX12_told {E : kdE} {G : kdS} {l0 : Nat} {l1 : Int32} {σ : kdM} {r : Int32} {σ1 : kdM} (h : X12_told G l0 l1 σ = some (r, σ1)) : Con E G yX12_told cX12_told 2 (some .int) 1 [kr E l0, .int l1] σ (some (.int r), σ1) := by
  refine kd_head (own := RX12) rfl (by decide +kernel) (Nat.le_of_ble_eq_true rfl) (fun A hX => ?_)
  show SW E G (.inl (some (.int r), σ1)) A 2 σ 0 [(0, kr E l0), (1, .int l1)] []
  unfold X12_told at h
  refine r_iload_n hX dX12_told_0 rfl 1 rfl ?_
  refine r_i2l hX dX12_told_1 ?_
  refine r_ldc2_w hX dX12_told_2 w_cl_X12_426 ?_
  refine r_ldc2_w hX dX12_told_5 w_cl_X12_428 ?_
  refine r_cSi (As := [.long (Int32.toInt64 l1), .long (10 : Int64), .long (12 : Int64)]) (st := []) hX dX12_told_8 kl_X12_in w_ml_X12_178 w_st_X12_in (by decide) rfl (Nat.le_of_ble_eq_true rfl) rfl kdz0 h (fun r σ1 h => wX12_in h) ?_
  clear h; intro t1 σ h
  refine r_if_eq (tgt := 24) hX dX12_told_11 (by decide) h ?_ ?_
  · clear h; intro h
    refine r_iload_n hX dX12_told_24 rfl 1 rfl ?_
    refine r_i2l hX dX12_told_25 ?_
    refine r_ldc2_w hX dX12_told_26 w_cl_X12_256 ?_
    refine r_ldc2_w hX dX12_told_29 w_cl_X12_430 ?_
    refine r_cSi (As := [.long (Int32.toInt64 l1), .long (20 : Int64), .long (22 : Int64)]) (st := []) hX dX12_told_32 kl_X12_in w_ml_X12_178 w_st_X12_in (by decide) rfl (Nat.le_of_ble_eq_true rfl) rfl kdz0 h (fun r σ1 h => wX12_in h) ?_
    clear h; intro t2 σ h
    refine r_if_eq (tgt := 48) hX dX12_told_35 (by decide) h ?_ ?_
    · clear h; intro h
      refine r_iload_n hX dX12_told_48 rfl 1 rfl ?_
      refine r_i2l hX dX12_told_49 ?_
      refine r_ldc2_w hX dX12_told_50 w_cl_X12_432 ?_
      refine r_ldc2_w hX dX12_told_53 w_cl_X12_434 ?_
      refine r_cSi (As := [.long (Int32.toInt64 l1), .long (30 : Int64), .long (33 : Int64)]) (st := []) hX dX12_told_56 kl_X12_in w_ml_X12_178 w_st_X12_in (by decide) rfl (Nat.le_of_ble_eq_true rfl) rfl kdz0 h (fun r σ1 h => wX12_in h) ?_
      clear h; intro t3 σ h
      refine r_if_eq (tgt := 72) hX dX12_told_59 (by decide) h ?_ ?_
      · clear h; intro h
        refine r_iload_n hX dX12_told_72 rfl 1 rfl ?_
        refine r_case (q := l1 = (0 : Int32)) h ?_ ?_
        · clear h; intro hq h
          refine r_tsIn (tgt := 124) (off := 51) (v := (0 : Int32)) hX dX12_told_73 hq (by decide) (by decide) (by decide +kernel) (by decide) ?_
          clear hq
          refine r_aload_n hX dX12_told_124 rfl 0 rfl ?_
          refine r_gI hX dX12_told_125 kf_X12_182 rfl h ?_
          clear h; intro t4 h
          exact r_iret hX dX12_told_128 h
        · clear h; intro hn0 h
          refine r_case (q := l1 = (1 : Int32)) h ?_ ?_
          · clear h; intro hq h
            refine r_tsIn (tgt := 129) (off := 56) (v := (1 : Int32)) hX dX12_told_73 hq (by decide) (by decide) (by decide +kernel) (by decide) ?_
            clear hq
            refine r_aload_n hX dX12_told_129 rfl 0 rfl ?_
            refine r_gI hX dX12_told_130 kf_X12_187 rfl h ?_
            clear h; intro t5 h
            exact r_iret hX dX12_told_133 h
          · clear h; intro hn1 h
            refine r_case (q := l1 = (2 : Int32)) h ?_ ?_
            · clear h; intro hq h
              refine r_tsIn (tgt := 134) (off := 61) (v := (2 : Int32)) hX dX12_told_73 hq (by decide) (by decide) (by decide +kernel) (by decide) ?_
              clear hq
              refine r_aload_n hX dX12_told_134 rfl 0 rfl ?_
              refine r_gI hX dX12_told_135 kf_X12_190 rfl h ?_
              clear h; intro t6 h
              exact r_iret hX dX12_told_138 h
            · clear h; intro hn2 h
              refine r_case (q := l1 = (3 : Int32)) h ?_ ?_
              · clear h; intro hq h
                refine r_tsIn (tgt := 139) (off := 66) (v := (3 : Int32)) hX dX12_told_73 hq (by decide) (by decide) (by decide +kernel) (by decide) ?_
                clear hq
                refine r_aload_n hX dX12_told_139 rfl 0 rfl ?_
                refine r_gI hX dX12_told_140 kf_X12_215 rfl h ?_
                clear h; intro t7 h
                exact r_iret hX dX12_told_143 h
              · clear h; intro hn3 h
                refine r_case (q := l1 = (4 : Int32)) h ?_ ?_
                · clear h; intro hq h
                  refine r_tsIn (tgt := 144) (off := 71) (v := (4 : Int32)) hX dX12_told_73 hq (by decide) (by decide) (by decide +kernel) (by decide) ?_
                  clear hq
                  refine r_aload_n hX dX12_told_144 rfl 0 rfl ?_
                  refine r_gI hX dX12_told_145 kf_X12_218 rfl h ?_
                  clear h; intro t8 h
                  exact r_iret hX dX12_told_148 h
                · clear h; intro hn4 h
                  refine r_case (q := l1 = (5 : Int32)) h ?_ ?_
                  · clear h; intro hq h
                    refine r_tsIn (tgt := 149) (off := 76) (v := (5 : Int32)) hX dX12_told_73 hq (by decide) (by decide) (by decide +kernel) (by decide) ?_
                    clear hq
                    refine r_aload_n hX dX12_told_149 rfl 0 rfl ?_
                    refine r_gI hX dX12_told_150 kf_X12_244 rfl h ?_
                    clear h; intro t9 h
                    exact r_iret hX dX12_told_153 h
                  · clear h; intro hn5 h
                    refine r_case (q := l1 = (6 : Int32)) h ?_ ?_
                    · clear h; intro hq h
                      refine r_tsIn (tgt := 154) (off := 81) (v := (6 : Int32)) hX dX12_told_73 hq (by decide) (by decide) (by decide +kernel) (by decide) ?_
                      clear hq
                      refine r_aload_n hX dX12_told_154 rfl 0 rfl ?_
                      refine r_gI hX dX12_told_155 kf_X12_330 rfl h ?_
                      clear h; intro t10 h
                      exact r_iret hX dX12_told_158 h
                    · clear h; intro hn6 h
                      refine r_case (q := l1 = (7 : Int32)) h ?_ ?_
                      · clear h; intro hq h
                        refine r_tsIn (tgt := 159) (off := 86) (v := (7 : Int32)) hX dX12_told_73 hq (by decide) (by decide) (by decide +kernel) (by decide) ?_
                        clear hq
                        refine r_aload_n hX dX12_told_159 rfl 0 rfl ?_
                        refine r_gI hX dX12_told_160 kf_X12_360 rfl h ?_
                        clear h; intro t11 h
                        exact r_iret hX dX12_told_163 h
                      · clear h; intro hn7 h
                        refine r_case (q := l1 = (8 : Int32)) h ?_ ?_
                        · clear h; intro hq h
                          refine r_tsIn (tgt := 164) (off := 91) (v := (8 : Int32)) hX dX12_told_73 hq (by decide) (by decide) (by decide +kernel) (by decide) ?_
                          clear hq
                          refine r_aload_n hX dX12_told_164 rfl 0 rfl ?_
                          refine r_gI hX dX12_told_165 kf_X12_374 rfl h ?_
                          clear h; intro t12 h
                          exact r_iret hX dX12_told_168 h
                        · clear h; intro hn8 h
                          refine r_tsOut (tgt := 169) hX dX12_told_73 (by have e0 := kd_ne (a := 0) hn0 (by decide); have e1 := kd_ne (a := 1) hn1 (by decide); have e2 := kd_ne (a := 2) hn2 (by decide); have e3 := kd_ne (a := 3) hn3 (by decide); have e4 := kd_ne (a := 4) hn4 (by decide); have e5 := kd_ne (a := 5) hn5 (by decide); have e6 := kd_ne (a := 6) hn6 (by decide); have e7 := kd_ne (a := 7) hn7 (by decide); have e8 := kd_ne (a := 8) hn8 (by decide); omega) (by decide) ?_
                          refine r_bipush hX dX12_told_169 kk_b_m2 ?_
                          exact r_iret hX dX12_told_171 h
      · clear h; intro h
        refine r_aload_n hX dX12_told_62 rfl 0 rfl ?_
        refine r_gR hX dX12_told_63 kf_X12_139 rfl h ?_
        clear h; intro t13 h
        refine r_iload_n hX dX12_told_66 rfl 1 rfl ?_
        refine r_bipush hX dX12_told_67 kk_b_30 ?_
        refine r_isub hX dX12_told_69 ?_
        refine r_aI hX dX12_told_70 h ?_
        clear h; intro t14 h
        exact r_iret hX dX12_told_71 h
    · clear h; intro h
      refine r_aload_n hX dX12_told_38 rfl 0 rfl ?_
      refine r_gR hX dX12_told_39 kf_X12_41 rfl h ?_
      clear h; intro t15 h
      refine r_iload_n hX dX12_told_42 rfl 1 rfl ?_
      refine r_bipush hX dX12_told_43 kk_b_20 ?_
      refine r_isub hX dX12_told_45 ?_
      refine r_aI hX dX12_told_46 h ?_
      clear h; intro t16 h
      exact r_iret hX dX12_told_47 h
  · clear h; intro h
    refine r_aload_n hX dX12_told_14 rfl 0 rfl ?_
    refine r_gR hX dX12_told_15 kf_X12_35 rfl h ?_
    clear h; intro t17 h
    refine r_iload_n hX dX12_told_18 rfl 1 rfl ?_
    refine r_bipush hX dX12_told_19 kk_b_10 ?_
    refine r_isub hX dX12_told_21 ?_
    refine r_aI hX dX12_told_22 h ?_
    clear h; intro t18 h
    exact r_iret hX dX12_told_23 h
