def X3_improveOnce_73 (G : kdS) (k12 : Nat → Int32 → Int32 → Int32 → Int32 → kdM → Option (Int32 × kdM)) (k27 : Nat → Int32 → Int32 → Int32 → Int32 → Int32 → kdM → Option (Int32 × kdM)) (l0 : Nat) (l1 : Int32) (l2 : Int32) (l3 : Int32) (l4 : Int32) (l5 : Int32) : kdM → Option (Int32 × kdM) :=
  ltI (l5 + Int32.ofInt 1) fun t1 =>
  k27 l0 l1 l2 l3 l4 t1
set_option maxRecDepth 100000 in
set_option maxHeartbeats 4000000 in
theorem wX3_improveOnce_73 {E : kdE} {G : kdS} {A : kdA} {r : Int32} {σ1 : kdM} (hX : kdX E A cX3_improveOnce 7 RX3 (some .boolean) 4) (k12 : Nat → Int32 → Int32 → Int32 → Int32 → kdM → Option (Int32 × kdM)) (k27 : Nat → Int32 → Int32 → Int32 → Int32 → Int32 → kdM → Option (Int32 × kdM)) (hk12 : ∀ (l0 : Nat) (l1 : Int32) (l2 : Int32) (l3 : Int32) (l4 : Int32) (σ : kdM), k12 l0 l1 l2 l3 l4 σ = some (r, σ1) → SW E G (.inl (some (.int r), σ1)) A 7 σ 12 [(0, kr E l0), (1, .int l1), (2, .int l2), (3, .int l3), (4, .int l4)] []) (hk27 : ∀ (l0 : Nat) (l1 : Int32) (l2 : Int32) (l3 : Int32) (l4 : Int32) (l5 : Int32) (σ : kdM), k27 l0 l1 l2 l3 l4 l5 σ = some (r, σ1) → SW E G (.inl (some (.int r), σ1)) A 7 σ 27 [(0, kr E l0), (1, .int l1), (2, .int l2), (3, .int l3), (4, .int l4), (5, .int l5)] []) {σ : kdM} {l0 : Nat} {l1 : Int32} {l2 : Int32} {l3 : Int32} {l4 : Int32} {l5 : Int32} (h : X3_improveOnce_73 G k12 k27 l0 l1 l2 l3 l4 l5 σ = some (r, σ1)) : SW E G (.inl (some (.int r), σ1)) A 7 σ 73 [(0, kr E l0), (1, .int l1), (2, .int l2), (3, .int l3), (4, .int l4), (5, .int l5)] [] := by
  unfold X3_improveOnce_73 at h
  refine r_iincL (L2 := fun t1 => [(5, .int t1), (0, kr E l0), (1, .int l1), (2, .int l2), (3, .int l3), (4, .int l4)]) hX dX3_improveOnce_73 h 5 rfl (by decide) (fun _ => rfl) ?_
  clear h; intro t1 h
  refine r_goto (tgt := 27) hX dX3_improveOnce_76 (by decide) ?_
  refine r_sub [1, 2, 3, 4, 5, 0] rfl ?_
  exact hk27 _ _ _ _ _ _ _ h
def X3_improveOnce_27B (G : kdS) (k12 : Nat → Int32 → Int32 → Int32 → Int32 → kdM → Option (Int32 × kdM)) (k27 : Nat → Int32 → Int32 → Int32 → Int32 → Int32 → kdM → Option (Int32 × kdM)) (l0 : Nat) (l1 : Int32) (l2 : Int32) (l3 : Int32) (l4 : Int32) (l5 : Int32) : kdM → Option (Int32 × kdM) :=
  gI G 3 0 l0 fun t1 =>
  cnd (t1 ≤ l5)
    (ltI (l4 + Int32.ofInt 1) fun t2 =>
    k12 l0 l1 l2 l3 t2)
    (kcv G 3 l0 (X3_exchange G l0 l4 l5) fun _ =>
    kcv G 3 l0 (X3_totalCost G l0) fun t3 =>
    kcv G 3 l0 (X3_exchange G l0 l4 l5) fun _ =>
    cnd (l1 ≤ t3)
      (X3_improveOnce_73 G k12 k27 l0 l1 l2 l3 l4 l5)
      (X3_improveOnce_73 G k12 k27 l0 t3 l4 l5 l4 l5))
set_option maxRecDepth 100000 in
set_option maxHeartbeats 4000000 in
theorem wX3_improveOnce_27B {E : kdE} {G : kdS} {A : kdA} {r : Int32} {σ1 : kdM} (hX : kdX E A cX3_improveOnce 7 RX3 (some .boolean) 4) (k12 : Nat → Int32 → Int32 → Int32 → Int32 → kdM → Option (Int32 × kdM)) (k27 : Nat → Int32 → Int32 → Int32 → Int32 → Int32 → kdM → Option (Int32 × kdM)) (hk12 : ∀ (l0 : Nat) (l1 : Int32) (l2 : Int32) (l3 : Int32) (l4 : Int32) (σ : kdM), k12 l0 l1 l2 l3 l4 σ = some (r, σ1) → SW E G (.inl (some (.int r), σ1)) A 7 σ 12 [(0, kr E l0), (1, .int l1), (2, .int l2), (3, .int l3), (4, .int l4)] []) (hk27 : ∀ (l0 : Nat) (l1 : Int32) (l2 : Int32) (l3 : Int32) (l4 : Int32) (l5 : Int32) (σ : kdM), k27 l0 l1 l2 l3 l4 l5 σ = some (r, σ1) → SW E G (.inl (some (.int r), σ1)) A 7 σ 27 [(0, kr E l0), (1, .int l1), (2, .int l2), (3, .int l3), (4, .int l4), (5, .int l5)] []) {σ : kdM} {l0 : Nat} {l1 : Int32} {l2 : Int32} {l3 : Int32} {l4 : Int32} {l5 : Int32} (h : X3_improveOnce_27B G k12 k27 l0 l1 l2 l3 l4 l5 σ = some (r, σ1)) : SW E G (.inl (some (.int r), σ1)) A 7 σ 27 [(0, kr E l0), (1, .int l1), (2, .int l2), (3, .int l3), (4, .int l4), (5, .int l5)] [] := by
  unfold X3_improveOnce_27B at h
  refine r_iload hX dX3_improveOnce_27 5 rfl ?_
  refine r_aload_n hX dX3_improveOnce_29 rfl 0 rfl ?_
  refine r_gI hX dX3_improveOnce_30 kf_X3_37 rfl h ?_
  clear h; intro t1 h
  refine r_icmp_ge (tgt := 79) hX dX3_improveOnce_33 (by decide) h ?_ ?_
  · clear h; intro h
    refine r_iincL (L2 := fun t2 => [(4, .int t2), (0, kr E l0), (1, .int l1), (2, .int l2), (3, .int l3), (5, .int l5)]) hX dX3_improveOnce_79 h 4 rfl (by decide) (fun _ => rfl) ?_
    clear h; intro t2 h
    refine r_goto (tgt := 12) hX dX3_improveOnce_82 (by decide) ?_
    refine r_sub [1, 2, 3, 4, 0] rfl ?_
    exact hk12 _ _ _ _ _ _ h
  · clear h; intro h
    refine r_aload_n hX dX3_improveOnce_36 rfl 0 rfl ?_
    refine r_iload hX dX3_improveOnce_37 4 rfl ?_
    refine r_iload hX dX3_improveOnce_39 5 rfl ?_
    refine r_cVv (As := [.int l4, .int l5]) (st := []) hX dX3_improveOnce_41 kl_X3_exchange w_ml_X3_85 w_im_X3_exchange w_se_X3_exchange ⟨_, _, rfl⟩ (by decide) rfl (Nat.le_of_ble_eq_true rfl) rfl kdz0 h (fun r σ1 h => wX3_exchange h) ?_
    clear h; intro u σ h
    refine r_aload_n hX dX3_improveOnce_44 rfl 0 rfl ?_
    refine r_cVi (As := []) (st := []) hX dX3_improveOnce_45 kl_X3_totalCost w_ml_X3_82 w_im_X3_totalCost w_se_X3_totalCost ⟨_, _, rfl⟩ (by decide) rfl (Nat.le_of_ble_eq_true rfl) rfl kdz0 h (fun r σ1 h => wX3_totalCost h) ?_
    clear h; intro t3 σ h
    refine r_istore (L2 := [(6, .int t3), (0, kr E l0), (1, .int l1), (2, .int l2), (3, .int l3), (4, .int l4), (5, .int l5)]) hX dX3_improveOnce_48 (by decide) rfl ?_
    refine r_aload_n hX dX3_improveOnce_50 rfl 1 rfl ?_
    refine r_iload hX dX3_improveOnce_51 5 rfl ?_
    refine r_iload hX dX3_improveOnce_53 6 rfl ?_
    refine r_cVv (As := [.int l4, .int l5]) (st := []) hX dX3_improveOnce_55 kl_X3_exchange w_ml_X3_85 w_im_X3_exchange w_se_X3_exchange ⟨_, _, rfl⟩ (by decide) rfl (Nat.le_of_ble_eq_true rfl) rfl kdz0 h (fun r σ1 h => wX3_exchange h) ?_
    clear h; intro u σ h
    refine r_iload hX dX3_improveOnce_58 0 rfl ?_
    refine r_iload_n hX dX3_improveOnce_60 rfl 2 rfl ?_
    refine r_icmp_ge (tgt := 73) hX dX3_improveOnce_61 (by decide) h ?_ ?_
    · clear h; intro h
      refine r_sub [1, 2, 3, 4, 5, 6] rfl ?_
      exact wX3_improveOnce_73 hX k12 k27 hk12 hk27 h
    · clear h; intro h
      refine r_iload hX dX3_improveOnce_64 0 rfl ?_
      refine r_istore_n (L2 := [(1, .int t3), (6, .int t3), (0, kr E l0), (2, .int l2), (3, .int l3), (4, .int l4), (5, .int l5)]) hX dX3_improveOnce_66 rfl (by decide) rfl ?_
      refine r_iload hX dX3_improveOnce_67 5 rfl ?_
      refine r_istore_n (L2 := [(2, .int l4), (1, .int t3), (6, .int t3), (0, kr E l0), (3, .int l3), (4, .int l4), (5, .int l5)]) hX dX3_improveOnce_69 rfl (by decide) rfl ?_
      refine r_iload hX dX3_improveOnce_70 6 rfl ?_
      refine r_istore_n (L2 := [(3, .int l5), (2, .int l4), (1, .int t3), (6, .int t3), (0, kr E l0), (4, .int l4), (5, .int l5)]) hX dX3_improveOnce_72 rfl (by decide) rfl ?_
      refine r_sub [4, 2, 1, 0, 5, 6] rfl ?_
      exact wX3_improveOnce_73 hX k12 k27 hk12 hk27 h
def X3_improveOnce_27 (G : kdS) (k12 : Nat → Int32 → Int32 → Int32 → Int32 → kdM → Option (Int32 × kdM)) : Nat → Int32 → Int32 → Int32 → Int32 → Int32 → kdM → Option (Int32 × kdM) := lp (fun _ _ _ _ _ _ _ => none) (X3_improveOnce_27B G k12) NN
theorem wX3_improveOnce_27 {E : kdE} {G : kdS} {A : kdA} {r : Int32} {σ1 : kdM} (hX : kdX E A cX3_improveOnce 7 RX3 (some .boolean) 4) (k12 : Nat → Int32 → Int32 → Int32 → Int32 → kdM → Option (Int32 × kdM)) (hk12 : ∀ (l0 : Nat) (l1 : Int32) (l2 : Int32) (l3 : Int32) (l4 : Int32) (σ : kdM), k12 l0 l1 l2 l3 l4 σ = some (r, σ1) → SW E G (.inl (some (.int r), σ1)) A 7 σ 12 [(0, kr E l0), (1, .int l1), (2, .int l2), (3, .int l3), (4, .int l4)] []) : ∀ (l0 : Nat) (l1 : Int32) (l2 : Int32) (l3 : Int32) (l4 : Int32) (l5 : Int32) (σ : kdM), X3_improveOnce_27 G k12 l0 l1 l2 l3 l4 l5 σ = some (r, σ1) → SW E G (.inl (some (.int r), σ1)) A 7 σ 27 [(0, kr E l0), (1, .int l1), (2, .int l2), (3, .int l3), (4, .int l4), (5, .int l5)] [] :=
  lp_ind (Q := fun f => ∀ (l0 : Nat) (l1 : Int32) (l2 : Int32) (l3 : Int32) (l4 : Int32) (l5 : Int32) (σ : kdM), f l0 l1 l2 l3 l4 l5 σ = some (r, σ1) → SW E G (.inl (some (.int r), σ1)) A 7 σ 27 [(0, kr E l0), (1, .int l1), (2, .int l2), (3, .int l3), (4, .int l4), (5, .int l5)] []) (by intros; contradiction) (fun k hk l0 l1 l2 l3 l4 l5 σ h => wX3_improveOnce_27B hX k12 k hk12 hk h) NN
def X3_improveOnce_12B (G : kdS) (k12 : Nat → Int32 → Int32 → Int32 → Int32 → kdM → Option (Int32 × kdM)) (l0 : Nat) (l1 : Int32) (l2 : Int32) (l3 : Int32) (l4 : Int32) : kdM → Option (Int32 × kdM) :=
  gI G 3 0 l0 fun t1 =>
  cnd (t1 ≤ l4)
    (cnd (l2 = (-1 : Int32))
      (rt (vp_nar .boolean (0 : Int32)))
      (kcv G 3 l0 (X3_exchange G l0 l2 l3) fun _ =>
      rt (vp_nar .boolean (1 : Int32))))
    (ltI ((l4 + (1 : Int32))) fun t2 =>
    X3_improveOnce_27 G k12 l0 l1 l2 l3 l4 t2)
set_option maxRecDepth 100000 in
set_option maxHeartbeats 4000000 in
theorem wX3_improveOnce_12B {E : kdE} {G : kdS} {A : kdA} {r : Int32} {σ1 : kdM} (hX : kdX E A cX3_improveOnce 7 RX3 (some .boolean) 4) (k12 : Nat → Int32 → Int32 → Int32 → Int32 → kdM → Option (Int32 × kdM)) (hk12 : ∀ (l0 : Nat) (l1 : Int32) (l2 : Int32) (l3 : Int32) (l4 : Int32) (σ : kdM), k12 l0 l1 l2 l3 l4 σ = some (r, σ1) → SW E G (.inl (some (.int r), σ1)) A 7 σ 12 [(0, kr E l0), (1, .int l1), (2, .int l2), (3, .int l3), (4, .int l4)] []) {σ : kdM} {l0 : Nat} {l1 : Int32} {l2 : Int32} {l3 : Int32} {l4 : Int32} (h : X3_improveOnce_12B G k12 l0 l1 l2 l3 l4 σ = some (r, σ1)) : SW E G (.inl (some (.int r), σ1)) A 7 σ 12 [(0, kr E l0), (1, .int l1), (2, .int l2), (3, .int l3), (4, .int l4)] [] := by
  unfold X3_improveOnce_12B at h
  refine r_iload hX dX3_improveOnce_12 4 rfl ?_
  refine r_aload_n hX dX3_improveOnce_14 rfl 0 rfl ?_
  refine r_gI hX dX3_improveOnce_15 kf_X3_37 rfl h ?_
  clear h; intro t1 h
  refine r_icmp_ge (tgt := 85) hX dX3_improveOnce_18 (by decide) h ?_ ?_
  · clear h; intro h
    refine r_iload_n hX dX3_improveOnce_85 rfl 2 rfl ?_
    refine r_iconst hX dX3_improveOnce_86 kk_i_m1 ?_
    refine r_icmp_ne (tgt := 92) hX dX3_improveOnce_87 (by decide) h ?_ ?_
    · clear h; intro h
      refine r_iconst hX dX3_improveOnce_90 kk_i_0 ?_
      exact r_zret hX dX3_improveOnce_91 h
    · clear h; intro h
      refine r_aload_n hX dX3_improveOnce_92 rfl 0 rfl ?_
      refine r_iload_n hX dX3_improveOnce_93 rfl 2 rfl ?_
      refine r_iload_n hX dX3_improveOnce_94 rfl 3 rfl ?_
      refine r_cVv (As := [.int l2, .int l3]) (st := []) hX dX3_improveOnce_95 kl_X3_exchange w_ml_X3_85 w_im_X3_exchange w_se_X3_exchange ⟨_, _, rfl⟩ (by decide) rfl (Nat.le_of_ble_eq_true rfl) rfl kdz0 h (fun r σ1 h => wX3_exchange h) ?_
      clear h; intro u σ h
      refine r_iconst hX dX3_improveOnce_98 kk_i_1 ?_
      exact r_zret hX dX3_improveOnce_99 h
  · clear h; intro h
    refine r_iload hX dX3_improveOnce_21 4 rfl ?_
    refine r_iconst hX dX3_improveOnce_23 kk_i_1 ?_
    refine r_iadd hX dX3_improveOnce_24 ?_
    refine r_letI h ?_
    clear h; intro t2 h
    refine r_istore (L2 := [(5, .int t2), (0, kr E l0), (1, .int l1), (2, .int l2), (3, .int l3), (4, .int l4)]) hX dX3_improveOnce_25 (by decide) rfl ?_
    refine r_sub [1, 2, 3, 4, 5, 0] rfl ?_
    exact wX3_improveOnce_27 hX k12 hk12 _ _ _ _ _ _ _ h
def X3_improveOnce_12 (G : kdS) : Nat → Int32 → Int32 → Int32 → Int32 → kdM → Option (Int32 × kdM) := lp (fun _ _ _ _ _ _ => none) (X3_improveOnce_12B G) NN
theorem wX3_improveOnce_12 {E : kdE} {G : kdS} {A : kdA} {r : Int32} {σ1 : kdM} (hX : kdX E A cX3_improveOnce 7 RX3 (some .boolean) 4) : ∀ (l0 : Nat) (l1 : Int32) (l2 : Int32) (l3 : Int32) (l4 : Int32) (σ : kdM), X3_improveOnce_12 G l0 l1 l2 l3 l4 σ = some (r, σ1) → SW E G (.inl (some (.int r), σ1)) A 7 σ 12 [(0, kr E l0), (1, .int l1), (2, .int l2), (3, .int l3), (4, .int l4)] [] :=
  lp_ind (Q := fun f => ∀ (l0 : Nat) (l1 : Int32) (l2 : Int32) (l3 : Int32) (l4 : Int32) (σ : kdM), f l0 l1 l2 l3 l4 σ = some (r, σ1) → SW E G (.inl (some (.int r), σ1)) A 7 σ 12 [(0, kr E l0), (1, .int l1), (2, .int l2), (3, .int l3), (4, .int l4)] []) (by intros; contradiction) (fun k hk l0 l1 l2 l3 l4 σ h => wX3_improveOnce_12B hX k hk h) NN
def X3_improveOnce (G : kdS) (l0 : Nat) : kdM → Option (Int32 × kdM) :=
  kcv G 3 l0 (X3_totalCost G l0) fun t1 =>
  X3_improveOnce_12 G l0 t1 (-1 : Int32) (-1 : Int32) (0 : Int32)
set_option maxRecDepth 100000 in
set_option maxHeartbeats 4000000 in
theorem wX3_improveOnce {E : kdE} {G : kdS} {l0 : Nat} {σ : kdM} {r : Int32} {σ1 : kdM} (h : X3_improveOnce G l0 σ = some (r, σ1)) : Con E G yX3_improveOnce cX3_improveOnce 7 (some .boolean) 4 [kr E l0] σ (some (.int r), σ1) := by
  refine kd_head (own := RX3) rfl (by decide +kernel) (Nat.le_of_ble_eq_true rfl) (fun A hX => ?_)
  show SW E G (.inl (some (.int r), σ1)) A 7 σ 0 [(0, kr E l0)] []
  unfold X3_improveOnce at h
  refine r_aload_n hX dX3_improveOnce_0 rfl 0 rfl ?_
  refine r_cVi (As := []) (st := []) hX dX3_improveOnce_1 kl_X3_totalCost w_ml_X3_82 w_im_X3_totalCost w_se_X3_totalCost ⟨_, _, rfl⟩ (by decide) rfl (Nat.le_of_ble_eq_true rfl) rfl kdz0 h (fun r σ1 h => wX3_totalCost h) ?_
  clear h; intro t1 σ h
  refine r_istore_n (L2 := [(1, .int t1), (0, kr E l0)]) hX dX3_improveOnce_4 rfl (by decide) rfl ?_
  refine r_iconst hX dX3_improveOnce_5 kk_i_m1 ?_
  refine r_istore_n (L2 := [(2, .int (-1 : Int32)), (1, .int t1), (0, kr E l0)]) hX dX3_improveOnce_6 rfl (by decide) rfl ?_
  refine r_iconst hX dX3_improveOnce_7 kk_i_m1 ?_
  refine r_istore_n (L2 := [(3, .int (-1 : Int32)), (2, .int (-1 : Int32)), (1, .int t1), (0, kr E l0)]) hX dX3_improveOnce_8 rfl (by decide) rfl ?_
  refine r_iconst hX dX3_improveOnce_9 kk_i_0 ?_
  refine r_istore (L2 := [(4, .int (0 : Int32)), (3, .int (-1 : Int32)), (2, .int (-1 : Int32)), (1, .int t1), (0, kr E l0)]) hX dX3_improveOnce_10 (by decide) rfl ?_
  refine r_sub [4, 3, 2, 1, 0] rfl ?_
  exact wX3_improveOnce_12 hX _ _ _ _ _ _ h
def X3_improve_22 (G : kdS) (l1 : Int32) : kdM → Option (Int32 × kdM) :=
  rt l1
set_option maxRecDepth 100000 in
set_option maxHeartbeats 4000000 in
theorem wX3_improve_22 {E : kdE} {G : kdS} {A : kdA} {r : Int32} {σ1 : kdM} (hX : kdX E A cX3_improve 2 RX3 (some .int) 5) {σ : kdM} {l1 : Int32} (h : X3_improve_22 G l1 σ = some (r, σ1)) : SW E G (.inl (some (.int r), σ1)) A 2 σ 22 [(1, .int l1)] [] := by
  unfold X3_improve_22 at h
  refine r_iload_n hX dX3_improve_22 rfl 0 rfl ?_
  exact r_iret hX dX3_improve_23 h
def X3_improve_2B (G : kdS) (k2 : Nat → Int32 → kdM → Option (Int32 × kdM)) (l0 : Nat) (l1 : Int32) : kdM → Option (Int32 × kdM) :=
  cnd ((5040 : Int32) ≤ l1)
    (X3_improve_22 G l1)
    (kcv G 3 l0 (X3_improveOnce G l0) fun t1 =>
    cnd (t1 = 0)
      (X3_improve_22 G l1)
      (ltI (l1 + Int32.ofInt 1) fun t2 =>
      k2 l0 t2))
set_option maxRecDepth 100000 in
set_option maxHeartbeats 4000000 in
theorem wX3_improve_2B {E : kdE} {G : kdS} {A : kdA} {r : Int32} {σ1 : kdM} (hX : kdX E A cX3_improve 2 RX3 (some .int) 5) (k2 : Nat → Int32 → kdM → Option (Int32 × kdM)) (hk2 : ∀ (l0 : Nat) (l1 : Int32) (σ : kdM), k2 l0 l1 σ = some (r, σ1) → SW E G (.inl (some (.int r), σ1)) A 2 σ 2 [(0, kr E l0), (1, .int l1)] []) {σ : kdM} {l0 : Nat} {l1 : Int32} (h : X3_improve_2B G k2 l0 l1 σ = some (r, σ1)) : SW E G (.inl (some (.int r), σ1)) A 2 σ 2 [(0, kr E l0), (1, .int l1)] [] := by
  unfold X3_improve_2B at h
  refine r_iload_n hX dX3_improve_2 rfl 1 rfl ?_
  refine r_sipush hX dX3_improve_3 kk_s_5040 ?_
  refine r_icmp_ge (tgt := 22) hX dX3_improve_6 (by decide) h ?_ ?_
  · clear h; intro h
    refine r_sub [1] rfl ?_
    exact wX3_improve_22 hX h
  · clear h; intro h
    refine r_aload_n hX dX3_improve_9 rfl 0 rfl ?_
    refine r_cVi (As := []) (st := []) hX dX3_improve_10 kl_X3_improveOnce w_ml_X3_78 w_im_X3_improveOnce w_se_X3_improveOnce ⟨_, _, rfl⟩ (by decide) rfl (Nat.le_of_ble_eq_true rfl) rfl kdz0 h (fun r σ1 h => wX3_improveOnce h) ?_
    clear h; intro t1 σ h
    refine r_if_eq (tgt := 22) hX dX3_improve_13 (by decide) h ?_ ?_
    · clear h; intro h
      refine r_sub [1] rfl ?_
      exact wX3_improve_22 hX h
    · clear h; intro h
      refine r_iincL (L2 := fun t2 => [(1, .int t2), (0, kr E l0)]) hX dX3_improve_16 h 1 rfl (by decide) (fun _ => rfl) ?_
      clear h; intro t2 h
      refine r_goto (tgt := 2) hX dX3_improve_19 (by decide) ?_
      refine r_sub [1, 0] rfl ?_
      exact hk2 _ _ _ h
def X3_improve_2 (G : kdS) : Nat → Int32 → kdM → Option (Int32 × kdM) := lp (fun _ _ _ => none) (X3_improve_2B G) NN
theorem wX3_improve_2 {E : kdE} {G : kdS} {A : kdA} {r : Int32} {σ1 : kdM} (hX : kdX E A cX3_improve 2 RX3 (some .int) 5) : ∀ (l0 : Nat) (l1 : Int32) (σ : kdM), X3_improve_2 G l0 l1 σ = some (r, σ1) → SW E G (.inl (some (.int r), σ1)) A 2 σ 2 [(0, kr E l0), (1, .int l1)] [] :=
  lp_ind (Q := fun f => ∀ (l0 : Nat) (l1 : Int32) (σ : kdM), f l0 l1 σ = some (r, σ1) → SW E G (.inl (some (.int r), σ1)) A 2 σ 2 [(0, kr E l0), (1, .int l1)] []) (by intros; contradiction) (fun k hk l0 l1 σ h => wX3_improve_2B hX k hk h) NN
def X3_improve (G : kdS) (l0 : Nat) : kdM → Option (Int32 × kdM) :=
  X3_improve_2 G l0 (0 : Int32)
set_option maxRecDepth 100000 in
set_option maxHeartbeats 4000000 in
theorem wX3_improve {E : kdE} {G : kdS} {l0 : Nat} {σ : kdM} {r : Int32} {σ1 : kdM} (h : X3_improve G l0 σ = some (r, σ1)) : Con E G yX3_improve cX3_improve 2 (some .int) 5 [kr E l0] σ (some (.int r), σ1) := by
  refine kd_head (own := RX3) rfl (by decide +kernel) (Nat.le_of_ble_eq_true rfl) (fun A hX => ?_)
  show SW E G (.inl (some (.int r), σ1)) A 2 σ 0 [(0, kr E l0)] []
  unfold X3_improve at h
  refine r_iconst hX dX3_improve_0 kk_i_0 ?_
  refine r_istore_n (L2 := [(1, .int (0 : Int32)), (0, kr E l0)]) hX dX3_improve_1 rfl (by decide) rfl ?_
  refine r_sub [1, 0] rfl ?_
  exact wX3_improve_2 hX _ _ _ h
def X3_startAtFirst_2B (G : kdS) (k2 : Nat → Int32 → kdM → Option (Unit × kdM)) (l0 : Nat) (l1 : Int32) : kdM → Option (Unit × kdM) :=
  gI G 3 0 l0 fun t1 =>
  cnd (t1 ≤ l1)
    (rt ())
    (gR G 3 6 l0 fun t2 =>
    tI G t2 (l1) (l1) <|
    ltI (l1 + Int32.ofInt 1) fun t3 =>
    k2 l0 t3)
set_option maxRecDepth 100000 in
set_option maxHeartbeats 4000000 in
theorem wX3_startAtFirst_2B {E : kdE} {G : kdS} {A : kdA} {r : Unit} {σ1 : kdM} (hX : kdX E A cX3_startAtFirst 2 RX3 none 0) (k2 : Nat → Int32 → kdM → Option (Unit × kdM)) (hk2 : ∀ (l0 : Nat) (l1 : Int32) (σ : kdM), k2 l0 l1 σ = some (r, σ1) → SW E G (.inl (none, σ1)) A 2 σ 2 [(0, kr E l0), (1, .int l1)] []) {σ : kdM} {l0 : Nat} {l1 : Int32} (h : X3_startAtFirst_2B G k2 l0 l1 σ = some (r, σ1)) : SW E G (.inl (none, σ1)) A 2 σ 2 [(0, kr E l0), (1, .int l1)] [] := by
  unfold X3_startAtFirst_2B at h
  refine r_iload_n hX dX3_startAtFirst_2 rfl 1 rfl ?_
  refine r_aload_n hX dX3_startAtFirst_3 rfl 0 rfl ?_
  refine r_gI hX dX3_startAtFirst_4 kf_X3_37 rfl h ?_
  clear h; intro t1 h
  refine r_icmp_ge (tgt := 23) hX dX3_startAtFirst_7 (by decide) h ?_ ?_
  · clear h; intro h
    exact r_vret hX dX3_startAtFirst_23 h
  · clear h; intro h
    refine r_aload_n hX dX3_startAtFirst_10 rfl 0 rfl ?_
    refine r_gR hX dX3_startAtFirst_11 kf_X3_30 rfl h ?_
    clear h; intro t2 h
    refine r_iload_n hX dX3_startAtFirst_14 rfl 1 rfl ?_
    refine r_iload_n hX dX3_startAtFirst_15 rfl 1 rfl ?_
    refine r_tI hX dX3_startAtFirst_16 h ?_
    clear h; intro σ h
    refine r_iincL (L2 := fun t3 => [(1, .int t3), (0, kr E l0)]) hX dX3_startAtFirst_17 h 1 rfl (by decide) (fun _ => rfl) ?_
    clear h; intro t3 h
    refine r_goto (tgt := 2) hX dX3_startAtFirst_20 (by decide) ?_
    refine r_sub [1, 0] rfl ?_
    exact hk2 _ _ _ h
def X3_startAtFirst_2 (G : kdS) : Nat → Int32 → kdM → Option (Unit × kdM) := lp (fun _ _ _ => none) (X3_startAtFirst_2B G) NN
theorem wX3_startAtFirst_2 {E : kdE} {G : kdS} {A : kdA} {r : Unit} {σ1 : kdM} (hX : kdX E A cX3_startAtFirst 2 RX3 none 0) : ∀ (l0 : Nat) (l1 : Int32) (σ : kdM), X3_startAtFirst_2 G l0 l1 σ = some (r, σ1) → SW E G (.inl (none, σ1)) A 2 σ 2 [(0, kr E l0), (1, .int l1)] [] :=
  lp_ind (Q := fun f => ∀ (l0 : Nat) (l1 : Int32) (σ : kdM), f l0 l1 σ = some (r, σ1) → SW E G (.inl (none, σ1)) A 2 σ 2 [(0, kr E l0), (1, .int l1)] []) (by intros; contradiction) (fun k hk l0 l1 σ h => wX3_startAtFirst_2B hX k hk h) NN
def X3_startAtFirst (G : kdS) (l0 : Nat) : kdM → Option (Unit × kdM) :=
  X3_startAtFirst_2 G l0 (0 : Int32)
set_option maxRecDepth 100000 in
set_option maxHeartbeats 4000000 in
theorem wX3_startAtFirst {E : kdE} {G : kdS} {l0 : Nat} {σ : kdM} {r : Unit} {σ1 : kdM} (h : X3_startAtFirst G l0 σ = some (r, σ1)) : Con E G yX3_startAtFirst cX3_startAtFirst 2 none 0 [kr E l0] σ (none, σ1) := by
  refine kd_head (own := RX3) rfl (by decide +kernel) (Nat.le_of_ble_eq_true rfl) (fun A hX => ?_)
  show SW E G (.inl (none, σ1)) A 2 σ 0 [(0, kr E l0)] []
  unfold X3_startAtFirst at h
  refine r_iconst hX dX3_startAtFirst_0 kk_i_0 ?_
  refine r_istore_n (L2 := [(1, .int (0 : Int32)), (0, kr E l0)]) hX dX3_startAtFirst_1 rfl (by decide) rfl ?_
  refine r_sub [1, 0] rfl ?_
  exact wX3_startAtFirst_2 hX _ _ _ h
def X3_stepOn_91B (G : kdS) (k91 : Nat → Int32 → Int32 → kdM → Option (Int32 × kdM)) (l0 : Nat) (l3 : Int32) (l4 : Int32) : kdM → Option (Int32 × kdM) :=
  cnd (l4 ≤ l3)
    (rt (vp_nar .boolean (1 : Int32)))
    (kcv G 3 l0 (X3_exchange G l0 l3 l4) fun _ =>
    ltI (l3 + Int32.ofInt 1) fun t1 =>
    ltI (l4 + Int32.ofInt (-1)) fun t2 =>
    k91 l0 t1 t2)
set_option maxRecDepth 100000 in
set_option maxHeartbeats 4000000 in
theorem wX3_stepOn_91B {E : kdE} {G : kdS} {A : kdA} {r : Int32} {σ1 : kdM} (hX : kdX E A cX3_stepOn 5 RX3 (some .boolean) 1) (k91 : Nat → Int32 → Int32 → kdM → Option (Int32 × kdM)) (hk91 : ∀ (l0 : Nat) (l3 : Int32) (l4 : Int32) (σ : kdM), k91 l0 l3 l4 σ = some (r, σ1) → SW E G (.inl (some (.int r), σ1)) A 5 σ 91 [(0, kr E l0), (3, .int l3), (4, .int l4)] []) {σ : kdM} {l0 : Nat} {l3 : Int32} {l4 : Int32} (h : X3_stepOn_91B G k91 l0 l3 l4 σ = some (r, σ1)) : SW E G (.inl (some (.int r), σ1)) A 5 σ 91 [(0, kr E l0), (3, .int l3), (4, .int l4)] [] := by
  unfold X3_stepOn_91B at h
  refine r_iload_n hX dX3_stepOn_91 rfl 1 rfl ?_
  refine r_iload hX dX3_stepOn_92 2 rfl ?_
  refine r_icmp_ge (tgt := 113) hX dX3_stepOn_94 (by decide) h ?_ ?_
  · clear h; intro h
    refine r_iconst hX dX3_stepOn_113 kk_i_1 ?_
    exact r_zret hX dX3_stepOn_114 h
  · clear h; intro h
    refine r_aload_n hX dX3_stepOn_97 rfl 0 rfl ?_
    refine r_iload_n hX dX3_stepOn_98 rfl 1 rfl ?_
    refine r_iload hX dX3_stepOn_99 2 rfl ?_
    refine r_cVv (As := [.int l3, .int l4]) (st := []) hX dX3_stepOn_101 kl_X3_exchange w_ml_X3_85 w_im_X3_exchange w_se_X3_exchange ⟨_, _, rfl⟩ (by decide) rfl (Nat.le_of_ble_eq_true rfl) rfl kdz0 h (fun r σ1 h => wX3_exchange h) ?_
    clear h; intro u σ h
    refine r_iincL (L2 := fun t1 => [(3, .int t1), (0, kr E l0), (4, .int l4)]) hX dX3_stepOn_104 h 1 rfl (by decide) (fun _ => rfl) ?_
    clear h; intro t1 h
    refine r_iincL (L2 := fun t2 => [(4, .int t2), (3, .int t1), (0, kr E l0)]) hX dX3_stepOn_107 h 2 rfl (by decide) (fun _ => rfl) ?_
    clear h; intro t2 h
    refine r_goto (tgt := 91) hX dX3_stepOn_110 (by decide) ?_
    refine r_sub [2, 1, 0] rfl ?_
    exact hk91 _ _ _ _ h
def X3_stepOn_91 (G : kdS) : Nat → Int32 → Int32 → kdM → Option (Int32 × kdM) := lp (fun _ _ _ _ => none) (X3_stepOn_91B G) NN
theorem wX3_stepOn_91 {E : kdE} {G : kdS} {A : kdA} {r : Int32} {σ1 : kdM} (hX : kdX E A cX3_stepOn 5 RX3 (some .boolean) 1) : ∀ (l0 : Nat) (l3 : Int32) (l4 : Int32) (σ : kdM), X3_stepOn_91 G l0 l3 l4 σ = some (r, σ1) → SW E G (.inl (some (.int r), σ1)) A 5 σ 91 [(0, kr E l0), (3, .int l3), (4, .int l4)] [] :=
  lp_ind (Q := fun f => ∀ (l0 : Nat) (l3 : Int32) (l4 : Int32) (σ : kdM), f l0 l3 l4 σ = some (r, σ1) → SW E G (.inl (some (.int r), σ1)) A 5 σ 91 [(0, kr E l0), (3, .int l3), (4, .int l4)] []) (by intros; contradiction) (fun k hk l0 l3 l4 σ h => wX3_stepOn_91B hX k hk h) NN
def X3_stepOn_73 (G : kdS) (l0 : Nat) (l1 : Int32) (l2 : Int32) : kdM → Option (Int32 × kdM) :=
  kcv G 3 l0 (X3_exchange G l0 l1 l2) fun _ =>
  ltI ((l1 + (1 : Int32))) fun t1 =>
  gI G 3 0 l0 fun t2 =>
  ltI ((t2 - (1 : Int32))) fun t3 =>
  X3_stepOn_91 G l0 t1 t3
set_option maxRecDepth 100000 in
set_option maxHeartbeats 4000000 in
theorem wX3_stepOn_73 {E : kdE} {G : kdS} {A : kdA} {r : Int32} {σ1 : kdM} (hX : kdX E A cX3_stepOn 5 RX3 (some .boolean) 1) {σ : kdM} {l0 : Nat} {l1 : Int32} {l2 : Int32} (h : X3_stepOn_73 G l0 l1 l2 σ = some (r, σ1)) : SW E G (.inl (some (.int r), σ1)) A 5 σ 73 [(0, kr E l0), (1, .int l1), (2, .int l2)] [] := by
  unfold X3_stepOn_73 at h
  refine r_aload_n hX dX3_stepOn_73 rfl 0 rfl ?_
  refine r_iload_n hX dX3_stepOn_74 rfl 1 rfl ?_
  refine r_iload_n hX dX3_stepOn_75 rfl 2 rfl ?_
  refine r_cVv (As := [.int l1, .int l2]) (st := []) hX dX3_stepOn_76 kl_X3_exchange w_ml_X3_85 w_im_X3_exchange w_se_X3_exchange ⟨_, _, rfl⟩ (by decide) rfl (Nat.le_of_ble_eq_true rfl) rfl kdz0 h (fun r σ1 h => wX3_exchange h) ?_
  clear h; intro u σ h
  refine r_iload_n hX dX3_stepOn_79 rfl 1 rfl ?_
  refine r_iconst hX dX3_stepOn_80 kk_i_1 ?_
  refine r_iadd hX dX3_stepOn_81 ?_
  refine r_letI h ?_
  clear h; intro t1 h
  refine r_istore_n (L2 := [(3, .int t1), (0, kr E l0), (1, .int l1), (2, .int l2)]) hX dX3_stepOn_82 rfl (by decide) rfl ?_
  refine r_aload_n hX dX3_stepOn_83 rfl 1 rfl ?_
  refine r_gI hX dX3_stepOn_84 kf_X3_37 rfl h ?_
  clear h; intro t2 h
  refine r_iconst hX dX3_stepOn_87 kk_i_1 ?_
  refine r_isub hX dX3_stepOn_88 ?_
  refine r_letI h ?_
  clear h; intro t3 h
  refine r_istore (L2 := [(4, .int t3), (3, .int t1), (0, kr E l0), (1, .int l1), (2, .int l2)]) hX dX3_stepOn_89 (by decide) rfl ?_
  refine r_sub [2, 1, 0] rfl ?_
  exact wX3_stepOn_91 hX _ _ _ _ h
def X3_stepOn_47B (G : kdS) (k47 : Nat → Int32 → Int32 → kdM → Option (Int32 × kdM)) (l0 : Nat) (l1 : Int32) (l2 : Int32) : kdM → Option (Int32 × kdM) :=
  cnd (l2 ≤ l1)
    (X3_stepOn_73 G l0 l1 l2)
    (gR G 3 6 l0 fun t1 =>
    aI G t1 (l2) fun t2 =>
    gR G 3 6 l0 fun t3 =>
    aI G t3 (l1) fun t4 =>
    cnd (t4 ≤ t2)
      (X3_stepOn_73 G l0 l1 l2)
      (ltI (l2 + Int32.ofInt (-1)) fun t5 =>
      k47 l0 l1 t5))
set_option maxRecDepth 100000 in
set_option maxHeartbeats 4000000 in
theorem wX3_stepOn_47B {E : kdE} {G : kdS} {A : kdA} {r : Int32} {σ1 : kdM} (hX : kdX E A cX3_stepOn 5 RX3 (some .boolean) 1) (k47 : Nat → Int32 → Int32 → kdM → Option (Int32 × kdM)) (hk47 : ∀ (l0 : Nat) (l1 : Int32) (l2 : Int32) (σ : kdM), k47 l0 l1 l2 σ = some (r, σ1) → SW E G (.inl (some (.int r), σ1)) A 5 σ 47 [(0, kr E l0), (1, .int l1), (2, .int l2)] []) {σ : kdM} {l0 : Nat} {l1 : Int32} {l2 : Int32} (h : X3_stepOn_47B G k47 l0 l1 l2 σ = some (r, σ1)) : SW E G (.inl (some (.int r), σ1)) A 5 σ 47 [(0, kr E l0), (1, .int l1), (2, .int l2)] [] := by
  unfold X3_stepOn_47B at h
  refine r_iload_n hX dX3_stepOn_47 rfl 2 rfl ?_
  refine r_iload_n hX dX3_stepOn_48 rfl 1 rfl ?_
  refine r_icmp_le (tgt := 73) hX dX3_stepOn_49 (by decide) h ?_ ?_
  · clear h; intro h
    refine r_sub [0, 1, 2] rfl ?_
    exact wX3_stepOn_73 hX h
  · clear h; intro h
    refine r_aload_n hX dX3_stepOn_52 rfl 0 rfl ?_
    refine r_gR hX dX3_stepOn_53 kf_X3_30 rfl h ?_
    clear h; intro t1 h
    refine r_iload_n hX dX3_stepOn_56 rfl 2 rfl ?_
    refine r_aI hX dX3_stepOn_57 h ?_
    clear h; intro t2 h
    refine r_aload_n hX dX3_stepOn_58 rfl 0 rfl ?_
    refine r_gR hX dX3_stepOn_59 kf_X3_30 rfl h ?_
    clear h; intro t3 h
    refine r_iload_n hX dX3_stepOn_62 rfl 1 rfl ?_
    refine r_aI hX dX3_stepOn_63 h ?_
    clear h; intro t4 h
    refine r_icmp_ge (tgt := 73) hX dX3_stepOn_64 (by decide) h ?_ ?_
    · clear h; intro h
      refine r_sub [0, 1, 2] rfl ?_
      exact wX3_stepOn_73 hX h
    · clear h; intro h
      refine r_iincL (L2 := fun t5 => [(2, .int t5), (0, kr E l0), (1, .int l1)]) hX dX3_stepOn_67 h 2 rfl (by decide) (fun _ => rfl) ?_
      clear h; intro t5 h
      refine r_goto (tgt := 47) hX dX3_stepOn_70 (by decide) ?_
      refine r_sub [1, 2, 0] rfl ?_
      exact hk47 _ _ _ _ h
def X3_stepOn_47 (G : kdS) : Nat → Int32 → Int32 → kdM → Option (Int32 × kdM) := lp (fun _ _ _ _ => none) (X3_stepOn_47B G) NN
theorem wX3_stepOn_47 {E : kdE} {G : kdS} {A : kdA} {r : Int32} {σ1 : kdM} (hX : kdX E A cX3_stepOn 5 RX3 (some .boolean) 1) : ∀ (l0 : Nat) (l1 : Int32) (l2 : Int32) (σ : kdM), X3_stepOn_47 G l0 l1 l2 σ = some (r, σ1) → SW E G (.inl (some (.int r), σ1)) A 5 σ 47 [(0, kr E l0), (1, .int l1), (2, .int l2)] [] :=
  lp_ind (Q := fun f => ∀ (l0 : Nat) (l1 : Int32) (l2 : Int32) (σ : kdM), f l0 l1 l2 σ = some (r, σ1) → SW E G (.inl (some (.int r), σ1)) A 5 σ 47 [(0, kr E l0), (1, .int l1), (2, .int l2)] []) (by intros; contradiction) (fun k hk l0 l1 l2 σ h => wX3_stepOn_47B hX k hk h) NN
def X3_stepOn_34 (G : kdS) (l0 : Nat) (l1 : Int32) : kdM → Option (Int32 × kdM) :=
  cnd (0 ≤ l1)
    (gI G 3 0 l0 fun t1 =>
    ltI ((t1 - (1 : Int32))) fun t2 =>
    X3_stepOn_47 G l0 l1 t2)
    (rt (vp_nar .boolean (0 : Int32)))
set_option maxRecDepth 100000 in
set_option maxHeartbeats 4000000 in
theorem wX3_stepOn_34 {E : kdE} {G : kdS} {A : kdA} {r : Int32} {σ1 : kdM} (hX : kdX E A cX3_stepOn 5 RX3 (some .boolean) 1) {σ : kdM} {l0 : Nat} {l1 : Int32} (h : X3_stepOn_34 G l0 l1 σ = some (r, σ1)) : SW E G (.inl (some (.int r), σ1)) A 5 σ 34 [(0, kr E l0), (1, .int l1)] [] := by
  unfold X3_stepOn_34 at h
  refine r_iload_n hX dX3_stepOn_34 rfl 1 rfl ?_
  refine r_if_ge (tgt := 40) hX dX3_stepOn_35 (by decide) h ?_ ?_
  · clear h; intro h
    refine r_aload_n hX dX3_stepOn_40 rfl 0 rfl ?_
    refine r_gI hX dX3_stepOn_41 kf_X3_37 rfl h ?_
    clear h; intro t1 h
    refine r_iconst hX dX3_stepOn_44 kk_i_1 ?_
    refine r_isub hX dX3_stepOn_45 ?_
    refine r_letI h ?_
    clear h; intro t2 h
    refine r_istore_n (L2 := [(2, .int t2), (0, kr E l0), (1, .int l1)]) hX dX3_stepOn_46 rfl (by decide) rfl ?_
    refine r_sub [1, 2, 0] rfl ?_
    exact wX3_stepOn_47 hX _ _ _ _ h
  · clear h; intro h
    refine r_iconst hX dX3_stepOn_38 kk_i_0 ?_
    exact r_zret hX dX3_stepOn_39 h
def X3_stepOn_7B (G : kdS) (k7 : Nat → Int32 → kdM → Option (Int32 × kdM)) (l0 : Nat) (l1 : Int32) : kdM → Option (Int32 × kdM) :=
  cnd (l1 < 0)
    (X3_stepOn_34 G l0 l1)
    (gR G 3 6 l0 fun t1 =>
    aI G t1 (l1) fun t2 =>
    gR G 3 6 l0 fun t3 =>
    aI G t3 ((l1 + (1 : Int32))) fun t4 =>
    cnd (t2 ≤ t4)
      (X3_stepOn_34 G l0 l1)
      (ltI (l1 + Int32.ofInt (-1)) fun t5 =>
      k7 l0 t5))
set_option maxRecDepth 100000 in
set_option maxHeartbeats 4000000 in
theorem wX3_stepOn_7B {E : kdE} {G : kdS} {A : kdA} {r : Int32} {σ1 : kdM} (hX : kdX E A cX3_stepOn 5 RX3 (some .boolean) 1) (k7 : Nat → Int32 → kdM → Option (Int32 × kdM)) (hk7 : ∀ (l0 : Nat) (l1 : Int32) (σ : kdM), k7 l0 l1 σ = some (r, σ1) → SW E G (.inl (some (.int r), σ1)) A 5 σ 7 [(0, kr E l0), (1, .int l1)] []) {σ : kdM} {l0 : Nat} {l1 : Int32} (h : X3_stepOn_7B G k7 l0 l1 σ = some (r, σ1)) : SW E G (.inl (some (.int r), σ1)) A 5 σ 7 [(0, kr E l0), (1, .int l1)] [] := by
  unfold X3_stepOn_7B at h
  refine r_iload_n hX dX3_stepOn_7 rfl 1 rfl ?_
  refine r_if_lt (tgt := 34) hX dX3_stepOn_8 (by decide) h ?_ ?_
  · clear h; intro h
    refine r_sub [0, 1] rfl ?_
    exact wX3_stepOn_34 hX h
  · clear h; intro h
    refine r_aload_n hX dX3_stepOn_11 rfl 0 rfl ?_
    refine r_gR hX dX3_stepOn_12 kf_X3_30 rfl h ?_
    clear h; intro t1 h
    refine r_iload_n hX dX3_stepOn_15 rfl 1 rfl ?_
    refine r_aI hX dX3_stepOn_16 h ?_
    clear h; intro t2 h
    refine r_aload_n hX dX3_stepOn_17 rfl 0 rfl ?_
    refine r_gR hX dX3_stepOn_18 kf_X3_30 rfl h ?_
    clear h; intro t3 h
    refine r_iload_n hX dX3_stepOn_21 rfl 1 rfl ?_
    refine r_iconst hX dX3_stepOn_22 kk_i_1 ?_
    refine r_iadd hX dX3_stepOn_23 ?_
    refine r_aI hX dX3_stepOn_24 h ?_
    clear h; intro t4 h
    refine r_icmp_le (tgt := 34) hX dX3_stepOn_25 (by decide) h ?_ ?_
    · clear h; intro h
      refine r_sub [0, 1] rfl ?_
      exact wX3_stepOn_34 hX h
    · clear h; intro h
      refine r_iincL (L2 := fun t5 => [(1, .int t5), (0, kr E l0)]) hX dX3_stepOn_28 h 1 rfl (by decide) (fun _ => rfl) ?_
      clear h; intro t5 h
      refine r_goto (tgt := 7) hX dX3_stepOn_31 (by decide) ?_
      refine r_sub [1, 0] rfl ?_
      exact hk7 _ _ _ h
def X3_stepOn_7 (G : kdS) : Nat → Int32 → kdM → Option (Int32 × kdM) := lp (fun _ _ _ => none) (X3_stepOn_7B G) NN
theorem wX3_stepOn_7 {E : kdE} {G : kdS} {A : kdA} {r : Int32} {σ1 : kdM} (hX : kdX E A cX3_stepOn 5 RX3 (some .boolean) 1) : ∀ (l0 : Nat) (l1 : Int32) (σ : kdM), X3_stepOn_7 G l0 l1 σ = some (r, σ1) → SW E G (.inl (some (.int r), σ1)) A 5 σ 7 [(0, kr E l0), (1, .int l1)] [] :=
  lp_ind (Q := fun f => ∀ (l0 : Nat) (l1 : Int32) (σ : kdM), f l0 l1 σ = some (r, σ1) → SW E G (.inl (some (.int r), σ1)) A 5 σ 7 [(0, kr E l0), (1, .int l1)] []) (by intros; contradiction) (fun k hk l0 l1 σ h => wX3_stepOn_7B hX k hk h) NN
def X3_stepOn (G : kdS) (l0 : Nat) : kdM → Option (Int32 × kdM) :=
  gI G 3 0 l0 fun t1 =>
  ltI ((t1 - (2 : Int32))) fun t2 =>
  X3_stepOn_7 G l0 t2
set_option maxRecDepth 100000 in
set_option maxHeartbeats 4000000 in
theorem wX3_stepOn {E : kdE} {G : kdS} {l0 : Nat} {σ : kdM} {r : Int32} {σ1 : kdM} (h : X3_stepOn G l0 σ = some (r, σ1)) : Con E G yX3_stepOn cX3_stepOn 5 (some .boolean) 1 [kr E l0] σ (some (.int r), σ1) := by
  refine kd_head (own := RX3) rfl (by decide +kernel) (Nat.le_of_ble_eq_true rfl) (fun A hX => ?_)
  show SW E G (.inl (some (.int r), σ1)) A 5 σ 0 [(0, kr E l0)] []
  unfold X3_stepOn at h
  refine r_aload_n hX dX3_stepOn_0 rfl 0 rfl ?_
  refine r_gI hX dX3_stepOn_1 kf_X3_37 rfl h ?_
  clear h; intro t1 h
  refine r_iconst hX dX3_stepOn_4 kk_i_2 ?_
  refine r_isub hX dX3_stepOn_5 ?_
  refine r_letI h ?_
  clear h; intro t2 h
  refine r_istore_n (L2 := [(1, .int t2), (0, kr E l0)]) hX dX3_stepOn_6 rfl (by decide) rfl ?_
  refine r_sub [1, 0] rfl ?_
  exact wX3_stepOn_7 hX _ _ _ h
def X3_rank_50 (G : kdS) (k4 : Nat → Int32 → Int32 → kdM → Option (Int32 × kdM)) (k19 : Nat → Int32 → Int32 → Int32 → Int32 → kdM → Option (Int32 × kdM)) (l0 : Nat) (l1 : Int32) (l2 : Int32) (l4 : Int32) (s0 : Int32) (s1 : Int32) : kdM → Option (Int32 × kdM) :=
  ltI ((s0 + s1)) fun t1 =>
  ltI (l4 + Int32.ofInt 1) fun t2 =>
  k19 l0 l1 l2 t1 t2
set_option maxRecDepth 100000 in
set_option maxHeartbeats 4000000 in
theorem wX3_rank_50 {E : kdE} {G : kdS} {A : kdA} {r : Int32} {σ1 : kdM} (hX : kdX E A cX3_rank 5 RX3 (some .int) 0) (k4 : Nat → Int32 → Int32 → kdM → Option (Int32 × kdM)) (k19 : Nat → Int32 → Int32 → Int32 → Int32 → kdM → Option (Int32 × kdM)) (hk4 : ∀ (l0 : Nat) (l1 : Int32) (l2 : Int32) (σ : kdM), k4 l0 l1 l2 σ = some (r, σ1) → SW E G (.inl (some (.int r), σ1)) A 5 σ 4 [(0, kr E l0), (1, .int l1), (2, .int l2)] []) (hk19 : ∀ (l0 : Nat) (l1 : Int32) (l2 : Int32) (l3 : Int32) (l4 : Int32) (σ : kdM), k19 l0 l1 l2 l3 l4 σ = some (r, σ1) → SW E G (.inl (some (.int r), σ1)) A 5 σ 19 [(0, kr E l0), (1, .int l1), (2, .int l2), (3, .int l3), (4, .int l4)] []) {σ : kdM} {l0 : Nat} {l1 : Int32} {l2 : Int32} {l4 : Int32} {s0 : Int32} {s1 : Int32} (h : X3_rank_50 G k4 k19 l0 l1 l2 l4 s0 s1 σ = some (r, σ1)) : SW E G (.inl (some (.int r), σ1)) A 5 σ 50 [(0, kr E l0), (1, .int l1), (2, .int l2), (4, .int l4)] [.int s1, .int s0] := by
  unfold X3_rank_50 at h
  refine r_iadd hX dX3_rank_50 ?_
  refine r_letI h ?_
  clear h; intro t1 h
  refine r_istore_n (L2 := [(3, .int t1), (0, kr E l0), (1, .int l1), (2, .int l2), (4, .int l4)]) hX dX3_rank_51 rfl (by decide) rfl ?_
  refine r_iincL (L2 := fun t2 => [(4, .int t2), (3, .int t1), (0, kr E l0), (1, .int l1), (2, .int l2)]) hX dX3_rank_52 h 4 rfl (by decide) (fun _ => rfl) ?_
  clear h; intro t2 h
  refine r_goto (tgt := 19) hX dX3_rank_55 (by decide) ?_
  refine r_sub [2, 3, 4, 1, 0] rfl ?_
  exact hk19 _ _ _ _ _ _ h
def X3_rank_19B (G : kdS) (k4 : Nat → Int32 → Int32 → kdM → Option (Int32 × kdM)) (k19 : Nat → Int32 → Int32 → Int32 → Int32 → kdM → Option (Int32 × kdM)) (l0 : Nat) (l1 : Int32) (l2 : Int32) (l3 : Int32) (l4 : Int32) : kdM → Option (Int32 × kdM) :=
  gI G 3 0 l0 fun t1 =>
  cnd (t1 ≤ l4)
    (gI G 3 0 l0 fun t2 =>
    ltI (((l1 * (t2 - l2)) + l3)) fun t3 =>
    ltI (l2 + Int32.ofInt 1) fun t4 =>
    k4 l0 t3 t4)
    (gR G 3 6 l0 fun t5 =>
    aI G t5 (l4) fun t6 =>
    gR G 3 6 l0 fun t7 =>
    aI G t7 (l2) fun t8 =>
    cnd (t8 ≤ t6)
      (X3_rank_50 G k4 k19 l0 l1 l2 l4 l3 (0 : Int32))
      (X3_rank_50 G k4 k19 l0 l1 l2 l4 l3 (1 : Int32)))
set_option maxRecDepth 100000 in
set_option maxHeartbeats 4000000 in
theorem wX3_rank_19B {E : kdE} {G : kdS} {A : kdA} {r : Int32} {σ1 : kdM} (hX : kdX E A cX3_rank 5 RX3 (some .int) 0) (k4 : Nat → Int32 → Int32 → kdM → Option (Int32 × kdM)) (k19 : Nat → Int32 → Int32 → Int32 → Int32 → kdM → Option (Int32 × kdM)) (hk4 : ∀ (l0 : Nat) (l1 : Int32) (l2 : Int32) (σ : kdM), k4 l0 l1 l2 σ = some (r, σ1) → SW E G (.inl (some (.int r), σ1)) A 5 σ 4 [(0, kr E l0), (1, .int l1), (2, .int l2)] []) (hk19 : ∀ (l0 : Nat) (l1 : Int32) (l2 : Int32) (l3 : Int32) (l4 : Int32) (σ : kdM), k19 l0 l1 l2 l3 l4 σ = some (r, σ1) → SW E G (.inl (some (.int r), σ1)) A 5 σ 19 [(0, kr E l0), (1, .int l1), (2, .int l2), (3, .int l3), (4, .int l4)] []) {σ : kdM} {l0 : Nat} {l1 : Int32} {l2 : Int32} {l3 : Int32} {l4 : Int32} (h : X3_rank_19B G k4 k19 l0 l1 l2 l3 l4 σ = some (r, σ1)) : SW E G (.inl (some (.int r), σ1)) A 5 σ 19 [(0, kr E l0), (1, .int l1), (2, .int l2), (3, .int l3), (4, .int l4)] [] := by
  unfold X3_rank_19B at h
  refine r_iload hX dX3_rank_19 4 rfl ?_
  refine r_aload_n hX dX3_rank_21 rfl 0 rfl ?_
  refine r_gI hX dX3_rank_22 kf_X3_37 rfl h ?_
  clear h; intro t1 h
  refine r_icmp_ge (tgt := 58) hX dX3_rank_25 (by decide) h ?_ ?_
  · clear h; intro h
    refine r_iload_n hX dX3_rank_58 rfl 1 rfl ?_
    refine r_aload_n hX dX3_rank_59 rfl 0 rfl ?_
    refine r_gI hX dX3_rank_60 kf_X3_37 rfl h ?_
    clear h; intro t2 h
    refine r_iload_n hX dX3_rank_63 rfl 2 rfl ?_
    refine r_isub hX dX3_rank_64 ?_
    refine r_imul hX dX3_rank_65 ?_
    refine r_iload_n hX dX3_rank_66 rfl 3 rfl ?_
    refine r_iadd hX dX3_rank_67 ?_
    refine r_letI h ?_
    clear h; intro t3 h
    refine r_istore_n (L2 := [(1, .int t3), (0, kr E l0), (2, .int l2), (3, .int l3), (4, .int l4)]) hX dX3_rank_68 rfl (by decide) rfl ?_
    refine r_iincL (L2 := fun t4 => [(2, .int t4), (1, .int t3), (0, kr E l0), (3, .int l3), (4, .int l4)]) hX dX3_rank_69 h 2 rfl (by decide) (fun _ => rfl) ?_
    clear h; intro t4 h
    refine r_goto (tgt := 4) hX dX3_rank_72 (by decide) ?_
    refine r_sub [2, 1, 0] rfl ?_
    exact hk4 _ _ _ _ h
  · clear h; intro h
    refine r_iload_n hX dX3_rank_28 rfl 3 rfl ?_
    refine r_aload_n hX dX3_rank_29 rfl 0 rfl ?_
    refine r_gR hX dX3_rank_30 kf_X3_30 rfl h ?_
    clear h; intro t5 h
    refine r_iload hX dX3_rank_33 4 rfl ?_
    refine r_aI hX dX3_rank_35 h ?_
    clear h; intro t6 h
    refine r_aload_n hX dX3_rank_36 rfl 0 rfl ?_
    refine r_gR hX dX3_rank_37 kf_X3_30 rfl h ?_
    clear h; intro t7 h
    refine r_iload_n hX dX3_rank_40 rfl 2 rfl ?_
    refine r_aI hX dX3_rank_41 h ?_
    clear h; intro t8 h
    refine r_icmp_ge (tgt := 49) hX dX3_rank_42 (by decide) h ?_ ?_
    · clear h; intro h
      refine r_iconst hX dX3_rank_49 kk_i_0 ?_
      refine r_sub [0, 1, 2, 4] rfl ?_
      exact wX3_rank_50 hX k4 k19 hk4 hk19 h
    · clear h; intro h
      refine r_iconst hX dX3_rank_45 kk_i_1 ?_
      refine r_goto (tgt := 50) hX dX3_rank_46 (by decide) ?_
      refine r_sub [0, 1, 2, 4] rfl ?_
      exact wX3_rank_50 hX k4 k19 hk4 hk19 h
def X3_rank_19 (G : kdS) (k4 : Nat → Int32 → Int32 → kdM → Option (Int32 × kdM)) : Nat → Int32 → Int32 → Int32 → Int32 → kdM → Option (Int32 × kdM) := lp (fun _ _ _ _ _ _ => none) (X3_rank_19B G k4) NN
theorem wX3_rank_19 {E : kdE} {G : kdS} {A : kdA} {r : Int32} {σ1 : kdM} (hX : kdX E A cX3_rank 5 RX3 (some .int) 0) (k4 : Nat → Int32 → Int32 → kdM → Option (Int32 × kdM)) (hk4 : ∀ (l0 : Nat) (l1 : Int32) (l2 : Int32) (σ : kdM), k4 l0 l1 l2 σ = some (r, σ1) → SW E G (.inl (some (.int r), σ1)) A 5 σ 4 [(0, kr E l0), (1, .int l1), (2, .int l2)] []) : ∀ (l0 : Nat) (l1 : Int32) (l2 : Int32) (l3 : Int32) (l4 : Int32) (σ : kdM), X3_rank_19 G k4 l0 l1 l2 l3 l4 σ = some (r, σ1) → SW E G (.inl (some (.int r), σ1)) A 5 σ 19 [(0, kr E l0), (1, .int l1), (2, .int l2), (3, .int l3), (4, .int l4)] [] :=
  lp_ind (Q := fun f => ∀ (l0 : Nat) (l1 : Int32) (l2 : Int32) (l3 : Int32) (l4 : Int32) (σ : kdM), f l0 l1 l2 l3 l4 σ = some (r, σ1) → SW E G (.inl (some (.int r), σ1)) A 5 σ 19 [(0, kr E l0), (1, .int l1), (2, .int l2), (3, .int l3), (4, .int l4)] []) (by intros; contradiction) (fun k hk l0 l1 l2 l3 l4 σ h => wX3_rank_19B hX k4 k hk4 hk h) NN
def X3_rank_4B (G : kdS) (k4 : Nat → Int32 → Int32 → kdM → Option (Int32 × kdM)) (l0 : Nat) (l1 : Int32) (l2 : Int32) : kdM → Option (Int32 × kdM) :=
  gI G 3 0 l0 fun t1 =>
  cnd (t1 ≤ l2)
    (rt l1)
    (ltI ((l2 + (1 : Int32))) fun t2 =>
    X3_rank_19 G k4 l0 l1 l2 (0 : Int32) t2)
set_option maxRecDepth 100000 in
set_option maxHeartbeats 4000000 in
theorem wX3_rank_4B {E : kdE} {G : kdS} {A : kdA} {r : Int32} {σ1 : kdM} (hX : kdX E A cX3_rank 5 RX3 (some .int) 0) (k4 : Nat → Int32 → Int32 → kdM → Option (Int32 × kdM)) (hk4 : ∀ (l0 : Nat) (l1 : Int32) (l2 : Int32) (σ : kdM), k4 l0 l1 l2 σ = some (r, σ1) → SW E G (.inl (some (.int r), σ1)) A 5 σ 4 [(0, kr E l0), (1, .int l1), (2, .int l2)] []) {σ : kdM} {l0 : Nat} {l1 : Int32} {l2 : Int32} (h : X3_rank_4B G k4 l0 l1 l2 σ = some (r, σ1)) : SW E G (.inl (some (.int r), σ1)) A 5 σ 4 [(0, kr E l0), (1, .int l1), (2, .int l2)] [] := by
  unfold X3_rank_4B at h
  refine r_iload_n hX dX3_rank_4 rfl 2 rfl ?_
  refine r_aload_n hX dX3_rank_5 rfl 0 rfl ?_
  refine r_gI hX dX3_rank_6 kf_X3_37 rfl h ?_
  clear h; intro t1 h
  refine r_icmp_ge (tgt := 75) hX dX3_rank_9 (by decide) h ?_ ?_
  · clear h; intro h
    refine r_iload_n hX dX3_rank_75 rfl 1 rfl ?_
    exact r_iret hX dX3_rank_76 h
  · clear h; intro h
    refine r_iconst hX dX3_rank_12 kk_i_0 ?_
    refine r_istore_n (L2 := [(3, .int (0 : Int32)), (0, kr E l0), (1, .int l1), (2, .int l2)]) hX dX3_rank_13 rfl (by decide) rfl ?_
    refine r_iload_n hX dX3_rank_14 rfl 3 rfl ?_
    refine r_iconst hX dX3_rank_15 kk_i_1 ?_
    refine r_iadd hX dX3_rank_16 ?_
    refine r_letI h ?_
    clear h; intro t2 h
    refine r_istore (L2 := [(4, .int t2), (3, .int (0 : Int32)), (0, kr E l0), (1, .int l1), (2, .int l2)]) hX dX3_rank_17 (by decide) rfl ?_
    refine r_sub [2, 3, 4, 1, 0] rfl ?_
    exact wX3_rank_19 hX k4 hk4 _ _ _ _ _ _ h
def X3_rank_4 (G : kdS) : Nat → Int32 → Int32 → kdM → Option (Int32 × kdM) := lp (fun _ _ _ _ => none) (X3_rank_4B G) NN
theorem wX3_rank_4 {E : kdE} {G : kdS} {A : kdA} {r : Int32} {σ1 : kdM} (hX : kdX E A cX3_rank 5 RX3 (some .int) 0) : ∀ (l0 : Nat) (l1 : Int32) (l2 : Int32) (σ : kdM), X3_rank_4 G l0 l1 l2 σ = some (r, σ1) → SW E G (.inl (some (.int r), σ1)) A 5 σ 4 [(0, kr E l0), (1, .int l1), (2, .int l2)] [] :=
  lp_ind (Q := fun f => ∀ (l0 : Nat) (l1 : Int32) (l2 : Int32) (σ : kdM), f l0 l1 l2 σ = some (r, σ1) → SW E G (.inl (some (.int r), σ1)) A 5 σ 4 [(0, kr E l0), (1, .int l1), (2, .int l2)] []) (by intros; contradiction) (fun k hk l0 l1 l2 σ h => wX3_rank_4B hX k hk h) NN
def X3_rank (G : kdS) (l0 : Nat) : kdM → Option (Int32 × kdM) :=
  X3_rank_4 G l0 (0 : Int32) (0 : Int32)
set_option maxRecDepth 100000 in
set_option maxHeartbeats 4000000 in
theorem wX3_rank {E : kdE} {G : kdS} {l0 : Nat} {σ : kdM} {r : Int32} {σ1 : kdM} (h : X3_rank G l0 σ = some (r, σ1)) : Con E G yX3_rank cX3_rank 5 (some .int) 0 [kr E l0] σ (some (.int r), σ1) := by
  refine kd_head (own := RX3) rfl (by decide +kernel) (Nat.le_of_ble_eq_true rfl) (fun A hX => ?_)
  show SW E G (.inl (some (.int r), σ1)) A 5 σ 0 [(0, kr E l0)] []
  unfold X3_rank at h
  refine r_iconst hX dX3_rank_0 kk_i_0 ?_
  refine r_istore_n (L2 := [(1, .int (0 : Int32)), (0, kr E l0)]) hX dX3_rank_1 rfl (by decide) rfl ?_
  refine r_iconst hX dX3_rank_2 kk_i_0 ?_
  refine r_istore_n (L2 := [(2, .int (0 : Int32)), (1, .int (0 : Int32)), (0, kr E l0)]) hX dX3_rank_3 rfl (by decide) rfl ?_
  refine r_sub [2, 1, 0] rfl ?_
  exact wX3_rank_4 hX _ _ _ _ h
def X9_peak (G : kdS) (l0 : Nat) : kdM → Option (Int32 × kdM) :=
  gI G 9 11 l0 fun t1 =>
  rt t1
set_option maxRecDepth 100000 in
set_option maxHeartbeats 4000000 in
theorem wX9_peak {E : kdE} {G : kdS} {l0 : Nat} {σ : kdM} {r : Int32} {σ1 : kdM} (h : X9_peak G l0 σ = some (r, σ1)) : Con E G yX9_peak cX9_peak 1 (some .int) 0 [kr E l0] σ (some (.int r), σ1) := by
  refine kd_head (own := RX9) rfl (by decide +kernel) (Nat.le_of_ble_eq_true rfl) (fun A hX => ?_)
  show SW E G (.inl (some (.int r), σ1)) A 1 σ 0 [(0, kr E l0)] []
  unfold X9_peak at h
  refine r_aload_n hX dX9_peak_0 rfl 0 rfl ?_
  refine r_gI hX dX9_peak_1 kf_X9_47 rfl h ?_
  clear h; intro t1 h
  exact r_iret hX dX9_peak_4 h
def X9_path (G : kdS) (l0 : Nat) : kdM → Option (Nat × kdM) :=
  gR G 9 8 l0 fun t1 =>
  rt t1
set_option maxRecDepth 100000 in
set_option maxHeartbeats 4000000 in
theorem wX9_path {E : kdE} {G : kdS} {l0 : Nat} {σ : kdM} {r : Nat} {σ1 : kdM} (h : X9_path G l0 σ = some (r, σ1)) : Con E G yX9_path cX9_path 1 (some (.object "KeyDesk$Row")) 0 [kr E l0] σ (some (kr E r), σ1) := by
  refine kd_head (own := RX9) rfl (by decide +kernel) (Nat.le_of_ble_eq_true rfl) (fun A hX => ?_)
  show SW E G (.inl (some (kr E r), σ1)) A 1 σ 0 [(0, kr E l0)] []
  unfold X9_path at h
  refine r_aload_n hX dX9_path_0 rfl 0 rfl ?_
  refine r_gR hX dX9_path_1 kf_X9_40 rfl h ?_
  clear h; intro t1 h
  exact r_aret hX dX9_path_4 h
def X9_neighbour (G : kdS) (l0 : Nat) (l1 : Int32) (l2 : Int32) : kdM → Option (Int32 × kdM) :=
  gR G 9 3 l0 fun t1 =>
  aI G t1 (((l1 * (10 : Int32)) + l2)) fun t2 =>
  rt t2
set_option maxRecDepth 100000 in
set_option maxHeartbeats 4000000 in
theorem wX9_neighbour {E : kdE} {G : kdS} {l0 : Nat} {l1 : Int32} {l2 : Int32} {σ : kdM} {r : Int32} {σ1 : kdM} (h : X9_neighbour G l0 l1 l2 σ = some (r, σ1)) : Con E G yX9_neighbour cX9_neighbour 3 (some .int) 0 [kr E l0, .int l1, .int l2] σ (some (.int r), σ1) := by
  refine kd_head (own := RX9) rfl (by decide +kernel) (Nat.le_of_ble_eq_true rfl) (fun A hX => ?_)
  show SW E G (.inl (some (.int r), σ1)) A 3 σ 0 [(0, kr E l0), (1, .int l1), (2, .int l2)] []
  unfold X9_neighbour at h
  refine r_aload_n hX dX9_neighbour_0 rfl 0 rfl ?_
  refine r_gR hX dX9_neighbour_1 kf_X9_18 rfl h ?_
  clear h; intro t1 h
  refine r_iload_n hX dX9_neighbour_4 rfl 1 rfl ?_
  refine r_bipush hX dX9_neighbour_5 kk_b_10 ?_
  refine r_imul hX dX9_neighbour_7 ?_
  refine r_iload_n hX dX9_neighbour_8 rfl 2 rfl ?_
  refine r_iadd hX dX9_neighbour_9 ?_
  refine r_aI hX dX9_neighbour_10 h ?_
  clear h; intro t2 h
  exact r_iret hX dX9_neighbour_11 h
def X9_countSteps_156 (G : kdS) : kdM → Option (Unit × kdM) :=
  rt ()
set_option maxRecDepth 100000 in
set_option maxHeartbeats 4000000 in
theorem wX9_countSteps_156 {E : kdE} {G : kdS} {A : kdA} {r : Unit} {σ1 : kdM} (hX : kdX E A cX9_countSteps 6 RX9 none 3) {σ : kdM} (h : X9_countSteps_156 G  σ = some (r, σ1)) : SW E G (.inl (none, σ1)) A 6 σ 156 [] [] := by
  unfold X9_countSteps_156 at h
  exact r_vret hX dX9_countSteps_156 h
def X9_countSteps_144 (G : kdS) (k48 : Nat → Int32 → kdM → Option (Unit × kdM)) (k77 : Nat → Int32 → Int32 → Int32 → kdM → Option (Unit × kdM)) (l0 : Nat) (l2 : Int32) (l3 : Int32) (l4 : Int32) : kdM → Option (Unit × kdM) :=
  ltI (l4 + Int32.ofInt 1) fun t1 =>
  k77 l0 l2 l3 t1
set_option maxRecDepth 100000 in
set_option maxHeartbeats 4000000 in
theorem wX9_countSteps_144 {E : kdE} {G : kdS} {A : kdA} {r : Unit} {σ1 : kdM} (hX : kdX E A cX9_countSteps 6 RX9 none 3) (k48 : Nat → Int32 → kdM → Option (Unit × kdM)) (k77 : Nat → Int32 → Int32 → Int32 → kdM → Option (Unit × kdM)) (hk48 : ∀ (l0 : Nat) (l2 : Int32) (σ : kdM), k48 l0 l2 σ = some (r, σ1) → SW E G (.inl (none, σ1)) A 6 σ 48 [(0, kr E l0), (2, .int l2)] []) (hk77 : ∀ (l0 : Nat) (l2 : Int32) (l3 : Int32) (l4 : Int32) (σ : kdM), k77 l0 l2 l3 l4 σ = some (r, σ1) → SW E G (.inl (none, σ1)) A 6 σ 77 [(0, kr E l0), (2, .int l2), (3, .int l3), (4, .int l4)] []) {σ : kdM} {l0 : Nat} {l2 : Int32} {l3 : Int32} {l4 : Int32} (h : X9_countSteps_144 G k48 k77 l0 l2 l3 l4 σ = some (r, σ1)) : SW E G (.inl (none, σ1)) A 6 σ 144 [(0, kr E l0), (2, .int l2), (3, .int l3), (4, .int l4)] [] := by
  unfold X9_countSteps_144 at h
  refine r_iincL (L2 := fun t1 => [(4, .int t1), (0, kr E l0), (2, .int l2), (3, .int l3)]) hX dX9_countSteps_144 h 3 rfl (by decide) (fun _ => rfl) ?_
  clear h; intro t1 h
  refine r_goto (tgt := 77) hX dX9_countSteps_147 (by decide) ?_
  refine r_sub [1, 2, 3, 0] rfl ?_
  exact hk77 _ _ _ _ _ h
def X9_countSteps_77B (G : kdS) (k48 : Nat → Int32 → kdM → Option (Unit × kdM)) (k77 : Nat → Int32 → Int32 → Int32 → kdM → Option (Unit × kdM)) (l0 : Nat) (l2 : Int32) (l3 : Int32) (l4 : Int32) : kdM → Option (Unit × kdM) :=
  gI G 9 10 l0 fun t1 =>
  cnd (t1 ≤ l4)
    (ltI (l2 + Int32.ofInt 1) fun t2 =>
    k48 l0 t2)
    (kcv G 9 l0 (X9_neighbour G l0 l3 l4) fun t3 =>
    gR G 9 6 l0 fun t4 =>
    aI G t4 (t3) fun t5 =>
    cnd (t5 = (-1 : Int32))
      (gR G 9 2 l0 fun t6 =>
      aI G t6 (t3) fun t7 =>
      gI G 9 11 l0 fun t8 =>
      cnd (t8 < t7)
        (X9_countSteps_144 G k48 k77 l0 l2 l3 l4)
        (gR G 9 6 l0 fun t9 =>
        gR G 9 6 l0 fun t10 =>
        aI G t10 (l3) fun t11 =>
        tI G t9 (t3) ((t11 + (1 : Int32))) <|
        gR G 9 7 l0 fun t12 =>
        kcv G 6 t12 (X6_add G t12 t3) fun _ =>
        X9_countSteps_144 G k48 k77 l0 l2 l3 l4))
      (X9_countSteps_144 G k48 k77 l0 l2 l3 l4))
set_option maxRecDepth 100000 in
set_option maxHeartbeats 4000000 in
theorem wX9_countSteps_77B {E : kdE} {G : kdS} {A : kdA} {r : Unit} {σ1 : kdM} (hX : kdX E A cX9_countSteps 6 RX9 none 3) (k48 : Nat → Int32 → kdM → Option (Unit × kdM)) (k77 : Nat → Int32 → Int32 → Int32 → kdM → Option (Unit × kdM)) (hk48 : ∀ (l0 : Nat) (l2 : Int32) (σ : kdM), k48 l0 l2 σ = some (r, σ1) → SW E G (.inl (none, σ1)) A 6 σ 48 [(0, kr E l0), (2, .int l2)] []) (hk77 : ∀ (l0 : Nat) (l2 : Int32) (l3 : Int32) (l4 : Int32) (σ : kdM), k77 l0 l2 l3 l4 σ = some (r, σ1) → SW E G (.inl (none, σ1)) A 6 σ 77 [(0, kr E l0), (2, .int l2), (3, .int l3), (4, .int l4)] []) {σ : kdM} {l0 : Nat} {l2 : Int32} {l3 : Int32} {l4 : Int32} (h : X9_countSteps_77B G k48 k77 l0 l2 l3 l4 σ = some (r, σ1)) : SW E G (.inl (none, σ1)) A 6 σ 77 [(0, kr E l0), (2, .int l2), (3, .int l3), (4, .int l4)] [] := by
  unfold X9_countSteps_77B at h
  refine r_iload hX dX9_countSteps_77 3 rfl ?_
  refine r_aload_n hX dX9_countSteps_79 rfl 0 rfl ?_
  refine r_gI hX dX9_countSteps_80 kf_X9_79 rfl h ?_
  clear h; intro t1 h
  refine r_icmp_ge (tgt := 150) hX dX9_countSteps_83 (by decide) h ?_ ?_
  · clear h; intro h
    refine r_iincL (L2 := fun t2 => [(2, .int t2), (0, kr E l0), (3, .int l3), (4, .int l4)]) hX dX9_countSteps_150 h 1 rfl (by decide) (fun _ => rfl) ?_
    clear h; intro t2 h
    refine r_goto (tgt := 48) hX dX9_countSteps_153 (by decide) ?_
    refine r_sub [1, 0] rfl ?_
    exact hk48 _ _ _ h
  · clear h; intro h
    refine r_aload_n hX dX9_countSteps_86 rfl 0 rfl ?_
    refine r_iload_n hX dX9_countSteps_87 rfl 2 rfl ?_
    refine r_iload hX dX9_countSteps_88 3 rfl ?_
    refine r_cVi (As := [.int l3, .int l4]) (st := []) hX dX9_countSteps_90 kl_X9_neighbour w_ml_X9_105 w_im_X9_neighbour w_se_X9_neighbour ⟨_, _, rfl⟩ (by decide) rfl (Nat.le_of_ble_eq_true rfl) rfl kdz0 h (fun r σ1 h => wX9_neighbour h) ?_
    clear h; intro t3 σ h
    refine r_istore (L2 := [(5, .int t3), (0, kr E l0), (2, .int l2), (3, .int l3), (4, .int l4)]) hX dX9_countSteps_93 (by decide) rfl ?_
    refine r_aload_n hX dX9_countSteps_95 rfl 1 rfl ?_
    refine r_gR hX dX9_countSteps_96 kf_X9_28 rfl h ?_
    clear h; intro t4 h
    refine r_iload hX dX9_countSteps_99 0 rfl ?_
    refine r_aI hX dX9_countSteps_101 h ?_
    clear h; intro t5 h
    refine r_iconst hX dX9_countSteps_102 kk_i_m1 ?_
    refine r_icmp_ne (tgt := 144) hX dX9_countSteps_103 (by decide) h ?_ ?_
    · clear h; intro h
      refine r_aload_n hX dX9_countSteps_106 rfl 1 rfl ?_
      refine r_gR hX dX9_countSteps_107 kf_X9_15 rfl h ?_
      clear h; intro t6 h
      refine r_iload hX dX9_countSteps_110 0 rfl ?_
      refine r_aI hX dX9_countSteps_112 h ?_
      clear h; intro t7 h
      refine r_aload_n hX dX9_countSteps_113 rfl 1 rfl ?_
      refine r_gI hX dX9_countSteps_114 kf_X9_47 rfl h ?_
      clear h; intro t8 h
      refine r_icmp_gt (tgt := 144) hX dX9_countSteps_117 (by decide) h ?_ ?_
      · clear h; intro h
        refine r_sub [1, 2, 3, 4] rfl ?_
        exact wX9_countSteps_144 hX k48 k77 hk48 hk77 h
      · clear h; intro h
        refine r_aload_n hX dX9_countSteps_120 rfl 1 rfl ?_
        refine r_gR hX dX9_countSteps_121 kf_X9_28 rfl h ?_
        clear h; intro t9 h
        refine r_iload hX dX9_countSteps_124 0 rfl ?_
        refine r_aload_n hX dX9_countSteps_126 rfl 1 rfl ?_
        refine r_gR hX dX9_countSteps_127 kf_X9_28 rfl h ?_
        clear h; intro t10 h
        refine r_iload_n hX dX9_countSteps_130 rfl 3 rfl ?_
        refine r_aI hX dX9_countSteps_131 h ?_
        clear h; intro t11 h
        refine r_iconst hX dX9_countSteps_132 kk_i_1 ?_
        refine r_iadd hX dX9_countSteps_133 ?_
        refine r_tI hX dX9_countSteps_134 h ?_
        clear h; intro σ h
        refine r_aload_n hX dX9_countSteps_135 rfl 1 rfl ?_
        refine r_gR hX dX9_countSteps_136 kf_X9_36 rfl h ?_
        clear h; intro t12 h
        refine r_iload hX dX9_countSteps_139 0 rfl ?_
        refine r_cVv (As := [.int t3]) (st := []) hX dX9_countSteps_141 kl_X6_add w_ml_X9_119 w_im_X6_add w_se_X6_add ⟨_, _, rfl⟩ (by decide) rfl (Nat.le_of_ble_eq_true rfl) rfl kdz0 h (fun r σ1 h => wX6_add h) ?_
        clear h; intro u σ h
        refine r_sub [1, 2, 3, 4] rfl ?_
        exact wX9_countSteps_144 hX k48 k77 hk48 hk77 h
    · clear h; intro h
      refine r_sub [1, 2, 3, 4] rfl ?_
      exact wX9_countSteps_144 hX k48 k77 hk48 hk77 h
def X9_countSteps_77 (G : kdS) (k48 : Nat → Int32 → kdM → Option (Unit × kdM)) : Nat → Int32 → Int32 → Int32 → kdM → Option (Unit × kdM) := lp (fun _ _ _ _ _ => none) (X9_countSteps_77B G k48) NN
theorem wX9_countSteps_77 {E : kdE} {G : kdS} {A : kdA} {r : Unit} {σ1 : kdM} (hX : kdX E A cX9_countSteps 6 RX9 none 3) (k48 : Nat → Int32 → kdM → Option (Unit × kdM)) (hk48 : ∀ (l0 : Nat) (l2 : Int32) (σ : kdM), k48 l0 l2 σ = some (r, σ1) → SW E G (.inl (none, σ1)) A 6 σ 48 [(0, kr E l0), (2, .int l2)] []) : ∀ (l0 : Nat) (l2 : Int32) (l3 : Int32) (l4 : Int32) (σ : kdM), X9_countSteps_77 G k48 l0 l2 l3 l4 σ = some (r, σ1) → SW E G (.inl (none, σ1)) A 6 σ 77 [(0, kr E l0), (2, .int l2), (3, .int l3), (4, .int l4)] [] :=
  lp_ind (Q := fun f => ∀ (l0 : Nat) (l2 : Int32) (l3 : Int32) (l4 : Int32) (σ : kdM), f l0 l2 l3 l4 σ = some (r, σ1) → SW E G (.inl (none, σ1)) A 6 σ 77 [(0, kr E l0), (2, .int l2), (3, .int l3), (4, .int l4)] []) (by intros; contradiction) (fun k hk l0 l2 l3 l4 σ h => wX9_countSteps_77B hX k48 k hk48 hk h) NN
def X9_countSteps_48B (G : kdS) (k48 : Nat → Int32 → kdM → Option (Unit × kdM)) (l0 : Nat) (l2 : Int32) : kdM → Option (Unit × kdM) :=
  cnd ((120 : Int32) ≤ l2)
    (X9_countSteps_156 G )
    (gR G 9 7 l0 fun t1 =>
    kcv G 6 t1 (X6_size G t1) fun t2 =>
    cnd (t2 ≤ l2)
      (X9_countSteps_156 G )
      (gR G 9 7 l0 fun t3 =>
      kcv G 6 t3 (X6_at G t3 l2) fun t4 =>
      X9_countSteps_77 G k48 l0 l2 t4 (0 : Int32)))
set_option maxRecDepth 100000 in
set_option maxHeartbeats 4000000 in
theorem wX9_countSteps_48B {E : kdE} {G : kdS} {A : kdA} {r : Unit} {σ1 : kdM} (hX : kdX E A cX9_countSteps 6 RX9 none 3) (k48 : Nat → Int32 → kdM → Option (Unit × kdM)) (hk48 : ∀ (l0 : Nat) (l2 : Int32) (σ : kdM), k48 l0 l2 σ = some (r, σ1) → SW E G (.inl (none, σ1)) A 6 σ 48 [(0, kr E l0), (2, .int l2)] []) {σ : kdM} {l0 : Nat} {l2 : Int32} (h : X9_countSteps_48B G k48 l0 l2 σ = some (r, σ1)) : SW E G (.inl (none, σ1)) A 6 σ 48 [(0, kr E l0), (2, .int l2)] [] := by
  unfold X9_countSteps_48B at h
  refine r_iload_n hX dX9_countSteps_48 rfl 1 rfl ?_
  refine r_bipush hX dX9_countSteps_49 kk_b_120 ?_
  refine r_icmp_ge (tgt := 156) hX dX9_countSteps_51 (by decide) h ?_ ?_
  · clear h; intro h
    refine r_sub [] rfl ?_
    exact wX9_countSteps_156 hX h
  · clear h; intro h
    refine r_iload_n hX dX9_countSteps_54 rfl 1 rfl ?_
    refine r_aload_n hX dX9_countSteps_55 rfl 0 rfl ?_
    refine r_gR hX dX9_countSteps_56 kf_X9_36 rfl h ?_
    clear h; intro t1 h
    refine r_cVi (As := []) (st := [.int l2]) hX dX9_countSteps_59 kl_X6_size w_ml_X9_122 w_im_X6_size w_se_X6_size ⟨_, _, rfl⟩ (by decide) rfl (Nat.le_of_ble_eq_true rfl) rfl kdz0 h (fun r σ1 h => wX6_size h) ?_
    clear h; intro t2 σ h
    refine r_icmp_ge (tgt := 156) hX dX9_countSteps_62 (by decide) h ?_ ?_
    · clear h; intro h
      refine r_sub [] rfl ?_
      exact wX9_countSteps_156 hX h
    · clear h; intro h
      refine r_aload_n hX dX9_countSteps_65 rfl 0 rfl ?_
      refine r_gR hX dX9_countSteps_66 kf_X9_36 rfl h ?_
      clear h; intro t3 h
      refine r_iload_n hX dX9_countSteps_69 rfl 1 rfl ?_
      refine r_cVi (As := [.int l2]) (st := []) hX dX9_countSteps_70 kl_X6_at w_ml_X9_123 w_im_X6_at w_se_X6_at ⟨_, _, rfl⟩ (by decide) rfl (Nat.le_of_ble_eq_true rfl) rfl kdz0 h (fun r σ1 h => wX6_at h) ?_
      clear h; intro t4 σ h
      refine r_istore_n (L2 := [(3, .int t4), (0, kr E l0), (2, .int l2)]) hX dX9_countSteps_73 rfl (by decide) rfl ?_
      refine r_iconst hX dX9_countSteps_74 kk_i_0 ?_
      refine r_istore (L2 := [(4, .int (0 : Int32)), (3, .int t4), (0, kr E l0), (2, .int l2)]) hX dX9_countSteps_75 (by decide) rfl ?_
      refine r_sub [2, 3, 1, 0] rfl ?_
      exact wX9_countSteps_77 hX k48 hk48 _ _ _ _ _ h
def X9_countSteps_48 (G : kdS) : Nat → Int32 → kdM → Option (Unit × kdM) := lp (fun _ _ _ => none) (X9_countSteps_48B G) NN
theorem wX9_countSteps_48 {E : kdE} {G : kdS} {A : kdA} {r : Unit} {σ1 : kdM} (hX : kdX E A cX9_countSteps 6 RX9 none 3) : ∀ (l0 : Nat) (l2 : Int32) (σ : kdM), X9_countSteps_48 G l0 l2 σ = some (r, σ1) → SW E G (.inl (none, σ1)) A 6 σ 48 [(0, kr E l0), (2, .int l2)] [] :=
  lp_ind (Q := fun f => ∀ (l0 : Nat) (l2 : Int32) (σ : kdM), f l0 l2 σ = some (r, σ1) → SW E G (.inl (none, σ1)) A 6 σ 48 [(0, kr E l0), (2, .int l2)] []) (by intros; contradiction) (fun k hk l0 l2 σ h => wX9_countSteps_48B hX k hk h) NN
def X9_countSteps_2B (G : kdS) (k2 : Nat → Int32 → Int32 → kdM → Option (Unit × kdM)) (l0 : Nat) (l1 : Int32) (l2 : Int32) : kdM → Option (Unit × kdM) :=
  gI G 9 9 l0 fun t1 =>
  cnd (t1 ≤ l2)
    (gR G 9 6 l0 fun t2 =>
    tI G t2 (l1) ((0 : Int32)) <|
    gR G 9 7 l0 fun t3 =>
    kcv G 6 t3 (X6_clear G t3) fun t4 =>
    gR G 9 7 l0 fun t5 =>
    kcv G 6 t5 (X6_add G t5 l1) fun _ =>
    X9_countSteps_48 G l0 (0 : Int32))
    (gR G 9 6 l0 fun t6 =>
    tI G t6 (l2) ((-1 : Int32)) <|
    ltI (l2 + Int32.ofInt 1) fun t7 =>
    k2 l0 l1 t7)
set_option maxRecDepth 100000 in
set_option maxHeartbeats 4000000 in
theorem wX9_countSteps_2B {E : kdE} {G : kdS} {A : kdA} {r : Unit} {σ1 : kdM} (hX : kdX E A cX9_countSteps 6 RX9 none 3) (k2 : Nat → Int32 → Int32 → kdM → Option (Unit × kdM)) (hk2 : ∀ (l0 : Nat) (l1 : Int32) (l2 : Int32) (σ : kdM), k2 l0 l1 l2 σ = some (r, σ1) → SW E G (.inl (none, σ1)) A 6 σ 2 [(0, kr E l0), (1, .int l1), (2, .int l2)] []) {σ : kdM} {l0 : Nat} {l1 : Int32} {l2 : Int32} (h : X9_countSteps_2B G k2 l0 l1 l2 σ = some (r, σ1)) : SW E G (.inl (none, σ1)) A 6 σ 2 [(0, kr E l0), (1, .int l1), (2, .int l2)] [] := by
  unfold X9_countSteps_2B at h
  refine r_iload_n hX dX9_countSteps_2 rfl 2 rfl ?_
  refine r_aload_n hX dX9_countSteps_3 rfl 0 rfl ?_
  refine r_gI hX dX9_countSteps_4 kf_X9_74 rfl h ?_
  clear h; intro t1 h
  refine r_icmp_ge (tgt := 23) hX dX9_countSteps_7 (by decide) h ?_ ?_
  · clear h; intro h
    refine r_aload_n hX dX9_countSteps_23 rfl 0 rfl ?_
    refine r_gR hX dX9_countSteps_24 kf_X9_28 rfl h ?_
    clear h; intro t2 h
    refine r_iload_n hX dX9_countSteps_27 rfl 1 rfl ?_
    refine r_iconst hX dX9_countSteps_28 kk_i_0 ?_
    refine r_tI hX dX9_countSteps_29 h ?_
    clear h; intro σ h
    refine r_aload_n hX dX9_countSteps_30 rfl 0 rfl ?_
    refine r_gR hX dX9_countSteps_31 kf_X9_36 rfl h ?_
    clear h; intro t3 h
    refine r_cVi (As := []) (st := []) hX dX9_countSteps_34 kl_X6_clear w_ml_X9_116 w_im_X6_clear w_se_X6_clear ⟨_, _, rfl⟩ (by decide) rfl (Nat.le_of_ble_eq_true rfl) rfl kdz0 h (fun r σ1 h => wX6_clear h) ?_
    clear h; intro t4 σ h
    refine r_pop hX dX9_countSteps_37 rfl ?_
    refine r_aload_n hX dX9_countSteps_38 rfl 0 rfl ?_
    refine r_gR hX dX9_countSteps_39 kf_X9_36 rfl h ?_
    clear h; intro t5 h
    refine r_iload_n hX dX9_countSteps_42 rfl 1 rfl ?_
    refine r_cVv (As := [.int l1]) (st := []) hX dX9_countSteps_43 kl_X6_add w_ml_X9_119 w_im_X6_add w_se_X6_add ⟨_, _, rfl⟩ (by decide) rfl (Nat.le_of_ble_eq_true rfl) rfl kdz0 h (fun r σ1 h => wX6_add h) ?_
    clear h; intro u σ h
    refine r_iconst hX dX9_countSteps_46 kk_i_0 ?_
    refine r_istore_n (L2 := [(2, .int (0 : Int32)), (0, kr E l0), (1, .int l1)]) hX dX9_countSteps_47 rfl (by decide) rfl ?_
    refine r_sub [1, 0] rfl ?_
    exact wX9_countSteps_48 hX _ _ _ h
  · clear h; intro h
    refine r_aload_n hX dX9_countSteps_10 rfl 0 rfl ?_
    refine r_gR hX dX9_countSteps_11 kf_X9_28 rfl h ?_
    clear h; intro t6 h
    refine r_iload_n hX dX9_countSteps_14 rfl 2 rfl ?_
    refine r_iconst hX dX9_countSteps_15 kk_i_m1 ?_
    refine r_tI hX dX9_countSteps_16 h ?_
    clear h; intro σ h
    refine r_iincL (L2 := fun t7 => [(2, .int t7), (0, kr E l0), (1, .int l1)]) hX dX9_countSteps_17 h 2 rfl (by decide) (fun _ => rfl) ?_
    clear h; intro t7 h
    refine r_goto (tgt := 2) hX dX9_countSteps_20 (by decide) ?_
    refine r_sub [1, 2, 0] rfl ?_
    exact hk2 _ _ _ _ h
def X9_countSteps_2 (G : kdS) : Nat → Int32 → Int32 → kdM → Option (Unit × kdM) := lp (fun _ _ _ _ => none) (X9_countSteps_2B G) NN
theorem wX9_countSteps_2 {E : kdE} {G : kdS} {A : kdA} {r : Unit} {σ1 : kdM} (hX : kdX E A cX9_countSteps 6 RX9 none 3) : ∀ (l0 : Nat) (l1 : Int32) (l2 : Int32) (σ : kdM), X9_countSteps_2 G l0 l1 l2 σ = some (r, σ1) → SW E G (.inl (none, σ1)) A 6 σ 2 [(0, kr E l0), (1, .int l1), (2, .int l2)] [] :=
  lp_ind (Q := fun f => ∀ (l0 : Nat) (l1 : Int32) (l2 : Int32) (σ : kdM), f l0 l1 l2 σ = some (r, σ1) → SW E G (.inl (none, σ1)) A 6 σ 2 [(0, kr E l0), (1, .int l1), (2, .int l2)] []) (by intros; contradiction) (fun k hk l0 l1 l2 σ h => wX9_countSteps_2B hX k hk h) NN
def X9_countSteps (G : kdS) (l0 : Nat) (l1 : Int32) : kdM → Option (Unit × kdM) :=
  X9_countSteps_2 G l0 l1 (0 : Int32)
set_option maxRecDepth 100000 in
set_option maxHeartbeats 4000000 in
theorem wX9_countSteps {E : kdE} {G : kdS} {l0 : Nat} {l1 : Int32} {σ : kdM} {r : Unit} {σ1 : kdM} (h : X9_countSteps G l0 l1 σ = some (r, σ1)) : Con E G yX9_countSteps cX9_countSteps 6 none 3 [kr E l0, .int l1] σ (none, σ1) := by
  refine kd_head (own := RX9) rfl (by decide +kernel) (Nat.le_of_ble_eq_true rfl) (fun A hX => ?_)
  show SW E G (.inl (none, σ1)) A 6 σ 0 [(0, kr E l0), (1, .int l1)] []
  unfold X9_countSteps at h
  refine r_iconst hX dX9_countSteps_0 kk_i_0 ?_
  refine r_istore_n (L2 := [(2, .int (0 : Int32)), (0, kr E l0), (1, .int l1)]) hX dX9_countSteps_1 rfl (by decide) rfl ?_
  refine r_sub [1, 2, 0] rfl ?_
  exact wX9_countSteps_2 hX _ _ _ _ h
def X9_listNeighbours_23B (G : kdS) (k7 : Nat → Int32 → Int32 → kdM → Option (Unit × kdM)) (k23 : Nat → Int32 → Int32 → Int32 → kdM → Option (Unit × kdM)) (l0 : Nat) (l2 : Int32) (l3 : Int32) (l4 : Int32) : kdM → Option (Unit × kdM) :=
  gR G 9 0 l0 fun t1 =>
  kcv G 3 t1 (X3_size G t1) fun t2 =>
  cnd (t2 ≤ l4)
    (ltI (l3 + Int32.ofInt 1) fun t3 =>
    k7 l0 l2 t3)
    (gR G 9 0 l0 fun t4 =>
    kcv G 3 t4 (X3_exchange G t4 l3 l4) fun _ =>
    gR G 9 3 l0 fun t5 =>
    gR G 9 0 l0 fun t6 =>
    kcv G 3 t6 (X3_rank G t6) fun t7 =>
    tI G t5 (l2) (t7) <|
    ltI (l2 + Int32.ofInt 1) fun t8 =>
    gR G 9 0 l0 fun t9 =>
    kcv G 3 t9 (X3_exchange G t9 l3 l4) fun _ =>
    ltI (l4 + Int32.ofInt 1) fun t10 =>
    k23 l0 t8 l3 t10)
set_option maxRecDepth 100000 in
set_option maxHeartbeats 4000000 in
theorem wX9_listNeighbours_23B {E : kdE} {G : kdS} {A : kdA} {r : Unit} {σ1 : kdM} (hX : kdX E A cX9_listNeighbours 5 RX9 none 1) (k7 : Nat → Int32 → Int32 → kdM → Option (Unit × kdM)) (k23 : Nat → Int32 → Int32 → Int32 → kdM → Option (Unit × kdM)) (hk7 : ∀ (l0 : Nat) (l2 : Int32) (l3 : Int32) (σ : kdM), k7 l0 l2 l3 σ = some (r, σ1) → SW E G (.inl (none, σ1)) A 5 σ 7 [(0, kr E l0), (2, .int l2), (3, .int l3)] []) (hk23 : ∀ (l0 : Nat) (l2 : Int32) (l3 : Int32) (l4 : Int32) (σ : kdM), k23 l0 l2 l3 l4 σ = some (r, σ1) → SW E G (.inl (none, σ1)) A 5 σ 23 [(0, kr E l0), (2, .int l2), (3, .int l3), (4, .int l4)] []) {σ : kdM} {l0 : Nat} {l2 : Int32} {l3 : Int32} {l4 : Int32} (h : X9_listNeighbours_23B G k7 k23 l0 l2 l3 l4 σ = some (r, σ1)) : SW E G (.inl (none, σ1)) A 5 σ 23 [(0, kr E l0), (2, .int l2), (3, .int l3), (4, .int l4)] [] := by
  unfold X9_listNeighbours_23B at h
  refine r_iload hX dX9_listNeighbours_23 3 rfl ?_
  refine r_aload_n hX dX9_listNeighbours_25 rfl 0 rfl ?_
  refine r_gR hX dX9_listNeighbours_26 kf_X9_43 rfl h ?_
  clear h; intro t1 h
  refine r_cVi (As := []) (st := [.int l4]) hX dX9_listNeighbours_29 kl_X3_size w_ml_X9_77 w_im_X3_size w_se_X3_size ⟨_, _, rfl⟩ (by decide) rfl (Nat.le_of_ble_eq_true rfl) rfl kdz0 h (fun r σ1 h => wX3_size h) ?_
  clear h; intro t2 σ h
  refine r_icmp_ge (tgt := 77) hX dX9_listNeighbours_32 (by decide) h ?_ ?_
  · clear h; intro h
    refine r_iincL (L2 := fun t3 => [(3, .int t3), (0, kr E l0), (2, .int l2), (4, .int l4)]) hX dX9_listNeighbours_77 h 2 rfl (by decide) (fun _ => rfl) ?_
    clear h; intro t3 h
    refine r_goto (tgt := 7) hX dX9_listNeighbours_80 (by decide) ?_
    refine r_sub [1, 2, 0] rfl ?_
    exact hk7 _ _ _ _ h
  · clear h; intro h
    refine r_aload_n hX dX9_listNeighbours_35 rfl 0 rfl ?_
    refine r_gR hX dX9_listNeighbours_36 kf_X9_43 rfl h ?_
    clear h; intro t4 h
    refine r_iload_n hX dX9_listNeighbours_39 rfl 2 rfl ?_
    refine r_iload hX dX9_listNeighbours_40 3 rfl ?_
    refine r_cVv (As := [.int l3, .int l4]) (st := []) hX dX9_listNeighbours_42 kl_X3_exchange w_ml_X9_97 w_im_X3_exchange w_se_X3_exchange ⟨_, _, rfl⟩ (by decide) rfl (Nat.le_of_ble_eq_true rfl) rfl kdz0 h (fun r σ1 h => wX3_exchange h) ?_
    clear h; intro u σ h
    refine r_aload_n hX dX9_listNeighbours_45 rfl 0 rfl ?_
    refine r_gR hX dX9_listNeighbours_46 kf_X9_18 rfl h ?_
    clear h; intro t5 h
    refine r_iload_n hX dX9_listNeighbours_49 rfl 1 rfl ?_
    refine r_aload_n hX dX9_listNeighbours_50 rfl 0 rfl ?_
    refine r_gR hX dX9_listNeighbours_51 kf_X9_43 rfl h ?_
    clear h; intro t6 h
    refine r_cVi (As := []) (st := [.int l2, kr E t5]) hX dX9_listNeighbours_54 kl_X3_rank w_ml_X9_57 w_im_X3_rank w_se_X3_rank ⟨_, _, rfl⟩ (by decide) rfl (Nat.le_of_ble_eq_true rfl) rfl kdz0 h (fun r σ1 h => wX3_rank h) ?_
    clear h; intro t7 σ h
    refine r_tI hX dX9_listNeighbours_57 h ?_
    clear h; intro σ h
    refine r_iincL (L2 := fun t8 => [(2, .int t8), (0, kr E l0), (3, .int l3), (4, .int l4)]) hX dX9_listNeighbours_58 h 1 rfl (by decide) (fun _ => rfl) ?_
    clear h; intro t8 h
    refine r_aload_n hX dX9_listNeighbours_61 rfl 1 rfl ?_
    refine r_gR hX dX9_listNeighbours_62 kf_X9_43 rfl h ?_
    clear h; intro t9 h
    refine r_iload_n hX dX9_listNeighbours_65 rfl 2 rfl ?_
    refine r_iload hX dX9_listNeighbours_66 3 rfl ?_
    refine r_cVv (As := [.int l3, .int l4]) (st := []) hX dX9_listNeighbours_68 kl_X3_exchange w_ml_X9_97 w_im_X3_exchange w_se_X3_exchange ⟨_, _, rfl⟩ (by decide) rfl (Nat.le_of_ble_eq_true rfl) rfl kdz0 h (fun r σ1 h => wX3_exchange h) ?_
    clear h; intro u σ h
    refine r_iincL (L2 := fun t10 => [(4, .int t10), (2, .int t8), (0, kr E l0), (3, .int l3)]) hX dX9_listNeighbours_71 h 3 rfl (by decide) (fun _ => rfl) ?_
    clear h; intro t10 h
    refine r_goto (tgt := 23) hX dX9_listNeighbours_74 (by decide) ?_
    refine r_sub [2, 1, 3, 0] rfl ?_
    exact hk23 _ _ _ _ _ h
def X9_listNeighbours_23 (G : kdS) (k7 : Nat → Int32 → Int32 → kdM → Option (Unit × kdM)) : Nat → Int32 → Int32 → Int32 → kdM → Option (Unit × kdM) := lp (fun _ _ _ _ _ => none) (X9_listNeighbours_23B G k7) NN
theorem wX9_listNeighbours_23 {E : kdE} {G : kdS} {A : kdA} {r : Unit} {σ1 : kdM} (hX : kdX E A cX9_listNeighbours 5 RX9 none 1) (k7 : Nat → Int32 → Int32 → kdM → Option (Unit × kdM)) (hk7 : ∀ (l0 : Nat) (l2 : Int32) (l3 : Int32) (σ : kdM), k7 l0 l2 l3 σ = some (r, σ1) → SW E G (.inl (none, σ1)) A 5 σ 7 [(0, kr E l0), (2, .int l2), (3, .int l3)] []) : ∀ (l0 : Nat) (l2 : Int32) (l3 : Int32) (l4 : Int32) (σ : kdM), X9_listNeighbours_23 G k7 l0 l2 l3 l4 σ = some (r, σ1) → SW E G (.inl (none, σ1)) A 5 σ 23 [(0, kr E l0), (2, .int l2), (3, .int l3), (4, .int l4)] [] :=
  lp_ind (Q := fun f => ∀ (l0 : Nat) (l2 : Int32) (l3 : Int32) (l4 : Int32) (σ : kdM), f l0 l2 l3 l4 σ = some (r, σ1) → SW E G (.inl (none, σ1)) A 5 σ 23 [(0, kr E l0), (2, .int l2), (3, .int l3), (4, .int l4)] []) (by intros; contradiction) (fun k hk l0 l2 l3 l4 σ h => wX9_listNeighbours_23B hX k7 k hk7 hk h) NN
def X9_listNeighbours_7B (G : kdS) (k7 : Nat → Int32 → Int32 → kdM → Option (Unit × kdM)) (l0 : Nat) (l2 : Int32) (l3 : Int32) : kdM → Option (Unit × kdM) :=
  gR G 9 0 l0 fun t1 =>
  kcv G 3 t1 (X3_size G t1) fun t2 =>
  cnd (t2 ≤ l3)
    (rt ())
    (ltI ((l3 + (1 : Int32))) fun t3 =>
    X9_listNeighbours_23 G k7 l0 l2 l3 t3)
set_option maxRecDepth 100000 in
set_option maxHeartbeats 4000000 in
theorem wX9_listNeighbours_7B {E : kdE} {G : kdS} {A : kdA} {r : Unit} {σ1 : kdM} (hX : kdX E A cX9_listNeighbours 5 RX9 none 1) (k7 : Nat → Int32 → Int32 → kdM → Option (Unit × kdM)) (hk7 : ∀ (l0 : Nat) (l2 : Int32) (l3 : Int32) (σ : kdM), k7 l0 l2 l3 σ = some (r, σ1) → SW E G (.inl (none, σ1)) A 5 σ 7 [(0, kr E l0), (2, .int l2), (3, .int l3)] []) {σ : kdM} {l0 : Nat} {l2 : Int32} {l3 : Int32} (h : X9_listNeighbours_7B G k7 l0 l2 l3 σ = some (r, σ1)) : SW E G (.inl (none, σ1)) A 5 σ 7 [(0, kr E l0), (2, .int l2), (3, .int l3)] [] := by
  unfold X9_listNeighbours_7B at h
  refine r_iload_n hX dX9_listNeighbours_7 rfl 2 rfl ?_
  refine r_aload_n hX dX9_listNeighbours_8 rfl 0 rfl ?_
  refine r_gR hX dX9_listNeighbours_9 kf_X9_43 rfl h ?_
  clear h; intro t1 h
  refine r_cVi (As := []) (st := [.int l3]) hX dX9_listNeighbours_12 kl_X3_size w_ml_X9_77 w_im_X3_size w_se_X3_size ⟨_, _, rfl⟩ (by decide) rfl (Nat.le_of_ble_eq_true rfl) rfl kdz0 h (fun r σ1 h => wX3_size h) ?_
  clear h; intro t2 σ h
  refine r_icmp_ge (tgt := 83) hX dX9_listNeighbours_15 (by decide) h ?_ ?_
  · clear h; intro h
    exact r_vret hX dX9_listNeighbours_83 h
  · clear h; intro h
    refine r_iload_n hX dX9_listNeighbours_18 rfl 2 rfl ?_
    refine r_iconst hX dX9_listNeighbours_19 kk_i_1 ?_
    refine r_iadd hX dX9_listNeighbours_20 ?_
    refine r_letI h ?_
    clear h; intro t3 h
    refine r_istore (L2 := [(4, .int t3), (0, kr E l0), (2, .int l2), (3, .int l3)]) hX dX9_listNeighbours_21 (by decide) rfl ?_
    refine r_sub [1, 2, 3, 0] rfl ?_
    exact wX9_listNeighbours_23 hX k7 hk7 _ _ _ _ _ h
def X9_listNeighbours_7 (G : kdS) : Nat → Int32 → Int32 → kdM → Option (Unit × kdM) := lp (fun _ _ _ _ => none) (X9_listNeighbours_7B G) NN
theorem wX9_listNeighbours_7 {E : kdE} {G : kdS} {A : kdA} {r : Unit} {σ1 : kdM} (hX : kdX E A cX9_listNeighbours 5 RX9 none 1) : ∀ (l0 : Nat) (l2 : Int32) (l3 : Int32) (σ : kdM), X9_listNeighbours_7 G l0 l2 l3 σ = some (r, σ1) → SW E G (.inl (none, σ1)) A 5 σ 7 [(0, kr E l0), (2, .int l2), (3, .int l3)] [] :=
  lp_ind (Q := fun f => ∀ (l0 : Nat) (l2 : Int32) (l3 : Int32) (σ : kdM), f l0 l2 l3 σ = some (r, σ1) → SW E G (.inl (none, σ1)) A 5 σ 7 [(0, kr E l0), (2, .int l2), (3, .int l3)] []) (by intros; contradiction) (fun k hk l0 l2 l3 σ h => wX9_listNeighbours_7B hX k hk h) NN
def X9_listNeighbours (G : kdS) (l0 : Nat) (l1 : Int32) : kdM → Option (Unit × kdM) :=
  ltI ((l1 * (10 : Int32))) fun t1 =>
  X9_listNeighbours_7 G l0 t1 (0 : Int32)
set_option maxRecDepth 100000 in
set_option maxHeartbeats 4000000 in
theorem wX9_listNeighbours {E : kdE} {G : kdS} {l0 : Nat} {l1 : Int32} {σ : kdM} {r : Unit} {σ1 : kdM} (h : X9_listNeighbours G l0 l1 σ = some (r, σ1)) : Con E G yX9_listNeighbours cX9_listNeighbours 5 none 1 [kr E l0, .int l1] σ (none, σ1) := by
  refine kd_head (own := RX9) rfl (by decide +kernel) (Nat.le_of_ble_eq_true rfl) (fun A hX => ?_)
  show SW E G (.inl (none, σ1)) A 5 σ 0 [(0, kr E l0), (1, .int l1)] []
  unfold X9_listNeighbours at h
  refine r_iload_n hX dX9_listNeighbours_0 rfl 1 rfl ?_
  refine r_bipush hX dX9_listNeighbours_1 kk_b_10 ?_
  refine r_imul hX dX9_listNeighbours_3 ?_
  refine r_letI h ?_
  clear h; intro t1 h
  refine r_istore_n (L2 := [(2, .int t1), (0, kr E l0), (1, .int l1)]) hX dX9_listNeighbours_4 rfl (by decide) rfl ?_
  refine r_iconst hX dX9_listNeighbours_5 kk_i_0 ?_
  refine r_istore_n (L2 := [(3, .int (0 : Int32)), (2, .int t1), (0, kr E l0), (1, .int l1)]) hX dX9_listNeighbours_6 rfl (by decide) rfl ?_
  refine r_sub [2, 1, 0] rfl ?_
  exact wX9_listNeighbours_7 hX _ _ _ _ h
def X9_listLayouts_111 (G : kdS) : kdM → Option (Unit × kdM) :=
  rt ()
set_option maxRecDepth 100000 in
set_option maxHeartbeats 4000000 in
theorem wX9_listLayouts_111 {E : kdE} {G : kdS} {A : kdA} {r : Unit} {σ1 : kdM} (hX : kdX E A cX9_listLayouts 2 RX9 none 4) {σ : kdM} (h : X9_listLayouts_111 G  σ = some (r, σ1)) : SW E G (.inl (none, σ1)) A 2 σ 111 [] [] := by
  unfold X9_listLayouts_111 at h
  exact r_vret hX dX9_listLayouts_111 h
def X9_listLayouts_37B (G : kdS) (k37 : Nat → Int32 → kdM → Option (Unit × kdM)) (l0 : Nat) (l1 : Int32) : kdM → Option (Unit × kdM) :=
  cnd (l1 = 0)
    (X9_listLayouts_111 G )
    (gI G 9 9 l0 fun t1 =>
    cnd ((120 : Int32) ≤ t1)
      (X9_listLayouts_111 G )
      (gR G 9 1 l0 fun t2 =>
      gI G 9 9 l0 fun t3 =>
      gR G 9 0 l0 fun t4 =>
      kcv G 3 t4 (X3_digits G t4) fun t5 =>
      tI G t2 (t3) (t5) <|
      gR G 9 2 l0 fun t6 =>
      gI G 9 9 l0 fun t7 =>
      gR G 9 0 l0 fun t8 =>
      kcv G 3 t8 (X3_totalCost G t8) fun t9 =>
      tI G t6 (t7) (t9) <|
      gI G 9 9 l0 fun t10 =>
      kcv G 9 l0 (X9_listNeighbours G l0 t10) fun _ =>
      gI G 9 9 l0 fun t11 =>
      sI G 9 9 l0 ((t11 + (1 : Int32))) <|
      gR G 9 0 l0 fun t12 =>
      kcv G 3 t12 (X3_stepOn G t12) fun t13 =>
      k37 l0 t13))
set_option maxRecDepth 100000 in
set_option maxHeartbeats 4000000 in
theorem wX9_listLayouts_37B {E : kdE} {G : kdS} {A : kdA} {r : Unit} {σ1 : kdM} (hX : kdX E A cX9_listLayouts 2 RX9 none 4) (k37 : Nat → Int32 → kdM → Option (Unit × kdM)) (hk37 : ∀ (l0 : Nat) (l1 : Int32) (σ : kdM), k37 l0 l1 σ = some (r, σ1) → SW E G (.inl (none, σ1)) A 2 σ 37 [(0, kr E l0), (1, .int l1)] []) {σ : kdM} {l0 : Nat} {l1 : Int32} (h : X9_listLayouts_37B G k37 l0 l1 σ = some (r, σ1)) : SW E G (.inl (none, σ1)) A 2 σ 37 [(0, kr E l0), (1, .int l1)] [] := by
  unfold X9_listLayouts_37B at h
  refine r_iload_n hX dX9_listLayouts_37 rfl 1 rfl ?_
  refine r_if_eq (tgt := 111) hX dX9_listLayouts_38 (by decide) h ?_ ?_
  · clear h; intro h
    refine r_sub [] rfl ?_
    exact wX9_listLayouts_111 hX h
  · clear h; intro h
    refine r_aload_n hX dX9_listLayouts_41 rfl 0 rfl ?_
    refine r_gI hX dX9_listLayouts_42 kf_X9_74 rfl h ?_
    clear h; intro t1 h
    refine r_bipush hX dX9_listLayouts_45 kk_b_120 ?_
    refine r_icmp_ge (tgt := 111) hX dX9_listLayouts_47 (by decide) h ?_ ?_
    · clear h; intro h
      refine r_sub [] rfl ?_
      exact wX9_listLayouts_111 hX h
    · clear h; intro h
      refine r_aload_n hX dX9_listLayouts_50 rfl 0 rfl ?_
      refine r_gR hX dX9_listLayouts_51 kf_X9_9 rfl h ?_
      clear h; intro t2 h
      refine r_aload_n hX dX9_listLayouts_54 rfl 0 rfl ?_
      refine r_gI hX dX9_listLayouts_55 kf_X9_74 rfl h ?_
      clear h; intro t3 h
      refine r_aload_n hX dX9_listLayouts_58 rfl 0 rfl ?_
      refine r_gR hX dX9_listLayouts_59 kf_X9_43 rfl h ?_
      clear h; intro t4 h
      refine r_cVi (As := []) (st := [.int t3, kr E t2]) hX dX9_listLayouts_62 kl_X3_digits w_ml_X9_85 w_im_X3_digits w_se_X3_digits ⟨_, _, rfl⟩ (by decide) rfl (Nat.le_of_ble_eq_true rfl) rfl kdz0 h (fun r σ1 h => wX3_digits h) ?_
      clear h; intro t5 σ h
      refine r_tI hX dX9_listLayouts_65 h ?_
      clear h; intro σ h
      refine r_aload_n hX dX9_listLayouts_66 rfl 0 rfl ?_
      refine r_gR hX dX9_listLayouts_67 kf_X9_15 rfl h ?_
      clear h; intro t6 h
      refine r_aload_n hX dX9_listLayouts_70 rfl 0 rfl ?_
      refine r_gI hX dX9_listLayouts_71 kf_X9_74 rfl h ?_
      clear h; intro t7 h
      refine r_aload_n hX dX9_listLayouts_74 rfl 0 rfl ?_
      refine r_gR hX dX9_listLayouts_75 kf_X9_43 rfl h ?_
      clear h; intro t8 h
      refine r_cVi (As := []) (st := [.int t7, kr E t6]) hX dX9_listLayouts_78 kl_X3_totalCost w_ml_X9_87 w_im_X3_totalCost w_se_X3_totalCost ⟨_, _, rfl⟩ (by decide) rfl (Nat.le_of_ble_eq_true rfl) rfl kdz0 h (fun r σ1 h => wX3_totalCost h) ?_
      clear h; intro t9 σ h
      refine r_tI hX dX9_listLayouts_81 h ?_
      clear h; intro σ h
      refine r_aload_n hX dX9_listLayouts_82 rfl 0 rfl ?_
      refine r_aload_n hX dX9_listLayouts_83 rfl 0 rfl ?_
      refine r_gI hX dX9_listLayouts_84 kf_X9_74 rfl h ?_
      clear h; intro t10 h
      refine r_cVv (As := [.int t10]) (st := []) hX dX9_listLayouts_87 kl_X9_listNeighbours w_ml_X9_90 w_im_X9_listNeighbours w_se_X9_listNeighbours ⟨_, _, rfl⟩ (by decide) rfl (Nat.le_of_ble_eq_true rfl) rfl kdz0 h (fun r σ1 h => wX9_listNeighbours h) ?_
      clear h; intro u σ h
      refine r_aload_n hX dX9_listLayouts_90 rfl 0 rfl ?_
      refine r_dup hX dX9_listLayouts_91 rfl ?_
      refine r_gI hX dX9_listLayouts_92 kf_X9_74 rfl h ?_
      clear h; intro t11 h
      refine r_iconst hX dX9_listLayouts_95 kk_i_1 ?_
      refine r_iadd hX dX9_listLayouts_96 ?_
      refine r_sI hX dX9_listLayouts_97 kf_X9_74 rfl (by intro q hq; cases hq; rfl) h ?_
      clear h; intro σ h
      refine r_aload_n hX dX9_listLayouts_100 rfl 0 rfl ?_
      refine r_gR hX dX9_listLayouts_101 kf_X9_43 rfl h ?_
      clear h; intro t12 h
      refine r_cVi (As := []) (st := []) hX dX9_listLayouts_104 kl_X3_stepOn w_ml_X9_93 w_im_X3_stepOn w_se_X3_stepOn ⟨_, _, rfl⟩ (by decide) rfl (Nat.le_of_ble_eq_true rfl) rfl kdz0 h (fun r σ1 h => wX3_stepOn h) ?_
      clear h; intro t13 σ h
      refine r_istore_n (L2 := [(1, .int t13), (0, kr E l0)]) hX dX9_listLayouts_107 rfl (by decide) rfl ?_
      refine r_goto (tgt := 37) hX dX9_listLayouts_108 (by decide) ?_
      refine r_sub [1, 0] rfl ?_
      exact hk37 _ _ _ h
def X9_listLayouts_37 (G : kdS) : Nat → Int32 → kdM → Option (Unit × kdM) := lp (fun _ _ _ => none) (X9_listLayouts_37B G) NN
theorem wX9_listLayouts_37 {E : kdE} {G : kdS} {A : kdA} {r : Unit} {σ1 : kdM} (hX : kdX E A cX9_listLayouts 2 RX9 none 4) : ∀ (l0 : Nat) (l1 : Int32) (σ : kdM), X9_listLayouts_37 G l0 l1 σ = some (r, σ1) → SW E G (.inl (none, σ1)) A 2 σ 37 [(0, kr E l0), (1, .int l1)] [] :=
  lp_ind (Q := fun f => ∀ (l0 : Nat) (l1 : Int32) (σ : kdM), f l0 l1 σ = some (r, σ1) → SW E G (.inl (none, σ1)) A 2 σ 37 [(0, kr E l0), (1, .int l1)] []) (by intros; contradiction) (fun k hk l0 l1 σ h => wX9_listLayouts_37B hX k hk h) NN
def X9_listLayouts (G : kdS) (l0 : Nat) : kdM → Option (Unit × kdM) :=
  sI G 9 9 l0 ((0 : Int32)) <|
  gR G 9 0 l0 fun t1 =>
  kcv G 3 t1 (X3_size G t1) fun t2 =>
  gR G 9 0 l0 fun t3 =>
  kcv G 3 t3 (X3_size G t3) fun t4 =>
  nz (2 : Int32) <|
  sI G 9 10 l0 (((t2 * (t4 - (1 : Int32))) / (2 : Int32))) <|
  gR G 9 0 l0 fun t5 =>
  kcv G 3 t5 (X3_startAtFirst G t5) fun _ =>
  X9_listLayouts_37 G l0 (1 : Int32)
set_option maxRecDepth 100000 in
set_option maxHeartbeats 4000000 in
theorem wX9_listLayouts {E : kdE} {G : kdS} {l0 : Nat} {σ : kdM} {r : Unit} {σ1 : kdM} (h : X9_listLayouts G l0 σ = some (r, σ1)) : Con E G yX9_listLayouts cX9_listLayouts 2 none 4 [kr E l0] σ (none, σ1) := by
  refine kd_head (own := RX9) rfl (by decide +kernel) (Nat.le_of_ble_eq_true rfl) (fun A hX => ?_)
  show SW E G (.inl (none, σ1)) A 2 σ 0 [(0, kr E l0)] []
  unfold X9_listLayouts at h
  refine r_aload_n hX dX9_listLayouts_0 rfl 0 rfl ?_
  refine r_iconst hX dX9_listLayouts_1 kk_i_0 ?_
  refine r_sI hX dX9_listLayouts_2 kf_X9_74 rfl (by intro q hq; cases hq; rfl) h ?_
  clear h; intro σ h
  refine r_aload_n hX dX9_listLayouts_5 rfl 0 rfl ?_
  refine r_aload_n hX dX9_listLayouts_6 rfl 0 rfl ?_
  refine r_gR hX dX9_listLayouts_7 kf_X9_43 rfl h ?_
  clear h; intro t1 h
  refine r_cVi (As := []) (st := [kr E l0]) hX dX9_listLayouts_10 kl_X3_size w_ml_X9_77 w_im_X3_size w_se_X3_size ⟨_, _, rfl⟩ (by decide) rfl (Nat.le_of_ble_eq_true rfl) rfl kdz0 h (fun r σ1 h => wX3_size h) ?_
  clear h; intro t2 σ h
  refine r_aload_n hX dX9_listLayouts_13 rfl 0 rfl ?_
  refine r_gR hX dX9_listLayouts_14 kf_X9_43 rfl h ?_
  clear h; intro t3 h
  refine r_cVi (As := []) (st := [.int t2, kr E l0]) hX dX9_listLayouts_17 kl_X3_size w_ml_X9_77 w_im_X3_size w_se_X3_size ⟨_, _, rfl⟩ (by decide) rfl (Nat.le_of_ble_eq_true rfl) rfl kdz0 h (fun r σ1 h => wX3_size h) ?_
  clear h; intro t4 σ h
  refine r_iconst hX dX9_listLayouts_20 kk_i_1 ?_
  refine r_isub hX dX9_listLayouts_21 ?_
  refine r_imul hX dX9_listLayouts_22 ?_
  refine r_iconst hX dX9_listLayouts_23 kk_i_2 ?_
  refine r_idiv hX dX9_listLayouts_24 h ?_
  clear h; intro h
  refine r_sI hX dX9_listLayouts_25 kf_X9_79 rfl (by intro q hq; cases hq; rfl) h ?_
  clear h; intro σ h
  refine r_aload_n hX dX9_listLayouts_28 rfl 0 rfl ?_
  refine r_gR hX dX9_listLayouts_29 kf_X9_43 rfl h ?_
  clear h; intro t5 h
  refine r_cVv (As := []) (st := []) hX dX9_listLayouts_32 kl_X3_startAtFirst w_ml_X9_82 w_im_X3_startAtFirst w_se_X3_startAtFirst ⟨_, _, rfl⟩ (by decide) rfl (Nat.le_of_ble_eq_true rfl) rfl kdz0 h (fun r σ1 h => wX3_startAtFirst h) ?_
  clear h; intro u σ h
  refine r_iconst hX dX9_listLayouts_35 kk_i_1 ?_
  refine r_istore_n (L2 := [(1, .int (1 : Int32)), (0, kr E l0)]) hX dX9_listLayouts_36 rfl (by decide) rfl ?_
  refine r_sub [1, 0] rfl ?_
  exact wX9_listLayouts_37 hX _ _ _ h
def X9_lowestUnsettled_47 (G : kdS) (k4 : Nat → Int32 → Int32 → kdM → Option (Int32 × kdM)) (l0 : Nat) (l1 : Int32) (l2 : Int32) : kdM → Option (Int32 × kdM) :=
  ltI (l2 + Int32.ofInt 1) fun t1 =>
  k4 l0 l1 t1
set_option maxRecDepth 100000 in
set_option maxHeartbeats 4000000 in
theorem wX9_lowestUnsettled_47 {E : kdE} {G : kdS} {A : kdA} {r : Int32} {σ1 : kdM} (hX : kdX E A cX9_lowestUnsettled 3 RX9 (some .int) 0) (k4 : Nat → Int32 → Int32 → kdM → Option (Int32 × kdM)) (hk4 : ∀ (l0 : Nat) (l1 : Int32) (l2 : Int32) (σ : kdM), k4 l0 l1 l2 σ = some (r, σ1) → SW E G (.inl (some (.int r), σ1)) A 3 σ 4 [(0, kr E l0), (1, .int l1), (2, .int l2)] []) {σ : kdM} {l0 : Nat} {l1 : Int32} {l2 : Int32} (h : X9_lowestUnsettled_47 G k4 l0 l1 l2 σ = some (r, σ1)) : SW E G (.inl (some (.int r), σ1)) A 3 σ 47 [(0, kr E l0), (1, .int l1), (2, .int l2)] [] := by
  unfold X9_lowestUnsettled_47 at h
  refine r_iincL (L2 := fun t1 => [(2, .int t1), (0, kr E l0), (1, .int l1)]) hX dX9_lowestUnsettled_47 h 2 rfl (by decide) (fun _ => rfl) ?_
  clear h; intro t1 h
  refine r_goto (tgt := 4) hX dX9_lowestUnsettled_50 (by decide) ?_
  refine r_sub [1, 2, 0] rfl ?_
  exact hk4 _ _ _ _ h
def X9_lowestUnsettled_45 (G : kdS) (k4 : Nat → Int32 → Int32 → kdM → Option (Int32 × kdM)) (l0 : Nat) (l2 : Int32) : kdM → Option (Int32 × kdM) :=
  X9_lowestUnsettled_47 G k4 l0 l2 l2
set_option maxRecDepth 100000 in
set_option maxHeartbeats 4000000 in
theorem wX9_lowestUnsettled_45 {E : kdE} {G : kdS} {A : kdA} {r : Int32} {σ1 : kdM} (hX : kdX E A cX9_lowestUnsettled 3 RX9 (some .int) 0) (k4 : Nat → Int32 → Int32 → kdM → Option (Int32 × kdM)) (hk4 : ∀ (l0 : Nat) (l1 : Int32) (l2 : Int32) (σ : kdM), k4 l0 l1 l2 σ = some (r, σ1) → SW E G (.inl (some (.int r), σ1)) A 3 σ 4 [(0, kr E l0), (1, .int l1), (2, .int l2)] []) {σ : kdM} {l0 : Nat} {l2 : Int32} (h : X9_lowestUnsettled_45 G k4 l0 l2 σ = some (r, σ1)) : SW E G (.inl (some (.int r), σ1)) A 3 σ 45 [(0, kr E l0), (2, .int l2)] [] := by
  unfold X9_lowestUnsettled_45 at h
  refine r_iload_n hX dX9_lowestUnsettled_45 rfl 1 rfl ?_
  refine r_istore_n (L2 := [(1, .int l2), (0, kr E l0), (2, .int l2)]) hX dX9_lowestUnsettled_46 rfl (by decide) rfl ?_
  refine r_sub [1, 0, 2] rfl ?_
  exact wX9_lowestUnsettled_47 hX k4 hk4 h
def X9_lowestUnsettled_4B (G : kdS) (k4 : Nat → Int32 → Int32 → kdM → Option (Int32 × kdM)) (l0 : Nat) (l1 : Int32) (l2 : Int32) : kdM → Option (Int32 × kdM) :=
  gI G 9 9 l0 fun t1 =>
  cnd (t1 ≤ l2)
    (rt l1)
    (gR G 9 5 l0 fun t2 =>
    aZ G t2 (l1) fun t3 =>
    cnd (t3 = 0)
      (gR G 9 5 l0 fun t4 =>
      aZ G t4 (l2) fun t5 =>
      cnd (t5 = 0)
        (gR G 9 4 l0 fun t6 =>
        aI G t6 (l2) fun t7 =>
        gR G 9 4 l0 fun t8 =>
        aI G t8 (l1) fun t9 =>
        cnd (t9 ≤ t7)
          (X9_lowestUnsettled_47 G k4 l0 l1 l2)
          (X9_lowestUnsettled_45 G k4 l0 l2))
        (X9_lowestUnsettled_47 G k4 l0 l1 l2))
      (X9_lowestUnsettled_45 G k4 l0 l2))
set_option maxRecDepth 100000 in
set_option maxHeartbeats 4000000 in
theorem wX9_lowestUnsettled_4B {E : kdE} {G : kdS} {A : kdA} {r : Int32} {σ1 : kdM} (hX : kdX E A cX9_lowestUnsettled 3 RX9 (some .int) 0) (k4 : Nat → Int32 → Int32 → kdM → Option (Int32 × kdM)) (hk4 : ∀ (l0 : Nat) (l1 : Int32) (l2 : Int32) (σ : kdM), k4 l0 l1 l2 σ = some (r, σ1) → SW E G (.inl (some (.int r), σ1)) A 3 σ 4 [(0, kr E l0), (1, .int l1), (2, .int l2)] []) {σ : kdM} {l0 : Nat} {l1 : Int32} {l2 : Int32} (h : X9_lowestUnsettled_4B G k4 l0 l1 l2 σ = some (r, σ1)) : SW E G (.inl (some (.int r), σ1)) A 3 σ 4 [(0, kr E l0), (1, .int l1), (2, .int l2)] [] := by
  unfold X9_lowestUnsettled_4B at h
  refine r_iload_n hX dX9_lowestUnsettled_4 rfl 2 rfl ?_
  refine r_aload_n hX dX9_lowestUnsettled_5 rfl 0 rfl ?_
  refine r_gI hX dX9_lowestUnsettled_6 kf_X9_74 rfl h ?_
  clear h; intro t1 h
  refine r_icmp_ge (tgt := 53) hX dX9_lowestUnsettled_9 (by decide) h ?_ ?_
  · clear h; intro h
    refine r_iload_n hX dX9_lowestUnsettled_53 rfl 1 rfl ?_
    exact r_iret hX dX9_lowestUnsettled_54 h
  · clear h; intro h
    refine r_aload_n hX dX9_lowestUnsettled_12 rfl 0 rfl ?_
    refine r_gR hX dX9_lowestUnsettled_13 kf_X9_24 rfl h ?_
    clear h; intro t2 h
    refine r_iload_n hX dX9_lowestUnsettled_16 rfl 1 rfl ?_
    refine r_aZ hX dX9_lowestUnsettled_17 h ?_
    clear h; intro t3 h
    refine r_if_ne (tgt := 45) hX dX9_lowestUnsettled_18 (by decide) h ?_ ?_
    · clear h; intro h
      refine r_aload_n hX dX9_lowestUnsettled_21 rfl 0 rfl ?_
      refine r_gR hX dX9_lowestUnsettled_22 kf_X9_24 rfl h ?_
      clear h; intro t4 h
      refine r_iload_n hX dX9_lowestUnsettled_25 rfl 2 rfl ?_
      refine r_aZ hX dX9_lowestUnsettled_26 h ?_
      clear h; intro t5 h
      refine r_if_ne (tgt := 47) hX dX9_lowestUnsettled_27 (by decide) h ?_ ?_
      · clear h; intro h
        refine r_aload_n hX dX9_lowestUnsettled_30 rfl 0 rfl ?_
        refine r_gR hX dX9_lowestUnsettled_31 kf_X9_21 rfl h ?_
        clear h; intro t6 h
        refine r_iload_n hX dX9_lowestUnsettled_34 rfl 2 rfl ?_
        refine r_aI hX dX9_lowestUnsettled_35 h ?_
        clear h; intro t7 h
        refine r_aload_n hX dX9_lowestUnsettled_36 rfl 0 rfl ?_
        refine r_gR hX dX9_lowestUnsettled_37 kf_X9_21 rfl h ?_
        clear h; intro t8 h
        refine r_iload_n hX dX9_lowestUnsettled_40 rfl 1 rfl ?_
        refine r_aI hX dX9_lowestUnsettled_41 h ?_
        clear h; intro t9 h
        refine r_icmp_ge (tgt := 47) hX dX9_lowestUnsettled_42 (by decide) h ?_ ?_
        · clear h; intro h
          refine r_sub [0, 1, 2] rfl ?_
          exact wX9_lowestUnsettled_47 hX k4 hk4 h
        · clear h; intro h
          refine r_sub [0, 2] rfl ?_
          exact wX9_lowestUnsettled_45 hX k4 hk4 h
      · clear h; intro h
        refine r_sub [0, 1, 2] rfl ?_
        exact wX9_lowestUnsettled_47 hX k4 hk4 h
    · clear h; intro h
      refine r_sub [0, 2] rfl ?_
      exact wX9_lowestUnsettled_45 hX k4 hk4 h
def X9_lowestUnsettled_4 (G : kdS) : Nat → Int32 → Int32 → kdM → Option (Int32 × kdM) := lp (fun _ _ _ _ => none) (X9_lowestUnsettled_4B G) NN
theorem wX9_lowestUnsettled_4 {E : kdE} {G : kdS} {A : kdA} {r : Int32} {σ1 : kdM} (hX : kdX E A cX9_lowestUnsettled 3 RX9 (some .int) 0) : ∀ (l0 : Nat) (l1 : Int32) (l2 : Int32) (σ : kdM), X9_lowestUnsettled_4 G l0 l1 l2 σ = some (r, σ1) → SW E G (.inl (some (.int r), σ1)) A 3 σ 4 [(0, kr E l0), (1, .int l1), (2, .int l2)] [] :=
  lp_ind (Q := fun f => ∀ (l0 : Nat) (l1 : Int32) (l2 : Int32) (σ : kdM), f l0 l1 l2 σ = some (r, σ1) → SW E G (.inl (some (.int r), σ1)) A 3 σ 4 [(0, kr E l0), (1, .int l1), (2, .int l2)] []) (by intros; contradiction) (fun k hk l0 l1 l2 σ h => wX9_lowestUnsettled_4B hX k hk h) NN
def X9_lowestUnsettled (G : kdS) (l0 : Nat) : kdM → Option (Int32 × kdM) :=
  X9_lowestUnsettled_4 G l0 (0 : Int32) (1 : Int32)
set_option maxRecDepth 100000 in
set_option maxHeartbeats 4000000 in
theorem wX9_lowestUnsettled {E : kdE} {G : kdS} {l0 : Nat} {σ : kdM} {r : Int32} {σ1 : kdM} (h : X9_lowestUnsettled G l0 σ = some (r, σ1)) : Con E G yX9_lowestUnsettled cX9_lowestUnsettled 3 (some .int) 0 [kr E l0] σ (some (.int r), σ1) := by
  refine kd_head (own := RX9) rfl (by decide +kernel) (Nat.le_of_ble_eq_true rfl) (fun A hX => ?_)
  show SW E G (.inl (some (.int r), σ1)) A 3 σ 0 [(0, kr E l0)] []
  unfold X9_lowestUnsettled at h
  refine r_iconst hX dX9_lowestUnsettled_0 kk_i_0 ?_
  refine r_istore_n (L2 := [(1, .int (0 : Int32)), (0, kr E l0)]) hX dX9_lowestUnsettled_1 rfl (by decide) rfl ?_
  refine r_iconst hX dX9_lowestUnsettled_2 kk_i_1 ?_
  refine r_istore_n (L2 := [(2, .int (1 : Int32)), (1, .int (0 : Int32)), (0, kr E l0)]) hX dX9_lowestUnsettled_3 rfl (by decide) rfl ?_
  refine r_sub [2, 1, 0] rfl ?_
  exact wX9_lowestUnsettled_4 hX _ _ _ _ h
def X9_peakOfWay_144 (G : kdS) (l0 : Nat) (l2 : Int32) : kdM → Option (Int32 × kdM) :=
  gR G 9 4 l0 fun t1 =>
  aI G t1 (l2) fun t2 =>
  rt t2
set_option maxRecDepth 100000 in
set_option maxHeartbeats 4000000 in
theorem wX9_peakOfWay_144 {E : kdE} {G : kdS} {A : kdA} {r : Int32} {σ1 : kdM} (hX : kdX E A cX9_peakOfWay 7 RX9 (some .int) 1) {σ : kdM} {l0 : Nat} {l2 : Int32} (h : X9_peakOfWay_144 G l0 l2 σ = some (r, σ1)) : SW E G (.inl (some (.int r), σ1)) A 7 σ 144 [(0, kr E l0), (2, .int l2)] [] := by
  unfold X9_peakOfWay_144 at h
  refine r_aload_n hX dX9_peakOfWay_144 rfl 0 rfl ?_
  refine r_gR hX dX9_peakOfWay_145 kf_X9_21 rfl h ?_
  clear h; intro t1 h
  refine r_iload_n hX dX9_peakOfWay_148 rfl 1 rfl ?_
  refine r_aI hX dX9_peakOfWay_149 h ?_
  clear h; intro t2 h
  exact r_iret hX dX9_peakOfWay_150 h
def X9_peakOfWay_79B (G : kdS) (k45 : Nat → Int32 → Int32 → kdM → Option (Int32 × kdM)) (k79 : Nat → Int32 → Int32 → Int32 → Int32 → kdM → Option (Int32 × kdM)) (l0 : Nat) (l2 : Int32) (l3 : Int32) (l4 : Int32) (l5 : Int32) : kdM → Option (Int32 × kdM) :=
  gI G 9 10 l0 fun t1 =>
  cnd (t1 ≤ l5)
    (ltI (l3 + Int32.ofInt 1) fun t2 =>
    k45 l0 l2 t2)
    (kcv G 9 l0 (X9_neighbour G l0 l4 l5) fun t3 =>
    gR G 9 4 l0 fun t4 =>
    gR G 9 4 l0 fun t5 =>
    aI G t5 (t3) fun t6 =>
    gR G 9 4 l0 fun t7 =>
    aI G t7 (l4) fun t8 =>
    gR G 9 2 l0 fun t9 =>
    aI G t9 (t3) fun t10 =>
    tI G t4 (t3) ((kmin t6 (kmax t8 t10))) <|
    ltI (l5 + Int32.ofInt 1) fun t11 =>
    k79 l0 l2 l3 l4 t11)
set_option maxRecDepth 100000 in
set_option maxHeartbeats 4000000 in
theorem wX9_peakOfWay_79B {E : kdE} {G : kdS} {A : kdA} {r : Int32} {σ1 : kdM} (hX : kdX E A cX9_peakOfWay 7 RX9 (some .int) 1) (k45 : Nat → Int32 → Int32 → kdM → Option (Int32 × kdM)) (k79 : Nat → Int32 → Int32 → Int32 → Int32 → kdM → Option (Int32 × kdM)) (hk45 : ∀ (l0 : Nat) (l2 : Int32) (l3 : Int32) (σ : kdM), k45 l0 l2 l3 σ = some (r, σ1) → SW E G (.inl (some (.int r), σ1)) A 7 σ 45 [(0, kr E l0), (2, .int l2), (3, .int l3)] []) (hk79 : ∀ (l0 : Nat) (l2 : Int32) (l3 : Int32) (l4 : Int32) (l5 : Int32) (σ : kdM), k79 l0 l2 l3 l4 l5 σ = some (r, σ1) → SW E G (.inl (some (.int r), σ1)) A 7 σ 79 [(0, kr E l0), (2, .int l2), (3, .int l3), (4, .int l4), (5, .int l5)] []) {σ : kdM} {l0 : Nat} {l2 : Int32} {l3 : Int32} {l4 : Int32} {l5 : Int32} (h : X9_peakOfWay_79B G k45 k79 l0 l2 l3 l4 l5 σ = some (r, σ1)) : SW E G (.inl (some (.int r), σ1)) A 7 σ 79 [(0, kr E l0), (2, .int l2), (3, .int l3), (4, .int l4), (5, .int l5)] [] := by
  unfold X9_peakOfWay_79B at h
  refine r_iload hX dX9_peakOfWay_79 4 rfl ?_
  refine r_aload_n hX dX9_peakOfWay_81 rfl 0 rfl ?_
  refine r_gI hX dX9_peakOfWay_82 kf_X9_79 rfl h ?_
  clear h; intro t1 h
  refine r_icmp_ge (tgt := 138) hX dX9_peakOfWay_85 (by decide) h ?_ ?_
  · clear h; intro h
    refine r_iincL (L2 := fun t2 => [(3, .int t2), (0, kr E l0), (2, .int l2), (4, .int l4), (5, .int l5)]) hX dX9_peakOfWay_138 h 2 rfl (by decide) (fun _ => rfl) ?_
    clear h; intro t2 h
    refine r_goto (tgt := 45) hX dX9_peakOfWay_141 (by decide) ?_
    refine r_sub [1, 2, 0] rfl ?_
    exact hk45 _ _ _ _ h
  · clear h; intro h
    refine r_aload_n hX dX9_peakOfWay_88 rfl 0 rfl ?_
    refine r_iload hX dX9_peakOfWay_89 3 rfl ?_
    refine r_iload hX dX9_peakOfWay_91 4 rfl ?_
    refine r_cVi (As := [.int l4, .int l5]) (st := []) hX dX9_peakOfWay_93 kl_X9_neighbour w_ml_X9_105 w_im_X9_neighbour w_se_X9_neighbour ⟨_, _, rfl⟩ (by decide) rfl (Nat.le_of_ble_eq_true rfl) rfl kdz0 h (fun r σ1 h => wX9_neighbour h) ?_
    clear h; intro t3 σ h
    refine r_istore (L2 := [(6, .int t3), (0, kr E l0), (2, .int l2), (3, .int l3), (4, .int l4), (5, .int l5)]) hX dX9_peakOfWay_96 (by decide) rfl ?_
    refine r_aload_n hX dX9_peakOfWay_98 rfl 1 rfl ?_
    refine r_gR hX dX9_peakOfWay_99 kf_X9_21 rfl h ?_
    clear h; intro t4 h
    refine r_iload hX dX9_peakOfWay_102 0 rfl ?_
    refine r_aload_n hX dX9_peakOfWay_104 rfl 1 rfl ?_
    refine r_gR hX dX9_peakOfWay_105 kf_X9_21 rfl h ?_
    clear h; intro t5 h
    refine r_iload hX dX9_peakOfWay_108 0 rfl ?_
    refine r_aI hX dX9_peakOfWay_110 h ?_
    clear h; intro t6 h
    refine r_aload_n hX dX9_peakOfWay_111 rfl 1 rfl ?_
    refine r_gR hX dX9_peakOfWay_112 kf_X9_21 rfl h ?_
    clear h; intro t7 h
    refine r_iload hX dX9_peakOfWay_115 4 rfl ?_
    refine r_aI hX dX9_peakOfWay_117 h ?_
    clear h; intro t8 h
    refine r_aload_n hX dX9_peakOfWay_118 rfl 1 rfl ?_
    refine r_gR hX dX9_peakOfWay_119 kf_X9_15 rfl h ?_
    clear h; intro t9 h
    refine r_iload hX dX9_peakOfWay_122 0 rfl ?_
    refine r_aI hX dX9_peakOfWay_124 h ?_
    clear h; intro t10 h
    refine r_mmax hX dX9_peakOfWay_125 w_ml_X9_108 w_st_Math_max w_in_Math w_cd_Math_max (by decide) (Nat.le_of_ble_eq_true rfl) kdz0 ?_
    refine r_mmin hX dX9_peakOfWay_128 w_ml_X9_113 w_st_Math_min w_in_Math w_cd_Math_min (by decide) (Nat.le_of_ble_eq_true rfl) kdz0 ?_
    refine r_tI hX dX9_peakOfWay_131 h ?_
    clear h; intro σ h
    refine r_iincL (L2 := fun t11 => [(5, .int t11), (6, .int t3), (0, kr E l0), (2, .int l2), (3, .int l3), (4, .int l4)]) hX dX9_peakOfWay_132 h 5 rfl (by decide) (fun _ => rfl) ?_
    clear h; intro t11 h
    refine r_goto (tgt := 79) hX dX9_peakOfWay_135 (by decide) ?_
    refine r_sub [2, 3, 4, 5, 0] rfl ?_
    exact hk79 _ _ _ _ _ _ h
def X9_peakOfWay_79 (G : kdS) (k45 : Nat → Int32 → Int32 → kdM → Option (Int32 × kdM)) : Nat → Int32 → Int32 → Int32 → Int32 → kdM → Option (Int32 × kdM) := lp (fun _ _ _ _ _ _ => none) (X9_peakOfWay_79B G k45) NN
theorem wX9_peakOfWay_79 {E : kdE} {G : kdS} {A : kdA} {r : Int32} {σ1 : kdM} (hX : kdX E A cX9_peakOfWay 7 RX9 (some .int) 1) (k45 : Nat → Int32 → Int32 → kdM → Option (Int32 × kdM)) (hk45 : ∀ (l0 : Nat) (l2 : Int32) (l3 : Int32) (σ : kdM), k45 l0 l2 l3 σ = some (r, σ1) → SW E G (.inl (some (.int r), σ1)) A 7 σ 45 [(0, kr E l0), (2, .int l2), (3, .int l3)] []) : ∀ (l0 : Nat) (l2 : Int32) (l3 : Int32) (l4 : Int32) (l5 : Int32) (σ : kdM), X9_peakOfWay_79 G k45 l0 l2 l3 l4 l5 σ = some (r, σ1) → SW E G (.inl (some (.int r), σ1)) A 7 σ 79 [(0, kr E l0), (2, .int l2), (3, .int l3), (4, .int l4), (5, .int l5)] [] :=
  lp_ind (Q := fun f => ∀ (l0 : Nat) (l2 : Int32) (l3 : Int32) (l4 : Int32) (l5 : Int32) (σ : kdM), f l0 l2 l3 l4 l5 σ = some (r, σ1) → SW E G (.inl (some (.int r), σ1)) A 7 σ 79 [(0, kr E l0), (2, .int l2), (3, .int l3), (4, .int l4), (5, .int l5)] []) (by intros; contradiction) (fun k hk l0 l2 l3 l4 l5 σ h => wX9_peakOfWay_79B hX k45 k hk45 hk h) NN
def X9_peakOfWay_45B (G : kdS) (k45 : Nat → Int32 → Int32 → kdM → Option (Int32 × kdM)) (l0 : Nat) (l2 : Int32) (l3 : Int32) : kdM → Option (Int32 × kdM) :=
  gI G 9 9 l0 fun t1 =>
  cnd (t1 ≤ l3)
    (X9_peakOfWay_144 G l0 l2)
    (gR G 9 5 l0 fun t2 =>
    aZ G t2 (l2) fun t3 =>
    cnd (t3 = 0)
      (kcv G 9 l0 (X9_lowestUnsettled G l0) fun t4 =>
      gR G 9 5 l0 fun t5 =>
      tZ G t5 (t4) ((1 : Int32)) <|
      X9_peakOfWay_79 G k45 l0 l2 l3 t4 (0 : Int32))
      (X9_peakOfWay_144 G l0 l2))
set_option maxRecDepth 100000 in
set_option maxHeartbeats 4000000 in
theorem wX9_peakOfWay_45B {E : kdE} {G : kdS} {A : kdA} {r : Int32} {σ1 : kdM} (hX : kdX E A cX9_peakOfWay 7 RX9 (some .int) 1) (k45 : Nat → Int32 → Int32 → kdM → Option (Int32 × kdM)) (hk45 : ∀ (l0 : Nat) (l2 : Int32) (l3 : Int32) (σ : kdM), k45 l0 l2 l3 σ = some (r, σ1) → SW E G (.inl (some (.int r), σ1)) A 7 σ 45 [(0, kr E l0), (2, .int l2), (3, .int l3)] []) {σ : kdM} {l0 : Nat} {l2 : Int32} {l3 : Int32} (h : X9_peakOfWay_45B G k45 l0 l2 l3 σ = some (r, σ1)) : SW E G (.inl (some (.int r), σ1)) A 7 σ 45 [(0, kr E l0), (2, .int l2), (3, .int l3)] [] := by
  unfold X9_peakOfWay_45B at h
  refine r_iload_n hX dX9_peakOfWay_45 rfl 2 rfl ?_
  refine r_aload_n hX dX9_peakOfWay_46 rfl 0 rfl ?_
  refine r_gI hX dX9_peakOfWay_47 kf_X9_74 rfl h ?_
  clear h; intro t1 h
  refine r_icmp_ge (tgt := 144) hX dX9_peakOfWay_50 (by decide) h ?_ ?_
  · clear h; intro h
    refine r_sub [0, 1] rfl ?_
    exact wX9_peakOfWay_144 hX h
  · clear h; intro h
    refine r_aload_n hX dX9_peakOfWay_53 rfl 0 rfl ?_
    refine r_gR hX dX9_peakOfWay_54 kf_X9_24 rfl h ?_
    clear h; intro t2 h
    refine r_iload_n hX dX9_peakOfWay_57 rfl 1 rfl ?_
    refine r_aZ hX dX9_peakOfWay_58 h ?_
    clear h; intro t3 h
    refine r_if_ne (tgt := 144) hX dX9_peakOfWay_59 (by decide) h ?_ ?_
    · clear h; intro h
      refine r_aload_n hX dX9_peakOfWay_62 rfl 0 rfl ?_
      refine r_cVi (As := []) (st := []) hX dX9_peakOfWay_63 kl_X9_lowestUnsettled w_ml_X9_102 w_im_X9_lowestUnsettled w_se_X9_lowestUnsettled ⟨_, _, rfl⟩ (by decide) rfl (Nat.le_of_ble_eq_true rfl) rfl kdz0 h (fun r σ1 h => wX9_lowestUnsettled h) ?_
      clear h; intro t4 σ h
      refine r_istore (L2 := [(4, .int t4), (0, kr E l0), (2, .int l2), (3, .int l3)]) hX dX9_peakOfWay_66 (by decide) rfl ?_
      refine r_aload_n hX dX9_peakOfWay_68 rfl 1 rfl ?_
      refine r_gR hX dX9_peakOfWay_69 kf_X9_24 rfl h ?_
      clear h; intro t5 h
      refine r_iload hX dX9_peakOfWay_72 0 rfl ?_
      refine r_iconst hX dX9_peakOfWay_74 kk_i_1 ?_
      refine r_tZ hX dX9_peakOfWay_75 h ?_
      clear h; intro σ h
      refine r_iconst hX dX9_peakOfWay_76 kk_i_0 ?_
      refine r_istore (L2 := [(5, .int (0 : Int32)), (4, .int t4), (0, kr E l0), (2, .int l2), (3, .int l3)]) hX dX9_peakOfWay_77 (by decide) rfl ?_
      refine r_sub [2, 3, 4, 1, 0] rfl ?_
      exact wX9_peakOfWay_79 hX k45 hk45 _ _ _ _ _ _ h
    · clear h; intro h
      refine r_sub [0, 1] rfl ?_
      exact wX9_peakOfWay_144 hX h
def X9_peakOfWay_45 (G : kdS) : Nat → Int32 → Int32 → kdM → Option (Int32 × kdM) := lp (fun _ _ _ _ => none) (X9_peakOfWay_45B G) NN
theorem wX9_peakOfWay_45 {E : kdE} {G : kdS} {A : kdA} {r : Int32} {σ1 : kdM} (hX : kdX E A cX9_peakOfWay 7 RX9 (some .int) 1) : ∀ (l0 : Nat) (l2 : Int32) (l3 : Int32) (σ : kdM), X9_peakOfWay_45 G l0 l2 l3 σ = some (r, σ1) → SW E G (.inl (some (.int r), σ1)) A 7 σ 45 [(0, kr E l0), (2, .int l2), (3, .int l3)] [] :=
  lp_ind (Q := fun f => ∀ (l0 : Nat) (l2 : Int32) (l3 : Int32) (σ : kdM), f l0 l2 l3 σ = some (r, σ1) → SW E G (.inl (some (.int r), σ1)) A 7 σ 45 [(0, kr E l0), (2, .int l2), (3, .int l3)] []) (by intros; contradiction) (fun k hk l0 l2 l3 σ h => wX9_peakOfWay_45B hX k hk h) NN
def X9_peakOfWay_2B (G : kdS) (k2 : Nat → Int32 → Int32 → Int32 → kdM → Option (Int32 × kdM)) (l0 : Nat) (l1 : Int32) (l2 : Int32) (l3 : Int32) : kdM → Option (Int32 × kdM) :=
  gI G 9 9 l0 fun t1 =>
  cnd (t1 ≤ l3)
    (gR G 9 4 l0 fun t2 =>
    gR G 9 2 l0 fun t3 =>
    aI G t3 (l1) fun t4 =>
    tI G t2 (l1) (t4) <|
    X9_peakOfWay_45 G l0 l2 (0 : Int32))
    (gR G 9 4 l0 fun t5 =>
    tI G t5 (l3) ((1000000000 : Int32)) <|
    gR G 9 5 l0 fun t6 =>
    tZ G t6 (l3) ((0 : Int32)) <|
    ltI (l3 + Int32.ofInt 1) fun t7 =>
    k2 l0 l1 l2 t7)
set_option maxRecDepth 100000 in
set_option maxHeartbeats 4000000 in
theorem wX9_peakOfWay_2B {E : kdE} {G : kdS} {A : kdA} {r : Int32} {σ1 : kdM} (hX : kdX E A cX9_peakOfWay 7 RX9 (some .int) 1) (k2 : Nat → Int32 → Int32 → Int32 → kdM → Option (Int32 × kdM)) (hk2 : ∀ (l0 : Nat) (l1 : Int32) (l2 : Int32) (l3 : Int32) (σ : kdM), k2 l0 l1 l2 l3 σ = some (r, σ1) → SW E G (.inl (some (.int r), σ1)) A 7 σ 2 [(0, kr E l0), (1, .int l1), (2, .int l2), (3, .int l3)] []) {σ : kdM} {l0 : Nat} {l1 : Int32} {l2 : Int32} {l3 : Int32} (h : X9_peakOfWay_2B G k2 l0 l1 l2 l3 σ = some (r, σ1)) : SW E G (.inl (some (.int r), σ1)) A 7 σ 2 [(0, kr E l0), (1, .int l1), (2, .int l2), (3, .int l3)] [] := by
  unfold X9_peakOfWay_2B at h
  refine r_iload_n hX dX9_peakOfWay_2 rfl 3 rfl ?_
  refine r_aload_n hX dX9_peakOfWay_3 rfl 0 rfl ?_
  refine r_gI hX dX9_peakOfWay_4 kf_X9_74 rfl h ?_
  clear h; intro t1 h
  refine r_icmp_ge (tgt := 31) hX dX9_peakOfWay_7 (by decide) h ?_ ?_
  · clear h; intro h
    refine r_aload_n hX dX9_peakOfWay_31 rfl 0 rfl ?_
    refine r_gR hX dX9_peakOfWay_32 kf_X9_21 rfl h ?_
    clear h; intro t2 h
    refine r_iload_n hX dX9_peakOfWay_35 rfl 1 rfl ?_
    refine r_aload_n hX dX9_peakOfWay_36 rfl 0 rfl ?_
    refine r_gR hX dX9_peakOfWay_37 kf_X9_15 rfl h ?_
    clear h; intro t3 h
    refine r_iload_n hX dX9_peakOfWay_40 rfl 1 rfl ?_
    refine r_aI hX dX9_peakOfWay_41 h ?_
    clear h; intro t4 h
    refine r_tI hX dX9_peakOfWay_42 h ?_
    clear h; intro σ h
    refine r_iconst hX dX9_peakOfWay_43 kk_i_0 ?_
    refine r_istore_n (L2 := [(3, .int (0 : Int32)), (0, kr E l0), (1, .int l1), (2, .int l2)]) hX dX9_peakOfWay_44 rfl (by decide) rfl ?_
    refine r_sub [1, 3, 0] rfl ?_
    exact wX9_peakOfWay_45 hX _ _ _ _ h
  · clear h; intro h
    refine r_aload_n hX dX9_peakOfWay_10 rfl 0 rfl ?_
    refine r_gR hX dX9_peakOfWay_11 kf_X9_21 rfl h ?_
    clear h; intro t5 h
    refine r_iload_n hX dX9_peakOfWay_14 rfl 3 rfl ?_
    refine r_ldc hX dX9_peakOfWay_15 w_ct_X9_101 ?_
    refine r_tI hX dX9_peakOfWay_17 h ?_
    clear h; intro σ h
    refine r_aload_n hX dX9_peakOfWay_18 rfl 0 rfl ?_
    refine r_gR hX dX9_peakOfWay_19 kf_X9_24 rfl h ?_
    clear h; intro t6 h
    refine r_iload_n hX dX9_peakOfWay_22 rfl 3 rfl ?_
    refine r_iconst hX dX9_peakOfWay_23 kk_i_0 ?_
    refine r_tZ hX dX9_peakOfWay_24 h ?_
    clear h; intro σ h
    refine r_iincL (L2 := fun t7 => [(3, .int t7), (0, kr E l0), (1, .int l1), (2, .int l2)]) hX dX9_peakOfWay_25 h 3 rfl (by decide) (fun _ => rfl) ?_
    clear h; intro t7 h
    refine r_goto (tgt := 2) hX dX9_peakOfWay_28 (by decide) ?_
    refine r_sub [1, 2, 3, 0] rfl ?_
    exact hk2 _ _ _ _ _ h
def X9_peakOfWay_2 (G : kdS) : Nat → Int32 → Int32 → Int32 → kdM → Option (Int32 × kdM) := lp (fun _ _ _ _ _ => none) (X9_peakOfWay_2B G) NN
theorem wX9_peakOfWay_2 {E : kdE} {G : kdS} {A : kdA} {r : Int32} {σ1 : kdM} (hX : kdX E A cX9_peakOfWay 7 RX9 (some .int) 1) : ∀ (l0 : Nat) (l1 : Int32) (l2 : Int32) (l3 : Int32) (σ : kdM), X9_peakOfWay_2 G l0 l1 l2 l3 σ = some (r, σ1) → SW E G (.inl (some (.int r), σ1)) A 7 σ 2 [(0, kr E l0), (1, .int l1), (2, .int l2), (3, .int l3)] [] :=
  lp_ind (Q := fun f => ∀ (l0 : Nat) (l1 : Int32) (l2 : Int32) (l3 : Int32) (σ : kdM), f l0 l1 l2 l3 σ = some (r, σ1) → SW E G (.inl (some (.int r), σ1)) A 7 σ 2 [(0, kr E l0), (1, .int l1), (2, .int l2), (3, .int l3)] []) (by intros; contradiction) (fun k hk l0 l1 l2 l3 σ h => wX9_peakOfWay_2B hX k hk h) NN
def X9_peakOfWay (G : kdS) (l0 : Nat) (l1 : Int32) (l2 : Int32) : kdM → Option (Int32 × kdM) :=
  X9_peakOfWay_2 G l0 l1 l2 (0 : Int32)
set_option maxRecDepth 100000 in
set_option maxHeartbeats 4000000 in
theorem wX9_peakOfWay {E : kdE} {G : kdS} {l0 : Nat} {l1 : Int32} {l2 : Int32} {σ : kdM} {r : Int32} {σ1 : kdM} (h : X9_peakOfWay G l0 l1 l2 σ = some (r, σ1)) : Con E G yX9_peakOfWay cX9_peakOfWay 7 (some .int) 1 [kr E l0, .int l1, .int l2] σ (some (.int r), σ1) := by
  refine kd_head (own := RX9) rfl (by decide +kernel) (Nat.le_of_ble_eq_true rfl) (fun A hX => ?_)
  show SW E G (.inl (some (.int r), σ1)) A 7 σ 0 [(0, kr E l0), (1, .int l1), (2, .int l2)] []
  unfold X9_peakOfWay at h
  refine r_iconst hX dX9_peakOfWay_0 kk_i_0 ?_
  refine r_istore_n (L2 := [(3, .int (0 : Int32)), (0, kr E l0), (1, .int l1), (2, .int l2)]) hX dX9_peakOfWay_1 rfl (by decide) rfl ?_
  refine r_sub [1, 2, 3, 0] rfl ?_
  exact wX9_peakOfWay_2 hX _ _ _ _ _ h
def X9_firstWith_48 (G : kdS) (k5 : Nat → Int32 → Int32 → Int32 → Int32 → kdM → Option (Int32 × kdM)) (l0 : Nat) (l1 : Int32) (l2 : Int32) (l3 : Int32) (l4 : Int32) : kdM → Option (Int32 × kdM) :=
  ltI (l4 + Int32.ofInt 1) fun t1 =>
  k5 l0 l1 l2 l3 t1
set_option maxRecDepth 100000 in
set_option maxHeartbeats 4000000 in
theorem wX9_firstWith_48 {E : kdE} {G : kdS} {A : kdA} {r : Int32} {σ1 : kdM} (hX : kdX E A cX9_firstWith 6 RX9 (some .int) 1) (k5 : Nat → Int32 → Int32 → Int32 → Int32 → kdM → Option (Int32 × kdM)) (hk5 : ∀ (l0 : Nat) (l1 : Int32) (l2 : Int32) (l3 : Int32) (l4 : Int32) (σ : kdM), k5 l0 l1 l2 l3 l4 σ = some (r, σ1) → SW E G (.inl (some (.int r), σ1)) A 6 σ 5 [(0, kr E l0), (1, .int l1), (2, .int l2), (3, .int l3), (4, .int l4)] []) {σ : kdM} {l0 : Nat} {l1 : Int32} {l2 : Int32} {l3 : Int32} {l4 : Int32} (h : X9_firstWith_48 G k5 l0 l1 l2 l3 l4 σ = some (r, σ1)) : SW E G (.inl (some (.int r), σ1)) A 6 σ 48 [(0, kr E l0), (1, .int l1), (2, .int l2), (3, .int l3), (4, .int l4)] [] := by
  unfold X9_firstWith_48 at h
  refine r_iincL (L2 := fun t1 => [(4, .int t1), (0, kr E l0), (1, .int l1), (2, .int l2), (3, .int l3)]) hX dX9_firstWith_48 h 4 rfl (by decide) (fun _ => rfl) ?_
  clear h; intro t1 h
  refine r_goto (tgt := 5) hX dX9_firstWith_51 (by decide) ?_
  refine r_sub [1, 2, 3, 4, 0] rfl ?_
  exact hk5 _ _ _ _ _ _ h
def X9_firstWith_45 (G : kdS) (k5 : Nat → Int32 → Int32 → Int32 → Int32 → kdM → Option (Int32 × kdM)) (l0 : Nat) (l1 : Int32) (l2 : Int32) (l4 : Int32) (l5 : Int32) : kdM → Option (Int32 × kdM) :=
  X9_firstWith_48 G k5 l0 l1 l2 l5 l4
set_option maxRecDepth 100000 in
set_option maxHeartbeats 4000000 in
theorem wX9_firstWith_45 {E : kdE} {G : kdS} {A : kdA} {r : Int32} {σ1 : kdM} (hX : kdX E A cX9_firstWith 6 RX9 (some .int) 1) (k5 : Nat → Int32 → Int32 → Int32 → Int32 → kdM → Option (Int32 × kdM)) (hk5 : ∀ (l0 : Nat) (l1 : Int32) (l2 : Int32) (l3 : Int32) (l4 : Int32) (σ : kdM), k5 l0 l1 l2 l3 l4 σ = some (r, σ1) → SW E G (.inl (some (.int r), σ1)) A 6 σ 5 [(0, kr E l0), (1, .int l1), (2, .int l2), (3, .int l3), (4, .int l4)] []) {σ : kdM} {l0 : Nat} {l1 : Int32} {l2 : Int32} {l4 : Int32} {l5 : Int32} (h : X9_firstWith_45 G k5 l0 l1 l2 l4 l5 σ = some (r, σ1)) : SW E G (.inl (some (.int r), σ1)) A 6 σ 45 [(0, kr E l0), (1, .int l1), (2, .int l2), (4, .int l4), (5, .int l5)] [] := by
  unfold X9_firstWith_45 at h
  refine r_iload hX dX9_firstWith_45 4 rfl ?_
  refine r_istore_n (L2 := [(3, .int l5), (0, kr E l0), (1, .int l1), (2, .int l2), (4, .int l4), (5, .int l5)]) hX dX9_firstWith_47 rfl (by decide) rfl ?_
  refine r_sub [1, 2, 3, 0, 4] rfl ?_
  exact wX9_firstWith_48 hX k5 hk5 h
def X9_firstWith_5B (G : kdS) (k5 : Nat → Int32 → Int32 → Int32 → Int32 → kdM → Option (Int32 × kdM)) (l0 : Nat) (l1 : Int32) (l2 : Int32) (l3 : Int32) (l4 : Int32) : kdM → Option (Int32 × kdM) :=
  gI G 9 10 l0 fun t1 =>
  cnd (t1 ≤ l4)
    (rt l3)
    (kcv G 9 l0 (X9_neighbour G l0 l2 l4) fun t2 =>
    gR G 9 6 l0 fun t3 =>
    aI G t3 (t2) fun t4 =>
    cnd (t4 = l1)
      (cnd (l3 = l2)
        (X9_firstWith_45 G k5 l0 l1 l2 l4 t2)
        (cnd (l3 ≤ t2)
          (X9_firstWith_48 G k5 l0 l1 l2 l3 l4)
          (X9_firstWith_45 G k5 l0 l1 l2 l4 t2)))
      (X9_firstWith_48 G k5 l0 l1 l2 l3 l4))
set_option maxRecDepth 100000 in
set_option maxHeartbeats 4000000 in
theorem wX9_firstWith_5B {E : kdE} {G : kdS} {A : kdA} {r : Int32} {σ1 : kdM} (hX : kdX E A cX9_firstWith 6 RX9 (some .int) 1) (k5 : Nat → Int32 → Int32 → Int32 → Int32 → kdM → Option (Int32 × kdM)) (hk5 : ∀ (l0 : Nat) (l1 : Int32) (l2 : Int32) (l3 : Int32) (l4 : Int32) (σ : kdM), k5 l0 l1 l2 l3 l4 σ = some (r, σ1) → SW E G (.inl (some (.int r), σ1)) A 6 σ 5 [(0, kr E l0), (1, .int l1), (2, .int l2), (3, .int l3), (4, .int l4)] []) {σ : kdM} {l0 : Nat} {l1 : Int32} {l2 : Int32} {l3 : Int32} {l4 : Int32} (h : X9_firstWith_5B G k5 l0 l1 l2 l3 l4 σ = some (r, σ1)) : SW E G (.inl (some (.int r), σ1)) A 6 σ 5 [(0, kr E l0), (1, .int l1), (2, .int l2), (3, .int l3), (4, .int l4)] [] := by
  unfold X9_firstWith_5B at h
  refine r_iload hX dX9_firstWith_5 4 rfl ?_
  refine r_aload_n hX dX9_firstWith_7 rfl 0 rfl ?_
  refine r_gI hX dX9_firstWith_8 kf_X9_79 rfl h ?_
  clear h; intro t1 h
  refine r_icmp_ge (tgt := 54) hX dX9_firstWith_11 (by decide) h ?_ ?_
  · clear h; intro h
    refine r_iload_n hX dX9_firstWith_54 rfl 3 rfl ?_
    exact r_iret hX dX9_firstWith_55 h
  · clear h; intro h
    refine r_aload_n hX dX9_firstWith_14 rfl 0 rfl ?_
    refine r_iload_n hX dX9_firstWith_15 rfl 2 rfl ?_
    refine r_iload hX dX9_firstWith_16 4 rfl ?_
    refine r_cVi (As := [.int l2, .int l4]) (st := []) hX dX9_firstWith_18 kl_X9_neighbour w_ml_X9_105 w_im_X9_neighbour w_se_X9_neighbour ⟨_, _, rfl⟩ (by decide) rfl (Nat.le_of_ble_eq_true rfl) rfl kdz0 h (fun r σ1 h => wX9_neighbour h) ?_
    clear h; intro t2 σ h
    refine r_istore (L2 := [(5, .int t2), (0, kr E l0), (1, .int l1), (2, .int l2), (3, .int l3), (4, .int l4)]) hX dX9_firstWith_21 (by decide) rfl ?_
    refine r_aload_n hX dX9_firstWith_23 rfl 1 rfl ?_
    refine r_gR hX dX9_firstWith_24 kf_X9_28 rfl h ?_
    clear h; intro t3 h
    refine r_iload hX dX9_firstWith_27 0 rfl ?_
    refine r_aI hX dX9_firstWith_29 h ?_
    clear h; intro t4 h
    refine r_iload_n hX dX9_firstWith_30 rfl 2 rfl ?_
    refine r_icmp_ne (tgt := 48) hX dX9_firstWith_31 (by decide) h ?_ ?_
    · clear h; intro h
      refine r_iload_n hX dX9_firstWith_34 rfl 4 rfl ?_
      refine r_iload_n hX dX9_firstWith_35 rfl 3 rfl ?_
      refine r_icmp_eq (tgt := 45) hX dX9_firstWith_36 (by decide) h ?_ ?_
      · clear h; intro h
        refine r_sub [1, 2, 3, 5, 0] rfl ?_
        exact wX9_firstWith_45 hX k5 hk5 h
      · clear h; intro h
        refine r_iload hX dX9_firstWith_39 0 rfl ?_
        refine r_iload_n hX dX9_firstWith_41 rfl 4 rfl ?_
        refine r_icmp_ge (tgt := 48) hX dX9_firstWith_42 (by decide) h ?_ ?_
        · clear h; intro h
          refine r_sub [1, 2, 3, 4, 5] rfl ?_
          exact wX9_firstWith_48 hX k5 hk5 h
        · clear h; intro h
          refine r_sub [1, 2, 3, 5, 0] rfl ?_
          exact wX9_firstWith_45 hX k5 hk5 h
    · clear h; intro h
      refine r_sub [1, 2, 3, 4, 5] rfl ?_
      exact wX9_firstWith_48 hX k5 hk5 h
def X9_firstWith_5 (G : kdS) : Nat → Int32 → Int32 → Int32 → Int32 → kdM → Option (Int32 × kdM) := lp (fun _ _ _ _ _ _ => none) (X9_firstWith_5B G) NN
theorem wX9_firstWith_5 {E : kdE} {G : kdS} {A : kdA} {r : Int32} {σ1 : kdM} (hX : kdX E A cX9_firstWith 6 RX9 (some .int) 1) : ∀ (l0 : Nat) (l1 : Int32) (l2 : Int32) (l3 : Int32) (l4 : Int32) (σ : kdM), X9_firstWith_5 G l0 l1 l2 l3 l4 σ = some (r, σ1) → SW E G (.inl (some (.int r), σ1)) A 6 σ 5 [(0, kr E l0), (1, .int l1), (2, .int l2), (3, .int l3), (4, .int l4)] [] :=
  lp_ind (Q := fun f => ∀ (l0 : Nat) (l1 : Int32) (l2 : Int32) (l3 : Int32) (l4 : Int32) (σ : kdM), f l0 l1 l2 l3 l4 σ = some (r, σ1) → SW E G (.inl (some (.int r), σ1)) A 6 σ 5 [(0, kr E l0), (1, .int l1), (2, .int l2), (3, .int l3), (4, .int l4)] []) (by intros; contradiction) (fun k hk l0 l1 l2 l3 l4 σ h => wX9_firstWith_5B hX k hk h) NN
def X9_firstWith (G : kdS) (l0 : Nat) (l1 : Int32) (l2 : Int32) : kdM → Option (Int32 × kdM) :=
  X9_firstWith_5 G l0 l1 l2 l2 (0 : Int32)
set_option maxRecDepth 100000 in
set_option maxHeartbeats 4000000 in
theorem wX9_firstWith {E : kdE} {G : kdS} {l0 : Nat} {l1 : Int32} {l2 : Int32} {σ : kdM} {r : Int32} {σ1 : kdM} (h : X9_firstWith G l0 l1 l2 σ = some (r, σ1)) : Con E G yX9_firstWith cX9_firstWith 6 (some .int) 1 [kr E l0, .int l1, .int l2] σ (some (.int r), σ1) := by
  refine kd_head (own := RX9) rfl (by decide +kernel) (Nat.le_of_ble_eq_true rfl) (fun A hX => ?_)
  show SW E G (.inl (some (.int r), σ1)) A 6 σ 0 [(0, kr E l0), (1, .int l1), (2, .int l2)] []
  unfold X9_firstWith at h
  refine r_iload_n hX dX9_firstWith_0 rfl 2 rfl ?_
  refine r_istore_n (L2 := [(3, .int l2), (0, kr E l0), (1, .int l1), (2, .int l2)]) hX dX9_firstWith_1 rfl (by decide) rfl ?_
  refine r_iconst hX dX9_firstWith_2 kk_i_0 ?_
  refine r_istore (L2 := [(4, .int (0 : Int32)), (3, .int l2), (0, kr E l0), (1, .int l1), (2, .int l2)]) hX dX9_firstWith_3 (by decide) rfl ?_
  refine r_sub [2, 3, 4, 1, 0] rfl ?_
  exact wX9_firstWith_5 hX _ _ _ _ _ _ h
def X9_walk_32B (G : kdS) (k32 : Nat → Int32 → Int32 → kdM → Option (Unit × kdM)) (l0 : Nat) (l2 : Int32) (l3 : Int32) : kdM → Option (Unit × kdM) :=
  cnd (l3 < 0)
    (rt ())
    (kcv G 9 l0 (X9_firstWith G l0 l3 l2) fun t1 =>
    gR G 9 8 l0 fun t2 =>
    gR G 9 1 l0 fun t3 =>
    aI G t3 (t1) fun t4 =>
    kcv G 6 t2 (X6_add G t2 t4) fun _ =>
    ltI (l3 + Int32.ofInt (-1)) fun t5 =>
    k32 l0 t1 t5)
set_option maxRecDepth 100000 in
set_option maxHeartbeats 4000000 in
theorem wX9_walk_32B {E : kdE} {G : kdS} {A : kdA} {r : Unit} {σ1 : kdM} (hX : kdX E A cX9_walk 4 RX9 none 3) (k32 : Nat → Int32 → Int32 → kdM → Option (Unit × kdM)) (hk32 : ∀ (l0 : Nat) (l2 : Int32) (l3 : Int32) (σ : kdM), k32 l0 l2 l3 σ = some (r, σ1) → SW E G (.inl (none, σ1)) A 4 σ 32 [(0, kr E l0), (2, .int l2), (3, .int l3)] []) {σ : kdM} {l0 : Nat} {l2 : Int32} {l3 : Int32} (h : X9_walk_32B G k32 l0 l2 l3 σ = some (r, σ1)) : SW E G (.inl (none, σ1)) A 4 σ 32 [(0, kr E l0), (2, .int l2), (3, .int l3)] [] := by
  unfold X9_walk_32B at h
  refine r_iload_n hX dX9_walk_32 rfl 2 rfl ?_
  refine r_if_lt (tgt := 62) hX dX9_walk_33 (by decide) h ?_ ?_
  · clear h; intro h
    exact r_vret hX dX9_walk_62 h
  · clear h; intro h
    refine r_aload_n hX dX9_walk_36 rfl 0 rfl ?_
    refine r_iload_n hX dX9_walk_37 rfl 2 rfl ?_
    refine r_iload_n hX dX9_walk_38 rfl 1 rfl ?_
    refine r_cVi (As := [.int l3, .int l2]) (st := []) hX dX9_walk_39 kl_X9_firstWith w_ml_X9_127 w_im_X9_firstWith w_se_X9_firstWith ⟨_, _, rfl⟩ (by decide) rfl (Nat.le_of_ble_eq_true rfl) rfl kdz0 h (fun r σ1 h => wX9_firstWith h) ?_
    clear h; intro t1 σ h
    refine r_istore_n (L2 := [(2, .int t1), (0, kr E l0), (3, .int l3)]) hX dX9_walk_42 rfl (by decide) rfl ?_
    refine r_aload_n hX dX9_walk_43 rfl 1 rfl ?_
    refine r_gR hX dX9_walk_44 kf_X9_40 rfl h ?_
    clear h; intro t2 h
    refine r_aload_n hX dX9_walk_47 rfl 1 rfl ?_
    refine r_gR hX dX9_walk_48 kf_X9_9 rfl h ?_
    clear h; intro t3 h
    refine r_iload_n hX dX9_walk_51 rfl 0 rfl ?_
    refine r_aI hX dX9_walk_52 h ?_
    clear h; intro t4 h
    refine r_cVv (As := [.int t4]) (st := []) hX dX9_walk_53 kl_X6_add w_ml_X9_119 w_im_X6_add w_se_X6_add ⟨_, _, rfl⟩ (by decide) rfl (Nat.le_of_ble_eq_true rfl) rfl kdz0 h (fun r σ1 h => wX6_add h) ?_
    clear h; intro u σ h
    refine r_iincL (L2 := fun t5 => [(3, .int t5), (2, .int t1), (0, kr E l0)]) hX dX9_walk_56 h 2 rfl (by decide) (fun _ => rfl) ?_
    clear h; intro t5 h
    refine r_goto (tgt := 32) hX dX9_walk_59 (by decide) ?_
    refine r_sub [2, 1, 0] rfl ?_
    exact hk32 _ _ _ _ h
def X9_walk_32 (G : kdS) : Nat → Int32 → Int32 → kdM → Option (Unit × kdM) := lp (fun _ _ _ _ => none) (X9_walk_32B G) NN
theorem wX9_walk_32 {E : kdE} {G : kdS} {A : kdA} {r : Unit} {σ1 : kdM} (hX : kdX E A cX9_walk 4 RX9 none 3) : ∀ (l0 : Nat) (l2 : Int32) (l3 : Int32) (σ : kdM), X9_walk_32 G l0 l2 l3 σ = some (r, σ1) → SW E G (.inl (none, σ1)) A 4 σ 32 [(0, kr E l0), (2, .int l2), (3, .int l3)] [] :=
  lp_ind (Q := fun f => ∀ (l0 : Nat) (l2 : Int32) (l3 : Int32) (σ : kdM), f l0 l2 l3 σ = some (r, σ1) → SW E G (.inl (none, σ1)) A 4 σ 32 [(0, kr E l0), (2, .int l2), (3, .int l3)] []) (by intros; contradiction) (fun k hk l0 l2 l3 σ h => wX9_walk_32B hX k hk h) NN
def X9_walk (G : kdS) (l0 : Nat) (l1 : Int32) : kdM → Option (Unit × kdM) :=
  gR G 9 8 l0 fun t1 =>
  kcv G 6 t1 (X6_clear G t1) fun t2 =>
  gR G 9 8 l0 fun t3 =>
  gR G 9 1 l0 fun t4 =>
  aI G t4 (l1) fun t5 =>
  kcv G 6 t3 (X6_add G t3 t5) fun _ =>
  gR G 9 6 l0 fun t6 =>
  aI G t6 (l1) fun t7 =>
  ltI ((t7 - (1 : Int32))) fun t8 =>
  X9_walk_32 G l0 l1 t8
set_option maxRecDepth 100000 in
set_option maxHeartbeats 4000000 in
theorem wX9_walk {E : kdE} {G : kdS} {l0 : Nat} {l1 : Int32} {σ : kdM} {r : Unit} {σ1 : kdM} (h : X9_walk G l0 l1 σ = some (r, σ1)) : Con E G yX9_walk cX9_walk 4 none 3 [kr E l0, .int l1] σ (none, σ1) := by
  refine kd_head (own := RX9) rfl (by decide +kernel) (Nat.le_of_ble_eq_true rfl) (fun A hX => ?_)
  show SW E G (.inl (none, σ1)) A 4 σ 0 [(0, kr E l0), (1, .int l1)] []
  unfold X9_walk at h
  refine r_aload_n hX dX9_walk_0 rfl 0 rfl ?_
  refine r_gR hX dX9_walk_1 kf_X9_40 rfl h ?_
  clear h; intro t1 h
  refine r_cVi (As := []) (st := []) hX dX9_walk_4 kl_X6_clear w_ml_X9_116 w_im_X6_clear w_se_X6_clear ⟨_, _, rfl⟩ (by decide) rfl (Nat.le_of_ble_eq_true rfl) rfl kdz0 h (fun r σ1 h => wX6_clear h) ?_
  clear h; intro t2 σ h
  refine r_pop hX dX9_walk_7 rfl ?_
  refine r_aload_n hX dX9_walk_8 rfl 0 rfl ?_
  refine r_gR hX dX9_walk_9 kf_X9_40 rfl h ?_
  clear h; intro t3 h
  refine r_aload_n hX dX9_walk_12 rfl 0 rfl ?_
  refine r_gR hX dX9_walk_13 kf_X9_9 rfl h ?_
  clear h; intro t4 h
  refine r_iload_n hX dX9_walk_16 rfl 1 rfl ?_
  refine r_aI hX dX9_walk_17 h ?_
  clear h; intro t5 h
  refine r_cVv (As := [.int t5]) (st := []) hX dX9_walk_18 kl_X6_add w_ml_X9_119 w_im_X6_add w_se_X6_add ⟨_, _, rfl⟩ (by decide) rfl (Nat.le_of_ble_eq_true rfl) rfl kdz0 h (fun r σ1 h => wX6_add h) ?_
  clear h; intro u σ h
  refine r_iload_n hX dX9_walk_21 rfl 1 rfl ?_
  refine r_istore_n (L2 := [(2, .int l1), (0, kr E l0), (1, .int l1)]) hX dX9_walk_22 rfl (by decide) rfl ?_
  refine r_aload_n hX dX9_walk_23 rfl 1 rfl ?_
  refine r_gR hX dX9_walk_24 kf_X9_28 rfl h ?_
  clear h; intro t6 h
  refine r_iload_n hX dX9_walk_27 rfl 2 rfl ?_
  refine r_aI hX dX9_walk_28 h ?_
  clear h; intro t7 h
  refine r_iconst hX dX9_walk_29 kk_i_1 ?_
  refine r_isub hX dX9_walk_30 ?_
  refine r_letI h ?_
  clear h; intro t8 h
  refine r_istore_n (L2 := [(3, .int t8), (2, .int l1), (0, kr E l0), (1, .int l1)]) hX dX9_walk_31 rfl (by decide) rfl ?_
  refine r_sub [2, 1, 0] rfl ?_
  exact wX9_walk_32 hX _ _ _ _ h
def X9_find (G : kdS) (l0 : Nat) (l1 : Int32) (l2 : Int32) : kdM → Option (Unit × kdM) :=
  gR G 9 0 l0 fun t1 =>
  kcv G 3 t1 (X3_read G t1 l1) fun t2 =>
  gR G 9 0 l0 fun t3 =>
  kcv G 3 t3 (X3_rank G t3) fun t4 =>
  gR G 9 0 l0 fun t5 =>
  kcv G 3 t5 (X3_read G t5 l2) fun t6 =>
  gR G 9 0 l0 fun t7 =>
  kcv G 3 t7 (X3_rank G t7) fun t8 =>
  kcv G 9 l0 (X9_listLayouts G l0) fun _ =>
  kcv G 9 l0 (X9_peakOfWay G l0 t4 t8) fun t9 =>
  sI G 9 11 l0 (t9) <|
  kcv G 9 l0 (X9_countSteps G l0 t8) fun _ =>
  kcv G 9 l0 (X9_walk G l0 t4) fun _ =>
  rt ()
set_option maxRecDepth 100000 in
set_option maxHeartbeats 4000000 in
theorem wX9_find {E : kdE} {G : kdS} {l0 : Nat} {l1 : Int32} {l2 : Int32} {σ : kdM} {r : Unit} {σ1 : kdM} (h : X9_find G l0 l1 l2 σ = some (r, σ1)) : Con E G yX9_find cX9_find 5 none 5 [kr E l0, .int l1, .int l2] σ (none, σ1) := by
  refine kd_head (own := RX9) rfl (by decide +kernel) (Nat.le_of_ble_eq_true rfl) (fun A hX => ?_)
  show SW E G (.inl (none, σ1)) A 5 σ 0 [(0, kr E l0), (1, .int l1), (2, .int l2)] []
  unfold X9_find at h
  refine r_aload_n hX dX9_find_0 rfl 0 rfl ?_
  refine r_gR hX dX9_find_1 kf_X9_43 rfl h ?_
  clear h; intro t1 h
  refine r_iload_n hX dX9_find_4 rfl 1 rfl ?_
  refine r_cVi (As := [.int l1]) (st := []) hX dX9_find_5 kl_X3_read w_ml_X9_51 w_im_X3_read w_se_X3_read ⟨_, _, rfl⟩ (by decide) rfl (Nat.le_of_ble_eq_true rfl) rfl kdz0 h (fun r σ1 h => wX3_read h) ?_
  clear h; intro t2 σ h
  refine r_pop hX dX9_find_8 rfl ?_
  refine r_aload_n hX dX9_find_9 rfl 0 rfl ?_
  refine r_gR hX dX9_find_10 kf_X9_43 rfl h ?_
  clear h; intro t3 h
  refine r_cVi (As := []) (st := []) hX dX9_find_13 kl_X3_rank w_ml_X9_57 w_im_X3_rank w_se_X3_rank ⟨_, _, rfl⟩ (by decide) rfl (Nat.le_of_ble_eq_true rfl) rfl kdz0 h (fun r σ1 h => wX3_rank h) ?_
  clear h; intro t4 σ h
  refine r_istore_n (L2 := [(3, .int t4), (0, kr E l0), (1, .int l1), (2, .int l2)]) hX dX9_find_16 rfl (by decide) rfl ?_
  refine r_aload_n hX dX9_find_17 rfl 1 rfl ?_
  refine r_gR hX dX9_find_18 kf_X9_43 rfl h ?_
  clear h; intro t5 h
  refine r_iload_n hX dX9_find_21 rfl 3 rfl ?_
  refine r_cVi (As := [.int l2]) (st := []) hX dX9_find_22 kl_X3_read w_ml_X9_51 w_im_X3_read w_se_X3_read ⟨_, _, rfl⟩ (by decide) rfl (Nat.le_of_ble_eq_true rfl) rfl kdz0 h (fun r σ1 h => wX3_read h) ?_
  clear h; intro t6 σ h
  refine r_pop hX dX9_find_25 rfl ?_
  refine r_aload_n hX dX9_find_26 rfl 1 rfl ?_
  refine r_gR hX dX9_find_27 kf_X9_43 rfl h ?_
  clear h; intro t7 h
  refine r_cVi (As := []) (st := []) hX dX9_find_30 kl_X3_rank w_ml_X9_57 w_im_X3_rank w_se_X3_rank ⟨_, _, rfl⟩ (by decide) rfl (Nat.le_of_ble_eq_true rfl) rfl kdz0 h (fun r σ1 h => wX3_rank h) ?_
  clear h; intro t8 σ h
  refine r_istore (L2 := [(4, .int t8), (3, .int t4), (0, kr E l0), (1, .int l1), (2, .int l2)]) hX dX9_find_33 (by decide) rfl ?_
  refine r_aload_n hX dX9_find_35 rfl 2 rfl ?_
  refine r_cVv (As := []) (st := []) hX dX9_find_36 kl_X9_listLayouts w_ml_X9_61 w_im_X9_listLayouts w_se_X9_listLayouts ⟨_, _, rfl⟩ (by decide) rfl (Nat.le_of_ble_eq_true rfl) rfl kdz0 h (fun r σ1 h => wX9_listLayouts h) ?_
  clear h; intro u σ h
  refine r_aload_n hX dX9_find_39 rfl 2 rfl ?_
  refine r_aload_n hX dX9_find_40 rfl 2 rfl ?_
  refine r_iload_n hX dX9_find_41 rfl 1 rfl ?_
  refine r_iload hX dX9_find_42 0 rfl ?_
  refine r_cVi (As := [.int t4, .int t8]) (st := [kr E l0]) hX dX9_find_44 kl_X9_peakOfWay w_ml_X9_64 w_im_X9_peakOfWay w_se_X9_peakOfWay ⟨_, _, rfl⟩ (by decide) rfl (Nat.le_of_ble_eq_true rfl) rfl kdz0 h (fun r σ1 h => wX9_peakOfWay h) ?_
  clear h; intro t9 σ h
  refine r_sI hX dX9_find_47 kf_X9_47 rfl (by intro q hq; cases hq; rfl) h ?_
  clear h; intro σ h
  refine r_aload_n hX dX9_find_50 rfl 2 rfl ?_
  refine r_iload hX dX9_find_51 0 rfl ?_
  refine r_cVv (As := [.int t8]) (st := []) hX dX9_find_53 kl_X9_countSteps w_ml_X9_68 w_im_X9_countSteps w_se_X9_countSteps ⟨_, _, rfl⟩ (by decide) rfl (Nat.le_of_ble_eq_true rfl) rfl kdz0 h (fun r σ1 h => wX9_countSteps h) ?_
  clear h; intro u σ h
  refine r_aload_n hX dX9_find_56 rfl 2 rfl ?_
  refine r_iload_n hX dX9_find_57 rfl 1 rfl ?_
  refine r_cVv (As := [.int t4]) (st := []) hX dX9_find_58 kl_X9_walk w_ml_X9_71 w_im_X9_walk w_se_X9_walk ⟨_, _, rfl⟩ (by decide) rfl (Nat.le_of_ble_eq_true rfl) rfl kdz0 h (fun r σ1 h => wX9_walk h) ?_
  clear h; intro u σ h
  exact r_vret hX dX9_find_61 h
def X11_isKey (G : kdS) (l0 : Int32) : kdM → Option (Int32 × kdM) :=
  kcl (X11_within G l0 (0 : Int32) (11 : Int32)) fun t1 =>
  rt (vp_nar .boolean t1)
set_option maxRecDepth 100000 in
set_option maxHeartbeats 4000000 in
theorem wX11_isKey {E : kdE} {G : kdS} {l0 : Int32} {σ : kdM} {r : Int32} {σ1 : kdM} (h : X11_isKey G l0 σ = some (r, σ1)) : Con E G yX11_isKey cX11_isKey 1 (some .boolean) 1 [.int l0] σ (some (.int r), σ1) := by
  refine kd_head (own := RX11) rfl (by decide +kernel) (Nat.le_of_ble_eq_true rfl) (fun A hX => ?_)
  show SW E G (.inl (some (.int r), σ1)) A 1 σ 0 [(0, .int l0)] []
  unfold X11_isKey at h
  refine r_iload_n hX dX11_isKey_0 rfl 0 rfl ?_
  refine r_iconst hX dX11_isKey_1 kk_i_0 ?_
  refine r_bipush hX dX11_isKey_2 kk_b_11 ?_
  refine r_cSi (As := [.int l0, .int (0 : Int32), .int (11 : Int32)]) (st := []) hX dX11_isKey_4 kl_X11_within w_ml_X11_165 w_st_X11_within (by decide) rfl (Nat.le_of_ble_eq_true rfl) rfl kdz0 h (fun r σ1 h => wX11_within h) ?_
  clear h; intro t1 σ h
  exact r_zret hX dX11_isKey_7 h
def X11_key (G : kdS) (l0 : Nat) (l1 : Int32) : kdM → Option (Int32 × kdM) :=
  kcl (X11_isKey G l1) fun t1 =>
  cnd (t1 = 0)
    (rt (-2 : Int32))
    (gR G 11 0 l0 fun t2 =>
    kcv G 6 t2 (X6_isFull G t2) fun t3 =>
    cnd (t3 = 0)
      (gR G 11 0 l0 fun t4 =>
      kcv G 6 t4 (X6_add G t4 l1) fun _ =>
      gR G 11 0 l0 fun t5 =>
      kcv G 6 t5 (X6_size G t5) fun t6 =>
      rt t6)
      (rt (-4 : Int32)))
set_option maxRecDepth 100000 in
set_option maxHeartbeats 4000000 in
theorem wX11_key {E : kdE} {G : kdS} {l0 : Nat} {l1 : Int32} {σ : kdM} {r : Int32} {σ1 : kdM} (h : X11_key G l0 l1 σ = some (r, σ1)) : Con E G yX11_key cX11_key 2 (some .int) 3 [kr E l0, .int l1] σ (some (.int r), σ1) := by
  refine kd_head (own := RX11) rfl (by decide +kernel) (Nat.le_of_ble_eq_true rfl) (fun A hX => ?_)
  show SW E G (.inl (some (.int r), σ1)) A 2 σ 0 [(0, kr E l0), (1, .int l1)] []
  unfold X11_key at h
  refine r_iload_n hX dX11_key_0 rfl 1 rfl ?_
  refine r_cSi (As := [.int l1]) (st := []) hX dX11_key_1 kl_X11_isKey w_ml_X11_97 w_st_X11_isKey (by decide) rfl (Nat.le_of_ble_eq_true rfl) rfl kdz0 h (fun r σ1 h => wX11_isKey h) ?_
  clear h; intro t1 σ h
  refine r_if_ne (tgt := 10) hX dX11_key_4 (by decide) h ?_ ?_
  · clear h; intro h
    refine r_bipush hX dX11_key_7 kk_b_m2 ?_
    exact r_iret hX dX11_key_9 h
  · clear h; intro h
    refine r_aload_n hX dX11_key_10 rfl 0 rfl ?_
    refine r_gR hX dX11_key_11 kf_X11_14 rfl h ?_
    clear h; intro t2 h
    refine r_cVi (As := []) (st := []) hX dX11_key_14 kl_X6_isFull w_ml_X11_101 w_im_X6_isFull w_se_X6_isFull ⟨_, _, rfl⟩ (by decide) rfl (Nat.le_of_ble_eq_true rfl) rfl kdz0 h (fun r σ1 h => wX6_isFull h) ?_
    clear h; intro t3 σ h
    refine r_if_eq (tgt := 23) hX dX11_key_17 (by decide) h ?_ ?_
    · clear h; intro h
      refine r_aload_n hX dX11_key_23 rfl 0 rfl ?_
      refine r_gR hX dX11_key_24 kf_X11_14 rfl h ?_
      clear h; intro t4 h
      refine r_iload_n hX dX11_key_27 rfl 1 rfl ?_
      refine r_cVv (As := [.int l1]) (st := []) hX dX11_key_28 kl_X6_add w_ml_X11_105 w_im_X6_add w_se_X6_add ⟨_, _, rfl⟩ (by decide) rfl (Nat.le_of_ble_eq_true rfl) rfl kdz0 h (fun r σ1 h => wX6_add h) ?_
      clear h; intro u σ h
      refine r_aload_n hX dX11_key_31 rfl 0 rfl ?_
      refine r_gR hX dX11_key_32 kf_X11_14 rfl h ?_
      clear h; intro t5 h
      refine r_cVi (As := []) (st := []) hX dX11_key_35 kl_X6_size w_ml_X11_108 w_im_X6_size w_se_X6_size ⟨_, _, rfl⟩ (by decide) rfl (Nat.le_of_ble_eq_true rfl) rfl kdz0 h (fun r σ1 h => wX6_size h) ?_
      clear h; intro t6 σ h
      exact r_iret hX dX11_key_38 h
    · clear h; intro h
      refine r_bipush hX dX11_key_20 kk_b_m4 ?_
      exact r_iret hX dX11_key_22 h
def X11_letter (G : kdS) (l0 : Nat) (l1 : Int32) : kdM → Option (Int32 × kdM) :=
  kcl (X11_isLetter G l1) fun t1 =>
  cnd (t1 = 0)
    (rt (-2 : Int32))
    (gR G 11 1 l0 fun t2 =>
    kcv G 6 t2 (X6_isFull G t2) fun t3 =>
    cnd (t3 = 0)
      (gR G 11 1 l0 fun t4 =>
      kcv G 6 t4 (X6_add G t4 l1) fun _ =>
      gR G 11 1 l0 fun t5 =>
      kcv G 6 t5 (X6_size G t5) fun t6 =>
      rt t6)
      (rt (-4 : Int32)))
set_option maxRecDepth 100000 in
set_option maxHeartbeats 4000000 in
theorem wX11_letter {E : kdE} {G : kdS} {l0 : Nat} {l1 : Int32} {σ : kdM} {r : Int32} {σ1 : kdM} (h : X11_letter G l0 l1 σ = some (r, σ1)) : Con E G yX11_letter cX11_letter 2 (some .int) 3 [kr E l0, .int l1] σ (some (.int r), σ1) := by
  refine kd_head (own := RX11) rfl (by decide +kernel) (Nat.le_of_ble_eq_true rfl) (fun A hX => ?_)
  show SW E G (.inl (some (.int r), σ1)) A 2 σ 0 [(0, kr E l0), (1, .int l1)] []
  unfold X11_letter at h
  refine r_iload_n hX dX11_letter_0 rfl 1 rfl ?_
  refine r_cSi (As := [.int l1]) (st := []) hX dX11_letter_1 kl_X11_isLetter w_ml_X11_112 w_st_X11_isLetter (by decide) rfl (Nat.le_of_ble_eq_true rfl) rfl kdz0 h (fun r σ1 h => wX11_isLetter h) ?_
  clear h; intro t1 σ h
  refine r_if_ne (tgt := 10) hX dX11_letter_4 (by decide) h ?_ ?_
  · clear h; intro h
    refine r_bipush hX dX11_letter_7 kk_b_m2 ?_
    exact r_iret hX dX11_letter_9 h
  · clear h; intro h
    refine r_aload_n hX dX11_letter_10 rfl 0 rfl ?_
    refine r_gR hX dX11_letter_11 kf_X11_18 rfl h ?_
    clear h; intro t2 h
    refine r_cVi (As := []) (st := []) hX dX11_letter_14 kl_X6_isFull w_ml_X11_101 w_im_X6_isFull w_se_X6_isFull ⟨_, _, rfl⟩ (by decide) rfl (Nat.le_of_ble_eq_true rfl) rfl kdz0 h (fun r σ1 h => wX6_isFull h) ?_
    clear h; intro t3 σ h
    refine r_if_eq (tgt := 23) hX dX11_letter_17 (by decide) h ?_ ?_
    · clear h; intro h
      refine r_aload_n hX dX11_letter_23 rfl 0 rfl ?_
      refine r_gR hX dX11_letter_24 kf_X11_18 rfl h ?_
      clear h; intro t4 h
      refine r_iload_n hX dX11_letter_27 rfl 1 rfl ?_
      refine r_cVv (As := [.int l1]) (st := []) hX dX11_letter_28 kl_X6_add w_ml_X11_105 w_im_X6_add w_se_X6_add ⟨_, _, rfl⟩ (by decide) rfl (Nat.le_of_ble_eq_true rfl) rfl kdz0 h (fun r σ1 h => wX6_add h) ?_
      clear h; intro u σ h
      refine r_aload_n hX dX11_letter_31 rfl 0 rfl ?_
      refine r_gR hX dX11_letter_32 kf_X11_18 rfl h ?_
      clear h; intro t5 h
      refine r_cVi (As := []) (st := []) hX dX11_letter_35 kl_X6_size w_ml_X11_108 w_im_X6_size w_se_X6_size ⟨_, _, rfl⟩ (by decide) rfl (Nat.le_of_ble_eq_true rfl) rfl kdz0 h (fun r σ1 h => wX6_size h) ?_
      clear h; intro t6 σ h
      exact r_iret hX dX11_letter_38 h
    · clear h; intro h
      refine r_bipush hX dX11_letter_20 kk_b_m4 ?_
      exact r_iret hX dX11_letter_22 h
def X11_wipe (G : kdS) (l0 : Nat) (l1 : Int32) : kdM → Option (Int32 × kdM) :=
  cnd (l1 = (0 : Int32))
    (gR G 11 0 l0 fun t1 =>
    kcv G 6 t1 (X6_clear G t1) fun t2 =>
    rt t2)
    (cnd (l1 = (1 : Int32))
      (gR G 11 1 l0 fun t3 =>
      kcv G 6 t3 (X6_clear G t3) fun t4 =>
      rt t4)
      (cnd (l1 = (2 : Int32))
        (gR G 11 8 l0 fun t5 =>
        kcv G 0 t5 (X0_clearPad G t5) fun t6 =>
        rt t6)
        (rt (-2 : Int32))))
set_option maxRecDepth 100000 in
set_option maxHeartbeats 4000000 in
theorem wX11_wipe {E : kdE} {G : kdS} {l0 : Nat} {l1 : Int32} {σ : kdM} {r : Int32} {σ1 : kdM} (h : X11_wipe G l0 l1 σ = some (r, σ1)) : Con E G yX11_wipe cX11_wipe 2 (some .int) 2 [kr E l0, .int l1] σ (some (.int r), σ1) := by
  refine kd_head (own := RX11) rfl (by decide +kernel) (Nat.le_of_ble_eq_true rfl) (fun A hX => ?_)
  show SW E G (.inl (some (.int r), σ1)) A 2 σ 0 [(0, kr E l0), (1, .int l1)] []
  unfold X11_wipe at h
  refine r_iload_n hX dX11_wipe_0 rfl 1 rfl ?_
  refine r_case (q := l1 = (0 : Int32)) h ?_ ?_
  · clear h; intro hq h
    refine r_tsIn (tgt := 28) (off := 27) (v := (0 : Int32)) hX dX11_wipe_1 hq (by decide) (by decide) (by decide +kernel) (by decide) ?_
    clear hq
    refine r_aload_n hX dX11_wipe_28 rfl 0 rfl ?_
    refine r_gR hX dX11_wipe_29 kf_X11_14 rfl h ?_
    clear h; intro t1 h
    refine r_cVi (As := []) (st := []) hX dX11_wipe_32 kl_X6_clear w_ml_X11_115 w_im_X6_clear w_se_X6_clear ⟨_, _, rfl⟩ (by decide) rfl (Nat.le_of_ble_eq_true rfl) rfl kdz0 h (fun r σ1 h => wX6_clear h) ?_
    clear h; intro t2 σ h
    exact r_iret hX dX11_wipe_35 h
  · clear h; intro hn0 h
    refine r_case (q := l1 = (1 : Int32)) h ?_ ?_
    · clear h; intro hq h
      refine r_tsIn (tgt := 36) (off := 35) (v := (1 : Int32)) hX dX11_wipe_1 hq (by decide) (by decide) (by decide +kernel) (by decide) ?_
      clear hq
      refine r_aload_n hX dX11_wipe_36 rfl 0 rfl ?_
      refine r_gR hX dX11_wipe_37 kf_X11_18 rfl h ?_
      clear h; intro t3 h
      refine r_cVi (As := []) (st := []) hX dX11_wipe_40 kl_X6_clear w_ml_X11_115 w_im_X6_clear w_se_X6_clear ⟨_, _, rfl⟩ (by decide) rfl (Nat.le_of_ble_eq_true rfl) rfl kdz0 h (fun r σ1 h => wX6_clear h) ?_
      clear h; intro t4 σ h
      exact r_iret hX dX11_wipe_43 h
    · clear h; intro hn1 h
      refine r_case (q := l1 = (2 : Int32)) h ?_ ?_
      · clear h; intro hq h
        refine r_tsIn (tgt := 44) (off := 43) (v := (2 : Int32)) hX dX11_wipe_1 hq (by decide) (by decide) (by decide +kernel) (by decide) ?_
        clear hq
        refine r_aload_n hX dX11_wipe_44 rfl 0 rfl ?_
        refine r_gR hX dX11_wipe_45 kf_X11_70 rfl h ?_
        clear h; intro t5 h
        refine r_cVi (As := []) (st := []) hX dX11_wipe_48 kl_X0_clearPad w_ml_X11_118 w_im_X0_clearPad w_se_X0_clearPad ⟨_, _, rfl⟩ (by decide) rfl (Nat.le_of_ble_eq_true rfl) rfl kdz0 h (fun r σ1 h => wX0_clearPad h) ?_
        clear h; intro t6 σ h
        exact r_iret hX dX11_wipe_51 h
      · clear h; intro hn2 h
        refine r_tsOut (tgt := 52) hX dX11_wipe_1 (by have e0 := kd_ne (a := 0) hn0 (by decide); have e1 := kd_ne (a := 1) hn1 (by decide); have e2 := kd_ne (a := 2) hn2 (by decide); omega) (by decide) ?_
        refine r_bipush hX dX11_wipe_52 kk_b_m2 ?_
        exact r_iret hX dX11_wipe_54 h
def X11_isTongue (G : kdS) (l0 : Int32) : kdM → Option (Int32 × kdM) :=
  kcl (X11_within G l0 (0 : Int32) (2 : Int32)) fun t1 =>
  rt (vp_nar .boolean t1)
set_option maxRecDepth 100000 in
set_option maxHeartbeats 4000000 in
theorem wX11_isTongue {E : kdE} {G : kdS} {l0 : Int32} {σ : kdM} {r : Int32} {σ1 : kdM} (h : X11_isTongue G l0 σ = some (r, σ1)) : Con E G yX11_isTongue cX11_isTongue 1 (some .boolean) 1 [.int l0] σ (some (.int r), σ1) := by
  refine kd_head (own := RX11) rfl (by decide +kernel) (Nat.le_of_ble_eq_true rfl) (fun A hX => ?_)
  show SW E G (.inl (some (.int r), σ1)) A 1 σ 0 [(0, .int l0)] []
  unfold X11_isTongue at h
  refine r_iload_n hX dX11_isTongue_0 rfl 0 rfl ?_
  refine r_iconst hX dX11_isTongue_1 kk_i_0 ?_
  refine r_iconst hX dX11_isTongue_2 kk_i_2 ?_
  refine r_cSi (As := [.int l0, .int (0 : Int32), .int (2 : Int32)]) (st := []) hX dX11_isTongue_3 kl_X11_within w_ml_X11_165 w_st_X11_within (by decide) rfl (Nat.le_of_ble_eq_true rfl) rfl kdz0 h (fun r σ1 h => wX11_within h) ?_
  clear h; intro t1 σ h
  exact r_zret hX dX11_isTongue_6 h
def X11_rule_55 (G : kdS) : kdM → Option (Int32 × kdM) :=
  rt (-5 : Int32)
set_option maxRecDepth 100000 in
set_option maxHeartbeats 4000000 in
theorem wX11_rule_55 {E : kdE} {G : kdS} {A : kdA} {r : Int32} {σ1 : kdM} (hX : kdX E A cX11_rule 3 RX11 (some .int) 5) {σ : kdM} (h : X11_rule_55 G  σ = some (r, σ1)) : SW E G (.inl (some (.int r), σ1)) A 3 σ 55 [] [] := by
  unfold X11_rule_55 at h
  refine r_bipush hX dX11_rule_55 kk_b_m5 ?_
  exact r_iret hX dX11_rule_57 h
def X11_rule (G : kdS) (l0 : Nat) (l1 : Int32) : kdM → Option (Int32 × kdM) :=
  kcl (X11_isTongue G l1) fun t1 =>
  cnd (t1 = 0)
    (rt (-1 : Int32))
    (gR G 11 2 l0 fun t2 =>
    aR G 17 t2 (l1) fun t3 =>
    kcv G 8 t3 (X8_isFullOfRules G t3) fun t4 =>
    cnd (t4 = 0)
      (gR G 11 0 l0 fun t5 =>
      kcv G 6 t5 (X6_isEmpty G t5) fun t6 =>
      cnd (t6 = 0)
        (gR G 11 0 l0 fun t7 =>
        kcv G 6 t7 (X6_size G t7) fun t8 =>
        cnd ((4 : Int32) < t8)
          (X11_rule_55 G )
          (gR G 11 1 l0 fun t9 =>
          kcv G 6 t9 (X6_isEmpty G t9) fun t10 =>
          cnd (t10 = 0)
            (gR G 11 2 l0 fun t11 =>
            aR G 17 t11 (l1) fun t12 =>
            gR G 11 0 l0 fun t13 =>
            gR G 11 1 l0 fun t14 =>
            kcv G 8 t12 (X8_addRule G t12 t13 t14) fun t15 =>
            gR G 11 0 l0 fun t16 =>
            kcv G 6 t16 (X6_clear G t16) fun t17 =>
            gR G 11 1 l0 fun t18 =>
            kcv G 6 t18 (X6_clear G t18) fun t19 =>
            rt t15)
            (X11_rule_55 G )))
        (X11_rule_55 G ))
      (rt (-4 : Int32)))
set_option maxRecDepth 100000 in
set_option maxHeartbeats 4000000 in
theorem wX11_rule {E : kdE} {G : kdS} {l0 : Nat} {l1 : Int32} {σ : kdM} {r : Int32} {σ1 : kdM} (h : X11_rule G l0 l1 σ = some (r, σ1)) : Con E G yX11_rule cX11_rule 3 (some .int) 5 [kr E l0, .int l1] σ (some (.int r), σ1) := by
  refine kd_head (own := RX11) rfl (by decide +kernel) (Nat.le_of_ble_eq_true rfl) (fun A hX => ?_)
  show SW E G (.inl (some (.int r), σ1)) A 3 σ 0 [(0, kr E l0), (1, .int l1)] []
  unfold X11_rule at h
  refine r_iload_n hX dX11_rule_0 rfl 1 rfl ?_
  refine r_cSi (As := [.int l1]) (st := []) hX dX11_rule_1 kl_X11_isTongue w_ml_X11_121 w_st_X11_isTongue (by decide) rfl (Nat.le_of_ble_eq_true rfl) rfl kdz0 h (fun r σ1 h => wX11_isTongue h) ?_
  clear h; intro t1 σ h
  refine r_if_ne (tgt := 9) hX dX11_rule_4 (by decide) h ?_ ?_
  · clear h; intro h
    refine r_iconst hX dX11_rule_7 kk_i_m1 ?_
    exact r_iret hX dX11_rule_8 h
  · clear h; intro h
    refine r_aload_n hX dX11_rule_9 rfl 0 rfl ?_
    refine r_gR hX dX11_rule_10 kf_X11_23 rfl h ?_
    clear h; intro t2 h
    refine r_iload_n hX dX11_rule_13 rfl 1 rfl ?_
    refine r_aR17 hX dX11_rule_14 h ?_
    clear h; intro t3 h
    refine r_cVi (As := []) (st := []) hX dX11_rule_15 kl_X8_isFullOfRules w_ml_X11_124 w_im_X8_isFullOfRules w_se_X8_isFullOfRules ⟨_, _, rfl⟩ (by decide) rfl (Nat.le_of_ble_eq_true rfl) rfl kdz0 h (fun r σ1 h => wX8_isFullOfRules h) ?_
    clear h; intro t4 σ h
    refine r_if_eq (tgt := 24) hX dX11_rule_18 (by decide) h ?_ ?_
    · clear h; intro h
      refine r_aload_n hX dX11_rule_24 rfl 0 rfl ?_
      refine r_gR hX dX11_rule_25 kf_X11_14 rfl h ?_
      clear h; intro t5 h
      refine r_cVi (As := []) (st := []) hX dX11_rule_28 kl_X6_isEmpty w_ml_X11_127 w_im_X6_isEmpty w_se_X6_isEmpty ⟨_, _, rfl⟩ (by decide) rfl (Nat.le_of_ble_eq_true rfl) rfl kdz0 h (fun r σ1 h => wX6_isEmpty h) ?_
      clear h; intro t6 σ h
      refine r_if_ne (tgt := 55) hX dX11_rule_31 (by decide) h ?_ ?_
      · clear h; intro h
        refine r_aload_n hX dX11_rule_34 rfl 0 rfl ?_
        refine r_gR hX dX11_rule_35 kf_X11_14 rfl h ?_
        clear h; intro t7 h
        refine r_cVi (As := []) (st := []) hX dX11_rule_38 kl_X6_size w_ml_X11_108 w_im_X6_size w_se_X6_size ⟨_, _, rfl⟩ (by decide) rfl (Nat.le_of_ble_eq_true rfl) rfl kdz0 h (fun r σ1 h => wX6_size h) ?_
        clear h; intro t8 σ h
        refine r_iconst hX dX11_rule_41 kk_i_4 ?_
        refine r_icmp_gt (tgt := 55) hX dX11_rule_42 (by decide) h ?_ ?_
        · clear h; intro h
          refine r_sub [] rfl ?_
          exact wX11_rule_55 hX h
        · clear h; intro h
          refine r_aload_n hX dX11_rule_45 rfl 0 rfl ?_
          refine r_gR hX dX11_rule_46 kf_X11_18 rfl h ?_
          clear h; intro t9 h
          refine r_cVi (As := []) (st := []) hX dX11_rule_49 kl_X6_isEmpty w_ml_X11_127 w_im_X6_isEmpty w_se_X6_isEmpty ⟨_, _, rfl⟩ (by decide) rfl (Nat.le_of_ble_eq_true rfl) rfl kdz0 h (fun r σ1 h => wX6_isEmpty h) ?_
          clear h; intro t10 σ h
          refine r_if_eq (tgt := 58) hX dX11_rule_52 (by decide) h ?_ ?_
          · clear h; intro h
            refine r_aload_n hX dX11_rule_58 rfl 0 rfl ?_
            refine r_gR hX dX11_rule_59 kf_X11_23 rfl h ?_
            clear h; intro t11 h
            refine r_iload_n hX dX11_rule_62 rfl 1 rfl ?_
            refine r_aR17 hX dX11_rule_63 h ?_
            clear h; intro t12 h
            refine r_aload_n hX dX11_rule_64 rfl 0 rfl ?_
            refine r_gR hX dX11_rule_65 kf_X11_14 rfl h ?_
            clear h; intro t13 h
            refine r_aload_n hX dX11_rule_68 rfl 0 rfl ?_
            refine r_gR hX dX11_rule_69 kf_X11_18 rfl h ?_
            clear h; intro t14 h
            refine r_cVi (As := [kr E t13, kr E t14]) (st := []) hX dX11_rule_72 kl_X8_addRule w_ml_X11_130 w_im_X8_addRule w_se_X8_addRule ⟨_, _, rfl⟩ (by decide) rfl (Nat.le_of_ble_eq_true rfl) rfl kdz0 h (fun r σ1 h => wX8_addRule h) ?_
            clear h; intro t15 σ h
            refine r_istore_n (L2 := [(2, .int t15), (0, kr E l0), (1, .int l1)]) hX dX11_rule_75 rfl (by decide) rfl ?_
            refine r_aload_n hX dX11_rule_76 rfl 1 rfl ?_
            refine r_gR hX dX11_rule_77 kf_X11_14 rfl h ?_
            clear h; intro t16 h
            refine r_cVi (As := []) (st := []) hX dX11_rule_80 kl_X6_clear w_ml_X11_115 w_im_X6_clear w_se_X6_clear ⟨_, _, rfl⟩ (by decide) rfl (Nat.le_of_ble_eq_true rfl) rfl kdz0 h (fun r σ1 h => wX6_clear h) ?_
            clear h; intro t17 σ h
            refine r_pop hX dX11_rule_83 rfl ?_
            refine r_aload_n hX dX11_rule_84 rfl 1 rfl ?_
            refine r_gR hX dX11_rule_85 kf_X11_18 rfl h ?_
            clear h; intro t18 h
            refine r_cVi (As := []) (st := []) hX dX11_rule_88 kl_X6_clear w_ml_X11_115 w_im_X6_clear w_se_X6_clear ⟨_, _, rfl⟩ (by decide) rfl (Nat.le_of_ble_eq_true rfl) rfl kdz0 h (fun r σ1 h => wX6_clear h) ?_
            clear h; intro t19 σ h
            refine r_pop hX dX11_rule_91 rfl ?_
            refine r_iload_n hX dX11_rule_92 rfl 0 rfl ?_
            exact r_iret hX dX11_rule_93 h
          · clear h; intro h
            refine r_sub [] rfl ?_
            exact wX11_rule_55 hX h
      · clear h; intro h
        refine r_sub [] rfl ?_
        exact wX11_rule_55 hX h
    · clear h; intro h
      refine r_bipush hX dX11_rule_21 kk_b_m4 ?_
      exact r_iret hX dX11_rule_23 h
def X11_join_31 (G : kdS) : kdM → Option (Int32 × kdM) :=
  rt (-2 : Int32)
set_option maxRecDepth 100000 in
set_option maxHeartbeats 4000000 in
theorem wX11_join_31 {E : kdE} {G : kdS} {A : kdA} {r : Int32} {σ1 : kdM} (hX : kdX E A cX11_join 5 RX11 (some .int) 4) {σ : kdM} (h : X11_join_31 G  σ = some (r, σ1)) : SW E G (.inl (some (.int r), σ1)) A 5 σ 31 [] [] := by
  unfold X11_join_31 at h
  refine r_bipush hX dX11_join_31 kk_b_m2 ?_
  exact r_iret hX dX11_join_33 h
def X11_join (G : kdS) (l0 : Nat) (l1 : Int32) (l2 : Int32) (l3 : Int32) (l4 : Int32) : kdM → Option (Int32 × kdM) :=
  kcl (X11_isTongue G l1) fun t1 =>
  cnd (t1 = 0)
    (rt (-1 : Int32))
    (kcl (X11_isLetter G l2) fun t2 =>
    cnd (t2 = 0)
      (X11_join_31 G )
      (kcl (X11_isLetter G l3) fun t3 =>
      cnd (t3 = 0)
        (X11_join_31 G )
        (kcl (X11_isLetter G l4) fun t4 =>
        cnd (t4 = 0)
          (X11_join_31 G )
          (gR G 11 2 l0 fun t5 =>
          aR G 17 t5 (l1) fun t6 =>
          kcv G 8 t6 (X8_isFullOfJoins G t6) fun t7 =>
          cnd (t7 = 0)
            (gR G 11 2 l0 fun t8 =>
            aR G 17 t8 (l1) fun t9 =>
            kcv G 8 t9 (X8_addJoin G t9 l2 l3 l4) fun t10 =>
            rt t10)
            (rt (-4 : Int32))))))
set_option maxRecDepth 100000 in
set_option maxHeartbeats 4000000 in
theorem wX11_join {E : kdE} {G : kdS} {l0 : Nat} {l1 : Int32} {l2 : Int32} {l3 : Int32} {l4 : Int32} {σ : kdM} {r : Int32} {σ1 : kdM} (h : X11_join G l0 l1 l2 l3 l4 σ = some (r, σ1)) : Con E G yX11_join cX11_join 5 (some .int) 4 [kr E l0, .int l1, .int l2, .int l3, .int l4] σ (some (.int r), σ1) := by
  refine kd_head (own := RX11) rfl (by decide +kernel) (Nat.le_of_ble_eq_true rfl) (fun A hX => ?_)
  show SW E G (.inl (some (.int r), σ1)) A 5 σ 0 [(0, kr E l0), (1, .int l1), (2, .int l2), (3, .int l3), (4, .int l4)] []
  unfold X11_join at h
  refine r_iload_n hX dX11_join_0 rfl 1 rfl ?_
  refine r_cSi (As := [.int l1]) (st := []) hX dX11_join_1 kl_X11_isTongue w_ml_X11_121 w_st_X11_isTongue (by decide) rfl (Nat.le_of_ble_eq_true rfl) rfl kdz0 h (fun r σ1 h => wX11_isTongue h) ?_
  clear h; intro t1 σ h
  refine r_if_ne (tgt := 9) hX dX11_join_4 (by decide) h ?_ ?_
  · clear h; intro h
    refine r_iconst hX dX11_join_7 kk_i_m1 ?_
    exact r_iret hX dX11_join_8 h
  · clear h; intro h
    refine r_iload_n hX dX11_join_9 rfl 2 rfl ?_
    refine r_cSi (As := [.int l2]) (st := []) hX dX11_join_10 kl_X11_isLetter w_ml_X11_112 w_st_X11_isLetter (by decide) rfl (Nat.le_of_ble_eq_true rfl) rfl kdz0 h (fun r σ1 h => wX11_isLetter h) ?_
    clear h; intro t2 σ h
    refine r_if_eq (tgt := 31) hX dX11_join_13 (by decide) h ?_ ?_
    · clear h; intro h
      refine r_sub [] rfl ?_
      exact wX11_join_31 hX h
    · clear h; intro h
      refine r_iload_n hX dX11_join_16 rfl 3 rfl ?_
      refine r_cSi (As := [.int l3]) (st := []) hX dX11_join_17 kl_X11_isLetter w_ml_X11_112 w_st_X11_isLetter (by decide) rfl (Nat.le_of_ble_eq_true rfl) rfl kdz0 h (fun r σ1 h => wX11_isLetter h) ?_
      clear h; intro t3 σ h
      refine r_if_eq (tgt := 31) hX dX11_join_20 (by decide) h ?_ ?_
      · clear h; intro h
        refine r_sub [] rfl ?_
        exact wX11_join_31 hX h
      · clear h; intro h
        refine r_iload hX dX11_join_23 4 rfl ?_
        refine r_cSi (As := [.int l4]) (st := []) hX dX11_join_25 kl_X11_isLetter w_ml_X11_112 w_st_X11_isLetter (by decide) rfl (Nat.le_of_ble_eq_true rfl) rfl kdz0 h (fun r σ1 h => wX11_isLetter h) ?_
        clear h; intro t4 σ h
        refine r_if_ne (tgt := 34) hX dX11_join_28 (by decide) h ?_ ?_
        · clear h; intro h
          refine r_sub [] rfl ?_
          exact wX11_join_31 hX h
        · clear h; intro h
          refine r_aload_n hX dX11_join_34 rfl 0 rfl ?_
          refine r_gR hX dX11_join_35 kf_X11_23 rfl h ?_
          clear h; intro t5 h
          refine r_iload_n hX dX11_join_38 rfl 1 rfl ?_
          refine r_aR17 hX dX11_join_39 h ?_
          clear h; intro t6 h
          refine r_cVi (As := []) (st := []) hX dX11_join_40 kl_X8_isFullOfJoins w_ml_X11_134 w_im_X8_isFullOfJoins w_se_X8_isFullOfJoins ⟨_, _, rfl⟩ (by decide) rfl (Nat.le_of_ble_eq_true rfl) rfl kdz0 h (fun r σ1 h => wX8_isFullOfJoins h) ?_
          clear h; intro t7 σ h
          refine r_if_eq (tgt := 49) hX dX11_join_43 (by decide) h ?_ ?_
          · clear h; intro h
            refine r_aload_n hX dX11_join_49 rfl 0 rfl ?_
            refine r_gR hX dX11_join_50 kf_X11_23 rfl h ?_
            clear h; intro t8 h
            refine r_iload_n hX dX11_join_53 rfl 1 rfl ?_
            refine r_aR17 hX dX11_join_54 h ?_
            clear h; intro t9 h
            refine r_iload_n hX dX11_join_55 rfl 2 rfl ?_
            refine r_iload_n hX dX11_join_56 rfl 3 rfl ?_
            refine r_iload hX dX11_join_57 4 rfl ?_
            refine r_cVi (As := [.int l2, .int l3, .int l4]) (st := []) hX dX11_join_59 kl_X8_addJoin w_ml_X11_137 w_im_X8_addJoin w_se_X8_addJoin ⟨_, _, rfl⟩ (by decide) rfl (Nat.le_of_ble_eq_true rfl) rfl kdz0 h (fun r σ1 h => wX8_addJoin h) ?_
            clear h; intro t10 σ h
            exact r_iret hX dX11_join_62 h
          · clear h; intro h
            refine r_bipush hX dX11_join_46 kk_b_m4 ?_
            exact r_iret hX dX11_join_48 h
def X11_own_38 (G : kdS) (s0 : Int32) : kdM → Option (Int32 × kdM) :=
  rt s0
set_option maxRecDepth 100000 in
set_option maxHeartbeats 4000000 in
theorem wX11_own_38 {E : kdE} {G : kdS} {A : kdA} {r : Int32} {σ1 : kdM} (hX : kdX E A cX11_own 4 RX11 (some .int) 2) {σ : kdM} {s0 : Int32} (h : X11_own_38 G s0 σ = some (r, σ1)) : SW E G (.inl (some (.int r), σ1)) A 4 σ 38 [] [.int s0] := by
  unfold X11_own_38 at h
  exact r_iret hX dX11_own_38 h
def X11_own (G : kdS) (l0 : Nat) (l1 : Int32) (l2 : Int32) (l3 : Int32) : kdM → Option (Int32 × kdM) :=
  kcl (X11_isTongue G l1) fun t1 =>
  cnd (t1 = 0)
    (rt (-1 : Int32))
    (kcl (X11_isLetter G l2) fun t2 =>
    cnd (t2 = 0)
      (rt (-2 : Int32))
      (gR G 11 2 l0 fun t3 =>
      aR G 17 t3 (l1) fun t4 =>
      kcv G 8 t4 (X8_setLetter G t4 l2 l3) fun t5 =>
      cnd (t5 = 0)
        (X11_own_38 G (0 : Int32))
        (X11_own_38 G (1 : Int32))))
set_option maxRecDepth 100000 in
set_option maxHeartbeats 4000000 in
theorem wX11_own {E : kdE} {G : kdS} {l0 : Nat} {l1 : Int32} {l2 : Int32} {l3 : Int32} {σ : kdM} {r : Int32} {σ1 : kdM} (h : X11_own G l0 l1 l2 l3 σ = some (r, σ1)) : Con E G yX11_own cX11_own 4 (some .int) 2 [kr E l0, .int l1, .int l2, .int l3] σ (some (.int r), σ1) := by
  refine kd_head (own := RX11) rfl (by decide +kernel) (Nat.le_of_ble_eq_true rfl) (fun A hX => ?_)
  show SW E G (.inl (some (.int r), σ1)) A 4 σ 0 [(0, kr E l0), (1, .int l1), (2, .int l2), (3, .int l3)] []
  unfold X11_own at h
  refine r_iload_n hX dX11_own_0 rfl 1 rfl ?_
  refine r_cSi (As := [.int l1]) (st := []) hX dX11_own_1 kl_X11_isTongue w_ml_X11_121 w_st_X11_isTongue (by decide) rfl (Nat.le_of_ble_eq_true rfl) rfl kdz0 h (fun r σ1 h => wX11_isTongue h) ?_
  clear h; intro t1 σ h
  refine r_if_ne (tgt := 9) hX dX11_own_4 (by decide) h ?_ ?_
  · clear h; intro h
    refine r_iconst hX dX11_own_7 kk_i_m1 ?_
    exact r_iret hX dX11_own_8 h
  · clear h; intro h
    refine r_iload_n hX dX11_own_9 rfl 2 rfl ?_
    refine r_cSi (As := [.int l2]) (st := []) hX dX11_own_10 kl_X11_isLetter w_ml_X11_112 w_st_X11_isLetter (by decide) rfl (Nat.le_of_ble_eq_true rfl) rfl kdz0 h (fun r σ1 h => wX11_isLetter h) ?_
    clear h; intro t2 σ h
    refine r_if_ne (tgt := 19) hX dX11_own_13 (by decide) h ?_ ?_
    · clear h; intro h
      refine r_bipush hX dX11_own_16 kk_b_m2 ?_
      exact r_iret hX dX11_own_18 h
    · clear h; intro h
      refine r_aload_n hX dX11_own_19 rfl 0 rfl ?_
      refine r_gR hX dX11_own_20 kf_X11_23 rfl h ?_
      clear h; intro t3 h
      refine r_iload_n hX dX11_own_23 rfl 1 rfl ?_
      refine r_aR17 hX dX11_own_24 h ?_
      clear h; intro t4 h
      refine r_iload_n hX dX11_own_25 rfl 2 rfl ?_
      refine r_iload_n hX dX11_own_26 rfl 3 rfl ?_
      refine r_cVi (As := [.int l2, .int l3]) (st := []) hX dX11_own_27 kl_X8_setLetter w_ml_X11_141 w_im_X8_setLetter w_se_X8_setLetter ⟨_, _, rfl⟩ (by decide) rfl (Nat.le_of_ble_eq_true rfl) rfl kdz0 h (fun r σ1 h => wX8_setLetter h) ?_
      clear h; intro t5 σ h
      refine r_if_eq (tgt := 37) hX dX11_own_30 (by decide) h ?_ ?_
      · clear h; intro h
        refine r_iconst hX dX11_own_37 kk_i_0 ?_
        refine r_sub [] rfl ?_
        exact wX11_own_38 hX h
      · clear h; intro h
        refine r_iconst hX dX11_own_33 kk_i_1 ?_
        refine r_goto (tgt := 38) hX dX11_own_34 (by decide) ?_
        refine r_sub [] rfl ?_
        exact wX11_own_38 hX h
def X11_quarrel_21 (G : kdS) (s0 : Int32) : kdM → Option (Int32 × kdM) :=
  rt s0
set_option maxRecDepth 100000 in
set_option maxHeartbeats 4000000 in
theorem wX11_quarrel_21 {E : kdE} {G : kdS} {A : kdA} {r : Int32} {σ1 : kdM} (hX : kdX E A cX11_quarrel 3 RX11 (some .int) 3) {σ : kdM} {s0 : Int32} (h : X11_quarrel_21 G s0 σ = some (r, σ1)) : SW E G (.inl (some (.int r), σ1)) A 3 σ 21 [] [.int s0] := by
  unfold X11_quarrel_21 at h
  exact r_iret hX dX11_quarrel_21 h
def X11_quarrel (G : kdS) (l0 : Nat) (l1 : Int32) (l2 : Int32) : kdM → Option (Int32 × kdM) :=
  kcl (X11_isTongue G l1) fun t1 =>
  cnd (t1 = 0)
    (X11_quarrel_21 G (-1 : Int32))
    (gR G 11 2 l0 fun t2 =>
    aR G 17 t2 (l1) fun t3 =>
    kcv G 8 t3 (X8_quarrelAt G t3 l2) fun t4 =>
    X11_quarrel_21 G t4)
set_option maxRecDepth 100000 in
set_option maxHeartbeats 4000000 in
theorem wX11_quarrel {E : kdE} {G : kdS} {l0 : Nat} {l1 : Int32} {l2 : Int32} {σ : kdM} {r : Int32} {σ1 : kdM} (h : X11_quarrel G l0 l1 l2 σ = some (r, σ1)) : Con E G yX11_quarrel cX11_quarrel 3 (some .int) 3 [kr E l0, .int l1, .int l2] σ (some (.int r), σ1) := by
  refine kd_head (own := RX11) rfl (by decide +kernel) (Nat.le_of_ble_eq_true rfl) (fun A hX => ?_)
  show SW E G (.inl (some (.int r), σ1)) A 3 σ 0 [(0, kr E l0), (1, .int l1), (2, .int l2)] []
  unfold X11_quarrel at h
  refine r_iload_n hX dX11_quarrel_0 rfl 1 rfl ?_
  refine r_cSi (As := [.int l1]) (st := []) hX dX11_quarrel_1 kl_X11_isTongue w_ml_X11_121 w_st_X11_isTongue (by decide) rfl (Nat.le_of_ble_eq_true rfl) rfl kdz0 h (fun r σ1 h => wX11_isTongue h) ?_
  clear h; intro t1 σ h
  refine r_if_eq (tgt := 20) hX dX11_quarrel_4 (by decide) h ?_ ?_
  · clear h; intro h
    refine r_iconst hX dX11_quarrel_20 kk_i_m1 ?_
    refine r_sub [] rfl ?_
    exact wX11_quarrel_21 hX h
  · clear h; intro h
    refine r_aload_n hX dX11_quarrel_7 rfl 0 rfl ?_
    refine r_gR hX dX11_quarrel_8 kf_X11_23 rfl h ?_
    clear h; intro t2 h
    refine r_iload_n hX dX11_quarrel_11 rfl 1 rfl ?_
    refine r_aR17 hX dX11_quarrel_12 h ?_
    clear h; intro t3 h
    refine r_iload_n hX dX11_quarrel_13 rfl 2 rfl ?_
    refine r_cVi (As := [.int l2]) (st := []) hX dX11_quarrel_14 kl_X8_quarrelAt w_ml_X11_145 w_im_X8_quarrelAt w_se_X8_quarrelAt ⟨_, _, rfl⟩ (by decide) rfl (Nat.le_of_ble_eq_true rfl) rfl kdz0 h (fun r σ1 h => wX8_quarrelAt h) ?_
    clear h; intro t4 σ h
    refine r_goto (tgt := 21) hX dX11_quarrel_17 (by decide) ?_
    refine r_sub [] rfl ?_
    exact wX11_quarrel_21 hX h
def X11_idle (G : kdS) (l0 : Nat) (l1 : Int32) (l2 : Int32) : kdM → Option (Int32 × kdM) :=
  kcl (X11_isTongue G l1) fun t1 =>
  cnd (t1 = 0)
    (rt (-1 : Int32))
    (cnd (l2 = (0 : Int32))
      (gR G 11 2 l0 fun t2 =>
      aR G 17 t2 (l1) fun t3 =>
      kcv G 8 t3 (X8_idleRules G t3) fun t4 =>
      rt t4)
      (cnd (l2 = (1 : Int32))
        (gR G 11 2 l0 fun t5 =>
        aR G 17 t5 (l1) fun t6 =>
        kcv G 8 t6 (X8_unusedKeys G t6) fun t7 =>
        rt t7)
        (rt (-2 : Int32))))
set_option maxRecDepth 100000 in
set_option maxHeartbeats 4000000 in
theorem wX11_idle {E : kdE} {G : kdS} {l0 : Nat} {l1 : Int32} {l2 : Int32} {σ : kdM} {r : Int32} {σ1 : kdM} (h : X11_idle G l0 l1 l2 σ = some (r, σ1)) : Con E G yX11_idle cX11_idle 3 (some .int) 4 [kr E l0, .int l1, .int l2] σ (some (.int r), σ1) := by
  refine kd_head (own := RX11) rfl (by decide +kernel) (Nat.le_of_ble_eq_true rfl) (fun A hX => ?_)
  show SW E G (.inl (some (.int r), σ1)) A 3 σ 0 [(0, kr E l0), (1, .int l1), (2, .int l2)] []
  unfold X11_idle at h
  refine r_iload_n hX dX11_idle_0 rfl 1 rfl ?_
  refine r_cSi (As := [.int l1]) (st := []) hX dX11_idle_1 kl_X11_isTongue w_ml_X11_121 w_st_X11_isTongue (by decide) rfl (Nat.le_of_ble_eq_true rfl) rfl kdz0 h (fun r σ1 h => wX11_isTongue h) ?_
  clear h; intro t1 σ h
  refine r_if_ne (tgt := 9) hX dX11_idle_4 (by decide) h ?_ ?_
  · clear h; intro h
    refine r_iconst hX dX11_idle_7 kk_i_m1 ?_
    exact r_iret hX dX11_idle_8 h
  · clear h; intro h
    refine r_iload_n hX dX11_idle_9 rfl 2 rfl ?_
    refine r_case (q := l2 = (0 : Int32)) h ?_ ?_
    · clear h; intro hq h
      refine r_ls (tgt := 36) (off := 26) hX dX11_idle_10 (by decide +kernel) (by rw [hq] <;> decide +kernel) (by decide) ?_
      clear hq
      refine r_aload_n hX dX11_idle_36 rfl 0 rfl ?_
      refine r_gR hX dX11_idle_37 kf_X11_23 rfl h ?_
      clear h; intro t2 h
      refine r_iload_n hX dX11_idle_40 rfl 1 rfl ?_
      refine r_aR17 hX dX11_idle_41 h ?_
      clear h; intro t3 h
      refine r_cVi (As := []) (st := []) hX dX11_idle_42 kl_X8_idleRules w_ml_X11_149 w_im_X8_idleRules w_se_X8_idleRules ⟨_, _, rfl⟩ (by decide) rfl (Nat.le_of_ble_eq_true rfl) rfl kdz0 h (fun r σ1 h => wX8_idleRules h) ?_
      clear h; intro t4 σ h
      exact r_iret hX dX11_idle_45 h
    · clear h; intro hn0 h
      refine r_case (q := l2 = (1 : Int32)) h ?_ ?_
      · clear h; intro hq h
        refine r_ls (tgt := 46) (off := 36) hX dX11_idle_10 (by decide +kernel) (by rw [hq] <;> decide +kernel) (by decide) ?_
        clear hq
        refine r_aload_n hX dX11_idle_46 rfl 0 rfl ?_
        refine r_gR hX dX11_idle_47 kf_X11_23 rfl h ?_
        clear h; intro t5 h
        refine r_iload_n hX dX11_idle_50 rfl 1 rfl ?_
        refine r_aR17 hX dX11_idle_51 h ?_
        clear h; intro t6 h
        refine r_cVi (As := []) (st := []) hX dX11_idle_52 kl_X8_unusedKeys w_ml_X11_152 w_im_X8_unusedKeys w_se_X8_unusedKeys ⟨_, _, rfl⟩ (by decide) rfl (Nat.le_of_ble_eq_true rfl) rfl kdz0 h (fun r σ1 h => wX8_unusedKeys h) ?_
        clear h; intro t7 σ h
        exact r_iret hX dX11_idle_55 h
      · clear h; intro hn1 h
        refine r_ls (tgt := 56) (off := 46) hX dX11_idle_10 (by decide +kernel) (by rw [lv_osw (a := 0) hn0 (by decide), lv_osw (a := 1) hn1 (by decide)] <;> rfl) (by decide) ?_
        refine r_bipush hX dX11_idle_56 kk_b_m2 ?_
        exact r_iret hX dX11_idle_58 h
def X11_missing_21 (G : kdS) (s0 : Int32) : kdM → Option (Int32 × kdM) :=
  rt s0
set_option maxRecDepth 100000 in
set_option maxHeartbeats 4000000 in
theorem wX11_missing_21 {E : kdE} {G : kdS} {A : kdA} {r : Int32} {σ1 : kdM} (hX : kdX E A cX11_missing 3 RX11 (some .int) 6) {σ : kdM} {s0 : Int32} (h : X11_missing_21 G s0 σ = some (r, σ1)) : SW E G (.inl (some (.int r), σ1)) A 3 σ 21 [] [.int s0] := by
  unfold X11_missing_21 at h
  exact r_iret hX dX11_missing_21 h
def X11_missing (G : kdS) (l0 : Nat) (l1 : Int32) (l2 : Int32) : kdM → Option (Int32 × kdM) :=
  kcl (X11_isTongue G l1) fun t1 =>
  cnd (t1 = 0)
    (X11_missing_21 G (-1 : Int32))
    (gR G 11 2 l0 fun t2 =>
    aR G 17 t2 (l1) fun t3 =>
    kcv G 8 t3 (X8_missingAt G t3 l2) fun t4 =>
    X11_missing_21 G t4)
set_option maxRecDepth 100000 in
set_option maxHeartbeats 4000000 in
theorem wX11_missing {E : kdE} {G : kdS} {l0 : Nat} {l1 : Int32} {l2 : Int32} {σ : kdM} {r : Int32} {σ1 : kdM} (h : X11_missing G l0 l1 l2 σ = some (r, σ1)) : Con E G yX11_missing cX11_missing 3 (some .int) 6 [kr E l0, .int l1, .int l2] σ (some (.int r), σ1) := by
  refine kd_head (own := RX11) rfl (by decide +kernel) (Nat.le_of_ble_eq_true rfl) (fun A hX => ?_)
  show SW E G (.inl (some (.int r), σ1)) A 3 σ 0 [(0, kr E l0), (1, .int l1), (2, .int l2)] []
  unfold X11_missing at h
  refine r_iload_n hX dX11_missing_0 rfl 1 rfl ?_
  refine r_cSi (As := [.int l1]) (st := []) hX dX11_missing_1 kl_X11_isTongue w_ml_X11_121 w_st_X11_isTongue (by decide) rfl (Nat.le_of_ble_eq_true rfl) rfl kdz0 h (fun r σ1 h => wX11_isTongue h) ?_
  clear h; intro t1 σ h
  refine r_if_eq (tgt := 20) hX dX11_missing_4 (by decide) h ?_ ?_
  · clear h; intro h
    refine r_iconst hX dX11_missing_20 kk_i_m1 ?_
    refine r_sub [] rfl ?_
    exact wX11_missing_21 hX h
  · clear h; intro h
    refine r_aload_n hX dX11_missing_7 rfl 0 rfl ?_
    refine r_gR hX dX11_missing_8 kf_X11_23 rfl h ?_
    clear h; intro t2 h
    refine r_iload_n hX dX11_missing_11 rfl 1 rfl ?_
    refine r_aR17 hX dX11_missing_12 h ?_
    clear h; intro t3 h
    refine r_iload_n hX dX11_missing_13 rfl 2 rfl ?_
    refine r_cVi (As := [.int l2]) (st := []) hX dX11_missing_14 kl_X8_missingAt w_ml_X11_155 w_im_X8_missingAt w_se_X8_missingAt ⟨_, _, rfl⟩ (by decide) rfl (Nat.le_of_ble_eq_true rfl) rfl kdz0 h (fun r σ1 h => wX8_missingAt h) ?_
    clear h; intro t4 σ h
    refine r_goto (tgt := 21) hX dX11_missing_17 (by decide) ?_
    refine r_sub [] rfl ?_
    exact wX11_missing_21 hX h
def X11_speak_19 (G : kdS) (s0 : Int32) : kdM → Option (Int32 × kdM) :=
  rt s0
set_option maxRecDepth 100000 in
set_option maxHeartbeats 4000000 in
theorem wX11_speak_19 {E : kdE} {G : kdS} {A : kdA} {r : Int32} {σ1 : kdM} (hX : kdX E A cX11_speak 2 RX11 (some .int) 2) {σ : kdM} {s0 : Int32} (h : X11_speak_19 G s0 σ = some (r, σ1)) : SW E G (.inl (some (.int r), σ1)) A 2 σ 19 [] [.int s0] := by
  unfold X11_speak_19 at h
  exact r_iret hX dX11_speak_19 h
def X11_speak (G : kdS) (l0 : Nat) (l1 : Int32) : kdM → Option (Int32 × kdM) :=
  kcl (X11_isTongue G l1) fun t1 =>
  cnd (t1 = 0)
    (X11_speak_19 G (-1 : Int32))
    (gR G 11 3 l0 fun t2 =>
    kcv G 4 t2 (X4_setTongue G t2 l1) fun t3 =>
    X11_speak_19 G t3)
set_option maxRecDepth 100000 in
set_option maxHeartbeats 4000000 in
theorem wX11_speak {E : kdE} {G : kdS} {l0 : Nat} {l1 : Int32} {σ : kdM} {r : Int32} {σ1 : kdM} (h : X11_speak G l0 l1 σ = some (r, σ1)) : Con E G yX11_speak cX11_speak 2 (some .int) 2 [kr E l0, .int l1] σ (some (.int r), σ1) := by
  refine kd_head (own := RX11) rfl (by decide +kernel) (Nat.le_of_ble_eq_true rfl) (fun A hX => ?_)
  show SW E G (.inl (some (.int r), σ1)) A 2 σ 0 [(0, kr E l0), (1, .int l1)] []
  unfold X11_speak at h
  refine r_iload_n hX dX11_speak_0 rfl 1 rfl ?_
  refine r_cSi (As := [.int l1]) (st := []) hX dX11_speak_1 kl_X11_isTongue w_ml_X11_121 w_st_X11_isTongue (by decide) rfl (Nat.le_of_ble_eq_true rfl) rfl kdz0 h (fun r σ1 h => wX11_isTongue h) ?_
  clear h; intro t1 σ h
  refine r_if_eq (tgt := 18) hX dX11_speak_4 (by decide) h ?_ ?_
  · clear h; intro h
    refine r_iconst hX dX11_speak_18 kk_i_m1 ?_
    refine r_sub [] rfl ?_
    exact wX11_speak_19 hX h
  · clear h; intro h
    refine r_aload_n hX dX11_speak_7 rfl 0 rfl ?_
    refine r_gR hX dX11_speak_8 kf_X11_31 rfl h ?_
    clear h; intro t2 h
    refine r_iload_n hX dX11_speak_11 rfl 1 rfl ?_
    refine r_cVi (As := [.int l1]) (st := []) hX dX11_speak_12 kl_X4_setTongue w_ml_X11_158 w_im_X4_setTongue w_se_X4_setTongue ⟨_, _, rfl⟩ (by decide) rfl (Nat.le_of_ble_eq_true rfl) rfl kdz0 h (fun r σ1 h => wX4_setTongue h) ?_
    clear h; intro t3 σ h
    refine r_goto (tgt := 19) hX dX11_speak_15 (by decide) ?_
    refine r_sub [] rfl ?_
    exact wX11_speak_19 hX h
def X11_strike_25 (G : kdS) : kdM → Option (Int32 × kdM) :=
  rt (-2 : Int32)
set_option maxRecDepth 100000 in
set_option maxHeartbeats 4000000 in
theorem wX11_strike_25 {E : kdE} {G : kdS} {A : kdA} {r : Int32} {σ1 : kdM} (hX : kdX E A cX11_strike 3 RX11 (some .int) 2) {σ : kdM} (h : X11_strike_25 G  σ = some (r, σ1)) : SW E G (.inl (some (.int r), σ1)) A 3 σ 25 [] [] := by
  unfold X11_strike_25 at h
  refine r_bipush hX dX11_strike_25 kk_b_m2 ?_
  exact r_iret hX dX11_strike_27 h
def X11_strike (G : kdS) (l0 : Nat) (l1 : Int32) (l2 : Int32) : kdM → Option (Int32 × kdM) :=
  gR G 11 3 l0 fun t1 =>
  kcv G 4 t1 (X4_strokes G t1) fun t2 =>
  kcv G 6 t2 (X6_size G t2) fun t3 =>
  kcl (X11_within G l1 (0 : Int32) t3) fun t4 =>
  cnd (t4 = 0)
    (X11_strike_25 G )
    (kcl (X11_isKey G l2) fun t5 =>
    cnd (t5 = 0)
      (X11_strike_25 G )
      (gR G 11 3 l0 fun t6 =>
      kcv G 4 t6 (X4_strokes G t6) fun t7 =>
      kcv G 6 t7 (X6_isFull G t7) fun t8 =>
      cnd (t8 = 0)
        (gR G 11 3 l0 fun t9 =>
        kcv G 4 t9 (X4_strokes G t9) fun t10 =>
        kcv G 6 t10 (X6_insert G t10 l1 l2) fun _ =>
        gR G 11 3 l0 fun t11 =>
        kcv G 4 t11 (X4_strokes G t11) fun t12 =>
        kcv G 6 t12 (X6_size G t12) fun t13 =>
        rt t13)
        (rt (-4 : Int32))))
set_option maxRecDepth 100000 in
set_option maxHeartbeats 4000000 in
theorem wX11_strike {E : kdE} {G : kdS} {l0 : Nat} {l1 : Int32} {l2 : Int32} {σ : kdM} {r : Int32} {σ1 : kdM} (h : X11_strike G l0 l1 l2 σ = some (r, σ1)) : Con E G yX11_strike cX11_strike 3 (some .int) 2 [kr E l0, .int l1, .int l2] σ (some (.int r), σ1) := by
  refine kd_head (own := RX11) rfl (by decide +kernel) (Nat.le_of_ble_eq_true rfl) (fun A hX => ?_)
  show SW E G (.inl (some (.int r), σ1)) A 3 σ 0 [(0, kr E l0), (1, .int l1), (2, .int l2)] []
  unfold X11_strike at h
  refine r_iload_n hX dX11_strike_0 rfl 1 rfl ?_
  refine r_iconst hX dX11_strike_1 kk_i_0 ?_
  refine r_aload_n hX dX11_strike_2 rfl 0 rfl ?_
  refine r_gR hX dX11_strike_3 kf_X11_31 rfl h ?_
  clear h; intro t1 h
  refine r_cVa (As := []) (st := [.int (0 : Int32), .int l1]) hX dX11_strike_6 kl_X4_strokes w_ml_X11_161 w_im_X4_strokes w_se_X4_strokes ⟨_, _, rfl⟩ (by decide) rfl (Nat.le_of_ble_eq_true rfl) rfl kdz0 h (fun r σ1 h => wX4_strokes h) ?_
  clear h; intro t2 σ h
  refine r_cVi (As := []) (st := [.int (0 : Int32), .int l1]) hX dX11_strike_9 kl_X6_size w_ml_X11_108 w_im_X6_size w_se_X6_size ⟨_, _, rfl⟩ (by decide) rfl (Nat.le_of_ble_eq_true rfl) rfl kdz0 h (fun r σ1 h => wX6_size h) ?_
  clear h; intro t3 σ h
  refine r_cSi (As := [.int l1, .int (0 : Int32), .int t3]) (st := []) hX dX11_strike_12 kl_X11_within w_ml_X11_165 w_st_X11_within (by decide) rfl (Nat.le_of_ble_eq_true rfl) rfl kdz0 h (fun r σ1 h => wX11_within h) ?_
  clear h; intro t4 σ h
  refine r_if_eq (tgt := 25) hX dX11_strike_15 (by decide) h ?_ ?_
  · clear h; intro h
    refine r_sub [] rfl ?_
    exact wX11_strike_25 hX h
  · clear h; intro h
    refine r_iload_n hX dX11_strike_18 rfl 2 rfl ?_
    refine r_cSi (As := [.int l2]) (st := []) hX dX11_strike_19 kl_X11_isKey w_ml_X11_97 w_st_X11_isKey (by decide) rfl (Nat.le_of_ble_eq_true rfl) rfl kdz0 h (fun r σ1 h => wX11_isKey h) ?_
    clear h; intro t5 σ h
    refine r_if_ne (tgt := 28) hX dX11_strike_22 (by decide) h ?_ ?_
    · clear h; intro h
      refine r_sub [] rfl ?_
      exact wX11_strike_25 hX h
    · clear h; intro h
      refine r_aload_n hX dX11_strike_28 rfl 0 rfl ?_
      refine r_gR hX dX11_strike_29 kf_X11_31 rfl h ?_
      clear h; intro t6 h
      refine r_cVa (As := []) (st := []) hX dX11_strike_32 kl_X4_strokes w_ml_X11_161 w_im_X4_strokes w_se_X4_strokes ⟨_, _, rfl⟩ (by decide) rfl (Nat.le_of_ble_eq_true rfl) rfl kdz0 h (fun r σ1 h => wX4_strokes h) ?_
      clear h; intro t7 σ h
      refine r_cVi (As := []) (st := []) hX dX11_strike_35 kl_X6_isFull w_ml_X11_101 w_im_X6_isFull w_se_X6_isFull ⟨_, _, rfl⟩ (by decide) rfl (Nat.le_of_ble_eq_true rfl) rfl kdz0 h (fun r σ1 h => wX6_isFull h) ?_
      clear h; intro t8 σ h
      refine r_if_eq (tgt := 44) hX dX11_strike_38 (by decide) h ?_ ?_
      · clear h; intro h
        refine r_aload_n hX dX11_strike_44 rfl 0 rfl ?_
        refine r_gR hX dX11_strike_45 kf_X11_31 rfl h ?_
        clear h; intro t9 h
        refine r_cVa (As := []) (st := []) hX dX11_strike_48 kl_X4_strokes w_ml_X11_161 w_im_X4_strokes w_se_X4_strokes ⟨_, _, rfl⟩ (by decide) rfl (Nat.le_of_ble_eq_true rfl) rfl kdz0 h (fun r σ1 h => wX4_strokes h) ?_
        clear h; intro t10 σ h
        refine r_iload_n hX dX11_strike_51 rfl 1 rfl ?_
        refine r_iload_n hX dX11_strike_52 rfl 2 rfl ?_
        refine r_cVv (As := [.int l1, .int l2]) (st := []) hX dX11_strike_53 kl_X6_insert w_ml_X11_169 w_im_X6_insert w_se_X6_insert ⟨_, _, rfl⟩ (by decide) rfl (Nat.le_of_ble_eq_true rfl) rfl kdz0 h (fun r σ1 h => wX6_insert h) ?_
        clear h; intro u σ h
        refine r_aload_n hX dX11_strike_56 rfl 0 rfl ?_
        refine r_gR hX dX11_strike_57 kf_X11_31 rfl h ?_
        clear h; intro t11 h
        refine r_cVa (As := []) (st := []) hX dX11_strike_60 kl_X4_strokes w_ml_X11_161 w_im_X4_strokes w_se_X4_strokes ⟨_, _, rfl⟩ (by decide) rfl (Nat.le_of_ble_eq_true rfl) rfl kdz0 h (fun r σ1 h => wX4_strokes h) ?_
        clear h; intro t12 σ h
        refine r_cVi (As := []) (st := []) hX dX11_strike_63 kl_X6_size w_ml_X11_108 w_im_X6_size w_se_X6_size ⟨_, _, rfl⟩ (by decide) rfl (Nat.le_of_ble_eq_true rfl) rfl kdz0 h (fun r σ1 h => wX6_size h) ?_
        clear h; intro t13 σ h
        exact r_iret hX dX11_strike_66 h
      · clear h; intro h
        refine r_bipush hX dX11_strike_41 kk_b_m4 ?_
        exact r_iret hX dX11_strike_43 h
def X11_change_38 (G : kdS) (s0 : Int32) : kdM → Option (Int32 × kdM) :=
  rt s0
set_option maxRecDepth 100000 in
set_option maxHeartbeats 4000000 in
theorem wX11_change_38 {E : kdE} {G : kdS} {A : kdA} {r : Int32} {σ1 : kdM} (hX : kdX E A cX11_change 3 RX11 (some .int) 2) {σ : kdM} {s0 : Int32} (h : X11_change_38 G s0 σ = some (r, σ1)) : SW E G (.inl (some (.int r), σ1)) A 3 σ 38 [] [.int s0] := by
  unfold X11_change_38 at h
  exact r_iret hX dX11_change_38 h
def X11_change_36 (G : kdS) : kdM → Option (Int32 × kdM) :=
  X11_change_38 G (-2 : Int32)
set_option maxRecDepth 100000 in
set_option maxHeartbeats 4000000 in
theorem wX11_change_36 {E : kdE} {G : kdS} {A : kdA} {r : Int32} {σ1 : kdM} (hX : kdX E A cX11_change 3 RX11 (some .int) 2) {σ : kdM} (h : X11_change_36 G  σ = some (r, σ1)) : SW E G (.inl (some (.int r), σ1)) A 3 σ 36 [] [] := by
  unfold X11_change_36 at h
  refine r_bipush hX dX11_change_36 kk_b_m2 ?_
  refine r_sub [] rfl ?_
  exact wX11_change_38 hX h
def X11_change (G : kdS) (l0 : Nat) (l1 : Int32) (l2 : Int32) : kdM → Option (Int32 × kdM) :=
  gR G 11 3 l0 fun t1 =>
  kcv G 4 t1 (X4_strokes G t1) fun t2 =>
  kcv G 6 t2 (X6_has G t2 l1) fun t3 =>
  cnd (t3 = 0)
    (X11_change_36 G )
    (kcl (X11_isKey G l2) fun t4 =>
    cnd (t4 = 0)
      (X11_change_36 G )
      (gR G 11 3 l0 fun t5 =>
      kcv G 4 t5 (X4_strokes G t5) fun t6 =>
      kcv G 6 t6 (X6_replace G t6 l1 l2) fun t7 =>
      X11_change_38 G t7))
set_option maxRecDepth 100000 in
set_option maxHeartbeats 4000000 in
theorem wX11_change {E : kdE} {G : kdS} {l0 : Nat} {l1 : Int32} {l2 : Int32} {σ : kdM} {r : Int32} {σ1 : kdM} (h : X11_change G l0 l1 l2 σ = some (r, σ1)) : Con E G yX11_change cX11_change 3 (some .int) 2 [kr E l0, .int l1, .int l2] σ (some (.int r), σ1) := by
  refine kd_head (own := RX11) rfl (by decide +kernel) (Nat.le_of_ble_eq_true rfl) (fun A hX => ?_)
  show SW E G (.inl (some (.int r), σ1)) A 3 σ 0 [(0, kr E l0), (1, .int l1), (2, .int l2)] []
  unfold X11_change at h
  refine r_aload_n hX dX11_change_0 rfl 0 rfl ?_
  refine r_gR hX dX11_change_1 kf_X11_31 rfl h ?_
  clear h; intro t1 h
  refine r_cVa (As := []) (st := []) hX dX11_change_4 kl_X4_strokes w_ml_X11_161 w_im_X4_strokes w_se_X4_strokes ⟨_, _, rfl⟩ (by decide) rfl (Nat.le_of_ble_eq_true rfl) rfl kdz0 h (fun r σ1 h => wX4_strokes h) ?_
  clear h; intro t2 σ h
  refine r_iload_n hX dX11_change_7 rfl 1 rfl ?_
  refine r_cVi (As := [.int l1]) (st := []) hX dX11_change_8 kl_X6_has w_ml_X11_173 w_im_X6_has w_se_X6_has ⟨_, _, rfl⟩ (by decide) rfl (Nat.le_of_ble_eq_true rfl) rfl kdz0 h (fun r σ1 h => wX6_has h) ?_
  clear h; intro t3 σ h
  refine r_if_eq (tgt := 36) hX dX11_change_11 (by decide) h ?_ ?_
  · clear h; intro h
    refine r_sub [] rfl ?_
    exact wX11_change_36 hX h
  · clear h; intro h
    refine r_iload_n hX dX11_change_14 rfl 2 rfl ?_
    refine r_cSi (As := [.int l2]) (st := []) hX dX11_change_15 kl_X11_isKey w_ml_X11_97 w_st_X11_isKey (by decide) rfl (Nat.le_of_ble_eq_true rfl) rfl kdz0 h (fun r σ1 h => wX11_isKey h) ?_
    clear h; intro t4 σ h
    refine r_if_eq (tgt := 36) hX dX11_change_18 (by decide) h ?_ ?_
    · clear h; intro h
      refine r_sub [] rfl ?_
      exact wX11_change_36 hX h
    · clear h; intro h
      refine r_aload_n hX dX11_change_21 rfl 0 rfl ?_
      refine r_gR hX dX11_change_22 kf_X11_31 rfl h ?_
      clear h; intro t5 h
      refine r_cVa (As := []) (st := []) hX dX11_change_25 kl_X4_strokes w_ml_X11_161 w_im_X4_strokes w_se_X4_strokes ⟨_, _, rfl⟩ (by decide) rfl (Nat.le_of_ble_eq_true rfl) rfl kdz0 h (fun r σ1 h => wX4_strokes h) ?_
      clear h; intro t6 σ h
      refine r_iload_n hX dX11_change_28 rfl 1 rfl ?_
      refine r_iload_n hX dX11_change_29 rfl 2 rfl ?_
      refine r_cVi (As := [.int l1, .int l2]) (st := []) hX dX11_change_30 kl_X6_replace w_ml_X11_176 w_im_X6_replace w_se_X6_replace ⟨_, _, rfl⟩ (by decide) rfl (Nat.le_of_ble_eq_true rfl) rfl kdz0 h (fun r σ1 h => wX6_replace h) ?_
      clear h; intro t7 σ h
      refine r_goto (tgt := 38) hX dX11_change_33 (by decide) ?_
      refine r_sub [] rfl ?_
      exact wX11_change_38 hX h
def X11_back_30 (G : kdS) (s0 : Int32) : kdM → Option (Int32 × kdM) :=
  rt s0
set_option maxRecDepth 100000 in
set_option maxHeartbeats 4000000 in
theorem wX11_back_30 {E : kdE} {G : kdS} {A : kdA} {r : Int32} {σ1 : kdM} (hX : kdX E A cX11_back 2 RX11 (some .int) 2) {σ : kdM} {s0 : Int32} (h : X11_back_30 G s0 σ = some (r, σ1)) : SW E G (.inl (some (.int r), σ1)) A 2 σ 30 [] [.int s0] := by
  unfold X11_back_30 at h
  exact r_iret hX dX11_back_30 h
def X11_back (G : kdS) (l0 : Nat) (l1 : Int32) : kdM → Option (Int32 × kdM) :=
  gR G 11 3 l0 fun t1 =>
  kcv G 4 t1 (X4_strokes G t1) fun t2 =>
  kcv G 6 t2 (X6_has G t2 l1) fun t3 =>
  cnd (t3 = 0)
    (X11_back_30 G (-2 : Int32))
    (gR G 11 3 l0 fun t4 =>
    kcv G 4 t4 (X4_strokes G t4) fun t5 =>
    kcv G 6 t5 (X6_remove G t5 l1) fun t6 =>
    X11_back_30 G t6)
set_option maxRecDepth 100000 in
set_option maxHeartbeats 4000000 in
theorem wX11_back {E : kdE} {G : kdS} {l0 : Nat} {l1 : Int32} {σ : kdM} {r : Int32} {σ1 : kdM} (h : X11_back G l0 l1 σ = some (r, σ1)) : Con E G yX11_back cX11_back 2 (some .int) 2 [kr E l0, .int l1] σ (some (.int r), σ1) := by
  refine kd_head (own := RX11) rfl (by decide +kernel) (Nat.le_of_ble_eq_true rfl) (fun A hX => ?_)
  show SW E G (.inl (some (.int r), σ1)) A 2 σ 0 [(0, kr E l0), (1, .int l1)] []
  unfold X11_back at h
  refine r_aload_n hX dX11_back_0 rfl 0 rfl ?_
  refine r_gR hX dX11_back_1 kf_X11_31 rfl h ?_
  clear h; intro t1 h
  refine r_cVa (As := []) (st := []) hX dX11_back_4 kl_X4_strokes w_ml_X11_161 w_im_X4_strokes w_se_X4_strokes ⟨_, _, rfl⟩ (by decide) rfl (Nat.le_of_ble_eq_true rfl) rfl kdz0 h (fun r σ1 h => wX4_strokes h) ?_
  clear h; intro t2 σ h
  refine r_iload_n hX dX11_back_7 rfl 1 rfl ?_
  refine r_cVi (As := [.int l1]) (st := []) hX dX11_back_8 kl_X6_has w_ml_X11_173 w_im_X6_has w_se_X6_has ⟨_, _, rfl⟩ (by decide) rfl (Nat.le_of_ble_eq_true rfl) rfl kdz0 h (fun r σ1 h => wX6_has h) ?_
  clear h; intro t3 σ h
  refine r_if_eq (tgt := 28) hX dX11_back_11 (by decide) h ?_ ?_
  · clear h; intro h
    refine r_bipush hX dX11_back_28 kk_b_m2 ?_
    refine r_sub [] rfl ?_
    exact wX11_back_30 hX h
  · clear h; intro h
    refine r_aload_n hX dX11_back_14 rfl 0 rfl ?_
    refine r_gR hX dX11_back_15 kf_X11_31 rfl h ?_
    clear h; intro t4 h
    refine r_cVa (As := []) (st := []) hX dX11_back_18 kl_X4_strokes w_ml_X11_161 w_im_X4_strokes w_se_X4_strokes ⟨_, _, rfl⟩ (by decide) rfl (Nat.le_of_ble_eq_true rfl) rfl kdz0 h (fun r σ1 h => wX4_strokes h) ?_
    clear h; intro t5 σ h
    refine r_iload_n hX dX11_back_21 rfl 1 rfl ?_
    refine r_cVi (As := [.int l1]) (st := []) hX dX11_back_22 kl_X6_remove w_ml_X11_180 w_im_X6_remove w_se_X6_remove ⟨_, _, rfl⟩ (by decide) rfl (Nat.le_of_ble_eq_true rfl) rfl kdz0 h (fun r σ1 h => wX6_remove h) ?_
    clear h; intro t6 σ h
    refine r_goto (tgt := 30) hX dX11_back_25 (by decide) ?_
    refine r_sub [] rfl ?_
    exact wX11_back_30 hX h
def X11_tongueOfLine (G : kdS) (l0 : Nat) : kdM → Option (Nat × kdM) :=
  gR G 11 2 l0 fun t1 =>
  gR G 11 3 l0 fun t2 =>
  kcv G 4 t2 (X4_tongue G t2) fun t3 =>
  aR G 17 t1 (t3) fun t4 =>
  rt t4
set_option maxRecDepth 100000 in
set_option maxHeartbeats 4000000 in
theorem wX11_tongueOfLine {E : kdE} {G : kdS} {l0 : Nat} {σ : kdM} {r : Nat} {σ1 : kdM} (h : X11_tongueOfLine G l0 σ = some (r, σ1)) : Con E G yX11_tongueOfLine cX11_tongueOfLine 1 (some (.object "KeyDesk$Tongue")) 1 [kr E l0] σ (some (kr E r), σ1) := by
  refine kd_head (own := RX11) rfl (by decide +kernel) (Nat.le_of_ble_eq_true rfl) (fun A hX => ?_)
  show SW E G (.inl (some (kr E r), σ1)) A 1 σ 0 [(0, kr E l0)] []
  unfold X11_tongueOfLine at h
  refine r_aload_n hX dX11_tongueOfLine_0 rfl 0 rfl ?_
  refine r_gR hX dX11_tongueOfLine_1 kf_X11_23 rfl h ?_
  clear h; intro t1 h
  refine r_aload_n hX dX11_tongueOfLine_4 rfl 0 rfl ?_
  refine r_gR hX dX11_tongueOfLine_5 kf_X11_31 rfl h ?_
  clear h; intro t2 h
  refine r_cVi (As := []) (st := [kr E t1]) hX dX11_tongueOfLine_8 kl_X4_tongue w_ml_X11_364 w_im_X4_tongue w_se_X4_tongue ⟨_, _, rfl⟩ (by decide) rfl (Nat.le_of_ble_eq_true rfl) rfl kdz0 h (fun r σ1 h => wX4_tongue h) ?_
  clear h; intro t3 σ h
  refine r_aR17 hX dX11_tongueOfLine_11 h ?_
  clear h; intro t4 h
  exact r_aret hX dX11_tongueOfLine_12 h
