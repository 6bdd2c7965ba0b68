def X12_forget_20 (G : kdS) : kdM → Option (Int32 × kdM) :=
  rt (-1 : Int32)
set_option maxRecDepth 100000 in
set_option maxHeartbeats 4000000 in
theorem wX12_forget_20 {E : kdE} {G : kdS} {A : kdA} {r : Int32} {σ1 : kdM} (hX : kdX E A cX12_forget 6 RX12 (some .int) 2) {σ : kdM} (h : X12_forget_20 G  σ = some (r, σ1)) : SW E G (.inl (some (.int r), σ1)) A 6 σ 20 [] [] := by
  unfold X12_forget_20 at h
  refine r_iconst hX dX12_forget_20 kk_i_m1 ?_
  exact r_iret hX dX12_forget_21 h
def X12_forget_117 (G : kdS) (k27 : Nat → Int32 → Int32 → Int32 → Int32 → kdM → Option (Int32 × kdM)) (l0 : Nat) (l1 : Int32) (l2 : Int32) (l3 : Int32) (l4 : Int32) : kdM → Option (Int32 × kdM) :=
  ltI (l4 + Int32.ofInt 1) fun t1 =>
  k27 l0 l1 l2 l3 t1
set_option maxRecDepth 100000 in
set_option maxHeartbeats 4000000 in
theorem wX12_forget_117 {E : kdE} {G : kdS} {A : kdA} {r : Int32} {σ1 : kdM} (hX : kdX E A cX12_forget 6 RX12 (some .int) 2) (k27 : Nat → Int32 → Int32 → Int32 → Int32 → kdM → Option (Int32 × kdM)) (hk27 : ∀ (l0 : Nat) (l1 : Int32) (l2 : Int32) (l3 : Int32) (l4 : Int32) (σ : kdM), k27 l0 l1 l2 l3 l4 σ = some (r, σ1) → SW E G (.inl (some (.int r), σ1)) A 6 σ 27 [(0, kr E l0), (1, .int l1), (2, .int l2), (3, .int l3), (4, .int l4)] []) {σ : kdM} {l0 : Nat} {l1 : Int32} {l2 : Int32} {l3 : Int32} {l4 : Int32} (h : X12_forget_117 G k27 l0 l1 l2 l3 l4 σ = some (r, σ1)) : SW E G (.inl (some (.int r), σ1)) A 6 σ 117 [(0, kr E l0), (1, .int l1), (2, .int l2), (3, .int l3), (4, .int l4)] [] := by
  unfold X12_forget_117 at h
  refine r_iincL (L2 := fun t1 => [(4, .int t1), (0, kr E l0), (1, .int l1), (2, .int l2), (3, .int l3)]) hX dX12_forget_117 h 4 rfl (by decide) (fun _ => rfl) ?_
  clear h; intro t1 h
  refine r_goto (tgt := 27) hX dX12_forget_120 (by decide) ?_
  refine r_sub [1, 2, 3, 4, 0] rfl ?_
  exact hk27 _ _ _ _ _ _ h
def X12_forget_68 (G : kdS) (k27 : Nat → Int32 → Int32 → Int32 → Int32 → kdM → Option (Int32 × kdM)) (l0 : Nat) (l1 : Int32) (l2 : Int32) (l3 : Int32) (l4 : Int32) (s0 : Int32) : kdM → Option (Int32 × kdM) :=
  cnd (s0 = 0)
    (gR G 12 48 l0 fun t1 =>
    gR G 12 48 l0 fun t2 =>
    aI G t2 (l4) fun t3 =>
    tI G t1 (l3) (t3) <|
    gR G 12 49 l0 fun t4 =>
    gR G 12 49 l0 fun t5 =>
    aI G t5 (l4) fun t6 =>
    tI G t4 (l3) (t6) <|
    gR G 12 50 l0 fun t7 =>
    gR G 12 50 l0 fun t8 =>
    aI G t8 (l4) fun t9 =>
    tI G t7 (l3) (t9) <|
    ltI (l3 + Int32.ofInt 1) fun t10 =>
    X12_forget_117 G k27 l0 l1 l2 t10 l4)
    (X12_forget_117 G k27 l0 l1 l2 l3 l4)
set_option maxRecDepth 100000 in
set_option maxHeartbeats 4000000 in
theorem wX12_forget_68 {E : kdE} {G : kdS} {A : kdA} {r : Int32} {σ1 : kdM} (hX : kdX E A cX12_forget 6 RX12 (some .int) 2) (k27 : Nat → Int32 → Int32 → Int32 → Int32 → kdM → Option (Int32 × kdM)) (hk27 : ∀ (l0 : Nat) (l1 : Int32) (l2 : Int32) (l3 : Int32) (l4 : Int32) (σ : kdM), k27 l0 l1 l2 l3 l4 σ = some (r, σ1) → SW E G (.inl (some (.int r), σ1)) A 6 σ 27 [(0, kr E l0), (1, .int l1), (2, .int l2), (3, .int l3), (4, .int l4)] []) {σ : kdM} {l0 : Nat} {l1 : Int32} {l2 : Int32} {l3 : Int32} {l4 : Int32} {s0 : Int32} (h : X12_forget_68 G k27 l0 l1 l2 l3 l4 s0 σ = some (r, σ1)) : SW E G (.inl (some (.int r), σ1)) A 6 σ 68 [(0, kr E l0), (1, .int l1), (2, .int l2), (3, .int l3), (4, .int l4)] [.int s0] := by
  unfold X12_forget_68 at h
  refine r_istore (L2 := [(5, .int s0), (0, kr E l0), (1, .int l1), (2, .int l2), (3, .int l3), (4, .int l4)]) hX dX12_forget_68 (by decide) rfl ?_
  refine r_iload hX dX12_forget_70 0 rfl ?_
  refine r_if_ne (tgt := 117) hX dX12_forget_72 (by decide) h ?_ ?_
  · clear h; intro h
    refine r_aload_n hX dX12_forget_75 rfl 1 rfl ?_
    refine r_gR hX dX12_forget_76 kf_X12_126 rfl h ?_
    clear h; intro t1 h
    refine r_iload_n hX dX12_forget_79 rfl 4 rfl ?_
    refine r_aload_n hX dX12_forget_80 rfl 1 rfl ?_
    refine r_gR hX dX12_forget_81 kf_X12_126 rfl h ?_
    clear h; intro t2 h
    refine r_iload hX dX12_forget_84 5 rfl ?_
    refine r_aI hX dX12_forget_86 h ?_
    clear h; intro t3 h
    refine r_tI hX dX12_forget_87 h ?_
    clear h; intro σ h
    refine r_aload_n hX dX12_forget_88 rfl 1 rfl ?_
    refine r_gR hX dX12_forget_89 kf_X12_129 rfl h ?_
    clear h; intro t4 h
    refine r_iload_n hX dX12_forget_92 rfl 4 rfl ?_
    refine r_aload_n hX dX12_forget_93 rfl 1 rfl ?_
    refine r_gR hX dX12_forget_94 kf_X12_129 rfl h ?_
    clear h; intro t5 h
    refine r_iload hX dX12_forget_97 5 rfl ?_
    refine r_aI hX dX12_forget_99 h ?_
    clear h; intro t6 h
    refine r_tI hX dX12_forget_100 h ?_
    clear h; intro σ h
    refine r_aload_n hX dX12_forget_101 rfl 1 rfl ?_
    refine r_gR hX dX12_forget_102 kf_X12_132 rfl h ?_
    clear h; intro t7 h
    refine r_iload_n hX dX12_forget_105 rfl 4 rfl ?_
    refine r_aload_n hX dX12_forget_106 rfl 1 rfl ?_
    refine r_gR hX dX12_forget_107 kf_X12_132 rfl h ?_
    clear h; intro t8 h
    refine r_iload hX dX12_forget_110 5 rfl ?_
    refine r_aI hX dX12_forget_112 h ?_
    clear h; intro t9 h
    refine r_tI hX dX12_forget_113 h ?_
    clear h; intro σ h
    refine r_iincL (L2 := fun t10 => [(3, .int t10), (5, .int s0), (0, kr E l0), (1, .int l1), (2, .int l2), (4, .int l4)]) hX dX12_forget_114 h 4 rfl (by decide) (fun _ => rfl) ?_
    clear h; intro t10 h
    refine r_sub [2, 3, 4, 0, 5] rfl ?_
    exact wX12_forget_117 hX k27 hk27 h
  · clear h; intro h
    refine r_sub [1, 2, 3, 4, 5] rfl ?_
    exact wX12_forget_117 hX k27 hk27 h
def X12_forget_67 (G : kdS) (k27 : Nat → Int32 → Int32 → Int32 → Int32 → kdM → Option (Int32 × kdM)) (l0 : Nat) (l1 : Int32) (l2 : Int32) (l3 : Int32) (l4 : Int32) : kdM → Option (Int32 × kdM) :=
  X12_forget_68 G k27 l0 l1 l2 l3 l4 (0 : Int32)
set_option maxRecDepth 100000 in
set_option maxHeartbeats 4000000 in
theorem wX12_forget_67 {E : kdE} {G : kdS} {A : kdA} {r : Int32} {σ1 : kdM} (hX : kdX E A cX12_forget 6 RX12 (some .int) 2) (k27 : Nat → Int32 → Int32 → Int32 → Int32 → kdM → Option (Int32 × kdM)) (hk27 : ∀ (l0 : Nat) (l1 : Int32) (l2 : Int32) (l3 : Int32) (l4 : Int32) (σ : kdM), k27 l0 l1 l2 l3 l4 σ = some (r, σ1) → SW E G (.inl (some (.int r), σ1)) A 6 σ 27 [(0, kr E l0), (1, .int l1), (2, .int l2), (3, .int l3), (4, .int l4)] []) {σ : kdM} {l0 : Nat} {l1 : Int32} {l2 : Int32} {l3 : Int32} {l4 : Int32} (h : X12_forget_67 G k27 l0 l1 l2 l3 l4 σ = some (r, σ1)) : SW E G (.inl (some (.int r), σ1)) A 6 σ 67 [(0, kr E l0), (1, .int l1), (2, .int l2), (3, .int l3), (4, .int l4)] [] := by
  unfold X12_forget_67 at h
  refine r_iconst hX dX12_forget_67 kk_i_0 ?_
  refine r_sub [0, 1, 2, 3, 4] rfl ?_
  exact wX12_forget_68 hX k27 hk27 h
def X12_forget_63 (G : kdS) (k27 : Nat → Int32 → Int32 → Int32 → Int32 → kdM → Option (Int32 × kdM)) (l0 : Nat) (l1 : Int32) (l2 : Int32) (l3 : Int32) (l4 : Int32) : kdM → Option (Int32 × kdM) :=
  X12_forget_68 G k27 l0 l1 l2 l3 l4 (1 : Int32)
set_option maxRecDepth 100000 in
set_option maxHeartbeats 4000000 in
theorem wX12_forget_63 {E : kdE} {G : kdS} {A : kdA} {r : Int32} {σ1 : kdM} (hX : kdX E A cX12_forget 6 RX12 (some .int) 2) (k27 : Nat → Int32 → Int32 → Int32 → Int32 → kdM → Option (Int32 × kdM)) (hk27 : ∀ (l0 : Nat) (l1 : Int32) (l2 : Int32) (l3 : Int32) (l4 : Int32) (σ : kdM), k27 l0 l1 l2 l3 l4 σ = some (r, σ1) → SW E G (.inl (some (.int r), σ1)) A 6 σ 27 [(0, kr E l0), (1, .int l1), (2, .int l2), (3, .int l3), (4, .int l4)] []) {σ : kdM} {l0 : Nat} {l1 : Int32} {l2 : Int32} {l3 : Int32} {l4 : Int32} (h : X12_forget_63 G k27 l0 l1 l2 l3 l4 σ = some (r, σ1)) : SW E G (.inl (some (.int r), σ1)) A 6 σ 63 [(0, kr E l0), (1, .int l1), (2, .int l2), (3, .int l3), (4, .int l4)] [] := by
  unfold X12_forget_63 at h
  refine r_iconst hX dX12_forget_63 kk_i_1 ?_
  refine r_goto (tgt := 68) hX dX12_forget_64 (by decide) ?_
  refine r_sub [0, 1, 2, 3, 4] rfl ?_
  exact wX12_forget_68 hX k27 hk27 h
def X12_forget_27B (G : kdS) (k27 : Nat → Int32 → Int32 → Int32 → Int32 → kdM → Option (Int32 × kdM)) (l0 : Nat) (l1 : Int32) (l2 : Int32) (l3 : Int32) (l4 : Int32) : kdM → Option (Int32 × kdM) :=
  gI G 12 51 l0 fun t1 =>
  cnd (t1 ≤ l4)
    (gI G 12 51 l0 fun t2 =>
    ltI ((t2 - l3)) fun t3 =>
    sI G 12 51 l0 (l3) <|
    rt t3)
    (gR G 12 48 l0 fun t4 =>
    aI G t4 (l4) fun t5 =>
    cnd (t5 = l1)
      (cnd (l2 = (-1 : Int32))
        (X12_forget_63 G k27 l0 l1 l2 l3 l4)
        (gR G 12 49 l0 fun t6 =>
        aI G t6 (l4) fun t7 =>
        cnd (t7 = l2)
          (X12_forget_63 G k27 l0 l1 l2 l3 l4)
          (X12_forget_67 G k27 l0 l1 l2 l3 l4)))
      (X12_forget_67 G k27 l0 l1 l2 l3 l4))
set_option maxRecDepth 100000 in
set_option maxHeartbeats 4000000 in
theorem wX12_forget_27B {E : kdE} {G : kdS} {A : kdA} {r : Int32} {σ1 : kdM} (hX : kdX E A cX12_forget 6 RX12 (some .int) 2) (k27 : Nat → Int32 → Int32 → Int32 → Int32 → kdM → Option (Int32 × kdM)) (hk27 : ∀ (l0 : Nat) (l1 : Int32) (l2 : Int32) (l3 : Int32) (l4 : Int32) (σ : kdM), k27 l0 l1 l2 l3 l4 σ = some (r, σ1) → SW E G (.inl (some (.int r), σ1)) A 6 σ 27 [(0, kr E l0), (1, .int l1), (2, .int l2), (3, .int l3), (4, .int l4)] []) {σ : kdM} {l0 : Nat} {l1 : Int32} {l2 : Int32} {l3 : Int32} {l4 : Int32} (h : X12_forget_27B G k27 l0 l1 l2 l3 l4 σ = some (r, σ1)) : SW E G (.inl (some (.int r), σ1)) A 6 σ 27 [(0, kr E l0), (1, .int l1), (2, .int l2), (3, .int l3), (4, .int l4)] [] := by
  unfold X12_forget_27B at h
  refine r_iload hX dX12_forget_27 4 rfl ?_
  refine r_aload_n hX dX12_forget_29 rfl 0 rfl ?_
  refine r_gI hX dX12_forget_30 kf_X12_360 rfl h ?_
  clear h; intro t1 h
  refine r_icmp_ge (tgt := 123) hX dX12_forget_33 (by decide) h ?_ ?_
  · clear h; intro h
    refine r_aload_n hX dX12_forget_123 rfl 0 rfl ?_
    refine r_gI hX dX12_forget_124 kf_X12_360 rfl h ?_
    clear h; intro t2 h
    refine r_iload_n hX dX12_forget_127 rfl 3 rfl ?_
    refine r_isub hX dX12_forget_128 ?_
    refine r_letI h ?_
    clear h; intro t3 h
    refine r_istore (L2 := [(4, .int t3), (0, kr E l0), (1, .int l1), (2, .int l2), (3, .int l3)]) hX dX12_forget_129 (by decide) rfl ?_
    refine r_aload_n hX dX12_forget_131 rfl 1 rfl ?_
    refine r_iload_n hX dX12_forget_132 rfl 4 rfl ?_
    refine r_sI hX dX12_forget_133 kf_X12_360 rfl (by intro q hq; cases hq; rfl) h ?_
    clear h; intro σ h
    refine r_iload hX dX12_forget_136 0 rfl ?_
    exact r_iret hX dX12_forget_138 h
  · clear h; intro h
    refine r_aload_n hX dX12_forget_36 rfl 0 rfl ?_
    refine r_gR hX dX12_forget_37 kf_X12_126 rfl h ?_
    clear h; intro t4 h
    refine r_iload hX dX12_forget_40 4 rfl ?_
    refine r_aI hX dX12_forget_42 h ?_
    clear h; intro t5 h
    refine r_iload_n hX dX12_forget_43 rfl 1 rfl ?_
    refine r_icmp_ne (tgt := 67) hX dX12_forget_44 (by decide) h ?_ ?_
    · clear h; intro h
      refine r_iload_n hX dX12_forget_47 rfl 2 rfl ?_
      refine r_iconst hX dX12_forget_48 kk_i_m1 ?_
      refine r_icmp_eq (tgt := 63) hX dX12_forget_49 (by decide) h ?_ ?_
      · clear h; intro h
        refine r_sub [0, 1, 2, 3, 4] rfl ?_
        exact wX12_forget_63 hX k27 hk27 h
      · clear h; intro h
        refine r_aload_n hX dX12_forget_52 rfl 0 rfl ?_
        refine r_gR hX dX12_forget_53 kf_X12_129 rfl h ?_
        clear h; intro t6 h
        refine r_iload hX dX12_forget_56 4 rfl ?_
        refine r_aI hX dX12_forget_58 h ?_
        clear h; intro t7 h
        refine r_iload_n hX dX12_forget_59 rfl 2 rfl ?_
        refine r_icmp_ne (tgt := 67) hX dX12_forget_60 (by decide) h ?_ ?_
        · clear h; intro h
          refine r_sub [0, 1, 2, 3, 4] rfl ?_
          exact wX12_forget_63 hX k27 hk27 h
        · clear h; intro h
          refine r_sub [0, 1, 2, 3, 4] rfl ?_
          exact wX12_forget_67 hX k27 hk27 h
    · clear h; intro h
      refine r_sub [0, 1, 2, 3, 4] rfl ?_
      exact wX12_forget_67 hX k27 hk27 h
def X12_forget_27 (G : kdS) : Nat → Int32 → Int32 → Int32 → Int32 → kdM → Option (Int32 × kdM) := lp (fun _ _ _ _ _ _ => none) (X12_forget_27B G) NN
theorem wX12_forget_27 {E : kdE} {G : kdS} {A : kdA} {r : Int32} {σ1 : kdM} (hX : kdX E A cX12_forget 6 RX12 (some .int) 2) : ∀ (l0 : Nat) (l1 : Int32) (l2 : Int32) (l3 : Int32) (l4 : Int32) (σ : kdM), X12_forget_27 G l0 l1 l2 l3 l4 σ = some (r, σ1) → SW E G (.inl (some (.int r), σ1)) A 6 σ 27 [(0, kr E l0), (1, .int l1), (2, .int l2), (3, .int l3), (4, .int l4)] [] :=
  lp_ind (Q := fun f => ∀ (l0 : Nat) (l1 : Int32) (l2 : Int32) (l3 : Int32) (l4 : Int32) (σ : kdM), f l0 l1 l2 l3 l4 σ = some (r, σ1) → SW E G (.inl (some (.int r), σ1)) A 6 σ 27 [(0, kr E l0), (1, .int l1), (2, .int l2), (3, .int l3), (4, .int l4)] []) (by intros; contradiction) (fun k hk l0 l1 l2 l3 l4 σ h => wX12_forget_27B hX k hk h) NN
def X12_forget_22 (G : kdS) (l0 : Nat) (l1 : Int32) (l2 : Int32) : kdM → Option (Int32 × kdM) :=
  X12_forget_27 G l0 l1 l2 (0 : Int32) (0 : Int32)
set_option maxRecDepth 100000 in
set_option maxHeartbeats 4000000 in
theorem wX12_forget_22 {E : kdE} {G : kdS} {A : kdA} {r : Int32} {σ1 : kdM} (hX : kdX E A cX12_forget 6 RX12 (some .int) 2) {σ : kdM} {l0 : Nat} {l1 : Int32} {l2 : Int32} (h : X12_forget_22 G l0 l1 l2 σ = some (r, σ1)) : SW E G (.inl (some (.int r), σ1)) A 6 σ 22 [(0, kr E l0), (1, .int l1), (2, .int l2)] [] := by
  unfold X12_forget_22 at h
  refine r_iconst hX dX12_forget_22 kk_i_0 ?_
  refine r_istore_n (L2 := [(3, .int (0 : Int32)), (0, kr E l0), (1, .int l1), (2, .int l2)]) hX dX12_forget_23 rfl (by decide) rfl ?_
  refine r_iconst hX dX12_forget_24 kk_i_0 ?_
  refine r_istore (L2 := [(4, .int (0 : Int32)), (3, .int (0 : Int32)), (0, kr E l0), (1, .int l1), (2, .int l2)]) hX dX12_forget_25 (by decide) rfl ?_
  refine r_sub [2, 3, 4, 1, 0] rfl ?_
  exact wX12_forget_27 hX _ _ _ _ _ _ h
def X12_forget (G : kdS) (l0 : Nat) (l1 : Int32) (l2 : Int32) : kdM → Option (Int32 × kdM) :=
  kcl (X12_isHand G l1) fun t1 =>
  cnd (t1 = 0)
    (X12_forget_20 G )
    (cnd (l2 = (-1 : Int32))
      (X12_forget_22 G l0 l1 l2)
      (kcv G 12 l0 (X12_isWord G l0 l2) fun t2 =>
      cnd (t2 = 0)
        (X12_forget_20 G )
        (X12_forget_22 G l0 l1 l2)))
set_option maxRecDepth 100000 in
set_option maxHeartbeats 4000000 in
theorem wX12_forget {E : kdE} {G : kdS} {l0 : Nat} {l1 : Int32} {l2 : Int32} {σ : kdM} {r : Int32} {σ1 : kdM} (h : X12_forget G l0 l1 l2 σ = some (r, σ1)) : Con E G yX12_forget cX12_forget 6 (some .int) 2 [kr E l0, .int l1, .int l2] σ (some (.int r), σ1) := by
  refine kd_head (own := RX12) rfl (by decide +kernel) (Nat.le_of_ble_eq_true rfl) (fun A hX => ?_)
  show SW E G (.inl (some (.int r), σ1)) A 6 σ 0 [(0, kr E l0), (1, .int l1), (2, .int l2)] []
  unfold X12_forget at h
  refine r_iload_n hX dX12_forget_0 rfl 1 rfl ?_
  refine r_cSi (As := [.int l1]) (st := []) hX dX12_forget_1 kl_X12_isHand w_ml_X12_355 w_st_X12_isHand (by decide) rfl (Nat.le_of_ble_eq_true rfl) rfl kdz0 h (fun r σ1 h => wX12_isHand h) ?_
  clear h; intro t1 σ h
  refine r_if_eq (tgt := 20) hX dX12_forget_4 (by decide) h ?_ ?_
  · clear h; intro h
    refine r_sub [] rfl ?_
    exact wX12_forget_20 hX h
  · clear h; intro h
    refine r_iload_n hX dX12_forget_7 rfl 2 rfl ?_
    refine r_iconst hX dX12_forget_8 kk_i_m1 ?_
    refine r_icmp_eq (tgt := 22) hX dX12_forget_9 (by decide) h ?_ ?_
    · clear h; intro h
      refine r_sub [0, 1, 2] rfl ?_
      exact wX12_forget_22 hX h
    · clear h; intro h
      refine r_aload_n hX dX12_forget_12 rfl 0 rfl ?_
      refine r_iload_n hX dX12_forget_13 rfl 2 rfl ?_
      refine r_cVi (As := [.int l2]) (st := []) hX dX12_forget_14 kl_X12_isWord w_ml_X12_251 w_im_X12_isWord w_se_X12_isWord ⟨_, _, rfl⟩ (by decide) rfl (Nat.le_of_ble_eq_true rfl) rfl kdz0 h (fun r σ1 h => wX12_isWord h) ?_
      clear h; intro t2 σ h
      refine r_if_ne (tgt := 22) hX dX12_forget_17 (by decide) h ?_ ?_
      · clear h; intro h
        refine r_sub [] rfl ?_
        exact wX12_forget_20 hX h
      · clear h; intro h
        refine r_sub [0, 1, 2] rfl ?_
        exact wX12_forget_22 hX h
def X12_fade (G : kdS) (l0 : Nat) (l1 : Int32) : kdM → Option (Int32 × kdM) :=
  kcl (X12_in G (Int32.toInt64 l1) (0 : Int64) (1000 : Int64)) fun t1 =>
  cnd (t1 = 0)
    (rt (-2 : Int32))
    (gI G 12 52 l0 fun t2 =>
    sI G 12 52 l0 (l1) <|
    rt t2)
set_option maxRecDepth 100000 in
set_option maxHeartbeats 4000000 in
theorem wX12_fade {E : kdE} {G : kdS} {l0 : Nat} {l1 : Int32} {σ : kdM} {r : Int32} {σ1 : kdM} (h : X12_fade G l0 l1 σ = some (r, σ1)) : Con E G yX12_fade cX12_fade 3 (some .int) 1 [kr E l0, .int l1] σ (some (.int r), σ1) := by
  refine kd_head (own := RX12) rfl (by decide +kernel) (Nat.le_of_ble_eq_true rfl) (fun A hX => ?_)
  show SW E G (.inl (some (.int r), σ1)) A 3 σ 0 [(0, kr E l0), (1, .int l1)] []
  unfold X12_fade at h
  refine r_iload_n hX dX12_fade_0 rfl 1 rfl ?_
  refine r_i2l hX dX12_fade_1 ?_
  refine r_lconst hX dX12_fade_2 kk_l_0 ?_
  refine r_ldc2_w hX dX12_fade_3 w_cl_X12_363 ?_
  refine r_cSi (As := [.long (Int32.toInt64 l1), .long (0 : Int64), .long (1000 : Int64)]) (st := []) hX dX12_fade_6 kl_X12_in w_ml_X12_178 w_st_X12_in (by decide) rfl (Nat.le_of_ble_eq_true rfl) rfl kdz0 h (fun r σ1 h => wX12_in h) ?_
  clear h; intro t1 σ h
  refine r_if_ne (tgt := 15) hX dX12_fade_9 (by decide) h ?_ ?_
  · clear h; intro h
    refine r_bipush hX dX12_fade_12 kk_b_m2 ?_
    exact r_iret hX dX12_fade_14 h
  · clear h; intro h
    refine r_aload_n hX dX12_fade_15 rfl 0 rfl ?_
    refine r_gI hX dX12_fade_16 kf_X12_135 rfl h ?_
    clear h; intro t2 h
    refine r_istore_n (L2 := [(2, .int t2), (0, kr E l0), (1, .int l1)]) hX dX12_fade_19 rfl (by decide) rfl ?_
    refine r_aload_n hX dX12_fade_20 rfl 1 rfl ?_
    refine r_iload_n hX dX12_fade_21 rfl 2 rfl ?_
    refine r_sI hX dX12_fade_22 kf_X12_135 rfl (by intro q hq; cases hq; rfl) h ?_
    clear h; intro σ h
    refine r_iload_n hX dX12_fade_25 rfl 0 rfl ?_
    exact r_iret hX dX12_fade_26 h
def X12_mine_41 (G : kdS) : kdM → Option (Int32 × kdM) :=
  rt (-2 : Int32)
set_option maxRecDepth 100000 in
set_option maxHeartbeats 4000000 in
theorem wX12_mine_41 {E : kdE} {G : kdS} {A : kdA} {r : Int32} {σ1 : kdM} (hX : kdX E A cX12_mine 6 RX12 (some .int) 5) {σ : kdM} (h : X12_mine_41 G  σ = some (r, σ1)) : SW E G (.inl (some (.int r), σ1)) A 6 σ 41 [] [] := by
  unfold X12_mine_41 at h
  refine r_bipush hX dX12_mine_41 kk_b_m2 ?_
  exact r_iret hX dX12_mine_43 h
def X12_mine_105 (G : kdS) (s0 : Int32) : kdM → Option (Int32 × kdM) :=
  rt s0
set_option maxRecDepth 100000 in
set_option maxHeartbeats 4000000 in
theorem wX12_mine_105 {E : kdE} {G : kdS} {A : kdA} {r : Int32} {σ1 : kdM} (hX : kdX E A cX12_mine 6 RX12 (some .int) 5) {σ : kdM} {s0 : Int32} (h : X12_mine_105 G s0 σ = some (r, σ1)) : SW E G (.inl (some (.int r), σ1)) A 6 σ 105 [] [.int s0] := by
  unfold X12_mine_105 at h
  exact r_iret hX dX12_mine_105 h
def X12_mine (G : kdS) (l0 : Nat) (l1 : Int32) (l2 : Int32) (l3 : Int32) (l4 : Int32) (l5 : Int32) : kdM → Option (Int32 × kdM) :=
  kcl (X12_isHand G l1) fun t1 =>
  cnd (t1 = 0)
    (rt (-1 : Int32))
    (kcl (X12_in G (Int32.toInt64 l2) (0 : Int64) (3000 : Int64)) fun t2 =>
    cnd (t2 = 0)
      (X12_mine_41 G )
      (kcl (X12_areTongues G l3) fun t3 =>
      cnd (t3 = 0)
        (X12_mine_41 G )
        (kcl (X12_in G (Int32.toInt64 l4) (0 : Int64) (60 : Int64)) fun t4 =>
        cnd (t4 = 0)
          (X12_mine_41 G )
          (gI G 12 1 l0 fun t5 =>
          cnd (t5 = 0)
            (rt (-3 : Int32))
            (kcv G 12 l0 (X12_findGuesses G l0 l1 l2 l3 l4) fun _ =>
            cnd (l5 = (-1 : Int32))
              (gI G 12 35 l0 fun t6 =>
              X12_mine_105 G t6)
              (gI G 12 35 l0 fun t7 =>
              kcl (X12_in G (Int32.toInt64 l5) (0 : Int64) (Int32.toInt64 (t7 - (1 : Int32)))) fun t8 =>
              cnd (t8 = 0)
                (X12_mine_105 G (-6 : Int32))
                (gR G 12 32 l0 fun t9 =>
                aI G t9 (l5) fun t10 =>
                X12_mine_105 G t10)))))))
set_option maxRecDepth 100000 in
set_option maxHeartbeats 4000000 in
theorem wX12_mine {E : kdE} {G : kdS} {l0 : Nat} {l1 : Int32} {l2 : Int32} {l3 : Int32} {l4 : Int32} {l5 : Int32} {σ : kdM} {r : Int32} {σ1 : kdM} (h : X12_mine G l0 l1 l2 l3 l4 l5 σ = some (r, σ1)) : Con E G yX12_mine cX12_mine 6 (some .int) 5 [kr E l0, .int l1, .int l2, .int l3, .int l4, .int l5] σ (some (.int r), σ1) := by
  refine kd_head (own := RX12) rfl (by decide +kernel) (Nat.le_of_ble_eq_true rfl) (fun A hX => ?_)
  show SW E G (.inl (some (.int r), σ1)) A 6 σ 0 [(0, kr E l0), (1, .int l1), (2, .int l2), (3, .int l3), (4, .int l4), (5, .int l5)] []
  unfold X12_mine at h
  refine r_iload_n hX dX12_mine_0 rfl 1 rfl ?_
  refine r_cSi (As := [.int l1]) (st := []) hX dX12_mine_1 kl_X12_isHand w_ml_X12_355 w_st_X12_isHand (by decide) rfl (Nat.le_of_ble_eq_true rfl) rfl kdz0 h (fun r σ1 h => wX12_isHand h) ?_
  clear h; intro t1 σ h
  refine r_if_ne (tgt := 9) hX dX12_mine_4 (by decide) h ?_ ?_
  · clear h; intro h
    refine r_iconst hX dX12_mine_7 kk_i_m1 ?_
    exact r_iret hX dX12_mine_8 h
  · clear h; intro h
    refine r_iload_n hX dX12_mine_9 rfl 2 rfl ?_
    refine r_i2l hX dX12_mine_10 ?_
    refine r_lconst hX dX12_mine_11 kk_l_0 ?_
    refine r_ldc2_w hX dX12_mine_12 w_cl_X12_358 ?_
    refine r_cSi (As := [.long (Int32.toInt64 l2), .long (0 : Int64), .long (3000 : Int64)]) (st := []) hX dX12_mine_15 kl_X12_in w_ml_X12_178 w_st_X12_in (by decide) rfl (Nat.le_of_ble_eq_true rfl) rfl kdz0 h (fun r σ1 h => wX12_in h) ?_
    clear h; intro t2 σ h
    refine r_if_eq (tgt := 41) hX dX12_mine_18 (by decide) h ?_ ?_
    · clear h; intro h
      refine r_sub [] rfl ?_
      exact wX12_mine_41 hX h
    · clear h; intro h
      refine r_iload_n hX dX12_mine_21 rfl 3 rfl ?_
      refine r_cSi (As := [.int l3]) (st := []) hX dX12_mine_22 kl_X12_areTongues w_ml_X12_287 w_st_X12_areTongues (by decide) rfl (Nat.le_of_ble_eq_true rfl) rfl kdz0 h (fun r σ1 h => wX12_areTongues h) ?_
      clear h; intro t3 σ h
      refine r_if_eq (tgt := 41) hX dX12_mine_25 (by decide) h ?_ ?_
      · clear h; intro h
        refine r_sub [] rfl ?_
        exact wX12_mine_41 hX h
      · clear h; intro h
        refine r_iload hX dX12_mine_28 4 rfl ?_
        refine r_i2l hX dX12_mine_30 ?_
        refine r_lconst hX dX12_mine_31 kk_l_0 ?_
        refine r_ldc2_w hX dX12_mine_32 w_cl_X12_185 ?_
        refine r_cSi (As := [.long (Int32.toInt64 l4), .long (0 : Int64), .long (60 : Int64)]) (st := []) hX dX12_mine_35 kl_X12_in w_ml_X12_178 w_st_X12_in (by decide) rfl (Nat.le_of_ble_eq_true rfl) rfl kdz0 h (fun r σ1 h => wX12_in h) ?_
        clear h; intro t4 σ h
        refine r_if_ne (tgt := 44) hX dX12_mine_38 (by decide) h ?_ ?_
        · clear h; intro h
          refine r_sub [] rfl ?_
          exact wX12_mine_41 hX h
        · clear h; intro h
          refine r_aload_n hX dX12_mine_44 rfl 0 rfl ?_
          refine r_gI hX dX12_mine_45 kf_X12_182 rfl h ?_
          clear h; intro t5 h
          refine r_if_ne (tgt := 54) hX dX12_mine_48 (by decide) h ?_ ?_
          · clear h; intro h
            refine r_bipush hX dX12_mine_51 kk_b_m3 ?_
            exact r_iret hX dX12_mine_53 h
          · clear h; intro h
            refine r_aload_n hX dX12_mine_54 rfl 0 rfl ?_
            refine r_iload_n hX dX12_mine_55 rfl 1 rfl ?_
            refine r_iload_n hX dX12_mine_56 rfl 2 rfl ?_
            refine r_iload_n hX dX12_mine_57 rfl 3 rfl ?_
            refine r_iload hX dX12_mine_58 4 rfl ?_
            refine r_cVv (As := [.int l1, .int l2, .int l3, .int l4]) (st := []) hX dX12_mine_60 kl_X12_findGuesses w_ml_X12_290 w_im_X12_findGuesses w_se_X12_findGuesses ⟨_, _, rfl⟩ (by decide) rfl (Nat.le_of_ble_eq_true rfl) rfl kdz0 h (fun r σ1 h => wX12_findGuesses h) ?_
            clear h; intro u σ h
            refine r_iload hX dX12_mine_63 5 rfl ?_
            refine r_iconst hX dX12_mine_65 kk_i_m1 ?_
            refine r_icmp_ne (tgt := 76) hX dX12_mine_66 (by decide) h ?_ ?_
            · clear h; intro h
              refine r_aload_n hX dX12_mine_69 rfl 0 rfl ?_
              refine r_gI hX dX12_mine_70 kf_X12_276 rfl h ?_
              clear h; intro t6 h
              refine r_goto (tgt := 105) hX dX12_mine_73 (by decide) ?_
              refine r_sub [] rfl ?_
              exact wX12_mine_105 hX h
            · clear h; intro h
              refine r_iload hX dX12_mine_76 5 rfl ?_
              refine r_i2l hX dX12_mine_78 ?_
              refine r_lconst hX dX12_mine_79 kk_l_0 ?_
              refine r_aload_n hX dX12_mine_80 rfl 0 rfl ?_
              refine r_gI hX dX12_mine_81 kf_X12_276 rfl h ?_
              clear h; intro t7 h
              refine r_iconst hX dX12_mine_84 kk_i_1 ?_
              refine r_isub hX dX12_mine_85 ?_
              refine r_i2l hX dX12_mine_86 ?_
              refine r_cSi (As := [.long (Int32.toInt64 l5), .long (0 : Int64), .long (Int32.toInt64 (t7 - (1 : Int32)))]) (st := []) hX dX12_mine_87 kl_X12_in w_ml_X12_178 w_st_X12_in (by decide) rfl (Nat.le_of_ble_eq_true rfl) rfl kdz0 h (fun r σ1 h => wX12_in h) ?_
              clear h; intro t8 σ h
              refine r_if_eq (tgt := 103) hX dX12_mine_90 (by decide) h ?_ ?_
              · clear h; intro h
                refine r_bipush hX dX12_mine_103 kk_b_m6 ?_
                refine r_sub [] rfl ?_
                exact wX12_mine_105 hX h
              · clear h; intro h
                refine r_aload_n hX dX12_mine_93 rfl 0 rfl ?_
                refine r_gR hX dX12_mine_94 kf_X12_83 rfl h ?_
                clear h; intro t9 h
                refine r_iload hX dX12_mine_97 5 rfl ?_
                refine r_aI hX dX12_mine_99 h ?_
                clear h; intro t10 h
                refine r_goto (tgt := 105) hX dX12_mine_100 (by decide) ?_
                refine r_sub [] rfl ?_
                exact wX12_mine_105 hX h
def X12_budget (G : kdS) (l0 : Nat) (l1 : Int32) (l2 : Int32) : kdM → Option (Int32 × kdM) :=
  kcl (X12_isHand G l1) fun t1 =>
  cnd (t1 = 0)
    (rt (-1 : Int32))
    (kcl (X12_in G (Int32.toInt64 l2) (0 : Int64) (1000 : Int64)) fun t2 =>
    cnd (t2 = 0)
      (rt (-2 : Int32))
      (gR G 12 53 l0 fun t3 =>
      aI G t3 (l1) fun t4 =>
      gR G 12 53 l0 fun t5 =>
      tI G t5 (l1) (l2) <|
      rt t4))
set_option maxRecDepth 100000 in
set_option maxHeartbeats 4000000 in
theorem wX12_budget {E : kdE} {G : kdS} {l0 : Nat} {l1 : Int32} {l2 : Int32} {σ : kdM} {r : Int32} {σ1 : kdM} (h : X12_budget G l0 l1 l2 σ = some (r, σ1)) : Con E G yX12_budget cX12_budget 4 (some .int) 2 [kr E l0, .int l1, .int l2] σ (some (.int r), σ1) := by
  refine kd_head (own := RX12) rfl (by decide +kernel) (Nat.le_of_ble_eq_true rfl) (fun A hX => ?_)
  show SW E G (.inl (some (.int r), σ1)) A 4 σ 0 [(0, kr E l0), (1, .int l1), (2, .int l2)] []
  unfold X12_budget at h
  refine r_iload_n hX dX12_budget_0 rfl 1 rfl ?_
  refine r_cSi (As := [.int l1]) (st := []) hX dX12_budget_1 kl_X12_isHand w_ml_X12_355 w_st_X12_isHand (by decide) rfl (Nat.le_of_ble_eq_true rfl) rfl kdz0 h (fun r σ1 h => wX12_isHand h) ?_
  clear h; intro t1 σ h
  refine r_if_ne (tgt := 9) hX dX12_budget_4 (by decide) h ?_ ?_
  · clear h; intro h
    refine r_iconst hX dX12_budget_7 kk_i_m1 ?_
    exact r_iret hX dX12_budget_8 h
  · clear h; intro h
    refine r_iload_n hX dX12_budget_9 rfl 2 rfl ?_
    refine r_i2l hX dX12_budget_10 ?_
    refine r_lconst hX dX12_budget_11 kk_l_0 ?_
    refine r_ldc2_w hX dX12_budget_12 w_cl_X12_363 ?_
    refine r_cSi (As := [.long (Int32.toInt64 l2), .long (0 : Int64), .long (1000 : Int64)]) (st := []) hX dX12_budget_15 kl_X12_in w_ml_X12_178 w_st_X12_in (by decide) rfl (Nat.le_of_ble_eq_true rfl) rfl kdz0 h (fun r σ1 h => wX12_in h) ?_
    clear h; intro t2 σ h
    refine r_if_ne (tgt := 24) hX dX12_budget_18 (by decide) h ?_ ?_
    · clear h; intro h
      refine r_bipush hX dX12_budget_21 kk_b_m2 ?_
      exact r_iret hX dX12_budget_23 h
    · clear h; intro h
      refine r_aload_n hX dX12_budget_24 rfl 0 rfl ?_
      refine r_gR hX dX12_budget_25 kf_X12_139 rfl h ?_
      clear h; intro t3 h
      refine r_iload_n hX dX12_budget_28 rfl 1 rfl ?_
      refine r_aI hX dX12_budget_29 h ?_
      clear h; intro t4 h
      refine r_istore_n (L2 := [(3, .int t4), (0, kr E l0), (1, .int l1), (2, .int l2)]) hX dX12_budget_30 rfl (by decide) rfl ?_
      refine r_aload_n hX dX12_budget_31 rfl 1 rfl ?_
      refine r_gR hX dX12_budget_32 kf_X12_139 rfl h ?_
      clear h; intro t5 h
      refine r_iload_n hX dX12_budget_35 rfl 2 rfl ?_
      refine r_iload_n hX dX12_budget_36 rfl 3 rfl ?_
      refine r_tI hX dX12_budget_37 h ?_
      clear h; intro σ h
      refine r_iload_n hX dX12_budget_38 rfl 0 rfl ?_
      exact r_iret hX dX12_budget_39 h
def X12_seed (G : kdS) (l0 : Nat) (l1 : Int32) : kdM → Option (Int32 × kdM) :=
  kcl (X12_in G (Int32.toInt64 l1) (1 : Int64) (1000000 : Int64)) fun t1 =>
  cnd (t1 = 0)
    (rt (-2 : Int32))
    (gI G 12 54 l0 fun t2 =>
    sI G 12 54 l0 (l1) <|
    rt t2)
set_option maxRecDepth 100000 in
set_option maxHeartbeats 4000000 in
theorem wX12_seed {E : kdE} {G : kdS} {l0 : Nat} {l1 : Int32} {σ : kdM} {r : Int32} {σ1 : kdM} (h : X12_seed G l0 l1 σ = some (r, σ1)) : Con E G yX12_seed cX12_seed 3 (some .int) 1 [kr E l0, .int l1] σ (some (.int r), σ1) := by
  refine kd_head (own := RX12) rfl (by decide +kernel) (Nat.le_of_ble_eq_true rfl) (fun A hX => ?_)
  show SW E G (.inl (some (.int r), σ1)) A 3 σ 0 [(0, kr E l0), (1, .int l1)] []
  unfold X12_seed at h
  refine r_iload_n hX dX12_seed_0 rfl 1 rfl ?_
  refine r_i2l hX dX12_seed_1 ?_
  refine r_lconst hX dX12_seed_2 kk_l_1 ?_
  refine r_ldc2_w hX dX12_seed_3 w_cl_X12_365 ?_
  refine r_cSi (As := [.long (Int32.toInt64 l1), .long (1 : Int64), .long (1000000 : Int64)]) (st := []) hX dX12_seed_6 kl_X12_in w_ml_X12_178 w_st_X12_in (by decide) rfl (Nat.le_of_ble_eq_true rfl) rfl kdz0 h (fun r σ1 h => wX12_in h) ?_
  clear h; intro t1 σ h
  refine r_if_ne (tgt := 15) hX dX12_seed_9 (by decide) h ?_ ?_
  · clear h; intro h
    refine r_bipush hX dX12_seed_12 kk_b_m2 ?_
    exact r_iret hX dX12_seed_14 h
  · clear h; intro h
    refine r_aload_n hX dX12_seed_15 rfl 0 rfl ?_
    refine r_gI hX dX12_seed_16 kf_X12_142 rfl h ?_
    clear h; intro t2 h
    refine r_istore_n (L2 := [(2, .int t2), (0, kr E l0), (1, .int l1)]) hX dX12_seed_19 rfl (by decide) rfl ?_
    refine r_aload_n hX dX12_seed_20 rfl 1 rfl ?_
    refine r_iload_n hX dX12_seed_21 rfl 2 rfl ?_
    refine r_sI hX dX12_seed_22 kf_X12_142 rfl (by intro q hq; cases hq; rfl) h ?_
    clear h; intro σ h
    refine r_iload_n hX dX12_seed_25 rfl 0 rfl ?_
    exact r_iret hX dX12_seed_26 h
def X12_share_36 (G : kdS) : kdM → Option (Int32 × kdM) :=
  rt (-1000002 : Int32)
set_option maxRecDepth 100000 in
set_option maxHeartbeats 4000000 in
theorem wX12_share_36 {E : kdE} {G : kdS} {A : kdA} {r : Int32} {σ1 : kdM} (hX : kdX E A cX12_share 7 RX12 (some .int) 2) {σ : kdM} (h : X12_share_36 G  σ = some (r, σ1)) : SW E G (.inl (some (.int r), σ1)) A 7 σ 36 [] [] := by
  unfold X12_share_36 at h
  refine r_ldc_w hX dX12_share_36 w_ct_X12_368 ?_
  exact r_iret hX dX12_share_39 h
def X12_share_70 (G : kdS) (k46 : Nat → Int32 → Int32 → Int32 → Int32 → Int32 → kdM → Option (Int32 × kdM)) (l0 : Nat) (l1 : Int32) (l2 : Int32) (l3 : Int32) (l5 : Int32) (s0 : Int32) (s1 : Int32) : kdM → Option (Int32 × kdM) :=
  ltI ((s0 + s1)) fun t1 =>
  ltI (l5 + Int32.ofInt 1) fun t2 =>
  k46 l0 l1 l2 l3 t1 t2
set_option maxRecDepth 100000 in
set_option maxHeartbeats 4000000 in
theorem wX12_share_70 {E : kdE} {G : kdS} {A : kdA} {r : Int32} {σ1 : kdM} (hX : kdX E A cX12_share 7 RX12 (some .int) 2) (k46 : Nat → Int32 → Int32 → Int32 → Int32 → Int32 → kdM → Option (Int32 × kdM)) (hk46 : ∀ (l0 : Nat) (l1 : Int32) (l2 : Int32) (l3 : Int32) (l4 : Int32) (l5 : Int32) (σ : kdM), k46 l0 l1 l2 l3 l4 l5 σ = some (r, σ1) → SW E G (.inl (some (.int r), σ1)) A 7 σ 46 [(0, kr E l0), (1, .int l1), (2, .int l2), (3, .int l3), (4, .int l4), (5, .int l5)] []) {σ : kdM} {l0 : Nat} {l1 : Int32} {l2 : Int32} {l3 : Int32} {l5 : Int32} {s0 : Int32} {s1 : Int32} (h : X12_share_70 G k46 l0 l1 l2 l3 l5 s0 s1 σ = some (r, σ1)) : SW E G (.inl (some (.int r), σ1)) A 7 σ 70 [(0, kr E l0), (1, .int l1), (2, .int l2), (3, .int l3), (5, .int l5)] [.int s1, .int s0] := by
  unfold X12_share_70 at h
  refine r_iadd hX dX12_share_70 ?_
  refine r_letI h ?_
  clear h; intro t1 h
  refine r_istore (L2 := [(4, .int t1), (0, kr E l0), (1, .int l1), (2, .int l2), (3, .int l3), (5, .int l5)]) hX dX12_share_71 (by decide) rfl ?_
  refine r_iincL (L2 := fun t2 => [(5, .int t2), (4, .int t1), (0, kr E l0), (1, .int l1), (2, .int l2), (3, .int l3)]) hX dX12_share_73 h 5 rfl (by decide) (fun _ => rfl) ?_
  clear h; intro t2 h
  refine r_goto (tgt := 46) hX dX12_share_76 (by decide) ?_
  refine r_sub [2, 3, 4, 5, 1, 0] rfl ?_
  exact hk46 _ _ _ _ _ _ _ h
def X12_share_142 (G : kdS) (k95 : Nat → Int32 → Int32 → Int32 → Int32 → Int32 → kdM → Option (Int32 × kdM)) (l0 : Nat) (l1 : Int32) (l2 : Int32) (l3 : Int32) (l5 : Int32) (l6 : Int32) : kdM → Option (Int32 × kdM) :=
  ltI (l6 + Int32.ofInt 1) fun t1 =>
  k95 l0 l1 l2 l3 l5 t1
set_option maxRecDepth 100000 in
set_option maxHeartbeats 4000000 in
theorem wX12_share_142 {E : kdE} {G : kdS} {A : kdA} {r : Int32} {σ1 : kdM} (hX : kdX E A cX12_share 7 RX12 (some .int) 2) (k95 : Nat → Int32 → Int32 → Int32 → Int32 → Int32 → kdM → Option (Int32 × kdM)) (hk95 : ∀ (l0 : Nat) (l1 : Int32) (l2 : Int32) (l3 : Int32) (l5 : Int32) (l6 : Int32) (σ : kdM), k95 l0 l1 l2 l3 l5 l6 σ = some (r, σ1) → SW E G (.inl (some (.int r), σ1)) A 7 σ 95 [(0, kr E l0), (1, .int l1), (2, .int l2), (3, .int l3), (5, .int l5), (6, .int l6)] []) {σ : kdM} {l0 : Nat} {l1 : Int32} {l2 : Int32} {l3 : Int32} {l5 : Int32} {l6 : Int32} (h : X12_share_142 G k95 l0 l1 l2 l3 l5 l6 σ = some (r, σ1)) : SW E G (.inl (some (.int r), σ1)) A 7 σ 142 [(0, kr E l0), (1, .int l1), (2, .int l2), (3, .int l3), (5, .int l5), (6, .int l6)] [] := by
  unfold X12_share_142 at h
  refine r_iincL (L2 := fun t1 => [(6, .int t1), (0, kr E l0), (1, .int l1), (2, .int l2), (3, .int l3), (5, .int l5)]) hX dX12_share_142 h 5 rfl (by decide) (fun _ => rfl) ?_
  clear h; intro t1 h
  refine r_goto (tgt := 95) hX dX12_share_145 (by decide) ?_
  refine r_sub [1, 2, 3, 4, 5, 0] rfl ?_
  exact hk95 _ _ _ _ _ _ _ h
def X12_share_95B (G : kdS) (k95 : Nat → Int32 → Int32 → Int32 → Int32 → Int32 → kdM → Option (Int32 × kdM)) (l0 : Nat) (l1 : Int32) (l2 : Int32) (l3 : Int32) (l5 : Int32) (l6 : Int32) : kdM → Option (Int32 × kdM) :=
  cnd ((4 : Int32) ≤ l6)
    (gI G 12 54 l0 fun t1 =>
    nzL (2147483647 : Int64) <|
    sI G 12 54 l0 ((Int64.toInt32 (kremL ((Int32.toInt64 t1) * (16807 : Int64)) (2147483647 : Int64)))) <|
    gI G 12 54 l0 fun t2 =>
    nz (2001 : Int32) <|
    nz l2 <|
    rt (l5 + ((((krem t2 (2001 : Int32)) - (1000 : Int32)) * (100 : Int32)) / l2)))
    (gR G 12 53 l0 fun t3 =>
    aI G t3 (l6) fun t4 =>
    cnd (t4 < l2)
      (X12_share_142 G k95 l0 l1 l2 l3 l5 l6)
      (kcv G 12 l0 (X12_worthOf G l0 l6 l1 l3) fun t5 =>
      kcl (X12_lesser G (5000 : Int32) t5) fun t6 =>
      ltI ((l5 + t6)) fun t7 =>
      gR G 12 53 l0 fun t8 =>
      aI G t8 (l6) fun t9 =>
      tI G t8 (l6) ((t9 - l2)) <|
      X12_share_142 G k95 l0 l1 l2 l3 t7 l6))
set_option maxRecDepth 100000 in
set_option maxHeartbeats 4000000 in
theorem wX12_share_95B {E : kdE} {G : kdS} {A : kdA} {r : Int32} {σ1 : kdM} (hX : kdX E A cX12_share 7 RX12 (some .int) 2) (k95 : Nat → Int32 → Int32 → Int32 → Int32 → Int32 → kdM → Option (Int32 × kdM)) (hk95 : ∀ (l0 : Nat) (l1 : Int32) (l2 : Int32) (l3 : Int32) (l5 : Int32) (l6 : Int32) (σ : kdM), k95 l0 l1 l2 l3 l5 l6 σ = some (r, σ1) → SW E G (.inl (some (.int r), σ1)) A 7 σ 95 [(0, kr E l0), (1, .int l1), (2, .int l2), (3, .int l3), (5, .int l5), (6, .int l6)] []) {σ : kdM} {l0 : Nat} {l1 : Int32} {l2 : Int32} {l3 : Int32} {l5 : Int32} {l6 : Int32} (h : X12_share_95B G k95 l0 l1 l2 l3 l5 l6 σ = some (r, σ1)) : SW E G (.inl (some (.int r), σ1)) A 7 σ 95 [(0, kr E l0), (1, .int l1), (2, .int l2), (3, .int l3), (5, .int l5), (6, .int l6)] [] := by
  unfold X12_share_95B at h
  refine r_iload hX dX12_share_95 5 rfl ?_
  refine r_iconst hX dX12_share_97 kk_i_4 ?_
  refine r_icmp_ge (tgt := 148) hX dX12_share_98 (by decide) h ?_ ?_
  · clear h; intro h
    refine r_aload_n hX dX12_share_148 rfl 0 rfl ?_
    refine r_aload_n hX dX12_share_149 rfl 0 rfl ?_
    refine r_gI hX dX12_share_150 kf_X12_142 rfl h ?_
    clear h; intro t1 h
    refine r_i2l hX dX12_share_153 ?_
    refine r_ldc2_w hX dX12_share_154 w_cl_X12_370 ?_
    refine r_lmul hX dX12_share_157 ?_
    refine r_ldc2_w hX dX12_share_158 w_cl_X12_372 ?_
    refine r_lrem hX dX12_share_161 h ?_
    clear h; intro h
    refine r_l2i hX dX12_share_162 ?_
    refine r_sI hX dX12_share_163 kf_X12_142 rfl (by intro q hq; cases hq; rfl) h ?_
    clear h; intro σ h
    refine r_iload hX dX12_share_166 4 rfl ?_
    refine r_aload_n hX dX12_share_168 rfl 0 rfl ?_
    refine r_gI hX dX12_share_169 kf_X12_142 rfl h ?_
    clear h; intro t2 h
    refine r_sipush hX dX12_share_172 kk_s_2001 ?_
    refine r_irem hX dX12_share_175 h ?_
    clear h; intro h
    refine r_sipush hX dX12_share_176 kk_s_1000 ?_
    refine r_isub hX dX12_share_179 ?_
    refine r_bipush hX dX12_share_180 kk_b_100 ?_
    refine r_imul hX dX12_share_182 ?_
    refine r_iload_n hX dX12_share_183 rfl 2 rfl ?_
    refine r_idiv hX dX12_share_184 h ?_
    clear h; intro h
    refine r_iadd hX dX12_share_185 ?_
    exact r_iret hX dX12_share_186 h
  · clear h; intro h
    refine r_aload_n hX dX12_share_101 rfl 0 rfl ?_
    refine r_gR hX dX12_share_102 kf_X12_139 rfl h ?_
    clear h; intro t3 h
    refine r_iload hX dX12_share_105 5 rfl ?_
    refine r_aI hX dX12_share_107 h ?_
    clear h; intro t4 h
    refine r_iload_n hX dX12_share_108 rfl 2 rfl ?_
    refine r_icmp_lt (tgt := 142) hX dX12_share_109 (by decide) h ?_ ?_
    · clear h; intro h
      refine r_sub [0, 1, 2, 3, 4, 5] rfl ?_
      exact wX12_share_142 hX k95 hk95 h
    · clear h; intro h
      refine r_iload hX dX12_share_112 4 rfl ?_
      refine r_sipush hX dX12_share_114 kk_s_5000 ?_
      refine r_aload_n hX dX12_share_117 rfl 0 rfl ?_
      refine r_iload hX dX12_share_118 5 rfl ?_
      refine r_iload_n hX dX12_share_120 rfl 1 rfl ?_
      refine r_iload_n hX dX12_share_121 rfl 3 rfl ?_
      refine r_cVi (As := [.int l6, .int l1, .int l3]) (st := [.int (5000 : Int32), .int l5]) hX dX12_share_122 kl_X12_worthOf w_ml_X12_279 w_im_X12_worthOf w_se_X12_worthOf ⟨_, _, rfl⟩ (by decide) rfl (Nat.le_of_ble_eq_true rfl) rfl kdz0 h (fun r σ1 h => wX12_worthOf h) ?_
      clear h; intro t5 σ h
      refine r_cSi (As := [.int (5000 : Int32), .int t5]) (st := [.int l5]) hX dX12_share_125 kl_X12_lesser w_ml_X12_266 w_st_X12_lesser (by decide) rfl (Nat.le_of_ble_eq_true rfl) rfl kdz0 h (fun r σ1 h => wX12_lesser h) ?_
      clear h; intro t6 σ h
      refine r_iadd hX dX12_share_128 ?_
      refine r_letI h ?_
      clear h; intro t7 h
      refine r_istore (L2 := [(5, .int t7), (0, kr E l0), (1, .int l1), (2, .int l2), (3, .int l3), (6, .int l6)]) hX dX12_share_129 (by decide) rfl ?_
      refine r_aload_n hX dX12_share_131 rfl 1 rfl ?_
      refine r_gR hX dX12_share_132 kf_X12_139 rfl h ?_
      clear h; intro t8 h
      refine r_iload hX dX12_share_135 5 rfl ?_
      refine r_dup2 hX dX12_share_137 rfl rfl ?_
      refine r_aI hX dX12_share_138 h ?_
      clear h; intro t9 h
      refine r_iload_n hX dX12_share_139 rfl 3 rfl ?_
      refine r_isub hX dX12_share_140 ?_
      refine r_tI hX dX12_share_141 h ?_
      clear h; intro σ h
      refine r_sub [1, 2, 3, 4, 0, 5] rfl ?_
      exact wX12_share_142 hX k95 hk95 h
def X12_share_95 (G : kdS) : Nat → Int32 → Int32 → Int32 → Int32 → Int32 → kdM → Option (Int32 × kdM) := lp (fun _ _ _ _ _ _ _ => none) (X12_share_95B G) NN
theorem wX12_share_95 {E : kdE} {G : kdS} {A : kdA} {r : Int32} {σ1 : kdM} (hX : kdX E A cX12_share 7 RX12 (some .int) 2) : ∀ (l0 : Nat) (l1 : Int32) (l2 : Int32) (l3 : Int32) (l5 : Int32) (l6 : Int32) (σ : kdM), X12_share_95 G l0 l1 l2 l3 l5 l6 σ = some (r, σ1) → SW E G (.inl (some (.int r), σ1)) A 7 σ 95 [(0, kr E l0), (1, .int l1), (2, .int l2), (3, .int l3), (5, .int l5), (6, .int l6)] [] :=
  lp_ind (Q := fun f => ∀ (l0 : Nat) (l1 : Int32) (l2 : Int32) (l3 : Int32) (l5 : Int32) (l6 : Int32) (σ : kdM), f l0 l1 l2 l3 l5 l6 σ = some (r, σ1) → SW E G (.inl (some (.int r), σ1)) A 7 σ 95 [(0, kr E l0), (1, .int l1), (2, .int l2), (3, .int l3), (5, .int l5), (6, .int l6)] []) (by intros; contradiction) (fun k hk l0 l1 l2 l3 l5 l6 σ h => wX12_share_95B hX k hk h) NN
def X12_share_46B (G : kdS) (k46 : Nat → Int32 → Int32 → Int32 → Int32 → Int32 → kdM → Option (Int32 × kdM)) (l0 : Nat) (l1 : Int32) (l2 : Int32) (l3 : Int32) (l4 : Int32) (l5 : Int32) : kdM → Option (Int32 × kdM) :=
  cnd ((4 : Int32) ≤ l5)
    (cnd ((2 : Int32) ≤ l4)
      (X12_share_95 G l0 l1 l2 l3 (0 : Int32) (0 : Int32))
      (rt (-1000005 : Int32)))
    (gR G 12 53 l0 fun t1 =>
    aI G t1 (l5) fun t2 =>
    cnd (t2 < l2)
      (X12_share_70 G k46 l0 l1 l2 l3 l5 l4 (0 : Int32))
      (X12_share_70 G k46 l0 l1 l2 l3 l5 l4 (1 : Int32)))
set_option maxRecDepth 100000 in
set_option maxHeartbeats 4000000 in
theorem wX12_share_46B {E : kdE} {G : kdS} {A : kdA} {r : Int32} {σ1 : kdM} (hX : kdX E A cX12_share 7 RX12 (some .int) 2) (k46 : Nat → Int32 → Int32 → Int32 → Int32 → Int32 → kdM → Option (Int32 × kdM)) (hk46 : ∀ (l0 : Nat) (l1 : Int32) (l2 : Int32) (l3 : Int32) (l4 : Int32) (l5 : Int32) (σ : kdM), k46 l0 l1 l2 l3 l4 l5 σ = some (r, σ1) → SW E G (.inl (some (.int r), σ1)) A 7 σ 46 [(0, kr E l0), (1, .int l1), (2, .int l2), (3, .int l3), (4, .int l4), (5, .int l5)] []) {σ : kdM} {l0 : Nat} {l1 : Int32} {l2 : Int32} {l3 : Int32} {l4 : Int32} {l5 : Int32} (h : X12_share_46B G k46 l0 l1 l2 l3 l4 l5 σ = some (r, σ1)) : SW E G (.inl (some (.int r), σ1)) A 7 σ 46 [(0, kr E l0), (1, .int l1), (2, .int l2), (3, .int l3), (4, .int l4), (5, .int l5)] [] := by
  unfold X12_share_46B at h
  refine r_iload hX dX12_share_46 5 rfl ?_
  refine r_iconst hX dX12_share_48 kk_i_4 ?_
  refine r_icmp_ge (tgt := 79) hX dX12_share_49 (by decide) h ?_ ?_
  · clear h; intro h
    refine r_iload hX dX12_share_79 4 rfl ?_
    refine r_iconst hX dX12_share_81 kk_i_2 ?_
    refine r_icmp_ge (tgt := 89) hX dX12_share_82 (by decide) h ?_ ?_
    · clear h; intro h
      refine r_iconst hX dX12_share_89 kk_i_0 ?_
      refine r_istore (L2 := [(5, .int (0 : Int32)), (0, kr E l0), (1, .int l1), (2, .int l2), (3, .int l3), (4, .int l4)]) hX dX12_share_90 (by decide) rfl ?_
      refine r_iconst hX dX12_share_92 kk_i_0 ?_
      refine r_istore (L2 := [(6, .int (0 : Int32)), (5, .int (0 : Int32)), (0, kr E l0), (1, .int l1), (2, .int l2), (3, .int l3), (4, .int l4)]) hX dX12_share_93 (by decide) rfl ?_
      refine r_sub [2, 3, 4, 5, 1, 0] rfl ?_
      exact wX12_share_95 hX _ _ _ _ _ _ _ h
    · clear h; intro h
      refine r_ldc_w hX dX12_share_85 w_ct_X12_369 ?_
      exact r_iret hX dX12_share_88 h
  · clear h; intro h
    refine r_iload hX dX12_share_52 4 rfl ?_
    refine r_aload_n hX dX12_share_54 rfl 0 rfl ?_
    refine r_gR hX dX12_share_55 kf_X12_139 rfl h ?_
    clear h; intro t1 h
    refine r_iload hX dX12_share_58 5 rfl ?_
    refine r_aI hX dX12_share_60 h ?_
    clear h; intro t2 h
    refine r_iload_n hX dX12_share_61 rfl 2 rfl ?_
    refine r_icmp_lt (tgt := 69) hX dX12_share_62 (by decide) h ?_ ?_
    · clear h; intro h
      refine r_iconst hX dX12_share_69 kk_i_0 ?_
      refine r_sub [0, 1, 2, 3, 5] rfl ?_
      exact wX12_share_70 hX k46 hk46 h
    · clear h; intro h
      refine r_iconst hX dX12_share_65 kk_i_1 ?_
      refine r_goto (tgt := 70) hX dX12_share_66 (by decide) ?_
      refine r_sub [0, 1, 2, 3, 5] rfl ?_
      exact wX12_share_70 hX k46 hk46 h
def X12_share_46 (G : kdS) : Nat → Int32 → Int32 → Int32 → Int32 → Int32 → kdM → Option (Int32 × kdM) := lp (fun _ _ _ _ _ _ _ => none) (X12_share_46B G) NN
theorem wX12_share_46 {E : kdE} {G : kdS} {A : kdA} {r : Int32} {σ1 : kdM} (hX : kdX E A cX12_share 7 RX12 (some .int) 2) : ∀ (l0 : Nat) (l1 : Int32) (l2 : Int32) (l3 : Int32) (l4 : Int32) (l5 : Int32) (σ : kdM), X12_share_46 G l0 l1 l2 l3 l4 l5 σ = some (r, σ1) → SW E G (.inl (some (.int r), σ1)) A 7 σ 46 [(0, kr E l0), (1, .int l1), (2, .int l2), (3, .int l3), (4, .int l4), (5, .int l5)] [] :=
  lp_ind (Q := fun f => ∀ (l0 : Nat) (l1 : Int32) (l2 : Int32) (l3 : Int32) (l4 : Int32) (l5 : Int32) (σ : kdM), f l0 l1 l2 l3 l4 l5 σ = some (r, σ1) → SW E G (.inl (some (.int r), σ1)) A 7 σ 46 [(0, kr E l0), (1, .int l1), (2, .int l2), (3, .int l3), (4, .int l4), (5, .int l5)] []) (by intros; contradiction) (fun k hk l0 l1 l2 l3 l4 l5 σ h => wX12_share_46B hX k hk h) NN
def X12_share (G : kdS) (l0 : Nat) (l1 : Int32) (l2 : Int32) (l3 : Int32) : kdM → Option (Int32 × kdM) :=
  kcv G 12 l0 (X12_isWord G l0 l1) fun t1 =>
  cnd (t1 = 0)
    (rt (-1000001 : Int32))
    (kcl (X12_in G (Int32.toInt64 l2) (1 : Int64) (100 : Int64)) fun t2 =>
    cnd (t2 = 0)
      (X12_share_36 G )
      (kcl (X12_in G (Int32.toInt64 l3) (0 : Int64) (3000 : Int64)) fun t3 =>
      cnd (t3 = 0)
        (X12_share_36 G )
        (X12_share_46 G l0 l1 l2 l3 (0 : Int32) (0 : Int32))))
set_option maxRecDepth 100000 in
set_option maxHeartbeats 4000000 in
theorem wX12_share {E : kdE} {G : kdS} {l0 : Nat} {l1 : Int32} {l2 : Int32} {l3 : Int32} {σ : kdM} {r : Int32} {σ1 : kdM} (h : X12_share G l0 l1 l2 l3 σ = some (r, σ1)) : Con E G yX12_share cX12_share 7 (some .int) 2 [kr E l0, .int l1, .int l2, .int l3] σ (some (.int r), σ1) := by
  refine kd_head (own := RX12) rfl (by decide +kernel) (Nat.le_of_ble_eq_true rfl) (fun A hX => ?_)
  show SW E G (.inl (some (.int r), σ1)) A 7 σ 0 [(0, kr E l0), (1, .int l1), (2, .int l2), (3, .int l3)] []
  unfold X12_share at h
  refine r_aload_n hX dX12_share_0 rfl 0 rfl ?_
  refine r_iload_n hX dX12_share_1 rfl 1 rfl ?_
  refine r_cVi (As := [.int l1]) (st := []) hX dX12_share_2 kl_X12_isWord w_ml_X12_251 w_im_X12_isWord w_se_X12_isWord ⟨_, _, rfl⟩ (by decide) rfl (Nat.le_of_ble_eq_true rfl) rfl kdz0 h (fun r σ1 h => wX12_isWord h) ?_
  clear h; intro t1 σ h
  refine r_if_ne (tgt := 12) hX dX12_share_5 (by decide) h ?_ ?_
  · clear h; intro h
    refine r_ldc_w hX dX12_share_8 w_ct_X12_367 ?_
    exact r_iret hX dX12_share_11 h
  · clear h; intro h
    refine r_iload_n hX dX12_share_12 rfl 2 rfl ?_
    refine r_i2l hX dX12_share_13 ?_
    refine r_lconst hX dX12_share_14 kk_l_1 ?_
    refine r_ldc2_w hX dX12_share_15 w_cl_X12_249 ?_
    refine r_cSi (As := [.long (Int32.toInt64 l2), .long (1 : Int64), .long (100 : Int64)]) (st := []) hX dX12_share_18 kl_X12_in w_ml_X12_178 w_st_X12_in (by decide) rfl (Nat.le_of_ble_eq_true rfl) rfl kdz0 h (fun r σ1 h => wX12_in h) ?_
    clear h; intro t2 σ h
    refine r_if_eq (tgt := 36) hX dX12_share_21 (by decide) h ?_ ?_
    · clear h; intro h
      refine r_sub [] rfl ?_
      exact wX12_share_36 hX h
    · clear h; intro h
      refine r_iload_n hX dX12_share_24 rfl 3 rfl ?_
      refine r_i2l hX dX12_share_25 ?_
      refine r_lconst hX dX12_share_26 kk_l_0 ?_
      refine r_ldc2_w hX dX12_share_27 w_cl_X12_358 ?_
      refine r_cSi (As := [.long (Int32.toInt64 l3), .long (0 : Int64), .long (3000 : Int64)]) (st := []) hX dX12_share_30 kl_X12_in w_ml_X12_178 w_st_X12_in (by decide) rfl (Nat.le_of_ble_eq_true rfl) rfl kdz0 h (fun r σ1 h => wX12_in h) ?_
      clear h; intro t3 σ h
      refine r_if_ne (tgt := 40) hX dX12_share_33 (by decide) h ?_ ?_
      · clear h; intro h
        refine r_sub [] rfl ?_
        exact wX12_share_36 hX h
      · clear h; intro h
        refine r_iconst hX dX12_share_40 kk_i_0 ?_
        refine r_istore (L2 := [(4, .int (0 : Int32)), (0, kr E l0), (1, .int l1), (2, .int l2), (3, .int l3)]) hX dX12_share_41 (by decide) rfl ?_
        refine r_iconst hX dX12_share_43 kk_i_0 ?_
        refine r_istore (L2 := [(5, .int (0 : Int32)), (4, .int (0 : Int32)), (0, kr E l0), (1, .int l1), (2, .int l2), (3, .int l3)]) hX dX12_share_44 (by decide) rfl ?_
        refine r_sub [2, 3, 4, 5, 1, 0] rfl ?_
        exact wX12_share_46 hX _ _ _ _ _ _ _ h
def X12_clearLayout_42B (G : kdS) (k42 : Nat → Int32 → kdM → Option (Unit × kdM)) (l0 : Nat) (l2 : Int32) : kdM → Option (Unit × kdM) :=
  cnd ((49 : Int32) ≤ l2)
    (rt ())
    (gR G 12 59 l0 fun t1 =>
    tI G t1 (l2) ((0 : Int32)) <|
    ltI (l2 + Int32.ofInt 1) fun t2 =>
    k42 l0 t2)
set_option maxRecDepth 100000 in
set_option maxHeartbeats 4000000 in
theorem wX12_clearLayout_42B {E : kdE} {G : kdS} {A : kdA} {r : Unit} {σ1 : kdM} (hX : kdX E A cX12_clearLayout 3 RX12 none 0) (k42 : Nat → Int32 → kdM → Option (Unit × kdM)) (hk42 : ∀ (l0 : Nat) (l2 : Int32) (σ : kdM), k42 l0 l2 σ = some (r, σ1) → SW E G (.inl (none, σ1)) A 3 σ 42 [(0, kr E l0), (2, .int l2)] []) {σ : kdM} {l0 : Nat} {l2 : Int32} (h : X12_clearLayout_42B G k42 l0 l2 σ = some (r, σ1)) : SW E G (.inl (none, σ1)) A 3 σ 42 [(0, kr E l0), (2, .int l2)] [] := by
  unfold X12_clearLayout_42B at h
  refine r_iload_n hX dX12_clearLayout_42 rfl 1 rfl ?_
  refine r_bipush hX dX12_clearLayout_43 kk_b_49 ?_
  refine r_icmp_ge (tgt := 61) hX dX12_clearLayout_45 (by decide) h ?_ ?_
  · clear h; intro h
    exact r_vret hX dX12_clearLayout_61 h
  · clear h; intro h
    refine r_aload_n hX dX12_clearLayout_48 rfl 0 rfl ?_
    refine r_gR hX dX12_clearLayout_49 kf_X12_154 rfl h ?_
    clear h; intro t1 h
    refine r_iload_n hX dX12_clearLayout_52 rfl 1 rfl ?_
    refine r_iconst hX dX12_clearLayout_53 kk_i_0 ?_
    refine r_tI hX dX12_clearLayout_54 h ?_
    clear h; intro σ h
    refine r_iincL (L2 := fun t2 => [(2, .int t2), (0, kr E l0)]) hX dX12_clearLayout_55 h 1 rfl (by decide) (fun _ => rfl) ?_
    clear h; intro t2 h
    refine r_goto (tgt := 42) hX dX12_clearLayout_58 (by decide) ?_
    refine r_sub [1, 0] rfl ?_
    exact hk42 _ _ _ h
def X12_clearLayout_42 (G : kdS) : Nat → Int32 → kdM → Option (Unit × kdM) := lp (fun _ _ _ => none) (X12_clearLayout_42B G) NN
theorem wX12_clearLayout_42 {E : kdE} {G : kdS} {A : kdA} {r : Unit} {σ1 : kdM} (hX : kdX E A cX12_clearLayout 3 RX12 none 0) : ∀ (l0 : Nat) (l2 : Int32) (σ : kdM), X12_clearLayout_42 G l0 l2 σ = some (r, σ1) → SW E G (.inl (none, σ1)) A 3 σ 42 [(0, kr E l0), (2, .int l2)] [] :=
  lp_ind (Q := fun f => ∀ (l0 : Nat) (l2 : Int32) (σ : kdM), f l0 l2 σ = some (r, σ1) → SW E G (.inl (none, σ1)) A 3 σ 42 [(0, kr E l0), (2, .int l2)] []) (by intros; contradiction) (fun k hk l0 l2 σ h => wX12_clearLayout_42B hX k hk h) NN
def X12_clearLayout_7B (G : kdS) (k7 : Nat → Int32 → kdM → Option (Unit × kdM)) (l0 : Nat) (l2 : Int32) : kdM → Option (Unit × kdM) :=
  cnd ((7 : Int32) ≤ l2)
    (X12_clearLayout_42 G l0 (0 : Int32))
    (gR G 12 56 l0 fun t1 =>
    tI G t1 (l2) ((1 : Int32)) <|
    gR G 12 57 l0 fun t2 =>
    tI G t2 (l2) ((0 : Int32)) <|
    gR G 12 58 l0 fun t3 =>
    tI G t3 (l2) ((0 : Int32)) <|
    ltI (l2 + Int32.ofInt 1) fun t4 =>
    k7 l0 t4)
set_option maxRecDepth 100000 in
set_option maxHeartbeats 4000000 in
theorem wX12_clearLayout_7B {E : kdE} {G : kdS} {A : kdA} {r : Unit} {σ1 : kdM} (hX : kdX E A cX12_clearLayout 3 RX12 none 0) (k7 : Nat → Int32 → kdM → Option (Unit × kdM)) (hk7 : ∀ (l0 : Nat) (l2 : Int32) (σ : kdM), k7 l0 l2 σ = some (r, σ1) → SW E G (.inl (none, σ1)) A 3 σ 7 [(0, kr E l0), (2, .int l2)] []) {σ : kdM} {l0 : Nat} {l2 : Int32} (h : X12_clearLayout_7B G k7 l0 l2 σ = some (r, σ1)) : SW E G (.inl (none, σ1)) A 3 σ 7 [(0, kr E l0), (2, .int l2)] [] := by
  unfold X12_clearLayout_7B at h
  refine r_iload_n hX dX12_clearLayout_7 rfl 1 rfl ?_
  refine r_bipush hX dX12_clearLayout_8 kk_b_7 ?_
  refine r_icmp_ge (tgt := 40) hX dX12_clearLayout_10 (by decide) h ?_ ?_
  · clear h; intro h
    refine r_iconst hX dX12_clearLayout_40 kk_i_0 ?_
    refine r_istore_n (L2 := [(2, .int (0 : Int32)), (0, kr E l0)]) hX dX12_clearLayout_41 rfl (by decide) rfl ?_
    refine r_sub [1, 0] rfl ?_
    exact wX12_clearLayout_42 hX _ _ _ h
  · clear h; intro h
    refine r_aload_n hX dX12_clearLayout_13 rfl 0 rfl ?_
    refine r_gR hX dX12_clearLayout_14 kf_X12_145 rfl h ?_
    clear h; intro t1 h
    refine r_iload_n hX dX12_clearLayout_17 rfl 1 rfl ?_
    refine r_iconst hX dX12_clearLayout_18 kk_i_1 ?_
    refine r_tI hX dX12_clearLayout_19 h ?_
    clear h; intro σ h
    refine r_aload_n hX dX12_clearLayout_20 rfl 0 rfl ?_
    refine r_gR hX dX12_clearLayout_21 kf_X12_148 rfl h ?_
    clear h; intro t2 h
    refine r_iload_n hX dX12_clearLayout_24 rfl 1 rfl ?_
    refine r_iconst hX dX12_clearLayout_25 kk_i_0 ?_
    refine r_tI hX dX12_clearLayout_26 h ?_
    clear h; intro σ h
    refine r_aload_n hX dX12_clearLayout_27 rfl 0 rfl ?_
    refine r_gR hX dX12_clearLayout_28 kf_X12_151 rfl h ?_
    clear h; intro t3 h
    refine r_iload_n hX dX12_clearLayout_31 rfl 1 rfl ?_
    refine r_iconst hX dX12_clearLayout_32 kk_i_0 ?_
    refine r_tI hX dX12_clearLayout_33 h ?_
    clear h; intro σ h
    refine r_iincL (L2 := fun t4 => [(2, .int t4), (0, kr E l0)]) hX dX12_clearLayout_34 h 1 rfl (by decide) (fun _ => rfl) ?_
    clear h; intro t4 h
    refine r_goto (tgt := 7) hX dX12_clearLayout_37 (by decide) ?_
    refine r_sub [1, 0] rfl ?_
    exact hk7 _ _ _ h
def X12_clearLayout_7 (G : kdS) : Nat → Int32 → kdM → Option (Unit × kdM) := lp (fun _ _ _ => none) (X12_clearLayout_7B G) NN
theorem wX12_clearLayout_7 {E : kdE} {G : kdS} {A : kdA} {r : Unit} {σ1 : kdM} (hX : kdX E A cX12_clearLayout 3 RX12 none 0) : ∀ (l0 : Nat) (l2 : Int32) (σ : kdM), X12_clearLayout_7 G l0 l2 σ = some (r, σ1) → SW E G (.inl (none, σ1)) A 3 σ 7 [(0, kr E l0), (2, .int l2)] [] :=
  lp_ind (Q := fun f => ∀ (l0 : Nat) (l2 : Int32) (σ : kdM), f l0 l2 σ = some (r, σ1) → SW E G (.inl (none, σ1)) A 3 σ 7 [(0, kr E l0), (2, .int l2)] []) (by intros; contradiction) (fun k hk l0 l2 σ h => wX12_clearLayout_7B hX k hk h) NN
def X12_clearLayout (G : kdS) (l0 : Nat) (l1 : Int32) : kdM → Option (Unit × kdM) :=
  sI G 12 55 l0 (l1) <|
  X12_clearLayout_7 G l0 (0 : Int32)
set_option maxRecDepth 100000 in
set_option maxHeartbeats 4000000 in
theorem wX12_clearLayout {E : kdE} {G : kdS} {l0 : Nat} {l1 : Int32} {σ : kdM} {r : Unit} {σ1 : kdM} (h : X12_clearLayout G l0 l1 σ = some (r, σ1)) : Con E G yX12_clearLayout cX12_clearLayout 3 none 0 [kr E l0, .int l1] σ (none, σ1) := by
  refine kd_head (own := RX12) rfl (by decide +kernel) (Nat.le_of_ble_eq_true rfl) (fun A hX => ?_)
  show SW E G (.inl (none, σ1)) A 3 σ 0 [(0, kr E l0), (1, .int l1)] []
  unfold X12_clearLayout at h
  refine r_aload_n hX dX12_clearLayout_0 rfl 0 rfl ?_
  refine r_iload_n hX dX12_clearLayout_1 rfl 1 rfl ?_
  refine r_sI hX dX12_clearLayout_2 kf_X12_374 rfl (by intro q hq; cases hq; rfl) h ?_
  clear h; intro σ h
  refine r_iconst hX dX12_clearLayout_5 kk_i_0 ?_
  refine r_istore_n (L2 := [(2, .int (0 : Int32)), (0, kr E l0), (1, .int l1)]) hX dX12_clearLayout_6 rfl (by decide) rfl ?_
  refine r_sub [1, 0] rfl ?_
  exact wX12_clearLayout_7 hX _ _ _ h
def X12_symbols (G : kdS) (l0 : Nat) (l1 : Int32) : kdM → Option (Int32 × kdM) :=
  kcl (X12_in G (Int32.toInt64 l1) (2 : Int64) (7 : Int64)) fun t1 =>
  cnd (t1 = 0)
    (rt (-2 : Int32))
    (gI G 12 55 l0 fun t2 =>
    kcv G 12 l0 (X12_clearLayout G l0 l1) fun _ =>
    rt t2)
set_option maxRecDepth 100000 in
set_option maxHeartbeats 4000000 in
theorem wX12_symbols {E : kdE} {G : kdS} {l0 : Nat} {l1 : Int32} {σ : kdM} {r : Int32} {σ1 : kdM} (h : X12_symbols G l0 l1 σ = some (r, σ1)) : Con E G yX12_symbols cX12_symbols 3 (some .int) 1 [kr E l0, .int l1] σ (some (.int r), σ1) := by
  refine kd_head (own := RX12) rfl (by decide +kernel) (Nat.le_of_ble_eq_true rfl) (fun A hX => ?_)
  show SW E G (.inl (some (.int r), σ1)) A 3 σ 0 [(0, kr E l0), (1, .int l1)] []
  unfold X12_symbols at h
  refine r_iload_n hX dX12_symbols_0 rfl 1 rfl ?_
  refine r_i2l hX dX12_symbols_1 ?_
  refine r_ldc2_w hX dX12_symbols_2 w_cl_X12_193 ?_
  refine r_ldc2_w hX dX12_symbols_5 w_cl_X12_285 ?_
  refine r_cSi (As := [.long (Int32.toInt64 l1), .long (2 : Int64), .long (7 : Int64)]) (st := []) hX dX12_symbols_8 kl_X12_in w_ml_X12_178 w_st_X12_in (by decide) rfl (Nat.le_of_ble_eq_true rfl) rfl kdz0 h (fun r σ1 h => wX12_in h) ?_
  clear h; intro t1 σ h
  refine r_if_ne (tgt := 17) hX dX12_symbols_11 (by decide) h ?_ ?_
  · clear h; intro h
    refine r_bipush hX dX12_symbols_14 kk_b_m2 ?_
    exact r_iret hX dX12_symbols_16 h
  · clear h; intro h
    refine r_aload_n hX dX12_symbols_17 rfl 0 rfl ?_
    refine r_gI hX dX12_symbols_18 kf_X12_374 rfl h ?_
    clear h; intro t2 h
    refine r_istore_n (L2 := [(2, .int t2), (0, kr E l0), (1, .int l1)]) hX dX12_symbols_21 rfl (by decide) rfl ?_
    refine r_aload_n hX dX12_symbols_22 rfl 1 rfl ?_
    refine r_iload_n hX dX12_symbols_23 rfl 2 rfl ?_
    refine r_cVv (As := [.int l1]) (st := []) hX dX12_symbols_24 kl_X12_clearLayout w_ml_X12_172 w_im_X12_clearLayout w_se_X12_clearLayout ⟨_, _, rfl⟩ (by decide) rfl (Nat.le_of_ble_eq_true rfl) rfl kdz0 h (fun r σ1 h => wX12_clearLayout h) ?_
    clear h; intro u σ h
    refine r_iload_n hX dX12_symbols_27 rfl 0 rfl ?_
    exact r_iret hX dX12_symbols_28 h
def X12_isSymbol (G : kdS) (l0 : Nat) (l1 : Int32) : kdM → Option (Int32 × kdM) :=
  gI G 12 55 l0 fun t1 =>
  kcl (X12_in G (Int32.toInt64 l1) (0 : Int64) (Int32.toInt64 (t1 - (1 : Int32)))) fun t2 =>
  rt (vp_nar .boolean t2)
set_option maxRecDepth 100000 in
set_option maxHeartbeats 4000000 in
theorem wX12_isSymbol {E : kdE} {G : kdS} {l0 : Nat} {l1 : Int32} {σ : kdM} {r : Int32} {σ1 : kdM} (h : X12_isSymbol G l0 l1 σ = some (r, σ1)) : Con E G yX12_isSymbol cX12_isSymbol 2 (some .boolean) 1 [kr E l0, .int l1] σ (some (.int r), σ1) := by
  refine kd_head (own := RX12) rfl (by decide +kernel) (Nat.le_of_ble_eq_true rfl) (fun A hX => ?_)
  show SW E G (.inl (some (.int r), σ1)) A 2 σ 0 [(0, kr E l0), (1, .int l1)] []
  unfold X12_isSymbol at h
  refine r_iload_n hX dX12_isSymbol_0 rfl 1 rfl ?_
  refine r_i2l hX dX12_isSymbol_1 ?_
  refine r_lconst hX dX12_isSymbol_2 kk_l_0 ?_
  refine r_aload_n hX dX12_isSymbol_3 rfl 0 rfl ?_
  refine r_gI hX dX12_isSymbol_4 kf_X12_374 rfl h ?_
  clear h; intro t1 h
  refine r_iconst hX dX12_isSymbol_7 kk_i_1 ?_
  refine r_isub hX dX12_isSymbol_8 ?_
  refine r_i2l hX dX12_isSymbol_9 ?_
  refine r_cSi (As := [.long (Int32.toInt64 l1), .long (0 : Int64), .long (Int32.toInt64 (t1 - (1 : Int32)))]) (st := []) hX dX12_isSymbol_10 kl_X12_in w_ml_X12_178 w_st_X12_in (by decide) rfl (Nat.le_of_ble_eq_true rfl) rfl kdz0 h (fun r σ1 h => wX12_in h) ?_
  clear h; intro t2 σ h
  exact r_zret hX dX12_isSymbol_13 h
def X12_set_55 (G : kdS) : kdM → Option (Int32 × kdM) :=
  rt (-2 : Int32)
set_option maxRecDepth 100000 in
set_option maxHeartbeats 4000000 in
theorem wX12_set_55 {E : kdE} {G : kdS} {A : kdA} {r : Int32} {σ1 : kdM} (hX : kdX E A cX12_set 5 RX12 (some .int) 2) {σ : kdM} (h : X12_set_55 G  σ = some (r, σ1)) : SW E G (.inl (some (.int r), σ1)) A 5 σ 55 [] [] := by
  unfold X12_set_55 at h
  refine r_bipush hX dX12_set_55 kk_b_m2 ?_
  exact r_iret hX dX12_set_57 h
def X12_set_129 (G : kdS) (l4 : Int32) : kdM → Option (Int32 × kdM) :=
  rt l4
set_option maxRecDepth 100000 in
set_option maxHeartbeats 4000000 in
theorem wX12_set_129 {E : kdE} {G : kdS} {A : kdA} {r : Int32} {σ1 : kdM} (hX : kdX E A cX12_set 5 RX12 (some .int) 2) {σ : kdM} {l4 : Int32} (h : X12_set_129 G l4 σ = some (r, σ1)) : SW E G (.inl (some (.int r), σ1)) A 5 σ 129 [(4, .int l4)] [] := by
  unfold X12_set_129 at h
  refine r_iload hX dX12_set_129 0 rfl ?_
  exact r_iret hX dX12_set_131 h
def X12_set_91 (G : kdS) (l0 : Nat) (l1 : Int32) (l2 : Int32) (l3 : Int32) (s0 : Int32) : kdM → Option (Int32 × kdM) :=
  cnd (l1 = 0)
    (gR G 12 56 l0 fun t1 =>
    tI G t1 (l2) (l3) <|
    X12_set_129 G s0)
    (cnd (l1 = (1 : Int32))
      (gR G 12 57 l0 fun t2 =>
      tI G t2 (l2) (l3) <|
      X12_set_129 G s0)
      (gR G 12 58 l0 fun t3 =>
      tI G t3 (l2) (l3) <|
      X12_set_129 G s0))
set_option maxRecDepth 100000 in
set_option maxHeartbeats 4000000 in
theorem wX12_set_91 {E : kdE} {G : kdS} {A : kdA} {r : Int32} {σ1 : kdM} (hX : kdX E A cX12_set 5 RX12 (some .int) 2) {σ : kdM} {l0 : Nat} {l1 : Int32} {l2 : Int32} {l3 : Int32} {s0 : Int32} (h : X12_set_91 G l0 l1 l2 l3 s0 σ = some (r, σ1)) : SW E G (.inl (some (.int r), σ1)) A 5 σ 91 [(0, kr E l0), (1, .int l1), (2, .int l2), (3, .int l3)] [.int s0] := by
  unfold X12_set_91 at h
  refine r_istore (L2 := [(4, .int s0), (0, kr E l0), (1, .int l1), (2, .int l2), (3, .int l3)]) hX dX12_set_91 (by decide) rfl ?_
  refine r_iload_n hX dX12_set_93 rfl 2 rfl ?_
  refine r_if_ne (tgt := 107) hX dX12_set_94 (by decide) h ?_ ?_
  · clear h; intro h
    refine r_aload_n hX dX12_set_97 rfl 1 rfl ?_
    refine r_gR hX dX12_set_98 kf_X12_145 rfl h ?_
    clear h; intro t1 h
    refine r_iload_n hX dX12_set_101 rfl 3 rfl ?_
    refine r_iload_n hX dX12_set_102 rfl 4 rfl ?_
    refine r_tI hX dX12_set_103 h ?_
    clear h; intro σ h
    refine r_goto (tgt := 129) hX dX12_set_104 (by decide) ?_
    refine r_sub [0] rfl ?_
    exact wX12_set_129 hX h
  · clear h; intro h
    refine r_iload_n hX dX12_set_107 rfl 2 rfl ?_
    refine r_iconst hX dX12_set_108 kk_i_1 ?_
    refine r_icmp_ne (tgt := 122) hX dX12_set_109 (by decide) h ?_ ?_
    · clear h; intro h
      refine r_aload_n hX dX12_set_112 rfl 1 rfl ?_
      refine r_gR hX dX12_set_113 kf_X12_148 rfl h ?_
      clear h; intro t2 h
      refine r_iload_n hX dX12_set_116 rfl 3 rfl ?_
      refine r_iload_n hX dX12_set_117 rfl 4 rfl ?_
      refine r_tI hX dX12_set_118 h ?_
      clear h; intro σ h
      refine r_goto (tgt := 129) hX dX12_set_119 (by decide) ?_
      refine r_sub [0] rfl ?_
      exact wX12_set_129 hX h
    · clear h; intro h
      refine r_aload_n hX dX12_set_122 rfl 1 rfl ?_
      refine r_gR hX dX12_set_123 kf_X12_151 rfl h ?_
      clear h; intro t3 h
      refine r_iload_n hX dX12_set_126 rfl 3 rfl ?_
      refine r_iload_n hX dX12_set_127 rfl 4 rfl ?_
      refine r_tI hX dX12_set_128 h ?_
      clear h; intro σ h
      refine r_sub [0] rfl ?_
      exact wX12_set_129 hX h
def X12_set_49 (G : kdS) (l0 : Nat) (l1 : Int32) (l2 : Int32) (l3 : Int32) (s0 : Int64) (s1 : Int64) (s2 : Int64) : kdM → Option (Int32 × kdM) :=
  kcl (X12_in G s0 s1 s2) fun t1 =>
  cnd (t1 = 0)
    (X12_set_55 G )
    (cnd (l1 = 0)
      (gR G 12 56 l0 fun t2 =>
      aI G t2 (l2) fun t3 =>
      X12_set_91 G l0 l1 l2 l3 t3)
      (cnd (l1 = (1 : Int32))
        (gR G 12 57 l0 fun t4 =>
        aI G t4 (l2) fun t5 =>
        X12_set_91 G l0 l1 l2 l3 t5)
        (gR G 12 58 l0 fun t6 =>
        aI G t6 (l2) fun t7 =>
        X12_set_91 G l0 l1 l2 l3 t7)))
set_option maxRecDepth 100000 in
set_option maxHeartbeats 4000000 in
theorem wX12_set_49 {E : kdE} {G : kdS} {A : kdA} {r : Int32} {σ1 : kdM} (hX : kdX E A cX12_set 5 RX12 (some .int) 2) {σ : kdM} {l0 : Nat} {l1 : Int32} {l2 : Int32} {l3 : Int32} {s0 : Int64} {s1 : Int64} {s2 : Int64} (h : X12_set_49 G l0 l1 l2 l3 s0 s1 s2 σ = some (r, σ1)) : SW E G (.inl (some (.int r), σ1)) A 5 σ 49 [(0, kr E l0), (1, .int l1), (2, .int l2), (3, .int l3)] [.long s2, .long s1, .long s0] := by
  unfold X12_set_49 at h
  refine r_cSi (As := [.long s0, .long s1, .long s2]) (st := []) hX dX12_set_49 kl_X12_in w_ml_X12_178 w_st_X12_in (by decide) rfl (Nat.le_of_ble_eq_true rfl) rfl kdz0 h (fun r σ1 h => wX12_in h) ?_
  clear h; intro t1 σ h
  refine r_if_ne (tgt := 58) hX dX12_set_52 (by decide) h ?_ ?_
  · clear h; intro h
    refine r_sub [] rfl ?_
    exact wX12_set_55 hX h
  · clear h; intro h
    refine r_iload_n hX dX12_set_58 rfl 1 rfl ?_
    refine r_if_ne (tgt := 71) hX dX12_set_59 (by decide) h ?_ ?_
    · clear h; intro h
      refine r_aload_n hX dX12_set_62 rfl 0 rfl ?_
      refine r_gR hX dX12_set_63 kf_X12_145 rfl h ?_
      clear h; intro t2 h
      refine r_iload_n hX dX12_set_66 rfl 2 rfl ?_
      refine r_aI hX dX12_set_67 h ?_
      clear h; intro t3 h
      refine r_goto (tgt := 91) hX dX12_set_68 (by decide) ?_
      refine r_sub [0, 1, 2, 3] rfl ?_
      exact wX12_set_91 hX h
    · clear h; intro h
      refine r_iload_n hX dX12_set_71 rfl 1 rfl ?_
      refine r_iconst hX dX12_set_72 kk_i_1 ?_
      refine r_icmp_ne (tgt := 85) hX dX12_set_73 (by decide) h ?_ ?_
      · clear h; intro h
        refine r_aload_n hX dX12_set_76 rfl 0 rfl ?_
        refine r_gR hX dX12_set_77 kf_X12_148 rfl h ?_
        clear h; intro t4 h
        refine r_iload_n hX dX12_set_80 rfl 2 rfl ?_
        refine r_aI hX dX12_set_81 h ?_
        clear h; intro t5 h
        refine r_goto (tgt := 91) hX dX12_set_82 (by decide) ?_
        refine r_sub [0, 1, 2, 3] rfl ?_
        exact wX12_set_91 hX h
      · clear h; intro h
        refine r_aload_n hX dX12_set_85 rfl 0 rfl ?_
        refine r_gR hX dX12_set_86 kf_X12_151 rfl h ?_
        clear h; intro t6 h
        refine r_iload_n hX dX12_set_89 rfl 2 rfl ?_
        refine r_aI hX dX12_set_90 h ?_
        clear h; intro t7 h
        refine r_sub [0, 1, 2, 3] rfl ?_
        exact wX12_set_91 hX h
def X12_set (G : kdS) (l0 : Nat) (l1 : Int32) (l2 : Int32) (l3 : Int32) : kdM → Option (Int32 × kdM) :=
  kcv G 12 l0 (X12_isSymbol G l0 l2) fun t1 =>
  cnd (t1 = 0)
    (rt (-1 : Int32))
    (kcl (X12_in G (Int32.toInt64 l1) (0 : Int64) (2 : Int64)) fun t2 =>
    cnd (t2 = 0)
      (X12_set_55 G )
      (cnd (l1 = 0)
        (X12_set_49 G l0 l1 l2 l3 (Int32.toInt64 l3) (0 : Int64) (20 : Int64))
        (cnd (l1 = (1 : Int32))
          (X12_set_49 G l0 l1 l2 l3 (Int32.toInt64 l3) (0 : Int64) (4 : Int64))
          (X12_set_49 G l0 l1 l2 l3 (Int32.toInt64 l3) (0 : Int64) (99 : Int64)))))
set_option maxRecDepth 100000 in
set_option maxHeartbeats 4000000 in
theorem wX12_set {E : kdE} {G : kdS} {l0 : Nat} {l1 : Int32} {l2 : Int32} {l3 : Int32} {σ : kdM} {r : Int32} {σ1 : kdM} (h : X12_set G l0 l1 l2 l3 σ = some (r, σ1)) : Con E G yX12_set cX12_set 5 (some .int) 2 [kr E l0, .int l1, .int l2, .int l3] σ (some (.int r), σ1) := by
  refine kd_head (own := RX12) rfl (by decide +kernel) (Nat.le_of_ble_eq_true rfl) (fun A hX => ?_)
  show SW E G (.inl (some (.int r), σ1)) A 5 σ 0 [(0, kr E l0), (1, .int l1), (2, .int l2), (3, .int l3)] []
  unfold X12_set at h
  refine r_aload_n hX dX12_set_0 rfl 0 rfl ?_
  refine r_iload_n hX dX12_set_1 rfl 2 rfl ?_
  refine r_cVi (As := [.int l2]) (st := []) hX dX12_set_2 kl_X12_isSymbol w_ml_X12_377 w_im_X12_isSymbol w_se_X12_isSymbol ⟨_, _, rfl⟩ (by decide) rfl (Nat.le_of_ble_eq_true rfl) rfl kdz0 h (fun r σ1 h => wX12_isSymbol h) ?_
  clear h; intro t1 σ h
  refine r_if_ne (tgt := 10) hX dX12_set_5 (by decide) h ?_ ?_
  · clear h; intro h
    refine r_iconst hX dX12_set_8 kk_i_m1 ?_
    exact r_iret hX dX12_set_9 h
  · clear h; intro h
    refine r_iload_n hX dX12_set_10 rfl 1 rfl ?_
    refine r_i2l hX dX12_set_11 ?_
    refine r_lconst hX dX12_set_12 kk_l_0 ?_
    refine r_ldc2_w hX dX12_set_13 w_cl_X12_193 ?_
    refine r_cSi (As := [.long (Int32.toInt64 l1), .long (0 : Int64), .long (2 : Int64)]) (st := []) hX dX12_set_16 kl_X12_in w_ml_X12_178 w_st_X12_in (by decide) rfl (Nat.le_of_ble_eq_true rfl) rfl kdz0 h (fun r σ1 h => wX12_in h) ?_
    clear h; intro t2 σ h
    refine r_if_eq (tgt := 55) hX dX12_set_19 (by decide) h ?_ ?_
    · clear h; intro h
      refine r_sub [] rfl ?_
      exact wX12_set_55 hX h
    · clear h; intro h
      refine r_iload_n hX dX12_set_22 rfl 3 rfl ?_
      refine r_i2l hX dX12_set_23 ?_
      refine r_lconst hX dX12_set_24 kk_l_0 ?_
      refine r_iload_n hX dX12_set_25 rfl 1 rfl ?_
      refine r_if_ne (tgt := 35) hX dX12_set_26 (by decide) h ?_ ?_
      · clear h; intro h
        refine r_ldc2_w hX dX12_set_29 w_cl_X12_256 ?_
        refine r_goto (tgt := 49) hX dX12_set_32 (by decide) ?_
        refine r_sub [0, 1, 2, 3] rfl ?_
        exact wX12_set_49 hX h
      · clear h; intro h
        refine r_iload_n hX dX12_set_35 rfl 1 rfl ?_
        refine r_iconst hX dX12_set_36 kk_i_1 ?_
        refine r_icmp_ne (tgt := 46) hX dX12_set_37 (by decide) h ?_ ?_
        · clear h; intro h
          refine r_ldc2_w hX dX12_set_40 w_cl_X12_380 ?_
          refine r_goto (tgt := 49) hX dX12_set_43 (by decide) ?_
          refine r_sub [0, 1, 2, 3] rfl ?_
          exact wX12_set_49 hX h
        · clear h; intro h
          refine r_ldc2_w hX dX12_set_46 w_cl_X12_382 ?_
          refine r_sub [0, 1, 2, 3] rfl ?_
          exact wX12_set_49 hX h
def X12_pair_16 (G : kdS) : kdM → Option (Int32 × kdM) :=
  rt (-1 : Int32)
set_option maxRecDepth 100000 in
set_option maxHeartbeats 4000000 in
theorem wX12_pair_16 {E : kdE} {G : kdS} {A : kdA} {r : Int32} {σ1 : kdM} (hX : kdX E A cX12_pair 5 RX12 (some .int) 2) {σ : kdM} (h : X12_pair_16 G  σ = some (r, σ1)) : SW E G (.inl (some (.int r), σ1)) A 5 σ 16 [] [] := by
  unfold X12_pair_16 at h
  refine r_iconst hX dX12_pair_16 kk_i_m1 ?_
  exact r_iret hX dX12_pair_17 h
def X12_pair (G : kdS) (l0 : Nat) (l1 : Int32) (l2 : Int32) (l3 : Int32) : kdM → Option (Int32 × kdM) :=
  kcv G 12 l0 (X12_isSymbol G l0 l1) fun t1 =>
  cnd (t1 = 0)
    (X12_pair_16 G )
    (kcv G 12 l0 (X12_isSymbol G l0 l2) fun t2 =>
    cnd (t2 = 0)
      (X12_pair_16 G )
      (kcl (X12_in G (Int32.toInt64 l3) (0 : Int64) (50 : Int64)) fun t3 =>
      cnd (t3 = 0)
        (rt (-2 : Int32))
        (gR G 12 59 l0 fun t4 =>
        aI G t4 ((((7 : Int32) * l1) + l2)) fun t5 =>
        gR G 12 59 l0 fun t6 =>
        tI G t6 ((((7 : Int32) * l1) + l2)) (l3) <|
        rt t5)))
set_option maxRecDepth 100000 in
set_option maxHeartbeats 4000000 in
theorem wX12_pair {E : kdE} {G : kdS} {l0 : Nat} {l1 : Int32} {l2 : Int32} {l3 : Int32} {σ : kdM} {r : Int32} {σ1 : kdM} (h : X12_pair G l0 l1 l2 l3 σ = some (r, σ1)) : Con E G yX12_pair cX12_pair 5 (some .int) 2 [kr E l0, .int l1, .int l2, .int l3] σ (some (.int r), σ1) := by
  refine kd_head (own := RX12) rfl (by decide +kernel) (Nat.le_of_ble_eq_true rfl) (fun A hX => ?_)
  show SW E G (.inl (some (.int r), σ1)) A 5 σ 0 [(0, kr E l0), (1, .int l1), (2, .int l2), (3, .int l3)] []
  unfold X12_pair at h
  refine r_aload_n hX dX12_pair_0 rfl 0 rfl ?_
  refine r_iload_n hX dX12_pair_1 rfl 1 rfl ?_
  refine r_cVi (As := [.int l1]) (st := []) hX dX12_pair_2 kl_X12_isSymbol w_ml_X12_377 w_im_X12_isSymbol w_se_X12_isSymbol ⟨_, _, rfl⟩ (by decide) rfl (Nat.le_of_ble_eq_true rfl) rfl kdz0 h (fun r σ1 h => wX12_isSymbol h) ?_
  clear h; intro t1 σ h
  refine r_if_eq (tgt := 16) hX dX12_pair_5 (by decide) h ?_ ?_
  · clear h; intro h
    refine r_sub [] rfl ?_
    exact wX12_pair_16 hX h
  · clear h; intro h
    refine r_aload_n hX dX12_pair_8 rfl 0 rfl ?_
    refine r_iload_n hX dX12_pair_9 rfl 2 rfl ?_
    refine r_cVi (As := [.int l2]) (st := []) hX dX12_pair_10 kl_X12_isSymbol w_ml_X12_377 w_im_X12_isSymbol w_se_X12_isSymbol ⟨_, _, rfl⟩ (by decide) rfl (Nat.le_of_ble_eq_true rfl) rfl kdz0 h (fun r σ1 h => wX12_isSymbol h) ?_
    clear h; intro t2 σ h
    refine r_if_ne (tgt := 18) hX dX12_pair_13 (by decide) h ?_ ?_
    · clear h; intro h
      refine r_sub [] rfl ?_
      exact wX12_pair_16 hX h
    · clear h; intro h
      refine r_iload_n hX dX12_pair_18 rfl 3 rfl ?_
      refine r_i2l hX dX12_pair_19 ?_
      refine r_lconst hX dX12_pair_20 kk_l_0 ?_
      refine r_ldc2_w hX dX12_pair_21 w_cl_X12_384 ?_
      refine r_cSi (As := [.long (Int32.toInt64 l3), .long (0 : Int64), .long (50 : Int64)]) (st := []) hX dX12_pair_24 kl_X12_in w_ml_X12_178 w_st_X12_in (by decide) rfl (Nat.le_of_ble_eq_true rfl) rfl kdz0 h (fun r σ1 h => wX12_in h) ?_
      clear h; intro t3 σ h
      refine r_if_ne (tgt := 33) hX dX12_pair_27 (by decide) h ?_ ?_
      · clear h; intro h
        refine r_bipush hX dX12_pair_30 kk_b_m2 ?_
        exact r_iret hX dX12_pair_32 h
      · clear h; intro h
        refine r_aload_n hX dX12_pair_33 rfl 0 rfl ?_
        refine r_gR hX dX12_pair_34 kf_X12_154 rfl h ?_
        clear h; intro t4 h
        refine r_bipush hX dX12_pair_37 kk_b_7 ?_
        refine r_iload_n hX dX12_pair_39 rfl 1 rfl ?_
        refine r_imul hX dX12_pair_40 ?_
        refine r_iload_n hX dX12_pair_41 rfl 2 rfl ?_
        refine r_iadd hX dX12_pair_42 ?_
        refine r_aI hX dX12_pair_43 h ?_
        clear h; intro t5 h
        refine r_istore (L2 := [(4, .int t5), (0, kr E l0), (1, .int l1), (2, .int l2), (3, .int l3)]) hX dX12_pair_44 (by decide) rfl ?_
        refine r_aload_n hX dX12_pair_46 rfl 1 rfl ?_
        refine r_gR hX dX12_pair_47 kf_X12_154 rfl h ?_
        clear h; intro t6 h
        refine r_bipush hX dX12_pair_50 kk_b_7 ?_
        refine r_iload_n hX dX12_pair_52 rfl 2 rfl ?_
        refine r_imul hX dX12_pair_53 ?_
        refine r_iload_n hX dX12_pair_54 rfl 3 rfl ?_
        refine r_iadd hX dX12_pair_55 ?_
        refine r_iload_n hX dX12_pair_56 rfl 4 rfl ?_
        refine r_tI hX dX12_pair_57 h ?_
        clear h; intro σ h
        refine r_iload hX dX12_pair_58 0 rfl ?_
        exact r_iret hX dX12_pair_60 h
def X12_same (G : kdS) (l0 : Nat) (l1 : Int32) : kdM → Option (Int32 × kdM) :=
  kcl (X12_in G (Int32.toInt64 l1) (0 : Int64) (20 : Int64)) fun t1 =>
  cnd (t1 = 0)
    (rt (-2 : Int32))
    (gI G 12 60 l0 fun t2 =>
    sI G 12 60 l0 (l1) <|
    rt t2)
set_option maxRecDepth 100000 in
set_option maxHeartbeats 4000000 in
theorem wX12_same {E : kdE} {G : kdS} {l0 : Nat} {l1 : Int32} {σ : kdM} {r : Int32} {σ1 : kdM} (h : X12_same G l0 l1 σ = some (r, σ1)) : Con E G yX12_same cX12_same 3 (some .int) 1 [kr E l0, .int l1] σ (some (.int r), σ1) := by
  refine kd_head (own := RX12) rfl (by decide +kernel) (Nat.le_of_ble_eq_true rfl) (fun A hX => ?_)
  show SW E G (.inl (some (.int r), σ1)) A 3 σ 0 [(0, kr E l0), (1, .int l1)] []
  unfold X12_same at h
  refine r_iload_n hX dX12_same_0 rfl 1 rfl ?_
  refine r_i2l hX dX12_same_1 ?_
  refine r_lconst hX dX12_same_2 kk_l_0 ?_
  refine r_ldc2_w hX dX12_same_3 w_cl_X12_256 ?_
  refine r_cSi (As := [.long (Int32.toInt64 l1), .long (0 : Int64), .long (20 : Int64)]) (st := []) hX dX12_same_6 kl_X12_in w_ml_X12_178 w_st_X12_in (by decide) rfl (Nat.le_of_ble_eq_true rfl) rfl kdz0 h (fun r σ1 h => wX12_in h) ?_
  clear h; intro t1 σ h
  refine r_if_ne (tgt := 15) hX dX12_same_9 (by decide) h ?_ ?_
  · clear h; intro h
    refine r_bipush hX dX12_same_12 kk_b_m2 ?_
    exact r_iret hX dX12_same_14 h
  · clear h; intro h
    refine r_aload_n hX dX12_same_15 rfl 0 rfl ?_
    refine r_gI hX dX12_same_16 kf_X12_157 rfl h ?_
    clear h; intro t2 h
    refine r_istore_n (L2 := [(2, .int t2), (0, kr E l0), (1, .int l1)]) hX dX12_same_19 rfl (by decide) rfl ?_
    refine r_aload_n hX dX12_same_20 rfl 1 rfl ?_
    refine r_iload_n hX dX12_same_21 rfl 2 rfl ?_
    refine r_sI hX dX12_same_22 kf_X12_157 rfl (by intro q hq; cases hq; rfl) h ?_
    clear h; intro σ h
    refine r_iload_n hX dX12_same_25 rfl 0 rfl ?_
    exact r_iret hX dX12_same_26 h
def X12_lay_90 (G : kdS) : kdM → Option (Int32 × kdM) :=
  rt (vp_nar .boolean (0 : Int32))
set_option maxRecDepth 100000 in
set_option maxHeartbeats 4000000 in
theorem wX12_lay_90 {E : kdE} {G : kdS} {A : kdA} {r : Int32} {σ1 : kdM} (hX : kdX E A cX12_lay 5 RX12 (some .boolean) 2) {σ : kdM} (h : X12_lay_90 G  σ = some (r, σ1)) : SW E G (.inl (some (.int r), σ1)) A 5 σ 90 [] [] := by
  unfold X12_lay_90 at h
  refine r_iconst hX dX12_lay_90 kk_i_0 ?_
  exact r_zret hX dX12_lay_91 h
def X12_lay_119 (G : kdS) (s0 : Int32) : kdM → Option (Int32 × kdM) :=
  rt (vp_nar .boolean s0)
set_option maxRecDepth 100000 in
set_option maxHeartbeats 4000000 in
theorem wX12_lay_119 {E : kdE} {G : kdS} {A : kdA} {r : Int32} {σ1 : kdM} (hX : kdX E A cX12_lay 5 RX12 (some .boolean) 2) {σ : kdM} {s0 : Int32} (h : X12_lay_119 G s0 σ = some (r, σ1)) : SW E G (.inl (some (.int r), σ1)) A 5 σ 119 [] [.int s0] := by
  unfold X12_lay_119 at h
  exact r_zret hX dX12_lay_119 h
def X12_lay_52B (G : kdS) (k52 : Nat → Int32 → Int32 → Int32 → kdM → Option (Int32 × kdM)) (l0 : Nat) (l2 : Int32) (l3 : Int32) (l4 : Int32) : kdM → Option (Int32 × kdM) :=
  gI G 12 55 l0 fun t1 =>
  cnd (t1 ≤ l4)
    (cnd (l2 = 0)
      (X12_lay_119 G (1 : Int32))
      (X12_lay_119 G (0 : Int32)))
    (gR G 12 61 l0 fun t2 =>
    aI G t2 (l4) fun t3 =>
    kcv G 12 l0 (X12_isSymbol G l0 t3) fun t4 =>
    cnd (t4 = 0)
      (X12_lay_90 G )
      (gR G 12 61 l0 fun t5 =>
      aI G t5 (l4) fun t6 =>
      cnd (((l3 >>> (t6 &&& 31)) &&& (1 : Int32)) = (1 : Int32))
        (X12_lay_90 G )
        (gR G 12 61 l0 fun t7 =>
        aI G t7 (l4) fun t8 =>
        ltI ((l3 ||| ((1 : Int32) <<< (t8 &&& 31)))) fun t9 =>
        ltI (l4 + Int32.ofInt 1) fun t10 =>
        k52 l0 l2 t9 t10)))
set_option maxRecDepth 100000 in
set_option maxHeartbeats 4000000 in
theorem wX12_lay_52B {E : kdE} {G : kdS} {A : kdA} {r : Int32} {σ1 : kdM} (hX : kdX E A cX12_lay 5 RX12 (some .boolean) 2) (k52 : Nat → Int32 → Int32 → Int32 → kdM → Option (Int32 × kdM)) (hk52 : ∀ (l0 : Nat) (l2 : Int32) (l3 : Int32) (l4 : Int32) (σ : kdM), k52 l0 l2 l3 l4 σ = some (r, σ1) → SW E G (.inl (some (.int r), σ1)) A 5 σ 52 [(0, kr E l0), (2, .int l2), (3, .int l3), (4, .int l4)] []) {σ : kdM} {l0 : Nat} {l2 : Int32} {l3 : Int32} {l4 : Int32} (h : X12_lay_52B G k52 l0 l2 l3 l4 σ = some (r, σ1)) : SW E G (.inl (some (.int r), σ1)) A 5 σ 52 [(0, kr E l0), (2, .int l2), (3, .int l3), (4, .int l4)] [] := by
  unfold X12_lay_52B at h
  refine r_iload hX dX12_lay_52 3 rfl ?_
  refine r_aload_n hX dX12_lay_54 rfl 0 rfl ?_
  refine r_gI hX dX12_lay_55 kf_X12_374 rfl h ?_
  clear h; intro t1 h
  refine r_icmp_ge (tgt := 110) hX dX12_lay_58 (by decide) h ?_ ?_
  · clear h; intro h
    refine r_iload_n hX dX12_lay_110 rfl 1 rfl ?_
    refine r_if_ne (tgt := 118) hX dX12_lay_111 (by decide) h ?_ ?_
    · clear h; intro h
      refine r_iconst hX dX12_lay_114 kk_i_1 ?_
      refine r_goto (tgt := 119) hX dX12_lay_115 (by decide) ?_
      refine r_sub [] rfl ?_
      exact wX12_lay_119 hX h
    · clear h; intro h
      refine r_iconst hX dX12_lay_118 kk_i_0 ?_
      refine r_sub [] rfl ?_
      exact wX12_lay_119 hX h
  · clear h; intro h
    refine r_aload_n hX dX12_lay_61 rfl 0 rfl ?_
    refine r_aload_n hX dX12_lay_62 rfl 0 rfl ?_
    refine r_gR hX dX12_lay_63 kf_X12_160 rfl h ?_
    clear h; intro t2 h
    refine r_iload hX dX12_lay_66 3 rfl ?_
    refine r_aI hX dX12_lay_68 h ?_
    clear h; intro t3 h
    refine r_cVi (As := [.int t3]) (st := []) hX dX12_lay_69 kl_X12_isSymbol w_ml_X12_377 w_im_X12_isSymbol w_se_X12_isSymbol ⟨_, _, rfl⟩ (by decide) rfl (Nat.le_of_ble_eq_true rfl) rfl kdz0 h (fun r σ1 h => wX12_isSymbol h) ?_
    clear h; intro t4 σ h
    refine r_if_eq (tgt := 90) hX dX12_lay_72 (by decide) h ?_ ?_
    · clear h; intro h
      refine r_sub [] rfl ?_
      exact wX12_lay_90 hX h
    · clear h; intro h
      refine r_iload_n hX dX12_lay_75 rfl 2 rfl ?_
      refine r_aload_n hX dX12_lay_76 rfl 0 rfl ?_
      refine r_gR hX dX12_lay_77 kf_X12_160 rfl h ?_
      clear h; intro t5 h
      refine r_iload hX dX12_lay_80 3 rfl ?_
      refine r_aI hX dX12_lay_82 h ?_
      clear h; intro t6 h
      refine r_ishr hX dX12_lay_83 ?_
      refine r_iconst hX dX12_lay_84 kk_i_1 ?_
      refine r_iand hX dX12_lay_85 ?_
      refine r_iconst hX dX12_lay_86 kk_i_1 ?_
      refine r_icmp_ne (tgt := 92) hX dX12_lay_87 (by decide) h ?_ ?_
      · clear h; intro h
        refine r_sub [] rfl ?_
        exact wX12_lay_90 hX h
      · clear h; intro h
        refine r_iload_n hX dX12_lay_92 rfl 2 rfl ?_
        refine r_iconst hX dX12_lay_93 kk_i_1 ?_
        refine r_aload_n hX dX12_lay_94 rfl 0 rfl ?_
        refine r_gR hX dX12_lay_95 kf_X12_160 rfl h ?_
        clear h; intro t7 h
        refine r_iload hX dX12_lay_98 3 rfl ?_
        refine r_aI hX dX12_lay_100 h ?_
        clear h; intro t8 h
        refine r_ishl hX dX12_lay_101 ?_
        refine r_ior hX dX12_lay_102 ?_
        refine r_letI h ?_
        clear h; intro t9 h
        refine r_istore_n (L2 := [(3, .int t9), (0, kr E l0), (2, .int l2), (4, .int l4)]) hX dX12_lay_103 rfl (by decide) rfl ?_
        refine r_iincL (L2 := fun t10 => [(4, .int t10), (3, .int t9), (0, kr E l0), (2, .int l2)]) hX dX12_lay_104 h 3 rfl (by decide) (fun _ => rfl) ?_
        clear h; intro t10 h
        refine r_goto (tgt := 52) hX dX12_lay_107 (by decide) ?_
        refine r_sub [2, 3, 1, 0] rfl ?_
        exact hk52 _ _ _ _ _ h
def X12_lay_52 (G : kdS) : Nat → Int32 → Int32 → Int32 → kdM → Option (Int32 × kdM) := lp (fun _ _ _ _ _ => none) (X12_lay_52B G) NN
theorem wX12_lay_52 {E : kdE} {G : kdS} {A : kdA} {r : Int32} {σ1 : kdM} (hX : kdX E A cX12_lay 5 RX12 (some .boolean) 2) : ∀ (l0 : Nat) (l2 : Int32) (l3 : Int32) (l4 : Int32) (σ : kdM), X12_lay_52 G l0 l2 l3 l4 σ = some (r, σ1) → SW E G (.inl (some (.int r), σ1)) A 5 σ 52 [(0, kr E l0), (2, .int l2), (3, .int l3), (4, .int l4)] [] :=
  lp_ind (Q := fun f => ∀ (l0 : Nat) (l2 : Int32) (l3 : Int32) (l4 : Int32) (σ : kdM), f l0 l2 l3 l4 σ = some (r, σ1) → SW E G (.inl (some (.int r), σ1)) A 5 σ 52 [(0, kr E l0), (2, .int l2), (3, .int l3), (4, .int l4)] []) (by intros; contradiction) (fun k hk l0 l2 l3 l4 σ h => wX12_lay_52B hX k hk h) NN
def X12_lay_22B (G : kdS) (k22 : Nat → Int32 → Int32 → Int32 → kdM → Option (Int32 × kdM)) (l0 : Nat) (l2 : Int32) (l3 : Int32) (l4 : Int32) : kdM → Option (Int32 × kdM) :=
  cnd (l4 < 0)
    (X12_lay_52 G l0 l2 l3 (0 : Int32))
    (gR G 12 61 l0 fun t1 =>
    nz (10 : Int32) <|
    tI G t1 (l4) ((krem l2 (10 : Int32))) <|
    nz (10 : Int32) <|
    ltI ((l2 / (10 : Int32))) fun t2 =>
    ltI (l4 + Int32.ofInt (-1)) fun t3 =>
    k22 l0 t2 l3 t3)
set_option maxRecDepth 100000 in
set_option maxHeartbeats 4000000 in
theorem wX12_lay_22B {E : kdE} {G : kdS} {A : kdA} {r : Int32} {σ1 : kdM} (hX : kdX E A cX12_lay 5 RX12 (some .boolean) 2) (k22 : Nat → Int32 → Int32 → Int32 → kdM → Option (Int32 × kdM)) (hk22 : ∀ (l0 : Nat) (l2 : Int32) (l3 : Int32) (l4 : Int32) (σ : kdM), k22 l0 l2 l3 l4 σ = some (r, σ1) → SW E G (.inl (some (.int r), σ1)) A 5 σ 22 [(0, kr E l0), (2, .int l2), (3, .int l3), (4, .int l4)] []) {σ : kdM} {l0 : Nat} {l2 : Int32} {l3 : Int32} {l4 : Int32} (h : X12_lay_22B G k22 l0 l2 l3 l4 σ = some (r, σ1)) : SW E G (.inl (some (.int r), σ1)) A 5 σ 22 [(0, kr E l0), (2, .int l2), (3, .int l3), (4, .int l4)] [] := by
  unfold X12_lay_22B at h
  refine r_iload hX dX12_lay_22 3 rfl ?_
  refine r_if_lt (tgt := 49) hX dX12_lay_24 (by decide) h ?_ ?_
  · clear h; intro h
    refine r_iconst hX dX12_lay_49 kk_i_0 ?_
    refine r_istore (L2 := [(4, .int (0 : Int32)), (0, kr E l0), (2, .int l2), (3, .int l3)]) hX dX12_lay_50 (by decide) rfl ?_
    refine r_sub [1, 2, 3, 0] rfl ?_
    exact wX12_lay_52 hX _ _ _ _ _ h
  · clear h; intro h
    refine r_aload_n hX dX12_lay_27 rfl 0 rfl ?_
    refine r_gR hX dX12_lay_28 kf_X12_160 rfl h ?_
    clear h; intro t1 h
    refine r_iload hX dX12_lay_31 3 rfl ?_
    refine r_iload_n hX dX12_lay_33 rfl 1 rfl ?_
    refine r_bipush hX dX12_lay_34 kk_b_10 ?_
    refine r_irem hX dX12_lay_36 h ?_
    clear h; intro h
    refine r_tI hX dX12_lay_37 h ?_
    clear h; intro σ h
    refine r_iload_n hX dX12_lay_38 rfl 1 rfl ?_
    refine r_bipush hX dX12_lay_39 kk_b_10 ?_
    refine r_idiv hX dX12_lay_41 h ?_
    clear h; intro h
    refine r_letI h ?_
    clear h; intro t2 h
    refine r_istore_n (L2 := [(2, .int t2), (0, kr E l0), (3, .int l3), (4, .int l4)]) hX dX12_lay_42 rfl (by decide) rfl ?_
    refine r_iincL (L2 := fun t3 => [(4, .int t3), (2, .int t2), (0, kr E l0), (3, .int l3)]) hX dX12_lay_43 h 3 rfl (by decide) (fun _ => rfl) ?_
    clear h; intro t3 h
    refine r_goto (tgt := 22) hX dX12_lay_46 (by decide) ?_
    refine r_sub [2, 1, 3, 0] rfl ?_
    exact hk22 _ _ _ _ _ h
def X12_lay_22 (G : kdS) : Nat → Int32 → Int32 → Int32 → kdM → Option (Int32 × kdM) := lp (fun _ _ _ _ _ => none) (X12_lay_22B G) NN
theorem wX12_lay_22 {E : kdE} {G : kdS} {A : kdA} {r : Int32} {σ1 : kdM} (hX : kdX E A cX12_lay 5 RX12 (some .boolean) 2) : ∀ (l0 : Nat) (l2 : Int32) (l3 : Int32) (l4 : Int32) (σ : kdM), X12_lay_22 G l0 l2 l3 l4 σ = some (r, σ1) → SW E G (.inl (some (.int r), σ1)) A 5 σ 22 [(0, kr E l0), (2, .int l2), (3, .int l3), (4, .int l4)] [] :=
  lp_ind (Q := fun f => ∀ (l0 : Nat) (l2 : Int32) (l3 : Int32) (l4 : Int32) (σ : kdM), f l0 l2 l3 l4 σ = some (r, σ1) → SW E G (.inl (some (.int r), σ1)) A 5 σ 22 [(0, kr E l0), (2, .int l2), (3, .int l3), (4, .int l4)] []) (by intros; contradiction) (fun k hk l0 l2 l3 l4 σ h => wX12_lay_22B hX k hk h) NN
def X12_lay_11 (G : kdS) (l0 : Nat) (s0 : Int32) : kdM → Option (Int32 × kdM) :=
  gI G 12 55 l0 fun t1 =>
  ltI ((t1 - (1 : Int32))) fun t2 =>
  X12_lay_22 G l0 s0 (0 : Int32) t2
set_option maxRecDepth 100000 in
set_option maxHeartbeats 4000000 in
theorem wX12_lay_11 {E : kdE} {G : kdS} {A : kdA} {r : Int32} {σ1 : kdM} (hX : kdX E A cX12_lay 5 RX12 (some .boolean) 2) {σ : kdM} {l0 : Nat} {s0 : Int32} (h : X12_lay_11 G l0 s0 σ = some (r, σ1)) : SW E G (.inl (some (.int r), σ1)) A 5 σ 11 [(0, kr E l0)] [.int s0] := by
  unfold X12_lay_11 at h
  refine r_istore_n (L2 := [(2, .int s0), (0, kr E l0)]) hX dX12_lay_11 rfl (by decide) rfl ?_
  refine r_iconst hX dX12_lay_12 kk_i_0 ?_
  refine r_istore_n (L2 := [(3, .int (0 : Int32)), (2, .int s0), (0, kr E l0)]) hX dX12_lay_13 rfl (by decide) rfl ?_
  refine r_aload_n hX dX12_lay_14 rfl 2 rfl ?_
  refine r_gI hX dX12_lay_15 kf_X12_374 rfl h ?_
  clear h; intro t1 h
  refine r_iconst hX dX12_lay_18 kk_i_1 ?_
  refine r_isub hX dX12_lay_19 ?_
  refine r_letI h ?_
  clear h; intro t2 h
  refine r_istore (L2 := [(4, .int t2), (3, .int (0 : Int32)), (2, .int s0), (0, kr E l0)]) hX dX12_lay_20 (by decide) rfl ?_
  refine r_sub [3, 2, 1, 0] rfl ?_
  exact wX12_lay_22 hX _ _ _ _ _ h
def X12_lay (G : kdS) (l0 : Nat) (l1 : Int32) : kdM → Option (Int32 × kdM) :=
  cnd (0 ≤ l1)
    (X12_lay_11 G l0 l1)
    (X12_lay_11 G l0 (99999999 : Int32))
set_option maxRecDepth 100000 in
set_option maxHeartbeats 4000000 in
theorem wX12_lay {E : kdE} {G : kdS} {l0 : Nat} {l1 : Int32} {σ : kdM} {r : Int32} {σ1 : kdM} (h : X12_lay G l0 l1 σ = some (r, σ1)) : Con E G yX12_lay cX12_lay 5 (some .boolean) 2 [kr E l0, .int l1] σ (some (.int r), σ1) := by
  refine kd_head (own := RX12) rfl (by decide +kernel) (Nat.le_of_ble_eq_true rfl) (fun A hX => ?_)
  show SW E G (.inl (some (.int r), σ1)) A 5 σ 0 [(0, kr E l0), (1, .int l1)] []
  unfold X12_lay at h
  refine r_iload_n hX dX12_lay_0 rfl 1 rfl ?_
  refine r_if_ge (tgt := 10) hX dX12_lay_1 (by decide) h ?_ ?_
  · clear h; intro h
    refine r_iload_n hX dX12_lay_10 rfl 1 rfl ?_
    refine r_sub [0] rfl ?_
    exact wX12_lay_11 hX h
  · clear h; intro h
    refine r_ldc_w hX dX12_lay_4 w_ct_X12_386 ?_
    refine r_goto (tgt := 11) hX dX12_lay_7 (by decide) ?_
    refine r_sub [0] rfl ?_
    exact wX12_lay_11 hX h
def X12_digits_4B (G : kdS) (k4 : Nat → Int32 → Int32 → kdM → Option (Int32 × kdM)) (l0 : Nat) (l1 : Int32) (l2 : Int32) : kdM → Option (Int32 × kdM) :=
  gI G 12 55 l0 fun t1 =>
  cnd (t1 ≤ l2)
    (rt l1)
    (gR G 12 61 l0 fun t2 =>
    aI G t2 (l2) fun t3 =>
    ltI ((((10 : Int32) * l1) + t3)) fun t4 =>
    ltI (l2 + Int32.ofInt 1) fun t5 =>
    k4 l0 t4 t5)
set_option maxRecDepth 100000 in
set_option maxHeartbeats 4000000 in
theorem wX12_digits_4B {E : kdE} {G : kdS} {A : kdA} {r : Int32} {σ1 : kdM} (hX : kdX E A cX12_digits 3 RX12 (some .int) 0) (k4 : Nat → Int32 → Int32 → kdM → Option (Int32 × kdM)) (hk4 : ∀ (l0 : Nat) (l1 : Int32) (l2 : Int32) (σ : kdM), k4 l0 l1 l2 σ = some (r, σ1) → SW E G (.inl (some (.int r), σ1)) A 3 σ 4 [(0, kr E l0), (1, .int l1), (2, .int l2)] []) {σ : kdM} {l0 : Nat} {l1 : Int32} {l2 : Int32} (h : X12_digits_4B G k4 l0 l1 l2 σ = some (r, σ1)) : SW E G (.inl (some (.int r), σ1)) A 3 σ 4 [(0, kr E l0), (1, .int l1), (2, .int l2)] [] := by
  unfold X12_digits_4B at h
  refine r_iload_n hX dX12_digits_4 rfl 2 rfl ?_
  refine r_aload_n hX dX12_digits_5 rfl 0 rfl ?_
  refine r_gI hX dX12_digits_6 kf_X12_374 rfl h ?_
  clear h; intro t1 h
  refine r_icmp_ge (tgt := 30) hX dX12_digits_9 (by decide) h ?_ ?_
  · clear h; intro h
    refine r_iload_n hX dX12_digits_30 rfl 1 rfl ?_
    exact r_iret hX dX12_digits_31 h
  · clear h; intro h
    refine r_bipush hX dX12_digits_12 kk_b_10 ?_
    refine r_iload_n hX dX12_digits_14 rfl 1 rfl ?_
    refine r_imul hX dX12_digits_15 ?_
    refine r_aload_n hX dX12_digits_16 rfl 0 rfl ?_
    refine r_gR hX dX12_digits_17 kf_X12_160 rfl h ?_
    clear h; intro t2 h
    refine r_iload_n hX dX12_digits_20 rfl 2 rfl ?_
    refine r_aI hX dX12_digits_21 h ?_
    clear h; intro t3 h
    refine r_iadd hX dX12_digits_22 ?_
    refine r_letI h ?_
    clear h; intro t4 h
    refine r_istore_n (L2 := [(1, .int t4), (0, kr E l0), (2, .int l2)]) hX dX12_digits_23 rfl (by decide) rfl ?_
    refine r_iincL (L2 := fun t5 => [(2, .int t5), (1, .int t4), (0, kr E l0)]) hX dX12_digits_24 h 2 rfl (by decide) (fun _ => rfl) ?_
    clear h; intro t5 h
    refine r_goto (tgt := 4) hX dX12_digits_27 (by decide) ?_
    refine r_sub [2, 1, 0] rfl ?_
    exact hk4 _ _ _ _ h
def X12_digits_4 (G : kdS) : Nat → Int32 → Int32 → kdM → Option (Int32 × kdM) := lp (fun _ _ _ _ => none) (X12_digits_4B G) NN
theorem wX12_digits_4 {E : kdE} {G : kdS} {A : kdA} {r : Int32} {σ1 : kdM} (hX : kdX E A cX12_digits 3 RX12 (some .int) 0) : ∀ (l0 : Nat) (l1 : Int32) (l2 : Int32) (σ : kdM), X12_digits_4 G l0 l1 l2 σ = some (r, σ1) → SW E G (.inl (some (.int r), σ1)) A 3 σ 4 [(0, kr E l0), (1, .int l1), (2, .int l2)] [] :=
  lp_ind (Q := fun f => ∀ (l0 : Nat) (l1 : Int32) (l2 : Int32) (σ : kdM), f l0 l1 l2 σ = some (r, σ1) → SW E G (.inl (some (.int r), σ1)) A 3 σ 4 [(0, kr E l0), (1, .int l1), (2, .int l2)] []) (by intros; contradiction) (fun k hk l0 l1 l2 σ h => wX12_digits_4B hX k hk h) NN
def X12_digits (G : kdS) (l0 : Nat) : kdM → Option (Int32 × kdM) :=
  X12_digits_4 G l0 (0 : Int32) (0 : Int32)
set_option maxRecDepth 100000 in
set_option maxHeartbeats 4000000 in
theorem wX12_digits {E : kdE} {G : kdS} {l0 : Nat} {σ : kdM} {r : Int32} {σ1 : kdM} (h : X12_digits G l0 σ = some (r, σ1)) : Con E G yX12_digits cX12_digits 3 (some .int) 0 [kr E l0] σ (some (.int r), σ1) := by
  refine kd_head (own := RX12) rfl (by decide +kernel) (Nat.le_of_ble_eq_true rfl) (fun A hX => ?_)
  show SW E G (.inl (some (.int r), σ1)) A 3 σ 0 [(0, kr E l0)] []
  unfold X12_digits at h
  refine r_iconst hX dX12_digits_0 kk_i_0 ?_
  refine r_istore_n (L2 := [(1, .int (0 : Int32)), (0, kr E l0)]) hX dX12_digits_1 rfl (by decide) rfl ?_
  refine r_iconst hX dX12_digits_2 kk_i_0 ?_
  refine r_istore_n (L2 := [(2, .int (0 : Int32)), (1, .int (0 : Int32)), (0, kr E l0)]) hX dX12_digits_3 rfl (by decide) rfl ?_
  refine r_sub [2, 1, 0] rfl ?_
  exact wX12_digits_4 hX _ _ _ _ h
def X12_costOf_119 (G : kdS) (k4 : Nat → Int32 → Int32 → kdM → Option (Int32 × kdM)) (k35 : Nat → Int32 → Int32 → Int32 → kdM → Option (Int32 × kdM)) (l0 : Nat) (l2 : Int32) (l3 : Int32) (s0 : Int32) (s1 : Int32) : kdM → Option (Int32 × kdM) :=
  ltI ((s0 + s1)) fun t1 =>
  ltI (l3 + Int32.ofInt 1) fun t2 =>
  k35 l0 t1 l2 t2
set_option maxRecDepth 100000 in
set_option maxHeartbeats 4000000 in
theorem wX12_costOf_119 {E : kdE} {G : kdS} {A : kdA} {r : Int32} {σ1 : kdM} (hX : kdX E A cX12_costOf 5 RX12 (some .int) 1) (k4 : Nat → Int32 → Int32 → kdM → Option (Int32 × kdM)) (k35 : Nat → Int32 → Int32 → Int32 → kdM → Option (Int32 × kdM)) (hk4 : ∀ (l0 : Nat) (l1 : Int32) (l2 : Int32) (σ : kdM), k4 l0 l1 l2 σ = some (r, σ1) → SW E G (.inl (some (.int r), σ1)) A 5 σ 4 [(0, kr E l0), (1, .int l1), (2, .int l2)] []) (hk35 : ∀ (l0 : Nat) (l1 : Int32) (l2 : Int32) (l3 : Int32) (σ : kdM), k35 l0 l1 l2 l3 σ = some (r, σ1) → SW E G (.inl (some (.int r), σ1)) A 5 σ 35 [(0, kr E l0), (1, .int l1), (2, .int l2), (3, .int l3)] []) {σ : kdM} {l0 : Nat} {l2 : Int32} {l3 : Int32} {s0 : Int32} {s1 : Int32} (h : X12_costOf_119 G k4 k35 l0 l2 l3 s0 s1 σ = some (r, σ1)) : SW E G (.inl (some (.int r), σ1)) A 5 σ 119 [(0, kr E l0), (2, .int l2), (3, .int l3)] [.int s1, .int s0] := by
  unfold X12_costOf_119 at h
  refine r_iadd hX dX12_costOf_119 ?_
  refine r_letI h ?_
  clear h; intro t1 h
  refine r_istore_n (L2 := [(1, .int t1), (0, kr E l0), (2, .int l2), (3, .int l3)]) hX dX12_costOf_120 rfl (by decide) rfl ?_
  refine r_iincL (L2 := fun t2 => [(3, .int t2), (1, .int t1), (0, kr E l0), (2, .int l2)]) hX dX12_costOf_121 h 3 rfl (by decide) (fun _ => rfl) ?_
  clear h; intro t2 h
  refine r_goto (tgt := 35) hX dX12_costOf_124 (by decide) ?_
  refine r_sub [2, 1, 3, 0] rfl ?_
  exact hk35 _ _ _ _ _ h
def X12_costOf_92 (G : kdS) (k4 : Nat → Int32 → Int32 → kdM → Option (Int32 × kdM)) (k35 : Nat → Int32 → Int32 → Int32 → kdM → Option (Int32 × kdM)) (l0 : Nat) (l1 : Int32) (l2 : Int32) (l3 : Int32) (s0 : Int32) (s1 : Int32) : kdM → Option (Int32 × kdM) :=
  ltI ((s0 + s1)) fun t1 =>
  cnd (l2 = l3)
    (X12_costOf_119 G k4 k35 l0 l2 l3 l1 (0 : Int32))
    (gR G 12 59 l0 fun t2 =>
    aI G t2 ((((7 : Int32) * l2) + l3)) fun t3 =>
    X12_costOf_119 G k4 k35 l0 l2 l3 l1 (t3 * t1))
set_option maxRecDepth 100000 in
set_option maxHeartbeats 4000000 in
theorem wX12_costOf_92 {E : kdE} {G : kdS} {A : kdA} {r : Int32} {σ1 : kdM} (hX : kdX E A cX12_costOf 5 RX12 (some .int) 1) (k4 : Nat → Int32 → Int32 → kdM → Option (Int32 × kdM)) (k35 : Nat → Int32 → Int32 → Int32 → kdM → Option (Int32 × kdM)) (hk4 : ∀ (l0 : Nat) (l1 : Int32) (l2 : Int32) (σ : kdM), k4 l0 l1 l2 σ = some (r, σ1) → SW E G (.inl (some (.int r), σ1)) A 5 σ 4 [(0, kr E l0), (1, .int l1), (2, .int l2)] []) (hk35 : ∀ (l0 : Nat) (l1 : Int32) (l2 : Int32) (l3 : Int32) (σ : kdM), k35 l0 l1 l2 l3 σ = some (r, σ1) → SW E G (.inl (some (.int r), σ1)) A 5 σ 35 [(0, kr E l0), (1, .int l1), (2, .int l2), (3, .int l3)] []) {σ : kdM} {l0 : Nat} {l1 : Int32} {l2 : Int32} {l3 : Int32} {s0 : Int32} {s1 : Int32} (h : X12_costOf_92 G k4 k35 l0 l1 l2 l3 s0 s1 σ = some (r, σ1)) : SW E G (.inl (some (.int r), σ1)) A 5 σ 92 [(0, kr E l0), (1, .int l1), (2, .int l2), (3, .int l3)] [.int s1, .int s0] := by
  unfold X12_costOf_92 at h
  refine r_iadd hX dX12_costOf_92 ?_
  refine r_letI h ?_
  clear h; intro t1 h
  refine r_istore (L2 := [(4, .int t1), (0, kr E l0), (1, .int l1), (2, .int l2), (3, .int l3)]) hX dX12_costOf_93 (by decide) rfl ?_
  refine r_iload_n hX dX12_costOf_95 rfl 2 rfl ?_
  refine r_iload_n hX dX12_costOf_96 rfl 3 rfl ?_
  refine r_iload_n hX dX12_costOf_97 rfl 4 rfl ?_
  refine r_icmp_ne (tgt := 105) hX dX12_costOf_98 (by decide) h ?_ ?_
  · clear h; intro h
    refine r_iconst hX dX12_costOf_101 kk_i_0 ?_
    refine r_goto (tgt := 119) hX dX12_costOf_102 (by decide) ?_
    refine r_sub [1, 3, 4] rfl ?_
    exact wX12_costOf_119 hX k4 k35 hk4 hk35 h
  · clear h; intro h
    refine r_aload_n hX dX12_costOf_105 rfl 1 rfl ?_
    refine r_gR hX dX12_costOf_106 kf_X12_154 rfl h ?_
    clear h; intro t2 h
    refine r_bipush hX dX12_costOf_109 kk_b_7 ?_
    refine r_iload_n hX dX12_costOf_111 rfl 3 rfl ?_
    refine r_imul hX dX12_costOf_112 ?_
    refine r_iload_n hX dX12_costOf_113 rfl 4 rfl ?_
    refine r_iadd hX dX12_costOf_114 ?_
    refine r_aI hX dX12_costOf_115 h ?_
    clear h; intro t3 h
    refine r_iload hX dX12_costOf_116 0 rfl ?_
    refine r_imul hX dX12_costOf_118 ?_
    refine r_sub [1, 3, 4] rfl ?_
    exact wX12_costOf_119 hX k4 k35 hk4 hk35 h
def X12_costOf_35B (G : kdS) (k4 : Nat → Int32 → Int32 → kdM → Option (Int32 × kdM)) (k35 : Nat → Int32 → Int32 → Int32 → kdM → Option (Int32 × kdM)) (l0 : Nat) (l1 : Int32) (l2 : Int32) (l3 : Int32) : kdM → Option (Int32 × kdM) :=
  gI G 12 55 l0 fun t1 =>
  cnd (t1 ≤ l3)
    (ltI (l2 + Int32.ofInt 1) fun t2 =>
    k4 l0 l1 t2)
    (gR G 12 61 l0 fun t3 =>
    aI G t3 (l2) fun t4 =>
    gR G 12 61 l0 fun t5 =>
    aI G t5 (l3) fun t6 =>
    kcl (X12_size G (t4 - t6)) fun t7 =>
    gR G 12 57 l0 fun t8 =>
    gR G 12 61 l0 fun t9 =>
    aI G t9 (l2) fun t10 =>
    aI G t8 (t10) fun t11 =>
    gR G 12 57 l0 fun t12 =>
    gR G 12 61 l0 fun t13 =>
    aI G t13 (l3) fun t14 =>
    aI G t12 (t14) fun t15 =>
    cnd (t11 = t15)
      (gI G 12 60 l0 fun t16 =>
      X12_costOf_92 G k4 k35 l0 l1 l2 l3 t7 t16)
      (X12_costOf_92 G k4 k35 l0 l1 l2 l3 t7 (0 : Int32)))
set_option maxRecDepth 100000 in
set_option maxHeartbeats 4000000 in
theorem wX12_costOf_35B {E : kdE} {G : kdS} {A : kdA} {r : Int32} {σ1 : kdM} (hX : kdX E A cX12_costOf 5 RX12 (some .int) 1) (k4 : Nat → Int32 → Int32 → kdM → Option (Int32 × kdM)) (k35 : Nat → Int32 → Int32 → Int32 → kdM → Option (Int32 × kdM)) (hk4 : ∀ (l0 : Nat) (l1 : Int32) (l2 : Int32) (σ : kdM), k4 l0 l1 l2 σ = some (r, σ1) → SW E G (.inl (some (.int r), σ1)) A 5 σ 4 [(0, kr E l0), (1, .int l1), (2, .int l2)] []) (hk35 : ∀ (l0 : Nat) (l1 : Int32) (l2 : Int32) (l3 : Int32) (σ : kdM), k35 l0 l1 l2 l3 σ = some (r, σ1) → SW E G (.inl (some (.int r), σ1)) A 5 σ 35 [(0, kr E l0), (1, .int l1), (2, .int l2), (3, .int l3)] []) {σ : kdM} {l0 : Nat} {l1 : Int32} {l2 : Int32} {l3 : Int32} (h : X12_costOf_35B G k4 k35 l0 l1 l2 l3 σ = some (r, σ1)) : SW E G (.inl (some (.int r), σ1)) A 5 σ 35 [(0, kr E l0), (1, .int l1), (2, .int l2), (3, .int l3)] [] := by
  unfold X12_costOf_35B at h
  refine r_iload_n hX dX12_costOf_35 rfl 3 rfl ?_
  refine r_aload_n hX dX12_costOf_36 rfl 0 rfl ?_
  refine r_gI hX dX12_costOf_37 kf_X12_374 rfl h ?_
  clear h; intro t1 h
  refine r_icmp_ge (tgt := 127) hX dX12_costOf_40 (by decide) h ?_ ?_
  · clear h; intro h
    refine r_iincL (L2 := fun t2 => [(2, .int t2), (0, kr E l0), (1, .int l1), (3, .int l3)]) hX dX12_costOf_127 h 2 rfl (by decide) (fun _ => rfl) ?_
    clear h; intro t2 h
    refine r_goto (tgt := 4) hX dX12_costOf_130 (by decide) ?_
    refine r_sub [1, 2, 0] rfl ?_
    exact hk4 _ _ _ _ h
  · clear h; intro h
    refine r_aload_n hX dX12_costOf_43 rfl 0 rfl ?_
    refine r_gR hX dX12_costOf_44 kf_X12_160 rfl h ?_
    clear h; intro t3 h
    refine r_iload_n hX dX12_costOf_47 rfl 2 rfl ?_
    refine r_aI hX dX12_costOf_48 h ?_
    clear h; intro t4 h
    refine r_aload_n hX dX12_costOf_49 rfl 0 rfl ?_
    refine r_gR hX dX12_costOf_50 kf_X12_160 rfl h ?_
    clear h; intro t5 h
    refine r_iload_n hX dX12_costOf_53 rfl 3 rfl ?_
    refine r_aI hX dX12_costOf_54 h ?_
    clear h; intro t6 h
    refine r_isub hX dX12_costOf_55 ?_
    refine r_cSi (As := [.int (t4 - t6)]) (st := []) hX dX12_costOf_56 kl_X12_size w_ml_X12_258 w_st_X12_size (by decide) rfl (Nat.le_of_ble_eq_true rfl) rfl kdz0 h (fun r σ1 h => wX12_size h) ?_
    clear h; intro t7 σ h
    refine r_aload_n hX dX12_costOf_59 rfl 0 rfl ?_
    refine r_gR hX dX12_costOf_60 kf_X12_148 rfl h ?_
    clear h; intro t8 h
    refine r_aload_n hX dX12_costOf_63 rfl 0 rfl ?_
    refine r_gR hX dX12_costOf_64 kf_X12_160 rfl h ?_
    clear h; intro t9 h
    refine r_iload_n hX dX12_costOf_67 rfl 2 rfl ?_
    refine r_aI hX dX12_costOf_68 h ?_
    clear h; intro t10 h
    refine r_aI hX dX12_costOf_69 h ?_
    clear h; intro t11 h
    refine r_aload_n hX dX12_costOf_70 rfl 0 rfl ?_
    refine r_gR hX dX12_costOf_71 kf_X12_148 rfl h ?_
    clear h; intro t12 h
    refine r_aload_n hX dX12_costOf_74 rfl 0 rfl ?_
    refine r_gR hX dX12_costOf_75 kf_X12_160 rfl h ?_
    clear h; intro t13 h
    refine r_iload_n hX dX12_costOf_78 rfl 3 rfl ?_
    refine r_aI hX dX12_costOf_79 h ?_
    clear h; intro t14 h
    refine r_aI hX dX12_costOf_80 h ?_
    clear h; intro t15 h
    refine r_icmp_ne (tgt := 91) hX dX12_costOf_81 (by decide) h ?_ ?_
    · clear h; intro h
      refine r_aload_n hX dX12_costOf_84 rfl 0 rfl ?_
      refine r_gI hX dX12_costOf_85 kf_X12_157 rfl h ?_
      clear h; intro t16 h
      refine r_goto (tgt := 92) hX dX12_costOf_88 (by decide) ?_
      refine r_sub [0, 1, 2, 3] rfl ?_
      exact wX12_costOf_92 hX k4 k35 hk4 hk35 h
    · clear h; intro h
      refine r_iconst hX dX12_costOf_91 kk_i_0 ?_
      refine r_sub [0, 1, 2, 3] rfl ?_
      exact wX12_costOf_92 hX k4 k35 hk4 hk35 h
def X12_costOf_35 (G : kdS) (k4 : Nat → Int32 → Int32 → kdM → Option (Int32 × kdM)) : Nat → Int32 → Int32 → Int32 → kdM → Option (Int32 × kdM) := lp (fun _ _ _ _ _ => none) (X12_costOf_35B G k4) NN
theorem wX12_costOf_35 {E : kdE} {G : kdS} {A : kdA} {r : Int32} {σ1 : kdM} (hX : kdX E A cX12_costOf 5 RX12 (some .int) 1) (k4 : Nat → Int32 → Int32 → kdM → Option (Int32 × kdM)) (hk4 : ∀ (l0 : Nat) (l1 : Int32) (l2 : Int32) (σ : kdM), k4 l0 l1 l2 σ = some (r, σ1) → SW E G (.inl (some (.int r), σ1)) A 5 σ 4 [(0, kr E l0), (1, .int l1), (2, .int l2)] []) : ∀ (l0 : Nat) (l1 : Int32) (l2 : Int32) (l3 : Int32) (σ : kdM), X12_costOf_35 G k4 l0 l1 l2 l3 σ = some (r, σ1) → SW E G (.inl (some (.int r), σ1)) A 5 σ 35 [(0, kr E l0), (1, .int l1), (2, .int l2), (3, .int l3)] [] :=
  lp_ind (Q := fun f => ∀ (l0 : Nat) (l1 : Int32) (l2 : Int32) (l3 : Int32) (σ : kdM), f l0 l1 l2 l3 σ = some (r, σ1) → SW E G (.inl (some (.int r), σ1)) A 5 σ 35 [(0, kr E l0), (1, .int l1), (2, .int l2), (3, .int l3)] []) (by intros; contradiction) (fun k hk l0 l1 l2 l3 σ h => wX12_costOf_35B hX k4 k hk4 hk h) NN
def X12_costOf_4B (G : kdS) (k4 : Nat → Int32 → Int32 → kdM → Option (Int32 × kdM)) (l0 : Nat) (l1 : Int32) (l2 : Int32) : kdM → Option (Int32 × kdM) :=
  gI G 12 55 l0 fun t1 =>
  cnd (t1 ≤ l2)
    (rt l1)
    (gR G 12 58 l0 fun t2 =>
    aI G t2 (l2) fun t3 =>
    gR G 12 56 l0 fun t4 =>
    gR G 12 61 l0 fun t5 =>
    aI G t5 (l2) fun t6 =>
    aI G t4 (t6) fun t7 =>
    ltI ((l1 + (t3 * t7))) fun t8 =>
    X12_costOf_35 G k4 l0 t8 l2 (0 : Int32))
set_option maxRecDepth 100000 in
set_option maxHeartbeats 4000000 in
theorem wX12_costOf_4B {E : kdE} {G : kdS} {A : kdA} {r : Int32} {σ1 : kdM} (hX : kdX E A cX12_costOf 5 RX12 (some .int) 1) (k4 : Nat → Int32 → Int32 → kdM → Option (Int32 × kdM)) (hk4 : ∀ (l0 : Nat) (l1 : Int32) (l2 : Int32) (σ : kdM), k4 l0 l1 l2 σ = some (r, σ1) → SW E G (.inl (some (.int r), σ1)) A 5 σ 4 [(0, kr E l0), (1, .int l1), (2, .int l2)] []) {σ : kdM} {l0 : Nat} {l1 : Int32} {l2 : Int32} (h : X12_costOf_4B G k4 l0 l1 l2 σ = some (r, σ1)) : SW E G (.inl (some (.int r), σ1)) A 5 σ 4 [(0, kr E l0), (1, .int l1), (2, .int l2)] [] := by
  unfold X12_costOf_4B at h
  refine r_iload_n hX dX12_costOf_4 rfl 2 rfl ?_
  refine r_aload_n hX dX12_costOf_5 rfl 0 rfl ?_
  refine r_gI hX dX12_costOf_6 kf_X12_374 rfl h ?_
  clear h; intro t1 h
  refine r_icmp_ge (tgt := 133) hX dX12_costOf_9 (by decide) h ?_ ?_
  · clear h; intro h
    refine r_iload_n hX dX12_costOf_133 rfl 1 rfl ?_
    exact r_iret hX dX12_costOf_134 h
  · clear h; intro h
    refine r_iload_n hX dX12_costOf_12 rfl 1 rfl ?_
    refine r_aload_n hX dX12_costOf_13 rfl 0 rfl ?_
    refine r_gR hX dX12_costOf_14 kf_X12_151 rfl h ?_
    clear h; intro t2 h
    refine r_iload_n hX dX12_costOf_17 rfl 2 rfl ?_
    refine r_aI hX dX12_costOf_18 h ?_
    clear h; intro t3 h
    refine r_aload_n hX dX12_costOf_19 rfl 0 rfl ?_
    refine r_gR hX dX12_costOf_20 kf_X12_145 rfl h ?_
    clear h; intro t4 h
    refine r_aload_n hX dX12_costOf_23 rfl 0 rfl ?_
    refine r_gR hX dX12_costOf_24 kf_X12_160 rfl h ?_
    clear h; intro t5 h
    refine r_iload_n hX dX12_costOf_27 rfl 2 rfl ?_
    refine r_aI hX dX12_costOf_28 h ?_
    clear h; intro t6 h
    refine r_aI hX dX12_costOf_29 h ?_
    clear h; intro t7 h
    refine r_imul hX dX12_costOf_30 ?_
    refine r_iadd hX dX12_costOf_31 ?_
    refine r_letI h ?_
    clear h; intro t8 h
    refine r_istore_n (L2 := [(1, .int t8), (0, kr E l0), (2, .int l2)]) hX dX12_costOf_32 rfl (by decide) rfl ?_
    refine r_iconst hX dX12_costOf_33 kk_i_0 ?_
    refine r_istore_n (L2 := [(3, .int (0 : Int32)), (1, .int t8), (0, kr E l0), (2, .int l2)]) hX dX12_costOf_34 rfl (by decide) rfl ?_
    refine r_sub [2, 1, 3, 0] rfl ?_
    exact wX12_costOf_35 hX k4 hk4 _ _ _ _ _ h
def X12_costOf_4 (G : kdS) : Nat → Int32 → Int32 → kdM → Option (Int32 × kdM) := lp (fun _ _ _ _ => none) (X12_costOf_4B G) NN
theorem wX12_costOf_4 {E : kdE} {G : kdS} {A : kdA} {r : Int32} {σ1 : kdM} (hX : kdX E A cX12_costOf 5 RX12 (some .int) 1) : ∀ (l0 : Nat) (l1 : Int32) (l2 : Int32) (σ : kdM), X12_costOf_4 G l0 l1 l2 σ = some (r, σ1) → SW E G (.inl (some (.int r), σ1)) A 5 σ 4 [(0, kr E l0), (1, .int l1), (2, .int l2)] [] :=
  lp_ind (Q := fun f => ∀ (l0 : Nat) (l1 : Int32) (l2 : Int32) (σ : kdM), f l0 l1 l2 σ = some (r, σ1) → SW E G (.inl (some (.int r), σ1)) A 5 σ 4 [(0, kr E l0), (1, .int l1), (2, .int l2)] []) (by intros; contradiction) (fun k hk l0 l1 l2 σ h => wX12_costOf_4B hX k hk h) NN
def X12_costOf (G : kdS) (l0 : Nat) : kdM → Option (Int32 × kdM) :=
  X12_costOf_4 G l0 (0 : Int32) (0 : Int32)
set_option maxRecDepth 100000 in
set_option maxHeartbeats 4000000 in
theorem wX12_costOf {E : kdE} {G : kdS} {l0 : Nat} {σ : kdM} {r : Int32} {σ1 : kdM} (h : X12_costOf G l0 σ = some (r, σ1)) : Con E G yX12_costOf cX12_costOf 5 (some .int) 1 [kr E l0] σ (some (.int r), σ1) := by
  refine kd_head (own := RX12) rfl (by decide +kernel) (Nat.le_of_ble_eq_true rfl) (fun A hX => ?_)
  show SW E G (.inl (some (.int r), σ1)) A 5 σ 0 [(0, kr E l0)] []
  unfold X12_costOf at h
  refine r_iconst hX dX12_costOf_0 kk_i_0 ?_
  refine r_istore_n (L2 := [(1, .int (0 : Int32)), (0, kr E l0)]) hX dX12_costOf_1 rfl (by decide) rfl ?_
  refine r_iconst hX dX12_costOf_2 kk_i_0 ?_
  refine r_istore_n (L2 := [(2, .int (0 : Int32)), (1, .int (0 : Int32)), (0, kr E l0)]) hX dX12_costOf_3 rfl (by decide) rfl ?_
  refine r_sub [2, 1, 0] rfl ?_
  exact wX12_costOf_4 hX _ _ _ _ h
def X12_cost_17 (G : kdS) (s0 : Int32) : kdM → Option (Int32 × kdM) :=
  rt s0
set_option maxRecDepth 100000 in
set_option maxHeartbeats 4000000 in
theorem wX12_cost_17 {E : kdE} {G : kdS} {A : kdA} {r : Int32} {σ1 : kdM} (hX : kdX E A cX12_cost 2 RX12 (some .int) 3) {σ : kdM} {s0 : Int32} (h : X12_cost_17 G s0 σ = some (r, σ1)) : SW E G (.inl (some (.int r), σ1)) A 2 σ 17 [] [.int s0] := by
  unfold X12_cost_17 at h
  exact r_iret hX dX12_cost_17 h
def X12_cost (G : kdS) (l0 : Nat) (l1 : Int32) : kdM → Option (Int32 × kdM) :=
  kcv G 12 l0 (X12_lay G l0 l1) fun t1 =>
  cnd (t1 = 0)
    (X12_cost_17 G (-2 : Int32))
    (kcv G 12 l0 (X12_costOf G l0) fun t2 =>
    X12_cost_17 G t2)
set_option maxRecDepth 100000 in
set_option maxHeartbeats 4000000 in
theorem wX12_cost {E : kdE} {G : kdS} {l0 : Nat} {l1 : Int32} {σ : kdM} {r : Int32} {σ1 : kdM} (h : X12_cost G l0 l1 σ = some (r, σ1)) : Con E G yX12_cost cX12_cost 2 (some .int) 3 [kr E l0, .int l1] σ (some (.int r), σ1) := by
  refine kd_head (own := RX12) rfl (by decide +kernel) (Nat.le_of_ble_eq_true rfl) (fun A hX => ?_)
  show SW E G (.inl (some (.int r), σ1)) A 2 σ 0 [(0, kr E l0), (1, .int l1)] []
  unfold X12_cost at h
  refine r_aload_n hX dX12_cost_0 rfl 0 rfl ?_
  refine r_iload_n hX dX12_cost_1 rfl 1 rfl ?_
  refine r_cVi (As := [.int l1]) (st := []) hX dX12_cost_2 kl_X12_lay w_ml_X12_387 w_im_X12_lay w_se_X12_lay ⟨_, _, rfl⟩ (by decide) rfl (Nat.le_of_ble_eq_true rfl) rfl kdz0 h (fun r σ1 h => wX12_lay h) ?_
  clear h; intro t1 σ h
  refine r_if_eq (tgt := 15) hX dX12_cost_5 (by decide) h ?_ ?_
  · clear h; intro h
    refine r_bipush hX dX12_cost_15 kk_b_m2 ?_
    refine r_sub [] rfl ?_
    exact wX12_cost_17 hX h
  · clear h; intro h
    refine r_aload_n hX dX12_cost_8 rfl 0 rfl ?_
    refine r_cVi (As := []) (st := []) hX dX12_cost_9 kl_X12_costOf w_ml_X12_390 w_im_X12_costOf w_se_X12_costOf ⟨_, _, rfl⟩ (by decide) rfl (Nat.le_of_ble_eq_true rfl) rfl kdz0 h (fun r σ1 h => wX12_costOf h) ?_
    clear h; intro t2 σ h
    refine r_goto (tgt := 17) hX dX12_cost_12 (by decide) ?_
    refine r_sub [] rfl ?_
    exact wX12_cost_17 hX h
def X12_exchange (G : kdS) (l0 : Nat) (l1 : Int32) (l2 : Int32) : kdM → Option (Unit × kdM) :=
  gR G 12 61 l0 fun t1 =>
  aI G t1 (l1) fun t2 =>
  gR G 12 61 l0 fun t3 =>
  gR G 12 61 l0 fun t4 =>
  aI G t4 (l2) fun t5 =>
  tI G t3 (l1) (t5) <|
  gR G 12 61 l0 fun t6 =>
  tI G t6 (l2) (t2) <|
  rt ()
set_option maxRecDepth 100000 in
set_option maxHeartbeats 4000000 in
theorem wX12_exchange {E : kdE} {G : kdS} {l0 : Nat} {l1 : Int32} {l2 : Int32} {σ : kdM} {r : Unit} {σ1 : kdM} (h : X12_exchange G l0 l1 l2 σ = some (r, σ1)) : Con E G yX12_exchange cX12_exchange 4 none 0 [kr E l0, .int l1, .int l2] σ (none, σ1) := by
  refine kd_head (own := RX12) rfl (by decide +kernel) (Nat.le_of_ble_eq_true rfl) (fun A hX => ?_)
  show SW E G (.inl (none, σ1)) A 4 σ 0 [(0, kr E l0), (1, .int l1), (2, .int l2)] []
  unfold X12_exchange at h
  refine r_aload_n hX dX12_exchange_0 rfl 0 rfl ?_
  refine r_gR hX dX12_exchange_1 kf_X12_160 rfl h ?_
  clear h; intro t1 h
  refine r_iload_n hX dX12_exchange_4 rfl 1 rfl ?_
  refine r_aI hX dX12_exchange_5 h ?_
  clear h; intro t2 h
  refine r_istore_n (L2 := [(3, .int t2), (0, kr E l0), (1, .int l1), (2, .int l2)]) hX dX12_exchange_6 rfl (by decide) rfl ?_
  refine r_aload_n hX dX12_exchange_7 rfl 1 rfl ?_
  refine r_gR hX dX12_exchange_8 kf_X12_160 rfl h ?_
  clear h; intro t3 h
  refine r_iload_n hX dX12_exchange_11 rfl 2 rfl ?_
  refine r_aload_n hX dX12_exchange_12 rfl 1 rfl ?_
  refine r_gR hX dX12_exchange_13 kf_X12_160 rfl h ?_
  clear h; intro t4 h
  refine r_iload_n hX dX12_exchange_16 rfl 3 rfl ?_
  refine r_aI hX dX12_exchange_17 h ?_
  clear h; intro t5 h
  refine r_tI hX dX12_exchange_18 h ?_
  clear h; intro σ h
  refine r_aload_n hX dX12_exchange_19 rfl 1 rfl ?_
  refine r_gR hX dX12_exchange_20 kf_X12_160 rfl h ?_
  clear h; intro t6 h
  refine r_iload_n hX dX12_exchange_23 rfl 3 rfl ?_
  refine r_iload_n hX dX12_exchange_24 rfl 0 rfl ?_
  refine r_tI hX dX12_exchange_25 h ?_
  clear h; intro σ h
  exact r_vret hX dX12_exchange_26 h
def X12_next_86B (G : kdS) (k86 : Nat → Int32 → Int32 → kdM → Option (Int32 × kdM)) (l0 : Nat) (l3 : Int32) (l4 : Int32) : kdM → Option (Int32 × kdM) :=
  cnd (l4 ≤ l3)
    (rt (vp_nar .boolean (1 : Int32)))
    (kcv G 12 l0 (X12_exchange G l0 l3 l4) fun _ =>
    ltI (l3 + Int32.ofInt 1) fun t1 =>
    ltI (l4 + Int32.ofInt (-1)) fun t2 =>
    k86 l0 t1 t2)
set_option maxRecDepth 100000 in
set_option maxHeartbeats 4000000 in
theorem wX12_next_86B {E : kdE} {G : kdS} {A : kdA} {r : Int32} {σ1 : kdM} (hX : kdX E A cX12_next 5 RX12 (some .boolean) 1) (k86 : Nat → Int32 → Int32 → kdM → Option (Int32 × kdM)) (hk86 : ∀ (l0 : Nat) (l3 : Int32) (l4 : Int32) (σ : kdM), k86 l0 l3 l4 σ = some (r, σ1) → SW E G (.inl (some (.int r), σ1)) A 5 σ 86 [(0, kr E l0), (3, .int l3), (4, .int l4)] []) {σ : kdM} {l0 : Nat} {l3 : Int32} {l4 : Int32} (h : X12_next_86B G k86 l0 l3 l4 σ = some (r, σ1)) : SW E G (.inl (some (.int r), σ1)) A 5 σ 86 [(0, kr E l0), (3, .int l3), (4, .int l4)] [] := by
  unfold X12_next_86B at h
  refine r_iload_n hX dX12_next_86 rfl 1 rfl ?_
  refine r_iload hX dX12_next_87 2 rfl ?_
  refine r_icmp_ge (tgt := 108) hX dX12_next_89 (by decide) h ?_ ?_
  · clear h; intro h
    refine r_iconst hX dX12_next_108 kk_i_1 ?_
    exact r_zret hX dX12_next_109 h
  · clear h; intro h
    refine r_aload_n hX dX12_next_92 rfl 0 rfl ?_
    refine r_iload_n hX dX12_next_93 rfl 1 rfl ?_
    refine r_iload hX dX12_next_94 2 rfl ?_
    refine r_cVv (As := [.int l3, .int l4]) (st := []) hX dX12_next_96 kl_X12_exchange w_ml_X12_394 w_im_X12_exchange w_se_X12_exchange ⟨_, _, rfl⟩ (by decide) rfl (Nat.le_of_ble_eq_true rfl) rfl kdz0 h (fun r σ1 h => wX12_exchange h) ?_
    clear h; intro u σ h
    refine r_iincL (L2 := fun t1 => [(3, .int t1), (0, kr E l0), (4, .int l4)]) hX dX12_next_99 h 1 rfl (by decide) (fun _ => rfl) ?_
    clear h; intro t1 h
    refine r_iincL (L2 := fun t2 => [(4, .int t2), (3, .int t1), (0, kr E l0)]) hX dX12_next_102 h 2 rfl (by decide) (fun _ => rfl) ?_
    clear h; intro t2 h
    refine r_goto (tgt := 86) hX dX12_next_105 (by decide) ?_
    refine r_sub [2, 1, 0] rfl ?_
    exact hk86 _ _ _ _ h
def X12_next_86 (G : kdS) : Nat → Int32 → Int32 → kdM → Option (Int32 × kdM) := lp (fun _ _ _ _ => none) (X12_next_86B G) NN
theorem wX12_next_86 {E : kdE} {G : kdS} {A : kdA} {r : Int32} {σ1 : kdM} (hX : kdX E A cX12_next 5 RX12 (some .boolean) 1) : ∀ (l0 : Nat) (l3 : Int32) (l4 : Int32) (σ : kdM), X12_next_86 G l0 l3 l4 σ = some (r, σ1) → SW E G (.inl (some (.int r), σ1)) A 5 σ 86 [(0, kr E l0), (3, .int l3), (4, .int l4)] [] :=
  lp_ind (Q := fun f => ∀ (l0 : Nat) (l3 : Int32) (l4 : Int32) (σ : kdM), f l0 l3 l4 σ = some (r, σ1) → SW E G (.inl (some (.int r), σ1)) A 5 σ 86 [(0, kr E l0), (3, .int l3), (4, .int l4)] []) (by intros; contradiction) (fun k hk l0 l3 l4 σ h => wX12_next_86B hX k hk h) NN
def X12_next_47B (G : kdS) (k47 : Nat → Int32 → Int32 → kdM → Option (Int32 × kdM)) (l0 : Nat) (l1 : Int32) (l2 : Int32) : kdM → Option (Int32 × kdM) :=
  gR G 12 61 l0 fun t1 =>
  aI G t1 (l2) fun t2 =>
  gR G 12 61 l0 fun t3 =>
  aI G t3 (l1) fun t4 =>
  cnd (t4 ≤ t2)
    (kcv G 12 l0 (X12_exchange G l0 l1 l2) fun _ =>
    ltI ((l1 + (1 : Int32))) fun t5 =>
    gI G 12 55 l0 fun t6 =>
    ltI ((t6 - (1 : Int32))) fun t7 =>
    X12_next_86 G l0 t5 t7)
    (ltI (l2 + Int32.ofInt (-1)) fun t8 =>
    k47 l0 l1 t8)
set_option maxRecDepth 100000 in
set_option maxHeartbeats 4000000 in
theorem wX12_next_47B {E : kdE} {G : kdS} {A : kdA} {r : Int32} {σ1 : kdM} (hX : kdX E A cX12_next 5 RX12 (some .boolean) 1) (k47 : Nat → Int32 → Int32 → kdM → Option (Int32 × kdM)) (hk47 : ∀ (l0 : Nat) (l1 : Int32) (l2 : Int32) (σ : kdM), k47 l0 l1 l2 σ = some (r, σ1) → SW E G (.inl (some (.int r), σ1)) A 5 σ 47 [(0, kr E l0), (1, .int l1), (2, .int l2)] []) {σ : kdM} {l0 : Nat} {l1 : Int32} {l2 : Int32} (h : X12_next_47B G k47 l0 l1 l2 σ = some (r, σ1)) : SW E G (.inl (some (.int r), σ1)) A 5 σ 47 [(0, kr E l0), (1, .int l1), (2, .int l2)] [] := by
  unfold X12_next_47B at h
  refine r_aload_n hX dX12_next_47 rfl 0 rfl ?_
  refine r_gR hX dX12_next_48 kf_X12_160 rfl h ?_
  clear h; intro t1 h
  refine r_iload_n hX dX12_next_51 rfl 2 rfl ?_
  refine r_aI hX dX12_next_52 h ?_
  clear h; intro t2 h
  refine r_aload_n hX dX12_next_53 rfl 0 rfl ?_
  refine r_gR hX dX12_next_54 kf_X12_160 rfl h ?_
  clear h; intro t3 h
  refine r_iload_n hX dX12_next_57 rfl 1 rfl ?_
  refine r_aI hX dX12_next_58 h ?_
  clear h; intro t4 h
  refine r_icmp_ge (tgt := 68) hX dX12_next_59 (by decide) h ?_ ?_
  · clear h; intro h
    refine r_aload_n hX dX12_next_68 rfl 0 rfl ?_
    refine r_iload_n hX dX12_next_69 rfl 1 rfl ?_
    refine r_iload_n hX dX12_next_70 rfl 2 rfl ?_
    refine r_cVv (As := [.int l1, .int l2]) (st := []) hX dX12_next_71 kl_X12_exchange w_ml_X12_394 w_im_X12_exchange w_se_X12_exchange ⟨_, _, rfl⟩ (by decide) rfl (Nat.le_of_ble_eq_true rfl) rfl kdz0 h (fun r σ1 h => wX12_exchange h) ?_
    clear h; intro u σ h
    refine r_iload_n hX dX12_next_74 rfl 1 rfl ?_
    refine r_iconst hX dX12_next_75 kk_i_1 ?_
    refine r_iadd hX dX12_next_76 ?_
    refine r_letI h ?_
    clear h; intro t5 h
    refine r_istore_n (L2 := [(3, .int t5), (0, kr E l0), (1, .int l1), (2, .int l2)]) hX dX12_next_77 rfl (by decide) rfl ?_
    refine r_aload_n hX dX12_next_78 rfl 1 rfl ?_
    refine r_gI hX dX12_next_79 kf_X12_374 rfl h ?_
    clear h; intro t6 h
    refine r_iconst hX dX12_next_82 kk_i_1 ?_
    refine r_isub hX dX12_next_83 ?_
    refine r_letI h ?_
    clear h; intro t7 h
    refine r_istore (L2 := [(4, .int t7), (3, .int t5), (0, kr E l0), (1, .int l1), (2, .int l2)]) hX dX12_next_84 (by decide) rfl ?_
    refine r_sub [2, 1, 0] rfl ?_
    exact wX12_next_86 hX _ _ _ _ h
  · clear h; intro h
    refine r_iincL (L2 := fun t8 => [(2, .int t8), (0, kr E l0), (1, .int l1)]) hX dX12_next_62 h 2 rfl (by decide) (fun _ => rfl) ?_
    clear h; intro t8 h
    refine r_goto (tgt := 47) hX dX12_next_65 (by decide) ?_
    refine r_sub [1, 2, 0] rfl ?_
    exact hk47 _ _ _ _ h
def X12_next_47 (G : kdS) : Nat → Int32 → Int32 → kdM → Option (Int32 × kdM) := lp (fun _ _ _ _ => none) (X12_next_47B G) NN
theorem wX12_next_47 {E : kdE} {G : kdS} {A : kdA} {r : Int32} {σ1 : kdM} (hX : kdX E A cX12_next 5 RX12 (some .boolean) 1) : ∀ (l0 : Nat) (l1 : Int32) (l2 : Int32) (σ : kdM), X12_next_47 G l0 l1 l2 σ = some (r, σ1) → SW E G (.inl (some (.int r), σ1)) A 5 σ 47 [(0, kr E l0), (1, .int l1), (2, .int l2)] [] :=
  lp_ind (Q := fun f => ∀ (l0 : Nat) (l1 : Int32) (l2 : Int32) (σ : kdM), f l0 l1 l2 σ = some (r, σ1) → SW E G (.inl (some (.int r), σ1)) A 5 σ 47 [(0, kr E l0), (1, .int l1), (2, .int l2)] []) (by intros; contradiction) (fun k hk l0 l1 l2 σ h => wX12_next_47B hX k hk h) NN
def X12_next_34 (G : kdS) (l0 : Nat) (l1 : Int32) : kdM → Option (Int32 × kdM) :=
  cnd (0 ≤ l1)
    (gI G 12 55 l0 fun t1 =>
    ltI ((t1 - (1 : Int32))) fun t2 =>
    X12_next_47 G l0 l1 t2)
    (rt (vp_nar .boolean (0 : Int32)))
set_option maxRecDepth 100000 in
set_option maxHeartbeats 4000000 in
theorem wX12_next_34 {E : kdE} {G : kdS} {A : kdA} {r : Int32} {σ1 : kdM} (hX : kdX E A cX12_next 5 RX12 (some .boolean) 1) {σ : kdM} {l0 : Nat} {l1 : Int32} (h : X12_next_34 G l0 l1 σ = some (r, σ1)) : SW E G (.inl (some (.int r), σ1)) A 5 σ 34 [(0, kr E l0), (1, .int l1)] [] := by
  unfold X12_next_34 at h
  refine r_iload_n hX dX12_next_34 rfl 1 rfl ?_
  refine r_if_ge (tgt := 40) hX dX12_next_35 (by decide) h ?_ ?_
  · clear h; intro h
    refine r_aload_n hX dX12_next_40 rfl 0 rfl ?_
    refine r_gI hX dX12_next_41 kf_X12_374 rfl h ?_
    clear h; intro t1 h
    refine r_iconst hX dX12_next_44 kk_i_1 ?_
    refine r_isub hX dX12_next_45 ?_
    refine r_letI h ?_
    clear h; intro t2 h
    refine r_istore_n (L2 := [(2, .int t2), (0, kr E l0), (1, .int l1)]) hX dX12_next_46 rfl (by decide) rfl ?_
    refine r_sub [1, 2, 0] rfl ?_
    exact wX12_next_47 hX _ _ _ _ h
  · clear h; intro h
    refine r_iconst hX dX12_next_38 kk_i_0 ?_
    exact r_zret hX dX12_next_39 h
def X12_next_7B (G : kdS) (k7 : Nat → Int32 → kdM → Option (Int32 × kdM)) (l0 : Nat) (l1 : Int32) : kdM → Option (Int32 × kdM) :=
  cnd (l1 < 0)
    (X12_next_34 G l0 l1)
    (gR G 12 61 l0 fun t1 =>
    aI G t1 (l1) fun t2 =>
    gR G 12 61 l0 fun t3 =>
    aI G t3 ((l1 + (1 : Int32))) fun t4 =>
    cnd (t2 ≤ t4)
      (X12_next_34 G l0 l1)
      (ltI (l1 + Int32.ofInt (-1)) fun t5 =>
      k7 l0 t5))
set_option maxRecDepth 100000 in
set_option maxHeartbeats 4000000 in
theorem wX12_next_7B {E : kdE} {G : kdS} {A : kdA} {r : Int32} {σ1 : kdM} (hX : kdX E A cX12_next 5 RX12 (some .boolean) 1) (k7 : Nat → Int32 → kdM → Option (Int32 × kdM)) (hk7 : ∀ (l0 : Nat) (l1 : Int32) (σ : kdM), k7 l0 l1 σ = some (r, σ1) → SW E G (.inl (some (.int r), σ1)) A 5 σ 7 [(0, kr E l0), (1, .int l1)] []) {σ : kdM} {l0 : Nat} {l1 : Int32} (h : X12_next_7B G k7 l0 l1 σ = some (r, σ1)) : SW E G (.inl (some (.int r), σ1)) A 5 σ 7 [(0, kr E l0), (1, .int l1)] [] := by
  unfold X12_next_7B at h
  refine r_iload_n hX dX12_next_7 rfl 1 rfl ?_
  refine r_if_lt (tgt := 34) hX dX12_next_8 (by decide) h ?_ ?_
  · clear h; intro h
    refine r_sub [0, 1] rfl ?_
    exact wX12_next_34 hX h
  · clear h; intro h
    refine r_aload_n hX dX12_next_11 rfl 0 rfl ?_
    refine r_gR hX dX12_next_12 kf_X12_160 rfl h ?_
    clear h; intro t1 h
    refine r_iload_n hX dX12_next_15 rfl 1 rfl ?_
    refine r_aI hX dX12_next_16 h ?_
    clear h; intro t2 h
    refine r_aload_n hX dX12_next_17 rfl 0 rfl ?_
    refine r_gR hX dX12_next_18 kf_X12_160 rfl h ?_
    clear h; intro t3 h
    refine r_iload_n hX dX12_next_21 rfl 1 rfl ?_
    refine r_iconst hX dX12_next_22 kk_i_1 ?_
    refine r_iadd hX dX12_next_23 ?_
    refine r_aI hX dX12_next_24 h ?_
    clear h; intro t4 h
    refine r_icmp_le (tgt := 34) hX dX12_next_25 (by decide) h ?_ ?_
    · clear h; intro h
      refine r_sub [0, 1] rfl ?_
      exact wX12_next_34 hX h
    · clear h; intro h
      refine r_iincL (L2 := fun t5 => [(1, .int t5), (0, kr E l0)]) hX dX12_next_28 h 1 rfl (by decide) (fun _ => rfl) ?_
      clear h; intro t5 h
      refine r_goto (tgt := 7) hX dX12_next_31 (by decide) ?_
      refine r_sub [1, 0] rfl ?_
      exact hk7 _ _ _ h
def X12_next_7 (G : kdS) : Nat → Int32 → kdM → Option (Int32 × kdM) := lp (fun _ _ _ => none) (X12_next_7B G) NN
theorem wX12_next_7 {E : kdE} {G : kdS} {A : kdA} {r : Int32} {σ1 : kdM} (hX : kdX E A cX12_next 5 RX12 (some .boolean) 1) : ∀ (l0 : Nat) (l1 : Int32) (σ : kdM), X12_next_7 G l0 l1 σ = some (r, σ1) → SW E G (.inl (some (.int r), σ1)) A 5 σ 7 [(0, kr E l0), (1, .int l1)] [] :=
  lp_ind (Q := fun f => ∀ (l0 : Nat) (l1 : Int32) (σ : kdM), f l0 l1 σ = some (r, σ1) → SW E G (.inl (some (.int r), σ1)) A 5 σ 7 [(0, kr E l0), (1, .int l1)] []) (by intros; contradiction) (fun k hk l0 l1 σ h => wX12_next_7B hX k hk h) NN
def X12_next (G : kdS) (l0 : Nat) : kdM → Option (Int32 × kdM) :=
  gI G 12 55 l0 fun t1 =>
  ltI ((t1 - (2 : Int32))) fun t2 =>
  X12_next_7 G l0 t2
set_option maxRecDepth 100000 in
set_option maxHeartbeats 4000000 in
theorem wX12_next {E : kdE} {G : kdS} {l0 : Nat} {σ : kdM} {r : Int32} {σ1 : kdM} (h : X12_next G l0 σ = some (r, σ1)) : Con E G yX12_next cX12_next 5 (some .boolean) 1 [kr E l0] σ (some (.int r), σ1) := by
  refine kd_head (own := RX12) rfl (by decide +kernel) (Nat.le_of_ble_eq_true rfl) (fun A hX => ?_)
  show SW E G (.inl (some (.int r), σ1)) A 5 σ 0 [(0, kr E l0)] []
  unfold X12_next at h
  refine r_aload_n hX dX12_next_0 rfl 0 rfl ?_
  refine r_gI hX dX12_next_1 kf_X12_374 rfl h ?_
  clear h; intro t1 h
  refine r_iconst hX dX12_next_4 kk_i_2 ?_
  refine r_isub hX dX12_next_5 ?_
  refine r_letI h ?_
  clear h; intro t2 h
  refine r_istore_n (L2 := [(1, .int t2), (0, kr E l0)]) hX dX12_next_6 rfl (by decide) rfl ?_
  refine r_sub [1, 0] rfl ?_
  exact wX12_next_7 hX _ _ _ h
def X12_layFirst_2B (G : kdS) (k2 : Nat → Int32 → kdM → Option (Unit × kdM)) (l0 : Nat) (l1 : Int32) : kdM → Option (Unit × kdM) :=
  gI G 12 55 l0 fun t1 =>
  cnd (t1 ≤ l1)
    (rt ())
    (gR G 12 61 l0 fun t2 =>
    tI G t2 (l1) (l1) <|
    ltI (l1 + Int32.ofInt 1) fun t3 =>
    k2 l0 t3)
set_option maxRecDepth 100000 in
set_option maxHeartbeats 4000000 in
theorem wX12_layFirst_2B {E : kdE} {G : kdS} {A : kdA} {r : Unit} {σ1 : kdM} (hX : kdX E A cX12_layFirst 2 RX12 none 0) (k2 : Nat → Int32 → kdM → Option (Unit × kdM)) (hk2 : ∀ (l0 : Nat) (l1 : Int32) (σ : kdM), k2 l0 l1 σ = some (r, σ1) → SW E G (.inl (none, σ1)) A 2 σ 2 [(0, kr E l0), (1, .int l1)] []) {σ : kdM} {l0 : Nat} {l1 : Int32} (h : X12_layFirst_2B G k2 l0 l1 σ = some (r, σ1)) : SW E G (.inl (none, σ1)) A 2 σ 2 [(0, kr E l0), (1, .int l1)] [] := by
  unfold X12_layFirst_2B at h
  refine r_iload_n hX dX12_layFirst_2 rfl 1 rfl ?_
  refine r_aload_n hX dX12_layFirst_3 rfl 0 rfl ?_
  refine r_gI hX dX12_layFirst_4 kf_X12_374 rfl h ?_
  clear h; intro t1 h
  refine r_icmp_ge (tgt := 23) hX dX12_layFirst_7 (by decide) h ?_ ?_
  · clear h; intro h
    exact r_vret hX dX12_layFirst_23 h
  · clear h; intro h
    refine r_aload_n hX dX12_layFirst_10 rfl 0 rfl ?_
    refine r_gR hX dX12_layFirst_11 kf_X12_160 rfl h ?_
    clear h; intro t2 h
    refine r_iload_n hX dX12_layFirst_14 rfl 1 rfl ?_
    refine r_iload_n hX dX12_layFirst_15 rfl 1 rfl ?_
    refine r_tI hX dX12_layFirst_16 h ?_
    clear h; intro σ h
    refine r_iincL (L2 := fun t3 => [(1, .int t3), (0, kr E l0)]) hX dX12_layFirst_17 h 1 rfl (by decide) (fun _ => rfl) ?_
    clear h; intro t3 h
    refine r_goto (tgt := 2) hX dX12_layFirst_20 (by decide) ?_
    refine r_sub [1, 0] rfl ?_
    exact hk2 _ _ _ h
def X12_layFirst_2 (G : kdS) : Nat → Int32 → kdM → Option (Unit × kdM) := lp (fun _ _ _ => none) (X12_layFirst_2B G) NN
theorem wX12_layFirst_2 {E : kdE} {G : kdS} {A : kdA} {r : Unit} {σ1 : kdM} (hX : kdX E A cX12_layFirst 2 RX12 none 0) : ∀ (l0 : Nat) (l1 : Int32) (σ : kdM), X12_layFirst_2 G l0 l1 σ = some (r, σ1) → SW E G (.inl (none, σ1)) A 2 σ 2 [(0, kr E l0), (1, .int l1)] [] :=
  lp_ind (Q := fun f => ∀ (l0 : Nat) (l1 : Int32) (σ : kdM), f l0 l1 σ = some (r, σ1) → SW E G (.inl (none, σ1)) A 2 σ 2 [(0, kr E l0), (1, .int l1)] []) (by intros; contradiction) (fun k hk l0 l1 σ h => wX12_layFirst_2B hX k hk h) NN
def X12_layFirst (G : kdS) (l0 : Nat) : kdM → Option (Unit × kdM) :=
  X12_layFirst_2 G l0 (0 : Int32)
set_option maxRecDepth 100000 in
set_option maxHeartbeats 4000000 in
theorem wX12_layFirst {E : kdE} {G : kdS} {l0 : Nat} {σ : kdM} {r : Unit} {σ1 : kdM} (h : X12_layFirst G l0 σ = some (r, σ1)) : Con E G yX12_layFirst cX12_layFirst 2 none 0 [kr E l0] σ (none, σ1) := by
  refine kd_head (own := RX12) rfl (by decide +kernel) (Nat.le_of_ble_eq_true rfl) (fun A hX => ?_)
  show SW E G (.inl (none, σ1)) A 2 σ 0 [(0, kr E l0)] []
  unfold X12_layFirst at h
  refine r_iconst hX dX12_layFirst_0 kk_i_0 ?_
  refine r_istore_n (L2 := [(1, .int (0 : Int32)), (0, kr E l0)]) hX dX12_layFirst_1 rfl (by decide) rfl ?_
  refine r_sub [1, 0] rfl ?_
  exact wX12_layFirst_2 hX _ _ _ h
def X12_best_14B (G : kdS) (k14 : Nat → Int32 → Int32 → kdM → Option (Int32 × kdM)) (l0 : Nat) (l1 : Int32) (l2 : Int32) : kdM → Option (Int32 × kdM) :=
  kcv G 12 l0 (X12_next G l0) fun t1 =>
  cnd (t1 = 0)
    (rt l2)
    (kcv G 12 l0 (X12_costOf G l0) fun t2 =>
    cnd (l1 ≤ t2)
      (k14 l0 l1 l2)
      (kcv G 12 l0 (X12_costOf G l0) fun t3 =>
      kcv G 12 l0 (X12_digits G l0) fun t4 =>
      k14 l0 t3 t4))
set_option maxRecDepth 100000 in
set_option maxHeartbeats 4000000 in
theorem wX12_best_14B {E : kdE} {G : kdS} {A : kdA} {r : Int32} {σ1 : kdM} (hX : kdX E A cX12_best 3 RX12 (some .int) 2) (k14 : Nat → Int32 → Int32 → kdM → Option (Int32 × kdM)) (hk14 : ∀ (l0 : Nat) (l1 : Int32) (l2 : Int32) (σ : kdM), k14 l0 l1 l2 σ = some (r, σ1) → SW E G (.inl (some (.int r), σ1)) A 3 σ 14 [(0, kr E l0), (1, .int l1), (2, .int l2)] []) {σ : kdM} {l0 : Nat} {l1 : Int32} {l2 : Int32} (h : X12_best_14B G k14 l0 l1 l2 σ = some (r, σ1)) : SW E G (.inl (some (.int r), σ1)) A 3 σ 14 [(0, kr E l0), (1, .int l1), (2, .int l2)] [] := by
  unfold X12_best_14B at h
  refine r_aload_n hX dX12_best_14 rfl 0 rfl ?_
  refine r_cVi (As := []) (st := []) hX dX12_best_15 kl_X12_next w_ml_X12_404 w_im_X12_next w_se_X12_next ⟨_, _, rfl⟩ (by decide) rfl (Nat.le_of_ble_eq_true rfl) rfl kdz0 h (fun r σ1 h => wX12_next h) ?_
  clear h; intro t1 σ h
  refine r_if_eq (tgt := 42) hX dX12_best_18 (by decide) h ?_ ?_
  · clear h; intro h
    refine r_iload_n hX dX12_best_42 rfl 2 rfl ?_
    exact r_iret hX dX12_best_43 h
  · clear h; intro h
    refine r_aload_n hX dX12_best_21 rfl 0 rfl ?_
    refine r_cVi (As := []) (st := []) hX dX12_best_22 kl_X12_costOf w_ml_X12_390 w_im_X12_costOf w_se_X12_costOf ⟨_, _, rfl⟩ (by decide) rfl (Nat.le_of_ble_eq_true rfl) rfl kdz0 h (fun r σ1 h => wX12_costOf h) ?_
    clear h; intro t2 σ h
    refine r_iload_n hX dX12_best_25 rfl 1 rfl ?_
    refine r_icmp_ge (tgt := 14) hX dX12_best_26 (by decide) h ?_ ?_
    · clear h; intro h
      refine r_sub [0, 1, 2] rfl ?_
      exact hk14 _ _ _ _ h
    · clear h; intro h
      refine r_aload_n hX dX12_best_29 rfl 0 rfl ?_
      refine r_cVi (As := []) (st := []) hX dX12_best_30 kl_X12_costOf w_ml_X12_390 w_im_X12_costOf w_se_X12_costOf ⟨_, _, rfl⟩ (by decide) rfl (Nat.le_of_ble_eq_true rfl) rfl kdz0 h (fun r σ1 h => wX12_costOf h) ?_
      clear h; intro t3 σ h
      refine r_istore_n (L2 := [(1, .int t3), (0, kr E l0), (2, .int l2)]) hX dX12_best_33 rfl (by decide) rfl ?_
      refine r_aload_n hX dX12_best_34 rfl 1 rfl ?_
      refine r_cVi (As := []) (st := []) hX dX12_best_35 kl_X12_digits w_ml_X12_401 w_im_X12_digits w_se_X12_digits ⟨_, _, rfl⟩ (by decide) rfl (Nat.le_of_ble_eq_true rfl) rfl kdz0 h (fun r σ1 h => wX12_digits h) ?_
      clear h; intro t4 σ h
      refine r_istore_n (L2 := [(2, .int t4), (1, .int t3), (0, kr E l0)]) hX dX12_best_38 rfl (by decide) rfl ?_
      refine r_goto (tgt := 14) hX dX12_best_39 (by decide) ?_
      refine r_sub [2, 1, 0] rfl ?_
      exact hk14 _ _ _ _ h
def X12_best_14 (G : kdS) : Nat → Int32 → Int32 → kdM → Option (Int32 × kdM) := lp (fun _ _ _ _ => none) (X12_best_14B G) NN
theorem wX12_best_14 {E : kdE} {G : kdS} {A : kdA} {r : Int32} {σ1 : kdM} (hX : kdX E A cX12_best 3 RX12 (some .int) 2) : ∀ (l0 : Nat) (l1 : Int32) (l2 : Int32) (σ : kdM), X12_best_14 G l0 l1 l2 σ = some (r, σ1) → SW E G (.inl (some (.int r), σ1)) A 3 σ 14 [(0, kr E l0), (1, .int l1), (2, .int l2)] [] :=
  lp_ind (Q := fun f => ∀ (l0 : Nat) (l1 : Int32) (l2 : Int32) (σ : kdM), f l0 l1 l2 σ = some (r, σ1) → SW E G (.inl (some (.int r), σ1)) A 3 σ 14 [(0, kr E l0), (1, .int l1), (2, .int l2)] []) (by intros; contradiction) (fun k hk l0 l1 l2 σ h => wX12_best_14B hX k hk h) NN
def X12_best (G : kdS) (l0 : Nat) : kdM → Option (Int32 × kdM) :=
  kcv G 12 l0 (X12_layFirst G l0) fun _ =>
  kcv G 12 l0 (X12_costOf G l0) fun t1 =>
  kcv G 12 l0 (X12_digits G l0) fun t2 =>
  X12_best_14 G l0 t1 t2
set_option maxRecDepth 100000 in
set_option maxHeartbeats 4000000 in
theorem wX12_best {E : kdE} {G : kdS} {l0 : Nat} {σ : kdM} {r : Int32} {σ1 : kdM} (h : X12_best G l0 σ = some (r, σ1)) : Con E G yX12_best cX12_best 3 (some .int) 2 [kr E l0] σ (some (.int r), σ1) := by
  refine kd_head (own := RX12) rfl (by decide +kernel) (Nat.le_of_ble_eq_true rfl) (fun A hX => ?_)
  show SW E G (.inl (some (.int r), σ1)) A 3 σ 0 [(0, kr E l0)] []
  unfold X12_best at h
  refine r_aload_n hX dX12_best_0 rfl 0 rfl ?_
  refine r_cVv (As := []) (st := []) hX dX12_best_1 kl_X12_layFirst w_ml_X12_398 w_im_X12_layFirst w_se_X12_layFirst ⟨_, _, rfl⟩ (by decide) rfl (Nat.le_of_ble_eq_true rfl) rfl kdz0 h (fun r σ1 h => wX12_layFirst h) ?_
  clear h; intro u σ h
  refine r_aload_n hX dX12_best_4 rfl 0 rfl ?_
  refine r_cVi (As := []) (st := []) hX dX12_best_5 kl_X12_costOf w_ml_X12_390 w_im_X12_costOf w_se_X12_costOf ⟨_, _, rfl⟩ (by decide) rfl (Nat.le_of_ble_eq_true rfl) rfl kdz0 h (fun r σ1 h => wX12_costOf h) ?_
  clear h; intro t1 σ h
  refine r_istore_n (L2 := [(1, .int t1), (0, kr E l0)]) hX dX12_best_8 rfl (by decide) rfl ?_
  refine r_aload_n hX dX12_best_9 rfl 1 rfl ?_
  refine r_cVi (As := []) (st := []) hX dX12_best_10 kl_X12_digits w_ml_X12_401 w_im_X12_digits w_se_X12_digits ⟨_, _, rfl⟩ (by decide) rfl (Nat.le_of_ble_eq_true rfl) rfl kdz0 h (fun r σ1 h => wX12_digits h) ?_
  clear h; intro t2 σ h
  refine r_istore_n (L2 := [(2, .int t2), (1, .int t1), (0, kr E l0)]) hX dX12_best_13 rfl (by decide) rfl ?_
  refine r_sub [2, 1, 0] rfl ?_
  exact wX12_best_14 hX _ _ _ _ h
def X12_bound_114 (G : kdS) (k9 : Nat → Int32 → Int32 → Int32 → Int32 → kdM → Option (Int32 × kdM)) (k27 : Nat → Int32 → Int32 → Int32 → Int32 → Int32 → Int32 → Int32 → kdM → Option (Int32 × kdM)) (l0 : Nat) (l1 : Int32) (l2 : Int32) (l3 : Int32) (l4 : Int32) (l5 : Int32) (l7 : Int32) (s0 : Int32) : kdM → Option (Int32 × kdM) :=
  ltI (l7 + Int32.ofInt 1) fun t1 =>
  k27 l0 l1 l2 l3 l4 l5 s0 t1
set_option maxRecDepth 100000 in
set_option maxHeartbeats 4000000 in
theorem wX12_bound_114 {E : kdE} {G : kdS} {A : kdA} {r : Int32} {σ1 : kdM} (hX : kdX E A cX12_bound 8 RX12 (some .int) 0) (k9 : Nat → Int32 → Int32 → Int32 → Int32 → kdM → Option (Int32 × kdM)) (k27 : Nat → Int32 → Int32 → Int32 → Int32 → Int32 → Int32 → Int32 → kdM → Option (Int32 × kdM)) (hk9 : ∀ (l0 : Nat) (l1 : Int32) (l2 : Int32) (l3 : Int32) (l4 : Int32) (σ : kdM), k9 l0 l1 l2 l3 l4 σ = some (r, σ1) → SW E G (.inl (some (.int r), σ1)) A 8 σ 9 [(0, kr E l0), (1, .int l1), (2, .int l2), (3, .int l3), (4, .int l4)] []) (hk27 : ∀ (l0 : Nat) (l1 : Int32) (l2 : Int32) (l3 : Int32) (l4 : Int32) (l5 : Int32) (l6 : Int32) (l7 : Int32) (σ : kdM), k27 l0 l1 l2 l3 l4 l5 l6 l7 σ = some (r, σ1) → SW E G (.inl (some (.int r), σ1)) A 8 σ 27 [(0, kr E l0), (1, .int l1), (2, .int l2), (3, .int l3), (4, .int l4), (5, .int l5), (6, .int l6), (7, .int l7)] []) {σ : kdM} {l0 : Nat} {l1 : Int32} {l2 : Int32} {l3 : Int32} {l4 : Int32} {l5 : Int32} {l7 : Int32} {s0 : Int32} (h : X12_bound_114 G k9 k27 l0 l1 l2 l3 l4 l5 l7 s0 σ = some (r, σ1)) : SW E G (.inl (some (.int r), σ1)) A 8 σ 114 [(0, kr E l0), (1, .int l1), (2, .int l2), (3, .int l3), (4, .int l4), (5, .int l5), (7, .int l7)] [.int s0] := by
  unfold X12_bound_114 at h
  refine r_istore (L2 := [(6, .int s0), (0, kr E l0), (1, .int l1), (2, .int l2), (3, .int l3), (4, .int l4), (5, .int l5), (7, .int l7)]) hX dX12_bound_114 (by decide) rfl ?_
  refine r_iincL (L2 := fun t1 => [(7, .int t1), (6, .int s0), (0, kr E l0), (1, .int l1), (2, .int l2), (3, .int l3), (4, .int l4), (5, .int l5)]) hX dX12_bound_116 h 7 rfl (by decide) (fun _ => rfl) ?_
  clear h; intro t1 h
  refine r_goto (tgt := 27) hX dX12_bound_119 (by decide) ?_
  refine r_sub [2, 3, 4, 5, 6, 7, 1, 0] rfl ?_
  exact hk27 _ _ _ _ _ _ _ _ _ h
def X12_bound_112 (G : kdS) (k9 : Nat → Int32 → Int32 → Int32 → Int32 → kdM → Option (Int32 × kdM)) (k27 : Nat → Int32 → Int32 → Int32 → Int32 → Int32 → Int32 → Int32 → kdM → Option (Int32 × kdM)) (l0 : Nat) (l1 : Int32) (l2 : Int32) (l3 : Int32) (l4 : Int32) (l5 : Int32) (l6 : Int32) (l7 : Int32) : kdM → Option (Int32 × kdM) :=
  X12_bound_114 G k9 k27 l0 l1 l2 l3 l4 l5 l7 l6
set_option maxRecDepth 100000 in
set_option maxHeartbeats 4000000 in
theorem wX12_bound_112 {E : kdE} {G : kdS} {A : kdA} {r : Int32} {σ1 : kdM} (hX : kdX E A cX12_bound 8 RX12 (some .int) 0) (k9 : Nat → Int32 → Int32 → Int32 → Int32 → kdM → Option (Int32 × kdM)) (k27 : Nat → Int32 → Int32 → Int32 → Int32 → Int32 → Int32 → Int32 → kdM → Option (Int32 × kdM)) (hk9 : ∀ (l0 : Nat) (l1 : Int32) (l2 : Int32) (l3 : Int32) (l4 : Int32) (σ : kdM), k9 l0 l1 l2 l3 l4 σ = some (r, σ1) → SW E G (.inl (some (.int r), σ1)) A 8 σ 9 [(0, kr E l0), (1, .int l1), (2, .int l2), (3, .int l3), (4, .int l4)] []) (hk27 : ∀ (l0 : Nat) (l1 : Int32) (l2 : Int32) (l3 : Int32) (l4 : Int32) (l5 : Int32) (l6 : Int32) (l7 : Int32) (σ : kdM), k27 l0 l1 l2 l3 l4 l5 l6 l7 σ = some (r, σ1) → SW E G (.inl (some (.int r), σ1)) A 8 σ 27 [(0, kr E l0), (1, .int l1), (2, .int l2), (3, .int l3), (4, .int l4), (5, .int l5), (6, .int l6), (7, .int l7)] []) {σ : kdM} {l0 : Nat} {l1 : Int32} {l2 : Int32} {l3 : Int32} {l4 : Int32} {l5 : Int32} {l6 : Int32} {l7 : Int32} (h : X12_bound_112 G k9 k27 l0 l1 l2 l3 l4 l5 l6 l7 σ = some (r, σ1)) : SW E G (.inl (some (.int r), σ1)) A 8 σ 112 [(0, kr E l0), (1, .int l1), (2, .int l2), (3, .int l3), (4, .int l4), (5, .int l5), (6, .int l6), (7, .int l7)] [] := by
  unfold X12_bound_112 at h
  refine r_iload hX dX12_bound_112 6 rfl ?_
  refine r_sub [0, 1, 2, 3, 4, 5, 7] rfl ?_
  exact wX12_bound_114 hX k9 k27 hk9 hk27 h
def X12_bound_107 (G : kdS) (k9 : Nat → Int32 → Int32 → Int32 → Int32 → kdM → Option (Int32 × kdM)) (k27 : Nat → Int32 → Int32 → Int32 → Int32 → Int32 → Int32 → Int32 → kdM → Option (Int32 × kdM)) (l0 : Nat) (l1 : Int32) (l2 : Int32) (l3 : Int32) (l4 : Int32) (l5 : Int32) (l7 : Int32) : kdM → Option (Int32 × kdM) :=
  X12_bound_114 G k9 k27 l0 l1 l2 l3 l4 l5 l7 l7
set_option maxRecDepth 100000 in
set_option maxHeartbeats 4000000 in
theorem wX12_bound_107 {E : kdE} {G : kdS} {A : kdA} {r : Int32} {σ1 : kdM} (hX : kdX E A cX12_bound 8 RX12 (some .int) 0) (k9 : Nat → Int32 → Int32 → Int32 → Int32 → kdM → Option (Int32 × kdM)) (k27 : Nat → Int32 → Int32 → Int32 → Int32 → Int32 → Int32 → Int32 → kdM → Option (Int32 × kdM)) (hk9 : ∀ (l0 : Nat) (l1 : Int32) (l2 : Int32) (l3 : Int32) (l4 : Int32) (σ : kdM), k9 l0 l1 l2 l3 l4 σ = some (r, σ1) → SW E G (.inl (some (.int r), σ1)) A 8 σ 9 [(0, kr E l0), (1, .int l1), (2, .int l2), (3, .int l3), (4, .int l4)] []) (hk27 : ∀ (l0 : Nat) (l1 : Int32) (l2 : Int32) (l3 : Int32) (l4 : Int32) (l5 : Int32) (l6 : Int32) (l7 : Int32) (σ : kdM), k27 l0 l1 l2 l3 l4 l5 l6 l7 σ = some (r, σ1) → SW E G (.inl (some (.int r), σ1)) A 8 σ 27 [(0, kr E l0), (1, .int l1), (2, .int l2), (3, .int l3), (4, .int l4), (5, .int l5), (6, .int l6), (7, .int l7)] []) {σ : kdM} {l0 : Nat} {l1 : Int32} {l2 : Int32} {l3 : Int32} {l4 : Int32} {l5 : Int32} {l7 : Int32} (h : X12_bound_107 G k9 k27 l0 l1 l2 l3 l4 l5 l7 σ = some (r, σ1)) : SW E G (.inl (some (.int r), σ1)) A 8 σ 107 [(0, kr E l0), (1, .int l1), (2, .int l2), (3, .int l3), (4, .int l4), (5, .int l5), (7, .int l7)] [] := by
  unfold X12_bound_107 at h
  refine r_iload hX dX12_bound_107 6 rfl ?_
  refine r_goto (tgt := 114) hX dX12_bound_109 (by decide) ?_
  refine r_sub [0, 1, 2, 3, 4, 5, 6] rfl ?_
  exact wX12_bound_114 hX k9 k27 hk9 hk27 h
def X12_bound_74 (G : kdS) (k9 : Nat → Int32 → Int32 → Int32 → Int32 → kdM → Option (Int32 × kdM)) (k27 : Nat → Int32 → Int32 → Int32 → Int32 → Int32 → Int32 → Int32 → kdM → Option (Int32 × kdM)) (l0 : Nat) (l1 : Int32) (l2 : Int32) (l3 : Int32) (l4 : Int32) (l6 : Int32) (l7 : Int32) (s0 : Int32) : kdM → Option (Int32 × kdM) :=
  cnd (((l3 >>> (l7 &&& 31)) &&& (1 : Int32)) = 0)
    (cnd (l6 < 0)
      (X12_bound_107 G k9 k27 l0 l1 l2 l3 l4 s0 l7)
      (gR G 12 56 l0 fun t1 =>
      aI G t1 (l7) fun t2 =>
      gR G 12 56 l0 fun t3 =>
      aI G t3 (l6) fun t4 =>
      cnd (t4 ≤ t2)
        (X12_bound_112 G k9 k27 l0 l1 l2 l3 l4 s0 l6 l7)
        (X12_bound_107 G k9 k27 l0 l1 l2 l3 l4 s0 l7)))
    (X12_bound_112 G k9 k27 l0 l1 l2 l3 l4 s0 l6 l7)
set_option maxRecDepth 100000 in
set_option maxHeartbeats 4000000 in
theorem wX12_bound_74 {E : kdE} {G : kdS} {A : kdA} {r : Int32} {σ1 : kdM} (hX : kdX E A cX12_bound 8 RX12 (some .int) 0) (k9 : Nat → Int32 → Int32 → Int32 → Int32 → kdM → Option (Int32 × kdM)) (k27 : Nat → Int32 → Int32 → Int32 → Int32 → Int32 → Int32 → Int32 → kdM → Option (Int32 × kdM)) (hk9 : ∀ (l0 : Nat) (l1 : Int32) (l2 : Int32) (l3 : Int32) (l4 : Int32) (σ : kdM), k9 l0 l1 l2 l3 l4 σ = some (r, σ1) → SW E G (.inl (some (.int r), σ1)) A 8 σ 9 [(0, kr E l0), (1, .int l1), (2, .int l2), (3, .int l3), (4, .int l4)] []) (hk27 : ∀ (l0 : Nat) (l1 : Int32) (l2 : Int32) (l3 : Int32) (l4 : Int32) (l5 : Int32) (l6 : Int32) (l7 : Int32) (σ : kdM), k27 l0 l1 l2 l3 l4 l5 l6 l7 σ = some (r, σ1) → SW E G (.inl (some (.int r), σ1)) A 8 σ 27 [(0, kr E l0), (1, .int l1), (2, .int l2), (3, .int l3), (4, .int l4), (5, .int l5), (6, .int l6), (7, .int l7)] []) {σ : kdM} {l0 : Nat} {l1 : Int32} {l2 : Int32} {l3 : Int32} {l4 : Int32} {l6 : Int32} {l7 : Int32} {s0 : Int32} (h : X12_bound_74 G k9 k27 l0 l1 l2 l3 l4 l6 l7 s0 σ = some (r, σ1)) : SW E G (.inl (some (.int r), σ1)) A 8 σ 74 [(0, kr E l0), (1, .int l1), (2, .int l2), (3, .int l3), (4, .int l4), (6, .int l6), (7, .int l7)] [.int s0] := by
  unfold X12_bound_74 at h
  refine r_istore (L2 := [(5, .int s0), (0, kr E l0), (1, .int l1), (2, .int l2), (3, .int l3), (4, .int l4), (6, .int l6), (7, .int l7)]) hX dX12_bound_74 (by decide) rfl ?_
  refine r_iload_n hX dX12_bound_76 rfl 4 rfl ?_
  refine r_iload hX dX12_bound_77 7 rfl ?_
  refine r_ishr hX dX12_bound_79 ?_
  refine r_iconst hX dX12_bound_80 kk_i_1 ?_
  refine r_iand hX dX12_bound_81 ?_
  refine r_if_ne (tgt := 112) hX dX12_bound_82 (by decide) h ?_ ?_
  · clear h; intro h
    refine r_iload hX dX12_bound_85 6 rfl ?_
    refine r_if_lt (tgt := 107) hX dX12_bound_87 (by decide) h ?_ ?_
    · clear h; intro h
      refine r_sub [1, 2, 3, 4, 5, 0, 7] rfl ?_
      exact wX12_bound_107 hX k9 k27 hk9 hk27 h
    · clear h; intro h
      refine r_aload_n hX dX12_bound_90 rfl 1 rfl ?_
      refine r_gR hX dX12_bound_91 kf_X12_145 rfl h ?_
      clear h; intro t1 h
      refine r_iload hX dX12_bound_94 7 rfl ?_
      refine r_aI hX dX12_bound_96 h ?_
      clear h; intro t2 h
      refine r_aload_n hX dX12_bound_97 rfl 1 rfl ?_
      refine r_gR hX dX12_bound_98 kf_X12_145 rfl h ?_
      clear h; intro t3 h
      refine r_iload hX dX12_bound_101 6 rfl ?_
      refine r_aI hX dX12_bound_103 h ?_
      clear h; intro t4 h
      refine r_icmp_ge (tgt := 112) hX dX12_bound_104 (by decide) h ?_ ?_
      · clear h; intro h
        refine r_sub [1, 2, 3, 4, 5, 0, 6, 7] rfl ?_
        exact wX12_bound_112 hX k9 k27 hk9 hk27 h
      · clear h; intro h
        refine r_sub [1, 2, 3, 4, 5, 0, 7] rfl ?_
        exact wX12_bound_107 hX k9 k27 hk9 hk27 h
  · clear h; intro h
    refine r_sub [1, 2, 3, 4, 5, 0, 6, 7] rfl ?_
    exact wX12_bound_112 hX k9 k27 hk9 hk27 h
def X12_bound_72 (G : kdS) (k9 : Nat → Int32 → Int32 → Int32 → Int32 → kdM → Option (Int32 × kdM)) (k27 : Nat → Int32 → Int32 → Int32 → Int32 → Int32 → Int32 → Int32 → kdM → Option (Int32 × kdM)) (l0 : Nat) (l1 : Int32) (l2 : Int32) (l3 : Int32) (l4 : Int32) (l5 : Int32) (l6 : Int32) (l7 : Int32) : kdM → Option (Int32 × kdM) :=
  X12_bound_74 G k9 k27 l0 l1 l2 l3 l4 l6 l7 l5
set_option maxRecDepth 100000 in
set_option maxHeartbeats 4000000 in
theorem wX12_bound_72 {E : kdE} {G : kdS} {A : kdA} {r : Int32} {σ1 : kdM} (hX : kdX E A cX12_bound 8 RX12 (some .int) 0) (k9 : Nat → Int32 → Int32 → Int32 → Int32 → kdM → Option (Int32 × kdM)) (k27 : Nat → Int32 → Int32 → Int32 → Int32 → Int32 → Int32 → Int32 → kdM → Option (Int32 × kdM)) (hk9 : ∀ (l0 : Nat) (l1 : Int32) (l2 : Int32) (l3 : Int32) (l4 : Int32) (σ : kdM), k9 l0 l1 l2 l3 l4 σ = some (r, σ1) → SW E G (.inl (some (.int r), σ1)) A 8 σ 9 [(0, kr E l0), (1, .int l1), (2, .int l2), (3, .int l3), (4, .int l4)] []) (hk27 : ∀ (l0 : Nat) (l1 : Int32) (l2 : Int32) (l3 : Int32) (l4 : Int32) (l5 : Int32) (l6 : Int32) (l7 : Int32) (σ : kdM), k27 l0 l1 l2 l3 l4 l5 l6 l7 σ = some (r, σ1) → SW E G (.inl (some (.int r), σ1)) A 8 σ 27 [(0, kr E l0), (1, .int l1), (2, .int l2), (3, .int l3), (4, .int l4), (5, .int l5), (6, .int l6), (7, .int l7)] []) {σ : kdM} {l0 : Nat} {l1 : Int32} {l2 : Int32} {l3 : Int32} {l4 : Int32} {l5 : Int32} {l6 : Int32} {l7 : Int32} (h : X12_bound_72 G k9 k27 l0 l1 l2 l3 l4 l5 l6 l7 σ = some (r, σ1)) : SW E G (.inl (some (.int r), σ1)) A 8 σ 72 [(0, kr E l0), (1, .int l1), (2, .int l2), (3, .int l3), (4, .int l4), (5, .int l5), (6, .int l6), (7, .int l7)] [] := by
  unfold X12_bound_72 at h
  refine r_iload hX dX12_bound_72 5 rfl ?_
  refine r_sub [0, 1, 2, 3, 4, 6, 7] rfl ?_
  exact wX12_bound_74 hX k9 k27 hk9 hk27 h
def X12_bound_67 (G : kdS) (k9 : Nat → Int32 → Int32 → Int32 → Int32 → kdM → Option (Int32 × kdM)) (k27 : Nat → Int32 → Int32 → Int32 → Int32 → Int32 → Int32 → Int32 → kdM → Option (Int32 × kdM)) (l0 : Nat) (l1 : Int32) (l2 : Int32) (l3 : Int32) (l4 : Int32) (l6 : Int32) (l7 : Int32) : kdM → Option (Int32 × kdM) :=
  X12_bound_74 G k9 k27 l0 l1 l2 l3 l4 l6 l7 l7
set_option maxRecDepth 100000 in
set_option maxHeartbeats 4000000 in
theorem wX12_bound_67 {E : kdE} {G : kdS} {A : kdA} {r : Int32} {σ1 : kdM} (hX : kdX E A cX12_bound 8 RX12 (some .int) 0) (k9 : Nat → Int32 → Int32 → Int32 → Int32 → kdM → Option (Int32 × kdM)) (k27 : Nat → Int32 → Int32 → Int32 → Int32 → Int32 → Int32 → Int32 → kdM → Option (Int32 × kdM)) (hk9 : ∀ (l0 : Nat) (l1 : Int32) (l2 : Int32) (l3 : Int32) (l4 : Int32) (σ : kdM), k9 l0 l1 l2 l3 l4 σ = some (r, σ1) → SW E G (.inl (some (.int r), σ1)) A 8 σ 9 [(0, kr E l0), (1, .int l1), (2, .int l2), (3, .int l3), (4, .int l4)] []) (hk27 : ∀ (l0 : Nat) (l1 : Int32) (l2 : Int32) (l3 : Int32) (l4 : Int32) (l5 : Int32) (l6 : Int32) (l7 : Int32) (σ : kdM), k27 l0 l1 l2 l3 l4 l5 l6 l7 σ = some (r, σ1) → SW E G (.inl (some (.int r), σ1)) A 8 σ 27 [(0, kr E l0), (1, .int l1), (2, .int l2), (3, .int l3), (4, .int l4), (5, .int l5), (6, .int l6), (7, .int l7)] []) {σ : kdM} {l0 : Nat} {l1 : Int32} {l2 : Int32} {l3 : Int32} {l4 : Int32} {l6 : Int32} {l7 : Int32} (h : X12_bound_67 G k9 k27 l0 l1 l2 l3 l4 l6 l7 σ = some (r, σ1)) : SW E G (.inl (some (.int r), σ1)) A 8 σ 67 [(0, kr E l0), (1, .int l1), (2, .int l2), (3, .int l3), (4, .int l4), (6, .int l6), (7, .int l7)] [] := by
  unfold X12_bound_67 at h
  refine r_iload hX dX12_bound_67 6 rfl ?_
  refine r_goto (tgt := 74) hX dX12_bound_69 (by decide) ?_
  refine r_sub [0, 1, 2, 3, 4, 5, 6] rfl ?_
  exact wX12_bound_74 hX k9 k27 hk9 hk27 h
def X12_bound_27B (G : kdS) (k9 : Nat → Int32 → Int32 → Int32 → Int32 → kdM → Option (Int32 × kdM)) (k27 : Nat → Int32 → Int32 → Int32 → Int32 → Int32 → Int32 → Int32 → kdM → Option (Int32 × kdM)) (l0 : Nat) (l1 : Int32) (l2 : Int32) (l3 : Int32) (l4 : Int32) (l5 : Int32) (l6 : Int32) (l7 : Int32) : kdM → Option (Int32 × kdM) :=
  gI G 12 55 l0 fun t1 =>
  cnd (t1 ≤ l7)
    (ltI ((l2 ||| ((1 : Int32) <<< (l5 &&& 31)))) fun t2 =>
    ltI ((l3 ||| ((1 : Int32) <<< (l6 &&& 31)))) fun t3 =>
    gR G 12 58 l0 fun t4 =>
    aI G t4 (l5) fun t5 =>
    gR G 12 56 l0 fun t6 =>
    aI G t6 (l6) fun t7 =>
    ltI ((l1 + (t5 * t7))) fun t8 =>
    ltI (l4 + Int32.ofInt 1) fun t9 =>
    k9 l0 t8 t2 t3 t9)
    (cnd (((l2 >>> (l7 &&& 31)) &&& (1 : Int32)) = 0)
      (cnd (l5 < 0)
        (X12_bound_67 G k9 k27 l0 l1 l2 l3 l4 l6 l7)
        (gR G 12 58 l0 fun t10 =>
        aI G t10 (l7) fun t11 =>
        gR G 12 58 l0 fun t12 =>
        aI G t12 (l5) fun t13 =>
        cnd (t11 ≤ t13)
          (X12_bound_72 G k9 k27 l0 l1 l2 l3 l4 l5 l6 l7)
          (X12_bound_67 G k9 k27 l0 l1 l2 l3 l4 l6 l7)))
      (X12_bound_72 G k9 k27 l0 l1 l2 l3 l4 l5 l6 l7))
set_option maxRecDepth 100000 in
set_option maxHeartbeats 4000000 in
theorem wX12_bound_27B {E : kdE} {G : kdS} {A : kdA} {r : Int32} {σ1 : kdM} (hX : kdX E A cX12_bound 8 RX12 (some .int) 0) (k9 : Nat → Int32 → Int32 → Int32 → Int32 → kdM → Option (Int32 × kdM)) (k27 : Nat → Int32 → Int32 → Int32 → Int32 → Int32 → Int32 → Int32 → kdM → Option (Int32 × kdM)) (hk9 : ∀ (l0 : Nat) (l1 : Int32) (l2 : Int32) (l3 : Int32) (l4 : Int32) (σ : kdM), k9 l0 l1 l2 l3 l4 σ = some (r, σ1) → SW E G (.inl (some (.int r), σ1)) A 8 σ 9 [(0, kr E l0), (1, .int l1), (2, .int l2), (3, .int l3), (4, .int l4)] []) (hk27 : ∀ (l0 : Nat) (l1 : Int32) (l2 : Int32) (l3 : Int32) (l4 : Int32) (l5 : Int32) (l6 : Int32) (l7 : Int32) (σ : kdM), k27 l0 l1 l2 l3 l4 l5 l6 l7 σ = some (r, σ1) → SW E G (.inl (some (.int r), σ1)) A 8 σ 27 [(0, kr E l0), (1, .int l1), (2, .int l2), (3, .int l3), (4, .int l4), (5, .int l5), (6, .int l6), (7, .int l7)] []) {σ : kdM} {l0 : Nat} {l1 : Int32} {l2 : Int32} {l3 : Int32} {l4 : Int32} {l5 : Int32} {l6 : Int32} {l7 : Int32} (h : X12_bound_27B G k9 k27 l0 l1 l2 l3 l4 l5 l6 l7 σ = some (r, σ1)) : SW E G (.inl (some (.int r), σ1)) A 8 σ 27 [(0, kr E l0), (1, .int l1), (2, .int l2), (3, .int l3), (4, .int l4), (5, .int l5), (6, .int l6), (7, .int l7)] [] := by
  unfold X12_bound_27B at h
  refine r_iload hX dX12_bound_27 7 rfl ?_
  refine r_aload_n hX dX12_bound_29 rfl 0 rfl ?_
  refine r_gI hX dX12_bound_30 kf_X12_374 rfl h ?_
  clear h; intro t1 h
  refine r_icmp_ge (tgt := 122) hX dX12_bound_33 (by decide) h ?_ ?_
  · clear h; intro h
    refine r_iload_n hX dX12_bound_122 rfl 2 rfl ?_
    refine r_iconst hX dX12_bound_123 kk_i_1 ?_
    refine r_iload hX dX12_bound_124 5 rfl ?_
    refine r_ishl hX dX12_bound_126 ?_
    refine r_ior hX dX12_bound_127 ?_
    refine r_letI h ?_
    clear h; intro t2 h
    refine r_istore_n (L2 := [(2, .int t2), (0, kr E l0), (1, .int l1), (3, .int l3), (4, .int l4), (5, .int l5), (6, .int l6), (7, .int l7)]) hX dX12_bound_128 rfl (by decide) rfl ?_
    refine r_iload_n hX dX12_bound_129 rfl 3 rfl ?_
    refine r_iconst hX dX12_bound_130 kk_i_1 ?_
    refine r_iload hX dX12_bound_131 6 rfl ?_
    refine r_ishl hX dX12_bound_133 ?_
    refine r_ior hX dX12_bound_134 ?_
    refine r_letI h ?_
    clear h; intro t3 h
    refine r_istore_n (L2 := [(3, .int t3), (2, .int t2), (0, kr E l0), (1, .int l1), (4, .int l4), (5, .int l5), (6, .int l6), (7, .int l7)]) hX dX12_bound_135 rfl (by decide) rfl ?_
    refine r_iload_n hX dX12_bound_136 rfl 3 rfl ?_
    refine r_aload_n hX dX12_bound_137 rfl 2 rfl ?_
    refine r_gR hX dX12_bound_138 kf_X12_151 rfl h ?_
    clear h; intro t4 h
    refine r_iload hX dX12_bound_141 5 rfl ?_
    refine r_aI hX dX12_bound_143 h ?_
    clear h; intro t5 h
    refine r_aload_n hX dX12_bound_144 rfl 2 rfl ?_
    refine r_gR hX dX12_bound_145 kf_X12_145 rfl h ?_
    clear h; intro t6 h
    refine r_iload hX dX12_bound_148 6 rfl ?_
    refine r_aI hX dX12_bound_150 h ?_
    clear h; intro t7 h
    refine r_imul hX dX12_bound_151 ?_
    refine r_iadd hX dX12_bound_152 ?_
    refine r_letI h ?_
    clear h; intro t8 h
    refine r_istore_n (L2 := [(1, .int t8), (3, .int t3), (2, .int t2), (0, kr E l0), (4, .int l4), (5, .int l5), (6, .int l6), (7, .int l7)]) hX dX12_bound_153 rfl (by decide) rfl ?_
    refine r_iincL (L2 := fun t9 => [(4, .int t9), (1, .int t8), (3, .int t3), (2, .int t2), (0, kr E l0), (5, .int l5), (6, .int l6), (7, .int l7)]) hX dX12_bound_154 h 4 rfl (by decide) (fun _ => rfl) ?_
    clear h; intro t9 h
    refine r_goto (tgt := 9) hX dX12_bound_157 (by decide) ?_
    refine r_sub [4, 1, 3, 2, 0] rfl ?_
    exact hk9 _ _ _ _ _ _ h
  · clear h; intro h
    refine r_iload_n hX dX12_bound_36 rfl 2 rfl ?_
    refine r_iload hX dX12_bound_37 7 rfl ?_
    refine r_ishr hX dX12_bound_39 ?_
    refine r_iconst hX dX12_bound_40 kk_i_1 ?_
    refine r_iand hX dX12_bound_41 ?_
    refine r_if_ne (tgt := 72) hX dX12_bound_42 (by decide) h ?_ ?_
    · clear h; intro h
      refine r_iload hX dX12_bound_45 5 rfl ?_
      refine r_if_lt (tgt := 67) hX dX12_bound_47 (by decide) h ?_ ?_
      · clear h; intro h
        refine r_sub [0, 1, 2, 3, 4, 6, 7] rfl ?_
        exact wX12_bound_67 hX k9 k27 hk9 hk27 h
      · clear h; intro h
        refine r_aload_n hX dX12_bound_50 rfl 0 rfl ?_
        refine r_gR hX dX12_bound_51 kf_X12_151 rfl h ?_
        clear h; intro t10 h
        refine r_iload hX dX12_bound_54 7 rfl ?_
        refine r_aI hX dX12_bound_56 h ?_
        clear h; intro t11 h
        refine r_aload_n hX dX12_bound_57 rfl 0 rfl ?_
        refine r_gR hX dX12_bound_58 kf_X12_151 rfl h ?_
        clear h; intro t12 h
        refine r_iload hX dX12_bound_61 5 rfl ?_
        refine r_aI hX dX12_bound_63 h ?_
        clear h; intro t13 h
        refine r_icmp_le (tgt := 72) hX dX12_bound_64 (by decide) h ?_ ?_
        · clear h; intro h
          refine r_sub [0, 1, 2, 3, 4, 5, 6, 7] rfl ?_
          exact wX12_bound_72 hX k9 k27 hk9 hk27 h
        · clear h; intro h
          refine r_sub [0, 1, 2, 3, 4, 6, 7] rfl ?_
          exact wX12_bound_67 hX k9 k27 hk9 hk27 h
    · clear h; intro h
      refine r_sub [0, 1, 2, 3, 4, 5, 6, 7] rfl ?_
      exact wX12_bound_72 hX k9 k27 hk9 hk27 h
def X12_bound_27 (G : kdS) (k9 : Nat → Int32 → Int32 → Int32 → Int32 → kdM → Option (Int32 × kdM)) : Nat → Int32 → Int32 → Int32 → Int32 → Int32 → Int32 → Int32 → kdM → Option (Int32 × kdM) := lp (fun _ _ _ _ _ _ _ _ _ => none) (X12_bound_27B G k9) NN
theorem wX12_bound_27 {E : kdE} {G : kdS} {A : kdA} {r : Int32} {σ1 : kdM} (hX : kdX E A cX12_bound 8 RX12 (some .int) 0) (k9 : Nat → Int32 → Int32 → Int32 → Int32 → kdM → Option (Int32 × kdM)) (hk9 : ∀ (l0 : Nat) (l1 : Int32) (l2 : Int32) (l3 : Int32) (l4 : Int32) (σ : kdM), k9 l0 l1 l2 l3 l4 σ = some (r, σ1) → SW E G (.inl (some (.int r), σ1)) A 8 σ 9 [(0, kr E l0), (1, .int l1), (2, .int l2), (3, .int l3), (4, .int l4)] []) : ∀ (l0 : Nat) (l1 : Int32) (l2 : Int32) (l3 : Int32) (l4 : Int32) (l5 : Int32) (l6 : Int32) (l7 : Int32) (σ : kdM), X12_bound_27 G k9 l0 l1 l2 l3 l4 l5 l6 l7 σ = some (r, σ1) → SW E G (.inl (some (.int r), σ1)) A 8 σ 27 [(0, kr E l0), (1, .int l1), (2, .int l2), (3, .int l3), (4, .int l4), (5, .int l5), (6, .int l6), (7, .int l7)] [] :=
  lp_ind (Q := fun f => ∀ (l0 : Nat) (l1 : Int32) (l2 : Int32) (l3 : Int32) (l4 : Int32) (l5 : Int32) (l6 : Int32) (l7 : Int32) (σ : kdM), f l0 l1 l2 l3 l4 l5 l6 l7 σ = some (r, σ1) → SW E G (.inl (some (.int r), σ1)) A 8 σ 27 [(0, kr E l0), (1, .int l1), (2, .int l2), (3, .int l3), (4, .int l4), (5, .int l5), (6, .int l6), (7, .int l7)] []) (by intros; contradiction) (fun k hk l0 l1 l2 l3 l4 l5 l6 l7 σ h => wX12_bound_27B hX k9 k hk9 hk h) NN
def X12_bound_209 (G : kdS) (k163 : Nat → Int32 → Int32 → kdM → Option (Int32 × kdM)) (k175 : Nat → Int32 → Int32 → Int32 → kdM → Option (Int32 × kdM)) (l0 : Nat) (l4 : Int32) (l5 : Int32) (s0 : Int32) (s1 : Int32) : kdM → Option (Int32 × kdM) :=
  ltI ((s0 + s1)) fun t1 =>
  ltI (l5 + Int32.ofInt 1) fun t2 =>
  k175 l0 t1 l4 t2
set_option maxRecDepth 100000 in
set_option maxHeartbeats 4000000 in
theorem wX12_bound_209 {E : kdE} {G : kdS} {A : kdA} {r : Int32} {σ1 : kdM} (hX : kdX E A cX12_bound 8 RX12 (some .int) 0) (k163 : Nat → Int32 → Int32 → kdM → Option (Int32 × kdM)) (k175 : Nat → Int32 → Int32 → Int32 → kdM → Option (Int32 × kdM)) (hk163 : ∀ (l0 : Nat) (l1 : Int32) (l4 : Int32) (σ : kdM), k163 l0 l1 l4 σ = some (r, σ1) → SW E G (.inl (some (.int r), σ1)) A 8 σ 163 [(0, kr E l0), (1, .int l1), (4, .int l4)] []) (hk175 : ∀ (l0 : Nat) (l1 : Int32) (l4 : Int32) (l5 : Int32) (σ : kdM), k175 l0 l1 l4 l5 σ = some (r, σ1) → SW E G (.inl (some (.int r), σ1)) A 8 σ 175 [(0, kr E l0), (1, .int l1), (4, .int l4), (5, .int l5)] []) {σ : kdM} {l0 : Nat} {l4 : Int32} {l5 : Int32} {s0 : Int32} {s1 : Int32} (h : X12_bound_209 G k163 k175 l0 l4 l5 s0 s1 σ = some (r, σ1)) : SW E G (.inl (some (.int r), σ1)) A 8 σ 209 [(0, kr E l0), (4, .int l4), (5, .int l5)] [.int s1, .int s0] := by
  unfold X12_bound_209 at h
  refine r_iadd hX dX12_bound_209 ?_
  refine r_letI h ?_
  clear h; intro t1 h
  refine r_istore_n (L2 := [(1, .int t1), (0, kr E l0), (4, .int l4), (5, .int l5)]) hX dX12_bound_210 rfl (by decide) rfl ?_
  refine r_iincL (L2 := fun t2 => [(5, .int t2), (1, .int t1), (0, kr E l0), (4, .int l4)]) hX dX12_bound_211 h 3 rfl (by decide) (fun _ => rfl) ?_
  clear h; intro t2 h
  refine r_goto (tgt := 175) hX dX12_bound_214 (by decide) ?_
  refine r_sub [2, 1, 3, 0] rfl ?_
  exact hk175 _ _ _ _ _ h
def X12_bound_175B (G : kdS) (k163 : Nat → Int32 → Int32 → kdM → Option (Int32 × kdM)) (k175 : Nat → Int32 → Int32 → Int32 → kdM → Option (Int32 × kdM)) (l0 : Nat) (l1 : Int32) (l4 : Int32) (l5 : Int32) : kdM → Option (Int32 × kdM) :=
  gI G 12 55 l0 fun t1 =>
  cnd (t1 ≤ l5)
    (ltI (l4 + Int32.ofInt 1) fun t2 =>
    k163 l0 l1 t2)
    (cnd (l4 = l5)
      (X12_bound_209 G k163 k175 l0 l4 l5 l1 (0 : Int32))
      (gR G 12 59 l0 fun t3 =>
      aI G t3 ((((7 : Int32) * l4) + l5)) fun t4 =>
      X12_bound_209 G k163 k175 l0 l4 l5 l1 t4))
set_option maxRecDepth 100000 in
set_option maxHeartbeats 4000000 in
theorem wX12_bound_175B {E : kdE} {G : kdS} {A : kdA} {r : Int32} {σ1 : kdM} (hX : kdX E A cX12_bound 8 RX12 (some .int) 0) (k163 : Nat → Int32 → Int32 → kdM → Option (Int32 × kdM)) (k175 : Nat → Int32 → Int32 → Int32 → kdM → Option (Int32 × kdM)) (hk163 : ∀ (l0 : Nat) (l1 : Int32) (l4 : Int32) (σ : kdM), k163 l0 l1 l4 σ = some (r, σ1) → SW E G (.inl (some (.int r), σ1)) A 8 σ 163 [(0, kr E l0), (1, .int l1), (4, .int l4)] []) (hk175 : ∀ (l0 : Nat) (l1 : Int32) (l4 : Int32) (l5 : Int32) (σ : kdM), k175 l0 l1 l4 l5 σ = some (r, σ1) → SW E G (.inl (some (.int r), σ1)) A 8 σ 175 [(0, kr E l0), (1, .int l1), (4, .int l4), (5, .int l5)] []) {σ : kdM} {l0 : Nat} {l1 : Int32} {l4 : Int32} {l5 : Int32} (h : X12_bound_175B G k163 k175 l0 l1 l4 l5 σ = some (r, σ1)) : SW E G (.inl (some (.int r), σ1)) A 8 σ 175 [(0, kr E l0), (1, .int l1), (4, .int l4), (5, .int l5)] [] := by
  unfold X12_bound_175B at h
  refine r_iload hX dX12_bound_175 3 rfl ?_
  refine r_aload_n hX dX12_bound_177 rfl 0 rfl ?_
  refine r_gI hX dX12_bound_178 kf_X12_374 rfl h ?_
  clear h; intro t1 h
  refine r_icmp_ge (tgt := 217) hX dX12_bound_181 (by decide) h ?_ ?_
  · clear h; intro h
    refine r_iincL (L2 := fun t2 => [(4, .int t2), (0, kr E l0), (1, .int l1), (5, .int l5)]) hX dX12_bound_217 h 2 rfl (by decide) (fun _ => rfl) ?_
    clear h; intro t2 h
    refine r_goto (tgt := 163) hX dX12_bound_220 (by decide) ?_
    refine r_sub [1, 2, 0] rfl ?_
    exact hk163 _ _ _ _ h
  · clear h; intro h
    refine r_iload_n hX dX12_bound_184 rfl 1 rfl ?_
    refine r_iload hX dX12_bound_185 2 rfl ?_
    refine r_iload hX dX12_bound_187 3 rfl ?_
    refine r_icmp_ne (tgt := 196) hX dX12_bound_189 (by decide) h ?_ ?_
    · clear h; intro h
      refine r_iconst hX dX12_bound_192 kk_i_0 ?_
      refine r_goto (tgt := 209) hX dX12_bound_193 (by decide) ?_
      refine r_sub [0, 2, 3] rfl ?_
      exact wX12_bound_209 hX k163 k175 hk163 hk175 h
    · clear h; intro h
      refine r_aload_n hX dX12_bound_196 rfl 0 rfl ?_
      refine r_gR hX dX12_bound_197 kf_X12_154 rfl h ?_
      clear h; intro t3 h
      refine r_bipush hX dX12_bound_200 kk_b_7 ?_
      refine r_iload hX dX12_bound_202 2 rfl ?_
      refine r_imul hX dX12_bound_204 ?_
      refine r_iload hX dX12_bound_205 3 rfl ?_
      refine r_iadd hX dX12_bound_207 ?_
      refine r_aI hX dX12_bound_208 h ?_
      clear h; intro t4 h
      refine r_sub [0, 2, 3] rfl ?_
      exact wX12_bound_209 hX k163 k175 hk163 hk175 h
def X12_bound_175 (G : kdS) (k163 : Nat → Int32 → Int32 → kdM → Option (Int32 × kdM)) : Nat → Int32 → Int32 → Int32 → kdM → Option (Int32 × kdM) := lp (fun _ _ _ _ _ => none) (X12_bound_175B G k163) NN
theorem wX12_bound_175 {E : kdE} {G : kdS} {A : kdA} {r : Int32} {σ1 : kdM} (hX : kdX E A cX12_bound 8 RX12 (some .int) 0) (k163 : Nat → Int32 → Int32 → kdM → Option (Int32 × kdM)) (hk163 : ∀ (l0 : Nat) (l1 : Int32) (l4 : Int32) (σ : kdM), k163 l0 l1 l4 σ = some (r, σ1) → SW E G (.inl (some (.int r), σ1)) A 8 σ 163 [(0, kr E l0), (1, .int l1), (4, .int l4)] []) : ∀ (l0 : Nat) (l1 : Int32) (l4 : Int32) (l5 : Int32) (σ : kdM), X12_bound_175 G k163 l0 l1 l4 l5 σ = some (r, σ1) → SW E G (.inl (some (.int r), σ1)) A 8 σ 175 [(0, kr E l0), (1, .int l1), (4, .int l4), (5, .int l5)] [] :=
  lp_ind (Q := fun f => ∀ (l0 : Nat) (l1 : Int32) (l4 : Int32) (l5 : Int32) (σ : kdM), f l0 l1 l4 l5 σ = some (r, σ1) → SW E G (.inl (some (.int r), σ1)) A 8 σ 175 [(0, kr E l0), (1, .int l1), (4, .int l4), (5, .int l5)] []) (by intros; contradiction) (fun k hk l0 l1 l4 l5 σ h => wX12_bound_175B hX k163 k hk163 hk h) NN
def X12_bound_163B (G : kdS) (k163 : Nat → Int32 → Int32 → kdM → Option (Int32 × kdM)) (l0 : Nat) (l1 : Int32) (l4 : Int32) : kdM → Option (Int32 × kdM) :=
  gI G 12 55 l0 fun t1 =>
  cnd (t1 ≤ l4)
    (rt l1)
    (X12_bound_175 G k163 l0 l1 l4 (0 : Int32))
set_option maxRecDepth 100000 in
set_option maxHeartbeats 4000000 in
theorem wX12_bound_163B {E : kdE} {G : kdS} {A : kdA} {r : Int32} {σ1 : kdM} (hX : kdX E A cX12_bound 8 RX12 (some .int) 0) (k163 : Nat → Int32 → Int32 → kdM → Option (Int32 × kdM)) (hk163 : ∀ (l0 : Nat) (l1 : Int32) (l4 : Int32) (σ : kdM), k163 l0 l1 l4 σ = some (r, σ1) → SW E G (.inl (some (.int r), σ1)) A 8 σ 163 [(0, kr E l0), (1, .int l1), (4, .int l4)] []) {σ : kdM} {l0 : Nat} {l1 : Int32} {l4 : Int32} (h : X12_bound_163B G k163 l0 l1 l4 σ = some (r, σ1)) : SW E G (.inl (some (.int r), σ1)) A 8 σ 163 [(0, kr E l0), (1, .int l1), (4, .int l4)] [] := by
  unfold X12_bound_163B at h
  refine r_iload hX dX12_bound_163 2 rfl ?_
  refine r_aload_n hX dX12_bound_165 rfl 0 rfl ?_
  refine r_gI hX dX12_bound_166 kf_X12_374 rfl h ?_
  clear h; intro t1 h
  refine r_icmp_ge (tgt := 223) hX dX12_bound_169 (by decide) h ?_ ?_
  · clear h; intro h
    refine r_iload_n hX dX12_bound_223 rfl 1 rfl ?_
    exact r_iret hX dX12_bound_224 h
  · clear h; intro h
    refine r_iconst hX dX12_bound_172 kk_i_0 ?_
    refine r_istore (L2 := [(5, .int (0 : Int32)), (0, kr E l0), (1, .int l1), (4, .int l4)]) hX dX12_bound_173 (by decide) rfl ?_
    refine r_sub [1, 2, 3, 0] rfl ?_
    exact wX12_bound_175 hX k163 hk163 _ _ _ _ _ h
def X12_bound_163 (G : kdS) : Nat → Int32 → Int32 → kdM → Option (Int32 × kdM) := lp (fun _ _ _ _ => none) (X12_bound_163B G) NN
theorem wX12_bound_163 {E : kdE} {G : kdS} {A : kdA} {r : Int32} {σ1 : kdM} (hX : kdX E A cX12_bound 8 RX12 (some .int) 0) : ∀ (l0 : Nat) (l1 : Int32) (l4 : Int32) (σ : kdM), X12_bound_163 G l0 l1 l4 σ = some (r, σ1) → SW E G (.inl (some (.int r), σ1)) A 8 σ 163 [(0, kr E l0), (1, .int l1), (4, .int l4)] [] :=
  lp_ind (Q := fun f => ∀ (l0 : Nat) (l1 : Int32) (l4 : Int32) (σ : kdM), f l0 l1 l4 σ = some (r, σ1) → SW E G (.inl (some (.int r), σ1)) A 8 σ 163 [(0, kr E l0), (1, .int l1), (4, .int l4)] []) (by intros; contradiction) (fun k hk l0 l1 l4 σ h => wX12_bound_163B hX k hk h) NN
def X12_bound_9B (G : kdS) (k9 : Nat → Int32 → Int32 → Int32 → Int32 → kdM → Option (Int32 × kdM)) (l0 : Nat) (l1 : Int32) (l2 : Int32) (l3 : Int32) (l4 : Int32) : kdM → Option (Int32 × kdM) :=
  gI G 12 55 l0 fun t1 =>
  cnd (t1 ≤ l4)
    (X12_bound_163 G l0 l1 (0 : Int32))
    (X12_bound_27 G k9 l0 l1 l2 l3 l4 (-1 : Int32) (-1 : Int32) (0 : Int32))
set_option maxRecDepth 100000 in
set_option maxHeartbeats 4000000 in
theorem wX12_bound_9B {E : kdE} {G : kdS} {A : kdA} {r : Int32} {σ1 : kdM} (hX : kdX E A cX12_bound 8 RX12 (some .int) 0) (k9 : Nat → Int32 → Int32 → Int32 → Int32 → kdM → Option (Int32 × kdM)) (hk9 : ∀ (l0 : Nat) (l1 : Int32) (l2 : Int32) (l3 : Int32) (l4 : Int32) (σ : kdM), k9 l0 l1 l2 l3 l4 σ = some (r, σ1) → SW E G (.inl (some (.int r), σ1)) A 8 σ 9 [(0, kr E l0), (1, .int l1), (2, .int l2), (3, .int l3), (4, .int l4)] []) {σ : kdM} {l0 : Nat} {l1 : Int32} {l2 : Int32} {l3 : Int32} {l4 : Int32} (h : X12_bound_9B G k9 l0 l1 l2 l3 l4 σ = some (r, σ1)) : SW E G (.inl (some (.int r), σ1)) A 8 σ 9 [(0, kr E l0), (1, .int l1), (2, .int l2), (3, .int l3), (4, .int l4)] [] := by
  unfold X12_bound_9B at h
  refine r_iload hX dX12_bound_9 4 rfl ?_
  refine r_aload_n hX dX12_bound_11 rfl 0 rfl ?_
  refine r_gI hX dX12_bound_12 kf_X12_374 rfl h ?_
  clear h; intro t1 h
  refine r_icmp_ge (tgt := 160) hX dX12_bound_15 (by decide) h ?_ ?_
  · clear h; intro h
    refine r_iconst hX dX12_bound_160 kk_i_0 ?_
    refine r_istore (L2 := [(4, .int (0 : Int32)), (0, kr E l0), (1, .int l1), (2, .int l2), (3, .int l3)]) hX dX12_bound_161 (by decide) rfl ?_
    refine r_sub [1, 2, 0] rfl ?_
    exact wX12_bound_163 hX _ _ _ _ h
  · clear h; intro h
    refine r_iconst hX dX12_bound_18 kk_i_m1 ?_
    refine r_istore (L2 := [(5, .int (-1 : Int32)), (0, kr E l0), (1, .int l1), (2, .int l2), (3, .int l3), (4, .int l4)]) hX dX12_bound_19 (by decide) rfl ?_
    refine r_iconst hX dX12_bound_21 kk_i_m1 ?_
    refine r_istore (L2 := [(6, .int (-1 : Int32)), (5, .int (-1 : Int32)), (0, kr E l0), (1, .int l1), (2, .int l2), (3, .int l3), (4, .int l4)]) hX dX12_bound_22 (by decide) rfl ?_
    refine r_iconst hX dX12_bound_24 kk_i_0 ?_
    refine r_istore (L2 := [(7, .int (0 : Int32)), (6, .int (-1 : Int32)), (5, .int (-1 : Int32)), (0, kr E l0), (1, .int l1), (2, .int l2), (3, .int l3), (4, .int l4)]) hX dX12_bound_25 (by decide) rfl ?_
    refine r_sub [3, 4, 5, 6, 7, 2, 1, 0] rfl ?_
    exact wX12_bound_27 hX k9 hk9 _ _ _ _ _ _ _ _ _ h
def X12_bound_9 (G : kdS) : Nat → Int32 → Int32 → Int32 → Int32 → kdM → Option (Int32 × kdM) := lp (fun _ _ _ _ _ _ => none) (X12_bound_9B G) NN
theorem wX12_bound_9 {E : kdE} {G : kdS} {A : kdA} {r : Int32} {σ1 : kdM} (hX : kdX E A cX12_bound 8 RX12 (some .int) 0) : ∀ (l0 : Nat) (l1 : Int32) (l2 : Int32) (l3 : Int32) (l4 : Int32) (σ : kdM), X12_bound_9 G l0 l1 l2 l3 l4 σ = some (r, σ1) → SW E G (.inl (some (.int r), σ1)) A 8 σ 9 [(0, kr E l0), (1, .int l1), (2, .int l2), (3, .int l3), (4, .int l4)] [] :=
  lp_ind (Q := fun f => ∀ (l0 : Nat) (l1 : Int32) (l2 : Int32) (l3 : Int32) (l4 : Int32) (σ : kdM), f l0 l1 l2 l3 l4 σ = some (r, σ1) → SW E G (.inl (some (.int r), σ1)) A 8 σ 9 [(0, kr E l0), (1, .int l1), (2, .int l2), (3, .int l3), (4, .int l4)] []) (by intros; contradiction) (fun k hk l0 l1 l2 l3 l4 σ h => wX12_bound_9B hX k hk h) NN
def X12_bound (G : kdS) (l0 : Nat) : kdM → Option (Int32 × kdM) :=
  X12_bound_9 G l0 (0 : Int32) (0 : Int32) (0 : Int32) (0 : Int32)
set_option maxRecDepth 100000 in
set_option maxHeartbeats 4000000 in
theorem wX12_bound {E : kdE} {G : kdS} {l0 : Nat} {σ : kdM} {r : Int32} {σ1 : kdM} (h : X12_bound G l0 σ = some (r, σ1)) : Con E G yX12_bound cX12_bound 8 (some .int) 0 [kr E l0] σ (some (.int r), σ1) := by
  refine kd_head (own := RX12) rfl (by decide +kernel) (Nat.le_of_ble_eq_true rfl) (fun A hX => ?_)
  show SW E G (.inl (some (.int r), σ1)) A 8 σ 0 [(0, kr E l0)] []
  unfold X12_bound at h
  refine r_iconst hX dX12_bound_0 kk_i_0 ?_
  refine r_istore_n (L2 := [(1, .int (0 : Int32)), (0, kr E l0)]) hX dX12_bound_1 rfl (by decide) rfl ?_
  refine r_iconst hX dX12_bound_2 kk_i_0 ?_
  refine r_istore_n (L2 := [(2, .int (0 : Int32)), (1, .int (0 : Int32)), (0, kr E l0)]) hX dX12_bound_3 rfl (by decide) rfl ?_
  refine r_iconst hX dX12_bound_4 kk_i_0 ?_
  refine r_istore_n (L2 := [(3, .int (0 : Int32)), (2, .int (0 : Int32)), (1, .int (0 : Int32)), (0, kr E l0)]) hX dX12_bound_5 rfl (by decide) rfl ?_
  refine r_iconst hX dX12_bound_6 kk_i_0 ?_
  refine r_istore (L2 := [(4, .int (0 : Int32)), (3, .int (0 : Int32)), (2, .int (0 : Int32)), (1, .int (0 : Int32)), (0, kr E l0)]) hX dX12_bound_7 (by decide) rfl ?_
  refine r_sub [4, 3, 2, 1, 0] rfl ?_
  exact wX12_bound_9 hX _ _ _ _ _ _ h
