def X12_layParts_127 (G : kdS) (k10 : Nat → Int32 → Int32 → Int32 → Int32 → Int32 → kdM → Option (Int32 × kdM)) (l0 : Nat) (l1 : Int32) (l2 : Int32) (l3 : Int32) (l5 : Int32) : kdM → Option (Int32 × kdM) :=
  gR G 12 40 l0 fun t1 =>
  aI G t1 (l5) fun t2 =>
  ltI ((l2 + t2)) fun t3 =>
  gR G 12 24 l0 fun t4 =>
  gR G 12 39 l0 fun t5 =>
  aI G t5 (l5) fun t6 =>
  aI G t4 (t6) fun t7 =>
  ltI (l3 + Int32.ofInt (-1)) fun t8 =>
  ltI (l5 + Int32.ofInt 1) fun t9 =>
  k10 l0 l1 t3 t8 t7 t9
set_option maxRecDepth 100000 in
set_option maxHeartbeats 4000000 in
theorem wX12_layParts_127 {E : kdE} {G : kdS} {A : kdA} {r : Int32} {σ1 : kdM} (hX : kdX E A cX12_layParts 9 RX12 (some .int) 3) (k10 : Nat → Int32 → Int32 → Int32 → Int32 → Int32 → kdM → Option (Int32 × kdM)) (hk10 : ∀ (l0 : Nat) (l1 : Int32) (l2 : Int32) (l3 : Int32) (l4 : Int32) (l5 : Int32) (σ : kdM), k10 l0 l1 l2 l3 l4 l5 σ = some (r, σ1) → SW E G (.inl (some (.int r), σ1)) A 9 σ 10 [(0, kr E l0), (1, .int l1), (2, .int l2), (3, .int l3), (4, .int l4), (5, .int l5)] []) {σ : kdM} {l0 : Nat} {l1 : Int32} {l2 : Int32} {l3 : Int32} {l5 : Int32} (h : X12_layParts_127 G k10 l0 l1 l2 l3 l5 σ = some (r, σ1)) : SW E G (.inl (some (.int r), σ1)) A 9 σ 127 [(0, kr E l0), (1, .int l1), (2, .int l2), (3, .int l3), (5, .int l5)] [] := by
  unfold X12_layParts_127 at h
  refine r_iload_n hX dX12_layParts_127 rfl 2 rfl ?_
  refine r_aload_n hX dX12_layParts_128 rfl 0 rfl ?_
  refine r_gR hX dX12_layParts_129 kf_X12_105 rfl h ?_
  clear h; intro t1 h
  refine r_iload hX dX12_layParts_132 4 rfl ?_
  refine r_aI hX dX12_layParts_134 h ?_
  clear h; intro t2 h
  refine r_iadd hX dX12_layParts_135 ?_
  refine r_letI h ?_
  clear h; intro t3 h
  refine r_istore_n (L2 := [(2, .int t3), (0, kr E l0), (1, .int l1), (3, .int l3), (5, .int l5)]) hX dX12_layParts_136 rfl (by decide) rfl ?_
  refine r_aload_n hX dX12_layParts_137 rfl 1 rfl ?_
  refine r_gR hX dX12_layParts_138 kf_X12_62 rfl h ?_
  clear h; intro t4 h
  refine r_aload_n hX dX12_layParts_141 rfl 1 rfl ?_
  refine r_gR hX dX12_layParts_142 kf_X12_102 rfl h ?_
  clear h; intro t5 h
  refine r_iload hX dX12_layParts_145 4 rfl ?_
  refine r_aI hX dX12_layParts_147 h ?_
  clear h; intro t6 h
  refine r_aI hX dX12_layParts_148 h ?_
  clear h; intro t7 h
  refine r_istore (L2 := [(4, .int t7), (2, .int t3), (0, kr E l0), (1, .int l1), (3, .int l3), (5, .int l5)]) hX dX12_layParts_149 (by decide) rfl ?_
  refine r_iincL (L2 := fun t8 => [(3, .int t8), (4, .int t7), (2, .int t3), (0, kr E l0), (1, .int l1), (5, .int l5)]) hX dX12_layParts_151 h 4 rfl (by decide) (fun _ => rfl) ?_
  clear h; intro t8 h
  refine r_iincL (L2 := fun t9 => [(5, .int t9), (3, .int t8), (4, .int t7), (2, .int t3), (0, kr E l0), (1, .int l1)]) hX dX12_layParts_154 h 5 rfl (by decide) (fun _ => rfl) ?_
  clear h; intro t9 h
  refine r_goto (tgt := 10) hX dX12_layParts_157 (by decide) ?_
  refine r_sub [4, 5, 3, 1, 2, 0] rfl ?_
  exact hk10 _ _ _ _ _ _ _ h
def X12_layParts_121 (G : kdS) (k10 : Nat → Int32 → Int32 → Int32 → Int32 → Int32 → kdM → Option (Int32 × kdM)) (k24 : Nat → Int32 → Int32 → Int32 → Int32 → Int32 → Int32 → Int32 → kdM → Option (Int32 × kdM)) (l0 : Nat) (l1 : Int32) (l2 : Int32) (l3 : Int32) (l4 : Int32) (l5 : Int32) (l6 : Int32) (l7 : Int32) : kdM → Option (Int32 × kdM) :=
  ltI (l7 + Int32.ofInt 1) fun t1 =>
  k24 l0 l1 l2 l3 l4 l5 l6 t1
set_option maxRecDepth 100000 in
set_option maxHeartbeats 4000000 in
theorem wX12_layParts_121 {E : kdE} {G : kdS} {A : kdA} {r : Int32} {σ1 : kdM} (hX : kdX E A cX12_layParts 9 RX12 (some .int) 3) (k10 : Nat → Int32 → Int32 → Int32 → Int32 → Int32 → kdM → Option (Int32 × kdM)) (k24 : Nat → Int32 → Int32 → Int32 → Int32 → Int32 → Int32 → Int32 → kdM → Option (Int32 × kdM)) (hk10 : ∀ (l0 : Nat) (l1 : Int32) (l2 : Int32) (l3 : Int32) (l4 : Int32) (l5 : Int32) (σ : kdM), k10 l0 l1 l2 l3 l4 l5 σ = some (r, σ1) → SW E G (.inl (some (.int r), σ1)) A 9 σ 10 [(0, kr E l0), (1, .int l1), (2, .int l2), (3, .int l3), (4, .int l4), (5, .int l5)] []) (hk24 : ∀ (l0 : Nat) (l1 : Int32) (l2 : Int32) (l3 : Int32) (l4 : Int32) (l5 : Int32) (l6 : Int32) (l7 : Int32) (σ : kdM), k24 l0 l1 l2 l3 l4 l5 l6 l7 σ = some (r, σ1) → SW E G (.inl (some (.int r), σ1)) A 9 σ 24 [(0, kr E l0), (1, .int l1), (2, .int l2), (3, .int l3), (4, .int l4), (5, .int l5), (6, .int l6), (7, .int l7)] []) {σ : kdM} {l0 : Nat} {l1 : Int32} {l2 : Int32} {l3 : Int32} {l4 : Int32} {l5 : Int32} {l6 : Int32} {l7 : Int32} (h : X12_layParts_121 G k10 k24 l0 l1 l2 l3 l4 l5 l6 l7 σ = some (r, σ1)) : SW E G (.inl (some (.int r), σ1)) A 9 σ 121 [(0, kr E l0), (1, .int l1), (2, .int l2), (3, .int l3), (4, .int l4), (5, .int l5), (6, .int l6), (7, .int l7)] [] := by
  unfold X12_layParts_121 at h
  refine r_iincL (L2 := fun t1 => [(7, .int t1), (0, kr E l0), (1, .int l1), (2, .int l2), (3, .int l3), (4, .int l4), (5, .int l5), (6, .int l6)]) hX dX12_layParts_121 h 7 rfl (by decide) (fun _ => rfl) ?_
  clear h; intro t1 h
  refine r_goto (tgt := 24) hX dX12_layParts_124 (by decide) ?_
  refine r_sub [1, 2, 3, 4, 5, 6, 7, 0] rfl ?_
  exact hk24 _ _ _ _ _ _ _ _ _ h
def X12_layParts_115 (G : kdS) (k10 : Nat → Int32 → Int32 → Int32 → Int32 → Int32 → kdM → Option (Int32 × kdM)) (k24 : Nat → Int32 → Int32 → Int32 → Int32 → Int32 → Int32 → Int32 → kdM → Option (Int32 × kdM)) (k41 : Nat → Int32 → Int32 → Int32 → Int32 → Int32 → Int32 → Int32 → Int32 → kdM → Option (Int32 × kdM)) (l0 : Nat) (l1 : Int32) (l2 : Int32) (l3 : Int32) (l4 : Int32) (l5 : Int32) (l6 : Int32) (l7 : Int32) (l8 : Int32) : kdM → Option (Int32 × kdM) :=
  ltI (l8 + Int32.ofInt 1) fun t1 =>
  k41 l0 l1 l2 l3 l4 l5 l6 l7 t1
set_option maxRecDepth 100000 in
set_option maxHeartbeats 4000000 in
theorem wX12_layParts_115 {E : kdE} {G : kdS} {A : kdA} {r : Int32} {σ1 : kdM} (hX : kdX E A cX12_layParts 9 RX12 (some .int) 3) (k10 : Nat → Int32 → Int32 → Int32 → Int32 → Int32 → kdM → Option (Int32 × kdM)) (k24 : Nat → Int32 → Int32 → Int32 → Int32 → Int32 → Int32 → Int32 → kdM → Option (Int32 × kdM)) (k41 : Nat → Int32 → Int32 → Int32 → Int32 → Int32 → Int32 → Int32 → Int32 → kdM → Option (Int32 × kdM)) (hk10 : ∀ (l0 : Nat) (l1 : Int32) (l2 : Int32) (l3 : Int32) (l4 : Int32) (l5 : Int32) (σ : kdM), k10 l0 l1 l2 l3 l4 l5 σ = some (r, σ1) → SW E G (.inl (some (.int r), σ1)) A 9 σ 10 [(0, kr E l0), (1, .int l1), (2, .int l2), (3, .int l3), (4, .int l4), (5, .int l5)] []) (hk24 : ∀ (l0 : Nat) (l1 : Int32) (l2 : Int32) (l3 : Int32) (l4 : Int32) (l5 : Int32) (l6 : Int32) (l7 : Int32) (σ : kdM), k24 l0 l1 l2 l3 l4 l5 l6 l7 σ = some (r, σ1) → SW E G (.inl (some (.int r), σ1)) A 9 σ 24 [(0, kr E l0), (1, .int l1), (2, .int l2), (3, .int l3), (4, .int l4), (5, .int l5), (6, .int l6), (7, .int l7)] []) (hk41 : ∀ (l0 : Nat) (l1 : Int32) (l2 : Int32) (l3 : Int32) (l4 : Int32) (l5 : Int32) (l6 : Int32) (l7 : Int32) (l8 : Int32) (σ : kdM), k41 l0 l1 l2 l3 l4 l5 l6 l7 l8 σ = some (r, σ1) → SW E G (.inl (some (.int r), σ1)) A 9 σ 41 [(0, kr E l0), (1, .int l1), (2, .int l2), (3, .int l3), (4, .int l4), (5, .int l5), (6, .int l6), (7, .int l7), (8, .int l8)] []) {σ : kdM} {l0 : Nat} {l1 : Int32} {l2 : Int32} {l3 : Int32} {l4 : Int32} {l5 : Int32} {l6 : Int32} {l7 : Int32} {l8 : Int32} (h : X12_layParts_115 G k10 k24 k41 l0 l1 l2 l3 l4 l5 l6 l7 l8 σ = some (r, σ1)) : SW E G (.inl (some (.int r), σ1)) A 9 σ 115 [(0, kr E l0), (1, .int l1), (2, .int l2), (3, .int l3), (4, .int l4), (5, .int l5), (6, .int l6), (7, .int l7), (8, .int l8)] [] := by
  unfold X12_layParts_115 at h
  refine r_iincL (L2 := fun t1 => [(8, .int t1), (0, kr E l0), (1, .int l1), (2, .int l2), (3, .int l3), (4, .int l4), (5, .int l5), (6, .int l6), (7, .int l7)]) hX dX12_layParts_115 h 8 rfl (by decide) (fun _ => rfl) ?_
  clear h; intro t1 h
  refine r_goto (tgt := 41) hX dX12_layParts_118 (by decide) ?_
  refine r_sub [1, 2, 3, 4, 5, 6, 7, 8, 0] rfl ?_
  exact hk41 _ _ _ _ _ _ _ _ _ _ h
def X12_layParts_41B (G : kdS) (k10 : Nat → Int32 → Int32 → Int32 → Int32 → Int32 → kdM → Option (Int32 × kdM)) (k24 : Nat → Int32 → Int32 → Int32 → Int32 → Int32 → Int32 → Int32 → kdM → Option (Int32 × kdM)) (k41 : Nat → Int32 → Int32 → Int32 → Int32 → Int32 → Int32 → Int32 → Int32 → kdM → Option (Int32 × kdM)) (l0 : Nat) (l1 : Int32) (l2 : Int32) (l3 : Int32) (l4 : Int32) (l5 : Int32) (l6 : Int32) (l7 : Int32) (l8 : Int32) : kdM → Option (Int32 × kdM) :=
  cnd ((10 : Int32) < l8)
    (X12_layParts_121 G k10 k24 l0 l1 l2 l3 l4 l5 l6 l7)
    (gI G 12 1 l0 fun t1 =>
    cnd (t1 < (l2 + l8))
      (X12_layParts_121 G k10 k24 l0 l1 l2 l3 l4 l5 l6 l7)
      (gR G 12 24 l0 fun t2 =>
      aI G t2 (l7) fun t3 =>
      cnd (((l1 >>> (t3 &&& 31)) &&& (1 : Int32)) = (1 : Int32))
        (cnd (l6 = 0)
          (kcv G 12 l0 (X12_isBestPart G l0 l2 l3 l4 l7 l8) fun t4 =>
          cnd (t4 = 0)
            (X12_layParts_115 G k10 k24 k41 l0 l1 l2 l3 l4 l5 l6 l7 l8)
            (gR G 12 39 l0 fun t5 =>
            tI G t5 (l5) (l7) <|
            gR G 12 40 l0 fun t6 =>
            tI G t6 (l5) (l8) <|
            X12_layParts_115 G k10 k24 k41 l0 l1 l2 l3 l4 l5 (1 : Int32) l7 l8))
          (X12_layParts_121 G k10 k24 l0 l1 l2 l3 l4 l5 l6 l7))
        (X12_layParts_121 G k10 k24 l0 l1 l2 l3 l4 l5 l6 l7)))
set_option maxRecDepth 100000 in
set_option maxHeartbeats 4000000 in
theorem wX12_layParts_41B {E : kdE} {G : kdS} {A : kdA} {r : Int32} {σ1 : kdM} (hX : kdX E A cX12_layParts 9 RX12 (some .int) 3) (k10 : Nat → Int32 → Int32 → Int32 → Int32 → Int32 → kdM → Option (Int32 × kdM)) (k24 : Nat → Int32 → Int32 → Int32 → Int32 → Int32 → Int32 → Int32 → kdM → Option (Int32 × kdM)) (k41 : Nat → Int32 → Int32 → Int32 → Int32 → Int32 → Int32 → Int32 → Int32 → kdM → Option (Int32 × kdM)) (hk10 : ∀ (l0 : Nat) (l1 : Int32) (l2 : Int32) (l3 : Int32) (l4 : Int32) (l5 : Int32) (σ : kdM), k10 l0 l1 l2 l3 l4 l5 σ = some (r, σ1) → SW E G (.inl (some (.int r), σ1)) A 9 σ 10 [(0, kr E l0), (1, .int l1), (2, .int l2), (3, .int l3), (4, .int l4), (5, .int l5)] []) (hk24 : ∀ (l0 : Nat) (l1 : Int32) (l2 : Int32) (l3 : Int32) (l4 : Int32) (l5 : Int32) (l6 : Int32) (l7 : Int32) (σ : kdM), k24 l0 l1 l2 l3 l4 l5 l6 l7 σ = some (r, σ1) → SW E G (.inl (some (.int r), σ1)) A 9 σ 24 [(0, kr E l0), (1, .int l1), (2, .int l2), (3, .int l3), (4, .int l4), (5, .int l5), (6, .int l6), (7, .int l7)] []) (hk41 : ∀ (l0 : Nat) (l1 : Int32) (l2 : Int32) (l3 : Int32) (l4 : Int32) (l5 : Int32) (l6 : Int32) (l7 : Int32) (l8 : Int32) (σ : kdM), k41 l0 l1 l2 l3 l4 l5 l6 l7 l8 σ = some (r, σ1) → SW E G (.inl (some (.int r), σ1)) A 9 σ 41 [(0, kr E l0), (1, .int l1), (2, .int l2), (3, .int l3), (4, .int l4), (5, .int l5), (6, .int l6), (7, .int l7), (8, .int l8)] []) {σ : kdM} {l0 : Nat} {l1 : Int32} {l2 : Int32} {l3 : Int32} {l4 : Int32} {l5 : Int32} {l6 : Int32} {l7 : Int32} {l8 : Int32} (h : X12_layParts_41B G k10 k24 k41 l0 l1 l2 l3 l4 l5 l6 l7 l8 σ = some (r, σ1)) : SW E G (.inl (some (.int r), σ1)) A 9 σ 41 [(0, kr E l0), (1, .int l1), (2, .int l2), (3, .int l3), (4, .int l4), (5, .int l5), (6, .int l6), (7, .int l7), (8, .int l8)] [] := by
  unfold X12_layParts_41B at h
  refine r_iload hX dX12_layParts_41 8 rfl ?_
  refine r_bipush hX dX12_layParts_43 kk_b_10 ?_
  refine r_icmp_gt (tgt := 121) hX dX12_layParts_45 (by decide) h ?_ ?_
  · clear h; intro h
    refine r_sub [0, 1, 2, 3, 4, 5, 6, 7] rfl ?_
    exact wX12_layParts_121 hX k10 k24 hk10 hk24 h
  · clear h; intro h
    refine r_iload_n hX dX12_layParts_48 rfl 2 rfl ?_
    refine r_iload hX dX12_layParts_49 8 rfl ?_
    refine r_iadd hX dX12_layParts_51 ?_
    refine r_aload_n hX dX12_layParts_52 rfl 0 rfl ?_
    refine r_gI hX dX12_layParts_53 kf_X12_182 rfl h ?_
    clear h; intro t1 h
    refine r_icmp_gt (tgt := 121) hX dX12_layParts_56 (by decide) h ?_ ?_
    · clear h; intro h
      refine r_sub [0, 1, 2, 3, 4, 5, 6, 7] rfl ?_
      exact wX12_layParts_121 hX k10 k24 hk10 hk24 h
    · clear h; intro h
      refine r_iload_n hX dX12_layParts_59 rfl 1 rfl ?_
      refine r_aload_n hX dX12_layParts_60 rfl 0 rfl ?_
      refine r_gR hX dX12_layParts_61 kf_X12_62 rfl h ?_
      clear h; intro t2 h
      refine r_iload hX dX12_layParts_64 7 rfl ?_
      refine r_aI hX dX12_layParts_66 h ?_
      clear h; intro t3 h
      refine r_ishr hX dX12_layParts_67 ?_
      refine r_iconst hX dX12_layParts_68 kk_i_1 ?_
      refine r_iand hX dX12_layParts_69 ?_
      refine r_iconst hX dX12_layParts_70 kk_i_1 ?_
      refine r_icmp_ne (tgt := 121) hX dX12_layParts_71 (by decide) h ?_ ?_
      · clear h; intro h
        refine r_iload hX dX12_layParts_74 6 rfl ?_
        refine r_if_ne (tgt := 121) hX dX12_layParts_76 (by decide) h ?_ ?_
        · clear h; intro h
          refine r_aload_n hX dX12_layParts_79 rfl 0 rfl ?_
          refine r_iload_n hX dX12_layParts_80 rfl 2 rfl ?_
          refine r_iload_n hX dX12_layParts_81 rfl 3 rfl ?_
          refine r_iload hX dX12_layParts_82 4 rfl ?_
          refine r_iload hX dX12_layParts_84 7 rfl ?_
          refine r_iload hX dX12_layParts_86 8 rfl ?_
          refine r_cVi (As := [.int l2, .int l3, .int l4, .int l7, .int l8]) (st := []) hX dX12_layParts_88 kl_X12_isBestPart w_ml_X12_317 w_im_X12_isBestPart w_se_X12_isBestPart ⟨_, _, rfl⟩ (by decide) rfl (Nat.le_of_ble_eq_true rfl) rfl kdz0 h (fun r σ1 h => wX12_isBestPart h) ?_
          clear h; intro t4 σ h
          refine r_if_eq (tgt := 115) hX dX12_layParts_91 (by decide) h ?_ ?_
          · clear h; intro h
            refine r_sub [0, 1, 2, 3, 4, 5, 6, 7, 8] rfl ?_
            exact wX12_layParts_115 hX k10 k24 k41 hk10 hk24 hk41 h
          · clear h; intro h
            refine r_aload_n hX dX12_layParts_94 rfl 0 rfl ?_
            refine r_gR hX dX12_layParts_95 kf_X12_102 rfl h ?_
            clear h; intro t5 h
            refine r_iload hX dX12_layParts_98 5 rfl ?_
            refine r_iload hX dX12_layParts_100 7 rfl ?_
            refine r_tI hX dX12_layParts_102 h ?_
            clear h; intro σ h
            refine r_aload_n hX dX12_layParts_103 rfl 0 rfl ?_
            refine r_gR hX dX12_layParts_104 kf_X12_105 rfl h ?_
            clear h; intro t6 h
            refine r_iload hX dX12_layParts_107 5 rfl ?_
            refine r_iload hX dX12_layParts_109 8 rfl ?_
            refine r_tI hX dX12_layParts_111 h ?_
            clear h; intro σ h
            refine r_iconst hX dX12_layParts_112 kk_i_1 ?_
            refine r_istore (L2 := [(6, .int (1 : Int32)), (0, kr E l0), (1, .int l1), (2, .int l2), (3, .int l3), (4, .int l4), (5, .int l5), (7, .int l7), (8, .int l8)]) hX dX12_layParts_113 (by decide) rfl ?_
            refine r_sub [1, 2, 3, 4, 5, 6, 0, 7, 8] rfl ?_
            exact wX12_layParts_115 hX k10 k24 k41 hk10 hk24 hk41 h
        · clear h; intro h
          refine r_sub [0, 1, 2, 3, 4, 5, 6, 7] rfl ?_
          exact wX12_layParts_121 hX k10 k24 hk10 hk24 h
      · clear h; intro h
        refine r_sub [0, 1, 2, 3, 4, 5, 6, 7] rfl ?_
        exact wX12_layParts_121 hX k10 k24 hk10 hk24 h
def X12_layParts_41 (G : kdS) (k10 : Nat → Int32 → Int32 → Int32 → Int32 → Int32 → kdM → Option (Int32 × kdM)) (k24 : Nat → Int32 → Int32 → Int32 → Int32 → Int32 → Int32 → Int32 → kdM → Option (Int32 × kdM)) : Nat → Int32 → Int32 → Int32 → Int32 → Int32 → Int32 → Int32 → Int32 → kdM → Option (Int32 × kdM) := lp (fun _ _ _ _ _ _ _ _ _ _ => none) (X12_layParts_41B G k10 k24) NN
theorem wX12_layParts_41 {E : kdE} {G : kdS} {A : kdA} {r : Int32} {σ1 : kdM} (hX : kdX E A cX12_layParts 9 RX12 (some .int) 3) (k10 : Nat → Int32 → Int32 → Int32 → Int32 → Int32 → kdM → Option (Int32 × kdM)) (k24 : Nat → Int32 → Int32 → Int32 → Int32 → Int32 → Int32 → Int32 → kdM → Option (Int32 × kdM)) (hk10 : ∀ (l0 : Nat) (l1 : Int32) (l2 : Int32) (l3 : Int32) (l4 : Int32) (l5 : Int32) (σ : kdM), k10 l0 l1 l2 l3 l4 l5 σ = some (r, σ1) → SW E G (.inl (some (.int r), σ1)) A 9 σ 10 [(0, kr E l0), (1, .int l1), (2, .int l2), (3, .int l3), (4, .int l4), (5, .int l5)] []) (hk24 : ∀ (l0 : Nat) (l1 : Int32) (l2 : Int32) (l3 : Int32) (l4 : Int32) (l5 : Int32) (l6 : Int32) (l7 : Int32) (σ : kdM), k24 l0 l1 l2 l3 l4 l5 l6 l7 σ = some (r, σ1) → SW E G (.inl (some (.int r), σ1)) A 9 σ 24 [(0, kr E l0), (1, .int l1), (2, .int l2), (3, .int l3), (4, .int l4), (5, .int l5), (6, .int l6), (7, .int l7)] []) : ∀ (l0 : Nat) (l1 : Int32) (l2 : Int32) (l3 : Int32) (l4 : Int32) (l5 : Int32) (l6 : Int32) (l7 : Int32) (l8 : Int32) (σ : kdM), X12_layParts_41 G k10 k24 l0 l1 l2 l3 l4 l5 l6 l7 l8 σ = some (r, σ1) → SW E G (.inl (some (.int r), σ1)) A 9 σ 41 [(0, kr E l0), (1, .int l1), (2, .int l2), (3, .int l3), (4, .int l4), (5, .int l5), (6, .int l6), (7, .int l7), (8, .int l8)] [] :=
  lp_ind (Q := fun f => ∀ (l0 : Nat) (l1 : Int32) (l2 : Int32) (l3 : Int32) (l4 : Int32) (l5 : Int32) (l6 : Int32) (l7 : Int32) (l8 : Int32) (σ : kdM), f l0 l1 l2 l3 l4 l5 l6 l7 l8 σ = some (r, σ1) → SW E G (.inl (some (.int r), σ1)) A 9 σ 41 [(0, kr E l0), (1, .int l1), (2, .int l2), (3, .int l3), (4, .int l4), (5, .int l5), (6, .int l6), (7, .int l7), (8, .int l8)] []) (by intros; contradiction) (fun k hk l0 l1 l2 l3 l4 l5 l6 l7 l8 σ h => wX12_layParts_41B hX k10 k24 k hk10 hk24 hk h) NN
def X12_layParts_24B (G : kdS) (k10 : Nat → Int32 → Int32 → Int32 → Int32 → Int32 → kdM → Option (Int32 × kdM)) (k24 : Nat → Int32 → Int32 → Int32 → Int32 → Int32 → Int32 → Int32 → kdM → Option (Int32 × kdM)) (l0 : Nat) (l1 : Int32) (l2 : Int32) (l3 : Int32) (l4 : Int32) (l5 : Int32) (l6 : Int32) (l7 : Int32) : kdM → Option (Int32 × kdM) :=
  gI G 12 29 l0 fun t1 =>
  cnd (t1 ≤ l7)
    (X12_layParts_127 G k10 l0 l1 l2 l3 l5)
    (cnd (l6 = 0)
      (X12_layParts_41 G k10 k24 l0 l1 l2 l3 l4 l5 l6 l7 (1 : Int32))
      (X12_layParts_127 G k10 l0 l1 l2 l3 l5))
set_option maxRecDepth 100000 in
set_option maxHeartbeats 4000000 in
theorem wX12_layParts_24B {E : kdE} {G : kdS} {A : kdA} {r : Int32} {σ1 : kdM} (hX : kdX E A cX12_layParts 9 RX12 (some .int) 3) (k10 : Nat → Int32 → Int32 → Int32 → Int32 → Int32 → kdM → Option (Int32 × kdM)) (k24 : Nat → Int32 → Int32 → Int32 → Int32 → Int32 → Int32 → Int32 → kdM → Option (Int32 × kdM)) (hk10 : ∀ (l0 : Nat) (l1 : Int32) (l2 : Int32) (l3 : Int32) (l4 : Int32) (l5 : Int32) (σ : kdM), k10 l0 l1 l2 l3 l4 l5 σ = some (r, σ1) → SW E G (.inl (some (.int r), σ1)) A 9 σ 10 [(0, kr E l0), (1, .int l1), (2, .int l2), (3, .int l3), (4, .int l4), (5, .int l5)] []) (hk24 : ∀ (l0 : Nat) (l1 : Int32) (l2 : Int32) (l3 : Int32) (l4 : Int32) (l5 : Int32) (l6 : Int32) (l7 : Int32) (σ : kdM), k24 l0 l1 l2 l3 l4 l5 l6 l7 σ = some (r, σ1) → SW E G (.inl (some (.int r), σ1)) A 9 σ 24 [(0, kr E l0), (1, .int l1), (2, .int l2), (3, .int l3), (4, .int l4), (5, .int l5), (6, .int l6), (7, .int l7)] []) {σ : kdM} {l0 : Nat} {l1 : Int32} {l2 : Int32} {l3 : Int32} {l4 : Int32} {l5 : Int32} {l6 : Int32} {l7 : Int32} (h : X12_layParts_24B G k10 k24 l0 l1 l2 l3 l4 l5 l6 l7 σ = some (r, σ1)) : SW E G (.inl (some (.int r), σ1)) A 9 σ 24 [(0, kr E l0), (1, .int l1), (2, .int l2), (3, .int l3), (4, .int l4), (5, .int l5), (6, .int l6), (7, .int l7)] [] := by
  unfold X12_layParts_24B at h
  refine r_iload hX dX12_layParts_24 7 rfl ?_
  refine r_aload_n hX dX12_layParts_26 rfl 0 rfl ?_
  refine r_gI hX dX12_layParts_27 kf_X12_244 rfl h ?_
  clear h; intro t1 h
  refine r_icmp_ge (tgt := 127) hX dX12_layParts_30 (by decide) h ?_ ?_
  · clear h; intro h
    refine r_sub [0, 1, 2, 3, 5] rfl ?_
    exact wX12_layParts_127 hX k10 hk10 h
  · clear h; intro h
    refine r_iload hX dX12_layParts_33 6 rfl ?_
    refine r_if_ne (tgt := 127) hX dX12_layParts_35 (by decide) h ?_ ?_
    · clear h; intro h
      refine r_iconst hX dX12_layParts_38 kk_i_1 ?_
      refine r_istore (L2 := [(8, .int (1 : Int32)), (0, kr E l0), (1, .int l1), (2, .int l2), (3, .int l3), (4, .int l4), (5, .int l5), (6, .int l6), (7, .int l7)]) hX dX12_layParts_39 (by decide) rfl ?_
      refine r_sub [1, 2, 3, 4, 5, 6, 7, 8, 0] rfl ?_
      exact wX12_layParts_41 hX k10 k24 hk10 hk24 _ _ _ _ _ _ _ _ _ _ h
    · clear h; intro h
      refine r_sub [0, 1, 2, 3, 5] rfl ?_
      exact wX12_layParts_127 hX k10 hk10 h
def X12_layParts_24 (G : kdS) (k10 : Nat → Int32 → Int32 → Int32 → Int32 → Int32 → kdM → Option (Int32 × kdM)) : Nat → Int32 → Int32 → Int32 → Int32 → Int32 → Int32 → Int32 → kdM → Option (Int32 × kdM) := lp (fun _ _ _ _ _ _ _ _ _ => none) (X12_layParts_24B G k10) NN
theorem wX12_layParts_24 {E : kdE} {G : kdS} {A : kdA} {r : Int32} {σ1 : kdM} (hX : kdX E A cX12_layParts 9 RX12 (some .int) 3) (k10 : Nat → Int32 → Int32 → Int32 → Int32 → Int32 → kdM → Option (Int32 × kdM)) (hk10 : ∀ (l0 : Nat) (l1 : Int32) (l2 : Int32) (l3 : Int32) (l4 : Int32) (l5 : Int32) (σ : kdM), k10 l0 l1 l2 l3 l4 l5 σ = some (r, σ1) → SW E G (.inl (some (.int r), σ1)) A 9 σ 10 [(0, kr E l0), (1, .int l1), (2, .int l2), (3, .int l3), (4, .int l4), (5, .int l5)] []) : ∀ (l0 : Nat) (l1 : Int32) (l2 : Int32) (l3 : Int32) (l4 : Int32) (l5 : Int32) (l6 : Int32) (l7 : Int32) (σ : kdM), X12_layParts_24 G k10 l0 l1 l2 l3 l4 l5 l6 l7 σ = some (r, σ1) → SW E G (.inl (some (.int r), σ1)) A 9 σ 24 [(0, kr E l0), (1, .int l1), (2, .int l2), (3, .int l3), (4, .int l4), (5, .int l5), (6, .int l6), (7, .int l7)] [] :=
  lp_ind (Q := fun f => ∀ (l0 : Nat) (l1 : Int32) (l2 : Int32) (l3 : Int32) (l4 : Int32) (l5 : Int32) (l6 : Int32) (l7 : Int32) (σ : kdM), f l0 l1 l2 l3 l4 l5 l6 l7 σ = some (r, σ1) → SW E G (.inl (some (.int r), σ1)) A 9 σ 24 [(0, kr E l0), (1, .int l1), (2, .int l2), (3, .int l3), (4, .int l4), (5, .int l5), (6, .int l6), (7, .int l7)] []) (by intros; contradiction) (fun k hk l0 l1 l2 l3 l4 l5 l6 l7 σ h => wX12_layParts_24B hX k10 k hk10 hk h) NN
def X12_layParts_10B (G : kdS) (k10 : Nat → Int32 → Int32 → Int32 → Int32 → Int32 → kdM → Option (Int32 × kdM)) (l0 : Nat) (l1 : Int32) (l2 : Int32) (l3 : Int32) (l4 : Int32) (l5 : Int32) : kdM → Option (Int32 × kdM) :=
  gI G 12 1 l0 fun t1 =>
  cnd (t1 ≤ l2)
    (rt l5)
    (X12_layParts_24 G k10 l0 l1 l2 l3 l4 l5 (0 : Int32) (0 : Int32))
set_option maxRecDepth 100000 in
set_option maxHeartbeats 4000000 in
theorem wX12_layParts_10B {E : kdE} {G : kdS} {A : kdA} {r : Int32} {σ1 : kdM} (hX : kdX E A cX12_layParts 9 RX12 (some .int) 3) (k10 : Nat → Int32 → Int32 → Int32 → Int32 → Int32 → kdM → Option (Int32 × kdM)) (hk10 : ∀ (l0 : Nat) (l1 : Int32) (l2 : Int32) (l3 : Int32) (l4 : Int32) (l5 : Int32) (σ : kdM), k10 l0 l1 l2 l3 l4 l5 σ = some (r, σ1) → SW E G (.inl (some (.int r), σ1)) A 9 σ 10 [(0, kr E l0), (1, .int l1), (2, .int l2), (3, .int l3), (4, .int l4), (5, .int l5)] []) {σ : kdM} {l0 : Nat} {l1 : Int32} {l2 : Int32} {l3 : Int32} {l4 : Int32} {l5 : Int32} (h : X12_layParts_10B G k10 l0 l1 l2 l3 l4 l5 σ = some (r, σ1)) : SW E G (.inl (some (.int r), σ1)) A 9 σ 10 [(0, kr E l0), (1, .int l1), (2, .int l2), (3, .int l3), (4, .int l4), (5, .int l5)] [] := by
  unfold X12_layParts_10B at h
  refine r_iload_n hX dX12_layParts_10 rfl 2 rfl ?_
  refine r_aload_n hX dX12_layParts_11 rfl 0 rfl ?_
  refine r_gI hX dX12_layParts_12 kf_X12_182 rfl h ?_
  clear h; intro t1 h
  refine r_icmp_ge (tgt := 160) hX dX12_layParts_15 (by decide) h ?_ ?_
  · clear h; intro h
    refine r_iload hX dX12_layParts_160 5 rfl ?_
    exact r_iret hX dX12_layParts_162 h
  · clear h; intro h
    refine r_iconst hX dX12_layParts_18 kk_i_0 ?_
    refine r_istore (L2 := [(6, .int (0 : Int32)), (0, kr E l0), (1, .int l1), (2, .int l2), (3, .int l3), (4, .int l4), (5, .int l5)]) hX dX12_layParts_19 (by decide) rfl ?_
    refine r_iconst hX dX12_layParts_21 kk_i_0 ?_
    refine r_istore (L2 := [(7, .int (0 : Int32)), (6, .int (0 : Int32)), (0, kr E l0), (1, .int l1), (2, .int l2), (3, .int l3), (4, .int l4), (5, .int l5)]) hX dX12_layParts_22 (by decide) rfl ?_
    refine r_sub [2, 3, 4, 5, 6, 7, 1, 0] rfl ?_
    exact wX12_layParts_24 hX k10 hk10 _ _ _ _ _ _ _ _ _ h
def X12_layParts_10 (G : kdS) : Nat → Int32 → Int32 → Int32 → Int32 → Int32 → kdM → Option (Int32 × kdM) := lp (fun _ _ _ _ _ _ _ => none) (X12_layParts_10B G) NN
theorem wX12_layParts_10 {E : kdE} {G : kdS} {A : kdA} {r : Int32} {σ1 : kdM} (hX : kdX E A cX12_layParts 9 RX12 (some .int) 3) : ∀ (l0 : Nat) (l1 : Int32) (l2 : Int32) (l3 : Int32) (l4 : Int32) (l5 : Int32) (σ : kdM), X12_layParts_10 G l0 l1 l2 l3 l4 l5 σ = some (r, σ1) → SW E G (.inl (some (.int r), σ1)) A 9 σ 10 [(0, kr E l0), (1, .int l1), (2, .int l2), (3, .int l3), (4, .int l4), (5, .int l5)] [] :=
  lp_ind (Q := fun f => ∀ (l0 : Nat) (l1 : Int32) (l2 : Int32) (l3 : Int32) (l4 : Int32) (l5 : Int32) (σ : kdM), f l0 l1 l2 l3 l4 l5 σ = some (r, σ1) → SW E G (.inl (some (.int r), σ1)) A 9 σ 10 [(0, kr E l0), (1, .int l1), (2, .int l2), (3, .int l3), (4, .int l4), (5, .int l5)] []) (by intros; contradiction) (fun k hk l0 l1 l2 l3 l4 l5 σ h => wX12_layParts_10B hX k hk h) NN
def X12_layParts (G : kdS) (l0 : Nat) (l1 : Int32) : kdM → Option (Int32 × kdM) :=
  X12_layParts_10 G l0 l1 (0 : Int32) (4 : Int32) (3 : Int32) (0 : Int32)
set_option maxRecDepth 100000 in
set_option maxHeartbeats 4000000 in
theorem wX12_layParts {E : kdE} {G : kdS} {l0 : Nat} {l1 : Int32} {σ : kdM} {r : Int32} {σ1 : kdM} (h : X12_layParts G l0 l1 σ = some (r, σ1)) : Con E G yX12_layParts cX12_layParts 9 (some .int) 3 [kr E l0, .int l1] σ (some (.int r), σ1) := by
  refine kd_head (own := RX12) rfl (by decide +kernel) (Nat.le_of_ble_eq_true rfl) (fun A hX => ?_)
  show SW E G (.inl (some (.int r), σ1)) A 9 σ 0 [(0, kr E l0), (1, .int l1)] []
  unfold X12_layParts at h
  refine r_iconst hX dX12_layParts_0 kk_i_0 ?_
  refine r_istore_n (L2 := [(2, .int (0 : Int32)), (0, kr E l0), (1, .int l1)]) hX dX12_layParts_1 rfl (by decide) rfl ?_
  refine r_iconst hX dX12_layParts_2 kk_i_4 ?_
  refine r_istore_n (L2 := [(3, .int (4 : Int32)), (2, .int (0 : Int32)), (0, kr E l0), (1, .int l1)]) hX dX12_layParts_3 rfl (by decide) rfl ?_
  refine r_iconst hX dX12_layParts_4 kk_i_3 ?_
  refine r_istore (L2 := [(4, .int (3 : Int32)), (3, .int (4 : Int32)), (2, .int (0 : Int32)), (0, kr E l0), (1, .int l1)]) hX dX12_layParts_5 (by decide) rfl ?_
  refine r_iconst hX dX12_layParts_7 kk_i_0 ?_
  refine r_istore (L2 := [(5, .int (0 : Int32)), (4, .int (3 : Int32)), (3, .int (4 : Int32)), (2, .int (0 : Int32)), (0, kr E l0), (1, .int l1)]) hX dX12_layParts_8 (by decide) rfl ?_
  refine r_sub [4, 5, 3, 2, 1, 0] rfl ?_
  exact wX12_layParts_10 hX _ _ _ _ _ _ _ h
def X12_whyNoParts_48 (G : kdS) (s0 : Int32) : kdM → Option (Int32 × kdM) :=
  rt s0
set_option maxRecDepth 100000 in
set_option maxHeartbeats 4000000 in
theorem wX12_whyNoParts_48 {E : kdE} {G : kdS} {A : kdA} {r : Int32} {σ1 : kdM} (hX : kdX E A cX12_whyNoParts 2 RX12 (some .int) 6) {σ : kdM} {s0 : Int32} (h : X12_whyNoParts_48 G s0 σ = some (r, σ1)) : SW E G (.inl (some (.int r), σ1)) A 2 σ 48 [] [.int s0] := by
  unfold X12_whyNoParts_48 at h
  exact r_iret hX dX12_whyNoParts_48 h
def X12_whyNoParts (G : kdS) (l0 : Nat) (l1 : Int32) : kdM → Option (Int32 × kdM) :=
  kcl (X12_areTongues G l1) fun t1 =>
  cnd (t1 = 0)
    (rt (-2 : Int32))
    (gI G 12 1 l0 fun t2 =>
    cnd (t2 = 0)
      (rt (-3 : Int32))
      (kcv G 12 l0 (X12_findParts G l0 l1) fun _ =>
      gR G 12 36 l0 fun t3 =>
      kcl (X12_placeOf G (0 : Int32) (4 : Int32) (3 : Int32)) fun t4 =>
      aI G t3 (t4) fun t5 =>
      cnd (t5 = (1000000000 : Int32))
        (X12_whyNoParts_48 G (-5 : Int32))
        (X12_whyNoParts_48 G (0 : Int32))))
set_option maxRecDepth 100000 in
set_option maxHeartbeats 4000000 in
theorem wX12_whyNoParts {E : kdE} {G : kdS} {l0 : Nat} {l1 : Int32} {σ : kdM} {r : Int32} {σ1 : kdM} (h : X12_whyNoParts G l0 l1 σ = some (r, σ1)) : Con E G yX12_whyNoParts cX12_whyNoParts 2 (some .int) 6 [kr E l0, .int l1] σ (some (.int r), σ1) := by
  refine kd_head (own := RX12) rfl (by decide +kernel) (Nat.le_of_ble_eq_true rfl) (fun A hX => ?_)
  show SW E G (.inl (some (.int r), σ1)) A 2 σ 0 [(0, kr E l0), (1, .int l1)] []
  unfold X12_whyNoParts at h
  refine r_iload_n hX dX12_whyNoParts_0 rfl 1 rfl ?_
  refine r_cSi (As := [.int l1]) (st := []) hX dX12_whyNoParts_1 kl_X12_areTongues w_ml_X12_287 w_st_X12_areTongues (by decide) rfl (Nat.le_of_ble_eq_true rfl) rfl kdz0 h (fun r σ1 h => wX12_areTongues h) ?_
  clear h; intro t1 σ h
  refine r_if_ne (tgt := 10) hX dX12_whyNoParts_4 (by decide) h ?_ ?_
  · clear h; intro h
    refine r_bipush hX dX12_whyNoParts_7 kk_b_m2 ?_
    exact r_iret hX dX12_whyNoParts_9 h
  · clear h; intro h
    refine r_aload_n hX dX12_whyNoParts_10 rfl 0 rfl ?_
    refine r_gI hX dX12_whyNoParts_11 kf_X12_182 rfl h ?_
    clear h; intro t2 h
    refine r_if_ne (tgt := 20) hX dX12_whyNoParts_14 (by decide) h ?_ ?_
    · clear h; intro h
      refine r_bipush hX dX12_whyNoParts_17 kk_b_m3 ?_
      exact r_iret hX dX12_whyNoParts_19 h
    · clear h; intro h
      refine r_aload_n hX dX12_whyNoParts_20 rfl 0 rfl ?_
      refine r_iload_n hX dX12_whyNoParts_21 rfl 1 rfl ?_
      refine r_cVv (As := [.int l1]) (st := []) hX dX12_whyNoParts_22 kl_X12_findParts w_ml_X12_321 w_im_X12_findParts w_se_X12_findParts ⟨_, _, rfl⟩ (by decide) rfl (Nat.le_of_ble_eq_true rfl) rfl kdz0 h (fun r σ1 h => wX12_findParts h) ?_
      clear h; intro u σ h
      refine r_aload_n hX dX12_whyNoParts_25 rfl 0 rfl ?_
      refine r_gR hX dX12_whyNoParts_26 kf_X12_92 rfl h ?_
      clear h; intro t3 h
      refine r_iconst hX dX12_whyNoParts_29 kk_i_0 ?_
      refine r_iconst hX dX12_whyNoParts_30 kk_i_4 ?_
      refine r_iconst hX dX12_whyNoParts_31 kk_i_3 ?_
      refine r_cSi (As := [.int (0 : Int32), .int (4 : Int32), .int (3 : Int32)]) (st := [kr E t3]) hX dX12_whyNoParts_32 kl_X12_placeOf w_ml_X12_294 w_st_X12_placeOf (by decide) rfl (Nat.le_of_ble_eq_true rfl) rfl kdz0 h (fun r σ1 h => wX12_placeOf h) ?_
      clear h; intro t4 σ h
      refine r_aI hX dX12_whyNoParts_35 h ?_
      clear h; intro t5 h
      refine r_ldc_w hX dX12_whyNoParts_36 w_ct_X12_265 ?_
      refine r_icmp_ne (tgt := 47) hX dX12_whyNoParts_39 (by decide) h ?_ ?_
      · clear h; intro h
        refine r_bipush hX dX12_whyNoParts_42 kk_b_m5 ?_
        refine r_goto (tgt := 48) hX dX12_whyNoParts_44 (by decide) ?_
        refine r_sub [] rfl ?_
        exact wX12_whyNoParts_48 hX h
      · clear h; intro h
        refine r_iconst hX dX12_whyNoParts_47 kk_i_0 ?_
        refine r_sub [] rfl ?_
        exact wX12_whyNoParts_48 hX h
def X12_part_72 (G : kdS) (s0 : Int32) : kdM → Option (Int32 × kdM) :=
  rt s0
set_option maxRecDepth 100000 in
set_option maxHeartbeats 4000000 in
theorem wX12_part_72 {E : kdE} {G : kdS} {A : kdA} {r : Int32} {σ1 : kdM} (hX : kdX E A cX12_part 5 RX12 (some .int) 7) {σ : kdM} {s0 : Int32} (h : X12_part_72 G s0 σ = some (r, σ1)) : SW E G (.inl (some (.int r), σ1)) A 5 σ 72 [] [.int s0] := by
  unfold X12_part_72 at h
  exact r_iret hX dX12_part_72 h
def X12_part (G : kdS) (l0 : Nat) (l1 : Int32) (l2 : Int32) : kdM → Option (Int32 × kdM) :=
  kcv G 12 l0 (X12_whyNoParts G l0 l1) fun t1 =>
  cnd (0 ≤ t1)
    (cnd (l2 = (-1 : Int32))
      (gR G 12 36 l0 fun t2 =>
      kcl (X12_placeOf G (0 : Int32) (4 : Int32) (3 : Int32)) fun t3 =>
      aI G t2 (t3) fun t4 =>
      rt t4)
      (kcv G 12 l0 (X12_layParts G l0 l1) fun t5 =>
      cnd (l2 = (-2 : Int32))
        (X12_part_72 G t5)
        (kcl (X12_in G (Int32.toInt64 l2) (0 : Int64) (Int32.toInt64 (t5 - (1 : Int32)))) fun t6 =>
        cnd (t6 = 0)
          (X12_part_72 G (-6 : Int32))
          (gR G 12 39 l0 fun t7 =>
          aI G t7 (l2) fun t8 =>
          X12_part_72 G t8))))
    (rt t1)
set_option maxRecDepth 100000 in
set_option maxHeartbeats 4000000 in
theorem wX12_part {E : kdE} {G : kdS} {l0 : Nat} {l1 : Int32} {l2 : Int32} {σ : kdM} {r : Int32} {σ1 : kdM} (h : X12_part G l0 l1 l2 σ = some (r, σ1)) : Con E G yX12_part cX12_part 5 (some .int) 7 [kr E l0, .int l1, .int l2] σ (some (.int r), σ1) := by
  refine kd_head (own := RX12) rfl (by decide +kernel) (Nat.le_of_ble_eq_true rfl) (fun A hX => ?_)
  show SW E G (.inl (some (.int r), σ1)) A 5 σ 0 [(0, kr E l0), (1, .int l1), (2, .int l2)] []
  unfold X12_part at h
  refine r_aload_n hX dX12_part_0 rfl 0 rfl ?_
  refine r_iload_n hX dX12_part_1 rfl 1 rfl ?_
  refine r_cVi (As := [.int l1]) (st := []) hX dX12_part_2 kl_X12_whyNoParts w_ml_X12_324 w_im_X12_whyNoParts w_se_X12_whyNoParts ⟨_, _, rfl⟩ (by decide) rfl (Nat.le_of_ble_eq_true rfl) rfl kdz0 h (fun r σ1 h => wX12_whyNoParts h) ?_
  clear h; intro t1 σ h
  refine r_istore_n (L2 := [(3, .int t1), (0, kr E l0), (1, .int l1), (2, .int l2)]) hX dX12_part_5 rfl (by decide) rfl ?_
  refine r_iload_n hX dX12_part_6 rfl 0 rfl ?_
  refine r_if_ge (tgt := 12) hX dX12_part_7 (by decide) h ?_ ?_
  · clear h; intro h
    refine r_iload_n hX dX12_part_12 rfl 3 rfl ?_
    refine r_iconst hX dX12_part_13 kk_i_m1 ?_
    refine r_icmp_ne (tgt := 29) hX dX12_part_14 (by decide) h ?_ ?_
    · clear h; intro h
      refine r_aload_n hX dX12_part_17 rfl 1 rfl ?_
      refine r_gR hX dX12_part_18 kf_X12_92 rfl h ?_
      clear h; intro t2 h
      refine r_iconst hX dX12_part_21 kk_i_0 ?_
      refine r_iconst hX dX12_part_22 kk_i_4 ?_
      refine r_iconst hX dX12_part_23 kk_i_3 ?_
      refine r_cSi (As := [.int (0 : Int32), .int (4 : Int32), .int (3 : Int32)]) (st := [kr E t2]) hX dX12_part_24 kl_X12_placeOf w_ml_X12_294 w_st_X12_placeOf (by decide) rfl (Nat.le_of_ble_eq_true rfl) rfl kdz0 h (fun r σ1 h => wX12_placeOf h) ?_
      clear h; intro t3 σ h
      refine r_aI hX dX12_part_27 h ?_
      clear h; intro t4 h
      exact r_iret hX dX12_part_28 h
    · clear h; intro h
      refine r_aload_n hX dX12_part_29 rfl 1 rfl ?_
      refine r_iload_n hX dX12_part_30 rfl 2 rfl ?_
      refine r_cVi (As := [.int l1]) (st := []) hX dX12_part_31 kl_X12_layParts w_ml_X12_327 w_im_X12_layParts w_se_X12_layParts ⟨_, _, rfl⟩ (by decide) rfl (Nat.le_of_ble_eq_true rfl) rfl kdz0 h (fun r σ1 h => wX12_layParts h) ?_
      clear h; intro t5 σ h
      refine r_istore (L2 := [(4, .int t5), (3, .int t1), (0, kr E l0), (1, .int l1), (2, .int l2)]) hX dX12_part_34 (by decide) rfl ?_
      refine r_iload_n hX dX12_part_36 rfl 4 rfl ?_
      refine r_bipush hX dX12_part_37 kk_b_m2 ?_
      refine r_icmp_ne (tgt := 47) hX dX12_part_39 (by decide) h ?_ ?_
      · clear h; intro h
        refine r_iload hX dX12_part_42 0 rfl ?_
        refine r_goto (tgt := 72) hX dX12_part_44 (by decide) ?_
        refine r_sub [] rfl ?_
        exact wX12_part_72 hX h
      · clear h; intro h
        refine r_iload_n hX dX12_part_47 rfl 4 rfl ?_
        refine r_i2l hX dX12_part_48 ?_
        refine r_lconst hX dX12_part_49 kk_l_0 ?_
        refine r_iload hX dX12_part_50 0 rfl ?_
        refine r_iconst hX dX12_part_52 kk_i_1 ?_
        refine r_isub hX dX12_part_53 ?_
        refine r_i2l hX dX12_part_54 ?_
        refine r_cSi (As := [.long (Int32.toInt64 l2), .long (0 : Int64), .long (Int32.toInt64 (t5 - (1 : Int32)))]) (st := []) hX dX12_part_55 kl_X12_in w_ml_X12_178 w_st_X12_in (by decide) rfl (Nat.le_of_ble_eq_true rfl) rfl kdz0 h (fun r σ1 h => wX12_in h) ?_
        clear h; intro t6 σ h
        refine r_if_eq (tgt := 70) hX dX12_part_58 (by decide) h ?_ ?_
        · clear h; intro h
          refine r_bipush hX dX12_part_70 kk_b_m6 ?_
          refine r_sub [] rfl ?_
          exact wX12_part_72 hX h
        · clear h; intro h
          refine r_aload_n hX dX12_part_61 rfl 2 rfl ?_
          refine r_gR hX dX12_part_62 kf_X12_102 rfl h ?_
          clear h; intro t7 h
          refine r_iload_n hX dX12_part_65 rfl 4 rfl ?_
          refine r_aI hX dX12_part_66 h ?_
          clear h; intro t8 h
          refine r_goto (tgt := 72) hX dX12_part_67 (by decide) ?_
          refine r_sub [] rfl ?_
          exact wX12_part_72 hX h
  · clear h; intro h
    refine r_iload_n hX dX12_part_10 rfl 0 rfl ?_
    exact r_iret hX dX12_part_11 h
def X12_pieceOf_44 (G : kdS) (s0 : Int32) : kdM → Option (Int32 × kdM) :=
  rt s0
set_option maxRecDepth 100000 in
set_option maxHeartbeats 4000000 in
theorem wX12_pieceOf_44 {E : kdE} {G : kdS} {A : kdA} {r : Int32} {σ1 : kdM} (hX : kdX E A cX12_pieceOf 5 RX12 (some .int) 7) {σ : kdM} {s0 : Int32} (h : X12_pieceOf_44 G s0 σ = some (r, σ1)) : SW E G (.inl (some (.int r), σ1)) A 5 σ 44 [] [.int s0] := by
  unfold X12_pieceOf_44 at h
  exact r_iret hX dX12_pieceOf_44 h
def X12_pieceOf (G : kdS) (l0 : Nat) (l1 : Int32) (l2 : Int32) : kdM → Option (Int32 × kdM) :=
  kcv G 12 l0 (X12_whyNoParts G l0 l1) fun t1 =>
  cnd (0 ≤ t1)
    (kcv G 12 l0 (X12_layParts G l0 l1) fun t2 =>
    kcl (X12_in G (Int32.toInt64 l2) (0 : Int64) (Int32.toInt64 (t2 - (1 : Int32)))) fun t3 =>
    cnd (t3 = 0)
      (X12_pieceOf_44 G (-6 : Int32))
      (gR G 12 40 l0 fun t4 =>
      aI G t4 (l2) fun t5 =>
      X12_pieceOf_44 G t5))
    (rt t1)
set_option maxRecDepth 100000 in
set_option maxHeartbeats 4000000 in
theorem wX12_pieceOf {E : kdE} {G : kdS} {l0 : Nat} {l1 : Int32} {l2 : Int32} {σ : kdM} {r : Int32} {σ1 : kdM} (h : X12_pieceOf G l0 l1 l2 σ = some (r, σ1)) : Con E G yX12_pieceOf cX12_pieceOf 5 (some .int) 7 [kr E l0, .int l1, .int l2] σ (some (.int r), σ1) := by
  refine kd_head (own := RX12) rfl (by decide +kernel) (Nat.le_of_ble_eq_true rfl) (fun A hX => ?_)
  show SW E G (.inl (some (.int r), σ1)) A 5 σ 0 [(0, kr E l0), (1, .int l1), (2, .int l2)] []
  unfold X12_pieceOf at h
  refine r_aload_n hX dX12_pieceOf_0 rfl 0 rfl ?_
  refine r_iload_n hX dX12_pieceOf_1 rfl 1 rfl ?_
  refine r_cVi (As := [.int l1]) (st := []) hX dX12_pieceOf_2 kl_X12_whyNoParts w_ml_X12_324 w_im_X12_whyNoParts w_se_X12_whyNoParts ⟨_, _, rfl⟩ (by decide) rfl (Nat.le_of_ble_eq_true rfl) rfl kdz0 h (fun r σ1 h => wX12_whyNoParts h) ?_
  clear h; intro t1 σ h
  refine r_istore_n (L2 := [(3, .int t1), (0, kr E l0), (1, .int l1), (2, .int l2)]) hX dX12_pieceOf_5 rfl (by decide) rfl ?_
  refine r_iload_n hX dX12_pieceOf_6 rfl 0 rfl ?_
  refine r_if_ge (tgt := 12) hX dX12_pieceOf_7 (by decide) h ?_ ?_
  · clear h; intro h
    refine r_aload_n hX dX12_pieceOf_12 rfl 1 rfl ?_
    refine r_iload_n hX dX12_pieceOf_13 rfl 2 rfl ?_
    refine r_cVi (As := [.int l1]) (st := []) hX dX12_pieceOf_14 kl_X12_layParts w_ml_X12_327 w_im_X12_layParts w_se_X12_layParts ⟨_, _, rfl⟩ (by decide) rfl (Nat.le_of_ble_eq_true rfl) rfl kdz0 h (fun r σ1 h => wX12_layParts h) ?_
    clear h; intro t2 σ h
    refine r_istore (L2 := [(4, .int t2), (3, .int t1), (0, kr E l0), (1, .int l1), (2, .int l2)]) hX dX12_pieceOf_17 (by decide) rfl ?_
    refine r_iload_n hX dX12_pieceOf_19 rfl 4 rfl ?_
    refine r_i2l hX dX12_pieceOf_20 ?_
    refine r_lconst hX dX12_pieceOf_21 kk_l_0 ?_
    refine r_iload hX dX12_pieceOf_22 0 rfl ?_
    refine r_iconst hX dX12_pieceOf_24 kk_i_1 ?_
    refine r_isub hX dX12_pieceOf_25 ?_
    refine r_i2l hX dX12_pieceOf_26 ?_
    refine r_cSi (As := [.long (Int32.toInt64 l2), .long (0 : Int64), .long (Int32.toInt64 (t2 - (1 : Int32)))]) (st := []) hX dX12_pieceOf_27 kl_X12_in w_ml_X12_178 w_st_X12_in (by decide) rfl (Nat.le_of_ble_eq_true rfl) rfl kdz0 h (fun r σ1 h => wX12_in h) ?_
    clear h; intro t3 σ h
    refine r_if_eq (tgt := 42) hX dX12_pieceOf_30 (by decide) h ?_ ?_
    · clear h; intro h
      refine r_bipush hX dX12_pieceOf_42 kk_b_m6 ?_
      refine r_sub [] rfl ?_
      exact wX12_pieceOf_44 hX h
    · clear h; intro h
      refine r_aload_n hX dX12_pieceOf_33 rfl 2 rfl ?_
      refine r_gR hX dX12_pieceOf_34 kf_X12_105 rfl h ?_
      clear h; intro t4 h
      refine r_iload_n hX dX12_pieceOf_37 rfl 4 rfl ?_
      refine r_aI hX dX12_pieceOf_38 h ?_
      clear h; intro t5 h
      refine r_goto (tgt := 44) hX dX12_pieceOf_39 (by decide) ?_
      refine r_sub [] rfl ?_
      exact wX12_pieceOf_44 hX h
  · clear h; intro h
    refine r_iload_n hX dX12_pieceOf_10 rfl 0 rfl ?_
    exact r_iret hX dX12_pieceOf_11 h
def X12_bothAt_32 (G : kdS) (k2 : Nat → Int32 → Int32 → Int32 → kdM → Option (Int32 × kdM)) (l0 : Nat) (l1 : Int32) (l2 : Int32) (l3 : Int32) : kdM → Option (Int32 × kdM) :=
  ltI (l3 + Int32.ofInt 1) fun t1 =>
  k2 l0 l1 l2 t1
set_option maxRecDepth 100000 in
set_option maxHeartbeats 4000000 in
theorem wX12_bothAt_32 {E : kdE} {G : kdS} {A : kdA} {r : Int32} {σ1 : kdM} (hX : kdX E A cX12_bothAt 4 RX12 (some .int) 0) (k2 : Nat → Int32 → Int32 → Int32 → kdM → Option (Int32 × kdM)) (hk2 : ∀ (l0 : Nat) (l1 : Int32) (l2 : Int32) (l3 : Int32) (σ : kdM), k2 l0 l1 l2 l3 σ = some (r, σ1) → SW E G (.inl (some (.int r), σ1)) A 4 σ 2 [(0, kr E l0), (1, .int l1), (2, .int l2), (3, .int l3)] []) {σ : kdM} {l0 : Nat} {l1 : Int32} {l2 : Int32} {l3 : Int32} (h : X12_bothAt_32 G k2 l0 l1 l2 l3 σ = some (r, σ1)) : SW E G (.inl (some (.int r), σ1)) A 4 σ 32 [(0, kr E l0), (1, .int l1), (2, .int l2), (3, .int l3)] [] := by
  unfold X12_bothAt_32 at h
  refine r_iincL (L2 := fun t1 => [(3, .int t1), (0, kr E l0), (1, .int l1), (2, .int l2)]) hX dX12_bothAt_32 h 3 rfl (by decide) (fun _ => rfl) ?_
  clear h; intro t1 h
  refine r_goto (tgt := 2) hX dX12_bothAt_35 (by decide) ?_
  refine r_sub [1, 2, 3, 0] rfl ?_
  exact hk2 _ _ _ _ _ h
def X12_bothAt_2B (G : kdS) (k2 : Nat → Int32 → Int32 → Int32 → kdM → Option (Int32 × kdM)) (l0 : Nat) (l1 : Int32) (l2 : Int32) (l3 : Int32) : kdM → Option (Int32 × kdM) :=
  gI G 12 45 l0 fun t1 =>
  cnd (t1 ≤ l3)
    (rt (-1 : Int32))
    (gR G 12 42 l0 fun t2 =>
    aI G t2 (l3) fun t3 =>
    cnd (t3 = l1)
      (gR G 12 43 l0 fun t4 =>
      aI G t4 (l3) fun t5 =>
      cnd (t5 = l2)
        (rt l3)
        (X12_bothAt_32 G k2 l0 l1 l2 l3))
      (X12_bothAt_32 G k2 l0 l1 l2 l3))
set_option maxRecDepth 100000 in
set_option maxHeartbeats 4000000 in
theorem wX12_bothAt_2B {E : kdE} {G : kdS} {A : kdA} {r : Int32} {σ1 : kdM} (hX : kdX E A cX12_bothAt 4 RX12 (some .int) 0) (k2 : Nat → Int32 → Int32 → Int32 → kdM → Option (Int32 × kdM)) (hk2 : ∀ (l0 : Nat) (l1 : Int32) (l2 : Int32) (l3 : Int32) (σ : kdM), k2 l0 l1 l2 l3 σ = some (r, σ1) → SW E G (.inl (some (.int r), σ1)) A 4 σ 2 [(0, kr E l0), (1, .int l1), (2, .int l2), (3, .int l3)] []) {σ : kdM} {l0 : Nat} {l1 : Int32} {l2 : Int32} {l3 : Int32} (h : X12_bothAt_2B G k2 l0 l1 l2 l3 σ = some (r, σ1)) : SW E G (.inl (some (.int r), σ1)) A 4 σ 2 [(0, kr E l0), (1, .int l1), (2, .int l2), (3, .int l3)] [] := by
  unfold X12_bothAt_2B at h
  refine r_iload_n hX dX12_bothAt_2 rfl 3 rfl ?_
  refine r_aload_n hX dX12_bothAt_3 rfl 0 rfl ?_
  refine r_gI hX dX12_bothAt_4 kf_X12_330 rfl h ?_
  clear h; intro t1 h
  refine r_icmp_ge (tgt := 38) hX dX12_bothAt_7 (by decide) h ?_ ?_
  · clear h; intro h
    refine r_iconst hX dX12_bothAt_38 kk_i_m1 ?_
    exact r_iret hX dX12_bothAt_39 h
  · clear h; intro h
    refine r_aload_n hX dX12_bothAt_10 rfl 0 rfl ?_
    refine r_gR hX dX12_bothAt_11 kf_X12_111 rfl h ?_
    clear h; intro t2 h
    refine r_iload_n hX dX12_bothAt_14 rfl 3 rfl ?_
    refine r_aI hX dX12_bothAt_15 h ?_
    clear h; intro t3 h
    refine r_iload_n hX dX12_bothAt_16 rfl 1 rfl ?_
    refine r_icmp_ne (tgt := 32) hX dX12_bothAt_17 (by decide) h ?_ ?_
    · clear h; intro h
      refine r_aload_n hX dX12_bothAt_20 rfl 0 rfl ?_
      refine r_gR hX dX12_bothAt_21 kf_X12_114 rfl h ?_
      clear h; intro t4 h
      refine r_iload_n hX dX12_bothAt_24 rfl 3 rfl ?_
      refine r_aI hX dX12_bothAt_25 h ?_
      clear h; intro t5 h
      refine r_iload_n hX dX12_bothAt_26 rfl 2 rfl ?_
      refine r_icmp_ne (tgt := 32) hX dX12_bothAt_27 (by decide) h ?_ ?_
      · clear h; intro h
        refine r_iload_n hX dX12_bothAt_30 rfl 3 rfl ?_
        exact r_iret hX dX12_bothAt_31 h
      · clear h; intro h
        refine r_sub [0, 1, 2, 3] rfl ?_
        exact wX12_bothAt_32 hX k2 hk2 h
    · clear h; intro h
      refine r_sub [0, 1, 2, 3] rfl ?_
      exact wX12_bothAt_32 hX k2 hk2 h
def X12_bothAt_2 (G : kdS) : Nat → Int32 → Int32 → Int32 → kdM → Option (Int32 × kdM) := lp (fun _ _ _ _ _ => none) (X12_bothAt_2B G) NN
theorem wX12_bothAt_2 {E : kdE} {G : kdS} {A : kdA} {r : Int32} {σ1 : kdM} (hX : kdX E A cX12_bothAt 4 RX12 (some .int) 0) : ∀ (l0 : Nat) (l1 : Int32) (l2 : Int32) (l3 : Int32) (σ : kdM), X12_bothAt_2 G l0 l1 l2 l3 σ = some (r, σ1) → SW E G (.inl (some (.int r), σ1)) A 4 σ 2 [(0, kr E l0), (1, .int l1), (2, .int l2), (3, .int l3)] [] :=
  lp_ind (Q := fun f => ∀ (l0 : Nat) (l1 : Int32) (l2 : Int32) (l3 : Int32) (σ : kdM), f l0 l1 l2 l3 σ = some (r, σ1) → SW E G (.inl (some (.int r), σ1)) A 4 σ 2 [(0, kr E l0), (1, .int l1), (2, .int l2), (3, .int l3)] []) (by intros; contradiction) (fun k hk l0 l1 l2 l3 σ h => wX12_bothAt_2B hX k hk h) NN
def X12_bothAt (G : kdS) (l0 : Nat) (l1 : Int32) (l2 : Int32) : kdM → Option (Int32 × kdM) :=
  X12_bothAt_2 G l0 l1 l2 (0 : Int32)
set_option maxRecDepth 100000 in
set_option maxHeartbeats 4000000 in
theorem wX12_bothAt {E : kdE} {G : kdS} {l0 : Nat} {l1 : Int32} {l2 : Int32} {σ : kdM} {r : Int32} {σ1 : kdM} (h : X12_bothAt G l0 l1 l2 σ = some (r, σ1)) : Con E G yX12_bothAt cX12_bothAt 4 (some .int) 0 [kr E l0, .int l1, .int l2] σ (some (.int r), σ1) := by
  refine kd_head (own := RX12) rfl (by decide +kernel) (Nat.le_of_ble_eq_true rfl) (fun A hX => ?_)
  show SW E G (.inl (some (.int r), σ1)) A 4 σ 0 [(0, kr E l0), (1, .int l1), (2, .int l2)] []
  unfold X12_bothAt at h
  refine r_iconst hX dX12_bothAt_0 kk_i_0 ?_
  refine r_istore_n (L2 := [(3, .int (0 : Int32)), (0, kr E l0), (1, .int l1), (2, .int l2)]) hX dX12_bothAt_1 rfl (by decide) rfl ?_
  refine r_sub [1, 2, 3, 0] rfl ?_
  exact wX12_bothAt_2 hX _ _ _ _ _ h
def X12_bothOf_21 (G : kdS) (s0 : Int32) : kdM → Option (Int32 × kdM) :=
  rt s0
set_option maxRecDepth 100000 in
set_option maxHeartbeats 4000000 in
theorem wX12_bothOf_21 {E : kdE} {G : kdS} {A : kdA} {r : Int32} {σ1 : kdM} (hX : kdX E A cX12_bothOf 4 RX12 (some .int) 1) {σ : kdM} {s0 : Int32} (h : X12_bothOf_21 G s0 σ = some (r, σ1)) : SW E G (.inl (some (.int r), σ1)) A 4 σ 21 [] [.int s0] := by
  unfold X12_bothOf_21 at h
  exact r_iret hX dX12_bothOf_21 h
def X12_bothOf (G : kdS) (l0 : Nat) (l1 : Int32) (l2 : Int32) : kdM → Option (Int32 × kdM) :=
  kcv G 12 l0 (X12_bothAt G l0 l1 l2) fun t1 =>
  cnd (0 ≤ t1)
    (gR G 12 44 l0 fun t2 =>
    aI G t2 (t1) fun t3 =>
    X12_bothOf_21 G t3)
    (X12_bothOf_21 G (0 : Int32))
set_option maxRecDepth 100000 in
set_option maxHeartbeats 4000000 in
theorem wX12_bothOf {E : kdE} {G : kdS} {l0 : Nat} {l1 : Int32} {l2 : Int32} {σ : kdM} {r : Int32} {σ1 : kdM} (h : X12_bothOf G l0 l1 l2 σ = some (r, σ1)) : Con E G yX12_bothOf cX12_bothOf 4 (some .int) 1 [kr E l0, .int l1, .int l2] σ (some (.int r), σ1) := by
  refine kd_head (own := RX12) rfl (by decide +kernel) (Nat.le_of_ble_eq_true rfl) (fun A hX => ?_)
  show SW E G (.inl (some (.int r), σ1)) A 4 σ 0 [(0, kr E l0), (1, .int l1), (2, .int l2)] []
  unfold X12_bothOf at h
  refine r_aload_n hX dX12_bothOf_0 rfl 0 rfl ?_
  refine r_iload_n hX dX12_bothOf_1 rfl 1 rfl ?_
  refine r_iload_n hX dX12_bothOf_2 rfl 2 rfl ?_
  refine r_cVi (As := [.int l1, .int l2]) (st := []) hX dX12_bothOf_3 kl_X12_bothAt w_ml_X12_333 w_im_X12_bothAt w_se_X12_bothAt ⟨_, _, rfl⟩ (by decide) rfl (Nat.le_of_ble_eq_true rfl) rfl kdz0 h (fun r σ1 h => wX12_bothAt h) ?_
  clear h; intro t1 σ h
  refine r_istore_n (L2 := [(3, .int t1), (0, kr E l0), (1, .int l1), (2, .int l2)]) hX dX12_bothOf_6 rfl (by decide) rfl ?_
  refine r_iload_n hX dX12_bothOf_7 rfl 0 rfl ?_
  refine r_if_ge (tgt := 15) hX dX12_bothOf_8 (by decide) h ?_ ?_
  · clear h; intro h
    refine r_aload_n hX dX12_bothOf_15 rfl 1 rfl ?_
    refine r_gR hX dX12_bothOf_16 kf_X12_117 rfl h ?_
    clear h; intro t2 h
    refine r_iload_n hX dX12_bothOf_19 rfl 0 rfl ?_
    refine r_aI hX dX12_bothOf_20 h ?_
    clear h; intro t3 h
    refine r_sub [] rfl ?_
    exact wX12_bothOf_21 hX h
  · clear h; intro h
    refine r_iconst hX dX12_bothOf_11 kk_i_0 ?_
    refine r_goto (tgt := 21) hX dX12_bothOf_12 (by decide) ?_
    refine r_sub [] rfl ?_
    exact wX12_bothOf_21 hX h
def X12_both_16 (G : kdS) : kdM → Option (Int32 × kdM) :=
  rt (-1 : Int32)
set_option maxRecDepth 100000 in
set_option maxHeartbeats 4000000 in
theorem wX12_both_16 {E : kdE} {G : kdS} {A : kdA} {r : Int32} {σ1 : kdM} (hX : kdX E A cX12_both 6 RX12 (some .int) 2) {σ : kdM} (h : X12_both_16 G  σ = some (r, σ1)) : SW E G (.inl (some (.int r), σ1)) A 6 σ 16 [] [] := by
  unfold X12_both_16 at h
  refine r_iconst hX dX12_both_16 kk_i_m1 ?_
  exact r_iret hX dX12_both_17 h
def X12_both_186 (G : kdS) (l5 : Int32) : kdM → Option (Int32 × kdM) :=
  rt l5
set_option maxRecDepth 100000 in
set_option maxHeartbeats 4000000 in
theorem wX12_both_186 {E : kdE} {G : kdS} {A : kdA} {r : Int32} {σ1 : kdM} (hX : kdX E A cX12_both 6 RX12 (some .int) 2) {σ : kdM} {l5 : Int32} (h : X12_both_186 G l5 σ = some (r, σ1)) : SW E G (.inl (some (.int r), σ1)) A 6 σ 186 [(5, .int l5)] [] := by
  unfold X12_both_186 at h
  refine r_iload hX dX12_both_186 0 rfl ?_
  exact r_iret hX dX12_both_188 h
def X12_both_111 (G : kdS) (l0 : Nat) (l3 : Int32) (l4 : Int32) (l5 : Int32) : kdM → Option (Int32 × kdM) :=
  cnd (l4 < 0)
    (X12_both_186 G l5)
    (gR G 12 44 l0 fun t1 =>
    tI G t1 (l4) (l3) <|
    cnd (l3 = 0)
      (gI G 12 45 l0 fun t2 =>
      sI G 12 45 l0 ((t2 - (1 : Int32))) <|
      gR G 12 42 l0 fun t3 =>
      gR G 12 42 l0 fun t4 =>
      gI G 12 45 l0 fun t5 =>
      aI G t4 (t5) fun t6 =>
      tI G t3 (l4) (t6) <|
      gR G 12 43 l0 fun t7 =>
      gR G 12 43 l0 fun t8 =>
      gI G 12 45 l0 fun t9 =>
      aI G t8 (t9) fun t10 =>
      tI G t7 (l4) (t10) <|
      gR G 12 44 l0 fun t11 =>
      gR G 12 44 l0 fun t12 =>
      gI G 12 45 l0 fun t13 =>
      aI G t12 (t13) fun t14 =>
      tI G t11 (l4) (t14) <|
      X12_both_186 G l5)
      (X12_both_186 G l5))
set_option maxRecDepth 100000 in
set_option maxHeartbeats 4000000 in
theorem wX12_both_111 {E : kdE} {G : kdS} {A : kdA} {r : Int32} {σ1 : kdM} (hX : kdX E A cX12_both 6 RX12 (some .int) 2) {σ : kdM} {l0 : Nat} {l3 : Int32} {l4 : Int32} {l5 : Int32} (h : X12_both_111 G l0 l3 l4 l5 σ = some (r, σ1)) : SW E G (.inl (some (.int r), σ1)) A 6 σ 111 [(0, kr E l0), (3, .int l3), (4, .int l4), (5, .int l5)] [] := by
  unfold X12_both_111 at h
  refine r_iload hX dX12_both_111 2 rfl ?_
  refine r_if_lt (tgt := 186) hX dX12_both_113 (by decide) h ?_ ?_
  · clear h; intro h
    refine r_sub [3] rfl ?_
    exact wX12_both_186 hX h
  · clear h; intro h
    refine r_aload_n hX dX12_both_116 rfl 0 rfl ?_
    refine r_gR hX dX12_both_117 kf_X12_117 rfl h ?_
    clear h; intro t1 h
    refine r_iload hX dX12_both_120 2 rfl ?_
    refine r_iload_n hX dX12_both_122 rfl 1 rfl ?_
    refine r_tI hX dX12_both_123 h ?_
    clear h; intro σ h
    refine r_iload_n hX dX12_both_124 rfl 1 rfl ?_
    refine r_if_ne (tgt := 186) hX dX12_both_125 (by decide) h ?_ ?_
    · clear h; intro h
      refine r_aload_n hX dX12_both_128 rfl 0 rfl ?_
      refine r_dup hX dX12_both_129 rfl ?_
      refine r_gI hX dX12_both_130 kf_X12_330 rfl h ?_
      clear h; intro t2 h
      refine r_iconst hX dX12_both_133 kk_i_1 ?_
      refine r_isub hX dX12_both_134 ?_
      refine r_sI hX dX12_both_135 kf_X12_330 rfl (by intro q hq; cases hq; rfl) h ?_
      clear h; intro σ h
      refine r_aload_n hX dX12_both_138 rfl 0 rfl ?_
      refine r_gR hX dX12_both_139 kf_X12_111 rfl h ?_
      clear h; intro t3 h
      refine r_iload hX dX12_both_142 2 rfl ?_
      refine r_aload_n hX dX12_both_144 rfl 0 rfl ?_
      refine r_gR hX dX12_both_145 kf_X12_111 rfl h ?_
      clear h; intro t4 h
      refine r_aload_n hX dX12_both_148 rfl 0 rfl ?_
      refine r_gI hX dX12_both_149 kf_X12_330 rfl h ?_
      clear h; intro t5 h
      refine r_aI hX dX12_both_152 h ?_
      clear h; intro t6 h
      refine r_tI hX dX12_both_153 h ?_
      clear h; intro σ h
      refine r_aload_n hX dX12_both_154 rfl 0 rfl ?_
      refine r_gR hX dX12_both_155 kf_X12_114 rfl h ?_
      clear h; intro t7 h
      refine r_iload hX dX12_both_158 2 rfl ?_
      refine r_aload_n hX dX12_both_160 rfl 0 rfl ?_
      refine r_gR hX dX12_both_161 kf_X12_114 rfl h ?_
      clear h; intro t8 h
      refine r_aload_n hX dX12_both_164 rfl 0 rfl ?_
      refine r_gI hX dX12_both_165 kf_X12_330 rfl h ?_
      clear h; intro t9 h
      refine r_aI hX dX12_both_168 h ?_
      clear h; intro t10 h
      refine r_tI hX dX12_both_169 h ?_
      clear h; intro σ h
      refine r_aload_n hX dX12_both_170 rfl 0 rfl ?_
      refine r_gR hX dX12_both_171 kf_X12_117 rfl h ?_
      clear h; intro t11 h
      refine r_iload hX dX12_both_174 2 rfl ?_
      refine r_aload_n hX dX12_both_176 rfl 0 rfl ?_
      refine r_gR hX dX12_both_177 kf_X12_117 rfl h ?_
      clear h; intro t12 h
      refine r_aload_n hX dX12_both_180 rfl 0 rfl ?_
      refine r_gI hX dX12_both_181 kf_X12_330 rfl h ?_
      clear h; intro t13 h
      refine r_aI hX dX12_both_184 h ?_
      clear h; intro t14 h
      refine r_tI hX dX12_both_185 h ?_
      clear h; intro σ h
      refine r_sub [3] rfl ?_
      exact wX12_both_186 hX h
    · clear h; intro h
      refine r_sub [3] rfl ?_
      exact wX12_both_186 hX h
def X12_both_62 (G : kdS) (l0 : Nat) (l1 : Int32) (l2 : Int32) (l3 : Int32) (l4 : Int32) : kdM → Option (Int32 × kdM) :=
  kcv G 12 l0 (X12_bothOf G l0 l1 l2) fun t1 =>
  cnd (0 ≤ l4)
    (X12_both_111 G l0 l3 l4 t1)
    (cnd (l3 ≤ 0)
      (X12_both_111 G l0 l3 l4 t1)
      (gI G 12 45 l0 fun t2 =>
      gR G 12 42 l0 fun t3 =>
      tI G t3 (t2) (l1) <|
      gR G 12 43 l0 fun t4 =>
      tI G t4 (t2) (l2) <|
      gI G 12 45 l0 fun t5 =>
      sI G 12 45 l0 ((t5 + (1 : Int32))) <|
      X12_both_111 G l0 l3 t2 t1))
set_option maxRecDepth 100000 in
set_option maxHeartbeats 4000000 in
theorem wX12_both_62 {E : kdE} {G : kdS} {A : kdA} {r : Int32} {σ1 : kdM} (hX : kdX E A cX12_both 6 RX12 (some .int) 2) {σ : kdM} {l0 : Nat} {l1 : Int32} {l2 : Int32} {l3 : Int32} {l4 : Int32} (h : X12_both_62 G l0 l1 l2 l3 l4 σ = some (r, σ1)) : SW E G (.inl (some (.int r), σ1)) A 6 σ 62 [(0, kr E l0), (1, .int l1), (2, .int l2), (3, .int l3), (4, .int l4)] [] := by
  unfold X12_both_62 at h
  refine r_aload_n hX dX12_both_62 rfl 0 rfl ?_
  refine r_iload_n hX dX12_both_63 rfl 1 rfl ?_
  refine r_iload_n hX dX12_both_64 rfl 2 rfl ?_
  refine r_cVi (As := [.int l1, .int l2]) (st := []) hX dX12_both_65 kl_X12_bothOf w_ml_X12_336 w_im_X12_bothOf w_se_X12_bothOf ⟨_, _, rfl⟩ (by decide) rfl (Nat.le_of_ble_eq_true rfl) rfl kdz0 h (fun r σ1 h => wX12_bothOf h) ?_
  clear h; intro t1 σ h
  refine r_istore (L2 := [(5, .int t1), (0, kr E l0), (1, .int l1), (2, .int l2), (3, .int l3), (4, .int l4)]) hX dX12_both_68 (by decide) rfl ?_
  refine r_iload hX dX12_both_70 5 rfl ?_
  refine r_if_ge (tgt := 111) hX dX12_both_72 (by decide) h ?_ ?_
  · clear h; intro h
    refine r_sub [1, 4, 5, 0] rfl ?_
    exact wX12_both_111 hX h
  · clear h; intro h
    refine r_iload_n hX dX12_both_75 rfl 4 rfl ?_
    refine r_if_le (tgt := 111) hX dX12_both_76 (by decide) h ?_ ?_
    · clear h; intro h
      refine r_sub [1, 4, 5, 0] rfl ?_
      exact wX12_both_111 hX h
    · clear h; intro h
      refine r_aload_n hX dX12_both_79 rfl 1 rfl ?_
      refine r_gI hX dX12_both_80 kf_X12_330 rfl h ?_
      clear h; intro t2 h
      refine r_istore (L2 := [(4, .int t2), (5, .int t1), (0, kr E l0), (1, .int l1), (2, .int l2), (3, .int l3)]) hX dX12_both_83 (by decide) rfl ?_
      refine r_aload_n hX dX12_both_85 rfl 2 rfl ?_
      refine r_gR hX dX12_both_86 kf_X12_111 rfl h ?_
      clear h; intro t3 h
      refine r_iload hX dX12_both_89 0 rfl ?_
      refine r_iload_n hX dX12_both_91 rfl 3 rfl ?_
      refine r_tI hX dX12_both_92 h ?_
      clear h; intro σ h
      refine r_aload_n hX dX12_both_93 rfl 2 rfl ?_
      refine r_gR hX dX12_both_94 kf_X12_114 rfl h ?_
      clear h; intro t4 h
      refine r_iload hX dX12_both_97 0 rfl ?_
      refine r_iload_n hX dX12_both_99 rfl 4 rfl ?_
      refine r_tI hX dX12_both_100 h ?_
      clear h; intro σ h
      refine r_aload_n hX dX12_both_101 rfl 2 rfl ?_
      refine r_dup hX dX12_both_102 rfl ?_
      refine r_gI hX dX12_both_103 kf_X12_330 rfl h ?_
      clear h; intro t5 h
      refine r_iconst hX dX12_both_106 kk_i_1 ?_
      refine r_iadd hX dX12_both_107 ?_
      refine r_sI hX dX12_both_108 kf_X12_330 rfl (by intro q hq; cases hq; rfl) h ?_
      clear h; intro σ h
      refine r_sub [2, 5, 0, 1] rfl ?_
      exact wX12_both_111 hX h
def X12_both (G : kdS) (l0 : Nat) (l1 : Int32) (l2 : Int32) (l3 : Int32) : kdM → Option (Int32 × kdM) :=
  kcv G 12 l0 (X12_isWord G l0 l1) fun t1 =>
  cnd (t1 = 0)
    (X12_both_16 G )
    (kcv G 12 l0 (X12_isWord G l0 l2) fun t2 =>
    cnd (t2 = 0)
      (X12_both_16 G )
      (kcl (X12_in G (Int32.toInt64 l3) (0 : Int64) (100 : Int64)) fun t3 =>
      cnd (t3 = 0)
        (rt (-2 : Int32))
        (kcv G 12 l0 (X12_bothAt G l0 l1 l2) fun t4 =>
        cnd (0 ≤ t4)
          (X12_both_62 G l0 l1 l2 l3 t4)
          (cnd (l3 ≤ 0)
            (X12_both_62 G l0 l1 l2 l3 t4)
            (gI G 12 45 l0 fun t5 =>
            cnd (t5 = (40 : Int32))
              (rt (-4 : Int32))
              (X12_both_62 G l0 l1 l2 l3 t4))))))
set_option maxRecDepth 100000 in
set_option maxHeartbeats 4000000 in
theorem wX12_both {E : kdE} {G : kdS} {l0 : Nat} {l1 : Int32} {l2 : Int32} {l3 : Int32} {σ : kdM} {r : Int32} {σ1 : kdM} (h : X12_both G l0 l1 l2 l3 σ = some (r, σ1)) : Con E G yX12_both cX12_both 6 (some .int) 2 [kr E l0, .int l1, .int l2, .int l3] σ (some (.int r), σ1) := by
  refine kd_head (own := RX12) rfl (by decide +kernel) (Nat.le_of_ble_eq_true rfl) (fun A hX => ?_)
  show SW E G (.inl (some (.int r), σ1)) A 6 σ 0 [(0, kr E l0), (1, .int l1), (2, .int l2), (3, .int l3)] []
  unfold X12_both at h
  refine r_aload_n hX dX12_both_0 rfl 0 rfl ?_
  refine r_iload_n hX dX12_both_1 rfl 1 rfl ?_
  refine r_cVi (As := [.int l1]) (st := []) hX dX12_both_2 kl_X12_isWord w_ml_X12_251 w_im_X12_isWord w_se_X12_isWord ⟨_, _, rfl⟩ (by decide) rfl (Nat.le_of_ble_eq_true rfl) rfl kdz0 h (fun r σ1 h => wX12_isWord h) ?_
  clear h; intro t1 σ h
  refine r_if_eq (tgt := 16) hX dX12_both_5 (by decide) h ?_ ?_
  · clear h; intro h
    refine r_sub [] rfl ?_
    exact wX12_both_16 hX h
  · clear h; intro h
    refine r_aload_n hX dX12_both_8 rfl 0 rfl ?_
    refine r_iload_n hX dX12_both_9 rfl 2 rfl ?_
    refine r_cVi (As := [.int l2]) (st := []) hX dX12_both_10 kl_X12_isWord w_ml_X12_251 w_im_X12_isWord w_se_X12_isWord ⟨_, _, rfl⟩ (by decide) rfl (Nat.le_of_ble_eq_true rfl) rfl kdz0 h (fun r σ1 h => wX12_isWord h) ?_
    clear h; intro t2 σ h
    refine r_if_ne (tgt := 18) hX dX12_both_13 (by decide) h ?_ ?_
    · clear h; intro h
      refine r_sub [] rfl ?_
      exact wX12_both_16 hX h
    · clear h; intro h
      refine r_iload_n hX dX12_both_18 rfl 3 rfl ?_
      refine r_i2l hX dX12_both_19 ?_
      refine r_lconst hX dX12_both_20 kk_l_0 ?_
      refine r_ldc2_w hX dX12_both_21 w_cl_X12_249 ?_
      refine r_cSi (As := [.long (Int32.toInt64 l3), .long (0 : Int64), .long (100 : Int64)]) (st := []) hX dX12_both_24 kl_X12_in w_ml_X12_178 w_st_X12_in (by decide) rfl (Nat.le_of_ble_eq_true rfl) rfl kdz0 h (fun r σ1 h => wX12_in h) ?_
      clear h; intro t3 σ h
      refine r_if_ne (tgt := 33) hX dX12_both_27 (by decide) h ?_ ?_
      · clear h; intro h
        refine r_bipush hX dX12_both_30 kk_b_m2 ?_
        exact r_iret hX dX12_both_32 h
      · clear h; intro h
        refine r_aload_n hX dX12_both_33 rfl 0 rfl ?_
        refine r_iload_n hX dX12_both_34 rfl 1 rfl ?_
        refine r_iload_n hX dX12_both_35 rfl 2 rfl ?_
        refine r_cVi (As := [.int l1, .int l2]) (st := []) hX dX12_both_36 kl_X12_bothAt w_ml_X12_333 w_im_X12_bothAt w_se_X12_bothAt ⟨_, _, rfl⟩ (by decide) rfl (Nat.le_of_ble_eq_true rfl) rfl kdz0 h (fun r σ1 h => wX12_bothAt h) ?_
        clear h; intro t4 σ h
        refine r_istore (L2 := [(4, .int t4), (0, kr E l0), (1, .int l1), (2, .int l2), (3, .int l3)]) hX dX12_both_39 (by decide) rfl ?_
        refine r_iload hX dX12_both_41 0 rfl ?_
        refine r_if_ge (tgt := 62) hX dX12_both_43 (by decide) h ?_ ?_
        · clear h; intro h
          refine r_sub [1, 2, 3, 4, 0] rfl ?_
          exact wX12_both_62 hX h
        · clear h; intro h
          refine r_iload_n hX dX12_both_46 rfl 4 rfl ?_
          refine r_if_le (tgt := 62) hX dX12_both_47 (by decide) h ?_ ?_
          · clear h; intro h
            refine r_sub [1, 2, 3, 4, 0] rfl ?_
            exact wX12_both_62 hX h
          · clear h; intro h
            refine r_aload_n hX dX12_both_50 rfl 1 rfl ?_
            refine r_gI hX dX12_both_51 kf_X12_330 rfl h ?_
            clear h; intro t5 h
            refine r_bipush hX dX12_both_54 kk_b_40 ?_
            refine r_icmp_ne (tgt := 62) hX dX12_both_56 (by decide) h ?_ ?_
            · clear h; intro h
              refine r_bipush hX dX12_both_59 kk_b_m4 ?_
              exact r_iret hX dX12_both_61 h
            · clear h; intro h
              refine r_sub [1, 2, 3, 4, 0] rfl ?_
              exact wX12_both_62 hX h
def X12_say (G : kdS) (l0 : Nat) (l1 : Int32) (l2 : Int32) : kdM → Option (Int32 × kdM) :=
  kcv G 12 l0 (X12_isWord G l0 l1) fun t1 =>
  cnd (t1 = 0)
    (rt (-1 : Int32))
    (gI G 12 6 l0 fun t2 =>
    cnd (t2 = (5 : Int32))
      (rt (-4 : Int32))
      (gR G 12 4 l0 fun t3 =>
      gI G 12 6 l0 fun t4 =>
      tI G t3 (t4) (l1) <|
      gR G 12 5 l0 fun t5 =>
      gI G 12 6 l0 fun t6 =>
      tZ G t5 (t6) (l2) <|
      gI G 12 6 l0 fun t7 =>
      sI G 12 6 l0 ((t7 + (1 : Int32))) <|
      gI G 12 6 l0 fun t8 =>
      rt t8))
set_option maxRecDepth 100000 in
set_option maxHeartbeats 4000000 in
theorem wX12_say {E : kdE} {G : kdS} {l0 : Nat} {l1 : Int32} {l2 : Int32} {σ : kdM} {r : Int32} {σ1 : kdM} (h : X12_say G l0 l1 l2 σ = some (r, σ1)) : Con E G yX12_say cX12_say 3 (some .int) 2 [kr E l0, .int l1, .int l2] σ (some (.int r), σ1) := by
  refine kd_head (own := RX12) rfl (by decide +kernel) (Nat.le_of_ble_eq_true rfl) (fun A hX => ?_)
  show SW E G (.inl (some (.int r), σ1)) A 3 σ 0 [(0, kr E l0), (1, .int l1), (2, .int l2)] []
  unfold X12_say at h
  refine r_aload_n hX dX12_say_0 rfl 0 rfl ?_
  refine r_iload_n hX dX12_say_1 rfl 1 rfl ?_
  refine r_cVi (As := [.int l1]) (st := []) hX dX12_say_2 kl_X12_isWord w_ml_X12_251 w_im_X12_isWord w_se_X12_isWord ⟨_, _, rfl⟩ (by decide) rfl (Nat.le_of_ble_eq_true rfl) rfl kdz0 h (fun r σ1 h => wX12_isWord h) ?_
  clear h; intro t1 σ h
  refine r_if_ne (tgt := 10) hX dX12_say_5 (by decide) h ?_ ?_
  · clear h; intro h
    refine r_iconst hX dX12_say_8 kk_i_m1 ?_
    exact r_iret hX dX12_say_9 h
  · clear h; intro h
    refine r_aload_n hX dX12_say_10 rfl 0 rfl ?_
    refine r_gI hX dX12_say_11 kf_X12_190 rfl h ?_
    clear h; intro t2 h
    refine r_iconst hX dX12_say_14 kk_i_5 ?_
    refine r_icmp_ne (tgt := 21) hX dX12_say_15 (by decide) h ?_ ?_
    · clear h; intro h
      refine r_bipush hX dX12_say_18 kk_b_m4 ?_
      exact r_iret hX dX12_say_20 h
    · clear h; intro h
      refine r_aload_n hX dX12_say_21 rfl 0 rfl ?_
      refine r_gR hX dX12_say_22 kf_X12_16 rfl h ?_
      clear h; intro t3 h
      refine r_aload_n hX dX12_say_25 rfl 0 rfl ?_
      refine r_gI hX dX12_say_26 kf_X12_190 rfl h ?_
      clear h; intro t4 h
      refine r_iload_n hX dX12_say_29 rfl 1 rfl ?_
      refine r_tI hX dX12_say_30 h ?_
      clear h; intro σ h
      refine r_aload_n hX dX12_say_31 rfl 0 rfl ?_
      refine r_gR hX dX12_say_32 kf_X12_19 rfl h ?_
      clear h; intro t5 h
      refine r_aload_n hX dX12_say_35 rfl 0 rfl ?_
      refine r_gI hX dX12_say_36 kf_X12_190 rfl h ?_
      clear h; intro t6 h
      refine r_iload_n hX dX12_say_39 rfl 2 rfl ?_
      refine r_tZ hX dX12_say_40 h ?_
      clear h; intro σ h
      refine r_aload_n hX dX12_say_41 rfl 0 rfl ?_
      refine r_dup hX dX12_say_42 rfl ?_
      refine r_gI hX dX12_say_43 kf_X12_190 rfl h ?_
      clear h; intro t7 h
      refine r_iconst hX dX12_say_46 kk_i_1 ?_
      refine r_iadd hX dX12_say_47 ?_
      refine r_sI hX dX12_say_48 kf_X12_190 rfl (by intro q hq; cases hq; rfl) h ?_
      clear h; intro σ h
      refine r_aload_n hX dX12_say_51 rfl 0 rfl ?_
      refine r_gI hX dX12_say_52 kf_X12_190 rfl h ?_
      clear h; intro t8 h
      exact r_iret hX dX12_say_55 h
def X12_soundsAs_26 (G : kdS) (s0 : Int32) : kdM → Option (Int32 × kdM) :=
  rt (vp_nar .boolean s0)
set_option maxRecDepth 100000 in
set_option maxHeartbeats 4000000 in
theorem wX12_soundsAs_26 {E : kdE} {G : kdS} {A : kdA} {r : Int32} {σ1 : kdM} (hX : kdX E A cX12_soundsAs 6 RX12 (some .boolean) 0) {σ : kdM} {s0 : Int32} (h : X12_soundsAs_26 G s0 σ = some (r, σ1)) : SW E G (.inl (some (.int r), σ1)) A 6 σ 26 [] [.int s0] := by
  unfold X12_soundsAs_26 at h
  exact r_zret hX dX12_soundsAs_26 h
def X12_soundsAs_123 (G : kdS) (l4 : Int32) : kdM → Option (Int32 × kdM) :=
  rt (vp_nar .boolean l4)
set_option maxRecDepth 100000 in
set_option maxHeartbeats 4000000 in
theorem wX12_soundsAs_123 {E : kdE} {G : kdS} {A : kdA} {r : Int32} {σ1 : kdM} (hX : kdX E A cX12_soundsAs 6 RX12 (some .boolean) 0) {σ : kdM} {l4 : Int32} (h : X12_soundsAs_123 G l4 σ = some (r, σ1)) : SW E G (.inl (some (.int r), σ1)) A 6 σ 123 [(4, .int l4)] [] := by
  unfold X12_soundsAs_123 at h
  refine r_iload hX dX12_soundsAs_123 0 rfl ?_
  exact r_zret hX dX12_soundsAs_125 h
def X12_soundsAs_115 (G : kdS) (k67 : Nat → Int32 → Int32 → Int32 → Int32 → kdM → Option (Int32 × kdM)) (l0 : Nat) (l1 : Int32) (l3 : Int32) (l5 : Int32) (s0 : Int32) : kdM → Option (Int32 × kdM) :=
  ltI (l5 + Int32.ofInt 1) fun t1 =>
  k67 l0 l1 l3 s0 t1
set_option maxRecDepth 100000 in
set_option maxHeartbeats 4000000 in
theorem wX12_soundsAs_115 {E : kdE} {G : kdS} {A : kdA} {r : Int32} {σ1 : kdM} (hX : kdX E A cX12_soundsAs 6 RX12 (some .boolean) 0) (k67 : Nat → Int32 → Int32 → Int32 → Int32 → kdM → Option (Int32 × kdM)) (hk67 : ∀ (l0 : Nat) (l1 : Int32) (l3 : Int32) (l4 : Int32) (l5 : Int32) (σ : kdM), k67 l0 l1 l3 l4 l5 σ = some (r, σ1) → SW E G (.inl (some (.int r), σ1)) A 6 σ 67 [(0, kr E l0), (1, .int l1), (3, .int l3), (4, .int l4), (5, .int l5)] []) {σ : kdM} {l0 : Nat} {l1 : Int32} {l3 : Int32} {l5 : Int32} {s0 : Int32} (h : X12_soundsAs_115 G k67 l0 l1 l3 l5 s0 σ = some (r, σ1)) : SW E G (.inl (some (.int r), σ1)) A 6 σ 115 [(0, kr E l0), (1, .int l1), (3, .int l3), (5, .int l5)] [.int s0] := by
  unfold X12_soundsAs_115 at h
  refine r_istore (L2 := [(4, .int s0), (0, kr E l0), (1, .int l1), (3, .int l3), (5, .int l5)]) hX dX12_soundsAs_115 (by decide) rfl ?_
  refine r_iincL (L2 := fun t1 => [(5, .int t1), (4, .int s0), (0, kr E l0), (1, .int l1), (3, .int l3)]) hX dX12_soundsAs_117 h 4 rfl (by decide) (fun _ => rfl) ?_
  clear h; intro t1 h
  refine r_goto (tgt := 67) hX dX12_soundsAs_120 (by decide) ?_
  refine r_sub [2, 3, 4, 1, 0] rfl ?_
  exact hk67 _ _ _ _ _ _ h
def X12_soundsAs_67B (G : kdS) (k67 : Nat → Int32 → Int32 → Int32 → Int32 → kdM → Option (Int32 × kdM)) (l0 : Nat) (l1 : Int32) (l3 : Int32) (l4 : Int32) (l5 : Int32) : kdM → Option (Int32 × kdM) :=
  gR G 12 27 l0 fun t1 =>
  aI G t1 (l3) fun t2 =>
  cnd (t2 ≤ l5)
    (X12_soundsAs_123 G l4)
    (cnd (l4 = 0)
      (X12_soundsAs_123 G l4)
      (gR G 12 28 l0 fun t3 =>
      aI G t3 ((((8 : Int32) * l1) + l5)) fun t4 =>
      gR G 12 28 l0 fun t5 =>
      aI G t5 ((((8 : Int32) * l3) + l5)) fun t6 =>
      cnd (t4 = t6)
        (X12_soundsAs_115 G k67 l0 l1 l3 l5 (1 : Int32))
        (X12_soundsAs_115 G k67 l0 l1 l3 l5 (0 : Int32))))
set_option maxRecDepth 100000 in
set_option maxHeartbeats 4000000 in
theorem wX12_soundsAs_67B {E : kdE} {G : kdS} {A : kdA} {r : Int32} {σ1 : kdM} (hX : kdX E A cX12_soundsAs 6 RX12 (some .boolean) 0) (k67 : Nat → Int32 → Int32 → Int32 → Int32 → kdM → Option (Int32 × kdM)) (hk67 : ∀ (l0 : Nat) (l1 : Int32) (l3 : Int32) (l4 : Int32) (l5 : Int32) (σ : kdM), k67 l0 l1 l3 l4 l5 σ = some (r, σ1) → SW E G (.inl (some (.int r), σ1)) A 6 σ 67 [(0, kr E l0), (1, .int l1), (3, .int l3), (4, .int l4), (5, .int l5)] []) {σ : kdM} {l0 : Nat} {l1 : Int32} {l3 : Int32} {l4 : Int32} {l5 : Int32} (h : X12_soundsAs_67B G k67 l0 l1 l3 l4 l5 σ = some (r, σ1)) : SW E G (.inl (some (.int r), σ1)) A 6 σ 67 [(0, kr E l0), (1, .int l1), (3, .int l3), (4, .int l4), (5, .int l5)] [] := by
  unfold X12_soundsAs_67B at h
  refine r_iload hX dX12_soundsAs_67 4 rfl ?_
  refine r_aload_n hX dX12_soundsAs_69 rfl 0 rfl ?_
  refine r_gR hX dX12_soundsAs_70 kf_X12_71 rfl h ?_
  clear h; intro t1 h
  refine r_iload_n hX dX12_soundsAs_73 rfl 2 rfl ?_
  refine r_aI hX dX12_soundsAs_74 h ?_
  clear h; intro t2 h
  refine r_icmp_ge (tgt := 123) hX dX12_soundsAs_75 (by decide) h ?_ ?_
  · clear h; intro h
    refine r_sub [3] rfl ?_
    exact wX12_soundsAs_123 hX h
  · clear h; intro h
    refine r_iload hX dX12_soundsAs_78 3 rfl ?_
    refine r_if_eq (tgt := 123) hX dX12_soundsAs_80 (by decide) h ?_ ?_
    · clear h; intro h
      refine r_sub [3] rfl ?_
      exact wX12_soundsAs_123 hX h
    · clear h; intro h
      refine r_aload_n hX dX12_soundsAs_83 rfl 0 rfl ?_
      refine r_gR hX dX12_soundsAs_84 kf_X12_74 rfl h ?_
      clear h; intro t3 h
      refine r_bipush hX dX12_soundsAs_87 kk_b_8 ?_
      refine r_iload_n hX dX12_soundsAs_89 rfl 1 rfl ?_
      refine r_imul hX dX12_soundsAs_90 ?_
      refine r_iload hX dX12_soundsAs_91 4 rfl ?_
      refine r_iadd hX dX12_soundsAs_93 ?_
      refine r_aI hX dX12_soundsAs_94 h ?_
      clear h; intro t4 h
      refine r_aload_n hX dX12_soundsAs_95 rfl 0 rfl ?_
      refine r_gR hX dX12_soundsAs_96 kf_X12_74 rfl h ?_
      clear h; intro t5 h
      refine r_bipush hX dX12_soundsAs_99 kk_b_8 ?_
      refine r_iload_n hX dX12_soundsAs_101 rfl 2 rfl ?_
      refine r_imul hX dX12_soundsAs_102 ?_
      refine r_iload hX dX12_soundsAs_103 4 rfl ?_
      refine r_iadd hX dX12_soundsAs_105 ?_
      refine r_aI hX dX12_soundsAs_106 h ?_
      clear h; intro t6 h
      refine r_icmp_ne (tgt := 114) hX dX12_soundsAs_107 (by decide) h ?_ ?_
      · clear h; intro h
        refine r_iconst hX dX12_soundsAs_110 kk_i_1 ?_
        refine r_goto (tgt := 115) hX dX12_soundsAs_111 (by decide) ?_
        refine r_sub [0, 1, 2, 4] rfl ?_
        exact wX12_soundsAs_115 hX k67 hk67 h
      · clear h; intro h
        refine r_iconst hX dX12_soundsAs_114 kk_i_0 ?_
        refine r_sub [0, 1, 2, 4] rfl ?_
        exact wX12_soundsAs_115 hX k67 hk67 h
def X12_soundsAs_67 (G : kdS) : Nat → Int32 → Int32 → Int32 → Int32 → kdM → Option (Int32 × kdM) := lp (fun _ _ _ _ _ _ => none) (X12_soundsAs_67B G) NN
theorem wX12_soundsAs_67 {E : kdE} {G : kdS} {A : kdA} {r : Int32} {σ1 : kdM} (hX : kdX E A cX12_soundsAs 6 RX12 (some .boolean) 0) : ∀ (l0 : Nat) (l1 : Int32) (l3 : Int32) (l4 : Int32) (l5 : Int32) (σ : kdM), X12_soundsAs_67 G l0 l1 l3 l4 l5 σ = some (r, σ1) → SW E G (.inl (some (.int r), σ1)) A 6 σ 67 [(0, kr E l0), (1, .int l1), (3, .int l3), (4, .int l4), (5, .int l5)] [] :=
  lp_ind (Q := fun f => ∀ (l0 : Nat) (l1 : Int32) (l3 : Int32) (l4 : Int32) (l5 : Int32) (σ : kdM), f l0 l1 l3 l4 l5 σ = some (r, σ1) → SW E G (.inl (some (.int r), σ1)) A 6 σ 67 [(0, kr E l0), (1, .int l1), (3, .int l3), (4, .int l4), (5, .int l5)] []) (by intros; contradiction) (fun k hk l0 l1 l3 l4 l5 σ h => wX12_soundsAs_67B hX k hk h) NN
def X12_soundsAs_62 (G : kdS) (l0 : Nat) (l1 : Int32) (l3 : Int32) (s0 : Int32) : kdM → Option (Int32 × kdM) :=
  X12_soundsAs_67 G l0 l1 l3 s0 (0 : Int32)
set_option maxRecDepth 100000 in
set_option maxHeartbeats 4000000 in
theorem wX12_soundsAs_62 {E : kdE} {G : kdS} {A : kdA} {r : Int32} {σ1 : kdM} (hX : kdX E A cX12_soundsAs 6 RX12 (some .boolean) 0) {σ : kdM} {l0 : Nat} {l1 : Int32} {l3 : Int32} {s0 : Int32} (h : X12_soundsAs_62 G l0 l1 l3 s0 σ = some (r, σ1)) : SW E G (.inl (some (.int r), σ1)) A 6 σ 62 [(0, kr E l0), (1, .int l1), (3, .int l3)] [.int s0] := by
  unfold X12_soundsAs_62 at h
  refine r_istore (L2 := [(4, .int s0), (0, kr E l0), (1, .int l1), (3, .int l3)]) hX dX12_soundsAs_62 (by decide) rfl ?_
  refine r_iconst hX dX12_soundsAs_64 kk_i_0 ?_
  refine r_istore (L2 := [(5, .int (0 : Int32)), (4, .int s0), (0, kr E l0), (1, .int l1), (3, .int l3)]) hX dX12_soundsAs_65 (by decide) rfl ?_
  refine r_sub [2, 3, 4, 1, 0] rfl ?_
  exact wX12_soundsAs_67 hX _ _ _ _ _ _ h
def X12_soundsAs_61 (G : kdS) (l0 : Nat) (l1 : Int32) (l3 : Int32) : kdM → Option (Int32 × kdM) :=
  X12_soundsAs_62 G l0 l1 l3 (0 : Int32)
set_option maxRecDepth 100000 in
set_option maxHeartbeats 4000000 in
theorem wX12_soundsAs_61 {E : kdE} {G : kdS} {A : kdA} {r : Int32} {σ1 : kdM} (hX : kdX E A cX12_soundsAs 6 RX12 (some .boolean) 0) {σ : kdM} {l0 : Nat} {l1 : Int32} {l3 : Int32} (h : X12_soundsAs_61 G l0 l1 l3 σ = some (r, σ1)) : SW E G (.inl (some (.int r), σ1)) A 6 σ 61 [(0, kr E l0), (1, .int l1), (3, .int l3)] [] := by
  unfold X12_soundsAs_61 at h
  refine r_iconst hX dX12_soundsAs_61 kk_i_0 ?_
  refine r_sub [0, 1, 2] rfl ?_
  exact wX12_soundsAs_62 hX h
def X12_soundsAs (G : kdS) (l0 : Nat) (l1 : Int32) (l2 : Int32) : kdM → Option (Int32 × kdM) :=
  gR G 12 4 l0 fun t1 =>
  aI G t1 (l2) fun t2 =>
  gR G 12 5 l0 fun t3 =>
  aZ G t3 (l2) fun t4 =>
  cnd (t4 = 0)
    (gR G 12 24 l0 fun t5 =>
    aI G t5 (l1) fun t6 =>
    gR G 12 24 l0 fun t7 =>
    aI G t7 (t2) fun t8 =>
    cnd (t6 = t8)
      (gR G 12 27 l0 fun t9 =>
      aI G t9 (l1) fun t10 =>
      gR G 12 27 l0 fun t11 =>
      aI G t11 (t2) fun t12 =>
      cnd (t10 = t12)
        (X12_soundsAs_62 G l0 l1 t2 (1 : Int32))
        (X12_soundsAs_61 G l0 l1 t2))
      (X12_soundsAs_61 G l0 l1 t2))
    (cnd (l1 = t2)
      (X12_soundsAs_26 G (1 : Int32))
      (X12_soundsAs_26 G (0 : Int32)))
set_option maxRecDepth 100000 in
set_option maxHeartbeats 4000000 in
theorem wX12_soundsAs {E : kdE} {G : kdS} {l0 : Nat} {l1 : Int32} {l2 : Int32} {σ : kdM} {r : Int32} {σ1 : kdM} (h : X12_soundsAs G l0 l1 l2 σ = some (r, σ1)) : Con E G yX12_soundsAs cX12_soundsAs 6 (some .boolean) 0 [kr E l0, .int l1, .int l2] σ (some (.int r), σ1) := by
  refine kd_head (own := RX12) rfl (by decide +kernel) (Nat.le_of_ble_eq_true rfl) (fun A hX => ?_)
  show SW E G (.inl (some (.int r), σ1)) A 6 σ 0 [(0, kr E l0), (1, .int l1), (2, .int l2)] []
  unfold X12_soundsAs at h
  refine r_aload_n hX dX12_soundsAs_0 rfl 0 rfl ?_
  refine r_gR hX dX12_soundsAs_1 kf_X12_16 rfl h ?_
  clear h; intro t1 h
  refine r_iload_n hX dX12_soundsAs_4 rfl 2 rfl ?_
  refine r_aI hX dX12_soundsAs_5 h ?_
  clear h; intro t2 h
  refine r_istore_n (L2 := [(3, .int t2), (0, kr E l0), (1, .int l1), (2, .int l2)]) hX dX12_soundsAs_6 rfl (by decide) rfl ?_
  refine r_aload_n hX dX12_soundsAs_7 rfl 1 rfl ?_
  refine r_gR hX dX12_soundsAs_8 kf_X12_19 rfl h ?_
  clear h; intro t3 h
  refine r_iload_n hX dX12_soundsAs_11 rfl 3 rfl ?_
  refine r_aZ hX dX12_soundsAs_12 h ?_
  clear h; intro t4 h
  refine r_if_eq (tgt := 27) hX dX12_soundsAs_13 (by decide) h ?_ ?_
  · clear h; intro h
    refine r_aload_n hX dX12_soundsAs_27 rfl 1 rfl ?_
    refine r_gR hX dX12_soundsAs_28 kf_X12_62 rfl h ?_
    clear h; intro t5 h
    refine r_iload_n hX dX12_soundsAs_31 rfl 2 rfl ?_
    refine r_aI hX dX12_soundsAs_32 h ?_
    clear h; intro t6 h
    refine r_aload_n hX dX12_soundsAs_33 rfl 1 rfl ?_
    refine r_gR hX dX12_soundsAs_34 kf_X12_62 rfl h ?_
    clear h; intro t7 h
    refine r_iload_n hX dX12_soundsAs_37 rfl 0 rfl ?_
    refine r_aI hX dX12_soundsAs_38 h ?_
    clear h; intro t8 h
    refine r_icmp_ne (tgt := 61) hX dX12_soundsAs_39 (by decide) h ?_ ?_
    · clear h; intro h
      refine r_aload_n hX dX12_soundsAs_42 rfl 1 rfl ?_
      refine r_gR hX dX12_soundsAs_43 kf_X12_71 rfl h ?_
      clear h; intro t9 h
      refine r_iload_n hX dX12_soundsAs_46 rfl 2 rfl ?_
      refine r_aI hX dX12_soundsAs_47 h ?_
      clear h; intro t10 h
      refine r_aload_n hX dX12_soundsAs_48 rfl 1 rfl ?_
      refine r_gR hX dX12_soundsAs_49 kf_X12_71 rfl h ?_
      clear h; intro t11 h
      refine r_iload_n hX dX12_soundsAs_52 rfl 0 rfl ?_
      refine r_aI hX dX12_soundsAs_53 h ?_
      clear h; intro t12 h
      refine r_icmp_ne (tgt := 61) hX dX12_soundsAs_54 (by decide) h ?_ ?_
      · clear h; intro h
        refine r_iconst hX dX12_soundsAs_57 kk_i_1 ?_
        refine r_goto (tgt := 62) hX dX12_soundsAs_58 (by decide) ?_
        refine r_sub [1, 2, 0] rfl ?_
        exact wX12_soundsAs_62 hX h
      · clear h; intro h
        refine r_sub [1, 2, 0] rfl ?_
        exact wX12_soundsAs_61 hX h
    · clear h; intro h
      refine r_sub [1, 2, 0] rfl ?_
      exact wX12_soundsAs_61 hX h
  · clear h; intro h
    refine r_iload_n hX dX12_soundsAs_16 rfl 2 rfl ?_
    refine r_iload_n hX dX12_soundsAs_17 rfl 0 rfl ?_
    refine r_icmp_ne (tgt := 25) hX dX12_soundsAs_18 (by decide) h ?_ ?_
    · clear h; intro h
      refine r_iconst hX dX12_soundsAs_21 kk_i_1 ?_
      refine r_goto (tgt := 26) hX dX12_soundsAs_22 (by decide) ?_
      refine r_sub [] rfl ?_
      exact wX12_soundsAs_26 hX h
    · clear h; intro h
      refine r_iconst hX dX12_soundsAs_25 kk_i_0 ?_
      refine r_sub [] rfl ?_
      exact wX12_soundsAs_26 hX h
def X12_onBy (G : kdS) (l0 : Nat) (l1 : Int32) (l2 : Int32) (l3 : Int32) : kdM → Option (Int64 × kdM) :=
  gR G 12 26 l0 fun t1 =>
  aI G t1 (l2) fun t2 =>
  kcv G 12 l0 (X12_bothOf G l0 l2 l3) fun t3 =>
  gR G 12 46 l0 fun t4 =>
  aL G t4 ((((60 : Int32) * (l1 + (1 : Int32))) + l3)) fun t5 =>
  rt (((Int32.toInt64 t2) * ((Int32.toInt64 t3) + (1 : Int64))) * t5)
set_option maxRecDepth 100000 in
set_option maxHeartbeats 4000000 in
theorem wX12_onBy {E : kdE} {G : kdS} {l0 : Nat} {l1 : Int32} {l2 : Int32} {l3 : Int32} {σ : kdM} {r : Int64} {σ1 : kdM} (h : X12_onBy G l0 l1 l2 l3 σ = some (r, σ1)) : Con E G yX12_onBy cX12_onBy 4 (some .long) 2 [kr E l0, .int l1, .int l2, .int l3] σ (some (.long r), σ1) := by
  refine kd_head (own := RX12) rfl (by decide +kernel) (Nat.le_of_ble_eq_true rfl) (fun A hX => ?_)
  show SW E G (.inl (some (.long r), σ1)) A 4 σ 0 [(0, kr E l0), (1, .int l1), (2, .int l2), (3, .int l3)] []
  unfold X12_onBy at h
  refine r_aload_n hX dX12_onBy_0 rfl 0 rfl ?_
  refine r_gR hX dX12_onBy_1 kf_X12_68 rfl h ?_
  clear h; intro t1 h
  refine r_iload_n hX dX12_onBy_4 rfl 2 rfl ?_
  refine r_aI hX dX12_onBy_5 h ?_
  clear h; intro t2 h
  refine r_i2l hX dX12_onBy_6 ?_
  refine r_aload_n hX dX12_onBy_7 rfl 0 rfl ?_
  refine r_iload_n hX dX12_onBy_8 rfl 2 rfl ?_
  refine r_iload_n hX dX12_onBy_9 rfl 3 rfl ?_
  refine r_cVi (As := [.int l2, .int l3]) (st := [.long (Int32.toInt64 t2)]) hX dX12_onBy_10 kl_X12_bothOf w_ml_X12_336 w_im_X12_bothOf w_se_X12_bothOf ⟨_, _, rfl⟩ (by decide) rfl (Nat.le_of_ble_eq_true rfl) rfl kdz0 h (fun r σ1 h => wX12_bothOf h) ?_
  clear h; intro t3 σ h
  refine r_i2l hX dX12_onBy_13 ?_
  refine r_lconst hX dX12_onBy_14 kk_l_1 ?_
  refine r_ladd hX dX12_onBy_15 ?_
  refine r_lmul hX dX12_onBy_16 ?_
  refine r_aload_n hX dX12_onBy_17 rfl 0 rfl ?_
  refine r_gR hX dX12_onBy_18 kf_X12_120 rfl h ?_
  clear h; intro t4 h
  refine r_bipush hX dX12_onBy_21 kk_b_60 ?_
  refine r_iload_n hX dX12_onBy_23 rfl 1 rfl ?_
  refine r_iconst hX dX12_onBy_24 kk_i_1 ?_
  refine r_iadd hX dX12_onBy_25 ?_
  refine r_imul hX dX12_onBy_26 ?_
  refine r_iload_n hX dX12_onBy_27 rfl 3 rfl ?_
  refine r_iadd hX dX12_onBy_28 ?_
  refine r_aL hX dX12_onBy_29 h ?_
  clear h; intro t5 h
  refine r_lmul hX dX12_onBy_30 ?_
  exact r_lret hX dX12_onBy_31 h
def X12_findChosen_129 (G : kdS) (k7 : Nat → Int32 → kdM → Option (Int64 × kdM)) (k13 : Nat → Int32 → Int32 → kdM → Option (Int64 × kdM)) (l0 : Nat) (l1 : Int32) (l2 : Int32) (l3 : Int64) : kdM → Option (Int64 × kdM) :=
  gR G 12 46 l0 fun t1 =>
  tL G t1 ((((60 : Int32) * l1) + l2)) (l3) <|
  ltI (l2 + Int32.ofInt 1) fun t2 =>
  k13 l0 l1 t2
set_option maxRecDepth 100000 in
set_option maxHeartbeats 4000000 in
theorem wX12_findChosen_129 {E : kdE} {G : kdS} {A : kdA} {r : Int64} {σ1 : kdM} (hX : kdX E A cX12_findChosen 8 RX12 (some .long) 3) (k7 : Nat → Int32 → kdM → Option (Int64 × kdM)) (k13 : Nat → Int32 → Int32 → kdM → Option (Int64 × kdM)) (hk7 : ∀ (l0 : Nat) (l1 : Int32) (σ : kdM), k7 l0 l1 σ = some (r, σ1) → SW E G (.inl (some (.long r), σ1)) A 8 σ 7 [(0, kr E l0), (1, .int l1)] []) (hk13 : ∀ (l0 : Nat) (l1 : Int32) (l2 : Int32) (σ : kdM), k13 l0 l1 l2 σ = some (r, σ1) → SW E G (.inl (some (.long r), σ1)) A 8 σ 13 [(0, kr E l0), (1, .int l1), (2, .int l2)] []) {σ : kdM} {l0 : Nat} {l1 : Int32} {l2 : Int32} {l3 : Int64} (h : X12_findChosen_129 G k7 k13 l0 l1 l2 l3 σ = some (r, σ1)) : SW E G (.inl (some (.long r), σ1)) A 8 σ 129 [(0, kr E l0), (1, .int l1), (2, .int l2), (3, .long l3)] [] := by
  unfold X12_findChosen_129 at h
  refine r_aload_n hX dX12_findChosen_129 rfl 0 rfl ?_
  refine r_gR hX dX12_findChosen_130 kf_X12_120 rfl h ?_
  clear h; intro t1 h
  refine r_bipush hX dX12_findChosen_133 kk_b_60 ?_
  refine r_iload_n hX dX12_findChosen_135 rfl 1 rfl ?_
  refine r_imul hX dX12_findChosen_136 ?_
  refine r_iload_n hX dX12_findChosen_137 rfl 2 rfl ?_
  refine r_iadd hX dX12_findChosen_138 ?_
  refine r_lload_n hX dX12_findChosen_139 rfl 3 rfl ?_
  refine r_tL hX dX12_findChosen_140 h ?_
  clear h; intro σ h
  refine r_iincL (L2 := fun t2 => [(2, .int t2), (0, kr E l0), (1, .int l1), (3, .long l3)]) hX dX12_findChosen_141 h 2 rfl (by decide) (fun _ => rfl) ?_
  clear h; intro t2 h
  refine r_goto (tgt := 13) hX dX12_findChosen_144 (by decide) ?_
  refine r_sub [1, 2, 0] rfl ?_
  exact hk13 _ _ _ _ h
def X12_findChosen_122 (G : kdS) (k7 : Nat → Int32 → kdM → Option (Int64 × kdM)) (k13 : Nat → Int32 → Int32 → kdM → Option (Int64 × kdM)) (k55 : Nat → Int32 → Int32 → Int64 → Int32 → kdM → Option (Int64 × kdM)) (l0 : Nat) (l1 : Int32) (l2 : Int32) (l5 : Int32) (s0 : Int64) : kdM → Option (Int64 × kdM) :=
  ltI (l5 + Int32.ofInt 1) fun t1 =>
  k55 l0 l1 l2 s0 t1
set_option maxRecDepth 100000 in
set_option maxHeartbeats 4000000 in
theorem wX12_findChosen_122 {E : kdE} {G : kdS} {A : kdA} {r : Int64} {σ1 : kdM} (hX : kdX E A cX12_findChosen 8 RX12 (some .long) 3) (k7 : Nat → Int32 → kdM → Option (Int64 × kdM)) (k13 : Nat → Int32 → Int32 → kdM → Option (Int64 × kdM)) (k55 : Nat → Int32 → Int32 → Int64 → Int32 → kdM → Option (Int64 × kdM)) (hk7 : ∀ (l0 : Nat) (l1 : Int32) (σ : kdM), k7 l0 l1 σ = some (r, σ1) → SW E G (.inl (some (.long r), σ1)) A 8 σ 7 [(0, kr E l0), (1, .int l1)] []) (hk13 : ∀ (l0 : Nat) (l1 : Int32) (l2 : Int32) (σ : kdM), k13 l0 l1 l2 σ = some (r, σ1) → SW E G (.inl (some (.long r), σ1)) A 8 σ 13 [(0, kr E l0), (1, .int l1), (2, .int l2)] []) (hk55 : ∀ (l0 : Nat) (l1 : Int32) (l2 : Int32) (l3 : Int64) (l5 : Int32) (σ : kdM), k55 l0 l1 l2 l3 l5 σ = some (r, σ1) → SW E G (.inl (some (.long r), σ1)) A 8 σ 55 [(0, kr E l0), (1, .int l1), (2, .int l2), (3, .long l3), (5, .int l5)] []) {σ : kdM} {l0 : Nat} {l1 : Int32} {l2 : Int32} {l5 : Int32} {s0 : Int64} (h : X12_findChosen_122 G k7 k13 k55 l0 l1 l2 l5 s0 σ = some (r, σ1)) : SW E G (.inl (some (.long r), σ1)) A 8 σ 122 [(0, kr E l0), (1, .int l1), (2, .int l2), (5, .int l5)] [.long s0] := by
  unfold X12_findChosen_122 at h
  refine r_lstore_n (L2 := [(3, .long s0), (0, kr E l0), (1, .int l1), (2, .int l2), (5, .int l5)]) hX dX12_findChosen_122 rfl (by decide) rfl ?_
  refine r_iincL (L2 := fun t1 => [(5, .int t1), (3, .long s0), (0, kr E l0), (1, .int l1), (2, .int l2)]) hX dX12_findChosen_123 h 4 rfl (by decide) (fun _ => rfl) ?_
  clear h; intro t1 h
  refine r_goto (tgt := 55) hX dX12_findChosen_126 (by decide) ?_
  refine r_sub [2, 3, 4, 1, 0] rfl ?_
  exact hk55 _ _ _ _ _ _ h
def X12_findChosen_107 (G : kdS) (k7 : Nat → Int32 → kdM → Option (Int64 × kdM)) (k13 : Nat → Int32 → Int32 → kdM → Option (Int64 × kdM)) (k55 : Nat → Int32 → Int32 → Int64 → Int32 → kdM → Option (Int64 × kdM)) (l0 : Nat) (l1 : Int32) (l2 : Int32) (l3 : Int64) (l5 : Int32) (s0 : Int64) : kdM → Option (Int64 × kdM) :=
  cnd ((lg_cmp s0 l3) ≤ 0)
    (X12_findChosen_122 G k7 k13 k55 l0 l1 l2 l5 l3)
    (X12_findChosen_122 G k7 k13 k55 l0 l1 l2 l5 s0)
set_option maxRecDepth 100000 in
set_option maxHeartbeats 4000000 in
theorem wX12_findChosen_107 {E : kdE} {G : kdS} {A : kdA} {r : Int64} {σ1 : kdM} (hX : kdX E A cX12_findChosen 8 RX12 (some .long) 3) (k7 : Nat → Int32 → kdM → Option (Int64 × kdM)) (k13 : Nat → Int32 → Int32 → kdM → Option (Int64 × kdM)) (k55 : Nat → Int32 → Int32 → Int64 → Int32 → kdM → Option (Int64 × kdM)) (hk7 : ∀ (l0 : Nat) (l1 : Int32) (σ : kdM), k7 l0 l1 σ = some (r, σ1) → SW E G (.inl (some (.long r), σ1)) A 8 σ 7 [(0, kr E l0), (1, .int l1)] []) (hk13 : ∀ (l0 : Nat) (l1 : Int32) (l2 : Int32) (σ : kdM), k13 l0 l1 l2 σ = some (r, σ1) → SW E G (.inl (some (.long r), σ1)) A 8 σ 13 [(0, kr E l0), (1, .int l1), (2, .int l2)] []) (hk55 : ∀ (l0 : Nat) (l1 : Int32) (l2 : Int32) (l3 : Int64) (l5 : Int32) (σ : kdM), k55 l0 l1 l2 l3 l5 σ = some (r, σ1) → SW E G (.inl (some (.long r), σ1)) A 8 σ 55 [(0, kr E l0), (1, .int l1), (2, .int l2), (3, .long l3), (5, .int l5)] []) {σ : kdM} {l0 : Nat} {l1 : Int32} {l2 : Int32} {l3 : Int64} {l5 : Int32} {s0 : Int64} (h : X12_findChosen_107 G k7 k13 k55 l0 l1 l2 l3 l5 s0 σ = some (r, σ1)) : SW E G (.inl (some (.long r), σ1)) A 8 σ 107 [(0, kr E l0), (1, .int l1), (2, .int l2), (3, .long l3), (5, .int l5)] [.long s0] := by
  unfold X12_findChosen_107 at h
  refine r_lstore (L2 := [(6, .long s0), (0, kr E l0), (1, .int l1), (2, .int l2), (3, .long l3), (5, .int l5)]) hX dX12_findChosen_107 (by decide) rfl ?_
  refine r_lload hX dX12_findChosen_109 0 rfl ?_
  refine r_lload_n hX dX12_findChosen_111 rfl 4 rfl ?_
  refine r_lcmp hX dX12_findChosen_112 ?_
  refine r_if_le (tgt := 121) hX dX12_findChosen_113 (by decide) h ?_ ?_
  · clear h; intro h
    refine r_lload_n hX dX12_findChosen_121 rfl 4 rfl ?_
    refine r_sub [1, 2, 3, 5] rfl ?_
    exact wX12_findChosen_122 hX k7 k13 k55 hk7 hk13 hk55 h
  · clear h; intro h
    refine r_lload hX dX12_findChosen_116 0 rfl ?_
    refine r_goto (tgt := 122) hX dX12_findChosen_118 (by decide) ?_
    refine r_sub [1, 2, 3, 5] rfl ?_
    exact wX12_findChosen_122 hX k7 k13 k55 hk7 hk13 hk55 h
def X12_findChosen_55B (G : kdS) (k7 : Nat → Int32 → kdM → Option (Int64 × kdM)) (k13 : Nat → Int32 → Int32 → kdM → Option (Int64 × kdM)) (k55 : Nat → Int32 → Int32 → Int64 → Int32 → kdM → Option (Int64 × kdM)) (l0 : Nat) (l1 : Int32) (l2 : Int32) (l3 : Int64) (l5 : Int32) : kdM → Option (Int64 × kdM) :=
  gI G 12 29 l0 fun t1 =>
  cnd (t1 ≤ l5)
    (X12_findChosen_129 G k7 k13 l0 l1 l2 l3)
    (gI G 12 6 l0 fun t2 =>
    cnd ((t2 - (1 : Int32)) ≤ l1)
      (X12_findChosen_129 G k7 k13 l0 l1 l2 l3)
      (kcv G 12 l0 (X12_soundsAs G l0 l2 l1) fun t3 =>
      cnd (t3 = 0)
        (X12_findChosen_129 G k7 k13 l0 l1 l2 l3)
        (kcv G 12 l0 (X12_soundsAs G l0 l5 (l1 + (1 : Int32))) fun t4 =>
        cnd (t4 = 0)
          (X12_findChosen_107 G k7 k13 k55 l0 l1 l2 l3 l5 (0 : Int64))
          (kcv G 12 l0 (X12_onBy G l0 l1 l2 l5) fun t5 =>
          X12_findChosen_107 G k7 k13 k55 l0 l1 l2 l3 l5 t5))))
set_option maxRecDepth 100000 in
set_option maxHeartbeats 4000000 in
theorem wX12_findChosen_55B {E : kdE} {G : kdS} {A : kdA} {r : Int64} {σ1 : kdM} (hX : kdX E A cX12_findChosen 8 RX12 (some .long) 3) (k7 : Nat → Int32 → kdM → Option (Int64 × kdM)) (k13 : Nat → Int32 → Int32 → kdM → Option (Int64 × kdM)) (k55 : Nat → Int32 → Int32 → Int64 → Int32 → kdM → Option (Int64 × kdM)) (hk7 : ∀ (l0 : Nat) (l1 : Int32) (σ : kdM), k7 l0 l1 σ = some (r, σ1) → SW E G (.inl (some (.long r), σ1)) A 8 σ 7 [(0, kr E l0), (1, .int l1)] []) (hk13 : ∀ (l0 : Nat) (l1 : Int32) (l2 : Int32) (σ : kdM), k13 l0 l1 l2 σ = some (r, σ1) → SW E G (.inl (some (.long r), σ1)) A 8 σ 13 [(0, kr E l0), (1, .int l1), (2, .int l2)] []) (hk55 : ∀ (l0 : Nat) (l1 : Int32) (l2 : Int32) (l3 : Int64) (l5 : Int32) (σ : kdM), k55 l0 l1 l2 l3 l5 σ = some (r, σ1) → SW E G (.inl (some (.long r), σ1)) A 8 σ 55 [(0, kr E l0), (1, .int l1), (2, .int l2), (3, .long l3), (5, .int l5)] []) {σ : kdM} {l0 : Nat} {l1 : Int32} {l2 : Int32} {l3 : Int64} {l5 : Int32} (h : X12_findChosen_55B G k7 k13 k55 l0 l1 l2 l3 l5 σ = some (r, σ1)) : SW E G (.inl (some (.long r), σ1)) A 8 σ 55 [(0, kr E l0), (1, .int l1), (2, .int l2), (3, .long l3), (5, .int l5)] [] := by
  unfold X12_findChosen_55B at h
  refine r_iload hX dX12_findChosen_55 4 rfl ?_
  refine r_aload_n hX dX12_findChosen_57 rfl 0 rfl ?_
  refine r_gI hX dX12_findChosen_58 kf_X12_244 rfl h ?_
  clear h; intro t1 h
  refine r_icmp_ge (tgt := 129) hX dX12_findChosen_61 (by decide) h ?_ ?_
  · clear h; intro h
    refine r_sub [0, 1, 2, 3] rfl ?_
    exact wX12_findChosen_129 hX k7 k13 hk7 hk13 h
  · clear h; intro h
    refine r_iload_n hX dX12_findChosen_64 rfl 1 rfl ?_
    refine r_aload_n hX dX12_findChosen_65 rfl 0 rfl ?_
    refine r_gI hX dX12_findChosen_66 kf_X12_190 rfl h ?_
    clear h; intro t2 h
    refine r_iconst hX dX12_findChosen_69 kk_i_1 ?_
    refine r_isub hX dX12_findChosen_70 ?_
    refine r_icmp_ge (tgt := 129) hX dX12_findChosen_71 (by decide) h ?_ ?_
    · clear h; intro h
      refine r_sub [0, 1, 2, 3] rfl ?_
      exact wX12_findChosen_129 hX k7 k13 hk7 hk13 h
    · clear h; intro h
      refine r_aload_n hX dX12_findChosen_74 rfl 0 rfl ?_
      refine r_iload_n hX dX12_findChosen_75 rfl 2 rfl ?_
      refine r_iload_n hX dX12_findChosen_76 rfl 1 rfl ?_
      refine r_cVi (As := [.int l2, .int l1]) (st := []) hX dX12_findChosen_77 kl_X12_soundsAs w_ml_X12_339 w_im_X12_soundsAs w_se_X12_soundsAs ⟨_, _, rfl⟩ (by decide) rfl (Nat.le_of_ble_eq_true rfl) rfl kdz0 h (fun r σ1 h => wX12_soundsAs h) ?_
      clear h; intro t3 σ h
      refine r_if_eq (tgt := 129) hX dX12_findChosen_80 (by decide) h ?_ ?_
      · clear h; intro h
        refine r_sub [0, 1, 2, 3] rfl ?_
        exact wX12_findChosen_129 hX k7 k13 hk7 hk13 h
      · clear h; intro h
        refine r_aload_n hX dX12_findChosen_83 rfl 0 rfl ?_
        refine r_iload hX dX12_findChosen_84 4 rfl ?_
        refine r_iload_n hX dX12_findChosen_86 rfl 1 rfl ?_
        refine r_iconst hX dX12_findChosen_87 kk_i_1 ?_
        refine r_iadd hX dX12_findChosen_88 ?_
        refine r_cVi (As := [.int l5, .int (l1 + (1 : Int32))]) (st := []) hX dX12_findChosen_89 kl_X12_soundsAs w_ml_X12_339 w_im_X12_soundsAs w_se_X12_soundsAs ⟨_, _, rfl⟩ (by decide) rfl (Nat.le_of_ble_eq_true rfl) rfl kdz0 h (fun r σ1 h => wX12_soundsAs h) ?_
        clear h; intro t4 σ h
        refine r_if_eq (tgt := 106) hX dX12_findChosen_92 (by decide) h ?_ ?_
        · clear h; intro h
          refine r_lconst hX dX12_findChosen_106 kk_l_0 ?_
          refine r_sub [0, 1, 2, 3, 4] rfl ?_
          exact wX12_findChosen_107 hX k7 k13 k55 hk7 hk13 hk55 h
        · clear h; intro h
          refine r_aload_n hX dX12_findChosen_95 rfl 0 rfl ?_
          refine r_iload_n hX dX12_findChosen_96 rfl 1 rfl ?_
          refine r_iload_n hX dX12_findChosen_97 rfl 2 rfl ?_
          refine r_iload hX dX12_findChosen_98 4 rfl ?_
          refine r_cVl (As := [.int l1, .int l2, .int l5]) (st := []) hX dX12_findChosen_100 kl_X12_onBy w_ml_X12_342 w_im_X12_onBy w_se_X12_onBy ⟨_, _, rfl⟩ (by decide) rfl (Nat.le_of_ble_eq_true rfl) rfl kdz0 h (fun r σ1 h => wX12_onBy h) ?_
          clear h; intro t5 σ h
          refine r_goto (tgt := 107) hX dX12_findChosen_103 (by decide) ?_
          refine r_sub [0, 1, 2, 3, 4] rfl ?_
          exact wX12_findChosen_107 hX k7 k13 k55 hk7 hk13 hk55 h
def X12_findChosen_55 (G : kdS) (k7 : Nat → Int32 → kdM → Option (Int64 × kdM)) (k13 : Nat → Int32 → Int32 → kdM → Option (Int64 × kdM)) : Nat → Int32 → Int32 → Int64 → Int32 → kdM → Option (Int64 × kdM) := lp (fun _ _ _ _ _ _ => none) (X12_findChosen_55B G k7 k13) NN
theorem wX12_findChosen_55 {E : kdE} {G : kdS} {A : kdA} {r : Int64} {σ1 : kdM} (hX : kdX E A cX12_findChosen 8 RX12 (some .long) 3) (k7 : Nat → Int32 → kdM → Option (Int64 × kdM)) (k13 : Nat → Int32 → Int32 → kdM → Option (Int64 × kdM)) (hk7 : ∀ (l0 : Nat) (l1 : Int32) (σ : kdM), k7 l0 l1 σ = some (r, σ1) → SW E G (.inl (some (.long r), σ1)) A 8 σ 7 [(0, kr E l0), (1, .int l1)] []) (hk13 : ∀ (l0 : Nat) (l1 : Int32) (l2 : Int32) (σ : kdM), k13 l0 l1 l2 σ = some (r, σ1) → SW E G (.inl (some (.long r), σ1)) A 8 σ 13 [(0, kr E l0), (1, .int l1), (2, .int l2)] []) : ∀ (l0 : Nat) (l1 : Int32) (l2 : Int32) (l3 : Int64) (l5 : Int32) (σ : kdM), X12_findChosen_55 G k7 k13 l0 l1 l2 l3 l5 σ = some (r, σ1) → SW E G (.inl (some (.long r), σ1)) A 8 σ 55 [(0, kr E l0), (1, .int l1), (2, .int l2), (3, .long l3), (5, .int l5)] [] :=
  lp_ind (Q := fun f => ∀ (l0 : Nat) (l1 : Int32) (l2 : Int32) (l3 : Int64) (l5 : Int32) (σ : kdM), f l0 l1 l2 l3 l5 σ = some (r, σ1) → SW E G (.inl (some (.long r), σ1)) A 8 σ 55 [(0, kr E l0), (1, .int l1), (2, .int l2), (3, .long l3), (5, .int l5)] []) (by intros; contradiction) (fun k hk l0 l1 l2 l3 l5 σ h => wX12_findChosen_55B hX k7 k13 k hk7 hk13 hk h) NN
def X12_findChosen_51 (G : kdS) (k7 : Nat → Int32 → kdM → Option (Int64 × kdM)) (k13 : Nat → Int32 → Int32 → kdM → Option (Int64 × kdM)) (l0 : Nat) (l1 : Int32) (l2 : Int32) (s0 : Int64) : kdM → Option (Int64 × kdM) :=
  X12_findChosen_55 G k7 k13 l0 l1 l2 s0 (0 : Int32)
set_option maxRecDepth 100000 in
set_option maxHeartbeats 4000000 in
theorem wX12_findChosen_51 {E : kdE} {G : kdS} {A : kdA} {r : Int64} {σ1 : kdM} (hX : kdX E A cX12_findChosen 8 RX12 (some .long) 3) (k7 : Nat → Int32 → kdM → Option (Int64 × kdM)) (k13 : Nat → Int32 → Int32 → kdM → Option (Int64 × kdM)) (hk7 : ∀ (l0 : Nat) (l1 : Int32) (σ : kdM), k7 l0 l1 σ = some (r, σ1) → SW E G (.inl (some (.long r), σ1)) A 8 σ 7 [(0, kr E l0), (1, .int l1)] []) (hk13 : ∀ (l0 : Nat) (l1 : Int32) (l2 : Int32) (σ : kdM), k13 l0 l1 l2 σ = some (r, σ1) → SW E G (.inl (some (.long r), σ1)) A 8 σ 13 [(0, kr E l0), (1, .int l1), (2, .int l2)] []) {σ : kdM} {l0 : Nat} {l1 : Int32} {l2 : Int32} {s0 : Int64} (h : X12_findChosen_51 G k7 k13 l0 l1 l2 s0 σ = some (r, σ1)) : SW E G (.inl (some (.long r), σ1)) A 8 σ 51 [(0, kr E l0), (1, .int l1), (2, .int l2)] [.long s0] := by
  unfold X12_findChosen_51 at h
  refine r_lstore_n (L2 := [(3, .long s0), (0, kr E l0), (1, .int l1), (2, .int l2)]) hX dX12_findChosen_51 rfl (by decide) rfl ?_
  refine r_iconst hX dX12_findChosen_52 kk_i_0 ?_
  refine r_istore (L2 := [(5, .int (0 : Int32)), (3, .long s0), (0, kr E l0), (1, .int l1), (2, .int l2)]) hX dX12_findChosen_53 (by decide) rfl ?_
  refine r_sub [2, 3, 4, 1, 0] rfl ?_
  exact wX12_findChosen_55 hX k7 k13 hk7 hk13 _ _ _ _ _ _ h
def X12_findChosen_50 (G : kdS) (k7 : Nat → Int32 → kdM → Option (Int64 × kdM)) (k13 : Nat → Int32 → Int32 → kdM → Option (Int64 × kdM)) (l0 : Nat) (l1 : Int32) (l2 : Int32) : kdM → Option (Int64 × kdM) :=
  X12_findChosen_51 G k7 k13 l0 l1 l2 (0 : Int64)
set_option maxRecDepth 100000 in
set_option maxHeartbeats 4000000 in
theorem wX12_findChosen_50 {E : kdE} {G : kdS} {A : kdA} {r : Int64} {σ1 : kdM} (hX : kdX E A cX12_findChosen 8 RX12 (some .long) 3) (k7 : Nat → Int32 → kdM → Option (Int64 × kdM)) (k13 : Nat → Int32 → Int32 → kdM → Option (Int64 × kdM)) (hk7 : ∀ (l0 : Nat) (l1 : Int32) (σ : kdM), k7 l0 l1 σ = some (r, σ1) → SW E G (.inl (some (.long r), σ1)) A 8 σ 7 [(0, kr E l0), (1, .int l1)] []) (hk13 : ∀ (l0 : Nat) (l1 : Int32) (l2 : Int32) (σ : kdM), k13 l0 l1 l2 σ = some (r, σ1) → SW E G (.inl (some (.long r), σ1)) A 8 σ 13 [(0, kr E l0), (1, .int l1), (2, .int l2)] []) {σ : kdM} {l0 : Nat} {l1 : Int32} {l2 : Int32} (h : X12_findChosen_50 G k7 k13 l0 l1 l2 σ = some (r, σ1)) : SW E G (.inl (some (.long r), σ1)) A 8 σ 50 [(0, kr E l0), (1, .int l1), (2, .int l2)] [] := by
  unfold X12_findChosen_50 at h
  refine r_lconst hX dX12_findChosen_50 kk_l_0 ?_
  refine r_sub [0, 1, 2] rfl ?_
  exact wX12_findChosen_51 hX k7 k13 hk7 hk13 h
def X12_findChosen_13B (G : kdS) (k7 : Nat → Int32 → kdM → Option (Int64 × kdM)) (k13 : Nat → Int32 → Int32 → kdM → Option (Int64 × kdM)) (l0 : Nat) (l1 : Int32) (l2 : Int32) : kdM → Option (Int64 × kdM) :=
  gI G 12 29 l0 fun t1 =>
  cnd (t1 ≤ l2)
    (ltI (l1 + Int32.ofInt (-1)) fun t2 =>
    k7 l0 t2)
    (gI G 12 6 l0 fun t3 =>
    cnd (l1 = (t3 - (1 : Int32)))
      (kcv G 12 l0 (X12_soundsAs G l0 l2 l1) fun t4 =>
      cnd (t4 = 0)
        (X12_findChosen_50 G k7 k13 l0 l1 l2)
        (gR G 12 26 l0 fun t5 =>
        aI G t5 (l2) fun t6 =>
        X12_findChosen_51 G k7 k13 l0 l1 l2 (Int32.toInt64 t6)))
      (X12_findChosen_50 G k7 k13 l0 l1 l2))
set_option maxRecDepth 100000 in
set_option maxHeartbeats 4000000 in
theorem wX12_findChosen_13B {E : kdE} {G : kdS} {A : kdA} {r : Int64} {σ1 : kdM} (hX : kdX E A cX12_findChosen 8 RX12 (some .long) 3) (k7 : Nat → Int32 → kdM → Option (Int64 × kdM)) (k13 : Nat → Int32 → Int32 → kdM → Option (Int64 × kdM)) (hk7 : ∀ (l0 : Nat) (l1 : Int32) (σ : kdM), k7 l0 l1 σ = some (r, σ1) → SW E G (.inl (some (.long r), σ1)) A 8 σ 7 [(0, kr E l0), (1, .int l1)] []) (hk13 : ∀ (l0 : Nat) (l1 : Int32) (l2 : Int32) (σ : kdM), k13 l0 l1 l2 σ = some (r, σ1) → SW E G (.inl (some (.long r), σ1)) A 8 σ 13 [(0, kr E l0), (1, .int l1), (2, .int l2)] []) {σ : kdM} {l0 : Nat} {l1 : Int32} {l2 : Int32} (h : X12_findChosen_13B G k7 k13 l0 l1 l2 σ = some (r, σ1)) : SW E G (.inl (some (.long r), σ1)) A 8 σ 13 [(0, kr E l0), (1, .int l1), (2, .int l2)] [] := by
  unfold X12_findChosen_13B at h
  refine r_iload_n hX dX12_findChosen_13 rfl 2 rfl ?_
  refine r_aload_n hX dX12_findChosen_14 rfl 0 rfl ?_
  refine r_gI hX dX12_findChosen_15 kf_X12_244 rfl h ?_
  clear h; intro t1 h
  refine r_icmp_ge (tgt := 147) hX dX12_findChosen_18 (by decide) h ?_ ?_
  · clear h; intro h
    refine r_iincL (L2 := fun t2 => [(1, .int t2), (0, kr E l0), (2, .int l2)]) hX dX12_findChosen_147 h 1 rfl (by decide) (fun _ => rfl) ?_
    clear h; intro t2 h
    refine r_goto (tgt := 7) hX dX12_findChosen_150 (by decide) ?_
    refine r_sub [1, 0] rfl ?_
    exact hk7 _ _ _ h
  · clear h; intro h
    refine r_iload_n hX dX12_findChosen_21 rfl 1 rfl ?_
    refine r_aload_n hX dX12_findChosen_22 rfl 0 rfl ?_
    refine r_gI hX dX12_findChosen_23 kf_X12_190 rfl h ?_
    clear h; intro t3 h
    refine r_iconst hX dX12_findChosen_26 kk_i_1 ?_
    refine r_isub hX dX12_findChosen_27 ?_
    refine r_icmp_ne (tgt := 50) hX dX12_findChosen_28 (by decide) h ?_ ?_
    · clear h; intro h
      refine r_aload_n hX dX12_findChosen_31 rfl 0 rfl ?_
      refine r_iload_n hX dX12_findChosen_32 rfl 2 rfl ?_
      refine r_iload_n hX dX12_findChosen_33 rfl 1 rfl ?_
      refine r_cVi (As := [.int l2, .int l1]) (st := []) hX dX12_findChosen_34 kl_X12_soundsAs w_ml_X12_339 w_im_X12_soundsAs w_se_X12_soundsAs ⟨_, _, rfl⟩ (by decide) rfl (Nat.le_of_ble_eq_true rfl) rfl kdz0 h (fun r σ1 h => wX12_soundsAs h) ?_
      clear h; intro t4 σ h
      refine r_if_eq (tgt := 50) hX dX12_findChosen_37 (by decide) h ?_ ?_
      · clear h; intro h
        refine r_sub [0, 1, 2] rfl ?_
        exact wX12_findChosen_50 hX k7 k13 hk7 hk13 h
      · clear h; intro h
        refine r_aload_n hX dX12_findChosen_40 rfl 0 rfl ?_
        refine r_gR hX dX12_findChosen_41 kf_X12_68 rfl h ?_
        clear h; intro t5 h
        refine r_iload_n hX dX12_findChosen_44 rfl 2 rfl ?_
        refine r_aI hX dX12_findChosen_45 h ?_
        clear h; intro t6 h
        refine r_i2l hX dX12_findChosen_46 ?_
        refine r_goto (tgt := 51) hX dX12_findChosen_47 (by decide) ?_
        refine r_sub [0, 1, 2] rfl ?_
        exact wX12_findChosen_51 hX k7 k13 hk7 hk13 h
    · clear h; intro h
      refine r_sub [0, 1, 2] rfl ?_
      exact wX12_findChosen_50 hX k7 k13 hk7 hk13 h
def X12_findChosen_13 (G : kdS) (k7 : Nat → Int32 → kdM → Option (Int64 × kdM)) : Nat → Int32 → Int32 → kdM → Option (Int64 × kdM) := lp (fun _ _ _ _ => none) (X12_findChosen_13B G k7) NN
theorem wX12_findChosen_13 {E : kdE} {G : kdS} {A : kdA} {r : Int64} {σ1 : kdM} (hX : kdX E A cX12_findChosen 8 RX12 (some .long) 3) (k7 : Nat → Int32 → kdM → Option (Int64 × kdM)) (hk7 : ∀ (l0 : Nat) (l1 : Int32) (σ : kdM), k7 l0 l1 σ = some (r, σ1) → SW E G (.inl (some (.long r), σ1)) A 8 σ 7 [(0, kr E l0), (1, .int l1)] []) : ∀ (l0 : Nat) (l1 : Int32) (l2 : Int32) (σ : kdM), X12_findChosen_13 G k7 l0 l1 l2 σ = some (r, σ1) → SW E G (.inl (some (.long r), σ1)) A 8 σ 13 [(0, kr E l0), (1, .int l1), (2, .int l2)] [] :=
  lp_ind (Q := fun f => ∀ (l0 : Nat) (l1 : Int32) (l2 : Int32) (σ : kdM), f l0 l1 l2 σ = some (r, σ1) → SW E G (.inl (some (.long r), σ1)) A 8 σ 13 [(0, kr E l0), (1, .int l1), (2, .int l2)] []) (by intros; contradiction) (fun k hk l0 l1 l2 σ h => wX12_findChosen_13B hX k7 k hk7 hk h) NN
def X12_findChosen_200 (G : kdS) (l1 : Int64) : kdM → Option (Int64 × kdM) :=
  rt l1
set_option maxRecDepth 100000 in
set_option maxHeartbeats 4000000 in
theorem wX12_findChosen_200 {E : kdE} {G : kdS} {A : kdA} {r : Int64} {σ1 : kdM} (hX : kdX E A cX12_findChosen 8 RX12 (some .long) 3) {σ : kdM} {l1 : Int64} (h : X12_findChosen_200 G l1 σ = some (r, σ1)) : SW E G (.inl (some (.long r), σ1)) A 8 σ 200 [(1, .long l1)] [] := by
  unfold X12_findChosen_200 at h
  refine r_lload_n hX dX12_findChosen_200 rfl 0 rfl ?_
  exact r_lret hX dX12_findChosen_201 h
def X12_findChosen_193 (G : kdS) (k157 : Nat → Int64 → Int32 → kdM → Option (Int64 × kdM)) (l0 : Nat) (l3 : Int32) (s0 : Int64) : kdM → Option (Int64 × kdM) :=
  ltI (l3 + Int32.ofInt 1) fun t1 =>
  k157 l0 s0 t1
set_option maxRecDepth 100000 in
set_option maxHeartbeats 4000000 in
theorem wX12_findChosen_193 {E : kdE} {G : kdS} {A : kdA} {r : Int64} {σ1 : kdM} (hX : kdX E A cX12_findChosen 8 RX12 (some .long) 3) (k157 : Nat → Int64 → Int32 → kdM → Option (Int64 × kdM)) (hk157 : ∀ (l0 : Nat) (l1 : Int64) (l3 : Int32) (σ : kdM), k157 l0 l1 l3 σ = some (r, σ1) → SW E G (.inl (some (.long r), σ1)) A 8 σ 157 [(0, kr E l0), (1, .long l1), (3, .int l3)] []) {σ : kdM} {l0 : Nat} {l3 : Int32} {s0 : Int64} (h : X12_findChosen_193 G k157 l0 l3 s0 σ = some (r, σ1)) : SW E G (.inl (some (.long r), σ1)) A 8 σ 193 [(0, kr E l0), (3, .int l3)] [.long s0] := by
  unfold X12_findChosen_193 at h
  refine r_lstore_n (L2 := [(1, .long s0), (0, kr E l0), (3, .int l3)]) hX dX12_findChosen_193 rfl (by decide) rfl ?_
  refine r_iincL (L2 := fun t1 => [(3, .int t1), (1, .long s0), (0, kr E l0)]) hX dX12_findChosen_194 h 2 rfl (by decide) (fun _ => rfl) ?_
  clear h; intro t1 h
  refine r_goto (tgt := 157) hX dX12_findChosen_197 (by decide) ?_
  refine r_sub [2, 1, 0] rfl ?_
  exact hk157 _ _ _ _ h
def X12_findChosen_157B (G : kdS) (k157 : Nat → Int64 → Int32 → kdM → Option (Int64 × kdM)) (l0 : Nat) (l1 : Int64) (l3 : Int32) : kdM → Option (Int64 × kdM) :=
  gI G 12 29 l0 fun t1 =>
  cnd (t1 ≤ l3)
    (X12_findChosen_200 G l1)
    (gI G 12 6 l0 fun t2 =>
    cnd (t2 ≤ 0)
      (X12_findChosen_200 G l1)
      (gR G 12 46 l0 fun t3 =>
      aL G t3 (l3) fun t4 =>
      cnd ((lg_cmp t4 l1) ≤ 0)
        (X12_findChosen_193 G k157 l0 l3 l1)
        (gR G 12 46 l0 fun t5 =>
        aL G t5 (l3) fun t6 =>
        X12_findChosen_193 G k157 l0 l3 t6)))
set_option maxRecDepth 100000 in
set_option maxHeartbeats 4000000 in
theorem wX12_findChosen_157B {E : kdE} {G : kdS} {A : kdA} {r : Int64} {σ1 : kdM} (hX : kdX E A cX12_findChosen 8 RX12 (some .long) 3) (k157 : Nat → Int64 → Int32 → kdM → Option (Int64 × kdM)) (hk157 : ∀ (l0 : Nat) (l1 : Int64) (l3 : Int32) (σ : kdM), k157 l0 l1 l3 σ = some (r, σ1) → SW E G (.inl (some (.long r), σ1)) A 8 σ 157 [(0, kr E l0), (1, .long l1), (3, .int l3)] []) {σ : kdM} {l0 : Nat} {l1 : Int64} {l3 : Int32} (h : X12_findChosen_157B G k157 l0 l1 l3 σ = some (r, σ1)) : SW E G (.inl (some (.long r), σ1)) A 8 σ 157 [(0, kr E l0), (1, .long l1), (3, .int l3)] [] := by
  unfold X12_findChosen_157B at h
  refine r_iload_n hX dX12_findChosen_157 rfl 2 rfl ?_
  refine r_aload_n hX dX12_findChosen_158 rfl 0 rfl ?_
  refine r_gI hX dX12_findChosen_159 kf_X12_244 rfl h ?_
  clear h; intro t1 h
  refine r_icmp_ge (tgt := 200) hX dX12_findChosen_162 (by decide) h ?_ ?_
  · clear h; intro h
    refine r_sub [1] rfl ?_
    exact wX12_findChosen_200 hX h
  · clear h; intro h
    refine r_aload_n hX dX12_findChosen_165 rfl 0 rfl ?_
    refine r_gI hX dX12_findChosen_166 kf_X12_190 rfl h ?_
    clear h; intro t2 h
    refine r_if_le (tgt := 200) hX dX12_findChosen_169 (by decide) h ?_ ?_
    · clear h; intro h
      refine r_sub [1] rfl ?_
      exact wX12_findChosen_200 hX h
    · clear h; intro h
      refine r_aload_n hX dX12_findChosen_172 rfl 0 rfl ?_
      refine r_gR hX dX12_findChosen_173 kf_X12_120 rfl h ?_
      clear h; intro t3 h
      refine r_iload_n hX dX12_findChosen_176 rfl 2 rfl ?_
      refine r_aL hX dX12_findChosen_177 h ?_
      clear h; intro t4 h
      refine r_lload_n hX dX12_findChosen_178 rfl 1 rfl ?_
      refine r_lcmp hX dX12_findChosen_179 ?_
      refine r_if_le (tgt := 192) hX dX12_findChosen_180 (by decide) h ?_ ?_
      · clear h; intro h
        refine r_lload_n hX dX12_findChosen_192 rfl 1 rfl ?_
        refine r_sub [0, 2] rfl ?_
        exact wX12_findChosen_193 hX k157 hk157 h
      · clear h; intro h
        refine r_aload_n hX dX12_findChosen_183 rfl 0 rfl ?_
        refine r_gR hX dX12_findChosen_184 kf_X12_120 rfl h ?_
        clear h; intro t5 h
        refine r_iload_n hX dX12_findChosen_187 rfl 2 rfl ?_
        refine r_aL hX dX12_findChosen_188 h ?_
        clear h; intro t6 h
        refine r_goto (tgt := 193) hX dX12_findChosen_189 (by decide) ?_
        refine r_sub [0, 2] rfl ?_
        exact wX12_findChosen_193 hX k157 hk157 h
def X12_findChosen_157 (G : kdS) : Nat → Int64 → Int32 → kdM → Option (Int64 × kdM) := lp (fun _ _ _ _ => none) (X12_findChosen_157B G) NN
theorem wX12_findChosen_157 {E : kdE} {G : kdS} {A : kdA} {r : Int64} {σ1 : kdM} (hX : kdX E A cX12_findChosen 8 RX12 (some .long) 3) : ∀ (l0 : Nat) (l1 : Int64) (l3 : Int32) (σ : kdM), X12_findChosen_157 G l0 l1 l3 σ = some (r, σ1) → SW E G (.inl (some (.long r), σ1)) A 8 σ 157 [(0, kr E l0), (1, .long l1), (3, .int l3)] [] :=
  lp_ind (Q := fun f => ∀ (l0 : Nat) (l1 : Int64) (l3 : Int32) (σ : kdM), f l0 l1 l3 σ = some (r, σ1) → SW E G (.inl (some (.long r), σ1)) A 8 σ 157 [(0, kr E l0), (1, .long l1), (3, .int l3)] []) (by intros; contradiction) (fun k hk l0 l1 l3 σ h => wX12_findChosen_157B hX k hk h) NN
def X12_findChosen_7B (G : kdS) (k7 : Nat → Int32 → kdM → Option (Int64 × kdM)) (l0 : Nat) (l1 : Int32) : kdM → Option (Int64 × kdM) :=
  cnd (l1 < 0)
    (X12_findChosen_157 G l0 (0 : Int64) (0 : Int32))
    (X12_findChosen_13 G k7 l0 l1 (0 : Int32))
set_option maxRecDepth 100000 in
set_option maxHeartbeats 4000000 in
theorem wX12_findChosen_7B {E : kdE} {G : kdS} {A : kdA} {r : Int64} {σ1 : kdM} (hX : kdX E A cX12_findChosen 8 RX12 (some .long) 3) (k7 : Nat → Int32 → kdM → Option (Int64 × kdM)) (hk7 : ∀ (l0 : Nat) (l1 : Int32) (σ : kdM), k7 l0 l1 σ = some (r, σ1) → SW E G (.inl (some (.long r), σ1)) A 8 σ 7 [(0, kr E l0), (1, .int l1)] []) {σ : kdM} {l0 : Nat} {l1 : Int32} (h : X12_findChosen_7B G k7 l0 l1 σ = some (r, σ1)) : SW E G (.inl (some (.long r), σ1)) A 8 σ 7 [(0, kr E l0), (1, .int l1)] [] := by
  unfold X12_findChosen_7B at h
  refine r_iload_n hX dX12_findChosen_7 rfl 1 rfl ?_
  refine r_if_lt (tgt := 153) hX dX12_findChosen_8 (by decide) h ?_ ?_
  · clear h; intro h
    refine r_lconst hX dX12_findChosen_153 kk_l_0 ?_
    refine r_lstore_n (L2 := [(1, .long (0 : Int64)), (0, kr E l0)]) hX dX12_findChosen_154 rfl (by decide) rfl ?_
    refine r_iconst hX dX12_findChosen_155 kk_i_0 ?_
    refine r_istore_n (L2 := [(3, .int (0 : Int32)), (1, .long (0 : Int64)), (0, kr E l0)]) hX dX12_findChosen_156 rfl (by decide) rfl ?_
    refine r_sub [2, 1, 0] rfl ?_
    exact wX12_findChosen_157 hX _ _ _ _ h
  · clear h; intro h
    refine r_iconst hX dX12_findChosen_11 kk_i_0 ?_
    refine r_istore_n (L2 := [(2, .int (0 : Int32)), (0, kr E l0), (1, .int l1)]) hX dX12_findChosen_12 rfl (by decide) rfl ?_
    refine r_sub [1, 2, 0] rfl ?_
    exact wX12_findChosen_13 hX k7 hk7 _ _ _ _ h
def X12_findChosen_7 (G : kdS) : Nat → Int32 → kdM → Option (Int64 × kdM) := lp (fun _ _ _ => none) (X12_findChosen_7B G) NN
theorem wX12_findChosen_7 {E : kdE} {G : kdS} {A : kdA} {r : Int64} {σ1 : kdM} (hX : kdX E A cX12_findChosen 8 RX12 (some .long) 3) : ∀ (l0 : Nat) (l1 : Int32) (σ : kdM), X12_findChosen_7 G l0 l1 σ = some (r, σ1) → SW E G (.inl (some (.long r), σ1)) A 8 σ 7 [(0, kr E l0), (1, .int l1)] [] :=
  lp_ind (Q := fun f => ∀ (l0 : Nat) (l1 : Int32) (σ : kdM), f l0 l1 σ = some (r, σ1) → SW E G (.inl (some (.long r), σ1)) A 8 σ 7 [(0, kr E l0), (1, .int l1)] []) (by intros; contradiction) (fun k hk l0 l1 σ h => wX12_findChosen_7B hX k hk h) NN
def X12_findChosen (G : kdS) (l0 : Nat) : kdM → Option (Int64 × kdM) :=
  gI G 12 6 l0 fun t1 =>
  ltI ((t1 - (1 : Int32))) fun t2 =>
  X12_findChosen_7 G l0 t2
set_option maxRecDepth 100000 in
set_option maxHeartbeats 4000000 in
theorem wX12_findChosen {E : kdE} {G : kdS} {l0 : Nat} {σ : kdM} {r : Int64} {σ1 : kdM} (h : X12_findChosen G l0 σ = some (r, σ1)) : Con E G yX12_findChosen cX12_findChosen 8 (some .long) 3 [kr E l0] σ (some (.long r), σ1) := by
  refine kd_head (own := RX12) rfl (by decide +kernel) (Nat.le_of_ble_eq_true rfl) (fun A hX => ?_)
  show SW E G (.inl (some (.long r), σ1)) A 8 σ 0 [(0, kr E l0)] []
  unfold X12_findChosen at h
  refine r_aload_n hX dX12_findChosen_0 rfl 0 rfl ?_
  refine r_gI hX dX12_findChosen_1 kf_X12_190 rfl h ?_
  clear h; intro t1 h
  refine r_iconst hX dX12_findChosen_4 kk_i_1 ?_
  refine r_isub hX dX12_findChosen_5 ?_
  refine r_letI h ?_
  clear h; intro t2 h
  refine r_istore_n (L2 := [(1, .int t2), (0, kr E l0)]) hX dX12_findChosen_6 rfl (by decide) rfl ?_
  refine r_sub [1, 0] rfl ?_
  exact wX12_findChosen_7 hX _ _ _ h
def X12_layChosen_104 (G : kdS) (k7 : Nat → Int64 → Int32 → kdM → Option (Unit × kdM)) (l0 : Nat) (l3 : Int32) (l4 : Int32) : kdM → Option (Unit × kdM) :=
  gR G 12 47 l0 fun t1 =>
  tI G t1 (l3) (l4) <|
  gR G 12 46 l0 fun t2 =>
  aL G t2 ((((60 : Int32) * l3) + l4)) fun t3 =>
  ltI (l3 + Int32.ofInt 1) fun t4 =>
  k7 l0 t3 t4
set_option maxRecDepth 100000 in
set_option maxHeartbeats 4000000 in
theorem wX12_layChosen_104 {E : kdE} {G : kdS} {A : kdA} {r : Unit} {σ1 : kdM} (hX : kdX E A cX12_layChosen 8 RX12 none 4) (k7 : Nat → Int64 → Int32 → kdM → Option (Unit × kdM)) (hk7 : ∀ (l0 : Nat) (l1 : Int64) (l3 : Int32) (σ : kdM), k7 l0 l1 l3 σ = some (r, σ1) → SW E G (.inl (none, σ1)) A 8 σ 7 [(0, kr E l0), (1, .long l1), (3, .int l3)] []) {σ : kdM} {l0 : Nat} {l3 : Int32} {l4 : Int32} (h : X12_layChosen_104 G k7 l0 l3 l4 σ = some (r, σ1)) : SW E G (.inl (none, σ1)) A 8 σ 104 [(0, kr E l0), (3, .int l3), (4, .int l4)] [] := by
  unfold X12_layChosen_104 at h
  refine r_aload_n hX dX12_layChosen_104 rfl 0 rfl ?_
  refine r_gR hX dX12_layChosen_105 kf_X12_123 rfl h ?_
  clear h; intro t1 h
  refine r_iload_n hX dX12_layChosen_108 rfl 1 rfl ?_
  refine r_iload hX dX12_layChosen_109 2 rfl ?_
  refine r_tI hX dX12_layChosen_111 h ?_
  clear h; intro σ h
  refine r_aload_n hX dX12_layChosen_112 rfl 0 rfl ?_
  refine r_gR hX dX12_layChosen_113 kf_X12_120 rfl h ?_
  clear h; intro t2 h
  refine r_bipush hX dX12_layChosen_116 kk_b_60 ?_
  refine r_iload_n hX dX12_layChosen_118 rfl 1 rfl ?_
  refine r_imul hX dX12_layChosen_119 ?_
  refine r_iload hX dX12_layChosen_120 2 rfl ?_
  refine r_iadd hX dX12_layChosen_122 ?_
  refine r_aL hX dX12_layChosen_123 h ?_
  clear h; intro t3 h
  refine r_lstore_n (L2 := [(1, .long t3), (0, kr E l0), (3, .int l3), (4, .int l4)]) hX dX12_layChosen_124 rfl (by decide) rfl ?_
  refine r_iincL (L2 := fun t4 => [(3, .int t4), (1, .long t3), (0, kr E l0), (4, .int l4)]) hX dX12_layChosen_125 h 2 rfl (by decide) (fun _ => rfl) ?_
  clear h; intro t4 h
  refine r_goto (tgt := 7) hX dX12_layChosen_128 (by decide) ?_
  refine r_sub [2, 1, 0] rfl ?_
  exact hk7 _ _ _ _ h
def X12_layChosen_96 (G : kdS) (k7 : Nat → Int64 → Int32 → kdM → Option (Unit × kdM)) (k21 : Nat → Int64 → Int32 → Int32 → Int32 → kdM → Option (Unit × kdM)) (l0 : Nat) (l1 : Int64) (l3 : Int32) (l5 : Int32) (s0 : Int32) : kdM → Option (Unit × kdM) :=
  ltI (l5 + Int32.ofInt 1) fun t1 =>
  k21 l0 l1 l3 s0 t1
set_option maxRecDepth 100000 in
set_option maxHeartbeats 4000000 in
theorem wX12_layChosen_96 {E : kdE} {G : kdS} {A : kdA} {r : Unit} {σ1 : kdM} (hX : kdX E A cX12_layChosen 8 RX12 none 4) (k7 : Nat → Int64 → Int32 → kdM → Option (Unit × kdM)) (k21 : Nat → Int64 → Int32 → Int32 → Int32 → kdM → Option (Unit × kdM)) (hk7 : ∀ (l0 : Nat) (l1 : Int64) (l3 : Int32) (σ : kdM), k7 l0 l1 l3 σ = some (r, σ1) → SW E G (.inl (none, σ1)) A 8 σ 7 [(0, kr E l0), (1, .long l1), (3, .int l3)] []) (hk21 : ∀ (l0 : Nat) (l1 : Int64) (l3 : Int32) (l4 : Int32) (l5 : Int32) (σ : kdM), k21 l0 l1 l3 l4 l5 σ = some (r, σ1) → SW E G (.inl (none, σ1)) A 8 σ 21 [(0, kr E l0), (1, .long l1), (3, .int l3), (4, .int l4), (5, .int l5)] []) {σ : kdM} {l0 : Nat} {l1 : Int64} {l3 : Int32} {l5 : Int32} {s0 : Int32} (h : X12_layChosen_96 G k7 k21 l0 l1 l3 l5 s0 σ = some (r, σ1)) : SW E G (.inl (none, σ1)) A 8 σ 96 [(0, kr E l0), (1, .long l1), (3, .int l3), (5, .int l5)] [.int s0] := by
  unfold X12_layChosen_96 at h
  refine r_istore (L2 := [(4, .int s0), (0, kr E l0), (1, .long l1), (3, .int l3), (5, .int l5)]) hX dX12_layChosen_96 (by decide) rfl ?_
  refine r_iincL (L2 := fun t1 => [(5, .int t1), (4, .int s0), (0, kr E l0), (1, .long l1), (3, .int l3)]) hX dX12_layChosen_98 h 4 rfl (by decide) (fun _ => rfl) ?_
  clear h; intro t1 h
  refine r_goto (tgt := 21) hX dX12_layChosen_101 (by decide) ?_
  refine r_sub [2, 3, 4, 1, 0] rfl ?_
  exact hk21 _ _ _ _ _ _ h
def X12_layChosen_80 (G : kdS) (k7 : Nat → Int64 → Int32 → kdM → Option (Unit × kdM)) (k21 : Nat → Int64 → Int32 → Int32 → Int32 → kdM → Option (Unit × kdM)) (l0 : Nat) (l1 : Int64) (l3 : Int32) (l4 : Int32) (l5 : Int32) (s0 : Int64) : kdM → Option (Unit × kdM) :=
  cnd ((lg_cmp s0 l1) = 0)
    (X12_layChosen_96 G k7 k21 l0 l1 l3 l5 l5)
    (X12_layChosen_96 G k7 k21 l0 l1 l3 l5 l4)
set_option maxRecDepth 100000 in
set_option maxHeartbeats 4000000 in
theorem wX12_layChosen_80 {E : kdE} {G : kdS} {A : kdA} {r : Unit} {σ1 : kdM} (hX : kdX E A cX12_layChosen 8 RX12 none 4) (k7 : Nat → Int64 → Int32 → kdM → Option (Unit × kdM)) (k21 : Nat → Int64 → Int32 → Int32 → Int32 → kdM → Option (Unit × kdM)) (hk7 : ∀ (l0 : Nat) (l1 : Int64) (l3 : Int32) (σ : kdM), k7 l0 l1 l3 σ = some (r, σ1) → SW E G (.inl (none, σ1)) A 8 σ 7 [(0, kr E l0), (1, .long l1), (3, .int l3)] []) (hk21 : ∀ (l0 : Nat) (l1 : Int64) (l3 : Int32) (l4 : Int32) (l5 : Int32) (σ : kdM), k21 l0 l1 l3 l4 l5 σ = some (r, σ1) → SW E G (.inl (none, σ1)) A 8 σ 21 [(0, kr E l0), (1, .long l1), (3, .int l3), (4, .int l4), (5, .int l5)] []) {σ : kdM} {l0 : Nat} {l1 : Int64} {l3 : Int32} {l4 : Int32} {l5 : Int32} {s0 : Int64} (h : X12_layChosen_80 G k7 k21 l0 l1 l3 l4 l5 s0 σ = some (r, σ1)) : SW E G (.inl (none, σ1)) A 8 σ 80 [(0, kr E l0), (1, .long l1), (3, .int l3), (4, .int l4), (5, .int l5)] [.long s0] := by
  unfold X12_layChosen_80 at h
  refine r_lstore (L2 := [(6, .long s0), (0, kr E l0), (1, .long l1), (3, .int l3), (4, .int l4), (5, .int l5)]) hX dX12_layChosen_80 (by decide) rfl ?_
  refine r_lload hX dX12_layChosen_82 0 rfl ?_
  refine r_lload_n hX dX12_layChosen_84 rfl 2 rfl ?_
  refine r_lcmp hX dX12_layChosen_85 ?_
  refine r_if_ne (tgt := 94) hX dX12_layChosen_86 (by decide) h ?_ ?_
  · clear h; intro h
    refine r_iload hX dX12_layChosen_89 5 rfl ?_
    refine r_goto (tgt := 96) hX dX12_layChosen_91 (by decide) ?_
    refine r_sub [1, 2, 3, 5] rfl ?_
    exact wX12_layChosen_96 hX k7 k21 hk7 hk21 h
  · clear h; intro h
    refine r_iload hX dX12_layChosen_94 4 rfl ?_
    refine r_sub [1, 2, 3, 5] rfl ?_
    exact wX12_layChosen_96 hX k7 k21 hk7 hk21 h
def X12_layChosen_21B (G : kdS) (k7 : Nat → Int64 → Int32 → kdM → Option (Unit × kdM)) (k21 : Nat → Int64 → Int32 → Int32 → Int32 → kdM → Option (Unit × kdM)) (l0 : Nat) (l1 : Int64) (l3 : Int32) (l4 : Int32) (l5 : Int32) : kdM → Option (Unit × kdM) :=
  gI G 12 29 l0 fun t1 =>
  cnd (t1 ≤ l5)
    (X12_layChosen_104 G k7 l0 l3 l4)
    (cnd (0 ≤ l4)
      (X12_layChosen_104 G k7 l0 l3 l4)
      (cnd (l3 = 0)
        (gR G 12 46 l0 fun t2 =>
        aL G t2 (l5) fun t3 =>
        X12_layChosen_80 G k7 k21 l0 l1 l3 l4 l5 t3)
        (kcv G 12 l0 (X12_soundsAs G l0 l5 l3) fun t4 =>
        cnd (t4 = 0)
          (X12_layChosen_80 G k7 k21 l0 l1 l3 l4 l5 (0 : Int64))
          (gR G 12 47 l0 fun t5 =>
          aI G t5 ((l3 - (1 : Int32))) fun t6 =>
          kcv G 12 l0 (X12_onBy G l0 (l3 - (1 : Int32)) t6 l5) fun t7 =>
          X12_layChosen_80 G k7 k21 l0 l1 l3 l4 l5 t7))))
set_option maxRecDepth 100000 in
set_option maxHeartbeats 4000000 in
theorem wX12_layChosen_21B {E : kdE} {G : kdS} {A : kdA} {r : Unit} {σ1 : kdM} (hX : kdX E A cX12_layChosen 8 RX12 none 4) (k7 : Nat → Int64 → Int32 → kdM → Option (Unit × kdM)) (k21 : Nat → Int64 → Int32 → Int32 → Int32 → kdM → Option (Unit × kdM)) (hk7 : ∀ (l0 : Nat) (l1 : Int64) (l3 : Int32) (σ : kdM), k7 l0 l1 l3 σ = some (r, σ1) → SW E G (.inl (none, σ1)) A 8 σ 7 [(0, kr E l0), (1, .long l1), (3, .int l3)] []) (hk21 : ∀ (l0 : Nat) (l1 : Int64) (l3 : Int32) (l4 : Int32) (l5 : Int32) (σ : kdM), k21 l0 l1 l3 l4 l5 σ = some (r, σ1) → SW E G (.inl (none, σ1)) A 8 σ 21 [(0, kr E l0), (1, .long l1), (3, .int l3), (4, .int l4), (5, .int l5)] []) {σ : kdM} {l0 : Nat} {l1 : Int64} {l3 : Int32} {l4 : Int32} {l5 : Int32} (h : X12_layChosen_21B G k7 k21 l0 l1 l3 l4 l5 σ = some (r, σ1)) : SW E G (.inl (none, σ1)) A 8 σ 21 [(0, kr E l0), (1, .long l1), (3, .int l3), (4, .int l4), (5, .int l5)] [] := by
  unfold X12_layChosen_21B at h
  refine r_iload hX dX12_layChosen_21 4 rfl ?_
  refine r_aload_n hX dX12_layChosen_23 rfl 0 rfl ?_
  refine r_gI hX dX12_layChosen_24 kf_X12_244 rfl h ?_
  clear h; intro t1 h
  refine r_icmp_ge (tgt := 104) hX dX12_layChosen_27 (by decide) h ?_ ?_
  · clear h; intro h
    refine r_sub [0, 2, 3] rfl ?_
    exact wX12_layChosen_104 hX k7 hk7 h
  · clear h; intro h
    refine r_iload hX dX12_layChosen_30 3 rfl ?_
    refine r_if_ge (tgt := 104) hX dX12_layChosen_32 (by decide) h ?_ ?_
    · clear h; intro h
      refine r_sub [0, 2, 3] rfl ?_
      exact wX12_layChosen_104 hX k7 hk7 h
    · clear h; intro h
      refine r_iload_n hX dX12_layChosen_35 rfl 2 rfl ?_
      refine r_if_ne (tgt := 49) hX dX12_layChosen_36 (by decide) h ?_ ?_
      · clear h; intro h
        refine r_aload_n hX dX12_layChosen_39 rfl 0 rfl ?_
        refine r_gR hX dX12_layChosen_40 kf_X12_120 rfl h ?_
        clear h; intro t2 h
        refine r_iload hX dX12_layChosen_43 4 rfl ?_
        refine r_aL hX dX12_layChosen_45 h ?_
        clear h; intro t3 h
        refine r_goto (tgt := 80) hX dX12_layChosen_46 (by decide) ?_
        refine r_sub [0, 1, 2, 3, 4] rfl ?_
        exact wX12_layChosen_80 hX k7 k21 hk7 hk21 h
      · clear h; intro h
        refine r_aload_n hX dX12_layChosen_49 rfl 0 rfl ?_
        refine r_iload hX dX12_layChosen_50 4 rfl ?_
        refine r_iload_n hX dX12_layChosen_52 rfl 2 rfl ?_
        refine r_cVi (As := [.int l5, .int l3]) (st := []) hX dX12_layChosen_53 kl_X12_soundsAs w_ml_X12_339 w_im_X12_soundsAs w_se_X12_soundsAs ⟨_, _, rfl⟩ (by decide) rfl (Nat.le_of_ble_eq_true rfl) rfl kdz0 h (fun r σ1 h => wX12_soundsAs h) ?_
        clear h; intro t4 σ h
        refine r_if_eq (tgt := 79) hX dX12_layChosen_56 (by decide) h ?_ ?_
        · clear h; intro h
          refine r_lconst hX dX12_layChosen_79 kk_l_0 ?_
          refine r_sub [0, 1, 2, 3, 4] rfl ?_
          exact wX12_layChosen_80 hX k7 k21 hk7 hk21 h
        · clear h; intro h
          refine r_aload_n hX dX12_layChosen_59 rfl 0 rfl ?_
          refine r_iload_n hX dX12_layChosen_60 rfl 2 rfl ?_
          refine r_iconst hX dX12_layChosen_61 kk_i_1 ?_
          refine r_isub hX dX12_layChosen_62 ?_
          refine r_aload_n hX dX12_layChosen_63 rfl 0 rfl ?_
          refine r_gR hX dX12_layChosen_64 kf_X12_123 rfl h ?_
          clear h; intro t5 h
          refine r_iload_n hX dX12_layChosen_67 rfl 2 rfl ?_
          refine r_iconst hX dX12_layChosen_68 kk_i_1 ?_
          refine r_isub hX dX12_layChosen_69 ?_
          refine r_aI hX dX12_layChosen_70 h ?_
          clear h; intro t6 h
          refine r_iload hX dX12_layChosen_71 4 rfl ?_
          refine r_cVl (As := [.int (l3 - (1 : Int32)), .int t6, .int l5]) (st := []) hX dX12_layChosen_73 kl_X12_onBy w_ml_X12_342 w_im_X12_onBy w_se_X12_onBy ⟨_, _, rfl⟩ (by decide) rfl (Nat.le_of_ble_eq_true rfl) rfl kdz0 h (fun r σ1 h => wX12_onBy h) ?_
          clear h; intro t7 σ h
          refine r_goto (tgt := 80) hX dX12_layChosen_76 (by decide) ?_
          refine r_sub [0, 1, 2, 3, 4] rfl ?_
          exact wX12_layChosen_80 hX k7 k21 hk7 hk21 h
def X12_layChosen_21 (G : kdS) (k7 : Nat → Int64 → Int32 → kdM → Option (Unit × kdM)) : Nat → Int64 → Int32 → Int32 → Int32 → kdM → Option (Unit × kdM) := lp (fun _ _ _ _ _ _ => none) (X12_layChosen_21B G k7) NN
theorem wX12_layChosen_21 {E : kdE} {G : kdS} {A : kdA} {r : Unit} {σ1 : kdM} (hX : kdX E A cX12_layChosen 8 RX12 none 4) (k7 : Nat → Int64 → Int32 → kdM → Option (Unit × kdM)) (hk7 : ∀ (l0 : Nat) (l1 : Int64) (l3 : Int32) (σ : kdM), k7 l0 l1 l3 σ = some (r, σ1) → SW E G (.inl (none, σ1)) A 8 σ 7 [(0, kr E l0), (1, .long l1), (3, .int l3)] []) : ∀ (l0 : Nat) (l1 : Int64) (l3 : Int32) (l4 : Int32) (l5 : Int32) (σ : kdM), X12_layChosen_21 G k7 l0 l1 l3 l4 l5 σ = some (r, σ1) → SW E G (.inl (none, σ1)) A 8 σ 21 [(0, kr E l0), (1, .long l1), (3, .int l3), (4, .int l4), (5, .int l5)] [] :=
  lp_ind (Q := fun f => ∀ (l0 : Nat) (l1 : Int64) (l3 : Int32) (l4 : Int32) (l5 : Int32) (σ : kdM), f l0 l1 l3 l4 l5 σ = some (r, σ1) → SW E G (.inl (none, σ1)) A 8 σ 21 [(0, kr E l0), (1, .long l1), (3, .int l3), (4, .int l4), (5, .int l5)] []) (by intros; contradiction) (fun k hk l0 l1 l3 l4 l5 σ h => wX12_layChosen_21B hX k7 k hk7 hk h) NN
def X12_layChosen_7B (G : kdS) (k7 : Nat → Int64 → Int32 → kdM → Option (Unit × kdM)) (l0 : Nat) (l1 : Int64) (l3 : Int32) : kdM → Option (Unit × kdM) :=
  gI G 12 6 l0 fun t1 =>
  cnd (t1 ≤ l3)
    (rt ())
    (X12_layChosen_21 G k7 l0 l1 l3 (-1 : Int32) (0 : Int32))
set_option maxRecDepth 100000 in
set_option maxHeartbeats 4000000 in
theorem wX12_layChosen_7B {E : kdE} {G : kdS} {A : kdA} {r : Unit} {σ1 : kdM} (hX : kdX E A cX12_layChosen 8 RX12 none 4) (k7 : Nat → Int64 → Int32 → kdM → Option (Unit × kdM)) (hk7 : ∀ (l0 : Nat) (l1 : Int64) (l3 : Int32) (σ : kdM), k7 l0 l1 l3 σ = some (r, σ1) → SW E G (.inl (none, σ1)) A 8 σ 7 [(0, kr E l0), (1, .long l1), (3, .int l3)] []) {σ : kdM} {l0 : Nat} {l1 : Int64} {l3 : Int32} (h : X12_layChosen_7B G k7 l0 l1 l3 σ = some (r, σ1)) : SW E G (.inl (none, σ1)) A 8 σ 7 [(0, kr E l0), (1, .long l1), (3, .int l3)] [] := by
  unfold X12_layChosen_7B at h
  refine r_iload_n hX dX12_layChosen_7 rfl 2 rfl ?_
  refine r_aload_n hX dX12_layChosen_8 rfl 0 rfl ?_
  refine r_gI hX dX12_layChosen_9 kf_X12_190 rfl h ?_
  clear h; intro t1 h
  refine r_icmp_ge (tgt := 131) hX dX12_layChosen_12 (by decide) h ?_ ?_
  · clear h; intro h
    exact r_vret hX dX12_layChosen_131 h
  · clear h; intro h
    refine r_iconst hX dX12_layChosen_15 kk_i_m1 ?_
    refine r_istore (L2 := [(4, .int (-1 : Int32)), (0, kr E l0), (1, .long l1), (3, .int l3)]) hX dX12_layChosen_16 (by decide) rfl ?_
    refine r_iconst hX dX12_layChosen_18 kk_i_0 ?_
    refine r_istore (L2 := [(5, .int (0 : Int32)), (4, .int (-1 : Int32)), (0, kr E l0), (1, .long l1), (3, .int l3)]) hX dX12_layChosen_19 (by decide) rfl ?_
    refine r_sub [2, 3, 4, 1, 0] rfl ?_
    exact wX12_layChosen_21 hX k7 hk7 _ _ _ _ _ _ h
def X12_layChosen_7 (G : kdS) : Nat → Int64 → Int32 → kdM → Option (Unit × kdM) := lp (fun _ _ _ _ => none) (X12_layChosen_7B G) NN
theorem wX12_layChosen_7 {E : kdE} {G : kdS} {A : kdA} {r : Unit} {σ1 : kdM} (hX : kdX E A cX12_layChosen 8 RX12 none 4) : ∀ (l0 : Nat) (l1 : Int64) (l3 : Int32) (σ : kdM), X12_layChosen_7 G l0 l1 l3 σ = some (r, σ1) → SW E G (.inl (none, σ1)) A 8 σ 7 [(0, kr E l0), (1, .long l1), (3, .int l3)] [] :=
  lp_ind (Q := fun f => ∀ (l0 : Nat) (l1 : Int64) (l3 : Int32) (σ : kdM), f l0 l1 l3 σ = some (r, σ1) → SW E G (.inl (none, σ1)) A 8 σ 7 [(0, kr E l0), (1, .long l1), (3, .int l3)] []) (by intros; contradiction) (fun k hk l0 l1 l3 σ h => wX12_layChosen_7B hX k hk h) NN
def X12_layChosen (G : kdS) (l0 : Nat) : kdM → Option (Unit × kdM) :=
  kcv G 12 l0 (X12_findChosen G l0) fun t1 =>
  X12_layChosen_7 G l0 t1 (0 : Int32)
set_option maxRecDepth 100000 in
set_option maxHeartbeats 4000000 in
theorem wX12_layChosen {E : kdE} {G : kdS} {l0 : Nat} {σ : kdM} {r : Unit} {σ1 : kdM} (h : X12_layChosen G l0 σ = some (r, σ1)) : Con E G yX12_layChosen cX12_layChosen 8 none 4 [kr E l0] σ (none, σ1) := by
  refine kd_head (own := RX12) rfl (by decide +kernel) (Nat.le_of_ble_eq_true rfl) (fun A hX => ?_)
  show SW E G (.inl (none, σ1)) A 8 σ 0 [(0, kr E l0)] []
  unfold X12_layChosen at h
  refine r_aload_n hX dX12_layChosen_0 rfl 0 rfl ?_
  refine r_cVl (As := []) (st := []) hX dX12_layChosen_1 kl_X12_findChosen w_ml_X12_346 w_im_X12_findChosen w_se_X12_findChosen ⟨_, _, rfl⟩ (by decide) rfl (Nat.le_of_ble_eq_true rfl) rfl kdz0 h (fun r σ1 h => wX12_findChosen h) ?_
  clear h; intro t1 σ h
  refine r_lstore_n (L2 := [(1, .long t1), (0, kr E l0)]) hX dX12_layChosen_4 rfl (by decide) rfl ?_
  refine r_iconst hX dX12_layChosen_5 kk_i_0 ?_
  refine r_istore_n (L2 := [(3, .int (0 : Int32)), (1, .long t1), (0, kr E l0)]) hX dX12_layChosen_6 rfl (by decide) rfl ?_
  refine r_sub [2, 1, 0] rfl ?_
  exact wX12_layChosen_7 hX _ _ _ _ h
def X12_chosen (G : kdS) (l0 : Nat) (l1 : Int32) : kdM → Option (Int32 × kdM) :=
  gI G 12 6 l0 fun t1 =>
  kcl (X12_in G (Int32.toInt64 l1) (0 : Int64) (Int32.toInt64 (t1 - (1 : Int32)))) fun t2 =>
  cnd (t2 = 0)
    (rt (-6 : Int32))
    (kcv G 12 l0 (X12_layChosen G l0) fun _ =>
    gR G 12 47 l0 fun t3 =>
    aI G t3 (l1) fun t4 =>
    rt t4)
set_option maxRecDepth 100000 in
set_option maxHeartbeats 4000000 in
theorem wX12_chosen {E : kdE} {G : kdS} {l0 : Nat} {l1 : Int32} {σ : kdM} {r : Int32} {σ1 : kdM} (h : X12_chosen G l0 l1 σ = some (r, σ1)) : Con E G yX12_chosen cX12_chosen 2 (some .int) 5 [kr E l0, .int l1] σ (some (.int r), σ1) := by
  refine kd_head (own := RX12) rfl (by decide +kernel) (Nat.le_of_ble_eq_true rfl) (fun A hX => ?_)
  show SW E G (.inl (some (.int r), σ1)) A 2 σ 0 [(0, kr E l0), (1, .int l1)] []
  unfold X12_chosen at h
  refine r_iload_n hX dX12_chosen_0 rfl 1 rfl ?_
  refine r_i2l hX dX12_chosen_1 ?_
  refine r_lconst hX dX12_chosen_2 kk_l_0 ?_
  refine r_aload_n hX dX12_chosen_3 rfl 0 rfl ?_
  refine r_gI hX dX12_chosen_4 kf_X12_190 rfl h ?_
  clear h; intro t1 h
  refine r_iconst hX dX12_chosen_7 kk_i_1 ?_
  refine r_isub hX dX12_chosen_8 ?_
  refine r_i2l hX dX12_chosen_9 ?_
  refine r_cSi (As := [.long (Int32.toInt64 l1), .long (0 : Int64), .long (Int32.toInt64 (t1 - (1 : Int32)))]) (st := []) hX dX12_chosen_10 kl_X12_in w_ml_X12_178 w_st_X12_in (by decide) rfl (Nat.le_of_ble_eq_true rfl) rfl kdz0 h (fun r σ1 h => wX12_in h) ?_
  clear h; intro t2 σ h
  refine r_if_ne (tgt := 19) hX dX12_chosen_13 (by decide) h ?_ ?_
  · clear h; intro h
    refine r_bipush hX dX12_chosen_16 kk_b_m6 ?_
    exact r_iret hX dX12_chosen_18 h
  · clear h; intro h
    refine r_aload_n hX dX12_chosen_19 rfl 0 rfl ?_
    refine r_cVv (As := []) (st := []) hX dX12_chosen_20 kl_X12_layChosen w_ml_X12_350 w_im_X12_layChosen w_se_X12_layChosen ⟨_, _, rfl⟩ (by decide) rfl (Nat.le_of_ble_eq_true rfl) rfl kdz0 h (fun r σ1 h => wX12_layChosen h) ?_
    clear h; intro u σ h
    refine r_aload_n hX dX12_chosen_23 rfl 0 rfl ?_
    refine r_gR hX dX12_chosen_24 kf_X12_123 rfl h ?_
    clear h; intro t3 h
    refine r_iload_n hX dX12_chosen_27 rfl 1 rfl ?_
    refine r_aI hX dX12_chosen_28 h ?_
    clear h; intro t4 h
    exact r_iret hX dX12_chosen_29 h
def X12_product (G : kdS) (l0 : Nat) : kdM → Option (Int64 × kdM) :=
  kcv G 12 l0 (X12_findChosen G l0) fun t1 =>
  rt t1
set_option maxRecDepth 100000 in
set_option maxHeartbeats 4000000 in
theorem wX12_product {E : kdE} {G : kdS} {l0 : Nat} {σ : kdM} {r : Int64} {σ1 : kdM} (h : X12_product G l0 σ = some (r, σ1)) : Con E G yX12_product cX12_product 1 (some .long) 4 [kr E l0] σ (some (.long r), σ1) := by
  refine kd_head (own := RX12) rfl (by decide +kernel) (Nat.le_of_ble_eq_true rfl) (fun A hX => ?_)
  show SW E G (.inl (some (.long r), σ1)) A 1 σ 0 [(0, kr E l0)] []
  unfold X12_product at h
  refine r_aload_n hX dX12_product_0 rfl 0 rfl ?_
  refine r_cVl (As := []) (st := []) hX dX12_product_1 kl_X12_findChosen w_ml_X12_346 w_im_X12_findChosen w_se_X12_findChosen ⟨_, _, rfl⟩ (by decide) rfl (Nat.le_of_ble_eq_true rfl) rfl kdz0 h (fun r σ1 h => wX12_findChosen h) ?_
  clear h; intro t1 σ h
  exact r_lret hX dX12_product_4 h
def X12_isHand (G : kdS) (l0 : Int32) : kdM → Option (Int32 × kdM) :=
  kcl (X12_in G (Int32.toInt64 l0) (0 : Int64) (3 : Int64)) fun t1 =>
  rt (vp_nar .boolean t1)
set_option maxRecDepth 100000 in
set_option maxHeartbeats 4000000 in
theorem wX12_isHand {E : kdE} {G : kdS} {l0 : Int32} {σ : kdM} {r : Int32} {σ1 : kdM} (h : X12_isHand G l0 σ = some (r, σ1)) : Con E G yX12_isHand cX12_isHand 1 (some .boolean) 1 [.int l0] σ (some (.int r), σ1) := by
  refine kd_head (own := RX12) rfl (by decide +kernel) (Nat.le_of_ble_eq_true rfl) (fun A hX => ?_)
  show SW E G (.inl (some (.int r), σ1)) A 1 σ 0 [(0, .int l0)] []
  unfold X12_isHand at h
  refine r_iload_n hX dX12_isHand_0 rfl 0 rfl ?_
  refine r_i2l hX dX12_isHand_1 ?_
  refine r_lconst hX dX12_isHand_2 kk_l_0 ?_
  refine r_ldc2_w hX dX12_isHand_3 w_cl_X12_353 ?_
  refine r_cSi (As := [.long (Int32.toInt64 l0), .long (0 : Int64), .long (3 : Int64)]) (st := []) hX dX12_isHand_6 kl_X12_in w_ml_X12_178 w_st_X12_in (by decide) rfl (Nat.le_of_ble_eq_true rfl) rfl kdz0 h (fun r σ1 h => wX12_in h) ?_
  clear h; intro t1 σ h
  exact r_zret hX dX12_isHand_9 h
def X12_learn_15 (G : kdS) : kdM → Option (Int32 × kdM) :=
  rt (-1 : Int32)
set_option maxRecDepth 100000 in
set_option maxHeartbeats 4000000 in
theorem wX12_learn_15 {E : kdE} {G : kdS} {A : kdA} {r : Int32} {σ1 : kdM} (hX : kdX E A cX12_learn 5 RX12 (some .int) 2) {σ : kdM} (h : X12_learn_15 G  σ = some (r, σ1)) : SW E G (.inl (some (.int r), σ1)) A 5 σ 15 [] [] := by
  unfold X12_learn_15 at h
  refine r_iconst hX dX12_learn_15 kk_i_m1 ?_
  exact r_iret hX dX12_learn_16 h
def X12_learn_81 (G : kdS) (k47 : Nat → Int32 → Int32 → Int32 → Int32 → kdM → Option (Int32 × kdM)) (l0 : Nat) (l1 : Int32) (l2 : Int32) (l3 : Int32) (l4 : Int32) : kdM → Option (Int32 × kdM) :=
  ltI (l4 + Int32.ofInt 1) fun t1 =>
  k47 l0 l1 l2 l3 t1
set_option maxRecDepth 100000 in
set_option maxHeartbeats 4000000 in
theorem wX12_learn_81 {E : kdE} {G : kdS} {A : kdA} {r : Int32} {σ1 : kdM} (hX : kdX E A cX12_learn 5 RX12 (some .int) 2) (k47 : Nat → Int32 → Int32 → Int32 → Int32 → kdM → Option (Int32 × kdM)) (hk47 : ∀ (l0 : Nat) (l1 : Int32) (l2 : Int32) (l3 : Int32) (l4 : Int32) (σ : kdM), k47 l0 l1 l2 l3 l4 σ = some (r, σ1) → SW E G (.inl (some (.int r), σ1)) A 5 σ 47 [(0, kr E l0), (1, .int l1), (2, .int l2), (3, .int l3), (4, .int l4)] []) {σ : kdM} {l0 : Nat} {l1 : Int32} {l2 : Int32} {l3 : Int32} {l4 : Int32} (h : X12_learn_81 G k47 l0 l1 l2 l3 l4 σ = some (r, σ1)) : SW E G (.inl (some (.int r), σ1)) A 5 σ 81 [(0, kr E l0), (1, .int l1), (2, .int l2), (3, .int l3), (4, .int l4)] [] := by
  unfold X12_learn_81 at h
  refine r_iincL (L2 := fun t1 => [(4, .int t1), (0, kr E l0), (1, .int l1), (2, .int l2), (3, .int l3)]) hX dX12_learn_81 h 4 rfl (by decide) (fun _ => rfl) ?_
  clear h; intro t1 h
  refine r_goto (tgt := 47) hX dX12_learn_84 (by decide) ?_
  refine r_sub [1, 2, 3, 4, 0] rfl ?_
  exact hk47 _ _ _ _ _ _ h
def X12_learn_47B (G : kdS) (k47 : Nat → Int32 → Int32 → Int32 → Int32 → kdM → Option (Int32 × kdM)) (l0 : Nat) (l1 : Int32) (l2 : Int32) (l3 : Int32) (l4 : Int32) : kdM → Option (Int32 × kdM) :=
  gI G 12 51 l0 fun t1 =>
  cnd (t1 ≤ l4)
    (gR G 12 48 l0 fun t2 =>
    gI G 12 51 l0 fun t3 =>
    tI G t2 (t3) (l1) <|
    gR G 12 49 l0 fun t4 =>
    gI G 12 51 l0 fun t5 =>
    tI G t4 (t5) (l2) <|
    gR G 12 50 l0 fun t6 =>
    gI G 12 51 l0 fun t7 =>
    tI G t6 (t7) (l3) <|
    gI G 12 51 l0 fun t8 =>
    sI G 12 51 l0 ((t8 + (1 : Int32))) <|
    gI G 12 51 l0 fun t9 =>
    rt t9)
    (gR G 12 48 l0 fun t10 =>
    aI G t10 (l4) fun t11 =>
    cnd (t11 = l1)
      (gR G 12 50 l0 fun t12 =>
      aI G t12 (l4) fun t13 =>
      cnd (t13 ≤ l3)
        (X12_learn_81 G k47 l0 l1 l2 l3 l4)
        (rt (-5 : Int32)))
      (X12_learn_81 G k47 l0 l1 l2 l3 l4))
set_option maxRecDepth 100000 in
set_option maxHeartbeats 4000000 in
theorem wX12_learn_47B {E : kdE} {G : kdS} {A : kdA} {r : Int32} {σ1 : kdM} (hX : kdX E A cX12_learn 5 RX12 (some .int) 2) (k47 : Nat → Int32 → Int32 → Int32 → Int32 → kdM → Option (Int32 × kdM)) (hk47 : ∀ (l0 : Nat) (l1 : Int32) (l2 : Int32) (l3 : Int32) (l4 : Int32) (σ : kdM), k47 l0 l1 l2 l3 l4 σ = some (r, σ1) → SW E G (.inl (some (.int r), σ1)) A 5 σ 47 [(0, kr E l0), (1, .int l1), (2, .int l2), (3, .int l3), (4, .int l4)] []) {σ : kdM} {l0 : Nat} {l1 : Int32} {l2 : Int32} {l3 : Int32} {l4 : Int32} (h : X12_learn_47B G k47 l0 l1 l2 l3 l4 σ = some (r, σ1)) : SW E G (.inl (some (.int r), σ1)) A 5 σ 47 [(0, kr E l0), (1, .int l1), (2, .int l2), (3, .int l3), (4, .int l4)] [] := by
  unfold X12_learn_47B at h
  refine r_iload hX dX12_learn_47 4 rfl ?_
  refine r_aload_n hX dX12_learn_49 rfl 0 rfl ?_
  refine r_gI hX dX12_learn_50 kf_X12_360 rfl h ?_
  clear h; intro t1 h
  refine r_icmp_ge (tgt := 87) hX dX12_learn_53 (by decide) h ?_ ?_
  · clear h; intro h
    refine r_aload_n hX dX12_learn_87 rfl 0 rfl ?_
    refine r_gR hX dX12_learn_88 kf_X12_126 rfl h ?_
    clear h; intro t2 h
    refine r_aload_n hX dX12_learn_91 rfl 0 rfl ?_
    refine r_gI hX dX12_learn_92 kf_X12_360 rfl h ?_
    clear h; intro t3 h
    refine r_iload_n hX dX12_learn_95 rfl 1 rfl ?_
    refine r_tI hX dX12_learn_96 h ?_
    clear h; intro σ h
    refine r_aload_n hX dX12_learn_97 rfl 0 rfl ?_
    refine r_gR hX dX12_learn_98 kf_X12_129 rfl h ?_
    clear h; intro t4 h
    refine r_aload_n hX dX12_learn_101 rfl 0 rfl ?_
    refine r_gI hX dX12_learn_102 kf_X12_360 rfl h ?_
    clear h; intro t5 h
    refine r_iload_n hX dX12_learn_105 rfl 2 rfl ?_
    refine r_tI hX dX12_learn_106 h ?_
    clear h; intro σ h
    refine r_aload_n hX dX12_learn_107 rfl 0 rfl ?_
    refine r_gR hX dX12_learn_108 kf_X12_132 rfl h ?_
    clear h; intro t6 h
    refine r_aload_n hX dX12_learn_111 rfl 0 rfl ?_
    refine r_gI hX dX12_learn_112 kf_X12_360 rfl h ?_
    clear h; intro t7 h
    refine r_iload_n hX dX12_learn_115 rfl 3 rfl ?_
    refine r_tI hX dX12_learn_116 h ?_
    clear h; intro σ h
    refine r_aload_n hX dX12_learn_117 rfl 0 rfl ?_
    refine r_dup hX dX12_learn_118 rfl ?_
    refine r_gI hX dX12_learn_119 kf_X12_360 rfl h ?_
    clear h; intro t8 h
    refine r_iconst hX dX12_learn_122 kk_i_1 ?_
    refine r_iadd hX dX12_learn_123 ?_
    refine r_sI hX dX12_learn_124 kf_X12_360 rfl (by intro q hq; cases hq; rfl) h ?_
    clear h; intro σ h
    refine r_aload_n hX dX12_learn_127 rfl 0 rfl ?_
    refine r_gI hX dX12_learn_128 kf_X12_360 rfl h ?_
    clear h; intro t9 h
    exact r_iret hX dX12_learn_131 h
  · clear h; intro h
    refine r_aload_n hX dX12_learn_56 rfl 0 rfl ?_
    refine r_gR hX dX12_learn_57 kf_X12_126 rfl h ?_
    clear h; intro t10 h
    refine r_iload hX dX12_learn_60 4 rfl ?_
    refine r_aI hX dX12_learn_62 h ?_
    clear h; intro t11 h
    refine r_iload_n hX dX12_learn_63 rfl 1 rfl ?_
    refine r_icmp_ne (tgt := 81) hX dX12_learn_64 (by decide) h ?_ ?_
    · clear h; intro h
      refine r_aload_n hX dX12_learn_67 rfl 0 rfl ?_
      refine r_gR hX dX12_learn_68 kf_X12_132 rfl h ?_
      clear h; intro t12 h
      refine r_iload hX dX12_learn_71 4 rfl ?_
      refine r_aI hX dX12_learn_73 h ?_
      clear h; intro t13 h
      refine r_iload_n hX dX12_learn_74 rfl 3 rfl ?_
      refine r_icmp_le (tgt := 81) hX dX12_learn_75 (by decide) h ?_ ?_
      · clear h; intro h
        refine r_sub [0, 1, 2, 3, 4] rfl ?_
        exact wX12_learn_81 hX k47 hk47 h
      · clear h; intro h
        refine r_bipush hX dX12_learn_78 kk_b_m5 ?_
        exact r_iret hX dX12_learn_80 h
    · clear h; intro h
      refine r_sub [0, 1, 2, 3, 4] rfl ?_
      exact wX12_learn_81 hX k47 hk47 h
def X12_learn_47 (G : kdS) : Nat → Int32 → Int32 → Int32 → Int32 → kdM → Option (Int32 × kdM) := lp (fun _ _ _ _ _ _ => none) (X12_learn_47B G) NN
theorem wX12_learn_47 {E : kdE} {G : kdS} {A : kdA} {r : Int32} {σ1 : kdM} (hX : kdX E A cX12_learn 5 RX12 (some .int) 2) : ∀ (l0 : Nat) (l1 : Int32) (l2 : Int32) (l3 : Int32) (l4 : Int32) (σ : kdM), X12_learn_47 G l0 l1 l2 l3 l4 σ = some (r, σ1) → SW E G (.inl (some (.int r), σ1)) A 5 σ 47 [(0, kr E l0), (1, .int l1), (2, .int l2), (3, .int l3), (4, .int l4)] [] :=
  lp_ind (Q := fun f => ∀ (l0 : Nat) (l1 : Int32) (l2 : Int32) (l3 : Int32) (l4 : Int32) (σ : kdM), f l0 l1 l2 l3 l4 σ = some (r, σ1) → SW E G (.inl (some (.int r), σ1)) A 5 σ 47 [(0, kr E l0), (1, .int l1), (2, .int l2), (3, .int l3), (4, .int l4)] []) (by intros; contradiction) (fun k hk l0 l1 l2 l3 l4 σ h => wX12_learn_47B hX k hk h) NN
def X12_learn (G : kdS) (l0 : Nat) (l1 : Int32) (l2 : Int32) (l3 : Int32) : kdM → Option (Int32 × kdM) :=
  kcl (X12_isHand G l1) fun t1 =>
  cnd (t1 = 0)
    (X12_learn_15 G )
    (kcv G 12 l0 (X12_isWord G l0 l2) fun t2 =>
    cnd (t2 = 0)
      (X12_learn_15 G )
      (kcl (X12_in G (Int32.toInt64 l3) (0 : Int64) (3000 : Int64)) fun t3 =>
      cnd (t3 = 0)
        (rt (-2 : Int32))
        (gI G 12 51 l0 fun t4 =>
        cnd (t4 = (60 : Int32))
          (rt (-4 : Int32))
          (X12_learn_47 G l0 l1 l2 l3 (0 : Int32)))))
set_option maxRecDepth 100000 in
set_option maxHeartbeats 4000000 in
theorem wX12_learn {E : kdE} {G : kdS} {l0 : Nat} {l1 : Int32} {l2 : Int32} {l3 : Int32} {σ : kdM} {r : Int32} {σ1 : kdM} (h : X12_learn G l0 l1 l2 l3 σ = some (r, σ1)) : Con E G yX12_learn cX12_learn 5 (some .int) 2 [kr E l0, .int l1, .int l2, .int l3] σ (some (.int r), σ1) := by
  refine kd_head (own := RX12) rfl (by decide +kernel) (Nat.le_of_ble_eq_true rfl) (fun A hX => ?_)
  show SW E G (.inl (some (.int r), σ1)) A 5 σ 0 [(0, kr E l0), (1, .int l1), (2, .int l2), (3, .int l3)] []
  unfold X12_learn at h
  refine r_iload_n hX dX12_learn_0 rfl 1 rfl ?_
  refine r_cSi (As := [.int l1]) (st := []) hX dX12_learn_1 kl_X12_isHand w_ml_X12_355 w_st_X12_isHand (by decide) rfl (Nat.le_of_ble_eq_true rfl) rfl kdz0 h (fun r σ1 h => wX12_isHand h) ?_
  clear h; intro t1 σ h
  refine r_if_eq (tgt := 15) hX dX12_learn_4 (by decide) h ?_ ?_
  · clear h; intro h
    refine r_sub [] rfl ?_
    exact wX12_learn_15 hX h
  · clear h; intro h
    refine r_aload_n hX dX12_learn_7 rfl 0 rfl ?_
    refine r_iload_n hX dX12_learn_8 rfl 2 rfl ?_
    refine r_cVi (As := [.int l2]) (st := []) hX dX12_learn_9 kl_X12_isWord w_ml_X12_251 w_im_X12_isWord w_se_X12_isWord ⟨_, _, rfl⟩ (by decide) rfl (Nat.le_of_ble_eq_true rfl) rfl kdz0 h (fun r σ1 h => wX12_isWord h) ?_
    clear h; intro t2 σ h
    refine r_if_ne (tgt := 17) hX dX12_learn_12 (by decide) h ?_ ?_
    · clear h; intro h
      refine r_sub [] rfl ?_
      exact wX12_learn_15 hX h
    · clear h; intro h
      refine r_iload_n hX dX12_learn_17 rfl 3 rfl ?_
      refine r_i2l hX dX12_learn_18 ?_
      refine r_lconst hX dX12_learn_19 kk_l_0 ?_
      refine r_ldc2_w hX dX12_learn_20 w_cl_X12_358 ?_
      refine r_cSi (As := [.long (Int32.toInt64 l3), .long (0 : Int64), .long (3000 : Int64)]) (st := []) hX dX12_learn_23 kl_X12_in w_ml_X12_178 w_st_X12_in (by decide) rfl (Nat.le_of_ble_eq_true rfl) rfl kdz0 h (fun r σ1 h => wX12_in h) ?_
      clear h; intro t3 σ h
      refine r_if_ne (tgt := 32) hX dX12_learn_26 (by decide) h ?_ ?_
      · clear h; intro h
        refine r_bipush hX dX12_learn_29 kk_b_m2 ?_
        exact r_iret hX dX12_learn_31 h
      · clear h; intro h
        refine r_aload_n hX dX12_learn_32 rfl 0 rfl ?_
        refine r_gI hX dX12_learn_33 kf_X12_360 rfl h ?_
        clear h; intro t4 h
        refine r_bipush hX dX12_learn_36 kk_b_60 ?_
        refine r_icmp_ne (tgt := 44) hX dX12_learn_38 (by decide) h ?_ ?_
        · clear h; intro h
          refine r_bipush hX dX12_learn_41 kk_b_m4 ?_
          exact r_iret hX dX12_learn_43 h
        · clear h; intro h
          refine r_iconst hX dX12_learn_44 kk_i_0 ?_
          refine r_istore (L2 := [(4, .int (0 : Int32)), (0, kr E l0), (1, .int l1), (2, .int l2), (3, .int l3)]) hX dX12_learn_45 (by decide) rfl ?_
          refine r_sub [1, 2, 3, 4, 0] rfl ?_
          exact wX12_learn_47 hX _ _ _ _ _ _ h
def X12_worth_15 (G : kdS) : kdM → Option (Int32 × kdM) :=
  rt (-1 : Int32)
set_option maxRecDepth 100000 in
set_option maxHeartbeats 4000000 in
theorem wX12_worth_15 {E : kdE} {G : kdS} {A : kdA} {r : Int32} {σ1 : kdM} (hX : kdX E A cX12_worth 4 RX12 (some .int) 2) {σ : kdM} (h : X12_worth_15 G  σ = some (r, σ1)) : SW E G (.inl (some (.int r), σ1)) A 4 σ 15 [] [] := by
  unfold X12_worth_15 at h
  refine r_iconst hX dX12_worth_15 kk_i_m1 ?_
  exact r_iret hX dX12_worth_16 h
def X12_worth_41 (G : kdS) (s0 : Int32) : kdM → Option (Int32 × kdM) :=
  rt s0
set_option maxRecDepth 100000 in
set_option maxHeartbeats 4000000 in
theorem wX12_worth_41 {E : kdE} {G : kdS} {A : kdA} {r : Int32} {σ1 : kdM} (hX : kdX E A cX12_worth 4 RX12 (some .int) 2) {σ : kdM} {s0 : Int32} (h : X12_worth_41 G s0 σ = some (r, σ1)) : SW E G (.inl (some (.int r), σ1)) A 4 σ 41 [] [.int s0] := by
  unfold X12_worth_41 at h
  exact r_iret hX dX12_worth_41 h
def X12_worth (G : kdS) (l0 : Nat) (l1 : Int32) (l2 : Int32) (l3 : Int32) : kdM → Option (Int32 × kdM) :=
  kcl (X12_isHand G l1) fun t1 =>
  cnd (t1 = 0)
    (X12_worth_15 G )
    (kcv G 12 l0 (X12_isWord G l0 l2) fun t2 =>
    cnd (t2 = 0)
      (X12_worth_15 G )
      (kcl (X12_in G (Int32.toInt64 l3) (0 : Int64) (3000 : Int64)) fun t3 =>
      cnd (t3 = 0)
        (X12_worth_41 G (-2 : Int32))
        (kcv G 12 l0 (X12_worthOf G l0 l1 l2 l3) fun t4 =>
        X12_worth_41 G t4)))
set_option maxRecDepth 100000 in
set_option maxHeartbeats 4000000 in
theorem wX12_worth {E : kdE} {G : kdS} {l0 : Nat} {l1 : Int32} {l2 : Int32} {l3 : Int32} {σ : kdM} {r : Int32} {σ1 : kdM} (h : X12_worth G l0 l1 l2 l3 σ = some (r, σ1)) : Con E G yX12_worth cX12_worth 4 (some .int) 2 [kr E l0, .int l1, .int l2, .int l3] σ (some (.int r), σ1) := by
  refine kd_head (own := RX12) rfl (by decide +kernel) (Nat.le_of_ble_eq_true rfl) (fun A hX => ?_)
  show SW E G (.inl (some (.int r), σ1)) A 4 σ 0 [(0, kr E l0), (1, .int l1), (2, .int l2), (3, .int l3)] []
  unfold X12_worth at h
  refine r_iload_n hX dX12_worth_0 rfl 1 rfl ?_
  refine r_cSi (As := [.int l1]) (st := []) hX dX12_worth_1 kl_X12_isHand w_ml_X12_355 w_st_X12_isHand (by decide) rfl (Nat.le_of_ble_eq_true rfl) rfl kdz0 h (fun r σ1 h => wX12_isHand h) ?_
  clear h; intro t1 σ h
  refine r_if_eq (tgt := 15) hX dX12_worth_4 (by decide) h ?_ ?_
  · clear h; intro h
    refine r_sub [] rfl ?_
    exact wX12_worth_15 hX h
  · clear h; intro h
    refine r_aload_n hX dX12_worth_7 rfl 0 rfl ?_
    refine r_iload_n hX dX12_worth_8 rfl 2 rfl ?_
    refine r_cVi (As := [.int l2]) (st := []) hX dX12_worth_9 kl_X12_isWord w_ml_X12_251 w_im_X12_isWord w_se_X12_isWord ⟨_, _, rfl⟩ (by decide) rfl (Nat.le_of_ble_eq_true rfl) rfl kdz0 h (fun r σ1 h => wX12_isWord h) ?_
    clear h; intro t2 σ h
    refine r_if_ne (tgt := 17) hX dX12_worth_12 (by decide) h ?_ ?_
    · clear h; intro h
      refine r_sub [] rfl ?_
      exact wX12_worth_15 hX h
    · clear h; intro h
      refine r_iload_n hX dX12_worth_17 rfl 3 rfl ?_
      refine r_i2l hX dX12_worth_18 ?_
      refine r_lconst hX dX12_worth_19 kk_l_0 ?_
      refine r_ldc2_w hX dX12_worth_20 w_cl_X12_358 ?_
      refine r_cSi (As := [.long (Int32.toInt64 l3), .long (0 : Int64), .long (3000 : Int64)]) (st := []) hX dX12_worth_23 kl_X12_in w_ml_X12_178 w_st_X12_in (by decide) rfl (Nat.le_of_ble_eq_true rfl) rfl kdz0 h (fun r σ1 h => wX12_in h) ?_
      clear h; intro t3 σ h
      refine r_if_eq (tgt := 39) hX dX12_worth_26 (by decide) h ?_ ?_
      · clear h; intro h
        refine r_bipush hX dX12_worth_39 kk_b_m2 ?_
        refine r_sub [] rfl ?_
        exact wX12_worth_41 hX h
      · clear h; intro h
        refine r_aload_n hX dX12_worth_29 rfl 0 rfl ?_
        refine r_iload_n hX dX12_worth_30 rfl 1 rfl ?_
        refine r_iload_n hX dX12_worth_31 rfl 2 rfl ?_
        refine r_iload_n hX dX12_worth_32 rfl 3 rfl ?_
        refine r_cVi (As := [.int l1, .int l2, .int l3]) (st := []) hX dX12_worth_33 kl_X12_worthOf w_ml_X12_279 w_im_X12_worthOf w_se_X12_worthOf ⟨_, _, rfl⟩ (by decide) rfl (Nat.le_of_ble_eq_true rfl) rfl kdz0 h (fun r σ1 h => wX12_worthOf h) ?_
        clear h; intro t4 σ h
        refine r_goto (tgt := 41) hX dX12_worth_36 (by decide) ?_
        refine r_sub [] rfl ?_
        exact wX12_worth_41 hX h
