/-! the reference over whole numbers: by program (wip/whole/gen/mkz.py) -/
def Z12_in_18 (G : kdS) (s0 : Int) : kzM → Option (Int × kzM) :=
  zrt (zB s0)
theorem qX12_in_18 {G : kdS} (hG : kzG G) {s0 : Int} (hs0 : kzI s0) : CRi (Z12_in_18 G s0) (X12_in_18 G (Int32.ofInt s0)) := by
  unfold Z12_in_18 X12_in_18
  exact c_rt (kz_BI _) (kz_B rfl)
def Z12_in_17 (G : kdS) : kzM → Option (Int × kzM) :=
  Z12_in_18 G (0 : Int)
theorem qX12_in_17 {G : kdS} (hG : kzG G) : CRi (Z12_in_17 G) (X12_in_17 G) := by
  unfold Z12_in_17 X12_in_17
  exact (qX12_in_18 hG (by unfold kzI; omega))
def Z12_in (G : kdS) (l0 : Int) (l2 : Int) (l4 : Int) : kzM → Option (Int × kzM) :=
  zcnd (l0 < l2)
  (Z12_in_17 G)
  (zcnd (l4 < l0)
  (Z12_in_17 G)
  (Z12_in_18 G (1 : Int)))
theorem qX12_in {G : kdS} (hG : kzG G) {l0 : Int} (hl0 : kzL l0) {l2 : Int} (hl2 : kzL l2) {l4 : Int} (hl4 : kzL l4) : CRi (Z12_in G l0 l2 l4) (X12_in G (Int64.ofInt l0) (Int64.ofInt l2) (Int64.ofInt l4)) := by
  unfold Z12_in X12_in
  exact c_cnd (kzL_lt hl0 hl2 rfl rfl) ((qX12_in_17 hG)) (c_cnd (kzL_gt hl0 hl4 rfl rfl) ((qX12_in_17 hG)) ((qX12_in_18 hG (by unfold kzI; omega))))
def Z12_size_10 (G : kdS) (s0 : Int) : kzM → Option (Int × kzM) :=
  zrt s0
theorem qX12_size_10 {G : kdS} (hG : kzG G) {s0 : Int} (hs0 : kzI s0) : CRi (Z12_size_10 G s0) (X12_size_10 G (Int32.ofInt s0)) := by
  unfold Z12_size_10 X12_size_10
  exact c_rt hs0 rfl
def Z12_size (G : kdS) (l0 : Int) : kzM → Option (Int × kzM) :=
  zcnd ((0 : Int) ≤ l0)
  (Z12_size_10 G l0)
  (zlI (-l0) fun u1 =>
  Z12_size_10 G u1)
theorem qX12_size {G : kdS} (hG : kzG G) {l0 : Int} (hl0 : kzI l0) : CRi (Z12_size G l0) (X12_size G (Int32.ofInt l0)) := by
  unfold Z12_size X12_size
  exact c_cnd (kz_le (by unfold kzI; omega) hl0 rfl rfl) ((qX12_size_10 hG hl0)) (c_rg (kz_neg rfl) fun u1 r1 e1 => (e1 ▸ (qX12_size_10 hG r1)))
def Z12_key (G : kdS) (l0 : Nat) (l1 : Int) : kzM → Option (Int × kzM) :=
  zcl (Z12_in G l1 (0 : Int) (11 : Int)) fun t1 =>
  zcnd (t1 = (0 : Int))
  (zrt (-2 : Int))
  (zgI G 12 1 l0 fun t2 =>
  zcnd (t2 = (16 : Int))
  (zrt (-4 : Int))
  (zgR G 12 0 l0 fun t3 =>
  zgI G 12 1 l0 fun t4 =>
  ztI G t3 t4 l1 <|
  zgI G 12 1 l0 fun t5 =>
  zlI (t5 + (1 : Int)) fun u1 =>
  zsI G 12 1 l0 u1 <|
  zgI G 12 1 l0 fun t6 =>
  zrt t6))
theorem qX12_key {G : kdS} (hG : kzG G) (l0 : Nat) {l1 : Int} (hl1 : kzI l1) : CRi (Z12_key G l0 l1) (X12_key G l0 (Int32.ofInt l1)) := by
  unfold Z12_key X12_key
  exact c_cl ((kz_i2l hl1 rfl) ▸ (qX12_in hG (kzI_L hl1) (show kzL (0 : Int) by unfold kzL; omega) (show kzL (11 : Int) by unfold kzL; omega))) (fun t1 ht1 => c_cnd (kz_eq ht1 (by unfold kzI; omega) rfl rfl) (c_rt (by unfold kzI; omega) rfl) (c_gI rfl (fun t2 ht2 => c_cnd (kz_eq ht2 (by unfold kzI; omega) rfl rfl) (c_rt (by unfold kzI; omega) rfl) (c_gR (fun t3 => c_gI rfl (fun t4 ht4 => c_tI hG rfl hl1 rfl (c_gI rfl (fun t5 ht5 => c_rg (kz_add rfl rfl) fun u1 r1 e1 => c_sI rfl r1 e1 (c_gI rfl (fun t6 ht6 => c_rt ht6 rfl))))))))))
def Z12_letter (G : kdS) (l0 : Nat) (l1 : Int) : kzM → Option (Int × kzM) :=
  zcl (Z12_in G l1 (1 : Int) (60 : Int)) fun t1 =>
  zcnd (t1 = (0 : Int))
  (zrt (-2 : Int))
  (zgI G 12 3 l0 fun t2 =>
  zcnd (t2 = (3 : Int))
  (zrt (-4 : Int))
  (zgR G 12 2 l0 fun t3 =>
  zgI G 12 3 l0 fun t4 =>
  ztI G t3 t4 l1 <|
  zgI G 12 3 l0 fun t5 =>
  zlI (t5 + (1 : Int)) fun u1 =>
  zsI G 12 3 l0 u1 <|
  zgI G 12 3 l0 fun t6 =>
  zrt t6))
theorem qX12_letter {G : kdS} (hG : kzG G) (l0 : Nat) {l1 : Int} (hl1 : kzI l1) : CRi (Z12_letter G l0 l1) (X12_letter G l0 (Int32.ofInt l1)) := by
  unfold Z12_letter X12_letter
  exact c_cl ((kz_i2l hl1 rfl) ▸ (qX12_in hG (kzI_L hl1) (show kzL (1 : Int) by unfold kzL; omega) (show kzL (60 : Int) by unfold kzL; omega))) (fun t1 ht1 => c_cnd (kz_eq ht1 (by unfold kzI; omega) rfl rfl) (c_rt (by unfold kzI; omega) rfl) (c_gI rfl (fun t2 ht2 => c_cnd (kz_eq ht2 (by unfold kzI; omega) rfl rfl) (c_rt (by unfold kzI; omega) rfl) (c_gR (fun t3 => c_gI rfl (fun t4 ht4 => c_tI hG rfl hl1 rfl (c_gI rfl (fun t5 ht5 => c_rg (kz_add rfl rfl) fun u1 r1 e1 => c_sI rfl r1 e1 (c_gI rfl (fun t6 ht6 => c_rt ht6 rfl))))))))))
def Z12_wipe_73 (G : kdS) (l2 : Int) : kzM → Option (Int × kzM) :=
  zrt l2
theorem qX12_wipe_73 {G : kdS} (hG : kzG G) {l2 : Int} (hl2 : kzI l2) : CRi (Z12_wipe_73 G l2) (X12_wipe_73 G (Int32.ofInt l2)) := by
  unfold Z12_wipe_73 X12_wipe_73
  exact c_rt hl2 rfl
def Z12_wipe_37 (G : kdS) (l0 : Nat) (l1 : Int) (s0 : Int) : kzM → Option (Int × kzM) :=
  zcnd (l1 = (0 : Int))
  (zsI G 12 1 l0 (0 : Int) <|
  Z12_wipe_73 G s0)
  (zcnd (l1 = (1 : Int))
  (zsI G 12 3 l0 (0 : Int) <|
  Z12_wipe_73 G s0)
  (zcnd (l1 = (2 : Int))
  (zsI G 12 6 l0 (0 : Int) <|
  Z12_wipe_73 G s0)
  (Z12_wipe_73 G s0)))
theorem qX12_wipe_37 {G : kdS} (hG : kzG G) (l0 : Nat) {l1 : Int} (hl1 : kzI l1) {s0 : Int} (hs0 : kzI s0) : CRi (Z12_wipe_37 G l0 l1 s0) (X12_wipe_37 G l0 (Int32.ofInt l1) (Int32.ofInt s0)) := by
  unfold Z12_wipe_37 X12_wipe_37
  exact c_cnd (kz_eq hl1 (by unfold kzI; omega) rfl rfl) (c_sI rfl (by unfold kzI; omega) rfl ((qX12_wipe_73 hG hs0))) (c_cnd (kz_eq hl1 (by unfold kzI; omega) rfl rfl) (c_sI rfl (by unfold kzI; omega) rfl ((qX12_wipe_73 hG hs0))) (c_cnd (kz_eq hl1 (by unfold kzI; omega) rfl rfl) (c_sI rfl (by unfold kzI; omega) rfl ((qX12_wipe_73 hG hs0))) ((qX12_wipe_73 hG hs0))))
def Z12_wipe (G : kdS) (l0 : Nat) (l1 : Int) : kzM → Option (Int × kzM) :=
  zcnd (l1 = (0 : Int))
  (zgI G 12 1 l0 fun t1 =>
  Z12_wipe_37 G l0 l1 t1)
  (zcnd (l1 = (1 : Int))
  (zgI G 12 3 l0 fun t2 =>
  Z12_wipe_37 G l0 l1 t2)
  (zcnd (l1 = (2 : Int))
  (zgI G 12 6 l0 fun t3 =>
  Z12_wipe_37 G l0 l1 t3)
  (Z12_wipe_37 G l0 l1 (-2 : Int))))
theorem qX12_wipe {G : kdS} (hG : kzG G) (l0 : Nat) {l1 : Int} (hl1 : kzI l1) : CRi (Z12_wipe G l0 l1) (X12_wipe G l0 (Int32.ofInt l1)) := by
  unfold Z12_wipe X12_wipe
  exact c_cnd (kz_eq hl1 (by unfold kzI; omega) rfl rfl) (c_gI rfl (fun t1 ht1 => (qX12_wipe_37 hG l0 hl1 ht1))) (c_cnd (kz_eq hl1 (by unfold kzI; omega) rfl rfl) (c_gI rfl (fun t2 ht2 => (qX12_wipe_37 hG l0 hl1 ht2))) (c_cnd (kz_eq hl1 (by unfold kzI; omega) rfl rfl) (c_gI rfl (fun t3 ht3 => (qX12_wipe_37 hG l0 hl1 ht3))) ((qX12_wipe_37 hG l0 hl1 (by unfold kzI; omega)))))
def Z12_isTongue (G : kdS) (l0 : Int) : kzM → Option (Int × kzM) :=
  zcl (Z12_in G l0 (0 : Int) (2 : Int)) fun t1 =>
  zrt (zB t1)
theorem qX12_isTongue {G : kdS} (hG : kzG G) {l0 : Int} (hl0 : kzI l0) : CRi (Z12_isTongue G l0) (X12_isTongue G (Int32.ofInt l0)) := by
  unfold Z12_isTongue X12_isTongue
  exact c_cl ((kz_i2l hl0 rfl) ▸ (qX12_in hG (kzI_L hl0) (show kzL (0 : Int) by unfold kzL; omega) (show kzL (2 : Int) by unfold kzL; omega))) (fun t1 ht1 => c_rt (kz_BI _) (kz_B rfl))
def Z12_rule_45 (G : kdS) : kzM → Option (Int × kzM) :=
  zrt (-5 : Int)
theorem qX12_rule_45 {G : kdS} (hG : kzG G) : CRi (Z12_rule_45 G) (X12_rule_45 G) := by
  unfold Z12_rule_45 X12_rule_45
  exact c_rt (by unfold kzI; omega) rfl
def Z12_rule_94B (G : kdS) (k94 : Nat → Int → Int → Int → kzM → Option (Int × kzM)) (l0 : Nat) (l1 : Int) (l2 : Int) (l3 : Int) : kzM → Option (Int × kzM) :=
  zgI G 12 3 l0 fun t1 =>
  zcnd (t1 ≤ l3)
  (zgR G 12 8 l0 fun t2 =>
  zgI G 12 1 l0 fun t3 =>
  ztI G t2 l2 t3 <|
  zgR G 12 10 l0 fun t4 =>
  zgI G 12 3 l0 fun t5 =>
  ztI G t4 l2 t5 <|
  zsI G 12 1 l0 (0 : Int) <|
  zsI G 12 3 l0 (0 : Int) <|
  zgR G 12 11 l0 fun t6 =>
  zaI G t6 l1 fun t7 =>
  zlI (t7 + (1 : Int)) fun u1 =>
  ztI G t6 l1 u1 <|
  zgR G 12 11 l0 fun t8 =>
  zaI G t8 l1 fun t9 =>
  zlI (t9 - (1 : Int)) fun u2 =>
  zrt u2)
  (zgR G 12 9 l0 fun t10 =>
  zgR G 12 2 l0 fun t11 =>
  zaI G t11 l3 fun t12 =>
  ztI G t10 (((3 : Int) * l2) + l3) t12 <|
  zlI (l3 + (1 : Int)) fun t13 =>
  k94 l0 l1 l2 t13)
theorem qX12_rule_94B {G : kdS} (hG : kzG G) {k94' : Nat → Int → Int → Int → kzM → Option (Int × kzM)} {k94 : Nat → Int32 → Int32 → Int32 → kdM → Option (Int32 × kdM)} (hk94 : ∀ (a0 : Nat) (a1 : Int) (_ : kzI a1) (a2 : Int) (_ : kzI a2) (a3 : Int) (_ : kzI a3), CRi (k94' a0 a1 a2 a3) (k94 a0 (Int32.ofInt a1) (Int32.ofInt a2) (Int32.ofInt a3))) (l0 : Nat) {l1 : Int} (hl1 : kzI l1) {l2 : Int} (hl2 : kzI l2) {l3 : Int} (hl3 : kzI l3) : CRi (Z12_rule_94B G k94' l0 l1 l2 l3) (X12_rule_94B G k94 l0 (Int32.ofInt l1) (Int32.ofInt l2) (Int32.ofInt l3)) := by
  unfold Z12_rule_94B X12_rule_94B
  exact c_gI rfl (fun t1 ht1 => c_cnd (kz_le ht1 hl3 rfl rfl) (c_gR (fun t2 => c_gI rfl (fun t3 ht3 => c_tI hG rfl ht3 rfl (c_gR (fun t4 => c_gI rfl (fun t5 ht5 => c_tI hG rfl ht5 rfl (c_sI rfl (by unfold kzI; omega) rfl (c_sI rfl (by unfold kzI; omega) rfl (c_gR (fun t6 => c_aI hG rfl (fun t7 ht7 => c_rg (kz_add rfl rfl) fun u1 r1 e1 => c_tI hG rfl r1 e1 (c_gR (fun t8 => c_aI hG rfl (fun t9 ht9 => c_rg (kz_sub rfl rfl) fun u2 r2 e2 => c_rt r2 e2)))))))))))))) (c_gR (fun t10 => c_gR (fun t11 => c_aI hG rfl (fun t12 ht12 => c_tI hG (kz_add (kz_mul rfl rfl) rfl) ht12 rfl (c_lI (kz_add rfl rfl) (fun t13 ht13 => (hk94 l0 _ hl1 _ hl2 _ ht13))))))))
def Z12_rule_94 (G : kdS) : Nat → Int → Int → Int → kzM → Option (Int × kzM) := lp (fun _ _ _ _ _ => none) (Z12_rule_94B G) NN
theorem qX12_rule_94 {G : kdS} (hG : kzG G) : ∀ (a0 : Nat) (a1 : Int) (_ : kzI a1) (a2 : Int) (_ : kzI a2) (a3 : Int) (_ : kzI a3), CRi (Z12_rule_94 G a0 a1 a2 a3) (X12_rule_94 G a0 (Int32.ofInt a1) (Int32.ofInt a2) (Int32.ofInt a3)) :=
  lp_rel (R := fun (f' : Nat → Int → Int → Int → kzM → Option (Int × kzM)) (f : Nat → Int32 → Int32 → Int32 → kdM → Option (Int32 × kdM)) => ∀ (a0 : Nat) (a1 : Int) (_ : kzI a1) (a2 : Int) (_ : kzI a2) (a3 : Int) (_ : kzI a3), CRi (f' a0 a1 a2 a3) (f a0 (Int32.ofInt a1) (Int32.ofInt a2) (Int32.ofInt a3))) (by intros; exact c_no) (fun _ _ hf a0 a1 ha1 a2 ha2 a3 ha3 => qX12_rule_94B hG hf a0 ha1 ha2 ha3) NN
def Z12_rule_62B (G : kdS) (k62 : Nat → Int → Int → Int → kzM → Option (Int × kzM)) (l0 : Nat) (l1 : Int) (l2 : Int) (l3 : Int) : kzM → Option (Int × kzM) :=
  zgI G 12 1 l0 fun t1 =>
  zcnd (t1 ≤ l3)
  (Z12_rule_94 G l0 l1 l2 (0 : Int))
  (zgR G 12 7 l0 fun t2 =>
  zgR G 12 0 l0 fun t3 =>
  zaI G t3 l3 fun t4 =>
  ztI G t2 (((4 : Int) * l2) + l3) t4 <|
  zlI (l3 + (1 : Int)) fun t5 =>
  k62 l0 l1 l2 t5)
theorem qX12_rule_62B {G : kdS} (hG : kzG G) {k62' : Nat → Int → Int → Int → kzM → Option (Int × kzM)} {k62 : Nat → Int32 → Int32 → Int32 → kdM → Option (Int32 × kdM)} (hk62 : ∀ (a0 : Nat) (a1 : Int) (_ : kzI a1) (a2 : Int) (_ : kzI a2) (a3 : Int) (_ : kzI a3), CRi (k62' a0 a1 a2 a3) (k62 a0 (Int32.ofInt a1) (Int32.ofInt a2) (Int32.ofInt a3))) (l0 : Nat) {l1 : Int} (hl1 : kzI l1) {l2 : Int} (hl2 : kzI l2) {l3 : Int} (hl3 : kzI l3) : CRi (Z12_rule_62B G k62' l0 l1 l2 l3) (X12_rule_62B G k62 l0 (Int32.ofInt l1) (Int32.ofInt l2) (Int32.ofInt l3)) := by
  unfold Z12_rule_62B X12_rule_62B
  exact c_gI rfl (fun t1 ht1 => c_cnd (kz_le ht1 hl3 rfl rfl) ((qX12_rule_94 hG l0 _ hl1 _ hl2 _ (by unfold kzI; omega))) (c_gR (fun t2 => c_gR (fun t3 => c_aI hG rfl (fun t4 ht4 => c_tI hG (kz_add (kz_mul rfl rfl) rfl) ht4 rfl (c_lI (kz_add rfl rfl) (fun t5 ht5 => (hk62 l0 _ hl1 _ hl2 _ ht5))))))))
def Z12_rule_62 (G : kdS) : Nat → Int → Int → Int → kzM → Option (Int × kzM) := lp (fun _ _ _ _ _ => none) (Z12_rule_62B G) NN
theorem qX12_rule_62 {G : kdS} (hG : kzG G) : ∀ (a0 : Nat) (a1 : Int) (_ : kzI a1) (a2 : Int) (_ : kzI a2) (a3 : Int) (_ : kzI a3), CRi (Z12_rule_62 G a0 a1 a2 a3) (X12_rule_62 G a0 (Int32.ofInt a1) (Int32.ofInt a2) (Int32.ofInt a3)) :=
  lp_rel (R := fun (f' : Nat → Int → Int → Int → kzM → Option (Int × kzM)) (f : Nat → Int32 → Int32 → Int32 → kdM → Option (Int32 × kdM)) => ∀ (a0 : Nat) (a1 : Int) (_ : kzI a1) (a2 : Int) (_ : kzI a2) (a3 : Int) (_ : kzI a3), CRi (f' a0 a1 a2 a3) (f a0 (Int32.ofInt a1) (Int32.ofInt a2) (Int32.ofInt a3))) (by intros; exact c_no) (fun _ _ hf a0 a1 ha1 a2 ha2 a3 ha3 => qX12_rule_62B hG hf a0 ha1 ha2 ha3) NN
def Z12_rule (G : kdS) (l0 : Nat) (l1 : Int) : kzM → Option (Int × kzM) :=
  zcl (Z12_isTongue G l1) fun t1 =>
  zcnd (t1 = (0 : Int))
  (zrt (-1 : Int))
  (zgR G 12 11 l0 fun t2 =>
  zaI G t2 l1 fun t3 =>
  zcnd (t3 = (24 : Int))
  (zrt (-4 : Int))
  (zgI G 12 1 l0 fun t4 =>
  zcnd (t4 = (0 : Int))
  (Z12_rule_45 G)
  (zgI G 12 3 l0 fun t5 =>
  zcnd (t5 = (0 : Int))
  (Z12_rule_45 G)
  (zgI G 12 1 l0 fun t6 =>
  zcnd (t6 ≤ (4 : Int))
  (zgR G 12 11 l0 fun t7 =>
  zaI G t7 l1 fun t8 =>
  zlI (((24 : Int) * l1) + t8) fun t9 =>
  Z12_rule_62 G l0 l1 t9 (0 : Int))
  (Z12_rule_45 G)))))
theorem qX12_rule {G : kdS} (hG : kzG G) (l0 : Nat) {l1 : Int} (hl1 : kzI l1) : CRi (Z12_rule G l0 l1) (X12_rule G l0 (Int32.ofInt l1)) := by
  unfold Z12_rule X12_rule
  exact c_cl (qX12_isTongue hG hl1) (fun t1 ht1 => c_cnd (kz_eq ht1 (by unfold kzI; omega) rfl rfl) (c_rt (by unfold kzI; omega) rfl) (c_gR (fun t2 => c_aI hG rfl (fun t3 ht3 => c_cnd (kz_eq ht3 (by unfold kzI; omega) rfl rfl) (c_rt (by unfold kzI; omega) rfl) (c_gI rfl (fun t4 ht4 => c_cnd (kz_eq ht4 (by unfold kzI; omega) rfl rfl) ((qX12_rule_45 hG)) (c_gI rfl (fun t5 ht5 => c_cnd (kz_eq ht5 (by unfold kzI; omega) rfl rfl) ((qX12_rule_45 hG)) (c_gI rfl (fun t6 ht6 => c_cnd (kz_le ht6 (by unfold kzI; omega) rfl rfl) (c_gR (fun t7 => c_aI hG rfl (fun t8 ht8 => c_lI (kz_add (kz_mul rfl rfl) rfl) (fun t9 ht9 => (qX12_rule_62 hG l0 _ hl1 _ ht9 _ (by unfold kzI; omega)))))) ((qX12_rule_45 hG))))))))))))
def Z12_isLetter (G : kdS) (l0 : Int) : kzM → Option (Int × kzM) :=
  zcl (Z12_in G l0 (1 : Int) (60 : Int)) fun t1 =>
  zrt (zB t1)
theorem qX12_isLetter {G : kdS} (hG : kzG G) {l0 : Int} (hl0 : kzI l0) : CRi (Z12_isLetter G l0) (X12_isLetter G (Int32.ofInt l0)) := by
  unfold Z12_isLetter X12_isLetter
  exact c_cl ((kz_i2l hl0 rfl) ▸ (qX12_in hG (kzI_L hl0) (show kzL (1 : Int) by unfold kzL; omega) (show kzL (60 : Int) by unfold kzL; omega))) (fun t1 ht1 => c_rt (kz_BI _) (kz_B rfl))
def Z12_join_31 (G : kdS) : kzM → Option (Int × kzM) :=
  zrt (-2 : Int)
theorem qX12_join_31 {G : kdS} (hG : kzG G) : CRi (Z12_join_31 G) (X12_join_31 G) := by
  unfold Z12_join_31 X12_join_31
  exact c_rt (by unfold kzI; omega) rfl
def Z12_join (G : kdS) (l0 : Nat) (l1 : Int) (l2 : Int) (l3 : Int) (l4 : Int) : kzM → Option (Int × kzM) :=
  zcl (Z12_isTongue G l1) fun t1 =>
  zcnd (t1 = (0 : Int))
  (zrt (-1 : Int))
  (zcl (Z12_isLetter G l2) fun t2 =>
  zcnd (t2 = (0 : Int))
  (Z12_join_31 G)
  (zcl (Z12_isLetter G l3) fun t3 =>
  zcnd (t3 = (0 : Int))
  (Z12_join_31 G)
  (zcl (Z12_isLetter G l4) fun t4 =>
  zcnd (t4 = (0 : Int))
  (Z12_join_31 G)
  (zgR G 12 13 l0 fun t5 =>
  zaI G t5 l1 fun t6 =>
  zcnd (t6 = (12 : Int))
  (zrt (-4 : Int))
  (zgR G 12 13 l0 fun t7 =>
  zaI G t7 l1 fun t8 =>
  zlI ((3 : Int) * (((12 : Int) * l1) + t8)) fun t9 =>
  zgR G 12 12 l0 fun t10 =>
  ztI G t10 t9 l2 <|
  zgR G 12 12 l0 fun t11 =>
  ztI G t11 (t9 + (1 : Int)) l3 <|
  zgR G 12 12 l0 fun t12 =>
  ztI G t12 (t9 + (2 : Int)) l4 <|
  zgR G 12 13 l0 fun t13 =>
  zaI G t13 l1 fun t14 =>
  zlI (t14 + (1 : Int)) fun u1 =>
  ztI G t13 l1 u1 <|
  zgR G 12 13 l0 fun t15 =>
  zaI G t15 l1 fun t16 =>
  zrt t16)))))
theorem qX12_join {G : kdS} (hG : kzG G) (l0 : Nat) {l1 : Int} (hl1 : kzI l1) {l2 : Int} (hl2 : kzI l2) {l3 : Int} (hl3 : kzI l3) {l4 : Int} (hl4 : kzI l4) : CRi (Z12_join G l0 l1 l2 l3 l4) (X12_join G l0 (Int32.ofInt l1) (Int32.ofInt l2) (Int32.ofInt l3) (Int32.ofInt l4)) := by
  unfold Z12_join X12_join
  exact c_cl (qX12_isTongue hG hl1) (fun t1 ht1 => c_cnd (kz_eq ht1 (by unfold kzI; omega) rfl rfl) (c_rt (by unfold kzI; omega) rfl) (c_cl (qX12_isLetter hG hl2) (fun t2 ht2 => c_cnd (kz_eq ht2 (by unfold kzI; omega) rfl rfl) ((qX12_join_31 hG)) (c_cl (qX12_isLetter hG hl3) (fun t3 ht3 => c_cnd (kz_eq ht3 (by unfold kzI; omega) rfl rfl) ((qX12_join_31 hG)) (c_cl (qX12_isLetter hG hl4) (fun t4 ht4 => c_cnd (kz_eq ht4 (by unfold kzI; omega) rfl rfl) ((qX12_join_31 hG)) (c_gR (fun t5 => c_aI hG rfl (fun t6 ht6 => c_cnd (kz_eq ht6 (by unfold kzI; omega) rfl rfl) (c_rt (by unfold kzI; omega) rfl) (c_gR (fun t7 => c_aI hG rfl (fun t8 ht8 => c_lI (kz_mul rfl (kz_add (kz_mul rfl rfl) rfl)) (fun t9 ht9 => c_gR (fun t10 => c_tI hG rfl hl2 rfl (c_gR (fun t11 => c_tI hG (kz_add rfl rfl) hl3 rfl (c_gR (fun t12 => c_tI hG (kz_add rfl rfl) hl4 rfl (c_gR (fun t13 => c_aI hG rfl (fun t14 ht14 => c_rg (kz_add rfl rfl) fun u1 r1 e1 => c_tI hG rfl r1 e1 (c_gR (fun t15 => c_aI hG rfl (fun t16 ht16 => c_rt ht16 rfl)))))))))))))))))))))))))
def Z12_own_38 (G : kdS) (l0 : Nat) (l1 : Int) (l2 : Int) (l3 : Int) (s0 : Int) : kzM → Option (Int × kzM) :=
  zgR G 12 14 l0 fun t1 =>
  ztZ G t1 (((61 : Int) * l1) + l2) l3 <|
  zrt s0
theorem qX12_own_38 {G : kdS} (hG : kzG G) (l0 : Nat) {l1 : Int} (hl1 : kzI l1) {l2 : Int} (hl2 : kzI l2) {l3 : Int} (hl3 : kzI l3) {s0 : Int} (hs0 : kzI s0) : CRi (Z12_own_38 G l0 l1 l2 l3 s0) (X12_own_38 G l0 (Int32.ofInt l1) (Int32.ofInt l2) (Int32.ofInt l3) (Int32.ofInt s0)) := by
  unfold Z12_own_38 X12_own_38
  exact c_gR (fun t1 => c_tZ hG (kz_add (kz_mul rfl rfl) rfl) rfl (c_rt hs0 rfl))
def Z12_own (G : kdS) (l0 : Nat) (l1 : Int) (l2 : Int) (l3 : Int) : kzM → Option (Int × kzM) :=
  zcl (Z12_isTongue G l1) fun t1 =>
  zcnd (t1 = (0 : Int))
  (zrt (-1 : Int))
  (zcl (Z12_isLetter G l2) fun t2 =>
  zcnd (t2 = (0 : Int))
  (zrt (-2 : Int))
  (zgR G 12 14 l0 fun t3 =>
  zaZ G t3 (((61 : Int) * l1) + l2) fun t4 =>
  zcnd (t4 = (0 : Int))
  (Z12_own_38 G l0 l1 l2 l3 (0 : Int))
  (Z12_own_38 G l0 l1 l2 l3 (1 : Int))))
theorem qX12_own {G : kdS} (hG : kzG G) (l0 : Nat) {l1 : Int} (hl1 : kzI l1) {l2 : Int} (hl2 : kzI l2) {l3 : Int} (hl3 : kzI l3) : CRi (Z12_own G l0 l1 l2 l3) (X12_own G l0 (Int32.ofInt l1) (Int32.ofInt l2) (Int32.ofInt l3)) := by
  unfold Z12_own X12_own
  exact c_cl (qX12_isTongue hG hl1) (fun t1 ht1 => c_cnd (kz_eq ht1 (by unfold kzI; omega) rfl rfl) (c_rt (by unfold kzI; omega) rfl) (c_cl (qX12_isLetter hG hl2) (fun t2 ht2 => c_cnd (kz_eq ht2 (by unfold kzI; omega) rfl rfl) (c_rt (by unfold kzI; omega) rfl) (c_gR (fun t3 => c_aZ hG (kz_add (kz_mul rfl rfl) rfl) (fun t4 ht4 => c_cnd (kz_eq ht4 (by unfold kzI; omega) rfl rfl) ((qX12_own_38 hG l0 hl1 hl2 hl3 (by unfold kzI; omega))) ((qX12_own_38 hG l0 hl1 hl2 hl3 (by unfold kzI; omega)))))))))
def Z12_haveSameKeys_76 (G : kdS) (l3 : Int) : kzM → Option (Int × kzM) :=
  zrt (zB l3)
theorem qX12_haveSameKeys_76 {G : kdS} (hG : kzG G) {l3 : Int} (hl3 : kzI l3) : CRi (Z12_haveSameKeys_76 G l3) (X12_haveSameKeys_76 G (Int32.ofInt l3)) := by
  unfold Z12_haveSameKeys_76 X12_haveSameKeys_76
  exact c_rt (kz_BI _) (kz_B rfl)
def Z12_haveSameKeys_69 (G : kdS) (k24 : Nat → Int → Int → Int → Int → kzM → Option (Int × kzM)) (l0 : Nat) (l1 : Int) (l2 : Int) (l4 : Int) (s0 : Int) : kzM → Option (Int × kzM) :=
  zlI (l4 + (1 : Int)) fun t1 =>
  k24 l0 l1 l2 s0 t1
theorem qX12_haveSameKeys_69 {G : kdS} (hG : kzG G) {k24' : Nat → Int → Int → Int → Int → kzM → Option (Int × kzM)} {k24 : Nat → Int32 → Int32 → Int32 → Int32 → kdM → Option (Int32 × kdM)} (hk24 : ∀ (a0 : Nat) (a1 : Int) (_ : kzI a1) (a2 : Int) (_ : kzI a2) (a3 : Int) (_ : kzI a3) (a4 : Int) (_ : kzI a4), CRi (k24' a0 a1 a2 a3 a4) (k24 a0 (Int32.ofInt a1) (Int32.ofInt a2) (Int32.ofInt a3) (Int32.ofInt a4))) (l0 : Nat) {l1 : Int} (hl1 : kzI l1) {l2 : Int} (hl2 : kzI l2) {l4 : Int} (hl4 : kzI l4) {s0 : Int} (hs0 : kzI s0) : CRi (Z12_haveSameKeys_69 G k24' l0 l1 l2 l4 s0) (X12_haveSameKeys_69 G k24 l0 (Int32.ofInt l1) (Int32.ofInt l2) (Int32.ofInt l4) (Int32.ofInt s0)) := by
  unfold Z12_haveSameKeys_69 X12_haveSameKeys_69
  exact c_lI (kz_add rfl rfl) (fun t1 ht1 => (hk24 l0 _ hl1 _ hl2 _ hs0 _ ht1))
def Z12_haveSameKeys_24B (G : kdS) (k24 : Nat → Int → Int → Int → Int → kzM → Option (Int × kzM)) (l0 : Nat) (l1 : Int) (l2 : Int) (l3 : Int) (l4 : Int) : kzM → Option (Int × kzM) :=
  zgR G 12 8 l0 fun t1 =>
  zaI G t1 l1 fun t2 =>
  zcnd (t2 ≤ l4)
  (Z12_haveSameKeys_76 G l3)
  (zcnd (l3 = (0 : Int))
  (Z12_haveSameKeys_76 G l3)
  (zgR G 12 7 l0 fun t3 =>
  zaI G t3 (((4 : Int) * l1) + l4) fun t4 =>
  zgR G 12 7 l0 fun t5 =>
  zaI G t5 (((4 : Int) * l2) + l4) fun t6 =>
  zcnd (t4 = t6)
  (Z12_haveSameKeys_69 G k24 l0 l1 l2 l4 (1 : Int))
  (Z12_haveSameKeys_69 G k24 l0 l1 l2 l4 (0 : Int))))
theorem qX12_haveSameKeys_24B {G : kdS} (hG : kzG G) {k24' : Nat → Int → Int → Int → Int → kzM → Option (Int × kzM)} {k24 : Nat → Int32 → Int32 → Int32 → Int32 → kdM → Option (Int32 × kdM)} (hk24 : ∀ (a0 : Nat) (a1 : Int) (_ : kzI a1) (a2 : Int) (_ : kzI a2) (a3 : Int) (_ : kzI a3) (a4 : Int) (_ : kzI a4), CRi (k24' a0 a1 a2 a3 a4) (k24 a0 (Int32.ofInt a1) (Int32.ofInt a2) (Int32.ofInt a3) (Int32.ofInt a4))) (l0 : Nat) {l1 : Int} (hl1 : kzI l1) {l2 : Int} (hl2 : kzI l2) {l3 : Int} (hl3 : kzI l3) {l4 : Int} (hl4 : kzI l4) : CRi (Z12_haveSameKeys_24B G k24' l0 l1 l2 l3 l4) (X12_haveSameKeys_24B G k24 l0 (Int32.ofInt l1) (Int32.ofInt l2) (Int32.ofInt l3) (Int32.ofInt l4)) := by
  unfold Z12_haveSameKeys_24B X12_haveSameKeys_24B
  exact c_gR (fun t1 => c_aI hG rfl (fun t2 ht2 => c_cnd (kz_le ht2 hl4 rfl rfl) ((qX12_haveSameKeys_76 hG hl3)) (c_cnd (kz_eq hl3 (by unfold kzI; omega) rfl rfl) ((qX12_haveSameKeys_76 hG hl3)) (c_gR (fun t3 => c_aI hG (kz_add (kz_mul rfl rfl) rfl) (fun t4 ht4 => c_gR (fun t5 => c_aI hG (kz_add (kz_mul rfl rfl) rfl) (fun t6 ht6 => c_cnd (kz_eq ht4 ht6 rfl rfl) ((qX12_haveSameKeys_69 hG hk24 l0 hl1 hl2 hl4 (by unfold kzI; omega))) ((qX12_haveSameKeys_69 hG hk24 l0 hl1 hl2 hl4 (by unfold kzI; omega)))))))))))
def Z12_haveSameKeys_24 (G : kdS) : Nat → Int → Int → Int → Int → kzM → Option (Int × kzM) := lp (fun _ _ _ _ _ _ => none) (Z12_haveSameKeys_24B G) NN
theorem qX12_haveSameKeys_24 {G : kdS} (hG : kzG G) : ∀ (a0 : Nat) (a1 : Int) (_ : kzI a1) (a2 : Int) (_ : kzI a2) (a3 : Int) (_ : kzI a3) (a4 : Int) (_ : kzI a4), CRi (Z12_haveSameKeys_24 G a0 a1 a2 a3 a4) (X12_haveSameKeys_24 G a0 (Int32.ofInt a1) (Int32.ofInt a2) (Int32.ofInt a3) (Int32.ofInt a4)) :=
  lp_rel (R := fun (f' : Nat → Int → Int → Int → Int → kzM → Option (Int × kzM)) (f : Nat → Int32 → Int32 → Int32 → Int32 → kdM → Option (Int32 × kdM)) => ∀ (a0 : Nat) (a1 : Int) (_ : kzI a1) (a2 : Int) (_ : kzI a2) (a3 : Int) (_ : kzI a3) (a4 : Int) (_ : kzI a4), CRi (f' a0 a1 a2 a3 a4) (f a0 (Int32.ofInt a1) (Int32.ofInt a2) (Int32.ofInt a3) (Int32.ofInt a4))) (by intros; exact c_no) (fun _ _ hf a0 a1 ha1 a2 ha2 a3 ha3 a4 ha4 => qX12_haveSameKeys_24B hG hf a0 ha1 ha2 ha3 ha4) NN
def Z12_haveSameKeys_20 (G : kdS) (l0 : Nat) (l1 : Int) (l2 : Int) (s0 : Int) : kzM → Option (Int × kzM) :=
  Z12_haveSameKeys_24 G l0 l1 l2 s0 (0 : Int)
theorem qX12_haveSameKeys_20 {G : kdS} (hG : kzG G) (l0 : Nat) {l1 : Int} (hl1 : kzI l1) {l2 : Int} (hl2 : kzI l2) {s0 : Int} (hs0 : kzI s0) : CRi (Z12_haveSameKeys_20 G l0 l1 l2 s0) (X12_haveSameKeys_20 G l0 (Int32.ofInt l1) (Int32.ofInt l2) (Int32.ofInt s0)) := by
  unfold Z12_haveSameKeys_20 X12_haveSameKeys_20
  exact (qX12_haveSameKeys_24 hG l0 _ hl1 _ hl2 _ hs0 _ (by unfold kzI; omega))
def Z12_haveSameKeys (G : kdS) (l0 : Nat) (l1 : Int) (l2 : Int) : kzM → Option (Int × kzM) :=
  zgR G 12 8 l0 fun t1 =>
  zaI G t1 l1 fun t2 =>
  zgR G 12 8 l0 fun t3 =>
  zaI G t3 l2 fun t4 =>
  zcnd (t2 = t4)
  (Z12_haveSameKeys_20 G l0 l1 l2 (1 : Int))
  (Z12_haveSameKeys_20 G l0 l1 l2 (0 : Int))
theorem qX12_haveSameKeys {G : kdS} (hG : kzG G) (l0 : Nat) {l1 : Int} (hl1 : kzI l1) {l2 : Int} (hl2 : kzI l2) : CRi (Z12_haveSameKeys G l0 l1 l2) (X12_haveSameKeys G l0 (Int32.ofInt l1) (Int32.ofInt l2)) := by
  unfold Z12_haveSameKeys X12_haveSameKeys
  exact c_gR (fun t1 => c_aI hG rfl (fun t2 ht2 => c_gR (fun t3 => c_aI hG rfl (fun t4 ht4 => c_cnd (kz_eq ht2 ht4 rfl rfl) ((qX12_haveSameKeys_20 hG l0 hl1 hl2 (by unfold kzI; omega))) ((qX12_haveSameKeys_20 hG l0 hl1 hl2 (by unfold kzI; omega)))))))
def Z12_haveSameLetters_76 (G : kdS) (l3 : Int) : kzM → Option (Int × kzM) :=
  zrt (zB l3)
theorem qX12_haveSameLetters_76 {G : kdS} (hG : kzG G) {l3 : Int} (hl3 : kzI l3) : CRi (Z12_haveSameLetters_76 G l3) (X12_haveSameLetters_76 G (Int32.ofInt l3)) := by
  unfold Z12_haveSameLetters_76 X12_haveSameLetters_76
  exact c_rt (kz_BI _) (kz_B rfl)
def Z12_haveSameLetters_69 (G : kdS) (k24 : Nat → Int → Int → Int → Int → kzM → Option (Int × kzM)) (l0 : Nat) (l1 : Int) (l2 : Int) (l4 : Int) (s0 : Int) : kzM → Option (Int × kzM) :=
  zlI (l4 + (1 : Int)) fun t1 =>
  k24 l0 l1 l2 s0 t1
theorem qX12_haveSameLetters_69 {G : kdS} (hG : kzG G) {k24' : Nat → Int → Int → Int → Int → kzM → Option (Int × kzM)} {k24 : Nat → Int32 → Int32 → Int32 → Int32 → kdM → Option (Int32 × kdM)} (hk24 : ∀ (a0 : Nat) (a1 : Int) (_ : kzI a1) (a2 : Int) (_ : kzI a2) (a3 : Int) (_ : kzI a3) (a4 : Int) (_ : kzI a4), CRi (k24' a0 a1 a2 a3 a4) (k24 a0 (Int32.ofInt a1) (Int32.ofInt a2) (Int32.ofInt a3) (Int32.ofInt a4))) (l0 : Nat) {l1 : Int} (hl1 : kzI l1) {l2 : Int} (hl2 : kzI l2) {l4 : Int} (hl4 : kzI l4) {s0 : Int} (hs0 : kzI s0) : CRi (Z12_haveSameLetters_69 G k24' l0 l1 l2 l4 s0) (X12_haveSameLetters_69 G k24 l0 (Int32.ofInt l1) (Int32.ofInt l2) (Int32.ofInt l4) (Int32.ofInt s0)) := by
  unfold Z12_haveSameLetters_69 X12_haveSameLetters_69
  exact c_lI (kz_add rfl rfl) (fun t1 ht1 => (hk24 l0 _ hl1 _ hl2 _ hs0 _ ht1))
def Z12_haveSameLetters_24B (G : kdS) (k24 : Nat → Int → Int → Int → Int → kzM → Option (Int × kzM)) (l0 : Nat) (l1 : Int) (l2 : Int) (l3 : Int) (l4 : Int) : kzM → Option (Int × kzM) :=
  zgR G 12 10 l0 fun t1 =>
  zaI G t1 l1 fun t2 =>
  zcnd (t2 ≤ l4)
  (Z12_haveSameLetters_76 G l3)
  (zcnd (l3 = (0 : Int))
  (Z12_haveSameLetters_76 G l3)
  (zgR G 12 9 l0 fun t3 =>
  zaI G t3 (((3 : Int) * l1) + l4) fun t4 =>
  zgR G 12 9 l0 fun t5 =>
  zaI G t5 (((3 : Int) * l2) + l4) fun t6 =>
  zcnd (t4 = t6)
  (Z12_haveSameLetters_69 G k24 l0 l1 l2 l4 (1 : Int))
  (Z12_haveSameLetters_69 G k24 l0 l1 l2 l4 (0 : Int))))
theorem qX12_haveSameLetters_24B {G : kdS} (hG : kzG G) {k24' : Nat → Int → Int → Int → Int → kzM → Option (Int × kzM)} {k24 : Nat → Int32 → Int32 → Int32 → Int32 → kdM → Option (Int32 × kdM)} (hk24 : ∀ (a0 : Nat) (a1 : Int) (_ : kzI a1) (a2 : Int) (_ : kzI a2) (a3 : Int) (_ : kzI a3) (a4 : Int) (_ : kzI a4), CRi (k24' a0 a1 a2 a3 a4) (k24 a0 (Int32.ofInt a1) (Int32.ofInt a2) (Int32.ofInt a3) (Int32.ofInt a4))) (l0 : Nat) {l1 : Int} (hl1 : kzI l1) {l2 : Int} (hl2 : kzI l2) {l3 : Int} (hl3 : kzI l3) {l4 : Int} (hl4 : kzI l4) : CRi (Z12_haveSameLetters_24B G k24' l0 l1 l2 l3 l4) (X12_haveSameLetters_24B G k24 l0 (Int32.ofInt l1) (Int32.ofInt l2) (Int32.ofInt l3) (Int32.ofInt l4)) := by
  unfold Z12_haveSameLetters_24B X12_haveSameLetters_24B
  exact c_gR (fun t1 => c_aI hG rfl (fun t2 ht2 => c_cnd (kz_le ht2 hl4 rfl rfl) ((qX12_haveSameLetters_76 hG hl3)) (c_cnd (kz_eq hl3 (by unfold kzI; omega) rfl rfl) ((qX12_haveSameLetters_76 hG hl3)) (c_gR (fun t3 => c_aI hG (kz_add (kz_mul rfl rfl) rfl) (fun t4 ht4 => c_gR (fun t5 => c_aI hG (kz_add (kz_mul rfl rfl) rfl) (fun t6 ht6 => c_cnd (kz_eq ht4 ht6 rfl rfl) ((qX12_haveSameLetters_69 hG hk24 l0 hl1 hl2 hl4 (by unfold kzI; omega))) ((qX12_haveSameLetters_69 hG hk24 l0 hl1 hl2 hl4 (by unfold kzI; omega)))))))))))
def Z12_haveSameLetters_24 (G : kdS) : Nat → Int → Int → Int → Int → kzM → Option (Int × kzM) := lp (fun _ _ _ _ _ _ => none) (Z12_haveSameLetters_24B G) NN
theorem qX12_haveSameLetters_24 {G : kdS} (hG : kzG G) : ∀ (a0 : Nat) (a1 : Int) (_ : kzI a1) (a2 : Int) (_ : kzI a2) (a3 : Int) (_ : kzI a3) (a4 : Int) (_ : kzI a4), CRi (Z12_haveSameLetters_24 G a0 a1 a2 a3 a4) (X12_haveSameLetters_24 G a0 (Int32.ofInt a1) (Int32.ofInt a2) (Int32.ofInt a3) (Int32.ofInt a4)) :=
  lp_rel (R := fun (f' : Nat → Int → Int → Int → Int → kzM → Option (Int × kzM)) (f : Nat → Int32 → Int32 → Int32 → Int32 → kdM → Option (Int32 × kdM)) => ∀ (a0 : Nat) (a1 : Int) (_ : kzI a1) (a2 : Int) (_ : kzI a2) (a3 : Int) (_ : kzI a3) (a4 : Int) (_ : kzI a4), CRi (f' a0 a1 a2 a3 a4) (f a0 (Int32.ofInt a1) (Int32.ofInt a2) (Int32.ofInt a3) (Int32.ofInt a4))) (by intros; exact c_no) (fun _ _ hf a0 a1 ha1 a2 ha2 a3 ha3 a4 ha4 => qX12_haveSameLetters_24B hG hf a0 ha1 ha2 ha3 ha4) NN
def Z12_haveSameLetters_20 (G : kdS) (l0 : Nat) (l1 : Int) (l2 : Int) (s0 : Int) : kzM → Option (Int × kzM) :=
  Z12_haveSameLetters_24 G l0 l1 l2 s0 (0 : Int)
theorem qX12_haveSameLetters_20 {G : kdS} (hG : kzG G) (l0 : Nat) {l1 : Int} (hl1 : kzI l1) {l2 : Int} (hl2 : kzI l2) {s0 : Int} (hs0 : kzI s0) : CRi (Z12_haveSameLetters_20 G l0 l1 l2 s0) (X12_haveSameLetters_20 G l0 (Int32.ofInt l1) (Int32.ofInt l2) (Int32.ofInt s0)) := by
  unfold Z12_haveSameLetters_20 X12_haveSameLetters_20
  exact (qX12_haveSameLetters_24 hG l0 _ hl1 _ hl2 _ hs0 _ (by unfold kzI; omega))
def Z12_haveSameLetters (G : kdS) (l0 : Nat) (l1 : Int) (l2 : Int) : kzM → Option (Int × kzM) :=
  zgR G 12 10 l0 fun t1 =>
  zaI G t1 l1 fun t2 =>
  zgR G 12 10 l0 fun t3 =>
  zaI G t3 l2 fun t4 =>
  zcnd (t2 = t4)
  (Z12_haveSameLetters_20 G l0 l1 l2 (1 : Int))
  (Z12_haveSameLetters_20 G l0 l1 l2 (0 : Int))
theorem qX12_haveSameLetters {G : kdS} (hG : kzG G) (l0 : Nat) {l1 : Int} (hl1 : kzI l1) {l2 : Int} (hl2 : kzI l2) : CRi (Z12_haveSameLetters G l0 l1 l2) (X12_haveSameLetters G l0 (Int32.ofInt l1) (Int32.ofInt l2)) := by
  unfold Z12_haveSameLetters X12_haveSameLetters
  exact c_gR (fun t1 => c_aI hG rfl (fun t2 ht2 => c_gR (fun t3 => c_aI hG rfl (fun t4 ht4 => c_cnd (kz_eq ht2 ht4 rfl rfl) ((qX12_haveSameLetters_20 hG l0 hl1 hl2 (by unfold kzI; omega))) ((qX12_haveSameLetters_20 hG l0 hl1 hl2 (by unfold kzI; omega)))))))
def Z12_quarrel_99 (G : kdS) (k20 : Nat → Int → Int → Int → Int → Int → kzM → Option (Int × kzM)) (k37 : Nat → Int → Int → Int → Int → Int → Int → kzM → Option (Int × kzM)) (l0 : Nat) (l1 : Int) (l2 : Int) (l3 : Int) (l4 : Int) (l5 : Int) (l6 : Int) : kzM → Option (Int × kzM) :=
  zlI (l6 + (1 : Int)) fun t1 =>
  k37 l0 l1 l2 l3 l4 l5 t1
theorem qX12_quarrel_99 {G : kdS} (hG : kzG G) {k20' : Nat → Int → Int → Int → Int → Int → kzM → Option (Int × kzM)} {k20 : Nat → Int32 → Int32 → Int32 → Int32 → Int32 → kdM → Option (Int32 × kdM)} (hk20 : ∀ (a0 : Nat) (a1 : Int) (_ : kzI a1) (a2 : Int) (_ : kzI a2) (a3 : Int) (_ : kzI a3) (a4 : Int) (_ : kzI a4) (a5 : Int) (_ : kzI a5), CRi (k20' a0 a1 a2 a3 a4 a5) (k20 a0 (Int32.ofInt a1) (Int32.ofInt a2) (Int32.ofInt a3) (Int32.ofInt a4) (Int32.ofInt a5))) {k37' : Nat → Int → Int → Int → Int → Int → Int → kzM → Option (Int × kzM)} {k37 : Nat → Int32 → Int32 → Int32 → Int32 → Int32 → Int32 → kdM → Option (Int32 × kdM)} (hk37 : ∀ (a0 : Nat) (a1 : Int) (_ : kzI a1) (a2 : Int) (_ : kzI a2) (a3 : Int) (_ : kzI a3) (a4 : Int) (_ : kzI a4) (a5 : Int) (_ : kzI a5) (a6 : Int) (_ : kzI a6), CRi (k37' a0 a1 a2 a3 a4 a5 a6) (k37 a0 (Int32.ofInt a1) (Int32.ofInt a2) (Int32.ofInt a3) (Int32.ofInt a4) (Int32.ofInt a5) (Int32.ofInt a6))) (l0 : Nat) {l1 : Int} (hl1 : kzI l1) {l2 : Int} (hl2 : kzI l2) {l3 : Int} (hl3 : kzI l3) {l4 : Int} (hl4 : kzI l4) {l5 : Int} (hl5 : kzI l5) {l6 : Int} (hl6 : kzI l6) : CRi (Z12_quarrel_99 G k20' k37' l0 l1 l2 l3 l4 l5 l6) (X12_quarrel_99 G k20 k37 l0 (Int32.ofInt l1) (Int32.ofInt l2) (Int32.ofInt l3) (Int32.ofInt l4) (Int32.ofInt l5) (Int32.ofInt l6)) := by
  unfold Z12_quarrel_99 X12_quarrel_99
  exact c_lI (kz_add rfl rfl) (fun t1 ht1 => (hk37 l0 _ hl1 _ hl2 _ hl3 _ hl4 _ hl5 _ ht1))
def Z12_quarrel_37B (G : kdS) (k20 : Nat → Int → Int → Int → Int → Int → kzM → Option (Int × kzM)) (k37 : Nat → Int → Int → Int → Int → Int → Int → kzM → Option (Int × kzM)) (l0 : Nat) (l1 : Int) (l2 : Int) (l3 : Int) (l4 : Int) (l5 : Int) (l6 : Int) : kzM → Option (Int × kzM) :=
  zgR G 12 11 l0 fun t1 =>
  zaI G t1 l1 fun t2 =>
  zcnd (t2 ≤ l6)
  (zlI (l5 + (1 : Int)) fun t3 =>
  k20 l0 l1 l2 l3 l4 t3)
  (zlI (l4 + l5) fun u1 =>
  zlI (l4 + l6) fun u2 =>
  zcv G 12 l0 (Z12_haveSameKeys G l0 u1 u2) fun t4 =>
  zcnd (t4 = (0 : Int))
  (Z12_quarrel_99 G k20 k37 l0 l1 l2 l3 l4 l5 l6)
  (zlI (l4 + l5) fun u3 =>
  zlI (l4 + l6) fun u4 =>
  zcv G 12 l0 (Z12_haveSameLetters G l0 u3 u4) fun t5 =>
  zcnd (t5 = (0 : Int))
  (zcnd (l3 = l2)
  (zlI (((100 : Int) * l5) + l6) fun u5 =>
  zrt u5)
  (zlI (l3 + (1 : Int)) fun t6 =>
  Z12_quarrel_99 G k20 k37 l0 l1 l2 t6 l4 l5 l6))
  (Z12_quarrel_99 G k20 k37 l0 l1 l2 l3 l4 l5 l6)))
theorem qX12_quarrel_37B {G : kdS} (hG : kzG G) {k20' : Nat → Int → Int → Int → Int → Int → kzM → Option (Int × kzM)} {k20 : Nat → Int32 → Int32 → Int32 → Int32 → Int32 → kdM → Option (Int32 × kdM)} (hk20 : ∀ (a0 : Nat) (a1 : Int) (_ : kzI a1) (a2 : Int) (_ : kzI a2) (a3 : Int) (_ : kzI a3) (a4 : Int) (_ : kzI a4) (a5 : Int) (_ : kzI a5), CRi (k20' a0 a1 a2 a3 a4 a5) (k20 a0 (Int32.ofInt a1) (Int32.ofInt a2) (Int32.ofInt a3) (Int32.ofInt a4) (Int32.ofInt a5))) {k37' : Nat → Int → Int → Int → Int → Int → Int → kzM → Option (Int × kzM)} {k37 : Nat → Int32 → Int32 → Int32 → Int32 → Int32 → Int32 → kdM → Option (Int32 × kdM)} (hk37 : ∀ (a0 : Nat) (a1 : Int) (_ : kzI a1) (a2 : Int) (_ : kzI a2) (a3 : Int) (_ : kzI a3) (a4 : Int) (_ : kzI a4) (a5 : Int) (_ : kzI a5) (a6 : Int) (_ : kzI a6), CRi (k37' a0 a1 a2 a3 a4 a5 a6) (k37 a0 (Int32.ofInt a1) (Int32.ofInt a2) (Int32.ofInt a3) (Int32.ofInt a4) (Int32.ofInt a5) (Int32.ofInt a6))) (l0 : Nat) {l1 : Int} (hl1 : kzI l1) {l2 : Int} (hl2 : kzI l2) {l3 : Int} (hl3 : kzI l3) {l4 : Int} (hl4 : kzI l4) {l5 : Int} (hl5 : kzI l5) {l6 : Int} (hl6 : kzI l6) : CRi (Z12_quarrel_37B G k20' k37' l0 l1 l2 l3 l4 l5 l6) (X12_quarrel_37B G k20 k37 l0 (Int32.ofInt l1) (Int32.ofInt l2) (Int32.ofInt l3) (Int32.ofInt l4) (Int32.ofInt l5) (Int32.ofInt l6)) := by
  unfold Z12_quarrel_37B X12_quarrel_37B
  exact c_gR (fun t1 => c_aI hG rfl (fun t2 ht2 => c_cnd (kz_le ht2 hl6 rfl rfl) (c_lI (kz_add rfl rfl) (fun t3 ht3 => (hk20 l0 _ hl1 _ hl2 _ hl3 _ hl4 _ ht3))) (c_rg (kz_add rfl rfl) fun u1 r1 e1 => c_rg (kz_add rfl rfl) fun u2 r2 e2 => c_cv (e2 ▸ (e1 ▸ (qX12_haveSameKeys hG l0 r1 r2))) (fun t4 ht4 => c_cnd (kz_eq ht4 (by unfold kzI; omega) rfl rfl) ((qX12_quarrel_99 hG hk20 hk37 l0 hl1 hl2 hl3 hl4 hl5 hl6)) (c_rg (kz_add rfl rfl) fun u3 r3 e3 => c_rg (kz_add rfl rfl) fun u4 r4 e4 => c_cv (e4 ▸ (e3 ▸ (qX12_haveSameLetters hG l0 r3 r4))) (fun t5 ht5 => c_cnd (kz_eq ht5 (by unfold kzI; omega) rfl rfl) (c_cnd (kz_eq hl3 hl2 rfl rfl) (c_rg (kz_add (kz_mul rfl rfl) rfl) fun u5 r5 e5 => c_rt r5 e5) (c_lI (kz_add rfl rfl) (fun t6 ht6 => (qX12_quarrel_99 hG hk20 hk37 l0 hl1 hl2 ht6 hl4 hl5 hl6)))) ((qX12_quarrel_99 hG hk20 hk37 l0 hl1 hl2 hl3 hl4 hl5 hl6))))))))
def Z12_quarrel_37 (G : kdS) (k20 : Nat → Int → Int → Int → Int → Int → kzM → Option (Int × kzM)) : Nat → Int → Int → Int → Int → Int → Int → kzM → Option (Int × kzM) := lp (fun _ _ _ _ _ _ _ _ => none) (Z12_quarrel_37B G k20) NN
theorem qX12_quarrel_37 {G : kdS} (hG : kzG G) {k20' : Nat → Int → Int → Int → Int → Int → kzM → Option (Int × kzM)} {k20 : Nat → Int32 → Int32 → Int32 → Int32 → Int32 → kdM → Option (Int32 × kdM)} (hk20 : ∀ (a0 : Nat) (a1 : Int) (_ : kzI a1) (a2 : Int) (_ : kzI a2) (a3 : Int) (_ : kzI a3) (a4 : Int) (_ : kzI a4) (a5 : Int) (_ : kzI a5), CRi (k20' a0 a1 a2 a3 a4 a5) (k20 a0 (Int32.ofInt a1) (Int32.ofInt a2) (Int32.ofInt a3) (Int32.ofInt a4) (Int32.ofInt a5))) : ∀ (a0 : Nat) (a1 : Int) (_ : kzI a1) (a2 : Int) (_ : kzI a2) (a3 : Int) (_ : kzI a3) (a4 : Int) (_ : kzI a4) (a5 : Int) (_ : kzI a5) (a6 : Int) (_ : kzI a6), CRi (Z12_quarrel_37 G k20' a0 a1 a2 a3 a4 a5 a6) (X12_quarrel_37 G k20 a0 (Int32.ofInt a1) (Int32.ofInt a2) (Int32.ofInt a3) (Int32.ofInt a4) (Int32.ofInt a5) (Int32.ofInt a6)) :=
  lp_rel (R := fun (f' : Nat → Int → Int → Int → Int → Int → Int → kzM → Option (Int × kzM)) (f : Nat → Int32 → Int32 → Int32 → Int32 → Int32 → Int32 → kdM → Option (Int32 × kdM)) => ∀ (a0 : Nat) (a1 : Int) (_ : kzI a1) (a2 : Int) (_ : kzI a2) (a3 : Int) (_ : kzI a3) (a4 : Int) (_ : kzI a4) (a5 : Int) (_ : kzI a5) (a6 : Int) (_ : kzI a6), CRi (f' a0 a1 a2 a3 a4 a5 a6) (f a0 (Int32.ofInt a1) (Int32.ofInt a2) (Int32.ofInt a3) (Int32.ofInt a4) (Int32.ofInt a5) (Int32.ofInt a6))) (by intros; exact c_no) (fun _ _ hf a0 a1 ha1 a2 ha2 a3 ha3 a4 ha4 a5 ha5 a6 ha6 => qX12_quarrel_37B hG hk20 hf a0 ha1 ha2 ha3 ha4 ha5 ha6) NN
def Z12_quarrel_122 (G : kdS) (s0 : Int) : kzM → Option (Int × kzM) :=
  zrt s0
theorem qX12_quarrel_122 {G : kdS} (hG : kzG G) {s0 : Int} (hs0 : kzI s0) : CRi (Z12_quarrel_122 G s0) (X12_quarrel_122 G (Int32.ofInt s0)) := by
  unfold Z12_quarrel_122 X12_quarrel_122
  exact c_rt hs0 rfl
def Z12_quarrel_20B (G : kdS) (k20 : Nat → Int → Int → Int → Int → Int → kzM → Option (Int × kzM)) (l0 : Nat) (l1 : Int) (l2 : Int) (l3 : Int) (l4 : Int) (l5 : Int) : kzM → Option (Int × kzM) :=
  zgR G 12 11 l0 fun t1 =>
  zaI G t1 l1 fun t2 =>
  zcnd (t2 ≤ l5)
  (zcnd (l2 = (-1 : Int))
  (Z12_quarrel_122 G l3)
  (Z12_quarrel_122 G (-6 : Int)))
  (zlI (l5 + (1 : Int)) fun t3 =>
  Z12_quarrel_37 G k20 l0 l1 l2 l3 l4 l5 t3)
theorem qX12_quarrel_20B {G : kdS} (hG : kzG G) {k20' : Nat → Int → Int → Int → Int → Int → kzM → Option (Int × kzM)} {k20 : Nat → Int32 → Int32 → Int32 → Int32 → Int32 → kdM → Option (Int32 × kdM)} (hk20 : ∀ (a0 : Nat) (a1 : Int) (_ : kzI a1) (a2 : Int) (_ : kzI a2) (a3 : Int) (_ : kzI a3) (a4 : Int) (_ : kzI a4) (a5 : Int) (_ : kzI a5), CRi (k20' a0 a1 a2 a3 a4 a5) (k20 a0 (Int32.ofInt a1) (Int32.ofInt a2) (Int32.ofInt a3) (Int32.ofInt a4) (Int32.ofInt a5))) (l0 : Nat) {l1 : Int} (hl1 : kzI l1) {l2 : Int} (hl2 : kzI l2) {l3 : Int} (hl3 : kzI l3) {l4 : Int} (hl4 : kzI l4) {l5 : Int} (hl5 : kzI l5) : CRi (Z12_quarrel_20B G k20' l0 l1 l2 l3 l4 l5) (X12_quarrel_20B G k20 l0 (Int32.ofInt l1) (Int32.ofInt l2) (Int32.ofInt l3) (Int32.ofInt l4) (Int32.ofInt l5)) := by
  unfold Z12_quarrel_20B X12_quarrel_20B
  exact c_gR (fun t1 => c_aI hG rfl (fun t2 ht2 => c_cnd (kz_le ht2 hl5 rfl rfl) (c_cnd (kz_eq hl2 (by unfold kzI; omega) rfl rfl) ((qX12_quarrel_122 hG hl3)) ((qX12_quarrel_122 hG (by unfold kzI; omega)))) (c_lI (kz_add rfl rfl) (fun t3 ht3 => (qX12_quarrel_37 hG hk20 l0 _ hl1 _ hl2 _ hl3 _ hl4 _ hl5 _ ht3)))))
def Z12_quarrel_20 (G : kdS) : Nat → Int → Int → Int → Int → Int → kzM → Option (Int × kzM) := lp (fun _ _ _ _ _ _ _ => none) (Z12_quarrel_20B G) NN
theorem qX12_quarrel_20 {G : kdS} (hG : kzG G) : ∀ (a0 : Nat) (a1 : Int) (_ : kzI a1) (a2 : Int) (_ : kzI a2) (a3 : Int) (_ : kzI a3) (a4 : Int) (_ : kzI a4) (a5 : Int) (_ : kzI a5), CRi (Z12_quarrel_20 G a0 a1 a2 a3 a4 a5) (X12_quarrel_20 G a0 (Int32.ofInt a1) (Int32.ofInt a2) (Int32.ofInt a3) (Int32.ofInt a4) (Int32.ofInt a5)) :=
  lp_rel (R := fun (f' : Nat → Int → Int → Int → Int → Int → kzM → Option (Int × kzM)) (f : Nat → Int32 → Int32 → Int32 → Int32 → Int32 → kdM → Option (Int32 × kdM)) => ∀ (a0 : Nat) (a1 : Int) (_ : kzI a1) (a2 : Int) (_ : kzI a2) (a3 : Int) (_ : kzI a3) (a4 : Int) (_ : kzI a4) (a5 : Int) (_ : kzI a5), CRi (f' a0 a1 a2 a3 a4 a5) (f a0 (Int32.ofInt a1) (Int32.ofInt a2) (Int32.ofInt a3) (Int32.ofInt a4) (Int32.ofInt a5))) (by intros; exact c_no) (fun _ _ hf a0 a1 ha1 a2 ha2 a3 ha3 a4 ha4 a5 ha5 => qX12_quarrel_20B hG hf a0 ha1 ha2 ha3 ha4 ha5) NN
def Z12_quarrel (G : kdS) (l0 : Nat) (l1 : Int) (l2 : Int) : kzM → Option (Int × kzM) :=
  zcl (Z12_isTongue G l1) fun t1 =>
  zcnd (t1 = (0 : Int))
  (zrt (-1 : Int))
  (zlI ((24 : Int) * l1) fun t2 =>
  Z12_quarrel_20 G l0 l1 l2 (0 : Int) t2 (0 : Int))
theorem qX12_quarrel {G : kdS} (hG : kzG G) (l0 : Nat) {l1 : Int} (hl1 : kzI l1) {l2 : Int} (hl2 : kzI l2) : CRi (Z12_quarrel G l0 l1 l2) (X12_quarrel G l0 (Int32.ofInt l1) (Int32.ofInt l2)) := by
  unfold Z12_quarrel X12_quarrel
  exact c_cl (qX12_isTongue hG hl1) (fun t1 ht1 => c_cnd (kz_eq ht1 (by unfold kzI; omega) rfl rfl) (c_rt (by unfold kzI; omega) rfl) (c_lI (kz_mul rfl rfl) (fun t2 ht2 => (qX12_quarrel_20 hG l0 _ hl1 _ hl2 _ (by unfold kzI; omega) _ ht2 _ (by unfold kzI; omega)))))
def Z12_isIdle_40 (G : kdS) (k5 : Nat → Int → Int → Int → Int → kzM → Option (Int × kzM)) (l0 : Nat) (l1 : Int) (l2 : Int) (l4 : Int) (s0 : Int) : kzM → Option (Int × kzM) :=
  zlI (l4 + (1 : Int)) fun t1 =>
  k5 l0 l1 l2 s0 t1
theorem qX12_isIdle_40 {G : kdS} (hG : kzG G) {k5' : Nat → Int → Int → Int → Int → kzM → Option (Int × kzM)} {k5 : Nat → Int32 → Int32 → Int32 → Int32 → kdM → Option (Int32 × kdM)} (hk5 : ∀ (a0 : Nat) (a1 : Int) (_ : kzI a1) (a2 : Int) (_ : kzI a2) (a3 : Int) (_ : kzI a3) (a4 : Int) (_ : kzI a4), CRi (k5' a0 a1 a2 a3 a4) (k5 a0 (Int32.ofInt a1) (Int32.ofInt a2) (Int32.ofInt a3) (Int32.ofInt a4))) (l0 : Nat) {l1 : Int} (hl1 : kzI l1) {l2 : Int} (hl2 : kzI l2) {l4 : Int} (hl4 : kzI l4) {s0 : Int} (hs0 : kzI s0) : CRi (Z12_isIdle_40 G k5' l0 l1 l2 l4 s0) (X12_isIdle_40 G k5 l0 (Int32.ofInt l1) (Int32.ofInt l2) (Int32.ofInt l4) (Int32.ofInt s0)) := by
  unfold Z12_isIdle_40 X12_isIdle_40
  exact c_lI (kz_add rfl rfl) (fun t1 ht1 => (hk5 l0 _ hl1 _ hl2 _ hs0 _ ht1))
def Z12_isIdle_35 (G : kdS) (k5 : Nat → Int → Int → Int → Int → kzM → Option (Int × kzM)) (l0 : Nat) (l1 : Int) (l2 : Int) (l4 : Int) : kzM → Option (Int × kzM) :=
  Z12_isIdle_40 G k5 l0 l1 l2 l4 (1 : Int)
theorem qX12_isIdle_35 {G : kdS} (hG : kzG G) {k5' : Nat → Int → Int → Int → Int → kzM → Option (Int × kzM)} {k5 : Nat → Int32 → Int32 → Int32 → Int32 → kdM → Option (Int32 × kdM)} (hk5 : ∀ (a0 : Nat) (a1 : Int) (_ : kzI a1) (a2 : Int) (_ : kzI a2) (a3 : Int) (_ : kzI a3) (a4 : Int) (_ : kzI a4), CRi (k5' a0 a1 a2 a3 a4) (k5 a0 (Int32.ofInt a1) (Int32.ofInt a2) (Int32.ofInt a3) (Int32.ofInt a4))) (l0 : Nat) {l1 : Int} (hl1 : kzI l1) {l2 : Int} (hl2 : kzI l2) {l4 : Int} (hl4 : kzI l4) : CRi (Z12_isIdle_35 G k5' l0 l1 l2 l4) (X12_isIdle_35 G k5 l0 (Int32.ofInt l1) (Int32.ofInt l2) (Int32.ofInt l4)) := by
  unfold Z12_isIdle_35 X12_isIdle_35
  exact (qX12_isIdle_40 hG hk5 l0 hl1 hl2 hl4 (by unfold kzI; omega))
def Z12_isIdle_5B (G : kdS) (k5 : Nat → Int → Int → Int → Int → kzM → Option (Int × kzM)) (l0 : Nat) (l1 : Int) (l2 : Int) (l3 : Int) (l4 : Int) : kzM → Option (Int × kzM) :=
  zcnd (l2 ≤ l4)
  (zrt (zB l3))
  (zcnd (l3 = (0 : Int))
  (zlI (((24 : Int) * l1) + l4) fun u1 =>
  zlI (((24 : Int) * l1) + l2) fun u2 =>
  zcv G 12 l0 (Z12_haveSameKeys G l0 u1 u2) fun t1 =>
  zcnd (t1 = (0 : Int))
  (Z12_isIdle_40 G k5 l0 l1 l2 l4 (0 : Int))
  (Z12_isIdle_35 G k5 l0 l1 l2 l4))
  (Z12_isIdle_35 G k5 l0 l1 l2 l4))
theorem qX12_isIdle_5B {G : kdS} (hG : kzG G) {k5' : Nat → Int → Int → Int → Int → kzM → Option (Int × kzM)} {k5 : Nat → Int32 → Int32 → Int32 → Int32 → kdM → Option (Int32 × kdM)} (hk5 : ∀ (a0 : Nat) (a1 : Int) (_ : kzI a1) (a2 : Int) (_ : kzI a2) (a3 : Int) (_ : kzI a3) (a4 : Int) (_ : kzI a4), CRi (k5' a0 a1 a2 a3 a4) (k5 a0 (Int32.ofInt a1) (Int32.ofInt a2) (Int32.ofInt a3) (Int32.ofInt a4))) (l0 : Nat) {l1 : Int} (hl1 : kzI l1) {l2 : Int} (hl2 : kzI l2) {l3 : Int} (hl3 : kzI l3) {l4 : Int} (hl4 : kzI l4) : CRi (Z12_isIdle_5B G k5' l0 l1 l2 l3 l4) (X12_isIdle_5B G k5 l0 (Int32.ofInt l1) (Int32.ofInt l2) (Int32.ofInt l3) (Int32.ofInt l4)) := by
  unfold Z12_isIdle_5B X12_isIdle_5B
  exact c_cnd (kz_le hl2 hl4 rfl rfl) (c_rt (kz_BI _) (kz_B rfl)) (c_cnd (kz_eq hl3 (by unfold kzI; omega) rfl rfl) (c_rg (kz_add (kz_mul rfl rfl) rfl) fun u1 r1 e1 => c_rg (kz_add (kz_mul rfl rfl) rfl) fun u2 r2 e2 => c_cv (e2 ▸ (e1 ▸ (qX12_haveSameKeys hG l0 r1 r2))) (fun t1 ht1 => c_cnd (kz_eq ht1 (by unfold kzI; omega) rfl rfl) ((qX12_isIdle_40 hG hk5 l0 hl1 hl2 hl4 (by unfold kzI; omega))) ((qX12_isIdle_35 hG hk5 l0 hl1 hl2 hl4)))) ((qX12_isIdle_35 hG hk5 l0 hl1 hl2 hl4)))
def Z12_isIdle_5 (G : kdS) : Nat → Int → Int → Int → Int → kzM → Option (Int × kzM) := lp (fun _ _ _ _ _ _ => none) (Z12_isIdle_5B G) NN
theorem qX12_isIdle_5 {G : kdS} (hG : kzG G) : ∀ (a0 : Nat) (a1 : Int) (_ : kzI a1) (a2 : Int) (_ : kzI a2) (a3 : Int) (_ : kzI a3) (a4 : Int) (_ : kzI a4), CRi (Z12_isIdle_5 G a0 a1 a2 a3 a4) (X12_isIdle_5 G a0 (Int32.ofInt a1) (Int32.ofInt a2) (Int32.ofInt a3) (Int32.ofInt a4)) :=
  lp_rel (R := fun (f' : Nat → Int → Int → Int → Int → kzM → Option (Int × kzM)) (f : Nat → Int32 → Int32 → Int32 → Int32 → kdM → Option (Int32 × kdM)) => ∀ (a0 : Nat) (a1 : Int) (_ : kzI a1) (a2 : Int) (_ : kzI a2) (a3 : Int) (_ : kzI a3) (a4 : Int) (_ : kzI a4), CRi (f' a0 a1 a2 a3 a4) (f a0 (Int32.ofInt a1) (Int32.ofInt a2) (Int32.ofInt a3) (Int32.ofInt a4))) (by intros; exact c_no) (fun _ _ hf a0 a1 ha1 a2 ha2 a3 ha3 a4 ha4 => qX12_isIdle_5B hG hf a0 ha1 ha2 ha3 ha4) NN
def Z12_isIdle (G : kdS) (l0 : Nat) (l1 : Int) (l2 : Int) : kzM → Option (Int × kzM) :=
  Z12_isIdle_5 G l0 l1 l2 (0 : Int) (0 : Int)
theorem qX12_isIdle {G : kdS} (hG : kzG G) (l0 : Nat) {l1 : Int} (hl1 : kzI l1) {l2 : Int} (hl2 : kzI l2) : CRi (Z12_isIdle G l0 l1 l2) (X12_isIdle G l0 (Int32.ofInt l1) (Int32.ofInt l2)) := by
  unfold Z12_isIdle X12_isIdle
  exact (qX12_isIdle_5 hG l0 _ hl1 _ hl2 _ (by unfold kzI; omega) _ (by unfold kzI; omega))
def Z12_idle_65B (G : kdS) (k30 : Nat → Int → Int → Int → Int → Int → kzM → Option (Int × kzM)) (k65 : Nat → Int → Int → Int → Int → Int → Int → kzM → Option (Int × kzM)) (l0 : Nat) (l1 : Int) (l2 : Int) (l3 : Int) (l4 : Int) (l5 : Int) (l6 : Int) : kzM → Option (Int × kzM) :=
  zgR G 12 8 l0 fun t1 =>
  zaI G t1 (((24 : Int) * l1) + l5) fun t2 =>
  zcnd (t2 ≤ l6)
  (zlI (l5 + (1 : Int)) fun t3 =>
  k30 l0 l1 l2 l3 l4 t3)
  (zgR G 12 7 l0 fun t4 =>
  zaI G t4 (((4 : Int) * (((24 : Int) * l1) + l5)) + l6) fun t5 =>
  zlI (zor l4 (zshl (1 : Int) t5)) fun t6 =>
  zlI (l6 + (1 : Int)) fun t7 =>
  k65 l0 l1 l2 l3 t6 l5 t7)
theorem qX12_idle_65B {G : kdS} (hG : kzG G) {k30' : Nat → Int → Int → Int → Int → Int → kzM → Option (Int × kzM)} {k30 : Nat → Int32 → Int32 → Int32 → Int32 → Int32 → kdM → Option (Int32 × kdM)} (hk30 : ∀ (a0 : Nat) (a1 : Int) (_ : kzI a1) (a2 : Int) (_ : kzI a2) (a3 : Int) (_ : kzI a3) (a4 : Int) (_ : kzI a4) (a5 : Int) (_ : kzI a5), CRi (k30' a0 a1 a2 a3 a4 a5) (k30 a0 (Int32.ofInt a1) (Int32.ofInt a2) (Int32.ofInt a3) (Int32.ofInt a4) (Int32.ofInt a5))) {k65' : Nat → Int → Int → Int → Int → Int → Int → kzM → Option (Int × kzM)} {k65 : Nat → Int32 → Int32 → Int32 → Int32 → Int32 → Int32 → kdM → Option (Int32 × kdM)} (hk65 : ∀ (a0 : Nat) (a1 : Int) (_ : kzI a1) (a2 : Int) (_ : kzI a2) (a3 : Int) (_ : kzI a3) (a4 : Int) (_ : kzI a4) (a5 : Int) (_ : kzI a5) (a6 : Int) (_ : kzI a6), CRi (k65' a0 a1 a2 a3 a4 a5 a6) (k65 a0 (Int32.ofInt a1) (Int32.ofInt a2) (Int32.ofInt a3) (Int32.ofInt a4) (Int32.ofInt a5) (Int32.ofInt a6))) (l0 : Nat) {l1 : Int} (hl1 : kzI l1) {l2 : Int} (hl2 : kzI l2) {l3 : Int} (hl3 : kzI l3) {l4 : Int} (hl4 : kzI l4) {l5 : Int} (hl5 : kzI l5) {l6 : Int} (hl6 : kzI l6) : CRi (Z12_idle_65B G k30' k65' l0 l1 l2 l3 l4 l5 l6) (X12_idle_65B G k30 k65 l0 (Int32.ofInt l1) (Int32.ofInt l2) (Int32.ofInt l3) (Int32.ofInt l4) (Int32.ofInt l5) (Int32.ofInt l6)) := by
  unfold Z12_idle_65B X12_idle_65B
  exact c_gR (fun t1 => c_aI hG (kz_add (kz_mul rfl rfl) rfl) (fun t2 ht2 => c_cnd (kz_le ht2 hl6 rfl rfl) (c_lI (kz_add rfl rfl) (fun t3 ht3 => (hk30 l0 _ hl1 _ hl2 _ hl3 _ hl4 _ ht3))) (c_gR (fun t4 => c_aI hG (kz_add (kz_mul rfl (kz_add (kz_mul rfl rfl) rfl)) rfl) (fun t5 ht5 => c_lI (kz_or rfl (kz_shl rfl rfl)) (fun t6 ht6 => c_lI (kz_add rfl rfl) (fun t7 ht7 => (hk65 l0 _ hl1 _ hl2 _ hl3 _ ht6 _ hl5 _ ht7))))))))
def Z12_idle_65 (G : kdS) (k30 : Nat → Int → Int → Int → Int → Int → kzM → Option (Int × kzM)) : Nat → Int → Int → Int → Int → Int → Int → kzM → Option (Int × kzM) := lp (fun _ _ _ _ _ _ _ _ => none) (Z12_idle_65B G k30) NN
theorem qX12_idle_65 {G : kdS} (hG : kzG G) {k30' : Nat → Int → Int → Int → Int → Int → kzM → Option (Int × kzM)} {k30 : Nat → Int32 → Int32 → Int32 → Int32 → Int32 → kdM → Option (Int32 × kdM)} (hk30 : ∀ (a0 : Nat) (a1 : Int) (_ : kzI a1) (a2 : Int) (_ : kzI a2) (a3 : Int) (_ : kzI a3) (a4 : Int) (_ : kzI a4) (a5 : Int) (_ : kzI a5), CRi (k30' a0 a1 a2 a3 a4 a5) (k30 a0 (Int32.ofInt a1) (Int32.ofInt a2) (Int32.ofInt a3) (Int32.ofInt a4) (Int32.ofInt a5))) : ∀ (a0 : Nat) (a1 : Int) (_ : kzI a1) (a2 : Int) (_ : kzI a2) (a3 : Int) (_ : kzI a3) (a4 : Int) (_ : kzI a4) (a5 : Int) (_ : kzI a5) (a6 : Int) (_ : kzI a6), CRi (Z12_idle_65 G k30' a0 a1 a2 a3 a4 a5 a6) (X12_idle_65 G k30 a0 (Int32.ofInt a1) (Int32.ofInt a2) (Int32.ofInt a3) (Int32.ofInt a4) (Int32.ofInt a5) (Int32.ofInt a6)) :=
  lp_rel (R := fun (f' : Nat → Int → Int → Int → Int → Int → Int → kzM → Option (Int × kzM)) (f : Nat → Int32 → Int32 → Int32 → Int32 → Int32 → Int32 → kdM → Option (Int32 × kdM)) => ∀ (a0 : Nat) (a1 : Int) (_ : kzI a1) (a2 : Int) (_ : kzI a2) (a3 : Int) (_ : kzI a3) (a4 : Int) (_ : kzI a4) (a5 : Int) (_ : kzI a5) (a6 : Int) (_ : kzI a6), CRi (f' a0 a1 a2 a3 a4 a5 a6) (f a0 (Int32.ofInt a1) (Int32.ofInt a2) (Int32.ofInt a3) (Int32.ofInt a4) (Int32.ofInt a5) (Int32.ofInt a6))) (by intros; exact c_no) (fun _ _ hf a0 a1 ha1 a2 ha2 a3 ha3 a4 ha4 a5 ha5 a6 ha6 => qX12_idle_65B hG hk30 hf a0 ha1 ha2 ha3 ha4 ha5 ha6) NN
def Z12_idle_60 (G : kdS) (k30 : Nat → Int → Int → Int → Int → Int → kzM → Option (Int × kzM)) (l0 : Nat) (l1 : Int) (l2 : Int) (l4 : Int) (l5 : Int) (s0 : Int) (s1 : Int) : kzM → Option (Int × kzM) :=
  zlI (zor s0 s1) fun t1 =>
  Z12_idle_65 G k30 l0 l1 l2 t1 l4 l5 (0 : Int)
theorem qX12_idle_60 {G : kdS} (hG : kzG G) {k30' : Nat → Int → Int → Int → Int → Int → kzM → Option (Int × kzM)} {k30 : Nat → Int32 → Int32 → Int32 → Int32 → Int32 → kdM → Option (Int32 × kdM)} (hk30 : ∀ (a0 : Nat) (a1 : Int) (_ : kzI a1) (a2 : Int) (_ : kzI a2) (a3 : Int) (_ : kzI a3) (a4 : Int) (_ : kzI a4) (a5 : Int) (_ : kzI a5), CRi (k30' a0 a1 a2 a3 a4 a5) (k30 a0 (Int32.ofInt a1) (Int32.ofInt a2) (Int32.ofInt a3) (Int32.ofInt a4) (Int32.ofInt a5))) (l0 : Nat) {l1 : Int} (hl1 : kzI l1) {l2 : Int} (hl2 : kzI l2) {l4 : Int} (hl4 : kzI l4) {l5 : Int} (hl5 : kzI l5) {s0 : Int} (hs0 : kzI s0) {s1 : Int} (hs1 : kzI s1) : CRi (Z12_idle_60 G k30' l0 l1 l2 l4 l5 s0 s1) (X12_idle_60 G k30 l0 (Int32.ofInt l1) (Int32.ofInt l2) (Int32.ofInt l4) (Int32.ofInt l5) (Int32.ofInt s0) (Int32.ofInt s1)) := by
  unfold Z12_idle_60 X12_idle_60
  exact c_lI (kz_or rfl rfl) (fun t1 ht1 => (qX12_idle_65 hG hk30 l0 _ hl1 _ hl2 _ ht1 _ hl4 _ hl5 _ (by unfold kzI; omega)))
def Z12_idle_134 (G : kdS) (s0 : Int) : kzM → Option (Int × kzM) :=
  zrt s0
theorem qX12_idle_134 {G : kdS} (hG : kzG G) {s0 : Int} (hs0 : kzI s0) : CRi (Z12_idle_134 G s0) (X12_idle_134 G (Int32.ofInt s0)) := by
  unfold Z12_idle_134 X12_idle_134
  exact c_rt hs0 rfl
def Z12_idle_30B (G : kdS) (k30 : Nat → Int → Int → Int → Int → Int → kzM → Option (Int × kzM)) (l0 : Nat) (l1 : Int) (l2 : Int) (l3 : Int) (l4 : Int) (l5 : Int) : kzM → Option (Int × kzM) :=
  zgR G 12 11 l0 fun t1 =>
  zaI G t1 l1 fun t2 =>
  zcnd (t2 ≤ l5)
  (zcnd (l2 = (0 : Int))
  (Z12_idle_134 G l3)
  (zlI (zand (4095 : Int) (zxor l4 (-1 : Int))) fun u1 =>
  Z12_idle_134 G u1))
  (zcv G 12 l0 (Z12_isIdle G l0 l1 l5) fun t3 =>
  zcnd (t3 = (0 : Int))
  (Z12_idle_60 G k30 l0 l1 l2 l4 l5 l3 (0 : Int))
  (zlI (zshl (1 : Int) l5) fun u2 =>
  Z12_idle_60 G k30 l0 l1 l2 l4 l5 l3 u2))
theorem qX12_idle_30B {G : kdS} (hG : kzG G) {k30' : Nat → Int → Int → Int → Int → Int → kzM → Option (Int × kzM)} {k30 : Nat → Int32 → Int32 → Int32 → Int32 → Int32 → kdM → Option (Int32 × kdM)} (hk30 : ∀ (a0 : Nat) (a1 : Int) (_ : kzI a1) (a2 : Int) (_ : kzI a2) (a3 : Int) (_ : kzI a3) (a4 : Int) (_ : kzI a4) (a5 : Int) (_ : kzI a5), CRi (k30' a0 a1 a2 a3 a4 a5) (k30 a0 (Int32.ofInt a1) (Int32.ofInt a2) (Int32.ofInt a3) (Int32.ofInt a4) (Int32.ofInt a5))) (l0 : Nat) {l1 : Int} (hl1 : kzI l1) {l2 : Int} (hl2 : kzI l2) {l3 : Int} (hl3 : kzI l3) {l4 : Int} (hl4 : kzI l4) {l5 : Int} (hl5 : kzI l5) : CRi (Z12_idle_30B G k30' l0 l1 l2 l3 l4 l5) (X12_idle_30B G k30 l0 (Int32.ofInt l1) (Int32.ofInt l2) (Int32.ofInt l3) (Int32.ofInt l4) (Int32.ofInt l5)) := by
  unfold Z12_idle_30B X12_idle_30B
  exact c_gR (fun t1 => c_aI hG rfl (fun t2 ht2 => c_cnd (kz_le ht2 hl5 rfl rfl) (c_cnd (kz_eq hl2 (by unfold kzI; omega) rfl rfl) ((qX12_idle_134 hG hl3)) (c_rg (kz_and rfl (kz_xor rfl rfl)) fun u1 r1 e1 => (e1 ▸ (qX12_idle_134 hG r1)))) (c_cv (qX12_isIdle hG l0 hl1 hl5) (fun t3 ht3 => c_cnd (kz_eq ht3 (by unfold kzI; omega) rfl rfl) ((qX12_idle_60 hG hk30 l0 hl1 hl2 hl4 hl5 hl3 (by unfold kzI; omega))) (c_rg (kz_shl rfl rfl) fun u2 r2 e2 => (e2 ▸ (qX12_idle_60 hG hk30 l0 hl1 hl2 hl4 hl5 hl3 r2)))))))
def Z12_idle_30 (G : kdS) : Nat → Int → Int → Int → Int → Int → kzM → Option (Int × kzM) := lp (fun _ _ _ _ _ _ _ => none) (Z12_idle_30B G) NN
theorem qX12_idle_30 {G : kdS} (hG : kzG G) : ∀ (a0 : Nat) (a1 : Int) (_ : kzI a1) (a2 : Int) (_ : kzI a2) (a3 : Int) (_ : kzI a3) (a4 : Int) (_ : kzI a4) (a5 : Int) (_ : kzI a5), CRi (Z12_idle_30 G a0 a1 a2 a3 a4 a5) (X12_idle_30 G a0 (Int32.ofInt a1) (Int32.ofInt a2) (Int32.ofInt a3) (Int32.ofInt a4) (Int32.ofInt a5)) :=
  lp_rel (R := fun (f' : Nat → Int → Int → Int → Int → Int → kzM → Option (Int × kzM)) (f : Nat → Int32 → Int32 → Int32 → Int32 → Int32 → kdM → Option (Int32 × kdM)) => ∀ (a0 : Nat) (a1 : Int) (_ : kzI a1) (a2 : Int) (_ : kzI a2) (a3 : Int) (_ : kzI a3) (a4 : Int) (_ : kzI a4) (a5 : Int) (_ : kzI a5), CRi (f' a0 a1 a2 a3 a4 a5) (f a0 (Int32.ofInt a1) (Int32.ofInt a2) (Int32.ofInt a3) (Int32.ofInt a4) (Int32.ofInt a5))) (by intros; exact c_no) (fun _ _ hf a0 a1 ha1 a2 ha2 a3 ha3 a4 ha4 a5 ha5 => qX12_idle_30B hG hf a0 ha1 ha2 ha3 ha4 ha5) NN
def Z12_idle (G : kdS) (l0 : Nat) (l1 : Int) (l2 : Int) : kzM → Option (Int × kzM) :=
  zcl (Z12_isTongue G l1) fun t1 =>
  zcnd (t1 = (0 : Int))
  (zrt (-1 : Int))
  (zcl (Z12_in G l2 (0 : Int) (1 : Int)) fun t2 =>
  zcnd (t2 = (0 : Int))
  (zrt (-2 : Int))
  (Z12_idle_30 G l0 l1 l2 (0 : Int) (0 : Int) (0 : Int)))
theorem qX12_idle {G : kdS} (hG : kzG G) (l0 : Nat) {l1 : Int} (hl1 : kzI l1) {l2 : Int} (hl2 : kzI l2) : CRi (Z12_idle G l0 l1 l2) (X12_idle G l0 (Int32.ofInt l1) (Int32.ofInt l2)) := by
  unfold Z12_idle X12_idle
  exact c_cl (qX12_isTongue hG hl1) (fun t1 ht1 => c_cnd (kz_eq ht1 (by unfold kzI; omega) rfl rfl) (c_rt (by unfold kzI; omega) rfl) (c_cl ((kz_i2l hl2 rfl) ▸ (qX12_in hG (kzI_L hl2) (show kzL (0 : Int) by unfold kzL; omega) (show kzL (1 : Int) by unfold kzL; omega))) (fun t2 ht2 => c_cnd (kz_eq ht2 (by unfold kzI; omega) rfl rfl) (c_rt (by unfold kzI; omega) rfl) ((qX12_idle_30 hG l0 _ hl1 _ hl2 _ (by unfold kzI; omega) _ (by unfold kzI; omega) _ (by unfold kzI; omega))))))
def Z12_findMade_86 (G : kdS) (k23 : Nat → Int → Int → kzM → Option (Unit × kzM)) (l0 : Nat) (l1 : Int) (l2 : Int) : kzM → Option (Unit × kzM) :=
  zlI (l2 + (1 : Int)) fun t1 =>
  k23 l0 l1 t1
theorem qX12_findMade_86 {G : kdS} (hG : kzG G) {k23' : Nat → Int → Int → kzM → Option (Unit × kzM)} {k23 : Nat → Int32 → Int32 → kdM → Option (Unit × kdM)} (hk23 : ∀ (a0 : Nat) (a1 : Int) (_ : kzI a1) (a2 : Int) (_ : kzI a2), CRu (k23' a0 a1 a2) (k23 a0 (Int32.ofInt a1) (Int32.ofInt a2))) (l0 : Nat) {l1 : Int} (hl1 : kzI l1) {l2 : Int} (hl2 : kzI l2) : CRu (Z12_findMade_86 G k23' l0 l1 l2) (X12_findMade_86 G k23 l0 (Int32.ofInt l1) (Int32.ofInt l2)) := by
  unfold Z12_findMade_86 X12_findMade_86
  exact c_lI (kz_add rfl rfl) (fun t1 ht1 => (hk23 l0 _ hl1 _ ht1))
def Z12_findMade_43B (G : kdS) (k23 : Nat → Int → Int → kzM → Option (Unit × kzM)) (k43 : Nat → Int → Int → Int → Int → kzM → Option (Unit × kzM)) (l0 : Nat) (l1 : Int) (l2 : Int) (l3 : Int) (l4 : Int) : kzM → Option (Unit × kzM) :=
  zgR G 12 10 l0 fun t1 =>
  zaI G t1 l3 fun t2 =>
  zcnd (t2 ≤ l4)
  (Z12_findMade_86 G k23 l0 l1 l2)
  (zcv G 12 l0 (Z12_isIdle G l0 l1 l2) fun t3 =>
  zcnd (t3 = (0 : Int))
  (zgR G 12 15 l0 fun t4 =>
  zgR G 12 9 l0 fun t5 =>
  zaI G t5 (((3 : Int) * l3) + l4) fun t6 =>
  ztZ G t4 t6 (1 : Int) <|
  zlI (l4 + (1 : Int)) fun t7 =>
  k43 l0 l1 l2 l3 t7)
  (Z12_findMade_86 G k23 l0 l1 l2))
theorem qX12_findMade_43B {G : kdS} (hG : kzG G) {k23' : Nat → Int → Int → kzM → Option (Unit × kzM)} {k23 : Nat → Int32 → Int32 → kdM → Option (Unit × kdM)} (hk23 : ∀ (a0 : Nat) (a1 : Int) (_ : kzI a1) (a2 : Int) (_ : kzI a2), CRu (k23' a0 a1 a2) (k23 a0 (Int32.ofInt a1) (Int32.ofInt a2))) {k43' : Nat → Int → Int → Int → Int → kzM → Option (Unit × kzM)} {k43 : Nat → Int32 → Int32 → Int32 → Int32 → kdM → Option (Unit × kdM)} (hk43 : ∀ (a0 : Nat) (a1 : Int) (_ : kzI a1) (a2 : Int) (_ : kzI a2) (a3 : Int) (_ : kzI a3) (a4 : Int) (_ : kzI a4), CRu (k43' a0 a1 a2 a3 a4) (k43 a0 (Int32.ofInt a1) (Int32.ofInt a2) (Int32.ofInt a3) (Int32.ofInt a4))) (l0 : Nat) {l1 : Int} (hl1 : kzI l1) {l2 : Int} (hl2 : kzI l2) {l3 : Int} (hl3 : kzI l3) {l4 : Int} (hl4 : kzI l4) : CRu (Z12_findMade_43B G k23' k43' l0 l1 l2 l3 l4) (X12_findMade_43B G k23 k43 l0 (Int32.ofInt l1) (Int32.ofInt l2) (Int32.ofInt l3) (Int32.ofInt l4)) := by
  unfold Z12_findMade_43B X12_findMade_43B
  exact c_gR (fun t1 => c_aI hG rfl (fun t2 ht2 => c_cnd (kz_le ht2 hl4 rfl rfl) ((qX12_findMade_86 hG hk23 l0 hl1 hl2)) (c_cv (qX12_isIdle hG l0 hl1 hl2) (fun t3 ht3 => c_cnd (kz_eq ht3 (by unfold kzI; omega) rfl rfl) (c_gR (fun t4 => c_gR (fun t5 => c_aI hG (kz_add (kz_mul rfl rfl) rfl) (fun t6 ht6 => c_tZ hG rfl rfl (c_lI (kz_add rfl rfl) (fun t7 ht7 => (hk43 l0 _ hl1 _ hl2 _ hl3 _ ht7))))))) ((qX12_findMade_86 hG hk23 l0 hl1 hl2))))))
def Z12_findMade_43 (G : kdS) (k23 : Nat → Int → Int → kzM → Option (Unit × kzM)) : Nat → Int → Int → Int → Int → kzM → Option (Unit × kzM) := lp (fun _ _ _ _ _ _ => none) (Z12_findMade_43B G k23) NN
theorem qX12_findMade_43 {G : kdS} (hG : kzG G) {k23' : Nat → Int → Int → kzM → Option (Unit × kzM)} {k23 : Nat → Int32 → Int32 → kdM → Option (Unit × kdM)} (hk23 : ∀ (a0 : Nat) (a1 : Int) (_ : kzI a1) (a2 : Int) (_ : kzI a2), CRu (k23' a0 a1 a2) (k23 a0 (Int32.ofInt a1) (Int32.ofInt a2))) : ∀ (a0 : Nat) (a1 : Int) (_ : kzI a1) (a2 : Int) (_ : kzI a2) (a3 : Int) (_ : kzI a3) (a4 : Int) (_ : kzI a4), CRu (Z12_findMade_43 G k23' a0 a1 a2 a3 a4) (X12_findMade_43 G k23 a0 (Int32.ofInt a1) (Int32.ofInt a2) (Int32.ofInt a3) (Int32.ofInt a4)) :=
  lp_rel (R := fun (f' : Nat → Int → Int → Int → Int → kzM → Option (Unit × kzM)) (f : Nat → Int32 → Int32 → Int32 → Int32 → kdM → Option (Unit × kdM)) => ∀ (a0 : Nat) (a1 : Int) (_ : kzI a1) (a2 : Int) (_ : kzI a2) (a3 : Int) (_ : kzI a3) (a4 : Int) (_ : kzI a4), CRu (f' a0 a1 a2 a3 a4) (f a0 (Int32.ofInt a1) (Int32.ofInt a2) (Int32.ofInt a3) (Int32.ofInt a4))) (by intros; exact c_no) (fun _ _ hf a0 a1 ha1 a2 ha2 a3 ha3 a4 ha4 => qX12_findMade_43B hG hk23 hf a0 ha1 ha2 ha3 ha4) NN
def Z12_findMade_189 (G : kdS) (k94 : Nat → Int → Int → kzM → Option (Unit × kzM)) (k102 : Nat → Int → Int → Int → kzM → Option (Unit × kzM)) (l0 : Nat) (l1 : Int) (l2 : Int) (l3 : Int) (s0 : Nat) (s1 : Int) (s2 : Int) : kzM → Option (Unit × kzM) :=
  ztZ G s0 s1 s2 <|
  zlI (l3 + (1 : Int)) fun t1 =>
  k102 l0 l1 l2 t1
theorem qX12_findMade_189 {G : kdS} (hG : kzG G) {k94' : Nat → Int → Int → kzM → Option (Unit × kzM)} {k94 : Nat → Int32 → Int32 → kdM → Option (Unit × kdM)} (hk94 : ∀ (a0 : Nat) (a1 : Int) (_ : kzI a1) (a2 : Int) (_ : kzI a2), CRu (k94' a0 a1 a2) (k94 a0 (Int32.ofInt a1) (Int32.ofInt a2))) {k102' : Nat → Int → Int → Int → kzM → Option (Unit × kzM)} {k102 : Nat → Int32 → Int32 → Int32 → kdM → Option (Unit × kdM)} (hk102 : ∀ (a0 : Nat) (a1 : Int) (_ : kzI a1) (a2 : Int) (_ : kzI a2) (a3 : Int) (_ : kzI a3), CRu (k102' a0 a1 a2 a3) (k102 a0 (Int32.ofInt a1) (Int32.ofInt a2) (Int32.ofInt a3))) (l0 : Nat) {l1 : Int} (hl1 : kzI l1) {l2 : Int} (hl2 : kzI l2) {l3 : Int} (hl3 : kzI l3) (s0 : Nat) {s1 : Int} (hs1 : kzI s1) {s2 : Int} (hs2 : kzI s2) : CRu (Z12_findMade_189 G k94' k102' l0 l1 l2 l3 s0 s1 s2) (X12_findMade_189 G k94 k102 l0 (Int32.ofInt l1) (Int32.ofInt l2) (Int32.ofInt l3) s0 (Int32.ofInt s1) (Int32.ofInt s2)) := by
  unfold Z12_findMade_189 X12_findMade_189
  exact c_tZ hG rfl rfl (c_lI (kz_add rfl rfl) (fun t1 ht1 => (hk102 l0 _ hl1 _ hl2 _ ht1)))
def Z12_findMade_184 (G : kdS) (k94 : Nat → Int → Int → kzM → Option (Unit × kzM)) (k102 : Nat → Int → Int → Int → kzM → Option (Unit × kzM)) (l0 : Nat) (l1 : Int) (l2 : Int) (l3 : Int) (s0 : Nat) (s1 : Int) : kzM → Option (Unit × kzM) :=
  Z12_findMade_189 G k94 k102 l0 l1 l2 l3 s0 s1 (1 : Int)
theorem qX12_findMade_184 {G : kdS} (hG : kzG G) {k94' : Nat → Int → Int → kzM → Option (Unit × kzM)} {k94 : Nat → Int32 → Int32 → kdM → Option (Unit × kdM)} (hk94 : ∀ (a0 : Nat) (a1 : Int) (_ : kzI a1) (a2 : Int) (_ : kzI a2), CRu (k94' a0 a1 a2) (k94 a0 (Int32.ofInt a1) (Int32.ofInt a2))) {k102' : Nat → Int → Int → Int → kzM → Option (Unit × kzM)} {k102 : Nat → Int32 → Int32 → Int32 → kdM → Option (Unit × kdM)} (hk102 : ∀ (a0 : Nat) (a1 : Int) (_ : kzI a1) (a2 : Int) (_ : kzI a2) (a3 : Int) (_ : kzI a3), CRu (k102' a0 a1 a2 a3) (k102 a0 (Int32.ofInt a1) (Int32.ofInt a2) (Int32.ofInt a3))) (l0 : Nat) {l1 : Int} (hl1 : kzI l1) {l2 : Int} (hl2 : kzI l2) {l3 : Int} (hl3 : kzI l3) (s0 : Nat) {s1 : Int} (hs1 : kzI s1) : CRu (Z12_findMade_184 G k94' k102' l0 l1 l2 l3 s0 s1) (X12_findMade_184 G k94 k102 l0 (Int32.ofInt l1) (Int32.ofInt l2) (Int32.ofInt l3) s0 (Int32.ofInt s1)) := by
  unfold Z12_findMade_184 X12_findMade_184
  exact (qX12_findMade_189 hG hk94 hk102 l0 hl1 hl2 hl3 s0 hs1 (by unfold kzI; omega))
def Z12_findMade_188 (G : kdS) (k94 : Nat → Int → Int → kzM → Option (Unit × kzM)) (k102 : Nat → Int → Int → Int → kzM → Option (Unit × kzM)) (l0 : Nat) (l1 : Int) (l2 : Int) (l3 : Int) (s0 : Nat) (s1 : Int) : kzM → Option (Unit × kzM) :=
  Z12_findMade_189 G k94 k102 l0 l1 l2 l3 s0 s1 (0 : Int)
theorem qX12_findMade_188 {G : kdS} (hG : kzG G) {k94' : Nat → Int → Int → kzM → Option (Unit × kzM)} {k94 : Nat → Int32 → Int32 → kdM → Option (Unit × kdM)} (hk94 : ∀ (a0 : Nat) (a1 : Int) (_ : kzI a1) (a2 : Int) (_ : kzI a2), CRu (k94' a0 a1 a2) (k94 a0 (Int32.ofInt a1) (Int32.ofInt a2))) {k102' : Nat → Int → Int → Int → kzM → Option (Unit × kzM)} {k102 : Nat → Int32 → Int32 → Int32 → kdM → Option (Unit × kdM)} (hk102 : ∀ (a0 : Nat) (a1 : Int) (_ : kzI a1) (a2 : Int) (_ : kzI a2) (a3 : Int) (_ : kzI a3), CRu (k102' a0 a1 a2 a3) (k102 a0 (Int32.ofInt a1) (Int32.ofInt a2) (Int32.ofInt a3))) (l0 : Nat) {l1 : Int} (hl1 : kzI l1) {l2 : Int} (hl2 : kzI l2) {l3 : Int} (hl3 : kzI l3) (s0 : Nat) {s1 : Int} (hs1 : kzI s1) : CRu (Z12_findMade_188 G k94' k102' l0 l1 l2 l3 s0 s1) (X12_findMade_188 G k94 k102 l0 (Int32.ofInt l1) (Int32.ofInt l2) (Int32.ofInt l3) s0 (Int32.ofInt s1)) := by
  unfold Z12_findMade_188 X12_findMade_188
  exact (qX12_findMade_189 hG hk94 hk102 l0 hl1 hl2 hl3 s0 hs1 (by unfold kzI; omega))
def Z12_findMade_102B (G : kdS) (k94 : Nat → Int → Int → kzM → Option (Unit × kzM)) (k102 : Nat → Int → Int → Int → kzM → Option (Unit × kzM)) (l0 : Nat) (l1 : Int) (l2 : Int) (l3 : Int) : kzM → Option (Unit × kzM) :=
  zgR G 12 13 l0 fun t1 =>
  zaI G t1 l1 fun t2 =>
  zcnd (t2 ≤ l3)
  (zlI (l2 + (1 : Int)) fun t3 =>
  k94 l0 l1 t3)
  (zlI ((3 : Int) * (((12 : Int) * l1) + l3)) fun t4 =>
  zgR G 12 15 l0 fun t5 =>
  zgR G 12 12 l0 fun t6 =>
  zaI G t6 (t4 + (2 : Int)) fun t7 =>
  zgR G 12 15 l0 fun t8 =>
  zgR G 12 12 l0 fun t9 =>
  zaI G t9 (t4 + (2 : Int)) fun t10 =>
  zaZ G t8 t10 fun t11 =>
  zcnd (t11 = (0 : Int))
  (zgR G 12 15 l0 fun t12 =>
  zgR G 12 12 l0 fun t13 =>
  zaI G t13 t4 fun t14 =>
  zaZ G t12 t14 fun t15 =>
  zcnd (t15 = (0 : Int))
  (Z12_findMade_188 G k94 k102 l0 l1 l2 l3 t5 t7)
  (zgR G 12 15 l0 fun t16 =>
  zgR G 12 12 l0 fun t17 =>
  zaI G t17 (t4 + (1 : Int)) fun t18 =>
  zaZ G t16 t18 fun t19 =>
  zcnd (t19 = (0 : Int))
  (Z12_findMade_188 G k94 k102 l0 l1 l2 l3 t5 t7)
  (Z12_findMade_184 G k94 k102 l0 l1 l2 l3 t5 t7)))
  (Z12_findMade_184 G k94 k102 l0 l1 l2 l3 t5 t7))
theorem qX12_findMade_102B {G : kdS} (hG : kzG G) {k94' : Nat → Int → Int → kzM → Option (Unit × kzM)} {k94 : Nat → Int32 → Int32 → kdM → Option (Unit × kdM)} (hk94 : ∀ (a0 : Nat) (a1 : Int) (_ : kzI a1) (a2 : Int) (_ : kzI a2), CRu (k94' a0 a1 a2) (k94 a0 (Int32.ofInt a1) (Int32.ofInt a2))) {k102' : Nat → Int → Int → Int → kzM → Option (Unit × kzM)} {k102 : Nat → Int32 → Int32 → Int32 → kdM → Option (Unit × kdM)} (hk102 : ∀ (a0 : Nat) (a1 : Int) (_ : kzI a1) (a2 : Int) (_ : kzI a2) (a3 : Int) (_ : kzI a3), CRu (k102' a0 a1 a2 a3) (k102 a0 (Int32.ofInt a1) (Int32.ofInt a2) (Int32.ofInt a3))) (l0 : Nat) {l1 : Int} (hl1 : kzI l1) {l2 : Int} (hl2 : kzI l2) {l3 : Int} (hl3 : kzI l3) : CRu (Z12_findMade_102B G k94' k102' l0 l1 l2 l3) (X12_findMade_102B G k94 k102 l0 (Int32.ofInt l1) (Int32.ofInt l2) (Int32.ofInt l3)) := by
  unfold Z12_findMade_102B X12_findMade_102B
  exact c_gR (fun t1 => c_aI hG rfl (fun t2 ht2 => c_cnd (kz_le ht2 hl3 rfl rfl) (c_lI (kz_add rfl rfl) (fun t3 ht3 => (hk94 l0 _ hl1 _ ht3))) (c_lI (kz_mul rfl (kz_add (kz_mul rfl rfl) rfl)) (fun t4 ht4 => c_gR (fun t5 => c_gR (fun t6 => c_aI hG (kz_add rfl rfl) (fun t7 ht7 => c_gR (fun t8 => c_gR (fun t9 => c_aI hG (kz_add rfl rfl) (fun t10 ht10 => c_aZ hG rfl (fun t11 ht11 => c_cnd (kz_eq ht11 (by unfold kzI; omega) rfl rfl) (c_gR (fun t12 => c_gR (fun t13 => c_aI hG rfl (fun t14 ht14 => c_aZ hG rfl (fun t15 ht15 => c_cnd (kz_eq ht15 (by unfold kzI; omega) rfl rfl) ((qX12_findMade_188 hG hk94 hk102 l0 hl1 hl2 hl3 t5 ht7)) (c_gR (fun t16 => c_gR (fun t17 => c_aI hG (kz_add rfl rfl) (fun t18 ht18 => c_aZ hG rfl (fun t19 ht19 => c_cnd (kz_eq ht19 (by unfold kzI; omega) rfl rfl) ((qX12_findMade_188 hG hk94 hk102 l0 hl1 hl2 hl3 t5 ht7)) ((qX12_findMade_184 hG hk94 hk102 l0 hl1 hl2 hl3 t5 ht7)))))))))))) ((qX12_findMade_184 hG hk94 hk102 l0 hl1 hl2 hl3 t5 ht7)))))))))))))
def Z12_findMade_102 (G : kdS) (k94 : Nat → Int → Int → kzM → Option (Unit × kzM)) : Nat → Int → Int → Int → kzM → Option (Unit × kzM) := lp (fun _ _ _ _ _ => none) (Z12_findMade_102B G k94) NN
theorem qX12_findMade_102 {G : kdS} (hG : kzG G) {k94' : Nat → Int → Int → kzM → Option (Unit × kzM)} {k94 : Nat → Int32 → Int32 → kdM → Option (Unit × kdM)} (hk94 : ∀ (a0 : Nat) (a1 : Int) (_ : kzI a1) (a2 : Int) (_ : kzI a2), CRu (k94' a0 a1 a2) (k94 a0 (Int32.ofInt a1) (Int32.ofInt a2))) : ∀ (a0 : Nat) (a1 : Int) (_ : kzI a1) (a2 : Int) (_ : kzI a2) (a3 : Int) (_ : kzI a3), CRu (Z12_findMade_102 G k94' a0 a1 a2 a3) (X12_findMade_102 G k94 a0 (Int32.ofInt a1) (Int32.ofInt a2) (Int32.ofInt a3)) :=
  lp_rel (R := fun (f' : Nat → Int → Int → Int → kzM → Option (Unit × kzM)) (f : Nat → Int32 → Int32 → Int32 → kdM → Option (Unit × kdM)) => ∀ (a0 : Nat) (a1 : Int) (_ : kzI a1) (a2 : Int) (_ : kzI a2) (a3 : Int) (_ : kzI a3), CRu (f' a0 a1 a2 a3) (f a0 (Int32.ofInt a1) (Int32.ofInt a2) (Int32.ofInt a3))) (by intros; exact c_no) (fun _ _ hf a0 a1 ha1 a2 ha2 a3 ha3 => qX12_findMade_102B hG hk94 hf a0 ha1 ha2 ha3) NN
def Z12_findMade_94B (G : kdS) (k94 : Nat → Int → Int → kzM → Option (Unit × kzM)) (l0 : Nat) (l1 : Int) (l2 : Int) : kzM → Option (Unit × kzM) :=
  zcnd ((12 : Int) ≤ l2)
  (zrt ())
  (Z12_findMade_102 G k94 l0 l1 l2 (0 : Int))
theorem qX12_findMade_94B {G : kdS} (hG : kzG G) {k94' : Nat → Int → Int → kzM → Option (Unit × kzM)} {k94 : Nat → Int32 → Int32 → kdM → Option (Unit × kdM)} (hk94 : ∀ (a0 : Nat) (a1 : Int) (_ : kzI a1) (a2 : Int) (_ : kzI a2), CRu (k94' a0 a1 a2) (k94 a0 (Int32.ofInt a1) (Int32.ofInt a2))) (l0 : Nat) {l1 : Int} (hl1 : kzI l1) {l2 : Int} (hl2 : kzI l2) : CRu (Z12_findMade_94B G k94' l0 l1 l2) (X12_findMade_94B G k94 l0 (Int32.ofInt l1) (Int32.ofInt l2)) := by
  unfold Z12_findMade_94B X12_findMade_94B
  exact c_cnd (kz_le (by unfold kzI; omega) hl2 rfl rfl) (c_rt trivial rfl) ((qX12_findMade_102 hG hk94 l0 _ hl1 _ hl2 _ (by unfold kzI; omega)))
def Z12_findMade_94 (G : kdS) : Nat → Int → Int → kzM → Option (Unit × kzM) := lp (fun _ _ _ _ => none) (Z12_findMade_94B G) NN
theorem qX12_findMade_94 {G : kdS} (hG : kzG G) : ∀ (a0 : Nat) (a1 : Int) (_ : kzI a1) (a2 : Int) (_ : kzI a2), CRu (Z12_findMade_94 G a0 a1 a2) (X12_findMade_94 G a0 (Int32.ofInt a1) (Int32.ofInt a2)) :=
  lp_rel (R := fun (f' : Nat → Int → Int → kzM → Option (Unit × kzM)) (f : Nat → Int32 → Int32 → kdM → Option (Unit × kdM)) => ∀ (a0 : Nat) (a1 : Int) (_ : kzI a1) (a2 : Int) (_ : kzI a2), CRu (f' a0 a1 a2) (f a0 (Int32.ofInt a1) (Int32.ofInt a2))) (by intros; exact c_no) (fun _ _ hf a0 a1 ha1 a2 ha2 => qX12_findMade_94B hG hf a0 ha1 ha2) NN
def Z12_findMade_23B (G : kdS) (k23 : Nat → Int → Int → kzM → Option (Unit × kzM)) (l0 : Nat) (l1 : Int) (l2 : Int) : kzM → Option (Unit × kzM) :=
  zgR G 12 11 l0 fun t1 =>
  zaI G t1 l1 fun t2 =>
  zcnd (t2 ≤ l2)
  (Z12_findMade_94 G l0 l1 (0 : Int))
  (zlI (((24 : Int) * l1) + l2) fun t3 =>
  Z12_findMade_43 G k23 l0 l1 l2 t3 (0 : Int))
theorem qX12_findMade_23B {G : kdS} (hG : kzG G) {k23' : Nat → Int → Int → kzM → Option (Unit × kzM)} {k23 : Nat → Int32 → Int32 → kdM → Option (Unit × kdM)} (hk23 : ∀ (a0 : Nat) (a1 : Int) (_ : kzI a1) (a2 : Int) (_ : kzI a2), CRu (k23' a0 a1 a2) (k23 a0 (Int32.ofInt a1) (Int32.ofInt a2))) (l0 : Nat) {l1 : Int} (hl1 : kzI l1) {l2 : Int} (hl2 : kzI l2) : CRu (Z12_findMade_23B G k23' l0 l1 l2) (X12_findMade_23B G k23 l0 (Int32.ofInt l1) (Int32.ofInt l2)) := by
  unfold Z12_findMade_23B X12_findMade_23B
  exact c_gR (fun t1 => c_aI hG rfl (fun t2 ht2 => c_cnd (kz_le ht2 hl2 rfl rfl) ((qX12_findMade_94 hG l0 _ hl1 _ (by unfold kzI; omega))) (c_lI (kz_add (kz_mul rfl rfl) rfl) (fun t3 ht3 => (qX12_findMade_43 hG hk23 l0 _ hl1 _ hl2 _ ht3 _ (by unfold kzI; omega))))))
def Z12_findMade_23 (G : kdS) : Nat → Int → Int → kzM → Option (Unit × kzM) := lp (fun _ _ _ _ => none) (Z12_findMade_23B G) NN
theorem qX12_findMade_23 {G : kdS} (hG : kzG G) : ∀ (a0 : Nat) (a1 : Int) (_ : kzI a1) (a2 : Int) (_ : kzI a2), CRu (Z12_findMade_23 G a0 a1 a2) (X12_findMade_23 G a0 (Int32.ofInt a1) (Int32.ofInt a2)) :=
  lp_rel (R := fun (f' : Nat → Int → Int → kzM → Option (Unit × kzM)) (f : Nat → Int32 → Int32 → kdM → Option (Unit × kdM)) => ∀ (a0 : Nat) (a1 : Int) (_ : kzI a1) (a2 : Int) (_ : kzI a2), CRu (f' a0 a1 a2) (f a0 (Int32.ofInt a1) (Int32.ofInt a2))) (by intros; exact c_no) (fun _ _ hf a0 a1 ha1 a2 ha2 => qX12_findMade_23B hG hf a0 ha1 ha2) NN
def Z12_findMade_2B (G : kdS) (k2 : Nat → Int → Int → kzM → Option (Unit × kzM)) (l0 : Nat) (l1 : Int) (l2 : Int) : kzM → Option (Unit × kzM) :=
  zcnd ((61 : Int) ≤ l2)
  (Z12_findMade_23 G l0 l1 (0 : Int))
  (zgR G 12 15 l0 fun t1 =>
  ztZ G t1 l2 (0 : Int) <|
  zlI (l2 + (1 : Int)) fun t2 =>
  k2 l0 l1 t2)
theorem qX12_findMade_2B {G : kdS} (hG : kzG G) {k2' : Nat → Int → Int → kzM → Option (Unit × kzM)} {k2 : Nat → Int32 → Int32 → kdM → Option (Unit × kdM)} (hk2 : ∀ (a0 : Nat) (a1 : Int) (_ : kzI a1) (a2 : Int) (_ : kzI a2), CRu (k2' a0 a1 a2) (k2 a0 (Int32.ofInt a1) (Int32.ofInt a2))) (l0 : Nat) {l1 : Int} (hl1 : kzI l1) {l2 : Int} (hl2 : kzI l2) : CRu (Z12_findMade_2B G k2' l0 l1 l2) (X12_findMade_2B G k2 l0 (Int32.ofInt l1) (Int32.ofInt l2)) := by
  unfold Z12_findMade_2B X12_findMade_2B
  exact c_cnd (kz_le (by unfold kzI; omega) hl2 rfl rfl) ((qX12_findMade_23 hG l0 _ hl1 _ (by unfold kzI; omega))) (c_gR (fun t1 => c_tZ hG rfl rfl (c_lI (kz_add rfl rfl) (fun t2 ht2 => (hk2 l0 _ hl1 _ ht2)))))
def Z12_findMade_2 (G : kdS) : Nat → Int → Int → kzM → Option (Unit × kzM) := lp (fun _ _ _ _ => none) (Z12_findMade_2B G) NN
theorem qX12_findMade_2 {G : kdS} (hG : kzG G) : ∀ (a0 : Nat) (a1 : Int) (_ : kzI a1) (a2 : Int) (_ : kzI a2), CRu (Z12_findMade_2 G a0 a1 a2) (X12_findMade_2 G a0 (Int32.ofInt a1) (Int32.ofInt a2)) :=
  lp_rel (R := fun (f' : Nat → Int → Int → kzM → Option (Unit × kzM)) (f : Nat → Int32 → Int32 → kdM → Option (Unit × kdM)) => ∀ (a0 : Nat) (a1 : Int) (_ : kzI a1) (a2 : Int) (_ : kzI a2), CRu (f' a0 a1 a2) (f a0 (Int32.ofInt a1) (Int32.ofInt a2))) (by intros; exact c_no) (fun _ _ hf a0 a1 ha1 a2 ha2 => qX12_findMade_2B hG hf a0 ha1 ha2) NN
def Z12_findMade (G : kdS) (l0 : Nat) (l1 : Int) : kzM → Option (Unit × kzM) :=
  Z12_findMade_2 G l0 l1 (0 : Int)
theorem qX12_findMade {G : kdS} (hG : kzG G) (l0 : Nat) {l1 : Int} (hl1 : kzI l1) : CRu (Z12_findMade G l0 l1) (X12_findMade G l0 (Int32.ofInt l1)) := by
  unfold Z12_findMade X12_findMade
  exact (qX12_findMade_2 hG l0 _ hl1 _ (by unfold kzI; omega))
def Z12_missing_62 (G : kdS) (k19 : Nat → Int → Int → Int → Int → kzM → Option (Int × kzM)) (l0 : Nat) (l1 : Int) (l2 : Int) (l3 : Int) (l4 : Int) : kzM → Option (Int × kzM) :=
  zlI (l4 + (1 : Int)) fun t1 =>
  k19 l0 l1 l2 l3 t1
theorem qX12_missing_62 {G : kdS} (hG : kzG G) {k19' : Nat → Int → Int → Int → Int → kzM → Option (Int × kzM)} {k19 : Nat → Int32 → Int32 → Int32 → Int32 → kdM → Option (Int32 × kdM)} (hk19 : ∀ (a0 : Nat) (a1 : Int) (_ : kzI a1) (a2 : Int) (_ : kzI a2) (a3 : Int) (_ : kzI a3) (a4 : Int) (_ : kzI a4), CRi (k19' a0 a1 a2 a3 a4) (k19 a0 (Int32.ofInt a1) (Int32.ofInt a2) (Int32.ofInt a3) (Int32.ofInt a4))) (l0 : Nat) {l1 : Int} (hl1 : kzI l1) {l2 : Int} (hl2 : kzI l2) {l3 : Int} (hl3 : kzI l3) {l4 : Int} (hl4 : kzI l4) : CRi (Z12_missing_62 G k19' l0 l1 l2 l3 l4) (X12_missing_62 G k19 l0 (Int32.ofInt l1) (Int32.ofInt l2) (Int32.ofInt l3) (Int32.ofInt l4)) := by
  unfold Z12_missing_62 X12_missing_62
  exact c_lI (kz_add rfl rfl) (fun t1 ht1 => (hk19 l0 _ hl1 _ hl2 _ hl3 _ ht1))
def Z12_missing_79 (G : kdS) (s0 : Int) : kzM → Option (Int × kzM) :=
  zrt s0
theorem qX12_missing_79 {G : kdS} (hG : kzG G) {s0 : Int} (hs0 : kzI s0) : CRi (Z12_missing_79 G s0) (X12_missing_79 G (Int32.ofInt s0)) := by
  unfold Z12_missing_79 X12_missing_79
  exact c_rt hs0 rfl
def Z12_missing_19B (G : kdS) (k19 : Nat → Int → Int → Int → Int → kzM → Option (Int × kzM)) (l0 : Nat) (l1 : Int) (l2 : Int) (l3 : Int) (l4 : Int) : kzM → Option (Int × kzM) :=
  zcnd ((60 : Int) < l4)
  (zcnd (l2 = (-1 : Int))
  (Z12_missing_79 G l3)
  (Z12_missing_79 G (-6 : Int)))
  (zgR G 12 14 l0 fun t1 =>
  zaZ G t1 (((61 : Int) * l1) + l4) fun t2 =>
  zcnd (t2 = (0 : Int))
  (Z12_missing_62 G k19 l0 l1 l2 l3 l4)
  (zgR G 12 15 l0 fun t3 =>
  zaZ G t3 l4 fun t4 =>
  zcnd (t4 = (0 : Int))
  (zcnd (l3 = l2)
  (zrt l4)
  (zlI (l3 + (1 : Int)) fun t5 =>
  Z12_missing_62 G k19 l0 l1 l2 t5 l4))
  (Z12_missing_62 G k19 l0 l1 l2 l3 l4)))
theorem qX12_missing_19B {G : kdS} (hG : kzG G) {k19' : Nat → Int → Int → Int → Int → kzM → Option (Int × kzM)} {k19 : Nat → Int32 → Int32 → Int32 → Int32 → kdM → Option (Int32 × kdM)} (hk19 : ∀ (a0 : Nat) (a1 : Int) (_ : kzI a1) (a2 : Int) (_ : kzI a2) (a3 : Int) (_ : kzI a3) (a4 : Int) (_ : kzI a4), CRi (k19' a0 a1 a2 a3 a4) (k19 a0 (Int32.ofInt a1) (Int32.ofInt a2) (Int32.ofInt a3) (Int32.ofInt a4))) (l0 : Nat) {l1 : Int} (hl1 : kzI l1) {l2 : Int} (hl2 : kzI l2) {l3 : Int} (hl3 : kzI l3) {l4 : Int} (hl4 : kzI l4) : CRi (Z12_missing_19B G k19' l0 l1 l2 l3 l4) (X12_missing_19B G k19 l0 (Int32.ofInt l1) (Int32.ofInt l2) (Int32.ofInt l3) (Int32.ofInt l4)) := by
  unfold Z12_missing_19B X12_missing_19B
  exact c_cnd (kz_lt (by unfold kzI; omega) hl4 rfl rfl) (c_cnd (kz_eq hl2 (by unfold kzI; omega) rfl rfl) ((qX12_missing_79 hG hl3)) ((qX12_missing_79 hG (by unfold kzI; omega)))) (c_gR (fun t1 => c_aZ hG (kz_add (kz_mul rfl rfl) rfl) (fun t2 ht2 => c_cnd (kz_eq ht2 (by unfold kzI; omega) rfl rfl) ((qX12_missing_62 hG hk19 l0 hl1 hl2 hl3 hl4)) (c_gR (fun t3 => c_aZ hG rfl (fun t4 ht4 => c_cnd (kz_eq ht4 (by unfold kzI; omega) rfl rfl) (c_cnd (kz_eq hl3 hl2 rfl rfl) (c_rt hl4 rfl) (c_lI (kz_add rfl rfl) (fun t5 ht5 => (qX12_missing_62 hG hk19 l0 hl1 hl2 ht5 hl4)))) ((qX12_missing_62 hG hk19 l0 hl1 hl2 hl3 hl4))))))))
def Z12_missing_19 (G : kdS) : Nat → Int → Int → Int → Int → kzM → Option (Int × kzM) := lp (fun _ _ _ _ _ _ => none) (Z12_missing_19B G) NN
theorem qX12_missing_19 {G : kdS} (hG : kzG G) : ∀ (a0 : Nat) (a1 : Int) (_ : kzI a1) (a2 : Int) (_ : kzI a2) (a3 : Int) (_ : kzI a3) (a4 : Int) (_ : kzI a4), CRi (Z12_missing_19 G a0 a1 a2 a3 a4) (X12_missing_19 G a0 (Int32.ofInt a1) (Int32.ofInt a2) (Int32.ofInt a3) (Int32.ofInt a4)) :=
  lp_rel (R := fun (f' : Nat → Int → Int → Int → Int → kzM → Option (Int × kzM)) (f : Nat → Int32 → Int32 → Int32 → Int32 → kdM → Option (Int32 × kdM)) => ∀ (a0 : Nat) (a1 : Int) (_ : kzI a1) (a2 : Int) (_ : kzI a2) (a3 : Int) (_ : kzI a3) (a4 : Int) (_ : kzI a4), CRi (f' a0 a1 a2 a3 a4) (f a0 (Int32.ofInt a1) (Int32.ofInt a2) (Int32.ofInt a3) (Int32.ofInt a4))) (by intros; exact c_no) (fun _ _ hf a0 a1 ha1 a2 ha2 a3 ha3 a4 ha4 => qX12_missing_19B hG hf a0 ha1 ha2 ha3 ha4) NN
def Z12_missing (G : kdS) (l0 : Nat) (l1 : Int) (l2 : Int) : kzM → Option (Int × kzM) :=
  zcl (Z12_isTongue G l1) fun t1 =>
  zcnd (t1 = (0 : Int))
  (zrt (-1 : Int))
  (zcv G 12 l0 (Z12_findMade G l0 l1) fun _ =>
  Z12_missing_19 G l0 l1 l2 (0 : Int) (1 : Int))
theorem qX12_missing {G : kdS} (hG : kzG G) (l0 : Nat) {l1 : Int} (hl1 : kzI l1) {l2 : Int} (hl2 : kzI l2) : CRi (Z12_missing G l0 l1 l2) (X12_missing G l0 (Int32.ofInt l1) (Int32.ofInt l2)) := by
  unfold Z12_missing X12_missing
  exact c_cl (qX12_isTongue hG hl1) (fun t1 ht1 => c_cnd (kz_eq ht1 (by unfold kzI; omega) rfl rfl) (c_rt (by unfold kzI; omega) rfl) (c_cv (qX12_findMade hG l0 hl1) (fun _ _ => (qX12_missing_19 hG l0 _ hl1 _ hl2 _ (by unfold kzI; omega) _ (by unfold kzI; omega)))))
def Z12_speak (G : kdS) (l0 : Nat) (l1 : Int) : kzM → Option (Int × kzM) :=
  zcl (Z12_isTongue G l1) fun t1 =>
  zcnd (t1 = (0 : Int))
  (zrt (-1 : Int))
  (zgI G 12 18 l0 fun t2 =>
  zsI G 12 18 l0 l1 <|
  zrt t2)
theorem qX12_speak {G : kdS} (hG : kzG G) (l0 : Nat) {l1 : Int} (hl1 : kzI l1) : CRi (Z12_speak G l0 l1) (X12_speak G l0 (Int32.ofInt l1)) := by
  unfold Z12_speak X12_speak
  exact c_cl (qX12_isTongue hG hl1) (fun t1 ht1 => c_cnd (kz_eq ht1 (by unfold kzI; omega) rfl rfl) (c_rt (by unfold kzI; omega) rfl) (c_gI rfl (fun t2 ht2 => c_sI rfl hl1 rfl (c_rt ht2 rfl))))
def Z12_isKey (G : kdS) (l0 : Int) : kzM → Option (Int × kzM) :=
  zcl (Z12_in G l0 (0 : Int) (11 : Int)) fun t1 =>
  zrt (zB t1)
theorem qX12_isKey {G : kdS} (hG : kzG G) {l0 : Int} (hl0 : kzI l0) : CRi (Z12_isKey G l0) (X12_isKey G (Int32.ofInt l0)) := by
  unfold Z12_isKey X12_isKey
  exact c_cl ((kz_i2l hl0 rfl) ▸ (qX12_in hG (kzI_L hl0) (show kzL (0 : Int) by unfold kzL; omega) (show kzL (11 : Int) by unfold kzL; omega))) (fun t1 ht1 => c_rt (kz_BI _) (kz_B rfl))
def Z12_strike_21 (G : kdS) : kzM → Option (Int × kzM) :=
  zrt (-2 : Int)
theorem qX12_strike_21 {G : kdS} (hG : kzG G) : CRi (Z12_strike_21 G) (X12_strike_21 G) := by
  unfold Z12_strike_21 X12_strike_21
  exact c_rt (by unfold kzI; omega) rfl
def Z12_strike_41B (G : kdS) (k41 : Nat → Int → Int → Int → kzM → Option (Int × kzM)) (l0 : Nat) (l1 : Int) (l2 : Int) (l3 : Int) : kzM → Option (Int × kzM) :=
  zcnd (l3 ≤ l1)
  (zgR G 12 16 l0 fun t1 =>
  ztI G t1 l1 l2 <|
  zgI G 12 17 l0 fun t2 =>
  zlI (t2 + (1 : Int)) fun u1 =>
  zsI G 12 17 l0 u1 <|
  zgI G 12 17 l0 fun t3 =>
  zrt t3)
  (zgR G 12 16 l0 fun t4 =>
  zgR G 12 16 l0 fun t5 =>
  zaI G t5 (l3 - (1 : Int)) fun t6 =>
  ztI G t4 l3 t6 <|
  zlI (l3 + (-1 : Int)) fun t7 =>
  k41 l0 l1 l2 t7)
theorem qX12_strike_41B {G : kdS} (hG : kzG G) {k41' : Nat → Int → Int → Int → kzM → Option (Int × kzM)} {k41 : Nat → Int32 → Int32 → Int32 → kdM → Option (Int32 × kdM)} (hk41 : ∀ (a0 : Nat) (a1 : Int) (_ : kzI a1) (a2 : Int) (_ : kzI a2) (a3 : Int) (_ : kzI a3), CRi (k41' a0 a1 a2 a3) (k41 a0 (Int32.ofInt a1) (Int32.ofInt a2) (Int32.ofInt a3))) (l0 : Nat) {l1 : Int} (hl1 : kzI l1) {l2 : Int} (hl2 : kzI l2) {l3 : Int} (hl3 : kzI l3) : CRi (Z12_strike_41B G k41' l0 l1 l2 l3) (X12_strike_41B G k41 l0 (Int32.ofInt l1) (Int32.ofInt l2) (Int32.ofInt l3)) := by
  unfold Z12_strike_41B X12_strike_41B
  exact c_cnd (kz_le hl3 hl1 rfl rfl) (c_gR (fun t1 => c_tI hG rfl hl2 rfl (c_gI rfl (fun t2 ht2 => c_rg (kz_add rfl rfl) fun u1 r1 e1 => c_sI rfl r1 e1 (c_gI rfl (fun t3 ht3 => c_rt ht3 rfl)))))) (c_gR (fun t4 => c_gR (fun t5 => c_aI hG (kz_sub rfl rfl) (fun t6 ht6 => c_tI hG rfl ht6 rfl (c_lI (kz_add rfl rfl) (fun t7 ht7 => (hk41 l0 _ hl1 _ hl2 _ ht7)))))))
def Z12_strike_41 (G : kdS) : Nat → Int → Int → Int → kzM → Option (Int × kzM) := lp (fun _ _ _ _ _ => none) (Z12_strike_41B G) NN
theorem qX12_strike_41 {G : kdS} (hG : kzG G) : ∀ (a0 : Nat) (a1 : Int) (_ : kzI a1) (a2 : Int) (_ : kzI a2) (a3 : Int) (_ : kzI a3), CRi (Z12_strike_41 G a0 a1 a2 a3) (X12_strike_41 G a0 (Int32.ofInt a1) (Int32.ofInt a2) (Int32.ofInt a3)) :=
  lp_rel (R := fun (f' : Nat → Int → Int → Int → kzM → Option (Int × kzM)) (f : Nat → Int32 → Int32 → Int32 → kdM → Option (Int32 × kdM)) => ∀ (a0 : Nat) (a1 : Int) (_ : kzI a1) (a2 : Int) (_ : kzI a2) (a3 : Int) (_ : kzI a3), CRi (f' a0 a1 a2 a3) (f a0 (Int32.ofInt a1) (Int32.ofInt a2) (Int32.ofInt a3))) (by intros; exact c_no) (fun _ _ hf a0 a1 ha1 a2 ha2 a3 ha3 => qX12_strike_41B hG hf a0 ha1 ha2 ha3) NN
def Z12_strike (G : kdS) (l0 : Nat) (l1 : Int) (l2 : Int) : kzM → Option (Int × kzM) :=
  zgI G 12 17 l0 fun t1 =>
  zcl (Z12_in G l1 (0 : Int) t1) fun t2 =>
  zcnd (t2 = (0 : Int))
  (Z12_strike_21 G)
  (zcl (Z12_isKey G l2) fun t3 =>
  zcnd (t3 = (0 : Int))
  (Z12_strike_21 G)
  (zgI G 12 17 l0 fun t4 =>
  zcnd (t4 = (40 : Int))
  (zrt (-4 : Int))
  (zgI G 12 17 l0 fun t5 =>
  Z12_strike_41 G l0 l1 l2 t5)))
theorem qX12_strike {G : kdS} (hG : kzG G) (l0 : Nat) {l1 : Int} (hl1 : kzI l1) {l2 : Int} (hl2 : kzI l2) : CRi (Z12_strike G l0 l1 l2) (X12_strike G l0 (Int32.ofInt l1) (Int32.ofInt l2)) := by
  unfold Z12_strike X12_strike
  exact c_gI rfl (fun t1 ht1 => c_cl ((kz_i2l ht1 rfl) ▸ ((kz_i2l hl1 rfl) ▸ (qX12_in hG (kzI_L hl1) (show kzL (0 : Int) by unfold kzL; omega) (kzI_L ht1)))) (fun t2 ht2 => c_cnd (kz_eq ht2 (by unfold kzI; omega) rfl rfl) ((qX12_strike_21 hG)) (c_cl (qX12_isKey hG hl2) (fun t3 ht3 => c_cnd (kz_eq ht3 (by unfold kzI; omega) rfl rfl) ((qX12_strike_21 hG)) (c_gI rfl (fun t4 ht4 => c_cnd (kz_eq ht4 (by unfold kzI; omega) rfl rfl) (c_rt (by unfold kzI; omega) rfl) (c_gI rfl (fun t5 ht5 => (qX12_strike_41 hG l0 _ hl1 _ hl2 _ ht5)))))))))
def Z12_change_23 (G : kdS) : kzM → Option (Int × kzM) :=
  zrt (-2 : Int)
theorem qX12_change_23 {G : kdS} (hG : kzG G) : CRi (Z12_change_23 G) (X12_change_23 G) := by
  unfold Z12_change_23 X12_change_23
  exact c_rt (by unfold kzI; omega) rfl
def Z12_change (G : kdS) (l0 : Nat) (l1 : Int) (l2 : Int) : kzM → Option (Int × kzM) :=
  zgI G 12 17 l0 fun t1 =>
  zlI (t1 - (1 : Int)) fun u1 =>
  zcl (Z12_in G l1 (0 : Int) u1) fun t2 =>
  zcnd (t2 = (0 : Int))
  (Z12_change_23 G)
  (zcl (Z12_isKey G l2) fun t3 =>
  zcnd (t3 = (0 : Int))
  (Z12_change_23 G)
  (zgR G 12 16 l0 fun t4 =>
  zaI G t4 l1 fun t5 =>
  zgR G 12 16 l0 fun t6 =>
  ztI G t6 l1 l2 <|
  zrt t5))
theorem qX12_change {G : kdS} (hG : kzG G) (l0 : Nat) {l1 : Int} (hl1 : kzI l1) {l2 : Int} (hl2 : kzI l2) : CRi (Z12_change G l0 l1 l2) (X12_change G l0 (Int32.ofInt l1) (Int32.ofInt l2)) := by
  unfold Z12_change X12_change
  exact c_gI rfl (fun t1 ht1 => c_rg (kz_sub rfl rfl) fun u1 r1 e1 => c_cl ((kz_i2l r1 e1) ▸ ((kz_i2l hl1 rfl) ▸ (qX12_in hG (kzI_L hl1) (show kzL (0 : Int) by unfold kzL; omega) (kzI_L r1)))) (fun t2 ht2 => c_cnd (kz_eq ht2 (by unfold kzI; omega) rfl rfl) ((qX12_change_23 hG)) (c_cl (qX12_isKey hG hl2) (fun t3 ht3 => c_cnd (kz_eq ht3 (by unfold kzI; omega) rfl rfl) ((qX12_change_23 hG)) (c_gR (fun t4 => c_aI hG rfl (fun t5 ht5 => c_gR (fun t6 => c_tI hG rfl hl2 rfl (c_rt ht5 rfl)))))))))
def Z12_back_28B (G : kdS) (k28 : Nat → Int → Int → kzM → Option (Int × kzM)) (l0 : Nat) (l2 : Int) (l3 : Int) : kzM → Option (Int × kzM) :=
  zgI G 12 17 l0 fun t1 =>
  zlI (l3 + (1 : Int)) fun u2 =>
  zcnd (t1 ≤ u2)
  (zgI G 12 17 l0 fun t2 =>
  zlI (t2 - (1 : Int)) fun u1 =>
  zsI G 12 17 l0 u1 <|
  zrt l2)
  (zgR G 12 16 l0 fun t3 =>
  zgR G 12 16 l0 fun t4 =>
  zaI G t4 (l3 + (1 : Int)) fun t5 =>
  ztI G t3 l3 t5 <|
  zlI (l3 + (1 : Int)) fun t6 =>
  k28 l0 l2 t6)
theorem qX12_back_28B {G : kdS} (hG : kzG G) {k28' : Nat → Int → Int → kzM → Option (Int × kzM)} {k28 : Nat → Int32 → Int32 → kdM → Option (Int32 × kdM)} (hk28 : ∀ (a0 : Nat) (a1 : Int) (_ : kzI a1) (a2 : Int) (_ : kzI a2), CRi (k28' a0 a1 a2) (k28 a0 (Int32.ofInt a1) (Int32.ofInt a2))) (l0 : Nat) {l2 : Int} (hl2 : kzI l2) {l3 : Int} (hl3 : kzI l3) : CRi (Z12_back_28B G k28' l0 l2 l3) (X12_back_28B G k28 l0 (Int32.ofInt l2) (Int32.ofInt l3)) := by
  unfold Z12_back_28B X12_back_28B
  exact c_gI rfl (fun t1 ht1 => c_rg (kz_add rfl rfl) fun u2 r2 e2 => c_cnd (kz_le ht1 r2 rfl e2) (c_gI rfl (fun t2 ht2 => c_rg (kz_sub rfl rfl) fun u1 r1 e1 => c_sI rfl r1 e1 (c_rt hl2 rfl))) (c_gR (fun t3 => c_gR (fun t4 => c_aI hG (kz_add rfl rfl) (fun t5 ht5 => c_tI hG rfl ht5 rfl (c_lI (kz_add rfl rfl) (fun t6 ht6 => (hk28 l0 _ hl2 _ ht6))))))))
def Z12_back_28 (G : kdS) : Nat → Int → Int → kzM → Option (Int × kzM) := lp (fun _ _ _ _ => none) (Z12_back_28B G) NN
theorem qX12_back_28 {G : kdS} (hG : kzG G) : ∀ (a0 : Nat) (a1 : Int) (_ : kzI a1) (a2 : Int) (_ : kzI a2), CRi (Z12_back_28 G a0 a1 a2) (X12_back_28 G a0 (Int32.ofInt a1) (Int32.ofInt a2)) :=
  lp_rel (R := fun (f' : Nat → Int → Int → kzM → Option (Int × kzM)) (f : Nat → Int32 → Int32 → kdM → Option (Int32 × kdM)) => ∀ (a0 : Nat) (a1 : Int) (_ : kzI a1) (a2 : Int) (_ : kzI a2), CRi (f' a0 a1 a2) (f a0 (Int32.ofInt a1) (Int32.ofInt a2))) (by intros; exact c_no) (fun _ _ hf a0 a1 ha1 a2 ha2 => qX12_back_28B hG hf a0 ha1 ha2) NN
def Z12_back (G : kdS) (l0 : Nat) (l1 : Int) : kzM → Option (Int × kzM) :=
  zgI G 12 17 l0 fun t1 =>
  zlI (t1 - (1 : Int)) fun u1 =>
  zcl (Z12_in G l1 (0 : Int) u1) fun t2 =>
  zcnd (t2 = (0 : Int))
  (zrt (-2 : Int))
  (zgR G 12 16 l0 fun t3 =>
  zaI G t3 l1 fun t4 =>
  Z12_back_28 G l0 t4 l1)
theorem qX12_back {G : kdS} (hG : kzG G) (l0 : Nat) {l1 : Int} (hl1 : kzI l1) : CRi (Z12_back G l0 l1) (X12_back G l0 (Int32.ofInt l1)) := by
  unfold Z12_back X12_back
  exact c_gI rfl (fun t1 ht1 => c_rg (kz_sub rfl rfl) fun u1 r1 e1 => c_cl ((kz_i2l r1 e1) ▸ ((kz_i2l hl1 rfl) ▸ (qX12_in hG (kzI_L hl1) (show kzL (0 : Int) by unfold kzL; omega) (kzI_L r1)))) (fun t2 ht2 => c_cnd (kz_eq ht2 (by unfold kzI; omega) rfl rfl) (c_rt (by unfold kzI; omega) rfl) (c_gR (fun t3 => c_aI hG rfl (fun t4 ht4 => (qX12_back_28 hG l0 _ ht4 _ hl1))))))
def Z12_ruleAt_140 (G : kdS) (k7 : Nat → Int → Int → Int → Int → kzM → Option (Int × kzM)) (l0 : Nat) (l1 : Int) (l2 : Int) (l3 : Int) (l4 : Int) : kzM → Option (Int × kzM) :=
  zlI (l4 + (1 : Int)) fun t1 =>
  k7 l0 l1 l2 l3 t1
theorem qX12_ruleAt_140 {G : kdS} (hG : kzG G) {k7' : Nat → Int → Int → Int → Int → kzM → Option (Int × kzM)} {k7 : Nat → Int32 → Int32 → Int32 → Int32 → kdM → Option (Int32 × kdM)} (hk7 : ∀ (a0 : Nat) (a1 : Int) (_ : kzI a1) (a2 : Int) (_ : kzI a2) (a3 : Int) (_ : kzI a3) (a4 : Int) (_ : kzI a4), CRi (k7' a0 a1 a2 a3 a4) (k7 a0 (Int32.ofInt a1) (Int32.ofInt a2) (Int32.ofInt a3) (Int32.ofInt a4))) (l0 : Nat) {l1 : Int} (hl1 : kzI l1) {l2 : Int} (hl2 : kzI l2) {l3 : Int} (hl3 : kzI l3) {l4 : Int} (hl4 : kzI l4) : CRi (Z12_ruleAt_140 G k7' l0 l1 l2 l3 l4) (X12_ruleAt_140 G k7 l0 (Int32.ofInt l1) (Int32.ofInt l2) (Int32.ofInt l3) (Int32.ofInt l4)) := by
  unfold Z12_ruleAt_140 X12_ruleAt_140
  exact c_lI (kz_add rfl rfl) (fun t1 ht1 => (hk7 l0 _ hl1 _ hl2 _ hl3 _ ht1))
def Z12_ruleAt_113 (G : kdS) (k7 : Nat → Int → Int → Int → Int → kzM → Option (Int × kzM)) (l0 : Nat) (l1 : Int) (l2 : Int) (l3 : Int) (l4 : Int) (l5 : Int) (l6 : Int) : kzM → Option (Int × kzM) :=
  zcnd (l6 = (0 : Int))
  (Z12_ruleAt_140 G k7 l0 l1 l2 l3 l4)
  (zgR G 12 8 l0 fun t1 =>
  zaI G t1 l5 fun t2 =>
  zcnd (t2 ≤ l3)
  (Z12_ruleAt_140 G k7 l0 l1 l2 l3 l4)
  (zgR G 12 8 l0 fun t3 =>
  zaI G t3 l5 fun t4 =>
  Z12_ruleAt_140 G k7 l0 l1 l4 t4 l4))
theorem qX12_ruleAt_113 {G : kdS} (hG : kzG G) {k7' : Nat → Int → Int → Int → Int → kzM → Option (Int × kzM)} {k7 : Nat → Int32 → Int32 → Int32 → Int32 → kdM → Option (Int32 × kdM)} (hk7 : ∀ (a0 : Nat) (a1 : Int) (_ : kzI a1) (a2 : Int) (_ : kzI a2) (a3 : Int) (_ : kzI a3) (a4 : Int) (_ : kzI a4), CRi (k7' a0 a1 a2 a3 a4) (k7 a0 (Int32.ofInt a1) (Int32.ofInt a2) (Int32.ofInt a3) (Int32.ofInt a4))) (l0 : Nat) {l1 : Int} (hl1 : kzI l1) {l2 : Int} (hl2 : kzI l2) {l3 : Int} (hl3 : kzI l3) {l4 : Int} (hl4 : kzI l4) {l5 : Int} (hl5 : kzI l5) {l6 : Int} (hl6 : kzI l6) : CRi (Z12_ruleAt_113 G k7' l0 l1 l2 l3 l4 l5 l6) (X12_ruleAt_113 G k7 l0 (Int32.ofInt l1) (Int32.ofInt l2) (Int32.ofInt l3) (Int32.ofInt l4) (Int32.ofInt l5) (Int32.ofInt l6)) := by
  unfold Z12_ruleAt_113 X12_ruleAt_113
  exact c_cnd (kz_eq hl6 (by unfold kzI; omega) rfl rfl) ((qX12_ruleAt_140 hG hk7 l0 hl1 hl2 hl3 hl4)) (c_gR (fun t1 => c_aI hG rfl (fun t2 ht2 => c_cnd (kz_le ht2 hl3 rfl rfl) ((qX12_ruleAt_140 hG hk7 l0 hl1 hl2 hl3 hl4)) (c_gR (fun t3 => c_aI hG rfl (fun t4 ht4 => (qX12_ruleAt_140 hG hk7 l0 hl1 hl4 ht4 hl4)))))))
def Z12_ruleAt_105 (G : kdS) (k7 : Nat → Int → Int → Int → Int → kzM → Option (Int × kzM)) (k59 : Nat → Int → Int → Int → Int → Int → Int → Int → kzM → Option (Int × kzM)) (l0 : Nat) (l1 : Int) (l2 : Int) (l3 : Int) (l4 : Int) (l5 : Int) (l7 : Int) (s0 : Int) : kzM → Option (Int × kzM) :=
  zlI (l7 + (1 : Int)) fun t1 =>
  k59 l0 l1 l2 l3 l4 l5 s0 t1
theorem qX12_ruleAt_105 {G : kdS} (hG : kzG G) {k7' : Nat → Int → Int → Int → Int → kzM → Option (Int × kzM)} {k7 : Nat → Int32 → Int32 → Int32 → Int32 → kdM → Option (Int32 × kdM)} (hk7 : ∀ (a0 : Nat) (a1 : Int) (_ : kzI a1) (a2 : Int) (_ : kzI a2) (a3 : Int) (_ : kzI a3) (a4 : Int) (_ : kzI a4), CRi (k7' a0 a1 a2 a3 a4) (k7 a0 (Int32.ofInt a1) (Int32.ofInt a2) (Int32.ofInt a3) (Int32.ofInt a4))) {k59' : Nat → Int → Int → Int → Int → Int → Int → Int → kzM → Option (Int × kzM)} {k59 : Nat → Int32 → Int32 → Int32 → Int32 → Int32 → Int32 → Int32 → kdM → Option (Int32 × kdM)} (hk59 : ∀ (a0 : Nat) (a1 : Int) (_ : kzI a1) (a2 : Int) (_ : kzI a2) (a3 : Int) (_ : kzI a3) (a4 : Int) (_ : kzI a4) (a5 : Int) (_ : kzI a5) (a6 : Int) (_ : kzI a6) (a7 : Int) (_ : kzI a7), CRi (k59' a0 a1 a2 a3 a4 a5 a6 a7) (k59 a0 (Int32.ofInt a1) (Int32.ofInt a2) (Int32.ofInt a3) (Int32.ofInt a4) (Int32.ofInt a5) (Int32.ofInt a6) (Int32.ofInt a7))) (l0 : Nat) {l1 : Int} (hl1 : kzI l1) {l2 : Int} (hl2 : kzI l2) {l3 : Int} (hl3 : kzI l3) {l4 : Int} (hl4 : kzI l4) {l5 : Int} (hl5 : kzI l5) {l7 : Int} (hl7 : kzI l7) {s0 : Int} (hs0 : kzI s0) : CRi (Z12_ruleAt_105 G k7' k59' l0 l1 l2 l3 l4 l5 l7 s0) (X12_ruleAt_105 G k7 k59 l0 (Int32.ofInt l1) (Int32.ofInt l2) (Int32.ofInt l3) (Int32.ofInt l4) (Int32.ofInt l5) (Int32.ofInt l7) (Int32.ofInt s0)) := by
  unfold Z12_ruleAt_105 X12_ruleAt_105
  exact c_lI (kz_add rfl rfl) (fun t1 ht1 => (hk59 l0 _ hl1 _ hl2 _ hl3 _ hl4 _ hl5 _ hs0 _ ht1))
def Z12_ruleAt_59B (G : kdS) (k7 : Nat → Int → Int → Int → Int → kzM → Option (Int × kzM)) (k59 : Nat → Int → Int → Int → Int → Int → Int → Int → kzM → Option (Int × kzM)) (l0 : Nat) (l1 : Int) (l2 : Int) (l3 : Int) (l4 : Int) (l5 : Int) (l6 : Int) (l7 : Int) : kzM → Option (Int × kzM) :=
  zgR G 12 8 l0 fun t1 =>
  zaI G t1 l5 fun t2 =>
  zcnd (t2 ≤ l7)
  (Z12_ruleAt_113 G k7 l0 l1 l2 l3 l4 l5 l6)
  (zcnd (l6 = (0 : Int))
  (Z12_ruleAt_113 G k7 l0 l1 l2 l3 l4 l5 l6)
  (zgR G 12 7 l0 fun t3 =>
  zaI G t3 (((4 : Int) * l5) + l7) fun t4 =>
  zgR G 12 16 l0 fun t5 =>
  zaI G t5 (l1 + l7) fun t6 =>
  zcnd (t4 = t6)
  (Z12_ruleAt_105 G k7 k59 l0 l1 l2 l3 l4 l5 l7 (1 : Int))
  (Z12_ruleAt_105 G k7 k59 l0 l1 l2 l3 l4 l5 l7 (0 : Int))))
theorem qX12_ruleAt_59B {G : kdS} (hG : kzG G) {k7' : Nat → Int → Int → Int → Int → kzM → Option (Int × kzM)} {k7 : Nat → Int32 → Int32 → Int32 → Int32 → kdM → Option (Int32 × kdM)} (hk7 : ∀ (a0 : Nat) (a1 : Int) (_ : kzI a1) (a2 : Int) (_ : kzI a2) (a3 : Int) (_ : kzI a3) (a4 : Int) (_ : kzI a4), CRi (k7' a0 a1 a2 a3 a4) (k7 a0 (Int32.ofInt a1) (Int32.ofInt a2) (Int32.ofInt a3) (Int32.ofInt a4))) {k59' : Nat → Int → Int → Int → Int → Int → Int → Int → kzM → Option (Int × kzM)} {k59 : Nat → Int32 → Int32 → Int32 → Int32 → Int32 → Int32 → Int32 → kdM → Option (Int32 × kdM)} (hk59 : ∀ (a0 : Nat) (a1 : Int) (_ : kzI a1) (a2 : Int) (_ : kzI a2) (a3 : Int) (_ : kzI a3) (a4 : Int) (_ : kzI a4) (a5 : Int) (_ : kzI a5) (a6 : Int) (_ : kzI a6) (a7 : Int) (_ : kzI a7), CRi (k59' a0 a1 a2 a3 a4 a5 a6 a7) (k59 a0 (Int32.ofInt a1) (Int32.ofInt a2) (Int32.ofInt a3) (Int32.ofInt a4) (Int32.ofInt a5) (Int32.ofInt a6) (Int32.ofInt a7))) (l0 : Nat) {l1 : Int} (hl1 : kzI l1) {l2 : Int} (hl2 : kzI l2) {l3 : Int} (hl3 : kzI l3) {l4 : Int} (hl4 : kzI l4) {l5 : Int} (hl5 : kzI l5) {l6 : Int} (hl6 : kzI l6) {l7 : Int} (hl7 : kzI l7) : CRi (Z12_ruleAt_59B G k7' k59' l0 l1 l2 l3 l4 l5 l6 l7) (X12_ruleAt_59B G k7 k59 l0 (Int32.ofInt l1) (Int32.ofInt l2) (Int32.ofInt l3) (Int32.ofInt l4) (Int32.ofInt l5) (Int32.ofInt l6) (Int32.ofInt l7)) := by
  unfold Z12_ruleAt_59B X12_ruleAt_59B
  exact c_gR (fun t1 => c_aI hG rfl (fun t2 ht2 => c_cnd (kz_le ht2 hl7 rfl rfl) ((qX12_ruleAt_113 hG hk7 l0 hl1 hl2 hl3 hl4 hl5 hl6)) (c_cnd (kz_eq hl6 (by unfold kzI; omega) rfl rfl) ((qX12_ruleAt_113 hG hk7 l0 hl1 hl2 hl3 hl4 hl5 hl6)) (c_gR (fun t3 => c_aI hG (kz_add (kz_mul rfl rfl) rfl) (fun t4 ht4 => c_gR (fun t5 => c_aI hG (kz_add rfl rfl) (fun t6 ht6 => c_cnd (kz_eq ht4 ht6 rfl rfl) ((qX12_ruleAt_105 hG hk7 hk59 l0 hl1 hl2 hl3 hl4 hl5 hl7 (by unfold kzI; omega))) ((qX12_ruleAt_105 hG hk7 hk59 l0 hl1 hl2 hl3 hl4 hl5 hl7 (by unfold kzI; omega)))))))))))
def Z12_ruleAt_59 (G : kdS) (k7 : Nat → Int → Int → Int → Int → kzM → Option (Int × kzM)) : Nat → Int → Int → Int → Int → Int → Int → Int → kzM → Option (Int × kzM) := lp (fun _ _ _ _ _ _ _ _ _ => none) (Z12_ruleAt_59B G k7) NN
theorem qX12_ruleAt_59 {G : kdS} (hG : kzG G) {k7' : Nat → Int → Int → Int → Int → kzM → Option (Int × kzM)} {k7 : Nat → Int32 → Int32 → Int32 → Int32 → kdM → Option (Int32 × kdM)} (hk7 : ∀ (a0 : Nat) (a1 : Int) (_ : kzI a1) (a2 : Int) (_ : kzI a2) (a3 : Int) (_ : kzI a3) (a4 : Int) (_ : kzI a4), CRi (k7' a0 a1 a2 a3 a4) (k7 a0 (Int32.ofInt a1) (Int32.ofInt a2) (Int32.ofInt a3) (Int32.ofInt a4))) : ∀ (a0 : Nat) (a1 : Int) (_ : kzI a1) (a2 : Int) (_ : kzI a2) (a3 : Int) (_ : kzI a3) (a4 : Int) (_ : kzI a4) (a5 : Int) (_ : kzI a5) (a6 : Int) (_ : kzI a6) (a7 : Int) (_ : kzI a7), CRi (Z12_ruleAt_59 G k7' a0 a1 a2 a3 a4 a5 a6 a7) (X12_ruleAt_59 G k7 a0 (Int32.ofInt a1) (Int32.ofInt a2) (Int32.ofInt a3) (Int32.ofInt a4) (Int32.ofInt a5) (Int32.ofInt a6) (Int32.ofInt a7)) :=
  lp_rel (R := fun (f' : Nat → Int → Int → Int → Int → Int → Int → Int → kzM → Option (Int × kzM)) (f : Nat → Int32 → Int32 → Int32 → Int32 → Int32 → Int32 → Int32 → kdM → Option (Int32 × kdM)) => ∀ (a0 : Nat) (a1 : Int) (_ : kzI a1) (a2 : Int) (_ : kzI a2) (a3 : Int) (_ : kzI a3) (a4 : Int) (_ : kzI a4) (a5 : Int) (_ : kzI a5) (a6 : Int) (_ : kzI a6) (a7 : Int) (_ : kzI a7), CRi (f' a0 a1 a2 a3 a4 a5 a6 a7) (f a0 (Int32.ofInt a1) (Int32.ofInt a2) (Int32.ofInt a3) (Int32.ofInt a4) (Int32.ofInt a5) (Int32.ofInt a6) (Int32.ofInt a7))) (by intros; exact c_no) (fun _ _ hf a0 a1 ha1 a2 ha2 a3 ha3 a4 ha4 a5 ha5 a6 ha6 a7 ha7 => qX12_ruleAt_59B hG hk7 hf a0 ha1 ha2 ha3 ha4 ha5 ha6 ha7) NN
def Z12_ruleAt_54 (G : kdS) (k7 : Nat → Int → Int → Int → Int → kzM → Option (Int × kzM)) (l0 : Nat) (l1 : Int) (l2 : Int) (l3 : Int) (l4 : Int) (l5 : Int) (s0 : Int) : kzM → Option (Int × kzM) :=
  Z12_ruleAt_59 G k7 l0 l1 l2 l3 l4 l5 s0 (0 : Int)
theorem qX12_ruleAt_54 {G : kdS} (hG : kzG G) {k7' : Nat → Int → Int → Int → Int → kzM → Option (Int × kzM)} {k7 : Nat → Int32 → Int32 → Int32 → Int32 → kdM → Option (Int32 × kdM)} (hk7 : ∀ (a0 : Nat) (a1 : Int) (_ : kzI a1) (a2 : Int) (_ : kzI a2) (a3 : Int) (_ : kzI a3) (a4 : Int) (_ : kzI a4), CRi (k7' a0 a1 a2 a3 a4) (k7 a0 (Int32.ofInt a1) (Int32.ofInt a2) (Int32.ofInt a3) (Int32.ofInt a4))) (l0 : Nat) {l1 : Int} (hl1 : kzI l1) {l2 : Int} (hl2 : kzI l2) {l3 : Int} (hl3 : kzI l3) {l4 : Int} (hl4 : kzI l4) {l5 : Int} (hl5 : kzI l5) {s0 : Int} (hs0 : kzI s0) : CRi (Z12_ruleAt_54 G k7' l0 l1 l2 l3 l4 l5 s0) (X12_ruleAt_54 G k7 l0 (Int32.ofInt l1) (Int32.ofInt l2) (Int32.ofInt l3) (Int32.ofInt l4) (Int32.ofInt l5) (Int32.ofInt s0)) := by
  unfold Z12_ruleAt_54 X12_ruleAt_54
  exact (qX12_ruleAt_59 hG hk7 l0 _ hl1 _ hl2 _ hl3 _ hl4 _ hl5 _ hs0 _ (by unfold kzI; omega))
def Z12_ruleAt_7B (G : kdS) (k7 : Nat → Int → Int → Int → Int → kzM → Option (Int × kzM)) (l0 : Nat) (l1 : Int) (l2 : Int) (l3 : Int) (l4 : Int) : kzM → Option (Int × kzM) :=
  zgR G 12 11 l0 fun t1 =>
  zgI G 12 18 l0 fun t2 =>
  zaI G t1 t2 fun t3 =>
  zcnd (t3 ≤ l4)
  (zrt l2)
  (zgI G 12 18 l0 fun t4 =>
  zlI (((24 : Int) * t4) + l4) fun t5 =>
  zgR G 12 8 l0 fun t6 =>
  zaI G t6 t5 fun t7 =>
  zgI G 12 17 l0 fun t8 =>
  zlI (l1 + t7) fun u1 =>
  zcnd (t8 < u1)
  (Z12_ruleAt_54 G k7 l0 l1 l2 l3 l4 t5 (0 : Int))
  (Z12_ruleAt_54 G k7 l0 l1 l2 l3 l4 t5 (1 : Int)))
theorem qX12_ruleAt_7B {G : kdS} (hG : kzG G) {k7' : Nat → Int → Int → Int → Int → kzM → Option (Int × kzM)} {k7 : Nat → Int32 → Int32 → Int32 → Int32 → kdM → Option (Int32 × kdM)} (hk7 : ∀ (a0 : Nat) (a1 : Int) (_ : kzI a1) (a2 : Int) (_ : kzI a2) (a3 : Int) (_ : kzI a3) (a4 : Int) (_ : kzI a4), CRi (k7' a0 a1 a2 a3 a4) (k7 a0 (Int32.ofInt a1) (Int32.ofInt a2) (Int32.ofInt a3) (Int32.ofInt a4))) (l0 : Nat) {l1 : Int} (hl1 : kzI l1) {l2 : Int} (hl2 : kzI l2) {l3 : Int} (hl3 : kzI l3) {l4 : Int} (hl4 : kzI l4) : CRi (Z12_ruleAt_7B G k7' l0 l1 l2 l3 l4) (X12_ruleAt_7B G k7 l0 (Int32.ofInt l1) (Int32.ofInt l2) (Int32.ofInt l3) (Int32.ofInt l4)) := by
  unfold Z12_ruleAt_7B X12_ruleAt_7B
  exact c_gR (fun t1 => c_gI rfl (fun t2 ht2 => c_aI hG rfl (fun t3 ht3 => c_cnd (kz_le ht3 hl4 rfl rfl) (c_rt hl2 rfl) (c_gI rfl (fun t4 ht4 => c_lI (kz_add (kz_mul rfl rfl) rfl) (fun t5 ht5 => c_gR (fun t6 => c_aI hG rfl (fun t7 ht7 => c_gI rfl (fun t8 ht8 => c_rg (kz_add rfl rfl) fun u1 r1 e1 => c_cnd (kz_lt ht8 r1 rfl e1) ((qX12_ruleAt_54 hG hk7 l0 hl1 hl2 hl3 hl4 ht5 (by unfold kzI; omega))) ((qX12_ruleAt_54 hG hk7 l0 hl1 hl2 hl3 hl4 ht5 (by unfold kzI; omega))))))))))))
def Z12_ruleAt_7 (G : kdS) : Nat → Int → Int → Int → Int → kzM → Option (Int × kzM) := lp (fun _ _ _ _ _ _ => none) (Z12_ruleAt_7B G) NN
theorem qX12_ruleAt_7 {G : kdS} (hG : kzG G) : ∀ (a0 : Nat) (a1 : Int) (_ : kzI a1) (a2 : Int) (_ : kzI a2) (a3 : Int) (_ : kzI a3) (a4 : Int) (_ : kzI a4), CRi (Z12_ruleAt_7 G a0 a1 a2 a3 a4) (X12_ruleAt_7 G a0 (Int32.ofInt a1) (Int32.ofInt a2) (Int32.ofInt a3) (Int32.ofInt a4)) :=
  lp_rel (R := fun (f' : Nat → Int → Int → Int → Int → kzM → Option (Int × kzM)) (f : Nat → Int32 → Int32 → Int32 → Int32 → kdM → Option (Int32 × kdM)) => ∀ (a0 : Nat) (a1 : Int) (_ : kzI a1) (a2 : Int) (_ : kzI a2) (a3 : Int) (_ : kzI a3) (a4 : Int) (_ : kzI a4), CRi (f' a0 a1 a2 a3 a4) (f a0 (Int32.ofInt a1) (Int32.ofInt a2) (Int32.ofInt a3) (Int32.ofInt a4))) (by intros; exact c_no) (fun _ _ hf a0 a1 ha1 a2 ha2 a3 ha3 a4 ha4 => qX12_ruleAt_7B hG hf a0 ha1 ha2 ha3 ha4) NN
def Z12_ruleAt (G : kdS) (l0 : Nat) (l1 : Int) : kzM → Option (Int × kzM) :=
  Z12_ruleAt_7 G l0 l1 (-1 : Int) (0 : Int) (0 : Int)
theorem qX12_ruleAt {G : kdS} (hG : kzG G) (l0 : Nat) {l1 : Int} (hl1 : kzI l1) : CRi (Z12_ruleAt G l0 l1) (X12_ruleAt G l0 (Int32.ofInt l1)) := by
  unfold Z12_ruleAt X12_ruleAt
  exact (qX12_ruleAt_7 hG l0 _ hl1 _ (by unfold kzI; omega) _ (by unfold kzI; omega) _ (by unfold kzI; omega))
def Z12_joinOf_62 (G : kdS) (k2 : Nat → Int → Int → Int → kzM → Option (Int × kzM)) (l0 : Nat) (l1 : Int) (l2 : Int) (l3 : Int) : kzM → Option (Int × kzM) :=
  zlI (l3 + (1 : Int)) fun t1 =>
  k2 l0 l1 l2 t1
theorem qX12_joinOf_62 {G : kdS} (hG : kzG G) {k2' : Nat → Int → Int → Int → kzM → Option (Int × kzM)} {k2 : Nat → Int32 → Int32 → Int32 → kdM → Option (Int32 × kdM)} (hk2 : ∀ (a0 : Nat) (a1 : Int) (_ : kzI a1) (a2 : Int) (_ : kzI a2) (a3 : Int) (_ : kzI a3), CRi (k2' a0 a1 a2 a3) (k2 a0 (Int32.ofInt a1) (Int32.ofInt a2) (Int32.ofInt a3))) (l0 : Nat) {l1 : Int} (hl1 : kzI l1) {l2 : Int} (hl2 : kzI l2) {l3 : Int} (hl3 : kzI l3) : CRi (Z12_joinOf_62 G k2' l0 l1 l2 l3) (X12_joinOf_62 G k2 l0 (Int32.ofInt l1) (Int32.ofInt l2) (Int32.ofInt l3)) := by
  unfold Z12_joinOf_62 X12_joinOf_62
  exact c_lI (kz_add rfl rfl) (fun t1 ht1 => (hk2 l0 _ hl1 _ hl2 _ ht1))
def Z12_joinOf_2B (G : kdS) (k2 : Nat → Int → Int → Int → kzM → Option (Int × kzM)) (l0 : Nat) (l1 : Int) (l2 : Int) (l3 : Int) : kzM → Option (Int × kzM) :=
  zgR G 12 13 l0 fun t1 =>
  zgI G 12 18 l0 fun t2 =>
  zaI G t1 t2 fun t3 =>
  zcnd (t3 ≤ l3)
  (zrt (0 : Int))
  (zgI G 12 18 l0 fun t4 =>
  zlI ((3 : Int) * (((12 : Int) * t4) + l3)) fun t5 =>
  zgR G 12 12 l0 fun t6 =>
  zaI G t6 t5 fun t7 =>
  zcnd (t7 = l1)
  (zgR G 12 12 l0 fun t8 =>
  zaI G t8 (t5 + (1 : Int)) fun t9 =>
  zcnd (t9 = l2)
  (zgR G 12 12 l0 fun t10 =>
  zaI G t10 (t5 + (2 : Int)) fun t11 =>
  zrt t11)
  (Z12_joinOf_62 G k2 l0 l1 l2 l3))
  (Z12_joinOf_62 G k2 l0 l1 l2 l3))
theorem qX12_joinOf_2B {G : kdS} (hG : kzG G) {k2' : Nat → Int → Int → Int → kzM → Option (Int × kzM)} {k2 : Nat → Int32 → Int32 → Int32 → kdM → Option (Int32 × kdM)} (hk2 : ∀ (a0 : Nat) (a1 : Int) (_ : kzI a1) (a2 : Int) (_ : kzI a2) (a3 : Int) (_ : kzI a3), CRi (k2' a0 a1 a2 a3) (k2 a0 (Int32.ofInt a1) (Int32.ofInt a2) (Int32.ofInt a3))) (l0 : Nat) {l1 : Int} (hl1 : kzI l1) {l2 : Int} (hl2 : kzI l2) {l3 : Int} (hl3 : kzI l3) : CRi (Z12_joinOf_2B G k2' l0 l1 l2 l3) (X12_joinOf_2B G k2 l0 (Int32.ofInt l1) (Int32.ofInt l2) (Int32.ofInt l3)) := by
  unfold Z12_joinOf_2B X12_joinOf_2B
  exact c_gR (fun t1 => c_gI rfl (fun t2 ht2 => c_aI hG rfl (fun t3 ht3 => c_cnd (kz_le ht3 hl3 rfl rfl) (c_rt (by unfold kzI; omega) rfl) (c_gI rfl (fun t4 ht4 => c_lI (kz_mul rfl (kz_add (kz_mul rfl rfl) rfl)) (fun t5 ht5 => c_gR (fun t6 => c_aI hG rfl (fun t7 ht7 => c_cnd (kz_eq ht7 hl1 rfl rfl) (c_gR (fun t8 => c_aI hG (kz_add rfl rfl) (fun t9 ht9 => c_cnd (kz_eq ht9 hl2 rfl rfl) (c_gR (fun t10 => c_aI hG (kz_add rfl rfl) (fun t11 ht11 => c_rt ht11 rfl))) ((qX12_joinOf_62 hG hk2 l0 hl1 hl2 hl3))))) ((qX12_joinOf_62 hG hk2 l0 hl1 hl2 hl3))))))))))
def Z12_joinOf_2 (G : kdS) : Nat → Int → Int → Int → kzM → Option (Int × kzM) := lp (fun _ _ _ _ _ => none) (Z12_joinOf_2B G) NN
theorem qX12_joinOf_2 {G : kdS} (hG : kzG G) : ∀ (a0 : Nat) (a1 : Int) (_ : kzI a1) (a2 : Int) (_ : kzI a2) (a3 : Int) (_ : kzI a3), CRi (Z12_joinOf_2 G a0 a1 a2 a3) (X12_joinOf_2 G a0 (Int32.ofInt a1) (Int32.ofInt a2) (Int32.ofInt a3)) :=
  lp_rel (R := fun (f' : Nat → Int → Int → Int → kzM → Option (Int × kzM)) (f : Nat → Int32 → Int32 → Int32 → kdM → Option (Int32 × kdM)) => ∀ (a0 : Nat) (a1 : Int) (_ : kzI a1) (a2 : Int) (_ : kzI a2) (a3 : Int) (_ : kzI a3), CRi (f' a0 a1 a2 a3) (f a0 (Int32.ofInt a1) (Int32.ofInt a2) (Int32.ofInt a3))) (by intros; exact c_no) (fun _ _ hf a0 a1 ha1 a2 ha2 a3 ha3 => qX12_joinOf_2B hG hf a0 ha1 ha2 ha3) NN
def Z12_joinOf (G : kdS) (l0 : Nat) (l1 : Int) (l2 : Int) : kzM → Option (Int × kzM) :=
  Z12_joinOf_2 G l0 l1 l2 (0 : Int)
theorem qX12_joinOf {G : kdS} (hG : kzG G) (l0 : Nat) {l1 : Int} (hl1 : kzI l1) {l2 : Int} (hl2 : kzI l2) : CRi (Z12_joinOf G l0 l1 l2) (X12_joinOf G l0 (Int32.ofInt l1) (Int32.ofInt l2)) := by
  unfold Z12_joinOf X12_joinOf
  exact (qX12_joinOf_2 hG l0 _ hl1 _ hl2 _ (by unfold kzI; omega))
def Z12_come_79 (G : kdS) (k4 : Nat → Int → Int → kzM → Option (Unit × kzM)) (l0 : Nat) (l2 : Int) (l3 : Int) : kzM → Option (Unit × kzM) :=
  k4 l0 l2 l3
theorem qX12_come_79 {G : kdS} (hG : kzG G) {k4' : Nat → Int → Int → kzM → Option (Unit × kzM)} {k4 : Nat → Int32 → Int32 → kdM → Option (Unit × kdM)} (hk4 : ∀ (a0 : Nat) (a1 : Int) (_ : kzI a1) (a2 : Int) (_ : kzI a2), CRu (k4' a0 a1 a2) (k4 a0 (Int32.ofInt a1) (Int32.ofInt a2))) (l0 : Nat) {l2 : Int} (hl2 : kzI l2) {l3 : Int} (hl3 : kzI l3) : CRu (Z12_come_79 G k4' l0 l2 l3) (X12_come_79 G k4 l0 (Int32.ofInt l2) (Int32.ofInt l3)) := by
  unfold Z12_come_79 X12_come_79
  exact (hk4 l0 _ hl2 _ hl3)
def Z12_come_61 (G : kdS) (k4 : Nat → Int → Int → kzM → Option (Unit × kzM)) (l0 : Nat) (l2 : Int) (l4 : Int) (s0 : Int) : kzM → Option (Unit × kzM) :=
  zcnd (s0 = (0 : Int))
  (Z12_come_79 G k4 l0 l2 s0)
  (zgI G 12 23 l0 fun t1 =>
  zlI (t1 - (1 : Int)) fun u1 =>
  zsI G 12 23 l0 u1 <|
  Z12_come_79 G k4 l0 l4 s0)
theorem qX12_come_61 {G : kdS} (hG : kzG G) {k4' : Nat → Int → Int → kzM → Option (Unit × kzM)} {k4 : Nat → Int32 → Int32 → kdM → Option (Unit × kdM)} (hk4 : ∀ (a0 : Nat) (a1 : Int) (_ : kzI a1) (a2 : Int) (_ : kzI a2), CRu (k4' a0 a1 a2) (k4 a0 (Int32.ofInt a1) (Int32.ofInt a2))) (l0 : Nat) {l2 : Int} (hl2 : kzI l2) {l4 : Int} (hl4 : kzI l4) {s0 : Int} (hs0 : kzI s0) : CRu (Z12_come_61 G k4' l0 l2 l4 s0) (X12_come_61 G k4 l0 (Int32.ofInt l2) (Int32.ofInt l4) (Int32.ofInt s0)) := by
  unfold Z12_come_61 X12_come_61
  exact c_cnd (kz_eq hs0 (by unfold kzI; omega) rfl rfl) ((qX12_come_79 hG hk4 l0 hl2 hs0)) (c_gI rfl (fun t1 ht1 => c_rg (kz_sub rfl rfl) fun u1 r1 e1 => c_sI rfl r1 e1 ((qX12_come_79 hG hk4 l0 hl4 hs0))))
def Z12_come_49 (G : kdS) (k4 : Nat → Int → Int → kzM → Option (Unit × kzM)) (l0 : Nat) (l2 : Int) (s0 : Int) : kzM → Option (Unit × kzM) :=
  zcnd (s0 ≤ (0 : Int))
  (Z12_come_61 G k4 l0 l2 s0 (0 : Int))
  (Z12_come_61 G k4 l0 l2 s0 (1 : Int))
theorem qX12_come_49 {G : kdS} (hG : kzG G) {k4' : Nat → Int → Int → kzM → Option (Unit × kzM)} {k4 : Nat → Int32 → Int32 → kdM → Option (Unit × kdM)} (hk4 : ∀ (a0 : Nat) (a1 : Int) (_ : kzI a1) (a2 : Int) (_ : kzI a2), CRu (k4' a0 a1 a2) (k4 a0 (Int32.ofInt a1) (Int32.ofInt a2))) (l0 : Nat) {l2 : Int} (hl2 : kzI l2) {s0 : Int} (hs0 : kzI s0) : CRu (Z12_come_49 G k4' l0 l2 s0) (X12_come_49 G k4 l0 (Int32.ofInt l2) (Int32.ofInt s0)) := by
  unfold Z12_come_49 X12_come_49
  exact c_cnd (kz_le hs0 (by unfold kzI; omega) rfl rfl) ((qX12_come_61 hG hk4 l0 hl2 hs0 (by unfold kzI; omega))) ((qX12_come_61 hG hk4 l0 hl2 hs0 (by unfold kzI; omega)))
def Z12_come_48 (G : kdS) (k4 : Nat → Int → Int → kzM → Option (Unit × kzM)) (l0 : Nat) (l2 : Int) : kzM → Option (Unit × kzM) :=
  Z12_come_49 G k4 l0 l2 (0 : Int)
theorem qX12_come_48 {G : kdS} (hG : kzG G) {k4' : Nat → Int → Int → kzM → Option (Unit × kzM)} {k4 : Nat → Int32 → Int32 → kdM → Option (Unit × kdM)} (hk4 : ∀ (a0 : Nat) (a1 : Int) (_ : kzI a1) (a2 : Int) (_ : kzI a2), CRu (k4' a0 a1 a2) (k4 a0 (Int32.ofInt a1) (Int32.ofInt a2))) (l0 : Nat) {l2 : Int} (hl2 : kzI l2) : CRu (Z12_come_48 G k4' l0 l2) (X12_come_48 G k4 l0 (Int32.ofInt l2)) := by
  unfold Z12_come_48 X12_come_48
  exact (qX12_come_49 hG hk4 l0 hl2 (by unfold kzI; omega))
def Z12_come_4B (G : kdS) (k4 : Nat → Int → Int → kzM → Option (Unit × kzM)) (l0 : Nat) (l2 : Int) (l3 : Int) : kzM → Option (Unit × kzM) :=
  zcnd (l3 = (0 : Int))
  (zgR G 12 22 l0 fun t1 =>
  zgI G 12 23 l0 fun t2 =>
  ztI G t1 t2 l2 <|
  zgI G 12 23 l0 fun t3 =>
  zlI (t3 + (1 : Int)) fun u1 =>
  zsI G 12 23 l0 u1 <|
  zrt ())
  (zgI G 12 23 l0 fun t4 =>
  zcnd (t4 ≤ (0 : Int))
  (Z12_come_48 G k4 l0 l2)
  (zgR G 12 22 l0 fun t5 =>
  zgI G 12 23 l0 fun t6 =>
  zaI G t5 (t6 - (1 : Int)) fun t7 =>
  zcnd (t7 ≤ (0 : Int))
  (Z12_come_48 G k4 l0 l2)
  (zgR G 12 22 l0 fun t8 =>
  zgI G 12 23 l0 fun t9 =>
  zaI G t8 (t9 - (1 : Int)) fun t10 =>
  zcv G 12 l0 (Z12_joinOf G l0 t10 l2) fun t11 =>
  Z12_come_49 G k4 l0 l2 t11)))
theorem qX12_come_4B {G : kdS} (hG : kzG G) {k4' : Nat → Int → Int → kzM → Option (Unit × kzM)} {k4 : Nat → Int32 → Int32 → kdM → Option (Unit × kdM)} (hk4 : ∀ (a0 : Nat) (a1 : Int) (_ : kzI a1) (a2 : Int) (_ : kzI a2), CRu (k4' a0 a1 a2) (k4 a0 (Int32.ofInt a1) (Int32.ofInt a2))) (l0 : Nat) {l2 : Int} (hl2 : kzI l2) {l3 : Int} (hl3 : kzI l3) : CRu (Z12_come_4B G k4' l0 l2 l3) (X12_come_4B G k4 l0 (Int32.ofInt l2) (Int32.ofInt l3)) := by
  unfold Z12_come_4B X12_come_4B
  exact c_cnd (kz_eq hl3 (by unfold kzI; omega) rfl rfl) (c_gR (fun t1 => c_gI rfl (fun t2 ht2 => c_tI hG rfl hl2 rfl (c_gI rfl (fun t3 ht3 => c_rg (kz_add rfl rfl) fun u1 r1 e1 => c_sI rfl r1 e1 (c_rt trivial rfl)))))) (c_gI rfl (fun t4 ht4 => c_cnd (kz_le ht4 (by unfold kzI; omega) rfl rfl) ((qX12_come_48 hG hk4 l0 hl2)) (c_gR (fun t5 => c_gI rfl (fun t6 ht6 => c_aI hG (kz_sub rfl rfl) (fun t7 ht7 => c_cnd (kz_le ht7 (by unfold kzI; omega) rfl rfl) ((qX12_come_48 hG hk4 l0 hl2)) (c_gR (fun t8 => c_gI rfl (fun t9 ht9 => c_aI hG (kz_sub rfl rfl) (fun t10 ht10 => c_cv (qX12_joinOf hG l0 ht10 hl2) (fun t11 ht11 => (qX12_come_49 hG hk4 l0 hl2 ht11))))))))))))
def Z12_come_4 (G : kdS) : Nat → Int → Int → kzM → Option (Unit × kzM) := lp (fun _ _ _ _ => none) (Z12_come_4B G) NN
theorem qX12_come_4 {G : kdS} (hG : kzG G) : ∀ (a0 : Nat) (a1 : Int) (_ : kzI a1) (a2 : Int) (_ : kzI a2), CRu (Z12_come_4 G a0 a1 a2) (X12_come_4 G a0 (Int32.ofInt a1) (Int32.ofInt a2)) :=
  lp_rel (R := fun (f' : Nat → Int → Int → kzM → Option (Unit × kzM)) (f : Nat → Int32 → Int32 → kdM → Option (Unit × kdM)) => ∀ (a0 : Nat) (a1 : Int) (_ : kzI a1) (a2 : Int) (_ : kzI a2), CRu (f' a0 a1 a2) (f a0 (Int32.ofInt a1) (Int32.ofInt a2))) (by intros; exact c_no) (fun _ _ hf a0 a1 ha1 a2 ha2 => qX12_come_4B hG hf a0 ha1 ha2) NN
def Z12_come (G : kdS) (l0 : Nat) (l1 : Int) : kzM → Option (Unit × kzM) :=
  Z12_come_4 G l0 l1 (1 : Int)
theorem qX12_come {G : kdS} (hG : kzG G) (l0 : Nat) {l1 : Int} (hl1 : kzI l1) : CRu (Z12_come G l0 l1) (X12_come G l0 (Int32.ofInt l1)) := by
  unfold Z12_come X12_come
  exact (qX12_come_4 hG l0 _ hl1 _ (by unfold kzI; omega))
def Z12_walk_147 (G : kdS) (k12 : Nat → Int → kzM → Option (Unit × kzM)) (l0 : Nat) (l1 : Int) : kzM → Option (Unit × kzM) :=
  k12 l0 l1
theorem qX12_walk_147 {G : kdS} (hG : kzG G) {k12' : Nat → Int → kzM → Option (Unit × kzM)} {k12 : Nat → Int32 → kdM → Option (Unit × kdM)} (hk12 : ∀ (a0 : Nat) (a1 : Int) (_ : kzI a1), CRu (k12' a0 a1) (k12 a0 (Int32.ofInt a1))) (l0 : Nat) {l1 : Int} (hl1 : kzI l1) : CRu (Z12_walk_147 G k12' l0 l1) (X12_walk_147 G k12 l0 (Int32.ofInt l1)) := by
  unfold Z12_walk_147 X12_walk_147
  exact (hk12 l0 _ hl1)
def Z12_walk_106B (G : kdS) (k12 : Nat → Int → kzM → Option (Unit × kzM)) (k106 : Nat → Int → Int → Int → kzM → Option (Unit × kzM)) (l0 : Nat) (l1 : Int) (l3 : Int) (l4 : Int) : kzM → Option (Unit × kzM) :=
  zgR G 12 10 l0 fun t1 =>
  zaI G t1 l3 fun t2 =>
  zcnd (t2 ≤ l4)
  (zgR G 12 8 l0 fun t3 =>
  zaI G t3 l3 fun t4 =>
  zlI (l1 + t4) fun t5 =>
  Z12_walk_147 G k12 l0 t5)
  (zgR G 12 9 l0 fun t6 =>
  zaI G t6 (((3 : Int) * l3) + l4) fun t7 =>
  zcv G 12 l0 (Z12_come G l0 t7) fun _ =>
  zlI (l4 + (1 : Int)) fun t8 =>
  k106 l0 l1 l3 t8)
theorem qX12_walk_106B {G : kdS} (hG : kzG G) {k12' : Nat → Int → kzM → Option (Unit × kzM)} {k12 : Nat → Int32 → kdM → Option (Unit × kdM)} (hk12 : ∀ (a0 : Nat) (a1 : Int) (_ : kzI a1), CRu (k12' a0 a1) (k12 a0 (Int32.ofInt a1))) {k106' : Nat → Int → Int → Int → kzM → Option (Unit × kzM)} {k106 : Nat → Int32 → Int32 → Int32 → kdM → Option (Unit × kdM)} (hk106 : ∀ (a0 : Nat) (a1 : Int) (_ : kzI a1) (a2 : Int) (_ : kzI a2) (a3 : Int) (_ : kzI a3), CRu (k106' a0 a1 a2 a3) (k106 a0 (Int32.ofInt a1) (Int32.ofInt a2) (Int32.ofInt a3))) (l0 : Nat) {l1 : Int} (hl1 : kzI l1) {l3 : Int} (hl3 : kzI l3) {l4 : Int} (hl4 : kzI l4) : CRu (Z12_walk_106B G k12' k106' l0 l1 l3 l4) (X12_walk_106B G k12 k106 l0 (Int32.ofInt l1) (Int32.ofInt l3) (Int32.ofInt l4)) := by
  unfold Z12_walk_106B X12_walk_106B
  exact c_gR (fun t1 => c_aI hG rfl (fun t2 ht2 => c_cnd (kz_le ht2 hl4 rfl rfl) (c_gR (fun t3 => c_aI hG rfl (fun t4 ht4 => c_lI (kz_add rfl rfl) (fun t5 ht5 => (qX12_walk_147 hG hk12 l0 ht5))))) (c_gR (fun t6 => c_aI hG (kz_add (kz_mul rfl rfl) rfl) (fun t7 ht7 => c_cv (qX12_come hG l0 ht7) (fun _ _ => c_lI (kz_add rfl rfl) (fun t8 ht8 => (hk106 l0 _ hl1 _ hl3 _ ht8))))))))
def Z12_walk_106 (G : kdS) (k12 : Nat → Int → kzM → Option (Unit × kzM)) : Nat → Int → Int → Int → kzM → Option (Unit × kzM) := lp (fun _ _ _ _ _ => none) (Z12_walk_106B G k12) NN
theorem qX12_walk_106 {G : kdS} (hG : kzG G) {k12' : Nat → Int → kzM → Option (Unit × kzM)} {k12 : Nat → Int32 → kdM → Option (Unit × kdM)} (hk12 : ∀ (a0 : Nat) (a1 : Int) (_ : kzI a1), CRu (k12' a0 a1) (k12 a0 (Int32.ofInt a1))) : ∀ (a0 : Nat) (a1 : Int) (_ : kzI a1) (a2 : Int) (_ : kzI a2) (a3 : Int) (_ : kzI a3), CRu (Z12_walk_106 G k12' a0 a1 a2 a3) (X12_walk_106 G k12 a0 (Int32.ofInt a1) (Int32.ofInt a2) (Int32.ofInt a3)) :=
  lp_rel (R := fun (f' : Nat → Int → Int → Int → kzM → Option (Unit × kzM)) (f : Nat → Int32 → Int32 → Int32 → kdM → Option (Unit × kdM)) => ∀ (a0 : Nat) (a1 : Int) (_ : kzI a1) (a2 : Int) (_ : kzI a2) (a3 : Int) (_ : kzI a3), CRu (f' a0 a1 a2 a3) (f a0 (Int32.ofInt a1) (Int32.ofInt a2) (Int32.ofInt a3))) (by intros; exact c_no) (fun _ _ hf a0 a1 ha1 a2 ha2 a3 ha3 => qX12_walk_106B hG hk12 hf a0 ha1 ha2 ha3) NN
def Z12_walk_12B (G : kdS) (k12 : Nat → Int → kzM → Option (Unit × kzM)) (l0 : Nat) (l1 : Int) : kzM → Option (Unit × kzM) :=
  zgI G 12 17 l0 fun t1 =>
  zcnd (t1 ≤ l1)
  (zrt ())
  (zcv G 12 l0 (Z12_ruleAt G l0 l1) fun t2 =>
  zgR G 12 19 l0 fun t3 =>
  zgI G 12 21 l0 fun t4 =>
  ztI G t3 t4 t2 <|
  zgR G 12 20 l0 fun t5 =>
  zgI G 12 21 l0 fun t6 =>
  ztI G t5 t6 l1 <|
  zgI G 12 21 l0 fun t7 =>
  zlI (t7 + (1 : Int)) fun u1 =>
  zsI G 12 21 l0 u1 <|
  zcnd ((0 : Int) ≤ t2)
  (zgI G 12 18 l0 fun t8 =>
  zlI (((24 : Int) * t8) + t2) fun t9 =>
  Z12_walk_106 G k12 l0 l1 t9 (0 : Int))
  (zgR G 12 22 l0 fun t10 =>
  zgI G 12 23 l0 fun t11 =>
  zgR G 12 16 l0 fun t12 =>
  zaI G t12 l1 fun t13 =>
  zlI ((-1 : Int) - t13) fun u2 =>
  ztI G t10 t11 u2 <|
  zgI G 12 23 l0 fun t14 =>
  zlI (t14 + (1 : Int)) fun u3 =>
  zsI G 12 23 l0 u3 <|
  zlI (l1 + (1 : Int)) fun t15 =>
  Z12_walk_147 G k12 l0 t15))
theorem qX12_walk_12B {G : kdS} (hG : kzG G) {k12' : Nat → Int → kzM → Option (Unit × kzM)} {k12 : Nat → Int32 → kdM → Option (Unit × kdM)} (hk12 : ∀ (a0 : Nat) (a1 : Int) (_ : kzI a1), CRu (k12' a0 a1) (k12 a0 (Int32.ofInt a1))) (l0 : Nat) {l1 : Int} (hl1 : kzI l1) : CRu (Z12_walk_12B G k12' l0 l1) (X12_walk_12B G k12 l0 (Int32.ofInt l1)) := by
  unfold Z12_walk_12B X12_walk_12B
  exact c_gI rfl (fun t1 ht1 => c_cnd (kz_le ht1 hl1 rfl rfl) (c_rt trivial rfl) (c_cv (qX12_ruleAt hG l0 hl1) (fun t2 ht2 => c_gR (fun t3 => c_gI rfl (fun t4 ht4 => c_tI hG rfl ht2 rfl (c_gR (fun t5 => c_gI rfl (fun t6 ht6 => c_tI hG rfl hl1 rfl (c_gI rfl (fun t7 ht7 => c_rg (kz_add rfl rfl) fun u1 r1 e1 => c_sI rfl r1 e1 (c_cnd (kz_le (by unfold kzI; omega) ht2 rfl rfl) (c_gI rfl (fun t8 ht8 => c_lI (kz_add (kz_mul rfl rfl) rfl) (fun t9 ht9 => (qX12_walk_106 hG hk12 l0 _ hl1 _ ht9 _ (by unfold kzI; omega))))) (c_gR (fun t10 => c_gI rfl (fun t11 ht11 => c_gR (fun t12 => c_aI hG rfl (fun t13 ht13 => c_rg (kz_sub rfl rfl) fun u2 r2 e2 => c_tI hG rfl r2 e2 (c_gI rfl (fun t14 ht14 => c_rg (kz_add rfl rfl) fun u3 r3 e3 => c_sI rfl r3 e3 (c_lI (kz_add rfl rfl) (fun t15 ht15 => (qX12_walk_147 hG hk12 l0 ht15)))))))))))))))))))))
def Z12_walk_12 (G : kdS) : Nat → Int → kzM → Option (Unit × kzM) := lp (fun _ _ _ => none) (Z12_walk_12B G) NN
theorem qX12_walk_12 {G : kdS} (hG : kzG G) : ∀ (a0 : Nat) (a1 : Int) (_ : kzI a1), CRu (Z12_walk_12 G a0 a1) (X12_walk_12 G a0 (Int32.ofInt a1)) :=
  lp_rel (R := fun (f' : Nat → Int → kzM → Option (Unit × kzM)) (f : Nat → Int32 → kdM → Option (Unit × kdM)) => ∀ (a0 : Nat) (a1 : Int) (_ : kzI a1), CRu (f' a0 a1) (f a0 (Int32.ofInt a1))) (by intros; exact c_no) (fun _ _ hf a0 a1 ha1 => qX12_walk_12B hG hf a0 ha1) NN
def Z12_walk (G : kdS) (l0 : Nat) : kzM → Option (Unit × kzM) :=
  zsI G 12 21 l0 (0 : Int) <|
  zsI G 12 23 l0 (0 : Int) <|
  Z12_walk_12 G l0 (0 : Int)
theorem qX12_walk {G : kdS} (hG : kzG G) (l0 : Nat) : CRu (Z12_walk G l0) (X12_walk G l0) := by
  unfold Z12_walk X12_walk
  exact c_sI rfl (by unfold kzI; omega) rfl (c_sI rfl (by unfold kzI; omega) rfl ((qX12_walk_12 hG l0 _ (by unfold kzI; omega))))
def Z12_stands_45 (G : kdS) (s0 : Int) : kzM → Option (Int × kzM) :=
  zrt s0
theorem qX12_stands_45 {G : kdS} (hG : kzG G) {s0 : Int} (hs0 : kzI s0) : CRi (Z12_stands_45 G s0) (X12_stands_45 G (Int32.ofInt s0)) := by
  unfold Z12_stands_45 X12_stands_45
  exact c_rt hs0 rfl
def Z12_stands (G : kdS) (l0 : Nat) (l1 : Int) : kzM → Option (Int × kzM) :=
  zcnd ((-1 : Int) ≤ l1)
  (zcv G 12 l0 (Z12_walk G l0) fun _ =>
  zcnd (l1 = (-1 : Int))
  (zgI G 12 23 l0 fun t1 =>
  Z12_stands_45 G t1)
  (zgI G 12 23 l0 fun t2 =>
  zcnd (t2 ≤ l1)
  (Z12_stands_45 G (-1006 : Int))
  (zgR G 12 22 l0 fun t3 =>
  zaI G t3 l1 fun t4 =>
  Z12_stands_45 G t4)))
  (zrt (-1002 : Int))
theorem qX12_stands {G : kdS} (hG : kzG G) (l0 : Nat) {l1 : Int} (hl1 : kzI l1) : CRi (Z12_stands G l0 l1) (X12_stands G l0 (Int32.ofInt l1)) := by
  unfold Z12_stands X12_stands
  exact c_cnd (kz_le (by unfold kzI; omega) hl1 rfl rfl) (c_cv (qX12_walk hG l0) (fun _ _ => c_cnd (kz_eq hl1 (by unfold kzI; omega) rfl rfl) (c_gI rfl (fun t1 ht1 => (qX12_stands_45 hG ht1))) (c_gI rfl (fun t2 ht2 => c_cnd (kz_le ht2 hl1 rfl rfl) ((qX12_stands_45 hG (by unfold kzI; omega))) (c_gR (fun t3 => c_aI hG rfl (fun t4 ht4 => (qX12_stands_45 hG ht4)))))))) (c_rt (by unfold kzI; omega) rfl)
def Z12_piece_65 (G : kdS) (s0 : Int) : kzM → Option (Int × kzM) :=
  zrt s0
theorem qX12_piece_65 {G : kdS} (hG : kzG G) {s0 : Int} (hs0 : kzI s0) : CRi (Z12_piece_65 G s0) (X12_piece_65 G (Int32.ofInt s0)) := by
  unfold Z12_piece_65 X12_piece_65
  exact c_rt hs0 rfl
def Z12_piece_52 (G : kdS) (l0 : Nat) (l1 : Int) (s0 : Int) (s1 : Int) : kzM → Option (Int × kzM) :=
  zgR G 12 20 l0 fun t1 =>
  zaI G t1 l1 fun t2 =>
  zlI ((s0 * s1) + t2) fun u1 =>
  Z12_piece_65 G u1
theorem qX12_piece_52 {G : kdS} (hG : kzG G) (l0 : Nat) {l1 : Int} (hl1 : kzI l1) {s0 : Int} (hs0 : kzI s0) {s1 : Int} (hs1 : kzI s1) : CRi (Z12_piece_52 G l0 l1 s0 s1) (X12_piece_52 G l0 (Int32.ofInt l1) (Int32.ofInt s0) (Int32.ofInt s1)) := by
  unfold Z12_piece_52 X12_piece_52
  exact c_gR (fun t1 => c_aI hG rfl (fun t2 ht2 => c_rg (kz_add (kz_mul rfl rfl) rfl) fun u1 r1 e1 => (e1 ▸ (qX12_piece_65 hG r1))))
def Z12_piece (G : kdS) (l0 : Nat) (l1 : Int) : kzM → Option (Int × kzM) :=
  zcv G 12 l0 (Z12_walk G l0) fun _ =>
  zcnd (l1 = (-1 : Int))
  (zgI G 12 21 l0 fun t1 =>
  zrt t1)
  (zgI G 12 21 l0 fun t2 =>
  zlI (t2 - (1 : Int)) fun u1 =>
  zcl (Z12_in G l1 (0 : Int) u1) fun t3 =>
  zcnd (t3 = (0 : Int))
  (Z12_piece_65 G (-6 : Int))
  (zgR G 12 19 l0 fun t4 =>
  zaI G t4 l1 fun t5 =>
  zcnd ((0 : Int) ≤ t5)
  (zgR G 12 19 l0 fun t6 =>
  zaI G t6 l1 fun t7 =>
  Z12_piece_52 G l0 l1 (100 : Int) t7)
  (Z12_piece_52 G l0 l1 (100 : Int) (99 : Int))))
theorem qX12_piece {G : kdS} (hG : kzG G) (l0 : Nat) {l1 : Int} (hl1 : kzI l1) : CRi (Z12_piece G l0 l1) (X12_piece G l0 (Int32.ofInt l1)) := by
  unfold Z12_piece X12_piece
  exact c_cv (qX12_walk hG l0) (fun _ _ => c_cnd (kz_eq hl1 (by unfold kzI; omega) rfl rfl) (c_gI rfl (fun t1 ht1 => c_rt ht1 rfl)) (c_gI rfl (fun t2 ht2 => c_rg (kz_sub rfl rfl) fun u1 r1 e1 => c_cl ((kz_i2l r1 e1) ▸ ((kz_i2l hl1 rfl) ▸ (qX12_in hG (kzI_L hl1) (show kzL (0 : Int) by unfold kzL; omega) (kzI_L r1)))) (fun t3 ht3 => c_cnd (kz_eq ht3 (by unfold kzI; omega) rfl rfl) ((qX12_piece_65 hG (by unfold kzI; omega))) (c_gR (fun t4 => c_aI hG rfl (fun t5 ht5 => c_cnd (kz_le (by unfold kzI; omega) ht5 rfl rfl) (c_gR (fun t6 => c_aI hG rfl (fun t7 ht7 => (qX12_piece_52 hG l0 hl1 (by unfold kzI; omega) ht7)))) ((qX12_piece_52 hG l0 hl1 (by unfold kzI; omega) (by unfold kzI; omega))))))))))
def Z12_could_157 (G : kdS) (k39 : Nat → Int → Int → Int → Int → kzM → Option (Int × kzM)) (l0 : Nat) (l1 : Int) (l2 : Int) (l4 : Int) (s0 : Int) (s1 : Int) : kzM → Option (Int × kzM) :=
  zlI (zor s0 s1) fun t1 =>
  zlI (l4 + (1 : Int)) fun t2 =>
  k39 l0 l1 l2 t1 t2
theorem qX12_could_157 {G : kdS} (hG : kzG G) {k39' : Nat → Int → Int → Int → Int → kzM → Option (Int × kzM)} {k39 : Nat → Int32 → Int32 → Int32 → Int32 → kdM → Option (Int32 × kdM)} (hk39 : ∀ (a0 : Nat) (a1 : Int) (_ : kzI a1) (a2 : Int) (_ : kzI a2) (a3 : Int) (_ : kzI a3) (a4 : Int) (_ : kzI a4), CRi (k39' a0 a1 a2 a3 a4) (k39 a0 (Int32.ofInt a1) (Int32.ofInt a2) (Int32.ofInt a3) (Int32.ofInt a4))) (l0 : Nat) {l1 : Int} (hl1 : kzI l1) {l2 : Int} (hl2 : kzI l2) {l4 : Int} (hl4 : kzI l4) {s0 : Int} (hs0 : kzI s0) {s1 : Int} (hs1 : kzI s1) : CRi (Z12_could_157 G k39' l0 l1 l2 l4 s0 s1) (X12_could_157 G k39 l0 (Int32.ofInt l1) (Int32.ofInt l2) (Int32.ofInt l4) (Int32.ofInt s0) (Int32.ofInt s1)) := by
  unfold Z12_could_157 X12_could_157
  exact c_lI (kz_or rfl rfl) (fun t1 ht1 => c_lI (kz_add rfl rfl) (fun t2 ht2 => (hk39 l0 _ hl1 _ hl2 _ ht1 _ ht2)))
def Z12_could_134 (G : kdS) (k39 : Nat → Int → Int → Int → Int → kzM → Option (Int × kzM)) (l0 : Nat) (l1 : Int) (l2 : Int) (l3 : Int) (l4 : Int) (l5 : Int) (l6 : Int) : kzM → Option (Int × kzM) :=
  zcnd (l6 = (0 : Int))
  (Z12_could_157 G k39 l0 l1 l2 l4 l3 (0 : Int))
  (zgR G 12 7 l0 fun t1 =>
  zaI G t1 (((4 : Int) * l5) + l2) fun t2 =>
  zlI (zshl (1 : Int) t2) fun u1 =>
  Z12_could_157 G k39 l0 l1 l2 l4 l3 u1)
theorem qX12_could_134 {G : kdS} (hG : kzG G) {k39' : Nat → Int → Int → Int → Int → kzM → Option (Int × kzM)} {k39 : Nat → Int32 → Int32 → Int32 → Int32 → kdM → Option (Int32 × kdM)} (hk39 : ∀ (a0 : Nat) (a1 : Int) (_ : kzI a1) (a2 : Int) (_ : kzI a2) (a3 : Int) (_ : kzI a3) (a4 : Int) (_ : kzI a4), CRi (k39' a0 a1 a2 a3 a4) (k39 a0 (Int32.ofInt a1) (Int32.ofInt a2) (Int32.ofInt a3) (Int32.ofInt a4))) (l0 : Nat) {l1 : Int} (hl1 : kzI l1) {l2 : Int} (hl2 : kzI l2) {l3 : Int} (hl3 : kzI l3) {l4 : Int} (hl4 : kzI l4) {l5 : Int} (hl5 : kzI l5) {l6 : Int} (hl6 : kzI l6) : CRi (Z12_could_134 G k39' l0 l1 l2 l3 l4 l5 l6) (X12_could_134 G k39 l0 (Int32.ofInt l1) (Int32.ofInt l2) (Int32.ofInt l3) (Int32.ofInt l4) (Int32.ofInt l5) (Int32.ofInt l6)) := by
  unfold Z12_could_134 X12_could_134
  exact c_cnd (kz_eq hl6 (by unfold kzI; omega) rfl rfl) ((qX12_could_157 hG hk39 l0 hl1 hl2 hl4 hl3 (by unfold kzI; omega))) (c_gR (fun t1 => c_aI hG (kz_add (kz_mul rfl rfl) rfl) (fun t2 ht2 => c_rg (kz_shl rfl rfl) fun u1 r1 e1 => (e1 ▸ (qX12_could_157 hG hk39 l0 hl1 hl2 hl4 hl3 r1)))))
def Z12_could_126 (G : kdS) (k39 : Nat → Int → Int → Int → Int → kzM → Option (Int × kzM)) (k86 : Nat → Int → Int → Int → Int → Int → Int → Int → kzM → Option (Int × kzM)) (l0 : Nat) (l1 : Int) (l2 : Int) (l3 : Int) (l4 : Int) (l5 : Int) (l7 : Int) (s0 : Int) : kzM → Option (Int × kzM) :=
  zlI (l7 + (1 : Int)) fun t1 =>
  k86 l0 l1 l2 l3 l4 l5 s0 t1
theorem qX12_could_126 {G : kdS} (hG : kzG G) {k39' : Nat → Int → Int → Int → Int → kzM → Option (Int × kzM)} {k39 : Nat → Int32 → Int32 → Int32 → Int32 → kdM → Option (Int32 × kdM)} (hk39 : ∀ (a0 : Nat) (a1 : Int) (_ : kzI a1) (a2 : Int) (_ : kzI a2) (a3 : Int) (_ : kzI a3) (a4 : Int) (_ : kzI a4), CRi (k39' a0 a1 a2 a3 a4) (k39 a0 (Int32.ofInt a1) (Int32.ofInt a2) (Int32.ofInt a3) (Int32.ofInt a4))) {k86' : Nat → Int → Int → Int → Int → Int → Int → Int → kzM → Option (Int × kzM)} {k86 : Nat → Int32 → Int32 → Int32 → Int32 → Int32 → Int32 → Int32 → kdM → Option (Int32 × kdM)} (hk86 : ∀ (a0 : Nat) (a1 : Int) (_ : kzI a1) (a2 : Int) (_ : kzI a2) (a3 : Int) (_ : kzI a3) (a4 : Int) (_ : kzI a4) (a5 : Int) (_ : kzI a5) (a6 : Int) (_ : kzI a6) (a7 : Int) (_ : kzI a7), CRi (k86' a0 a1 a2 a3 a4 a5 a6 a7) (k86 a0 (Int32.ofInt a1) (Int32.ofInt a2) (Int32.ofInt a3) (Int32.ofInt a4) (Int32.ofInt a5) (Int32.ofInt a6) (Int32.ofInt a7))) (l0 : Nat) {l1 : Int} (hl1 : kzI l1) {l2 : Int} (hl2 : kzI l2) {l3 : Int} (hl3 : kzI l3) {l4 : Int} (hl4 : kzI l4) {l5 : Int} (hl5 : kzI l5) {l7 : Int} (hl7 : kzI l7) {s0 : Int} (hs0 : kzI s0) : CRi (Z12_could_126 G k39' k86' l0 l1 l2 l3 l4 l5 l7 s0) (X12_could_126 G k39 k86 l0 (Int32.ofInt l1) (Int32.ofInt l2) (Int32.ofInt l3) (Int32.ofInt l4) (Int32.ofInt l5) (Int32.ofInt l7) (Int32.ofInt s0)) := by
  unfold Z12_could_126 X12_could_126
  exact c_lI (kz_add rfl rfl) (fun t1 ht1 => (hk86 l0 _ hl1 _ hl2 _ hl3 _ hl4 _ hl5 _ hs0 _ ht1))
def Z12_could_86B (G : kdS) (k39 : Nat → Int → Int → Int → Int → kzM → Option (Int × kzM)) (k86 : Nat → Int → Int → Int → Int → Int → Int → Int → kzM → Option (Int × kzM)) (l0 : Nat) (l1 : Int) (l2 : Int) (l3 : Int) (l4 : Int) (l5 : Int) (l6 : Int) (l7 : Int) : kzM → Option (Int × kzM) :=
  zcnd (l2 ≤ l7)
  (Z12_could_134 G k39 l0 l1 l2 l3 l4 l5 l6)
  (zcnd (l6 = (0 : Int))
  (Z12_could_134 G k39 l0 l1 l2 l3 l4 l5 l6)
  (zgR G 12 7 l0 fun t1 =>
  zaI G t1 (((4 : Int) * l5) + l7) fun t2 =>
  zgR G 12 16 l0 fun t3 =>
  zaI G t3 (l1 + l7) fun t4 =>
  zcnd (t2 = t4)
  (Z12_could_126 G k39 k86 l0 l1 l2 l3 l4 l5 l7 (1 : Int))
  (Z12_could_126 G k39 k86 l0 l1 l2 l3 l4 l5 l7 (0 : Int))))
theorem qX12_could_86B {G : kdS} (hG : kzG G) {k39' : Nat → Int → Int → Int → Int → kzM → Option (Int × kzM)} {k39 : Nat → Int32 → Int32 → Int32 → Int32 → kdM → Option (Int32 × kdM)} (hk39 : ∀ (a0 : Nat) (a1 : Int) (_ : kzI a1) (a2 : Int) (_ : kzI a2) (a3 : Int) (_ : kzI a3) (a4 : Int) (_ : kzI a4), CRi (k39' a0 a1 a2 a3 a4) (k39 a0 (Int32.ofInt a1) (Int32.ofInt a2) (Int32.ofInt a3) (Int32.ofInt a4))) {k86' : Nat → Int → Int → Int → Int → Int → Int → Int → kzM → Option (Int × kzM)} {k86 : Nat → Int32 → Int32 → Int32 → Int32 → Int32 → Int32 → Int32 → kdM → Option (Int32 × kdM)} (hk86 : ∀ (a0 : Nat) (a1 : Int) (_ : kzI a1) (a2 : Int) (_ : kzI a2) (a3 : Int) (_ : kzI a3) (a4 : Int) (_ : kzI a4) (a5 : Int) (_ : kzI a5) (a6 : Int) (_ : kzI a6) (a7 : Int) (_ : kzI a7), CRi (k86' a0 a1 a2 a3 a4 a5 a6 a7) (k86 a0 (Int32.ofInt a1) (Int32.ofInt a2) (Int32.ofInt a3) (Int32.ofInt a4) (Int32.ofInt a5) (Int32.ofInt a6) (Int32.ofInt a7))) (l0 : Nat) {l1 : Int} (hl1 : kzI l1) {l2 : Int} (hl2 : kzI l2) {l3 : Int} (hl3 : kzI l3) {l4 : Int} (hl4 : kzI l4) {l5 : Int} (hl5 : kzI l5) {l6 : Int} (hl6 : kzI l6) {l7 : Int} (hl7 : kzI l7) : CRi (Z12_could_86B G k39' k86' l0 l1 l2 l3 l4 l5 l6 l7) (X12_could_86B G k39 k86 l0 (Int32.ofInt l1) (Int32.ofInt l2) (Int32.ofInt l3) (Int32.ofInt l4) (Int32.ofInt l5) (Int32.ofInt l6) (Int32.ofInt l7)) := by
  unfold Z12_could_86B X12_could_86B
  exact c_cnd (kz_le hl2 hl7 rfl rfl) ((qX12_could_134 hG hk39 l0 hl1 hl2 hl3 hl4 hl5 hl6)) (c_cnd (kz_eq hl6 (by unfold kzI; omega) rfl rfl) ((qX12_could_134 hG hk39 l0 hl1 hl2 hl3 hl4 hl5 hl6)) (c_gR (fun t1 => c_aI hG (kz_add (kz_mul rfl rfl) rfl) (fun t2 ht2 => c_gR (fun t3 => c_aI hG (kz_add rfl rfl) (fun t4 ht4 => c_cnd (kz_eq ht2 ht4 rfl rfl) ((qX12_could_126 hG hk39 hk86 l0 hl1 hl2 hl3 hl4 hl5 hl7 (by unfold kzI; omega))) ((qX12_could_126 hG hk39 hk86 l0 hl1 hl2 hl3 hl4 hl5 hl7 (by unfold kzI; omega)))))))))
def Z12_could_86 (G : kdS) (k39 : Nat → Int → Int → Int → Int → kzM → Option (Int × kzM)) : Nat → Int → Int → Int → Int → Int → Int → Int → kzM → Option (Int × kzM) := lp (fun _ _ _ _ _ _ _ _ _ => none) (Z12_could_86B G k39) NN
theorem qX12_could_86 {G : kdS} (hG : kzG G) {k39' : Nat → Int → Int → Int → Int → kzM → Option (Int × kzM)} {k39 : Nat → Int32 → Int32 → Int32 → Int32 → kdM → Option (Int32 × kdM)} (hk39 : ∀ (a0 : Nat) (a1 : Int) (_ : kzI a1) (a2 : Int) (_ : kzI a2) (a3 : Int) (_ : kzI a3) (a4 : Int) (_ : kzI a4), CRi (k39' a0 a1 a2 a3 a4) (k39 a0 (Int32.ofInt a1) (Int32.ofInt a2) (Int32.ofInt a3) (Int32.ofInt a4))) : ∀ (a0 : Nat) (a1 : Int) (_ : kzI a1) (a2 : Int) (_ : kzI a2) (a3 : Int) (_ : kzI a3) (a4 : Int) (_ : kzI a4) (a5 : Int) (_ : kzI a5) (a6 : Int) (_ : kzI a6) (a7 : Int) (_ : kzI a7), CRi (Z12_could_86 G k39' a0 a1 a2 a3 a4 a5 a6 a7) (X12_could_86 G k39 a0 (Int32.ofInt a1) (Int32.ofInt a2) (Int32.ofInt a3) (Int32.ofInt a4) (Int32.ofInt a5) (Int32.ofInt a6) (Int32.ofInt a7)) :=
  lp_rel (R := fun (f' : Nat → Int → Int → Int → Int → Int → Int → Int → kzM → Option (Int × kzM)) (f : Nat → Int32 → Int32 → Int32 → Int32 → Int32 → Int32 → Int32 → kdM → Option (Int32 × kdM)) => ∀ (a0 : Nat) (a1 : Int) (_ : kzI a1) (a2 : Int) (_ : kzI a2) (a3 : Int) (_ : kzI a3) (a4 : Int) (_ : kzI a4) (a5 : Int) (_ : kzI a5) (a6 : Int) (_ : kzI a6) (a7 : Int) (_ : kzI a7), CRi (f' a0 a1 a2 a3 a4 a5 a6 a7) (f a0 (Int32.ofInt a1) (Int32.ofInt a2) (Int32.ofInt a3) (Int32.ofInt a4) (Int32.ofInt a5) (Int32.ofInt a6) (Int32.ofInt a7))) (by intros; exact c_no) (fun _ _ hf a0 a1 ha1 a2 ha2 a3 ha3 a4 ha4 a5 ha5 a6 ha6 a7 ha7 => qX12_could_86B hG hk39 hf a0 ha1 ha2 ha3 ha4 ha5 ha6 ha7) NN
def Z12_could_81 (G : kdS) (k39 : Nat → Int → Int → Int → Int → kzM → Option (Int × kzM)) (l0 : Nat) (l1 : Int) (l2 : Int) (l3 : Int) (l4 : Int) (l5 : Int) (s0 : Int) : kzM → Option (Int × kzM) :=
  Z12_could_86 G k39 l0 l1 l2 l3 l4 l5 s0 (0 : Int)
theorem qX12_could_81 {G : kdS} (hG : kzG G) {k39' : Nat → Int → Int → Int → Int → kzM → Option (Int × kzM)} {k39 : Nat → Int32 → Int32 → Int32 → Int32 → kdM → Option (Int32 × kdM)} (hk39 : ∀ (a0 : Nat) (a1 : Int) (_ : kzI a1) (a2 : Int) (_ : kzI a2) (a3 : Int) (_ : kzI a3) (a4 : Int) (_ : kzI a4), CRi (k39' a0 a1 a2 a3 a4) (k39 a0 (Int32.ofInt a1) (Int32.ofInt a2) (Int32.ofInt a3) (Int32.ofInt a4))) (l0 : Nat) {l1 : Int} (hl1 : kzI l1) {l2 : Int} (hl2 : kzI l2) {l3 : Int} (hl3 : kzI l3) {l4 : Int} (hl4 : kzI l4) {l5 : Int} (hl5 : kzI l5) {s0 : Int} (hs0 : kzI s0) : CRi (Z12_could_81 G k39' l0 l1 l2 l3 l4 l5 s0) (X12_could_81 G k39 l0 (Int32.ofInt l1) (Int32.ofInt l2) (Int32.ofInt l3) (Int32.ofInt l4) (Int32.ofInt l5) (Int32.ofInt s0)) := by
  unfold Z12_could_81 X12_could_81
  exact (qX12_could_86 hG hk39 l0 _ hl1 _ hl2 _ hl3 _ hl4 _ hl5 _ hs0 _ (by unfold kzI; omega))
def Z12_could_39B (G : kdS) (k39 : Nat → Int → Int → Int → Int → kzM → Option (Int × kzM)) (l0 : Nat) (l1 : Int) (l2 : Int) (l3 : Int) (l4 : Int) : kzM → Option (Int × kzM) :=
  zgR G 12 11 l0 fun t1 =>
  zgI G 12 18 l0 fun t2 =>
  zaI G t1 t2 fun t3 =>
  zcnd (t3 ≤ l4)
  (zrt l3)
  (zgI G 12 18 l0 fun t4 =>
  zlI (((24 : Int) * t4) + l4) fun t5 =>
  zgR G 12 8 l0 fun t6 =>
  zaI G t6 t5 fun t7 =>
  zcnd (t7 ≤ l2)
  (Z12_could_81 G k39 l0 l1 l2 l3 l4 t5 (0 : Int))
  (Z12_could_81 G k39 l0 l1 l2 l3 l4 t5 (1 : Int)))
theorem qX12_could_39B {G : kdS} (hG : kzG G) {k39' : Nat → Int → Int → Int → Int → kzM → Option (Int × kzM)} {k39 : Nat → Int32 → Int32 → Int32 → Int32 → kdM → Option (Int32 × kdM)} (hk39 : ∀ (a0 : Nat) (a1 : Int) (_ : kzI a1) (a2 : Int) (_ : kzI a2) (a3 : Int) (_ : kzI a3) (a4 : Int) (_ : kzI a4), CRi (k39' a0 a1 a2 a3 a4) (k39 a0 (Int32.ofInt a1) (Int32.ofInt a2) (Int32.ofInt a3) (Int32.ofInt a4))) (l0 : Nat) {l1 : Int} (hl1 : kzI l1) {l2 : Int} (hl2 : kzI l2) {l3 : Int} (hl3 : kzI l3) {l4 : Int} (hl4 : kzI l4) : CRi (Z12_could_39B G k39' l0 l1 l2 l3 l4) (X12_could_39B G k39 l0 (Int32.ofInt l1) (Int32.ofInt l2) (Int32.ofInt l3) (Int32.ofInt l4)) := by
  unfold Z12_could_39B X12_could_39B
  exact c_gR (fun t1 => c_gI rfl (fun t2 ht2 => c_aI hG rfl (fun t3 ht3 => c_cnd (kz_le ht3 hl4 rfl rfl) (c_rt hl3 rfl) (c_gI rfl (fun t4 ht4 => c_lI (kz_add (kz_mul rfl rfl) rfl) (fun t5 ht5 => c_gR (fun t6 => c_aI hG rfl (fun t7 ht7 => c_cnd (kz_le ht7 hl2 rfl rfl) ((qX12_could_81 hG hk39 l0 hl1 hl2 hl3 hl4 ht5 (by unfold kzI; omega))) ((qX12_could_81 hG hk39 l0 hl1 hl2 hl3 hl4 ht5 (by unfold kzI; omega)))))))))))
def Z12_could_39 (G : kdS) : Nat → Int → Int → Int → Int → kzM → Option (Int × kzM) := lp (fun _ _ _ _ _ _ => none) (Z12_could_39B G) NN
theorem qX12_could_39 {G : kdS} (hG : kzG G) : ∀ (a0 : Nat) (a1 : Int) (_ : kzI a1) (a2 : Int) (_ : kzI a2) (a3 : Int) (_ : kzI a3) (a4 : Int) (_ : kzI a4), CRi (Z12_could_39 G a0 a1 a2 a3 a4) (X12_could_39 G a0 (Int32.ofInt a1) (Int32.ofInt a2) (Int32.ofInt a3) (Int32.ofInt a4)) :=
  lp_rel (R := fun (f' : Nat → Int → Int → Int → Int → kzM → Option (Int × kzM)) (f : Nat → Int32 → Int32 → Int32 → Int32 → kdM → Option (Int32 × kdM)) => ∀ (a0 : Nat) (a1 : Int) (_ : kzI a1) (a2 : Int) (_ : kzI a2) (a3 : Int) (_ : kzI a3) (a4 : Int) (_ : kzI a4), CRi (f' a0 a1 a2 a3 a4) (f a0 (Int32.ofInt a1) (Int32.ofInt a2) (Int32.ofInt a3) (Int32.ofInt a4))) (by intros; exact c_no) (fun _ _ hf a0 a1 ha1 a2 ha2 a3 ha3 a4 ha4 => qX12_could_39B hG hf a0 ha1 ha2 ha3 ha4) NN
def Z12_could_26 (G : kdS) (l0 : Nat) (s0 : Int) : kzM → Option (Int × kzM) :=
  zgI G 12 17 l0 fun t1 =>
  zlI (t1 - s0) fun t2 =>
  Z12_could_39 G l0 s0 t2 (0 : Int) (0 : Int)
theorem qX12_could_26 {G : kdS} (hG : kzG G) (l0 : Nat) {s0 : Int} (hs0 : kzI s0) : CRi (Z12_could_26 G l0 s0) (X12_could_26 G l0 (Int32.ofInt s0)) := by
  unfold Z12_could_26 X12_could_26
  exact c_gI rfl (fun t1 ht1 => c_lI (kz_sub rfl rfl) (fun t2 ht2 => (qX12_could_39 hG l0 _ hs0 _ ht2 _ (by unfold kzI; omega) _ (by unfold kzI; omega))))
def Z12_could (G : kdS) (l0 : Nat) : kzM → Option (Int × kzM) :=
  zcv G 12 l0 (Z12_walk G l0) fun _ =>
  zgI G 12 21 l0 fun t1 =>
  zcnd (t1 = (0 : Int))
  (Z12_could_26 G l0 (0 : Int))
  (zgR G 12 20 l0 fun t2 =>
  zgI G 12 21 l0 fun t3 =>
  zaI G t2 (t3 - (1 : Int)) fun t4 =>
  Z12_could_26 G l0 t4)
theorem qX12_could {G : kdS} (hG : kzG G) (l0 : Nat) : CRi (Z12_could G l0) (X12_could G l0) := by
  unfold Z12_could X12_could
  exact c_cv (qX12_walk hG l0) (fun _ _ => c_gI rfl (fun t1 ht1 => c_cnd (kz_eq ht1 (by unfold kzI; omega) rfl rfl) ((qX12_could_26 hG l0 (by unfold kzI; omega))) (c_gR (fun t2 => c_gI rfl (fun t3 ht3 => c_aI hG (kz_sub rfl rfl) (fun t4 ht4 => (qX12_could_26 hG l0 ht4)))))))
def Z12_isWord (G : kdS) (l0 : Nat) (l1 : Int) : kzM → Option (Int × kzM) :=
  zgI G 12 29 l0 fun t1 =>
  zlI (t1 - (1 : Int)) fun u1 =>
  zcl (Z12_in G l1 (0 : Int) u1) fun t2 =>
  zrt (zB t2)
theorem qX12_isWord {G : kdS} (hG : kzG G) (l0 : Nat) {l1 : Int} (hl1 : kzI l1) : CRi (Z12_isWord G l0 l1) (X12_isWord G l0 (Int32.ofInt l1)) := by
  unfold Z12_isWord X12_isWord
  exact c_gI rfl (fun t1 ht1 => c_rg (kz_sub rfl rfl) fun u1 r1 e1 => c_cl ((kz_i2l r1 e1) ▸ ((kz_i2l hl1 rfl) ▸ (qX12_in hG (kzI_L hl1) (show kzL (0 : Int) by unfold kzL; omega) (kzI_L r1)))) (fun t2 ht2 => c_rt (kz_BI _) (kz_B rfl)))
def Z12_word_33 (G : kdS) : kzM → Option (Int × kzM) :=
  zrt (-2 : Int)
theorem qX12_word_33 {G : kdS} (hG : kzG G) : CRi (Z12_word_33 G) (X12_word_33 G) := by
  unfold Z12_word_33 X12_word_33
  exact c_rt (by unfold kzI; omega) rfl
def Z12_word_64 (G : kdS) : kzM → Option (Int × kzM) :=
  zrt (-5 : Int)
theorem qX12_word_64 {G : kdS} (hG : kzG G) : CRi (Z12_word_64 G) (X12_word_64 G) := by
  unfold Z12_word_64 X12_word_64
  exact c_rt (by unfold kzI; omega) rfl
def Z12_word_113B (G : kdS) (k113 : Nat → Int → kzM → Option (Int × kzM)) (l0 : Nat) (l4 : Int) : kzM → Option (Int × kzM) :=
  zgI G 12 1 l0 fun t1 =>
  zcnd (t1 ≤ l4)
  (zsI G 12 1 l0 (0 : Int) <|
  zgI G 12 29 l0 fun t2 =>
  zlI (t2 + (1 : Int)) fun u1 =>
  zsI G 12 29 l0 u1 <|
  zgI G 12 29 l0 fun t3 =>
  zlI (t3 - (1 : Int)) fun u2 =>
  zrt u2)
  (zgR G 12 28 l0 fun t4 =>
  zgI G 12 29 l0 fun t5 =>
  zgR G 12 0 l0 fun t6 =>
  zaI G t6 l4 fun t7 =>
  ztI G t4 (((8 : Int) * t5) + l4) t7 <|
  zlI (l4 + (1 : Int)) fun t8 =>
  k113 l0 t8)
theorem qX12_word_113B {G : kdS} (hG : kzG G) {k113' : Nat → Int → kzM → Option (Int × kzM)} {k113 : Nat → Int32 → kdM → Option (Int32 × kdM)} (hk113 : ∀ (a0 : Nat) (a1 : Int) (_ : kzI a1), CRi (k113' a0 a1) (k113 a0 (Int32.ofInt a1))) (l0 : Nat) {l4 : Int} (hl4 : kzI l4) : CRi (Z12_word_113B G k113' l0 l4) (X12_word_113B G k113 l0 (Int32.ofInt l4)) := by
  unfold Z12_word_113B X12_word_113B
  exact c_gI rfl (fun t1 ht1 => c_cnd (kz_le ht1 hl4 rfl rfl) (c_sI rfl (by unfold kzI; omega) rfl (c_gI rfl (fun t2 ht2 => c_rg (kz_add rfl rfl) fun u1 r1 e1 => c_sI rfl r1 e1 (c_gI rfl (fun t3 ht3 => c_rg (kz_sub rfl rfl) fun u2 r2 e2 => c_rt r2 e2))))) (c_gR (fun t4 => c_gI rfl (fun t5 ht5 => c_gR (fun t6 => c_aI hG rfl (fun t7 ht7 => c_tI hG (kz_add (kz_mul rfl rfl) rfl) ht7 rfl (c_lI (kz_add rfl rfl) (fun t8 ht8 => (hk113 l0 _ ht8)))))))))
def Z12_word_113 (G : kdS) : Nat → Int → kzM → Option (Int × kzM) := lp (fun _ _ _ => none) (Z12_word_113B G) NN
theorem qX12_word_113 {G : kdS} (hG : kzG G) : ∀ (a0 : Nat) (a1 : Int) (_ : kzI a1), CRi (Z12_word_113 G a0 a1) (X12_word_113 G a0 (Int32.ofInt a1)) :=
  lp_rel (R := fun (f' : Nat → Int → kzM → Option (Int × kzM)) (f : Nat → Int32 → kdM → Option (Int32 × kdM)) => ∀ (a0 : Nat) (a1 : Int) (_ : kzI a1), CRi (f' a0 a1) (f a0 (Int32.ofInt a1))) (by intros; exact c_no) (fun _ _ hf a0 a1 ha1 => qX12_word_113B hG hf a0 ha1) NN
def Z12_word (G : kdS) (l0 : Nat) (l1 : Int) (l2 : Int) (l3 : Int) : kzM → Option (Int × kzM) :=
  zcl (Z12_isTongue G l1) fun t1 =>
  zcnd (t1 = (0 : Int))
  (zrt (-1 : Int))
  (zcl (Z12_in G l2 (1 : Int) (999 : Int)) fun t2 =>
  zcnd (t2 = (0 : Int))
  (Z12_word_33 G)
  (zcl (Z12_in G l3 (1 : Int) (100 : Int)) fun t3 =>
  zcnd (t3 = (0 : Int))
  (Z12_word_33 G)
  (zgI G 12 29 l0 fun t4 =>
  zcnd (t4 = (60 : Int))
  (zrt (-4 : Int))
  (zgI G 12 1 l0 fun t5 =>
  zcnd (t5 = (0 : Int))
  (Z12_word_64 G)
  (zgI G 12 1 l0 fun t6 =>
  zcnd (t6 ≤ (8 : Int))
  (zgR G 12 24 l0 fun t7 =>
  zgI G 12 29 l0 fun t8 =>
  ztI G t7 t8 l1 <|
  zgR G 12 25 l0 fun t9 =>
  zgI G 12 29 l0 fun t10 =>
  ztI G t9 t10 l2 <|
  zgR G 12 26 l0 fun t11 =>
  zgI G 12 29 l0 fun t12 =>
  ztI G t11 t12 l3 <|
  zgR G 12 27 l0 fun t13 =>
  zgI G 12 29 l0 fun t14 =>
  zgI G 12 1 l0 fun t15 =>
  ztI G t13 t14 t15 <|
  Z12_word_113 G l0 (0 : Int))
  (Z12_word_64 G))))))
theorem qX12_word {G : kdS} (hG : kzG G) (l0 : Nat) {l1 : Int} (hl1 : kzI l1) {l2 : Int} (hl2 : kzI l2) {l3 : Int} (hl3 : kzI l3) : CRi (Z12_word G l0 l1 l2 l3) (X12_word G l0 (Int32.ofInt l1) (Int32.ofInt l2) (Int32.ofInt l3)) := by
  unfold Z12_word X12_word
  exact c_cl (qX12_isTongue hG hl1) (fun t1 ht1 => c_cnd (kz_eq ht1 (by unfold kzI; omega) rfl rfl) (c_rt (by unfold kzI; omega) rfl) (c_cl ((kz_i2l hl2 rfl) ▸ (qX12_in hG (kzI_L hl2) (show kzL (1 : Int) by unfold kzL; omega) (show kzL (999 : Int) by unfold kzL; omega))) (fun t2 ht2 => c_cnd (kz_eq ht2 (by unfold kzI; omega) rfl rfl) ((qX12_word_33 hG)) (c_cl ((kz_i2l hl3 rfl) ▸ (qX12_in hG (kzI_L hl3) (show kzL (1 : Int) by unfold kzL; omega) (show kzL (100 : Int) by unfold kzL; omega))) (fun t3 ht3 => c_cnd (kz_eq ht3 (by unfold kzI; omega) rfl rfl) ((qX12_word_33 hG)) (c_gI rfl (fun t4 ht4 => c_cnd (kz_eq ht4 (by unfold kzI; omega) rfl rfl) (c_rt (by unfold kzI; omega) rfl) (c_gI rfl (fun t5 ht5 => c_cnd (kz_eq ht5 (by unfold kzI; omega) rfl rfl) ((qX12_word_64 hG)) (c_gI rfl (fun t6 ht6 => c_cnd (kz_le ht6 (by unfold kzI; omega) rfl rfl) (c_gR (fun t7 => c_gI rfl (fun t8 ht8 => c_tI hG rfl hl1 rfl (c_gR (fun t9 => c_gI rfl (fun t10 ht10 => c_tI hG rfl hl2 rfl (c_gR (fun t11 => c_gI rfl (fun t12 ht12 => c_tI hG rfl hl3 rfl (c_gR (fun t13 => c_gI rfl (fun t14 ht14 => c_gI rfl (fun t15 ht15 => c_tI hG rfl ht15 rfl ((qX12_word_113 hG l0 _ (by unfold kzI; omega)))))))))))))))) ((qX12_word_64 hG)))))))))))))
def Z12_ofWord_111 (G : kdS) (s0 : Int) : kzM → Option (Int × kzM) :=
  zrt s0
theorem qX12_ofWord_111 {G : kdS} (hG : kzG G) {s0 : Int} (hs0 : kzI s0) : CRi (Z12_ofWord_111 G s0) (X12_ofWord_111 G (Int32.ofInt s0)) := by
  unfold Z12_ofWord_111 X12_ofWord_111
  exact c_rt hs0 rfl
def Z12_ofWord (G : kdS) (l0 : Nat) (l1 : Int) (l2 : Int) : kzM → Option (Int × kzM) :=
  zcv G 12 l0 (Z12_isWord G l0 l1) fun t1 =>
  zcnd (t1 = (0 : Int))
  (zrt (-1 : Int))
  (zcnd (l2 = (0 : Int))
  (zgR G 12 24 l0 fun t2 =>
  zaI G t2 l1 fun t3 =>
  zrt t3)
  (zcnd (l2 = (1 : Int))
  (zgR G 12 25 l0 fun t4 =>
  zaI G t4 l1 fun t5 =>
  zrt t5)
  (zcnd (l2 = (2 : Int))
  (zgR G 12 26 l0 fun t6 =>
  zaI G t6 l1 fun t7 =>
  zrt t7)
  (zcnd (l2 = (3 : Int))
  (zgR G 12 27 l0 fun t8 =>
  zaI G t8 l1 fun t9 =>
  zrt t9)
  (zcnd ((10 : Int) ≤ l2)
  (zgR G 12 27 l0 fun t10 =>
  zaI G t10 l1 fun t11 =>
  zlI (l2 - (10 : Int)) fun u1 =>
  zcnd (t11 ≤ u1)
  (Z12_ofWord_111 G (-6 : Int))
  (zgR G 12 28 l0 fun t12 =>
  zaI G t12 ((((8 : Int) * l1) + l2) - (10 : Int)) fun t13 =>
  Z12_ofWord_111 G t13))
  (Z12_ofWord_111 G (-2 : Int)))))))
theorem qX12_ofWord {G : kdS} (hG : kzG G) (l0 : Nat) {l1 : Int} (hl1 : kzI l1) {l2 : Int} (hl2 : kzI l2) : CRi (Z12_ofWord G l0 l1 l2) (X12_ofWord G l0 (Int32.ofInt l1) (Int32.ofInt l2)) := by
  unfold Z12_ofWord X12_ofWord
  exact c_cv (qX12_isWord hG l0 hl1) (fun t1 ht1 => c_cnd (kz_eq ht1 (by unfold kzI; omega) rfl rfl) (c_rt (by unfold kzI; omega) rfl) (c_cnd (kz_eq hl2 (by unfold kzI; omega) rfl rfl) (c_gR (fun t2 => c_aI hG rfl (fun t3 ht3 => c_rt ht3 rfl))) (c_cnd (kz_eq hl2 (by unfold kzI; omega) rfl rfl) (c_gR (fun t4 => c_aI hG rfl (fun t5 ht5 => c_rt ht5 rfl))) (c_cnd (kz_eq hl2 (by unfold kzI; omega) rfl rfl) (c_gR (fun t6 => c_aI hG rfl (fun t7 ht7 => c_rt ht7 rfl))) (c_cnd (kz_eq hl2 (by unfold kzI; omega) rfl rfl) (c_gR (fun t8 => c_aI hG rfl (fun t9 ht9 => c_rt ht9 rfl))) (c_cnd (kz_le (by unfold kzI; omega) hl2 rfl rfl) (c_gR (fun t10 => c_aI hG rfl (fun t11 ht11 => c_rg (kz_sub rfl rfl) fun u1 r1 e1 => c_cnd (kz_le ht11 r1 rfl e1) ((qX12_ofWord_111 hG (by unfold kzI; omega))) (c_gR (fun t12 => c_aI hG (kz_sub (kz_add (kz_mul rfl rfl) rfl) rfl) (fun t13 ht13 => (qX12_ofWord_111 hG ht13))))))) ((qX12_ofWord_111 hG (by unfold kzI; omega)))))))))
def Z12_count (G : kdS) (l0 : Nat) (l1 : Int) (l2 : Int) : kzM → Option (Int × kzM) :=
  zcv G 12 l0 (Z12_isWord G l0 l1) fun t1 =>
  zcnd (t1 = (0 : Int))
  (zrt (-1 : Int))
  (zcl (Z12_in G l2 (1 : Int) (100 : Int)) fun t2 =>
  zcnd (t2 = (0 : Int))
  (zrt (-2 : Int))
  (zgR G 12 26 l0 fun t3 =>
  zaI G t3 l1 fun t4 =>
  zgR G 12 26 l0 fun t5 =>
  ztI G t5 l1 l2 <|
  zrt t4))
theorem qX12_count {G : kdS} (hG : kzG G) (l0 : Nat) {l1 : Int} (hl1 : kzI l1) {l2 : Int} (hl2 : kzI l2) : CRi (Z12_count G l0 l1 l2) (X12_count G l0 (Int32.ofInt l1) (Int32.ofInt l2)) := by
  unfold Z12_count X12_count
  exact c_cv (qX12_isWord hG l0 hl1) (fun t1 ht1 => c_cnd (kz_eq ht1 (by unfold kzI; omega) rfl rfl) (c_rt (by unfold kzI; omega) rfl) (c_cl ((kz_i2l hl2 rfl) ▸ (qX12_in hG (kzI_L hl2) (show kzL (1 : Int) by unfold kzL; omega) (show kzL (100 : Int) by unfold kzL; omega))) (fun t2 ht2 => c_cnd (kz_eq ht2 (by unfold kzI; omega) rfl rfl) (c_rt (by unfold kzI; omega) rfl) (c_gR (fun t3 => c_aI hG rfl (fun t4 ht4 => c_gR (fun t5 => c_tI hG rfl hl2 rfl (c_rt ht4 rfl))))))))
def Z12_price_33 (G : kdS) : kzM → Option (Int × kzM) :=
  zrt (-2 : Int)
theorem qX12_price_33 {G : kdS} (hG : kzG G) : CRi (Z12_price_33 G) (X12_price_33 G) := by
  unfold Z12_price_33 X12_price_33
  exact c_rt (by unfold kzI; omega) rfl
def Z12_price_24 (G : kdS) (l0 : Nat) (l1 : Int) (l2 : Int) (s0 : Int) (s1 : Int) : kzM → Option (Int × kzM) :=
  zcl (Z12_in G s0 s1 (20 : Int)) fun t1 =>
  zcnd (t1 = (0 : Int))
  (Z12_price_33 G)
  (zgR G 12 30 l0 fun t2 =>
  zaI G t2 l1 fun t3 =>
  zgR G 12 30 l0 fun t4 =>
  ztI G t4 l1 l2 <|
  zrt t3)
theorem qX12_price_24 {G : kdS} (hG : kzG G) (l0 : Nat) {l1 : Int} (hl1 : kzI l1) {l2 : Int} (hl2 : kzI l2) {s0 : Int} (hs0 : kzL s0) {s1 : Int} (hs1 : kzL s1) : CRi (Z12_price_24 G l0 l1 l2 s0 s1) (X12_price_24 G l0 (Int32.ofInt l1) (Int32.ofInt l2) (Int64.ofInt s0) (Int64.ofInt s1)) := by
  unfold Z12_price_24 X12_price_24
  exact c_cl (qX12_in hG hs0 hs1 (show kzL (20 : Int) by unfold kzL; omega)) (fun t1 ht1 => c_cnd (kz_eq ht1 (by unfold kzI; omega) rfl rfl) ((qX12_price_33 hG)) (c_gR (fun t2 => c_aI hG rfl (fun t3 ht3 => c_gR (fun t4 => c_tI hG rfl hl2 rfl (c_rt ht3 rfl))))))
def Z12_price (G : kdS) (l0 : Nat) (l1 : Int) (l2 : Int) : kzM → Option (Int × kzM) :=
  zcl (Z12_in G l1 (0 : Int) (5 : Int)) fun t1 =>
  zcnd (t1 = (0 : Int))
  (Z12_price_33 G)
  (zcnd (l1 = (5 : Int))
  (Z12_price_24 G l0 l1 l2 l2 (0 : Int))
  (Z12_price_24 G l0 l1 l2 l2 (1 : Int)))
theorem qX12_price {G : kdS} (hG : kzG G) (l0 : Nat) {l1 : Int} (hl1 : kzI l1) {l2 : Int} (hl2 : kzI l2) : CRi (Z12_price G l0 l1 l2) (X12_price G l0 (Int32.ofInt l1) (Int32.ofInt l2)) := by
  unfold Z12_price X12_price
  exact c_cl ((kz_i2l hl1 rfl) ▸ (qX12_in hG (kzI_L hl1) (show kzL (0 : Int) by unfold kzL; omega) (show kzL (5 : Int) by unfold kzL; omega))) (fun t1 ht1 => c_cnd (kz_eq ht1 (by unfold kzI; omega) rfl rfl) ((qX12_price_33 hG)) (c_cnd (kz_eq hl1 (by unfold kzI; omega) rfl rfl) (((kz_i2l hl2 rfl) ▸ (qX12_price_24 hG l0 hl1 hl2 (kzI_L hl2) (show kzL (0 : Int) by unfold kzL; omega)))) (((kz_i2l hl2 rfl) ▸ (qX12_price_24 hG l0 hl1 hl2 (kzI_L hl2) (show kzL (1 : Int) by unfold kzL; omega))))))
def Z12_areBeside_38 (G : kdS) (s0 : Int) : kzM → Option (Int × kzM) :=
  zrt (zB s0)
theorem qX12_areBeside_38 {G : kdS} (hG : kzG G) {s0 : Int} (hs0 : kzI s0) : CRi (Z12_areBeside_38 G s0) (X12_areBeside_38 G (Int32.ofInt s0)) := by
  unfold Z12_areBeside_38 X12_areBeside_38
  exact c_rt (kz_BI _) (kz_B rfl)
def Z12_areBeside_37 (G : kdS) : kzM → Option (Int × kzM) :=
  Z12_areBeside_38 G (0 : Int)
theorem qX12_areBeside_37 {G : kdS} (hG : kzG G) : CRi (Z12_areBeside_37 G) (X12_areBeside_37 G) := by
  unfold Z12_areBeside_37 X12_areBeside_37
  exact (qX12_areBeside_38 hG (by unfold kzI; omega))
def Z12_areBeside (G : kdS) (l0 : Int) (l1 : Int) : kzM → Option (Int × kzM) :=
  zcnd (l0 = l1)
  (Z12_areBeside_37 G)
  (znz (4 : Int) <|
  znz (4 : Int) <|
  zlI ((l0.tdiv (4 : Int)) - (l1.tdiv (4 : Int))) fun u1 =>
  zcl (Z12_size G u1) fun t1 =>
  zcnd ((2 : Int) ≤ t1)
  (Z12_areBeside_37 G)
  (znz (4 : Int) <|
  znz (4 : Int) <|
  zlI ((Int.tmod l0 (4 : Int)) - (Int.tmod l1 (4 : Int))) fun u2 =>
  zcl (Z12_size G u2) fun t2 =>
  zcnd ((2 : Int) ≤ t2)
  (Z12_areBeside_37 G)
  (Z12_areBeside_38 G (1 : Int))))
theorem qX12_areBeside {G : kdS} (hG : kzG G) {l0 : Int} (hl0 : kzI l0) {l1 : Int} (hl1 : kzI l1) : CRi (Z12_areBeside G l0 l1) (X12_areBeside G (Int32.ofInt l0) (Int32.ofInt l1)) := by
  unfold Z12_areBeside X12_areBeside
  exact c_cnd (kz_eq hl0 hl1 rfl rfl) ((qX12_areBeside_37 hG)) (c_nz (by unfold kzI; omega) rfl (c_nz (by unfold kzI; omega) rfl (c_rg (kz_sub (kz_div hl0 (by unfold kzI; omega) rfl rfl) (kz_div hl1 (by unfold kzI; omega) rfl rfl)) fun u1 r1 e1 => c_cl (e1 ▸ (qX12_size hG r1)) (fun t1 ht1 => c_cnd (kz_le (by unfold kzI; omega) ht1 rfl rfl) ((qX12_areBeside_37 hG)) (c_nz (by unfold kzI; omega) rfl (c_nz (by unfold kzI; omega) rfl (c_rg (kz_sub (kz_rem hl0 (by unfold kzI; omega) rfl rfl) (kz_rem hl1 (by unfold kzI; omega) rfl rfl)) fun u2 r2 e2 => c_cl (e2 ▸ (qX12_size hG r2)) (fun t2 ht2 => c_cnd (kz_le (by unfold kzI; omega) ht2 rfl rfl) ((qX12_areBeside_37 hG)) ((qX12_areBeside_38 hG (by unfold kzI; omega)))))))))))
def Z12_lesser_10 (G : kdS) (s0 : Int) : kzM → Option (Int × kzM) :=
  zrt s0
theorem qX12_lesser_10 {G : kdS} (hG : kzG G) {s0 : Int} (hs0 : kzI s0) : CRi (Z12_lesser_10 G s0) (X12_lesser_10 G (Int32.ofInt s0)) := by
  unfold Z12_lesser_10 X12_lesser_10
  exact c_rt hs0 rfl
def Z12_lesser (G : kdS) (l0 : Int) (l1 : Int) : kzM → Option (Int × kzM) :=
  zcnd (l1 ≤ l0)
  (Z12_lesser_10 G l1)
  (Z12_lesser_10 G l0)
theorem qX12_lesser {G : kdS} (hG : kzG G) {l0 : Int} (hl0 : kzI l0) {l1 : Int} (hl1 : kzI l1) : CRi (Z12_lesser G l0 l1) (X12_lesser G (Int32.ofInt l0) (Int32.ofInt l1)) := by
  unfold Z12_lesser X12_lesser
  exact c_cnd (kz_le hl1 hl0 rfl rfl) ((qX12_lesser_10 hG hl1)) ((qX12_lesser_10 hG hl0))
def Z12_cheapest_299 (G : kdS) (l5 : Int) : kzM → Option (Int × kzM) :=
  zrt l5
theorem qX12_cheapest_299 {G : kdS} (hG : kzG G) {l5 : Int} (hl5 : kzI l5) : CRi (Z12_cheapest_299 G l5) (X12_cheapest_299 G (Int32.ofInt l5)) := by
  unfold Z12_cheapest_299 X12_cheapest_299
  exact c_rt hl5 rfl
def Z12_cheapest_225 (G : kdS) (l0 : Nat) (l1 : Int) (l3 : Int) (l4 : Int) (l5 : Int) (l6 : Int) (l7 : Int) (l8 : Int) : kzM → Option (Int × kzM) :=
  zcnd (l3 ≤ (1 : Int))
  (Z12_cheapest_299 G l5)
  (zcnd (l4 ≤ (1 : Int))
  (Z12_cheapest_299 G l5)
  (zcnd (l8 = l6)
  (Z12_cheapest_299 G l5)
  (zcnd (l8 = l7)
  (zgR G 12 28 l0 fun t1 =>
  zaI G t1 ((((8 : Int) * l1) + l4) - (2 : Int)) fun t2 =>
  zcnd (l6 = t2)
  (zgR G 12 31 l0 fun t3 =>
  zaI G t3 ((((9 : Int) * (l3 - (2 : Int))) + l4) - (2 : Int)) fun t4 =>
  zgR G 12 30 l0 fun t5 =>
  zaI G t5 (3 : Int) fun t6 =>
  zlI (t4 + t6) fun u1 =>
  zcl (Z12_lesser G l5 u1) fun t7 =>
  Z12_cheapest_299 G t7)
  (Z12_cheapest_299 G l5))
  (Z12_cheapest_299 G l5))))
theorem qX12_cheapest_225 {G : kdS} (hG : kzG G) (l0 : Nat) {l1 : Int} (hl1 : kzI l1) {l3 : Int} (hl3 : kzI l3) {l4 : Int} (hl4 : kzI l4) {l5 : Int} (hl5 : kzI l5) {l6 : Int} (hl6 : kzI l6) {l7 : Int} (hl7 : kzI l7) {l8 : Int} (hl8 : kzI l8) : CRi (Z12_cheapest_225 G l0 l1 l3 l4 l5 l6 l7 l8) (X12_cheapest_225 G l0 (Int32.ofInt l1) (Int32.ofInt l3) (Int32.ofInt l4) (Int32.ofInt l5) (Int32.ofInt l6) (Int32.ofInt l7) (Int32.ofInt l8)) := by
  unfold Z12_cheapest_225 X12_cheapest_225
  exact c_cnd (kz_le hl3 (by unfold kzI; omega) rfl rfl) ((qX12_cheapest_299 hG hl5)) (c_cnd (kz_le hl4 (by unfold kzI; omega) rfl rfl) ((qX12_cheapest_299 hG hl5)) (c_cnd (kz_eq hl8 hl6 rfl rfl) ((qX12_cheapest_299 hG hl5)) (c_cnd (kz_eq hl8 hl7 rfl rfl) (c_gR (fun t1 => c_aI hG (kz_sub (kz_add (kz_mul rfl rfl) rfl) rfl) (fun t2 ht2 => c_cnd (kz_eq hl6 ht2 rfl rfl) (c_gR (fun t3 => c_aI hG (kz_sub (kz_add (kz_mul rfl (kz_sub rfl rfl)) rfl) rfl) (fun t4 ht4 => c_gR (fun t5 => c_aI hG rfl (fun t6 ht6 => c_rg (kz_add rfl rfl) fun u1 r1 e1 => c_cl (e1 ▸ (qX12_lesser hG hl5 r1)) (fun t7 ht7 => (qX12_cheapest_299 hG ht7))))))) ((qX12_cheapest_299 hG hl5))))) ((qX12_cheapest_299 hG hl5)))))
def Z12_cheapest_197 (G : kdS) (l0 : Nat) (l1 : Int) (l3 : Int) (l4 : Int) (l5 : Int) (l6 : Int) (l7 : Int) (l8 : Int) (s0 : Int) : kzM → Option (Int × kzM) :=
  zgR G 12 31 l0 fun t1 =>
  zaI G t1 ((((9 : Int) * (l3 - (1 : Int))) + l4) - (1 : Int)) fun t2 =>
  zlI (t2 + s0) fun u1 =>
  zcl (Z12_lesser G l5 u1) fun t3 =>
  Z12_cheapest_225 G l0 l1 l3 l4 t3 l6 l7 l8
theorem qX12_cheapest_197 {G : kdS} (hG : kzG G) (l0 : Nat) {l1 : Int} (hl1 : kzI l1) {l3 : Int} (hl3 : kzI l3) {l4 : Int} (hl4 : kzI l4) {l5 : Int} (hl5 : kzI l5) {l6 : Int} (hl6 : kzI l6) {l7 : Int} (hl7 : kzI l7) {l8 : Int} (hl8 : kzI l8) {s0 : Int} (hs0 : kzI s0) : CRi (Z12_cheapest_197 G l0 l1 l3 l4 l5 l6 l7 l8 s0) (X12_cheapest_197 G l0 (Int32.ofInt l1) (Int32.ofInt l3) (Int32.ofInt l4) (Int32.ofInt l5) (Int32.ofInt l6) (Int32.ofInt l7) (Int32.ofInt l8) (Int32.ofInt s0)) := by
  unfold Z12_cheapest_197 X12_cheapest_197
  exact c_gR (fun t1 => c_aI hG (kz_sub (kz_add (kz_mul rfl (kz_sub rfl rfl)) rfl) rfl) (fun t2 ht2 => c_rg (kz_add rfl rfl) fun u1 r1 e1 => c_cl (e1 ▸ (qX12_lesser hG hl5 r1)) (fun t3 ht3 => (qX12_cheapest_225 hG l0 hl1 hl3 hl4 ht3 hl6 hl7 hl8))))
def Z12_cheapest_152 (G : kdS) (l0 : Nat) (l1 : Int) (l3 : Int) (l4 : Int) (l5 : Int) (l6 : Int) (l7 : Int) (l8 : Int) : kzM → Option (Int × kzM) :=
  zcnd (l3 ≤ (0 : Int))
  (Z12_cheapest_225 G l0 l1 l3 l4 l5 l6 l7 l8)
  (zcnd (l4 ≤ (0 : Int))
  (Z12_cheapest_225 G l0 l1 l3 l4 l5 l6 l7 l8)
  (zcnd (l6 = l7)
  (Z12_cheapest_197 G l0 l1 l3 l4 l5 l6 l7 l8 (0 : Int))
  (zcl (Z12_areBeside G l6 l7) fun t1 =>
  zcnd (t1 = (0 : Int))
  (zgR G 12 30 l0 fun t2 =>
  zaI G t2 (4 : Int) fun t3 =>
  Z12_cheapest_197 G l0 l1 l3 l4 l5 l6 l7 l8 t3)
  (zgR G 12 30 l0 fun t4 =>
  zaI G t4 (0 : Int) fun t5 =>
  Z12_cheapest_197 G l0 l1 l3 l4 l5 l6 l7 l8 t5))))
theorem qX12_cheapest_152 {G : kdS} (hG : kzG G) (l0 : Nat) {l1 : Int} (hl1 : kzI l1) {l3 : Int} (hl3 : kzI l3) {l4 : Int} (hl4 : kzI l4) {l5 : Int} (hl5 : kzI l5) {l6 : Int} (hl6 : kzI l6) {l7 : Int} (hl7 : kzI l7) {l8 : Int} (hl8 : kzI l8) : CRi (Z12_cheapest_152 G l0 l1 l3 l4 l5 l6 l7 l8) (X12_cheapest_152 G l0 (Int32.ofInt l1) (Int32.ofInt l3) (Int32.ofInt l4) (Int32.ofInt l5) (Int32.ofInt l6) (Int32.ofInt l7) (Int32.ofInt l8)) := by
  unfold Z12_cheapest_152 X12_cheapest_152
  exact c_cnd (kz_le hl3 (by unfold kzI; omega) rfl rfl) ((qX12_cheapest_225 hG l0 hl1 hl3 hl4 hl5 hl6 hl7 hl8)) (c_cnd (kz_le hl4 (by unfold kzI; omega) rfl rfl) ((qX12_cheapest_225 hG l0 hl1 hl3 hl4 hl5 hl6 hl7 hl8)) (c_cnd (kz_eq hl6 hl7 rfl rfl) ((qX12_cheapest_197 hG l0 hl1 hl3 hl4 hl5 hl6 hl7 hl8 (by unfold kzI; omega))) (c_cl (qX12_areBeside hG hl6 hl7) (fun t1 ht1 => c_cnd (kz_eq ht1 (by unfold kzI; omega) rfl rfl) (c_gR (fun t2 => c_aI hG rfl (fun t3 ht3 => (qX12_cheapest_197 hG l0 hl1 hl3 hl4 hl5 hl6 hl7 hl8 ht3)))) (c_gR (fun t4 => c_aI hG rfl (fun t5 ht5 => (qX12_cheapest_197 hG l0 hl1 hl3 hl4 hl5 hl6 hl7 hl8 ht5))))))))
def Z12_cheapest_119 (G : kdS) (l0 : Nat) (l1 : Int) (l3 : Int) (l4 : Int) (l5 : Int) (l6 : Int) (l7 : Int) (l8 : Int) : kzM → Option (Int × kzM) :=
  zcnd (l4 ≤ (0 : Int))
  (Z12_cheapest_152 G l0 l1 l3 l4 l5 l6 l7 l8)
  (zgR G 12 31 l0 fun t1 =>
  zaI G t1 ((((9 : Int) * l3) + l4) - (1 : Int)) fun t2 =>
  zgR G 12 30 l0 fun t3 =>
  zaI G t3 (2 : Int) fun t4 =>
  zlI (t2 + t4) fun u1 =>
  zcl (Z12_lesser G l5 u1) fun t5 =>
  Z12_cheapest_152 G l0 l1 l3 l4 t5 l6 l7 l8)
theorem qX12_cheapest_119 {G : kdS} (hG : kzG G) (l0 : Nat) {l1 : Int} (hl1 : kzI l1) {l3 : Int} (hl3 : kzI l3) {l4 : Int} (hl4 : kzI l4) {l5 : Int} (hl5 : kzI l5) {l6 : Int} (hl6 : kzI l6) {l7 : Int} (hl7 : kzI l7) {l8 : Int} (hl8 : kzI l8) : CRi (Z12_cheapest_119 G l0 l1 l3 l4 l5 l6 l7 l8) (X12_cheapest_119 G l0 (Int32.ofInt l1) (Int32.ofInt l3) (Int32.ofInt l4) (Int32.ofInt l5) (Int32.ofInt l6) (Int32.ofInt l7) (Int32.ofInt l8)) := by
  unfold Z12_cheapest_119 X12_cheapest_119
  exact c_cnd (kz_le hl4 (by unfold kzI; omega) rfl rfl) ((qX12_cheapest_152 hG l0 hl1 hl3 hl4 hl5 hl6 hl7 hl8)) (c_gR (fun t1 => c_aI hG (kz_sub (kz_add (kz_mul rfl rfl) rfl) rfl) (fun t2 ht2 => c_gR (fun t3 => c_aI hG rfl (fun t4 ht4 => c_rg (kz_add rfl rfl) fun u1 r1 e1 => c_cl (e1 ▸ (qX12_lesser hG hl5 r1)) (fun t5 ht5 => (qX12_cheapest_152 hG l0 hl1 hl3 hl4 ht5 hl6 hl7 hl8)))))))
def Z12_cheapest_113 (G : kdS) (l0 : Nat) (l1 : Int) (l3 : Int) (l4 : Int) (l6 : Int) (l7 : Int) (l8 : Int) (s0 : Int) (s1 : Int) (s2 : Int) : kzM → Option (Int × kzM) :=
  zlI (s1 + s2) fun u1 =>
  zcl (Z12_lesser G s0 u1) fun t1 =>
  Z12_cheapest_119 G l0 l1 l3 l4 t1 l6 l7 l8
theorem qX12_cheapest_113 {G : kdS} (hG : kzG G) (l0 : Nat) {l1 : Int} (hl1 : kzI l1) {l3 : Int} (hl3 : kzI l3) {l4 : Int} (hl4 : kzI l4) {l6 : Int} (hl6 : kzI l6) {l7 : Int} (hl7 : kzI l7) {l8 : Int} (hl8 : kzI l8) {s0 : Int} (hs0 : kzI s0) {s1 : Int} (hs1 : kzI s1) {s2 : Int} (hs2 : kzI s2) : CRi (Z12_cheapest_113 G l0 l1 l3 l4 l6 l7 l8 s0 s1 s2) (X12_cheapest_113 G l0 (Int32.ofInt l1) (Int32.ofInt l3) (Int32.ofInt l4) (Int32.ofInt l6) (Int32.ofInt l7) (Int32.ofInt l8) (Int32.ofInt s0) (Int32.ofInt s1) (Int32.ofInt s2)) := by
  unfold Z12_cheapest_113 X12_cheapest_113
  exact c_rg (kz_add rfl rfl) fun u1 r1 e1 => c_cl (e1 ▸ (qX12_lesser hG hs0 r1)) (fun t1 ht1 => (qX12_cheapest_119 hG l0 hl1 hl3 hl4 ht1 hl6 hl7 hl8))
def Z12_cheapest_69 (G : kdS) (l0 : Nat) (l1 : Int) (l3 : Int) (l4 : Int) (l5 : Int) (l6 : Int) (l7 : Int) (s0 : Int) : kzM → Option (Int × kzM) :=
  zcnd (l3 ≤ (0 : Int))
  (Z12_cheapest_119 G l0 l1 l3 l4 l5 l6 l7 s0)
  (zgR G 12 31 l0 fun t1 =>
  zaI G t1 (((9 : Int) * (l3 - (1 : Int))) + l4) fun t2 =>
  zcnd (s0 = l6)
  (zgR G 12 30 l0 fun t3 =>
  zaI G t3 (1 : Int) fun t4 =>
  Z12_cheapest_113 G l0 l1 l3 l4 l6 l7 s0 l5 t2 t4)
  (zgR G 12 30 l0 fun t5 =>
  zaI G t5 (4 : Int) fun t6 =>
  Z12_cheapest_113 G l0 l1 l3 l4 l6 l7 s0 l5 t2 t6))
theorem qX12_cheapest_69 {G : kdS} (hG : kzG G) (l0 : Nat) {l1 : Int} (hl1 : kzI l1) {l3 : Int} (hl3 : kzI l3) {l4 : Int} (hl4 : kzI l4) {l5 : Int} (hl5 : kzI l5) {l6 : Int} (hl6 : kzI l6) {l7 : Int} (hl7 : kzI l7) {s0 : Int} (hs0 : kzI s0) : CRi (Z12_cheapest_69 G l0 l1 l3 l4 l5 l6 l7 s0) (X12_cheapest_69 G l0 (Int32.ofInt l1) (Int32.ofInt l3) (Int32.ofInt l4) (Int32.ofInt l5) (Int32.ofInt l6) (Int32.ofInt l7) (Int32.ofInt s0)) := by
  unfold Z12_cheapest_69 X12_cheapest_69
  exact c_cnd (kz_le hl3 (by unfold kzI; omega) rfl rfl) ((qX12_cheapest_119 hG l0 hl1 hl3 hl4 hl5 hl6 hl7 hs0)) (c_gR (fun t1 => c_aI hG (kz_add (kz_mul rfl (kz_sub rfl rfl)) rfl) (fun t2 ht2 => c_cnd (kz_eq hs0 hl6 rfl rfl) (c_gR (fun t3 => c_aI hG rfl (fun t4 ht4 => (qX12_cheapest_113 hG l0 hl1 hl3 hl4 hl6 hl7 hs0 hl5 ht2 ht4)))) (c_gR (fun t5 => c_aI hG rfl (fun t6 ht6 => (qX12_cheapest_113 hG l0 hl1 hl3 hl4 hl6 hl7 hs0 hl5 ht2 ht6)))))))
def Z12_cheapest_48 (G : kdS) (l0 : Nat) (l1 : Int) (l2 : Int) (l3 : Int) (l4 : Int) (l5 : Int) (l6 : Int) (s0 : Int) : kzM → Option (Int × kzM) :=
  zcnd (l3 ≤ (1 : Int))
  (Z12_cheapest_69 G l0 l1 l3 l4 l5 l6 s0 (-1 : Int))
  (zgR G 12 0 l0 fun t1 =>
  zaI G t1 ((l2 + l3) - (2 : Int)) fun t2 =>
  Z12_cheapest_69 G l0 l1 l3 l4 l5 l6 s0 t2)
theorem qX12_cheapest_48 {G : kdS} (hG : kzG G) (l0 : Nat) {l1 : Int} (hl1 : kzI l1) {l2 : Int} (hl2 : kzI l2) {l3 : Int} (hl3 : kzI l3) {l4 : Int} (hl4 : kzI l4) {l5 : Int} (hl5 : kzI l5) {l6 : Int} (hl6 : kzI l6) {s0 : Int} (hs0 : kzI s0) : CRi (Z12_cheapest_48 G l0 l1 l2 l3 l4 l5 l6 s0) (X12_cheapest_48 G l0 (Int32.ofInt l1) (Int32.ofInt l2) (Int32.ofInt l3) (Int32.ofInt l4) (Int32.ofInt l5) (Int32.ofInt l6) (Int32.ofInt s0)) := by
  unfold Z12_cheapest_48 X12_cheapest_48
  exact c_cnd (kz_le hl3 (by unfold kzI; omega) rfl rfl) ((qX12_cheapest_69 hG l0 hl1 hl3 hl4 hl5 hl6 hs0 (by unfold kzI; omega))) (c_gR (fun t1 => c_aI hG (kz_sub (kz_add rfl rfl) rfl) (fun t2 ht2 => (qX12_cheapest_69 hG l0 hl1 hl3 hl4 hl5 hl6 hs0 ht2))))
def Z12_cheapest_23 (G : kdS) (l0 : Nat) (l1 : Int) (l2 : Int) (l3 : Int) (l4 : Int) (l5 : Int) (s0 : Int) : kzM → Option (Int × kzM) :=
  zcnd (l4 ≤ (0 : Int))
  (Z12_cheapest_48 G l0 l1 l2 l3 l4 l5 s0 (-1 : Int))
  (zgR G 12 28 l0 fun t1 =>
  zaI G t1 ((((8 : Int) * l1) + l4) - (1 : Int)) fun t2 =>
  Z12_cheapest_48 G l0 l1 l2 l3 l4 l5 s0 t2)
theorem qX12_cheapest_23 {G : kdS} (hG : kzG G) (l0 : Nat) {l1 : Int} (hl1 : kzI l1) {l2 : Int} (hl2 : kzI l2) {l3 : Int} (hl3 : kzI l3) {l4 : Int} (hl4 : kzI l4) {l5 : Int} (hl5 : kzI l5) {s0 : Int} (hs0 : kzI s0) : CRi (Z12_cheapest_23 G l0 l1 l2 l3 l4 l5 s0) (X12_cheapest_23 G l0 (Int32.ofInt l1) (Int32.ofInt l2) (Int32.ofInt l3) (Int32.ofInt l4) (Int32.ofInt l5) (Int32.ofInt s0)) := by
  unfold Z12_cheapest_23 X12_cheapest_23
  exact c_cnd (kz_le hl4 (by unfold kzI; omega) rfl rfl) ((qX12_cheapest_48 hG l0 hl1 hl2 hl3 hl4 hl5 hs0 (by unfold kzI; omega))) (c_gR (fun t1 => c_aI hG (kz_sub (kz_add (kz_mul rfl rfl) rfl) rfl) (fun t2 ht2 => (qX12_cheapest_48 hG l0 hl1 hl2 hl3 hl4 hl5 hs0 ht2))))
def Z12_cheapest (G : kdS) (l0 : Nat) (l1 : Int) (l2 : Int) (l3 : Int) (l4 : Int) : kzM → Option (Int × kzM) :=
  zcnd (l3 ≤ (0 : Int))
  (Z12_cheapest_23 G l0 l1 l2 l3 l4 (1000000000 : Int) (-1 : Int))
  (zgR G 12 0 l0 fun t1 =>
  zaI G t1 ((l2 + l3) - (1 : Int)) fun t2 =>
  Z12_cheapest_23 G l0 l1 l2 l3 l4 (1000000000 : Int) t2)
theorem qX12_cheapest {G : kdS} (hG : kzG G) (l0 : Nat) {l1 : Int} (hl1 : kzI l1) {l2 : Int} (hl2 : kzI l2) {l3 : Int} (hl3 : kzI l3) {l4 : Int} (hl4 : kzI l4) : CRi (Z12_cheapest G l0 l1 l2 l3 l4) (X12_cheapest G l0 (Int32.ofInt l1) (Int32.ofInt l2) (Int32.ofInt l3) (Int32.ofInt l4)) := by
  unfold Z12_cheapest X12_cheapest
  exact c_cnd (kz_le hl3 (by unfold kzI; omega) rfl rfl) ((qX12_cheapest_23 hG l0 hl1 hl2 hl3 hl4 (by unfold kzI; omega) (by unfold kzI; omega))) (c_gR (fun t1 => c_aI hG (kz_sub (kz_add rfl rfl) rfl) (fun t2 ht2 => (qX12_cheapest_23 hG l0 hl1 hl2 hl3 hl4 (by unfold kzI; omega) ht2))))
def Z12_priceOf_57 (G : kdS) (k3 : Nat → Int → Int → Int → Int → kzM → Option (Int × kzM)) (k12 : Nat → Int → Int → Int → Int → Int → kzM → Option (Int × kzM)) (l0 : Nat) (l1 : Int) (l2 : Int) (l3 : Int) (l4 : Int) (l5 : Int) (s0 : Nat) (s1 : Int) (s2 : Int) : kzM → Option (Int × kzM) :=
  ztI G s0 s1 s2 <|
  zlI (l5 + (1 : Int)) fun t1 =>
  k12 l0 l1 l2 l3 l4 t1
theorem qX12_priceOf_57 {G : kdS} (hG : kzG G) {k3' : Nat → Int → Int → Int → Int → kzM → Option (Int × kzM)} {k3 : Nat → Int32 → Int32 → Int32 → Int32 → kdM → Option (Int32 × kdM)} (hk3 : ∀ (a0 : Nat) (a1 : Int) (_ : kzI a1) (a2 : Int) (_ : kzI a2) (a3 : Int) (_ : kzI a3) (a4 : Int) (_ : kzI a4), CRi (k3' a0 a1 a2 a3 a4) (k3 a0 (Int32.ofInt a1) (Int32.ofInt a2) (Int32.ofInt a3) (Int32.ofInt a4))) {k12' : Nat → Int → Int → Int → Int → Int → kzM → Option (Int × kzM)} {k12 : Nat → Int32 → Int32 → Int32 → Int32 → Int32 → kdM → Option (Int32 × kdM)} (hk12 : ∀ (a0 : Nat) (a1 : Int) (_ : kzI a1) (a2 : Int) (_ : kzI a2) (a3 : Int) (_ : kzI a3) (a4 : Int) (_ : kzI a4) (a5 : Int) (_ : kzI a5), CRi (k12' a0 a1 a2 a3 a4 a5) (k12 a0 (Int32.ofInt a1) (Int32.ofInt a2) (Int32.ofInt a3) (Int32.ofInt a4) (Int32.ofInt a5))) (l0 : Nat) {l1 : Int} (hl1 : kzI l1) {l2 : Int} (hl2 : kzI l2) {l3 : Int} (hl3 : kzI l3) {l4 : Int} (hl4 : kzI l4) {l5 : Int} (hl5 : kzI l5) (s0 : Nat) {s1 : Int} (hs1 : kzI s1) {s2 : Int} (hs2 : kzI s2) : CRi (Z12_priceOf_57 G k3' k12' l0 l1 l2 l3 l4 l5 s0 s1 s2) (X12_priceOf_57 G k3 k12 l0 (Int32.ofInt l1) (Int32.ofInt l2) (Int32.ofInt l3) (Int32.ofInt l4) (Int32.ofInt l5) s0 (Int32.ofInt s1) (Int32.ofInt s2)) := by
  unfold Z12_priceOf_57 X12_priceOf_57
  exact c_tI hG rfl hs2 rfl (c_lI (kz_add rfl rfl) (fun t1 ht1 => (hk12 l0 _ hl1 _ hl2 _ hl3 _ hl4 _ ht1)))
def Z12_priceOf_12B (G : kdS) (k3 : Nat → Int → Int → Int → Int → kzM → Option (Int × kzM)) (k12 : Nat → Int → Int → Int → Int → Int → kzM → Option (Int × kzM)) (l0 : Nat) (l1 : Int) (l2 : Int) (l3 : Int) (l4 : Int) (l5 : Int) : kzM → Option (Int × kzM) :=
  zgR G 12 27 l0 fun t1 =>
  zaI G t1 l1 fun t2 =>
  zcnd (t2 < l5)
  (zlI (l4 + (1 : Int)) fun t3 =>
  k3 l0 l1 l2 l3 t3)
  (zgR G 12 31 l0 fun t4 =>
  zlI (l4 + l5) fun u3 =>
  zcnd (u3 = (0 : Int))
  (zlI (((9 : Int) * l4) + l5) fun u1 =>
  Z12_priceOf_57 G k3 k12 l0 l1 l2 l3 l4 l5 t4 u1 (0 : Int))
  (zcv G 12 l0 (Z12_cheapest G l0 l1 l2 l4 l5) fun t5 =>
  zlI (((9 : Int) * l4) + l5) fun u2 =>
  Z12_priceOf_57 G k3 k12 l0 l1 l2 l3 l4 l5 t4 u2 t5))
theorem qX12_priceOf_12B {G : kdS} (hG : kzG G) {k3' : Nat → Int → Int → Int → Int → kzM → Option (Int × kzM)} {k3 : Nat → Int32 → Int32 → Int32 → Int32 → kdM → Option (Int32 × kdM)} (hk3 : ∀ (a0 : Nat) (a1 : Int) (_ : kzI a1) (a2 : Int) (_ : kzI a2) (a3 : Int) (_ : kzI a3) (a4 : Int) (_ : kzI a4), CRi (k3' a0 a1 a2 a3 a4) (k3 a0 (Int32.ofInt a1) (Int32.ofInt a2) (Int32.ofInt a3) (Int32.ofInt a4))) {k12' : Nat → Int → Int → Int → Int → Int → kzM → Option (Int × kzM)} {k12 : Nat → Int32 → Int32 → Int32 → Int32 → Int32 → kdM → Option (Int32 × kdM)} (hk12 : ∀ (a0 : Nat) (a1 : Int) (_ : kzI a1) (a2 : Int) (_ : kzI a2) (a3 : Int) (_ : kzI a3) (a4 : Int) (_ : kzI a4) (a5 : Int) (_ : kzI a5), CRi (k12' a0 a1 a2 a3 a4 a5) (k12 a0 (Int32.ofInt a1) (Int32.ofInt a2) (Int32.ofInt a3) (Int32.ofInt a4) (Int32.ofInt a5))) (l0 : Nat) {l1 : Int} (hl1 : kzI l1) {l2 : Int} (hl2 : kzI l2) {l3 : Int} (hl3 : kzI l3) {l4 : Int} (hl4 : kzI l4) {l5 : Int} (hl5 : kzI l5) : CRi (Z12_priceOf_12B G k3' k12' l0 l1 l2 l3 l4 l5) (X12_priceOf_12B G k3 k12 l0 (Int32.ofInt l1) (Int32.ofInt l2) (Int32.ofInt l3) (Int32.ofInt l4) (Int32.ofInt l5)) := by
  unfold Z12_priceOf_12B X12_priceOf_12B
  exact c_gR (fun t1 => c_aI hG rfl (fun t2 ht2 => c_cnd (kz_lt ht2 hl5 rfl rfl) (c_lI (kz_add rfl rfl) (fun t3 ht3 => (hk3 l0 _ hl1 _ hl2 _ hl3 _ ht3))) (c_gR (fun t4 => c_rg (kz_add rfl rfl) fun u3 r3 e3 => c_cnd (kz_eq r3 (by unfold kzI; omega) e3 rfl) (c_rg (kz_add (kz_mul rfl rfl) rfl) fun u1 r1 e1 => (e1 ▸ (qX12_priceOf_57 hG hk3 hk12 l0 hl1 hl2 hl3 hl4 hl5 t4 r1 (by unfold kzI; omega)))) (c_cv (qX12_cheapest hG l0 hl1 hl2 hl4 hl5) (fun t5 ht5 => c_rg (kz_add (kz_mul rfl rfl) rfl) fun u2 r2 e2 => (e2 ▸ (qX12_priceOf_57 hG hk3 hk12 l0 hl1 hl2 hl3 hl4 hl5 t4 r2 ht5))))))))
def Z12_priceOf_12 (G : kdS) (k3 : Nat → Int → Int → Int → Int → kzM → Option (Int × kzM)) : Nat → Int → Int → Int → Int → Int → kzM → Option (Int × kzM) := lp (fun _ _ _ _ _ _ _ => none) (Z12_priceOf_12B G k3) NN
theorem qX12_priceOf_12 {G : kdS} (hG : kzG G) {k3' : Nat → Int → Int → Int → Int → kzM → Option (Int × kzM)} {k3 : Nat → Int32 → Int32 → Int32 → Int32 → kdM → Option (Int32 × kdM)} (hk3 : ∀ (a0 : Nat) (a1 : Int) (_ : kzI a1) (a2 : Int) (_ : kzI a2) (a3 : Int) (_ : kzI a3) (a4 : Int) (_ : kzI a4), CRi (k3' a0 a1 a2 a3 a4) (k3 a0 (Int32.ofInt a1) (Int32.ofInt a2) (Int32.ofInt a3) (Int32.ofInt a4))) : ∀ (a0 : Nat) (a1 : Int) (_ : kzI a1) (a2 : Int) (_ : kzI a2) (a3 : Int) (_ : kzI a3) (a4 : Int) (_ : kzI a4) (a5 : Int) (_ : kzI a5), CRi (Z12_priceOf_12 G k3' a0 a1 a2 a3 a4 a5) (X12_priceOf_12 G k3 a0 (Int32.ofInt a1) (Int32.ofInt a2) (Int32.ofInt a3) (Int32.ofInt a4) (Int32.ofInt a5)) :=
  lp_rel (R := fun (f' : Nat → Int → Int → Int → Int → Int → kzM → Option (Int × kzM)) (f : Nat → Int32 → Int32 → Int32 → Int32 → Int32 → kdM → Option (Int32 × kdM)) => ∀ (a0 : Nat) (a1 : Int) (_ : kzI a1) (a2 : Int) (_ : kzI a2) (a3 : Int) (_ : kzI a3) (a4 : Int) (_ : kzI a4) (a5 : Int) (_ : kzI a5), CRi (f' a0 a1 a2 a3 a4 a5) (f a0 (Int32.ofInt a1) (Int32.ofInt a2) (Int32.ofInt a3) (Int32.ofInt a4) (Int32.ofInt a5))) (by intros; exact c_no) (fun _ _ hf a0 a1 ha1 a2 ha2 a3 ha3 a4 ha4 a5 ha5 => qX12_priceOf_12B hG hk3 hf a0 ha1 ha2 ha3 ha4 ha5) NN
def Z12_priceOf_3B (G : kdS) (k3 : Nat → Int → Int → Int → Int → kzM → Option (Int × kzM)) (l0 : Nat) (l1 : Int) (l2 : Int) (l3 : Int) (l4 : Int) : kzM → Option (Int × kzM) :=
  zcnd (l3 < l4)
  (zgR G 12 31 l0 fun t1 =>
  zgR G 12 27 l0 fun t2 =>
  zaI G t2 l1 fun t3 =>
  zaI G t1 (((9 : Int) * l3) + t3) fun t4 =>
  zrt t4)
  (Z12_priceOf_12 G k3 l0 l1 l2 l3 l4 (0 : Int))
theorem qX12_priceOf_3B {G : kdS} (hG : kzG G) {k3' : Nat → Int → Int → Int → Int → kzM → Option (Int × kzM)} {k3 : Nat → Int32 → Int32 → Int32 → Int32 → kdM → Option (Int32 × kdM)} (hk3 : ∀ (a0 : Nat) (a1 : Int) (_ : kzI a1) (a2 : Int) (_ : kzI a2) (a3 : Int) (_ : kzI a3) (a4 : Int) (_ : kzI a4), CRi (k3' a0 a1 a2 a3 a4) (k3 a0 (Int32.ofInt a1) (Int32.ofInt a2) (Int32.ofInt a3) (Int32.ofInt a4))) (l0 : Nat) {l1 : Int} (hl1 : kzI l1) {l2 : Int} (hl2 : kzI l2) {l3 : Int} (hl3 : kzI l3) {l4 : Int} (hl4 : kzI l4) : CRi (Z12_priceOf_3B G k3' l0 l1 l2 l3 l4) (X12_priceOf_3B G k3 l0 (Int32.ofInt l1) (Int32.ofInt l2) (Int32.ofInt l3) (Int32.ofInt l4)) := by
  unfold Z12_priceOf_3B X12_priceOf_3B
  exact c_cnd (kz_lt hl3 hl4 rfl rfl) (c_gR (fun t1 => c_gR (fun t2 => c_aI hG rfl (fun t3 ht3 => c_aI hG (kz_add (kz_mul rfl rfl) rfl) (fun t4 ht4 => c_rt ht4 rfl))))) ((qX12_priceOf_12 hG hk3 l0 _ hl1 _ hl2 _ hl3 _ hl4 _ (by unfold kzI; omega)))
def Z12_priceOf_3 (G : kdS) : Nat → Int → Int → Int → Int → kzM → Option (Int × kzM) := lp (fun _ _ _ _ _ _ => none) (Z12_priceOf_3B G) NN
theorem qX12_priceOf_3 {G : kdS} (hG : kzG G) : ∀ (a0 : Nat) (a1 : Int) (_ : kzI a1) (a2 : Int) (_ : kzI a2) (a3 : Int) (_ : kzI a3) (a4 : Int) (_ : kzI a4), CRi (Z12_priceOf_3 G a0 a1 a2 a3 a4) (X12_priceOf_3 G a0 (Int32.ofInt a1) (Int32.ofInt a2) (Int32.ofInt a3) (Int32.ofInt a4)) :=
  lp_rel (R := fun (f' : Nat → Int → Int → Int → Int → kzM → Option (Int × kzM)) (f : Nat → Int32 → Int32 → Int32 → Int32 → kdM → Option (Int32 × kdM)) => ∀ (a0 : Nat) (a1 : Int) (_ : kzI a1) (a2 : Int) (_ : kzI a2) (a3 : Int) (_ : kzI a3) (a4 : Int) (_ : kzI a4), CRi (f' a0 a1 a2 a3 a4) (f a0 (Int32.ofInt a1) (Int32.ofInt a2) (Int32.ofInt a3) (Int32.ofInt a4))) (by intros; exact c_no) (fun _ _ hf a0 a1 ha1 a2 ha2 a3 ha3 a4 ha4 => qX12_priceOf_3B hG hf a0 ha1 ha2 ha3 ha4) NN
def Z12_priceOf (G : kdS) (l0 : Nat) (l1 : Int) (l2 : Int) (l3 : Int) : kzM → Option (Int × kzM) :=
  Z12_priceOf_3 G l0 l1 l2 l3 (0 : Int)
theorem qX12_priceOf {G : kdS} (hG : kzG G) (l0 : Nat) {l1 : Int} (hl1 : kzI l1) {l2 : Int} (hl2 : kzI l2) {l3 : Int} (hl3 : kzI l3) : CRi (Z12_priceOf G l0 l1 l2 l3) (X12_priceOf G l0 (Int32.ofInt l1) (Int32.ofInt l2) (Int32.ofInt l3)) := by
  unfold Z12_priceOf X12_priceOf
  exact (qX12_priceOf_3 hG l0 _ hl1 _ hl2 _ hl3 _ (by unfold kzI; omega))
def Z12_slip_32 (G : kdS) (s0 : Int) : kzM → Option (Int × kzM) :=
  zrt s0
theorem qX12_slip_32 {G : kdS} (hG : kzG G) {s0 : Int} (hs0 : kzI s0) : CRi (Z12_slip_32 G s0) (X12_slip_32 G (Int32.ofInt s0)) := by
  unfold Z12_slip_32 X12_slip_32
  exact c_rt hs0 rfl
def Z12_slip (G : kdS) (l0 : Nat) (l1 : Int) : kzM → Option (Int × kzM) :=
  zcv G 12 l0 (Z12_isWord G l0 l1) fun t1 =>
  zcnd (t1 = (0 : Int))
  (zrt (-1 : Int))
  (zgI G 12 1 l0 fun t2 =>
  zcnd (t2 = (0 : Int))
  (Z12_slip_32 G (-3 : Int))
  (zgI G 12 1 l0 fun t3 =>
  zcv G 12 l0 (Z12_priceOf G l0 l1 (0 : Int) t3) fun t4 =>
  Z12_slip_32 G t4))
theorem qX12_slip {G : kdS} (hG : kzG G) (l0 : Nat) {l1 : Int} (hl1 : kzI l1) : CRi (Z12_slip G l0 l1) (X12_slip G l0 (Int32.ofInt l1)) := by
  unfold Z12_slip X12_slip
  exact c_cv (qX12_isWord hG l0 hl1) (fun t1 ht1 => c_cnd (kz_eq ht1 (by unfold kzI; omega) rfl rfl) (c_rt (by unfold kzI; omega) rfl) (c_gI rfl (fun t2 ht2 => c_cnd (kz_eq ht2 (by unfold kzI; omega) rfl rfl) ((qX12_slip_32 hG (by unfold kzI; omega))) (c_gI rfl (fun t3 ht3 => c_cv (qX12_priceOf hG l0 hl1 (by unfold kzI; omega) ht3) (fun t4 ht4 => (qX12_slip_32 hG ht4)))))))
def Z12_isAhead_35 (G : kdS) (s0 : Int) : kzM → Option (Int × kzM) :=
  zrt (zB s0)
theorem qX12_isAhead_35 {G : kdS} (hG : kzG G) {s0 : Int} (hs0 : kzI s0) : CRi (Z12_isAhead_35 G s0) (X12_isAhead_35 G (Int32.ofInt s0)) := by
  unfold Z12_isAhead_35 X12_isAhead_35
  exact c_rt (kz_BI _) (kz_B rfl)
def Z12_isAhead_76 (G : kdS) (s0 : Int) : kzM → Option (Int × kzM) :=
  zrt (zB s0)
theorem qX12_isAhead_76 {G : kdS} (hG : kzG G) {s0 : Int} (hs0 : kzI s0) : CRi (Z12_isAhead_76 G s0) (X12_isAhead_76 G (Int32.ofInt s0)) := by
  unfold Z12_isAhead_76 X12_isAhead_76
  exact c_rt (kz_BI _) (kz_B rfl)
def Z12_isAhead_71 (G : kdS) : kzM → Option (Int × kzM) :=
  Z12_isAhead_76 G (1 : Int)
theorem qX12_isAhead_71 {G : kdS} (hG : kzG G) : CRi (Z12_isAhead_71 G) (X12_isAhead_71 G) := by
  unfold Z12_isAhead_71 X12_isAhead_71
  exact (qX12_isAhead_76 hG (by unfold kzI; omega))
def Z12_isAhead_75 (G : kdS) : kzM → Option (Int × kzM) :=
  Z12_isAhead_76 G (0 : Int)
theorem qX12_isAhead_75 {G : kdS} (hG : kzG G) : CRi (Z12_isAhead_75 G) (X12_isAhead_75 G) := by
  unfold Z12_isAhead_75 X12_isAhead_75
  exact (qX12_isAhead_76 hG (by unfold kzI; omega))
def Z12_isAhead (G : kdS) (l0 : Nat) (l1 : Int) (l2 : Int) : kzM → Option (Int × kzM) :=
  zgR G 12 33 l0 fun t1 =>
  zaI G t1 l1 fun t2 =>
  zgR G 12 33 l0 fun t3 =>
  zaI G t3 l2 fun t4 =>
  zcnd (t2 = t4)
  (zgR G 12 34 l0 fun t5 =>
  zaI G t5 l1 fun t6 =>
  zgR G 12 34 l0 fun t7 =>
  zaI G t7 l2 fun t8 =>
  zcnd (t8 < t6)
  (Z12_isAhead_71 G)
  (zgR G 12 34 l0 fun t9 =>
  zaI G t9 l1 fun t10 =>
  zgR G 12 34 l0 fun t11 =>
  zaI G t11 l2 fun t12 =>
  zcnd (t10 = t12)
  (zcnd (l2 ≤ l1)
  (Z12_isAhead_75 G)
  (Z12_isAhead_71 G))
  (Z12_isAhead_75 G)))
  (zgR G 12 33 l0 fun t13 =>
  zaI G t13 l1 fun t14 =>
  zgR G 12 33 l0 fun t15 =>
  zaI G t15 l2 fun t16 =>
  zcnd (t16 ≤ t14)
  (Z12_isAhead_35 G (0 : Int))
  (Z12_isAhead_35 G (1 : Int)))
theorem qX12_isAhead {G : kdS} (hG : kzG G) (l0 : Nat) {l1 : Int} (hl1 : kzI l1) {l2 : Int} (hl2 : kzI l2) : CRi (Z12_isAhead G l0 l1 l2) (X12_isAhead G l0 (Int32.ofInt l1) (Int32.ofInt l2)) := by
  unfold Z12_isAhead X12_isAhead
  exact c_gR (fun t1 => c_aI hG rfl (fun t2 ht2 => c_gR (fun t3 => c_aI hG rfl (fun t4 ht4 => c_cnd (kz_eq ht2 ht4 rfl rfl) (c_gR (fun t5 => c_aI hG rfl (fun t6 ht6 => c_gR (fun t7 => c_aI hG rfl (fun t8 ht8 => c_cnd (kz_lt ht8 ht6 rfl rfl) ((qX12_isAhead_71 hG)) (c_gR (fun t9 => c_aI hG rfl (fun t10 ht10 => c_gR (fun t11 => c_aI hG rfl (fun t12 ht12 => c_cnd (kz_eq ht10 ht12 rfl rfl) (c_cnd (kz_le hl2 hl1 rfl rfl) ((qX12_isAhead_75 hG)) ((qX12_isAhead_71 hG))) ((qX12_isAhead_75 hG)))))))))))) (c_gR (fun t13 => c_aI hG rfl (fun t14 ht14 => c_gR (fun t15 => c_aI hG rfl (fun t16 ht16 => c_cnd (kz_le ht16 ht14 rfl rfl) ((qX12_isAhead_35 hG (by unfold kzI; omega))) ((qX12_isAhead_35 hG (by unfold kzI; omega))))))))))))
def Z12_worthOf_109 (G : kdS) (k6 : Nat → Int → Int → Int → Int → Int → kzM → Option (Int × kzM)) (l0 : Nat) (l1 : Int) (l2 : Int) (l3 : Int) (l4 : Int) (l5 : Int) : kzM → Option (Int × kzM) :=
  zlI (l5 + (1 : Int)) fun t1 =>
  k6 l0 l1 l2 l3 l4 t1
theorem qX12_worthOf_109 {G : kdS} (hG : kzG G) {k6' : Nat → Int → Int → Int → Int → Int → kzM → Option (Int × kzM)} {k6 : Nat → Int32 → Int32 → Int32 → Int32 → Int32 → kdM → Option (Int32 × kdM)} (hk6 : ∀ (a0 : Nat) (a1 : Int) (_ : kzI a1) (a2 : Int) (_ : kzI a2) (a3 : Int) (_ : kzI a3) (a4 : Int) (_ : kzI a4) (a5 : Int) (_ : kzI a5), CRi (k6' a0 a1 a2 a3 a4 a5) (k6 a0 (Int32.ofInt a1) (Int32.ofInt a2) (Int32.ofInt a3) (Int32.ofInt a4) (Int32.ofInt a5))) (l0 : Nat) {l1 : Int} (hl1 : kzI l1) {l2 : Int} (hl2 : kzI l2) {l3 : Int} (hl3 : kzI l3) {l4 : Int} (hl4 : kzI l4) {l5 : Int} (hl5 : kzI l5) : CRi (Z12_worthOf_109 G k6' l0 l1 l2 l3 l4 l5) (X12_worthOf_109 G k6 l0 (Int32.ofInt l1) (Int32.ofInt l2) (Int32.ofInt l3) (Int32.ofInt l4) (Int32.ofInt l5)) := by
  unfold Z12_worthOf_109 X12_worthOf_109
  exact c_lI (kz_add rfl rfl) (fun t1 ht1 => (hk6 l0 _ hl1 _ hl2 _ hl3 _ hl4 _ ht1))
def Z12_worthOf_102 (G : kdS) (k6 : Nat → Int → Int → Int → Int → Int → kzM → Option (Int × kzM)) (l0 : Nat) (l1 : Int) (l2 : Int) (l3 : Int) (l4 : Int) (l5 : Int) (l6 : Int) : kzM → Option (Int × kzM) :=
  zlI (l4 + l6) fun t1 =>
  Z12_worthOf_109 G k6 l0 l1 l2 l3 t1 l5
theorem qX12_worthOf_102 {G : kdS} (hG : kzG G) {k6' : Nat → Int → Int → Int → Int → Int → kzM → Option (Int × kzM)} {k6 : Nat → Int32 → Int32 → Int32 → Int32 → Int32 → kdM → Option (Int32 × kdM)} (hk6 : ∀ (a0 : Nat) (a1 : Int) (_ : kzI a1) (a2 : Int) (_ : kzI a2) (a3 : Int) (_ : kzI a3) (a4 : Int) (_ : kzI a4) (a5 : Int) (_ : kzI a5), CRi (k6' a0 a1 a2 a3 a4 a5) (k6 a0 (Int32.ofInt a1) (Int32.ofInt a2) (Int32.ofInt a3) (Int32.ofInt a4) (Int32.ofInt a5))) (l0 : Nat) {l1 : Int} (hl1 : kzI l1) {l2 : Int} (hl2 : kzI l2) {l3 : Int} (hl3 : kzI l3) {l4 : Int} (hl4 : kzI l4) {l5 : Int} (hl5 : kzI l5) {l6 : Int} (hl6 : kzI l6) : CRi (Z12_worthOf_102 G k6' l0 l1 l2 l3 l4 l5 l6) (X12_worthOf_102 G k6 l0 (Int32.ofInt l1) (Int32.ofInt l2) (Int32.ofInt l3) (Int32.ofInt l4) (Int32.ofInt l5) (Int32.ofInt l6)) := by
  unfold Z12_worthOf_102 X12_worthOf_102
  exact c_lI (kz_add rfl rfl) (fun t1 ht1 => (qX12_worthOf_109 hG hk6 l0 hl1 hl2 hl3 ht1 hl5))
def Z12_worthOf_62B (G : kdS) (k6 : Nat → Int → Int → Int → Int → Int → kzM → Option (Int × kzM)) (k62 : Nat → Int → Int → Int → Int → Int → Int → Int → kzM → Option (Int × kzM)) (l0 : Nat) (l1 : Int) (l2 : Int) (l3 : Int) (l4 : Int) (l5 : Int) (l6 : Int) (l7 : Int) : kzM → Option (Int × kzM) :=
  zcnd (l3 ≤ l7)
  (Z12_worthOf_102 G k6 l0 l1 l2 l3 l4 l5 l6)
  (zcnd (l6 ≤ (0 : Int))
  (Z12_worthOf_102 G k6 l0 l1 l2 l3 l4 l5 l6)
  (zgI G 12 52 l0 fun t1 =>
  zcnd ((1000 : Int) ≤ t1)
  (Z12_worthOf_102 G k6 l0 l1 l2 l3 l4 l5 l6)
  (zgI G 12 52 l0 fun t2 =>
  znz (1000 : Int) <|
  zlI (l6 * t2) fun u1 =>
  zlI (u1.tdiv (1000 : Int)) fun t3 =>
  zlI (l7 + (1 : Int)) fun t4 =>
  k62 l0 l1 l2 l3 l4 l5 t3 t4)))
theorem qX12_worthOf_62B {G : kdS} (hG : kzG G) {k6' : Nat → Int → Int → Int → Int → Int → kzM → Option (Int × kzM)} {k6 : Nat → Int32 → Int32 → Int32 → Int32 → Int32 → kdM → Option (Int32 × kdM)} (hk6 : ∀ (a0 : Nat) (a1 : Int) (_ : kzI a1) (a2 : Int) (_ : kzI a2) (a3 : Int) (_ : kzI a3) (a4 : Int) (_ : kzI a4) (a5 : Int) (_ : kzI a5), CRi (k6' a0 a1 a2 a3 a4 a5) (k6 a0 (Int32.ofInt a1) (Int32.ofInt a2) (Int32.ofInt a3) (Int32.ofInt a4) (Int32.ofInt a5))) {k62' : Nat → Int → Int → Int → Int → Int → Int → Int → kzM → Option (Int × kzM)} {k62 : Nat → Int32 → Int32 → Int32 → Int32 → Int32 → Int32 → Int32 → kdM → Option (Int32 × kdM)} (hk62 : ∀ (a0 : Nat) (a1 : Int) (_ : kzI a1) (a2 : Int) (_ : kzI a2) (a3 : Int) (_ : kzI a3) (a4 : Int) (_ : kzI a4) (a5 : Int) (_ : kzI a5) (a6 : Int) (_ : kzI a6) (a7 : Int) (_ : kzI a7), CRi (k62' a0 a1 a2 a3 a4 a5 a6 a7) (k62 a0 (Int32.ofInt a1) (Int32.ofInt a2) (Int32.ofInt a3) (Int32.ofInt a4) (Int32.ofInt a5) (Int32.ofInt a6) (Int32.ofInt a7))) (l0 : Nat) {l1 : Int} (hl1 : kzI l1) {l2 : Int} (hl2 : kzI l2) {l3 : Int} (hl3 : kzI l3) {l4 : Int} (hl4 : kzI l4) {l5 : Int} (hl5 : kzI l5) {l6 : Int} (hl6 : kzI l6) {l7 : Int} (hl7 : kzI l7) : CRi (Z12_worthOf_62B G k6' k62' l0 l1 l2 l3 l4 l5 l6 l7) (X12_worthOf_62B G k6 k62 l0 (Int32.ofInt l1) (Int32.ofInt l2) (Int32.ofInt l3) (Int32.ofInt l4) (Int32.ofInt l5) (Int32.ofInt l6) (Int32.ofInt l7)) := by
  unfold Z12_worthOf_62B X12_worthOf_62B
  exact c_cnd (kz_le hl3 hl7 rfl rfl) ((qX12_worthOf_102 hG hk6 l0 hl1 hl2 hl3 hl4 hl5 hl6)) (c_cnd (kz_le hl6 (by unfold kzI; omega) rfl rfl) ((qX12_worthOf_102 hG hk6 l0 hl1 hl2 hl3 hl4 hl5 hl6)) (c_gI rfl (fun t1 ht1 => c_cnd (kz_le (by unfold kzI; omega) ht1 rfl rfl) ((qX12_worthOf_102 hG hk6 l0 hl1 hl2 hl3 hl4 hl5 hl6)) (c_gI rfl (fun t2 ht2 => c_nz (by unfold kzI; omega) rfl (c_rg (kz_mul rfl rfl) fun u1 r1 e1 => c_lI (kz_div r1 (by unfold kzI; omega) e1 rfl) (fun t3 ht3 => c_lI (kz_add rfl rfl) (fun t4 ht4 => (hk62 l0 _ hl1 _ hl2 _ hl3 _ hl4 _ hl5 _ ht3 _ ht4)))))))))
def Z12_worthOf_62 (G : kdS) (k6 : Nat → Int → Int → Int → Int → Int → kzM → Option (Int × kzM)) : Nat → Int → Int → Int → Int → Int → Int → Int → kzM → Option (Int × kzM) := lp (fun _ _ _ _ _ _ _ _ _ => none) (Z12_worthOf_62B G k6) NN
theorem qX12_worthOf_62 {G : kdS} (hG : kzG G) {k6' : Nat → Int → Int → Int → Int → Int → kzM → Option (Int × kzM)} {k6 : Nat → Int32 → Int32 → Int32 → Int32 → Int32 → kdM → Option (Int32 × kdM)} (hk6 : ∀ (a0 : Nat) (a1 : Int) (_ : kzI a1) (a2 : Int) (_ : kzI a2) (a3 : Int) (_ : kzI a3) (a4 : Int) (_ : kzI a4) (a5 : Int) (_ : kzI a5), CRi (k6' a0 a1 a2 a3 a4 a5) (k6 a0 (Int32.ofInt a1) (Int32.ofInt a2) (Int32.ofInt a3) (Int32.ofInt a4) (Int32.ofInt a5))) : ∀ (a0 : Nat) (a1 : Int) (_ : kzI a1) (a2 : Int) (_ : kzI a2) (a3 : Int) (_ : kzI a3) (a4 : Int) (_ : kzI a4) (a5 : Int) (_ : kzI a5) (a6 : Int) (_ : kzI a6) (a7 : Int) (_ : kzI a7), CRi (Z12_worthOf_62 G k6' a0 a1 a2 a3 a4 a5 a6 a7) (X12_worthOf_62 G k6 a0 (Int32.ofInt a1) (Int32.ofInt a2) (Int32.ofInt a3) (Int32.ofInt a4) (Int32.ofInt a5) (Int32.ofInt a6) (Int32.ofInt a7)) :=
  lp_rel (R := fun (f' : Nat → Int → Int → Int → Int → Int → Int → Int → kzM → Option (Int × kzM)) (f : Nat → Int32 → Int32 → Int32 → Int32 → Int32 → Int32 → Int32 → kdM → Option (Int32 × kdM)) => ∀ (a0 : Nat) (a1 : Int) (_ : kzI a1) (a2 : Int) (_ : kzI a2) (a3 : Int) (_ : kzI a3) (a4 : Int) (_ : kzI a4) (a5 : Int) (_ : kzI a5) (a6 : Int) (_ : kzI a6) (a7 : Int) (_ : kzI a7), CRi (f' a0 a1 a2 a3 a4 a5 a6 a7) (f a0 (Int32.ofInt a1) (Int32.ofInt a2) (Int32.ofInt a3) (Int32.ofInt a4) (Int32.ofInt a5) (Int32.ofInt a6) (Int32.ofInt a7))) (by intros; exact c_no) (fun _ _ hf a0 a1 ha1 a2 ha2 a3 ha3 a4 ha4 a5 ha5 a6 ha6 a7 ha7 => qX12_worthOf_62B hG hk6 hf a0 ha1 ha2 ha3 ha4 ha5 ha6 ha7) NN
def Z12_worthOf_6B (G : kdS) (k6 : Nat → Int → Int → Int → Int → Int → kzM → Option (Int × kzM)) (l0 : Nat) (l1 : Int) (l2 : Int) (l3 : Int) (l4 : Int) (l5 : Int) : kzM → Option (Int × kzM) :=
  zgI G 12 51 l0 fun t1 =>
  zcnd (t1 ≤ l5)
  (zrt l4)
  (zgR G 12 48 l0 fun t2 =>
  zaI G t2 l5 fun t3 =>
  zcnd (t3 = l1)
  (zgR G 12 49 l0 fun t4 =>
  zaI G t4 l5 fun t5 =>
  zcnd (t5 = l2)
  (zgR G 12 50 l0 fun t6 =>
  zaI G t6 l5 fun t7 =>
  zcnd (l3 < t7)
  (Z12_worthOf_109 G k6 l0 l1 l2 l3 l4 l5)
  (zgR G 12 50 l0 fun t8 =>
  zaI G t8 l5 fun t9 =>
  Z12_worthOf_62 G k6 l0 l1 l2 l3 l4 l5 (1000 : Int) t9))
  (Z12_worthOf_109 G k6 l0 l1 l2 l3 l4 l5))
  (Z12_worthOf_109 G k6 l0 l1 l2 l3 l4 l5))
theorem qX12_worthOf_6B {G : kdS} (hG : kzG G) {k6' : Nat → Int → Int → Int → Int → Int → kzM → Option (Int × kzM)} {k6 : Nat → Int32 → Int32 → Int32 → Int32 → Int32 → kdM → Option (Int32 × kdM)} (hk6 : ∀ (a0 : Nat) (a1 : Int) (_ : kzI a1) (a2 : Int) (_ : kzI a2) (a3 : Int) (_ : kzI a3) (a4 : Int) (_ : kzI a4) (a5 : Int) (_ : kzI a5), CRi (k6' a0 a1 a2 a3 a4 a5) (k6 a0 (Int32.ofInt a1) (Int32.ofInt a2) (Int32.ofInt a3) (Int32.ofInt a4) (Int32.ofInt a5))) (l0 : Nat) {l1 : Int} (hl1 : kzI l1) {l2 : Int} (hl2 : kzI l2) {l3 : Int} (hl3 : kzI l3) {l4 : Int} (hl4 : kzI l4) {l5 : Int} (hl5 : kzI l5) : CRi (Z12_worthOf_6B G k6' l0 l1 l2 l3 l4 l5) (X12_worthOf_6B G k6 l0 (Int32.ofInt l1) (Int32.ofInt l2) (Int32.ofInt l3) (Int32.ofInt l4) (Int32.ofInt l5)) := by
  unfold Z12_worthOf_6B X12_worthOf_6B
  exact c_gI rfl (fun t1 ht1 => c_cnd (kz_le ht1 hl5 rfl rfl) (c_rt hl4 rfl) (c_gR (fun t2 => c_aI hG rfl (fun t3 ht3 => c_cnd (kz_eq ht3 hl1 rfl rfl) (c_gR (fun t4 => c_aI hG rfl (fun t5 ht5 => c_cnd (kz_eq ht5 hl2 rfl rfl) (c_gR (fun t6 => c_aI hG rfl (fun t7 ht7 => c_cnd (kz_lt hl3 ht7 rfl rfl) ((qX12_worthOf_109 hG hk6 l0 hl1 hl2 hl3 hl4 hl5)) (c_gR (fun t8 => c_aI hG rfl (fun t9 ht9 => (qX12_worthOf_62 hG hk6 l0 _ hl1 _ hl2 _ hl3 _ hl4 _ hl5 _ (by unfold kzI; omega) _ ht9))))))) ((qX12_worthOf_109 hG hk6 l0 hl1 hl2 hl3 hl4 hl5))))) ((qX12_worthOf_109 hG hk6 l0 hl1 hl2 hl3 hl4 hl5))))))
def Z12_worthOf_6 (G : kdS) : Nat → Int → Int → Int → Int → Int → kzM → Option (Int × kzM) := lp (fun _ _ _ _ _ _ _ => none) (Z12_worthOf_6B G) NN
theorem qX12_worthOf_6 {G : kdS} (hG : kzG G) : ∀ (a0 : Nat) (a1 : Int) (_ : kzI a1) (a2 : Int) (_ : kzI a2) (a3 : Int) (_ : kzI a3) (a4 : Int) (_ : kzI a4) (a5 : Int) (_ : kzI a5), CRi (Z12_worthOf_6 G a0 a1 a2 a3 a4 a5) (X12_worthOf_6 G a0 (Int32.ofInt a1) (Int32.ofInt a2) (Int32.ofInt a3) (Int32.ofInt a4) (Int32.ofInt a5)) :=
  lp_rel (R := fun (f' : Nat → Int → Int → Int → Int → Int → kzM → Option (Int × kzM)) (f : Nat → Int32 → Int32 → Int32 → Int32 → Int32 → kdM → Option (Int32 × kdM)) => ∀ (a0 : Nat) (a1 : Int) (_ : kzI a1) (a2 : Int) (_ : kzI a2) (a3 : Int) (_ : kzI a3) (a4 : Int) (_ : kzI a4) (a5 : Int) (_ : kzI a5), CRi (f' a0 a1 a2 a3 a4 a5) (f a0 (Int32.ofInt a1) (Int32.ofInt a2) (Int32.ofInt a3) (Int32.ofInt a4) (Int32.ofInt a5))) (by intros; exact c_no) (fun _ _ hf a0 a1 ha1 a2 ha2 a3 ha3 a4 ha4 a5 ha5 => qX12_worthOf_6B hG hf a0 ha1 ha2 ha3 ha4 ha5) NN
def Z12_worthOf (G : kdS) (l0 : Nat) (l1 : Int) (l2 : Int) (l3 : Int) : kzM → Option (Int × kzM) :=
  Z12_worthOf_6 G l0 l1 l2 l3 (0 : Int) (0 : Int)
theorem qX12_worthOf {G : kdS} (hG : kzG G) (l0 : Nat) {l1 : Int} (hl1 : kzI l1) {l2 : Int} (hl2 : kzI l2) {l3 : Int} (hl3 : kzI l3) : CRi (Z12_worthOf G l0 l1 l2 l3) (X12_worthOf G l0 (Int32.ofInt l1) (Int32.ofInt l2) (Int32.ofInt l3)) := by
  unfold Z12_worthOf X12_worthOf
  exact (qX12_worthOf_6 hG l0 _ hl1 _ hl2 _ hl3 _ (by unfold kzI; omega) _ (by unfold kzI; omega))
def Z12_findGuesses_173 (G : kdS) (k8 : Nat → Int → Int → Int → Int → Int → kzM → Option (Unit × kzM)) (l0 : Nat) (l1 : Int) (l2 : Int) (l3 : Int) (l4 : Int) (l5 : Int) : kzM → Option (Unit × kzM) :=
  zlI (l5 + (1 : Int)) fun t1 =>
  k8 l0 l1 l2 l3 l4 t1
theorem qX12_findGuesses_173 {G : kdS} (hG : kzG G) {k8' : Nat → Int → Int → Int → Int → Int → kzM → Option (Unit × kzM)} {k8 : Nat → Int32 → Int32 → Int32 → Int32 → Int32 → kdM → Option (Unit × kdM)} (hk8 : ∀ (a0 : Nat) (a1 : Int) (_ : kzI a1) (a2 : Int) (_ : kzI a2) (a3 : Int) (_ : kzI a3) (a4 : Int) (_ : kzI a4) (a5 : Int) (_ : kzI a5), CRu (k8' a0 a1 a2 a3 a4 a5) (k8 a0 (Int32.ofInt a1) (Int32.ofInt a2) (Int32.ofInt a3) (Int32.ofInt a4) (Int32.ofInt a5))) (l0 : Nat) {l1 : Int} (hl1 : kzI l1) {l2 : Int} (hl2 : kzI l2) {l3 : Int} (hl3 : kzI l3) {l4 : Int} (hl4 : kzI l4) {l5 : Int} (hl5 : kzI l5) : CRu (Z12_findGuesses_173 G k8' l0 l1 l2 l3 l4 l5) (X12_findGuesses_173 G k8 l0 (Int32.ofInt l1) (Int32.ofInt l2) (Int32.ofInt l3) (Int32.ofInt l4) (Int32.ofInt l5)) := by
  unfold Z12_findGuesses_173 X12_findGuesses_173
  exact c_lI (kz_add rfl rfl) (fun t1 ht1 => (hk8 l0 _ hl1 _ hl2 _ hl3 _ hl4 _ ht1))
def Z12_findGuesses_154 (G : kdS) (k8 : Nat → Int → Int → Int → Int → Int → kzM → Option (Unit × kzM)) (l0 : Nat) (l1 : Int) (l2 : Int) (l3 : Int) (l4 : Int) (l5 : Int) (l6 : Int) : kzM → Option (Unit × kzM) :=
  zgR G 12 32 l0 fun t1 =>
  ztI G t1 l6 l5 <|
  zgI G 12 35 l0 fun t2 =>
  zlI (t2 + (1 : Int)) fun u1 =>
  zsI G 12 35 l0 u1 <|
  Z12_findGuesses_173 G k8 l0 l1 l2 l3 l4 l5
theorem qX12_findGuesses_154 {G : kdS} (hG : kzG G) {k8' : Nat → Int → Int → Int → Int → Int → kzM → Option (Unit × kzM)} {k8 : Nat → Int32 → Int32 → Int32 → Int32 → Int32 → kdM → Option (Unit × kdM)} (hk8 : ∀ (a0 : Nat) (a1 : Int) (_ : kzI a1) (a2 : Int) (_ : kzI a2) (a3 : Int) (_ : kzI a3) (a4 : Int) (_ : kzI a4) (a5 : Int) (_ : kzI a5), CRu (k8' a0 a1 a2 a3 a4 a5) (k8 a0 (Int32.ofInt a1) (Int32.ofInt a2) (Int32.ofInt a3) (Int32.ofInt a4) (Int32.ofInt a5))) (l0 : Nat) {l1 : Int} (hl1 : kzI l1) {l2 : Int} (hl2 : kzI l2) {l3 : Int} (hl3 : kzI l3) {l4 : Int} (hl4 : kzI l4) {l5 : Int} (hl5 : kzI l5) {l6 : Int} (hl6 : kzI l6) : CRu (Z12_findGuesses_154 G k8' l0 l1 l2 l3 l4 l5 l6) (X12_findGuesses_154 G k8 l0 (Int32.ofInt l1) (Int32.ofInt l2) (Int32.ofInt l3) (Int32.ofInt l4) (Int32.ofInt l5) (Int32.ofInt l6)) := by
  unfold Z12_findGuesses_154 X12_findGuesses_154
  exact c_gR (fun t1 => c_tI hG rfl hl5 rfl (c_gI rfl (fun t2 ht2 => c_rg (kz_add rfl rfl) fun u1 r1 e1 => c_sI rfl r1 e1 ((qX12_findGuesses_173 hG hk8 l0 hl1 hl2 hl3 hl4 hl5)))))
def Z12_findGuesses_109B (G : kdS) (k8 : Nat → Int → Int → Int → Int → Int → kzM → Option (Unit × kzM)) (k109 : Nat → Int → Int → Int → Int → Int → Int → kzM → Option (Unit × kzM)) (l0 : Nat) (l1 : Int) (l2 : Int) (l3 : Int) (l4 : Int) (l5 : Int) (l6 : Int) : kzM → Option (Unit × kzM) :=
  zcnd (l6 ≤ (0 : Int))
  (Z12_findGuesses_154 G k8 l0 l1 l2 l3 l4 l5 l6)
  (zgR G 12 32 l0 fun t1 =>
  zaI G t1 (l6 - (1 : Int)) fun t2 =>
  zcv G 12 l0 (Z12_isAhead G l0 l5 t2) fun t3 =>
  zcnd (t3 = (0 : Int))
  (Z12_findGuesses_154 G k8 l0 l1 l2 l3 l4 l5 l6)
  (zgR G 12 32 l0 fun t4 =>
  zgR G 12 32 l0 fun t5 =>
  zaI G t5 (l6 - (1 : Int)) fun t6 =>
  ztI G t4 l6 t6 <|
  zlI (l6 + (-1 : Int)) fun t7 =>
  k109 l0 l1 l2 l3 l4 l5 t7))
theorem qX12_findGuesses_109B {G : kdS} (hG : kzG G) {k8' : Nat → Int → Int → Int → Int → Int → kzM → Option (Unit × kzM)} {k8 : Nat → Int32 → Int32 → Int32 → Int32 → Int32 → kdM → Option (Unit × kdM)} (hk8 : ∀ (a0 : Nat) (a1 : Int) (_ : kzI a1) (a2 : Int) (_ : kzI a2) (a3 : Int) (_ : kzI a3) (a4 : Int) (_ : kzI a4) (a5 : Int) (_ : kzI a5), CRu (k8' a0 a1 a2 a3 a4 a5) (k8 a0 (Int32.ofInt a1) (Int32.ofInt a2) (Int32.ofInt a3) (Int32.ofInt a4) (Int32.ofInt a5))) {k109' : Nat → Int → Int → Int → Int → Int → Int → kzM → Option (Unit × kzM)} {k109 : Nat → Int32 → Int32 → Int32 → Int32 → Int32 → Int32 → kdM → Option (Unit × kdM)} (hk109 : ∀ (a0 : Nat) (a1 : Int) (_ : kzI a1) (a2 : Int) (_ : kzI a2) (a3 : Int) (_ : kzI a3) (a4 : Int) (_ : kzI a4) (a5 : Int) (_ : kzI a5) (a6 : Int) (_ : kzI a6), CRu (k109' a0 a1 a2 a3 a4 a5 a6) (k109 a0 (Int32.ofInt a1) (Int32.ofInt a2) (Int32.ofInt a3) (Int32.ofInt a4) (Int32.ofInt a5) (Int32.ofInt a6))) (l0 : Nat) {l1 : Int} (hl1 : kzI l1) {l2 : Int} (hl2 : kzI l2) {l3 : Int} (hl3 : kzI l3) {l4 : Int} (hl4 : kzI l4) {l5 : Int} (hl5 : kzI l5) {l6 : Int} (hl6 : kzI l6) : CRu (Z12_findGuesses_109B G k8' k109' l0 l1 l2 l3 l4 l5 l6) (X12_findGuesses_109B G k8 k109 l0 (Int32.ofInt l1) (Int32.ofInt l2) (Int32.ofInt l3) (Int32.ofInt l4) (Int32.ofInt l5) (Int32.ofInt l6)) := by
  unfold Z12_findGuesses_109B X12_findGuesses_109B
  exact c_cnd (kz_le hl6 (by unfold kzI; omega) rfl rfl) ((qX12_findGuesses_154 hG hk8 l0 hl1 hl2 hl3 hl4 hl5 hl6)) (c_gR (fun t1 => c_aI hG (kz_sub rfl rfl) (fun t2 ht2 => c_cv (qX12_isAhead hG l0 hl5 ht2) (fun t3 ht3 => c_cnd (kz_eq ht3 (by unfold kzI; omega) rfl rfl) ((qX12_findGuesses_154 hG hk8 l0 hl1 hl2 hl3 hl4 hl5 hl6)) (c_gR (fun t4 => c_gR (fun t5 => c_aI hG (kz_sub rfl rfl) (fun t6 ht6 => c_tI hG rfl ht6 rfl (c_lI (kz_add rfl rfl) (fun t7 ht7 => (hk109 l0 _ hl1 _ hl2 _ hl3 _ hl4 _ hl5 _ ht7)))))))))))
def Z12_findGuesses_109 (G : kdS) (k8 : Nat → Int → Int → Int → Int → Int → kzM → Option (Unit × kzM)) : Nat → Int → Int → Int → Int → Int → Int → kzM → Option (Unit × kzM) := lp (fun _ _ _ _ _ _ _ _ => none) (Z12_findGuesses_109B G k8) NN
theorem qX12_findGuesses_109 {G : kdS} (hG : kzG G) {k8' : Nat → Int → Int → Int → Int → Int → kzM → Option (Unit × kzM)} {k8 : Nat → Int32 → Int32 → Int32 → Int32 → Int32 → kdM → Option (Unit × kdM)} (hk8 : ∀ (a0 : Nat) (a1 : Int) (_ : kzI a1) (a2 : Int) (_ : kzI a2) (a3 : Int) (_ : kzI a3) (a4 : Int) (_ : kzI a4) (a5 : Int) (_ : kzI a5), CRu (k8' a0 a1 a2 a3 a4 a5) (k8 a0 (Int32.ofInt a1) (Int32.ofInt a2) (Int32.ofInt a3) (Int32.ofInt a4) (Int32.ofInt a5))) : ∀ (a0 : Nat) (a1 : Int) (_ : kzI a1) (a2 : Int) (_ : kzI a2) (a3 : Int) (_ : kzI a3) (a4 : Int) (_ : kzI a4) (a5 : Int) (_ : kzI a5) (a6 : Int) (_ : kzI a6), CRu (Z12_findGuesses_109 G k8' a0 a1 a2 a3 a4 a5 a6) (X12_findGuesses_109 G k8 a0 (Int32.ofInt a1) (Int32.ofInt a2) (Int32.ofInt a3) (Int32.ofInt a4) (Int32.ofInt a5) (Int32.ofInt a6)) :=
  lp_rel (R := fun (f' : Nat → Int → Int → Int → Int → Int → Int → kzM → Option (Unit × kzM)) (f : Nat → Int32 → Int32 → Int32 → Int32 → Int32 → Int32 → kdM → Option (Unit × kdM)) => ∀ (a0 : Nat) (a1 : Int) (_ : kzI a1) (a2 : Int) (_ : kzI a2) (a3 : Int) (_ : kzI a3) (a4 : Int) (_ : kzI a4) (a5 : Int) (_ : kzI a5) (a6 : Int) (_ : kzI a6), CRu (f' a0 a1 a2 a3 a4 a5 a6) (f a0 (Int32.ofInt a1) (Int32.ofInt a2) (Int32.ofInt a3) (Int32.ofInt a4) (Int32.ofInt a5) (Int32.ofInt a6))) (by intros; exact c_no) (fun _ _ hf a0 a1 ha1 a2 ha2 a3 ha3 a4 ha4 a5 ha5 a6 ha6 => qX12_findGuesses_109B hG hk8 hf a0 ha1 ha2 ha3 ha4 ha5 ha6) NN
def Z12_findGuesses_75 (G : kdS) (k8 : Nat → Int → Int → Int → Int → Int → kzM → Option (Unit × kzM)) (l0 : Nat) (l1 : Int) (l2 : Int) (l3 : Int) (l4 : Int) (l5 : Int) (s0 : Nat) (s1 : Int) (s2 : Int) : kzM → Option (Unit × kzM) :=
  ztI G s0 s1 s2 <|
  zgR G 12 24 l0 fun t1 =>
  zaI G t1 l5 fun t2 =>
  zcnd ((zand (zshr l3 t2) (1 : Int)) = (1 : Int))
  (zgR G 12 33 l0 fun t3 =>
  zaI G t3 l5 fun t4 =>
  zcnd (l4 < t4)
  (Z12_findGuesses_173 G k8 l0 l1 l2 l3 l4 l5)
  (zgI G 12 35 l0 fun t5 =>
  Z12_findGuesses_109 G k8 l0 l1 l2 l3 l4 l5 t5))
  (Z12_findGuesses_173 G k8 l0 l1 l2 l3 l4 l5)
theorem qX12_findGuesses_75 {G : kdS} (hG : kzG G) {k8' : Nat → Int → Int → Int → Int → Int → kzM → Option (Unit × kzM)} {k8 : Nat → Int32 → Int32 → Int32 → Int32 → Int32 → kdM → Option (Unit × kdM)} (hk8 : ∀ (a0 : Nat) (a1 : Int) (_ : kzI a1) (a2 : Int) (_ : kzI a2) (a3 : Int) (_ : kzI a3) (a4 : Int) (_ : kzI a4) (a5 : Int) (_ : kzI a5), CRu (k8' a0 a1 a2 a3 a4 a5) (k8 a0 (Int32.ofInt a1) (Int32.ofInt a2) (Int32.ofInt a3) (Int32.ofInt a4) (Int32.ofInt a5))) (l0 : Nat) {l1 : Int} (hl1 : kzI l1) {l2 : Int} (hl2 : kzI l2) {l3 : Int} (hl3 : kzI l3) {l4 : Int} (hl4 : kzI l4) {l5 : Int} (hl5 : kzI l5) (s0 : Nat) {s1 : Int} (hs1 : kzI s1) {s2 : Int} (hs2 : kzI s2) : CRu (Z12_findGuesses_75 G k8' l0 l1 l2 l3 l4 l5 s0 s1 s2) (X12_findGuesses_75 G k8 l0 (Int32.ofInt l1) (Int32.ofInt l2) (Int32.ofInt l3) (Int32.ofInt l4) (Int32.ofInt l5) s0 (Int32.ofInt s1) (Int32.ofInt s2)) := by
  unfold Z12_findGuesses_75 X12_findGuesses_75
  exact c_tI hG rfl hs2 rfl (c_gR (fun t1 => c_aI hG rfl (fun t2 ht2 => c_cnd (kz_eq (kzI_of _) (by unfold kzI; omega) (kz_and (kz_shr rfl rfl) rfl) rfl) (c_gR (fun t3 => c_aI hG rfl (fun t4 ht4 => c_cnd (kz_lt hl4 ht4 rfl rfl) ((qX12_findGuesses_173 hG hk8 l0 hl1 hl2 hl3 hl4 hl5)) (c_gI rfl (fun t5 ht5 => (qX12_findGuesses_109 hG hk8 l0 _ hl1 _ hl2 _ hl3 _ hl4 _ hl5 _ ht5)))))) ((qX12_findGuesses_173 hG hk8 l0 hl1 hl2 hl3 hl4 hl5)))))
def Z12_findGuesses_8B (G : kdS) (k8 : Nat → Int → Int → Int → Int → Int → kzM → Option (Unit × kzM)) (l0 : Nat) (l1 : Int) (l2 : Int) (l3 : Int) (l4 : Int) (l5 : Int) : kzM → Option (Unit × kzM) :=
  zgI G 12 29 l0 fun t1 =>
  zcnd (t1 ≤ l5)
  (zrt ())
  (zgR G 12 33 l0 fun t2 =>
  zgI G 12 1 l0 fun t3 =>
  zcv G 12 l0 (Z12_priceOf G l0 l5 (0 : Int) t3) fun t4 =>
  ztI G t2 l5 t4 <|
  zgR G 12 34 l0 fun t5 =>
  zcnd ((0 : Int) ≤ l1)
  (zgR G 12 26 l0 fun t6 =>
  zaI G t6 l5 fun t7 =>
  zcv G 12 l0 (Z12_worthOf G l0 l1 l5 l2) fun t8 =>
  zlI (((1000 : Int) * t7) + t8) fun u1 =>
  Z12_findGuesses_75 G k8 l0 l1 l2 l3 l4 l5 t5 l5 u1)
  (zgR G 12 26 l0 fun t9 =>
  zaI G t9 l5 fun t10 =>
  Z12_findGuesses_75 G k8 l0 l1 l2 l3 l4 l5 t5 l5 t10))
theorem qX12_findGuesses_8B {G : kdS} (hG : kzG G) {k8' : Nat → Int → Int → Int → Int → Int → kzM → Option (Unit × kzM)} {k8 : Nat → Int32 → Int32 → Int32 → Int32 → Int32 → kdM → Option (Unit × kdM)} (hk8 : ∀ (a0 : Nat) (a1 : Int) (_ : kzI a1) (a2 : Int) (_ : kzI a2) (a3 : Int) (_ : kzI a3) (a4 : Int) (_ : kzI a4) (a5 : Int) (_ : kzI a5), CRu (k8' a0 a1 a2 a3 a4 a5) (k8 a0 (Int32.ofInt a1) (Int32.ofInt a2) (Int32.ofInt a3) (Int32.ofInt a4) (Int32.ofInt a5))) (l0 : Nat) {l1 : Int} (hl1 : kzI l1) {l2 : Int} (hl2 : kzI l2) {l3 : Int} (hl3 : kzI l3) {l4 : Int} (hl4 : kzI l4) {l5 : Int} (hl5 : kzI l5) : CRu (Z12_findGuesses_8B G k8' l0 l1 l2 l3 l4 l5) (X12_findGuesses_8B G k8 l0 (Int32.ofInt l1) (Int32.ofInt l2) (Int32.ofInt l3) (Int32.ofInt l4) (Int32.ofInt l5)) := by
  unfold Z12_findGuesses_8B X12_findGuesses_8B
  exact c_gI rfl (fun t1 ht1 => c_cnd (kz_le ht1 hl5 rfl rfl) (c_rt trivial rfl) (c_gR (fun t2 => c_gI rfl (fun t3 ht3 => c_cv (qX12_priceOf hG l0 hl5 (by unfold kzI; omega) ht3) (fun t4 ht4 => c_tI hG rfl ht4 rfl (c_gR (fun t5 => c_cnd (kz_le (by unfold kzI; omega) hl1 rfl rfl) (c_gR (fun t6 => c_aI hG rfl (fun t7 ht7 => c_cv (qX12_worthOf hG l0 hl1 hl5 hl2) (fun t8 ht8 => c_rg (kz_add (kz_mul rfl rfl) rfl) fun u1 r1 e1 => (e1 ▸ (qX12_findGuesses_75 hG hk8 l0 hl1 hl2 hl3 hl4 hl5 t5 hl5 r1)))))) (c_gR (fun t9 => c_aI hG rfl (fun t10 ht10 => (qX12_findGuesses_75 hG hk8 l0 hl1 hl2 hl3 hl4 hl5 t5 hl5 ht10)))))))))))
def Z12_findGuesses_8 (G : kdS) : Nat → Int → Int → Int → Int → Int → kzM → Option (Unit × kzM) := lp (fun _ _ _ _ _ _ _ => none) (Z12_findGuesses_8B G) NN
theorem qX12_findGuesses_8 {G : kdS} (hG : kzG G) : ∀ (a0 : Nat) (a1 : Int) (_ : kzI a1) (a2 : Int) (_ : kzI a2) (a3 : Int) (_ : kzI a3) (a4 : Int) (_ : kzI a4) (a5 : Int) (_ : kzI a5), CRu (Z12_findGuesses_8 G a0 a1 a2 a3 a4 a5) (X12_findGuesses_8 G a0 (Int32.ofInt a1) (Int32.ofInt a2) (Int32.ofInt a3) (Int32.ofInt a4) (Int32.ofInt a5)) :=
  lp_rel (R := fun (f' : Nat → Int → Int → Int → Int → Int → kzM → Option (Unit × kzM)) (f : Nat → Int32 → Int32 → Int32 → Int32 → Int32 → kdM → Option (Unit × kdM)) => ∀ (a0 : Nat) (a1 : Int) (_ : kzI a1) (a2 : Int) (_ : kzI a2) (a3 : Int) (_ : kzI a3) (a4 : Int) (_ : kzI a4) (a5 : Int) (_ : kzI a5), CRu (f' a0 a1 a2 a3 a4 a5) (f a0 (Int32.ofInt a1) (Int32.ofInt a2) (Int32.ofInt a3) (Int32.ofInt a4) (Int32.ofInt a5))) (by intros; exact c_no) (fun _ _ hf a0 a1 ha1 a2 ha2 a3 ha3 a4 ha4 a5 ha5 => qX12_findGuesses_8B hG hf a0 ha1 ha2 ha3 ha4 ha5) NN
def Z12_findGuesses (G : kdS) (l0 : Nat) (l1 : Int) (l2 : Int) (l3 : Int) (l4 : Int) : kzM → Option (Unit × kzM) :=
  zsI G 12 35 l0 (0 : Int) <|
  Z12_findGuesses_8 G l0 l1 l2 l3 l4 (0 : Int)
theorem qX12_findGuesses {G : kdS} (hG : kzG G) (l0 : Nat) {l1 : Int} (hl1 : kzI l1) {l2 : Int} (hl2 : kzI l2) {l3 : Int} (hl3 : kzI l3) {l4 : Int} (hl4 : kzI l4) : CRu (Z12_findGuesses G l0 l1 l2 l3 l4) (X12_findGuesses G l0 (Int32.ofInt l1) (Int32.ofInt l2) (Int32.ofInt l3) (Int32.ofInt l4)) := by
  unfold Z12_findGuesses X12_findGuesses
  exact c_sI rfl (by unfold kzI; omega) rfl ((qX12_findGuesses_8 hG l0 _ hl1 _ hl2 _ hl3 _ hl4 _ (by unfold kzI; omega)))
def Z12_areTongues (G : kdS) (l0 : Int) : kzM → Option (Int × kzM) :=
  zcl (Z12_in G l0 (1 : Int) (7 : Int)) fun t1 =>
  zrt (zB t1)
theorem qX12_areTongues {G : kdS} (hG : kzG G) {l0 : Int} (hl0 : kzI l0) : CRi (Z12_areTongues G l0) (X12_areTongues G (Int32.ofInt l0)) := by
  unfold Z12_areTongues X12_areTongues
  exact c_cl ((kz_i2l hl0 rfl) ▸ (qX12_in hG (kzI_L hl0) (show kzL (1 : Int) by unfold kzL; omega) (show kzL (7 : Int) by unfold kzL; omega))) (fun t1 ht1 => c_rt (kz_BI _) (kz_B rfl))
def Z12_guess_19 (G : kdS) : kzM → Option (Int × kzM) :=
  zrt (-2 : Int)
theorem qX12_guess_19 {G : kdS} (hG : kzG G) : CRi (Z12_guess_19 G) (X12_guess_19 G) := by
  unfold Z12_guess_19 X12_guess_19
  exact c_rt (by unfold kzI; omega) rfl
def Z12_guess_79 (G : kdS) (s0 : Int) : kzM → Option (Int × kzM) :=
  zrt s0
theorem qX12_guess_79 {G : kdS} (hG : kzG G) {s0 : Int} (hs0 : kzI s0) : CRi (Z12_guess_79 G s0) (X12_guess_79 G (Int32.ofInt s0)) := by
  unfold Z12_guess_79 X12_guess_79
  exact c_rt hs0 rfl
def Z12_guess (G : kdS) (l0 : Nat) (l1 : Int) (l2 : Int) (l3 : Int) : kzM → Option (Int × kzM) :=
  zcl (Z12_areTongues G l1) fun t1 =>
  zcnd (t1 = (0 : Int))
  (Z12_guess_19 G)
  (zcl (Z12_in G l2 (0 : Int) (60 : Int)) fun t2 =>
  zcnd (t2 = (0 : Int))
  (Z12_guess_19 G)
  (zgI G 12 1 l0 fun t3 =>
  zcnd (t3 = (0 : Int))
  (zrt (-3 : Int))
  (zcv G 12 l0 (Z12_findGuesses G l0 (-1 : Int) (0 : Int) l1 l2) fun _ =>
  zcnd (l3 = (-1 : Int))
  (zgI G 12 35 l0 fun t4 =>
  Z12_guess_79 G t4)
  (zgI G 12 35 l0 fun t5 =>
  zlI (t5 - (1 : Int)) fun u1 =>
  zcl (Z12_in G l3 (0 : Int) u1) fun t6 =>
  zcnd (t6 = (0 : Int))
  (Z12_guess_79 G (-6 : Int))
  (zgR G 12 32 l0 fun t7 =>
  zaI G t7 l3 fun t8 =>
  Z12_guess_79 G t8)))))
theorem qX12_guess {G : kdS} (hG : kzG G) (l0 : Nat) {l1 : Int} (hl1 : kzI l1) {l2 : Int} (hl2 : kzI l2) {l3 : Int} (hl3 : kzI l3) : CRi (Z12_guess G l0 l1 l2 l3) (X12_guess G l0 (Int32.ofInt l1) (Int32.ofInt l2) (Int32.ofInt l3)) := by
  unfold Z12_guess X12_guess
  exact c_cl (qX12_areTongues hG hl1) (fun t1 ht1 => c_cnd (kz_eq ht1 (by unfold kzI; omega) rfl rfl) ((qX12_guess_19 hG)) (c_cl ((kz_i2l hl2 rfl) ▸ (qX12_in hG (kzI_L hl2) (show kzL (0 : Int) by unfold kzL; omega) (show kzL (60 : Int) by unfold kzL; omega))) (fun t2 ht2 => c_cnd (kz_eq ht2 (by unfold kzI; omega) rfl rfl) ((qX12_guess_19 hG)) (c_gI rfl (fun t3 ht3 => c_cnd (kz_eq ht3 (by unfold kzI; omega) rfl rfl) (c_rt (by unfold kzI; omega) rfl) (c_cv (qX12_findGuesses hG l0 (by unfold kzI; omega) (by unfold kzI; omega) hl1 hl2) (fun _ _ => c_cnd (kz_eq hl3 (by unfold kzI; omega) rfl rfl) (c_gI rfl (fun t4 ht4 => (qX12_guess_79 hG ht4))) (c_gI rfl (fun t5 ht5 => c_rg (kz_sub rfl rfl) fun u1 r1 e1 => c_cl ((kz_i2l r1 e1) ▸ ((kz_i2l hl3 rfl) ▸ (qX12_in hG (kzI_L hl3) (show kzL (0 : Int) by unfold kzL; omega) (kzI_L r1)))) (fun t6 ht6 => c_cnd (kz_eq ht6 (by unfold kzI; omega) rfl rfl) ((qX12_guess_79 hG (by unfold kzI; omega))) (c_gR (fun t7 => c_aI hG rfl (fun t8 ht8 => (qX12_guess_79 hG ht8))))))))))))))
def Z12_placeOf (G : kdS) (l0 : Int) (l1 : Int) (l2 : Int) : kzM → Option (Int × kzM) :=
  zlI ((((20 : Int) * l0) + ((4 : Int) * l1)) + l2) fun u1 =>
  zrt u1
theorem qX12_placeOf {G : kdS} (hG : kzG G) {l0 : Int} (hl0 : kzI l0) {l1 : Int} (hl1 : kzI l1) {l2 : Int} (hl2 : kzI l2) : CRi (Z12_placeOf G l0 l1 l2) (X12_placeOf G (Int32.ofInt l0) (Int32.ofInt l1) (Int32.ofInt l2)) := by
  unfold Z12_placeOf X12_placeOf
  exact c_rg (kz_add (kz_add (kz_mul rfl rfl) (kz_mul rfl rfl)) rfl) fun u1 r1 e1 => c_rt r1 e1
def Z12_priceAt (G : kdS) (l0 : Nat) (l1 : Int) (l2 : Int) (l3 : Int) : kzM → Option (Int × kzM) :=
  zgR G 12 41 l0 fun t1 =>
  zaI G t1 (((((160 : Int) * l1) + ((10 : Int) * l2)) + l3) - (1 : Int)) fun t2 =>
  zrt t2
theorem qX12_priceAt {G : kdS} (hG : kzG G) (l0 : Nat) {l1 : Int} (hl1 : kzI l1) {l2 : Int} (hl2 : kzI l2) {l3 : Int} (hl3 : kzI l3) : CRi (Z12_priceAt G l0 l1 l2 l3) (X12_priceAt G l0 (Int32.ofInt l1) (Int32.ofInt l2) (Int32.ofInt l3)) := by
  unfold Z12_priceAt X12_priceAt
  exact c_gR (fun t1 => c_aI hG (kz_sub (kz_add (kz_add (kz_mul rfl rfl) (kz_mul rfl rfl)) rfl) rfl) (fun t2 ht2 => c_rt ht2 rfl))
def Z12_findPrices_95 (G : kdS) (k2 : Nat → Int → Int → kzM → Option (Unit × kzM)) (l0 : Nat) (l1 : Int) (l2 : Int) : kzM → Option (Unit × kzM) :=
  zlI (l2 + (1 : Int)) fun t1 =>
  k2 l0 l1 t1
theorem qX12_findPrices_95 {G : kdS} (hG : kzG G) {k2' : Nat → Int → Int → kzM → Option (Unit × kzM)} {k2 : Nat → Int32 → Int32 → kdM → Option (Unit × kdM)} (hk2 : ∀ (a0 : Nat) (a1 : Int) (_ : kzI a1) (a2 : Int) (_ : kzI a2), CRu (k2' a0 a1 a2) (k2 a0 (Int32.ofInt a1) (Int32.ofInt a2))) (l0 : Nat) {l1 : Int} (hl1 : kzI l1) {l2 : Int} (hl2 : kzI l2) : CRu (Z12_findPrices_95 G k2' l0 l1 l2) (X12_findPrices_95 G k2 l0 (Int32.ofInt l1) (Int32.ofInt l2)) := by
  unfold Z12_findPrices_95 X12_findPrices_95
  exact c_lI (kz_add rfl rfl) (fun t1 ht1 => (hk2 l0 _ hl1 _ ht1))
def Z12_findPrices_89 (G : kdS) (k2 : Nat → Int → Int → kzM → Option (Unit × kzM)) (k12 : Nat → Int → Int → Int → kzM → Option (Unit × kzM)) (l0 : Nat) (l1 : Int) (l2 : Int) (l3 : Int) : kzM → Option (Unit × kzM) :=
  zlI (l3 + (1 : Int)) fun t1 =>
  k12 l0 l1 l2 t1
theorem qX12_findPrices_89 {G : kdS} (hG : kzG G) {k2' : Nat → Int → Int → kzM → Option (Unit × kzM)} {k2 : Nat → Int32 → Int32 → kdM → Option (Unit × kdM)} (hk2 : ∀ (a0 : Nat) (a1 : Int) (_ : kzI a1) (a2 : Int) (_ : kzI a2), CRu (k2' a0 a1 a2) (k2 a0 (Int32.ofInt a1) (Int32.ofInt a2))) {k12' : Nat → Int → Int → Int → kzM → Option (Unit × kzM)} {k12 : Nat → Int32 → Int32 → Int32 → kdM → Option (Unit × kdM)} (hk12 : ∀ (a0 : Nat) (a1 : Int) (_ : kzI a1) (a2 : Int) (_ : kzI a2) (a3 : Int) (_ : kzI a3), CRu (k12' a0 a1 a2 a3) (k12 a0 (Int32.ofInt a1) (Int32.ofInt a2) (Int32.ofInt a3))) (l0 : Nat) {l1 : Int} (hl1 : kzI l1) {l2 : Int} (hl2 : kzI l2) {l3 : Int} (hl3 : kzI l3) : CRu (Z12_findPrices_89 G k2' k12' l0 l1 l2 l3) (X12_findPrices_89 G k2 k12 l0 (Int32.ofInt l1) (Int32.ofInt l2) (Int32.ofInt l3)) := by
  unfold Z12_findPrices_89 X12_findPrices_89
  exact c_lI (kz_add rfl rfl) (fun t1 ht1 => (hk12 l0 _ hl1 _ hl2 _ ht1))
def Z12_findPrices_37B (G : kdS) (k2 : Nat → Int → Int → kzM → Option (Unit × kzM)) (k12 : Nat → Int → Int → Int → kzM → Option (Unit × kzM)) (k37 : Nat → Int → Int → Int → Int → kzM → Option (Unit × kzM)) (l0 : Nat) (l1 : Int) (l2 : Int) (l3 : Int) (l4 : Int) : kzM → Option (Unit × kzM) :=
  zcnd ((10 : Int) < l4)
  (Z12_findPrices_89 G k2 k12 l0 l1 l2 l3)
  (zgI G 12 1 l0 fun t1 =>
  zlI (l3 + l4) fun u1 =>
  zcnd (t1 < u1)
  (Z12_findPrices_89 G k2 k12 l0 l1 l2 l3)
  (zgR G 12 41 l0 fun t2 =>
  zcv G 12 l0 (Z12_priceOf G l0 l2 l3 l4) fun t3 =>
  ztI G t2 (((((160 : Int) * l2) + ((10 : Int) * l3)) + l4) - (1 : Int)) t3 <|
  zlI (l4 + (1 : Int)) fun t4 =>
  k37 l0 l1 l2 l3 t4))
theorem qX12_findPrices_37B {G : kdS} (hG : kzG G) {k2' : Nat → Int → Int → kzM → Option (Unit × kzM)} {k2 : Nat → Int32 → Int32 → kdM → Option (Unit × kdM)} (hk2 : ∀ (a0 : Nat) (a1 : Int) (_ : kzI a1) (a2 : Int) (_ : kzI a2), CRu (k2' a0 a1 a2) (k2 a0 (Int32.ofInt a1) (Int32.ofInt a2))) {k12' : Nat → Int → Int → Int → kzM → Option (Unit × kzM)} {k12 : Nat → Int32 → Int32 → Int32 → kdM → Option (Unit × kdM)} (hk12 : ∀ (a0 : Nat) (a1 : Int) (_ : kzI a1) (a2 : Int) (_ : kzI a2) (a3 : Int) (_ : kzI a3), CRu (k12' a0 a1 a2 a3) (k12 a0 (Int32.ofInt a1) (Int32.ofInt a2) (Int32.ofInt a3))) {k37' : Nat → Int → Int → Int → Int → kzM → Option (Unit × kzM)} {k37 : Nat → Int32 → Int32 → Int32 → Int32 → kdM → Option (Unit × kdM)} (hk37 : ∀ (a0 : Nat) (a1 : Int) (_ : kzI a1) (a2 : Int) (_ : kzI a2) (a3 : Int) (_ : kzI a3) (a4 : Int) (_ : kzI a4), CRu (k37' a0 a1 a2 a3 a4) (k37 a0 (Int32.ofInt a1) (Int32.ofInt a2) (Int32.ofInt a3) (Int32.ofInt a4))) (l0 : Nat) {l1 : Int} (hl1 : kzI l1) {l2 : Int} (hl2 : kzI l2) {l3 : Int} (hl3 : kzI l3) {l4 : Int} (hl4 : kzI l4) : CRu (Z12_findPrices_37B G k2' k12' k37' l0 l1 l2 l3 l4) (X12_findPrices_37B G k2 k12 k37 l0 (Int32.ofInt l1) (Int32.ofInt l2) (Int32.ofInt l3) (Int32.ofInt l4)) := by
  unfold Z12_findPrices_37B X12_findPrices_37B
  exact c_cnd (kz_lt (by unfold kzI; omega) hl4 rfl rfl) ((qX12_findPrices_89 hG hk2 hk12 l0 hl1 hl2 hl3)) (c_gI rfl (fun t1 ht1 => c_rg (kz_add rfl rfl) fun u1 r1 e1 => c_cnd (kz_lt ht1 r1 rfl e1) ((qX12_findPrices_89 hG hk2 hk12 l0 hl1 hl2 hl3)) (c_gR (fun t2 => c_cv (qX12_priceOf hG l0 hl2 hl3 hl4) (fun t3 ht3 => c_tI hG (kz_sub (kz_add (kz_add (kz_mul rfl rfl) (kz_mul rfl rfl)) rfl) rfl) ht3 rfl (c_lI (kz_add rfl rfl) (fun t4 ht4 => (hk37 l0 _ hl1 _ hl2 _ hl3 _ ht4))))))))
def Z12_findPrices_37 (G : kdS) (k2 : Nat → Int → Int → kzM → Option (Unit × kzM)) (k12 : Nat → Int → Int → Int → kzM → Option (Unit × kzM)) : Nat → Int → Int → Int → Int → kzM → Option (Unit × kzM) := lp (fun _ _ _ _ _ _ => none) (Z12_findPrices_37B G k2 k12) NN
theorem qX12_findPrices_37 {G : kdS} (hG : kzG G) {k2' : Nat → Int → Int → kzM → Option (Unit × kzM)} {k2 : Nat → Int32 → Int32 → kdM → Option (Unit × kdM)} (hk2 : ∀ (a0 : Nat) (a1 : Int) (_ : kzI a1) (a2 : Int) (_ : kzI a2), CRu (k2' a0 a1 a2) (k2 a0 (Int32.ofInt a1) (Int32.ofInt a2))) {k12' : Nat → Int → Int → Int → kzM → Option (Unit × kzM)} {k12 : Nat → Int32 → Int32 → Int32 → kdM → Option (Unit × kdM)} (hk12 : ∀ (a0 : Nat) (a1 : Int) (_ : kzI a1) (a2 : Int) (_ : kzI a2) (a3 : Int) (_ : kzI a3), CRu (k12' a0 a1 a2 a3) (k12 a0 (Int32.ofInt a1) (Int32.ofInt a2) (Int32.ofInt a3))) : ∀ (a0 : Nat) (a1 : Int) (_ : kzI a1) (a2 : Int) (_ : kzI a2) (a3 : Int) (_ : kzI a3) (a4 : Int) (_ : kzI a4), CRu (Z12_findPrices_37 G k2' k12' a0 a1 a2 a3 a4) (X12_findPrices_37 G k2 k12 a0 (Int32.ofInt a1) (Int32.ofInt a2) (Int32.ofInt a3) (Int32.ofInt a4)) :=
  lp_rel (R := fun (f' : Nat → Int → Int → Int → Int → kzM → Option (Unit × kzM)) (f : Nat → Int32 → Int32 → Int32 → Int32 → kdM → Option (Unit × kdM)) => ∀ (a0 : Nat) (a1 : Int) (_ : kzI a1) (a2 : Int) (_ : kzI a2) (a3 : Int) (_ : kzI a3) (a4 : Int) (_ : kzI a4), CRu (f' a0 a1 a2 a3 a4) (f a0 (Int32.ofInt a1) (Int32.ofInt a2) (Int32.ofInt a3) (Int32.ofInt a4))) (by intros; exact c_no) (fun _ _ hf a0 a1 ha1 a2 ha2 a3 ha3 a4 ha4 => qX12_findPrices_37B hG hk2 hk12 hf a0 ha1 ha2 ha3 ha4) NN
def Z12_findPrices_12B (G : kdS) (k2 : Nat → Int → Int → kzM → Option (Unit × kzM)) (k12 : Nat → Int → Int → Int → kzM → Option (Unit × kzM)) (l0 : Nat) (l1 : Int) (l2 : Int) (l3 : Int) : kzM → Option (Unit × kzM) :=
  zgI G 12 1 l0 fun t1 =>
  zcnd (t1 ≤ l3)
  (Z12_findPrices_95 G k2 l0 l1 l2)
  (zgR G 12 24 l0 fun t2 =>
  zaI G t2 l2 fun t3 =>
  zcnd ((zand (zshr l1 t3) (1 : Int)) = (1 : Int))
  (Z12_findPrices_37 G k2 k12 l0 l1 l2 l3 (1 : Int))
  (Z12_findPrices_95 G k2 l0 l1 l2))
theorem qX12_findPrices_12B {G : kdS} (hG : kzG G) {k2' : Nat → Int → Int → kzM → Option (Unit × kzM)} {k2 : Nat → Int32 → Int32 → kdM → Option (Unit × kdM)} (hk2 : ∀ (a0 : Nat) (a1 : Int) (_ : kzI a1) (a2 : Int) (_ : kzI a2), CRu (k2' a0 a1 a2) (k2 a0 (Int32.ofInt a1) (Int32.ofInt a2))) {k12' : Nat → Int → Int → Int → kzM → Option (Unit × kzM)} {k12 : Nat → Int32 → Int32 → Int32 → kdM → Option (Unit × kdM)} (hk12 : ∀ (a0 : Nat) (a1 : Int) (_ : kzI a1) (a2 : Int) (_ : kzI a2) (a3 : Int) (_ : kzI a3), CRu (k12' a0 a1 a2 a3) (k12 a0 (Int32.ofInt a1) (Int32.ofInt a2) (Int32.ofInt a3))) (l0 : Nat) {l1 : Int} (hl1 : kzI l1) {l2 : Int} (hl2 : kzI l2) {l3 : Int} (hl3 : kzI l3) : CRu (Z12_findPrices_12B G k2' k12' l0 l1 l2 l3) (X12_findPrices_12B G k2 k12 l0 (Int32.ofInt l1) (Int32.ofInt l2) (Int32.ofInt l3)) := by
  unfold Z12_findPrices_12B X12_findPrices_12B
  exact c_gI rfl (fun t1 ht1 => c_cnd (kz_le ht1 hl3 rfl rfl) ((qX12_findPrices_95 hG hk2 l0 hl1 hl2)) (c_gR (fun t2 => c_aI hG rfl (fun t3 ht3 => c_cnd (kz_eq (kzI_of _) (by unfold kzI; omega) (kz_and (kz_shr rfl rfl) rfl) rfl) ((qX12_findPrices_37 hG hk2 hk12 l0 _ hl1 _ hl2 _ hl3 _ (by unfold kzI; omega))) ((qX12_findPrices_95 hG hk2 l0 hl1 hl2))))))
def Z12_findPrices_12 (G : kdS) (k2 : Nat → Int → Int → kzM → Option (Unit × kzM)) : Nat → Int → Int → Int → kzM → Option (Unit × kzM) := lp (fun _ _ _ _ _ => none) (Z12_findPrices_12B G k2) NN
theorem qX12_findPrices_12 {G : kdS} (hG : kzG G) {k2' : Nat → Int → Int → kzM → Option (Unit × kzM)} {k2 : Nat → Int32 → Int32 → kdM → Option (Unit × kdM)} (hk2 : ∀ (a0 : Nat) (a1 : Int) (_ : kzI a1) (a2 : Int) (_ : kzI a2), CRu (k2' a0 a1 a2) (k2 a0 (Int32.ofInt a1) (Int32.ofInt a2))) : ∀ (a0 : Nat) (a1 : Int) (_ : kzI a1) (a2 : Int) (_ : kzI a2) (a3 : Int) (_ : kzI a3), CRu (Z12_findPrices_12 G k2' a0 a1 a2 a3) (X12_findPrices_12 G k2 a0 (Int32.ofInt a1) (Int32.ofInt a2) (Int32.ofInt a3)) :=
  lp_rel (R := fun (f' : Nat → Int → Int → Int → kzM → Option (Unit × kzM)) (f : Nat → Int32 → Int32 → Int32 → kdM → Option (Unit × kdM)) => ∀ (a0 : Nat) (a1 : Int) (_ : kzI a1) (a2 : Int) (_ : kzI a2) (a3 : Int) (_ : kzI a3), CRu (f' a0 a1 a2 a3) (f a0 (Int32.ofInt a1) (Int32.ofInt a2) (Int32.ofInt a3))) (by intros; exact c_no) (fun _ _ hf a0 a1 ha1 a2 ha2 a3 ha3 => qX12_findPrices_12B hG hk2 hf a0 ha1 ha2 ha3) NN
def Z12_findPrices_2B (G : kdS) (k2 : Nat → Int → Int → kzM → Option (Unit × kzM)) (l0 : Nat) (l1 : Int) (l2 : Int) : kzM → Option (Unit × kzM) :=
  zgI G 12 29 l0 fun t1 =>
  zcnd (t1 ≤ l2)
  (zrt ())
  (Z12_findPrices_12 G k2 l0 l1 l2 (0 : Int))
theorem qX12_findPrices_2B {G : kdS} (hG : kzG G) {k2' : Nat → Int → Int → kzM → Option (Unit × kzM)} {k2 : Nat → Int32 → Int32 → kdM → Option (Unit × kdM)} (hk2 : ∀ (a0 : Nat) (a1 : Int) (_ : kzI a1) (a2 : Int) (_ : kzI a2), CRu (k2' a0 a1 a2) (k2 a0 (Int32.ofInt a1) (Int32.ofInt a2))) (l0 : Nat) {l1 : Int} (hl1 : kzI l1) {l2 : Int} (hl2 : kzI l2) : CRu (Z12_findPrices_2B G k2' l0 l1 l2) (X12_findPrices_2B G k2 l0 (Int32.ofInt l1) (Int32.ofInt l2)) := by
  unfold Z12_findPrices_2B X12_findPrices_2B
  exact c_gI rfl (fun t1 ht1 => c_cnd (kz_le ht1 hl2 rfl rfl) (c_rt trivial rfl) ((qX12_findPrices_12 hG hk2 l0 _ hl1 _ hl2 _ (by unfold kzI; omega))))
def Z12_findPrices_2 (G : kdS) : Nat → Int → Int → kzM → Option (Unit × kzM) := lp (fun _ _ _ _ => none) (Z12_findPrices_2B G) NN
theorem qX12_findPrices_2 {G : kdS} (hG : kzG G) : ∀ (a0 : Nat) (a1 : Int) (_ : kzI a1) (a2 : Int) (_ : kzI a2), CRu (Z12_findPrices_2 G a0 a1 a2) (X12_findPrices_2 G a0 (Int32.ofInt a1) (Int32.ofInt a2)) :=
  lp_rel (R := fun (f' : Nat → Int → Int → kzM → Option (Unit × kzM)) (f : Nat → Int32 → Int32 → kdM → Option (Unit × kdM)) => ∀ (a0 : Nat) (a1 : Int) (_ : kzI a1) (a2 : Int) (_ : kzI a2), CRu (f' a0 a1 a2) (f a0 (Int32.ofInt a1) (Int32.ofInt a2))) (by intros; exact c_no) (fun _ _ hf a0 a1 ha1 a2 ha2 => qX12_findPrices_2B hG hf a0 ha1 ha2) NN
def Z12_findPrices (G : kdS) (l0 : Nat) (l1 : Int) : kzM → Option (Unit × kzM) :=
  Z12_findPrices_2 G l0 l1 (0 : Int)
theorem qX12_findPrices {G : kdS} (hG : kzG G) (l0 : Nat) {l1 : Int} (hl1 : kzI l1) : CRu (Z12_findPrices G l0 l1) (X12_findPrices G l0 (Int32.ofInt l1)) := by
  unfold Z12_findPrices X12_findPrices
  exact (qX12_findPrices_2 hG l0 _ hl1 _ (by unfold kzI; omega))
def Z12_sumBy_81 (G : kdS) (s0 : Int) : kzM → Option (Int × kzM) :=
  zrt s0
theorem qX12_sumBy_81 {G : kdS} (hG : kzG G) {s0 : Int} (hs0 : kzI s0) : CRi (Z12_sumBy_81 G s0) (X12_sumBy_81 G (Int32.ofInt s0)) := by
  unfold Z12_sumBy_81 X12_sumBy_81
  exact c_rt hs0 rfl
def Z12_sumBy_50 (G : kdS) (l0 : Nat) (l1 : Int) (l4 : Int) (l5 : Int) (l6 : Int) (s0 : Int) : kzM → Option (Int × kzM) :=
  zcnd (l6 = (1000000000 : Int))
  (Z12_sumBy_81 G (1000000000 : Int))
  (zcv G 12 l0 (Z12_priceAt G l0 l4 l1 l5) fun t1 =>
  zlI ((l6 + s0) + t1) fun u1 =>
  Z12_sumBy_81 G u1)
theorem qX12_sumBy_50 {G : kdS} (hG : kzG G) (l0 : Nat) {l1 : Int} (hl1 : kzI l1) {l4 : Int} (hl4 : kzI l4) {l5 : Int} (hl5 : kzI l5) {l6 : Int} (hl6 : kzI l6) {s0 : Int} (hs0 : kzI s0) : CRi (Z12_sumBy_50 G l0 l1 l4 l5 l6 s0) (X12_sumBy_50 G l0 (Int32.ofInt l1) (Int32.ofInt l4) (Int32.ofInt l5) (Int32.ofInt l6) (Int32.ofInt s0)) := by
  unfold Z12_sumBy_50 X12_sumBy_50
  exact c_cnd (kz_eq hl6 (by unfold kzI; omega) rfl rfl) ((qX12_sumBy_81 hG (by unfold kzI; omega))) (c_cv (qX12_priceAt hG l0 hl4 hl1 hl5) (fun t1 ht1 => c_rg (kz_add (kz_add rfl rfl) rfl) fun u1 r1 e1 => (e1 ▸ (qX12_sumBy_81 hG r1))))
def Z12_sumBy_49 (G : kdS) (l0 : Nat) (l1 : Int) (l4 : Int) (l5 : Int) (l6 : Int) : kzM → Option (Int × kzM) :=
  Z12_sumBy_50 G l0 l1 l4 l5 l6 (0 : Int)
theorem qX12_sumBy_49 {G : kdS} (hG : kzG G) (l0 : Nat) {l1 : Int} (hl1 : kzI l1) {l4 : Int} (hl4 : kzI l4) {l5 : Int} (hl5 : kzI l5) {l6 : Int} (hl6 : kzI l6) : CRi (Z12_sumBy_49 G l0 l1 l4 l5 l6) (X12_sumBy_49 G l0 (Int32.ofInt l1) (Int32.ofInt l4) (Int32.ofInt l5) (Int32.ofInt l6)) := by
  unfold Z12_sumBy_49 X12_sumBy_49
  exact (qX12_sumBy_50 hG l0 hl1 hl4 hl5 hl6 (by unfold kzI; omega))
def Z12_sumBy (G : kdS) (l0 : Nat) (l1 : Int) (l2 : Int) (l3 : Int) (l4 : Int) (l5 : Int) : kzM → Option (Int × kzM) :=
  zgR G 12 36 l0 fun t1 =>
  zgR G 12 24 l0 fun t2 =>
  zaI G t2 l4 fun t3 =>
  zlI (l1 + l5) fun u1 =>
  zlI (l2 - (1 : Int)) fun u2 =>
  zcl (Z12_placeOf G u1 u2 t3) fun t4 =>
  zaI G t1 t4 fun t5 =>
  zcnd ((3 : Int) ≤ l3)
  (Z12_sumBy_49 G l0 l1 l4 l5 t5)
  (zgR G 12 24 l0 fun t6 =>
  zaI G t6 l4 fun t7 =>
  zcnd (l3 = t7)
  (Z12_sumBy_49 G l0 l1 l4 l5 t5)
  (zgR G 12 30 l0 fun t8 =>
  zaI G t8 (5 : Int) fun t9 =>
  Z12_sumBy_50 G l0 l1 l4 l5 t5 t9))
theorem qX12_sumBy {G : kdS} (hG : kzG G) (l0 : Nat) {l1 : Int} (hl1 : kzI l1) {l2 : Int} (hl2 : kzI l2) {l3 : Int} (hl3 : kzI l3) {l4 : Int} (hl4 : kzI l4) {l5 : Int} (hl5 : kzI l5) : CRi (Z12_sumBy G l0 l1 l2 l3 l4 l5) (X12_sumBy G l0 (Int32.ofInt l1) (Int32.ofInt l2) (Int32.ofInt l3) (Int32.ofInt l4) (Int32.ofInt l5)) := by
  unfold Z12_sumBy X12_sumBy
  exact c_gR (fun t1 => c_gR (fun t2 => c_aI hG rfl (fun t3 ht3 => c_rg (kz_add rfl rfl) fun u1 r1 e1 => c_rg (kz_sub rfl rfl) fun u2 r2 e2 => c_cl (e2 ▸ (e1 ▸ (qX12_placeOf hG r1 r2 ht3))) (fun t4 ht4 => c_aI hG rfl (fun t5 ht5 => c_cnd (kz_le (by unfold kzI; omega) hl3 rfl rfl) ((qX12_sumBy_49 hG l0 hl1 hl4 hl5 ht5)) (c_gR (fun t6 => c_aI hG rfl (fun t7 ht7 => c_cnd (kz_eq hl3 ht7 rfl rfl) ((qX12_sumBy_49 hG l0 hl1 hl4 hl5 ht5)) (c_gR (fun t8 => c_aI hG rfl (fun t9 ht9 => (qX12_sumBy_50 hG l0 hl1 hl4 hl5 ht5 ht9))))))))))))
def Z12_productBy (G : kdS) (l0 : Nat) (l1 : Int) (l2 : Int) (l3 : Int) (l4 : Int) : kzM → Option (Int × kzM) :=
  zgR G 12 37 l0 fun t1 =>
  zgR G 12 24 l0 fun t2 =>
  zaI G t2 l3 fun t3 =>
  zlI (l1 + l4) fun u1 =>
  zlI (l2 - (1 : Int)) fun u2 =>
  zcl (Z12_placeOf G u1 u2 t3) fun t4 =>
  zaL G t1 t4 fun t5 =>
  zgR G 12 26 l0 fun t6 =>
  zaI G t6 l3 fun t7 =>
  zlL (t5 * t7) fun u3 =>
  zrt u3
theorem qX12_productBy {G : kdS} (hG : kzG G) (l0 : Nat) {l1 : Int} (hl1 : kzI l1) {l2 : Int} (hl2 : kzI l2) {l3 : Int} (hl3 : kzI l3) {l4 : Int} (hl4 : kzI l4) : CRl (Z12_productBy G l0 l1 l2 l3 l4) (X12_productBy G l0 (Int32.ofInt l1) (Int32.ofInt l2) (Int32.ofInt l3) (Int32.ofInt l4)) := by
  unfold Z12_productBy X12_productBy
  exact c_gR (fun t1 => c_gR (fun t2 => c_aI hG rfl (fun t3 ht3 => c_rg (kz_add rfl rfl) fun u1 r1 e1 => c_rg (kz_sub rfl rfl) fun u2 r2 e2 => c_cl (e2 ▸ (e1 ▸ (qX12_placeOf hG r1 r2 ht3))) (fun t4 ht4 => c_aL hG rfl (fun t5 ht5 => c_gR (fun t6 => c_aI hG rfl (fun t7 ht7 => c_rgL (kzL_mul rfl (kz_i2l ht7 rfl)) fun u3 r3 e3 => c_rt r3 e3)))))))
def Z12_manyBy (G : kdS) (l0 : Nat) (l1 : Int) (l2 : Int) (l3 : Int) (l4 : Int) : kzM → Option (Int × kzM) :=
  zgR G 12 38 l0 fun t1 =>
  zgR G 12 24 l0 fun t2 =>
  zaI G t2 l3 fun t3 =>
  zlI (l1 + l4) fun u1 =>
  zlI (l2 - (1 : Int)) fun u2 =>
  zcl (Z12_placeOf G u1 u2 t3) fun t4 =>
  zaI G t1 t4 fun t5 =>
  zlI (t5 + (1 : Int)) fun u3 =>
  zrt u3
theorem qX12_manyBy {G : kdS} (hG : kzG G) (l0 : Nat) {l1 : Int} (hl1 : kzI l1) {l2 : Int} (hl2 : kzI l2) {l3 : Int} (hl3 : kzI l3) {l4 : Int} (hl4 : kzI l4) : CRi (Z12_manyBy G l0 l1 l2 l3 l4) (X12_manyBy G l0 (Int32.ofInt l1) (Int32.ofInt l2) (Int32.ofInt l3) (Int32.ofInt l4)) := by
  unfold Z12_manyBy X12_manyBy
  exact c_gR (fun t1 => c_gR (fun t2 => c_aI hG rfl (fun t3 ht3 => c_rg (kz_add rfl rfl) fun u1 r1 e1 => c_rg (kz_sub rfl rfl) fun u2 r2 e2 => c_cl (e2 ▸ (e1 ▸ (qX12_placeOf hG r1 r2 ht3))) (fun t4 ht4 => c_aI hG rfl (fun t5 ht5 => c_rg (kz_add rfl rfl) fun u3 r3 e3 => c_rt r3 e3)))))
def Z12_findPart_247 (G : kdS) (k37 : Nat → Int → Int → Int → Int → Int → Int → kzM → Option (Unit × kzM)) (l0 : Nat) (l1 : Int) (l2 : Int) (l3 : Int) (l4 : Int) (l5 : Int) (l6 : Int) : kzM → Option (Unit × kzM) :=
  zlI (l6 + (1 : Int)) fun t1 =>
  k37 l0 l1 l2 l3 l4 l5 t1
theorem qX12_findPart_247 {G : kdS} (hG : kzG G) {k37' : Nat → Int → Int → Int → Int → Int → Int → kzM → Option (Unit × kzM)} {k37 : Nat → Int32 → Int32 → Int32 → Int32 → Int32 → Int32 → kdM → Option (Unit × kdM)} (hk37 : ∀ (a0 : Nat) (a1 : Int) (_ : kzI a1) (a2 : Int) (_ : kzI a2) (a3 : Int) (_ : kzI a3) (a4 : Int) (_ : kzI a4) (a5 : Int) (_ : kzI a5) (a6 : Int) (_ : kzI a6), CRu (k37' a0 a1 a2 a3 a4 a5 a6) (k37 a0 (Int32.ofInt a1) (Int32.ofInt a2) (Int32.ofInt a3) (Int32.ofInt a4) (Int32.ofInt a5) (Int32.ofInt a6))) (l0 : Nat) {l1 : Int} (hl1 : kzI l1) {l2 : Int} (hl2 : kzI l2) {l3 : Int} (hl3 : kzI l3) {l4 : Int} (hl4 : kzI l4) {l5 : Int} (hl5 : kzI l5) {l6 : Int} (hl6 : kzI l6) : CRu (Z12_findPart_247 G k37' l0 l1 l2 l3 l4 l5 l6) (X12_findPart_247 G k37 l0 (Int32.ofInt l1) (Int32.ofInt l2) (Int32.ofInt l3) (Int32.ofInt l4) (Int32.ofInt l5) (Int32.ofInt l6)) := by
  unfold Z12_findPart_247 X12_findPart_247
  exact c_lI (kz_add rfl rfl) (fun t1 ht1 => (hk37 l0 _ hl1 _ hl2 _ hl3 _ hl4 _ hl5 _ ht1))
def Z12_findPart_241 (G : kdS) (k37 : Nat → Int → Int → Int → Int → Int → Int → kzM → Option (Unit × kzM)) (k49 : Nat → Int → Int → Int → Int → Int → Int → Int → kzM → Option (Unit × kzM)) (l0 : Nat) (l1 : Int) (l2 : Int) (l3 : Int) (l4 : Int) (l5 : Int) (l6 : Int) (l7 : Int) : kzM → Option (Unit × kzM) :=
  zlI (l7 + (1 : Int)) fun t1 =>
  k49 l0 l1 l2 l3 l4 l5 l6 t1
theorem qX12_findPart_241 {G : kdS} (hG : kzG G) {k37' : Nat → Int → Int → Int → Int → Int → Int → kzM → Option (Unit × kzM)} {k37 : Nat → Int32 → Int32 → Int32 → Int32 → Int32 → Int32 → kdM → Option (Unit × kdM)} (hk37 : ∀ (a0 : Nat) (a1 : Int) (_ : kzI a1) (a2 : Int) (_ : kzI a2) (a3 : Int) (_ : kzI a3) (a4 : Int) (_ : kzI a4) (a5 : Int) (_ : kzI a5) (a6 : Int) (_ : kzI a6), CRu (k37' a0 a1 a2 a3 a4 a5 a6) (k37 a0 (Int32.ofInt a1) (Int32.ofInt a2) (Int32.ofInt a3) (Int32.ofInt a4) (Int32.ofInt a5) (Int32.ofInt a6))) {k49' : Nat → Int → Int → Int → Int → Int → Int → Int → kzM → Option (Unit × kzM)} {k49 : Nat → Int32 → Int32 → Int32 → Int32 → Int32 → Int32 → Int32 → kdM → Option (Unit × kdM)} (hk49 : ∀ (a0 : Nat) (a1 : Int) (_ : kzI a1) (a2 : Int) (_ : kzI a2) (a3 : Int) (_ : kzI a3) (a4 : Int) (_ : kzI a4) (a5 : Int) (_ : kzI a5) (a6 : Int) (_ : kzI a6) (a7 : Int) (_ : kzI a7), CRu (k49' a0 a1 a2 a3 a4 a5 a6 a7) (k49 a0 (Int32.ofInt a1) (Int32.ofInt a2) (Int32.ofInt a3) (Int32.ofInt a4) (Int32.ofInt a5) (Int32.ofInt a6) (Int32.ofInt a7))) (l0 : Nat) {l1 : Int} (hl1 : kzI l1) {l2 : Int} (hl2 : kzI l2) {l3 : Int} (hl3 : kzI l3) {l4 : Int} (hl4 : kzI l4) {l5 : Int} (hl5 : kzI l5) {l6 : Int} (hl6 : kzI l6) {l7 : Int} (hl7 : kzI l7) : CRu (Z12_findPart_241 G k37' k49' l0 l1 l2 l3 l4 l5 l6 l7) (X12_findPart_241 G k37 k49 l0 (Int32.ofInt l1) (Int32.ofInt l2) (Int32.ofInt l3) (Int32.ofInt l4) (Int32.ofInt l5) (Int32.ofInt l6) (Int32.ofInt l7)) := by
  unfold Z12_findPart_241 X12_findPart_241
  exact c_lI (kz_add rfl rfl) (fun t1 ht1 => (hk49 l0 _ hl1 _ hl2 _ hl3 _ hl4 _ hl5 _ hl6 _ ht1))
def Z12_findPart_214 (G : kdS) (k37 : Nat → Int → Int → Int → Int → Int → Int → kzM → Option (Unit × kzM)) (k49 : Nat → Int → Int → Int → Int → Int → Int → Int → kzM → Option (Unit × kzM)) (l0 : Nat) (l1 : Int) (l2 : Int) (l3 : Int) (l4 : Int) (l5 : Int) (l6 : Int) (l7 : Int) (l8 : Int) (l9 : Int) (l11 : Int) : kzM → Option (Unit × kzM) :=
  zgR G 12 36 l0 fun t1 =>
  ztI G t1 l5 l8 <|
  zgR G 12 37 l0 fun t2 =>
  ztL G t2 l5 l9 <|
  zgR G 12 38 l0 fun t3 =>
  ztI G t3 l5 l11 <|
  Z12_findPart_241 G k37 k49 l0 l1 l2 l3 l4 l5 l6 l7
theorem qX12_findPart_214 {G : kdS} (hG : kzG G) {k37' : Nat → Int → Int → Int → Int → Int → Int → kzM → Option (Unit × kzM)} {k37 : Nat → Int32 → Int32 → Int32 → Int32 → Int32 → Int32 → kdM → Option (Unit × kdM)} (hk37 : ∀ (a0 : Nat) (a1 : Int) (_ : kzI a1) (a2 : Int) (_ : kzI a2) (a3 : Int) (_ : kzI a3) (a4 : Int) (_ : kzI a4) (a5 : Int) (_ : kzI a5) (a6 : Int) (_ : kzI a6), CRu (k37' a0 a1 a2 a3 a4 a5 a6) (k37 a0 (Int32.ofInt a1) (Int32.ofInt a2) (Int32.ofInt a3) (Int32.ofInt a4) (Int32.ofInt a5) (Int32.ofInt a6))) {k49' : Nat → Int → Int → Int → Int → Int → Int → Int → kzM → Option (Unit × kzM)} {k49 : Nat → Int32 → Int32 → Int32 → Int32 → Int32 → Int32 → Int32 → kdM → Option (Unit × kdM)} (hk49 : ∀ (a0 : Nat) (a1 : Int) (_ : kzI a1) (a2 : Int) (_ : kzI a2) (a3 : Int) (_ : kzI a3) (a4 : Int) (_ : kzI a4) (a5 : Int) (_ : kzI a5) (a6 : Int) (_ : kzI a6) (a7 : Int) (_ : kzI a7), CRu (k49' a0 a1 a2 a3 a4 a5 a6 a7) (k49 a0 (Int32.ofInt a1) (Int32.ofInt a2) (Int32.ofInt a3) (Int32.ofInt a4) (Int32.ofInt a5) (Int32.ofInt a6) (Int32.ofInt a7))) (l0 : Nat) {l1 : Int} (hl1 : kzI l1) {l2 : Int} (hl2 : kzI l2) {l3 : Int} (hl3 : kzI l3) {l4 : Int} (hl4 : kzI l4) {l5 : Int} (hl5 : kzI l5) {l6 : Int} (hl6 : kzI l6) {l7 : Int} (hl7 : kzI l7) {l8 : Int} (hl8 : kzI l8) {l9 : Int} (hl9 : kzL l9) {l11 : Int} (hl11 : kzI l11) : CRu (Z12_findPart_214 G k37' k49' l0 l1 l2 l3 l4 l5 l6 l7 l8 l9 l11) (X12_findPart_214 G k37 k49 l0 (Int32.ofInt l1) (Int32.ofInt l2) (Int32.ofInt l3) (Int32.ofInt l4) (Int32.ofInt l5) (Int32.ofInt l6) (Int32.ofInt l7) (Int32.ofInt l8) (Int64.ofInt l9) (Int32.ofInt l11)) := by
  unfold Z12_findPart_214 X12_findPart_214
  exact c_gR (fun t1 => c_tI hG rfl hl8 rfl (c_gR (fun t2 => c_tL hG rfl hl9 rfl (c_gR (fun t3 => c_tI hG rfl hl11 rfl ((qX12_findPart_241 hG hk37 hk49 l0 hl1 hl2 hl3 hl4 hl5 hl6 hl7)))))))
def Z12_findPart_164 (G : kdS) (k37 : Nat → Int → Int → Int → Int → Int → Int → kzM → Option (Unit × kzM)) (k49 : Nat → Int → Int → Int → Int → Int → Int → Int → kzM → Option (Unit × kzM)) (l0 : Nat) (l1 : Int) (l2 : Int) (l3 : Int) (l4 : Int) (l5 : Int) (l6 : Int) (l7 : Int) (l8 : Int) (l9 : Int) (l11 : Int) (l12 : Int) (s0 : Int) : kzM → Option (Unit × kzM) :=
  zcnd (l12 = (0 : Int))
  (zcnd (s0 = (0 : Int))
  (Z12_findPart_241 G k37 k49 l0 l1 l2 l3 l4 l5 l6 l7)
  (zgR G 12 37 l0 fun t1 =>
  zaL G t1 l5 fun t2 =>
  zcnd (t2 < l9)
  (Z12_findPart_214 G k37 k49 l0 l1 l2 l3 l4 l5 l6 l7 l8 l9 l11)
  (zgR G 12 37 l0 fun t3 =>
  zaL G t3 l5 fun t4 =>
  zcnd (l9 = t4)
  (zgR G 12 38 l0 fun t5 =>
  zaI G t5 l5 fun t6 =>
  zcnd (t6 ≤ l11)
  (Z12_findPart_241 G k37 k49 l0 l1 l2 l3 l4 l5 l6 l7)
  (Z12_findPart_214 G k37 k49 l0 l1 l2 l3 l4 l5 l6 l7 l8 l9 l11))
  (Z12_findPart_241 G k37 k49 l0 l1 l2 l3 l4 l5 l6 l7))))
  (Z12_findPart_214 G k37 k49 l0 l1 l2 l3 l4 l5 l6 l7 l8 l9 l11)
theorem qX12_findPart_164 {G : kdS} (hG : kzG G) {k37' : Nat → Int → Int → Int → Int → Int → Int → kzM → Option (Unit × kzM)} {k37 : Nat → Int32 → Int32 → Int32 → Int32 → Int32 → Int32 → kdM → Option (Unit × kdM)} (hk37 : ∀ (a0 : Nat) (a1 : Int) (_ : kzI a1) (a2 : Int) (_ : kzI a2) (a3 : Int) (_ : kzI a3) (a4 : Int) (_ : kzI a4) (a5 : Int) (_ : kzI a5) (a6 : Int) (_ : kzI a6), CRu (k37' a0 a1 a2 a3 a4 a5 a6) (k37 a0 (Int32.ofInt a1) (Int32.ofInt a2) (Int32.ofInt a3) (Int32.ofInt a4) (Int32.ofInt a5) (Int32.ofInt a6))) {k49' : Nat → Int → Int → Int → Int → Int → Int → Int → kzM → Option (Unit × kzM)} {k49 : Nat → Int32 → Int32 → Int32 → Int32 → Int32 → Int32 → Int32 → kdM → Option (Unit × kdM)} (hk49 : ∀ (a0 : Nat) (a1 : Int) (_ : kzI a1) (a2 : Int) (_ : kzI a2) (a3 : Int) (_ : kzI a3) (a4 : Int) (_ : kzI a4) (a5 : Int) (_ : kzI a5) (a6 : Int) (_ : kzI a6) (a7 : Int) (_ : kzI a7), CRu (k49' a0 a1 a2 a3 a4 a5 a6 a7) (k49 a0 (Int32.ofInt a1) (Int32.ofInt a2) (Int32.ofInt a3) (Int32.ofInt a4) (Int32.ofInt a5) (Int32.ofInt a6) (Int32.ofInt a7))) (l0 : Nat) {l1 : Int} (hl1 : kzI l1) {l2 : Int} (hl2 : kzI l2) {l3 : Int} (hl3 : kzI l3) {l4 : Int} (hl4 : kzI l4) {l5 : Int} (hl5 : kzI l5) {l6 : Int} (hl6 : kzI l6) {l7 : Int} (hl7 : kzI l7) {l8 : Int} (hl8 : kzI l8) {l9 : Int} (hl9 : kzL l9) {l11 : Int} (hl11 : kzI l11) {l12 : Int} (hl12 : kzI l12) {s0 : Int} (hs0 : kzI s0) : CRu (Z12_findPart_164 G k37' k49' l0 l1 l2 l3 l4 l5 l6 l7 l8 l9 l11 l12 s0) (X12_findPart_164 G k37 k49 l0 (Int32.ofInt l1) (Int32.ofInt l2) (Int32.ofInt l3) (Int32.ofInt l4) (Int32.ofInt l5) (Int32.ofInt l6) (Int32.ofInt l7) (Int32.ofInt l8) (Int64.ofInt l9) (Int32.ofInt l11) (Int32.ofInt l12) (Int32.ofInt s0)) := by
  unfold Z12_findPart_164 X12_findPart_164
  exact c_cnd (kz_eq hl12 (by unfold kzI; omega) rfl rfl) (c_cnd (kz_eq hs0 (by unfold kzI; omega) rfl rfl) ((qX12_findPart_241 hG hk37 hk49 l0 hl1 hl2 hl3 hl4 hl5 hl6 hl7)) (c_gR (fun t1 => c_aL hG rfl (fun t2 ht2 => c_cnd (kzL_gt hl9 ht2 rfl rfl) ((qX12_findPart_214 hG hk37 hk49 l0 hl1 hl2 hl3 hl4 hl5 hl6 hl7 hl8 hl9 hl11)) (c_gR (fun t3 => c_aL hG rfl (fun t4 ht4 => c_cnd (kzL_eq hl9 ht4 rfl rfl) (c_gR (fun t5 => c_aI hG rfl (fun t6 ht6 => c_cnd (kz_le ht6 hl11 rfl rfl) ((qX12_findPart_241 hG hk37 hk49 l0 hl1 hl2 hl3 hl4 hl5 hl6 hl7)) ((qX12_findPart_214 hG hk37 hk49 l0 hl1 hl2 hl3 hl4 hl5 hl6 hl7 hl8 hl9 hl11))))) ((qX12_findPart_241 hG hk37 hk49 l0 hl1 hl2 hl3 hl4 hl5 hl6 hl7))))))))) ((qX12_findPart_214 hG hk37 hk49 l0 hl1 hl2 hl3 hl4 hl5 hl6 hl7 hl8 hl9 hl11))
def Z12_findPart_163 (G : kdS) (k37 : Nat → Int → Int → Int → Int → Int → Int → kzM → Option (Unit × kzM)) (k49 : Nat → Int → Int → Int → Int → Int → Int → Int → kzM → Option (Unit × kzM)) (l0 : Nat) (l1 : Int) (l2 : Int) (l3 : Int) (l4 : Int) (l5 : Int) (l6 : Int) (l7 : Int) (l8 : Int) (l9 : Int) (l11 : Int) (l12 : Int) : kzM → Option (Unit × kzM) :=
  Z12_findPart_164 G k37 k49 l0 l1 l2 l3 l4 l5 l6 l7 l8 l9 l11 l12 (0 : Int)
theorem qX12_findPart_163 {G : kdS} (hG : kzG G) {k37' : Nat → Int → Int → Int → Int → Int → Int → kzM → Option (Unit × kzM)} {k37 : Nat → Int32 → Int32 → Int32 → Int32 → Int32 → Int32 → kdM → Option (Unit × kdM)} (hk37 : ∀ (a0 : Nat) (a1 : Int) (_ : kzI a1) (a2 : Int) (_ : kzI a2) (a3 : Int) (_ : kzI a3) (a4 : Int) (_ : kzI a4) (a5 : Int) (_ : kzI a5) (a6 : Int) (_ : kzI a6), CRu (k37' a0 a1 a2 a3 a4 a5 a6) (k37 a0 (Int32.ofInt a1) (Int32.ofInt a2) (Int32.ofInt a3) (Int32.ofInt a4) (Int32.ofInt a5) (Int32.ofInt a6))) {k49' : Nat → Int → Int → Int → Int → Int → Int → Int → kzM → Option (Unit × kzM)} {k49 : Nat → Int32 → Int32 → Int32 → Int32 → Int32 → Int32 → Int32 → kdM → Option (Unit × kdM)} (hk49 : ∀ (a0 : Nat) (a1 : Int) (_ : kzI a1) (a2 : Int) (_ : kzI a2) (a3 : Int) (_ : kzI a3) (a4 : Int) (_ : kzI a4) (a5 : Int) (_ : kzI a5) (a6 : Int) (_ : kzI a6) (a7 : Int) (_ : kzI a7), CRu (k49' a0 a1 a2 a3 a4 a5 a6 a7) (k49 a0 (Int32.ofInt a1) (Int32.ofInt a2) (Int32.ofInt a3) (Int32.ofInt a4) (Int32.ofInt a5) (Int32.ofInt a6) (Int32.ofInt a7))) (l0 : Nat) {l1 : Int} (hl1 : kzI l1) {l2 : Int} (hl2 : kzI l2) {l3 : Int} (hl3 : kzI l3) {l4 : Int} (hl4 : kzI l4) {l5 : Int} (hl5 : kzI l5) {l6 : Int} (hl6 : kzI l6) {l7 : Int} (hl7 : kzI l7) {l8 : Int} (hl8 : kzI l8) {l9 : Int} (hl9 : kzL l9) {l11 : Int} (hl11 : kzI l11) {l12 : Int} (hl12 : kzI l12) : CRu (Z12_findPart_163 G k37' k49' l0 l1 l2 l3 l4 l5 l6 l7 l8 l9 l11 l12) (X12_findPart_163 G k37 k49 l0 (Int32.ofInt l1) (Int32.ofInt l2) (Int32.ofInt l3) (Int32.ofInt l4) (Int32.ofInt l5) (Int32.ofInt l6) (Int32.ofInt l7) (Int32.ofInt l8) (Int64.ofInt l9) (Int32.ofInt l11) (Int32.ofInt l12)) := by
  unfold Z12_findPart_163 X12_findPart_163
  exact (qX12_findPart_164 hG hk37 hk49 l0 hl1 hl2 hl3 hl4 hl5 hl6 hl7 hl8 hl9 hl11 hl12 (by unfold kzI; omega))
def Z12_findPart_137 (G : kdS) (k37 : Nat → Int → Int → Int → Int → Int → Int → kzM → Option (Unit × kzM)) (k49 : Nat → Int → Int → Int → Int → Int → Int → Int → kzM → Option (Unit × kzM)) (l0 : Nat) (l1 : Int) (l2 : Int) (l3 : Int) (l4 : Int) (l5 : Int) (l6 : Int) (l7 : Int) (l8 : Int) (l9 : Int) (l11 : Int) (s0 : Int) : kzM → Option (Unit × kzM) :=
  zgR G 12 36 l0 fun t1 =>
  zaI G t1 l5 fun t2 =>
  zcnd (l8 = t2)
  (zcnd ((1000000000 : Int) ≤ l8)
  (Z12_findPart_163 G k37 k49 l0 l1 l2 l3 l4 l5 l6 l7 l8 l9 l11 s0)
  (Z12_findPart_164 G k37 k49 l0 l1 l2 l3 l4 l5 l6 l7 l8 l9 l11 s0 (1 : Int)))
  (Z12_findPart_163 G k37 k49 l0 l1 l2 l3 l4 l5 l6 l7 l8 l9 l11 s0)
theorem qX12_findPart_137 {G : kdS} (hG : kzG G) {k37' : Nat → Int → Int → Int → Int → Int → Int → kzM → Option (Unit × kzM)} {k37 : Nat → Int32 → Int32 → Int32 → Int32 → Int32 → Int32 → kdM → Option (Unit × kdM)} (hk37 : ∀ (a0 : Nat) (a1 : Int) (_ : kzI a1) (a2 : Int) (_ : kzI a2) (a3 : Int) (_ : kzI a3) (a4 : Int) (_ : kzI a4) (a5 : Int) (_ : kzI a5) (a6 : Int) (_ : kzI a6), CRu (k37' a0 a1 a2 a3 a4 a5 a6) (k37 a0 (Int32.ofInt a1) (Int32.ofInt a2) (Int32.ofInt a3) (Int32.ofInt a4) (Int32.ofInt a5) (Int32.ofInt a6))) {k49' : Nat → Int → Int → Int → Int → Int → Int → Int → kzM → Option (Unit × kzM)} {k49 : Nat → Int32 → Int32 → Int32 → Int32 → Int32 → Int32 → Int32 → kdM → Option (Unit × kdM)} (hk49 : ∀ (a0 : Nat) (a1 : Int) (_ : kzI a1) (a2 : Int) (_ : kzI a2) (a3 : Int) (_ : kzI a3) (a4 : Int) (_ : kzI a4) (a5 : Int) (_ : kzI a5) (a6 : Int) (_ : kzI a6) (a7 : Int) (_ : kzI a7), CRu (k49' a0 a1 a2 a3 a4 a5 a6 a7) (k49 a0 (Int32.ofInt a1) (Int32.ofInt a2) (Int32.ofInt a3) (Int32.ofInt a4) (Int32.ofInt a5) (Int32.ofInt a6) (Int32.ofInt a7))) (l0 : Nat) {l1 : Int} (hl1 : kzI l1) {l2 : Int} (hl2 : kzI l2) {l3 : Int} (hl3 : kzI l3) {l4 : Int} (hl4 : kzI l4) {l5 : Int} (hl5 : kzI l5) {l6 : Int} (hl6 : kzI l6) {l7 : Int} (hl7 : kzI l7) {l8 : Int} (hl8 : kzI l8) {l9 : Int} (hl9 : kzL l9) {l11 : Int} (hl11 : kzI l11) {s0 : Int} (hs0 : kzI s0) : CRu (Z12_findPart_137 G k37' k49' l0 l1 l2 l3 l4 l5 l6 l7 l8 l9 l11 s0) (X12_findPart_137 G k37 k49 l0 (Int32.ofInt l1) (Int32.ofInt l2) (Int32.ofInt l3) (Int32.ofInt l4) (Int32.ofInt l5) (Int32.ofInt l6) (Int32.ofInt l7) (Int32.ofInt l8) (Int64.ofInt l9) (Int32.ofInt l11) (Int32.ofInt s0)) := by
  unfold Z12_findPart_137 X12_findPart_137
  exact c_gR (fun t1 => c_aI hG rfl (fun t2 ht2 => c_cnd (kz_eq hl8 ht2 rfl rfl) (c_cnd (kz_le (by unfold kzI; omega) hl8 rfl rfl) ((qX12_findPart_163 hG hk37 hk49 l0 hl1 hl2 hl3 hl4 hl5 hl6 hl7 hl8 hl9 hl11 hs0)) ((qX12_findPart_164 hG hk37 hk49 l0 hl1 hl2 hl3 hl4 hl5 hl6 hl7 hl8 hl9 hl11 hs0 (by unfold kzI; omega)))) ((qX12_findPart_163 hG hk37 hk49 l0 hl1 hl2 hl3 hl4 hl5 hl6 hl7 hl8 hl9 hl11 hs0))))
def Z12_findPart_49B (G : kdS) (k37 : Nat → Int → Int → Int → Int → Int → Int → kzM → Option (Unit × kzM)) (k49 : Nat → Int → Int → Int → Int → Int → Int → Int → kzM → Option (Unit × kzM)) (l0 : Nat) (l1 : Int) (l2 : Int) (l3 : Int) (l4 : Int) (l5 : Int) (l6 : Int) (l7 : Int) : kzM → Option (Unit × kzM) :=
  zcnd ((10 : Int) < l7)
  (Z12_findPart_247 G k37 l0 l1 l2 l3 l4 l5 l6)
  (zgI G 12 1 l0 fun t1 =>
  zlI (l1 + l7) fun u1 =>
  zcnd (t1 < u1)
  (Z12_findPart_247 G k37 l0 l1 l2 l3 l4 l5 l6)
  (zgR G 12 24 l0 fun t2 =>
  zaI G t2 l6 fun t3 =>
  zcnd ((zand (zshr l4 t3) (1 : Int)) = (1 : Int))
  (zcv G 12 l0 (Z12_sumBy G l0 l1 l2 l3 l6 l7) fun t4 =>
  zcv G 12 l0 (Z12_productBy G l0 l1 l2 l6 l7) fun t5 =>
  zcv G 12 l0 (Z12_manyBy G l0 l1 l2 l6 l7) fun t6 =>
  zgR G 12 36 l0 fun t7 =>
  zaI G t7 l5 fun t8 =>
  zcnd (t8 ≤ t4)
  (Z12_findPart_137 G k37 k49 l0 l1 l2 l3 l4 l5 l6 l7 t4 t5 t6 (0 : Int))
  (Z12_findPart_137 G k37 k49 l0 l1 l2 l3 l4 l5 l6 l7 t4 t5 t6 (1 : Int)))
  (Z12_findPart_247 G k37 l0 l1 l2 l3 l4 l5 l6)))
theorem qX12_findPart_49B {G : kdS} (hG : kzG G) {k37' : Nat → Int → Int → Int → Int → Int → Int → kzM → Option (Unit × kzM)} {k37 : Nat → Int32 → Int32 → Int32 → Int32 → Int32 → Int32 → kdM → Option (Unit × kdM)} (hk37 : ∀ (a0 : Nat) (a1 : Int) (_ : kzI a1) (a2 : Int) (_ : kzI a2) (a3 : Int) (_ : kzI a3) (a4 : Int) (_ : kzI a4) (a5 : Int) (_ : kzI a5) (a6 : Int) (_ : kzI a6), CRu (k37' a0 a1 a2 a3 a4 a5 a6) (k37 a0 (Int32.ofInt a1) (Int32.ofInt a2) (Int32.ofInt a3) (Int32.ofInt a4) (Int32.ofInt a5) (Int32.ofInt a6))) {k49' : Nat → Int → Int → Int → Int → Int → Int → Int → kzM → Option (Unit × kzM)} {k49 : Nat → Int32 → Int32 → Int32 → Int32 → Int32 → Int32 → Int32 → kdM → Option (Unit × kdM)} (hk49 : ∀ (a0 : Nat) (a1 : Int) (_ : kzI a1) (a2 : Int) (_ : kzI a2) (a3 : Int) (_ : kzI a3) (a4 : Int) (_ : kzI a4) (a5 : Int) (_ : kzI a5) (a6 : Int) (_ : kzI a6) (a7 : Int) (_ : kzI a7), CRu (k49' a0 a1 a2 a3 a4 a5 a6 a7) (k49 a0 (Int32.ofInt a1) (Int32.ofInt a2) (Int32.ofInt a3) (Int32.ofInt a4) (Int32.ofInt a5) (Int32.ofInt a6) (Int32.ofInt a7))) (l0 : Nat) {l1 : Int} (hl1 : kzI l1) {l2 : Int} (hl2 : kzI l2) {l3 : Int} (hl3 : kzI l3) {l4 : Int} (hl4 : kzI l4) {l5 : Int} (hl5 : kzI l5) {l6 : Int} (hl6 : kzI l6) {l7 : Int} (hl7 : kzI l7) : CRu (Z12_findPart_49B G k37' k49' l0 l1 l2 l3 l4 l5 l6 l7) (X12_findPart_49B G k37 k49 l0 (Int32.ofInt l1) (Int32.ofInt l2) (Int32.ofInt l3) (Int32.ofInt l4) (Int32.ofInt l5) (Int32.ofInt l6) (Int32.ofInt l7)) := by
  unfold Z12_findPart_49B X12_findPart_49B
  exact c_cnd (kz_lt (by unfold kzI; omega) hl7 rfl rfl) ((qX12_findPart_247 hG hk37 l0 hl1 hl2 hl3 hl4 hl5 hl6)) (c_gI rfl (fun t1 ht1 => c_rg (kz_add rfl rfl) fun u1 r1 e1 => c_cnd (kz_lt ht1 r1 rfl e1) ((qX12_findPart_247 hG hk37 l0 hl1 hl2 hl3 hl4 hl5 hl6)) (c_gR (fun t2 => c_aI hG rfl (fun t3 ht3 => c_cnd (kz_eq (kzI_of _) (by unfold kzI; omega) (kz_and (kz_shr rfl rfl) rfl) rfl) (c_cv (qX12_sumBy hG l0 hl1 hl2 hl3 hl6 hl7) (fun t4 ht4 => c_cv (qX12_productBy hG l0 hl1 hl2 hl6 hl7) (fun t5 ht5 => c_cv (qX12_manyBy hG l0 hl1 hl2 hl6 hl7) (fun t6 ht6 => c_gR (fun t7 => c_aI hG rfl (fun t8 ht8 => c_cnd (kz_le ht8 ht4 rfl rfl) ((qX12_findPart_137 hG hk37 hk49 l0 hl1 hl2 hl3 hl4 hl5 hl6 hl7 ht4 ht5 ht6 (by unfold kzI; omega))) ((qX12_findPart_137 hG hk37 hk49 l0 hl1 hl2 hl3 hl4 hl5 hl6 hl7 ht4 ht5 ht6 (by unfold kzI; omega))))))))) ((qX12_findPart_247 hG hk37 l0 hl1 hl2 hl3 hl4 hl5 hl6)))))))
def Z12_findPart_49 (G : kdS) (k37 : Nat → Int → Int → Int → Int → Int → Int → kzM → Option (Unit × kzM)) : Nat → Int → Int → Int → Int → Int → Int → Int → kzM → Option (Unit × kzM) := lp (fun _ _ _ _ _ _ _ _ _ => none) (Z12_findPart_49B G k37) NN
theorem qX12_findPart_49 {G : kdS} (hG : kzG G) {k37' : Nat → Int → Int → Int → Int → Int → Int → kzM → Option (Unit × kzM)} {k37 : Nat → Int32 → Int32 → Int32 → Int32 → Int32 → Int32 → kdM → Option (Unit × kdM)} (hk37 : ∀ (a0 : Nat) (a1 : Int) (_ : kzI a1) (a2 : Int) (_ : kzI a2) (a3 : Int) (_ : kzI a3) (a4 : Int) (_ : kzI a4) (a5 : Int) (_ : kzI a5) (a6 : Int) (_ : kzI a6), CRu (k37' a0 a1 a2 a3 a4 a5 a6) (k37 a0 (Int32.ofInt a1) (Int32.ofInt a2) (Int32.ofInt a3) (Int32.ofInt a4) (Int32.ofInt a5) (Int32.ofInt a6))) : ∀ (a0 : Nat) (a1 : Int) (_ : kzI a1) (a2 : Int) (_ : kzI a2) (a3 : Int) (_ : kzI a3) (a4 : Int) (_ : kzI a4) (a5 : Int) (_ : kzI a5) (a6 : Int) (_ : kzI a6) (a7 : Int) (_ : kzI a7), CRu (Z12_findPart_49 G k37' a0 a1 a2 a3 a4 a5 a6 a7) (X12_findPart_49 G k37 a0 (Int32.ofInt a1) (Int32.ofInt a2) (Int32.ofInt a3) (Int32.ofInt a4) (Int32.ofInt a5) (Int32.ofInt a6) (Int32.ofInt a7)) :=
  lp_rel (R := fun (f' : Nat → Int → Int → Int → Int → Int → Int → Int → kzM → Option (Unit × kzM)) (f : Nat → Int32 → Int32 → Int32 → Int32 → Int32 → Int32 → Int32 → kdM → Option (Unit × kdM)) => ∀ (a0 : Nat) (a1 : Int) (_ : kzI a1) (a2 : Int) (_ : kzI a2) (a3 : Int) (_ : kzI a3) (a4 : Int) (_ : kzI a4) (a5 : Int) (_ : kzI a5) (a6 : Int) (_ : kzI a6) (a7 : Int) (_ : kzI a7), CRu (f' a0 a1 a2 a3 a4 a5 a6 a7) (f a0 (Int32.ofInt a1) (Int32.ofInt a2) (Int32.ofInt a3) (Int32.ofInt a4) (Int32.ofInt a5) (Int32.ofInt a6) (Int32.ofInt a7))) (by intros; exact c_no) (fun _ _ hf a0 a1 ha1 a2 ha2 a3 ha3 a4 ha4 a5 ha5 a6 ha6 a7 ha7 => qX12_findPart_49B hG hk37 hf a0 ha1 ha2 ha3 ha4 ha5 ha6 ha7) NN
def Z12_findPart_37B (G : kdS) (k37 : Nat → Int → Int → Int → Int → Int → Int → kzM → Option (Unit × kzM)) (l0 : Nat) (l1 : Int) (l2 : Int) (l3 : Int) (l4 : Int) (l5 : Int) (l6 : Int) : kzM → Option (Unit × kzM) :=
  zgI G 12 29 l0 fun t1 =>
  zcnd (t1 ≤ l6)
  (zrt ())
  (Z12_findPart_49 G k37 l0 l1 l2 l3 l4 l5 l6 (1 : Int))
theorem qX12_findPart_37B {G : kdS} (hG : kzG G) {k37' : Nat → Int → Int → Int → Int → Int → Int → kzM → Option (Unit × kzM)} {k37 : Nat → Int32 → Int32 → Int32 → Int32 → Int32 → Int32 → kdM → Option (Unit × kdM)} (hk37 : ∀ (a0 : Nat) (a1 : Int) (_ : kzI a1) (a2 : Int) (_ : kzI a2) (a3 : Int) (_ : kzI a3) (a4 : Int) (_ : kzI a4) (a5 : Int) (_ : kzI a5) (a6 : Int) (_ : kzI a6), CRu (k37' a0 a1 a2 a3 a4 a5 a6) (k37 a0 (Int32.ofInt a1) (Int32.ofInt a2) (Int32.ofInt a3) (Int32.ofInt a4) (Int32.ofInt a5) (Int32.ofInt a6))) (l0 : Nat) {l1 : Int} (hl1 : kzI l1) {l2 : Int} (hl2 : kzI l2) {l3 : Int} (hl3 : kzI l3) {l4 : Int} (hl4 : kzI l4) {l5 : Int} (hl5 : kzI l5) {l6 : Int} (hl6 : kzI l6) : CRu (Z12_findPart_37B G k37' l0 l1 l2 l3 l4 l5 l6) (X12_findPart_37B G k37 l0 (Int32.ofInt l1) (Int32.ofInt l2) (Int32.ofInt l3) (Int32.ofInt l4) (Int32.ofInt l5) (Int32.ofInt l6)) := by
  unfold Z12_findPart_37B X12_findPart_37B
  exact c_gI rfl (fun t1 ht1 => c_cnd (kz_le ht1 hl6 rfl rfl) (c_rt trivial rfl) ((qX12_findPart_49 hG hk37 l0 _ hl1 _ hl2 _ hl3 _ hl4 _ hl5 _ hl6 _ (by unfold kzI; omega))))
def Z12_findPart_37 (G : kdS) : Nat → Int → Int → Int → Int → Int → Int → kzM → Option (Unit × kzM) := lp (fun _ _ _ _ _ _ _ _ => none) (Z12_findPart_37B G) NN
theorem qX12_findPart_37 {G : kdS} (hG : kzG G) : ∀ (a0 : Nat) (a1 : Int) (_ : kzI a1) (a2 : Int) (_ : kzI a2) (a3 : Int) (_ : kzI a3) (a4 : Int) (_ : kzI a4) (a5 : Int) (_ : kzI a5) (a6 : Int) (_ : kzI a6), CRu (Z12_findPart_37 G a0 a1 a2 a3 a4 a5 a6) (X12_findPart_37 G a0 (Int32.ofInt a1) (Int32.ofInt a2) (Int32.ofInt a3) (Int32.ofInt a4) (Int32.ofInt a5) (Int32.ofInt a6)) :=
  lp_rel (R := fun (f' : Nat → Int → Int → Int → Int → Int → Int → kzM → Option (Unit × kzM)) (f : Nat → Int32 → Int32 → Int32 → Int32 → Int32 → Int32 → kdM → Option (Unit × kdM)) => ∀ (a0 : Nat) (a1 : Int) (_ : kzI a1) (a2 : Int) (_ : kzI a2) (a3 : Int) (_ : kzI a3) (a4 : Int) (_ : kzI a4) (a5 : Int) (_ : kzI a5) (a6 : Int) (_ : kzI a6), CRu (f' a0 a1 a2 a3 a4 a5 a6) (f a0 (Int32.ofInt a1) (Int32.ofInt a2) (Int32.ofInt a3) (Int32.ofInt a4) (Int32.ofInt a5) (Int32.ofInt a6))) (by intros; exact c_no) (fun _ _ hf a0 a1 ha1 a2 ha2 a3 ha3 a4 ha4 a5 ha5 a6 ha6 => qX12_findPart_37B hG hf a0 ha1 ha2 ha3 ha4 ha5 ha6) NN
def Z12_findPart (G : kdS) (l0 : Nat) (l1 : Int) (l2 : Int) (l3 : Int) (l4 : Int) : kzM → Option (Unit × kzM) :=
  zcl (Z12_placeOf G l1 l2 l3) fun t1 =>
  zgR G 12 36 l0 fun t2 =>
  ztI G t2 t1 (1000000000 : Int) <|
  zgR G 12 37 l0 fun t3 =>
  ztL G t3 t1 (0 : Int) <|
  zgR G 12 38 l0 fun t4 =>
  ztI G t4 t1 (0 : Int) <|
  Z12_findPart_37 G l0 l1 l2 l3 l4 t1 (0 : Int)
theorem qX12_findPart {G : kdS} (hG : kzG G) (l0 : Nat) {l1 : Int} (hl1 : kzI l1) {l2 : Int} (hl2 : kzI l2) {l3 : Int} (hl3 : kzI l3) {l4 : Int} (hl4 : kzI l4) : CRu (Z12_findPart G l0 l1 l2 l3 l4) (X12_findPart G l0 (Int32.ofInt l1) (Int32.ofInt l2) (Int32.ofInt l3) (Int32.ofInt l4)) := by
  unfold Z12_findPart X12_findPart
  exact c_cl (qX12_placeOf hG hl1 hl2 hl3) (fun t1 ht1 => c_gR (fun t2 => c_tI hG rfl (by unfold kzI; omega) rfl (c_gR (fun t3 => c_tL hG rfl (show kzL (0 : Int) by unfold kzL; omega) rfl (c_gR (fun t4 => c_tI hG rfl (by unfold kzI; omega) rfl ((qX12_findPart_37 hG l0 _ hl1 _ hl2 _ hl3 _ hl4 _ ht1 _ (by unfold kzI; omega)))))))))
def Z12_findParts_98 (G : kdS) (k10 : Nat → Int → Int → kzM → Option (Unit × kzM)) (k16 : Nat → Int → Int → Int → kzM → Option (Unit × kzM)) (k24 : Nat → Int → Int → Int → Int → kzM → Option (Unit × kzM)) (l0 : Nat) (l1 : Int) (l2 : Int) (l3 : Int) (l4 : Int) : kzM → Option (Unit × kzM) :=
  zlI (l4 + (1 : Int)) fun t1 =>
  k24 l0 l1 l2 l3 t1
theorem qX12_findParts_98 {G : kdS} (hG : kzG G) {k10' : Nat → Int → Int → kzM → Option (Unit × kzM)} {k10 : Nat → Int32 → Int32 → kdM → Option (Unit × kdM)} (hk10 : ∀ (a0 : Nat) (a1 : Int) (_ : kzI a1) (a2 : Int) (_ : kzI a2), CRu (k10' a0 a1 a2) (k10 a0 (Int32.ofInt a1) (Int32.ofInt a2))) {k16' : Nat → Int → Int → Int → kzM → Option (Unit × kzM)} {k16 : Nat → Int32 → Int32 → Int32 → kdM → Option (Unit × kdM)} (hk16 : ∀ (a0 : Nat) (a1 : Int) (_ : kzI a1) (a2 : Int) (_ : kzI a2) (a3 : Int) (_ : kzI a3), CRu (k16' a0 a1 a2 a3) (k16 a0 (Int32.ofInt a1) (Int32.ofInt a2) (Int32.ofInt a3))) {k24' : Nat → Int → Int → Int → Int → kzM → Option (Unit × kzM)} {k24 : Nat → Int32 → Int32 → Int32 → Int32 → kdM → Option (Unit × kdM)} (hk24 : ∀ (a0 : Nat) (a1 : Int) (_ : kzI a1) (a2 : Int) (_ : kzI a2) (a3 : Int) (_ : kzI a3) (a4 : Int) (_ : kzI a4), CRu (k24' a0 a1 a2 a3 a4) (k24 a0 (Int32.ofInt a1) (Int32.ofInt a2) (Int32.ofInt a3) (Int32.ofInt a4))) (l0 : Nat) {l1 : Int} (hl1 : kzI l1) {l2 : Int} (hl2 : kzI l2) {l3 : Int} (hl3 : kzI l3) {l4 : Int} (hl4 : kzI l4) : CRu (Z12_findParts_98 G k10' k16' k24' l0 l1 l2 l3 l4) (X12_findParts_98 G k10 k16 k24 l0 (Int32.ofInt l1) (Int32.ofInt l2) (Int32.ofInt l3) (Int32.ofInt l4)) := by
  unfold Z12_findParts_98 X12_findParts_98
  exact c_lI (kz_add rfl rfl) (fun t1 ht1 => (hk24 l0 _ hl1 _ hl2 _ hl3 _ ht1))
def Z12_findParts_60 (G : kdS) (k10 : Nat → Int → Int → kzM → Option (Unit × kzM)) (k16 : Nat → Int → Int → Int → kzM → Option (Unit × kzM)) (k24 : Nat → Int → Int → Int → Int → kzM → Option (Unit × kzM)) (l0 : Nat) (l1 : Int) (l2 : Int) (l3 : Int) (l4 : Int) (l5 : Int) (s0 : Nat) (s1 : Int) (s2 : Int) : kzM → Option (Unit × kzM) :=
  ztI G s0 s1 s2 <|
  zgR G 12 37 l0 fun t1 =>
  ztL G t1 l5 (1 : Int) <|
  zgR G 12 38 l0 fun t2 =>
  ztI G t2 l5 (0 : Int) <|
  zgI G 12 1 l0 fun t3 =>
  zcnd (t3 ≤ l2)
  (Z12_findParts_98 G k10 k16 k24 l0 l1 l2 l3 l4)
  (zcnd (l3 ≤ (0 : Int))
  (Z12_findParts_98 G k10 k16 k24 l0 l1 l2 l3 l4)
  (zcv G 12 l0 (Z12_findPart G l0 l2 l3 l4 l1) fun _ =>
  Z12_findParts_98 G k10 k16 k24 l0 l1 l2 l3 l4))
theorem qX12_findParts_60 {G : kdS} (hG : kzG G) {k10' : Nat → Int → Int → kzM → Option (Unit × kzM)} {k10 : Nat → Int32 → Int32 → kdM → Option (Unit × kdM)} (hk10 : ∀ (a0 : Nat) (a1 : Int) (_ : kzI a1) (a2 : Int) (_ : kzI a2), CRu (k10' a0 a1 a2) (k10 a0 (Int32.ofInt a1) (Int32.ofInt a2))) {k16' : Nat → Int → Int → Int → kzM → Option (Unit × kzM)} {k16 : Nat → Int32 → Int32 → Int32 → kdM → Option (Unit × kdM)} (hk16 : ∀ (a0 : Nat) (a1 : Int) (_ : kzI a1) (a2 : Int) (_ : kzI a2) (a3 : Int) (_ : kzI a3), CRu (k16' a0 a1 a2 a3) (k16 a0 (Int32.ofInt a1) (Int32.ofInt a2) (Int32.ofInt a3))) {k24' : Nat → Int → Int → Int → Int → kzM → Option (Unit × kzM)} {k24 : Nat → Int32 → Int32 → Int32 → Int32 → kdM → Option (Unit × kdM)} (hk24 : ∀ (a0 : Nat) (a1 : Int) (_ : kzI a1) (a2 : Int) (_ : kzI a2) (a3 : Int) (_ : kzI a3) (a4 : Int) (_ : kzI a4), CRu (k24' a0 a1 a2 a3 a4) (k24 a0 (Int32.ofInt a1) (Int32.ofInt a2) (Int32.ofInt a3) (Int32.ofInt a4))) (l0 : Nat) {l1 : Int} (hl1 : kzI l1) {l2 : Int} (hl2 : kzI l2) {l3 : Int} (hl3 : kzI l3) {l4 : Int} (hl4 : kzI l4) {l5 : Int} (hl5 : kzI l5) (s0 : Nat) {s1 : Int} (hs1 : kzI s1) {s2 : Int} (hs2 : kzI s2) : CRu (Z12_findParts_60 G k10' k16' k24' l0 l1 l2 l3 l4 l5 s0 s1 s2) (X12_findParts_60 G k10 k16 k24 l0 (Int32.ofInt l1) (Int32.ofInt l2) (Int32.ofInt l3) (Int32.ofInt l4) (Int32.ofInt l5) s0 (Int32.ofInt s1) (Int32.ofInt s2)) := by
  unfold Z12_findParts_60 X12_findParts_60
  exact c_tI hG rfl hs2 rfl (c_gR (fun t1 => c_tL hG rfl (show kzL (1 : Int) by unfold kzL; omega) rfl (c_gR (fun t2 => c_tI hG rfl (by unfold kzI; omega) rfl (c_gI rfl (fun t3 ht3 => c_cnd (kz_le ht3 hl2 rfl rfl) ((qX12_findParts_98 hG hk10 hk16 hk24 l0 hl1 hl2 hl3 hl4)) (c_cnd (kz_le hl3 (by unfold kzI; omega) rfl rfl) ((qX12_findParts_98 hG hk10 hk16 hk24 l0 hl1 hl2 hl3 hl4)) (c_cv (qX12_findPart hG l0 hl2 hl3 hl4 hl1) (fun _ _ => (qX12_findParts_98 hG hk10 hk16 hk24 l0 hl1 hl2 hl3 hl4))))))))))
def Z12_findParts_24B (G : kdS) (k10 : Nat → Int → Int → kzM → Option (Unit × kzM)) (k16 : Nat → Int → Int → Int → kzM → Option (Unit × kzM)) (k24 : Nat → Int → Int → Int → Int → kzM → Option (Unit × kzM)) (l0 : Nat) (l1 : Int) (l2 : Int) (l3 : Int) (l4 : Int) : kzM → Option (Unit × kzM) :=
  zcnd ((4 : Int) ≤ l4)
  (zlI (l3 + (1 : Int)) fun t1 =>
  k16 l0 l1 l2 t1)
  (zcl (Z12_placeOf G l2 l3 l4) fun t2 =>
  zgR G 12 36 l0 fun t3 =>
  zgI G 12 1 l0 fun t4 =>
  zcnd (l2 = t4)
  (Z12_findParts_60 G k10 k16 k24 l0 l1 l2 l3 l4 t2 t3 t2 (0 : Int))
  (Z12_findParts_60 G k10 k16 k24 l0 l1 l2 l3 l4 t2 t3 t2 (1000000000 : Int)))
theorem qX12_findParts_24B {G : kdS} (hG : kzG G) {k10' : Nat → Int → Int → kzM → Option (Unit × kzM)} {k10 : Nat → Int32 → Int32 → kdM → Option (Unit × kdM)} (hk10 : ∀ (a0 : Nat) (a1 : Int) (_ : kzI a1) (a2 : Int) (_ : kzI a2), CRu (k10' a0 a1 a2) (k10 a0 (Int32.ofInt a1) (Int32.ofInt a2))) {k16' : Nat → Int → Int → Int → kzM → Option (Unit × kzM)} {k16 : Nat → Int32 → Int32 → Int32 → kdM → Option (Unit × kdM)} (hk16 : ∀ (a0 : Nat) (a1 : Int) (_ : kzI a1) (a2 : Int) (_ : kzI a2) (a3 : Int) (_ : kzI a3), CRu (k16' a0 a1 a2 a3) (k16 a0 (Int32.ofInt a1) (Int32.ofInt a2) (Int32.ofInt a3))) {k24' : Nat → Int → Int → Int → Int → kzM → Option (Unit × kzM)} {k24 : Nat → Int32 → Int32 → Int32 → Int32 → kdM → Option (Unit × kdM)} (hk24 : ∀ (a0 : Nat) (a1 : Int) (_ : kzI a1) (a2 : Int) (_ : kzI a2) (a3 : Int) (_ : kzI a3) (a4 : Int) (_ : kzI a4), CRu (k24' a0 a1 a2 a3 a4) (k24 a0 (Int32.ofInt a1) (Int32.ofInt a2) (Int32.ofInt a3) (Int32.ofInt a4))) (l0 : Nat) {l1 : Int} (hl1 : kzI l1) {l2 : Int} (hl2 : kzI l2) {l3 : Int} (hl3 : kzI l3) {l4 : Int} (hl4 : kzI l4) : CRu (Z12_findParts_24B G k10' k16' k24' l0 l1 l2 l3 l4) (X12_findParts_24B G k10 k16 k24 l0 (Int32.ofInt l1) (Int32.ofInt l2) (Int32.ofInt l3) (Int32.ofInt l4)) := by
  unfold Z12_findParts_24B X12_findParts_24B
  exact c_cnd (kz_le (by unfold kzI; omega) hl4 rfl rfl) (c_lI (kz_add rfl rfl) (fun t1 ht1 => (hk16 l0 _ hl1 _ hl2 _ ht1))) (c_cl (qX12_placeOf hG hl2 hl3 hl4) (fun t2 ht2 => c_gR (fun t3 => c_gI rfl (fun t4 ht4 => c_cnd (kz_eq hl2 ht4 rfl rfl) ((qX12_findParts_60 hG hk10 hk16 hk24 l0 hl1 hl2 hl3 hl4 ht2 t3 ht2 (by unfold kzI; omega))) ((qX12_findParts_60 hG hk10 hk16 hk24 l0 hl1 hl2 hl3 hl4 ht2 t3 ht2 (by unfold kzI; omega)))))))
def Z12_findParts_24 (G : kdS) (k10 : Nat → Int → Int → kzM → Option (Unit × kzM)) (k16 : Nat → Int → Int → Int → kzM → Option (Unit × kzM)) : Nat → Int → Int → Int → Int → kzM → Option (Unit × kzM) := lp (fun _ _ _ _ _ _ => none) (Z12_findParts_24B G k10 k16) NN
theorem qX12_findParts_24 {G : kdS} (hG : kzG G) {k10' : Nat → Int → Int → kzM → Option (Unit × kzM)} {k10 : Nat → Int32 → Int32 → kdM → Option (Unit × kdM)} (hk10 : ∀ (a0 : Nat) (a1 : Int) (_ : kzI a1) (a2 : Int) (_ : kzI a2), CRu (k10' a0 a1 a2) (k10 a0 (Int32.ofInt a1) (Int32.ofInt a2))) {k16' : Nat → Int → Int → Int → kzM → Option (Unit × kzM)} {k16 : Nat → Int32 → Int32 → Int32 → kdM → Option (Unit × kdM)} (hk16 : ∀ (a0 : Nat) (a1 : Int) (_ : kzI a1) (a2 : Int) (_ : kzI a2) (a3 : Int) (_ : kzI a3), CRu (k16' a0 a1 a2 a3) (k16 a0 (Int32.ofInt a1) (Int32.ofInt a2) (Int32.ofInt a3))) : ∀ (a0 : Nat) (a1 : Int) (_ : kzI a1) (a2 : Int) (_ : kzI a2) (a3 : Int) (_ : kzI a3) (a4 : Int) (_ : kzI a4), CRu (Z12_findParts_24 G k10' k16' a0 a1 a2 a3 a4) (X12_findParts_24 G k10 k16 a0 (Int32.ofInt a1) (Int32.ofInt a2) (Int32.ofInt a3) (Int32.ofInt a4)) :=
  lp_rel (R := fun (f' : Nat → Int → Int → Int → Int → kzM → Option (Unit × kzM)) (f : Nat → Int32 → Int32 → Int32 → Int32 → kdM → Option (Unit × kdM)) => ∀ (a0 : Nat) (a1 : Int) (_ : kzI a1) (a2 : Int) (_ : kzI a2) (a3 : Int) (_ : kzI a3) (a4 : Int) (_ : kzI a4), CRu (f' a0 a1 a2 a3 a4) (f a0 (Int32.ofInt a1) (Int32.ofInt a2) (Int32.ofInt a3) (Int32.ofInt a4))) (by intros; exact c_no) (fun _ _ hf a0 a1 ha1 a2 ha2 a3 ha3 a4 ha4 => qX12_findParts_24B hG hk10 hk16 hf a0 ha1 ha2 ha3 ha4) NN
def Z12_findParts_16B (G : kdS) (k10 : Nat → Int → Int → kzM → Option (Unit × kzM)) (k16 : Nat → Int → Int → Int → kzM → Option (Unit × kzM)) (l0 : Nat) (l1 : Int) (l2 : Int) (l3 : Int) : kzM → Option (Unit × kzM) :=
  zcnd ((5 : Int) ≤ l3)
  (zlI (l2 + (-1 : Int)) fun t1 =>
  k10 l0 l1 t1)
  (Z12_findParts_24 G k10 k16 l0 l1 l2 l3 (0 : Int))
theorem qX12_findParts_16B {G : kdS} (hG : kzG G) {k10' : Nat → Int → Int → kzM → Option (Unit × kzM)} {k10 : Nat → Int32 → Int32 → kdM → Option (Unit × kdM)} (hk10 : ∀ (a0 : Nat) (a1 : Int) (_ : kzI a1) (a2 : Int) (_ : kzI a2), CRu (k10' a0 a1 a2) (k10 a0 (Int32.ofInt a1) (Int32.ofInt a2))) {k16' : Nat → Int → Int → Int → kzM → Option (Unit × kzM)} {k16 : Nat → Int32 → Int32 → Int32 → kdM → Option (Unit × kdM)} (hk16 : ∀ (a0 : Nat) (a1 : Int) (_ : kzI a1) (a2 : Int) (_ : kzI a2) (a3 : Int) (_ : kzI a3), CRu (k16' a0 a1 a2 a3) (k16 a0 (Int32.ofInt a1) (Int32.ofInt a2) (Int32.ofInt a3))) (l0 : Nat) {l1 : Int} (hl1 : kzI l1) {l2 : Int} (hl2 : kzI l2) {l3 : Int} (hl3 : kzI l3) : CRu (Z12_findParts_16B G k10' k16' l0 l1 l2 l3) (X12_findParts_16B G k10 k16 l0 (Int32.ofInt l1) (Int32.ofInt l2) (Int32.ofInt l3)) := by
  unfold Z12_findParts_16B X12_findParts_16B
  exact c_cnd (kz_le (by unfold kzI; omega) hl3 rfl rfl) (c_lI (kz_add rfl rfl) (fun t1 ht1 => (hk10 l0 _ hl1 _ ht1))) ((qX12_findParts_24 hG hk10 hk16 l0 _ hl1 _ hl2 _ hl3 _ (by unfold kzI; omega)))
def Z12_findParts_16 (G : kdS) (k10 : Nat → Int → Int → kzM → Option (Unit × kzM)) : Nat → Int → Int → Int → kzM → Option (Unit × kzM) := lp (fun _ _ _ _ _ => none) (Z12_findParts_16B G k10) NN
theorem qX12_findParts_16 {G : kdS} (hG : kzG G) {k10' : Nat → Int → Int → kzM → Option (Unit × kzM)} {k10 : Nat → Int32 → Int32 → kdM → Option (Unit × kdM)} (hk10 : ∀ (a0 : Nat) (a1 : Int) (_ : kzI a1) (a2 : Int) (_ : kzI a2), CRu (k10' a0 a1 a2) (k10 a0 (Int32.ofInt a1) (Int32.ofInt a2))) : ∀ (a0 : Nat) (a1 : Int) (_ : kzI a1) (a2 : Int) (_ : kzI a2) (a3 : Int) (_ : kzI a3), CRu (Z12_findParts_16 G k10' a0 a1 a2 a3) (X12_findParts_16 G k10 a0 (Int32.ofInt a1) (Int32.ofInt a2) (Int32.ofInt a3)) :=
  lp_rel (R := fun (f' : Nat → Int → Int → Int → kzM → Option (Unit × kzM)) (f : Nat → Int32 → Int32 → Int32 → kdM → Option (Unit × kdM)) => ∀ (a0 : Nat) (a1 : Int) (_ : kzI a1) (a2 : Int) (_ : kzI a2) (a3 : Int) (_ : kzI a3), CRu (f' a0 a1 a2 a3) (f a0 (Int32.ofInt a1) (Int32.ofInt a2) (Int32.ofInt a3))) (by intros; exact c_no) (fun _ _ hf a0 a1 ha1 a2 ha2 a3 ha3 => qX12_findParts_16B hG hk10 hf a0 ha1 ha2 ha3) NN
def Z12_findParts_10B (G : kdS) (k10 : Nat → Int → Int → kzM → Option (Unit × kzM)) (l0 : Nat) (l1 : Int) (l2 : Int) : kzM → Option (Unit × kzM) :=
  zcnd (l2 < (0 : Int))
  (zrt ())
  (Z12_findParts_16 G k10 l0 l1 l2 (0 : Int))
theorem qX12_findParts_10B {G : kdS} (hG : kzG G) {k10' : Nat → Int → Int → kzM → Option (Unit × kzM)} {k10 : Nat → Int32 → Int32 → kdM → Option (Unit × kdM)} (hk10 : ∀ (a0 : Nat) (a1 : Int) (_ : kzI a1) (a2 : Int) (_ : kzI a2), CRu (k10' a0 a1 a2) (k10 a0 (Int32.ofInt a1) (Int32.ofInt a2))) (l0 : Nat) {l1 : Int} (hl1 : kzI l1) {l2 : Int} (hl2 : kzI l2) : CRu (Z12_findParts_10B G k10' l0 l1 l2) (X12_findParts_10B G k10 l0 (Int32.ofInt l1) (Int32.ofInt l2)) := by
  unfold Z12_findParts_10B X12_findParts_10B
  exact c_cnd (kz_lt hl2 (by unfold kzI; omega) rfl rfl) (c_rt trivial rfl) ((qX12_findParts_16 hG hk10 l0 _ hl1 _ hl2 _ (by unfold kzI; omega)))
def Z12_findParts_10 (G : kdS) : Nat → Int → Int → kzM → Option (Unit × kzM) := lp (fun _ _ _ _ => none) (Z12_findParts_10B G) NN
theorem qX12_findParts_10 {G : kdS} (hG : kzG G) : ∀ (a0 : Nat) (a1 : Int) (_ : kzI a1) (a2 : Int) (_ : kzI a2), CRu (Z12_findParts_10 G a0 a1 a2) (X12_findParts_10 G a0 (Int32.ofInt a1) (Int32.ofInt a2)) :=
  lp_rel (R := fun (f' : Nat → Int → Int → kzM → Option (Unit × kzM)) (f : Nat → Int32 → Int32 → kdM → Option (Unit × kdM)) => ∀ (a0 : Nat) (a1 : Int) (_ : kzI a1) (a2 : Int) (_ : kzI a2), CRu (f' a0 a1 a2) (f a0 (Int32.ofInt a1) (Int32.ofInt a2))) (by intros; exact c_no) (fun _ _ hf a0 a1 ha1 a2 ha2 => qX12_findParts_10B hG hf a0 ha1 ha2) NN
def Z12_findParts (G : kdS) (l0 : Nat) (l1 : Int) : kzM → Option (Unit × kzM) :=
  zcv G 12 l0 (Z12_findPrices G l0 l1) fun _ =>
  zgI G 12 1 l0 fun t1 =>
  Z12_findParts_10 G l0 l1 t1
theorem qX12_findParts {G : kdS} (hG : kzG G) (l0 : Nat) {l1 : Int} (hl1 : kzI l1) : CRu (Z12_findParts G l0 l1) (X12_findParts G l0 (Int32.ofInt l1)) := by
  unfold Z12_findParts X12_findParts
  exact c_cv (qX12_findPrices hG l0 hl1) (fun _ _ => c_gI rfl (fun t1 ht1 => (qX12_findParts_10 hG l0 _ hl1 _ ht1)))
def Z12_isBestPart_75 (G : kdS) (s0 : Int) : kzM → Option (Int × kzM) :=
  zrt (zB s0)
theorem qX12_isBestPart_75 {G : kdS} (hG : kzG G) {s0 : Int} (hs0 : kzI s0) : CRi (Z12_isBestPart_75 G s0) (X12_isBestPart_75 G (Int32.ofInt s0)) := by
  unfold Z12_isBestPart_75 X12_isBestPart_75
  exact c_rt (kz_BI _) (kz_B rfl)
def Z12_isBestPart_74 (G : kdS) : kzM → Option (Int × kzM) :=
  Z12_isBestPart_75 G (0 : Int)
theorem qX12_isBestPart_74 {G : kdS} (hG : kzG G) : CRi (Z12_isBestPart_74 G) (X12_isBestPart_74 G) := by
  unfold Z12_isBestPart_74 X12_isBestPart_74
  exact (qX12_isBestPart_75 hG (by unfold kzI; omega))
def Z12_isBestPart (G : kdS) (l0 : Nat) (l1 : Int) (l2 : Int) (l3 : Int) (l4 : Int) (l5 : Int) : kzM → Option (Int × kzM) :=
  zcl (Z12_placeOf G l1 l2 l3) fun t1 =>
  zcv G 12 l0 (Z12_sumBy G l0 l1 l2 l3 l4 l5) fun t2 =>
  zgR G 12 36 l0 fun t3 =>
  zaI G t3 t1 fun t4 =>
  zcnd (t2 = t4)
  (zcv G 12 l0 (Z12_productBy G l0 l1 l2 l4 l5) fun t5 =>
  zgR G 12 37 l0 fun t6 =>
  zaL G t6 t1 fun t7 =>
  zcnd (t5 = t7)
  (zcv G 12 l0 (Z12_manyBy G l0 l1 l2 l4 l5) fun t8 =>
  zgR G 12 38 l0 fun t9 =>
  zaI G t9 t1 fun t10 =>
  zcnd (t8 = t10)
  (Z12_isBestPart_75 G (1 : Int))
  (Z12_isBestPart_74 G))
  (Z12_isBestPart_74 G))
  (Z12_isBestPart_74 G)
theorem qX12_isBestPart {G : kdS} (hG : kzG G) (l0 : Nat) {l1 : Int} (hl1 : kzI l1) {l2 : Int} (hl2 : kzI l2) {l3 : Int} (hl3 : kzI l3) {l4 : Int} (hl4 : kzI l4) {l5 : Int} (hl5 : kzI l5) : CRi (Z12_isBestPart G l0 l1 l2 l3 l4 l5) (X12_isBestPart G l0 (Int32.ofInt l1) (Int32.ofInt l2) (Int32.ofInt l3) (Int32.ofInt l4) (Int32.ofInt l5)) := by
  unfold Z12_isBestPart X12_isBestPart
  exact c_cl (qX12_placeOf hG hl1 hl2 hl3) (fun t1 ht1 => c_cv (qX12_sumBy hG l0 hl1 hl2 hl3 hl4 hl5) (fun t2 ht2 => c_gR (fun t3 => c_aI hG rfl (fun t4 ht4 => c_cnd (kz_eq ht2 ht4 rfl rfl) (c_cv (qX12_productBy hG l0 hl1 hl2 hl4 hl5) (fun t5 ht5 => c_gR (fun t6 => c_aL hG rfl (fun t7 ht7 => c_cnd (kzL_eq ht5 ht7 rfl rfl) (c_cv (qX12_manyBy hG l0 hl1 hl2 hl4 hl5) (fun t8 ht8 => c_gR (fun t9 => c_aI hG rfl (fun t10 ht10 => c_cnd (kz_eq ht8 ht10 rfl rfl) ((qX12_isBestPart_75 hG (by unfold kzI; omega))) ((qX12_isBestPart_74 hG)))))) ((qX12_isBestPart_74 hG)))))) ((qX12_isBestPart_74 hG))))))
def Z12_layParts_127 (G : kdS) (k10 : Nat → Int → Int → Int → Int → Int → kzM → Option (Int × kzM)) (l0 : Nat) (l1 : Int) (l2 : Int) (l3 : Int) (l5 : Int) : kzM → Option (Int × kzM) :=
  zgR G 12 40 l0 fun t1 =>
  zaI G t1 l5 fun t2 =>
  zlI (l2 + t2) fun t3 =>
  zgR G 12 24 l0 fun t4 =>
  zgR G 12 39 l0 fun t5 =>
  zaI G t5 l5 fun t6 =>
  zaI G t4 t6 fun t7 =>
  zlI (l3 + (-1 : Int)) fun t8 =>
  zlI (l5 + (1 : Int)) fun t9 =>
  k10 l0 l1 t3 t8 t7 t9
theorem qX12_layParts_127 {G : kdS} (hG : kzG G) {k10' : Nat → Int → Int → Int → Int → Int → kzM → Option (Int × kzM)} {k10 : Nat → Int32 → Int32 → Int32 → Int32 → Int32 → kdM → Option (Int32 × kdM)} (hk10 : ∀ (a0 : Nat) (a1 : Int) (_ : kzI a1) (a2 : Int) (_ : kzI a2) (a3 : Int) (_ : kzI a3) (a4 : Int) (_ : kzI a4) (a5 : Int) (_ : kzI a5), CRi (k10' a0 a1 a2 a3 a4 a5) (k10 a0 (Int32.ofInt a1) (Int32.ofInt a2) (Int32.ofInt a3) (Int32.ofInt a4) (Int32.ofInt a5))) (l0 : Nat) {l1 : Int} (hl1 : kzI l1) {l2 : Int} (hl2 : kzI l2) {l3 : Int} (hl3 : kzI l3) {l5 : Int} (hl5 : kzI l5) : CRi (Z12_layParts_127 G k10' l0 l1 l2 l3 l5) (X12_layParts_127 G k10 l0 (Int32.ofInt l1) (Int32.ofInt l2) (Int32.ofInt l3) (Int32.ofInt l5)) := by
  unfold Z12_layParts_127 X12_layParts_127
  exact c_gR (fun t1 => c_aI hG rfl (fun t2 ht2 => c_lI (kz_add rfl rfl) (fun t3 ht3 => c_gR (fun t4 => c_gR (fun t5 => c_aI hG rfl (fun t6 ht6 => c_aI hG rfl (fun t7 ht7 => c_lI (kz_add rfl rfl) (fun t8 ht8 => c_lI (kz_add rfl rfl) (fun t9 ht9 => (hk10 l0 _ hl1 _ ht3 _ ht8 _ ht7 _ ht9))))))))))
def Z12_layParts_121 (G : kdS) (k10 : Nat → Int → Int → Int → Int → Int → kzM → Option (Int × kzM)) (k24 : Nat → Int → Int → Int → Int → Int → Int → Int → kzM → Option (Int × kzM)) (l0 : Nat) (l1 : Int) (l2 : Int) (l3 : Int) (l4 : Int) (l5 : Int) (l6 : Int) (l7 : Int) : kzM → Option (Int × kzM) :=
  zlI (l7 + (1 : Int)) fun t1 =>
  k24 l0 l1 l2 l3 l4 l5 l6 t1
theorem qX12_layParts_121 {G : kdS} (hG : kzG G) {k10' : Nat → Int → Int → Int → Int → Int → kzM → Option (Int × kzM)} {k10 : Nat → Int32 → Int32 → Int32 → Int32 → Int32 → kdM → Option (Int32 × kdM)} (hk10 : ∀ (a0 : Nat) (a1 : Int) (_ : kzI a1) (a2 : Int) (_ : kzI a2) (a3 : Int) (_ : kzI a3) (a4 : Int) (_ : kzI a4) (a5 : Int) (_ : kzI a5), CRi (k10' a0 a1 a2 a3 a4 a5) (k10 a0 (Int32.ofInt a1) (Int32.ofInt a2) (Int32.ofInt a3) (Int32.ofInt a4) (Int32.ofInt a5))) {k24' : Nat → Int → Int → Int → Int → Int → Int → Int → kzM → Option (Int × kzM)} {k24 : Nat → Int32 → Int32 → Int32 → Int32 → Int32 → Int32 → Int32 → kdM → Option (Int32 × kdM)} (hk24 : ∀ (a0 : Nat) (a1 : Int) (_ : kzI a1) (a2 : Int) (_ : kzI a2) (a3 : Int) (_ : kzI a3) (a4 : Int) (_ : kzI a4) (a5 : Int) (_ : kzI a5) (a6 : Int) (_ : kzI a6) (a7 : Int) (_ : kzI a7), CRi (k24' a0 a1 a2 a3 a4 a5 a6 a7) (k24 a0 (Int32.ofInt a1) (Int32.ofInt a2) (Int32.ofInt a3) (Int32.ofInt a4) (Int32.ofInt a5) (Int32.ofInt a6) (Int32.ofInt a7))) (l0 : Nat) {l1 : Int} (hl1 : kzI l1) {l2 : Int} (hl2 : kzI l2) {l3 : Int} (hl3 : kzI l3) {l4 : Int} (hl4 : kzI l4) {l5 : Int} (hl5 : kzI l5) {l6 : Int} (hl6 : kzI l6) {l7 : Int} (hl7 : kzI l7) : CRi (Z12_layParts_121 G k10' k24' l0 l1 l2 l3 l4 l5 l6 l7) (X12_layParts_121 G k10 k24 l0 (Int32.ofInt l1) (Int32.ofInt l2) (Int32.ofInt l3) (Int32.ofInt l4) (Int32.ofInt l5) (Int32.ofInt l6) (Int32.ofInt l7)) := by
  unfold Z12_layParts_121 X12_layParts_121
  exact c_lI (kz_add rfl rfl) (fun t1 ht1 => (hk24 l0 _ hl1 _ hl2 _ hl3 _ hl4 _ hl5 _ hl6 _ ht1))
def Z12_layParts_115 (G : kdS) (k10 : Nat → Int → Int → Int → Int → Int → kzM → Option (Int × kzM)) (k24 : Nat → Int → Int → Int → Int → Int → Int → Int → kzM → Option (Int × kzM)) (k41 : Nat → Int → Int → Int → Int → Int → Int → Int → Int → kzM → Option (Int × kzM)) (l0 : Nat) (l1 : Int) (l2 : Int) (l3 : Int) (l4 : Int) (l5 : Int) (l6 : Int) (l7 : Int) (l8 : Int) : kzM → Option (Int × kzM) :=
  zlI (l8 + (1 : Int)) fun t1 =>
  k41 l0 l1 l2 l3 l4 l5 l6 l7 t1
theorem qX12_layParts_115 {G : kdS} (hG : kzG G) {k10' : Nat → Int → Int → Int → Int → Int → kzM → Option (Int × kzM)} {k10 : Nat → Int32 → Int32 → Int32 → Int32 → Int32 → kdM → Option (Int32 × kdM)} (hk10 : ∀ (a0 : Nat) (a1 : Int) (_ : kzI a1) (a2 : Int) (_ : kzI a2) (a3 : Int) (_ : kzI a3) (a4 : Int) (_ : kzI a4) (a5 : Int) (_ : kzI a5), CRi (k10' a0 a1 a2 a3 a4 a5) (k10 a0 (Int32.ofInt a1) (Int32.ofInt a2) (Int32.ofInt a3) (Int32.ofInt a4) (Int32.ofInt a5))) {k24' : Nat → Int → Int → Int → Int → Int → Int → Int → kzM → Option (Int × kzM)} {k24 : Nat → Int32 → Int32 → Int32 → Int32 → Int32 → Int32 → Int32 → kdM → Option (Int32 × kdM)} (hk24 : ∀ (a0 : Nat) (a1 : Int) (_ : kzI a1) (a2 : Int) (_ : kzI a2) (a3 : Int) (_ : kzI a3) (a4 : Int) (_ : kzI a4) (a5 : Int) (_ : kzI a5) (a6 : Int) (_ : kzI a6) (a7 : Int) (_ : kzI a7), CRi (k24' a0 a1 a2 a3 a4 a5 a6 a7) (k24 a0 (Int32.ofInt a1) (Int32.ofInt a2) (Int32.ofInt a3) (Int32.ofInt a4) (Int32.ofInt a5) (Int32.ofInt a6) (Int32.ofInt a7))) {k41' : Nat → Int → Int → Int → Int → Int → Int → Int → Int → kzM → Option (Int × kzM)} {k41 : Nat → Int32 → Int32 → Int32 → Int32 → Int32 → Int32 → Int32 → Int32 → kdM → Option (Int32 × kdM)} (hk41 : ∀ (a0 : Nat) (a1 : Int) (_ : kzI a1) (a2 : Int) (_ : kzI a2) (a3 : Int) (_ : kzI a3) (a4 : Int) (_ : kzI a4) (a5 : Int) (_ : kzI a5) (a6 : Int) (_ : kzI a6) (a7 : Int) (_ : kzI a7) (a8 : Int) (_ : kzI a8), CRi (k41' a0 a1 a2 a3 a4 a5 a6 a7 a8) (k41 a0 (Int32.ofInt a1) (Int32.ofInt a2) (Int32.ofInt a3) (Int32.ofInt a4) (Int32.ofInt a5) (Int32.ofInt a6) (Int32.ofInt a7) (Int32.ofInt a8))) (l0 : Nat) {l1 : Int} (hl1 : kzI l1) {l2 : Int} (hl2 : kzI l2) {l3 : Int} (hl3 : kzI l3) {l4 : Int} (hl4 : kzI l4) {l5 : Int} (hl5 : kzI l5) {l6 : Int} (hl6 : kzI l6) {l7 : Int} (hl7 : kzI l7) {l8 : Int} (hl8 : kzI l8) : CRi (Z12_layParts_115 G k10' k24' k41' l0 l1 l2 l3 l4 l5 l6 l7 l8) (X12_layParts_115 G k10 k24 k41 l0 (Int32.ofInt l1) (Int32.ofInt l2) (Int32.ofInt l3) (Int32.ofInt l4) (Int32.ofInt l5) (Int32.ofInt l6) (Int32.ofInt l7) (Int32.ofInt l8)) := by
  unfold Z12_layParts_115 X12_layParts_115
  exact c_lI (kz_add rfl rfl) (fun t1 ht1 => (hk41 l0 _ hl1 _ hl2 _ hl3 _ hl4 _ hl5 _ hl6 _ hl7 _ ht1))
def Z12_layParts_41B (G : kdS) (k10 : Nat → Int → Int → Int → Int → Int → kzM → Option (Int × kzM)) (k24 : Nat → Int → Int → Int → Int → Int → Int → Int → kzM → Option (Int × kzM)) (k41 : Nat → Int → Int → Int → Int → Int → Int → Int → Int → kzM → Option (Int × kzM)) (l0 : Nat) (l1 : Int) (l2 : Int) (l3 : Int) (l4 : Int) (l5 : Int) (l6 : Int) (l7 : Int) (l8 : Int) : kzM → Option (Int × kzM) :=
  zcnd ((10 : Int) < l8)
  (Z12_layParts_121 G k10 k24 l0 l1 l2 l3 l4 l5 l6 l7)
  (zgI G 12 1 l0 fun t1 =>
  zlI (l2 + l8) fun u1 =>
  zcnd (t1 < u1)
  (Z12_layParts_121 G k10 k24 l0 l1 l2 l3 l4 l5 l6 l7)
  (zgR G 12 24 l0 fun t2 =>
  zaI G t2 l7 fun t3 =>
  zcnd ((zand (zshr l1 t3) (1 : Int)) = (1 : Int))
  (zcnd (l6 = (0 : Int))
  (zcv G 12 l0 (Z12_isBestPart G l0 l2 l3 l4 l7 l8) fun t4 =>
  zcnd (t4 = (0 : Int))
  (Z12_layParts_115 G k10 k24 k41 l0 l1 l2 l3 l4 l5 l6 l7 l8)
  (zgR G 12 39 l0 fun t5 =>
  ztI G t5 l5 l7 <|
  zgR G 12 40 l0 fun t6 =>
  ztI G t6 l5 l8 <|
  Z12_layParts_115 G k10 k24 k41 l0 l1 l2 l3 l4 l5 (1 : Int) l7 l8))
  (Z12_layParts_121 G k10 k24 l0 l1 l2 l3 l4 l5 l6 l7))
  (Z12_layParts_121 G k10 k24 l0 l1 l2 l3 l4 l5 l6 l7)))
theorem qX12_layParts_41B {G : kdS} (hG : kzG G) {k10' : Nat → Int → Int → Int → Int → Int → kzM → Option (Int × kzM)} {k10 : Nat → Int32 → Int32 → Int32 → Int32 → Int32 → kdM → Option (Int32 × kdM)} (hk10 : ∀ (a0 : Nat) (a1 : Int) (_ : kzI a1) (a2 : Int) (_ : kzI a2) (a3 : Int) (_ : kzI a3) (a4 : Int) (_ : kzI a4) (a5 : Int) (_ : kzI a5), CRi (k10' a0 a1 a2 a3 a4 a5) (k10 a0 (Int32.ofInt a1) (Int32.ofInt a2) (Int32.ofInt a3) (Int32.ofInt a4) (Int32.ofInt a5))) {k24' : Nat → Int → Int → Int → Int → Int → Int → Int → kzM → Option (Int × kzM)} {k24 : Nat → Int32 → Int32 → Int32 → Int32 → Int32 → Int32 → Int32 → kdM → Option (Int32 × kdM)} (hk24 : ∀ (a0 : Nat) (a1 : Int) (_ : kzI a1) (a2 : Int) (_ : kzI a2) (a3 : Int) (_ : kzI a3) (a4 : Int) (_ : kzI a4) (a5 : Int) (_ : kzI a5) (a6 : Int) (_ : kzI a6) (a7 : Int) (_ : kzI a7), CRi (k24' a0 a1 a2 a3 a4 a5 a6 a7) (k24 a0 (Int32.ofInt a1) (Int32.ofInt a2) (Int32.ofInt a3) (Int32.ofInt a4) (Int32.ofInt a5) (Int32.ofInt a6) (Int32.ofInt a7))) {k41' : Nat → Int → Int → Int → Int → Int → Int → Int → Int → kzM → Option (Int × kzM)} {k41 : Nat → Int32 → Int32 → Int32 → Int32 → Int32 → Int32 → Int32 → Int32 → kdM → Option (Int32 × kdM)} (hk41 : ∀ (a0 : Nat) (a1 : Int) (_ : kzI a1) (a2 : Int) (_ : kzI a2) (a3 : Int) (_ : kzI a3) (a4 : Int) (_ : kzI a4) (a5 : Int) (_ : kzI a5) (a6 : Int) (_ : kzI a6) (a7 : Int) (_ : kzI a7) (a8 : Int) (_ : kzI a8), CRi (k41' a0 a1 a2 a3 a4 a5 a6 a7 a8) (k41 a0 (Int32.ofInt a1) (Int32.ofInt a2) (Int32.ofInt a3) (Int32.ofInt a4) (Int32.ofInt a5) (Int32.ofInt a6) (Int32.ofInt a7) (Int32.ofInt a8))) (l0 : Nat) {l1 : Int} (hl1 : kzI l1) {l2 : Int} (hl2 : kzI l2) {l3 : Int} (hl3 : kzI l3) {l4 : Int} (hl4 : kzI l4) {l5 : Int} (hl5 : kzI l5) {l6 : Int} (hl6 : kzI l6) {l7 : Int} (hl7 : kzI l7) {l8 : Int} (hl8 : kzI l8) : CRi (Z12_layParts_41B G k10' k24' k41' l0 l1 l2 l3 l4 l5 l6 l7 l8) (X12_layParts_41B G k10 k24 k41 l0 (Int32.ofInt l1) (Int32.ofInt l2) (Int32.ofInt l3) (Int32.ofInt l4) (Int32.ofInt l5) (Int32.ofInt l6) (Int32.ofInt l7) (Int32.ofInt l8)) := by
  unfold Z12_layParts_41B X12_layParts_41B
  exact c_cnd (kz_lt (by unfold kzI; omega) hl8 rfl rfl) ((qX12_layParts_121 hG hk10 hk24 l0 hl1 hl2 hl3 hl4 hl5 hl6 hl7)) (c_gI rfl (fun t1 ht1 => c_rg (kz_add rfl rfl) fun u1 r1 e1 => c_cnd (kz_lt ht1 r1 rfl e1) ((qX12_layParts_121 hG hk10 hk24 l0 hl1 hl2 hl3 hl4 hl5 hl6 hl7)) (c_gR (fun t2 => c_aI hG rfl (fun t3 ht3 => c_cnd (kz_eq (kzI_of _) (by unfold kzI; omega) (kz_and (kz_shr rfl rfl) rfl) rfl) (c_cnd (kz_eq hl6 (by unfold kzI; omega) rfl rfl) (c_cv (qX12_isBestPart hG l0 hl2 hl3 hl4 hl7 hl8) (fun t4 ht4 => c_cnd (kz_eq ht4 (by unfold kzI; omega) rfl rfl) ((qX12_layParts_115 hG hk10 hk24 hk41 l0 hl1 hl2 hl3 hl4 hl5 hl6 hl7 hl8)) (c_gR (fun t5 => c_tI hG rfl hl7 rfl (c_gR (fun t6 => c_tI hG rfl hl8 rfl ((qX12_layParts_115 hG hk10 hk24 hk41 l0 hl1 hl2 hl3 hl4 hl5 (by unfold kzI; omega) hl7 hl8)))))))) ((qX12_layParts_121 hG hk10 hk24 l0 hl1 hl2 hl3 hl4 hl5 hl6 hl7))) ((qX12_layParts_121 hG hk10 hk24 l0 hl1 hl2 hl3 hl4 hl5 hl6 hl7)))))))
def Z12_layParts_41 (G : kdS) (k10 : Nat → Int → Int → Int → Int → Int → kzM → Option (Int × kzM)) (k24 : Nat → Int → Int → Int → Int → Int → Int → Int → kzM → Option (Int × kzM)) : Nat → Int → Int → Int → Int → Int → Int → Int → Int → kzM → Option (Int × kzM) := lp (fun _ _ _ _ _ _ _ _ _ _ => none) (Z12_layParts_41B G k10 k24) NN
theorem qX12_layParts_41 {G : kdS} (hG : kzG G) {k10' : Nat → Int → Int → Int → Int → Int → kzM → Option (Int × kzM)} {k10 : Nat → Int32 → Int32 → Int32 → Int32 → Int32 → kdM → Option (Int32 × kdM)} (hk10 : ∀ (a0 : Nat) (a1 : Int) (_ : kzI a1) (a2 : Int) (_ : kzI a2) (a3 : Int) (_ : kzI a3) (a4 : Int) (_ : kzI a4) (a5 : Int) (_ : kzI a5), CRi (k10' a0 a1 a2 a3 a4 a5) (k10 a0 (Int32.ofInt a1) (Int32.ofInt a2) (Int32.ofInt a3) (Int32.ofInt a4) (Int32.ofInt a5))) {k24' : Nat → Int → Int → Int → Int → Int → Int → Int → kzM → Option (Int × kzM)} {k24 : Nat → Int32 → Int32 → Int32 → Int32 → Int32 → Int32 → Int32 → kdM → Option (Int32 × kdM)} (hk24 : ∀ (a0 : Nat) (a1 : Int) (_ : kzI a1) (a2 : Int) (_ : kzI a2) (a3 : Int) (_ : kzI a3) (a4 : Int) (_ : kzI a4) (a5 : Int) (_ : kzI a5) (a6 : Int) (_ : kzI a6) (a7 : Int) (_ : kzI a7), CRi (k24' a0 a1 a2 a3 a4 a5 a6 a7) (k24 a0 (Int32.ofInt a1) (Int32.ofInt a2) (Int32.ofInt a3) (Int32.ofInt a4) (Int32.ofInt a5) (Int32.ofInt a6) (Int32.ofInt a7))) : ∀ (a0 : Nat) (a1 : Int) (_ : kzI a1) (a2 : Int) (_ : kzI a2) (a3 : Int) (_ : kzI a3) (a4 : Int) (_ : kzI a4) (a5 : Int) (_ : kzI a5) (a6 : Int) (_ : kzI a6) (a7 : Int) (_ : kzI a7) (a8 : Int) (_ : kzI a8), CRi (Z12_layParts_41 G k10' k24' a0 a1 a2 a3 a4 a5 a6 a7 a8) (X12_layParts_41 G k10 k24 a0 (Int32.ofInt a1) (Int32.ofInt a2) (Int32.ofInt a3) (Int32.ofInt a4) (Int32.ofInt a5) (Int32.ofInt a6) (Int32.ofInt a7) (Int32.ofInt a8)) :=
  lp_rel (R := fun (f' : Nat → Int → Int → Int → Int → Int → Int → Int → Int → kzM → Option (Int × kzM)) (f : Nat → Int32 → Int32 → Int32 → Int32 → Int32 → Int32 → Int32 → Int32 → kdM → Option (Int32 × kdM)) => ∀ (a0 : Nat) (a1 : Int) (_ : kzI a1) (a2 : Int) (_ : kzI a2) (a3 : Int) (_ : kzI a3) (a4 : Int) (_ : kzI a4) (a5 : Int) (_ : kzI a5) (a6 : Int) (_ : kzI a6) (a7 : Int) (_ : kzI a7) (a8 : Int) (_ : kzI a8), CRi (f' a0 a1 a2 a3 a4 a5 a6 a7 a8) (f a0 (Int32.ofInt a1) (Int32.ofInt a2) (Int32.ofInt a3) (Int32.ofInt a4) (Int32.ofInt a5) (Int32.ofInt a6) (Int32.ofInt a7) (Int32.ofInt a8))) (by intros; exact c_no) (fun _ _ hf a0 a1 ha1 a2 ha2 a3 ha3 a4 ha4 a5 ha5 a6 ha6 a7 ha7 a8 ha8 => qX12_layParts_41B hG hk10 hk24 hf a0 ha1 ha2 ha3 ha4 ha5 ha6 ha7 ha8) NN
def Z12_layParts_24B (G : kdS) (k10 : Nat → Int → Int → Int → Int → Int → kzM → Option (Int × kzM)) (k24 : Nat → Int → Int → Int → Int → Int → Int → Int → kzM → Option (Int × kzM)) (l0 : Nat) (l1 : Int) (l2 : Int) (l3 : Int) (l4 : Int) (l5 : Int) (l6 : Int) (l7 : Int) : kzM → Option (Int × kzM) :=
  zgI G 12 29 l0 fun t1 =>
  zcnd (t1 ≤ l7)
  (Z12_layParts_127 G k10 l0 l1 l2 l3 l5)
  (zcnd (l6 = (0 : Int))
  (Z12_layParts_41 G k10 k24 l0 l1 l2 l3 l4 l5 l6 l7 (1 : Int))
  (Z12_layParts_127 G k10 l0 l1 l2 l3 l5))
theorem qX12_layParts_24B {G : kdS} (hG : kzG G) {k10' : Nat → Int → Int → Int → Int → Int → kzM → Option (Int × kzM)} {k10 : Nat → Int32 → Int32 → Int32 → Int32 → Int32 → kdM → Option (Int32 × kdM)} (hk10 : ∀ (a0 : Nat) (a1 : Int) (_ : kzI a1) (a2 : Int) (_ : kzI a2) (a3 : Int) (_ : kzI a3) (a4 : Int) (_ : kzI a4) (a5 : Int) (_ : kzI a5), CRi (k10' a0 a1 a2 a3 a4 a5) (k10 a0 (Int32.ofInt a1) (Int32.ofInt a2) (Int32.ofInt a3) (Int32.ofInt a4) (Int32.ofInt a5))) {k24' : Nat → Int → Int → Int → Int → Int → Int → Int → kzM → Option (Int × kzM)} {k24 : Nat → Int32 → Int32 → Int32 → Int32 → Int32 → Int32 → Int32 → kdM → Option (Int32 × kdM)} (hk24 : ∀ (a0 : Nat) (a1 : Int) (_ : kzI a1) (a2 : Int) (_ : kzI a2) (a3 : Int) (_ : kzI a3) (a4 : Int) (_ : kzI a4) (a5 : Int) (_ : kzI a5) (a6 : Int) (_ : kzI a6) (a7 : Int) (_ : kzI a7), CRi (k24' a0 a1 a2 a3 a4 a5 a6 a7) (k24 a0 (Int32.ofInt a1) (Int32.ofInt a2) (Int32.ofInt a3) (Int32.ofInt a4) (Int32.ofInt a5) (Int32.ofInt a6) (Int32.ofInt a7))) (l0 : Nat) {l1 : Int} (hl1 : kzI l1) {l2 : Int} (hl2 : kzI l2) {l3 : Int} (hl3 : kzI l3) {l4 : Int} (hl4 : kzI l4) {l5 : Int} (hl5 : kzI l5) {l6 : Int} (hl6 : kzI l6) {l7 : Int} (hl7 : kzI l7) : CRi (Z12_layParts_24B G k10' k24' l0 l1 l2 l3 l4 l5 l6 l7) (X12_layParts_24B G k10 k24 l0 (Int32.ofInt l1) (Int32.ofInt l2) (Int32.ofInt l3) (Int32.ofInt l4) (Int32.ofInt l5) (Int32.ofInt l6) (Int32.ofInt l7)) := by
  unfold Z12_layParts_24B X12_layParts_24B
  exact c_gI rfl (fun t1 ht1 => c_cnd (kz_le ht1 hl7 rfl rfl) ((qX12_layParts_127 hG hk10 l0 hl1 hl2 hl3 hl5)) (c_cnd (kz_eq hl6 (by unfold kzI; omega) rfl rfl) ((qX12_layParts_41 hG hk10 hk24 l0 _ hl1 _ hl2 _ hl3 _ hl4 _ hl5 _ hl6 _ hl7 _ (by unfold kzI; omega))) ((qX12_layParts_127 hG hk10 l0 hl1 hl2 hl3 hl5))))
def Z12_layParts_24 (G : kdS) (k10 : Nat → Int → Int → Int → Int → Int → kzM → Option (Int × kzM)) : Nat → Int → Int → Int → Int → Int → Int → Int → kzM → Option (Int × kzM) := lp (fun _ _ _ _ _ _ _ _ _ => none) (Z12_layParts_24B G k10) NN
theorem qX12_layParts_24 {G : kdS} (hG : kzG G) {k10' : Nat → Int → Int → Int → Int → Int → kzM → Option (Int × kzM)} {k10 : Nat → Int32 → Int32 → Int32 → Int32 → Int32 → kdM → Option (Int32 × kdM)} (hk10 : ∀ (a0 : Nat) (a1 : Int) (_ : kzI a1) (a2 : Int) (_ : kzI a2) (a3 : Int) (_ : kzI a3) (a4 : Int) (_ : kzI a4) (a5 : Int) (_ : kzI a5), CRi (k10' a0 a1 a2 a3 a4 a5) (k10 a0 (Int32.ofInt a1) (Int32.ofInt a2) (Int32.ofInt a3) (Int32.ofInt a4) (Int32.ofInt a5))) : ∀ (a0 : Nat) (a1 : Int) (_ : kzI a1) (a2 : Int) (_ : kzI a2) (a3 : Int) (_ : kzI a3) (a4 : Int) (_ : kzI a4) (a5 : Int) (_ : kzI a5) (a6 : Int) (_ : kzI a6) (a7 : Int) (_ : kzI a7), CRi (Z12_layParts_24 G k10' a0 a1 a2 a3 a4 a5 a6 a7) (X12_layParts_24 G k10 a0 (Int32.ofInt a1) (Int32.ofInt a2) (Int32.ofInt a3) (Int32.ofInt a4) (Int32.ofInt a5) (Int32.ofInt a6) (Int32.ofInt a7)) :=
  lp_rel (R := fun (f' : Nat → Int → Int → Int → Int → Int → Int → Int → kzM → Option (Int × kzM)) (f : Nat → Int32 → Int32 → Int32 → Int32 → Int32 → Int32 → Int32 → kdM → Option (Int32 × kdM)) => ∀ (a0 : Nat) (a1 : Int) (_ : kzI a1) (a2 : Int) (_ : kzI a2) (a3 : Int) (_ : kzI a3) (a4 : Int) (_ : kzI a4) (a5 : Int) (_ : kzI a5) (a6 : Int) (_ : kzI a6) (a7 : Int) (_ : kzI a7), CRi (f' a0 a1 a2 a3 a4 a5 a6 a7) (f a0 (Int32.ofInt a1) (Int32.ofInt a2) (Int32.ofInt a3) (Int32.ofInt a4) (Int32.ofInt a5) (Int32.ofInt a6) (Int32.ofInt a7))) (by intros; exact c_no) (fun _ _ hf a0 a1 ha1 a2 ha2 a3 ha3 a4 ha4 a5 ha5 a6 ha6 a7 ha7 => qX12_layParts_24B hG hk10 hf a0 ha1 ha2 ha3 ha4 ha5 ha6 ha7) NN
def Z12_layParts_10B (G : kdS) (k10 : Nat → Int → Int → Int → Int → Int → kzM → Option (Int × kzM)) (l0 : Nat) (l1 : Int) (l2 : Int) (l3 : Int) (l4 : Int) (l5 : Int) : kzM → Option (Int × kzM) :=
  zgI G 12 1 l0 fun t1 =>
  zcnd (t1 ≤ l2)
  (zrt l5)
  (Z12_layParts_24 G k10 l0 l1 l2 l3 l4 l5 (0 : Int) (0 : Int))
theorem qX12_layParts_10B {G : kdS} (hG : kzG G) {k10' : Nat → Int → Int → Int → Int → Int → kzM → Option (Int × kzM)} {k10 : Nat → Int32 → Int32 → Int32 → Int32 → Int32 → kdM → Option (Int32 × kdM)} (hk10 : ∀ (a0 : Nat) (a1 : Int) (_ : kzI a1) (a2 : Int) (_ : kzI a2) (a3 : Int) (_ : kzI a3) (a4 : Int) (_ : kzI a4) (a5 : Int) (_ : kzI a5), CRi (k10' a0 a1 a2 a3 a4 a5) (k10 a0 (Int32.ofInt a1) (Int32.ofInt a2) (Int32.ofInt a3) (Int32.ofInt a4) (Int32.ofInt a5))) (l0 : Nat) {l1 : Int} (hl1 : kzI l1) {l2 : Int} (hl2 : kzI l2) {l3 : Int} (hl3 : kzI l3) {l4 : Int} (hl4 : kzI l4) {l5 : Int} (hl5 : kzI l5) : CRi (Z12_layParts_10B G k10' l0 l1 l2 l3 l4 l5) (X12_layParts_10B G k10 l0 (Int32.ofInt l1) (Int32.ofInt l2) (Int32.ofInt l3) (Int32.ofInt l4) (Int32.ofInt l5)) := by
  unfold Z12_layParts_10B X12_layParts_10B
  exact c_gI rfl (fun t1 ht1 => c_cnd (kz_le ht1 hl2 rfl rfl) (c_rt hl5 rfl) ((qX12_layParts_24 hG hk10 l0 _ hl1 _ hl2 _ hl3 _ hl4 _ hl5 _ (by unfold kzI; omega) _ (by unfold kzI; omega))))
def Z12_layParts_10 (G : kdS) : Nat → Int → Int → Int → Int → Int → kzM → Option (Int × kzM) := lp (fun _ _ _ _ _ _ _ => none) (Z12_layParts_10B G) NN
theorem qX12_layParts_10 {G : kdS} (hG : kzG G) : ∀ (a0 : Nat) (a1 : Int) (_ : kzI a1) (a2 : Int) (_ : kzI a2) (a3 : Int) (_ : kzI a3) (a4 : Int) (_ : kzI a4) (a5 : Int) (_ : kzI a5), CRi (Z12_layParts_10 G a0 a1 a2 a3 a4 a5) (X12_layParts_10 G a0 (Int32.ofInt a1) (Int32.ofInt a2) (Int32.ofInt a3) (Int32.ofInt a4) (Int32.ofInt a5)) :=
  lp_rel (R := fun (f' : Nat → Int → Int → Int → Int → Int → kzM → Option (Int × kzM)) (f : Nat → Int32 → Int32 → Int32 → Int32 → Int32 → kdM → Option (Int32 × kdM)) => ∀ (a0 : Nat) (a1 : Int) (_ : kzI a1) (a2 : Int) (_ : kzI a2) (a3 : Int) (_ : kzI a3) (a4 : Int) (_ : kzI a4) (a5 : Int) (_ : kzI a5), CRi (f' a0 a1 a2 a3 a4 a5) (f a0 (Int32.ofInt a1) (Int32.ofInt a2) (Int32.ofInt a3) (Int32.ofInt a4) (Int32.ofInt a5))) (by intros; exact c_no) (fun _ _ hf a0 a1 ha1 a2 ha2 a3 ha3 a4 ha4 a5 ha5 => qX12_layParts_10B hG hf a0 ha1 ha2 ha3 ha4 ha5) NN
def Z12_layParts (G : kdS) (l0 : Nat) (l1 : Int) : kzM → Option (Int × kzM) :=
  Z12_layParts_10 G l0 l1 (0 : Int) (4 : Int) (3 : Int) (0 : Int)
theorem qX12_layParts {G : kdS} (hG : kzG G) (l0 : Nat) {l1 : Int} (hl1 : kzI l1) : CRi (Z12_layParts G l0 l1) (X12_layParts G l0 (Int32.ofInt l1)) := by
  unfold Z12_layParts X12_layParts
  exact (qX12_layParts_10 hG l0 _ hl1 _ (by unfold kzI; omega) _ (by unfold kzI; omega) _ (by unfold kzI; omega) _ (by unfold kzI; omega))
def Z12_whyNoParts_48 (G : kdS) (s0 : Int) : kzM → Option (Int × kzM) :=
  zrt s0
theorem qX12_whyNoParts_48 {G : kdS} (hG : kzG G) {s0 : Int} (hs0 : kzI s0) : CRi (Z12_whyNoParts_48 G s0) (X12_whyNoParts_48 G (Int32.ofInt s0)) := by
  unfold Z12_whyNoParts_48 X12_whyNoParts_48
  exact c_rt hs0 rfl
def Z12_whyNoParts (G : kdS) (l0 : Nat) (l1 : Int) : kzM → Option (Int × kzM) :=
  zcl (Z12_areTongues G l1) fun t1 =>
  zcnd (t1 = (0 : Int))
  (zrt (-2 : Int))
  (zgI G 12 1 l0 fun t2 =>
  zcnd (t2 = (0 : Int))
  (zrt (-3 : Int))
  (zcv G 12 l0 (Z12_findParts G l0 l1) fun _ =>
  zgR G 12 36 l0 fun t3 =>
  zcl (Z12_placeOf G (0 : Int) (4 : Int) (3 : Int)) fun t4 =>
  zaI G t3 t4 fun t5 =>
  zcnd (t5 = (1000000000 : Int))
  (Z12_whyNoParts_48 G (-5 : Int))
  (Z12_whyNoParts_48 G (0 : Int))))
theorem qX12_whyNoParts {G : kdS} (hG : kzG G) (l0 : Nat) {l1 : Int} (hl1 : kzI l1) : CRi (Z12_whyNoParts G l0 l1) (X12_whyNoParts G l0 (Int32.ofInt l1)) := by
  unfold Z12_whyNoParts X12_whyNoParts
  exact c_cl (qX12_areTongues hG hl1) (fun t1 ht1 => c_cnd (kz_eq ht1 (by unfold kzI; omega) rfl rfl) (c_rt (by unfold kzI; omega) rfl) (c_gI rfl (fun t2 ht2 => c_cnd (kz_eq ht2 (by unfold kzI; omega) rfl rfl) (c_rt (by unfold kzI; omega) rfl) (c_cv (qX12_findParts hG l0 hl1) (fun _ _ => c_gR (fun t3 => c_cl (qX12_placeOf hG (by unfold kzI; omega) (by unfold kzI; omega) (by unfold kzI; omega)) (fun t4 ht4 => c_aI hG rfl (fun t5 ht5 => c_cnd (kz_eq ht5 (by unfold kzI; omega) rfl rfl) ((qX12_whyNoParts_48 hG (by unfold kzI; omega))) ((qX12_whyNoParts_48 hG (by unfold kzI; omega)))))))))))
def Z12_part_72 (G : kdS) (s0 : Int) : kzM → Option (Int × kzM) :=
  zrt s0
theorem qX12_part_72 {G : kdS} (hG : kzG G) {s0 : Int} (hs0 : kzI s0) : CRi (Z12_part_72 G s0) (X12_part_72 G (Int32.ofInt s0)) := by
  unfold Z12_part_72 X12_part_72
  exact c_rt hs0 rfl
def Z12_part (G : kdS) (l0 : Nat) (l1 : Int) (l2 : Int) : kzM → Option (Int × kzM) :=
  zcv G 12 l0 (Z12_whyNoParts G l0 l1) fun t1 =>
  zcnd ((0 : Int) ≤ t1)
  (zcnd (l2 = (-1 : Int))
  (zgR G 12 36 l0 fun t2 =>
  zcl (Z12_placeOf G (0 : Int) (4 : Int) (3 : Int)) fun t3 =>
  zaI G t2 t3 fun t4 =>
  zrt t4)
  (zcv G 12 l0 (Z12_layParts G l0 l1) fun t5 =>
  zcnd (l2 = (-2 : Int))
  (Z12_part_72 G t5)
  (zlI (t5 - (1 : Int)) fun u1 =>
  zcl (Z12_in G l2 (0 : Int) u1) fun t6 =>
  zcnd (t6 = (0 : Int))
  (Z12_part_72 G (-6 : Int))
  (zgR G 12 39 l0 fun t7 =>
  zaI G t7 l2 fun t8 =>
  Z12_part_72 G t8))))
  (zrt t1)
theorem qX12_part {G : kdS} (hG : kzG G) (l0 : Nat) {l1 : Int} (hl1 : kzI l1) {l2 : Int} (hl2 : kzI l2) : CRi (Z12_part G l0 l1 l2) (X12_part G l0 (Int32.ofInt l1) (Int32.ofInt l2)) := by
  unfold Z12_part X12_part
  exact c_cv (qX12_whyNoParts hG l0 hl1) (fun t1 ht1 => c_cnd (kz_le (by unfold kzI; omega) ht1 rfl rfl) (c_cnd (kz_eq hl2 (by unfold kzI; omega) rfl rfl) (c_gR (fun t2 => c_cl (qX12_placeOf hG (by unfold kzI; omega) (by unfold kzI; omega) (by unfold kzI; omega)) (fun t3 ht3 => c_aI hG rfl (fun t4 ht4 => c_rt ht4 rfl)))) (c_cv (qX12_layParts hG l0 hl1) (fun t5 ht5 => c_cnd (kz_eq hl2 (by unfold kzI; omega) rfl rfl) ((qX12_part_72 hG ht5)) (c_rg (kz_sub rfl rfl) fun u1 r1 e1 => c_cl ((kz_i2l r1 e1) ▸ ((kz_i2l hl2 rfl) ▸ (qX12_in hG (kzI_L hl2) (show kzL (0 : Int) by unfold kzL; omega) (kzI_L r1)))) (fun t6 ht6 => c_cnd (kz_eq ht6 (by unfold kzI; omega) rfl rfl) ((qX12_part_72 hG (by unfold kzI; omega))) (c_gR (fun t7 => c_aI hG rfl (fun t8 ht8 => (qX12_part_72 hG ht8))))))))) (c_rt ht1 rfl))
def Z12_pieceOf_44 (G : kdS) (s0 : Int) : kzM → Option (Int × kzM) :=
  zrt s0
theorem qX12_pieceOf_44 {G : kdS} (hG : kzG G) {s0 : Int} (hs0 : kzI s0) : CRi (Z12_pieceOf_44 G s0) (X12_pieceOf_44 G (Int32.ofInt s0)) := by
  unfold Z12_pieceOf_44 X12_pieceOf_44
  exact c_rt hs0 rfl
def Z12_pieceOf (G : kdS) (l0 : Nat) (l1 : Int) (l2 : Int) : kzM → Option (Int × kzM) :=
  zcv G 12 l0 (Z12_whyNoParts G l0 l1) fun t1 =>
  zcnd ((0 : Int) ≤ t1)
  (zcv G 12 l0 (Z12_layParts G l0 l1) fun t2 =>
  zlI (t2 - (1 : Int)) fun u1 =>
  zcl (Z12_in G l2 (0 : Int) u1) fun t3 =>
  zcnd (t3 = (0 : Int))
  (Z12_pieceOf_44 G (-6 : Int))
  (zgR G 12 40 l0 fun t4 =>
  zaI G t4 l2 fun t5 =>
  Z12_pieceOf_44 G t5))
  (zrt t1)
theorem qX12_pieceOf {G : kdS} (hG : kzG G) (l0 : Nat) {l1 : Int} (hl1 : kzI l1) {l2 : Int} (hl2 : kzI l2) : CRi (Z12_pieceOf G l0 l1 l2) (X12_pieceOf G l0 (Int32.ofInt l1) (Int32.ofInt l2)) := by
  unfold Z12_pieceOf X12_pieceOf
  exact c_cv (qX12_whyNoParts hG l0 hl1) (fun t1 ht1 => c_cnd (kz_le (by unfold kzI; omega) ht1 rfl rfl) (c_cv (qX12_layParts hG l0 hl1) (fun t2 ht2 => c_rg (kz_sub rfl rfl) fun u1 r1 e1 => c_cl ((kz_i2l r1 e1) ▸ ((kz_i2l hl2 rfl) ▸ (qX12_in hG (kzI_L hl2) (show kzL (0 : Int) by unfold kzL; omega) (kzI_L r1)))) (fun t3 ht3 => c_cnd (kz_eq ht3 (by unfold kzI; omega) rfl rfl) ((qX12_pieceOf_44 hG (by unfold kzI; omega))) (c_gR (fun t4 => c_aI hG rfl (fun t5 ht5 => (qX12_pieceOf_44 hG ht5))))))) (c_rt ht1 rfl))
def Z12_bothAt_32 (G : kdS) (k2 : Nat → Int → Int → Int → kzM → Option (Int × kzM)) (l0 : Nat) (l1 : Int) (l2 : Int) (l3 : Int) : kzM → Option (Int × kzM) :=
  zlI (l3 + (1 : Int)) fun t1 =>
  k2 l0 l1 l2 t1
theorem qX12_bothAt_32 {G : kdS} (hG : kzG G) {k2' : Nat → Int → Int → Int → kzM → Option (Int × kzM)} {k2 : Nat → Int32 → Int32 → Int32 → kdM → Option (Int32 × kdM)} (hk2 : ∀ (a0 : Nat) (a1 : Int) (_ : kzI a1) (a2 : Int) (_ : kzI a2) (a3 : Int) (_ : kzI a3), CRi (k2' a0 a1 a2 a3) (k2 a0 (Int32.ofInt a1) (Int32.ofInt a2) (Int32.ofInt a3))) (l0 : Nat) {l1 : Int} (hl1 : kzI l1) {l2 : Int} (hl2 : kzI l2) {l3 : Int} (hl3 : kzI l3) : CRi (Z12_bothAt_32 G k2' l0 l1 l2 l3) (X12_bothAt_32 G k2 l0 (Int32.ofInt l1) (Int32.ofInt l2) (Int32.ofInt l3)) := by
  unfold Z12_bothAt_32 X12_bothAt_32
  exact c_lI (kz_add rfl rfl) (fun t1 ht1 => (hk2 l0 _ hl1 _ hl2 _ ht1))
def Z12_bothAt_2B (G : kdS) (k2 : Nat → Int → Int → Int → kzM → Option (Int × kzM)) (l0 : Nat) (l1 : Int) (l2 : Int) (l3 : Int) : kzM → Option (Int × kzM) :=
  zgI G 12 45 l0 fun t1 =>
  zcnd (t1 ≤ l3)
  (zrt (-1 : Int))
  (zgR G 12 42 l0 fun t2 =>
  zaI G t2 l3 fun t3 =>
  zcnd (t3 = l1)
  (zgR G 12 43 l0 fun t4 =>
  zaI G t4 l3 fun t5 =>
  zcnd (t5 = l2)
  (zrt l3)
  (Z12_bothAt_32 G k2 l0 l1 l2 l3))
  (Z12_bothAt_32 G k2 l0 l1 l2 l3))
theorem qX12_bothAt_2B {G : kdS} (hG : kzG G) {k2' : Nat → Int → Int → Int → kzM → Option (Int × kzM)} {k2 : Nat → Int32 → Int32 → Int32 → kdM → Option (Int32 × kdM)} (hk2 : ∀ (a0 : Nat) (a1 : Int) (_ : kzI a1) (a2 : Int) (_ : kzI a2) (a3 : Int) (_ : kzI a3), CRi (k2' a0 a1 a2 a3) (k2 a0 (Int32.ofInt a1) (Int32.ofInt a2) (Int32.ofInt a3))) (l0 : Nat) {l1 : Int} (hl1 : kzI l1) {l2 : Int} (hl2 : kzI l2) {l3 : Int} (hl3 : kzI l3) : CRi (Z12_bothAt_2B G k2' l0 l1 l2 l3) (X12_bothAt_2B G k2 l0 (Int32.ofInt l1) (Int32.ofInt l2) (Int32.ofInt l3)) := by
  unfold Z12_bothAt_2B X12_bothAt_2B
  exact c_gI rfl (fun t1 ht1 => c_cnd (kz_le ht1 hl3 rfl rfl) (c_rt (by unfold kzI; omega) rfl) (c_gR (fun t2 => c_aI hG rfl (fun t3 ht3 => c_cnd (kz_eq ht3 hl1 rfl rfl) (c_gR (fun t4 => c_aI hG rfl (fun t5 ht5 => c_cnd (kz_eq ht5 hl2 rfl rfl) (c_rt hl3 rfl) ((qX12_bothAt_32 hG hk2 l0 hl1 hl2 hl3))))) ((qX12_bothAt_32 hG hk2 l0 hl1 hl2 hl3))))))
def Z12_bothAt_2 (G : kdS) : Nat → Int → Int → Int → kzM → Option (Int × kzM) := lp (fun _ _ _ _ _ => none) (Z12_bothAt_2B G) NN
theorem qX12_bothAt_2 {G : kdS} (hG : kzG G) : ∀ (a0 : Nat) (a1 : Int) (_ : kzI a1) (a2 : Int) (_ : kzI a2) (a3 : Int) (_ : kzI a3), CRi (Z12_bothAt_2 G a0 a1 a2 a3) (X12_bothAt_2 G a0 (Int32.ofInt a1) (Int32.ofInt a2) (Int32.ofInt a3)) :=
  lp_rel (R := fun (f' : Nat → Int → Int → Int → kzM → Option (Int × kzM)) (f : Nat → Int32 → Int32 → Int32 → kdM → Option (Int32 × kdM)) => ∀ (a0 : Nat) (a1 : Int) (_ : kzI a1) (a2 : Int) (_ : kzI a2) (a3 : Int) (_ : kzI a3), CRi (f' a0 a1 a2 a3) (f a0 (Int32.ofInt a1) (Int32.ofInt a2) (Int32.ofInt a3))) (by intros; exact c_no) (fun _ _ hf a0 a1 ha1 a2 ha2 a3 ha3 => qX12_bothAt_2B hG hf a0 ha1 ha2 ha3) NN
def Z12_bothAt (G : kdS) (l0 : Nat) (l1 : Int) (l2 : Int) : kzM → Option (Int × kzM) :=
  Z12_bothAt_2 G l0 l1 l2 (0 : Int)
theorem qX12_bothAt {G : kdS} (hG : kzG G) (l0 : Nat) {l1 : Int} (hl1 : kzI l1) {l2 : Int} (hl2 : kzI l2) : CRi (Z12_bothAt G l0 l1 l2) (X12_bothAt G l0 (Int32.ofInt l1) (Int32.ofInt l2)) := by
  unfold Z12_bothAt X12_bothAt
  exact (qX12_bothAt_2 hG l0 _ hl1 _ hl2 _ (by unfold kzI; omega))
def Z12_bothOf_21 (G : kdS) (s0 : Int) : kzM → Option (Int × kzM) :=
  zrt s0
theorem qX12_bothOf_21 {G : kdS} (hG : kzG G) {s0 : Int} (hs0 : kzI s0) : CRi (Z12_bothOf_21 G s0) (X12_bothOf_21 G (Int32.ofInt s0)) := by
  unfold Z12_bothOf_21 X12_bothOf_21
  exact c_rt hs0 rfl
def Z12_bothOf (G : kdS) (l0 : Nat) (l1 : Int) (l2 : Int) : kzM → Option (Int × kzM) :=
  zcv G 12 l0 (Z12_bothAt G l0 l1 l2) fun t1 =>
  zcnd ((0 : Int) ≤ t1)
  (zgR G 12 44 l0 fun t2 =>
  zaI G t2 t1 fun t3 =>
  Z12_bothOf_21 G t3)
  (Z12_bothOf_21 G (0 : Int))
theorem qX12_bothOf {G : kdS} (hG : kzG G) (l0 : Nat) {l1 : Int} (hl1 : kzI l1) {l2 : Int} (hl2 : kzI l2) : CRi (Z12_bothOf G l0 l1 l2) (X12_bothOf G l0 (Int32.ofInt l1) (Int32.ofInt l2)) := by
  unfold Z12_bothOf X12_bothOf
  exact c_cv (qX12_bothAt hG l0 hl1 hl2) (fun t1 ht1 => c_cnd (kz_le (by unfold kzI; omega) ht1 rfl rfl) (c_gR (fun t2 => c_aI hG rfl (fun t3 ht3 => (qX12_bothOf_21 hG ht3)))) ((qX12_bothOf_21 hG (by unfold kzI; omega))))
def Z12_both_16 (G : kdS) : kzM → Option (Int × kzM) :=
  zrt (-1 : Int)
theorem qX12_both_16 {G : kdS} (hG : kzG G) : CRi (Z12_both_16 G) (X12_both_16 G) := by
  unfold Z12_both_16 X12_both_16
  exact c_rt (by unfold kzI; omega) rfl
def Z12_both_186 (G : kdS) (l5 : Int) : kzM → Option (Int × kzM) :=
  zrt l5
theorem qX12_both_186 {G : kdS} (hG : kzG G) {l5 : Int} (hl5 : kzI l5) : CRi (Z12_both_186 G l5) (X12_both_186 G (Int32.ofInt l5)) := by
  unfold Z12_both_186 X12_both_186
  exact c_rt hl5 rfl
def Z12_both_111 (G : kdS) (l0 : Nat) (l3 : Int) (l4 : Int) (l5 : Int) : kzM → Option (Int × kzM) :=
  zcnd (l4 < (0 : Int))
  (Z12_both_186 G l5)
  (zgR G 12 44 l0 fun t1 =>
  ztI G t1 l4 l3 <|
  zcnd (l3 = (0 : Int))
  (zgI G 12 45 l0 fun t2 =>
  zlI (t2 - (1 : Int)) fun u1 =>
  zsI G 12 45 l0 u1 <|
  zgR G 12 42 l0 fun t3 =>
  zgR G 12 42 l0 fun t4 =>
  zgI G 12 45 l0 fun t5 =>
  zaI G t4 t5 fun t6 =>
  ztI G t3 l4 t6 <|
  zgR G 12 43 l0 fun t7 =>
  zgR G 12 43 l0 fun t8 =>
  zgI G 12 45 l0 fun t9 =>
  zaI G t8 t9 fun t10 =>
  ztI G t7 l4 t10 <|
  zgR G 12 44 l0 fun t11 =>
  zgR G 12 44 l0 fun t12 =>
  zgI G 12 45 l0 fun t13 =>
  zaI G t12 t13 fun t14 =>
  ztI G t11 l4 t14 <|
  Z12_both_186 G l5)
  (Z12_both_186 G l5))
theorem qX12_both_111 {G : kdS} (hG : kzG G) (l0 : Nat) {l3 : Int} (hl3 : kzI l3) {l4 : Int} (hl4 : kzI l4) {l5 : Int} (hl5 : kzI l5) : CRi (Z12_both_111 G l0 l3 l4 l5) (X12_both_111 G l0 (Int32.ofInt l3) (Int32.ofInt l4) (Int32.ofInt l5)) := by
  unfold Z12_both_111 X12_both_111
  exact c_cnd (kz_lt hl4 (by unfold kzI; omega) rfl rfl) ((qX12_both_186 hG hl5)) (c_gR (fun t1 => c_tI hG rfl hl3 rfl (c_cnd (kz_eq hl3 (by unfold kzI; omega) rfl rfl) (c_gI rfl (fun t2 ht2 => c_rg (kz_sub rfl rfl) fun u1 r1 e1 => c_sI rfl r1 e1 (c_gR (fun t3 => c_gR (fun t4 => c_gI rfl (fun t5 ht5 => c_aI hG rfl (fun t6 ht6 => c_tI hG rfl ht6 rfl (c_gR (fun t7 => c_gR (fun t8 => c_gI rfl (fun t9 ht9 => c_aI hG rfl (fun t10 ht10 => c_tI hG rfl ht10 rfl (c_gR (fun t11 => c_gR (fun t12 => c_gI rfl (fun t13 ht13 => c_aI hG rfl (fun t14 ht14 => c_tI hG rfl ht14 rfl ((qX12_both_186 hG hl5))))))))))))))))))) ((qX12_both_186 hG hl5)))))
def Z12_both_62 (G : kdS) (l0 : Nat) (l1 : Int) (l2 : Int) (l3 : Int) (l4 : Int) : kzM → Option (Int × kzM) :=
  zcv G 12 l0 (Z12_bothOf G l0 l1 l2) fun t1 =>
  zcnd ((0 : Int) ≤ l4)
  (Z12_both_111 G l0 l3 l4 t1)
  (zcnd (l3 ≤ (0 : Int))
  (Z12_both_111 G l0 l3 l4 t1)
  (zgI G 12 45 l0 fun t2 =>
  zgR G 12 42 l0 fun t3 =>
  ztI G t3 t2 l1 <|
  zgR G 12 43 l0 fun t4 =>
  ztI G t4 t2 l2 <|
  zgI G 12 45 l0 fun t5 =>
  zlI (t5 + (1 : Int)) fun u1 =>
  zsI G 12 45 l0 u1 <|
  Z12_both_111 G l0 l3 t2 t1))
theorem qX12_both_62 {G : kdS} (hG : kzG G) (l0 : Nat) {l1 : Int} (hl1 : kzI l1) {l2 : Int} (hl2 : kzI l2) {l3 : Int} (hl3 : kzI l3) {l4 : Int} (hl4 : kzI l4) : CRi (Z12_both_62 G l0 l1 l2 l3 l4) (X12_both_62 G l0 (Int32.ofInt l1) (Int32.ofInt l2) (Int32.ofInt l3) (Int32.ofInt l4)) := by
  unfold Z12_both_62 X12_both_62
  exact c_cv (qX12_bothOf hG l0 hl1 hl2) (fun t1 ht1 => c_cnd (kz_le (by unfold kzI; omega) hl4 rfl rfl) ((qX12_both_111 hG l0 hl3 hl4 ht1)) (c_cnd (kz_le hl3 (by unfold kzI; omega) rfl rfl) ((qX12_both_111 hG l0 hl3 hl4 ht1)) (c_gI rfl (fun t2 ht2 => c_gR (fun t3 => c_tI hG rfl hl1 rfl (c_gR (fun t4 => c_tI hG rfl hl2 rfl (c_gI rfl (fun t5 ht5 => c_rg (kz_add rfl rfl) fun u1 r1 e1 => c_sI rfl r1 e1 ((qX12_both_111 hG l0 hl3 ht2 ht1)))))))))))
def Z12_both (G : kdS) (l0 : Nat) (l1 : Int) (l2 : Int) (l3 : Int) : kzM → Option (Int × kzM) :=
  zcv G 12 l0 (Z12_isWord G l0 l1) fun t1 =>
  zcnd (t1 = (0 : Int))
  (Z12_both_16 G)
  (zcv G 12 l0 (Z12_isWord G l0 l2) fun t2 =>
  zcnd (t2 = (0 : Int))
  (Z12_both_16 G)
  (zcl (Z12_in G l3 (0 : Int) (100 : Int)) fun t3 =>
  zcnd (t3 = (0 : Int))
  (zrt (-2 : Int))
  (zcv G 12 l0 (Z12_bothAt G l0 l1 l2) fun t4 =>
  zcnd ((0 : Int) ≤ t4)
  (Z12_both_62 G l0 l1 l2 l3 t4)
  (zcnd (l3 ≤ (0 : Int))
  (Z12_both_62 G l0 l1 l2 l3 t4)
  (zgI G 12 45 l0 fun t5 =>
  zcnd (t5 = (40 : Int))
  (zrt (-4 : Int))
  (Z12_both_62 G l0 l1 l2 l3 t4))))))
theorem qX12_both {G : kdS} (hG : kzG G) (l0 : Nat) {l1 : Int} (hl1 : kzI l1) {l2 : Int} (hl2 : kzI l2) {l3 : Int} (hl3 : kzI l3) : CRi (Z12_both G l0 l1 l2 l3) (X12_both G l0 (Int32.ofInt l1) (Int32.ofInt l2) (Int32.ofInt l3)) := by
  unfold Z12_both X12_both
  exact c_cv (qX12_isWord hG l0 hl1) (fun t1 ht1 => c_cnd (kz_eq ht1 (by unfold kzI; omega) rfl rfl) ((qX12_both_16 hG)) (c_cv (qX12_isWord hG l0 hl2) (fun t2 ht2 => c_cnd (kz_eq ht2 (by unfold kzI; omega) rfl rfl) ((qX12_both_16 hG)) (c_cl ((kz_i2l hl3 rfl) ▸ (qX12_in hG (kzI_L hl3) (show kzL (0 : Int) by unfold kzL; omega) (show kzL (100 : Int) by unfold kzL; omega))) (fun t3 ht3 => c_cnd (kz_eq ht3 (by unfold kzI; omega) rfl rfl) (c_rt (by unfold kzI; omega) rfl) (c_cv (qX12_bothAt hG l0 hl1 hl2) (fun t4 ht4 => c_cnd (kz_le (by unfold kzI; omega) ht4 rfl rfl) ((qX12_both_62 hG l0 hl1 hl2 hl3 ht4)) (c_cnd (kz_le hl3 (by unfold kzI; omega) rfl rfl) ((qX12_both_62 hG l0 hl1 hl2 hl3 ht4)) (c_gI rfl (fun t5 ht5 => c_cnd (kz_eq ht5 (by unfold kzI; omega) rfl rfl) (c_rt (by unfold kzI; omega) rfl) ((qX12_both_62 hG l0 hl1 hl2 hl3 ht4))))))))))))
def Z12_say (G : kdS) (l0 : Nat) (l1 : Int) (l2 : Int) : kzM → Option (Int × kzM) :=
  zcv G 12 l0 (Z12_isWord G l0 l1) fun t1 =>
  zcnd (t1 = (0 : Int))
  (zrt (-1 : Int))
  (zgI G 12 6 l0 fun t2 =>
  zcnd (t2 = (5 : Int))
  (zrt (-4 : Int))
  (zgR G 12 4 l0 fun t3 =>
  zgI G 12 6 l0 fun t4 =>
  ztI G t3 t4 l1 <|
  zgR G 12 5 l0 fun t5 =>
  zgI G 12 6 l0 fun t6 =>
  ztZ G t5 t6 l2 <|
  zgI G 12 6 l0 fun t7 =>
  zlI (t7 + (1 : Int)) fun u1 =>
  zsI G 12 6 l0 u1 <|
  zgI G 12 6 l0 fun t8 =>
  zrt t8))
theorem qX12_say {G : kdS} (hG : kzG G) (l0 : Nat) {l1 : Int} (hl1 : kzI l1) {l2 : Int} (hl2 : kzI l2) : CRi (Z12_say G l0 l1 l2) (X12_say G l0 (Int32.ofInt l1) (Int32.ofInt l2)) := by
  unfold Z12_say X12_say
  exact c_cv (qX12_isWord hG l0 hl1) (fun t1 ht1 => c_cnd (kz_eq ht1 (by unfold kzI; omega) rfl rfl) (c_rt (by unfold kzI; omega) rfl) (c_gI rfl (fun t2 ht2 => c_cnd (kz_eq ht2 (by unfold kzI; omega) rfl rfl) (c_rt (by unfold kzI; omega) rfl) (c_gR (fun t3 => c_gI rfl (fun t4 ht4 => c_tI hG rfl hl1 rfl (c_gR (fun t5 => c_gI rfl (fun t6 ht6 => c_tZ hG rfl rfl (c_gI rfl (fun t7 ht7 => c_rg (kz_add rfl rfl) fun u1 r1 e1 => c_sI rfl r1 e1 (c_gI rfl (fun t8 ht8 => c_rt ht8 rfl)))))))))))))
def Z12_soundsAs_26 (G : kdS) (s0 : Int) : kzM → Option (Int × kzM) :=
  zrt (zB s0)
theorem qX12_soundsAs_26 {G : kdS} (hG : kzG G) {s0 : Int} (hs0 : kzI s0) : CRi (Z12_soundsAs_26 G s0) (X12_soundsAs_26 G (Int32.ofInt s0)) := by
  unfold Z12_soundsAs_26 X12_soundsAs_26
  exact c_rt (kz_BI _) (kz_B rfl)
def Z12_soundsAs_123 (G : kdS) (l4 : Int) : kzM → Option (Int × kzM) :=
  zrt (zB l4)
theorem qX12_soundsAs_123 {G : kdS} (hG : kzG G) {l4 : Int} (hl4 : kzI l4) : CRi (Z12_soundsAs_123 G l4) (X12_soundsAs_123 G (Int32.ofInt l4)) := by
  unfold Z12_soundsAs_123 X12_soundsAs_123
  exact c_rt (kz_BI _) (kz_B rfl)
def Z12_soundsAs_115 (G : kdS) (k67 : Nat → Int → Int → Int → Int → kzM → Option (Int × kzM)) (l0 : Nat) (l1 : Int) (l3 : Int) (l5 : Int) (s0 : Int) : kzM → Option (Int × kzM) :=
  zlI (l5 + (1 : Int)) fun t1 =>
  k67 l0 l1 l3 s0 t1
theorem qX12_soundsAs_115 {G : kdS} (hG : kzG G) {k67' : Nat → Int → Int → Int → Int → kzM → Option (Int × kzM)} {k67 : Nat → Int32 → Int32 → Int32 → Int32 → kdM → Option (Int32 × kdM)} (hk67 : ∀ (a0 : Nat) (a1 : Int) (_ : kzI a1) (a2 : Int) (_ : kzI a2) (a3 : Int) (_ : kzI a3) (a4 : Int) (_ : kzI a4), CRi (k67' a0 a1 a2 a3 a4) (k67 a0 (Int32.ofInt a1) (Int32.ofInt a2) (Int32.ofInt a3) (Int32.ofInt a4))) (l0 : Nat) {l1 : Int} (hl1 : kzI l1) {l3 : Int} (hl3 : kzI l3) {l5 : Int} (hl5 : kzI l5) {s0 : Int} (hs0 : kzI s0) : CRi (Z12_soundsAs_115 G k67' l0 l1 l3 l5 s0) (X12_soundsAs_115 G k67 l0 (Int32.ofInt l1) (Int32.ofInt l3) (Int32.ofInt l5) (Int32.ofInt s0)) := by
  unfold Z12_soundsAs_115 X12_soundsAs_115
  exact c_lI (kz_add rfl rfl) (fun t1 ht1 => (hk67 l0 _ hl1 _ hl3 _ hs0 _ ht1))
def Z12_soundsAs_67B (G : kdS) (k67 : Nat → Int → Int → Int → Int → kzM → Option (Int × kzM)) (l0 : Nat) (l1 : Int) (l3 : Int) (l4 : Int) (l5 : Int) : kzM → Option (Int × kzM) :=
  zgR G 12 27 l0 fun t1 =>
  zaI G t1 l3 fun t2 =>
  zcnd (t2 ≤ l5)
  (Z12_soundsAs_123 G l4)
  (zcnd (l4 = (0 : Int))
  (Z12_soundsAs_123 G l4)
  (zgR G 12 28 l0 fun t3 =>
  zaI G t3 (((8 : Int) * l1) + l5) fun t4 =>
  zgR G 12 28 l0 fun t5 =>
  zaI G t5 (((8 : Int) * l3) + l5) fun t6 =>
  zcnd (t4 = t6)
  (Z12_soundsAs_115 G k67 l0 l1 l3 l5 (1 : Int))
  (Z12_soundsAs_115 G k67 l0 l1 l3 l5 (0 : Int))))
theorem qX12_soundsAs_67B {G : kdS} (hG : kzG G) {k67' : Nat → Int → Int → Int → Int → kzM → Option (Int × kzM)} {k67 : Nat → Int32 → Int32 → Int32 → Int32 → kdM → Option (Int32 × kdM)} (hk67 : ∀ (a0 : Nat) (a1 : Int) (_ : kzI a1) (a2 : Int) (_ : kzI a2) (a3 : Int) (_ : kzI a3) (a4 : Int) (_ : kzI a4), CRi (k67' a0 a1 a2 a3 a4) (k67 a0 (Int32.ofInt a1) (Int32.ofInt a2) (Int32.ofInt a3) (Int32.ofInt a4))) (l0 : Nat) {l1 : Int} (hl1 : kzI l1) {l3 : Int} (hl3 : kzI l3) {l4 : Int} (hl4 : kzI l4) {l5 : Int} (hl5 : kzI l5) : CRi (Z12_soundsAs_67B G k67' l0 l1 l3 l4 l5) (X12_soundsAs_67B G k67 l0 (Int32.ofInt l1) (Int32.ofInt l3) (Int32.ofInt l4) (Int32.ofInt l5)) := by
  unfold Z12_soundsAs_67B X12_soundsAs_67B
  exact c_gR (fun t1 => c_aI hG rfl (fun t2 ht2 => c_cnd (kz_le ht2 hl5 rfl rfl) ((qX12_soundsAs_123 hG hl4)) (c_cnd (kz_eq hl4 (by unfold kzI; omega) rfl rfl) ((qX12_soundsAs_123 hG hl4)) (c_gR (fun t3 => c_aI hG (kz_add (kz_mul rfl rfl) rfl) (fun t4 ht4 => c_gR (fun t5 => c_aI hG (kz_add (kz_mul rfl rfl) rfl) (fun t6 ht6 => c_cnd (kz_eq ht4 ht6 rfl rfl) ((qX12_soundsAs_115 hG hk67 l0 hl1 hl3 hl5 (by unfold kzI; omega))) ((qX12_soundsAs_115 hG hk67 l0 hl1 hl3 hl5 (by unfold kzI; omega)))))))))))
def Z12_soundsAs_67 (G : kdS) : Nat → Int → Int → Int → Int → kzM → Option (Int × kzM) := lp (fun _ _ _ _ _ _ => none) (Z12_soundsAs_67B G) NN
theorem qX12_soundsAs_67 {G : kdS} (hG : kzG G) : ∀ (a0 : Nat) (a1 : Int) (_ : kzI a1) (a2 : Int) (_ : kzI a2) (a3 : Int) (_ : kzI a3) (a4 : Int) (_ : kzI a4), CRi (Z12_soundsAs_67 G a0 a1 a2 a3 a4) (X12_soundsAs_67 G a0 (Int32.ofInt a1) (Int32.ofInt a2) (Int32.ofInt a3) (Int32.ofInt a4)) :=
  lp_rel (R := fun (f' : Nat → Int → Int → Int → Int → kzM → Option (Int × kzM)) (f : Nat → Int32 → Int32 → Int32 → Int32 → kdM → Option (Int32 × kdM)) => ∀ (a0 : Nat) (a1 : Int) (_ : kzI a1) (a2 : Int) (_ : kzI a2) (a3 : Int) (_ : kzI a3) (a4 : Int) (_ : kzI a4), CRi (f' a0 a1 a2 a3 a4) (f a0 (Int32.ofInt a1) (Int32.ofInt a2) (Int32.ofInt a3) (Int32.ofInt a4))) (by intros; exact c_no) (fun _ _ hf a0 a1 ha1 a2 ha2 a3 ha3 a4 ha4 => qX12_soundsAs_67B hG hf a0 ha1 ha2 ha3 ha4) NN
def Z12_soundsAs_62 (G : kdS) (l0 : Nat) (l1 : Int) (l3 : Int) (s0 : Int) : kzM → Option (Int × kzM) :=
  Z12_soundsAs_67 G l0 l1 l3 s0 (0 : Int)
theorem qX12_soundsAs_62 {G : kdS} (hG : kzG G) (l0 : Nat) {l1 : Int} (hl1 : kzI l1) {l3 : Int} (hl3 : kzI l3) {s0 : Int} (hs0 : kzI s0) : CRi (Z12_soundsAs_62 G l0 l1 l3 s0) (X12_soundsAs_62 G l0 (Int32.ofInt l1) (Int32.ofInt l3) (Int32.ofInt s0)) := by
  unfold Z12_soundsAs_62 X12_soundsAs_62
  exact (qX12_soundsAs_67 hG l0 _ hl1 _ hl3 _ hs0 _ (by unfold kzI; omega))
def Z12_soundsAs_61 (G : kdS) (l0 : Nat) (l1 : Int) (l3 : Int) : kzM → Option (Int × kzM) :=
  Z12_soundsAs_62 G l0 l1 l3 (0 : Int)
theorem qX12_soundsAs_61 {G : kdS} (hG : kzG G) (l0 : Nat) {l1 : Int} (hl1 : kzI l1) {l3 : Int} (hl3 : kzI l3) : CRi (Z12_soundsAs_61 G l0 l1 l3) (X12_soundsAs_61 G l0 (Int32.ofInt l1) (Int32.ofInt l3)) := by
  unfold Z12_soundsAs_61 X12_soundsAs_61
  exact (qX12_soundsAs_62 hG l0 hl1 hl3 (by unfold kzI; omega))
def Z12_soundsAs (G : kdS) (l0 : Nat) (l1 : Int) (l2 : Int) : kzM → Option (Int × kzM) :=
  zgR G 12 4 l0 fun t1 =>
  zaI G t1 l2 fun t2 =>
  zgR G 12 5 l0 fun t3 =>
  zaZ G t3 l2 fun t4 =>
  zcnd (t4 = (0 : Int))
  (zgR G 12 24 l0 fun t5 =>
  zaI G t5 l1 fun t6 =>
  zgR G 12 24 l0 fun t7 =>
  zaI G t7 t2 fun t8 =>
  zcnd (t6 = t8)
  (zgR G 12 27 l0 fun t9 =>
  zaI G t9 l1 fun t10 =>
  zgR G 12 27 l0 fun t11 =>
  zaI G t11 t2 fun t12 =>
  zcnd (t10 = t12)
  (Z12_soundsAs_62 G l0 l1 t2 (1 : Int))
  (Z12_soundsAs_61 G l0 l1 t2))
  (Z12_soundsAs_61 G l0 l1 t2))
  (zcnd (l1 = t2)
  (Z12_soundsAs_26 G (1 : Int))
  (Z12_soundsAs_26 G (0 : Int)))
theorem qX12_soundsAs {G : kdS} (hG : kzG G) (l0 : Nat) {l1 : Int} (hl1 : kzI l1) {l2 : Int} (hl2 : kzI l2) : CRi (Z12_soundsAs G l0 l1 l2) (X12_soundsAs G l0 (Int32.ofInt l1) (Int32.ofInt l2)) := by
  unfold Z12_soundsAs X12_soundsAs
  exact c_gR (fun t1 => c_aI hG rfl (fun t2 ht2 => c_gR (fun t3 => c_aZ hG rfl (fun t4 ht4 => c_cnd (kz_eq ht4 (by unfold kzI; omega) rfl rfl) (c_gR (fun t5 => c_aI hG rfl (fun t6 ht6 => c_gR (fun t7 => c_aI hG rfl (fun t8 ht8 => c_cnd (kz_eq ht6 ht8 rfl rfl) (c_gR (fun t9 => c_aI hG rfl (fun t10 ht10 => c_gR (fun t11 => c_aI hG rfl (fun t12 ht12 => c_cnd (kz_eq ht10 ht12 rfl rfl) ((qX12_soundsAs_62 hG l0 hl1 ht2 (by unfold kzI; omega))) ((qX12_soundsAs_61 hG l0 hl1 ht2))))))) ((qX12_soundsAs_61 hG l0 hl1 ht2))))))) (c_cnd (kz_eq hl1 ht2 rfl rfl) ((qX12_soundsAs_26 hG (by unfold kzI; omega))) ((qX12_soundsAs_26 hG (by unfold kzI; omega))))))))
def Z12_onBy (G : kdS) (l0 : Nat) (l1 : Int) (l2 : Int) (l3 : Int) : kzM → Option (Int × kzM) :=
  zgR G 12 26 l0 fun t1 =>
  zaI G t1 l2 fun t2 =>
  zcv G 12 l0 (Z12_bothOf G l0 l2 l3) fun t3 =>
  zgR G 12 46 l0 fun t4 =>
  zaL G t4 (((60 : Int) * (l1 + (1 : Int))) + l3) fun t5 =>
  zlL ((t2 * (t3 + (1 : Int))) * t5) fun u1 =>
  zrt u1
theorem qX12_onBy {G : kdS} (hG : kzG G) (l0 : Nat) {l1 : Int} (hl1 : kzI l1) {l2 : Int} (hl2 : kzI l2) {l3 : Int} (hl3 : kzI l3) : CRl (Z12_onBy G l0 l1 l2 l3) (X12_onBy G l0 (Int32.ofInt l1) (Int32.ofInt l2) (Int32.ofInt l3)) := by
  unfold Z12_onBy X12_onBy
  exact c_gR (fun t1 => c_aI hG rfl (fun t2 ht2 => c_cv (qX12_bothOf hG l0 hl2 hl3) (fun t3 ht3 => c_gR (fun t4 => c_aL hG (kz_add (kz_mul rfl (kz_add rfl rfl)) rfl) (fun t5 ht5 => c_rgL (kzL_mul (kzL_mul (kz_i2l ht2 rfl) (kzL_add (kz_i2l ht3 rfl) rfl)) rfl) fun u1 r1 e1 => c_rt r1 e1)))))
def Z12_findChosen_129 (G : kdS) (k7 : Nat → Int → kzM → Option (Int × kzM)) (k13 : Nat → Int → Int → kzM → Option (Int × kzM)) (l0 : Nat) (l1 : Int) (l2 : Int) (l3 : Int) : kzM → Option (Int × kzM) :=
  zgR G 12 46 l0 fun t1 =>
  ztL G t1 (((60 : Int) * l1) + l2) l3 <|
  zlI (l2 + (1 : Int)) fun t2 =>
  k13 l0 l1 t2
theorem qX12_findChosen_129 {G : kdS} (hG : kzG G) {k7' : Nat → Int → kzM → Option (Int × kzM)} {k7 : Nat → Int32 → kdM → Option (Int64 × kdM)} (hk7 : ∀ (a0 : Nat) (a1 : Int) (_ : kzI a1), CRl (k7' a0 a1) (k7 a0 (Int32.ofInt a1))) {k13' : Nat → Int → Int → kzM → Option (Int × kzM)} {k13 : Nat → Int32 → Int32 → kdM → Option (Int64 × kdM)} (hk13 : ∀ (a0 : Nat) (a1 : Int) (_ : kzI a1) (a2 : Int) (_ : kzI a2), CRl (k13' a0 a1 a2) (k13 a0 (Int32.ofInt a1) (Int32.ofInt a2))) (l0 : Nat) {l1 : Int} (hl1 : kzI l1) {l2 : Int} (hl2 : kzI l2) {l3 : Int} (hl3 : kzL l3) : CRl (Z12_findChosen_129 G k7' k13' l0 l1 l2 l3) (X12_findChosen_129 G k7 k13 l0 (Int32.ofInt l1) (Int32.ofInt l2) (Int64.ofInt l3)) := by
  unfold Z12_findChosen_129 X12_findChosen_129
  exact c_gR (fun t1 => c_tL hG (kz_add (kz_mul rfl rfl) rfl) hl3 rfl (c_lI (kz_add rfl rfl) (fun t2 ht2 => (hk13 l0 _ hl1 _ ht2))))
def Z12_findChosen_122 (G : kdS) (k7 : Nat → Int → kzM → Option (Int × kzM)) (k13 : Nat → Int → Int → kzM → Option (Int × kzM)) (k55 : Nat → Int → Int → Int → Int → kzM → Option (Int × kzM)) (l0 : Nat) (l1 : Int) (l2 : Int) (l5 : Int) (s0 : Int) : kzM → Option (Int × kzM) :=
  zlI (l5 + (1 : Int)) fun t1 =>
  k55 l0 l1 l2 s0 t1
theorem qX12_findChosen_122 {G : kdS} (hG : kzG G) {k7' : Nat → Int → kzM → Option (Int × kzM)} {k7 : Nat → Int32 → kdM → Option (Int64 × kdM)} (hk7 : ∀ (a0 : Nat) (a1 : Int) (_ : kzI a1), CRl (k7' a0 a1) (k7 a0 (Int32.ofInt a1))) {k13' : Nat → Int → Int → kzM → Option (Int × kzM)} {k13 : Nat → Int32 → Int32 → kdM → Option (Int64 × kdM)} (hk13 : ∀ (a0 : Nat) (a1 : Int) (_ : kzI a1) (a2 : Int) (_ : kzI a2), CRl (k13' a0 a1 a2) (k13 a0 (Int32.ofInt a1) (Int32.ofInt a2))) {k55' : Nat → Int → Int → Int → Int → kzM → Option (Int × kzM)} {k55 : Nat → Int32 → Int32 → Int64 → Int32 → kdM → Option (Int64 × kdM)} (hk55 : ∀ (a0 : Nat) (a1 : Int) (_ : kzI a1) (a2 : Int) (_ : kzI a2) (a3 : Int) (_ : kzL a3) (a4 : Int) (_ : kzI a4), CRl (k55' a0 a1 a2 a3 a4) (k55 a0 (Int32.ofInt a1) (Int32.ofInt a2) (Int64.ofInt a3) (Int32.ofInt a4))) (l0 : Nat) {l1 : Int} (hl1 : kzI l1) {l2 : Int} (hl2 : kzI l2) {l5 : Int} (hl5 : kzI l5) {s0 : Int} (hs0 : kzL s0) : CRl (Z12_findChosen_122 G k7' k13' k55' l0 l1 l2 l5 s0) (X12_findChosen_122 G k7 k13 k55 l0 (Int32.ofInt l1) (Int32.ofInt l2) (Int32.ofInt l5) (Int64.ofInt s0)) := by
  unfold Z12_findChosen_122 X12_findChosen_122
  exact c_lI (kz_add rfl rfl) (fun t1 ht1 => (hk55 l0 _ hl1 _ hl2 _ hs0 _ ht1))
def Z12_findChosen_107 (G : kdS) (k7 : Nat → Int → kzM → Option (Int × kzM)) (k13 : Nat → Int → Int → kzM → Option (Int × kzM)) (k55 : Nat → Int → Int → Int → Int → kzM → Option (Int × kzM)) (l0 : Nat) (l1 : Int) (l2 : Int) (l3 : Int) (l5 : Int) (s0 : Int) : kzM → Option (Int × kzM) :=
  zcnd (s0 ≤ l3)
  (Z12_findChosen_122 G k7 k13 k55 l0 l1 l2 l5 l3)
  (Z12_findChosen_122 G k7 k13 k55 l0 l1 l2 l5 s0)
theorem qX12_findChosen_107 {G : kdS} (hG : kzG G) {k7' : Nat → Int → kzM → Option (Int × kzM)} {k7 : Nat → Int32 → kdM → Option (Int64 × kdM)} (hk7 : ∀ (a0 : Nat) (a1 : Int) (_ : kzI a1), CRl (k7' a0 a1) (k7 a0 (Int32.ofInt a1))) {k13' : Nat → Int → Int → kzM → Option (Int × kzM)} {k13 : Nat → Int32 → Int32 → kdM → Option (Int64 × kdM)} (hk13 : ∀ (a0 : Nat) (a1 : Int) (_ : kzI a1) (a2 : Int) (_ : kzI a2), CRl (k13' a0 a1 a2) (k13 a0 (Int32.ofInt a1) (Int32.ofInt a2))) {k55' : Nat → Int → Int → Int → Int → kzM → Option (Int × kzM)} {k55 : Nat → Int32 → Int32 → Int64 → Int32 → kdM → Option (Int64 × kdM)} (hk55 : ∀ (a0 : Nat) (a1 : Int) (_ : kzI a1) (a2 : Int) (_ : kzI a2) (a3 : Int) (_ : kzL a3) (a4 : Int) (_ : kzI a4), CRl (k55' a0 a1 a2 a3 a4) (k55 a0 (Int32.ofInt a1) (Int32.ofInt a2) (Int64.ofInt a3) (Int32.ofInt a4))) (l0 : Nat) {l1 : Int} (hl1 : kzI l1) {l2 : Int} (hl2 : kzI l2) {l3 : Int} (hl3 : kzL l3) {l5 : Int} (hl5 : kzI l5) {s0 : Int} (hs0 : kzL s0) : CRl (Z12_findChosen_107 G k7' k13' k55' l0 l1 l2 l3 l5 s0) (X12_findChosen_107 G k7 k13 k55 l0 (Int32.ofInt l1) (Int32.ofInt l2) (Int64.ofInt l3) (Int32.ofInt l5) (Int64.ofInt s0)) := by
  unfold Z12_findChosen_107 X12_findChosen_107
  exact c_cnd (kzL_le hs0 hl3 rfl rfl) ((qX12_findChosen_122 hG hk7 hk13 hk55 l0 hl1 hl2 hl5 hl3)) ((qX12_findChosen_122 hG hk7 hk13 hk55 l0 hl1 hl2 hl5 hs0))
def Z12_findChosen_55B (G : kdS) (k7 : Nat → Int → kzM → Option (Int × kzM)) (k13 : Nat → Int → Int → kzM → Option (Int × kzM)) (k55 : Nat → Int → Int → Int → Int → kzM → Option (Int × kzM)) (l0 : Nat) (l1 : Int) (l2 : Int) (l3 : Int) (l5 : Int) : kzM → Option (Int × kzM) :=
  zgI G 12 29 l0 fun t1 =>
  zcnd (t1 ≤ l5)
  (Z12_findChosen_129 G k7 k13 l0 l1 l2 l3)
  (zgI G 12 6 l0 fun t2 =>
  zlI (t2 - (1 : Int)) fun u2 =>
  zcnd (u2 ≤ l1)
  (Z12_findChosen_129 G k7 k13 l0 l1 l2 l3)
  (zcv G 12 l0 (Z12_soundsAs G l0 l2 l1) fun t3 =>
  zcnd (t3 = (0 : Int))
  (Z12_findChosen_129 G k7 k13 l0 l1 l2 l3)
  (zlI (l1 + (1 : Int)) fun u1 =>
  zcv G 12 l0 (Z12_soundsAs G l0 l5 u1) fun t4 =>
  zcnd (t4 = (0 : Int))
  (Z12_findChosen_107 G k7 k13 k55 l0 l1 l2 l3 l5 (0 : Int))
  (zcv G 12 l0 (Z12_onBy G l0 l1 l2 l5) fun t5 =>
  Z12_findChosen_107 G k7 k13 k55 l0 l1 l2 l3 l5 t5))))
theorem qX12_findChosen_55B {G : kdS} (hG : kzG G) {k7' : Nat → Int → kzM → Option (Int × kzM)} {k7 : Nat → Int32 → kdM → Option (Int64 × kdM)} (hk7 : ∀ (a0 : Nat) (a1 : Int) (_ : kzI a1), CRl (k7' a0 a1) (k7 a0 (Int32.ofInt a1))) {k13' : Nat → Int → Int → kzM → Option (Int × kzM)} {k13 : Nat → Int32 → Int32 → kdM → Option (Int64 × kdM)} (hk13 : ∀ (a0 : Nat) (a1 : Int) (_ : kzI a1) (a2 : Int) (_ : kzI a2), CRl (k13' a0 a1 a2) (k13 a0 (Int32.ofInt a1) (Int32.ofInt a2))) {k55' : Nat → Int → Int → Int → Int → kzM → Option (Int × kzM)} {k55 : Nat → Int32 → Int32 → Int64 → Int32 → kdM → Option (Int64 × kdM)} (hk55 : ∀ (a0 : Nat) (a1 : Int) (_ : kzI a1) (a2 : Int) (_ : kzI a2) (a3 : Int) (_ : kzL a3) (a4 : Int) (_ : kzI a4), CRl (k55' a0 a1 a2 a3 a4) (k55 a0 (Int32.ofInt a1) (Int32.ofInt a2) (Int64.ofInt a3) (Int32.ofInt a4))) (l0 : Nat) {l1 : Int} (hl1 : kzI l1) {l2 : Int} (hl2 : kzI l2) {l3 : Int} (hl3 : kzL l3) {l5 : Int} (hl5 : kzI l5) : CRl (Z12_findChosen_55B G k7' k13' k55' l0 l1 l2 l3 l5) (X12_findChosen_55B G k7 k13 k55 l0 (Int32.ofInt l1) (Int32.ofInt l2) (Int64.ofInt l3) (Int32.ofInt l5)) := by
  unfold Z12_findChosen_55B X12_findChosen_55B
  exact c_gI rfl (fun t1 ht1 => c_cnd (kz_le ht1 hl5 rfl rfl) ((qX12_findChosen_129 hG hk7 hk13 l0 hl1 hl2 hl3)) (c_gI rfl (fun t2 ht2 => c_rg (kz_sub rfl rfl) fun u2 r2 e2 => c_cnd (kz_le r2 hl1 e2 rfl) ((qX12_findChosen_129 hG hk7 hk13 l0 hl1 hl2 hl3)) (c_cv (qX12_soundsAs hG l0 hl2 hl1) (fun t3 ht3 => c_cnd (kz_eq ht3 (by unfold kzI; omega) rfl rfl) ((qX12_findChosen_129 hG hk7 hk13 l0 hl1 hl2 hl3)) (c_rg (kz_add rfl rfl) fun u1 r1 e1 => c_cv (e1 ▸ (qX12_soundsAs hG l0 hl5 r1)) (fun t4 ht4 => c_cnd (kz_eq ht4 (by unfold kzI; omega) rfl rfl) ((qX12_findChosen_107 hG hk7 hk13 hk55 l0 hl1 hl2 hl3 hl5 (show kzL (0 : Int) by unfold kzL; omega))) (c_cv (qX12_onBy hG l0 hl1 hl2 hl5) (fun t5 ht5 => (qX12_findChosen_107 hG hk7 hk13 hk55 l0 hl1 hl2 hl3 hl5 ht5))))))))))
def Z12_findChosen_55 (G : kdS) (k7 : Nat → Int → kzM → Option (Int × kzM)) (k13 : Nat → Int → Int → kzM → Option (Int × kzM)) : Nat → Int → Int → Int → Int → kzM → Option (Int × kzM) := lp (fun _ _ _ _ _ _ => none) (Z12_findChosen_55B G k7 k13) NN
theorem qX12_findChosen_55 {G : kdS} (hG : kzG G) {k7' : Nat → Int → kzM → Option (Int × kzM)} {k7 : Nat → Int32 → kdM → Option (Int64 × kdM)} (hk7 : ∀ (a0 : Nat) (a1 : Int) (_ : kzI a1), CRl (k7' a0 a1) (k7 a0 (Int32.ofInt a1))) {k13' : Nat → Int → Int → kzM → Option (Int × kzM)} {k13 : Nat → Int32 → Int32 → kdM → Option (Int64 × kdM)} (hk13 : ∀ (a0 : Nat) (a1 : Int) (_ : kzI a1) (a2 : Int) (_ : kzI a2), CRl (k13' a0 a1 a2) (k13 a0 (Int32.ofInt a1) (Int32.ofInt a2))) : ∀ (a0 : Nat) (a1 : Int) (_ : kzI a1) (a2 : Int) (_ : kzI a2) (a3 : Int) (_ : kzL a3) (a4 : Int) (_ : kzI a4), CRl (Z12_findChosen_55 G k7' k13' a0 a1 a2 a3 a4) (X12_findChosen_55 G k7 k13 a0 (Int32.ofInt a1) (Int32.ofInt a2) (Int64.ofInt a3) (Int32.ofInt a4)) :=
  lp_rel (R := fun (f' : Nat → Int → Int → Int → Int → kzM → Option (Int × kzM)) (f : Nat → Int32 → Int32 → Int64 → Int32 → kdM → Option (Int64 × kdM)) => ∀ (a0 : Nat) (a1 : Int) (_ : kzI a1) (a2 : Int) (_ : kzI a2) (a3 : Int) (_ : kzL a3) (a4 : Int) (_ : kzI a4), CRl (f' a0 a1 a2 a3 a4) (f a0 (Int32.ofInt a1) (Int32.ofInt a2) (Int64.ofInt a3) (Int32.ofInt a4))) (by intros; exact c_no) (fun _ _ hf a0 a1 ha1 a2 ha2 a3 ha3 a4 ha4 => qX12_findChosen_55B hG hk7 hk13 hf a0 ha1 ha2 ha3 ha4) NN
def Z12_findChosen_51 (G : kdS) (k7 : Nat → Int → kzM → Option (Int × kzM)) (k13 : Nat → Int → Int → kzM → Option (Int × kzM)) (l0 : Nat) (l1 : Int) (l2 : Int) (s0 : Int) : kzM → Option (Int × kzM) :=
  Z12_findChosen_55 G k7 k13 l0 l1 l2 s0 (0 : Int)
theorem qX12_findChosen_51 {G : kdS} (hG : kzG G) {k7' : Nat → Int → kzM → Option (Int × kzM)} {k7 : Nat → Int32 → kdM → Option (Int64 × kdM)} (hk7 : ∀ (a0 : Nat) (a1 : Int) (_ : kzI a1), CRl (k7' a0 a1) (k7 a0 (Int32.ofInt a1))) {k13' : Nat → Int → Int → kzM → Option (Int × kzM)} {k13 : Nat → Int32 → Int32 → kdM → Option (Int64 × kdM)} (hk13 : ∀ (a0 : Nat) (a1 : Int) (_ : kzI a1) (a2 : Int) (_ : kzI a2), CRl (k13' a0 a1 a2) (k13 a0 (Int32.ofInt a1) (Int32.ofInt a2))) (l0 : Nat) {l1 : Int} (hl1 : kzI l1) {l2 : Int} (hl2 : kzI l2) {s0 : Int} (hs0 : kzL s0) : CRl (Z12_findChosen_51 G k7' k13' l0 l1 l2 s0) (X12_findChosen_51 G k7 k13 l0 (Int32.ofInt l1) (Int32.ofInt l2) (Int64.ofInt s0)) := by
  unfold Z12_findChosen_51 X12_findChosen_51
  exact (qX12_findChosen_55 hG hk7 hk13 l0 _ hl1 _ hl2 _ hs0 _ (by unfold kzI; omega))
def Z12_findChosen_50 (G : kdS) (k7 : Nat → Int → kzM → Option (Int × kzM)) (k13 : Nat → Int → Int → kzM → Option (Int × kzM)) (l0 : Nat) (l1 : Int) (l2 : Int) : kzM → Option (Int × kzM) :=
  Z12_findChosen_51 G k7 k13 l0 l1 l2 (0 : Int)
theorem qX12_findChosen_50 {G : kdS} (hG : kzG G) {k7' : Nat → Int → kzM → Option (Int × kzM)} {k7 : Nat → Int32 → kdM → Option (Int64 × kdM)} (hk7 : ∀ (a0 : Nat) (a1 : Int) (_ : kzI a1), CRl (k7' a0 a1) (k7 a0 (Int32.ofInt a1))) {k13' : Nat → Int → Int → kzM → Option (Int × kzM)} {k13 : Nat → Int32 → Int32 → kdM → Option (Int64 × kdM)} (hk13 : ∀ (a0 : Nat) (a1 : Int) (_ : kzI a1) (a2 : Int) (_ : kzI a2), CRl (k13' a0 a1 a2) (k13 a0 (Int32.ofInt a1) (Int32.ofInt a2))) (l0 : Nat) {l1 : Int} (hl1 : kzI l1) {l2 : Int} (hl2 : kzI l2) : CRl (Z12_findChosen_50 G k7' k13' l0 l1 l2) (X12_findChosen_50 G k7 k13 l0 (Int32.ofInt l1) (Int32.ofInt l2)) := by
  unfold Z12_findChosen_50 X12_findChosen_50
  exact (qX12_findChosen_51 hG hk7 hk13 l0 hl1 hl2 (show kzL (0 : Int) by unfold kzL; omega))
def Z12_findChosen_13B (G : kdS) (k7 : Nat → Int → kzM → Option (Int × kzM)) (k13 : Nat → Int → Int → kzM → Option (Int × kzM)) (l0 : Nat) (l1 : Int) (l2 : Int) : kzM → Option (Int × kzM) :=
  zgI G 12 29 l0 fun t1 =>
  zcnd (t1 ≤ l2)
  (zlI (l1 + (-1 : Int)) fun t2 =>
  k7 l0 t2)
  (zgI G 12 6 l0 fun t3 =>
  zlI (t3 - (1 : Int)) fun u1 =>
  zcnd (l1 = u1)
  (zcv G 12 l0 (Z12_soundsAs G l0 l2 l1) fun t4 =>
  zcnd (t4 = (0 : Int))
  (Z12_findChosen_50 G k7 k13 l0 l1 l2)
  (zgR G 12 26 l0 fun t5 =>
  zaI G t5 l2 fun t6 =>
  Z12_findChosen_51 G k7 k13 l0 l1 l2 t6))
  (Z12_findChosen_50 G k7 k13 l0 l1 l2))
theorem qX12_findChosen_13B {G : kdS} (hG : kzG G) {k7' : Nat → Int → kzM → Option (Int × kzM)} {k7 : Nat → Int32 → kdM → Option (Int64 × kdM)} (hk7 : ∀ (a0 : Nat) (a1 : Int) (_ : kzI a1), CRl (k7' a0 a1) (k7 a0 (Int32.ofInt a1))) {k13' : Nat → Int → Int → kzM → Option (Int × kzM)} {k13 : Nat → Int32 → Int32 → kdM → Option (Int64 × kdM)} (hk13 : ∀ (a0 : Nat) (a1 : Int) (_ : kzI a1) (a2 : Int) (_ : kzI a2), CRl (k13' a0 a1 a2) (k13 a0 (Int32.ofInt a1) (Int32.ofInt a2))) (l0 : Nat) {l1 : Int} (hl1 : kzI l1) {l2 : Int} (hl2 : kzI l2) : CRl (Z12_findChosen_13B G k7' k13' l0 l1 l2) (X12_findChosen_13B G k7 k13 l0 (Int32.ofInt l1) (Int32.ofInt l2)) := by
  unfold Z12_findChosen_13B X12_findChosen_13B
  exact c_gI rfl (fun t1 ht1 => c_cnd (kz_le ht1 hl2 rfl rfl) (c_lI (kz_add rfl rfl) (fun t2 ht2 => (hk7 l0 _ ht2))) (c_gI rfl (fun t3 ht3 => c_rg (kz_sub rfl rfl) fun u1 r1 e1 => c_cnd (kz_eq hl1 r1 rfl e1) (c_cv (qX12_soundsAs hG l0 hl2 hl1) (fun t4 ht4 => c_cnd (kz_eq ht4 (by unfold kzI; omega) rfl rfl) ((qX12_findChosen_50 hG hk7 hk13 l0 hl1 hl2)) (c_gR (fun t5 => c_aI hG rfl (fun t6 ht6 => ((kz_i2l ht6 rfl) ▸ (qX12_findChosen_51 hG hk7 hk13 l0 hl1 hl2 (kzI_L ht6)))))))) ((qX12_findChosen_50 hG hk7 hk13 l0 hl1 hl2)))))
def Z12_findChosen_13 (G : kdS) (k7 : Nat → Int → kzM → Option (Int × kzM)) : Nat → Int → Int → kzM → Option (Int × kzM) := lp (fun _ _ _ _ => none) (Z12_findChosen_13B G k7) NN
theorem qX12_findChosen_13 {G : kdS} (hG : kzG G) {k7' : Nat → Int → kzM → Option (Int × kzM)} {k7 : Nat → Int32 → kdM → Option (Int64 × kdM)} (hk7 : ∀ (a0 : Nat) (a1 : Int) (_ : kzI a1), CRl (k7' a0 a1) (k7 a0 (Int32.ofInt a1))) : ∀ (a0 : Nat) (a1 : Int) (_ : kzI a1) (a2 : Int) (_ : kzI a2), CRl (Z12_findChosen_13 G k7' a0 a1 a2) (X12_findChosen_13 G k7 a0 (Int32.ofInt a1) (Int32.ofInt a2)) :=
  lp_rel (R := fun (f' : Nat → Int → Int → kzM → Option (Int × kzM)) (f : Nat → Int32 → Int32 → kdM → Option (Int64 × kdM)) => ∀ (a0 : Nat) (a1 : Int) (_ : kzI a1) (a2 : Int) (_ : kzI a2), CRl (f' a0 a1 a2) (f a0 (Int32.ofInt a1) (Int32.ofInt a2))) (by intros; exact c_no) (fun _ _ hf a0 a1 ha1 a2 ha2 => qX12_findChosen_13B hG hk7 hf a0 ha1 ha2) NN
def Z12_findChosen_200 (G : kdS) (l1 : Int) : kzM → Option (Int × kzM) :=
  zrt l1
theorem qX12_findChosen_200 {G : kdS} (hG : kzG G) {l1 : Int} (hl1 : kzL l1) : CRl (Z12_findChosen_200 G l1) (X12_findChosen_200 G (Int64.ofInt l1)) := by
  unfold Z12_findChosen_200 X12_findChosen_200
  exact c_rt hl1 rfl
def Z12_findChosen_193 (G : kdS) (k157 : Nat → Int → Int → kzM → Option (Int × kzM)) (l0 : Nat) (l3 : Int) (s0 : Int) : kzM → Option (Int × kzM) :=
  zlI (l3 + (1 : Int)) fun t1 =>
  k157 l0 s0 t1
theorem qX12_findChosen_193 {G : kdS} (hG : kzG G) {k157' : Nat → Int → Int → kzM → Option (Int × kzM)} {k157 : Nat → Int64 → Int32 → kdM → Option (Int64 × kdM)} (hk157 : ∀ (a0 : Nat) (a1 : Int) (_ : kzL a1) (a2 : Int) (_ : kzI a2), CRl (k157' a0 a1 a2) (k157 a0 (Int64.ofInt a1) (Int32.ofInt a2))) (l0 : Nat) {l3 : Int} (hl3 : kzI l3) {s0 : Int} (hs0 : kzL s0) : CRl (Z12_findChosen_193 G k157' l0 l3 s0) (X12_findChosen_193 G k157 l0 (Int32.ofInt l3) (Int64.ofInt s0)) := by
  unfold Z12_findChosen_193 X12_findChosen_193
  exact c_lI (kz_add rfl rfl) (fun t1 ht1 => (hk157 l0 _ hs0 _ ht1))
def Z12_findChosen_157B (G : kdS) (k157 : Nat → Int → Int → kzM → Option (Int × kzM)) (l0 : Nat) (l1 : Int) (l3 : Int) : kzM → Option (Int × kzM) :=
  zgI G 12 29 l0 fun t1 =>
  zcnd (t1 ≤ l3)
  (Z12_findChosen_200 G l1)
  (zgI G 12 6 l0 fun t2 =>
  zcnd (t2 ≤ (0 : Int))
  (Z12_findChosen_200 G l1)
  (zgR G 12 46 l0 fun t3 =>
  zaL G t3 l3 fun t4 =>
  zcnd (t4 ≤ l1)
  (Z12_findChosen_193 G k157 l0 l3 l1)
  (zgR G 12 46 l0 fun t5 =>
  zaL G t5 l3 fun t6 =>
  Z12_findChosen_193 G k157 l0 l3 t6)))
theorem qX12_findChosen_157B {G : kdS} (hG : kzG G) {k157' : Nat → Int → Int → kzM → Option (Int × kzM)} {k157 : Nat → Int64 → Int32 → kdM → Option (Int64 × kdM)} (hk157 : ∀ (a0 : Nat) (a1 : Int) (_ : kzL a1) (a2 : Int) (_ : kzI a2), CRl (k157' a0 a1 a2) (k157 a0 (Int64.ofInt a1) (Int32.ofInt a2))) (l0 : Nat) {l1 : Int} (hl1 : kzL l1) {l3 : Int} (hl3 : kzI l3) : CRl (Z12_findChosen_157B G k157' l0 l1 l3) (X12_findChosen_157B G k157 l0 (Int64.ofInt l1) (Int32.ofInt l3)) := by
  unfold Z12_findChosen_157B X12_findChosen_157B
  exact c_gI rfl (fun t1 ht1 => c_cnd (kz_le ht1 hl3 rfl rfl) ((qX12_findChosen_200 hG hl1)) (c_gI rfl (fun t2 ht2 => c_cnd (kz_le ht2 (by unfold kzI; omega) rfl rfl) ((qX12_findChosen_200 hG hl1)) (c_gR (fun t3 => c_aL hG rfl (fun t4 ht4 => c_cnd (kzL_le ht4 hl1 rfl rfl) ((qX12_findChosen_193 hG hk157 l0 hl3 hl1)) (c_gR (fun t5 => c_aL hG rfl (fun t6 ht6 => (qX12_findChosen_193 hG hk157 l0 hl3 ht6))))))))))
def Z12_findChosen_157 (G : kdS) : Nat → Int → Int → kzM → Option (Int × kzM) := lp (fun _ _ _ _ => none) (Z12_findChosen_157B G) NN
theorem qX12_findChosen_157 {G : kdS} (hG : kzG G) : ∀ (a0 : Nat) (a1 : Int) (_ : kzL a1) (a2 : Int) (_ : kzI a2), CRl (Z12_findChosen_157 G a0 a1 a2) (X12_findChosen_157 G a0 (Int64.ofInt a1) (Int32.ofInt a2)) :=
  lp_rel (R := fun (f' : Nat → Int → Int → kzM → Option (Int × kzM)) (f : Nat → Int64 → Int32 → kdM → Option (Int64 × kdM)) => ∀ (a0 : Nat) (a1 : Int) (_ : kzL a1) (a2 : Int) (_ : kzI a2), CRl (f' a0 a1 a2) (f a0 (Int64.ofInt a1) (Int32.ofInt a2))) (by intros; exact c_no) (fun _ _ hf a0 a1 ha1 a2 ha2 => qX12_findChosen_157B hG hf a0 ha1 ha2) NN
def Z12_findChosen_7B (G : kdS) (k7 : Nat → Int → kzM → Option (Int × kzM)) (l0 : Nat) (l1 : Int) : kzM → Option (Int × kzM) :=
  zcnd (l1 < (0 : Int))
  (Z12_findChosen_157 G l0 (0 : Int) (0 : Int))
  (Z12_findChosen_13 G k7 l0 l1 (0 : Int))
theorem qX12_findChosen_7B {G : kdS} (hG : kzG G) {k7' : Nat → Int → kzM → Option (Int × kzM)} {k7 : Nat → Int32 → kdM → Option (Int64 × kdM)} (hk7 : ∀ (a0 : Nat) (a1 : Int) (_ : kzI a1), CRl (k7' a0 a1) (k7 a0 (Int32.ofInt a1))) (l0 : Nat) {l1 : Int} (hl1 : kzI l1) : CRl (Z12_findChosen_7B G k7' l0 l1) (X12_findChosen_7B G k7 l0 (Int32.ofInt l1)) := by
  unfold Z12_findChosen_7B X12_findChosen_7B
  exact c_cnd (kz_lt hl1 (by unfold kzI; omega) rfl rfl) ((qX12_findChosen_157 hG l0 _ (show kzL (0 : Int) by unfold kzL; omega) _ (by unfold kzI; omega))) ((qX12_findChosen_13 hG hk7 l0 _ hl1 _ (by unfold kzI; omega)))
def Z12_findChosen_7 (G : kdS) : Nat → Int → kzM → Option (Int × kzM) := lp (fun _ _ _ => none) (Z12_findChosen_7B G) NN
theorem qX12_findChosen_7 {G : kdS} (hG : kzG G) : ∀ (a0 : Nat) (a1 : Int) (_ : kzI a1), CRl (Z12_findChosen_7 G a0 a1) (X12_findChosen_7 G a0 (Int32.ofInt a1)) :=
  lp_rel (R := fun (f' : Nat → Int → kzM → Option (Int × kzM)) (f : Nat → Int32 → kdM → Option (Int64 × kdM)) => ∀ (a0 : Nat) (a1 : Int) (_ : kzI a1), CRl (f' a0 a1) (f a0 (Int32.ofInt a1))) (by intros; exact c_no) (fun _ _ hf a0 a1 ha1 => qX12_findChosen_7B hG hf a0 ha1) NN
def Z12_findChosen (G : kdS) (l0 : Nat) : kzM → Option (Int × kzM) :=
  zgI G 12 6 l0 fun t1 =>
  zlI (t1 - (1 : Int)) fun t2 =>
  Z12_findChosen_7 G l0 t2
theorem qX12_findChosen {G : kdS} (hG : kzG G) (l0 : Nat) : CRl (Z12_findChosen G l0) (X12_findChosen G l0) := by
  unfold Z12_findChosen X12_findChosen
  exact c_gI rfl (fun t1 ht1 => c_lI (kz_sub rfl rfl) (fun t2 ht2 => (qX12_findChosen_7 hG l0 _ ht2)))
def Z12_layChosen_104 (G : kdS) (k7 : Nat → Int → Int → kzM → Option (Unit × kzM)) (l0 : Nat) (l3 : Int) (l4 : Int) : kzM → Option (Unit × kzM) :=
  zgR G 12 47 l0 fun t1 =>
  ztI G t1 l3 l4 <|
  zgR G 12 46 l0 fun t2 =>
  zaL G t2 (((60 : Int) * l3) + l4) fun t3 =>
  zlI (l3 + (1 : Int)) fun t4 =>
  k7 l0 t3 t4
theorem qX12_layChosen_104 {G : kdS} (hG : kzG G) {k7' : Nat → Int → Int → kzM → Option (Unit × kzM)} {k7 : Nat → Int64 → Int32 → kdM → Option (Unit × kdM)} (hk7 : ∀ (a0 : Nat) (a1 : Int) (_ : kzL a1) (a2 : Int) (_ : kzI a2), CRu (k7' a0 a1 a2) (k7 a0 (Int64.ofInt a1) (Int32.ofInt a2))) (l0 : Nat) {l3 : Int} (hl3 : kzI l3) {l4 : Int} (hl4 : kzI l4) : CRu (Z12_layChosen_104 G k7' l0 l3 l4) (X12_layChosen_104 G k7 l0 (Int32.ofInt l3) (Int32.ofInt l4)) := by
  unfold Z12_layChosen_104 X12_layChosen_104
  exact c_gR (fun t1 => c_tI hG rfl hl4 rfl (c_gR (fun t2 => c_aL hG (kz_add (kz_mul rfl rfl) rfl) (fun t3 ht3 => c_lI (kz_add rfl rfl) (fun t4 ht4 => (hk7 l0 _ ht3 _ ht4))))))
def Z12_layChosen_96 (G : kdS) (k7 : Nat → Int → Int → kzM → Option (Unit × kzM)) (k21 : Nat → Int → Int → Int → Int → kzM → Option (Unit × kzM)) (l0 : Nat) (l1 : Int) (l3 : Int) (l5 : Int) (s0 : Int) : kzM → Option (Unit × kzM) :=
  zlI (l5 + (1 : Int)) fun t1 =>
  k21 l0 l1 l3 s0 t1
theorem qX12_layChosen_96 {G : kdS} (hG : kzG G) {k7' : Nat → Int → Int → kzM → Option (Unit × kzM)} {k7 : Nat → Int64 → Int32 → kdM → Option (Unit × kdM)} (hk7 : ∀ (a0 : Nat) (a1 : Int) (_ : kzL a1) (a2 : Int) (_ : kzI a2), CRu (k7' a0 a1 a2) (k7 a0 (Int64.ofInt a1) (Int32.ofInt a2))) {k21' : Nat → Int → Int → Int → Int → kzM → Option (Unit × kzM)} {k21 : Nat → Int64 → Int32 → Int32 → Int32 → kdM → Option (Unit × kdM)} (hk21 : ∀ (a0 : Nat) (a1 : Int) (_ : kzL a1) (a2 : Int) (_ : kzI a2) (a3 : Int) (_ : kzI a3) (a4 : Int) (_ : kzI a4), CRu (k21' a0 a1 a2 a3 a4) (k21 a0 (Int64.ofInt a1) (Int32.ofInt a2) (Int32.ofInt a3) (Int32.ofInt a4))) (l0 : Nat) {l1 : Int} (hl1 : kzL l1) {l3 : Int} (hl3 : kzI l3) {l5 : Int} (hl5 : kzI l5) {s0 : Int} (hs0 : kzI s0) : CRu (Z12_layChosen_96 G k7' k21' l0 l1 l3 l5 s0) (X12_layChosen_96 G k7 k21 l0 (Int64.ofInt l1) (Int32.ofInt l3) (Int32.ofInt l5) (Int32.ofInt s0)) := by
  unfold Z12_layChosen_96 X12_layChosen_96
  exact c_lI (kz_add rfl rfl) (fun t1 ht1 => (hk21 l0 _ hl1 _ hl3 _ hs0 _ ht1))
def Z12_layChosen_80 (G : kdS) (k7 : Nat → Int → Int → kzM → Option (Unit × kzM)) (k21 : Nat → Int → Int → Int → Int → kzM → Option (Unit × kzM)) (l0 : Nat) (l1 : Int) (l3 : Int) (l4 : Int) (l5 : Int) (s0 : Int) : kzM → Option (Unit × kzM) :=
  zcnd (s0 = l1)
  (Z12_layChosen_96 G k7 k21 l0 l1 l3 l5 l5)
  (Z12_layChosen_96 G k7 k21 l0 l1 l3 l5 l4)
theorem qX12_layChosen_80 {G : kdS} (hG : kzG G) {k7' : Nat → Int → Int → kzM → Option (Unit × kzM)} {k7 : Nat → Int64 → Int32 → kdM → Option (Unit × kdM)} (hk7 : ∀ (a0 : Nat) (a1 : Int) (_ : kzL a1) (a2 : Int) (_ : kzI a2), CRu (k7' a0 a1 a2) (k7 a0 (Int64.ofInt a1) (Int32.ofInt a2))) {k21' : Nat → Int → Int → Int → Int → kzM → Option (Unit × kzM)} {k21 : Nat → Int64 → Int32 → Int32 → Int32 → kdM → Option (Unit × kdM)} (hk21 : ∀ (a0 : Nat) (a1 : Int) (_ : kzL a1) (a2 : Int) (_ : kzI a2) (a3 : Int) (_ : kzI a3) (a4 : Int) (_ : kzI a4), CRu (k21' a0 a1 a2 a3 a4) (k21 a0 (Int64.ofInt a1) (Int32.ofInt a2) (Int32.ofInt a3) (Int32.ofInt a4))) (l0 : Nat) {l1 : Int} (hl1 : kzL l1) {l3 : Int} (hl3 : kzI l3) {l4 : Int} (hl4 : kzI l4) {l5 : Int} (hl5 : kzI l5) {s0 : Int} (hs0 : kzL s0) : CRu (Z12_layChosen_80 G k7' k21' l0 l1 l3 l4 l5 s0) (X12_layChosen_80 G k7 k21 l0 (Int64.ofInt l1) (Int32.ofInt l3) (Int32.ofInt l4) (Int32.ofInt l5) (Int64.ofInt s0)) := by
  unfold Z12_layChosen_80 X12_layChosen_80
  exact c_cnd (kzL_eq hs0 hl1 rfl rfl) ((qX12_layChosen_96 hG hk7 hk21 l0 hl1 hl3 hl5 hl5)) ((qX12_layChosen_96 hG hk7 hk21 l0 hl1 hl3 hl5 hl4))
def Z12_layChosen_21B (G : kdS) (k7 : Nat → Int → Int → kzM → Option (Unit × kzM)) (k21 : Nat → Int → Int → Int → Int → kzM → Option (Unit × kzM)) (l0 : Nat) (l1 : Int) (l3 : Int) (l4 : Int) (l5 : Int) : kzM → Option (Unit × kzM) :=
  zgI G 12 29 l0 fun t1 =>
  zcnd (t1 ≤ l5)
  (Z12_layChosen_104 G k7 l0 l3 l4)
  (zcnd ((0 : Int) ≤ l4)
  (Z12_layChosen_104 G k7 l0 l3 l4)
  (zcnd (l3 = (0 : Int))
  (zgR G 12 46 l0 fun t2 =>
  zaL G t2 l5 fun t3 =>
  Z12_layChosen_80 G k7 k21 l0 l1 l3 l4 l5 t3)
  (zcv G 12 l0 (Z12_soundsAs G l0 l5 l3) fun t4 =>
  zcnd (t4 = (0 : Int))
  (Z12_layChosen_80 G k7 k21 l0 l1 l3 l4 l5 (0 : Int))
  (zgR G 12 47 l0 fun t5 =>
  zaI G t5 (l3 - (1 : Int)) fun t6 =>
  zlI (l3 - (1 : Int)) fun u1 =>
  zcv G 12 l0 (Z12_onBy G l0 u1 t6 l5) fun t7 =>
  Z12_layChosen_80 G k7 k21 l0 l1 l3 l4 l5 t7))))
theorem qX12_layChosen_21B {G : kdS} (hG : kzG G) {k7' : Nat → Int → Int → kzM → Option (Unit × kzM)} {k7 : Nat → Int64 → Int32 → kdM → Option (Unit × kdM)} (hk7 : ∀ (a0 : Nat) (a1 : Int) (_ : kzL a1) (a2 : Int) (_ : kzI a2), CRu (k7' a0 a1 a2) (k7 a0 (Int64.ofInt a1) (Int32.ofInt a2))) {k21' : Nat → Int → Int → Int → Int → kzM → Option (Unit × kzM)} {k21 : Nat → Int64 → Int32 → Int32 → Int32 → kdM → Option (Unit × kdM)} (hk21 : ∀ (a0 : Nat) (a1 : Int) (_ : kzL a1) (a2 : Int) (_ : kzI a2) (a3 : Int) (_ : kzI a3) (a4 : Int) (_ : kzI a4), CRu (k21' a0 a1 a2 a3 a4) (k21 a0 (Int64.ofInt a1) (Int32.ofInt a2) (Int32.ofInt a3) (Int32.ofInt a4))) (l0 : Nat) {l1 : Int} (hl1 : kzL l1) {l3 : Int} (hl3 : kzI l3) {l4 : Int} (hl4 : kzI l4) {l5 : Int} (hl5 : kzI l5) : CRu (Z12_layChosen_21B G k7' k21' l0 l1 l3 l4 l5) (X12_layChosen_21B G k7 k21 l0 (Int64.ofInt l1) (Int32.ofInt l3) (Int32.ofInt l4) (Int32.ofInt l5)) := by
  unfold Z12_layChosen_21B X12_layChosen_21B
  exact c_gI rfl (fun t1 ht1 => c_cnd (kz_le ht1 hl5 rfl rfl) ((qX12_layChosen_104 hG hk7 l0 hl3 hl4)) (c_cnd (kz_le (by unfold kzI; omega) hl4 rfl rfl) ((qX12_layChosen_104 hG hk7 l0 hl3 hl4)) (c_cnd (kz_eq hl3 (by unfold kzI; omega) rfl rfl) (c_gR (fun t2 => c_aL hG rfl (fun t3 ht3 => (qX12_layChosen_80 hG hk7 hk21 l0 hl1 hl3 hl4 hl5 ht3)))) (c_cv (qX12_soundsAs hG l0 hl5 hl3) (fun t4 ht4 => c_cnd (kz_eq ht4 (by unfold kzI; omega) rfl rfl) ((qX12_layChosen_80 hG hk7 hk21 l0 hl1 hl3 hl4 hl5 (show kzL (0 : Int) by unfold kzL; omega))) (c_gR (fun t5 => c_aI hG (kz_sub rfl rfl) (fun t6 ht6 => c_rg (kz_sub rfl rfl) fun u1 r1 e1 => c_cv (e1 ▸ (qX12_onBy hG l0 r1 ht6 hl5)) (fun t7 ht7 => (qX12_layChosen_80 hG hk7 hk21 l0 hl1 hl3 hl4 hl5 ht7))))))))))
def Z12_layChosen_21 (G : kdS) (k7 : Nat → Int → Int → kzM → Option (Unit × kzM)) : Nat → Int → Int → Int → Int → kzM → Option (Unit × kzM) := lp (fun _ _ _ _ _ _ => none) (Z12_layChosen_21B G k7) NN
theorem qX12_layChosen_21 {G : kdS} (hG : kzG G) {k7' : Nat → Int → Int → kzM → Option (Unit × kzM)} {k7 : Nat → Int64 → Int32 → kdM → Option (Unit × kdM)} (hk7 : ∀ (a0 : Nat) (a1 : Int) (_ : kzL a1) (a2 : Int) (_ : kzI a2), CRu (k7' a0 a1 a2) (k7 a0 (Int64.ofInt a1) (Int32.ofInt a2))) : ∀ (a0 : Nat) (a1 : Int) (_ : kzL a1) (a2 : Int) (_ : kzI a2) (a3 : Int) (_ : kzI a3) (a4 : Int) (_ : kzI a4), CRu (Z12_layChosen_21 G k7' a0 a1 a2 a3 a4) (X12_layChosen_21 G k7 a0 (Int64.ofInt a1) (Int32.ofInt a2) (Int32.ofInt a3) (Int32.ofInt a4)) :=
  lp_rel (R := fun (f' : Nat → Int → Int → Int → Int → kzM → Option (Unit × kzM)) (f : Nat → Int64 → Int32 → Int32 → Int32 → kdM → Option (Unit × kdM)) => ∀ (a0 : Nat) (a1 : Int) (_ : kzL a1) (a2 : Int) (_ : kzI a2) (a3 : Int) (_ : kzI a3) (a4 : Int) (_ : kzI a4), CRu (f' a0 a1 a2 a3 a4) (f a0 (Int64.ofInt a1) (Int32.ofInt a2) (Int32.ofInt a3) (Int32.ofInt a4))) (by intros; exact c_no) (fun _ _ hf a0 a1 ha1 a2 ha2 a3 ha3 a4 ha4 => qX12_layChosen_21B hG hk7 hf a0 ha1 ha2 ha3 ha4) NN
def Z12_layChosen_7B (G : kdS) (k7 : Nat → Int → Int → kzM → Option (Unit × kzM)) (l0 : Nat) (l1 : Int) (l3 : Int) : kzM → Option (Unit × kzM) :=
  zgI G 12 6 l0 fun t1 =>
  zcnd (t1 ≤ l3)
  (zrt ())
  (Z12_layChosen_21 G k7 l0 l1 l3 (-1 : Int) (0 : Int))
theorem qX12_layChosen_7B {G : kdS} (hG : kzG G) {k7' : Nat → Int → Int → kzM → Option (Unit × kzM)} {k7 : Nat → Int64 → Int32 → kdM → Option (Unit × kdM)} (hk7 : ∀ (a0 : Nat) (a1 : Int) (_ : kzL a1) (a2 : Int) (_ : kzI a2), CRu (k7' a0 a1 a2) (k7 a0 (Int64.ofInt a1) (Int32.ofInt a2))) (l0 : Nat) {l1 : Int} (hl1 : kzL l1) {l3 : Int} (hl3 : kzI l3) : CRu (Z12_layChosen_7B G k7' l0 l1 l3) (X12_layChosen_7B G k7 l0 (Int64.ofInt l1) (Int32.ofInt l3)) := by
  unfold Z12_layChosen_7B X12_layChosen_7B
  exact c_gI rfl (fun t1 ht1 => c_cnd (kz_le ht1 hl3 rfl rfl) (c_rt trivial rfl) ((qX12_layChosen_21 hG hk7 l0 _ hl1 _ hl3 _ (by unfold kzI; omega) _ (by unfold kzI; omega))))
def Z12_layChosen_7 (G : kdS) : Nat → Int → Int → kzM → Option (Unit × kzM) := lp (fun _ _ _ _ => none) (Z12_layChosen_7B G) NN
theorem qX12_layChosen_7 {G : kdS} (hG : kzG G) : ∀ (a0 : Nat) (a1 : Int) (_ : kzL a1) (a2 : Int) (_ : kzI a2), CRu (Z12_layChosen_7 G a0 a1 a2) (X12_layChosen_7 G a0 (Int64.ofInt a1) (Int32.ofInt a2)) :=
  lp_rel (R := fun (f' : Nat → Int → Int → kzM → Option (Unit × kzM)) (f : Nat → Int64 → Int32 → kdM → Option (Unit × kdM)) => ∀ (a0 : Nat) (a1 : Int) (_ : kzL a1) (a2 : Int) (_ : kzI a2), CRu (f' a0 a1 a2) (f a0 (Int64.ofInt a1) (Int32.ofInt a2))) (by intros; exact c_no) (fun _ _ hf a0 a1 ha1 a2 ha2 => qX12_layChosen_7B hG hf a0 ha1 ha2) NN
def Z12_layChosen (G : kdS) (l0 : Nat) : kzM → Option (Unit × kzM) :=
  zcv G 12 l0 (Z12_findChosen G l0) fun t1 =>
  Z12_layChosen_7 G l0 t1 (0 : Int)
theorem qX12_layChosen {G : kdS} (hG : kzG G) (l0 : Nat) : CRu (Z12_layChosen G l0) (X12_layChosen G l0) := by
  unfold Z12_layChosen X12_layChosen
  exact c_cv (qX12_findChosen hG l0) (fun t1 ht1 => (qX12_layChosen_7 hG l0 _ ht1 _ (by unfold kzI; omega)))
def Z12_chosen (G : kdS) (l0 : Nat) (l1 : Int) : kzM → Option (Int × kzM) :=
  zgI G 12 6 l0 fun t1 =>
  zlI (t1 - (1 : Int)) fun u1 =>
  zcl (Z12_in G l1 (0 : Int) u1) fun t2 =>
  zcnd (t2 = (0 : Int))
  (zrt (-6 : Int))
  (zcv G 12 l0 (Z12_layChosen G l0) fun _ =>
  zgR G 12 47 l0 fun t3 =>
  zaI G t3 l1 fun t4 =>
  zrt t4)
theorem qX12_chosen {G : kdS} (hG : kzG G) (l0 : Nat) {l1 : Int} (hl1 : kzI l1) : CRi (Z12_chosen G l0 l1) (X12_chosen G l0 (Int32.ofInt l1)) := by
  unfold Z12_chosen X12_chosen
  exact c_gI rfl (fun t1 ht1 => c_rg (kz_sub rfl rfl) fun u1 r1 e1 => c_cl ((kz_i2l r1 e1) ▸ ((kz_i2l hl1 rfl) ▸ (qX12_in hG (kzI_L hl1) (show kzL (0 : Int) by unfold kzL; omega) (kzI_L r1)))) (fun t2 ht2 => c_cnd (kz_eq ht2 (by unfold kzI; omega) rfl rfl) (c_rt (by unfold kzI; omega) rfl) (c_cv (qX12_layChosen hG l0) (fun _ _ => c_gR (fun t3 => c_aI hG rfl (fun t4 ht4 => c_rt ht4 rfl))))))
def Z12_product (G : kdS) (l0 : Nat) : kzM → Option (Int × kzM) :=
  zcv G 12 l0 (Z12_findChosen G l0) fun t1 =>
  zrt t1
theorem qX12_product {G : kdS} (hG : kzG G) (l0 : Nat) : CRl (Z12_product G l0) (X12_product G l0) := by
  unfold Z12_product X12_product
  exact c_cv (qX12_findChosen hG l0) (fun t1 ht1 => c_rt ht1 rfl)
def Z12_isHand (G : kdS) (l0 : Int) : kzM → Option (Int × kzM) :=
  zcl (Z12_in G l0 (0 : Int) (3 : Int)) fun t1 =>
  zrt (zB t1)
theorem qX12_isHand {G : kdS} (hG : kzG G) {l0 : Int} (hl0 : kzI l0) : CRi (Z12_isHand G l0) (X12_isHand G (Int32.ofInt l0)) := by
  unfold Z12_isHand X12_isHand
  exact c_cl ((kz_i2l hl0 rfl) ▸ (qX12_in hG (kzI_L hl0) (show kzL (0 : Int) by unfold kzL; omega) (show kzL (3 : Int) by unfold kzL; omega))) (fun t1 ht1 => c_rt (kz_BI _) (kz_B rfl))
def Z12_learn_15 (G : kdS) : kzM → Option (Int × kzM) :=
  zrt (-1 : Int)
theorem qX12_learn_15 {G : kdS} (hG : kzG G) : CRi (Z12_learn_15 G) (X12_learn_15 G) := by
  unfold Z12_learn_15 X12_learn_15
  exact c_rt (by unfold kzI; omega) rfl
def Z12_learn_81 (G : kdS) (k47 : Nat → Int → Int → Int → Int → kzM → Option (Int × kzM)) (l0 : Nat) (l1 : Int) (l2 : Int) (l3 : Int) (l4 : Int) : kzM → Option (Int × kzM) :=
  zlI (l4 + (1 : Int)) fun t1 =>
  k47 l0 l1 l2 l3 t1
theorem qX12_learn_81 {G : kdS} (hG : kzG G) {k47' : Nat → Int → Int → Int → Int → kzM → Option (Int × kzM)} {k47 : Nat → Int32 → Int32 → Int32 → Int32 → kdM → Option (Int32 × kdM)} (hk47 : ∀ (a0 : Nat) (a1 : Int) (_ : kzI a1) (a2 : Int) (_ : kzI a2) (a3 : Int) (_ : kzI a3) (a4 : Int) (_ : kzI a4), CRi (k47' a0 a1 a2 a3 a4) (k47 a0 (Int32.ofInt a1) (Int32.ofInt a2) (Int32.ofInt a3) (Int32.ofInt a4))) (l0 : Nat) {l1 : Int} (hl1 : kzI l1) {l2 : Int} (hl2 : kzI l2) {l3 : Int} (hl3 : kzI l3) {l4 : Int} (hl4 : kzI l4) : CRi (Z12_learn_81 G k47' l0 l1 l2 l3 l4) (X12_learn_81 G k47 l0 (Int32.ofInt l1) (Int32.ofInt l2) (Int32.ofInt l3) (Int32.ofInt l4)) := by
  unfold Z12_learn_81 X12_learn_81
  exact c_lI (kz_add rfl rfl) (fun t1 ht1 => (hk47 l0 _ hl1 _ hl2 _ hl3 _ ht1))
def Z12_learn_47B (G : kdS) (k47 : Nat → Int → Int → Int → Int → kzM → Option (Int × kzM)) (l0 : Nat) (l1 : Int) (l2 : Int) (l3 : Int) (l4 : Int) : kzM → Option (Int × kzM) :=
  zgI G 12 51 l0 fun t1 =>
  zcnd (t1 ≤ l4)
  (zgR G 12 48 l0 fun t2 =>
  zgI G 12 51 l0 fun t3 =>
  ztI G t2 t3 l1 <|
  zgR G 12 49 l0 fun t4 =>
  zgI G 12 51 l0 fun t5 =>
  ztI G t4 t5 l2 <|
  zgR G 12 50 l0 fun t6 =>
  zgI G 12 51 l0 fun t7 =>
  ztI G t6 t7 l3 <|
  zgI G 12 51 l0 fun t8 =>
  zlI (t8 + (1 : Int)) fun u1 =>
  zsI G 12 51 l0 u1 <|
  zgI G 12 51 l0 fun t9 =>
  zrt t9)
  (zgR G 12 48 l0 fun t10 =>
  zaI G t10 l4 fun t11 =>
  zcnd (t11 = l1)
  (zgR G 12 50 l0 fun t12 =>
  zaI G t12 l4 fun t13 =>
  zcnd (t13 ≤ l3)
  (Z12_learn_81 G k47 l0 l1 l2 l3 l4)
  (zrt (-5 : Int)))
  (Z12_learn_81 G k47 l0 l1 l2 l3 l4))
theorem qX12_learn_47B {G : kdS} (hG : kzG G) {k47' : Nat → Int → Int → Int → Int → kzM → Option (Int × kzM)} {k47 : Nat → Int32 → Int32 → Int32 → Int32 → kdM → Option (Int32 × kdM)} (hk47 : ∀ (a0 : Nat) (a1 : Int) (_ : kzI a1) (a2 : Int) (_ : kzI a2) (a3 : Int) (_ : kzI a3) (a4 : Int) (_ : kzI a4), CRi (k47' a0 a1 a2 a3 a4) (k47 a0 (Int32.ofInt a1) (Int32.ofInt a2) (Int32.ofInt a3) (Int32.ofInt a4))) (l0 : Nat) {l1 : Int} (hl1 : kzI l1) {l2 : Int} (hl2 : kzI l2) {l3 : Int} (hl3 : kzI l3) {l4 : Int} (hl4 : kzI l4) : CRi (Z12_learn_47B G k47' l0 l1 l2 l3 l4) (X12_learn_47B G k47 l0 (Int32.ofInt l1) (Int32.ofInt l2) (Int32.ofInt l3) (Int32.ofInt l4)) := by
  unfold Z12_learn_47B X12_learn_47B
  exact c_gI rfl (fun t1 ht1 => c_cnd (kz_le ht1 hl4 rfl rfl) (c_gR (fun t2 => c_gI rfl (fun t3 ht3 => c_tI hG rfl hl1 rfl (c_gR (fun t4 => c_gI rfl (fun t5 ht5 => c_tI hG rfl hl2 rfl (c_gR (fun t6 => c_gI rfl (fun t7 ht7 => c_tI hG rfl hl3 rfl (c_gI rfl (fun t8 ht8 => c_rg (kz_add rfl rfl) fun u1 r1 e1 => c_sI rfl r1 e1 (c_gI rfl (fun t9 ht9 => c_rt ht9 rfl))))))))))))) (c_gR (fun t10 => c_aI hG rfl (fun t11 ht11 => c_cnd (kz_eq ht11 hl1 rfl rfl) (c_gR (fun t12 => c_aI hG rfl (fun t13 ht13 => c_cnd (kz_le ht13 hl3 rfl rfl) ((qX12_learn_81 hG hk47 l0 hl1 hl2 hl3 hl4)) (c_rt (by unfold kzI; omega) rfl)))) ((qX12_learn_81 hG hk47 l0 hl1 hl2 hl3 hl4))))))
def Z12_learn_47 (G : kdS) : Nat → Int → Int → Int → Int → kzM → Option (Int × kzM) := lp (fun _ _ _ _ _ _ => none) (Z12_learn_47B G) NN
theorem qX12_learn_47 {G : kdS} (hG : kzG G) : ∀ (a0 : Nat) (a1 : Int) (_ : kzI a1) (a2 : Int) (_ : kzI a2) (a3 : Int) (_ : kzI a3) (a4 : Int) (_ : kzI a4), CRi (Z12_learn_47 G a0 a1 a2 a3 a4) (X12_learn_47 G a0 (Int32.ofInt a1) (Int32.ofInt a2) (Int32.ofInt a3) (Int32.ofInt a4)) :=
  lp_rel (R := fun (f' : Nat → Int → Int → Int → Int → kzM → Option (Int × kzM)) (f : Nat → Int32 → Int32 → Int32 → Int32 → kdM → Option (Int32 × kdM)) => ∀ (a0 : Nat) (a1 : Int) (_ : kzI a1) (a2 : Int) (_ : kzI a2) (a3 : Int) (_ : kzI a3) (a4 : Int) (_ : kzI a4), CRi (f' a0 a1 a2 a3 a4) (f a0 (Int32.ofInt a1) (Int32.ofInt a2) (Int32.ofInt a3) (Int32.ofInt a4))) (by intros; exact c_no) (fun _ _ hf a0 a1 ha1 a2 ha2 a3 ha3 a4 ha4 => qX12_learn_47B hG hf a0 ha1 ha2 ha3 ha4) NN
def Z12_learn (G : kdS) (l0 : Nat) (l1 : Int) (l2 : Int) (l3 : Int) : kzM → Option (Int × kzM) :=
  zcl (Z12_isHand G l1) fun t1 =>
  zcnd (t1 = (0 : Int))
  (Z12_learn_15 G)
  (zcv G 12 l0 (Z12_isWord G l0 l2) fun t2 =>
  zcnd (t2 = (0 : Int))
  (Z12_learn_15 G)
  (zcl (Z12_in G l3 (0 : Int) (3000 : Int)) fun t3 =>
  zcnd (t3 = (0 : Int))
  (zrt (-2 : Int))
  (zgI G 12 51 l0 fun t4 =>
  zcnd (t4 = (60 : Int))
  (zrt (-4 : Int))
  (Z12_learn_47 G l0 l1 l2 l3 (0 : Int)))))
theorem qX12_learn {G : kdS} (hG : kzG G) (l0 : Nat) {l1 : Int} (hl1 : kzI l1) {l2 : Int} (hl2 : kzI l2) {l3 : Int} (hl3 : kzI l3) : CRi (Z12_learn G l0 l1 l2 l3) (X12_learn G l0 (Int32.ofInt l1) (Int32.ofInt l2) (Int32.ofInt l3)) := by
  unfold Z12_learn X12_learn
  exact c_cl (qX12_isHand hG hl1) (fun t1 ht1 => c_cnd (kz_eq ht1 (by unfold kzI; omega) rfl rfl) ((qX12_learn_15 hG)) (c_cv (qX12_isWord hG l0 hl2) (fun t2 ht2 => c_cnd (kz_eq ht2 (by unfold kzI; omega) rfl rfl) ((qX12_learn_15 hG)) (c_cl ((kz_i2l hl3 rfl) ▸ (qX12_in hG (kzI_L hl3) (show kzL (0 : Int) by unfold kzL; omega) (show kzL (3000 : Int) by unfold kzL; omega))) (fun t3 ht3 => c_cnd (kz_eq ht3 (by unfold kzI; omega) rfl rfl) (c_rt (by unfold kzI; omega) rfl) (c_gI rfl (fun t4 ht4 => c_cnd (kz_eq ht4 (by unfold kzI; omega) rfl rfl) (c_rt (by unfold kzI; omega) rfl) ((qX12_learn_47 hG l0 _ hl1 _ hl2 _ hl3 _ (by unfold kzI; omega))))))))))
def Z12_worth_15 (G : kdS) : kzM → Option (Int × kzM) :=
  zrt (-1 : Int)
theorem qX12_worth_15 {G : kdS} (hG : kzG G) : CRi (Z12_worth_15 G) (X12_worth_15 G) := by
  unfold Z12_worth_15 X12_worth_15
  exact c_rt (by unfold kzI; omega) rfl
def Z12_worth_41 (G : kdS) (s0 : Int) : kzM → Option (Int × kzM) :=
  zrt s0
theorem qX12_worth_41 {G : kdS} (hG : kzG G) {s0 : Int} (hs0 : kzI s0) : CRi (Z12_worth_41 G s0) (X12_worth_41 G (Int32.ofInt s0)) := by
  unfold Z12_worth_41 X12_worth_41
  exact c_rt hs0 rfl
def Z12_worth (G : kdS) (l0 : Nat) (l1 : Int) (l2 : Int) (l3 : Int) : kzM → Option (Int × kzM) :=
  zcl (Z12_isHand G l1) fun t1 =>
  zcnd (t1 = (0 : Int))
  (Z12_worth_15 G)
  (zcv G 12 l0 (Z12_isWord G l0 l2) fun t2 =>
  zcnd (t2 = (0 : Int))
  (Z12_worth_15 G)
  (zcl (Z12_in G l3 (0 : Int) (3000 : Int)) fun t3 =>
  zcnd (t3 = (0 : Int))
  (Z12_worth_41 G (-2 : Int))
  (zcv G 12 l0 (Z12_worthOf G l0 l1 l2 l3) fun t4 =>
  Z12_worth_41 G t4)))
theorem qX12_worth {G : kdS} (hG : kzG G) (l0 : Nat) {l1 : Int} (hl1 : kzI l1) {l2 : Int} (hl2 : kzI l2) {l3 : Int} (hl3 : kzI l3) : CRi (Z12_worth G l0 l1 l2 l3) (X12_worth G l0 (Int32.ofInt l1) (Int32.ofInt l2) (Int32.ofInt l3)) := by
  unfold Z12_worth X12_worth
  exact c_cl (qX12_isHand hG hl1) (fun t1 ht1 => c_cnd (kz_eq ht1 (by unfold kzI; omega) rfl rfl) ((qX12_worth_15 hG)) (c_cv (qX12_isWord hG l0 hl2) (fun t2 ht2 => c_cnd (kz_eq ht2 (by unfold kzI; omega) rfl rfl) ((qX12_worth_15 hG)) (c_cl ((kz_i2l hl3 rfl) ▸ (qX12_in hG (kzI_L hl3) (show kzL (0 : Int) by unfold kzL; omega) (show kzL (3000 : Int) by unfold kzL; omega))) (fun t3 ht3 => c_cnd (kz_eq ht3 (by unfold kzI; omega) rfl rfl) ((qX12_worth_41 hG (by unfold kzI; omega))) (c_cv (qX12_worthOf hG l0 hl1 hl2 hl3) (fun t4 ht4 => (qX12_worth_41 hG ht4))))))))
def Z12_forget_20 (G : kdS) : kzM → Option (Int × kzM) :=
  zrt (-1 : Int)
theorem qX12_forget_20 {G : kdS} (hG : kzG G) : CRi (Z12_forget_20 G) (X12_forget_20 G) := by
  unfold Z12_forget_20 X12_forget_20
  exact c_rt (by unfold kzI; omega) rfl
def Z12_forget_117 (G : kdS) (k27 : Nat → Int → Int → Int → Int → kzM → Option (Int × kzM)) (l0 : Nat) (l1 : Int) (l2 : Int) (l3 : Int) (l4 : Int) : kzM → Option (Int × kzM) :=
  zlI (l4 + (1 : Int)) fun t1 =>
  k27 l0 l1 l2 l3 t1
theorem qX12_forget_117 {G : kdS} (hG : kzG G) {k27' : Nat → Int → Int → Int → Int → kzM → Option (Int × kzM)} {k27 : Nat → Int32 → Int32 → Int32 → Int32 → kdM → Option (Int32 × kdM)} (hk27 : ∀ (a0 : Nat) (a1 : Int) (_ : kzI a1) (a2 : Int) (_ : kzI a2) (a3 : Int) (_ : kzI a3) (a4 : Int) (_ : kzI a4), CRi (k27' a0 a1 a2 a3 a4) (k27 a0 (Int32.ofInt a1) (Int32.ofInt a2) (Int32.ofInt a3) (Int32.ofInt a4))) (l0 : Nat) {l1 : Int} (hl1 : kzI l1) {l2 : Int} (hl2 : kzI l2) {l3 : Int} (hl3 : kzI l3) {l4 : Int} (hl4 : kzI l4) : CRi (Z12_forget_117 G k27' l0 l1 l2 l3 l4) (X12_forget_117 G k27 l0 (Int32.ofInt l1) (Int32.ofInt l2) (Int32.ofInt l3) (Int32.ofInt l4)) := by
  unfold Z12_forget_117 X12_forget_117
  exact c_lI (kz_add rfl rfl) (fun t1 ht1 => (hk27 l0 _ hl1 _ hl2 _ hl3 _ ht1))
def Z12_forget_68 (G : kdS) (k27 : Nat → Int → Int → Int → Int → kzM → Option (Int × kzM)) (l0 : Nat) (l1 : Int) (l2 : Int) (l3 : Int) (l4 : Int) (s0 : Int) : kzM → Option (Int × kzM) :=
  zcnd (s0 = (0 : Int))
  (zgR G 12 48 l0 fun t1 =>
  zgR G 12 48 l0 fun t2 =>
  zaI G t2 l4 fun t3 =>
  ztI G t1 l3 t3 <|
  zgR G 12 49 l0 fun t4 =>
  zgR G 12 49 l0 fun t5 =>
  zaI G t5 l4 fun t6 =>
  ztI G t4 l3 t6 <|
  zgR G 12 50 l0 fun t7 =>
  zgR G 12 50 l0 fun t8 =>
  zaI G t8 l4 fun t9 =>
  ztI G t7 l3 t9 <|
  zlI (l3 + (1 : Int)) fun t10 =>
  Z12_forget_117 G k27 l0 l1 l2 t10 l4)
  (Z12_forget_117 G k27 l0 l1 l2 l3 l4)
theorem qX12_forget_68 {G : kdS} (hG : kzG G) {k27' : Nat → Int → Int → Int → Int → kzM → Option (Int × kzM)} {k27 : Nat → Int32 → Int32 → Int32 → Int32 → kdM → Option (Int32 × kdM)} (hk27 : ∀ (a0 : Nat) (a1 : Int) (_ : kzI a1) (a2 : Int) (_ : kzI a2) (a3 : Int) (_ : kzI a3) (a4 : Int) (_ : kzI a4), CRi (k27' a0 a1 a2 a3 a4) (k27 a0 (Int32.ofInt a1) (Int32.ofInt a2) (Int32.ofInt a3) (Int32.ofInt a4))) (l0 : Nat) {l1 : Int} (hl1 : kzI l1) {l2 : Int} (hl2 : kzI l2) {l3 : Int} (hl3 : kzI l3) {l4 : Int} (hl4 : kzI l4) {s0 : Int} (hs0 : kzI s0) : CRi (Z12_forget_68 G k27' l0 l1 l2 l3 l4 s0) (X12_forget_68 G k27 l0 (Int32.ofInt l1) (Int32.ofInt l2) (Int32.ofInt l3) (Int32.ofInt l4) (Int32.ofInt s0)) := by
  unfold Z12_forget_68 X12_forget_68
  exact c_cnd (kz_eq hs0 (by unfold kzI; omega) rfl rfl) (c_gR (fun t1 => c_gR (fun t2 => c_aI hG rfl (fun t3 ht3 => c_tI hG rfl ht3 rfl (c_gR (fun t4 => c_gR (fun t5 => c_aI hG rfl (fun t6 ht6 => c_tI hG rfl ht6 rfl (c_gR (fun t7 => c_gR (fun t8 => c_aI hG rfl (fun t9 ht9 => c_tI hG rfl ht9 rfl (c_lI (kz_add rfl rfl) (fun t10 ht10 => (qX12_forget_117 hG hk27 l0 hl1 hl2 ht10 hl4))))))))))))))) ((qX12_forget_117 hG hk27 l0 hl1 hl2 hl3 hl4))
def Z12_forget_67 (G : kdS) (k27 : Nat → Int → Int → Int → Int → kzM → Option (Int × kzM)) (l0 : Nat) (l1 : Int) (l2 : Int) (l3 : Int) (l4 : Int) : kzM → Option (Int × kzM) :=
  Z12_forget_68 G k27 l0 l1 l2 l3 l4 (0 : Int)
theorem qX12_forget_67 {G : kdS} (hG : kzG G) {k27' : Nat → Int → Int → Int → Int → kzM → Option (Int × kzM)} {k27 : Nat → Int32 → Int32 → Int32 → Int32 → kdM → Option (Int32 × kdM)} (hk27 : ∀ (a0 : Nat) (a1 : Int) (_ : kzI a1) (a2 : Int) (_ : kzI a2) (a3 : Int) (_ : kzI a3) (a4 : Int) (_ : kzI a4), CRi (k27' a0 a1 a2 a3 a4) (k27 a0 (Int32.ofInt a1) (Int32.ofInt a2) (Int32.ofInt a3) (Int32.ofInt a4))) (l0 : Nat) {l1 : Int} (hl1 : kzI l1) {l2 : Int} (hl2 : kzI l2) {l3 : Int} (hl3 : kzI l3) {l4 : Int} (hl4 : kzI l4) : CRi (Z12_forget_67 G k27' l0 l1 l2 l3 l4) (X12_forget_67 G k27 l0 (Int32.ofInt l1) (Int32.ofInt l2) (Int32.ofInt l3) (Int32.ofInt l4)) := by
  unfold Z12_forget_67 X12_forget_67
  exact (qX12_forget_68 hG hk27 l0 hl1 hl2 hl3 hl4 (by unfold kzI; omega))
def Z12_forget_63 (G : kdS) (k27 : Nat → Int → Int → Int → Int → kzM → Option (Int × kzM)) (l0 : Nat) (l1 : Int) (l2 : Int) (l3 : Int) (l4 : Int) : kzM → Option (Int × kzM) :=
  Z12_forget_68 G k27 l0 l1 l2 l3 l4 (1 : Int)
theorem qX12_forget_63 {G : kdS} (hG : kzG G) {k27' : Nat → Int → Int → Int → Int → kzM → Option (Int × kzM)} {k27 : Nat → Int32 → Int32 → Int32 → Int32 → kdM → Option (Int32 × kdM)} (hk27 : ∀ (a0 : Nat) (a1 : Int) (_ : kzI a1) (a2 : Int) (_ : kzI a2) (a3 : Int) (_ : kzI a3) (a4 : Int) (_ : kzI a4), CRi (k27' a0 a1 a2 a3 a4) (k27 a0 (Int32.ofInt a1) (Int32.ofInt a2) (Int32.ofInt a3) (Int32.ofInt a4))) (l0 : Nat) {l1 : Int} (hl1 : kzI l1) {l2 : Int} (hl2 : kzI l2) {l3 : Int} (hl3 : kzI l3) {l4 : Int} (hl4 : kzI l4) : CRi (Z12_forget_63 G k27' l0 l1 l2 l3 l4) (X12_forget_63 G k27 l0 (Int32.ofInt l1) (Int32.ofInt l2) (Int32.ofInt l3) (Int32.ofInt l4)) := by
  unfold Z12_forget_63 X12_forget_63
  exact (qX12_forget_68 hG hk27 l0 hl1 hl2 hl3 hl4 (by unfold kzI; omega))
def Z12_forget_27B (G : kdS) (k27 : Nat → Int → Int → Int → Int → kzM → Option (Int × kzM)) (l0 : Nat) (l1 : Int) (l2 : Int) (l3 : Int) (l4 : Int) : kzM → Option (Int × kzM) :=
  zgI G 12 51 l0 fun t1 =>
  zcnd (t1 ≤ l4)
  (zgI G 12 51 l0 fun t2 =>
  zlI (t2 - l3) fun t3 =>
  zsI G 12 51 l0 l3 <|
  zrt t3)
  (zgR G 12 48 l0 fun t4 =>
  zaI G t4 l4 fun t5 =>
  zcnd (t5 = l1)
  (zcnd (l2 = (-1 : Int))
  (Z12_forget_63 G k27 l0 l1 l2 l3 l4)
  (zgR G 12 49 l0 fun t6 =>
  zaI G t6 l4 fun t7 =>
  zcnd (t7 = l2)
  (Z12_forget_63 G k27 l0 l1 l2 l3 l4)
  (Z12_forget_67 G k27 l0 l1 l2 l3 l4)))
  (Z12_forget_67 G k27 l0 l1 l2 l3 l4))
theorem qX12_forget_27B {G : kdS} (hG : kzG G) {k27' : Nat → Int → Int → Int → Int → kzM → Option (Int × kzM)} {k27 : Nat → Int32 → Int32 → Int32 → Int32 → kdM → Option (Int32 × kdM)} (hk27 : ∀ (a0 : Nat) (a1 : Int) (_ : kzI a1) (a2 : Int) (_ : kzI a2) (a3 : Int) (_ : kzI a3) (a4 : Int) (_ : kzI a4), CRi (k27' a0 a1 a2 a3 a4) (k27 a0 (Int32.ofInt a1) (Int32.ofInt a2) (Int32.ofInt a3) (Int32.ofInt a4))) (l0 : Nat) {l1 : Int} (hl1 : kzI l1) {l2 : Int} (hl2 : kzI l2) {l3 : Int} (hl3 : kzI l3) {l4 : Int} (hl4 : kzI l4) : CRi (Z12_forget_27B G k27' l0 l1 l2 l3 l4) (X12_forget_27B G k27 l0 (Int32.ofInt l1) (Int32.ofInt l2) (Int32.ofInt l3) (Int32.ofInt l4)) := by
  unfold Z12_forget_27B X12_forget_27B
  exact c_gI rfl (fun t1 ht1 => c_cnd (kz_le ht1 hl4 rfl rfl) (c_gI rfl (fun t2 ht2 => c_lI (kz_sub rfl rfl) (fun t3 ht3 => c_sI rfl hl3 rfl (c_rt ht3 rfl)))) (c_gR (fun t4 => c_aI hG rfl (fun t5 ht5 => c_cnd (kz_eq ht5 hl1 rfl rfl) (c_cnd (kz_eq hl2 (by unfold kzI; omega) rfl rfl) ((qX12_forget_63 hG hk27 l0 hl1 hl2 hl3 hl4)) (c_gR (fun t6 => c_aI hG rfl (fun t7 ht7 => c_cnd (kz_eq ht7 hl2 rfl rfl) ((qX12_forget_63 hG hk27 l0 hl1 hl2 hl3 hl4)) ((qX12_forget_67 hG hk27 l0 hl1 hl2 hl3 hl4)))))) ((qX12_forget_67 hG hk27 l0 hl1 hl2 hl3 hl4))))))
def Z12_forget_27 (G : kdS) : Nat → Int → Int → Int → Int → kzM → Option (Int × kzM) := lp (fun _ _ _ _ _ _ => none) (Z12_forget_27B G) NN
theorem qX12_forget_27 {G : kdS} (hG : kzG G) : ∀ (a0 : Nat) (a1 : Int) (_ : kzI a1) (a2 : Int) (_ : kzI a2) (a3 : Int) (_ : kzI a3) (a4 : Int) (_ : kzI a4), CRi (Z12_forget_27 G a0 a1 a2 a3 a4) (X12_forget_27 G a0 (Int32.ofInt a1) (Int32.ofInt a2) (Int32.ofInt a3) (Int32.ofInt a4)) :=
  lp_rel (R := fun (f' : Nat → Int → Int → Int → Int → kzM → Option (Int × kzM)) (f : Nat → Int32 → Int32 → Int32 → Int32 → kdM → Option (Int32 × kdM)) => ∀ (a0 : Nat) (a1 : Int) (_ : kzI a1) (a2 : Int) (_ : kzI a2) (a3 : Int) (_ : kzI a3) (a4 : Int) (_ : kzI a4), CRi (f' a0 a1 a2 a3 a4) (f a0 (Int32.ofInt a1) (Int32.ofInt a2) (Int32.ofInt a3) (Int32.ofInt a4))) (by intros; exact c_no) (fun _ _ hf a0 a1 ha1 a2 ha2 a3 ha3 a4 ha4 => qX12_forget_27B hG hf a0 ha1 ha2 ha3 ha4) NN
def Z12_forget_22 (G : kdS) (l0 : Nat) (l1 : Int) (l2 : Int) : kzM → Option (Int × kzM) :=
  Z12_forget_27 G l0 l1 l2 (0 : Int) (0 : Int)
theorem qX12_forget_22 {G : kdS} (hG : kzG G) (l0 : Nat) {l1 : Int} (hl1 : kzI l1) {l2 : Int} (hl2 : kzI l2) : CRi (Z12_forget_22 G l0 l1 l2) (X12_forget_22 G l0 (Int32.ofInt l1) (Int32.ofInt l2)) := by
  unfold Z12_forget_22 X12_forget_22
  exact (qX12_forget_27 hG l0 _ hl1 _ hl2 _ (by unfold kzI; omega) _ (by unfold kzI; omega))
def Z12_forget (G : kdS) (l0 : Nat) (l1 : Int) (l2 : Int) : kzM → Option (Int × kzM) :=
  zcl (Z12_isHand G l1) fun t1 =>
  zcnd (t1 = (0 : Int))
  (Z12_forget_20 G)
  (zcnd (l2 = (-1 : Int))
  (Z12_forget_22 G l0 l1 l2)
  (zcv G 12 l0 (Z12_isWord G l0 l2) fun t2 =>
  zcnd (t2 = (0 : Int))
  (Z12_forget_20 G)
  (Z12_forget_22 G l0 l1 l2)))
theorem qX12_forget {G : kdS} (hG : kzG G) (l0 : Nat) {l1 : Int} (hl1 : kzI l1) {l2 : Int} (hl2 : kzI l2) : CRi (Z12_forget G l0 l1 l2) (X12_forget G l0 (Int32.ofInt l1) (Int32.ofInt l2)) := by
  unfold Z12_forget X12_forget
  exact c_cl (qX12_isHand hG hl1) (fun t1 ht1 => c_cnd (kz_eq ht1 (by unfold kzI; omega) rfl rfl) ((qX12_forget_20 hG)) (c_cnd (kz_eq hl2 (by unfold kzI; omega) rfl rfl) ((qX12_forget_22 hG l0 hl1 hl2)) (c_cv (qX12_isWord hG l0 hl2) (fun t2 ht2 => c_cnd (kz_eq ht2 (by unfold kzI; omega) rfl rfl) ((qX12_forget_20 hG)) ((qX12_forget_22 hG l0 hl1 hl2))))))
def Z12_fade (G : kdS) (l0 : Nat) (l1 : Int) : kzM → Option (Int × kzM) :=
  zcl (Z12_in G l1 (0 : Int) (1000 : Int)) fun t1 =>
  zcnd (t1 = (0 : Int))
  (zrt (-2 : Int))
  (zgI G 12 52 l0 fun t2 =>
  zsI G 12 52 l0 l1 <|
  zrt t2)
theorem qX12_fade {G : kdS} (hG : kzG G) (l0 : Nat) {l1 : Int} (hl1 : kzI l1) : CRi (Z12_fade G l0 l1) (X12_fade G l0 (Int32.ofInt l1)) := by
  unfold Z12_fade X12_fade
  exact c_cl ((kz_i2l hl1 rfl) ▸ (qX12_in hG (kzI_L hl1) (show kzL (0 : Int) by unfold kzL; omega) (show kzL (1000 : Int) by unfold kzL; omega))) (fun t1 ht1 => c_cnd (kz_eq ht1 (by unfold kzI; omega) rfl rfl) (c_rt (by unfold kzI; omega) rfl) (c_gI rfl (fun t2 ht2 => c_sI rfl hl1 rfl (c_rt ht2 rfl))))
def Z12_mine_41 (G : kdS) : kzM → Option (Int × kzM) :=
  zrt (-2 : Int)
theorem qX12_mine_41 {G : kdS} (hG : kzG G) : CRi (Z12_mine_41 G) (X12_mine_41 G) := by
  unfold Z12_mine_41 X12_mine_41
  exact c_rt (by unfold kzI; omega) rfl
def Z12_mine_105 (G : kdS) (s0 : Int) : kzM → Option (Int × kzM) :=
  zrt s0
theorem qX12_mine_105 {G : kdS} (hG : kzG G) {s0 : Int} (hs0 : kzI s0) : CRi (Z12_mine_105 G s0) (X12_mine_105 G (Int32.ofInt s0)) := by
  unfold Z12_mine_105 X12_mine_105
  exact c_rt hs0 rfl
def Z12_mine (G : kdS) (l0 : Nat) (l1 : Int) (l2 : Int) (l3 : Int) (l4 : Int) (l5 : Int) : kzM → Option (Int × kzM) :=
  zcl (Z12_isHand G l1) fun t1 =>
  zcnd (t1 = (0 : Int))
  (zrt (-1 : Int))
  (zcl (Z12_in G l2 (0 : Int) (3000 : Int)) fun t2 =>
  zcnd (t2 = (0 : Int))
  (Z12_mine_41 G)
  (zcl (Z12_areTongues G l3) fun t3 =>
  zcnd (t3 = (0 : Int))
  (Z12_mine_41 G)
  (zcl (Z12_in G l4 (0 : Int) (60 : Int)) fun t4 =>
  zcnd (t4 = (0 : Int))
  (Z12_mine_41 G)
  (zgI G 12 1 l0 fun t5 =>
  zcnd (t5 = (0 : Int))
  (zrt (-3 : Int))
  (zcv G 12 l0 (Z12_findGuesses G l0 l1 l2 l3 l4) fun _ =>
  zcnd (l5 = (-1 : Int))
  (zgI G 12 35 l0 fun t6 =>
  Z12_mine_105 G t6)
  (zgI G 12 35 l0 fun t7 =>
  zlI (t7 - (1 : Int)) fun u1 =>
  zcl (Z12_in G l5 (0 : Int) u1) fun t8 =>
  zcnd (t8 = (0 : Int))
  (Z12_mine_105 G (-6 : Int))
  (zgR G 12 32 l0 fun t9 =>
  zaI G t9 l5 fun t10 =>
  Z12_mine_105 G t10)))))))
theorem qX12_mine {G : kdS} (hG : kzG G) (l0 : Nat) {l1 : Int} (hl1 : kzI l1) {l2 : Int} (hl2 : kzI l2) {l3 : Int} (hl3 : kzI l3) {l4 : Int} (hl4 : kzI l4) {l5 : Int} (hl5 : kzI l5) : CRi (Z12_mine G l0 l1 l2 l3 l4 l5) (X12_mine G l0 (Int32.ofInt l1) (Int32.ofInt l2) (Int32.ofInt l3) (Int32.ofInt l4) (Int32.ofInt l5)) := by
  unfold Z12_mine X12_mine
  exact c_cl (qX12_isHand hG hl1) (fun t1 ht1 => c_cnd (kz_eq ht1 (by unfold kzI; omega) rfl rfl) (c_rt (by unfold kzI; omega) rfl) (c_cl ((kz_i2l hl2 rfl) ▸ (qX12_in hG (kzI_L hl2) (show kzL (0 : Int) by unfold kzL; omega) (show kzL (3000 : Int) by unfold kzL; omega))) (fun t2 ht2 => c_cnd (kz_eq ht2 (by unfold kzI; omega) rfl rfl) ((qX12_mine_41 hG)) (c_cl (qX12_areTongues hG hl3) (fun t3 ht3 => c_cnd (kz_eq ht3 (by unfold kzI; omega) rfl rfl) ((qX12_mine_41 hG)) (c_cl ((kz_i2l hl4 rfl) ▸ (qX12_in hG (kzI_L hl4) (show kzL (0 : Int) by unfold kzL; omega) (show kzL (60 : Int) by unfold kzL; omega))) (fun t4 ht4 => c_cnd (kz_eq ht4 (by unfold kzI; omega) rfl rfl) ((qX12_mine_41 hG)) (c_gI rfl (fun t5 ht5 => c_cnd (kz_eq ht5 (by unfold kzI; omega) rfl rfl) (c_rt (by unfold kzI; omega) rfl) (c_cv (qX12_findGuesses hG l0 hl1 hl2 hl3 hl4) (fun _ _ => c_cnd (kz_eq hl5 (by unfold kzI; omega) rfl rfl) (c_gI rfl (fun t6 ht6 => (qX12_mine_105 hG ht6))) (c_gI rfl (fun t7 ht7 => c_rg (kz_sub rfl rfl) fun u1 r1 e1 => c_cl ((kz_i2l r1 e1) ▸ ((kz_i2l hl5 rfl) ▸ (qX12_in hG (kzI_L hl5) (show kzL (0 : Int) by unfold kzL; omega) (kzI_L r1)))) (fun t8 ht8 => c_cnd (kz_eq ht8 (by unfold kzI; omega) rfl rfl) ((qX12_mine_105 hG (by unfold kzI; omega))) (c_gR (fun t9 => c_aI hG rfl (fun t10 ht10 => (qX12_mine_105 hG ht10))))))))))))))))))
def Z12_budget (G : kdS) (l0 : Nat) (l1 : Int) (l2 : Int) : kzM → Option (Int × kzM) :=
  zcl (Z12_isHand G l1) fun t1 =>
  zcnd (t1 = (0 : Int))
  (zrt (-1 : Int))
  (zcl (Z12_in G l2 (0 : Int) (1000 : Int)) fun t2 =>
  zcnd (t2 = (0 : Int))
  (zrt (-2 : Int))
  (zgR G 12 53 l0 fun t3 =>
  zaI G t3 l1 fun t4 =>
  zgR G 12 53 l0 fun t5 =>
  ztI G t5 l1 l2 <|
  zrt t4))
theorem qX12_budget {G : kdS} (hG : kzG G) (l0 : Nat) {l1 : Int} (hl1 : kzI l1) {l2 : Int} (hl2 : kzI l2) : CRi (Z12_budget G l0 l1 l2) (X12_budget G l0 (Int32.ofInt l1) (Int32.ofInt l2)) := by
  unfold Z12_budget X12_budget
  exact c_cl (qX12_isHand hG hl1) (fun t1 ht1 => c_cnd (kz_eq ht1 (by unfold kzI; omega) rfl rfl) (c_rt (by unfold kzI; omega) rfl) (c_cl ((kz_i2l hl2 rfl) ▸ (qX12_in hG (kzI_L hl2) (show kzL (0 : Int) by unfold kzL; omega) (show kzL (1000 : Int) by unfold kzL; omega))) (fun t2 ht2 => c_cnd (kz_eq ht2 (by unfold kzI; omega) rfl rfl) (c_rt (by unfold kzI; omega) rfl) (c_gR (fun t3 => c_aI hG rfl (fun t4 ht4 => c_gR (fun t5 => c_tI hG rfl hl2 rfl (c_rt ht4 rfl))))))))
def Z12_seed (G : kdS) (l0 : Nat) (l1 : Int) : kzM → Option (Int × kzM) :=
  zcl (Z12_in G l1 (1 : Int) (1000000 : Int)) fun t1 =>
  zcnd (t1 = (0 : Int))
  (zrt (-2 : Int))
  (zgI G 12 54 l0 fun t2 =>
  zsI G 12 54 l0 l1 <|
  zrt t2)
theorem qX12_seed {G : kdS} (hG : kzG G) (l0 : Nat) {l1 : Int} (hl1 : kzI l1) : CRi (Z12_seed G l0 l1) (X12_seed G l0 (Int32.ofInt l1)) := by
  unfold Z12_seed X12_seed
  exact c_cl ((kz_i2l hl1 rfl) ▸ (qX12_in hG (kzI_L hl1) (show kzL (1 : Int) by unfold kzL; omega) (show kzL (1000000 : Int) by unfold kzL; omega))) (fun t1 ht1 => c_cnd (kz_eq ht1 (by unfold kzI; omega) rfl rfl) (c_rt (by unfold kzI; omega) rfl) (c_gI rfl (fun t2 ht2 => c_sI rfl hl1 rfl (c_rt ht2 rfl))))
def Z12_share_36 (G : kdS) : kzM → Option (Int × kzM) :=
  zrt (-1000002 : Int)
theorem qX12_share_36 {G : kdS} (hG : kzG G) : CRi (Z12_share_36 G) (X12_share_36 G) := by
  unfold Z12_share_36 X12_share_36
  exact c_rt (by unfold kzI; omega) rfl
def Z12_share_70 (G : kdS) (k46 : Nat → Int → Int → Int → Int → Int → kzM → Option (Int × kzM)) (l0 : Nat) (l1 : Int) (l2 : Int) (l3 : Int) (l5 : Int) (s0 : Int) (s1 : Int) : kzM → Option (Int × kzM) :=
  zlI (s0 + s1) fun t1 =>
  zlI (l5 + (1 : Int)) fun t2 =>
  k46 l0 l1 l2 l3 t1 t2
theorem qX12_share_70 {G : kdS} (hG : kzG G) {k46' : Nat → Int → Int → Int → Int → Int → kzM → Option (Int × kzM)} {k46 : Nat → Int32 → Int32 → Int32 → Int32 → Int32 → kdM → Option (Int32 × kdM)} (hk46 : ∀ (a0 : Nat) (a1 : Int) (_ : kzI a1) (a2 : Int) (_ : kzI a2) (a3 : Int) (_ : kzI a3) (a4 : Int) (_ : kzI a4) (a5 : Int) (_ : kzI a5), CRi (k46' a0 a1 a2 a3 a4 a5) (k46 a0 (Int32.ofInt a1) (Int32.ofInt a2) (Int32.ofInt a3) (Int32.ofInt a4) (Int32.ofInt a5))) (l0 : Nat) {l1 : Int} (hl1 : kzI l1) {l2 : Int} (hl2 : kzI l2) {l3 : Int} (hl3 : kzI l3) {l5 : Int} (hl5 : kzI l5) {s0 : Int} (hs0 : kzI s0) {s1 : Int} (hs1 : kzI s1) : CRi (Z12_share_70 G k46' l0 l1 l2 l3 l5 s0 s1) (X12_share_70 G k46 l0 (Int32.ofInt l1) (Int32.ofInt l2) (Int32.ofInt l3) (Int32.ofInt l5) (Int32.ofInt s0) (Int32.ofInt s1)) := by
  unfold Z12_share_70 X12_share_70
  exact c_lI (kz_add rfl rfl) (fun t1 ht1 => c_lI (kz_add rfl rfl) (fun t2 ht2 => (hk46 l0 _ hl1 _ hl2 _ hl3 _ ht1 _ ht2)))
def Z12_share_142 (G : kdS) (k95 : Nat → Int → Int → Int → Int → Int → kzM → Option (Int × kzM)) (l0 : Nat) (l1 : Int) (l2 : Int) (l3 : Int) (l5 : Int) (l6 : Int) : kzM → Option (Int × kzM) :=
  zlI (l6 + (1 : Int)) fun t1 =>
  k95 l0 l1 l2 l3 l5 t1
theorem qX12_share_142 {G : kdS} (hG : kzG G) {k95' : Nat → Int → Int → Int → Int → Int → kzM → Option (Int × kzM)} {k95 : Nat → Int32 → Int32 → Int32 → Int32 → Int32 → kdM → Option (Int32 × kdM)} (hk95 : ∀ (a0 : Nat) (a1 : Int) (_ : kzI a1) (a2 : Int) (_ : kzI a2) (a3 : Int) (_ : kzI a3) (a4 : Int) (_ : kzI a4) (a5 : Int) (_ : kzI a5), CRi (k95' a0 a1 a2 a3 a4 a5) (k95 a0 (Int32.ofInt a1) (Int32.ofInt a2) (Int32.ofInt a3) (Int32.ofInt a4) (Int32.ofInt a5))) (l0 : Nat) {l1 : Int} (hl1 : kzI l1) {l2 : Int} (hl2 : kzI l2) {l3 : Int} (hl3 : kzI l3) {l5 : Int} (hl5 : kzI l5) {l6 : Int} (hl6 : kzI l6) : CRi (Z12_share_142 G k95' l0 l1 l2 l3 l5 l6) (X12_share_142 G k95 l0 (Int32.ofInt l1) (Int32.ofInt l2) (Int32.ofInt l3) (Int32.ofInt l5) (Int32.ofInt l6)) := by
  unfold Z12_share_142 X12_share_142
  exact c_lI (kz_add rfl rfl) (fun t1 ht1 => (hk95 l0 _ hl1 _ hl2 _ hl3 _ hl5 _ ht1))
def Z12_share_95B (G : kdS) (k95 : Nat → Int → Int → Int → Int → Int → kzM → Option (Int × kzM)) (l0 : Nat) (l1 : Int) (l2 : Int) (l3 : Int) (l5 : Int) (l6 : Int) : kzM → Option (Int × kzM) :=
  zcnd ((4 : Int) ≤ l6)
  (zgI G 12 54 l0 fun t1 =>
  znz (2147483647 : Int) <|
  zlL (t1 * (16807 : Int)) fun u1 =>
  zlI (Int.tmod u1 (2147483647 : Int)) fun u2 =>
  zsI G 12 54 l0 u2 <|
  zgI G 12 54 l0 fun t2 =>
  znz (2001 : Int) <|
  znz l2 <|
  zlI (((Int.tmod t2 (2001 : Int)) - (1000 : Int)) * (100 : Int)) fun u3 =>
  zlI (l5 + (u3.tdiv l2)) fun u4 =>
  zrt u4)
  (zgR G 12 53 l0 fun t3 =>
  zaI G t3 l6 fun t4 =>
  zcnd (t4 < l2)
  (Z12_share_142 G k95 l0 l1 l2 l3 l5 l6)
  (zcv G 12 l0 (Z12_worthOf G l0 l6 l1 l3) fun t5 =>
  zcl (Z12_lesser G (5000 : Int) t5) fun t6 =>
  zlI (l5 + t6) fun t7 =>
  zgR G 12 53 l0 fun t8 =>
  zaI G t8 l6 fun t9 =>
  zlI (t9 - l2) fun u5 =>
  ztI G t8 l6 u5 <|
  Z12_share_142 G k95 l0 l1 l2 l3 t7 l6))
theorem qX12_share_95B {G : kdS} (hG : kzG G) {k95' : Nat → Int → Int → Int → Int → Int → kzM → Option (Int × kzM)} {k95 : Nat → Int32 → Int32 → Int32 → Int32 → Int32 → kdM → Option (Int32 × kdM)} (hk95 : ∀ (a0 : Nat) (a1 : Int) (_ : kzI a1) (a2 : Int) (_ : kzI a2) (a3 : Int) (_ : kzI a3) (a4 : Int) (_ : kzI a4) (a5 : Int) (_ : kzI a5), CRi (k95' a0 a1 a2 a3 a4 a5) (k95 a0 (Int32.ofInt a1) (Int32.ofInt a2) (Int32.ofInt a3) (Int32.ofInt a4) (Int32.ofInt a5))) (l0 : Nat) {l1 : Int} (hl1 : kzI l1) {l2 : Int} (hl2 : kzI l2) {l3 : Int} (hl3 : kzI l3) {l5 : Int} (hl5 : kzI l5) {l6 : Int} (hl6 : kzI l6) : CRi (Z12_share_95B G k95' l0 l1 l2 l3 l5 l6) (X12_share_95B G k95 l0 (Int32.ofInt l1) (Int32.ofInt l2) (Int32.ofInt l3) (Int32.ofInt l5) (Int32.ofInt l6)) := by
  unfold Z12_share_95B X12_share_95B
  exact c_cnd (kz_le (by unfold kzI; omega) hl6 rfl rfl) (c_gI rfl (fun t1 ht1 => c_nzL (show kzL (2147483647 : Int) by unfold kzL; omega) rfl (c_rgL (kzL_mul (kz_i2l ht1 rfl) rfl) fun u1 r1 e1 => c_rg (kz_l2i (kzL_rem r1 (show kzL (2147483647 : Int) by unfold kzL; omega) e1 rfl)) fun u2 r2 e2 => c_sI rfl r2 e2 (c_gI rfl (fun t2 ht2 => c_nz (by unfold kzI; omega) rfl (c_nz hl2 rfl (c_rg (kz_mul (kz_sub (kz_rem ht2 (by unfold kzI; omega) rfl rfl) rfl) rfl) fun u3 r3 e3 => c_rg (kz_add rfl (kz_div r3 hl2 e3 rfl)) fun u4 r4 e4 => c_rt r4 e4))))))) (c_gR (fun t3 => c_aI hG rfl (fun t4 ht4 => c_cnd (kz_lt ht4 hl2 rfl rfl) ((qX12_share_142 hG hk95 l0 hl1 hl2 hl3 hl5 hl6)) (c_cv (qX12_worthOf hG l0 hl6 hl1 hl3) (fun t5 ht5 => c_cl (qX12_lesser hG (by unfold kzI; omega) ht5) (fun t6 ht6 => c_lI (kz_add rfl rfl) (fun t7 ht7 => c_gR (fun t8 => c_aI hG rfl (fun t9 ht9 => c_rg (kz_sub rfl rfl) fun u5 r5 e5 => c_tI hG rfl r5 e5 ((qX12_share_142 hG hk95 l0 hl1 hl2 hl3 ht7 hl6)))))))))))
def Z12_share_95 (G : kdS) : Nat → Int → Int → Int → Int → Int → kzM → Option (Int × kzM) := lp (fun _ _ _ _ _ _ _ => none) (Z12_share_95B G) NN
theorem qX12_share_95 {G : kdS} (hG : kzG G) : ∀ (a0 : Nat) (a1 : Int) (_ : kzI a1) (a2 : Int) (_ : kzI a2) (a3 : Int) (_ : kzI a3) (a4 : Int) (_ : kzI a4) (a5 : Int) (_ : kzI a5), CRi (Z12_share_95 G a0 a1 a2 a3 a4 a5) (X12_share_95 G a0 (Int32.ofInt a1) (Int32.ofInt a2) (Int32.ofInt a3) (Int32.ofInt a4) (Int32.ofInt a5)) :=
  lp_rel (R := fun (f' : Nat → Int → Int → Int → Int → Int → kzM → Option (Int × kzM)) (f : Nat → Int32 → Int32 → Int32 → Int32 → Int32 → kdM → Option (Int32 × kdM)) => ∀ (a0 : Nat) (a1 : Int) (_ : kzI a1) (a2 : Int) (_ : kzI a2) (a3 : Int) (_ : kzI a3) (a4 : Int) (_ : kzI a4) (a5 : Int) (_ : kzI a5), CRi (f' a0 a1 a2 a3 a4 a5) (f a0 (Int32.ofInt a1) (Int32.ofInt a2) (Int32.ofInt a3) (Int32.ofInt a4) (Int32.ofInt a5))) (by intros; exact c_no) (fun _ _ hf a0 a1 ha1 a2 ha2 a3 ha3 a4 ha4 a5 ha5 => qX12_share_95B hG hf a0 ha1 ha2 ha3 ha4 ha5) NN
def Z12_share_46B (G : kdS) (k46 : Nat → Int → Int → Int → Int → Int → kzM → Option (Int × kzM)) (l0 : Nat) (l1 : Int) (l2 : Int) (l3 : Int) (l4 : Int) (l5 : Int) : kzM → Option (Int × kzM) :=
  zcnd ((4 : Int) ≤ l5)
  (zcnd ((2 : Int) ≤ l4)
  (Z12_share_95 G l0 l1 l2 l3 (0 : Int) (0 : Int))
  (zrt (-1000005 : Int)))
  (zgR G 12 53 l0 fun t1 =>
  zaI G t1 l5 fun t2 =>
  zcnd (t2 < l2)
  (Z12_share_70 G k46 l0 l1 l2 l3 l5 l4 (0 : Int))
  (Z12_share_70 G k46 l0 l1 l2 l3 l5 l4 (1 : Int)))
theorem qX12_share_46B {G : kdS} (hG : kzG G) {k46' : Nat → Int → Int → Int → Int → Int → kzM → Option (Int × kzM)} {k46 : Nat → Int32 → Int32 → Int32 → Int32 → Int32 → kdM → Option (Int32 × kdM)} (hk46 : ∀ (a0 : Nat) (a1 : Int) (_ : kzI a1) (a2 : Int) (_ : kzI a2) (a3 : Int) (_ : kzI a3) (a4 : Int) (_ : kzI a4) (a5 : Int) (_ : kzI a5), CRi (k46' a0 a1 a2 a3 a4 a5) (k46 a0 (Int32.ofInt a1) (Int32.ofInt a2) (Int32.ofInt a3) (Int32.ofInt a4) (Int32.ofInt a5))) (l0 : Nat) {l1 : Int} (hl1 : kzI l1) {l2 : Int} (hl2 : kzI l2) {l3 : Int} (hl3 : kzI l3) {l4 : Int} (hl4 : kzI l4) {l5 : Int} (hl5 : kzI l5) : CRi (Z12_share_46B G k46' l0 l1 l2 l3 l4 l5) (X12_share_46B G k46 l0 (Int32.ofInt l1) (Int32.ofInt l2) (Int32.ofInt l3) (Int32.ofInt l4) (Int32.ofInt l5)) := by
  unfold Z12_share_46B X12_share_46B
  exact c_cnd (kz_le (by unfold kzI; omega) hl5 rfl rfl) (c_cnd (kz_le (by unfold kzI; omega) hl4 rfl rfl) ((qX12_share_95 hG l0 _ hl1 _ hl2 _ hl3 _ (by unfold kzI; omega) _ (by unfold kzI; omega))) (c_rt (by unfold kzI; omega) rfl)) (c_gR (fun t1 => c_aI hG rfl (fun t2 ht2 => c_cnd (kz_lt ht2 hl2 rfl rfl) ((qX12_share_70 hG hk46 l0 hl1 hl2 hl3 hl5 hl4 (by unfold kzI; omega))) ((qX12_share_70 hG hk46 l0 hl1 hl2 hl3 hl5 hl4 (by unfold kzI; omega))))))
def Z12_share_46 (G : kdS) : Nat → Int → Int → Int → Int → Int → kzM → Option (Int × kzM) := lp (fun _ _ _ _ _ _ _ => none) (Z12_share_46B G) NN
theorem qX12_share_46 {G : kdS} (hG : kzG G) : ∀ (a0 : Nat) (a1 : Int) (_ : kzI a1) (a2 : Int) (_ : kzI a2) (a3 : Int) (_ : kzI a3) (a4 : Int) (_ : kzI a4) (a5 : Int) (_ : kzI a5), CRi (Z12_share_46 G a0 a1 a2 a3 a4 a5) (X12_share_46 G a0 (Int32.ofInt a1) (Int32.ofInt a2) (Int32.ofInt a3) (Int32.ofInt a4) (Int32.ofInt a5)) :=
  lp_rel (R := fun (f' : Nat → Int → Int → Int → Int → Int → kzM → Option (Int × kzM)) (f : Nat → Int32 → Int32 → Int32 → Int32 → Int32 → kdM → Option (Int32 × kdM)) => ∀ (a0 : Nat) (a1 : Int) (_ : kzI a1) (a2 : Int) (_ : kzI a2) (a3 : Int) (_ : kzI a3) (a4 : Int) (_ : kzI a4) (a5 : Int) (_ : kzI a5), CRi (f' a0 a1 a2 a3 a4 a5) (f a0 (Int32.ofInt a1) (Int32.ofInt a2) (Int32.ofInt a3) (Int32.ofInt a4) (Int32.ofInt a5))) (by intros; exact c_no) (fun _ _ hf a0 a1 ha1 a2 ha2 a3 ha3 a4 ha4 a5 ha5 => qX12_share_46B hG hf a0 ha1 ha2 ha3 ha4 ha5) NN
def Z12_share (G : kdS) (l0 : Nat) (l1 : Int) (l2 : Int) (l3 : Int) : kzM → Option (Int × kzM) :=
  zcv G 12 l0 (Z12_isWord G l0 l1) fun t1 =>
  zcnd (t1 = (0 : Int))
  (zrt (-1000001 : Int))
  (zcl (Z12_in G l2 (1 : Int) (100 : Int)) fun t2 =>
  zcnd (t2 = (0 : Int))
  (Z12_share_36 G)
  (zcl (Z12_in G l3 (0 : Int) (3000 : Int)) fun t3 =>
  zcnd (t3 = (0 : Int))
  (Z12_share_36 G)
  (Z12_share_46 G l0 l1 l2 l3 (0 : Int) (0 : Int))))
theorem qX12_share {G : kdS} (hG : kzG G) (l0 : Nat) {l1 : Int} (hl1 : kzI l1) {l2 : Int} (hl2 : kzI l2) {l3 : Int} (hl3 : kzI l3) : CRi (Z12_share G l0 l1 l2 l3) (X12_share G l0 (Int32.ofInt l1) (Int32.ofInt l2) (Int32.ofInt l3)) := by
  unfold Z12_share X12_share
  exact c_cv (qX12_isWord hG l0 hl1) (fun t1 ht1 => c_cnd (kz_eq ht1 (by unfold kzI; omega) rfl rfl) (c_rt (by unfold kzI; omega) rfl) (c_cl ((kz_i2l hl2 rfl) ▸ (qX12_in hG (kzI_L hl2) (show kzL (1 : Int) by unfold kzL; omega) (show kzL (100 : Int) by unfold kzL; omega))) (fun t2 ht2 => c_cnd (kz_eq ht2 (by unfold kzI; omega) rfl rfl) ((qX12_share_36 hG)) (c_cl ((kz_i2l hl3 rfl) ▸ (qX12_in hG (kzI_L hl3) (show kzL (0 : Int) by unfold kzL; omega) (show kzL (3000 : Int) by unfold kzL; omega))) (fun t3 ht3 => c_cnd (kz_eq ht3 (by unfold kzI; omega) rfl rfl) ((qX12_share_36 hG)) ((qX12_share_46 hG l0 _ hl1 _ hl2 _ hl3 _ (by unfold kzI; omega) _ (by unfold kzI; omega))))))))
def Z12_clearLayout_42B (G : kdS) (k42 : Nat → Int → kzM → Option (Unit × kzM)) (l0 : Nat) (l2 : Int) : kzM → Option (Unit × kzM) :=
  zcnd ((49 : Int) ≤ l2)
  (zrt ())
  (zgR G 12 59 l0 fun t1 =>
  ztI G t1 l2 (0 : Int) <|
  zlI (l2 + (1 : Int)) fun t2 =>
  k42 l0 t2)
theorem qX12_clearLayout_42B {G : kdS} (hG : kzG G) {k42' : Nat → Int → kzM → Option (Unit × kzM)} {k42 : Nat → Int32 → kdM → Option (Unit × kdM)} (hk42 : ∀ (a0 : Nat) (a1 : Int) (_ : kzI a1), CRu (k42' a0 a1) (k42 a0 (Int32.ofInt a1))) (l0 : Nat) {l2 : Int} (hl2 : kzI l2) : CRu (Z12_clearLayout_42B G k42' l0 l2) (X12_clearLayout_42B G k42 l0 (Int32.ofInt l2)) := by
  unfold Z12_clearLayout_42B X12_clearLayout_42B
  exact c_cnd (kz_le (by unfold kzI; omega) hl2 rfl rfl) (c_rt trivial rfl) (c_gR (fun t1 => c_tI hG rfl (by unfold kzI; omega) rfl (c_lI (kz_add rfl rfl) (fun t2 ht2 => (hk42 l0 _ ht2)))))
def Z12_clearLayout_42 (G : kdS) : Nat → Int → kzM → Option (Unit × kzM) := lp (fun _ _ _ => none) (Z12_clearLayout_42B G) NN
theorem qX12_clearLayout_42 {G : kdS} (hG : kzG G) : ∀ (a0 : Nat) (a1 : Int) (_ : kzI a1), CRu (Z12_clearLayout_42 G a0 a1) (X12_clearLayout_42 G a0 (Int32.ofInt a1)) :=
  lp_rel (R := fun (f' : Nat → Int → kzM → Option (Unit × kzM)) (f : Nat → Int32 → kdM → Option (Unit × kdM)) => ∀ (a0 : Nat) (a1 : Int) (_ : kzI a1), CRu (f' a0 a1) (f a0 (Int32.ofInt a1))) (by intros; exact c_no) (fun _ _ hf a0 a1 ha1 => qX12_clearLayout_42B hG hf a0 ha1) NN
def Z12_clearLayout_7B (G : kdS) (k7 : Nat → Int → kzM → Option (Unit × kzM)) (l0 : Nat) (l2 : Int) : kzM → Option (Unit × kzM) :=
  zcnd ((7 : Int) ≤ l2)
  (Z12_clearLayout_42 G l0 (0 : Int))
  (zgR G 12 56 l0 fun t1 =>
  ztI G t1 l2 (1 : Int) <|
  zgR G 12 57 l0 fun t2 =>
  ztI G t2 l2 (0 : Int) <|
  zgR G 12 58 l0 fun t3 =>
  ztI G t3 l2 (0 : Int) <|
  zlI (l2 + (1 : Int)) fun t4 =>
  k7 l0 t4)
theorem qX12_clearLayout_7B {G : kdS} (hG : kzG G) {k7' : Nat → Int → kzM → Option (Unit × kzM)} {k7 : Nat → Int32 → kdM → Option (Unit × kdM)} (hk7 : ∀ (a0 : Nat) (a1 : Int) (_ : kzI a1), CRu (k7' a0 a1) (k7 a0 (Int32.ofInt a1))) (l0 : Nat) {l2 : Int} (hl2 : kzI l2) : CRu (Z12_clearLayout_7B G k7' l0 l2) (X12_clearLayout_7B G k7 l0 (Int32.ofInt l2)) := by
  unfold Z12_clearLayout_7B X12_clearLayout_7B
  exact c_cnd (kz_le (by unfold kzI; omega) hl2 rfl rfl) ((qX12_clearLayout_42 hG l0 _ (by unfold kzI; omega))) (c_gR (fun t1 => c_tI hG rfl (by unfold kzI; omega) rfl (c_gR (fun t2 => c_tI hG rfl (by unfold kzI; omega) rfl (c_gR (fun t3 => c_tI hG rfl (by unfold kzI; omega) rfl (c_lI (kz_add rfl rfl) (fun t4 ht4 => (hk7 l0 _ ht4)))))))))
def Z12_clearLayout_7 (G : kdS) : Nat → Int → kzM → Option (Unit × kzM) := lp (fun _ _ _ => none) (Z12_clearLayout_7B G) NN
theorem qX12_clearLayout_7 {G : kdS} (hG : kzG G) : ∀ (a0 : Nat) (a1 : Int) (_ : kzI a1), CRu (Z12_clearLayout_7 G a0 a1) (X12_clearLayout_7 G a0 (Int32.ofInt a1)) :=
  lp_rel (R := fun (f' : Nat → Int → kzM → Option (Unit × kzM)) (f : Nat → Int32 → kdM → Option (Unit × kdM)) => ∀ (a0 : Nat) (a1 : Int) (_ : kzI a1), CRu (f' a0 a1) (f a0 (Int32.ofInt a1))) (by intros; exact c_no) (fun _ _ hf a0 a1 ha1 => qX12_clearLayout_7B hG hf a0 ha1) NN
def Z12_clearLayout (G : kdS) (l0 : Nat) (l1 : Int) : kzM → Option (Unit × kzM) :=
  zsI G 12 55 l0 l1 <|
  Z12_clearLayout_7 G l0 (0 : Int)
theorem qX12_clearLayout {G : kdS} (hG : kzG G) (l0 : Nat) {l1 : Int} (hl1 : kzI l1) : CRu (Z12_clearLayout G l0 l1) (X12_clearLayout G l0 (Int32.ofInt l1)) := by
  unfold Z12_clearLayout X12_clearLayout
  exact c_sI rfl hl1 rfl ((qX12_clearLayout_7 hG l0 _ (by unfold kzI; omega)))
def Z12_symbols (G : kdS) (l0 : Nat) (l1 : Int) : kzM → Option (Int × kzM) :=
  zcl (Z12_in G l1 (2 : Int) (7 : Int)) fun t1 =>
  zcnd (t1 = (0 : Int))
  (zrt (-2 : Int))
  (zgI G 12 55 l0 fun t2 =>
  zcv G 12 l0 (Z12_clearLayout G l0 l1) fun _ =>
  zrt t2)
theorem qX12_symbols {G : kdS} (hG : kzG G) (l0 : Nat) {l1 : Int} (hl1 : kzI l1) : CRi (Z12_symbols G l0 l1) (X12_symbols G l0 (Int32.ofInt l1)) := by
  unfold Z12_symbols X12_symbols
  exact c_cl ((kz_i2l hl1 rfl) ▸ (qX12_in hG (kzI_L hl1) (show kzL (2 : Int) by unfold kzL; omega) (show kzL (7 : Int) by unfold kzL; omega))) (fun t1 ht1 => c_cnd (kz_eq ht1 (by unfold kzI; omega) rfl rfl) (c_rt (by unfold kzI; omega) rfl) (c_gI rfl (fun t2 ht2 => c_cv (qX12_clearLayout hG l0 hl1) (fun _ _ => c_rt ht2 rfl))))
def Z12_isSymbol (G : kdS) (l0 : Nat) (l1 : Int) : kzM → Option (Int × kzM) :=
  zgI G 12 55 l0 fun t1 =>
  zlI (t1 - (1 : Int)) fun u1 =>
  zcl (Z12_in G l1 (0 : Int) u1) fun t2 =>
  zrt (zB t2)
theorem qX12_isSymbol {G : kdS} (hG : kzG G) (l0 : Nat) {l1 : Int} (hl1 : kzI l1) : CRi (Z12_isSymbol G l0 l1) (X12_isSymbol G l0 (Int32.ofInt l1)) := by
  unfold Z12_isSymbol X12_isSymbol
  exact c_gI rfl (fun t1 ht1 => c_rg (kz_sub rfl rfl) fun u1 r1 e1 => c_cl ((kz_i2l r1 e1) ▸ ((kz_i2l hl1 rfl) ▸ (qX12_in hG (kzI_L hl1) (show kzL (0 : Int) by unfold kzL; omega) (kzI_L r1)))) (fun t2 ht2 => c_rt (kz_BI _) (kz_B rfl)))
def Z12_set_55 (G : kdS) : kzM → Option (Int × kzM) :=
  zrt (-2 : Int)
theorem qX12_set_55 {G : kdS} (hG : kzG G) : CRi (Z12_set_55 G) (X12_set_55 G) := by
  unfold Z12_set_55 X12_set_55
  exact c_rt (by unfold kzI; omega) rfl
def Z12_set_129 (G : kdS) (l4 : Int) : kzM → Option (Int × kzM) :=
  zrt l4
theorem qX12_set_129 {G : kdS} (hG : kzG G) {l4 : Int} (hl4 : kzI l4) : CRi (Z12_set_129 G l4) (X12_set_129 G (Int32.ofInt l4)) := by
  unfold Z12_set_129 X12_set_129
  exact c_rt hl4 rfl
def Z12_set_91 (G : kdS) (l0 : Nat) (l1 : Int) (l2 : Int) (l3 : Int) (s0 : Int) : kzM → Option (Int × kzM) :=
  zcnd (l1 = (0 : Int))
  (zgR G 12 56 l0 fun t1 =>
  ztI G t1 l2 l3 <|
  Z12_set_129 G s0)
  (zcnd (l1 = (1 : Int))
  (zgR G 12 57 l0 fun t2 =>
  ztI G t2 l2 l3 <|
  Z12_set_129 G s0)
  (zgR G 12 58 l0 fun t3 =>
  ztI G t3 l2 l3 <|
  Z12_set_129 G s0))
theorem qX12_set_91 {G : kdS} (hG : kzG G) (l0 : Nat) {l1 : Int} (hl1 : kzI l1) {l2 : Int} (hl2 : kzI l2) {l3 : Int} (hl3 : kzI l3) {s0 : Int} (hs0 : kzI s0) : CRi (Z12_set_91 G l0 l1 l2 l3 s0) (X12_set_91 G l0 (Int32.ofInt l1) (Int32.ofInt l2) (Int32.ofInt l3) (Int32.ofInt s0)) := by
  unfold Z12_set_91 X12_set_91
  exact c_cnd (kz_eq hl1 (by unfold kzI; omega) rfl rfl) (c_gR (fun t1 => c_tI hG rfl hl3 rfl ((qX12_set_129 hG hs0)))) (c_cnd (kz_eq hl1 (by unfold kzI; omega) rfl rfl) (c_gR (fun t2 => c_tI hG rfl hl3 rfl ((qX12_set_129 hG hs0)))) (c_gR (fun t3 => c_tI hG rfl hl3 rfl ((qX12_set_129 hG hs0)))))
def Z12_set_49 (G : kdS) (l0 : Nat) (l1 : Int) (l2 : Int) (l3 : Int) (s0 : Int) (s1 : Int) (s2 : Int) : kzM → Option (Int × kzM) :=
  zcl (Z12_in G s0 s1 s2) fun t1 =>
  zcnd (t1 = (0 : Int))
  (Z12_set_55 G)
  (zcnd (l1 = (0 : Int))
  (zgR G 12 56 l0 fun t2 =>
  zaI G t2 l2 fun t3 =>
  Z12_set_91 G l0 l1 l2 l3 t3)
  (zcnd (l1 = (1 : Int))
  (zgR G 12 57 l0 fun t4 =>
  zaI G t4 l2 fun t5 =>
  Z12_set_91 G l0 l1 l2 l3 t5)
  (zgR G 12 58 l0 fun t6 =>
  zaI G t6 l2 fun t7 =>
  Z12_set_91 G l0 l1 l2 l3 t7)))
theorem qX12_set_49 {G : kdS} (hG : kzG G) (l0 : Nat) {l1 : Int} (hl1 : kzI l1) {l2 : Int} (hl2 : kzI l2) {l3 : Int} (hl3 : kzI l3) {s0 : Int} (hs0 : kzL s0) {s1 : Int} (hs1 : kzL s1) {s2 : Int} (hs2 : kzL s2) : CRi (Z12_set_49 G l0 l1 l2 l3 s0 s1 s2) (X12_set_49 G l0 (Int32.ofInt l1) (Int32.ofInt l2) (Int32.ofInt l3) (Int64.ofInt s0) (Int64.ofInt s1) (Int64.ofInt s2)) := by
  unfold Z12_set_49 X12_set_49
  exact c_cl (qX12_in hG hs0 hs1 hs2) (fun t1 ht1 => c_cnd (kz_eq ht1 (by unfold kzI; omega) rfl rfl) ((qX12_set_55 hG)) (c_cnd (kz_eq hl1 (by unfold kzI; omega) rfl rfl) (c_gR (fun t2 => c_aI hG rfl (fun t3 ht3 => (qX12_set_91 hG l0 hl1 hl2 hl3 ht3)))) (c_cnd (kz_eq hl1 (by unfold kzI; omega) rfl rfl) (c_gR (fun t4 => c_aI hG rfl (fun t5 ht5 => (qX12_set_91 hG l0 hl1 hl2 hl3 ht5)))) (c_gR (fun t6 => c_aI hG rfl (fun t7 ht7 => (qX12_set_91 hG l0 hl1 hl2 hl3 ht7)))))))
def Z12_set (G : kdS) (l0 : Nat) (l1 : Int) (l2 : Int) (l3 : Int) : kzM → Option (Int × kzM) :=
  zcv G 12 l0 (Z12_isSymbol G l0 l2) fun t1 =>
  zcnd (t1 = (0 : Int))
  (zrt (-1 : Int))
  (zcl (Z12_in G l1 (0 : Int) (2 : Int)) fun t2 =>
  zcnd (t2 = (0 : Int))
  (Z12_set_55 G)
  (zcnd (l1 = (0 : Int))
  (Z12_set_49 G l0 l1 l2 l3 l3 (0 : Int) (20 : Int))
  (zcnd (l1 = (1 : Int))
  (Z12_set_49 G l0 l1 l2 l3 l3 (0 : Int) (4 : Int))
  (Z12_set_49 G l0 l1 l2 l3 l3 (0 : Int) (99 : Int)))))
theorem qX12_set {G : kdS} (hG : kzG G) (l0 : Nat) {l1 : Int} (hl1 : kzI l1) {l2 : Int} (hl2 : kzI l2) {l3 : Int} (hl3 : kzI l3) : CRi (Z12_set G l0 l1 l2 l3) (X12_set G l0 (Int32.ofInt l1) (Int32.ofInt l2) (Int32.ofInt l3)) := by
  unfold Z12_set X12_set
  exact c_cv (qX12_isSymbol hG l0 hl2) (fun t1 ht1 => c_cnd (kz_eq ht1 (by unfold kzI; omega) rfl rfl) (c_rt (by unfold kzI; omega) rfl) (c_cl ((kz_i2l hl1 rfl) ▸ (qX12_in hG (kzI_L hl1) (show kzL (0 : Int) by unfold kzL; omega) (show kzL (2 : Int) by unfold kzL; omega))) (fun t2 ht2 => c_cnd (kz_eq ht2 (by unfold kzI; omega) rfl rfl) ((qX12_set_55 hG)) (c_cnd (kz_eq hl1 (by unfold kzI; omega) rfl rfl) (((kz_i2l hl3 rfl) ▸ (qX12_set_49 hG l0 hl1 hl2 hl3 (kzI_L hl3) (show kzL (0 : Int) by unfold kzL; omega) (show kzL (20 : Int) by unfold kzL; omega)))) (c_cnd (kz_eq hl1 (by unfold kzI; omega) rfl rfl) (((kz_i2l hl3 rfl) ▸ (qX12_set_49 hG l0 hl1 hl2 hl3 (kzI_L hl3) (show kzL (0 : Int) by unfold kzL; omega) (show kzL (4 : Int) by unfold kzL; omega)))) (((kz_i2l hl3 rfl) ▸ (qX12_set_49 hG l0 hl1 hl2 hl3 (kzI_L hl3) (show kzL (0 : Int) by unfold kzL; omega) (show kzL (99 : Int) by unfold kzL; omega)))))))))
def Z12_pair_16 (G : kdS) : kzM → Option (Int × kzM) :=
  zrt (-1 : Int)
theorem qX12_pair_16 {G : kdS} (hG : kzG G) : CRi (Z12_pair_16 G) (X12_pair_16 G) := by
  unfold Z12_pair_16 X12_pair_16
  exact c_rt (by unfold kzI; omega) rfl
def Z12_pair (G : kdS) (l0 : Nat) (l1 : Int) (l2 : Int) (l3 : Int) : kzM → Option (Int × kzM) :=
  zcv G 12 l0 (Z12_isSymbol G l0 l1) fun t1 =>
  zcnd (t1 = (0 : Int))
  (Z12_pair_16 G)
  (zcv G 12 l0 (Z12_isSymbol G l0 l2) fun t2 =>
  zcnd (t2 = (0 : Int))
  (Z12_pair_16 G)
  (zcl (Z12_in G l3 (0 : Int) (50 : Int)) fun t3 =>
  zcnd (t3 = (0 : Int))
  (zrt (-2 : Int))
  (zgR G 12 59 l0 fun t4 =>
  zaI G t4 (((7 : Int) * l1) + l2) fun t5 =>
  zgR G 12 59 l0 fun t6 =>
  ztI G t6 (((7 : Int) * l1) + l2) l3 <|
  zrt t5)))
theorem qX12_pair {G : kdS} (hG : kzG G) (l0 : Nat) {l1 : Int} (hl1 : kzI l1) {l2 : Int} (hl2 : kzI l2) {l3 : Int} (hl3 : kzI l3) : CRi (Z12_pair G l0 l1 l2 l3) (X12_pair G l0 (Int32.ofInt l1) (Int32.ofInt l2) (Int32.ofInt l3)) := by
  unfold Z12_pair X12_pair
  exact c_cv (qX12_isSymbol hG l0 hl1) (fun t1 ht1 => c_cnd (kz_eq ht1 (by unfold kzI; omega) rfl rfl) ((qX12_pair_16 hG)) (c_cv (qX12_isSymbol hG l0 hl2) (fun t2 ht2 => c_cnd (kz_eq ht2 (by unfold kzI; omega) rfl rfl) ((qX12_pair_16 hG)) (c_cl ((kz_i2l hl3 rfl) ▸ (qX12_in hG (kzI_L hl3) (show kzL (0 : Int) by unfold kzL; omega) (show kzL (50 : Int) by unfold kzL; omega))) (fun t3 ht3 => c_cnd (kz_eq ht3 (by unfold kzI; omega) rfl rfl) (c_rt (by unfold kzI; omega) rfl) (c_gR (fun t4 => c_aI hG (kz_add (kz_mul rfl rfl) rfl) (fun t5 ht5 => c_gR (fun t6 => c_tI hG (kz_add (kz_mul rfl rfl) rfl) hl3 rfl (c_rt ht5 rfl))))))))))
def Z12_same (G : kdS) (l0 : Nat) (l1 : Int) : kzM → Option (Int × kzM) :=
  zcl (Z12_in G l1 (0 : Int) (20 : Int)) fun t1 =>
  zcnd (t1 = (0 : Int))
  (zrt (-2 : Int))
  (zgI G 12 60 l0 fun t2 =>
  zsI G 12 60 l0 l1 <|
  zrt t2)
theorem qX12_same {G : kdS} (hG : kzG G) (l0 : Nat) {l1 : Int} (hl1 : kzI l1) : CRi (Z12_same G l0 l1) (X12_same G l0 (Int32.ofInt l1)) := by
  unfold Z12_same X12_same
  exact c_cl ((kz_i2l hl1 rfl) ▸ (qX12_in hG (kzI_L hl1) (show kzL (0 : Int) by unfold kzL; omega) (show kzL (20 : Int) by unfold kzL; omega))) (fun t1 ht1 => c_cnd (kz_eq ht1 (by unfold kzI; omega) rfl rfl) (c_rt (by unfold kzI; omega) rfl) (c_gI rfl (fun t2 ht2 => c_sI rfl hl1 rfl (c_rt ht2 rfl))))
def Z12_lay_90 (G : kdS) : kzM → Option (Int × kzM) :=
  zrt (zB (0 : Int))
theorem qX12_lay_90 {G : kdS} (hG : kzG G) : CRi (Z12_lay_90 G) (X12_lay_90 G) := by
  unfold Z12_lay_90 X12_lay_90
  exact c_rt (kz_BI _) (kz_B rfl)
def Z12_lay_119 (G : kdS) (s0 : Int) : kzM → Option (Int × kzM) :=
  zrt (zB s0)
theorem qX12_lay_119 {G : kdS} (hG : kzG G) {s0 : Int} (hs0 : kzI s0) : CRi (Z12_lay_119 G s0) (X12_lay_119 G (Int32.ofInt s0)) := by
  unfold Z12_lay_119 X12_lay_119
  exact c_rt (kz_BI _) (kz_B rfl)
def Z12_lay_52B (G : kdS) (k52 : Nat → Int → Int → Int → kzM → Option (Int × kzM)) (l0 : Nat) (l2 : Int) (l3 : Int) (l4 : Int) : kzM → Option (Int × kzM) :=
  zgI G 12 55 l0 fun t1 =>
  zcnd (t1 ≤ l4)
  (zcnd (l2 = (0 : Int))
  (Z12_lay_119 G (1 : Int))
  (Z12_lay_119 G (0 : Int)))
  (zgR G 12 61 l0 fun t2 =>
  zaI G t2 l4 fun t3 =>
  zcv G 12 l0 (Z12_isSymbol G l0 t3) fun t4 =>
  zcnd (t4 = (0 : Int))
  (Z12_lay_90 G)
  (zgR G 12 61 l0 fun t5 =>
  zaI G t5 l4 fun t6 =>
  zcnd ((zand (zshr l3 t6) (1 : Int)) = (1 : Int))
  (Z12_lay_90 G)
  (zgR G 12 61 l0 fun t7 =>
  zaI G t7 l4 fun t8 =>
  zlI (zor l3 (zshl (1 : Int) t8)) fun t9 =>
  zlI (l4 + (1 : Int)) fun t10 =>
  k52 l0 l2 t9 t10)))
theorem qX12_lay_52B {G : kdS} (hG : kzG G) {k52' : Nat → Int → Int → Int → kzM → Option (Int × kzM)} {k52 : Nat → Int32 → Int32 → Int32 → kdM → Option (Int32 × kdM)} (hk52 : ∀ (a0 : Nat) (a1 : Int) (_ : kzI a1) (a2 : Int) (_ : kzI a2) (a3 : Int) (_ : kzI a3), CRi (k52' a0 a1 a2 a3) (k52 a0 (Int32.ofInt a1) (Int32.ofInt a2) (Int32.ofInt a3))) (l0 : Nat) {l2 : Int} (hl2 : kzI l2) {l3 : Int} (hl3 : kzI l3) {l4 : Int} (hl4 : kzI l4) : CRi (Z12_lay_52B G k52' l0 l2 l3 l4) (X12_lay_52B G k52 l0 (Int32.ofInt l2) (Int32.ofInt l3) (Int32.ofInt l4)) := by
  unfold Z12_lay_52B X12_lay_52B
  exact c_gI rfl (fun t1 ht1 => c_cnd (kz_le ht1 hl4 rfl rfl) (c_cnd (kz_eq hl2 (by unfold kzI; omega) rfl rfl) ((qX12_lay_119 hG (by unfold kzI; omega))) ((qX12_lay_119 hG (by unfold kzI; omega)))) (c_gR (fun t2 => c_aI hG rfl (fun t3 ht3 => c_cv (qX12_isSymbol hG l0 ht3) (fun t4 ht4 => c_cnd (kz_eq ht4 (by unfold kzI; omega) rfl rfl) ((qX12_lay_90 hG)) (c_gR (fun t5 => c_aI hG rfl (fun t6 ht6 => c_cnd (kz_eq (kzI_of _) (by unfold kzI; omega) (kz_and (kz_shr rfl rfl) rfl) rfl) ((qX12_lay_90 hG)) (c_gR (fun t7 => c_aI hG rfl (fun t8 ht8 => c_lI (kz_or rfl (kz_shl rfl rfl)) (fun t9 ht9 => c_lI (kz_add rfl rfl) (fun t10 ht10 => (hk52 l0 _ hl2 _ ht9 _ ht10))))))))))))))
def Z12_lay_52 (G : kdS) : Nat → Int → Int → Int → kzM → Option (Int × kzM) := lp (fun _ _ _ _ _ => none) (Z12_lay_52B G) NN
theorem qX12_lay_52 {G : kdS} (hG : kzG G) : ∀ (a0 : Nat) (a1 : Int) (_ : kzI a1) (a2 : Int) (_ : kzI a2) (a3 : Int) (_ : kzI a3), CRi (Z12_lay_52 G a0 a1 a2 a3) (X12_lay_52 G a0 (Int32.ofInt a1) (Int32.ofInt a2) (Int32.ofInt a3)) :=
  lp_rel (R := fun (f' : Nat → Int → Int → Int → kzM → Option (Int × kzM)) (f : Nat → Int32 → Int32 → Int32 → kdM → Option (Int32 × kdM)) => ∀ (a0 : Nat) (a1 : Int) (_ : kzI a1) (a2 : Int) (_ : kzI a2) (a3 : Int) (_ : kzI a3), CRi (f' a0 a1 a2 a3) (f a0 (Int32.ofInt a1) (Int32.ofInt a2) (Int32.ofInt a3))) (by intros; exact c_no) (fun _ _ hf a0 a1 ha1 a2 ha2 a3 ha3 => qX12_lay_52B hG hf a0 ha1 ha2 ha3) NN
def Z12_lay_22B (G : kdS) (k22 : Nat → Int → Int → Int → kzM → Option (Int × kzM)) (l0 : Nat) (l2 : Int) (l3 : Int) (l4 : Int) : kzM → Option (Int × kzM) :=
  zcnd (l4 < (0 : Int))
  (Z12_lay_52 G l0 l2 l3 (0 : Int))
  (zgR G 12 61 l0 fun t1 =>
  znz (10 : Int) <|
  zlI (Int.tmod l2 (10 : Int)) fun u1 =>
  ztI G t1 l4 u1 <|
  znz (10 : Int) <|
  zlI (l2.tdiv (10 : Int)) fun t2 =>
  zlI (l4 + (-1 : Int)) fun t3 =>
  k22 l0 t2 l3 t3)
theorem qX12_lay_22B {G : kdS} (hG : kzG G) {k22' : Nat → Int → Int → Int → kzM → Option (Int × kzM)} {k22 : Nat → Int32 → Int32 → Int32 → kdM → Option (Int32 × kdM)} (hk22 : ∀ (a0 : Nat) (a1 : Int) (_ : kzI a1) (a2 : Int) (_ : kzI a2) (a3 : Int) (_ : kzI a3), CRi (k22' a0 a1 a2 a3) (k22 a0 (Int32.ofInt a1) (Int32.ofInt a2) (Int32.ofInt a3))) (l0 : Nat) {l2 : Int} (hl2 : kzI l2) {l3 : Int} (hl3 : kzI l3) {l4 : Int} (hl4 : kzI l4) : CRi (Z12_lay_22B G k22' l0 l2 l3 l4) (X12_lay_22B G k22 l0 (Int32.ofInt l2) (Int32.ofInt l3) (Int32.ofInt l4)) := by
  unfold Z12_lay_22B X12_lay_22B
  exact c_cnd (kz_lt hl4 (by unfold kzI; omega) rfl rfl) ((qX12_lay_52 hG l0 _ hl2 _ hl3 _ (by unfold kzI; omega))) (c_gR (fun t1 => c_nz (by unfold kzI; omega) rfl (c_rg (kz_rem hl2 (by unfold kzI; omega) rfl rfl) fun u1 r1 e1 => c_tI hG rfl r1 e1 (c_nz (by unfold kzI; omega) rfl (c_lI (kz_div hl2 (by unfold kzI; omega) rfl rfl) (fun t2 ht2 => c_lI (kz_add rfl rfl) (fun t3 ht3 => (hk22 l0 _ ht2 _ hl3 _ ht3))))))))
def Z12_lay_22 (G : kdS) : Nat → Int → Int → Int → kzM → Option (Int × kzM) := lp (fun _ _ _ _ _ => none) (Z12_lay_22B G) NN
theorem qX12_lay_22 {G : kdS} (hG : kzG G) : ∀ (a0 : Nat) (a1 : Int) (_ : kzI a1) (a2 : Int) (_ : kzI a2) (a3 : Int) (_ : kzI a3), CRi (Z12_lay_22 G a0 a1 a2 a3) (X12_lay_22 G a0 (Int32.ofInt a1) (Int32.ofInt a2) (Int32.ofInt a3)) :=
  lp_rel (R := fun (f' : Nat → Int → Int → Int → kzM → Option (Int × kzM)) (f : Nat → Int32 → Int32 → Int32 → kdM → Option (Int32 × kdM)) => ∀ (a0 : Nat) (a1 : Int) (_ : kzI a1) (a2 : Int) (_ : kzI a2) (a3 : Int) (_ : kzI a3), CRi (f' a0 a1 a2 a3) (f a0 (Int32.ofInt a1) (Int32.ofInt a2) (Int32.ofInt a3))) (by intros; exact c_no) (fun _ _ hf a0 a1 ha1 a2 ha2 a3 ha3 => qX12_lay_22B hG hf a0 ha1 ha2 ha3) NN
def Z12_lay_11 (G : kdS) (l0 : Nat) (s0 : Int) : kzM → Option (Int × kzM) :=
  zgI G 12 55 l0 fun t1 =>
  zlI (t1 - (1 : Int)) fun t2 =>
  Z12_lay_22 G l0 s0 (0 : Int) t2
theorem qX12_lay_11 {G : kdS} (hG : kzG G) (l0 : Nat) {s0 : Int} (hs0 : kzI s0) : CRi (Z12_lay_11 G l0 s0) (X12_lay_11 G l0 (Int32.ofInt s0)) := by
  unfold Z12_lay_11 X12_lay_11
  exact c_gI rfl (fun t1 ht1 => c_lI (kz_sub rfl rfl) (fun t2 ht2 => (qX12_lay_22 hG l0 _ hs0 _ (by unfold kzI; omega) _ ht2)))
def Z12_lay (G : kdS) (l0 : Nat) (l1 : Int) : kzM → Option (Int × kzM) :=
  zcnd ((0 : Int) ≤ l1)
  (Z12_lay_11 G l0 l1)
  (Z12_lay_11 G l0 (99999999 : Int))
theorem qX12_lay {G : kdS} (hG : kzG G) (l0 : Nat) {l1 : Int} (hl1 : kzI l1) : CRi (Z12_lay G l0 l1) (X12_lay G l0 (Int32.ofInt l1)) := by
  unfold Z12_lay X12_lay
  exact c_cnd (kz_le (by unfold kzI; omega) hl1 rfl rfl) ((qX12_lay_11 hG l0 hl1)) ((qX12_lay_11 hG l0 (by unfold kzI; omega)))
def Z12_digits_4B (G : kdS) (k4 : Nat → Int → Int → kzM → Option (Int × kzM)) (l0 : Nat) (l1 : Int) (l2 : Int) : kzM → Option (Int × kzM) :=
  zgI G 12 55 l0 fun t1 =>
  zcnd (t1 ≤ l2)
  (zrt l1)
  (zgR G 12 61 l0 fun t2 =>
  zaI G t2 l2 fun t3 =>
  zlI (((10 : Int) * l1) + t3) fun t4 =>
  zlI (l2 + (1 : Int)) fun t5 =>
  k4 l0 t4 t5)
theorem qX12_digits_4B {G : kdS} (hG : kzG G) {k4' : Nat → Int → Int → kzM → Option (Int × kzM)} {k4 : Nat → Int32 → Int32 → kdM → Option (Int32 × kdM)} (hk4 : ∀ (a0 : Nat) (a1 : Int) (_ : kzI a1) (a2 : Int) (_ : kzI a2), CRi (k4' a0 a1 a2) (k4 a0 (Int32.ofInt a1) (Int32.ofInt a2))) (l0 : Nat) {l1 : Int} (hl1 : kzI l1) {l2 : Int} (hl2 : kzI l2) : CRi (Z12_digits_4B G k4' l0 l1 l2) (X12_digits_4B G k4 l0 (Int32.ofInt l1) (Int32.ofInt l2)) := by
  unfold Z12_digits_4B X12_digits_4B
  exact c_gI rfl (fun t1 ht1 => c_cnd (kz_le ht1 hl2 rfl rfl) (c_rt hl1 rfl) (c_gR (fun t2 => c_aI hG rfl (fun t3 ht3 => c_lI (kz_add (kz_mul rfl rfl) rfl) (fun t4 ht4 => c_lI (kz_add rfl rfl) (fun t5 ht5 => (hk4 l0 _ ht4 _ ht5)))))))
def Z12_digits_4 (G : kdS) : Nat → Int → Int → kzM → Option (Int × kzM) := lp (fun _ _ _ _ => none) (Z12_digits_4B G) NN
theorem qX12_digits_4 {G : kdS} (hG : kzG G) : ∀ (a0 : Nat) (a1 : Int) (_ : kzI a1) (a2 : Int) (_ : kzI a2), CRi (Z12_digits_4 G a0 a1 a2) (X12_digits_4 G a0 (Int32.ofInt a1) (Int32.ofInt a2)) :=
  lp_rel (R := fun (f' : Nat → Int → Int → kzM → Option (Int × kzM)) (f : Nat → Int32 → Int32 → kdM → Option (Int32 × kdM)) => ∀ (a0 : Nat) (a1 : Int) (_ : kzI a1) (a2 : Int) (_ : kzI a2), CRi (f' a0 a1 a2) (f a0 (Int32.ofInt a1) (Int32.ofInt a2))) (by intros; exact c_no) (fun _ _ hf a0 a1 ha1 a2 ha2 => qX12_digits_4B hG hf a0 ha1 ha2) NN
def Z12_digits (G : kdS) (l0 : Nat) : kzM → Option (Int × kzM) :=
  Z12_digits_4 G l0 (0 : Int) (0 : Int)
theorem qX12_digits {G : kdS} (hG : kzG G) (l0 : Nat) : CRi (Z12_digits G l0) (X12_digits G l0) := by
  unfold Z12_digits X12_digits
  exact (qX12_digits_4 hG l0 _ (by unfold kzI; omega) _ (by unfold kzI; omega))
def Z12_costOf_119 (G : kdS) (k4 : Nat → Int → Int → kzM → Option (Int × kzM)) (k35 : Nat → Int → Int → Int → kzM → Option (Int × kzM)) (l0 : Nat) (l2 : Int) (l3 : Int) (s0 : Int) (s1 : Int) : kzM → Option (Int × kzM) :=
  zlI (s0 + s1) fun t1 =>
  zlI (l3 + (1 : Int)) fun t2 =>
  k35 l0 t1 l2 t2
theorem qX12_costOf_119 {G : kdS} (hG : kzG G) {k4' : Nat → Int → Int → kzM → Option (Int × kzM)} {k4 : Nat → Int32 → Int32 → kdM → Option (Int32 × kdM)} (hk4 : ∀ (a0 : Nat) (a1 : Int) (_ : kzI a1) (a2 : Int) (_ : kzI a2), CRi (k4' a0 a1 a2) (k4 a0 (Int32.ofInt a1) (Int32.ofInt a2))) {k35' : Nat → Int → Int → Int → kzM → Option (Int × kzM)} {k35 : Nat → Int32 → Int32 → Int32 → kdM → Option (Int32 × kdM)} (hk35 : ∀ (a0 : Nat) (a1 : Int) (_ : kzI a1) (a2 : Int) (_ : kzI a2) (a3 : Int) (_ : kzI a3), CRi (k35' a0 a1 a2 a3) (k35 a0 (Int32.ofInt a1) (Int32.ofInt a2) (Int32.ofInt a3))) (l0 : Nat) {l2 : Int} (hl2 : kzI l2) {l3 : Int} (hl3 : kzI l3) {s0 : Int} (hs0 : kzI s0) {s1 : Int} (hs1 : kzI s1) : CRi (Z12_costOf_119 G k4' k35' l0 l2 l3 s0 s1) (X12_costOf_119 G k4 k35 l0 (Int32.ofInt l2) (Int32.ofInt l3) (Int32.ofInt s0) (Int32.ofInt s1)) := by
  unfold Z12_costOf_119 X12_costOf_119
  exact c_lI (kz_add rfl rfl) (fun t1 ht1 => c_lI (kz_add rfl rfl) (fun t2 ht2 => (hk35 l0 _ ht1 _ hl2 _ ht2)))
def Z12_costOf_92 (G : kdS) (k4 : Nat → Int → Int → kzM → Option (Int × kzM)) (k35 : Nat → Int → Int → Int → kzM → Option (Int × kzM)) (l0 : Nat) (l1 : Int) (l2 : Int) (l3 : Int) (s0 : Int) (s1 : Int) : kzM → Option (Int × kzM) :=
  zlI (s0 + s1) fun t1 =>
  zcnd (l2 = l3)
  (Z12_costOf_119 G k4 k35 l0 l2 l3 l1 (0 : Int))
  (zgR G 12 59 l0 fun t2 =>
  zaI G t2 (((7 : Int) * l2) + l3) fun t3 =>
  zlI (t3 * t1) fun u1 =>
  Z12_costOf_119 G k4 k35 l0 l2 l3 l1 u1)
theorem qX12_costOf_92 {G : kdS} (hG : kzG G) {k4' : Nat → Int → Int → kzM → Option (Int × kzM)} {k4 : Nat → Int32 → Int32 → kdM → Option (Int32 × kdM)} (hk4 : ∀ (a0 : Nat) (a1 : Int) (_ : kzI a1) (a2 : Int) (_ : kzI a2), CRi (k4' a0 a1 a2) (k4 a0 (Int32.ofInt a1) (Int32.ofInt a2))) {k35' : Nat → Int → Int → Int → kzM → Option (Int × kzM)} {k35 : Nat → Int32 → Int32 → Int32 → kdM → Option (Int32 × kdM)} (hk35 : ∀ (a0 : Nat) (a1 : Int) (_ : kzI a1) (a2 : Int) (_ : kzI a2) (a3 : Int) (_ : kzI a3), CRi (k35' a0 a1 a2 a3) (k35 a0 (Int32.ofInt a1) (Int32.ofInt a2) (Int32.ofInt a3))) (l0 : Nat) {l1 : Int} (hl1 : kzI l1) {l2 : Int} (hl2 : kzI l2) {l3 : Int} (hl3 : kzI l3) {s0 : Int} (hs0 : kzI s0) {s1 : Int} (hs1 : kzI s1) : CRi (Z12_costOf_92 G k4' k35' l0 l1 l2 l3 s0 s1) (X12_costOf_92 G k4 k35 l0 (Int32.ofInt l1) (Int32.ofInt l2) (Int32.ofInt l3) (Int32.ofInt s0) (Int32.ofInt s1)) := by
  unfold Z12_costOf_92 X12_costOf_92
  exact c_lI (kz_add rfl rfl) (fun t1 ht1 => c_cnd (kz_eq hl2 hl3 rfl rfl) ((qX12_costOf_119 hG hk4 hk35 l0 hl2 hl3 hl1 (by unfold kzI; omega))) (c_gR (fun t2 => c_aI hG (kz_add (kz_mul rfl rfl) rfl) (fun t3 ht3 => c_rg (kz_mul rfl rfl) fun u1 r1 e1 => (e1 ▸ (qX12_costOf_119 hG hk4 hk35 l0 hl2 hl3 hl1 r1))))))
def Z12_costOf_35B (G : kdS) (k4 : Nat → Int → Int → kzM → Option (Int × kzM)) (k35 : Nat → Int → Int → Int → kzM → Option (Int × kzM)) (l0 : Nat) (l1 : Int) (l2 : Int) (l3 : Int) : kzM → Option (Int × kzM) :=
  zgI G 12 55 l0 fun t1 =>
  zcnd (t1 ≤ l3)
  (zlI (l2 + (1 : Int)) fun t2 =>
  k4 l0 l1 t2)
  (zgR G 12 61 l0 fun t3 =>
  zaI G t3 l2 fun t4 =>
  zgR G 12 61 l0 fun t5 =>
  zaI G t5 l3 fun t6 =>
  zlI (t4 - t6) fun u1 =>
  zcl (Z12_size G u1) fun t7 =>
  zgR G 12 57 l0 fun t8 =>
  zgR G 12 61 l0 fun t9 =>
  zaI G t9 l2 fun t10 =>
  zaI G t8 t10 fun t11 =>
  zgR G 12 57 l0 fun t12 =>
  zgR G 12 61 l0 fun t13 =>
  zaI G t13 l3 fun t14 =>
  zaI G t12 t14 fun t15 =>
  zcnd (t11 = t15)
  (zgI G 12 60 l0 fun t16 =>
  Z12_costOf_92 G k4 k35 l0 l1 l2 l3 t7 t16)
  (Z12_costOf_92 G k4 k35 l0 l1 l2 l3 t7 (0 : Int)))
theorem qX12_costOf_35B {G : kdS} (hG : kzG G) {k4' : Nat → Int → Int → kzM → Option (Int × kzM)} {k4 : Nat → Int32 → Int32 → kdM → Option (Int32 × kdM)} (hk4 : ∀ (a0 : Nat) (a1 : Int) (_ : kzI a1) (a2 : Int) (_ : kzI a2), CRi (k4' a0 a1 a2) (k4 a0 (Int32.ofInt a1) (Int32.ofInt a2))) {k35' : Nat → Int → Int → Int → kzM → Option (Int × kzM)} {k35 : Nat → Int32 → Int32 → Int32 → kdM → Option (Int32 × kdM)} (hk35 : ∀ (a0 : Nat) (a1 : Int) (_ : kzI a1) (a2 : Int) (_ : kzI a2) (a3 : Int) (_ : kzI a3), CRi (k35' a0 a1 a2 a3) (k35 a0 (Int32.ofInt a1) (Int32.ofInt a2) (Int32.ofInt a3))) (l0 : Nat) {l1 : Int} (hl1 : kzI l1) {l2 : Int} (hl2 : kzI l2) {l3 : Int} (hl3 : kzI l3) : CRi (Z12_costOf_35B G k4' k35' l0 l1 l2 l3) (X12_costOf_35B G k4 k35 l0 (Int32.ofInt l1) (Int32.ofInt l2) (Int32.ofInt l3)) := by
  unfold Z12_costOf_35B X12_costOf_35B
  exact c_gI rfl (fun t1 ht1 => c_cnd (kz_le ht1 hl3 rfl rfl) (c_lI (kz_add rfl rfl) (fun t2 ht2 => (hk4 l0 _ hl1 _ ht2))) (c_gR (fun t3 => c_aI hG rfl (fun t4 ht4 => c_gR (fun t5 => c_aI hG rfl (fun t6 ht6 => c_rg (kz_sub rfl rfl) fun u1 r1 e1 => c_cl (e1 ▸ (qX12_size hG r1)) (fun t7 ht7 => c_gR (fun t8 => c_gR (fun t9 => c_aI hG rfl (fun t10 ht10 => c_aI hG rfl (fun t11 ht11 => c_gR (fun t12 => c_gR (fun t13 => c_aI hG rfl (fun t14 ht14 => c_aI hG rfl (fun t15 ht15 => c_cnd (kz_eq ht11 ht15 rfl rfl) (c_gI rfl (fun t16 ht16 => (qX12_costOf_92 hG hk4 hk35 l0 hl1 hl2 hl3 ht7 ht16))) ((qX12_costOf_92 hG hk4 hk35 l0 hl1 hl2 hl3 ht7 (by unfold kzI; omega))))))))))))))))))
def Z12_costOf_35 (G : kdS) (k4 : Nat → Int → Int → kzM → Option (Int × kzM)) : Nat → Int → Int → Int → kzM → Option (Int × kzM) := lp (fun _ _ _ _ _ => none) (Z12_costOf_35B G k4) NN
theorem qX12_costOf_35 {G : kdS} (hG : kzG G) {k4' : Nat → Int → Int → kzM → Option (Int × kzM)} {k4 : Nat → Int32 → Int32 → kdM → Option (Int32 × kdM)} (hk4 : ∀ (a0 : Nat) (a1 : Int) (_ : kzI a1) (a2 : Int) (_ : kzI a2), CRi (k4' a0 a1 a2) (k4 a0 (Int32.ofInt a1) (Int32.ofInt a2))) : ∀ (a0 : Nat) (a1 : Int) (_ : kzI a1) (a2 : Int) (_ : kzI a2) (a3 : Int) (_ : kzI a3), CRi (Z12_costOf_35 G k4' a0 a1 a2 a3) (X12_costOf_35 G k4 a0 (Int32.ofInt a1) (Int32.ofInt a2) (Int32.ofInt a3)) :=
  lp_rel (R := fun (f' : Nat → Int → Int → Int → kzM → Option (Int × kzM)) (f : Nat → Int32 → Int32 → Int32 → kdM → Option (Int32 × kdM)) => ∀ (a0 : Nat) (a1 : Int) (_ : kzI a1) (a2 : Int) (_ : kzI a2) (a3 : Int) (_ : kzI a3), CRi (f' a0 a1 a2 a3) (f a0 (Int32.ofInt a1) (Int32.ofInt a2) (Int32.ofInt a3))) (by intros; exact c_no) (fun _ _ hf a0 a1 ha1 a2 ha2 a3 ha3 => qX12_costOf_35B hG hk4 hf a0 ha1 ha2 ha3) NN
def Z12_costOf_4B (G : kdS) (k4 : Nat → Int → Int → kzM → Option (Int × kzM)) (l0 : Nat) (l1 : Int) (l2 : Int) : kzM → Option (Int × kzM) :=
  zgI G 12 55 l0 fun t1 =>
  zcnd (t1 ≤ l2)
  (zrt l1)
  (zgR G 12 58 l0 fun t2 =>
  zaI G t2 l2 fun t3 =>
  zgR G 12 56 l0 fun t4 =>
  zgR G 12 61 l0 fun t5 =>
  zaI G t5 l2 fun t6 =>
  zaI G t4 t6 fun t7 =>
  zlI (l1 + (t3 * t7)) fun t8 =>
  Z12_costOf_35 G k4 l0 t8 l2 (0 : Int))
theorem qX12_costOf_4B {G : kdS} (hG : kzG G) {k4' : Nat → Int → Int → kzM → Option (Int × kzM)} {k4 : Nat → Int32 → Int32 → kdM → Option (Int32 × kdM)} (hk4 : ∀ (a0 : Nat) (a1 : Int) (_ : kzI a1) (a2 : Int) (_ : kzI a2), CRi (k4' a0 a1 a2) (k4 a0 (Int32.ofInt a1) (Int32.ofInt a2))) (l0 : Nat) {l1 : Int} (hl1 : kzI l1) {l2 : Int} (hl2 : kzI l2) : CRi (Z12_costOf_4B G k4' l0 l1 l2) (X12_costOf_4B G k4 l0 (Int32.ofInt l1) (Int32.ofInt l2)) := by
  unfold Z12_costOf_4B X12_costOf_4B
  exact c_gI rfl (fun t1 ht1 => c_cnd (kz_le ht1 hl2 rfl rfl) (c_rt hl1 rfl) (c_gR (fun t2 => c_aI hG rfl (fun t3 ht3 => c_gR (fun t4 => c_gR (fun t5 => c_aI hG rfl (fun t6 ht6 => c_aI hG rfl (fun t7 ht7 => c_lI (kz_add rfl (kz_mul rfl rfl)) (fun t8 ht8 => (qX12_costOf_35 hG hk4 l0 _ ht8 _ hl2 _ (by unfold kzI; omega)))))))))))
def Z12_costOf_4 (G : kdS) : Nat → Int → Int → kzM → Option (Int × kzM) := lp (fun _ _ _ _ => none) (Z12_costOf_4B G) NN
theorem qX12_costOf_4 {G : kdS} (hG : kzG G) : ∀ (a0 : Nat) (a1 : Int) (_ : kzI a1) (a2 : Int) (_ : kzI a2), CRi (Z12_costOf_4 G a0 a1 a2) (X12_costOf_4 G a0 (Int32.ofInt a1) (Int32.ofInt a2)) :=
  lp_rel (R := fun (f' : Nat → Int → Int → kzM → Option (Int × kzM)) (f : Nat → Int32 → Int32 → kdM → Option (Int32 × kdM)) => ∀ (a0 : Nat) (a1 : Int) (_ : kzI a1) (a2 : Int) (_ : kzI a2), CRi (f' a0 a1 a2) (f a0 (Int32.ofInt a1) (Int32.ofInt a2))) (by intros; exact c_no) (fun _ _ hf a0 a1 ha1 a2 ha2 => qX12_costOf_4B hG hf a0 ha1 ha2) NN
def Z12_costOf (G : kdS) (l0 : Nat) : kzM → Option (Int × kzM) :=
  Z12_costOf_4 G l0 (0 : Int) (0 : Int)
theorem qX12_costOf {G : kdS} (hG : kzG G) (l0 : Nat) : CRi (Z12_costOf G l0) (X12_costOf G l0) := by
  unfold Z12_costOf X12_costOf
  exact (qX12_costOf_4 hG l0 _ (by unfold kzI; omega) _ (by unfold kzI; omega))
def Z12_cost_17 (G : kdS) (s0 : Int) : kzM → Option (Int × kzM) :=
  zrt s0
theorem qX12_cost_17 {G : kdS} (hG : kzG G) {s0 : Int} (hs0 : kzI s0) : CRi (Z12_cost_17 G s0) (X12_cost_17 G (Int32.ofInt s0)) := by
  unfold Z12_cost_17 X12_cost_17
  exact c_rt hs0 rfl
def Z12_cost (G : kdS) (l0 : Nat) (l1 : Int) : kzM → Option (Int × kzM) :=
  zcv G 12 l0 (Z12_lay G l0 l1) fun t1 =>
  zcnd (t1 = (0 : Int))
  (Z12_cost_17 G (-2 : Int))
  (zcv G 12 l0 (Z12_costOf G l0) fun t2 =>
  Z12_cost_17 G t2)
theorem qX12_cost {G : kdS} (hG : kzG G) (l0 : Nat) {l1 : Int} (hl1 : kzI l1) : CRi (Z12_cost G l0 l1) (X12_cost G l0 (Int32.ofInt l1)) := by
  unfold Z12_cost X12_cost
  exact c_cv (qX12_lay hG l0 hl1) (fun t1 ht1 => c_cnd (kz_eq ht1 (by unfold kzI; omega) rfl rfl) ((qX12_cost_17 hG (by unfold kzI; omega))) (c_cv (qX12_costOf hG l0) (fun t2 ht2 => (qX12_cost_17 hG ht2))))
def Z12_exchange (G : kdS) (l0 : Nat) (l1 : Int) (l2 : Int) : kzM → Option (Unit × kzM) :=
  zgR G 12 61 l0 fun t1 =>
  zaI G t1 l1 fun t2 =>
  zgR G 12 61 l0 fun t3 =>
  zgR G 12 61 l0 fun t4 =>
  zaI G t4 l2 fun t5 =>
  ztI G t3 l1 t5 <|
  zgR G 12 61 l0 fun t6 =>
  ztI G t6 l2 t2 <|
  zrt ()
theorem qX12_exchange {G : kdS} (hG : kzG G) (l0 : Nat) {l1 : Int} (hl1 : kzI l1) {l2 : Int} (hl2 : kzI l2) : CRu (Z12_exchange G l0 l1 l2) (X12_exchange G l0 (Int32.ofInt l1) (Int32.ofInt l2)) := by
  unfold Z12_exchange X12_exchange
  exact c_gR (fun t1 => c_aI hG rfl (fun t2 ht2 => c_gR (fun t3 => c_gR (fun t4 => c_aI hG rfl (fun t5 ht5 => c_tI hG rfl ht5 rfl (c_gR (fun t6 => c_tI hG rfl ht2 rfl (c_rt trivial rfl))))))))
def Z12_next_86B (G : kdS) (k86 : Nat → Int → Int → kzM → Option (Int × kzM)) (l0 : Nat) (l3 : Int) (l4 : Int) : kzM → Option (Int × kzM) :=
  zcnd (l4 ≤ l3)
  (zrt (zB (1 : Int)))
  (zcv G 12 l0 (Z12_exchange G l0 l3 l4) fun _ =>
  zlI (l3 + (1 : Int)) fun t1 =>
  zlI (l4 + (-1 : Int)) fun t2 =>
  k86 l0 t1 t2)
theorem qX12_next_86B {G : kdS} (hG : kzG G) {k86' : Nat → Int → Int → kzM → Option (Int × kzM)} {k86 : Nat → Int32 → Int32 → kdM → Option (Int32 × kdM)} (hk86 : ∀ (a0 : Nat) (a1 : Int) (_ : kzI a1) (a2 : Int) (_ : kzI a2), CRi (k86' a0 a1 a2) (k86 a0 (Int32.ofInt a1) (Int32.ofInt a2))) (l0 : Nat) {l3 : Int} (hl3 : kzI l3) {l4 : Int} (hl4 : kzI l4) : CRi (Z12_next_86B G k86' l0 l3 l4) (X12_next_86B G k86 l0 (Int32.ofInt l3) (Int32.ofInt l4)) := by
  unfold Z12_next_86B X12_next_86B
  exact c_cnd (kz_le hl4 hl3 rfl rfl) (c_rt (kz_BI _) (kz_B rfl)) (c_cv (qX12_exchange hG l0 hl3 hl4) (fun _ _ => c_lI (kz_add rfl rfl) (fun t1 ht1 => c_lI (kz_add rfl rfl) (fun t2 ht2 => (hk86 l0 _ ht1 _ ht2)))))
def Z12_next_86 (G : kdS) : Nat → Int → Int → kzM → Option (Int × kzM) := lp (fun _ _ _ _ => none) (Z12_next_86B G) NN
theorem qX12_next_86 {G : kdS} (hG : kzG G) : ∀ (a0 : Nat) (a1 : Int) (_ : kzI a1) (a2 : Int) (_ : kzI a2), CRi (Z12_next_86 G a0 a1 a2) (X12_next_86 G a0 (Int32.ofInt a1) (Int32.ofInt a2)) :=
  lp_rel (R := fun (f' : Nat → Int → Int → kzM → Option (Int × kzM)) (f : Nat → Int32 → Int32 → kdM → Option (Int32 × kdM)) => ∀ (a0 : Nat) (a1 : Int) (_ : kzI a1) (a2 : Int) (_ : kzI a2), CRi (f' a0 a1 a2) (f a0 (Int32.ofInt a1) (Int32.ofInt a2))) (by intros; exact c_no) (fun _ _ hf a0 a1 ha1 a2 ha2 => qX12_next_86B hG hf a0 ha1 ha2) NN
def Z12_next_47B (G : kdS) (k47 : Nat → Int → Int → kzM → Option (Int × kzM)) (l0 : Nat) (l1 : Int) (l2 : Int) : kzM → Option (Int × kzM) :=
  zgR G 12 61 l0 fun t1 =>
  zaI G t1 l2 fun t2 =>
  zgR G 12 61 l0 fun t3 =>
  zaI G t3 l1 fun t4 =>
  zcnd (t4 ≤ t2)
  (zcv G 12 l0 (Z12_exchange G l0 l1 l2) fun _ =>
  zlI (l1 + (1 : Int)) fun t5 =>
  zgI G 12 55 l0 fun t6 =>
  zlI (t6 - (1 : Int)) fun t7 =>
  Z12_next_86 G l0 t5 t7)
  (zlI (l2 + (-1 : Int)) fun t8 =>
  k47 l0 l1 t8)
theorem qX12_next_47B {G : kdS} (hG : kzG G) {k47' : Nat → Int → Int → kzM → Option (Int × kzM)} {k47 : Nat → Int32 → Int32 → kdM → Option (Int32 × kdM)} (hk47 : ∀ (a0 : Nat) (a1 : Int) (_ : kzI a1) (a2 : Int) (_ : kzI a2), CRi (k47' a0 a1 a2) (k47 a0 (Int32.ofInt a1) (Int32.ofInt a2))) (l0 : Nat) {l1 : Int} (hl1 : kzI l1) {l2 : Int} (hl2 : kzI l2) : CRi (Z12_next_47B G k47' l0 l1 l2) (X12_next_47B G k47 l0 (Int32.ofInt l1) (Int32.ofInt l2)) := by
  unfold Z12_next_47B X12_next_47B
  exact c_gR (fun t1 => c_aI hG rfl (fun t2 ht2 => c_gR (fun t3 => c_aI hG rfl (fun t4 ht4 => c_cnd (kz_le ht4 ht2 rfl rfl) (c_cv (qX12_exchange hG l0 hl1 hl2) (fun _ _ => c_lI (kz_add rfl rfl) (fun t5 ht5 => c_gI rfl (fun t6 ht6 => c_lI (kz_sub rfl rfl) (fun t7 ht7 => (qX12_next_86 hG l0 _ ht5 _ ht7)))))) (c_lI (kz_add rfl rfl) (fun t8 ht8 => (hk47 l0 _ hl1 _ ht8)))))))
def Z12_next_47 (G : kdS) : Nat → Int → Int → kzM → Option (Int × kzM) := lp (fun _ _ _ _ => none) (Z12_next_47B G) NN
theorem qX12_next_47 {G : kdS} (hG : kzG G) : ∀ (a0 : Nat) (a1 : Int) (_ : kzI a1) (a2 : Int) (_ : kzI a2), CRi (Z12_next_47 G a0 a1 a2) (X12_next_47 G a0 (Int32.ofInt a1) (Int32.ofInt a2)) :=
  lp_rel (R := fun (f' : Nat → Int → Int → kzM → Option (Int × kzM)) (f : Nat → Int32 → Int32 → kdM → Option (Int32 × kdM)) => ∀ (a0 : Nat) (a1 : Int) (_ : kzI a1) (a2 : Int) (_ : kzI a2), CRi (f' a0 a1 a2) (f a0 (Int32.ofInt a1) (Int32.ofInt a2))) (by intros; exact c_no) (fun _ _ hf a0 a1 ha1 a2 ha2 => qX12_next_47B hG hf a0 ha1 ha2) NN
def Z12_next_34 (G : kdS) (l0 : Nat) (l1 : Int) : kzM → Option (Int × kzM) :=
  zcnd ((0 : Int) ≤ l1)
  (zgI G 12 55 l0 fun t1 =>
  zlI (t1 - (1 : Int)) fun t2 =>
  Z12_next_47 G l0 l1 t2)
  (zrt (zB (0 : Int)))
theorem qX12_next_34 {G : kdS} (hG : kzG G) (l0 : Nat) {l1 : Int} (hl1 : kzI l1) : CRi (Z12_next_34 G l0 l1) (X12_next_34 G l0 (Int32.ofInt l1)) := by
  unfold Z12_next_34 X12_next_34
  exact c_cnd (kz_le (by unfold kzI; omega) hl1 rfl rfl) (c_gI rfl (fun t1 ht1 => c_lI (kz_sub rfl rfl) (fun t2 ht2 => (qX12_next_47 hG l0 _ hl1 _ ht2)))) (c_rt (kz_BI _) (kz_B rfl))
def Z12_next_7B (G : kdS) (k7 : Nat → Int → kzM → Option (Int × kzM)) (l0 : Nat) (l1 : Int) : kzM → Option (Int × kzM) :=
  zcnd (l1 < (0 : Int))
  (Z12_next_34 G l0 l1)
  (zgR G 12 61 l0 fun t1 =>
  zaI G t1 l1 fun t2 =>
  zgR G 12 61 l0 fun t3 =>
  zaI G t3 (l1 + (1 : Int)) fun t4 =>
  zcnd (t2 ≤ t4)
  (Z12_next_34 G l0 l1)
  (zlI (l1 + (-1 : Int)) fun t5 =>
  k7 l0 t5))
theorem qX12_next_7B {G : kdS} (hG : kzG G) {k7' : Nat → Int → kzM → Option (Int × kzM)} {k7 : Nat → Int32 → kdM → Option (Int32 × kdM)} (hk7 : ∀ (a0 : Nat) (a1 : Int) (_ : kzI a1), CRi (k7' a0 a1) (k7 a0 (Int32.ofInt a1))) (l0 : Nat) {l1 : Int} (hl1 : kzI l1) : CRi (Z12_next_7B G k7' l0 l1) (X12_next_7B G k7 l0 (Int32.ofInt l1)) := by
  unfold Z12_next_7B X12_next_7B
  exact c_cnd (kz_lt hl1 (by unfold kzI; omega) rfl rfl) ((qX12_next_34 hG l0 hl1)) (c_gR (fun t1 => c_aI hG rfl (fun t2 ht2 => c_gR (fun t3 => c_aI hG (kz_add rfl rfl) (fun t4 ht4 => c_cnd (kz_le ht2 ht4 rfl rfl) ((qX12_next_34 hG l0 hl1)) (c_lI (kz_add rfl rfl) (fun t5 ht5 => (hk7 l0 _ ht5))))))))
def Z12_next_7 (G : kdS) : Nat → Int → kzM → Option (Int × kzM) := lp (fun _ _ _ => none) (Z12_next_7B G) NN
theorem qX12_next_7 {G : kdS} (hG : kzG G) : ∀ (a0 : Nat) (a1 : Int) (_ : kzI a1), CRi (Z12_next_7 G a0 a1) (X12_next_7 G a0 (Int32.ofInt a1)) :=
  lp_rel (R := fun (f' : Nat → Int → kzM → Option (Int × kzM)) (f : Nat → Int32 → kdM → Option (Int32 × kdM)) => ∀ (a0 : Nat) (a1 : Int) (_ : kzI a1), CRi (f' a0 a1) (f a0 (Int32.ofInt a1))) (by intros; exact c_no) (fun _ _ hf a0 a1 ha1 => qX12_next_7B hG hf a0 ha1) NN
def Z12_next (G : kdS) (l0 : Nat) : kzM → Option (Int × kzM) :=
  zgI G 12 55 l0 fun t1 =>
  zlI (t1 - (2 : Int)) fun t2 =>
  Z12_next_7 G l0 t2
theorem qX12_next {G : kdS} (hG : kzG G) (l0 : Nat) : CRi (Z12_next G l0) (X12_next G l0) := by
  unfold Z12_next X12_next
  exact c_gI rfl (fun t1 ht1 => c_lI (kz_sub rfl rfl) (fun t2 ht2 => (qX12_next_7 hG l0 _ ht2)))
def Z12_layFirst_2B (G : kdS) (k2 : Nat → Int → kzM → Option (Unit × kzM)) (l0 : Nat) (l1 : Int) : kzM → Option (Unit × kzM) :=
  zgI G 12 55 l0 fun t1 =>
  zcnd (t1 ≤ l1)
  (zrt ())
  (zgR G 12 61 l0 fun t2 =>
  ztI G t2 l1 l1 <|
  zlI (l1 + (1 : Int)) fun t3 =>
  k2 l0 t3)
theorem qX12_layFirst_2B {G : kdS} (hG : kzG G) {k2' : Nat → Int → kzM → Option (Unit × kzM)} {k2 : Nat → Int32 → kdM → Option (Unit × kdM)} (hk2 : ∀ (a0 : Nat) (a1 : Int) (_ : kzI a1), CRu (k2' a0 a1) (k2 a0 (Int32.ofInt a1))) (l0 : Nat) {l1 : Int} (hl1 : kzI l1) : CRu (Z12_layFirst_2B G k2' l0 l1) (X12_layFirst_2B G k2 l0 (Int32.ofInt l1)) := by
  unfold Z12_layFirst_2B X12_layFirst_2B
  exact c_gI rfl (fun t1 ht1 => c_cnd (kz_le ht1 hl1 rfl rfl) (c_rt trivial rfl) (c_gR (fun t2 => c_tI hG rfl hl1 rfl (c_lI (kz_add rfl rfl) (fun t3 ht3 => (hk2 l0 _ ht3))))))
def Z12_layFirst_2 (G : kdS) : Nat → Int → kzM → Option (Unit × kzM) := lp (fun _ _ _ => none) (Z12_layFirst_2B G) NN
theorem qX12_layFirst_2 {G : kdS} (hG : kzG G) : ∀ (a0 : Nat) (a1 : Int) (_ : kzI a1), CRu (Z12_layFirst_2 G a0 a1) (X12_layFirst_2 G a0 (Int32.ofInt a1)) :=
  lp_rel (R := fun (f' : Nat → Int → kzM → Option (Unit × kzM)) (f : Nat → Int32 → kdM → Option (Unit × kdM)) => ∀ (a0 : Nat) (a1 : Int) (_ : kzI a1), CRu (f' a0 a1) (f a0 (Int32.ofInt a1))) (by intros; exact c_no) (fun _ _ hf a0 a1 ha1 => qX12_layFirst_2B hG hf a0 ha1) NN
def Z12_layFirst (G : kdS) (l0 : Nat) : kzM → Option (Unit × kzM) :=
  Z12_layFirst_2 G l0 (0 : Int)
theorem qX12_layFirst {G : kdS} (hG : kzG G) (l0 : Nat) : CRu (Z12_layFirst G l0) (X12_layFirst G l0) := by
  unfold Z12_layFirst X12_layFirst
  exact (qX12_layFirst_2 hG l0 _ (by unfold kzI; omega))
def Z12_best_14B (G : kdS) (k14 : Nat → Int → Int → kzM → Option (Int × kzM)) (l0 : Nat) (l1 : Int) (l2 : Int) : kzM → Option (Int × kzM) :=
  zcv G 12 l0 (Z12_next G l0) fun t1 =>
  zcnd (t1 = (0 : Int))
  (zrt l2)
  (zcv G 12 l0 (Z12_costOf G l0) fun t2 =>
  zcnd (l1 ≤ t2)
  (k14 l0 l1 l2)
  (zcv G 12 l0 (Z12_costOf G l0) fun t3 =>
  zcv G 12 l0 (Z12_digits G l0) fun t4 =>
  k14 l0 t3 t4))
theorem qX12_best_14B {G : kdS} (hG : kzG G) {k14' : Nat → Int → Int → kzM → Option (Int × kzM)} {k14 : Nat → Int32 → Int32 → kdM → Option (Int32 × kdM)} (hk14 : ∀ (a0 : Nat) (a1 : Int) (_ : kzI a1) (a2 : Int) (_ : kzI a2), CRi (k14' a0 a1 a2) (k14 a0 (Int32.ofInt a1) (Int32.ofInt a2))) (l0 : Nat) {l1 : Int} (hl1 : kzI l1) {l2 : Int} (hl2 : kzI l2) : CRi (Z12_best_14B G k14' l0 l1 l2) (X12_best_14B G k14 l0 (Int32.ofInt l1) (Int32.ofInt l2)) := by
  unfold Z12_best_14B X12_best_14B
  exact c_cv (qX12_next hG l0) (fun t1 ht1 => c_cnd (kz_eq ht1 (by unfold kzI; omega) rfl rfl) (c_rt hl2 rfl) (c_cv (qX12_costOf hG l0) (fun t2 ht2 => c_cnd (kz_le hl1 ht2 rfl rfl) ((hk14 l0 _ hl1 _ hl2)) (c_cv (qX12_costOf hG l0) (fun t3 ht3 => c_cv (qX12_digits hG l0) (fun t4 ht4 => (hk14 l0 _ ht3 _ ht4)))))))
def Z12_best_14 (G : kdS) : Nat → Int → Int → kzM → Option (Int × kzM) := lp (fun _ _ _ _ => none) (Z12_best_14B G) NN
theorem qX12_best_14 {G : kdS} (hG : kzG G) : ∀ (a0 : Nat) (a1 : Int) (_ : kzI a1) (a2 : Int) (_ : kzI a2), CRi (Z12_best_14 G a0 a1 a2) (X12_best_14 G a0 (Int32.ofInt a1) (Int32.ofInt a2)) :=
  lp_rel (R := fun (f' : Nat → Int → Int → kzM → Option (Int × kzM)) (f : Nat → Int32 → Int32 → kdM → Option (Int32 × kdM)) => ∀ (a0 : Nat) (a1 : Int) (_ : kzI a1) (a2 : Int) (_ : kzI a2), CRi (f' a0 a1 a2) (f a0 (Int32.ofInt a1) (Int32.ofInt a2))) (by intros; exact c_no) (fun _ _ hf a0 a1 ha1 a2 ha2 => qX12_best_14B hG hf a0 ha1 ha2) NN
def Z12_best (G : kdS) (l0 : Nat) : kzM → Option (Int × kzM) :=
  zcv G 12 l0 (Z12_layFirst G l0) fun _ =>
  zcv G 12 l0 (Z12_costOf G l0) fun t1 =>
  zcv G 12 l0 (Z12_digits G l0) fun t2 =>
  Z12_best_14 G l0 t1 t2
theorem qX12_best {G : kdS} (hG : kzG G) (l0 : Nat) : CRi (Z12_best G l0) (X12_best G l0) := by
  unfold Z12_best X12_best
  exact c_cv (qX12_layFirst hG l0) (fun _ _ => c_cv (qX12_costOf hG l0) (fun t1 ht1 => c_cv (qX12_digits hG l0) (fun t2 ht2 => (qX12_best_14 hG l0 _ ht1 _ ht2))))
def Z12_bound_114 (G : kdS) (k9 : Nat → Int → Int → Int → Int → kzM → Option (Int × kzM)) (k27 : Nat → Int → Int → Int → Int → Int → Int → Int → kzM → Option (Int × kzM)) (l0 : Nat) (l1 : Int) (l2 : Int) (l3 : Int) (l4 : Int) (l5 : Int) (l7 : Int) (s0 : Int) : kzM → Option (Int × kzM) :=
  zlI (l7 + (1 : Int)) fun t1 =>
  k27 l0 l1 l2 l3 l4 l5 s0 t1
theorem qX12_bound_114 {G : kdS} (hG : kzG G) {k9' : Nat → Int → Int → Int → Int → kzM → Option (Int × kzM)} {k9 : Nat → Int32 → Int32 → Int32 → Int32 → kdM → Option (Int32 × kdM)} (hk9 : ∀ (a0 : Nat) (a1 : Int) (_ : kzI a1) (a2 : Int) (_ : kzI a2) (a3 : Int) (_ : kzI a3) (a4 : Int) (_ : kzI a4), CRi (k9' a0 a1 a2 a3 a4) (k9 a0 (Int32.ofInt a1) (Int32.ofInt a2) (Int32.ofInt a3) (Int32.ofInt a4))) {k27' : Nat → Int → Int → Int → Int → Int → Int → Int → kzM → Option (Int × kzM)} {k27 : Nat → Int32 → Int32 → Int32 → Int32 → Int32 → Int32 → Int32 → kdM → Option (Int32 × kdM)} (hk27 : ∀ (a0 : Nat) (a1 : Int) (_ : kzI a1) (a2 : Int) (_ : kzI a2) (a3 : Int) (_ : kzI a3) (a4 : Int) (_ : kzI a4) (a5 : Int) (_ : kzI a5) (a6 : Int) (_ : kzI a6) (a7 : Int) (_ : kzI a7), CRi (k27' a0 a1 a2 a3 a4 a5 a6 a7) (k27 a0 (Int32.ofInt a1) (Int32.ofInt a2) (Int32.ofInt a3) (Int32.ofInt a4) (Int32.ofInt a5) (Int32.ofInt a6) (Int32.ofInt a7))) (l0 : Nat) {l1 : Int} (hl1 : kzI l1) {l2 : Int} (hl2 : kzI l2) {l3 : Int} (hl3 : kzI l3) {l4 : Int} (hl4 : kzI l4) {l5 : Int} (hl5 : kzI l5) {l7 : Int} (hl7 : kzI l7) {s0 : Int} (hs0 : kzI s0) : CRi (Z12_bound_114 G k9' k27' l0 l1 l2 l3 l4 l5 l7 s0) (X12_bound_114 G k9 k27 l0 (Int32.ofInt l1) (Int32.ofInt l2) (Int32.ofInt l3) (Int32.ofInt l4) (Int32.ofInt l5) (Int32.ofInt l7) (Int32.ofInt s0)) := by
  unfold Z12_bound_114 X12_bound_114
  exact c_lI (kz_add rfl rfl) (fun t1 ht1 => (hk27 l0 _ hl1 _ hl2 _ hl3 _ hl4 _ hl5 _ hs0 _ ht1))
def Z12_bound_112 (G : kdS) (k9 : Nat → Int → Int → Int → Int → kzM → Option (Int × kzM)) (k27 : Nat → Int → Int → Int → Int → Int → Int → Int → kzM → Option (Int × kzM)) (l0 : Nat) (l1 : Int) (l2 : Int) (l3 : Int) (l4 : Int) (l5 : Int) (l6 : Int) (l7 : Int) : kzM → Option (Int × kzM) :=
  Z12_bound_114 G k9 k27 l0 l1 l2 l3 l4 l5 l7 l6
theorem qX12_bound_112 {G : kdS} (hG : kzG G) {k9' : Nat → Int → Int → Int → Int → kzM → Option (Int × kzM)} {k9 : Nat → Int32 → Int32 → Int32 → Int32 → kdM → Option (Int32 × kdM)} (hk9 : ∀ (a0 : Nat) (a1 : Int) (_ : kzI a1) (a2 : Int) (_ : kzI a2) (a3 : Int) (_ : kzI a3) (a4 : Int) (_ : kzI a4), CRi (k9' a0 a1 a2 a3 a4) (k9 a0 (Int32.ofInt a1) (Int32.ofInt a2) (Int32.ofInt a3) (Int32.ofInt a4))) {k27' : Nat → Int → Int → Int → Int → Int → Int → Int → kzM → Option (Int × kzM)} {k27 : Nat → Int32 → Int32 → Int32 → Int32 → Int32 → Int32 → Int32 → kdM → Option (Int32 × kdM)} (hk27 : ∀ (a0 : Nat) (a1 : Int) (_ : kzI a1) (a2 : Int) (_ : kzI a2) (a3 : Int) (_ : kzI a3) (a4 : Int) (_ : kzI a4) (a5 : Int) (_ : kzI a5) (a6 : Int) (_ : kzI a6) (a7 : Int) (_ : kzI a7), CRi (k27' a0 a1 a2 a3 a4 a5 a6 a7) (k27 a0 (Int32.ofInt a1) (Int32.ofInt a2) (Int32.ofInt a3) (Int32.ofInt a4) (Int32.ofInt a5) (Int32.ofInt a6) (Int32.ofInt a7))) (l0 : Nat) {l1 : Int} (hl1 : kzI l1) {l2 : Int} (hl2 : kzI l2) {l3 : Int} (hl3 : kzI l3) {l4 : Int} (hl4 : kzI l4) {l5 : Int} (hl5 : kzI l5) {l6 : Int} (hl6 : kzI l6) {l7 : Int} (hl7 : kzI l7) : CRi (Z12_bound_112 G k9' k27' l0 l1 l2 l3 l4 l5 l6 l7) (X12_bound_112 G k9 k27 l0 (Int32.ofInt l1) (Int32.ofInt l2) (Int32.ofInt l3) (Int32.ofInt l4) (Int32.ofInt l5) (Int32.ofInt l6) (Int32.ofInt l7)) := by
  unfold Z12_bound_112 X12_bound_112
  exact (qX12_bound_114 hG hk9 hk27 l0 hl1 hl2 hl3 hl4 hl5 hl7 hl6)
def Z12_bound_107 (G : kdS) (k9 : Nat → Int → Int → Int → Int → kzM → Option (Int × kzM)) (k27 : Nat → Int → Int → Int → Int → Int → Int → Int → kzM → Option (Int × kzM)) (l0 : Nat) (l1 : Int) (l2 : Int) (l3 : Int) (l4 : Int) (l5 : Int) (l7 : Int) : kzM → Option (Int × kzM) :=
  Z12_bound_114 G k9 k27 l0 l1 l2 l3 l4 l5 l7 l7
theorem qX12_bound_107 {G : kdS} (hG : kzG G) {k9' : Nat → Int → Int → Int → Int → kzM → Option (Int × kzM)} {k9 : Nat → Int32 → Int32 → Int32 → Int32 → kdM → Option (Int32 × kdM)} (hk9 : ∀ (a0 : Nat) (a1 : Int) (_ : kzI a1) (a2 : Int) (_ : kzI a2) (a3 : Int) (_ : kzI a3) (a4 : Int) (_ : kzI a4), CRi (k9' a0 a1 a2 a3 a4) (k9 a0 (Int32.ofInt a1) (Int32.ofInt a2) (Int32.ofInt a3) (Int32.ofInt a4))) {k27' : Nat → Int → Int → Int → Int → Int → Int → Int → kzM → Option (Int × kzM)} {k27 : Nat → Int32 → Int32 → Int32 → Int32 → Int32 → Int32 → Int32 → kdM → Option (Int32 × kdM)} (hk27 : ∀ (a0 : Nat) (a1 : Int) (_ : kzI a1) (a2 : Int) (_ : kzI a2) (a3 : Int) (_ : kzI a3) (a4 : Int) (_ : kzI a4) (a5 : Int) (_ : kzI a5) (a6 : Int) (_ : kzI a6) (a7 : Int) (_ : kzI a7), CRi (k27' a0 a1 a2 a3 a4 a5 a6 a7) (k27 a0 (Int32.ofInt a1) (Int32.ofInt a2) (Int32.ofInt a3) (Int32.ofInt a4) (Int32.ofInt a5) (Int32.ofInt a6) (Int32.ofInt a7))) (l0 : Nat) {l1 : Int} (hl1 : kzI l1) {l2 : Int} (hl2 : kzI l2) {l3 : Int} (hl3 : kzI l3) {l4 : Int} (hl4 : kzI l4) {l5 : Int} (hl5 : kzI l5) {l7 : Int} (hl7 : kzI l7) : CRi (Z12_bound_107 G k9' k27' l0 l1 l2 l3 l4 l5 l7) (X12_bound_107 G k9 k27 l0 (Int32.ofInt l1) (Int32.ofInt l2) (Int32.ofInt l3) (Int32.ofInt l4) (Int32.ofInt l5) (Int32.ofInt l7)) := by
  unfold Z12_bound_107 X12_bound_107
  exact (qX12_bound_114 hG hk9 hk27 l0 hl1 hl2 hl3 hl4 hl5 hl7 hl7)
def Z12_bound_74 (G : kdS) (k9 : Nat → Int → Int → Int → Int → kzM → Option (Int × kzM)) (k27 : Nat → Int → Int → Int → Int → Int → Int → Int → kzM → Option (Int × kzM)) (l0 : Nat) (l1 : Int) (l2 : Int) (l3 : Int) (l4 : Int) (l6 : Int) (l7 : Int) (s0 : Int) : kzM → Option (Int × kzM) :=
  zcnd ((zand (zshr l3 l7) (1 : Int)) = (0 : Int))
  (zcnd (l6 < (0 : Int))
  (Z12_bound_107 G k9 k27 l0 l1 l2 l3 l4 s0 l7)
  (zgR G 12 56 l0 fun t1 =>
  zaI G t1 l7 fun t2 =>
  zgR G 12 56 l0 fun t3 =>
  zaI G t3 l6 fun t4 =>
  zcnd (t4 ≤ t2)
  (Z12_bound_112 G k9 k27 l0 l1 l2 l3 l4 s0 l6 l7)
  (Z12_bound_107 G k9 k27 l0 l1 l2 l3 l4 s0 l7)))
  (Z12_bound_112 G k9 k27 l0 l1 l2 l3 l4 s0 l6 l7)
theorem qX12_bound_74 {G : kdS} (hG : kzG G) {k9' : Nat → Int → Int → Int → Int → kzM → Option (Int × kzM)} {k9 : Nat → Int32 → Int32 → Int32 → Int32 → kdM → Option (Int32 × kdM)} (hk9 : ∀ (a0 : Nat) (a1 : Int) (_ : kzI a1) (a2 : Int) (_ : kzI a2) (a3 : Int) (_ : kzI a3) (a4 : Int) (_ : kzI a4), CRi (k9' a0 a1 a2 a3 a4) (k9 a0 (Int32.ofInt a1) (Int32.ofInt a2) (Int32.ofInt a3) (Int32.ofInt a4))) {k27' : Nat → Int → Int → Int → Int → Int → Int → Int → kzM → Option (Int × kzM)} {k27 : Nat → Int32 → Int32 → Int32 → Int32 → Int32 → Int32 → Int32 → kdM → Option (Int32 × kdM)} (hk27 : ∀ (a0 : Nat) (a1 : Int) (_ : kzI a1) (a2 : Int) (_ : kzI a2) (a3 : Int) (_ : kzI a3) (a4 : Int) (_ : kzI a4) (a5 : Int) (_ : kzI a5) (a6 : Int) (_ : kzI a6) (a7 : Int) (_ : kzI a7), CRi (k27' a0 a1 a2 a3 a4 a5 a6 a7) (k27 a0 (Int32.ofInt a1) (Int32.ofInt a2) (Int32.ofInt a3) (Int32.ofInt a4) (Int32.ofInt a5) (Int32.ofInt a6) (Int32.ofInt a7))) (l0 : Nat) {l1 : Int} (hl1 : kzI l1) {l2 : Int} (hl2 : kzI l2) {l3 : Int} (hl3 : kzI l3) {l4 : Int} (hl4 : kzI l4) {l6 : Int} (hl6 : kzI l6) {l7 : Int} (hl7 : kzI l7) {s0 : Int} (hs0 : kzI s0) : CRi (Z12_bound_74 G k9' k27' l0 l1 l2 l3 l4 l6 l7 s0) (X12_bound_74 G k9 k27 l0 (Int32.ofInt l1) (Int32.ofInt l2) (Int32.ofInt l3) (Int32.ofInt l4) (Int32.ofInt l6) (Int32.ofInt l7) (Int32.ofInt s0)) := by
  unfold Z12_bound_74 X12_bound_74
  exact c_cnd (kz_eq (kzI_of _) (by unfold kzI; omega) (kz_and (kz_shr rfl rfl) rfl) rfl) (c_cnd (kz_lt hl6 (by unfold kzI; omega) rfl rfl) ((qX12_bound_107 hG hk9 hk27 l0 hl1 hl2 hl3 hl4 hs0 hl7)) (c_gR (fun t1 => c_aI hG rfl (fun t2 ht2 => c_gR (fun t3 => c_aI hG rfl (fun t4 ht4 => c_cnd (kz_le ht4 ht2 rfl rfl) ((qX12_bound_112 hG hk9 hk27 l0 hl1 hl2 hl3 hl4 hs0 hl6 hl7)) ((qX12_bound_107 hG hk9 hk27 l0 hl1 hl2 hl3 hl4 hs0 hl7)))))))) ((qX12_bound_112 hG hk9 hk27 l0 hl1 hl2 hl3 hl4 hs0 hl6 hl7))
def Z12_bound_72 (G : kdS) (k9 : Nat → Int → Int → Int → Int → kzM → Option (Int × kzM)) (k27 : Nat → Int → Int → Int → Int → Int → Int → Int → kzM → Option (Int × kzM)) (l0 : Nat) (l1 : Int) (l2 : Int) (l3 : Int) (l4 : Int) (l5 : Int) (l6 : Int) (l7 : Int) : kzM → Option (Int × kzM) :=
  Z12_bound_74 G k9 k27 l0 l1 l2 l3 l4 l6 l7 l5
theorem qX12_bound_72 {G : kdS} (hG : kzG G) {k9' : Nat → Int → Int → Int → Int → kzM → Option (Int × kzM)} {k9 : Nat → Int32 → Int32 → Int32 → Int32 → kdM → Option (Int32 × kdM)} (hk9 : ∀ (a0 : Nat) (a1 : Int) (_ : kzI a1) (a2 : Int) (_ : kzI a2) (a3 : Int) (_ : kzI a3) (a4 : Int) (_ : kzI a4), CRi (k9' a0 a1 a2 a3 a4) (k9 a0 (Int32.ofInt a1) (Int32.ofInt a2) (Int32.ofInt a3) (Int32.ofInt a4))) {k27' : Nat → Int → Int → Int → Int → Int → Int → Int → kzM → Option (Int × kzM)} {k27 : Nat → Int32 → Int32 → Int32 → Int32 → Int32 → Int32 → Int32 → kdM → Option (Int32 × kdM)} (hk27 : ∀ (a0 : Nat) (a1 : Int) (_ : kzI a1) (a2 : Int) (_ : kzI a2) (a3 : Int) (_ : kzI a3) (a4 : Int) (_ : kzI a4) (a5 : Int) (_ : kzI a5) (a6 : Int) (_ : kzI a6) (a7 : Int) (_ : kzI a7), CRi (k27' a0 a1 a2 a3 a4 a5 a6 a7) (k27 a0 (Int32.ofInt a1) (Int32.ofInt a2) (Int32.ofInt a3) (Int32.ofInt a4) (Int32.ofInt a5) (Int32.ofInt a6) (Int32.ofInt a7))) (l0 : Nat) {l1 : Int} (hl1 : kzI l1) {l2 : Int} (hl2 : kzI l2) {l3 : Int} (hl3 : kzI l3) {l4 : Int} (hl4 : kzI l4) {l5 : Int} (hl5 : kzI l5) {l6 : Int} (hl6 : kzI l6) {l7 : Int} (hl7 : kzI l7) : CRi (Z12_bound_72 G k9' k27' l0 l1 l2 l3 l4 l5 l6 l7) (X12_bound_72 G k9 k27 l0 (Int32.ofInt l1) (Int32.ofInt l2) (Int32.ofInt l3) (Int32.ofInt l4) (Int32.ofInt l5) (Int32.ofInt l6) (Int32.ofInt l7)) := by
  unfold Z12_bound_72 X12_bound_72
  exact (qX12_bound_74 hG hk9 hk27 l0 hl1 hl2 hl3 hl4 hl6 hl7 hl5)
def Z12_bound_67 (G : kdS) (k9 : Nat → Int → Int → Int → Int → kzM → Option (Int × kzM)) (k27 : Nat → Int → Int → Int → Int → Int → Int → Int → kzM → Option (Int × kzM)) (l0 : Nat) (l1 : Int) (l2 : Int) (l3 : Int) (l4 : Int) (l6 : Int) (l7 : Int) : kzM → Option (Int × kzM) :=
  Z12_bound_74 G k9 k27 l0 l1 l2 l3 l4 l6 l7 l7
theorem qX12_bound_67 {G : kdS} (hG : kzG G) {k9' : Nat → Int → Int → Int → Int → kzM → Option (Int × kzM)} {k9 : Nat → Int32 → Int32 → Int32 → Int32 → kdM → Option (Int32 × kdM)} (hk9 : ∀ (a0 : Nat) (a1 : Int) (_ : kzI a1) (a2 : Int) (_ : kzI a2) (a3 : Int) (_ : kzI a3) (a4 : Int) (_ : kzI a4), CRi (k9' a0 a1 a2 a3 a4) (k9 a0 (Int32.ofInt a1) (Int32.ofInt a2) (Int32.ofInt a3) (Int32.ofInt a4))) {k27' : Nat → Int → Int → Int → Int → Int → Int → Int → kzM → Option (Int × kzM)} {k27 : Nat → Int32 → Int32 → Int32 → Int32 → Int32 → Int32 → Int32 → kdM → Option (Int32 × kdM)} (hk27 : ∀ (a0 : Nat) (a1 : Int) (_ : kzI a1) (a2 : Int) (_ : kzI a2) (a3 : Int) (_ : kzI a3) (a4 : Int) (_ : kzI a4) (a5 : Int) (_ : kzI a5) (a6 : Int) (_ : kzI a6) (a7 : Int) (_ : kzI a7), CRi (k27' a0 a1 a2 a3 a4 a5 a6 a7) (k27 a0 (Int32.ofInt a1) (Int32.ofInt a2) (Int32.ofInt a3) (Int32.ofInt a4) (Int32.ofInt a5) (Int32.ofInt a6) (Int32.ofInt a7))) (l0 : Nat) {l1 : Int} (hl1 : kzI l1) {l2 : Int} (hl2 : kzI l2) {l3 : Int} (hl3 : kzI l3) {l4 : Int} (hl4 : kzI l4) {l6 : Int} (hl6 : kzI l6) {l7 : Int} (hl7 : kzI l7) : CRi (Z12_bound_67 G k9' k27' l0 l1 l2 l3 l4 l6 l7) (X12_bound_67 G k9 k27 l0 (Int32.ofInt l1) (Int32.ofInt l2) (Int32.ofInt l3) (Int32.ofInt l4) (Int32.ofInt l6) (Int32.ofInt l7)) := by
  unfold Z12_bound_67 X12_bound_67
  exact (qX12_bound_74 hG hk9 hk27 l0 hl1 hl2 hl3 hl4 hl6 hl7 hl7)
def Z12_bound_27B (G : kdS) (k9 : Nat → Int → Int → Int → Int → kzM → Option (Int × kzM)) (k27 : Nat → Int → Int → Int → Int → Int → Int → Int → kzM → Option (Int × kzM)) (l0 : Nat) (l1 : Int) (l2 : Int) (l3 : Int) (l4 : Int) (l5 : Int) (l6 : Int) (l7 : Int) : kzM → Option (Int × kzM) :=
  zgI G 12 55 l0 fun t1 =>
  zcnd (t1 ≤ l7)
  (zlI (zor l2 (zshl (1 : Int) l5)) fun t2 =>
  zlI (zor l3 (zshl (1 : Int) l6)) fun t3 =>
  zgR G 12 58 l0 fun t4 =>
  zaI G t4 l5 fun t5 =>
  zgR G 12 56 l0 fun t6 =>
  zaI G t6 l6 fun t7 =>
  zlI (l1 + (t5 * t7)) fun t8 =>
  zlI (l4 + (1 : Int)) fun t9 =>
  k9 l0 t8 t2 t3 t9)
  (zcnd ((zand (zshr l2 l7) (1 : Int)) = (0 : Int))
  (zcnd (l5 < (0 : Int))
  (Z12_bound_67 G k9 k27 l0 l1 l2 l3 l4 l6 l7)
  (zgR G 12 58 l0 fun t10 =>
  zaI G t10 l7 fun t11 =>
  zgR G 12 58 l0 fun t12 =>
  zaI G t12 l5 fun t13 =>
  zcnd (t11 ≤ t13)
  (Z12_bound_72 G k9 k27 l0 l1 l2 l3 l4 l5 l6 l7)
  (Z12_bound_67 G k9 k27 l0 l1 l2 l3 l4 l6 l7)))
  (Z12_bound_72 G k9 k27 l0 l1 l2 l3 l4 l5 l6 l7))
theorem qX12_bound_27B {G : kdS} (hG : kzG G) {k9' : Nat → Int → Int → Int → Int → kzM → Option (Int × kzM)} {k9 : Nat → Int32 → Int32 → Int32 → Int32 → kdM → Option (Int32 × kdM)} (hk9 : ∀ (a0 : Nat) (a1 : Int) (_ : kzI a1) (a2 : Int) (_ : kzI a2) (a3 : Int) (_ : kzI a3) (a4 : Int) (_ : kzI a4), CRi (k9' a0 a1 a2 a3 a4) (k9 a0 (Int32.ofInt a1) (Int32.ofInt a2) (Int32.ofInt a3) (Int32.ofInt a4))) {k27' : Nat → Int → Int → Int → Int → Int → Int → Int → kzM → Option (Int × kzM)} {k27 : Nat → Int32 → Int32 → Int32 → Int32 → Int32 → Int32 → Int32 → kdM → Option (Int32 × kdM)} (hk27 : ∀ (a0 : Nat) (a1 : Int) (_ : kzI a1) (a2 : Int) (_ : kzI a2) (a3 : Int) (_ : kzI a3) (a4 : Int) (_ : kzI a4) (a5 : Int) (_ : kzI a5) (a6 : Int) (_ : kzI a6) (a7 : Int) (_ : kzI a7), CRi (k27' a0 a1 a2 a3 a4 a5 a6 a7) (k27 a0 (Int32.ofInt a1) (Int32.ofInt a2) (Int32.ofInt a3) (Int32.ofInt a4) (Int32.ofInt a5) (Int32.ofInt a6) (Int32.ofInt a7))) (l0 : Nat) {l1 : Int} (hl1 : kzI l1) {l2 : Int} (hl2 : kzI l2) {l3 : Int} (hl3 : kzI l3) {l4 : Int} (hl4 : kzI l4) {l5 : Int} (hl5 : kzI l5) {l6 : Int} (hl6 : kzI l6) {l7 : Int} (hl7 : kzI l7) : CRi (Z12_bound_27B G k9' k27' l0 l1 l2 l3 l4 l5 l6 l7) (X12_bound_27B G k9 k27 l0 (Int32.ofInt l1) (Int32.ofInt l2) (Int32.ofInt l3) (Int32.ofInt l4) (Int32.ofInt l5) (Int32.ofInt l6) (Int32.ofInt l7)) := by
  unfold Z12_bound_27B X12_bound_27B
  exact c_gI rfl (fun t1 ht1 => c_cnd (kz_le ht1 hl7 rfl rfl) (c_lI (kz_or rfl (kz_shl rfl rfl)) (fun t2 ht2 => c_lI (kz_or rfl (kz_shl rfl rfl)) (fun t3 ht3 => c_gR (fun t4 => c_aI hG rfl (fun t5 ht5 => c_gR (fun t6 => c_aI hG rfl (fun t7 ht7 => c_lI (kz_add rfl (kz_mul rfl rfl)) (fun t8 ht8 => c_lI (kz_add rfl rfl) (fun t9 ht9 => (hk9 l0 _ ht8 _ ht2 _ ht3 _ ht9)))))))))) (c_cnd (kz_eq (kzI_of _) (by unfold kzI; omega) (kz_and (kz_shr rfl rfl) rfl) rfl) (c_cnd (kz_lt hl5 (by unfold kzI; omega) rfl rfl) ((qX12_bound_67 hG hk9 hk27 l0 hl1 hl2 hl3 hl4 hl6 hl7)) (c_gR (fun t10 => c_aI hG rfl (fun t11 ht11 => c_gR (fun t12 => c_aI hG rfl (fun t13 ht13 => c_cnd (kz_le ht11 ht13 rfl rfl) ((qX12_bound_72 hG hk9 hk27 l0 hl1 hl2 hl3 hl4 hl5 hl6 hl7)) ((qX12_bound_67 hG hk9 hk27 l0 hl1 hl2 hl3 hl4 hl6 hl7)))))))) ((qX12_bound_72 hG hk9 hk27 l0 hl1 hl2 hl3 hl4 hl5 hl6 hl7))))
def Z12_bound_27 (G : kdS) (k9 : Nat → Int → Int → Int → Int → kzM → Option (Int × kzM)) : Nat → Int → Int → Int → Int → Int → Int → Int → kzM → Option (Int × kzM) := lp (fun _ _ _ _ _ _ _ _ _ => none) (Z12_bound_27B G k9) NN
theorem qX12_bound_27 {G : kdS} (hG : kzG G) {k9' : Nat → Int → Int → Int → Int → kzM → Option (Int × kzM)} {k9 : Nat → Int32 → Int32 → Int32 → Int32 → kdM → Option (Int32 × kdM)} (hk9 : ∀ (a0 : Nat) (a1 : Int) (_ : kzI a1) (a2 : Int) (_ : kzI a2) (a3 : Int) (_ : kzI a3) (a4 : Int) (_ : kzI a4), CRi (k9' a0 a1 a2 a3 a4) (k9 a0 (Int32.ofInt a1) (Int32.ofInt a2) (Int32.ofInt a3) (Int32.ofInt a4))) : ∀ (a0 : Nat) (a1 : Int) (_ : kzI a1) (a2 : Int) (_ : kzI a2) (a3 : Int) (_ : kzI a3) (a4 : Int) (_ : kzI a4) (a5 : Int) (_ : kzI a5) (a6 : Int) (_ : kzI a6) (a7 : Int) (_ : kzI a7), CRi (Z12_bound_27 G k9' a0 a1 a2 a3 a4 a5 a6 a7) (X12_bound_27 G k9 a0 (Int32.ofInt a1) (Int32.ofInt a2) (Int32.ofInt a3) (Int32.ofInt a4) (Int32.ofInt a5) (Int32.ofInt a6) (Int32.ofInt a7)) :=
  lp_rel (R := fun (f' : Nat → Int → Int → Int → Int → Int → Int → Int → kzM → Option (Int × kzM)) (f : Nat → Int32 → Int32 → Int32 → Int32 → Int32 → Int32 → Int32 → kdM → Option (Int32 × kdM)) => ∀ (a0 : Nat) (a1 : Int) (_ : kzI a1) (a2 : Int) (_ : kzI a2) (a3 : Int) (_ : kzI a3) (a4 : Int) (_ : kzI a4) (a5 : Int) (_ : kzI a5) (a6 : Int) (_ : kzI a6) (a7 : Int) (_ : kzI a7), CRi (f' a0 a1 a2 a3 a4 a5 a6 a7) (f a0 (Int32.ofInt a1) (Int32.ofInt a2) (Int32.ofInt a3) (Int32.ofInt a4) (Int32.ofInt a5) (Int32.ofInt a6) (Int32.ofInt a7))) (by intros; exact c_no) (fun _ _ hf a0 a1 ha1 a2 ha2 a3 ha3 a4 ha4 a5 ha5 a6 ha6 a7 ha7 => qX12_bound_27B hG hk9 hf a0 ha1 ha2 ha3 ha4 ha5 ha6 ha7) NN
def Z12_bound_209 (G : kdS) (k163 : Nat → Int → Int → kzM → Option (Int × kzM)) (k175 : Nat → Int → Int → Int → kzM → Option (Int × kzM)) (l0 : Nat) (l4 : Int) (l5 : Int) (s0 : Int) (s1 : Int) : kzM → Option (Int × kzM) :=
  zlI (s0 + s1) fun t1 =>
  zlI (l5 + (1 : Int)) fun t2 =>
  k175 l0 t1 l4 t2
theorem qX12_bound_209 {G : kdS} (hG : kzG G) {k163' : Nat → Int → Int → kzM → Option (Int × kzM)} {k163 : Nat → Int32 → Int32 → kdM → Option (Int32 × kdM)} (hk163 : ∀ (a0 : Nat) (a1 : Int) (_ : kzI a1) (a2 : Int) (_ : kzI a2), CRi (k163' a0 a1 a2) (k163 a0 (Int32.ofInt a1) (Int32.ofInt a2))) {k175' : Nat → Int → Int → Int → kzM → Option (Int × kzM)} {k175 : Nat → Int32 → Int32 → Int32 → kdM → Option (Int32 × kdM)} (hk175 : ∀ (a0 : Nat) (a1 : Int) (_ : kzI a1) (a2 : Int) (_ : kzI a2) (a3 : Int) (_ : kzI a3), CRi (k175' a0 a1 a2 a3) (k175 a0 (Int32.ofInt a1) (Int32.ofInt a2) (Int32.ofInt a3))) (l0 : Nat) {l4 : Int} (hl4 : kzI l4) {l5 : Int} (hl5 : kzI l5) {s0 : Int} (hs0 : kzI s0) {s1 : Int} (hs1 : kzI s1) : CRi (Z12_bound_209 G k163' k175' l0 l4 l5 s0 s1) (X12_bound_209 G k163 k175 l0 (Int32.ofInt l4) (Int32.ofInt l5) (Int32.ofInt s0) (Int32.ofInt s1)) := by
  unfold Z12_bound_209 X12_bound_209
  exact c_lI (kz_add rfl rfl) (fun t1 ht1 => c_lI (kz_add rfl rfl) (fun t2 ht2 => (hk175 l0 _ ht1 _ hl4 _ ht2)))
def Z12_bound_175B (G : kdS) (k163 : Nat → Int → Int → kzM → Option (Int × kzM)) (k175 : Nat → Int → Int → Int → kzM → Option (Int × kzM)) (l0 : Nat) (l1 : Int) (l4 : Int) (l5 : Int) : kzM → Option (Int × kzM) :=
  zgI G 12 55 l0 fun t1 =>
  zcnd (t1 ≤ l5)
  (zlI (l4 + (1 : Int)) fun t2 =>
  k163 l0 l1 t2)
  (zcnd (l4 = l5)
  (Z12_bound_209 G k163 k175 l0 l4 l5 l1 (0 : Int))
  (zgR G 12 59 l0 fun t3 =>
  zaI G t3 (((7 : Int) * l4) + l5) fun t4 =>
  Z12_bound_209 G k163 k175 l0 l4 l5 l1 t4))
theorem qX12_bound_175B {G : kdS} (hG : kzG G) {k163' : Nat → Int → Int → kzM → Option (Int × kzM)} {k163 : Nat → Int32 → Int32 → kdM → Option (Int32 × kdM)} (hk163 : ∀ (a0 : Nat) (a1 : Int) (_ : kzI a1) (a2 : Int) (_ : kzI a2), CRi (k163' a0 a1 a2) (k163 a0 (Int32.ofInt a1) (Int32.ofInt a2))) {k175' : Nat → Int → Int → Int → kzM → Option (Int × kzM)} {k175 : Nat → Int32 → Int32 → Int32 → kdM → Option (Int32 × kdM)} (hk175 : ∀ (a0 : Nat) (a1 : Int) (_ : kzI a1) (a2 : Int) (_ : kzI a2) (a3 : Int) (_ : kzI a3), CRi (k175' a0 a1 a2 a3) (k175 a0 (Int32.ofInt a1) (Int32.ofInt a2) (Int32.ofInt a3))) (l0 : Nat) {l1 : Int} (hl1 : kzI l1) {l4 : Int} (hl4 : kzI l4) {l5 : Int} (hl5 : kzI l5) : CRi (Z12_bound_175B G k163' k175' l0 l1 l4 l5) (X12_bound_175B G k163 k175 l0 (Int32.ofInt l1) (Int32.ofInt l4) (Int32.ofInt l5)) := by
  unfold Z12_bound_175B X12_bound_175B
  exact c_gI rfl (fun t1 ht1 => c_cnd (kz_le ht1 hl5 rfl rfl) (c_lI (kz_add rfl rfl) (fun t2 ht2 => (hk163 l0 _ hl1 _ ht2))) (c_cnd (kz_eq hl4 hl5 rfl rfl) ((qX12_bound_209 hG hk163 hk175 l0 hl4 hl5 hl1 (by unfold kzI; omega))) (c_gR (fun t3 => c_aI hG (kz_add (kz_mul rfl rfl) rfl) (fun t4 ht4 => (qX12_bound_209 hG hk163 hk175 l0 hl4 hl5 hl1 ht4))))))
def Z12_bound_175 (G : kdS) (k163 : Nat → Int → Int → kzM → Option (Int × kzM)) : Nat → Int → Int → Int → kzM → Option (Int × kzM) := lp (fun _ _ _ _ _ => none) (Z12_bound_175B G k163) NN
theorem qX12_bound_175 {G : kdS} (hG : kzG G) {k163' : Nat → Int → Int → kzM → Option (Int × kzM)} {k163 : Nat → Int32 → Int32 → kdM → Option (Int32 × kdM)} (hk163 : ∀ (a0 : Nat) (a1 : Int) (_ : kzI a1) (a2 : Int) (_ : kzI a2), CRi (k163' a0 a1 a2) (k163 a0 (Int32.ofInt a1) (Int32.ofInt a2))) : ∀ (a0 : Nat) (a1 : Int) (_ : kzI a1) (a2 : Int) (_ : kzI a2) (a3 : Int) (_ : kzI a3), CRi (Z12_bound_175 G k163' a0 a1 a2 a3) (X12_bound_175 G k163 a0 (Int32.ofInt a1) (Int32.ofInt a2) (Int32.ofInt a3)) :=
  lp_rel (R := fun (f' : Nat → Int → Int → Int → kzM → Option (Int × kzM)) (f : Nat → Int32 → Int32 → Int32 → kdM → Option (Int32 × kdM)) => ∀ (a0 : Nat) (a1 : Int) (_ : kzI a1) (a2 : Int) (_ : kzI a2) (a3 : Int) (_ : kzI a3), CRi (f' a0 a1 a2 a3) (f a0 (Int32.ofInt a1) (Int32.ofInt a2) (Int32.ofInt a3))) (by intros; exact c_no) (fun _ _ hf a0 a1 ha1 a2 ha2 a3 ha3 => qX12_bound_175B hG hk163 hf a0 ha1 ha2 ha3) NN
def Z12_bound_163B (G : kdS) (k163 : Nat → Int → Int → kzM → Option (Int × kzM)) (l0 : Nat) (l1 : Int) (l4 : Int) : kzM → Option (Int × kzM) :=
  zgI G 12 55 l0 fun t1 =>
  zcnd (t1 ≤ l4)
  (zrt l1)
  (Z12_bound_175 G k163 l0 l1 l4 (0 : Int))
theorem qX12_bound_163B {G : kdS} (hG : kzG G) {k163' : Nat → Int → Int → kzM → Option (Int × kzM)} {k163 : Nat → Int32 → Int32 → kdM → Option (Int32 × kdM)} (hk163 : ∀ (a0 : Nat) (a1 : Int) (_ : kzI a1) (a2 : Int) (_ : kzI a2), CRi (k163' a0 a1 a2) (k163 a0 (Int32.ofInt a1) (Int32.ofInt a2))) (l0 : Nat) {l1 : Int} (hl1 : kzI l1) {l4 : Int} (hl4 : kzI l4) : CRi (Z12_bound_163B G k163' l0 l1 l4) (X12_bound_163B G k163 l0 (Int32.ofInt l1) (Int32.ofInt l4)) := by
  unfold Z12_bound_163B X12_bound_163B
  exact c_gI rfl (fun t1 ht1 => c_cnd (kz_le ht1 hl4 rfl rfl) (c_rt hl1 rfl) ((qX12_bound_175 hG hk163 l0 _ hl1 _ hl4 _ (by unfold kzI; omega))))
def Z12_bound_163 (G : kdS) : Nat → Int → Int → kzM → Option (Int × kzM) := lp (fun _ _ _ _ => none) (Z12_bound_163B G) NN
theorem qX12_bound_163 {G : kdS} (hG : kzG G) : ∀ (a0 : Nat) (a1 : Int) (_ : kzI a1) (a2 : Int) (_ : kzI a2), CRi (Z12_bound_163 G a0 a1 a2) (X12_bound_163 G a0 (Int32.ofInt a1) (Int32.ofInt a2)) :=
  lp_rel (R := fun (f' : Nat → Int → Int → kzM → Option (Int × kzM)) (f : Nat → Int32 → Int32 → kdM → Option (Int32 × kdM)) => ∀ (a0 : Nat) (a1 : Int) (_ : kzI a1) (a2 : Int) (_ : kzI a2), CRi (f' a0 a1 a2) (f a0 (Int32.ofInt a1) (Int32.ofInt a2))) (by intros; exact c_no) (fun _ _ hf a0 a1 ha1 a2 ha2 => qX12_bound_163B hG hf a0 ha1 ha2) NN
def Z12_bound_9B (G : kdS) (k9 : Nat → Int → Int → Int → Int → kzM → Option (Int × kzM)) (l0 : Nat) (l1 : Int) (l2 : Int) (l3 : Int) (l4 : Int) : kzM → Option (Int × kzM) :=
  zgI G 12 55 l0 fun t1 =>
  zcnd (t1 ≤ l4)
  (Z12_bound_163 G l0 l1 (0 : Int))
  (Z12_bound_27 G k9 l0 l1 l2 l3 l4 (-1 : Int) (-1 : Int) (0 : Int))
theorem qX12_bound_9B {G : kdS} (hG : kzG G) {k9' : Nat → Int → Int → Int → Int → kzM → Option (Int × kzM)} {k9 : Nat → Int32 → Int32 → Int32 → Int32 → kdM → Option (Int32 × kdM)} (hk9 : ∀ (a0 : Nat) (a1 : Int) (_ : kzI a1) (a2 : Int) (_ : kzI a2) (a3 : Int) (_ : kzI a3) (a4 : Int) (_ : kzI a4), CRi (k9' a0 a1 a2 a3 a4) (k9 a0 (Int32.ofInt a1) (Int32.ofInt a2) (Int32.ofInt a3) (Int32.ofInt a4))) (l0 : Nat) {l1 : Int} (hl1 : kzI l1) {l2 : Int} (hl2 : kzI l2) {l3 : Int} (hl3 : kzI l3) {l4 : Int} (hl4 : kzI l4) : CRi (Z12_bound_9B G k9' l0 l1 l2 l3 l4) (X12_bound_9B G k9 l0 (Int32.ofInt l1) (Int32.ofInt l2) (Int32.ofInt l3) (Int32.ofInt l4)) := by
  unfold Z12_bound_9B X12_bound_9B
  exact c_gI rfl (fun t1 ht1 => c_cnd (kz_le ht1 hl4 rfl rfl) ((qX12_bound_163 hG l0 _ hl1 _ (by unfold kzI; omega))) ((qX12_bound_27 hG hk9 l0 _ hl1 _ hl2 _ hl3 _ hl4 _ (by unfold kzI; omega) _ (by unfold kzI; omega) _ (by unfold kzI; omega))))
def Z12_bound_9 (G : kdS) : Nat → Int → Int → Int → Int → kzM → Option (Int × kzM) := lp (fun _ _ _ _ _ _ => none) (Z12_bound_9B G) NN
theorem qX12_bound_9 {G : kdS} (hG : kzG G) : ∀ (a0 : Nat) (a1 : Int) (_ : kzI a1) (a2 : Int) (_ : kzI a2) (a3 : Int) (_ : kzI a3) (a4 : Int) (_ : kzI a4), CRi (Z12_bound_9 G a0 a1 a2 a3 a4) (X12_bound_9 G a0 (Int32.ofInt a1) (Int32.ofInt a2) (Int32.ofInt a3) (Int32.ofInt a4)) :=
  lp_rel (R := fun (f' : Nat → Int → Int → Int → Int → kzM → Option (Int × kzM)) (f : Nat → Int32 → Int32 → Int32 → Int32 → kdM → Option (Int32 × kdM)) => ∀ (a0 : Nat) (a1 : Int) (_ : kzI a1) (a2 : Int) (_ : kzI a2) (a3 : Int) (_ : kzI a3) (a4 : Int) (_ : kzI a4), CRi (f' a0 a1 a2 a3 a4) (f a0 (Int32.ofInt a1) (Int32.ofInt a2) (Int32.ofInt a3) (Int32.ofInt a4))) (by intros; exact c_no) (fun _ _ hf a0 a1 ha1 a2 ha2 a3 ha3 a4 ha4 => qX12_bound_9B hG hf a0 ha1 ha2 ha3 ha4) NN
def Z12_bound (G : kdS) (l0 : Nat) : kzM → Option (Int × kzM) :=
  Z12_bound_9 G l0 (0 : Int) (0 : Int) (0 : Int) (0 : Int)
theorem qX12_bound {G : kdS} (hG : kzG G) (l0 : Nat) : CRi (Z12_bound G l0) (X12_bound G l0) := by
  unfold Z12_bound X12_bound
  exact (qX12_bound_9 hG l0 _ (by unfold kzI; omega) _ (by unfold kzI; omega) _ (by unfold kzI; omega) _ (by unfold kzI; omega))
def Z12_better_18 (G : kdS) : kzM → Option (Int × kzM) :=
  zrt (-2 : Int)
theorem qX12_better_18 {G : kdS} (hG : kzG G) : CRi (Z12_better_18 G) (X12_better_18 G) := by
  unfold Z12_better_18 X12_better_18
  exact c_rt (by unfold kzI; omega) rfl
def Z12_better_101 (G : kdS) (k26 : Nat → Int → Int → Int → kzM → Option (Int × kzM)) (k46 : Nat → Int → Int → Int → Int → Int → Int → kzM → Option (Int × kzM)) (k61 : Nat → Int → Int → Int → Int → Int → Int → Int → kzM → Option (Int × kzM)) (l0 : Nat) (l2 : Int) (l3 : Int) (l5 : Int) (l6 : Int) (l7 : Int) (l8 : Int) (l9 : Int) : kzM → Option (Int × kzM) :=
  zcv G 12 l0 (Z12_exchange G l0 l8 l9) fun _ =>
  zlI (l9 + (1 : Int)) fun t1 =>
  k61 l0 l2 l3 l5 l6 l7 l8 t1
theorem qX12_better_101 {G : kdS} (hG : kzG G) {k26' : Nat → Int → Int → Int → kzM → Option (Int × kzM)} {k26 : Nat → Int32 → Int32 → Int32 → kdM → Option (Int32 × kdM)} (hk26 : ∀ (a0 : Nat) (a1 : Int) (_ : kzI a1) (a2 : Int) (_ : kzI a2) (a3 : Int) (_ : kzI a3), CRi (k26' a0 a1 a2 a3) (k26 a0 (Int32.ofInt a1) (Int32.ofInt a2) (Int32.ofInt a3))) {k46' : Nat → Int → Int → Int → Int → Int → Int → kzM → Option (Int × kzM)} {k46 : Nat → Int32 → Int32 → Int32 → Int32 → Int32 → Int32 → kdM → Option (Int32 × kdM)} (hk46 : ∀ (a0 : Nat) (a1 : Int) (_ : kzI a1) (a2 : Int) (_ : kzI a2) (a3 : Int) (_ : kzI a3) (a4 : Int) (_ : kzI a4) (a5 : Int) (_ : kzI a5) (a6 : Int) (_ : kzI a6), CRi (k46' a0 a1 a2 a3 a4 a5 a6) (k46 a0 (Int32.ofInt a1) (Int32.ofInt a2) (Int32.ofInt a3) (Int32.ofInt a4) (Int32.ofInt a5) (Int32.ofInt a6))) {k61' : Nat → Int → Int → Int → Int → Int → Int → Int → kzM → Option (Int × kzM)} {k61 : Nat → Int32 → Int32 → Int32 → Int32 → Int32 → Int32 → Int32 → kdM → Option (Int32 × kdM)} (hk61 : ∀ (a0 : Nat) (a1 : Int) (_ : kzI a1) (a2 : Int) (_ : kzI a2) (a3 : Int) (_ : kzI a3) (a4 : Int) (_ : kzI a4) (a5 : Int) (_ : kzI a5) (a6 : Int) (_ : kzI a6) (a7 : Int) (_ : kzI a7), CRi (k61' a0 a1 a2 a3 a4 a5 a6 a7) (k61 a0 (Int32.ofInt a1) (Int32.ofInt a2) (Int32.ofInt a3) (Int32.ofInt a4) (Int32.ofInt a5) (Int32.ofInt a6) (Int32.ofInt a7))) (l0 : Nat) {l2 : Int} (hl2 : kzI l2) {l3 : Int} (hl3 : kzI l3) {l5 : Int} (hl5 : kzI l5) {l6 : Int} (hl6 : kzI l6) {l7 : Int} (hl7 : kzI l7) {l8 : Int} (hl8 : kzI l8) {l9 : Int} (hl9 : kzI l9) : CRi (Z12_better_101 G k26' k46' k61' l0 l2 l3 l5 l6 l7 l8 l9) (X12_better_101 G k26 k46 k61 l0 (Int32.ofInt l2) (Int32.ofInt l3) (Int32.ofInt l5) (Int32.ofInt l6) (Int32.ofInt l7) (Int32.ofInt l8) (Int32.ofInt l9)) := by
  unfold Z12_better_101 X12_better_101
  exact c_cv (qX12_exchange hG l0 hl8 hl9) (fun _ _ => c_lI (kz_add rfl rfl) (fun t1 ht1 => (hk61 l0 _ hl2 _ hl3 _ hl5 _ hl6 _ hl7 _ hl8 _ ht1)))
def Z12_better_61B (G : kdS) (k26 : Nat → Int → Int → Int → kzM → Option (Int × kzM)) (k46 : Nat → Int → Int → Int → Int → Int → Int → kzM → Option (Int × kzM)) (k61 : Nat → Int → Int → Int → Int → Int → Int → Int → kzM → Option (Int × kzM)) (l0 : Nat) (l2 : Int) (l3 : Int) (l5 : Int) (l6 : Int) (l7 : Int) (l8 : Int) (l9 : Int) : kzM → Option (Int × kzM) :=
  zgI G 12 55 l0 fun t1 =>
  zcnd (t1 ≤ l9)
  (zlI (l8 + (1 : Int)) fun t2 =>
  k46 l0 l2 l3 l5 l6 l7 t2)
  (zcv G 12 l0 (Z12_exchange G l0 l8 l9) fun _ =>
  zcv G 12 l0 (Z12_costOf G l0) fun t3 =>
  zcnd (l5 ≤ t3)
  (Z12_better_101 G k26 k46 k61 l0 l2 l3 l5 l6 l7 l8 l9)
  (zcv G 12 l0 (Z12_costOf G l0) fun t4 =>
  Z12_better_101 G k26 k46 k61 l0 l2 l3 t4 l8 l9 l8 l9))
theorem qX12_better_61B {G : kdS} (hG : kzG G) {k26' : Nat → Int → Int → Int → kzM → Option (Int × kzM)} {k26 : Nat → Int32 → Int32 → Int32 → kdM → Option (Int32 × kdM)} (hk26 : ∀ (a0 : Nat) (a1 : Int) (_ : kzI a1) (a2 : Int) (_ : kzI a2) (a3 : Int) (_ : kzI a3), CRi (k26' a0 a1 a2 a3) (k26 a0 (Int32.ofInt a1) (Int32.ofInt a2) (Int32.ofInt a3))) {k46' : Nat → Int → Int → Int → Int → Int → Int → kzM → Option (Int × kzM)} {k46 : Nat → Int32 → Int32 → Int32 → Int32 → Int32 → Int32 → kdM → Option (Int32 × kdM)} (hk46 : ∀ (a0 : Nat) (a1 : Int) (_ : kzI a1) (a2 : Int) (_ : kzI a2) (a3 : Int) (_ : kzI a3) (a4 : Int) (_ : kzI a4) (a5 : Int) (_ : kzI a5) (a6 : Int) (_ : kzI a6), CRi (k46' a0 a1 a2 a3 a4 a5 a6) (k46 a0 (Int32.ofInt a1) (Int32.ofInt a2) (Int32.ofInt a3) (Int32.ofInt a4) (Int32.ofInt a5) (Int32.ofInt a6))) {k61' : Nat → Int → Int → Int → Int → Int → Int → Int → kzM → Option (Int × kzM)} {k61 : Nat → Int32 → Int32 → Int32 → Int32 → Int32 → Int32 → Int32 → kdM → Option (Int32 × kdM)} (hk61 : ∀ (a0 : Nat) (a1 : Int) (_ : kzI a1) (a2 : Int) (_ : kzI a2) (a3 : Int) (_ : kzI a3) (a4 : Int) (_ : kzI a4) (a5 : Int) (_ : kzI a5) (a6 : Int) (_ : kzI a6) (a7 : Int) (_ : kzI a7), CRi (k61' a0 a1 a2 a3 a4 a5 a6 a7) (k61 a0 (Int32.ofInt a1) (Int32.ofInt a2) (Int32.ofInt a3) (Int32.ofInt a4) (Int32.ofInt a5) (Int32.ofInt a6) (Int32.ofInt a7))) (l0 : Nat) {l2 : Int} (hl2 : kzI l2) {l3 : Int} (hl3 : kzI l3) {l5 : Int} (hl5 : kzI l5) {l6 : Int} (hl6 : kzI l6) {l7 : Int} (hl7 : kzI l7) {l8 : Int} (hl8 : kzI l8) {l9 : Int} (hl9 : kzI l9) : CRi (Z12_better_61B G k26' k46' k61' l0 l2 l3 l5 l6 l7 l8 l9) (X12_better_61B G k26 k46 k61 l0 (Int32.ofInt l2) (Int32.ofInt l3) (Int32.ofInt l5) (Int32.ofInt l6) (Int32.ofInt l7) (Int32.ofInt l8) (Int32.ofInt l9)) := by
  unfold Z12_better_61B X12_better_61B
  exact c_gI rfl (fun t1 ht1 => c_cnd (kz_le ht1 hl9 rfl rfl) (c_lI (kz_add rfl rfl) (fun t2 ht2 => (hk46 l0 _ hl2 _ hl3 _ hl5 _ hl6 _ hl7 _ ht2))) (c_cv (qX12_exchange hG l0 hl8 hl9) (fun _ _ => c_cv (qX12_costOf hG l0) (fun t3 ht3 => c_cnd (kz_le hl5 ht3 rfl rfl) ((qX12_better_101 hG hk26 hk46 hk61 l0 hl2 hl3 hl5 hl6 hl7 hl8 hl9)) (c_cv (qX12_costOf hG l0) (fun t4 ht4 => (qX12_better_101 hG hk26 hk46 hk61 l0 hl2 hl3 ht4 hl8 hl9 hl8 hl9)))))))
def Z12_better_61 (G : kdS) (k26 : Nat → Int → Int → Int → kzM → Option (Int × kzM)) (k46 : Nat → Int → Int → Int → Int → Int → Int → kzM → Option (Int × kzM)) : Nat → Int → Int → Int → Int → Int → Int → Int → kzM → Option (Int × kzM) := lp (fun _ _ _ _ _ _ _ _ _ => none) (Z12_better_61B G k26 k46) NN
theorem qX12_better_61 {G : kdS} (hG : kzG G) {k26' : Nat → Int → Int → Int → kzM → Option (Int × kzM)} {k26 : Nat → Int32 → Int32 → Int32 → kdM → Option (Int32 × kdM)} (hk26 : ∀ (a0 : Nat) (a1 : Int) (_ : kzI a1) (a2 : Int) (_ : kzI a2) (a3 : Int) (_ : kzI a3), CRi (k26' a0 a1 a2 a3) (k26 a0 (Int32.ofInt a1) (Int32.ofInt a2) (Int32.ofInt a3))) {k46' : Nat → Int → Int → Int → Int → Int → Int → kzM → Option (Int × kzM)} {k46 : Nat → Int32 → Int32 → Int32 → Int32 → Int32 → Int32 → kdM → Option (Int32 × kdM)} (hk46 : ∀ (a0 : Nat) (a1 : Int) (_ : kzI a1) (a2 : Int) (_ : kzI a2) (a3 : Int) (_ : kzI a3) (a4 : Int) (_ : kzI a4) (a5 : Int) (_ : kzI a5) (a6 : Int) (_ : kzI a6), CRi (k46' a0 a1 a2 a3 a4 a5 a6) (k46 a0 (Int32.ofInt a1) (Int32.ofInt a2) (Int32.ofInt a3) (Int32.ofInt a4) (Int32.ofInt a5) (Int32.ofInt a6))) : ∀ (a0 : Nat) (a1 : Int) (_ : kzI a1) (a2 : Int) (_ : kzI a2) (a3 : Int) (_ : kzI a3) (a4 : Int) (_ : kzI a4) (a5 : Int) (_ : kzI a5) (a6 : Int) (_ : kzI a6) (a7 : Int) (_ : kzI a7), CRi (Z12_better_61 G k26' k46' a0 a1 a2 a3 a4 a5 a6 a7) (X12_better_61 G k26 k46 a0 (Int32.ofInt a1) (Int32.ofInt a2) (Int32.ofInt a3) (Int32.ofInt a4) (Int32.ofInt a5) (Int32.ofInt a6) (Int32.ofInt a7)) :=
  lp_rel (R := fun (f' : Nat → Int → Int → Int → Int → Int → Int → Int → kzM → Option (Int × kzM)) (f : Nat → Int32 → Int32 → Int32 → Int32 → Int32 → Int32 → Int32 → kdM → Option (Int32 × kdM)) => ∀ (a0 : Nat) (a1 : Int) (_ : kzI a1) (a2 : Int) (_ : kzI a2) (a3 : Int) (_ : kzI a3) (a4 : Int) (_ : kzI a4) (a5 : Int) (_ : kzI a5) (a6 : Int) (_ : kzI a6) (a7 : Int) (_ : kzI a7), CRi (f' a0 a1 a2 a3 a4 a5 a6 a7) (f a0 (Int32.ofInt a1) (Int32.ofInt a2) (Int32.ofInt a3) (Int32.ofInt a4) (Int32.ofInt a5) (Int32.ofInt a6) (Int32.ofInt a7))) (by intros; exact c_no) (fun _ _ hf a0 a1 ha1 a2 ha2 a3 ha3 a4 ha4 a5 ha5 a6 ha6 a7 ha7 => qX12_better_61B hG hk26 hk46 hf a0 ha1 ha2 ha3 ha4 ha5 ha6 ha7) NN
def Z12_better_149 (G : kdS) (k26 : Nat → Int → Int → Int → kzM → Option (Int × kzM)) (l0 : Nat) (l2 : Int) (l3 : Int) (l4 : Int) : kzM → Option (Int × kzM) :=
  k26 l0 l2 l3 l4
theorem qX12_better_149 {G : kdS} (hG : kzG G) {k26' : Nat → Int → Int → Int → kzM → Option (Int × kzM)} {k26 : Nat → Int32 → Int32 → Int32 → kdM → Option (Int32 × kdM)} (hk26 : ∀ (a0 : Nat) (a1 : Int) (_ : kzI a1) (a2 : Int) (_ : kzI a2) (a3 : Int) (_ : kzI a3), CRi (k26' a0 a1 a2 a3) (k26 a0 (Int32.ofInt a1) (Int32.ofInt a2) (Int32.ofInt a3))) (l0 : Nat) {l2 : Int} (hl2 : kzI l2) {l3 : Int} (hl3 : kzI l3) {l4 : Int} (hl4 : kzI l4) : CRi (Z12_better_149 G k26' l0 l2 l3 l4) (X12_better_149 G k26 l0 (Int32.ofInt l2) (Int32.ofInt l3) (Int32.ofInt l4)) := by
  unfold Z12_better_149 X12_better_149
  exact (hk26 l0 _ hl2 _ hl3 _ hl4)
def Z12_better_131 (G : kdS) (k26 : Nat → Int → Int → Int → kzM → Option (Int × kzM)) (l0 : Nat) (l2 : Int) (l3 : Int) (l6 : Int) (l7 : Int) (s0 : Int) : kzM → Option (Int × kzM) :=
  zcnd (s0 = (0 : Int))
  (Z12_better_149 G k26 l0 l2 l3 s0)
  (zcv G 12 l0 (Z12_exchange G l0 l6 l7) fun _ =>
  zlI (l3 + (1 : Int)) fun t1 =>
  Z12_better_149 G k26 l0 l2 t1 s0)
theorem qX12_better_131 {G : kdS} (hG : kzG G) {k26' : Nat → Int → Int → Int → kzM → Option (Int × kzM)} {k26 : Nat → Int32 → Int32 → Int32 → kdM → Option (Int32 × kdM)} (hk26 : ∀ (a0 : Nat) (a1 : Int) (_ : kzI a1) (a2 : Int) (_ : kzI a2) (a3 : Int) (_ : kzI a3), CRi (k26' a0 a1 a2 a3) (k26 a0 (Int32.ofInt a1) (Int32.ofInt a2) (Int32.ofInt a3))) (l0 : Nat) {l2 : Int} (hl2 : kzI l2) {l3 : Int} (hl3 : kzI l3) {l6 : Int} (hl6 : kzI l6) {l7 : Int} (hl7 : kzI l7) {s0 : Int} (hs0 : kzI s0) : CRi (Z12_better_131 G k26' l0 l2 l3 l6 l7 s0) (X12_better_131 G k26 l0 (Int32.ofInt l2) (Int32.ofInt l3) (Int32.ofInt l6) (Int32.ofInt l7) (Int32.ofInt s0)) := by
  unfold Z12_better_131 X12_better_131
  exact c_cnd (kz_eq hs0 (by unfold kzI; omega) rfl rfl) ((qX12_better_149 hG hk26 l0 hl2 hl3 hs0)) (c_cv (qX12_exchange hG l0 hl6 hl7) (fun _ _ => c_lI (kz_add rfl rfl) (fun t1 ht1 => (qX12_better_149 hG hk26 l0 hl2 ht1 hs0))))
def Z12_better_46B (G : kdS) (k26 : Nat → Int → Int → Int → kzM → Option (Int × kzM)) (k46 : Nat → Int → Int → Int → Int → Int → Int → kzM → Option (Int × kzM)) (l0 : Nat) (l2 : Int) (l3 : Int) (l5 : Int) (l6 : Int) (l7 : Int) (l8 : Int) : kzM → Option (Int × kzM) :=
  zgI G 12 55 l0 fun t1 =>
  zcnd (t1 ≤ l8)
  (zcnd (l6 < (0 : Int))
  (Z12_better_131 G k26 l0 l2 l3 l6 l7 (0 : Int))
  (Z12_better_131 G k26 l0 l2 l3 l6 l7 (1 : Int)))
  (zlI (l8 + (1 : Int)) fun t2 =>
  Z12_better_61 G k26 k46 l0 l2 l3 l5 l6 l7 l8 t2)
theorem qX12_better_46B {G : kdS} (hG : kzG G) {k26' : Nat → Int → Int → Int → kzM → Option (Int × kzM)} {k26 : Nat → Int32 → Int32 → Int32 → kdM → Option (Int32 × kdM)} (hk26 : ∀ (a0 : Nat) (a1 : Int) (_ : kzI a1) (a2 : Int) (_ : kzI a2) (a3 : Int) (_ : kzI a3), CRi (k26' a0 a1 a2 a3) (k26 a0 (Int32.ofInt a1) (Int32.ofInt a2) (Int32.ofInt a3))) {k46' : Nat → Int → Int → Int → Int → Int → Int → kzM → Option (Int × kzM)} {k46 : Nat → Int32 → Int32 → Int32 → Int32 → Int32 → Int32 → kdM → Option (Int32 × kdM)} (hk46 : ∀ (a0 : Nat) (a1 : Int) (_ : kzI a1) (a2 : Int) (_ : kzI a2) (a3 : Int) (_ : kzI a3) (a4 : Int) (_ : kzI a4) (a5 : Int) (_ : kzI a5) (a6 : Int) (_ : kzI a6), CRi (k46' a0 a1 a2 a3 a4 a5 a6) (k46 a0 (Int32.ofInt a1) (Int32.ofInt a2) (Int32.ofInt a3) (Int32.ofInt a4) (Int32.ofInt a5) (Int32.ofInt a6))) (l0 : Nat) {l2 : Int} (hl2 : kzI l2) {l3 : Int} (hl3 : kzI l3) {l5 : Int} (hl5 : kzI l5) {l6 : Int} (hl6 : kzI l6) {l7 : Int} (hl7 : kzI l7) {l8 : Int} (hl8 : kzI l8) : CRi (Z12_better_46B G k26' k46' l0 l2 l3 l5 l6 l7 l8) (X12_better_46B G k26 k46 l0 (Int32.ofInt l2) (Int32.ofInt l3) (Int32.ofInt l5) (Int32.ofInt l6) (Int32.ofInt l7) (Int32.ofInt l8)) := by
  unfold Z12_better_46B X12_better_46B
  exact c_gI rfl (fun t1 ht1 => c_cnd (kz_le ht1 hl8 rfl rfl) (c_cnd (kz_lt hl6 (by unfold kzI; omega) rfl rfl) ((qX12_better_131 hG hk26 l0 hl2 hl3 hl6 hl7 (by unfold kzI; omega))) ((qX12_better_131 hG hk26 l0 hl2 hl3 hl6 hl7 (by unfold kzI; omega)))) (c_lI (kz_add rfl rfl) (fun t2 ht2 => (qX12_better_61 hG hk26 hk46 l0 _ hl2 _ hl3 _ hl5 _ hl6 _ hl7 _ hl8 _ ht2))))
def Z12_better_46 (G : kdS) (k26 : Nat → Int → Int → Int → kzM → Option (Int × kzM)) : Nat → Int → Int → Int → Int → Int → Int → kzM → Option (Int × kzM) := lp (fun _ _ _ _ _ _ _ _ => none) (Z12_better_46B G k26) NN
theorem qX12_better_46 {G : kdS} (hG : kzG G) {k26' : Nat → Int → Int → Int → kzM → Option (Int × kzM)} {k26 : Nat → Int32 → Int32 → Int32 → kdM → Option (Int32 × kdM)} (hk26 : ∀ (a0 : Nat) (a1 : Int) (_ : kzI a1) (a2 : Int) (_ : kzI a2) (a3 : Int) (_ : kzI a3), CRi (k26' a0 a1 a2 a3) (k26 a0 (Int32.ofInt a1) (Int32.ofInt a2) (Int32.ofInt a3))) : ∀ (a0 : Nat) (a1 : Int) (_ : kzI a1) (a2 : Int) (_ : kzI a2) (a3 : Int) (_ : kzI a3) (a4 : Int) (_ : kzI a4) (a5 : Int) (_ : kzI a5) (a6 : Int) (_ : kzI a6), CRi (Z12_better_46 G k26' a0 a1 a2 a3 a4 a5 a6) (X12_better_46 G k26 a0 (Int32.ofInt a1) (Int32.ofInt a2) (Int32.ofInt a3) (Int32.ofInt a4) (Int32.ofInt a5) (Int32.ofInt a6)) :=
  lp_rel (R := fun (f' : Nat → Int → Int → Int → Int → Int → Int → kzM → Option (Int × kzM)) (f : Nat → Int32 → Int32 → Int32 → Int32 → Int32 → Int32 → kdM → Option (Int32 × kdM)) => ∀ (a0 : Nat) (a1 : Int) (_ : kzI a1) (a2 : Int) (_ : kzI a2) (a3 : Int) (_ : kzI a3) (a4 : Int) (_ : kzI a4) (a5 : Int) (_ : kzI a5) (a6 : Int) (_ : kzI a6), CRi (f' a0 a1 a2 a3 a4 a5 a6) (f a0 (Int32.ofInt a1) (Int32.ofInt a2) (Int32.ofInt a3) (Int32.ofInt a4) (Int32.ofInt a5) (Int32.ofInt a6))) (by intros; exact c_no) (fun _ _ hf a0 a1 ha1 a2 ha2 a3 ha3 a4 ha4 a5 ha5 a6 ha6 => qX12_better_46B hG hk26 hf a0 ha1 ha2 ha3 ha4 ha5 ha6) NN
def Z12_better_164 (G : kdS) (s0 : Int) : kzM → Option (Int × kzM) :=
  zrt s0
theorem qX12_better_164 {G : kdS} (hG : kzG G) {s0 : Int} (hs0 : kzI s0) : CRi (Z12_better_164 G s0) (X12_better_164 G (Int32.ofInt s0)) := by
  unfold Z12_better_164 X12_better_164
  exact c_rt hs0 rfl
def Z12_better_26B (G : kdS) (k26 : Nat → Int → Int → Int → kzM → Option (Int × kzM)) (l0 : Nat) (l2 : Int) (l3 : Int) (l4 : Int) : kzM → Option (Int × kzM) :=
  zcnd (l4 = (0 : Int))
  (zcnd (l2 = (0 : Int))
  (zcv G 12 l0 (Z12_digits G l0) fun t1 =>
  Z12_better_164 G t1)
  (Z12_better_164 G l3))
  (zcv G 12 l0 (Z12_costOf G l0) fun t2 =>
  Z12_better_46 G k26 l0 l2 l3 t2 (-1 : Int) (-1 : Int) (0 : Int))
theorem qX12_better_26B {G : kdS} (hG : kzG G) {k26' : Nat → Int → Int → Int → kzM → Option (Int × kzM)} {k26 : Nat → Int32 → Int32 → Int32 → kdM → Option (Int32 × kdM)} (hk26 : ∀ (a0 : Nat) (a1 : Int) (_ : kzI a1) (a2 : Int) (_ : kzI a2) (a3 : Int) (_ : kzI a3), CRi (k26' a0 a1 a2 a3) (k26 a0 (Int32.ofInt a1) (Int32.ofInt a2) (Int32.ofInt a3))) (l0 : Nat) {l2 : Int} (hl2 : kzI l2) {l3 : Int} (hl3 : kzI l3) {l4 : Int} (hl4 : kzI l4) : CRi (Z12_better_26B G k26' l0 l2 l3 l4) (X12_better_26B G k26 l0 (Int32.ofInt l2) (Int32.ofInt l3) (Int32.ofInt l4)) := by
  unfold Z12_better_26B X12_better_26B
  exact c_cnd (kz_eq hl4 (by unfold kzI; omega) rfl rfl) (c_cnd (kz_eq hl2 (by unfold kzI; omega) rfl rfl) (c_cv (qX12_digits hG l0) (fun t1 ht1 => (qX12_better_164 hG ht1))) ((qX12_better_164 hG hl3))) (c_cv (qX12_costOf hG l0) (fun t2 ht2 => (qX12_better_46 hG hk26 l0 _ hl2 _ hl3 _ ht2 _ (by unfold kzI; omega) _ (by unfold kzI; omega) _ (by unfold kzI; omega))))
def Z12_better_26 (G : kdS) : Nat → Int → Int → Int → kzM → Option (Int × kzM) := lp (fun _ _ _ _ _ => none) (Z12_better_26B G) NN
theorem qX12_better_26 {G : kdS} (hG : kzG G) : ∀ (a0 : Nat) (a1 : Int) (_ : kzI a1) (a2 : Int) (_ : kzI a2) (a3 : Int) (_ : kzI a3), CRi (Z12_better_26 G a0 a1 a2 a3) (X12_better_26 G a0 (Int32.ofInt a1) (Int32.ofInt a2) (Int32.ofInt a3)) :=
  lp_rel (R := fun (f' : Nat → Int → Int → Int → kzM → Option (Int × kzM)) (f : Nat → Int32 → Int32 → Int32 → kdM → Option (Int32 × kdM)) => ∀ (a0 : Nat) (a1 : Int) (_ : kzI a1) (a2 : Int) (_ : kzI a2) (a3 : Int) (_ : kzI a3), CRi (f' a0 a1 a2 a3) (f a0 (Int32.ofInt a1) (Int32.ofInt a2) (Int32.ofInt a3))) (by intros; exact c_no) (fun _ _ hf a0 a1 ha1 a2 ha2 a3 ha3 => qX12_better_26B hG hf a0 ha1 ha2 ha3) NN
def Z12_better (G : kdS) (l0 : Nat) (l1 : Int) (l2 : Int) : kzM → Option (Int × kzM) :=
  zcl (Z12_in G l2 (0 : Int) (1 : Int)) fun t1 =>
  zcnd (t1 = (0 : Int))
  (Z12_better_18 G)
  (zcv G 12 l0 (Z12_lay G l0 l1) fun t2 =>
  zcnd (t2 = (0 : Int))
  (Z12_better_18 G)
  (Z12_better_26 G l0 l2 (0 : Int) (1 : Int)))
theorem qX12_better {G : kdS} (hG : kzG G) (l0 : Nat) {l1 : Int} (hl1 : kzI l1) {l2 : Int} (hl2 : kzI l2) : CRi (Z12_better G l0 l1 l2) (X12_better G l0 (Int32.ofInt l1) (Int32.ofInt l2)) := by
  unfold Z12_better X12_better
  exact c_cl ((kz_i2l hl2 rfl) ▸ (qX12_in hG (kzI_L hl2) (show kzL (0 : Int) by unfold kzL; omega) (show kzL (1 : Int) by unfold kzL; omega))) (fun t1 ht1 => c_cnd (kz_eq ht1 (by unfold kzI; omega) rfl rfl) ((qX12_better_18 hG)) (c_cv (qX12_lay hG l0 hl1) (fun t2 ht2 => c_cnd (kz_eq ht2 (by unfold kzI; omega) rfl rfl) ((qX12_better_18 hG)) ((qX12_better_26 hG l0 _ hl2 _ (by unfold kzI; omega) _ (by unfold kzI; omega))))))
def Z12_findLayouts_11B (G : kdS) (k11 : Nat → Int → kzM → Option (Unit × kzM)) (l0 : Nat) (l1 : Int) : kzM → Option (Unit × kzM) :=
  zcnd (l1 = (0 : Int))
  (zrt ())
  (zgR G 12 62 l0 fun t1 =>
  zgI G 12 65 l0 fun t2 =>
  zcv G 12 l0 (Z12_digits G l0) fun t3 =>
  ztI G t1 t2 t3 <|
  zgR G 12 63 l0 fun t4 =>
  zgI G 12 65 l0 fun t5 =>
  zcv G 12 l0 (Z12_costOf G l0) fun t6 =>
  ztI G t4 t5 t6 <|
  zgI G 12 65 l0 fun t7 =>
  zlI (t7 + (1 : Int)) fun u1 =>
  zsI G 12 65 l0 u1 <|
  zcv G 12 l0 (Z12_next G l0) fun t8 =>
  k11 l0 t8)
theorem qX12_findLayouts_11B {G : kdS} (hG : kzG G) {k11' : Nat → Int → kzM → Option (Unit × kzM)} {k11 : Nat → Int32 → kdM → Option (Unit × kdM)} (hk11 : ∀ (a0 : Nat) (a1 : Int) (_ : kzI a1), CRu (k11' a0 a1) (k11 a0 (Int32.ofInt a1))) (l0 : Nat) {l1 : Int} (hl1 : kzI l1) : CRu (Z12_findLayouts_11B G k11' l0 l1) (X12_findLayouts_11B G k11 l0 (Int32.ofInt l1)) := by
  unfold Z12_findLayouts_11B X12_findLayouts_11B
  exact c_cnd (kz_eq hl1 (by unfold kzI; omega) rfl rfl) (c_rt trivial rfl) (c_gR (fun t1 => c_gI rfl (fun t2 ht2 => c_cv (qX12_digits hG l0) (fun t3 ht3 => c_tI hG rfl ht3 rfl (c_gR (fun t4 => c_gI rfl (fun t5 ht5 => c_cv (qX12_costOf hG l0) (fun t6 ht6 => c_tI hG rfl ht6 rfl (c_gI rfl (fun t7 ht7 => c_rg (kz_add rfl rfl) fun u1 r1 e1 => c_sI rfl r1 e1 (c_cv (qX12_next hG l0) (fun t8 ht8 => (hk11 l0 _ ht8)))))))))))))
def Z12_findLayouts_11 (G : kdS) : Nat → Int → kzM → Option (Unit × kzM) := lp (fun _ _ _ => none) (Z12_findLayouts_11B G) NN
theorem qX12_findLayouts_11 {G : kdS} (hG : kzG G) : ∀ (a0 : Nat) (a1 : Int) (_ : kzI a1), CRu (Z12_findLayouts_11 G a0 a1) (X12_findLayouts_11 G a0 (Int32.ofInt a1)) :=
  lp_rel (R := fun (f' : Nat → Int → kzM → Option (Unit × kzM)) (f : Nat → Int32 → kdM → Option (Unit × kdM)) => ∀ (a0 : Nat) (a1 : Int) (_ : kzI a1), CRu (f' a0 a1) (f a0 (Int32.ofInt a1))) (by intros; exact c_no) (fun _ _ hf a0 a1 ha1 => qX12_findLayouts_11B hG hf a0 ha1) NN
def Z12_findLayouts (G : kdS) (l0 : Nat) : kzM → Option (Unit × kzM) :=
  zsI G 12 65 l0 (0 : Int) <|
  zcv G 12 l0 (Z12_layFirst G l0) fun _ =>
  Z12_findLayouts_11 G l0 (1 : Int)
theorem qX12_findLayouts {G : kdS} (hG : kzG G) (l0 : Nat) : CRu (Z12_findLayouts G l0) (X12_findLayouts G l0) := by
  unfold Z12_findLayouts X12_findLayouts
  exact c_sI rfl (by unfold kzI; omega) rfl (c_cv (qX12_layFirst hG l0) (fun _ _ => (qX12_findLayouts_11 hG l0 _ (by unfold kzI; omega))))
def Z12_areOneApart_49 (G : kdS) (k21 : Nat → Int → Int → Int → Int → kzM → Option (Int × kzM)) (l0 : Nat) (l3 : Int) (l4 : Int) (l6 : Int) (s0 : Int) (s1 : Int) : kzM → Option (Int × kzM) :=
  zlI (s0 + s1) fun t1 =>
  znz (10 : Int) <|
  zlI (l3.tdiv (10 : Int)) fun t2 =>
  znz (10 : Int) <|
  zlI (l4.tdiv (10 : Int)) fun t3 =>
  zlI (l6 + (1 : Int)) fun t4 =>
  k21 l0 t2 t3 t1 t4
theorem qX12_areOneApart_49 {G : kdS} (hG : kzG G) {k21' : Nat → Int → Int → Int → Int → kzM → Option (Int × kzM)} {k21 : Nat → Int32 → Int32 → Int32 → Int32 → kdM → Option (Int32 × kdM)} (hk21 : ∀ (a0 : Nat) (a1 : Int) (_ : kzI a1) (a2 : Int) (_ : kzI a2) (a3 : Int) (_ : kzI a3) (a4 : Int) (_ : kzI a4), CRi (k21' a0 a1 a2 a3 a4) (k21 a0 (Int32.ofInt a1) (Int32.ofInt a2) (Int32.ofInt a3) (Int32.ofInt a4))) (l0 : Nat) {l3 : Int} (hl3 : kzI l3) {l4 : Int} (hl4 : kzI l4) {l6 : Int} (hl6 : kzI l6) {s0 : Int} (hs0 : kzI s0) {s1 : Int} (hs1 : kzI s1) : CRi (Z12_areOneApart_49 G k21' l0 l3 l4 l6 s0 s1) (X12_areOneApart_49 G k21 l0 (Int32.ofInt l3) (Int32.ofInt l4) (Int32.ofInt l6) (Int32.ofInt s0) (Int32.ofInt s1)) := by
  unfold Z12_areOneApart_49 X12_areOneApart_49
  exact c_lI (kz_add rfl rfl) (fun t1 ht1 => c_nz (by unfold kzI; omega) rfl (c_lI (kz_div hl3 (by unfold kzI; omega) rfl rfl) (fun t2 ht2 => c_nz (by unfold kzI; omega) rfl (c_lI (kz_div hl4 (by unfold kzI; omega) rfl rfl) (fun t3 ht3 => c_lI (kz_add rfl rfl) (fun t4 ht4 => (hk21 l0 _ ht2 _ ht3 _ ht1 _ ht4)))))))
def Z12_areOneApart_81 (G : kdS) (s0 : Int) : kzM → Option (Int × kzM) :=
  zrt (zB s0)
theorem qX12_areOneApart_81 {G : kdS} (hG : kzG G) {s0 : Int} (hs0 : kzI s0) : CRi (Z12_areOneApart_81 G s0) (X12_areOneApart_81 G (Int32.ofInt s0)) := by
  unfold Z12_areOneApart_81 X12_areOneApart_81
  exact c_rt (kz_BI _) (kz_B rfl)
def Z12_areOneApart_21B (G : kdS) (k21 : Nat → Int → Int → Int → Int → kzM → Option (Int × kzM)) (l0 : Nat) (l3 : Int) (l4 : Int) (l5 : Int) (l6 : Int) : kzM → Option (Int × kzM) :=
  zgI G 12 55 l0 fun t1 =>
  zcnd (t1 ≤ l6)
  (zcnd (l5 = (2 : Int))
  (Z12_areOneApart_81 G (1 : Int))
  (Z12_areOneApart_81 G (0 : Int)))
  (znz (10 : Int) <|
  znz (10 : Int) <|
  zlI (Int.tmod l3 (10 : Int)) fun u1 =>
  zlI (Int.tmod l4 (10 : Int)) fun u2 =>
  zcnd (u1 = u2)
  (Z12_areOneApart_49 G k21 l0 l3 l4 l6 l5 (0 : Int))
  (Z12_areOneApart_49 G k21 l0 l3 l4 l6 l5 (1 : Int)))
theorem qX12_areOneApart_21B {G : kdS} (hG : kzG G) {k21' : Nat → Int → Int → Int → Int → kzM → Option (Int × kzM)} {k21 : Nat → Int32 → Int32 → Int32 → Int32 → kdM → Option (Int32 × kdM)} (hk21 : ∀ (a0 : Nat) (a1 : Int) (_ : kzI a1) (a2 : Int) (_ : kzI a2) (a3 : Int) (_ : kzI a3) (a4 : Int) (_ : kzI a4), CRi (k21' a0 a1 a2 a3 a4) (k21 a0 (Int32.ofInt a1) (Int32.ofInt a2) (Int32.ofInt a3) (Int32.ofInt a4))) (l0 : Nat) {l3 : Int} (hl3 : kzI l3) {l4 : Int} (hl4 : kzI l4) {l5 : Int} (hl5 : kzI l5) {l6 : Int} (hl6 : kzI l6) : CRi (Z12_areOneApart_21B G k21' l0 l3 l4 l5 l6) (X12_areOneApart_21B G k21 l0 (Int32.ofInt l3) (Int32.ofInt l4) (Int32.ofInt l5) (Int32.ofInt l6)) := by
  unfold Z12_areOneApart_21B X12_areOneApart_21B
  exact c_gI rfl (fun t1 ht1 => c_cnd (kz_le ht1 hl6 rfl rfl) (c_cnd (kz_eq hl5 (by unfold kzI; omega) rfl rfl) ((qX12_areOneApart_81 hG (by unfold kzI; omega))) ((qX12_areOneApart_81 hG (by unfold kzI; omega)))) (c_nz (by unfold kzI; omega) rfl (c_nz (by unfold kzI; omega) rfl (c_rg (kz_rem hl3 (by unfold kzI; omega) rfl rfl) fun u1 r1 e1 => c_rg (kz_rem hl4 (by unfold kzI; omega) rfl rfl) fun u2 r2 e2 => c_cnd (kz_eq r1 r2 e1 e2) ((qX12_areOneApart_49 hG hk21 l0 hl3 hl4 hl6 hl5 (by unfold kzI; omega))) ((qX12_areOneApart_49 hG hk21 l0 hl3 hl4 hl6 hl5 (by unfold kzI; omega)))))))
def Z12_areOneApart_21 (G : kdS) : Nat → Int → Int → Int → Int → kzM → Option (Int × kzM) := lp (fun _ _ _ _ _ _ => none) (Z12_areOneApart_21B G) NN
theorem qX12_areOneApart_21 {G : kdS} (hG : kzG G) : ∀ (a0 : Nat) (a1 : Int) (_ : kzI a1) (a2 : Int) (_ : kzI a2) (a3 : Int) (_ : kzI a3) (a4 : Int) (_ : kzI a4), CRi (Z12_areOneApart_21 G a0 a1 a2 a3 a4) (X12_areOneApart_21 G a0 (Int32.ofInt a1) (Int32.ofInt a2) (Int32.ofInt a3) (Int32.ofInt a4)) :=
  lp_rel (R := fun (f' : Nat → Int → Int → Int → Int → kzM → Option (Int × kzM)) (f : Nat → Int32 → Int32 → Int32 → Int32 → kdM → Option (Int32 × kdM)) => ∀ (a0 : Nat) (a1 : Int) (_ : kzI a1) (a2 : Int) (_ : kzI a2) (a3 : Int) (_ : kzI a3) (a4 : Int) (_ : kzI a4), CRi (f' a0 a1 a2 a3 a4) (f a0 (Int32.ofInt a1) (Int32.ofInt a2) (Int32.ofInt a3) (Int32.ofInt a4))) (by intros; exact c_no) (fun _ _ hf a0 a1 ha1 a2 ha2 a3 ha3 a4 ha4 => qX12_areOneApart_21B hG hf a0 ha1 ha2 ha3 ha4) NN
def Z12_areOneApart (G : kdS) (l0 : Nat) (l1 : Int) (l2 : Int) : kzM → Option (Int × kzM) :=
  zgR G 12 62 l0 fun t1 =>
  zaI G t1 l1 fun t2 =>
  zgR G 12 62 l0 fun t3 =>
  zaI G t3 l2 fun t4 =>
  Z12_areOneApart_21 G l0 t2 t4 (0 : Int) (0 : Int)
theorem qX12_areOneApart {G : kdS} (hG : kzG G) (l0 : Nat) {l1 : Int} (hl1 : kzI l1) {l2 : Int} (hl2 : kzI l2) : CRi (Z12_areOneApart G l0 l1 l2) (X12_areOneApart G l0 (Int32.ofInt l1) (Int32.ofInt l2)) := by
  unfold Z12_areOneApart X12_areOneApart
  exact c_gR (fun t1 => c_aI hG rfl (fun t2 ht2 => c_gR (fun t3 => c_aI hG rfl (fun t4 ht4 => (qX12_areOneApart_21 hG l0 _ ht2 _ ht4 _ (by unfold kzI; omega) _ (by unfold kzI; omega))))))
def Z12_findSteps_37 (G : kdS) (k2 : Nat → Int → Int → Int → kzM → Option (Unit × kzM)) (l0 : Nat) (l1 : Int) (l2 : Int) (l3 : Int) (s0 : Nat) (s1 : Int) (s2 : Int) : kzM → Option (Unit × kzM) :=
  ztI G s0 s1 s2 <|
  zlI (l3 + (1 : Int)) fun t1 =>
  k2 l0 l1 l2 t1
theorem qX12_findSteps_37 {G : kdS} (hG : kzG G) {k2' : Nat → Int → Int → Int → kzM → Option (Unit × kzM)} {k2 : Nat → Int32 → Int32 → Int32 → kdM → Option (Unit × kdM)} (hk2 : ∀ (a0 : Nat) (a1 : Int) (_ : kzI a1) (a2 : Int) (_ : kzI a2) (a3 : Int) (_ : kzI a3), CRu (k2' a0 a1 a2 a3) (k2 a0 (Int32.ofInt a1) (Int32.ofInt a2) (Int32.ofInt a3))) (l0 : Nat) {l1 : Int} (hl1 : kzI l1) {l2 : Int} (hl2 : kzI l2) {l3 : Int} (hl3 : kzI l3) (s0 : Nat) {s1 : Int} (hs1 : kzI s1) {s2 : Int} (hs2 : kzI s2) : CRu (Z12_findSteps_37 G k2' l0 l1 l2 l3 s0 s1 s2) (X12_findSteps_37 G k2 l0 (Int32.ofInt l1) (Int32.ofInt l2) (Int32.ofInt l3) s0 (Int32.ofInt s1) (Int32.ofInt s2)) := by
  unfold Z12_findSteps_37 X12_findSteps_37
  exact c_tI hG rfl hs2 rfl (c_lI (kz_add rfl rfl) (fun t1 ht1 => (hk2 l0 _ hl1 _ hl2 _ ht1)))
def Z12_findSteps_34 (G : kdS) (k2 : Nat → Int → Int → Int → kzM → Option (Unit × kzM)) (l0 : Nat) (l1 : Int) (l2 : Int) (l3 : Int) (s0 : Nat) (s1 : Int) : kzM → Option (Unit × kzM) :=
  Z12_findSteps_37 G k2 l0 l1 l2 l3 s0 s1 (1000000000 : Int)
theorem qX12_findSteps_34 {G : kdS} (hG : kzG G) {k2' : Nat → Int → Int → Int → kzM → Option (Unit × kzM)} {k2 : Nat → Int32 → Int32 → Int32 → kdM → Option (Unit × kdM)} (hk2 : ∀ (a0 : Nat) (a1 : Int) (_ : kzI a1) (a2 : Int) (_ : kzI a2) (a3 : Int) (_ : kzI a3), CRu (k2' a0 a1 a2 a3) (k2 a0 (Int32.ofInt a1) (Int32.ofInt a2) (Int32.ofInt a3))) (l0 : Nat) {l1 : Int} (hl1 : kzI l1) {l2 : Int} (hl2 : kzI l2) {l3 : Int} (hl3 : kzI l3) (s0 : Nat) {s1 : Int} (hs1 : kzI s1) : CRu (Z12_findSteps_34 G k2' l0 l1 l2 l3 s0 s1) (X12_findSteps_34 G k2 l0 (Int32.ofInt l1) (Int32.ofInt l2) (Int32.ofInt l3) s0 (Int32.ofInt s1)) := by
  unfold Z12_findSteps_34 X12_findSteps_34
  exact (qX12_findSteps_37 hG hk2 l0 hl1 hl2 hl3 s0 hs1 (by unfold kzI; omega))
def Z12_findSteps_145 (G : kdS) (k49 : Nat → Int → Int → Int → kzM → Option (Unit × kzM)) (k58 : Nat → Int → Int → Int → Int → kzM → Option (Unit × kzM)) (l0 : Nat) (l2 : Int) (l3 : Int) (l4 : Int) (l5 : Int) : kzM → Option (Unit × kzM) :=
  zlI (l5 + (1 : Int)) fun t1 =>
  k58 l0 l2 l3 l4 t1
theorem qX12_findSteps_145 {G : kdS} (hG : kzG G) {k49' : Nat → Int → Int → Int → kzM → Option (Unit × kzM)} {k49 : Nat → Int32 → Int32 → Int32 → kdM → Option (Unit × kdM)} (hk49 : ∀ (a0 : Nat) (a1 : Int) (_ : kzI a1) (a2 : Int) (_ : kzI a2) (a3 : Int) (_ : kzI a3), CRu (k49' a0 a1 a2 a3) (k49 a0 (Int32.ofInt a1) (Int32.ofInt a2) (Int32.ofInt a3))) {k58' : Nat → Int → Int → Int → Int → kzM → Option (Unit × kzM)} {k58 : Nat → Int32 → Int32 → Int32 → Int32 → kdM → Option (Unit × kdM)} (hk58 : ∀ (a0 : Nat) (a1 : Int) (_ : kzI a1) (a2 : Int) (_ : kzI a2) (a3 : Int) (_ : kzI a3) (a4 : Int) (_ : kzI a4), CRu (k58' a0 a1 a2 a3 a4) (k58 a0 (Int32.ofInt a1) (Int32.ofInt a2) (Int32.ofInt a3) (Int32.ofInt a4))) (l0 : Nat) {l2 : Int} (hl2 : kzI l2) {l3 : Int} (hl3 : kzI l3) {l4 : Int} (hl4 : kzI l4) {l5 : Int} (hl5 : kzI l5) : CRu (Z12_findSteps_145 G k49' k58' l0 l2 l3 l4 l5) (X12_findSteps_145 G k49 k58 l0 (Int32.ofInt l2) (Int32.ofInt l3) (Int32.ofInt l4) (Int32.ofInt l5)) := by
  unfold Z12_findSteps_145 X12_findSteps_145
  exact c_lI (kz_add rfl rfl) (fun t1 ht1 => (hk58 l0 _ hl2 _ hl3 _ hl4 _ ht1))
def Z12_findSteps_139 (G : kdS) (k49 : Nat → Int → Int → Int → kzM → Option (Unit × kzM)) (k58 : Nat → Int → Int → Int → Int → kzM → Option (Unit × kzM)) (k70 : Nat → Int → Int → Int → Int → Int → kzM → Option (Unit × kzM)) (l0 : Nat) (l2 : Int) (l3 : Int) (l4 : Int) (l5 : Int) (l6 : Int) : kzM → Option (Unit × kzM) :=
  zlI (l6 + (1 : Int)) fun t1 =>
  k70 l0 l2 l3 l4 l5 t1
theorem qX12_findSteps_139 {G : kdS} (hG : kzG G) {k49' : Nat → Int → Int → Int → kzM → Option (Unit × kzM)} {k49 : Nat → Int32 → Int32 → Int32 → kdM → Option (Unit × kdM)} (hk49 : ∀ (a0 : Nat) (a1 : Int) (_ : kzI a1) (a2 : Int) (_ : kzI a2) (a3 : Int) (_ : kzI a3), CRu (k49' a0 a1 a2 a3) (k49 a0 (Int32.ofInt a1) (Int32.ofInt a2) (Int32.ofInt a3))) {k58' : Nat → Int → Int → Int → Int → kzM → Option (Unit × kzM)} {k58 : Nat → Int32 → Int32 → Int32 → Int32 → kdM → Option (Unit × kdM)} (hk58 : ∀ (a0 : Nat) (a1 : Int) (_ : kzI a1) (a2 : Int) (_ : kzI a2) (a3 : Int) (_ : kzI a3) (a4 : Int) (_ : kzI a4), CRu (k58' a0 a1 a2 a3 a4) (k58 a0 (Int32.ofInt a1) (Int32.ofInt a2) (Int32.ofInt a3) (Int32.ofInt a4))) {k70' : Nat → Int → Int → Int → Int → Int → kzM → Option (Unit × kzM)} {k70 : Nat → Int32 → Int32 → Int32 → Int32 → Int32 → kdM → Option (Unit × kdM)} (hk70 : ∀ (a0 : Nat) (a1 : Int) (_ : kzI a1) (a2 : Int) (_ : kzI a2) (a3 : Int) (_ : kzI a3) (a4 : Int) (_ : kzI a4) (a5 : Int) (_ : kzI a5), CRu (k70' a0 a1 a2 a3 a4 a5) (k70 a0 (Int32.ofInt a1) (Int32.ofInt a2) (Int32.ofInt a3) (Int32.ofInt a4) (Int32.ofInt a5))) (l0 : Nat) {l2 : Int} (hl2 : kzI l2) {l3 : Int} (hl3 : kzI l3) {l4 : Int} (hl4 : kzI l4) {l5 : Int} (hl5 : kzI l5) {l6 : Int} (hl6 : kzI l6) : CRu (Z12_findSteps_139 G k49' k58' k70' l0 l2 l3 l4 l5 l6) (X12_findSteps_139 G k49 k58 k70 l0 (Int32.ofInt l2) (Int32.ofInt l3) (Int32.ofInt l4) (Int32.ofInt l5) (Int32.ofInt l6)) := by
  unfold Z12_findSteps_139 X12_findSteps_139
  exact c_lI (kz_add rfl rfl) (fun t1 ht1 => (hk70 l0 _ hl2 _ hl3 _ hl4 _ hl5 _ ht1))
def Z12_findSteps_70B (G : kdS) (k49 : Nat → Int → Int → Int → kzM → Option (Unit × kzM)) (k58 : Nat → Int → Int → Int → Int → kzM → Option (Unit × kzM)) (k70 : Nat → Int → Int → Int → Int → Int → kzM → Option (Unit × kzM)) (l0 : Nat) (l2 : Int) (l3 : Int) (l4 : Int) (l5 : Int) (l6 : Int) : kzM → Option (Unit × kzM) :=
  zgI G 12 65 l0 fun t1 =>
  zcnd (t1 ≤ l6)
  (Z12_findSteps_145 G k49 k58 l0 l2 l3 l4 l5)
  (zgR G 12 64 l0 fun t2 =>
  zaI G t2 l5 fun t3 =>
  zcnd (t3 = l4)
  (zgR G 12 64 l0 fun t4 =>
  zaI G t4 l6 fun t5 =>
  zcnd (t5 = (1000000000 : Int))
  (zgR G 12 63 l0 fun t6 =>
  zaI G t6 l6 fun t7 =>
  zcnd (l2 < t7)
  (Z12_findSteps_139 G k49 k58 k70 l0 l2 l3 l4 l5 l6)
  (zcv G 12 l0 (Z12_areOneApart G l0 l5 l6) fun t8 =>
  zcnd (t8 = (0 : Int))
  (Z12_findSteps_139 G k49 k58 k70 l0 l2 l3 l4 l5 l6)
  (zgR G 12 64 l0 fun t9 =>
  zlI (l4 + (1 : Int)) fun u1 =>
  ztI G t9 l6 u1 <|
  Z12_findSteps_139 G k49 k58 k70 l0 l2 (1 : Int) l4 l5 l6)))
  (Z12_findSteps_139 G k49 k58 k70 l0 l2 l3 l4 l5 l6))
  (Z12_findSteps_145 G k49 k58 l0 l2 l3 l4 l5))
theorem qX12_findSteps_70B {G : kdS} (hG : kzG G) {k49' : Nat → Int → Int → Int → kzM → Option (Unit × kzM)} {k49 : Nat → Int32 → Int32 → Int32 → kdM → Option (Unit × kdM)} (hk49 : ∀ (a0 : Nat) (a1 : Int) (_ : kzI a1) (a2 : Int) (_ : kzI a2) (a3 : Int) (_ : kzI a3), CRu (k49' a0 a1 a2 a3) (k49 a0 (Int32.ofInt a1) (Int32.ofInt a2) (Int32.ofInt a3))) {k58' : Nat → Int → Int → Int → Int → kzM → Option (Unit × kzM)} {k58 : Nat → Int32 → Int32 → Int32 → Int32 → kdM → Option (Unit × kdM)} (hk58 : ∀ (a0 : Nat) (a1 : Int) (_ : kzI a1) (a2 : Int) (_ : kzI a2) (a3 : Int) (_ : kzI a3) (a4 : Int) (_ : kzI a4), CRu (k58' a0 a1 a2 a3 a4) (k58 a0 (Int32.ofInt a1) (Int32.ofInt a2) (Int32.ofInt a3) (Int32.ofInt a4))) {k70' : Nat → Int → Int → Int → Int → Int → kzM → Option (Unit × kzM)} {k70 : Nat → Int32 → Int32 → Int32 → Int32 → Int32 → kdM → Option (Unit × kdM)} (hk70 : ∀ (a0 : Nat) (a1 : Int) (_ : kzI a1) (a2 : Int) (_ : kzI a2) (a3 : Int) (_ : kzI a3) (a4 : Int) (_ : kzI a4) (a5 : Int) (_ : kzI a5), CRu (k70' a0 a1 a2 a3 a4 a5) (k70 a0 (Int32.ofInt a1) (Int32.ofInt a2) (Int32.ofInt a3) (Int32.ofInt a4) (Int32.ofInt a5))) (l0 : Nat) {l2 : Int} (hl2 : kzI l2) {l3 : Int} (hl3 : kzI l3) {l4 : Int} (hl4 : kzI l4) {l5 : Int} (hl5 : kzI l5) {l6 : Int} (hl6 : kzI l6) : CRu (Z12_findSteps_70B G k49' k58' k70' l0 l2 l3 l4 l5 l6) (X12_findSteps_70B G k49 k58 k70 l0 (Int32.ofInt l2) (Int32.ofInt l3) (Int32.ofInt l4) (Int32.ofInt l5) (Int32.ofInt l6)) := by
  unfold Z12_findSteps_70B X12_findSteps_70B
  exact c_gI rfl (fun t1 ht1 => c_cnd (kz_le ht1 hl6 rfl rfl) ((qX12_findSteps_145 hG hk49 hk58 l0 hl2 hl3 hl4 hl5)) (c_gR (fun t2 => c_aI hG rfl (fun t3 ht3 => c_cnd (kz_eq ht3 hl4 rfl rfl) (c_gR (fun t4 => c_aI hG rfl (fun t5 ht5 => c_cnd (kz_eq ht5 (by unfold kzI; omega) rfl rfl) (c_gR (fun t6 => c_aI hG rfl (fun t7 ht7 => c_cnd (kz_lt hl2 ht7 rfl rfl) ((qX12_findSteps_139 hG hk49 hk58 hk70 l0 hl2 hl3 hl4 hl5 hl6)) (c_cv (qX12_areOneApart hG l0 hl5 hl6) (fun t8 ht8 => c_cnd (kz_eq ht8 (by unfold kzI; omega) rfl rfl) ((qX12_findSteps_139 hG hk49 hk58 hk70 l0 hl2 hl3 hl4 hl5 hl6)) (c_gR (fun t9 => c_rg (kz_add rfl rfl) fun u1 r1 e1 => c_tI hG rfl r1 e1 ((qX12_findSteps_139 hG hk49 hk58 hk70 l0 hl2 (by unfold kzI; omega) hl4 hl5 hl6))))))))) ((qX12_findSteps_139 hG hk49 hk58 hk70 l0 hl2 hl3 hl4 hl5 hl6))))) ((qX12_findSteps_145 hG hk49 hk58 l0 hl2 hl3 hl4 hl5))))))
def Z12_findSteps_70 (G : kdS) (k49 : Nat → Int → Int → Int → kzM → Option (Unit × kzM)) (k58 : Nat → Int → Int → Int → Int → kzM → Option (Unit × kzM)) : Nat → Int → Int → Int → Int → Int → kzM → Option (Unit × kzM) := lp (fun _ _ _ _ _ _ _ => none) (Z12_findSteps_70B G k49 k58) NN
theorem qX12_findSteps_70 {G : kdS} (hG : kzG G) {k49' : Nat → Int → Int → Int → kzM → Option (Unit × kzM)} {k49 : Nat → Int32 → Int32 → Int32 → kdM → Option (Unit × kdM)} (hk49 : ∀ (a0 : Nat) (a1 : Int) (_ : kzI a1) (a2 : Int) (_ : kzI a2) (a3 : Int) (_ : kzI a3), CRu (k49' a0 a1 a2 a3) (k49 a0 (Int32.ofInt a1) (Int32.ofInt a2) (Int32.ofInt a3))) {k58' : Nat → Int → Int → Int → Int → kzM → Option (Unit × kzM)} {k58 : Nat → Int32 → Int32 → Int32 → Int32 → kdM → Option (Unit × kdM)} (hk58 : ∀ (a0 : Nat) (a1 : Int) (_ : kzI a1) (a2 : Int) (_ : kzI a2) (a3 : Int) (_ : kzI a3) (a4 : Int) (_ : kzI a4), CRu (k58' a0 a1 a2 a3 a4) (k58 a0 (Int32.ofInt a1) (Int32.ofInt a2) (Int32.ofInt a3) (Int32.ofInt a4))) : ∀ (a0 : Nat) (a1 : Int) (_ : kzI a1) (a2 : Int) (_ : kzI a2) (a3 : Int) (_ : kzI a3) (a4 : Int) (_ : kzI a4) (a5 : Int) (_ : kzI a5), CRu (Z12_findSteps_70 G k49' k58' a0 a1 a2 a3 a4 a5) (X12_findSteps_70 G k49 k58 a0 (Int32.ofInt a1) (Int32.ofInt a2) (Int32.ofInt a3) (Int32.ofInt a4) (Int32.ofInt a5)) :=
  lp_rel (R := fun (f' : Nat → Int → Int → Int → Int → Int → kzM → Option (Unit × kzM)) (f : Nat → Int32 → Int32 → Int32 → Int32 → Int32 → kdM → Option (Unit × kdM)) => ∀ (a0 : Nat) (a1 : Int) (_ : kzI a1) (a2 : Int) (_ : kzI a2) (a3 : Int) (_ : kzI a3) (a4 : Int) (_ : kzI a4) (a5 : Int) (_ : kzI a5), CRu (f' a0 a1 a2 a3 a4 a5) (f a0 (Int32.ofInt a1) (Int32.ofInt a2) (Int32.ofInt a3) (Int32.ofInt a4) (Int32.ofInt a5))) (by intros; exact c_no) (fun _ _ hf a0 a1 ha1 a2 ha2 a3 ha3 a4 ha4 a5 ha5 => qX12_findSteps_70B hG hk49 hk58 hf a0 ha1 ha2 ha3 ha4 ha5) NN
def Z12_findSteps_58B (G : kdS) (k49 : Nat → Int → Int → Int → kzM → Option (Unit × kzM)) (k58 : Nat → Int → Int → Int → Int → kzM → Option (Unit × kzM)) (l0 : Nat) (l2 : Int) (l3 : Int) (l4 : Int) (l5 : Int) : kzM → Option (Unit × kzM) :=
  zgI G 12 65 l0 fun t1 =>
  zcnd (t1 ≤ l5)
  (zlI (l4 + (1 : Int)) fun t2 =>
  k49 l0 l2 l3 t2)
  (Z12_findSteps_70 G k49 k58 l0 l2 l3 l4 l5 (0 : Int))
theorem qX12_findSteps_58B {G : kdS} (hG : kzG G) {k49' : Nat → Int → Int → Int → kzM → Option (Unit × kzM)} {k49 : Nat → Int32 → Int32 → Int32 → kdM → Option (Unit × kdM)} (hk49 : ∀ (a0 : Nat) (a1 : Int) (_ : kzI a1) (a2 : Int) (_ : kzI a2) (a3 : Int) (_ : kzI a3), CRu (k49' a0 a1 a2 a3) (k49 a0 (Int32.ofInt a1) (Int32.ofInt a2) (Int32.ofInt a3))) {k58' : Nat → Int → Int → Int → Int → kzM → Option (Unit × kzM)} {k58 : Nat → Int32 → Int32 → Int32 → Int32 → kdM → Option (Unit × kdM)} (hk58 : ∀ (a0 : Nat) (a1 : Int) (_ : kzI a1) (a2 : Int) (_ : kzI a2) (a3 : Int) (_ : kzI a3) (a4 : Int) (_ : kzI a4), CRu (k58' a0 a1 a2 a3 a4) (k58 a0 (Int32.ofInt a1) (Int32.ofInt a2) (Int32.ofInt a3) (Int32.ofInt a4))) (l0 : Nat) {l2 : Int} (hl2 : kzI l2) {l3 : Int} (hl3 : kzI l3) {l4 : Int} (hl4 : kzI l4) {l5 : Int} (hl5 : kzI l5) : CRu (Z12_findSteps_58B G k49' k58' l0 l2 l3 l4 l5) (X12_findSteps_58B G k49 k58 l0 (Int32.ofInt l2) (Int32.ofInt l3) (Int32.ofInt l4) (Int32.ofInt l5)) := by
  unfold Z12_findSteps_58B X12_findSteps_58B
  exact c_gI rfl (fun t1 ht1 => c_cnd (kz_le ht1 hl5 rfl rfl) (c_lI (kz_add rfl rfl) (fun t2 ht2 => (hk49 l0 _ hl2 _ hl3 _ ht2))) ((qX12_findSteps_70 hG hk49 hk58 l0 _ hl2 _ hl3 _ hl4 _ hl5 _ (by unfold kzI; omega))))
def Z12_findSteps_58 (G : kdS) (k49 : Nat → Int → Int → Int → kzM → Option (Unit × kzM)) : Nat → Int → Int → Int → Int → kzM → Option (Unit × kzM) := lp (fun _ _ _ _ _ _ => none) (Z12_findSteps_58B G k49) NN
theorem qX12_findSteps_58 {G : kdS} (hG : kzG G) {k49' : Nat → Int → Int → Int → kzM → Option (Unit × kzM)} {k49 : Nat → Int32 → Int32 → Int32 → kdM → Option (Unit × kdM)} (hk49 : ∀ (a0 : Nat) (a1 : Int) (_ : kzI a1) (a2 : Int) (_ : kzI a2) (a3 : Int) (_ : kzI a3), CRu (k49' a0 a1 a2 a3) (k49 a0 (Int32.ofInt a1) (Int32.ofInt a2) (Int32.ofInt a3))) : ∀ (a0 : Nat) (a1 : Int) (_ : kzI a1) (a2 : Int) (_ : kzI a2) (a3 : Int) (_ : kzI a3) (a4 : Int) (_ : kzI a4), CRu (Z12_findSteps_58 G k49' a0 a1 a2 a3 a4) (X12_findSteps_58 G k49 a0 (Int32.ofInt a1) (Int32.ofInt a2) (Int32.ofInt a3) (Int32.ofInt a4)) :=
  lp_rel (R := fun (f' : Nat → Int → Int → Int → Int → kzM → Option (Unit × kzM)) (f : Nat → Int32 → Int32 → Int32 → Int32 → kdM → Option (Unit × kdM)) => ∀ (a0 : Nat) (a1 : Int) (_ : kzI a1) (a2 : Int) (_ : kzI a2) (a3 : Int) (_ : kzI a3) (a4 : Int) (_ : kzI a4), CRu (f' a0 a1 a2 a3 a4) (f a0 (Int32.ofInt a1) (Int32.ofInt a2) (Int32.ofInt a3) (Int32.ofInt a4))) (by intros; exact c_no) (fun _ _ hf a0 a1 ha1 a2 ha2 a3 ha3 a4 ha4 => qX12_findSteps_58B hG hk49 hf a0 ha1 ha2 ha3 ha4) NN
def Z12_findSteps_49B (G : kdS) (k49 : Nat → Int → Int → Int → kzM → Option (Unit × kzM)) (l0 : Nat) (l2 : Int) (l3 : Int) (l4 : Int) : kzM → Option (Unit × kzM) :=
  zcnd (l3 = (0 : Int))
  (zrt ())
  (Z12_findSteps_58 G k49 l0 l2 (0 : Int) l4 (0 : Int))
theorem qX12_findSteps_49B {G : kdS} (hG : kzG G) {k49' : Nat → Int → Int → Int → kzM → Option (Unit × kzM)} {k49 : Nat → Int32 → Int32 → Int32 → kdM → Option (Unit × kdM)} (hk49 : ∀ (a0 : Nat) (a1 : Int) (_ : kzI a1) (a2 : Int) (_ : kzI a2) (a3 : Int) (_ : kzI a3), CRu (k49' a0 a1 a2 a3) (k49 a0 (Int32.ofInt a1) (Int32.ofInt a2) (Int32.ofInt a3))) (l0 : Nat) {l2 : Int} (hl2 : kzI l2) {l3 : Int} (hl3 : kzI l3) {l4 : Int} (hl4 : kzI l4) : CRu (Z12_findSteps_49B G k49' l0 l2 l3 l4) (X12_findSteps_49B G k49 l0 (Int32.ofInt l2) (Int32.ofInt l3) (Int32.ofInt l4)) := by
  unfold Z12_findSteps_49B X12_findSteps_49B
  exact c_cnd (kz_eq hl3 (by unfold kzI; omega) rfl rfl) (c_rt trivial rfl) ((qX12_findSteps_58 hG hk49 l0 _ hl2 _ (by unfold kzI; omega) _ hl4 _ (by unfold kzI; omega)))
def Z12_findSteps_49 (G : kdS) : Nat → Int → Int → Int → kzM → Option (Unit × kzM) := lp (fun _ _ _ _ _ => none) (Z12_findSteps_49B G) NN
theorem qX12_findSteps_49 {G : kdS} (hG : kzG G) : ∀ (a0 : Nat) (a1 : Int) (_ : kzI a1) (a2 : Int) (_ : kzI a2) (a3 : Int) (_ : kzI a3), CRu (Z12_findSteps_49 G a0 a1 a2 a3) (X12_findSteps_49 G a0 (Int32.ofInt a1) (Int32.ofInt a2) (Int32.ofInt a3)) :=
  lp_rel (R := fun (f' : Nat → Int → Int → Int → kzM → Option (Unit × kzM)) (f : Nat → Int32 → Int32 → Int32 → kdM → Option (Unit × kdM)) => ∀ (a0 : Nat) (a1 : Int) (_ : kzI a1) (a2 : Int) (_ : kzI a2) (a3 : Int) (_ : kzI a3), CRu (f' a0 a1 a2 a3) (f a0 (Int32.ofInt a1) (Int32.ofInt a2) (Int32.ofInt a3))) (by intros; exact c_no) (fun _ _ hf a0 a1 ha1 a2 ha2 a3 ha3 => qX12_findSteps_49B hG hf a0 ha1 ha2 ha3) NN
def Z12_findSteps_2B (G : kdS) (k2 : Nat → Int → Int → Int → kzM → Option (Unit × kzM)) (l0 : Nat) (l1 : Int) (l2 : Int) (l3 : Int) : kzM → Option (Unit × kzM) :=
  zgI G 12 65 l0 fun t1 =>
  zcnd (t1 ≤ l3)
  (Z12_findSteps_49 G l0 l2 (1 : Int) (0 : Int))
  (zgR G 12 64 l0 fun t2 =>
  zcnd (l3 = l1)
  (zgR G 12 63 l0 fun t3 =>
  zaI G t3 l3 fun t4 =>
  zcnd (l2 < t4)
  (Z12_findSteps_34 G k2 l0 l1 l2 l3 t2 l3)
  (Z12_findSteps_37 G k2 l0 l1 l2 l3 t2 l3 (0 : Int)))
  (Z12_findSteps_34 G k2 l0 l1 l2 l3 t2 l3))
theorem qX12_findSteps_2B {G : kdS} (hG : kzG G) {k2' : Nat → Int → Int → Int → kzM → Option (Unit × kzM)} {k2 : Nat → Int32 → Int32 → Int32 → kdM → Option (Unit × kdM)} (hk2 : ∀ (a0 : Nat) (a1 : Int) (_ : kzI a1) (a2 : Int) (_ : kzI a2) (a3 : Int) (_ : kzI a3), CRu (k2' a0 a1 a2 a3) (k2 a0 (Int32.ofInt a1) (Int32.ofInt a2) (Int32.ofInt a3))) (l0 : Nat) {l1 : Int} (hl1 : kzI l1) {l2 : Int} (hl2 : kzI l2) {l3 : Int} (hl3 : kzI l3) : CRu (Z12_findSteps_2B G k2' l0 l1 l2 l3) (X12_findSteps_2B G k2 l0 (Int32.ofInt l1) (Int32.ofInt l2) (Int32.ofInt l3)) := by
  unfold Z12_findSteps_2B X12_findSteps_2B
  exact c_gI rfl (fun t1 ht1 => c_cnd (kz_le ht1 hl3 rfl rfl) ((qX12_findSteps_49 hG l0 _ hl2 _ (by unfold kzI; omega) _ (by unfold kzI; omega))) (c_gR (fun t2 => c_cnd (kz_eq hl3 hl1 rfl rfl) (c_gR (fun t3 => c_aI hG rfl (fun t4 ht4 => c_cnd (kz_lt hl2 ht4 rfl rfl) ((qX12_findSteps_34 hG hk2 l0 hl1 hl2 hl3 t2 hl3)) ((qX12_findSteps_37 hG hk2 l0 hl1 hl2 hl3 t2 hl3 (by unfold kzI; omega)))))) ((qX12_findSteps_34 hG hk2 l0 hl1 hl2 hl3 t2 hl3)))))
def Z12_findSteps_2 (G : kdS) : Nat → Int → Int → Int → kzM → Option (Unit × kzM) := lp (fun _ _ _ _ _ => none) (Z12_findSteps_2B G) NN
theorem qX12_findSteps_2 {G : kdS} (hG : kzG G) : ∀ (a0 : Nat) (a1 : Int) (_ : kzI a1) (a2 : Int) (_ : kzI a2) (a3 : Int) (_ : kzI a3), CRu (Z12_findSteps_2 G a0 a1 a2 a3) (X12_findSteps_2 G a0 (Int32.ofInt a1) (Int32.ofInt a2) (Int32.ofInt a3)) :=
  lp_rel (R := fun (f' : Nat → Int → Int → Int → kzM → Option (Unit × kzM)) (f : Nat → Int32 → Int32 → Int32 → kdM → Option (Unit × kdM)) => ∀ (a0 : Nat) (a1 : Int) (_ : kzI a1) (a2 : Int) (_ : kzI a2) (a3 : Int) (_ : kzI a3), CRu (f' a0 a1 a2 a3) (f a0 (Int32.ofInt a1) (Int32.ofInt a2) (Int32.ofInt a3))) (by intros; exact c_no) (fun _ _ hf a0 a1 ha1 a2 ha2 a3 ha3 => qX12_findSteps_2B hG hf a0 ha1 ha2 ha3) NN
def Z12_findSteps (G : kdS) (l0 : Nat) (l1 : Int) (l2 : Int) : kzM → Option (Unit × kzM) :=
  Z12_findSteps_2 G l0 l1 l2 (0 : Int)
theorem qX12_findSteps {G : kdS} (hG : kzG G) (l0 : Nat) {l1 : Int} (hl1 : kzI l1) {l2 : Int} (hl2 : kzI l2) : CRu (Z12_findSteps G l0 l1 l2) (X12_findSteps G l0 (Int32.ofInt l1) (Int32.ofInt l2)) := by
  unfold Z12_findSteps X12_findSteps
  exact (qX12_findSteps_2 hG l0 _ hl1 _ hl2 _ (by unfold kzI; omega))
def Z12_indexOf_2B (G : kdS) (k2 : Nat → Int → Int → kzM → Option (Int × kzM)) (l0 : Nat) (l1 : Int) (l2 : Int) : kzM → Option (Int × kzM) :=
  zgR G 12 62 l0 fun t1 =>
  zaI G t1 l2 fun t2 =>
  zcnd (t2 = l1)
  (zrt l2)
  (zlI (l2 + (1 : Int)) fun t3 =>
  k2 l0 l1 t3)
theorem qX12_indexOf_2B {G : kdS} (hG : kzG G) {k2' : Nat → Int → Int → kzM → Option (Int × kzM)} {k2 : Nat → Int32 → Int32 → kdM → Option (Int32 × kdM)} (hk2 : ∀ (a0 : Nat) (a1 : Int) (_ : kzI a1) (a2 : Int) (_ : kzI a2), CRi (k2' a0 a1 a2) (k2 a0 (Int32.ofInt a1) (Int32.ofInt a2))) (l0 : Nat) {l1 : Int} (hl1 : kzI l1) {l2 : Int} (hl2 : kzI l2) : CRi (Z12_indexOf_2B G k2' l0 l1 l2) (X12_indexOf_2B G k2 l0 (Int32.ofInt l1) (Int32.ofInt l2)) := by
  unfold Z12_indexOf_2B X12_indexOf_2B
  exact c_gR (fun t1 => c_aI hG rfl (fun t2 ht2 => c_cnd (kz_eq ht2 hl1 rfl rfl) (c_rt hl2 rfl) (c_lI (kz_add rfl rfl) (fun t3 ht3 => (hk2 l0 _ hl1 _ ht3)))))
def Z12_indexOf_2 (G : kdS) : Nat → Int → Int → kzM → Option (Int × kzM) := lp (fun _ _ _ _ => none) (Z12_indexOf_2B G) NN
theorem qX12_indexOf_2 {G : kdS} (hG : kzG G) : ∀ (a0 : Nat) (a1 : Int) (_ : kzI a1) (a2 : Int) (_ : kzI a2), CRi (Z12_indexOf_2 G a0 a1 a2) (X12_indexOf_2 G a0 (Int32.ofInt a1) (Int32.ofInt a2)) :=
  lp_rel (R := fun (f' : Nat → Int → Int → kzM → Option (Int × kzM)) (f : Nat → Int32 → Int32 → kdM → Option (Int32 × kdM)) => ∀ (a0 : Nat) (a1 : Int) (_ : kzI a1) (a2 : Int) (_ : kzI a2), CRi (f' a0 a1 a2) (f a0 (Int32.ofInt a1) (Int32.ofInt a2))) (by intros; exact c_no) (fun _ _ hf a0 a1 ha1 a2 ha2 => qX12_indexOf_2B hG hf a0 ha1 ha2) NN
def Z12_indexOf (G : kdS) (l0 : Nat) (l1 : Int) : kzM → Option (Int × kzM) :=
  Z12_indexOf_2 G l0 l1 (0 : Int)
theorem qX12_indexOf {G : kdS} (hG : kzG G) (l0 : Nat) {l1 : Int} (hl1 : kzI l1) : CRi (Z12_indexOf G l0 l1) (X12_indexOf G l0 (Int32.ofInt l1)) := by
  unfold Z12_indexOf X12_indexOf
  exact (qX12_indexOf_2 hG l0 _ hl1 _ (by unfold kzI; omega))
def Z12_leastMost_101 (G : kdS) (k37 : Nat → Int → Int → Int → kzM → Option (Int × kzM)) (k57 : Nat → Int → Int → Int → Int → Int → kzM → Option (Int × kzM)) (l0 : Nat) (l1 : Int) (l2 : Int) (l3 : Int) (l5 : Int) (s0 : Int) : kzM → Option (Int × kzM) :=
  zlI (l5 + (1 : Int)) fun t1 =>
  k57 l0 l1 l2 l3 s0 t1
theorem qX12_leastMost_101 {G : kdS} (hG : kzG G) {k37' : Nat → Int → Int → Int → kzM → Option (Int × kzM)} {k37 : Nat → Int32 → Int32 → Int32 → kdM → Option (Int32 × kdM)} (hk37 : ∀ (a0 : Nat) (a1 : Int) (_ : kzI a1) (a2 : Int) (_ : kzI a2) (a3 : Int) (_ : kzI a3), CRi (k37' a0 a1 a2 a3) (k37 a0 (Int32.ofInt a1) (Int32.ofInt a2) (Int32.ofInt a3))) {k57' : Nat → Int → Int → Int → Int → Int → kzM → Option (Int × kzM)} {k57 : Nat → Int32 → Int32 → Int32 → Int32 → Int32 → kdM → Option (Int32 × kdM)} (hk57 : ∀ (a0 : Nat) (a1 : Int) (_ : kzI a1) (a2 : Int) (_ : kzI a2) (a3 : Int) (_ : kzI a3) (a4 : Int) (_ : kzI a4) (a5 : Int) (_ : kzI a5), CRi (k57' a0 a1 a2 a3 a4 a5) (k57 a0 (Int32.ofInt a1) (Int32.ofInt a2) (Int32.ofInt a3) (Int32.ofInt a4) (Int32.ofInt a5))) (l0 : Nat) {l1 : Int} (hl1 : kzI l1) {l2 : Int} (hl2 : kzI l2) {l3 : Int} (hl3 : kzI l3) {l5 : Int} (hl5 : kzI l5) {s0 : Int} (hs0 : kzI s0) : CRi (Z12_leastMost_101 G k37' k57' l0 l1 l2 l3 l5 s0) (X12_leastMost_101 G k37 k57 l0 (Int32.ofInt l1) (Int32.ofInt l2) (Int32.ofInt l3) (Int32.ofInt l5) (Int32.ofInt s0)) := by
  unfold Z12_leastMost_101 X12_leastMost_101
  exact c_lI (kz_add rfl rfl) (fun t1 ht1 => (hk57 l0 _ hl1 _ hl2 _ hl3 _ hs0 _ ht1))
def Z12_leastMost_99 (G : kdS) (k37 : Nat → Int → Int → Int → kzM → Option (Int × kzM)) (k57 : Nat → Int → Int → Int → Int → Int → kzM → Option (Int × kzM)) (l0 : Nat) (l1 : Int) (l2 : Int) (l3 : Int) (l4 : Int) (l5 : Int) : kzM → Option (Int × kzM) :=
  Z12_leastMost_101 G k37 k57 l0 l1 l2 l3 l5 l4
theorem qX12_leastMost_99 {G : kdS} (hG : kzG G) {k37' : Nat → Int → Int → Int → kzM → Option (Int × kzM)} {k37 : Nat → Int32 → Int32 → Int32 → kdM → Option (Int32 × kdM)} (hk37 : ∀ (a0 : Nat) (a1 : Int) (_ : kzI a1) (a2 : Int) (_ : kzI a2) (a3 : Int) (_ : kzI a3), CRi (k37' a0 a1 a2 a3) (k37 a0 (Int32.ofInt a1) (Int32.ofInt a2) (Int32.ofInt a3))) {k57' : Nat → Int → Int → Int → Int → Int → kzM → Option (Int × kzM)} {k57 : Nat → Int32 → Int32 → Int32 → Int32 → Int32 → kdM → Option (Int32 × kdM)} (hk57 : ∀ (a0 : Nat) (a1 : Int) (_ : kzI a1) (a2 : Int) (_ : kzI a2) (a3 : Int) (_ : kzI a3) (a4 : Int) (_ : kzI a4) (a5 : Int) (_ : kzI a5), CRi (k57' a0 a1 a2 a3 a4 a5) (k57 a0 (Int32.ofInt a1) (Int32.ofInt a2) (Int32.ofInt a3) (Int32.ofInt a4) (Int32.ofInt a5))) (l0 : Nat) {l1 : Int} (hl1 : kzI l1) {l2 : Int} (hl2 : kzI l2) {l3 : Int} (hl3 : kzI l3) {l4 : Int} (hl4 : kzI l4) {l5 : Int} (hl5 : kzI l5) : CRi (Z12_leastMost_99 G k37' k57' l0 l1 l2 l3 l4 l5) (X12_leastMost_99 G k37 k57 l0 (Int32.ofInt l1) (Int32.ofInt l2) (Int32.ofInt l3) (Int32.ofInt l4) (Int32.ofInt l5)) := by
  unfold Z12_leastMost_99 X12_leastMost_99
  exact (qX12_leastMost_101 hG hk37 hk57 l0 hl1 hl2 hl3 hl5 hl4)
def Z12_leastMost_57B (G : kdS) (k37 : Nat → Int → Int → Int → kzM → Option (Int × kzM)) (k57 : Nat → Int → Int → Int → Int → Int → kzM → Option (Int × kzM)) (l0 : Nat) (l1 : Int) (l2 : Int) (l3 : Int) (l4 : Int) (l5 : Int) : kzM → Option (Int × kzM) :=
  zgI G 12 65 l0 fun t1 =>
  zcnd (t1 ≤ l5)
  (zcv G 12 l0 (Z12_findSteps G l0 l2 l4) fun _ =>
  k37 l0 l1 l2 l4)
  (zgR G 12 63 l0 fun t2 =>
  zaI G t2 l5 fun t3 =>
  zcnd (t3 ≤ l3)
  (Z12_leastMost_99 G k37 k57 l0 l1 l2 l3 l4 l5)
  (zgR G 12 63 l0 fun t4 =>
  zaI G t4 l5 fun t5 =>
  zcnd (l4 ≤ t5)
  (Z12_leastMost_99 G k37 k57 l0 l1 l2 l3 l4 l5)
  (zgR G 12 63 l0 fun t6 =>
  zaI G t6 l5 fun t7 =>
  Z12_leastMost_101 G k37 k57 l0 l1 l2 l3 l5 t7)))
theorem qX12_leastMost_57B {G : kdS} (hG : kzG G) {k37' : Nat → Int → Int → Int → kzM → Option (Int × kzM)} {k37 : Nat → Int32 → Int32 → Int32 → kdM → Option (Int32 × kdM)} (hk37 : ∀ (a0 : Nat) (a1 : Int) (_ : kzI a1) (a2 : Int) (_ : kzI a2) (a3 : Int) (_ : kzI a3), CRi (k37' a0 a1 a2 a3) (k37 a0 (Int32.ofInt a1) (Int32.ofInt a2) (Int32.ofInt a3))) {k57' : Nat → Int → Int → Int → Int → Int → kzM → Option (Int × kzM)} {k57 : Nat → Int32 → Int32 → Int32 → Int32 → Int32 → kdM → Option (Int32 × kdM)} (hk57 : ∀ (a0 : Nat) (a1 : Int) (_ : kzI a1) (a2 : Int) (_ : kzI a2) (a3 : Int) (_ : kzI a3) (a4 : Int) (_ : kzI a4) (a5 : Int) (_ : kzI a5), CRi (k57' a0 a1 a2 a3 a4 a5) (k57 a0 (Int32.ofInt a1) (Int32.ofInt a2) (Int32.ofInt a3) (Int32.ofInt a4) (Int32.ofInt a5))) (l0 : Nat) {l1 : Int} (hl1 : kzI l1) {l2 : Int} (hl2 : kzI l2) {l3 : Int} (hl3 : kzI l3) {l4 : Int} (hl4 : kzI l4) {l5 : Int} (hl5 : kzI l5) : CRi (Z12_leastMost_57B G k37' k57' l0 l1 l2 l3 l4 l5) (X12_leastMost_57B G k37 k57 l0 (Int32.ofInt l1) (Int32.ofInt l2) (Int32.ofInt l3) (Int32.ofInt l4) (Int32.ofInt l5)) := by
  unfold Z12_leastMost_57B X12_leastMost_57B
  exact c_gI rfl (fun t1 ht1 => c_cnd (kz_le ht1 hl5 rfl rfl) (c_cv (qX12_findSteps hG l0 hl2 hl4) (fun _ _ => (hk37 l0 _ hl1 _ hl2 _ hl4))) (c_gR (fun t2 => c_aI hG rfl (fun t3 ht3 => c_cnd (kz_le ht3 hl3 rfl rfl) ((qX12_leastMost_99 hG hk37 hk57 l0 hl1 hl2 hl3 hl4 hl5)) (c_gR (fun t4 => c_aI hG rfl (fun t5 ht5 => c_cnd (kz_le hl4 ht5 rfl rfl) ((qX12_leastMost_99 hG hk37 hk57 l0 hl1 hl2 hl3 hl4 hl5)) (c_gR (fun t6 => c_aI hG rfl (fun t7 ht7 => (qX12_leastMost_101 hG hk37 hk57 l0 hl1 hl2 hl3 hl5 ht7)))))))))))
def Z12_leastMost_57 (G : kdS) (k37 : Nat → Int → Int → Int → kzM → Option (Int × kzM)) : Nat → Int → Int → Int → Int → Int → kzM → Option (Int × kzM) := lp (fun _ _ _ _ _ _ _ => none) (Z12_leastMost_57B G k37) NN
theorem qX12_leastMost_57 {G : kdS} (hG : kzG G) {k37' : Nat → Int → Int → Int → kzM → Option (Int × kzM)} {k37 : Nat → Int32 → Int32 → Int32 → kdM → Option (Int32 × kdM)} (hk37 : ∀ (a0 : Nat) (a1 : Int) (_ : kzI a1) (a2 : Int) (_ : kzI a2) (a3 : Int) (_ : kzI a3), CRi (k37' a0 a1 a2 a3) (k37 a0 (Int32.ofInt a1) (Int32.ofInt a2) (Int32.ofInt a3))) : ∀ (a0 : Nat) (a1 : Int) (_ : kzI a1) (a2 : Int) (_ : kzI a2) (a3 : Int) (_ : kzI a3) (a4 : Int) (_ : kzI a4) (a5 : Int) (_ : kzI a5), CRi (Z12_leastMost_57 G k37' a0 a1 a2 a3 a4 a5) (X12_leastMost_57 G k37 a0 (Int32.ofInt a1) (Int32.ofInt a2) (Int32.ofInt a3) (Int32.ofInt a4) (Int32.ofInt a5)) :=
  lp_rel (R := fun (f' : Nat → Int → Int → Int → Int → Int → kzM → Option (Int × kzM)) (f : Nat → Int32 → Int32 → Int32 → Int32 → Int32 → kdM → Option (Int32 × kdM)) => ∀ (a0 : Nat) (a1 : Int) (_ : kzI a1) (a2 : Int) (_ : kzI a2) (a3 : Int) (_ : kzI a3) (a4 : Int) (_ : kzI a4) (a5 : Int) (_ : kzI a5), CRi (f' a0 a1 a2 a3 a4 a5) (f a0 (Int32.ofInt a1) (Int32.ofInt a2) (Int32.ofInt a3) (Int32.ofInt a4) (Int32.ofInt a5))) (by intros; exact c_no) (fun _ _ hf a0 a1 ha1 a2 ha2 a3 ha3 a4 ha4 a5 ha5 => qX12_leastMost_57B hG hk37 hf a0 ha1 ha2 ha3 ha4 ha5) NN
def Z12_leastMost_37B (G : kdS) (k37 : Nat → Int → Int → Int → kzM → Option (Int × kzM)) (l0 : Nat) (l1 : Int) (l2 : Int) (l3 : Int) : kzM → Option (Int × kzM) :=
  zgR G 12 64 l0 fun t1 =>
  zaI G t1 l1 fun t2 =>
  zcnd (t2 = (1000000000 : Int))
  (Z12_leastMost_57 G k37 l0 l1 l2 l3 (1000000000 : Int) (0 : Int))
  (zrt l3)
theorem qX12_leastMost_37B {G : kdS} (hG : kzG G) {k37' : Nat → Int → Int → Int → kzM → Option (Int × kzM)} {k37 : Nat → Int32 → Int32 → Int32 → kdM → Option (Int32 × kdM)} (hk37 : ∀ (a0 : Nat) (a1 : Int) (_ : kzI a1) (a2 : Int) (_ : kzI a2) (a3 : Int) (_ : kzI a3), CRi (k37' a0 a1 a2 a3) (k37 a0 (Int32.ofInt a1) (Int32.ofInt a2) (Int32.ofInt a3))) (l0 : Nat) {l1 : Int} (hl1 : kzI l1) {l2 : Int} (hl2 : kzI l2) {l3 : Int} (hl3 : kzI l3) : CRi (Z12_leastMost_37B G k37' l0 l1 l2 l3) (X12_leastMost_37B G k37 l0 (Int32.ofInt l1) (Int32.ofInt l2) (Int32.ofInt l3)) := by
  unfold Z12_leastMost_37B X12_leastMost_37B
  exact c_gR (fun t1 => c_aI hG rfl (fun t2 ht2 => c_cnd (kz_eq ht2 (by unfold kzI; omega) rfl rfl) ((qX12_leastMost_57 hG hk37 l0 _ hl1 _ hl2 _ hl3 _ (by unfold kzI; omega) _ (by unfold kzI; omega))) (c_rt hl3 rfl)))
def Z12_leastMost_37 (G : kdS) : Nat → Int → Int → Int → kzM → Option (Int × kzM) := lp (fun _ _ _ _ _ => none) (Z12_leastMost_37B G) NN
theorem qX12_leastMost_37 {G : kdS} (hG : kzG G) : ∀ (a0 : Nat) (a1 : Int) (_ : kzI a1) (a2 : Int) (_ : kzI a2) (a3 : Int) (_ : kzI a3), CRi (Z12_leastMost_37 G a0 a1 a2 a3) (X12_leastMost_37 G a0 (Int32.ofInt a1) (Int32.ofInt a2) (Int32.ofInt a3)) :=
  lp_rel (R := fun (f' : Nat → Int → Int → Int → kzM → Option (Int × kzM)) (f : Nat → Int32 → Int32 → Int32 → kdM → Option (Int32 × kdM)) => ∀ (a0 : Nat) (a1 : Int) (_ : kzI a1) (a2 : Int) (_ : kzI a2) (a3 : Int) (_ : kzI a3), CRi (f' a0 a1 a2 a3) (f a0 (Int32.ofInt a1) (Int32.ofInt a2) (Int32.ofInt a3))) (by intros; exact c_no) (fun _ _ hf a0 a1 ha1 a2 ha2 a3 ha3 => qX12_leastMost_37B hG hf a0 ha1 ha2 ha3) NN
def Z12_leastMost_30 (G : kdS) (l0 : Nat) (l1 : Int) (l2 : Int) (s0 : Int) : kzM → Option (Int × kzM) :=
  zcv G 12 l0 (Z12_findSteps G l0 l2 s0) fun _ =>
  Z12_leastMost_37 G l0 l1 l2 s0
theorem qX12_leastMost_30 {G : kdS} (hG : kzG G) (l0 : Nat) {l1 : Int} (hl1 : kzI l1) {l2 : Int} (hl2 : kzI l2) {s0 : Int} (hs0 : kzI s0) : CRi (Z12_leastMost_30 G l0 l1 l2 s0) (X12_leastMost_30 G l0 (Int32.ofInt l1) (Int32.ofInt l2) (Int32.ofInt s0)) := by
  unfold Z12_leastMost_30 X12_leastMost_30
  exact c_cv (qX12_findSteps hG l0 hl2 hs0) (fun _ _ => (qX12_leastMost_37 hG l0 _ hl1 _ hl2 _ hs0))
def Z12_leastMost (G : kdS) (l0 : Nat) (l1 : Int) (l2 : Int) : kzM → Option (Int × kzM) :=
  zgR G 12 63 l0 fun t1 =>
  zaI G t1 l1 fun t2 =>
  zgR G 12 63 l0 fun t3 =>
  zaI G t3 l2 fun t4 =>
  zcnd (t2 ≤ t4)
  (zgR G 12 63 l0 fun t5 =>
  zaI G t5 l2 fun t6 =>
  Z12_leastMost_30 G l0 l1 l2 t6)
  (zgR G 12 63 l0 fun t7 =>
  zaI G t7 l1 fun t8 =>
  Z12_leastMost_30 G l0 l1 l2 t8)
theorem qX12_leastMost {G : kdS} (hG : kzG G) (l0 : Nat) {l1 : Int} (hl1 : kzI l1) {l2 : Int} (hl2 : kzI l2) : CRi (Z12_leastMost G l0 l1 l2) (X12_leastMost G l0 (Int32.ofInt l1) (Int32.ofInt l2)) := by
  unfold Z12_leastMost X12_leastMost
  exact c_gR (fun t1 => c_aI hG rfl (fun t2 ht2 => c_gR (fun t3 => c_aI hG rfl (fun t4 ht4 => c_cnd (kz_le ht2 ht4 rfl rfl) (c_gR (fun t5 => c_aI hG rfl (fun t6 ht6 => (qX12_leastMost_30 hG l0 hl1 hl2 ht6)))) (c_gR (fun t7 => c_aI hG rfl (fun t8 ht8 => (qX12_leastMost_30 hG l0 hl1 hl2 ht8))))))))
def Z12_way_16 (G : kdS) : kzM → Option (Int × kzM) :=
  zrt (-2 : Int)
theorem qX12_way_16 {G : kdS} (hG : kzG G) : CRi (Z12_way_16 G) (X12_way_16 G) := by
  unfold Z12_way_16 X12_way_16
  exact c_rt (by unfold kzI; omega) rfl
def Z12_way_138 (G : kdS) (k99 : Nat → Int → Int → Int → kzM → Option (Int × kzM)) (k108 : Nat → Int → Int → Int → Int → kzM → Option (Int × kzM)) (l0 : Nat) (l3 : Int) (l4 : Int) (l6 : Int) (l7 : Int) : kzM → Option (Int × kzM) :=
  zlI (l7 + (1 : Int)) fun t1 =>
  k108 l0 l3 l4 l6 t1
theorem qX12_way_138 {G : kdS} (hG : kzG G) {k99' : Nat → Int → Int → Int → kzM → Option (Int × kzM)} {k99 : Nat → Int32 → Int32 → Int32 → kdM → Option (Int32 × kdM)} (hk99 : ∀ (a0 : Nat) (a1 : Int) (_ : kzI a1) (a2 : Int) (_ : kzI a2) (a3 : Int) (_ : kzI a3), CRi (k99' a0 a1 a2 a3) (k99 a0 (Int32.ofInt a1) (Int32.ofInt a2) (Int32.ofInt a3))) {k108' : Nat → Int → Int → Int → Int → kzM → Option (Int × kzM)} {k108 : Nat → Int32 → Int32 → Int32 → Int32 → kdM → Option (Int32 × kdM)} (hk108 : ∀ (a0 : Nat) (a1 : Int) (_ : kzI a1) (a2 : Int) (_ : kzI a2) (a3 : Int) (_ : kzI a3) (a4 : Int) (_ : kzI a4), CRi (k108' a0 a1 a2 a3 a4) (k108 a0 (Int32.ofInt a1) (Int32.ofInt a2) (Int32.ofInt a3) (Int32.ofInt a4))) (l0 : Nat) {l3 : Int} (hl3 : kzI l3) {l4 : Int} (hl4 : kzI l4) {l6 : Int} (hl6 : kzI l6) {l7 : Int} (hl7 : kzI l7) : CRi (Z12_way_138 G k99' k108' l0 l3 l4 l6 l7) (X12_way_138 G k99 k108 l0 (Int32.ofInt l3) (Int32.ofInt l4) (Int32.ofInt l6) (Int32.ofInt l7)) := by
  unfold Z12_way_138 X12_way_138
  exact c_lI (kz_add rfl rfl) (fun t1 ht1 => (hk108 l0 _ hl3 _ hl4 _ hl6 _ ht1))
def Z12_way_108B (G : kdS) (k99 : Nat → Int → Int → Int → kzM → Option (Int × kzM)) (k108 : Nat → Int → Int → Int → Int → kzM → Option (Int × kzM)) (l0 : Nat) (l3 : Int) (l4 : Int) (l6 : Int) (l7 : Int) : kzM → Option (Int × kzM) :=
  zgR G 12 64 l0 fun t1 =>
  zaI G t1 l7 fun t2 =>
  zgR G 12 64 l0 fun t3 =>
  zaI G t3 l4 fun t4 =>
  zlI (t4 - (1 : Int)) fun u1 =>
  zcnd (t2 = u1)
  (zcv G 12 l0 (Z12_areOneApart G l0 l4 l7) fun t5 =>
  zcnd (t5 = (0 : Int))
  (Z12_way_138 G k99 k108 l0 l3 l4 l6 l7)
  (zlI (l6 + (1 : Int)) fun t6 =>
  k99 l0 l3 l7 t6))
  (Z12_way_138 G k99 k108 l0 l3 l4 l6 l7)
theorem qX12_way_108B {G : kdS} (hG : kzG G) {k99' : Nat → Int → Int → Int → kzM → Option (Int × kzM)} {k99 : Nat → Int32 → Int32 → Int32 → kdM → Option (Int32 × kdM)} (hk99 : ∀ (a0 : Nat) (a1 : Int) (_ : kzI a1) (a2 : Int) (_ : kzI a2) (a3 : Int) (_ : kzI a3), CRi (k99' a0 a1 a2 a3) (k99 a0 (Int32.ofInt a1) (Int32.ofInt a2) (Int32.ofInt a3))) {k108' : Nat → Int → Int → Int → Int → kzM → Option (Int × kzM)} {k108 : Nat → Int32 → Int32 → Int32 → Int32 → kdM → Option (Int32 × kdM)} (hk108 : ∀ (a0 : Nat) (a1 : Int) (_ : kzI a1) (a2 : Int) (_ : kzI a2) (a3 : Int) (_ : kzI a3) (a4 : Int) (_ : kzI a4), CRi (k108' a0 a1 a2 a3 a4) (k108 a0 (Int32.ofInt a1) (Int32.ofInt a2) (Int32.ofInt a3) (Int32.ofInt a4))) (l0 : Nat) {l3 : Int} (hl3 : kzI l3) {l4 : Int} (hl4 : kzI l4) {l6 : Int} (hl6 : kzI l6) {l7 : Int} (hl7 : kzI l7) : CRi (Z12_way_108B G k99' k108' l0 l3 l4 l6 l7) (X12_way_108B G k99 k108 l0 (Int32.ofInt l3) (Int32.ofInt l4) (Int32.ofInt l6) (Int32.ofInt l7)) := by
  unfold Z12_way_108B X12_way_108B
  exact c_gR (fun t1 => c_aI hG rfl (fun t2 ht2 => c_gR (fun t3 => c_aI hG rfl (fun t4 ht4 => c_rg (kz_sub rfl rfl) fun u1 r1 e1 => c_cnd (kz_eq ht2 r1 rfl e1) (c_cv (qX12_areOneApart hG l0 hl4 hl7) (fun t5 ht5 => c_cnd (kz_eq ht5 (by unfold kzI; omega) rfl rfl) ((qX12_way_138 hG hk99 hk108 l0 hl3 hl4 hl6 hl7)) (c_lI (kz_add rfl rfl) (fun t6 ht6 => (hk99 l0 _ hl3 _ hl7 _ ht6))))) ((qX12_way_138 hG hk99 hk108 l0 hl3 hl4 hl6 hl7))))))
def Z12_way_108 (G : kdS) (k99 : Nat → Int → Int → Int → kzM → Option (Int × kzM)) : Nat → Int → Int → Int → Int → kzM → Option (Int × kzM) := lp (fun _ _ _ _ _ _ => none) (Z12_way_108B G k99) NN
theorem qX12_way_108 {G : kdS} (hG : kzG G) {k99' : Nat → Int → Int → Int → kzM → Option (Int × kzM)} {k99 : Nat → Int32 → Int32 → Int32 → kdM → Option (Int32 × kdM)} (hk99 : ∀ (a0 : Nat) (a1 : Int) (_ : kzI a1) (a2 : Int) (_ : kzI a2) (a3 : Int) (_ : kzI a3), CRi (k99' a0 a1 a2 a3) (k99 a0 (Int32.ofInt a1) (Int32.ofInt a2) (Int32.ofInt a3))) : ∀ (a0 : Nat) (a1 : Int) (_ : kzI a1) (a2 : Int) (_ : kzI a2) (a3 : Int) (_ : kzI a3) (a4 : Int) (_ : kzI a4), CRi (Z12_way_108 G k99' a0 a1 a2 a3 a4) (X12_way_108 G k99 a0 (Int32.ofInt a1) (Int32.ofInt a2) (Int32.ofInt a3) (Int32.ofInt a4)) :=
  lp_rel (R := fun (f' : Nat → Int → Int → Int → Int → kzM → Option (Int × kzM)) (f : Nat → Int32 → Int32 → Int32 → Int32 → kdM → Option (Int32 × kdM)) => ∀ (a0 : Nat) (a1 : Int) (_ : kzI a1) (a2 : Int) (_ : kzI a2) (a3 : Int) (_ : kzI a3) (a4 : Int) (_ : kzI a4), CRi (f' a0 a1 a2 a3 a4) (f a0 (Int32.ofInt a1) (Int32.ofInt a2) (Int32.ofInt a3) (Int32.ofInt a4))) (by intros; exact c_no) (fun _ _ hf a0 a1 ha1 a2 ha2 a3 ha3 a4 ha4 => qX12_way_108B hG hk99 hf a0 ha1 ha2 ha3 ha4) NN
def Z12_way_99B (G : kdS) (k99 : Nat → Int → Int → Int → kzM → Option (Int × kzM)) (l0 : Nat) (l3 : Int) (l4 : Int) (l6 : Int) : kzM → Option (Int × kzM) :=
  zcnd (l3 ≤ l6)
  (zgR G 12 62 l0 fun t1 =>
  zaI G t1 l4 fun t2 =>
  zrt t2)
  (Z12_way_108 G k99 l0 l3 l4 l6 (0 : Int))
theorem qX12_way_99B {G : kdS} (hG : kzG G) {k99' : Nat → Int → Int → Int → kzM → Option (Int × kzM)} {k99 : Nat → Int32 → Int32 → Int32 → kdM → Option (Int32 × kdM)} (hk99 : ∀ (a0 : Nat) (a1 : Int) (_ : kzI a1) (a2 : Int) (_ : kzI a2) (a3 : Int) (_ : kzI a3), CRi (k99' a0 a1 a2 a3) (k99 a0 (Int32.ofInt a1) (Int32.ofInt a2) (Int32.ofInt a3))) (l0 : Nat) {l3 : Int} (hl3 : kzI l3) {l4 : Int} (hl4 : kzI l4) {l6 : Int} (hl6 : kzI l6) : CRi (Z12_way_99B G k99' l0 l3 l4 l6) (X12_way_99B G k99 l0 (Int32.ofInt l3) (Int32.ofInt l4) (Int32.ofInt l6)) := by
  unfold Z12_way_99B X12_way_99B
  exact c_cnd (kz_le hl3 hl6 rfl rfl) (c_gR (fun t1 => c_aI hG rfl (fun t2 ht2 => c_rt ht2 rfl))) ((qX12_way_108 hG hk99 l0 _ hl3 _ hl4 _ hl6 _ (by unfold kzI; omega)))
def Z12_way_99 (G : kdS) : Nat → Int → Int → Int → kzM → Option (Int × kzM) := lp (fun _ _ _ _ _ => none) (Z12_way_99B G) NN
theorem qX12_way_99 {G : kdS} (hG : kzG G) : ∀ (a0 : Nat) (a1 : Int) (_ : kzI a1) (a2 : Int) (_ : kzI a2) (a3 : Int) (_ : kzI a3), CRi (Z12_way_99 G a0 a1 a2 a3) (X12_way_99 G a0 (Int32.ofInt a1) (Int32.ofInt a2) (Int32.ofInt a3)) :=
  lp_rel (R := fun (f' : Nat → Int → Int → Int → kzM → Option (Int × kzM)) (f : Nat → Int32 → Int32 → Int32 → kdM → Option (Int32 × kdM)) => ∀ (a0 : Nat) (a1 : Int) (_ : kzI a1) (a2 : Int) (_ : kzI a2) (a3 : Int) (_ : kzI a3), CRi (f' a0 a1 a2 a3) (f a0 (Int32.ofInt a1) (Int32.ofInt a2) (Int32.ofInt a3))) (by intros; exact c_no) (fun _ _ hf a0 a1 ha1 a2 ha2 a3 ha3 => qX12_way_99B hG hf a0 ha1 ha2 ha3) NN
def Z12_way (G : kdS) (l0 : Nat) (l1 : Int) (l2 : Int) (l3 : Int) : kzM → Option (Int × kzM) :=
  zcv G 12 l0 (Z12_lay G l0 l1) fun t1 =>
  zcnd (t1 = (0 : Int))
  (Z12_way_16 G)
  (zcv G 12 l0 (Z12_lay G l0 l2) fun t2 =>
  zcnd (t2 = (0 : Int))
  (Z12_way_16 G)
  (zgI G 12 55 l0 fun t3 =>
  zcnd (t3 ≤ (5 : Int))
  (zcv G 12 l0 (Z12_findLayouts G l0) fun _ =>
  zcv G 12 l0 (Z12_indexOf G l0 l1) fun t4 =>
  zcv G 12 l0 (Z12_indexOf G l0 l2) fun t5 =>
  zcv G 12 l0 (Z12_leastMost G l0 t4 t5) fun t6 =>
  zcnd (l3 = (-1 : Int))
  (zrt t6)
  (zcnd (l3 = (-2 : Int))
  (zgR G 12 64 l0 fun t7 =>
  zaI G t7 t4 fun t8 =>
  zrt t8)
  (zgR G 12 64 l0 fun t9 =>
  zaI G t9 t4 fun t10 =>
  zcl (Z12_in G l3 (0 : Int) t10) fun t11 =>
  zcnd (t11 = (0 : Int))
  (zrt (-6 : Int))
  (Z12_way_99 G l0 l3 t4 (0 : Int)))))
  (zrt (-3 : Int))))
theorem qX12_way {G : kdS} (hG : kzG G) (l0 : Nat) {l1 : Int} (hl1 : kzI l1) {l2 : Int} (hl2 : kzI l2) {l3 : Int} (hl3 : kzI l3) : CRi (Z12_way G l0 l1 l2 l3) (X12_way G l0 (Int32.ofInt l1) (Int32.ofInt l2) (Int32.ofInt l3)) := by
  unfold Z12_way X12_way
  exact c_cv (qX12_lay hG l0 hl1) (fun t1 ht1 => c_cnd (kz_eq ht1 (by unfold kzI; omega) rfl rfl) ((qX12_way_16 hG)) (c_cv (qX12_lay hG l0 hl2) (fun t2 ht2 => c_cnd (kz_eq ht2 (by unfold kzI; omega) rfl rfl) ((qX12_way_16 hG)) (c_gI rfl (fun t3 ht3 => c_cnd (kz_le ht3 (by unfold kzI; omega) rfl rfl) (c_cv (qX12_findLayouts hG l0) (fun _ _ => c_cv (qX12_indexOf hG l0 hl1) (fun t4 ht4 => c_cv (qX12_indexOf hG l0 hl2) (fun t5 ht5 => c_cv (qX12_leastMost hG l0 ht4 ht5) (fun t6 ht6 => c_cnd (kz_eq hl3 (by unfold kzI; omega) rfl rfl) (c_rt ht6 rfl) (c_cnd (kz_eq hl3 (by unfold kzI; omega) rfl rfl) (c_gR (fun t7 => c_aI hG rfl (fun t8 ht8 => c_rt ht8 rfl))) (c_gR (fun t9 => c_aI hG rfl (fun t10 ht10 => c_cl ((kz_i2l ht10 rfl) ▸ ((kz_i2l hl3 rfl) ▸ (qX12_in hG (kzI_L hl3) (show kzL (0 : Int) by unfold kzL; omega) (kzI_L ht10)))) (fun t11 ht11 => c_cnd (kz_eq ht11 (by unfold kzI; omega) rfl rfl) (c_rt (by unfold kzI; omega) rfl) ((qX12_way_99 hG l0 _ hl3 _ ht4 _ (by unfold kzI; omega))))))))))))) (c_rt (by unfold kzI; omega) rfl))))))
def Z12_told (G : kdS) (l0 : Nat) (l1 : Int) : kzM → Option (Int × kzM) :=
  zcl (Z12_in G l1 (10 : Int) (12 : Int)) fun t1 =>
  zcnd (t1 = (0 : Int))
  (zcl (Z12_in G l1 (20 : Int) (22 : Int)) fun t2 =>
  zcnd (t2 = (0 : Int))
  (zcl (Z12_in G l1 (30 : Int) (33 : Int)) fun t3 =>
  zcnd (t3 = (0 : Int))
  (zcnd (l1 = (0 : Int))
  (zgI G 12 1 l0 fun t4 =>
  zrt t4)
  (zcnd (l1 = (1 : Int))
  (zgI G 12 3 l0 fun t5 =>
  zrt t5)
  (zcnd (l1 = (2 : Int))
  (zgI G 12 6 l0 fun t6 =>
  zrt t6)
  (zcnd (l1 = (3 : Int))
  (zgI G 12 18 l0 fun t7 =>
  zrt t7)
  (zcnd (l1 = (4 : Int))
  (zgI G 12 17 l0 fun t8 =>
  zrt t8)
  (zcnd (l1 = (5 : Int))
  (zgI G 12 29 l0 fun t9 =>
  zrt t9)
  (zcnd (l1 = (6 : Int))
  (zgI G 12 45 l0 fun t10 =>
  zrt t10)
  (zcnd (l1 = (7 : Int))
  (zgI G 12 51 l0 fun t11 =>
  zrt t11)
  (zcnd (l1 = (8 : Int))
  (zgI G 12 55 l0 fun t12 =>
  zrt t12)
  (zrt (-2 : Int)))))))))))
  (zgR G 12 53 l0 fun t13 =>
  zaI G t13 (l1 - (30 : Int)) fun t14 =>
  zrt t14))
  (zgR G 12 13 l0 fun t15 =>
  zaI G t15 (l1 - (20 : Int)) fun t16 =>
  zrt t16))
  (zgR G 12 11 l0 fun t17 =>
  zaI G t17 (l1 - (10 : Int)) fun t18 =>
  zrt t18)
theorem qX12_told {G : kdS} (hG : kzG G) (l0 : Nat) {l1 : Int} (hl1 : kzI l1) : CRi (Z12_told G l0 l1) (X12_told G l0 (Int32.ofInt l1)) := by
  unfold Z12_told X12_told
  exact c_cl ((kz_i2l hl1 rfl) ▸ (qX12_in hG (kzI_L hl1) (show kzL (10 : Int) by unfold kzL; omega) (show kzL (12 : Int) by unfold kzL; omega))) (fun t1 ht1 => c_cnd (kz_eq ht1 (by unfold kzI; omega) rfl rfl) (c_cl ((kz_i2l hl1 rfl) ▸ (qX12_in hG (kzI_L hl1) (show kzL (20 : Int) by unfold kzL; omega) (show kzL (22 : Int) by unfold kzL; omega))) (fun t2 ht2 => c_cnd (kz_eq ht2 (by unfold kzI; omega) rfl rfl) (c_cl ((kz_i2l hl1 rfl) ▸ (qX12_in hG (kzI_L hl1) (show kzL (30 : Int) by unfold kzL; omega) (show kzL (33 : Int) by unfold kzL; omega))) (fun t3 ht3 => c_cnd (kz_eq ht3 (by unfold kzI; omega) rfl rfl) (c_cnd (kz_eq hl1 (by unfold kzI; omega) rfl rfl) (c_gI rfl (fun t4 ht4 => c_rt ht4 rfl)) (c_cnd (kz_eq hl1 (by unfold kzI; omega) rfl rfl) (c_gI rfl (fun t5 ht5 => c_rt ht5 rfl)) (c_cnd (kz_eq hl1 (by unfold kzI; omega) rfl rfl) (c_gI rfl (fun t6 ht6 => c_rt ht6 rfl)) (c_cnd (kz_eq hl1 (by unfold kzI; omega) rfl rfl) (c_gI rfl (fun t7 ht7 => c_rt ht7 rfl)) (c_cnd (kz_eq hl1 (by unfold kzI; omega) rfl rfl) (c_gI rfl (fun t8 ht8 => c_rt ht8 rfl)) (c_cnd (kz_eq hl1 (by unfold kzI; omega) rfl rfl) (c_gI rfl (fun t9 ht9 => c_rt ht9 rfl)) (c_cnd (kz_eq hl1 (by unfold kzI; omega) rfl rfl) (c_gI rfl (fun t10 ht10 => c_rt ht10 rfl)) (c_cnd (kz_eq hl1 (by unfold kzI; omega) rfl rfl) (c_gI rfl (fun t11 ht11 => c_rt ht11 rfl)) (c_cnd (kz_eq hl1 (by unfold kzI; omega) rfl rfl) (c_gI rfl (fun t12 ht12 => c_rt ht12 rfl)) (c_rt (by unfold kzI; omega) rfl)))))))))) (c_gR (fun t13 => c_aI hG (kz_sub rfl rfl) (fun t14 ht14 => c_rt ht14 rfl))))) (c_gR (fun t15 => c_aI hG (kz_sub rfl rfl) (fun t16 ht16 => c_rt ht16 rfl))))) (c_gR (fun t17 => c_aI hG (kz_sub rfl rfl) (fun t18 ht18 => c_rt ht18 rfl))))
