/-! the class over whole numbers: by program (wip/p49/gen/mkz.py) -/
def Z6_size (G : kdS) (l0 : Nat) : kzM → Option (Int × kzM) :=
  zgI G 6 1 l0 fun t1 =>
  zrt t1
theorem qX6_size {G : kdS} (hG : kzG G) (l0 : Nat) : CRi (Z6_size G l0) (X6_size G l0) := by
  unfold Z6_size X6_size
  exact c_gI rfl (fun t1 ht1 => c_rt ht1 rfl)
def Z6_isEmpty_12 (G : kdS) (s0 : Int) : kzM → Option (Int × kzM) :=
  zrt (zB s0)
theorem qX6_isEmpty_12 {G : kdS} (hG : kzG G) {s0 : Int} (hs0 : kzI s0) : CRi (Z6_isEmpty_12 G s0) (X6_isEmpty_12 G (Int32.ofInt s0)) := by
  unfold Z6_isEmpty_12 X6_isEmpty_12
  exact c_rt (kz_BI _) (kz_B rfl)
def Z6_isEmpty (G : kdS) (l0 : Nat) : kzM → Option (Int × kzM) :=
  zgI G 6 1 l0 fun t1 =>
  zcnd (t1 = (0 : Int))
  (Z6_isEmpty_12 G (1 : Int))
  (Z6_isEmpty_12 G (0 : Int))
theorem qX6_isEmpty {G : kdS} (hG : kzG G) (l0 : Nat) : CRi (Z6_isEmpty G l0) (X6_isEmpty G l0) := by
  unfold Z6_isEmpty X6_isEmpty
  exact c_gI rfl (fun t1 ht1 => c_cnd (kz_eq ht1 (by unfold kzI; omega) rfl rfl) ((qX6_isEmpty_12 hG (by unfold kzI; omega))) ((qX6_isEmpty_12 hG (by unfold kzI; omega))))
def Z6_isFull_17 (G : kdS) (s0 : Int) : kzM → Option (Int × kzM) :=
  zrt (zB s0)
theorem qX6_isFull_17 {G : kdS} (hG : kzG G) {s0 : Int} (hs0 : kzI s0) : CRi (Z6_isFull_17 G s0) (X6_isFull_17 G (Int32.ofInt s0)) := by
  unfold Z6_isFull_17 X6_isFull_17
  exact c_rt (kz_BI _) (kz_B rfl)
def Z6_isFull (G : kdS) (l0 : Nat) : kzM → Option (Int × kzM) :=
  zgI G 6 1 l0 fun t1 =>
  zgR G 6 0 l0 fun t2 =>
  zaN G t2 fun t3 =>
  zcnd (t1 < t3)
  (Z6_isFull_17 G (0 : Int))
  (Z6_isFull_17 G (1 : Int))
theorem qX6_isFull {G : kdS} (hG : kzG G) (l0 : Nat) : CRi (Z6_isFull G l0) (X6_isFull G l0) := by
  unfold Z6_isFull X6_isFull
  exact c_gI rfl (fun t1 ht1 => c_gR (fun t2 => c_aN hG (fun t3 ht3 => c_cnd (kz_lt ht1 ht3 rfl rfl) ((qX6_isFull_17 hG (by unfold kzI; omega))) ((qX6_isFull_17 hG (by unfold kzI; omega))))))
def Z6_has_17 (G : kdS) (s0 : Int) : kzM → Option (Int × kzM) :=
  zrt (zB s0)
theorem qX6_has_17 {G : kdS} (hG : kzG G) {s0 : Int} (hs0 : kzI s0) : CRi (Z6_has_17 G s0) (X6_has_17 G (Int32.ofInt s0)) := by
  unfold Z6_has_17 X6_has_17
  exact c_rt (kz_BI _) (kz_B rfl)
def Z6_has_16 (G : kdS) : kzM → Option (Int × kzM) :=
  Z6_has_17 G (0 : Int)
theorem qX6_has_16 {G : kdS} (hG : kzG G) : CRi (Z6_has_16 G) (X6_has_16 G) := by
  unfold Z6_has_16 X6_has_16
  exact (qX6_has_17 hG (by unfold kzI; omega))
def Z6_has (G : kdS) (l0 : Nat) (l1 : Int) : kzM → Option (Int × kzM) :=
  zcnd (l1 < (0 : Int))
  (Z6_has_16 G)
  (zgI G 6 1 l0 fun t1 =>
  zcnd (t1 ≤ l1)
  (Z6_has_16 G)
  (Z6_has_17 G (1 : Int)))
theorem qX6_has {G : kdS} (hG : kzG G) (l0 : Nat) {l1 : Int} (hl1 : kzI l1) : CRi (Z6_has G l0 l1) (X6_has G l0 (Int32.ofInt l1)) := by
  unfold Z6_has X6_has
  exact c_cnd (kz_lt hl1 (by unfold kzI; omega) rfl rfl) ((qX6_has_16 hG)) (c_gI rfl (fun t1 ht1 => c_cnd (kz_le ht1 hl1 rfl rfl) ((qX6_has_16 hG)) ((qX6_has_17 hG (by unfold kzI; omega)))))
def Z6_at_22 (G : kdS) (s0 : Int) : kzM → Option (Int × kzM) :=
  zrt s0
theorem qX6_at_22 {G : kdS} (hG : kzG G) {s0 : Int} (hs0 : kzI s0) : CRi (Z6_at_22 G s0) (X6_at_22 G (Int32.ofInt s0)) := by
  unfold Z6_at_22 X6_at_22
  exact c_rt hs0 rfl
def Z6_at_21 (G : kdS) : kzM → Option (Int × kzM) :=
  Z6_at_22 G (-1 : Int)
theorem qX6_at_21 {G : kdS} (hG : kzG G) : CRi (Z6_at_21 G) (X6_at_21 G) := by
  unfold Z6_at_21 X6_at_21
  exact (qX6_at_22 hG (by unfold kzI; omega))
def Z6_at (G : kdS) (l0 : Nat) (l1 : Int) : kzM → Option (Int × kzM) :=
  zcnd (l1 < (0 : Int))
  (Z6_at_21 G)
  (zgI G 6 1 l0 fun t1 =>
  zcnd (t1 ≤ l1)
  (Z6_at_21 G)
  (zgR G 6 0 l0 fun t2 =>
  zaI G t2 l1 fun t3 =>
  Z6_at_22 G t3))
theorem qX6_at {G : kdS} (hG : kzG G) (l0 : Nat) {l1 : Int} (hl1 : kzI l1) : CRi (Z6_at G l0 l1) (X6_at G l0 (Int32.ofInt l1)) := by
  unfold Z6_at X6_at
  exact c_cnd (kz_lt hl1 (by unfold kzI; omega) rfl rfl) ((qX6_at_21 hG)) (c_gI rfl (fun t1 ht1 => c_cnd (kz_le ht1 hl1 rfl rfl) ((qX6_at_21 hG)) (c_gR (fun t2 => c_aI hG rfl (fun t3 ht3 => (qX6_at_22 hG ht3))))))
def Z6_insert_19 (G : kdS) : kzM → Option (Unit × kzM) :=
  zrt ()
theorem qX6_insert_19 {G : kdS} (hG : kzG G) : CRu (Z6_insert_19 G) (X6_insert_19 G) := by
  unfold Z6_insert_19 X6_insert_19
  exact c_rt trivial rfl
def Z6_insert_25B (G : kdS) (k25 : Nat → Int → Int → Int → kzM → Option (Unit × kzM)) (l0 : Nat) (l1 : Int) (l2 : Int) (l3 : Int) : kzM → Option (Unit × kzM) :=
  zcnd (l3 ≤ l1)
  (zgR G 6 0 l0 fun t1 =>
  ztI G t1 l1 l2 <|
  zgI G 6 1 l0 fun t2 =>
  zlI (t2 + (1 : Int)) fun u1 =>
  zsI G 6 1 l0 u1 <|
  zrt ())
  (zgR G 6 0 l0 fun t3 =>
  zgR G 6 0 l0 fun t4 =>
  zaI G t4 (l3 - (1 : Int)) fun t5 =>
  ztI G t3 l3 t5 <|
  zlI (l3 + (-1 : Int)) fun t6 =>
  k25 l0 l1 l2 t6)
theorem qX6_insert_25B {G : kdS} (hG : kzG G) {k25' : Nat → Int → Int → Int → kzM → Option (Unit × kzM)} {k25 : Nat → Int32 → Int32 → Int32 → kdM → Option (Unit × kdM)} (hk25 : ∀ (a0 : Nat) (a1 : Int) (_ : kzI a1) (a2 : Int) (_ : kzI a2) (a3 : Int) (_ : kzI a3), CRu (k25' a0 a1 a2 a3) (k25 a0 (Int32.ofInt a1) (Int32.ofInt a2) (Int32.ofInt a3))) (l0 : Nat) {l1 : Int} (hl1 : kzI l1) {l2 : Int} (hl2 : kzI l2) {l3 : Int} (hl3 : kzI l3) : CRu (Z6_insert_25B G k25' l0 l1 l2 l3) (X6_insert_25B G k25 l0 (Int32.ofInt l1) (Int32.ofInt l2) (Int32.ofInt l3)) := by
  unfold Z6_insert_25B X6_insert_25B
  exact c_cnd (kz_le hl3 hl1 rfl rfl) (c_gR (fun t1 => c_tI hG rfl hl2 rfl (c_gI rfl (fun t2 ht2 => c_rg (kz_add rfl rfl) fun u1 r1 e1 => c_sI rfl r1 e1 (c_rt trivial rfl))))) (c_gR (fun t3 => c_gR (fun t4 => c_aI hG (kz_sub rfl rfl) (fun t5 ht5 => c_tI hG rfl ht5 rfl (c_lI (kz_add rfl rfl) (fun t6 ht6 => (hk25 l0 _ hl1 _ hl2 _ ht6)))))))
def Z6_insert_25 (G : kdS) : Nat → Int → Int → Int → kzM → Option (Unit × kzM) := lp (fun _ _ _ _ _ => none) (Z6_insert_25B G) NN
theorem qX6_insert_25 {G : kdS} (hG : kzG G) : ∀ (a0 : Nat) (a1 : Int) (_ : kzI a1) (a2 : Int) (_ : kzI a2) (a3 : Int) (_ : kzI a3), CRu (Z6_insert_25 G a0 a1 a2 a3) (X6_insert_25 G a0 (Int32.ofInt a1) (Int32.ofInt a2) (Int32.ofInt a3)) :=
  lp_rel (R := fun (f' : Nat → Int → Int → Int → kzM → Option (Unit × kzM)) (f : Nat → Int32 → Int32 → Int32 → kdM → Option (Unit × kdM)) => ∀ (a0 : Nat) (a1 : Int) (_ : kzI a1) (a2 : Int) (_ : kzI a2) (a3 : Int) (_ : kzI a3), CRu (f' a0 a1 a2 a3) (f a0 (Int32.ofInt a1) (Int32.ofInt a2) (Int32.ofInt a3))) (by intros; exact c_no) (fun _ _ hf a0 a1 ha1 a2 ha2 a3 ha3 => qX6_insert_25B hG hf a0 ha1 ha2 ha3) NN
def Z6_insert (G : kdS) (l0 : Nat) (l1 : Int) (l2 : Int) : kzM → Option (Unit × kzM) :=
  zcv G 6 l0 (Z6_isFull G l0) fun t1 =>
  zcnd (t1 = (0 : Int))
  (zcnd (l1 < (0 : Int))
  (Z6_insert_19 G)
  (zgI G 6 1 l0 fun t2 =>
  zcnd (l1 ≤ t2)
  (zgI G 6 1 l0 fun t3 =>
  Z6_insert_25 G l0 l1 l2 t3)
  (Z6_insert_19 G)))
  (Z6_insert_19 G)
theorem qX6_insert {G : kdS} (hG : kzG G) (l0 : Nat) {l1 : Int} (hl1 : kzI l1) {l2 : Int} (hl2 : kzI l2) : CRu (Z6_insert G l0 l1 l2) (X6_insert G l0 (Int32.ofInt l1) (Int32.ofInt l2)) := by
  unfold Z6_insert X6_insert
  exact c_cv (qX6_isFull hG l0) (fun t1 ht1 => c_cnd (kz_eq ht1 (by unfold kzI; omega) rfl rfl) (c_cnd (kz_lt hl1 (by unfold kzI; omega) rfl rfl) ((qX6_insert_19 hG)) (c_gI rfl (fun t2 ht2 => c_cnd (kz_le hl1 ht2 rfl rfl) (c_gI rfl (fun t3 ht3 => (qX6_insert_25 hG l0 _ hl1 _ hl2 _ ht3))) ((qX6_insert_19 hG))))) ((qX6_insert_19 hG)))
def Z6_add (G : kdS) (l0 : Nat) (l1 : Int) : kzM → Option (Unit × kzM) :=
  zgI G 6 1 l0 fun t1 =>
  zcv G 6 l0 (Z6_insert G l0 t1 l1) fun _ =>
  zrt ()
theorem qX6_add {G : kdS} (hG : kzG G) (l0 : Nat) {l1 : Int} (hl1 : kzI l1) : CRu (Z6_add G l0 l1) (X6_add G l0 (Int32.ofInt l1)) := by
  unfold Z6_add X6_add
  exact c_gI rfl (fun t1 ht1 => c_cv (qX6_insert hG l0 ht1 hl1) (fun _ _ => c_rt trivial rfl))
def Z6_remove_54 (G : kdS) (l2 : Int) : kzM → Option (Int × kzM) :=
  zrt l2
theorem qX6_remove_54 {G : kdS} (hG : kzG G) {l2 : Int} (hl2 : kzI l2) : CRi (Z6_remove_54 G l2) (X6_remove_54 G (Int32.ofInt l2)) := by
  unfold Z6_remove_54 X6_remove_54
  exact c_rt hl2 rfl
def Z6_remove_26B (G : kdS) (k26 : Nat → Int → Int → kzM → Option (Int × kzM)) (l0 : Nat) (l2 : Int) (l3 : Int) : kzM → Option (Int × kzM) :=
  zgI G 6 1 l0 fun t1 =>
  zcnd (t1 ≤ l3)
  (Z6_remove_54 G l2)
  (zgR G 6 0 l0 fun t2 =>
  zgR G 6 0 l0 fun t3 =>
  zaI G t3 (l3 + (1 : Int)) fun t4 =>
  ztI G t2 l3 t4 <|
  zlI (l3 + (1 : Int)) fun t5 =>
  k26 l0 l2 t5)
theorem qX6_remove_26B {G : kdS} (hG : kzG G) {k26' : Nat → Int → Int → kzM → Option (Int × kzM)} {k26 : Nat → Int32 → Int32 → kdM → Option (Int32 × kdM)} (hk26 : ∀ (a0 : Nat) (a1 : Int) (_ : kzI a1) (a2 : Int) (_ : kzI a2), CRi (k26' a0 a1 a2) (k26 a0 (Int32.ofInt a1) (Int32.ofInt a2))) (l0 : Nat) {l2 : Int} (hl2 : kzI l2) {l3 : Int} (hl3 : kzI l3) : CRi (Z6_remove_26B G k26' l0 l2 l3) (X6_remove_26B G k26 l0 (Int32.ofInt l2) (Int32.ofInt l3)) := by
  unfold Z6_remove_26B X6_remove_26B
  exact c_gI rfl (fun t1 ht1 => c_cnd (kz_le ht1 hl3 rfl rfl) ((qX6_remove_54 hG hl2)) (c_gR (fun t2 => c_gR (fun t3 => c_aI hG (kz_add rfl rfl) (fun t4 ht4 => c_tI hG rfl ht4 rfl (c_lI (kz_add rfl rfl) (fun t5 ht5 => (hk26 l0 _ hl2 _ ht5))))))))
def Z6_remove_26 (G : kdS) : Nat → Int → Int → kzM → Option (Int × kzM) := lp (fun _ _ _ _ => none) (Z6_remove_26B G) NN
theorem qX6_remove_26 {G : kdS} (hG : kzG G) : ∀ (a0 : Nat) (a1 : Int) (_ : kzI a1) (a2 : Int) (_ : kzI a2), CRi (Z6_remove_26 G a0 a1 a2) (X6_remove_26 G a0 (Int32.ofInt a1) (Int32.ofInt a2)) :=
  lp_rel (R := fun (f' : Nat → Int → Int → kzM → Option (Int × kzM)) (f : Nat → Int32 → Int32 → kdM → Option (Int32 × kdM)) => ∀ (a0 : Nat) (a1 : Int) (_ : kzI a1) (a2 : Int) (_ : kzI a2), CRi (f' a0 a1 a2) (f a0 (Int32.ofInt a1) (Int32.ofInt a2))) (by intros; exact c_no) (fun _ _ hf a0 a1 ha1 a2 ha2 => qX6_remove_26B hG hf a0 ha1 ha2) NN
def Z6_remove (G : kdS) (l0 : Nat) (l1 : Int) : kzM → Option (Int × kzM) :=
  zcv G 6 l0 (Z6_at G l0 l1) fun t1 =>
  zcv G 6 l0 (Z6_has G l0 l1) fun t2 =>
  zcnd (t2 = (0 : Int))
  (Z6_remove_54 G t1)
  (zgI G 6 1 l0 fun t3 =>
  zlI (t3 - (1 : Int)) fun u1 =>
  zsI G 6 1 l0 u1 <|
  Z6_remove_26 G l0 t1 l1)
theorem qX6_remove {G : kdS} (hG : kzG G) (l0 : Nat) {l1 : Int} (hl1 : kzI l1) : CRi (Z6_remove G l0 l1) (X6_remove G l0 (Int32.ofInt l1)) := by
  unfold Z6_remove X6_remove
  exact c_cv (qX6_at hG l0 hl1) (fun t1 ht1 => c_cv (qX6_has hG l0 hl1) (fun t2 ht2 => c_cnd (kz_eq ht2 (by unfold kzI; omega) rfl rfl) ((qX6_remove_54 hG ht1)) (c_gI rfl (fun t3 ht3 => c_rg (kz_sub rfl rfl) fun u1 r1 e1 => c_sI rfl r1 e1 ((qX6_remove_26 hG l0 _ ht1 _ hl1))))))
def Z6_clear (G : kdS) (l0 : Nat) : kzM → Option (Int × kzM) :=
  zgI G 6 1 l0 fun t1 =>
  zsI G 6 1 l0 (0 : Int) <|
  zrt t1
theorem qX6_clear {G : kdS} (hG : kzG G) (l0 : Nat) : CRi (Z6_clear G l0) (X6_clear G l0) := by
  unfold Z6_clear X6_clear
  exact c_gI rfl (fun t1 ht1 => c_sI rfl (by unfold kzI; omega) rfl (c_rt ht1 rfl))
def Z6_copy_7B (G : kdS) (k7 : Nat → Nat → Int → kzM → Option (Unit × kzM)) (l0 : Nat) (l1 : Nat) (l2 : Int) : kzM → Option (Unit × kzM) :=
  zgI G 6 1 l1 fun t1 =>
  zcnd (t1 ≤ l2)
  (zrt ())
  (zgR G 6 0 l1 fun t2 =>
  zaI G t2 l2 fun t3 =>
  zcv G 6 l0 (Z6_add G l0 t3) fun _ =>
  zlI (l2 + (1 : Int)) fun t4 =>
  k7 l0 l1 t4)
theorem qX6_copy_7B {G : kdS} (hG : kzG G) {k7' : Nat → Nat → Int → kzM → Option (Unit × kzM)} {k7 : Nat → Nat → Int32 → kdM → Option (Unit × kdM)} (hk7 : ∀ (a0 : Nat) (a1 : Nat) (a2 : Int) (_ : kzI a2), CRu (k7' a0 a1 a2) (k7 a0 a1 (Int32.ofInt a2))) (l0 : Nat) (l1 : Nat) {l2 : Int} (hl2 : kzI l2) : CRu (Z6_copy_7B G k7' l0 l1 l2) (X6_copy_7B G k7 l0 l1 (Int32.ofInt l2)) := by
  unfold Z6_copy_7B X6_copy_7B
  exact c_gI rfl (fun t1 ht1 => c_cnd (kz_le ht1 hl2 rfl rfl) (c_rt trivial rfl) (c_gR (fun t2 => c_aI hG rfl (fun t3 ht3 => c_cv (qX6_add hG l0 ht3) (fun _ _ => c_lI (kz_add rfl rfl) (fun t4 ht4 => (hk7 l0 l1 _ ht4)))))))
def Z6_copy_7 (G : kdS) : Nat → Nat → Int → kzM → Option (Unit × kzM) := lp (fun _ _ _ _ => none) (Z6_copy_7B G) NN
theorem qX6_copy_7 {G : kdS} (hG : kzG G) : ∀ (a0 : Nat) (a1 : Nat) (a2 : Int) (_ : kzI a2), CRu (Z6_copy_7 G a0 a1 a2) (X6_copy_7 G a0 a1 (Int32.ofInt a2)) :=
  lp_rel (R := fun (f' : Nat → Nat → Int → kzM → Option (Unit × kzM)) (f : Nat → Nat → Int32 → kdM → Option (Unit × kdM)) => ∀ (a0 : Nat) (a1 : Nat) (a2 : Int) (_ : kzI a2), CRu (f' a0 a1 a2) (f a0 a1 (Int32.ofInt a2))) (by intros; exact c_no) (fun _ _ hf a0 a1 a2 ha2 => qX6_copy_7B hG hf a0 a1 ha2) NN
def Z6_copy (G : kdS) (l0 : Nat) (l1 : Nat) : kzM → Option (Unit × kzM) :=
  zcv G 6 l0 (Z6_clear G l0) fun t1 =>
  Z6_copy_7 G l0 l1 (0 : Int)
theorem qX6_copy {G : kdS} (hG : kzG G) (l0 : Nat) (l1 : Nat) : CRu (Z6_copy G l0 l1) (X6_copy G l0 l1) := by
  unfold Z6_copy X6_copy
  exact c_cv (qX6_clear hG l0) (fun t1 ht1 => (qX6_copy_7 hG l0 l1 _ (by unfold kzI; omega)))
def Z8_rules (G : kdS) (l0 : Nat) : kzM → Option (Int × kzM) :=
  zgI G 8 2 l0 fun t1 =>
  zrt t1
theorem qX8_rules {G : kdS} (hG : kzG G) (l0 : Nat) : CRi (Z8_rules G l0) (X8_rules G l0) := by
  unfold Z8_rules X8_rules
  exact c_gI rfl (fun t1 ht1 => c_rt ht1 rfl)
def Z8_joins (G : kdS) (l0 : Nat) : kzM → Option (Int × kzM) :=
  zgR G 8 5 l0 fun t1 =>
  zcv G 6 t1 (Z6_size G t1) fun t2 =>
  zrt t2
theorem qX8_joins {G : kdS} (hG : kzG G) (l0 : Nat) : CRi (Z8_joins G l0) (X8_joins G l0) := by
  unfold Z8_joins X8_joins
  exact c_gR (fun t1 => c_cv (qX6_size hG t1) (fun t2 ht2 => c_rt ht2 rfl))
def Z4_strokes (G : kdS) (l0 : Nat) : kzM → Option (Nat × kzM) :=
  zgR G 4 0 l0 fun t1 =>
  zrt t1
theorem qX4_strokes {G : kdS} (hG : kzG G) (l0 : Nat) : CRn (Z4_strokes G l0) (X4_strokes G l0) := by
  unfold Z4_strokes X4_strokes
  exact c_gR (fun t1 => c_rt trivial rfl)
def Z4_tongue (G : kdS) (l0 : Nat) : kzM → Option (Int × kzM) :=
  zgI G 4 4 l0 fun t1 =>
  zrt t1
theorem qX4_tongue {G : kdS} (hG : kzG G) (l0 : Nat) : CRi (Z4_tongue G l0) (X4_tongue G l0) := by
  unfold Z4_tongue X4_tongue
  exact c_gI rfl (fun t1 ht1 => c_rt ht1 rfl)
def Z10_size (G : kdS) (l0 : Nat) : kzM → Option (Int × kzM) :=
  zgR G 10 0 l0 fun t1 =>
  zcv G 6 t1 (Z6_size G t1) fun t2 =>
  zrt t2
theorem qX10_size {G : kdS} (hG : kzG G) (l0 : Nat) : CRi (Z10_size G l0) (X10_size G l0) := by
  unfold Z10_size X10_size
  exact c_gR (fun t1 => c_cv (qX6_size hG t1) (fun t2 ht2 => c_rt ht2 rfl))
def Z10_isFull (G : kdS) (l0 : Nat) : kzM → Option (Int × kzM) :=
  zgR G 10 0 l0 fun t1 =>
  zcv G 6 t1 (Z6_isFull G t1) fun t2 =>
  zrt (zB t2)
theorem qX10_isFull {G : kdS} (hG : kzG G) (l0 : Nat) : CRi (Z10_isFull G l0) (X10_isFull G l0) := by
  unfold Z10_isFull X10_isFull
  exact c_gR (fun t1 => c_cv (qX6_isFull hG t1) (fun t2 ht2 => c_rt (kz_BI _) (kz_B rfl)))
def Z10_has (G : kdS) (l0 : Nat) (l1 : Int) : kzM → Option (Int × kzM) :=
  zgR G 10 0 l0 fun t1 =>
  zcv G 6 t1 (Z6_has G t1 l1) fun t2 =>
  zrt (zB t2)
theorem qX10_has {G : kdS} (hG : kzG G) (l0 : Nat) {l1 : Int} (hl1 : kzI l1) : CRi (Z10_has G l0 l1) (X10_has G l0 (Int32.ofInt l1)) := by
  unfold Z10_has X10_has
  exact c_gR (fun t1 => c_cv (qX6_has hG t1 hl1) (fun t2 ht2 => c_rt (kz_BI _) (kz_B rfl)))
def Z10_tongueOf (G : kdS) (l0 : Nat) (l1 : Int) : kzM → Option (Int × kzM) :=
  zgR G 10 0 l0 fun t1 =>
  zcv G 6 t1 (Z6_at G t1 l1) fun t2 =>
  zrt t2
theorem qX10_tongueOf {G : kdS} (hG : kzG G) (l0 : Nat) {l1 : Int} (hl1 : kzI l1) : CRi (Z10_tongueOf G l0 l1) (X10_tongueOf G l0 (Int32.ofInt l1)) := by
  unfold Z10_tongueOf X10_tongueOf
  exact c_gR (fun t1 => c_cv (qX6_at hG t1 hl1) (fun t2 ht2 => c_rt ht2 rfl))
def Z10_signOf (G : kdS) (l0 : Nat) (l1 : Int) : kzM → Option (Int × kzM) :=
  zgR G 10 1 l0 fun t1 =>
  zcv G 6 t1 (Z6_at G t1 l1) fun t2 =>
  zrt t2
theorem qX10_signOf {G : kdS} (hG : kzG G) (l0 : Nat) {l1 : Int} (hl1 : kzI l1) : CRi (Z10_signOf G l0 l1) (X10_signOf G l0 (Int32.ofInt l1)) := by
  unfold Z10_signOf X10_signOf
  exact c_gR (fun t1 => c_cv (qX6_at hG t1 hl1) (fun t2 ht2 => c_rt ht2 rfl))
def Z10_countOf (G : kdS) (l0 : Nat) (l1 : Int) : kzM → Option (Int × kzM) :=
  zgR G 10 2 l0 fun t1 =>
  zcv G 6 t1 (Z6_at G t1 l1) fun t2 =>
  zrt t2
theorem qX10_countOf {G : kdS} (hG : kzG G) (l0 : Nat) {l1 : Int} (hl1 : kzI l1) : CRi (Z10_countOf G l0 l1) (X10_countOf G l0 (Int32.ofInt l1)) := by
  unfold Z10_countOf X10_countOf
  exact c_gR (fun t1 => c_cv (qX6_at hG t1 hl1) (fun t2 ht2 => c_rt ht2 rfl))
def Z10_keysOf (G : kdS) (l0 : Nat) (l1 : Int) : kzM → Option (Nat × kzM) :=
  zgR G 10 3 l0 fun t1 =>
  zaR G 16 t1 l1 fun t2 =>
  zrt t2
theorem qX10_keysOf {G : kdS} (hG : kzG G) (l0 : Nat) {l1 : Int} (hl1 : kzI l1) : CRn (Z10_keysOf G l0 l1) (X10_keysOf G l0 (Int32.ofInt l1)) := by
  unfold Z10_keysOf X10_keysOf
  exact c_gR (fun t1 => c_aR hG rfl (fun t2 => c_rt trivial rfl))
def Z10_addWord (G : kdS) (l0 : Nat) (l1 : Int) (l2 : Int) (l3 : Int) (l4 : Nat) : kzM → Option (Int × kzM) :=
  zcv G 10 l0 (Z10_isFull G l0) fun t1 =>
  zcnd (t1 = (0 : Int))
  (zgR G 10 3 l0 fun t2 =>
  zcv G 10 l0 (Z10_size G l0) fun t3 =>
  zaR G 16 t2 t3 fun t4 =>
  zcv G 6 t4 (Z6_copy G t4 l4) fun _ =>
  zgR G 10 0 l0 fun t5 =>
  zcv G 6 t5 (Z6_add G t5 l1) fun _ =>
  zgR G 10 1 l0 fun t6 =>
  zcv G 6 t6 (Z6_add G t6 l2) fun _ =>
  zgR G 10 2 l0 fun t7 =>
  zcv G 6 t7 (Z6_add G t7 l3) fun _ =>
  zcv G 10 l0 (Z10_size G l0) fun t8 =>
  zlI (t8 - (1 : Int)) fun u1 =>
  zrt u1)
  (zrt (-4 : Int))
theorem qX10_addWord {G : kdS} (hG : kzG G) (l0 : Nat) {l1 : Int} (hl1 : kzI l1) {l2 : Int} (hl2 : kzI l2) {l3 : Int} (hl3 : kzI l3) (l4 : Nat) : CRi (Z10_addWord G l0 l1 l2 l3 l4) (X10_addWord G l0 (Int32.ofInt l1) (Int32.ofInt l2) (Int32.ofInt l3) l4) := by
  unfold Z10_addWord X10_addWord
  exact c_cv (qX10_isFull hG l0) (fun t1 ht1 => c_cnd (kz_eq ht1 (by unfold kzI; omega) rfl rfl) (c_gR (fun t2 => c_cv (qX10_size hG l0) (fun t3 ht3 => c_aR hG rfl (fun t4 => c_cv (qX6_copy hG t4 l4) (fun _ _ => c_gR (fun t5 => c_cv (qX6_add hG t5 hl1) (fun _ _ => c_gR (fun t6 => c_cv (qX6_add hG t6 hl2) (fun _ _ => c_gR (fun t7 => c_cv (qX6_add hG t7 hl3) (fun _ _ => c_cv (qX10_size hG l0) (fun t8 ht8 => c_rg (kz_sub rfl rfl) fun u1 r1 e1 => c_rt r1 e1)))))))))))) (c_rt (by unfold kzI; omega) rfl))
def Z7_leastFor (G : kdS) (l0 : Nat) (l1 : Int) (l2 : Nat) : kzM → Option (Int × kzM) :=
  zgR G 7 1 l0 fun t1 =>
  zaR G 18 t1 l1 fun t2 =>
  zcv G 6 l2 (Z6_size G l2) fun t3 =>
  zaI G t2 t3 fun t4 =>
  zrt t4
theorem qX7_leastFor {G : kdS} (hG : kzG G) (l0 : Nat) {l1 : Int} (hl1 : kzI l1) (l2 : Nat) : CRi (Z7_leastFor G l0 l1 l2) (X7_leastFor G l0 (Int32.ofInt l1) l2) := by
  unfold Z7_leastFor X7_leastFor
  exact c_gR (fun t1 => c_aR hG rfl (fun t2 => c_cv (qX6_size hG l2) (fun t3 ht3 => c_aI hG rfl (fun t4 ht4 => c_rt ht4 rfl))))
def Z7_priceOfOne_50 (G : kdS) (s0 : Nat) (s1 : Int) : kzM → Option (Int × kzM) :=
  zaI G s0 s1 fun t1 =>
  zrt t1
theorem qX7_priceOfOne_50 {G : kdS} (hG : kzG G) (s0 : Nat) {s1 : Int} (hs1 : kzI s1) : CRi (Z7_priceOfOne_50 G s0 s1) (X7_priceOfOne_50 G s0 (Int32.ofInt s1)) := by
  unfold Z7_priceOfOne_50 X7_priceOfOne_50
  exact c_aI hG rfl (fun t1 ht1 => c_rt ht1 rfl)
def Z7_priceOfOne_49 (G : kdS) (s0 : Nat) : kzM → Option (Int × kzM) :=
  Z7_priceOfOne_50 G s0 (4 : Int)
theorem qX7_priceOfOne_49 {G : kdS} (hG : kzG G) (s0 : Nat) : CRi (Z7_priceOfOne_49 G s0) (X7_priceOfOne_49 G s0) := by
  unfold Z7_priceOfOne_49 X7_priceOfOne_49
  exact (qX7_priceOfOne_50 hG s0 (by unfold kzI; omega))
def Z7_priceOfOne (G : kdS) (l0 : Nat) (l1 : Int) (l2 : Int) : kzM → Option (Int × kzM) :=
  zcnd (l1 = l2)
  (zrt (0 : Int))
  (znz (4 : Int) <|
  znz (4 : Int) <|
  zlI ((l1.tdiv (4 : Int)) - (l2.tdiv (4 : Int))) fun u1 =>
  zlI (zabs u1) fun t1 =>
  znz (4 : Int) <|
  znz (4 : Int) <|
  zlI ((Int.tmod l1 (4 : Int)) - (Int.tmod l2 (4 : Int))) fun u2 =>
  zlI (zabs u2) fun t2 =>
  zgR G 7 0 l0 fun t3 =>
  zcnd ((1 : Int) < t1)
  (Z7_priceOfOne_49 G t3)
  (zcnd ((1 : Int) < t2)
  (Z7_priceOfOne_49 G t3)
  (Z7_priceOfOne_50 G t3 (0 : Int))))
theorem qX7_priceOfOne {G : kdS} (hG : kzG G) (l0 : Nat) {l1 : Int} (hl1 : kzI l1) {l2 : Int} (hl2 : kzI l2) : CRi (Z7_priceOfOne G l0 l1 l2) (X7_priceOfOne G l0 (Int32.ofInt l1) (Int32.ofInt l2)) := by
  unfold Z7_priceOfOne X7_priceOfOne
  exact c_cnd (kz_eq hl1 hl2 rfl rfl) (c_rt (by unfold kzI; omega) rfl) (c_nz (by unfold kzI; omega) rfl (c_nz (by unfold kzI; omega) rfl (c_rg (kz_sub (kz_div hl1 (by unfold kzI; omega) rfl rfl) (kz_div hl2 (by unfold kzI; omega) rfl rfl)) fun u1 r1 e1 => c_lI (kz_abs r1 e1) (fun t1 ht1 => c_nz (by unfold kzI; omega) rfl (c_nz (by unfold kzI; omega) rfl (c_rg (kz_sub (kz_rem hl1 (by unfold kzI; omega) rfl rfl) (kz_rem hl2 (by unfold kzI; omega) rfl rfl)) fun u2 r2 e2 => c_lI (kz_abs r2 e2) (fun t2 ht2 => c_gR (fun t3 => c_cnd (kz_lt (by unfold kzI; omega) ht1 rfl rfl) ((qX7_priceOfOne_49 hG t3)) (c_cnd (kz_lt (by unfold kzI; omega) ht2 rfl rfl) ((qX7_priceOfOne_49 hG t3)) ((qX7_priceOfOne_50 hG t3 (by unfold kzI; omega))))))))))))
def Z7_leastSum_215 (G : kdS) (l8 : Int) : kzM → Option (Int × kzM) :=
  zrt l8
theorem qX7_leastSum_215 {G : kdS} (hG : kzG G) {l8 : Int} (hl8 : kzI l8) : CRi (Z7_leastSum_215 G l8) (X7_leastSum_215 G (Int32.ofInt l8)) := by
  unfold Z7_leastSum_215 X7_leastSum_215
  exact c_rt hl8 rfl
def Z7_leastSum_142 (G : kdS) (l0 : Nat) (l3 : Int) (l4 : Nat) (l5 : Int) (l6 : Int) (l7 : Int) (l8 : Int) : kzM → Option (Int × kzM) :=
  zcnd (l3 ≤ (1 : Int))
  (Z7_leastSum_215 G l8)
  (zcnd (l5 ≤ (1 : Int))
  (Z7_leastSum_215 G l8)
  (zcnd (l6 = l7)
  (Z7_leastSum_215 G l8)
  (zlI (l5 - (2 : Int)) fun u1 =>
  zcv G 6 l4 (Z6_at G l4 u1) fun t1 =>
  zcnd (l6 = t1)
  (zlI (l5 - (1 : Int)) fun u2 =>
  zcv G 6 l4 (Z6_at G l4 u2) fun t2 =>
  zcnd (l7 = t2)
  (zgR G 7 1 l0 fun t3 =>
  zaR G 18 t3 (l3 - (2 : Int)) fun t4 =>
  zaI G t4 (l5 - (2 : Int)) fun t5 =>
  zgR G 7 0 l0 fun t6 =>
  zaI G t6 (3 : Int) fun t7 =>
  zlI (t5 + t7) fun u3 =>
  zlI (zmin l8 u3) fun t8 =>
  Z7_leastSum_215 G t8)
  (Z7_leastSum_215 G l8))
  (Z7_leastSum_215 G l8))))
theorem qX7_leastSum_142 {G : kdS} (hG : kzG G) (l0 : Nat) {l3 : Int} (hl3 : kzI l3) (l4 : Nat) {l5 : Int} (hl5 : kzI l5) {l6 : Int} (hl6 : kzI l6) {l7 : Int} (hl7 : kzI l7) {l8 : Int} (hl8 : kzI l8) : CRi (Z7_leastSum_142 G l0 l3 l4 l5 l6 l7 l8) (X7_leastSum_142 G l0 (Int32.ofInt l3) l4 (Int32.ofInt l5) (Int32.ofInt l6) (Int32.ofInt l7) (Int32.ofInt l8)) := by
  unfold Z7_leastSum_142 X7_leastSum_142
  exact c_cnd (kz_le hl3 (by unfold kzI; omega) rfl rfl) ((qX7_leastSum_215 hG hl8)) (c_cnd (kz_le hl5 (by unfold kzI; omega) rfl rfl) ((qX7_leastSum_215 hG hl8)) (c_cnd (kz_eq hl6 hl7 rfl rfl) ((qX7_leastSum_215 hG hl8)) (c_rg (kz_sub rfl rfl) fun u1 r1 e1 => c_cv (e1 ▸ (qX6_at hG l4 r1)) (fun t1 ht1 => c_cnd (kz_eq hl6 ht1 rfl rfl) (c_rg (kz_sub rfl rfl) fun u2 r2 e2 => c_cv (e2 ▸ (qX6_at hG l4 r2)) (fun t2 ht2 => c_cnd (kz_eq hl7 ht2 rfl rfl) (c_gR (fun t3 => c_aR hG (kz_sub rfl rfl) (fun t4 => c_aI hG (kz_sub rfl rfl) (fun t5 ht5 => c_gR (fun t6 => c_aI hG rfl (fun t7 ht7 => c_rg (kz_add rfl rfl) fun u3 r3 e3 => c_lI (kz_min hl8 r3 rfl e3) (fun t8 ht8 => (qX7_leastSum_215 hG ht8)))))))) ((qX7_leastSum_215 hG hl8)))) ((qX7_leastSum_215 hG hl8))))))
def Z7_leastSum_72 (G : kdS) (l0 : Nat) (l3 : Int) (l4 : Nat) (l5 : Int) (l6 : Int) (l7 : Int) (s0 : Int) (s1 : Nat) (s2 : Int) : kzM → Option (Int × kzM) :=
  zaI G s1 s2 fun t1 =>
  zlI (s0 + t1) fun t2 =>
  zcnd (l5 ≤ (0 : Int))
  (Z7_leastSum_142 G l0 l3 l4 l5 l6 l7 t2)
  (zgR G 7 1 l0 fun t3 =>
  zaR G 18 t3 l3 fun t4 =>
  zaI G t4 (l5 - (1 : Int)) fun t5 =>
  zgR G 7 0 l0 fun t6 =>
  zaI G t6 (2 : Int) fun t7 =>
  zlI (t5 + t7) fun u1 =>
  zlI (zmin t2 u1) fun t8 =>
  zgR G 7 1 l0 fun t9 =>
  zaR G 18 t9 (l3 - (1 : Int)) fun t10 =>
  zaI G t10 (l5 - (1 : Int)) fun t11 =>
  zlI (l5 - (1 : Int)) fun u2 =>
  zcv G 6 l4 (Z6_at G l4 u2) fun t12 =>
  zcv G 7 l0 (Z7_priceOfOne G l0 l6 t12) fun t13 =>
  zlI (t11 + t13) fun u3 =>
  zlI (zmin t8 u3) fun t14 =>
  Z7_leastSum_142 G l0 l3 l4 l5 l6 l7 t14)
theorem qX7_leastSum_72 {G : kdS} (hG : kzG G) (l0 : Nat) {l3 : Int} (hl3 : kzI l3) (l4 : Nat) {l5 : Int} (hl5 : kzI l5) {l6 : Int} (hl6 : kzI l6) {l7 : Int} (hl7 : kzI l7) {s0 : Int} (hs0 : kzI s0) (s1 : Nat) {s2 : Int} (hs2 : kzI s2) : CRi (Z7_leastSum_72 G l0 l3 l4 l5 l6 l7 s0 s1 s2) (X7_leastSum_72 G l0 (Int32.ofInt l3) l4 (Int32.ofInt l5) (Int32.ofInt l6) (Int32.ofInt l7) (Int32.ofInt s0) s1 (Int32.ofInt s2)) := by
  unfold Z7_leastSum_72 X7_leastSum_72
  exact c_aI hG rfl (fun t1 ht1 => c_lI (kz_add rfl rfl) (fun t2 ht2 => c_cnd (kz_le hl5 (by unfold kzI; omega) rfl rfl) ((qX7_leastSum_142 hG l0 hl3 l4 hl5 hl6 hl7 ht2)) (c_gR (fun t3 => c_aR hG rfl (fun t4 => c_aI hG (kz_sub rfl rfl) (fun t5 ht5 => c_gR (fun t6 => c_aI hG rfl (fun t7 ht7 => c_rg (kz_add rfl rfl) fun u1 r1 e1 => c_lI (kz_min ht2 r1 rfl e1) (fun t8 ht8 => c_gR (fun t9 => c_aR hG (kz_sub rfl rfl) (fun t10 => c_aI hG (kz_sub rfl rfl) (fun t11 ht11 => c_rg (kz_sub rfl rfl) fun u2 r2 e2 => c_cv (e2 ▸ (qX6_at hG l4 r2)) (fun t12 ht12 => c_cv (qX7_priceOfOne hG l0 hl6 ht12) (fun t13 ht13 => c_rg (kz_add rfl rfl) fun u3 r3 e3 => c_lI (kz_min ht8 r3 rfl e3) (fun t14 ht14 => (qX7_leastSum_142 hG l0 hl3 l4 hl5 hl6 hl7 ht14))))))))))))))))
def Z7_leastSum_43 (G : kdS) (l0 : Nat) (l3 : Int) (l4 : Nat) (l5 : Int) (l6 : Int) (s0 : Int) : kzM → Option (Int × kzM) :=
  zgR G 7 1 l0 fun t1 =>
  zaR G 18 t1 (l3 - (1 : Int)) fun t2 =>
  zaI G t2 l5 fun t3 =>
  zgR G 7 0 l0 fun t4 =>
  zcnd (l6 = s0)
  (Z7_leastSum_72 G l0 l3 l4 l5 l6 s0 t3 t4 (1 : Int))
  (Z7_leastSum_72 G l0 l3 l4 l5 l6 s0 t3 t4 (4 : Int))
theorem qX7_leastSum_43 {G : kdS} (hG : kzG G) (l0 : Nat) {l3 : Int} (hl3 : kzI l3) (l4 : Nat) {l5 : Int} (hl5 : kzI l5) {l6 : Int} (hl6 : kzI l6) {s0 : Int} (hs0 : kzI s0) : CRi (Z7_leastSum_43 G l0 l3 l4 l5 l6 s0) (X7_leastSum_43 G l0 (Int32.ofInt l3) l4 (Int32.ofInt l5) (Int32.ofInt l6) (Int32.ofInt s0)) := by
  unfold Z7_leastSum_43 X7_leastSum_43
  exact c_gR (fun t1 => c_aR hG (kz_sub rfl rfl) (fun t2 => c_aI hG rfl (fun t3 ht3 => c_gR (fun t4 => c_cnd (kz_eq hl6 hs0 rfl rfl) ((qX7_leastSum_72 hG l0 hl3 l4 hl5 hl6 hs0 ht3 t4 (by unfold kzI; omega))) ((qX7_leastSum_72 hG l0 hl3 l4 hl5 hl6 hs0 ht3 t4 (by unfold kzI; omega)))))))
def Z7_leastSum (G : kdS) (l0 : Nat) (l1 : Nat) (l2 : Int) (l3 : Int) (l4 : Nat) (l5 : Int) : kzM → Option (Int × kzM) :=
  zcnd (l3 = (0 : Int))
  (zgR G 7 0 l0 fun t1 =>
  zaI G t1 (2 : Int) fun t2 =>
  zlI (l5 * t2) fun u1 =>
  zrt u1)
  (zlI ((l2 + l3) - (1 : Int)) fun u2 =>
  zcv G 6 l1 (Z6_at G l1 u2) fun t3 =>
  zcnd (l3 ≤ (1 : Int))
  (Z7_leastSum_43 G l0 l3 l4 l5 t3 (-1 : Int))
  (zlI ((l2 + l3) - (2 : Int)) fun u3 =>
  zcv G 6 l1 (Z6_at G l1 u3) fun t4 =>
  Z7_leastSum_43 G l0 l3 l4 l5 t3 t4))
theorem qX7_leastSum {G : kdS} (hG : kzG G) (l0 : Nat) (l1 : Nat) {l2 : Int} (hl2 : kzI l2) {l3 : Int} (hl3 : kzI l3) (l4 : Nat) {l5 : Int} (hl5 : kzI l5) : CRi (Z7_leastSum G l0 l1 l2 l3 l4 l5) (X7_leastSum G l0 l1 (Int32.ofInt l2) (Int32.ofInt l3) l4 (Int32.ofInt l5)) := by
  unfold Z7_leastSum X7_leastSum
  exact c_cnd (kz_eq hl3 (by unfold kzI; omega) rfl rfl) (c_gR (fun t1 => c_aI hG rfl (fun t2 ht2 => c_rg (kz_mul rfl rfl) fun u1 r1 e1 => c_rt r1 e1))) (c_rg (kz_sub (kz_add rfl rfl) rfl) fun u2 r2 e2 => c_cv (e2 ▸ (qX6_at hG l1 r2)) (fun t3 ht3 => c_cnd (kz_le hl3 (by unfold kzI; omega) rfl rfl) ((qX7_leastSum_43 hG l0 hl3 l4 hl5 ht3 (by unfold kzI; omega))) (c_rg (kz_sub (kz_add rfl rfl) rfl) fun u3 r3 e3 => c_cv (e3 ▸ (qX6_at hG l1 r3)) (fun t4 ht4 => (qX7_leastSum_43 hG l0 hl3 l4 hl5 ht3 ht4)))))
def Z7_workOut_12B (G : kdS) (k3 : Nat → Nat → Int → Int → Nat → Int → kzM → Option (Unit × kzM)) (k12 : Nat → Nat → Int → Int → Nat → Int → Int → kzM → Option (Unit × kzM)) (l0 : Nat) (l1 : Nat) (l2 : Int) (l3 : Int) (l4 : Nat) (l5 : Int) (l6 : Int) : kzM → Option (Unit × kzM) :=
  zcv G 6 l4 (Z6_size G l4) fun t1 =>
  zcnd (t1 < l6)
  (zlI (l5 + (1 : Int)) fun t2 =>
  k3 l0 l1 l2 l3 l4 t2)
  (zgR G 7 1 l0 fun t3 =>
  zaR G 18 t3 l5 fun t4 =>
  zcv G 7 l0 (Z7_leastSum G l0 l1 l2 l5 l4 l6) fun t5 =>
  ztI G t4 l6 t5 <|
  zlI (l6 + (1 : Int)) fun t6 =>
  k12 l0 l1 l2 l3 l4 l5 t6)
theorem qX7_workOut_12B {G : kdS} (hG : kzG G) {k3' : Nat → Nat → Int → Int → Nat → Int → kzM → Option (Unit × kzM)} {k3 : Nat → Nat → Int32 → Int32 → Nat → Int32 → kdM → Option (Unit × kdM)} (hk3 : ∀ (a0 : Nat) (a1 : Nat) (a2 : Int) (_ : kzI a2) (a3 : Int) (_ : kzI a3) (a4 : Nat) (a5 : Int) (_ : kzI a5), CRu (k3' a0 a1 a2 a3 a4 a5) (k3 a0 a1 (Int32.ofInt a2) (Int32.ofInt a3) a4 (Int32.ofInt a5))) {k12' : Nat → Nat → Int → Int → Nat → Int → Int → kzM → Option (Unit × kzM)} {k12 : Nat → Nat → Int32 → Int32 → Nat → Int32 → Int32 → kdM → Option (Unit × kdM)} (hk12 : ∀ (a0 : Nat) (a1 : Nat) (a2 : Int) (_ : kzI a2) (a3 : Int) (_ : kzI a3) (a4 : Nat) (a5 : Int) (_ : kzI a5) (a6 : Int) (_ : kzI a6), CRu (k12' a0 a1 a2 a3 a4 a5 a6) (k12 a0 a1 (Int32.ofInt a2) (Int32.ofInt a3) a4 (Int32.ofInt a5) (Int32.ofInt a6))) (l0 : Nat) (l1 : Nat) {l2 : Int} (hl2 : kzI l2) {l3 : Int} (hl3 : kzI l3) (l4 : Nat) {l5 : Int} (hl5 : kzI l5) {l6 : Int} (hl6 : kzI l6) : CRu (Z7_workOut_12B G k3' k12' l0 l1 l2 l3 l4 l5 l6) (X7_workOut_12B G k3 k12 l0 l1 (Int32.ofInt l2) (Int32.ofInt l3) l4 (Int32.ofInt l5) (Int32.ofInt l6)) := by
  unfold Z7_workOut_12B X7_workOut_12B
  exact c_cv (qX6_size hG l4) (fun t1 ht1 => c_cnd (kz_lt ht1 hl6 rfl rfl) (c_lI (kz_add rfl rfl) (fun t2 ht2 => (hk3 l0 l1 _ hl2 _ hl3 l4 _ ht2))) (c_gR (fun t3 => c_aR hG rfl (fun t4 => c_cv (qX7_leastSum hG l0 l1 hl2 hl5 l4 hl6) (fun t5 ht5 => c_tI hG rfl ht5 rfl (c_lI (kz_add rfl rfl) (fun t6 ht6 => (hk12 l0 l1 _ hl2 _ hl3 l4 _ hl5 _ ht6))))))))
def Z7_workOut_12 (G : kdS) (k3 : Nat → Nat → Int → Int → Nat → Int → kzM → Option (Unit × kzM)) : Nat → Nat → Int → Int → Nat → Int → Int → kzM → Option (Unit × kzM) := lp (fun _ _ _ _ _ _ _ _ => none) (Z7_workOut_12B G k3) NN
theorem qX7_workOut_12 {G : kdS} (hG : kzG G) {k3' : Nat → Nat → Int → Int → Nat → Int → kzM → Option (Unit × kzM)} {k3 : Nat → Nat → Int32 → Int32 → Nat → Int32 → kdM → Option (Unit × kdM)} (hk3 : ∀ (a0 : Nat) (a1 : Nat) (a2 : Int) (_ : kzI a2) (a3 : Int) (_ : kzI a3) (a4 : Nat) (a5 : Int) (_ : kzI a5), CRu (k3' a0 a1 a2 a3 a4 a5) (k3 a0 a1 (Int32.ofInt a2) (Int32.ofInt a3) a4 (Int32.ofInt a5))) : ∀ (a0 : Nat) (a1 : Nat) (a2 : Int) (_ : kzI a2) (a3 : Int) (_ : kzI a3) (a4 : Nat) (a5 : Int) (_ : kzI a5) (a6 : Int) (_ : kzI a6), CRu (Z7_workOut_12 G k3' a0 a1 a2 a3 a4 a5 a6) (X7_workOut_12 G k3 a0 a1 (Int32.ofInt a2) (Int32.ofInt a3) a4 (Int32.ofInt a5) (Int32.ofInt a6)) :=
  lp_rel (R := fun (f' : Nat → Nat → Int → Int → Nat → Int → Int → kzM → Option (Unit × kzM)) (f : Nat → Nat → Int32 → Int32 → Nat → Int32 → Int32 → kdM → Option (Unit × kdM)) => ∀ (a0 : Nat) (a1 : Nat) (a2 : Int) (_ : kzI a2) (a3 : Int) (_ : kzI a3) (a4 : Nat) (a5 : Int) (_ : kzI a5) (a6 : Int) (_ : kzI a6), CRu (f' a0 a1 a2 a3 a4 a5 a6) (f a0 a1 (Int32.ofInt a2) (Int32.ofInt a3) a4 (Int32.ofInt a5) (Int32.ofInt a6))) (by intros; exact c_no) (fun _ _ hf a0 a1 a2 ha2 a3 ha3 a4 a5 ha5 a6 ha6 => qX7_workOut_12B hG hk3 hf a0 a1 ha2 ha3 a4 ha5 ha6) NN
def Z7_workOut_3B (G : kdS) (k3 : Nat → Nat → Int → Int → Nat → Int → kzM → Option (Unit × kzM)) (l0 : Nat) (l1 : Nat) (l2 : Int) (l3 : Int) (l4 : Nat) (l5 : Int) : kzM → Option (Unit × kzM) :=
  zcnd (l3 < l5)
  (zrt ())
  (Z7_workOut_12 G k3 l0 l1 l2 l3 l4 l5 (0 : Int))
theorem qX7_workOut_3B {G : kdS} (hG : kzG G) {k3' : Nat → Nat → Int → Int → Nat → Int → kzM → Option (Unit × kzM)} {k3 : Nat → Nat → Int32 → Int32 → Nat → Int32 → kdM → Option (Unit × kdM)} (hk3 : ∀ (a0 : Nat) (a1 : Nat) (a2 : Int) (_ : kzI a2) (a3 : Int) (_ : kzI a3) (a4 : Nat) (a5 : Int) (_ : kzI a5), CRu (k3' a0 a1 a2 a3 a4 a5) (k3 a0 a1 (Int32.ofInt a2) (Int32.ofInt a3) a4 (Int32.ofInt a5))) (l0 : Nat) (l1 : Nat) {l2 : Int} (hl2 : kzI l2) {l3 : Int} (hl3 : kzI l3) (l4 : Nat) {l5 : Int} (hl5 : kzI l5) : CRu (Z7_workOut_3B G k3' l0 l1 l2 l3 l4 l5) (X7_workOut_3B G k3 l0 l1 (Int32.ofInt l2) (Int32.ofInt l3) l4 (Int32.ofInt l5)) := by
  unfold Z7_workOut_3B X7_workOut_3B
  exact c_cnd (kz_lt hl3 hl5 rfl rfl) (c_rt trivial rfl) ((qX7_workOut_12 hG hk3 l0 l1 _ hl2 _ hl3 l4 _ hl5 _ (by unfold kzI; omega)))
def Z7_workOut_3 (G : kdS) : Nat → Nat → Int → Int → Nat → Int → kzM → Option (Unit × kzM) := lp (fun _ _ _ _ _ _ _ => none) (Z7_workOut_3B G) NN
theorem qX7_workOut_3 {G : kdS} (hG : kzG G) : ∀ (a0 : Nat) (a1 : Nat) (a2 : Int) (_ : kzI a2) (a3 : Int) (_ : kzI a3) (a4 : Nat) (a5 : Int) (_ : kzI a5), CRu (Z7_workOut_3 G a0 a1 a2 a3 a4 a5) (X7_workOut_3 G a0 a1 (Int32.ofInt a2) (Int32.ofInt a3) a4 (Int32.ofInt a5)) :=
  lp_rel (R := fun (f' : Nat → Nat → Int → Int → Nat → Int → kzM → Option (Unit × kzM)) (f : Nat → Nat → Int32 → Int32 → Nat → Int32 → kdM → Option (Unit × kdM)) => ∀ (a0 : Nat) (a1 : Nat) (a2 : Int) (_ : kzI a2) (a3 : Int) (_ : kzI a3) (a4 : Nat) (a5 : Int) (_ : kzI a5), CRu (f' a0 a1 a2 a3 a4 a5) (f a0 a1 (Int32.ofInt a2) (Int32.ofInt a3) a4 (Int32.ofInt a5))) (by intros; exact c_no) (fun _ _ hf a0 a1 a2 ha2 a3 ha3 a4 a5 ha5 => qX7_workOut_3B hG hf a0 a1 ha2 ha3 a4 ha5) NN
def Z7_workOut (G : kdS) (l0 : Nat) (l1 : Nat) (l2 : Int) (l3 : Int) (l4 : Nat) : kzM → Option (Unit × kzM) :=
  Z7_workOut_3 G l0 l1 l2 l3 l4 (0 : Int)
theorem qX7_workOut {G : kdS} (hG : kzG G) (l0 : Nat) (l1 : Nat) {l2 : Int} (hl2 : kzI l2) {l3 : Int} (hl3 : kzI l3) (l4 : Nat) : CRu (Z7_workOut G l0 l1 l2 l3 l4) (X7_workOut G l0 l1 (Int32.ofInt l2) (Int32.ofInt l3) l4) := by
  unfold Z7_workOut X7_workOut
  exact (qX7_workOut_3 hG l0 l1 _ hl2 _ hl3 l4 _ (by unfold kzI; omega))
def Z7_priceOf (G : kdS) (l0 : Nat) (l1 : Nat) (l2 : Nat) : kzM → Option (Int × kzM) :=
  zcv G 6 l1 (Z6_size G l1) fun t1 =>
  zcv G 7 l0 (Z7_workOut G l0 l1 (0 : Int) t1 l2) fun _ =>
  zcv G 6 l1 (Z6_size G l1) fun t2 =>
  zcv G 7 l0 (Z7_leastFor G l0 t2 l2) fun t3 =>
  zrt t3
theorem qX7_priceOf {G : kdS} (hG : kzG G) (l0 : Nat) (l1 : Nat) (l2 : Nat) : CRi (Z7_priceOf G l0 l1 l2) (X7_priceOf G l0 l1 l2) := by
  unfold Z7_priceOf X7_priceOf
  exact c_cv (qX6_size hG l1) (fun t1 ht1 => c_cv (qX7_workOut hG l0 l1 (by unfold kzI; omega) ht1 l2) (fun _ _ => c_cv (qX6_size hG l1) (fun t2 ht2 => c_cv (qX7_leastFor hG l0 ht2 l2) (fun t3 ht3 => c_rt ht3 rfl))))
def Z1_clear (G : kdS) (l0 : Nat) : kzM → Option (Unit × kzM) :=
  zgR G 1 0 l0 fun t1 =>
  zcv G 6 t1 (Z6_clear G t1) fun t2 =>
  zgR G 1 1 l0 fun t3 =>
  zcv G 6 t3 (Z6_clear G t3) fun t4 =>
  zgR G 1 2 l0 fun t5 =>
  zcv G 6 t5 (Z6_clear G t5) fun t6 =>
  zrt ()
theorem qX1_clear {G : kdS} (hG : kzG G) (l0 : Nat) : CRu (Z1_clear G l0) (X1_clear G l0) := by
  unfold Z1_clear X1_clear
  exact c_gR (fun t1 => c_cv (qX6_clear hG t1) (fun t2 ht2 => c_gR (fun t3 => c_cv (qX6_clear hG t3) (fun t4 ht4 => c_gR (fun t5 => c_cv (qX6_clear hG t5) (fun t6 ht6 => c_rt trivial rfl))))))
def Z1_goesAhead_41 (G : kdS) (s0 : Int) : kzM → Option (Int × kzM) :=
  zrt (zB s0)
theorem qX1_goesAhead_41 {G : kdS} (hG : kzG G) {s0 : Int} (hs0 : kzI s0) : CRi (Z1_goesAhead_41 G s0) (X1_goesAhead_41 G (Int32.ofInt s0)) := by
  unfold Z1_goesAhead_41 X1_goesAhead_41
  exact c_rt (kz_BI _) (kz_B rfl)
def Z1_goesAhead_36 (G : kdS) : kzM → Option (Int × kzM) :=
  Z1_goesAhead_41 G (1 : Int)
theorem qX1_goesAhead_36 {G : kdS} (hG : kzG G) : CRi (Z1_goesAhead_36 G) (X1_goesAhead_36 G) := by
  unfold Z1_goesAhead_36 X1_goesAhead_36
  exact (qX1_goesAhead_41 hG (by unfold kzI; omega))
def Z1_goesAhead_40 (G : kdS) : kzM → Option (Int × kzM) :=
  Z1_goesAhead_41 G (0 : Int)
theorem qX1_goesAhead_40 {G : kdS} (hG : kzG G) : CRi (Z1_goesAhead_40 G) (X1_goesAhead_40 G) := by
  unfold Z1_goesAhead_40 X1_goesAhead_40
  exact (qX1_goesAhead_41 hG (by unfold kzI; omega))
def Z1_goesAhead (G : kdS) (l0 : Nat) (l1 : Int) (l2 : Int) (l3 : Int) : kzM → Option (Int × kzM) :=
  zgR G 1 1 l0 fun t1 =>
  zcv G 6 t1 (Z6_at G t1 l3) fun t2 =>
  zcnd (l1 < t2)
  (Z1_goesAhead_36 G)
  (zgR G 1 1 l0 fun t3 =>
  zcv G 6 t3 (Z6_at G t3 l3) fun t4 =>
  zcnd (l1 = t4)
  (zgR G 1 2 l0 fun t5 =>
  zcv G 6 t5 (Z6_at G t5 l3) fun t6 =>
  zcnd (l2 ≤ t6)
  (Z1_goesAhead_40 G)
  (Z1_goesAhead_36 G))
  (Z1_goesAhead_40 G))
theorem qX1_goesAhead {G : kdS} (hG : kzG G) (l0 : Nat) {l1 : Int} (hl1 : kzI l1) {l2 : Int} (hl2 : kzI l2) {l3 : Int} (hl3 : kzI l3) : CRi (Z1_goesAhead G l0 l1 l2 l3) (X1_goesAhead G l0 (Int32.ofInt l1) (Int32.ofInt l2) (Int32.ofInt l3)) := by
  unfold Z1_goesAhead X1_goesAhead
  exact c_gR (fun t1 => c_cv (qX6_at hG t1 hl3) (fun t2 ht2 => c_cnd (kz_lt hl1 ht2 rfl rfl) ((qX1_goesAhead_36 hG)) (c_gR (fun t3 => c_cv (qX6_at hG t3 hl3) (fun t4 ht4 => c_cnd (kz_eq hl1 ht4 rfl rfl) (c_gR (fun t5 => c_cv (qX6_at hG t5 hl3) (fun t6 ht6 => c_cnd (kz_le hl2 ht6 rfl rfl) ((qX1_goesAhead_40 hG)) ((qX1_goesAhead_36 hG))))) ((qX1_goesAhead_40 hG)))))))
def Z1_insert_33 (G : kdS) (l0 : Nat) (l1 : Int) (l2 : Int) (l3 : Int) (l4 : Int) : kzM → Option (Unit × kzM) :=
  zgR G 1 0 l0 fun t1 =>
  zcv G 6 t1 (Z6_insert G t1 l4 l1) fun _ =>
  zgR G 1 1 l0 fun t2 =>
  zcv G 6 t2 (Z6_insert G t2 l4 l2) fun _ =>
  zgR G 1 2 l0 fun t3 =>
  zcv G 6 t3 (Z6_insert G t3 l4 l3) fun _ =>
  zrt ()
theorem qX1_insert_33 {G : kdS} (hG : kzG G) (l0 : Nat) {l1 : Int} (hl1 : kzI l1) {l2 : Int} (hl2 : kzI l2) {l3 : Int} (hl3 : kzI l3) {l4 : Int} (hl4 : kzI l4) : CRu (Z1_insert_33 G l0 l1 l2 l3 l4) (X1_insert_33 G l0 (Int32.ofInt l1) (Int32.ofInt l2) (Int32.ofInt l3) (Int32.ofInt l4)) := by
  unfold Z1_insert_33 X1_insert_33
  exact c_gR (fun t1 => c_cv (qX6_insert hG t1 hl4 hl1) (fun _ _ => c_gR (fun t2 => c_cv (qX6_insert hG t2 hl4 hl2) (fun _ _ => c_gR (fun t3 => c_cv (qX6_insert hG t3 hl4 hl3) (fun _ _ => c_rt trivial rfl))))))
def Z1_insert_9B (G : kdS) (k9 : Nat → Int → Int → Int → Int → kzM → Option (Unit × kzM)) (l0 : Nat) (l1 : Int) (l2 : Int) (l3 : Int) (l4 : Int) : kzM → Option (Unit × kzM) :=
  zcnd (l4 ≤ (0 : Int))
  (Z1_insert_33 G l0 l1 l2 l3 l4)
  (zlI (l4 - (1 : Int)) fun u1 =>
  zcv G 1 l0 (Z1_goesAhead G l0 l2 l3 u1) fun t1 =>
  zcnd (t1 = (0 : Int))
  (Z1_insert_33 G l0 l1 l2 l3 l4)
  (zlI (l4 + (-1 : Int)) fun t2 =>
  k9 l0 l1 l2 l3 t2))
theorem qX1_insert_9B {G : kdS} (hG : kzG G) {k9' : Nat → Int → Int → Int → Int → kzM → Option (Unit × kzM)} {k9 : Nat → Int32 → Int32 → Int32 → Int32 → kdM → Option (Unit × kdM)} (hk9 : ∀ (a0 : Nat) (a1 : Int) (_ : kzI a1) (a2 : Int) (_ : kzI a2) (a3 : Int) (_ : kzI a3) (a4 : Int) (_ : kzI a4), CRu (k9' a0 a1 a2 a3 a4) (k9 a0 (Int32.ofInt a1) (Int32.ofInt a2) (Int32.ofInt a3) (Int32.ofInt a4))) (l0 : Nat) {l1 : Int} (hl1 : kzI l1) {l2 : Int} (hl2 : kzI l2) {l3 : Int} (hl3 : kzI l3) {l4 : Int} (hl4 : kzI l4) : CRu (Z1_insert_9B G k9' l0 l1 l2 l3 l4) (X1_insert_9B G k9 l0 (Int32.ofInt l1) (Int32.ofInt l2) (Int32.ofInt l3) (Int32.ofInt l4)) := by
  unfold Z1_insert_9B X1_insert_9B
  exact c_cnd (kz_le hl4 (by unfold kzI; omega) rfl rfl) ((qX1_insert_33 hG l0 hl1 hl2 hl3 hl4)) (c_rg (kz_sub rfl rfl) fun u1 r1 e1 => c_cv (e1 ▸ (qX1_goesAhead hG l0 hl2 hl3 r1)) (fun t1 ht1 => c_cnd (kz_eq ht1 (by unfold kzI; omega) rfl rfl) ((qX1_insert_33 hG l0 hl1 hl2 hl3 hl4)) (c_lI (kz_add rfl rfl) (fun t2 ht2 => (hk9 l0 _ hl1 _ hl2 _ hl3 _ ht2)))))
def Z1_insert_9 (G : kdS) : Nat → Int → Int → Int → Int → kzM → Option (Unit × kzM) := lp (fun _ _ _ _ _ _ => none) (Z1_insert_9B G) NN
theorem qX1_insert_9 {G : kdS} (hG : kzG G) : ∀ (a0 : Nat) (a1 : Int) (_ : kzI a1) (a2 : Int) (_ : kzI a2) (a3 : Int) (_ : kzI a3) (a4 : Int) (_ : kzI a4), CRu (Z1_insert_9 G a0 a1 a2 a3 a4) (X1_insert_9 G a0 (Int32.ofInt a1) (Int32.ofInt a2) (Int32.ofInt a3) (Int32.ofInt a4)) :=
  lp_rel (R := fun (f' : Nat → Int → Int → Int → Int → kzM → Option (Unit × kzM)) (f : Nat → Int32 → Int32 → Int32 → Int32 → kdM → Option (Unit × kdM)) => ∀ (a0 : Nat) (a1 : Int) (_ : kzI a1) (a2 : Int) (_ : kzI a2) (a3 : Int) (_ : kzI a3) (a4 : Int) (_ : kzI a4), CRu (f' a0 a1 a2 a3 a4) (f a0 (Int32.ofInt a1) (Int32.ofInt a2) (Int32.ofInt a3) (Int32.ofInt a4))) (by intros; exact c_no) (fun _ _ hf a0 a1 ha1 a2 ha2 a3 ha3 a4 ha4 => qX1_insert_9B hG hf a0 ha1 ha2 ha3 ha4) NN
def Z1_insert (G : kdS) (l0 : Nat) (l1 : Int) (l2 : Int) (l3 : Int) : kzM → Option (Unit × kzM) :=
  zgR G 1 0 l0 fun t1 =>
  zcv G 6 t1 (Z6_size G t1) fun t2 =>
  Z1_insert_9 G l0 l1 l2 l3 t2
theorem qX1_insert {G : kdS} (hG : kzG G) (l0 : Nat) {l1 : Int} (hl1 : kzI l1) {l2 : Int} (hl2 : kzI l2) {l3 : Int} (hl3 : kzI l3) : CRu (Z1_insert G l0 l1 l2 l3) (X1_insert G l0 (Int32.ofInt l1) (Int32.ofInt l2) (Int32.ofInt l3)) := by
  unfold Z1_insert X1_insert
  exact c_gR (fun t1 => c_cv (qX6_size hG t1) (fun t2 ht2 => (qX1_insert_9 hG l0 _ hl1 _ hl2 _ hl3 _ ht2)))
def Z1_guessAt_37 (G : kdS) (s0 : Int) : kzM → Option (Int × kzM) :=
  zrt s0
theorem qX1_guessAt_37 {G : kdS} (hG : kzG G) {s0 : Int} (hs0 : kzI s0) : CRi (Z1_guessAt_37 G s0) (X1_guessAt_37 G (Int32.ofInt s0)) := by
  unfold Z1_guessAt_37 X1_guessAt_37
  exact c_rt hs0 rfl
def Z1_guessAt (G : kdS) (l0 : Nat) (l1 : Int) : kzM → Option (Int × kzM) :=
  zcnd (l1 = (-1 : Int))
  (zgR G 1 0 l0 fun t1 =>
  zcv G 6 t1 (Z6_size G t1) fun t2 =>
  zrt t2)
  (zgR G 1 0 l0 fun t3 =>
  zcv G 6 t3 (Z6_has G t3 l1) fun t4 =>
  zcnd (t4 = (0 : Int))
  (Z1_guessAt_37 G (-6 : Int))
  (zgR G 1 0 l0 fun t5 =>
  zcv G 6 t5 (Z6_at G t5 l1) fun t6 =>
  Z1_guessAt_37 G t6))
theorem qX1_guessAt {G : kdS} (hG : kzG G) (l0 : Nat) {l1 : Int} (hl1 : kzI l1) : CRi (Z1_guessAt G l0 l1) (X1_guessAt G l0 (Int32.ofInt l1)) := by
  unfold Z1_guessAt X1_guessAt
  exact c_cnd (kz_eq hl1 (by unfold kzI; omega) rfl rfl) (c_gR (fun t1 => c_cv (qX6_size hG t1) (fun t2 ht2 => c_rt ht2 rfl))) (c_gR (fun t3 => c_cv (qX6_has hG t3 hl1) (fun t4 ht4 => c_cnd (kz_eq ht4 (by unfold kzI; omega) rfl rfl) ((qX1_guessAt_37 hG (by unfold kzI; omega))) (c_gR (fun t5 => c_cv (qX6_at hG t5 hl1) (fun t6 ht6 => (qX1_guessAt_37 hG ht6)))))))
def Z0_pairs (G : kdS) (l0 : Nat) : kzM → Option (Int × kzM) :=
  zgI G 0 2 l0 fun t1 =>
  zrt t1
theorem qX0_pairs {G : kdS} (hG : kzG G) (l0 : Nat) : CRi (Z0_pairs G l0) (X0_pairs G l0) := by
  unfold Z0_pairs X0_pairs
  exact c_gI rfl (fun t1 ht1 => c_rt ht1 rfl)
def Z0_padSize (G : kdS) (l0 : Nat) : kzM → Option (Int × kzM) :=
  zgR G 0 3 l0 fun t1 =>
  zcv G 6 t1 (Z6_size G t1) fun t2 =>
  zrt t2
theorem qX0_padSize {G : kdS} (hG : kzG G) (l0 : Nat) : CRi (Z0_padSize G l0) (X0_padSize G l0) := by
  unfold Z0_padSize X0_padSize
  exact c_gR (fun t1 => c_cv (qX6_size hG t1) (fun t2 ht2 => c_rt ht2 rfl))
def Z2_learnings (G : kdS) (l0 : Nat) : kzM → Option (Int × kzM) :=
  zgR G 2 0 l0 fun t1 =>
  zcv G 6 t1 (Z6_size G t1) fun t2 =>
  zrt t2
theorem qX2_learnings {G : kdS} (hG : kzG G) (l0 : Nat) : CRi (Z2_learnings G l0) (X2_learnings G l0) := by
  unfold Z2_learnings X2_learnings
  exact c_gR (fun t1 => c_cv (qX6_size hG t1) (fun t2 ht2 => c_rt ht2 rfl))
def Z2_isFull (G : kdS) (l0 : Nat) : kzM → Option (Int × kzM) :=
  zgR G 2 0 l0 fun t1 =>
  zcv G 6 t1 (Z6_isFull G t1) fun t2 =>
  zrt (zB t2)
theorem qX2_isFull {G : kdS} (hG : kzG G) (l0 : Nat) : CRi (Z2_isFull G l0) (X2_isFull G l0) := by
  unfold Z2_isFull X2_isFull
  exact c_gR (fun t1 => c_cv (qX6_isFull hG t1) (fun t2 ht2 => c_rt (kz_BI _) (kz_B rfl)))
def Z2_addLearning (G : kdS) (l0 : Nat) (l1 : Int) (l2 : Int) (l3 : Int) : kzM → Option (Int × kzM) :=
  zgR G 2 0 l0 fun t1 =>
  zcv G 6 t1 (Z6_add G t1 l1) fun _ =>
  zgR G 2 1 l0 fun t2 =>
  zcv G 6 t2 (Z6_add G t2 l2) fun _ =>
  zgR G 2 2 l0 fun t3 =>
  zcv G 6 t3 (Z6_add G t3 l3) fun _ =>
  zcv G 2 l0 (Z2_learnings G l0) fun t4 =>
  zrt t4
theorem qX2_addLearning {G : kdS} (hG : kzG G) (l0 : Nat) {l1 : Int} (hl1 : kzI l1) {l2 : Int} (hl2 : kzI l2) {l3 : Int} (hl3 : kzI l3) : CRi (Z2_addLearning G l0 l1 l2 l3) (X2_addLearning G l0 (Int32.ofInt l1) (Int32.ofInt l2) (Int32.ofInt l3)) := by
  unfold Z2_addLearning X2_addLearning
  exact c_gR (fun t1 => c_cv (qX6_add hG t1 hl1) (fun _ _ => c_gR (fun t2 => c_cv (qX6_add hG t2 hl2) (fun _ _ => c_gR (fun t3 => c_cv (qX6_add hG t3 hl3) (fun _ _ => c_cv (qX2_learnings hG l0) (fun t4 ht4 => c_rt ht4 rfl)))))))
def Z2_latestDay_37 (G : kdS) (k4 : Nat → Int → Int → Int → kzM → Option (Int × kzM)) (l0 : Nat) (l1 : Int) (l2 : Int) (l3 : Int) : kzM → Option (Int × kzM) :=
  zlI (l3 + (1 : Int)) fun t1 =>
  k4 l0 l1 l2 t1
theorem qX2_latestDay_37 {G : kdS} (hG : kzG G) {k4' : Nat → Int → Int → Int → kzM → Option (Int × kzM)} {k4 : Nat → Int32 → Int32 → Int32 → kdM → Option (Int32 × kdM)} (hk4 : ∀ (a0 : Nat) (a1 : Int) (_ : kzI a1) (a2 : Int) (_ : kzI a2) (a3 : Int) (_ : kzI a3), CRi (k4' a0 a1 a2 a3) (k4 a0 (Int32.ofInt a1) (Int32.ofInt a2) (Int32.ofInt a3))) (l0 : Nat) {l1 : Int} (hl1 : kzI l1) {l2 : Int} (hl2 : kzI l2) {l3 : Int} (hl3 : kzI l3) : CRi (Z2_latestDay_37 G k4' l0 l1 l2 l3) (X2_latestDay_37 G k4 l0 (Int32.ofInt l1) (Int32.ofInt l2) (Int32.ofInt l3)) := by
  unfold Z2_latestDay_37 X2_latestDay_37
  exact c_lI (kz_add rfl rfl) (fun t1 ht1 => (hk4 l0 _ hl1 _ hl2 _ ht1))
def Z2_latestDay_4B (G : kdS) (k4 : Nat → Int → Int → Int → kzM → Option (Int × kzM)) (l0 : Nat) (l1 : Int) (l2 : Int) (l3 : Int) : kzM → Option (Int × kzM) :=
  zcv G 2 l0 (Z2_learnings G l0) fun t1 =>
  zcnd (t1 ≤ l3)
  (zrt l2)
  (zgR G 2 0 l0 fun t2 =>
  zcv G 6 t2 (Z6_at G t2 l3) fun t3 =>
  zcnd (t3 = l1)
  (zgR G 2 2 l0 fun t4 =>
  zcv G 6 t4 (Z6_at G t4 l3) fun t5 =>
  zlI (zmax l2 t5) fun t6 =>
  Z2_latestDay_37 G k4 l0 l1 t6 l3)
  (Z2_latestDay_37 G k4 l0 l1 l2 l3))
theorem qX2_latestDay_4B {G : kdS} (hG : kzG G) {k4' : Nat → Int → Int → Int → kzM → Option (Int × kzM)} {k4 : Nat → Int32 → Int32 → Int32 → kdM → Option (Int32 × kdM)} (hk4 : ∀ (a0 : Nat) (a1 : Int) (_ : kzI a1) (a2 : Int) (_ : kzI a2) (a3 : Int) (_ : kzI a3), CRi (k4' a0 a1 a2 a3) (k4 a0 (Int32.ofInt a1) (Int32.ofInt a2) (Int32.ofInt a3))) (l0 : Nat) {l1 : Int} (hl1 : kzI l1) {l2 : Int} (hl2 : kzI l2) {l3 : Int} (hl3 : kzI l3) : CRi (Z2_latestDay_4B G k4' l0 l1 l2 l3) (X2_latestDay_4B G k4 l0 (Int32.ofInt l1) (Int32.ofInt l2) (Int32.ofInt l3)) := by
  unfold Z2_latestDay_4B X2_latestDay_4B
  exact c_cv (qX2_learnings hG l0) (fun t1 ht1 => c_cnd (kz_le ht1 hl3 rfl rfl) (c_rt hl2 rfl) (c_gR (fun t2 => c_cv (qX6_at hG t2 hl3) (fun t3 ht3 => c_cnd (kz_eq ht3 hl1 rfl rfl) (c_gR (fun t4 => c_cv (qX6_at hG t4 hl3) (fun t5 ht5 => c_lI (kz_max hl2 ht5 rfl rfl) (fun t6 ht6 => (qX2_latestDay_37 hG hk4 l0 hl1 ht6 hl3))))) ((qX2_latestDay_37 hG hk4 l0 hl1 hl2 hl3))))))
def Z2_latestDay_4 (G : kdS) : Nat → Int → Int → Int → kzM → Option (Int × kzM) := lp (fun _ _ _ _ _ => none) (Z2_latestDay_4B G) NN
theorem qX2_latestDay_4 {G : kdS} (hG : kzG G) : ∀ (a0 : Nat) (a1 : Int) (_ : kzI a1) (a2 : Int) (_ : kzI a2) (a3 : Int) (_ : kzI a3), CRi (Z2_latestDay_4 G a0 a1 a2 a3) (X2_latestDay_4 G a0 (Int32.ofInt a1) (Int32.ofInt a2) (Int32.ofInt a3)) :=
  lp_rel (R := fun (f' : Nat → Int → Int → Int → kzM → Option (Int × kzM)) (f : Nat → Int32 → Int32 → Int32 → kdM → Option (Int32 × kdM)) => ∀ (a0 : Nat) (a1 : Int) (_ : kzI a1) (a2 : Int) (_ : kzI a2) (a3 : Int) (_ : kzI a3), CRi (f' a0 a1 a2 a3) (f a0 (Int32.ofInt a1) (Int32.ofInt a2) (Int32.ofInt a3))) (by intros; exact c_no) (fun _ _ hf a0 a1 ha1 a2 ha2 a3 ha3 => qX2_latestDay_4B hG hf a0 ha1 ha2 ha3) NN
def Z2_latestDay (G : kdS) (l0 : Nat) (l1 : Int) : kzM → Option (Int × kzM) :=
  Z2_latestDay_4 G l0 l1 (0 : Int) (0 : Int)
theorem qX2_latestDay {G : kdS} (hG : kzG G) (l0 : Nat) {l1 : Int} (hl1 : kzI l1) : CRi (Z2_latestDay G l0 l1) (X2_latestDay G l0 (Int32.ofInt l1)) := by
  unfold Z2_latestDay X2_latestDay
  exact (qX2_latestDay_4 hG l0 _ hl1 _ (by unfold kzI; omega) _ (by unfold kzI; omega))
def Z2_faded_6B (G : kdS) (k6 : Nat → Int → Int → Int → kzM → Option (Int × kzM)) (l0 : Nat) (l1 : Int) (l2 : Int) (l3 : Int) : kzM → Option (Int × kzM) :=
  zcnd (l1 ≤ l3)
  (zrt l2)
  (zgI G 2 4 l0 fun t1 =>
  znz (1000 : Int) <|
  zlI (l2 * t1) fun u1 =>
  zlI (u1.tdiv (1000 : Int)) fun t2 =>
  zcnd (t2 = l2)
  (zrt l2)
  (zlI (l3 + (1 : Int)) fun t3 =>
  k6 l0 l1 t2 t3))
theorem qX2_faded_6B {G : kdS} (hG : kzG G) {k6' : Nat → Int → Int → Int → kzM → Option (Int × kzM)} {k6 : Nat → Int32 → Int32 → Int32 → kdM → Option (Int32 × kdM)} (hk6 : ∀ (a0 : Nat) (a1 : Int) (_ : kzI a1) (a2 : Int) (_ : kzI a2) (a3 : Int) (_ : kzI a3), CRi (k6' a0 a1 a2 a3) (k6 a0 (Int32.ofInt a1) (Int32.ofInt a2) (Int32.ofInt a3))) (l0 : Nat) {l1 : Int} (hl1 : kzI l1) {l2 : Int} (hl2 : kzI l2) {l3 : Int} (hl3 : kzI l3) : CRi (Z2_faded_6B G k6' l0 l1 l2 l3) (X2_faded_6B G k6 l0 (Int32.ofInt l1) (Int32.ofInt l2) (Int32.ofInt l3)) := by
  unfold Z2_faded_6B X2_faded_6B
  exact c_cnd (kz_le hl1 hl3 rfl rfl) (c_rt hl2 rfl) (c_gI rfl (fun t1 ht1 => c_nz (by unfold kzI; omega) rfl (c_rg (kz_mul rfl rfl) fun u1 r1 e1 => c_lI (kz_div r1 (by unfold kzI; omega) e1 rfl) (fun t2 ht2 => c_cnd (kz_eq ht2 hl2 rfl rfl) (c_rt hl2 rfl) (c_lI (kz_add rfl rfl) (fun t3 ht3 => (hk6 l0 _ hl1 _ ht2 _ ht3)))))))
def Z2_faded_6 (G : kdS) : Nat → Int → Int → Int → kzM → Option (Int × kzM) := lp (fun _ _ _ _ _ => none) (Z2_faded_6B G) NN
theorem qX2_faded_6 {G : kdS} (hG : kzG G) : ∀ (a0 : Nat) (a1 : Int) (_ : kzI a1) (a2 : Int) (_ : kzI a2) (a3 : Int) (_ : kzI a3), CRi (Z2_faded_6 G a0 a1 a2 a3) (X2_faded_6 G a0 (Int32.ofInt a1) (Int32.ofInt a2) (Int32.ofInt a3)) :=
  lp_rel (R := fun (f' : Nat → Int → Int → Int → kzM → Option (Int × kzM)) (f : Nat → Int32 → Int32 → Int32 → kdM → Option (Int32 × kdM)) => ∀ (a0 : Nat) (a1 : Int) (_ : kzI a1) (a2 : Int) (_ : kzI a2) (a3 : Int) (_ : kzI a3), CRi (f' a0 a1 a2 a3) (f a0 (Int32.ofInt a1) (Int32.ofInt a2) (Int32.ofInt a3))) (by intros; exact c_no) (fun _ _ hf a0 a1 ha1 a2 ha2 a3 ha3 => qX2_faded_6B hG hf a0 ha1 ha2 ha3) NN
def Z2_faded (G : kdS) (l0 : Nat) (l1 : Int) : kzM → Option (Int × kzM) :=
  Z2_faded_6 G l0 l1 (1000 : Int) (0 : Int)
theorem qX2_faded {G : kdS} (hG : kzG G) (l0 : Nat) {l1 : Int} (hl1 : kzI l1) : CRi (Z2_faded G l0 l1) (X2_faded G l0 (Int32.ofInt l1)) := by
  unfold Z2_faded X2_faded
  exact (qX2_faded_6 hG l0 _ hl1 _ (by unfold kzI; omega) _ (by unfold kzI; omega))
def Z2_isOf_29 (G : kdS) (s0 : Int) : kzM → Option (Int × kzM) :=
  zrt (zB s0)
theorem qX2_isOf_29 {G : kdS} (hG : kzG G) {s0 : Int} (hs0 : kzI s0) : CRi (Z2_isOf_29 G s0) (X2_isOf_29 G (Int32.ofInt s0)) := by
  unfold Z2_isOf_29 X2_isOf_29
  exact c_rt (kz_BI _) (kz_B rfl)
def Z2_isOf_28 (G : kdS) : kzM → Option (Int × kzM) :=
  Z2_isOf_29 G (0 : Int)
theorem qX2_isOf_28 {G : kdS} (hG : kzG G) : CRi (Z2_isOf_28 G) (X2_isOf_28 G) := by
  unfold Z2_isOf_28 X2_isOf_28
  exact (qX2_isOf_29 hG (by unfold kzI; omega))
def Z2_isOf (G : kdS) (l0 : Nat) (l1 : Int) (l2 : Int) (l3 : Int) : kzM → Option (Int × kzM) :=
  zgR G 2 0 l0 fun t1 =>
  zcv G 6 t1 (Z6_at G t1 l1) fun t2 =>
  zcnd (t2 = l2)
  (zgR G 2 1 l0 fun t3 =>
  zcv G 6 t3 (Z6_at G t3 l1) fun t4 =>
  zcnd (t4 = l3)
  (Z2_isOf_29 G (1 : Int))
  (Z2_isOf_28 G))
  (Z2_isOf_28 G)
theorem qX2_isOf {G : kdS} (hG : kzG G) (l0 : Nat) {l1 : Int} (hl1 : kzI l1) {l2 : Int} (hl2 : kzI l2) {l3 : Int} (hl3 : kzI l3) : CRi (Z2_isOf G l0 l1 l2 l3) (X2_isOf G l0 (Int32.ofInt l1) (Int32.ofInt l2) (Int32.ofInt l3)) := by
  unfold Z2_isOf X2_isOf
  exact c_gR (fun t1 => c_cv (qX6_at hG t1 hl1) (fun t2 ht2 => c_cnd (kz_eq ht2 hl2 rfl rfl) (c_gR (fun t3 => c_cv (qX6_at hG t3 hl1) (fun t4 ht4 => c_cnd (kz_eq ht4 hl3 rfl rfl) ((qX2_isOf_29 hG (by unfold kzI; omega))) ((qX2_isOf_28 hG))))) ((qX2_isOf_28 hG))))
def Z2_worthOf_59 (G : kdS) (k6 : Nat → Int → Int → Int → Int → Int → kzM → Option (Int × kzM)) (l0 : Nat) (l1 : Int) (l2 : Int) (l3 : Int) (l4 : Int) (l5 : Int) : kzM → Option (Int × kzM) :=
  zlI (l5 + (1 : Int)) fun t1 =>
  k6 l0 l1 l2 l3 l4 t1
theorem qX2_worthOf_59 {G : kdS} (hG : kzG G) {k6' : Nat → Int → Int → Int → Int → Int → kzM → Option (Int × kzM)} {k6 : Nat → Int32 → Int32 → Int32 → Int32 → Int32 → kdM → Option (Int32 × kdM)} (hk6 : ∀ (a0 : Nat) (a1 : Int) (_ : kzI a1) (a2 : Int) (_ : kzI a2) (a3 : Int) (_ : kzI a3) (a4 : Int) (_ : kzI a4) (a5 : Int) (_ : kzI a5), CRi (k6' a0 a1 a2 a3 a4 a5) (k6 a0 (Int32.ofInt a1) (Int32.ofInt a2) (Int32.ofInt a3) (Int32.ofInt a4) (Int32.ofInt a5))) (l0 : Nat) {l1 : Int} (hl1 : kzI l1) {l2 : Int} (hl2 : kzI l2) {l3 : Int} (hl3 : kzI l3) {l4 : Int} (hl4 : kzI l4) {l5 : Int} (hl5 : kzI l5) : CRi (Z2_worthOf_59 G k6' l0 l1 l2 l3 l4 l5) (X2_worthOf_59 G k6 l0 (Int32.ofInt l1) (Int32.ofInt l2) (Int32.ofInt l3) (Int32.ofInt l4) (Int32.ofInt l5)) := by
  unfold Z2_worthOf_59 X2_worthOf_59
  exact c_lI (kz_add rfl rfl) (fun t1 ht1 => (hk6 l0 _ hl1 _ hl2 _ hl3 _ hl4 _ ht1))
def Z2_worthOf_6B (G : kdS) (k6 : Nat → Int → Int → Int → Int → Int → kzM → Option (Int × kzM)) (l0 : Nat) (l1 : Int) (l2 : Int) (l3 : Int) (l4 : Int) (l5 : Int) : kzM → Option (Int × kzM) :=
  zcv G 2 l0 (Z2_learnings G l0) fun t1 =>
  zcnd (t1 ≤ l5)
  (zrt l4)
  (zcv G 2 l0 (Z2_isOf G l0 l5 l1 l2) fun t2 =>
  zcnd (t2 = (0 : Int))
  (Z2_worthOf_59 G k6 l0 l1 l2 l3 l4 l5)
  (zgR G 2 2 l0 fun t3 =>
  zcv G 6 t3 (Z6_at G t3 l5) fun t4 =>
  zcnd (l3 < t4)
  (Z2_worthOf_59 G k6 l0 l1 l2 l3 l4 l5)
  (zgR G 2 2 l0 fun t5 =>
  zcv G 6 t5 (Z6_at G t5 l5) fun t6 =>
  zlI (l3 - t6) fun u1 =>
  zcv G 2 l0 (Z2_faded G l0 u1) fun t7 =>
  zlI (l4 + t7) fun t8 =>
  Z2_worthOf_59 G k6 l0 l1 l2 l3 t8 l5)))
theorem qX2_worthOf_6B {G : kdS} (hG : kzG G) {k6' : Nat → Int → Int → Int → Int → Int → kzM → Option (Int × kzM)} {k6 : Nat → Int32 → Int32 → Int32 → Int32 → Int32 → kdM → Option (Int32 × kdM)} (hk6 : ∀ (a0 : Nat) (a1 : Int) (_ : kzI a1) (a2 : Int) (_ : kzI a2) (a3 : Int) (_ : kzI a3) (a4 : Int) (_ : kzI a4) (a5 : Int) (_ : kzI a5), CRi (k6' a0 a1 a2 a3 a4 a5) (k6 a0 (Int32.ofInt a1) (Int32.ofInt a2) (Int32.ofInt a3) (Int32.ofInt a4) (Int32.ofInt a5))) (l0 : Nat) {l1 : Int} (hl1 : kzI l1) {l2 : Int} (hl2 : kzI l2) {l3 : Int} (hl3 : kzI l3) {l4 : Int} (hl4 : kzI l4) {l5 : Int} (hl5 : kzI l5) : CRi (Z2_worthOf_6B G k6' l0 l1 l2 l3 l4 l5) (X2_worthOf_6B G k6 l0 (Int32.ofInt l1) (Int32.ofInt l2) (Int32.ofInt l3) (Int32.ofInt l4) (Int32.ofInt l5)) := by
  unfold Z2_worthOf_6B X2_worthOf_6B
  exact c_cv (qX2_learnings hG l0) (fun t1 ht1 => c_cnd (kz_le ht1 hl5 rfl rfl) (c_rt hl4 rfl) (c_cv (qX2_isOf hG l0 hl5 hl1 hl2) (fun t2 ht2 => c_cnd (kz_eq ht2 (by unfold kzI; omega) rfl rfl) ((qX2_worthOf_59 hG hk6 l0 hl1 hl2 hl3 hl4 hl5)) (c_gR (fun t3 => c_cv (qX6_at hG t3 hl5) (fun t4 ht4 => c_cnd (kz_lt hl3 ht4 rfl rfl) ((qX2_worthOf_59 hG hk6 l0 hl1 hl2 hl3 hl4 hl5)) (c_gR (fun t5 => c_cv (qX6_at hG t5 hl5) (fun t6 ht6 => c_rg (kz_sub rfl rfl) fun u1 r1 e1 => c_cv (e1 ▸ (qX2_faded hG l0 r1)) (fun t7 ht7 => c_lI (kz_add rfl rfl) (fun t8 ht8 => (qX2_worthOf_59 hG hk6 l0 hl1 hl2 hl3 ht8 hl5))))))))))))
def Z2_worthOf_6 (G : kdS) : Nat → Int → Int → Int → Int → Int → kzM → Option (Int × kzM) := lp (fun _ _ _ _ _ _ _ => none) (Z2_worthOf_6B G) NN
theorem qX2_worthOf_6 {G : kdS} (hG : kzG G) : ∀ (a0 : Nat) (a1 : Int) (_ : kzI a1) (a2 : Int) (_ : kzI a2) (a3 : Int) (_ : kzI a3) (a4 : Int) (_ : kzI a4) (a5 : Int) (_ : kzI a5), CRi (Z2_worthOf_6 G a0 a1 a2 a3 a4 a5) (X2_worthOf_6 G a0 (Int32.ofInt a1) (Int32.ofInt a2) (Int32.ofInt a3) (Int32.ofInt a4) (Int32.ofInt a5)) :=
  lp_rel (R := fun (f' : Nat → Int → Int → Int → Int → Int → kzM → Option (Int × kzM)) (f : Nat → Int32 → Int32 → Int32 → Int32 → Int32 → kdM → Option (Int32 × kdM)) => ∀ (a0 : Nat) (a1 : Int) (_ : kzI a1) (a2 : Int) (_ : kzI a2) (a3 : Int) (_ : kzI a3) (a4 : Int) (_ : kzI a4) (a5 : Int) (_ : kzI a5), CRi (f' a0 a1 a2 a3 a4 a5) (f a0 (Int32.ofInt a1) (Int32.ofInt a2) (Int32.ofInt a3) (Int32.ofInt a4) (Int32.ofInt a5))) (by intros; exact c_no) (fun _ _ hf a0 a1 ha1 a2 ha2 a3 ha3 a4 ha4 a5 ha5 => qX2_worthOf_6B hG hf a0 ha1 ha2 ha3 ha4 ha5) NN
def Z2_worthOf (G : kdS) (l0 : Nat) (l1 : Int) (l2 : Int) (l3 : Int) : kzM → Option (Int × kzM) :=
  Z2_worthOf_6 G l0 l1 l2 l3 (0 : Int) (0 : Int)
theorem qX2_worthOf {G : kdS} (hG : kzG G) (l0 : Nat) {l1 : Int} (hl1 : kzI l1) {l2 : Int} (hl2 : kzI l2) {l3 : Int} (hl3 : kzI l3) : CRi (Z2_worthOf G l0 l1 l2 l3) (X2_worthOf G l0 (Int32.ofInt l1) (Int32.ofInt l2) (Int32.ofInt l3)) := by
  unfold Z2_worthOf X2_worthOf
  exact (qX2_worthOf_6 hG l0 _ hl1 _ hl2 _ hl3 _ (by unfold kzI; omega) _ (by unfold kzI; omega))
def Z2_dropLearnings_73 (G : kdS) (k10 : Nat → Int → Int → Int → Int → kzM → Option (Int × kzM)) (l0 : Nat) (l1 : Int) (l2 : Int) (l3 : Int) (l4 : Int) : kzM → Option (Int × kzM) :=
  zlI (l4 + (-1 : Int)) fun t1 =>
  k10 l0 l1 l2 l3 t1
theorem qX2_dropLearnings_73 {G : kdS} (hG : kzG G) {k10' : Nat → Int → Int → Int → Int → kzM → Option (Int × kzM)} {k10 : Nat → Int32 → Int32 → Int32 → Int32 → kdM → Option (Int32 × kdM)} (hk10 : ∀ (a0 : Nat) (a1 : Int) (_ : kzI a1) (a2 : Int) (_ : kzI a2) (a3 : Int) (_ : kzI a3) (a4 : Int) (_ : kzI a4), CRi (k10' a0 a1 a2 a3 a4) (k10 a0 (Int32.ofInt a1) (Int32.ofInt a2) (Int32.ofInt a3) (Int32.ofInt a4))) (l0 : Nat) {l1 : Int} (hl1 : kzI l1) {l2 : Int} (hl2 : kzI l2) {l3 : Int} (hl3 : kzI l3) {l4 : Int} (hl4 : kzI l4) : CRi (Z2_dropLearnings_73 G k10' l0 l1 l2 l3 l4) (X2_dropLearnings_73 G k10 l0 (Int32.ofInt l1) (Int32.ofInt l2) (Int32.ofInt l3) (Int32.ofInt l4)) := by
  unfold Z2_dropLearnings_73 X2_dropLearnings_73
  exact c_lI (kz_add rfl rfl) (fun t1 ht1 => (hk10 l0 _ hl1 _ hl2 _ hl3 _ ht1))
def Z2_dropLearnings_37 (G : kdS) (k10 : Nat → Int → Int → Int → Int → kzM → Option (Int × kzM)) (l0 : Nat) (l1 : Int) (l2 : Int) (l3 : Int) (l4 : Int) (s0 : Nat) (s1 : Int) (s2 : Int) (s3 : Int) : kzM → Option (Int × kzM) :=
  zcv G 2 s0 (Z2_isOf G s0 s1 s2 s3) fun t1 =>
  zcnd (t1 = (0 : Int))
  (Z2_dropLearnings_73 G k10 l0 l1 l2 l3 l4)
  (zgR G 2 0 l0 fun t2 =>
  zcv G 6 t2 (Z6_remove G t2 l4) fun t3 =>
  zgR G 2 1 l0 fun t4 =>
  zcv G 6 t4 (Z6_remove G t4 l4) fun t5 =>
  zgR G 2 2 l0 fun t6 =>
  zcv G 6 t6 (Z6_remove G t6 l4) fun t7 =>
  Z2_dropLearnings_73 G k10 l0 l1 l2 l3 l4)
theorem qX2_dropLearnings_37 {G : kdS} (hG : kzG G) {k10' : Nat → Int → Int → Int → Int → kzM → Option (Int × kzM)} {k10 : Nat → Int32 → Int32 → Int32 → Int32 → kdM → Option (Int32 × kdM)} (hk10 : ∀ (a0 : Nat) (a1 : Int) (_ : kzI a1) (a2 : Int) (_ : kzI a2) (a3 : Int) (_ : kzI a3) (a4 : Int) (_ : kzI a4), CRi (k10' a0 a1 a2 a3 a4) (k10 a0 (Int32.ofInt a1) (Int32.ofInt a2) (Int32.ofInt a3) (Int32.ofInt a4))) (l0 : Nat) {l1 : Int} (hl1 : kzI l1) {l2 : Int} (hl2 : kzI l2) {l3 : Int} (hl3 : kzI l3) {l4 : Int} (hl4 : kzI l4) (s0 : Nat) {s1 : Int} (hs1 : kzI s1) {s2 : Int} (hs2 : kzI s2) {s3 : Int} (hs3 : kzI s3) : CRi (Z2_dropLearnings_37 G k10' l0 l1 l2 l3 l4 s0 s1 s2 s3) (X2_dropLearnings_37 G k10 l0 (Int32.ofInt l1) (Int32.ofInt l2) (Int32.ofInt l3) (Int32.ofInt l4) s0 (Int32.ofInt s1) (Int32.ofInt s2) (Int32.ofInt s3)) := by
  unfold Z2_dropLearnings_37 X2_dropLearnings_37
  exact c_cv (qX2_isOf hG s0 hs1 hs2 hs3) (fun t1 ht1 => c_cnd (kz_eq ht1 (by unfold kzI; omega) rfl rfl) ((qX2_dropLearnings_73 hG hk10 l0 hl1 hl2 hl3 hl4)) (c_gR (fun t2 => c_cv (qX6_remove hG t2 hl4) (fun t3 ht3 => c_gR (fun t4 => c_cv (qX6_remove hG t4 hl4) (fun t5 ht5 => c_gR (fun t6 => c_cv (qX6_remove hG t6 hl4) (fun t7 ht7 => (qX2_dropLearnings_73 hG hk10 l0 hl1 hl2 hl3 hl4)))))))))
def Z2_dropLearnings_10B (G : kdS) (k10 : Nat → Int → Int → Int → Int → kzM → Option (Int × kzM)) (l0 : Nat) (l1 : Int) (l2 : Int) (l3 : Int) (l4 : Int) : kzM → Option (Int × kzM) :=
  zcnd (l4 < (0 : Int))
  (zcv G 2 l0 (Z2_learnings G l0) fun t1 =>
  zlI (l3 - t1) fun u1 =>
  zrt u1)
  (zcnd (l2 = (-1 : Int))
  (zgR G 2 1 l0 fun t2 =>
  zcv G 6 t2 (Z6_at G t2 l4) fun t3 =>
  Z2_dropLearnings_37 G k10 l0 l1 l2 l3 l4 l0 l4 l1 t3)
  (Z2_dropLearnings_37 G k10 l0 l1 l2 l3 l4 l0 l4 l1 l2))
theorem qX2_dropLearnings_10B {G : kdS} (hG : kzG G) {k10' : Nat → Int → Int → Int → Int → kzM → Option (Int × kzM)} {k10 : Nat → Int32 → Int32 → Int32 → Int32 → kdM → Option (Int32 × kdM)} (hk10 : ∀ (a0 : Nat) (a1 : Int) (_ : kzI a1) (a2 : Int) (_ : kzI a2) (a3 : Int) (_ : kzI a3) (a4 : Int) (_ : kzI a4), CRi (k10' a0 a1 a2 a3 a4) (k10 a0 (Int32.ofInt a1) (Int32.ofInt a2) (Int32.ofInt a3) (Int32.ofInt a4))) (l0 : Nat) {l1 : Int} (hl1 : kzI l1) {l2 : Int} (hl2 : kzI l2) {l3 : Int} (hl3 : kzI l3) {l4 : Int} (hl4 : kzI l4) : CRi (Z2_dropLearnings_10B G k10' l0 l1 l2 l3 l4) (X2_dropLearnings_10B G k10 l0 (Int32.ofInt l1) (Int32.ofInt l2) (Int32.ofInt l3) (Int32.ofInt l4)) := by
  unfold Z2_dropLearnings_10B X2_dropLearnings_10B
  exact c_cnd (kz_lt hl4 (by unfold kzI; omega) rfl rfl) (c_cv (qX2_learnings hG l0) (fun t1 ht1 => c_rg (kz_sub rfl rfl) fun u1 r1 e1 => c_rt r1 e1)) (c_cnd (kz_eq hl2 (by unfold kzI; omega) rfl rfl) (c_gR (fun t2 => c_cv (qX6_at hG t2 hl4) (fun t3 ht3 => (qX2_dropLearnings_37 hG hk10 l0 hl1 hl2 hl3 hl4 l0 hl4 hl1 ht3)))) ((qX2_dropLearnings_37 hG hk10 l0 hl1 hl2 hl3 hl4 l0 hl4 hl1 hl2)))
def Z2_dropLearnings_10 (G : kdS) : Nat → Int → Int → Int → Int → kzM → Option (Int × kzM) := lp (fun _ _ _ _ _ _ => none) (Z2_dropLearnings_10B G) NN
theorem qX2_dropLearnings_10 {G : kdS} (hG : kzG G) : ∀ (a0 : Nat) (a1 : Int) (_ : kzI a1) (a2 : Int) (_ : kzI a2) (a3 : Int) (_ : kzI a3) (a4 : Int) (_ : kzI a4), CRi (Z2_dropLearnings_10 G a0 a1 a2 a3 a4) (X2_dropLearnings_10 G a0 (Int32.ofInt a1) (Int32.ofInt a2) (Int32.ofInt a3) (Int32.ofInt a4)) :=
  lp_rel (R := fun (f' : Nat → Int → Int → Int → Int → kzM → Option (Int × kzM)) (f : Nat → Int32 → Int32 → Int32 → Int32 → kdM → Option (Int32 × kdM)) => ∀ (a0 : Nat) (a1 : Int) (_ : kzI a1) (a2 : Int) (_ : kzI a2) (a3 : Int) (_ : kzI a3) (a4 : Int) (_ : kzI a4), CRi (f' a0 a1 a2 a3 a4) (f a0 (Int32.ofInt a1) (Int32.ofInt a2) (Int32.ofInt a3) (Int32.ofInt a4))) (by intros; exact c_no) (fun _ _ hf a0 a1 ha1 a2 ha2 a3 ha3 a4 ha4 => qX2_dropLearnings_10B hG hf a0 ha1 ha2 ha3 ha4) NN
def Z2_dropLearnings (G : kdS) (l0 : Nat) (l1 : Int) (l2 : Int) : kzM → Option (Int × kzM) :=
  zcv G 2 l0 (Z2_learnings G l0) fun t1 =>
  zlI (t1 - (1 : Int)) fun t2 =>
  Z2_dropLearnings_10 G l0 l1 l2 t1 t2
theorem qX2_dropLearnings {G : kdS} (hG : kzG G) (l0 : Nat) {l1 : Int} (hl1 : kzI l1) {l2 : Int} (hl2 : kzI l2) : CRi (Z2_dropLearnings G l0 l1 l2) (X2_dropLearnings G l0 (Int32.ofInt l1) (Int32.ofInt l2)) := by
  unfold Z2_dropLearnings X2_dropLearnings
  exact c_cv (qX2_learnings hG l0) (fun t1 ht1 => c_lI (kz_sub rfl rfl) (fun t2 ht2 => (qX2_dropLearnings_10 hG l0 _ hl1 _ hl2 _ ht1 _ ht2)))
def Z2_setFade (G : kdS) (l0 : Nat) (l1 : Int) : kzM → Option (Int × kzM) :=
  zgI G 2 4 l0 fun t1 =>
  zsI G 2 4 l0 l1 <|
  zrt t1
theorem qX2_setFade {G : kdS} (hG : kzG G) (l0 : Nat) {l1 : Int} (hl1 : kzI l1) : CRi (Z2_setFade G l0 l1) (X2_setFade G l0 (Int32.ofInt l1)) := by
  unfold Z2_setFade X2_setFade
  exact c_gI rfl (fun t1 ht1 => c_sI rfl hl1 rfl (c_rt ht1 rfl))
def Z2_budgetOf (G : kdS) (l0 : Nat) (l1 : Int) : kzM → Option (Int × kzM) :=
  zgR G 2 3 l0 fun t1 =>
  zaI G t1 l1 fun t2 =>
  zrt t2
theorem qX2_budgetOf {G : kdS} (hG : kzG G) (l0 : Nat) {l1 : Int} (hl1 : kzI l1) : CRi (Z2_budgetOf G l0 l1) (X2_budgetOf G l0 (Int32.ofInt l1)) := by
  unfold Z2_budgetOf X2_budgetOf
  exact c_gR (fun t1 => c_aI hG rfl (fun t2 ht2 => c_rt ht2 rfl))
def Z2_setBudget (G : kdS) (l0 : Nat) (l1 : Int) (l2 : Int) : kzM → Option (Int × kzM) :=
  zgR G 2 3 l0 fun t1 =>
  zaI G t1 l1 fun t2 =>
  zgR G 2 3 l0 fun t3 =>
  ztI G t3 l1 l2 <|
  zrt t2
theorem qX2_setBudget {G : kdS} (hG : kzG G) (l0 : Nat) {l1 : Int} (hl1 : kzI l1) {l2 : Int} (hl2 : kzI l2) : CRi (Z2_setBudget G l0 l1 l2) (X2_setBudget G l0 (Int32.ofInt l1) (Int32.ofInt l2)) := by
  unfold Z2_setBudget X2_setBudget
  exact c_gR (fun t1 => c_aI hG rfl (fun t2 ht2 => c_gR (fun t3 => c_tI hG rfl hl2 rfl (c_rt ht2 rfl))))
def Z2_setSeed (G : kdS) (l0 : Nat) (l1 : Int) : kzM → Option (Int × kzM) :=
  zgI G 2 5 l0 fun t1 =>
  zsI G 2 5 l0 l1 <|
  zrt t1
theorem qX2_setSeed {G : kdS} (hG : kzG G) (l0 : Nat) {l1 : Int} (hl1 : kzI l1) : CRi (Z2_setSeed G l0 l1) (X2_setSeed G l0 (Int32.ofInt l1)) := by
  unfold Z2_setSeed X2_setSeed
  exact c_gI rfl (fun t1 ht1 => c_sI rfl hl1 rfl (c_rt ht1 rfl))
def Z2_givers_25 (G : kdS) (k4 : Nat → Int → Int → Int → kzM → Option (Int × kzM)) (l0 : Nat) (l1 : Int) (l3 : Int) (s0 : Int) (s1 : Int) : kzM → Option (Int × kzM) :=
  zlI (s0 + s1) fun t1 =>
  zlI (l3 + (1 : Int)) fun t2 =>
  k4 l0 l1 t1 t2
theorem qX2_givers_25 {G : kdS} (hG : kzG G) {k4' : Nat → Int → Int → Int → kzM → Option (Int × kzM)} {k4 : Nat → Int32 → Int32 → Int32 → kdM → Option (Int32 × kdM)} (hk4 : ∀ (a0 : Nat) (a1 : Int) (_ : kzI a1) (a2 : Int) (_ : kzI a2) (a3 : Int) (_ : kzI a3), CRi (k4' a0 a1 a2 a3) (k4 a0 (Int32.ofInt a1) (Int32.ofInt a2) (Int32.ofInt a3))) (l0 : Nat) {l1 : Int} (hl1 : kzI l1) {l3 : Int} (hl3 : kzI l3) {s0 : Int} (hs0 : kzI s0) {s1 : Int} (hs1 : kzI s1) : CRi (Z2_givers_25 G k4' l0 l1 l3 s0 s1) (X2_givers_25 G k4 l0 (Int32.ofInt l1) (Int32.ofInt l3) (Int32.ofInt s0) (Int32.ofInt s1)) := by
  unfold Z2_givers_25 X2_givers_25
  exact c_lI (kz_add rfl rfl) (fun t1 ht1 => c_lI (kz_add rfl rfl) (fun t2 ht2 => (hk4 l0 _ hl1 _ ht1 _ ht2)))
def Z2_givers_4B (G : kdS) (k4 : Nat → Int → Int → Int → kzM → Option (Int × kzM)) (l0 : Nat) (l1 : Int) (l2 : Int) (l3 : Int) : kzM → Option (Int × kzM) :=
  zcnd ((4 : Int) ≤ l3)
  (zrt l2)
  (zgR G 2 3 l0 fun t1 =>
  zaI G t1 l3 fun t2 =>
  zcnd (t2 < l1)
  (Z2_givers_25 G k4 l0 l1 l3 l2 (0 : Int))
  (Z2_givers_25 G k4 l0 l1 l3 l2 (1 : Int)))
theorem qX2_givers_4B {G : kdS} (hG : kzG G) {k4' : Nat → Int → Int → Int → kzM → Option (Int × kzM)} {k4 : Nat → Int32 → Int32 → Int32 → kdM → Option (Int32 × kdM)} (hk4 : ∀ (a0 : Nat) (a1 : Int) (_ : kzI a1) (a2 : Int) (_ : kzI a2) (a3 : Int) (_ : kzI a3), CRi (k4' a0 a1 a2 a3) (k4 a0 (Int32.ofInt a1) (Int32.ofInt a2) (Int32.ofInt a3))) (l0 : Nat) {l1 : Int} (hl1 : kzI l1) {l2 : Int} (hl2 : kzI l2) {l3 : Int} (hl3 : kzI l3) : CRi (Z2_givers_4B G k4' l0 l1 l2 l3) (X2_givers_4B G k4 l0 (Int32.ofInt l1) (Int32.ofInt l2) (Int32.ofInt l3)) := by
  unfold Z2_givers_4B X2_givers_4B
  exact c_cnd (kz_le (by unfold kzI; omega) hl3 rfl rfl) (c_rt hl2 rfl) (c_gR (fun t1 => c_aI hG rfl (fun t2 ht2 => c_cnd (kz_lt ht2 hl1 rfl rfl) ((qX2_givers_25 hG hk4 l0 hl1 hl3 hl2 (by unfold kzI; omega))) ((qX2_givers_25 hG hk4 l0 hl1 hl3 hl2 (by unfold kzI; omega))))))
def Z2_givers_4 (G : kdS) : Nat → Int → Int → Int → kzM → Option (Int × kzM) := lp (fun _ _ _ _ _ => none) (Z2_givers_4B G) NN
theorem qX2_givers_4 {G : kdS} (hG : kzG G) : ∀ (a0 : Nat) (a1 : Int) (_ : kzI a1) (a2 : Int) (_ : kzI a2) (a3 : Int) (_ : kzI a3), CRi (Z2_givers_4 G a0 a1 a2 a3) (X2_givers_4 G a0 (Int32.ofInt a1) (Int32.ofInt a2) (Int32.ofInt a3)) :=
  lp_rel (R := fun (f' : Nat → Int → Int → Int → kzM → Option (Int × kzM)) (f : Nat → Int32 → Int32 → Int32 → kdM → Option (Int32 × kdM)) => ∀ (a0 : Nat) (a1 : Int) (_ : kzI a1) (a2 : Int) (_ : kzI a2) (a3 : Int) (_ : kzI a3), CRi (f' a0 a1 a2 a3) (f a0 (Int32.ofInt a1) (Int32.ofInt a2) (Int32.ofInt a3))) (by intros; exact c_no) (fun _ _ hf a0 a1 ha1 a2 ha2 a3 ha3 => qX2_givers_4B hG hf a0 ha1 ha2 ha3) NN
def Z2_givers (G : kdS) (l0 : Nat) (l1 : Int) : kzM → Option (Int × kzM) :=
  Z2_givers_4 G l0 l1 (0 : Int) (0 : Int)
theorem qX2_givers {G : kdS} (hG : kzG G) (l0 : Nat) {l1 : Int} (hl1 : kzI l1) : CRi (Z2_givers G l0 l1) (X2_givers G l0 (Int32.ofInt l1)) := by
  unfold Z2_givers X2_givers
  exact (qX2_givers_4 hG l0 _ hl1 _ (by unfold kzI; omega) _ (by unfold kzI; omega))
def Z2_drawLot (G : kdS) (l0 : Nat) (l1 : Int) : kzM → Option (Int × kzM) :=
  zgI G 2 5 l0 fun t1 =>
  znz (2147483647 : Int) <|
  zlL (t1 * (16807 : Int)) fun u1 =>
  zlI (Int.tmod u1 (2147483647 : Int)) fun u2 =>
  zsI G 2 5 l0 u2 <|
  zgI G 2 5 l0 fun t2 =>
  znz (2001 : Int) <|
  znz (zmax l1 (1 : Int)) <|
  zlI (((Int.tmod t2 (2001 : Int)) - (1000 : Int)) * (100 : Int)) fun u3 =>
  zlI (u3.tdiv (zmax l1 (1 : Int))) fun u4 =>
  zrt u4
theorem qX2_drawLot {G : kdS} (hG : kzG G) (l0 : Nat) {l1 : Int} (hl1 : kzI l1) : CRi (Z2_drawLot G l0 l1) (X2_drawLot G l0 (Int32.ofInt l1)) := by
  unfold Z2_drawLot X2_drawLot
  exact c_gI rfl (fun t1 ht1 => c_nzL (show kzL (2147483647 : Int) by unfold kzL; omega) rfl (c_rgL (kzL_mul (kz_i2l ht1 rfl) rfl) fun u1 r1 e1 => c_rg (kz_l2i (kzL_rem r1 (show kzL (2147483647 : Int) by unfold kzL; omega) e1 rfl)) fun u2 r2 e2 => c_sI rfl r2 e2 (c_gI rfl (fun t2 ht2 => c_nz (by unfold kzI; omega) rfl (c_nz (zmax_I hl1 (by unfold kzI; omega)) (kz_max hl1 (by unfold kzI; omega) rfl rfl) (c_rg (kz_mul (kz_sub (kz_rem ht2 (by unfold kzI; omega) rfl rfl) rfl) rfl) fun u3 r3 e3 => c_rg (kz_div r3 (zmax_I hl1 (by unfold kzI; omega)) e3 (kz_max hl1 (by unfold kzI; omega) rfl rfl)) fun u4 r4 e4 => c_rt r4 e4))))))
def Z2_sumWithLot_53 (G : kdS) (k6 : Nat → Int → Int → Int → Int → Int → kzM → Option (Int × kzM)) (l0 : Nat) (l1 : Int) (l2 : Int) (l3 : Int) (l4 : Int) (l5 : Int) : kzM → Option (Int × kzM) :=
  zlI (l5 + (1 : Int)) fun t1 =>
  k6 l0 l1 l2 l3 l4 t1
theorem qX2_sumWithLot_53 {G : kdS} (hG : kzG G) {k6' : Nat → Int → Int → Int → Int → Int → kzM → Option (Int × kzM)} {k6 : Nat → Int32 → Int32 → Int32 → Int32 → Int32 → kdM → Option (Int32 × kdM)} (hk6 : ∀ (a0 : Nat) (a1 : Int) (_ : kzI a1) (a2 : Int) (_ : kzI a2) (a3 : Int) (_ : kzI a3) (a4 : Int) (_ : kzI a4) (a5 : Int) (_ : kzI a5), CRi (k6' a0 a1 a2 a3 a4 a5) (k6 a0 (Int32.ofInt a1) (Int32.ofInt a2) (Int32.ofInt a3) (Int32.ofInt a4) (Int32.ofInt a5))) (l0 : Nat) {l1 : Int} (hl1 : kzI l1) {l2 : Int} (hl2 : kzI l2) {l3 : Int} (hl3 : kzI l3) {l4 : Int} (hl4 : kzI l4) {l5 : Int} (hl5 : kzI l5) : CRi (Z2_sumWithLot_53 G k6' l0 l1 l2 l3 l4 l5) (X2_sumWithLot_53 G k6 l0 (Int32.ofInt l1) (Int32.ofInt l2) (Int32.ofInt l3) (Int32.ofInt l4) (Int32.ofInt l5)) := by
  unfold Z2_sumWithLot_53 X2_sumWithLot_53
  exact c_lI (kz_add rfl rfl) (fun t1 ht1 => (hk6 l0 _ hl1 _ hl2 _ hl3 _ hl4 _ ht1))
def Z2_sumWithLot_6B (G : kdS) (k6 : Nat → Int → Int → Int → Int → Int → kzM → Option (Int × kzM)) (l0 : Nat) (l1 : Int) (l2 : Int) (l3 : Int) (l4 : Int) (l5 : Int) : kzM → Option (Int × kzM) :=
  zcnd ((4 : Int) ≤ l5)
  (zcv G 2 l0 (Z2_drawLot G l0 l2) fun t1 =>
  zlI (l4 + t1) fun u1 =>
  zrt u1)
  (zgR G 2 3 l0 fun t2 =>
  zaI G t2 l5 fun t3 =>
  zcnd (t3 < l2)
  (Z2_sumWithLot_53 G k6 l0 l1 l2 l3 l4 l5)
  (zcv G 2 l0 (Z2_worthOf G l0 l5 l1 l3) fun t4 =>
  zlI (l4 + (zmin (5000 : Int) t4)) fun t5 =>
  zgR G 2 3 l0 fun t6 =>
  zaI G t6 l5 fun t7 =>
  zlI (t7 - l2) fun u2 =>
  ztI G t6 l5 u2 <|
  Z2_sumWithLot_53 G k6 l0 l1 l2 l3 t5 l5))
theorem qX2_sumWithLot_6B {G : kdS} (hG : kzG G) {k6' : Nat → Int → Int → Int → Int → Int → kzM → Option (Int × kzM)} {k6 : Nat → Int32 → Int32 → Int32 → Int32 → Int32 → kdM → Option (Int32 × kdM)} (hk6 : ∀ (a0 : Nat) (a1 : Int) (_ : kzI a1) (a2 : Int) (_ : kzI a2) (a3 : Int) (_ : kzI a3) (a4 : Int) (_ : kzI a4) (a5 : Int) (_ : kzI a5), CRi (k6' a0 a1 a2 a3 a4 a5) (k6 a0 (Int32.ofInt a1) (Int32.ofInt a2) (Int32.ofInt a3) (Int32.ofInt a4) (Int32.ofInt a5))) (l0 : Nat) {l1 : Int} (hl1 : kzI l1) {l2 : Int} (hl2 : kzI l2) {l3 : Int} (hl3 : kzI l3) {l4 : Int} (hl4 : kzI l4) {l5 : Int} (hl5 : kzI l5) : CRi (Z2_sumWithLot_6B G k6' l0 l1 l2 l3 l4 l5) (X2_sumWithLot_6B G k6 l0 (Int32.ofInt l1) (Int32.ofInt l2) (Int32.ofInt l3) (Int32.ofInt l4) (Int32.ofInt l5)) := by
  unfold Z2_sumWithLot_6B X2_sumWithLot_6B
  exact c_cnd (kz_le (by unfold kzI; omega) hl5 rfl rfl) (c_cv (qX2_drawLot hG l0 hl2) (fun t1 ht1 => c_rg (kz_add rfl rfl) fun u1 r1 e1 => c_rt r1 e1)) (c_gR (fun t2 => c_aI hG rfl (fun t3 ht3 => c_cnd (kz_lt ht3 hl2 rfl rfl) ((qX2_sumWithLot_53 hG hk6 l0 hl1 hl2 hl3 hl4 hl5)) (c_cv (qX2_worthOf hG l0 hl5 hl1 hl3) (fun t4 ht4 => c_lI (kz_add rfl (kz_min (by unfold kzI; omega) ht4 rfl rfl)) (fun t5 ht5 => c_gR (fun t6 => c_aI hG rfl (fun t7 ht7 => c_rg (kz_sub rfl rfl) fun u2 r2 e2 => c_tI hG rfl r2 e2 ((qX2_sumWithLot_53 hG hk6 l0 hl1 hl2 hl3 ht5 hl5))))))))))
def Z2_sumWithLot_6 (G : kdS) : Nat → Int → Int → Int → Int → Int → kzM → Option (Int × kzM) := lp (fun _ _ _ _ _ _ _ => none) (Z2_sumWithLot_6B G) NN
theorem qX2_sumWithLot_6 {G : kdS} (hG : kzG G) : ∀ (a0 : Nat) (a1 : Int) (_ : kzI a1) (a2 : Int) (_ : kzI a2) (a3 : Int) (_ : kzI a3) (a4 : Int) (_ : kzI a4) (a5 : Int) (_ : kzI a5), CRi (Z2_sumWithLot_6 G a0 a1 a2 a3 a4 a5) (X2_sumWithLot_6 G a0 (Int32.ofInt a1) (Int32.ofInt a2) (Int32.ofInt a3) (Int32.ofInt a4) (Int32.ofInt a5)) :=
  lp_rel (R := fun (f' : Nat → Int → Int → Int → Int → Int → kzM → Option (Int × kzM)) (f : Nat → Int32 → Int32 → Int32 → Int32 → Int32 → kdM → Option (Int32 × kdM)) => ∀ (a0 : Nat) (a1 : Int) (_ : kzI a1) (a2 : Int) (_ : kzI a2) (a3 : Int) (_ : kzI a3) (a4 : Int) (_ : kzI a4) (a5 : Int) (_ : kzI a5), CRi (f' a0 a1 a2 a3 a4 a5) (f a0 (Int32.ofInt a1) (Int32.ofInt a2) (Int32.ofInt a3) (Int32.ofInt a4) (Int32.ofInt a5))) (by intros; exact c_no) (fun _ _ hf a0 a1 ha1 a2 ha2 a3 ha3 a4 ha4 a5 ha5 => qX2_sumWithLot_6B hG hf a0 ha1 ha2 ha3 ha4 ha5) NN
def Z2_sumWithLot (G : kdS) (l0 : Nat) (l1 : Int) (l2 : Int) (l3 : Int) : kzM → Option (Int × kzM) :=
  Z2_sumWithLot_6 G l0 l1 l2 l3 (0 : Int) (0 : Int)
theorem qX2_sumWithLot {G : kdS} (hG : kzG G) (l0 : Nat) {l1 : Int} (hl1 : kzI l1) {l2 : Int} (hl2 : kzI l2) {l3 : Int} (hl3 : kzI l3) : CRi (Z2_sumWithLot G l0 l1 l2 l3) (X2_sumWithLot G l0 (Int32.ofInt l1) (Int32.ofInt l2) (Int32.ofInt l3)) := by
  unfold Z2_sumWithLot X2_sumWithLot
  exact (qX2_sumWithLot_6 hG l0 _ hl1 _ hl2 _ hl3 _ (by unfold kzI; omega) _ (by unfold kzI; omega))
def Z3_size (G : kdS) (l0 : Nat) : kzM → Option (Int × kzM) :=
  zgI G 3 0 l0 fun t1 =>
  zrt t1
theorem qX3_size {G : kdS} (hG : kzG G) (l0 : Nat) : CRi (Z3_size G l0) (X3_size G l0) := by
  unfold Z3_size X3_size
  exact c_gI rfl (fun t1 ht1 => c_rt ht1 rfl)
def Z3_startAnew_42B (G : kdS) (k12 : Nat → Int → Int → kzM → Option (Int × kzM)) (k42 : Nat → Int → Int → Int → kzM → Option (Int × kzM)) (l0 : Nat) (l2 : Int) (l3 : Int) (l4 : Int) : kzM → Option (Int × kzM) :=
  zcnd ((7 : Int) ≤ l4)
  (zlI (l3 + (1 : Int)) fun t1 =>
  k12 l0 l2 t1)
  (zgR G 3 4 l0 fun t2 =>
  zaR G 18 t2 l3 fun t3 =>
  ztI G t3 l4 (0 : Int) <|
  zlI (l4 + (1 : Int)) fun t4 =>
  k42 l0 l2 l3 t4)
theorem qX3_startAnew_42B {G : kdS} (hG : kzG G) {k12' : Nat → Int → Int → kzM → Option (Int × kzM)} {k12 : Nat → Int32 → Int32 → kdM → Option (Int32 × kdM)} (hk12 : ∀ (a0 : Nat) (a1 : Int) (_ : kzI a1) (a2 : Int) (_ : kzI a2), CRi (k12' a0 a1 a2) (k12 a0 (Int32.ofInt a1) (Int32.ofInt a2))) {k42' : Nat → Int → Int → Int → kzM → Option (Int × kzM)} {k42 : Nat → Int32 → Int32 → Int32 → kdM → Option (Int32 × kdM)} (hk42 : ∀ (a0 : Nat) (a1 : Int) (_ : kzI a1) (a2 : Int) (_ : kzI a2) (a3 : Int) (_ : kzI a3), CRi (k42' a0 a1 a2 a3) (k42 a0 (Int32.ofInt a1) (Int32.ofInt a2) (Int32.ofInt a3))) (l0 : Nat) {l2 : Int} (hl2 : kzI l2) {l3 : Int} (hl3 : kzI l3) {l4 : Int} (hl4 : kzI l4) : CRi (Z3_startAnew_42B G k12' k42' l0 l2 l3 l4) (X3_startAnew_42B G k12 k42 l0 (Int32.ofInt l2) (Int32.ofInt l3) (Int32.ofInt l4)) := by
  unfold Z3_startAnew_42B X3_startAnew_42B
  exact c_cnd (kz_le (by unfold kzI; omega) hl4 rfl rfl) (c_lI (kz_add rfl rfl) (fun t1 ht1 => (hk12 l0 _ hl2 _ ht1))) (c_gR (fun t2 => c_aR hG rfl (fun t3 => c_tI hG rfl (by unfold kzI; omega) rfl (c_lI (kz_add rfl rfl) (fun t4 ht4 => (hk42 l0 _ hl2 _ hl3 _ ht4))))))
def Z3_startAnew_42 (G : kdS) (k12 : Nat → Int → Int → kzM → Option (Int × kzM)) : Nat → Int → Int → Int → kzM → Option (Int × kzM) := lp (fun _ _ _ _ _ => none) (Z3_startAnew_42B G k12) NN
theorem qX3_startAnew_42 {G : kdS} (hG : kzG G) {k12' : Nat → Int → Int → kzM → Option (Int × kzM)} {k12 : Nat → Int32 → Int32 → kdM → Option (Int32 × kdM)} (hk12 : ∀ (a0 : Nat) (a1 : Int) (_ : kzI a1) (a2 : Int) (_ : kzI a2), CRi (k12' a0 a1 a2) (k12 a0 (Int32.ofInt a1) (Int32.ofInt a2))) : ∀ (a0 : Nat) (a1 : Int) (_ : kzI a1) (a2 : Int) (_ : kzI a2) (a3 : Int) (_ : kzI a3), CRi (Z3_startAnew_42 G k12' a0 a1 a2 a3) (X3_startAnew_42 G k12 a0 (Int32.ofInt a1) (Int32.ofInt a2) (Int32.ofInt a3)) :=
  lp_rel (R := fun (f' : Nat → Int → Int → Int → kzM → Option (Int × kzM)) (f : Nat → Int32 → Int32 → Int32 → kdM → Option (Int32 × kdM)) => ∀ (a0 : Nat) (a1 : Int) (_ : kzI a1) (a2 : Int) (_ : kzI a2) (a3 : Int) (_ : kzI a3), CRi (f' a0 a1 a2 a3) (f a0 (Int32.ofInt a1) (Int32.ofInt a2) (Int32.ofInt a3))) (by intros; exact c_no) (fun _ _ hf a0 a1 ha1 a2 ha2 a3 ha3 => qX3_startAnew_42B hG hk12 hf a0 ha1 ha2 ha3) NN
def Z3_startAnew_12B (G : kdS) (k12 : Nat → Int → Int → kzM → Option (Int × kzM)) (l0 : Nat) (l2 : Int) (l3 : Int) : kzM → Option (Int × kzM) :=
  zcnd ((7 : Int) ≤ l3)
  (zrt l2)
  (zgR G 3 1 l0 fun t1 =>
  ztI G t1 l3 (1 : Int) <|
  zgR G 3 2 l0 fun t2 =>
  ztI G t2 l3 (0 : Int) <|
  zgR G 3 3 l0 fun t3 =>
  ztI G t3 l3 (0 : Int) <|
  Z3_startAnew_42 G k12 l0 l2 l3 (0 : Int))
theorem qX3_startAnew_12B {G : kdS} (hG : kzG G) {k12' : Nat → Int → Int → kzM → Option (Int × kzM)} {k12 : Nat → Int32 → Int32 → kdM → Option (Int32 × kdM)} (hk12 : ∀ (a0 : Nat) (a1 : Int) (_ : kzI a1) (a2 : Int) (_ : kzI a2), CRi (k12' a0 a1 a2) (k12 a0 (Int32.ofInt a1) (Int32.ofInt a2))) (l0 : Nat) {l2 : Int} (hl2 : kzI l2) {l3 : Int} (hl3 : kzI l3) : CRi (Z3_startAnew_12B G k12' l0 l2 l3) (X3_startAnew_12B G k12 l0 (Int32.ofInt l2) (Int32.ofInt l3)) := by
  unfold Z3_startAnew_12B X3_startAnew_12B
  exact c_cnd (kz_le (by unfold kzI; omega) hl3 rfl rfl) (c_rt hl2 rfl) (c_gR (fun t1 => c_tI hG rfl (by unfold kzI; omega) rfl (c_gR (fun t2 => c_tI hG rfl (by unfold kzI; omega) rfl (c_gR (fun t3 => c_tI hG rfl (by unfold kzI; omega) rfl ((qX3_startAnew_42 hG hk12 l0 _ hl2 _ hl3 _ (by unfold kzI; omega)))))))))
def Z3_startAnew_12 (G : kdS) : Nat → Int → Int → kzM → Option (Int × kzM) := lp (fun _ _ _ _ => none) (Z3_startAnew_12B G) NN
theorem qX3_startAnew_12 {G : kdS} (hG : kzG G) : ∀ (a0 : Nat) (a1 : Int) (_ : kzI a1) (a2 : Int) (_ : kzI a2), CRi (Z3_startAnew_12 G a0 a1 a2) (X3_startAnew_12 G a0 (Int32.ofInt a1) (Int32.ofInt a2)) :=
  lp_rel (R := fun (f' : Nat → Int → Int → kzM → Option (Int × kzM)) (f : Nat → Int32 → Int32 → kdM → Option (Int32 × kdM)) => ∀ (a0 : Nat) (a1 : Int) (_ : kzI a1) (a2 : Int) (_ : kzI a2), CRi (f' a0 a1 a2) (f a0 (Int32.ofInt a1) (Int32.ofInt a2))) (by intros; exact c_no) (fun _ _ hf a0 a1 ha1 a2 ha2 => qX3_startAnew_12B hG hf a0 ha1 ha2) NN
def Z3_startAnew (G : kdS) (l0 : Nat) (l1 : Int) : kzM → Option (Int × kzM) :=
  zgI G 3 0 l0 fun t1 =>
  zsI G 3 0 l0 l1 <|
  Z3_startAnew_12 G l0 t1 (0 : Int)
theorem qX3_startAnew {G : kdS} (hG : kzG G) (l0 : Nat) {l1 : Int} (hl1 : kzI l1) : CRi (Z3_startAnew G l0 l1) (X3_startAnew G l0 (Int32.ofInt l1)) := by
  unfold Z3_startAnew X3_startAnew
  exact c_gI rfl (fun t1 ht1 => c_sI rfl hl1 rfl ((qX3_startAnew_12 hG l0 _ ht1 _ (by unfold kzI; omega))))
def Z11_within_15 (G : kdS) (s0 : Int) : kzM → Option (Int × kzM) :=
  zrt (zB s0)
theorem qX11_within_15 {G : kdS} (hG : kzG G) {s0 : Int} (hs0 : kzI s0) : CRi (Z11_within_15 G s0) (X11_within_15 G (Int32.ofInt s0)) := by
  unfold Z11_within_15 X11_within_15
  exact c_rt (kz_BI _) (kz_B rfl)
def Z11_within_14 (G : kdS) : kzM → Option (Int × kzM) :=
  Z11_within_15 G (0 : Int)
theorem qX11_within_14 {G : kdS} (hG : kzG G) : CRi (Z11_within_14 G) (X11_within_14 G) := by
  unfold Z11_within_14 X11_within_14
  exact (qX11_within_15 hG (by unfold kzI; omega))
def Z11_within (G : kdS) (l0 : Int) (l1 : Int) (l2 : Int) : kzM → Option (Int × kzM) :=
  zcnd (l0 < l1)
  (Z11_within_14 G)
  (zcnd (l2 < l0)
  (Z11_within_14 G)
  (Z11_within_15 G (1 : Int)))
theorem qX11_within {G : kdS} (hG : kzG G) {l0 : Int} (hl0 : kzI l0) {l1 : Int} (hl1 : kzI l1) {l2 : Int} (hl2 : kzI l2) : CRi (Z11_within G l0 l1 l2) (X11_within G (Int32.ofInt l0) (Int32.ofInt l1) (Int32.ofInt l2)) := by
  unfold Z11_within X11_within
  exact c_cnd (kz_lt hl0 hl1 rfl rfl) ((qX11_within_14 hG)) (c_cnd (kz_lt hl2 hl0 rfl rfl) ((qX11_within_14 hG)) ((qX11_within_15 hG (by unfold kzI; omega))))
def Z11_isKey (G : kdS) (l0 : Int) : kzM → Option (Int × kzM) :=
  zcl (Z11_within G l0 (0 : Int) (11 : Int)) fun t1 =>
  zrt (zB t1)
theorem qX11_isKey {G : kdS} (hG : kzG G) {l0 : Int} (hl0 : kzI l0) : CRi (Z11_isKey G l0) (X11_isKey G (Int32.ofInt l0)) := by
  unfold Z11_isKey X11_isKey
  exact c_cl (qX11_within hG hl0 (by unfold kzI; omega) (by unfold kzI; omega)) (fun t1 ht1 => c_rt (kz_BI _) (kz_B rfl))
def Z11_key (G : kdS) (l0 : Nat) (l1 : Int) : kzM → Option (Int × kzM) :=
  zcl (Z11_isKey G l1) fun t1 =>
  zcnd (t1 = (0 : Int))
  (zrt (-2 : Int))
  (zgR G 11 0 l0 fun t2 =>
  zcv G 6 t2 (Z6_isFull G t2) fun t3 =>
  zcnd (t3 = (0 : Int))
  (zgR G 11 0 l0 fun t4 =>
  zcv G 6 t4 (Z6_add G t4 l1) fun _ =>
  zgR G 11 0 l0 fun t5 =>
  zcv G 6 t5 (Z6_size G t5) fun t6 =>
  zrt t6)
  (zrt (-4 : Int)))
theorem qX11_key {G : kdS} (hG : kzG G) (l0 : Nat) {l1 : Int} (hl1 : kzI l1) : CRi (Z11_key G l0 l1) (X11_key G l0 (Int32.ofInt l1)) := by
  unfold Z11_key X11_key
  exact c_cl (qX11_isKey hG hl1) (fun t1 ht1 => c_cnd (kz_eq ht1 (by unfold kzI; omega) rfl rfl) (c_rt (by unfold kzI; omega) rfl) (c_gR (fun t2 => c_cv (qX6_isFull hG t2) (fun t3 ht3 => c_cnd (kz_eq ht3 (by unfold kzI; omega) rfl rfl) (c_gR (fun t4 => c_cv (qX6_add hG t4 hl1) (fun _ _ => c_gR (fun t5 => c_cv (qX6_size hG t5) (fun t6 ht6 => c_rt ht6 rfl))))) (c_rt (by unfold kzI; omega) rfl)))))
def Z11_isTongue (G : kdS) (l0 : Int) : kzM → Option (Int × kzM) :=
  zcl (Z11_within G l0 (0 : Int) (2 : Int)) fun t1 =>
  zrt (zB t1)
theorem qX11_isTongue {G : kdS} (hG : kzG G) {l0 : Int} (hl0 : kzI l0) : CRi (Z11_isTongue G l0) (X11_isTongue G (Int32.ofInt l0)) := by
  unfold Z11_isTongue X11_isTongue
  exact c_cl (qX11_within hG hl0 (by unfold kzI; omega) (by unfold kzI; omega)) (fun t1 ht1 => c_rt (kz_BI _) (kz_B rfl))
def Z11_word_30 (G : kdS) : kzM → Option (Int × kzM) :=
  zrt (-2 : Int)
theorem qX11_word_30 {G : kdS} (hG : kzG G) : CRi (Z11_word_30 G) (X11_word_30 G) := by
  unfold Z11_word_30 X11_word_30
  exact c_rt (by unfold kzI; omega) rfl
def Z11_word_68 (G : kdS) : kzM → Option (Int × kzM) :=
  zrt (-5 : Int)
theorem qX11_word_68 {G : kdS} (hG : kzG G) : CRi (Z11_word_68 G) (X11_word_68 G) := by
  unfold Z11_word_68 X11_word_68
  exact c_rt (by unfold kzI; omega) rfl
def Z11_word (G : kdS) (l0 : Nat) (l1 : Int) (l2 : Int) (l3 : Int) : kzM → Option (Int × kzM) :=
  zcl (Z11_isTongue G l1) fun t1 =>
  zcnd (t1 = (0 : Int))
  (zrt (-1 : Int))
  (zcl (Z11_within G l2 (1 : Int) (999 : Int)) fun t2 =>
  zcnd (t2 = (0 : Int))
  (Z11_word_30 G)
  (zcl (Z11_within G l3 (1 : Int) (100 : Int)) fun t3 =>
  zcnd (t3 = (0 : Int))
  (Z11_word_30 G)
  (zgR G 11 4 l0 fun t4 =>
  zcv G 10 t4 (Z10_isFull G t4) fun t5 =>
  zcnd (t5 = (0 : Int))
  (zgR G 11 0 l0 fun t6 =>
  zcv G 6 t6 (Z6_isEmpty G t6) fun t7 =>
  zcnd (t7 = (0 : Int))
  (zgR G 11 0 l0 fun t8 =>
  zcv G 6 t8 (Z6_size G t8) fun t9 =>
  zcnd (t9 ≤ (8 : Int))
  (zgR G 11 4 l0 fun t10 =>
  zgR G 11 0 l0 fun t11 =>
  zcv G 10 t10 (Z10_addWord G t10 l1 l2 l3 t11) fun t12 =>
  zgR G 11 0 l0 fun t13 =>
  zcv G 6 t13 (Z6_clear G t13) fun t14 =>
  zrt t12)
  (Z11_word_68 G))
  (Z11_word_68 G))
  (zrt (-4 : Int)))))
theorem qX11_word {G : kdS} (hG : kzG G) (l0 : Nat) {l1 : Int} (hl1 : kzI l1) {l2 : Int} (hl2 : kzI l2) {l3 : Int} (hl3 : kzI l3) : CRi (Z11_word G l0 l1 l2 l3) (X11_word G l0 (Int32.ofInt l1) (Int32.ofInt l2) (Int32.ofInt l3)) := by
  unfold Z11_word X11_word
  exact c_cl (qX11_isTongue hG hl1) (fun t1 ht1 => c_cnd (kz_eq ht1 (by unfold kzI; omega) rfl rfl) (c_rt (by unfold kzI; omega) rfl) (c_cl (qX11_within hG hl2 (by unfold kzI; omega) (by unfold kzI; omega)) (fun t2 ht2 => c_cnd (kz_eq ht2 (by unfold kzI; omega) rfl rfl) ((qX11_word_30 hG)) (c_cl (qX11_within hG hl3 (by unfold kzI; omega) (by unfold kzI; omega)) (fun t3 ht3 => c_cnd (kz_eq ht3 (by unfold kzI; omega) rfl rfl) ((qX11_word_30 hG)) (c_gR (fun t4 => c_cv (qX10_isFull hG t4) (fun t5 ht5 => c_cnd (kz_eq ht5 (by unfold kzI; omega) rfl rfl) (c_gR (fun t6 => c_cv (qX6_isEmpty hG t6) (fun t7 ht7 => c_cnd (kz_eq ht7 (by unfold kzI; omega) rfl rfl) (c_gR (fun t8 => c_cv (qX6_size hG t8) (fun t9 ht9 => c_cnd (kz_le ht9 (by unfold kzI; omega) rfl rfl) (c_gR (fun t10 => c_gR (fun t11 => c_cv (qX10_addWord hG t10 hl1 hl2 hl3 t11) (fun t12 ht12 => c_gR (fun t13 => c_cv (qX6_clear hG t13) (fun t14 ht14 => c_rt ht12 rfl)))))) ((qX11_word_68 hG))))) ((qX11_word_68 hG))))) (c_rt (by unfold kzI; omega) rfl)))))))))
def Z11_ofWord_130 (G : kdS) (s0 : Int) : kzM → Option (Int × kzM) :=
  zrt s0
theorem qX11_ofWord_130 {G : kdS} (hG : kzG G) {s0 : Int} (hs0 : kzI s0) : CRi (Z11_ofWord_130 G s0) (X11_ofWord_130 G (Int32.ofInt s0)) := by
  unfold Z11_ofWord_130 X11_ofWord_130
  exact c_rt hs0 rfl
def Z11_ofWord (G : kdS) (l0 : Nat) (l1 : Int) (l2 : Int) : kzM → Option (Int × kzM) :=
  zgR G 11 4 l0 fun t1 =>
  zcv G 10 t1 (Z10_has G t1 l1) fun t2 =>
  zcnd (t2 = (0 : Int))
  (zrt (-1 : Int))
  (zcnd (l2 = (0 : Int))
  (zgR G 11 4 l0 fun t3 =>
  zcv G 10 t3 (Z10_tongueOf G t3 l1) fun t4 =>
  zrt t4)
  (zcnd (l2 = (1 : Int))
  (zgR G 11 4 l0 fun t5 =>
  zcv G 10 t5 (Z10_signOf G t5 l1) fun t6 =>
  zrt t6)
  (zcnd (l2 = (2 : Int))
  (zgR G 11 4 l0 fun t7 =>
  zcv G 10 t7 (Z10_countOf G t7 l1) fun t8 =>
  zrt t8)
  (zcnd (l2 = (3 : Int))
  (zgR G 11 4 l0 fun t9 =>
  zcv G 10 t9 (Z10_keysOf G t9 l1) fun t10 =>
  zcv G 6 t10 (Z6_size G t10) fun t11 =>
  zrt t11)
  (zcnd ((10 : Int) ≤ l2)
  (zgR G 11 4 l0 fun t12 =>
  zcv G 10 t12 (Z10_keysOf G t12 l1) fun t13 =>
  zlI (l2 - (10 : Int)) fun u1 =>
  zcv G 6 t13 (Z6_has G t13 u1) fun t14 =>
  zcnd (t14 = (0 : Int))
  (Z11_ofWord_130 G (-6 : Int))
  (zgR G 11 4 l0 fun t15 =>
  zcv G 10 t15 (Z10_keysOf G t15 l1) fun t16 =>
  zlI (l2 - (10 : Int)) fun u2 =>
  zcv G 6 t16 (Z6_at G t16 u2) fun t17 =>
  Z11_ofWord_130 G t17))
  (zrt (-2 : Int)))))))
theorem qX11_ofWord {G : kdS} (hG : kzG G) (l0 : Nat) {l1 : Int} (hl1 : kzI l1) {l2 : Int} (hl2 : kzI l2) : CRi (Z11_ofWord G l0 l1 l2) (X11_ofWord G l0 (Int32.ofInt l1) (Int32.ofInt l2)) := by
  unfold Z11_ofWord X11_ofWord
  exact c_gR (fun t1 => c_cv (qX10_has hG t1 hl1) (fun t2 ht2 => c_cnd (kz_eq ht2 (by unfold kzI; omega) rfl rfl) (c_rt (by unfold kzI; omega) rfl) (c_cnd (kz_eq hl2 (by unfold kzI; omega) rfl rfl) (c_gR (fun t3 => c_cv (qX10_tongueOf hG t3 hl1) (fun t4 ht4 => c_rt ht4 rfl))) (c_cnd (kz_eq hl2 (by unfold kzI; omega) rfl rfl) (c_gR (fun t5 => c_cv (qX10_signOf hG t5 hl1) (fun t6 ht6 => c_rt ht6 rfl))) (c_cnd (kz_eq hl2 (by unfold kzI; omega) rfl rfl) (c_gR (fun t7 => c_cv (qX10_countOf hG t7 hl1) (fun t8 ht8 => c_rt ht8 rfl))) (c_cnd (kz_eq hl2 (by unfold kzI; omega) rfl rfl) (c_gR (fun t9 => c_cv (qX10_keysOf hG t9 hl1) (fun t10 _ => c_cv (qX6_size hG t10) (fun t11 ht11 => c_rt ht11 rfl)))) (c_cnd (kz_le (by unfold kzI; omega) hl2 rfl rfl) (c_gR (fun t12 => c_cv (qX10_keysOf hG t12 hl1) (fun t13 _ => c_rg (kz_sub rfl rfl) fun u1 r1 e1 => c_cv (e1 ▸ (qX6_has hG t13 r1)) (fun t14 ht14 => c_cnd (kz_eq ht14 (by unfold kzI; omega) rfl rfl) ((qX11_ofWord_130 hG (by unfold kzI; omega))) (c_gR (fun t15 => c_cv (qX10_keysOf hG t15 hl1) (fun t16 _ => c_rg (kz_sub rfl rfl) fun u2 r2 e2 => c_cv (e2 ▸ (qX6_at hG t16 r2)) (fun t17 ht17 => (qX11_ofWord_130 hG ht17))))))))) (c_rt (by unfold kzI; omega) rfl))))))))
def Z11_slip_47 (G : kdS) (s0 : Int) : kzM → Option (Int × kzM) :=
  zrt s0
theorem qX11_slip_47 {G : kdS} (hG : kzG G) {s0 : Int} (hs0 : kzI s0) : CRi (Z11_slip_47 G s0) (X11_slip_47 G (Int32.ofInt s0)) := by
  unfold Z11_slip_47 X11_slip_47
  exact c_rt hs0 rfl
def Z11_slip (G : kdS) (l0 : Nat) (l1 : Int) : kzM → Option (Int × kzM) :=
  zgR G 11 4 l0 fun t1 =>
  zcv G 10 t1 (Z10_has G t1 l1) fun t2 =>
  zcnd (t2 = (0 : Int))
  (zrt (-1 : Int))
  (zgR G 11 0 l0 fun t3 =>
  zcv G 6 t3 (Z6_isEmpty G t3) fun t4 =>
  zcnd (t4 = (0 : Int))
  (zgR G 11 5 l0 fun t5 =>
  zgR G 11 0 l0 fun t6 =>
  zgR G 11 4 l0 fun t7 =>
  zcv G 10 t7 (Z10_keysOf G t7 l1) fun t8 =>
  zcv G 7 t5 (Z7_priceOf G t5 t6 t8) fun t9 =>
  Z11_slip_47 G t9)
  (Z11_slip_47 G (-3 : Int)))
theorem qX11_slip {G : kdS} (hG : kzG G) (l0 : Nat) {l1 : Int} (hl1 : kzI l1) : CRi (Z11_slip G l0 l1) (X11_slip G l0 (Int32.ofInt l1)) := by
  unfold Z11_slip X11_slip
  exact c_gR (fun t1 => c_cv (qX10_has hG t1 hl1) (fun t2 ht2 => c_cnd (kz_eq ht2 (by unfold kzI; omega) rfl rfl) (c_rt (by unfold kzI; omega) rfl) (c_gR (fun t3 => c_cv (qX6_isEmpty hG t3) (fun t4 ht4 => c_cnd (kz_eq ht4 (by unfold kzI; omega) rfl rfl) (c_gR (fun t5 => c_gR (fun t6 => c_gR (fun t7 => c_cv (qX10_keysOf hG t7 hl1) (fun t8 _ => c_cv (qX7_priceOf hG t5 t6 t8) (fun t9 ht9 => (qX11_slip_47 hG ht9))))))) ((qX11_slip_47 hG (by unfold kzI; omega))))))))
def Z11_hasBit_14 (G : kdS) (s0 : Int) : kzM → Option (Int × kzM) :=
  zrt (zB s0)
theorem qX11_hasBit_14 {G : kdS} (hG : kzG G) {s0 : Int} (hs0 : kzI s0) : CRi (Z11_hasBit_14 G s0) (X11_hasBit_14 G (Int32.ofInt s0)) := by
  unfold Z11_hasBit_14 X11_hasBit_14
  exact c_rt (kz_BI _) (kz_B rfl)
def Z11_hasBit (G : kdS) (l0 : Int) (l1 : Int) : kzM → Option (Int × kzM) :=
  zcnd ((zand (zshr l0 l1) (1 : Int)) = (1 : Int))
  (Z11_hasBit_14 G (1 : Int))
  (Z11_hasBit_14 G (0 : Int))
theorem qX11_hasBit {G : kdS} (hG : kzG G) {l0 : Int} (hl0 : kzI l0) {l1 : Int} (hl1 : kzI l1) : CRi (Z11_hasBit G l0 l1) (X11_hasBit G (Int32.ofInt l0) (Int32.ofInt l1)) := by
  unfold Z11_hasBit X11_hasBit
  exact c_cnd (kz_eq (kzI_of _) (by unfold kzI; omega) (kz_and (kz_shr rfl rfl) rfl) rfl) ((qX11_hasBit_14 hG (by unfold kzI; omega))) ((qX11_hasBit_14 hG (by unfold kzI; omega)))
def Z11_gather_103 (G : kdS) (k10 : Nat → Int → Int → Int → Int → Int → kzM → Option (Unit × kzM)) (l0 : Nat) (l1 : Int) (l2 : Int) (l3 : Int) (l4 : Int) (l5 : Int) : kzM → Option (Unit × kzM) :=
  zlI (l5 + (1 : Int)) fun t1 =>
  k10 l0 l1 l2 l3 l4 t1
theorem qX11_gather_103 {G : kdS} (hG : kzG G) {k10' : Nat → Int → Int → Int → Int → Int → kzM → Option (Unit × kzM)} {k10 : Nat → Int32 → Int32 → Int32 → Int32 → Int32 → kdM → Option (Unit × kdM)} (hk10 : ∀ (a0 : Nat) (a1 : Int) (_ : kzI a1) (a2 : Int) (_ : kzI a2) (a3 : Int) (_ : kzI a3) (a4 : Int) (_ : kzI a4) (a5 : Int) (_ : kzI a5), CRu (k10' a0 a1 a2 a3 a4 a5) (k10 a0 (Int32.ofInt a1) (Int32.ofInt a2) (Int32.ofInt a3) (Int32.ofInt a4) (Int32.ofInt a5))) (l0 : Nat) {l1 : Int} (hl1 : kzI l1) {l2 : Int} (hl2 : kzI l2) {l3 : Int} (hl3 : kzI l3) {l4 : Int} (hl4 : kzI l4) {l5 : Int} (hl5 : kzI l5) : CRu (Z11_gather_103 G k10' l0 l1 l2 l3 l4 l5) (X11_gather_103 G k10 l0 (Int32.ofInt l1) (Int32.ofInt l2) (Int32.ofInt l3) (Int32.ofInt l4) (Int32.ofInt l5)) := by
  unfold Z11_gather_103 X11_gather_103
  exact c_lI (kz_add rfl rfl) (fun t1 ht1 => (hk10 l0 _ hl1 _ hl2 _ hl3 _ hl4 _ ht1))
def Z11_gather_10B (G : kdS) (k10 : Nat → Int → Int → Int → Int → Int → kzM → Option (Unit × kzM)) (l0 : Nat) (l1 : Int) (l2 : Int) (l3 : Int) (l4 : Int) (l5 : Int) : kzM → Option (Unit × kzM) :=
  zgR G 11 4 l0 fun t1 =>
  zcv G 10 t1 (Z10_size G t1) fun t2 =>
  zcnd (t2 ≤ l5)
  (zrt ())
  (zgR G 11 4 l0 fun t3 =>
  zcv G 10 t3 (Z10_tongueOf G t3 l5) fun t4 =>
  zcl (Z11_hasBit G l1 t4) fun t5 =>
  zcnd (t5 = (0 : Int))
  (Z11_gather_103 G k10 l0 l1 l2 l3 l4 l5)
  (zgR G 11 5 l0 fun t6 =>
  zgR G 11 0 l0 fun t7 =>
  zgR G 11 4 l0 fun t8 =>
  zcv G 10 t8 (Z10_keysOf G t8 l5) fun t9 =>
  zcv G 7 t6 (Z7_priceOf G t6 t7 t9) fun t10 =>
  zcnd (l2 < t10)
  (Z11_gather_103 G k10 l0 l1 l2 l3 l4 l5)
  (zgR G 11 6 l0 fun t11 =>
  zgR G 11 4 l0 fun t12 =>
  zcv G 10 t12 (Z10_countOf G t12 l5) fun t13 =>
  zgR G 11 9 l0 fun t14 =>
  zcv G 2 t14 (Z2_worthOf G t14 l3 l5 l4) fun t15 =>
  zlI (((1000 : Int) * t13) + t15) fun u1 =>
  zcv G 1 t11 (Z1_insert G t11 l5 t10 u1) fun _ =>
  Z11_gather_103 G k10 l0 l1 l2 l3 l4 l5)))
theorem qX11_gather_10B {G : kdS} (hG : kzG G) {k10' : Nat → Int → Int → Int → Int → Int → kzM → Option (Unit × kzM)} {k10 : Nat → Int32 → Int32 → Int32 → Int32 → Int32 → kdM → Option (Unit × kdM)} (hk10 : ∀ (a0 : Nat) (a1 : Int) (_ : kzI a1) (a2 : Int) (_ : kzI a2) (a3 : Int) (_ : kzI a3) (a4 : Int) (_ : kzI a4) (a5 : Int) (_ : kzI a5), CRu (k10' a0 a1 a2 a3 a4 a5) (k10 a0 (Int32.ofInt a1) (Int32.ofInt a2) (Int32.ofInt a3) (Int32.ofInt a4) (Int32.ofInt a5))) (l0 : Nat) {l1 : Int} (hl1 : kzI l1) {l2 : Int} (hl2 : kzI l2) {l3 : Int} (hl3 : kzI l3) {l4 : Int} (hl4 : kzI l4) {l5 : Int} (hl5 : kzI l5) : CRu (Z11_gather_10B G k10' l0 l1 l2 l3 l4 l5) (X11_gather_10B G k10 l0 (Int32.ofInt l1) (Int32.ofInt l2) (Int32.ofInt l3) (Int32.ofInt l4) (Int32.ofInt l5)) := by
  unfold Z11_gather_10B X11_gather_10B
  exact c_gR (fun t1 => c_cv (qX10_size hG t1) (fun t2 ht2 => c_cnd (kz_le ht2 hl5 rfl rfl) (c_rt trivial rfl) (c_gR (fun t3 => c_cv (qX10_tongueOf hG t3 hl5) (fun t4 ht4 => c_cl (qX11_hasBit hG hl1 ht4) (fun t5 ht5 => c_cnd (kz_eq ht5 (by unfold kzI; omega) rfl rfl) ((qX11_gather_103 hG hk10 l0 hl1 hl2 hl3 hl4 hl5)) (c_gR (fun t6 => c_gR (fun t7 => c_gR (fun t8 => c_cv (qX10_keysOf hG t8 hl5) (fun t9 _ => c_cv (qX7_priceOf hG t6 t7 t9) (fun t10 ht10 => c_cnd (kz_lt hl2 ht10 rfl rfl) ((qX11_gather_103 hG hk10 l0 hl1 hl2 hl3 hl4 hl5)) (c_gR (fun t11 => c_gR (fun t12 => c_cv (qX10_countOf hG t12 hl5) (fun t13 ht13 => c_gR (fun t14 => c_cv (qX2_worthOf hG t14 hl3 hl5 hl4) (fun t15 ht15 => c_rg (kz_add (kz_mul rfl rfl) rfl) fun u1 r1 e1 => c_cv (e1 ▸ (qX1_insert hG t11 hl5 ht10 r1)) (fun _ _ => (qX11_gather_103 hG hk10 l0 hl1 hl2 hl3 hl4 hl5))))))))))))))))))))
def Z11_gather_10 (G : kdS) : Nat → Int → Int → Int → Int → Int → kzM → Option (Unit × kzM) := lp (fun _ _ _ _ _ _ _ => none) (Z11_gather_10B G) NN
theorem qX11_gather_10 {G : kdS} (hG : kzG G) : ∀ (a0 : Nat) (a1 : Int) (_ : kzI a1) (a2 : Int) (_ : kzI a2) (a3 : Int) (_ : kzI a3) (a4 : Int) (_ : kzI a4) (a5 : Int) (_ : kzI a5), CRu (Z11_gather_10 G a0 a1 a2 a3 a4 a5) (X11_gather_10 G a0 (Int32.ofInt a1) (Int32.ofInt a2) (Int32.ofInt a3) (Int32.ofInt a4) (Int32.ofInt a5)) :=
  lp_rel (R := fun (f' : Nat → Int → Int → Int → Int → Int → kzM → Option (Unit × kzM)) (f : Nat → Int32 → Int32 → Int32 → Int32 → Int32 → kdM → Option (Unit × kdM)) => ∀ (a0 : Nat) (a1 : Int) (_ : kzI a1) (a2 : Int) (_ : kzI a2) (a3 : Int) (_ : kzI a3) (a4 : Int) (_ : kzI a4) (a5 : Int) (_ : kzI a5), CRu (f' a0 a1 a2 a3 a4 a5) (f a0 (Int32.ofInt a1) (Int32.ofInt a2) (Int32.ofInt a3) (Int32.ofInt a4) (Int32.ofInt a5))) (by intros; exact c_no) (fun _ _ hf a0 a1 ha1 a2 ha2 a3 ha3 a4 ha4 a5 ha5 => qX11_gather_10B hG hf a0 ha1 ha2 ha3 ha4 ha5) NN
def Z11_gather (G : kdS) (l0 : Nat) (l1 : Int) (l2 : Int) (l3 : Int) (l4 : Int) : kzM → Option (Unit × kzM) :=
  zgR G 11 6 l0 fun t1 =>
  zcv G 1 t1 (Z1_clear G t1) fun _ =>
  Z11_gather_10 G l0 l1 l2 l3 l4 (0 : Int)
theorem qX11_gather {G : kdS} (hG : kzG G) (l0 : Nat) {l1 : Int} (hl1 : kzI l1) {l2 : Int} (hl2 : kzI l2) {l3 : Int} (hl3 : kzI l3) {l4 : Int} (hl4 : kzI l4) : CRu (Z11_gather G l0 l1 l2 l3 l4) (X11_gather G l0 (Int32.ofInt l1) (Int32.ofInt l2) (Int32.ofInt l3) (Int32.ofInt l4)) := by
  unfold Z11_gather X11_gather
  exact c_gR (fun t1 => c_cv (qX1_clear hG t1) (fun _ _ => (qX11_gather_10 hG l0 _ hl1 _ hl2 _ hl3 _ hl4 _ (by unfold kzI; omega))))
def Z11_guess_20 (G : kdS) : kzM → Option (Int × kzM) :=
  zrt (-2 : Int)
theorem qX11_guess_20 {G : kdS} (hG : kzG G) : CRi (Z11_guess_20 G) (X11_guess_20 G) := by
  unfold Z11_guess_20 X11_guess_20
  exact c_rt (by unfold kzI; omega) rfl
def Z11_guess (G : kdS) (l0 : Nat) (l1 : Int) (l2 : Int) (l3 : Int) : kzM → Option (Int × kzM) :=
  zcl (Z11_within G l1 (1 : Int) (7 : Int)) fun t1 =>
  zcnd (t1 = (0 : Int))
  (Z11_guess_20 G)
  (zcl (Z11_within G l2 (0 : Int) (60 : Int)) fun t2 =>
  zcnd (t2 = (0 : Int))
  (Z11_guess_20 G)
  (zgR G 11 0 l0 fun t3 =>
  zcv G 6 t3 (Z6_isEmpty G t3) fun t4 =>
  zcnd (t4 = (0 : Int))
  (zcv G 11 l0 (Z11_gather G l0 l1 l2 (-1 : Int) (0 : Int)) fun _ =>
  zgR G 11 6 l0 fun t5 =>
  zcv G 1 t5 (Z1_guessAt G t5 l3) fun t6 =>
  zrt t6)
  (zrt (-3 : Int))))
theorem qX11_guess {G : kdS} (hG : kzG G) (l0 : Nat) {l1 : Int} (hl1 : kzI l1) {l2 : Int} (hl2 : kzI l2) {l3 : Int} (hl3 : kzI l3) : CRi (Z11_guess G l0 l1 l2 l3) (X11_guess G l0 (Int32.ofInt l1) (Int32.ofInt l2) (Int32.ofInt l3)) := by
  unfold Z11_guess X11_guess
  exact c_cl (qX11_within hG hl1 (by unfold kzI; omega) (by unfold kzI; omega)) (fun t1 ht1 => c_cnd (kz_eq ht1 (by unfold kzI; omega) rfl rfl) ((qX11_guess_20 hG)) (c_cl (qX11_within hG hl2 (by unfold kzI; omega) (by unfold kzI; omega)) (fun t2 ht2 => c_cnd (kz_eq ht2 (by unfold kzI; omega) rfl rfl) ((qX11_guess_20 hG)) (c_gR (fun t3 => c_cv (qX6_isEmpty hG t3) (fun t4 ht4 => c_cnd (kz_eq ht4 (by unfold kzI; omega) rfl rfl) (c_cv (qX11_gather hG l0 hl1 hl2 (by unfold kzI; omega) (by unfold kzI; omega)) (fun _ _ => c_gR (fun t5 => c_cv (qX1_guessAt hG t5 hl3) (fun t6 ht6 => c_rt ht6 rfl)))) (c_rt (by unfold kzI; omega) rfl)))))))
def Z11_isDay (G : kdS) (l0 : Int) : kzM → Option (Int × kzM) :=
  zcl (Z11_within G l0 (0 : Int) (3000 : Int)) fun t1 =>
  zrt (zB t1)
theorem qX11_isDay {G : kdS} (hG : kzG G) {l0 : Int} (hl0 : kzI l0) : CRi (Z11_isDay G l0) (X11_isDay G (Int32.ofInt l0)) := by
  unfold Z11_isDay X11_isDay
  exact c_cl (qX11_within hG hl0 (by unfold kzI; omega) (by unfold kzI; omega)) (fun t1 ht1 => c_rt (kz_BI _) (kz_B rfl))
def Z11_isHand (G : kdS) (l0 : Int) : kzM → Option (Int × kzM) :=
  zcl (Z11_within G l0 (0 : Int) (3 : Int)) fun t1 =>
  zrt (zB t1)
theorem qX11_isHand {G : kdS} (hG : kzG G) {l0 : Int} (hl0 : kzI l0) : CRi (Z11_isHand G l0) (X11_isHand G (Int32.ofInt l0)) := by
  unfold Z11_isHand X11_isHand
  exact c_cl (qX11_within hG hl0 (by unfold kzI; omega) (by unfold kzI; omega)) (fun t1 ht1 => c_rt (kz_BI _) (kz_B rfl))
def Z11_learn_18 (G : kdS) : kzM → Option (Int × kzM) :=
  zrt (-1 : Int)
theorem qX11_learn_18 {G : kdS} (hG : kzG G) : CRi (Z11_learn_18 G) (X11_learn_18 G) := by
  unfold Z11_learn_18 X11_learn_18
  exact c_rt (by unfold kzI; omega) rfl
def Z11_learn_70 (G : kdS) (s0 : Int) : kzM → Option (Int × kzM) :=
  zrt s0
theorem qX11_learn_70 {G : kdS} (hG : kzG G) {s0 : Int} (hs0 : kzI s0) : CRi (Z11_learn_70 G s0) (X11_learn_70 G (Int32.ofInt s0)) := by
  unfold Z11_learn_70 X11_learn_70
  exact c_rt hs0 rfl
def Z11_learn (G : kdS) (l0 : Nat) (l1 : Int) (l2 : Int) (l3 : Int) : kzM → Option (Int × kzM) :=
  zcl (Z11_isHand G l1) fun t1 =>
  zcnd (t1 = (0 : Int))
  (Z11_learn_18 G)
  (zgR G 11 4 l0 fun t2 =>
  zcv G 10 t2 (Z10_has G t2 l2) fun t3 =>
  zcnd (t3 = (0 : Int))
  (Z11_learn_18 G)
  (zcl (Z11_isDay G l3) fun t4 =>
  zcnd (t4 = (0 : Int))
  (zrt (-2 : Int))
  (zgR G 11 9 l0 fun t5 =>
  zcv G 2 t5 (Z2_isFull G t5) fun t6 =>
  zcnd (t6 = (0 : Int))
  (zgR G 11 9 l0 fun t7 =>
  zcv G 2 t7 (Z2_latestDay G t7 l1) fun t8 =>
  zcnd (t8 ≤ l3)
  (zgR G 11 9 l0 fun t9 =>
  zcv G 2 t9 (Z2_addLearning G t9 l1 l2 l3) fun t10 =>
  Z11_learn_70 G t10)
  (Z11_learn_70 G (-5 : Int)))
  (zrt (-4 : Int)))))
theorem qX11_learn {G : kdS} (hG : kzG G) (l0 : Nat) {l1 : Int} (hl1 : kzI l1) {l2 : Int} (hl2 : kzI l2) {l3 : Int} (hl3 : kzI l3) : CRi (Z11_learn G l0 l1 l2 l3) (X11_learn G l0 (Int32.ofInt l1) (Int32.ofInt l2) (Int32.ofInt l3)) := by
  unfold Z11_learn X11_learn
  exact c_cl (qX11_isHand hG hl1) (fun t1 ht1 => c_cnd (kz_eq ht1 (by unfold kzI; omega) rfl rfl) ((qX11_learn_18 hG)) (c_gR (fun t2 => c_cv (qX10_has hG t2 hl2) (fun t3 ht3 => c_cnd (kz_eq ht3 (by unfold kzI; omega) rfl rfl) ((qX11_learn_18 hG)) (c_cl (qX11_isDay hG hl3) (fun t4 ht4 => c_cnd (kz_eq ht4 (by unfold kzI; omega) rfl rfl) (c_rt (by unfold kzI; omega) rfl) (c_gR (fun t5 => c_cv (qX2_isFull hG t5) (fun t6 ht6 => c_cnd (kz_eq ht6 (by unfold kzI; omega) rfl rfl) (c_gR (fun t7 => c_cv (qX2_latestDay hG t7 hl1) (fun t8 ht8 => c_cnd (kz_le ht8 hl3 rfl rfl) (c_gR (fun t9 => c_cv (qX2_addLearning hG t9 hl1 hl2 hl3) (fun t10 ht10 => (qX11_learn_70 hG ht10)))) ((qX11_learn_70 hG (by unfold kzI; omega)))))) (c_rt (by unfold kzI; omega) rfl))))))))))
def Z11_worth_18 (G : kdS) : kzM → Option (Int × kzM) :=
  zrt (-1 : Int)
theorem qX11_worth_18 {G : kdS} (hG : kzG G) : CRi (Z11_worth_18 G) (X11_worth_18 G) := by
  unfold Z11_worth_18 X11_worth_18
  exact c_rt (by unfold kzI; omega) rfl
def Z11_worth_42 (G : kdS) (s0 : Int) : kzM → Option (Int × kzM) :=
  zrt s0
theorem qX11_worth_42 {G : kdS} (hG : kzG G) {s0 : Int} (hs0 : kzI s0) : CRi (Z11_worth_42 G s0) (X11_worth_42 G (Int32.ofInt s0)) := by
  unfold Z11_worth_42 X11_worth_42
  exact c_rt hs0 rfl
def Z11_worth (G : kdS) (l0 : Nat) (l1 : Int) (l2 : Int) (l3 : Int) : kzM → Option (Int × kzM) :=
  zcl (Z11_isHand G l1) fun t1 =>
  zcnd (t1 = (0 : Int))
  (Z11_worth_18 G)
  (zgR G 11 4 l0 fun t2 =>
  zcv G 10 t2 (Z10_has G t2 l2) fun t3 =>
  zcnd (t3 = (0 : Int))
  (Z11_worth_18 G)
  (zcl (Z11_isDay G l3) fun t4 =>
  zcnd (t4 = (0 : Int))
  (Z11_worth_42 G (-2 : Int))
  (zgR G 11 9 l0 fun t5 =>
  zcv G 2 t5 (Z2_worthOf G t5 l1 l2 l3) fun t6 =>
  Z11_worth_42 G t6)))
theorem qX11_worth {G : kdS} (hG : kzG G) (l0 : Nat) {l1 : Int} (hl1 : kzI l1) {l2 : Int} (hl2 : kzI l2) {l3 : Int} (hl3 : kzI l3) : CRi (Z11_worth G l0 l1 l2 l3) (X11_worth G l0 (Int32.ofInt l1) (Int32.ofInt l2) (Int32.ofInt l3)) := by
  unfold Z11_worth X11_worth
  exact c_cl (qX11_isHand hG hl1) (fun t1 ht1 => c_cnd (kz_eq ht1 (by unfold kzI; omega) rfl rfl) ((qX11_worth_18 hG)) (c_gR (fun t2 => c_cv (qX10_has hG t2 hl2) (fun t3 ht3 => c_cnd (kz_eq ht3 (by unfold kzI; omega) rfl rfl) ((qX11_worth_18 hG)) (c_cl (qX11_isDay hG hl3) (fun t4 ht4 => c_cnd (kz_eq ht4 (by unfold kzI; omega) rfl rfl) ((qX11_worth_42 hG (by unfold kzI; omega))) (c_gR (fun t5 => c_cv (qX2_worthOf hG t5 hl1 hl2 hl3) (fun t6 ht6 => (qX11_worth_42 hG ht6))))))))))
def Z11_forget_23 (G : kdS) : kzM → Option (Int × kzM) :=
  zrt (-1 : Int)
theorem qX11_forget_23 {G : kdS} (hG : kzG G) : CRi (Z11_forget_23 G) (X11_forget_23 G) := by
  unfold Z11_forget_23 X11_forget_23
  exact c_rt (by unfold kzI; omega) rfl
def Z11_forget_25 (G : kdS) (l0 : Nat) (l1 : Int) (l2 : Int) : kzM → Option (Int × kzM) :=
  zgR G 11 9 l0 fun t1 =>
  zcv G 2 t1 (Z2_dropLearnings G t1 l1 l2) fun t2 =>
  zrt t2
theorem qX11_forget_25 {G : kdS} (hG : kzG G) (l0 : Nat) {l1 : Int} (hl1 : kzI l1) {l2 : Int} (hl2 : kzI l2) : CRi (Z11_forget_25 G l0 l1 l2) (X11_forget_25 G l0 (Int32.ofInt l1) (Int32.ofInt l2)) := by
  unfold Z11_forget_25 X11_forget_25
  exact c_gR (fun t1 => c_cv (qX2_dropLearnings hG t1 hl1 hl2) (fun t2 ht2 => c_rt ht2 rfl))
def Z11_forget (G : kdS) (l0 : Nat) (l1 : Int) (l2 : Int) : kzM → Option (Int × kzM) :=
  zcl (Z11_isHand G l1) fun t1 =>
  zcnd (t1 = (0 : Int))
  (Z11_forget_23 G)
  (zcnd (l2 = (-1 : Int))
  (Z11_forget_25 G l0 l1 l2)
  (zgR G 11 4 l0 fun t2 =>
  zcv G 10 t2 (Z10_has G t2 l2) fun t3 =>
  zcnd (t3 = (0 : Int))
  (Z11_forget_23 G)
  (Z11_forget_25 G l0 l1 l2)))
theorem qX11_forget {G : kdS} (hG : kzG G) (l0 : Nat) {l1 : Int} (hl1 : kzI l1) {l2 : Int} (hl2 : kzI l2) : CRi (Z11_forget G l0 l1 l2) (X11_forget G l0 (Int32.ofInt l1) (Int32.ofInt l2)) := by
  unfold Z11_forget X11_forget
  exact c_cl (qX11_isHand hG hl1) (fun t1 ht1 => c_cnd (kz_eq ht1 (by unfold kzI; omega) rfl rfl) ((qX11_forget_23 hG)) (c_cnd (kz_eq hl2 (by unfold kzI; omega) rfl rfl) ((qX11_forget_25 hG l0 hl1 hl2)) (c_gR (fun t2 => c_cv (qX10_has hG t2 hl2) (fun t3 ht3 => c_cnd (kz_eq ht3 (by unfold kzI; omega) rfl rfl) ((qX11_forget_23 hG)) ((qX11_forget_25 hG l0 hl1 hl2)))))))
def Z11_fade_24 (G : kdS) (s0 : Int) : kzM → Option (Int × kzM) :=
  zrt s0
theorem qX11_fade_24 {G : kdS} (hG : kzG G) {s0 : Int} (hs0 : kzI s0) : CRi (Z11_fade_24 G s0) (X11_fade_24 G (Int32.ofInt s0)) := by
  unfold Z11_fade_24 X11_fade_24
  exact c_rt hs0 rfl
def Z11_fade (G : kdS) (l0 : Nat) (l1 : Int) : kzM → Option (Int × kzM) :=
  zcl (Z11_within G l1 (0 : Int) (1000 : Int)) fun t1 =>
  zcnd (t1 = (0 : Int))
  (Z11_fade_24 G (-2 : Int))
  (zgR G 11 9 l0 fun t2 =>
  zcv G 2 t2 (Z2_setFade G t2 l1) fun t3 =>
  Z11_fade_24 G t3)
theorem qX11_fade {G : kdS} (hG : kzG G) (l0 : Nat) {l1 : Int} (hl1 : kzI l1) : CRi (Z11_fade G l0 l1) (X11_fade G l0 (Int32.ofInt l1)) := by
  unfold Z11_fade X11_fade
  exact c_cl (qX11_within hG hl1 (by unfold kzI; omega) (by unfold kzI; omega)) (fun t1 ht1 => c_cnd (kz_eq ht1 (by unfold kzI; omega) rfl rfl) ((qX11_fade_24 hG (by unfold kzI; omega))) (c_gR (fun t2 => c_cv (qX2_setFade hG t2 hl1) (fun t3 ht3 => (qX11_fade_24 hG ht3)))))
def Z11_mine_37 (G : kdS) : kzM → Option (Int × kzM) :=
  zrt (-2 : Int)
theorem qX11_mine_37 {G : kdS} (hG : kzG G) : CRi (Z11_mine_37 G) (X11_mine_37 G) := by
  unfold Z11_mine_37 X11_mine_37
  exact c_rt (by unfold kzI; omega) rfl
def Z11_mine (G : kdS) (l0 : Nat) (l1 : Int) (l2 : Int) (l3 : Int) (l4 : Int) (l5 : Int) : kzM → Option (Int × kzM) :=
  zcl (Z11_isHand G l1) fun t1 =>
  zcnd (t1 = (0 : Int))
  (zrt (-1 : Int))
  (zcl (Z11_isDay G l2) fun t2 =>
  zcnd (t2 = (0 : Int))
  (Z11_mine_37 G)
  (zcl (Z11_within G l3 (1 : Int) (7 : Int)) fun t3 =>
  zcnd (t3 = (0 : Int))
  (Z11_mine_37 G)
  (zcl (Z11_within G l4 (0 : Int) (60 : Int)) fun t4 =>
  zcnd (t4 = (0 : Int))
  (Z11_mine_37 G)
  (zgR G 11 0 l0 fun t5 =>
  zcv G 6 t5 (Z6_isEmpty G t5) fun t6 =>
  zcnd (t6 = (0 : Int))
  (zcv G 11 l0 (Z11_gather G l0 l3 l4 l1 l2) fun _ =>
  zgR G 11 6 l0 fun t7 =>
  zcv G 1 t7 (Z1_guessAt G t7 l5) fun t8 =>
  zrt t8)
  (zrt (-3 : Int))))))
theorem qX11_mine {G : kdS} (hG : kzG G) (l0 : Nat) {l1 : Int} (hl1 : kzI l1) {l2 : Int} (hl2 : kzI l2) {l3 : Int} (hl3 : kzI l3) {l4 : Int} (hl4 : kzI l4) {l5 : Int} (hl5 : kzI l5) : CRi (Z11_mine G l0 l1 l2 l3 l4 l5) (X11_mine G l0 (Int32.ofInt l1) (Int32.ofInt l2) (Int32.ofInt l3) (Int32.ofInt l4) (Int32.ofInt l5)) := by
  unfold Z11_mine X11_mine
  exact c_cl (qX11_isHand hG hl1) (fun t1 ht1 => c_cnd (kz_eq ht1 (by unfold kzI; omega) rfl rfl) (c_rt (by unfold kzI; omega) rfl) (c_cl (qX11_isDay hG hl2) (fun t2 ht2 => c_cnd (kz_eq ht2 (by unfold kzI; omega) rfl rfl) ((qX11_mine_37 hG)) (c_cl (qX11_within hG hl3 (by unfold kzI; omega) (by unfold kzI; omega)) (fun t3 ht3 => c_cnd (kz_eq ht3 (by unfold kzI; omega) rfl rfl) ((qX11_mine_37 hG)) (c_cl (qX11_within hG hl4 (by unfold kzI; omega) (by unfold kzI; omega)) (fun t4 ht4 => c_cnd (kz_eq ht4 (by unfold kzI; omega) rfl rfl) ((qX11_mine_37 hG)) (c_gR (fun t5 => c_cv (qX6_isEmpty hG t5) (fun t6 ht6 => c_cnd (kz_eq ht6 (by unfold kzI; omega) rfl rfl) (c_cv (qX11_gather hG l0 hl3 hl4 hl1 hl2) (fun _ _ => c_gR (fun t7 => c_cv (qX1_guessAt hG t7 hl5) (fun t8 ht8 => c_rt ht8 rfl)))) (c_rt (by unfold kzI; omega) rfl)))))))))))
def Z11_budget_34 (G : kdS) (s0 : Int) : kzM → Option (Int × kzM) :=
  zrt s0
theorem qX11_budget_34 {G : kdS} (hG : kzG G) {s0 : Int} (hs0 : kzI s0) : CRi (Z11_budget_34 G s0) (X11_budget_34 G (Int32.ofInt s0)) := by
  unfold Z11_budget_34 X11_budget_34
  exact c_rt hs0 rfl
def Z11_budget (G : kdS) (l0 : Nat) (l1 : Int) (l2 : Int) : kzM → Option (Int × kzM) :=
  zcl (Z11_isHand G l1) fun t1 =>
  zcnd (t1 = (0 : Int))
  (zrt (-1 : Int))
  (zcl (Z11_within G l2 (0 : Int) (1000 : Int)) fun t2 =>
  zcnd (t2 = (0 : Int))
  (Z11_budget_34 G (-2 : Int))
  (zgR G 11 9 l0 fun t3 =>
  zcv G 2 t3 (Z2_setBudget G t3 l1 l2) fun t4 =>
  Z11_budget_34 G t4))
theorem qX11_budget {G : kdS} (hG : kzG G) (l0 : Nat) {l1 : Int} (hl1 : kzI l1) {l2 : Int} (hl2 : kzI l2) : CRi (Z11_budget G l0 l1 l2) (X11_budget G l0 (Int32.ofInt l1) (Int32.ofInt l2)) := by
  unfold Z11_budget X11_budget
  exact c_cl (qX11_isHand hG hl1) (fun t1 ht1 => c_cnd (kz_eq ht1 (by unfold kzI; omega) rfl rfl) (c_rt (by unfold kzI; omega) rfl) (c_cl (qX11_within hG hl2 (by unfold kzI; omega) (by unfold kzI; omega)) (fun t2 ht2 => c_cnd (kz_eq ht2 (by unfold kzI; omega) rfl rfl) ((qX11_budget_34 hG (by unfold kzI; omega))) (c_gR (fun t3 => c_cv (qX2_setBudget hG t3 hl1 hl2) (fun t4 ht4 => (qX11_budget_34 hG ht4)))))))
def Z11_seed_24 (G : kdS) (s0 : Int) : kzM → Option (Int × kzM) :=
  zrt s0
theorem qX11_seed_24 {G : kdS} (hG : kzG G) {s0 : Int} (hs0 : kzI s0) : CRi (Z11_seed_24 G s0) (X11_seed_24 G (Int32.ofInt s0)) := by
  unfold Z11_seed_24 X11_seed_24
  exact c_rt hs0 rfl
def Z11_seed (G : kdS) (l0 : Nat) (l1 : Int) : kzM → Option (Int × kzM) :=
  zcl (Z11_within G l1 (1 : Int) (1000000 : Int)) fun t1 =>
  zcnd (t1 = (0 : Int))
  (Z11_seed_24 G (-2 : Int))
  (zgR G 11 9 l0 fun t2 =>
  zcv G 2 t2 (Z2_setSeed G t2 l1) fun t3 =>
  Z11_seed_24 G t3)
theorem qX11_seed {G : kdS} (hG : kzG G) (l0 : Nat) {l1 : Int} (hl1 : kzI l1) : CRi (Z11_seed G l0 l1) (X11_seed G l0 (Int32.ofInt l1)) := by
  unfold Z11_seed X11_seed
  exact c_cl (qX11_within hG hl1 (by unfold kzI; omega) (by unfold kzI; omega)) (fun t1 ht1 => c_cnd (kz_eq ht1 (by unfold kzI; omega) rfl rfl) ((qX11_seed_24 hG (by unfold kzI; omega))) (c_gR (fun t2 => c_cv (qX2_setSeed hG t2 hl1) (fun t3 ht3 => (qX11_seed_24 hG ht3)))))
def Z11_share_32 (G : kdS) : kzM → Option (Int × kzM) :=
  zrt (-1000002 : Int)
theorem qX11_share_32 {G : kdS} (hG : kzG G) : CRi (Z11_share_32 G) (X11_share_32 G) := by
  unfold Z11_share_32 X11_share_32
  exact c_rt (by unfold kzI; omega) rfl
def Z11_share_64 (G : kdS) (s0 : Int) : kzM → Option (Int × kzM) :=
  zrt s0
theorem qX11_share_64 {G : kdS} (hG : kzG G) {s0 : Int} (hs0 : kzI s0) : CRi (Z11_share_64 G s0) (X11_share_64 G (Int32.ofInt s0)) := by
  unfold Z11_share_64 X11_share_64
  exact c_rt hs0 rfl
def Z11_share (G : kdS) (l0 : Nat) (l1 : Int) (l2 : Int) (l3 : Int) : kzM → Option (Int × kzM) :=
  zgR G 11 4 l0 fun t1 =>
  zcv G 10 t1 (Z10_has G t1 l1) fun t2 =>
  zcnd (t2 = (0 : Int))
  (zrt (-1000001 : Int))
  (zcl (Z11_within G l2 (1 : Int) (100 : Int)) fun t3 =>
  zcnd (t3 = (0 : Int))
  (Z11_share_32 G)
  (zcl (Z11_isDay G l3) fun t4 =>
  zcnd (t4 = (0 : Int))
  (Z11_share_32 G)
  (zgR G 11 9 l0 fun t5 =>
  zcv G 2 t5 (Z2_givers G t5 l2) fun t6 =>
  zcnd ((2 : Int) ≤ t6)
  (zgR G 11 9 l0 fun t7 =>
  zcv G 2 t7 (Z2_sumWithLot G t7 l1 l2 l3) fun t8 =>
  Z11_share_64 G t8)
  (Z11_share_64 G (-1000005 : Int)))))
theorem qX11_share {G : kdS} (hG : kzG G) (l0 : Nat) {l1 : Int} (hl1 : kzI l1) {l2 : Int} (hl2 : kzI l2) {l3 : Int} (hl3 : kzI l3) : CRi (Z11_share G l0 l1 l2 l3) (X11_share G l0 (Int32.ofInt l1) (Int32.ofInt l2) (Int32.ofInt l3)) := by
  unfold Z11_share X11_share
  exact c_gR (fun t1 => c_cv (qX10_has hG t1 hl1) (fun t2 ht2 => c_cnd (kz_eq ht2 (by unfold kzI; omega) rfl rfl) (c_rt (by unfold kzI; omega) rfl) (c_cl (qX11_within hG hl2 (by unfold kzI; omega) (by unfold kzI; omega)) (fun t3 ht3 => c_cnd (kz_eq ht3 (by unfold kzI; omega) rfl rfl) ((qX11_share_32 hG)) (c_cl (qX11_isDay hG hl3) (fun t4 ht4 => c_cnd (kz_eq ht4 (by unfold kzI; omega) rfl rfl) ((qX11_share_32 hG)) (c_gR (fun t5 => c_cv (qX2_givers hG t5 hl2) (fun t6 ht6 => c_cnd (kz_le (by unfold kzI; omega) ht6 rfl rfl) (c_gR (fun t7 => c_cv (qX2_sumWithLot hG t7 hl1 hl2 hl3) (fun t8 ht8 => (qX11_share_64 hG ht8)))) ((qX11_share_64 hG (by unfold kzI; omega))))))))))))
def Z11_toldOfOne_72 (G : kdS) (s0 : Int) : kzM → Option (Int × kzM) :=
  zrt s0
theorem qX11_toldOfOne_72 {G : kdS} (hG : kzG G) {s0 : Int} (hs0 : kzI s0) : CRi (Z11_toldOfOne_72 G s0) (X11_toldOfOne_72 G (Int32.ofInt s0)) := by
  unfold Z11_toldOfOne_72 X11_toldOfOne_72
  exact c_rt hs0 rfl
def Z11_toldOfOne (G : kdS) (l0 : Nat) (l1 : Int) : kzM → Option (Int × kzM) :=
  zlW (l1 - (10 : Int)) fun u1 =>
  zcl (Z11_isTongue G u1) fun t1 =>
  zcnd (t1 = (0 : Int))
  (zlW (l1 - (20 : Int)) fun u2 =>
  zcl (Z11_isTongue G u2) fun t2 =>
  zcnd (t2 = (0 : Int))
  (zlW (l1 - (30 : Int)) fun u3 =>
  zcl (Z11_isHand G u3) fun t3 =>
  zcnd (t3 = (0 : Int))
  (Z11_toldOfOne_72 G (-2 : Int))
  (zgR G 11 9 l0 fun t4 =>
  zlW (l1 - (30 : Int)) fun u4 =>
  zcv G 2 t4 (Z2_budgetOf G t4 u4) fun t5 =>
  Z11_toldOfOne_72 G t5))
  (zgR G 11 2 l0 fun t6 =>
  zaR G 17 t6 (l1 - (20 : Int)) fun t7 =>
  zcv G 8 t7 (Z8_joins G t7) fun t8 =>
  zrt t8))
  (zgR G 11 2 l0 fun t9 =>
  zaR G 17 t9 (l1 - (10 : Int)) fun t10 =>
  zcv G 8 t10 (Z8_rules G t10) fun t11 =>
  zrt t11)
theorem qX11_toldOfOne {G : kdS} (hG : kzG G) (l0 : Nat) {l1 : Int} (hl1 : kzI l1) : CRi (Z11_toldOfOne G l0 l1) (X11_toldOfOne G l0 (Int32.ofInt l1)) := by
  unfold Z11_toldOfOne X11_toldOfOne
  exact c_rgW (kz_sub rfl rfl) fun u1 r1 e1 => c_cl (e1 ▸ (qX11_isTongue hG r1)) (fun t1 ht1 => c_cnd (kz_eq ht1 (by unfold kzI; omega) rfl rfl) (c_rgW (kz_sub rfl rfl) fun u2 r2 e2 => c_cl (e2 ▸ (qX11_isTongue hG r2)) (fun t2 ht2 => c_cnd (kz_eq ht2 (by unfold kzI; omega) rfl rfl) (c_rgW (kz_sub rfl rfl) fun u3 r3 e3 => c_cl (e3 ▸ (qX11_isHand hG r3)) (fun t3 ht3 => c_cnd (kz_eq ht3 (by unfold kzI; omega) rfl rfl) ((qX11_toldOfOne_72 hG (by unfold kzI; omega))) (c_gR (fun t4 => c_rgW (kz_sub rfl rfl) fun u4 r4 e4 => c_cv (e4 ▸ (qX2_budgetOf hG t4 r4)) (fun t5 ht5 => (qX11_toldOfOne_72 hG ht5)))))) (c_gR (fun t6 => c_aR hG (kz_sub rfl rfl) (fun t7 => c_cv (qX8_joins hG t7) (fun t8 ht8 => c_rt ht8 rfl)))))) (c_gR (fun t9 => c_aR hG (kz_sub rfl rfl) (fun t10 => c_cv (qX8_rules hG t10) (fun t11 ht11 => c_rt ht11 rfl)))))
def Z11_told (G : kdS) (l0 : Nat) (l1 : Int) : kzM → Option (Int × kzM) :=
  zcnd (l1 = (0 : Int))
  (zgR G 11 0 l0 fun t1 =>
  zcv G 6 t1 (Z6_size G t1) fun t2 =>
  zrt t2)
  (zcnd (l1 = (1 : Int))
  (zgR G 11 1 l0 fun t3 =>
  zcv G 6 t3 (Z6_size G t3) fun t4 =>
  zrt t4)
  (zcnd (l1 = (2 : Int))
  (zgR G 11 8 l0 fun t5 =>
  zcv G 0 t5 (Z0_padSize G t5) fun t6 =>
  zrt t6)
  (zcnd (l1 = (3 : Int))
  (zgR G 11 3 l0 fun t7 =>
  zcv G 4 t7 (Z4_tongue G t7) fun t8 =>
  zrt t8)
  (zcnd (l1 = (4 : Int))
  (zgR G 11 3 l0 fun t9 =>
  zcv G 4 t9 (Z4_strokes G t9) fun t10 =>
  zcv G 6 t10 (Z6_size G t10) fun t11 =>
  zrt t11)
  (zcnd (l1 = (5 : Int))
  (zgR G 11 4 l0 fun t12 =>
  zcv G 10 t12 (Z10_size G t12) fun t13 =>
  zrt t13)
  (zcnd (l1 = (6 : Int))
  (zgR G 11 8 l0 fun t14 =>
  zcv G 0 t14 (Z0_pairs G t14) fun t15 =>
  zrt t15)
  (zcnd (l1 = (7 : Int))
  (zgR G 11 9 l0 fun t16 =>
  zcv G 2 t16 (Z2_learnings G t16) fun t17 =>
  zrt t17)
  (zcnd (l1 = (8 : Int))
  (zgR G 11 10 l0 fun t18 =>
  zcv G 3 t18 (Z3_size G t18) fun t19 =>
  zrt t19)
  (zcv G 11 l0 (Z11_toldOfOne G l0 l1) fun t20 =>
  zrt t20)))))))))
theorem qX11_told {G : kdS} (hG : kzG G) (l0 : Nat) {l1 : Int} (hl1 : kzI l1) : CRi (Z11_told G l0 l1) (X11_told G l0 (Int32.ofInt l1)) := by
  unfold Z11_told X11_told
  exact c_cnd (kz_eq hl1 (by unfold kzI; omega) rfl rfl) (c_gR (fun t1 => c_cv (qX6_size hG t1) (fun t2 ht2 => c_rt ht2 rfl))) (c_cnd (kz_eq hl1 (by unfold kzI; omega) rfl rfl) (c_gR (fun t3 => c_cv (qX6_size hG t3) (fun t4 ht4 => c_rt ht4 rfl))) (c_cnd (kz_eq hl1 (by unfold kzI; omega) rfl rfl) (c_gR (fun t5 => c_cv (qX0_padSize hG t5) (fun t6 ht6 => c_rt ht6 rfl))) (c_cnd (kz_eq hl1 (by unfold kzI; omega) rfl rfl) (c_gR (fun t7 => c_cv (qX4_tongue hG t7) (fun t8 ht8 => c_rt ht8 rfl))) (c_cnd (kz_eq hl1 (by unfold kzI; omega) rfl rfl) (c_gR (fun t9 => c_cv (qX4_strokes hG t9) (fun t10 _ => c_cv (qX6_size hG t10) (fun t11 ht11 => c_rt ht11 rfl)))) (c_cnd (kz_eq hl1 (by unfold kzI; omega) rfl rfl) (c_gR (fun t12 => c_cv (qX10_size hG t12) (fun t13 ht13 => c_rt ht13 rfl))) (c_cnd (kz_eq hl1 (by unfold kzI; omega) rfl rfl) (c_gR (fun t14 => c_cv (qX0_pairs hG t14) (fun t15 ht15 => c_rt ht15 rfl))) (c_cnd (kz_eq hl1 (by unfold kzI; omega) rfl rfl) (c_gR (fun t16 => c_cv (qX2_learnings hG t16) (fun t17 ht17 => c_rt ht17 rfl))) (c_cnd (kz_eq hl1 (by unfold kzI; omega) rfl rfl) (c_gR (fun t18 => c_cv (qX3_size hG t18) (fun t19 ht19 => c_rt ht19 rfl))) (c_cv (qX11_toldOfOne hG l0 hl1) (fun t20 ht20 => c_rt ht20 rfl))))))))))
