/-! the class over whole numbers: by program (wip/whole/gen/mkz.py) -/
def Z6_size (G : kdS) (l0 : Nat) : kzM → Option (Int × kzM) :=
  zgI G 6 1 l0 fun t1 =>
  zrt t1
theorem qX6_size {G : kdS} (hG : kzG G) (l0 : Nat) : CRi (Z6_size G l0) (X6_size G l0) := by
  unfold Z6_size X6_size
  exact c_gI rfl (fun t1 ht1 => c_rt ht1 rfl)
def Z6_isEmpty_12 (G : kdS) (s0 : Int) : kzM → Option (Int × kzM) :=
  zrt (zB s0)
theorem qX6_isEmpty_12 {G : kdS} (hG : kzG G) {s0 : Int} (hs0 : kzI s0) : CRi (Z6_isEmpty_12 G s0) (X6_isEmpty_12 G (Int32.ofInt s0)) := by
  unfold Z6_isEmpty_12 X6_isEmpty_12
  exact c_rt (kz_BI _) (kz_B rfl)
def Z6_isEmpty (G : kdS) (l0 : Nat) : kzM → Option (Int × kzM) :=
  zgI G 6 1 l0 fun t1 =>
  zcnd (t1 = (0 : Int))
  (Z6_isEmpty_12 G (1 : Int))
  (Z6_isEmpty_12 G (0 : Int))
theorem qX6_isEmpty {G : kdS} (hG : kzG G) (l0 : Nat) : CRi (Z6_isEmpty G l0) (X6_isEmpty G l0) := by
  unfold Z6_isEmpty X6_isEmpty
  exact c_gI rfl (fun t1 ht1 => c_cnd (kz_eq ht1 (by unfold kzI; omega) rfl rfl) ((qX6_isEmpty_12 hG (by unfold kzI; omega))) ((qX6_isEmpty_12 hG (by unfold kzI; omega))))
def Z6_isFull_17 (G : kdS) (s0 : Int) : kzM → Option (Int × kzM) :=
  zrt (zB s0)
theorem qX6_isFull_17 {G : kdS} (hG : kzG G) {s0 : Int} (hs0 : kzI s0) : CRi (Z6_isFull_17 G s0) (X6_isFull_17 G (Int32.ofInt s0)) := by
  unfold Z6_isFull_17 X6_isFull_17
  exact c_rt (kz_BI _) (kz_B rfl)
def Z6_isFull (G : kdS) (l0 : Nat) : kzM → Option (Int × kzM) :=
  zgI G 6 1 l0 fun t1 =>
  zgR G 6 0 l0 fun t2 =>
  zaN G t2 fun t3 =>
  zcnd (t1 < t3)
  (Z6_isFull_17 G (0 : Int))
  (Z6_isFull_17 G (1 : Int))
theorem qX6_isFull {G : kdS} (hG : kzG G) (l0 : Nat) : CRi (Z6_isFull G l0) (X6_isFull G l0) := by
  unfold Z6_isFull X6_isFull
  exact c_gI rfl (fun t1 ht1 => c_gR (fun t2 => c_aN hG (fun t3 ht3 => c_cnd (kz_lt ht1 ht3 rfl rfl) ((qX6_isFull_17 hG (by unfold kzI; omega))) ((qX6_isFull_17 hG (by unfold kzI; omega))))))
def Z6_has_17 (G : kdS) (s0 : Int) : kzM → Option (Int × kzM) :=
  zrt (zB s0)
theorem qX6_has_17 {G : kdS} (hG : kzG G) {s0 : Int} (hs0 : kzI s0) : CRi (Z6_has_17 G s0) (X6_has_17 G (Int32.ofInt s0)) := by
  unfold Z6_has_17 X6_has_17
  exact c_rt (kz_BI _) (kz_B rfl)
def Z6_has_16 (G : kdS) : kzM → Option (Int × kzM) :=
  Z6_has_17 G (0 : Int)
theorem qX6_has_16 {G : kdS} (hG : kzG G) : CRi (Z6_has_16 G) (X6_has_16 G) := by
  unfold Z6_has_16 X6_has_16
  exact (qX6_has_17 hG (by unfold kzI; omega))
def Z6_has (G : kdS) (l0 : Nat) (l1 : Int) : kzM → Option (Int × kzM) :=
  zcnd (l1 < (0 : Int))
  (Z6_has_16 G)
  (zgI G 6 1 l0 fun t1 =>
  zcnd (t1 ≤ l1)
  (Z6_has_16 G)
  (Z6_has_17 G (1 : Int)))
theorem qX6_has {G : kdS} (hG : kzG G) (l0 : Nat) {l1 : Int} (hl1 : kzI l1) : CRi (Z6_has G l0 l1) (X6_has G l0 (Int32.ofInt l1)) := by
  unfold Z6_has X6_has
  exact c_cnd (kz_lt hl1 (by unfold kzI; omega) rfl rfl) ((qX6_has_16 hG)) (c_gI rfl (fun t1 ht1 => c_cnd (kz_le ht1 hl1 rfl rfl) ((qX6_has_16 hG)) ((qX6_has_17 hG (by unfold kzI; omega)))))
def Z6_at_22 (G : kdS) (s0 : Int) : kzM → Option (Int × kzM) :=
  zrt s0
theorem qX6_at_22 {G : kdS} (hG : kzG G) {s0 : Int} (hs0 : kzI s0) : CRi (Z6_at_22 G s0) (X6_at_22 G (Int32.ofInt s0)) := by
  unfold Z6_at_22 X6_at_22
  exact c_rt hs0 rfl
def Z6_at_21 (G : kdS) : kzM → Option (Int × kzM) :=
  Z6_at_22 G (-1 : Int)
theorem qX6_at_21 {G : kdS} (hG : kzG G) : CRi (Z6_at_21 G) (X6_at_21 G) := by
  unfold Z6_at_21 X6_at_21
  exact (qX6_at_22 hG (by unfold kzI; omega))
def Z6_at (G : kdS) (l0 : Nat) (l1 : Int) : kzM → Option (Int × kzM) :=
  zcnd (l1 < (0 : Int))
  (Z6_at_21 G)
  (zgI G 6 1 l0 fun t1 =>
  zcnd (t1 ≤ l1)
  (Z6_at_21 G)
  (zgR G 6 0 l0 fun t2 =>
  zaI G t2 l1 fun t3 =>
  Z6_at_22 G t3))
theorem qX6_at {G : kdS} (hG : kzG G) (l0 : Nat) {l1 : Int} (hl1 : kzI l1) : CRi (Z6_at G l0 l1) (X6_at G l0 (Int32.ofInt l1)) := by
  unfold Z6_at X6_at
  exact c_cnd (kz_lt hl1 (by unfold kzI; omega) rfl rfl) ((qX6_at_21 hG)) (c_gI rfl (fun t1 ht1 => c_cnd (kz_le ht1 hl1 rfl rfl) ((qX6_at_21 hG)) (c_gR (fun t2 => c_aI hG rfl (fun t3 ht3 => (qX6_at_22 hG ht3))))))
def Z6_insert_19 (G : kdS) : kzM → Option (Unit × kzM) :=
  zrt ()
theorem qX6_insert_19 {G : kdS} (hG : kzG G) : CRu (Z6_insert_19 G) (X6_insert_19 G) := by
  unfold Z6_insert_19 X6_insert_19
  exact c_rt trivial rfl
def Z6_insert_25B (G : kdS) (k25 : Nat → Int → Int → Int → kzM → Option (Unit × kzM)) (l0 : Nat) (l1 : Int) (l2 : Int) (l3 : Int) : kzM → Option (Unit × kzM) :=
  zcnd (l3 ≤ l1)
  (zgR G 6 0 l0 fun t1 =>
  ztI G t1 l1 l2 <|
  zgI G 6 1 l0 fun t2 =>
  zlI (t2 + (1 : Int)) fun u1 =>
  zsI G 6 1 l0 u1 <|
  zrt ())
  (zgR G 6 0 l0 fun t3 =>
  zgR G 6 0 l0 fun t4 =>
  zaI G t4 (l3 - (1 : Int)) fun t5 =>
  ztI G t3 l3 t5 <|
  zlI (l3 + (-1 : Int)) fun t6 =>
  k25 l0 l1 l2 t6)
theorem qX6_insert_25B {G : kdS} (hG : kzG G) {k25' : Nat → Int → Int → Int → kzM → Option (Unit × kzM)} {k25 : Nat → Int32 → Int32 → Int32 → kdM → Option (Unit × kdM)} (hk25 : ∀ (a0 : Nat) (a1 : Int) (_ : kzI a1) (a2 : Int) (_ : kzI a2) (a3 : Int) (_ : kzI a3), CRu (k25' a0 a1 a2 a3) (k25 a0 (Int32.ofInt a1) (Int32.ofInt a2) (Int32.ofInt a3))) (l0 : Nat) {l1 : Int} (hl1 : kzI l1) {l2 : Int} (hl2 : kzI l2) {l3 : Int} (hl3 : kzI l3) : CRu (Z6_insert_25B G k25' l0 l1 l2 l3) (X6_insert_25B G k25 l0 (Int32.ofInt l1) (Int32.ofInt l2) (Int32.ofInt l3)) := by
  unfold Z6_insert_25B X6_insert_25B
  exact c_cnd (kz_le hl3 hl1 rfl rfl) (c_gR (fun t1 => c_tI hG rfl hl2 rfl (c_gI rfl (fun t2 ht2 => c_rg (kz_add rfl rfl) fun u1 r1 e1 => c_sI rfl r1 e1 (c_rt trivial rfl))))) (c_gR (fun t3 => c_gR (fun t4 => c_aI hG (kz_sub rfl rfl) (fun t5 ht5 => c_tI hG rfl ht5 rfl (c_lI (kz_add rfl rfl) (fun t6 ht6 => (hk25 l0 _ hl1 _ hl2 _ ht6)))))))
def Z6_insert_25 (G : kdS) : Nat → Int → Int → Int → kzM → Option (Unit × kzM) := lp (fun _ _ _ _ _ => none) (Z6_insert_25B G) NN
theorem qX6_insert_25 {G : kdS} (hG : kzG G) : ∀ (a0 : Nat) (a1 : Int) (_ : kzI a1) (a2 : Int) (_ : kzI a2) (a3 : Int) (_ : kzI a3), CRu (Z6_insert_25 G a0 a1 a2 a3) (X6_insert_25 G a0 (Int32.ofInt a1) (Int32.ofInt a2) (Int32.ofInt a3)) :=
  lp_rel (R := fun (f' : Nat → Int → Int → Int → kzM → Option (Unit × kzM)) (f : Nat → Int32 → Int32 → Int32 → kdM → Option (Unit × kdM)) => ∀ (a0 : Nat) (a1 : Int) (_ : kzI a1) (a2 : Int) (_ : kzI a2) (a3 : Int) (_ : kzI a3), CRu (f' a0 a1 a2 a3) (f a0 (Int32.ofInt a1) (Int32.ofInt a2) (Int32.ofInt a3))) (by intros; exact c_no) (fun _ _ hf a0 a1 ha1 a2 ha2 a3 ha3 => qX6_insert_25B hG hf a0 ha1 ha2 ha3) NN
def Z6_insert (G : kdS) (l0 : Nat) (l1 : Int) (l2 : Int) : kzM → Option (Unit × kzM) :=
  zcv G 6 l0 (Z6_isFull G l0) fun t1 =>
  zcnd (t1 = (0 : Int))
  (zcnd (l1 < (0 : Int))
  (Z6_insert_19 G)
  (zgI G 6 1 l0 fun t2 =>
  zcnd (l1 ≤ t2)
  (zgI G 6 1 l0 fun t3 =>
  Z6_insert_25 G l0 l1 l2 t3)
  (Z6_insert_19 G)))
  (Z6_insert_19 G)
theorem qX6_insert {G : kdS} (hG : kzG G) (l0 : Nat) {l1 : Int} (hl1 : kzI l1) {l2 : Int} (hl2 : kzI l2) : CRu (Z6_insert G l0 l1 l2) (X6_insert G l0 (Int32.ofInt l1) (Int32.ofInt l2)) := by
  unfold Z6_insert X6_insert
  exact c_cv (qX6_isFull hG l0) (fun t1 ht1 => c_cnd (kz_eq ht1 (by unfold kzI; omega) rfl rfl) (c_cnd (kz_lt hl1 (by unfold kzI; omega) rfl rfl) ((qX6_insert_19 hG)) (c_gI rfl (fun t2 ht2 => c_cnd (kz_le hl1 ht2 rfl rfl) (c_gI rfl (fun t3 ht3 => (qX6_insert_25 hG l0 _ hl1 _ hl2 _ ht3))) ((qX6_insert_19 hG))))) ((qX6_insert_19 hG)))
def Z6_add (G : kdS) (l0 : Nat) (l1 : Int) : kzM → Option (Unit × kzM) :=
  zgI G 6 1 l0 fun t1 =>
  zcv G 6 l0 (Z6_insert G l0 t1 l1) fun _ =>
  zrt ()
theorem qX6_add {G : kdS} (hG : kzG G) (l0 : Nat) {l1 : Int} (hl1 : kzI l1) : CRu (Z6_add G l0 l1) (X6_add G l0 (Int32.ofInt l1)) := by
  unfold Z6_add X6_add
  exact c_gI rfl (fun t1 ht1 => c_cv (qX6_insert hG l0 ht1 hl1) (fun _ _ => c_rt trivial rfl))
def Z6_replace_21 (G : kdS) (l3 : Int) : kzM → Option (Int × kzM) :=
  zrt l3
theorem qX6_replace_21 {G : kdS} (hG : kzG G) {l3 : Int} (hl3 : kzI l3) : CRi (Z6_replace_21 G l3) (X6_replace_21 G (Int32.ofInt l3)) := by
  unfold Z6_replace_21 X6_replace_21
  exact c_rt hl3 rfl
def Z6_replace (G : kdS) (l0 : Nat) (l1 : Int) (l2 : Int) : kzM → Option (Int × kzM) :=
  zcv G 6 l0 (Z6_at G l0 l1) fun t1 =>
  zcv G 6 l0 (Z6_has G l0 l1) fun t2 =>
  zcnd (t2 = (0 : Int))
  (Z6_replace_21 G t1)
  (zgR G 6 0 l0 fun t3 =>
  ztI G t3 l1 l2 <|
  Z6_replace_21 G t1)
theorem qX6_replace {G : kdS} (hG : kzG G) (l0 : Nat) {l1 : Int} (hl1 : kzI l1) {l2 : Int} (hl2 : kzI l2) : CRi (Z6_replace G l0 l1 l2) (X6_replace G l0 (Int32.ofInt l1) (Int32.ofInt l2)) := by
  unfold Z6_replace X6_replace
  exact c_cv (qX6_at hG l0 hl1) (fun t1 ht1 => c_cv (qX6_has hG l0 hl1) (fun t2 ht2 => c_cnd (kz_eq ht2 (by unfold kzI; omega) rfl rfl) ((qX6_replace_21 hG ht1)) (c_gR (fun t3 => c_tI hG rfl hl2 rfl ((qX6_replace_21 hG ht1))))))
def Z6_remove_54 (G : kdS) (l2 : Int) : kzM → Option (Int × kzM) :=
  zrt l2
theorem qX6_remove_54 {G : kdS} (hG : kzG G) {l2 : Int} (hl2 : kzI l2) : CRi (Z6_remove_54 G l2) (X6_remove_54 G (Int32.ofInt l2)) := by
  unfold Z6_remove_54 X6_remove_54
  exact c_rt hl2 rfl
def Z6_remove_26B (G : kdS) (k26 : Nat → Int → Int → kzM → Option (Int × kzM)) (l0 : Nat) (l2 : Int) (l3 : Int) : kzM → Option (Int × kzM) :=
  zgI G 6 1 l0 fun t1 =>
  zcnd (t1 ≤ l3)
  (Z6_remove_54 G l2)
  (zgR G 6 0 l0 fun t2 =>
  zgR G 6 0 l0 fun t3 =>
  zaI G t3 (l3 + (1 : Int)) fun t4 =>
  ztI G t2 l3 t4 <|
  zlI (l3 + (1 : Int)) fun t5 =>
  k26 l0 l2 t5)
theorem qX6_remove_26B {G : kdS} (hG : kzG G) {k26' : Nat → Int → Int → kzM → Option (Int × kzM)} {k26 : Nat → Int32 → Int32 → kdM → Option (Int32 × kdM)} (hk26 : ∀ (a0 : Nat) (a1 : Int) (_ : kzI a1) (a2 : Int) (_ : kzI a2), CRi (k26' a0 a1 a2) (k26 a0 (Int32.ofInt a1) (Int32.ofInt a2))) (l0 : Nat) {l2 : Int} (hl2 : kzI l2) {l3 : Int} (hl3 : kzI l3) : CRi (Z6_remove_26B G k26' l0 l2 l3) (X6_remove_26B G k26 l0 (Int32.ofInt l2) (Int32.ofInt l3)) := by
  unfold Z6_remove_26B X6_remove_26B
  exact c_gI rfl (fun t1 ht1 => c_cnd (kz_le ht1 hl3 rfl rfl) ((qX6_remove_54 hG hl2)) (c_gR (fun t2 => c_gR (fun t3 => c_aI hG (kz_add rfl rfl) (fun t4 ht4 => c_tI hG rfl ht4 rfl (c_lI (kz_add rfl rfl) (fun t5 ht5 => (hk26 l0 _ hl2 _ ht5))))))))
def Z6_remove_26 (G : kdS) : Nat → Int → Int → kzM → Option (Int × kzM) := lp (fun _ _ _ _ => none) (Z6_remove_26B G) NN
theorem qX6_remove_26 {G : kdS} (hG : kzG G) : ∀ (a0 : Nat) (a1 : Int) (_ : kzI a1) (a2 : Int) (_ : kzI a2), CRi (Z6_remove_26 G a0 a1 a2) (X6_remove_26 G a0 (Int32.ofInt a1) (Int32.ofInt a2)) :=
  lp_rel (R := fun (f' : Nat → Int → Int → kzM → Option (Int × kzM)) (f : Nat → Int32 → Int32 → kdM → Option (Int32 × kdM)) => ∀ (a0 : Nat) (a1 : Int) (_ : kzI a1) (a2 : Int) (_ : kzI a2), CRi (f' a0 a1 a2) (f a0 (Int32.ofInt a1) (Int32.ofInt a2))) (by intros; exact c_no) (fun _ _ hf a0 a1 ha1 a2 ha2 => qX6_remove_26B hG hf a0 ha1 ha2) NN
def Z6_remove (G : kdS) (l0 : Nat) (l1 : Int) : kzM → Option (Int × kzM) :=
  zcv G 6 l0 (Z6_at G l0 l1) fun t1 =>
  zcv G 6 l0 (Z6_has G l0 l1) fun t2 =>
  zcnd (t2 = (0 : Int))
  (Z6_remove_54 G t1)
  (zgI G 6 1 l0 fun t3 =>
  zlI (t3 - (1 : Int)) fun u1 =>
  zsI G 6 1 l0 u1 <|
  Z6_remove_26 G l0 t1 l1)
theorem qX6_remove {G : kdS} (hG : kzG G) (l0 : Nat) {l1 : Int} (hl1 : kzI l1) : CRi (Z6_remove G l0 l1) (X6_remove G l0 (Int32.ofInt l1)) := by
  unfold Z6_remove X6_remove
  exact c_cv (qX6_at hG l0 hl1) (fun t1 ht1 => c_cv (qX6_has hG l0 hl1) (fun t2 ht2 => c_cnd (kz_eq ht2 (by unfold kzI; omega) rfl rfl) ((qX6_remove_54 hG ht1)) (c_gI rfl (fun t3 ht3 => c_rg (kz_sub rfl rfl) fun u1 r1 e1 => c_sI rfl r1 e1 ((qX6_remove_26 hG l0 _ ht1 _ hl1))))))
def Z6_clear (G : kdS) (l0 : Nat) : kzM → Option (Int × kzM) :=
  zgI G 6 1 l0 fun t1 =>
  zsI G 6 1 l0 (0 : Int) <|
  zrt t1
theorem qX6_clear {G : kdS} (hG : kzG G) (l0 : Nat) : CRi (Z6_clear G l0) (X6_clear G l0) := by
  unfold Z6_clear X6_clear
  exact c_gI rfl (fun t1 ht1 => c_sI rfl (by unfold kzI; omega) rfl (c_rt ht1 rfl))
def Z6_copy_7B (G : kdS) (k7 : Nat → Nat → Int → kzM → Option (Unit × kzM)) (l0 : Nat) (l1 : Nat) (l2 : Int) : kzM → Option (Unit × kzM) :=
  zgI G 6 1 l1 fun t1 =>
  zcnd (t1 ≤ l2)
  (zrt ())
  (zgR G 6 0 l1 fun t2 =>
  zaI G t2 l2 fun t3 =>
  zcv G 6 l0 (Z6_add G l0 t3) fun _ =>
  zlI (l2 + (1 : Int)) fun t4 =>
  k7 l0 l1 t4)
theorem qX6_copy_7B {G : kdS} (hG : kzG G) {k7' : Nat → Nat → Int → kzM → Option (Unit × kzM)} {k7 : Nat → Nat → Int32 → kdM → Option (Unit × kdM)} (hk7 : ∀ (a0 : Nat) (a1 : Nat) (a2 : Int) (_ : kzI a2), CRu (k7' a0 a1 a2) (k7 a0 a1 (Int32.ofInt a2))) (l0 : Nat) (l1 : Nat) {l2 : Int} (hl2 : kzI l2) : CRu (Z6_copy_7B G k7' l0 l1 l2) (X6_copy_7B G k7 l0 l1 (Int32.ofInt l2)) := by
  unfold Z6_copy_7B X6_copy_7B
  exact c_gI rfl (fun t1 ht1 => c_cnd (kz_le ht1 hl2 rfl rfl) (c_rt trivial rfl) (c_gR (fun t2 => c_aI hG rfl (fun t3 ht3 => c_cv (qX6_add hG l0 ht3) (fun _ _ => c_lI (kz_add rfl rfl) (fun t4 ht4 => (hk7 l0 l1 _ ht4)))))))
def Z6_copy_7 (G : kdS) : Nat → Nat → Int → kzM → Option (Unit × kzM) := lp (fun _ _ _ _ => none) (Z6_copy_7B G) NN
theorem qX6_copy_7 {G : kdS} (hG : kzG G) : ∀ (a0 : Nat) (a1 : Nat) (a2 : Int) (_ : kzI a2), CRu (Z6_copy_7 G a0 a1 a2) (X6_copy_7 G a0 a1 (Int32.ofInt a2)) :=
  lp_rel (R := fun (f' : Nat → Nat → Int → kzM → Option (Unit × kzM)) (f : Nat → Nat → Int32 → kdM → Option (Unit × kdM)) => ∀ (a0 : Nat) (a1 : Nat) (a2 : Int) (_ : kzI a2), CRu (f' a0 a1 a2) (f a0 a1 (Int32.ofInt a2))) (by intros; exact c_no) (fun _ _ hf a0 a1 a2 ha2 => qX6_copy_7B hG hf a0 a1 ha2) NN
def Z6_copy (G : kdS) (l0 : Nat) (l1 : Nat) : kzM → Option (Unit × kzM) :=
  zcv G 6 l0 (Z6_clear G l0) fun t1 =>
  Z6_copy_7 G l0 l1 (0 : Int)
theorem qX6_copy {G : kdS} (hG : kzG G) (l0 : Nat) (l1 : Nat) : CRu (Z6_copy G l0 l1) (X6_copy G l0 l1) := by
  unfold Z6_copy X6_copy
  exact c_cv (qX6_clear hG l0) (fun t1 ht1 => (qX6_copy_7 hG l0 l1 _ (by unfold kzI; omega)))
def Z6_agrees_22 (G : kdS) : kzM → Option (Int × kzM) :=
  zrt (zB (0 : Int))
theorem qX6_agrees_22 {G : kdS} (hG : kzG G) : CRi (Z6_agrees_22 G) (X6_agrees_22 G) := by
  unfold Z6_agrees_22 X6_agrees_22
  exact c_rt (kz_BI _) (kz_B rfl)
def Z6_agrees_27B (G : kdS) (k27 : Nat → Nat → Int → Int → Int → kzM → Option (Int × kzM)) (l0 : Nat) (l1 : Nat) (l2 : Int) (l3 : Int) (l4 : Int) : kzM → Option (Int × kzM) :=
  zcnd (l3 ≤ l4)
  (zrt (zB (1 : Int)))
  (zgR G 6 0 l0 fun t1 =>
  zaI G t1 l4 fun t2 =>
  zgR G 6 0 l1 fun t3 =>
  zaI G t3 (l2 + l4) fun t4 =>
  zcnd (t2 = t4)
  (zlI (l4 + (1 : Int)) fun t5 =>
  k27 l0 l1 l2 l3 t5)
  (zrt (zB (0 : Int))))
theorem qX6_agrees_27B {G : kdS} (hG : kzG G) {k27' : Nat → Nat → Int → Int → Int → kzM → Option (Int × kzM)} {k27 : Nat → Nat → Int32 → Int32 → Int32 → kdM → Option (Int32 × kdM)} (hk27 : ∀ (a0 : Nat) (a1 : Nat) (a2 : Int) (_ : kzI a2) (a3 : Int) (_ : kzI a3) (a4 : Int) (_ : kzI a4), CRi (k27' a0 a1 a2 a3 a4) (k27 a0 a1 (Int32.ofInt a2) (Int32.ofInt a3) (Int32.ofInt a4))) (l0 : Nat) (l1 : Nat) {l2 : Int} (hl2 : kzI l2) {l3 : Int} (hl3 : kzI l3) {l4 : Int} (hl4 : kzI l4) : CRi (Z6_agrees_27B G k27' l0 l1 l2 l3 l4) (X6_agrees_27B G k27 l0 l1 (Int32.ofInt l2) (Int32.ofInt l3) (Int32.ofInt l4)) := by
  unfold Z6_agrees_27B X6_agrees_27B
  exact c_cnd (kz_le hl3 hl4 rfl rfl) (c_rt (kz_BI _) (kz_B rfl)) (c_gR (fun t1 => c_aI hG rfl (fun t2 ht2 => c_gR (fun t3 => c_aI hG (kz_add rfl rfl) (fun t4 ht4 => c_cnd (kz_eq ht2 ht4 rfl rfl) (c_lI (kz_add rfl rfl) (fun t5 ht5 => (hk27 l0 l1 _ hl2 _ hl3 _ ht5))) (c_rt (kz_BI _) (kz_B rfl)))))))
def Z6_agrees_27 (G : kdS) : Nat → Nat → Int → Int → Int → kzM → Option (Int × kzM) := lp (fun _ _ _ _ _ _ => none) (Z6_agrees_27B G) NN
theorem qX6_agrees_27 {G : kdS} (hG : kzG G) : ∀ (a0 : Nat) (a1 : Nat) (a2 : Int) (_ : kzI a2) (a3 : Int) (_ : kzI a3) (a4 : Int) (_ : kzI a4), CRi (Z6_agrees_27 G a0 a1 a2 a3 a4) (X6_agrees_27 G a0 a1 (Int32.ofInt a2) (Int32.ofInt a3) (Int32.ofInt a4)) :=
  lp_rel (R := fun (f' : Nat → Nat → Int → Int → Int → kzM → Option (Int × kzM)) (f : Nat → Nat → Int32 → Int32 → Int32 → kdM → Option (Int32 × kdM)) => ∀ (a0 : Nat) (a1 : Nat) (a2 : Int) (_ : kzI a2) (a3 : Int) (_ : kzI a3) (a4 : Int) (_ : kzI a4), CRi (f' a0 a1 a2 a3 a4) (f a0 a1 (Int32.ofInt a2) (Int32.ofInt a3) (Int32.ofInt a4))) (by intros; exact c_no) (fun _ _ hf a0 a1 a2 ha2 a3 ha3 a4 ha4 => qX6_agrees_27B hG hf a0 a1 ha2 ha3 ha4) NN
def Z6_agrees (G : kdS) (l0 : Nat) (l1 : Nat) (l2 : Int) (l3 : Int) : kzM → Option (Int × kzM) :=
  zgI G 6 1 l0 fun t1 =>
  zcnd (t1 < l3)
  (Z6_agrees_22 G)
  (zcnd (l2 < (0 : Int))
  (Z6_agrees_22 G)
  (zgI G 6 1 l1 fun t2 =>
  zlI (t2 - l2) fun u1 =>
  zcnd (l3 ≤ u1)
  (Z6_agrees_27 G l0 l1 l2 l3 (0 : Int))
  (Z6_agrees_22 G)))
theorem qX6_agrees {G : kdS} (hG : kzG G) (l0 : Nat) (l1 : Nat) {l2 : Int} (hl2 : kzI l2) {l3 : Int} (hl3 : kzI l3) : CRi (Z6_agrees G l0 l1 l2 l3) (X6_agrees G l0 l1 (Int32.ofInt l2) (Int32.ofInt l3)) := by
  unfold Z6_agrees X6_agrees
  exact c_gI rfl (fun t1 ht1 => c_cnd (kz_lt ht1 hl3 rfl rfl) ((qX6_agrees_22 hG)) (c_cnd (kz_lt hl2 (by unfold kzI; omega) rfl rfl) ((qX6_agrees_22 hG)) (c_gI rfl (fun t2 ht2 => c_rg (kz_sub rfl rfl) fun u1 r1 e1 => c_cnd (kz_le hl3 r1 rfl e1) ((qX6_agrees_27 hG l0 l1 _ hl2 _ hl3 _ (by unfold kzI; omega))) ((qX6_agrees_22 hG))))))
def Z6_isLike_29 (G : kdS) (s0 : Int) : kzM → Option (Int × kzM) :=
  zrt (zB s0)
theorem qX6_isLike_29 {G : kdS} (hG : kzG G) {s0 : Int} (hs0 : kzI s0) : CRi (Z6_isLike_29 G s0) (X6_isLike_29 G (Int32.ofInt s0)) := by
  unfold Z6_isLike_29 X6_isLike_29
  exact c_rt (kz_BI _) (kz_B rfl)
def Z6_isLike_28 (G : kdS) : kzM → Option (Int × kzM) :=
  Z6_isLike_29 G (0 : Int)
theorem qX6_isLike_28 {G : kdS} (hG : kzG G) : CRi (Z6_isLike_28 G) (X6_isLike_28 G) := by
  unfold Z6_isLike_28 X6_isLike_28
  exact (qX6_isLike_29 hG (by unfold kzI; omega))
def Z6_isLike (G : kdS) (l0 : Nat) (l1 : Nat) : kzM → Option (Int × kzM) :=
  zgI G 6 1 l0 fun t1 =>
  zgI G 6 1 l1 fun t2 =>
  zcnd (t1 = t2)
  (zgI G 6 1 l0 fun t3 =>
  zcv G 6 l0 (Z6_agrees G l0 l1 (0 : Int) t3) fun t4 =>
  zcnd (t4 = (0 : Int))
  (Z6_isLike_28 G)
  (Z6_isLike_29 G (1 : Int)))
  (Z6_isLike_28 G)
theorem qX6_isLike {G : kdS} (hG : kzG G) (l0 : Nat) (l1 : Nat) : CRi (Z6_isLike G l0 l1) (X6_isLike G l0 l1) := by
  unfold Z6_isLike X6_isLike
  exact c_gI rfl (fun t1 ht1 => c_gI rfl (fun t2 ht2 => c_cnd (kz_eq ht1 ht2 rfl rfl) (c_gI rfl (fun t3 ht3 => c_cv (qX6_agrees hG l0 l1 (by unfold kzI; omega) ht3) (fun t4 ht4 => c_cnd (kz_eq ht4 (by unfold kzI; omega) rfl rfl) ((qX6_isLike_28 hG)) ((qX6_isLike_29 hG (by unfold kzI; omega)))))) ((qX6_isLike_28 hG))))
def Z8_rules (G : kdS) (l0 : Nat) : kzM → Option (Int × kzM) :=
  zgI G 8 2 l0 fun t1 =>
  zrt t1
theorem qX8_rules {G : kdS} (hG : kzG G) (l0 : Nat) : CRi (Z8_rules G l0) (X8_rules G l0) := by
  unfold Z8_rules X8_rules
  exact c_gI rfl (fun t1 ht1 => c_rt ht1 rfl)
def Z8_joins (G : kdS) (l0 : Nat) : kzM → Option (Int × kzM) :=
  zgR G 8 5 l0 fun t1 =>
  zcv G 6 t1 (Z6_size G t1) fun t2 =>
  zrt t2
theorem qX8_joins {G : kdS} (hG : kzG G) (l0 : Nat) : CRi (Z8_joins G l0) (X8_joins G l0) := by
  unfold Z8_joins X8_joins
  exact c_gR (fun t1 => c_cv (qX6_size hG t1) (fun t2 ht2 => c_rt ht2 rfl))
def Z8_isFullOfRules_14 (G : kdS) (s0 : Int) : kzM → Option (Int × kzM) :=
  zrt (zB s0)
theorem qX8_isFullOfRules_14 {G : kdS} (hG : kzG G) {s0 : Int} (hs0 : kzI s0) : CRi (Z8_isFullOfRules_14 G s0) (X8_isFullOfRules_14 G (Int32.ofInt s0)) := by
  unfold Z8_isFullOfRules_14 X8_isFullOfRules_14
  exact c_rt (kz_BI _) (kz_B rfl)
def Z8_isFullOfRules (G : kdS) (l0 : Nat) : kzM → Option (Int × kzM) :=
  zgI G 8 2 l0 fun t1 =>
  zcnd (t1 < (24 : Int))
  (Z8_isFullOfRules_14 G (0 : Int))
  (Z8_isFullOfRules_14 G (1 : Int))
theorem qX8_isFullOfRules {G : kdS} (hG : kzG G) (l0 : Nat) : CRi (Z8_isFullOfRules G l0) (X8_isFullOfRules G l0) := by
  unfold Z8_isFullOfRules X8_isFullOfRules
  exact c_gI rfl (fun t1 ht1 => c_cnd (kz_lt ht1 (by unfold kzI; omega) rfl rfl) ((qX8_isFullOfRules_14 hG (by unfold kzI; omega))) ((qX8_isFullOfRules_14 hG (by unfold kzI; omega))))
def Z8_isFullOfJoins (G : kdS) (l0 : Nat) : kzM → Option (Int × kzM) :=
  zgR G 8 5 l0 fun t1 =>
  zcv G 6 t1 (Z6_isFull G t1) fun t2 =>
  zrt (zB t2)
theorem qX8_isFullOfJoins {G : kdS} (hG : kzG G) (l0 : Nat) : CRi (Z8_isFullOfJoins G l0) (X8_isFullOfJoins G l0) := by
  unfold Z8_isFullOfJoins X8_isFullOfJoins
  exact c_gR (fun t1 => c_cv (qX6_isFull hG t1) (fun t2 ht2 => c_rt (kz_BI _) (kz_B rfl)))
def Z8_keysOfRule (G : kdS) (l0 : Nat) (l1 : Int) : kzM → Option (Nat × kzM) :=
  zgR G 8 0 l0 fun t1 =>
  zaR G 16 t1 l1 fun t2 =>
  zrt t2
theorem qX8_keysOfRule {G : kdS} (hG : kzG G) (l0 : Nat) {l1 : Int} (hl1 : kzI l1) : CRn (Z8_keysOfRule G l0 l1) (X8_keysOfRule G l0 (Int32.ofInt l1)) := by
  unfold Z8_keysOfRule X8_keysOfRule
  exact c_gR (fun t1 => c_aR hG rfl (fun t2 => c_rt trivial rfl))
def Z8_lettersOfRule (G : kdS) (l0 : Nat) (l1 : Int) : kzM → Option (Nat × kzM) :=
  zgR G 8 1 l0 fun t1 =>
  zaR G 16 t1 l1 fun t2 =>
  zrt t2
theorem qX8_lettersOfRule {G : kdS} (hG : kzG G) (l0 : Nat) {l1 : Int} (hl1 : kzI l1) : CRn (Z8_lettersOfRule G l0 l1) (X8_lettersOfRule G l0 (Int32.ofInt l1)) := by
  unfold Z8_lettersOfRule X8_lettersOfRule
  exact c_gR (fun t1 => c_aR hG rfl (fun t2 => c_rt trivial rfl))
def Z8_addRule (G : kdS) (l0 : Nat) (l1 : Nat) (l2 : Nat) : kzM → Option (Int × kzM) :=
  zcv G 8 l0 (Z8_isFullOfRules G l0) fun t1 =>
  zcnd (t1 = (0 : Int))
  (zgR G 8 0 l0 fun t2 =>
  zgI G 8 2 l0 fun t3 =>
  zaR G 16 t2 t3 fun t4 =>
  zcv G 6 t4 (Z6_copy G t4 l1) fun _ =>
  zgR G 8 1 l0 fun t5 =>
  zgI G 8 2 l0 fun t6 =>
  zaR G 16 t5 t6 fun t7 =>
  zcv G 6 t7 (Z6_copy G t7 l2) fun _ =>
  zgI G 8 2 l0 fun t8 =>
  zlI (t8 + (1 : Int)) fun u1 =>
  zsI G 8 2 l0 u1 <|
  zgI G 8 2 l0 fun t9 =>
  zlI (t9 - (1 : Int)) fun u2 =>
  zrt u2)
  (zrt (-4 : Int))
theorem qX8_addRule {G : kdS} (hG : kzG G) (l0 : Nat) (l1 : Nat) (l2 : Nat) : CRi (Z8_addRule G l0 l1 l2) (X8_addRule G l0 l1 l2) := by
  unfold Z8_addRule X8_addRule
  exact c_cv (qX8_isFullOfRules hG l0) (fun t1 ht1 => c_cnd (kz_eq ht1 (by unfold kzI; omega) rfl rfl) (c_gR (fun t2 => c_gI rfl (fun t3 ht3 => c_aR hG rfl (fun t4 => c_cv (qX6_copy hG t4 l1) (fun _ _ => c_gR (fun t5 => c_gI rfl (fun t6 ht6 => c_aR hG rfl (fun t7 => c_cv (qX6_copy hG t7 l2) (fun _ _ => c_gI rfl (fun t8 ht8 => c_rg (kz_add rfl rfl) fun u1 r1 e1 => c_sI rfl r1 e1 (c_gI rfl (fun t9 ht9 => c_rg (kz_sub rfl rfl) fun u2 r2 e2 => c_rt r2 e2)))))))))))) (c_rt (by unfold kzI; omega) rfl))
def Z8_addJoin (G : kdS) (l0 : Nat) (l1 : Int) (l2 : Int) (l3 : Int) : kzM → Option (Int × kzM) :=
  zgR G 8 3 l0 fun t1 =>
  zcv G 6 t1 (Z6_add G t1 l1) fun _ =>
  zgR G 8 4 l0 fun t2 =>
  zcv G 6 t2 (Z6_add G t2 l2) fun _ =>
  zgR G 8 5 l0 fun t3 =>
  zcv G 6 t3 (Z6_add G t3 l3) fun _ =>
  zgR G 8 5 l0 fun t4 =>
  zcv G 6 t4 (Z6_size G t4) fun t5 =>
  zrt t5
theorem qX8_addJoin {G : kdS} (hG : kzG G) (l0 : Nat) {l1 : Int} (hl1 : kzI l1) {l2 : Int} (hl2 : kzI l2) {l3 : Int} (hl3 : kzI l3) : CRi (Z8_addJoin G l0 l1 l2 l3) (X8_addJoin G l0 (Int32.ofInt l1) (Int32.ofInt l2) (Int32.ofInt l3)) := by
  unfold Z8_addJoin X8_addJoin
  exact c_gR (fun t1 => c_cv (qX6_add hG t1 hl1) (fun _ _ => c_gR (fun t2 => c_cv (qX6_add hG t2 hl2) (fun _ _ => c_gR (fun t3 => c_cv (qX6_add hG t3 hl3) (fun _ _ => c_gR (fun t4 => c_cv (qX6_size hG t4) (fun t5 ht5 => c_rt ht5 rfl))))))))
def Z8_setLetter (G : kdS) (l0 : Nat) (l1 : Int) (l2 : Int) : kzM → Option (Int × kzM) :=
  zgR G 8 6 l0 fun t1 =>
  zaZ G t1 l1 fun t2 =>
  zgR G 8 6 l0 fun t3 =>
  ztZ G t3 l1 l2 <|
  zrt (zB t2)
theorem qX8_setLetter {G : kdS} (hG : kzG G) (l0 : Nat) {l1 : Int} (hl1 : kzI l1) {l2 : Int} (hl2 : kzI l2) : CRi (Z8_setLetter G l0 l1 l2) (X8_setLetter G l0 (Int32.ofInt l1) (Int32.ofInt l2)) := by
  unfold Z8_setLetter X8_setLetter
  exact c_gR (fun t1 => c_aZ hG rfl (fun t2 ht2 => c_gR (fun t3 => c_tZ hG rfl rfl (c_rt (kz_BI _) (kz_B rfl)))))
def Z8_joined_46 (G : kdS) (k2 : Nat → Int → Int → Int → kzM → Option (Int × kzM)) (l0 : Nat) (l1 : Int) (l2 : Int) (l3 : Int) : kzM → Option (Int × kzM) :=
  zlI (l3 + (1 : Int)) fun t1 =>
  k2 l0 l1 l2 t1
theorem qX8_joined_46 {G : kdS} (hG : kzG G) {k2' : Nat → Int → Int → Int → kzM → Option (Int × kzM)} {k2 : Nat → Int32 → Int32 → Int32 → kdM → Option (Int32 × kdM)} (hk2 : ∀ (a0 : Nat) (a1 : Int) (_ : kzI a1) (a2 : Int) (_ : kzI a2) (a3 : Int) (_ : kzI a3), CRi (k2' a0 a1 a2 a3) (k2 a0 (Int32.ofInt a1) (Int32.ofInt a2) (Int32.ofInt a3))) (l0 : Nat) {l1 : Int} (hl1 : kzI l1) {l2 : Int} (hl2 : kzI l2) {l3 : Int} (hl3 : kzI l3) : CRi (Z8_joined_46 G k2' l0 l1 l2 l3) (X8_joined_46 G k2 l0 (Int32.ofInt l1) (Int32.ofInt l2) (Int32.ofInt l3)) := by
  unfold Z8_joined_46 X8_joined_46
  exact c_lI (kz_add rfl rfl) (fun t1 ht1 => (hk2 l0 _ hl1 _ hl2 _ ht1))
def Z8_joined_2B (G : kdS) (k2 : Nat → Int → Int → Int → kzM → Option (Int × kzM)) (l0 : Nat) (l1 : Int) (l2 : Int) (l3 : Int) : kzM → Option (Int × kzM) :=
  zgR G 8 5 l0 fun t1 =>
  zcv G 6 t1 (Z6_size G t1) fun t2 =>
  zcnd (t2 ≤ l3)
  (zrt (0 : Int))
  (zgR G 8 3 l0 fun t3 =>
  zcv G 6 t3 (Z6_at G t3 l3) fun t4 =>
  zcnd (t4 = l1)
  (zgR G 8 4 l0 fun t5 =>
  zcv G 6 t5 (Z6_at G t5 l3) fun t6 =>
  zcnd (t6 = l2)
  (zgR G 8 5 l0 fun t7 =>
  zcv G 6 t7 (Z6_at G t7 l3) fun t8 =>
  zrt t8)
  (Z8_joined_46 G k2 l0 l1 l2 l3))
  (Z8_joined_46 G k2 l0 l1 l2 l3))
theorem qX8_joined_2B {G : kdS} (hG : kzG G) {k2' : Nat → Int → Int → Int → kzM → Option (Int × kzM)} {k2 : Nat → Int32 → Int32 → Int32 → kdM → Option (Int32 × kdM)} (hk2 : ∀ (a0 : Nat) (a1 : Int) (_ : kzI a1) (a2 : Int) (_ : kzI a2) (a3 : Int) (_ : kzI a3), CRi (k2' a0 a1 a2 a3) (k2 a0 (Int32.ofInt a1) (Int32.ofInt a2) (Int32.ofInt a3))) (l0 : Nat) {l1 : Int} (hl1 : kzI l1) {l2 : Int} (hl2 : kzI l2) {l3 : Int} (hl3 : kzI l3) : CRi (Z8_joined_2B G k2' l0 l1 l2 l3) (X8_joined_2B G k2 l0 (Int32.ofInt l1) (Int32.ofInt l2) (Int32.ofInt l3)) := by
  unfold Z8_joined_2B X8_joined_2B
  exact c_gR (fun t1 => c_cv (qX6_size hG t1) (fun t2 ht2 => c_cnd (kz_le ht2 hl3 rfl rfl) (c_rt (by unfold kzI; omega) rfl) (c_gR (fun t3 => c_cv (qX6_at hG t3 hl3) (fun t4 ht4 => c_cnd (kz_eq ht4 hl1 rfl rfl) (c_gR (fun t5 => c_cv (qX6_at hG t5 hl3) (fun t6 ht6 => c_cnd (kz_eq ht6 hl2 rfl rfl) (c_gR (fun t7 => c_cv (qX6_at hG t7 hl3) (fun t8 ht8 => c_rt ht8 rfl))) ((qX8_joined_46 hG hk2 l0 hl1 hl2 hl3))))) ((qX8_joined_46 hG hk2 l0 hl1 hl2 hl3)))))))
def Z8_joined_2 (G : kdS) : Nat → Int → Int → Int → kzM → Option (Int × kzM) := lp (fun _ _ _ _ _ => none) (Z8_joined_2B G) NN
theorem qX8_joined_2 {G : kdS} (hG : kzG G) : ∀ (a0 : Nat) (a1 : Int) (_ : kzI a1) (a2 : Int) (_ : kzI a2) (a3 : Int) (_ : kzI a3), CRi (Z8_joined_2 G a0 a1 a2 a3) (X8_joined_2 G a0 (Int32.ofInt a1) (Int32.ofInt a2) (Int32.ofInt a3)) :=
  lp_rel (R := fun (f' : Nat → Int → Int → Int → kzM → Option (Int × kzM)) (f : Nat → Int32 → Int32 → Int32 → kdM → Option (Int32 × kdM)) => ∀ (a0 : Nat) (a1 : Int) (_ : kzI a1) (a2 : Int) (_ : kzI a2) (a3 : Int) (_ : kzI a3), CRi (f' a0 a1 a2 a3) (f a0 (Int32.ofInt a1) (Int32.ofInt a2) (Int32.ofInt a3))) (by intros; exact c_no) (fun _ _ hf a0 a1 ha1 a2 ha2 a3 ha3 => qX8_joined_2B hG hf a0 ha1 ha2 ha3) NN
def Z8_joined (G : kdS) (l0 : Nat) (l1 : Int) (l2 : Int) : kzM → Option (Int × kzM) :=
  Z8_joined_2 G l0 l1 l2 (0 : Int)
theorem qX8_joined {G : kdS} (hG : kzG G) (l0 : Nat) {l1 : Int} (hl1 : kzI l1) {l2 : Int} (hl2 : kzI l2) : CRi (Z8_joined G l0 l1 l2) (X8_joined G l0 (Int32.ofInt l1) (Int32.ofInt l2)) := by
  unfold Z8_joined X8_joined
  exact (qX8_joined_2 hG l0 _ hl1 _ hl2 _ (by unfold kzI; omega))
def Z8_longestRule_61 (G : kdS) (k8 : Nat → Nat → Int → Int → Int → Int → kzM → Option (Int × kzM)) (l0 : Nat) (l1 : Nat) (l2 : Int) (l3 : Int) (l4 : Int) (l5 : Int) : kzM → Option (Int × kzM) :=
  zlI (l5 + (1 : Int)) fun t1 =>
  k8 l0 l1 l2 l3 l4 t1
theorem qX8_longestRule_61 {G : kdS} (hG : kzG G) {k8' : Nat → Nat → Int → Int → Int → Int → kzM → Option (Int × kzM)} {k8 : Nat → Nat → Int32 → Int32 → Int32 → Int32 → kdM → Option (Int32 × kdM)} (hk8 : ∀ (a0 : Nat) (a1 : Nat) (a2 : Int) (_ : kzI a2) (a3 : Int) (_ : kzI a3) (a4 : Int) (_ : kzI a4) (a5 : Int) (_ : kzI a5), CRi (k8' a0 a1 a2 a3 a4 a5) (k8 a0 a1 (Int32.ofInt a2) (Int32.ofInt a3) (Int32.ofInt a4) (Int32.ofInt a5))) (l0 : Nat) (l1 : Nat) {l2 : Int} (hl2 : kzI l2) {l3 : Int} (hl3 : kzI l3) {l4 : Int} (hl4 : kzI l4) {l5 : Int} (hl5 : kzI l5) : CRi (Z8_longestRule_61 G k8' l0 l1 l2 l3 l4 l5) (X8_longestRule_61 G k8 l0 l1 (Int32.ofInt l2) (Int32.ofInt l3) (Int32.ofInt l4) (Int32.ofInt l5)) := by
  unfold Z8_longestRule_61 X8_longestRule_61
  exact c_lI (kz_add rfl rfl) (fun t1 ht1 => (hk8 l0 l1 _ hl2 _ hl3 _ hl4 _ ht1))
def Z8_longestRule_8B (G : kdS) (k8 : Nat → Nat → Int → Int → Int → Int → kzM → Option (Int × kzM)) (l0 : Nat) (l1 : Nat) (l2 : Int) (l3 : Int) (l4 : Int) (l5 : Int) : kzM → Option (Int × kzM) :=
  zgI G 8 2 l0 fun t1 =>
  zcnd (t1 ≤ l5)
  (zrt l3)
  (zgR G 8 0 l0 fun t2 =>
  zaR G 16 t2 l5 fun t3 =>
  zcv G 6 t3 (Z6_size G t3) fun t4 =>
  zcnd (t4 ≤ l4)
  (Z8_longestRule_61 G k8 l0 l1 l2 l3 l4 l5)
  (zcv G 6 t3 (Z6_size G t3) fun t5 =>
  zcv G 6 t3 (Z6_agrees G t3 l1 l2 t5) fun t6 =>
  zcnd (t6 = (0 : Int))
  (Z8_longestRule_61 G k8 l0 l1 l2 l3 l4 l5)
  (zcv G 6 t3 (Z6_size G t3) fun t7 =>
  Z8_longestRule_61 G k8 l0 l1 l2 l5 t7 l5)))
theorem qX8_longestRule_8B {G : kdS} (hG : kzG G) {k8' : Nat → Nat → Int → Int → Int → Int → kzM → Option (Int × kzM)} {k8 : Nat → Nat → Int32 → Int32 → Int32 → Int32 → kdM → Option (Int32 × kdM)} (hk8 : ∀ (a0 : Nat) (a1 : Nat) (a2 : Int) (_ : kzI a2) (a3 : Int) (_ : kzI a3) (a4 : Int) (_ : kzI a4) (a5 : Int) (_ : kzI a5), CRi (k8' a0 a1 a2 a3 a4 a5) (k8 a0 a1 (Int32.ofInt a2) (Int32.ofInt a3) (Int32.ofInt a4) (Int32.ofInt a5))) (l0 : Nat) (l1 : Nat) {l2 : Int} (hl2 : kzI l2) {l3 : Int} (hl3 : kzI l3) {l4 : Int} (hl4 : kzI l4) {l5 : Int} (hl5 : kzI l5) : CRi (Z8_longestRule_8B G k8' l0 l1 l2 l3 l4 l5) (X8_longestRule_8B G k8 l0 l1 (Int32.ofInt l2) (Int32.ofInt l3) (Int32.ofInt l4) (Int32.ofInt l5)) := by
  unfold Z8_longestRule_8B X8_longestRule_8B
  exact c_gI rfl (fun t1 ht1 => c_cnd (kz_le ht1 hl5 rfl rfl) (c_rt hl3 rfl) (c_gR (fun t2 => c_aR hG rfl (fun t3 => c_cv (qX6_size hG t3) (fun t4 ht4 => c_cnd (kz_le ht4 hl4 rfl rfl) ((qX8_longestRule_61 hG hk8 l0 l1 hl2 hl3 hl4 hl5)) (c_cv (qX6_size hG t3) (fun t5 ht5 => c_cv (qX6_agrees hG t3 l1 hl2 ht5) (fun t6 ht6 => c_cnd (kz_eq ht6 (by unfold kzI; omega) rfl rfl) ((qX8_longestRule_61 hG hk8 l0 l1 hl2 hl3 hl4 hl5)) (c_cv (qX6_size hG t3) (fun t7 ht7 => (qX8_longestRule_61 hG hk8 l0 l1 hl2 hl5 ht7 hl5)))))))))))
def Z8_longestRule_8 (G : kdS) : Nat → Nat → Int → Int → Int → Int → kzM → Option (Int × kzM) := lp (fun _ _ _ _ _ _ _ => none) (Z8_longestRule_8B G) NN
theorem qX8_longestRule_8 {G : kdS} (hG : kzG G) : ∀ (a0 : Nat) (a1 : Nat) (a2 : Int) (_ : kzI a2) (a3 : Int) (_ : kzI a3) (a4 : Int) (_ : kzI a4) (a5 : Int) (_ : kzI a5), CRi (Z8_longestRule_8 G a0 a1 a2 a3 a4 a5) (X8_longestRule_8 G a0 a1 (Int32.ofInt a2) (Int32.ofInt a3) (Int32.ofInt a4) (Int32.ofInt a5)) :=
  lp_rel (R := fun (f' : Nat → Nat → Int → Int → Int → Int → kzM → Option (Int × kzM)) (f : Nat → Nat → Int32 → Int32 → Int32 → Int32 → kdM → Option (Int32 × kdM)) => ∀ (a0 : Nat) (a1 : Nat) (a2 : Int) (_ : kzI a2) (a3 : Int) (_ : kzI a3) (a4 : Int) (_ : kzI a4) (a5 : Int) (_ : kzI a5), CRi (f' a0 a1 a2 a3 a4 a5) (f a0 a1 (Int32.ofInt a2) (Int32.ofInt a3) (Int32.ofInt a4) (Int32.ofInt a5))) (by intros; exact c_no) (fun _ _ hf a0 a1 a2 ha2 a3 ha3 a4 ha4 a5 ha5 => qX8_longestRule_8B hG hf a0 a1 ha2 ha3 ha4 ha5) NN
def Z8_longestRule (G : kdS) (l0 : Nat) (l1 : Nat) (l2 : Int) : kzM → Option (Int × kzM) :=
  Z8_longestRule_8 G l0 l1 l2 (-1 : Int) (0 : Int) (0 : Int)
theorem qX8_longestRule {G : kdS} (hG : kzG G) (l0 : Nat) (l1 : Nat) {l2 : Int} (hl2 : kzI l2) : CRi (Z8_longestRule G l0 l1 l2) (X8_longestRule G l0 l1 (Int32.ofInt l2)) := by
  unfold Z8_longestRule X8_longestRule
  exact (qX8_longestRule_8 hG l0 l1 _ hl2 _ (by unfold kzI; omega) _ (by unfold kzI; omega) _ (by unfold kzI; omega))
def Z8_keysBehind_64 (G : kdS) (k13 : Nat → Nat → Int → Int → Int → Int → kzM → Option (Int × kzM)) (l0 : Nat) (l1 : Nat) (l2 : Int) (l3 : Int) (l4 : Int) (l5 : Int) : kzM → Option (Int × kzM) :=
  zlI (l5 + (1 : Int)) fun t1 =>
  k13 l0 l1 l2 l3 l4 t1
theorem qX8_keysBehind_64 {G : kdS} (hG : kzG G) {k13' : Nat → Nat → Int → Int → Int → Int → kzM → Option (Int × kzM)} {k13 : Nat → Nat → Int32 → Int32 → Int32 → Int32 → kdM → Option (Int32 × kdM)} (hk13 : ∀ (a0 : Nat) (a1 : Nat) (a2 : Int) (_ : kzI a2) (a3 : Int) (_ : kzI a3) (a4 : Int) (_ : kzI a4) (a5 : Int) (_ : kzI a5), CRi (k13' a0 a1 a2 a3 a4 a5) (k13 a0 a1 (Int32.ofInt a2) (Int32.ofInt a3) (Int32.ofInt a4) (Int32.ofInt a5))) (l0 : Nat) (l1 : Nat) {l2 : Int} (hl2 : kzI l2) {l3 : Int} (hl3 : kzI l3) {l4 : Int} (hl4 : kzI l4) {l5 : Int} (hl5 : kzI l5) : CRi (Z8_keysBehind_64 G k13' l0 l1 l2 l3 l4 l5) (X8_keysBehind_64 G k13 l0 l1 (Int32.ofInt l2) (Int32.ofInt l3) (Int32.ofInt l4) (Int32.ofInt l5)) := by
  unfold Z8_keysBehind_64 X8_keysBehind_64
  exact c_lI (kz_add rfl rfl) (fun t1 ht1 => (hk13 l0 l1 _ hl2 _ hl3 _ hl4 _ ht1))
def Z8_keysBehind_13B (G : kdS) (k13 : Nat → Nat → Int → Int → Int → Int → kzM → Option (Int × kzM)) (l0 : Nat) (l1 : Nat) (l2 : Int) (l3 : Int) (l4 : Int) (l5 : Int) : kzM → Option (Int × kzM) :=
  zgI G 8 2 l0 fun t1 =>
  zcnd (t1 ≤ l5)
  (zrt l4)
  (zgR G 8 0 l0 fun t2 =>
  zaR G 16 t2 l5 fun t3 =>
  zcv G 6 t3 (Z6_has G t3 l3) fun t4 =>
  zcnd (t4 = (0 : Int))
  (Z8_keysBehind_64 G k13 l0 l1 l2 l3 l4 l5)
  (zcv G 6 t3 (Z6_agrees G t3 l1 l2 l3) fun t5 =>
  zcnd (t5 = (0 : Int))
  (Z8_keysBehind_64 G k13 l0 l1 l2 l3 l4 l5)
  (zcv G 6 t3 (Z6_at G t3 l3) fun t6 =>
  zlI (zor l4 (zshl (1 : Int) t6)) fun t7 =>
  Z8_keysBehind_64 G k13 l0 l1 l2 l3 t7 l5)))
theorem qX8_keysBehind_13B {G : kdS} (hG : kzG G) {k13' : Nat → Nat → Int → Int → Int → Int → kzM → Option (Int × kzM)} {k13 : Nat → Nat → Int32 → Int32 → Int32 → Int32 → kdM → Option (Int32 × kdM)} (hk13 : ∀ (a0 : Nat) (a1 : Nat) (a2 : Int) (_ : kzI a2) (a3 : Int) (_ : kzI a3) (a4 : Int) (_ : kzI a4) (a5 : Int) (_ : kzI a5), CRi (k13' a0 a1 a2 a3 a4 a5) (k13 a0 a1 (Int32.ofInt a2) (Int32.ofInt a3) (Int32.ofInt a4) (Int32.ofInt a5))) (l0 : Nat) (l1 : Nat) {l2 : Int} (hl2 : kzI l2) {l3 : Int} (hl3 : kzI l3) {l4 : Int} (hl4 : kzI l4) {l5 : Int} (hl5 : kzI l5) : CRi (Z8_keysBehind_13B G k13' l0 l1 l2 l3 l4 l5) (X8_keysBehind_13B G k13 l0 l1 (Int32.ofInt l2) (Int32.ofInt l3) (Int32.ofInt l4) (Int32.ofInt l5)) := by
  unfold Z8_keysBehind_13B X8_keysBehind_13B
  exact c_gI rfl (fun t1 ht1 => c_cnd (kz_le ht1 hl5 rfl rfl) (c_rt hl4 rfl) (c_gR (fun t2 => c_aR hG rfl (fun t3 => c_cv (qX6_has hG t3 hl3) (fun t4 ht4 => c_cnd (kz_eq ht4 (by unfold kzI; omega) rfl rfl) ((qX8_keysBehind_64 hG hk13 l0 l1 hl2 hl3 hl4 hl5)) (c_cv (qX6_agrees hG t3 l1 hl2 hl3) (fun t5 ht5 => c_cnd (kz_eq ht5 (by unfold kzI; omega) rfl rfl) ((qX8_keysBehind_64 hG hk13 l0 l1 hl2 hl3 hl4 hl5)) (c_cv (qX6_at hG t3 hl3) (fun t6 ht6 => c_lI (kz_or rfl (kz_shl rfl rfl)) (fun t7 ht7 => (qX8_keysBehind_64 hG hk13 l0 l1 hl2 hl3 ht7 hl5)))))))))))
def Z8_keysBehind_13 (G : kdS) : Nat → Nat → Int → Int → Int → Int → kzM → Option (Int × kzM) := lp (fun _ _ _ _ _ _ _ => none) (Z8_keysBehind_13B G) NN
theorem qX8_keysBehind_13 {G : kdS} (hG : kzG G) : ∀ (a0 : Nat) (a1 : Nat) (a2 : Int) (_ : kzI a2) (a3 : Int) (_ : kzI a3) (a4 : Int) (_ : kzI a4) (a5 : Int) (_ : kzI a5), CRi (Z8_keysBehind_13 G a0 a1 a2 a3 a4 a5) (X8_keysBehind_13 G a0 a1 (Int32.ofInt a2) (Int32.ofInt a3) (Int32.ofInt a4) (Int32.ofInt a5)) :=
  lp_rel (R := fun (f' : Nat → Nat → Int → Int → Int → Int → kzM → Option (Int × kzM)) (f : Nat → Nat → Int32 → Int32 → Int32 → Int32 → kdM → Option (Int32 × kdM)) => ∀ (a0 : Nat) (a1 : Nat) (a2 : Int) (_ : kzI a2) (a3 : Int) (_ : kzI a3) (a4 : Int) (_ : kzI a4) (a5 : Int) (_ : kzI a5), CRi (f' a0 a1 a2 a3 a4 a5) (f a0 a1 (Int32.ofInt a2) (Int32.ofInt a3) (Int32.ofInt a4) (Int32.ofInt a5))) (by intros; exact c_no) (fun _ _ hf a0 a1 a2 ha2 a3 ha3 a4 ha4 a5 ha5 => qX8_keysBehind_13B hG hf a0 a1 ha2 ha3 ha4 ha5) NN
def Z8_keysBehind (G : kdS) (l0 : Nat) (l1 : Nat) (l2 : Int) : kzM → Option (Int × kzM) :=
  zcv G 6 l1 (Z6_size G l1) fun t1 =>
  zlI (t1 - l2) fun t2 =>
  Z8_keysBehind_13 G l0 l1 l2 t2 (0 : Int) (0 : Int)
theorem qX8_keysBehind {G : kdS} (hG : kzG G) (l0 : Nat) (l1 : Nat) {l2 : Int} (hl2 : kzI l2) : CRi (Z8_keysBehind G l0 l1 l2) (X8_keysBehind G l0 l1 (Int32.ofInt l2)) := by
  unfold Z8_keysBehind X8_keysBehind
  exact c_cv (qX6_size hG l1) (fun t1 ht1 => c_lI (kz_sub rfl rfl) (fun t2 ht2 => (qX8_keysBehind_13 hG l0 l1 _ hl2 _ ht2 _ (by unfold kzI; omega) _ (by unfold kzI; omega))))
def Z8_quarrelAt_80 (G : kdS) (k4 : Nat → Int → Int → Int → kzM → Option (Int × kzM)) (k17 : Nat → Int → Int → Int → Int → kzM → Option (Int × kzM)) (l0 : Nat) (l1 : Int) (l2 : Int) (l3 : Int) (l4 : Int) : kzM → Option (Int × kzM) :=
  zlI (l4 + (1 : Int)) fun t1 =>
  k17 l0 l1 l2 l3 t1
theorem qX8_quarrelAt_80 {G : kdS} (hG : kzG G) {k4' : Nat → Int → Int → Int → kzM → Option (Int × kzM)} {k4 : Nat → Int32 → Int32 → Int32 → kdM → Option (Int32 × kdM)} (hk4 : ∀ (a0 : Nat) (a1 : Int) (_ : kzI a1) (a2 : Int) (_ : kzI a2) (a3 : Int) (_ : kzI a3), CRi (k4' a0 a1 a2 a3) (k4 a0 (Int32.ofInt a1) (Int32.ofInt a2) (Int32.ofInt a3))) {k17' : Nat → Int → Int → Int → Int → kzM → Option (Int × kzM)} {k17 : Nat → Int32 → Int32 → Int32 → Int32 → kdM → Option (Int32 × kdM)} (hk17 : ∀ (a0 : Nat) (a1 : Int) (_ : kzI a1) (a2 : Int) (_ : kzI a2) (a3 : Int) (_ : kzI a3) (a4 : Int) (_ : kzI a4), CRi (k17' a0 a1 a2 a3 a4) (k17 a0 (Int32.ofInt a1) (Int32.ofInt a2) (Int32.ofInt a3) (Int32.ofInt a4))) (l0 : Nat) {l1 : Int} (hl1 : kzI l1) {l2 : Int} (hl2 : kzI l2) {l3 : Int} (hl3 : kzI l3) {l4 : Int} (hl4 : kzI l4) : CRi (Z8_quarrelAt_80 G k4' k17' l0 l1 l2 l3 l4) (X8_quarrelAt_80 G k4 k17 l0 (Int32.ofInt l1) (Int32.ofInt l2) (Int32.ofInt l3) (Int32.ofInt l4)) := by
  unfold Z8_quarrelAt_80 X8_quarrelAt_80
  exact c_lI (kz_add rfl rfl) (fun t1 ht1 => (hk17 l0 _ hl1 _ hl2 _ hl3 _ ht1))
def Z8_quarrelAt_17B (G : kdS) (k4 : Nat → Int → Int → Int → kzM → Option (Int × kzM)) (k17 : Nat → Int → Int → Int → Int → kzM → Option (Int × kzM)) (l0 : Nat) (l1 : Int) (l2 : Int) (l3 : Int) (l4 : Int) : kzM → Option (Int × kzM) :=
  zgI G 8 2 l0 fun t1 =>
  zcnd (t1 ≤ l4)
  (zlI (l3 + (1 : Int)) fun t2 =>
  k4 l0 l1 l2 t2)
  (zgR G 8 0 l0 fun t3 =>
  zaR G 16 t3 l3 fun t4 =>
  zgR G 8 0 l0 fun t5 =>
  zaR G 16 t5 l4 fun t6 =>
  zcv G 6 t4 (Z6_isLike G t4 t6) fun t7 =>
  zcnd (t7 = (0 : Int))
  (Z8_quarrelAt_80 G k4 k17 l0 l1 l2 l3 l4)
  (zgR G 8 1 l0 fun t8 =>
  zaR G 16 t8 l3 fun t9 =>
  zgR G 8 1 l0 fun t10 =>
  zaR G 16 t10 l4 fun t11 =>
  zcv G 6 t9 (Z6_isLike G t9 t11) fun t12 =>
  zcnd (t12 = (0 : Int))
  (zcnd (l2 = l1)
  (zlI (((100 : Int) * l3) + l4) fun u1 =>
  zrt u1)
  (zlI (l2 + (1 : Int)) fun t13 =>
  Z8_quarrelAt_80 G k4 k17 l0 l1 t13 l3 l4))
  (Z8_quarrelAt_80 G k4 k17 l0 l1 l2 l3 l4)))
theorem qX8_quarrelAt_17B {G : kdS} (hG : kzG G) {k4' : Nat → Int → Int → Int → kzM → Option (Int × kzM)} {k4 : Nat → Int32 → Int32 → Int32 → kdM → Option (Int32 × kdM)} (hk4 : ∀ (a0 : Nat) (a1 : Int) (_ : kzI a1) (a2 : Int) (_ : kzI a2) (a3 : Int) (_ : kzI a3), CRi (k4' a0 a1 a2 a3) (k4 a0 (Int32.ofInt a1) (Int32.ofInt a2) (Int32.ofInt a3))) {k17' : Nat → Int → Int → Int → Int → kzM → Option (Int × kzM)} {k17 : Nat → Int32 → Int32 → Int32 → Int32 → kdM → Option (Int32 × kdM)} (hk17 : ∀ (a0 : Nat) (a1 : Int) (_ : kzI a1) (a2 : Int) (_ : kzI a2) (a3 : Int) (_ : kzI a3) (a4 : Int) (_ : kzI a4), CRi (k17' a0 a1 a2 a3 a4) (k17 a0 (Int32.ofInt a1) (Int32.ofInt a2) (Int32.ofInt a3) (Int32.ofInt a4))) (l0 : Nat) {l1 : Int} (hl1 : kzI l1) {l2 : Int} (hl2 : kzI l2) {l3 : Int} (hl3 : kzI l3) {l4 : Int} (hl4 : kzI l4) : CRi (Z8_quarrelAt_17B G k4' k17' l0 l1 l2 l3 l4) (X8_quarrelAt_17B G k4 k17 l0 (Int32.ofInt l1) (Int32.ofInt l2) (Int32.ofInt l3) (Int32.ofInt l4)) := by
  unfold Z8_quarrelAt_17B X8_quarrelAt_17B
  exact c_gI rfl (fun t1 ht1 => c_cnd (kz_le ht1 hl4 rfl rfl) (c_lI (kz_add rfl rfl) (fun t2 ht2 => (hk4 l0 _ hl1 _ hl2 _ ht2))) (c_gR (fun t3 => c_aR hG rfl (fun t4 => c_gR (fun t5 => c_aR hG rfl (fun t6 => c_cv (qX6_isLike hG t4 t6) (fun t7 ht7 => c_cnd (kz_eq ht7 (by unfold kzI; omega) rfl rfl) ((qX8_quarrelAt_80 hG hk4 hk17 l0 hl1 hl2 hl3 hl4)) (c_gR (fun t8 => c_aR hG rfl (fun t9 => c_gR (fun t10 => c_aR hG rfl (fun t11 => c_cv (qX6_isLike hG t9 t11) (fun t12 ht12 => c_cnd (kz_eq ht12 (by unfold kzI; omega) rfl rfl) (c_cnd (kz_eq hl2 hl1 rfl rfl) (c_rg (kz_add (kz_mul rfl rfl) rfl) fun u1 r1 e1 => c_rt r1 e1) (c_lI (kz_add rfl rfl) (fun t13 ht13 => (qX8_quarrelAt_80 hG hk4 hk17 l0 hl1 ht13 hl3 hl4)))) ((qX8_quarrelAt_80 hG hk4 hk17 l0 hl1 hl2 hl3 hl4)))))))))))))))
def Z8_quarrelAt_17 (G : kdS) (k4 : Nat → Int → Int → Int → kzM → Option (Int × kzM)) : Nat → Int → Int → Int → Int → kzM → Option (Int × kzM) := lp (fun _ _ _ _ _ _ => none) (Z8_quarrelAt_17B G k4) NN
theorem qX8_quarrelAt_17 {G : kdS} (hG : kzG G) {k4' : Nat → Int → Int → Int → kzM → Option (Int × kzM)} {k4 : Nat → Int32 → Int32 → Int32 → kdM → Option (Int32 × kdM)} (hk4 : ∀ (a0 : Nat) (a1 : Int) (_ : kzI a1) (a2 : Int) (_ : kzI a2) (a3 : Int) (_ : kzI a3), CRi (k4' a0 a1 a2 a3) (k4 a0 (Int32.ofInt a1) (Int32.ofInt a2) (Int32.ofInt a3))) : ∀ (a0 : Nat) (a1 : Int) (_ : kzI a1) (a2 : Int) (_ : kzI a2) (a3 : Int) (_ : kzI a3) (a4 : Int) (_ : kzI a4), CRi (Z8_quarrelAt_17 G k4' a0 a1 a2 a3 a4) (X8_quarrelAt_17 G k4 a0 (Int32.ofInt a1) (Int32.ofInt a2) (Int32.ofInt a3) (Int32.ofInt a4)) :=
  lp_rel (R := fun (f' : Nat → Int → Int → Int → Int → kzM → Option (Int × kzM)) (f : Nat → Int32 → Int32 → Int32 → Int32 → kdM → Option (Int32 × kdM)) => ∀ (a0 : Nat) (a1 : Int) (_ : kzI a1) (a2 : Int) (_ : kzI a2) (a3 : Int) (_ : kzI a3) (a4 : Int) (_ : kzI a4), CRi (f' a0 a1 a2 a3 a4) (f a0 (Int32.ofInt a1) (Int32.ofInt a2) (Int32.ofInt a3) (Int32.ofInt a4))) (by intros; exact c_no) (fun _ _ hf a0 a1 ha1 a2 ha2 a3 ha3 a4 ha4 => qX8_quarrelAt_17B hG hk4 hf a0 ha1 ha2 ha3 ha4) NN
def Z8_quarrelAt_103 (G : kdS) (s0 : Int) : kzM → Option (Int × kzM) :=
  zrt s0
theorem qX8_quarrelAt_103 {G : kdS} (hG : kzG G) {s0 : Int} (hs0 : kzI s0) : CRi (Z8_quarrelAt_103 G s0) (X8_quarrelAt_103 G (Int32.ofInt s0)) := by
  unfold Z8_quarrelAt_103 X8_quarrelAt_103
  exact c_rt hs0 rfl
def Z8_quarrelAt_4B (G : kdS) (k4 : Nat → Int → Int → Int → kzM → Option (Int × kzM)) (l0 : Nat) (l1 : Int) (l2 : Int) (l3 : Int) : kzM → Option (Int × kzM) :=
  zgI G 8 2 l0 fun t1 =>
  zcnd (t1 ≤ l3)
  (zcnd (l1 = (-1 : Int))
  (Z8_quarrelAt_103 G l2)
  (Z8_quarrelAt_103 G (-6 : Int)))
  (zlI (l3 + (1 : Int)) fun t2 =>
  Z8_quarrelAt_17 G k4 l0 l1 l2 l3 t2)
theorem qX8_quarrelAt_4B {G : kdS} (hG : kzG G) {k4' : Nat → Int → Int → Int → kzM → Option (Int × kzM)} {k4 : Nat → Int32 → Int32 → Int32 → kdM → Option (Int32 × kdM)} (hk4 : ∀ (a0 : Nat) (a1 : Int) (_ : kzI a1) (a2 : Int) (_ : kzI a2) (a3 : Int) (_ : kzI a3), CRi (k4' a0 a1 a2 a3) (k4 a0 (Int32.ofInt a1) (Int32.ofInt a2) (Int32.ofInt a3))) (l0 : Nat) {l1 : Int} (hl1 : kzI l1) {l2 : Int} (hl2 : kzI l2) {l3 : Int} (hl3 : kzI l3) : CRi (Z8_quarrelAt_4B G k4' l0 l1 l2 l3) (X8_quarrelAt_4B G k4 l0 (Int32.ofInt l1) (Int32.ofInt l2) (Int32.ofInt l3)) := by
  unfold Z8_quarrelAt_4B X8_quarrelAt_4B
  exact c_gI rfl (fun t1 ht1 => c_cnd (kz_le ht1 hl3 rfl rfl) (c_cnd (kz_eq hl1 (by unfold kzI; omega) rfl rfl) ((qX8_quarrelAt_103 hG hl2)) ((qX8_quarrelAt_103 hG (by unfold kzI; omega)))) (c_lI (kz_add rfl rfl) (fun t2 ht2 => (qX8_quarrelAt_17 hG hk4 l0 _ hl1 _ hl2 _ hl3 _ ht2))))
def Z8_quarrelAt_4 (G : kdS) : Nat → Int → Int → Int → kzM → Option (Int × kzM) := lp (fun _ _ _ _ _ => none) (Z8_quarrelAt_4B G) NN
theorem qX8_quarrelAt_4 {G : kdS} (hG : kzG G) : ∀ (a0 : Nat) (a1 : Int) (_ : kzI a1) (a2 : Int) (_ : kzI a2) (a3 : Int) (_ : kzI a3), CRi (Z8_quarrelAt_4 G a0 a1 a2 a3) (X8_quarrelAt_4 G a0 (Int32.ofInt a1) (Int32.ofInt a2) (Int32.ofInt a3)) :=
  lp_rel (R := fun (f' : Nat → Int → Int → Int → kzM → Option (Int × kzM)) (f : Nat → Int32 → Int32 → Int32 → kdM → Option (Int32 × kdM)) => ∀ (a0 : Nat) (a1 : Int) (_ : kzI a1) (a2 : Int) (_ : kzI a2) (a3 : Int) (_ : kzI a3), CRi (f' a0 a1 a2 a3) (f a0 (Int32.ofInt a1) (Int32.ofInt a2) (Int32.ofInt a3))) (by intros; exact c_no) (fun _ _ hf a0 a1 ha1 a2 ha2 a3 ha3 => qX8_quarrelAt_4B hG hf a0 ha1 ha2 ha3) NN
def Z8_quarrelAt (G : kdS) (l0 : Nat) (l1 : Int) : kzM → Option (Int × kzM) :=
  Z8_quarrelAt_4 G l0 l1 (0 : Int) (0 : Int)
theorem qX8_quarrelAt {G : kdS} (hG : kzG G) (l0 : Nat) {l1 : Int} (hl1 : kzI l1) : CRi (Z8_quarrelAt G l0 l1) (X8_quarrelAt G l0 (Int32.ofInt l1)) := by
  unfold Z8_quarrelAt X8_quarrelAt
  exact (qX8_quarrelAt_4 hG l0 _ hl1 _ (by unfold kzI; omega) _ (by unfold kzI; omega))
def Z8_isIdle_2B (G : kdS) (k2 : Nat → Int → Int → kzM → Option (Int × kzM)) (l0 : Nat) (l1 : Int) (l2 : Int) : kzM → Option (Int × kzM) :=
  zcnd (l1 ≤ l2)
  (zrt (zB (0 : Int)))
  (zgR G 8 0 l0 fun t1 =>
  zaR G 16 t1 l2 fun t2 =>
  zgR G 8 0 l0 fun t3 =>
  zaR G 16 t3 l1 fun t4 =>
  zcv G 6 t2 (Z6_isLike G t2 t4) fun t5 =>
  zcnd (t5 = (0 : Int))
  (zlI (l2 + (1 : Int)) fun t6 =>
  k2 l0 l1 t6)
  (zrt (zB (1 : Int))))
theorem qX8_isIdle_2B {G : kdS} (hG : kzG G) {k2' : Nat → Int → Int → kzM → Option (Int × kzM)} {k2 : Nat → Int32 → Int32 → kdM → Option (Int32 × kdM)} (hk2 : ∀ (a0 : Nat) (a1 : Int) (_ : kzI a1) (a2 : Int) (_ : kzI a2), CRi (k2' a0 a1 a2) (k2 a0 (Int32.ofInt a1) (Int32.ofInt a2))) (l0 : Nat) {l1 : Int} (hl1 : kzI l1) {l2 : Int} (hl2 : kzI l2) : CRi (Z8_isIdle_2B G k2' l0 l1 l2) (X8_isIdle_2B G k2 l0 (Int32.ofInt l1) (Int32.ofInt l2)) := by
  unfold Z8_isIdle_2B X8_isIdle_2B
  exact c_cnd (kz_le hl1 hl2 rfl rfl) (c_rt (kz_BI _) (kz_B rfl)) (c_gR (fun t1 => c_aR hG rfl (fun t2 => c_gR (fun t3 => c_aR hG rfl (fun t4 => c_cv (qX6_isLike hG t2 t4) (fun t5 ht5 => c_cnd (kz_eq ht5 (by unfold kzI; omega) rfl rfl) (c_lI (kz_add rfl rfl) (fun t6 ht6 => (hk2 l0 _ hl1 _ ht6))) (c_rt (kz_BI _) (kz_B rfl))))))))
def Z8_isIdle_2 (G : kdS) : Nat → Int → Int → kzM → Option (Int × kzM) := lp (fun _ _ _ _ => none) (Z8_isIdle_2B G) NN
theorem qX8_isIdle_2 {G : kdS} (hG : kzG G) : ∀ (a0 : Nat) (a1 : Int) (_ : kzI a1) (a2 : Int) (_ : kzI a2), CRi (Z8_isIdle_2 G a0 a1 a2) (X8_isIdle_2 G a0 (Int32.ofInt a1) (Int32.ofInt a2)) :=
  lp_rel (R := fun (f' : Nat → Int → Int → kzM → Option (Int × kzM)) (f : Nat → Int32 → Int32 → kdM → Option (Int32 × kdM)) => ∀ (a0 : Nat) (a1 : Int) (_ : kzI a1) (a2 : Int) (_ : kzI a2), CRi (f' a0 a1 a2) (f a0 (Int32.ofInt a1) (Int32.ofInt a2))) (by intros; exact c_no) (fun _ _ hf a0 a1 ha1 a2 ha2 => qX8_isIdle_2B hG hf a0 ha1 ha2) NN
def Z8_isIdle (G : kdS) (l0 : Nat) (l1 : Int) : kzM → Option (Int × kzM) :=
  Z8_isIdle_2 G l0 l1 (0 : Int)
theorem qX8_isIdle {G : kdS} (hG : kzG G) (l0 : Nat) {l1 : Int} (hl1 : kzI l1) : CRi (Z8_isIdle G l0 l1) (X8_isIdle G l0 (Int32.ofInt l1)) := by
  unfold Z8_isIdle X8_isIdle
  exact (qX8_isIdle_2 hG l0 _ hl1 _ (by unfold kzI; omega))
def Z8_idleRules_26 (G : kdS) (k4 : Nat → Int → Int → kzM → Option (Int × kzM)) (l0 : Nat) (l1 : Int) (l2 : Int) : kzM → Option (Int × kzM) :=
  zlI (l2 + (1 : Int)) fun t1 =>
  k4 l0 l1 t1
theorem qX8_idleRules_26 {G : kdS} (hG : kzG G) {k4' : Nat → Int → Int → kzM → Option (Int × kzM)} {k4 : Nat → Int32 → Int32 → kdM → Option (Int32 × kdM)} (hk4 : ∀ (a0 : Nat) (a1 : Int) (_ : kzI a1) (a2 : Int) (_ : kzI a2), CRi (k4' a0 a1 a2) (k4 a0 (Int32.ofInt a1) (Int32.ofInt a2))) (l0 : Nat) {l1 : Int} (hl1 : kzI l1) {l2 : Int} (hl2 : kzI l2) : CRi (Z8_idleRules_26 G k4' l0 l1 l2) (X8_idleRules_26 G k4 l0 (Int32.ofInt l1) (Int32.ofInt l2)) := by
  unfold Z8_idleRules_26 X8_idleRules_26
  exact c_lI (kz_add rfl rfl) (fun t1 ht1 => (hk4 l0 _ hl1 _ ht1))
def Z8_idleRules_4B (G : kdS) (k4 : Nat → Int → Int → kzM → Option (Int × kzM)) (l0 : Nat) (l1 : Int) (l2 : Int) : kzM → Option (Int × kzM) :=
  zgI G 8 2 l0 fun t1 =>
  zcnd (t1 ≤ l2)
  (zrt l1)
  (zcv G 8 l0 (Z8_isIdle G l0 l2) fun t2 =>
  zcnd (t2 = (0 : Int))
  (Z8_idleRules_26 G k4 l0 l1 l2)
  (zlI (zor l1 (zshl (1 : Int) l2)) fun t3 =>
  Z8_idleRules_26 G k4 l0 t3 l2))
theorem qX8_idleRules_4B {G : kdS} (hG : kzG G) {k4' : Nat → Int → Int → kzM → Option (Int × kzM)} {k4 : Nat → Int32 → Int32 → kdM → Option (Int32 × kdM)} (hk4 : ∀ (a0 : Nat) (a1 : Int) (_ : kzI a1) (a2 : Int) (_ : kzI a2), CRi (k4' a0 a1 a2) (k4 a0 (Int32.ofInt a1) (Int32.ofInt a2))) (l0 : Nat) {l1 : Int} (hl1 : kzI l1) {l2 : Int} (hl2 : kzI l2) : CRi (Z8_idleRules_4B G k4' l0 l1 l2) (X8_idleRules_4B G k4 l0 (Int32.ofInt l1) (Int32.ofInt l2)) := by
  unfold Z8_idleRules_4B X8_idleRules_4B
  exact c_gI rfl (fun t1 ht1 => c_cnd (kz_le ht1 hl2 rfl rfl) (c_rt hl1 rfl) (c_cv (qX8_isIdle hG l0 hl2) (fun t2 ht2 => c_cnd (kz_eq ht2 (by unfold kzI; omega) rfl rfl) ((qX8_idleRules_26 hG hk4 l0 hl1 hl2)) (c_lI (kz_or rfl (kz_shl rfl rfl)) (fun t3 ht3 => (qX8_idleRules_26 hG hk4 l0 ht3 hl2))))))
def Z8_idleRules_4 (G : kdS) : Nat → Int → Int → kzM → Option (Int × kzM) := lp (fun _ _ _ _ => none) (Z8_idleRules_4B G) NN
theorem qX8_idleRules_4 {G : kdS} (hG : kzG G) : ∀ (a0 : Nat) (a1 : Int) (_ : kzI a1) (a2 : Int) (_ : kzI a2), CRi (Z8_idleRules_4 G a0 a1 a2) (X8_idleRules_4 G a0 (Int32.ofInt a1) (Int32.ofInt a2)) :=
  lp_rel (R := fun (f' : Nat → Int → Int → kzM → Option (Int × kzM)) (f : Nat → Int32 → Int32 → kdM → Option (Int32 × kdM)) => ∀ (a0 : Nat) (a1 : Int) (_ : kzI a1) (a2 : Int) (_ : kzI a2), CRi (f' a0 a1 a2) (f a0 (Int32.ofInt a1) (Int32.ofInt a2))) (by intros; exact c_no) (fun _ _ hf a0 a1 ha1 a2 ha2 => qX8_idleRules_4B hG hf a0 ha1 ha2) NN
def Z8_idleRules (G : kdS) (l0 : Nat) : kzM → Option (Int × kzM) :=
  Z8_idleRules_4 G l0 (0 : Int) (0 : Int)
theorem qX8_idleRules {G : kdS} (hG : kzG G) (l0 : Nat) : CRi (Z8_idleRules G l0) (X8_idleRules G l0) := by
  unfold Z8_idleRules X8_idleRules
  exact (qX8_idleRules_4 hG l0 _ (by unfold kzI; omega) _ (by unfold kzI; omega))
def Z8_unusedKeys_16B (G : kdS) (k6 : Nat → Int → Int → kzM → Option (Int × kzM)) (k16 : Nat → Int → Int → Int → kzM → Option (Int × kzM)) (l0 : Nat) (l1 : Int) (l2 : Int) (l3 : Int) : kzM → Option (Int × kzM) :=
  zgR G 8 0 l0 fun t1 =>
  zaR G 16 t1 l2 fun t2 =>
  zcv G 6 t2 (Z6_size G t2) fun t3 =>
  zcnd (t3 ≤ l3)
  (zlI (l2 + (1 : Int)) fun t4 =>
  k6 l0 l1 t4)
  (zgR G 8 0 l0 fun t5 =>
  zaR G 16 t5 l2 fun t6 =>
  zcv G 6 t6 (Z6_at G t6 l3) fun t7 =>
  zlI (zand l1 (zxor (zshl (1 : Int) t7) (-1 : Int))) fun t8 =>
  zlI (l3 + (1 : Int)) fun t9 =>
  k16 l0 t8 l2 t9)
theorem qX8_unusedKeys_16B {G : kdS} (hG : kzG G) {k6' : Nat → Int → Int → kzM → Option (Int × kzM)} {k6 : Nat → Int32 → Int32 → kdM → Option (Int32 × kdM)} (hk6 : ∀ (a0 : Nat) (a1 : Int) (_ : kzI a1) (a2 : Int) (_ : kzI a2), CRi (k6' a0 a1 a2) (k6 a0 (Int32.ofInt a1) (Int32.ofInt a2))) {k16' : Nat → Int → Int → Int → kzM → Option (Int × kzM)} {k16 : Nat → Int32 → Int32 → Int32 → kdM → Option (Int32 × kdM)} (hk16 : ∀ (a0 : Nat) (a1 : Int) (_ : kzI a1) (a2 : Int) (_ : kzI a2) (a3 : Int) (_ : kzI a3), CRi (k16' a0 a1 a2 a3) (k16 a0 (Int32.ofInt a1) (Int32.ofInt a2) (Int32.ofInt a3))) (l0 : Nat) {l1 : Int} (hl1 : kzI l1) {l2 : Int} (hl2 : kzI l2) {l3 : Int} (hl3 : kzI l3) : CRi (Z8_unusedKeys_16B G k6' k16' l0 l1 l2 l3) (X8_unusedKeys_16B G k6 k16 l0 (Int32.ofInt l1) (Int32.ofInt l2) (Int32.ofInt l3)) := by
  unfold Z8_unusedKeys_16B X8_unusedKeys_16B
  exact c_gR (fun t1 => c_aR hG rfl (fun t2 => c_cv (qX6_size hG t2) (fun t3 ht3 => c_cnd (kz_le ht3 hl3 rfl rfl) (c_lI (kz_add rfl rfl) (fun t4 ht4 => (hk6 l0 _ hl1 _ ht4))) (c_gR (fun t5 => c_aR hG rfl (fun t6 => c_cv (qX6_at hG t6 hl3) (fun t7 ht7 => c_lI (kz_and rfl (kz_xor (kz_shl rfl rfl) rfl)) (fun t8 ht8 => c_lI (kz_add rfl rfl) (fun t9 ht9 => (hk16 l0 _ ht8 _ hl2 _ ht9))))))))))
def Z8_unusedKeys_16 (G : kdS) (k6 : Nat → Int → Int → kzM → Option (Int × kzM)) : Nat → Int → Int → Int → kzM → Option (Int × kzM) := lp (fun _ _ _ _ _ => none) (Z8_unusedKeys_16B G k6) NN
theorem qX8_unusedKeys_16 {G : kdS} (hG : kzG G) {k6' : Nat → Int → Int → kzM → Option (Int × kzM)} {k6 : Nat → Int32 → Int32 → kdM → Option (Int32 × kdM)} (hk6 : ∀ (a0 : Nat) (a1 : Int) (_ : kzI a1) (a2 : Int) (_ : kzI a2), CRi (k6' a0 a1 a2) (k6 a0 (Int32.ofInt a1) (Int32.ofInt a2))) : ∀ (a0 : Nat) (a1 : Int) (_ : kzI a1) (a2 : Int) (_ : kzI a2) (a3 : Int) (_ : kzI a3), CRi (Z8_unusedKeys_16 G k6' a0 a1 a2 a3) (X8_unusedKeys_16 G k6 a0 (Int32.ofInt a1) (Int32.ofInt a2) (Int32.ofInt a3)) :=
  lp_rel (R := fun (f' : Nat → Int → Int → Int → kzM → Option (Int × kzM)) (f : Nat → Int32 → Int32 → Int32 → kdM → Option (Int32 × kdM)) => ∀ (a0 : Nat) (a1 : Int) (_ : kzI a1) (a2 : Int) (_ : kzI a2) (a3 : Int) (_ : kzI a3), CRi (f' a0 a1 a2 a3) (f a0 (Int32.ofInt a1) (Int32.ofInt a2) (Int32.ofInt a3))) (by intros; exact c_no) (fun _ _ hf a0 a1 ha1 a2 ha2 a3 ha3 => qX8_unusedKeys_16B hG hk6 hf a0 ha1 ha2 ha3) NN
def Z8_unusedKeys_6B (G : kdS) (k6 : Nat → Int → Int → kzM → Option (Int × kzM)) (l0 : Nat) (l1 : Int) (l2 : Int) : kzM → Option (Int × kzM) :=
  zgI G 8 2 l0 fun t1 =>
  zcnd (t1 ≤ l2)
  (zrt l1)
  (Z8_unusedKeys_16 G k6 l0 l1 l2 (0 : Int))
theorem qX8_unusedKeys_6B {G : kdS} (hG : kzG G) {k6' : Nat → Int → Int → kzM → Option (Int × kzM)} {k6 : Nat → Int32 → Int32 → kdM → Option (Int32 × kdM)} (hk6 : ∀ (a0 : Nat) (a1 : Int) (_ : kzI a1) (a2 : Int) (_ : kzI a2), CRi (k6' a0 a1 a2) (k6 a0 (Int32.ofInt a1) (Int32.ofInt a2))) (l0 : Nat) {l1 : Int} (hl1 : kzI l1) {l2 : Int} (hl2 : kzI l2) : CRi (Z8_unusedKeys_6B G k6' l0 l1 l2) (X8_unusedKeys_6B G k6 l0 (Int32.ofInt l1) (Int32.ofInt l2)) := by
  unfold Z8_unusedKeys_6B X8_unusedKeys_6B
  exact c_gI rfl (fun t1 ht1 => c_cnd (kz_le ht1 hl2 rfl rfl) (c_rt hl1 rfl) ((qX8_unusedKeys_16 hG hk6 l0 _ hl1 _ hl2 _ (by unfold kzI; omega))))
def Z8_unusedKeys_6 (G : kdS) : Nat → Int → Int → kzM → Option (Int × kzM) := lp (fun _ _ _ _ => none) (Z8_unusedKeys_6B G) NN
theorem qX8_unusedKeys_6 {G : kdS} (hG : kzG G) : ∀ (a0 : Nat) (a1 : Int) (_ : kzI a1) (a2 : Int) (_ : kzI a2), CRi (Z8_unusedKeys_6 G a0 a1 a2) (X8_unusedKeys_6 G a0 (Int32.ofInt a1) (Int32.ofInt a2)) :=
  lp_rel (R := fun (f' : Nat → Int → Int → kzM → Option (Int × kzM)) (f : Nat → Int32 → Int32 → kdM → Option (Int32 × kdM)) => ∀ (a0 : Nat) (a1 : Int) (_ : kzI a1) (a2 : Int) (_ : kzI a2), CRi (f' a0 a1 a2) (f a0 (Int32.ofInt a1) (Int32.ofInt a2))) (by intros; exact c_no) (fun _ _ hf a0 a1 ha1 a2 ha2 => qX8_unusedKeys_6B hG hf a0 ha1 ha2) NN
def Z8_unusedKeys (G : kdS) (l0 : Nat) : kzM → Option (Int × kzM) :=
  Z8_unusedKeys_6 G l0 (4095 : Int) (0 : Int)
theorem qX8_unusedKeys {G : kdS} (hG : kzG G) (l0 : Nat) : CRi (Z8_unusedKeys G l0) (X8_unusedKeys G l0) := by
  unfold Z8_unusedKeys X8_unusedKeys
  exact (qX8_unusedKeys_6 hG l0 _ (by unfold kzI; omega) _ (by unfold kzI; omega))
def Z11_within_15 (G : kdS) (s0 : Int) : kzM → Option (Int × kzM) :=
  zrt (zB s0)
theorem qX11_within_15 {G : kdS} (hG : kzG G) {s0 : Int} (hs0 : kzI s0) : CRi (Z11_within_15 G s0) (X11_within_15 G (Int32.ofInt s0)) := by
  unfold Z11_within_15 X11_within_15
  exact c_rt (kz_BI _) (kz_B rfl)
def Z11_within_14 (G : kdS) : kzM → Option (Int × kzM) :=
  Z11_within_15 G (0 : Int)
theorem qX11_within_14 {G : kdS} (hG : kzG G) : CRi (Z11_within_14 G) (X11_within_14 G) := by
  unfold Z11_within_14 X11_within_14
  exact (qX11_within_15 hG (by unfold kzI; omega))
def Z11_within (G : kdS) (l0 : Int) (l1 : Int) (l2 : Int) : kzM → Option (Int × kzM) :=
  zcnd (l0 < l1)
  (Z11_within_14 G)
  (zcnd (l2 < l0)
  (Z11_within_14 G)
  (Z11_within_15 G (1 : Int)))
theorem qX11_within {G : kdS} (hG : kzG G) {l0 : Int} (hl0 : kzI l0) {l1 : Int} (hl1 : kzI l1) {l2 : Int} (hl2 : kzI l2) : CRi (Z11_within G l0 l1 l2) (X11_within G (Int32.ofInt l0) (Int32.ofInt l1) (Int32.ofInt l2)) := by
  unfold Z11_within X11_within
  exact c_cnd (kz_lt hl0 hl1 rfl rfl) ((qX11_within_14 hG)) (c_cnd (kz_lt hl2 hl0 rfl rfl) ((qX11_within_14 hG)) ((qX11_within_15 hG (by unfold kzI; omega))))
def Z11_isLetter (G : kdS) (l0 : Int) : kzM → Option (Int × kzM) :=
  zcl (Z11_within G l0 (1 : Int) (60 : Int)) fun t1 =>
  zrt (zB t1)
theorem qX11_isLetter {G : kdS} (hG : kzG G) {l0 : Int} (hl0 : kzI l0) : CRi (Z11_isLetter G l0) (X11_isLetter G (Int32.ofInt l0)) := by
  unfold Z11_isLetter X11_isLetter
  exact c_cl (qX11_within hG hl0 (by unfold kzI; omega) (by unfold kzI; omega)) (fun t1 ht1 => c_rt (kz_BI _) (kz_B rfl))
def Z8_isMade_21 (G : kdS) (s0 : Int) : kzM → Option (Int × kzM) :=
  zrt (zB s0)
theorem qX8_isMade_21 {G : kdS} (hG : kzG G) {s0 : Int} (hs0 : kzI s0) : CRi (Z8_isMade_21 G s0) (X8_isMade_21 G (Int32.ofInt s0)) := by
  unfold Z8_isMade_21 X8_isMade_21
  exact c_rt (kz_BI _) (kz_B rfl)
def Z8_isMade_20 (G : kdS) : kzM → Option (Int × kzM) :=
  Z8_isMade_21 G (0 : Int)
theorem qX8_isMade_20 {G : kdS} (hG : kzG G) : CRi (Z8_isMade_20 G) (X8_isMade_20 G) := by
  unfold Z8_isMade_20 X8_isMade_20
  exact (qX8_isMade_21 hG (by unfold kzI; omega))
def Z8_isMade (G : kdS) (l0 : Nat) (l1 : Int) : kzM → Option (Int × kzM) :=
  zcl (Z11_isLetter G l1) fun t1 =>
  zcnd (t1 = (0 : Int))
  (Z8_isMade_20 G)
  (zgR G 8 7 l0 fun t2 =>
  zaZ G t2 l1 fun t3 =>
  zcnd (t3 = (0 : Int))
  (Z8_isMade_20 G)
  (Z8_isMade_21 G (1 : Int)))
theorem qX8_isMade {G : kdS} (hG : kzG G) (l0 : Nat) {l1 : Int} (hl1 : kzI l1) : CRi (Z8_isMade G l0 l1) (X8_isMade G l0 (Int32.ofInt l1)) := by
  unfold Z8_isMade X8_isMade
  exact c_cl (qX11_isLetter hG hl1) (fun t1 ht1 => c_cnd (kz_eq ht1 (by unfold kzI; omega) rfl rfl) ((qX8_isMade_20 hG)) (c_gR (fun t2 => c_aZ hG rfl (fun t3 ht3 => c_cnd (kz_eq ht3 (by unfold kzI; omega) rfl rfl) ((qX8_isMade_20 hG)) ((qX8_isMade_21 hG (by unfold kzI; omega)))))))
def Z8_mark_14 (G : kdS) : kzM → Option (Unit × kzM) :=
  zrt ()
theorem qX8_mark_14 {G : kdS} (hG : kzG G) : CRu (Z8_mark_14 G) (X8_mark_14 G) := by
  unfold Z8_mark_14 X8_mark_14
  exact c_rt trivial rfl
def Z8_mark (G : kdS) (l0 : Nat) (l1 : Int) : kzM → Option (Unit × kzM) :=
  zcl (Z11_isLetter G l1) fun t1 =>
  zcnd (t1 = (0 : Int))
  (Z8_mark_14 G)
  (zgR G 8 7 l0 fun t2 =>
  ztZ G t2 l1 (1 : Int) <|
  Z8_mark_14 G)
theorem qX8_mark {G : kdS} (hG : kzG G) (l0 : Nat) {l1 : Int} (hl1 : kzI l1) : CRu (Z8_mark G l0 l1) (X8_mark G l0 (Int32.ofInt l1)) := by
  unfold Z8_mark X8_mark
  exact c_cl (qX11_isLetter hG hl1) (fun t1 ht1 => c_cnd (kz_eq ht1 (by unfold kzI; omega) rfl rfl) ((qX8_mark_14 hG)) (c_gR (fun t2 => c_tZ hG rfl rfl ((qX8_mark_14 hG)))))
def Z8_markJoints_55 (G : kdS) (k2 : Nat → Int → kzM → Option (Unit × kzM)) (l0 : Nat) (l1 : Int) : kzM → Option (Unit × kzM) :=
  zlI (l1 + (1 : Int)) fun t1 =>
  k2 l0 t1
theorem qX8_markJoints_55 {G : kdS} (hG : kzG G) {k2' : Nat → Int → kzM → Option (Unit × kzM)} {k2 : Nat → Int32 → kdM → Option (Unit × kdM)} (hk2 : ∀ (a0 : Nat) (a1 : Int) (_ : kzI a1), CRu (k2' a0 a1) (k2 a0 (Int32.ofInt a1))) (l0 : Nat) {l1 : Int} (hl1 : kzI l1) : CRu (Z8_markJoints_55 G k2' l0 l1) (X8_markJoints_55 G k2 l0 (Int32.ofInt l1)) := by
  unfold Z8_markJoints_55 X8_markJoints_55
  exact c_lI (kz_add rfl rfl) (fun t1 ht1 => (hk2 l0 _ ht1))
def Z8_markJoints_2B (G : kdS) (k2 : Nat → Int → kzM → Option (Unit × kzM)) (l0 : Nat) (l1 : Int) : kzM → Option (Unit × kzM) :=
  zgR G 8 5 l0 fun t1 =>
  zcv G 6 t1 (Z6_size G t1) fun t2 =>
  zcnd (t2 ≤ l1)
  (zrt ())
  (zgR G 8 3 l0 fun t3 =>
  zcv G 6 t3 (Z6_at G t3 l1) fun t4 =>
  zcv G 8 l0 (Z8_isMade G l0 t4) fun t5 =>
  zcnd (t5 = (0 : Int))
  (Z8_markJoints_55 G k2 l0 l1)
  (zgR G 8 4 l0 fun t6 =>
  zcv G 6 t6 (Z6_at G t6 l1) fun t7 =>
  zcv G 8 l0 (Z8_isMade G l0 t7) fun t8 =>
  zcnd (t8 = (0 : Int))
  (Z8_markJoints_55 G k2 l0 l1)
  (zgR G 8 5 l0 fun t9 =>
  zcv G 6 t9 (Z6_at G t9 l1) fun t10 =>
  zcv G 8 l0 (Z8_mark G l0 t10) fun _ =>
  Z8_markJoints_55 G k2 l0 l1)))
theorem qX8_markJoints_2B {G : kdS} (hG : kzG G) {k2' : Nat → Int → kzM → Option (Unit × kzM)} {k2 : Nat → Int32 → kdM → Option (Unit × kdM)} (hk2 : ∀ (a0 : Nat) (a1 : Int) (_ : kzI a1), CRu (k2' a0 a1) (k2 a0 (Int32.ofInt a1))) (l0 : Nat) {l1 : Int} (hl1 : kzI l1) : CRu (Z8_markJoints_2B G k2' l0 l1) (X8_markJoints_2B G k2 l0 (Int32.ofInt l1)) := by
  unfold Z8_markJoints_2B X8_markJoints_2B
  exact c_gR (fun t1 => c_cv (qX6_size hG t1) (fun t2 ht2 => c_cnd (kz_le ht2 hl1 rfl rfl) (c_rt trivial rfl) (c_gR (fun t3 => c_cv (qX6_at hG t3 hl1) (fun t4 ht4 => c_cv (qX8_isMade hG l0 ht4) (fun t5 ht5 => c_cnd (kz_eq ht5 (by unfold kzI; omega) rfl rfl) ((qX8_markJoints_55 hG hk2 l0 hl1)) (c_gR (fun t6 => c_cv (qX6_at hG t6 hl1) (fun t7 ht7 => c_cv (qX8_isMade hG l0 ht7) (fun t8 ht8 => c_cnd (kz_eq ht8 (by unfold kzI; omega) rfl rfl) ((qX8_markJoints_55 hG hk2 l0 hl1)) (c_gR (fun t9 => c_cv (qX6_at hG t9 hl1) (fun t10 ht10 => c_cv (qX8_mark hG l0 ht10) (fun _ _ => (qX8_markJoints_55 hG hk2 l0 hl1)))))))))))))))
def Z8_markJoints_2 (G : kdS) : Nat → Int → kzM → Option (Unit × kzM) := lp (fun _ _ _ => none) (Z8_markJoints_2B G) NN
theorem qX8_markJoints_2 {G : kdS} (hG : kzG G) : ∀ (a0 : Nat) (a1 : Int) (_ : kzI a1), CRu (Z8_markJoints_2 G a0 a1) (X8_markJoints_2 G a0 (Int32.ofInt a1)) :=
  lp_rel (R := fun (f' : Nat → Int → kzM → Option (Unit × kzM)) (f : Nat → Int32 → kdM → Option (Unit × kdM)) => ∀ (a0 : Nat) (a1 : Int) (_ : kzI a1), CRu (f' a0 a1) (f a0 (Int32.ofInt a1))) (by intros; exact c_no) (fun _ _ hf a0 a1 ha1 => qX8_markJoints_2B hG hf a0 ha1) NN
def Z8_markJoints (G : kdS) (l0 : Nat) : kzM → Option (Unit × kzM) :=
  Z8_markJoints_2 G l0 (0 : Int)
theorem qX8_markJoints {G : kdS} (hG : kzG G) (l0 : Nat) : CRu (Z8_markJoints G l0) (X8_markJoints G l0) := by
  unfold Z8_markJoints X8_markJoints
  exact (qX8_markJoints_2 hG l0 _ (by unfold kzI; omega))
def Z8_markLettersOf_2B (G : kdS) (k2 : Nat → Int → Int → kzM → Option (Unit × kzM)) (l0 : Nat) (l1 : Int) (l2 : Int) : kzM → Option (Unit × kzM) :=
  zgR G 8 1 l0 fun t1 =>
  zaR G 16 t1 l1 fun t2 =>
  zcv G 6 t2 (Z6_size G t2) fun t3 =>
  zcnd (t3 ≤ l2)
  (zrt ())
  (zgR G 8 1 l0 fun t4 =>
  zaR G 16 t4 l1 fun t5 =>
  zcv G 6 t5 (Z6_at G t5 l2) fun t6 =>
  zcv G 8 l0 (Z8_mark G l0 t6) fun _ =>
  zlI (l2 + (1 : Int)) fun t7 =>
  k2 l0 l1 t7)
theorem qX8_markLettersOf_2B {G : kdS} (hG : kzG G) {k2' : Nat → Int → Int → kzM → Option (Unit × kzM)} {k2 : Nat → Int32 → Int32 → kdM → Option (Unit × kdM)} (hk2 : ∀ (a0 : Nat) (a1 : Int) (_ : kzI a1) (a2 : Int) (_ : kzI a2), CRu (k2' a0 a1 a2) (k2 a0 (Int32.ofInt a1) (Int32.ofInt a2))) (l0 : Nat) {l1 : Int} (hl1 : kzI l1) {l2 : Int} (hl2 : kzI l2) : CRu (Z8_markLettersOf_2B G k2' l0 l1 l2) (X8_markLettersOf_2B G k2 l0 (Int32.ofInt l1) (Int32.ofInt l2)) := by
  unfold Z8_markLettersOf_2B X8_markLettersOf_2B
  exact c_gR (fun t1 => c_aR hG rfl (fun t2 => c_cv (qX6_size hG t2) (fun t3 ht3 => c_cnd (kz_le ht3 hl2 rfl rfl) (c_rt trivial rfl) (c_gR (fun t4 => c_aR hG rfl (fun t5 => c_cv (qX6_at hG t5 hl2) (fun t6 ht6 => c_cv (qX8_mark hG l0 ht6) (fun _ _ => c_lI (kz_add rfl rfl) (fun t7 ht7 => (hk2 l0 _ hl1 _ ht7))))))))))
def Z8_markLettersOf_2 (G : kdS) : Nat → Int → Int → kzM → Option (Unit × kzM) := lp (fun _ _ _ _ => none) (Z8_markLettersOf_2B G) NN
theorem qX8_markLettersOf_2 {G : kdS} (hG : kzG G) : ∀ (a0 : Nat) (a1 : Int) (_ : kzI a1) (a2 : Int) (_ : kzI a2), CRu (Z8_markLettersOf_2 G a0 a1 a2) (X8_markLettersOf_2 G a0 (Int32.ofInt a1) (Int32.ofInt a2)) :=
  lp_rel (R := fun (f' : Nat → Int → Int → kzM → Option (Unit × kzM)) (f : Nat → Int32 → Int32 → kdM → Option (Unit × kdM)) => ∀ (a0 : Nat) (a1 : Int) (_ : kzI a1) (a2 : Int) (_ : kzI a2), CRu (f' a0 a1 a2) (f a0 (Int32.ofInt a1) (Int32.ofInt a2))) (by intros; exact c_no) (fun _ _ hf a0 a1 ha1 a2 ha2 => qX8_markLettersOf_2B hG hf a0 ha1 ha2) NN
def Z8_markLettersOf (G : kdS) (l0 : Nat) (l1 : Int) : kzM → Option (Unit × kzM) :=
  Z8_markLettersOf_2 G l0 l1 (0 : Int)
theorem qX8_markLettersOf {G : kdS} (hG : kzG G) (l0 : Nat) {l1 : Int} (hl1 : kzI l1) : CRu (Z8_markLettersOf G l0 l1) (X8_markLettersOf G l0 (Int32.ofInt l1)) := by
  unfold Z8_markLettersOf X8_markLettersOf
  exact (qX8_markLettersOf_2 hG l0 _ hl1 _ (by unfold kzI; omega))
def Z8_markMade_44 (G : kdS) (k23 : Nat → Int → kzM → Option (Unit × kzM)) (l0 : Nat) (l1 : Int) : kzM → Option (Unit × kzM) :=
  zlI (l1 + (1 : Int)) fun t1 =>
  k23 l0 t1
theorem qX8_markMade_44 {G : kdS} (hG : kzG G) {k23' : Nat → Int → kzM → Option (Unit × kzM)} {k23 : Nat → Int32 → kdM → Option (Unit × kdM)} (hk23 : ∀ (a0 : Nat) (a1 : Int) (_ : kzI a1), CRu (k23' a0 a1) (k23 a0 (Int32.ofInt a1))) (l0 : Nat) {l1 : Int} (hl1 : kzI l1) : CRu (Z8_markMade_44 G k23' l0 l1) (X8_markMade_44 G k23 l0 (Int32.ofInt l1)) := by
  unfold Z8_markMade_44 X8_markMade_44
  exact c_lI (kz_add rfl rfl) (fun t1 ht1 => (hk23 l0 _ ht1))
def Z8_markMade_52B (G : kdS) (k52 : Nat → Int → kzM → Option (Unit × kzM)) (l0 : Nat) (l1 : Int) : kzM → Option (Unit × kzM) :=
  zgR G 8 5 l0 fun t1 =>
  zcv G 6 t1 (Z6_size G t1) fun t2 =>
  zcnd (t2 ≤ l1)
  (zrt ())
  (zcv G 8 l0 (Z8_markJoints G l0) fun _ =>
  zlI (l1 + (1 : Int)) fun t3 =>
  k52 l0 t3)
theorem qX8_markMade_52B {G : kdS} (hG : kzG G) {k52' : Nat → Int → kzM → Option (Unit × kzM)} {k52 : Nat → Int32 → kdM → Option (Unit × kdM)} (hk52 : ∀ (a0 : Nat) (a1 : Int) (_ : kzI a1), CRu (k52' a0 a1) (k52 a0 (Int32.ofInt a1))) (l0 : Nat) {l1 : Int} (hl1 : kzI l1) : CRu (Z8_markMade_52B G k52' l0 l1) (X8_markMade_52B G k52 l0 (Int32.ofInt l1)) := by
  unfold Z8_markMade_52B X8_markMade_52B
  exact c_gR (fun t1 => c_cv (qX6_size hG t1) (fun t2 ht2 => c_cnd (kz_le ht2 hl1 rfl rfl) (c_rt trivial rfl) (c_cv (qX8_markJoints hG l0) (fun _ _ => c_lI (kz_add rfl rfl) (fun t3 ht3 => (hk52 l0 _ ht3))))))
def Z8_markMade_52 (G : kdS) : Nat → Int → kzM → Option (Unit × kzM) := lp (fun _ _ _ => none) (Z8_markMade_52B G) NN
theorem qX8_markMade_52 {G : kdS} (hG : kzG G) : ∀ (a0 : Nat) (a1 : Int) (_ : kzI a1), CRu (Z8_markMade_52 G a0 a1) (X8_markMade_52 G a0 (Int32.ofInt a1)) :=
  lp_rel (R := fun (f' : Nat → Int → kzM → Option (Unit × kzM)) (f : Nat → Int32 → kdM → Option (Unit × kdM)) => ∀ (a0 : Nat) (a1 : Int) (_ : kzI a1), CRu (f' a0 a1) (f a0 (Int32.ofInt a1))) (by intros; exact c_no) (fun _ _ hf a0 a1 ha1 => qX8_markMade_52B hG hf a0 ha1) NN
def Z8_markMade_23B (G : kdS) (k23 : Nat → Int → kzM → Option (Unit × kzM)) (l0 : Nat) (l1 : Int) : kzM → Option (Unit × kzM) :=
  zgI G 8 2 l0 fun t1 =>
  zcnd (t1 ≤ l1)
  (Z8_markMade_52 G l0 (0 : Int))
  (zcv G 8 l0 (Z8_isIdle G l0 l1) fun t2 =>
  zcnd (t2 = (0 : Int))
  (zcv G 8 l0 (Z8_markLettersOf G l0 l1) fun _ =>
  Z8_markMade_44 G k23 l0 l1)
  (Z8_markMade_44 G k23 l0 l1))
theorem qX8_markMade_23B {G : kdS} (hG : kzG G) {k23' : Nat → Int → kzM → Option (Unit × kzM)} {k23 : Nat → Int32 → kdM → Option (Unit × kdM)} (hk23 : ∀ (a0 : Nat) (a1 : Int) (_ : kzI a1), CRu (k23' a0 a1) (k23 a0 (Int32.ofInt a1))) (l0 : Nat) {l1 : Int} (hl1 : kzI l1) : CRu (Z8_markMade_23B G k23' l0 l1) (X8_markMade_23B G k23 l0 (Int32.ofInt l1)) := by
  unfold Z8_markMade_23B X8_markMade_23B
  exact c_gI rfl (fun t1 ht1 => c_cnd (kz_le ht1 hl1 rfl rfl) ((qX8_markMade_52 hG l0 _ (by unfold kzI; omega))) (c_cv (qX8_isIdle hG l0 hl1) (fun t2 ht2 => c_cnd (kz_eq ht2 (by unfold kzI; omega) rfl rfl) (c_cv (qX8_markLettersOf hG l0 hl1) (fun _ _ => (qX8_markMade_44 hG hk23 l0 hl1))) ((qX8_markMade_44 hG hk23 l0 hl1)))))
def Z8_markMade_23 (G : kdS) : Nat → Int → kzM → Option (Unit × kzM) := lp (fun _ _ _ => none) (Z8_markMade_23B G) NN
theorem qX8_markMade_23 {G : kdS} (hG : kzG G) : ∀ (a0 : Nat) (a1 : Int) (_ : kzI a1), CRu (Z8_markMade_23 G a0 a1) (X8_markMade_23 G a0 (Int32.ofInt a1)) :=
  lp_rel (R := fun (f' : Nat → Int → kzM → Option (Unit × kzM)) (f : Nat → Int32 → kdM → Option (Unit × kdM)) => ∀ (a0 : Nat) (a1 : Int) (_ : kzI a1), CRu (f' a0 a1) (f a0 (Int32.ofInt a1))) (by intros; exact c_no) (fun _ _ hf a0 a1 ha1 => qX8_markMade_23B hG hf a0 ha1) NN
def Z8_markMade_2B (G : kdS) (k2 : Nat → Int → kzM → Option (Unit × kzM)) (l0 : Nat) (l1 : Int) : kzM → Option (Unit × kzM) :=
  zcnd ((60 : Int) < l1)
  (Z8_markMade_23 G l0 (0 : Int))
  (zgR G 8 7 l0 fun t1 =>
  ztZ G t1 l1 (0 : Int) <|
  zlI (l1 + (1 : Int)) fun t2 =>
  k2 l0 t2)
theorem qX8_markMade_2B {G : kdS} (hG : kzG G) {k2' : Nat → Int → kzM → Option (Unit × kzM)} {k2 : Nat → Int32 → kdM → Option (Unit × kdM)} (hk2 : ∀ (a0 : Nat) (a1 : Int) (_ : kzI a1), CRu (k2' a0 a1) (k2 a0 (Int32.ofInt a1))) (l0 : Nat) {l1 : Int} (hl1 : kzI l1) : CRu (Z8_markMade_2B G k2' l0 l1) (X8_markMade_2B G k2 l0 (Int32.ofInt l1)) := by
  unfold Z8_markMade_2B X8_markMade_2B
  exact c_cnd (kz_lt (by unfold kzI; omega) hl1 rfl rfl) ((qX8_markMade_23 hG l0 _ (by unfold kzI; omega))) (c_gR (fun t1 => c_tZ hG rfl rfl (c_lI (kz_add rfl rfl) (fun t2 ht2 => (hk2 l0 _ ht2)))))
def Z8_markMade_2 (G : kdS) : Nat → Int → kzM → Option (Unit × kzM) := lp (fun _ _ _ => none) (Z8_markMade_2B G) NN
theorem qX8_markMade_2 {G : kdS} (hG : kzG G) : ∀ (a0 : Nat) (a1 : Int) (_ : kzI a1), CRu (Z8_markMade_2 G a0 a1) (X8_markMade_2 G a0 (Int32.ofInt a1)) :=
  lp_rel (R := fun (f' : Nat → Int → kzM → Option (Unit × kzM)) (f : Nat → Int32 → kdM → Option (Unit × kdM)) => ∀ (a0 : Nat) (a1 : Int) (_ : kzI a1), CRu (f' a0 a1) (f a0 (Int32.ofInt a1))) (by intros; exact c_no) (fun _ _ hf a0 a1 ha1 => qX8_markMade_2B hG hf a0 ha1) NN
def Z8_markMade (G : kdS) (l0 : Nat) : kzM → Option (Unit × kzM) :=
  Z8_markMade_2 G l0 (0 : Int)
theorem qX8_markMade {G : kdS} (hG : kzG G) (l0 : Nat) : CRu (Z8_markMade G l0) (X8_markMade G l0) := by
  unfold Z8_markMade X8_markMade
  exact (qX8_markMade_2 hG l0 _ (by unfold kzI; omega))
def Z8_missingAt_42 (G : kdS) (k8 : Nat → Int → Int → Int → kzM → Option (Int × kzM)) (l0 : Nat) (l1 : Int) (l2 : Int) (l3 : Int) : kzM → Option (Int × kzM) :=
  zlI (l3 + (1 : Int)) fun t1 =>
  k8 l0 l1 l2 t1
theorem qX8_missingAt_42 {G : kdS} (hG : kzG G) {k8' : Nat → Int → Int → Int → kzM → Option (Int × kzM)} {k8 : Nat → Int32 → Int32 → Int32 → kdM → Option (Int32 × kdM)} (hk8 : ∀ (a0 : Nat) (a1 : Int) (_ : kzI a1) (a2 : Int) (_ : kzI a2) (a3 : Int) (_ : kzI a3), CRi (k8' a0 a1 a2 a3) (k8 a0 (Int32.ofInt a1) (Int32.ofInt a2) (Int32.ofInt a3))) (l0 : Nat) {l1 : Int} (hl1 : kzI l1) {l2 : Int} (hl2 : kzI l2) {l3 : Int} (hl3 : kzI l3) : CRi (Z8_missingAt_42 G k8' l0 l1 l2 l3) (X8_missingAt_42 G k8 l0 (Int32.ofInt l1) (Int32.ofInt l2) (Int32.ofInt l3)) := by
  unfold Z8_missingAt_42 X8_missingAt_42
  exact c_lI (kz_add rfl rfl) (fun t1 ht1 => (hk8 l0 _ hl1 _ hl2 _ ht1))
def Z8_missingAt_59 (G : kdS) (s0 : Int) : kzM → Option (Int × kzM) :=
  zrt s0
theorem qX8_missingAt_59 {G : kdS} (hG : kzG G) {s0 : Int} (hs0 : kzI s0) : CRi (Z8_missingAt_59 G s0) (X8_missingAt_59 G (Int32.ofInt s0)) := by
  unfold Z8_missingAt_59 X8_missingAt_59
  exact c_rt hs0 rfl
def Z8_missingAt_8B (G : kdS) (k8 : Nat → Int → Int → Int → kzM → Option (Int × kzM)) (l0 : Nat) (l1 : Int) (l2 : Int) (l3 : Int) : kzM → Option (Int × kzM) :=
  zcnd ((60 : Int) < l3)
  (zcnd (l1 = (-1 : Int))
  (Z8_missingAt_59 G l2)
  (Z8_missingAt_59 G (-6 : Int)))
  (zgR G 8 6 l0 fun t1 =>
  zaZ G t1 l3 fun t2 =>
  zcnd (t2 = (0 : Int))
  (Z8_missingAt_42 G k8 l0 l1 l2 l3)
  (zgR G 8 7 l0 fun t3 =>
  zaZ G t3 l3 fun t4 =>
  zcnd (t4 = (0 : Int))
  (zcnd (l2 = l1)
  (zrt l3)
  (zlI (l2 + (1 : Int)) fun t5 =>
  Z8_missingAt_42 G k8 l0 l1 t5 l3))
  (Z8_missingAt_42 G k8 l0 l1 l2 l3)))
theorem qX8_missingAt_8B {G : kdS} (hG : kzG G) {k8' : Nat → Int → Int → Int → kzM → Option (Int × kzM)} {k8 : Nat → Int32 → Int32 → Int32 → kdM → Option (Int32 × kdM)} (hk8 : ∀ (a0 : Nat) (a1 : Int) (_ : kzI a1) (a2 : Int) (_ : kzI a2) (a3 : Int) (_ : kzI a3), CRi (k8' a0 a1 a2 a3) (k8 a0 (Int32.ofInt a1) (Int32.ofInt a2) (Int32.ofInt a3))) (l0 : Nat) {l1 : Int} (hl1 : kzI l1) {l2 : Int} (hl2 : kzI l2) {l3 : Int} (hl3 : kzI l3) : CRi (Z8_missingAt_8B G k8' l0 l1 l2 l3) (X8_missingAt_8B G k8 l0 (Int32.ofInt l1) (Int32.ofInt l2) (Int32.ofInt l3)) := by
  unfold Z8_missingAt_8B X8_missingAt_8B
  exact c_cnd (kz_lt (by unfold kzI; omega) hl3 rfl rfl) (c_cnd (kz_eq hl1 (by unfold kzI; omega) rfl rfl) ((qX8_missingAt_59 hG hl2)) ((qX8_missingAt_59 hG (by unfold kzI; omega)))) (c_gR (fun t1 => c_aZ hG rfl (fun t2 ht2 => c_cnd (kz_eq ht2 (by unfold kzI; omega) rfl rfl) ((qX8_missingAt_42 hG hk8 l0 hl1 hl2 hl3)) (c_gR (fun t3 => c_aZ hG rfl (fun t4 ht4 => c_cnd (kz_eq ht4 (by unfold kzI; omega) rfl rfl) (c_cnd (kz_eq hl2 hl1 rfl rfl) (c_rt hl3 rfl) (c_lI (kz_add rfl rfl) (fun t5 ht5 => (qX8_missingAt_42 hG hk8 l0 hl1 ht5 hl3)))) ((qX8_missingAt_42 hG hk8 l0 hl1 hl2 hl3))))))))
def Z8_missingAt_8 (G : kdS) : Nat → Int → Int → Int → kzM → Option (Int × kzM) := lp (fun _ _ _ _ _ => none) (Z8_missingAt_8B G) NN
theorem qX8_missingAt_8 {G : kdS} (hG : kzG G) : ∀ (a0 : Nat) (a1 : Int) (_ : kzI a1) (a2 : Int) (_ : kzI a2) (a3 : Int) (_ : kzI a3), CRi (Z8_missingAt_8 G a0 a1 a2 a3) (X8_missingAt_8 G a0 (Int32.ofInt a1) (Int32.ofInt a2) (Int32.ofInt a3)) :=
  lp_rel (R := fun (f' : Nat → Int → Int → Int → kzM → Option (Int × kzM)) (f : Nat → Int32 → Int32 → Int32 → kdM → Option (Int32 × kdM)) => ∀ (a0 : Nat) (a1 : Int) (_ : kzI a1) (a2 : Int) (_ : kzI a2) (a3 : Int) (_ : kzI a3), CRi (f' a0 a1 a2 a3) (f a0 (Int32.ofInt a1) (Int32.ofInt a2) (Int32.ofInt a3))) (by intros; exact c_no) (fun _ _ hf a0 a1 ha1 a2 ha2 a3 ha3 => qX8_missingAt_8B hG hf a0 ha1 ha2 ha3) NN
def Z8_missingAt (G : kdS) (l0 : Nat) (l1 : Int) : kzM → Option (Int × kzM) :=
  zcv G 8 l0 (Z8_markMade G l0) fun _ =>
  Z8_missingAt_8 G l0 l1 (0 : Int) (1 : Int)
theorem qX8_missingAt {G : kdS} (hG : kzG G) (l0 : Nat) {l1 : Int} (hl1 : kzI l1) : CRi (Z8_missingAt G l0 l1) (X8_missingAt G l0 (Int32.ofInt l1)) := by
  unfold Z8_missingAt X8_missingAt
  exact c_cv (qX8_markMade hG l0) (fun _ _ => (qX8_missingAt_8 hG l0 _ hl1 _ (by unfold kzI; omega) _ (by unfold kzI; omega)))
def Z4_strokes (G : kdS) (l0 : Nat) : kzM → Option (Nat × kzM) :=
  zgR G 4 0 l0 fun t1 =>
  zrt t1
theorem qX4_strokes {G : kdS} (hG : kzG G) (l0 : Nat) : CRn (Z4_strokes G l0) (X4_strokes G l0) := by
  unfold Z4_strokes X4_strokes
  exact c_gR (fun t1 => c_rt trivial rfl)
def Z4_signs (G : kdS) (l0 : Nat) : kzM → Option (Nat × kzM) :=
  zgR G 4 3 l0 fun t1 =>
  zrt t1
theorem qX4_signs {G : kdS} (hG : kzG G) (l0 : Nat) : CRn (Z4_signs G l0) (X4_signs G l0) := by
  unfold Z4_signs X4_signs
  exact c_gR (fun t1 => c_rt trivial rfl)
def Z4_tongue (G : kdS) (l0 : Nat) : kzM → Option (Int × kzM) :=
  zgI G 4 4 l0 fun t1 =>
  zrt t1
theorem qX4_tongue {G : kdS} (hG : kzG G) (l0 : Nat) : CRi (Z4_tongue G l0) (X4_tongue G l0) := by
  unfold Z4_tongue X4_tongue
  exact c_gI rfl (fun t1 ht1 => c_rt ht1 rfl)
def Z4_setTongue (G : kdS) (l0 : Nat) (l1 : Int) : kzM → Option (Int × kzM) :=
  zgI G 4 4 l0 fun t1 =>
  zsI G 4 4 l0 l1 <|
  zrt t1
theorem qX4_setTongue {G : kdS} (hG : kzG G) (l0 : Nat) {l1 : Int} (hl1 : kzI l1) : CRi (Z4_setTongue G l0 l1) (X4_setTongue G l0 (Int32.ofInt l1)) := by
  unfold Z4_setTongue X4_setTongue
  exact c_gI rfl (fun t1 ht1 => c_sI rfl hl1 rfl (c_rt ht1 rfl))
def Z4_cut_87 (G : kdS) (k18 : Nat → Nat → Int → kzM → Option (Unit × kzM)) (l0 : Nat) (l1 : Nat) (s0 : Int) (s1 : Int) : kzM → Option (Unit × kzM) :=
  zlI (s0 + s1) fun t1 =>
  k18 l0 l1 t1
theorem qX4_cut_87 {G : kdS} (hG : kzG G) {k18' : Nat → Nat → Int → kzM → Option (Unit × kzM)} {k18 : Nat → Nat → Int32 → kdM → Option (Unit × kdM)} (hk18 : ∀ (a0 : Nat) (a1 : Nat) (a2 : Int) (_ : kzI a2), CRu (k18' a0 a1 a2) (k18 a0 a1 (Int32.ofInt a2))) (l0 : Nat) (l1 : Nat) {s0 : Int} (hs0 : kzI s0) {s1 : Int} (hs1 : kzI s1) : CRu (Z4_cut_87 G k18' l0 l1 s0 s1) (X4_cut_87 G k18 l0 l1 (Int32.ofInt s0) (Int32.ofInt s1)) := by
  unfold Z4_cut_87 X4_cut_87
  exact c_lI (kz_add rfl rfl) (fun t1 ht1 => (hk18 l0 l1 _ ht1))
def Z4_cut_54 (G : kdS) (k18 : Nat → Nat → Int → kzM → Option (Unit × kzM)) (l0 : Nat) (l1 : Nat) (l2 : Int) (l3 : Int) (s0 : Nat) (s1 : Int) : kzM → Option (Unit × kzM) :=
  zcv G 6 s0 (Z6_add G s0 s1) fun _ =>
  zgR G 4 2 l0 fun t1 =>
  zcv G 6 t1 (Z6_add G t1 l2) fun _ =>
  zcnd (l3 = (-1 : Int))
  (Z4_cut_87 G k18 l0 l1 l2 (1 : Int))
  (zcv G 8 l1 (Z8_keysOfRule G l1 l3) fun t2 =>
  zcv G 6 t2 (Z6_size G t2) fun t3 =>
  zlI (zmax (1 : Int) t3) fun u1 =>
  Z4_cut_87 G k18 l0 l1 l2 u1)
theorem qX4_cut_54 {G : kdS} (hG : kzG G) {k18' : Nat → Nat → Int → kzM → Option (Unit × kzM)} {k18 : Nat → Nat → Int32 → kdM → Option (Unit × kdM)} (hk18 : ∀ (a0 : Nat) (a1 : Nat) (a2 : Int) (_ : kzI a2), CRu (k18' a0 a1 a2) (k18 a0 a1 (Int32.ofInt a2))) (l0 : Nat) (l1 : Nat) {l2 : Int} (hl2 : kzI l2) {l3 : Int} (hl3 : kzI l3) (s0 : Nat) {s1 : Int} (hs1 : kzI s1) : CRu (Z4_cut_54 G k18' l0 l1 l2 l3 s0 s1) (X4_cut_54 G k18 l0 l1 (Int32.ofInt l2) (Int32.ofInt l3) s0 (Int32.ofInt s1)) := by
  unfold Z4_cut_54 X4_cut_54
  exact c_cv (qX6_add hG s0 hs1) (fun _ _ => c_gR (fun t1 => c_cv (qX6_add hG t1 hl2) (fun _ _ => c_cnd (kz_eq hl3 (by unfold kzI; omega) rfl rfl) ((qX4_cut_87 hG hk18 l0 l1 hl2 (by unfold kzI; omega))) (c_cv (qX8_keysOfRule hG l1 hl3) (fun t2 _ => c_cv (qX6_size hG t2) (fun t3 ht3 => c_rg (kz_max (by unfold kzI; omega) ht3 rfl rfl) fun u1 r1 e1 => (e1 ▸ (qX4_cut_87 hG hk18 l0 l1 hl2 r1))))))))
def Z4_cut_18B (G : kdS) (k18 : Nat → Nat → Int → kzM → Option (Unit × kzM)) (l0 : Nat) (l1 : Nat) (l2 : Int) : kzM → Option (Unit × kzM) :=
  zgR G 4 0 l0 fun t1 =>
  zcv G 6 t1 (Z6_size G t1) fun t2 =>
  zcnd (t2 ≤ l2)
  (zrt ())
  (zgR G 4 0 l0 fun t3 =>
  zcv G 8 l1 (Z8_longestRule G l1 t3 l2) fun t4 =>
  zgR G 4 1 l0 fun t5 =>
  zcnd (t4 = (-1 : Int))
  (Z4_cut_54 G k18 l0 l1 l2 t4 t5 (99 : Int))
  (Z4_cut_54 G k18 l0 l1 l2 t4 t5 t4))
theorem qX4_cut_18B {G : kdS} (hG : kzG G) {k18' : Nat → Nat → Int → kzM → Option (Unit × kzM)} {k18 : Nat → Nat → Int32 → kdM → Option (Unit × kdM)} (hk18 : ∀ (a0 : Nat) (a1 : Nat) (a2 : Int) (_ : kzI a2), CRu (k18' a0 a1 a2) (k18 a0 a1 (Int32.ofInt a2))) (l0 : Nat) (l1 : Nat) {l2 : Int} (hl2 : kzI l2) : CRu (Z4_cut_18B G k18' l0 l1 l2) (X4_cut_18B G k18 l0 l1 (Int32.ofInt l2)) := by
  unfold Z4_cut_18B X4_cut_18B
  exact c_gR (fun t1 => c_cv (qX6_size hG t1) (fun t2 ht2 => c_cnd (kz_le ht2 hl2 rfl rfl) (c_rt trivial rfl) (c_gR (fun t3 => c_cv (qX8_longestRule hG l1 t3 hl2) (fun t4 ht4 => c_gR (fun t5 => c_cnd (kz_eq ht4 (by unfold kzI; omega) rfl rfl) ((qX4_cut_54 hG hk18 l0 l1 hl2 ht4 t5 (by unfold kzI; omega))) ((qX4_cut_54 hG hk18 l0 l1 hl2 ht4 t5 ht4))))))))
def Z4_cut_18 (G : kdS) : Nat → Nat → Int → kzM → Option (Unit × kzM) := lp (fun _ _ _ _ => none) (Z4_cut_18B G) NN
theorem qX4_cut_18 {G : kdS} (hG : kzG G) : ∀ (a0 : Nat) (a1 : Nat) (a2 : Int) (_ : kzI a2), CRu (Z4_cut_18 G a0 a1 a2) (X4_cut_18 G a0 a1 (Int32.ofInt a2)) :=
  lp_rel (R := fun (f' : Nat → Nat → Int → kzM → Option (Unit × kzM)) (f : Nat → Nat → Int32 → kdM → Option (Unit × kdM)) => ∀ (a0 : Nat) (a1 : Nat) (a2 : Int) (_ : kzI a2), CRu (f' a0 a1 a2) (f a0 a1 (Int32.ofInt a2))) (by intros; exact c_no) (fun _ _ hf a0 a1 a2 ha2 => qX4_cut_18B hG hf a0 a1 ha2) NN
def Z4_cut (G : kdS) (l0 : Nat) (l1 : Nat) : kzM → Option (Unit × kzM) :=
  zgR G 4 1 l0 fun t1 =>
  zcv G 6 t1 (Z6_clear G t1) fun t2 =>
  zgR G 4 2 l0 fun t3 =>
  zcv G 6 t3 (Z6_clear G t3) fun t4 =>
  Z4_cut_18 G l0 l1 (0 : Int)
theorem qX4_cut {G : kdS} (hG : kzG G) (l0 : Nat) (l1 : Nat) : CRu (Z4_cut G l0 l1) (X4_cut G l0 l1) := by
  unfold Z4_cut X4_cut
  exact c_gR (fun t1 => c_cv (qX6_clear hG t1) (fun t2 ht2 => c_gR (fun t3 => c_cv (qX6_clear hG t3) (fun t4 ht4 => (qX4_cut_18 hG l0 l1 _ (by unfold kzI; omega))))))
def Z4_pieceAt_49 (G : kdS) (s0 : Int) : kzM → Option (Int × kzM) :=
  zrt s0
theorem qX4_pieceAt_49 {G : kdS} (hG : kzG G) {s0 : Int} (hs0 : kzI s0) : CRi (Z4_pieceAt_49 G s0) (X4_pieceAt_49 G (Int32.ofInt s0)) := by
  unfold Z4_pieceAt_49 X4_pieceAt_49
  exact c_rt hs0 rfl
def Z4_pieceAt (G : kdS) (l0 : Nat) (l1 : Int) : kzM → Option (Int × kzM) :=
  zcnd (l1 = (-1 : Int))
  (zgR G 4 2 l0 fun t1 =>
  zcv G 6 t1 (Z6_size G t1) fun t2 =>
  zrt t2)
  (zgR G 4 2 l0 fun t3 =>
  zcv G 6 t3 (Z6_has G t3 l1) fun t4 =>
  zcnd (t4 = (0 : Int))
  (Z4_pieceAt_49 G (-6 : Int))
  (zgR G 4 1 l0 fun t5 =>
  zcv G 6 t5 (Z6_at G t5 l1) fun t6 =>
  zgR G 4 2 l0 fun t7 =>
  zcv G 6 t7 (Z6_at G t7 l1) fun t8 =>
  zlI (((100 : Int) * t6) + t8) fun u1 =>
  Z4_pieceAt_49 G u1))
theorem qX4_pieceAt {G : kdS} (hG : kzG G) (l0 : Nat) {l1 : Int} (hl1 : kzI l1) : CRi (Z4_pieceAt G l0 l1) (X4_pieceAt G l0 (Int32.ofInt l1)) := by
  unfold Z4_pieceAt X4_pieceAt
  exact c_cnd (kz_eq hl1 (by unfold kzI; omega) rfl rfl) (c_gR (fun t1 => c_cv (qX6_size hG t1) (fun t2 ht2 => c_rt ht2 rfl))) (c_gR (fun t3 => c_cv (qX6_has hG t3 hl1) (fun t4 ht4 => c_cnd (kz_eq ht4 (by unfold kzI; omega) rfl rfl) ((qX4_pieceAt_49 hG (by unfold kzI; omega))) (c_gR (fun t5 => c_cv (qX6_at hG t5 hl1) (fun t6 ht6 => c_gR (fun t7 => c_cv (qX6_at hG t7 hl1) (fun t8 ht8 => c_rg (kz_add (kz_mul rfl rfl) rfl) fun u1 r1 e1 => (e1 ▸ (qX4_pieceAt_49 hG r1))))))))))
def Z4_onward_43 (G : kdS) (s0 : Nat) (s1 : Nat) (s2 : Int) : kzM → Option (Int × kzM) :=
  zcv G 8 s0 (Z8_keysBehind G s0 s1 s2) fun t1 =>
  zrt t1
theorem qX4_onward_43 {G : kdS} (hG : kzG G) (s0 : Nat) (s1 : Nat) {s2 : Int} (hs2 : kzI s2) : CRi (Z4_onward_43 G s0 s1 s2) (X4_onward_43 G s0 s1 (Int32.ofInt s2)) := by
  unfold Z4_onward_43 X4_onward_43
  exact c_cv (qX8_keysBehind hG s0 s1 hs2) (fun t1 ht1 => c_rt ht1 rfl)
def Z4_onward (G : kdS) (l0 : Nat) (l1 : Nat) : kzM → Option (Int × kzM) :=
  zcv G 4 l0 (Z4_cut G l0 l1) fun _ =>
  zgR G 4 2 l0 fun t1 =>
  zcv G 6 t1 (Z6_size G t1) fun t2 =>
  zlI (t2 - (1 : Int)) fun t3 =>
  zgR G 4 0 l0 fun t4 =>
  zgR G 4 2 l0 fun t5 =>
  zcv G 6 t5 (Z6_has G t5 t3) fun t6 =>
  zcnd (t6 = (0 : Int))
  (Z4_onward_43 G l1 t4 (0 : Int))
  (zgR G 4 2 l0 fun t7 =>
  zcv G 6 t7 (Z6_at G t7 t3) fun t8 =>
  Z4_onward_43 G l1 t4 t8)
theorem qX4_onward {G : kdS} (hG : kzG G) (l0 : Nat) (l1 : Nat) : CRi (Z4_onward G l0 l1) (X4_onward G l0 l1) := by
  unfold Z4_onward X4_onward
  exact c_cv (qX4_cut hG l0 l1) (fun _ _ => c_gR (fun t1 => c_cv (qX6_size hG t1) (fun t2 ht2 => c_lI (kz_sub rfl rfl) (fun t3 ht3 => c_gR (fun t4 => c_gR (fun t5 => c_cv (qX6_has hG t5 ht3) (fun t6 ht6 => c_cnd (kz_eq ht6 (by unfold kzI; omega) rfl rfl) ((qX4_onward_43 hG l1 t4 (by unfold kzI; omega))) (c_gR (fun t7 => c_cv (qX6_at hG t7 ht3) (fun t8 ht8 => (qX4_onward_43 hG l1 t4 ht8)))))))))))
def Z4_jointWithLast_35 (G : kdS) (s0 : Int) : kzM → Option (Int × kzM) :=
  zrt s0
theorem qX4_jointWithLast_35 {G : kdS} (hG : kzG G) {s0 : Int} (hs0 : kzI s0) : CRi (Z4_jointWithLast_35 G s0) (X4_jointWithLast_35 G (Int32.ofInt s0)) := by
  unfold Z4_jointWithLast_35 X4_jointWithLast_35
  exact c_rt hs0 rfl
def Z4_jointWithLast (G : kdS) (l0 : Nat) (l1 : Nat) (l2 : Int) : kzM → Option (Int × kzM) :=
  zgR G 4 3 l0 fun t1 =>
  zcv G 6 t1 (Z6_isEmpty G t1) fun t2 =>
  zcnd (t2 = (0 : Int))
  (zgR G 4 3 l0 fun t3 =>
  zgR G 4 3 l0 fun t4 =>
  zcv G 6 t4 (Z6_size G t4) fun t5 =>
  zlI (t5 - (1 : Int)) fun u1 =>
  zcv G 6 t3 (Z6_at G t3 u1) fun t6 =>
  zcv G 8 l1 (Z8_joined G l1 t6 l2) fun t7 =>
  Z4_jointWithLast_35 G t7)
  (Z4_jointWithLast_35 G (0 : Int))
theorem qX4_jointWithLast {G : kdS} (hG : kzG G) (l0 : Nat) (l1 : Nat) {l2 : Int} (hl2 : kzI l2) : CRi (Z4_jointWithLast G l0 l1 l2) (X4_jointWithLast G l0 l1 (Int32.ofInt l2)) := by
  unfold Z4_jointWithLast X4_jointWithLast
  exact c_gR (fun t1 => c_cv (qX6_isEmpty hG t1) (fun t2 ht2 => c_cnd (kz_eq ht2 (by unfold kzI; omega) rfl rfl) (c_gR (fun t3 => c_gR (fun t4 => c_cv (qX6_size hG t4) (fun t5 ht5 => c_rg (kz_sub rfl rfl) fun u1 r1 e1 => c_cv (e1 ▸ (qX6_at hG t3 r1)) (fun t6 ht6 => c_cv (qX8_joined hG l1 ht6 hl2) (fun t7 ht7 => (qX4_jointWithLast_35 hG ht7))))))) ((qX4_jointWithLast_35 hG (by unfold kzI; omega)))))
def Z4_arrive_56 (G : kdS) (l0 : Nat) (l3 : Int) : kzM → Option (Unit × kzM) :=
  zgR G 4 3 l0 fun t1 =>
  zcv G 6 t1 (Z6_add G t1 l3) fun _ =>
  zrt ()
theorem qX4_arrive_56 {G : kdS} (hG : kzG G) (l0 : Nat) {l3 : Int} (hl3 : kzI l3) : CRu (Z4_arrive_56 G l0 l3) (X4_arrive_56 G l0 (Int32.ofInt l3)) := by
  unfold Z4_arrive_56 X4_arrive_56
  exact c_gR (fun t1 => c_cv (qX6_add hG t1 hl3) (fun _ _ => c_rt trivial rfl))
def Z4_arrive_10B (G : kdS) (k10 : Nat → Nat → Int → Int → kzM → Option (Unit × kzM)) (l0 : Nat) (l1 : Nat) (l3 : Int) (l4 : Int) : kzM → Option (Unit × kzM) :=
  zcnd (l4 = (0 : Int))
  (Z4_arrive_56 G l0 l3)
  (zgR G 4 3 l0 fun t1 =>
  zcv G 6 t1 (Z6_isEmpty G t1) fun t2 =>
  zcnd (t2 = (0 : Int))
  (zgR G 4 3 l0 fun t3 =>
  zgR G 4 3 l0 fun t4 =>
  zcv G 6 t4 (Z6_size G t4) fun t5 =>
  zlI (t5 - (1 : Int)) fun u1 =>
  zcv G 6 t3 (Z6_remove G t3 u1) fun t6 =>
  zcv G 4 l0 (Z4_jointWithLast G l0 l1 l4) fun t7 =>
  k10 l0 l1 l4 t7)
  (Z4_arrive_56 G l0 l3))
theorem qX4_arrive_10B {G : kdS} (hG : kzG G) {k10' : Nat → Nat → Int → Int → kzM → Option (Unit × kzM)} {k10 : Nat → Nat → Int32 → Int32 → kdM → Option (Unit × kdM)} (hk10 : ∀ (a0 : Nat) (a1 : Nat) (a2 : Int) (_ : kzI a2) (a3 : Int) (_ : kzI a3), CRu (k10' a0 a1 a2 a3) (k10 a0 a1 (Int32.ofInt a2) (Int32.ofInt a3))) (l0 : Nat) (l1 : Nat) {l3 : Int} (hl3 : kzI l3) {l4 : Int} (hl4 : kzI l4) : CRu (Z4_arrive_10B G k10' l0 l1 l3 l4) (X4_arrive_10B G k10 l0 l1 (Int32.ofInt l3) (Int32.ofInt l4)) := by
  unfold Z4_arrive_10B X4_arrive_10B
  exact c_cnd (kz_eq hl4 (by unfold kzI; omega) rfl rfl) ((qX4_arrive_56 hG l0 hl3)) (c_gR (fun t1 => c_cv (qX6_isEmpty hG t1) (fun t2 ht2 => c_cnd (kz_eq ht2 (by unfold kzI; omega) rfl rfl) (c_gR (fun t3 => c_gR (fun t4 => c_cv (qX6_size hG t4) (fun t5 ht5 => c_rg (kz_sub rfl rfl) fun u1 r1 e1 => c_cv (e1 ▸ (qX6_remove hG t3 r1)) (fun t6 ht6 => c_cv (qX4_jointWithLast hG l0 l1 hl4) (fun t7 ht7 => (hk10 l0 l1 _ hl4 _ ht7))))))) ((qX4_arrive_56 hG l0 hl3)))))
def Z4_arrive_10 (G : kdS) : Nat → Nat → Int → Int → kzM → Option (Unit × kzM) := lp (fun _ _ _ _ _ => none) (Z4_arrive_10B G) NN
theorem qX4_arrive_10 {G : kdS} (hG : kzG G) : ∀ (a0 : Nat) (a1 : Nat) (a2 : Int) (_ : kzI a2) (a3 : Int) (_ : kzI a3), CRu (Z4_arrive_10 G a0 a1 a2 a3) (X4_arrive_10 G a0 a1 (Int32.ofInt a2) (Int32.ofInt a3)) :=
  lp_rel (R := fun (f' : Nat → Nat → Int → Int → kzM → Option (Unit × kzM)) (f : Nat → Nat → Int32 → Int32 → kdM → Option (Unit × kdM)) => ∀ (a0 : Nat) (a1 : Nat) (a2 : Int) (_ : kzI a2) (a3 : Int) (_ : kzI a3), CRu (f' a0 a1 a2 a3) (f a0 a1 (Int32.ofInt a2) (Int32.ofInt a3))) (by intros; exact c_no) (fun _ _ hf a0 a1 a2 ha2 a3 ha3 => qX4_arrive_10B hG hf a0 a1 ha2 ha3) NN
def Z4_arrive (G : kdS) (l0 : Nat) (l1 : Nat) (l2 : Int) : kzM → Option (Unit × kzM) :=
  zcv G 4 l0 (Z4_jointWithLast G l0 l1 l2) fun t1 =>
  Z4_arrive_10 G l0 l1 l2 t1
theorem qX4_arrive {G : kdS} (hG : kzG G) (l0 : Nat) (l1 : Nat) {l2 : Int} (hl2 : kzI l2) : CRu (Z4_arrive G l0 l1 l2) (X4_arrive G l0 l1 (Int32.ofInt l2)) := by
  unfold Z4_arrive X4_arrive
  exact c_cv (qX4_jointWithLast hG l0 l1 hl2) (fun t1 ht1 => (qX4_arrive_10 hG l0 l1 _ hl2 _ ht1))
def Z4_write_106 (G : kdS) (k15 : Nat → Nat → Int → kzM → Option (Unit × kzM)) (l0 : Nat) (l1 : Nat) (l2 : Int) : kzM → Option (Unit × kzM) :=
  zlI (l2 + (1 : Int)) fun t1 =>
  k15 l0 l1 t1
theorem qX4_write_106 {G : kdS} (hG : kzG G) {k15' : Nat → Nat → Int → kzM → Option (Unit × kzM)} {k15 : Nat → Nat → Int32 → kdM → Option (Unit × kdM)} (hk15 : ∀ (a0 : Nat) (a1 : Nat) (a2 : Int) (_ : kzI a2), CRu (k15' a0 a1 a2) (k15 a0 a1 (Int32.ofInt a2))) (l0 : Nat) (l1 : Nat) {l2 : Int} (hl2 : kzI l2) : CRu (Z4_write_106 G k15' l0 l1 l2) (X4_write_106 G k15 l0 l1 (Int32.ofInt l2)) := by
  unfold Z4_write_106 X4_write_106
  exact c_lI (kz_add rfl rfl) (fun t1 ht1 => (hk15 l0 l1 _ ht1))
def Z4_write_78B (G : kdS) (k15 : Nat → Nat → Int → kzM → Option (Unit × kzM)) (k78 : Nat → Nat → Int → Nat → Int → kzM → Option (Unit × kzM)) (l0 : Nat) (l1 : Nat) (l2 : Int) (l4 : Nat) (l5 : Int) : kzM → Option (Unit × kzM) :=
  zcv G 6 l4 (Z6_size G l4) fun t1 =>
  zcnd (t1 ≤ l5)
  (Z4_write_106 G k15 l0 l1 l2)
  (zcv G 6 l4 (Z6_at G l4 l5) fun t2 =>
  zcv G 4 l0 (Z4_arrive G l0 l1 t2) fun _ =>
  zlI (l5 + (1 : Int)) fun t3 =>
  k78 l0 l1 l2 l4 t3)
theorem qX4_write_78B {G : kdS} (hG : kzG G) {k15' : Nat → Nat → Int → kzM → Option (Unit × kzM)} {k15 : Nat → Nat → Int32 → kdM → Option (Unit × kdM)} (hk15 : ∀ (a0 : Nat) (a1 : Nat) (a2 : Int) (_ : kzI a2), CRu (k15' a0 a1 a2) (k15 a0 a1 (Int32.ofInt a2))) {k78' : Nat → Nat → Int → Nat → Int → kzM → Option (Unit × kzM)} {k78 : Nat → Nat → Int32 → Nat → Int32 → kdM → Option (Unit × kdM)} (hk78 : ∀ (a0 : Nat) (a1 : Nat) (a2 : Int) (_ : kzI a2) (a3 : Nat) (a4 : Int) (_ : kzI a4), CRu (k78' a0 a1 a2 a3 a4) (k78 a0 a1 (Int32.ofInt a2) a3 (Int32.ofInt a4))) (l0 : Nat) (l1 : Nat) {l2 : Int} (hl2 : kzI l2) (l4 : Nat) {l5 : Int} (hl5 : kzI l5) : CRu (Z4_write_78B G k15' k78' l0 l1 l2 l4 l5) (X4_write_78B G k15 k78 l0 l1 (Int32.ofInt l2) l4 (Int32.ofInt l5)) := by
  unfold Z4_write_78B X4_write_78B
  exact c_cv (qX6_size hG l4) (fun t1 ht1 => c_cnd (kz_le ht1 hl5 rfl rfl) ((qX4_write_106 hG hk15 l0 l1 hl2)) (c_cv (qX6_at hG l4 hl5) (fun t2 ht2 => c_cv (qX4_arrive hG l0 l1 ht2) (fun _ _ => c_lI (kz_add rfl rfl) (fun t3 ht3 => (hk78 l0 l1 _ hl2 l4 _ ht3))))))
def Z4_write_78 (G : kdS) (k15 : Nat → Nat → Int → kzM → Option (Unit × kzM)) : Nat → Nat → Int → Nat → Int → kzM → Option (Unit × kzM) := lp (fun _ _ _ _ _ _ => none) (Z4_write_78B G k15) NN
theorem qX4_write_78 {G : kdS} (hG : kzG G) {k15' : Nat → Nat → Int → kzM → Option (Unit × kzM)} {k15 : Nat → Nat → Int32 → kdM → Option (Unit × kdM)} (hk15 : ∀ (a0 : Nat) (a1 : Nat) (a2 : Int) (_ : kzI a2), CRu (k15' a0 a1 a2) (k15 a0 a1 (Int32.ofInt a2))) : ∀ (a0 : Nat) (a1 : Nat) (a2 : Int) (_ : kzI a2) (a3 : Nat) (a4 : Int) (_ : kzI a4), CRu (Z4_write_78 G k15' a0 a1 a2 a3 a4) (X4_write_78 G k15 a0 a1 (Int32.ofInt a2) a3 (Int32.ofInt a4)) :=
  lp_rel (R := fun (f' : Nat → Nat → Int → Nat → Int → kzM → Option (Unit × kzM)) (f : Nat → Nat → Int32 → Nat → Int32 → kdM → Option (Unit × kdM)) => ∀ (a0 : Nat) (a1 : Nat) (a2 : Int) (_ : kzI a2) (a3 : Nat) (a4 : Int) (_ : kzI a4), CRu (f' a0 a1 a2 a3 a4) (f a0 a1 (Int32.ofInt a2) a3 (Int32.ofInt a4))) (by intros; exact c_no) (fun _ _ hf a0 a1 a2 ha2 a3 a4 ha4 => qX4_write_78B hG hk15 hf a0 a1 ha2 a3 ha4) NN
def Z4_write_15B (G : kdS) (k15 : Nat → Nat → Int → kzM → Option (Unit × kzM)) (l0 : Nat) (l1 : Nat) (l2 : Int) : kzM → Option (Unit × kzM) :=
  zgR G 4 2 l0 fun t1 =>
  zcv G 6 t1 (Z6_size G t1) fun t2 =>
  zcnd (t2 ≤ l2)
  (zrt ())
  (zgR G 4 1 l0 fun t3 =>
  zcv G 6 t3 (Z6_at G t3 l2) fun t4 =>
  zcnd (t4 = (99 : Int))
  (zgR G 4 3 l0 fun t5 =>
  zgR G 4 0 l0 fun t6 =>
  zgR G 4 2 l0 fun t7 =>
  zcv G 6 t7 (Z6_at G t7 l2) fun t8 =>
  zcv G 6 t6 (Z6_at G t6 t8) fun t9 =>
  zlI ((-1 : Int) - t9) fun u1 =>
  zcv G 6 t5 (Z6_add G t5 u1) fun _ =>
  Z4_write_106 G k15 l0 l1 l2)
  (zcv G 8 l1 (Z8_lettersOfRule G l1 t4) fun t10 =>
  Z4_write_78 G k15 l0 l1 l2 t10 (0 : Int)))
theorem qX4_write_15B {G : kdS} (hG : kzG G) {k15' : Nat → Nat → Int → kzM → Option (Unit × kzM)} {k15 : Nat → Nat → Int32 → kdM → Option (Unit × kdM)} (hk15 : ∀ (a0 : Nat) (a1 : Nat) (a2 : Int) (_ : kzI a2), CRu (k15' a0 a1 a2) (k15 a0 a1 (Int32.ofInt a2))) (l0 : Nat) (l1 : Nat) {l2 : Int} (hl2 : kzI l2) : CRu (Z4_write_15B G k15' l0 l1 l2) (X4_write_15B G k15 l0 l1 (Int32.ofInt l2)) := by
  unfold Z4_write_15B X4_write_15B
  exact c_gR (fun t1 => c_cv (qX6_size hG t1) (fun t2 ht2 => c_cnd (kz_le ht2 hl2 rfl rfl) (c_rt trivial rfl) (c_gR (fun t3 => c_cv (qX6_at hG t3 hl2) (fun t4 ht4 => c_cnd (kz_eq ht4 (by unfold kzI; omega) rfl rfl) (c_gR (fun t5 => c_gR (fun t6 => c_gR (fun t7 => c_cv (qX6_at hG t7 hl2) (fun t8 ht8 => c_cv (qX6_at hG t6 ht8) (fun t9 ht9 => c_rg (kz_sub rfl rfl) fun u1 r1 e1 => c_cv (e1 ▸ (qX6_add hG t5 r1)) (fun _ _ => (qX4_write_106 hG hk15 l0 l1 hl2)))))))) (c_cv (qX8_lettersOfRule hG l1 ht4) (fun t10 _ => (qX4_write_78 hG hk15 l0 l1 _ hl2 t10 _ (by unfold kzI; omega)))))))))
def Z4_write_15 (G : kdS) : Nat → Nat → Int → kzM → Option (Unit × kzM) := lp (fun _ _ _ _ => none) (Z4_write_15B G) NN
theorem qX4_write_15 {G : kdS} (hG : kzG G) : ∀ (a0 : Nat) (a1 : Nat) (a2 : Int) (_ : kzI a2), CRu (Z4_write_15 G a0 a1 a2) (X4_write_15 G a0 a1 (Int32.ofInt a2)) :=
  lp_rel (R := fun (f' : Nat → Nat → Int → kzM → Option (Unit × kzM)) (f : Nat → Nat → Int32 → kdM → Option (Unit × kdM)) => ∀ (a0 : Nat) (a1 : Nat) (a2 : Int) (_ : kzI a2), CRu (f' a0 a1 a2) (f a0 a1 (Int32.ofInt a2))) (by intros; exact c_no) (fun _ _ hf a0 a1 a2 ha2 => qX4_write_15B hG hf a0 a1 ha2) NN
def Z4_write (G : kdS) (l0 : Nat) (l1 : Nat) : kzM → Option (Unit × kzM) :=
  zcv G 4 l0 (Z4_cut G l0 l1) fun _ =>
  zgR G 4 3 l0 fun t1 =>
  zcv G 6 t1 (Z6_clear G t1) fun t2 =>
  Z4_write_15 G l0 l1 (0 : Int)
theorem qX4_write {G : kdS} (hG : kzG G) (l0 : Nat) (l1 : Nat) : CRu (Z4_write G l0 l1) (X4_write G l0 l1) := by
  unfold Z4_write X4_write
  exact c_cv (qX4_cut hG l0 l1) (fun _ _ => c_gR (fun t1 => c_cv (qX6_clear hG t1) (fun t2 ht2 => (qX4_write_15 hG l0 l1 _ (by unfold kzI; omega)))))
def Z10_size (G : kdS) (l0 : Nat) : kzM → Option (Int × kzM) :=
  zgR G 10 0 l0 fun t1 =>
  zcv G 6 t1 (Z6_size G t1) fun t2 =>
  zrt t2
theorem qX10_size {G : kdS} (hG : kzG G) (l0 : Nat) : CRi (Z10_size G l0) (X10_size G l0) := by
  unfold Z10_size X10_size
  exact c_gR (fun t1 => c_cv (qX6_size hG t1) (fun t2 ht2 => c_rt ht2 rfl))
def Z10_isFull (G : kdS) (l0 : Nat) : kzM → Option (Int × kzM) :=
  zgR G 10 0 l0 fun t1 =>
  zcv G 6 t1 (Z6_isFull G t1) fun t2 =>
  zrt (zB t2)
theorem qX10_isFull {G : kdS} (hG : kzG G) (l0 : Nat) : CRi (Z10_isFull G l0) (X10_isFull G l0) := by
  unfold Z10_isFull X10_isFull
  exact c_gR (fun t1 => c_cv (qX6_isFull hG t1) (fun t2 ht2 => c_rt (kz_BI _) (kz_B rfl)))
def Z10_has (G : kdS) (l0 : Nat) (l1 : Int) : kzM → Option (Int × kzM) :=
  zgR G 10 0 l0 fun t1 =>
  zcv G 6 t1 (Z6_has G t1 l1) fun t2 =>
  zrt (zB t2)
theorem qX10_has {G : kdS} (hG : kzG G) (l0 : Nat) {l1 : Int} (hl1 : kzI l1) : CRi (Z10_has G l0 l1) (X10_has G l0 (Int32.ofInt l1)) := by
  unfold Z10_has X10_has
  exact c_gR (fun t1 => c_cv (qX6_has hG t1 hl1) (fun t2 ht2 => c_rt (kz_BI _) (kz_B rfl)))
def Z10_tongueOf (G : kdS) (l0 : Nat) (l1 : Int) : kzM → Option (Int × kzM) :=
  zgR G 10 0 l0 fun t1 =>
  zcv G 6 t1 (Z6_at G t1 l1) fun t2 =>
  zrt t2
theorem qX10_tongueOf {G : kdS} (hG : kzG G) (l0 : Nat) {l1 : Int} (hl1 : kzI l1) : CRi (Z10_tongueOf G l0 l1) (X10_tongueOf G l0 (Int32.ofInt l1)) := by
  unfold Z10_tongueOf X10_tongueOf
  exact c_gR (fun t1 => c_cv (qX6_at hG t1 hl1) (fun t2 ht2 => c_rt ht2 rfl))
def Z10_signOf (G : kdS) (l0 : Nat) (l1 : Int) : kzM → Option (Int × kzM) :=
  zgR G 10 1 l0 fun t1 =>
  zcv G 6 t1 (Z6_at G t1 l1) fun t2 =>
  zrt t2
theorem qX10_signOf {G : kdS} (hG : kzG G) (l0 : Nat) {l1 : Int} (hl1 : kzI l1) : CRi (Z10_signOf G l0 l1) (X10_signOf G l0 (Int32.ofInt l1)) := by
  unfold Z10_signOf X10_signOf
  exact c_gR (fun t1 => c_cv (qX6_at hG t1 hl1) (fun t2 ht2 => c_rt ht2 rfl))
def Z10_countOf (G : kdS) (l0 : Nat) (l1 : Int) : kzM → Option (Int × kzM) :=
  zgR G 10 2 l0 fun t1 =>
  zcv G 6 t1 (Z6_at G t1 l1) fun t2 =>
  zrt t2
theorem qX10_countOf {G : kdS} (hG : kzG G) (l0 : Nat) {l1 : Int} (hl1 : kzI l1) : CRi (Z10_countOf G l0 l1) (X10_countOf G l0 (Int32.ofInt l1)) := by
  unfold Z10_countOf X10_countOf
  exact c_gR (fun t1 => c_cv (qX6_at hG t1 hl1) (fun t2 ht2 => c_rt ht2 rfl))
def Z10_keysOf (G : kdS) (l0 : Nat) (l1 : Int) : kzM → Option (Nat × kzM) :=
  zgR G 10 3 l0 fun t1 =>
  zaR G 16 t1 l1 fun t2 =>
  zrt t2
theorem qX10_keysOf {G : kdS} (hG : kzG G) (l0 : Nat) {l1 : Int} (hl1 : kzI l1) : CRn (Z10_keysOf G l0 l1) (X10_keysOf G l0 (Int32.ofInt l1)) := by
  unfold Z10_keysOf X10_keysOf
  exact c_gR (fun t1 => c_aR hG rfl (fun t2 => c_rt trivial rfl))
def Z10_setCount (G : kdS) (l0 : Nat) (l1 : Int) (l2 : Int) : kzM → Option (Int × kzM) :=
  zgR G 10 2 l0 fun t1 =>
  zcv G 6 t1 (Z6_replace G t1 l1 l2) fun t2 =>
  zrt t2
theorem qX10_setCount {G : kdS} (hG : kzG G) (l0 : Nat) {l1 : Int} (hl1 : kzI l1) {l2 : Int} (hl2 : kzI l2) : CRi (Z10_setCount G l0 l1 l2) (X10_setCount G l0 (Int32.ofInt l1) (Int32.ofInt l2)) := by
  unfold Z10_setCount X10_setCount
  exact c_gR (fun t1 => c_cv (qX6_replace hG t1 hl1 hl2) (fun t2 ht2 => c_rt ht2 rfl))
def Z10_addWord (G : kdS) (l0 : Nat) (l1 : Int) (l2 : Int) (l3 : Int) (l4 : Nat) : kzM → Option (Int × kzM) :=
  zcv G 10 l0 (Z10_isFull G l0) fun t1 =>
  zcnd (t1 = (0 : Int))
  (zgR G 10 3 l0 fun t2 =>
  zcv G 10 l0 (Z10_size G l0) fun t3 =>
  zaR G 16 t2 t3 fun t4 =>
  zcv G 6 t4 (Z6_copy G t4 l4) fun _ =>
  zgR G 10 0 l0 fun t5 =>
  zcv G 6 t5 (Z6_add G t5 l1) fun _ =>
  zgR G 10 1 l0 fun t6 =>
  zcv G 6 t6 (Z6_add G t6 l2) fun _ =>
  zgR G 10 2 l0 fun t7 =>
  zcv G 6 t7 (Z6_add G t7 l3) fun _ =>
  zcv G 10 l0 (Z10_size G l0) fun t8 =>
  zlI (t8 - (1 : Int)) fun u1 =>
  zrt u1)
  (zrt (-4 : Int))
theorem qX10_addWord {G : kdS} (hG : kzG G) (l0 : Nat) {l1 : Int} (hl1 : kzI l1) {l2 : Int} (hl2 : kzI l2) {l3 : Int} (hl3 : kzI l3) (l4 : Nat) : CRi (Z10_addWord G l0 l1 l2 l3 l4) (X10_addWord G l0 (Int32.ofInt l1) (Int32.ofInt l2) (Int32.ofInt l3) l4) := by
  unfold Z10_addWord X10_addWord
  exact c_cv (qX10_isFull hG l0) (fun t1 ht1 => c_cnd (kz_eq ht1 (by unfold kzI; omega) rfl rfl) (c_gR (fun t2 => c_cv (qX10_size hG l0) (fun t3 ht3 => c_aR hG rfl (fun t4 => c_cv (qX6_copy hG t4 l4) (fun _ _ => c_gR (fun t5 => c_cv (qX6_add hG t5 hl1) (fun _ _ => c_gR (fun t6 => c_cv (qX6_add hG t6 hl2) (fun _ _ => c_gR (fun t7 => c_cv (qX6_add hG t7 hl3) (fun _ _ => c_cv (qX10_size hG l0) (fun t8 ht8 => c_rg (kz_sub rfl rfl) fun u1 r1 e1 => c_rt r1 e1)))))))))))) (c_rt (by unfold kzI; omega) rfl))
def Z10_soundAlike_36 (G : kdS) (s0 : Int) : kzM → Option (Int × kzM) :=
  zrt (zB s0)
theorem qX10_soundAlike_36 {G : kdS} (hG : kzG G) {s0 : Int} (hs0 : kzI s0) : CRi (Z10_soundAlike_36 G s0) (X10_soundAlike_36 G (Int32.ofInt s0)) := by
  unfold Z10_soundAlike_36 X10_soundAlike_36
  exact c_rt (kz_BI _) (kz_B rfl)
def Z10_soundAlike_35 (G : kdS) : kzM → Option (Int × kzM) :=
  Z10_soundAlike_36 G (0 : Int)
theorem qX10_soundAlike_35 {G : kdS} (hG : kzG G) : CRi (Z10_soundAlike_35 G) (X10_soundAlike_35 G) := by
  unfold Z10_soundAlike_35 X10_soundAlike_35
  exact (qX10_soundAlike_36 hG (by unfold kzI; omega))
def Z10_soundAlike (G : kdS) (l0 : Nat) (l1 : Int) (l2 : Int) : kzM → Option (Int × kzM) :=
  zcv G 10 l0 (Z10_tongueOf G l0 l1) fun t1 =>
  zcv G 10 l0 (Z10_tongueOf G l0 l2) fun t2 =>
  zcnd (t1 = t2)
  (zgR G 10 3 l0 fun t3 =>
  zaR G 16 t3 l1 fun t4 =>
  zgR G 10 3 l0 fun t5 =>
  zaR G 16 t5 l2 fun t6 =>
  zcv G 6 t4 (Z6_isLike G t4 t6) fun t7 =>
  zcnd (t7 = (0 : Int))
  (Z10_soundAlike_35 G)
  (Z10_soundAlike_36 G (1 : Int)))
  (Z10_soundAlike_35 G)
theorem qX10_soundAlike {G : kdS} (hG : kzG G) (l0 : Nat) {l1 : Int} (hl1 : kzI l1) {l2 : Int} (hl2 : kzI l2) : CRi (Z10_soundAlike G l0 l1 l2) (X10_soundAlike G l0 (Int32.ofInt l1) (Int32.ofInt l2)) := by
  unfold Z10_soundAlike X10_soundAlike
  exact c_cv (qX10_tongueOf hG l0 hl1) (fun t1 ht1 => c_cv (qX10_tongueOf hG l0 hl2) (fun t2 ht2 => c_cnd (kz_eq ht1 ht2 rfl rfl) (c_gR (fun t3 => c_aR hG rfl (fun t4 => c_gR (fun t5 => c_aR hG rfl (fun t6 => c_cv (qX6_isLike hG t4 t6) (fun t7 ht7 => c_cnd (kz_eq ht7 (by unfold kzI; omega) rfl rfl) ((qX10_soundAlike_35 hG)) ((qX10_soundAlike_36 hG (by unfold kzI; omega))))))))) ((qX10_soundAlike_35 hG))))
def Z7_setPrice (G : kdS) (l0 : Nat) (l1 : Int) (l2 : Int) : kzM → Option (Int × kzM) :=
  zgR G 7 0 l0 fun t1 =>
  zaI G t1 l1 fun t2 =>
  zgR G 7 0 l0 fun t3 =>
  ztI G t3 l1 l2 <|
  zrt t2
theorem qX7_setPrice {G : kdS} (hG : kzG G) (l0 : Nat) {l1 : Int} (hl1 : kzI l1) {l2 : Int} (hl2 : kzI l2) : CRi (Z7_setPrice G l0 l1 l2) (X7_setPrice G l0 (Int32.ofInt l1) (Int32.ofInt l2)) := by
  unfold Z7_setPrice X7_setPrice
  exact c_gR (fun t1 => c_aI hG rfl (fun t2 ht2 => c_gR (fun t3 => c_tI hG rfl hl2 rfl (c_rt ht2 rfl))))
def Z7_switchPrice (G : kdS) (l0 : Nat) : kzM → Option (Int × kzM) :=
  zgR G 7 0 l0 fun t1 =>
  zaI G t1 (5 : Int) fun t2 =>
  zrt t2
theorem qX7_switchPrice {G : kdS} (hG : kzG G) (l0 : Nat) : CRi (Z7_switchPrice G l0) (X7_switchPrice G l0) := by
  unfold Z7_switchPrice X7_switchPrice
  exact c_gR (fun t1 => c_aI hG rfl (fun t2 ht2 => c_rt ht2 rfl))
def Z7_leastFor (G : kdS) (l0 : Nat) (l1 : Int) (l2 : Nat) : kzM → Option (Int × kzM) :=
  zgR G 7 1 l0 fun t1 =>
  zaR G 18 t1 l1 fun t2 =>
  zcv G 6 l2 (Z6_size G l2) fun t3 =>
  zaI G t2 t3 fun t4 =>
  zrt t4
theorem qX7_leastFor {G : kdS} (hG : kzG G) (l0 : Nat) {l1 : Int} (hl1 : kzI l1) (l2 : Nat) : CRi (Z7_leastFor G l0 l1 l2) (X7_leastFor G l0 (Int32.ofInt l1) l2) := by
  unfold Z7_leastFor X7_leastFor
  exact c_gR (fun t1 => c_aR hG rfl (fun t2 => c_cv (qX6_size hG l2) (fun t3 ht3 => c_aI hG rfl (fun t4 ht4 => c_rt ht4 rfl))))
def Z7_priceOfOne_50 (G : kdS) (s0 : Nat) (s1 : Int) : kzM → Option (Int × kzM) :=
  zaI G s0 s1 fun t1 =>
  zrt t1
theorem qX7_priceOfOne_50 {G : kdS} (hG : kzG G) (s0 : Nat) {s1 : Int} (hs1 : kzI s1) : CRi (Z7_priceOfOne_50 G s0 s1) (X7_priceOfOne_50 G s0 (Int32.ofInt s1)) := by
  unfold Z7_priceOfOne_50 X7_priceOfOne_50
  exact c_aI hG rfl (fun t1 ht1 => c_rt ht1 rfl)
def Z7_priceOfOne_49 (G : kdS) (s0 : Nat) : kzM → Option (Int × kzM) :=
  Z7_priceOfOne_50 G s0 (4 : Int)
theorem qX7_priceOfOne_49 {G : kdS} (hG : kzG G) (s0 : Nat) : CRi (Z7_priceOfOne_49 G s0) (X7_priceOfOne_49 G s0) := by
  unfold Z7_priceOfOne_49 X7_priceOfOne_49
  exact (qX7_priceOfOne_50 hG s0 (by unfold kzI; omega))
def Z7_priceOfOne (G : kdS) (l0 : Nat) (l1 : Int) (l2 : Int) : kzM → Option (Int × kzM) :=
  zcnd (l1 = l2)
  (zrt (0 : Int))
  (znz (4 : Int) <|
  znz (4 : Int) <|
  zlI ((l1.tdiv (4 : Int)) - (l2.tdiv (4 : Int))) fun u1 =>
  zlI (zabs u1) fun t1 =>
  znz (4 : Int) <|
  znz (4 : Int) <|
  zlI ((Int.tmod l1 (4 : Int)) - (Int.tmod l2 (4 : Int))) fun u2 =>
  zlI (zabs u2) fun t2 =>
  zgR G 7 0 l0 fun t3 =>
  zcnd ((1 : Int) < t1)
  (Z7_priceOfOne_49 G t3)
  (zcnd ((1 : Int) < t2)
  (Z7_priceOfOne_49 G t3)
  (Z7_priceOfOne_50 G t3 (0 : Int))))
theorem qX7_priceOfOne {G : kdS} (hG : kzG G) (l0 : Nat) {l1 : Int} (hl1 : kzI l1) {l2 : Int} (hl2 : kzI l2) : CRi (Z7_priceOfOne G l0 l1 l2) (X7_priceOfOne G l0 (Int32.ofInt l1) (Int32.ofInt l2)) := by
  unfold Z7_priceOfOne X7_priceOfOne
  exact c_cnd (kz_eq hl1 hl2 rfl rfl) (c_rt (by unfold kzI; omega) rfl) (c_nz (by unfold kzI; omega) rfl (c_nz (by unfold kzI; omega) rfl (c_rg (kz_sub (kz_div hl1 (by unfold kzI; omega) rfl rfl) (kz_div hl2 (by unfold kzI; omega) rfl rfl)) fun u1 r1 e1 => c_lI (kz_abs r1 e1) (fun t1 ht1 => c_nz (by unfold kzI; omega) rfl (c_nz (by unfold kzI; omega) rfl (c_rg (kz_sub (kz_rem hl1 (by unfold kzI; omega) rfl rfl) (kz_rem hl2 (by unfold kzI; omega) rfl rfl)) fun u2 r2 e2 => c_lI (kz_abs r2 e2) (fun t2 ht2 => c_gR (fun t3 => c_cnd (kz_lt (by unfold kzI; omega) ht1 rfl rfl) ((qX7_priceOfOne_49 hG t3)) (c_cnd (kz_lt (by unfold kzI; omega) ht2 rfl rfl) ((qX7_priceOfOne_49 hG t3)) ((qX7_priceOfOne_50 hG t3 (by unfold kzI; omega))))))))))))
def Z7_leastSum_215 (G : kdS) (l8 : Int) : kzM → Option (Int × kzM) :=
  zrt l8
theorem qX7_leastSum_215 {G : kdS} (hG : kzG G) {l8 : Int} (hl8 : kzI l8) : CRi (Z7_leastSum_215 G l8) (X7_leastSum_215 G (Int32.ofInt l8)) := by
  unfold Z7_leastSum_215 X7_leastSum_215
  exact c_rt hl8 rfl
def Z7_leastSum_142 (G : kdS) (l0 : Nat) (l3 : Int) (l4 : Nat) (l5 : Int) (l6 : Int) (l7 : Int) (l8 : Int) : kzM → Option (Int × kzM) :=
  zcnd (l3 ≤ (1 : Int))
  (Z7_leastSum_215 G l8)
  (zcnd (l5 ≤ (1 : Int))
  (Z7_leastSum_215 G l8)
  (zcnd (l6 = l7)
  (Z7_leastSum_215 G l8)
  (zlI (l5 - (2 : Int)) fun u1 =>
  zcv G 6 l4 (Z6_at G l4 u1) fun t1 =>
  zcnd (l6 = t1)
  (zlI (l5 - (1 : Int)) fun u2 =>
  zcv G 6 l4 (Z6_at G l4 u2) fun t2 =>
  zcnd (l7 = t2)
  (zgR G 7 1 l0 fun t3 =>
  zaR G 18 t3 (l3 - (2 : Int)) fun t4 =>
  zaI G t4 (l5 - (2 : Int)) fun t5 =>
  zgR G 7 0 l0 fun t6 =>
  zaI G t6 (3 : Int) fun t7 =>
  zlI (t5 + t7) fun u3 =>
  zlI (zmin l8 u3) fun t8 =>
  Z7_leastSum_215 G t8)
  (Z7_leastSum_215 G l8))
  (Z7_leastSum_215 G l8))))
theorem qX7_leastSum_142 {G : kdS} (hG : kzG G) (l0 : Nat) {l3 : Int} (hl3 : kzI l3) (l4 : Nat) {l5 : Int} (hl5 : kzI l5) {l6 : Int} (hl6 : kzI l6) {l7 : Int} (hl7 : kzI l7) {l8 : Int} (hl8 : kzI l8) : CRi (Z7_leastSum_142 G l0 l3 l4 l5 l6 l7 l8) (X7_leastSum_142 G l0 (Int32.ofInt l3) l4 (Int32.ofInt l5) (Int32.ofInt l6) (Int32.ofInt l7) (Int32.ofInt l8)) := by
  unfold Z7_leastSum_142 X7_leastSum_142
  exact c_cnd (kz_le hl3 (by unfold kzI; omega) rfl rfl) ((qX7_leastSum_215 hG hl8)) (c_cnd (kz_le hl5 (by unfold kzI; omega) rfl rfl) ((qX7_leastSum_215 hG hl8)) (c_cnd (kz_eq hl6 hl7 rfl rfl) ((qX7_leastSum_215 hG hl8)) (c_rg (kz_sub rfl rfl) fun u1 r1 e1 => c_cv (e1 ▸ (qX6_at hG l4 r1)) (fun t1 ht1 => c_cnd (kz_eq hl6 ht1 rfl rfl) (c_rg (kz_sub rfl rfl) fun u2 r2 e2 => c_cv (e2 ▸ (qX6_at hG l4 r2)) (fun t2 ht2 => c_cnd (kz_eq hl7 ht2 rfl rfl) (c_gR (fun t3 => c_aR hG (kz_sub rfl rfl) (fun t4 => c_aI hG (kz_sub rfl rfl) (fun t5 ht5 => c_gR (fun t6 => c_aI hG rfl (fun t7 ht7 => c_rg (kz_add rfl rfl) fun u3 r3 e3 => c_lI (kz_min hl8 r3 rfl e3) (fun t8 ht8 => (qX7_leastSum_215 hG ht8)))))))) ((qX7_leastSum_215 hG hl8)))) ((qX7_leastSum_215 hG hl8))))))
def Z7_leastSum_72 (G : kdS) (l0 : Nat) (l3 : Int) (l4 : Nat) (l5 : Int) (l6 : Int) (l7 : Int) (s0 : Int) (s1 : Nat) (s2 : Int) : kzM → Option (Int × kzM) :=
  zaI G s1 s2 fun t1 =>
  zlI (s0 + t1) fun t2 =>
  zcnd (l5 ≤ (0 : Int))
  (Z7_leastSum_142 G l0 l3 l4 l5 l6 l7 t2)
  (zgR G 7 1 l0 fun t3 =>
  zaR G 18 t3 l3 fun t4 =>
  zaI G t4 (l5 - (1 : Int)) fun t5 =>
  zgR G 7 0 l0 fun t6 =>
  zaI G t6 (2 : Int) fun t7 =>
  zlI (t5 + t7) fun u1 =>
  zlI (zmin t2 u1) fun t8 =>
  zgR G 7 1 l0 fun t9 =>
  zaR G 18 t9 (l3 - (1 : Int)) fun t10 =>
  zaI G t10 (l5 - (1 : Int)) fun t11 =>
  zlI (l5 - (1 : Int)) fun u2 =>
  zcv G 6 l4 (Z6_at G l4 u2) fun t12 =>
  zcv G 7 l0 (Z7_priceOfOne G l0 l6 t12) fun t13 =>
  zlI (t11 + t13) fun u3 =>
  zlI (zmin t8 u3) fun t14 =>
  Z7_leastSum_142 G l0 l3 l4 l5 l6 l7 t14)
theorem qX7_leastSum_72 {G : kdS} (hG : kzG G) (l0 : Nat) {l3 : Int} (hl3 : kzI l3) (l4 : Nat) {l5 : Int} (hl5 : kzI l5) {l6 : Int} (hl6 : kzI l6) {l7 : Int} (hl7 : kzI l7) {s0 : Int} (hs0 : kzI s0) (s1 : Nat) {s2 : Int} (hs2 : kzI s2) : CRi (Z7_leastSum_72 G l0 l3 l4 l5 l6 l7 s0 s1 s2) (X7_leastSum_72 G l0 (Int32.ofInt l3) l4 (Int32.ofInt l5) (Int32.ofInt l6) (Int32.ofInt l7) (Int32.ofInt s0) s1 (Int32.ofInt s2)) := by
  unfold Z7_leastSum_72 X7_leastSum_72
  exact c_aI hG rfl (fun t1 ht1 => c_lI (kz_add rfl rfl) (fun t2 ht2 => c_cnd (kz_le hl5 (by unfold kzI; omega) rfl rfl) ((qX7_leastSum_142 hG l0 hl3 l4 hl5 hl6 hl7 ht2)) (c_gR (fun t3 => c_aR hG rfl (fun t4 => c_aI hG (kz_sub rfl rfl) (fun t5 ht5 => c_gR (fun t6 => c_aI hG rfl (fun t7 ht7 => c_rg (kz_add rfl rfl) fun u1 r1 e1 => c_lI (kz_min ht2 r1 rfl e1) (fun t8 ht8 => c_gR (fun t9 => c_aR hG (kz_sub rfl rfl) (fun t10 => c_aI hG (kz_sub rfl rfl) (fun t11 ht11 => c_rg (kz_sub rfl rfl) fun u2 r2 e2 => c_cv (e2 ▸ (qX6_at hG l4 r2)) (fun t12 ht12 => c_cv (qX7_priceOfOne hG l0 hl6 ht12) (fun t13 ht13 => c_rg (kz_add rfl rfl) fun u3 r3 e3 => c_lI (kz_min ht8 r3 rfl e3) (fun t14 ht14 => (qX7_leastSum_142 hG l0 hl3 l4 hl5 hl6 hl7 ht14))))))))))))))))
def Z7_leastSum_43 (G : kdS) (l0 : Nat) (l3 : Int) (l4 : Nat) (l5 : Int) (l6 : Int) (s0 : Int) : kzM → Option (Int × kzM) :=
  zgR G 7 1 l0 fun t1 =>
  zaR G 18 t1 (l3 - (1 : Int)) fun t2 =>
  zaI G t2 l5 fun t3 =>
  zgR G 7 0 l0 fun t4 =>
  zcnd (l6 = s0)
  (Z7_leastSum_72 G l0 l3 l4 l5 l6 s0 t3 t4 (1 : Int))
  (Z7_leastSum_72 G l0 l3 l4 l5 l6 s0 t3 t4 (4 : Int))
theorem qX7_leastSum_43 {G : kdS} (hG : kzG G) (l0 : Nat) {l3 : Int} (hl3 : kzI l3) (l4 : Nat) {l5 : Int} (hl5 : kzI l5) {l6 : Int} (hl6 : kzI l6) {s0 : Int} (hs0 : kzI s0) : CRi (Z7_leastSum_43 G l0 l3 l4 l5 l6 s0) (X7_leastSum_43 G l0 (Int32.ofInt l3) l4 (Int32.ofInt l5) (Int32.ofInt l6) (Int32.ofInt s0)) := by
  unfold Z7_leastSum_43 X7_leastSum_43
  exact c_gR (fun t1 => c_aR hG (kz_sub rfl rfl) (fun t2 => c_aI hG rfl (fun t3 ht3 => c_gR (fun t4 => c_cnd (kz_eq hl6 hs0 rfl rfl) ((qX7_leastSum_72 hG l0 hl3 l4 hl5 hl6 hs0 ht3 t4 (by unfold kzI; omega))) ((qX7_leastSum_72 hG l0 hl3 l4 hl5 hl6 hs0 ht3 t4 (by unfold kzI; omega)))))))
def Z7_leastSum (G : kdS) (l0 : Nat) (l1 : Nat) (l2 : Int) (l3 : Int) (l4 : Nat) (l5 : Int) : kzM → Option (Int × kzM) :=
  zcnd (l3 = (0 : Int))
  (zgR G 7 0 l0 fun t1 =>
  zaI G t1 (2 : Int) fun t2 =>
  zlI (l5 * t2) fun u1 =>
  zrt u1)
  (zlI ((l2 + l3) - (1 : Int)) fun u2 =>
  zcv G 6 l1 (Z6_at G l1 u2) fun t3 =>
  zcnd (l3 ≤ (1 : Int))
  (Z7_leastSum_43 G l0 l3 l4 l5 t3 (-1 : Int))
  (zlI ((l2 + l3) - (2 : Int)) fun u3 =>
  zcv G 6 l1 (Z6_at G l1 u3) fun t4 =>
  Z7_leastSum_43 G l0 l3 l4 l5 t3 t4))
theorem qX7_leastSum {G : kdS} (hG : kzG G) (l0 : Nat) (l1 : Nat) {l2 : Int} (hl2 : kzI l2) {l3 : Int} (hl3 : kzI l3) (l4 : Nat) {l5 : Int} (hl5 : kzI l5) : CRi (Z7_leastSum G l0 l1 l2 l3 l4 l5) (X7_leastSum G l0 l1 (Int32.ofInt l2) (Int32.ofInt l3) l4 (Int32.ofInt l5)) := by
  unfold Z7_leastSum X7_leastSum
  exact c_cnd (kz_eq hl3 (by unfold kzI; omega) rfl rfl) (c_gR (fun t1 => c_aI hG rfl (fun t2 ht2 => c_rg (kz_mul rfl rfl) fun u1 r1 e1 => c_rt r1 e1))) (c_rg (kz_sub (kz_add rfl rfl) rfl) fun u2 r2 e2 => c_cv (e2 ▸ (qX6_at hG l1 r2)) (fun t3 ht3 => c_cnd (kz_le hl3 (by unfold kzI; omega) rfl rfl) ((qX7_leastSum_43 hG l0 hl3 l4 hl5 ht3 (by unfold kzI; omega))) (c_rg (kz_sub (kz_add rfl rfl) rfl) fun u3 r3 e3 => c_cv (e3 ▸ (qX6_at hG l1 r3)) (fun t4 ht4 => (qX7_leastSum_43 hG l0 hl3 l4 hl5 ht3 ht4)))))
def Z7_workOut_12B (G : kdS) (k3 : Nat → Nat → Int → Int → Nat → Int → kzM → Option (Unit × kzM)) (k12 : Nat → Nat → Int → Int → Nat → Int → Int → kzM → Option (Unit × kzM)) (l0 : Nat) (l1 : Nat) (l2 : Int) (l3 : Int) (l4 : Nat) (l5 : Int) (l6 : Int) : kzM → Option (Unit × kzM) :=
  zcv G 6 l4 (Z6_size G l4) fun t1 =>
  zcnd (t1 < l6)
  (zlI (l5 + (1 : Int)) fun t2 =>
  k3 l0 l1 l2 l3 l4 t2)
  (zgR G 7 1 l0 fun t3 =>
  zaR G 18 t3 l5 fun t4 =>
  zcv G 7 l0 (Z7_leastSum G l0 l1 l2 l5 l4 l6) fun t5 =>
  ztI G t4 l6 t5 <|
  zlI (l6 + (1 : Int)) fun t6 =>
  k12 l0 l1 l2 l3 l4 l5 t6)
theorem qX7_workOut_12B {G : kdS} (hG : kzG G) {k3' : Nat → Nat → Int → Int → Nat → Int → kzM → Option (Unit × kzM)} {k3 : Nat → Nat → Int32 → Int32 → Nat → Int32 → kdM → Option (Unit × kdM)} (hk3 : ∀ (a0 : Nat) (a1 : Nat) (a2 : Int) (_ : kzI a2) (a3 : Int) (_ : kzI a3) (a4 : Nat) (a5 : Int) (_ : kzI a5), CRu (k3' a0 a1 a2 a3 a4 a5) (k3 a0 a1 (Int32.ofInt a2) (Int32.ofInt a3) a4 (Int32.ofInt a5))) {k12' : Nat → Nat → Int → Int → Nat → Int → Int → kzM → Option (Unit × kzM)} {k12 : Nat → Nat → Int32 → Int32 → Nat → Int32 → Int32 → kdM → Option (Unit × kdM)} (hk12 : ∀ (a0 : Nat) (a1 : Nat) (a2 : Int) (_ : kzI a2) (a3 : Int) (_ : kzI a3) (a4 : Nat) (a5 : Int) (_ : kzI a5) (a6 : Int) (_ : kzI a6), CRu (k12' a0 a1 a2 a3 a4 a5 a6) (k12 a0 a1 (Int32.ofInt a2) (Int32.ofInt a3) a4 (Int32.ofInt a5) (Int32.ofInt a6))) (l0 : Nat) (l1 : Nat) {l2 : Int} (hl2 : kzI l2) {l3 : Int} (hl3 : kzI l3) (l4 : Nat) {l5 : Int} (hl5 : kzI l5) {l6 : Int} (hl6 : kzI l6) : CRu (Z7_workOut_12B G k3' k12' l0 l1 l2 l3 l4 l5 l6) (X7_workOut_12B G k3 k12 l0 l1 (Int32.ofInt l2) (Int32.ofInt l3) l4 (Int32.ofInt l5) (Int32.ofInt l6)) := by
  unfold Z7_workOut_12B X7_workOut_12B
  exact c_cv (qX6_size hG l4) (fun t1 ht1 => c_cnd (kz_lt ht1 hl6 rfl rfl) (c_lI (kz_add rfl rfl) (fun t2 ht2 => (hk3 l0 l1 _ hl2 _ hl3 l4 _ ht2))) (c_gR (fun t3 => c_aR hG rfl (fun t4 => c_cv (qX7_leastSum hG l0 l1 hl2 hl5 l4 hl6) (fun t5 ht5 => c_tI hG rfl ht5 rfl (c_lI (kz_add rfl rfl) (fun t6 ht6 => (hk12 l0 l1 _ hl2 _ hl3 l4 _ hl5 _ ht6))))))))
def Z7_workOut_12 (G : kdS) (k3 : Nat → Nat → Int → Int → Nat → Int → kzM → Option (Unit × kzM)) : Nat → Nat → Int → Int → Nat → Int → Int → kzM → Option (Unit × kzM) := lp (fun _ _ _ _ _ _ _ _ => none) (Z7_workOut_12B G k3) NN
theorem qX7_workOut_12 {G : kdS} (hG : kzG G) {k3' : Nat → Nat → Int → Int → Nat → Int → kzM → Option (Unit × kzM)} {k3 : Nat → Nat → Int32 → Int32 → Nat → Int32 → kdM → Option (Unit × kdM)} (hk3 : ∀ (a0 : Nat) (a1 : Nat) (a2 : Int) (_ : kzI a2) (a3 : Int) (_ : kzI a3) (a4 : Nat) (a5 : Int) (_ : kzI a5), CRu (k3' a0 a1 a2 a3 a4 a5) (k3 a0 a1 (Int32.ofInt a2) (Int32.ofInt a3) a4 (Int32.ofInt a5))) : ∀ (a0 : Nat) (a1 : Nat) (a2 : Int) (_ : kzI a2) (a3 : Int) (_ : kzI a3) (a4 : Nat) (a5 : Int) (_ : kzI a5) (a6 : Int) (_ : kzI a6), CRu (Z7_workOut_12 G k3' a0 a1 a2 a3 a4 a5 a6) (X7_workOut_12 G k3 a0 a1 (Int32.ofInt a2) (Int32.ofInt a3) a4 (Int32.ofInt a5) (Int32.ofInt a6)) :=
  lp_rel (R := fun (f' : Nat → Nat → Int → Int → Nat → Int → Int → kzM → Option (Unit × kzM)) (f : Nat → Nat → Int32 → Int32 → Nat → Int32 → Int32 → kdM → Option (Unit × kdM)) => ∀ (a0 : Nat) (a1 : Nat) (a2 : Int) (_ : kzI a2) (a3 : Int) (_ : kzI a3) (a4 : Nat) (a5 : Int) (_ : kzI a5) (a6 : Int) (_ : kzI a6), CRu (f' a0 a1 a2 a3 a4 a5 a6) (f a0 a1 (Int32.ofInt a2) (Int32.ofInt a3) a4 (Int32.ofInt a5) (Int32.ofInt a6))) (by intros; exact c_no) (fun _ _ hf a0 a1 a2 ha2 a3 ha3 a4 a5 ha5 a6 ha6 => qX7_workOut_12B hG hk3 hf a0 a1 ha2 ha3 a4 ha5 ha6) NN
def Z7_workOut_3B (G : kdS) (k3 : Nat → Nat → Int → Int → Nat → Int → kzM → Option (Unit × kzM)) (l0 : Nat) (l1 : Nat) (l2 : Int) (l3 : Int) (l4 : Nat) (l5 : Int) : kzM → Option (Unit × kzM) :=
  zcnd (l3 < l5)
  (zrt ())
  (Z7_workOut_12 G k3 l0 l1 l2 l3 l4 l5 (0 : Int))
theorem qX7_workOut_3B {G : kdS} (hG : kzG G) {k3' : Nat → Nat → Int → Int → Nat → Int → kzM → Option (Unit × kzM)} {k3 : Nat → Nat → Int32 → Int32 → Nat → Int32 → kdM → Option (Unit × kdM)} (hk3 : ∀ (a0 : Nat) (a1 : Nat) (a2 : Int) (_ : kzI a2) (a3 : Int) (_ : kzI a3) (a4 : Nat) (a5 : Int) (_ : kzI a5), CRu (k3' a0 a1 a2 a3 a4 a5) (k3 a0 a1 (Int32.ofInt a2) (Int32.ofInt a3) a4 (Int32.ofInt a5))) (l0 : Nat) (l1 : Nat) {l2 : Int} (hl2 : kzI l2) {l3 : Int} (hl3 : kzI l3) (l4 : Nat) {l5 : Int} (hl5 : kzI l5) : CRu (Z7_workOut_3B G k3' l0 l1 l2 l3 l4 l5) (X7_workOut_3B G k3 l0 l1 (Int32.ofInt l2) (Int32.ofInt l3) l4 (Int32.ofInt l5)) := by
  unfold Z7_workOut_3B X7_workOut_3B
  exact c_cnd (kz_lt hl3 hl5 rfl rfl) (c_rt trivial rfl) ((qX7_workOut_12 hG hk3 l0 l1 _ hl2 _ hl3 l4 _ hl5 _ (by unfold kzI; omega)))
def Z7_workOut_3 (G : kdS) : Nat → Nat → Int → Int → Nat → Int → kzM → Option (Unit × kzM) := lp (fun _ _ _ _ _ _ _ => none) (Z7_workOut_3B G) NN
theorem qX7_workOut_3 {G : kdS} (hG : kzG G) : ∀ (a0 : Nat) (a1 : Nat) (a2 : Int) (_ : kzI a2) (a3 : Int) (_ : kzI a3) (a4 : Nat) (a5 : Int) (_ : kzI a5), CRu (Z7_workOut_3 G a0 a1 a2 a3 a4 a5) (X7_workOut_3 G a0 a1 (Int32.ofInt a2) (Int32.ofInt a3) a4 (Int32.ofInt a5)) :=
  lp_rel (R := fun (f' : Nat → Nat → Int → Int → Nat → Int → kzM → Option (Unit × kzM)) (f : Nat → Nat → Int32 → Int32 → Nat → Int32 → kdM → Option (Unit × kdM)) => ∀ (a0 : Nat) (a1 : Nat) (a2 : Int) (_ : kzI a2) (a3 : Int) (_ : kzI a3) (a4 : Nat) (a5 : Int) (_ : kzI a5), CRu (f' a0 a1 a2 a3 a4 a5) (f a0 a1 (Int32.ofInt a2) (Int32.ofInt a3) a4 (Int32.ofInt a5))) (by intros; exact c_no) (fun _ _ hf a0 a1 a2 ha2 a3 ha3 a4 a5 ha5 => qX7_workOut_3B hG hf a0 a1 ha2 ha3 a4 ha5) NN
def Z7_workOut (G : kdS) (l0 : Nat) (l1 : Nat) (l2 : Int) (l3 : Int) (l4 : Nat) : kzM → Option (Unit × kzM) :=
  Z7_workOut_3 G l0 l1 l2 l3 l4 (0 : Int)
theorem qX7_workOut {G : kdS} (hG : kzG G) (l0 : Nat) (l1 : Nat) {l2 : Int} (hl2 : kzI l2) {l3 : Int} (hl3 : kzI l3) (l4 : Nat) : CRu (Z7_workOut G l0 l1 l2 l3 l4) (X7_workOut G l0 l1 (Int32.ofInt l2) (Int32.ofInt l3) l4) := by
  unfold Z7_workOut X7_workOut
  exact (qX7_workOut_3 hG l0 l1 _ hl2 _ hl3 l4 _ (by unfold kzI; omega))
def Z7_priceOf (G : kdS) (l0 : Nat) (l1 : Nat) (l2 : Nat) : kzM → Option (Int × kzM) :=
  zcv G 6 l1 (Z6_size G l1) fun t1 =>
  zcv G 7 l0 (Z7_workOut G l0 l1 (0 : Int) t1 l2) fun _ =>
  zcv G 6 l1 (Z6_size G l1) fun t2 =>
  zcv G 7 l0 (Z7_leastFor G l0 t2 l2) fun t3 =>
  zrt t3
theorem qX7_priceOf {G : kdS} (hG : kzG G) (l0 : Nat) (l1 : Nat) (l2 : Nat) : CRi (Z7_priceOf G l0 l1 l2) (X7_priceOf G l0 l1 l2) := by
  unfold Z7_priceOf X7_priceOf
  exact c_cv (qX6_size hG l1) (fun t1 ht1 => c_cv (qX7_workOut hG l0 l1 (by unfold kzI; omega) ht1 l2) (fun _ _ => c_cv (qX6_size hG l1) (fun t2 ht2 => c_cv (qX7_leastFor hG l0 ht2 l2) (fun t3 ht3 => c_rt ht3 rfl))))
def Z1_clear (G : kdS) (l0 : Nat) : kzM → Option (Unit × kzM) :=
  zgR G 1 0 l0 fun t1 =>
  zcv G 6 t1 (Z6_clear G t1) fun t2 =>
  zgR G 1 1 l0 fun t3 =>
  zcv G 6 t3 (Z6_clear G t3) fun t4 =>
  zgR G 1 2 l0 fun t5 =>
  zcv G 6 t5 (Z6_clear G t5) fun t6 =>
  zrt ()
theorem qX1_clear {G : kdS} (hG : kzG G) (l0 : Nat) : CRu (Z1_clear G l0) (X1_clear G l0) := by
  unfold Z1_clear X1_clear
  exact c_gR (fun t1 => c_cv (qX6_clear hG t1) (fun t2 ht2 => c_gR (fun t3 => c_cv (qX6_clear hG t3) (fun t4 ht4 => c_gR (fun t5 => c_cv (qX6_clear hG t5) (fun t6 ht6 => c_rt trivial rfl))))))
def Z1_goesAhead_41 (G : kdS) (s0 : Int) : kzM → Option (Int × kzM) :=
  zrt (zB s0)
theorem qX1_goesAhead_41 {G : kdS} (hG : kzG G) {s0 : Int} (hs0 : kzI s0) : CRi (Z1_goesAhead_41 G s0) (X1_goesAhead_41 G (Int32.ofInt s0)) := by
  unfold Z1_goesAhead_41 X1_goesAhead_41
  exact c_rt (kz_BI _) (kz_B rfl)
def Z1_goesAhead_36 (G : kdS) : kzM → Option (Int × kzM) :=
  Z1_goesAhead_41 G (1 : Int)
theorem qX1_goesAhead_36 {G : kdS} (hG : kzG G) : CRi (Z1_goesAhead_36 G) (X1_goesAhead_36 G) := by
  unfold Z1_goesAhead_36 X1_goesAhead_36
  exact (qX1_goesAhead_41 hG (by unfold kzI; omega))
def Z1_goesAhead_40 (G : kdS) : kzM → Option (Int × kzM) :=
  Z1_goesAhead_41 G (0 : Int)
theorem qX1_goesAhead_40 {G : kdS} (hG : kzG G) : CRi (Z1_goesAhead_40 G) (X1_goesAhead_40 G) := by
  unfold Z1_goesAhead_40 X1_goesAhead_40
  exact (qX1_goesAhead_41 hG (by unfold kzI; omega))
def Z1_goesAhead (G : kdS) (l0 : Nat) (l1 : Int) (l2 : Int) (l3 : Int) : kzM → Option (Int × kzM) :=
  zgR G 1 1 l0 fun t1 =>
  zcv G 6 t1 (Z6_at G t1 l3) fun t2 =>
  zcnd (l1 < t2)
  (Z1_goesAhead_36 G)
  (zgR G 1 1 l0 fun t3 =>
  zcv G 6 t3 (Z6_at G t3 l3) fun t4 =>
  zcnd (l1 = t4)
  (zgR G 1 2 l0 fun t5 =>
  zcv G 6 t5 (Z6_at G t5 l3) fun t6 =>
  zcnd (l2 ≤ t6)
  (Z1_goesAhead_40 G)
  (Z1_goesAhead_36 G))
  (Z1_goesAhead_40 G))
theorem qX1_goesAhead {G : kdS} (hG : kzG G) (l0 : Nat) {l1 : Int} (hl1 : kzI l1) {l2 : Int} (hl2 : kzI l2) {l3 : Int} (hl3 : kzI l3) : CRi (Z1_goesAhead G l0 l1 l2 l3) (X1_goesAhead G l0 (Int32.ofInt l1) (Int32.ofInt l2) (Int32.ofInt l3)) := by
  unfold Z1_goesAhead X1_goesAhead
  exact c_gR (fun t1 => c_cv (qX6_at hG t1 hl3) (fun t2 ht2 => c_cnd (kz_lt hl1 ht2 rfl rfl) ((qX1_goesAhead_36 hG)) (c_gR (fun t3 => c_cv (qX6_at hG t3 hl3) (fun t4 ht4 => c_cnd (kz_eq hl1 ht4 rfl rfl) (c_gR (fun t5 => c_cv (qX6_at hG t5 hl3) (fun t6 ht6 => c_cnd (kz_le hl2 ht6 rfl rfl) ((qX1_goesAhead_40 hG)) ((qX1_goesAhead_36 hG))))) ((qX1_goesAhead_40 hG)))))))
def Z1_insert_33 (G : kdS) (l0 : Nat) (l1 : Int) (l2 : Int) (l3 : Int) (l4 : Int) : kzM → Option (Unit × kzM) :=
  zgR G 1 0 l0 fun t1 =>
  zcv G 6 t1 (Z6_insert G t1 l4 l1) fun _ =>
  zgR G 1 1 l0 fun t2 =>
  zcv G 6 t2 (Z6_insert G t2 l4 l2) fun _ =>
  zgR G 1 2 l0 fun t3 =>
  zcv G 6 t3 (Z6_insert G t3 l4 l3) fun _ =>
  zrt ()
theorem qX1_insert_33 {G : kdS} (hG : kzG G) (l0 : Nat) {l1 : Int} (hl1 : kzI l1) {l2 : Int} (hl2 : kzI l2) {l3 : Int} (hl3 : kzI l3) {l4 : Int} (hl4 : kzI l4) : CRu (Z1_insert_33 G l0 l1 l2 l3 l4) (X1_insert_33 G l0 (Int32.ofInt l1) (Int32.ofInt l2) (Int32.ofInt l3) (Int32.ofInt l4)) := by
  unfold Z1_insert_33 X1_insert_33
  exact c_gR (fun t1 => c_cv (qX6_insert hG t1 hl4 hl1) (fun _ _ => c_gR (fun t2 => c_cv (qX6_insert hG t2 hl4 hl2) (fun _ _ => c_gR (fun t3 => c_cv (qX6_insert hG t3 hl4 hl3) (fun _ _ => c_rt trivial rfl))))))
def Z1_insert_9B (G : kdS) (k9 : Nat → Int → Int → Int → Int → kzM → Option (Unit × kzM)) (l0 : Nat) (l1 : Int) (l2 : Int) (l3 : Int) (l4 : Int) : kzM → Option (Unit × kzM) :=
  zcnd (l4 ≤ (0 : Int))
  (Z1_insert_33 G l0 l1 l2 l3 l4)
  (zlI (l4 - (1 : Int)) fun u1 =>
  zcv G 1 l0 (Z1_goesAhead G l0 l2 l3 u1) fun t1 =>
  zcnd (t1 = (0 : Int))
  (Z1_insert_33 G l0 l1 l2 l3 l4)
  (zlI (l4 + (-1 : Int)) fun t2 =>
  k9 l0 l1 l2 l3 t2))
theorem qX1_insert_9B {G : kdS} (hG : kzG G) {k9' : Nat → Int → Int → Int → Int → kzM → Option (Unit × kzM)} {k9 : Nat → Int32 → Int32 → Int32 → Int32 → kdM → Option (Unit × kdM)} (hk9 : ∀ (a0 : Nat) (a1 : Int) (_ : kzI a1) (a2 : Int) (_ : kzI a2) (a3 : Int) (_ : kzI a3) (a4 : Int) (_ : kzI a4), CRu (k9' a0 a1 a2 a3 a4) (k9 a0 (Int32.ofInt a1) (Int32.ofInt a2) (Int32.ofInt a3) (Int32.ofInt a4))) (l0 : Nat) {l1 : Int} (hl1 : kzI l1) {l2 : Int} (hl2 : kzI l2) {l3 : Int} (hl3 : kzI l3) {l4 : Int} (hl4 : kzI l4) : CRu (Z1_insert_9B G k9' l0 l1 l2 l3 l4) (X1_insert_9B G k9 l0 (Int32.ofInt l1) (Int32.ofInt l2) (Int32.ofInt l3) (Int32.ofInt l4)) := by
  unfold Z1_insert_9B X1_insert_9B
  exact c_cnd (kz_le hl4 (by unfold kzI; omega) rfl rfl) ((qX1_insert_33 hG l0 hl1 hl2 hl3 hl4)) (c_rg (kz_sub rfl rfl) fun u1 r1 e1 => c_cv (e1 ▸ (qX1_goesAhead hG l0 hl2 hl3 r1)) (fun t1 ht1 => c_cnd (kz_eq ht1 (by unfold kzI; omega) rfl rfl) ((qX1_insert_33 hG l0 hl1 hl2 hl3 hl4)) (c_lI (kz_add rfl rfl) (fun t2 ht2 => (hk9 l0 _ hl1 _ hl2 _ hl3 _ ht2)))))
def Z1_insert_9 (G : kdS) : Nat → Int → Int → Int → Int → kzM → Option (Unit × kzM) := lp (fun _ _ _ _ _ _ => none) (Z1_insert_9B G) NN
theorem qX1_insert_9 {G : kdS} (hG : kzG G) : ∀ (a0 : Nat) (a1 : Int) (_ : kzI a1) (a2 : Int) (_ : kzI a2) (a3 : Int) (_ : kzI a3) (a4 : Int) (_ : kzI a4), CRu (Z1_insert_9 G a0 a1 a2 a3 a4) (X1_insert_9 G a0 (Int32.ofInt a1) (Int32.ofInt a2) (Int32.ofInt a3) (Int32.ofInt a4)) :=
  lp_rel (R := fun (f' : Nat → Int → Int → Int → Int → kzM → Option (Unit × kzM)) (f : Nat → Int32 → Int32 → Int32 → Int32 → kdM → Option (Unit × kdM)) => ∀ (a0 : Nat) (a1 : Int) (_ : kzI a1) (a2 : Int) (_ : kzI a2) (a3 : Int) (_ : kzI a3) (a4 : Int) (_ : kzI a4), CRu (f' a0 a1 a2 a3 a4) (f a0 (Int32.ofInt a1) (Int32.ofInt a2) (Int32.ofInt a3) (Int32.ofInt a4))) (by intros; exact c_no) (fun _ _ hf a0 a1 ha1 a2 ha2 a3 ha3 a4 ha4 => qX1_insert_9B hG hf a0 ha1 ha2 ha3 ha4) NN
def Z1_insert (G : kdS) (l0 : Nat) (l1 : Int) (l2 : Int) (l3 : Int) : kzM → Option (Unit × kzM) :=
  zgR G 1 0 l0 fun t1 =>
  zcv G 6 t1 (Z6_size G t1) fun t2 =>
  Z1_insert_9 G l0 l1 l2 l3 t2
theorem qX1_insert {G : kdS} (hG : kzG G) (l0 : Nat) {l1 : Int} (hl1 : kzI l1) {l2 : Int} (hl2 : kzI l2) {l3 : Int} (hl3 : kzI l3) : CRu (Z1_insert G l0 l1 l2 l3) (X1_insert G l0 (Int32.ofInt l1) (Int32.ofInt l2) (Int32.ofInt l3)) := by
  unfold Z1_insert X1_insert
  exact c_gR (fun t1 => c_cv (qX6_size hG t1) (fun t2 ht2 => (qX1_insert_9 hG l0 _ hl1 _ hl2 _ hl3 _ ht2)))
def Z1_guessAt_37 (G : kdS) (s0 : Int) : kzM → Option (Int × kzM) :=
  zrt s0
theorem qX1_guessAt_37 {G : kdS} (hG : kzG G) {s0 : Int} (hs0 : kzI s0) : CRi (Z1_guessAt_37 G s0) (X1_guessAt_37 G (Int32.ofInt s0)) := by
  unfold Z1_guessAt_37 X1_guessAt_37
  exact c_rt hs0 rfl
def Z1_guessAt (G : kdS) (l0 : Nat) (l1 : Int) : kzM → Option (Int × kzM) :=
  zcnd (l1 = (-1 : Int))
  (zgR G 1 0 l0 fun t1 =>
  zcv G 6 t1 (Z6_size G t1) fun t2 =>
  zrt t2)
  (zgR G 1 0 l0 fun t3 =>
  zcv G 6 t3 (Z6_has G t3 l1) fun t4 =>
  zcnd (t4 = (0 : Int))
  (Z1_guessAt_37 G (-6 : Int))
  (zgR G 1 0 l0 fun t5 =>
  zcv G 6 t5 (Z6_at G t5 l1) fun t6 =>
  Z1_guessAt_37 G t6))
theorem qX1_guessAt {G : kdS} (hG : kzG G) (l0 : Nat) {l1 : Int} (hl1 : kzI l1) : CRi (Z1_guessAt G l0 l1) (X1_guessAt G l0 (Int32.ofInt l1)) := by
  unfold Z1_guessAt X1_guessAt
  exact c_cnd (kz_eq hl1 (by unfold kzI; omega) rfl rfl) (c_gR (fun t1 => c_cv (qX6_size hG t1) (fun t2 ht2 => c_rt ht2 rfl))) (c_gR (fun t3 => c_cv (qX6_has hG t3 hl1) (fun t4 ht4 => c_cnd (kz_eq ht4 (by unfold kzI; omega) rfl rfl) ((qX1_guessAt_37 hG (by unfold kzI; omega))) (c_gR (fun t5 => c_cv (qX6_at hG t5 hl1) (fun t6 ht6 => (qX1_guessAt_37 hG ht6)))))))
def Z5_sum (G : kdS) (l0 : Nat) : kzM → Option (Int × kzM) :=
  zgI G 5 8 l0 fun t1 =>
  zrt t1
theorem qX5_sum {G : kdS} (hG : kzG G) (l0 : Nat) : CRi (Z5_sum G l0) (X5_sum G l0) := by
  unfold Z5_sum X5_sum
  exact c_gI rfl (fun t1 ht1 => c_rt ht1 rfl)
def Z5_words (G : kdS) (l0 : Nat) : kzM → Option (Nat × kzM) :=
  zgR G 5 6 l0 fun t1 =>
  zrt t1
theorem qX5_words {G : kdS} (hG : kzG G) (l0 : Nat) : CRn (Z5_words G l0) (X5_words G l0) := by
  unfold Z5_words X5_words
  exact c_gR (fun t1 => c_rt trivial rfl)
def Z5_lengths (G : kdS) (l0 : Nat) : kzM → Option (Nat × kzM) :=
  zgR G 5 7 l0 fun t1 =>
  zrt t1
theorem qX5_lengths {G : kdS} (hG : kzG G) (l0 : Nat) : CRn (Z5_lengths G l0) (X5_lengths G l0) := by
  unfold Z5_lengths X5_lengths
  exact c_gR (fun t1 => c_rt trivial rfl)
def Z11_hasBit_14 (G : kdS) (s0 : Int) : kzM → Option (Int × kzM) :=
  zrt (zB s0)
theorem qX11_hasBit_14 {G : kdS} (hG : kzG G) {s0 : Int} (hs0 : kzI s0) : CRi (Z11_hasBit_14 G s0) (X11_hasBit_14 G (Int32.ofInt s0)) := by
  unfold Z11_hasBit_14 X11_hasBit_14
  exact c_rt (kz_BI _) (kz_B rfl)
def Z11_hasBit (G : kdS) (l0 : Int) (l1 : Int) : kzM → Option (Int × kzM) :=
  zcnd ((zand (zshr l0 l1) (1 : Int)) = (1 : Int))
  (Z11_hasBit_14 G (1 : Int))
  (Z11_hasBit_14 G (0 : Int))
theorem qX11_hasBit {G : kdS} (hG : kzG G) {l0 : Int} (hl0 : kzI l0) {l1 : Int} (hl1 : kzI l1) : CRi (Z11_hasBit G l0 l1) (X11_hasBit G (Int32.ofInt l0) (Int32.ofInt l1)) := by
  unfold Z11_hasBit X11_hasBit
  exact c_cnd (kz_eq (kzI_of _) (by unfold kzI; omega) (kz_and (kz_shr rfl rfl) rfl) rfl) ((qX11_hasBit_14 hG (by unfold kzI; omega))) ((qX11_hasBit_14 hG (by unfold kzI; omega)))
def Z5_caseOf (G : kdS) (l0 : Int) (l1 : Int) (l2 : Int) : kzM → Option (Int × kzM) :=
  zlI ((((l0 * (5 : Int)) + l1) * (4 : Int)) + l2) fun u1 =>
  zrt u1
theorem qX5_caseOf {G : kdS} (hG : kzG G) {l0 : Int} (hl0 : kzI l0) {l1 : Int} (hl1 : kzI l1) {l2 : Int} (hl2 : kzI l2) : CRi (Z5_caseOf G l0 l1 l2) (X5_caseOf G (Int32.ofInt l0) (Int32.ofInt l1) (Int32.ofInt l2)) := by
  unfold Z5_caseOf X5_caseOf
  exact c_rg (kz_add (kz_mul (kz_add (kz_mul rfl rfl) rfl) rfl) rfl) fun u1 r1 e1 => c_rt r1 e1
def Z5_isBetter_35 (G : kdS) (s0 : Int) : kzM → Option (Int × kzM) :=
  zrt (zB s0)
theorem qX5_isBetter_35 {G : kdS} (hG : kzG G) {s0 : Int} (hs0 : kzI s0) : CRi (Z5_isBetter_35 G s0) (X5_isBetter_35 G (Int32.ofInt s0)) := by
  unfold Z5_isBetter_35 X5_isBetter_35
  exact c_rt (kz_BI _) (kz_B rfl)
def Z5_isBetter_30 (G : kdS) : kzM → Option (Int × kzM) :=
  Z5_isBetter_35 G (1 : Int)
theorem qX5_isBetter_30 {G : kdS} (hG : kzG G) : CRi (Z5_isBetter_30 G) (X5_isBetter_30 G) := by
  unfold Z5_isBetter_30 X5_isBetter_30
  exact (qX5_isBetter_35 hG (by unfold kzI; omega))
def Z5_isBetter_34 (G : kdS) : kzM → Option (Int × kzM) :=
  Z5_isBetter_35 G (0 : Int)
theorem qX5_isBetter_34 {G : kdS} (hG : kzG G) : CRi (Z5_isBetter_34 G) (X5_isBetter_34 G) := by
  unfold Z5_isBetter_34 X5_isBetter_34
  exact (qX5_isBetter_35 hG (by unfold kzI; omega))
def Z5_isBetter (G : kdS) (l0 : Nat) (l1 : Int) (l2 : Int) (l3 : Int) : kzM → Option (Int × kzM) :=
  zgR G 5 2 l0 fun t1 =>
  zaI G t1 l3 fun t2 =>
  zcnd (l1 < t2)
  (Z5_isBetter_30 G)
  (zgR G 5 2 l0 fun t3 =>
  zaI G t3 l3 fun t4 =>
  zcnd (l1 = t4)
  (zgR G 5 3 l0 fun t5 =>
  zaI G t5 l3 fun t6 =>
  zcnd (l2 ≤ t6)
  (Z5_isBetter_34 G)
  (Z5_isBetter_30 G))
  (Z5_isBetter_34 G))
theorem qX5_isBetter {G : kdS} (hG : kzG G) (l0 : Nat) {l1 : Int} (hl1 : kzI l1) {l2 : Int} (hl2 : kzI l2) {l3 : Int} (hl3 : kzI l3) : CRi (Z5_isBetter G l0 l1 l2 l3) (X5_isBetter G l0 (Int32.ofInt l1) (Int32.ofInt l2) (Int32.ofInt l3)) := by
  unfold Z5_isBetter X5_isBetter
  exact c_gR (fun t1 => c_aI hG rfl (fun t2 ht2 => c_cnd (kz_lt hl1 ht2 rfl rfl) ((qX5_isBetter_30 hG)) (c_gR (fun t3 => c_aI hG rfl (fun t4 ht4 => c_cnd (kz_eq hl1 ht4 rfl rfl) (c_gR (fun t5 => c_aI hG rfl (fun t6 ht6 => c_cnd (kz_le hl2 ht6 rfl rfl) ((qX5_isBetter_34 hG)) ((qX5_isBetter_30 hG))))) ((qX5_isBetter_34 hG)))))))
def Z5_bestNumberOfPieces_58 (G : kdS) (k4 : Nat → Int → Int → kzM → Option (Int × kzM)) (l0 : Nat) (l1 : Int) (l2 : Int) : kzM → Option (Int × kzM) :=
  zlI (l2 + (1 : Int)) fun t1 =>
  k4 l0 l1 t1
theorem qX5_bestNumberOfPieces_58 {G : kdS} (hG : kzG G) {k4' : Nat → Int → Int → kzM → Option (Int × kzM)} {k4 : Nat → Int32 → Int32 → kdM → Option (Int32 × kdM)} (hk4 : ∀ (a0 : Nat) (a1 : Int) (_ : kzI a1) (a2 : Int) (_ : kzI a2), CRi (k4' a0 a1 a2) (k4 a0 (Int32.ofInt a1) (Int32.ofInt a2))) (l0 : Nat) {l1 : Int} (hl1 : kzI l1) {l2 : Int} (hl2 : kzI l2) : CRi (Z5_bestNumberOfPieces_58 G k4' l0 l1 l2) (X5_bestNumberOfPieces_58 G k4 l0 (Int32.ofInt l1) (Int32.ofInt l2)) := by
  unfold Z5_bestNumberOfPieces_58 X5_bestNumberOfPieces_58
  exact c_lI (kz_add rfl rfl) (fun t1 ht1 => (hk4 l0 _ hl1 _ ht1))
def Z5_bestNumberOfPieces_56 (G : kdS) (k4 : Nat → Int → Int → kzM → Option (Int × kzM)) (l0 : Nat) (l2 : Int) : kzM → Option (Int × kzM) :=
  Z5_bestNumberOfPieces_58 G k4 l0 l2 l2
theorem qX5_bestNumberOfPieces_56 {G : kdS} (hG : kzG G) {k4' : Nat → Int → Int → kzM → Option (Int × kzM)} {k4 : Nat → Int32 → Int32 → kdM → Option (Int32 × kdM)} (hk4 : ∀ (a0 : Nat) (a1 : Int) (_ : kzI a1) (a2 : Int) (_ : kzI a2), CRi (k4' a0 a1 a2) (k4 a0 (Int32.ofInt a1) (Int32.ofInt a2))) (l0 : Nat) {l2 : Int} (hl2 : kzI l2) : CRi (Z5_bestNumberOfPieces_56 G k4' l0 l2) (X5_bestNumberOfPieces_56 G k4 l0 (Int32.ofInt l2)) := by
  unfold Z5_bestNumberOfPieces_56 X5_bestNumberOfPieces_56
  exact (qX5_bestNumberOfPieces_58 hG hk4 l0 hl2 hl2)
def Z5_bestNumberOfPieces_4B (G : kdS) (k4 : Nat → Int → Int → kzM → Option (Int × kzM)) (l0 : Nat) (l1 : Int) (l2 : Int) : kzM → Option (Int × kzM) :=
  zcnd ((4 : Int) < l2)
  (zrt l1)
  (zcl (Z5_caseOf G (0 : Int) l2 (3 : Int)) fun t1 =>
  zgR G 5 2 l0 fun t2 =>
  zaI G t2 t1 fun t3 =>
  zcnd ((1000000000 : Int) ≤ t3)
  (Z5_bestNumberOfPieces_58 G k4 l0 l1 l2)
  (zcnd (l1 = (0 : Int))
  (Z5_bestNumberOfPieces_56 G k4 l0 l2)
  (zgR G 5 2 l0 fun t4 =>
  zaI G t4 t1 fun t5 =>
  zgR G 5 3 l0 fun t6 =>
  zaI G t6 t1 fun t7 =>
  zcl (Z5_caseOf G (0 : Int) l1 (3 : Int)) fun t8 =>
  zcv G 5 l0 (Z5_isBetter G l0 t5 t7 t8) fun t9 =>
  zcnd (t9 = (0 : Int))
  (Z5_bestNumberOfPieces_58 G k4 l0 l1 l2)
  (Z5_bestNumberOfPieces_56 G k4 l0 l2))))
theorem qX5_bestNumberOfPieces_4B {G : kdS} (hG : kzG G) {k4' : Nat → Int → Int → kzM → Option (Int × kzM)} {k4 : Nat → Int32 → Int32 → kdM → Option (Int32 × kdM)} (hk4 : ∀ (a0 : Nat) (a1 : Int) (_ : kzI a1) (a2 : Int) (_ : kzI a2), CRi (k4' a0 a1 a2) (k4 a0 (Int32.ofInt a1) (Int32.ofInt a2))) (l0 : Nat) {l1 : Int} (hl1 : kzI l1) {l2 : Int} (hl2 : kzI l2) : CRi (Z5_bestNumberOfPieces_4B G k4' l0 l1 l2) (X5_bestNumberOfPieces_4B G k4 l0 (Int32.ofInt l1) (Int32.ofInt l2)) := by
  unfold Z5_bestNumberOfPieces_4B X5_bestNumberOfPieces_4B
  exact c_cnd (kz_lt (by unfold kzI; omega) hl2 rfl rfl) (c_rt hl1 rfl) (c_cl (qX5_caseOf hG (by unfold kzI; omega) hl2 (by unfold kzI; omega)) (fun t1 ht1 => c_gR (fun t2 => c_aI hG rfl (fun t3 ht3 => c_cnd (kz_le (by unfold kzI; omega) ht3 rfl rfl) ((qX5_bestNumberOfPieces_58 hG hk4 l0 hl1 hl2)) (c_cnd (kz_eq hl1 (by unfold kzI; omega) rfl rfl) ((qX5_bestNumberOfPieces_56 hG hk4 l0 hl2)) (c_gR (fun t4 => c_aI hG rfl (fun t5 ht5 => c_gR (fun t6 => c_aI hG rfl (fun t7 ht7 => c_cl (qX5_caseOf hG (by unfold kzI; omega) hl1 (by unfold kzI; omega)) (fun t8 ht8 => c_cv (qX5_isBetter hG l0 ht5 ht7 ht8) (fun t9 ht9 => c_cnd (kz_eq ht9 (by unfold kzI; omega) rfl rfl) ((qX5_bestNumberOfPieces_58 hG hk4 l0 hl1 hl2)) ((qX5_bestNumberOfPieces_56 hG hk4 l0 hl2))))))))))))))
def Z5_bestNumberOfPieces_4 (G : kdS) : Nat → Int → Int → kzM → Option (Int × kzM) := lp (fun _ _ _ _ => none) (Z5_bestNumberOfPieces_4B G) NN
theorem qX5_bestNumberOfPieces_4 {G : kdS} (hG : kzG G) : ∀ (a0 : Nat) (a1 : Int) (_ : kzI a1) (a2 : Int) (_ : kzI a2), CRi (Z5_bestNumberOfPieces_4 G a0 a1 a2) (X5_bestNumberOfPieces_4 G a0 (Int32.ofInt a1) (Int32.ofInt a2)) :=
  lp_rel (R := fun (f' : Nat → Int → Int → kzM → Option (Int × kzM)) (f : Nat → Int32 → Int32 → kdM → Option (Int32 × kdM)) => ∀ (a0 : Nat) (a1 : Int) (_ : kzI a1) (a2 : Int) (_ : kzI a2), CRi (f' a0 a1 a2) (f a0 (Int32.ofInt a1) (Int32.ofInt a2))) (by intros; exact c_no) (fun _ _ hf a0 a1 ha1 a2 ha2 => qX5_bestNumberOfPieces_4B hG hf a0 ha1 ha2) NN
def Z5_bestNumberOfPieces (G : kdS) (l0 : Nat) : kzM → Option (Int × kzM) :=
  Z5_bestNumberOfPieces_4 G l0 (0 : Int) (1 : Int)
theorem qX5_bestNumberOfPieces {G : kdS} (hG : kzG G) (l0 : Nat) : CRi (Z5_bestNumberOfPieces G l0) (X5_bestNumberOfPieces G l0) := by
  unfold Z5_bestNumberOfPieces X5_bestNumberOfPieces
  exact (qX5_bestNumberOfPieces_4 hG l0 _ (by unfold kzI; omega) _ (by unfold kzI; omega))
def Z5_follow_38B (G : kdS) (k38 : Nat → Int → Int → Int → kzM → Option (Unit × kzM)) (l0 : Nat) (l2 : Int) (l3 : Int) (l4 : Int) : kzM → Option (Unit × kzM) :=
  zcnd (l4 ≤ (0 : Int))
  (zrt ())
  (zcl (Z5_caseOf G l2 l4 l3) fun t1 =>
  zgR G 5 6 l0 fun t2 =>
  zgR G 5 4 l0 fun t3 =>
  zaI G t3 t1 fun t4 =>
  zcv G 6 t2 (Z6_add G t2 t4) fun _ =>
  zgR G 5 7 l0 fun t5 =>
  zgR G 5 5 l0 fun t6 =>
  zaI G t6 t1 fun t7 =>
  zcv G 6 t5 (Z6_add G t5 t7) fun _ =>
  zgR G 5 5 l0 fun t8 =>
  zaI G t8 t1 fun t9 =>
  zlI (l2 + t9) fun t10 =>
  zgR G 5 0 l0 fun t11 =>
  zgR G 5 4 l0 fun t12 =>
  zaI G t12 t1 fun t13 =>
  zcv G 10 t11 (Z10_tongueOf G t11 t13) fun t14 =>
  zlI (l4 + (-1 : Int)) fun t15 =>
  k38 l0 t10 t14 t15)
theorem qX5_follow_38B {G : kdS} (hG : kzG G) {k38' : Nat → Int → Int → Int → kzM → Option (Unit × kzM)} {k38 : Nat → Int32 → Int32 → Int32 → kdM → Option (Unit × kdM)} (hk38 : ∀ (a0 : Nat) (a1 : Int) (_ : kzI a1) (a2 : Int) (_ : kzI a2) (a3 : Int) (_ : kzI a3), CRu (k38' a0 a1 a2 a3) (k38 a0 (Int32.ofInt a1) (Int32.ofInt a2) (Int32.ofInt a3))) (l0 : Nat) {l2 : Int} (hl2 : kzI l2) {l3 : Int} (hl3 : kzI l3) {l4 : Int} (hl4 : kzI l4) : CRu (Z5_follow_38B G k38' l0 l2 l3 l4) (X5_follow_38B G k38 l0 (Int32.ofInt l2) (Int32.ofInt l3) (Int32.ofInt l4)) := by
  unfold Z5_follow_38B X5_follow_38B
  exact c_cnd (kz_le hl4 (by unfold kzI; omega) rfl rfl) (c_rt trivial rfl) (c_cl (qX5_caseOf hG hl2 hl4 hl3) (fun t1 ht1 => c_gR (fun t2 => c_gR (fun t3 => c_aI hG rfl (fun t4 ht4 => c_cv (qX6_add hG t2 ht4) (fun _ _ => c_gR (fun t5 => c_gR (fun t6 => c_aI hG rfl (fun t7 ht7 => c_cv (qX6_add hG t5 ht7) (fun _ _ => c_gR (fun t8 => c_aI hG rfl (fun t9 ht9 => c_lI (kz_add rfl rfl) (fun t10 ht10 => c_gR (fun t11 => c_gR (fun t12 => c_aI hG rfl (fun t13 ht13 => c_cv (qX10_tongueOf hG t11 ht13) (fun t14 ht14 => c_lI (kz_add rfl rfl) (fun t15 ht15 => (hk38 l0 _ ht10 _ ht14 _ ht15)))))))))))))))))))
def Z5_follow_38 (G : kdS) : Nat → Int → Int → Int → kzM → Option (Unit × kzM) := lp (fun _ _ _ _ _ => none) (Z5_follow_38B G) NN
theorem qX5_follow_38 {G : kdS} (hG : kzG G) : ∀ (a0 : Nat) (a1 : Int) (_ : kzI a1) (a2 : Int) (_ : kzI a2) (a3 : Int) (_ : kzI a3), CRu (Z5_follow_38 G a0 a1 a2 a3) (X5_follow_38 G a0 (Int32.ofInt a1) (Int32.ofInt a2) (Int32.ofInt a3)) :=
  lp_rel (R := fun (f' : Nat → Int → Int → Int → kzM → Option (Unit × kzM)) (f : Nat → Int32 → Int32 → Int32 → kdM → Option (Unit × kdM)) => ∀ (a0 : Nat) (a1 : Int) (_ : kzI a1) (a2 : Int) (_ : kzI a2) (a3 : Int) (_ : kzI a3), CRu (f' a0 a1 a2 a3) (f a0 (Int32.ofInt a1) (Int32.ofInt a2) (Int32.ofInt a3))) (by intros; exact c_no) (fun _ _ hf a0 a1 ha1 a2 ha2 a3 ha3 => qX5_follow_38B hG hf a0 ha1 ha2 ha3) NN
def Z5_follow (G : kdS) (l0 : Nat) (l1 : Int) : kzM → Option (Unit × kzM) :=
  zgR G 5 6 l0 fun t1 =>
  zcv G 6 t1 (Z6_clear G t1) fun t2 =>
  zgR G 5 7 l0 fun t3 =>
  zcv G 6 t3 (Z6_clear G t3) fun t4 =>
  zgR G 5 2 l0 fun t5 =>
  zcl (Z5_caseOf G (0 : Int) l1 (3 : Int)) fun t6 =>
  zaI G t5 t6 fun t7 =>
  zsI G 5 8 l0 t7 <|
  Z5_follow_38 G l0 (0 : Int) (3 : Int) l1
theorem qX5_follow {G : kdS} (hG : kzG G) (l0 : Nat) {l1 : Int} (hl1 : kzI l1) : CRu (Z5_follow G l0 l1) (X5_follow G l0 (Int32.ofInt l1)) := by
  unfold Z5_follow X5_follow
  exact c_gR (fun t1 => c_cv (qX6_clear hG t1) (fun t2 ht2 => c_gR (fun t3 => c_cv (qX6_clear hG t3) (fun t4 ht4 => c_gR (fun t5 => c_cl (qX5_caseOf hG (by unfold kzI; omega) hl1 (by unfold kzI; omega)) (fun t6 ht6 => c_aI hG rfl (fun t7 ht7 => c_sI rfl ht7 rfl ((qX5_follow_38 hG l0 _ (by unfold kzI; omega) _ (by unfold kzI; omega) _ hl1)))))))))
def Z5_start_32B (G : kdS) (k32 : Nat → Int → Int → kzM → Option (Unit × kzM)) (l0 : Nat) (l1 : Int) (l2 : Int) : kzM → Option (Unit × kzM) :=
  zcnd ((3 : Int) ≤ l2)
  (zrt ())
  (zgR G 5 2 l0 fun t1 =>
  zcl (Z5_caseOf G l1 (0 : Int) l2) fun t2 =>
  ztI G t1 t2 (0 : Int) <|
  zlI (l2 + (1 : Int)) fun t3 =>
  k32 l0 l1 t3)
theorem qX5_start_32B {G : kdS} (hG : kzG G) {k32' : Nat → Int → Int → kzM → Option (Unit × kzM)} {k32 : Nat → Int32 → Int32 → kdM → Option (Unit × kdM)} (hk32 : ∀ (a0 : Nat) (a1 : Int) (_ : kzI a1) (a2 : Int) (_ : kzI a2), CRu (k32' a0 a1 a2) (k32 a0 (Int32.ofInt a1) (Int32.ofInt a2))) (l0 : Nat) {l1 : Int} (hl1 : kzI l1) {l2 : Int} (hl2 : kzI l2) : CRu (Z5_start_32B G k32' l0 l1 l2) (X5_start_32B G k32 l0 (Int32.ofInt l1) (Int32.ofInt l2)) := by
  unfold Z5_start_32B X5_start_32B
  exact c_cnd (kz_le (by unfold kzI; omega) hl2 rfl rfl) (c_rt trivial rfl) (c_gR (fun t1 => c_cl (qX5_caseOf hG hl1 (by unfold kzI; omega) hl2) (fun t2 ht2 => c_tI hG rfl (by unfold kzI; omega) rfl (c_lI (kz_add rfl rfl) (fun t3 ht3 => (hk32 l0 _ hl1 _ ht3))))))
def Z5_start_32 (G : kdS) : Nat → Int → Int → kzM → Option (Unit × kzM) := lp (fun _ _ _ _ => none) (Z5_start_32B G) NN
theorem qX5_start_32 {G : kdS} (hG : kzG G) : ∀ (a0 : Nat) (a1 : Int) (_ : kzI a1) (a2 : Int) (_ : kzI a2), CRu (Z5_start_32 G a0 a1 a2) (X5_start_32 G a0 (Int32.ofInt a1) (Int32.ofInt a2)) :=
  lp_rel (R := fun (f' : Nat → Int → Int → kzM → Option (Unit × kzM)) (f : Nat → Int32 → Int32 → kdM → Option (Unit × kdM)) => ∀ (a0 : Nat) (a1 : Int) (_ : kzI a1) (a2 : Int) (_ : kzI a2), CRu (f' a0 a1 a2) (f a0 (Int32.ofInt a1) (Int32.ofInt a2))) (by intros; exact c_no) (fun _ _ hf a0 a1 ha1 a2 ha2 => qX5_start_32B hG hf a0 ha1 ha2) NN
def Z5_start_2B (G : kdS) (k2 : Nat → Int → Int → kzM → Option (Unit × kzM)) (l0 : Nat) (l1 : Int) (l2 : Int) : kzM → Option (Unit × kzM) :=
  zcnd ((340 : Int) ≤ l2)
  (Z5_start_32 G l0 l1 (0 : Int))
  (zgR G 5 2 l0 fun t1 =>
  ztI G t1 l2 (1000000000 : Int) <|
  zgR G 5 3 l0 fun t2 =>
  ztI G t2 l2 (1 : Int) <|
  zlI (l2 + (1 : Int)) fun t3 =>
  k2 l0 l1 t3)
theorem qX5_start_2B {G : kdS} (hG : kzG G) {k2' : Nat → Int → Int → kzM → Option (Unit × kzM)} {k2 : Nat → Int32 → Int32 → kdM → Option (Unit × kdM)} (hk2 : ∀ (a0 : Nat) (a1 : Int) (_ : kzI a1) (a2 : Int) (_ : kzI a2), CRu (k2' a0 a1 a2) (k2 a0 (Int32.ofInt a1) (Int32.ofInt a2))) (l0 : Nat) {l1 : Int} (hl1 : kzI l1) {l2 : Int} (hl2 : kzI l2) : CRu (Z5_start_2B G k2' l0 l1 l2) (X5_start_2B G k2 l0 (Int32.ofInt l1) (Int32.ofInt l2)) := by
  unfold Z5_start_2B X5_start_2B
  exact c_cnd (kz_le (by unfold kzI; omega) hl2 rfl rfl) ((qX5_start_32 hG l0 _ hl1 _ (by unfold kzI; omega))) (c_gR (fun t1 => c_tI hG rfl (by unfold kzI; omega) rfl (c_gR (fun t2 => c_tI hG rfl (by unfold kzI; omega) rfl (c_lI (kz_add rfl rfl) (fun t3 ht3 => (hk2 l0 _ hl1 _ ht3)))))))
def Z5_start_2 (G : kdS) : Nat → Int → Int → kzM → Option (Unit × kzM) := lp (fun _ _ _ _ => none) (Z5_start_2B G) NN
theorem qX5_start_2 {G : kdS} (hG : kzG G) : ∀ (a0 : Nat) (a1 : Int) (_ : kzI a1) (a2 : Int) (_ : kzI a2), CRu (Z5_start_2 G a0 a1 a2) (X5_start_2 G a0 (Int32.ofInt a1) (Int32.ofInt a2)) :=
  lp_rel (R := fun (f' : Nat → Int → Int → kzM → Option (Unit × kzM)) (f : Nat → Int32 → Int32 → kdM → Option (Unit × kdM)) => ∀ (a0 : Nat) (a1 : Int) (_ : kzI a1) (a2 : Int) (_ : kzI a2), CRu (f' a0 a1 a2) (f a0 (Int32.ofInt a1) (Int32.ofInt a2))) (by intros; exact c_no) (fun _ _ hf a0 a1 ha1 a2 ha2 => qX5_start_2B hG hf a0 ha1 ha2) NN
def Z5_start (G : kdS) (l0 : Nat) (l1 : Int) : kzM → Option (Unit × kzM) :=
  Z5_start_2 G l0 l1 (0 : Int)
theorem qX5_start {G : kdS} (hG : kzG G) (l0 : Nat) {l1 : Int} (hl1 : kzI l1) : CRu (Z5_start G l0 l1) (X5_start G l0 (Int32.ofInt l1)) := by
  unfold Z5_start X5_start
  exact (qX5_start_2 hG l0 _ hl1 _ (by unfold kzI; omega))
def Z5_tryPiece_189 (G : kdS) (k70 : Nat → Int → Int → Int → Int → Int → Int → Int → Int → kzM → Option (Unit × kzM)) (l0 : Nat) (l1 : Int) (l2 : Int) (l3 : Int) (l4 : Int) (l6 : Int) (l8 : Int) (l9 : Int) (l10 : Int) : kzM → Option (Unit × kzM) :=
  zlI (l10 + (1 : Int)) fun t1 =>
  k70 l0 l1 l2 l3 l4 l6 l8 l9 t1
theorem qX5_tryPiece_189 {G : kdS} (hG : kzG G) {k70' : Nat → Int → Int → Int → Int → Int → Int → Int → Int → kzM → Option (Unit × kzM)} {k70 : Nat → Int32 → Int32 → Int32 → Int32 → Int32 → Int32 → Int32 → Int32 → kdM → Option (Unit × kdM)} (hk70 : ∀ (a0 : Nat) (a1 : Int) (_ : kzI a1) (a2 : Int) (_ : kzI a2) (a3 : Int) (_ : kzI a3) (a4 : Int) (_ : kzI a4) (a5 : Int) (_ : kzI a5) (a6 : Int) (_ : kzI a6) (a7 : Int) (_ : kzI a7) (a8 : Int) (_ : kzI a8), CRu (k70' a0 a1 a2 a3 a4 a5 a6 a7 a8) (k70 a0 (Int32.ofInt a1) (Int32.ofInt a2) (Int32.ofInt a3) (Int32.ofInt a4) (Int32.ofInt a5) (Int32.ofInt a6) (Int32.ofInt a7) (Int32.ofInt a8))) (l0 : Nat) {l1 : Int} (hl1 : kzI l1) {l2 : Int} (hl2 : kzI l2) {l3 : Int} (hl3 : kzI l3) {l4 : Int} (hl4 : kzI l4) {l6 : Int} (hl6 : kzI l6) {l8 : Int} (hl8 : kzI l8) {l9 : Int} (hl9 : kzI l9) {l10 : Int} (hl10 : kzI l10) : CRu (Z5_tryPiece_189 G k70' l0 l1 l2 l3 l4 l6 l8 l9 l10) (X5_tryPiece_189 G k70 l0 (Int32.ofInt l1) (Int32.ofInt l2) (Int32.ofInt l3) (Int32.ofInt l4) (Int32.ofInt l6) (Int32.ofInt l8) (Int32.ofInt l9) (Int32.ofInt l10)) := by
  unfold Z5_tryPiece_189 X5_tryPiece_189
  exact c_lI (kz_add rfl rfl) (fun t1 ht1 => (hk70 l0 _ hl1 _ hl2 _ hl3 _ hl4 _ hl6 _ hl8 _ hl9 _ ht1))
def Z5_tryPiece_162 (G : kdS) (k70 : Nat → Int → Int → Int → Int → Int → Int → Int → Int → kzM → Option (Unit × kzM)) (l0 : Nat) (l1 : Int) (l2 : Int) (l3 : Int) (l4 : Int) (l6 : Int) (l8 : Int) (l9 : Int) (l10 : Int) (l12 : Int) (s0 : Nat) (s1 : Int) (s2 : Int) : kzM → Option (Unit × kzM) :=
  ztI G s0 s1 s2 <|
  zgR G 5 3 l0 fun t1 =>
  ztI G t1 l12 l9 <|
  zgR G 5 4 l0 fun t2 =>
  ztI G t2 l12 l3 <|
  zgR G 5 5 l0 fun t3 =>
  ztI G t3 l12 l4 <|
  Z5_tryPiece_189 G k70 l0 l1 l2 l3 l4 l6 l8 l9 l10
theorem qX5_tryPiece_162 {G : kdS} (hG : kzG G) {k70' : Nat → Int → Int → Int → Int → Int → Int → Int → Int → kzM → Option (Unit × kzM)} {k70 : Nat → Int32 → Int32 → Int32 → Int32 → Int32 → Int32 → Int32 → Int32 → kdM → Option (Unit × kdM)} (hk70 : ∀ (a0 : Nat) (a1 : Int) (_ : kzI a1) (a2 : Int) (_ : kzI a2) (a3 : Int) (_ : kzI a3) (a4 : Int) (_ : kzI a4) (a5 : Int) (_ : kzI a5) (a6 : Int) (_ : kzI a6) (a7 : Int) (_ : kzI a7) (a8 : Int) (_ : kzI a8), CRu (k70' a0 a1 a2 a3 a4 a5 a6 a7 a8) (k70 a0 (Int32.ofInt a1) (Int32.ofInt a2) (Int32.ofInt a3) (Int32.ofInt a4) (Int32.ofInt a5) (Int32.ofInt a6) (Int32.ofInt a7) (Int32.ofInt a8))) (l0 : Nat) {l1 : Int} (hl1 : kzI l1) {l2 : Int} (hl2 : kzI l2) {l3 : Int} (hl3 : kzI l3) {l4 : Int} (hl4 : kzI l4) {l6 : Int} (hl6 : kzI l6) {l8 : Int} (hl8 : kzI l8) {l9 : Int} (hl9 : kzI l9) {l10 : Int} (hl10 : kzI l10) {l12 : Int} (hl12 : kzI l12) (s0 : Nat) {s1 : Int} (hs1 : kzI s1) {s2 : Int} (hs2 : kzI s2) : CRu (Z5_tryPiece_162 G k70' l0 l1 l2 l3 l4 l6 l8 l9 l10 l12 s0 s1 s2) (X5_tryPiece_162 G k70 l0 (Int32.ofInt l1) (Int32.ofInt l2) (Int32.ofInt l3) (Int32.ofInt l4) (Int32.ofInt l6) (Int32.ofInt l8) (Int32.ofInt l9) (Int32.ofInt l10) (Int32.ofInt l12) s0 (Int32.ofInt s1) (Int32.ofInt s2)) := by
  unfold Z5_tryPiece_162 X5_tryPiece_162
  exact c_tI hG rfl hs2 rfl (c_gR (fun t1 => c_tI hG rfl hl9 rfl (c_gR (fun t2 => c_tI hG rfl hl3 rfl (c_gR (fun t3 => c_tI hG rfl hl4 rfl ((qX5_tryPiece_189 hG hk70 l0 hl1 hl2 hl3 hl4 hl6 hl8 hl9 hl10))))))))
def Z5_tryPiece_126 (G : kdS) (k70 : Nat → Int → Int → Int → Int → Int → Int → Int → Int → kzM → Option (Unit × kzM)) (l0 : Nat) (l1 : Int) (l2 : Int) (l3 : Int) (l4 : Int) (l6 : Int) (l8 : Int) (l9 : Int) (l10 : Int) (l11 : Int) (l12 : Int) (s0 : Nat) (s1 : Int) : kzM → Option (Unit × kzM) :=
  zcv G 5 s0 (Z5_isBetter G s0 s1 l9 l12) fun t1 =>
  zcnd (t1 = (0 : Int))
  (Z5_tryPiece_189 G k70 l0 l1 l2 l3 l4 l6 l8 l9 l10)
  (zgR G 5 2 l0 fun t2 =>
  zcnd (l11 = (0 : Int))
  (Z5_tryPiece_162 G k70 l0 l1 l2 l3 l4 l6 l8 l9 l10 l12 t2 l12 l8)
  (zgR G 5 1 l0 fun t3 =>
  zcv G 7 t3 (Z7_switchPrice G t3) fun t4 =>
  zlI (l8 + t4) fun u1 =>
  Z5_tryPiece_162 G k70 l0 l1 l2 l3 l4 l6 l8 l9 l10 l12 t2 l12 u1))
theorem qX5_tryPiece_126 {G : kdS} (hG : kzG G) {k70' : Nat → Int → Int → Int → Int → Int → Int → Int → Int → kzM → Option (Unit × kzM)} {k70 : Nat → Int32 → Int32 → Int32 → Int32 → Int32 → Int32 → Int32 → Int32 → kdM → Option (Unit × kdM)} (hk70 : ∀ (a0 : Nat) (a1 : Int) (_ : kzI a1) (a2 : Int) (_ : kzI a2) (a3 : Int) (_ : kzI a3) (a4 : Int) (_ : kzI a4) (a5 : Int) (_ : kzI a5) (a6 : Int) (_ : kzI a6) (a7 : Int) (_ : kzI a7) (a8 : Int) (_ : kzI a8), CRu (k70' a0 a1 a2 a3 a4 a5 a6 a7 a8) (k70 a0 (Int32.ofInt a1) (Int32.ofInt a2) (Int32.ofInt a3) (Int32.ofInt a4) (Int32.ofInt a5) (Int32.ofInt a6) (Int32.ofInt a7) (Int32.ofInt a8))) (l0 : Nat) {l1 : Int} (hl1 : kzI l1) {l2 : Int} (hl2 : kzI l2) {l3 : Int} (hl3 : kzI l3) {l4 : Int} (hl4 : kzI l4) {l6 : Int} (hl6 : kzI l6) {l8 : Int} (hl8 : kzI l8) {l9 : Int} (hl9 : kzI l9) {l10 : Int} (hl10 : kzI l10) {l11 : Int} (hl11 : kzI l11) {l12 : Int} (hl12 : kzI l12) (s0 : Nat) {s1 : Int} (hs1 : kzI s1) : CRu (Z5_tryPiece_126 G k70' l0 l1 l2 l3 l4 l6 l8 l9 l10 l11 l12 s0 s1) (X5_tryPiece_126 G k70 l0 (Int32.ofInt l1) (Int32.ofInt l2) (Int32.ofInt l3) (Int32.ofInt l4) (Int32.ofInt l6) (Int32.ofInt l8) (Int32.ofInt l9) (Int32.ofInt l10) (Int32.ofInt l11) (Int32.ofInt l12) s0 (Int32.ofInt s1)) := by
  unfold Z5_tryPiece_126 X5_tryPiece_126
  exact c_cv (qX5_isBetter hG s0 hs1 hl9 hl12) (fun t1 ht1 => c_cnd (kz_eq ht1 (by unfold kzI; omega) rfl rfl) ((qX5_tryPiece_189 hG hk70 l0 hl1 hl2 hl3 hl4 hl6 hl8 hl9 hl10)) (c_gR (fun t2 => c_cnd (kz_eq hl11 (by unfold kzI; omega) rfl rfl) ((qX5_tryPiece_162 hG hk70 l0 hl1 hl2 hl3 hl4 hl6 hl8 hl9 hl10 hl12 t2 hl12 hl8)) (c_gR (fun t3 => c_cv (qX7_switchPrice hG t3) (fun t4 ht4 => c_rg (kz_add rfl rfl) fun u1 r1 e1 => (e1 ▸ (qX5_tryPiece_162 hG hk70 l0 hl1 hl2 hl3 hl4 hl6 hl8 hl9 hl10 hl12 t2 hl12 r1))))))))
def Z5_tryPiece_94 (G : kdS) (k70 : Nat → Int → Int → Int → Int → Int → Int → Int → Int → kzM → Option (Unit × kzM)) (l0 : Nat) (l1 : Int) (l2 : Int) (l3 : Int) (l4 : Int) (l6 : Int) (l8 : Int) (l9 : Int) (l10 : Int) (s0 : Int) : kzM → Option (Unit × kzM) :=
  zcl (Z5_caseOf G l1 l2 l10) fun t1 =>
  zcnd (s0 = (0 : Int))
  (Z5_tryPiece_126 G k70 l0 l1 l2 l3 l4 l6 l8 l9 l10 s0 t1 l0 l8)
  (zgR G 5 1 l0 fun t2 =>
  zcv G 7 t2 (Z7_switchPrice G t2) fun t3 =>
  zlI (l8 + t3) fun u1 =>
  Z5_tryPiece_126 G k70 l0 l1 l2 l3 l4 l6 l8 l9 l10 s0 t1 l0 u1)
theorem qX5_tryPiece_94 {G : kdS} (hG : kzG G) {k70' : Nat → Int → Int → Int → Int → Int → Int → Int → Int → kzM → Option (Unit × kzM)} {k70 : Nat → Int32 → Int32 → Int32 → Int32 → Int32 → Int32 → Int32 → Int32 → kdM → Option (Unit × kdM)} (hk70 : ∀ (a0 : Nat) (a1 : Int) (_ : kzI a1) (a2 : Int) (_ : kzI a2) (a3 : Int) (_ : kzI a3) (a4 : Int) (_ : kzI a4) (a5 : Int) (_ : kzI a5) (a6 : Int) (_ : kzI a6) (a7 : Int) (_ : kzI a7) (a8 : Int) (_ : kzI a8), CRu (k70' a0 a1 a2 a3 a4 a5 a6 a7 a8) (k70 a0 (Int32.ofInt a1) (Int32.ofInt a2) (Int32.ofInt a3) (Int32.ofInt a4) (Int32.ofInt a5) (Int32.ofInt a6) (Int32.ofInt a7) (Int32.ofInt a8))) (l0 : Nat) {l1 : Int} (hl1 : kzI l1) {l2 : Int} (hl2 : kzI l2) {l3 : Int} (hl3 : kzI l3) {l4 : Int} (hl4 : kzI l4) {l6 : Int} (hl6 : kzI l6) {l8 : Int} (hl8 : kzI l8) {l9 : Int} (hl9 : kzI l9) {l10 : Int} (hl10 : kzI l10) {s0 : Int} (hs0 : kzI s0) : CRu (Z5_tryPiece_94 G k70' l0 l1 l2 l3 l4 l6 l8 l9 l10 s0) (X5_tryPiece_94 G k70 l0 (Int32.ofInt l1) (Int32.ofInt l2) (Int32.ofInt l3) (Int32.ofInt l4) (Int32.ofInt l6) (Int32.ofInt l8) (Int32.ofInt l9) (Int32.ofInt l10) (Int32.ofInt s0)) := by
  unfold Z5_tryPiece_94 X5_tryPiece_94
  exact c_cl (qX5_caseOf hG hl1 hl2 hl10) (fun t1 ht1 => c_cnd (kz_eq hs0 (by unfold kzI; omega) rfl rfl) ((qX5_tryPiece_126 hG hk70 l0 hl1 hl2 hl3 hl4 hl6 hl8 hl9 hl10 hs0 ht1 l0 hl8)) (c_gR (fun t2 => c_cv (qX7_switchPrice hG t2) (fun t3 ht3 => c_rg (kz_add rfl rfl) fun u1 r1 e1 => (e1 ▸ (qX5_tryPiece_126 hG hk70 l0 hl1 hl2 hl3 hl4 hl6 hl8 hl9 hl10 hs0 ht1 l0 r1))))))
def Z5_tryPiece_93 (G : kdS) (k70 : Nat → Int → Int → Int → Int → Int → Int → Int → Int → kzM → Option (Unit × kzM)) (l0 : Nat) (l1 : Int) (l2 : Int) (l3 : Int) (l4 : Int) (l6 : Int) (l8 : Int) (l9 : Int) (l10 : Int) : kzM → Option (Unit × kzM) :=
  Z5_tryPiece_94 G k70 l0 l1 l2 l3 l4 l6 l8 l9 l10 (0 : Int)
theorem qX5_tryPiece_93 {G : kdS} (hG : kzG G) {k70' : Nat → Int → Int → Int → Int → Int → Int → Int → Int → kzM → Option (Unit × kzM)} {k70 : Nat → Int32 → Int32 → Int32 → Int32 → Int32 → Int32 → Int32 → Int32 → kdM → Option (Unit × kdM)} (hk70 : ∀ (a0 : Nat) (a1 : Int) (_ : kzI a1) (a2 : Int) (_ : kzI a2) (a3 : Int) (_ : kzI a3) (a4 : Int) (_ : kzI a4) (a5 : Int) (_ : kzI a5) (a6 : Int) (_ : kzI a6) (a7 : Int) (_ : kzI a7) (a8 : Int) (_ : kzI a8), CRu (k70' a0 a1 a2 a3 a4 a5 a6 a7 a8) (k70 a0 (Int32.ofInt a1) (Int32.ofInt a2) (Int32.ofInt a3) (Int32.ofInt a4) (Int32.ofInt a5) (Int32.ofInt a6) (Int32.ofInt a7) (Int32.ofInt a8))) (l0 : Nat) {l1 : Int} (hl1 : kzI l1) {l2 : Int} (hl2 : kzI l2) {l3 : Int} (hl3 : kzI l3) {l4 : Int} (hl4 : kzI l4) {l6 : Int} (hl6 : kzI l6) {l8 : Int} (hl8 : kzI l8) {l9 : Int} (hl9 : kzI l9) {l10 : Int} (hl10 : kzI l10) : CRu (Z5_tryPiece_93 G k70' l0 l1 l2 l3 l4 l6 l8 l9 l10) (X5_tryPiece_93 G k70 l0 (Int32.ofInt l1) (Int32.ofInt l2) (Int32.ofInt l3) (Int32.ofInt l4) (Int32.ofInt l6) (Int32.ofInt l8) (Int32.ofInt l9) (Int32.ofInt l10)) := by
  unfold Z5_tryPiece_93 X5_tryPiece_93
  exact (qX5_tryPiece_94 hG hk70 l0 hl1 hl2 hl3 hl4 hl6 hl8 hl9 hl10 (by unfold kzI; omega))
def Z5_tryPiece_70B (G : kdS) (k70 : Nat → Int → Int → Int → Int → Int → Int → Int → Int → kzM → Option (Unit × kzM)) (l0 : Nat) (l1 : Int) (l2 : Int) (l3 : Int) (l4 : Int) (l6 : Int) (l8 : Int) (l9 : Int) (l10 : Int) : kzM → Option (Unit × kzM) :=
  zcnd ((3 : Int) < l10)
  (zrt ())
  (zcnd (l10 = l6)
  (Z5_tryPiece_93 G k70 l0 l1 l2 l3 l4 l6 l8 l9 l10)
  (zcnd (l10 = (3 : Int))
  (Z5_tryPiece_93 G k70 l0 l1 l2 l3 l4 l6 l8 l9 l10)
  (Z5_tryPiece_94 G k70 l0 l1 l2 l3 l4 l6 l8 l9 l10 (1 : Int))))
theorem qX5_tryPiece_70B {G : kdS} (hG : kzG G) {k70' : Nat → Int → Int → Int → Int → Int → Int → Int → Int → kzM → Option (Unit × kzM)} {k70 : Nat → Int32 → Int32 → Int32 → Int32 → Int32 → Int32 → Int32 → Int32 → kdM → Option (Unit × kdM)} (hk70 : ∀ (a0 : Nat) (a1 : Int) (_ : kzI a1) (a2 : Int) (_ : kzI a2) (a3 : Int) (_ : kzI a3) (a4 : Int) (_ : kzI a4) (a5 : Int) (_ : kzI a5) (a6 : Int) (_ : kzI a6) (a7 : Int) (_ : kzI a7) (a8 : Int) (_ : kzI a8), CRu (k70' a0 a1 a2 a3 a4 a5 a6 a7 a8) (k70 a0 (Int32.ofInt a1) (Int32.ofInt a2) (Int32.ofInt a3) (Int32.ofInt a4) (Int32.ofInt a5) (Int32.ofInt a6) (Int32.ofInt a7) (Int32.ofInt a8))) (l0 : Nat) {l1 : Int} (hl1 : kzI l1) {l2 : Int} (hl2 : kzI l2) {l3 : Int} (hl3 : kzI l3) {l4 : Int} (hl4 : kzI l4) {l6 : Int} (hl6 : kzI l6) {l8 : Int} (hl8 : kzI l8) {l9 : Int} (hl9 : kzI l9) {l10 : Int} (hl10 : kzI l10) : CRu (Z5_tryPiece_70B G k70' l0 l1 l2 l3 l4 l6 l8 l9 l10) (X5_tryPiece_70B G k70 l0 (Int32.ofInt l1) (Int32.ofInt l2) (Int32.ofInt l3) (Int32.ofInt l4) (Int32.ofInt l6) (Int32.ofInt l8) (Int32.ofInt l9) (Int32.ofInt l10)) := by
  unfold Z5_tryPiece_70B X5_tryPiece_70B
  exact c_cnd (kz_lt (by unfold kzI; omega) hl10 rfl rfl) (c_rt trivial rfl) (c_cnd (kz_eq hl10 hl6 rfl rfl) ((qX5_tryPiece_93 hG hk70 l0 hl1 hl2 hl3 hl4 hl6 hl8 hl9 hl10)) (c_cnd (kz_eq hl10 (by unfold kzI; omega) rfl rfl) ((qX5_tryPiece_93 hG hk70 l0 hl1 hl2 hl3 hl4 hl6 hl8 hl9 hl10)) ((qX5_tryPiece_94 hG hk70 l0 hl1 hl2 hl3 hl4 hl6 hl8 hl9 hl10 (by unfold kzI; omega)))))
def Z5_tryPiece_70 (G : kdS) : Nat → Int → Int → Int → Int → Int → Int → Int → Int → kzM → Option (Unit × kzM) := lp (fun _ _ _ _ _ _ _ _ _ _ => none) (Z5_tryPiece_70B G) NN
theorem qX5_tryPiece_70 {G : kdS} (hG : kzG G) : ∀ (a0 : Nat) (a1 : Int) (_ : kzI a1) (a2 : Int) (_ : kzI a2) (a3 : Int) (_ : kzI a3) (a4 : Int) (_ : kzI a4) (a5 : Int) (_ : kzI a5) (a6 : Int) (_ : kzI a6) (a7 : Int) (_ : kzI a7) (a8 : Int) (_ : kzI a8), CRu (Z5_tryPiece_70 G a0 a1 a2 a3 a4 a5 a6 a7 a8) (X5_tryPiece_70 G a0 (Int32.ofInt a1) (Int32.ofInt a2) (Int32.ofInt a3) (Int32.ofInt a4) (Int32.ofInt a5) (Int32.ofInt a6) (Int32.ofInt a7) (Int32.ofInt a8)) :=
  lp_rel (R := fun (f' : Nat → Int → Int → Int → Int → Int → Int → Int → Int → kzM → Option (Unit × kzM)) (f : Nat → Int32 → Int32 → Int32 → Int32 → Int32 → Int32 → Int32 → Int32 → kdM → Option (Unit × kdM)) => ∀ (a0 : Nat) (a1 : Int) (_ : kzI a1) (a2 : Int) (_ : kzI a2) (a3 : Int) (_ : kzI a3) (a4 : Int) (_ : kzI a4) (a5 : Int) (_ : kzI a5) (a6 : Int) (_ : kzI a6) (a7 : Int) (_ : kzI a7) (a8 : Int) (_ : kzI a8), CRu (f' a0 a1 a2 a3 a4 a5 a6 a7 a8) (f a0 (Int32.ofInt a1) (Int32.ofInt a2) (Int32.ofInt a3) (Int32.ofInt a4) (Int32.ofInt a5) (Int32.ofInt a6) (Int32.ofInt a7) (Int32.ofInt a8))) (by intros; exact c_no) (fun _ _ hf a0 a1 ha1 a2 ha2 a3 ha3 a4 ha4 a5 ha5 a6 ha6 a7 ha7 a8 ha8 => qX5_tryPiece_70B hG hf a0 ha1 ha2 ha3 ha4 ha5 ha6 ha7 ha8) NN
def Z5_tryPiece (G : kdS) (l0 : Nat) (l1 : Int) (l2 : Int) (l3 : Int) (l4 : Int) (l5 : Int) : kzM → Option (Unit × kzM) :=
  zgR G 5 0 l0 fun t1 =>
  zcv G 10 t1 (Z10_tongueOf G t1 l3) fun t2 =>
  zlI (l1 + l4) fun u1 =>
  zlI (l2 - (1 : Int)) fun u2 =>
  zcl (Z5_caseOf G u1 u2 t2) fun t3 =>
  zgR G 5 2 l0 fun t4 =>
  zaI G t4 t3 fun t5 =>
  zcnd (t5 = (1000000000 : Int))
  (zrt ())
  (zgR G 5 2 l0 fun t6 =>
  zaI G t6 t3 fun t7 =>
  zlI (l5 + t7) fun t8 =>
  zgR G 5 0 l0 fun t9 =>
  zcv G 10 t9 (Z10_countOf G t9 l3) fun t10 =>
  zgR G 5 3 l0 fun t11 =>
  zaI G t11 t3 fun t12 =>
  zlI (t10 * t12) fun t13 =>
  Z5_tryPiece_70 G l0 l1 l2 l3 l4 t2 t8 t13 (0 : Int))
theorem qX5_tryPiece {G : kdS} (hG : kzG G) (l0 : Nat) {l1 : Int} (hl1 : kzI l1) {l2 : Int} (hl2 : kzI l2) {l3 : Int} (hl3 : kzI l3) {l4 : Int} (hl4 : kzI l4) {l5 : Int} (hl5 : kzI l5) : CRu (Z5_tryPiece G l0 l1 l2 l3 l4 l5) (X5_tryPiece G l0 (Int32.ofInt l1) (Int32.ofInt l2) (Int32.ofInt l3) (Int32.ofInt l4) (Int32.ofInt l5)) := by
  unfold Z5_tryPiece X5_tryPiece
  exact c_gR (fun t1 => c_cv (qX10_tongueOf hG t1 hl3) (fun t2 ht2 => c_rg (kz_add rfl rfl) fun u1 r1 e1 => c_rg (kz_sub rfl rfl) fun u2 r2 e2 => c_cl (e2 ▸ (e1 ▸ (qX5_caseOf hG r1 r2 ht2))) (fun t3 ht3 => c_gR (fun t4 => c_aI hG rfl (fun t5 ht5 => c_cnd (kz_eq ht5 (by unfold kzI; omega) rfl rfl) (c_rt trivial rfl) (c_gR (fun t6 => c_aI hG rfl (fun t7 ht7 => c_lI (kz_add rfl rfl) (fun t8 ht8 => c_gR (fun t9 => c_cv (qX10_countOf hG t9 hl3) (fun t10 ht10 => c_gR (fun t11 => c_aI hG rfl (fun t12 ht12 => c_lI (kz_mul rfl rfl) (fun t13 ht13 => (qX5_tryPiece_70 hG l0 _ hl1 _ hl2 _ hl3 _ hl4 _ ht2 _ ht8 _ ht13 _ (by unfold kzI; omega))))))))))))))))
def Z5_tryWord_64B (G : kdS) (k35 : Nat → Int → Int → Int → Int → kzM → Option (Unit × kzM)) (k64 : Nat → Int → Int → Int → Int → Int → Int → kzM → Option (Unit × kzM)) (l0 : Nat) (l2 : Int) (l3 : Int) (l4 : Int) (l5 : Int) (l6 : Int) (l7 : Int) : kzM → Option (Unit × kzM) :=
  zcnd ((4 : Int) < l7)
  (zlI (l5 + (1 : Int)) fun t1 =>
  k35 l0 l2 l3 l4 t1)
  (zcv G 5 l0 (Z5_tryPiece G l0 l2 l7 l3 l5 l6) fun _ =>
  zlI (l7 + (1 : Int)) fun t2 =>
  k64 l0 l2 l3 l4 l5 l6 t2)
theorem qX5_tryWord_64B {G : kdS} (hG : kzG G) {k35' : Nat → Int → Int → Int → Int → kzM → Option (Unit × kzM)} {k35 : Nat → Int32 → Int32 → Int32 → Int32 → kdM → Option (Unit × kdM)} (hk35 : ∀ (a0 : Nat) (a1 : Int) (_ : kzI a1) (a2 : Int) (_ : kzI a2) (a3 : Int) (_ : kzI a3) (a4 : Int) (_ : kzI a4), CRu (k35' a0 a1 a2 a3 a4) (k35 a0 (Int32.ofInt a1) (Int32.ofInt a2) (Int32.ofInt a3) (Int32.ofInt a4))) {k64' : Nat → Int → Int → Int → Int → Int → Int → kzM → Option (Unit × kzM)} {k64 : Nat → Int32 → Int32 → Int32 → Int32 → Int32 → Int32 → kdM → Option (Unit × kdM)} (hk64 : ∀ (a0 : Nat) (a1 : Int) (_ : kzI a1) (a2 : Int) (_ : kzI a2) (a3 : Int) (_ : kzI a3) (a4 : Int) (_ : kzI a4) (a5 : Int) (_ : kzI a5) (a6 : Int) (_ : kzI a6), CRu (k64' a0 a1 a2 a3 a4 a5 a6) (k64 a0 (Int32.ofInt a1) (Int32.ofInt a2) (Int32.ofInt a3) (Int32.ofInt a4) (Int32.ofInt a5) (Int32.ofInt a6))) (l0 : Nat) {l2 : Int} (hl2 : kzI l2) {l3 : Int} (hl3 : kzI l3) {l4 : Int} (hl4 : kzI l4) {l5 : Int} (hl5 : kzI l5) {l6 : Int} (hl6 : kzI l6) {l7 : Int} (hl7 : kzI l7) : CRu (Z5_tryWord_64B G k35' k64' l0 l2 l3 l4 l5 l6 l7) (X5_tryWord_64B G k35 k64 l0 (Int32.ofInt l2) (Int32.ofInt l3) (Int32.ofInt l4) (Int32.ofInt l5) (Int32.ofInt l6) (Int32.ofInt l7)) := by
  unfold Z5_tryWord_64B X5_tryWord_64B
  exact c_cnd (kz_lt (by unfold kzI; omega) hl7 rfl rfl) (c_lI (kz_add rfl rfl) (fun t1 ht1 => (hk35 l0 _ hl2 _ hl3 _ hl4 _ ht1))) (c_cv (qX5_tryPiece hG l0 hl2 hl7 hl3 hl5 hl6) (fun _ _ => c_lI (kz_add rfl rfl) (fun t2 ht2 => (hk64 l0 _ hl2 _ hl3 _ hl4 _ hl5 _ hl6 _ ht2))))
def Z5_tryWord_64 (G : kdS) (k35 : Nat → Int → Int → Int → Int → kzM → Option (Unit × kzM)) : Nat → Int → Int → Int → Int → Int → Int → kzM → Option (Unit × kzM) := lp (fun _ _ _ _ _ _ _ _ => none) (Z5_tryWord_64B G k35) NN
theorem qX5_tryWord_64 {G : kdS} (hG : kzG G) {k35' : Nat → Int → Int → Int → Int → kzM → Option (Unit × kzM)} {k35 : Nat → Int32 → Int32 → Int32 → Int32 → kdM → Option (Unit × kdM)} (hk35 : ∀ (a0 : Nat) (a1 : Int) (_ : kzI a1) (a2 : Int) (_ : kzI a2) (a3 : Int) (_ : kzI a3) (a4 : Int) (_ : kzI a4), CRu (k35' a0 a1 a2 a3 a4) (k35 a0 (Int32.ofInt a1) (Int32.ofInt a2) (Int32.ofInt a3) (Int32.ofInt a4))) : ∀ (a0 : Nat) (a1 : Int) (_ : kzI a1) (a2 : Int) (_ : kzI a2) (a3 : Int) (_ : kzI a3) (a4 : Int) (_ : kzI a4) (a5 : Int) (_ : kzI a5) (a6 : Int) (_ : kzI a6), CRu (Z5_tryWord_64 G k35' a0 a1 a2 a3 a4 a5 a6) (X5_tryWord_64 G k35 a0 (Int32.ofInt a1) (Int32.ofInt a2) (Int32.ofInt a3) (Int32.ofInt a4) (Int32.ofInt a5) (Int32.ofInt a6)) :=
  lp_rel (R := fun (f' : Nat → Int → Int → Int → Int → Int → Int → kzM → Option (Unit × kzM)) (f : Nat → Int32 → Int32 → Int32 → Int32 → Int32 → Int32 → kdM → Option (Unit × kdM)) => ∀ (a0 : Nat) (a1 : Int) (_ : kzI a1) (a2 : Int) (_ : kzI a2) (a3 : Int) (_ : kzI a3) (a4 : Int) (_ : kzI a4) (a5 : Int) (_ : kzI a5) (a6 : Int) (_ : kzI a6), CRu (f' a0 a1 a2 a3 a4 a5 a6) (f a0 (Int32.ofInt a1) (Int32.ofInt a2) (Int32.ofInt a3) (Int32.ofInt a4) (Int32.ofInt a5) (Int32.ofInt a6))) (by intros; exact c_no) (fun _ _ hf a0 a1 ha1 a2 ha2 a3 ha3 a4 ha4 a5 ha5 a6 ha6 => qX5_tryWord_64B hG hk35 hf a0 ha1 ha2 ha3 ha4 ha5 ha6) NN
def Z5_tryWord_35B (G : kdS) (k35 : Nat → Int → Int → Int → Int → kzM → Option (Unit × kzM)) (l0 : Nat) (l2 : Int) (l3 : Int) (l4 : Int) (l5 : Int) : kzM → Option (Unit × kzM) :=
  zcnd (l4 < l5)
  (zrt ())
  (zgR G 5 1 l0 fun t1 =>
  zgR G 5 0 l0 fun t2 =>
  zcv G 10 t2 (Z10_keysOf G t2 l3) fun t3 =>
  zcv G 7 t1 (Z7_leastFor G t1 l5 t3) fun t4 =>
  Z5_tryWord_64 G k35 l0 l2 l3 l4 l5 t4 (1 : Int))
theorem qX5_tryWord_35B {G : kdS} (hG : kzG G) {k35' : Nat → Int → Int → Int → Int → kzM → Option (Unit × kzM)} {k35 : Nat → Int32 → Int32 → Int32 → Int32 → kdM → Option (Unit × kdM)} (hk35 : ∀ (a0 : Nat) (a1 : Int) (_ : kzI a1) (a2 : Int) (_ : kzI a2) (a3 : Int) (_ : kzI a3) (a4 : Int) (_ : kzI a4), CRu (k35' a0 a1 a2 a3 a4) (k35 a0 (Int32.ofInt a1) (Int32.ofInt a2) (Int32.ofInt a3) (Int32.ofInt a4))) (l0 : Nat) {l2 : Int} (hl2 : kzI l2) {l3 : Int} (hl3 : kzI l3) {l4 : Int} (hl4 : kzI l4) {l5 : Int} (hl5 : kzI l5) : CRu (Z5_tryWord_35B G k35' l0 l2 l3 l4 l5) (X5_tryWord_35B G k35 l0 (Int32.ofInt l2) (Int32.ofInt l3) (Int32.ofInt l4) (Int32.ofInt l5)) := by
  unfold Z5_tryWord_35B X5_tryWord_35B
  exact c_cnd (kz_lt hl4 hl5 rfl rfl) (c_rt trivial rfl) (c_gR (fun t1 => c_gR (fun t2 => c_cv (qX10_keysOf hG t2 hl3) (fun t3 _ => c_cv (qX7_leastFor hG t1 hl5 t3) (fun t4 ht4 => (qX5_tryWord_64 hG hk35 l0 _ hl2 _ hl3 _ hl4 _ hl5 _ ht4 _ (by unfold kzI; omega)))))))
def Z5_tryWord_35 (G : kdS) : Nat → Int → Int → Int → Int → kzM → Option (Unit × kzM) := lp (fun _ _ _ _ _ _ => none) (Z5_tryWord_35B G) NN
theorem qX5_tryWord_35 {G : kdS} (hG : kzG G) : ∀ (a0 : Nat) (a1 : Int) (_ : kzI a1) (a2 : Int) (_ : kzI a2) (a3 : Int) (_ : kzI a3) (a4 : Int) (_ : kzI a4), CRu (Z5_tryWord_35 G a0 a1 a2 a3 a4) (X5_tryWord_35 G a0 (Int32.ofInt a1) (Int32.ofInt a2) (Int32.ofInt a3) (Int32.ofInt a4)) :=
  lp_rel (R := fun (f' : Nat → Int → Int → Int → Int → kzM → Option (Unit × kzM)) (f : Nat → Int32 → Int32 → Int32 → Int32 → kdM → Option (Unit × kdM)) => ∀ (a0 : Nat) (a1 : Int) (_ : kzI a1) (a2 : Int) (_ : kzI a2) (a3 : Int) (_ : kzI a3) (a4 : Int) (_ : kzI a4), CRu (f' a0 a1 a2 a3 a4) (f a0 (Int32.ofInt a1) (Int32.ofInt a2) (Int32.ofInt a3) (Int32.ofInt a4))) (by intros; exact c_no) (fun _ _ hf a0 a1 ha1 a2 ha2 a3 ha3 a4 ha4 => qX5_tryWord_35B hG hf a0 ha1 ha2 ha3 ha4) NN
def Z5_tryWord (G : kdS) (l0 : Nat) (l1 : Nat) (l2 : Int) (l3 : Int) : kzM → Option (Unit × kzM) :=
  zcv G 6 l1 (Z6_size G l1) fun t1 =>
  zlI (t1 - l2) fun u1 =>
  zlI (zmin (10 : Int) u1) fun t2 =>
  zgR G 5 1 l0 fun t3 =>
  zgR G 5 0 l0 fun t4 =>
  zcv G 10 t4 (Z10_keysOf G t4 l3) fun t5 =>
  zcv G 7 t3 (Z7_workOut G t3 l1 l2 t2 t5) fun _ =>
  Z5_tryWord_35 G l0 l2 l3 t2 (1 : Int)
theorem qX5_tryWord {G : kdS} (hG : kzG G) (l0 : Nat) (l1 : Nat) {l2 : Int} (hl2 : kzI l2) {l3 : Int} (hl3 : kzI l3) : CRu (Z5_tryWord G l0 l1 l2 l3) (X5_tryWord G l0 l1 (Int32.ofInt l2) (Int32.ofInt l3)) := by
  unfold Z5_tryWord X5_tryWord
  exact c_cv (qX6_size hG l1) (fun t1 ht1 => c_rg (kz_sub rfl rfl) fun u1 r1 e1 => c_lI (kz_min (by unfold kzI; omega) r1 rfl e1) (fun t2 ht2 => c_gR (fun t3 => c_gR (fun t4 => c_cv (qX10_keysOf hG t4 hl3) (fun t5 _ => c_cv (qX7_workOut hG t3 l1 hl2 ht2 t5) (fun _ _ => (qX5_tryWord_35 hG l0 _ hl2 _ hl3 _ ht2 _ (by unfold kzI; omega))))))))
def Z5_find_58 (G : kdS) (k15 : Nat → Nat → Int → Int → kzM → Option (Int × kzM)) (k22 : Nat → Nat → Int → Int → Int → kzM → Option (Int × kzM)) (l0 : Nat) (l1 : Nat) (l2 : Int) (l3 : Int) (l4 : Int) : kzM → Option (Int × kzM) :=
  zlI (l4 + (1 : Int)) fun t1 =>
  k22 l0 l1 l2 l3 t1
theorem qX5_find_58 {G : kdS} (hG : kzG G) {k15' : Nat → Nat → Int → Int → kzM → Option (Int × kzM)} {k15 : Nat → Nat → Int32 → Int32 → kdM → Option (Int32 × kdM)} (hk15 : ∀ (a0 : Nat) (a1 : Nat) (a2 : Int) (_ : kzI a2) (a3 : Int) (_ : kzI a3), CRi (k15' a0 a1 a2 a3) (k15 a0 a1 (Int32.ofInt a2) (Int32.ofInt a3))) {k22' : Nat → Nat → Int → Int → Int → kzM → Option (Int × kzM)} {k22 : Nat → Nat → Int32 → Int32 → Int32 → kdM → Option (Int32 × kdM)} (hk22 : ∀ (a0 : Nat) (a1 : Nat) (a2 : Int) (_ : kzI a2) (a3 : Int) (_ : kzI a3) (a4 : Int) (_ : kzI a4), CRi (k22' a0 a1 a2 a3 a4) (k22 a0 a1 (Int32.ofInt a2) (Int32.ofInt a3) (Int32.ofInt a4))) (l0 : Nat) (l1 : Nat) {l2 : Int} (hl2 : kzI l2) {l3 : Int} (hl3 : kzI l3) {l4 : Int} (hl4 : kzI l4) : CRi (Z5_find_58 G k15' k22' l0 l1 l2 l3 l4) (X5_find_58 G k15 k22 l0 l1 (Int32.ofInt l2) (Int32.ofInt l3) (Int32.ofInt l4)) := by
  unfold Z5_find_58 X5_find_58
  exact c_lI (kz_add rfl rfl) (fun t1 ht1 => (hk22 l0 l1 _ hl2 _ hl3 _ ht1))
def Z5_find_22B (G : kdS) (k15 : Nat → Nat → Int → Int → kzM → Option (Int × kzM)) (k22 : Nat → Nat → Int → Int → Int → kzM → Option (Int × kzM)) (l0 : Nat) (l1 : Nat) (l2 : Int) (l3 : Int) (l4 : Int) : kzM → Option (Int × kzM) :=
  zgR G 5 0 l0 fun t1 =>
  zcv G 10 t1 (Z10_size G t1) fun t2 =>
  zcnd (t2 ≤ l4)
  (zlI (l3 + (-1 : Int)) fun t3 =>
  k15 l0 l1 l2 t3)
  (zgR G 5 0 l0 fun t4 =>
  zcv G 10 t4 (Z10_tongueOf G t4 l4) fun t5 =>
  zcl (Z11_hasBit G l2 t5) fun t6 =>
  zcnd (t6 = (0 : Int))
  (Z5_find_58 G k15 k22 l0 l1 l2 l3 l4)
  (zcv G 5 l0 (Z5_tryWord G l0 l1 l3 l4) fun _ =>
  Z5_find_58 G k15 k22 l0 l1 l2 l3 l4))
theorem qX5_find_22B {G : kdS} (hG : kzG G) {k15' : Nat → Nat → Int → Int → kzM → Option (Int × kzM)} {k15 : Nat → Nat → Int32 → Int32 → kdM → Option (Int32 × kdM)} (hk15 : ∀ (a0 : Nat) (a1 : Nat) (a2 : Int) (_ : kzI a2) (a3 : Int) (_ : kzI a3), CRi (k15' a0 a1 a2 a3) (k15 a0 a1 (Int32.ofInt a2) (Int32.ofInt a3))) {k22' : Nat → Nat → Int → Int → Int → kzM → Option (Int × kzM)} {k22 : Nat → Nat → Int32 → Int32 → Int32 → kdM → Option (Int32 × kdM)} (hk22 : ∀ (a0 : Nat) (a1 : Nat) (a2 : Int) (_ : kzI a2) (a3 : Int) (_ : kzI a3) (a4 : Int) (_ : kzI a4), CRi (k22' a0 a1 a2 a3 a4) (k22 a0 a1 (Int32.ofInt a2) (Int32.ofInt a3) (Int32.ofInt a4))) (l0 : Nat) (l1 : Nat) {l2 : Int} (hl2 : kzI l2) {l3 : Int} (hl3 : kzI l3) {l4 : Int} (hl4 : kzI l4) : CRi (Z5_find_22B G k15' k22' l0 l1 l2 l3 l4) (X5_find_22B G k15 k22 l0 l1 (Int32.ofInt l2) (Int32.ofInt l3) (Int32.ofInt l4)) := by
  unfold Z5_find_22B X5_find_22B
  exact c_gR (fun t1 => c_cv (qX10_size hG t1) (fun t2 ht2 => c_cnd (kz_le ht2 hl4 rfl rfl) (c_lI (kz_add rfl rfl) (fun t3 ht3 => (hk15 l0 l1 _ hl2 _ ht3))) (c_gR (fun t4 => c_cv (qX10_tongueOf hG t4 hl4) (fun t5 ht5 => c_cl (qX11_hasBit hG hl2 ht5) (fun t6 ht6 => c_cnd (kz_eq ht6 (by unfold kzI; omega) rfl rfl) ((qX5_find_58 hG hk15 hk22 l0 l1 hl2 hl3 hl4)) (c_cv (qX5_tryWord hG l0 l1 hl3 hl4) (fun _ _ => (qX5_find_58 hG hk15 hk22 l0 l1 hl2 hl3 hl4)))))))))
def Z5_find_22 (G : kdS) (k15 : Nat → Nat → Int → Int → kzM → Option (Int × kzM)) : Nat → Nat → Int → Int → Int → kzM → Option (Int × kzM) := lp (fun _ _ _ _ _ _ => none) (Z5_find_22B G k15) NN
theorem qX5_find_22 {G : kdS} (hG : kzG G) {k15' : Nat → Nat → Int → Int → kzM → Option (Int × kzM)} {k15 : Nat → Nat → Int32 → Int32 → kdM → Option (Int32 × kdM)} (hk15 : ∀ (a0 : Nat) (a1 : Nat) (a2 : Int) (_ : kzI a2) (a3 : Int) (_ : kzI a3), CRi (k15' a0 a1 a2 a3) (k15 a0 a1 (Int32.ofInt a2) (Int32.ofInt a3))) : ∀ (a0 : Nat) (a1 : Nat) (a2 : Int) (_ : kzI a2) (a3 : Int) (_ : kzI a3) (a4 : Int) (_ : kzI a4), CRi (Z5_find_22 G k15' a0 a1 a2 a3 a4) (X5_find_22 G k15 a0 a1 (Int32.ofInt a2) (Int32.ofInt a3) (Int32.ofInt a4)) :=
  lp_rel (R := fun (f' : Nat → Nat → Int → Int → Int → kzM → Option (Int × kzM)) (f : Nat → Nat → Int32 → Int32 → Int32 → kdM → Option (Int32 × kdM)) => ∀ (a0 : Nat) (a1 : Nat) (a2 : Int) (_ : kzI a2) (a3 : Int) (_ : kzI a3) (a4 : Int) (_ : kzI a4), CRi (f' a0 a1 a2 a3 a4) (f a0 a1 (Int32.ofInt a2) (Int32.ofInt a3) (Int32.ofInt a4))) (by intros; exact c_no) (fun _ _ hf a0 a1 a2 ha2 a3 ha3 a4 ha4 => qX5_find_22B hG hk15 hf a0 a1 ha2 ha3 ha4) NN
def Z5_find_89 (G : kdS) (s0 : Int) : kzM → Option (Int × kzM) :=
  zrt (zB s0)
theorem qX5_find_89 {G : kdS} (hG : kzG G) {s0 : Int} (hs0 : kzI s0) : CRi (Z5_find_89 G s0) (X5_find_89 G (Int32.ofInt s0)) := by
  unfold Z5_find_89 X5_find_89
  exact c_rt (kz_BI _) (kz_B rfl)
def Z5_find_15B (G : kdS) (k15 : Nat → Nat → Int → Int → kzM → Option (Int × kzM)) (l0 : Nat) (l1 : Nat) (l2 : Int) (l3 : Int) : kzM → Option (Int × kzM) :=
  zcnd (l3 < (0 : Int))
  (zcv G 5 l0 (Z5_bestNumberOfPieces G l0) fun t1 =>
  zcv G 5 l0 (Z5_follow G l0 t1) fun _ =>
  zcnd (t1 ≤ (0 : Int))
  (Z5_find_89 G (0 : Int))
  (Z5_find_89 G (1 : Int)))
  (Z5_find_22 G k15 l0 l1 l2 l3 (0 : Int))
theorem qX5_find_15B {G : kdS} (hG : kzG G) {k15' : Nat → Nat → Int → Int → kzM → Option (Int × kzM)} {k15 : Nat → Nat → Int32 → Int32 → kdM → Option (Int32 × kdM)} (hk15 : ∀ (a0 : Nat) (a1 : Nat) (a2 : Int) (_ : kzI a2) (a3 : Int) (_ : kzI a3), CRi (k15' a0 a1 a2 a3) (k15 a0 a1 (Int32.ofInt a2) (Int32.ofInt a3))) (l0 : Nat) (l1 : Nat) {l2 : Int} (hl2 : kzI l2) {l3 : Int} (hl3 : kzI l3) : CRi (Z5_find_15B G k15' l0 l1 l2 l3) (X5_find_15B G k15 l0 l1 (Int32.ofInt l2) (Int32.ofInt l3)) := by
  unfold Z5_find_15B X5_find_15B
  exact c_cnd (kz_lt hl3 (by unfold kzI; omega) rfl rfl) (c_cv (qX5_bestNumberOfPieces hG l0) (fun t1 ht1 => c_cv (qX5_follow hG l0 ht1) (fun _ _ => c_cnd (kz_le ht1 (by unfold kzI; omega) rfl rfl) ((qX5_find_89 hG (by unfold kzI; omega))) ((qX5_find_89 hG (by unfold kzI; omega)))))) ((qX5_find_22 hG hk15 l0 l1 _ hl2 _ hl3 _ (by unfold kzI; omega)))
def Z5_find_15 (G : kdS) : Nat → Nat → Int → Int → kzM → Option (Int × kzM) := lp (fun _ _ _ _ _ => none) (Z5_find_15B G) NN
theorem qX5_find_15 {G : kdS} (hG : kzG G) : ∀ (a0 : Nat) (a1 : Nat) (a2 : Int) (_ : kzI a2) (a3 : Int) (_ : kzI a3), CRi (Z5_find_15 G a0 a1 a2 a3) (X5_find_15 G a0 a1 (Int32.ofInt a2) (Int32.ofInt a3)) :=
  lp_rel (R := fun (f' : Nat → Nat → Int → Int → kzM → Option (Int × kzM)) (f : Nat → Nat → Int32 → Int32 → kdM → Option (Int32 × kdM)) => ∀ (a0 : Nat) (a1 : Nat) (a2 : Int) (_ : kzI a2) (a3 : Int) (_ : kzI a3), CRi (f' a0 a1 a2 a3) (f a0 a1 (Int32.ofInt a2) (Int32.ofInt a3))) (by intros; exact c_no) (fun _ _ hf a0 a1 a2 ha2 a3 ha3 => qX5_find_15B hG hf a0 a1 ha2 ha3) NN
def Z5_find (G : kdS) (l0 : Nat) (l1 : Nat) (l2 : Int) : kzM → Option (Int × kzM) :=
  zcv G 6 l1 (Z6_size G l1) fun t1 =>
  zcv G 5 l0 (Z5_start G l0 t1) fun _ =>
  zcv G 6 l1 (Z6_size G l1) fun t2 =>
  zlI (t2 - (1 : Int)) fun t3 =>
  Z5_find_15 G l0 l1 l2 t3
theorem qX5_find {G : kdS} (hG : kzG G) (l0 : Nat) (l1 : Nat) {l2 : Int} (hl2 : kzI l2) : CRi (Z5_find G l0 l1 l2) (X5_find G l0 l1 (Int32.ofInt l2)) := by
  unfold Z5_find X5_find
  exact c_cv (qX6_size hG l1) (fun t1 ht1 => c_cv (qX5_start hG l0 ht1) (fun _ _ => c_cv (qX6_size hG l1) (fun t2 ht2 => c_lI (kz_sub rfl rfl) (fun t3 ht3 => (qX5_find_15 hG l0 l1 _ hl2 _ ht3)))))
def Z0_pairs (G : kdS) (l0 : Nat) : kzM → Option (Int × kzM) :=
  zgI G 0 2 l0 fun t1 =>
  zrt t1
theorem qX0_pairs {G : kdS} (hG : kzG G) (l0 : Nat) : CRi (Z0_pairs G l0) (X0_pairs G l0) := by
  unfold Z0_pairs X0_pairs
  exact c_gI rfl (fun t1 ht1 => c_rt ht1 rfl)
def Z0_together (G : kdS) (l0 : Nat) (l1 : Int) (l2 : Int) : kzM → Option (Int × kzM) :=
  zgR G 0 1 l0 fun t1 =>
  zaR G 18 t1 l1 fun t2 =>
  zaI G t2 l2 fun t3 =>
  zrt t3
theorem qX0_together {G : kdS} (hG : kzG G) (l0 : Nat) {l1 : Int} (hl1 : kzI l1) {l2 : Int} (hl2 : kzI l2) : CRi (Z0_together G l0 l1 l2) (X0_together G l0 (Int32.ofInt l1) (Int32.ofInt l2)) := by
  unfold Z0_together X0_together
  exact c_gR (fun t1 => c_aR hG rfl (fun t2 => c_aI hG rfl (fun t3 ht3 => c_rt ht3 rfl)))
def Z0_setTogether_43 (G : kdS) (l4 : Int) (s0 : Nat) (s1 : Int) (s2 : Int) (s3 : Int) : kzM → Option (Int × kzM) :=
  zlI (s1 + (s2 - s3)) fun u1 =>
  zsI G 0 2 s0 u1 <|
  zrt l4
theorem qX0_setTogether_43 {G : kdS} (hG : kzG G) {l4 : Int} (hl4 : kzI l4) (s0 : Nat) {s1 : Int} (hs1 : kzI s1) {s2 : Int} (hs2 : kzI s2) {s3 : Int} (hs3 : kzI s3) : CRi (Z0_setTogether_43 G l4 s0 s1 s2 s3) (X0_setTogether_43 G (Int32.ofInt l4) s0 (Int32.ofInt s1) (Int32.ofInt s2) (Int32.ofInt s3)) := by
  unfold Z0_setTogether_43 X0_setTogether_43
  exact c_rg (kz_add rfl (kz_sub rfl rfl)) fun u1 r1 e1 => c_sI rfl r1 e1 (c_rt hl4 rfl)
def Z0_setTogether_33 (G : kdS) (l4 : Int) (s0 : Nat) (s1 : Int) (s2 : Int) : kzM → Option (Int × kzM) :=
  zcnd (l4 ≤ (0 : Int))
  (Z0_setTogether_43 G l4 s0 s1 s2 (0 : Int))
  (Z0_setTogether_43 G l4 s0 s1 s2 (1 : Int))
theorem qX0_setTogether_33 {G : kdS} (hG : kzG G) {l4 : Int} (hl4 : kzI l4) (s0 : Nat) {s1 : Int} (hs1 : kzI s1) {s2 : Int} (hs2 : kzI s2) : CRi (Z0_setTogether_33 G l4 s0 s1 s2) (X0_setTogether_33 G (Int32.ofInt l4) s0 (Int32.ofInt s1) (Int32.ofInt s2)) := by
  unfold Z0_setTogether_33 X0_setTogether_33
  exact c_cnd (kz_le hl4 (by unfold kzI; omega) rfl rfl) ((qX0_setTogether_43 hG hl4 s0 hs1 hs2 (by unfold kzI; omega))) ((qX0_setTogether_43 hG hl4 s0 hs1 hs2 (by unfold kzI; omega)))
def Z0_setTogether (G : kdS) (l0 : Nat) (l1 : Int) (l2 : Int) (l3 : Int) : kzM → Option (Int × kzM) :=
  zgR G 0 1 l0 fun t1 =>
  zaR G 18 t1 l1 fun t2 =>
  zaI G t2 l2 fun t3 =>
  zgR G 0 1 l0 fun t4 =>
  zaR G 18 t4 l1 fun t5 =>
  ztI G t5 l2 l3 <|
  zgI G 0 2 l0 fun t6 =>
  zcnd (l3 ≤ (0 : Int))
  (Z0_setTogether_33 G t3 l0 t6 (0 : Int))
  (Z0_setTogether_33 G t3 l0 t6 (1 : Int))
theorem qX0_setTogether {G : kdS} (hG : kzG G) (l0 : Nat) {l1 : Int} (hl1 : kzI l1) {l2 : Int} (hl2 : kzI l2) {l3 : Int} (hl3 : kzI l3) : CRi (Z0_setTogether G l0 l1 l2 l3) (X0_setTogether G l0 (Int32.ofInt l1) (Int32.ofInt l2) (Int32.ofInt l3)) := by
  unfold Z0_setTogether X0_setTogether
  exact c_gR (fun t1 => c_aR hG rfl (fun t2 => c_aI hG rfl (fun t3 ht3 => c_gR (fun t4 => c_aR hG rfl (fun t5 => c_tI hG rfl hl3 rfl (c_gI rfl (fun t6 ht6 => c_cnd (kz_le hl3 (by unfold kzI; omega) rfl rfl) ((qX0_setTogether_33 hG ht3 l0 ht6 (by unfold kzI; omega))) ((qX0_setTogether_33 hG ht3 l0 ht6 (by unfold kzI; omega))))))))))
def Z0_padSize (G : kdS) (l0 : Nat) : kzM → Option (Int × kzM) :=
  zgR G 0 3 l0 fun t1 =>
  zcv G 6 t1 (Z6_size G t1) fun t2 =>
  zrt t2
theorem qX0_padSize {G : kdS} (hG : kzG G) (l0 : Nat) : CRi (Z0_padSize G l0) (X0_padSize G l0) := by
  unfold Z0_padSize X0_padSize
  exact c_gR (fun t1 => c_cv (qX6_size hG t1) (fun t2 ht2 => c_rt ht2 rfl))
def Z0_isPadFull (G : kdS) (l0 : Nat) : kzM → Option (Int × kzM) :=
  zgR G 0 3 l0 fun t1 =>
  zcv G 6 t1 (Z6_isFull G t1) fun t2 =>
  zrt (zB t2)
theorem qX0_isPadFull {G : kdS} (hG : kzG G) (l0 : Nat) : CRi (Z0_isPadFull G l0) (X0_isPadFull G l0) := by
  unfold Z0_isPadFull X0_isPadFull
  exact c_gR (fun t1 => c_cv (qX6_isFull hG t1) (fun t2 ht2 => c_rt (kz_BI _) (kz_B rfl)))
def Z0_addToPad_21 (G : kdS) (l0 : Nat) (s0 : Nat) (s1 : Int) : kzM → Option (Int × kzM) :=
  zcv G 6 s0 (Z6_add G s0 s1) fun _ =>
  zgR G 0 3 l0 fun t1 =>
  zcv G 6 t1 (Z6_size G t1) fun t2 =>
  zrt t2
theorem qX0_addToPad_21 {G : kdS} (hG : kzG G) (l0 : Nat) (s0 : Nat) {s1 : Int} (hs1 : kzI s1) : CRi (Z0_addToPad_21 G l0 s0 s1) (X0_addToPad_21 G l0 s0 (Int32.ofInt s1)) := by
  unfold Z0_addToPad_21 X0_addToPad_21
  exact c_cv (qX6_add hG s0 hs1) (fun _ _ => c_gR (fun t1 => c_cv (qX6_size hG t1) (fun t2 ht2 => c_rt ht2 rfl)))
def Z0_addToPad (G : kdS) (l0 : Nat) (l1 : Int) (l2 : Int) : kzM → Option (Int × kzM) :=
  zgR G 0 3 l0 fun t1 =>
  zcv G 6 t1 (Z6_add G t1 l1) fun _ =>
  zgR G 0 4 l0 fun t2 =>
  zcnd (l2 = (0 : Int))
  (Z0_addToPad_21 G l0 t2 (0 : Int))
  (Z0_addToPad_21 G l0 t2 (1 : Int))
theorem qX0_addToPad {G : kdS} (hG : kzG G) (l0 : Nat) {l1 : Int} (hl1 : kzI l1) {l2 : Int} (hl2 : kzI l2) : CRi (Z0_addToPad G l0 l1 l2) (X0_addToPad G l0 (Int32.ofInt l1) (Int32.ofInt l2)) := by
  unfold Z0_addToPad X0_addToPad
  exact c_gR (fun t1 => c_cv (qX6_add hG t1 hl1) (fun _ _ => c_gR (fun t2 => c_cnd (kz_eq hl2 (by unfold kzI; omega) rfl rfl) ((qX0_addToPad_21 hG l0 t2 (by unfold kzI; omega))) ((qX0_addToPad_21 hG l0 t2 (by unfold kzI; omega))))))
def Z0_clearPad (G : kdS) (l0 : Nat) : kzM → Option (Int × kzM) :=
  zgR G 0 4 l0 fun t1 =>
  zcv G 6 t1 (Z6_clear G t1) fun t2 =>
  zgR G 0 3 l0 fun t3 =>
  zcv G 6 t3 (Z6_clear G t3) fun t4 =>
  zrt t4
theorem qX0_clearPad {G : kdS} (hG : kzG G) (l0 : Nat) : CRi (Z0_clearPad G l0) (X0_clearPad G l0) := by
  unfold Z0_clearPad X0_clearPad
  exact c_gR (fun t1 => c_cv (qX6_clear hG t1) (fun t2 ht2 => c_gR (fun t3 => c_cv (qX6_clear hG t3) (fun t4 ht4 => c_rt ht4 rfl))))
def Z0_chosenWords (G : kdS) (l0 : Nat) : kzM → Option (Nat × kzM) :=
  zgR G 0 5 l0 fun t1 =>
  zrt t1
theorem qX0_chosenWords {G : kdS} (hG : kzG G) (l0 : Nat) : CRn (Z0_chosenWords G l0) (X0_chosenWords G l0) := by
  unfold Z0_chosenWords X0_chosenWords
  exact c_gR (fun t1 => c_rt trivial rfl)
def Z0_canStand_42 (G : kdS) (s0 : Int) : kzM → Option (Int × kzM) :=
  zrt (zB s0)
theorem qX0_canStand_42 {G : kdS} (hG : kzG G) {s0 : Int} (hs0 : kzI s0) : CRi (Z0_canStand_42 G s0) (X0_canStand_42 G (Int32.ofInt s0)) := by
  unfold Z0_canStand_42 X0_canStand_42
  exact c_rt (kz_BI _) (kz_B rfl)
def Z0_canStand_37 (G : kdS) : kzM → Option (Int × kzM) :=
  Z0_canStand_42 G (1 : Int)
theorem qX0_canStand_37 {G : kdS} (hG : kzG G) : CRi (Z0_canStand_37 G) (X0_canStand_37 G) := by
  unfold Z0_canStand_37 X0_canStand_37
  exact (qX0_canStand_42 hG (by unfold kzI; omega))
def Z0_canStand_41 (G : kdS) : kzM → Option (Int × kzM) :=
  Z0_canStand_42 G (0 : Int)
theorem qX0_canStand_41 {G : kdS} (hG : kzG G) : CRi (Z0_canStand_41 G) (X0_canStand_41 G) := by
  unfold Z0_canStand_41 X0_canStand_41
  exact (qX0_canStand_42 hG (by unfold kzI; omega))
def Z0_canStand (G : kdS) (l0 : Nat) (l1 : Int) (l2 : Int) : kzM → Option (Int × kzM) :=
  zgR G 0 3 l0 fun t1 =>
  zcv G 6 t1 (Z6_at G t1 l1) fun t2 =>
  zcnd (l2 = t2)
  (Z0_canStand_37 G)
  (zgR G 0 4 l0 fun t3 =>
  zcv G 6 t3 (Z6_at G t3 l1) fun t4 =>
  zcnd (t4 = (0 : Int))
  (zgR G 0 0 l0 fun t5 =>
  zcv G 10 t5 (Z10_soundAlike G t5 t2 l2) fun t6 =>
  zcnd (t6 = (0 : Int))
  (Z0_canStand_41 G)
  (Z0_canStand_37 G))
  (Z0_canStand_41 G))
theorem qX0_canStand {G : kdS} (hG : kzG G) (l0 : Nat) {l1 : Int} (hl1 : kzI l1) {l2 : Int} (hl2 : kzI l2) : CRi (Z0_canStand G l0 l1 l2) (X0_canStand G l0 (Int32.ofInt l1) (Int32.ofInt l2)) := by
  unfold Z0_canStand X0_canStand
  exact c_gR (fun t1 => c_cv (qX6_at hG t1 hl1) (fun t2 ht2 => c_cnd (kz_eq hl2 ht2 rfl rfl) ((qX0_canStand_37 hG)) (c_gR (fun t3 => c_cv (qX6_at hG t3 hl1) (fun t4 ht4 => c_cnd (kz_eq ht4 (by unfold kzI; omega) rfl rfl) (c_gR (fun t5 => c_cv (qX10_soundAlike hG t5 ht2 hl2) (fun t6 ht6 => c_cnd (kz_eq ht6 (by unfold kzI; omega) rfl rfl) ((qX0_canStand_41 hG)) ((qX0_canStand_37 hG))))) ((qX0_canStand_41 hG)))))))
def Z0_greatestBehind_87 (G : kdS) (k29 : Nat → Int → Int → Int → Int → kzM → Option (Int × kzM)) (l0 : Nat) (l1 : Int) (l2 : Int) (l3 : Int) (l5 : Int) : kzM → Option (Int × kzM) :=
  zlI (l5 + (1 : Int)) fun t1 =>
  k29 l0 l1 l2 l3 t1
theorem qX0_greatestBehind_87 {G : kdS} (hG : kzG G) {k29' : Nat → Int → Int → Int → Int → kzM → Option (Int × kzM)} {k29 : Nat → Int32 → Int32 → Int64 → Int32 → kdM → Option (Int64 × kdM)} (hk29 : ∀ (a0 : Nat) (a1 : Int) (_ : kzI a1) (a2 : Int) (_ : kzI a2) (a3 : Int) (_ : kzL a3) (a4 : Int) (_ : kzI a4), CRl (k29' a0 a1 a2 a3 a4) (k29 a0 (Int32.ofInt a1) (Int32.ofInt a2) (Int64.ofInt a3) (Int32.ofInt a4))) (l0 : Nat) {l1 : Int} (hl1 : kzI l1) {l2 : Int} (hl2 : kzI l2) {l3 : Int} (hl3 : kzL l3) {l5 : Int} (hl5 : kzI l5) : CRl (Z0_greatestBehind_87 G k29' l0 l1 l2 l3 l5) (X0_greatestBehind_87 G k29 l0 (Int32.ofInt l1) (Int32.ofInt l2) (Int64.ofInt l3) (Int32.ofInt l5)) := by
  unfold Z0_greatestBehind_87 X0_greatestBehind_87
  exact c_lI (kz_add rfl rfl) (fun t1 ht1 => (hk29 l0 _ hl1 _ hl2 _ hl3 _ ht1))
def Z0_greatestBehind_29B (G : kdS) (k29 : Nat → Int → Int → Int → Int → kzM → Option (Int × kzM)) (l0 : Nat) (l1 : Int) (l2 : Int) (l3 : Int) (l5 : Int) : kzM → Option (Int × kzM) :=
  zgR G 0 0 l0 fun t1 =>
  zcv G 10 t1 (Z10_size G t1) fun t2 =>
  zcnd (t2 ≤ l5)
  (zrt l3)
  (zgR G 0 1 l0 fun t3 =>
  zaR G 18 t3 l2 fun t4 =>
  zaI G t4 l5 fun t5 =>
  zgR G 0 6 l0 fun t6 =>
  zaR G 19 t6 (l1 + (1 : Int)) fun t7 =>
  zaL G t7 l5 fun t8 =>
  zlI (t5 + (1 : Int)) fun u1 =>
  zlL (u1 * t8) fun t9 =>
  zcnd (t9 ≤ l3)
  (Z0_greatestBehind_87 G k29 l0 l1 l2 l3 l5)
  (zgR G 0 7 l0 fun t10 =>
  zaR G 18 t10 l1 fun t11 =>
  ztI G t11 l2 l5 <|
  Z0_greatestBehind_87 G k29 l0 l1 l2 t9 l5))
theorem qX0_greatestBehind_29B {G : kdS} (hG : kzG G) {k29' : Nat → Int → Int → Int → Int → kzM → Option (Int × kzM)} {k29 : Nat → Int32 → Int32 → Int64 → Int32 → kdM → Option (Int64 × kdM)} (hk29 : ∀ (a0 : Nat) (a1 : Int) (_ : kzI a1) (a2 : Int) (_ : kzI a2) (a3 : Int) (_ : kzL a3) (a4 : Int) (_ : kzI a4), CRl (k29' a0 a1 a2 a3 a4) (k29 a0 (Int32.ofInt a1) (Int32.ofInt a2) (Int64.ofInt a3) (Int32.ofInt a4))) (l0 : Nat) {l1 : Int} (hl1 : kzI l1) {l2 : Int} (hl2 : kzI l2) {l3 : Int} (hl3 : kzL l3) {l5 : Int} (hl5 : kzI l5) : CRl (Z0_greatestBehind_29B G k29' l0 l1 l2 l3 l5) (X0_greatestBehind_29B G k29 l0 (Int32.ofInt l1) (Int32.ofInt l2) (Int64.ofInt l3) (Int32.ofInt l5)) := by
  unfold Z0_greatestBehind_29B X0_greatestBehind_29B
  exact c_gR (fun t1 => c_cv (qX10_size hG t1) (fun t2 ht2 => c_cnd (kz_le ht2 hl5 rfl rfl) (c_rt hl3 rfl) (c_gR (fun t3 => c_aR hG rfl (fun t4 => c_aI hG rfl (fun t5 ht5 => c_gR (fun t6 => c_aR hG (kz_add rfl rfl) (fun t7 => c_aL hG rfl (fun t8 ht8 => c_rg (kz_add rfl rfl) fun u1 r1 e1 => c_lL (kzL_mul (kz_i2l r1 e1) rfl) (fun t9 ht9 => c_cnd (kzL_le ht9 hl3 rfl rfl) ((qX0_greatestBehind_87 hG hk29 l0 hl1 hl2 hl3 hl5)) (c_gR (fun t10 => c_aR hG rfl (fun t11 => c_tI hG rfl hl5 rfl ((qX0_greatestBehind_87 hG hk29 l0 hl1 hl2 ht9 hl5)))))))))))))))
def Z0_greatestBehind_29 (G : kdS) : Nat → Int → Int → Int → Int → kzM → Option (Int × kzM) := lp (fun _ _ _ _ _ _ => none) (Z0_greatestBehind_29B G) NN
theorem qX0_greatestBehind_29 {G : kdS} (hG : kzG G) : ∀ (a0 : Nat) (a1 : Int) (_ : kzI a1) (a2 : Int) (_ : kzI a2) (a3 : Int) (_ : kzL a3) (a4 : Int) (_ : kzI a4), CRl (Z0_greatestBehind_29 G a0 a1 a2 a3 a4) (X0_greatestBehind_29 G a0 (Int32.ofInt a1) (Int32.ofInt a2) (Int64.ofInt a3) (Int32.ofInt a4)) :=
  lp_rel (R := fun (f' : Nat → Int → Int → Int → Int → kzM → Option (Int × kzM)) (f : Nat → Int32 → Int32 → Int64 → Int32 → kdM → Option (Int64 × kdM)) => ∀ (a0 : Nat) (a1 : Int) (_ : kzI a1) (a2 : Int) (_ : kzI a2) (a3 : Int) (_ : kzL a3) (a4 : Int) (_ : kzI a4), CRl (f' a0 a1 a2 a3 a4) (f a0 (Int32.ofInt a1) (Int32.ofInt a2) (Int64.ofInt a3) (Int32.ofInt a4))) (by intros; exact c_no) (fun _ _ hf a0 a1 ha1 a2 ha2 a3 ha3 a4 ha4 => qX0_greatestBehind_29B hG hf a0 ha1 ha2 ha3 ha4) NN
def Z0_greatestBehind (G : kdS) (l0 : Nat) (l1 : Int) (l2 : Int) : kzM → Option (Int × kzM) :=
  zgR G 0 7 l0 fun t1 =>
  zaR G 18 t1 l1 fun t2 =>
  ztI G t2 l2 (0 : Int) <|
  zgR G 0 3 l0 fun t3 =>
  zcv G 6 t3 (Z6_size G t3) fun t4 =>
  zlI (t4 - (1 : Int)) fun u1 =>
  zcnd (l1 = u1)
  (zrt (1 : Int))
  (Z0_greatestBehind_29 G l0 l1 l2 (0 : Int) (0 : Int))
theorem qX0_greatestBehind {G : kdS} (hG : kzG G) (l0 : Nat) {l1 : Int} (hl1 : kzI l1) {l2 : Int} (hl2 : kzI l2) : CRl (Z0_greatestBehind G l0 l1 l2) (X0_greatestBehind G l0 (Int32.ofInt l1) (Int32.ofInt l2)) := by
  unfold Z0_greatestBehind X0_greatestBehind
  exact c_gR (fun t1 => c_aR hG rfl (fun t2 => c_tI hG rfl (by unfold kzI; omega) rfl (c_gR (fun t3 => c_cv (qX6_size hG t3) (fun t4 ht4 => c_rg (kz_sub rfl rfl) fun u1 r1 e1 => c_cnd (kz_eq hl1 r1 rfl e1) (c_rt (show kzL (1 : Int) by unfold kzL; omega) rfl) ((qX0_greatestBehind_29 hG l0 _ hl1 _ hl2 _ (show kzL (0 : Int) by unfold kzL; omega) _ (by unfold kzI; omega))))))))
def Z0_weighPlace_49 (G : kdS) (k2 : Nat → Int → Int → kzM → Option (Unit × kzM)) (l0 : Nat) (l1 : Int) (l2 : Int) (s0 : Nat) (s1 : Int) (s2 : Int) : kzM → Option (Unit × kzM) :=
  ztL G s0 s1 s2 <|
  zlI (l2 + (1 : Int)) fun t1 =>
  k2 l0 l1 t1
theorem qX0_weighPlace_49 {G : kdS} (hG : kzG G) {k2' : Nat → Int → Int → kzM → Option (Unit × kzM)} {k2 : Nat → Int32 → Int32 → kdM → Option (Unit × kdM)} (hk2 : ∀ (a0 : Nat) (a1 : Int) (_ : kzI a1) (a2 : Int) (_ : kzI a2), CRu (k2' a0 a1 a2) (k2 a0 (Int32.ofInt a1) (Int32.ofInt a2))) (l0 : Nat) {l1 : Int} (hl1 : kzI l1) {l2 : Int} (hl2 : kzI l2) (s0 : Nat) {s1 : Int} (hs1 : kzI s1) {s2 : Int} (hs2 : kzL s2) : CRu (Z0_weighPlace_49 G k2' l0 l1 l2 s0 s1 s2) (X0_weighPlace_49 G k2 l0 (Int32.ofInt l1) (Int32.ofInt l2) s0 (Int32.ofInt s1) (Int64.ofInt s2)) := by
  unfold Z0_weighPlace_49 X0_weighPlace_49
  exact c_tL hG rfl hs2 rfl (c_lI (kz_add rfl rfl) (fun t1 ht1 => (hk2 l0 _ hl1 _ ht1)))
def Z0_weighPlace_2B (G : kdS) (k2 : Nat → Int → Int → kzM → Option (Unit × kzM)) (l0 : Nat) (l1 : Int) (l2 : Int) : kzM → Option (Unit × kzM) :=
  zgR G 0 0 l0 fun t1 =>
  zcv G 10 t1 (Z10_size G t1) fun t2 =>
  zcnd (t2 ≤ l2)
  (zrt ())
  (zgR G 0 6 l0 fun t3 =>
  zaR G 19 t3 l1 fun t4 =>
  zcv G 0 l0 (Z0_canStand G l0 l1 l2) fun t5 =>
  zcnd (t5 = (0 : Int))
  (Z0_weighPlace_49 G k2 l0 l1 l2 t4 l2 (0 : Int))
  (zgR G 0 0 l0 fun t6 =>
  zcv G 10 t6 (Z10_countOf G t6 l2) fun t7 =>
  zcv G 0 l0 (Z0_greatestBehind G l0 l1 l2) fun t8 =>
  zlL (t7 * t8) fun u1 =>
  Z0_weighPlace_49 G k2 l0 l1 l2 t4 l2 u1))
theorem qX0_weighPlace_2B {G : kdS} (hG : kzG G) {k2' : Nat → Int → Int → kzM → Option (Unit × kzM)} {k2 : Nat → Int32 → Int32 → kdM → Option (Unit × kdM)} (hk2 : ∀ (a0 : Nat) (a1 : Int) (_ : kzI a1) (a2 : Int) (_ : kzI a2), CRu (k2' a0 a1 a2) (k2 a0 (Int32.ofInt a1) (Int32.ofInt a2))) (l0 : Nat) {l1 : Int} (hl1 : kzI l1) {l2 : Int} (hl2 : kzI l2) : CRu (Z0_weighPlace_2B G k2' l0 l1 l2) (X0_weighPlace_2B G k2 l0 (Int32.ofInt l1) (Int32.ofInt l2)) := by
  unfold Z0_weighPlace_2B X0_weighPlace_2B
  exact c_gR (fun t1 => c_cv (qX10_size hG t1) (fun t2 ht2 => c_cnd (kz_le ht2 hl2 rfl rfl) (c_rt trivial rfl) (c_gR (fun t3 => c_aR hG rfl (fun t4 => c_cv (qX0_canStand hG l0 hl1 hl2) (fun t5 ht5 => c_cnd (kz_eq ht5 (by unfold kzI; omega) rfl rfl) ((qX0_weighPlace_49 hG hk2 l0 hl1 hl2 t4 hl2 (show kzL (0 : Int) by unfold kzL; omega))) (c_gR (fun t6 => c_cv (qX10_countOf hG t6 hl2) (fun t7 ht7 => c_cv (qX0_greatestBehind hG l0 hl1 hl2) (fun t8 ht8 => c_rgL (kzL_mul (kz_i2l ht7 rfl) rfl) fun u1 r1 e1 => (e1 ▸ (qX0_weighPlace_49 hG hk2 l0 hl1 hl2 t4 hl2 r1))))))))))))
def Z0_weighPlace_2 (G : kdS) : Nat → Int → Int → kzM → Option (Unit × kzM) := lp (fun _ _ _ _ => none) (Z0_weighPlace_2B G) NN
theorem qX0_weighPlace_2 {G : kdS} (hG : kzG G) : ∀ (a0 : Nat) (a1 : Int) (_ : kzI a1) (a2 : Int) (_ : kzI a2), CRu (Z0_weighPlace_2 G a0 a1 a2) (X0_weighPlace_2 G a0 (Int32.ofInt a1) (Int32.ofInt a2)) :=
  lp_rel (R := fun (f' : Nat → Int → Int → kzM → Option (Unit × kzM)) (f : Nat → Int32 → Int32 → kdM → Option (Unit × kdM)) => ∀ (a0 : Nat) (a1 : Int) (_ : kzI a1) (a2 : Int) (_ : kzI a2), CRu (f' a0 a1 a2) (f a0 (Int32.ofInt a1) (Int32.ofInt a2))) (by intros; exact c_no) (fun _ _ hf a0 a1 ha1 a2 ha2 => qX0_weighPlace_2B hG hf a0 ha1 ha2) NN
def Z0_weighPlace (G : kdS) (l0 : Nat) (l1 : Int) : kzM → Option (Unit × kzM) :=
  Z0_weighPlace_2 G l0 l1 (0 : Int)
theorem qX0_weighPlace {G : kdS} (hG : kzG G) (l0 : Nat) {l1 : Int} (hl1 : kzI l1) : CRu (Z0_weighPlace G l0 l1) (X0_weighPlace G l0 (Int32.ofInt l1)) := by
  unfold Z0_weighPlace X0_weighPlace
  exact (qX0_weighPlace_2 hG l0 _ hl1 _ (by unfold kzI; omega))
def Z0_choose_82 (G : kdS) (k49 : Nat → Int → Int → kzM → Option (Int × kzM)) (l0 : Nat) (l1 : Int) (l2 : Int) : kzM → Option (Int × kzM) :=
  zlI (l2 + (1 : Int)) fun t1 =>
  k49 l0 l1 t1
theorem qX0_choose_82 {G : kdS} (hG : kzG G) {k49' : Nat → Int → Int → kzM → Option (Int × kzM)} {k49 : Nat → Int32 → Int32 → kdM → Option (Int64 × kdM)} (hk49 : ∀ (a0 : Nat) (a1 : Int) (_ : kzI a1) (a2 : Int) (_ : kzI a2), CRl (k49' a0 a1 a2) (k49 a0 (Int32.ofInt a1) (Int32.ofInt a2))) (l0 : Nat) {l1 : Int} (hl1 : kzI l1) {l2 : Int} (hl2 : kzI l2) : CRl (Z0_choose_82 G k49' l0 l1 l2) (X0_choose_82 G k49 l0 (Int32.ofInt l1) (Int32.ofInt l2)) := by
  unfold Z0_choose_82 X0_choose_82
  exact c_lI (kz_add rfl rfl) (fun t1 ht1 => (hk49 l0 _ hl1 _ ht1))
def Z0_choose_92B (G : kdS) (k92 : Nat → Int → Int → Int → kzM → Option (Int × kzM)) (l0 : Nat) (l1 : Int) (l2 : Int) (l3 : Int) : kzM → Option (Int × kzM) :=
  zgR G 0 3 l0 fun t1 =>
  zcv G 6 t1 (Z6_size G t1) fun t2 =>
  zcnd (t2 ≤ l3)
  (zgR G 0 6 l0 fun t3 =>
  zaR G 19 t3 (0 : Int) fun t4 =>
  zaL G t4 l1 fun t5 =>
  zrt t5)
  (zgR G 0 5 l0 fun t6 =>
  zcv G 6 t6 (Z6_add G t6 l2) fun _ =>
  zgR G 0 7 l0 fun t7 =>
  zaR G 18 t7 l3 fun t8 =>
  zaI G t8 l2 fun t9 =>
  zlI (l3 + (1 : Int)) fun t10 =>
  k92 l0 l1 t9 t10)
theorem qX0_choose_92B {G : kdS} (hG : kzG G) {k92' : Nat → Int → Int → Int → kzM → Option (Int × kzM)} {k92 : Nat → Int32 → Int32 → Int32 → kdM → Option (Int64 × kdM)} (hk92 : ∀ (a0 : Nat) (a1 : Int) (_ : kzI a1) (a2 : Int) (_ : kzI a2) (a3 : Int) (_ : kzI a3), CRl (k92' a0 a1 a2 a3) (k92 a0 (Int32.ofInt a1) (Int32.ofInt a2) (Int32.ofInt a3))) (l0 : Nat) {l1 : Int} (hl1 : kzI l1) {l2 : Int} (hl2 : kzI l2) {l3 : Int} (hl3 : kzI l3) : CRl (Z0_choose_92B G k92' l0 l1 l2 l3) (X0_choose_92B G k92 l0 (Int32.ofInt l1) (Int32.ofInt l2) (Int32.ofInt l3)) := by
  unfold Z0_choose_92B X0_choose_92B
  exact c_gR (fun t1 => c_cv (qX6_size hG t1) (fun t2 ht2 => c_cnd (kz_le ht2 hl3 rfl rfl) (c_gR (fun t3 => c_aR hG rfl (fun t4 => c_aL hG rfl (fun t5 ht5 => c_rt ht5 rfl)))) (c_gR (fun t6 => c_cv (qX6_add hG t6 hl2) (fun _ _ => c_gR (fun t7 => c_aR hG rfl (fun t8 => c_aI hG rfl (fun t9 ht9 => c_lI (kz_add rfl rfl) (fun t10 ht10 => (hk92 l0 _ hl1 _ ht9 _ ht10))))))))))
def Z0_choose_92 (G : kdS) : Nat → Int → Int → Int → kzM → Option (Int × kzM) := lp (fun _ _ _ _ _ => none) (Z0_choose_92B G) NN
theorem qX0_choose_92 {G : kdS} (hG : kzG G) : ∀ (a0 : Nat) (a1 : Int) (_ : kzI a1) (a2 : Int) (_ : kzI a2) (a3 : Int) (_ : kzI a3), CRl (Z0_choose_92 G a0 a1 a2 a3) (X0_choose_92 G a0 (Int32.ofInt a1) (Int32.ofInt a2) (Int32.ofInt a3)) :=
  lp_rel (R := fun (f' : Nat → Int → Int → Int → kzM → Option (Int × kzM)) (f : Nat → Int32 → Int32 → Int32 → kdM → Option (Int64 × kdM)) => ∀ (a0 : Nat) (a1 : Int) (_ : kzI a1) (a2 : Int) (_ : kzI a2) (a3 : Int) (_ : kzI a3), CRl (f' a0 a1 a2 a3) (f a0 (Int32.ofInt a1) (Int32.ofInt a2) (Int32.ofInt a3))) (by intros; exact c_no) (fun _ _ hf a0 a1 ha1 a2 ha2 a3 ha3 => qX0_choose_92B hG hf a0 ha1 ha2 ha3) NN
def Z0_choose_49B (G : kdS) (k49 : Nat → Int → Int → kzM → Option (Int × kzM)) (l0 : Nat) (l1 : Int) (l2 : Int) : kzM → Option (Int × kzM) :=
  zgR G 0 0 l0 fun t1 =>
  zcv G 10 t1 (Z10_size G t1) fun t2 =>
  zcnd (t2 ≤ l2)
  (Z0_choose_92 G l0 l1 l1 (0 : Int))
  (zgR G 0 6 l0 fun t3 =>
  zaR G 19 t3 (0 : Int) fun t4 =>
  zaL G t4 l2 fun t5 =>
  zgR G 0 6 l0 fun t6 =>
  zaR G 19 t6 (0 : Int) fun t7 =>
  zaL G t7 l1 fun t8 =>
  zcnd (t5 ≤ t8)
  (Z0_choose_82 G k49 l0 l1 l2)
  (Z0_choose_82 G k49 l0 l2 l2))
theorem qX0_choose_49B {G : kdS} (hG : kzG G) {k49' : Nat → Int → Int → kzM → Option (Int × kzM)} {k49 : Nat → Int32 → Int32 → kdM → Option (Int64 × kdM)} (hk49 : ∀ (a0 : Nat) (a1 : Int) (_ : kzI a1) (a2 : Int) (_ : kzI a2), CRl (k49' a0 a1 a2) (k49 a0 (Int32.ofInt a1) (Int32.ofInt a2))) (l0 : Nat) {l1 : Int} (hl1 : kzI l1) {l2 : Int} (hl2 : kzI l2) : CRl (Z0_choose_49B G k49' l0 l1 l2) (X0_choose_49B G k49 l0 (Int32.ofInt l1) (Int32.ofInt l2)) := by
  unfold Z0_choose_49B X0_choose_49B
  exact c_gR (fun t1 => c_cv (qX10_size hG t1) (fun t2 ht2 => c_cnd (kz_le ht2 hl2 rfl rfl) ((qX0_choose_92 hG l0 _ hl1 _ hl1 _ (by unfold kzI; omega))) (c_gR (fun t3 => c_aR hG rfl (fun t4 => c_aL hG rfl (fun t5 ht5 => c_gR (fun t6 => c_aR hG rfl (fun t7 => c_aL hG rfl (fun t8 ht8 => c_cnd (kzL_le ht5 ht8 rfl rfl) ((qX0_choose_82 hG hk49 l0 hl1 hl2)) ((qX0_choose_82 hG hk49 l0 hl2 hl2)))))))))))
def Z0_choose_49 (G : kdS) : Nat → Int → Int → kzM → Option (Int × kzM) := lp (fun _ _ _ _ => none) (Z0_choose_49B G) NN
theorem qX0_choose_49 {G : kdS} (hG : kzG G) : ∀ (a0 : Nat) (a1 : Int) (_ : kzI a1) (a2 : Int) (_ : kzI a2), CRl (Z0_choose_49 G a0 a1 a2) (X0_choose_49 G a0 (Int32.ofInt a1) (Int32.ofInt a2)) :=
  lp_rel (R := fun (f' : Nat → Int → Int → kzM → Option (Int × kzM)) (f : Nat → Int32 → Int32 → kdM → Option (Int64 × kdM)) => ∀ (a0 : Nat) (a1 : Int) (_ : kzI a1) (a2 : Int) (_ : kzI a2), CRl (f' a0 a1 a2) (f a0 (Int32.ofInt a1) (Int32.ofInt a2))) (by intros; exact c_no) (fun _ _ hf a0 a1 ha1 a2 ha2 => qX0_choose_49B hG hf a0 ha1 ha2) NN
def Z0_choose_10B (G : kdS) (k10 : Nat → Int → kzM → Option (Int × kzM)) (l0 : Nat) (l1 : Int) : kzM → Option (Int × kzM) :=
  zcnd (l1 < (0 : Int))
  (zgR G 0 5 l0 fun t1 =>
  zcv G 6 t1 (Z6_clear G t1) fun t2 =>
  zgR G 0 3 l0 fun t3 =>
  zcv G 6 t3 (Z6_isEmpty G t3) fun t4 =>
  zcnd (t4 = (0 : Int))
  (Z0_choose_49 G l0 (0 : Int) (1 : Int))
  (zrt (0 : Int)))
  (zcv G 0 l0 (Z0_weighPlace G l0 l1) fun _ =>
  zlI (l1 + (-1 : Int)) fun t5 =>
  k10 l0 t5)
theorem qX0_choose_10B {G : kdS} (hG : kzG G) {k10' : Nat → Int → kzM → Option (Int × kzM)} {k10 : Nat → Int32 → kdM → Option (Int64 × kdM)} (hk10 : ∀ (a0 : Nat) (a1 : Int) (_ : kzI a1), CRl (k10' a0 a1) (k10 a0 (Int32.ofInt a1))) (l0 : Nat) {l1 : Int} (hl1 : kzI l1) : CRl (Z0_choose_10B G k10' l0 l1) (X0_choose_10B G k10 l0 (Int32.ofInt l1)) := by
  unfold Z0_choose_10B X0_choose_10B
  exact c_cnd (kz_lt hl1 (by unfold kzI; omega) rfl rfl) (c_gR (fun t1 => c_cv (qX6_clear hG t1) (fun t2 ht2 => c_gR (fun t3 => c_cv (qX6_isEmpty hG t3) (fun t4 ht4 => c_cnd (kz_eq ht4 (by unfold kzI; omega) rfl rfl) ((qX0_choose_49 hG l0 _ (by unfold kzI; omega) _ (by unfold kzI; omega))) (c_rt (show kzL (0 : Int) by unfold kzL; omega) rfl)))))) (c_cv (qX0_weighPlace hG l0 hl1) (fun _ _ => c_lI (kz_add rfl rfl) (fun t5 ht5 => (hk10 l0 _ ht5))))
def Z0_choose_10 (G : kdS) : Nat → Int → kzM → Option (Int × kzM) := lp (fun _ _ _ => none) (Z0_choose_10B G) NN
theorem qX0_choose_10 {G : kdS} (hG : kzG G) : ∀ (a0 : Nat) (a1 : Int) (_ : kzI a1), CRl (Z0_choose_10 G a0 a1) (X0_choose_10 G a0 (Int32.ofInt a1)) :=
  lp_rel (R := fun (f' : Nat → Int → kzM → Option (Int × kzM)) (f : Nat → Int32 → kdM → Option (Int64 × kdM)) => ∀ (a0 : Nat) (a1 : Int) (_ : kzI a1), CRl (f' a0 a1) (f a0 (Int32.ofInt a1))) (by intros; exact c_no) (fun _ _ hf a0 a1 ha1 => qX0_choose_10B hG hf a0 ha1) NN
def Z0_choose (G : kdS) (l0 : Nat) : kzM → Option (Int × kzM) :=
  zgR G 0 3 l0 fun t1 =>
  zcv G 6 t1 (Z6_size G t1) fun t2 =>
  zlI (t2 - (1 : Int)) fun t3 =>
  Z0_choose_10 G l0 t3
theorem qX0_choose {G : kdS} (hG : kzG G) (l0 : Nat) : CRl (Z0_choose G l0) (X0_choose G l0) := by
  unfold Z0_choose X0_choose
  exact c_gR (fun t1 => c_cv (qX6_size hG t1) (fun t2 ht2 => c_lI (kz_sub rfl rfl) (fun t3 ht3 => (qX0_choose_10 hG l0 _ ht3))))
def Z2_learnings (G : kdS) (l0 : Nat) : kzM → Option (Int × kzM) :=
  zgR G 2 0 l0 fun t1 =>
  zcv G 6 t1 (Z6_size G t1) fun t2 =>
  zrt t2
theorem qX2_learnings {G : kdS} (hG : kzG G) (l0 : Nat) : CRi (Z2_learnings G l0) (X2_learnings G l0) := by
  unfold Z2_learnings X2_learnings
  exact c_gR (fun t1 => c_cv (qX6_size hG t1) (fun t2 ht2 => c_rt ht2 rfl))
def Z2_isFull (G : kdS) (l0 : Nat) : kzM → Option (Int × kzM) :=
  zgR G 2 0 l0 fun t1 =>
  zcv G 6 t1 (Z6_isFull G t1) fun t2 =>
  zrt (zB t2)
theorem qX2_isFull {G : kdS} (hG : kzG G) (l0 : Nat) : CRi (Z2_isFull G l0) (X2_isFull G l0) := by
  unfold Z2_isFull X2_isFull
  exact c_gR (fun t1 => c_cv (qX6_isFull hG t1) (fun t2 ht2 => c_rt (kz_BI _) (kz_B rfl)))
def Z2_addLearning (G : kdS) (l0 : Nat) (l1 : Int) (l2 : Int) (l3 : Int) : kzM → Option (Int × kzM) :=
  zgR G 2 0 l0 fun t1 =>
  zcv G 6 t1 (Z6_add G t1 l1) fun _ =>
  zgR G 2 1 l0 fun t2 =>
  zcv G 6 t2 (Z6_add G t2 l2) fun _ =>
  zgR G 2 2 l0 fun t3 =>
  zcv G 6 t3 (Z6_add G t3 l3) fun _ =>
  zcv G 2 l0 (Z2_learnings G l0) fun t4 =>
  zrt t4
theorem qX2_addLearning {G : kdS} (hG : kzG G) (l0 : Nat) {l1 : Int} (hl1 : kzI l1) {l2 : Int} (hl2 : kzI l2) {l3 : Int} (hl3 : kzI l3) : CRi (Z2_addLearning G l0 l1 l2 l3) (X2_addLearning G l0 (Int32.ofInt l1) (Int32.ofInt l2) (Int32.ofInt l3)) := by
  unfold Z2_addLearning X2_addLearning
  exact c_gR (fun t1 => c_cv (qX6_add hG t1 hl1) (fun _ _ => c_gR (fun t2 => c_cv (qX6_add hG t2 hl2) (fun _ _ => c_gR (fun t3 => c_cv (qX6_add hG t3 hl3) (fun _ _ => c_cv (qX2_learnings hG l0) (fun t4 ht4 => c_rt ht4 rfl)))))))
def Z2_latestDay_37 (G : kdS) (k4 : Nat → Int → Int → Int → kzM → Option (Int × kzM)) (l0 : Nat) (l1 : Int) (l2 : Int) (l3 : Int) : kzM → Option (Int × kzM) :=
  zlI (l3 + (1 : Int)) fun t1 =>
  k4 l0 l1 l2 t1
theorem qX2_latestDay_37 {G : kdS} (hG : kzG G) {k4' : Nat → Int → Int → Int → kzM → Option (Int × kzM)} {k4 : Nat → Int32 → Int32 → Int32 → kdM → Option (Int32 × kdM)} (hk4 : ∀ (a0 : Nat) (a1 : Int) (_ : kzI a1) (a2 : Int) (_ : kzI a2) (a3 : Int) (_ : kzI a3), CRi (k4' a0 a1 a2 a3) (k4 a0 (Int32.ofInt a1) (Int32.ofInt a2) (Int32.ofInt a3))) (l0 : Nat) {l1 : Int} (hl1 : kzI l1) {l2 : Int} (hl2 : kzI l2) {l3 : Int} (hl3 : kzI l3) : CRi (Z2_latestDay_37 G k4' l0 l1 l2 l3) (X2_latestDay_37 G k4 l0 (Int32.ofInt l1) (Int32.ofInt l2) (Int32.ofInt l3)) := by
  unfold Z2_latestDay_37 X2_latestDay_37
  exact c_lI (kz_add rfl rfl) (fun t1 ht1 => (hk4 l0 _ hl1 _ hl2 _ ht1))
def Z2_latestDay_4B (G : kdS) (k4 : Nat → Int → Int → Int → kzM → Option (Int × kzM)) (l0 : Nat) (l1 : Int) (l2 : Int) (l3 : Int) : kzM → Option (Int × kzM) :=
  zcv G 2 l0 (Z2_learnings G l0) fun t1 =>
  zcnd (t1 ≤ l3)
  (zrt l2)
  (zgR G 2 0 l0 fun t2 =>
  zcv G 6 t2 (Z6_at G t2 l3) fun t3 =>
  zcnd (t3 = l1)
  (zgR G 2 2 l0 fun t4 =>
  zcv G 6 t4 (Z6_at G t4 l3) fun t5 =>
  zlI (zmax l2 t5) fun t6 =>
  Z2_latestDay_37 G k4 l0 l1 t6 l3)
  (Z2_latestDay_37 G k4 l0 l1 l2 l3))
theorem qX2_latestDay_4B {G : kdS} (hG : kzG G) {k4' : Nat → Int → Int → Int → kzM → Option (Int × kzM)} {k4 : Nat → Int32 → Int32 → Int32 → kdM → Option (Int32 × kdM)} (hk4 : ∀ (a0 : Nat) (a1 : Int) (_ : kzI a1) (a2 : Int) (_ : kzI a2) (a3 : Int) (_ : kzI a3), CRi (k4' a0 a1 a2 a3) (k4 a0 (Int32.ofInt a1) (Int32.ofInt a2) (Int32.ofInt a3))) (l0 : Nat) {l1 : Int} (hl1 : kzI l1) {l2 : Int} (hl2 : kzI l2) {l3 : Int} (hl3 : kzI l3) : CRi (Z2_latestDay_4B G k4' l0 l1 l2 l3) (X2_latestDay_4B G k4 l0 (Int32.ofInt l1) (Int32.ofInt l2) (Int32.ofInt l3)) := by
  unfold Z2_latestDay_4B X2_latestDay_4B
  exact c_cv (qX2_learnings hG l0) (fun t1 ht1 => c_cnd (kz_le ht1 hl3 rfl rfl) (c_rt hl2 rfl) (c_gR (fun t2 => c_cv (qX6_at hG t2 hl3) (fun t3 ht3 => c_cnd (kz_eq ht3 hl1 rfl rfl) (c_gR (fun t4 => c_cv (qX6_at hG t4 hl3) (fun t5 ht5 => c_lI (kz_max hl2 ht5 rfl rfl) (fun t6 ht6 => (qX2_latestDay_37 hG hk4 l0 hl1 ht6 hl3))))) ((qX2_latestDay_37 hG hk4 l0 hl1 hl2 hl3))))))
def Z2_latestDay_4 (G : kdS) : Nat → Int → Int → Int → kzM → Option (Int × kzM) := lp (fun _ _ _ _ _ => none) (Z2_latestDay_4B G) NN
theorem qX2_latestDay_4 {G : kdS} (hG : kzG G) : ∀ (a0 : Nat) (a1 : Int) (_ : kzI a1) (a2 : Int) (_ : kzI a2) (a3 : Int) (_ : kzI a3), CRi (Z2_latestDay_4 G a0 a1 a2 a3) (X2_latestDay_4 G a0 (Int32.ofInt a1) (Int32.ofInt a2) (Int32.ofInt a3)) :=
  lp_rel (R := fun (f' : Nat → Int → Int → Int → kzM → Option (Int × kzM)) (f : Nat → Int32 → Int32 → Int32 → kdM → Option (Int32 × kdM)) => ∀ (a0 : Nat) (a1 : Int) (_ : kzI a1) (a2 : Int) (_ : kzI a2) (a3 : Int) (_ : kzI a3), CRi (f' a0 a1 a2 a3) (f a0 (Int32.ofInt a1) (Int32.ofInt a2) (Int32.ofInt a3))) (by intros; exact c_no) (fun _ _ hf a0 a1 ha1 a2 ha2 a3 ha3 => qX2_latestDay_4B hG hf a0 ha1 ha2 ha3) NN
def Z2_latestDay (G : kdS) (l0 : Nat) (l1 : Int) : kzM → Option (Int × kzM) :=
  Z2_latestDay_4 G l0 l1 (0 : Int) (0 : Int)
theorem qX2_latestDay {G : kdS} (hG : kzG G) (l0 : Nat) {l1 : Int} (hl1 : kzI l1) : CRi (Z2_latestDay G l0 l1) (X2_latestDay G l0 (Int32.ofInt l1)) := by
  unfold Z2_latestDay X2_latestDay
  exact (qX2_latestDay_4 hG l0 _ hl1 _ (by unfold kzI; omega) _ (by unfold kzI; omega))
def Z2_faded_6B (G : kdS) (k6 : Nat → Int → Int → Int → kzM → Option (Int × kzM)) (l0 : Nat) (l1 : Int) (l2 : Int) (l3 : Int) : kzM → Option (Int × kzM) :=
  zcnd (l1 ≤ l3)
  (zrt l2)
  (zgI G 2 4 l0 fun t1 =>
  znz (1000 : Int) <|
  zlI (l2 * t1) fun u1 =>
  zlI (u1.tdiv (1000 : Int)) fun t2 =>
  zcnd (t2 = l2)
  (zrt l2)
  (zlI (l3 + (1 : Int)) fun t3 =>
  k6 l0 l1 t2 t3))
theorem qX2_faded_6B {G : kdS} (hG : kzG G) {k6' : Nat → Int → Int → Int → kzM → Option (Int × kzM)} {k6 : Nat → Int32 → Int32 → Int32 → kdM → Option (Int32 × kdM)} (hk6 : ∀ (a0 : Nat) (a1 : Int) (_ : kzI a1) (a2 : Int) (_ : kzI a2) (a3 : Int) (_ : kzI a3), CRi (k6' a0 a1 a2 a3) (k6 a0 (Int32.ofInt a1) (Int32.ofInt a2) (Int32.ofInt a3))) (l0 : Nat) {l1 : Int} (hl1 : kzI l1) {l2 : Int} (hl2 : kzI l2) {l3 : Int} (hl3 : kzI l3) : CRi (Z2_faded_6B G k6' l0 l1 l2 l3) (X2_faded_6B G k6 l0 (Int32.ofInt l1) (Int32.ofInt l2) (Int32.ofInt l3)) := by
  unfold Z2_faded_6B X2_faded_6B
  exact c_cnd (kz_le hl1 hl3 rfl rfl) (c_rt hl2 rfl) (c_gI rfl (fun t1 ht1 => c_nz (by unfold kzI; omega) rfl (c_rg (kz_mul rfl rfl) fun u1 r1 e1 => c_lI (kz_div r1 (by unfold kzI; omega) e1 rfl) (fun t2 ht2 => c_cnd (kz_eq ht2 hl2 rfl rfl) (c_rt hl2 rfl) (c_lI (kz_add rfl rfl) (fun t3 ht3 => (hk6 l0 _ hl1 _ ht2 _ ht3)))))))
def Z2_faded_6 (G : kdS) : Nat → Int → Int → Int → kzM → Option (Int × kzM) := lp (fun _ _ _ _ _ => none) (Z2_faded_6B G) NN
theorem qX2_faded_6 {G : kdS} (hG : kzG G) : ∀ (a0 : Nat) (a1 : Int) (_ : kzI a1) (a2 : Int) (_ : kzI a2) (a3 : Int) (_ : kzI a3), CRi (Z2_faded_6 G a0 a1 a2 a3) (X2_faded_6 G a0 (Int32.ofInt a1) (Int32.ofInt a2) (Int32.ofInt a3)) :=
  lp_rel (R := fun (f' : Nat → Int → Int → Int → kzM → Option (Int × kzM)) (f : Nat → Int32 → Int32 → Int32 → kdM → Option (Int32 × kdM)) => ∀ (a0 : Nat) (a1 : Int) (_ : kzI a1) (a2 : Int) (_ : kzI a2) (a3 : Int) (_ : kzI a3), CRi (f' a0 a1 a2 a3) (f a0 (Int32.ofInt a1) (Int32.ofInt a2) (Int32.ofInt a3))) (by intros; exact c_no) (fun _ _ hf a0 a1 ha1 a2 ha2 a3 ha3 => qX2_faded_6B hG hf a0 ha1 ha2 ha3) NN
def Z2_faded (G : kdS) (l0 : Nat) (l1 : Int) : kzM → Option (Int × kzM) :=
  Z2_faded_6 G l0 l1 (1000 : Int) (0 : Int)
theorem qX2_faded {G : kdS} (hG : kzG G) (l0 : Nat) {l1 : Int} (hl1 : kzI l1) : CRi (Z2_faded G l0 l1) (X2_faded G l0 (Int32.ofInt l1)) := by
  unfold Z2_faded X2_faded
  exact (qX2_faded_6 hG l0 _ hl1 _ (by unfold kzI; omega) _ (by unfold kzI; omega))
def Z2_isOf_29 (G : kdS) (s0 : Int) : kzM → Option (Int × kzM) :=
  zrt (zB s0)
theorem qX2_isOf_29 {G : kdS} (hG : kzG G) {s0 : Int} (hs0 : kzI s0) : CRi (Z2_isOf_29 G s0) (X2_isOf_29 G (Int32.ofInt s0)) := by
  unfold Z2_isOf_29 X2_isOf_29
  exact c_rt (kz_BI _) (kz_B rfl)
def Z2_isOf_28 (G : kdS) : kzM → Option (Int × kzM) :=
  Z2_isOf_29 G (0 : Int)
theorem qX2_isOf_28 {G : kdS} (hG : kzG G) : CRi (Z2_isOf_28 G) (X2_isOf_28 G) := by
  unfold Z2_isOf_28 X2_isOf_28
  exact (qX2_isOf_29 hG (by unfold kzI; omega))
def Z2_isOf (G : kdS) (l0 : Nat) (l1 : Int) (l2 : Int) (l3 : Int) : kzM → Option (Int × kzM) :=
  zgR G 2 0 l0 fun t1 =>
  zcv G 6 t1 (Z6_at G t1 l1) fun t2 =>
  zcnd (t2 = l2)
  (zgR G 2 1 l0 fun t3 =>
  zcv G 6 t3 (Z6_at G t3 l1) fun t4 =>
  zcnd (t4 = l3)
  (Z2_isOf_29 G (1 : Int))
  (Z2_isOf_28 G))
  (Z2_isOf_28 G)
theorem qX2_isOf {G : kdS} (hG : kzG G) (l0 : Nat) {l1 : Int} (hl1 : kzI l1) {l2 : Int} (hl2 : kzI l2) {l3 : Int} (hl3 : kzI l3) : CRi (Z2_isOf G l0 l1 l2 l3) (X2_isOf G l0 (Int32.ofInt l1) (Int32.ofInt l2) (Int32.ofInt l3)) := by
  unfold Z2_isOf X2_isOf
  exact c_gR (fun t1 => c_cv (qX6_at hG t1 hl1) (fun t2 ht2 => c_cnd (kz_eq ht2 hl2 rfl rfl) (c_gR (fun t3 => c_cv (qX6_at hG t3 hl1) (fun t4 ht4 => c_cnd (kz_eq ht4 hl3 rfl rfl) ((qX2_isOf_29 hG (by unfold kzI; omega))) ((qX2_isOf_28 hG))))) ((qX2_isOf_28 hG))))
def Z2_worthOf_59 (G : kdS) (k6 : Nat → Int → Int → Int → Int → Int → kzM → Option (Int × kzM)) (l0 : Nat) (l1 : Int) (l2 : Int) (l3 : Int) (l4 : Int) (l5 : Int) : kzM → Option (Int × kzM) :=
  zlI (l5 + (1 : Int)) fun t1 =>
  k6 l0 l1 l2 l3 l4 t1
theorem qX2_worthOf_59 {G : kdS} (hG : kzG G) {k6' : Nat → Int → Int → Int → Int → Int → kzM → Option (Int × kzM)} {k6 : Nat → Int32 → Int32 → Int32 → Int32 → Int32 → kdM → Option (Int32 × kdM)} (hk6 : ∀ (a0 : Nat) (a1 : Int) (_ : kzI a1) (a2 : Int) (_ : kzI a2) (a3 : Int) (_ : kzI a3) (a4 : Int) (_ : kzI a4) (a5 : Int) (_ : kzI a5), CRi (k6' a0 a1 a2 a3 a4 a5) (k6 a0 (Int32.ofInt a1) (Int32.ofInt a2) (Int32.ofInt a3) (Int32.ofInt a4) (Int32.ofInt a5))) (l0 : Nat) {l1 : Int} (hl1 : kzI l1) {l2 : Int} (hl2 : kzI l2) {l3 : Int} (hl3 : kzI l3) {l4 : Int} (hl4 : kzI l4) {l5 : Int} (hl5 : kzI l5) : CRi (Z2_worthOf_59 G k6' l0 l1 l2 l3 l4 l5) (X2_worthOf_59 G k6 l0 (Int32.ofInt l1) (Int32.ofInt l2) (Int32.ofInt l3) (Int32.ofInt l4) (Int32.ofInt l5)) := by
  unfold Z2_worthOf_59 X2_worthOf_59
  exact c_lI (kz_add rfl rfl) (fun t1 ht1 => (hk6 l0 _ hl1 _ hl2 _ hl3 _ hl4 _ ht1))
def Z2_worthOf_6B (G : kdS) (k6 : Nat → Int → Int → Int → Int → Int → kzM → Option (Int × kzM)) (l0 : Nat) (l1 : Int) (l2 : Int) (l3 : Int) (l4 : Int) (l5 : Int) : kzM → Option (Int × kzM) :=
  zcv G 2 l0 (Z2_learnings G l0) fun t1 =>
  zcnd (t1 ≤ l5)
  (zrt l4)
  (zcv G 2 l0 (Z2_isOf G l0 l5 l1 l2) fun t2 =>
  zcnd (t2 = (0 : Int))
  (Z2_worthOf_59 G k6 l0 l1 l2 l3 l4 l5)
  (zgR G 2 2 l0 fun t3 =>
  zcv G 6 t3 (Z6_at G t3 l5) fun t4 =>
  zcnd (l3 < t4)
  (Z2_worthOf_59 G k6 l0 l1 l2 l3 l4 l5)
  (zgR G 2 2 l0 fun t5 =>
  zcv G 6 t5 (Z6_at G t5 l5) fun t6 =>
  zlI (l3 - t6) fun u1 =>
  zcv G 2 l0 (Z2_faded G l0 u1) fun t7 =>
  zlI (l4 + t7) fun t8 =>
  Z2_worthOf_59 G k6 l0 l1 l2 l3 t8 l5)))
theorem qX2_worthOf_6B {G : kdS} (hG : kzG G) {k6' : Nat → Int → Int → Int → Int → Int → kzM → Option (Int × kzM)} {k6 : Nat → Int32 → Int32 → Int32 → Int32 → Int32 → kdM → Option (Int32 × kdM)} (hk6 : ∀ (a0 : Nat) (a1 : Int) (_ : kzI a1) (a2 : Int) (_ : kzI a2) (a3 : Int) (_ : kzI a3) (a4 : Int) (_ : kzI a4) (a5 : Int) (_ : kzI a5), CRi (k6' a0 a1 a2 a3 a4 a5) (k6 a0 (Int32.ofInt a1) (Int32.ofInt a2) (Int32.ofInt a3) (Int32.ofInt a4) (Int32.ofInt a5))) (l0 : Nat) {l1 : Int} (hl1 : kzI l1) {l2 : Int} (hl2 : kzI l2) {l3 : Int} (hl3 : kzI l3) {l4 : Int} (hl4 : kzI l4) {l5 : Int} (hl5 : kzI l5) : CRi (Z2_worthOf_6B G k6' l0 l1 l2 l3 l4 l5) (X2_worthOf_6B G k6 l0 (Int32.ofInt l1) (Int32.ofInt l2) (Int32.ofInt l3) (Int32.ofInt l4) (Int32.ofInt l5)) := by
  unfold Z2_worthOf_6B X2_worthOf_6B
  exact c_cv (qX2_learnings hG l0) (fun t1 ht1 => c_cnd (kz_le ht1 hl5 rfl rfl) (c_rt hl4 rfl) (c_cv (qX2_isOf hG l0 hl5 hl1 hl2) (fun t2 ht2 => c_cnd (kz_eq ht2 (by unfold kzI; omega) rfl rfl) ((qX2_worthOf_59 hG hk6 l0 hl1 hl2 hl3 hl4 hl5)) (c_gR (fun t3 => c_cv (qX6_at hG t3 hl5) (fun t4 ht4 => c_cnd (kz_lt hl3 ht4 rfl rfl) ((qX2_worthOf_59 hG hk6 l0 hl1 hl2 hl3 hl4 hl5)) (c_gR (fun t5 => c_cv (qX6_at hG t5 hl5) (fun t6 ht6 => c_rg (kz_sub rfl rfl) fun u1 r1 e1 => c_cv (e1 ▸ (qX2_faded hG l0 r1)) (fun t7 ht7 => c_lI (kz_add rfl rfl) (fun t8 ht8 => (qX2_worthOf_59 hG hk6 l0 hl1 hl2 hl3 ht8 hl5))))))))))))
def Z2_worthOf_6 (G : kdS) : Nat → Int → Int → Int → Int → Int → kzM → Option (Int × kzM) := lp (fun _ _ _ _ _ _ _ => none) (Z2_worthOf_6B G) NN
theorem qX2_worthOf_6 {G : kdS} (hG : kzG G) : ∀ (a0 : Nat) (a1 : Int) (_ : kzI a1) (a2 : Int) (_ : kzI a2) (a3 : Int) (_ : kzI a3) (a4 : Int) (_ : kzI a4) (a5 : Int) (_ : kzI a5), CRi (Z2_worthOf_6 G a0 a1 a2 a3 a4 a5) (X2_worthOf_6 G a0 (Int32.ofInt a1) (Int32.ofInt a2) (Int32.ofInt a3) (Int32.ofInt a4) (Int32.ofInt a5)) :=
  lp_rel (R := fun (f' : Nat → Int → Int → Int → Int → Int → kzM → Option (Int × kzM)) (f : Nat → Int32 → Int32 → Int32 → Int32 → Int32 → kdM → Option (Int32 × kdM)) => ∀ (a0 : Nat) (a1 : Int) (_ : kzI a1) (a2 : Int) (_ : kzI a2) (a3 : Int) (_ : kzI a3) (a4 : Int) (_ : kzI a4) (a5 : Int) (_ : kzI a5), CRi (f' a0 a1 a2 a3 a4 a5) (f a0 (Int32.ofInt a1) (Int32.ofInt a2) (Int32.ofInt a3) (Int32.ofInt a4) (Int32.ofInt a5))) (by intros; exact c_no) (fun _ _ hf a0 a1 ha1 a2 ha2 a3 ha3 a4 ha4 a5 ha5 => qX2_worthOf_6B hG hf a0 ha1 ha2 ha3 ha4 ha5) NN
def Z2_worthOf (G : kdS) (l0 : Nat) (l1 : Int) (l2 : Int) (l3 : Int) : kzM → Option (Int × kzM) :=
  Z2_worthOf_6 G l0 l1 l2 l3 (0 : Int) (0 : Int)
theorem qX2_worthOf {G : kdS} (hG : kzG G) (l0 : Nat) {l1 : Int} (hl1 : kzI l1) {l2 : Int} (hl2 : kzI l2) {l3 : Int} (hl3 : kzI l3) : CRi (Z2_worthOf G l0 l1 l2 l3) (X2_worthOf G l0 (Int32.ofInt l1) (Int32.ofInt l2) (Int32.ofInt l3)) := by
  unfold Z2_worthOf X2_worthOf
  exact (qX2_worthOf_6 hG l0 _ hl1 _ hl2 _ hl3 _ (by unfold kzI; omega) _ (by unfold kzI; omega))
def Z2_dropLearnings_73 (G : kdS) (k10 : Nat → Int → Int → Int → Int → kzM → Option (Int × kzM)) (l0 : Nat) (l1 : Int) (l2 : Int) (l3 : Int) (l4 : Int) : kzM → Option (Int × kzM) :=
  zlI (l4 + (-1 : Int)) fun t1 =>
  k10 l0 l1 l2 l3 t1
theorem qX2_dropLearnings_73 {G : kdS} (hG : kzG G) {k10' : Nat → Int → Int → Int → Int → kzM → Option (Int × kzM)} {k10 : Nat → Int32 → Int32 → Int32 → Int32 → kdM → Option (Int32 × kdM)} (hk10 : ∀ (a0 : Nat) (a1 : Int) (_ : kzI a1) (a2 : Int) (_ : kzI a2) (a3 : Int) (_ : kzI a3) (a4 : Int) (_ : kzI a4), CRi (k10' a0 a1 a2 a3 a4) (k10 a0 (Int32.ofInt a1) (Int32.ofInt a2) (Int32.ofInt a3) (Int32.ofInt a4))) (l0 : Nat) {l1 : Int} (hl1 : kzI l1) {l2 : Int} (hl2 : kzI l2) {l3 : Int} (hl3 : kzI l3) {l4 : Int} (hl4 : kzI l4) : CRi (Z2_dropLearnings_73 G k10' l0 l1 l2 l3 l4) (X2_dropLearnings_73 G k10 l0 (Int32.ofInt l1) (Int32.ofInt l2) (Int32.ofInt l3) (Int32.ofInt l4)) := by
  unfold Z2_dropLearnings_73 X2_dropLearnings_73
  exact c_lI (kz_add rfl rfl) (fun t1 ht1 => (hk10 l0 _ hl1 _ hl2 _ hl3 _ ht1))
def Z2_dropLearnings_37 (G : kdS) (k10 : Nat → Int → Int → Int → Int → kzM → Option (Int × kzM)) (l0 : Nat) (l1 : Int) (l2 : Int) (l3 : Int) (l4 : Int) (s0 : Nat) (s1 : Int) (s2 : Int) (s3 : Int) : kzM → Option (Int × kzM) :=
  zcv G 2 s0 (Z2_isOf G s0 s1 s2 s3) fun t1 =>
  zcnd (t1 = (0 : Int))
  (Z2_dropLearnings_73 G k10 l0 l1 l2 l3 l4)
  (zgR G 2 0 l0 fun t2 =>
  zcv G 6 t2 (Z6_remove G t2 l4) fun t3 =>
  zgR G 2 1 l0 fun t4 =>
  zcv G 6 t4 (Z6_remove G t4 l4) fun t5 =>
  zgR G 2 2 l0 fun t6 =>
  zcv G 6 t6 (Z6_remove G t6 l4) fun t7 =>
  Z2_dropLearnings_73 G k10 l0 l1 l2 l3 l4)
theorem qX2_dropLearnings_37 {G : kdS} (hG : kzG G) {k10' : Nat → Int → Int → Int → Int → kzM → Option (Int × kzM)} {k10 : Nat → Int32 → Int32 → Int32 → Int32 → kdM → Option (Int32 × kdM)} (hk10 : ∀ (a0 : Nat) (a1 : Int) (_ : kzI a1) (a2 : Int) (_ : kzI a2) (a3 : Int) (_ : kzI a3) (a4 : Int) (_ : kzI a4), CRi (k10' a0 a1 a2 a3 a4) (k10 a0 (Int32.ofInt a1) (Int32.ofInt a2) (Int32.ofInt a3) (Int32.ofInt a4))) (l0 : Nat) {l1 : Int} (hl1 : kzI l1) {l2 : Int} (hl2 : kzI l2) {l3 : Int} (hl3 : kzI l3) {l4 : Int} (hl4 : kzI l4) (s0 : Nat) {s1 : Int} (hs1 : kzI s1) {s2 : Int} (hs2 : kzI s2) {s3 : Int} (hs3 : kzI s3) : CRi (Z2_dropLearnings_37 G k10' l0 l1 l2 l3 l4 s0 s1 s2 s3) (X2_dropLearnings_37 G k10 l0 (Int32.ofInt l1) (Int32.ofInt l2) (Int32.ofInt l3) (Int32.ofInt l4) s0 (Int32.ofInt s1) (Int32.ofInt s2) (Int32.ofInt s3)) := by
  unfold Z2_dropLearnings_37 X2_dropLearnings_37
  exact c_cv (qX2_isOf hG s0 hs1 hs2 hs3) (fun t1 ht1 => c_cnd (kz_eq ht1 (by unfold kzI; omega) rfl rfl) ((qX2_dropLearnings_73 hG hk10 l0 hl1 hl2 hl3 hl4)) (c_gR (fun t2 => c_cv (qX6_remove hG t2 hl4) (fun t3 ht3 => c_gR (fun t4 => c_cv (qX6_remove hG t4 hl4) (fun t5 ht5 => c_gR (fun t6 => c_cv (qX6_remove hG t6 hl4) (fun t7 ht7 => (qX2_dropLearnings_73 hG hk10 l0 hl1 hl2 hl3 hl4)))))))))
def Z2_dropLearnings_10B (G : kdS) (k10 : Nat → Int → Int → Int → Int → kzM → Option (Int × kzM)) (l0 : Nat) (l1 : Int) (l2 : Int) (l3 : Int) (l4 : Int) : kzM → Option (Int × kzM) :=
  zcnd (l4 < (0 : Int))
  (zcv G 2 l0 (Z2_learnings G l0) fun t1 =>
  zlI (l3 - t1) fun u1 =>
  zrt u1)
  (zcnd (l2 = (-1 : Int))
  (zgR G 2 1 l0 fun t2 =>
  zcv G 6 t2 (Z6_at G t2 l4) fun t3 =>
  Z2_dropLearnings_37 G k10 l0 l1 l2 l3 l4 l0 l4 l1 t3)
  (Z2_dropLearnings_37 G k10 l0 l1 l2 l3 l4 l0 l4 l1 l2))
theorem qX2_dropLearnings_10B {G : kdS} (hG : kzG G) {k10' : Nat → Int → Int → Int → Int → kzM → Option (Int × kzM)} {k10 : Nat → Int32 → Int32 → Int32 → Int32 → kdM → Option (Int32 × kdM)} (hk10 : ∀ (a0 : Nat) (a1 : Int) (_ : kzI a1) (a2 : Int) (_ : kzI a2) (a3 : Int) (_ : kzI a3) (a4 : Int) (_ : kzI a4), CRi (k10' a0 a1 a2 a3 a4) (k10 a0 (Int32.ofInt a1) (Int32.ofInt a2) (Int32.ofInt a3) (Int32.ofInt a4))) (l0 : Nat) {l1 : Int} (hl1 : kzI l1) {l2 : Int} (hl2 : kzI l2) {l3 : Int} (hl3 : kzI l3) {l4 : Int} (hl4 : kzI l4) : CRi (Z2_dropLearnings_10B G k10' l0 l1 l2 l3 l4) (X2_dropLearnings_10B G k10 l0 (Int32.ofInt l1) (Int32.ofInt l2) (Int32.ofInt l3) (Int32.ofInt l4)) := by
  unfold Z2_dropLearnings_10B X2_dropLearnings_10B
  exact c_cnd (kz_lt hl4 (by unfold kzI; omega) rfl rfl) (c_cv (qX2_learnings hG l0) (fun t1 ht1 => c_rg (kz_sub rfl rfl) fun u1 r1 e1 => c_rt r1 e1)) (c_cnd (kz_eq hl2 (by unfold kzI; omega) rfl rfl) (c_gR (fun t2 => c_cv (qX6_at hG t2 hl4) (fun t3 ht3 => (qX2_dropLearnings_37 hG hk10 l0 hl1 hl2 hl3 hl4 l0 hl4 hl1 ht3)))) ((qX2_dropLearnings_37 hG hk10 l0 hl1 hl2 hl3 hl4 l0 hl4 hl1 hl2)))
def Z2_dropLearnings_10 (G : kdS) : Nat → Int → Int → Int → Int → kzM → Option (Int × kzM) := lp (fun _ _ _ _ _ _ => none) (Z2_dropLearnings_10B G) NN
theorem qX2_dropLearnings_10 {G : kdS} (hG : kzG G) : ∀ (a0 : Nat) (a1 : Int) (_ : kzI a1) (a2 : Int) (_ : kzI a2) (a3 : Int) (_ : kzI a3) (a4 : Int) (_ : kzI a4), CRi (Z2_dropLearnings_10 G a0 a1 a2 a3 a4) (X2_dropLearnings_10 G a0 (Int32.ofInt a1) (Int32.ofInt a2) (Int32.ofInt a3) (Int32.ofInt a4)) :=
  lp_rel (R := fun (f' : Nat → Int → Int → Int → Int → kzM → Option (Int × kzM)) (f : Nat → Int32 → Int32 → Int32 → Int32 → kdM → Option (Int32 × kdM)) => ∀ (a0 : Nat) (a1 : Int) (_ : kzI a1) (a2 : Int) (_ : kzI a2) (a3 : Int) (_ : kzI a3) (a4 : Int) (_ : kzI a4), CRi (f' a0 a1 a2 a3 a4) (f a0 (Int32.ofInt a1) (Int32.ofInt a2) (Int32.ofInt a3) (Int32.ofInt a4))) (by intros; exact c_no) (fun _ _ hf a0 a1 ha1 a2 ha2 a3 ha3 a4 ha4 => qX2_dropLearnings_10B hG hf a0 ha1 ha2 ha3 ha4) NN
def Z2_dropLearnings (G : kdS) (l0 : Nat) (l1 : Int) (l2 : Int) : kzM → Option (Int × kzM) :=
  zcv G 2 l0 (Z2_learnings G l0) fun t1 =>
  zlI (t1 - (1 : Int)) fun t2 =>
  Z2_dropLearnings_10 G l0 l1 l2 t1 t2
theorem qX2_dropLearnings {G : kdS} (hG : kzG G) (l0 : Nat) {l1 : Int} (hl1 : kzI l1) {l2 : Int} (hl2 : kzI l2) : CRi (Z2_dropLearnings G l0 l1 l2) (X2_dropLearnings G l0 (Int32.ofInt l1) (Int32.ofInt l2)) := by
  unfold Z2_dropLearnings X2_dropLearnings
  exact c_cv (qX2_learnings hG l0) (fun t1 ht1 => c_lI (kz_sub rfl rfl) (fun t2 ht2 => (qX2_dropLearnings_10 hG l0 _ hl1 _ hl2 _ ht1 _ ht2)))
def Z2_setFade (G : kdS) (l0 : Nat) (l1 : Int) : kzM → Option (Int × kzM) :=
  zgI G 2 4 l0 fun t1 =>
  zsI G 2 4 l0 l1 <|
  zrt t1
theorem qX2_setFade {G : kdS} (hG : kzG G) (l0 : Nat) {l1 : Int} (hl1 : kzI l1) : CRi (Z2_setFade G l0 l1) (X2_setFade G l0 (Int32.ofInt l1)) := by
  unfold Z2_setFade X2_setFade
  exact c_gI rfl (fun t1 ht1 => c_sI rfl hl1 rfl (c_rt ht1 rfl))
def Z2_budgetOf (G : kdS) (l0 : Nat) (l1 : Int) : kzM → Option (Int × kzM) :=
  zgR G 2 3 l0 fun t1 =>
  zaI G t1 l1 fun t2 =>
  zrt t2
theorem qX2_budgetOf {G : kdS} (hG : kzG G) (l0 : Nat) {l1 : Int} (hl1 : kzI l1) : CRi (Z2_budgetOf G l0 l1) (X2_budgetOf G l0 (Int32.ofInt l1)) := by
  unfold Z2_budgetOf X2_budgetOf
  exact c_gR (fun t1 => c_aI hG rfl (fun t2 ht2 => c_rt ht2 rfl))
def Z2_setBudget (G : kdS) (l0 : Nat) (l1 : Int) (l2 : Int) : kzM → Option (Int × kzM) :=
  zgR G 2 3 l0 fun t1 =>
  zaI G t1 l1 fun t2 =>
  zgR G 2 3 l0 fun t3 =>
  ztI G t3 l1 l2 <|
  zrt t2
theorem qX2_setBudget {G : kdS} (hG : kzG G) (l0 : Nat) {l1 : Int} (hl1 : kzI l1) {l2 : Int} (hl2 : kzI l2) : CRi (Z2_setBudget G l0 l1 l2) (X2_setBudget G l0 (Int32.ofInt l1) (Int32.ofInt l2)) := by
  unfold Z2_setBudget X2_setBudget
  exact c_gR (fun t1 => c_aI hG rfl (fun t2 ht2 => c_gR (fun t3 => c_tI hG rfl hl2 rfl (c_rt ht2 rfl))))
def Z2_setSeed (G : kdS) (l0 : Nat) (l1 : Int) : kzM → Option (Int × kzM) :=
  zgI G 2 5 l0 fun t1 =>
  zsI G 2 5 l0 l1 <|
  zrt t1
theorem qX2_setSeed {G : kdS} (hG : kzG G) (l0 : Nat) {l1 : Int} (hl1 : kzI l1) : CRi (Z2_setSeed G l0 l1) (X2_setSeed G l0 (Int32.ofInt l1)) := by
  unfold Z2_setSeed X2_setSeed
  exact c_gI rfl (fun t1 ht1 => c_sI rfl hl1 rfl (c_rt ht1 rfl))
def Z2_givers_25 (G : kdS) (k4 : Nat → Int → Int → Int → kzM → Option (Int × kzM)) (l0 : Nat) (l1 : Int) (l3 : Int) (s0 : Int) (s1 : Int) : kzM → Option (Int × kzM) :=
  zlI (s0 + s1) fun t1 =>
  zlI (l3 + (1 : Int)) fun t2 =>
  k4 l0 l1 t1 t2
theorem qX2_givers_25 {G : kdS} (hG : kzG G) {k4' : Nat → Int → Int → Int → kzM → Option (Int × kzM)} {k4 : Nat → Int32 → Int32 → Int32 → kdM → Option (Int32 × kdM)} (hk4 : ∀ (a0 : Nat) (a1 : Int) (_ : kzI a1) (a2 : Int) (_ : kzI a2) (a3 : Int) (_ : kzI a3), CRi (k4' a0 a1 a2 a3) (k4 a0 (Int32.ofInt a1) (Int32.ofInt a2) (Int32.ofInt a3))) (l0 : Nat) {l1 : Int} (hl1 : kzI l1) {l3 : Int} (hl3 : kzI l3) {s0 : Int} (hs0 : kzI s0) {s1 : Int} (hs1 : kzI s1) : CRi (Z2_givers_25 G k4' l0 l1 l3 s0 s1) (X2_givers_25 G k4 l0 (Int32.ofInt l1) (Int32.ofInt l3) (Int32.ofInt s0) (Int32.ofInt s1)) := by
  unfold Z2_givers_25 X2_givers_25
  exact c_lI (kz_add rfl rfl) (fun t1 ht1 => c_lI (kz_add rfl rfl) (fun t2 ht2 => (hk4 l0 _ hl1 _ ht1 _ ht2)))
def Z2_givers_4B (G : kdS) (k4 : Nat → Int → Int → Int → kzM → Option (Int × kzM)) (l0 : Nat) (l1 : Int) (l2 : Int) (l3 : Int) : kzM → Option (Int × kzM) :=
  zcnd ((4 : Int) ≤ l3)
  (zrt l2)
  (zgR G 2 3 l0 fun t1 =>
  zaI G t1 l3 fun t2 =>
  zcnd (t2 < l1)
  (Z2_givers_25 G k4 l0 l1 l3 l2 (0 : Int))
  (Z2_givers_25 G k4 l0 l1 l3 l2 (1 : Int)))
theorem qX2_givers_4B {G : kdS} (hG : kzG G) {k4' : Nat → Int → Int → Int → kzM → Option (Int × kzM)} {k4 : Nat → Int32 → Int32 → Int32 → kdM → Option (Int32 × kdM)} (hk4 : ∀ (a0 : Nat) (a1 : Int) (_ : kzI a1) (a2 : Int) (_ : kzI a2) (a3 : Int) (_ : kzI a3), CRi (k4' a0 a1 a2 a3) (k4 a0 (Int32.ofInt a1) (Int32.ofInt a2) (Int32.ofInt a3))) (l0 : Nat) {l1 : Int} (hl1 : kzI l1) {l2 : Int} (hl2 : kzI l2) {l3 : Int} (hl3 : kzI l3) : CRi (Z2_givers_4B G k4' l0 l1 l2 l3) (X2_givers_4B G k4 l0 (Int32.ofInt l1) (Int32.ofInt l2) (Int32.ofInt l3)) := by
  unfold Z2_givers_4B X2_givers_4B
  exact c_cnd (kz_le (by unfold kzI; omega) hl3 rfl rfl) (c_rt hl2 rfl) (c_gR (fun t1 => c_aI hG rfl (fun t2 ht2 => c_cnd (kz_lt ht2 hl1 rfl rfl) ((qX2_givers_25 hG hk4 l0 hl1 hl3 hl2 (by unfold kzI; omega))) ((qX2_givers_25 hG hk4 l0 hl1 hl3 hl2 (by unfold kzI; omega))))))
def Z2_givers_4 (G : kdS) : Nat → Int → Int → Int → kzM → Option (Int × kzM) := lp (fun _ _ _ _ _ => none) (Z2_givers_4B G) NN
theorem qX2_givers_4 {G : kdS} (hG : kzG G) : ∀ (a0 : Nat) (a1 : Int) (_ : kzI a1) (a2 : Int) (_ : kzI a2) (a3 : Int) (_ : kzI a3), CRi (Z2_givers_4 G a0 a1 a2 a3) (X2_givers_4 G a0 (Int32.ofInt a1) (Int32.ofInt a2) (Int32.ofInt a3)) :=
  lp_rel (R := fun (f' : Nat → Int → Int → Int → kzM → Option (Int × kzM)) (f : Nat → Int32 → Int32 → Int32 → kdM → Option (Int32 × kdM)) => ∀ (a0 : Nat) (a1 : Int) (_ : kzI a1) (a2 : Int) (_ : kzI a2) (a3 : Int) (_ : kzI a3), CRi (f' a0 a1 a2 a3) (f a0 (Int32.ofInt a1) (Int32.ofInt a2) (Int32.ofInt a3))) (by intros; exact c_no) (fun _ _ hf a0 a1 ha1 a2 ha2 a3 ha3 => qX2_givers_4B hG hf a0 ha1 ha2 ha3) NN
def Z2_givers (G : kdS) (l0 : Nat) (l1 : Int) : kzM → Option (Int × kzM) :=
  Z2_givers_4 G l0 l1 (0 : Int) (0 : Int)
theorem qX2_givers {G : kdS} (hG : kzG G) (l0 : Nat) {l1 : Int} (hl1 : kzI l1) : CRi (Z2_givers G l0 l1) (X2_givers G l0 (Int32.ofInt l1)) := by
  unfold Z2_givers X2_givers
  exact (qX2_givers_4 hG l0 _ hl1 _ (by unfold kzI; omega) _ (by unfold kzI; omega))
def Z2_drawLot (G : kdS) (l0 : Nat) (l1 : Int) : kzM → Option (Int × kzM) :=
  zgI G 2 5 l0 fun t1 =>
  znz (2147483647 : Int) <|
  zlL (t1 * (16807 : Int)) fun u1 =>
  zlI (Int.tmod u1 (2147483647 : Int)) fun u2 =>
  zsI G 2 5 l0 u2 <|
  zgI G 2 5 l0 fun t2 =>
  znz (2001 : Int) <|
  znz (zmax l1 (1 : Int)) <|
  zlI (((Int.tmod t2 (2001 : Int)) - (1000 : Int)) * (100 : Int)) fun u3 =>
  zlI (u3.tdiv (zmax l1 (1 : Int))) fun u4 =>
  zrt u4
theorem qX2_drawLot {G : kdS} (hG : kzG G) (l0 : Nat) {l1 : Int} (hl1 : kzI l1) : CRi (Z2_drawLot G l0 l1) (X2_drawLot G l0 (Int32.ofInt l1)) := by
  unfold Z2_drawLot X2_drawLot
  exact c_gI rfl (fun t1 ht1 => c_nzL (show kzL (2147483647 : Int) by unfold kzL; omega) rfl (c_rgL (kzL_mul (kz_i2l ht1 rfl) rfl) fun u1 r1 e1 => c_rg (kz_l2i (kzL_rem r1 (show kzL (2147483647 : Int) by unfold kzL; omega) e1 rfl)) fun u2 r2 e2 => c_sI rfl r2 e2 (c_gI rfl (fun t2 ht2 => c_nz (by unfold kzI; omega) rfl (c_nz (zmax_I hl1 (by unfold kzI; omega)) (kz_max hl1 (by unfold kzI; omega) rfl rfl) (c_rg (kz_mul (kz_sub (kz_rem ht2 (by unfold kzI; omega) rfl rfl) rfl) rfl) fun u3 r3 e3 => c_rg (kz_div r3 (zmax_I hl1 (by unfold kzI; omega)) e3 (kz_max hl1 (by unfold kzI; omega) rfl rfl)) fun u4 r4 e4 => c_rt r4 e4))))))
def Z2_sumWithLot_53 (G : kdS) (k6 : Nat → Int → Int → Int → Int → Int → kzM → Option (Int × kzM)) (l0 : Nat) (l1 : Int) (l2 : Int) (l3 : Int) (l4 : Int) (l5 : Int) : kzM → Option (Int × kzM) :=
  zlI (l5 + (1 : Int)) fun t1 =>
  k6 l0 l1 l2 l3 l4 t1
theorem qX2_sumWithLot_53 {G : kdS} (hG : kzG G) {k6' : Nat → Int → Int → Int → Int → Int → kzM → Option (Int × kzM)} {k6 : Nat → Int32 → Int32 → Int32 → Int32 → Int32 → kdM → Option (Int32 × kdM)} (hk6 : ∀ (a0 : Nat) (a1 : Int) (_ : kzI a1) (a2 : Int) (_ : kzI a2) (a3 : Int) (_ : kzI a3) (a4 : Int) (_ : kzI a4) (a5 : Int) (_ : kzI a5), CRi (k6' a0 a1 a2 a3 a4 a5) (k6 a0 (Int32.ofInt a1) (Int32.ofInt a2) (Int32.ofInt a3) (Int32.ofInt a4) (Int32.ofInt a5))) (l0 : Nat) {l1 : Int} (hl1 : kzI l1) {l2 : Int} (hl2 : kzI l2) {l3 : Int} (hl3 : kzI l3) {l4 : Int} (hl4 : kzI l4) {l5 : Int} (hl5 : kzI l5) : CRi (Z2_sumWithLot_53 G k6' l0 l1 l2 l3 l4 l5) (X2_sumWithLot_53 G k6 l0 (Int32.ofInt l1) (Int32.ofInt l2) (Int32.ofInt l3) (Int32.ofInt l4) (Int32.ofInt l5)) := by
  unfold Z2_sumWithLot_53 X2_sumWithLot_53
  exact c_lI (kz_add rfl rfl) (fun t1 ht1 => (hk6 l0 _ hl1 _ hl2 _ hl3 _ hl4 _ ht1))
def Z2_sumWithLot_6B (G : kdS) (k6 : Nat → Int → Int → Int → Int → Int → kzM → Option (Int × kzM)) (l0 : Nat) (l1 : Int) (l2 : Int) (l3 : Int) (l4 : Int) (l5 : Int) : kzM → Option (Int × kzM) :=
  zcnd ((4 : Int) ≤ l5)
  (zcv G 2 l0 (Z2_drawLot G l0 l2) fun t1 =>
  zlI (l4 + t1) fun u1 =>
  zrt u1)
  (zgR G 2 3 l0 fun t2 =>
  zaI G t2 l5 fun t3 =>
  zcnd (t3 < l2)
  (Z2_sumWithLot_53 G k6 l0 l1 l2 l3 l4 l5)
  (zcv G 2 l0 (Z2_worthOf G l0 l5 l1 l3) fun t4 =>
  zlI (l4 + (zmin (5000 : Int) t4)) fun t5 =>
  zgR G 2 3 l0 fun t6 =>
  zaI G t6 l5 fun t7 =>
  zlI (t7 - l2) fun u2 =>
  ztI G t6 l5 u2 <|
  Z2_sumWithLot_53 G k6 l0 l1 l2 l3 t5 l5))
theorem qX2_sumWithLot_6B {G : kdS} (hG : kzG G) {k6' : Nat → Int → Int → Int → Int → Int → kzM → Option (Int × kzM)} {k6 : Nat → Int32 → Int32 → Int32 → Int32 → Int32 → kdM → Option (Int32 × kdM)} (hk6 : ∀ (a0 : Nat) (a1 : Int) (_ : kzI a1) (a2 : Int) (_ : kzI a2) (a3 : Int) (_ : kzI a3) (a4 : Int) (_ : kzI a4) (a5 : Int) (_ : kzI a5), CRi (k6' a0 a1 a2 a3 a4 a5) (k6 a0 (Int32.ofInt a1) (Int32.ofInt a2) (Int32.ofInt a3) (Int32.ofInt a4) (Int32.ofInt a5))) (l0 : Nat) {l1 : Int} (hl1 : kzI l1) {l2 : Int} (hl2 : kzI l2) {l3 : Int} (hl3 : kzI l3) {l4 : Int} (hl4 : kzI l4) {l5 : Int} (hl5 : kzI l5) : CRi (Z2_sumWithLot_6B G k6' l0 l1 l2 l3 l4 l5) (X2_sumWithLot_6B G k6 l0 (Int32.ofInt l1) (Int32.ofInt l2) (Int32.ofInt l3) (Int32.ofInt l4) (Int32.ofInt l5)) := by
  unfold Z2_sumWithLot_6B X2_sumWithLot_6B
  exact c_cnd (kz_le (by unfold kzI; omega) hl5 rfl rfl) (c_cv (qX2_drawLot hG l0 hl2) (fun t1 ht1 => c_rg (kz_add rfl rfl) fun u1 r1 e1 => c_rt r1 e1)) (c_gR (fun t2 => c_aI hG rfl (fun t3 ht3 => c_cnd (kz_lt ht3 hl2 rfl rfl) ((qX2_sumWithLot_53 hG hk6 l0 hl1 hl2 hl3 hl4 hl5)) (c_cv (qX2_worthOf hG l0 hl5 hl1 hl3) (fun t4 ht4 => c_lI (kz_add rfl (kz_min (by unfold kzI; omega) ht4 rfl rfl)) (fun t5 ht5 => c_gR (fun t6 => c_aI hG rfl (fun t7 ht7 => c_rg (kz_sub rfl rfl) fun u2 r2 e2 => c_tI hG rfl r2 e2 ((qX2_sumWithLot_53 hG hk6 l0 hl1 hl2 hl3 ht5 hl5))))))))))
def Z2_sumWithLot_6 (G : kdS) : Nat → Int → Int → Int → Int → Int → kzM → Option (Int × kzM) := lp (fun _ _ _ _ _ _ _ => none) (Z2_sumWithLot_6B G) NN
theorem qX2_sumWithLot_6 {G : kdS} (hG : kzG G) : ∀ (a0 : Nat) (a1 : Int) (_ : kzI a1) (a2 : Int) (_ : kzI a2) (a3 : Int) (_ : kzI a3) (a4 : Int) (_ : kzI a4) (a5 : Int) (_ : kzI a5), CRi (Z2_sumWithLot_6 G a0 a1 a2 a3 a4 a5) (X2_sumWithLot_6 G a0 (Int32.ofInt a1) (Int32.ofInt a2) (Int32.ofInt a3) (Int32.ofInt a4) (Int32.ofInt a5)) :=
  lp_rel (R := fun (f' : Nat → Int → Int → Int → Int → Int → kzM → Option (Int × kzM)) (f : Nat → Int32 → Int32 → Int32 → Int32 → Int32 → kdM → Option (Int32 × kdM)) => ∀ (a0 : Nat) (a1 : Int) (_ : kzI a1) (a2 : Int) (_ : kzI a2) (a3 : Int) (_ : kzI a3) (a4 : Int) (_ : kzI a4) (a5 : Int) (_ : kzI a5), CRi (f' a0 a1 a2 a3 a4 a5) (f a0 (Int32.ofInt a1) (Int32.ofInt a2) (Int32.ofInt a3) (Int32.ofInt a4) (Int32.ofInt a5))) (by intros; exact c_no) (fun _ _ hf a0 a1 ha1 a2 ha2 a3 ha3 a4 ha4 a5 ha5 => qX2_sumWithLot_6B hG hf a0 ha1 ha2 ha3 ha4 ha5) NN
def Z2_sumWithLot (G : kdS) (l0 : Nat) (l1 : Int) (l2 : Int) (l3 : Int) : kzM → Option (Int × kzM) :=
  Z2_sumWithLot_6 G l0 l1 l2 l3 (0 : Int) (0 : Int)
theorem qX2_sumWithLot {G : kdS} (hG : kzG G) (l0 : Nat) {l1 : Int} (hl1 : kzI l1) {l2 : Int} (hl2 : kzI l2) {l3 : Int} (hl3 : kzI l3) : CRi (Z2_sumWithLot G l0 l1 l2 l3) (X2_sumWithLot G l0 (Int32.ofInt l1) (Int32.ofInt l2) (Int32.ofInt l3)) := by
  unfold Z2_sumWithLot X2_sumWithLot
  exact (qX2_sumWithLot_6 hG l0 _ hl1 _ hl2 _ hl3 _ (by unfold kzI; omega) _ (by unfold kzI; omega))
def Z3_size (G : kdS) (l0 : Nat) : kzM → Option (Int × kzM) :=
  zgI G 3 0 l0 fun t1 =>
  zrt t1
theorem qX3_size {G : kdS} (hG : kzG G) (l0 : Nat) : CRi (Z3_size G l0) (X3_size G l0) := by
  unfold Z3_size X3_size
  exact c_gI rfl (fun t1 ht1 => c_rt ht1 rfl)
def Z3_has_17 (G : kdS) (s0 : Int) : kzM → Option (Int × kzM) :=
  zrt (zB s0)
theorem qX3_has_17 {G : kdS} (hG : kzG G) {s0 : Int} (hs0 : kzI s0) : CRi (Z3_has_17 G s0) (X3_has_17 G (Int32.ofInt s0)) := by
  unfold Z3_has_17 X3_has_17
  exact c_rt (kz_BI _) (kz_B rfl)
def Z3_has_16 (G : kdS) : kzM → Option (Int × kzM) :=
  Z3_has_17 G (0 : Int)
theorem qX3_has_16 {G : kdS} (hG : kzG G) : CRi (Z3_has_16 G) (X3_has_16 G) := by
  unfold Z3_has_16 X3_has_16
  exact (qX3_has_17 hG (by unfold kzI; omega))
def Z3_has (G : kdS) (l0 : Nat) (l1 : Int) : kzM → Option (Int × kzM) :=
  zcnd (l1 < (0 : Int))
  (Z3_has_16 G)
  (zgI G 3 0 l0 fun t1 =>
  zcnd (t1 ≤ l1)
  (Z3_has_16 G)
  (Z3_has_17 G (1 : Int)))
theorem qX3_has {G : kdS} (hG : kzG G) (l0 : Nat) {l1 : Int} (hl1 : kzI l1) : CRi (Z3_has G l0 l1) (X3_has G l0 (Int32.ofInt l1)) := by
  unfold Z3_has X3_has
  exact c_cnd (kz_lt hl1 (by unfold kzI; omega) rfl rfl) ((qX3_has_16 hG)) (c_gI rfl (fun t1 ht1 => c_cnd (kz_le ht1 hl1 rfl rfl) ((qX3_has_16 hG)) ((qX3_has_17 hG (by unfold kzI; omega)))))
def Z3_startAnew_42B (G : kdS) (k12 : Nat → Int → Int → kzM → Option (Int × kzM)) (k42 : Nat → Int → Int → Int → kzM → Option (Int × kzM)) (l0 : Nat) (l2 : Int) (l3 : Int) (l4 : Int) : kzM → Option (Int × kzM) :=
  zcnd ((7 : Int) ≤ l4)
  (zlI (l3 + (1 : Int)) fun t1 =>
  k12 l0 l2 t1)
  (zgR G 3 4 l0 fun t2 =>
  zaR G 18 t2 l3 fun t3 =>
  ztI G t3 l4 (0 : Int) <|
  zlI (l4 + (1 : Int)) fun t4 =>
  k42 l0 l2 l3 t4)
theorem qX3_startAnew_42B {G : kdS} (hG : kzG G) {k12' : Nat → Int → Int → kzM → Option (Int × kzM)} {k12 : Nat → Int32 → Int32 → kdM → Option (Int32 × kdM)} (hk12 : ∀ (a0 : Nat) (a1 : Int) (_ : kzI a1) (a2 : Int) (_ : kzI a2), CRi (k12' a0 a1 a2) (k12 a0 (Int32.ofInt a1) (Int32.ofInt a2))) {k42' : Nat → Int → Int → Int → kzM → Option (Int × kzM)} {k42 : Nat → Int32 → Int32 → Int32 → kdM → Option (Int32 × kdM)} (hk42 : ∀ (a0 : Nat) (a1 : Int) (_ : kzI a1) (a2 : Int) (_ : kzI a2) (a3 : Int) (_ : kzI a3), CRi (k42' a0 a1 a2 a3) (k42 a0 (Int32.ofInt a1) (Int32.ofInt a2) (Int32.ofInt a3))) (l0 : Nat) {l2 : Int} (hl2 : kzI l2) {l3 : Int} (hl3 : kzI l3) {l4 : Int} (hl4 : kzI l4) : CRi (Z3_startAnew_42B G k12' k42' l0 l2 l3 l4) (X3_startAnew_42B G k12 k42 l0 (Int32.ofInt l2) (Int32.ofInt l3) (Int32.ofInt l4)) := by
  unfold Z3_startAnew_42B X3_startAnew_42B
  exact c_cnd (kz_le (by unfold kzI; omega) hl4 rfl rfl) (c_lI (kz_add rfl rfl) (fun t1 ht1 => (hk12 l0 _ hl2 _ ht1))) (c_gR (fun t2 => c_aR hG rfl (fun t3 => c_tI hG rfl (by unfold kzI; omega) rfl (c_lI (kz_add rfl rfl) (fun t4 ht4 => (hk42 l0 _ hl2 _ hl3 _ ht4))))))
def Z3_startAnew_42 (G : kdS) (k12 : Nat → Int → Int → kzM → Option (Int × kzM)) : Nat → Int → Int → Int → kzM → Option (Int × kzM) := lp (fun _ _ _ _ _ => none) (Z3_startAnew_42B G k12) NN
theorem qX3_startAnew_42 {G : kdS} (hG : kzG G) {k12' : Nat → Int → Int → kzM → Option (Int × kzM)} {k12 : Nat → Int32 → Int32 → kdM → Option (Int32 × kdM)} (hk12 : ∀ (a0 : Nat) (a1 : Int) (_ : kzI a1) (a2 : Int) (_ : kzI a2), CRi (k12' a0 a1 a2) (k12 a0 (Int32.ofInt a1) (Int32.ofInt a2))) : ∀ (a0 : Nat) (a1 : Int) (_ : kzI a1) (a2 : Int) (_ : kzI a2) (a3 : Int) (_ : kzI a3), CRi (Z3_startAnew_42 G k12' a0 a1 a2 a3) (X3_startAnew_42 G k12 a0 (Int32.ofInt a1) (Int32.ofInt a2) (Int32.ofInt a3)) :=
  lp_rel (R := fun (f' : Nat → Int → Int → Int → kzM → Option (Int × kzM)) (f : Nat → Int32 → Int32 → Int32 → kdM → Option (Int32 × kdM)) => ∀ (a0 : Nat) (a1 : Int) (_ : kzI a1) (a2 : Int) (_ : kzI a2) (a3 : Int) (_ : kzI a3), CRi (f' a0 a1 a2 a3) (f a0 (Int32.ofInt a1) (Int32.ofInt a2) (Int32.ofInt a3))) (by intros; exact c_no) (fun _ _ hf a0 a1 ha1 a2 ha2 a3 ha3 => qX3_startAnew_42B hG hk12 hf a0 ha1 ha2 ha3) NN
def Z3_startAnew_12B (G : kdS) (k12 : Nat → Int → Int → kzM → Option (Int × kzM)) (l0 : Nat) (l2 : Int) (l3 : Int) : kzM → Option (Int × kzM) :=
  zcnd ((7 : Int) ≤ l3)
  (zrt l2)
  (zgR G 3 1 l0 fun t1 =>
  ztI G t1 l3 (1 : Int) <|
  zgR G 3 2 l0 fun t2 =>
  ztI G t2 l3 (0 : Int) <|
  zgR G 3 3 l0 fun t3 =>
  ztI G t3 l3 (0 : Int) <|
  Z3_startAnew_42 G k12 l0 l2 l3 (0 : Int))
theorem qX3_startAnew_12B {G : kdS} (hG : kzG G) {k12' : Nat → Int → Int → kzM → Option (Int × kzM)} {k12 : Nat → Int32 → Int32 → kdM → Option (Int32 × kdM)} (hk12 : ∀ (a0 : Nat) (a1 : Int) (_ : kzI a1) (a2 : Int) (_ : kzI a2), CRi (k12' a0 a1 a2) (k12 a0 (Int32.ofInt a1) (Int32.ofInt a2))) (l0 : Nat) {l2 : Int} (hl2 : kzI l2) {l3 : Int} (hl3 : kzI l3) : CRi (Z3_startAnew_12B G k12' l0 l2 l3) (X3_startAnew_12B G k12 l0 (Int32.ofInt l2) (Int32.ofInt l3)) := by
  unfold Z3_startAnew_12B X3_startAnew_12B
  exact c_cnd (kz_le (by unfold kzI; omega) hl3 rfl rfl) (c_rt hl2 rfl) (c_gR (fun t1 => c_tI hG rfl (by unfold kzI; omega) rfl (c_gR (fun t2 => c_tI hG rfl (by unfold kzI; omega) rfl (c_gR (fun t3 => c_tI hG rfl (by unfold kzI; omega) rfl ((qX3_startAnew_42 hG hk12 l0 _ hl2 _ hl3 _ (by unfold kzI; omega)))))))))
def Z3_startAnew_12 (G : kdS) : Nat → Int → Int → kzM → Option (Int × kzM) := lp (fun _ _ _ _ => none) (Z3_startAnew_12B G) NN
theorem qX3_startAnew_12 {G : kdS} (hG : kzG G) : ∀ (a0 : Nat) (a1 : Int) (_ : kzI a1) (a2 : Int) (_ : kzI a2), CRi (Z3_startAnew_12 G a0 a1 a2) (X3_startAnew_12 G a0 (Int32.ofInt a1) (Int32.ofInt a2)) :=
  lp_rel (R := fun (f' : Nat → Int → Int → kzM → Option (Int × kzM)) (f : Nat → Int32 → Int32 → kdM → Option (Int32 × kdM)) => ∀ (a0 : Nat) (a1 : Int) (_ : kzI a1) (a2 : Int) (_ : kzI a2), CRi (f' a0 a1 a2) (f a0 (Int32.ofInt a1) (Int32.ofInt a2))) (by intros; exact c_no) (fun _ _ hf a0 a1 ha1 a2 ha2 => qX3_startAnew_12B hG hf a0 ha1 ha2) NN
def Z3_startAnew (G : kdS) (l0 : Nat) (l1 : Int) : kzM → Option (Int × kzM) :=
  zgI G 3 0 l0 fun t1 =>
  zsI G 3 0 l0 l1 <|
  Z3_startAnew_12 G l0 t1 (0 : Int)
theorem qX3_startAnew {G : kdS} (hG : kzG G) (l0 : Nat) {l1 : Int} (hl1 : kzI l1) : CRi (Z3_startAnew G l0 l1) (X3_startAnew G l0 (Int32.ofInt l1)) := by
  unfold Z3_startAnew X3_startAnew
  exact c_gI rfl (fun t1 ht1 => c_sI rfl hl1 rfl ((qX3_startAnew_12 hG l0 _ ht1 _ (by unfold kzI; omega))))
def Z3_setEffort (G : kdS) (l0 : Nat) (l1 : Int) (l2 : Int) : kzM → Option (Int × kzM) :=
  zgR G 3 1 l0 fun t1 =>
  zaI G t1 l1 fun t2 =>
  zgR G 3 1 l0 fun t3 =>
  ztI G t3 l1 l2 <|
  zrt t2
theorem qX3_setEffort {G : kdS} (hG : kzG G) (l0 : Nat) {l1 : Int} (hl1 : kzI l1) {l2 : Int} (hl2 : kzI l2) : CRi (Z3_setEffort G l0 l1 l2) (X3_setEffort G l0 (Int32.ofInt l1) (Int32.ofInt l2)) := by
  unfold Z3_setEffort X3_setEffort
  exact c_gR (fun t1 => c_aI hG rfl (fun t2 ht2 => c_gR (fun t3 => c_tI hG rfl hl2 rfl (c_rt ht2 rfl))))
def Z3_setFinger (G : kdS) (l0 : Nat) (l1 : Int) (l2 : Int) : kzM → Option (Int × kzM) :=
  zgR G 3 2 l0 fun t1 =>
  zaI G t1 l1 fun t2 =>
  zgR G 3 2 l0 fun t3 =>
  ztI G t3 l1 l2 <|
  zrt t2
theorem qX3_setFinger {G : kdS} (hG : kzG G) (l0 : Nat) {l1 : Int} (hl1 : kzI l1) {l2 : Int} (hl2 : kzI l2) : CRi (Z3_setFinger G l0 l1 l2) (X3_setFinger G l0 (Int32.ofInt l1) (Int32.ofInt l2)) := by
  unfold Z3_setFinger X3_setFinger
  exact c_gR (fun t1 => c_aI hG rfl (fun t2 ht2 => c_gR (fun t3 => c_tI hG rfl hl2 rfl (c_rt ht2 rfl))))
def Z3_setLoad (G : kdS) (l0 : Nat) (l1 : Int) (l2 : Int) : kzM → Option (Int × kzM) :=
  zgR G 3 3 l0 fun t1 =>
  zaI G t1 l1 fun t2 =>
  zgR G 3 3 l0 fun t3 =>
  ztI G t3 l1 l2 <|
  zrt t2
theorem qX3_setLoad {G : kdS} (hG : kzG G) (l0 : Nat) {l1 : Int} (hl1 : kzI l1) {l2 : Int} (hl2 : kzI l2) : CRi (Z3_setLoad G l0 l1 l2) (X3_setLoad G l0 (Int32.ofInt l1) (Int32.ofInt l2)) := by
  unfold Z3_setLoad X3_setLoad
  exact c_gR (fun t1 => c_aI hG rfl (fun t2 ht2 => c_gR (fun t3 => c_tI hG rfl hl2 rfl (c_rt ht2 rfl))))
def Z3_setPair (G : kdS) (l0 : Nat) (l1 : Int) (l2 : Int) (l3 : Int) : kzM → Option (Int × kzM) :=
  zgR G 3 4 l0 fun t1 =>
  zaR G 18 t1 l1 fun t2 =>
  zaI G t2 l2 fun t3 =>
  zgR G 3 4 l0 fun t4 =>
  zaR G 18 t4 l1 fun t5 =>
  ztI G t5 l2 l3 <|
  zrt t3
theorem qX3_setPair {G : kdS} (hG : kzG G) (l0 : Nat) {l1 : Int} (hl1 : kzI l1) {l2 : Int} (hl2 : kzI l2) {l3 : Int} (hl3 : kzI l3) : CRi (Z3_setPair G l0 l1 l2 l3) (X3_setPair G l0 (Int32.ofInt l1) (Int32.ofInt l2) (Int32.ofInt l3)) := by
  unfold Z3_setPair X3_setPair
  exact c_gR (fun t1 => c_aR hG rfl (fun t2 => c_aI hG rfl (fun t3 ht3 => c_gR (fun t4 => c_aR hG rfl (fun t5 => c_tI hG rfl hl3 rfl (c_rt ht3 rfl))))))
def Z3_setSame (G : kdS) (l0 : Nat) (l1 : Int) : kzM → Option (Int × kzM) :=
  zgI G 3 5 l0 fun t1 =>
  zsI G 3 5 l0 l1 <|
  zrt t1
theorem qX3_setSame {G : kdS} (hG : kzG G) (l0 : Nat) {l1 : Int} (hl1 : kzI l1) : CRi (Z3_setSame G l0 l1) (X3_setSame G l0 (Int32.ofInt l1)) := by
  unfold Z3_setSame X3_setSame
  exact c_gI rfl (fun t1 ht1 => c_sI rfl hl1 rfl (c_rt ht1 rfl))
def Z3_read_80 (G : kdS) (s0 : Int) : kzM → Option (Int × kzM) :=
  zrt (zB s0)
theorem qX3_read_80 {G : kdS} (hG : kzG G) {s0 : Int} (hs0 : kzI s0) : CRi (Z3_read_80 G s0) (X3_read_80 G (Int32.ofInt s0)) := by
  unfold Z3_read_80 X3_read_80
  exact c_rt (kz_BI _) (kz_B rfl)
def Z3_read_79 (G : kdS) : kzM → Option (Int × kzM) :=
  Z3_read_80 G (0 : Int)
theorem qX3_read_79 {G : kdS} (hG : kzG G) : CRi (Z3_read_79 G) (X3_read_79 G) := by
  unfold Z3_read_79 X3_read_79
  exact (qX3_read_80 hG (by unfold kzI; omega))
def Z3_read_16B (G : kdS) (k16 : Nat → Int → Int → Int → Int → kzM → Option (Int × kzM)) (l0 : Nat) (l1 : Int) (l2 : Int) (l3 : Int) (l4 : Int) : kzM → Option (Int × kzM) :=
  zcnd (l4 < (0 : Int))
  (zcnd (l1 < (0 : Int))
  (Z3_read_79 G)
  (zcnd (l2 = (0 : Int))
  (zgI G 3 0 l0 fun t1 =>
  zlI ((zshl (1 : Int) t1) - (1 : Int)) fun u1 =>
  zcnd (l3 = u1)
  (Z3_read_80 G (1 : Int))
  (Z3_read_79 G))
  (Z3_read_79 G)))
  (zgR G 3 6 l0 fun t2 =>
  znz (10 : Int) <|
  zlI (Int.tmod l2 (10 : Int)) fun u2 =>
  ztI G t2 l4 u2 <|
  zgR G 3 6 l0 fun t3 =>
  zaI G t3 l4 fun t4 =>
  zlI (zor l3 (zshl (1 : Int) t4)) fun t5 =>
  znz (10 : Int) <|
  zlI (l2.tdiv (10 : Int)) fun t6 =>
  zlI (l4 + (-1 : Int)) fun t7 =>
  k16 l0 l1 t6 t5 t7)
theorem qX3_read_16B {G : kdS} (hG : kzG G) {k16' : Nat → Int → Int → Int → Int → kzM → Option (Int × kzM)} {k16 : Nat → Int32 → Int32 → Int32 → Int32 → kdM → Option (Int32 × kdM)} (hk16 : ∀ (a0 : Nat) (a1 : Int) (_ : kzI a1) (a2 : Int) (_ : kzI a2) (a3 : Int) (_ : kzI a3) (a4 : Int) (_ : kzI a4), CRi (k16' a0 a1 a2 a3 a4) (k16 a0 (Int32.ofInt a1) (Int32.ofInt a2) (Int32.ofInt a3) (Int32.ofInt a4))) (l0 : Nat) {l1 : Int} (hl1 : kzI l1) {l2 : Int} (hl2 : kzI l2) {l3 : Int} (hl3 : kzI l3) {l4 : Int} (hl4 : kzI l4) : CRi (Z3_read_16B G k16' l0 l1 l2 l3 l4) (X3_read_16B G k16 l0 (Int32.ofInt l1) (Int32.ofInt l2) (Int32.ofInt l3) (Int32.ofInt l4)) := by
  unfold Z3_read_16B X3_read_16B
  exact c_cnd (kz_lt hl4 (by unfold kzI; omega) rfl rfl) (c_cnd (kz_lt hl1 (by unfold kzI; omega) rfl rfl) ((qX3_read_79 hG)) (c_cnd (kz_eq hl2 (by unfold kzI; omega) rfl rfl) (c_gI rfl (fun t1 ht1 => c_rg (kz_sub (kz_shl rfl rfl) rfl) fun u1 r1 e1 => c_cnd (kz_eq hl3 r1 rfl e1) ((qX3_read_80 hG (by unfold kzI; omega))) ((qX3_read_79 hG)))) ((qX3_read_79 hG)))) (c_gR (fun t2 => c_nz (by unfold kzI; omega) rfl (c_rg (kz_rem hl2 (by unfold kzI; omega) rfl rfl) fun u2 r2 e2 => c_tI hG rfl r2 e2 (c_gR (fun t3 => c_aI hG rfl (fun t4 ht4 => c_lI (kz_or rfl (kz_shl rfl rfl)) (fun t5 ht5 => c_nz (by unfold kzI; omega) rfl (c_lI (kz_div hl2 (by unfold kzI; omega) rfl rfl) (fun t6 ht6 => c_lI (kz_add rfl rfl) (fun t7 ht7 => (hk16 l0 _ hl1 _ ht6 _ ht5 _ ht7)))))))))))
def Z3_read_16 (G : kdS) : Nat → Int → Int → Int → Int → kzM → Option (Int × kzM) := lp (fun _ _ _ _ _ _ => none) (Z3_read_16B G) NN
theorem qX3_read_16 {G : kdS} (hG : kzG G) : ∀ (a0 : Nat) (a1 : Int) (_ : kzI a1) (a2 : Int) (_ : kzI a2) (a3 : Int) (_ : kzI a3) (a4 : Int) (_ : kzI a4), CRi (Z3_read_16 G a0 a1 a2 a3 a4) (X3_read_16 G a0 (Int32.ofInt a1) (Int32.ofInt a2) (Int32.ofInt a3) (Int32.ofInt a4)) :=
  lp_rel (R := fun (f' : Nat → Int → Int → Int → Int → kzM → Option (Int × kzM)) (f : Nat → Int32 → Int32 → Int32 → Int32 → kdM → Option (Int32 × kdM)) => ∀ (a0 : Nat) (a1 : Int) (_ : kzI a1) (a2 : Int) (_ : kzI a2) (a3 : Int) (_ : kzI a3) (a4 : Int) (_ : kzI a4), CRi (f' a0 a1 a2 a3 a4) (f a0 (Int32.ofInt a1) (Int32.ofInt a2) (Int32.ofInt a3) (Int32.ofInt a4))) (by intros; exact c_no) (fun _ _ hf a0 a1 ha1 a2 ha2 a3 ha3 a4 ha4 => qX3_read_16B hG hf a0 ha1 ha2 ha3 ha4) NN
def Z3_read (G : kdS) (l0 : Nat) (l1 : Int) : kzM → Option (Int × kzM) :=
  zlI (zmax l1 (0 : Int)) fun t1 =>
  zgI G 3 0 l0 fun t2 =>
  zlI (t2 - (1 : Int)) fun t3 =>
  Z3_read_16 G l0 l1 t1 (0 : Int) t3
theorem qX3_read {G : kdS} (hG : kzG G) (l0 : Nat) {l1 : Int} (hl1 : kzI l1) : CRi (Z3_read G l0 l1) (X3_read G l0 (Int32.ofInt l1)) := by
  unfold Z3_read X3_read
  exact c_lI (kz_max hl1 (by unfold kzI; omega) rfl rfl) (fun t1 ht1 => c_gI rfl (fun t2 ht2 => c_lI (kz_sub rfl rfl) (fun t3 ht3 => (qX3_read_16 hG l0 _ hl1 _ ht1 _ (by unfold kzI; omega) _ ht3))))
def Z3_digits_4B (G : kdS) (k4 : Nat → Int → Int → kzM → Option (Int × kzM)) (l0 : Nat) (l1 : Int) (l2 : Int) : kzM → Option (Int × kzM) :=
  zgI G 3 0 l0 fun t1 =>
  zcnd (t1 ≤ l2)
  (zrt l1)
  (zgR G 3 6 l0 fun t2 =>
  zaI G t2 l2 fun t3 =>
  zlI (((10 : Int) * l1) + t3) fun t4 =>
  zlI (l2 + (1 : Int)) fun t5 =>
  k4 l0 t4 t5)
theorem qX3_digits_4B {G : kdS} (hG : kzG G) {k4' : Nat → Int → Int → kzM → Option (Int × kzM)} {k4 : Nat → Int32 → Int32 → kdM → Option (Int32 × kdM)} (hk4 : ∀ (a0 : Nat) (a1 : Int) (_ : kzI a1) (a2 : Int) (_ : kzI a2), CRi (k4' a0 a1 a2) (k4 a0 (Int32.ofInt a1) (Int32.ofInt a2))) (l0 : Nat) {l1 : Int} (hl1 : kzI l1) {l2 : Int} (hl2 : kzI l2) : CRi (Z3_digits_4B G k4' l0 l1 l2) (X3_digits_4B G k4 l0 (Int32.ofInt l1) (Int32.ofInt l2)) := by
  unfold Z3_digits_4B X3_digits_4B
  exact c_gI rfl (fun t1 ht1 => c_cnd (kz_le ht1 hl2 rfl rfl) (c_rt hl1 rfl) (c_gR (fun t2 => c_aI hG rfl (fun t3 ht3 => c_lI (kz_add (kz_mul rfl rfl) rfl) (fun t4 ht4 => c_lI (kz_add rfl rfl) (fun t5 ht5 => (hk4 l0 _ ht4 _ ht5)))))))
def Z3_digits_4 (G : kdS) : Nat → Int → Int → kzM → Option (Int × kzM) := lp (fun _ _ _ _ => none) (Z3_digits_4B G) NN
theorem qX3_digits_4 {G : kdS} (hG : kzG G) : ∀ (a0 : Nat) (a1 : Int) (_ : kzI a1) (a2 : Int) (_ : kzI a2), CRi (Z3_digits_4 G a0 a1 a2) (X3_digits_4 G a0 (Int32.ofInt a1) (Int32.ofInt a2)) :=
  lp_rel (R := fun (f' : Nat → Int → Int → kzM → Option (Int × kzM)) (f : Nat → Int32 → Int32 → kdM → Option (Int32 × kdM)) => ∀ (a0 : Nat) (a1 : Int) (_ : kzI a1) (a2 : Int) (_ : kzI a2), CRi (f' a0 a1 a2) (f a0 (Int32.ofInt a1) (Int32.ofInt a2))) (by intros; exact c_no) (fun _ _ hf a0 a1 ha1 a2 ha2 => qX3_digits_4B hG hf a0 ha1 ha2) NN
def Z3_digits (G : kdS) (l0 : Nat) : kzM → Option (Int × kzM) :=
  Z3_digits_4 G l0 (0 : Int) (0 : Int)
theorem qX3_digits {G : kdS} (hG : kzG G) (l0 : Nat) : CRi (Z3_digits G l0) (X3_digits G l0) := by
  unfold Z3_digits X3_digits
  exact (qX3_digits_4 hG l0 _ (by unfold kzI; omega) _ (by unfold kzI; omega))
def Z3_farness_29 (G : kdS) (s0 : Int) (s1 : Int) : kzM → Option (Int × kzM) :=
  zlI (s0 + s1) fun u1 =>
  zrt u1
theorem qX3_farness_29 {G : kdS} (hG : kzG G) {s0 : Int} (hs0 : kzI s0) {s1 : Int} (hs1 : kzI s1) : CRi (Z3_farness_29 G s0 s1) (X3_farness_29 G (Int32.ofInt s0) (Int32.ofInt s1)) := by
  unfold Z3_farness_29 X3_farness_29
  exact c_rg (kz_add rfl rfl) fun u1 r1 e1 => c_rt r1 e1
def Z3_farness (G : kdS) (l0 : Nat) (l1 : Int) (l2 : Int) : kzM → Option (Int × kzM) :=
  zgR G 3 2 l0 fun t1 =>
  zaI G t1 l1 fun t2 =>
  zgR G 3 2 l0 fun t3 =>
  zaI G t3 l2 fun t4 =>
  zcnd (t2 = t4)
  (zgI G 3 5 l0 fun t5 =>
  zlI (l1 - l2) fun u1 =>
  zlI (zabs u1) fun u2 =>
  Z3_farness_29 G u2 t5)
  (zlI (l1 - l2) fun u3 =>
  zlI (zabs u3) fun u4 =>
  Z3_farness_29 G u4 (0 : Int))
theorem qX3_farness {G : kdS} (hG : kzG G) (l0 : Nat) {l1 : Int} (hl1 : kzI l1) {l2 : Int} (hl2 : kzI l2) : CRi (Z3_farness G l0 l1 l2) (X3_farness G l0 (Int32.ofInt l1) (Int32.ofInt l2)) := by
  unfold Z3_farness X3_farness
  exact c_gR (fun t1 => c_aI hG rfl (fun t2 ht2 => c_gR (fun t3 => c_aI hG rfl (fun t4 ht4 => c_cnd (kz_eq ht2 ht4 rfl rfl) (c_gI rfl (fun t5 ht5 => c_rg (kz_sub rfl rfl) fun u1 r1 e1 => c_rg (kz_abs r1 e1) fun u2 r2 e2 => (e2 ▸ (qX3_farness_29 hG r2 ht5)))) (c_rg (kz_sub rfl rfl) fun u3 r3 e3 => c_rg (kz_abs r3 e3) fun u4 r4 e4 => (e4 ▸ (qX3_farness_29 hG r4 (by unfold kzI; omega))))))))
def Z3_addedCost_72 (G : kdS) (k21 : Nat → Int → Int → Int → kzM → Option (Int × kzM)) (l0 : Nat) (l1 : Int) (l2 : Int) (l3 : Int) : kzM → Option (Int × kzM) :=
  zlI (l3 + (1 : Int)) fun t1 =>
  k21 l0 l1 l2 t1
theorem qX3_addedCost_72 {G : kdS} (hG : kzG G) {k21' : Nat → Int → Int → Int → kzM → Option (Int × kzM)} {k21 : Nat → Int32 → Int32 → Int32 → kdM → Option (Int32 × kdM)} (hk21 : ∀ (a0 : Nat) (a1 : Int) (_ : kzI a1) (a2 : Int) (_ : kzI a2) (a3 : Int) (_ : kzI a3), CRi (k21' a0 a1 a2 a3) (k21 a0 (Int32.ofInt a1) (Int32.ofInt a2) (Int32.ofInt a3))) (l0 : Nat) {l1 : Int} (hl1 : kzI l1) {l2 : Int} (hl2 : kzI l2) {l3 : Int} (hl3 : kzI l3) : CRi (Z3_addedCost_72 G k21' l0 l1 l2 l3) (X3_addedCost_72 G k21 l0 (Int32.ofInt l1) (Int32.ofInt l2) (Int32.ofInt l3)) := by
  unfold Z3_addedCost_72 X3_addedCost_72
  exact c_lI (kz_add rfl rfl) (fun t1 ht1 => (hk21 l0 _ hl1 _ hl2 _ ht1))
def Z3_addedCost_21B (G : kdS) (k21 : Nat → Int → Int → Int → kzM → Option (Int × kzM)) (l0 : Nat) (l1 : Int) (l2 : Int) (l3 : Int) : kzM → Option (Int × kzM) :=
  zcnd (l1 ≤ l3)
  (zrt l2)
  (zgR G 3 4 l0 fun t1 =>
  zaR G 18 t1 l1 fun t2 =>
  zaI G t2 l3 fun t3 =>
  zgR G 3 4 l0 fun t4 =>
  zaR G 18 t4 l3 fun t5 =>
  zaI G t5 l1 fun t6 =>
  zlI (t3 + t6) fun t7 =>
  zcnd (t7 ≤ (0 : Int))
  (Z3_addedCost_72 G k21 l0 l1 l2 l3)
  (zgR G 3 6 l0 fun t8 =>
  zaI G t8 l1 fun t9 =>
  zgR G 3 6 l0 fun t10 =>
  zaI G t10 l3 fun t11 =>
  zcv G 3 l0 (Z3_farness G l0 t9 t11) fun t12 =>
  zlI (l2 + (t7 * t12)) fun t13 =>
  Z3_addedCost_72 G k21 l0 l1 t13 l3))
theorem qX3_addedCost_21B {G : kdS} (hG : kzG G) {k21' : Nat → Int → Int → Int → kzM → Option (Int × kzM)} {k21 : Nat → Int32 → Int32 → Int32 → kdM → Option (Int32 × kdM)} (hk21 : ∀ (a0 : Nat) (a1 : Int) (_ : kzI a1) (a2 : Int) (_ : kzI a2) (a3 : Int) (_ : kzI a3), CRi (k21' a0 a1 a2 a3) (k21 a0 (Int32.ofInt a1) (Int32.ofInt a2) (Int32.ofInt a3))) (l0 : Nat) {l1 : Int} (hl1 : kzI l1) {l2 : Int} (hl2 : kzI l2) {l3 : Int} (hl3 : kzI l3) : CRi (Z3_addedCost_21B G k21' l0 l1 l2 l3) (X3_addedCost_21B G k21 l0 (Int32.ofInt l1) (Int32.ofInt l2) (Int32.ofInt l3)) := by
  unfold Z3_addedCost_21B X3_addedCost_21B
  exact c_cnd (kz_le hl1 hl3 rfl rfl) (c_rt hl2 rfl) (c_gR (fun t1 => c_aR hG rfl (fun t2 => c_aI hG rfl (fun t3 ht3 => c_gR (fun t4 => c_aR hG rfl (fun t5 => c_aI hG rfl (fun t6 ht6 => c_lI (kz_add rfl rfl) (fun t7 ht7 => c_cnd (kz_le ht7 (by unfold kzI; omega) rfl rfl) ((qX3_addedCost_72 hG hk21 l0 hl1 hl2 hl3)) (c_gR (fun t8 => c_aI hG rfl (fun t9 ht9 => c_gR (fun t10 => c_aI hG rfl (fun t11 ht11 => c_cv (qX3_farness hG l0 ht9 ht11) (fun t12 ht12 => c_lI (kz_add rfl (kz_mul rfl rfl)) (fun t13 ht13 => (qX3_addedCost_72 hG hk21 l0 hl1 ht13 hl3))))))))))))))))
def Z3_addedCost_21 (G : kdS) : Nat → Int → Int → Int → kzM → Option (Int × kzM) := lp (fun _ _ _ _ _ => none) (Z3_addedCost_21B G) NN
theorem qX3_addedCost_21 {G : kdS} (hG : kzG G) : ∀ (a0 : Nat) (a1 : Int) (_ : kzI a1) (a2 : Int) (_ : kzI a2) (a3 : Int) (_ : kzI a3), CRi (Z3_addedCost_21 G a0 a1 a2 a3) (X3_addedCost_21 G a0 (Int32.ofInt a1) (Int32.ofInt a2) (Int32.ofInt a3)) :=
  lp_rel (R := fun (f' : Nat → Int → Int → Int → kzM → Option (Int × kzM)) (f : Nat → Int32 → Int32 → Int32 → kdM → Option (Int32 × kdM)) => ∀ (a0 : Nat) (a1 : Int) (_ : kzI a1) (a2 : Int) (_ : kzI a2) (a3 : Int) (_ : kzI a3), CRi (f' a0 a1 a2 a3) (f a0 (Int32.ofInt a1) (Int32.ofInt a2) (Int32.ofInt a3))) (by intros; exact c_no) (fun _ _ hf a0 a1 ha1 a2 ha2 a3 ha3 => qX3_addedCost_21B hG hf a0 ha1 ha2 ha3) NN
def Z3_addedCost (G : kdS) (l0 : Nat) (l1 : Int) : kzM → Option (Int × kzM) :=
  zgR G 3 3 l0 fun t1 =>
  zaI G t1 l1 fun t2 =>
  zgR G 3 1 l0 fun t3 =>
  zgR G 3 6 l0 fun t4 =>
  zaI G t4 l1 fun t5 =>
  zaI G t3 t5 fun t6 =>
  zlI (t2 * t6) fun t7 =>
  Z3_addedCost_21 G l0 l1 t7 (0 : Int)
theorem qX3_addedCost {G : kdS} (hG : kzG G) (l0 : Nat) {l1 : Int} (hl1 : kzI l1) : CRi (Z3_addedCost G l0 l1) (X3_addedCost G l0 (Int32.ofInt l1)) := by
  unfold Z3_addedCost X3_addedCost
  exact c_gR (fun t1 => c_aI hG rfl (fun t2 ht2 => c_gR (fun t3 => c_gR (fun t4 => c_aI hG rfl (fun t5 ht5 => c_aI hG rfl (fun t6 ht6 => c_lI (kz_mul rfl rfl) (fun t7 ht7 => (qX3_addedCost_21 hG l0 _ hl1 _ ht7 _ (by unfold kzI; omega)))))))))
def Z3_totalCost_4B (G : kdS) (k4 : Nat → Int → Int → kzM → Option (Int × kzM)) (l0 : Nat) (l1 : Int) (l2 : Int) : kzM → Option (Int × kzM) :=
  zgI G 3 0 l0 fun t1 =>
  zcnd (t1 ≤ l2)
  (zrt l1)
  (zcv G 3 l0 (Z3_addedCost G l0 l2) fun t2 =>
  zlI (l1 + t2) fun t3 =>
  zlI (l2 + (1 : Int)) fun t4 =>
  k4 l0 t3 t4)
theorem qX3_totalCost_4B {G : kdS} (hG : kzG G) {k4' : Nat → Int → Int → kzM → Option (Int × kzM)} {k4 : Nat → Int32 → Int32 → kdM → Option (Int32 × kdM)} (hk4 : ∀ (a0 : Nat) (a1 : Int) (_ : kzI a1) (a2 : Int) (_ : kzI a2), CRi (k4' a0 a1 a2) (k4 a0 (Int32.ofInt a1) (Int32.ofInt a2))) (l0 : Nat) {l1 : Int} (hl1 : kzI l1) {l2 : Int} (hl2 : kzI l2) : CRi (Z3_totalCost_4B G k4' l0 l1 l2) (X3_totalCost_4B G k4 l0 (Int32.ofInt l1) (Int32.ofInt l2)) := by
  unfold Z3_totalCost_4B X3_totalCost_4B
  exact c_gI rfl (fun t1 ht1 => c_cnd (kz_le ht1 hl2 rfl rfl) (c_rt hl1 rfl) (c_cv (qX3_addedCost hG l0 hl2) (fun t2 ht2 => c_lI (kz_add rfl rfl) (fun t3 ht3 => c_lI (kz_add rfl rfl) (fun t4 ht4 => (hk4 l0 _ ht3 _ ht4))))))
def Z3_totalCost_4 (G : kdS) : Nat → Int → Int → kzM → Option (Int × kzM) := lp (fun _ _ _ _ => none) (Z3_totalCost_4B G) NN
theorem qX3_totalCost_4 {G : kdS} (hG : kzG G) : ∀ (a0 : Nat) (a1 : Int) (_ : kzI a1) (a2 : Int) (_ : kzI a2), CRi (Z3_totalCost_4 G a0 a1 a2) (X3_totalCost_4 G a0 (Int32.ofInt a1) (Int32.ofInt a2)) :=
  lp_rel (R := fun (f' : Nat → Int → Int → kzM → Option (Int × kzM)) (f : Nat → Int32 → Int32 → kdM → Option (Int32 × kdM)) => ∀ (a0 : Nat) (a1 : Int) (_ : kzI a1) (a2 : Int) (_ : kzI a2), CRi (f' a0 a1 a2) (f a0 (Int32.ofInt a1) (Int32.ofInt a2))) (by intros; exact c_no) (fun _ _ hf a0 a1 ha1 a2 ha2 => qX3_totalCost_4B hG hf a0 ha1 ha2) NN
def Z3_totalCost (G : kdS) (l0 : Nat) : kzM → Option (Int × kzM) :=
  Z3_totalCost_4 G l0 (0 : Int) (0 : Int)
theorem qX3_totalCost {G : kdS} (hG : kzG G) (l0 : Nat) : CRi (Z3_totalCost G l0) (X3_totalCost G l0) := by
  unfold Z3_totalCost X3_totalCost
  exact (qX3_totalCost_4 hG l0 _ (by unfold kzI; omega) _ (by unfold kzI; omega))
def Z3_exchange (G : kdS) (l0 : Nat) (l1 : Int) (l2 : Int) : kzM → Option (Unit × kzM) :=
  zgR G 3 6 l0 fun t1 =>
  zaI G t1 l1 fun t2 =>
  zgR G 3 6 l0 fun t3 =>
  zgR G 3 6 l0 fun t4 =>
  zaI G t4 l2 fun t5 =>
  ztI G t3 l1 t5 <|
  zgR G 3 6 l0 fun t6 =>
  ztI G t6 l2 t2 <|
  zrt ()
theorem qX3_exchange {G : kdS} (hG : kzG G) (l0 : Nat) {l1 : Int} (hl1 : kzI l1) {l2 : Int} (hl2 : kzI l2) : CRu (Z3_exchange G l0 l1 l2) (X3_exchange G l0 (Int32.ofInt l1) (Int32.ofInt l2)) := by
  unfold Z3_exchange X3_exchange
  exact c_gR (fun t1 => c_aI hG rfl (fun t2 ht2 => c_gR (fun t3 => c_gR (fun t4 => c_aI hG rfl (fun t5 ht5 => c_tI hG rfl ht5 rfl (c_gR (fun t6 => c_tI hG rfl ht2 rfl (c_rt trivial rfl))))))))
def Z3_placeOnward_80 (G : kdS) (krec : Nat → Int → Int → Int → kzM → Option (Unit × kzM)) (k34 : Nat → Int → Int → Int → Int → kzM → Option (Unit × kzM)) (l0 : Nat) (l1 : Int) (l2 : Int) (l3 : Int) (l4 : Int) : kzM → Option (Unit × kzM) :=
  zlI (l4 + (1 : Int)) fun t1 =>
  k34 l0 l1 l2 l3 t1
theorem qX3_placeOnward_80 {G : kdS} (hG : kzG G) {krec' : Nat → Int → Int → Int → kzM → Option (Unit × kzM)} {krec : Nat → Int32 → Int32 → Int32 → kdM → Option (Unit × kdM)} (hkrec : ∀ (a0 : Nat) (a1 : Int) (_ : kzI a1) (a2 : Int) (_ : kzI a2) (a3 : Int) (_ : kzI a3), CRu (krec' a0 a1 a2 a3) (krec a0 (Int32.ofInt a1) (Int32.ofInt a2) (Int32.ofInt a3))) {k34' : Nat → Int → Int → Int → Int → kzM → Option (Unit × kzM)} {k34 : Nat → Int32 → Int32 → Int32 → Int32 → kdM → Option (Unit × kdM)} (hk34 : ∀ (a0 : Nat) (a1 : Int) (_ : kzI a1) (a2 : Int) (_ : kzI a2) (a3 : Int) (_ : kzI a3) (a4 : Int) (_ : kzI a4), CRu (k34' a0 a1 a2 a3 a4) (k34 a0 (Int32.ofInt a1) (Int32.ofInt a2) (Int32.ofInt a3) (Int32.ofInt a4))) (l0 : Nat) {l1 : Int} (hl1 : kzI l1) {l2 : Int} (hl2 : kzI l2) {l3 : Int} (hl3 : kzI l3) {l4 : Int} (hl4 : kzI l4) : CRu (Z3_placeOnward_80 G krec' k34' l0 l1 l2 l3 l4) (X3_placeOnward_80 G krec k34 l0 (Int32.ofInt l1) (Int32.ofInt l2) (Int32.ofInt l3) (Int32.ofInt l4)) := by
  unfold Z3_placeOnward_80 X3_placeOnward_80
  exact c_lI (kz_add rfl rfl) (fun t1 ht1 => (hk34 l0 _ hl1 _ hl2 _ hl3 _ ht1))
def Z3_placeOnward_34B (G : kdS) (krec : Nat → Int → Int → Int → kzM → Option (Unit × kzM)) (k34 : Nat → Int → Int → Int → Int → kzM → Option (Unit × kzM)) (l0 : Nat) (l1 : Int) (l2 : Int) (l3 : Int) (l4 : Int) : kzM → Option (Unit × kzM) :=
  zgI G 3 0 l0 fun t1 =>
  zcnd (t1 ≤ l4)
  (zrt ())
  (zcl (Z11_hasBit G l2 l4) fun t2 =>
  zcnd (t2 = (0 : Int))
  (zgR G 3 6 l0 fun t3 =>
  ztI G t3 l1 l4 <|
  zcv G 3 l0 (Z3_addedCost G l0 l1) fun t4 =>
  zlI (l1 + (1 : Int)) fun u1 =>
  zlI (zor l2 (zshl (1 : Int) l4)) fun u2 =>
  zlI (l3 + t4) fun u3 =>
  zcl (krec l0 u1 u2 u3) fun _ =>
  Z3_placeOnward_80 G krec k34 l0 l1 l2 l3 l4)
  (Z3_placeOnward_80 G krec k34 l0 l1 l2 l3 l4))
theorem qX3_placeOnward_34B {G : kdS} (hG : kzG G) {krec' : Nat → Int → Int → Int → kzM → Option (Unit × kzM)} {krec : Nat → Int32 → Int32 → Int32 → kdM → Option (Unit × kdM)} (hkrec : ∀ (a0 : Nat) (a1 : Int) (_ : kzI a1) (a2 : Int) (_ : kzI a2) (a3 : Int) (_ : kzI a3), CRu (krec' a0 a1 a2 a3) (krec a0 (Int32.ofInt a1) (Int32.ofInt a2) (Int32.ofInt a3))) {k34' : Nat → Int → Int → Int → Int → kzM → Option (Unit × kzM)} {k34 : Nat → Int32 → Int32 → Int32 → Int32 → kdM → Option (Unit × kdM)} (hk34 : ∀ (a0 : Nat) (a1 : Int) (_ : kzI a1) (a2 : Int) (_ : kzI a2) (a3 : Int) (_ : kzI a3) (a4 : Int) (_ : kzI a4), CRu (k34' a0 a1 a2 a3 a4) (k34 a0 (Int32.ofInt a1) (Int32.ofInt a2) (Int32.ofInt a3) (Int32.ofInt a4))) (l0 : Nat) {l1 : Int} (hl1 : kzI l1) {l2 : Int} (hl2 : kzI l2) {l3 : Int} (hl3 : kzI l3) {l4 : Int} (hl4 : kzI l4) : CRu (Z3_placeOnward_34B G krec' k34' l0 l1 l2 l3 l4) (X3_placeOnward_34B G krec k34 l0 (Int32.ofInt l1) (Int32.ofInt l2) (Int32.ofInt l3) (Int32.ofInt l4)) := by
  unfold Z3_placeOnward_34B X3_placeOnward_34B
  exact c_gI rfl (fun t1 ht1 => c_cnd (kz_le ht1 hl4 rfl rfl) (c_rt trivial rfl) (c_cl (qX11_hasBit hG hl2 hl4) (fun t2 ht2 => c_cnd (kz_eq ht2 (by unfold kzI; omega) rfl rfl) (c_gR (fun t3 => c_tI hG rfl hl4 rfl (c_cv (qX3_addedCost hG l0 hl1) (fun t4 ht4 => c_rg (kz_add rfl rfl) fun u1 r1 e1 => c_rg (kz_or rfl (kz_shl rfl rfl)) fun u2 r2 e2 => c_rg (kz_add rfl rfl) fun u3 r3 e3 => c_cl (e3 ▸ (e2 ▸ (e1 ▸ (hkrec l0 _ r1 _ r2 _ r3)))) (fun _ _ => (qX3_placeOnward_80 hG hkrec hk34 l0 hl1 hl2 hl3 hl4)))))) ((qX3_placeOnward_80 hG hkrec hk34 l0 hl1 hl2 hl3 hl4)))))
def Z3_placeOnward_34 (G : kdS) (krec : Nat → Int → Int → Int → kzM → Option (Unit × kzM)) : Nat → Int → Int → Int → Int → kzM → Option (Unit × kzM) := lp (fun _ _ _ _ _ _ => none) (Z3_placeOnward_34B G krec) NN
theorem qX3_placeOnward_34 {G : kdS} (hG : kzG G) {krec' : Nat → Int → Int → Int → kzM → Option (Unit × kzM)} {krec : Nat → Int32 → Int32 → Int32 → kdM → Option (Unit × kdM)} (hkrec : ∀ (a0 : Nat) (a1 : Int) (_ : kzI a1) (a2 : Int) (_ : kzI a2) (a3 : Int) (_ : kzI a3), CRu (krec' a0 a1 a2 a3) (krec a0 (Int32.ofInt a1) (Int32.ofInt a2) (Int32.ofInt a3))) : ∀ (a0 : Nat) (a1 : Int) (_ : kzI a1) (a2 : Int) (_ : kzI a2) (a3 : Int) (_ : kzI a3) (a4 : Int) (_ : kzI a4), CRu (Z3_placeOnward_34 G krec' a0 a1 a2 a3 a4) (X3_placeOnward_34 G krec a0 (Int32.ofInt a1) (Int32.ofInt a2) (Int32.ofInt a3) (Int32.ofInt a4)) :=
  lp_rel (R := fun (f' : Nat → Int → Int → Int → Int → kzM → Option (Unit × kzM)) (f : Nat → Int32 → Int32 → Int32 → Int32 → kdM → Option (Unit × kdM)) => ∀ (a0 : Nat) (a1 : Int) (_ : kzI a1) (a2 : Int) (_ : kzI a2) (a3 : Int) (_ : kzI a3) (a4 : Int) (_ : kzI a4), CRu (f' a0 a1 a2 a3 a4) (f a0 (Int32.ofInt a1) (Int32.ofInt a2) (Int32.ofInt a3) (Int32.ofInt a4))) (by intros; exact c_no) (fun _ _ hf a0 a1 ha1 a2 ha2 a3 ha3 a4 ha4 => qX3_placeOnward_34B hG hkrec hf a0 ha1 ha2 ha3 ha4) NN
def Z3_placeOnward_0B (G : kdS) (krec : Nat → Int → Int → Int → kzM → Option (Unit × kzM)) (l0 : Nat) (l1 : Int) (l2 : Int) (l3 : Int) : kzM → Option (Unit × kzM) :=
  zgI G 3 7 l0 fun t1 =>
  zcnd (l3 < t1)
  (zgI G 3 0 l0 fun t2 =>
  zcnd (l1 < t2)
  (Z3_placeOnward_34 G krec l0 l1 l2 l3 (0 : Int))
  (zsI G 3 7 l0 l3 <|
  zcv G 3 l0 (Z3_digits G l0) fun t3 =>
  zsI G 3 8 l0 t3 <|
  zrt ()))
  (zrt ())
theorem qX3_placeOnward_0B {G : kdS} (hG : kzG G) {krec' : Nat → Int → Int → Int → kzM → Option (Unit × kzM)} {krec : Nat → Int32 → Int32 → Int32 → kdM → Option (Unit × kdM)} (hkrec : ∀ (a0 : Nat) (a1 : Int) (_ : kzI a1) (a2 : Int) (_ : kzI a2) (a3 : Int) (_ : kzI a3), CRu (krec' a0 a1 a2 a3) (krec a0 (Int32.ofInt a1) (Int32.ofInt a2) (Int32.ofInt a3))) (l0 : Nat) {l1 : Int} (hl1 : kzI l1) {l2 : Int} (hl2 : kzI l2) {l3 : Int} (hl3 : kzI l3) : CRu (Z3_placeOnward_0B G krec' l0 l1 l2 l3) (X3_placeOnward_0B G krec l0 (Int32.ofInt l1) (Int32.ofInt l2) (Int32.ofInt l3)) := by
  unfold Z3_placeOnward_0B X3_placeOnward_0B
  exact c_gI rfl (fun t1 ht1 => c_cnd (kz_lt hl3 ht1 rfl rfl) (c_gI rfl (fun t2 ht2 => c_cnd (kz_lt hl1 ht2 rfl rfl) ((qX3_placeOnward_34 hG hkrec l0 _ hl1 _ hl2 _ hl3 _ (by unfold kzI; omega))) (c_sI rfl hl3 rfl (c_cv (qX3_digits hG l0) (fun t3 ht3 => c_sI rfl ht3 rfl (c_rt trivial rfl)))))) (c_rt trivial rfl))
def Z3_placeOnward (G : kdS) (n : Nat) : Nat → Int → Int → Int → kzM → Option (Unit × kzM) := lp (fun _ _ _ _ _ => none) (Z3_placeOnward_0B G) n
theorem qX3_placeOnward {G : kdS} (hG : kzG G) (n : Nat) : ∀ (a0 : Nat) (a1 : Int) (_ : kzI a1) (a2 : Int) (_ : kzI a2) (a3 : Int) (_ : kzI a3), CRu (Z3_placeOnward G n a0 a1 a2 a3) (X3_placeOnward G n a0 (Int32.ofInt a1) (Int32.ofInt a2) (Int32.ofInt a3)) :=
  lp_rel (R := fun (f' : Nat → Int → Int → Int → kzM → Option (Unit × kzM)) (f : Nat → Int32 → Int32 → Int32 → kdM → Option (Unit × kdM)) => ∀ (a0 : Nat) (a1 : Int) (_ : kzI a1) (a2 : Int) (_ : kzI a2) (a3 : Int) (_ : kzI a3), CRu (f' a0 a1 a2 a3) (f a0 (Int32.ofInt a1) (Int32.ofInt a2) (Int32.ofInt a3))) (by intros; exact c_no) (fun _ _ hf a0 a1 ha1 a2 ha2 a3 ha3 => qX3_placeOnward_0B hG hf a0 ha1 ha2 ha3) n
def Z3_leastCostly (G : kdS) (l0 : Nat) : kzM → Option (Int × kzM) :=
  zsI G 3 7 l0 (1000000000 : Int) <|
  zsI G 3 8 l0 (0 : Int) <|
  zcl (Z3_placeOnward G 12 l0 (0 : Int) (0 : Int) (0 : Int)) fun _ =>
  zgI G 3 8 l0 fun t1 =>
  zrt t1
theorem qX3_leastCostly {G : kdS} (hG : kzG G) (l0 : Nat) : CRi (Z3_leastCostly G l0) (X3_leastCostly G l0) := by
  unfold Z3_leastCostly X3_leastCostly
  exact c_sI rfl (by unfold kzI; omega) rfl (c_sI rfl (by unfold kzI; omega) rfl (c_cl (qX3_placeOnward hG 12 l0 _ (by unfold kzI; omega) _ (by unfold kzI; omega) _ (by unfold kzI; omega)) (fun _ _ => c_gI rfl (fun t1 ht1 => c_rt ht1 rfl))))
def Z3_ranked_58 (G : kdS) (k2 : Nat → Nat → Int → Int → kzM → Option (Int × kzM)) (k16 : Nat → Nat → Int → Int → Int → Int → kzM → Option (Int × kzM)) (l0 : Nat) (l1 : Nat) (l2 : Int) (l3 : Int) (l5 : Int) (s0 : Int) (s1 : Int) : kzM → Option (Int × kzM) :=
  zlI (s0 + s1) fun t1 =>
  zlI (l5 + (1 : Int)) fun t2 =>
  k16 l0 l1 l2 l3 t1 t2
theorem qX3_ranked_58 {G : kdS} (hG : kzG G) {k2' : Nat → Nat → Int → Int → kzM → Option (Int × kzM)} {k2 : Nat → Nat → Int32 → Int32 → kdM → Option (Int32 × kdM)} (hk2 : ∀ (a0 : Nat) (a1 : Nat) (a2 : Int) (_ : kzI a2) (a3 : Int) (_ : kzI a3), CRi (k2' a0 a1 a2 a3) (k2 a0 a1 (Int32.ofInt a2) (Int32.ofInt a3))) {k16' : Nat → Nat → Int → Int → Int → Int → kzM → Option (Int × kzM)} {k16 : Nat → Nat → Int32 → Int32 → Int32 → Int32 → kdM → Option (Int32 × kdM)} (hk16 : ∀ (a0 : Nat) (a1 : Nat) (a2 : Int) (_ : kzI a2) (a3 : Int) (_ : kzI a3) (a4 : Int) (_ : kzI a4) (a5 : Int) (_ : kzI a5), CRi (k16' a0 a1 a2 a3 a4 a5) (k16 a0 a1 (Int32.ofInt a2) (Int32.ofInt a3) (Int32.ofInt a4) (Int32.ofInt a5))) (l0 : Nat) (l1 : Nat) {l2 : Int} (hl2 : kzI l2) {l3 : Int} (hl3 : kzI l3) {l5 : Int} (hl5 : kzI l5) {s0 : Int} (hs0 : kzI s0) {s1 : Int} (hs1 : kzI s1) : CRi (Z3_ranked_58 G k2' k16' l0 l1 l2 l3 l5 s0 s1) (X3_ranked_58 G k2 k16 l0 l1 (Int32.ofInt l2) (Int32.ofInt l3) (Int32.ofInt l5) (Int32.ofInt s0) (Int32.ofInt s1)) := by
  unfold Z3_ranked_58 X3_ranked_58
  exact c_lI (kz_add rfl rfl) (fun t1 ht1 => c_lI (kz_add rfl rfl) (fun t2 ht2 => (hk16 l0 l1 _ hl2 _ hl3 _ ht1 _ ht2)))
def Z3_ranked_53 (G : kdS) (k2 : Nat → Nat → Int → Int → kzM → Option (Int × kzM)) (k16 : Nat → Nat → Int → Int → Int → Int → kzM → Option (Int × kzM)) (l0 : Nat) (l1 : Nat) (l2 : Int) (l3 : Int) (l5 : Int) (s0 : Int) : kzM → Option (Int × kzM) :=
  Z3_ranked_58 G k2 k16 l0 l1 l2 l3 l5 s0 (1 : Int)
theorem qX3_ranked_53 {G : kdS} (hG : kzG G) {k2' : Nat → Nat → Int → Int → kzM → Option (Int × kzM)} {k2 : Nat → Nat → Int32 → Int32 → kdM → Option (Int32 × kdM)} (hk2 : ∀ (a0 : Nat) (a1 : Nat) (a2 : Int) (_ : kzI a2) (a3 : Int) (_ : kzI a3), CRi (k2' a0 a1 a2 a3) (k2 a0 a1 (Int32.ofInt a2) (Int32.ofInt a3))) {k16' : Nat → Nat → Int → Int → Int → Int → kzM → Option (Int × kzM)} {k16 : Nat → Nat → Int32 → Int32 → Int32 → Int32 → kdM → Option (Int32 × kdM)} (hk16 : ∀ (a0 : Nat) (a1 : Nat) (a2 : Int) (_ : kzI a2) (a3 : Int) (_ : kzI a3) (a4 : Int) (_ : kzI a4) (a5 : Int) (_ : kzI a5), CRi (k16' a0 a1 a2 a3 a4 a5) (k16 a0 a1 (Int32.ofInt a2) (Int32.ofInt a3) (Int32.ofInt a4) (Int32.ofInt a5))) (l0 : Nat) (l1 : Nat) {l2 : Int} (hl2 : kzI l2) {l3 : Int} (hl3 : kzI l3) {l5 : Int} (hl5 : kzI l5) {s0 : Int} (hs0 : kzI s0) : CRi (Z3_ranked_53 G k2' k16' l0 l1 l2 l3 l5 s0) (X3_ranked_53 G k2 k16 l0 l1 (Int32.ofInt l2) (Int32.ofInt l3) (Int32.ofInt l5) (Int32.ofInt s0)) := by
  unfold Z3_ranked_53 X3_ranked_53
  exact (qX3_ranked_58 hG hk2 hk16 l0 l1 hl2 hl3 hl5 hs0 (by unfold kzI; omega))
def Z3_ranked_57 (G : kdS) (k2 : Nat → Nat → Int → Int → kzM → Option (Int × kzM)) (k16 : Nat → Nat → Int → Int → Int → Int → kzM → Option (Int × kzM)) (l0 : Nat) (l1 : Nat) (l2 : Int) (l3 : Int) (l5 : Int) (s0 : Int) : kzM → Option (Int × kzM) :=
  Z3_ranked_58 G k2 k16 l0 l1 l2 l3 l5 s0 (0 : Int)
theorem qX3_ranked_57 {G : kdS} (hG : kzG G) {k2' : Nat → Nat → Int → Int → kzM → Option (Int × kzM)} {k2 : Nat → Nat → Int32 → Int32 → kdM → Option (Int32 × kdM)} (hk2 : ∀ (a0 : Nat) (a1 : Nat) (a2 : Int) (_ : kzI a2) (a3 : Int) (_ : kzI a3), CRi (k2' a0 a1 a2 a3) (k2 a0 a1 (Int32.ofInt a2) (Int32.ofInt a3))) {k16' : Nat → Nat → Int → Int → Int → Int → kzM → Option (Int × kzM)} {k16 : Nat → Nat → Int32 → Int32 → Int32 → Int32 → kdM → Option (Int32 × kdM)} (hk16 : ∀ (a0 : Nat) (a1 : Nat) (a2 : Int) (_ : kzI a2) (a3 : Int) (_ : kzI a3) (a4 : Int) (_ : kzI a4) (a5 : Int) (_ : kzI a5), CRi (k16' a0 a1 a2 a3 a4 a5) (k16 a0 a1 (Int32.ofInt a2) (Int32.ofInt a3) (Int32.ofInt a4) (Int32.ofInt a5))) (l0 : Nat) (l1 : Nat) {l2 : Int} (hl2 : kzI l2) {l3 : Int} (hl3 : kzI l3) {l5 : Int} (hl5 : kzI l5) {s0 : Int} (hs0 : kzI s0) : CRi (Z3_ranked_57 G k2' k16' l0 l1 l2 l3 l5 s0) (X3_ranked_57 G k2 k16 l0 l1 (Int32.ofInt l2) (Int32.ofInt l3) (Int32.ofInt l5) (Int32.ofInt s0)) := by
  unfold Z3_ranked_57 X3_ranked_57
  exact (qX3_ranked_58 hG hk2 hk16 l0 l1 hl2 hl3 hl5 hs0 (by unfold kzI; omega))
def Z3_ranked_16B (G : kdS) (k2 : Nat → Nat → Int → Int → kzM → Option (Int × kzM)) (k16 : Nat → Nat → Int → Int → Int → Int → kzM → Option (Int × kzM)) (l0 : Nat) (l1 : Nat) (l2 : Int) (l3 : Int) (l4 : Int) (l5 : Int) : kzM → Option (Int × kzM) :=
  zgI G 3 0 l0 fun t1 =>
  zcnd (t1 ≤ l5)
  (zcnd (l4 = l2)
  (zaI G l1 l3 fun t2 =>
  zrt t2)
  (zlI (l3 + (1 : Int)) fun t3 =>
  k2 l0 l1 l2 t3))
  (zaI G l1 l5 fun t4 =>
  zaI G l1 l3 fun t5 =>
  zcnd (t4 < t5)
  (Z3_ranked_53 G k2 k16 l0 l1 l2 l3 l5 l4)
  (zaI G l1 l5 fun t6 =>
  zaI G l1 l3 fun t7 =>
  zcnd (t6 = t7)
  (zcnd (l3 ≤ l5)
  (Z3_ranked_57 G k2 k16 l0 l1 l2 l3 l5 l4)
  (Z3_ranked_53 G k2 k16 l0 l1 l2 l3 l5 l4))
  (Z3_ranked_57 G k2 k16 l0 l1 l2 l3 l5 l4)))
theorem qX3_ranked_16B {G : kdS} (hG : kzG G) {k2' : Nat → Nat → Int → Int → kzM → Option (Int × kzM)} {k2 : Nat → Nat → Int32 → Int32 → kdM → Option (Int32 × kdM)} (hk2 : ∀ (a0 : Nat) (a1 : Nat) (a2 : Int) (_ : kzI a2) (a3 : Int) (_ : kzI a3), CRi (k2' a0 a1 a2 a3) (k2 a0 a1 (Int32.ofInt a2) (Int32.ofInt a3))) {k16' : Nat → Nat → Int → Int → Int → Int → kzM → Option (Int × kzM)} {k16 : Nat → Nat → Int32 → Int32 → Int32 → Int32 → kdM → Option (Int32 × kdM)} (hk16 : ∀ (a0 : Nat) (a1 : Nat) (a2 : Int) (_ : kzI a2) (a3 : Int) (_ : kzI a3) (a4 : Int) (_ : kzI a4) (a5 : Int) (_ : kzI a5), CRi (k16' a0 a1 a2 a3 a4 a5) (k16 a0 a1 (Int32.ofInt a2) (Int32.ofInt a3) (Int32.ofInt a4) (Int32.ofInt a5))) (l0 : Nat) (l1 : Nat) {l2 : Int} (hl2 : kzI l2) {l3 : Int} (hl3 : kzI l3) {l4 : Int} (hl4 : kzI l4) {l5 : Int} (hl5 : kzI l5) : CRi (Z3_ranked_16B G k2' k16' l0 l1 l2 l3 l4 l5) (X3_ranked_16B G k2 k16 l0 l1 (Int32.ofInt l2) (Int32.ofInt l3) (Int32.ofInt l4) (Int32.ofInt l5)) := by
  unfold Z3_ranked_16B X3_ranked_16B
  exact c_gI rfl (fun t1 ht1 => c_cnd (kz_le ht1 hl5 rfl rfl) (c_cnd (kz_eq hl4 hl2 rfl rfl) (c_aI hG rfl (fun t2 ht2 => c_rt ht2 rfl)) (c_lI (kz_add rfl rfl) (fun t3 ht3 => (hk2 l0 l1 _ hl2 _ ht3)))) (c_aI hG rfl (fun t4 ht4 => c_aI hG rfl (fun t5 ht5 => c_cnd (kz_lt ht4 ht5 rfl rfl) ((qX3_ranked_53 hG hk2 hk16 l0 l1 hl2 hl3 hl5 hl4)) (c_aI hG rfl (fun t6 ht6 => c_aI hG rfl (fun t7 ht7 => c_cnd (kz_eq ht6 ht7 rfl rfl) (c_cnd (kz_le hl3 hl5 rfl rfl) ((qX3_ranked_57 hG hk2 hk16 l0 l1 hl2 hl3 hl5 hl4)) ((qX3_ranked_53 hG hk2 hk16 l0 l1 hl2 hl3 hl5 hl4))) ((qX3_ranked_57 hG hk2 hk16 l0 l1 hl2 hl3 hl5 hl4)))))))))
def Z3_ranked_16 (G : kdS) (k2 : Nat → Nat → Int → Int → kzM → Option (Int × kzM)) : Nat → Nat → Int → Int → Int → Int → kzM → Option (Int × kzM) := lp (fun _ _ _ _ _ _ _ => none) (Z3_ranked_16B G k2) NN
theorem qX3_ranked_16 {G : kdS} (hG : kzG G) {k2' : Nat → Nat → Int → Int → kzM → Option (Int × kzM)} {k2 : Nat → Nat → Int32 → Int32 → kdM → Option (Int32 × kdM)} (hk2 : ∀ (a0 : Nat) (a1 : Nat) (a2 : Int) (_ : kzI a2) (a3 : Int) (_ : kzI a3), CRi (k2' a0 a1 a2 a3) (k2 a0 a1 (Int32.ofInt a2) (Int32.ofInt a3))) : ∀ (a0 : Nat) (a1 : Nat) (a2 : Int) (_ : kzI a2) (a3 : Int) (_ : kzI a3) (a4 : Int) (_ : kzI a4) (a5 : Int) (_ : kzI a5), CRi (Z3_ranked_16 G k2' a0 a1 a2 a3 a4 a5) (X3_ranked_16 G k2 a0 a1 (Int32.ofInt a2) (Int32.ofInt a3) (Int32.ofInt a4) (Int32.ofInt a5)) :=
  lp_rel (R := fun (f' : Nat → Nat → Int → Int → Int → Int → kzM → Option (Int × kzM)) (f : Nat → Nat → Int32 → Int32 → Int32 → Int32 → kdM → Option (Int32 × kdM)) => ∀ (a0 : Nat) (a1 : Nat) (a2 : Int) (_ : kzI a2) (a3 : Int) (_ : kzI a3) (a4 : Int) (_ : kzI a4) (a5 : Int) (_ : kzI a5), CRi (f' a0 a1 a2 a3 a4 a5) (f a0 a1 (Int32.ofInt a2) (Int32.ofInt a3) (Int32.ofInt a4) (Int32.ofInt a5))) (by intros; exact c_no) (fun _ _ hf a0 a1 a2 ha2 a3 ha3 a4 ha4 a5 ha5 => qX3_ranked_16B hG hk2 hf a0 a1 ha2 ha3 ha4 ha5) NN
def Z3_ranked_2B (G : kdS) (k2 : Nat → Nat → Int → Int → kzM → Option (Int × kzM)) (l0 : Nat) (l1 : Nat) (l2 : Int) (l3 : Int) : kzM → Option (Int × kzM) :=
  zgI G 3 0 l0 fun t1 =>
  zcnd (t1 ≤ l3)
  (zrt (0 : Int))
  (Z3_ranked_16 G k2 l0 l1 l2 l3 (0 : Int) (0 : Int))
theorem qX3_ranked_2B {G : kdS} (hG : kzG G) {k2' : Nat → Nat → Int → Int → kzM → Option (Int × kzM)} {k2 : Nat → Nat → Int32 → Int32 → kdM → Option (Int32 × kdM)} (hk2 : ∀ (a0 : Nat) (a1 : Nat) (a2 : Int) (_ : kzI a2) (a3 : Int) (_ : kzI a3), CRi (k2' a0 a1 a2 a3) (k2 a0 a1 (Int32.ofInt a2) (Int32.ofInt a3))) (l0 : Nat) (l1 : Nat) {l2 : Int} (hl2 : kzI l2) {l3 : Int} (hl3 : kzI l3) : CRi (Z3_ranked_2B G k2' l0 l1 l2 l3) (X3_ranked_2B G k2 l0 l1 (Int32.ofInt l2) (Int32.ofInt l3)) := by
  unfold Z3_ranked_2B X3_ranked_2B
  exact c_gI rfl (fun t1 ht1 => c_cnd (kz_le ht1 hl3 rfl rfl) (c_rt (by unfold kzI; omega) rfl) ((qX3_ranked_16 hG hk2 l0 l1 _ hl2 _ hl3 _ (by unfold kzI; omega) _ (by unfold kzI; omega))))
def Z3_ranked_2 (G : kdS) : Nat → Nat → Int → Int → kzM → Option (Int × kzM) := lp (fun _ _ _ _ _ => none) (Z3_ranked_2B G) NN
theorem qX3_ranked_2 {G : kdS} (hG : kzG G) : ∀ (a0 : Nat) (a1 : Nat) (a2 : Int) (_ : kzI a2) (a3 : Int) (_ : kzI a3), CRi (Z3_ranked_2 G a0 a1 a2 a3) (X3_ranked_2 G a0 a1 (Int32.ofInt a2) (Int32.ofInt a3)) :=
  lp_rel (R := fun (f' : Nat → Nat → Int → Int → kzM → Option (Int × kzM)) (f : Nat → Nat → Int32 → Int32 → kdM → Option (Int32 × kdM)) => ∀ (a0 : Nat) (a1 : Nat) (a2 : Int) (_ : kzI a2) (a3 : Int) (_ : kzI a3), CRi (f' a0 a1 a2 a3) (f a0 a1 (Int32.ofInt a2) (Int32.ofInt a3))) (by intros; exact c_no) (fun _ _ hf a0 a1 a2 ha2 a3 ha3 => qX3_ranked_2B hG hf a0 a1 ha2 ha3) NN
def Z3_ranked (G : kdS) (l0 : Nat) (l1 : Nat) (l2 : Int) : kzM → Option (Int × kzM) :=
  Z3_ranked_2 G l0 l1 l2 (0 : Int)
theorem qX3_ranked {G : kdS} (hG : kzG G) (l0 : Nat) (l1 : Nat) {l2 : Int} (hl2 : kzI l2) : CRi (Z3_ranked G l0 l1 l2) (X3_ranked G l0 l1 (Int32.ofInt l2)) := by
  unfold Z3_ranked X3_ranked
  exact (qX3_ranked_2 hG l0 l1 _ hl2 _ (by unfold kzI; omega))
def Z3_lowerBound_69 (G : kdS) (k4 : Nat → Int → Int → kzM → Option (Int × kzM)) (k43 : Nat → Int → Int → Int → kzM → Option (Int × kzM)) (l0 : Nat) (l2 : Int) (l3 : Int) (s0 : Int) (s1 : Int) : kzM → Option (Int × kzM) :=
  zlI (s0 + s1) fun t1 =>
  zlI (l3 + (1 : Int)) fun t2 =>
  k43 l0 t1 l2 t2
theorem qX3_lowerBound_69 {G : kdS} (hG : kzG G) {k4' : Nat → Int → Int → kzM → Option (Int × kzM)} {k4 : Nat → Int32 → Int32 → kdM → Option (Int32 × kdM)} (hk4 : ∀ (a0 : Nat) (a1 : Int) (_ : kzI a1) (a2 : Int) (_ : kzI a2), CRi (k4' a0 a1 a2) (k4 a0 (Int32.ofInt a1) (Int32.ofInt a2))) {k43' : Nat → Int → Int → Int → kzM → Option (Int × kzM)} {k43 : Nat → Int32 → Int32 → Int32 → kdM → Option (Int32 × kdM)} (hk43 : ∀ (a0 : Nat) (a1 : Int) (_ : kzI a1) (a2 : Int) (_ : kzI a2) (a3 : Int) (_ : kzI a3), CRi (k43' a0 a1 a2 a3) (k43 a0 (Int32.ofInt a1) (Int32.ofInt a2) (Int32.ofInt a3))) (l0 : Nat) {l2 : Int} (hl2 : kzI l2) {l3 : Int} (hl3 : kzI l3) {s0 : Int} (hs0 : kzI s0) {s1 : Int} (hs1 : kzI s1) : CRi (Z3_lowerBound_69 G k4' k43' l0 l2 l3 s0 s1) (X3_lowerBound_69 G k4 k43 l0 (Int32.ofInt l2) (Int32.ofInt l3) (Int32.ofInt s0) (Int32.ofInt s1)) := by
  unfold Z3_lowerBound_69 X3_lowerBound_69
  exact c_lI (kz_add rfl rfl) (fun t1 ht1 => c_lI (kz_add rfl rfl) (fun t2 ht2 => (hk43 l0 _ ht1 _ hl2 _ ht2)))
def Z3_lowerBound_43B (G : kdS) (k4 : Nat → Int → Int → kzM → Option (Int × kzM)) (k43 : Nat → Int → Int → Int → kzM → Option (Int × kzM)) (l0 : Nat) (l1 : Int) (l2 : Int) (l3 : Int) : kzM → Option (Int × kzM) :=
  zgI G 3 0 l0 fun t1 =>
  zcnd (t1 ≤ l3)
  (zlI (l2 + (1 : Int)) fun t2 =>
  k4 l0 l1 t2)
  (zcnd (l2 = l3)
  (Z3_lowerBound_69 G k4 k43 l0 l2 l3 l1 (0 : Int))
  (zgR G 3 4 l0 fun t3 =>
  zaR G 18 t3 l2 fun t4 =>
  zaI G t4 l3 fun t5 =>
  Z3_lowerBound_69 G k4 k43 l0 l2 l3 l1 t5))
theorem qX3_lowerBound_43B {G : kdS} (hG : kzG G) {k4' : Nat → Int → Int → kzM → Option (Int × kzM)} {k4 : Nat → Int32 → Int32 → kdM → Option (Int32 × kdM)} (hk4 : ∀ (a0 : Nat) (a1 : Int) (_ : kzI a1) (a2 : Int) (_ : kzI a2), CRi (k4' a0 a1 a2) (k4 a0 (Int32.ofInt a1) (Int32.ofInt a2))) {k43' : Nat → Int → Int → Int → kzM → Option (Int × kzM)} {k43 : Nat → Int32 → Int32 → Int32 → kdM → Option (Int32 × kdM)} (hk43 : ∀ (a0 : Nat) (a1 : Int) (_ : kzI a1) (a2 : Int) (_ : kzI a2) (a3 : Int) (_ : kzI a3), CRi (k43' a0 a1 a2 a3) (k43 a0 (Int32.ofInt a1) (Int32.ofInt a2) (Int32.ofInt a3))) (l0 : Nat) {l1 : Int} (hl1 : kzI l1) {l2 : Int} (hl2 : kzI l2) {l3 : Int} (hl3 : kzI l3) : CRi (Z3_lowerBound_43B G k4' k43' l0 l1 l2 l3) (X3_lowerBound_43B G k4 k43 l0 (Int32.ofInt l1) (Int32.ofInt l2) (Int32.ofInt l3)) := by
  unfold Z3_lowerBound_43B X3_lowerBound_43B
  exact c_gI rfl (fun t1 ht1 => c_cnd (kz_le ht1 hl3 rfl rfl) (c_lI (kz_add rfl rfl) (fun t2 ht2 => (hk4 l0 _ hl1 _ ht2))) (c_cnd (kz_eq hl2 hl3 rfl rfl) ((qX3_lowerBound_69 hG hk4 hk43 l0 hl2 hl3 hl1 (by unfold kzI; omega))) (c_gR (fun t3 => c_aR hG rfl (fun t4 => c_aI hG rfl (fun t5 ht5 => (qX3_lowerBound_69 hG hk4 hk43 l0 hl2 hl3 hl1 ht5)))))))
def Z3_lowerBound_43 (G : kdS) (k4 : Nat → Int → Int → kzM → Option (Int × kzM)) : Nat → Int → Int → Int → kzM → Option (Int × kzM) := lp (fun _ _ _ _ _ => none) (Z3_lowerBound_43B G k4) NN
theorem qX3_lowerBound_43 {G : kdS} (hG : kzG G) {k4' : Nat → Int → Int → kzM → Option (Int × kzM)} {k4 : Nat → Int32 → Int32 → kdM → Option (Int32 × kdM)} (hk4 : ∀ (a0 : Nat) (a1 : Int) (_ : kzI a1) (a2 : Int) (_ : kzI a2), CRi (k4' a0 a1 a2) (k4 a0 (Int32.ofInt a1) (Int32.ofInt a2))) : ∀ (a0 : Nat) (a1 : Int) (_ : kzI a1) (a2 : Int) (_ : kzI a2) (a3 : Int) (_ : kzI a3), CRi (Z3_lowerBound_43 G k4' a0 a1 a2 a3) (X3_lowerBound_43 G k4 a0 (Int32.ofInt a1) (Int32.ofInt a2) (Int32.ofInt a3)) :=
  lp_rel (R := fun (f' : Nat → Int → Int → Int → kzM → Option (Int × kzM)) (f : Nat → Int32 → Int32 → Int32 → kdM → Option (Int32 × kdM)) => ∀ (a0 : Nat) (a1 : Int) (_ : kzI a1) (a2 : Int) (_ : kzI a2) (a3 : Int) (_ : kzI a3), CRi (f' a0 a1 a2 a3) (f a0 (Int32.ofInt a1) (Int32.ofInt a2) (Int32.ofInt a3))) (by intros; exact c_no) (fun _ _ hf a0 a1 ha1 a2 ha2 a3 ha3 => qX3_lowerBound_43B hG hk4 hf a0 ha1 ha2 ha3) NN
def Z3_lowerBound_4B (G : kdS) (k4 : Nat → Int → Int → kzM → Option (Int × kzM)) (l0 : Nat) (l1 : Int) (l2 : Int) : kzM → Option (Int × kzM) :=
  zgI G 3 0 l0 fun t1 =>
  zcnd (t1 ≤ l2)
  (zrt l1)
  (zgR G 3 3 l0 fun t2 =>
  zgI G 3 0 l0 fun t3 =>
  zlI ((t3 - (1 : Int)) - l2) fun u1 =>
  zcv G 3 l0 (Z3_ranked G l0 t2 u1) fun t4 =>
  zgR G 3 1 l0 fun t5 =>
  zcv G 3 l0 (Z3_ranked G l0 t5 l2) fun t6 =>
  zlI (l1 + (t4 * t6)) fun t7 =>
  Z3_lowerBound_43 G k4 l0 t7 l2 (0 : Int))
theorem qX3_lowerBound_4B {G : kdS} (hG : kzG G) {k4' : Nat → Int → Int → kzM → Option (Int × kzM)} {k4 : Nat → Int32 → Int32 → kdM → Option (Int32 × kdM)} (hk4 : ∀ (a0 : Nat) (a1 : Int) (_ : kzI a1) (a2 : Int) (_ : kzI a2), CRi (k4' a0 a1 a2) (k4 a0 (Int32.ofInt a1) (Int32.ofInt a2))) (l0 : Nat) {l1 : Int} (hl1 : kzI l1) {l2 : Int} (hl2 : kzI l2) : CRi (Z3_lowerBound_4B G k4' l0 l1 l2) (X3_lowerBound_4B G k4 l0 (Int32.ofInt l1) (Int32.ofInt l2)) := by
  unfold Z3_lowerBound_4B X3_lowerBound_4B
  exact c_gI rfl (fun t1 ht1 => c_cnd (kz_le ht1 hl2 rfl rfl) (c_rt hl1 rfl) (c_gR (fun t2 => c_gI rfl (fun t3 ht3 => c_rg (kz_sub (kz_sub rfl rfl) rfl) fun u1 r1 e1 => c_cv (e1 ▸ (qX3_ranked hG l0 t2 r1)) (fun t4 ht4 => c_gR (fun t5 => c_cv (qX3_ranked hG l0 t5 hl2) (fun t6 ht6 => c_lI (kz_add rfl (kz_mul rfl rfl)) (fun t7 ht7 => (qX3_lowerBound_43 hG hk4 l0 _ ht7 _ hl2 _ (by unfold kzI; omega))))))))))
def Z3_lowerBound_4 (G : kdS) : Nat → Int → Int → kzM → Option (Int × kzM) := lp (fun _ _ _ _ => none) (Z3_lowerBound_4B G) NN
theorem qX3_lowerBound_4 {G : kdS} (hG : kzG G) : ∀ (a0 : Nat) (a1 : Int) (_ : kzI a1) (a2 : Int) (_ : kzI a2), CRi (Z3_lowerBound_4 G a0 a1 a2) (X3_lowerBound_4 G a0 (Int32.ofInt a1) (Int32.ofInt a2)) :=
  lp_rel (R := fun (f' : Nat → Int → Int → kzM → Option (Int × kzM)) (f : Nat → Int32 → Int32 → kdM → Option (Int32 × kdM)) => ∀ (a0 : Nat) (a1 : Int) (_ : kzI a1) (a2 : Int) (_ : kzI a2), CRi (f' a0 a1 a2) (f a0 (Int32.ofInt a1) (Int32.ofInt a2))) (by intros; exact c_no) (fun _ _ hf a0 a1 ha1 a2 ha2 => qX3_lowerBound_4B hG hf a0 ha1 ha2) NN
def Z3_lowerBound (G : kdS) (l0 : Nat) : kzM → Option (Int × kzM) :=
  Z3_lowerBound_4 G l0 (0 : Int) (0 : Int)
theorem qX3_lowerBound {G : kdS} (hG : kzG G) (l0 : Nat) : CRi (Z3_lowerBound G l0) (X3_lowerBound G l0) := by
  unfold Z3_lowerBound X3_lowerBound
  exact (qX3_lowerBound_4 hG l0 _ (by unfold kzI; omega) _ (by unfold kzI; omega))
def Z3_improveOnce_73 (G : kdS) (k12 : Nat → Int → Int → Int → Int → kzM → Option (Int × kzM)) (k27 : Nat → Int → Int → Int → Int → Int → kzM → Option (Int × kzM)) (l0 : Nat) (l1 : Int) (l2 : Int) (l3 : Int) (l4 : Int) (l5 : Int) : kzM → Option (Int × kzM) :=
  zlI (l5 + (1 : Int)) fun t1 =>
  k27 l0 l1 l2 l3 l4 t1
theorem qX3_improveOnce_73 {G : kdS} (hG : kzG G) {k12' : Nat → Int → Int → Int → Int → kzM → Option (Int × kzM)} {k12 : Nat → Int32 → Int32 → Int32 → Int32 → kdM → Option (Int32 × kdM)} (hk12 : ∀ (a0 : Nat) (a1 : Int) (_ : kzI a1) (a2 : Int) (_ : kzI a2) (a3 : Int) (_ : kzI a3) (a4 : Int) (_ : kzI a4), CRi (k12' a0 a1 a2 a3 a4) (k12 a0 (Int32.ofInt a1) (Int32.ofInt a2) (Int32.ofInt a3) (Int32.ofInt a4))) {k27' : Nat → Int → Int → Int → Int → Int → kzM → Option (Int × kzM)} {k27 : Nat → Int32 → Int32 → Int32 → Int32 → Int32 → kdM → Option (Int32 × kdM)} (hk27 : ∀ (a0 : Nat) (a1 : Int) (_ : kzI a1) (a2 : Int) (_ : kzI a2) (a3 : Int) (_ : kzI a3) (a4 : Int) (_ : kzI a4) (a5 : Int) (_ : kzI a5), CRi (k27' a0 a1 a2 a3 a4 a5) (k27 a0 (Int32.ofInt a1) (Int32.ofInt a2) (Int32.ofInt a3) (Int32.ofInt a4) (Int32.ofInt a5))) (l0 : Nat) {l1 : Int} (hl1 : kzI l1) {l2 : Int} (hl2 : kzI l2) {l3 : Int} (hl3 : kzI l3) {l4 : Int} (hl4 : kzI l4) {l5 : Int} (hl5 : kzI l5) : CRi (Z3_improveOnce_73 G k12' k27' l0 l1 l2 l3 l4 l5) (X3_improveOnce_73 G k12 k27 l0 (Int32.ofInt l1) (Int32.ofInt l2) (Int32.ofInt l3) (Int32.ofInt l4) (Int32.ofInt l5)) := by
  unfold Z3_improveOnce_73 X3_improveOnce_73
  exact c_lI (kz_add rfl rfl) (fun t1 ht1 => (hk27 l0 _ hl1 _ hl2 _ hl3 _ hl4 _ ht1))
def Z3_improveOnce_27B (G : kdS) (k12 : Nat → Int → Int → Int → Int → kzM → Option (Int × kzM)) (k27 : Nat → Int → Int → Int → Int → Int → kzM → Option (Int × kzM)) (l0 : Nat) (l1 : Int) (l2 : Int) (l3 : Int) (l4 : Int) (l5 : Int) : kzM → Option (Int × kzM) :=
  zgI G 3 0 l0 fun t1 =>
  zcnd (t1 ≤ l5)
  (zlI (l4 + (1 : Int)) fun t2 =>
  k12 l0 l1 l2 l3 t2)
  (zcv G 3 l0 (Z3_exchange G l0 l4 l5) fun _ =>
  zcv G 3 l0 (Z3_totalCost G l0) fun t3 =>
  zcv G 3 l0 (Z3_exchange G l0 l4 l5) fun _ =>
  zcnd (l1 ≤ t3)
  (Z3_improveOnce_73 G k12 k27 l0 l1 l2 l3 l4 l5)
  (Z3_improveOnce_73 G k12 k27 l0 t3 l4 l5 l4 l5))
theorem qX3_improveOnce_27B {G : kdS} (hG : kzG G) {k12' : Nat → Int → Int → Int → Int → kzM → Option (Int × kzM)} {k12 : Nat → Int32 → Int32 → Int32 → Int32 → kdM → Option (Int32 × kdM)} (hk12 : ∀ (a0 : Nat) (a1 : Int) (_ : kzI a1) (a2 : Int) (_ : kzI a2) (a3 : Int) (_ : kzI a3) (a4 : Int) (_ : kzI a4), CRi (k12' a0 a1 a2 a3 a4) (k12 a0 (Int32.ofInt a1) (Int32.ofInt a2) (Int32.ofInt a3) (Int32.ofInt a4))) {k27' : Nat → Int → Int → Int → Int → Int → kzM → Option (Int × kzM)} {k27 : Nat → Int32 → Int32 → Int32 → Int32 → Int32 → kdM → Option (Int32 × kdM)} (hk27 : ∀ (a0 : Nat) (a1 : Int) (_ : kzI a1) (a2 : Int) (_ : kzI a2) (a3 : Int) (_ : kzI a3) (a4 : Int) (_ : kzI a4) (a5 : Int) (_ : kzI a5), CRi (k27' a0 a1 a2 a3 a4 a5) (k27 a0 (Int32.ofInt a1) (Int32.ofInt a2) (Int32.ofInt a3) (Int32.ofInt a4) (Int32.ofInt a5))) (l0 : Nat) {l1 : Int} (hl1 : kzI l1) {l2 : Int} (hl2 : kzI l2) {l3 : Int} (hl3 : kzI l3) {l4 : Int} (hl4 : kzI l4) {l5 : Int} (hl5 : kzI l5) : CRi (Z3_improveOnce_27B G k12' k27' l0 l1 l2 l3 l4 l5) (X3_improveOnce_27B G k12 k27 l0 (Int32.ofInt l1) (Int32.ofInt l2) (Int32.ofInt l3) (Int32.ofInt l4) (Int32.ofInt l5)) := by
  unfold Z3_improveOnce_27B X3_improveOnce_27B
  exact c_gI rfl (fun t1 ht1 => c_cnd (kz_le ht1 hl5 rfl rfl) (c_lI (kz_add rfl rfl) (fun t2 ht2 => (hk12 l0 _ hl1 _ hl2 _ hl3 _ ht2))) (c_cv (qX3_exchange hG l0 hl4 hl5) (fun _ _ => c_cv (qX3_totalCost hG l0) (fun t3 ht3 => c_cv (qX3_exchange hG l0 hl4 hl5) (fun _ _ => c_cnd (kz_le hl1 ht3 rfl rfl) ((qX3_improveOnce_73 hG hk12 hk27 l0 hl1 hl2 hl3 hl4 hl5)) ((qX3_improveOnce_73 hG hk12 hk27 l0 ht3 hl4 hl5 hl4 hl5)))))))
def Z3_improveOnce_27 (G : kdS) (k12 : Nat → Int → Int → Int → Int → kzM → Option (Int × kzM)) : Nat → Int → Int → Int → Int → Int → kzM → Option (Int × kzM) := lp (fun _ _ _ _ _ _ _ => none) (Z3_improveOnce_27B G k12) NN
theorem qX3_improveOnce_27 {G : kdS} (hG : kzG G) {k12' : Nat → Int → Int → Int → Int → kzM → Option (Int × kzM)} {k12 : Nat → Int32 → Int32 → Int32 → Int32 → kdM → Option (Int32 × kdM)} (hk12 : ∀ (a0 : Nat) (a1 : Int) (_ : kzI a1) (a2 : Int) (_ : kzI a2) (a3 : Int) (_ : kzI a3) (a4 : Int) (_ : kzI a4), CRi (k12' a0 a1 a2 a3 a4) (k12 a0 (Int32.ofInt a1) (Int32.ofInt a2) (Int32.ofInt a3) (Int32.ofInt a4))) : ∀ (a0 : Nat) (a1 : Int) (_ : kzI a1) (a2 : Int) (_ : kzI a2) (a3 : Int) (_ : kzI a3) (a4 : Int) (_ : kzI a4) (a5 : Int) (_ : kzI a5), CRi (Z3_improveOnce_27 G k12' a0 a1 a2 a3 a4 a5) (X3_improveOnce_27 G k12 a0 (Int32.ofInt a1) (Int32.ofInt a2) (Int32.ofInt a3) (Int32.ofInt a4) (Int32.ofInt a5)) :=
  lp_rel (R := fun (f' : Nat → Int → Int → Int → Int → Int → kzM → Option (Int × kzM)) (f : Nat → Int32 → Int32 → Int32 → Int32 → Int32 → kdM → Option (Int32 × kdM)) => ∀ (a0 : Nat) (a1 : Int) (_ : kzI a1) (a2 : Int) (_ : kzI a2) (a3 : Int) (_ : kzI a3) (a4 : Int) (_ : kzI a4) (a5 : Int) (_ : kzI a5), CRi (f' a0 a1 a2 a3 a4 a5) (f a0 (Int32.ofInt a1) (Int32.ofInt a2) (Int32.ofInt a3) (Int32.ofInt a4) (Int32.ofInt a5))) (by intros; exact c_no) (fun _ _ hf a0 a1 ha1 a2 ha2 a3 ha3 a4 ha4 a5 ha5 => qX3_improveOnce_27B hG hk12 hf a0 ha1 ha2 ha3 ha4 ha5) NN
def Z3_improveOnce_12B (G : kdS) (k12 : Nat → Int → Int → Int → Int → kzM → Option (Int × kzM)) (l0 : Nat) (l1 : Int) (l2 : Int) (l3 : Int) (l4 : Int) : kzM → Option (Int × kzM) :=
  zgI G 3 0 l0 fun t1 =>
  zcnd (t1 ≤ l4)
  (zcnd (l2 = (-1 : Int))
  (zrt (zB (0 : Int)))
  (zcv G 3 l0 (Z3_exchange G l0 l2 l3) fun _ =>
  zrt (zB (1 : Int))))
  (zlI (l4 + (1 : Int)) fun t2 =>
  Z3_improveOnce_27 G k12 l0 l1 l2 l3 l4 t2)
theorem qX3_improveOnce_12B {G : kdS} (hG : kzG G) {k12' : Nat → Int → Int → Int → Int → kzM → Option (Int × kzM)} {k12 : Nat → Int32 → Int32 → Int32 → Int32 → kdM → Option (Int32 × kdM)} (hk12 : ∀ (a0 : Nat) (a1 : Int) (_ : kzI a1) (a2 : Int) (_ : kzI a2) (a3 : Int) (_ : kzI a3) (a4 : Int) (_ : kzI a4), CRi (k12' a0 a1 a2 a3 a4) (k12 a0 (Int32.ofInt a1) (Int32.ofInt a2) (Int32.ofInt a3) (Int32.ofInt a4))) (l0 : Nat) {l1 : Int} (hl1 : kzI l1) {l2 : Int} (hl2 : kzI l2) {l3 : Int} (hl3 : kzI l3) {l4 : Int} (hl4 : kzI l4) : CRi (Z3_improveOnce_12B G k12' l0 l1 l2 l3 l4) (X3_improveOnce_12B G k12 l0 (Int32.ofInt l1) (Int32.ofInt l2) (Int32.ofInt l3) (Int32.ofInt l4)) := by
  unfold Z3_improveOnce_12B X3_improveOnce_12B
  exact c_gI rfl (fun t1 ht1 => c_cnd (kz_le ht1 hl4 rfl rfl) (c_cnd (kz_eq hl2 (by unfold kzI; omega) rfl rfl) (c_rt (kz_BI _) (kz_B rfl)) (c_cv (qX3_exchange hG l0 hl2 hl3) (fun _ _ => c_rt (kz_BI _) (kz_B rfl)))) (c_lI (kz_add rfl rfl) (fun t2 ht2 => (qX3_improveOnce_27 hG hk12 l0 _ hl1 _ hl2 _ hl3 _ hl4 _ ht2))))
def Z3_improveOnce_12 (G : kdS) : Nat → Int → Int → Int → Int → kzM → Option (Int × kzM) := lp (fun _ _ _ _ _ _ => none) (Z3_improveOnce_12B G) NN
theorem qX3_improveOnce_12 {G : kdS} (hG : kzG G) : ∀ (a0 : Nat) (a1 : Int) (_ : kzI a1) (a2 : Int) (_ : kzI a2) (a3 : Int) (_ : kzI a3) (a4 : Int) (_ : kzI a4), CRi (Z3_improveOnce_12 G a0 a1 a2 a3 a4) (X3_improveOnce_12 G a0 (Int32.ofInt a1) (Int32.ofInt a2) (Int32.ofInt a3) (Int32.ofInt a4)) :=
  lp_rel (R := fun (f' : Nat → Int → Int → Int → Int → kzM → Option (Int × kzM)) (f : Nat → Int32 → Int32 → Int32 → Int32 → kdM → Option (Int32 × kdM)) => ∀ (a0 : Nat) (a1 : Int) (_ : kzI a1) (a2 : Int) (_ : kzI a2) (a3 : Int) (_ : kzI a3) (a4 : Int) (_ : kzI a4), CRi (f' a0 a1 a2 a3 a4) (f a0 (Int32.ofInt a1) (Int32.ofInt a2) (Int32.ofInt a3) (Int32.ofInt a4))) (by intros; exact c_no) (fun _ _ hf a0 a1 ha1 a2 ha2 a3 ha3 a4 ha4 => qX3_improveOnce_12B hG hf a0 ha1 ha2 ha3 ha4) NN
def Z3_improveOnce (G : kdS) (l0 : Nat) : kzM → Option (Int × kzM) :=
  zcv G 3 l0 (Z3_totalCost G l0) fun t1 =>
  Z3_improveOnce_12 G l0 t1 (-1 : Int) (-1 : Int) (0 : Int)
theorem qX3_improveOnce {G : kdS} (hG : kzG G) (l0 : Nat) : CRi (Z3_improveOnce G l0) (X3_improveOnce G l0) := by
  unfold Z3_improveOnce X3_improveOnce
  exact c_cv (qX3_totalCost hG l0) (fun t1 ht1 => (qX3_improveOnce_12 hG l0 _ ht1 _ (by unfold kzI; omega) _ (by unfold kzI; omega) _ (by unfold kzI; omega)))
def Z3_improve_22 (G : kdS) (l1 : Int) : kzM → Option (Int × kzM) :=
  zrt l1
theorem qX3_improve_22 {G : kdS} (hG : kzG G) {l1 : Int} (hl1 : kzI l1) : CRi (Z3_improve_22 G l1) (X3_improve_22 G (Int32.ofInt l1)) := by
  unfold Z3_improve_22 X3_improve_22
  exact c_rt hl1 rfl
def Z3_improve_2B (G : kdS) (k2 : Nat → Int → kzM → Option (Int × kzM)) (l0 : Nat) (l1 : Int) : kzM → Option (Int × kzM) :=
  zcnd ((5040 : Int) ≤ l1)
  (Z3_improve_22 G l1)
  (zcv G 3 l0 (Z3_improveOnce G l0) fun t1 =>
  zcnd (t1 = (0 : Int))
  (Z3_improve_22 G l1)
  (zlI (l1 + (1 : Int)) fun t2 =>
  k2 l0 t2))
theorem qX3_improve_2B {G : kdS} (hG : kzG G) {k2' : Nat → Int → kzM → Option (Int × kzM)} {k2 : Nat → Int32 → kdM → Option (Int32 × kdM)} (hk2 : ∀ (a0 : Nat) (a1 : Int) (_ : kzI a1), CRi (k2' a0 a1) (k2 a0 (Int32.ofInt a1))) (l0 : Nat) {l1 : Int} (hl1 : kzI l1) : CRi (Z3_improve_2B G k2' l0 l1) (X3_improve_2B G k2 l0 (Int32.ofInt l1)) := by
  unfold Z3_improve_2B X3_improve_2B
  exact c_cnd (kz_le (by unfold kzI; omega) hl1 rfl rfl) ((qX3_improve_22 hG hl1)) (c_cv (qX3_improveOnce hG l0) (fun t1 ht1 => c_cnd (kz_eq ht1 (by unfold kzI; omega) rfl rfl) ((qX3_improve_22 hG hl1)) (c_lI (kz_add rfl rfl) (fun t2 ht2 => (hk2 l0 _ ht2)))))
def Z3_improve_2 (G : kdS) : Nat → Int → kzM → Option (Int × kzM) := lp (fun _ _ _ => none) (Z3_improve_2B G) NN
theorem qX3_improve_2 {G : kdS} (hG : kzG G) : ∀ (a0 : Nat) (a1 : Int) (_ : kzI a1), CRi (Z3_improve_2 G a0 a1) (X3_improve_2 G a0 (Int32.ofInt a1)) :=
  lp_rel (R := fun (f' : Nat → Int → kzM → Option (Int × kzM)) (f : Nat → Int32 → kdM → Option (Int32 × kdM)) => ∀ (a0 : Nat) (a1 : Int) (_ : kzI a1), CRi (f' a0 a1) (f a0 (Int32.ofInt a1))) (by intros; exact c_no) (fun _ _ hf a0 a1 ha1 => qX3_improve_2B hG hf a0 ha1) NN
def Z3_improve (G : kdS) (l0 : Nat) : kzM → Option (Int × kzM) :=
  Z3_improve_2 G l0 (0 : Int)
theorem qX3_improve {G : kdS} (hG : kzG G) (l0 : Nat) : CRi (Z3_improve G l0) (X3_improve G l0) := by
  unfold Z3_improve X3_improve
  exact (qX3_improve_2 hG l0 _ (by unfold kzI; omega))
def Z3_startAtFirst_2B (G : kdS) (k2 : Nat → Int → kzM → Option (Unit × kzM)) (l0 : Nat) (l1 : Int) : kzM → Option (Unit × kzM) :=
  zgI G 3 0 l0 fun t1 =>
  zcnd (t1 ≤ l1)
  (zrt ())
  (zgR G 3 6 l0 fun t2 =>
  ztI G t2 l1 l1 <|
  zlI (l1 + (1 : Int)) fun t3 =>
  k2 l0 t3)
theorem qX3_startAtFirst_2B {G : kdS} (hG : kzG G) {k2' : Nat → Int → kzM → Option (Unit × kzM)} {k2 : Nat → Int32 → kdM → Option (Unit × kdM)} (hk2 : ∀ (a0 : Nat) (a1 : Int) (_ : kzI a1), CRu (k2' a0 a1) (k2 a0 (Int32.ofInt a1))) (l0 : Nat) {l1 : Int} (hl1 : kzI l1) : CRu (Z3_startAtFirst_2B G k2' l0 l1) (X3_startAtFirst_2B G k2 l0 (Int32.ofInt l1)) := by
  unfold Z3_startAtFirst_2B X3_startAtFirst_2B
  exact c_gI rfl (fun t1 ht1 => c_cnd (kz_le ht1 hl1 rfl rfl) (c_rt trivial rfl) (c_gR (fun t2 => c_tI hG rfl hl1 rfl (c_lI (kz_add rfl rfl) (fun t3 ht3 => (hk2 l0 _ ht3))))))
def Z3_startAtFirst_2 (G : kdS) : Nat → Int → kzM → Option (Unit × kzM) := lp (fun _ _ _ => none) (Z3_startAtFirst_2B G) NN
theorem qX3_startAtFirst_2 {G : kdS} (hG : kzG G) : ∀ (a0 : Nat) (a1 : Int) (_ : kzI a1), CRu (Z3_startAtFirst_2 G a0 a1) (X3_startAtFirst_2 G a0 (Int32.ofInt a1)) :=
  lp_rel (R := fun (f' : Nat → Int → kzM → Option (Unit × kzM)) (f : Nat → Int32 → kdM → Option (Unit × kdM)) => ∀ (a0 : Nat) (a1 : Int) (_ : kzI a1), CRu (f' a0 a1) (f a0 (Int32.ofInt a1))) (by intros; exact c_no) (fun _ _ hf a0 a1 ha1 => qX3_startAtFirst_2B hG hf a0 ha1) NN
def Z3_startAtFirst (G : kdS) (l0 : Nat) : kzM → Option (Unit × kzM) :=
  Z3_startAtFirst_2 G l0 (0 : Int)
theorem qX3_startAtFirst {G : kdS} (hG : kzG G) (l0 : Nat) : CRu (Z3_startAtFirst G l0) (X3_startAtFirst G l0) := by
  unfold Z3_startAtFirst X3_startAtFirst
  exact (qX3_startAtFirst_2 hG l0 _ (by unfold kzI; omega))
def Z3_stepOn_91B (G : kdS) (k91 : Nat → Int → Int → kzM → Option (Int × kzM)) (l0 : Nat) (l3 : Int) (l4 : Int) : kzM → Option (Int × kzM) :=
  zcnd (l4 ≤ l3)
  (zrt (zB (1 : Int)))
  (zcv G 3 l0 (Z3_exchange G l0 l3 l4) fun _ =>
  zlI (l3 + (1 : Int)) fun t1 =>
  zlI (l4 + (-1 : Int)) fun t2 =>
  k91 l0 t1 t2)
theorem qX3_stepOn_91B {G : kdS} (hG : kzG G) {k91' : Nat → Int → Int → kzM → Option (Int × kzM)} {k91 : Nat → Int32 → Int32 → kdM → Option (Int32 × kdM)} (hk91 : ∀ (a0 : Nat) (a1 : Int) (_ : kzI a1) (a2 : Int) (_ : kzI a2), CRi (k91' a0 a1 a2) (k91 a0 (Int32.ofInt a1) (Int32.ofInt a2))) (l0 : Nat) {l3 : Int} (hl3 : kzI l3) {l4 : Int} (hl4 : kzI l4) : CRi (Z3_stepOn_91B G k91' l0 l3 l4) (X3_stepOn_91B G k91 l0 (Int32.ofInt l3) (Int32.ofInt l4)) := by
  unfold Z3_stepOn_91B X3_stepOn_91B
  exact c_cnd (kz_le hl4 hl3 rfl rfl) (c_rt (kz_BI _) (kz_B rfl)) (c_cv (qX3_exchange hG l0 hl3 hl4) (fun _ _ => c_lI (kz_add rfl rfl) (fun t1 ht1 => c_lI (kz_add rfl rfl) (fun t2 ht2 => (hk91 l0 _ ht1 _ ht2)))))
def Z3_stepOn_91 (G : kdS) : Nat → Int → Int → kzM → Option (Int × kzM) := lp (fun _ _ _ _ => none) (Z3_stepOn_91B G) NN
theorem qX3_stepOn_91 {G : kdS} (hG : kzG G) : ∀ (a0 : Nat) (a1 : Int) (_ : kzI a1) (a2 : Int) (_ : kzI a2), CRi (Z3_stepOn_91 G a0 a1 a2) (X3_stepOn_91 G a0 (Int32.ofInt a1) (Int32.ofInt a2)) :=
  lp_rel (R := fun (f' : Nat → Int → Int → kzM → Option (Int × kzM)) (f : Nat → Int32 → Int32 → kdM → Option (Int32 × kdM)) => ∀ (a0 : Nat) (a1 : Int) (_ : kzI a1) (a2 : Int) (_ : kzI a2), CRi (f' a0 a1 a2) (f a0 (Int32.ofInt a1) (Int32.ofInt a2))) (by intros; exact c_no) (fun _ _ hf a0 a1 ha1 a2 ha2 => qX3_stepOn_91B hG hf a0 ha1 ha2) NN
def Z3_stepOn_73 (G : kdS) (l0 : Nat) (l1 : Int) (l2 : Int) : kzM → Option (Int × kzM) :=
  zcv G 3 l0 (Z3_exchange G l0 l1 l2) fun _ =>
  zlI (l1 + (1 : Int)) fun t1 =>
  zgI G 3 0 l0 fun t2 =>
  zlI (t2 - (1 : Int)) fun t3 =>
  Z3_stepOn_91 G l0 t1 t3
theorem qX3_stepOn_73 {G : kdS} (hG : kzG G) (l0 : Nat) {l1 : Int} (hl1 : kzI l1) {l2 : Int} (hl2 : kzI l2) : CRi (Z3_stepOn_73 G l0 l1 l2) (X3_stepOn_73 G l0 (Int32.ofInt l1) (Int32.ofInt l2)) := by
  unfold Z3_stepOn_73 X3_stepOn_73
  exact c_cv (qX3_exchange hG l0 hl1 hl2) (fun _ _ => c_lI (kz_add rfl rfl) (fun t1 ht1 => c_gI rfl (fun t2 ht2 => c_lI (kz_sub rfl rfl) (fun t3 ht3 => (qX3_stepOn_91 hG l0 _ ht1 _ ht3)))))
def Z3_stepOn_47B (G : kdS) (k47 : Nat → Int → Int → kzM → Option (Int × kzM)) (l0 : Nat) (l1 : Int) (l2 : Int) : kzM → Option (Int × kzM) :=
  zcnd (l2 ≤ l1)
  (Z3_stepOn_73 G l0 l1 l2)
  (zgR G 3 6 l0 fun t1 =>
  zaI G t1 l2 fun t2 =>
  zgR G 3 6 l0 fun t3 =>
  zaI G t3 l1 fun t4 =>
  zcnd (t4 ≤ t2)
  (Z3_stepOn_73 G l0 l1 l2)
  (zlI (l2 + (-1 : Int)) fun t5 =>
  k47 l0 l1 t5))
theorem qX3_stepOn_47B {G : kdS} (hG : kzG G) {k47' : Nat → Int → Int → kzM → Option (Int × kzM)} {k47 : Nat → Int32 → Int32 → kdM → Option (Int32 × kdM)} (hk47 : ∀ (a0 : Nat) (a1 : Int) (_ : kzI a1) (a2 : Int) (_ : kzI a2), CRi (k47' a0 a1 a2) (k47 a0 (Int32.ofInt a1) (Int32.ofInt a2))) (l0 : Nat) {l1 : Int} (hl1 : kzI l1) {l2 : Int} (hl2 : kzI l2) : CRi (Z3_stepOn_47B G k47' l0 l1 l2) (X3_stepOn_47B G k47 l0 (Int32.ofInt l1) (Int32.ofInt l2)) := by
  unfold Z3_stepOn_47B X3_stepOn_47B
  exact c_cnd (kz_le hl2 hl1 rfl rfl) ((qX3_stepOn_73 hG l0 hl1 hl2)) (c_gR (fun t1 => c_aI hG rfl (fun t2 ht2 => c_gR (fun t3 => c_aI hG rfl (fun t4 ht4 => c_cnd (kz_le ht4 ht2 rfl rfl) ((qX3_stepOn_73 hG l0 hl1 hl2)) (c_lI (kz_add rfl rfl) (fun t5 ht5 => (hk47 l0 _ hl1 _ ht5))))))))
def Z3_stepOn_47 (G : kdS) : Nat → Int → Int → kzM → Option (Int × kzM) := lp (fun _ _ _ _ => none) (Z3_stepOn_47B G) NN
theorem qX3_stepOn_47 {G : kdS} (hG : kzG G) : ∀ (a0 : Nat) (a1 : Int) (_ : kzI a1) (a2 : Int) (_ : kzI a2), CRi (Z3_stepOn_47 G a0 a1 a2) (X3_stepOn_47 G a0 (Int32.ofInt a1) (Int32.ofInt a2)) :=
  lp_rel (R := fun (f' : Nat → Int → Int → kzM → Option (Int × kzM)) (f : Nat → Int32 → Int32 → kdM → Option (Int32 × kdM)) => ∀ (a0 : Nat) (a1 : Int) (_ : kzI a1) (a2 : Int) (_ : kzI a2), CRi (f' a0 a1 a2) (f a0 (Int32.ofInt a1) (Int32.ofInt a2))) (by intros; exact c_no) (fun _ _ hf a0 a1 ha1 a2 ha2 => qX3_stepOn_47B hG hf a0 ha1 ha2) NN
def Z3_stepOn_34 (G : kdS) (l0 : Nat) (l1 : Int) : kzM → Option (Int × kzM) :=
  zcnd ((0 : Int) ≤ l1)
  (zgI G 3 0 l0 fun t1 =>
  zlI (t1 - (1 : Int)) fun t2 =>
  Z3_stepOn_47 G l0 l1 t2)
  (zrt (zB (0 : Int)))
theorem qX3_stepOn_34 {G : kdS} (hG : kzG G) (l0 : Nat) {l1 : Int} (hl1 : kzI l1) : CRi (Z3_stepOn_34 G l0 l1) (X3_stepOn_34 G l0 (Int32.ofInt l1)) := by
  unfold Z3_stepOn_34 X3_stepOn_34
  exact c_cnd (kz_le (by unfold kzI; omega) hl1 rfl rfl) (c_gI rfl (fun t1 ht1 => c_lI (kz_sub rfl rfl) (fun t2 ht2 => (qX3_stepOn_47 hG l0 _ hl1 _ ht2)))) (c_rt (kz_BI _) (kz_B rfl))
def Z3_stepOn_7B (G : kdS) (k7 : Nat → Int → kzM → Option (Int × kzM)) (l0 : Nat) (l1 : Int) : kzM → Option (Int × kzM) :=
  zcnd (l1 < (0 : Int))
  (Z3_stepOn_34 G l0 l1)
  (zgR G 3 6 l0 fun t1 =>
  zaI G t1 l1 fun t2 =>
  zgR G 3 6 l0 fun t3 =>
  zaI G t3 (l1 + (1 : Int)) fun t4 =>
  zcnd (t2 ≤ t4)
  (Z3_stepOn_34 G l0 l1)
  (zlI (l1 + (-1 : Int)) fun t5 =>
  k7 l0 t5))
theorem qX3_stepOn_7B {G : kdS} (hG : kzG G) {k7' : Nat → Int → kzM → Option (Int × kzM)} {k7 : Nat → Int32 → kdM → Option (Int32 × kdM)} (hk7 : ∀ (a0 : Nat) (a1 : Int) (_ : kzI a1), CRi (k7' a0 a1) (k7 a0 (Int32.ofInt a1))) (l0 : Nat) {l1 : Int} (hl1 : kzI l1) : CRi (Z3_stepOn_7B G k7' l0 l1) (X3_stepOn_7B G k7 l0 (Int32.ofInt l1)) := by
  unfold Z3_stepOn_7B X3_stepOn_7B
  exact c_cnd (kz_lt hl1 (by unfold kzI; omega) rfl rfl) ((qX3_stepOn_34 hG l0 hl1)) (c_gR (fun t1 => c_aI hG rfl (fun t2 ht2 => c_gR (fun t3 => c_aI hG (kz_add rfl rfl) (fun t4 ht4 => c_cnd (kz_le ht2 ht4 rfl rfl) ((qX3_stepOn_34 hG l0 hl1)) (c_lI (kz_add rfl rfl) (fun t5 ht5 => (hk7 l0 _ ht5))))))))
def Z3_stepOn_7 (G : kdS) : Nat → Int → kzM → Option (Int × kzM) := lp (fun _ _ _ => none) (Z3_stepOn_7B G) NN
theorem qX3_stepOn_7 {G : kdS} (hG : kzG G) : ∀ (a0 : Nat) (a1 : Int) (_ : kzI a1), CRi (Z3_stepOn_7 G a0 a1) (X3_stepOn_7 G a0 (Int32.ofInt a1)) :=
  lp_rel (R := fun (f' : Nat → Int → kzM → Option (Int × kzM)) (f : Nat → Int32 → kdM → Option (Int32 × kdM)) => ∀ (a0 : Nat) (a1 : Int) (_ : kzI a1), CRi (f' a0 a1) (f a0 (Int32.ofInt a1))) (by intros; exact c_no) (fun _ _ hf a0 a1 ha1 => qX3_stepOn_7B hG hf a0 ha1) NN
def Z3_stepOn (G : kdS) (l0 : Nat) : kzM → Option (Int × kzM) :=
  zgI G 3 0 l0 fun t1 =>
  zlI (t1 - (2 : Int)) fun t2 =>
  Z3_stepOn_7 G l0 t2
theorem qX3_stepOn {G : kdS} (hG : kzG G) (l0 : Nat) : CRi (Z3_stepOn G l0) (X3_stepOn G l0) := by
  unfold Z3_stepOn X3_stepOn
  exact c_gI rfl (fun t1 ht1 => c_lI (kz_sub rfl rfl) (fun t2 ht2 => (qX3_stepOn_7 hG l0 _ ht2)))
def Z3_rank_50 (G : kdS) (k4 : Nat → Int → Int → kzM → Option (Int × kzM)) (k19 : Nat → Int → Int → Int → Int → kzM → Option (Int × kzM)) (l0 : Nat) (l1 : Int) (l2 : Int) (l4 : Int) (s0 : Int) (s1 : Int) : kzM → Option (Int × kzM) :=
  zlI (s0 + s1) fun t1 =>
  zlI (l4 + (1 : Int)) fun t2 =>
  k19 l0 l1 l2 t1 t2
theorem qX3_rank_50 {G : kdS} (hG : kzG G) {k4' : Nat → Int → Int → kzM → Option (Int × kzM)} {k4 : Nat → Int32 → Int32 → kdM → Option (Int32 × kdM)} (hk4 : ∀ (a0 : Nat) (a1 : Int) (_ : kzI a1) (a2 : Int) (_ : kzI a2), CRi (k4' a0 a1 a2) (k4 a0 (Int32.ofInt a1) (Int32.ofInt a2))) {k19' : Nat → Int → Int → Int → Int → kzM → Option (Int × kzM)} {k19 : Nat → Int32 → Int32 → Int32 → Int32 → kdM → Option (Int32 × kdM)} (hk19 : ∀ (a0 : Nat) (a1 : Int) (_ : kzI a1) (a2 : Int) (_ : kzI a2) (a3 : Int) (_ : kzI a3) (a4 : Int) (_ : kzI a4), CRi (k19' a0 a1 a2 a3 a4) (k19 a0 (Int32.ofInt a1) (Int32.ofInt a2) (Int32.ofInt a3) (Int32.ofInt a4))) (l0 : Nat) {l1 : Int} (hl1 : kzI l1) {l2 : Int} (hl2 : kzI l2) {l4 : Int} (hl4 : kzI l4) {s0 : Int} (hs0 : kzI s0) {s1 : Int} (hs1 : kzI s1) : CRi (Z3_rank_50 G k4' k19' l0 l1 l2 l4 s0 s1) (X3_rank_50 G k4 k19 l0 (Int32.ofInt l1) (Int32.ofInt l2) (Int32.ofInt l4) (Int32.ofInt s0) (Int32.ofInt s1)) := by
  unfold Z3_rank_50 X3_rank_50
  exact c_lI (kz_add rfl rfl) (fun t1 ht1 => c_lI (kz_add rfl rfl) (fun t2 ht2 => (hk19 l0 _ hl1 _ hl2 _ ht1 _ ht2)))
def Z3_rank_19B (G : kdS) (k4 : Nat → Int → Int → kzM → Option (Int × kzM)) (k19 : Nat → Int → Int → Int → Int → kzM → Option (Int × kzM)) (l0 : Nat) (l1 : Int) (l2 : Int) (l3 : Int) (l4 : Int) : kzM → Option (Int × kzM) :=
  zgI G 3 0 l0 fun t1 =>
  zcnd (t1 ≤ l4)
  (zgI G 3 0 l0 fun t2 =>
  zlI ((l1 * (t2 - l2)) + l3) fun t3 =>
  zlI (l2 + (1 : Int)) fun t4 =>
  k4 l0 t3 t4)
  (zgR G 3 6 l0 fun t5 =>
  zaI G t5 l4 fun t6 =>
  zgR G 3 6 l0 fun t7 =>
  zaI G t7 l2 fun t8 =>
  zcnd (t8 ≤ t6)
  (Z3_rank_50 G k4 k19 l0 l1 l2 l4 l3 (0 : Int))
  (Z3_rank_50 G k4 k19 l0 l1 l2 l4 l3 (1 : Int)))
theorem qX3_rank_19B {G : kdS} (hG : kzG G) {k4' : Nat → Int → Int → kzM → Option (Int × kzM)} {k4 : Nat → Int32 → Int32 → kdM → Option (Int32 × kdM)} (hk4 : ∀ (a0 : Nat) (a1 : Int) (_ : kzI a1) (a2 : Int) (_ : kzI a2), CRi (k4' a0 a1 a2) (k4 a0 (Int32.ofInt a1) (Int32.ofInt a2))) {k19' : Nat → Int → Int → Int → Int → kzM → Option (Int × kzM)} {k19 : Nat → Int32 → Int32 → Int32 → Int32 → kdM → Option (Int32 × kdM)} (hk19 : ∀ (a0 : Nat) (a1 : Int) (_ : kzI a1) (a2 : Int) (_ : kzI a2) (a3 : Int) (_ : kzI a3) (a4 : Int) (_ : kzI a4), CRi (k19' a0 a1 a2 a3 a4) (k19 a0 (Int32.ofInt a1) (Int32.ofInt a2) (Int32.ofInt a3) (Int32.ofInt a4))) (l0 : Nat) {l1 : Int} (hl1 : kzI l1) {l2 : Int} (hl2 : kzI l2) {l3 : Int} (hl3 : kzI l3) {l4 : Int} (hl4 : kzI l4) : CRi (Z3_rank_19B G k4' k19' l0 l1 l2 l3 l4) (X3_rank_19B G k4 k19 l0 (Int32.ofInt l1) (Int32.ofInt l2) (Int32.ofInt l3) (Int32.ofInt l4)) := by
  unfold Z3_rank_19B X3_rank_19B
  exact c_gI rfl (fun t1 ht1 => c_cnd (kz_le ht1 hl4 rfl rfl) (c_gI rfl (fun t2 ht2 => c_lI (kz_add (kz_mul rfl (kz_sub rfl rfl)) rfl) (fun t3 ht3 => c_lI (kz_add rfl rfl) (fun t4 ht4 => (hk4 l0 _ ht3 _ ht4))))) (c_gR (fun t5 => c_aI hG rfl (fun t6 ht6 => c_gR (fun t7 => c_aI hG rfl (fun t8 ht8 => c_cnd (kz_le ht8 ht6 rfl rfl) ((qX3_rank_50 hG hk4 hk19 l0 hl1 hl2 hl4 hl3 (by unfold kzI; omega))) ((qX3_rank_50 hG hk4 hk19 l0 hl1 hl2 hl4 hl3 (by unfold kzI; omega)))))))))
def Z3_rank_19 (G : kdS) (k4 : Nat → Int → Int → kzM → Option (Int × kzM)) : Nat → Int → Int → Int → Int → kzM → Option (Int × kzM) := lp (fun _ _ _ _ _ _ => none) (Z3_rank_19B G k4) NN
theorem qX3_rank_19 {G : kdS} (hG : kzG G) {k4' : Nat → Int → Int → kzM → Option (Int × kzM)} {k4 : Nat → Int32 → Int32 → kdM → Option (Int32 × kdM)} (hk4 : ∀ (a0 : Nat) (a1 : Int) (_ : kzI a1) (a2 : Int) (_ : kzI a2), CRi (k4' a0 a1 a2) (k4 a0 (Int32.ofInt a1) (Int32.ofInt a2))) : ∀ (a0 : Nat) (a1 : Int) (_ : kzI a1) (a2 : Int) (_ : kzI a2) (a3 : Int) (_ : kzI a3) (a4 : Int) (_ : kzI a4), CRi (Z3_rank_19 G k4' a0 a1 a2 a3 a4) (X3_rank_19 G k4 a0 (Int32.ofInt a1) (Int32.ofInt a2) (Int32.ofInt a3) (Int32.ofInt a4)) :=
  lp_rel (R := fun (f' : Nat → Int → Int → Int → Int → kzM → Option (Int × kzM)) (f : Nat → Int32 → Int32 → Int32 → Int32 → kdM → Option (Int32 × kdM)) => ∀ (a0 : Nat) (a1 : Int) (_ : kzI a1) (a2 : Int) (_ : kzI a2) (a3 : Int) (_ : kzI a3) (a4 : Int) (_ : kzI a4), CRi (f' a0 a1 a2 a3 a4) (f a0 (Int32.ofInt a1) (Int32.ofInt a2) (Int32.ofInt a3) (Int32.ofInt a4))) (by intros; exact c_no) (fun _ _ hf a0 a1 ha1 a2 ha2 a3 ha3 a4 ha4 => qX3_rank_19B hG hk4 hf a0 ha1 ha2 ha3 ha4) NN
def Z3_rank_4B (G : kdS) (k4 : Nat → Int → Int → kzM → Option (Int × kzM)) (l0 : Nat) (l1 : Int) (l2 : Int) : kzM → Option (Int × kzM) :=
  zgI G 3 0 l0 fun t1 =>
  zcnd (t1 ≤ l2)
  (zrt l1)
  (zlI (l2 + (1 : Int)) fun t2 =>
  Z3_rank_19 G k4 l0 l1 l2 (0 : Int) t2)
theorem qX3_rank_4B {G : kdS} (hG : kzG G) {k4' : Nat → Int → Int → kzM → Option (Int × kzM)} {k4 : Nat → Int32 → Int32 → kdM → Option (Int32 × kdM)} (hk4 : ∀ (a0 : Nat) (a1 : Int) (_ : kzI a1) (a2 : Int) (_ : kzI a2), CRi (k4' a0 a1 a2) (k4 a0 (Int32.ofInt a1) (Int32.ofInt a2))) (l0 : Nat) {l1 : Int} (hl1 : kzI l1) {l2 : Int} (hl2 : kzI l2) : CRi (Z3_rank_4B G k4' l0 l1 l2) (X3_rank_4B G k4 l0 (Int32.ofInt l1) (Int32.ofInt l2)) := by
  unfold Z3_rank_4B X3_rank_4B
  exact c_gI rfl (fun t1 ht1 => c_cnd (kz_le ht1 hl2 rfl rfl) (c_rt hl1 rfl) (c_lI (kz_add rfl rfl) (fun t2 ht2 => (qX3_rank_19 hG hk4 l0 _ hl1 _ hl2 _ (by unfold kzI; omega) _ ht2))))
def Z3_rank_4 (G : kdS) : Nat → Int → Int → kzM → Option (Int × kzM) := lp (fun _ _ _ _ => none) (Z3_rank_4B G) NN
theorem qX3_rank_4 {G : kdS} (hG : kzG G) : ∀ (a0 : Nat) (a1 : Int) (_ : kzI a1) (a2 : Int) (_ : kzI a2), CRi (Z3_rank_4 G a0 a1 a2) (X3_rank_4 G a0 (Int32.ofInt a1) (Int32.ofInt a2)) :=
  lp_rel (R := fun (f' : Nat → Int → Int → kzM → Option (Int × kzM)) (f : Nat → Int32 → Int32 → kdM → Option (Int32 × kdM)) => ∀ (a0 : Nat) (a1 : Int) (_ : kzI a1) (a2 : Int) (_ : kzI a2), CRi (f' a0 a1 a2) (f a0 (Int32.ofInt a1) (Int32.ofInt a2))) (by intros; exact c_no) (fun _ _ hf a0 a1 ha1 a2 ha2 => qX3_rank_4B hG hf a0 ha1 ha2) NN
def Z3_rank (G : kdS) (l0 : Nat) : kzM → Option (Int × kzM) :=
  Z3_rank_4 G l0 (0 : Int) (0 : Int)
theorem qX3_rank {G : kdS} (hG : kzG G) (l0 : Nat) : CRi (Z3_rank G l0) (X3_rank G l0) := by
  unfold Z3_rank X3_rank
  exact (qX3_rank_4 hG l0 _ (by unfold kzI; omega) _ (by unfold kzI; omega))
def Z9_peak (G : kdS) (l0 : Nat) : kzM → Option (Int × kzM) :=
  zgI G 9 11 l0 fun t1 =>
  zrt t1
theorem qX9_peak {G : kdS} (hG : kzG G) (l0 : Nat) : CRi (Z9_peak G l0) (X9_peak G l0) := by
  unfold Z9_peak X9_peak
  exact c_gI rfl (fun t1 ht1 => c_rt ht1 rfl)
def Z9_path (G : kdS) (l0 : Nat) : kzM → Option (Nat × kzM) :=
  zgR G 9 8 l0 fun t1 =>
  zrt t1
theorem qX9_path {G : kdS} (hG : kzG G) (l0 : Nat) : CRn (Z9_path G l0) (X9_path G l0) := by
  unfold Z9_path X9_path
  exact c_gR (fun t1 => c_rt trivial rfl)
def Z9_neighbour (G : kdS) (l0 : Nat) (l1 : Int) (l2 : Int) : kzM → Option (Int × kzM) :=
  zgR G 9 3 l0 fun t1 =>
  zaI G t1 ((l1 * (10 : Int)) + l2) fun t2 =>
  zrt t2
theorem qX9_neighbour {G : kdS} (hG : kzG G) (l0 : Nat) {l1 : Int} (hl1 : kzI l1) {l2 : Int} (hl2 : kzI l2) : CRi (Z9_neighbour G l0 l1 l2) (X9_neighbour G l0 (Int32.ofInt l1) (Int32.ofInt l2)) := by
  unfold Z9_neighbour X9_neighbour
  exact c_gR (fun t1 => c_aI hG (kz_add (kz_mul rfl rfl) rfl) (fun t2 ht2 => c_rt ht2 rfl))
def Z9_countSteps_156 (G : kdS) : kzM → Option (Unit × kzM) :=
  zrt ()
theorem qX9_countSteps_156 {G : kdS} (hG : kzG G) : CRu (Z9_countSteps_156 G) (X9_countSteps_156 G) := by
  unfold Z9_countSteps_156 X9_countSteps_156
  exact c_rt trivial rfl
def Z9_countSteps_144 (G : kdS) (k48 : Nat → Int → kzM → Option (Unit × kzM)) (k77 : Nat → Int → Int → Int → kzM → Option (Unit × kzM)) (l0 : Nat) (l2 : Int) (l3 : Int) (l4 : Int) : kzM → Option (Unit × kzM) :=
  zlI (l4 + (1 : Int)) fun t1 =>
  k77 l0 l2 l3 t1
theorem qX9_countSteps_144 {G : kdS} (hG : kzG G) {k48' : Nat → Int → kzM → Option (Unit × kzM)} {k48 : Nat → Int32 → kdM → Option (Unit × kdM)} (hk48 : ∀ (a0 : Nat) (a1 : Int) (_ : kzI a1), CRu (k48' a0 a1) (k48 a0 (Int32.ofInt a1))) {k77' : Nat → Int → Int → Int → kzM → Option (Unit × kzM)} {k77 : Nat → Int32 → Int32 → Int32 → kdM → Option (Unit × kdM)} (hk77 : ∀ (a0 : Nat) (a1 : Int) (_ : kzI a1) (a2 : Int) (_ : kzI a2) (a3 : Int) (_ : kzI a3), CRu (k77' a0 a1 a2 a3) (k77 a0 (Int32.ofInt a1) (Int32.ofInt a2) (Int32.ofInt a3))) (l0 : Nat) {l2 : Int} (hl2 : kzI l2) {l3 : Int} (hl3 : kzI l3) {l4 : Int} (hl4 : kzI l4) : CRu (Z9_countSteps_144 G k48' k77' l0 l2 l3 l4) (X9_countSteps_144 G k48 k77 l0 (Int32.ofInt l2) (Int32.ofInt l3) (Int32.ofInt l4)) := by
  unfold Z9_countSteps_144 X9_countSteps_144
  exact c_lI (kz_add rfl rfl) (fun t1 ht1 => (hk77 l0 _ hl2 _ hl3 _ ht1))
def Z9_countSteps_77B (G : kdS) (k48 : Nat → Int → kzM → Option (Unit × kzM)) (k77 : Nat → Int → Int → Int → kzM → Option (Unit × kzM)) (l0 : Nat) (l2 : Int) (l3 : Int) (l4 : Int) : kzM → Option (Unit × kzM) :=
  zgI G 9 10 l0 fun t1 =>
  zcnd (t1 ≤ l4)
  (zlI (l2 + (1 : Int)) fun t2 =>
  k48 l0 t2)
  (zcv G 9 l0 (Z9_neighbour G l0 l3 l4) fun t3 =>
  zgR G 9 6 l0 fun t4 =>
  zaI G t4 t3 fun t5 =>
  zcnd (t5 = (-1 : Int))
  (zgR G 9 2 l0 fun t6 =>
  zaI G t6 t3 fun t7 =>
  zgI G 9 11 l0 fun t8 =>
  zcnd (t8 < t7)
  (Z9_countSteps_144 G k48 k77 l0 l2 l3 l4)
  (zgR G 9 6 l0 fun t9 =>
  zgR G 9 6 l0 fun t10 =>
  zaI G t10 l3 fun t11 =>
  zlI (t11 + (1 : Int)) fun u1 =>
  ztI G t9 t3 u1 <|
  zgR G 9 7 l0 fun t12 =>
  zcv G 6 t12 (Z6_add G t12 t3) fun _ =>
  Z9_countSteps_144 G k48 k77 l0 l2 l3 l4))
  (Z9_countSteps_144 G k48 k77 l0 l2 l3 l4))
theorem qX9_countSteps_77B {G : kdS} (hG : kzG G) {k48' : Nat → Int → kzM → Option (Unit × kzM)} {k48 : Nat → Int32 → kdM → Option (Unit × kdM)} (hk48 : ∀ (a0 : Nat) (a1 : Int) (_ : kzI a1), CRu (k48' a0 a1) (k48 a0 (Int32.ofInt a1))) {k77' : Nat → Int → Int → Int → kzM → Option (Unit × kzM)} {k77 : Nat → Int32 → Int32 → Int32 → kdM → Option (Unit × kdM)} (hk77 : ∀ (a0 : Nat) (a1 : Int) (_ : kzI a1) (a2 : Int) (_ : kzI a2) (a3 : Int) (_ : kzI a3), CRu (k77' a0 a1 a2 a3) (k77 a0 (Int32.ofInt a1) (Int32.ofInt a2) (Int32.ofInt a3))) (l0 : Nat) {l2 : Int} (hl2 : kzI l2) {l3 : Int} (hl3 : kzI l3) {l4 : Int} (hl4 : kzI l4) : CRu (Z9_countSteps_77B G k48' k77' l0 l2 l3 l4) (X9_countSteps_77B G k48 k77 l0 (Int32.ofInt l2) (Int32.ofInt l3) (Int32.ofInt l4)) := by
  unfold Z9_countSteps_77B X9_countSteps_77B
  exact c_gI rfl (fun t1 ht1 => c_cnd (kz_le ht1 hl4 rfl rfl) (c_lI (kz_add rfl rfl) (fun t2 ht2 => (hk48 l0 _ ht2))) (c_cv (qX9_neighbour hG l0 hl3 hl4) (fun t3 ht3 => c_gR (fun t4 => c_aI hG rfl (fun t5 ht5 => c_cnd (kz_eq ht5 (by unfold kzI; omega) rfl rfl) (c_gR (fun t6 => c_aI hG rfl (fun t7 ht7 => c_gI rfl (fun t8 ht8 => c_cnd (kz_lt ht8 ht7 rfl rfl) ((qX9_countSteps_144 hG hk48 hk77 l0 hl2 hl3 hl4)) (c_gR (fun t9 => c_gR (fun t10 => c_aI hG rfl (fun t11 ht11 => c_rg (kz_add rfl rfl) fun u1 r1 e1 => c_tI hG rfl r1 e1 (c_gR (fun t12 => c_cv (qX6_add hG t12 ht3) (fun _ _ => (qX9_countSteps_144 hG hk48 hk77 l0 hl2 hl3 hl4)))))))))))) ((qX9_countSteps_144 hG hk48 hk77 l0 hl2 hl3 hl4)))))))
def Z9_countSteps_77 (G : kdS) (k48 : Nat → Int → kzM → Option (Unit × kzM)) : Nat → Int → Int → Int → kzM → Option (Unit × kzM) := lp (fun _ _ _ _ _ => none) (Z9_countSteps_77B G k48) NN
theorem qX9_countSteps_77 {G : kdS} (hG : kzG G) {k48' : Nat → Int → kzM → Option (Unit × kzM)} {k48 : Nat → Int32 → kdM → Option (Unit × kdM)} (hk48 : ∀ (a0 : Nat) (a1 : Int) (_ : kzI a1), CRu (k48' a0 a1) (k48 a0 (Int32.ofInt a1))) : ∀ (a0 : Nat) (a1 : Int) (_ : kzI a1) (a2 : Int) (_ : kzI a2) (a3 : Int) (_ : kzI a3), CRu (Z9_countSteps_77 G k48' a0 a1 a2 a3) (X9_countSteps_77 G k48 a0 (Int32.ofInt a1) (Int32.ofInt a2) (Int32.ofInt a3)) :=
  lp_rel (R := fun (f' : Nat → Int → Int → Int → kzM → Option (Unit × kzM)) (f : Nat → Int32 → Int32 → Int32 → kdM → Option (Unit × kdM)) => ∀ (a0 : Nat) (a1 : Int) (_ : kzI a1) (a2 : Int) (_ : kzI a2) (a3 : Int) (_ : kzI a3), CRu (f' a0 a1 a2 a3) (f a0 (Int32.ofInt a1) (Int32.ofInt a2) (Int32.ofInt a3))) (by intros; exact c_no) (fun _ _ hf a0 a1 ha1 a2 ha2 a3 ha3 => qX9_countSteps_77B hG hk48 hf a0 ha1 ha2 ha3) NN
def Z9_countSteps_48B (G : kdS) (k48 : Nat → Int → kzM → Option (Unit × kzM)) (l0 : Nat) (l2 : Int) : kzM → Option (Unit × kzM) :=
  zcnd ((120 : Int) ≤ l2)
  (Z9_countSteps_156 G)
  (zgR G 9 7 l0 fun t1 =>
  zcv G 6 t1 (Z6_size G t1) fun t2 =>
  zcnd (t2 ≤ l2)
  (Z9_countSteps_156 G)
  (zgR G 9 7 l0 fun t3 =>
  zcv G 6 t3 (Z6_at G t3 l2) fun t4 =>
  Z9_countSteps_77 G k48 l0 l2 t4 (0 : Int)))
theorem qX9_countSteps_48B {G : kdS} (hG : kzG G) {k48' : Nat → Int → kzM → Option (Unit × kzM)} {k48 : Nat → Int32 → kdM → Option (Unit × kdM)} (hk48 : ∀ (a0 : Nat) (a1 : Int) (_ : kzI a1), CRu (k48' a0 a1) (k48 a0 (Int32.ofInt a1))) (l0 : Nat) {l2 : Int} (hl2 : kzI l2) : CRu (Z9_countSteps_48B G k48' l0 l2) (X9_countSteps_48B G k48 l0 (Int32.ofInt l2)) := by
  unfold Z9_countSteps_48B X9_countSteps_48B
  exact c_cnd (kz_le (by unfold kzI; omega) hl2 rfl rfl) ((qX9_countSteps_156 hG)) (c_gR (fun t1 => c_cv (qX6_size hG t1) (fun t2 ht2 => c_cnd (kz_le ht2 hl2 rfl rfl) ((qX9_countSteps_156 hG)) (c_gR (fun t3 => c_cv (qX6_at hG t3 hl2) (fun t4 ht4 => (qX9_countSteps_77 hG hk48 l0 _ hl2 _ ht4 _ (by unfold kzI; omega))))))))
def Z9_countSteps_48 (G : kdS) : Nat → Int → kzM → Option (Unit × kzM) := lp (fun _ _ _ => none) (Z9_countSteps_48B G) NN
theorem qX9_countSteps_48 {G : kdS} (hG : kzG G) : ∀ (a0 : Nat) (a1 : Int) (_ : kzI a1), CRu (Z9_countSteps_48 G a0 a1) (X9_countSteps_48 G a0 (Int32.ofInt a1)) :=
  lp_rel (R := fun (f' : Nat → Int → kzM → Option (Unit × kzM)) (f : Nat → Int32 → kdM → Option (Unit × kdM)) => ∀ (a0 : Nat) (a1 : Int) (_ : kzI a1), CRu (f' a0 a1) (f a0 (Int32.ofInt a1))) (by intros; exact c_no) (fun _ _ hf a0 a1 ha1 => qX9_countSteps_48B hG hf a0 ha1) NN
def Z9_countSteps_2B (G : kdS) (k2 : Nat → Int → Int → kzM → Option (Unit × kzM)) (l0 : Nat) (l1 : Int) (l2 : Int) : kzM → Option (Unit × kzM) :=
  zgI G 9 9 l0 fun t1 =>
  zcnd (t1 ≤ l2)
  (zgR G 9 6 l0 fun t2 =>
  ztI G t2 l1 (0 : Int) <|
  zgR G 9 7 l0 fun t3 =>
  zcv G 6 t3 (Z6_clear G t3) fun t4 =>
  zgR G 9 7 l0 fun t5 =>
  zcv G 6 t5 (Z6_add G t5 l1) fun _ =>
  Z9_countSteps_48 G l0 (0 : Int))
  (zgR G 9 6 l0 fun t6 =>
  ztI G t6 l2 (-1 : Int) <|
  zlI (l2 + (1 : Int)) fun t7 =>
  k2 l0 l1 t7)
theorem qX9_countSteps_2B {G : kdS} (hG : kzG G) {k2' : Nat → Int → Int → kzM → Option (Unit × kzM)} {k2 : Nat → Int32 → Int32 → kdM → Option (Unit × kdM)} (hk2 : ∀ (a0 : Nat) (a1 : Int) (_ : kzI a1) (a2 : Int) (_ : kzI a2), CRu (k2' a0 a1 a2) (k2 a0 (Int32.ofInt a1) (Int32.ofInt a2))) (l0 : Nat) {l1 : Int} (hl1 : kzI l1) {l2 : Int} (hl2 : kzI l2) : CRu (Z9_countSteps_2B G k2' l0 l1 l2) (X9_countSteps_2B G k2 l0 (Int32.ofInt l1) (Int32.ofInt l2)) := by
  unfold Z9_countSteps_2B X9_countSteps_2B
  exact c_gI rfl (fun t1 ht1 => c_cnd (kz_le ht1 hl2 rfl rfl) (c_gR (fun t2 => c_tI hG rfl (by unfold kzI; omega) rfl (c_gR (fun t3 => c_cv (qX6_clear hG t3) (fun t4 ht4 => c_gR (fun t5 => c_cv (qX6_add hG t5 hl1) (fun _ _ => (qX9_countSteps_48 hG l0 _ (by unfold kzI; omega))))))))) (c_gR (fun t6 => c_tI hG rfl (by unfold kzI; omega) rfl (c_lI (kz_add rfl rfl) (fun t7 ht7 => (hk2 l0 _ hl1 _ ht7))))))
def Z9_countSteps_2 (G : kdS) : Nat → Int → Int → kzM → Option (Unit × kzM) := lp (fun _ _ _ _ => none) (Z9_countSteps_2B G) NN
theorem qX9_countSteps_2 {G : kdS} (hG : kzG G) : ∀ (a0 : Nat) (a1 : Int) (_ : kzI a1) (a2 : Int) (_ : kzI a2), CRu (Z9_countSteps_2 G a0 a1 a2) (X9_countSteps_2 G a0 (Int32.ofInt a1) (Int32.ofInt a2)) :=
  lp_rel (R := fun (f' : Nat → Int → Int → kzM → Option (Unit × kzM)) (f : Nat → Int32 → Int32 → kdM → Option (Unit × kdM)) => ∀ (a0 : Nat) (a1 : Int) (_ : kzI a1) (a2 : Int) (_ : kzI a2), CRu (f' a0 a1 a2) (f a0 (Int32.ofInt a1) (Int32.ofInt a2))) (by intros; exact c_no) (fun _ _ hf a0 a1 ha1 a2 ha2 => qX9_countSteps_2B hG hf a0 ha1 ha2) NN
def Z9_countSteps (G : kdS) (l0 : Nat) (l1 : Int) : kzM → Option (Unit × kzM) :=
  Z9_countSteps_2 G l0 l1 (0 : Int)
theorem qX9_countSteps {G : kdS} (hG : kzG G) (l0 : Nat) {l1 : Int} (hl1 : kzI l1) : CRu (Z9_countSteps G l0 l1) (X9_countSteps G l0 (Int32.ofInt l1)) := by
  unfold Z9_countSteps X9_countSteps
  exact (qX9_countSteps_2 hG l0 _ hl1 _ (by unfold kzI; omega))
def Z9_listNeighbours_23B (G : kdS) (k7 : Nat → Int → Int → kzM → Option (Unit × kzM)) (k23 : Nat → Int → Int → Int → kzM → Option (Unit × kzM)) (l0 : Nat) (l2 : Int) (l3 : Int) (l4 : Int) : kzM → Option (Unit × kzM) :=
  zgR G 9 0 l0 fun t1 =>
  zcv G 3 t1 (Z3_size G t1) fun t2 =>
  zcnd (t2 ≤ l4)
  (zlI (l3 + (1 : Int)) fun t3 =>
  k7 l0 l2 t3)
  (zgR G 9 0 l0 fun t4 =>
  zcv G 3 t4 (Z3_exchange G t4 l3 l4) fun _ =>
  zgR G 9 3 l0 fun t5 =>
  zgR G 9 0 l0 fun t6 =>
  zcv G 3 t6 (Z3_rank G t6) fun t7 =>
  ztI G t5 l2 t7 <|
  zlI (l2 + (1 : Int)) fun t8 =>
  zgR G 9 0 l0 fun t9 =>
  zcv G 3 t9 (Z3_exchange G t9 l3 l4) fun _ =>
  zlI (l4 + (1 : Int)) fun t10 =>
  k23 l0 t8 l3 t10)
theorem qX9_listNeighbours_23B {G : kdS} (hG : kzG G) {k7' : Nat → Int → Int → kzM → Option (Unit × kzM)} {k7 : Nat → Int32 → Int32 → kdM → Option (Unit × kdM)} (hk7 : ∀ (a0 : Nat) (a1 : Int) (_ : kzI a1) (a2 : Int) (_ : kzI a2), CRu (k7' a0 a1 a2) (k7 a0 (Int32.ofInt a1) (Int32.ofInt a2))) {k23' : Nat → Int → Int → Int → kzM → Option (Unit × kzM)} {k23 : Nat → Int32 → Int32 → Int32 → kdM → Option (Unit × kdM)} (hk23 : ∀ (a0 : Nat) (a1 : Int) (_ : kzI a1) (a2 : Int) (_ : kzI a2) (a3 : Int) (_ : kzI a3), CRu (k23' a0 a1 a2 a3) (k23 a0 (Int32.ofInt a1) (Int32.ofInt a2) (Int32.ofInt a3))) (l0 : Nat) {l2 : Int} (hl2 : kzI l2) {l3 : Int} (hl3 : kzI l3) {l4 : Int} (hl4 : kzI l4) : CRu (Z9_listNeighbours_23B G k7' k23' l0 l2 l3 l4) (X9_listNeighbours_23B G k7 k23 l0 (Int32.ofInt l2) (Int32.ofInt l3) (Int32.ofInt l4)) := by
  unfold Z9_listNeighbours_23B X9_listNeighbours_23B
  exact c_gR (fun t1 => c_cv (qX3_size hG t1) (fun t2 ht2 => c_cnd (kz_le ht2 hl4 rfl rfl) (c_lI (kz_add rfl rfl) (fun t3 ht3 => (hk7 l0 _ hl2 _ ht3))) (c_gR (fun t4 => c_cv (qX3_exchange hG t4 hl3 hl4) (fun _ _ => c_gR (fun t5 => c_gR (fun t6 => c_cv (qX3_rank hG t6) (fun t7 ht7 => c_tI hG rfl ht7 rfl (c_lI (kz_add rfl rfl) (fun t8 ht8 => c_gR (fun t9 => c_cv (qX3_exchange hG t9 hl3 hl4) (fun _ _ => c_lI (kz_add rfl rfl) (fun t10 ht10 => (hk23 l0 _ ht8 _ hl3 _ ht10))))))))))))))
def Z9_listNeighbours_23 (G : kdS) (k7 : Nat → Int → Int → kzM → Option (Unit × kzM)) : Nat → Int → Int → Int → kzM → Option (Unit × kzM) := lp (fun _ _ _ _ _ => none) (Z9_listNeighbours_23B G k7) NN
theorem qX9_listNeighbours_23 {G : kdS} (hG : kzG G) {k7' : Nat → Int → Int → kzM → Option (Unit × kzM)} {k7 : Nat → Int32 → Int32 → kdM → Option (Unit × kdM)} (hk7 : ∀ (a0 : Nat) (a1 : Int) (_ : kzI a1) (a2 : Int) (_ : kzI a2), CRu (k7' a0 a1 a2) (k7 a0 (Int32.ofInt a1) (Int32.ofInt a2))) : ∀ (a0 : Nat) (a1 : Int) (_ : kzI a1) (a2 : Int) (_ : kzI a2) (a3 : Int) (_ : kzI a3), CRu (Z9_listNeighbours_23 G k7' a0 a1 a2 a3) (X9_listNeighbours_23 G k7 a0 (Int32.ofInt a1) (Int32.ofInt a2) (Int32.ofInt a3)) :=
  lp_rel (R := fun (f' : Nat → Int → Int → Int → kzM → Option (Unit × kzM)) (f : Nat → Int32 → Int32 → Int32 → kdM → Option (Unit × kdM)) => ∀ (a0 : Nat) (a1 : Int) (_ : kzI a1) (a2 : Int) (_ : kzI a2) (a3 : Int) (_ : kzI a3), CRu (f' a0 a1 a2 a3) (f a0 (Int32.ofInt a1) (Int32.ofInt a2) (Int32.ofInt a3))) (by intros; exact c_no) (fun _ _ hf a0 a1 ha1 a2 ha2 a3 ha3 => qX9_listNeighbours_23B hG hk7 hf a0 ha1 ha2 ha3) NN
def Z9_listNeighbours_7B (G : kdS) (k7 : Nat → Int → Int → kzM → Option (Unit × kzM)) (l0 : Nat) (l2 : Int) (l3 : Int) : kzM → Option (Unit × kzM) :=
  zgR G 9 0 l0 fun t1 =>
  zcv G 3 t1 (Z3_size G t1) fun t2 =>
  zcnd (t2 ≤ l3)
  (zrt ())
  (zlI (l3 + (1 : Int)) fun t3 =>
  Z9_listNeighbours_23 G k7 l0 l2 l3 t3)
theorem qX9_listNeighbours_7B {G : kdS} (hG : kzG G) {k7' : Nat → Int → Int → kzM → Option (Unit × kzM)} {k7 : Nat → Int32 → Int32 → kdM → Option (Unit × kdM)} (hk7 : ∀ (a0 : Nat) (a1 : Int) (_ : kzI a1) (a2 : Int) (_ : kzI a2), CRu (k7' a0 a1 a2) (k7 a0 (Int32.ofInt a1) (Int32.ofInt a2))) (l0 : Nat) {l2 : Int} (hl2 : kzI l2) {l3 : Int} (hl3 : kzI l3) : CRu (Z9_listNeighbours_7B G k7' l0 l2 l3) (X9_listNeighbours_7B G k7 l0 (Int32.ofInt l2) (Int32.ofInt l3)) := by
  unfold Z9_listNeighbours_7B X9_listNeighbours_7B
  exact c_gR (fun t1 => c_cv (qX3_size hG t1) (fun t2 ht2 => c_cnd (kz_le ht2 hl3 rfl rfl) (c_rt trivial rfl) (c_lI (kz_add rfl rfl) (fun t3 ht3 => (qX9_listNeighbours_23 hG hk7 l0 _ hl2 _ hl3 _ ht3)))))
def Z9_listNeighbours_7 (G : kdS) : Nat → Int → Int → kzM → Option (Unit × kzM) := lp (fun _ _ _ _ => none) (Z9_listNeighbours_7B G) NN
theorem qX9_listNeighbours_7 {G : kdS} (hG : kzG G) : ∀ (a0 : Nat) (a1 : Int) (_ : kzI a1) (a2 : Int) (_ : kzI a2), CRu (Z9_listNeighbours_7 G a0 a1 a2) (X9_listNeighbours_7 G a0 (Int32.ofInt a1) (Int32.ofInt a2)) :=
  lp_rel (R := fun (f' : Nat → Int → Int → kzM → Option (Unit × kzM)) (f : Nat → Int32 → Int32 → kdM → Option (Unit × kdM)) => ∀ (a0 : Nat) (a1 : Int) (_ : kzI a1) (a2 : Int) (_ : kzI a2), CRu (f' a0 a1 a2) (f a0 (Int32.ofInt a1) (Int32.ofInt a2))) (by intros; exact c_no) (fun _ _ hf a0 a1 ha1 a2 ha2 => qX9_listNeighbours_7B hG hf a0 ha1 ha2) NN
def Z9_listNeighbours (G : kdS) (l0 : Nat) (l1 : Int) : kzM → Option (Unit × kzM) :=
  zlI (l1 * (10 : Int)) fun t1 =>
  Z9_listNeighbours_7 G l0 t1 (0 : Int)
theorem qX9_listNeighbours {G : kdS} (hG : kzG G) (l0 : Nat) {l1 : Int} (hl1 : kzI l1) : CRu (Z9_listNeighbours G l0 l1) (X9_listNeighbours G l0 (Int32.ofInt l1)) := by
  unfold Z9_listNeighbours X9_listNeighbours
  exact c_lI (kz_mul rfl rfl) (fun t1 ht1 => (qX9_listNeighbours_7 hG l0 _ ht1 _ (by unfold kzI; omega)))
def Z9_listLayouts_111 (G : kdS) : kzM → Option (Unit × kzM) :=
  zrt ()
theorem qX9_listLayouts_111 {G : kdS} (hG : kzG G) : CRu (Z9_listLayouts_111 G) (X9_listLayouts_111 G) := by
  unfold Z9_listLayouts_111 X9_listLayouts_111
  exact c_rt trivial rfl
def Z9_listLayouts_37B (G : kdS) (k37 : Nat → Int → kzM → Option (Unit × kzM)) (l0 : Nat) (l1 : Int) : kzM → Option (Unit × kzM) :=
  zcnd (l1 = (0 : Int))
  (Z9_listLayouts_111 G)
  (zgI G 9 9 l0 fun t1 =>
  zcnd ((120 : Int) ≤ t1)
  (Z9_listLayouts_111 G)
  (zgR G 9 1 l0 fun t2 =>
  zgI G 9 9 l0 fun t3 =>
  zgR G 9 0 l0 fun t4 =>
  zcv G 3 t4 (Z3_digits G t4) fun t5 =>
  ztI G t2 t3 t5 <|
  zgR G 9 2 l0 fun t6 =>
  zgI G 9 9 l0 fun t7 =>
  zgR G 9 0 l0 fun t8 =>
  zcv G 3 t8 (Z3_totalCost G t8) fun t9 =>
  ztI G t6 t7 t9 <|
  zgI G 9 9 l0 fun t10 =>
  zcv G 9 l0 (Z9_listNeighbours G l0 t10) fun _ =>
  zgI G 9 9 l0 fun t11 =>
  zlI (t11 + (1 : Int)) fun u1 =>
  zsI G 9 9 l0 u1 <|
  zgR G 9 0 l0 fun t12 =>
  zcv G 3 t12 (Z3_stepOn G t12) fun t13 =>
  k37 l0 t13))
theorem qX9_listLayouts_37B {G : kdS} (hG : kzG G) {k37' : Nat → Int → kzM → Option (Unit × kzM)} {k37 : Nat → Int32 → kdM → Option (Unit × kdM)} (hk37 : ∀ (a0 : Nat) (a1 : Int) (_ : kzI a1), CRu (k37' a0 a1) (k37 a0 (Int32.ofInt a1))) (l0 : Nat) {l1 : Int} (hl1 : kzI l1) : CRu (Z9_listLayouts_37B G k37' l0 l1) (X9_listLayouts_37B G k37 l0 (Int32.ofInt l1)) := by
  unfold Z9_listLayouts_37B X9_listLayouts_37B
  exact c_cnd (kz_eq hl1 (by unfold kzI; omega) rfl rfl) ((qX9_listLayouts_111 hG)) (c_gI rfl (fun t1 ht1 => c_cnd (kz_le (by unfold kzI; omega) ht1 rfl rfl) ((qX9_listLayouts_111 hG)) (c_gR (fun t2 => c_gI rfl (fun t3 ht3 => c_gR (fun t4 => c_cv (qX3_digits hG t4) (fun t5 ht5 => c_tI hG rfl ht5 rfl (c_gR (fun t6 => c_gI rfl (fun t7 ht7 => c_gR (fun t8 => c_cv (qX3_totalCost hG t8) (fun t9 ht9 => c_tI hG rfl ht9 rfl (c_gI rfl (fun t10 ht10 => c_cv (qX9_listNeighbours hG l0 ht10) (fun _ _ => c_gI rfl (fun t11 ht11 => c_rg (kz_add rfl rfl) fun u1 r1 e1 => c_sI rfl r1 e1 (c_gR (fun t12 => c_cv (qX3_stepOn hG t12) (fun t13 ht13 => (hk37 l0 _ ht13))))))))))))))))))))
def Z9_listLayouts_37 (G : kdS) : Nat → Int → kzM → Option (Unit × kzM) := lp (fun _ _ _ => none) (Z9_listLayouts_37B G) NN
theorem qX9_listLayouts_37 {G : kdS} (hG : kzG G) : ∀ (a0 : Nat) (a1 : Int) (_ : kzI a1), CRu (Z9_listLayouts_37 G a0 a1) (X9_listLayouts_37 G a0 (Int32.ofInt a1)) :=
  lp_rel (R := fun (f' : Nat → Int → kzM → Option (Unit × kzM)) (f : Nat → Int32 → kdM → Option (Unit × kdM)) => ∀ (a0 : Nat) (a1 : Int) (_ : kzI a1), CRu (f' a0 a1) (f a0 (Int32.ofInt a1))) (by intros; exact c_no) (fun _ _ hf a0 a1 ha1 => qX9_listLayouts_37B hG hf a0 ha1) NN
def Z9_listLayouts (G : kdS) (l0 : Nat) : kzM → Option (Unit × kzM) :=
  zsI G 9 9 l0 (0 : Int) <|
  zgR G 9 0 l0 fun t1 =>
  zcv G 3 t1 (Z3_size G t1) fun t2 =>
  zgR G 9 0 l0 fun t3 =>
  zcv G 3 t3 (Z3_size G t3) fun t4 =>
  znz (2 : Int) <|
  zlI (t2 * (t4 - (1 : Int))) fun u1 =>
  zlI (u1.tdiv (2 : Int)) fun u2 =>
  zsI G 9 10 l0 u2 <|
  zgR G 9 0 l0 fun t5 =>
  zcv G 3 t5 (Z3_startAtFirst G t5) fun _ =>
  Z9_listLayouts_37 G l0 (1 : Int)
theorem qX9_listLayouts {G : kdS} (hG : kzG G) (l0 : Nat) : CRu (Z9_listLayouts G l0) (X9_listLayouts G l0) := by
  unfold Z9_listLayouts X9_listLayouts
  exact c_sI rfl (by unfold kzI; omega) rfl (c_gR (fun t1 => c_cv (qX3_size hG t1) (fun t2 ht2 => c_gR (fun t3 => c_cv (qX3_size hG t3) (fun t4 ht4 => c_nz (by unfold kzI; omega) rfl (c_rg (kz_mul rfl (kz_sub rfl rfl)) fun u1 r1 e1 => c_rg (kz_div r1 (by unfold kzI; omega) e1 rfl) fun u2 r2 e2 => c_sI rfl r2 e2 (c_gR (fun t5 => c_cv (qX3_startAtFirst hG t5) (fun _ _ => (qX9_listLayouts_37 hG l0 _ (by unfold kzI; omega)))))))))))
def Z9_lowestUnsettled_47 (G : kdS) (k4 : Nat → Int → Int → kzM → Option (Int × kzM)) (l0 : Nat) (l1 : Int) (l2 : Int) : kzM → Option (Int × kzM) :=
  zlI (l2 + (1 : Int)) fun t1 =>
  k4 l0 l1 t1
theorem qX9_lowestUnsettled_47 {G : kdS} (hG : kzG G) {k4' : Nat → Int → Int → kzM → Option (Int × kzM)} {k4 : Nat → Int32 → Int32 → kdM → Option (Int32 × kdM)} (hk4 : ∀ (a0 : Nat) (a1 : Int) (_ : kzI a1) (a2 : Int) (_ : kzI a2), CRi (k4' a0 a1 a2) (k4 a0 (Int32.ofInt a1) (Int32.ofInt a2))) (l0 : Nat) {l1 : Int} (hl1 : kzI l1) {l2 : Int} (hl2 : kzI l2) : CRi (Z9_lowestUnsettled_47 G k4' l0 l1 l2) (X9_lowestUnsettled_47 G k4 l0 (Int32.ofInt l1) (Int32.ofInt l2)) := by
  unfold Z9_lowestUnsettled_47 X9_lowestUnsettled_47
  exact c_lI (kz_add rfl rfl) (fun t1 ht1 => (hk4 l0 _ hl1 _ ht1))
def Z9_lowestUnsettled_45 (G : kdS) (k4 : Nat → Int → Int → kzM → Option (Int × kzM)) (l0 : Nat) (l2 : Int) : kzM → Option (Int × kzM) :=
  Z9_lowestUnsettled_47 G k4 l0 l2 l2
theorem qX9_lowestUnsettled_45 {G : kdS} (hG : kzG G) {k4' : Nat → Int → Int → kzM → Option (Int × kzM)} {k4 : Nat → Int32 → Int32 → kdM → Option (Int32 × kdM)} (hk4 : ∀ (a0 : Nat) (a1 : Int) (_ : kzI a1) (a2 : Int) (_ : kzI a2), CRi (k4' a0 a1 a2) (k4 a0 (Int32.ofInt a1) (Int32.ofInt a2))) (l0 : Nat) {l2 : Int} (hl2 : kzI l2) : CRi (Z9_lowestUnsettled_45 G k4' l0 l2) (X9_lowestUnsettled_45 G k4 l0 (Int32.ofInt l2)) := by
  unfold Z9_lowestUnsettled_45 X9_lowestUnsettled_45
  exact (qX9_lowestUnsettled_47 hG hk4 l0 hl2 hl2)
def Z9_lowestUnsettled_4B (G : kdS) (k4 : Nat → Int → Int → kzM → Option (Int × kzM)) (l0 : Nat) (l1 : Int) (l2 : Int) : kzM → Option (Int × kzM) :=
  zgI G 9 9 l0 fun t1 =>
  zcnd (t1 ≤ l2)
  (zrt l1)
  (zgR G 9 5 l0 fun t2 =>
  zaZ G t2 l1 fun t3 =>
  zcnd (t3 = (0 : Int))
  (zgR G 9 5 l0 fun t4 =>
  zaZ G t4 l2 fun t5 =>
  zcnd (t5 = (0 : Int))
  (zgR G 9 4 l0 fun t6 =>
  zaI G t6 l2 fun t7 =>
  zgR G 9 4 l0 fun t8 =>
  zaI G t8 l1 fun t9 =>
  zcnd (t9 ≤ t7)
  (Z9_lowestUnsettled_47 G k4 l0 l1 l2)
  (Z9_lowestUnsettled_45 G k4 l0 l2))
  (Z9_lowestUnsettled_47 G k4 l0 l1 l2))
  (Z9_lowestUnsettled_45 G k4 l0 l2))
theorem qX9_lowestUnsettled_4B {G : kdS} (hG : kzG G) {k4' : Nat → Int → Int → kzM → Option (Int × kzM)} {k4 : Nat → Int32 → Int32 → kdM → Option (Int32 × kdM)} (hk4 : ∀ (a0 : Nat) (a1 : Int) (_ : kzI a1) (a2 : Int) (_ : kzI a2), CRi (k4' a0 a1 a2) (k4 a0 (Int32.ofInt a1) (Int32.ofInt a2))) (l0 : Nat) {l1 : Int} (hl1 : kzI l1) {l2 : Int} (hl2 : kzI l2) : CRi (Z9_lowestUnsettled_4B G k4' l0 l1 l2) (X9_lowestUnsettled_4B G k4 l0 (Int32.ofInt l1) (Int32.ofInt l2)) := by
  unfold Z9_lowestUnsettled_4B X9_lowestUnsettled_4B
  exact c_gI rfl (fun t1 ht1 => c_cnd (kz_le ht1 hl2 rfl rfl) (c_rt hl1 rfl) (c_gR (fun t2 => c_aZ hG rfl (fun t3 ht3 => c_cnd (kz_eq ht3 (by unfold kzI; omega) rfl rfl) (c_gR (fun t4 => c_aZ hG rfl (fun t5 ht5 => c_cnd (kz_eq ht5 (by unfold kzI; omega) rfl rfl) (c_gR (fun t6 => c_aI hG rfl (fun t7 ht7 => c_gR (fun t8 => c_aI hG rfl (fun t9 ht9 => c_cnd (kz_le ht9 ht7 rfl rfl) ((qX9_lowestUnsettled_47 hG hk4 l0 hl1 hl2)) ((qX9_lowestUnsettled_45 hG hk4 l0 hl2))))))) ((qX9_lowestUnsettled_47 hG hk4 l0 hl1 hl2))))) ((qX9_lowestUnsettled_45 hG hk4 l0 hl2))))))
def Z9_lowestUnsettled_4 (G : kdS) : Nat → Int → Int → kzM → Option (Int × kzM) := lp (fun _ _ _ _ => none) (Z9_lowestUnsettled_4B G) NN
theorem qX9_lowestUnsettled_4 {G : kdS} (hG : kzG G) : ∀ (a0 : Nat) (a1 : Int) (_ : kzI a1) (a2 : Int) (_ : kzI a2), CRi (Z9_lowestUnsettled_4 G a0 a1 a2) (X9_lowestUnsettled_4 G a0 (Int32.ofInt a1) (Int32.ofInt a2)) :=
  lp_rel (R := fun (f' : Nat → Int → Int → kzM → Option (Int × kzM)) (f : Nat → Int32 → Int32 → kdM → Option (Int32 × kdM)) => ∀ (a0 : Nat) (a1 : Int) (_ : kzI a1) (a2 : Int) (_ : kzI a2), CRi (f' a0 a1 a2) (f a0 (Int32.ofInt a1) (Int32.ofInt a2))) (by intros; exact c_no) (fun _ _ hf a0 a1 ha1 a2 ha2 => qX9_lowestUnsettled_4B hG hf a0 ha1 ha2) NN
def Z9_lowestUnsettled (G : kdS) (l0 : Nat) : kzM → Option (Int × kzM) :=
  Z9_lowestUnsettled_4 G l0 (0 : Int) (1 : Int)
theorem qX9_lowestUnsettled {G : kdS} (hG : kzG G) (l0 : Nat) : CRi (Z9_lowestUnsettled G l0) (X9_lowestUnsettled G l0) := by
  unfold Z9_lowestUnsettled X9_lowestUnsettled
  exact (qX9_lowestUnsettled_4 hG l0 _ (by unfold kzI; omega) _ (by unfold kzI; omega))
def Z9_peakOfWay_144 (G : kdS) (l0 : Nat) (l2 : Int) : kzM → Option (Int × kzM) :=
  zgR G 9 4 l0 fun t1 =>
  zaI G t1 l2 fun t2 =>
  zrt t2
theorem qX9_peakOfWay_144 {G : kdS} (hG : kzG G) (l0 : Nat) {l2 : Int} (hl2 : kzI l2) : CRi (Z9_peakOfWay_144 G l0 l2) (X9_peakOfWay_144 G l0 (Int32.ofInt l2)) := by
  unfold Z9_peakOfWay_144 X9_peakOfWay_144
  exact c_gR (fun t1 => c_aI hG rfl (fun t2 ht2 => c_rt ht2 rfl))
def Z9_peakOfWay_79B (G : kdS) (k45 : Nat → Int → Int → kzM → Option (Int × kzM)) (k79 : Nat → Int → Int → Int → Int → kzM → Option (Int × kzM)) (l0 : Nat) (l2 : Int) (l3 : Int) (l4 : Int) (l5 : Int) : kzM → Option (Int × kzM) :=
  zgI G 9 10 l0 fun t1 =>
  zcnd (t1 ≤ l5)
  (zlI (l3 + (1 : Int)) fun t2 =>
  k45 l0 l2 t2)
  (zcv G 9 l0 (Z9_neighbour G l0 l4 l5) fun t3 =>
  zgR G 9 4 l0 fun t4 =>
  zgR G 9 4 l0 fun t5 =>
  zaI G t5 t3 fun t6 =>
  zgR G 9 4 l0 fun t7 =>
  zaI G t7 l4 fun t8 =>
  zgR G 9 2 l0 fun t9 =>
  zaI G t9 t3 fun t10 =>
  ztI G t4 t3 (zmin t6 (zmax t8 t10)) <|
  zlI (l5 + (1 : Int)) fun t11 =>
  k79 l0 l2 l3 l4 t11)
theorem qX9_peakOfWay_79B {G : kdS} (hG : kzG G) {k45' : Nat → Int → Int → kzM → Option (Int × kzM)} {k45 : Nat → Int32 → Int32 → kdM → Option (Int32 × kdM)} (hk45 : ∀ (a0 : Nat) (a1 : Int) (_ : kzI a1) (a2 : Int) (_ : kzI a2), CRi (k45' a0 a1 a2) (k45 a0 (Int32.ofInt a1) (Int32.ofInt a2))) {k79' : Nat → Int → Int → Int → Int → kzM → Option (Int × kzM)} {k79 : Nat → Int32 → Int32 → Int32 → Int32 → kdM → Option (Int32 × kdM)} (hk79 : ∀ (a0 : Nat) (a1 : Int) (_ : kzI a1) (a2 : Int) (_ : kzI a2) (a3 : Int) (_ : kzI a3) (a4 : Int) (_ : kzI a4), CRi (k79' a0 a1 a2 a3 a4) (k79 a0 (Int32.ofInt a1) (Int32.ofInt a2) (Int32.ofInt a3) (Int32.ofInt a4))) (l0 : Nat) {l2 : Int} (hl2 : kzI l2) {l3 : Int} (hl3 : kzI l3) {l4 : Int} (hl4 : kzI l4) {l5 : Int} (hl5 : kzI l5) : CRi (Z9_peakOfWay_79B G k45' k79' l0 l2 l3 l4 l5) (X9_peakOfWay_79B G k45 k79 l0 (Int32.ofInt l2) (Int32.ofInt l3) (Int32.ofInt l4) (Int32.ofInt l5)) := by
  unfold Z9_peakOfWay_79B X9_peakOfWay_79B
  exact c_gI rfl (fun t1 ht1 => c_cnd (kz_le ht1 hl5 rfl rfl) (c_lI (kz_add rfl rfl) (fun t2 ht2 => (hk45 l0 _ hl2 _ ht2))) (c_cv (qX9_neighbour hG l0 hl4 hl5) (fun t3 ht3 => c_gR (fun t4 => c_gR (fun t5 => c_aI hG rfl (fun t6 ht6 => c_gR (fun t7 => c_aI hG rfl (fun t8 ht8 => c_gR (fun t9 => c_aI hG rfl (fun t10 ht10 => c_tI hG rfl (zmin_I ht6 (zmax_I ht8 ht10)) (kz_min ht6 (zmax_I ht8 ht10) rfl (kz_max ht8 ht10 rfl rfl)) (c_lI (kz_add rfl rfl) (fun t11 ht11 => (hk79 l0 _ hl2 _ hl3 _ hl4 _ ht11)))))))))))))
def Z9_peakOfWay_79 (G : kdS) (k45 : Nat → Int → Int → kzM → Option (Int × kzM)) : Nat → Int → Int → Int → Int → kzM → Option (Int × kzM) := lp (fun _ _ _ _ _ _ => none) (Z9_peakOfWay_79B G k45) NN
theorem qX9_peakOfWay_79 {G : kdS} (hG : kzG G) {k45' : Nat → Int → Int → kzM → Option (Int × kzM)} {k45 : Nat → Int32 → Int32 → kdM → Option (Int32 × kdM)} (hk45 : ∀ (a0 : Nat) (a1 : Int) (_ : kzI a1) (a2 : Int) (_ : kzI a2), CRi (k45' a0 a1 a2) (k45 a0 (Int32.ofInt a1) (Int32.ofInt a2))) : ∀ (a0 : Nat) (a1 : Int) (_ : kzI a1) (a2 : Int) (_ : kzI a2) (a3 : Int) (_ : kzI a3) (a4 : Int) (_ : kzI a4), CRi (Z9_peakOfWay_79 G k45' a0 a1 a2 a3 a4) (X9_peakOfWay_79 G k45 a0 (Int32.ofInt a1) (Int32.ofInt a2) (Int32.ofInt a3) (Int32.ofInt a4)) :=
  lp_rel (R := fun (f' : Nat → Int → Int → Int → Int → kzM → Option (Int × kzM)) (f : Nat → Int32 → Int32 → Int32 → Int32 → kdM → Option (Int32 × kdM)) => ∀ (a0 : Nat) (a1 : Int) (_ : kzI a1) (a2 : Int) (_ : kzI a2) (a3 : Int) (_ : kzI a3) (a4 : Int) (_ : kzI a4), CRi (f' a0 a1 a2 a3 a4) (f a0 (Int32.ofInt a1) (Int32.ofInt a2) (Int32.ofInt a3) (Int32.ofInt a4))) (by intros; exact c_no) (fun _ _ hf a0 a1 ha1 a2 ha2 a3 ha3 a4 ha4 => qX9_peakOfWay_79B hG hk45 hf a0 ha1 ha2 ha3 ha4) NN
def Z9_peakOfWay_45B (G : kdS) (k45 : Nat → Int → Int → kzM → Option (Int × kzM)) (l0 : Nat) (l2 : Int) (l3 : Int) : kzM → Option (Int × kzM) :=
  zgI G 9 9 l0 fun t1 =>
  zcnd (t1 ≤ l3)
  (Z9_peakOfWay_144 G l0 l2)
  (zgR G 9 5 l0 fun t2 =>
  zaZ G t2 l2 fun t3 =>
  zcnd (t3 = (0 : Int))
  (zcv G 9 l0 (Z9_lowestUnsettled G l0) fun t4 =>
  zgR G 9 5 l0 fun t5 =>
  ztZ G t5 t4 (1 : Int) <|
  Z9_peakOfWay_79 G k45 l0 l2 l3 t4 (0 : Int))
  (Z9_peakOfWay_144 G l0 l2))
theorem qX9_peakOfWay_45B {G : kdS} (hG : kzG G) {k45' : Nat → Int → Int → kzM → Option (Int × kzM)} {k45 : Nat → Int32 → Int32 → kdM → Option (Int32 × kdM)} (hk45 : ∀ (a0 : Nat) (a1 : Int) (_ : kzI a1) (a2 : Int) (_ : kzI a2), CRi (k45' a0 a1 a2) (k45 a0 (Int32.ofInt a1) (Int32.ofInt a2))) (l0 : Nat) {l2 : Int} (hl2 : kzI l2) {l3 : Int} (hl3 : kzI l3) : CRi (Z9_peakOfWay_45B G k45' l0 l2 l3) (X9_peakOfWay_45B G k45 l0 (Int32.ofInt l2) (Int32.ofInt l3)) := by
  unfold Z9_peakOfWay_45B X9_peakOfWay_45B
  exact c_gI rfl (fun t1 ht1 => c_cnd (kz_le ht1 hl3 rfl rfl) ((qX9_peakOfWay_144 hG l0 hl2)) (c_gR (fun t2 => c_aZ hG rfl (fun t3 ht3 => c_cnd (kz_eq ht3 (by unfold kzI; omega) rfl rfl) (c_cv (qX9_lowestUnsettled hG l0) (fun t4 ht4 => c_gR (fun t5 => c_tZ hG rfl rfl ((qX9_peakOfWay_79 hG hk45 l0 _ hl2 _ hl3 _ ht4 _ (by unfold kzI; omega)))))) ((qX9_peakOfWay_144 hG l0 hl2))))))
def Z9_peakOfWay_45 (G : kdS) : Nat → Int → Int → kzM → Option (Int × kzM) := lp (fun _ _ _ _ => none) (Z9_peakOfWay_45B G) NN
theorem qX9_peakOfWay_45 {G : kdS} (hG : kzG G) : ∀ (a0 : Nat) (a1 : Int) (_ : kzI a1) (a2 : Int) (_ : kzI a2), CRi (Z9_peakOfWay_45 G a0 a1 a2) (X9_peakOfWay_45 G a0 (Int32.ofInt a1) (Int32.ofInt a2)) :=
  lp_rel (R := fun (f' : Nat → Int → Int → kzM → Option (Int × kzM)) (f : Nat → Int32 → Int32 → kdM → Option (Int32 × kdM)) => ∀ (a0 : Nat) (a1 : Int) (_ : kzI a1) (a2 : Int) (_ : kzI a2), CRi (f' a0 a1 a2) (f a0 (Int32.ofInt a1) (Int32.ofInt a2))) (by intros; exact c_no) (fun _ _ hf a0 a1 ha1 a2 ha2 => qX9_peakOfWay_45B hG hf a0 ha1 ha2) NN
def Z9_peakOfWay_2B (G : kdS) (k2 : Nat → Int → Int → Int → kzM → Option (Int × kzM)) (l0 : Nat) (l1 : Int) (l2 : Int) (l3 : Int) : kzM → Option (Int × kzM) :=
  zgI G 9 9 l0 fun t1 =>
  zcnd (t1 ≤ l3)
  (zgR G 9 4 l0 fun t2 =>
  zgR G 9 2 l0 fun t3 =>
  zaI G t3 l1 fun t4 =>
  ztI G t2 l1 t4 <|
  Z9_peakOfWay_45 G l0 l2 (0 : Int))
  (zgR G 9 4 l0 fun t5 =>
  ztI G t5 l3 (1000000000 : Int) <|
  zgR G 9 5 l0 fun t6 =>
  ztZ G t6 l3 (0 : Int) <|
  zlI (l3 + (1 : Int)) fun t7 =>
  k2 l0 l1 l2 t7)
theorem qX9_peakOfWay_2B {G : kdS} (hG : kzG G) {k2' : Nat → Int → Int → Int → kzM → Option (Int × kzM)} {k2 : Nat → Int32 → Int32 → Int32 → kdM → Option (Int32 × kdM)} (hk2 : ∀ (a0 : Nat) (a1 : Int) (_ : kzI a1) (a2 : Int) (_ : kzI a2) (a3 : Int) (_ : kzI a3), CRi (k2' a0 a1 a2 a3) (k2 a0 (Int32.ofInt a1) (Int32.ofInt a2) (Int32.ofInt a3))) (l0 : Nat) {l1 : Int} (hl1 : kzI l1) {l2 : Int} (hl2 : kzI l2) {l3 : Int} (hl3 : kzI l3) : CRi (Z9_peakOfWay_2B G k2' l0 l1 l2 l3) (X9_peakOfWay_2B G k2 l0 (Int32.ofInt l1) (Int32.ofInt l2) (Int32.ofInt l3)) := by
  unfold Z9_peakOfWay_2B X9_peakOfWay_2B
  exact c_gI rfl (fun t1 ht1 => c_cnd (kz_le ht1 hl3 rfl rfl) (c_gR (fun t2 => c_gR (fun t3 => c_aI hG rfl (fun t4 ht4 => c_tI hG rfl ht4 rfl ((qX9_peakOfWay_45 hG l0 _ hl2 _ (by unfold kzI; omega))))))) (c_gR (fun t5 => c_tI hG rfl (by unfold kzI; omega) rfl (c_gR (fun t6 => c_tZ hG rfl rfl (c_lI (kz_add rfl rfl) (fun t7 ht7 => (hk2 l0 _ hl1 _ hl2 _ ht7))))))))
def Z9_peakOfWay_2 (G : kdS) : Nat → Int → Int → Int → kzM → Option (Int × kzM) := lp (fun _ _ _ _ _ => none) (Z9_peakOfWay_2B G) NN
theorem qX9_peakOfWay_2 {G : kdS} (hG : kzG G) : ∀ (a0 : Nat) (a1 : Int) (_ : kzI a1) (a2 : Int) (_ : kzI a2) (a3 : Int) (_ : kzI a3), CRi (Z9_peakOfWay_2 G a0 a1 a2 a3) (X9_peakOfWay_2 G a0 (Int32.ofInt a1) (Int32.ofInt a2) (Int32.ofInt a3)) :=
  lp_rel (R := fun (f' : Nat → Int → Int → Int → kzM → Option (Int × kzM)) (f : Nat → Int32 → Int32 → Int32 → kdM → Option (Int32 × kdM)) => ∀ (a0 : Nat) (a1 : Int) (_ : kzI a1) (a2 : Int) (_ : kzI a2) (a3 : Int) (_ : kzI a3), CRi (f' a0 a1 a2 a3) (f a0 (Int32.ofInt a1) (Int32.ofInt a2) (Int32.ofInt a3))) (by intros; exact c_no) (fun _ _ hf a0 a1 ha1 a2 ha2 a3 ha3 => qX9_peakOfWay_2B hG hf a0 ha1 ha2 ha3) NN
def Z9_peakOfWay (G : kdS) (l0 : Nat) (l1 : Int) (l2 : Int) : kzM → Option (Int × kzM) :=
  Z9_peakOfWay_2 G l0 l1 l2 (0 : Int)
theorem qX9_peakOfWay {G : kdS} (hG : kzG G) (l0 : Nat) {l1 : Int} (hl1 : kzI l1) {l2 : Int} (hl2 : kzI l2) : CRi (Z9_peakOfWay G l0 l1 l2) (X9_peakOfWay G l0 (Int32.ofInt l1) (Int32.ofInt l2)) := by
  unfold Z9_peakOfWay X9_peakOfWay
  exact (qX9_peakOfWay_2 hG l0 _ hl1 _ hl2 _ (by unfold kzI; omega))
def Z9_firstWith_48 (G : kdS) (k5 : Nat → Int → Int → Int → Int → kzM → Option (Int × kzM)) (l0 : Nat) (l1 : Int) (l2 : Int) (l3 : Int) (l4 : Int) : kzM → Option (Int × kzM) :=
  zlI (l4 + (1 : Int)) fun t1 =>
  k5 l0 l1 l2 l3 t1
theorem qX9_firstWith_48 {G : kdS} (hG : kzG G) {k5' : Nat → Int → Int → Int → Int → kzM → Option (Int × kzM)} {k5 : Nat → Int32 → Int32 → Int32 → Int32 → kdM → Option (Int32 × kdM)} (hk5 : ∀ (a0 : Nat) (a1 : Int) (_ : kzI a1) (a2 : Int) (_ : kzI a2) (a3 : Int) (_ : kzI a3) (a4 : Int) (_ : kzI a4), CRi (k5' a0 a1 a2 a3 a4) (k5 a0 (Int32.ofInt a1) (Int32.ofInt a2) (Int32.ofInt a3) (Int32.ofInt a4))) (l0 : Nat) {l1 : Int} (hl1 : kzI l1) {l2 : Int} (hl2 : kzI l2) {l3 : Int} (hl3 : kzI l3) {l4 : Int} (hl4 : kzI l4) : CRi (Z9_firstWith_48 G k5' l0 l1 l2 l3 l4) (X9_firstWith_48 G k5 l0 (Int32.ofInt l1) (Int32.ofInt l2) (Int32.ofInt l3) (Int32.ofInt l4)) := by
  unfold Z9_firstWith_48 X9_firstWith_48
  exact c_lI (kz_add rfl rfl) (fun t1 ht1 => (hk5 l0 _ hl1 _ hl2 _ hl3 _ ht1))
def Z9_firstWith_45 (G : kdS) (k5 : Nat → Int → Int → Int → Int → kzM → Option (Int × kzM)) (l0 : Nat) (l1 : Int) (l2 : Int) (l4 : Int) (l5 : Int) : kzM → Option (Int × kzM) :=
  Z9_firstWith_48 G k5 l0 l1 l2 l5 l4
theorem qX9_firstWith_45 {G : kdS} (hG : kzG G) {k5' : Nat → Int → Int → Int → Int → kzM → Option (Int × kzM)} {k5 : Nat → Int32 → Int32 → Int32 → Int32 → kdM → Option (Int32 × kdM)} (hk5 : ∀ (a0 : Nat) (a1 : Int) (_ : kzI a1) (a2 : Int) (_ : kzI a2) (a3 : Int) (_ : kzI a3) (a4 : Int) (_ : kzI a4), CRi (k5' a0 a1 a2 a3 a4) (k5 a0 (Int32.ofInt a1) (Int32.ofInt a2) (Int32.ofInt a3) (Int32.ofInt a4))) (l0 : Nat) {l1 : Int} (hl1 : kzI l1) {l2 : Int} (hl2 : kzI l2) {l4 : Int} (hl4 : kzI l4) {l5 : Int} (hl5 : kzI l5) : CRi (Z9_firstWith_45 G k5' l0 l1 l2 l4 l5) (X9_firstWith_45 G k5 l0 (Int32.ofInt l1) (Int32.ofInt l2) (Int32.ofInt l4) (Int32.ofInt l5)) := by
  unfold Z9_firstWith_45 X9_firstWith_45
  exact (qX9_firstWith_48 hG hk5 l0 hl1 hl2 hl5 hl4)
def Z9_firstWith_5B (G : kdS) (k5 : Nat → Int → Int → Int → Int → kzM → Option (Int × kzM)) (l0 : Nat) (l1 : Int) (l2 : Int) (l3 : Int) (l4 : Int) : kzM → Option (Int × kzM) :=
  zgI G 9 10 l0 fun t1 =>
  zcnd (t1 ≤ l4)
  (zrt l3)
  (zcv G 9 l0 (Z9_neighbour G l0 l2 l4) fun t2 =>
  zgR G 9 6 l0 fun t3 =>
  zaI G t3 t2 fun t4 =>
  zcnd (t4 = l1)
  (zcnd (l3 = l2)
  (Z9_firstWith_45 G k5 l0 l1 l2 l4 t2)
  (zcnd (l3 ≤ t2)
  (Z9_firstWith_48 G k5 l0 l1 l2 l3 l4)
  (Z9_firstWith_45 G k5 l0 l1 l2 l4 t2)))
  (Z9_firstWith_48 G k5 l0 l1 l2 l3 l4))
theorem qX9_firstWith_5B {G : kdS} (hG : kzG G) {k5' : Nat → Int → Int → Int → Int → kzM → Option (Int × kzM)} {k5 : Nat → Int32 → Int32 → Int32 → Int32 → kdM → Option (Int32 × kdM)} (hk5 : ∀ (a0 : Nat) (a1 : Int) (_ : kzI a1) (a2 : Int) (_ : kzI a2) (a3 : Int) (_ : kzI a3) (a4 : Int) (_ : kzI a4), CRi (k5' a0 a1 a2 a3 a4) (k5 a0 (Int32.ofInt a1) (Int32.ofInt a2) (Int32.ofInt a3) (Int32.ofInt a4))) (l0 : Nat) {l1 : Int} (hl1 : kzI l1) {l2 : Int} (hl2 : kzI l2) {l3 : Int} (hl3 : kzI l3) {l4 : Int} (hl4 : kzI l4) : CRi (Z9_firstWith_5B G k5' l0 l1 l2 l3 l4) (X9_firstWith_5B G k5 l0 (Int32.ofInt l1) (Int32.ofInt l2) (Int32.ofInt l3) (Int32.ofInt l4)) := by
  unfold Z9_firstWith_5B X9_firstWith_5B
  exact c_gI rfl (fun t1 ht1 => c_cnd (kz_le ht1 hl4 rfl rfl) (c_rt hl3 rfl) (c_cv (qX9_neighbour hG l0 hl2 hl4) (fun t2 ht2 => c_gR (fun t3 => c_aI hG rfl (fun t4 ht4 => c_cnd (kz_eq ht4 hl1 rfl rfl) (c_cnd (kz_eq hl3 hl2 rfl rfl) ((qX9_firstWith_45 hG hk5 l0 hl1 hl2 hl4 ht2)) (c_cnd (kz_le hl3 ht2 rfl rfl) ((qX9_firstWith_48 hG hk5 l0 hl1 hl2 hl3 hl4)) ((qX9_firstWith_45 hG hk5 l0 hl1 hl2 hl4 ht2)))) ((qX9_firstWith_48 hG hk5 l0 hl1 hl2 hl3 hl4)))))))
def Z9_firstWith_5 (G : kdS) : Nat → Int → Int → Int → Int → kzM → Option (Int × kzM) := lp (fun _ _ _ _ _ _ => none) (Z9_firstWith_5B G) NN
theorem qX9_firstWith_5 {G : kdS} (hG : kzG G) : ∀ (a0 : Nat) (a1 : Int) (_ : kzI a1) (a2 : Int) (_ : kzI a2) (a3 : Int) (_ : kzI a3) (a4 : Int) (_ : kzI a4), CRi (Z9_firstWith_5 G a0 a1 a2 a3 a4) (X9_firstWith_5 G a0 (Int32.ofInt a1) (Int32.ofInt a2) (Int32.ofInt a3) (Int32.ofInt a4)) :=
  lp_rel (R := fun (f' : Nat → Int → Int → Int → Int → kzM → Option (Int × kzM)) (f : Nat → Int32 → Int32 → Int32 → Int32 → kdM → Option (Int32 × kdM)) => ∀ (a0 : Nat) (a1 : Int) (_ : kzI a1) (a2 : Int) (_ : kzI a2) (a3 : Int) (_ : kzI a3) (a4 : Int) (_ : kzI a4), CRi (f' a0 a1 a2 a3 a4) (f a0 (Int32.ofInt a1) (Int32.ofInt a2) (Int32.ofInt a3) (Int32.ofInt a4))) (by intros; exact c_no) (fun _ _ hf a0 a1 ha1 a2 ha2 a3 ha3 a4 ha4 => qX9_firstWith_5B hG hf a0 ha1 ha2 ha3 ha4) NN
def Z9_firstWith (G : kdS) (l0 : Nat) (l1 : Int) (l2 : Int) : kzM → Option (Int × kzM) :=
  Z9_firstWith_5 G l0 l1 l2 l2 (0 : Int)
theorem qX9_firstWith {G : kdS} (hG : kzG G) (l0 : Nat) {l1 : Int} (hl1 : kzI l1) {l2 : Int} (hl2 : kzI l2) : CRi (Z9_firstWith G l0 l1 l2) (X9_firstWith G l0 (Int32.ofInt l1) (Int32.ofInt l2)) := by
  unfold Z9_firstWith X9_firstWith
  exact (qX9_firstWith_5 hG l0 _ hl1 _ hl2 _ hl2 _ (by unfold kzI; omega))
def Z9_walk_32B (G : kdS) (k32 : Nat → Int → Int → kzM → Option (Unit × kzM)) (l0 : Nat) (l2 : Int) (l3 : Int) : kzM → Option (Unit × kzM) :=
  zcnd (l3 < (0 : Int))
  (zrt ())
  (zcv G 9 l0 (Z9_firstWith G l0 l3 l2) fun t1 =>
  zgR G 9 8 l0 fun t2 =>
  zgR G 9 1 l0 fun t3 =>
  zaI G t3 t1 fun t4 =>
  zcv G 6 t2 (Z6_add G t2 t4) fun _ =>
  zlI (l3 + (-1 : Int)) fun t5 =>
  k32 l0 t1 t5)
theorem qX9_walk_32B {G : kdS} (hG : kzG G) {k32' : Nat → Int → Int → kzM → Option (Unit × kzM)} {k32 : Nat → Int32 → Int32 → kdM → Option (Unit × kdM)} (hk32 : ∀ (a0 : Nat) (a1 : Int) (_ : kzI a1) (a2 : Int) (_ : kzI a2), CRu (k32' a0 a1 a2) (k32 a0 (Int32.ofInt a1) (Int32.ofInt a2))) (l0 : Nat) {l2 : Int} (hl2 : kzI l2) {l3 : Int} (hl3 : kzI l3) : CRu (Z9_walk_32B G k32' l0 l2 l3) (X9_walk_32B G k32 l0 (Int32.ofInt l2) (Int32.ofInt l3)) := by
  unfold Z9_walk_32B X9_walk_32B
  exact c_cnd (kz_lt hl3 (by unfold kzI; omega) rfl rfl) (c_rt trivial rfl) (c_cv (qX9_firstWith hG l0 hl3 hl2) (fun t1 ht1 => c_gR (fun t2 => c_gR (fun t3 => c_aI hG rfl (fun t4 ht4 => c_cv (qX6_add hG t2 ht4) (fun _ _ => c_lI (kz_add rfl rfl) (fun t5 ht5 => (hk32 l0 _ ht1 _ ht5))))))))
def Z9_walk_32 (G : kdS) : Nat → Int → Int → kzM → Option (Unit × kzM) := lp (fun _ _ _ _ => none) (Z9_walk_32B G) NN
theorem qX9_walk_32 {G : kdS} (hG : kzG G) : ∀ (a0 : Nat) (a1 : Int) (_ : kzI a1) (a2 : Int) (_ : kzI a2), CRu (Z9_walk_32 G a0 a1 a2) (X9_walk_32 G a0 (Int32.ofInt a1) (Int32.ofInt a2)) :=
  lp_rel (R := fun (f' : Nat → Int → Int → kzM → Option (Unit × kzM)) (f : Nat → Int32 → Int32 → kdM → Option (Unit × kdM)) => ∀ (a0 : Nat) (a1 : Int) (_ : kzI a1) (a2 : Int) (_ : kzI a2), CRu (f' a0 a1 a2) (f a0 (Int32.ofInt a1) (Int32.ofInt a2))) (by intros; exact c_no) (fun _ _ hf a0 a1 ha1 a2 ha2 => qX9_walk_32B hG hf a0 ha1 ha2) NN
def Z9_walk (G : kdS) (l0 : Nat) (l1 : Int) : kzM → Option (Unit × kzM) :=
  zgR G 9 8 l0 fun t1 =>
  zcv G 6 t1 (Z6_clear G t1) fun t2 =>
  zgR G 9 8 l0 fun t3 =>
  zgR G 9 1 l0 fun t4 =>
  zaI G t4 l1 fun t5 =>
  zcv G 6 t3 (Z6_add G t3 t5) fun _ =>
  zgR G 9 6 l0 fun t6 =>
  zaI G t6 l1 fun t7 =>
  zlI (t7 - (1 : Int)) fun t8 =>
  Z9_walk_32 G l0 l1 t8
theorem qX9_walk {G : kdS} (hG : kzG G) (l0 : Nat) {l1 : Int} (hl1 : kzI l1) : CRu (Z9_walk G l0 l1) (X9_walk G l0 (Int32.ofInt l1)) := by
  unfold Z9_walk X9_walk
  exact c_gR (fun t1 => c_cv (qX6_clear hG t1) (fun t2 ht2 => c_gR (fun t3 => c_gR (fun t4 => c_aI hG rfl (fun t5 ht5 => c_cv (qX6_add hG t3 ht5) (fun _ _ => c_gR (fun t6 => c_aI hG rfl (fun t7 ht7 => c_lI (kz_sub rfl rfl) (fun t8 ht8 => (qX9_walk_32 hG l0 _ hl1 _ ht8))))))))))
def Z9_find (G : kdS) (l0 : Nat) (l1 : Int) (l2 : Int) : kzM → Option (Unit × kzM) :=
  zgR G 9 0 l0 fun t1 =>
  zcv G 3 t1 (Z3_read G t1 l1) fun t2 =>
  zgR G 9 0 l0 fun t3 =>
  zcv G 3 t3 (Z3_rank G t3) fun t4 =>
  zgR G 9 0 l0 fun t5 =>
  zcv G 3 t5 (Z3_read G t5 l2) fun t6 =>
  zgR G 9 0 l0 fun t7 =>
  zcv G 3 t7 (Z3_rank G t7) fun t8 =>
  zcv G 9 l0 (Z9_listLayouts G l0) fun _ =>
  zcv G 9 l0 (Z9_peakOfWay G l0 t4 t8) fun t9 =>
  zsI G 9 11 l0 t9 <|
  zcv G 9 l0 (Z9_countSteps G l0 t8) fun _ =>
  zcv G 9 l0 (Z9_walk G l0 t4) fun _ =>
  zrt ()
theorem qX9_find {G : kdS} (hG : kzG G) (l0 : Nat) {l1 : Int} (hl1 : kzI l1) {l2 : Int} (hl2 : kzI l2) : CRu (Z9_find G l0 l1 l2) (X9_find G l0 (Int32.ofInt l1) (Int32.ofInt l2)) := by
  unfold Z9_find X9_find
  exact c_gR (fun t1 => c_cv (qX3_read hG t1 hl1) (fun t2 ht2 => c_gR (fun t3 => c_cv (qX3_rank hG t3) (fun t4 ht4 => c_gR (fun t5 => c_cv (qX3_read hG t5 hl2) (fun t6 ht6 => c_gR (fun t7 => c_cv (qX3_rank hG t7) (fun t8 ht8 => c_cv (qX9_listLayouts hG l0) (fun _ _ => c_cv (qX9_peakOfWay hG l0 ht4 ht8) (fun t9 ht9 => c_sI rfl ht9 rfl (c_cv (qX9_countSteps hG l0 ht8) (fun _ _ => c_cv (qX9_walk hG l0 ht4) (fun _ _ => c_rt trivial rfl)))))))))))))
def Z11_isKey (G : kdS) (l0 : Int) : kzM → Option (Int × kzM) :=
  zcl (Z11_within G l0 (0 : Int) (11 : Int)) fun t1 =>
  zrt (zB t1)
theorem qX11_isKey {G : kdS} (hG : kzG G) {l0 : Int} (hl0 : kzI l0) : CRi (Z11_isKey G l0) (X11_isKey G (Int32.ofInt l0)) := by
  unfold Z11_isKey X11_isKey
  exact c_cl (qX11_within hG hl0 (by unfold kzI; omega) (by unfold kzI; omega)) (fun t1 ht1 => c_rt (kz_BI _) (kz_B rfl))
def Z11_key (G : kdS) (l0 : Nat) (l1 : Int) : kzM → Option (Int × kzM) :=
  zcl (Z11_isKey G l1) fun t1 =>
  zcnd (t1 = (0 : Int))
  (zrt (-2 : Int))
  (zgR G 11 0 l0 fun t2 =>
  zcv G 6 t2 (Z6_isFull G t2) fun t3 =>
  zcnd (t3 = (0 : Int))
  (zgR G 11 0 l0 fun t4 =>
  zcv G 6 t4 (Z6_add G t4 l1) fun _ =>
  zgR G 11 0 l0 fun t5 =>
  zcv G 6 t5 (Z6_size G t5) fun t6 =>
  zrt t6)
  (zrt (-4 : Int)))
theorem qX11_key {G : kdS} (hG : kzG G) (l0 : Nat) {l1 : Int} (hl1 : kzI l1) : CRi (Z11_key G l0 l1) (X11_key G l0 (Int32.ofInt l1)) := by
  unfold Z11_key X11_key
  exact c_cl (qX11_isKey hG hl1) (fun t1 ht1 => c_cnd (kz_eq ht1 (by unfold kzI; omega) rfl rfl) (c_rt (by unfold kzI; omega) rfl) (c_gR (fun t2 => c_cv (qX6_isFull hG t2) (fun t3 ht3 => c_cnd (kz_eq ht3 (by unfold kzI; omega) rfl rfl) (c_gR (fun t4 => c_cv (qX6_add hG t4 hl1) (fun _ _ => c_gR (fun t5 => c_cv (qX6_size hG t5) (fun t6 ht6 => c_rt ht6 rfl))))) (c_rt (by unfold kzI; omega) rfl)))))
def Z11_letter (G : kdS) (l0 : Nat) (l1 : Int) : kzM → Option (Int × kzM) :=
  zcl (Z11_isLetter G l1) fun t1 =>
  zcnd (t1 = (0 : Int))
  (zrt (-2 : Int))
  (zgR G 11 1 l0 fun t2 =>
  zcv G 6 t2 (Z6_isFull G t2) fun t3 =>
  zcnd (t3 = (0 : Int))
  (zgR G 11 1 l0 fun t4 =>
  zcv G 6 t4 (Z6_add G t4 l1) fun _ =>
  zgR G 11 1 l0 fun t5 =>
  zcv G 6 t5 (Z6_size G t5) fun t6 =>
  zrt t6)
  (zrt (-4 : Int)))
theorem qX11_letter {G : kdS} (hG : kzG G) (l0 : Nat) {l1 : Int} (hl1 : kzI l1) : CRi (Z11_letter G l0 l1) (X11_letter G l0 (Int32.ofInt l1)) := by
  unfold Z11_letter X11_letter
  exact c_cl (qX11_isLetter hG hl1) (fun t1 ht1 => c_cnd (kz_eq ht1 (by unfold kzI; omega) rfl rfl) (c_rt (by unfold kzI; omega) rfl) (c_gR (fun t2 => c_cv (qX6_isFull hG t2) (fun t3 ht3 => c_cnd (kz_eq ht3 (by unfold kzI; omega) rfl rfl) (c_gR (fun t4 => c_cv (qX6_add hG t4 hl1) (fun _ _ => c_gR (fun t5 => c_cv (qX6_size hG t5) (fun t6 ht6 => c_rt ht6 rfl))))) (c_rt (by unfold kzI; omega) rfl)))))
def Z11_wipe (G : kdS) (l0 : Nat) (l1 : Int) : kzM → Option (Int × kzM) :=
  zcnd (l1 = (0 : Int))
  (zgR G 11 0 l0 fun t1 =>
  zcv G 6 t1 (Z6_clear G t1) fun t2 =>
  zrt t2)
  (zcnd (l1 = (1 : Int))
  (zgR G 11 1 l0 fun t3 =>
  zcv G 6 t3 (Z6_clear G t3) fun t4 =>
  zrt t4)
  (zcnd (l1 = (2 : Int))
  (zgR G 11 8 l0 fun t5 =>
  zcv G 0 t5 (Z0_clearPad G t5) fun t6 =>
  zrt t6)
  (zrt (-2 : Int))))
theorem qX11_wipe {G : kdS} (hG : kzG G) (l0 : Nat) {l1 : Int} (hl1 : kzI l1) : CRi (Z11_wipe G l0 l1) (X11_wipe G l0 (Int32.ofInt l1)) := by
  unfold Z11_wipe X11_wipe
  exact c_cnd (kz_eq hl1 (by unfold kzI; omega) rfl rfl) (c_gR (fun t1 => c_cv (qX6_clear hG t1) (fun t2 ht2 => c_rt ht2 rfl))) (c_cnd (kz_eq hl1 (by unfold kzI; omega) rfl rfl) (c_gR (fun t3 => c_cv (qX6_clear hG t3) (fun t4 ht4 => c_rt ht4 rfl))) (c_cnd (kz_eq hl1 (by unfold kzI; omega) rfl rfl) (c_gR (fun t5 => c_cv (qX0_clearPad hG t5) (fun t6 ht6 => c_rt ht6 rfl))) (c_rt (by unfold kzI; omega) rfl)))
def Z11_isTongue (G : kdS) (l0 : Int) : kzM → Option (Int × kzM) :=
  zcl (Z11_within G l0 (0 : Int) (2 : Int)) fun t1 =>
  zrt (zB t1)
theorem qX11_isTongue {G : kdS} (hG : kzG G) {l0 : Int} (hl0 : kzI l0) : CRi (Z11_isTongue G l0) (X11_isTongue G (Int32.ofInt l0)) := by
  unfold Z11_isTongue X11_isTongue
  exact c_cl (qX11_within hG hl0 (by unfold kzI; omega) (by unfold kzI; omega)) (fun t1 ht1 => c_rt (kz_BI _) (kz_B rfl))
def Z11_rule_55 (G : kdS) : kzM → Option (Int × kzM) :=
  zrt (-5 : Int)
theorem qX11_rule_55 {G : kdS} (hG : kzG G) : CRi (Z11_rule_55 G) (X11_rule_55 G) := by
  unfold Z11_rule_55 X11_rule_55
  exact c_rt (by unfold kzI; omega) rfl
def Z11_rule (G : kdS) (l0 : Nat) (l1 : Int) : kzM → Option (Int × kzM) :=
  zcl (Z11_isTongue G l1) fun t1 =>
  zcnd (t1 = (0 : Int))
  (zrt (-1 : Int))
  (zgR G 11 2 l0 fun t2 =>
  zaR G 17 t2 l1 fun t3 =>
  zcv G 8 t3 (Z8_isFullOfRules G t3) fun t4 =>
  zcnd (t4 = (0 : Int))
  (zgR G 11 0 l0 fun t5 =>
  zcv G 6 t5 (Z6_isEmpty G t5) fun t6 =>
  zcnd (t6 = (0 : Int))
  (zgR G 11 0 l0 fun t7 =>
  zcv G 6 t7 (Z6_size G t7) fun t8 =>
  zcnd ((4 : Int) < t8)
  (Z11_rule_55 G)
  (zgR G 11 1 l0 fun t9 =>
  zcv G 6 t9 (Z6_isEmpty G t9) fun t10 =>
  zcnd (t10 = (0 : Int))
  (zgR G 11 2 l0 fun t11 =>
  zaR G 17 t11 l1 fun t12 =>
  zgR G 11 0 l0 fun t13 =>
  zgR G 11 1 l0 fun t14 =>
  zcv G 8 t12 (Z8_addRule G t12 t13 t14) fun t15 =>
  zgR G 11 0 l0 fun t16 =>
  zcv G 6 t16 (Z6_clear G t16) fun t17 =>
  zgR G 11 1 l0 fun t18 =>
  zcv G 6 t18 (Z6_clear G t18) fun t19 =>
  zrt t15)
  (Z11_rule_55 G)))
  (Z11_rule_55 G))
  (zrt (-4 : Int)))
theorem qX11_rule {G : kdS} (hG : kzG G) (l0 : Nat) {l1 : Int} (hl1 : kzI l1) : CRi (Z11_rule G l0 l1) (X11_rule G l0 (Int32.ofInt l1)) := by
  unfold Z11_rule X11_rule
  exact c_cl (qX11_isTongue hG hl1) (fun t1 ht1 => c_cnd (kz_eq ht1 (by unfold kzI; omega) rfl rfl) (c_rt (by unfold kzI; omega) rfl) (c_gR (fun t2 => c_aR hG rfl (fun t3 => c_cv (qX8_isFullOfRules hG t3) (fun t4 ht4 => c_cnd (kz_eq ht4 (by unfold kzI; omega) rfl rfl) (c_gR (fun t5 => c_cv (qX6_isEmpty hG t5) (fun t6 ht6 => c_cnd (kz_eq ht6 (by unfold kzI; omega) rfl rfl) (c_gR (fun t7 => c_cv (qX6_size hG t7) (fun t8 ht8 => c_cnd (kz_lt (by unfold kzI; omega) ht8 rfl rfl) ((qX11_rule_55 hG)) (c_gR (fun t9 => c_cv (qX6_isEmpty hG t9) (fun t10 ht10 => c_cnd (kz_eq ht10 (by unfold kzI; omega) rfl rfl) (c_gR (fun t11 => c_aR hG rfl (fun t12 => c_gR (fun t13 => c_gR (fun t14 => c_cv (qX8_addRule hG t12 t13 t14) (fun t15 ht15 => c_gR (fun t16 => c_cv (qX6_clear hG t16) (fun t17 ht17 => c_gR (fun t18 => c_cv (qX6_clear hG t18) (fun t19 ht19 => c_rt ht15 rfl)))))))))) ((qX11_rule_55 hG)))))))) ((qX11_rule_55 hG))))) (c_rt (by unfold kzI; omega) rfl))))))
def Z11_join_31 (G : kdS) : kzM → Option (Int × kzM) :=
  zrt (-2 : Int)
theorem qX11_join_31 {G : kdS} (hG : kzG G) : CRi (Z11_join_31 G) (X11_join_31 G) := by
  unfold Z11_join_31 X11_join_31
  exact c_rt (by unfold kzI; omega) rfl
def Z11_join (G : kdS) (l0 : Nat) (l1 : Int) (l2 : Int) (l3 : Int) (l4 : Int) : kzM → Option (Int × kzM) :=
  zcl (Z11_isTongue G l1) fun t1 =>
  zcnd (t1 = (0 : Int))
  (zrt (-1 : Int))
  (zcl (Z11_isLetter G l2) fun t2 =>
  zcnd (t2 = (0 : Int))
  (Z11_join_31 G)
  (zcl (Z11_isLetter G l3) fun t3 =>
  zcnd (t3 = (0 : Int))
  (Z11_join_31 G)
  (zcl (Z11_isLetter G l4) fun t4 =>
  zcnd (t4 = (0 : Int))
  (Z11_join_31 G)
  (zgR G 11 2 l0 fun t5 =>
  zaR G 17 t5 l1 fun t6 =>
  zcv G 8 t6 (Z8_isFullOfJoins G t6) fun t7 =>
  zcnd (t7 = (0 : Int))
  (zgR G 11 2 l0 fun t8 =>
  zaR G 17 t8 l1 fun t9 =>
  zcv G 8 t9 (Z8_addJoin G t9 l2 l3 l4) fun t10 =>
  zrt t10)
  (zrt (-4 : Int))))))
theorem qX11_join {G : kdS} (hG : kzG G) (l0 : Nat) {l1 : Int} (hl1 : kzI l1) {l2 : Int} (hl2 : kzI l2) {l3 : Int} (hl3 : kzI l3) {l4 : Int} (hl4 : kzI l4) : CRi (Z11_join G l0 l1 l2 l3 l4) (X11_join G l0 (Int32.ofInt l1) (Int32.ofInt l2) (Int32.ofInt l3) (Int32.ofInt l4)) := by
  unfold Z11_join X11_join
  exact c_cl (qX11_isTongue hG hl1) (fun t1 ht1 => c_cnd (kz_eq ht1 (by unfold kzI; omega) rfl rfl) (c_rt (by unfold kzI; omega) rfl) (c_cl (qX11_isLetter hG hl2) (fun t2 ht2 => c_cnd (kz_eq ht2 (by unfold kzI; omega) rfl rfl) ((qX11_join_31 hG)) (c_cl (qX11_isLetter hG hl3) (fun t3 ht3 => c_cnd (kz_eq ht3 (by unfold kzI; omega) rfl rfl) ((qX11_join_31 hG)) (c_cl (qX11_isLetter hG hl4) (fun t4 ht4 => c_cnd (kz_eq ht4 (by unfold kzI; omega) rfl rfl) ((qX11_join_31 hG)) (c_gR (fun t5 => c_aR hG rfl (fun t6 => c_cv (qX8_isFullOfJoins hG t6) (fun t7 ht7 => c_cnd (kz_eq ht7 (by unfold kzI; omega) rfl rfl) (c_gR (fun t8 => c_aR hG rfl (fun t9 => c_cv (qX8_addJoin hG t9 hl2 hl3 hl4) (fun t10 ht10 => c_rt ht10 rfl)))) (c_rt (by unfold kzI; omega) rfl))))))))))))
def Z11_own_38 (G : kdS) (s0 : Int) : kzM → Option (Int × kzM) :=
  zrt s0
theorem qX11_own_38 {G : kdS} (hG : kzG G) {s0 : Int} (hs0 : kzI s0) : CRi (Z11_own_38 G s0) (X11_own_38 G (Int32.ofInt s0)) := by
  unfold Z11_own_38 X11_own_38
  exact c_rt hs0 rfl
def Z11_own (G : kdS) (l0 : Nat) (l1 : Int) (l2 : Int) (l3 : Int) : kzM → Option (Int × kzM) :=
  zcl (Z11_isTongue G l1) fun t1 =>
  zcnd (t1 = (0 : Int))
  (zrt (-1 : Int))
  (zcl (Z11_isLetter G l2) fun t2 =>
  zcnd (t2 = (0 : Int))
  (zrt (-2 : Int))
  (zgR G 11 2 l0 fun t3 =>
  zaR G 17 t3 l1 fun t4 =>
  zcv G 8 t4 (Z8_setLetter G t4 l2 l3) fun t5 =>
  zcnd (t5 = (0 : Int))
  (Z11_own_38 G (0 : Int))
  (Z11_own_38 G (1 : Int))))
theorem qX11_own {G : kdS} (hG : kzG G) (l0 : Nat) {l1 : Int} (hl1 : kzI l1) {l2 : Int} (hl2 : kzI l2) {l3 : Int} (hl3 : kzI l3) : CRi (Z11_own G l0 l1 l2 l3) (X11_own G l0 (Int32.ofInt l1) (Int32.ofInt l2) (Int32.ofInt l3)) := by
  unfold Z11_own X11_own
  exact c_cl (qX11_isTongue hG hl1) (fun t1 ht1 => c_cnd (kz_eq ht1 (by unfold kzI; omega) rfl rfl) (c_rt (by unfold kzI; omega) rfl) (c_cl (qX11_isLetter hG hl2) (fun t2 ht2 => c_cnd (kz_eq ht2 (by unfold kzI; omega) rfl rfl) (c_rt (by unfold kzI; omega) rfl) (c_gR (fun t3 => c_aR hG rfl (fun t4 => c_cv (qX8_setLetter hG t4 hl2 hl3) (fun t5 ht5 => c_cnd (kz_eq ht5 (by unfold kzI; omega) rfl rfl) ((qX11_own_38 hG (by unfold kzI; omega))) ((qX11_own_38 hG (by unfold kzI; omega))))))))))
def Z11_quarrel_21 (G : kdS) (s0 : Int) : kzM → Option (Int × kzM) :=
  zrt s0
theorem qX11_quarrel_21 {G : kdS} (hG : kzG G) {s0 : Int} (hs0 : kzI s0) : CRi (Z11_quarrel_21 G s0) (X11_quarrel_21 G (Int32.ofInt s0)) := by
  unfold Z11_quarrel_21 X11_quarrel_21
  exact c_rt hs0 rfl
def Z11_quarrel (G : kdS) (l0 : Nat) (l1 : Int) (l2 : Int) : kzM → Option (Int × kzM) :=
  zcl (Z11_isTongue G l1) fun t1 =>
  zcnd (t1 = (0 : Int))
  (Z11_quarrel_21 G (-1 : Int))
  (zgR G 11 2 l0 fun t2 =>
  zaR G 17 t2 l1 fun t3 =>
  zcv G 8 t3 (Z8_quarrelAt G t3 l2) fun t4 =>
  Z11_quarrel_21 G t4)
theorem qX11_quarrel {G : kdS} (hG : kzG G) (l0 : Nat) {l1 : Int} (hl1 : kzI l1) {l2 : Int} (hl2 : kzI l2) : CRi (Z11_quarrel G l0 l1 l2) (X11_quarrel G l0 (Int32.ofInt l1) (Int32.ofInt l2)) := by
  unfold Z11_quarrel X11_quarrel
  exact c_cl (qX11_isTongue hG hl1) (fun t1 ht1 => c_cnd (kz_eq ht1 (by unfold kzI; omega) rfl rfl) ((qX11_quarrel_21 hG (by unfold kzI; omega))) (c_gR (fun t2 => c_aR hG rfl (fun t3 => c_cv (qX8_quarrelAt hG t3 hl2) (fun t4 ht4 => (qX11_quarrel_21 hG ht4))))))
def Z11_idle (G : kdS) (l0 : Nat) (l1 : Int) (l2 : Int) : kzM → Option (Int × kzM) :=
  zcl (Z11_isTongue G l1) fun t1 =>
  zcnd (t1 = (0 : Int))
  (zrt (-1 : Int))
  (zcnd (l2 = (0 : Int))
  (zgR G 11 2 l0 fun t2 =>
  zaR G 17 t2 l1 fun t3 =>
  zcv G 8 t3 (Z8_idleRules G t3) fun t4 =>
  zrt t4)
  (zcnd (l2 = (1 : Int))
  (zgR G 11 2 l0 fun t5 =>
  zaR G 17 t5 l1 fun t6 =>
  zcv G 8 t6 (Z8_unusedKeys G t6) fun t7 =>
  zrt t7)
  (zrt (-2 : Int))))
theorem qX11_idle {G : kdS} (hG : kzG G) (l0 : Nat) {l1 : Int} (hl1 : kzI l1) {l2 : Int} (hl2 : kzI l2) : CRi (Z11_idle G l0 l1 l2) (X11_idle G l0 (Int32.ofInt l1) (Int32.ofInt l2)) := by
  unfold Z11_idle X11_idle
  exact c_cl (qX11_isTongue hG hl1) (fun t1 ht1 => c_cnd (kz_eq ht1 (by unfold kzI; omega) rfl rfl) (c_rt (by unfold kzI; omega) rfl) (c_cnd (kz_eq hl2 (by unfold kzI; omega) rfl rfl) (c_gR (fun t2 => c_aR hG rfl (fun t3 => c_cv (qX8_idleRules hG t3) (fun t4 ht4 => c_rt ht4 rfl)))) (c_cnd (kz_eq hl2 (by unfold kzI; omega) rfl rfl) (c_gR (fun t5 => c_aR hG rfl (fun t6 => c_cv (qX8_unusedKeys hG t6) (fun t7 ht7 => c_rt ht7 rfl)))) (c_rt (by unfold kzI; omega) rfl))))
def Z11_missing_21 (G : kdS) (s0 : Int) : kzM → Option (Int × kzM) :=
  zrt s0
theorem qX11_missing_21 {G : kdS} (hG : kzG G) {s0 : Int} (hs0 : kzI s0) : CRi (Z11_missing_21 G s0) (X11_missing_21 G (Int32.ofInt s0)) := by
  unfold Z11_missing_21 X11_missing_21
  exact c_rt hs0 rfl
def Z11_missing (G : kdS) (l0 : Nat) (l1 : Int) (l2 : Int) : kzM → Option (Int × kzM) :=
  zcl (Z11_isTongue G l1) fun t1 =>
  zcnd (t1 = (0 : Int))
  (Z11_missing_21 G (-1 : Int))
  (zgR G 11 2 l0 fun t2 =>
  zaR G 17 t2 l1 fun t3 =>
  zcv G 8 t3 (Z8_missingAt G t3 l2) fun t4 =>
  Z11_missing_21 G t4)
theorem qX11_missing {G : kdS} (hG : kzG G) (l0 : Nat) {l1 : Int} (hl1 : kzI l1) {l2 : Int} (hl2 : kzI l2) : CRi (Z11_missing G l0 l1 l2) (X11_missing G l0 (Int32.ofInt l1) (Int32.ofInt l2)) := by
  unfold Z11_missing X11_missing
  exact c_cl (qX11_isTongue hG hl1) (fun t1 ht1 => c_cnd (kz_eq ht1 (by unfold kzI; omega) rfl rfl) ((qX11_missing_21 hG (by unfold kzI; omega))) (c_gR (fun t2 => c_aR hG rfl (fun t3 => c_cv (qX8_missingAt hG t3 hl2) (fun t4 ht4 => (qX11_missing_21 hG ht4))))))
def Z11_speak_19 (G : kdS) (s0 : Int) : kzM → Option (Int × kzM) :=
  zrt s0
theorem qX11_speak_19 {G : kdS} (hG : kzG G) {s0 : Int} (hs0 : kzI s0) : CRi (Z11_speak_19 G s0) (X11_speak_19 G (Int32.ofInt s0)) := by
  unfold Z11_speak_19 X11_speak_19
  exact c_rt hs0 rfl
def Z11_speak (G : kdS) (l0 : Nat) (l1 : Int) : kzM → Option (Int × kzM) :=
  zcl (Z11_isTongue G l1) fun t1 =>
  zcnd (t1 = (0 : Int))
  (Z11_speak_19 G (-1 : Int))
  (zgR G 11 3 l0 fun t2 =>
  zcv G 4 t2 (Z4_setTongue G t2 l1) fun t3 =>
  Z11_speak_19 G t3)
theorem qX11_speak {G : kdS} (hG : kzG G) (l0 : Nat) {l1 : Int} (hl1 : kzI l1) : CRi (Z11_speak G l0 l1) (X11_speak G l0 (Int32.ofInt l1)) := by
  unfold Z11_speak X11_speak
  exact c_cl (qX11_isTongue hG hl1) (fun t1 ht1 => c_cnd (kz_eq ht1 (by unfold kzI; omega) rfl rfl) ((qX11_speak_19 hG (by unfold kzI; omega))) (c_gR (fun t2 => c_cv (qX4_setTongue hG t2 hl1) (fun t3 ht3 => (qX11_speak_19 hG ht3)))))
def Z11_strike_25 (G : kdS) : kzM → Option (Int × kzM) :=
  zrt (-2 : Int)
theorem qX11_strike_25 {G : kdS} (hG : kzG G) : CRi (Z11_strike_25 G) (X11_strike_25 G) := by
  unfold Z11_strike_25 X11_strike_25
  exact c_rt (by unfold kzI; omega) rfl
def Z11_strike (G : kdS) (l0 : Nat) (l1 : Int) (l2 : Int) : kzM → Option (Int × kzM) :=
  zgR G 11 3 l0 fun t1 =>
  zcv G 4 t1 (Z4_strokes G t1) fun t2 =>
  zcv G 6 t2 (Z6_size G t2) fun t3 =>
  zcl (Z11_within G l1 (0 : Int) t3) fun t4 =>
  zcnd (t4 = (0 : Int))
  (Z11_strike_25 G)
  (zcl (Z11_isKey G l2) fun t5 =>
  zcnd (t5 = (0 : Int))
  (Z11_strike_25 G)
  (zgR G 11 3 l0 fun t6 =>
  zcv G 4 t6 (Z4_strokes G t6) fun t7 =>
  zcv G 6 t7 (Z6_isFull G t7) fun t8 =>
  zcnd (t8 = (0 : Int))
  (zgR G 11 3 l0 fun t9 =>
  zcv G 4 t9 (Z4_strokes G t9) fun t10 =>
  zcv G 6 t10 (Z6_insert G t10 l1 l2) fun _ =>
  zgR G 11 3 l0 fun t11 =>
  zcv G 4 t11 (Z4_strokes G t11) fun t12 =>
  zcv G 6 t12 (Z6_size G t12) fun t13 =>
  zrt t13)
  (zrt (-4 : Int))))
theorem qX11_strike {G : kdS} (hG : kzG G) (l0 : Nat) {l1 : Int} (hl1 : kzI l1) {l2 : Int} (hl2 : kzI l2) : CRi (Z11_strike G l0 l1 l2) (X11_strike G l0 (Int32.ofInt l1) (Int32.ofInt l2)) := by
  unfold Z11_strike X11_strike
  exact c_gR (fun t1 => c_cv (qX4_strokes hG t1) (fun t2 _ => c_cv (qX6_size hG t2) (fun t3 ht3 => c_cl (qX11_within hG hl1 (by unfold kzI; omega) ht3) (fun t4 ht4 => c_cnd (kz_eq ht4 (by unfold kzI; omega) rfl rfl) ((qX11_strike_25 hG)) (c_cl (qX11_isKey hG hl2) (fun t5 ht5 => c_cnd (kz_eq ht5 (by unfold kzI; omega) rfl rfl) ((qX11_strike_25 hG)) (c_gR (fun t6 => c_cv (qX4_strokes hG t6) (fun t7 _ => c_cv (qX6_isFull hG t7) (fun t8 ht8 => c_cnd (kz_eq ht8 (by unfold kzI; omega) rfl rfl) (c_gR (fun t9 => c_cv (qX4_strokes hG t9) (fun t10 _ => c_cv (qX6_insert hG t10 hl1 hl2) (fun _ _ => c_gR (fun t11 => c_cv (qX4_strokes hG t11) (fun t12 _ => c_cv (qX6_size hG t12) (fun t13 ht13 => c_rt ht13 rfl))))))) (c_rt (by unfold kzI; omega) rfl)))))))))))
def Z11_change_38 (G : kdS) (s0 : Int) : kzM → Option (Int × kzM) :=
  zrt s0
theorem qX11_change_38 {G : kdS} (hG : kzG G) {s0 : Int} (hs0 : kzI s0) : CRi (Z11_change_38 G s0) (X11_change_38 G (Int32.ofInt s0)) := by
  unfold Z11_change_38 X11_change_38
  exact c_rt hs0 rfl
def Z11_change_36 (G : kdS) : kzM → Option (Int × kzM) :=
  Z11_change_38 G (-2 : Int)
theorem qX11_change_36 {G : kdS} (hG : kzG G) : CRi (Z11_change_36 G) (X11_change_36 G) := by
  unfold Z11_change_36 X11_change_36
  exact (qX11_change_38 hG (by unfold kzI; omega))
def Z11_change (G : kdS) (l0 : Nat) (l1 : Int) (l2 : Int) : kzM → Option (Int × kzM) :=
  zgR G 11 3 l0 fun t1 =>
  zcv G 4 t1 (Z4_strokes G t1) fun t2 =>
  zcv G 6 t2 (Z6_has G t2 l1) fun t3 =>
  zcnd (t3 = (0 : Int))
  (Z11_change_36 G)
  (zcl (Z11_isKey G l2) fun t4 =>
  zcnd (t4 = (0 : Int))
  (Z11_change_36 G)
  (zgR G 11 3 l0 fun t5 =>
  zcv G 4 t5 (Z4_strokes G t5) fun t6 =>
  zcv G 6 t6 (Z6_replace G t6 l1 l2) fun t7 =>
  Z11_change_38 G t7))
theorem qX11_change {G : kdS} (hG : kzG G) (l0 : Nat) {l1 : Int} (hl1 : kzI l1) {l2 : Int} (hl2 : kzI l2) : CRi (Z11_change G l0 l1 l2) (X11_change G l0 (Int32.ofInt l1) (Int32.ofInt l2)) := by
  unfold Z11_change X11_change
  exact c_gR (fun t1 => c_cv (qX4_strokes hG t1) (fun t2 _ => c_cv (qX6_has hG t2 hl1) (fun t3 ht3 => c_cnd (kz_eq ht3 (by unfold kzI; omega) rfl rfl) ((qX11_change_36 hG)) (c_cl (qX11_isKey hG hl2) (fun t4 ht4 => c_cnd (kz_eq ht4 (by unfold kzI; omega) rfl rfl) ((qX11_change_36 hG)) (c_gR (fun t5 => c_cv (qX4_strokes hG t5) (fun t6 _ => c_cv (qX6_replace hG t6 hl1 hl2) (fun t7 ht7 => (qX11_change_38 hG ht7))))))))))
def Z11_back_30 (G : kdS) (s0 : Int) : kzM → Option (Int × kzM) :=
  zrt s0
theorem qX11_back_30 {G : kdS} (hG : kzG G) {s0 : Int} (hs0 : kzI s0) : CRi (Z11_back_30 G s0) (X11_back_30 G (Int32.ofInt s0)) := by
  unfold Z11_back_30 X11_back_30
  exact c_rt hs0 rfl
def Z11_back (G : kdS) (l0 : Nat) (l1 : Int) : kzM → Option (Int × kzM) :=
  zgR G 11 3 l0 fun t1 =>
  zcv G 4 t1 (Z4_strokes G t1) fun t2 =>
  zcv G 6 t2 (Z6_has G t2 l1) fun t3 =>
  zcnd (t3 = (0 : Int))
  (Z11_back_30 G (-2 : Int))
  (zgR G 11 3 l0 fun t4 =>
  zcv G 4 t4 (Z4_strokes G t4) fun t5 =>
  zcv G 6 t5 (Z6_remove G t5 l1) fun t6 =>
  Z11_back_30 G t6)
theorem qX11_back {G : kdS} (hG : kzG G) (l0 : Nat) {l1 : Int} (hl1 : kzI l1) : CRi (Z11_back G l0 l1) (X11_back G l0 (Int32.ofInt l1)) := by
  unfold Z11_back X11_back
  exact c_gR (fun t1 => c_cv (qX4_strokes hG t1) (fun t2 _ => c_cv (qX6_has hG t2 hl1) (fun t3 ht3 => c_cnd (kz_eq ht3 (by unfold kzI; omega) rfl rfl) ((qX11_back_30 hG (by unfold kzI; omega))) (c_gR (fun t4 => c_cv (qX4_strokes hG t4) (fun t5 _ => c_cv (qX6_remove hG t5 hl1) (fun t6 ht6 => (qX11_back_30 hG ht6))))))))
def Z11_tongueOfLine (G : kdS) (l0 : Nat) : kzM → Option (Nat × kzM) :=
  zgR G 11 2 l0 fun t1 =>
  zgR G 11 3 l0 fun t2 =>
  zcv G 4 t2 (Z4_tongue G t2) fun t3 =>
  zaR G 17 t1 t3 fun t4 =>
  zrt t4
theorem qX11_tongueOfLine {G : kdS} (hG : kzG G) (l0 : Nat) : CRn (Z11_tongueOfLine G l0) (X11_tongueOfLine G l0) := by
  unfold Z11_tongueOfLine X11_tongueOfLine
  exact c_gR (fun t1 => c_gR (fun t2 => c_cv (qX4_tongue hG t2) (fun t3 ht3 => c_aR hG rfl (fun t4 => c_rt trivial rfl))))
def Z11_stands_67 (G : kdS) (s0 : Int) : kzM → Option (Int × kzM) :=
  zrt s0
theorem qX11_stands_67 {G : kdS} (hG : kzG G) {s0 : Int} (hs0 : kzI s0) : CRi (Z11_stands_67 G s0) (X11_stands_67 G (Int32.ofInt s0)) := by
  unfold Z11_stands_67 X11_stands_67
  exact c_rt hs0 rfl
def Z11_stands (G : kdS) (l0 : Nat) (l1 : Int) : kzM → Option (Int × kzM) :=
  zcnd ((-1 : Int) ≤ l1)
  (zgR G 11 3 l0 fun t1 =>
  zcv G 11 l0 (Z11_tongueOfLine G l0) fun t2 =>
  zcv G 4 t1 (Z4_write G t1 t2) fun _ =>
  zcnd (l1 = (-1 : Int))
  (zgR G 11 3 l0 fun t3 =>
  zcv G 4 t3 (Z4_signs G t3) fun t4 =>
  zcv G 6 t4 (Z6_size G t4) fun t5 =>
  zrt t5)
  (zgR G 11 3 l0 fun t6 =>
  zcv G 4 t6 (Z4_signs G t6) fun t7 =>
  zcv G 6 t7 (Z6_has G t7 l1) fun t8 =>
  zcnd (t8 = (0 : Int))
  (Z11_stands_67 G (-1006 : Int))
  (zgR G 11 3 l0 fun t9 =>
  zcv G 4 t9 (Z4_signs G t9) fun t10 =>
  zcv G 6 t10 (Z6_at G t10 l1) fun t11 =>
  Z11_stands_67 G t11)))
  (zrt (-1002 : Int))
theorem qX11_stands {G : kdS} (hG : kzG G) (l0 : Nat) {l1 : Int} (hl1 : kzI l1) : CRi (Z11_stands G l0 l1) (X11_stands G l0 (Int32.ofInt l1)) := by
  unfold Z11_stands X11_stands
  exact c_cnd (kz_le (by unfold kzI; omega) hl1 rfl rfl) (c_gR (fun t1 => c_cv (qX11_tongueOfLine hG l0) (fun t2 _ => c_cv (qX4_write hG t1 t2) (fun _ _ => c_cnd (kz_eq hl1 (by unfold kzI; omega) rfl rfl) (c_gR (fun t3 => c_cv (qX4_signs hG t3) (fun t4 _ => c_cv (qX6_size hG t4) (fun t5 ht5 => c_rt ht5 rfl)))) (c_gR (fun t6 => c_cv (qX4_signs hG t6) (fun t7 _ => c_cv (qX6_has hG t7 hl1) (fun t8 ht8 => c_cnd (kz_eq ht8 (by unfold kzI; omega) rfl rfl) ((qX11_stands_67 hG (by unfold kzI; omega))) (c_gR (fun t9 => c_cv (qX4_signs hG t9) (fun t10 _ => c_cv (qX6_at hG t10 hl1) (fun t11 ht11 => (qX11_stands_67 hG ht11))))))))))))) (c_rt (by unfold kzI; omega) rfl)
def Z11_piece (G : kdS) (l0 : Nat) (l1 : Int) : kzM → Option (Int × kzM) :=
  zgR G 11 3 l0 fun t1 =>
  zcv G 11 l0 (Z11_tongueOfLine G l0) fun t2 =>
  zcv G 4 t1 (Z4_cut G t1 t2) fun _ =>
  zgR G 11 3 l0 fun t3 =>
  zcv G 4 t3 (Z4_pieceAt G t3 l1) fun t4 =>
  zrt t4
theorem qX11_piece {G : kdS} (hG : kzG G) (l0 : Nat) {l1 : Int} (hl1 : kzI l1) : CRi (Z11_piece G l0 l1) (X11_piece G l0 (Int32.ofInt l1)) := by
  unfold Z11_piece X11_piece
  exact c_gR (fun t1 => c_cv (qX11_tongueOfLine hG l0) (fun t2 _ => c_cv (qX4_cut hG t1 t2) (fun _ _ => c_gR (fun t3 => c_cv (qX4_pieceAt hG t3 hl1) (fun t4 ht4 => c_rt ht4 rfl)))))
def Z11_could (G : kdS) (l0 : Nat) : kzM → Option (Int × kzM) :=
  zgR G 11 3 l0 fun t1 =>
  zcv G 11 l0 (Z11_tongueOfLine G l0) fun t2 =>
  zcv G 4 t1 (Z4_onward G t1 t2) fun t3 =>
  zrt t3
theorem qX11_could {G : kdS} (hG : kzG G) (l0 : Nat) : CRi (Z11_could G l0) (X11_could G l0) := by
  unfold Z11_could X11_could
  exact c_gR (fun t1 => c_cv (qX11_tongueOfLine hG l0) (fun t2 _ => c_cv (qX4_onward hG t1 t2) (fun t3 ht3 => c_rt ht3 rfl)))
def Z11_word_30 (G : kdS) : kzM → Option (Int × kzM) :=
  zrt (-2 : Int)
theorem qX11_word_30 {G : kdS} (hG : kzG G) : CRi (Z11_word_30 G) (X11_word_30 G) := by
  unfold Z11_word_30 X11_word_30
  exact c_rt (by unfold kzI; omega) rfl
def Z11_word_68 (G : kdS) : kzM → Option (Int × kzM) :=
  zrt (-5 : Int)
theorem qX11_word_68 {G : kdS} (hG : kzG G) : CRi (Z11_word_68 G) (X11_word_68 G) := by
  unfold Z11_word_68 X11_word_68
  exact c_rt (by unfold kzI; omega) rfl
def Z11_word (G : kdS) (l0 : Nat) (l1 : Int) (l2 : Int) (l3 : Int) : kzM → Option (Int × kzM) :=
  zcl (Z11_isTongue G l1) fun t1 =>
  zcnd (t1 = (0 : Int))
  (zrt (-1 : Int))
  (zcl (Z11_within G l2 (1 : Int) (999 : Int)) fun t2 =>
  zcnd (t2 = (0 : Int))
  (Z11_word_30 G)
  (zcl (Z11_within G l3 (1 : Int) (100 : Int)) fun t3 =>
  zcnd (t3 = (0 : Int))
  (Z11_word_30 G)
  (zgR G 11 4 l0 fun t4 =>
  zcv G 10 t4 (Z10_isFull G t4) fun t5 =>
  zcnd (t5 = (0 : Int))
  (zgR G 11 0 l0 fun t6 =>
  zcv G 6 t6 (Z6_isEmpty G t6) fun t7 =>
  zcnd (t7 = (0 : Int))
  (zgR G 11 0 l0 fun t8 =>
  zcv G 6 t8 (Z6_size G t8) fun t9 =>
  zcnd (t9 ≤ (8 : Int))
  (zgR G 11 4 l0 fun t10 =>
  zgR G 11 0 l0 fun t11 =>
  zcv G 10 t10 (Z10_addWord G t10 l1 l2 l3 t11) fun t12 =>
  zgR G 11 0 l0 fun t13 =>
  zcv G 6 t13 (Z6_clear G t13) fun t14 =>
  zrt t12)
  (Z11_word_68 G))
  (Z11_word_68 G))
  (zrt (-4 : Int)))))
theorem qX11_word {G : kdS} (hG : kzG G) (l0 : Nat) {l1 : Int} (hl1 : kzI l1) {l2 : Int} (hl2 : kzI l2) {l3 : Int} (hl3 : kzI l3) : CRi (Z11_word G l0 l1 l2 l3) (X11_word G l0 (Int32.ofInt l1) (Int32.ofInt l2) (Int32.ofInt l3)) := by
  unfold Z11_word X11_word
  exact c_cl (qX11_isTongue hG hl1) (fun t1 ht1 => c_cnd (kz_eq ht1 (by unfold kzI; omega) rfl rfl) (c_rt (by unfold kzI; omega) rfl) (c_cl (qX11_within hG hl2 (by unfold kzI; omega) (by unfold kzI; omega)) (fun t2 ht2 => c_cnd (kz_eq ht2 (by unfold kzI; omega) rfl rfl) ((qX11_word_30 hG)) (c_cl (qX11_within hG hl3 (by unfold kzI; omega) (by unfold kzI; omega)) (fun t3 ht3 => c_cnd (kz_eq ht3 (by unfold kzI; omega) rfl rfl) ((qX11_word_30 hG)) (c_gR (fun t4 => c_cv (qX10_isFull hG t4) (fun t5 ht5 => c_cnd (kz_eq ht5 (by unfold kzI; omega) rfl rfl) (c_gR (fun t6 => c_cv (qX6_isEmpty hG t6) (fun t7 ht7 => c_cnd (kz_eq ht7 (by unfold kzI; omega) rfl rfl) (c_gR (fun t8 => c_cv (qX6_size hG t8) (fun t9 ht9 => c_cnd (kz_le ht9 (by unfold kzI; omega) rfl rfl) (c_gR (fun t10 => c_gR (fun t11 => c_cv (qX10_addWord hG t10 hl1 hl2 hl3 t11) (fun t12 ht12 => c_gR (fun t13 => c_cv (qX6_clear hG t13) (fun t14 ht14 => c_rt ht12 rfl)))))) ((qX11_word_68 hG))))) ((qX11_word_68 hG))))) (c_rt (by unfold kzI; omega) rfl)))))))))
def Z11_ofWord_130 (G : kdS) (s0 : Int) : kzM → Option (Int × kzM) :=
  zrt s0
theorem qX11_ofWord_130 {G : kdS} (hG : kzG G) {s0 : Int} (hs0 : kzI s0) : CRi (Z11_ofWord_130 G s0) (X11_ofWord_130 G (Int32.ofInt s0)) := by
  unfold Z11_ofWord_130 X11_ofWord_130
  exact c_rt hs0 rfl
def Z11_ofWord (G : kdS) (l0 : Nat) (l1 : Int) (l2 : Int) : kzM → Option (Int × kzM) :=
  zgR G 11 4 l0 fun t1 =>
  zcv G 10 t1 (Z10_has G t1 l1) fun t2 =>
  zcnd (t2 = (0 : Int))
  (zrt (-1 : Int))
  (zcnd (l2 = (0 : Int))
  (zgR G 11 4 l0 fun t3 =>
  zcv G 10 t3 (Z10_tongueOf G t3 l1) fun t4 =>
  zrt t4)
  (zcnd (l2 = (1 : Int))
  (zgR G 11 4 l0 fun t5 =>
  zcv G 10 t5 (Z10_signOf G t5 l1) fun t6 =>
  zrt t6)
  (zcnd (l2 = (2 : Int))
  (zgR G 11 4 l0 fun t7 =>
  zcv G 10 t7 (Z10_countOf G t7 l1) fun t8 =>
  zrt t8)
  (zcnd (l2 = (3 : Int))
  (zgR G 11 4 l0 fun t9 =>
  zcv G 10 t9 (Z10_keysOf G t9 l1) fun t10 =>
  zcv G 6 t10 (Z6_size G t10) fun t11 =>
  zrt t11)
  (zcnd ((10 : Int) ≤ l2)
  (zgR G 11 4 l0 fun t12 =>
  zcv G 10 t12 (Z10_keysOf G t12 l1) fun t13 =>
  zlI (l2 - (10 : Int)) fun u1 =>
  zcv G 6 t13 (Z6_has G t13 u1) fun t14 =>
  zcnd (t14 = (0 : Int))
  (Z11_ofWord_130 G (-6 : Int))
  (zgR G 11 4 l0 fun t15 =>
  zcv G 10 t15 (Z10_keysOf G t15 l1) fun t16 =>
  zlI (l2 - (10 : Int)) fun u2 =>
  zcv G 6 t16 (Z6_at G t16 u2) fun t17 =>
  Z11_ofWord_130 G t17))
  (zrt (-2 : Int)))))))
theorem qX11_ofWord {G : kdS} (hG : kzG G) (l0 : Nat) {l1 : Int} (hl1 : kzI l1) {l2 : Int} (hl2 : kzI l2) : CRi (Z11_ofWord G l0 l1 l2) (X11_ofWord G l0 (Int32.ofInt l1) (Int32.ofInt l2)) := by
  unfold Z11_ofWord X11_ofWord
  exact c_gR (fun t1 => c_cv (qX10_has hG t1 hl1) (fun t2 ht2 => c_cnd (kz_eq ht2 (by unfold kzI; omega) rfl rfl) (c_rt (by unfold kzI; omega) rfl) (c_cnd (kz_eq hl2 (by unfold kzI; omega) rfl rfl) (c_gR (fun t3 => c_cv (qX10_tongueOf hG t3 hl1) (fun t4 ht4 => c_rt ht4 rfl))) (c_cnd (kz_eq hl2 (by unfold kzI; omega) rfl rfl) (c_gR (fun t5 => c_cv (qX10_signOf hG t5 hl1) (fun t6 ht6 => c_rt ht6 rfl))) (c_cnd (kz_eq hl2 (by unfold kzI; omega) rfl rfl) (c_gR (fun t7 => c_cv (qX10_countOf hG t7 hl1) (fun t8 ht8 => c_rt ht8 rfl))) (c_cnd (kz_eq hl2 (by unfold kzI; omega) rfl rfl) (c_gR (fun t9 => c_cv (qX10_keysOf hG t9 hl1) (fun t10 _ => c_cv (qX6_size hG t10) (fun t11 ht11 => c_rt ht11 rfl)))) (c_cnd (kz_le (by unfold kzI; omega) hl2 rfl rfl) (c_gR (fun t12 => c_cv (qX10_keysOf hG t12 hl1) (fun t13 _ => c_rg (kz_sub rfl rfl) fun u1 r1 e1 => c_cv (e1 ▸ (qX6_has hG t13 r1)) (fun t14 ht14 => c_cnd (kz_eq ht14 (by unfold kzI; omega) rfl rfl) ((qX11_ofWord_130 hG (by unfold kzI; omega))) (c_gR (fun t15 => c_cv (qX10_keysOf hG t15 hl1) (fun t16 _ => c_rg (kz_sub rfl rfl) fun u2 r2 e2 => c_cv (e2 ▸ (qX6_at hG t16 r2)) (fun t17 ht17 => (qX11_ofWord_130 hG ht17))))))))) (c_rt (by unfold kzI; omega) rfl))))))))
def Z11_count_37 (G : kdS) (s0 : Int) : kzM → Option (Int × kzM) :=
  zrt s0
theorem qX11_count_37 {G : kdS} (hG : kzG G) {s0 : Int} (hs0 : kzI s0) : CRi (Z11_count_37 G s0) (X11_count_37 G (Int32.ofInt s0)) := by
  unfold Z11_count_37 X11_count_37
  exact c_rt hs0 rfl
def Z11_count (G : kdS) (l0 : Nat) (l1 : Int) (l2 : Int) : kzM → Option (Int × kzM) :=
  zgR G 11 4 l0 fun t1 =>
  zcv G 10 t1 (Z10_has G t1 l1) fun t2 =>
  zcnd (t2 = (0 : Int))
  (zrt (-1 : Int))
  (zcl (Z11_within G l2 (1 : Int) (100 : Int)) fun t3 =>
  zcnd (t3 = (0 : Int))
  (Z11_count_37 G (-2 : Int))
  (zgR G 11 4 l0 fun t4 =>
  zcv G 10 t4 (Z10_setCount G t4 l1 l2) fun t5 =>
  Z11_count_37 G t5))
theorem qX11_count {G : kdS} (hG : kzG G) (l0 : Nat) {l1 : Int} (hl1 : kzI l1) {l2 : Int} (hl2 : kzI l2) : CRi (Z11_count G l0 l1 l2) (X11_count G l0 (Int32.ofInt l1) (Int32.ofInt l2)) := by
  unfold Z11_count X11_count
  exact c_gR (fun t1 => c_cv (qX10_has hG t1 hl1) (fun t2 ht2 => c_cnd (kz_eq ht2 (by unfold kzI; omega) rfl rfl) (c_rt (by unfold kzI; omega) rfl) (c_cl (qX11_within hG hl2 (by unfold kzI; omega) (by unfold kzI; omega)) (fun t3 ht3 => c_cnd (kz_eq ht3 (by unfold kzI; omega) rfl rfl) ((qX11_count_37 hG (by unfold kzI; omega))) (c_gR (fun t4 => c_cv (qX10_setCount hG t4 hl1 hl2) (fun t5 ht5 => (qX11_count_37 hG ht5))))))))
def Z11_price_28 (G : kdS) : kzM → Option (Int × kzM) :=
  zrt (-2 : Int)
theorem qX11_price_28 {G : kdS} (hG : kzG G) : CRi (Z11_price_28 G) (X11_price_28 G) := by
  unfold Z11_price_28 X11_price_28
  exact c_rt (by unfold kzI; omega) rfl
def Z11_price_20 (G : kdS) (l0 : Nat) (l1 : Int) (l2 : Int) (s0 : Int) (s1 : Int) : kzM → Option (Int × kzM) :=
  zcl (Z11_within G s0 s1 (20 : Int)) fun t1 =>
  zcnd (t1 = (0 : Int))
  (Z11_price_28 G)
  (zgR G 11 5 l0 fun t2 =>
  zcv G 7 t2 (Z7_setPrice G t2 l1 l2) fun t3 =>
  zrt t3)
theorem qX11_price_20 {G : kdS} (hG : kzG G) (l0 : Nat) {l1 : Int} (hl1 : kzI l1) {l2 : Int} (hl2 : kzI l2) {s0 : Int} (hs0 : kzI s0) {s1 : Int} (hs1 : kzI s1) : CRi (Z11_price_20 G l0 l1 l2 s0 s1) (X11_price_20 G l0 (Int32.ofInt l1) (Int32.ofInt l2) (Int32.ofInt s0) (Int32.ofInt s1)) := by
  unfold Z11_price_20 X11_price_20
  exact c_cl (qX11_within hG hs0 hs1 (by unfold kzI; omega)) (fun t1 ht1 => c_cnd (kz_eq ht1 (by unfold kzI; omega) rfl rfl) ((qX11_price_28 hG)) (c_gR (fun t2 => c_cv (qX7_setPrice hG t2 hl1 hl2) (fun t3 ht3 => c_rt ht3 rfl))))
def Z11_price (G : kdS) (l0 : Nat) (l1 : Int) (l2 : Int) : kzM → Option (Int × kzM) :=
  zcl (Z11_within G l1 (0 : Int) (5 : Int)) fun t1 =>
  zcnd (t1 = (0 : Int))
  (Z11_price_28 G)
  (zcnd (l1 = (5 : Int))
  (Z11_price_20 G l0 l1 l2 l2 (0 : Int))
  (Z11_price_20 G l0 l1 l2 l2 (1 : Int)))
theorem qX11_price {G : kdS} (hG : kzG G) (l0 : Nat) {l1 : Int} (hl1 : kzI l1) {l2 : Int} (hl2 : kzI l2) : CRi (Z11_price G l0 l1 l2) (X11_price G l0 (Int32.ofInt l1) (Int32.ofInt l2)) := by
  unfold Z11_price X11_price
  exact c_cl (qX11_within hG hl1 (by unfold kzI; omega) (by unfold kzI; omega)) (fun t1 ht1 => c_cnd (kz_eq ht1 (by unfold kzI; omega) rfl rfl) ((qX11_price_28 hG)) (c_cnd (kz_eq hl1 (by unfold kzI; omega) rfl rfl) ((qX11_price_20 hG l0 hl1 hl2 hl2 (by unfold kzI; omega))) ((qX11_price_20 hG l0 hl1 hl2 hl2 (by unfold kzI; omega)))))
def Z11_slip_47 (G : kdS) (s0 : Int) : kzM → Option (Int × kzM) :=
  zrt s0
theorem qX11_slip_47 {G : kdS} (hG : kzG G) {s0 : Int} (hs0 : kzI s0) : CRi (Z11_slip_47 G s0) (X11_slip_47 G (Int32.ofInt s0)) := by
  unfold Z11_slip_47 X11_slip_47
  exact c_rt hs0 rfl
def Z11_slip (G : kdS) (l0 : Nat) (l1 : Int) : kzM → Option (Int × kzM) :=
  zgR G 11 4 l0 fun t1 =>
  zcv G 10 t1 (Z10_has G t1 l1) fun t2 =>
  zcnd (t2 = (0 : Int))
  (zrt (-1 : Int))
  (zgR G 11 0 l0 fun t3 =>
  zcv G 6 t3 (Z6_isEmpty G t3) fun t4 =>
  zcnd (t4 = (0 : Int))
  (zgR G 11 5 l0 fun t5 =>
  zgR G 11 0 l0 fun t6 =>
  zgR G 11 4 l0 fun t7 =>
  zcv G 10 t7 (Z10_keysOf G t7 l1) fun t8 =>
  zcv G 7 t5 (Z7_priceOf G t5 t6 t8) fun t9 =>
  Z11_slip_47 G t9)
  (Z11_slip_47 G (-3 : Int)))
theorem qX11_slip {G : kdS} (hG : kzG G) (l0 : Nat) {l1 : Int} (hl1 : kzI l1) : CRi (Z11_slip G l0 l1) (X11_slip G l0 (Int32.ofInt l1)) := by
  unfold Z11_slip X11_slip
  exact c_gR (fun t1 => c_cv (qX10_has hG t1 hl1) (fun t2 ht2 => c_cnd (kz_eq ht2 (by unfold kzI; omega) rfl rfl) (c_rt (by unfold kzI; omega) rfl) (c_gR (fun t3 => c_cv (qX6_isEmpty hG t3) (fun t4 ht4 => c_cnd (kz_eq ht4 (by unfold kzI; omega) rfl rfl) (c_gR (fun t5 => c_gR (fun t6 => c_gR (fun t7 => c_cv (qX10_keysOf hG t7 hl1) (fun t8 _ => c_cv (qX7_priceOf hG t5 t6 t8) (fun t9 ht9 => (qX11_slip_47 hG ht9))))))) ((qX11_slip_47 hG (by unfold kzI; omega))))))))
def Z11_gather_103 (G : kdS) (k10 : Nat → Int → Int → Int → Int → Int → kzM → Option (Unit × kzM)) (l0 : Nat) (l1 : Int) (l2 : Int) (l3 : Int) (l4 : Int) (l5 : Int) : kzM → Option (Unit × kzM) :=
  zlI (l5 + (1 : Int)) fun t1 =>
  k10 l0 l1 l2 l3 l4 t1
theorem qX11_gather_103 {G : kdS} (hG : kzG G) {k10' : Nat → Int → Int → Int → Int → Int → kzM → Option (Unit × kzM)} {k10 : Nat → Int32 → Int32 → Int32 → Int32 → Int32 → kdM → Option (Unit × kdM)} (hk10 : ∀ (a0 : Nat) (a1 : Int) (_ : kzI a1) (a2 : Int) (_ : kzI a2) (a3 : Int) (_ : kzI a3) (a4 : Int) (_ : kzI a4) (a5 : Int) (_ : kzI a5), CRu (k10' a0 a1 a2 a3 a4 a5) (k10 a0 (Int32.ofInt a1) (Int32.ofInt a2) (Int32.ofInt a3) (Int32.ofInt a4) (Int32.ofInt a5))) (l0 : Nat) {l1 : Int} (hl1 : kzI l1) {l2 : Int} (hl2 : kzI l2) {l3 : Int} (hl3 : kzI l3) {l4 : Int} (hl4 : kzI l4) {l5 : Int} (hl5 : kzI l5) : CRu (Z11_gather_103 G k10' l0 l1 l2 l3 l4 l5) (X11_gather_103 G k10 l0 (Int32.ofInt l1) (Int32.ofInt l2) (Int32.ofInt l3) (Int32.ofInt l4) (Int32.ofInt l5)) := by
  unfold Z11_gather_103 X11_gather_103
  exact c_lI (kz_add rfl rfl) (fun t1 ht1 => (hk10 l0 _ hl1 _ hl2 _ hl3 _ hl4 _ ht1))
def Z11_gather_10B (G : kdS) (k10 : Nat → Int → Int → Int → Int → Int → kzM → Option (Unit × kzM)) (l0 : Nat) (l1 : Int) (l2 : Int) (l3 : Int) (l4 : Int) (l5 : Int) : kzM → Option (Unit × kzM) :=
  zgR G 11 4 l0 fun t1 =>
  zcv G 10 t1 (Z10_size G t1) fun t2 =>
  zcnd (t2 ≤ l5)
  (zrt ())
  (zgR G 11 4 l0 fun t3 =>
  zcv G 10 t3 (Z10_tongueOf G t3 l5) fun t4 =>
  zcl (Z11_hasBit G l1 t4) fun t5 =>
  zcnd (t5 = (0 : Int))
  (Z11_gather_103 G k10 l0 l1 l2 l3 l4 l5)
  (zgR G 11 5 l0 fun t6 =>
  zgR G 11 0 l0 fun t7 =>
  zgR G 11 4 l0 fun t8 =>
  zcv G 10 t8 (Z10_keysOf G t8 l5) fun t9 =>
  zcv G 7 t6 (Z7_priceOf G t6 t7 t9) fun t10 =>
  zcnd (l2 < t10)
  (Z11_gather_103 G k10 l0 l1 l2 l3 l4 l5)
  (zgR G 11 6 l0 fun t11 =>
  zgR G 11 4 l0 fun t12 =>
  zcv G 10 t12 (Z10_countOf G t12 l5) fun t13 =>
  zgR G 11 9 l0 fun t14 =>
  zcv G 2 t14 (Z2_worthOf G t14 l3 l5 l4) fun t15 =>
  zlI (((1000 : Int) * t13) + t15) fun u1 =>
  zcv G 1 t11 (Z1_insert G t11 l5 t10 u1) fun _ =>
  Z11_gather_103 G k10 l0 l1 l2 l3 l4 l5)))
theorem qX11_gather_10B {G : kdS} (hG : kzG G) {k10' : Nat → Int → Int → Int → Int → Int → kzM → Option (Unit × kzM)} {k10 : Nat → Int32 → Int32 → Int32 → Int32 → Int32 → kdM → Option (Unit × kdM)} (hk10 : ∀ (a0 : Nat) (a1 : Int) (_ : kzI a1) (a2 : Int) (_ : kzI a2) (a3 : Int) (_ : kzI a3) (a4 : Int) (_ : kzI a4) (a5 : Int) (_ : kzI a5), CRu (k10' a0 a1 a2 a3 a4 a5) (k10 a0 (Int32.ofInt a1) (Int32.ofInt a2) (Int32.ofInt a3) (Int32.ofInt a4) (Int32.ofInt a5))) (l0 : Nat) {l1 : Int} (hl1 : kzI l1) {l2 : Int} (hl2 : kzI l2) {l3 : Int} (hl3 : kzI l3) {l4 : Int} (hl4 : kzI l4) {l5 : Int} (hl5 : kzI l5) : CRu (Z11_gather_10B G k10' l0 l1 l2 l3 l4 l5) (X11_gather_10B G k10 l0 (Int32.ofInt l1) (Int32.ofInt l2) (Int32.ofInt l3) (Int32.ofInt l4) (Int32.ofInt l5)) := by
  unfold Z11_gather_10B X11_gather_10B
  exact c_gR (fun t1 => c_cv (qX10_size hG t1) (fun t2 ht2 => c_cnd (kz_le ht2 hl5 rfl rfl) (c_rt trivial rfl) (c_gR (fun t3 => c_cv (qX10_tongueOf hG t3 hl5) (fun t4 ht4 => c_cl (qX11_hasBit hG hl1 ht4) (fun t5 ht5 => c_cnd (kz_eq ht5 (by unfold kzI; omega) rfl rfl) ((qX11_gather_103 hG hk10 l0 hl1 hl2 hl3 hl4 hl5)) (c_gR (fun t6 => c_gR (fun t7 => c_gR (fun t8 => c_cv (qX10_keysOf hG t8 hl5) (fun t9 _ => c_cv (qX7_priceOf hG t6 t7 t9) (fun t10 ht10 => c_cnd (kz_lt hl2 ht10 rfl rfl) ((qX11_gather_103 hG hk10 l0 hl1 hl2 hl3 hl4 hl5)) (c_gR (fun t11 => c_gR (fun t12 => c_cv (qX10_countOf hG t12 hl5) (fun t13 ht13 => c_gR (fun t14 => c_cv (qX2_worthOf hG t14 hl3 hl5 hl4) (fun t15 ht15 => c_rg (kz_add (kz_mul rfl rfl) rfl) fun u1 r1 e1 => c_cv (e1 ▸ (qX1_insert hG t11 hl5 ht10 r1)) (fun _ _ => (qX11_gather_103 hG hk10 l0 hl1 hl2 hl3 hl4 hl5))))))))))))))))))))
def Z11_gather_10 (G : kdS) : Nat → Int → Int → Int → Int → Int → kzM → Option (Unit × kzM) := lp (fun _ _ _ _ _ _ _ => none) (Z11_gather_10B G) NN
theorem qX11_gather_10 {G : kdS} (hG : kzG G) : ∀ (a0 : Nat) (a1 : Int) (_ : kzI a1) (a2 : Int) (_ : kzI a2) (a3 : Int) (_ : kzI a3) (a4 : Int) (_ : kzI a4) (a5 : Int) (_ : kzI a5), CRu (Z11_gather_10 G a0 a1 a2 a3 a4 a5) (X11_gather_10 G a0 (Int32.ofInt a1) (Int32.ofInt a2) (Int32.ofInt a3) (Int32.ofInt a4) (Int32.ofInt a5)) :=
  lp_rel (R := fun (f' : Nat → Int → Int → Int → Int → Int → kzM → Option (Unit × kzM)) (f : Nat → Int32 → Int32 → Int32 → Int32 → Int32 → kdM → Option (Unit × kdM)) => ∀ (a0 : Nat) (a1 : Int) (_ : kzI a1) (a2 : Int) (_ : kzI a2) (a3 : Int) (_ : kzI a3) (a4 : Int) (_ : kzI a4) (a5 : Int) (_ : kzI a5), CRu (f' a0 a1 a2 a3 a4 a5) (f a0 (Int32.ofInt a1) (Int32.ofInt a2) (Int32.ofInt a3) (Int32.ofInt a4) (Int32.ofInt a5))) (by intros; exact c_no) (fun _ _ hf a0 a1 ha1 a2 ha2 a3 ha3 a4 ha4 a5 ha5 => qX11_gather_10B hG hf a0 ha1 ha2 ha3 ha4 ha5) NN
def Z11_gather (G : kdS) (l0 : Nat) (l1 : Int) (l2 : Int) (l3 : Int) (l4 : Int) : kzM → Option (Unit × kzM) :=
  zgR G 11 6 l0 fun t1 =>
  zcv G 1 t1 (Z1_clear G t1) fun _ =>
  Z11_gather_10 G l0 l1 l2 l3 l4 (0 : Int)
theorem qX11_gather {G : kdS} (hG : kzG G) (l0 : Nat) {l1 : Int} (hl1 : kzI l1) {l2 : Int} (hl2 : kzI l2) {l3 : Int} (hl3 : kzI l3) {l4 : Int} (hl4 : kzI l4) : CRu (Z11_gather G l0 l1 l2 l3 l4) (X11_gather G l0 (Int32.ofInt l1) (Int32.ofInt l2) (Int32.ofInt l3) (Int32.ofInt l4)) := by
  unfold Z11_gather X11_gather
  exact c_gR (fun t1 => c_cv (qX1_clear hG t1) (fun _ _ => (qX11_gather_10 hG l0 _ hl1 _ hl2 _ hl3 _ hl4 _ (by unfold kzI; omega))))
def Z11_guess_20 (G : kdS) : kzM → Option (Int × kzM) :=
  zrt (-2 : Int)
theorem qX11_guess_20 {G : kdS} (hG : kzG G) : CRi (Z11_guess_20 G) (X11_guess_20 G) := by
  unfold Z11_guess_20 X11_guess_20
  exact c_rt (by unfold kzI; omega) rfl
def Z11_guess (G : kdS) (l0 : Nat) (l1 : Int) (l2 : Int) (l3 : Int) : kzM → Option (Int × kzM) :=
  zcl (Z11_within G l1 (1 : Int) (7 : Int)) fun t1 =>
  zcnd (t1 = (0 : Int))
  (Z11_guess_20 G)
  (zcl (Z11_within G l2 (0 : Int) (60 : Int)) fun t2 =>
  zcnd (t2 = (0 : Int))
  (Z11_guess_20 G)
  (zgR G 11 0 l0 fun t3 =>
  zcv G 6 t3 (Z6_isEmpty G t3) fun t4 =>
  zcnd (t4 = (0 : Int))
  (zcv G 11 l0 (Z11_gather G l0 l1 l2 (-1 : Int) (0 : Int)) fun _ =>
  zgR G 11 6 l0 fun t5 =>
  zcv G 1 t5 (Z1_guessAt G t5 l3) fun t6 =>
  zrt t6)
  (zrt (-3 : Int))))
theorem qX11_guess {G : kdS} (hG : kzG G) (l0 : Nat) {l1 : Int} (hl1 : kzI l1) {l2 : Int} (hl2 : kzI l2) {l3 : Int} (hl3 : kzI l3) : CRi (Z11_guess G l0 l1 l2 l3) (X11_guess G l0 (Int32.ofInt l1) (Int32.ofInt l2) (Int32.ofInt l3)) := by
  unfold Z11_guess X11_guess
  exact c_cl (qX11_within hG hl1 (by unfold kzI; omega) (by unfold kzI; omega)) (fun t1 ht1 => c_cnd (kz_eq ht1 (by unfold kzI; omega) rfl rfl) ((qX11_guess_20 hG)) (c_cl (qX11_within hG hl2 (by unfold kzI; omega) (by unfold kzI; omega)) (fun t2 ht2 => c_cnd (kz_eq ht2 (by unfold kzI; omega) rfl rfl) ((qX11_guess_20 hG)) (c_gR (fun t3 => c_cv (qX6_isEmpty hG t3) (fun t4 ht4 => c_cnd (kz_eq ht4 (by unfold kzI; omega) rfl rfl) (c_cv (qX11_gather hG l0 hl1 hl2 (by unfold kzI; omega) (by unfold kzI; omega)) (fun _ _ => c_gR (fun t5 => c_cv (qX1_guessAt hG t5 hl3) (fun t6 ht6 => c_rt ht6 rfl)))) (c_rt (by unfold kzI; omega) rfl)))))))
def Z11_partPad_47 (G : kdS) (s0 : Int) : kzM → Option (Int × kzM) :=
  zrt s0
theorem qX11_partPad_47 {G : kdS} (hG : kzG G) {s0 : Int} (hs0 : kzI s0) : CRi (Z11_partPad_47 G s0) (X11_partPad_47 G (Int32.ofInt s0)) := by
  unfold Z11_partPad_47 X11_partPad_47
  exact c_rt hs0 rfl
def Z11_partPad (G : kdS) (l0 : Nat) (l1 : Int) : kzM → Option (Int × kzM) :=
  zcl (Z11_within G l1 (1 : Int) (7 : Int)) fun t1 =>
  zcnd (t1 = (0 : Int))
  (zrt (-2 : Int))
  (zgR G 11 0 l0 fun t2 =>
  zcv G 6 t2 (Z6_isEmpty G t2) fun t3 =>
  zcnd (t3 = (0 : Int))
  (zgR G 11 7 l0 fun t4 =>
  zgR G 11 0 l0 fun t5 =>
  zcv G 5 t4 (Z5_find G t4 t5 l1) fun t6 =>
  zcnd (t6 = (0 : Int))
  (Z11_partPad_47 G (-5 : Int))
  (Z11_partPad_47 G (0 : Int)))
  (zrt (-3 : Int)))
theorem qX11_partPad {G : kdS} (hG : kzG G) (l0 : Nat) {l1 : Int} (hl1 : kzI l1) : CRi (Z11_partPad G l0 l1) (X11_partPad G l0 (Int32.ofInt l1)) := by
  unfold Z11_partPad X11_partPad
  exact c_cl (qX11_within hG hl1 (by unfold kzI; omega) (by unfold kzI; omega)) (fun t1 ht1 => c_cnd (kz_eq ht1 (by unfold kzI; omega) rfl rfl) (c_rt (by unfold kzI; omega) rfl) (c_gR (fun t2 => c_cv (qX6_isEmpty hG t2) (fun t3 ht3 => c_cnd (kz_eq ht3 (by unfold kzI; omega) rfl rfl) (c_gR (fun t4 => c_gR (fun t5 => c_cv (qX5_find hG t4 t5 hl1) (fun t6 ht6 => c_cnd (kz_eq ht6 (by unfold kzI; omega) rfl rfl) ((qX11_partPad_47 hG (by unfold kzI; omega))) ((qX11_partPad_47 hG (by unfold kzI; omega))))))) (c_rt (by unfold kzI; omega) rfl)))))
def Z11_part_89 (G : kdS) (s0 : Int) : kzM → Option (Int × kzM) :=
  zrt s0
theorem qX11_part_89 {G : kdS} (hG : kzG G) {s0 : Int} (hs0 : kzI s0) : CRi (Z11_part_89 G s0) (X11_part_89 G (Int32.ofInt s0)) := by
  unfold Z11_part_89 X11_part_89
  exact c_rt hs0 rfl
def Z11_part (G : kdS) (l0 : Nat) (l1 : Int) (l2 : Int) : kzM → Option (Int × kzM) :=
  zcv G 11 l0 (Z11_partPad G l0 l1) fun t1 =>
  zcnd (t1 = (0 : Int))
  (zcnd (l2 = (-2 : Int))
  (zgR G 11 7 l0 fun t2 =>
  zcv G 5 t2 (Z5_words G t2) fun t3 =>
  zcv G 6 t3 (Z6_size G t3) fun t4 =>
  zrt t4)
  (zcnd (l2 = (-1 : Int))
  (zgR G 11 7 l0 fun t5 =>
  zcv G 5 t5 (Z5_sum G t5) fun t6 =>
  zrt t6)
  (zgR G 11 7 l0 fun t7 =>
  zcv G 5 t7 (Z5_words G t7) fun t8 =>
  zcv G 6 t8 (Z6_has G t8 l2) fun t9 =>
  zcnd (t9 = (0 : Int))
  (Z11_part_89 G (-6 : Int))
  (zgR G 11 7 l0 fun t10 =>
  zcv G 5 t10 (Z5_words G t10) fun t11 =>
  zcv G 6 t11 (Z6_at G t11 l2) fun t12 =>
  Z11_part_89 G t12))))
  (zrt t1)
theorem qX11_part {G : kdS} (hG : kzG G) (l0 : Nat) {l1 : Int} (hl1 : kzI l1) {l2 : Int} (hl2 : kzI l2) : CRi (Z11_part G l0 l1 l2) (X11_part G l0 (Int32.ofInt l1) (Int32.ofInt l2)) := by
  unfold Z11_part X11_part
  exact c_cv (qX11_partPad hG l0 hl1) (fun t1 ht1 => c_cnd (kz_eq ht1 (by unfold kzI; omega) rfl rfl) (c_cnd (kz_eq hl2 (by unfold kzI; omega) rfl rfl) (c_gR (fun t2 => c_cv (qX5_words hG t2) (fun t3 _ => c_cv (qX6_size hG t3) (fun t4 ht4 => c_rt ht4 rfl)))) (c_cnd (kz_eq hl2 (by unfold kzI; omega) rfl rfl) (c_gR (fun t5 => c_cv (qX5_sum hG t5) (fun t6 ht6 => c_rt ht6 rfl))) (c_gR (fun t7 => c_cv (qX5_words hG t7) (fun t8 _ => c_cv (qX6_has hG t8 hl2) (fun t9 ht9 => c_cnd (kz_eq ht9 (by unfold kzI; omega) rfl rfl) ((qX11_part_89 hG (by unfold kzI; omega))) (c_gR (fun t10 => c_cv (qX5_words hG t10) (fun t11 _ => c_cv (qX6_at hG t11 hl2) (fun t12 ht12 => (qX11_part_89 hG ht12))))))))))) (c_rt ht1 rfl))
def Z11_pieceOf_42 (G : kdS) (s0 : Int) : kzM → Option (Int × kzM) :=
  zrt s0
theorem qX11_pieceOf_42 {G : kdS} (hG : kzG G) {s0 : Int} (hs0 : kzI s0) : CRi (Z11_pieceOf_42 G s0) (X11_pieceOf_42 G (Int32.ofInt s0)) := by
  unfold Z11_pieceOf_42 X11_pieceOf_42
  exact c_rt hs0 rfl
def Z11_pieceOf (G : kdS) (l0 : Nat) (l1 : Int) (l2 : Int) : kzM → Option (Int × kzM) :=
  zcv G 11 l0 (Z11_partPad G l0 l1) fun t1 =>
  zcnd (t1 = (0 : Int))
  (zgR G 11 7 l0 fun t2 =>
  zcv G 5 t2 (Z5_lengths G t2) fun t3 =>
  zcv G 6 t3 (Z6_has G t3 l2) fun t4 =>
  zcnd (t4 = (0 : Int))
  (Z11_pieceOf_42 G (-6 : Int))
  (zgR G 11 7 l0 fun t5 =>
  zcv G 5 t5 (Z5_lengths G t5) fun t6 =>
  zcv G 6 t6 (Z6_at G t6 l2) fun t7 =>
  Z11_pieceOf_42 G t7))
  (zrt t1)
theorem qX11_pieceOf {G : kdS} (hG : kzG G) (l0 : Nat) {l1 : Int} (hl1 : kzI l1) {l2 : Int} (hl2 : kzI l2) : CRi (Z11_pieceOf G l0 l1 l2) (X11_pieceOf G l0 (Int32.ofInt l1) (Int32.ofInt l2)) := by
  unfold Z11_pieceOf X11_pieceOf
  exact c_cv (qX11_partPad hG l0 hl1) (fun t1 ht1 => c_cnd (kz_eq ht1 (by unfold kzI; omega) rfl rfl) (c_gR (fun t2 => c_cv (qX5_lengths hG t2) (fun t3 _ => c_cv (qX6_has hG t3 hl2) (fun t4 ht4 => c_cnd (kz_eq ht4 (by unfold kzI; omega) rfl rfl) ((qX11_pieceOf_42 hG (by unfold kzI; omega))) (c_gR (fun t5 => c_cv (qX5_lengths hG t5) (fun t6 _ => c_cv (qX6_at hG t6 hl2) (fun t7 ht7 => (qX11_pieceOf_42 hG ht7))))))))) (c_rt ht1 rfl))
def Z11_both_22 (G : kdS) : kzM → Option (Int × kzM) :=
  zrt (-1 : Int)
theorem qX11_both_22 {G : kdS} (hG : kzG G) : CRi (Z11_both_22 G) (X11_both_22 G) := by
  unfold Z11_both_22 X11_both_22
  exact c_rt (by unfold kzI; omega) rfl
def Z11_both_68 (G : kdS) (l0 : Nat) (l1 : Int) (l2 : Int) (l3 : Int) : kzM → Option (Int × kzM) :=
  zgR G 11 8 l0 fun t1 =>
  zcv G 0 t1 (Z0_setTogether G t1 l1 l2 l3) fun t2 =>
  zrt t2
theorem qX11_both_68 {G : kdS} (hG : kzG G) (l0 : Nat) {l1 : Int} (hl1 : kzI l1) {l2 : Int} (hl2 : kzI l2) {l3 : Int} (hl3 : kzI l3) : CRi (Z11_both_68 G l0 l1 l2 l3) (X11_both_68 G l0 (Int32.ofInt l1) (Int32.ofInt l2) (Int32.ofInt l3)) := by
  unfold Z11_both_68 X11_both_68
  exact c_gR (fun t1 => c_cv (qX0_setTogether hG t1 hl1 hl2 hl3) (fun t2 ht2 => c_rt ht2 rfl))
def Z11_both (G : kdS) (l0 : Nat) (l1 : Int) (l2 : Int) (l3 : Int) : kzM → Option (Int × kzM) :=
  zgR G 11 4 l0 fun t1 =>
  zcv G 10 t1 (Z10_has G t1 l1) fun t2 =>
  zcnd (t2 = (0 : Int))
  (Z11_both_22 G)
  (zgR G 11 4 l0 fun t3 =>
  zcv G 10 t3 (Z10_has G t3 l2) fun t4 =>
  zcnd (t4 = (0 : Int))
  (Z11_both_22 G)
  (zcl (Z11_within G l3 (0 : Int) (100 : Int)) fun t5 =>
  zcnd (t5 = (0 : Int))
  (zrt (-2 : Int))
  (zcnd (l3 ≤ (0 : Int))
  (Z11_both_68 G l0 l1 l2 l3)
  (zgR G 11 8 l0 fun t6 =>
  zcv G 0 t6 (Z0_together G t6 l1 l2) fun t7 =>
  zcnd (t7 = (0 : Int))
  (zgR G 11 8 l0 fun t8 =>
  zcv G 0 t8 (Z0_pairs G t8) fun t9 =>
  zcnd (t9 < (40 : Int))
  (Z11_both_68 G l0 l1 l2 l3)
  (zrt (-4 : Int)))
  (Z11_both_68 G l0 l1 l2 l3)))))
theorem qX11_both {G : kdS} (hG : kzG G) (l0 : Nat) {l1 : Int} (hl1 : kzI l1) {l2 : Int} (hl2 : kzI l2) {l3 : Int} (hl3 : kzI l3) : CRi (Z11_both G l0 l1 l2 l3) (X11_both G l0 (Int32.ofInt l1) (Int32.ofInt l2) (Int32.ofInt l3)) := by
  unfold Z11_both X11_both
  exact c_gR (fun t1 => c_cv (qX10_has hG t1 hl1) (fun t2 ht2 => c_cnd (kz_eq ht2 (by unfold kzI; omega) rfl rfl) ((qX11_both_22 hG)) (c_gR (fun t3 => c_cv (qX10_has hG t3 hl2) (fun t4 ht4 => c_cnd (kz_eq ht4 (by unfold kzI; omega) rfl rfl) ((qX11_both_22 hG)) (c_cl (qX11_within hG hl3 (by unfold kzI; omega) (by unfold kzI; omega)) (fun t5 ht5 => c_cnd (kz_eq ht5 (by unfold kzI; omega) rfl rfl) (c_rt (by unfold kzI; omega) rfl) (c_cnd (kz_le hl3 (by unfold kzI; omega) rfl rfl) ((qX11_both_68 hG l0 hl1 hl2 hl3)) (c_gR (fun t6 => c_cv (qX0_together hG t6 hl1 hl2) (fun t7 ht7 => c_cnd (kz_eq ht7 (by unfold kzI; omega) rfl rfl) (c_gR (fun t8 => c_cv (qX0_pairs hG t8) (fun t9 ht9 => c_cnd (kz_lt ht9 (by unfold kzI; omega) rfl rfl) ((qX11_both_68 hG l0 hl1 hl2 hl3)) (c_rt (by unfold kzI; omega) rfl)))) ((qX11_both_68 hG l0 hl1 hl2 hl3)))))))))))))
def Z11_say_37 (G : kdS) (s0 : Int) : kzM → Option (Int × kzM) :=
  zrt s0
theorem qX11_say_37 {G : kdS} (hG : kzG G) {s0 : Int} (hs0 : kzI s0) : CRi (Z11_say_37 G s0) (X11_say_37 G (Int32.ofInt s0)) := by
  unfold Z11_say_37 X11_say_37
  exact c_rt hs0 rfl
def Z11_say (G : kdS) (l0 : Nat) (l1 : Int) (l2 : Int) : kzM → Option (Int × kzM) :=
  zgR G 11 4 l0 fun t1 =>
  zcv G 10 t1 (Z10_has G t1 l1) fun t2 =>
  zcnd (t2 = (0 : Int))
  (zrt (-1 : Int))
  (zgR G 11 8 l0 fun t3 =>
  zcv G 0 t3 (Z0_isPadFull G t3) fun t4 =>
  zcnd (t4 = (0 : Int))
  (zgR G 11 8 l0 fun t5 =>
  zcv G 0 t5 (Z0_addToPad G t5 l1 l2) fun t6 =>
  Z11_say_37 G t6)
  (Z11_say_37 G (-4 : Int)))
theorem qX11_say {G : kdS} (hG : kzG G) (l0 : Nat) {l1 : Int} (hl1 : kzI l1) {l2 : Int} (hl2 : kzI l2) : CRi (Z11_say G l0 l1 l2) (X11_say G l0 (Int32.ofInt l1) (Int32.ofInt l2)) := by
  unfold Z11_say X11_say
  exact c_gR (fun t1 => c_cv (qX10_has hG t1 hl1) (fun t2 ht2 => c_cnd (kz_eq ht2 (by unfold kzI; omega) rfl rfl) (c_rt (by unfold kzI; omega) rfl) (c_gR (fun t3 => c_cv (qX0_isPadFull hG t3) (fun t4 ht4 => c_cnd (kz_eq ht4 (by unfold kzI; omega) rfl rfl) (c_gR (fun t5 => c_cv (qX0_addToPad hG t5 hl1 hl2) (fun t6 ht6 => (qX11_say_37 hG ht6)))) ((qX11_say_37 hG (by unfold kzI; omega))))))))
def Z11_chosen_38 (G : kdS) (s0 : Int) : kzM → Option (Int × kzM) :=
  zrt s0
theorem qX11_chosen_38 {G : kdS} (hG : kzG G) {s0 : Int} (hs0 : kzI s0) : CRi (Z11_chosen_38 G s0) (X11_chosen_38 G (Int32.ofInt s0)) := by
  unfold Z11_chosen_38 X11_chosen_38
  exact c_rt hs0 rfl
def Z11_chosen (G : kdS) (l0 : Nat) (l1 : Int) : kzM → Option (Int × kzM) :=
  zgR G 11 8 l0 fun t1 =>
  zcv G 0 t1 (Z0_choose G t1) fun t2 =>
  zgR G 11 8 l0 fun t3 =>
  zcv G 0 t3 (Z0_chosenWords G t3) fun t4 =>
  zcv G 6 t4 (Z6_has G t4 l1) fun t5 =>
  zcnd (t5 = (0 : Int))
  (Z11_chosen_38 G (-6 : Int))
  (zgR G 11 8 l0 fun t6 =>
  zcv G 0 t6 (Z0_chosenWords G t6) fun t7 =>
  zcv G 6 t7 (Z6_at G t7 l1) fun t8 =>
  Z11_chosen_38 G t8)
theorem qX11_chosen {G : kdS} (hG : kzG G) (l0 : Nat) {l1 : Int} (hl1 : kzI l1) : CRi (Z11_chosen G l0 l1) (X11_chosen G l0 (Int32.ofInt l1)) := by
  unfold Z11_chosen X11_chosen
  exact c_gR (fun t1 => c_cv (qX0_choose hG t1) (fun t2 ht2 => c_gR (fun t3 => c_cv (qX0_chosenWords hG t3) (fun t4 _ => c_cv (qX6_has hG t4 hl1) (fun t5 ht5 => c_cnd (kz_eq ht5 (by unfold kzI; omega) rfl rfl) ((qX11_chosen_38 hG (by unfold kzI; omega))) (c_gR (fun t6 => c_cv (qX0_chosenWords hG t6) (fun t7 _ => c_cv (qX6_at hG t7 hl1) (fun t8 ht8 => (qX11_chosen_38 hG ht8))))))))))
def Z11_product (G : kdS) (l0 : Nat) : kzM → Option (Int × kzM) :=
  zgR G 11 8 l0 fun t1 =>
  zcv G 0 t1 (Z0_choose G t1) fun t2 =>
  zrt t2
theorem qX11_product {G : kdS} (hG : kzG G) (l0 : Nat) : CRl (Z11_product G l0) (X11_product G l0) := by
  unfold Z11_product X11_product
  exact c_gR (fun t1 => c_cv (qX0_choose hG t1) (fun t2 ht2 => c_rt ht2 rfl))
def Z11_isDay (G : kdS) (l0 : Int) : kzM → Option (Int × kzM) :=
  zcl (Z11_within G l0 (0 : Int) (3000 : Int)) fun t1 =>
  zrt (zB t1)
theorem qX11_isDay {G : kdS} (hG : kzG G) {l0 : Int} (hl0 : kzI l0) : CRi (Z11_isDay G l0) (X11_isDay G (Int32.ofInt l0)) := by
  unfold Z11_isDay X11_isDay
  exact c_cl (qX11_within hG hl0 (by unfold kzI; omega) (by unfold kzI; omega)) (fun t1 ht1 => c_rt (kz_BI _) (kz_B rfl))
def Z11_isHand (G : kdS) (l0 : Int) : kzM → Option (Int × kzM) :=
  zcl (Z11_within G l0 (0 : Int) (3 : Int)) fun t1 =>
  zrt (zB t1)
theorem qX11_isHand {G : kdS} (hG : kzG G) {l0 : Int} (hl0 : kzI l0) : CRi (Z11_isHand G l0) (X11_isHand G (Int32.ofInt l0)) := by
  unfold Z11_isHand X11_isHand
  exact c_cl (qX11_within hG hl0 (by unfold kzI; omega) (by unfold kzI; omega)) (fun t1 ht1 => c_rt (kz_BI _) (kz_B rfl))
def Z11_learn_18 (G : kdS) : kzM → Option (Int × kzM) :=
  zrt (-1 : Int)
theorem qX11_learn_18 {G : kdS} (hG : kzG G) : CRi (Z11_learn_18 G) (X11_learn_18 G) := by
  unfold Z11_learn_18 X11_learn_18
  exact c_rt (by unfold kzI; omega) rfl
def Z11_learn_70 (G : kdS) (s0 : Int) : kzM → Option (Int × kzM) :=
  zrt s0
theorem qX11_learn_70 {G : kdS} (hG : kzG G) {s0 : Int} (hs0 : kzI s0) : CRi (Z11_learn_70 G s0) (X11_learn_70 G (Int32.ofInt s0)) := by
  unfold Z11_learn_70 X11_learn_70
  exact c_rt hs0 rfl
def Z11_learn (G : kdS) (l0 : Nat) (l1 : Int) (l2 : Int) (l3 : Int) : kzM → Option (Int × kzM) :=
  zcl (Z11_isHand G l1) fun t1 =>
  zcnd (t1 = (0 : Int))
  (Z11_learn_18 G)
  (zgR G 11 4 l0 fun t2 =>
  zcv G 10 t2 (Z10_has G t2 l2) fun t3 =>
  zcnd (t3 = (0 : Int))
  (Z11_learn_18 G)
  (zcl (Z11_isDay G l3) fun t4 =>
  zcnd (t4 = (0 : Int))
  (zrt (-2 : Int))
  (zgR G 11 9 l0 fun t5 =>
  zcv G 2 t5 (Z2_isFull G t5) fun t6 =>
  zcnd (t6 = (0 : Int))
  (zgR G 11 9 l0 fun t7 =>
  zcv G 2 t7 (Z2_latestDay G t7 l1) fun t8 =>
  zcnd (t8 ≤ l3)
  (zgR G 11 9 l0 fun t9 =>
  zcv G 2 t9 (Z2_addLearning G t9 l1 l2 l3) fun t10 =>
  Z11_learn_70 G t10)
  (Z11_learn_70 G (-5 : Int)))
  (zrt (-4 : Int)))))
theorem qX11_learn {G : kdS} (hG : kzG G) (l0 : Nat) {l1 : Int} (hl1 : kzI l1) {l2 : Int} (hl2 : kzI l2) {l3 : Int} (hl3 : kzI l3) : CRi (Z11_learn G l0 l1 l2 l3) (X11_learn G l0 (Int32.ofInt l1) (Int32.ofInt l2) (Int32.ofInt l3)) := by
  unfold Z11_learn X11_learn
  exact c_cl (qX11_isHand hG hl1) (fun t1 ht1 => c_cnd (kz_eq ht1 (by unfold kzI; omega) rfl rfl) ((qX11_learn_18 hG)) (c_gR (fun t2 => c_cv (qX10_has hG t2 hl2) (fun t3 ht3 => c_cnd (kz_eq ht3 (by unfold kzI; omega) rfl rfl) ((qX11_learn_18 hG)) (c_cl (qX11_isDay hG hl3) (fun t4 ht4 => c_cnd (kz_eq ht4 (by unfold kzI; omega) rfl rfl) (c_rt (by unfold kzI; omega) rfl) (c_gR (fun t5 => c_cv (qX2_isFull hG t5) (fun t6 ht6 => c_cnd (kz_eq ht6 (by unfold kzI; omega) rfl rfl) (c_gR (fun t7 => c_cv (qX2_latestDay hG t7 hl1) (fun t8 ht8 => c_cnd (kz_le ht8 hl3 rfl rfl) (c_gR (fun t9 => c_cv (qX2_addLearning hG t9 hl1 hl2 hl3) (fun t10 ht10 => (qX11_learn_70 hG ht10)))) ((qX11_learn_70 hG (by unfold kzI; omega)))))) (c_rt (by unfold kzI; omega) rfl))))))))))
def Z11_worth_18 (G : kdS) : kzM → Option (Int × kzM) :=
  zrt (-1 : Int)
theorem qX11_worth_18 {G : kdS} (hG : kzG G) : CRi (Z11_worth_18 G) (X11_worth_18 G) := by
  unfold Z11_worth_18 X11_worth_18
  exact c_rt (by unfold kzI; omega) rfl
def Z11_worth_42 (G : kdS) (s0 : Int) : kzM → Option (Int × kzM) :=
  zrt s0
theorem qX11_worth_42 {G : kdS} (hG : kzG G) {s0 : Int} (hs0 : kzI s0) : CRi (Z11_worth_42 G s0) (X11_worth_42 G (Int32.ofInt s0)) := by
  unfold Z11_worth_42 X11_worth_42
  exact c_rt hs0 rfl
def Z11_worth (G : kdS) (l0 : Nat) (l1 : Int) (l2 : Int) (l3 : Int) : kzM → Option (Int × kzM) :=
  zcl (Z11_isHand G l1) fun t1 =>
  zcnd (t1 = (0 : Int))
  (Z11_worth_18 G)
  (zgR G 11 4 l0 fun t2 =>
  zcv G 10 t2 (Z10_has G t2 l2) fun t3 =>
  zcnd (t3 = (0 : Int))
  (Z11_worth_18 G)
  (zcl (Z11_isDay G l3) fun t4 =>
  zcnd (t4 = (0 : Int))
  (Z11_worth_42 G (-2 : Int))
  (zgR G 11 9 l0 fun t5 =>
  zcv G 2 t5 (Z2_worthOf G t5 l1 l2 l3) fun t6 =>
  Z11_worth_42 G t6)))
theorem qX11_worth {G : kdS} (hG : kzG G) (l0 : Nat) {l1 : Int} (hl1 : kzI l1) {l2 : Int} (hl2 : kzI l2) {l3 : Int} (hl3 : kzI l3) : CRi (Z11_worth G l0 l1 l2 l3) (X11_worth G l0 (Int32.ofInt l1) (Int32.ofInt l2) (Int32.ofInt l3)) := by
  unfold Z11_worth X11_worth
  exact c_cl (qX11_isHand hG hl1) (fun t1 ht1 => c_cnd (kz_eq ht1 (by unfold kzI; omega) rfl rfl) ((qX11_worth_18 hG)) (c_gR (fun t2 => c_cv (qX10_has hG t2 hl2) (fun t3 ht3 => c_cnd (kz_eq ht3 (by unfold kzI; omega) rfl rfl) ((qX11_worth_18 hG)) (c_cl (qX11_isDay hG hl3) (fun t4 ht4 => c_cnd (kz_eq ht4 (by unfold kzI; omega) rfl rfl) ((qX11_worth_42 hG (by unfold kzI; omega))) (c_gR (fun t5 => c_cv (qX2_worthOf hG t5 hl1 hl2 hl3) (fun t6 ht6 => (qX11_worth_42 hG ht6))))))))))
def Z11_forget_23 (G : kdS) : kzM → Option (Int × kzM) :=
  zrt (-1 : Int)
theorem qX11_forget_23 {G : kdS} (hG : kzG G) : CRi (Z11_forget_23 G) (X11_forget_23 G) := by
  unfold Z11_forget_23 X11_forget_23
  exact c_rt (by unfold kzI; omega) rfl
def Z11_forget_25 (G : kdS) (l0 : Nat) (l1 : Int) (l2 : Int) : kzM → Option (Int × kzM) :=
  zgR G 11 9 l0 fun t1 =>
  zcv G 2 t1 (Z2_dropLearnings G t1 l1 l2) fun t2 =>
  zrt t2
theorem qX11_forget_25 {G : kdS} (hG : kzG G) (l0 : Nat) {l1 : Int} (hl1 : kzI l1) {l2 : Int} (hl2 : kzI l2) : CRi (Z11_forget_25 G l0 l1 l2) (X11_forget_25 G l0 (Int32.ofInt l1) (Int32.ofInt l2)) := by
  unfold Z11_forget_25 X11_forget_25
  exact c_gR (fun t1 => c_cv (qX2_dropLearnings hG t1 hl1 hl2) (fun t2 ht2 => c_rt ht2 rfl))
def Z11_forget (G : kdS) (l0 : Nat) (l1 : Int) (l2 : Int) : kzM → Option (Int × kzM) :=
  zcl (Z11_isHand G l1) fun t1 =>
  zcnd (t1 = (0 : Int))
  (Z11_forget_23 G)
  (zcnd (l2 = (-1 : Int))
  (Z11_forget_25 G l0 l1 l2)
  (zgR G 11 4 l0 fun t2 =>
  zcv G 10 t2 (Z10_has G t2 l2) fun t3 =>
  zcnd (t3 = (0 : Int))
  (Z11_forget_23 G)
  (Z11_forget_25 G l0 l1 l2)))
theorem qX11_forget {G : kdS} (hG : kzG G) (l0 : Nat) {l1 : Int} (hl1 : kzI l1) {l2 : Int} (hl2 : kzI l2) : CRi (Z11_forget G l0 l1 l2) (X11_forget G l0 (Int32.ofInt l1) (Int32.ofInt l2)) := by
  unfold Z11_forget X11_forget
  exact c_cl (qX11_isHand hG hl1) (fun t1 ht1 => c_cnd (kz_eq ht1 (by unfold kzI; omega) rfl rfl) ((qX11_forget_23 hG)) (c_cnd (kz_eq hl2 (by unfold kzI; omega) rfl rfl) ((qX11_forget_25 hG l0 hl1 hl2)) (c_gR (fun t2 => c_cv (qX10_has hG t2 hl2) (fun t3 ht3 => c_cnd (kz_eq ht3 (by unfold kzI; omega) rfl rfl) ((qX11_forget_23 hG)) ((qX11_forget_25 hG l0 hl1 hl2)))))))
def Z11_fade_24 (G : kdS) (s0 : Int) : kzM → Option (Int × kzM) :=
  zrt s0
theorem qX11_fade_24 {G : kdS} (hG : kzG G) {s0 : Int} (hs0 : kzI s0) : CRi (Z11_fade_24 G s0) (X11_fade_24 G (Int32.ofInt s0)) := by
  unfold Z11_fade_24 X11_fade_24
  exact c_rt hs0 rfl
def Z11_fade (G : kdS) (l0 : Nat) (l1 : Int) : kzM → Option (Int × kzM) :=
  zcl (Z11_within G l1 (0 : Int) (1000 : Int)) fun t1 =>
  zcnd (t1 = (0 : Int))
  (Z11_fade_24 G (-2 : Int))
  (zgR G 11 9 l0 fun t2 =>
  zcv G 2 t2 (Z2_setFade G t2 l1) fun t3 =>
  Z11_fade_24 G t3)
theorem qX11_fade {G : kdS} (hG : kzG G) (l0 : Nat) {l1 : Int} (hl1 : kzI l1) : CRi (Z11_fade G l0 l1) (X11_fade G l0 (Int32.ofInt l1)) := by
  unfold Z11_fade X11_fade
  exact c_cl (qX11_within hG hl1 (by unfold kzI; omega) (by unfold kzI; omega)) (fun t1 ht1 => c_cnd (kz_eq ht1 (by unfold kzI; omega) rfl rfl) ((qX11_fade_24 hG (by unfold kzI; omega))) (c_gR (fun t2 => c_cv (qX2_setFade hG t2 hl1) (fun t3 ht3 => (qX11_fade_24 hG ht3)))))
def Z11_mine_37 (G : kdS) : kzM → Option (Int × kzM) :=
  zrt (-2 : Int)
theorem qX11_mine_37 {G : kdS} (hG : kzG G) : CRi (Z11_mine_37 G) (X11_mine_37 G) := by
  unfold Z11_mine_37 X11_mine_37
  exact c_rt (by unfold kzI; omega) rfl
def Z11_mine (G : kdS) (l0 : Nat) (l1 : Int) (l2 : Int) (l3 : Int) (l4 : Int) (l5 : Int) : kzM → Option (Int × kzM) :=
  zcl (Z11_isHand G l1) fun t1 =>
  zcnd (t1 = (0 : Int))
  (zrt (-1 : Int))
  (zcl (Z11_isDay G l2) fun t2 =>
  zcnd (t2 = (0 : Int))
  (Z11_mine_37 G)
  (zcl (Z11_within G l3 (1 : Int) (7 : Int)) fun t3 =>
  zcnd (t3 = (0 : Int))
  (Z11_mine_37 G)
  (zcl (Z11_within G l4 (0 : Int) (60 : Int)) fun t4 =>
  zcnd (t4 = (0 : Int))
  (Z11_mine_37 G)
  (zgR G 11 0 l0 fun t5 =>
  zcv G 6 t5 (Z6_isEmpty G t5) fun t6 =>
  zcnd (t6 = (0 : Int))
  (zcv G 11 l0 (Z11_gather G l0 l3 l4 l1 l2) fun _ =>
  zgR G 11 6 l0 fun t7 =>
  zcv G 1 t7 (Z1_guessAt G t7 l5) fun t8 =>
  zrt t8)
  (zrt (-3 : Int))))))
theorem qX11_mine {G : kdS} (hG : kzG G) (l0 : Nat) {l1 : Int} (hl1 : kzI l1) {l2 : Int} (hl2 : kzI l2) {l3 : Int} (hl3 : kzI l3) {l4 : Int} (hl4 : kzI l4) {l5 : Int} (hl5 : kzI l5) : CRi (Z11_mine G l0 l1 l2 l3 l4 l5) (X11_mine G l0 (Int32.ofInt l1) (Int32.ofInt l2) (Int32.ofInt l3) (Int32.ofInt l4) (Int32.ofInt l5)) := by
  unfold Z11_mine X11_mine
  exact c_cl (qX11_isHand hG hl1) (fun t1 ht1 => c_cnd (kz_eq ht1 (by unfold kzI; omega) rfl rfl) (c_rt (by unfold kzI; omega) rfl) (c_cl (qX11_isDay hG hl2) (fun t2 ht2 => c_cnd (kz_eq ht2 (by unfold kzI; omega) rfl rfl) ((qX11_mine_37 hG)) (c_cl (qX11_within hG hl3 (by unfold kzI; omega) (by unfold kzI; omega)) (fun t3 ht3 => c_cnd (kz_eq ht3 (by unfold kzI; omega) rfl rfl) ((qX11_mine_37 hG)) (c_cl (qX11_within hG hl4 (by unfold kzI; omega) (by unfold kzI; omega)) (fun t4 ht4 => c_cnd (kz_eq ht4 (by unfold kzI; omega) rfl rfl) ((qX11_mine_37 hG)) (c_gR (fun t5 => c_cv (qX6_isEmpty hG t5) (fun t6 ht6 => c_cnd (kz_eq ht6 (by unfold kzI; omega) rfl rfl) (c_cv (qX11_gather hG l0 hl3 hl4 hl1 hl2) (fun _ _ => c_gR (fun t7 => c_cv (qX1_guessAt hG t7 hl5) (fun t8 ht8 => c_rt ht8 rfl)))) (c_rt (by unfold kzI; omega) rfl)))))))))))
def Z11_budget_34 (G : kdS) (s0 : Int) : kzM → Option (Int × kzM) :=
  zrt s0
theorem qX11_budget_34 {G : kdS} (hG : kzG G) {s0 : Int} (hs0 : kzI s0) : CRi (Z11_budget_34 G s0) (X11_budget_34 G (Int32.ofInt s0)) := by
  unfold Z11_budget_34 X11_budget_34
  exact c_rt hs0 rfl
def Z11_budget (G : kdS) (l0 : Nat) (l1 : Int) (l2 : Int) : kzM → Option (Int × kzM) :=
  zcl (Z11_isHand G l1) fun t1 =>
  zcnd (t1 = (0 : Int))
  (zrt (-1 : Int))
  (zcl (Z11_within G l2 (0 : Int) (1000 : Int)) fun t2 =>
  zcnd (t2 = (0 : Int))
  (Z11_budget_34 G (-2 : Int))
  (zgR G 11 9 l0 fun t3 =>
  zcv G 2 t3 (Z2_setBudget G t3 l1 l2) fun t4 =>
  Z11_budget_34 G t4))
theorem qX11_budget {G : kdS} (hG : kzG G) (l0 : Nat) {l1 : Int} (hl1 : kzI l1) {l2 : Int} (hl2 : kzI l2) : CRi (Z11_budget G l0 l1 l2) (X11_budget G l0 (Int32.ofInt l1) (Int32.ofInt l2)) := by
  unfold Z11_budget X11_budget
  exact c_cl (qX11_isHand hG hl1) (fun t1 ht1 => c_cnd (kz_eq ht1 (by unfold kzI; omega) rfl rfl) (c_rt (by unfold kzI; omega) rfl) (c_cl (qX11_within hG hl2 (by unfold kzI; omega) (by unfold kzI; omega)) (fun t2 ht2 => c_cnd (kz_eq ht2 (by unfold kzI; omega) rfl rfl) ((qX11_budget_34 hG (by unfold kzI; omega))) (c_gR (fun t3 => c_cv (qX2_setBudget hG t3 hl1 hl2) (fun t4 ht4 => (qX11_budget_34 hG ht4)))))))
def Z11_seed_24 (G : kdS) (s0 : Int) : kzM → Option (Int × kzM) :=
  zrt s0
theorem qX11_seed_24 {G : kdS} (hG : kzG G) {s0 : Int} (hs0 : kzI s0) : CRi (Z11_seed_24 G s0) (X11_seed_24 G (Int32.ofInt s0)) := by
  unfold Z11_seed_24 X11_seed_24
  exact c_rt hs0 rfl
def Z11_seed (G : kdS) (l0 : Nat) (l1 : Int) : kzM → Option (Int × kzM) :=
  zcl (Z11_within G l1 (1 : Int) (1000000 : Int)) fun t1 =>
  zcnd (t1 = (0 : Int))
  (Z11_seed_24 G (-2 : Int))
  (zgR G 11 9 l0 fun t2 =>
  zcv G 2 t2 (Z2_setSeed G t2 l1) fun t3 =>
  Z11_seed_24 G t3)
theorem qX11_seed {G : kdS} (hG : kzG G) (l0 : Nat) {l1 : Int} (hl1 : kzI l1) : CRi (Z11_seed G l0 l1) (X11_seed G l0 (Int32.ofInt l1)) := by
  unfold Z11_seed X11_seed
  exact c_cl (qX11_within hG hl1 (by unfold kzI; omega) (by unfold kzI; omega)) (fun t1 ht1 => c_cnd (kz_eq ht1 (by unfold kzI; omega) rfl rfl) ((qX11_seed_24 hG (by unfold kzI; omega))) (c_gR (fun t2 => c_cv (qX2_setSeed hG t2 hl1) (fun t3 ht3 => (qX11_seed_24 hG ht3)))))
def Z11_share_32 (G : kdS) : kzM → Option (Int × kzM) :=
  zrt (-1000002 : Int)
theorem qX11_share_32 {G : kdS} (hG : kzG G) : CRi (Z11_share_32 G) (X11_share_32 G) := by
  unfold Z11_share_32 X11_share_32
  exact c_rt (by unfold kzI; omega) rfl
def Z11_share_64 (G : kdS) (s0 : Int) : kzM → Option (Int × kzM) :=
  zrt s0
theorem qX11_share_64 {G : kdS} (hG : kzG G) {s0 : Int} (hs0 : kzI s0) : CRi (Z11_share_64 G s0) (X11_share_64 G (Int32.ofInt s0)) := by
  unfold Z11_share_64 X11_share_64
  exact c_rt hs0 rfl
def Z11_share (G : kdS) (l0 : Nat) (l1 : Int) (l2 : Int) (l3 : Int) : kzM → Option (Int × kzM) :=
  zgR G 11 4 l0 fun t1 =>
  zcv G 10 t1 (Z10_has G t1 l1) fun t2 =>
  zcnd (t2 = (0 : Int))
  (zrt (-1000001 : Int))
  (zcl (Z11_within G l2 (1 : Int) (100 : Int)) fun t3 =>
  zcnd (t3 = (0 : Int))
  (Z11_share_32 G)
  (zcl (Z11_isDay G l3) fun t4 =>
  zcnd (t4 = (0 : Int))
  (Z11_share_32 G)
  (zgR G 11 9 l0 fun t5 =>
  zcv G 2 t5 (Z2_givers G t5 l2) fun t6 =>
  zcnd ((2 : Int) ≤ t6)
  (zgR G 11 9 l0 fun t7 =>
  zcv G 2 t7 (Z2_sumWithLot G t7 l1 l2 l3) fun t8 =>
  Z11_share_64 G t8)
  (Z11_share_64 G (-1000005 : Int)))))
theorem qX11_share {G : kdS} (hG : kzG G) (l0 : Nat) {l1 : Int} (hl1 : kzI l1) {l2 : Int} (hl2 : kzI l2) {l3 : Int} (hl3 : kzI l3) : CRi (Z11_share G l0 l1 l2 l3) (X11_share G l0 (Int32.ofInt l1) (Int32.ofInt l2) (Int32.ofInt l3)) := by
  unfold Z11_share X11_share
  exact c_gR (fun t1 => c_cv (qX10_has hG t1 hl1) (fun t2 ht2 => c_cnd (kz_eq ht2 (by unfold kzI; omega) rfl rfl) (c_rt (by unfold kzI; omega) rfl) (c_cl (qX11_within hG hl2 (by unfold kzI; omega) (by unfold kzI; omega)) (fun t3 ht3 => c_cnd (kz_eq ht3 (by unfold kzI; omega) rfl rfl) ((qX11_share_32 hG)) (c_cl (qX11_isDay hG hl3) (fun t4 ht4 => c_cnd (kz_eq ht4 (by unfold kzI; omega) rfl rfl) ((qX11_share_32 hG)) (c_gR (fun t5 => c_cv (qX2_givers hG t5 hl2) (fun t6 ht6 => c_cnd (kz_le (by unfold kzI; omega) ht6 rfl rfl) (c_gR (fun t7 => c_cv (qX2_sumWithLot hG t7 hl1 hl2 hl3) (fun t8 ht8 => (qX11_share_64 hG ht8)))) ((qX11_share_64 hG (by unfold kzI; omega))))))))))))
def Z11_symbols_23 (G : kdS) (s0 : Int) : kzM → Option (Int × kzM) :=
  zrt s0
theorem qX11_symbols_23 {G : kdS} (hG : kzG G) {s0 : Int} (hs0 : kzI s0) : CRi (Z11_symbols_23 G s0) (X11_symbols_23 G (Int32.ofInt s0)) := by
  unfold Z11_symbols_23 X11_symbols_23
  exact c_rt hs0 rfl
def Z11_symbols (G : kdS) (l0 : Nat) (l1 : Int) : kzM → Option (Int × kzM) :=
  zcl (Z11_within G l1 (2 : Int) (7 : Int)) fun t1 =>
  zcnd (t1 = (0 : Int))
  (Z11_symbols_23 G (-2 : Int))
  (zgR G 11 10 l0 fun t2 =>
  zcv G 3 t2 (Z3_startAnew G t2 l1) fun t3 =>
  Z11_symbols_23 G t3)
theorem qX11_symbols {G : kdS} (hG : kzG G) (l0 : Nat) {l1 : Int} (hl1 : kzI l1) : CRi (Z11_symbols G l0 l1) (X11_symbols G l0 (Int32.ofInt l1)) := by
  unfold Z11_symbols X11_symbols
  exact c_cl (qX11_within hG hl1 (by unfold kzI; omega) (by unfold kzI; omega)) (fun t1 ht1 => c_cnd (kz_eq ht1 (by unfold kzI; omega) rfl rfl) ((qX11_symbols_23 hG (by unfold kzI; omega))) (c_gR (fun t2 => c_cv (qX3_startAnew hG t2 hl1) (fun t3 ht3 => (qX11_symbols_23 hG ht3)))))
def Z11_set_113 (G : kdS) (s0 : Int) : kzM → Option (Int × kzM) :=
  zrt s0
theorem qX11_set_113 {G : kdS} (hG : kzG G) {s0 : Int} (hs0 : kzI s0) : CRi (Z11_set_113 G s0) (X11_set_113 G (Int32.ofInt s0)) := by
  unfold Z11_set_113 X11_set_113
  exact c_rt hs0 rfl
def Z11_set_88 (G : kdS) (s0 : Int) : kzM → Option (Int × kzM) :=
  zrt s0
theorem qX11_set_88 {G : kdS} (hG : kzG G) {s0 : Int} (hs0 : kzI s0) : CRi (Z11_set_88 G s0) (X11_set_88 G (Int32.ofInt s0)) := by
  unfold Z11_set_88 X11_set_88
  exact c_rt hs0 rfl
def Z11_set_64 (G : kdS) (s0 : Int) : kzM → Option (Int × kzM) :=
  zrt s0
theorem qX11_set_64 {G : kdS} (hG : kzG G) {s0 : Int} (hs0 : kzI s0) : CRi (Z11_set_64 G s0) (X11_set_64 G (Int32.ofInt s0)) := by
  unfold Z11_set_64 X11_set_64
  exact c_rt hs0 rfl
def Z11_set (G : kdS) (l0 : Nat) (l1 : Int) (l2 : Int) (l3 : Int) : kzM → Option (Int × kzM) :=
  zgR G 11 10 l0 fun t1 =>
  zcv G 3 t1 (Z3_has G t1 l2) fun t2 =>
  zcnd (t2 = (0 : Int))
  (zrt (-1 : Int))
  (zcnd (l1 = (0 : Int))
  (zcl (Z11_within G l3 (0 : Int) (20 : Int)) fun t3 =>
  zcnd (t3 = (0 : Int))
  (Z11_set_64 G (-2 : Int))
  (zgR G 11 10 l0 fun t4 =>
  zcv G 3 t4 (Z3_setEffort G t4 l2 l3) fun t5 =>
  Z11_set_64 G t5))
  (zcnd (l1 = (1 : Int))
  (zcl (Z11_within G l3 (0 : Int) (4 : Int)) fun t6 =>
  zcnd (t6 = (0 : Int))
  (Z11_set_88 G (-2 : Int))
  (zgR G 11 10 l0 fun t7 =>
  zcv G 3 t7 (Z3_setFinger G t7 l2 l3) fun t8 =>
  Z11_set_88 G t8))
  (zcnd (l1 = (2 : Int))
  (zcl (Z11_within G l3 (0 : Int) (99 : Int)) fun t9 =>
  zcnd (t9 = (0 : Int))
  (Z11_set_113 G (-2 : Int))
  (zgR G 11 10 l0 fun t10 =>
  zcv G 3 t10 (Z3_setLoad G t10 l2 l3) fun t11 =>
  Z11_set_113 G t11))
  (zrt (-2 : Int)))))
theorem qX11_set {G : kdS} (hG : kzG G) (l0 : Nat) {l1 : Int} (hl1 : kzI l1) {l2 : Int} (hl2 : kzI l2) {l3 : Int} (hl3 : kzI l3) : CRi (Z11_set G l0 l1 l2 l3) (X11_set G l0 (Int32.ofInt l1) (Int32.ofInt l2) (Int32.ofInt l3)) := by
  unfold Z11_set X11_set
  exact c_gR (fun t1 => c_cv (qX3_has hG t1 hl2) (fun t2 ht2 => c_cnd (kz_eq ht2 (by unfold kzI; omega) rfl rfl) (c_rt (by unfold kzI; omega) rfl) (c_cnd (kz_eq hl1 (by unfold kzI; omega) rfl rfl) (c_cl (qX11_within hG hl3 (by unfold kzI; omega) (by unfold kzI; omega)) (fun t3 ht3 => c_cnd (kz_eq ht3 (by unfold kzI; omega) rfl rfl) ((qX11_set_64 hG (by unfold kzI; omega))) (c_gR (fun t4 => c_cv (qX3_setEffort hG t4 hl2 hl3) (fun t5 ht5 => (qX11_set_64 hG ht5)))))) (c_cnd (kz_eq hl1 (by unfold kzI; omega) rfl rfl) (c_cl (qX11_within hG hl3 (by unfold kzI; omega) (by unfold kzI; omega)) (fun t6 ht6 => c_cnd (kz_eq ht6 (by unfold kzI; omega) rfl rfl) ((qX11_set_88 hG (by unfold kzI; omega))) (c_gR (fun t7 => c_cv (qX3_setFinger hG t7 hl2 hl3) (fun t8 ht8 => (qX11_set_88 hG ht8)))))) (c_cnd (kz_eq hl1 (by unfold kzI; omega) rfl rfl) (c_cl (qX11_within hG hl3 (by unfold kzI; omega) (by unfold kzI; omega)) (fun t9 ht9 => c_cnd (kz_eq ht9 (by unfold kzI; omega) rfl rfl) ((qX11_set_113 hG (by unfold kzI; omega))) (c_gR (fun t10 => c_cv (qX3_setLoad hG t10 hl2 hl3) (fun t11 ht11 => (qX11_set_113 hG ht11)))))) (c_rt (by unfold kzI; omega) rfl))))))
def Z11_pair_22 (G : kdS) : kzM → Option (Int × kzM) :=
  zrt (-1 : Int)
theorem qX11_pair_22 {G : kdS} (hG : kzG G) : CRi (Z11_pair_22 G) (X11_pair_22 G) := by
  unfold Z11_pair_22 X11_pair_22
  exact c_rt (by unfold kzI; omega) rfl
def Z11_pair_49 (G : kdS) (s0 : Int) : kzM → Option (Int × kzM) :=
  zrt s0
theorem qX11_pair_49 {G : kdS} (hG : kzG G) {s0 : Int} (hs0 : kzI s0) : CRi (Z11_pair_49 G s0) (X11_pair_49 G (Int32.ofInt s0)) := by
  unfold Z11_pair_49 X11_pair_49
  exact c_rt hs0 rfl
def Z11_pair (G : kdS) (l0 : Nat) (l1 : Int) (l2 : Int) (l3 : Int) : kzM → Option (Int × kzM) :=
  zgR G 11 10 l0 fun t1 =>
  zcv G 3 t1 (Z3_has G t1 l1) fun t2 =>
  zcnd (t2 = (0 : Int))
  (Z11_pair_22 G)
  (zgR G 11 10 l0 fun t3 =>
  zcv G 3 t3 (Z3_has G t3 l2) fun t4 =>
  zcnd (t4 = (0 : Int))
  (Z11_pair_22 G)
  (zcl (Z11_within G l3 (0 : Int) (50 : Int)) fun t5 =>
  zcnd (t5 = (0 : Int))
  (Z11_pair_49 G (-2 : Int))
  (zgR G 11 10 l0 fun t6 =>
  zcv G 3 t6 (Z3_setPair G t6 l1 l2 l3) fun t7 =>
  Z11_pair_49 G t7)))
theorem qX11_pair {G : kdS} (hG : kzG G) (l0 : Nat) {l1 : Int} (hl1 : kzI l1) {l2 : Int} (hl2 : kzI l2) {l3 : Int} (hl3 : kzI l3) : CRi (Z11_pair G l0 l1 l2 l3) (X11_pair G l0 (Int32.ofInt l1) (Int32.ofInt l2) (Int32.ofInt l3)) := by
  unfold Z11_pair X11_pair
  exact c_gR (fun t1 => c_cv (qX3_has hG t1 hl1) (fun t2 ht2 => c_cnd (kz_eq ht2 (by unfold kzI; omega) rfl rfl) ((qX11_pair_22 hG)) (c_gR (fun t3 => c_cv (qX3_has hG t3 hl2) (fun t4 ht4 => c_cnd (kz_eq ht4 (by unfold kzI; omega) rfl rfl) ((qX11_pair_22 hG)) (c_cl (qX11_within hG hl3 (by unfold kzI; omega) (by unfold kzI; omega)) (fun t5 ht5 => c_cnd (kz_eq ht5 (by unfold kzI; omega) rfl rfl) ((qX11_pair_49 hG (by unfold kzI; omega))) (c_gR (fun t6 => c_cv (qX3_setPair hG t6 hl1 hl2 hl3) (fun t7 ht7 => (qX11_pair_49 hG ht7)))))))))))
def Z11_same_23 (G : kdS) (s0 : Int) : kzM → Option (Int × kzM) :=
  zrt s0
theorem qX11_same_23 {G : kdS} (hG : kzG G) {s0 : Int} (hs0 : kzI s0) : CRi (Z11_same_23 G s0) (X11_same_23 G (Int32.ofInt s0)) := by
  unfold Z11_same_23 X11_same_23
  exact c_rt hs0 rfl
def Z11_same (G : kdS) (l0 : Nat) (l1 : Int) : kzM → Option (Int × kzM) :=
  zcl (Z11_within G l1 (0 : Int) (20 : Int)) fun t1 =>
  zcnd (t1 = (0 : Int))
  (Z11_same_23 G (-2 : Int))
  (zgR G 11 10 l0 fun t2 =>
  zcv G 3 t2 (Z3_setSame G t2 l1) fun t3 =>
  Z11_same_23 G t3)
theorem qX11_same {G : kdS} (hG : kzG G) (l0 : Nat) {l1 : Int} (hl1 : kzI l1) : CRi (Z11_same G l0 l1) (X11_same G l0 (Int32.ofInt l1)) := by
  unfold Z11_same X11_same
  exact c_cl (qX11_within hG hl1 (by unfold kzI; omega) (by unfold kzI; omega)) (fun t1 ht1 => c_cnd (kz_eq ht1 (by unfold kzI; omega) rfl rfl) ((qX11_same_23 hG (by unfold kzI; omega))) (c_gR (fun t2 => c_cv (qX3_setSame hG t2 hl1) (fun t3 ht3 => (qX11_same_23 hG ht3)))))
def Z11_cost_23 (G : kdS) (s0 : Int) : kzM → Option (Int × kzM) :=
  zrt s0
theorem qX11_cost_23 {G : kdS} (hG : kzG G) {s0 : Int} (hs0 : kzI s0) : CRi (Z11_cost_23 G s0) (X11_cost_23 G (Int32.ofInt s0)) := by
  unfold Z11_cost_23 X11_cost_23
  exact c_rt hs0 rfl
def Z11_cost (G : kdS) (l0 : Nat) (l1 : Int) : kzM → Option (Int × kzM) :=
  zgR G 11 10 l0 fun t1 =>
  zcv G 3 t1 (Z3_read G t1 l1) fun t2 =>
  zcnd (t2 = (0 : Int))
  (Z11_cost_23 G (-2 : Int))
  (zgR G 11 10 l0 fun t3 =>
  zcv G 3 t3 (Z3_totalCost G t3) fun t4 =>
  Z11_cost_23 G t4)
theorem qX11_cost {G : kdS} (hG : kzG G) (l0 : Nat) {l1 : Int} (hl1 : kzI l1) : CRi (Z11_cost G l0 l1) (X11_cost G l0 (Int32.ofInt l1)) := by
  unfold Z11_cost X11_cost
  exact c_gR (fun t1 => c_cv (qX3_read hG t1 hl1) (fun t2 ht2 => c_cnd (kz_eq ht2 (by unfold kzI; omega) rfl rfl) ((qX11_cost_23 hG (by unfold kzI; omega))) (c_gR (fun t3 => c_cv (qX3_totalCost hG t3) (fun t4 ht4 => (qX11_cost_23 hG ht4))))))
def Z11_best (G : kdS) (l0 : Nat) : kzM → Option (Int × kzM) :=
  zgR G 11 10 l0 fun t1 =>
  zcv G 3 t1 (Z3_leastCostly G t1) fun t2 =>
  zrt t2
theorem qX11_best {G : kdS} (hG : kzG G) (l0 : Nat) : CRi (Z11_best G l0) (X11_best G l0) := by
  unfold Z11_best X11_best
  exact c_gR (fun t1 => c_cv (qX3_leastCostly hG t1) (fun t2 ht2 => c_rt ht2 rfl))
def Z11_bound (G : kdS) (l0 : Nat) : kzM → Option (Int × kzM) :=
  zgR G 11 10 l0 fun t1 =>
  zcv G 3 t1 (Z3_lowerBound G t1) fun t2 =>
  zrt t2
theorem qX11_bound {G : kdS} (hG : kzG G) (l0 : Nat) : CRi (Z11_bound G l0) (X11_bound G l0) := by
  unfold Z11_bound X11_bound
  exact c_gR (fun t1 => c_cv (qX3_lowerBound hG t1) (fun t2 ht2 => c_rt ht2 rfl))
def Z11_better_20 (G : kdS) : kzM → Option (Int × kzM) :=
  zrt (-2 : Int)
theorem qX11_better_20 {G : kdS} (hG : kzG G) : CRi (Z11_better_20 G) (X11_better_20 G) := by
  unfold Z11_better_20 X11_better_20
  exact c_rt (by unfold kzI; omega) rfl
def Z11_better_46 (G : kdS) (s0 : Int) : kzM → Option (Int × kzM) :=
  zrt s0
theorem qX11_better_46 {G : kdS} (hG : kzG G) {s0 : Int} (hs0 : kzI s0) : CRi (Z11_better_46 G s0) (X11_better_46 G (Int32.ofInt s0)) := by
  unfold Z11_better_46 X11_better_46
  exact c_rt hs0 rfl
def Z11_better (G : kdS) (l0 : Nat) (l1 : Int) (l2 : Int) : kzM → Option (Int × kzM) :=
  zcl (Z11_within G l2 (0 : Int) (1 : Int)) fun t1 =>
  zcnd (t1 = (0 : Int))
  (Z11_better_20 G)
  (zgR G 11 10 l0 fun t2 =>
  zcv G 3 t2 (Z3_read G t2 l1) fun t3 =>
  zcnd (t3 = (0 : Int))
  (Z11_better_20 G)
  (zgR G 11 10 l0 fun t4 =>
  zcv G 3 t4 (Z3_improve G t4) fun t5 =>
  zcnd (l2 = (0 : Int))
  (zgR G 11 10 l0 fun t6 =>
  zcv G 3 t6 (Z3_digits G t6) fun t7 =>
  Z11_better_46 G t7)
  (Z11_better_46 G t5)))
theorem qX11_better {G : kdS} (hG : kzG G) (l0 : Nat) {l1 : Int} (hl1 : kzI l1) {l2 : Int} (hl2 : kzI l2) : CRi (Z11_better G l0 l1 l2) (X11_better G l0 (Int32.ofInt l1) (Int32.ofInt l2)) := by
  unfold Z11_better X11_better
  exact c_cl (qX11_within hG hl2 (by unfold kzI; omega) (by unfold kzI; omega)) (fun t1 ht1 => c_cnd (kz_eq ht1 (by unfold kzI; omega) rfl rfl) ((qX11_better_20 hG)) (c_gR (fun t2 => c_cv (qX3_read hG t2 hl1) (fun t3 ht3 => c_cnd (kz_eq ht3 (by unfold kzI; omega) rfl rfl) ((qX11_better_20 hG)) (c_gR (fun t4 => c_cv (qX3_improve hG t4) (fun t5 ht5 => c_cnd (kz_eq hl2 (by unfold kzI; omega) rfl rfl) (c_gR (fun t6 => c_cv (qX3_digits hG t6) (fun t7 ht7 => (qX11_better_46 hG ht7)))) ((qX11_better_46 hG ht5)))))))))
def Z11_way_22 (G : kdS) : kzM → Option (Int × kzM) :=
  zrt (-2 : Int)
theorem qX11_way_22 {G : kdS} (hG : kzG G) : CRi (Z11_way_22 G) (X11_way_22 G) := by
  unfold Z11_way_22 X11_way_22
  exact c_rt (by unfold kzI; omega) rfl
def Z11_way_127 (G : kdS) (s0 : Int) : kzM → Option (Int × kzM) :=
  zrt s0
theorem qX11_way_127 {G : kdS} (hG : kzG G) {s0 : Int} (hs0 : kzI s0) : CRi (Z11_way_127 G s0) (X11_way_127 G (Int32.ofInt s0)) := by
  unfold Z11_way_127 X11_way_127
  exact c_rt hs0 rfl
def Z11_way (G : kdS) (l0 : Nat) (l1 : Int) (l2 : Int) (l3 : Int) : kzM → Option (Int × kzM) :=
  zgR G 11 10 l0 fun t1 =>
  zcv G 3 t1 (Z3_read G t1 l1) fun t2 =>
  zcnd (t2 = (0 : Int))
  (Z11_way_22 G)
  (zgR G 11 10 l0 fun t3 =>
  zcv G 3 t3 (Z3_read G t3 l2) fun t4 =>
  zcnd (t4 = (0 : Int))
  (Z11_way_22 G)
  (zgR G 11 10 l0 fun t5 =>
  zcv G 3 t5 (Z3_size G t5) fun t6 =>
  zcnd (t6 ≤ (5 : Int))
  (zgR G 11 11 l0 fun t7 =>
  zcv G 9 t7 (Z9_find G t7 l1 l2) fun _ =>
  zcnd (l3 = (-2 : Int))
  (zgR G 11 11 l0 fun t8 =>
  zcv G 9 t8 (Z9_path G t8) fun t9 =>
  zcv G 6 t9 (Z6_size G t9) fun t10 =>
  zlI (t10 - (1 : Int)) fun u1 =>
  zrt u1)
  (zcnd (l3 = (-1 : Int))
  (zgR G 11 11 l0 fun t11 =>
  zcv G 9 t11 (Z9_peak G t11) fun t12 =>
  zrt t12)
  (zgR G 11 11 l0 fun t13 =>
  zcv G 9 t13 (Z9_path G t13) fun t14 =>
  zcv G 6 t14 (Z6_has G t14 l3) fun t15 =>
  zcnd (t15 = (0 : Int))
  (Z11_way_127 G (-6 : Int))
  (zgR G 11 11 l0 fun t16 =>
  zcv G 9 t16 (Z9_path G t16) fun t17 =>
  zcv G 6 t17 (Z6_at G t17 l3) fun t18 =>
  Z11_way_127 G t18))))
  (zrt (-3 : Int))))
theorem qX11_way {G : kdS} (hG : kzG G) (l0 : Nat) {l1 : Int} (hl1 : kzI l1) {l2 : Int} (hl2 : kzI l2) {l3 : Int} (hl3 : kzI l3) : CRi (Z11_way G l0 l1 l2 l3) (X11_way G l0 (Int32.ofInt l1) (Int32.ofInt l2) (Int32.ofInt l3)) := by
  unfold Z11_way X11_way
  exact c_gR (fun t1 => c_cv (qX3_read hG t1 hl1) (fun t2 ht2 => c_cnd (kz_eq ht2 (by unfold kzI; omega) rfl rfl) ((qX11_way_22 hG)) (c_gR (fun t3 => c_cv (qX3_read hG t3 hl2) (fun t4 ht4 => c_cnd (kz_eq ht4 (by unfold kzI; omega) rfl rfl) ((qX11_way_22 hG)) (c_gR (fun t5 => c_cv (qX3_size hG t5) (fun t6 ht6 => c_cnd (kz_le ht6 (by unfold kzI; omega) rfl rfl) (c_gR (fun t7 => c_cv (qX9_find hG t7 hl1 hl2) (fun _ _ => c_cnd (kz_eq hl3 (by unfold kzI; omega) rfl rfl) (c_gR (fun t8 => c_cv (qX9_path hG t8) (fun t9 _ => c_cv (qX6_size hG t9) (fun t10 ht10 => c_rg (kz_sub rfl rfl) fun u1 r1 e1 => c_rt r1 e1)))) (c_cnd (kz_eq hl3 (by unfold kzI; omega) rfl rfl) (c_gR (fun t11 => c_cv (qX9_peak hG t11) (fun t12 ht12 => c_rt ht12 rfl))) (c_gR (fun t13 => c_cv (qX9_path hG t13) (fun t14 _ => c_cv (qX6_has hG t14 hl3) (fun t15 ht15 => c_cnd (kz_eq ht15 (by unfold kzI; omega) rfl rfl) ((qX11_way_127 hG (by unfold kzI; omega))) (c_gR (fun t16 => c_cv (qX9_path hG t16) (fun t17 _ => c_cv (qX6_at hG t17 hl3) (fun t18 ht18 => (qX11_way_127 hG ht18))))))))))))) (c_rt (by unfold kzI; omega) rfl)))))))))
def Z11_toldOfOne_72 (G : kdS) (s0 : Int) : kzM → Option (Int × kzM) :=
  zrt s0
theorem qX11_toldOfOne_72 {G : kdS} (hG : kzG G) {s0 : Int} (hs0 : kzI s0) : CRi (Z11_toldOfOne_72 G s0) (X11_toldOfOne_72 G (Int32.ofInt s0)) := by
  unfold Z11_toldOfOne_72 X11_toldOfOne_72
  exact c_rt hs0 rfl
def Z11_toldOfOne (G : kdS) (l0 : Nat) (l1 : Int) : kzM → Option (Int × kzM) :=
  zlW (l1 - (10 : Int)) fun u1 =>
  zcl (Z11_isTongue G u1) fun t1 =>
  zcnd (t1 = (0 : Int))
  (zlW (l1 - (20 : Int)) fun u2 =>
  zcl (Z11_isTongue G u2) fun t2 =>
  zcnd (t2 = (0 : Int))
  (zlW (l1 - (30 : Int)) fun u3 =>
  zcl (Z11_isHand G u3) fun t3 =>
  zcnd (t3 = (0 : Int))
  (Z11_toldOfOne_72 G (-2 : Int))
  (zgR G 11 9 l0 fun t4 =>
  zlW (l1 - (30 : Int)) fun u4 =>
  zcv G 2 t4 (Z2_budgetOf G t4 u4) fun t5 =>
  Z11_toldOfOne_72 G t5))
  (zgR G 11 2 l0 fun t6 =>
  zaR G 17 t6 (l1 - (20 : Int)) fun t7 =>
  zcv G 8 t7 (Z8_joins G t7) fun t8 =>
  zrt t8))
  (zgR G 11 2 l0 fun t9 =>
  zaR G 17 t9 (l1 - (10 : Int)) fun t10 =>
  zcv G 8 t10 (Z8_rules G t10) fun t11 =>
  zrt t11)
theorem qX11_toldOfOne {G : kdS} (hG : kzG G) (l0 : Nat) {l1 : Int} (hl1 : kzI l1) : CRi (Z11_toldOfOne G l0 l1) (X11_toldOfOne G l0 (Int32.ofInt l1)) := by
  unfold Z11_toldOfOne X11_toldOfOne
  exact c_rgW (kz_sub rfl rfl) fun u1 r1 e1 => c_cl (e1 ▸ (qX11_isTongue hG r1)) (fun t1 ht1 => c_cnd (kz_eq ht1 (by unfold kzI; omega) rfl rfl) (c_rgW (kz_sub rfl rfl) fun u2 r2 e2 => c_cl (e2 ▸ (qX11_isTongue hG r2)) (fun t2 ht2 => c_cnd (kz_eq ht2 (by unfold kzI; omega) rfl rfl) (c_rgW (kz_sub rfl rfl) fun u3 r3 e3 => c_cl (e3 ▸ (qX11_isHand hG r3)) (fun t3 ht3 => c_cnd (kz_eq ht3 (by unfold kzI; omega) rfl rfl) ((qX11_toldOfOne_72 hG (by unfold kzI; omega))) (c_gR (fun t4 => c_rgW (kz_sub rfl rfl) fun u4 r4 e4 => c_cv (e4 ▸ (qX2_budgetOf hG t4 r4)) (fun t5 ht5 => (qX11_toldOfOne_72 hG ht5)))))) (c_gR (fun t6 => c_aR hG (kz_sub rfl rfl) (fun t7 => c_cv (qX8_joins hG t7) (fun t8 ht8 => c_rt ht8 rfl)))))) (c_gR (fun t9 => c_aR hG (kz_sub rfl rfl) (fun t10 => c_cv (qX8_rules hG t10) (fun t11 ht11 => c_rt ht11 rfl)))))
def Z11_told (G : kdS) (l0 : Nat) (l1 : Int) : kzM → Option (Int × kzM) :=
  zcnd (l1 = (0 : Int))
  (zgR G 11 0 l0 fun t1 =>
  zcv G 6 t1 (Z6_size G t1) fun t2 =>
  zrt t2)
  (zcnd (l1 = (1 : Int))
  (zgR G 11 1 l0 fun t3 =>
  zcv G 6 t3 (Z6_size G t3) fun t4 =>
  zrt t4)
  (zcnd (l1 = (2 : Int))
  (zgR G 11 8 l0 fun t5 =>
  zcv G 0 t5 (Z0_padSize G t5) fun t6 =>
  zrt t6)
  (zcnd (l1 = (3 : Int))
  (zgR G 11 3 l0 fun t7 =>
  zcv G 4 t7 (Z4_tongue G t7) fun t8 =>
  zrt t8)
  (zcnd (l1 = (4 : Int))
  (zgR G 11 3 l0 fun t9 =>
  zcv G 4 t9 (Z4_strokes G t9) fun t10 =>
  zcv G 6 t10 (Z6_size G t10) fun t11 =>
  zrt t11)
  (zcnd (l1 = (5 : Int))
  (zgR G 11 4 l0 fun t12 =>
  zcv G 10 t12 (Z10_size G t12) fun t13 =>
  zrt t13)
  (zcnd (l1 = (6 : Int))
  (zgR G 11 8 l0 fun t14 =>
  zcv G 0 t14 (Z0_pairs G t14) fun t15 =>
  zrt t15)
  (zcnd (l1 = (7 : Int))
  (zgR G 11 9 l0 fun t16 =>
  zcv G 2 t16 (Z2_learnings G t16) fun t17 =>
  zrt t17)
  (zcnd (l1 = (8 : Int))
  (zgR G 11 10 l0 fun t18 =>
  zcv G 3 t18 (Z3_size G t18) fun t19 =>
  zrt t19)
  (zcv G 11 l0 (Z11_toldOfOne G l0 l1) fun t20 =>
  zrt t20)))))))))
theorem qX11_told {G : kdS} (hG : kzG G) (l0 : Nat) {l1 : Int} (hl1 : kzI l1) : CRi (Z11_told G l0 l1) (X11_told G l0 (Int32.ofInt l1)) := by
  unfold Z11_told X11_told
  exact c_cnd (kz_eq hl1 (by unfold kzI; omega) rfl rfl) (c_gR (fun t1 => c_cv (qX6_size hG t1) (fun t2 ht2 => c_rt ht2 rfl))) (c_cnd (kz_eq hl1 (by unfold kzI; omega) rfl rfl) (c_gR (fun t3 => c_cv (qX6_size hG t3) (fun t4 ht4 => c_rt ht4 rfl))) (c_cnd (kz_eq hl1 (by unfold kzI; omega) rfl rfl) (c_gR (fun t5 => c_cv (qX0_padSize hG t5) (fun t6 ht6 => c_rt ht6 rfl))) (c_cnd (kz_eq hl1 (by unfold kzI; omega) rfl rfl) (c_gR (fun t7 => c_cv (qX4_tongue hG t7) (fun t8 ht8 => c_rt ht8 rfl))) (c_cnd (kz_eq hl1 (by unfold kzI; omega) rfl rfl) (c_gR (fun t9 => c_cv (qX4_strokes hG t9) (fun t10 _ => c_cv (qX6_size hG t10) (fun t11 ht11 => c_rt ht11 rfl)))) (c_cnd (kz_eq hl1 (by unfold kzI; omega) rfl rfl) (c_gR (fun t12 => c_cv (qX10_size hG t12) (fun t13 ht13 => c_rt ht13 rfl))) (c_cnd (kz_eq hl1 (by unfold kzI; omega) rfl rfl) (c_gR (fun t14 => c_cv (qX0_pairs hG t14) (fun t15 ht15 => c_rt ht15 rfl))) (c_cnd (kz_eq hl1 (by unfold kzI; omega) rfl rfl) (c_gR (fun t16 => c_cv (qX2_learnings hG t16) (fun t17 ht17 => c_rt ht17 rfl))) (c_cnd (kz_eq hl1 (by unfold kzI; omega) rfl rfl) (c_gR (fun t18 => c_cv (qX3_size hG t18) (fun t19 ht19 => c_rt ht19 rfl))) (c_cv (qX11_toldOfOne hG l0 hl1) (fun t20 ht20 => c_rt ht20 rfl))))))))))
