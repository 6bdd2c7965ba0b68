/-! the law over whole numbers: by program (wip/whole/gen/mkz.py) -/
def ZL_law_1693 (G : kdS) (xs : Nat → Int32) (N : Nat) (k18 : Nat → Nat → Int → kzM → Option (Unit × kzM)) (l1 : Nat) (l2 : Nat) (l3 : Int) : kzM → Option (Unit × kzM) :=
  zlI (l3 + (6 : Int)) fun t1 =>
  k18 l1 l2 t1
theorem qL_law_1693 {G : kdS} (hG : kzG G) {xs : Nat → Int32} {N : Nat} (hN : N ≤ 3072) {k18' : Nat → Nat → Int → kzM → Option (Unit × kzM)} {k18 : Nat → Nat → Int32 → kdM → Option (Unit × kdM)} (hk18 : ∀ (a0 : Nat) (a1 : Nat) (a2 : Int) (_ : kzI a2), CRu (k18' a0 a1 a2) (k18 a0 a1 (Int32.ofInt a2))) (l1 : Nat) (l2 : Nat) {l3 : Int} (hl3 : kzI l3) : CRu (ZL_law_1693 G xs N k18' l1 l2 l3) (L_law_1693 G xs N k18 l1 l2 (Int32.ofInt l3)) := by
  unfold ZL_law_1693 L_law_1693
  exact c_lI (kz_add rfl rfl) (fun t1 ht1 => (hk18 l1 l2 _ ht1))
def ZL_law_232 (G : kdS) (xs : Nat → Int32) (N : Nat) (k18 : Nat → Nat → Int → kzM → Option (Unit × kzM)) (l1 : Nat) (l2 : Nat) (l3 : Int) : kzM → Option (Unit × kzM) :=
  zsc xs N (l3 + (1 : Int)) fun t1 =>
  zcv G 11 l1 (Z11_key G l1 t1) fun t2 =>
  zsc xs N (l3 + (1 : Int)) fun t3 =>
  zcv G 12 l2 (Z12_key G l2 t3) fun t4 =>
  zcnd (t2 = t4)
  (ZL_law_1693 G xs N k18 l1 l2 l3)
  (zno)
theorem qL_law_232 {G : kdS} (hG : kzG G) {xs : Nat → Int32} {N : Nat} (hN : N ≤ 3072) {k18' : Nat → Nat → Int → kzM → Option (Unit × kzM)} {k18 : Nat → Nat → Int32 → kdM → Option (Unit × kdM)} (hk18 : ∀ (a0 : Nat) (a1 : Nat) (a2 : Int) (_ : kzI a2), CRu (k18' a0 a1 a2) (k18 a0 a1 (Int32.ofInt a2))) (l1 : Nat) (l2 : Nat) {l3 : Int} (hl3 : kzI l3) : CRu (ZL_law_232 G xs N k18' l1 l2 l3) (L_law_232 G xs N k18 l1 l2 (Int32.ofInt l3)) := by
  unfold ZL_law_232 L_law_232
  exact c_sc hN (kz_add rfl rfl) (fun t1 ht1 => c_cv (qX11_key hG l1 ht1) (fun t2 ht2 => c_sc hN (kz_add rfl rfl) (fun t3 ht3 => c_cv (qX12_key hG l2 ht3) (fun t4 ht4 => c_cnd (kz_eq ht2 ht4 rfl rfl) ((qL_law_1693 hG hN hk18 l1 l2 hl3)) (c_no)))))
def ZL_law_255 (G : kdS) (xs : Nat → Int32) (N : Nat) (k18 : Nat → Nat → Int → kzM → Option (Unit × kzM)) (l1 : Nat) (l2 : Nat) (l3 : Int) : kzM → Option (Unit × kzM) :=
  zsc xs N (l3 + (1 : Int)) fun t1 =>
  zcv G 11 l1 (Z11_letter G l1 t1) fun t2 =>
  zsc xs N (l3 + (1 : Int)) fun t3 =>
  zcv G 12 l2 (Z12_letter G l2 t3) fun t4 =>
  zcnd (t2 = t4)
  (ZL_law_1693 G xs N k18 l1 l2 l3)
  (zno)
theorem qL_law_255 {G : kdS} (hG : kzG G) {xs : Nat → Int32} {N : Nat} (hN : N ≤ 3072) {k18' : Nat → Nat → Int → kzM → Option (Unit × kzM)} {k18 : Nat → Nat → Int32 → kdM → Option (Unit × kdM)} (hk18 : ∀ (a0 : Nat) (a1 : Nat) (a2 : Int) (_ : kzI a2), CRu (k18' a0 a1 a2) (k18 a0 a1 (Int32.ofInt a2))) (l1 : Nat) (l2 : Nat) {l3 : Int} (hl3 : kzI l3) : CRu (ZL_law_255 G xs N k18' l1 l2 l3) (L_law_255 G xs N k18 l1 l2 (Int32.ofInt l3)) := by
  unfold ZL_law_255 L_law_255
  exact c_sc hN (kz_add rfl rfl) (fun t1 ht1 => c_cv (qX11_letter hG l1 ht1) (fun t2 ht2 => c_sc hN (kz_add rfl rfl) (fun t3 ht3 => c_cv (qX12_letter hG l2 ht3) (fun t4 ht4 => c_cnd (kz_eq ht2 ht4 rfl rfl) ((qL_law_1693 hG hN hk18 l1 l2 hl3)) (c_no)))))
def ZL_law_278 (G : kdS) (xs : Nat → Int32) (N : Nat) (k18 : Nat → Nat → Int → kzM → Option (Unit × kzM)) (l1 : Nat) (l2 : Nat) (l3 : Int) : kzM → Option (Unit × kzM) :=
  zsc xs N (l3 + (1 : Int)) fun t1 =>
  zcv G 11 l1 (Z11_wipe G l1 t1) fun t2 =>
  zsc xs N (l3 + (1 : Int)) fun t3 =>
  zcv G 12 l2 (Z12_wipe G l2 t3) fun t4 =>
  zcnd (t2 = t4)
  (ZL_law_1693 G xs N k18 l1 l2 l3)
  (zno)
theorem qL_law_278 {G : kdS} (hG : kzG G) {xs : Nat → Int32} {N : Nat} (hN : N ≤ 3072) {k18' : Nat → Nat → Int → kzM → Option (Unit × kzM)} {k18 : Nat → Nat → Int32 → kdM → Option (Unit × kdM)} (hk18 : ∀ (a0 : Nat) (a1 : Nat) (a2 : Int) (_ : kzI a2), CRu (k18' a0 a1 a2) (k18 a0 a1 (Int32.ofInt a2))) (l1 : Nat) (l2 : Nat) {l3 : Int} (hl3 : kzI l3) : CRu (ZL_law_278 G xs N k18' l1 l2 l3) (L_law_278 G xs N k18 l1 l2 (Int32.ofInt l3)) := by
  unfold ZL_law_278 L_law_278
  exact c_sc hN (kz_add rfl rfl) (fun t1 ht1 => c_cv (qX11_wipe hG l1 ht1) (fun t2 ht2 => c_sc hN (kz_add rfl rfl) (fun t3 ht3 => c_cv (qX12_wipe hG l2 ht3) (fun t4 ht4 => c_cnd (kz_eq ht2 ht4 rfl rfl) ((qL_law_1693 hG hN hk18 l1 l2 hl3)) (c_no)))))
def ZL_law_301 (G : kdS) (xs : Nat → Int32) (N : Nat) (k18 : Nat → Nat → Int → kzM → Option (Unit × kzM)) (l1 : Nat) (l2 : Nat) (l3 : Int) : kzM → Option (Unit × kzM) :=
  zsc xs N (l3 + (1 : Int)) fun t1 =>
  zcv G 11 l1 (Z11_rule G l1 t1) fun t2 =>
  zsc xs N (l3 + (1 : Int)) fun t3 =>
  zcv G 12 l2 (Z12_rule G l2 t3) fun t4 =>
  zcnd (t2 = t4)
  (ZL_law_1693 G xs N k18 l1 l2 l3)
  (zno)
theorem qL_law_301 {G : kdS} (hG : kzG G) {xs : Nat → Int32} {N : Nat} (hN : N ≤ 3072) {k18' : Nat → Nat → Int → kzM → Option (Unit × kzM)} {k18 : Nat → Nat → Int32 → kdM → Option (Unit × kdM)} (hk18 : ∀ (a0 : Nat) (a1 : Nat) (a2 : Int) (_ : kzI a2), CRu (k18' a0 a1 a2) (k18 a0 a1 (Int32.ofInt a2))) (l1 : Nat) (l2 : Nat) {l3 : Int} (hl3 : kzI l3) : CRu (ZL_law_301 G xs N k18' l1 l2 l3) (L_law_301 G xs N k18 l1 l2 (Int32.ofInt l3)) := by
  unfold ZL_law_301 L_law_301
  exact c_sc hN (kz_add rfl rfl) (fun t1 ht1 => c_cv (qX11_rule hG l1 ht1) (fun t2 ht2 => c_sc hN (kz_add rfl rfl) (fun t3 ht3 => c_cv (qX12_rule hG l2 ht3) (fun t4 ht4 => c_cnd (kz_eq ht2 ht4 rfl rfl) ((qL_law_1693 hG hN hk18 l1 l2 hl3)) (c_no)))))
def ZL_law_324 (G : kdS) (xs : Nat → Int32) (N : Nat) (k18 : Nat → Nat → Int → kzM → Option (Unit × kzM)) (l1 : Nat) (l2 : Nat) (l3 : Int) : kzM → Option (Unit × kzM) :=
  zsc xs N (l3 + (1 : Int)) fun t1 =>
  zsc xs N (l3 + (2 : Int)) fun t2 =>
  zsc xs N (l3 + (3 : Int)) fun t3 =>
  zsc xs N (l3 + (4 : Int)) fun t4 =>
  zcv G 11 l1 (Z11_join G l1 t1 t2 t3 t4) fun t5 =>
  zsc xs N (l3 + (1 : Int)) fun t6 =>
  zsc xs N (l3 + (2 : Int)) fun t7 =>
  zsc xs N (l3 + (3 : Int)) fun t8 =>
  zsc xs N (l3 + (4 : Int)) fun t9 =>
  zcv G 12 l2 (Z12_join G l2 t6 t7 t8 t9) fun t10 =>
  zcnd (t5 = t10)
  (ZL_law_1693 G xs N k18 l1 l2 l3)
  (zno)
theorem qL_law_324 {G : kdS} (hG : kzG G) {xs : Nat → Int32} {N : Nat} (hN : N ≤ 3072) {k18' : Nat → Nat → Int → kzM → Option (Unit × kzM)} {k18 : Nat → Nat → Int32 → kdM → Option (Unit × kdM)} (hk18 : ∀ (a0 : Nat) (a1 : Nat) (a2 : Int) (_ : kzI a2), CRu (k18' a0 a1 a2) (k18 a0 a1 (Int32.ofInt a2))) (l1 : Nat) (l2 : Nat) {l3 : Int} (hl3 : kzI l3) : CRu (ZL_law_324 G xs N k18' l1 l2 l3) (L_law_324 G xs N k18 l1 l2 (Int32.ofInt l3)) := by
  unfold ZL_law_324 L_law_324
  exact c_sc hN (kz_add rfl rfl) (fun t1 ht1 => c_sc hN (kz_add rfl rfl) (fun t2 ht2 => c_sc hN (kz_add rfl rfl) (fun t3 ht3 => c_sc hN (kz_add rfl rfl) (fun t4 ht4 => c_cv (qX11_join hG l1 ht1 ht2 ht3 ht4) (fun t5 ht5 => c_sc hN (kz_add rfl rfl) (fun t6 ht6 => c_sc hN (kz_add rfl rfl) (fun t7 ht7 => c_sc hN (kz_add rfl rfl) (fun t8 ht8 => c_sc hN (kz_add rfl rfl) (fun t9 ht9 => c_cv (qX12_join hG l2 ht6 ht7 ht8 ht9) (fun t10 ht10 => c_cnd (kz_eq ht5 ht10 rfl rfl) ((qL_law_1693 hG hN hk18 l1 l2 hl3)) (c_no)))))))))))
def ZL_law_428 (G : kdS) (xs : Nat → Int32) (N : Nat) (k18 : Nat → Nat → Int → kzM → Option (Unit × kzM)) (l1 : Nat) (l2 : Nat) (l3 : Int) (s0 : Int) (s1 : Nat) (s2 : Int) (s3 : Int) (s4 : Int) : kzM → Option (Unit × kzM) :=
  zcv G 12 s1 (Z12_own G s1 s2 s3 s4) fun t1 =>
  zcnd (s0 = t1)
  (ZL_law_1693 G xs N k18 l1 l2 l3)
  (zno)
theorem qL_law_428 {G : kdS} (hG : kzG G) {xs : Nat → Int32} {N : Nat} (hN : N ≤ 3072) {k18' : Nat → Nat → Int → kzM → Option (Unit × kzM)} {k18 : Nat → Nat → Int32 → kdM → Option (Unit × kdM)} (hk18 : ∀ (a0 : Nat) (a1 : Nat) (a2 : Int) (_ : kzI a2), CRu (k18' a0 a1 a2) (k18 a0 a1 (Int32.ofInt a2))) (l1 : Nat) (l2 : Nat) {l3 : Int} (hl3 : kzI l3) {s0 : Int} (hs0 : kzI s0) (s1 : Nat) {s2 : Int} (hs2 : kzI s2) {s3 : Int} (hs3 : kzI s3) {s4 : Int} (hs4 : kzI s4) : CRu (ZL_law_428 G xs N k18' l1 l2 l3 s0 s1 s2 s3 s4) (L_law_428 G xs N k18 l1 l2 (Int32.ofInt l3) (Int32.ofInt s0) s1 (Int32.ofInt s2) (Int32.ofInt s3) (Int32.ofInt s4)) := by
  unfold ZL_law_428 L_law_428
  exact c_cv (qX12_own hG s1 hs2 hs3 hs4) (fun t1 ht1 => c_cnd (kz_eq hs0 ht1 rfl rfl) ((qL_law_1693 hG hN hk18 l1 l2 hl3)) (c_no))
def ZL_law_401 (G : kdS) (xs : Nat → Int32) (N : Nat) (k18 : Nat → Nat → Int → kzM → Option (Unit × kzM)) (l1 : Nat) (l2 : Nat) (l3 : Int) (s0 : Nat) (s1 : Int) (s2 : Int) (s3 : Int) : kzM → Option (Unit × kzM) :=
  zcv G 11 s0 (Z11_own G s0 s1 s2 s3) fun t1 =>
  zsc xs N (l3 + (1 : Int)) fun t2 =>
  zsc xs N (l3 + (2 : Int)) fun t3 =>
  zsc xs N (l3 + (3 : Int)) fun t4 =>
  zcnd (t4 = (0 : Int))
  (ZL_law_428 G xs N k18 l1 l2 l3 t1 l2 t2 t3 (0 : Int))
  (ZL_law_428 G xs N k18 l1 l2 l3 t1 l2 t2 t3 (1 : Int))
theorem qL_law_401 {G : kdS} (hG : kzG G) {xs : Nat → Int32} {N : Nat} (hN : N ≤ 3072) {k18' : Nat → Nat → Int → kzM → Option (Unit × kzM)} {k18 : Nat → Nat → Int32 → kdM → Option (Unit × kdM)} (hk18 : ∀ (a0 : Nat) (a1 : Nat) (a2 : Int) (_ : kzI a2), CRu (k18' a0 a1 a2) (k18 a0 a1 (Int32.ofInt a2))) (l1 : Nat) (l2 : Nat) {l3 : Int} (hl3 : kzI l3) (s0 : Nat) {s1 : Int} (hs1 : kzI s1) {s2 : Int} (hs2 : kzI s2) {s3 : Int} (hs3 : kzI s3) : CRu (ZL_law_401 G xs N k18' l1 l2 l3 s0 s1 s2 s3) (L_law_401 G xs N k18 l1 l2 (Int32.ofInt l3) s0 (Int32.ofInt s1) (Int32.ofInt s2) (Int32.ofInt s3)) := by
  unfold ZL_law_401 L_law_401
  exact c_cv (qX11_own hG s0 hs1 hs2 hs3) (fun t1 ht1 => c_sc hN (kz_add rfl rfl) (fun t2 ht2 => c_sc hN (kz_add rfl rfl) (fun t3 ht3 => c_sc hN (kz_add rfl rfl) (fun t4 ht4 => c_cnd (kz_eq ht4 (by unfold kzI; omega) rfl rfl) ((qL_law_428 hG hN hk18 l1 l2 hl3 ht1 l2 ht2 ht3 (by unfold kzI; omega))) ((qL_law_428 hG hN hk18 l1 l2 hl3 ht1 l2 ht2 ht3 (by unfold kzI; omega)))))))
def ZL_law_377 (G : kdS) (xs : Nat → Int32) (N : Nat) (k18 : Nat → Nat → Int → kzM → Option (Unit × kzM)) (l1 : Nat) (l2 : Nat) (l3 : Int) : kzM → Option (Unit × kzM) :=
  zsc xs N (l3 + (1 : Int)) fun t1 =>
  zsc xs N (l3 + (2 : Int)) fun t2 =>
  zsc xs N (l3 + (3 : Int)) fun t3 =>
  zcnd (t3 = (0 : Int))
  (ZL_law_401 G xs N k18 l1 l2 l3 l1 t1 t2 (0 : Int))
  (ZL_law_401 G xs N k18 l1 l2 l3 l1 t1 t2 (1 : Int))
theorem qL_law_377 {G : kdS} (hG : kzG G) {xs : Nat → Int32} {N : Nat} (hN : N ≤ 3072) {k18' : Nat → Nat → Int → kzM → Option (Unit × kzM)} {k18 : Nat → Nat → Int32 → kdM → Option (Unit × kdM)} (hk18 : ∀ (a0 : Nat) (a1 : Nat) (a2 : Int) (_ : kzI a2), CRu (k18' a0 a1 a2) (k18 a0 a1 (Int32.ofInt a2))) (l1 : Nat) (l2 : Nat) {l3 : Int} (hl3 : kzI l3) : CRu (ZL_law_377 G xs N k18' l1 l2 l3) (L_law_377 G xs N k18 l1 l2 (Int32.ofInt l3)) := by
  unfold ZL_law_377 L_law_377
  exact c_sc hN (kz_add rfl rfl) (fun t1 ht1 => c_sc hN (kz_add rfl rfl) (fun t2 ht2 => c_sc hN (kz_add rfl rfl) (fun t3 ht3 => c_cnd (kz_eq ht3 (by unfold kzI; omega) rfl rfl) ((qL_law_401 hG hN hk18 l1 l2 hl3 l1 ht1 ht2 (by unfold kzI; omega))) ((qL_law_401 hG hN hk18 l1 l2 hl3 l1 ht1 ht2 (by unfold kzI; omega))))))
def ZL_law_436 (G : kdS) (xs : Nat → Int32) (N : Nat) (k18 : Nat → Nat → Int → kzM → Option (Unit × kzM)) (l1 : Nat) (l2 : Nat) (l3 : Int) : kzM → Option (Unit × kzM) :=
  zsc xs N (l3 + (1 : Int)) fun t1 =>
  zsc xs N (l3 + (2 : Int)) fun t2 =>
  zcv G 11 l1 (Z11_quarrel G l1 t1 t2) fun t3 =>
  zsc xs N (l3 + (1 : Int)) fun t4 =>
  zsc xs N (l3 + (2 : Int)) fun t5 =>
  zcv G 12 l2 (Z12_quarrel G l2 t4 t5) fun t6 =>
  zcnd (t3 = t6)
  (ZL_law_1693 G xs N k18 l1 l2 l3)
  (zno)
theorem qL_law_436 {G : kdS} (hG : kzG G) {xs : Nat → Int32} {N : Nat} (hN : N ≤ 3072) {k18' : Nat → Nat → Int → kzM → Option (Unit × kzM)} {k18 : Nat → Nat → Int32 → kdM → Option (Unit × kdM)} (hk18 : ∀ (a0 : Nat) (a1 : Nat) (a2 : Int) (_ : kzI a2), CRu (k18' a0 a1 a2) (k18 a0 a1 (Int32.ofInt a2))) (l1 : Nat) (l2 : Nat) {l3 : Int} (hl3 : kzI l3) : CRu (ZL_law_436 G xs N k18' l1 l2 l3) (L_law_436 G xs N k18 l1 l2 (Int32.ofInt l3)) := by
  unfold ZL_law_436 L_law_436
  exact c_sc hN (kz_add rfl rfl) (fun t1 ht1 => c_sc hN (kz_add rfl rfl) (fun t2 ht2 => c_cv (qX11_quarrel hG l1 ht1 ht2) (fun t3 ht3 => c_sc hN (kz_add rfl rfl) (fun t4 ht4 => c_sc hN (kz_add rfl rfl) (fun t5 ht5 => c_cv (qX12_quarrel hG l2 ht4 ht5) (fun t6 ht6 => c_cnd (kz_eq ht3 ht6 rfl rfl) ((qL_law_1693 hG hN hk18 l1 l2 hl3)) (c_no)))))))
def ZL_law_469 (G : kdS) (xs : Nat → Int32) (N : Nat) (k18 : Nat → Nat → Int → kzM → Option (Unit × kzM)) (l1 : Nat) (l2 : Nat) (l3 : Int) : kzM → Option (Unit × kzM) :=
  zsc xs N (l3 + (1 : Int)) fun t1 =>
  zsc xs N (l3 + (2 : Int)) fun t2 =>
  zcv G 11 l1 (Z11_idle G l1 t1 t2) fun t3 =>
  zsc xs N (l3 + (1 : Int)) fun t4 =>
  zsc xs N (l3 + (2 : Int)) fun t5 =>
  zcv G 12 l2 (Z12_idle G l2 t4 t5) fun t6 =>
  zcnd (t3 = t6)
  (ZL_law_1693 G xs N k18 l1 l2 l3)
  (zno)
theorem qL_law_469 {G : kdS} (hG : kzG G) {xs : Nat → Int32} {N : Nat} (hN : N ≤ 3072) {k18' : Nat → Nat → Int → kzM → Option (Unit × kzM)} {k18 : Nat → Nat → Int32 → kdM → Option (Unit × kdM)} (hk18 : ∀ (a0 : Nat) (a1 : Nat) (a2 : Int) (_ : kzI a2), CRu (k18' a0 a1 a2) (k18 a0 a1 (Int32.ofInt a2))) (l1 : Nat) (l2 : Nat) {l3 : Int} (hl3 : kzI l3) : CRu (ZL_law_469 G xs N k18' l1 l2 l3) (L_law_469 G xs N k18 l1 l2 (Int32.ofInt l3)) := by
  unfold ZL_law_469 L_law_469
  exact c_sc hN (kz_add rfl rfl) (fun t1 ht1 => c_sc hN (kz_add rfl rfl) (fun t2 ht2 => c_cv (qX11_idle hG l1 ht1 ht2) (fun t3 ht3 => c_sc hN (kz_add rfl rfl) (fun t4 ht4 => c_sc hN (kz_add rfl rfl) (fun t5 ht5 => c_cv (qX12_idle hG l2 ht4 ht5) (fun t6 ht6 => c_cnd (kz_eq ht3 ht6 rfl rfl) ((qL_law_1693 hG hN hk18 l1 l2 hl3)) (c_no)))))))
def ZL_law_502 (G : kdS) (xs : Nat → Int32) (N : Nat) (k18 : Nat → Nat → Int → kzM → Option (Unit × kzM)) (l1 : Nat) (l2 : Nat) (l3 : Int) : kzM → Option (Unit × kzM) :=
  zsc xs N (l3 + (1 : Int)) fun t1 =>
  zsc xs N (l3 + (2 : Int)) fun t2 =>
  zcv G 11 l1 (Z11_missing G l1 t1 t2) fun t3 =>
  zsc xs N (l3 + (1 : Int)) fun t4 =>
  zsc xs N (l3 + (2 : Int)) fun t5 =>
  zcv G 12 l2 (Z12_missing G l2 t4 t5) fun t6 =>
  zcnd (t3 = t6)
  (ZL_law_1693 G xs N k18 l1 l2 l3)
  (zno)
theorem qL_law_502 {G : kdS} (hG : kzG G) {xs : Nat → Int32} {N : Nat} (hN : N ≤ 3072) {k18' : Nat → Nat → Int → kzM → Option (Unit × kzM)} {k18 : Nat → Nat → Int32 → kdM → Option (Unit × kdM)} (hk18 : ∀ (a0 : Nat) (a1 : Nat) (a2 : Int) (_ : kzI a2), CRu (k18' a0 a1 a2) (k18 a0 a1 (Int32.ofInt a2))) (l1 : Nat) (l2 : Nat) {l3 : Int} (hl3 : kzI l3) : CRu (ZL_law_502 G xs N k18' l1 l2 l3) (L_law_502 G xs N k18 l1 l2 (Int32.ofInt l3)) := by
  unfold ZL_law_502 L_law_502
  exact c_sc hN (kz_add rfl rfl) (fun t1 ht1 => c_sc hN (kz_add rfl rfl) (fun t2 ht2 => c_cv (qX11_missing hG l1 ht1 ht2) (fun t3 ht3 => c_sc hN (kz_add rfl rfl) (fun t4 ht4 => c_sc hN (kz_add rfl rfl) (fun t5 ht5 => c_cv (qX12_missing hG l2 ht4 ht5) (fun t6 ht6 => c_cnd (kz_eq ht3 ht6 rfl rfl) ((qL_law_1693 hG hN hk18 l1 l2 hl3)) (c_no)))))))
def ZL_law_535 (G : kdS) (xs : Nat → Int32) (N : Nat) (k18 : Nat → Nat → Int → kzM → Option (Unit × kzM)) (l1 : Nat) (l2 : Nat) (l3 : Int) : kzM → Option (Unit × kzM) :=
  zsc xs N (l3 + (1 : Int)) fun t1 =>
  zcv G 11 l1 (Z11_speak G l1 t1) fun t2 =>
  zsc xs N (l3 + (1 : Int)) fun t3 =>
  zcv G 12 l2 (Z12_speak G l2 t3) fun t4 =>
  zcnd (t2 = t4)
  (ZL_law_1693 G xs N k18 l1 l2 l3)
  (zno)
theorem qL_law_535 {G : kdS} (hG : kzG G) {xs : Nat → Int32} {N : Nat} (hN : N ≤ 3072) {k18' : Nat → Nat → Int → kzM → Option (Unit × kzM)} {k18 : Nat → Nat → Int32 → kdM → Option (Unit × kdM)} (hk18 : ∀ (a0 : Nat) (a1 : Nat) (a2 : Int) (_ : kzI a2), CRu (k18' a0 a1 a2) (k18 a0 a1 (Int32.ofInt a2))) (l1 : Nat) (l2 : Nat) {l3 : Int} (hl3 : kzI l3) : CRu (ZL_law_535 G xs N k18' l1 l2 l3) (L_law_535 G xs N k18 l1 l2 (Int32.ofInt l3)) := by
  unfold ZL_law_535 L_law_535
  exact c_sc hN (kz_add rfl rfl) (fun t1 ht1 => c_cv (qX11_speak hG l1 ht1) (fun t2 ht2 => c_sc hN (kz_add rfl rfl) (fun t3 ht3 => c_cv (qX12_speak hG l2 ht3) (fun t4 ht4 => c_cnd (kz_eq ht2 ht4 rfl rfl) ((qL_law_1693 hG hN hk18 l1 l2 hl3)) (c_no)))))
def ZL_law_558 (G : kdS) (xs : Nat → Int32) (N : Nat) (k18 : Nat → Nat → Int → kzM → Option (Unit × kzM)) (l1 : Nat) (l2 : Nat) (l3 : Int) : kzM → Option (Unit × kzM) :=
  zsc xs N (l3 + (1 : Int)) fun t1 =>
  zsc xs N (l3 + (2 : Int)) fun t2 =>
  zcv G 11 l1 (Z11_strike G l1 t1 t2) fun t3 =>
  zsc xs N (l3 + (1 : Int)) fun t4 =>
  zsc xs N (l3 + (2 : Int)) fun t5 =>
  zcv G 12 l2 (Z12_strike G l2 t4 t5) fun t6 =>
  zcnd (t3 = t6)
  (ZL_law_1693 G xs N k18 l1 l2 l3)
  (zno)
theorem qL_law_558 {G : kdS} (hG : kzG G) {xs : Nat → Int32} {N : Nat} (hN : N ≤ 3072) {k18' : Nat → Nat → Int → kzM → Option (Unit × kzM)} {k18 : Nat → Nat → Int32 → kdM → Option (Unit × kdM)} (hk18 : ∀ (a0 : Nat) (a1 : Nat) (a2 : Int) (_ : kzI a2), CRu (k18' a0 a1 a2) (k18 a0 a1 (Int32.ofInt a2))) (l1 : Nat) (l2 : Nat) {l3 : Int} (hl3 : kzI l3) : CRu (ZL_law_558 G xs N k18' l1 l2 l3) (L_law_558 G xs N k18 l1 l2 (Int32.ofInt l3)) := by
  unfold ZL_law_558 L_law_558
  exact c_sc hN (kz_add rfl rfl) (fun t1 ht1 => c_sc hN (kz_add rfl rfl) (fun t2 ht2 => c_cv (qX11_strike hG l1 ht1 ht2) (fun t3 ht3 => c_sc hN (kz_add rfl rfl) (fun t4 ht4 => c_sc hN (kz_add rfl rfl) (fun t5 ht5 => c_cv (qX12_strike hG l2 ht4 ht5) (fun t6 ht6 => c_cnd (kz_eq ht3 ht6 rfl rfl) ((qL_law_1693 hG hN hk18 l1 l2 hl3)) (c_no)))))))
def ZL_law_591 (G : kdS) (xs : Nat → Int32) (N : Nat) (k18 : Nat → Nat → Int → kzM → Option (Unit × kzM)) (l1 : Nat) (l2 : Nat) (l3 : Int) : kzM → Option (Unit × kzM) :=
  zsc xs N (l3 + (1 : Int)) fun t1 =>
  zsc xs N (l3 + (2 : Int)) fun t2 =>
  zcv G 11 l1 (Z11_change G l1 t1 t2) fun t3 =>
  zsc xs N (l3 + (1 : Int)) fun t4 =>
  zsc xs N (l3 + (2 : Int)) fun t5 =>
  zcv G 12 l2 (Z12_change G l2 t4 t5) fun t6 =>
  zcnd (t3 = t6)
  (ZL_law_1693 G xs N k18 l1 l2 l3)
  (zno)
theorem qL_law_591 {G : kdS} (hG : kzG G) {xs : Nat → Int32} {N : Nat} (hN : N ≤ 3072) {k18' : Nat → Nat → Int → kzM → Option (Unit × kzM)} {k18 : Nat → Nat → Int32 → kdM → Option (Unit × kdM)} (hk18 : ∀ (a0 : Nat) (a1 : Nat) (a2 : Int) (_ : kzI a2), CRu (k18' a0 a1 a2) (k18 a0 a1 (Int32.ofInt a2))) (l1 : Nat) (l2 : Nat) {l3 : Int} (hl3 : kzI l3) : CRu (ZL_law_591 G xs N k18' l1 l2 l3) (L_law_591 G xs N k18 l1 l2 (Int32.ofInt l3)) := by
  unfold ZL_law_591 L_law_591
  exact c_sc hN (kz_add rfl rfl) (fun t1 ht1 => c_sc hN (kz_add rfl rfl) (fun t2 ht2 => c_cv (qX11_change hG l1 ht1 ht2) (fun t3 ht3 => c_sc hN (kz_add rfl rfl) (fun t4 ht4 => c_sc hN (kz_add rfl rfl) (fun t5 ht5 => c_cv (qX12_change hG l2 ht4 ht5) (fun t6 ht6 => c_cnd (kz_eq ht3 ht6 rfl rfl) ((qL_law_1693 hG hN hk18 l1 l2 hl3)) (c_no)))))))
def ZL_law_624 (G : kdS) (xs : Nat → Int32) (N : Nat) (k18 : Nat → Nat → Int → kzM → Option (Unit × kzM)) (l1 : Nat) (l2 : Nat) (l3 : Int) : kzM → Option (Unit × kzM) :=
  zsc xs N (l3 + (1 : Int)) fun t1 =>
  zcv G 11 l1 (Z11_back G l1 t1) fun t2 =>
  zsc xs N (l3 + (1 : Int)) fun t3 =>
  zcv G 12 l2 (Z12_back G l2 t3) fun t4 =>
  zcnd (t2 = t4)
  (ZL_law_1693 G xs N k18 l1 l2 l3)
  (zno)
theorem qL_law_624 {G : kdS} (hG : kzG G) {xs : Nat → Int32} {N : Nat} (hN : N ≤ 3072) {k18' : Nat → Nat → Int → kzM → Option (Unit × kzM)} {k18 : Nat → Nat → Int32 → kdM → Option (Unit × kdM)} (hk18 : ∀ (a0 : Nat) (a1 : Nat) (a2 : Int) (_ : kzI a2), CRu (k18' a0 a1 a2) (k18 a0 a1 (Int32.ofInt a2))) (l1 : Nat) (l2 : Nat) {l3 : Int} (hl3 : kzI l3) : CRu (ZL_law_624 G xs N k18' l1 l2 l3) (L_law_624 G xs N k18 l1 l2 (Int32.ofInt l3)) := by
  unfold ZL_law_624 L_law_624
  exact c_sc hN (kz_add rfl rfl) (fun t1 ht1 => c_cv (qX11_back hG l1 ht1) (fun t2 ht2 => c_sc hN (kz_add rfl rfl) (fun t3 ht3 => c_cv (qX12_back hG l2 ht3) (fun t4 ht4 => c_cnd (kz_eq ht2 ht4 rfl rfl) ((qL_law_1693 hG hN hk18 l1 l2 hl3)) (c_no)))))
def ZL_law_647 (G : kdS) (xs : Nat → Int32) (N : Nat) (k18 : Nat → Nat → Int → kzM → Option (Unit × kzM)) (l1 : Nat) (l2 : Nat) (l3 : Int) : kzM → Option (Unit × kzM) :=
  zsc xs N (l3 + (1 : Int)) fun t1 =>
  zcv G 11 l1 (Z11_stands G l1 t1) fun t2 =>
  zsc xs N (l3 + (1 : Int)) fun t3 =>
  zcv G 12 l2 (Z12_stands G l2 t3) fun t4 =>
  zcnd (t2 = t4)
  (ZL_law_1693 G xs N k18 l1 l2 l3)
  (zno)
theorem qL_law_647 {G : kdS} (hG : kzG G) {xs : Nat → Int32} {N : Nat} (hN : N ≤ 3072) {k18' : Nat → Nat → Int → kzM → Option (Unit × kzM)} {k18 : Nat → Nat → Int32 → kdM → Option (Unit × kdM)} (hk18 : ∀ (a0 : Nat) (a1 : Nat) (a2 : Int) (_ : kzI a2), CRu (k18' a0 a1 a2) (k18 a0 a1 (Int32.ofInt a2))) (l1 : Nat) (l2 : Nat) {l3 : Int} (hl3 : kzI l3) : CRu (ZL_law_647 G xs N k18' l1 l2 l3) (L_law_647 G xs N k18 l1 l2 (Int32.ofInt l3)) := by
  unfold ZL_law_647 L_law_647
  exact c_sc hN (kz_add rfl rfl) (fun t1 ht1 => c_cv (qX11_stands hG l1 ht1) (fun t2 ht2 => c_sc hN (kz_add rfl rfl) (fun t3 ht3 => c_cv (qX12_stands hG l2 ht3) (fun t4 ht4 => c_cnd (kz_eq ht2 ht4 rfl rfl) ((qL_law_1693 hG hN hk18 l1 l2 hl3)) (c_no)))))
def ZL_law_670 (G : kdS) (xs : Nat → Int32) (N : Nat) (k18 : Nat → Nat → Int → kzM → Option (Unit × kzM)) (l1 : Nat) (l2 : Nat) (l3 : Int) : kzM → Option (Unit × kzM) :=
  zsc xs N (l3 + (1 : Int)) fun t1 =>
  zcv G 11 l1 (Z11_piece G l1 t1) fun t2 =>
  zsc xs N (l3 + (1 : Int)) fun t3 =>
  zcv G 12 l2 (Z12_piece G l2 t3) fun t4 =>
  zcnd (t2 = t4)
  (ZL_law_1693 G xs N k18 l1 l2 l3)
  (zno)
theorem qL_law_670 {G : kdS} (hG : kzG G) {xs : Nat → Int32} {N : Nat} (hN : N ≤ 3072) {k18' : Nat → Nat → Int → kzM → Option (Unit × kzM)} {k18 : Nat → Nat → Int32 → kdM → Option (Unit × kdM)} (hk18 : ∀ (a0 : Nat) (a1 : Nat) (a2 : Int) (_ : kzI a2), CRu (k18' a0 a1 a2) (k18 a0 a1 (Int32.ofInt a2))) (l1 : Nat) (l2 : Nat) {l3 : Int} (hl3 : kzI l3) : CRu (ZL_law_670 G xs N k18' l1 l2 l3) (L_law_670 G xs N k18 l1 l2 (Int32.ofInt l3)) := by
  unfold ZL_law_670 L_law_670
  exact c_sc hN (kz_add rfl rfl) (fun t1 ht1 => c_cv (qX11_piece hG l1 ht1) (fun t2 ht2 => c_sc hN (kz_add rfl rfl) (fun t3 ht3 => c_cv (qX12_piece hG l2 ht3) (fun t4 ht4 => c_cnd (kz_eq ht2 ht4 rfl rfl) ((qL_law_1693 hG hN hk18 l1 l2 hl3)) (c_no)))))
def ZL_law_693 (G : kdS) (xs : Nat → Int32) (N : Nat) (k18 : Nat → Nat → Int → kzM → Option (Unit × kzM)) (l1 : Nat) (l2 : Nat) (l3 : Int) : kzM → Option (Unit × kzM) :=
  zcv G 11 l1 (Z11_could G l1) fun t1 =>
  zcv G 12 l2 (Z12_could G l2) fun t2 =>
  zcnd (t1 = t2)
  (ZL_law_1693 G xs N k18 l1 l2 l3)
  (zno)
theorem qL_law_693 {G : kdS} (hG : kzG G) {xs : Nat → Int32} {N : Nat} (hN : N ≤ 3072) {k18' : Nat → Nat → Int → kzM → Option (Unit × kzM)} {k18 : Nat → Nat → Int32 → kdM → Option (Unit × kdM)} (hk18 : ∀ (a0 : Nat) (a1 : Nat) (a2 : Int) (_ : kzI a2), CRu (k18' a0 a1 a2) (k18 a0 a1 (Int32.ofInt a2))) (l1 : Nat) (l2 : Nat) {l3 : Int} (hl3 : kzI l3) : CRu (ZL_law_693 G xs N k18' l1 l2 l3) (L_law_693 G xs N k18 l1 l2 (Int32.ofInt l3)) := by
  unfold ZL_law_693 L_law_693
  exact c_cv (qX11_could hG l1) (fun t1 ht1 => c_cv (qX12_could hG l2) (fun t2 ht2 => c_cnd (kz_eq ht1 ht2 rfl rfl) ((qL_law_1693 hG hN hk18 l1 l2 hl3)) (c_no)))
def ZL_law_706 (G : kdS) (xs : Nat → Int32) (N : Nat) (k18 : Nat → Nat → Int → kzM → Option (Unit × kzM)) (l1 : Nat) (l2 : Nat) (l3 : Int) : kzM → Option (Unit × kzM) :=
  zsc xs N (l3 + (1 : Int)) fun t1 =>
  zsc xs N (l3 + (2 : Int)) fun t2 =>
  zsc xs N (l3 + (3 : Int)) fun t3 =>
  zcv G 11 l1 (Z11_word G l1 t1 t2 t3) fun t4 =>
  zsc xs N (l3 + (1 : Int)) fun t5 =>
  zsc xs N (l3 + (2 : Int)) fun t6 =>
  zsc xs N (l3 + (3 : Int)) fun t7 =>
  zcv G 12 l2 (Z12_word G l2 t5 t6 t7) fun t8 =>
  zcnd (t4 = t8)
  (ZL_law_1693 G xs N k18 l1 l2 l3)
  (zno)
theorem qL_law_706 {G : kdS} (hG : kzG G) {xs : Nat → Int32} {N : Nat} (hN : N ≤ 3072) {k18' : Nat → Nat → Int → kzM → Option (Unit × kzM)} {k18 : Nat → Nat → Int32 → kdM → Option (Unit × kdM)} (hk18 : ∀ (a0 : Nat) (a1 : Nat) (a2 : Int) (_ : kzI a2), CRu (k18' a0 a1 a2) (k18 a0 a1 (Int32.ofInt a2))) (l1 : Nat) (l2 : Nat) {l3 : Int} (hl3 : kzI l3) : CRu (ZL_law_706 G xs N k18' l1 l2 l3) (L_law_706 G xs N k18 l1 l2 (Int32.ofInt l3)) := by
  unfold ZL_law_706 L_law_706
  exact c_sc hN (kz_add rfl rfl) (fun t1 ht1 => c_sc hN (kz_add rfl rfl) (fun t2 ht2 => c_sc hN (kz_add rfl rfl) (fun t3 ht3 => c_cv (qX11_word hG l1 ht1 ht2 ht3) (fun t4 ht4 => c_sc hN (kz_add rfl rfl) (fun t5 ht5 => c_sc hN (kz_add rfl rfl) (fun t6 ht6 => c_sc hN (kz_add rfl rfl) (fun t7 ht7 => c_cv (qX12_word hG l2 ht5 ht6 ht7) (fun t8 ht8 => c_cnd (kz_eq ht4 ht8 rfl rfl) ((qL_law_1693 hG hN hk18 l1 l2 hl3)) (c_no)))))))))
def ZL_law_749 (G : kdS) (xs : Nat → Int32) (N : Nat) (k18 : Nat → Nat → Int → kzM → Option (Unit × kzM)) (l1 : Nat) (l2 : Nat) (l3 : Int) : kzM → Option (Unit × kzM) :=
  zsc xs N (l3 + (1 : Int)) fun t1 =>
  zsc xs N (l3 + (2 : Int)) fun t2 =>
  zcv G 11 l1 (Z11_ofWord G l1 t1 t2) fun t3 =>
  zsc xs N (l3 + (1 : Int)) fun t4 =>
  zsc xs N (l3 + (2 : Int)) fun t5 =>
  zcv G 12 l2 (Z12_ofWord G l2 t4 t5) fun t6 =>
  zcnd (t3 = t6)
  (ZL_law_1693 G xs N k18 l1 l2 l3)
  (zno)
theorem qL_law_749 {G : kdS} (hG : kzG G) {xs : Nat → Int32} {N : Nat} (hN : N ≤ 3072) {k18' : Nat → Nat → Int → kzM → Option (Unit × kzM)} {k18 : Nat → Nat → Int32 → kdM → Option (Unit × kdM)} (hk18 : ∀ (a0 : Nat) (a1 : Nat) (a2 : Int) (_ : kzI a2), CRu (k18' a0 a1 a2) (k18 a0 a1 (Int32.ofInt a2))) (l1 : Nat) (l2 : Nat) {l3 : Int} (hl3 : kzI l3) : CRu (ZL_law_749 G xs N k18' l1 l2 l3) (L_law_749 G xs N k18 l1 l2 (Int32.ofInt l3)) := by
  unfold ZL_law_749 L_law_749
  exact c_sc hN (kz_add rfl rfl) (fun t1 ht1 => c_sc hN (kz_add rfl rfl) (fun t2 ht2 => c_cv (qX11_ofWord hG l1 ht1 ht2) (fun t3 ht3 => c_sc hN (kz_add rfl rfl) (fun t4 ht4 => c_sc hN (kz_add rfl rfl) (fun t5 ht5 => c_cv (qX12_ofWord hG l2 ht4 ht5) (fun t6 ht6 => c_cnd (kz_eq ht3 ht6 rfl rfl) ((qL_law_1693 hG hN hk18 l1 l2 hl3)) (c_no)))))))
def ZL_law_782 (G : kdS) (xs : Nat → Int32) (N : Nat) (k18 : Nat → Nat → Int → kzM → Option (Unit × kzM)) (l1 : Nat) (l2 : Nat) (l3 : Int) : kzM → Option (Unit × kzM) :=
  zsc xs N (l3 + (1 : Int)) fun t1 =>
  zsc xs N (l3 + (2 : Int)) fun t2 =>
  zcv G 11 l1 (Z11_count G l1 t1 t2) fun t3 =>
  zsc xs N (l3 + (1 : Int)) fun t4 =>
  zsc xs N (l3 + (2 : Int)) fun t5 =>
  zcv G 12 l2 (Z12_count G l2 t4 t5) fun t6 =>
  zcnd (t3 = t6)
  (ZL_law_1693 G xs N k18 l1 l2 l3)
  (zno)
theorem qL_law_782 {G : kdS} (hG : kzG G) {xs : Nat → Int32} {N : Nat} (hN : N ≤ 3072) {k18' : Nat → Nat → Int → kzM → Option (Unit × kzM)} {k18 : Nat → Nat → Int32 → kdM → Option (Unit × kdM)} (hk18 : ∀ (a0 : Nat) (a1 : Nat) (a2 : Int) (_ : kzI a2), CRu (k18' a0 a1 a2) (k18 a0 a1 (Int32.ofInt a2))) (l1 : Nat) (l2 : Nat) {l3 : Int} (hl3 : kzI l3) : CRu (ZL_law_782 G xs N k18' l1 l2 l3) (L_law_782 G xs N k18 l1 l2 (Int32.ofInt l3)) := by
  unfold ZL_law_782 L_law_782
  exact c_sc hN (kz_add rfl rfl) (fun t1 ht1 => c_sc hN (kz_add rfl rfl) (fun t2 ht2 => c_cv (qX11_count hG l1 ht1 ht2) (fun t3 ht3 => c_sc hN (kz_add rfl rfl) (fun t4 ht4 => c_sc hN (kz_add rfl rfl) (fun t5 ht5 => c_cv (qX12_count hG l2 ht4 ht5) (fun t6 ht6 => c_cnd (kz_eq ht3 ht6 rfl rfl) ((qL_law_1693 hG hN hk18 l1 l2 hl3)) (c_no)))))))
def ZL_law_815 (G : kdS) (xs : Nat → Int32) (N : Nat) (k18 : Nat → Nat → Int → kzM → Option (Unit × kzM)) (l1 : Nat) (l2 : Nat) (l3 : Int) : kzM → Option (Unit × kzM) :=
  zsc xs N (l3 + (1 : Int)) fun t1 =>
  zsc xs N (l3 + (2 : Int)) fun t2 =>
  zcv G 11 l1 (Z11_price G l1 t1 t2) fun t3 =>
  zsc xs N (l3 + (1 : Int)) fun t4 =>
  zsc xs N (l3 + (2 : Int)) fun t5 =>
  zcv G 12 l2 (Z12_price G l2 t4 t5) fun t6 =>
  zcnd (t3 = t6)
  (ZL_law_1693 G xs N k18 l1 l2 l3)
  (zno)
theorem qL_law_815 {G : kdS} (hG : kzG G) {xs : Nat → Int32} {N : Nat} (hN : N ≤ 3072) {k18' : Nat → Nat → Int → kzM → Option (Unit × kzM)} {k18 : Nat → Nat → Int32 → kdM → Option (Unit × kdM)} (hk18 : ∀ (a0 : Nat) (a1 : Nat) (a2 : Int) (_ : kzI a2), CRu (k18' a0 a1 a2) (k18 a0 a1 (Int32.ofInt a2))) (l1 : Nat) (l2 : Nat) {l3 : Int} (hl3 : kzI l3) : CRu (ZL_law_815 G xs N k18' l1 l2 l3) (L_law_815 G xs N k18 l1 l2 (Int32.ofInt l3)) := by
  unfold ZL_law_815 L_law_815
  exact c_sc hN (kz_add rfl rfl) (fun t1 ht1 => c_sc hN (kz_add rfl rfl) (fun t2 ht2 => c_cv (qX11_price hG l1 ht1 ht2) (fun t3 ht3 => c_sc hN (kz_add rfl rfl) (fun t4 ht4 => c_sc hN (kz_add rfl rfl) (fun t5 ht5 => c_cv (qX12_price hG l2 ht4 ht5) (fun t6 ht6 => c_cnd (kz_eq ht3 ht6 rfl rfl) ((qL_law_1693 hG hN hk18 l1 l2 hl3)) (c_no)))))))
def ZL_law_848 (G : kdS) (xs : Nat → Int32) (N : Nat) (k18 : Nat → Nat → Int → kzM → Option (Unit × kzM)) (l1 : Nat) (l2 : Nat) (l3 : Int) : kzM → Option (Unit × kzM) :=
  zsc xs N (l3 + (1 : Int)) fun t1 =>
  zcv G 11 l1 (Z11_slip G l1 t1) fun t2 =>
  zsc xs N (l3 + (1 : Int)) fun t3 =>
  zcv G 12 l2 (Z12_slip G l2 t3) fun t4 =>
  zcnd (t2 = t4)
  (ZL_law_1693 G xs N k18 l1 l2 l3)
  (zno)
theorem qL_law_848 {G : kdS} (hG : kzG G) {xs : Nat → Int32} {N : Nat} (hN : N ≤ 3072) {k18' : Nat → Nat → Int → kzM → Option (Unit × kzM)} {k18 : Nat → Nat → Int32 → kdM → Option (Unit × kdM)} (hk18 : ∀ (a0 : Nat) (a1 : Nat) (a2 : Int) (_ : kzI a2), CRu (k18' a0 a1 a2) (k18 a0 a1 (Int32.ofInt a2))) (l1 : Nat) (l2 : Nat) {l3 : Int} (hl3 : kzI l3) : CRu (ZL_law_848 G xs N k18' l1 l2 l3) (L_law_848 G xs N k18 l1 l2 (Int32.ofInt l3)) := by
  unfold ZL_law_848 L_law_848
  exact c_sc hN (kz_add rfl rfl) (fun t1 ht1 => c_cv (qX11_slip hG l1 ht1) (fun t2 ht2 => c_sc hN (kz_add rfl rfl) (fun t3 ht3 => c_cv (qX12_slip hG l2 ht3) (fun t4 ht4 => c_cnd (kz_eq ht2 ht4 rfl rfl) ((qL_law_1693 hG hN hk18 l1 l2 hl3)) (c_no)))))
def ZL_law_871 (G : kdS) (xs : Nat → Int32) (N : Nat) (k18 : Nat → Nat → Int → kzM → Option (Unit × kzM)) (l1 : Nat) (l2 : Nat) (l3 : Int) : kzM → Option (Unit × kzM) :=
  zsc xs N (l3 + (1 : Int)) fun t1 =>
  zsc xs N (l3 + (2 : Int)) fun t2 =>
  zsc xs N (l3 + (3 : Int)) fun t3 =>
  zcv G 11 l1 (Z11_guess G l1 t1 t2 t3) fun t4 =>
  zsc xs N (l3 + (1 : Int)) fun t5 =>
  zsc xs N (l3 + (2 : Int)) fun t6 =>
  zsc xs N (l3 + (3 : Int)) fun t7 =>
  zcv G 12 l2 (Z12_guess G l2 t5 t6 t7) fun t8 =>
  zcnd (t4 = t8)
  (ZL_law_1693 G xs N k18 l1 l2 l3)
  (zno)
theorem qL_law_871 {G : kdS} (hG : kzG G) {xs : Nat → Int32} {N : Nat} (hN : N ≤ 3072) {k18' : Nat → Nat → Int → kzM → Option (Unit × kzM)} {k18 : Nat → Nat → Int32 → kdM → Option (Unit × kdM)} (hk18 : ∀ (a0 : Nat) (a1 : Nat) (a2 : Int) (_ : kzI a2), CRu (k18' a0 a1 a2) (k18 a0 a1 (Int32.ofInt a2))) (l1 : Nat) (l2 : Nat) {l3 : Int} (hl3 : kzI l3) : CRu (ZL_law_871 G xs N k18' l1 l2 l3) (L_law_871 G xs N k18 l1 l2 (Int32.ofInt l3)) := by
  unfold ZL_law_871 L_law_871
  exact c_sc hN (kz_add rfl rfl) (fun t1 ht1 => c_sc hN (kz_add rfl rfl) (fun t2 ht2 => c_sc hN (kz_add rfl rfl) (fun t3 ht3 => c_cv (qX11_guess hG l1 ht1 ht2 ht3) (fun t4 ht4 => c_sc hN (kz_add rfl rfl) (fun t5 ht5 => c_sc hN (kz_add rfl rfl) (fun t6 ht6 => c_sc hN (kz_add rfl rfl) (fun t7 ht7 => c_cv (qX12_guess hG l2 ht5 ht6 ht7) (fun t8 ht8 => c_cnd (kz_eq ht4 ht8 rfl rfl) ((qL_law_1693 hG hN hk18 l1 l2 hl3)) (c_no)))))))))
def ZL_law_914 (G : kdS) (xs : Nat → Int32) (N : Nat) (k18 : Nat → Nat → Int → kzM → Option (Unit × kzM)) (l1 : Nat) (l2 : Nat) (l3 : Int) : kzM → Option (Unit × kzM) :=
  zsc xs N (l3 + (1 : Int)) fun t1 =>
  zsc xs N (l3 + (2 : Int)) fun t2 =>
  zcv G 11 l1 (Z11_part G l1 t1 t2) fun t3 =>
  zsc xs N (l3 + (1 : Int)) fun t4 =>
  zsc xs N (l3 + (2 : Int)) fun t5 =>
  zcv G 12 l2 (Z12_part G l2 t4 t5) fun t6 =>
  zcnd (t3 = t6)
  (ZL_law_1693 G xs N k18 l1 l2 l3)
  (zno)
theorem qL_law_914 {G : kdS} (hG : kzG G) {xs : Nat → Int32} {N : Nat} (hN : N ≤ 3072) {k18' : Nat → Nat → Int → kzM → Option (Unit × kzM)} {k18 : Nat → Nat → Int32 → kdM → Option (Unit × kdM)} (hk18 : ∀ (a0 : Nat) (a1 : Nat) (a2 : Int) (_ : kzI a2), CRu (k18' a0 a1 a2) (k18 a0 a1 (Int32.ofInt a2))) (l1 : Nat) (l2 : Nat) {l3 : Int} (hl3 : kzI l3) : CRu (ZL_law_914 G xs N k18' l1 l2 l3) (L_law_914 G xs N k18 l1 l2 (Int32.ofInt l3)) := by
  unfold ZL_law_914 L_law_914
  exact c_sc hN (kz_add rfl rfl) (fun t1 ht1 => c_sc hN (kz_add rfl rfl) (fun t2 ht2 => c_cv (qX11_part hG l1 ht1 ht2) (fun t3 ht3 => c_sc hN (kz_add rfl rfl) (fun t4 ht4 => c_sc hN (kz_add rfl rfl) (fun t5 ht5 => c_cv (qX12_part hG l2 ht4 ht5) (fun t6 ht6 => c_cnd (kz_eq ht3 ht6 rfl rfl) ((qL_law_1693 hG hN hk18 l1 l2 hl3)) (c_no)))))))
def ZL_law_947 (G : kdS) (xs : Nat → Int32) (N : Nat) (k18 : Nat → Nat → Int → kzM → Option (Unit × kzM)) (l1 : Nat) (l2 : Nat) (l3 : Int) : kzM → Option (Unit × kzM) :=
  zsc xs N (l3 + (1 : Int)) fun t1 =>
  zsc xs N (l3 + (2 : Int)) fun t2 =>
  zcv G 11 l1 (Z11_pieceOf G l1 t1 t2) fun t3 =>
  zsc xs N (l3 + (1 : Int)) fun t4 =>
  zsc xs N (l3 + (2 : Int)) fun t5 =>
  zcv G 12 l2 (Z12_pieceOf G l2 t4 t5) fun t6 =>
  zcnd (t3 = t6)
  (ZL_law_1693 G xs N k18 l1 l2 l3)
  (zno)
theorem qL_law_947 {G : kdS} (hG : kzG G) {xs : Nat → Int32} {N : Nat} (hN : N ≤ 3072) {k18' : Nat → Nat → Int → kzM → Option (Unit × kzM)} {k18 : Nat → Nat → Int32 → kdM → Option (Unit × kdM)} (hk18 : ∀ (a0 : Nat) (a1 : Nat) (a2 : Int) (_ : kzI a2), CRu (k18' a0 a1 a2) (k18 a0 a1 (Int32.ofInt a2))) (l1 : Nat) (l2 : Nat) {l3 : Int} (hl3 : kzI l3) : CRu (ZL_law_947 G xs N k18' l1 l2 l3) (L_law_947 G xs N k18 l1 l2 (Int32.ofInt l3)) := by
  unfold ZL_law_947 L_law_947
  exact c_sc hN (kz_add rfl rfl) (fun t1 ht1 => c_sc hN (kz_add rfl rfl) (fun t2 ht2 => c_cv (qX11_pieceOf hG l1 ht1 ht2) (fun t3 ht3 => c_sc hN (kz_add rfl rfl) (fun t4 ht4 => c_sc hN (kz_add rfl rfl) (fun t5 ht5 => c_cv (qX12_pieceOf hG l2 ht4 ht5) (fun t6 ht6 => c_cnd (kz_eq ht3 ht6 rfl rfl) ((qL_law_1693 hG hN hk18 l1 l2 hl3)) (c_no)))))))
def ZL_law_980 (G : kdS) (xs : Nat → Int32) (N : Nat) (k18 : Nat → Nat → Int → kzM → Option (Unit × kzM)) (l1 : Nat) (l2 : Nat) (l3 : Int) : kzM → Option (Unit × kzM) :=
  zsc xs N (l3 + (1 : Int)) fun t1 =>
  zsc xs N (l3 + (2 : Int)) fun t2 =>
  zsc xs N (l3 + (3 : Int)) fun t3 =>
  zcv G 11 l1 (Z11_both G l1 t1 t2 t3) fun t4 =>
  zsc xs N (l3 + (1 : Int)) fun t5 =>
  zsc xs N (l3 + (2 : Int)) fun t6 =>
  zsc xs N (l3 + (3 : Int)) fun t7 =>
  zcv G 12 l2 (Z12_both G l2 t5 t6 t7) fun t8 =>
  zcnd (t4 = t8)
  (ZL_law_1693 G xs N k18 l1 l2 l3)
  (zno)
theorem qL_law_980 {G : kdS} (hG : kzG G) {xs : Nat → Int32} {N : Nat} (hN : N ≤ 3072) {k18' : Nat → Nat → Int → kzM → Option (Unit × kzM)} {k18 : Nat → Nat → Int32 → kdM → Option (Unit × kdM)} (hk18 : ∀ (a0 : Nat) (a1 : Nat) (a2 : Int) (_ : kzI a2), CRu (k18' a0 a1 a2) (k18 a0 a1 (Int32.ofInt a2))) (l1 : Nat) (l2 : Nat) {l3 : Int} (hl3 : kzI l3) : CRu (ZL_law_980 G xs N k18' l1 l2 l3) (L_law_980 G xs N k18 l1 l2 (Int32.ofInt l3)) := by
  unfold ZL_law_980 L_law_980
  exact c_sc hN (kz_add rfl rfl) (fun t1 ht1 => c_sc hN (kz_add rfl rfl) (fun t2 ht2 => c_sc hN (kz_add rfl rfl) (fun t3 ht3 => c_cv (qX11_both hG l1 ht1 ht2 ht3) (fun t4 ht4 => c_sc hN (kz_add rfl rfl) (fun t5 ht5 => c_sc hN (kz_add rfl rfl) (fun t6 ht6 => c_sc hN (kz_add rfl rfl) (fun t7 ht7 => c_cv (qX12_both hG l2 ht5 ht6 ht7) (fun t8 ht8 => c_cnd (kz_eq ht4 ht8 rfl rfl) ((qL_law_1693 hG hN hk18 l1 l2 hl3)) (c_no)))))))))
def ZL_law_1064 (G : kdS) (xs : Nat → Int32) (N : Nat) (k18 : Nat → Nat → Int → kzM → Option (Unit × kzM)) (l1 : Nat) (l2 : Nat) (l3 : Int) (s0 : Int) (s1 : Nat) (s2 : Int) (s3 : Int) : kzM → Option (Unit × kzM) :=
  zcv G 12 s1 (Z12_say G s1 s2 s3) fun t1 =>
  zcnd (s0 = t1)
  (ZL_law_1693 G xs N k18 l1 l2 l3)
  (zno)
theorem qL_law_1064 {G : kdS} (hG : kzG G) {xs : Nat → Int32} {N : Nat} (hN : N ≤ 3072) {k18' : Nat → Nat → Int → kzM → Option (Unit × kzM)} {k18 : Nat → Nat → Int32 → kdM → Option (Unit × kdM)} (hk18 : ∀ (a0 : Nat) (a1 : Nat) (a2 : Int) (_ : kzI a2), CRu (k18' a0 a1 a2) (k18 a0 a1 (Int32.ofInt a2))) (l1 : Nat) (l2 : Nat) {l3 : Int} (hl3 : kzI l3) {s0 : Int} (hs0 : kzI s0) (s1 : Nat) {s2 : Int} (hs2 : kzI s2) {s3 : Int} (hs3 : kzI s3) : CRu (ZL_law_1064 G xs N k18' l1 l2 l3 s0 s1 s2 s3) (L_law_1064 G xs N k18 l1 l2 (Int32.ofInt l3) (Int32.ofInt s0) s1 (Int32.ofInt s2) (Int32.ofInt s3)) := by
  unfold ZL_law_1064 L_law_1064
  exact c_cv (qX12_say hG s1 hs2 hs3) (fun t1 ht1 => c_cnd (kz_eq hs0 ht1 rfl rfl) ((qL_law_1693 hG hN hk18 l1 l2 hl3)) (c_no))
def ZL_law_1042 (G : kdS) (xs : Nat → Int32) (N : Nat) (k18 : Nat → Nat → Int → kzM → Option (Unit × kzM)) (l1 : Nat) (l2 : Nat) (l3 : Int) (s0 : Nat) (s1 : Int) (s2 : Int) : kzM → Option (Unit × kzM) :=
  zcv G 11 s0 (Z11_say G s0 s1 s2) fun t1 =>
  zsc xs N (l3 + (1 : Int)) fun t2 =>
  zsc xs N (l3 + (2 : Int)) fun t3 =>
  zcnd (t3 = (0 : Int))
  (ZL_law_1064 G xs N k18 l1 l2 l3 t1 l2 t2 (0 : Int))
  (ZL_law_1064 G xs N k18 l1 l2 l3 t1 l2 t2 (1 : Int))
theorem qL_law_1042 {G : kdS} (hG : kzG G) {xs : Nat → Int32} {N : Nat} (hN : N ≤ 3072) {k18' : Nat → Nat → Int → kzM → Option (Unit × kzM)} {k18 : Nat → Nat → Int32 → kdM → Option (Unit × kdM)} (hk18 : ∀ (a0 : Nat) (a1 : Nat) (a2 : Int) (_ : kzI a2), CRu (k18' a0 a1 a2) (k18 a0 a1 (Int32.ofInt a2))) (l1 : Nat) (l2 : Nat) {l3 : Int} (hl3 : kzI l3) (s0 : Nat) {s1 : Int} (hs1 : kzI s1) {s2 : Int} (hs2 : kzI s2) : CRu (ZL_law_1042 G xs N k18' l1 l2 l3 s0 s1 s2) (L_law_1042 G xs N k18 l1 l2 (Int32.ofInt l3) s0 (Int32.ofInt s1) (Int32.ofInt s2)) := by
  unfold ZL_law_1042 L_law_1042
  exact c_cv (qX11_say hG s0 hs1 hs2) (fun t1 ht1 => c_sc hN (kz_add rfl rfl) (fun t2 ht2 => c_sc hN (kz_add rfl rfl) (fun t3 ht3 => c_cnd (kz_eq ht3 (by unfold kzI; omega) rfl rfl) ((qL_law_1064 hG hN hk18 l1 l2 hl3 ht1 l2 ht2 (by unfold kzI; omega))) ((qL_law_1064 hG hN hk18 l1 l2 hl3 ht1 l2 ht2 (by unfold kzI; omega))))))
def ZL_law_1023 (G : kdS) (xs : Nat → Int32) (N : Nat) (k18 : Nat → Nat → Int → kzM → Option (Unit × kzM)) (l1 : Nat) (l2 : Nat) (l3 : Int) : kzM → Option (Unit × kzM) :=
  zsc xs N (l3 + (1 : Int)) fun t1 =>
  zsc xs N (l3 + (2 : Int)) fun t2 =>
  zcnd (t2 = (0 : Int))
  (ZL_law_1042 G xs N k18 l1 l2 l3 l1 t1 (0 : Int))
  (ZL_law_1042 G xs N k18 l1 l2 l3 l1 t1 (1 : Int))
theorem qL_law_1023 {G : kdS} (hG : kzG G) {xs : Nat → Int32} {N : Nat} (hN : N ≤ 3072) {k18' : Nat → Nat → Int → kzM → Option (Unit × kzM)} {k18 : Nat → Nat → Int32 → kdM → Option (Unit × kdM)} (hk18 : ∀ (a0 : Nat) (a1 : Nat) (a2 : Int) (_ : kzI a2), CRu (k18' a0 a1 a2) (k18 a0 a1 (Int32.ofInt a2))) (l1 : Nat) (l2 : Nat) {l3 : Int} (hl3 : kzI l3) : CRu (ZL_law_1023 G xs N k18' l1 l2 l3) (L_law_1023 G xs N k18 l1 l2 (Int32.ofInt l3)) := by
  unfold ZL_law_1023 L_law_1023
  exact c_sc hN (kz_add rfl rfl) (fun t1 ht1 => c_sc hN (kz_add rfl rfl) (fun t2 ht2 => c_cnd (kz_eq ht2 (by unfold kzI; omega) rfl rfl) ((qL_law_1042 hG hN hk18 l1 l2 hl3 l1 ht1 (by unfold kzI; omega))) ((qL_law_1042 hG hN hk18 l1 l2 hl3 l1 ht1 (by unfold kzI; omega)))))
def ZL_law_1072 (G : kdS) (xs : Nat → Int32) (N : Nat) (k18 : Nat → Nat → Int → kzM → Option (Unit × kzM)) (l1 : Nat) (l2 : Nat) (l3 : Int) : kzM → Option (Unit × kzM) :=
  zsc xs N (l3 + (1 : Int)) fun t1 =>
  zcv G 11 l1 (Z11_chosen G l1 t1) fun t2 =>
  zsc xs N (l3 + (1 : Int)) fun t3 =>
  zcv G 12 l2 (Z12_chosen G l2 t3) fun t4 =>
  zcnd (t2 = t4)
  (ZL_law_1693 G xs N k18 l1 l2 l3)
  (zno)
theorem qL_law_1072 {G : kdS} (hG : kzG G) {xs : Nat → Int32} {N : Nat} (hN : N ≤ 3072) {k18' : Nat → Nat → Int → kzM → Option (Unit × kzM)} {k18 : Nat → Nat → Int32 → kdM → Option (Unit × kdM)} (hk18 : ∀ (a0 : Nat) (a1 : Nat) (a2 : Int) (_ : kzI a2), CRu (k18' a0 a1 a2) (k18 a0 a1 (Int32.ofInt a2))) (l1 : Nat) (l2 : Nat) {l3 : Int} (hl3 : kzI l3) : CRu (ZL_law_1072 G xs N k18' l1 l2 l3) (L_law_1072 G xs N k18 l1 l2 (Int32.ofInt l3)) := by
  unfold ZL_law_1072 L_law_1072
  exact c_sc hN (kz_add rfl rfl) (fun t1 ht1 => c_cv (qX11_chosen hG l1 ht1) (fun t2 ht2 => c_sc hN (kz_add rfl rfl) (fun t3 ht3 => c_cv (qX12_chosen hG l2 ht3) (fun t4 ht4 => c_cnd (kz_eq ht2 ht4 rfl rfl) ((qL_law_1693 hG hN hk18 l1 l2 hl3)) (c_no)))))
def ZL_law_1095 (G : kdS) (xs : Nat → Int32) (N : Nat) (k18 : Nat → Nat → Int → kzM → Option (Unit × kzM)) (l1 : Nat) (l2 : Nat) (l3 : Int) : kzM → Option (Unit × kzM) :=
  zcv G 11 l1 (Z11_product G l1) fun t1 =>
  zcv G 12 l2 (Z12_product G l2) fun t2 =>
  zcnd (t1 = t2)
  (ZL_law_1693 G xs N k18 l1 l2 l3)
  (zno)
theorem qL_law_1095 {G : kdS} (hG : kzG G) {xs : Nat → Int32} {N : Nat} (hN : N ≤ 3072) {k18' : Nat → Nat → Int → kzM → Option (Unit × kzM)} {k18 : Nat → Nat → Int32 → kdM → Option (Unit × kdM)} (hk18 : ∀ (a0 : Nat) (a1 : Nat) (a2 : Int) (_ : kzI a2), CRu (k18' a0 a1 a2) (k18 a0 a1 (Int32.ofInt a2))) (l1 : Nat) (l2 : Nat) {l3 : Int} (hl3 : kzI l3) : CRu (ZL_law_1095 G xs N k18' l1 l2 l3) (L_law_1095 G xs N k18 l1 l2 (Int32.ofInt l3)) := by
  unfold ZL_law_1095 L_law_1095
  exact c_cv (qX11_product hG l1) (fun t1 ht1 => c_cv (qX12_product hG l2) (fun t2 ht2 => c_cnd (kzL_eq ht1 ht2 rfl rfl) ((qL_law_1693 hG hN hk18 l1 l2 hl3)) (c_no)))
def ZL_law_1109 (G : kdS) (xs : Nat → Int32) (N : Nat) (k18 : Nat → Nat → Int → kzM → Option (Unit × kzM)) (l1 : Nat) (l2 : Nat) (l3 : Int) : kzM → Option (Unit × kzM) :=
  zsc xs N (l3 + (1 : Int)) fun t1 =>
  zsc xs N (l3 + (2 : Int)) fun t2 =>
  zsc xs N (l3 + (3 : Int)) fun t3 =>
  zcv G 11 l1 (Z11_learn G l1 t1 t2 t3) fun t4 =>
  zsc xs N (l3 + (1 : Int)) fun t5 =>
  zsc xs N (l3 + (2 : Int)) fun t6 =>
  zsc xs N (l3 + (3 : Int)) fun t7 =>
  zcv G 12 l2 (Z12_learn G l2 t5 t6 t7) fun t8 =>
  zcnd (t4 = t8)
  (ZL_law_1693 G xs N k18 l1 l2 l3)
  (zno)
theorem qL_law_1109 {G : kdS} (hG : kzG G) {xs : Nat → Int32} {N : Nat} (hN : N ≤ 3072) {k18' : Nat → Nat → Int → kzM → Option (Unit × kzM)} {k18 : Nat → Nat → Int32 → kdM → Option (Unit × kdM)} (hk18 : ∀ (a0 : Nat) (a1 : Nat) (a2 : Int) (_ : kzI a2), CRu (k18' a0 a1 a2) (k18 a0 a1 (Int32.ofInt a2))) (l1 : Nat) (l2 : Nat) {l3 : Int} (hl3 : kzI l3) : CRu (ZL_law_1109 G xs N k18' l1 l2 l3) (L_law_1109 G xs N k18 l1 l2 (Int32.ofInt l3)) := by
  unfold ZL_law_1109 L_law_1109
  exact c_sc hN (kz_add rfl rfl) (fun t1 ht1 => c_sc hN (kz_add rfl rfl) (fun t2 ht2 => c_sc hN (kz_add rfl rfl) (fun t3 ht3 => c_cv (qX11_learn hG l1 ht1 ht2 ht3) (fun t4 ht4 => c_sc hN (kz_add rfl rfl) (fun t5 ht5 => c_sc hN (kz_add rfl rfl) (fun t6 ht6 => c_sc hN (kz_add rfl rfl) (fun t7 ht7 => c_cv (qX12_learn hG l2 ht5 ht6 ht7) (fun t8 ht8 => c_cnd (kz_eq ht4 ht8 rfl rfl) ((qL_law_1693 hG hN hk18 l1 l2 hl3)) (c_no)))))))))
def ZL_law_1152 (G : kdS) (xs : Nat → Int32) (N : Nat) (k18 : Nat → Nat → Int → kzM → Option (Unit × kzM)) (l1 : Nat) (l2 : Nat) (l3 : Int) : kzM → Option (Unit × kzM) :=
  zsc xs N (l3 + (1 : Int)) fun t1 =>
  zsc xs N (l3 + (2 : Int)) fun t2 =>
  zsc xs N (l3 + (3 : Int)) fun t3 =>
  zcv G 11 l1 (Z11_worth G l1 t1 t2 t3) fun t4 =>
  zsc xs N (l3 + (1 : Int)) fun t5 =>
  zsc xs N (l3 + (2 : Int)) fun t6 =>
  zsc xs N (l3 + (3 : Int)) fun t7 =>
  zcv G 12 l2 (Z12_worth G l2 t5 t6 t7) fun t8 =>
  zcnd (t4 = t8)
  (ZL_law_1693 G xs N k18 l1 l2 l3)
  (zno)
theorem qL_law_1152 {G : kdS} (hG : kzG G) {xs : Nat → Int32} {N : Nat} (hN : N ≤ 3072) {k18' : Nat → Nat → Int → kzM → Option (Unit × kzM)} {k18 : Nat → Nat → Int32 → kdM → Option (Unit × kdM)} (hk18 : ∀ (a0 : Nat) (a1 : Nat) (a2 : Int) (_ : kzI a2), CRu (k18' a0 a1 a2) (k18 a0 a1 (Int32.ofInt a2))) (l1 : Nat) (l2 : Nat) {l3 : Int} (hl3 : kzI l3) : CRu (ZL_law_1152 G xs N k18' l1 l2 l3) (L_law_1152 G xs N k18 l1 l2 (Int32.ofInt l3)) := by
  unfold ZL_law_1152 L_law_1152
  exact c_sc hN (kz_add rfl rfl) (fun t1 ht1 => c_sc hN (kz_add rfl rfl) (fun t2 ht2 => c_sc hN (kz_add rfl rfl) (fun t3 ht3 => c_cv (qX11_worth hG l1 ht1 ht2 ht3) (fun t4 ht4 => c_sc hN (kz_add rfl rfl) (fun t5 ht5 => c_sc hN (kz_add rfl rfl) (fun t6 ht6 => c_sc hN (kz_add rfl rfl) (fun t7 ht7 => c_cv (qX12_worth hG l2 ht5 ht6 ht7) (fun t8 ht8 => c_cnd (kz_eq ht4 ht8 rfl rfl) ((qL_law_1693 hG hN hk18 l1 l2 hl3)) (c_no)))))))))
def ZL_law_1195 (G : kdS) (xs : Nat → Int32) (N : Nat) (k18 : Nat → Nat → Int → kzM → Option (Unit × kzM)) (l1 : Nat) (l2 : Nat) (l3 : Int) : kzM → Option (Unit × kzM) :=
  zsc xs N (l3 + (1 : Int)) fun t1 =>
  zsc xs N (l3 + (2 : Int)) fun t2 =>
  zcv G 11 l1 (Z11_forget G l1 t1 t2) fun t3 =>
  zsc xs N (l3 + (1 : Int)) fun t4 =>
  zsc xs N (l3 + (2 : Int)) fun t5 =>
  zcv G 12 l2 (Z12_forget G l2 t4 t5) fun t6 =>
  zcnd (t3 = t6)
  (ZL_law_1693 G xs N k18 l1 l2 l3)
  (zno)
theorem qL_law_1195 {G : kdS} (hG : kzG G) {xs : Nat → Int32} {N : Nat} (hN : N ≤ 3072) {k18' : Nat → Nat → Int → kzM → Option (Unit × kzM)} {k18 : Nat → Nat → Int32 → kdM → Option (Unit × kdM)} (hk18 : ∀ (a0 : Nat) (a1 : Nat) (a2 : Int) (_ : kzI a2), CRu (k18' a0 a1 a2) (k18 a0 a1 (Int32.ofInt a2))) (l1 : Nat) (l2 : Nat) {l3 : Int} (hl3 : kzI l3) : CRu (ZL_law_1195 G xs N k18' l1 l2 l3) (L_law_1195 G xs N k18 l1 l2 (Int32.ofInt l3)) := by
  unfold ZL_law_1195 L_law_1195
  exact c_sc hN (kz_add rfl rfl) (fun t1 ht1 => c_sc hN (kz_add rfl rfl) (fun t2 ht2 => c_cv (qX11_forget hG l1 ht1 ht2) (fun t3 ht3 => c_sc hN (kz_add rfl rfl) (fun t4 ht4 => c_sc hN (kz_add rfl rfl) (fun t5 ht5 => c_cv (qX12_forget hG l2 ht4 ht5) (fun t6 ht6 => c_cnd (kz_eq ht3 ht6 rfl rfl) ((qL_law_1693 hG hN hk18 l1 l2 hl3)) (c_no)))))))
def ZL_law_1228 (G : kdS) (xs : Nat → Int32) (N : Nat) (k18 : Nat → Nat → Int → kzM → Option (Unit × kzM)) (l1 : Nat) (l2 : Nat) (l3 : Int) : kzM → Option (Unit × kzM) :=
  zsc xs N (l3 + (1 : Int)) fun t1 =>
  zcv G 11 l1 (Z11_fade G l1 t1) fun t2 =>
  zsc xs N (l3 + (1 : Int)) fun t3 =>
  zcv G 12 l2 (Z12_fade G l2 t3) fun t4 =>
  zcnd (t2 = t4)
  (ZL_law_1693 G xs N k18 l1 l2 l3)
  (zno)
theorem qL_law_1228 {G : kdS} (hG : kzG G) {xs : Nat → Int32} {N : Nat} (hN : N ≤ 3072) {k18' : Nat → Nat → Int → kzM → Option (Unit × kzM)} {k18 : Nat → Nat → Int32 → kdM → Option (Unit × kdM)} (hk18 : ∀ (a0 : Nat) (a1 : Nat) (a2 : Int) (_ : kzI a2), CRu (k18' a0 a1 a2) (k18 a0 a1 (Int32.ofInt a2))) (l1 : Nat) (l2 : Nat) {l3 : Int} (hl3 : kzI l3) : CRu (ZL_law_1228 G xs N k18' l1 l2 l3) (L_law_1228 G xs N k18 l1 l2 (Int32.ofInt l3)) := by
  unfold ZL_law_1228 L_law_1228
  exact c_sc hN (kz_add rfl rfl) (fun t1 ht1 => c_cv (qX11_fade hG l1 ht1) (fun t2 ht2 => c_sc hN (kz_add rfl rfl) (fun t3 ht3 => c_cv (qX12_fade hG l2 ht3) (fun t4 ht4 => c_cnd (kz_eq ht2 ht4 rfl rfl) ((qL_law_1693 hG hN hk18 l1 l2 hl3)) (c_no)))))
def ZL_law_1251 (G : kdS) (xs : Nat → Int32) (N : Nat) (k18 : Nat → Nat → Int → kzM → Option (Unit × kzM)) (l1 : Nat) (l2 : Nat) (l3 : Int) : kzM → Option (Unit × kzM) :=
  zsc xs N (l3 + (1 : Int)) fun t1 =>
  zsc xs N (l3 + (2 : Int)) fun t2 =>
  zsc xs N (l3 + (3 : Int)) fun t3 =>
  zsc xs N (l3 + (4 : Int)) fun t4 =>
  zsc xs N (l3 + (5 : Int)) fun t5 =>
  zcv G 11 l1 (Z11_mine G l1 t1 t2 t3 t4 t5) fun t6 =>
  zsc xs N (l3 + (1 : Int)) fun t7 =>
  zsc xs N (l3 + (2 : Int)) fun t8 =>
  zsc xs N (l3 + (3 : Int)) fun t9 =>
  zsc xs N (l3 + (4 : Int)) fun t10 =>
  zsc xs N (l3 + (5 : Int)) fun t11 =>
  zcv G 12 l2 (Z12_mine G l2 t7 t8 t9 t10 t11) fun t12 =>
  zcnd (t6 = t12)
  (ZL_law_1693 G xs N k18 l1 l2 l3)
  (zno)
theorem qL_law_1251 {G : kdS} (hG : kzG G) {xs : Nat → Int32} {N : Nat} (hN : N ≤ 3072) {k18' : Nat → Nat → Int → kzM → Option (Unit × kzM)} {k18 : Nat → Nat → Int32 → kdM → Option (Unit × kdM)} (hk18 : ∀ (a0 : Nat) (a1 : Nat) (a2 : Int) (_ : kzI a2), CRu (k18' a0 a1 a2) (k18 a0 a1 (Int32.ofInt a2))) (l1 : Nat) (l2 : Nat) {l3 : Int} (hl3 : kzI l3) : CRu (ZL_law_1251 G xs N k18' l1 l2 l3) (L_law_1251 G xs N k18 l1 l2 (Int32.ofInt l3)) := by
  unfold ZL_law_1251 L_law_1251
  exact c_sc hN (kz_add rfl rfl) (fun t1 ht1 => c_sc hN (kz_add rfl rfl) (fun t2 ht2 => c_sc hN (kz_add rfl rfl) (fun t3 ht3 => c_sc hN (kz_add rfl rfl) (fun t4 ht4 => c_sc hN (kz_add rfl rfl) (fun t5 ht5 => c_cv (qX11_mine hG l1 ht1 ht2 ht3 ht4 ht5) (fun t6 ht6 => c_sc hN (kz_add rfl rfl) (fun t7 ht7 => c_sc hN (kz_add rfl rfl) (fun t8 ht8 => c_sc hN (kz_add rfl rfl) (fun t9 ht9 => c_sc hN (kz_add rfl rfl) (fun t10 ht10 => c_sc hN (kz_add rfl rfl) (fun t11 ht11 => c_cv (qX12_mine hG l2 ht7 ht8 ht9 ht10 ht11) (fun t12 ht12 => c_cnd (kz_eq ht6 ht12 rfl rfl) ((qL_law_1693 hG hN hk18 l1 l2 hl3)) (c_no)))))))))))))
def ZL_law_1314 (G : kdS) (xs : Nat → Int32) (N : Nat) (k18 : Nat → Nat → Int → kzM → Option (Unit × kzM)) (l1 : Nat) (l2 : Nat) (l3 : Int) : kzM → Option (Unit × kzM) :=
  zsc xs N (l3 + (1 : Int)) fun t1 =>
  zsc xs N (l3 + (2 : Int)) fun t2 =>
  zcv G 11 l1 (Z11_budget G l1 t1 t2) fun t3 =>
  zsc xs N (l3 + (1 : Int)) fun t4 =>
  zsc xs N (l3 + (2 : Int)) fun t5 =>
  zcv G 12 l2 (Z12_budget G l2 t4 t5) fun t6 =>
  zcnd (t3 = t6)
  (ZL_law_1693 G xs N k18 l1 l2 l3)
  (zno)
theorem qL_law_1314 {G : kdS} (hG : kzG G) {xs : Nat → Int32} {N : Nat} (hN : N ≤ 3072) {k18' : Nat → Nat → Int → kzM → Option (Unit × kzM)} {k18 : Nat → Nat → Int32 → kdM → Option (Unit × kdM)} (hk18 : ∀ (a0 : Nat) (a1 : Nat) (a2 : Int) (_ : kzI a2), CRu (k18' a0 a1 a2) (k18 a0 a1 (Int32.ofInt a2))) (l1 : Nat) (l2 : Nat) {l3 : Int} (hl3 : kzI l3) : CRu (ZL_law_1314 G xs N k18' l1 l2 l3) (L_law_1314 G xs N k18 l1 l2 (Int32.ofInt l3)) := by
  unfold ZL_law_1314 L_law_1314
  exact c_sc hN (kz_add rfl rfl) (fun t1 ht1 => c_sc hN (kz_add rfl rfl) (fun t2 ht2 => c_cv (qX11_budget hG l1 ht1 ht2) (fun t3 ht3 => c_sc hN (kz_add rfl rfl) (fun t4 ht4 => c_sc hN (kz_add rfl rfl) (fun t5 ht5 => c_cv (qX12_budget hG l2 ht4 ht5) (fun t6 ht6 => c_cnd (kz_eq ht3 ht6 rfl rfl) ((qL_law_1693 hG hN hk18 l1 l2 hl3)) (c_no)))))))
def ZL_law_1347 (G : kdS) (xs : Nat → Int32) (N : Nat) (k18 : Nat → Nat → Int → kzM → Option (Unit × kzM)) (l1 : Nat) (l2 : Nat) (l3 : Int) : kzM → Option (Unit × kzM) :=
  zsc xs N (l3 + (1 : Int)) fun t1 =>
  zcv G 11 l1 (Z11_seed G l1 t1) fun t2 =>
  zsc xs N (l3 + (1 : Int)) fun t3 =>
  zcv G 12 l2 (Z12_seed G l2 t3) fun t4 =>
  zcnd (t2 = t4)
  (ZL_law_1693 G xs N k18 l1 l2 l3)
  (zno)
theorem qL_law_1347 {G : kdS} (hG : kzG G) {xs : Nat → Int32} {N : Nat} (hN : N ≤ 3072) {k18' : Nat → Nat → Int → kzM → Option (Unit × kzM)} {k18 : Nat → Nat → Int32 → kdM → Option (Unit × kdM)} (hk18 : ∀ (a0 : Nat) (a1 : Nat) (a2 : Int) (_ : kzI a2), CRu (k18' a0 a1 a2) (k18 a0 a1 (Int32.ofInt a2))) (l1 : Nat) (l2 : Nat) {l3 : Int} (hl3 : kzI l3) : CRu (ZL_law_1347 G xs N k18' l1 l2 l3) (L_law_1347 G xs N k18 l1 l2 (Int32.ofInt l3)) := by
  unfold ZL_law_1347 L_law_1347
  exact c_sc hN (kz_add rfl rfl) (fun t1 ht1 => c_cv (qX11_seed hG l1 ht1) (fun t2 ht2 => c_sc hN (kz_add rfl rfl) (fun t3 ht3 => c_cv (qX12_seed hG l2 ht3) (fun t4 ht4 => c_cnd (kz_eq ht2 ht4 rfl rfl) ((qL_law_1693 hG hN hk18 l1 l2 hl3)) (c_no)))))
def ZL_law_1370 (G : kdS) (xs : Nat → Int32) (N : Nat) (k18 : Nat → Nat → Int → kzM → Option (Unit × kzM)) (l1 : Nat) (l2 : Nat) (l3 : Int) : kzM → Option (Unit × kzM) :=
  zsc xs N (l3 + (1 : Int)) fun t1 =>
  zsc xs N (l3 + (2 : Int)) fun t2 =>
  zsc xs N (l3 + (3 : Int)) fun t3 =>
  zcv G 11 l1 (Z11_share G l1 t1 t2 t3) fun t4 =>
  zsc xs N (l3 + (1 : Int)) fun t5 =>
  zsc xs N (l3 + (2 : Int)) fun t6 =>
  zsc xs N (l3 + (3 : Int)) fun t7 =>
  zcv G 12 l2 (Z12_share G l2 t5 t6 t7) fun t8 =>
  zcnd (t4 = t8)
  (ZL_law_1693 G xs N k18 l1 l2 l3)
  (zno)
theorem qL_law_1370 {G : kdS} (hG : kzG G) {xs : Nat → Int32} {N : Nat} (hN : N ≤ 3072) {k18' : Nat → Nat → Int → kzM → Option (Unit × kzM)} {k18 : Nat → Nat → Int32 → kdM → Option (Unit × kdM)} (hk18 : ∀ (a0 : Nat) (a1 : Nat) (a2 : Int) (_ : kzI a2), CRu (k18' a0 a1 a2) (k18 a0 a1 (Int32.ofInt a2))) (l1 : Nat) (l2 : Nat) {l3 : Int} (hl3 : kzI l3) : CRu (ZL_law_1370 G xs N k18' l1 l2 l3) (L_law_1370 G xs N k18 l1 l2 (Int32.ofInt l3)) := by
  unfold ZL_law_1370 L_law_1370
  exact c_sc hN (kz_add rfl rfl) (fun t1 ht1 => c_sc hN (kz_add rfl rfl) (fun t2 ht2 => c_sc hN (kz_add rfl rfl) (fun t3 ht3 => c_cv (qX11_share hG l1 ht1 ht2 ht3) (fun t4 ht4 => c_sc hN (kz_add rfl rfl) (fun t5 ht5 => c_sc hN (kz_add rfl rfl) (fun t6 ht6 => c_sc hN (kz_add rfl rfl) (fun t7 ht7 => c_cv (qX12_share hG l2 ht5 ht6 ht7) (fun t8 ht8 => c_cnd (kz_eq ht4 ht8 rfl rfl) ((qL_law_1693 hG hN hk18 l1 l2 hl3)) (c_no)))))))))
def ZL_law_1413 (G : kdS) (xs : Nat → Int32) (N : Nat) (k18 : Nat → Nat → Int → kzM → Option (Unit × kzM)) (l1 : Nat) (l2 : Nat) (l3 : Int) : kzM → Option (Unit × kzM) :=
  zsc xs N (l3 + (1 : Int)) fun t1 =>
  zcv G 11 l1 (Z11_symbols G l1 t1) fun t2 =>
  zsc xs N (l3 + (1 : Int)) fun t3 =>
  zcv G 12 l2 (Z12_symbols G l2 t3) fun t4 =>
  zcnd (t2 = t4)
  (ZL_law_1693 G xs N k18 l1 l2 l3)
  (zno)
theorem qL_law_1413 {G : kdS} (hG : kzG G) {xs : Nat → Int32} {N : Nat} (hN : N ≤ 3072) {k18' : Nat → Nat → Int → kzM → Option (Unit × kzM)} {k18 : Nat → Nat → Int32 → kdM → Option (Unit × kdM)} (hk18 : ∀ (a0 : Nat) (a1 : Nat) (a2 : Int) (_ : kzI a2), CRu (k18' a0 a1 a2) (k18 a0 a1 (Int32.ofInt a2))) (l1 : Nat) (l2 : Nat) {l3 : Int} (hl3 : kzI l3) : CRu (ZL_law_1413 G xs N k18' l1 l2 l3) (L_law_1413 G xs N k18 l1 l2 (Int32.ofInt l3)) := by
  unfold ZL_law_1413 L_law_1413
  exact c_sc hN (kz_add rfl rfl) (fun t1 ht1 => c_cv (qX11_symbols hG l1 ht1) (fun t2 ht2 => c_sc hN (kz_add rfl rfl) (fun t3 ht3 => c_cv (qX12_symbols hG l2 ht3) (fun t4 ht4 => c_cnd (kz_eq ht2 ht4 rfl rfl) ((qL_law_1693 hG hN hk18 l1 l2 hl3)) (c_no)))))
def ZL_law_1436 (G : kdS) (xs : Nat → Int32) (N : Nat) (k18 : Nat → Nat → Int → kzM → Option (Unit × kzM)) (l1 : Nat) (l2 : Nat) (l3 : Int) : kzM → Option (Unit × kzM) :=
  zsc xs N (l3 + (1 : Int)) fun t1 =>
  zsc xs N (l3 + (2 : Int)) fun t2 =>
  zsc xs N (l3 + (3 : Int)) fun t3 =>
  zcv G 11 l1 (Z11_set G l1 t1 t2 t3) fun t4 =>
  zsc xs N (l3 + (1 : Int)) fun t5 =>
  zsc xs N (l3 + (2 : Int)) fun t6 =>
  zsc xs N (l3 + (3 : Int)) fun t7 =>
  zcv G 12 l2 (Z12_set G l2 t5 t6 t7) fun t8 =>
  zcnd (t4 = t8)
  (ZL_law_1693 G xs N k18 l1 l2 l3)
  (zno)
theorem qL_law_1436 {G : kdS} (hG : kzG G) {xs : Nat → Int32} {N : Nat} (hN : N ≤ 3072) {k18' : Nat → Nat → Int → kzM → Option (Unit × kzM)} {k18 : Nat → Nat → Int32 → kdM → Option (Unit × kdM)} (hk18 : ∀ (a0 : Nat) (a1 : Nat) (a2 : Int) (_ : kzI a2), CRu (k18' a0 a1 a2) (k18 a0 a1 (Int32.ofInt a2))) (l1 : Nat) (l2 : Nat) {l3 : Int} (hl3 : kzI l3) : CRu (ZL_law_1436 G xs N k18' l1 l2 l3) (L_law_1436 G xs N k18 l1 l2 (Int32.ofInt l3)) := by
  unfold ZL_law_1436 L_law_1436
  exact c_sc hN (kz_add rfl rfl) (fun t1 ht1 => c_sc hN (kz_add rfl rfl) (fun t2 ht2 => c_sc hN (kz_add rfl rfl) (fun t3 ht3 => c_cv (qX11_set hG l1 ht1 ht2 ht3) (fun t4 ht4 => c_sc hN (kz_add rfl rfl) (fun t5 ht5 => c_sc hN (kz_add rfl rfl) (fun t6 ht6 => c_sc hN (kz_add rfl rfl) (fun t7 ht7 => c_cv (qX12_set hG l2 ht5 ht6 ht7) (fun t8 ht8 => c_cnd (kz_eq ht4 ht8 rfl rfl) ((qL_law_1693 hG hN hk18 l1 l2 hl3)) (c_no)))))))))
def ZL_law_1479 (G : kdS) (xs : Nat → Int32) (N : Nat) (k18 : Nat → Nat → Int → kzM → Option (Unit × kzM)) (l1 : Nat) (l2 : Nat) (l3 : Int) : kzM → Option (Unit × kzM) :=
  zsc xs N (l3 + (1 : Int)) fun t1 =>
  zsc xs N (l3 + (2 : Int)) fun t2 =>
  zsc xs N (l3 + (3 : Int)) fun t3 =>
  zcv G 11 l1 (Z11_pair G l1 t1 t2 t3) fun t4 =>
  zsc xs N (l3 + (1 : Int)) fun t5 =>
  zsc xs N (l3 + (2 : Int)) fun t6 =>
  zsc xs N (l3 + (3 : Int)) fun t7 =>
  zcv G 12 l2 (Z12_pair G l2 t5 t6 t7) fun t8 =>
  zcnd (t4 = t8)
  (ZL_law_1693 G xs N k18 l1 l2 l3)
  (zno)
theorem qL_law_1479 {G : kdS} (hG : kzG G) {xs : Nat → Int32} {N : Nat} (hN : N ≤ 3072) {k18' : Nat → Nat → Int → kzM → Option (Unit × kzM)} {k18 : Nat → Nat → Int32 → kdM → Option (Unit × kdM)} (hk18 : ∀ (a0 : Nat) (a1 : Nat) (a2 : Int) (_ : kzI a2), CRu (k18' a0 a1 a2) (k18 a0 a1 (Int32.ofInt a2))) (l1 : Nat) (l2 : Nat) {l3 : Int} (hl3 : kzI l3) : CRu (ZL_law_1479 G xs N k18' l1 l2 l3) (L_law_1479 G xs N k18 l1 l2 (Int32.ofInt l3)) := by
  unfold ZL_law_1479 L_law_1479
  exact c_sc hN (kz_add rfl rfl) (fun t1 ht1 => c_sc hN (kz_add rfl rfl) (fun t2 ht2 => c_sc hN (kz_add rfl rfl) (fun t3 ht3 => c_cv (qX11_pair hG l1 ht1 ht2 ht3) (fun t4 ht4 => c_sc hN (kz_add rfl rfl) (fun t5 ht5 => c_sc hN (kz_add rfl rfl) (fun t6 ht6 => c_sc hN (kz_add rfl rfl) (fun t7 ht7 => c_cv (qX12_pair hG l2 ht5 ht6 ht7) (fun t8 ht8 => c_cnd (kz_eq ht4 ht8 rfl rfl) ((qL_law_1693 hG hN hk18 l1 l2 hl3)) (c_no)))))))))
def ZL_law_1522 (G : kdS) (xs : Nat → Int32) (N : Nat) (k18 : Nat → Nat → Int → kzM → Option (Unit × kzM)) (l1 : Nat) (l2 : Nat) (l3 : Int) : kzM → Option (Unit × kzM) :=
  zsc xs N (l3 + (1 : Int)) fun t1 =>
  zcv G 11 l1 (Z11_same G l1 t1) fun t2 =>
  zsc xs N (l3 + (1 : Int)) fun t3 =>
  zcv G 12 l2 (Z12_same G l2 t3) fun t4 =>
  zcnd (t2 = t4)
  (ZL_law_1693 G xs N k18 l1 l2 l3)
  (zno)
theorem qL_law_1522 {G : kdS} (hG : kzG G) {xs : Nat → Int32} {N : Nat} (hN : N ≤ 3072) {k18' : Nat → Nat → Int → kzM → Option (Unit × kzM)} {k18 : Nat → Nat → Int32 → kdM → Option (Unit × kdM)} (hk18 : ∀ (a0 : Nat) (a1 : Nat) (a2 : Int) (_ : kzI a2), CRu (k18' a0 a1 a2) (k18 a0 a1 (Int32.ofInt a2))) (l1 : Nat) (l2 : Nat) {l3 : Int} (hl3 : kzI l3) : CRu (ZL_law_1522 G xs N k18' l1 l2 l3) (L_law_1522 G xs N k18 l1 l2 (Int32.ofInt l3)) := by
  unfold ZL_law_1522 L_law_1522
  exact c_sc hN (kz_add rfl rfl) (fun t1 ht1 => c_cv (qX11_same hG l1 ht1) (fun t2 ht2 => c_sc hN (kz_add rfl rfl) (fun t3 ht3 => c_cv (qX12_same hG l2 ht3) (fun t4 ht4 => c_cnd (kz_eq ht2 ht4 rfl rfl) ((qL_law_1693 hG hN hk18 l1 l2 hl3)) (c_no)))))
def ZL_law_1545 (G : kdS) (xs : Nat → Int32) (N : Nat) (k18 : Nat → Nat → Int → kzM → Option (Unit × kzM)) (l1 : Nat) (l2 : Nat) (l3 : Int) : kzM → Option (Unit × kzM) :=
  zsc xs N (l3 + (1 : Int)) fun t1 =>
  zcv G 11 l1 (Z11_cost G l1 t1) fun t2 =>
  zsc xs N (l3 + (1 : Int)) fun t3 =>
  zcv G 12 l2 (Z12_cost G l2 t3) fun t4 =>
  zcnd (t2 = t4)
  (ZL_law_1693 G xs N k18 l1 l2 l3)
  (zno)
theorem qL_law_1545 {G : kdS} (hG : kzG G) {xs : Nat → Int32} {N : Nat} (hN : N ≤ 3072) {k18' : Nat → Nat → Int → kzM → Option (Unit × kzM)} {k18 : Nat → Nat → Int32 → kdM → Option (Unit × kdM)} (hk18 : ∀ (a0 : Nat) (a1 : Nat) (a2 : Int) (_ : kzI a2), CRu (k18' a0 a1 a2) (k18 a0 a1 (Int32.ofInt a2))) (l1 : Nat) (l2 : Nat) {l3 : Int} (hl3 : kzI l3) : CRu (ZL_law_1545 G xs N k18' l1 l2 l3) (L_law_1545 G xs N k18 l1 l2 (Int32.ofInt l3)) := by
  unfold ZL_law_1545 L_law_1545
  exact c_sc hN (kz_add rfl rfl) (fun t1 ht1 => c_cv (qX11_cost hG l1 ht1) (fun t2 ht2 => c_sc hN (kz_add rfl rfl) (fun t3 ht3 => c_cv (qX12_cost hG l2 ht3) (fun t4 ht4 => c_cnd (kz_eq ht2 ht4 rfl rfl) ((qL_law_1693 hG hN hk18 l1 l2 hl3)) (c_no)))))
def ZL_law_1568 (G : kdS) (xs : Nat → Int32) (N : Nat) (k18 : Nat → Nat → Int → kzM → Option (Unit × kzM)) (l1 : Nat) (l2 : Nat) (l3 : Int) : kzM → Option (Unit × kzM) :=
  zcv G 11 l1 (Z11_best G l1) fun t1 =>
  zcv G 12 l2 (Z12_best G l2) fun t2 =>
  zcnd (t1 = t2)
  (ZL_law_1693 G xs N k18 l1 l2 l3)
  (zno)
theorem qL_law_1568 {G : kdS} (hG : kzG G) {xs : Nat → Int32} {N : Nat} (hN : N ≤ 3072) {k18' : Nat → Nat → Int → kzM → Option (Unit × kzM)} {k18 : Nat → Nat → Int32 → kdM → Option (Unit × kdM)} (hk18 : ∀ (a0 : Nat) (a1 : Nat) (a2 : Int) (_ : kzI a2), CRu (k18' a0 a1 a2) (k18 a0 a1 (Int32.ofInt a2))) (l1 : Nat) (l2 : Nat) {l3 : Int} (hl3 : kzI l3) : CRu (ZL_law_1568 G xs N k18' l1 l2 l3) (L_law_1568 G xs N k18 l1 l2 (Int32.ofInt l3)) := by
  unfold ZL_law_1568 L_law_1568
  exact c_cv (qX11_best hG l1) (fun t1 ht1 => c_cv (qX12_best hG l2) (fun t2 ht2 => c_cnd (kz_eq ht1 ht2 rfl rfl) ((qL_law_1693 hG hN hk18 l1 l2 hl3)) (c_no)))
def ZL_law_1581 (G : kdS) (xs : Nat → Int32) (N : Nat) (k18 : Nat → Nat → Int → kzM → Option (Unit × kzM)) (l1 : Nat) (l2 : Nat) (l3 : Int) : kzM → Option (Unit × kzM) :=
  zcv G 11 l1 (Z11_bound G l1) fun t1 =>
  zcv G 12 l2 (Z12_bound G l2) fun t2 =>
  zcnd (t1 = t2)
  (ZL_law_1693 G xs N k18 l1 l2 l3)
  (zno)
theorem qL_law_1581 {G : kdS} (hG : kzG G) {xs : Nat → Int32} {N : Nat} (hN : N ≤ 3072) {k18' : Nat → Nat → Int → kzM → Option (Unit × kzM)} {k18 : Nat → Nat → Int32 → kdM → Option (Unit × kdM)} (hk18 : ∀ (a0 : Nat) (a1 : Nat) (a2 : Int) (_ : kzI a2), CRu (k18' a0 a1 a2) (k18 a0 a1 (Int32.ofInt a2))) (l1 : Nat) (l2 : Nat) {l3 : Int} (hl3 : kzI l3) : CRu (ZL_law_1581 G xs N k18' l1 l2 l3) (L_law_1581 G xs N k18 l1 l2 (Int32.ofInt l3)) := by
  unfold ZL_law_1581 L_law_1581
  exact c_cv (qX11_bound hG l1) (fun t1 ht1 => c_cv (qX12_bound hG l2) (fun t2 ht2 => c_cnd (kz_eq ht1 ht2 rfl rfl) ((qL_law_1693 hG hN hk18 l1 l2 hl3)) (c_no)))
def ZL_law_1594 (G : kdS) (xs : Nat → Int32) (N : Nat) (k18 : Nat → Nat → Int → kzM → Option (Unit × kzM)) (l1 : Nat) (l2 : Nat) (l3 : Int) : kzM → Option (Unit × kzM) :=
  zsc xs N (l3 + (1 : Int)) fun t1 =>
  zsc xs N (l3 + (2 : Int)) fun t2 =>
  zcv G 11 l1 (Z11_better G l1 t1 t2) fun t3 =>
  zsc xs N (l3 + (1 : Int)) fun t4 =>
  zsc xs N (l3 + (2 : Int)) fun t5 =>
  zcv G 12 l2 (Z12_better G l2 t4 t5) fun t6 =>
  zcnd (t3 = t6)
  (ZL_law_1693 G xs N k18 l1 l2 l3)
  (zno)
theorem qL_law_1594 {G : kdS} (hG : kzG G) {xs : Nat → Int32} {N : Nat} (hN : N ≤ 3072) {k18' : Nat → Nat → Int → kzM → Option (Unit × kzM)} {k18 : Nat → Nat → Int32 → kdM → Option (Unit × kdM)} (hk18 : ∀ (a0 : Nat) (a1 : Nat) (a2 : Int) (_ : kzI a2), CRu (k18' a0 a1 a2) (k18 a0 a1 (Int32.ofInt a2))) (l1 : Nat) (l2 : Nat) {l3 : Int} (hl3 : kzI l3) : CRu (ZL_law_1594 G xs N k18' l1 l2 l3) (L_law_1594 G xs N k18 l1 l2 (Int32.ofInt l3)) := by
  unfold ZL_law_1594 L_law_1594
  exact c_sc hN (kz_add rfl rfl) (fun t1 ht1 => c_sc hN (kz_add rfl rfl) (fun t2 ht2 => c_cv (qX11_better hG l1 ht1 ht2) (fun t3 ht3 => c_sc hN (kz_add rfl rfl) (fun t4 ht4 => c_sc hN (kz_add rfl rfl) (fun t5 ht5 => c_cv (qX12_better hG l2 ht4 ht5) (fun t6 ht6 => c_cnd (kz_eq ht3 ht6 rfl rfl) ((qL_law_1693 hG hN hk18 l1 l2 hl3)) (c_no)))))))
def ZL_law_1627 (G : kdS) (xs : Nat → Int32) (N : Nat) (k18 : Nat → Nat → Int → kzM → Option (Unit × kzM)) (l1 : Nat) (l2 : Nat) (l3 : Int) : kzM → Option (Unit × kzM) :=
  zsc xs N (l3 + (1 : Int)) fun t1 =>
  zsc xs N (l3 + (2 : Int)) fun t2 =>
  zsc xs N (l3 + (3 : Int)) fun t3 =>
  zcv G 11 l1 (Z11_way G l1 t1 t2 t3) fun t4 =>
  zsc xs N (l3 + (1 : Int)) fun t5 =>
  zsc xs N (l3 + (2 : Int)) fun t6 =>
  zsc xs N (l3 + (3 : Int)) fun t7 =>
  zcv G 12 l2 (Z12_way G l2 t5 t6 t7) fun t8 =>
  zcnd (t4 = t8)
  (ZL_law_1693 G xs N k18 l1 l2 l3)
  (zno)
theorem qL_law_1627 {G : kdS} (hG : kzG G) {xs : Nat → Int32} {N : Nat} (hN : N ≤ 3072) {k18' : Nat → Nat → Int → kzM → Option (Unit × kzM)} {k18 : Nat → Nat → Int32 → kdM → Option (Unit × kdM)} (hk18 : ∀ (a0 : Nat) (a1 : Nat) (a2 : Int) (_ : kzI a2), CRu (k18' a0 a1 a2) (k18 a0 a1 (Int32.ofInt a2))) (l1 : Nat) (l2 : Nat) {l3 : Int} (hl3 : kzI l3) : CRu (ZL_law_1627 G xs N k18' l1 l2 l3) (L_law_1627 G xs N k18 l1 l2 (Int32.ofInt l3)) := by
  unfold ZL_law_1627 L_law_1627
  exact c_sc hN (kz_add rfl rfl) (fun t1 ht1 => c_sc hN (kz_add rfl rfl) (fun t2 ht2 => c_sc hN (kz_add rfl rfl) (fun t3 ht3 => c_cv (qX11_way hG l1 ht1 ht2 ht3) (fun t4 ht4 => c_sc hN (kz_add rfl rfl) (fun t5 ht5 => c_sc hN (kz_add rfl rfl) (fun t6 ht6 => c_sc hN (kz_add rfl rfl) (fun t7 ht7 => c_cv (qX12_way hG l2 ht5 ht6 ht7) (fun t8 ht8 => c_cnd (kz_eq ht4 ht8 rfl rfl) ((qL_law_1693 hG hN hk18 l1 l2 hl3)) (c_no)))))))))
def ZL_law_1670 (G : kdS) (xs : Nat → Int32) (N : Nat) (k18 : Nat → Nat → Int → kzM → Option (Unit × kzM)) (l1 : Nat) (l2 : Nat) (l3 : Int) : kzM → Option (Unit × kzM) :=
  zsc xs N (l3 + (1 : Int)) fun t1 =>
  zcv G 11 l1 (Z11_told G l1 t1) fun t2 =>
  zsc xs N (l3 + (1 : Int)) fun t3 =>
  zcv G 12 l2 (Z12_told G l2 t3) fun t4 =>
  zcnd (t2 = t4)
  (ZL_law_1693 G xs N k18 l1 l2 l3)
  (zno)
theorem qL_law_1670 {G : kdS} (hG : kzG G) {xs : Nat → Int32} {N : Nat} (hN : N ≤ 3072) {k18' : Nat → Nat → Int → kzM → Option (Unit × kzM)} {k18 : Nat → Nat → Int32 → kdM → Option (Unit × kdM)} (hk18 : ∀ (a0 : Nat) (a1 : Nat) (a2 : Int) (_ : kzI a2), CRu (k18' a0 a1 a2) (k18 a0 a1 (Int32.ofInt a2))) (l1 : Nat) (l2 : Nat) {l3 : Int} (hl3 : kzI l3) : CRu (ZL_law_1670 G xs N k18' l1 l2 l3) (L_law_1670 G xs N k18 l1 l2 (Int32.ofInt l3)) := by
  unfold ZL_law_1670 L_law_1670
  exact c_sc hN (kz_add rfl rfl) (fun t1 ht1 => c_cv (qX11_told hG l1 ht1) (fun t2 ht2 => c_sc hN (kz_add rfl rfl) (fun t3 ht3 => c_cv (qX12_told hG l2 ht3) (fun t4 ht4 => c_cnd (kz_eq ht2 ht4 rfl rfl) ((qL_law_1693 hG hN hk18 l1 l2 hl3)) (c_no)))))
def ZL_law_18B (G : kdS) (xs : Nat → Int32) (N : Nat) (k18 : Nat → Nat → Int → kzM → Option (Unit × kzM)) (l1 : Nat) (l2 : Nat) (l3 : Int) : kzM → Option (Unit × kzM) :=
  zlI ((N : Int) - (6 : Int)) fun u1 =>
  zcnd (u1 < l3)
  (zrt ())
  (zsc xs N l3 fun t1 =>
  zcnd ((zand t1 (63 : Int)) = (0 : Int))
  (ZL_law_232 G xs N k18 l1 l2 l3)
  (zcnd ((zand t1 (63 : Int)) = (1 : Int))
  (ZL_law_255 G xs N k18 l1 l2 l3)
  (zcnd ((zand t1 (63 : Int)) = (2 : Int))
  (ZL_law_278 G xs N k18 l1 l2 l3)
  (zcnd ((zand t1 (63 : Int)) = (3 : Int))
  (ZL_law_301 G xs N k18 l1 l2 l3)
  (zcnd ((zand t1 (63 : Int)) = (4 : Int))
  (ZL_law_324 G xs N k18 l1 l2 l3)
  (zcnd ((zand t1 (63 : Int)) = (5 : Int))
  (ZL_law_377 G xs N k18 l1 l2 l3)
  (zcnd ((zand t1 (63 : Int)) = (6 : Int))
  (ZL_law_436 G xs N k18 l1 l2 l3)
  (zcnd ((zand t1 (63 : Int)) = (7 : Int))
  (ZL_law_469 G xs N k18 l1 l2 l3)
  (zcnd ((zand t1 (63 : Int)) = (8 : Int))
  (ZL_law_502 G xs N k18 l1 l2 l3)
  (zcnd ((zand t1 (63 : Int)) = (9 : Int))
  (ZL_law_535 G xs N k18 l1 l2 l3)
  (zcnd ((zand t1 (63 : Int)) = (10 : Int))
  (ZL_law_558 G xs N k18 l1 l2 l3)
  (zcnd ((zand t1 (63 : Int)) = (11 : Int))
  (ZL_law_591 G xs N k18 l1 l2 l3)
  (zcnd ((zand t1 (63 : Int)) = (12 : Int))
  (ZL_law_624 G xs N k18 l1 l2 l3)
  (zcnd ((zand t1 (63 : Int)) = (13 : Int))
  (ZL_law_647 G xs N k18 l1 l2 l3)
  (zcnd ((zand t1 (63 : Int)) = (14 : Int))
  (ZL_law_670 G xs N k18 l1 l2 l3)
  (zcnd ((zand t1 (63 : Int)) = (15 : Int))
  (ZL_law_693 G xs N k18 l1 l2 l3)
  (zcnd ((zand t1 (63 : Int)) = (16 : Int))
  (ZL_law_706 G xs N k18 l1 l2 l3)
  (zcnd ((zand t1 (63 : Int)) = (17 : Int))
  (ZL_law_749 G xs N k18 l1 l2 l3)
  (zcnd ((zand t1 (63 : Int)) = (18 : Int))
  (ZL_law_782 G xs N k18 l1 l2 l3)
  (zcnd ((zand t1 (63 : Int)) = (19 : Int))
  (ZL_law_815 G xs N k18 l1 l2 l3)
  (zcnd ((zand t1 (63 : Int)) = (20 : Int))
  (ZL_law_848 G xs N k18 l1 l2 l3)
  (zcnd ((zand t1 (63 : Int)) = (21 : Int))
  (ZL_law_871 G xs N k18 l1 l2 l3)
  (zcnd ((zand t1 (63 : Int)) = (22 : Int))
  (ZL_law_914 G xs N k18 l1 l2 l3)
  (zcnd ((zand t1 (63 : Int)) = (23 : Int))
  (ZL_law_947 G xs N k18 l1 l2 l3)
  (zcnd ((zand t1 (63 : Int)) = (24 : Int))
  (ZL_law_980 G xs N k18 l1 l2 l3)
  (zcnd ((zand t1 (63 : Int)) = (25 : Int))
  (ZL_law_1023 G xs N k18 l1 l2 l3)
  (zcnd ((zand t1 (63 : Int)) = (26 : Int))
  (ZL_law_1072 G xs N k18 l1 l2 l3)
  (zcnd ((zand t1 (63 : Int)) = (27 : Int))
  (ZL_law_1095 G xs N k18 l1 l2 l3)
  (zcnd ((zand t1 (63 : Int)) = (28 : Int))
  (ZL_law_1109 G xs N k18 l1 l2 l3)
  (zcnd ((zand t1 (63 : Int)) = (29 : Int))
  (ZL_law_1152 G xs N k18 l1 l2 l3)
  (zcnd ((zand t1 (63 : Int)) = (30 : Int))
  (ZL_law_1195 G xs N k18 l1 l2 l3)
  (zcnd ((zand t1 (63 : Int)) = (31 : Int))
  (ZL_law_1228 G xs N k18 l1 l2 l3)
  (zcnd ((zand t1 (63 : Int)) = (32 : Int))
  (ZL_law_1251 G xs N k18 l1 l2 l3)
  (zcnd ((zand t1 (63 : Int)) = (33 : Int))
  (ZL_law_1314 G xs N k18 l1 l2 l3)
  (zcnd ((zand t1 (63 : Int)) = (34 : Int))
  (ZL_law_1347 G xs N k18 l1 l2 l3)
  (zcnd ((zand t1 (63 : Int)) = (35 : Int))
  (ZL_law_1370 G xs N k18 l1 l2 l3)
  (zcnd ((zand t1 (63 : Int)) = (36 : Int))
  (ZL_law_1413 G xs N k18 l1 l2 l3)
  (zcnd ((zand t1 (63 : Int)) = (37 : Int))
  (ZL_law_1436 G xs N k18 l1 l2 l3)
  (zcnd ((zand t1 (63 : Int)) = (38 : Int))
  (ZL_law_1479 G xs N k18 l1 l2 l3)
  (zcnd ((zand t1 (63 : Int)) = (39 : Int))
  (ZL_law_1522 G xs N k18 l1 l2 l3)
  (zcnd ((zand t1 (63 : Int)) = (40 : Int))
  (ZL_law_1545 G xs N k18 l1 l2 l3)
  (zcnd ((zand t1 (63 : Int)) = (41 : Int))
  (ZL_law_1568 G xs N k18 l1 l2 l3)
  (zcnd ((zand t1 (63 : Int)) = (42 : Int))
  (ZL_law_1581 G xs N k18 l1 l2 l3)
  (zcnd ((zand t1 (63 : Int)) = (43 : Int))
  (ZL_law_1594 G xs N k18 l1 l2 l3)
  (zcnd ((zand t1 (63 : Int)) = (44 : Int))
  (ZL_law_1627 G xs N k18 l1 l2 l3)
  (zcnd ((zand t1 (63 : Int)) = (45 : Int))
  (ZL_law_1670 G xs N k18 l1 l2 l3)
  (ZL_law_1693 G xs N k18 l1 l2 l3)))))))))))))))))))))))))))))))))))))))))))))))
theorem qL_law_18B {G : kdS} (hG : kzG G) {xs : Nat → Int32} {N : Nat} (hN : N ≤ 3072) {k18' : Nat → Nat → Int → kzM → Option (Unit × kzM)} {k18 : Nat → Nat → Int32 → kdM → Option (Unit × kdM)} (hk18 : ∀ (a0 : Nat) (a1 : Nat) (a2 : Int) (_ : kzI a2), CRu (k18' a0 a1 a2) (k18 a0 a1 (Int32.ofInt a2))) (l1 : Nat) (l2 : Nat) {l3 : Int} (hl3 : kzI l3) : CRu (ZL_law_18B G xs N k18' l1 l2 l3) (L_law_18B G xs N k18 l1 l2 (Int32.ofInt l3)) := by
  unfold ZL_law_18B L_law_18B
  exact c_rg (kz_sub rfl rfl) fun u1 r1 e1 => c_cnd (kz_lt r1 hl3 e1 rfl) (c_rt trivial rfl) (c_sc hN rfl (fun t1 ht1 => c_cnd (kz_eq (kzI_of _) (by unfold kzI; omega) (kz_and rfl rfl) rfl) ((qL_law_232 hG hN hk18 l1 l2 hl3)) (c_cnd (kz_eq (kzI_of _) (by unfold kzI; omega) (kz_and rfl rfl) rfl) ((qL_law_255 hG hN hk18 l1 l2 hl3)) (c_cnd (kz_eq (kzI_of _) (by unfold kzI; omega) (kz_and rfl rfl) rfl) ((qL_law_278 hG hN hk18 l1 l2 hl3)) (c_cnd (kz_eq (kzI_of _) (by unfold kzI; omega) (kz_and rfl rfl) rfl) ((qL_law_301 hG hN hk18 l1 l2 hl3)) (c_cnd (kz_eq (kzI_of _) (by unfold kzI; omega) (kz_and rfl rfl) rfl) ((qL_law_324 hG hN hk18 l1 l2 hl3)) (c_cnd (kz_eq (kzI_of _) (by unfold kzI; omega) (kz_and rfl rfl) rfl) ((qL_law_377 hG hN hk18 l1 l2 hl3)) (c_cnd (kz_eq (kzI_of _) (by unfold kzI; omega) (kz_and rfl rfl) rfl) ((qL_law_436 hG hN hk18 l1 l2 hl3)) (c_cnd (kz_eq (kzI_of _) (by unfold kzI; omega) (kz_and rfl rfl) rfl) ((qL_law_469 hG hN hk18 l1 l2 hl3)) (c_cnd (kz_eq (kzI_of _) (by unfold kzI; omega) (kz_and rfl rfl) rfl) ((qL_law_502 hG hN hk18 l1 l2 hl3)) (c_cnd (kz_eq (kzI_of _) (by unfold kzI; omega) (kz_and rfl rfl) rfl) ((qL_law_535 hG hN hk18 l1 l2 hl3)) (c_cnd (kz_eq (kzI_of _) (by unfold kzI; omega) (kz_and rfl rfl) rfl) ((qL_law_558 hG hN hk18 l1 l2 hl3)) (c_cnd (kz_eq (kzI_of _) (by unfold kzI; omega) (kz_and rfl rfl) rfl) ((qL_law_591 hG hN hk18 l1 l2 hl3)) (c_cnd (kz_eq (kzI_of _) (by unfold kzI; omega) (kz_and rfl rfl) rfl) ((qL_law_624 hG hN hk18 l1 l2 hl3)) (c_cnd (kz_eq (kzI_of _) (by unfold kzI; omega) (kz_and rfl rfl) rfl) ((qL_law_647 hG hN hk18 l1 l2 hl3)) (c_cnd (kz_eq (kzI_of _) (by unfold kzI; omega) (kz_and rfl rfl) rfl) ((qL_law_670 hG hN hk18 l1 l2 hl3)) (c_cnd (kz_eq (kzI_of _) (by unfold kzI; omega) (kz_and rfl rfl) rfl) ((qL_law_693 hG hN hk18 l1 l2 hl3)) (c_cnd (kz_eq (kzI_of _) (by unfold kzI; omega) (kz_and rfl rfl) rfl) ((qL_law_706 hG hN hk18 l1 l2 hl3)) (c_cnd (kz_eq (kzI_of _) (by unfold kzI; omega) (kz_and rfl rfl) rfl) ((qL_law_749 hG hN hk18 l1 l2 hl3)) (c_cnd (kz_eq (kzI_of _) (by unfold kzI; omega) (kz_and rfl rfl) rfl) ((qL_law_782 hG hN hk18 l1 l2 hl3)) (c_cnd (kz_eq (kzI_of _) (by unfold kzI; omega) (kz_and rfl rfl) rfl) ((qL_law_815 hG hN hk18 l1 l2 hl3)) (c_cnd (kz_eq (kzI_of _) (by unfold kzI; omega) (kz_and rfl rfl) rfl) ((qL_law_848 hG hN hk18 l1 l2 hl3)) (c_cnd (kz_eq (kzI_of _) (by unfold kzI; omega) (kz_and rfl rfl) rfl) ((qL_law_871 hG hN hk18 l1 l2 hl3)) (c_cnd (kz_eq (kzI_of _) (by unfold kzI; omega) (kz_and rfl rfl) rfl) ((qL_law_914 hG hN hk18 l1 l2 hl3)) (c_cnd (kz_eq (kzI_of _) (by unfold kzI; omega) (kz_and rfl rfl) rfl) ((qL_law_947 hG hN hk18 l1 l2 hl3)) (c_cnd (kz_eq (kzI_of _) (by unfold kzI; omega) (kz_and rfl rfl) rfl) ((qL_law_980 hG hN hk18 l1 l2 hl3)) (c_cnd (kz_eq (kzI_of _) (by unfold kzI; omega) (kz_and rfl rfl) rfl) ((qL_law_1023 hG hN hk18 l1 l2 hl3)) (c_cnd (kz_eq (kzI_of _) (by unfold kzI; omega) (kz_and rfl rfl) rfl) ((qL_law_1072 hG hN hk18 l1 l2 hl3)) (c_cnd (kz_eq (kzI_of _) (by unfold kzI; omega) (kz_and rfl rfl) rfl) ((qL_law_1095 hG hN hk18 l1 l2 hl3)) (c_cnd (kz_eq (kzI_of _) (by unfold kzI; omega) (kz_and rfl rfl) rfl) ((qL_law_1109 hG hN hk18 l1 l2 hl3)) (c_cnd (kz_eq (kzI_of _) (by unfold kzI; omega) (kz_and rfl rfl) rfl) ((qL_law_1152 hG hN hk18 l1 l2 hl3)) (c_cnd (kz_eq (kzI_of _) (by unfold kzI; omega) (kz_and rfl rfl) rfl) ((qL_law_1195 hG hN hk18 l1 l2 hl3)) (c_cnd (kz_eq (kzI_of _) (by unfold kzI; omega) (kz_and rfl rfl) rfl) ((qL_law_1228 hG hN hk18 l1 l2 hl3)) (c_cnd (kz_eq (kzI_of _) (by unfold kzI; omega) (kz_and rfl rfl) rfl) ((qL_law_1251 hG hN hk18 l1 l2 hl3)) (c_cnd (kz_eq (kzI_of _) (by unfold kzI; omega) (kz_and rfl rfl) rfl) ((qL_law_1314 hG hN hk18 l1 l2 hl3)) (c_cnd (kz_eq (kzI_of _) (by unfold kzI; omega) (kz_and rfl rfl) rfl) ((qL_law_1347 hG hN hk18 l1 l2 hl3)) (c_cnd (kz_eq (kzI_of _) (by unfold kzI; omega) (kz_and rfl rfl) rfl) ((qL_law_1370 hG hN hk18 l1 l2 hl3)) (c_cnd (kz_eq (kzI_of _) (by unfold kzI; omega) (kz_and rfl rfl) rfl) ((qL_law_1413 hG hN hk18 l1 l2 hl3)) (c_cnd (kz_eq (kzI_of _) (by unfold kzI; omega) (kz_and rfl rfl) rfl) ((qL_law_1436 hG hN hk18 l1 l2 hl3)) (c_cnd (kz_eq (kzI_of _) (by unfold kzI; omega) (kz_and rfl rfl) rfl) ((qL_law_1479 hG hN hk18 l1 l2 hl3)) (c_cnd (kz_eq (kzI_of _) (by unfold kzI; omega) (kz_and rfl rfl) rfl) ((qL_law_1522 hG hN hk18 l1 l2 hl3)) (c_cnd (kz_eq (kzI_of _) (by unfold kzI; omega) (kz_and rfl rfl) rfl) ((qL_law_1545 hG hN hk18 l1 l2 hl3)) (c_cnd (kz_eq (kzI_of _) (by unfold kzI; omega) (kz_and rfl rfl) rfl) ((qL_law_1568 hG hN hk18 l1 l2 hl3)) (c_cnd (kz_eq (kzI_of _) (by unfold kzI; omega) (kz_and rfl rfl) rfl) ((qL_law_1581 hG hN hk18 l1 l2 hl3)) (c_cnd (kz_eq (kzI_of _) (by unfold kzI; omega) (kz_and rfl rfl) rfl) ((qL_law_1594 hG hN hk18 l1 l2 hl3)) (c_cnd (kz_eq (kzI_of _) (by unfold kzI; omega) (kz_and rfl rfl) rfl) ((qL_law_1627 hG hN hk18 l1 l2 hl3)) (c_cnd (kz_eq (kzI_of _) (by unfold kzI; omega) (kz_and rfl rfl) rfl) ((qL_law_1670 hG hN hk18 l1 l2 hl3)) ((qL_law_1693 hG hN hk18 l1 l2 hl3)))))))))))))))))))))))))))))))))))))))))))))))))
def ZL_law_18 (G : kdS) (xs : Nat → Int32) (N : Nat) : Nat → Nat → Int → kzM → Option (Unit × kzM) := lp (fun _ _ _ _ => none) (ZL_law_18B G xs N) NN
theorem qL_law_18 {G : kdS} (hG : kzG G) {xs : Nat → Int32} {N : Nat} (hN : N ≤ 3072) : ∀ (a0 : Nat) (a1 : Nat) (a2 : Int) (_ : kzI a2), CRu (ZL_law_18 G xs N a0 a1 a2) (L_law_18 G xs N a0 a1 (Int32.ofInt a2)) :=
  lp_rel (R := fun (f' : Nat → Nat → Int → kzM → Option (Unit × kzM)) (f : Nat → Nat → Int32 → kdM → Option (Unit × kdM)) => ∀ (a0 : Nat) (a1 : Nat) (a2 : Int) (_ : kzI a2), CRu (f' a0 a1 a2) (f a0 a1 (Int32.ofInt a2))) (by intros; exact c_no) (fun _ _ hf a0 a1 a2 ha2 => qL_law_18B hG hN hf a0 a1 ha2) NN
