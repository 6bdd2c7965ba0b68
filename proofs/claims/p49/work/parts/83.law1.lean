/-! the law's helpers: cell, keys, words; its first piece -/
theorem zand_b (y : Int) : 0 ≤ zand y 4194303 ∧ zand y 4194303 ≤ 4194303 := by
  unfold zand
  generalize Int32.ofInt y = a
  have hb : (Int32.ofInt 4194303).toBitVec.toNat = 4194303 := by decide
  have h : (a &&& Int32.ofInt 4194303).toBitVec.toNat ≤ 4194303 := by
    rw [Int32.toBitVec_and, BitVec.toNat_and, hb]
    exact Nat.and_le_right
  have e : (a &&& Int32.ofInt 4194303).toInt = ((a &&& Int32.ofInt 4194303).toBitVec.toNat : Int) := by
    show (a &&& Int32.ofInt 4194303).toBitVec.toInt = _
    exact BitVec.toInt_eq_toNat_of_lt (by omega)
  omega
theorem tm_b {a n : Int} (a0 : 0 ≤ a) (n0 : 0 < n) : 0 ≤ Int.tmod a n ∧ Int.tmod a n < n := ⟨Int.tmod_nonneg _ a0, Int.tmod_lt_of_pos _ n0⟩
set_option maxRecDepth 100000 in
theorem l_cell28 {G : kdS} {xs : Nat → Int32} {N : Nat} {n v : Int} {τ : kzM} {Q : Int → kzM → Prop} (v0 : 0 ≤ v) (n1 : 1 ≤ n) (n2 : n ≤ 1000000) (hQ : ∀ r, 0 ≤ r → r < n → Q r τ) : Wz (ZL_cell_28 G xs N n v) τ Q := by
  have t := tm_b v0 (show 0 < n by omega)
  simp only [ZL_cell_28, Wz_rt, Wz_cnd, Wz_lI, Wz_lW, Wz_lL, Wz_cl, Wz_cv, Wz_nz, Wz_gI, Wz_gR, Wz_sI, Wz_aI, Wz_aZ, Wz_aL, Wz_aN, Wz_aR, Wz_tI, Wz_tZ, Wz_tL, Option.some.injEq, exists_eq_left', zB_0, zB_1, true_and, and_true, true_implies, not_true_eq_false, false_implies, not_false_eq_true, Classical.not_not]
  exact ⟨by omega, by omega, hQ _ t.1 t.2⟩
set_option maxRecDepth 100000 in
theorem l_cell {G : kdS} {xs : Nat → Int32} {N : Nat} (hN : N ≤ 260) {k n : Int} {τ : kzM} {Q : Int → kzM → Prop} (k0 : 0 ≤ k) (k1 : k ≤ 1000) (n1 : 1 ≤ n) (n2 : n ≤ 1000000) (hQ : ∀ r, 0 ≤ r → r < n → Q r τ) : Wz (ZL_cell G xs N k n) τ Q := by
  simp only [ZL_cell, Wz_sc, Wz_rt, Wz_cnd, Wz_lI, Wz_lW, Wz_lL, Wz_cl, Wz_cv, Wz_nz, Wz_gI, Wz_gR, Wz_sI, Wz_aI, Wz_aZ, Wz_aL, Wz_aN, Wz_aR, Wz_tI, Wz_tZ, Wz_tL, Option.some.injEq, exists_eq_left', zB_0, zB_1, true_and, and_true, true_implies, not_true_eq_false, false_implies, not_false_eq_true, Classical.not_not]
  refine ⟨fun c => ⟨by omega, l_cell28 (by omega) n1 n2 hQ⟩, fun c => ⟨by omega, ?_, by decide, ?_, ?_⟩⟩
  · exact tm_b k0 (by omega)
  · have b := zand_b (zshr (xs (Int.tmod k N).toNat).toInt (Int.tmod k 7))
    omega
  · exact l_cell28 (zand_b _).1 n1 n2 hQ
theorem okO.k {G : kdS} {b : Nat} (hO : okO G b) : (G.1 b).1 = 11 := by
  have h := (hO 0 (by decide)).1
  rw [g_0] at h
  rw [show b = b + 0 from rfl, h]
section LW1
variable {G : kdS} {b : Nat} {pd n f x : Int} {B : Int → Int} {m : Int} {fh fw fd : Int → Int} {xs : Nat → Int32} {N : Nat}
set_option maxRecDepth 100000 in
theorem l_keys_10 (hN : N ≤ 260) (hO : okO G b) {at0 c : Int} (a0 : 0 ≤ at0) (a1 : at0 ≤ 500) (p0 : 0 ≤ pd) (c1 : pd + c ≤ 16) {τ0 : kzM} {Q : Int → kzM → Prop} (hQ : ∀ τ', FrS b τ0 τ' → Ob (V b τ') (pd + c) n f x B m fh fw fd → Q (pd + c) τ') : ∀ (M : Nat) (i : Int) (τ : kzM), 0 ≤ i → i ≤ c → c - i < (M : Int) → FrS b τ0 τ → Ob (V b τ) (pd + i) n f x B m fh fw fd → Wz (lp (fun _ _ _ _ _ _ _ => none) (ZL_keys_10B G xs N) M b at0 c 4 (pd + i) i) τ Q := by
  intro M
  induction M with
  | zero => intro i; intros; omega
  | succ M ih =>
    intro i τ i0 i1 i2 hf hq
    rw [lp_succ]
    generalize lp (fun _ _ _ _ _ _ _ => none) (ZL_keys_10B G xs N) M = L at ih ⊢
    unfold ZL_keys_10B
    simp only [Wz_rt, Wz_cnd, Wz_lI, Wz_lW, Wz_lL, Wz_cl, Wz_cv, Wz_nz, Wz_gI, Wz_gR, Wz_sI, Wz_aI, Wz_aZ, Wz_aL, Wz_aN, Wz_aR, Wz_tI, Wz_tZ, Wz_tL, Option.some.injEq, exists_eq_left', zB_0, zB_1, true_and, and_true, true_implies, not_true_eq_false, false_implies, not_false_eq_true, Classical.not_not]
    refine ⟨fun e => ?_, fun e => ⟨by omega, l_cell hN (by omega) (by omega) (by omega) (by omega) fun r r0 r1 => ⟨hO.k, ?_⟩⟩⟩
    · rw [show i = c by omega] at hq ⊢; exact hQ τ hf hq
    · refine t_key hO hq r0 (by omega) (by omega) fun τ' hf' hq' => ⟨by omega, ?_⟩
      have q := ih (i + 1) τ' (by omega) (by omega) (by omega) (hf.tr hf') (by rw [show pd + (i + 1) = pd + i + 1 by omega]; exact hq')
      rw [show pd + (i + 1) = pd + i + 1 by omega] at q
      exact q
set_option maxRecDepth 100000 in
theorem l_keys (hN : N ≤ 260) (hO : okO G b) {at0 c : Int} (a0 : 0 ≤ at0) (a1 : at0 ≤ 500) (p0 : 0 ≤ pd) (c0 : 0 ≤ c) (c1 : pd + c ≤ 16) {τ : kzM} (hq : Ob (V b τ) pd n f x B m fh fw fd) {Q : Int → kzM → Prop} (hQ : ∀ τ', FrS b τ τ' → Ob (V b τ') (pd + c) n f x B m fh fw fd → Q (pd + c) τ') : Wz (ZL_keys G xs N b at0 c 4) τ Q := by
  simp only [ZL_keys, Wz_rt, Wz_cnd, Wz_lI, Wz_lW, Wz_lL, Wz_cl, Wz_cv, Wz_nz, Wz_gI, Wz_gR, Wz_sI, Wz_aI, Wz_aZ, Wz_aL, Wz_aN, Wz_aR, Wz_tI, Wz_tZ, Wz_tL, Option.some.injEq, exists_eq_left', zB_0, zB_1, true_and, and_true, true_implies, not_true_eq_false, false_implies, not_false_eq_true, Classical.not_not]
  refine ⟨hO.k, t_told0 hO hq fun τ' hf hq' => ?_⟩
  unfold ZL_keys_10
  have q := l_keys_10 (τ0 := τ) (xs := xs) hN hO a0 a1 p0 c1 hQ NN 0 τ' (by omega) c0 (by unfold NN; omega) hf (by rw [Int.add_zero]; exact hq')
  rw [Int.add_zero] at q
  exact q
set_option maxRecDepth 100000 in
theorem l_words_3 (hN : N ≤ 260) (hO : okO G b) {c : Int} (c1 : c ≤ 6) {τ0 : kzM} {Q : Int → kzM → Prop} (hQ : ∀ τ', FrS b τ0 τ' → Ob (V b τ') 0 c f x B m fh fw fd → Q 1 τ') : ∀ (M : Nat) (i : Int) (τ : kzM), 0 ≤ i → i ≤ c → c - i < (M : Int) → FrS b τ0 τ → Ob (V b τ) 0 i f x B m fh fw fd → Wz (lp (fun _ _ _ _ _ _ => none) (ZL_words_3B G xs N) M b 1 c 4 i) τ Q := by
  intro M
  induction M with
  | zero => intro i; intros; omega
  | succ M ih =>
    intro i τ i0 i1 i2 hf hq
    rw [lp_succ]
    generalize lp (fun _ _ _ _ _ _ => none) (ZL_words_3B G xs N) M = L at ih ⊢
    unfold ZL_words_3B
    simp only [ZL_words_109, Wz_rt, Wz_cnd, Wz_lI, Wz_lW, Wz_lL, Wz_cl, Wz_cv, Wz_nz, Wz_gI, Wz_gR, Wz_sI, Wz_aI, Wz_aZ, Wz_aL, Wz_aN, Wz_aR, Wz_tI, Wz_tZ, Wz_tL, Option.some.injEq, exists_eq_left', zB_0, zB_1, true_and, and_true, true_implies, not_true_eq_false, false_implies, not_false_eq_true, Classical.not_not]
    refine ⟨fun e => ?_, fun e => ⟨by omega, l_cell hN (by omega) (by omega) (by omega) (by omega) fun r r0 r1 => ⟨by omega, by omega, ?_⟩⟩⟩
    · rw [show i = c by omega] at hq; exact hQ τ hf hq
    · refine l_keys hN hO (by omega) (by omega) (by omega) (by omega) (by omega) hq fun τ1 hf1 hq1 => ?_
      refine ⟨fun _ => ⟨by omega, ?_⟩, fun z => by omega⟩
      refine l_cell hN (by omega) (by omega) (by omega) (by omega) fun r2 _ _ => ⟨by omega, ?_⟩
      refine l_cell hN (by omega) (by omega) (by omega) (by omega) fun r3 _ _ => ⟨by omega, ?_⟩
      refine l_cell hN (by omega) (by omega) (by omega) (by omega) fun r4 _ _ => ⟨by omega, by omega, hO.k, ?_⟩
      refine t_word hO hq1 (by omega) (by omega) (by omega) (by omega) (by omega) (by omega) fun τ2 hf2 hq2 => ?_
      exact ⟨fun _ => ⟨by omega, ih (i + 1) τ2 (by omega) (by omega) (by omega) ((hf.tr hf1).tr hf2) hq2⟩, fun z => absurd rfl z⟩
set_option maxRecDepth 100000 in
theorem l_words (hN : N ≤ 260) (hO : okO G b) {c : Int} (c0 : 0 ≤ c) (c1 : c ≤ 6) {τ : kzM} (hq : Ob (V b τ) 0 0 f x B m fh fw fd) {Q : Int → kzM → Prop} (hQ : ∀ τ', FrS b τ τ' → Ob (V b τ') 0 c f x B m fh fw fd → Q 1 τ') : Wz (ZL_words G xs N b 1 c 4) τ Q := by
  unfold ZL_words ZL_words_3
  exact l_words_3 hN hO c1 hQ NN 0 τ (by omega) c0 (by unfold NN; omega) FrS.rf hq
end LW1
section LW2
variable {τ τ' : kzM} {pd n f x : Int} {B : Int → Int} {m : Int} {fh fw fd : Int → Int}
/-- what is done to one object is not seen by another -/
theorem Ob.fr {b b' : Nat} (h : FrS b τ τ') (hd : b' + 612 ≤ b ∨ b + 612 ≤ b') (q : Ob (V b' τ) pd n f x B m fh fw fd) : Ob (V b' τ') pd n f x B m fh fw fd :=
  Ob.cg (τ := V b' τ) (fun a j z => congrFun (h (b' + a) (by have := Rv_lt z; omega)).1 j) q
theorem Ob.o (h : FrS 612 τ τ') (q : Ob (V 0 τ) pd n f x B m fh fw fd) : Ob (V 0 τ') pd n f x B m fh fw fd := q.fr h (Or.inl (by decide))
theorem Ob.p (h : FrS 0 τ τ') (q : Ob (V 612 τ) pd n f x B m fh fw fd) : Ob (V 612 τ') pd n f x B m fh fw fd := q.fr h (Or.inr (by decide))
theorem FrS.r0 (h : FrS 0 τ τ') {a : Nat} (ha : 1224 ≤ a) : τ'.1 a = τ.1 a := (h a (by omega)).1
theorem FrS.r1 (h : FrS 612 τ τ') {a : Nat} (ha : 1224 ≤ a) : τ'.1 a = τ.1 a := (h a (by omega)).1
/-- the law's own rows are none of an object's -/
theorem Ob.row {b : Nat} (hb : b ≤ 612) {a : Nat} (ha : 1224 ≤ a) {j v : Int} (q : Ob (V b τ) pd n f x B m fh fw fd) : Ob (V b (v2 τ.1 a j v, τ.2)) pd n f x B m fh fw fd :=
  q.cg fun c i z => by
    have := Rv_lt z
    show v2 τ.1 a j v (b + c) i = τ.1 (b + c) i
    exact v2_ne _ _ _ _ (by omega)
theorem Ob.lc {fh' fw' fd' : Int → Int} (q : Ob τ pd n f x B m fh fw fd) (h : ∀ k, 0 ≤ k → k < m → fh k = fh' k ∧ fw k = fw' k ∧ fd k = fd' k) : Ob τ pd n f x B m fh' fw' fd' := by
  obtain ⟨q1, q2, q3, q4, q5, q6, q7, q8⟩ := q
  refine ⟨q1, q2, q3, q4, q5, q6, q7, fun k k0 k1 => ?_⟩
  obtain ⟨a1, a2, a3⟩ := q8 k k0 k1
  obtain ⟨b1, b2, b3⟩ := h k k0 k1
  exact ⟨a1.trans b1, a2.trans b2, a3.trans b3⟩
theorem Ob.bc {B' : Int → Int} (q : Ob τ pd n f x B m fh fw fd) (h : ∀ k, 0 ≤ k → k < 4 → B k = B' k) : Ob τ pd n f x B' m fh fw fd := by
  obtain ⟨q1, q2, q3, q4, q5, q6, q7, q8⟩ := q
  exact ⟨q1, q2, q3, q4, q5, fun k k0 k1 => (q6 k k0 k1).trans (h k k0 k1), q7, q8⟩
end LW2
/-- a new object -/
abbrev On (τ : kzM) (n f : Int) : Prop := Ob τ 0 n f 1 (fun _ => 100) 0 (fun _ => 0) (fun _ => 0) (fun _ => 0)
set_option maxRecDepth 100000 in
theorem l_s1 {xs : Nat → Int32} {N : Nat} (hN : N ≤ 260) {e : Nat} {τ : kzM} (ho : On (V 0 τ) 0 900) (hp : On (V 612 τ) 0 900) {k112 : Nat → Nat → Int → Int → Int → kzM → Option (Unit × kzM)} {Q : Unit → kzM → Prop} (hk : ∀ (n f many : Int) (τ' : kzM), 2 ≤ n → n ≤ 6 → 0 ≤ f → f ≤ 1000 → 0 ≤ many → many ≤ 15 → On (V 0 τ') n f → On (V 612 τ') n f → Wz (k112 0 612 n f many) τ' Q) : Wz (ZL_law_s1 (kdGe e) xs N k112 0 612) τ Q := by
  have hO := okO_0 e
  have hP := okO_1 e
  have s74 : ∀ (n f : Int) (τ' : kzM), 2 ≤ n → n ≤ 6 → 0 ≤ f → f ≤ 1000 → On (V 0 τ') n 900 → On (V 612 τ') n 900 → Wz (ZL_law_74 (kdGe e) xs N k112 0 612 n f) τ' Q := fun n f τ' n0 n1 f0 f1 ho hp => by
    simp only [ZL_law_74, ZL_law_100, Wz_rt, Wz_cnd, Wz_lI, Wz_lW, Wz_lL, Wz_cl, Wz_cv, Wz_nz, Wz_gI, Wz_gR, Wz_sI, Wz_aI, Wz_aZ, Wz_aL, Wz_aN, Wz_aR, Wz_tI, Wz_tZ, Wz_tL, Option.some.injEq, exists_eq_left', zB_0, zB_1, true_and, and_true, true_implies, not_true_eq_false, false_implies, not_false_eq_true, Classical.not_not]
    refine ⟨hO.k, t_fade hO ho f0 f1 fun τ1 hf1 ho1 => ⟨fun _ => ⟨hP.k, ?_⟩, fun z => absurd rfl z⟩⟩
    refine t_fade hP (hp.p hf1) f0 f1 fun τ2 hf2 hp2 => ⟨fun _ => ?_, fun z => absurd rfl z⟩
    exact l_cell hN (by omega) (by omega) (by omega) (by omega) fun r r0 r1 => hk n f r τ2 n0 n1 f0 f1 r0 (by omega) (ho1.o hf2) hp2
  simp only [ZL_law_s1, ZL_law_47, Wz_rt, Wz_cnd, Wz_lI, Wz_lW, Wz_lL, Wz_cl, Wz_cv, Wz_nz, Wz_gI, Wz_gR, Wz_sI, Wz_aI, Wz_aZ, Wz_aL, Wz_aN, Wz_aR, Wz_tI, Wz_tZ, Wz_tL, Option.some.injEq, exists_eq_left', zB_0, zB_1, true_and, and_true, true_implies, not_true_eq_false, false_implies, not_false_eq_true, Classical.not_not]
  refine l_cell hN (by omega) (by omega) (by omega) (by omega) fun r r0 r1 => ⟨by omega, ?_⟩
  refine l_words hN hO (by omega) (by omega) ho fun τ1 hf1 ho1 => ⟨fun z => by omega, fun _ => ?_⟩
  refine l_words hN hP (by omega) (by omega) (hp.p hf1) fun τ2 hf2 hp2 => ⟨fun z => by omega, fun _ => ?_⟩
  have ho2 := ho1.o hf2
  refine l_cell hN (by omega) (by omega) (by omega) (by omega) fun r5 _ _ => ⟨fun _ => ?_, fun _ => ?_⟩
  · exact s74 _ _ _ (by omega) (by omega) (by omega) (by omega) ho2 hp2
  · exact l_cell hN (by omega) (by omega) (by omega) (by omega) fun r6 r60 r61 => s74 _ _ _ (by omega) (by omega) r60 (by omega) ho2 hp2
