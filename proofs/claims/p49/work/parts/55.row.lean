noncomputable def zp (p : Prop) : Int := @ite Int p (Classical.propDecidable p) 1 0
theorem zp_pos {p : Prop} (h : p) : zp p = 1 := by unfold zp; exact @if_pos p (Classical.propDecidable p) h Int 1 0
theorem zp_neg {p : Prop} (h : ¬p) : zp p = 0 := by unfold zp; exact @if_neg p (Classical.propDecidable p) h Int 1 0
theorem zp_0 {p : Prop} : zp p = 0 ↔ ¬p := by
  by_cases h : p
  · rw [zp_pos h]; exact ⟨fun q => absurd q (by decide), fun q => absurd h q⟩
  · rw [zp_neg h]; exact ⟨fun _ => h, fun _ => rfl⟩
theorem zp_1 {p : Prop} : zp p = 1 ↔ p := by
  by_cases h : p
  · rw [zp_pos h]; exact ⟨fun _ => h, fun _ => rfl⟩
  · rw [zp_neg h]; exact ⟨fun q => absurd q (by decide), fun q => absurd q h⟩
theorem zp_iff {p q : Prop} (h : p ↔ q) : zp p = zp q := by rw [propext h]
theorem zB_zp (p : Prop) : zB (zp p) = zp p := by
  by_cases h : p
  · rw [zp_pos h, zB_1]
  · rw [zp_neg h, zB_0]
def rw1 (f : Nat → Int → Int) (a : Nat) (g : Int → Int) : Nat → Int → Int := fun b x => if b = a then g x else f b x
theorem rw1_eq (f : Nat → Int → Int) (a : Nat) (g : Int → Int) (b : Nat) (x : Int) : rw1 f a g b x = if b = a then g x else f b x := rfl
def insF (f : Int → Int) (i v j : Int) : Int → Int := fun x => if x = i then v else if i < x ∧ x ≤ j then f (x - 1) else f x
def remF (f : Int → Int) (i n : Int) : Int → Int := fun x => if i ≤ x ∧ x < n then f (x + 1) else f x
def cpyF (f g : Int → Int) (i n : Int) : Int → Int := fun x => if i ≤ x ∧ x < n then g x else f x
set_option maxRecDepth 100000 in
theorem W_size {a n : Nat} (h : kRow a n) {τ : kzM} {Q : Int → kzM → Prop} : Wz (Z6_size kdG0 a) τ Q ↔ Q (τ.1 a 1) τ := by
  simp only [Z6_size, Wz_rt, Wz_cnd, Wz_lI, Wz_lW, Wz_lL, Wz_cl, Wz_cv, Wz_nz, Wz_gI, Wz_gR, Wz_sI, Wz_aI, Wz_aZ, Wz_aL, Wz_aN, Wz_aR, Wz_tI, Wz_tZ, Wz_tL, Option.some.injEq, exists_eq_left', zB_0, zB_1, true_and, and_true, true_implies, not_true_eq_false, false_implies, not_false_eq_true, Classical.not_not, h.1]
set_option maxRecDepth 100000 in
theorem W_isEmpty {a n : Nat} (h : kRow a n) {τ : kzM} {Q : Int → kzM → Prop} : Wz (Z6_isEmpty kdG0 a) τ Q ↔ Q (zp (τ.1 a 1 = 0)) τ := by
  simp only [Z6_isEmpty, Z6_isEmpty_12, Wz_rt, Wz_cnd, Wz_lI, Wz_lW, Wz_lL, Wz_cl, Wz_cv, Wz_nz, Wz_gI, Wz_gR, Wz_sI, Wz_aI, Wz_aZ, Wz_aL, Wz_aN, Wz_aR, Wz_tI, Wz_tZ, Wz_tL, Option.some.injEq, exists_eq_left', zB_0, zB_1, true_and, and_true, true_implies, not_true_eq_false, false_implies, not_false_eq_true, Classical.not_not, h.1]
  by_cases e : τ.1 a 1 = 0
  · simp [e, zp_pos]
  · simp [e, zp_neg]
set_option maxRecDepth 100000 in
theorem W_isFull {a n : Nat} (h : kRow a n) {τ : kzM} {Q : Int → kzM → Prop} : Wz (Z6_isFull kdG0 a) τ Q ↔ Q (zp ((n : Int) ≤ τ.1 a 1)) τ := by
  simp only [Z6_isFull, Z6_isFull_17, Wz_rt, Wz_cnd, Wz_lI, Wz_lW, Wz_lL, Wz_cl, Wz_cv, Wz_nz, Wz_gI, Wz_gR, Wz_sI, Wz_aI, Wz_aZ, Wz_aL, Wz_aN, Wz_aR, Wz_tI, Wz_tZ, Wz_tL, Option.some.injEq, exists_eq_left', zB_0, zB_1, true_and, and_true, true_implies, not_true_eq_false, false_implies, not_false_eq_true, Classical.not_not, h.1, h.2.1, h.2.2]
  by_cases e : τ.1 a 1 < (n : Int)
  · rw [zp_neg (by omega)]; simp [e]
  · rw [zp_pos (by omega)]; simp [e]
set_option maxRecDepth 100000 in
theorem W_has {a n : Nat} (h : kRow a n) {τ : kzM} {i : Int} {Q : Int → kzM → Prop} : Wz (Z6_has kdG0 a i) τ Q ↔ Q (zp (0 ≤ i ∧ i < τ.1 a 1)) τ := by
  simp only [Z6_has, Z6_has_16, Z6_has_17, Wz_rt, Wz_cnd, Wz_lI, Wz_lW, Wz_lL, Wz_cl, Wz_cv, Wz_nz, Wz_gI, Wz_gR, Wz_sI, Wz_aI, Wz_aZ, Wz_aL, Wz_aN, Wz_aR, Wz_tI, Wz_tZ, Wz_tL, Option.some.injEq, exists_eq_left', zB_0, zB_1, true_and, and_true, true_implies, not_true_eq_false, false_implies, not_false_eq_true, Classical.not_not, h.1]
  by_cases e : i < 0
  · rw [zp_neg (by omega)]; simp [e]
  · by_cases e2 : τ.1 a 1 ≤ i
    · rw [zp_neg (by omega)]; simp [e, e2]
    · rw [zp_pos (by omega)]; simp [e, e2]
set_option maxRecDepth 100000 in
theorem W_at {a n : Nat} (h : kRow a n) {τ : kzM} {i : Int} {Q : Int → kzM → Prop} (hs : τ.1 a 1 ≤ (n : Int)) : Wz (Z6_at kdG0 a i) τ Q ↔ Q (if 0 ≤ i ∧ i < τ.1 a 1 then τ.1 (a + 1) i else -1) τ := by
  simp only [Z6_at, Z6_at_21, Z6_at_22, Wz_rt, Wz_cnd, Wz_lI, Wz_lW, Wz_lL, Wz_cl, Wz_cv, Wz_nz, Wz_gI, Wz_gR, Wz_sI, Wz_aI, Wz_aZ, Wz_aL, Wz_aN, Wz_aR, Wz_tI, Wz_tZ, Wz_tL, Option.some.injEq, exists_eq_left', zB_0, zB_1, true_and, and_true, true_implies, not_true_eq_false, false_implies, not_false_eq_true, Classical.not_not, h.1, h.2.1, h.2.2]
  by_cases e : i < 0
  · rw [if_neg (by omega)]; simp [e]
  · by_cases e2 : τ.1 a 1 ≤ i
    · rw [if_neg (by omega)]; simp [e, e2]
    · rw [if_pos (by omega)]
      have : 0 ≤ i ∧ i < (n : Int) := by omega
      simp [e, e2, this]
set_option maxRecDepth 100000 in
theorem W_insert_25 {a c : Nat} (h : kRow a c) : ∀ (n : Nat) (i v j : Int) (τ : kzM) (Q : Unit → kzM → Prop), 0 ≤ i → i ≤ j → j < (c : Int) → -2147483648 ≤ τ.1 a 1 → τ.1 a 1 ≤ 2147483646 → c ≤ 2147483647 → j - i < (n : Int) → Q () (v2 (rw1 τ.1 (a + 1) (insF (τ.1 (a + 1)) i v j)) a 1 (τ.1 a 1 + 1), τ.2) → Wz (lp (fun _ _ _ _ _ => none) (Z6_insert_25B kdG0) n a i v j) τ Q := by
  intro n
  induction n with
  | zero => intro i v j τ Q h0 h1; intros; omega
  | succ n ih =>
    intro i v j τ Q h0 h1 h2 h3 h4 h5 h6 hQ
    rw [lp_succ]
    unfold Z6_insert_25B
    simp only [Wz_rt, Wz_cnd, Wz_lI, Wz_lW, Wz_lL, Wz_cl, Wz_cv, Wz_nz, Wz_gI, Wz_gR, Wz_sI, Wz_aI, Wz_aZ, Wz_aL, Wz_aN, Wz_aR, Wz_tI, Wz_tZ, Wz_tL, Option.some.injEq, exists_eq_left', zB_0, zB_1, true_and, and_true, true_implies, not_true_eq_false, false_implies, not_false_eq_true, Classical.not_not, h.1, h.2.1, h.2.2]
    refine ⟨fun e => ?_, fun e => ?_⟩
    · have e : j = i := by omega
      subst e
      refine ⟨by omega, ?_⟩
      rw [v2_ne _ _ _ _ (by omega)]
      refine ⟨by omega, ?_⟩
      have q : v2 (v2 τ.1 (a + 1) j v) a 1 (τ.1 a 1 + 1) = v2 (rw1 τ.1 (a + 1) (insF (τ.1 (a + 1)) j v j)) a 1 (τ.1 a 1 + 1) := by
        funext b x
        simp only [v2, rw1, insF]
        grind
      rw [q]; exact hQ
    · refine ⟨by omega, by omega, by omega, ?_⟩
      refine ih _ _ _ _ _ h0 (by omega) (by omega) ?_ ?_ h5 (by omega) ?_
      · dsimp only; rw [v2_ne _ _ _ _ (by omega)]; omega
      · dsimp only; rw [v2_ne _ _ _ _ (by omega)]; omega
      · have q : v2 (rw1 (v2 τ.1 (a + 1) j (τ.1 (a + 1) (j - 1))) (a + 1) (insF (v2 τ.1 (a + 1) j (τ.1 (a + 1) (j - 1)) (a + 1)) i v (j + -1))) a 1 (v2 τ.1 (a + 1) j (τ.1 (a + 1) (j - 1)) a 1 + 1) = v2 (rw1 τ.1 (a + 1) (insF (τ.1 (a + 1)) i v j)) a 1 (τ.1 a 1 + 1) := by
          funext b x
          simp only [v2, rw1, insF]
          grind
        rw [q]; exact hQ
set_option maxRecDepth 100000 in
theorem W_insert {a c : Nat} (h : kRow a c) {τ : kzM} {i v : Int} {Q : Unit → kzM → Prop} (h0 : 0 ≤ i) (h1 : i ≤ τ.1 a 1) (h2 : τ.1 a 1 < (c : Int)) (hc : c ≤ 1000) (hQ : Q () (v2 (rw1 τ.1 (a + 1) (insF (τ.1 (a + 1)) i v (τ.1 a 1))) a 1 (τ.1 a 1 + 1), τ.2)) : Wz (Z6_insert kdG0 a i v) τ Q := by
  simp only [Z6_insert, Wz_rt, Wz_cnd, Wz_lI, Wz_lW, Wz_lL, Wz_cl, Wz_cv, Wz_nz, Wz_gI, Wz_gR, Wz_sI, Wz_aI, Wz_aZ, Wz_aL, Wz_aN, Wz_aR, Wz_tI, Wz_tZ, Wz_tL, Option.some.injEq, exists_eq_left', zB_0, zB_1, true_and, and_true, true_implies, not_true_eq_false, false_implies, not_false_eq_true, Classical.not_not, h.1, W_isFull h]
  rw [zp_neg (by omega)]
  refine ⟨fun _ => ⟨fun e => by omega, fun _ => ⟨fun _ => ?_, fun e => by omega⟩⟩, fun e => absurd rfl e⟩
  exact W_insert_25 h NN i v _ τ Q h0 h1 h2 (by omega) (by omega) (by omega) (by unfold NN; omega) hQ
def addF (f : Nat → Int → Int) (a : Nat) (v : Int) : Nat → Int → Int := v2 (v2 f (a + 1) (f a 1) v) a 1 (f a 1 + 1)
set_option maxRecDepth 100000 in
theorem W_add {a c : Nat} (h : kRow a c) {τ : kzM} {v : Int} {Q : Unit → kzM → Prop} (h1 : 0 ≤ τ.1 a 1) (h2 : τ.1 a 1 < (c : Int)) (hc : c ≤ 1000) (hQ : Q () (addF τ.1 a v, τ.2)) : Wz (Z6_add kdG0 a v) τ Q := by
  simp only [Z6_add, Wz_rt, Wz_cnd, Wz_lI, Wz_lW, Wz_lL, Wz_cl, Wz_cv, Wz_nz, Wz_gI, Wz_gR, Wz_sI, Wz_aI, Wz_aZ, Wz_aL, Wz_aN, Wz_aR, Wz_tI, Wz_tZ, Wz_tL, Option.some.injEq, exists_eq_left', zB_0, zB_1, true_and, and_true, true_implies, not_true_eq_false, false_implies, not_false_eq_true, Classical.not_not, h.1]
  refine W_insert h h1 (by omega) h2 hc ?_
  have q : v2 (rw1 τ.1 (a + 1) (insF (τ.1 (a + 1)) (τ.1 a 1) v (τ.1 a 1))) a 1 (τ.1 a 1 + 1) = addF τ.1 a v := by
    funext b x
    simp only [v2, rw1, insF, addF]
    grind
  rw [q]; exact hQ
set_option maxRecDepth 100000 in
theorem W_remove_26 {a c : Nat} (h : kRow a c) : ∀ (n : Nat) (r i : Int) (τ : kzM) (Q : Int → kzM → Prop), 0 ≤ i → i ≤ τ.1 a 1 → τ.1 a 1 < (c : Int) → c ≤ 1000 → τ.1 a 1 - i < (n : Int) → Q r (rw1 τ.1 (a + 1) (remF (τ.1 (a + 1)) i (τ.1 a 1)), τ.2) → Wz (lp (fun _ _ _ _ => none) (Z6_remove_26B kdG0) n a r i) τ Q := by
  intro n
  induction n with
  | zero =>
    intro r i τ Q h0 h1 h2 h3 h4 hQ
    omega
  | succ n ih =>
    intro r i τ Q h0 h1 h2 h3 h4 hQ
    rw [lp_succ]
    unfold Z6_remove_26B
    simp only [Z6_remove_54, Wz_rt, Wz_cnd, Wz_lI, Wz_lW, Wz_lL, Wz_cl, Wz_cv, Wz_nz, Wz_gI, Wz_gR, Wz_sI, Wz_aI, Wz_aZ, Wz_aL, Wz_aN, Wz_aR, Wz_tI, Wz_tZ, Wz_tL, Option.some.injEq, exists_eq_left', zB_0, zB_1, true_and, and_true, true_implies, not_true_eq_false, false_implies, not_false_eq_true, Classical.not_not, h.1, h.2.1, h.2.2]
    refine ⟨fun e => ?_, fun e => ?_⟩
    · have q : rw1 τ.1 (a + 1) (remF (τ.1 (a + 1)) i (τ.1 a 1)) = τ.1 := by
        funext b x
        simp only [rw1, remF]
        grind
      rw [q] at hQ; exact hQ
    · refine ⟨by omega, by omega, by omega, ?_⟩
      have hs : v2 τ.1 (a + 1) i (τ.1 (a + 1) (i + 1)) a 1 = τ.1 a 1 := v2_ne _ _ _ _ (by omega)
      refine ih _ _ _ _ (by omega) (by dsimp only; rw [hs]; omega) (by dsimp only; rw [hs]; exact h2) h3 (by dsimp only; rw [hs]; omega) ?_
      dsimp only
      rw [hs]
      have q : rw1 (v2 τ.1 (a + 1) i (τ.1 (a + 1) (i + 1))) (a + 1) (remF (v2 τ.1 (a + 1) i (τ.1 (a + 1) (i + 1)) (a + 1)) (i + 1) (τ.1 a 1)) = rw1 τ.1 (a + 1) (remF (τ.1 (a + 1)) i (τ.1 a 1)) := by
        funext b x
        simp only [v2, rw1, remF]
        grind
      rw [q]; exact hQ
set_option maxRecDepth 100000 in
theorem W_remove {a c : Nat} (h : kRow a c) {τ : kzM} {i : Int} {Q : Int → kzM → Prop} (h0 : 0 ≤ i) (h1 : i < τ.1 a 1) (h2 : τ.1 a 1 ≤ (c : Int)) (hc : c ≤ 1000) (hQ : Q (τ.1 (a + 1) i) (v2 (rw1 τ.1 (a + 1) (remF (τ.1 (a + 1)) i (τ.1 a 1 - 1))) a 1 (τ.1 a 1 - 1), τ.2)) : Wz (Z6_remove kdG0 a i) τ Q := by
  simp only [Z6_remove, Z6_remove_54, Wz_rt, Wz_cnd, Wz_lI, Wz_lW, Wz_lL, Wz_cl, Wz_cv, Wz_nz, Wz_gI, Wz_gR, Wz_sI, Wz_aI, Wz_aZ, Wz_aL, Wz_aN, Wz_aR, Wz_tI, Wz_tZ, Wz_tL, Option.some.injEq, exists_eq_left', zB_0, zB_1, true_and, and_true, true_implies, not_true_eq_false, false_implies, not_false_eq_true, Classical.not_not, h.1, h.2.1, h.2.2, W_at h h2, W_has h]
  rw [zp_pos ⟨h0, h1⟩, if_pos ⟨h0, h1⟩]
  refine ⟨fun e => absurd e (by decide), fun _ => ⟨by omega, ?_⟩⟩
  have hs : v2 τ.1 a 1 (τ.1 a 1 - 1) a 1 = τ.1 a 1 - 1 := v2_self ..
  refine W_remove_26 h NN _ _ _ _ h0 (by dsimp only; rw [hs]; omega) (by dsimp only; rw [hs]; omega) hc (by dsimp only; rw [hs]; unfold NN; omega) ?_
  dsimp only
  rw [hs]
  have q : rw1 (v2 τ.1 a 1 (τ.1 a 1 - 1)) (a + 1) (remF (v2 τ.1 a 1 (τ.1 a 1 - 1) (a + 1)) i (τ.1 a 1 - 1)) = v2 (rw1 τ.1 (a + 1) (remF (τ.1 (a + 1)) i (τ.1 a 1 - 1))) a 1 (τ.1 a 1 - 1) := by
    funext b x
    simp only [v2, rw1, remF]
    grind
  rw [q]; exact hQ
set_option maxRecDepth 100000 in
theorem W_clear {a c : Nat} (h : kRow a c) {τ : kzM} {Q : Int → kzM → Prop} : Wz (Z6_clear kdG0 a) τ Q ↔ Q (τ.1 a 1) (v2 τ.1 a 1 0, τ.2) := by
  simp only [Z6_clear, Wz_rt, Wz_cnd, Wz_lI, Wz_lW, Wz_lL, Wz_cl, Wz_cv, Wz_nz, Wz_gI, Wz_gR, Wz_sI, Wz_aI, Wz_aZ, Wz_aL, Wz_aN, Wz_aR, Wz_tI, Wz_tZ, Wz_tL, Option.some.injEq, exists_eq_left', zB_0, zB_1, true_and, and_true, true_implies, not_true_eq_false, false_implies, not_false_eq_true, Classical.not_not, h.1]
set_option maxRecDepth 100000 in
theorem W_copy_7 {a c b d : Nat} (h : kRow a c) (hb : kRow b d) (hab : a ≠ b) (hab1 : a ≠ b + 1) (hab2 : a + 1 ≠ b) (hc : c ≤ 1000) : ∀ (n : Nat) (i : Int) (τ : kzM) (Q : Unit → kzM → Prop), 0 ≤ i → τ.1 a 1 = i → i ≤ τ.1 b 1 → τ.1 b 1 ≤ (c : Int) → τ.1 b 1 ≤ (d : Int) → τ.1 b 1 - i < (n : Int) → Q () (v2 (rw1 τ.1 (a + 1) (cpyF (τ.1 (a + 1)) (τ.1 (b + 1)) i (τ.1 b 1))) a 1 (τ.1 b 1), τ.2) → Wz (lp (fun _ _ _ _ => none) (Z6_copy_7B kdG0) n a b i) τ Q := by
  intro n
  induction n with
  | zero => intro i τ Q h0 h1 h2 h3 h4 h5; omega
  | succ n ih =>
    intro i τ Q h0 h1 h2 h3 h4 h5 hQ
    rw [lp_succ]
    unfold Z6_copy_7B
    simp only [Wz_rt, Wz_cnd, Wz_lI, Wz_lW, Wz_lL, Wz_cl, Wz_cv, Wz_nz, Wz_gI, Wz_gR, Wz_sI, Wz_aI, Wz_aZ, Wz_aL, Wz_aN, Wz_aR, Wz_tI, Wz_tZ, Wz_tL, Option.some.injEq, exists_eq_left', zB_0, zB_1, true_and, and_true, true_implies, not_true_eq_false, false_implies, not_false_eq_true, Classical.not_not, h.1, hb.1, hb.2.1, hb.2.2]
    refine ⟨fun e => ?_, fun e => ?_⟩
    · have q : v2 (rw1 τ.1 (a + 1) (cpyF (τ.1 (a + 1)) (τ.1 (b + 1)) i (τ.1 b 1))) a 1 (τ.1 b 1) = τ.1 := by
        funext b x
        simp only [v2, rw1, cpyF]
        grind
      rw [q] at hQ; exact hQ
    · refine ⟨by omega, ?_⟩
      refine W_add h (by omega) (by omega) hc ?_
      refine ⟨by omega, ?_⟩
      have e1 : addF τ.1 a (τ.1 (b + 1) i) b 1 = τ.1 b 1 := by simp only [addF, v2]; grind
      have e2 : addF τ.1 a (τ.1 (b + 1) i) a 1 = τ.1 a 1 + 1 := by simp only [addF, v2]; grind
      refine ih _ _ _ (by omega) (by dsimp only; rw [e2]; omega) (by dsimp only; rw [e1]; omega) (by dsimp only; rw [e1]; omega) (by dsimp only; rw [e1]; omega) (by dsimp only; rw [e1]; omega) ?_
      dsimp only
      rw [e1]
      have q : v2 (rw1 (addF τ.1 a (τ.1 (b + 1) i)) (a + 1) (cpyF (addF τ.1 a (τ.1 (b + 1) i) (a + 1)) (addF τ.1 a (τ.1 (b + 1) i) (b + 1)) (i + 1) (τ.1 b 1))) a 1 (τ.1 b 1) = v2 (rw1 τ.1 (a + 1) (cpyF (τ.1 (a + 1)) (τ.1 (b + 1)) i (τ.1 b 1))) a 1 (τ.1 b 1) := by
        funext b x
        simp only [v2, rw1, cpyF, addF]
        grind
      rw [q]; exact hQ
set_option maxRecDepth 100000 in
theorem W_copy {a c b d : Nat} (h : kRow a c) (hb : kRow b d) (hab : a ≠ b) (hab1 : a ≠ b + 1) (hab2 : a + 1 ≠ b) (hc : c ≤ 1000) {τ : kzM} {Q : Unit → kzM → Prop} (h0 : 0 ≤ τ.1 b 1) (h1 : τ.1 b 1 ≤ (c : Int)) (h2 : τ.1 b 1 ≤ (d : Int)) (hQ : Q () (v2 (rw1 τ.1 (a + 1) (cpyF (τ.1 (a + 1)) (τ.1 (b + 1)) 0 (τ.1 b 1))) a 1 (τ.1 b 1), τ.2)) : Wz (Z6_copy kdG0 a b) τ Q := by
  simp only [Z6_copy, Wz_rt, Wz_cnd, Wz_lI, Wz_lW, Wz_lL, Wz_cl, Wz_cv, Wz_nz, Wz_gI, Wz_gR, Wz_sI, Wz_aI, Wz_aZ, Wz_aL, Wz_aN, Wz_aR, Wz_tI, Wz_tZ, Wz_tL, Option.some.injEq, exists_eq_left', zB_0, zB_1, true_and, and_true, true_implies, not_true_eq_false, false_implies, not_false_eq_true, Classical.not_not, h.1, W_clear h]
  have e1 : v2 τ.1 a 1 0 b 1 = τ.1 b 1 := v2_ne _ _ _ _ (by omega)
  refine W_copy_7 h hb hab hab1 hab2 hc NN 0 _ _ (by omega) (v2_self ..) (by dsimp only; rw [e1]; exact h0) (by dsimp only; rw [e1]; exact h1) (by dsimp only; rw [e1]; exact h2) (by dsimp only; rw [e1]; unfold NN; omega) ?_
  dsimp only
  rw [e1]
  have q : v2 (rw1 (v2 τ.1 a 1 0) (a + 1) (cpyF (v2 τ.1 a 1 0 (a + 1)) (v2 τ.1 a 1 0 (b + 1)) 0 (τ.1 b 1))) a 1 (τ.1 b 1) = v2 (rw1 τ.1 (a + 1) (cpyF (τ.1 (a + 1)) (τ.1 (b + 1)) 0 (τ.1 b 1))) a 1 (τ.1 b 1) := by
    funext b x
    simp only [v2, rw1, cpyF]
    grind
  rw [q]; exact hQ
def eqF (f g : Int → Int) (s n : Int) : Prop := ∀ x, 0 ≤ x → x < n → f x = g (s + x)
theorem eqF_congr {f g f' g' : Int → Int} {s n : Int} (h1 : ∀ x, 0 ≤ x → x < n → f x = f' x) (h2 : ∀ x, 0 ≤ x → x < n → g (s + x) = g' (s + x)) : eqF f g s n ↔ eqF f' g' s n :=
  ⟨fun q x h0 hx => by rw [← h1 x h0 hx, ← h2 x h0 hx]; exact q x h0 hx, fun q x h0 hx => by rw [h1 x h0 hx, h2 x h0 hx]; exact q x h0 hx⟩
