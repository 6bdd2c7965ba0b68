/-! missing: the class's loops -/
theorem v2_rw1 (f : Nat → Int → Int) (a : Nat) (g : Int → Int) (l v : Int) : v2 (rw1 f a g) a l v = rw1 f a (fun y => if y = l then v else g y) := by
  funext b x
  simp only [v2, rw1]
  by_cases c : b = a
  · by_cases d : x = l
    · rw [if_pos ⟨c, d⟩, if_pos c, if_pos d]
    · rw [if_neg (fun q => d q.2), if_pos c, if_pos c, if_neg d]
  · rw [if_neg (fun q => c q.1), if_neg c, if_neg c]
theorem rw1_id (f : Nat → Int → Int) (a : Nat) : rw1 f a (f a) = f := by
  funext b x; unfold rw1; split
  · rename_i h; rw [h]
  · rfl
theorem isIdleP_cg {τ σ : kzM} {t r : Int} (h : ∀ x, σ.1 617 x = τ.1 617 x) (h2 : ∀ x, σ.1 618 x = τ.1 618 x) : isIdleP σ t r ↔ isIdleP τ t r := by
  unfold isIdleP likeK allEq
  simp only [h, h2]
set_option maxRecDepth 100000 in
theorem W8_mark {T : Nat} {τ : kzM} {g : Int → Int} {l : Int} (hT : isT T) (l0 : 1 ≤ l) (l1 : l ≤ 60) {Q : Unit → kzM → Prop} (hQ : Q () (rw1 τ.1 (T + 10) (fun y => if y = l then 1 else g y), τ.2)) : Wz (Z8_mark kdG0 T l) (rw1 τ.1 (T + 10) g, τ.2) Q := by
  simp only [Z8_mark_14, Z8_mark, Z11_isLetter, W_within, zp_0, zB_zp, Wz_rt, Wz_cnd, Wz_lI, Wz_lW, Wz_lL, Wz_cl, Wz_cv, Wz_nz, Wz_gI, Wz_gR, Wz_sI, Wz_aI, Wz_aZ, Wz_aL, Wz_aN, Wz_aR, Wz_tI, Wz_tZ, Wz_tL, Option.some.injEq, exists_eq_left', zB_0, zB_1, true_and, and_true, true_implies, not_true_eq_false, false_implies, not_false_eq_true, Classical.not_not, gT hT]
  refine ⟨fun z => by omega, fun _ => ⟨by omega, ?_⟩⟩
  rw [v2_rw1]; exact hQ
set_option maxRecDepth 100000 in
theorem W8_letters_2 {T : Nat} {t r : Int} {τ : kzM} {s : Int → Int} (hT : isT T) (h : I3r τ T t) (r0 : 0 ≤ r) (r1 : r < τ.1 T 2) (Q : Unit → kzM → Prop) (hQ : ∀ g, eq61 g (mkL (letF τ t r) s (letN τ t r).toNat) → Q () (rw1 τ.1 (T + 10) g, τ.2)) : ∀ (n : Nat) (j : Int) (g : Int → Int), 0 ≤ j → j ≤ letN τ t r → letN τ t r - j < (n : Int) → eq61 g (mkL (letF τ t r) s j.toNat) → Wz (lp (fun _ _ _ _ => none) (Z8_markLettersOf_2B kdG0) n T r j) (rw1 τ.1 (T + 10) g, τ.2) Q := by
  have h' := h
  unfold I3r at h'
  obtain ⟨⟨h1, h2⟩, h3, h4⟩ := h'
  have e1 := (h4 r r0 r1).2
  unfold eqR at e1
  obtain ⟨e1, e2, e3⟩ := e1
  obtain ⟨g3, g4⟩ := gTl hT r0 (by omega)
  have hT2 : T ≤ 220 := by rcases hT with rfl | rfl | rfl <;> omega
  intro n
  induction n with
  | zero => intro j; intros; omega
  | succ n ih =>
    intro j g j0 j1 j2 hg
    have q := ih (j + 1)
    rw [show (j + 1).toNat = j.toNat + 1 by omega] at q
    have ej : ((j.toNat : Nat) : Int) = j := Int.toNat_of_nonneg j0
    have eN : letN τ t r = τ.1 (T + 13 + 4 * r.toNat) 1 := e2
    have f1 : rw1 τ.1 (T + 10) g (T + 13 + 4 * r.toNat) 1 = τ.1 (T + 13 + 4 * r.toNat) 1 := by rw [rw1_eq, if_neg (by omega)]
    have f2 : rw1 τ.1 (T + 10) g (T + 13 + 4 * r.toNat + 1) j = τ.1 (T + 13 + 4 * r.toNat + 1) j := by rw [rw1_eq, if_neg (by omega)]
    rw [lp_succ]
    unfold Z8_markLettersOf_2B
    simp only [Wz_rt, Wz_cnd, Wz_lI, Wz_lW, Wz_lL, Wz_cl, Wz_cv, Wz_nz, Wz_gI, Wz_gR, Wz_sI, Wz_aI, Wz_aZ, Wz_aL, Wz_aN, Wz_aR, Wz_tI, Wz_tZ, Wz_tL, Option.some.injEq, exists_eq_left', zB_0, zB_1, true_and, and_true, true_implies, not_true_eq_false, false_implies, not_false_eq_true, Classical.not_not, gT hT, g3, g4.1, W_size g4, f1, f2, W_at g4 (τ := (rw1 τ.1 (T + 10) g, τ.2)) (show rw1 τ.1 (T + 10) g (T + 13 + 4 * r.toNat) 1 ≤ ((3 : Nat) : Int) by rw [f1]; omega)]
    refine ⟨by omega, fun e => ?_, fun e => ⟨by omega, ?_⟩⟩
    · refine hQ g ?_
      rw [show letN τ t r = j by omega]; exact hg
    · rw [if_pos (by omega)]
      have e4 := e3 j j0 (by omega)
      refine W8_mark hT e4.1.1 e4.1.2 ?_
      refine ⟨by omega, q _ (by omega) (by omega) (by omega) ?_⟩
      have es : mkL (letF τ t r) s (j.toNat + 1) = setF (mkL (letF τ t r) s j.toNat) (τ.1 (T + 13 + 4 * r.toNat + 1) j) := by
        show setF _ (letF τ t r ((j.toNat : Nat) : Int)) = _
        rw [ej]; unfold letF; rw [e4.2]
      rw [es]; exact eq61_set hg _
set_option maxRecDepth 100000 in
theorem W8_isMade {T : Nat} {τ : kzM} {g : Int → Int} {l : Int} (hT : isT T) (l0 : 1 ≤ l) (l1 : l ≤ 60) {Q : Int → kzM → Prop} (hQ : Q (if g l = 0 then 0 else 1) (rw1 τ.1 (T + 10) g, τ.2)) : Wz (Z8_isMade kdG0 T l) (rw1 τ.1 (T + 10) g, τ.2) Q := by
  have e : rw1 τ.1 (T + 10) g (T + 10) l = g l := by rw [rw1_eq, if_pos rfl]
  simp only [Z8_isMade_21, Z8_isMade_20, Z8_isMade, Z11_isLetter, W_within, zp_0, zB_zp, Wz_rt, Wz_cnd, Wz_lI, Wz_lW, Wz_lL, Wz_cl, Wz_cv, Wz_nz, Wz_gI, Wz_gR, Wz_sI, Wz_aI, Wz_aZ, Wz_aL, Wz_aN, Wz_aR, Wz_tI, Wz_tZ, Wz_tL, Option.some.injEq, exists_eq_left', zB_0, zB_1, true_and, and_true, true_implies, not_true_eq_false, false_implies, not_false_eq_true, Classical.not_not, gT hT, e]
  refine ⟨fun z => by omega, fun _ => ⟨by omega, fun z => ?_, fun z => ?_⟩⟩
  · rw [if_pos z] at hQ; exact hQ
  · rw [if_neg z] at hQ; exact hQ
set_option maxRecDepth 100000 in
theorem W8_joints_2 {T : Nat} {t : Int} {τ : kzM} {s : Int → Int} (hT : isT T) (h : I3j τ T t) (Q : Unit → kzM → Prop) (hQ : ∀ g, eq61 g (psF (jnA τ t) (jnB τ t) (jnC τ t) s (τ.1 (T + 7) 1).toNat) → Q () (rw1 τ.1 (T + 10) g, τ.2)) : ∀ (n : Nat) (j : Int) (g : Int → Int), 0 ≤ j → j ≤ τ.1 (T + 7) 1 → τ.1 (T + 7) 1 - j < (n : Int) → eq61 g (psF (jnA τ t) (jnB τ t) (jnC τ t) s j.toNat) → Wz (lp (fun _ _ _ => none) (Z8_markJoints_2B kdG0) n T j) (rw1 τ.1 (T + 10) g, τ.2) Q := by
  unfold I3j at h
  obtain ⟨h1, h2, h3, h4, h5⟩ := h
  have hT2 : T ≤ 220 := by rcases hT with rfl | rfl | rfl <;> omega
  intro n
  induction n with
  | zero => intro j; intros; omega
  | succ n ih =>
    intro j g j0 j1 j2 hg
    have q := ih (j + 1)
    rw [show (j + 1).toNat = j.toNat + 1 by omega] at q
    have ej : ((j.toNat : Nat) : Int) = j := Int.toNat_of_nonneg j0
    have f1 : rw1 τ.1 (T + 10) g (T + 7) 1 = τ.1 (T + 7) 1 := by rw [rw1_eq, if_neg (by omega)]
    have f3 : rw1 τ.1 (T + 10) g (T + 3) 1 = τ.1 (T + 3) 1 := by rw [rw1_eq, if_neg (by omega)]
    have f5 : rw1 τ.1 (T + 10) g (T + 5) 1 = τ.1 (T + 5) 1 := by rw [rw1_eq, if_neg (by omega)]
    have f4 : rw1 τ.1 (T + 10) g (T + 3 + 1) j = τ.1 (T + 4) j := by rw [rw1_eq, if_neg (by omega)]
    have f6 : rw1 τ.1 (T + 10) g (T + 5 + 1) j = τ.1 (T + 6) j := by rw [rw1_eq, if_neg (by omega)]
    have f8 : rw1 τ.1 (T + 10) g (T + 7 + 1) j = τ.1 (T + 8) j := by rw [rw1_eq, if_neg (by omega)]
    have es : psF (jnA τ t) (jnB τ t) (jnC τ t) s (j.toNat + 1) = if psF (jnA τ t) (jnB τ t) (jnC τ t) s j.toNat (jnA τ t j) ≠ 0 ∧ psF (jnA τ t) (jnB τ t) (jnC τ t) s j.toNat (jnB τ t j) ≠ 0 then setF (psF (jnA τ t) (jnB τ t) (jnC τ t) s j.toNat) (jnC τ t j) else psF (jnA τ t) (jnB τ t) (jnC τ t) s j.toNat := by
      show (if psF (jnA τ t) (jnB τ t) (jnC τ t) s j.toNat (jnA τ t ((j.toNat : Nat) : Int)) ≠ 0 ∧ psF (jnA τ t) (jnB τ t) (jnC τ t) s j.toNat (jnB τ t ((j.toNat : Nat) : Int)) ≠ 0 then setF (psF (jnA τ t) (jnB τ t) (jnC τ t) s j.toNat) (jnC τ t ((j.toNat : Nat) : Int)) else psF (jnA τ t) (jnB τ t) (jnC τ t) s j.toNat) = _
      rw [ej]
    rw [lp_succ]
    unfold Z8_markJoints_2B
    simp only [Z8_markJoints_55, Wz_rt, Wz_cnd, Wz_lI, Wz_lW, Wz_lL, Wz_cl, Wz_cv, Wz_nz, Wz_gI, Wz_gR, Wz_sI, Wz_aI, Wz_aZ, Wz_aL, Wz_aN, Wz_aR, Wz_tI, Wz_tZ, Wz_tL, Option.some.injEq, exists_eq_left', zB_0, zB_1, true_and, and_true, true_implies, not_true_eq_false, false_implies, not_false_eq_true, Classical.not_not, gT hT, (gT3 hT).1, (gT5 hT).1, (gT7 hT).1, W_size (gT7 hT), f1, f3, f5, f4, f6, f8, W_at (gT3 hT) (τ := (rw1 τ.1 (T + 10) g, τ.2)) (show rw1 τ.1 (T + 10) g (T + 3) 1 ≤ ((12 : Nat) : Int) by rw [f3]; omega), W_at (gT5 hT) (τ := (rw1 τ.1 (T + 10) g, τ.2)) (show rw1 τ.1 (T + 10) g (T + 5) 1 ≤ ((12 : Nat) : Int) by rw [f5]; omega)]
    refine ⟨fun e => ?_, fun e => ?_⟩
    · refine hQ g ?_
      rw [show τ.1 (T + 7) 1 = j by omega]; exact hg
    · rw [if_pos (by omega)]
      have e5 := h5 j j0 (by omega)
      have ea : g (τ.1 (T + 4) j) = psF (jnA τ t) (jnB τ t) (jnC τ t) s j.toNat (jnA τ t j) := by
        rw [hg _ (by omega) (by omega)]; unfold jnA; rw [e5.1.2]
      have eb : g (τ.1 (T + 6) j) = psF (jnA τ t) (jnB τ t) (jnC τ t) s j.toNat (jnB τ t j) := by
        rw [hg _ (by omega) (by omega)]; unfold jnB; rw [e5.2.1.2]
      refine W8_isMade hT e5.1.1.1 e5.1.1.2 ?_
      refine ⟨fun z => ⟨by omega, q _ (by omega) (by omega) (by omega) ?_⟩, fun z => ?_⟩
      · have z : g (τ.1 (T + 4) j) = 0 := by
          by_cases c : g (τ.1 (T + 4) j) = 0
          · exact c
          · rw [if_neg c] at z; exact absurd z (by decide)
        rw [es, if_neg (fun w => w.1 (by rw [← ea]; exact z))]; exact hg
      · have z : ¬g (τ.1 (T + 4) j) = 0 := fun c => z (by rw [if_pos c])
        rw [W_at (gT5 hT) (τ := (rw1 τ.1 (T + 10) g, τ.2)) (show rw1 τ.1 (T + 10) g (T + 5) 1 ≤ ((12 : Nat) : Int) by rw [f5]; omega)]
        simp only [f5, f6]
        rw [if_pos (by omega)]
        refine W8_isMade hT e5.2.1.1.1 e5.2.1.1.2 ?_
        refine ⟨fun y => ⟨by omega, q _ (by omega) (by omega) (by omega) ?_⟩, fun y => ?_⟩
        · have y : g (τ.1 (T + 6) j) = 0 := by
            by_cases c : g (τ.1 (T + 6) j) = 0
            · exact c
            · rw [if_neg c] at y; exact absurd y (by decide)
          rw [es, if_neg (fun w => w.2 (by rw [← eb]; exact y))]; exact hg
        · have y : ¬g (τ.1 (T + 6) j) = 0 := fun c => y (by rw [if_pos c])
          rw [W_at (gT7 hT) (τ := (rw1 τ.1 (T + 10) g, τ.2)) (show rw1 τ.1 (T + 10) g (T + 7) 1 ≤ ((12 : Nat) : Int) by rw [f1]; omega)]
          simp only [f1, f8]
          rw [if_pos (by omega)]
          refine W8_mark hT e5.2.2.1.1 e5.2.2.1.2 ?_
          refine ⟨by omega, q _ (by omega) (by omega) (by omega) ?_⟩
          rw [es, if_pos ⟨by rw [← ea]; exact z, by rw [← eb]; exact y⟩]
          have ec : τ.1 (T + 8) j = jnC τ t j := e5.2.2.2.symm
          rw [ec]; exact eq61_set hg _
set_option maxRecDepth 100000 in
theorem W8_rounds {T : Nat} {t : Int} {τ : kzM} {s : Int → Int} (hT : isT T) (h : I3j τ T t) (Q : Unit → kzM → Prop) (hQ : ∀ g, eq61 g (itF (jnA τ t) (jnB τ t) (jnC τ t) (τ.1 (T + 7) 1).toNat s (τ.1 (T + 7) 1).toNat) → Q () (rw1 τ.1 (T + 10) g, τ.2)) : ∀ (n : Nat) (j : Int) (g : Int → Int), 0 ≤ j → j ≤ τ.1 (T + 7) 1 → τ.1 (T + 7) 1 - j < (n : Int) → eq61 g (itF (jnA τ t) (jnB τ t) (jnC τ t) (τ.1 (T + 7) 1).toNat s j.toNat) → Wz (lp (fun _ _ _ => none) (Z8_markMade_52B kdG0) n T j) (rw1 τ.1 (T + 10) g, τ.2) Q := by
  have h' := h
  unfold I3j at h'
  have hT2 : T ≤ 220 := by rcases hT with rfl | rfl | rfl <;> omega
  intro n
  induction n with
  | zero => intro j; intros; omega
  | succ n ih =>
    intro j g j0 j1 j2 hg
    have q := ih (j + 1)
    rw [show (j + 1).toNat = j.toNat + 1 by omega] at q
    have f1 : rw1 τ.1 (T + 10) g (T + 7) 1 = τ.1 (T + 7) 1 := by rw [rw1_eq, if_neg (by omega)]
    rw [lp_succ]
    unfold Z8_markMade_52B
    simp only [Wz_rt, Wz_cnd, Wz_lI, Wz_lW, Wz_lL, Wz_cl, Wz_cv, Wz_nz, Wz_gI, Wz_gR, Wz_sI, Wz_aI, Wz_aZ, Wz_aL, Wz_aN, Wz_aR, Wz_tI, Wz_tZ, Wz_tL, Option.some.injEq, exists_eq_left', zB_0, zB_1, true_and, and_true, true_implies, not_true_eq_false, false_implies, not_false_eq_true, Classical.not_not, gT hT, (gT7 hT).1, W_size (gT7 hT), f1]
    refine ⟨fun e => ?_, fun e => ?_⟩
    · refine hQ g ?_
      rw [show (τ.1 (T + 7) 1) = j by omega] at hg ⊢; exact hg
    · unfold Z8_markJoints Z8_markJoints_2
      refine W8_joints_2 (t := t) (s := itF (jnA τ t) (jnB τ t) (jnC τ t) (τ.1 (T + 7) 1).toNat s j.toNat) hT h _ ?_ NN 0 g (by omega) (by omega) (by unfold NN; omega) hg
      intro g' hg'
      exact ⟨by omega, q g' (by omega) (by omega) (by omega) hg'⟩
set_option maxRecDepth 100000 in
theorem W8_rules_23 {T : Nat} {t : Int} {τ : kzM} (hT : isT T) (h : I3r τ T t) (hj : I3j τ T t) (Q : Unit → kzM → Prop) (hQ : ∀ g, eq61 g (itF (jnA τ t) (jnB τ t) (jnC τ t) (τ.1 (T + 7) 1).toNat (mad0 τ t (τ.1 T 2).toNat) (τ.1 (T + 7) 1).toNat) → Q () (rw1 τ.1 (T + 10) g, τ.2)) : ∀ (n : Nat) (j : Int) (g : Int → Int), 0 ≤ j → j ≤ τ.1 T 2 → τ.1 T 2 - j < (n : Int) → eq61 g (mad0 τ t j.toNat) → Wz (lp (fun _ _ _ => none) (Z8_markMade_23B kdG0) n T j) (rw1 τ.1 (T + 10) g, τ.2) Q := by
  have h' := h
  unfold I3r at h'
  obtain ⟨⟨h1, h2⟩, h3, h4⟩ := h'
  have hj' := hj
  unfold I3j at hj'
  have hT2 : T ≤ 220 := by rcases hT with rfl | rfl | rfl <;> omega
  intro n
  induction n with
  | zero => intro j; intros; omega
  | succ n ih =>
    intro j g j0 j1 j2 hg
    have q := ih (j + 1)
    rw [show (j + 1).toNat = j.toNat + 1 by omega] at q
    have ej : ((j.toNat : Nat) : Int) = j := Int.toNat_of_nonneg j0
    have f1 : rw1 τ.1 (T + 10) g T 2 = τ.1 T 2 := by rw [rw1_eq, if_neg (by omega)]
    have f2 : ∀ b x, b ≠ T + 10 → rw1 τ.1 (T + 10) g b x = τ.1 b x := fun b x hb => by rw [rw1_eq, if_neg hb]
    have hs : I3r (rw1 τ.1 (T + 10) g, τ.2) T t := h.cg (f2 _ _ (by omega)) (fun a j _ _ => f2 _ _ (by omega)) (f2 _ _ (by omega)) (fun r _ _ => ⟨f2 _ _ (by omega), f2 _ _ (by omega)⟩) (fun x _ _ => f2 _ _ (by omega)) (fun x _ _ => f2 _ _ (by omega))
    have hid : isIdleP (rw1 τ.1 (T + 10) g, τ.2) t j ↔ isIdleP τ t j := isIdleP_cg (fun x => f2 _ _ (by omega)) (fun x => f2 _ _ (by omega))
    rw [lp_succ]
    unfold Z8_markMade_23B
    simp only [Z8_markMade_44, Wz_rt, Wz_cnd, Wz_lI, Wz_lW, Wz_lL, Wz_cl, Wz_cv, Wz_nz, Wz_gI, Wz_gR, Wz_sI, Wz_aI, Wz_aZ, Wz_aL, Wz_aN, Wz_aR, Wz_tI, Wz_tZ, Wz_tL, Option.some.injEq, exists_eq_left', zB_0, zB_1, true_and, and_true, true_implies, not_true_eq_false, false_implies, not_false_eq_true, Classical.not_not, gT hT, f1]
    refine ⟨fun e => ?_, fun e => W8_isIdle hT hs j0 (by dsimp only; rw [f1]; omega) ?_⟩
    · unfold Z8_markMade_52
      refine W8_rounds (t := t) (s := mad0 τ t (τ.1 T 2).toNat) hT hj Q hQ NN 0 g (by omega) (by omega) (by unfold NN; omega) ?_
      rw [show (τ.1 T 2) = j by omega]; exact hg
    · rw [zp_iff hid, zp_0]
      have e1 := (h4 j j0 (by omega)).2
      unfold eqR at e1
      have eN : letN τ t j = τ.1 (T + 13 + 4 * j.toNat) 1 := e1.2.1
      refine ⟨fun z => ?_, fun z => ⟨by omega, q g (by omega) (by omega) (by omega) ?_⟩⟩
      · unfold Z8_markLettersOf Z8_markLettersOf_2
        refine W8_letters_2 (s := mad0 τ t j.toNat) hT h j0 (by omega) _ ?_ NN 0 g (by omega) (by omega) (by unfold NN; omega) hg
        intro g' hg'
        refine ⟨by omega, q g' (by omega) (by omega) (by omega) ?_⟩
        have es : mad0 τ t (j.toNat + 1) = mkL (letF τ t j) (mad0 τ t j.toNat) (letN τ t j).toNat := by
          unfold mad0
          rw [mkR_neg (by rw [ej]; exact z), ej]
        rw [es]; exact hg'
      · have es : mad0 τ t (j.toNat + 1) = mad0 τ t j.toNat := by
          unfold mad0
          rw [mkR_pos (by rw [ej]; exact Classical.not_not.mp z)]
        rw [es]; exact hg
set_option maxRecDepth 100000 in
theorem W8_markMade {T : Nat} {t : Int} {τ : kzM} (hT : isT T) (h : I3r τ T t) (hj : I3j τ T t) (Q : Unit → kzM → Prop) (hQ : ∀ g, eq61 g (itF (jnA τ t) (jnB τ t) (jnC τ t) (τ.1 (T + 7) 1).toNat (mad0 τ t (τ.1 T 2).toNat) (τ.1 (T + 7) 1).toNat) → Q () (rw1 τ.1 (T + 10) g, τ.2)) : ∀ (n : Nat) (j : Int) (g : Int → Int), 0 ≤ j → j ≤ 61 → 61 - j < (n : Int) → (∀ x, 0 ≤ x → x < j → g x = 0) → Wz (lp (fun _ _ _ => none) (Z8_markMade_2B kdG0) n T j) (rw1 τ.1 (T + 10) g, τ.2) Q := by
  have h' := h
  unfold I3r at h'
  intro n
  induction n with
  | zero => intro j; intros; omega
  | succ n ih =>
    intro j g j0 j1 j2 hg
    rw [lp_succ]
    unfold Z8_markMade_2B
    simp only [Wz_rt, Wz_cnd, Wz_lI, Wz_lW, Wz_lL, Wz_cl, Wz_cv, Wz_nz, Wz_gI, Wz_gR, Wz_sI, Wz_aI, Wz_aZ, Wz_aL, Wz_aN, Wz_aR, Wz_tI, Wz_tZ, Wz_tL, Option.some.injEq, exists_eq_left', zB_0, zB_1, true_and, and_true, true_implies, not_true_eq_false, false_implies, not_false_eq_true, Classical.not_not, gT hT, v2_rw1]
    refine ⟨fun e => ?_, fun e => ⟨by omega, by omega, ih _ _ (by omega) (by omega) (by omega) fun x x0 x1 => ?_⟩⟩
    · unfold Z8_markMade_23
      exact W8_rules_23 hT h hj Q hQ NN 0 g (by omega) h'.1.1 (by unfold NN; omega) (fun x x0 x1 => hg x x0 (by omega))
    · split
      · rfl
      · exact hg x x0 (by omega)
set_option maxRecDepth 100000 in
theorem W8_missing_8 {T : Nat} {i : Int} {σ : kzM} (hT : isT T) (Q : Int → kzM → Prop) : ∀ (n : Nat) (l c : Int), 1 ≤ l → l ≤ 61 → 61 - l < (n : Int) → 0 ≤ c → c ≤ l → Q (mS (fun l => ¬σ.1 (T + 9) l = 0 ∧ σ.1 (T + 10) l = 0) i (61 - l).toNat l c) σ → Wz (lp (fun _ _ _ _ _ => none) (Z8_missingAt_8B kdG0) n T i c l) σ Q := by
  intro n
  induction n with
  | zero => intro l c; intros; omega
  | succ n ih =>
    intro l c l0 l1 l2 c0 c1 hQ
    rw [lp_succ]
    unfold Z8_missingAt_8B
    simp only [Z8_missingAt_42, Z8_missingAt_59, Wz_rt, Wz_cnd, Wz_lI, Wz_lW, Wz_lL, Wz_cl, Wz_cv, Wz_nz, Wz_gI, Wz_gR, Wz_sI, Wz_aI, Wz_aZ, Wz_aL, Wz_aN, Wz_aR, Wz_tI, Wz_tZ, Wz_tL, Option.some.injEq, exists_eq_left', zB_0, zB_1, true_and, and_true, true_implies, not_true_eq_false, false_implies, not_false_eq_true, Classical.not_not, gT hT]
    refine ⟨fun e => ?_, fun e => ⟨by omega, ?_⟩⟩
    · rw [show (61 - l).toNat = 0 by omega] at hQ
      unfold mS at hQ
      refine ⟨fun z => ?_, fun z => ?_⟩
      · rw [if_pos z] at hQ; exact hQ
      · rw [if_neg z] at hQ; exact hQ
    · rw [show (61 - l).toNat = (61 - (l + 1)).toNat + 1 by omega] at hQ
      refine ⟨fun z => ⟨by omega, ih _ _ (by omega) (by omega) (by omega) c0 (by omega) ?_⟩, fun z => ⟨by omega, fun y => ⟨fun x => ?_, fun x => ⟨by omega, by omega, ih _ _ (by omega) (by omega) (by omega) (by omega) (by omega) ?_⟩⟩, fun y => ⟨by omega, ih _ _ (by omega) (by omega) (by omega) c0 (by omega) ?_⟩⟩⟩
      · rw [mS_neg (fun w => w.1 z)] at hQ; exact hQ
      · rw [mS_pos ⟨z, y⟩, if_pos x] at hQ; exact hQ
      · rw [mS_pos ⟨z, y⟩, if_neg x] at hQ; exact hQ
      · rw [mS_neg (fun w => y w.2)] at hQ; exact hQ
