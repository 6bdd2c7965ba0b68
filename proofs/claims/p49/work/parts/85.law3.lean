/-! the law's third piece: what each learning is worth, by the law's own fading -/
/-- the other object: what is never forgotten -/
def Po (τ : kzM) (n f fg m other : Int) (H W D : Int → Int) : Prop := ∃ ph pw pd, Ob (V 612 τ) 0 n f 1 B100 other ph pw pd ∧ Kept H W D fg m ph pw pd
theorem Po.fr {τ τ' : kzM} {n f fg m other : Int} {H W D : Int → Int} (h : FrS 0 τ τ') (q : Po τ n f fg m other H W D) : Po τ' n f fg m other H W D := by
  obtain ⟨ph, pw, pd, q1, q2⟩ := q
  exact ⟨ph, pw, pd, q1.p h, q2⟩
theorem Po.row {τ : kzM} {n f fg m other : Int} {H W D : Int → Int} {a : Nat} (ha : 1224 ≤ a) {j v : Int} (q : Po τ n f fg m other H W D) : Po (v2 τ.1 a j v, τ.2) n f fg m other H W D := by
  obtain ⟨ph, pw, pd, q1, q2⟩ := q
  exact ⟨ph, pw, pd, q1.row (by decide) ha, q2⟩
/-- the worths found so far: of all hands before hh, and of hh the words before ww -/
def W1 (τ : kzM) (n f fg m other on : Int) (H W D : Int → Int) (hh ww : Int) : Prop :=
  (τ.1 1224 = H ∧ τ.1 1225 = W ∧ τ.1 1226 = D) ∧ Ob (V 0 τ) 0 n f 1 B100 m H W D ∧ Po τ n f fg m other H W D ∧
  ∀ h w, 0 ≤ h → h < 4 → 0 ≤ w → w < n → (h < hh ∨ (h = hh ∧ w < ww)) → τ.1 1228 (8 * h + w) = wrt f m H W D h w on
theorem wrt_b {f m : Int} {H W D : Int → Int} {h w d : Int} (f0 : 0 ≤ f) (f1 : f ≤ 1000) (k : Nat) : 0 ≤ wS (pW H W D f h w d) k ∧ wS (pW H W D f h w d) k ≤ 1000 * k := by
  have b := fun n => fadeN_b f0 f1 n
  exact wS_b (p := pW H W D f h w d) (m := 1000) k (fun k _ _ => by
    unfold pW; split
    · exact b _
    · omega)
theorem wS_next (p : Int → Int) {k : Int} (k0 : 0 ≤ k) : wS p (k + 1).toNat = wS p k.toNat + p k := by
  rw [show (k + 1).toNat = k.toNat + 1 by omega]
  show _ + p ((k.toNat : Nat) : Int) = _
  rw [Int.toNat_of_nonneg k0]
section LW3
variable {xs : Nat → Int32} {N : Nat} {e : Nat} {n f fg m other on : Int} {H W D : Int → Int} {Q : Unit → kzM → Prop}
set_option maxRecDepth 100000 in
theorem l_403 (he : 1229 ≤ e) (f0 : 0 ≤ f) (f1 : f ≤ 1000) (o1 : on ≤ 59) {τ : kzM} (r0 : τ.1 1224 = H) (r1 : τ.1 1225 = W) (r2 : τ.1 1226 = D) {h w s k : Int} (k0 : 0 ≤ k) (k1 : k < 15) (s0 : 0 ≤ s) (s1 : s ≤ 15000) (d0 : 0 ≤ D k) (d1 : D k ≤ 75) {k363 : Nat → Nat → Int → Int → Int → Nat → Nat → Nat → Int → Int → Int → Nat → Int → kzM → Option (Unit × kzM)} {k372 : Nat → Nat → Int → Int → Int → Nat → Nat → Nat → Int → Int → Int → Nat → Int → Int → kzM → Option (Unit × kzM)} {k384 : Nat → Nat → Int → Int → Int → Nat → Nat → Nat → Int → Int → Int → Nat → Int → Int → Int → Int → kzM → Option (Unit × kzM)} {k776 : Nat → Nat → Int → Int → Int → Int → Int → Nat → Int → kzM → Option (Unit × kzM)}
    (hk : Wz (k384 0 612 n f m 1224 1225 1226 fg other on 1228 h w (s + pW H W D f h w on k) (k + 1)) τ Q) : ∀ (M : Nat) (d : Int), D k ≤ d → (d ≤ on ∨ d = D k) → on - d < (M : Int) → 0 < M → Wz (lp (fun _ _ _ _ _ _ _ _ _ _ _ _ _ _ _ _ _ _ _ => none) (ZL_law_403B (kdGe e) xs N k363 k372 k384 k776) M 0 612 n f m 1224 1225 1226 fg other on 1228 h w s k (fadeN f (d - D k).toNat) d) τ Q := by
  have ge0 := lge_0 (e := e) (by omega)
  have ge1 := lge_1 (e := e) (by omega)
  have ge2 := lge_2 (e := e) (by omega)
  have b := fadeN_b f0 f1 (on - D k).toNat
  have s465 : ∀ v, v = pW H W D f h w on k → 0 ≤ v → v ≤ 1000 → Wz (ZL_law_465 (kdGe e) xs N k363 k372 k384 k776 0 612 n f m 1224 1225 1226 fg other on 1228 h w k s v) τ Q := fun v hv v0 v1 => by
    simp only [ZL_law_465, Wz_rt, Wz_cnd, Wz_lI, Wz_lW, Wz_lL, Wz_cl, Wz_cv, Wz_nz, Wz_gI, Wz_gR, Wz_sI, Wz_aI, Wz_aZ, Wz_aL, Wz_aN, Wz_aR, Wz_tI, Wz_tZ, Wz_tL, Option.some.injEq, exists_eq_left', zB_0, zB_1, true_and, and_true, true_implies, not_true_eq_false, false_implies, not_false_eq_true, Classical.not_not]
    rw [hv] at v0 v1 ⊢
    exact ⟨by omega, by omega, hk⟩
  intro M
  induction M with
  | zero => intro d; intros; omega
  | succ M ih =>
    intro d e0 e1 e2 _
    rw [lp_succ]
    generalize lp (fun _ _ _ _ _ _ _ _ _ _ _ _ _ _ _ _ _ _ _ => none) (ZL_law_403B (kdGe e) xs N k363 k372 k384 k776) M = L at ih ⊢
    unfold ZL_law_403B
    simp only [ZL_law_464, Wz_rt, Wz_cnd, Wz_lI, Wz_lW, Wz_lL, Wz_cl, Wz_cv, Wz_nz, Wz_gI, Wz_gR, Wz_sI, Wz_aI, Wz_aZ, Wz_aL, Wz_aN, Wz_aR, Wz_tI, Wz_tZ, Wz_tL, Option.some.injEq, exists_eq_left', zB_0, zB_1, true_and, and_true, true_implies, not_true_eq_false, false_implies, not_false_eq_true, Classical.not_not, ge0, ge1, ge2, r0, r1, r2]
    refine ⟨fun c => ⟨⟨by omega, by omega⟩, fun c1 => ⟨⟨by omega, by omega⟩, fun c2 => ⟨⟨by omega, by omega⟩, fun c3 => ?_, fun c3 => ?_⟩, fun c2 => ?_⟩, fun c1 => ?_⟩, fun c => ⟨by decide, ?_⟩⟩
    · exact s465 0 (by unfold pW; rw [if_neg (by omega)]) (by omega) (by omega)
    · rw [show d = on by omega]
      exact s465 _ (by unfold pW; rw [if_pos ⟨c1, c2, by omega⟩]) b.1 b.2
    · exact s465 0 (by unfold pW; rw [if_neg (fun z => c2 z.2.1)]) (by omega) (by omega)
    · exact s465 0 (by unfold pW; rw [if_neg (fun z => c1 z.1)]) (by omega) (by omega)
    · have mm := fadeN_m f0 f1 (d - D k).toNat
      have b2 := fadeN_b f0 f1 ((d - D k).toNat + 1)
      have e3 : fadeN f ((d - D k).toNat + 1) = (fadeN f (d - D k).toNat * f).tdiv 1000 := rfl
      have q := ih (d + 1) (by omega) (by omega) (by omega) (by omega)
      rw [show (d + 1 - D k).toNat = (d - D k).toNat + 1 by omega, e3] at q
      rw [e3] at b2
      exact ⟨by omega, by omega, by omega, q⟩
set_option maxRecDepth 100000 in
theorem l_384 (he : 1229 ≤ e) (n2 : 2 ≤ n) (n6 : n ≤ 6) (f0 : 0 ≤ f) (f1 : f ≤ 1000) (o0 : 0 ≤ on) (o1 : on ≤ 59) (m0 : 0 ≤ m) (m1 : m ≤ 15) (hD : ∀ j, 0 ≤ j → j < m → 0 ≤ D j ∧ D j ≤ 75) {τ : kzM} {h w : Int} (h0 : 0 ≤ h) (h1 : h < 4) (w0 : 0 ≤ w) (w1 : w < n) (hs : W1 τ n f fg m other on H W D h w) {k363 : Nat → Nat → Int → Int → Int → Nat → Nat → Nat → Int → Int → Int → Nat → Int → kzM → Option (Unit × kzM)} {k372 : Nat → Nat → Int → Int → Int → Nat → Nat → Nat → Int → Int → Int → Nat → Int → Int → kzM → Option (Unit × kzM)} {k776 : Nat → Nat → Int → Int → Int → Int → Int → Nat → Int → kzM → Option (Unit × kzM)}
    (hk : ∀ τ', W1 τ' n f fg m other on H W D h (w + 1) → Wz (k372 0 612 n f m 1224 1225 1226 fg other on 1228 h (w + 1)) τ' Q) : ∀ (M : Nat) (k : Int), 0 ≤ k → k ≤ m → m - k < (M : Int) → Wz (lp (fun _ _ _ _ _ _ _ _ _ _ _ _ _ _ _ _ _ => none) (ZL_law_384B (kdGe e) xs N k363 k372 k776) M 0 612 n f m 1224 1225 1226 fg other on 1228 h w (wS (pW H W D f h w on) k.toNat) k) τ Q := by
  have hO := okO_0 e
  have ge2 := lge_2 (e := e) (by omega)
  have ge4 := lge_4 (e := e) (by omega)
  obtain ⟨⟨r0, r1, r2⟩, ho, hp, hw⟩ := hs
  intro M
  induction M with
  | zero => intro k; intros; omega
  | succ M ih =>
    intro k k0 k1 k2
    rw [lp_succ]
    generalize lp (fun _ _ _ _ _ _ _ _ _ _ _ _ _ _ _ _ _ => none) (ZL_law_384B (kdGe e) xs N k363 k372 k776) M = L at ih ⊢
    unfold ZL_law_384B
    have sb := wrt_b (m := m) (H := H) (W := W) (D := D) (h := h) (w := w) (d := on) f0 f1 k.toNat
    simp only [Wz_rt, Wz_cnd, Wz_lI, Wz_lW, Wz_lL, Wz_cl, Wz_cv, Wz_nz, Wz_gI, Wz_gR, Wz_sI, Wz_aI, Wz_aZ, Wz_aL, Wz_aN, Wz_aR, Wz_tI, Wz_tZ, Wz_tL, Option.some.injEq, exists_eq_left', zB_0, zB_1, true_and, and_true, true_implies, not_true_eq_false, false_implies, not_false_eq_true, Classical.not_not, ge2, ge4, r2]
    refine ⟨fun c => ⟨⟨by omega, by omega⟩, hO.k, ?_⟩, fun c => ⟨⟨by omega, by omega⟩, ?_⟩⟩
    · have km : k = m := by omega
      subst km
      refine t_worth hO (ho.row (by decide) (by decide)) (by omega) ⟨w0, w1⟩ (by omega) fun τ' hf q => ⟨fun _ => ⟨by omega, ?_⟩, fun z => absurd rfl z⟩
      refine hk τ' ⟨⟨?_, ?_, ?_⟩, q, (hp.row (by decide)).fr hf, fun h' w' h0' h1' w0' w1' hc => ?_⟩
      · rw [hf.r0 (by decide)]; dsimp only; rw [v2_off (by decide)]; exact r0
      · rw [hf.r0 (by decide)]; dsimp only; rw [v2_off (by decide)]; exact r1
      · rw [hf.r0 (by decide)]; dsimp only; rw [v2_off (by decide)]; exact r2
      · rw [hf.r0 (by decide)]; dsimp only; rw [v2_up]
        by_cases c2 : h' = h ∧ w' = w
        · rw [c2.1, c2.2, up_s]; rfl
        · rw [up_n (by omega)]
          exact hw h' w' h0' h1' w0' w1' (by omega)
    · unfold ZL_law_403
      have dd := hD k k0 (by omega)
      have q := l_403 (xs := xs) (N := N) (H := H) (W := W) (D := D) (n := n) (m := m) (fg := fg) (other := other) (on := on) (k363 := k363) (k372 := k372) (k384 := L) (k776 := k776) (h := h) (w := w) (s := wS (pW H W D f h w on) k.toNat) (Q := Q) he f0 f1 o1 r0 r1 r2 k0 (by omega) sb.1 (by omega) dd.1 dd.2 (by rw [← wS_next _ k0]; exact ih (k + 1) (by omega) (by omega) (by omega)) NN (D k) (Int.le_refl _) (Or.inr rfl) (by unfold NN; omega) (by unfold NN; omega)
      rw [show (D k - D k).toNat = 0 by omega] at q
      exact q
set_option maxRecDepth 100000 in
theorem l_372 (he : 1229 ≤ e) (n2 : 2 ≤ n) (n6 : n ≤ 6) (f0 : 0 ≤ f) (f1 : f ≤ 1000) (o0 : 0 ≤ on) (o1 : on ≤ 59) (m0 : 0 ≤ m) (m1 : m ≤ 15) (hD : ∀ j, 0 ≤ j → j < m → 0 ≤ D j ∧ D j ≤ 75) {h : Int} (h0 : 0 ≤ h) (h1 : h < 4) {k363 : Nat → Nat → Int → Int → Int → Nat → Nat → Nat → Int → Int → Int → Nat → Int → kzM → Option (Unit × kzM)} {k776 : Nat → Nat → Int → Int → Int → Int → Int → Nat → Int → kzM → Option (Unit × kzM)}
    (hk : ∀ τ', W1 τ' n f fg m other on H W D (h + 1) 0 → Wz (k363 0 612 n f m 1224 1225 1226 fg other on 1228 (h + 1)) τ' Q) : ∀ (M : Nat) (w : Int) (τ : kzM), 0 ≤ w → w ≤ n → n - w < (M : Int) → W1 τ n f fg m other on H W D h w → Wz (lp (fun _ _ _ _ _ _ _ _ _ _ _ _ _ _ _ => none) (ZL_law_372B (kdGe e) xs N k363 k776) M 0 612 n f m 1224 1225 1226 fg other on 1228 h w) τ Q := by
  intro M
  induction M with
  | zero => intro k; intros; omega
  | succ M ih =>
    intro w τ w0 w1 w2 hs
    rw [lp_succ]
    generalize lp (fun _ _ _ _ _ _ _ _ _ _ _ _ _ _ _ => none) (ZL_law_372B (kdGe e) xs N k363 k776) M = L at ih ⊢
    unfold ZL_law_372B
    simp only [Wz_rt, Wz_cnd, Wz_lI, Wz_lW, Wz_lL, Wz_cl, Wz_cv, Wz_nz, Wz_gI, Wz_gR, Wz_sI, Wz_aI, Wz_aZ, Wz_aL, Wz_aN, Wz_aR, Wz_tI, Wz_tZ, Wz_tL, Option.some.injEq, exists_eq_left', zB_0, zB_1, true_and, and_true, true_implies, not_true_eq_false, false_implies, not_false_eq_true, Classical.not_not]
    refine ⟨fun c => ⟨by omega, ?_⟩, fun c => ?_⟩
    · obtain ⟨s1, s2, s3, s4⟩ := hs
      exact hk τ ⟨s1, s2, s3, fun h' w' a1 a2 a3 a4 a5 => s4 h' w' a1 a2 a3 a4 (by omega)⟩
    · unfold ZL_law_384
      exact l_384 he n2 n6 f0 f1 o0 o1 m0 m1 hD h0 h1 w0 (by omega) hs (fun τ' q => ih (w + 1) τ' (by omega) (by omega) (by omega) q) NN 0 (by omega) m0 (by unfold NN; omega)
end LW3
