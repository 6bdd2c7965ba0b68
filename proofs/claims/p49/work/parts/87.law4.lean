/-! the law's last piece: budgets, shares with lots, what is forgotten -/
theorem ckF_all {fh fw : Int → Int} {h w : Int} : ∀ M : Nat, (∀ y : Int, 0 ≤ y → y < M → ¬(fh y = h ∧ (w = -1 ∨ fw y = w))) → ckF fh fw h w M = M
  | 0, _ => rfl
  | M + 1, e => by
    rw [ckF_1, if_neg (e M (by omega) (by omega)), ckF_all M (fun y y0 y1 => e y y0 (by omega))]
    omega
theorem Ob.xr {τ : kzM} {pd n f x : Int} {B : Int → Int} {m : Int} {fh fw fd : Int → Int} (q : Ob τ pd n f x B m fh fw fd) : 0 ≤ x ∧ x ≤ 2147483646 := by
  have i11 := q.1.2.2.2.2.2.2.2.1.2
  unfold I8b at i11
  have e := q.2.2.2.2.1
  have := i11.2.1.1
  omega
def S4 (τ : kzM) (n f fg m other on x : Int) (BU H W D : Int → Int) : Prop :=
  (∃ pd, Ob (V 0 τ) pd n f x BU m H W D) ∧ Po τ n f fg m other H W D ∧ (∀ h w, 0 ≤ h → h < 4 → 0 ≤ w → w < n → τ.1 1228 (8 * h + w) = wrt f m H W D h w on) ∧ ∀ k, 0 ≤ k → k < 4 → τ.1 1229 k = BU k ∧ 0 ≤ BU k ∧ BU k ≤ 1000
section LW6
variable {xs : Nat → Int32} {N : Nat} {e : Nat} {n f fg m other on : Int} {H W D : Int → Int} {Q : Unit → kzM → Prop}
set_option maxRecDepth 100000 in
theorem l_1173 (n6 : n ≤ 6) (o0 : 0 ≤ on) (o1 : on ≤ 59) {x x' pd pd' : Int} {B B' : Int → Int} {fh fw fd : Int → Int} {h : Int} (h0 : 0 ≤ h) (h1 : h < 4) {k1164 : Nat → Nat → Int → Int → Int → kzM → Option (Unit × kzM)}
    (hk : ∀ τ', Ob (V 0 τ') pd n f x B other fh fw fd → Ob (V 612 τ') pd' n f x' B' other fh fw fd → Wz (k1164 0 612 n on (h + 1)) τ' Q) : ∀ (M : Nat) (w : Int) (τ : kzM), 0 ≤ w → w ≤ n → n - w < (M : Int) → Ob (V 0 τ) pd n f x B other fh fw fd → Ob (V 612 τ) pd' n f x' B' other fh fw fd → Wz (lp (fun _ _ _ _ _ _ _ => none) (ZL_law_1173B (kdGe e) xs N k1164) M 0 612 n on h w) τ Q := by
  have hO := okO_0 e
  have hP := okO_1 e
  intro M
  induction M with
  | zero => intro k; intros; omega
  | succ M ih =>
    intro w τ w0 w1 w2 q1 q2
    rw [lp_succ]
    generalize lp (fun _ _ _ _ _ _ _ => none) (ZL_law_1173B (kdGe e) xs N k1164) M = L at ih ⊢
    unfold ZL_law_1173B
    simp only [Wz_rt, Wz_cnd, Wz_lI, Wz_lW, Wz_lL, Wz_cl, Wz_cv, Wz_nz, Wz_gI, Wz_gR, Wz_sI, Wz_aI, Wz_aZ, Wz_aL, Wz_aN, Wz_aR, Wz_tI, Wz_tZ, Wz_tL, Option.some.injEq, exists_eq_left', zB_0, zB_1, true_and, and_true, true_implies, not_true_eq_false, false_implies, not_false_eq_true, Classical.not_not]
    refine ⟨fun c => ⟨by omega, hk τ q1 q2⟩, fun c => ⟨hO.k, ?_⟩⟩
    refine t_worth hO q1 ⟨h0, by omega⟩ ⟨w0, by omega⟩ (by omega) fun τ1 hf1 r1 => ⟨hP.k, ?_⟩
    refine t_worth hP (q2.p hf1) ⟨h0, by omega⟩ ⟨w0, by omega⟩ (by omega) fun τ2 hf2 r2 => ?_
    exact ⟨fun _ => ⟨by omega, ih (w + 1) τ2 (by omega) (by omega) (by omega) (r1.o hf2) r2⟩, fun z => absurd rfl z⟩
set_option maxRecDepth 100000 in
theorem l_1164 (n0 : 0 ≤ n) (n6 : n ≤ 6) (o0 : 0 ≤ on) (o1 : on ≤ 59) {x x' pd pd' : Int} {B B' : Int → Int} {fh fw fd : Int → Int} (hQ : ∀ τ', Q () τ') : ∀ (M : Nat) (h : Int) (τ : kzM), 0 ≤ h → h ≤ 4 → 4 - h < (M : Int) → Ob (V 0 τ) pd n f x B other fh fw fd → Ob (V 612 τ) pd' n f x' B' other fh fw fd → Wz (lp (fun _ _ _ _ _ _ => none) (ZL_law_1164B (kdGe e) xs N) M 0 612 n on h) τ Q := by
  have hO := okO_0 e
  have hP := okO_1 e
  intro M
  induction M with
  | zero => intro k; intros; omega
  | succ M ih =>
    intro h τ h0 h1 h2 q1 q2
    rw [lp_succ]
    generalize lp (fun _ _ _ _ _ _ => none) (ZL_law_1164B (kdGe e) xs N) M = L at ih ⊢
    unfold ZL_law_1164B
    simp only [ZL_law_1236, Wz_rt, Wz_cnd, Wz_lI, Wz_lW, Wz_lL, Wz_cl, Wz_cv, Wz_nz, Wz_gI, Wz_gR, Wz_sI, Wz_aI, Wz_aZ, Wz_aL, Wz_aN, Wz_aR, Wz_tI, Wz_tZ, Wz_tL, Option.some.injEq, exists_eq_left', zB_0, zB_1, true_and, and_true, true_implies, not_true_eq_false, false_implies, not_false_eq_true, Classical.not_not]
    refine ⟨fun c => ⟨hO.k, ?_⟩, fun c => ?_⟩
    · refine t_forget hO q1 (by omega) (Or.inl rfl) fun τ1 a1 a2 a3 hf1 r1 _ => ⟨hP.k, ?_⟩
      refine t_forget hP (q2.p hf1) (by omega) (Or.inl rfl) fun τ2 b1 b2 b3 hf2 r2 _ => ?_
      exact ⟨fun _ => hQ τ2, fun z => absurd rfl z⟩
    · unfold ZL_law_1173
      exact l_1173 n6 o0 o1 h0 (by omega) (fun τ' r1 r2 => ih (h + 1) τ' (by omega) (by omega) (by omega) r1 r2) NN 0 τ (by omega) n0 (by unfold NN; omega) q1 q2
set_option maxRecDepth 100000 in
theorem l_fin (n2 : 2 ≤ n) (n6 : n ≤ 6) (g0 : 0 ≤ fg) (g1 : fg < n) (o0 : 0 ≤ on) (o1 : on ≤ 59) (m0 : 0 ≤ m) (m1 : m ≤ 15) (hot : other = ckF H W 0 fg m.toNat) {x pd : Int} {BU : Int → Int} {τ : kzM} (q1 : Ob (V 0 τ) pd n f x BU m H W D) (hp : Po τ n f fg m other H W D) (hQ : ∀ τ', Q () τ') :
    Wz (zcv (kdGe e) 11 0 (Z11_forget (kdGe e) 0 (0 : Int) fg) fun t1 => zlI (m - other) fun u1 => zcnd (t1 = u1) (zcv (kdGe e) 11 0 (Z11_told (kdGe e) 0 (7 : Int)) fun t2 => zcv (kdGe e) 11 612 (Z11_told (kdGe e) 612 (7 : Int)) fun t3 => zcnd (t2 = t3) (zcv (kdGe e) 11 0 (Z11_forget (kdGe e) 0 (0 : Int) fg) fun t4 => zcnd (t4 = (0 : Int)) (ZL_law_1164 (kdGe e) xs N 0 612 n on (0 : Int)) (ZL_law_1159 (kdGe e) xs N)) (ZL_law_1159 (kdGe e) xs N)) (ZL_law_1159 (kdGe e) xs N)) τ Q := by
  have hO := okO_0 e
  have hP := okO_1 e
  have ck := ckF_b (fh := H) (fw := W) (h := 0) (w := fg) m.toNat
  obtain ⟨ph, pw, pdd, p1, p2⟩ := hp
  simp only [Wz_rt, Wz_cnd, Wz_lI, Wz_lW, Wz_lL, Wz_cl, Wz_cv, Wz_nz, Wz_gI, Wz_gR, Wz_sI, Wz_aI, Wz_aZ, Wz_aL, Wz_aN, Wz_aR, Wz_tI, Wz_tZ, Wz_tL, Option.some.injEq, exists_eq_left', zB_0, zB_1, true_and, and_true, true_implies, not_true_eq_false, false_implies, not_false_eq_true, Classical.not_not]
  refine ⟨hO.k, t_forget hO q1 (by omega) (Or.inr ⟨g0, g1⟩) fun τ1 a1 a2 a3 hf1 r1 kp => ⟨by omega, fun _ => ⟨hO.k, ?_⟩, fun z => by omega⟩⟩
  rw [← hot] at r1
  -- what is left is what the other object holds
  have same : ∀ y, 0 ≤ y → y < other → (a1 y = ph y ∧ a2 y = pw y ∧ a3 y = pdd y) ∧ ¬(ph y = 0 ∧ (fg = -1 ∨ pw y = fg)) := fun y y0 y1 => by
    obtain ⟨j, j1, j2, j3⟩ := ckF_s _ y y0 (by rw [← hot]; exact y1)
    have u := kp j (by omega) (by omega) j2
    have v := p2 j (by omega) (by omega) j2
    rw [show ((j : Int)).toNat = j from Int.toNat_natCast j, j3] at u v
    rw [u.1, u.2.1, u.2.2, v.1, v.2.1, v.2.2]
    exact ⟨⟨rfl, rfl, rfl⟩, j2⟩
  have r1 := r1.lc (fun y y0 y1 => (same y y0 y1).1)
  have all : ckF ph pw 0 fg other.toNat = other := by
    rw [ckF_all _ (fun y y0 y1 => (same y y0 (by omega)).2)]
    omega
  refine t_told7 hO r1 fun τ2 hf2 r2 => ⟨hP.k, ?_⟩
  refine t_told7 hP ((p1.p hf1).p hf2) fun τ3 hf3 s3 => ⟨fun _ => ⟨hO.k, ?_⟩, fun z => absurd rfl z⟩
  refine t_forget hO (r2.o hf3) (by omega) (Or.inr ⟨g0, g1⟩) fun τ4 b1 b2 b3 hf4 r4 kp4 => ⟨fun _ => ?_, fun z => by omega⟩
  rw [all] at r4
  have r4 := r4.lc (fh' := ph) (fw' := pw) (fd' := pdd) (fun y y0 y1 => by
    have u := kp4 y y0 y1 (same y y0 y1).2
    have w : ckF ph pw 0 fg y.toNat = y := by
      rw [ckF_all _ (fun z z0 z1 => (same z z0 (by omega)).2)]; omega
    rw [w] at u
    exact u)
  unfold ZL_law_1164
  exact l_1164 (by omega) n6 o0 o1 hQ NN 0 τ4 (by omega) (by omega) (by unfold NN; omega) r4 (s3.p hf4)
set_option maxRecDepth 100000 in
theorem l_1058 (he : 1230 ≤ e) {x x2 ee r : Int} (e0 : 1 ≤ ee) (e1 : ee ≤ 100) (r0 : 0 ≤ r) (r1 : r < 6) {BU : Int → Int} (hb : ∀ k, 0 ≤ k → k < 4 → 0 ≤ BU k ∧ BU k ≤ 1000) {k840 : Nat → Nat → Int → Int → Int → Int → Int → Nat → Nat → Int → Int → kzM → Option (Unit × kzM)}
    (hk : ∀ τ', S4 τ' n f fg m other on x (shB BU ee 4) H W D → Wz (k840 0 612 n m fg other on 1228 1229 x2 (r + 1)) τ' Q) : ∀ (M : Nat) (k : Int) (τ : kzM), 0 ≤ k → k ≤ 4 → 4 - k < (M : Int) → (∃ pd, Ob (V 0 τ) pd n f x (shB BU ee 4) m H W D) → Po τ n f fg m other H W D → (∀ h w, 0 ≤ h → h < 4 → 0 ≤ w → w < n → τ.1 1228 (8 * h + w) = wrt f m H W D h w on) → (∀ j, 0 ≤ j → j < 4 → τ.1 1229 j = shB BU ee k j) → Wz (lp (fun _ _ _ _ _ _ _ _ _ _ _ _ _ _ => none) (ZL_law_1058B (kdGe e) xs N k840) M 0 612 n m fg other on 1228 1229 x2 r ee k) τ Q := by
  have hO := okO_0 e
  have ge5 := lge_5 (e := e) (by omega)
  intro M
  induction M with
  | zero => intro k; intros; omega
  | succ M ih =>
    intro k τ k0 k1 k2 q1 q2 q3 q4
    rw [lp_succ]
    generalize lp (fun _ _ _ _ _ _ _ _ _ _ _ _ _ _ => none) (ZL_law_1058B (kdGe e) xs N k840) M = L at ih ⊢
    unfold ZL_law_1058B
    simp only [ZL_law_1113, ZL_law_1086, Wz_rt, Wz_cnd, Wz_lI, Wz_lW, Wz_lL, Wz_cl, Wz_cv, Wz_nz, Wz_gI, Wz_gR, Wz_sI, Wz_aI, Wz_aZ, Wz_aL, Wz_aN, Wz_aR, Wz_tI, Wz_tZ, Wz_tL, Option.some.injEq, exists_eq_left', zB_0, zB_1, true_and, and_true, true_implies, not_true_eq_false, false_implies, not_false_eq_true, Classical.not_not, ge5, v2_self, rd_1224_1225, rd_1224_1226, rd_1224_1227, rd_1224_1228, rd_1224_1229, rd_1225_1224, rd_1225_1226, rd_1225_1227, rd_1225_1228, rd_1225_1229, rd_1226_1224, rd_1226_1225, rd_1226_1227, rd_1226_1228, rd_1226_1229, rd_1227_1224, rd_1227_1225, rd_1227_1226, rd_1227_1228, rd_1227_1229, rd_1228_1224, rd_1228_1225, rd_1228_1226, rd_1228_1227, rd_1228_1229, rd_1229_1224, rd_1229_1225, rd_1229_1226, rd_1229_1227, rd_1229_1228]
    refine ⟨fun c => ⟨by omega, ?_⟩, fun c => ?_⟩
    · have k4 : k = 4 := by omega
      subst k4
      refine hk τ ⟨q1, q2, q3, fun j j0 j1 => ⟨q4 j j0 j1, ?_⟩⟩
      have b := hb j j0 j1
      unfold shB; split <;> omega
    · have ek : τ.1 1229 k = BU k := by rw [q4 k k0 (by omega)]; exact shB_same
      have bk := hb k k0 (by omega)
      have rest : ∀ v, v = shB BU ee 4 k → Wz (Z11_told (kdGe e) 0 (30 + k)) (v2 τ.1 1229 k v, τ.2) fun r' τ' => (0 ≤ k ∧ k < ((4 : Nat) : Int)) ∧ (r' = τ'.1 1229 k → (-2147483648 ≤ k + 1 ∧ k + 1 ≤ 2147483647) ∧ Wz (L 0 612 n m fg other on 1228 1229 x2 r ee (k + 1)) τ' Q) ∧ (¬r' = τ'.1 1229 k → Wz zno τ' Q) := fun v hv => by
        obtain ⟨pd, q1⟩ := q1
        refine t_toldB hO (by omega) (by omega) (q1.row (by decide) (by decide)) fun τ' hf q => ⟨by omega, fun _ => ⟨by omega, ?_⟩, fun z => absurd ?_ z⟩
        · refine ih (k + 1) τ' (by omega) (by omega) (by omega) ⟨pd, q⟩ ((q2.row (by decide)).fr hf) (fun a b a0 a1 b0 b1 => by rw [hf.r0 (by decide)]; dsimp only; rw [v2_off (by decide)]; exact q3 a b a0 a1 b0 b1) fun j j0 j1 => ?_
          rw [hf.r0 (by decide)]; dsimp only; rw [v2_up]
          by_cases c2 : j = k
          · rw [c2, up_s, hv]; unfold shB
            by_cases c3 : BU k < ee
            · rw [if_neg (fun z => z.2 c3), if_neg (fun z => z.2 c3)]
            · rw [if_pos ⟨by omega, c3⟩, if_pos ⟨by omega, c3⟩]
          · rw [up_n c2, q4 j j0 j1]; unfold shB
            by_cases c3 : (0 ≤ j ∧ j < k) ∧ ¬BU j < ee
            · rw [if_pos c3, if_pos ⟨by omega, c3.2⟩]
            · rw [if_neg c3, if_neg (fun z => c3 ⟨by omega, z.2⟩)]
        · rw [hf.r0 (by decide)]; dsimp only; rw [v2_self, hv, show 30 + k - 30 = k by omega]
      rw [ek]
      refine ⟨⟨by omega, by omega⟩, ⟨by omega, by omega⟩, fun c2 => ⟨by omega, ⟨by omega, by omega⟩, by omega, hO.k, rest _ ?_⟩, fun c2 => ⟨by omega, ⟨by omega, by omega⟩, by omega, hO.k, rest _ ?_⟩⟩
      · unfold shB; rw [if_neg (fun z => z.2 c2)]; omega
      · unfold shB; rw [if_pos ⟨by omega, c2⟩]
set_option maxRecDepth 100000 in
theorem l_889 (he : 1230 ≤ e) (n2 : 2 ≤ n) (n6 : n ≤ 6) (f0 : 0 ≤ f) (f1 : f ≤ 1000) (o0 : 0 ≤ on) (o1 : on ≤ 59) (m0 : 0 ≤ m) (m1 : m ≤ 15) {x ee r w : Int} (e0 : 1 ≤ ee) (e1 : ee ≤ 100) (r0 : 0 ≤ r) (r1 : r < 6) (w0 : 0 ≤ w) (w1 : w < n) {BU : Int → Int} {τ : kzM} (hs : S4 τ n f fg m other on x BU H W D) {k840 : Nat → Nat → Int → Int → Int → Int → Int → Nat → Nat → Int → Int → kzM → Option (Unit × kzM)}
    (hk : ∀ (x' : Int) (BU' : Int → Int) (τ' : kzM), S4 τ' n f fg m other on x' BU' H W D → Wz (k840 0 612 n m fg other on 1228 1229 x' (r + 1)) τ' Q) : ∀ (M : Nat) (k : Int), 0 ≤ k → k ≤ 4 → 4 - k < (M : Int) → Wz (lp (fun _ _ _ _ _ _ _ _ _ _ _ _ _ _ _ _ _ => none) (ZL_law_889B (kdGe e) xs N k840) M 0 612 n m fg other on 1228 1229 x r ee w (wS (gvS BU ee) k.toNat) (wS (shS BU ee (fun h => wrt f m H W D h w on)) k.toNat) k) τ Q := by
  have hO := okO_0 e
  have ge4 := lge_4 (e := e) (by omega)
  have ge5 := lge_5 (e := e) (by omega)
  obtain ⟨⟨pd, q1⟩, q2, q3, q4⟩ := hs
  have xr := q1.xr
  have wb : ∀ h, 0 ≤ wrt f m H W D h w on ∧ wrt f m H W D h w on ≤ 15000 := fun h => by
    have b := wrt_b (m := m) (H := H) (W := W) (D := D) (h := h) (w := w) (d := on) f0 f1 m.toNat
    have b : 0 ≤ wrt f m H W D h w on ∧ wrt f m H W D h w on ≤ 1000 * (m.toNat : Int) := b
    omega
  intro M
  induction M with
  | zero => intro k; intros; omega
  | succ M ih =>
    intro k k0 k1 k2
    have sb := wS_b (p := gvS BU ee) (m := 1) k.toNat (fun k _ _ => by unfold gvS; split <;> omega)
    have sc := wS_b (p := shS BU ee (fun h => wrt f m H W D h w on)) (m := 5000) k.toNat (fun k _ _ => by have := wb k; unfold shS; dsimp only; (repeat' split) <;> omega)
    rw [lp_succ]
    generalize lp (fun _ _ _ _ _ _ _ _ _ _ _ _ _ _ _ _ _ => none) (ZL_law_889B (kdGe e) xs N k840) M = L at ih ⊢
    unfold ZL_law_889B
    simp only [ZL_law_910, ZL_law_924, ZL_law_961, ZL_law_976, ZL_law_1113, Wz_rt, Wz_cnd, Wz_lI, Wz_lW, Wz_lL, Wz_cl, Wz_cv, Wz_nz, Wz_gI, Wz_gR, Wz_sI, Wz_aI, Wz_aZ, Wz_aL, Wz_aN, Wz_aR, Wz_tI, Wz_tZ, Wz_tL, Option.some.injEq, exists_eq_left', zB_0, zB_1, true_and, and_true, true_implies, not_true_eq_false, false_implies, not_false_eq_true, Classical.not_not, ge4, ge5]
    refine ⟨fun c => ⟨hO.k, ?_⟩, fun c => ?_⟩
    · have k4 : k = 4 := by omega
      subst k4
      rw [show (4 : Int).toNat = 4 from rfl] at sb sc ⊢
      by_cases c2 : 2 ≤ wS (gvS BU ee) 4
      · refine t_share_ok hO q1 ⟨w0, w1⟩ ⟨e0, e1⟩ (by omega) c2 fun τ1 hf1 r1' => ⟨fun _ => ?_, fun z => absurd c2 z⟩
        have u := lot_u xr.1 xr.2
        have l := lot_b u.1 e0
        refine ⟨by decide, by omega, by omega, by decide, by omega, by omega, l.1, by omega, fun _ => ?_, fun z => absurd rfl z⟩
        unfold ZL_law_1058
        refine l_1058 he e0 e1 r0 r1 (fun k k0 k1 => (q4 k k0 k1).2) (fun τ' h => hk _ _ τ' h) NN 0 τ1 (by omega) (by omega) (by unfold NN; omega) ⟨pd, r1'⟩ (q2.fr hf1) (fun a b a0 a1 b0 b1 => by rw [hf1.r0 (by decide)]; exact q3 a b a0 a1 b0 b1) fun j j0 j1 => ?_
        rw [hf1.r0 (by decide), (q4 j j0 j1).1]
        unfold shB; rw [if_neg (by omega)]
      · refine t_share_no hO q1 ⟨w0, w1⟩ ⟨e0, e1⟩ (by omega) (by omega) fun τ1 hf1 r1' => ⟨fun z => absurd z c2, fun _ => ⟨fun _ => ⟨by omega, ?_⟩, fun z => absurd rfl z⟩⟩
        exact hk x BU τ1 ⟨⟨pd, r1'⟩, q2.fr hf1, fun a b a0 a1 b0 b1 => by rw [hf1.r0 (by decide)]; exact q3 a b a0 a1 b0 b1, fun j j0 j1 => by rw [hf1.r0 (by decide)]; exact q4 j j0 j1⟩
    · have b := wb k
      have bk := q4 k k0 (by omega)
      have g1 := wS_next (gvS BU ee) k0
      have g2 := wS_next (shS BU ee (fun h => wrt f m H W D h w on)) k0
      have q := ih (k + 1) (by omega) (by omega) (by omega)
      rw [g1, g2] at q
      unfold gvS shS at q
      dsimp only at q
      rw [bk.1, q3 k w k0 (by omega) w0 w1]
      unfold gvS at sb
      unfold shS at sc
      unfold gvS shS
      dsimp only at sb sc ⊢
      refine ⟨⟨by omega, by omega⟩, fun c2 => ⟨by omega, ⟨by omega, by omega⟩, fun c3 => ⟨⟨by omega, by omega⟩, by omega, by omega, ?_⟩, fun c3 => ⟨by omega, by omega, ?_⟩⟩, fun c2 => ⟨fun z => by omega, fun _ => ⟨by omega, ⟨by omega, by omega⟩, fun c3 => ⟨⟨by omega, by omega⟩, fun z => by omega, fun _ => ⟨by omega, by omega, ?_⟩⟩, fun c3 => ⟨fun z => by omega, fun _ => ⟨by omega, by omega, ?_⟩⟩⟩⟩⟩
      · rw [if_pos c2, if_pos c2] at q; exact q
      · rw [if_pos c2, if_pos c2] at q; exact q
      · rw [if_neg c2, if_neg c2] at q
        by_cases c4 : wrt f m H W D k w on < 5000
        · rw [if_pos c4] at q; exact q
        · rw [if_neg c4] at q; rw [show wrt f m H W D k w on = 5000 by omega]; exact q
      · rw [if_neg c2, if_neg c2, if_neg (by omega)] at q; exact q
set_option maxRecDepth 100000 in
theorem l_840 (hN : N ≤ 260) (he : 1230 ≤ e) (n2 : 2 ≤ n) (n6 : n ≤ 6) (f0 : 0 ≤ f) (f1 : f ≤ 1000) (g0 : 0 ≤ fg) (g1 : fg < n) (o0 : 0 ≤ on) (o1 : on ≤ 59) (m0 : 0 ≤ m) (m1 : m ≤ 15) (hot : other = ckF H W 0 fg m.toNat) (hQ : ∀ τ', Q () τ') : ∀ (M : Nat) (r x : Int) (BU : Int → Int) (τ : kzM), 0 ≤ r → r ≤ 6 → 6 - r < (M : Int) → S4 τ n f fg m other on x BU H W D → Wz (lp (fun _ _ _ _ _ _ _ _ _ _ _ _ => none) (ZL_law_840B (kdGe e) xs N) M 0 612 n m fg other on 1228 1229 x r) τ Q := by
  intro M
  induction M with
  | zero => intro k; intros; omega
  | succ M ih =>
    intro r x BU τ r0 r1 r2 hs
    rw [lp_succ]
    generalize lp (fun _ _ _ _ _ _ _ _ _ _ _ _ => none) (ZL_law_840B (kdGe e) xs N) M = L at ih ⊢
    unfold ZL_law_840B
    rw [Wz_cnd]
    refine ⟨fun c => ?_, fun c => ?_⟩
    · obtain ⟨⟨pd, q1⟩, q2, q3, q4⟩ := hs
      exact l_fin n2 n6 g0 g1 o0 o1 m0 m1 hot q1 q2 hQ
    · simp only [Wz_rt, Wz_cnd, Wz_lI, Wz_lW, Wz_lL, Wz_cl, Wz_cv, Wz_nz, Wz_gI, Wz_gR, Wz_sI, Wz_aI, Wz_aZ, Wz_aL, Wz_aN, Wz_aR, Wz_tI, Wz_tZ, Wz_tL, Option.some.injEq, exists_eq_left', zB_0, zB_1, true_and, and_true, true_implies, not_true_eq_false, false_implies, not_false_eq_true, Classical.not_not]
      refine ⟨by omega, l_cell hN (by omega) (by omega) (by omega) (by omega) fun t5 t50 t51 => ⟨by omega, by omega, ?_⟩⟩
      refine l_cell hN (by omega) (by omega) (by omega) (by omega) fun w w0 w1 => ?_
      unfold ZL_law_889
      exact l_889 he n2 n6 f0 f1 o0 o1 m0 m1 (by omega) (by omega) r0 (by omega) w0 w1 hs (fun x' BU' τ' h => ih (r + 1) x' BU' τ' (by omega) (by omega) (by omega) h) NN 0 (by omega) (by omega) (by unfold NN; omega)
set_option maxRecDepth 100000 in
theorem l_784 (hN : N ≤ 260) (he : 1230 ≤ e) (n2 : 2 ≤ n) (n6 : n ≤ 6) (f0 : 0 ≤ f) (f1 : f ≤ 1000) (g0 : 0 ≤ fg) (g1 : fg < n) (o0 : 0 ≤ on) (o1 : on ≤ 59) (m0 : 0 ≤ m) (m1 : m ≤ 15) (hot : other = ckF H W 0 fg m.toNat) (hQ : ∀ τ', Q () τ') {x : Int} : ∀ (M : Nat) (k : Int) (BU : Int → Int) (τ : kzM), 0 ≤ k → k ≤ 4 → 4 - k < (M : Int) → (∃ pd, Ob (V 0 τ) pd n f x BU m H W D) → Po τ n f fg m other H W D → (∀ h w, 0 ≤ h → h < 4 → 0 ≤ w → w < n → τ.1 1228 (8 * h + w) = wrt f m H W D h w on) → (∀ j, 0 ≤ j → j < k → τ.1 1229 j = BU j ∧ 0 ≤ BU j ∧ BU j ≤ 1000) → (∀ j, k ≤ j → j < 4 → BU j = 100) → Wz (lp (fun _ _ _ _ _ _ _ _ _ _ _ _ => none) (ZL_law_784B (kdGe e) xs N) M 0 612 n m fg other on 1228 x 1229 k) τ Q := by
  have hO := okO_0 e
  have ge5 := lge_5 (e := e) (by omega)
  intro M
  induction M with
  | zero => intro k; intros; omega
  | succ M ih =>
    intro k BU τ k0 k1 k2 q1 q2 q3 q4 q5
    rw [lp_succ]
    generalize lp (fun _ _ _ _ _ _ _ _ _ _ _ _ => none) (ZL_law_784B (kdGe e) xs N) M = L at ih ⊢
    unfold ZL_law_784B
    simp only [Wz_rt, Wz_cnd, Wz_lI, Wz_lW, Wz_lL, Wz_cl, Wz_cv, Wz_nz, Wz_gI, Wz_gR, Wz_sI, Wz_aI, Wz_aZ, Wz_aL, Wz_aN, Wz_aR, Wz_tI, Wz_tZ, Wz_tL, Option.some.injEq, exists_eq_left', zB_0, zB_1, true_and, and_true, true_implies, not_true_eq_false, false_implies, not_false_eq_true, Classical.not_not, ge5, v2_self, rd_1224_1225, rd_1224_1226, rd_1224_1227, rd_1224_1228, rd_1224_1229, rd_1225_1224, rd_1225_1226, rd_1225_1227, rd_1225_1228, rd_1225_1229, rd_1226_1224, rd_1226_1225, rd_1226_1227, rd_1226_1228, rd_1226_1229, rd_1227_1224, rd_1227_1225, rd_1227_1226, rd_1227_1228, rd_1227_1229, rd_1228_1224, rd_1228_1225, rd_1228_1226, rd_1228_1227, rd_1228_1229, rd_1229_1224, rd_1229_1225, rd_1229_1226, rd_1229_1227, rd_1229_1228]
    obtain ⟨pd, q1⟩ := q1
    have xr := q1.xr
    refine ⟨fun c => ⟨by omega, ?_⟩, fun c => ⟨by omega, l_cell hN (by omega) (by omega) (by omega) (by omega) fun v v0 v1 => ?_⟩⟩
    · unfold ZL_law_840
      exact l_840 hN he n2 n6 f0 f1 g0 g1 o0 o1 m0 m1 hot hQ NN 0 x BU τ (by omega) (by omega) (by unfold NN; omega) ⟨⟨pd, q1⟩, q2, q3, fun j j0 j1 => q4 j j0 (by omega)⟩
    · refine ⟨⟨by omega, by omega⟩, ⟨by omega, by omega⟩, hO.k, ?_⟩
      refine t_budget hO (q1.row (by decide) (by decide)) k0 (by omega) v0 (by omega) fun τ' hf q => ?_
      rw [q5 k (Int.le_refl _) (by omega)]
      refine ⟨fun _ => ⟨by omega, ?_⟩, fun z => absurd rfl z⟩
      refine ih (k + 1) _ τ' (by omega) (by omega) (by omega) ⟨pd, q⟩ ((q2.row (by decide)).fr hf) (fun a b a0 a1 b0 b1 => by rw [hf.r0 (by decide)]; dsimp only; rw [v2_off (by decide)]; exact q3 a b a0 a1 b0 b1) (fun j j0 j1 => ?_) (fun j j0 j1 => ?_)
      · rw [hf.r0 (by decide)]; dsimp only; rw [v2_up]
        by_cases c2 : j = k
        · rw [c2, up_s, if_pos rfl]; omega
        · rw [up_n c2, if_neg c2]; exact q4 j j0 (by omega)
      · rw [if_neg (by omega)]; exact q5 j (by omega) j1
set_option maxRecDepth 100000 in
theorem l_s4 (hN : N ≤ 260) (he : 1230 ≤ e) (n2 : 2 ≤ n) (n6 : n ≤ 6) (f0 : 0 ≤ f) (f1 : f ≤ 1000) (g0 : 0 ≤ fg) (g1 : fg < n) (o0 : 0 ≤ on) (o1 : on ≤ 59) (m0 : 0 ≤ m) (m1 : m ≤ 15) (hot : other = ckF H W 0 fg m.toNat) (hQ : ∀ τ', Q () τ') {x : Int} {τ : kzM} (hs : S3 τ n f fg m other on x H W D) : Wz (ZL_law_s4 (kdGe e) xs N 0 612 n m fg other on 1228 x 1229) τ Q := by
  obtain ⟨q1, q2, q3⟩ := hs
  unfold ZL_law_s4 ZL_law_784
  exact l_784 hN he n2 n6 f0 f1 g0 g1 o0 o1 m0 m1 hot hQ NN 0 B100 τ (by omega) (by omega) (by unfold NN; omega) q1 q2 q3 (fun j j0 j1 => by omega) (fun j _ _ => rfl)
end LW6
