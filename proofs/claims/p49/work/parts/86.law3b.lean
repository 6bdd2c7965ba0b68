/-! own guesses stand in order -/
/-- a stands before v in the list -/
def bfG (pr wt : Int → Int) (a v : Int) : Prop := pr a < pr v ∨ (pr a = pr v ∧ (wt v < wt a ∨ (wt a = wt v ∧ a < v)))
theorem posG_p {pr wt f : Int → Int} {n : Int} : ∀ k : Nat, (∀ j : Int, (posG pr wt f n k : Int) ≤ j → j < k → ahP pr wt n (f j)) ∧ (0 < posG pr wt f n k → ¬ahP pr wt n (f ((posG pr wt f n k : Int) - 1)))
  | 0 => ⟨fun j j0 j1 => by omega, fun h => by have : posG pr wt f n 0 = 0 := rfl; omega⟩
  | k + 1 => by
    have ih := posG_p (pr := pr) (wt := wt) (f := f) (n := n) k
    by_cases c : ahP pr wt n (f (k : Int))
    · have e : posG pr wt f n (k + 1) = posG pr wt f n k := by
        show (if ahP pr wt n (f (k : Int)) then posG pr wt f n k else k + 1) = _
        rw [if_pos c]
      rw [e]
      refine ⟨fun j j0 j1 => ?_, ih.2⟩
      by_cases z : j = (k : Int)
      · rw [z]; exact c
      · exact ih.1 j j0 (by omega)
    · have e : posG pr wt f n (k + 1) = k + 1 := by
        show (if ahP pr wt n (f (k : Int)) then posG pr wt f n k else k + 1) = _
        rw [if_neg c]
      rw [e]
      refine ⟨fun j j0 j1 => by omega, fun _ => ?_⟩
      rw [show ((k + 1 : Nat) : Int) - 1 = (k : Int) by omega]
      exact c
theorem gG_s {pr wt tg : Int → Int} {ts p : Int} : ∀ n : Nat, ∀ i : Int, 0 ≤ i → i + 1 < ((gG pr wt tg ts p n).2 : Int) → bfG pr wt ((gG pr wt tg ts p n).1 i) ((gG pr wt tg ts p n).1 (i + 1))
  | 0, i, i0, i1 => by have : i + 1 < 0 := i1; omega
  | n + 1, i, i0, i1 => by
    have ih := gG_s (pr := pr) (wt := wt) (tg := tg) (ts := ts) (p := p) n
    have gb := gG_b (pr := pr) (wt := wt) (tg := tg) (ts := ts) (p := p) n
    have eg : gG pr wt tg ts p (n + 1) = if okG pr tg ts p n then (insF (gG pr wt tg ts p n).1 (posG pr wt (gG pr wt tg ts p n).1 n (gG pr wt tg ts p n).2) n (gG pr wt tg ts p n).2, (gG pr wt tg ts p n).2 + 1) else gG pr wt tg ts p n := rfl
    rw [eg] at i1 ⊢
    by_cases c : okG pr tg ts p n
    · rw [if_pos c] at i1 ⊢
      dsimp only at i1 ⊢
      generalize gG pr wt tg ts p n = g at ih gb i1 ⊢
      have pp := posG_p (pr := pr) (wt := wt) (f := g.1) (n := n) g.2
      have pl := posG_le (pr := pr) (wt := wt) (f := g.1) (n := n) g.2
      generalize posG pr wt g.1 n g.2 = q at pp pl ⊢
      have hn : ∀ v, ahP pr wt n v → bfG pr wt n v := fun v h => by
        unfold ahP at h
        unfold bfG
        rcases h with h | h
        · exact Or.inl h
        · exact Or.inr ⟨h.1, Or.inl h.2⟩
      unfold insF
      by_cases c1 : i = q
      · rw [if_pos c1, if_neg (by omega), if_pos (by omega), show i + 1 - 1 = i by omega]
        exact hn _ (pp.1 i (by omega) (by omega))
      · rw [if_neg c1]
        by_cases c2 : i + 1 = q
        · rw [if_neg (by omega), if_pos c2]
          have na := pp.2 (by omega)
          rw [show (q : Int) - 1 = i by omega] at na
          have bi := gb.2 i i0 (by omega)
          unfold ahP at na
          unfold bfG
          by_cases e1 : pr (g.1 i) = pr n
          · refine Or.inr ⟨e1, ?_⟩
            by_cases e2 : wt (g.1 i) = wt n
            · exact Or.inr ⟨e2, by omega⟩
            · refine Or.inl ?_
              have : ¬wt (g.1 i) < wt n := fun z => na (Or.inr ⟨e1.symm, z⟩)
              omega
          · refine Or.inl ?_
            have : ¬pr n < pr (g.1 i) := fun z => na (Or.inl z)
            omega
        · rw [if_neg c2]
          by_cases c3 : (q : Int) < i
          · rw [if_pos (by omega), if_pos (by omega), show i + 1 - 1 = i - 1 + 1 by omega]
            exact ih (i - 1) (by omega) (by omega)
          · rw [if_neg (by omega), if_neg (by omega)]
            exact ih i i0 (by omega)
    · rw [if_neg c] at i1 ⊢
      exact ih i i0 i1
theorem gG_n {pr wt wt' tg : Int → Int} {ts p : Int} : ∀ n : Nat, (gG pr wt tg ts p n).2 = (gG pr wt' tg ts p n).2
  | 0 => rfl
  | n + 1 => by
    have ih := gG_n (pr := pr) (wt := wt) (wt' := wt') (tg := tg) (ts := ts) (p := p) n
    unfold gG
    by_cases c : okG pr tg ts p n
    · rw [if_pos c, if_pos c]; dsimp only; rw [ih]
    · rw [if_neg c, if_neg c]; exact ih
/-! the calls over a pad that stays -/
theorem tabG.tr {U σ ρ : kzM} (h : tabG U σ) (k : tabG σ ρ) : tabG U ρ := fun a j z => (k a j z).trans (h a j z)
def GG (U : kzM) (h d : Int) : (Int → Int) × Nat := gG (prC U) (wtC U h d) (U.1 338) 7 60 (U.1 337 1).toNat
section LW4
variable {e : Nat} {τ U : kzM}
theorem g_mine (hU : Inv U) (h2 : 1 ≤ U.1 1 1) (ht : tabG U (V 0 τ)) {h d i : Int} (c4 : 0 ≤ h ∧ h ≤ 3) (c5 : 0 ≤ d ∧ d ≤ 3000) {Q : Int → kzM → Prop} (hQ : ∀ τ', FrS 0 τ τ' → tabG U (V 0 τ') → Q (ansG (GG U h d) i) τ') : Wz (Z11_mine (kdGe e) 0 h d 7 60 i) τ Q := by
  refine t_mine (okO_0 e) (Inv.tabG ht hU) (by rw [ht 1 1 (by decide)]; exact h2) c4 c5 fun τ' hf k => ?_
  rw [ht 337 1 (by decide), W12_guessEnd hU ht rfl]
  exact hQ τ' hf (ht.tr k)
theorem g_guess (hU : Inv U) (h2 : 1 ≤ U.1 1 1) (ht : tabG U (V 0 τ)) {i : Int} {Q : Int → kzM → Prop} (hQ : ∀ τ', FrS 0 τ τ' → tabG U (V 0 τ') → Q (ansG (GG U (-1) 0) i) τ') : Wz (Z11_guess (kdGe e) 0 7 60 i) τ Q := by
  refine t_guess (okO_0 e) (Inv.tabG ht hU) (by rw [ht 1 1 (by decide)]; exact h2) fun τ' hf k => ?_
  rw [ht 337 1 (by decide), W12_guessEnd hU ht rfl]
  exact hQ τ' hf (ht.tr k)
theorem g_slip (hU : Inv U) (h2 : 1 ≤ U.1 1 1) (ht : tabG U (V 0 τ)) {w : Int} (w0 : 0 ≤ w) (w1 : w < U.1 337 1) {Q : Int → kzM → Prop} (hQ : ∀ τ', FrS 0 τ τ' → tabG U (V 0 τ') → Q (prC U w) τ') : Wz (Z11_slip (kdGe e) 0 w) τ Q := by
  have i5 := hU.2.2.2.2.1
  unfold I5 at i5
  refine t_slip (okO_0 e) (Inv.tabG ht hU) (by rw [ht 337 1 (by decide)]; exact ⟨w0, w1⟩) (by rw [ht 1 1 (by decide)]; exact h2) fun τ' hf k => ?_
  rw [prC_to (fun a x z => ht a x (by omega)) w0 (by omega)]
  exact hQ τ' hf (ht.tr k)
theorem g_ofWord (hU : Inv U) (ht : tabG U (V 0 τ)) {w : Int} (w0 : 0 ≤ w) (w1 : w < U.1 337 1) {Q : Int → kzM → Prop} (hQ : ∀ τ', FrS 0 τ τ' → tabG U (V 0 τ') → Q (U.1 342 w) τ') : Wz (Z11_ofWord (kdGe e) 0 w 2) τ Q := by
  refine t_ofWord (okO_0 e) (Inv.tabG ht hU) w0 (by rw [ht 337 1 (by decide)]; exact w1) fun τ' hf k => ?_
  rw [ht 342 w (by decide)]
  exact hQ τ' hf (ht.tr k)
end LW4
theorem Ob.tabG {U σ : kzM} {pd n f x : Int} {B : Int → Int} {m : Int} {fh fw fd : Int → Int} (h : tabG U σ) (q : Ob U pd n f x B m fh fw fd) : Ob σ pd n f x B m fh fw fd := q.cg fun a j z => h a j (by unfold Rv at z; omega)
/-- behind the guesses -/
def S3 (τ : kzM) (n f fg m other on x : Int) (H W D : Int → Int) : Prop :=
  (∃ pd, Ob (V 0 τ) pd n f x B100 m H W D) ∧ Po τ n f fg m other H W D ∧ ∀ h w, 0 ≤ h → h < 4 → 0 ≤ w → w < n → τ.1 1228 (8 * h + w) = wrt f m H W D h w on
section LW5
variable {xs : Nat → Int32} {N : Nat} {e : Nat} {n f fg m other on : Int} {H W D : Int → Int} {Q : Unit → kzM → Prop}
set_option maxRecDepth 100000 in
theorem l_565 (hN : N ≤ 260) (he : 1229 ≤ e) (n2 : 2 ≤ n) (n6 : n ≤ 6) (f0 : 0 ≤ f) (f1 : f ≤ 1000) (o0 : 0 ≤ on) (o1 : on ≤ 59) (m0 : 0 ≤ m) (m1 : m ≤ 15) {h pd : Int} (h0 : 0 ≤ h) (h1 : h < 4) (p1 : 1 ≤ pd) {U : kzM} (hU : Ob U pd n f 1 B100 m H W D) {k776 : Nat → Nat → Int → Int → Int → Int → Int → Nat → Int → kzM → Option (Unit × kzM)}
    (hk : ∀ (x : Int) (τ' : kzM), 1 ≤ x → x ≤ 1000000 → S3 τ' n f fg m other on x H W D → Wz (k776 0 612 n m fg other on 1228 x) τ' Q) : ∀ (M : Nat) (i : Int) (τ : kzM), 0 ≤ i → i ≤ 60 → 60 - i < (M : Int) → tabG U (V 0 τ) → Po τ n f fg m other H W D → (∀ h w, 0 ≤ h → h < 4 → 0 ≤ w → w < n → τ.1 1228 (8 * h + w) = wrt f m H W D h w on) → Wz (lp (fun _ _ _ _ _ _ _ _ _ _ _ _ _ => none) (ZL_law_565B (kdGe e) xs N k776) M 0 612 n m fg other on 1228 pd h (GG U h on).2 i) τ Q := by
  have hO := okO_0 e
  have ge4 := lge_4 (e := e) (by omega)
  have hI := hU.1
  have e1 := hU.2.1
  have e5 := hU.2.2.1
  have h2 : 1 ≤ U.1 1 1 := by omega
  have i5 := hI.2.2.2.2.1
  unfold I5 at i5
  have gb := gG_b (pr := prC U) (wt := wtC U h on) (tg := U.1 338) (ts := 7) (p := 60) (U.1 337 1).toNat
  have gs := gG_s (pr := prC U) (wt := wtC U h on) (tg := U.1 338) (ts := 7) (p := 60) (U.1 337 1).toNat
  have gn := gG_n (pr := prC U) (wt := wtC U (-1) 0) (wt' := wtC U h on) (tg := U.1 338) (ts := 7) (p := 60) (U.1 337 1).toNat
  obtain ⟨g, hg⟩ : ∃ g, g = GG U h on := ⟨_, rfl⟩
  have hg' : gG (prC U) (wtC U h on) (U.1 338) 7 60 (U.1 337 1).toNat = g := hg.symm
  rw [hg'] at gb gs gn
  have gn : (GG U (-1) 0).2 = g.2 := gn
  intro M
  induction M with
  | zero => intro i; intros; omega
  | succ M ih =>
    intro i τ i0 i1 i2 ht hp hw
    rw [← hg] at ih ⊢
    rw [lp_succ]
    generalize lp (fun _ _ _ _ _ _ _ _ _ _ _ _ _ => none) (ZL_law_565B (kdGe e) xs N k776) M = L at ih ⊢
    unfold ZL_law_565B
    simp only [ZL_law_749, Wz_rt, Wz_cnd, Wz_lI, Wz_lW, Wz_lL, Wz_cl, Wz_cv, Wz_nz, Wz_gI, Wz_gR, Wz_sI, Wz_aI, Wz_aZ, Wz_aL, Wz_aN, Wz_aR, Wz_tI, Wz_tZ, Wz_tL, Option.some.injEq, exists_eq_left', zB_0, zB_1, true_and, and_true, true_implies, not_true_eq_false, false_implies, not_false_eq_true, Classical.not_not, ge4]
    refine ⟨by omega, fun c => ⟨hO.k, ?_⟩, fun c => ⟨hO.k, ?_⟩⟩
    · refine g_guess hI h2 ht fun τ1 hf1 t1 => ?_
      have ea : ansG (GG U (-1) 0) (-1) = g.2 := by unfold ansG; rw [if_pos rfl, gn]
      rw [ea]
      refine ⟨fun _ => ⟨fun _ => ?_, fun z => by omega⟩, fun z => absurd rfl z⟩
      refine l_cell hN (by omega) (by omega) (by omega) (by omega) fun r r0 r1 => ⟨by omega, hO.k, ?_⟩
      refine t_seed hO (hU.tabG t1) (by omega) (by omega) fun τ2 hf2 q2 => ⟨fun _ => ?_, fun z => absurd rfl z⟩
      exact hk (1 + r) τ2 (by omega) (by omega) ⟨⟨_, q2⟩, (hp.fr hf1).fr hf2, fun a b a0 a1 b0 b1 => by rw [hf2.r0 (by decide), hf1.r0 (by decide)]; exact hw a b a0 a1 b0 b1⟩
    · have ga := gb.2 i i0 (by omega)
      have gc := gb.2 (i + 1) (by omega) (by omega)
      have sa := gs i i0 (by omega)
      have e5' : ((U.1 337 1).toNat : Int) = n := by omega
      have ra : ansG g i = g.1 i := by unfold ansG; rw [if_neg (by omega), if_pos (by omega)]
      have rb : ansG g (i + 1) = g.1 (i + 1) := by unfold ansG; rw [if_neg (by omega), if_pos (by omega)]
      rw [e5'] at ga gc
      have wa : wtC U h on (g.1 i) = 1000 * U.1 342 (g.1 i) + wrt f m H W D h (g.1 i) on := by unfold wtC; rw [hU.wr]
      have wb : wtC U h on (g.1 (i + 1)) = 1000 * U.1 342 (g.1 (i + 1)) + wrt f m H W D h (g.1 (i + 1)) on := by unfold wtC; rw [hU.wr]
      have ca := (i5.2.2.2.2 (g.1 i) ga.1 (by omega)).2.2.1.1
      have cb := (i5.2.2.2.2 (g.1 (i + 1)) gc.1 (by omega)).2.2.1.1
      have va := wrt_b (m := m) (H := H) (W := W) (D := D) (h := h) (w := g.1 i) (d := on) f0 f1 m.toNat
      have vb := wrt_b (m := m) (H := H) (W := W) (D := D) (h := h) (w := g.1 (i + 1)) (d := on) f0 f1 m.toNat
      have va : 0 ≤ wrt f m H W D h (g.1 i) on ∧ wrt f m H W D h (g.1 i) on ≤ 1000 * (m.toNat : Int) := va
      have vb : 0 ≤ wrt f m H W D h (g.1 (i + 1)) on ∧ wrt f m H W D h (g.1 (i + 1)) on ≤ 1000 * (m.toNat : Int) := vb
      generalize g.1 i = a at ga sa ra wa ca va
      generalize g.1 (i + 1) = b at gc sa rb wb cb vb
      have l714 : ∀ τ', FrS 0 τ τ' → tabG U (V 0 τ') → Wz (ZL_law_709 (kdGe e) xs N L k776 0 612 n m fg other on 1228 pd h (g.2 : Int) i) τ' Q := fun τ' hf t => by
        simp only [ZL_law_709, ZL_law_714, Wz_rt, Wz_cnd, Wz_lI, Wz_lW, Wz_lL, Wz_cl, Wz_cv, Wz_nz, Wz_gI, Wz_gR, Wz_sI, Wz_aI, Wz_aZ, Wz_aL, Wz_aN, Wz_aR, Wz_tI, Wz_tZ, Wz_tL, Option.some.injEq, exists_eq_left', zB_0, zB_1, true_and, and_true, true_implies, not_true_eq_false, false_implies, not_false_eq_true, Classical.not_not]
        exact ⟨fun z => by omega, fun _ => ⟨by omega, ih (i + 1) τ' (by omega) (by omega) (by omega) t (hp.fr hf) (fun a b a0 a1 b0 b1 => by rw [hf.r0 (by decide)]; exact hw a b a0 a1 b0 b1)⟩⟩
      refine g_mine hI h2 ht ⟨h0, by omega⟩ (by omega) fun τ1 hf1 t1 => ⟨by omega, hO.k, ?_⟩
      rw [← hg, ra]
      refine g_mine hI h2 t1 ⟨h0, by omega⟩ (by omega) fun τ2 hf2 t2 => ⟨hO.k, ?_⟩
      rw [← hg, rb]
      refine g_ofWord hI t2 ga.1 (by omega) fun τ3 hf3 t3 => ⟨⟨by omega, by omega⟩, ?_⟩
      have hw3 : ∀ x y, 0 ≤ x → x < 4 → 0 ≤ y → y < n → τ3.1 1228 (8 * x + y) = wrt f m H W D x y on := fun x y x0 x1 y0 y1 => by rw [hf3.r0 (by decide), hf2.r0 (by decide), hf1.r0 (by decide)]; exact hw x y x0 x1 y0 y1
      rw [hw3 h a h0 h1 ga.1 ga.2]
      refine ⟨by omega, hO.k, ?_⟩
      refine g_ofWord hI t3 gc.1 (by omega) fun τ4 hf4 t4 => ⟨⟨by omega, by omega⟩, ?_⟩
      rw [hf4.r0 (by decide), hw3 h b h0 h1 gc.1 gc.2]
      refine ⟨by omega, hO.k, ?_⟩
      refine g_slip hI h2 t4 ga.1 (by omega) fun τ5 hf5 t5 => ⟨hO.k, ?_⟩
      refine g_slip hI h2 t5 gc.1 (by omega) fun τ6 hf6 t6 => ?_
      have hf06 : FrS 0 τ τ6 := ((((hf1.tr hf2).tr hf3).tr hf4).tr hf5).tr hf6
      refine ⟨fun _ => l714 τ6 hf06 t6, fun c1 => ⟨hO.k, ?_⟩⟩
      refine g_slip hI h2 t6 ga.1 (by omega) fun τ7 hf7 t7 => ⟨hO.k, ?_⟩
      refine g_slip hI h2 t7 gc.1 (by omega) fun τ8 hf8 t8 => ?_
      have fin := l714 τ8 ((hf06.tr hf7).tr hf8) t8
      unfold bfG at sa
      rw [wa, wb] at sa
      exact ⟨fun c2 => ⟨fun _ => fin, fun c3 => ⟨fun c4 => ⟨fun c5 => by omega, fun _ => fin⟩, fun c4 => by omega⟩⟩, fun c2 => by omega⟩
set_option maxRecDepth 100000 in
theorem l_363 (hN : N ≤ 260) (he : 1229 ≤ e) (n2 : 2 ≤ n) (n6 : n ≤ 6) (f0 : 0 ≤ f) (f1 : f ≤ 1000) (o0 : 0 ≤ on) (o1 : on ≤ 59) (m0 : 0 ≤ m) (m1 : m ≤ 15) (hD : ∀ j, 0 ≤ j → j < m → 0 ≤ D j ∧ D j ≤ 75) {k776 : Nat → Nat → Int → Int → Int → Int → Int → Nat → Int → kzM → Option (Unit × kzM)}
    (hk : ∀ (x : Int) (τ' : kzM), 1 ≤ x → x ≤ 1000000 → S3 τ' n f fg m other on x H W D → Wz (k776 0 612 n m fg other on 1228 x) τ' Q) : ∀ (M : Nat) (h : Int) (τ : kzM), 0 ≤ h → h ≤ 4 → 4 - h < (M : Int) → W1 τ n f fg m other on H W D h 0 → Wz (lp (fun _ _ _ _ _ _ _ _ _ _ _ _ _ _ => none) (ZL_law_363B (kdGe e) xs N k776) M 0 612 n f m 1224 1225 1226 fg other on 1228 h) τ Q := by
  have hO := okO_0 e
  intro M
  induction M with
  | zero => intro k; intros; omega
  | succ M ih =>
    intro h τ h0 h1 h2 hs
    rw [lp_succ]
    generalize lp (fun _ _ _ _ _ _ _ _ _ _ _ _ _ _ => none) (ZL_law_363B (kdGe e) xs N k776) M = L at ih ⊢
    unfold ZL_law_363B
    simp only [Wz_rt, Wz_cnd, Wz_lI, Wz_lW, Wz_lL, Wz_cl, Wz_cv, Wz_nz, Wz_gI, Wz_gR, Wz_sI, Wz_aI, Wz_aZ, Wz_aL, Wz_aN, Wz_aR, Wz_tI, Wz_tZ, Wz_tL, Option.some.injEq, exists_eq_left', zB_0, zB_1, true_and, and_true, true_implies, not_true_eq_false, false_implies, not_false_eq_true, Classical.not_not]
    refine ⟨fun c => ?_, fun c => ?_⟩
    · obtain ⟨s1, s2, s3, s4⟩ := hs
      have s4 : ∀ h w, 0 ≤ h → h < 4 → 0 ≤ w → w < n → τ.1 1228 (8 * h + w) = wrt f m H W D h w on := fun x y x0 x1 y0 y1 => s4 x y x0 x1 y0 y1 (by omega)
      refine l_cell hN (by omega) (by omega) (by omega) (by omega) fun r r0 r1 => ⟨by omega, ?_⟩
      refine l_keys hN hO (by omega) (by omega) (by omega) (by omega) (by omega) s2 fun τ1 hf1 q1 => ?_
      refine l_cell hN (by omega) (by omega) (by omega) (by omega) fun y y0 y1 => ⟨hO.k, ?_⟩
      refine g_mine (U := V 0 τ1) q1.1 (by rw [q1.2.1]; omega) (fun _ _ _ => rfl) ⟨y0, by omega⟩ (by omega) fun τ2 hf2 t2 => ?_
      have ea : ansG (GG (V 0 τ1) y on) (-1) = ((GG (V 0 τ1) y on).2 : Int) := by unfold ansG; rw [if_pos rfl]
      rw [ea]
      unfold ZL_law_565
      exact l_565 hN he n2 n6 f0 f1 o0 o1 m0 m1 y0 y1 (by omega) q1 hk NN 0 τ2 (by omega) (by omega) (by unfold NN; omega) t2 ((s3.fr hf1).fr hf2) (fun a b a0 a1 b0 b1 => by rw [hf2.r0 (by decide), hf1.r0 (by decide)]; exact s4 a b a0 a1 b0 b1)
    · unfold ZL_law_372
      exact l_372 he n2 n6 f0 f1 o0 o1 m0 m1 hD h0 (by omega) (fun τ' q => ih (h + 1) τ' (by omega) (by omega) (by omega) q) NN 0 τ (by omega) (by omega) (by unfold NN; omega) hs
set_option maxRecDepth 100000 in
theorem l_s3 (hN : N ≤ 260) (he : 1229 ≤ e) (n2 : 2 ≤ n) (n6 : n ≤ 6) (f0 : 0 ≤ f) (f1 : f ≤ 1000) (o0 : 0 ≤ on) (o1 : on ≤ 59) (m0 : 0 ≤ m) (m1 : m ≤ 15) {NW : Int → Int} {τ : kzM} (hs : S2 τ n f fg m other H W D NW) {k776 : Nat → Nat → Int → Int → Int → Int → Int → Nat → Int → kzM → Option (Unit × kzM)}
    (hk : ∀ (x : Int) (τ' : kzM), 1 ≤ x → x ≤ 1000000 → S3 τ' n f fg m other on x H W D → Wz (k776 0 612 n m fg other on 1228 x) τ' Q) : Wz (ZL_law_s3 (kdGe e) xs N k776 0 612 n f m 1224 1225 1226 fg other on 1228) τ Q := by
  obtain ⟨⟨r0, r1, r2, r3⟩, q1, q2, q3, q4, q5⟩ := hs
  unfold ZL_law_s3 ZL_law_363
  refine l_363 hN he n2 n6 f0 f1 o0 o1 m0 m1 (fun j j0 j1 => ?_) hk NN 0 τ (by omega) (by omega) (by unfold NN; omega) ⟨⟨r0, r1, r2⟩, q1, q2, fun h w h0 h1 w0 w1 c => by omega⟩
  have a := q4 j j0 j1
  have b := q5 (H j) a.1.1 (by omega)
  omega
end LW5
