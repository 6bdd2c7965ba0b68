/-! parting: the reference's table -/
def priP (τ : kzM) (ts : Int) (ρ : kzM) : Prop := ∀ p w l, (ptW τ ts).cd p w l → 0 ≤ p → ρ.1 645 (160 * w + 10 * p + l - 1) = (ptW τ ts).pr p w l
/-- an entry of the reference's table -/
def entR (τ : kzM) (ts : Int) (ρ : kzM) (p : Int) (K : Nat) (t : Int) : Prop := (∃ M : Nat, (ptW τ ts).bR K p t (ρ.1 640 (ixP p K t)) (ρ.2 641 (ixP p K t)) M ∧ ρ.1 642 (ixP p K t) = M) ∨ (ρ.1 640 (ixP p K t) = 1000000000 ∧ (0 ≤ ρ.2 641 (ixP p K t) ∧ ρ.2 641 (ixP p K t) ≤ 1) ∧ ρ.1 642 (ixP p K t) = 0 ∧ ¬∃ (j : Nat) (S P : Int), j ≤ K ∧ (ptW τ ts).At j p t S P)
theorem entR_b {τ ρ : kzM} (hI : Inv τ) {ts p t : Int} {K : Nat} (hK : K ≤ 3) (h : entR τ ts ρ p K t) : (ρ.1 640 (ixP p K t) = 1000000000 ∨ (0 ≤ ρ.1 640 (ixP p K t) ∧ ρ.1 640 (ixP p K t) ≤ 3000)) ∧ (0 ≤ ρ.2 641 (ixP p K t) ∧ ρ.2 641 (ixP p K t) ≤ 1000000) ∧ (0 ≤ ρ.1 642 (ixP p K t) ∧ ρ.1 642 (ixP p K t) ≤ 100) := by
  rcases h with ⟨M, h, e⟩ | ⟨a, b, c, _⟩
  · have mk := h.1.1
    have q := ptW_b hI M _ _ _ _ (by omega) h.1.2
    have p3 : (100 : Int) ^ M ≤ 1000000 := by
      rcases (by omega : M = 0 ∨ M = 1 ∨ M = 2 ∨ M = 3) with z | z | z | z <;> subst z <;> decide
    rw [e]
    omega
  · rw [a, c]
    omega
/-- what a search among first pieces has found -/
def sfR (τ : kzM) (ts : Int) (p : Int) (K : Nat) (t : Int) (dn : Int → Int → Prop) (S P m : Int) : Prop := (S = 1000000000 ∧ P = 0 ∧ m = 0 ∧ ∀ w l S' P' M', dn w l → ¬(ptW τ ts).vR K p t w l S' P' M') ∨ (∃ M : Nat, m = M ∧ (∃ w l, dn w l ∧ (ptW τ ts).vR K p t w l S P M) ∧ ∀ w l S' P' M', dn w l → (ptW τ ts).vR K p t w l S' P' M' → S < S' ∨ (S = S' ∧ (P' < P ∨ (P' = P ∧ M ≤ M'))))
theorem sfR_cg {τ : kzM} {ts p t : Int} {K : Nat} {dn dn' : Int → Int → Prop} {S P m : Int} (h : sfR τ ts p K t dn S P m) (k : ∀ w l S' P' M', (ptW τ ts).vR K p t w l S' P' M' → (dn w l ↔ dn' w l)) : sfR τ ts p K t dn' S P m := by
  rcases h with ⟨a, b, c, d⟩ | ⟨M, a, ⟨w, l, b, c⟩, d⟩
  · exact Or.inl ⟨a, b, c, fun w l S' P' M' q v => d w l S' P' M' ((k w l S' P' M' v).2 q) v⟩
  · exact Or.inr ⟨M, a, ⟨w, l, (k w l _ _ _ c).1 b, c⟩, fun w l S' P' M' q v => d w l S' P' M' ((k w l S' P' M' v).2 q) v⟩
theorem vR_u {τ : kzM} {ts p t w l S P S' P' : Int} {K M M' : Nat} (h : (ptW τ ts).vR K p t w l S P M) (h' : (ptW τ ts).vR K p t w l S' P' M') : S = S' ∧ P = P' ∧ M = M' := by
  obtain ⟨_, s, q, m, hb, e1, e2, e3⟩ := h
  obtain ⟨_, s', q', m', hb', e1', e2', e3'⟩ := h'
  obtain ⟨x, y, z⟩ := ptD.bR_u hb hb'
  subst x; subst y; subst z
  exact ⟨by omega, by omega, by omega⟩
def dnP (w l w' l' : Int) : Prop := w' < w ∨ (w' = w ∧ l' < l)
/-- nothing better comes -/
theorem sfR_keep {τ : kzM} {ts p t w l S P m : Int} {K : Nat} (h : sfR τ ts p K t (dnP w l) S P m) (hk : ∀ S' P' M', (ptW τ ts).vR K p t w l S' P' M' → ¬S = 1000000000 ∧ (S < S' ∨ (S = S' ∧ (P' < P ∨ (P' = P ∧ m ≤ (M' : Int)))))) : sfR τ ts p K t (dnP w (l + 1)) S P m := by
  rcases h with ⟨a, b, c, d⟩ | ⟨M, a, ⟨w', l', b, c⟩, d⟩
  · refine Or.inl ⟨a, b, c, fun x y S' P' M' q v => ?_⟩
    by_cases z : x = w ∧ y = l
    · obtain ⟨rfl, rfl⟩ := z
      exact (hk _ _ _ v).1 a
    · refine d x y S' P' M' ?_ v
      unfold dnP at q ⊢
      omega
  · refine Or.inr ⟨M, a, ⟨w', l', by unfold dnP at b ⊢; omega, c⟩, fun x y S' P' M' q v => ?_⟩
    by_cases z : x = w ∧ y = l
    · obtain ⟨rfl, rfl⟩ := z
      have := (hk _ _ _ v).2
      omega
    · refine d x y S' P' M' ?_ v
      unfold dnP at q ⊢
      omega
theorem sfR_new {τ : kzM} {ts p t w l S P m S' P' : Int} {K M' : Nat} (h : sfR τ ts p K t (dnP w l) S P m) (v : (ptW τ ts).vR K p t w l S' P' M') (hb : S' < S ∨ (S = S' ∧ (P < P' ∨ (P = P' ∧ (M' : Int) < m)))) : sfR τ ts p K t (dnP w (l + 1)) S' P' M' := by
  refine Or.inr ⟨M', rfl, ⟨w, l, Or.inr ⟨rfl, by omega⟩, v⟩, fun x y S2 P2 M2 q v2 => ?_⟩
  by_cases z : x = w ∧ y = l
  · obtain ⟨rfl, rfl⟩ := z
    have := vR_u v v2
    omega
  · have dn : dnP w l x y := by
      unfold dnP at q ⊢
      omega
    rcases h with ⟨_, _, _, d⟩ | ⟨M, a, _, d⟩
    · exact absurd v2 (d x y S2 P2 M2 dn)
    · have := d x y S2 P2 M2 dn v2
      omega
def onP4 (i : Int) (σ ρ : kzM) : Prop := (∀ a x, ¬(a = 640 ∧ x = i) → ¬(a = 642 ∧ x = i) → ρ.1 a x = σ.1 a x) ∧ ∀ a x, ¬(a = 641 ∧ x = i) → ρ.2 a x = σ.2 a x
theorem onP4.tr {i : Int} {σ ρ ζ : kzM} (h : onP4 i σ ρ) (k : onP4 i ρ ζ) : onP4 i σ ζ := ⟨fun a x y z => (k.1 a x y z).trans (h.1 a x y z), fun a x y => (k.2 a x y).trans (h.2 a x y)⟩
theorem tabL.onP4 {τ σ ρ : kzM} {i : Int} (h : tabL τ σ) (k : onP4 i σ ρ) : tabL τ ρ := fun a x z => (k.1 a x (fun q => z (by rw [q.1]; rfl)) (fun q => z (by rw [q.1]; rfl))).trans (h a x z)
set_option maxRecDepth 100000 in
theorem W12_fi_49 {τ : kzM} (hI : Inv τ) {ts p t w : Int} {K : Nat} (hK : 1 ≤ K ∧ K ≤ 4) (p0 : 0 ≤ p) (p1 : p < τ.1 1 1) (t0 : 0 ≤ t) (t1 : t ≤ 3) (w0 : 0 ≤ w) (w1 : w < τ.1 337 1) {σ0 : kzM} (hL0 : tabL τ σ0) (hp : priP τ ts σ0) (he : ∀ l : Int, 1 ≤ l → p + l ≤ τ.1 1 1 → ∀ t', 0 ≤ t' → t' ≤ 3 → entR τ ts σ0 (p + l) (K - 1) t') {K37 : Nat → Int → Int → Int → Int → Int → Int → kzM → Option (Unit × kzM)} {Q : Unit → kzM → Prop} (hQ : ∀ ρ, onP4 (ixP p K t) σ0 ρ → sfR τ ts p (K - 1) t (dnP (w + 1) 0) (ρ.1 640 (ixP p K t)) (ρ.2 641 (ixP p K t)) (ρ.1 642 (ixP p K t)) → Wz (K37 612 p K t ts (ixP p K t) (w + 1)) ρ Q) : ∀ (N : Nat) (l : Int) (σ : kzM), 1 ≤ l → l ≤ 11 → 12 - l < N → onP4 (ixP p K t) σ0 σ → sfR τ ts p (K - 1) t (dnP w l) (σ.1 640 (ixP p K t)) (σ.2 641 (ixP p K t)) (σ.1 642 (ixP p K t)) → Wz (lp (fun _ _ _ _ _ _ _ _ _ => none) (Z12_findPart_49B kdG0 K37) N 612 p K t ts (ixP p K t) w l) σ Q := by
  have i1 := hI.1
  unfold I1 at i1
  have pw := ptW_w hI w0 w1
  intro N
  induction N with
  | zero => intro l; intros; omega
  | succ N ih =>
    intro l σ l0 l1 lN ho hs
    rw [lp_succ]
    have ih' := ih (l + 1)
    generalize lp (fun _ _ _ _ _ _ _ _ _ => none) (Z12_findPart_49B kdG0 K37) N = L at ih' ⊢
    have hL := hL0.onP4 ho
    have e1 : σ.1 612 1 = τ.1 1 1 := by rw [hL 612 1 (by decide), i1.2.1]
    have e30 : σ.1 630 w = τ.1 338 w := by rw [hL 630 w (by rw [md_5 (by decide)]; decide), pw.2.2.1]
    have fin : (10 < l ∨ τ.1 1 1 < p + l ∨ ¬zand (zshr ts (τ.1 338 w)) 1 = 1) → sfR τ ts p (K - 1) t (dnP (w + 1) 0) (σ.1 640 (ixP p K t)) (σ.2 641 (ixP p K t)) (σ.1 642 (ixP p K t)) := fun hc => sfR_cg hs (fun w' l' S' P' M' v => by
      have cc := ptW_cd.1 v.1
      unfold dnP
      constructor
      · intro q; omega
      · intro q
        by_cases y : w' = w
        · rw [y] at cc
          rcases hc with hc | hc | hc
          · omega
          · omega
          · exact absurd cc.2.1 hc
        · omega)
    have ixb : 0 ≤ ixP p K t ∧ ixP p K t < 340 := by unfold ixP; omega
    generalize hix : ixP p K t = ix at ho hs fin ixb hQ ih' ⊢
    unfold Z12_findPart_49B
    simp only [Z12_findPart_247, Wz_rt, Wz_cnd, Wz_lI, Wz_lW, Wz_lL, Wz_cl, Wz_cv, Wz_nz, Wz_gI, Wz_gR, Wz_sI, Wz_aI, Wz_aZ, Wz_aL, Wz_aN, Wz_aR, Wz_tI, Wz_tZ, Wz_tL, Option.some.injEq, exists_eq_left', zB_0, zB_1, true_and, and_true, true_implies, not_true_eq_false, false_implies, not_false_eq_true, Classical.not_not, g_0, g_1, g_2, g_3, g_4, g_5, g_327, g_328, g_329, g_330, g_331, g_332, g_333, g_334, g_335, g_336, g_337, g_338, g_339, g_340, g_341, g_342, g_343, g_464, g_465, g_466, g_484, g_485, g_486, g_487, g_488, g_489, g_490, g_491, g_492, g_493, g_494, g_495, g_496, g_497, g_498, g_499, g_500, g_501, g_562, g_563, g_564, g_565, g_566, g_567, g_568, g_574, g_580, g_581, g_582, g_583, g_584, g_585, g_586, g_587, g_588, g_589, g_590, g_591, g_592, g_600, g_601, g_602, g_603, g_604, g_605, g_606, g_607, g_608, g_609, g_610, g_611, g_612, g_613, g_614, g_615, g_616, g_617, g_618, g_619, g_620, g_621, g_622, g_623, g_624, g_625, g_626, g_627, g_628, g_629, g_630, g_631, g_632, g_633, g_634, g_635, g_636, g_637, g_638, g_639, g_640, g_641, g_642, g_643, g_644, g_645, g_646, g_647, g_648, g_649, g_650, g_651, g_652, g_653, g_654, g_655, g_656, g_657, g_658, g_659, g_660, g_661, g_662, g_0_0, g_0_1, g_0_2, g_0_3, g_0_4, g_0_5, g_0_6, g_0_7, g_0_8, g_0_9, g_0_10, g_0_11, g_1_0, g_3_0, g_327_0, g_327_1, g_327_2, g_327_3, g_328_0, g_330_0, g_332_0, g_334_0, g_336_0, g_336_1, g_336_2, g_336_3, g_337_0, g_339_0, g_341_0, g_464_0, g_464_1, g_484_0, g_484_1, g_484_2, g_485_0, g_487_0, g_489_0, g_491_0, g_491_1, g_491_2, g_491_3, g_491_4, g_491_5, g_491_6, g_491_7, g_496_0, g_498_0, g_500_0, g_500_1, g_500_3, g_500_4, g_500_5, g_500_6, g_500_7, g_562_0, g_564_0, g_566_0, g_580_0, g_580_1, g_580_2, g_580_3, g_581_0, g_583_0, g_585_0, g_588_1, g_588_2, g_588_3, g_588_4, g_588_6, g_601_0, g_601_1, g_601_2, g_601_3, g_601_4, g_601_5, g_601_6, g_601_7, g_601_8, g_608_0, g_610_0, g_612_0, g_612_2, g_612_4, g_612_5, g_612_7, g_612_8, g_612_9, g_612_10, g_612_11, g_612_12, g_612_13, g_612_14, g_612_15, g_612_16, g_612_19, g_612_20, g_612_22, g_612_24, g_612_25, g_612_26, g_612_27, g_612_28, g_612_30, g_612_31, g_612_32, g_612_33, g_612_34, g_612_36, g_612_37, g_612_38, g_612_39, g_612_40, g_612_41, g_612_42, g_612_43, g_612_44, g_612_46, g_612_47, g_612_48, g_612_49, g_612_50, g_612_53, g_612_56, g_612_57, g_612_58, g_612_59, g_612_61, g_612_62, g_612_63, g_612_64, e1, e30]
    refine ⟨fun c => ⟨by omega, hQ σ ho (fin (Or.inl c))⟩, fun c => ⟨by omega, fun d => ⟨by omega, hQ σ ho (fin (Or.inr (Or.inl d)))⟩, fun d => ⟨by omega, fun b => ?_, fun b => ⟨by omega, hQ σ ho (fin (Or.inr (Or.inr b)))⟩⟩⟩⟩
    have hcd : (ptW τ ts).cd p w l := ptW_cd.2 ⟨⟨w0, w1⟩, b, by omega, by omega⟩
    have en := he l l0 (by omega) (τ.1 338 w) (by omega) (by omega)
    have eb := entR_b hI (by omega) en
    have nix : ¬ixP (p + l) ((K - 1 : Nat) : Int) (τ.1 338 w) = ix := by rw [← hix]; unfold ixP; omega
    have f0 : ∀ x, ¬x = ix → σ.1 640 x = σ0.1 640 x := fun x hx => ho.1 640 x (fun q => hx q.2) (by omega)
    have f2 : ∀ x, ¬x = ix → σ.1 642 x = σ0.1 642 x := fun x hx => ho.1 642 x (by omega) (fun q => hx q.2)
    have f1 : ∀ x, ¬x = ix → σ.2 641 x = σ0.2 641 x := fun x hx => ho.2 641 x (fun q => hx q.2)
    have eK : ((K - 1 : Nat) : Int) = (K : Int) - 1 := by omega
    have h45 : σ.1 645 (160 * w + 10 * p + l - 1) = (ptW τ ts).pr p w l := by rw [ho.1 645 _ (by omega) (by omega)]; exact hp p w l hcd p0
    unfold entR at en
    rw [eK] at en eb nix
    have pp := ptW_pr hI (ts := ts) (p := p) w0 w1 (l := l) (by omega) (by omega)
    have ps := ptW_sw hI (ts := ts) (t := t) (tw := τ.1 338 w)
    -- on, with nothing new or with the new one
    have keep : (∀ S' P' M', (ptW τ ts).vR (K - 1) p t w l S' P' M' → ¬σ.1 640 ix = 1000000000 ∧ (σ.1 640 ix < S' ∨ (σ.1 640 ix = S' ∧ (P' < σ.2 641 ix ∨ (P' = σ.2 641 ix ∧ σ.1 642 ix ≤ (M' : Int)))))) → Wz (Z12_findPart_241 kdG0 K37 L 612 p K t ts ix w l) σ Q := fun hk => by
      simp only [Z12_findPart_241, Wz_rt, Wz_cnd, Wz_lI, Wz_lW, Wz_lL, Wz_cl, Wz_cv, Wz_nz, Wz_gI, Wz_gR, Wz_sI, Wz_aI, Wz_aZ, Wz_aL, Wz_aN, Wz_aR, Wz_tI, Wz_tZ, Wz_tL, Option.some.injEq, exists_eq_left', zB_0, zB_1, true_and, and_true, true_implies, not_true_eq_false, false_implies, not_false_eq_true, Classical.not_not, g_0, g_1, g_2, g_3, g_4, g_5, g_327, g_328, g_329, g_330, g_331, g_332, g_333, g_334, g_335, g_336, g_337, g_338, g_339, g_340, g_341, g_342, g_343, g_464, g_465, g_466, g_484, g_485, g_486, g_487, g_488, g_489, g_490, g_491, g_492, g_493, g_494, g_495, g_496, g_497, g_498, g_499, g_500, g_501, g_562, g_563, g_564, g_565, g_566, g_567, g_568, g_574, g_580, g_581, g_582, g_583, g_584, g_585, g_586, g_587, g_588, g_589, g_590, g_591, g_592, g_600, g_601, g_602, g_603, g_604, g_605, g_606, g_607, g_608, g_609, g_610, g_611, g_612, g_613, g_614, g_615, g_616, g_617, g_618, g_619, g_620, g_621, g_622, g_623, g_624, g_625, g_626, g_627, g_628, g_629, g_630, g_631, g_632, g_633, g_634, g_635, g_636, g_637, g_638, g_639, g_640, g_641, g_642, g_643, g_644, g_645, g_646, g_647, g_648, g_649, g_650, g_651, g_652, g_653, g_654, g_655, g_656, g_657, g_658, g_659, g_660, g_661, g_662, g_0_0, g_0_1, g_0_2, g_0_3, g_0_4, g_0_5, g_0_6, g_0_7, g_0_8, g_0_9, g_0_10, g_0_11, g_1_0, g_3_0, g_327_0, g_327_1, g_327_2, g_327_3, g_328_0, g_330_0, g_332_0, g_334_0, g_336_0, g_336_1, g_336_2, g_336_3, g_337_0, g_339_0, g_341_0, g_464_0, g_464_1, g_484_0, g_484_1, g_484_2, g_485_0, g_487_0, g_489_0, g_491_0, g_491_1, g_491_2, g_491_3, g_491_4, g_491_5, g_491_6, g_491_7, g_496_0, g_498_0, g_500_0, g_500_1, g_500_3, g_500_4, g_500_5, g_500_6, g_500_7, g_562_0, g_564_0, g_566_0, g_580_0, g_580_1, g_580_2, g_580_3, g_581_0, g_583_0, g_585_0, g_588_1, g_588_2, g_588_3, g_588_4, g_588_6, g_601_0, g_601_1, g_601_2, g_601_3, g_601_4, g_601_5, g_601_6, g_601_7, g_601_8, g_608_0, g_610_0, g_612_0, g_612_2, g_612_4, g_612_5, g_612_7, g_612_8, g_612_9, g_612_10, g_612_11, g_612_12, g_612_13, g_612_14, g_612_15, g_612_16, g_612_19, g_612_20, g_612_22, g_612_24, g_612_25, g_612_26, g_612_27, g_612_28, g_612_30, g_612_31, g_612_32, g_612_33, g_612_34, g_612_36, g_612_37, g_612_38, g_612_39, g_612_40, g_612_41, g_612_42, g_612_43, g_612_44, g_612_46, g_612_47, g_612_48, g_612_49, g_612_50, g_612_53, g_612_56, g_612_57, g_612_58, g_612_59, g_612_61, g_612_62, g_612_63, g_612_64]
      exact ⟨by omega, ih' σ (by omega) (by omega) (by omega) ho (sfR_keep hs hk)⟩
    have new : ∀ S' P' (M' : Nat), (ptW τ ts).vR (K - 1) p t w l S' P' M' → (S' < σ.1 640 ix ∨ (σ.1 640 ix = S' ∧ (σ.2 641 ix < P' ∨ (σ.2 641 ix = P' ∧ (M' : Int) < σ.1 642 ix)))) → Wz (Z12_findPart_214 kdG0 K37 L 612 p K t ts ix w l S' P' (M' : Int)) σ Q := fun S' P' M' v hb => by
      simp only [Z12_findPart_214, Z12_findPart_241, Wz_rt, Wz_cnd, Wz_lI, Wz_lW, Wz_lL, Wz_cl, Wz_cv, Wz_nz, Wz_gI, Wz_gR, Wz_sI, Wz_aI, Wz_aZ, Wz_aL, Wz_aN, Wz_aR, Wz_tI, Wz_tZ, Wz_tL, Option.some.injEq, exists_eq_left', zB_0, zB_1, true_and, and_true, true_implies, not_true_eq_false, false_implies, not_false_eq_true, Classical.not_not, g_0, g_1, g_2, g_3, g_4, g_5, g_327, g_328, g_329, g_330, g_331, g_332, g_333, g_334, g_335, g_336, g_337, g_338, g_339, g_340, g_341, g_342, g_343, g_464, g_465, g_466, g_484, g_485, g_486, g_487, g_488, g_489, g_490, g_491, g_492, g_493, g_494, g_495, g_496, g_497, g_498, g_499, g_500, g_501, g_562, g_563, g_564, g_565, g_566, g_567, g_568, g_574, g_580, g_581, g_582, g_583, g_584, g_585, g_586, g_587, g_588, g_589, g_590, g_591, g_592, g_600, g_601, g_602, g_603, g_604, g_605, g_606, g_607, g_608, g_609, g_610, g_611, g_612, g_613, g_614, g_615, g_616, g_617, g_618, g_619, g_620, g_621, g_622, g_623, g_624, g_625, g_626, g_627, g_628, g_629, g_630, g_631, g_632, g_633, g_634, g_635, g_636, g_637, g_638, g_639, g_640, g_641, g_642, g_643, g_644, g_645, g_646, g_647, g_648, g_649, g_650, g_651, g_652, g_653, g_654, g_655, g_656, g_657, g_658, g_659, g_660, g_661, g_662, g_0_0, g_0_1, g_0_2, g_0_3, g_0_4, g_0_5, g_0_6, g_0_7, g_0_8, g_0_9, g_0_10, g_0_11, g_1_0, g_3_0, g_327_0, g_327_1, g_327_2, g_327_3, g_328_0, g_330_0, g_332_0, g_334_0, g_336_0, g_336_1, g_336_2, g_336_3, g_337_0, g_339_0, g_341_0, g_464_0, g_464_1, g_484_0, g_484_1, g_484_2, g_485_0, g_487_0, g_489_0, g_491_0, g_491_1, g_491_2, g_491_3, g_491_4, g_491_5, g_491_6, g_491_7, g_496_0, g_498_0, g_500_0, g_500_1, g_500_3, g_500_4, g_500_5, g_500_6, g_500_7, g_562_0, g_564_0, g_566_0, g_580_0, g_580_1, g_580_2, g_580_3, g_581_0, g_583_0, g_585_0, g_588_1, g_588_2, g_588_3, g_588_4, g_588_6, g_601_0, g_601_1, g_601_2, g_601_3, g_601_4, g_601_5, g_601_6, g_601_7, g_601_8, g_608_0, g_610_0, g_612_0, g_612_2, g_612_4, g_612_5, g_612_7, g_612_8, g_612_9, g_612_10, g_612_11, g_612_12, g_612_13, g_612_14, g_612_15, g_612_16, g_612_19, g_612_20, g_612_22, g_612_24, g_612_25, g_612_26, g_612_27, g_612_28, g_612_30, g_612_31, g_612_32, g_612_33, g_612_34, g_612_36, g_612_37, g_612_38, g_612_39, g_612_40, g_612_41, g_612_42, g_612_43, g_612_44, g_612_46, g_612_47, g_612_48, g_612_49, g_612_50, g_612_53, g_612_56, g_612_57, g_612_58, g_612_59, g_612_61, g_612_62, g_612_63, g_612_64]
      refine ⟨by omega, by omega, by omega, by omega, ih' _ (by omega) (by omega) (by omega) ⟨fun a x y1 y2 => ?_, fun a x y1 => ?_⟩ ?_⟩
      · dsimp only
        rw [v2_eq, if_neg y2, v2_eq, if_neg y1]
        exact ho.1 a x y1 y2
      · dsimp only
        rw [v2_eq, if_neg y1]
        exact ho.2 a x y1
      · dsimp only
        rw [v2_self, v2_self, v2_ne _ _ _ _ (by decide), v2_self]
        exact sfR_new hs v hb
    refine W12_sumBy hI hL hcd p0 (by omega) (by omega) t0 t1 h45 (f0 _ nix) eb.1 (fun x9 => ?_) (fun x9 => ?_)
    · -- no way on from there
      refine W12_productBy hI hL hcd p0 (by omega) (by omega) (f1 _ nix) eb.2.1 (W12_manyBy hI hL hcd p0 (by omega) (by omega) (f2 _ nix) eb.2.2 ?_)
      have none : ∀ S' P' M', ¬(ptW τ ts).vR (K - 1) p t w l S' P' M' := fun S' P' M' ⟨_, s, q, m, hb, _⟩ => by
        rcases en with ⟨M, h, _⟩ | ⟨_, _, _, h⟩
        · have z := ptW_b hI M _ _ _ _ (by have := h.1.1; omega) h.1.2
          have := h.1.1
          omega
        · exact h ⟨m, s, q, hb.1.1, hb.1.2⟩
      have S9 : σ.1 640 ix ≤ 1000000000 := by
        rcases hs with hs | ⟨M, _, ⟨w', l', _, v⟩, _⟩
        · omega
        · have z := ptW_b hI M _ _ _ _ (by have := ((ptW τ ts).vR_At v).1; omega) ((ptW τ ts).vR_At v).2
          have := ((ptW τ ts).vR_At v).1
          omega
      have kp := keep (fun S' P' M' v => absurd v (none S' P' M'))
      simp only [Z12_findPart_137, Z12_findPart_163, Z12_findPart_164, Wz_rt, Wz_cnd, Wz_lI, Wz_lW, Wz_lL, Wz_cl, Wz_cv, Wz_nz, Wz_gI, Wz_gR, Wz_sI, Wz_aI, Wz_aZ, Wz_aL, Wz_aN, Wz_aR, Wz_tI, Wz_tZ, Wz_tL, Option.some.injEq, exists_eq_left', zB_0, zB_1, true_and, and_true, true_implies, not_true_eq_false, false_implies, not_false_eq_true, Classical.not_not, g_0, g_1, g_2, g_3, g_4, g_5, g_327, g_328, g_329, g_330, g_331, g_332, g_333, g_334, g_335, g_336, g_337, g_338, g_339, g_340, g_341, g_342, g_343, g_464, g_465, g_466, g_484, g_485, g_486, g_487, g_488, g_489, g_490, g_491, g_492, g_493, g_494, g_495, g_496, g_497, g_498, g_499, g_500, g_501, g_562, g_563, g_564, g_565, g_566, g_567, g_568, g_574, g_580, g_581, g_582, g_583, g_584, g_585, g_586, g_587, g_588, g_589, g_590, g_591, g_592, g_600, g_601, g_602, g_603, g_604, g_605, g_606, g_607, g_608, g_609, g_610, g_611, g_612, g_613, g_614, g_615, g_616, g_617, g_618, g_619, g_620, g_621, g_622, g_623, g_624, g_625, g_626, g_627, g_628, g_629, g_630, g_631, g_632, g_633, g_634, g_635, g_636, g_637, g_638, g_639, g_640, g_641, g_642, g_643, g_644, g_645, g_646, g_647, g_648, g_649, g_650, g_651, g_652, g_653, g_654, g_655, g_656, g_657, g_658, g_659, g_660, g_661, g_662, g_0_0, g_0_1, g_0_2, g_0_3, g_0_4, g_0_5, g_0_6, g_0_7, g_0_8, g_0_9, g_0_10, g_0_11, g_1_0, g_3_0, g_327_0, g_327_1, g_327_2, g_327_3, g_328_0, g_330_0, g_332_0, g_334_0, g_336_0, g_336_1, g_336_2, g_336_3, g_337_0, g_339_0, g_341_0, g_464_0, g_464_1, g_484_0, g_484_1, g_484_2, g_485_0, g_487_0, g_489_0, g_491_0, g_491_1, g_491_2, g_491_3, g_491_4, g_491_5, g_491_6, g_491_7, g_496_0, g_498_0, g_500_0, g_500_1, g_500_3, g_500_4, g_500_5, g_500_6, g_500_7, g_562_0, g_564_0, g_566_0, g_580_0, g_580_1, g_580_2, g_580_3, g_581_0, g_583_0, g_585_0, g_588_1, g_588_2, g_588_3, g_588_4, g_588_6, g_601_0, g_601_1, g_601_2, g_601_3, g_601_4, g_601_5, g_601_6, g_601_7, g_601_8, g_608_0, g_610_0, g_612_0, g_612_2, g_612_4, g_612_5, g_612_7, g_612_8, g_612_9, g_612_10, g_612_11, g_612_12, g_612_13, g_612_14, g_612_15, g_612_16, g_612_19, g_612_20, g_612_22, g_612_24, g_612_25, g_612_26, g_612_27, g_612_28, g_612_30, g_612_31, g_612_32, g_612_33, g_612_34, g_612_36, g_612_37, g_612_38, g_612_39, g_612_40, g_612_41, g_612_42, g_612_43, g_612_44, g_612_46, g_612_47, g_612_48, g_612_49, g_612_50, g_612_53, g_612_56, g_612_57, g_612_58, g_612_59, g_612_61, g_612_62, g_612_63, g_612_64]
      refine ⟨by omega, fun _ => ⟨by omega, fun _ => ⟨fun _ => kp, fun z => absurd (Int.le_refl _) z⟩, fun _ => kp⟩, fun z => absurd S9 z⟩
    · -- a way on
      rcases en with ⟨M, hb, em⟩ | ⟨z, _⟩
      · refine W12_productBy hI hL hcd p0 (by omega) (by omega) (f1 _ nix) eb.2.1 (W12_manyBy hI hL hcd p0 (by omega) (by omega) (f2 _ nix) eb.2.2 ?_)
        have v : (ptW τ ts).vR (K - 1) p t w l (σ0.1 640 (ixP (p + l) ((K : Int) - 1) (τ.1 338 w)) + (ptW τ ts).pr p w l + (ptW τ ts).sw t (τ.1 338 w)) (σ0.2 641 (ixP (p + l) ((K : Int) - 1) (τ.1 338 w)) * (ptW τ ts).ct w) (M + 1) := ⟨hcd, _, _, M, hb, rfl, rfl, rfl⟩
        rw [em]
        have eb1 := eb.1
        generalize σ0.1 640 (ixP (p + l) ((K : Int) - 1) (τ.1 338 w)) = x at v eb1 x9 ⊢
        generalize σ0.2 641 (ixP (p + l) ((K : Int) - 1) (τ.1 338 w)) * (ptW τ ts).ct w = P' at v ⊢
        generalize hS : x + (ptW τ ts).pr p w l + (ptW τ ts).sw t (τ.1 338 w) = S' at v ⊢
        have nw := new S' P' (M + 1) v
        rw [show ((M + 1 : Nat) : Int) = (M : Int) + 1 by omega] at nw
        have kp : (σ.1 640 ix < S' ∨ (σ.1 640 ix = S' ∧ (P' < σ.2 641 ix ∨ (P' = σ.2 641 ix ∧ σ.1 642 ix ≤ (M : Int) + 1)))) → Wz (Z12_findPart_241 kdG0 K37 L 612 p K t ts ix w l) σ Q := fun hk => keep (fun S2 P2 M2 v2 => by
          have := vR_u v v2
          omega)
        simp only [Z12_findPart_137, Z12_findPart_163, Z12_findPart_164, Wz_rt, Wz_cnd, Wz_lI, Wz_lW, Wz_lL, Wz_cl, Wz_cv, Wz_nz, Wz_gI, Wz_gR, Wz_sI, Wz_aI, Wz_aZ, Wz_aL, Wz_aN, Wz_aR, Wz_tI, Wz_tZ, Wz_tL, Option.some.injEq, exists_eq_left', zB_0, zB_1, true_and, and_true, true_implies, not_true_eq_false, false_implies, not_false_eq_true, Classical.not_not, g_0, g_1, g_2, g_3, g_4, g_5, g_327, g_328, g_329, g_330, g_331, g_332, g_333, g_334, g_335, g_336, g_337, g_338, g_339, g_340, g_341, g_342, g_343, g_464, g_465, g_466, g_484, g_485, g_486, g_487, g_488, g_489, g_490, g_491, g_492, g_493, g_494, g_495, g_496, g_497, g_498, g_499, g_500, g_501, g_562, g_563, g_564, g_565, g_566, g_567, g_568, g_574, g_580, g_581, g_582, g_583, g_584, g_585, g_586, g_587, g_588, g_589, g_590, g_591, g_592, g_600, g_601, g_602, g_603, g_604, g_605, g_606, g_607, g_608, g_609, g_610, g_611, g_612, g_613, g_614, g_615, g_616, g_617, g_618, g_619, g_620, g_621, g_622, g_623, g_624, g_625, g_626, g_627, g_628, g_629, g_630, g_631, g_632, g_633, g_634, g_635, g_636, g_637, g_638, g_639, g_640, g_641, g_642, g_643, g_644, g_645, g_646, g_647, g_648, g_649, g_650, g_651, g_652, g_653, g_654, g_655, g_656, g_657, g_658, g_659, g_660, g_661, g_662, g_0_0, g_0_1, g_0_2, g_0_3, g_0_4, g_0_5, g_0_6, g_0_7, g_0_8, g_0_9, g_0_10, g_0_11, g_1_0, g_3_0, g_327_0, g_327_1, g_327_2, g_327_3, g_328_0, g_330_0, g_332_0, g_334_0, g_336_0, g_336_1, g_336_2, g_336_3, g_337_0, g_339_0, g_341_0, g_464_0, g_464_1, g_484_0, g_484_1, g_484_2, g_485_0, g_487_0, g_489_0, g_491_0, g_491_1, g_491_2, g_491_3, g_491_4, g_491_5, g_491_6, g_491_7, g_496_0, g_498_0, g_500_0, g_500_1, g_500_3, g_500_4, g_500_5, g_500_6, g_500_7, g_562_0, g_564_0, g_566_0, g_580_0, g_580_1, g_580_2, g_580_3, g_581_0, g_583_0, g_585_0, g_588_1, g_588_2, g_588_3, g_588_4, g_588_6, g_601_0, g_601_1, g_601_2, g_601_3, g_601_4, g_601_5, g_601_6, g_601_7, g_601_8, g_608_0, g_610_0, g_612_0, g_612_2, g_612_4, g_612_5, g_612_7, g_612_8, g_612_9, g_612_10, g_612_11, g_612_12, g_612_13, g_612_14, g_612_15, g_612_16, g_612_19, g_612_20, g_612_22, g_612_24, g_612_25, g_612_26, g_612_27, g_612_28, g_612_30, g_612_31, g_612_32, g_612_33, g_612_34, g_612_36, g_612_37, g_612_38, g_612_39, g_612_40, g_612_41, g_612_42, g_612_43, g_612_44, g_612_46, g_612_47, g_612_48, g_612_49, g_612_50, g_612_53, g_612_56, g_612_57, g_612_58, g_612_59, g_612_61, g_612_62, g_612_63, g_612_64]
        refine ⟨by omega, fun g => ⟨by omega, fun h => ⟨fun z => by omega, fun z => ⟨fun u => absurd u (by decide), fun _ => ⟨by omega, fun u => nw (by omega), fun u => ⟨by omega, fun u2 => ⟨by omega, fun u3 => kp (by omega), fun u3 => nw (by omega)⟩, fun u2 => kp (by omega)⟩⟩⟩⟩, fun h => kp (by omega)⟩, fun g => ?_⟩
        have lt : S' < σ.1 640 ix := by omega
        refine ⟨by omega, fun h => by omega, fun h => ?_⟩
        exact ⟨fun z => absurd z (by decide), fun _ => nw (Or.inl lt)⟩
      · exact absurd z x9
