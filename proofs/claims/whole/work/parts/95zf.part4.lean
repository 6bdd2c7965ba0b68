/-! parting: the reference's table, all of it -/
set_option maxRecDepth 100000 in
theorem W12_findPart {τ : kzM} (hI : Inv τ) {ts p t : Int} {K : Nat} (hK : 1 ≤ K ∧ K ≤ 4) (p0 : 0 ≤ p) (p1 : p < τ.1 1 1) (t0 : 0 ≤ t) (t1 : t ≤ 3) {σ : kzM} (hL : tabL τ σ) (hp : priP τ ts σ) (he : ∀ l : Int, 1 ≤ l → p + l ≤ τ.1 1 1 → ∀ t', 0 ≤ t' → t' ≤ 3 → entR τ ts σ (p + l) (K - 1) t') {Q : Unit → kzM → Prop} (hQ : ∀ ρ, onP4 (ixP p K t) σ ρ → entR τ ts ρ p K t → Q () ρ) : Wz (Z12_findPart kdG0 612 p K t ts) σ Q := by
  have i1 := hI.1
  unfold I1 at i1
  have i5 := hI.2.2.2.2.1
  unfold I5 at i5
  have ixb : 0 ≤ ixP p K t ∧ ixP p K t < 340 := by unfold ixP; omega
  have ix0 : 20 * p + 4 * (K : Int) + t = ixP p K t := rfl
  have fin : ∀ ρ, onP4 (ixP p K t) σ ρ → sfR τ ts p (K - 1) t (dnP (τ.1 337 1) 0) (ρ.1 640 (ixP p K t)) (ρ.2 641 (ixP p K t)) (ρ.1 642 (ixP p K t)) → Q () ρ := fun ρ ho hs => by
    refine hQ ρ ho ?_
    have all : ∀ w l S' P' M', (ptW τ ts).vR (K - 1) p t w l S' P' M' → dnP (τ.1 337 1) 0 w l := fun w l S' P' M' v => Or.inl (ptW_cd.1 v.1).1.2
    have ex : ∀ w l, (ptW τ ts).cd p w l → ∀ (j : Nat) s q, j ≤ K - 1 → (ptW τ ts).At j (p + l) ((ptW τ ts).tg w) s q → ∃ s' q' m', (ptW τ ts).bR (K - 1) (p + l) ((ptW τ ts).tg w) s' q' m' := fun w l hc j s q hj ha => by
      have cc := ptW_cd.1 hc
      have pw := ptW_w hI cc.1.1 cc.1.2
      rcases he l cc.2.2.1.1 cc.2.2.2 (τ.1 338 w) (by omega) (by omega) with ⟨M, h, _⟩ | ⟨_, _, _, h⟩
      · exact ⟨_, _, M, h⟩
      · exact absurd ⟨j, s, q, hj, ha⟩ h
    rcases hs with ⟨a, b, c, d⟩ | ⟨M, a, b, d⟩
    · refine Or.inr ⟨a, by omega, c, fun ⟨j, S, P, hj, ha⟩ => ?_⟩
      cases j with
      | zero =>
        have := ha.1
        rw [show (ptW τ ts).L = τ.1 1 1 from rfl] at this
        omega
      | succ j =>
        obtain ⟨w, l, hc, s, q, h, _⟩ := ha
        obtain ⟨s', q', m', hb⟩ := ex w l hc j s q (by omega) h
        have v : (ptW τ ts).vR (K - 1) p t w l (s' + (ptW τ ts).pr p w l + (ptW τ ts).sw t ((ptW τ ts).tg w)) (q' * (ptW τ ts).ct w) (m' + 1) := ⟨hc, s', q', m', hb, rfl, rfl, rfl⟩
        exact d w l _ _ _ (all _ _ _ _ _ v) v
    · refine Or.inl ⟨M, ?_, a⟩
      have r := ptD.bR_of (D := ptW τ ts) (ptW_ok hI ts) (K := K - 1) (p := p) (t := t) (show p ≠ τ.1 1 1 by omega) (by obtain ⟨w, l, _, v⟩ := b; exact ⟨w, l, v⟩) (fun w l S' P' M' v => d w l S' P' M' (all _ _ _ _ _ v) v) ex
      rw [show K - 1 + 1 = K by omega] at r
      exact r
  have go : ∀ (N : Nat) (w : Int) (ρ : kzM), 0 ≤ w → w ≤ τ.1 337 1 → τ.1 337 1 - w < N → onP4 (ixP p K t) σ ρ → sfR τ ts p (K - 1) t (dnP w 0) (ρ.1 640 (ixP p K t)) (ρ.2 641 (ixP p K t)) (ρ.1 642 (ixP p K t)) → Wz (lp (fun _ _ _ _ _ _ _ _ => none) (Z12_findPart_37B kdG0) N 612 p K t ts (ixP p K t) w) ρ Q := by
    intro N
    induction N with
    | zero => intro w; intros; omega
    | succ N ih =>
      intro w ρ w0 w1 wN ho hs
      rw [lp_succ]
      have ih' := ih (w + 1)
      generalize lp (fun _ _ _ _ _ _ _ _ => none) (Z12_findPart_37B kdG0) N = L at ih' ⊢
      have e29 : ρ.1 612 29 = τ.1 337 1 := by rw [(hL.onP4 ho) 612 29 (by decide), i5.2.2.2.1]
      unfold Z12_findPart_37B
      simp only [Wz_rt, Wz_cnd, Wz_lI, Wz_lW, Wz_lL, Wz_cl, Wz_cv, Wz_nz, Wz_gI, Wz_gR, Wz_sI, Wz_aI, Wz_aZ, Wz_aL, Wz_aN, Wz_aR, Wz_tI, Wz_tZ, Wz_tL, Option.some.injEq, exists_eq_left', zB_0, zB_1, true_and, and_true, true_implies, not_true_eq_false, false_implies, not_false_eq_true, Classical.not_not, g_0, g_1, g_2, g_3, g_4, g_5, g_327, g_328, g_329, g_330, g_331, g_332, g_333, g_334, g_335, g_336, g_337, g_338, g_339, g_340, g_341, g_342, g_343, g_464, g_465, g_466, g_484, g_485, g_486, g_487, g_488, g_489, g_490, g_491, g_492, g_493, g_494, g_495, g_496, g_497, g_498, g_499, g_500, g_501, g_562, g_563, g_564, g_565, g_566, g_567, g_568, g_574, g_580, g_581, g_582, g_583, g_584, g_585, g_586, g_587, g_588, g_589, g_590, g_591, g_592, g_600, g_601, g_602, g_603, g_604, g_605, g_606, g_607, g_608, g_609, g_610, g_611, g_612, g_613, g_614, g_615, g_616, g_617, g_618, g_619, g_620, g_621, g_622, g_623, g_624, g_625, g_626, g_627, g_628, g_629, g_630, g_631, g_632, g_633, g_634, g_635, g_636, g_637, g_638, g_639, g_640, g_641, g_642, g_643, g_644, g_645, g_646, g_647, g_648, g_649, g_650, g_651, g_652, g_653, g_654, g_655, g_656, g_657, g_658, g_659, g_660, g_661, g_662, g_0_0, g_0_1, g_0_2, g_0_3, g_0_4, g_0_5, g_0_6, g_0_7, g_0_8, g_0_9, g_0_10, g_0_11, g_1_0, g_3_0, g_327_0, g_327_1, g_327_2, g_327_3, g_328_0, g_330_0, g_332_0, g_334_0, g_336_0, g_336_1, g_336_2, g_336_3, g_337_0, g_339_0, g_341_0, g_464_0, g_464_1, g_484_0, g_484_1, g_484_2, g_485_0, g_487_0, g_489_0, g_491_0, g_491_1, g_491_2, g_491_3, g_491_4, g_491_5, g_491_6, g_491_7, g_496_0, g_498_0, g_500_0, g_500_1, g_500_3, g_500_4, g_500_5, g_500_6, g_500_7, g_562_0, g_564_0, g_566_0, g_580_0, g_580_1, g_580_2, g_580_3, g_581_0, g_583_0, g_585_0, g_588_1, g_588_2, g_588_3, g_588_4, g_588_6, g_601_0, g_601_1, g_601_2, g_601_3, g_601_4, g_601_5, g_601_6, g_601_7, g_601_8, g_608_0, g_610_0, g_612_0, g_612_2, g_612_4, g_612_5, g_612_7, g_612_8, g_612_9, g_612_10, g_612_11, g_612_12, g_612_13, g_612_14, g_612_15, g_612_16, g_612_19, g_612_20, g_612_22, g_612_24, g_612_25, g_612_26, g_612_27, g_612_28, g_612_30, g_612_31, g_612_32, g_612_33, g_612_34, g_612_36, g_612_37, g_612_38, g_612_39, g_612_40, g_612_41, g_612_42, g_612_43, g_612_44, g_612_46, g_612_47, g_612_48, g_612_49, g_612_50, g_612_53, g_612_56, g_612_57, g_612_58, g_612_59, g_612_61, g_612_62, g_612_63, g_612_64, e29]
      refine ⟨fun c => fin ρ ho (by rw [show w = τ.1 337 1 by omega] at hs; exact hs), fun c => ?_⟩
      unfold Z12_findPart_49
      refine W12_fi_49 hI hK p0 p1 t0 t1 w0 (by omega) hL hp he (fun ζ z1 z2 => ih' ζ (by omega) (by omega) (by omega) z1 z2) NN 1 ρ (by omega) (by omega) (by unfold NN; omega) ho (sfR_cg hs (fun w' l' S' P' M' v => ?_))
      have cc := ptW_cd.1 v.1
      unfold dnP
      omega
  unfold Z12_findPart Z12_findPart_37
  simp only [Z12_placeOf, Wz_rt, Wz_cnd, Wz_lI, Wz_lW, Wz_lL, Wz_cl, Wz_cv, Wz_nz, Wz_gI, Wz_gR, Wz_sI, Wz_aI, Wz_aZ, Wz_aL, Wz_aN, Wz_aR, Wz_tI, Wz_tZ, Wz_tL, Option.some.injEq, exists_eq_left', zB_0, zB_1, true_and, and_true, true_implies, not_true_eq_false, false_implies, not_false_eq_true, Classical.not_not, g_0, g_1, g_2, g_3, g_4, g_5, g_327, g_328, g_329, g_330, g_331, g_332, g_333, g_334, g_335, g_336, g_337, g_338, g_339, g_340, g_341, g_342, g_343, g_464, g_465, g_466, g_484, g_485, g_486, g_487, g_488, g_489, g_490, g_491, g_492, g_493, g_494, g_495, g_496, g_497, g_498, g_499, g_500, g_501, g_562, g_563, g_564, g_565, g_566, g_567, g_568, g_574, g_580, g_581, g_582, g_583, g_584, g_585, g_586, g_587, g_588, g_589, g_590, g_591, g_592, g_600, g_601, g_602, g_603, g_604, g_605, g_606, g_607, g_608, g_609, g_610, g_611, g_612, g_613, g_614, g_615, g_616, g_617, g_618, g_619, g_620, g_621, g_622, g_623, g_624, g_625, g_626, g_627, g_628, g_629, g_630, g_631, g_632, g_633, g_634, g_635, g_636, g_637, g_638, g_639, g_640, g_641, g_642, g_643, g_644, g_645, g_646, g_647, g_648, g_649, g_650, g_651, g_652, g_653, g_654, g_655, g_656, g_657, g_658, g_659, g_660, g_661, g_662, g_0_0, g_0_1, g_0_2, g_0_3, g_0_4, g_0_5, g_0_6, g_0_7, g_0_8, g_0_9, g_0_10, g_0_11, g_1_0, g_3_0, g_327_0, g_327_1, g_327_2, g_327_3, g_328_0, g_330_0, g_332_0, g_334_0, g_336_0, g_336_1, g_336_2, g_336_3, g_337_0, g_339_0, g_341_0, g_464_0, g_464_1, g_484_0, g_484_1, g_484_2, g_485_0, g_487_0, g_489_0, g_491_0, g_491_1, g_491_2, g_491_3, g_491_4, g_491_5, g_491_6, g_491_7, g_496_0, g_498_0, g_500_0, g_500_1, g_500_3, g_500_4, g_500_5, g_500_6, g_500_7, g_562_0, g_564_0, g_566_0, g_580_0, g_580_1, g_580_2, g_580_3, g_581_0, g_583_0, g_585_0, g_588_1, g_588_2, g_588_3, g_588_4, g_588_6, g_601_0, g_601_1, g_601_2, g_601_3, g_601_4, g_601_5, g_601_6, g_601_7, g_601_8, g_608_0, g_610_0, g_612_0, g_612_2, g_612_4, g_612_5, g_612_7, g_612_8, g_612_9, g_612_10, g_612_11, g_612_12, g_612_13, g_612_14, g_612_15, g_612_16, g_612_19, g_612_20, g_612_22, g_612_24, g_612_25, g_612_26, g_612_27, g_612_28, g_612_30, g_612_31, g_612_32, g_612_33, g_612_34, g_612_36, g_612_37, g_612_38, g_612_39, g_612_40, g_612_41, g_612_42, g_612_43, g_612_44, g_612_46, g_612_47, g_612_48, g_612_49, g_612_50, g_612_53, g_612_56, g_612_57, g_612_58, g_612_59, g_612_61, g_612_62, g_612_63, g_612_64, ix0]
  refine ⟨by omega, by omega, by omega, by omega, go NN 0 _ (by omega) (by omega) (by unfold NN; omega) ⟨fun a x y1 y2 => ?_, fun a x y1 => ?_⟩ (Or.inl ⟨?_, ?_, ?_, fun w l S' P' M' q v => ?_⟩)⟩
  · dsimp only
    rw [v2_eq, if_neg y2, v2_eq, if_neg y1]
  · dsimp only
    rw [v2_eq, if_neg y1]
  · dsimp only
    rw [v2_ne _ _ _ _ (by decide), v2_self]
  · exact v2_self _ _ _ _
  · exact v2_self _ _ _ _
  · have cc := ptW_cd.1 v.1
    unfold dnP at q
    omega
def onP3 (σ ρ : kzM) : Prop := (∀ a x, a ≠ 640 → a ≠ 642 → ρ.1 a x = σ.1 a x) ∧ ∀ a x, a ≠ 641 → ρ.2 a x = σ.2 a x
theorem onP4.up {i : Int} {σ ρ : kzM} (h : onP4 i σ ρ) : onP3 σ ρ := ⟨fun a x y z => h.1 a x (fun q => y q.1) (fun q => z q.1), fun a x y => h.2 a x (fun q => y q.1)⟩
theorem onP3.tr {σ ρ ζ : kzM} (h : onP3 σ ρ) (k : onP3 ρ ζ) : onP3 σ ζ := ⟨fun a x y z => (k.1 a x y z).trans (h.1 a x y z), fun a x y => (k.2 a x y).trans (h.2 a x y)⟩
theorem tabL.onP3 {τ σ ρ : kzM} (h : tabL τ σ) (k : onP3 σ ρ) : tabL τ ρ := fun a x z => (k.1 a x (fun q => z (by rw [q]; rfl)) (fun q => z (by rw [q]; rfl))).trans (h a x z)
theorem priP.on {τ σ ρ : kzM} {ts : Int} (h : priP τ ts σ) (k : onP3 σ ρ) : priP τ ts ρ := fun p w l hc p0 => (k.1 645 _ (by decide) (by decide)).trans (h p w l hc p0)
theorem entR_on {τ σ ρ : kzM} {ts p t : Int} {K : Nat} {i : Int} (h : entR τ ts σ p K t) (k : onP4 i σ ρ) (hi : ¬ixP p K t = i) : entR τ ts ρ p K t := by
  unfold entR
  rw [k.1 640 _ (fun q => hi q.2) (by omega), k.1 642 _ (by omega) (fun q => hi q.2), k.2 641 _ (fun q => hi q.2)]
  exact h
/-- all entries that are through -/
def allR (τ : kzM) (ts : Int) (ρ : kzM) (p K t : Int) : Prop := ∀ (p' : Int) (K' : Nat) (t' : Int), 0 ≤ p' → p' ≤ τ.1 1 1 → K' ≤ 4 → 0 ≤ t' → t' ≤ 3 → (p < p' ∨ (p' = p ∧ ((K' : Int) < K ∨ ((K' : Int) = K ∧ t' < t)))) → entR τ ts ρ p' K' t'
set_option maxRecDepth 100000 in
theorem W12_fpa_24 {τ : kzM} (hI : Inv τ) {ts p : Int} {K : Nat} (hK : K ≤ 4) (p0 : 0 ≤ p) (p1 : p ≤ τ.1 1 1) {K10 : Nat → Int → Int → kzM → Option (Unit × kzM)} {K16 : Nat → Int → Int → Int → kzM → Option (Unit × kzM)} {Q : Unit → kzM → Prop} (hQ : ∀ ρ, tabL τ ρ → priP τ ts ρ → allR τ ts ρ p ((K : Int) + 1) 0 → Wz (K16 612 ts p ((K : Int) + 1)) ρ Q) : ∀ (N : Nat) (t : Int) (σ : kzM), 0 ≤ t → t ≤ 4 → 5 - t < N → tabL τ σ → priP τ ts σ → allR τ ts σ p K t → Wz (lp (fun _ _ _ _ _ _ => none) (Z12_findParts_24B kdG0 K10 K16) N 612 ts p K t) σ Q := by
  have i1 := hI.1
  unfold I1 at i1
  intro N
  induction N with
  | zero => intro t; intros; omega
  | succ N ih =>
    intro t σ t0 t1 tN hL hp ha
    rw [lp_succ]
    have ih' := ih (t + 1)
    generalize lp (fun _ _ _ _ _ _ => none) (Z12_findParts_24B kdG0 K10 K16) N = L at ih' ⊢
    have e1 : σ.1 612 1 = τ.1 1 1 := by rw [hL 612 1 (by decide), i1.2.1]
    have ix0 : 20 * p + 4 * (K : Int) + t = ixP p K t := rfl
    have ixb : t < 4 → 0 ≤ ixP p K t ∧ ixP p K t < 340 := fun z => by unfold ixP; omega
    have inj : ∀ (p' : Int) (K' : Nat) (t' : Int), K' ≤ 4 → 0 ≤ t' → t' ≤ 3 → t ≤ 3 → ixP p' K' t' = ixP p K t → p' = p ∧ K' = K ∧ t' = t := fun p' K' t' k1 h0 h1 h2 e => by
      unfold ixP at e
      omega
    -- with the entry laid
    have next : t ≤ 3 → ∀ ρ : kzM, onP4 (ixP p K t) σ ρ → entR τ ts ρ p K t → (-2147483648 ≤ t + 1 ∧ t + 1 ≤ 2147483647) ∧ Wz (L 612 ts p K (t + 1)) ρ Q := fun tl ρ r1 r2 => by
      refine ⟨by omega, ih' ρ (by omega) (by omega) (by omega) (hL.onP4 r1) (hp.on r1.up) (fun p' K' t' a0 a1 a2 a3 a4 a5 => ?_)⟩
      by_cases y : p' = p ∧ K' = K ∧ t' = t
      · obtain ⟨rfl, rfl, rfl⟩ := y
        exact r2
      · refine entR_on (ha p' K' t' a0 a1 a2 a3 a4 ?_) r1 (fun e => y (inj p' K' t' a2 a3 a4 tl e))
        omega
    have go : t ≤ 3 → ∀ s2, s2 = (if p = τ.1 1 1 then 0 else 1000000000) → Wz (Z12_findParts_60 kdG0 K10 K16 L 612 ts p K t (ixP p K t) 640 (ixP p K t) s2) σ Q := fun tl s2 h2 => by
      have ib := ixb (by omega)
      obtain ⟨ρ, hρ⟩ : ∃ ρ : kzM, ρ = (v2 (v2 σ.1 640 (ixP p K t) s2) 642 (ixP p K t) 0, v2 σ.2 641 (ixP p K t) 1) := ⟨_, rfl⟩
      have r1 : onP4 (ixP p K t) σ ρ := by
        rw [hρ]
        refine ⟨fun a x y1 y2 => ?_, fun a x y1 => ?_⟩
        · dsimp only
          rw [v2_eq, if_neg y2, v2_eq, if_neg y1]
        · dsimp only
          rw [v2_eq, if_neg y1]
      have f0 : ρ.1 640 (ixP p K t) = s2 := by rw [hρ]; dsimp only; rw [v2_ne _ _ _ _ (by decide), v2_self]
      have f1 : ρ.2 641 (ixP p K t) = 1 := by rw [hρ]; exact v2_self _ _ _ _
      have f2 : ρ.1 642 (ixP p K t) = 0 := by rw [hρ]; exact v2_self _ _ _ _
      have e1' : ρ.1 612 1 = τ.1 1 1 := by rw [r1.1 612 1 (by omega) (by omega), e1]
      simp only [Z12_findParts_60, Z12_findParts_98, Wz_rt, Wz_cnd, Wz_lI, Wz_lW, Wz_lL, Wz_cl, Wz_cv, Wz_nz, Wz_gI, Wz_gR, Wz_sI, Wz_aI, Wz_aZ, Wz_aL, Wz_aN, Wz_aR, Wz_tI, Wz_tZ, Wz_tL, Option.some.injEq, exists_eq_left', zB_0, zB_1, true_and, and_true, true_implies, not_true_eq_false, false_implies, not_false_eq_true, Classical.not_not, g_0, g_1, g_2, g_3, g_4, g_5, g_327, g_328, g_329, g_330, g_331, g_332, g_333, g_334, g_335, g_336, g_337, g_338, g_339, g_340, g_341, g_342, g_343, g_464, g_465, g_466, g_484, g_485, g_486, g_487, g_488, g_489, g_490, g_491, g_492, g_493, g_494, g_495, g_496, g_497, g_498, g_499, g_500, g_501, g_562, g_563, g_564, g_565, g_566, g_567, g_568, g_574, g_580, g_581, g_582, g_583, g_584, g_585, g_586, g_587, g_588, g_589, g_590, g_591, g_592, g_600, g_601, g_602, g_603, g_604, g_605, g_606, g_607, g_608, g_609, g_610, g_611, g_612, g_613, g_614, g_615, g_616, g_617, g_618, g_619, g_620, g_621, g_622, g_623, g_624, g_625, g_626, g_627, g_628, g_629, g_630, g_631, g_632, g_633, g_634, g_635, g_636, g_637, g_638, g_639, g_640, g_641, g_642, g_643, g_644, g_645, g_646, g_647, g_648, g_649, g_650, g_651, g_652, g_653, g_654, g_655, g_656, g_657, g_658, g_659, g_660, g_661, g_662, g_0_0, g_0_1, g_0_2, g_0_3, g_0_4, g_0_5, g_0_6, g_0_7, g_0_8, g_0_9, g_0_10, g_0_11, g_1_0, g_3_0, g_327_0, g_327_1, g_327_2, g_327_3, g_328_0, g_330_0, g_332_0, g_334_0, g_336_0, g_336_1, g_336_2, g_336_3, g_337_0, g_339_0, g_341_0, g_464_0, g_464_1, g_484_0, g_484_1, g_484_2, g_485_0, g_487_0, g_489_0, g_491_0, g_491_1, g_491_2, g_491_3, g_491_4, g_491_5, g_491_6, g_491_7, g_496_0, g_498_0, g_500_0, g_500_1, g_500_3, g_500_4, g_500_5, g_500_6, g_500_7, g_562_0, g_564_0, g_566_0, g_580_0, g_580_1, g_580_2, g_580_3, g_581_0, g_583_0, g_585_0, g_588_1, g_588_2, g_588_3, g_588_4, g_588_6, g_601_0, g_601_1, g_601_2, g_601_3, g_601_4, g_601_5, g_601_6, g_601_7, g_601_8, g_608_0, g_610_0, g_612_0, g_612_2, g_612_4, g_612_5, g_612_7, g_612_8, g_612_9, g_612_10, g_612_11, g_612_12, g_612_13, g_612_14, g_612_15, g_612_16, g_612_19, g_612_20, g_612_22, g_612_24, g_612_25, g_612_26, g_612_27, g_612_28, g_612_30, g_612_31, g_612_32, g_612_33, g_612_34, g_612_36, g_612_37, g_612_38, g_612_39, g_612_40, g_612_41, g_612_42, g_612_43, g_612_44, g_612_46, g_612_47, g_612_48, g_612_49, g_612_50, g_612_53, g_612_56, g_612_57, g_612_58, g_612_59, g_612_61, g_612_62, g_612_63, g_612_64]
      have e1'' : v2 (v2 σ.1 640 (ixP p K t) s2) 642 (ixP p K t) 0 612 1 = τ.1 1 1 := by rw [v2_ne _ _ _ _ (by decide), v2_ne _ _ _ _ (by decide), e1]
      rw [← hρ, e1'']
      refine ⟨by omega, by omega, by omega, fun c => ?_, fun c => ⟨fun d => ?_, fun d => ?_⟩⟩
      · have ep : p = τ.1 1 1 := by omega
        rw [if_pos ep] at h2
        refine next tl ρ r1 (Or.inl ⟨0, ?_, f2⟩)
        rw [f0, f1, h2, ep]
        exact ptD.bR_end (D := ptW τ ts) (ptW_ok hI ts) K t
      · have K0 : K = 0 := by omega
        rw [if_neg (by omega)] at h2
        refine next tl ρ r1 (Or.inr ⟨by rw [f0, h2], by rw [f1]; omega, f2, fun ⟨j, S, P, hj, h⟩ => ?_⟩)
        rw [show j = 0 by omega] at h
        have := h.1
        rw [show (ptW τ ts).L = τ.1 1 1 from rfl] at this
        omega
      · refine W12_findPart hI (by omega) p0 (by omega) t0 tl (hL.onP4 r1) (hp.on r1.up) (fun l l0 l1 t' h0 h1 => ?_) fun ζ z1 z2 => next tl ζ (r1.tr z1) z2
        refine entR_on (ha (p + l) (K - 1) t' (by omega) l1 (by omega) h0 h1 (Or.inl (by omega))) r1 (fun e => ?_)
        have := inj (p + l) (K - 1) t' (by omega) h0 h1 tl e
        omega
    unfold Z12_findParts_24B
    simp only [Z12_placeOf, Wz_rt, Wz_cnd, Wz_lI, Wz_lW, Wz_lL, Wz_cl, Wz_cv, Wz_nz, Wz_gI, Wz_gR, Wz_sI, Wz_aI, Wz_aZ, Wz_aL, Wz_aN, Wz_aR, Wz_tI, Wz_tZ, Wz_tL, Option.some.injEq, exists_eq_left', zB_0, zB_1, true_and, and_true, true_implies, not_true_eq_false, false_implies, not_false_eq_true, Classical.not_not, g_0, g_1, g_2, g_3, g_4, g_5, g_327, g_328, g_329, g_330, g_331, g_332, g_333, g_334, g_335, g_336, g_337, g_338, g_339, g_340, g_341, g_342, g_343, g_464, g_465, g_466, g_484, g_485, g_486, g_487, g_488, g_489, g_490, g_491, g_492, g_493, g_494, g_495, g_496, g_497, g_498, g_499, g_500, g_501, g_562, g_563, g_564, g_565, g_566, g_567, g_568, g_574, g_580, g_581, g_582, g_583, g_584, g_585, g_586, g_587, g_588, g_589, g_590, g_591, g_592, g_600, g_601, g_602, g_603, g_604, g_605, g_606, g_607, g_608, g_609, g_610, g_611, g_612, g_613, g_614, g_615, g_616, g_617, g_618, g_619, g_620, g_621, g_622, g_623, g_624, g_625, g_626, g_627, g_628, g_629, g_630, g_631, g_632, g_633, g_634, g_635, g_636, g_637, g_638, g_639, g_640, g_641, g_642, g_643, g_644, g_645, g_646, g_647, g_648, g_649, g_650, g_651, g_652, g_653, g_654, g_655, g_656, g_657, g_658, g_659, g_660, g_661, g_662, g_0_0, g_0_1, g_0_2, g_0_3, g_0_4, g_0_5, g_0_6, g_0_7, g_0_8, g_0_9, g_0_10, g_0_11, g_1_0, g_3_0, g_327_0, g_327_1, g_327_2, g_327_3, g_328_0, g_330_0, g_332_0, g_334_0, g_336_0, g_336_1, g_336_2, g_336_3, g_337_0, g_339_0, g_341_0, g_464_0, g_464_1, g_484_0, g_484_1, g_484_2, g_485_0, g_487_0, g_489_0, g_491_0, g_491_1, g_491_2, g_491_3, g_491_4, g_491_5, g_491_6, g_491_7, g_496_0, g_498_0, g_500_0, g_500_1, g_500_3, g_500_4, g_500_5, g_500_6, g_500_7, g_562_0, g_564_0, g_566_0, g_580_0, g_580_1, g_580_2, g_580_3, g_581_0, g_583_0, g_585_0, g_588_1, g_588_2, g_588_3, g_588_4, g_588_6, g_601_0, g_601_1, g_601_2, g_601_3, g_601_4, g_601_5, g_601_6, g_601_7, g_601_8, g_608_0, g_610_0, g_612_0, g_612_2, g_612_4, g_612_5, g_612_7, g_612_8, g_612_9, g_612_10, g_612_11, g_612_12, g_612_13, g_612_14, g_612_15, g_612_16, g_612_19, g_612_20, g_612_22, g_612_24, g_612_25, g_612_26, g_612_27, g_612_28, g_612_30, g_612_31, g_612_32, g_612_33, g_612_34, g_612_36, g_612_37, g_612_38, g_612_39, g_612_40, g_612_41, g_612_42, g_612_43, g_612_44, g_612_46, g_612_47, g_612_48, g_612_49, g_612_50, g_612_53, g_612_56, g_612_57, g_612_58, g_612_59, g_612_61, g_612_62, g_612_63, g_612_64, ix0, e1]
    refine ⟨fun c => ⟨by omega, hQ σ hL hp (fun p' K' t' a0 a1 a2 a3 a4 a5 => ha p' K' t' a0 a1 a2 a3 a4 (by omega))⟩, fun c => ⟨by have := ixb (by omega); omega, fun d => go (by omega) 0 (by rw [if_pos d]), fun d => go (by omega) _ (by rw [if_neg d])⟩⟩
set_option maxRecDepth 100000 in
theorem W12_findParts {τ σ : kzM} (hI : Inv τ) (hL : tabL τ σ) {ts : Int} {Q : Unit → kzM → Prop} (hQ : ∀ ρ, tabL τ ρ → priP τ ts ρ → (∀ (p : Int) (K : Nat) (t : Int), 0 ≤ p → p ≤ τ.1 1 1 → K ≤ 4 → 0 ≤ t → t ≤ 3 → entR τ ts ρ p K t) → Q () ρ) : Wz (Z12_findParts kdG0 612 ts) σ Q := by
  have i1 := hI.1
  unfold I1 at i1
  have g16 : ∀ (p : Int), 0 ≤ p → p ≤ τ.1 1 1 → ∀ (K10 : Nat → Int → Int → kzM → Option (Unit × kzM)), (∀ ρ, tabL τ ρ → priP τ ts ρ → allR τ ts ρ (p - 1) 0 0 → Wz (K10 612 ts (p + -1)) ρ Q) → ∀ (N K : Nat) (ρ : kzM), K ≤ 5 → 6 - K < N → tabL τ ρ → priP τ ts ρ → allR τ ts ρ p K 0 → Wz (lp (fun _ _ _ _ _ => none) (Z12_findParts_16B kdG0 K10) N 612 ts p K) ρ Q := by
    intro p p0 p1 K10 hK10 N
    induction N with
    | zero => intro K; intros; omega
    | succ N ih =>
      intro K ρ K1 KN hL hp ha
      rw [lp_succ]
      have ih' := ih (K + 1)
      generalize lp (fun _ _ _ _ _ => none) (Z12_findParts_16B kdG0 K10) N = L at ih' ⊢
      unfold Z12_findParts_16B
      simp only [Wz_rt, Wz_cnd, Wz_lI, Wz_lW, Wz_lL, Wz_cl, Wz_cv, Wz_nz, Wz_gI, Wz_gR, Wz_sI, Wz_aI, Wz_aZ, Wz_aL, Wz_aN, Wz_aR, Wz_tI, Wz_tZ, Wz_tL, Option.some.injEq, exists_eq_left', zB_0, zB_1, true_and, and_true, true_implies, not_true_eq_false, false_implies, not_false_eq_true, Classical.not_not, g_0, g_1, g_2, g_3, g_4, g_5, g_327, g_328, g_329, g_330, g_331, g_332, g_333, g_334, g_335, g_336, g_337, g_338, g_339, g_340, g_341, g_342, g_343, g_464, g_465, g_466, g_484, g_485, g_486, g_487, g_488, g_489, g_490, g_491, g_492, g_493, g_494, g_495, g_496, g_497, g_498, g_499, g_500, g_501, g_562, g_563, g_564, g_565, g_566, g_567, g_568, g_574, g_580, g_581, g_582, g_583, g_584, g_585, g_586, g_587, g_588, g_589, g_590, g_591, g_592, g_600, g_601, g_602, g_603, g_604, g_605, g_606, g_607, g_608, g_609, g_610, g_611, g_612, g_613, g_614, g_615, g_616, g_617, g_618, g_619, g_620, g_621, g_622, g_623, g_624, g_625, g_626, g_627, g_628, g_629, g_630, g_631, g_632, g_633, g_634, g_635, g_636, g_637, g_638, g_639, g_640, g_641, g_642, g_643, g_644, g_645, g_646, g_647, g_648, g_649, g_650, g_651, g_652, g_653, g_654, g_655, g_656, g_657, g_658, g_659, g_660, g_661, g_662, g_0_0, g_0_1, g_0_2, g_0_3, g_0_4, g_0_5, g_0_6, g_0_7, g_0_8, g_0_9, g_0_10, g_0_11, g_1_0, g_3_0, g_327_0, g_327_1, g_327_2, g_327_3, g_328_0, g_330_0, g_332_0, g_334_0, g_336_0, g_336_1, g_336_2, g_336_3, g_337_0, g_339_0, g_341_0, g_464_0, g_464_1, g_484_0, g_484_1, g_484_2, g_485_0, g_487_0, g_489_0, g_491_0, g_491_1, g_491_2, g_491_3, g_491_4, g_491_5, g_491_6, g_491_7, g_496_0, g_498_0, g_500_0, g_500_1, g_500_3, g_500_4, g_500_5, g_500_6, g_500_7, g_562_0, g_564_0, g_566_0, g_580_0, g_580_1, g_580_2, g_580_3, g_581_0, g_583_0, g_585_0, g_588_1, g_588_2, g_588_3, g_588_4, g_588_6, g_601_0, g_601_1, g_601_2, g_601_3, g_601_4, g_601_5, g_601_6, g_601_7, g_601_8, g_608_0, g_610_0, g_612_0, g_612_2, g_612_4, g_612_5, g_612_7, g_612_8, g_612_9, g_612_10, g_612_11, g_612_12, g_612_13, g_612_14, g_612_15, g_612_16, g_612_19, g_612_20, g_612_22, g_612_24, g_612_25, g_612_26, g_612_27, g_612_28, g_612_30, g_612_31, g_612_32, g_612_33, g_612_34, g_612_36, g_612_37, g_612_38, g_612_39, g_612_40, g_612_41, g_612_42, g_612_43, g_612_44, g_612_46, g_612_47, g_612_48, g_612_49, g_612_50, g_612_53, g_612_56, g_612_57, g_612_58, g_612_59, g_612_61, g_612_62, g_612_63, g_612_64]
      refine ⟨fun c => ⟨by omega, hK10 ρ hL hp (fun p' K' t' a0 a1 a2 a3 a4 a5 => ha p' K' t' a0 a1 a2 a3 a4 (by omega))⟩, fun c => ?_⟩
      unfold Z12_findParts_24
      refine W12_fpa_24 hI (by omega) p0 p1 (fun ζ z1 z2 z3 => ?_) NN 0 ρ (by omega) (by omega) (by unfold NN; omega) hL hp ha
      rw [show (K : Int) + 1 = ((K + 1 : Nat) : Int) by omega] at z3 ⊢
      exact ih' ζ (by omega) (by omega) z1 z2 z3
  have g10 : ∀ (N : Nat) (p : Int) (ρ : kzM), -1 ≤ p → p ≤ τ.1 1 1 → p + 2 ≤ N → tabL τ ρ → priP τ ts ρ → allR τ ts ρ p 0 0 → Wz (lp (fun _ _ _ _ => none) (Z12_findParts_10B kdG0) N 612 ts p) ρ Q := by
    intro N
    induction N with
    | zero => intro p; intros; omega
    | succ N ih =>
      intro p ρ p0 p1 pN hL hp ha
      rw [lp_succ]
      have ih' := ih (p - 1)
      generalize lp (fun _ _ _ _ => none) (Z12_findParts_10B kdG0) N = L at ih' ⊢
      unfold Z12_findParts_10B
      simp only [Wz_rt, Wz_cnd, Wz_lI, Wz_lW, Wz_lL, Wz_cl, Wz_cv, Wz_nz, Wz_gI, Wz_gR, Wz_sI, Wz_aI, Wz_aZ, Wz_aL, Wz_aN, Wz_aR, Wz_tI, Wz_tZ, Wz_tL, Option.some.injEq, exists_eq_left', zB_0, zB_1, true_and, and_true, true_implies, not_true_eq_false, false_implies, not_false_eq_true, Classical.not_not, g_0, g_1, g_2, g_3, g_4, g_5, g_327, g_328, g_329, g_330, g_331, g_332, g_333, g_334, g_335, g_336, g_337, g_338, g_339, g_340, g_341, g_342, g_343, g_464, g_465, g_466, g_484, g_485, g_486, g_487, g_488, g_489, g_490, g_491, g_492, g_493, g_494, g_495, g_496, g_497, g_498, g_499, g_500, g_501, g_562, g_563, g_564, g_565, g_566, g_567, g_568, g_574, g_580, g_581, g_582, g_583, g_584, g_585, g_586, g_587, g_588, g_589, g_590, g_591, g_592, g_600, g_601, g_602, g_603, g_604, g_605, g_606, g_607, g_608, g_609, g_610, g_611, g_612, g_613, g_614, g_615, g_616, g_617, g_618, g_619, g_620, g_621, g_622, g_623, g_624, g_625, g_626, g_627, g_628, g_629, g_630, g_631, g_632, g_633, g_634, g_635, g_636, g_637, g_638, g_639, g_640, g_641, g_642, g_643, g_644, g_645, g_646, g_647, g_648, g_649, g_650, g_651, g_652, g_653, g_654, g_655, g_656, g_657, g_658, g_659, g_660, g_661, g_662, g_0_0, g_0_1, g_0_2, g_0_3, g_0_4, g_0_5, g_0_6, g_0_7, g_0_8, g_0_9, g_0_10, g_0_11, g_1_0, g_3_0, g_327_0, g_327_1, g_327_2, g_327_3, g_328_0, g_330_0, g_332_0, g_334_0, g_336_0, g_336_1, g_336_2, g_336_3, g_337_0, g_339_0, g_341_0, g_464_0, g_464_1, g_484_0, g_484_1, g_484_2, g_485_0, g_487_0, g_489_0, g_491_0, g_491_1, g_491_2, g_491_3, g_491_4, g_491_5, g_491_6, g_491_7, g_496_0, g_498_0, g_500_0, g_500_1, g_500_3, g_500_4, g_500_5, g_500_6, g_500_7, g_562_0, g_564_0, g_566_0, g_580_0, g_580_1, g_580_2, g_580_3, g_581_0, g_583_0, g_585_0, g_588_1, g_588_2, g_588_3, g_588_4, g_588_6, g_601_0, g_601_1, g_601_2, g_601_3, g_601_4, g_601_5, g_601_6, g_601_7, g_601_8, g_608_0, g_610_0, g_612_0, g_612_2, g_612_4, g_612_5, g_612_7, g_612_8, g_612_9, g_612_10, g_612_11, g_612_12, g_612_13, g_612_14, g_612_15, g_612_16, g_612_19, g_612_20, g_612_22, g_612_24, g_612_25, g_612_26, g_612_27, g_612_28, g_612_30, g_612_31, g_612_32, g_612_33, g_612_34, g_612_36, g_612_37, g_612_38, g_612_39, g_612_40, g_612_41, g_612_42, g_612_43, g_612_44, g_612_46, g_612_47, g_612_48, g_612_49, g_612_50, g_612_53, g_612_56, g_612_57, g_612_58, g_612_59, g_612_61, g_612_62, g_612_63, g_612_64]
      refine ⟨fun c => hQ ρ hL hp (fun p' K' t' a0 a1 a2 a3 a4 => ha p' K' t' a0 a1 a2 a3 a4 (Or.inl (by omega))), fun c => ?_⟩
      unfold Z12_findParts_16
      exact g16 p (by omega) p1 L (fun ζ z1 z2 z3 => by
        rw [show p + -1 = p - 1 by omega]
        exact ih' ζ (by omega) (by omega) (by omega) z1 z2 z3) NN 0 ρ (by omega) (by unfold NN; omega) hL hp ha
  simp only [Z12_findParts, Wz_rt, Wz_cnd, Wz_lI, Wz_lW, Wz_lL, Wz_cl, Wz_cv, Wz_nz, Wz_gI, Wz_gR, Wz_sI, Wz_aI, Wz_aZ, Wz_aL, Wz_aN, Wz_aR, Wz_tI, Wz_tZ, Wz_tL, Option.some.injEq, exists_eq_left', zB_0, zB_1, true_and, and_true, true_implies, not_true_eq_false, false_implies, not_false_eq_true, Classical.not_not, g_0, g_1, g_2, g_3, g_4, g_5, g_327, g_328, g_329, g_330, g_331, g_332, g_333, g_334, g_335, g_336, g_337, g_338, g_339, g_340, g_341, g_342, g_343, g_464, g_465, g_466, g_484, g_485, g_486, g_487, g_488, g_489, g_490, g_491, g_492, g_493, g_494, g_495, g_496, g_497, g_498, g_499, g_500, g_501, g_562, g_563, g_564, g_565, g_566, g_567, g_568, g_574, g_580, g_581, g_582, g_583, g_584, g_585, g_586, g_587, g_588, g_589, g_590, g_591, g_592, g_600, g_601, g_602, g_603, g_604, g_605, g_606, g_607, g_608, g_609, g_610, g_611, g_612, g_613, g_614, g_615, g_616, g_617, g_618, g_619, g_620, g_621, g_622, g_623, g_624, g_625, g_626, g_627, g_628, g_629, g_630, g_631, g_632, g_633, g_634, g_635, g_636, g_637, g_638, g_639, g_640, g_641, g_642, g_643, g_644, g_645, g_646, g_647, g_648, g_649, g_650, g_651, g_652, g_653, g_654, g_655, g_656, g_657, g_658, g_659, g_660, g_661, g_662, g_0_0, g_0_1, g_0_2, g_0_3, g_0_4, g_0_5, g_0_6, g_0_7, g_0_8, g_0_9, g_0_10, g_0_11, g_1_0, g_3_0, g_327_0, g_327_1, g_327_2, g_327_3, g_328_0, g_330_0, g_332_0, g_334_0, g_336_0, g_336_1, g_336_2, g_336_3, g_337_0, g_339_0, g_341_0, g_464_0, g_464_1, g_484_0, g_484_1, g_484_2, g_485_0, g_487_0, g_489_0, g_491_0, g_491_1, g_491_2, g_491_3, g_491_4, g_491_5, g_491_6, g_491_7, g_496_0, g_498_0, g_500_0, g_500_1, g_500_3, g_500_4, g_500_5, g_500_6, g_500_7, g_562_0, g_564_0, g_566_0, g_580_0, g_580_1, g_580_2, g_580_3, g_581_0, g_583_0, g_585_0, g_588_1, g_588_2, g_588_3, g_588_4, g_588_6, g_601_0, g_601_1, g_601_2, g_601_3, g_601_4, g_601_5, g_601_6, g_601_7, g_601_8, g_608_0, g_610_0, g_612_0, g_612_2, g_612_4, g_612_5, g_612_7, g_612_8, g_612_9, g_612_10, g_612_11, g_612_12, g_612_13, g_612_14, g_612_15, g_612_16, g_612_19, g_612_20, g_612_22, g_612_24, g_612_25, g_612_26, g_612_27, g_612_28, g_612_30, g_612_31, g_612_32, g_612_33, g_612_34, g_612_36, g_612_37, g_612_38, g_612_39, g_612_40, g_612_41, g_612_42, g_612_43, g_612_44, g_612_46, g_612_47, g_612_48, g_612_49, g_612_50, g_612_53, g_612_56, g_612_57, g_612_58, g_612_59, g_612_61, g_612_62, g_612_63, g_612_64]
  refine W12_findPrices hI hL fun ρ r1 r2 => ?_
  rw [r1 612 1 (by decide), i1.2.1]
  unfold Z12_findParts_10
  exact g10 NN (τ.1 1 1) ρ (by omega) (by omega) (by unfold NN; omega) r1 r2 (fun p' K' t' a0 a1 a2 a3 a4 a5 => by omega)
