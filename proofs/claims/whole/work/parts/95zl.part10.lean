/-! parting: the reference lays the pieces -/
theorem ptD.vR_ex {D : ptD} (ok : D.ok) {K k : Nat} {p t S P : Int} (h : D.bR (K + 1) p t S P (k + 1)) (ex : ∀ w l, D.cd p w l → ∀ (j : Nat) s q, j ≤ K → D.At j (p + l) (D.tg w) s q → ∃ s' q' m', D.bR K (p + l) (D.tg w) s' q' m') : ∃ w l, D.vR K p t w l S P (k + 1) := by
  obtain ⟨w, l, hc, s', q', ha, e1, e2⟩ := h.1.2
  have hk : k ≤ K := by have := h.1.1; omega
  obtain ⟨s, q, m, hr⟩ := ex w l hc k s' q' hk ha
  have a := hr.2 k s' q' hk ha
  have v : D.vR K p t w l (s + D.pr p w l + D.sw t (D.tg w)) (q * D.ct w) (m + 1) := ⟨hc, s, q, m, hr, rfl, rfl, rfl⟩
  have b := h.2 (m + 1) _ _ (D.vR_At v).1 (D.vR_At v).2
  have cp := (ok _ _ _ hc).2.2
  have es : s = s' := by
    rcases a with a | a <;> rcases b with b | b <;> omega
  subst es
  have eq : q = q' := by
    rcases Int.lt_trichotomy q q' with c | c | c
    · rcases a with a | a <;> omega
    · exact c
    · have m := mul_lt_i c cp
      rcases b with b | b <;> omega
  subst eq
  refine ⟨w, l, hc, s, q, m, hr, e1, e2, ?_⟩
  rcases a with a | a <;> rcases b with b | b <;> omega
theorem isLx_ex {G : Int → Int → Prop} {W : Nat} (hG : ∀ w l, G w l → (0 ≤ w ∧ w < W) ∧ 0 ≤ l ∧ l < 16) (h : ∃ w l, G w l) : ∃ w l, isLx G w l := by
  obtain ⟨w, l, h⟩ := h
  have b := hG w l h
  obtain ⟨r, ⟨r0, r1⟩, r2, r3⟩ := isF_ex (M := 16 * W) (P := fun c => G (c / 16) (c % 16)) (16 * W) ⟨16 * w + l, by omega, by
    try dsimp only
    rw [show (16 * w + l) / 16 = w by omega, show (16 * w + l) % 16 = l by omega]
    exact h⟩ (Nat.le_refl _)
  refine ⟨r / 16, r % 16, r2, fun w' l' h' d => ?_⟩
  have b' := hG w' l' h'
  refine r3 (16 * w' + l') (by omega) ?_ ?_
  · unfold dnP at d
    omega
  · try dsimp only
    rw [show (16 * w' + l') / 16 = w' by omega, show (16 * w' + l') % 16 = l' by omega]
    exact h'
def tabR (τ : kzM) (ts : Int) (ρ : kzM) : Prop := tabL τ ρ ∧ priP τ ts ρ ∧ ∀ (p : Int) (K : Nat) (t : Int), 0 ≤ p → p ≤ τ.1 1 1 → K ≤ 4 → 0 ≤ t → t ≤ 3 → entR τ ts ρ p K t
def on34 (σ ρ : kzM) : Prop := (∀ a x, a ≠ 643 → a ≠ 644 → ρ.1 a x = σ.1 a x) ∧ ρ.2 = σ.2
theorem on34.tr {σ ρ ζ : kzM} (h : on34 σ ρ) (k : on34 ρ ζ) : on34 σ ζ := ⟨fun a x y z => (k.1 a x y z).trans (h.1 a x y z), k.2.trans h.2⟩
theorem tabR.on {τ σ ρ : kzM} {ts : Int} (h : tabR τ ts σ) (k : on34 σ ρ) : tabR τ ts ρ := by
  refine ⟨h.1.tr (fun a x z => k.1 a x (fun q => z (by rw [q]; rfl)) (fun q => z (by rw [q]; rfl))), fun p w l hc p0 => (k.1 645 _ (by decide) (by decide)).trans (h.2.1 p w l hc p0), fun p K t a b c d e => ?_⟩
  have q := h.2.2 p K t a b c d e
  unfold entR at q ⊢
  rw [k.1 640 _ (by decide) (by decide), k.1 642 _ (by decide) (by decide), k.2]
  exact q
theorem tabR.ex {τ ρ : kzM} (hI : Inv τ) {ts : Int} (h : tabR τ ts ρ) : ∀ (K : Nat) (p w l : Int), K ≤ 3 → 0 ≤ p → (ptW τ ts).cd p w l → ∀ (j : Nat) s q, j ≤ K → (ptW τ ts).At j (p + l) ((ptW τ ts).tg w) s q → ∃ s' q' m', (ptW τ ts).bR K (p + l) ((ptW τ ts).tg w) s' q' m' := fun K p w l hK p0 hc j s q hj ha => by
  have cc := ptW_cd.1 hc
  have pw := ptW_w hI cc.1.1 cc.1.2
  have tg0 : (ptW τ ts).tg w = τ.1 338 w := rfl
  rw [tg0] at ha ⊢
  rcases h.2.2 (p + l) K (τ.1 338 w) (by omega) cc.2.2.2 (by omega) (by omega) (by omega) with ⟨M, h, _⟩ | ⟨_, _, _, h⟩
  · exact ⟨_, _, M, h⟩
  · exact absurd ⟨j, s, q, hj, ha⟩ h
set_option maxRecDepth 100000 in
theorem W12_isBest {τ ρ : kzM} (hI : Inv τ) {ts : Int} (hT : tabR τ ts ρ) {p t w l S P : Int} {K k : Nat} (hK : K ≤ 3) (p0 : 0 ≤ p) (t0 : 0 ≤ t) (t1 : t ≤ 3) (hcd : (ptW τ ts).cd p w l) (hR : (ptW τ ts).bR (K + 1) p t S P (k + 1)) {Q : Int → kzM → Prop} (hQ : Q (zp ((ptW τ ts).vR K p t w l S P (k + 1))) ρ) : Wz (Z12_isBestPart kdG0 612 p ((K : Int) + 1) t w l) ρ Q := by
  obtain ⟨hL, hp, hE⟩ := hT
  have cc := ptW_cd.1 hcd
  have pw := ptW_w hI cc.1.1 cc.1.2
  have i1 := hI.1
  unfold I1 at i1
  have en := hE (p + l) K (τ.1 338 w) (by omega) cc.2.2.2 (by omega) (by omega) (by omega)
  have eb := entR_b hI hK en
  have me : ρ.1 640 (ixP p ((K : Int) + 1) t) = S ∧ ρ.2 641 (ixP p ((K : Int) + 1) t) = P ∧ ρ.1 642 (ixP p ((K : Int) + 1) t) = (k : Int) + 1 := by
    rcases hE p (K + 1) t p0 (by omega) (by omega) t0 t1 with ⟨M, h, e⟩ | ⟨_, _, _, h⟩
    · obtain ⟨u1, u2, u3⟩ := ptD.bR_u h hR
      rw [show ((K + 1 : Nat) : Int) = (K : Int) + 1 by omega] at u1 u2 e
      exact ⟨u1, u2, by omega⟩
    · exact absurd ⟨k + 1, S, P, hR.1.1, hR.1.2⟩ h
  have zb := ptW_b hI (k + 1) _ _ _ _ (by have := hR.1.1; omega) hR.1.2
  have ix0 : 20 * p + 4 * ((K : Int) + 1) + t = ixP p ((K : Int) + 1) t := rfl
  have ixb : 0 ≤ ixP p ((K : Int) + 1) t ∧ ixP p ((K : Int) + 1) t < 340 := by unfold ixP; omega
  have eK : (K : Int) + 1 - 1 = K := by omega
  have h45 := hp p w l hcd p0
  unfold entR at en
  simp only [Z12_isBestPart, Z12_isBestPart_74, Z12_isBestPart_75, Z12_placeOf, Wz_rt, Wz_cnd, Wz_lI, Wz_lW, Wz_lL, Wz_cl, Wz_cv, Wz_nz, Wz_gI, Wz_gR, Wz_sI, Wz_aI, Wz_aZ, Wz_aL, Wz_aN, Wz_aR, Wz_tI, Wz_tZ, Wz_tL, Option.some.injEq, exists_eq_left', zB_0, zB_1, true_and, and_true, true_implies, not_true_eq_false, false_implies, not_false_eq_true, Classical.not_not, g_0, g_1, g_2, g_3, g_4, g_5, g_327, g_328, g_329, g_330, g_331, g_332, g_333, g_334, g_335, g_336, g_337, g_338, g_339, g_340, g_341, g_342, g_343, g_464, g_465, g_466, g_484, g_485, g_486, g_487, g_488, g_489, g_490, g_491, g_492, g_493, g_494, g_495, g_496, g_497, g_498, g_499, g_500, g_501, g_562, g_563, g_564, g_565, g_566, g_567, g_568, g_574, g_580, g_581, g_582, g_583, g_584, g_585, g_586, g_587, g_588, g_589, g_590, g_591, g_592, g_600, g_601, g_602, g_603, g_604, g_605, g_606, g_607, g_608, g_609, g_610, g_611, g_612, g_613, g_614, g_615, g_616, g_617, g_618, g_619, g_620, g_621, g_622, g_623, g_624, g_625, g_626, g_627, g_628, g_629, g_630, g_631, g_632, g_633, g_634, g_635, g_636, g_637, g_638, g_639, g_640, g_641, g_642, g_643, g_644, g_645, g_646, g_647, g_648, g_649, g_650, g_651, g_652, g_653, g_654, g_655, g_656, g_657, g_658, g_659, g_660, g_661, g_662, g_0_0, g_0_1, g_0_2, g_0_3, g_0_4, g_0_5, g_0_6, g_0_7, g_0_8, g_0_9, g_0_10, g_0_11, g_1_0, g_3_0, g_327_0, g_327_1, g_327_2, g_327_3, g_328_0, g_330_0, g_332_0, g_334_0, g_336_0, g_336_1, g_336_2, g_336_3, g_337_0, g_339_0, g_341_0, g_464_0, g_464_1, g_484_0, g_484_1, g_484_2, g_485_0, g_487_0, g_489_0, g_491_0, g_491_1, g_491_2, g_491_3, g_491_4, g_491_5, g_491_6, g_491_7, g_496_0, g_498_0, g_500_0, g_500_1, g_500_3, g_500_4, g_500_5, g_500_6, g_500_7, g_562_0, g_564_0, g_566_0, g_580_0, g_580_1, g_580_2, g_580_3, g_581_0, g_583_0, g_585_0, g_588_1, g_588_2, g_588_3, g_588_4, g_588_6, g_601_0, g_601_1, g_601_2, g_601_3, g_601_4, g_601_5, g_601_6, g_601_7, g_601_8, g_608_0, g_610_0, g_612_0, g_612_2, g_612_4, g_612_5, g_612_7, g_612_8, g_612_9, g_612_10, g_612_11, g_612_12, g_612_13, g_612_14, g_612_15, g_612_16, g_612_19, g_612_20, g_612_22, g_612_24, g_612_25, g_612_26, g_612_27, g_612_28, g_612_30, g_612_31, g_612_32, g_612_33, g_612_34, g_612_36, g_612_37, g_612_38, g_612_39, g_612_40, g_612_41, g_612_42, g_612_43, g_612_44, g_612_46, g_612_47, g_612_48, g_612_49, g_612_50, g_612_53, g_612_56, g_612_57, g_612_58, g_612_59, g_612_61, g_612_62, g_612_63, g_612_64, ix0]
  refine ⟨by omega, W12_sumBy hI hL hcd p0 (by omega) (by omega) t0 t1 h45 (by rw [eK]) eb.1 (fun x9 => ?_) (fun x9 => ?_)⟩
  · have none : ¬(ptW τ ts).vR K p t w l S P (k + 1) := fun ⟨_, s, q, m, hb, _⟩ => by
      rcases en with ⟨M, h, _⟩ | ⟨_, _, _, h⟩
      · have z := ptW_b hI M _ _ _ _ (by have := h.1.1; omega) h.1.2
        have := h.1.1
        omega
      · exact h ⟨m, s, q, hb.1.1, hb.1.2⟩
    rw [zp_neg none] at hQ
    rw [me.1]
    have := hR.1.1
    exact ⟨by omega, fun z => by omega, fun _ => hQ⟩
  · rcases en with ⟨M, hb, em⟩ | ⟨z, _⟩
    · have v : (ptW τ ts).vR K p t w l (ρ.1 640 (ixP (p + l) (K : Int) (τ.1 338 w)) + (ptW τ ts).pr p w l + (ptW τ ts).sw t (τ.1 338 w)) (ρ.2 641 (ixP (p + l) (K : Int) (τ.1 338 w)) * (ptW τ ts).ct w) (M + 1) := ⟨hcd, _, _, M, hb, rfl, rfl, rfl⟩
      rw [me.1]
      refine ⟨by omega, fun c1 => W12_productBy hI hL hcd p0 (by omega) (by omega) (by rw [eK]) eb.2.1 ?_, fun c1 => ?_⟩
      · rw [me.2.1]
        refine ⟨by omega, fun c2 => W12_manyBy hI hL hcd p0 (by omega) (by omega) (by rw [eK]) eb.2.2 ?_, fun c2 => ?_⟩
        · rw [me.2.2, em]
          refine ⟨by omega, fun c3 => ?_, fun c3 => ?_⟩
          · rw [zp_pos (by rw [← c1, ← c2, show k + 1 = M + 1 by omega]; exact v)] at hQ
            exact hQ
          · rw [zp_neg (fun z => c3 (by have := vR_u v z; omega))] at hQ
            exact hQ
        · rw [zp_neg (fun z => c2 (vR_u v z).2.1)] at hQ
          exact hQ
      · rw [zp_neg (fun z => c1 (vR_u v z).1)] at hQ
        exact hQ
    · exact absurd z x9
set_option maxRecDepth 100000 in
theorem W12_ly_24z {ts p K t i : Int} {K10 : Nat → Int → Int → Int → Int → Int → kzM → Option (Int × kzM)} {Q : Int → kzM → Prop} {σ : kzM} (hQ : Wz (Z12_layParts_127 kdG0 K10 612 ts p K i) σ Q) : ∀ (N : Nat) (w : Int), Wz (lp (fun _ _ _ _ _ _ _ _ _ => none) (Z12_layParts_24B kdG0 K10) (N + 1) 612 ts p K t i 1 w) σ Q := by
  intro N w
  rw [lp_succ]
  generalize lp (fun _ _ _ _ _ _ _ _ _ => none) (Z12_layParts_24B kdG0 K10) N = L
  unfold Z12_layParts_24B
  simp only [Wz_rt, Wz_cnd, Wz_lI, Wz_lW, Wz_lL, Wz_cl, Wz_cv, Wz_nz, Wz_gI, Wz_gR, Wz_sI, Wz_aI, Wz_aZ, Wz_aL, Wz_aN, Wz_aR, Wz_tI, Wz_tZ, Wz_tL, Option.some.injEq, exists_eq_left', zB_0, zB_1, true_and, and_true, true_implies, not_true_eq_false, false_implies, not_false_eq_true, Classical.not_not, g_0, g_1, g_2, g_3, g_4, g_5, g_327, g_328, g_329, g_330, g_331, g_332, g_333, g_334, g_335, g_336, g_337, g_338, g_339, g_340, g_341, g_342, g_343, g_464, g_465, g_466, g_484, g_485, g_486, g_487, g_488, g_489, g_490, g_491, g_492, g_493, g_494, g_495, g_496, g_497, g_498, g_499, g_500, g_501, g_562, g_563, g_564, g_565, g_566, g_567, g_568, g_574, g_580, g_581, g_582, g_583, g_584, g_585, g_586, g_587, g_588, g_589, g_590, g_591, g_592, g_600, g_601, g_602, g_603, g_604, g_605, g_606, g_607, g_608, g_609, g_610, g_611, g_612, g_613, g_614, g_615, g_616, g_617, g_618, g_619, g_620, g_621, g_622, g_623, g_624, g_625, g_626, g_627, g_628, g_629, g_630, g_631, g_632, g_633, g_634, g_635, g_636, g_637, g_638, g_639, g_640, g_641, g_642, g_643, g_644, g_645, g_646, g_647, g_648, g_649, g_650, g_651, g_652, g_653, g_654, g_655, g_656, g_657, g_658, g_659, g_660, g_661, g_662, g_0_0, g_0_1, g_0_2, g_0_3, g_0_4, g_0_5, g_0_6, g_0_7, g_0_8, g_0_9, g_0_10, g_0_11, g_1_0, g_3_0, g_327_0, g_327_1, g_327_2, g_327_3, g_328_0, g_330_0, g_332_0, g_334_0, g_336_0, g_336_1, g_336_2, g_336_3, g_337_0, g_339_0, g_341_0, g_464_0, g_464_1, g_484_0, g_484_1, g_484_2, g_485_0, g_487_0, g_489_0, g_491_0, g_491_1, g_491_2, g_491_3, g_491_4, g_491_5, g_491_6, g_491_7, g_496_0, g_498_0, g_500_0, g_500_1, g_500_3, g_500_4, g_500_5, g_500_6, g_500_7, g_562_0, g_564_0, g_566_0, g_580_0, g_580_1, g_580_2, g_580_3, g_581_0, g_583_0, g_585_0, g_588_1, g_588_2, g_588_3, g_588_4, g_588_6, g_601_0, g_601_1, g_601_2, g_601_3, g_601_4, g_601_5, g_601_6, g_601_7, g_601_8, g_608_0, g_610_0, g_612_0, g_612_2, g_612_4, g_612_5, g_612_7, g_612_8, g_612_9, g_612_10, g_612_11, g_612_12, g_612_13, g_612_14, g_612_15, g_612_16, g_612_19, g_612_20, g_612_22, g_612_24, g_612_25, g_612_26, g_612_27, g_612_28, g_612_30, g_612_31, g_612_32, g_612_33, g_612_34, g_612_36, g_612_37, g_612_38, g_612_39, g_612_40, g_612_41, g_612_42, g_612_43, g_612_44, g_612_46, g_612_47, g_612_48, g_612_49, g_612_50, g_612_53, g_612_56, g_612_57, g_612_58, g_612_59, g_612_61, g_612_62, g_612_63, g_612_64]
  exact ⟨fun _ => hQ, fun _ => ⟨fun z => absurd z (by decide), fun _ => hQ⟩⟩
set_option maxRecDepth 100000 in
theorem W12_ly_41 {τ : kzM} (hI : Inv τ) {ts p t S P : Int} {K k : Nat} (hK : K ≤ 3) (p0 : 0 ≤ p) (p1 : p < τ.1 1 1) (t0 : 0 ≤ t) (t1 : t ≤ 3) (hR : (ptW τ ts).bR (K + 1) p t S P (k + 1)) {ws ls : Int} (hx : isLx (fun w l => (ptW τ ts).vR K p t w l S P (k + 1)) ws ls) {i : Nat} (hi : i ≤ 3) {w : Int} (w0 : 0 ≤ w) (w1 : w ≤ ws) {K10 : Nat → Int → Int → Int → Int → Int → kzM → Option (Int × kzM)} {K24 : Nat → Int → Int → Int → Int → Int → Int → Int → kzM → Option (Int × kzM)} {Q : Int → kzM → Prop} {σ : kzM} (hT : tabR τ ts σ) (q0 : w < ws → Wz (K24 612 ts p ((K : Int) + 1) t i 0 (w + 1)) σ Q) (q1 : Wz (K24 612 ts p ((K : Int) + 1) t i 1 (ws + 1)) (v2 (v2 σ.1 643 i ws) 644 i ls, σ.2) Q) : ∀ (N : Nat) (l : Int), 1 ≤ l → l ≤ 11 → 13 - l < N → (w = ws → l ≤ ls) → Wz (lp (fun _ _ _ _ _ _ _ _ _ _ => none) (Z12_layParts_41B kdG0 K10 K24) N 612 ts p ((K : Int) + 1) t i 0 w l) σ Q := by
  have i1 := hI.1
  unfold I1 at i1
  have xc := ptW_cd.1 hx.1.1
  have pws := ptW_w hI xc.1.1 xc.1.2
  have pw := ptW_w hI w0 (show w < τ.1 337 1 by omega)
  have e1 : σ.1 612 1 = τ.1 1 1 := by rw [hT.1 612 1 (by decide), i1.2.1]
  have e30 : σ.1 630 w = τ.1 338 w := by rw [hT.1 630 w (by rw [md_5 (by decide)]; decide), pw.2.2.1]
  -- found: the rest of the round changes nothing
  have z41 : ∀ (N : Nat) (l : Int), 1 ≤ l → l ≤ 11 → Wz (lp (fun _ _ _ _ _ _ _ _ _ _ => none) (Z12_layParts_41B kdG0 K10 K24) (N + 1) 612 ts p ((K : Int) + 1) t i 1 ws l) (v2 (v2 σ.1 643 i ws) 644 i ls, σ.2) Q := fun N l l0 l1 => by
    rw [lp_succ]
    generalize lp (fun _ _ _ _ _ _ _ _ _ _ => none) (Z12_layParts_41B kdG0 K10 K24) N = L
    unfold Z12_layParts_41B
    simp only [Z12_layParts_121, Wz_rt, Wz_cnd, Wz_lI, Wz_lW, Wz_lL, Wz_cl, Wz_cv, Wz_nz, Wz_gI, Wz_gR, Wz_sI, Wz_aI, Wz_aZ, Wz_aL, Wz_aN, Wz_aR, Wz_tI, Wz_tZ, Wz_tL, Option.some.injEq, exists_eq_left', zB_0, zB_1, true_and, and_true, true_implies, not_true_eq_false, false_implies, not_false_eq_true, Classical.not_not, g_0, g_1, g_2, g_3, g_4, g_5, g_327, g_328, g_329, g_330, g_331, g_332, g_333, g_334, g_335, g_336, g_337, g_338, g_339, g_340, g_341, g_342, g_343, g_464, g_465, g_466, g_484, g_485, g_486, g_487, g_488, g_489, g_490, g_491, g_492, g_493, g_494, g_495, g_496, g_497, g_498, g_499, g_500, g_501, g_562, g_563, g_564, g_565, g_566, g_567, g_568, g_574, g_580, g_581, g_582, g_583, g_584, g_585, g_586, g_587, g_588, g_589, g_590, g_591, g_592, g_600, g_601, g_602, g_603, g_604, g_605, g_606, g_607, g_608, g_609, g_610, g_611, g_612, g_613, g_614, g_615, g_616, g_617, g_618, g_619, g_620, g_621, g_622, g_623, g_624, g_625, g_626, g_627, g_628, g_629, g_630, g_631, g_632, g_633, g_634, g_635, g_636, g_637, g_638, g_639, g_640, g_641, g_642, g_643, g_644, g_645, g_646, g_647, g_648, g_649, g_650, g_651, g_652, g_653, g_654, g_655, g_656, g_657, g_658, g_659, g_660, g_661, g_662, g_0_0, g_0_1, g_0_2, g_0_3, g_0_4, g_0_5, g_0_6, g_0_7, g_0_8, g_0_9, g_0_10, g_0_11, g_1_0, g_3_0, g_327_0, g_327_1, g_327_2, g_327_3, g_328_0, g_330_0, g_332_0, g_334_0, g_336_0, g_336_1, g_336_2, g_336_3, g_337_0, g_339_0, g_341_0, g_464_0, g_464_1, g_484_0, g_484_1, g_484_2, g_485_0, g_487_0, g_489_0, g_491_0, g_491_1, g_491_2, g_491_3, g_491_4, g_491_5, g_491_6, g_491_7, g_496_0, g_498_0, g_500_0, g_500_1, g_500_3, g_500_4, g_500_5, g_500_6, g_500_7, g_562_0, g_564_0, g_566_0, g_580_0, g_580_1, g_580_2, g_580_3, g_581_0, g_583_0, g_585_0, g_588_1, g_588_2, g_588_3, g_588_4, g_588_6, g_601_0, g_601_1, g_601_2, g_601_3, g_601_4, g_601_5, g_601_6, g_601_7, g_601_8, g_608_0, g_610_0, g_612_0, g_612_2, g_612_4, g_612_5, g_612_7, g_612_8, g_612_9, g_612_10, g_612_11, g_612_12, g_612_13, g_612_14, g_612_15, g_612_16, g_612_19, g_612_20, g_612_22, g_612_24, g_612_25, g_612_26, g_612_27, g_612_28, g_612_30, g_612_31, g_612_32, g_612_33, g_612_34, g_612_36, g_612_37, g_612_38, g_612_39, g_612_40, g_612_41, g_612_42, g_612_43, g_612_44, g_612_46, g_612_47, g_612_48, g_612_49, g_612_50, g_612_53, g_612_56, g_612_57, g_612_58, g_612_59, g_612_61, g_612_62, g_612_63, g_612_64]
    have q1' : (-2147483648 ≤ ws + 1 ∧ ws + 1 ≤ 2147483647) ∧ Wz (K24 612 ts p ((K : Int) + 1) t i 1 (ws + 1)) (v2 (v2 σ.1 643 i ws) 644 i ls, σ.2) Q := ⟨by omega, q1⟩
    exact ⟨fun _ => q1', fun _ => ⟨by omega, fun _ => q1', fun _ => ⟨by omega, fun _ => ⟨fun z => absurd z (by decide), fun _ => q1'⟩, fun _ => q1'⟩⟩⟩
  intro N
  induction N with
  | zero => intro l; intros; omega
  | succ N ih =>
    intro l l0 l1 lN hl
    rw [lp_succ]
    have ih' := ih (l + 1)
    obtain ⟨M, hM⟩ : ∃ M, N = M + 1 := ⟨N - 1, by omega⟩
    have z1 : l ≤ 10 → Wz (lp (fun _ _ _ _ _ _ _ _ _ _ => none) (Z12_layParts_41B kdG0 K10 K24) N 612 ts p ((K : Int) + 1) t i 1 ws (l + 1)) (v2 (v2 σ.1 643 i ws) 644 i ls, σ.2) Q := fun z => by
      rw [hM]; exact z41 M (l + 1) (by omega) (by omega)
    generalize lp (fun _ _ _ _ _ _ _ _ _ _ => none) (Z12_layParts_41B kdG0 K10 K24) N = L at ih' z1 ⊢
    have out : (w = ws → False) → (-2147483648 ≤ w + 1 ∧ w + 1 ≤ 2147483647) ∧ Wz (K24 612 ts p ((K : Int) + 1) t i 0 (w + 1)) σ Q := fun z => ⟨by omega, q0 (by
      by_cases y : w = ws
      · exact absurd y z
      · omega)⟩
    unfold Z12_layParts_41B
    simp only [Z12_layParts_121, Z12_layParts_115, Wz_rt, Wz_cnd, Wz_lI, Wz_lW, Wz_lL, Wz_cl, Wz_cv, Wz_nz, Wz_gI, Wz_gR, Wz_sI, Wz_aI, Wz_aZ, Wz_aL, Wz_aN, Wz_aR, Wz_tI, Wz_tZ, Wz_tL, Option.some.injEq, exists_eq_left', zB_0, zB_1, true_and, and_true, true_implies, not_true_eq_false, false_implies, not_false_eq_true, Classical.not_not, g_0, g_1, g_2, g_3, g_4, g_5, g_327, g_328, g_329, g_330, g_331, g_332, g_333, g_334, g_335, g_336, g_337, g_338, g_339, g_340, g_341, g_342, g_343, g_464, g_465, g_466, g_484, g_485, g_486, g_487, g_488, g_489, g_490, g_491, g_492, g_493, g_494, g_495, g_496, g_497, g_498, g_499, g_500, g_501, g_562, g_563, g_564, g_565, g_566, g_567, g_568, g_574, g_580, g_581, g_582, g_583, g_584, g_585, g_586, g_587, g_588, g_589, g_590, g_591, g_592, g_600, g_601, g_602, g_603, g_604, g_605, g_606, g_607, g_608, g_609, g_610, g_611, g_612, g_613, g_614, g_615, g_616, g_617, g_618, g_619, g_620, g_621, g_622, g_623, g_624, g_625, g_626, g_627, g_628, g_629, g_630, g_631, g_632, g_633, g_634, g_635, g_636, g_637, g_638, g_639, g_640, g_641, g_642, g_643, g_644, g_645, g_646, g_647, g_648, g_649, g_650, g_651, g_652, g_653, g_654, g_655, g_656, g_657, g_658, g_659, g_660, g_661, g_662, g_0_0, g_0_1, g_0_2, g_0_3, g_0_4, g_0_5, g_0_6, g_0_7, g_0_8, g_0_9, g_0_10, g_0_11, g_1_0, g_3_0, g_327_0, g_327_1, g_327_2, g_327_3, g_328_0, g_330_0, g_332_0, g_334_0, g_336_0, g_336_1, g_336_2, g_336_3, g_337_0, g_339_0, g_341_0, g_464_0, g_464_1, g_484_0, g_484_1, g_484_2, g_485_0, g_487_0, g_489_0, g_491_0, g_491_1, g_491_2, g_491_3, g_491_4, g_491_5, g_491_6, g_491_7, g_496_0, g_498_0, g_500_0, g_500_1, g_500_3, g_500_4, g_500_5, g_500_6, g_500_7, g_562_0, g_564_0, g_566_0, g_580_0, g_580_1, g_580_2, g_580_3, g_581_0, g_583_0, g_585_0, g_588_1, g_588_2, g_588_3, g_588_4, g_588_6, g_601_0, g_601_1, g_601_2, g_601_3, g_601_4, g_601_5, g_601_6, g_601_7, g_601_8, g_608_0, g_610_0, g_612_0, g_612_2, g_612_4, g_612_5, g_612_7, g_612_8, g_612_9, g_612_10, g_612_11, g_612_12, g_612_13, g_612_14, g_612_15, g_612_16, g_612_19, g_612_20, g_612_22, g_612_24, g_612_25, g_612_26, g_612_27, g_612_28, g_612_30, g_612_31, g_612_32, g_612_33, g_612_34, g_612_36, g_612_37, g_612_38, g_612_39, g_612_40, g_612_41, g_612_42, g_612_43, g_612_44, g_612_46, g_612_47, g_612_48, g_612_49, g_612_50, g_612_53, g_612_56, g_612_57, g_612_58, g_612_59, g_612_61, g_612_62, g_612_63, g_612_64, e1, e30]
    refine ⟨fun c => out (fun z => by have := hl z; omega), fun c => ⟨by omega, fun d => out (fun z => by have := hl z; rw [← z] at xc; omega), fun d => ⟨by omega, fun b => ?_, fun b => out (fun z => b (by rw [z]; exact xc.2.1))⟩⟩⟩
    have hcd : (ptW τ ts).cd p w l := ptW_cd.2 ⟨⟨w0, by omega⟩, b, by omega, by omega⟩
    refine W12_isBest hI hT hK p0 t0 t1 hcd hR ?_
    rw [zp_0]
    refine ⟨fun g => ⟨by omega, ih' (by omega) (by omega) (by omega) (fun z => ?_)⟩, fun g => ?_⟩
    · have := hl z
      by_cases y : l = ls
      · rw [z, y] at g
        exact absurd hx.1 g
      · omega
    · have g' := Classical.not_not.1 g
      have nd := hx.2 w l g'
      have ew : w = ws := by unfold dnP at nd; omega
      have el : l = ls := by have := hl ew; unfold dnP at nd; omega
      subst ew
      subst el
      exact ⟨by omega, by omega, by omega, z1 (by omega)⟩
set_option maxRecDepth 100000 in
theorem W12_ly_10 {τ : kzM} (hI : Inv τ) {ts : Int} {Q : Int → kzM → Prop} : ∀ (K N i : Nat) (p t S P : Int) (M : Nat) (σ : kzM), K < N → i + K = 4 → 0 ≤ p → p ≤ τ.1 1 1 → 0 ≤ t → t ≤ 3 → (ptW τ ts).bR K p t S P M → tabR τ ts σ → (∀ (ρ : kzM) (qs : List (Int × Int)), on34 σ ρ → pthW (ptW τ ts) qs K p t → qs.length ≤ K → (∀ j : Nat, j < i → ρ.1 643 j = σ.1 643 j ∧ ρ.1 644 j = σ.1 644 j) → (∀ j : Nat, j < qs.length → ρ.1 643 ((i + j : Nat) : Int) = (getW qs j).1 ∧ ρ.1 644 ((i + j : Nat) : Int) = (getW qs j).2) → Q ((i : Int) + qs.length) ρ) → Wz (lp (fun _ _ _ _ _ _ _ => none) (Z12_layParts_10B kdG0) N 612 ts p (K : Int) t (i : Int)) σ Q := by
  have i1 := hI.1
  unfold I1 at i1
  have i5 := hI.2.2.2.2.1
  unfold I5 at i5
  intro K
  induction K with
  | zero =>
    intro N i p t S P M σ hN hi p0 p1 t0 t1 hR hT hQ
    obtain ⟨N, rfl⟩ : ∃ M, N = M + 1 := ⟨N - 1, by omega⟩
    rw [lp_succ]
    generalize lp (fun _ _ _ _ _ _ _ => none) (Z12_layParts_10B kdG0) N = L
    have e1 : σ.1 612 1 = τ.1 1 1 := by rw [hT.1 612 1 (by decide), i1.2.1]
    have eM : M = 0 := by have := hR.1.1; omega
    have ep : p = τ.1 1 1 := by
      have a := hR.1.2
      rw [eM] at a
      exact a.1
    unfold Z12_layParts_10B
    simp only [Wz_rt, Wz_cnd, Wz_lI, Wz_lW, Wz_lL, Wz_cl, Wz_cv, Wz_nz, Wz_gI, Wz_gR, Wz_sI, Wz_aI, Wz_aZ, Wz_aL, Wz_aN, Wz_aR, Wz_tI, Wz_tZ, Wz_tL, Option.some.injEq, exists_eq_left', zB_0, zB_1, true_and, and_true, true_implies, not_true_eq_false, false_implies, not_false_eq_true, Classical.not_not, g_0, g_1, g_2, g_3, g_4, g_5, g_327, g_328, g_329, g_330, g_331, g_332, g_333, g_334, g_335, g_336, g_337, g_338, g_339, g_340, g_341, g_342, g_343, g_464, g_465, g_466, g_484, g_485, g_486, g_487, g_488, g_489, g_490, g_491, g_492, g_493, g_494, g_495, g_496, g_497, g_498, g_499, g_500, g_501, g_562, g_563, g_564, g_565, g_566, g_567, g_568, g_574, g_580, g_581, g_582, g_583, g_584, g_585, g_586, g_587, g_588, g_589, g_590, g_591, g_592, g_600, g_601, g_602, g_603, g_604, g_605, g_606, g_607, g_608, g_609, g_610, g_611, g_612, g_613, g_614, g_615, g_616, g_617, g_618, g_619, g_620, g_621, g_622, g_623, g_624, g_625, g_626, g_627, g_628, g_629, g_630, g_631, g_632, g_633, g_634, g_635, g_636, g_637, g_638, g_639, g_640, g_641, g_642, g_643, g_644, g_645, g_646, g_647, g_648, g_649, g_650, g_651, g_652, g_653, g_654, g_655, g_656, g_657, g_658, g_659, g_660, g_661, g_662, g_0_0, g_0_1, g_0_2, g_0_3, g_0_4, g_0_5, g_0_6, g_0_7, g_0_8, g_0_9, g_0_10, g_0_11, g_1_0, g_3_0, g_327_0, g_327_1, g_327_2, g_327_3, g_328_0, g_330_0, g_332_0, g_334_0, g_336_0, g_336_1, g_336_2, g_336_3, g_337_0, g_339_0, g_341_0, g_464_0, g_464_1, g_484_0, g_484_1, g_484_2, g_485_0, g_487_0, g_489_0, g_491_0, g_491_1, g_491_2, g_491_3, g_491_4, g_491_5, g_491_6, g_491_7, g_496_0, g_498_0, g_500_0, g_500_1, g_500_3, g_500_4, g_500_5, g_500_6, g_500_7, g_562_0, g_564_0, g_566_0, g_580_0, g_580_1, g_580_2, g_580_3, g_581_0, g_583_0, g_585_0, g_588_1, g_588_2, g_588_3, g_588_4, g_588_6, g_601_0, g_601_1, g_601_2, g_601_3, g_601_4, g_601_5, g_601_6, g_601_7, g_601_8, g_608_0, g_610_0, g_612_0, g_612_2, g_612_4, g_612_5, g_612_7, g_612_8, g_612_9, g_612_10, g_612_11, g_612_12, g_612_13, g_612_14, g_612_15, g_612_16, g_612_19, g_612_20, g_612_22, g_612_24, g_612_25, g_612_26, g_612_27, g_612_28, g_612_30, g_612_31, g_612_32, g_612_33, g_612_34, g_612_36, g_612_37, g_612_38, g_612_39, g_612_40, g_612_41, g_612_42, g_612_43, g_612_44, g_612_46, g_612_47, g_612_48, g_612_49, g_612_50, g_612_53, g_612_56, g_612_57, g_612_58, g_612_59, g_612_61, g_612_62, g_612_63, g_612_64, e1]
    refine ⟨fun _ => ?_, fun z => absurd (by omega) z⟩
    have q := hQ σ [] ⟨fun _ _ _ _ => rfl, rfl⟩ ep (by simp) (fun _ _ => ⟨rfl, rfl⟩) (fun j hj => absurd hj (by simp))
    simpa using q
  | succ K ih =>
    intro N i p t S P M σ hN hi p0 p1 t0 t1 hR hT hQ
    obtain ⟨N, rfl⟩ : ∃ M, N = M + 1 := ⟨N - 1, by omega⟩
    rw [lp_succ]
    have ih' := ih N (i + 1)
    generalize lp (fun _ _ _ _ _ _ _ => none) (Z12_layParts_10B kdG0) N = L at ih' ⊢
    have e1 : σ.1 612 1 = τ.1 1 1 := by rw [hT.1 612 1 (by decide), i1.2.1]
    unfold Z12_layParts_10B
    simp only [Wz_rt, Wz_cnd, Wz_lI, Wz_lW, Wz_lL, Wz_cl, Wz_cv, Wz_nz, Wz_gI, Wz_gR, Wz_sI, Wz_aI, Wz_aZ, Wz_aL, Wz_aN, Wz_aR, Wz_tI, Wz_tZ, Wz_tL, Option.some.injEq, exists_eq_left', zB_0, zB_1, true_and, and_true, true_implies, not_true_eq_false, false_implies, not_false_eq_true, Classical.not_not, g_0, g_1, g_2, g_3, g_4, g_5, g_327, g_328, g_329, g_330, g_331, g_332, g_333, g_334, g_335, g_336, g_337, g_338, g_339, g_340, g_341, g_342, g_343, g_464, g_465, g_466, g_484, g_485, g_486, g_487, g_488, g_489, g_490, g_491, g_492, g_493, g_494, g_495, g_496, g_497, g_498, g_499, g_500, g_501, g_562, g_563, g_564, g_565, g_566, g_567, g_568, g_574, g_580, g_581, g_582, g_583, g_584, g_585, g_586, g_587, g_588, g_589, g_590, g_591, g_592, g_600, g_601, g_602, g_603, g_604, g_605, g_606, g_607, g_608, g_609, g_610, g_611, g_612, g_613, g_614, g_615, g_616, g_617, g_618, g_619, g_620, g_621, g_622, g_623, g_624, g_625, g_626, g_627, g_628, g_629, g_630, g_631, g_632, g_633, g_634, g_635, g_636, g_637, g_638, g_639, g_640, g_641, g_642, g_643, g_644, g_645, g_646, g_647, g_648, g_649, g_650, g_651, g_652, g_653, g_654, g_655, g_656, g_657, g_658, g_659, g_660, g_661, g_662, g_0_0, g_0_1, g_0_2, g_0_3, g_0_4, g_0_5, g_0_6, g_0_7, g_0_8, g_0_9, g_0_10, g_0_11, g_1_0, g_3_0, g_327_0, g_327_1, g_327_2, g_327_3, g_328_0, g_330_0, g_332_0, g_334_0, g_336_0, g_336_1, g_336_2, g_336_3, g_337_0, g_339_0, g_341_0, g_464_0, g_464_1, g_484_0, g_484_1, g_484_2, g_485_0, g_487_0, g_489_0, g_491_0, g_491_1, g_491_2, g_491_3, g_491_4, g_491_5, g_491_6, g_491_7, g_496_0, g_498_0, g_500_0, g_500_1, g_500_3, g_500_4, g_500_5, g_500_6, g_500_7, g_562_0, g_564_0, g_566_0, g_580_0, g_580_1, g_580_2, g_580_3, g_581_0, g_583_0, g_585_0, g_588_1, g_588_2, g_588_3, g_588_4, g_588_6, g_601_0, g_601_1, g_601_2, g_601_3, g_601_4, g_601_5, g_601_6, g_601_7, g_601_8, g_608_0, g_610_0, g_612_0, g_612_2, g_612_4, g_612_5, g_612_7, g_612_8, g_612_9, g_612_10, g_612_11, g_612_12, g_612_13, g_612_14, g_612_15, g_612_16, g_612_19, g_612_20, g_612_22, g_612_24, g_612_25, g_612_26, g_612_27, g_612_28, g_612_30, g_612_31, g_612_32, g_612_33, g_612_34, g_612_36, g_612_37, g_612_38, g_612_39, g_612_40, g_612_41, g_612_42, g_612_43, g_612_44, g_612_46, g_612_47, g_612_48, g_612_49, g_612_50, g_612_53, g_612_56, g_612_57, g_612_58, g_612_59, g_612_61, g_612_62, g_612_63, g_612_64, e1]
    refine ⟨fun c => ?_, fun c => ?_⟩
    · have q := hQ σ [] ⟨fun _ _ _ _ => rfl, rfl⟩ (show p = τ.1 1 1 by omega) (by simp) (fun _ _ => ⟨rfl, rfl⟩) (fun j hj => absurd hj (by simp))
      simpa using q
    · obtain ⟨k, rfl⟩ : ∃ k, M = k + 1 := ⟨M - 1, by
        by_cases y : M = 0
        · have a := hR.1.2
          rw [y] at a
          have := a.1
          rw [show (ptW τ ts).L = τ.1 1 1 from rfl] at this
          omega
        · omega⟩
      have ex := fun w l hc => hT.ex hI K p w l (by omega) p0 hc
      obtain ⟨ws, ls, hx⟩ := isLx_ex (W := 60) (G := fun w l => (ptW τ ts).vR K p t w l S P (k + 1)) (fun w l v => by
        have cc := ptW_cd.1 v.1
        omega) ((ptW τ ts).vR_ex (ptW_ok hI ts) hR ex)
      have xc := ptW_cd.1 hx.1.1
      have pw := ptW_w hI xc.1.1 xc.1.2
      obtain ⟨_, s', q', m', hb', _, _, _⟩ := hx.1
      have tg0 : (ptW τ ts).tg ws = τ.1 338 ws := rfl
      rw [tg0] at hb'
      obtain ⟨ρ, hρ⟩ : ∃ ρ : kzM, ρ = (v2 (v2 σ.1 643 i ws) 644 i ls, σ.2) := ⟨_, rfl⟩
      have o : on34 σ ρ := by
        rw [hρ]
        exact ⟨fun a x y z => by dsimp only; rw [v2_ne _ _ _ _ z, v2_ne _ _ _ _ y], rfl⟩
      have g3 : ∀ x, ρ.1 643 x = if x = i then ws else σ.1 643 x := fun x => by
        rw [hρ]
        simp only [v2_eq, Nat.reduceEqDiff, false_and, reduceIte, true_and]
      have g4 : ∀ x, ρ.1 644 x = if x = i then ls else σ.1 644 x := fun x => by
        rw [hρ]
        simp only [v2_eq, Nat.reduceEqDiff, false_and, reduceIte, true_and]
      have hT2 := hT.on o
      have e30 : ρ.1 630 ws = τ.1 338 ws := by rw [hT2.1 630 ws (by rw [md_5 (by decide)]; decide), pw.2.2.1]
      -- on with the next piece
      have go : Wz (Z12_layParts_127 kdG0 L 612 ts p ((K : Int) + 1) i) ρ Q := by
        simp only [Z12_layParts_127, Wz_rt, Wz_cnd, Wz_lI, Wz_lW, Wz_lL, Wz_cl, Wz_cv, Wz_nz, Wz_gI, Wz_gR, Wz_sI, Wz_aI, Wz_aZ, Wz_aL, Wz_aN, Wz_aR, Wz_tI, Wz_tZ, Wz_tL, Option.some.injEq, exists_eq_left', zB_0, zB_1, true_and, and_true, true_implies, not_true_eq_false, false_implies, not_false_eq_true, Classical.not_not, g_0, g_1, g_2, g_3, g_4, g_5, g_327, g_328, g_329, g_330, g_331, g_332, g_333, g_334, g_335, g_336, g_337, g_338, g_339, g_340, g_341, g_342, g_343, g_464, g_465, g_466, g_484, g_485, g_486, g_487, g_488, g_489, g_490, g_491, g_492, g_493, g_494, g_495, g_496, g_497, g_498, g_499, g_500, g_501, g_562, g_563, g_564, g_565, g_566, g_567, g_568, g_574, g_580, g_581, g_582, g_583, g_584, g_585, g_586, g_587, g_588, g_589, g_590, g_591, g_592, g_600, g_601, g_602, g_603, g_604, g_605, g_606, g_607, g_608, g_609, g_610, g_611, g_612, g_613, g_614, g_615, g_616, g_617, g_618, g_619, g_620, g_621, g_622, g_623, g_624, g_625, g_626, g_627, g_628, g_629, g_630, g_631, g_632, g_633, g_634, g_635, g_636, g_637, g_638, g_639, g_640, g_641, g_642, g_643, g_644, g_645, g_646, g_647, g_648, g_649, g_650, g_651, g_652, g_653, g_654, g_655, g_656, g_657, g_658, g_659, g_660, g_661, g_662, g_0_0, g_0_1, g_0_2, g_0_3, g_0_4, g_0_5, g_0_6, g_0_7, g_0_8, g_0_9, g_0_10, g_0_11, g_1_0, g_3_0, g_327_0, g_327_1, g_327_2, g_327_3, g_328_0, g_330_0, g_332_0, g_334_0, g_336_0, g_336_1, g_336_2, g_336_3, g_337_0, g_339_0, g_341_0, g_464_0, g_464_1, g_484_0, g_484_1, g_484_2, g_485_0, g_487_0, g_489_0, g_491_0, g_491_1, g_491_2, g_491_3, g_491_4, g_491_5, g_491_6, g_491_7, g_496_0, g_498_0, g_500_0, g_500_1, g_500_3, g_500_4, g_500_5, g_500_6, g_500_7, g_562_0, g_564_0, g_566_0, g_580_0, g_580_1, g_580_2, g_580_3, g_581_0, g_583_0, g_585_0, g_588_1, g_588_2, g_588_3, g_588_4, g_588_6, g_601_0, g_601_1, g_601_2, g_601_3, g_601_4, g_601_5, g_601_6, g_601_7, g_601_8, g_608_0, g_610_0, g_612_0, g_612_2, g_612_4, g_612_5, g_612_7, g_612_8, g_612_9, g_612_10, g_612_11, g_612_12, g_612_13, g_612_14, g_612_15, g_612_16, g_612_19, g_612_20, g_612_22, g_612_24, g_612_25, g_612_26, g_612_27, g_612_28, g_612_30, g_612_31, g_612_32, g_612_33, g_612_34, g_612_36, g_612_37, g_612_38, g_612_39, g_612_40, g_612_41, g_612_42, g_612_43, g_612_44, g_612_46, g_612_47, g_612_48, g_612_49, g_612_50, g_612_53, g_612_56, g_612_57, g_612_58, g_612_59, g_612_61, g_612_62, g_612_63, g_612_64]
        rw [g4, g3, if_pos rfl, if_pos rfl, e30]
        refine ⟨by omega, by omega, by omega, by omega, by omega, by omega, ?_⟩
        rw [show (K : Int) + 1 + -1 = (K : Int) by omega, show (i : Int) + 1 = ((i + 1 : Nat) : Int) by omega]
        refine ih' (p + ls) (τ.1 338 ws) s' q' m' ρ (by omega) (by omega) (by omega) xc.2.2.2 (by omega) (by omega) hb' hT2 (fun ζ qs z1 z2 z3 z4 z5 => ?_)
        have q := hQ ζ ((ws, ls) :: qs) (o.tr z1) ⟨S, P, k, K, rfl, hR, hx, z2⟩ (by rw [List.length_cons]; omega) (fun j hj => ?_) (fun j hj => ?_)
        · rw [List.length_cons] at q
          rw [show ((i + 1 : Nat) : Int) + (qs.length : Int) = (i : Int) + ((qs.length + 1 : Nat) : Int) by omega]
          exact q
        · have y := z4 j (by omega)
          rw [y.1, y.2, g3, g4, if_neg (by omega), if_neg (by omega)]
          exact ⟨rfl, rfl⟩
        · cases j with
          | zero =>
            have y := z4 i (by omega)
            rw [Nat.add_zero, y.1, y.2, g3, g4, if_pos rfl, if_pos rfl]
            exact ⟨rfl, rfl⟩
          | succ j =>
            rw [List.length_cons] at hj
            have y := z5 j (by omega)
            rw [show i + (j + 1) = i + 1 + j by omega]
            exact y
      have g24 : ∀ (N : Nat) (w : Int), 0 ≤ w → w ≤ ws → ws - w + 1 < N → Wz (lp (fun _ _ _ _ _ _ _ _ _ => none) (Z12_layParts_24B kdG0 L) N 612 ts p ((K : Int) + 1) t i 0 w) σ Q := by
        intro N
        induction N with
        | zero => intro w; intros; omega
        | succ N ihw =>
          intro w w0 w1 wN
          rw [lp_succ]
          have ihw' := ihw (w + 1)
          obtain ⟨M, hM⟩ : ∃ M, N = M + 1 := ⟨N - 1, by omega⟩
          have z1 : Wz (lp (fun _ _ _ _ _ _ _ _ _ => none) (Z12_layParts_24B kdG0 L) N 612 ts p ((K : Int) + 1) t i 1 (ws + 1)) ρ Q := by
            rw [hM]; exact W12_ly_24z go M (ws + 1)
          generalize lp (fun _ _ _ _ _ _ _ _ _ => none) (Z12_layParts_24B kdG0 L) N = L24 at ihw' z1 ⊢
          have e29 : σ.1 612 29 = τ.1 337 1 := by rw [hT.1 612 29 (by decide), i5.2.2.2.1]
          unfold Z12_layParts_24B
          simp only [Wz_rt, Wz_cnd, Wz_lI, Wz_lW, Wz_lL, Wz_cl, Wz_cv, Wz_nz, Wz_gI, Wz_gR, Wz_sI, Wz_aI, Wz_aZ, Wz_aL, Wz_aN, Wz_aR, Wz_tI, Wz_tZ, Wz_tL, Option.some.injEq, exists_eq_left', zB_0, zB_1, true_and, and_true, true_implies, not_true_eq_false, false_implies, not_false_eq_true, Classical.not_not, g_0, g_1, g_2, g_3, g_4, g_5, g_327, g_328, g_329, g_330, g_331, g_332, g_333, g_334, g_335, g_336, g_337, g_338, g_339, g_340, g_341, g_342, g_343, g_464, g_465, g_466, g_484, g_485, g_486, g_487, g_488, g_489, g_490, g_491, g_492, g_493, g_494, g_495, g_496, g_497, g_498, g_499, g_500, g_501, g_562, g_563, g_564, g_565, g_566, g_567, g_568, g_574, g_580, g_581, g_582, g_583, g_584, g_585, g_586, g_587, g_588, g_589, g_590, g_591, g_592, g_600, g_601, g_602, g_603, g_604, g_605, g_606, g_607, g_608, g_609, g_610, g_611, g_612, g_613, g_614, g_615, g_616, g_617, g_618, g_619, g_620, g_621, g_622, g_623, g_624, g_625, g_626, g_627, g_628, g_629, g_630, g_631, g_632, g_633, g_634, g_635, g_636, g_637, g_638, g_639, g_640, g_641, g_642, g_643, g_644, g_645, g_646, g_647, g_648, g_649, g_650, g_651, g_652, g_653, g_654, g_655, g_656, g_657, g_658, g_659, g_660, g_661, g_662, g_0_0, g_0_1, g_0_2, g_0_3, g_0_4, g_0_5, g_0_6, g_0_7, g_0_8, g_0_9, g_0_10, g_0_11, g_1_0, g_3_0, g_327_0, g_327_1, g_327_2, g_327_3, g_328_0, g_330_0, g_332_0, g_334_0, g_336_0, g_336_1, g_336_2, g_336_3, g_337_0, g_339_0, g_341_0, g_464_0, g_464_1, g_484_0, g_484_1, g_484_2, g_485_0, g_487_0, g_489_0, g_491_0, g_491_1, g_491_2, g_491_3, g_491_4, g_491_5, g_491_6, g_491_7, g_496_0, g_498_0, g_500_0, g_500_1, g_500_3, g_500_4, g_500_5, g_500_6, g_500_7, g_562_0, g_564_0, g_566_0, g_580_0, g_580_1, g_580_2, g_580_3, g_581_0, g_583_0, g_585_0, g_588_1, g_588_2, g_588_3, g_588_4, g_588_6, g_601_0, g_601_1, g_601_2, g_601_3, g_601_4, g_601_5, g_601_6, g_601_7, g_601_8, g_608_0, g_610_0, g_612_0, g_612_2, g_612_4, g_612_5, g_612_7, g_612_8, g_612_9, g_612_10, g_612_11, g_612_12, g_612_13, g_612_14, g_612_15, g_612_16, g_612_19, g_612_20, g_612_22, g_612_24, g_612_25, g_612_26, g_612_27, g_612_28, g_612_30, g_612_31, g_612_32, g_612_33, g_612_34, g_612_36, g_612_37, g_612_38, g_612_39, g_612_40, g_612_41, g_612_42, g_612_43, g_612_44, g_612_46, g_612_47, g_612_48, g_612_49, g_612_50, g_612_53, g_612_56, g_612_57, g_612_58, g_612_59, g_612_61, g_612_62, g_612_63, g_612_64, e29]
          refine ⟨fun z => by omega, fun _ => ?_⟩
          unfold Z12_layParts_41
          exact W12_ly_41 hI (by omega) p0 (by omega) t0 t1 hR hx (by omega) w0 w1 hT (fun z => ihw' (by omega) (by omega) (by omega)) (by rw [← hρ]; exact z1) NN 1 (by omega) (by omega) (by unfold NN; omega) (fun z => by have := xc.2.2.1.1; omega)
      unfold Z12_layParts_24
      rw [show ((K + 1 : Nat) : Int) = (K : Int) + 1 by omega]
      exact g24 NN 0 (by omega) xc.1.1 (by have := xc.1.2; unfold NN; omega)
