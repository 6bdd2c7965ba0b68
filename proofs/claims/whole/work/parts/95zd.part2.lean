/-! parting: the reference's prices and lookups -/
def ptW (τ : kzM) (ts : Int) : ptD := (τ.1 1 1, fun p w l => (0 ≤ w ∧ w < τ.1 337 1) ∧ zand (zshr ts (τ.1 338 w)) 1 = 1 ∧ (1 ≤ l ∧ l ≤ 10) ∧ p + l ≤ τ.1 1 1, fun p w l => eC τ (344 + 2 * w.toNat) p l (τ.1 (344 + 2 * w.toNat) 1), τ.1 338, τ.1 342, fun t tw => if t = tw ∨ t = 3 then 0 else τ.1 465 5)
theorem ptW_cd {τ : kzM} {ts p w l : Int} : (ptW τ ts).cd p w l ↔ (0 ≤ w ∧ w < τ.1 337 1) ∧ zand (zshr ts (τ.1 338 w)) 1 = 1 ∧ (1 ≤ l ∧ l ≤ 10) ∧ p + l ≤ τ.1 1 1 := Iff.rfl
theorem ptW_w {τ : kzM} (hI : Inv τ) {w : Int} (w0 : 0 ≤ w) (w1 : w < τ.1 337 1) : (0 ≤ τ.1 338 w ∧ τ.1 338 w ≤ 2) ∧ (1 ≤ τ.1 342 w ∧ τ.1 342 w ≤ 100) ∧ τ.1 630 w = τ.1 338 w ∧ τ.1 632 w = τ.1 342 w ∧ τ.1 337 1 ≤ 60 := by
  have i5 := hI.2.2.2.2.1
  unfold I5 at i5
  have e := i5.2.2.2.2 w w0 w1
  exact ⟨e.1.1, e.2.2.1.1, e.1.2, e.2.2.1.2, i5.1.2⟩
theorem ptW_ok {τ : kzM} (hI : Inv τ) (ts : Int) : (ptW τ ts).ok := fun p w l h => by
  obtain ⟨a, b, c, d⟩ := ptW_cd.1 h
  exact ⟨c.1, d, (ptW_w hI a.1 a.2).2.1.1⟩
theorem ptW_pr {τ : kzM} (hI : Inv τ) {ts p w l : Int} (w0 : 0 ≤ w) (w1 : w < τ.1 337 1) (l0 : 0 ≤ l) (l1 : l ≤ 16) : 0 ≤ (ptW τ ts).pr p w l ∧ (ptW τ ts).pr p w l ≤ 480 := by
  have sl := hI.sl.1
  have wd := (hI.wd w0 w1).1
  have h := eD_b (s := sK τ p) (w := τ.1 (344 + 2 * w.toNat + 1)) (P := τ.1 465) sl.2.2 (l + τ.1 (344 + 2 * w.toNat) 1 + 1).toNat l (τ.1 (344 + 2 * w.toNat) 1) l0 (by have := wd.1; omega) (by have := wd.1; omega)
  have := wd.1
  show 0 ≤ eC τ (344 + 2 * w.toNat) p l (τ.1 (344 + 2 * w.toNat) 1) ∧ eC τ (344 + 2 * w.toNat) p l (τ.1 (344 + 2 * w.toNat) 1) ≤ 480
  unfold eC
  omega
theorem ptW_sw {τ : kzM} (hI : Inv τ) {ts t tw : Int} : 0 ≤ (ptW τ ts).sw t tw ∧ (ptW τ ts).sw t tw ≤ 20 := by
  have i6 := hI.2.2.2.2.2.1
  unfold I6 at i6
  have e := (i6 5 (by omega) (by omega)).1
  show 0 ≤ (if t = tw ∨ t = 3 then 0 else τ.1 465 5) ∧ (if t = tw ∨ t = 3 then 0 else τ.1 465 5) ≤ 20
  split <;> omega
theorem ptW_b {τ : kzM} (hI : Inv τ) {ts : Int} : ∀ (k : Nat) (p t S P : Int), k ≤ 4 → (ptW τ ts).At k p t S P → (0 ≤ S ∧ S ≤ 500 * k) ∧ 1 ≤ P ∧ P ≤ 100 ^ k
  | 0, p, t, S, P, _, h => by
    obtain ⟨_, a, b⟩ := h
    rw [a, b]
    decide
  | k + 1, p, t, S, P, hk, ⟨w, l, hc, s', p', h, e1, e2⟩ => by
    have ih := ptW_b hI k _ _ _ _ (by omega) h
    obtain ⟨a, _, c, d⟩ := ptW_cd.1 hc
    have pw := ptW_w hI a.1 a.2
    have pp := ptW_pr hI (ts := ts) (p := p) a.1 a.2 (l := l) (by omega) (by omega)
    have ps := ptW_sw hI (ts := ts) (t := t) (tw := (ptW τ ts).tg w)
    have m := mul_b (a := p') (b := (ptW τ ts).ct w) (u := 100 ^ k) (v := 100) (by omega) ⟨by have := pw.2.1.1; show 0 ≤ τ.1 342 w; omega, pw.2.1.2⟩
    have m1 := Int.mul_le_mul ih.2.1 (show 1 ≤ (ptW τ ts).ct w from pw.2.1.1) (by omega) (by omega)
    refine ⟨by omega, by rw [e2]; omega, ?_⟩
    rw [Int.pow_succ, e2]
    exact m.2
theorem eC_L {τ σ : kzM} (h : tabL τ σ) {w p l j : Int} (w0 : 0 ≤ w) (w1 : w < 60) : eC σ (344 + 2 * w.toNat) p l j = eC τ (344 + 2 * w.toNat) p l j := by
  unfold eC sK
  rw [show σ.1 2 = τ.1 2 from funext fun x => h 2 x (by rw [show md 2 x = 1 from rfl]; decide), show σ.1 465 = τ.1 465 from funext fun x => h 465 x (by rw [show md 465 x = 6 from rfl]; decide), show σ.1 (344 + 2 * w.toNat + 1) = τ.1 (344 + 2 * w.toNat + 1) from funext fun x => h _ x (by rw [md_5 (by omega)]; decide)]
set_option maxRecDepth 100000 in
theorem W12_prc {τ σ : kzM} (hI : Inv τ) (hL : tabL τ σ) {ts w p l : Int} (w0 : 0 ≤ w) (w1 : w < τ.1 337 1) (p0 : 0 ≤ p) (l0 : 0 ≤ l) (pl : p + l ≤ τ.1 1 1) {Q : Int → kzM → Prop} (hQ : ∀ ρ : kzM, (∀ a x, a ≠ 636 → ρ.1 a x = σ.1 a x) → Q ((ptW τ ts).pr p w l) ρ) : Wz (Z12_priceOf kdG0 612 w p l) σ Q := by
  have hI2 := hI.tabL hL
  have e1 : σ.1 1 1 = τ.1 1 1 := hL 1 1 (by decide)
  have e2 : σ.1 337 1 = τ.1 337 1 := hL 337 1 (by decide)
  have w60 := (ptW_w hI w0 w1).2.2.2.2
  have i1 := hI2.1
  unfold I1 at i1
  refine W12_priceOf w0 (by omega) (hI2.wd w0 (by omega)).2.1 hI2.sl.2 p0 l0 (by rw [i1.2.1, e1]; exact pl) fun ρ hr => ?_
  rw [eM_eC hI2 w0 (by omega) p0 l0 (by omega), eC_L hL w0 (by omega), hL (344 + 2 * w.toNat) 1 (by rw [md_5 (by omega)]; decide)]
  exact hQ ρ hr
def prdP (τ : kzM) (ts : Int) (w p l : Int) (ρ : kzM) : Prop := ∀ p' w' l', (ptW τ ts).cd p' w' l' → 0 ≤ p' → (w' < w ∨ (w' = w ∧ (p' < p ∨ (p' = p ∧ l' < l)))) → ρ.1 645 (160 * w' + 10 * p' + l' - 1) = (ptW τ ts).pr p' w' l'
set_option maxRecDepth 100000 in
theorem W12_fp_37 {τ : kzM} (hI : Inv τ) {ts w p : Int} (w0 : 0 ≤ w) (w1 : w < τ.1 337 1) (hb : zand (zshr ts (τ.1 338 w)) 1 = 1) (p0 : 0 ≤ p) (p1 : p < τ.1 1 1) {K2 : Nat → Int → Int → kzM → Option (Unit × kzM)} {K12 : Nat → Int → Int → Int → kzM → Option (Unit × kzM)} {Q : Unit → kzM → Prop} (hQ : ∀ ρ, tabL τ ρ → prdP τ ts w (p + 1) 0 ρ → Wz (K12 612 ts w (p + 1)) ρ Q) : ∀ (N : Nat) (l : Int) (σ : kzM), 1 ≤ l → l ≤ 11 → 12 - l < N → tabL τ σ → prdP τ ts w p l σ → Wz (lp (fun _ _ _ _ _ _ => none) (Z12_findPrices_37B kdG0 K2 K12) N 612 ts w p l) σ Q := by
  have i1 := hI.1
  unfold I1 at i1
  have w60 := (ptW_w hI w0 w1).2.2.2.2
  intro N
  induction N with
  | zero => intro l; intros; omega
  | succ N ih =>
    intro l σ l0 l1 lN hL hp
    rw [lp_succ]
    have ih' := ih (l + 1)
    generalize lp (fun _ _ _ _ _ _ => none) (Z12_findPrices_37B kdG0 K2 K12) N = L at ih' ⊢
    have e1 : σ.1 612 1 = τ.1 1 1 := by rw [hL 612 1 (by decide), i1.2.1]
    have fin : (10 < l ∨ τ.1 1 1 < p + l) → prdP τ ts w (p + 1) 0 σ := fun hc p' w' l' hcd hp0 hlt => by
      refine hp p' w' l' hcd hp0 ?_
      have := ptW_cd.1 hcd
      by_cases y : w' = w ∧ p' = p
      · obtain ⟨rfl, rfl⟩ := y
        refine Or.inr ⟨rfl, Or.inr ⟨rfl, ?_⟩⟩
        omega
      · omega
    unfold Z12_findPrices_37B
    simp only [Z12_findPrices_89, Wz_rt, Wz_cnd, Wz_lI, Wz_lW, Wz_lL, Wz_cl, Wz_cv, Wz_nz, Wz_gI, Wz_gR, Wz_sI, Wz_aI, Wz_aZ, Wz_aL, Wz_aN, Wz_aR, Wz_tI, Wz_tZ, Wz_tL, Option.some.injEq, exists_eq_left', zB_0, zB_1, true_and, and_true, true_implies, not_true_eq_false, false_implies, not_false_eq_true, Classical.not_not, g_0, g_1, g_2, g_3, g_4, g_5, g_327, g_328, g_329, g_330, g_331, g_332, g_333, g_334, g_335, g_336, g_337, g_338, g_339, g_340, g_341, g_342, g_343, g_464, g_465, g_466, g_484, g_485, g_486, g_487, g_488, g_489, g_490, g_491, g_492, g_493, g_494, g_495, g_496, g_497, g_498, g_499, g_500, g_501, g_562, g_563, g_564, g_565, g_566, g_567, g_568, g_574, g_580, g_581, g_582, g_583, g_584, g_585, g_586, g_587, g_588, g_589, g_590, g_591, g_592, g_600, g_601, g_602, g_603, g_604, g_605, g_606, g_607, g_608, g_609, g_610, g_611, g_612, g_613, g_614, g_615, g_616, g_617, g_618, g_619, g_620, g_621, g_622, g_623, g_624, g_625, g_626, g_627, g_628, g_629, g_630, g_631, g_632, g_633, g_634, g_635, g_636, g_637, g_638, g_639, g_640, g_641, g_642, g_643, g_644, g_645, g_646, g_647, g_648, g_649, g_650, g_651, g_652, g_653, g_654, g_655, g_656, g_657, g_658, g_659, g_660, g_661, g_662, g_0_0, g_0_1, g_0_2, g_0_3, g_0_4, g_0_5, g_0_6, g_0_7, g_0_8, g_0_9, g_0_10, g_0_11, g_1_0, g_3_0, g_327_0, g_327_1, g_327_2, g_327_3, g_328_0, g_330_0, g_332_0, g_334_0, g_336_0, g_336_1, g_336_2, g_336_3, g_337_0, g_339_0, g_341_0, g_464_0, g_464_1, g_484_0, g_484_1, g_484_2, g_485_0, g_487_0, g_489_0, g_491_0, g_491_1, g_491_2, g_491_3, g_491_4, g_491_5, g_491_6, g_491_7, g_496_0, g_498_0, g_500_0, g_500_1, g_500_3, g_500_4, g_500_5, g_500_6, g_500_7, g_562_0, g_564_0, g_566_0, g_580_0, g_580_1, g_580_2, g_580_3, g_581_0, g_583_0, g_585_0, g_588_1, g_588_2, g_588_3, g_588_4, g_588_6, g_601_0, g_601_1, g_601_2, g_601_3, g_601_4, g_601_5, g_601_6, g_601_7, g_601_8, g_608_0, g_610_0, g_612_0, g_612_2, g_612_4, g_612_5, g_612_7, g_612_8, g_612_9, g_612_10, g_612_11, g_612_12, g_612_13, g_612_14, g_612_15, g_612_16, g_612_19, g_612_20, g_612_22, g_612_24, g_612_25, g_612_26, g_612_27, g_612_28, g_612_30, g_612_31, g_612_32, g_612_33, g_612_34, g_612_36, g_612_37, g_612_38, g_612_39, g_612_40, g_612_41, g_612_42, g_612_43, g_612_44, g_612_46, g_612_47, g_612_48, g_612_49, g_612_50, g_612_53, g_612_56, g_612_57, g_612_58, g_612_59, g_612_61, g_612_62, g_612_63, g_612_64, e1]
    refine ⟨fun c => ⟨by omega, hQ σ hL (fin (Or.inl c))⟩, fun c => ⟨by omega, fun d => ⟨by omega, hQ σ hL (fin (Or.inr d))⟩, fun d => W12_prc (ts := ts) hI hL w0 w1 p0 (by omega) (by omega) fun ρ hr => ⟨by omega, by omega, ?_⟩⟩⟩
    refine ih' _ (by omega) (by omega) (by omega) (fun a x z => ?_) (fun p' w' l' hcd hp0 hlt => ?_)
    · dsimp only
      rw [v2_ne _ _ _ _ (fun q => z (by rw [q]; rfl)), hr a x (fun q => z (by rw [q]; rfl))]
      exact hL a x z
    · dsimp only
      have cc := ptW_cd.1 hcd
      by_cases y : w' = w ∧ p' = p ∧ l' = l
      · obtain ⟨rfl, rfl, rfl⟩ := y
        exact v2_self _ _ _ _
      · rw [v2_nk _ _ _ _ (by omega), hr 645 _ (by decide)]
        exact hp p' w' l' hcd hp0 (by omega)
set_option maxRecDepth 100000 in
theorem W12_fp_12 {τ : kzM} (hI : Inv τ) {ts w : Int} (w0 : 0 ≤ w) (w1 : w < τ.1 337 1) {K2 : Nat → Int → Int → kzM → Option (Unit × kzM)} {Q : Unit → kzM → Prop} (hQ : ∀ ρ, tabL τ ρ → prdP τ ts (w + 1) 0 0 ρ → Wz (K2 612 ts (w + 1)) ρ Q) : ∀ (N : Nat) (p : Int) (σ : kzM), 0 ≤ p → p ≤ τ.1 1 1 → τ.1 1 1 - p < N → tabL τ σ → prdP τ ts w p 0 σ → Wz (lp (fun _ _ _ _ _ => none) (Z12_findPrices_12B kdG0 K2) N 612 ts w p) σ Q := by
  have i1 := hI.1
  unfold I1 at i1
  have pw := ptW_w hI w0 w1
  intro N
  induction N with
  | zero => intro p; intros; omega
  | succ N ih =>
    intro p σ p0 p1 pN hL hp
    rw [lp_succ]
    have ih' := ih (p + 1)
    generalize lp (fun _ _ _ _ _ => none) (Z12_findPrices_12B kdG0 K2) N = L at ih' ⊢
    have e1 : σ.1 612 1 = τ.1 1 1 := by rw [hL 612 1 (by decide), i1.2.1]
    have e30 : σ.1 630 w = τ.1 338 w := by rw [hL 630 w (by rw [md_5 (by decide)]; decide), pw.2.2.1]
    have fin : (τ.1 1 1 ≤ p ∨ ¬zand (zshr ts (τ.1 338 w)) 1 = 1) → prdP τ ts (w + 1) 0 0 σ := fun hc p' w' l' hcd hp0 hlt => by
      have cc := ptW_cd.1 hcd
      refine hp p' w' l' hcd hp0 ?_
      by_cases y : w' = w
      · rw [y] at cc
        rcases hc with hc | hc
        · omega
        · exact absurd cc.2.1 hc
      · omega
    unfold Z12_findPrices_12B
    simp only [Z12_findPrices_95, Wz_rt, Wz_cnd, Wz_lI, Wz_lW, Wz_lL, Wz_cl, Wz_cv, Wz_nz, Wz_gI, Wz_gR, Wz_sI, Wz_aI, Wz_aZ, Wz_aL, Wz_aN, Wz_aR, Wz_tI, Wz_tZ, Wz_tL, Option.some.injEq, exists_eq_left', zB_0, zB_1, true_and, and_true, true_implies, not_true_eq_false, false_implies, not_false_eq_true, Classical.not_not, g_0, g_1, g_2, g_3, g_4, g_5, g_327, g_328, g_329, g_330, g_331, g_332, g_333, g_334, g_335, g_336, g_337, g_338, g_339, g_340, g_341, g_342, g_343, g_464, g_465, g_466, g_484, g_485, g_486, g_487, g_488, g_489, g_490, g_491, g_492, g_493, g_494, g_495, g_496, g_497, g_498, g_499, g_500, g_501, g_562, g_563, g_564, g_565, g_566, g_567, g_568, g_574, g_580, g_581, g_582, g_583, g_584, g_585, g_586, g_587, g_588, g_589, g_590, g_591, g_592, g_600, g_601, g_602, g_603, g_604, g_605, g_606, g_607, g_608, g_609, g_610, g_611, g_612, g_613, g_614, g_615, g_616, g_617, g_618, g_619, g_620, g_621, g_622, g_623, g_624, g_625, g_626, g_627, g_628, g_629, g_630, g_631, g_632, g_633, g_634, g_635, g_636, g_637, g_638, g_639, g_640, g_641, g_642, g_643, g_644, g_645, g_646, g_647, g_648, g_649, g_650, g_651, g_652, g_653, g_654, g_655, g_656, g_657, g_658, g_659, g_660, g_661, g_662, g_0_0, g_0_1, g_0_2, g_0_3, g_0_4, g_0_5, g_0_6, g_0_7, g_0_8, g_0_9, g_0_10, g_0_11, g_1_0, g_3_0, g_327_0, g_327_1, g_327_2, g_327_3, g_328_0, g_330_0, g_332_0, g_334_0, g_336_0, g_336_1, g_336_2, g_336_3, g_337_0, g_339_0, g_341_0, g_464_0, g_464_1, g_484_0, g_484_1, g_484_2, g_485_0, g_487_0, g_489_0, g_491_0, g_491_1, g_491_2, g_491_3, g_491_4, g_491_5, g_491_6, g_491_7, g_496_0, g_498_0, g_500_0, g_500_1, g_500_3, g_500_4, g_500_5, g_500_6, g_500_7, g_562_0, g_564_0, g_566_0, g_580_0, g_580_1, g_580_2, g_580_3, g_581_0, g_583_0, g_585_0, g_588_1, g_588_2, g_588_3, g_588_4, g_588_6, g_601_0, g_601_1, g_601_2, g_601_3, g_601_4, g_601_5, g_601_6, g_601_7, g_601_8, g_608_0, g_610_0, g_612_0, g_612_2, g_612_4, g_612_5, g_612_7, g_612_8, g_612_9, g_612_10, g_612_11, g_612_12, g_612_13, g_612_14, g_612_15, g_612_16, g_612_19, g_612_20, g_612_22, g_612_24, g_612_25, g_612_26, g_612_27, g_612_28, g_612_30, g_612_31, g_612_32, g_612_33, g_612_34, g_612_36, g_612_37, g_612_38, g_612_39, g_612_40, g_612_41, g_612_42, g_612_43, g_612_44, g_612_46, g_612_47, g_612_48, g_612_49, g_612_50, g_612_53, g_612_56, g_612_57, g_612_58, g_612_59, g_612_61, g_612_62, g_612_63, g_612_64, e1, e30]
    refine ⟨fun c => ⟨by omega, hQ σ hL (fin (Or.inl c))⟩, fun c => ⟨by omega, fun d => ?_, fun d => ⟨by omega, hQ σ hL (fin (Or.inr d))⟩⟩⟩
    unfold Z12_findPrices_37
    refine W12_fp_37 hI w0 w1 d p0 (by omega) (fun ρ r1 r2 => ih' ρ (by omega) (by omega) (by omega) r1 r2) NN 1 σ (by omega) (by omega) (by unfold NN; omega) hL (fun p' w' l' hcd hp0 hlt => hp p' w' l' hcd hp0 ?_)
    have cc := ptW_cd.1 hcd
    omega
set_option maxRecDepth 100000 in
theorem W12_findPrices {τ σ : kzM} (hI : Inv τ) (hL : tabL τ σ) {ts : Int} {Q : Unit → kzM → Prop} (hQ : ∀ ρ : kzM, tabL τ ρ → (∀ p w l, (ptW τ ts).cd p w l → 0 ≤ p → ρ.1 645 (160 * w + 10 * p + l - 1) = (ptW τ ts).pr p w l) → Q () ρ) : Wz (Z12_findPrices kdG0 612 ts) σ Q := by
  have i1 := hI.1
  unfold I1 at i1
  have i5 := hI.2.2.2.2.1
  unfold I5 at i5
  have go : ∀ (N : Nat) (w : Int) (σ : kzM), 0 ≤ w → w ≤ τ.1 337 1 → τ.1 337 1 - w < N → tabL τ σ → prdP τ ts w 0 0 σ → Wz (lp (fun _ _ _ _ => none) (Z12_findPrices_2B kdG0) N 612 ts w) σ Q := by
    intro N
    induction N with
    | zero => intro w; intros; omega
    | succ N ih =>
      intro w σ w0 w1 wN hL hp
      rw [lp_succ]
      have ih' := ih (w + 1)
      generalize lp (fun _ _ _ _ => none) (Z12_findPrices_2B kdG0) N = L at ih' ⊢
      have e29 : σ.1 612 29 = τ.1 337 1 := by rw [hL 612 29 (by decide), i5.2.2.2.1]
      unfold Z12_findPrices_2B
      simp only [Wz_rt, Wz_cnd, Wz_lI, Wz_lW, Wz_lL, Wz_cl, Wz_cv, Wz_nz, Wz_gI, Wz_gR, Wz_sI, Wz_aI, Wz_aZ, Wz_aL, Wz_aN, Wz_aR, Wz_tI, Wz_tZ, Wz_tL, Option.some.injEq, exists_eq_left', zB_0, zB_1, true_and, and_true, true_implies, not_true_eq_false, false_implies, not_false_eq_true, Classical.not_not, g_0, g_1, g_2, g_3, g_4, g_5, g_327, g_328, g_329, g_330, g_331, g_332, g_333, g_334, g_335, g_336, g_337, g_338, g_339, g_340, g_341, g_342, g_343, g_464, g_465, g_466, g_484, g_485, g_486, g_487, g_488, g_489, g_490, g_491, g_492, g_493, g_494, g_495, g_496, g_497, g_498, g_499, g_500, g_501, g_562, g_563, g_564, g_565, g_566, g_567, g_568, g_574, g_580, g_581, g_582, g_583, g_584, g_585, g_586, g_587, g_588, g_589, g_590, g_591, g_592, g_600, g_601, g_602, g_603, g_604, g_605, g_606, g_607, g_608, g_609, g_610, g_611, g_612, g_613, g_614, g_615, g_616, g_617, g_618, g_619, g_620, g_621, g_622, g_623, g_624, g_625, g_626, g_627, g_628, g_629, g_630, g_631, g_632, g_633, g_634, g_635, g_636, g_637, g_638, g_639, g_640, g_641, g_642, g_643, g_644, g_645, g_646, g_647, g_648, g_649, g_650, g_651, g_652, g_653, g_654, g_655, g_656, g_657, g_658, g_659, g_660, g_661, g_662, g_0_0, g_0_1, g_0_2, g_0_3, g_0_4, g_0_5, g_0_6, g_0_7, g_0_8, g_0_9, g_0_10, g_0_11, g_1_0, g_3_0, g_327_0, g_327_1, g_327_2, g_327_3, g_328_0, g_330_0, g_332_0, g_334_0, g_336_0, g_336_1, g_336_2, g_336_3, g_337_0, g_339_0, g_341_0, g_464_0, g_464_1, g_484_0, g_484_1, g_484_2, g_485_0, g_487_0, g_489_0, g_491_0, g_491_1, g_491_2, g_491_3, g_491_4, g_491_5, g_491_6, g_491_7, g_496_0, g_498_0, g_500_0, g_500_1, g_500_3, g_500_4, g_500_5, g_500_6, g_500_7, g_562_0, g_564_0, g_566_0, g_580_0, g_580_1, g_580_2, g_580_3, g_581_0, g_583_0, g_585_0, g_588_1, g_588_2, g_588_3, g_588_4, g_588_6, g_601_0, g_601_1, g_601_2, g_601_3, g_601_4, g_601_5, g_601_6, g_601_7, g_601_8, g_608_0, g_610_0, g_612_0, g_612_2, g_612_4, g_612_5, g_612_7, g_612_8, g_612_9, g_612_10, g_612_11, g_612_12, g_612_13, g_612_14, g_612_15, g_612_16, g_612_19, g_612_20, g_612_22, g_612_24, g_612_25, g_612_26, g_612_27, g_612_28, g_612_30, g_612_31, g_612_32, g_612_33, g_612_34, g_612_36, g_612_37, g_612_38, g_612_39, g_612_40, g_612_41, g_612_42, g_612_43, g_612_44, g_612_46, g_612_47, g_612_48, g_612_49, g_612_50, g_612_53, g_612_56, g_612_57, g_612_58, g_612_59, g_612_61, g_612_62, g_612_63, g_612_64, e29]
      refine ⟨fun c => hQ σ hL (fun p' w' l' hcd hp0 => hp p' w' l' hcd hp0 ?_), fun c => ?_⟩
      · have cc := ptW_cd.1 hcd
        omega
      · unfold Z12_findPrices_12
        exact W12_fp_12 hI w0 (by omega) (fun ρ r1 r2 => ih' ρ (by omega) (by omega) (by omega) r1 r2) NN 0 σ (by omega) (by omega) (by unfold NN; omega) hL hp
  unfold Z12_findPrices Z12_findPrices_2
  exact go NN 0 σ (by omega) (by omega) (by unfold NN; omega) hL (fun p' w' l' hcd hp0 hlt => by have cc := ptW_cd.1 hcd; omega)
def ixP (p K t : Int) : Int := 20 * p + 4 * K + t
set_option maxRecDepth 100000 in
theorem W12_sumBy {τ σ : kzM} (hI : Inv τ) (hL : tabL τ σ) {ts p K t w l x : Int} (hcd : (ptW τ ts).cd p w l) (p0 : 0 ≤ p) (K0 : 1 ≤ K) (K1 : K ≤ 4) (t0 : 0 ≤ t) (t1 : t ≤ 3) (h45 : σ.1 645 (160 * w + 10 * p + l - 1) = (ptW τ ts).pr p w l) (hx : σ.1 640 (ixP (p + l) (K - 1) (τ.1 338 w)) = x) (xb : x = 1000000000 ∨ (0 ≤ x ∧ x ≤ 3000)) {Q : Int → kzM → Prop} (q1 : x = 1000000000 → Q 1000000000 σ) (q2 : ¬x = 1000000000 → Q (x + (ptW τ ts).pr p w l + (ptW τ ts).sw t (τ.1 338 w)) σ) : Wz (Z12_sumBy kdG0 612 p K t w l) σ Q := by
  obtain ⟨a, b, c, d⟩ := ptW_cd.1 hcd
  have pw := ptW_w hI a.1 a.2
  have i1 := hI.1
  unfold I1 at i1
  have i6 := hI.2.2.2.2.2.1
  unfold I6 at i6
  have e6 := i6 5 (by omega) (by omega)
  have e30 : σ.1 630 w = τ.1 338 w := by rw [hL 630 w (by rw [md_5 (by decide)]; decide), pw.2.2.1]
  have e35 : σ.1 635 5 = τ.1 465 5 := by rw [hL 635 5 (by decide), e6.2]
  have pp := ptW_pr hI (ts := ts) (p := p) a.1 a.2 (l := l) (by omega) (by omega)
  unfold ixP at hx
  have go : ∀ s0, (0 ≤ s0 ∧ s0 ≤ 20) → (ptW τ ts).sw t (τ.1 338 w) = s0 → Wz (Z12_sumBy_50 kdG0 612 p w l x s0) σ Q := fun s0 sb hs => by
    simp only [Z12_sumBy_50, Z12_sumBy_81, Z12_priceAt, Wz_rt, Wz_cnd, Wz_lI, Wz_lW, Wz_lL, Wz_cl, Wz_cv, Wz_nz, Wz_gI, Wz_gR, Wz_sI, Wz_aI, Wz_aZ, Wz_aL, Wz_aN, Wz_aR, Wz_tI, Wz_tZ, Wz_tL, Option.some.injEq, exists_eq_left', zB_0, zB_1, true_and, and_true, true_implies, not_true_eq_false, false_implies, not_false_eq_true, Classical.not_not, g_0, g_1, g_2, g_3, g_4, g_5, g_327, g_328, g_329, g_330, g_331, g_332, g_333, g_334, g_335, g_336, g_337, g_338, g_339, g_340, g_341, g_342, g_343, g_464, g_465, g_466, g_484, g_485, g_486, g_487, g_488, g_489, g_490, g_491, g_492, g_493, g_494, g_495, g_496, g_497, g_498, g_499, g_500, g_501, g_562, g_563, g_564, g_565, g_566, g_567, g_568, g_574, g_580, g_581, g_582, g_583, g_584, g_585, g_586, g_587, g_588, g_589, g_590, g_591, g_592, g_600, g_601, g_602, g_603, g_604, g_605, g_606, g_607, g_608, g_609, g_610, g_611, g_612, g_613, g_614, g_615, g_616, g_617, g_618, g_619, g_620, g_621, g_622, g_623, g_624, g_625, g_626, g_627, g_628, g_629, g_630, g_631, g_632, g_633, g_634, g_635, g_636, g_637, g_638, g_639, g_640, g_641, g_642, g_643, g_644, g_645, g_646, g_647, g_648, g_649, g_650, g_651, g_652, g_653, g_654, g_655, g_656, g_657, g_658, g_659, g_660, g_661, g_662, g_0_0, g_0_1, g_0_2, g_0_3, g_0_4, g_0_5, g_0_6, g_0_7, g_0_8, g_0_9, g_0_10, g_0_11, g_1_0, g_3_0, g_327_0, g_327_1, g_327_2, g_327_3, g_328_0, g_330_0, g_332_0, g_334_0, g_336_0, g_336_1, g_336_2, g_336_3, g_337_0, g_339_0, g_341_0, g_464_0, g_464_1, g_484_0, g_484_1, g_484_2, g_485_0, g_487_0, g_489_0, g_491_0, g_491_1, g_491_2, g_491_3, g_491_4, g_491_5, g_491_6, g_491_7, g_496_0, g_498_0, g_500_0, g_500_1, g_500_3, g_500_4, g_500_5, g_500_6, g_500_7, g_562_0, g_564_0, g_566_0, g_580_0, g_580_1, g_580_2, g_580_3, g_581_0, g_583_0, g_585_0, g_588_1, g_588_2, g_588_3, g_588_4, g_588_6, g_601_0, g_601_1, g_601_2, g_601_3, g_601_4, g_601_5, g_601_6, g_601_7, g_601_8, g_608_0, g_610_0, g_612_0, g_612_2, g_612_4, g_612_5, g_612_7, g_612_8, g_612_9, g_612_10, g_612_11, g_612_12, g_612_13, g_612_14, g_612_15, g_612_16, g_612_19, g_612_20, g_612_22, g_612_24, g_612_25, g_612_26, g_612_27, g_612_28, g_612_30, g_612_31, g_612_32, g_612_33, g_612_34, g_612_36, g_612_37, g_612_38, g_612_39, g_612_40, g_612_41, g_612_42, g_612_43, g_612_44, g_612_46, g_612_47, g_612_48, g_612_49, g_612_50, g_612_53, g_612_56, g_612_57, g_612_58, g_612_59, g_612_61, g_612_62, g_612_63, g_612_64]
    refine ⟨fun e => q1 e, fun e => ⟨by omega, ?_⟩⟩
    rw [h45]
    have := q2 e
    rw [hs] at this
    refine ⟨by omega, ?_⟩
    rw [show x + s0 + (ptW τ ts).pr p w l = x + (ptW τ ts).pr p w l + s0 by omega]
    exact this
  simp only [Z12_sumBy, Z12_sumBy_49, Z12_placeOf, Wz_rt, Wz_cnd, Wz_lI, Wz_lW, Wz_lL, Wz_cl, Wz_cv, Wz_nz, Wz_gI, Wz_gR, Wz_sI, Wz_aI, Wz_aZ, Wz_aL, Wz_aN, Wz_aR, Wz_tI, Wz_tZ, Wz_tL, Option.some.injEq, exists_eq_left', zB_0, zB_1, true_and, and_true, true_implies, not_true_eq_false, false_implies, not_false_eq_true, Classical.not_not, g_0, g_1, g_2, g_3, g_4, g_5, g_327, g_328, g_329, g_330, g_331, g_332, g_333, g_334, g_335, g_336, g_337, g_338, g_339, g_340, g_341, g_342, g_343, g_464, g_465, g_466, g_484, g_485, g_486, g_487, g_488, g_489, g_490, g_491, g_492, g_493, g_494, g_495, g_496, g_497, g_498, g_499, g_500, g_501, g_562, g_563, g_564, g_565, g_566, g_567, g_568, g_574, g_580, g_581, g_582, g_583, g_584, g_585, g_586, g_587, g_588, g_589, g_590, g_591, g_592, g_600, g_601, g_602, g_603, g_604, g_605, g_606, g_607, g_608, g_609, g_610, g_611, g_612, g_613, g_614, g_615, g_616, g_617, g_618, g_619, g_620, g_621, g_622, g_623, g_624, g_625, g_626, g_627, g_628, g_629, g_630, g_631, g_632, g_633, g_634, g_635, g_636, g_637, g_638, g_639, g_640, g_641, g_642, g_643, g_644, g_645, g_646, g_647, g_648, g_649, g_650, g_651, g_652, g_653, g_654, g_655, g_656, g_657, g_658, g_659, g_660, g_661, g_662, g_0_0, g_0_1, g_0_2, g_0_3, g_0_4, g_0_5, g_0_6, g_0_7, g_0_8, g_0_9, g_0_10, g_0_11, g_1_0, g_3_0, g_327_0, g_327_1, g_327_2, g_327_3, g_328_0, g_330_0, g_332_0, g_334_0, g_336_0, g_336_1, g_336_2, g_336_3, g_337_0, g_339_0, g_341_0, g_464_0, g_464_1, g_484_0, g_484_1, g_484_2, g_485_0, g_487_0, g_489_0, g_491_0, g_491_1, g_491_2, g_491_3, g_491_4, g_491_5, g_491_6, g_491_7, g_496_0, g_498_0, g_500_0, g_500_1, g_500_3, g_500_4, g_500_5, g_500_6, g_500_7, g_562_0, g_564_0, g_566_0, g_580_0, g_580_1, g_580_2, g_580_3, g_581_0, g_583_0, g_585_0, g_588_1, g_588_2, g_588_3, g_588_4, g_588_6, g_601_0, g_601_1, g_601_2, g_601_3, g_601_4, g_601_5, g_601_6, g_601_7, g_601_8, g_608_0, g_610_0, g_612_0, g_612_2, g_612_4, g_612_5, g_612_7, g_612_8, g_612_9, g_612_10, g_612_11, g_612_12, g_612_13, g_612_14, g_612_15, g_612_16, g_612_19, g_612_20, g_612_22, g_612_24, g_612_25, g_612_26, g_612_27, g_612_28, g_612_30, g_612_31, g_612_32, g_612_33, g_612_34, g_612_36, g_612_37, g_612_38, g_612_39, g_612_40, g_612_41, g_612_42, g_612_43, g_612_44, g_612_46, g_612_47, g_612_48, g_612_49, g_612_50, g_612_53, g_612_56, g_612_57, g_612_58, g_612_59, g_612_61, g_612_62, g_612_63, g_612_64, e30, e35, hx]
  refine ⟨by omega, by omega, by omega, by omega, by omega, fun g => go 0 (by omega) ?_, fun g => ⟨by omega, fun h => go 0 (by omega) ?_, fun h => ⟨by omega, go _ (by omega) ?_⟩⟩⟩
  · exact if_pos (Or.inr (by omega))
  · exact if_pos (Or.inl h)
  · exact if_neg (by omega)
set_option maxRecDepth 100000 in
theorem W12_productBy {τ σ : kzM} (hI : Inv τ) (hL : tabL τ σ) {ts p K w l x : Int} (hcd : (ptW τ ts).cd p w l) (p0 : 0 ≤ p) (K0 : 1 ≤ K) (K1 : K ≤ 4) (hx : σ.2 641 (ixP (p + l) (K - 1) (τ.1 338 w)) = x) (xb : 0 ≤ x ∧ x ≤ 1000000) {Q : Int → kzM → Prop} (hQ : Q (x * (ptW τ ts).ct w) σ) : Wz (Z12_productBy kdG0 612 p K w l) σ Q := by
  obtain ⟨a, b, c, d⟩ := ptW_cd.1 hcd
  have pw := ptW_w hI a.1 a.2
  have i1 := hI.1
  unfold I1 at i1
  have e30 : σ.1 630 w = τ.1 338 w := by rw [hL 630 w (by rw [md_5 (by decide)]; decide), pw.2.2.1]
  have e32 : σ.1 632 w = (ptW τ ts).ct w := by rw [hL 632 w (by rw [md_5 (by decide)]; decide), pw.2.2.2.1]; rfl
  have m := mul_b (a := x) (b := (ptW τ ts).ct w) (u := 1000000) (v := 100) xb ⟨by have := pw.2.1.1; show 0 ≤ τ.1 342 w; omega, pw.2.1.2⟩
  unfold ixP at hx
  simp only [Z12_productBy, Z12_placeOf, Wz_rt, Wz_cnd, Wz_lI, Wz_lW, Wz_lL, Wz_cl, Wz_cv, Wz_nz, Wz_gI, Wz_gR, Wz_sI, Wz_aI, Wz_aZ, Wz_aL, Wz_aN, Wz_aR, Wz_tI, Wz_tZ, Wz_tL, Option.some.injEq, exists_eq_left', zB_0, zB_1, true_and, and_true, true_implies, not_true_eq_false, false_implies, not_false_eq_true, Classical.not_not, g_0, g_1, g_2, g_3, g_4, g_5, g_327, g_328, g_329, g_330, g_331, g_332, g_333, g_334, g_335, g_336, g_337, g_338, g_339, g_340, g_341, g_342, g_343, g_464, g_465, g_466, g_484, g_485, g_486, g_487, g_488, g_489, g_490, g_491, g_492, g_493, g_494, g_495, g_496, g_497, g_498, g_499, g_500, g_501, g_562, g_563, g_564, g_565, g_566, g_567, g_568, g_574, g_580, g_581, g_582, g_583, g_584, g_585, g_586, g_587, g_588, g_589, g_590, g_591, g_592, g_600, g_601, g_602, g_603, g_604, g_605, g_606, g_607, g_608, g_609, g_610, g_611, g_612, g_613, g_614, g_615, g_616, g_617, g_618, g_619, g_620, g_621, g_622, g_623, g_624, g_625, g_626, g_627, g_628, g_629, g_630, g_631, g_632, g_633, g_634, g_635, g_636, g_637, g_638, g_639, g_640, g_641, g_642, g_643, g_644, g_645, g_646, g_647, g_648, g_649, g_650, g_651, g_652, g_653, g_654, g_655, g_656, g_657, g_658, g_659, g_660, g_661, g_662, g_0_0, g_0_1, g_0_2, g_0_3, g_0_4, g_0_5, g_0_6, g_0_7, g_0_8, g_0_9, g_0_10, g_0_11, g_1_0, g_3_0, g_327_0, g_327_1, g_327_2, g_327_3, g_328_0, g_330_0, g_332_0, g_334_0, g_336_0, g_336_1, g_336_2, g_336_3, g_337_0, g_339_0, g_341_0, g_464_0, g_464_1, g_484_0, g_484_1, g_484_2, g_485_0, g_487_0, g_489_0, g_491_0, g_491_1, g_491_2, g_491_3, g_491_4, g_491_5, g_491_6, g_491_7, g_496_0, g_498_0, g_500_0, g_500_1, g_500_3, g_500_4, g_500_5, g_500_6, g_500_7, g_562_0, g_564_0, g_566_0, g_580_0, g_580_1, g_580_2, g_580_3, g_581_0, g_583_0, g_585_0, g_588_1, g_588_2, g_588_3, g_588_4, g_588_6, g_601_0, g_601_1, g_601_2, g_601_3, g_601_4, g_601_5, g_601_6, g_601_7, g_601_8, g_608_0, g_610_0, g_612_0, g_612_2, g_612_4, g_612_5, g_612_7, g_612_8, g_612_9, g_612_10, g_612_11, g_612_12, g_612_13, g_612_14, g_612_15, g_612_16, g_612_19, g_612_20, g_612_22, g_612_24, g_612_25, g_612_26, g_612_27, g_612_28, g_612_30, g_612_31, g_612_32, g_612_33, g_612_34, g_612_36, g_612_37, g_612_38, g_612_39, g_612_40, g_612_41, g_612_42, g_612_43, g_612_44, g_612_46, g_612_47, g_612_48, g_612_49, g_612_50, g_612_53, g_612_56, g_612_57, g_612_58, g_612_59, g_612_61, g_612_62, g_612_63, g_612_64, e30, e32, hx]
  exact ⟨by omega, by omega, by omega, by omega, by omega, by omega, by omega, hQ⟩
set_option maxRecDepth 100000 in
theorem W12_manyBy {τ σ : kzM} (hI : Inv τ) (hL : tabL τ σ) {ts p K w l x : Int} (hcd : (ptW τ ts).cd p w l) (p0 : 0 ≤ p) (K0 : 1 ≤ K) (K1 : K ≤ 4) (hx : σ.1 642 (ixP (p + l) (K - 1) (τ.1 338 w)) = x) (xb : 0 ≤ x ∧ x ≤ 100) {Q : Int → kzM → Prop} (hQ : Q (x + 1) σ) : Wz (Z12_manyBy kdG0 612 p K w l) σ Q := by
  obtain ⟨a, b, c, d⟩ := ptW_cd.1 hcd
  have pw := ptW_w hI a.1 a.2
  have i1 := hI.1
  unfold I1 at i1
  have e30 : σ.1 630 w = τ.1 338 w := by rw [hL 630 w (by rw [md_5 (by decide)]; decide), pw.2.2.1]
  unfold ixP at hx
  simp only [Z12_manyBy, Z12_placeOf, Wz_rt, Wz_cnd, Wz_lI, Wz_lW, Wz_lL, Wz_cl, Wz_cv, Wz_nz, Wz_gI, Wz_gR, Wz_sI, Wz_aI, Wz_aZ, Wz_aL, Wz_aN, Wz_aR, Wz_tI, Wz_tZ, Wz_tL, Option.some.injEq, exists_eq_left', zB_0, zB_1, true_and, and_true, true_implies, not_true_eq_false, false_implies, not_false_eq_true, Classical.not_not, g_0, g_1, g_2, g_3, g_4, g_5, g_327, g_328, g_329, g_330, g_331, g_332, g_333, g_334, g_335, g_336, g_337, g_338, g_339, g_340, g_341, g_342, g_343, g_464, g_465, g_466, g_484, g_485, g_486, g_487, g_488, g_489, g_490, g_491, g_492, g_493, g_494, g_495, g_496, g_497, g_498, g_499, g_500, g_501, g_562, g_563, g_564, g_565, g_566, g_567, g_568, g_574, g_580, g_581, g_582, g_583, g_584, g_585, g_586, g_587, g_588, g_589, g_590, g_591, g_592, g_600, g_601, g_602, g_603, g_604, g_605, g_606, g_607, g_608, g_609, g_610, g_611, g_612, g_613, g_614, g_615, g_616, g_617, g_618, g_619, g_620, g_621, g_622, g_623, g_624, g_625, g_626, g_627, g_628, g_629, g_630, g_631, g_632, g_633, g_634, g_635, g_636, g_637, g_638, g_639, g_640, g_641, g_642, g_643, g_644, g_645, g_646, g_647, g_648, g_649, g_650, g_651, g_652, g_653, g_654, g_655, g_656, g_657, g_658, g_659, g_660, g_661, g_662, g_0_0, g_0_1, g_0_2, g_0_3, g_0_4, g_0_5, g_0_6, g_0_7, g_0_8, g_0_9, g_0_10, g_0_11, g_1_0, g_3_0, g_327_0, g_327_1, g_327_2, g_327_3, g_328_0, g_330_0, g_332_0, g_334_0, g_336_0, g_336_1, g_336_2, g_336_3, g_337_0, g_339_0, g_341_0, g_464_0, g_464_1, g_484_0, g_484_1, g_484_2, g_485_0, g_487_0, g_489_0, g_491_0, g_491_1, g_491_2, g_491_3, g_491_4, g_491_5, g_491_6, g_491_7, g_496_0, g_498_0, g_500_0, g_500_1, g_500_3, g_500_4, g_500_5, g_500_6, g_500_7, g_562_0, g_564_0, g_566_0, g_580_0, g_580_1, g_580_2, g_580_3, g_581_0, g_583_0, g_585_0, g_588_1, g_588_2, g_588_3, g_588_4, g_588_6, g_601_0, g_601_1, g_601_2, g_601_3, g_601_4, g_601_5, g_601_6, g_601_7, g_601_8, g_608_0, g_610_0, g_612_0, g_612_2, g_612_4, g_612_5, g_612_7, g_612_8, g_612_9, g_612_10, g_612_11, g_612_12, g_612_13, g_612_14, g_612_15, g_612_16, g_612_19, g_612_20, g_612_22, g_612_24, g_612_25, g_612_26, g_612_27, g_612_28, g_612_30, g_612_31, g_612_32, g_612_33, g_612_34, g_612_36, g_612_37, g_612_38, g_612_39, g_612_40, g_612_41, g_612_42, g_612_43, g_612_44, g_612_46, g_612_47, g_612_48, g_612_49, g_612_50, g_612_53, g_612_56, g_612_57, g_612_58, g_612_59, g_612_61, g_612_62, g_612_63, g_612_64, e30, hx]
  exact ⟨by omega, by omega, by omega, by omega, by omega, by omega, hQ⟩
