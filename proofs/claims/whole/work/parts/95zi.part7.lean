/-! parting: the class's search, words and places -/
theorem rowE_5 {τ : kzM} {ts p w l : Int} {ρ : kzM} (h : rowE τ ts p w l 5 0 ρ) : rowE τ ts p w (l + 1) 1 0 ρ := fun k' t' a1 a2 a3 a4 => by
  have q := h k' t' a1 a2 a3 a4
  rw [if_pos (by omega)] at q
  rw [if_neg (by omega)]
  exact q
theorem rowE_on {τ : kzM} {ts p w l k t : Int} {σ ρ : kzM} (h : rowE τ ts p w l k t σ) (hs : ∀ a x, (492 ≤ a ∧ a ≤ 495) → ρ.1 a x = σ.1 a x) : rowE τ ts p w l k t ρ := fun k' t' a1 a2 a3 a4 => by
  rw [hs 492 _ (by omega), hs 493 _ (by omega), hs 494 _ (by omega), hs 495 _ (by omega)]
  exact h k' t' a1 a2 a3 a4
set_option maxRecDepth 100000 in
theorem W5_tw_64 {τ : kzM} (hI : Inv τ) {ts p w l m : Int} (hcd : (ptW τ ts).cd p w l) (p0 : 0 ≤ p) {σ0 : kzM} (hL0 : tabL τ σ0) (hD : doneE τ ts σ0 (p + 1)) {K : Nat → Int → Int → Int → Int → kzM → Option (Unit × kzM)} {Q : Unit → kzM → Prop} (hQ : ∀ ρ, (∀ a x, ¬((492 ≤ a ∧ a ≤ 495) ∧ 20 * p + 4 ≤ x ∧ x < 20 * p + 20) → ρ.1 a x = σ0.1 a x) → rowE τ ts p w (l + 1) 1 0 ρ → Wz (K 491 p w m (l + 1)) ρ Q) : ∀ (N k : Nat) (σ : kzM), 1 ≤ k → k ≤ 5 → 6 - k < N → (∀ a x, ¬((492 ≤ a ∧ a ≤ 495) ∧ 20 * p + 4 ≤ x ∧ x < 20 * p + 20) → σ.1 a x = σ0.1 a x) → rowE τ ts p w l k 0 σ → Wz (lp (fun _ _ _ _ _ _ _ _ => none) (Z5_tryWord_64B kdG0 K) N 491 p w m l ((ptW τ ts).pr p w l) (k : Int)) σ Q := by
  obtain ⟨a, b, c, d⟩ := ptW_cd.1 hcd
  have pw := ptW_w hI a.1 a.2
  have i1 := hI.1
  unfold I1 at i1
  intro N
  induction N with
  | zero => intro k; intros; omega
  | succ N ih =>
    intro k σ k0 k1 kN ho hr
    rw [lp_succ]
    have ih' := ih (k + 1)
    generalize lp (fun _ _ _ _ _ _ _ _ => none) (Z5_tryWord_64B kdG0 K) N = L at ih' ⊢
    have hL : tabL τ σ := fun a x z => (ho a x (fun q => z (md_20 (by omega)))).trans (hL0 a x z)
    unfold Z5_tryWord_64B
    simp only [Wz_rt, Wz_cnd, Wz_lI, Wz_lW, Wz_lL, Wz_cl, Wz_cv, Wz_nz, Wz_gI, Wz_gR, Wz_sI, Wz_aI, Wz_aZ, Wz_aL, Wz_aN, Wz_aR, Wz_tI, Wz_tZ, Wz_tL, Option.some.injEq, exists_eq_left', zB_0, zB_1, true_and, and_true, true_implies, not_true_eq_false, false_implies, not_false_eq_true, Classical.not_not, g_0, g_1, g_2, g_3, g_4, g_5, g_327, g_328, g_329, g_330, g_331, g_332, g_333, g_334, g_335, g_336, g_337, g_338, g_339, g_340, g_341, g_342, g_343, g_464, g_465, g_466, g_484, g_485, g_486, g_487, g_488, g_489, g_490, g_491, g_492, g_493, g_494, g_495, g_496, g_497, g_498, g_499, g_500, g_501, g_562, g_563, g_564, g_565, g_566, g_567, g_568, g_574, g_580, g_581, g_582, g_583, g_584, g_585, g_586, g_587, g_588, g_589, g_590, g_591, g_592, g_600, g_601, g_602, g_603, g_604, g_605, g_606, g_607, g_608, g_609, g_610, g_611, g_612, g_613, g_614, g_615, g_616, g_617, g_618, g_619, g_620, g_621, g_622, g_623, g_624, g_625, g_626, g_627, g_628, g_629, g_630, g_631, g_632, g_633, g_634, g_635, g_636, g_637, g_638, g_639, g_640, g_641, g_642, g_643, g_644, g_645, g_646, g_647, g_648, g_649, g_650, g_651, g_652, g_653, g_654, g_655, g_656, g_657, g_658, g_659, g_660, g_661, g_662, g_0_0, g_0_1, g_0_2, g_0_3, g_0_4, g_0_5, g_0_6, g_0_7, g_0_8, g_0_9, g_0_10, g_0_11, g_1_0, g_3_0, g_327_0, g_327_1, g_327_2, g_327_3, g_328_0, g_330_0, g_332_0, g_334_0, g_336_0, g_336_1, g_336_2, g_336_3, g_337_0, g_339_0, g_341_0, g_464_0, g_464_1, g_484_0, g_484_1, g_484_2, g_485_0, g_487_0, g_489_0, g_491_0, g_491_1, g_491_2, g_491_3, g_491_4, g_491_5, g_491_6, g_491_7, g_496_0, g_498_0, g_500_0, g_500_1, g_500_3, g_500_4, g_500_5, g_500_6, g_500_7, g_562_0, g_564_0, g_566_0, g_580_0, g_580_1, g_580_2, g_580_3, g_581_0, g_583_0, g_585_0, g_588_1, g_588_2, g_588_3, g_588_4, g_588_6, g_601_0, g_601_1, g_601_2, g_601_3, g_601_4, g_601_5, g_601_6, g_601_7, g_601_8, g_608_0, g_610_0, g_612_0, g_612_2, g_612_4, g_612_5, g_612_7, g_612_8, g_612_9, g_612_10, g_612_11, g_612_12, g_612_13, g_612_14, g_612_15, g_612_16, g_612_19, g_612_20, g_612_22, g_612_24, g_612_25, g_612_26, g_612_27, g_612_28, g_612_30, g_612_31, g_612_32, g_612_33, g_612_34, g_612_36, g_612_37, g_612_38, g_612_39, g_612_40, g_612_41, g_612_42, g_612_43, g_612_44, g_612_46, g_612_47, g_612_48, g_612_49, g_612_50, g_612_53, g_612_56, g_612_57, g_612_58, g_612_59, g_612_61, g_612_62, g_612_63, g_612_64]
    refine ⟨fun z => ⟨by omega, hQ σ ho ?_⟩, fun z => ?_⟩
    · have e : (k : Int) = 5 := by omega
      rw [e] at hr
      exact rowE_5 hr
    · have hD2 := doneE_on p0 (by omega) hD (fun a x _ y => ho a x (fun q => y q.2))
      have hE := (hD2 (p + l) (k - 1) (τ.1 338 w) (by omega) d (by omega) (by omega) (by omega) (by omega)).1
      refine W5_tryPiece hI (by omega) hcd p0 hL hE hr fun ρ r1 r2 => ⟨by omega, ?_⟩
      rw [show (k : Int) + 1 = ((k + 1 : Nat) : Int) by omega] at r2 ⊢
      exact ih' ρ (by omega) (by omega) (by omega) (fun a x z => (r1 a x z).trans (ho a x z)) r2
set_option maxRecDepth 100000 in
theorem W5_tw_35 {τ : kzM} (hI : Inv τ) {ts p w m : Int} (w0 : 0 ≤ w) (w1 : w < τ.1 337 1) (hb : zand (zshr ts (τ.1 338 w)) 1 = 1) (p0 : 0 ≤ p) (p1 : p < τ.1 1 1) (hm : m = zmin 10 (τ.1 1 1 - p)) {σ0 : kzM} (hL0 : tabL τ σ0) (hD : doneE τ ts σ0 (p + 1)) (hT : ∀ x, 0 ≤ x → x ≤ m → tbC σ0 x (τ.1 (344 + 2 * w.toNat) 1) = (ptW τ ts).pr p w x) {Q : Unit → kzM → Prop} (hQ : ∀ ρ, (∀ a x, ¬((492 ≤ a ∧ a ≤ 495) ∧ 20 * p + 4 ≤ x ∧ x < 20 * p + 20) → ρ.1 a x = σ0.1 a x) → rowE τ ts p (w + 1) 1 1 0 ρ → Q () ρ) : ∀ (N : Nat) (l : Int) (σ : kzM), 1 ≤ l → l ≤ m + 1 → m + 2 - l < N → (∀ a x, ¬((492 ≤ a ∧ a ≤ 495) ∧ 20 * p + 4 ≤ x ∧ x < 20 * p + 20) → σ.1 a x = σ0.1 a x) → rowE τ ts p w l 1 0 σ → Wz (lp (fun _ _ _ _ _ _ => none) (Z5_tryWord_35B kdG0) N 491 p w m l) σ Q := by
  have pw := ptW_w hI w0 w1
  have i1 := hI.1
  unfold I1 at i1
  have mb : 1 ≤ m ∧ m ≤ 10 ∧ p + m ≤ τ.1 1 1 ∧ (m = 10 ∨ p + m = τ.1 1 1) := by rw [hm]; unfold zmin; split <;> omega
  have ka := (g_wd w0 (show w < 60 by omega)).2
  intro N
  induction N with
  | zero => intro l; intros; omega
  | succ N ih =>
    intro l σ l0 l1 lN ho hr
    rw [lp_succ]
    have ih' := ih (l + 1)
    generalize lp (fun _ _ _ _ _ _ => none) (Z5_tryWord_35B kdG0) N = L at ih' ⊢
    have hL : tabL τ σ := fun a x z => (ho a x (fun q => z (md_20 (by omega)))).trans (hL0 a x z)
    have e44 : σ.1 (344 + 2 * w.toNat) 1 = τ.1 (344 + 2 * w.toNat) 1 := hL _ _ (by rw [md_5 (by omega)]; decide)
    have sw : slW σ (344 + 2 * w.toNat) := ((hI.tabL hL).wd w0 (by rw [hL 337 1 (by decide)]; exact w1)).1
    unfold Z5_tryWord_35B
    simp only [W10_keysOf w0 (show w < 60 by omega), Wz_rt, Wz_cnd, Wz_lI, Wz_lW, Wz_lL, Wz_cl, Wz_cv, Wz_nz, Wz_gI, Wz_gR, Wz_sI, Wz_aI, Wz_aZ, Wz_aL, Wz_aN, Wz_aR, Wz_tI, Wz_tZ, Wz_tL, Option.some.injEq, exists_eq_left', zB_0, zB_1, true_and, and_true, true_implies, not_true_eq_false, false_implies, not_false_eq_true, Classical.not_not, g_0, g_1, g_2, g_3, g_4, g_5, g_327, g_328, g_329, g_330, g_331, g_332, g_333, g_334, g_335, g_336, g_337, g_338, g_339, g_340, g_341, g_342, g_343, g_464, g_465, g_466, g_484, g_485, g_486, g_487, g_488, g_489, g_490, g_491, g_492, g_493, g_494, g_495, g_496, g_497, g_498, g_499, g_500, g_501, g_562, g_563, g_564, g_565, g_566, g_567, g_568, g_574, g_580, g_581, g_582, g_583, g_584, g_585, g_586, g_587, g_588, g_589, g_590, g_591, g_592, g_600, g_601, g_602, g_603, g_604, g_605, g_606, g_607, g_608, g_609, g_610, g_611, g_612, g_613, g_614, g_615, g_616, g_617, g_618, g_619, g_620, g_621, g_622, g_623, g_624, g_625, g_626, g_627, g_628, g_629, g_630, g_631, g_632, g_633, g_634, g_635, g_636, g_637, g_638, g_639, g_640, g_641, g_642, g_643, g_644, g_645, g_646, g_647, g_648, g_649, g_650, g_651, g_652, g_653, g_654, g_655, g_656, g_657, g_658, g_659, g_660, g_661, g_662, g_0_0, g_0_1, g_0_2, g_0_3, g_0_4, g_0_5, g_0_6, g_0_7, g_0_8, g_0_9, g_0_10, g_0_11, g_1_0, g_3_0, g_327_0, g_327_1, g_327_2, g_327_3, g_328_0, g_330_0, g_332_0, g_334_0, g_336_0, g_336_1, g_336_2, g_336_3, g_337_0, g_339_0, g_341_0, g_464_0, g_464_1, g_484_0, g_484_1, g_484_2, g_485_0, g_487_0, g_489_0, g_491_0, g_491_1, g_491_2, g_491_3, g_491_4, g_491_5, g_491_6, g_491_7, g_496_0, g_498_0, g_500_0, g_500_1, g_500_3, g_500_4, g_500_5, g_500_6, g_500_7, g_562_0, g_564_0, g_566_0, g_580_0, g_580_1, g_580_2, g_580_3, g_581_0, g_583_0, g_585_0, g_588_1, g_588_2, g_588_3, g_588_4, g_588_6, g_601_0, g_601_1, g_601_2, g_601_3, g_601_4, g_601_5, g_601_6, g_601_7, g_601_8, g_608_0, g_610_0, g_612_0, g_612_2, g_612_4, g_612_5, g_612_7, g_612_8, g_612_9, g_612_10, g_612_11, g_612_12, g_612_13, g_612_14, g_612_15, g_612_16, g_612_19, g_612_20, g_612_22, g_612_24, g_612_25, g_612_26, g_612_27, g_612_28, g_612_30, g_612_31, g_612_32, g_612_33, g_612_34, g_612_36, g_612_37, g_612_38, g_612_39, g_612_40, g_612_41, g_612_42, g_612_43, g_612_44, g_612_46, g_612_47, g_612_48, g_612_49, g_612_50, g_612_53, g_612_56, g_612_57, g_612_58, g_612_59, g_612_61, g_612_62, g_612_63, g_612_64, ka.1]
    refine ⟨fun c => hQ σ ho (fun k' t' a1 a2 a3 a4 => ?_), fun c => W7_leastFor ka sw (by omega) (by omega) ?_⟩
    · have q := hr k' t' a1 a2 a3 a4
      rw [if_neg (by omega)] at q
      rw [if_neg (by omega)]
      refine sfE_cg q (fun w' l' S' P' v => ?_)
      have cc := ptW_cd.1 v.1
      unfold dnP
      omega
    · have et : tbC σ l (σ.1 (344 + 2 * w.toNat) 1) = (ptW τ ts).pr p w l := by
        rw [e44]
        show σ.1 (467 + l.toNat) _ = _
        rw [ho _ _ (by omega)]
        exact hT l (by omega) (by omega)
      rw [et]
      have hcd : (ptW τ ts).cd p w l := ptW_cd.2 ⟨⟨w0, w1⟩, hb, by omega, by omega⟩
      have hD2 := doneE_on p0 (by omega) hD (fun a x _ y => ho a x (fun q => y q.2))
      unfold Z5_tryWord_64
      exact W5_tw_64 (m := m) hI hcd p0 hL hD2 (fun ρ r1 r2 => ih' ρ (by omega) (by omega) (by omega) (fun a x z => (r1 a x z).trans (ho a x z)) r2) NN 1 σ (by omega) (by omega) (by unfold NN; omega) (fun _ _ _ => rfl) hr
set_option maxRecDepth 100000 in
theorem W5_tryWord {τ : kzM} (hI : Inv τ) {ts p w : Int} (w0 : 0 ≤ w) (w1 : w < τ.1 337 1) (hb : zand (zshr ts (τ.1 338 w)) 1 = 1) (p0 : 0 ≤ p) (p1 : p < τ.1 1 1) {σ : kzM} (hL : tabL τ σ) (hD : doneE τ ts σ (p + 1)) (hr : rowE τ ts p w 1 1 0 σ) {Q : Unit → kzM → Prop} (hQ : ∀ ρ, onE p σ ρ → rowE τ ts p (w + 1) 1 1 0 ρ → Q () ρ) : Wz (Z5_tryWord kdG0 491 1 p w) σ Q := by
  have pw := ptW_w hI w0 w1
  have i1 := hI.1
  unfold I1 at i1
  have ka := (g_wd w0 (show w < 60 by omega)).2
  have hI2 := hI.tabL hL
  have e1 : σ.1 1 1 = τ.1 1 1 := hL 1 1 (by decide)
  have e37 : σ.1 337 1 = τ.1 337 1 := hL 337 1 (by decide)
  have e44 : σ.1 (344 + 2 * w.toNat) 1 = τ.1 (344 + 2 * w.toNat) 1 := hL _ _ (by rw [md_5 (by omega)]; decide)
  have sw : slW σ (344 + 2 * w.toNat) := (hI2.wd w0 (by rw [e37]; exact w1)).1
  have mb : 1 ≤ zmin 10 (τ.1 1 1 - p) ∧ zmin 10 (τ.1 1 1 - p) ≤ 10 ∧ p + zmin 10 (τ.1 1 1 - p) ≤ τ.1 1 1 := by unfold zmin; split <;> omega
  unfold Z5_tryWord Z5_tryWord_35
  simp only [W10_keysOf w0 (show w < 60 by omega), W_size r_1, W_isEmpty r_1, W_isFull r_1, W_has r_1, W_clear r_1, W_size r_3, W_isEmpty r_3, W_isFull r_3, W_has r_3, W_clear r_3, W_size r_328, W_isEmpty r_328, W_isFull r_328, W_has r_328, W_clear r_328, W_size r_330, W_isEmpty r_330, W_isFull r_330, W_has r_330, W_clear r_330, W_size r_332, W_isEmpty r_332, W_isFull r_332, W_has r_332, W_clear r_332, W_size r_334, W_isEmpty r_334, W_isFull r_334, W_has r_334, W_clear r_334, W_size r_337, W_isEmpty r_337, W_isFull r_337, W_has r_337, W_clear r_337, W_size r_339, W_isEmpty r_339, W_isFull r_339, W_has r_339, W_clear r_339, W_size r_341, W_isEmpty r_341, W_isFull r_341, W_has r_341, W_clear r_341, W_size r_485, W_isEmpty r_485, W_isFull r_485, W_has r_485, W_clear r_485, W_size r_487, W_isEmpty r_487, W_isFull r_487, W_has r_487, W_clear r_487, W_size r_489, W_isEmpty r_489, W_isFull r_489, W_has r_489, W_clear r_489, W_size r_496, W_isEmpty r_496, W_isFull r_496, W_has r_496, W_clear r_496, W_size r_498, W_isEmpty r_498, W_isFull r_498, W_has r_498, W_clear r_498, W_size r_562, W_isEmpty r_562, W_isFull r_562, W_has r_562, W_clear r_562, W_size r_564, W_isEmpty r_564, W_isFull r_564, W_has r_564, W_clear r_564, W_size r_566, W_isEmpty r_566, W_isFull r_566, W_has r_566, W_clear r_566, W_size r_581, W_isEmpty r_581, W_isFull r_581, W_has r_581, W_clear r_581, W_size r_583, W_isEmpty r_583, W_isFull r_583, W_has r_583, W_clear r_583, W_size r_585, W_isEmpty r_585, W_isFull r_585, W_has r_585, W_clear r_585, W_size r_608, W_isEmpty r_608, W_isFull r_608, W_has r_608, W_clear r_608, W_size r_610, W_isEmpty r_610, W_isFull r_610, W_has r_610, W_clear r_610, Wz_rt, Wz_cnd, Wz_lI, Wz_lW, Wz_lL, Wz_cl, Wz_cv, Wz_nz, Wz_gI, Wz_gR, Wz_sI, Wz_aI, Wz_aZ, Wz_aL, Wz_aN, Wz_aR, Wz_tI, Wz_tZ, Wz_tL, Option.some.injEq, exists_eq_left', zB_0, zB_1, true_and, and_true, true_implies, not_true_eq_false, false_implies, not_false_eq_true, Classical.not_not, g_0, g_1, g_2, g_3, g_4, g_5, g_327, g_328, g_329, g_330, g_331, g_332, g_333, g_334, g_335, g_336, g_337, g_338, g_339, g_340, g_341, g_342, g_343, g_464, g_465, g_466, g_484, g_485, g_486, g_487, g_488, g_489, g_490, g_491, g_492, g_493, g_494, g_495, g_496, g_497, g_498, g_499, g_500, g_501, g_562, g_563, g_564, g_565, g_566, g_567, g_568, g_574, g_580, g_581, g_582, g_583, g_584, g_585, g_586, g_587, g_588, g_589, g_590, g_591, g_592, g_600, g_601, g_602, g_603, g_604, g_605, g_606, g_607, g_608, g_609, g_610, g_611, g_612, g_613, g_614, g_615, g_616, g_617, g_618, g_619, g_620, g_621, g_622, g_623, g_624, g_625, g_626, g_627, g_628, g_629, g_630, g_631, g_632, g_633, g_634, g_635, g_636, g_637, g_638, g_639, g_640, g_641, g_642, g_643, g_644, g_645, g_646, g_647, g_648, g_649, g_650, g_651, g_652, g_653, g_654, g_655, g_656, g_657, g_658, g_659, g_660, g_661, g_662, g_0_0, g_0_1, g_0_2, g_0_3, g_0_4, g_0_5, g_0_6, g_0_7, g_0_8, g_0_9, g_0_10, g_0_11, g_1_0, g_3_0, g_327_0, g_327_1, g_327_2, g_327_3, g_328_0, g_330_0, g_332_0, g_334_0, g_336_0, g_336_1, g_336_2, g_336_3, g_337_0, g_339_0, g_341_0, g_464_0, g_464_1, g_484_0, g_484_1, g_484_2, g_485_0, g_487_0, g_489_0, g_491_0, g_491_1, g_491_2, g_491_3, g_491_4, g_491_5, g_491_6, g_491_7, g_496_0, g_498_0, g_500_0, g_500_1, g_500_3, g_500_4, g_500_5, g_500_6, g_500_7, g_562_0, g_564_0, g_566_0, g_580_0, g_580_1, g_580_2, g_580_3, g_581_0, g_583_0, g_585_0, g_588_1, g_588_2, g_588_3, g_588_4, g_588_6, g_601_0, g_601_1, g_601_2, g_601_3, g_601_4, g_601_5, g_601_6, g_601_7, g_601_8, g_608_0, g_610_0, g_612_0, g_612_2, g_612_4, g_612_5, g_612_7, g_612_8, g_612_9, g_612_10, g_612_11, g_612_12, g_612_13, g_612_14, g_612_15, g_612_16, g_612_19, g_612_20, g_612_22, g_612_24, g_612_25, g_612_26, g_612_27, g_612_28, g_612_30, g_612_31, g_612_32, g_612_33, g_612_34, g_612_36, g_612_37, g_612_38, g_612_39, g_612_40, g_612_41, g_612_42, g_612_43, g_612_44, g_612_46, g_612_47, g_612_48, g_612_49, g_612_50, g_612_53, g_612_56, g_612_57, g_612_58, g_612_59, g_612_61, g_612_62, g_612_63, g_612_64, e1]
  refine ⟨by omega, by omega, W7_work ka (by omega) hI2.sl.1 sw p0 (by omega) (by rw [e1]; omega) fun ρ r1 r2 => ?_⟩
  have hLr : tabL τ ρ := hL.tr (fun a x z => r1 a x (fun q => z (md_20 (by omega))))
  refine W5_tw_35 hI w0 w1 hb p0 p1 rfl hLr (doneE_on p0 (by omega) hD (fun a x y _ => r1 a x (by omega))) (fun x x0 x1 => ?_) (fun ζ z1 z2 => hQ ζ (fun a x y1 y2 => ?_) z2) NN 1 ρ (by omega) (by omega) (by unfold NN; omega) (fun _ _ _ => rfl) (rowE_on hr (fun a x y => r1 a x (by omega)))
  · have q := r2 x (τ.1 (344 + 2 * w.toNat) 1) x0 x1 (by have := sw.1; omega) (by omega)
    rw [q, eC_L hL w0 (by omega)]
    rfl
  · rw [z1 a x y2]
    exact r1 a x y1
set_option maxRecDepth 100000 in
theorem W5_fd_22 {τ : kzM} (hI : Inv τ) {ts p : Int} (p0 : 0 ≤ p) (p1 : p < τ.1 1 1) {σ0 : kzM} (hL0 : tabL τ σ0) (hD0 : doneE τ ts σ0 (p + 1)) {K : Nat → Nat → Int → Int → kzM → Option (Int × kzM)} {Q : Int → kzM → Prop} (hQ : ∀ ρ, onE p σ0 ρ → rowE τ ts p (τ.1 337 1) 1 1 0 ρ → Wz (K 491 1 ts (p - 1)) ρ Q) : ∀ (N : Nat) (w : Int) (σ : kzM), 0 ≤ w → w ≤ τ.1 337 1 → τ.1 337 1 - w < N → onE p σ0 σ → rowE τ ts p w 1 1 0 σ → Wz (lp (fun _ _ _ _ _ _ => none) (Z5_find_22B kdG0 K) N 491 1 ts p w) σ Q := by
  have i1 := hI.1
  unfold I1 at i1
  have i5 := hI.2.2.2.2.1
  unfold I5 at i5
  intro N
  induction N with
  | zero => intro w; intros; omega
  | succ N ih =>
    intro w σ w0 w1 wN ho hr
    rw [lp_succ]
    have ih' := ih (w + 1)
    generalize lp (fun _ _ _ _ _ _ => none) (Z5_find_22B kdG0 K) N = L at ih' ⊢
    have hL := hL0.onE ho
    have e37 : σ.1 337 1 = τ.1 337 1 := hL 337 1 (by decide)
    have e38 : σ.1 338 w = τ.1 338 w := hL 338 w (by rw [md_5 (by decide)]; decide)
    unfold Z5_find_22B
    simp only [Z5_find_58, W10_size, W10_tongueOf (show σ.1 337 1 ≤ 60 by omega), W11_hasBit, zp_0, Wz_rt, Wz_cnd, Wz_lI, Wz_lW, Wz_lL, Wz_cl, Wz_cv, Wz_nz, Wz_gI, Wz_gR, Wz_sI, Wz_aI, Wz_aZ, Wz_aL, Wz_aN, Wz_aR, Wz_tI, Wz_tZ, Wz_tL, Option.some.injEq, exists_eq_left', zB_0, zB_1, true_and, and_true, true_implies, not_true_eq_false, false_implies, not_false_eq_true, Classical.not_not, g_0, g_1, g_2, g_3, g_4, g_5, g_327, g_328, g_329, g_330, g_331, g_332, g_333, g_334, g_335, g_336, g_337, g_338, g_339, g_340, g_341, g_342, g_343, g_464, g_465, g_466, g_484, g_485, g_486, g_487, g_488, g_489, g_490, g_491, g_492, g_493, g_494, g_495, g_496, g_497, g_498, g_499, g_500, g_501, g_562, g_563, g_564, g_565, g_566, g_567, g_568, g_574, g_580, g_581, g_582, g_583, g_584, g_585, g_586, g_587, g_588, g_589, g_590, g_591, g_592, g_600, g_601, g_602, g_603, g_604, g_605, g_606, g_607, g_608, g_609, g_610, g_611, g_612, g_613, g_614, g_615, g_616, g_617, g_618, g_619, g_620, g_621, g_622, g_623, g_624, g_625, g_626, g_627, g_628, g_629, g_630, g_631, g_632, g_633, g_634, g_635, g_636, g_637, g_638, g_639, g_640, g_641, g_642, g_643, g_644, g_645, g_646, g_647, g_648, g_649, g_650, g_651, g_652, g_653, g_654, g_655, g_656, g_657, g_658, g_659, g_660, g_661, g_662, g_0_0, g_0_1, g_0_2, g_0_3, g_0_4, g_0_5, g_0_6, g_0_7, g_0_8, g_0_9, g_0_10, g_0_11, g_1_0, g_3_0, g_327_0, g_327_1, g_327_2, g_327_3, g_328_0, g_330_0, g_332_0, g_334_0, g_336_0, g_336_1, g_336_2, g_336_3, g_337_0, g_339_0, g_341_0, g_464_0, g_464_1, g_484_0, g_484_1, g_484_2, g_485_0, g_487_0, g_489_0, g_491_0, g_491_1, g_491_2, g_491_3, g_491_4, g_491_5, g_491_6, g_491_7, g_496_0, g_498_0, g_500_0, g_500_1, g_500_3, g_500_4, g_500_5, g_500_6, g_500_7, g_562_0, g_564_0, g_566_0, g_580_0, g_580_1, g_580_2, g_580_3, g_581_0, g_583_0, g_585_0, g_588_1, g_588_2, g_588_3, g_588_4, g_588_6, g_601_0, g_601_1, g_601_2, g_601_3, g_601_4, g_601_5, g_601_6, g_601_7, g_601_8, g_608_0, g_610_0, g_612_0, g_612_2, g_612_4, g_612_5, g_612_7, g_612_8, g_612_9, g_612_10, g_612_11, g_612_12, g_612_13, g_612_14, g_612_15, g_612_16, g_612_19, g_612_20, g_612_22, g_612_24, g_612_25, g_612_26, g_612_27, g_612_28, g_612_30, g_612_31, g_612_32, g_612_33, g_612_34, g_612_36, g_612_37, g_612_38, g_612_39, g_612_40, g_612_41, g_612_42, g_612_43, g_612_44, g_612_46, g_612_47, g_612_48, g_612_49, g_612_50, g_612_53, g_612_56, g_612_57, g_612_58, g_612_59, g_612_61, g_612_62, g_612_63, g_612_64, e37]
    refine ⟨fun c => ⟨by omega, ?_⟩, fun c => ?_⟩
    · rw [show p + -1 = p - 1 by omega]
      have ew : w = τ.1 337 1 := by omega
      rw [ew] at hr
      exact hQ σ ho hr
    · rw [if_pos (by omega), e38]
      refine ⟨fun d => ⟨by omega, ih' σ (by omega) (by omega) (by omega) ho (fun k' t' a1 a2 a3 a4 => ?_)⟩, fun d => ?_⟩
      · have q := hr k' t' a1 a2 a3 a4
        rw [if_neg (by omega)] at q
        rw [if_neg (by omega)]
        refine sfE_cg q (fun w' l' S' P' v => ?_)
        have cc := ptW_cd.1 v.1
        unfold dnP
        by_cases y : w' = w
        · rw [y] at cc
          exact absurd cc.2.1 d
        · omega
      · refine W5_tryWord hI w0 (by omega) d p0 p1 hL (doneE_on p0 (by omega) hD0 (fun a x y z => ho a x (by omega) (by omega))) hr fun ρ r1 r2 => ⟨by omega, ih' ρ (by omega) (by omega) (by omega) (ho.tr r1) r2⟩
/-- a place that is through -/
theorem rowE_done {τ : kzM} (hI : Inv τ) {ts p : Int} (p0 : 0 ≤ p) (p1 : p < τ.1 1 1) {σ ρ : kzM} (hD : doneE τ ts σ (p + 1)) (ho : onE p σ ρ) (h0 : ∀ t, 0 ≤ t → t ≤ 3 → σ.1 492 (ixP p 0 t) = 1000000000) (hr : rowE τ ts p (τ.1 337 1) 1 1 0 ρ) : doneE τ ts ρ p := by
  have hD2 := doneE_on p0 (show p < p + 1 by omega) hD (fun a x y z => ho a x (by omega) (by omega))
  intro p' k t a1 a2 a3 a4 a5 a6
  by_cases y : p' = p
  · subst y
    cases k with
    | zero =>
      have e : ρ.1 492 (ixP p' ((0 : Nat) : Int) t) = 1000000000 := by
        rw [ho 492 _ (by omega) (by unfold ixP; omega)]
        exact h0 t a4 a5
      refine ⟨Or.inr ⟨e, fun ⟨S, P, h⟩ => ?_⟩, fun _ z => absurd z (by omega)⟩
      have := h.1
      rw [show (ptW τ ts).L = τ.1 1 1 from rfl] at this
      omega
    | succ k =>
      have q := hr (k + 1) t (by omega) a3 a4 a5
      rw [if_neg (by omega), show k + 1 - 1 = k by omega] at q
      have all : ∀ w l S' P', (ptW τ ts).vE k p' t w l S' P' → dnP (τ.1 337 1) 1 w l := fun w l S' P' v => Or.inl (ptW_cd.1 v.1).1.2
      have ex : ∀ w l, (ptW τ ts).cd p' w l → ∀ s q, (ptW τ ts).At k (p' + l) ((ptW τ ts).tg w) s q → ∃ s' q', (ptW τ ts).bE k (p' + l) ((ptW τ ts).tg w) s' q' := fun w l hc s q ha => by
        have cc := ptW_cd.1 hc
        have pw := ptW_w hI cc.1.1 cc.1.2
        have tg0 : (ptW τ ts).tg w = τ.1 338 w := rfl
        rw [tg0] at ha ⊢
        rcases (hD2 (p' + l) k (τ.1 338 w) (by omega) cc.2.2.2 (by omega) (by omega) (by omega) (by omega)).1 with h | ⟨_, h⟩
        · exact ⟨_, _, h⟩
        · exact absurd ⟨s, q, ha⟩ h
      rcases q with ⟨q1, q2, q3⟩ | ⟨⟨q1, q2⟩, q3, q4⟩
      · refine ⟨Or.inr ⟨q1, fun ⟨S, P, w, l, hc, s, q, ha, _⟩ => ?_⟩, fun _ _ z => absurd q1 z⟩
        obtain ⟨s', q', hb⟩ := ex w l hc s q ha
        exact q3 w l _ _ (all w l _ _ ⟨hc, s', q', hb, rfl, rfl⟩) ⟨hc, s', q', hb, rfl, rfl⟩
      · refine ⟨Or.inl (ptD.bE_of (D := ptW τ ts) (ptW_ok hI ts) ⟨_, _, q2⟩ (fun w l S' P' v => q3 w l S' P' (all _ _ _ _ v) v) ex), fun _ _ _ => ?_⟩
        rw [show k + 1 - 1 = k by omega]
        exact ⟨q2, fun w' l' v => q4 w' l' (all _ _ _ _ v) v⟩
  · exact hD2 p' k t (by omega) a2 a3 a4 a5 a6
