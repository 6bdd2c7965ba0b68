/-! parting: the class's table -/
/-- what the class has found among first pieces -/
def sfE (τ : kzM) (ts : Int) (p : Int) (k : Nat) (t : Int) (dn : Int → Int → Prop) (S P fw fl : Int) : Prop := (S = 1000000000 ∧ P = 1 ∧ ∀ w l S' P', dn w l → ¬(ptW τ ts).vE k p t w l S' P') ∨ ((dn fw fl ∧ (ptW τ ts).vE k p t fw fl S P) ∧ (∀ w l S' P', dn w l → (ptW τ ts).vE k p t w l S' P' → S < S' ∨ (S = S' ∧ P' ≤ P)) ∧ ∀ w l, dn w l → (ptW τ ts).vE k p t w l S P → ¬dnP fw fl w l)
theorem vE_u {τ : kzM} {ts p t w l S P S' P' : Int} {k : Nat} (h : (ptW τ ts).vE k p t w l S P) (h' : (ptW τ ts).vE k p t w l S' P') : S = S' ∧ P = P' := by
  obtain ⟨_, s, q, hb, e1, e2⟩ := h
  obtain ⟨_, s', q', hb', e1', e2'⟩ := h'
  obtain ⟨x, y⟩ := ptD.bE_u hb hb'
  subst x; subst y
  exact ⟨by omega, by omega⟩
theorem sfE_cg {τ : kzM} {ts p t : Int} {k : Nat} {dn dn' : Int → Int → Prop} {S P fw fl : Int} (h : sfE τ ts p k t dn S P fw fl) (c : ∀ w l S' P', (ptW τ ts).vE k p t w l S' P' → (dn w l ↔ dn' w l)) : sfE τ ts p k t dn' S P fw fl := by
  rcases h with ⟨a, b, d⟩ | ⟨⟨a, b⟩, d, e⟩
  · exact Or.inl ⟨a, b, fun w l S' P' q v => d w l S' P' ((c w l S' P' v).2 q) v⟩
  · exact Or.inr ⟨⟨(c _ _ _ _ b).1 a, b⟩, fun w l S' P' q v => d w l S' P' ((c w l S' P' v).2 q) v, fun w l q v => e w l ((c w l _ _ v).2 q) v⟩
theorem sfE_keep {τ : kzM} {ts p t w l S P fw fl : Int} {k : Nat} (h : sfE τ ts p k t (dnP w l) S P fw fl) (hk : ∀ S' P', (ptW τ ts).vE k p t w l S' P' → ¬S = 1000000000 ∧ (S < S' ∨ (S = S' ∧ P' ≤ P))) : sfE τ ts p k t (dnP w (l + 1)) S P fw fl := by
  rcases h with ⟨a, b, d⟩ | ⟨⟨a, b⟩, d, e⟩
  · refine Or.inl ⟨a, b, fun x y S' P' q v => ?_⟩
    by_cases z : x = w ∧ y = l
    · obtain ⟨rfl, rfl⟩ := z
      exact (hk _ _ v).1 a
    · exact d x y S' P' (by unfold dnP at q ⊢; omega) v
  · refine Or.inr ⟨⟨by unfold dnP at a ⊢; omega, b⟩, fun x y S' P' q v => ?_, fun x y q v => ?_⟩
    · by_cases z : x = w ∧ y = l
      · obtain ⟨rfl, rfl⟩ := z
        exact (hk _ _ v).2
      · exact d x y S' P' (by unfold dnP at q ⊢; omega) v
    · by_cases z : x = w ∧ y = l
      · obtain ⟨rfl, rfl⟩ := z
        unfold dnP at a ⊢
        omega
      · exact e x y (by unfold dnP at q ⊢; omega) v
theorem sfE_new {τ : kzM} {ts p t w l S P fw fl S' P' : Int} {k : Nat} (h : sfE τ ts p k t (dnP w l) S P fw fl) (v : (ptW τ ts).vE k p t w l S' P') (hb : S' < S ∨ (S = S' ∧ P < P')) : sfE τ ts p k t (dnP w (l + 1)) S' P' w l := by
  have lt : ∀ x y S2 P2, dnP w l x y → (ptW τ ts).vE k p t x y S2 P2 → S' < S2 ∨ (S' = S2 ∧ P2 < P') := fun x y S2 P2 q v2 => by
    rcases h with ⟨_, _, d⟩ | ⟨_, d, _⟩
    · exact absurd v2 (d x y S2 P2 q)
    · have := d x y S2 P2 q v2
      omega
  refine Or.inr ⟨⟨Or.inr ⟨rfl, by omega⟩, v⟩, fun x y S2 P2 q v2 => ?_, fun x y q v2 => ?_⟩
  · by_cases z : x = w ∧ y = l
    · obtain ⟨rfl, rfl⟩ := z
      have := vE_u v v2
      omega
    · have := lt x y S2 P2 (by unfold dnP at q ⊢; omega) v2
      omega
  · intro dd
    have := lt x y _ _ dd v2
    omega
/-- the class's entries at p: k and t that have had (w, l), and those that haven't -/
def rowE (τ : kzM) (ts p w l k t : Int) (ρ : kzM) : Prop := ∀ (k' : Nat) (t' : Int), 1 ≤ k' → k' ≤ 4 → 0 ≤ t' → t' ≤ 3 → sfE τ ts p (k' - 1) t' (dnP w (if (k' : Int) < k ∨ ((k' : Int) = k ∧ t' < t) then l + 1 else l)) (ρ.1 492 (ixP p k' t')) (ρ.1 493 (ixP p k' t')) (ρ.1 494 (ixP p k' t')) (ρ.1 495 (ixP p k' t'))
def onE (p : Int) (σ ρ : kzM) : Prop := ∀ a x, ¬(467 ≤ a ∧ a ≤ 483) → ¬((492 ≤ a ∧ a ≤ 495) ∧ 20 * p + 4 ≤ x ∧ x < 20 * p + 20) → ρ.1 a x = σ.1 a x
theorem onE.tr {p : Int} {σ ρ ζ : kzM} (h : onE p σ ρ) (k : onE p ρ ζ) : onE p σ ζ := fun a x y z => (k a x y z).trans (h a x y z)
theorem tabL.onE {τ σ ρ : kzM} {p : Int} (h : tabL τ σ) (k : onE p σ ρ) : tabL τ ρ := fun a x z => (k a x (fun q => z (md_20 (by omega))) (fun q => z (md_20 (by omega)))).trans (h a x z)
set_option maxRecDepth 100000 in
theorem W5_better {σ : kzM} {v q ix : Int} (h0 : 0 ≤ ix) (h1 : ix < 340) {Q : Int → kzM → Prop} (hQ : Q (zp (v < σ.1 492 ix ∨ (v = σ.1 492 ix ∧ σ.1 493 ix < q))) σ) : Wz (Z5_isBetter kdG0 491 v q ix) σ Q := by
  simp only [Z5_isBetter, Z5_isBetter_30, Z5_isBetter_34, Z5_isBetter_35, Wz_rt, Wz_cnd, Wz_lI, Wz_lW, Wz_lL, Wz_cl, Wz_cv, Wz_nz, Wz_gI, Wz_gR, Wz_sI, Wz_aI, Wz_aZ, Wz_aL, Wz_aN, Wz_aR, Wz_tI, Wz_tZ, Wz_tL, Option.some.injEq, exists_eq_left', zB_0, zB_1, true_and, and_true, true_implies, not_true_eq_false, false_implies, not_false_eq_true, Classical.not_not, g_0, g_1, g_2, g_3, g_4, g_5, g_327, g_328, g_329, g_330, g_331, g_332, g_333, g_334, g_335, g_336, g_337, g_338, g_339, g_340, g_341, g_342, g_343, g_464, g_465, g_466, g_484, g_485, g_486, g_487, g_488, g_489, g_490, g_491, g_492, g_493, g_494, g_495, g_496, g_497, g_498, g_499, g_500, g_501, g_562, g_563, g_564, g_565, g_566, g_567, g_568, g_574, g_580, g_581, g_582, g_583, g_584, g_585, g_586, g_587, g_588, g_589, g_590, g_591, g_592, g_600, g_601, g_602, g_603, g_604, g_605, g_606, g_607, g_608, g_609, g_610, g_611, g_612, g_613, g_614, g_615, g_616, g_617, g_618, g_619, g_620, g_621, g_622, g_623, g_624, g_625, g_626, g_627, g_628, g_629, g_630, g_631, g_632, g_633, g_634, g_635, g_636, g_637, g_638, g_639, g_640, g_641, g_642, g_643, g_644, g_645, g_646, g_647, g_648, g_649, g_650, g_651, g_652, g_653, g_654, g_655, g_656, g_657, g_658, g_659, g_660, g_661, g_662, g_0_0, g_0_1, g_0_2, g_0_3, g_0_4, g_0_5, g_0_6, g_0_7, g_0_8, g_0_9, g_0_10, g_0_11, g_1_0, g_3_0, g_327_0, g_327_1, g_327_2, g_327_3, g_328_0, g_330_0, g_332_0, g_334_0, g_336_0, g_336_1, g_336_2, g_336_3, g_337_0, g_339_0, g_341_0, g_464_0, g_464_1, g_484_0, g_484_1, g_484_2, g_485_0, g_487_0, g_489_0, g_491_0, g_491_1, g_491_2, g_491_3, g_491_4, g_491_5, g_491_6, g_491_7, g_496_0, g_498_0, g_500_0, g_500_1, g_500_3, g_500_4, g_500_5, g_500_6, g_500_7, g_562_0, g_564_0, g_566_0, g_580_0, g_580_1, g_580_2, g_580_3, g_581_0, g_583_0, g_585_0, g_588_1, g_588_2, g_588_3, g_588_4, g_588_6, g_601_0, g_601_1, g_601_2, g_601_3, g_601_4, g_601_5, g_601_6, g_601_7, g_601_8, g_608_0, g_610_0, g_612_0, g_612_2, g_612_4, g_612_5, g_612_7, g_612_8, g_612_9, g_612_10, g_612_11, g_612_12, g_612_13, g_612_14, g_612_15, g_612_16, g_612_19, g_612_20, g_612_22, g_612_24, g_612_25, g_612_26, g_612_27, g_612_28, g_612_30, g_612_31, g_612_32, g_612_33, g_612_34, g_612_36, g_612_37, g_612_38, g_612_39, g_612_40, g_612_41, g_612_42, g_612_43, g_612_44, g_612_46, g_612_47, g_612_48, g_612_49, g_612_50, g_612_53, g_612_56, g_612_57, g_612_58, g_612_59, g_612_61, g_612_62, g_612_63, g_612_64]
  refine ⟨by omega, fun c => ?_, fun c => ⟨by omega, fun d => ⟨by omega, fun e => ?_, fun e => ?_⟩, fun d => ?_⟩⟩
  · rw [zp_pos (Or.inl c)] at hQ; exact hQ
  · rw [zp_neg (by omega)] at hQ; exact hQ
  · rw [zp_pos (Or.inr ⟨d, by omega⟩)] at hQ; exact hQ
  · rw [zp_neg (by omega)] at hQ; exact hQ
def on4 (ix : Int) (σ ρ : kzM) : Prop := ∀ a x, ¬((492 ≤ a ∧ a ≤ 495) ∧ x = ix) → ρ.1 a x = σ.1 a x
set_option maxRecDepth 100000 in
theorem W5_tp_70 {τ : kzM} (hI : Inv τ) {ts p w l v q : Int} {k : Nat} (hk : 1 ≤ k ∧ k ≤ 4) (p0 : 0 ≤ p) (p1 : p < τ.1 1 1) (w0 : 0 ≤ w) (w1 : w < τ.1 337 1) (vb : 0 ≤ v ∧ v ≤ 10000) (hv : ∀ t, 0 ≤ t → t ≤ 3 → (ptW τ ts).vE (k - 1) p t w l (v + (ptW τ ts).sw t (τ.1 338 w)) q) {σ0 : kzM} (hL0 : tabL τ σ0) {Q : Unit → kzM → Prop} (hQ : ∀ ρ, (∀ a x, ¬((492 ≤ a ∧ a ≤ 495) ∧ 20 * p + 4 ≤ x ∧ x < 20 * p + 20) → ρ.1 a x = σ0.1 a x) → rowE τ ts p w l ((k : Int) + 1) 0 ρ → Q () ρ) : ∀ (N : Nat) (t : Int) (σ : kzM), 0 ≤ t → t ≤ 4 → 5 - t < N → (∀ a x, ¬((492 ≤ a ∧ a ≤ 495) ∧ 20 * p + 4 ≤ x ∧ x < 20 * p + 20) → σ.1 a x = σ0.1 a x) → rowE τ ts p w l k t σ → Wz (lp (fun _ _ _ _ _ _ _ _ _ _ => none) (Z5_tryPiece_70B kdG0) N 491 p k w l (τ.1 338 w) v q t) σ Q := by
  have pw := ptW_w hI w0 w1
  have i1 := hI.1
  unfold I1 at i1
  have i6 := hI.2.2.2.2.2.1
  unfold I6 at i6
  have e6 := (i6 5 (by omega) (by omega)).1
  intro N
  induction N with
  | zero => intro t; intros; omega
  | succ N ih =>
    intro t σ t0 t1 tN ho hr
    rw [lp_succ]
    have ih' := ih (t + 1)
    generalize lp (fun _ _ _ _ _ _ _ _ _ _ => none) (Z5_tryPiece_70B kdG0) N = L at ih' ⊢
    have e465 : σ.1 465 5 = τ.1 465 5 := by rw [ho 465 5 (by omega), hL0 465 5 (by decide)]
    by_cases c : 3 < t
    · unfold Z5_tryPiece_70B
      simp only [Wz_rt, Wz_cnd, Wz_lI, Wz_lW, Wz_lL, Wz_cl, Wz_cv, Wz_nz, Wz_gI, Wz_gR, Wz_sI, Wz_aI, Wz_aZ, Wz_aL, Wz_aN, Wz_aR, Wz_tI, Wz_tZ, Wz_tL, Option.some.injEq, exists_eq_left', zB_0, zB_1, true_and, and_true, true_implies, not_true_eq_false, false_implies, not_false_eq_true, Classical.not_not, g_0, g_1, g_2, g_3, g_4, g_5, g_327, g_328, g_329, g_330, g_331, g_332, g_333, g_334, g_335, g_336, g_337, g_338, g_339, g_340, g_341, g_342, g_343, g_464, g_465, g_466, g_484, g_485, g_486, g_487, g_488, g_489, g_490, g_491, g_492, g_493, g_494, g_495, g_496, g_497, g_498, g_499, g_500, g_501, g_562, g_563, g_564, g_565, g_566, g_567, g_568, g_574, g_580, g_581, g_582, g_583, g_584, g_585, g_586, g_587, g_588, g_589, g_590, g_591, g_592, g_600, g_601, g_602, g_603, g_604, g_605, g_606, g_607, g_608, g_609, g_610, g_611, g_612, g_613, g_614, g_615, g_616, g_617, g_618, g_619, g_620, g_621, g_622, g_623, g_624, g_625, g_626, g_627, g_628, g_629, g_630, g_631, g_632, g_633, g_634, g_635, g_636, g_637, g_638, g_639, g_640, g_641, g_642, g_643, g_644, g_645, g_646, g_647, g_648, g_649, g_650, g_651, g_652, g_653, g_654, g_655, g_656, g_657, g_658, g_659, g_660, g_661, g_662, g_0_0, g_0_1, g_0_2, g_0_3, g_0_4, g_0_5, g_0_6, g_0_7, g_0_8, g_0_9, g_0_10, g_0_11, g_1_0, g_3_0, g_327_0, g_327_1, g_327_2, g_327_3, g_328_0, g_330_0, g_332_0, g_334_0, g_336_0, g_336_1, g_336_2, g_336_3, g_337_0, g_339_0, g_341_0, g_464_0, g_464_1, g_484_0, g_484_1, g_484_2, g_485_0, g_487_0, g_489_0, g_491_0, g_491_1, g_491_2, g_491_3, g_491_4, g_491_5, g_491_6, g_491_7, g_496_0, g_498_0, g_500_0, g_500_1, g_500_3, g_500_4, g_500_5, g_500_6, g_500_7, g_562_0, g_564_0, g_566_0, g_580_0, g_580_1, g_580_2, g_580_3, g_581_0, g_583_0, g_585_0, g_588_1, g_588_2, g_588_3, g_588_4, g_588_6, g_601_0, g_601_1, g_601_2, g_601_3, g_601_4, g_601_5, g_601_6, g_601_7, g_601_8, g_608_0, g_610_0, g_612_0, g_612_2, g_612_4, g_612_5, g_612_7, g_612_8, g_612_9, g_612_10, g_612_11, g_612_12, g_612_13, g_612_14, g_612_15, g_612_16, g_612_19, g_612_20, g_612_22, g_612_24, g_612_25, g_612_26, g_612_27, g_612_28, g_612_30, g_612_31, g_612_32, g_612_33, g_612_34, g_612_36, g_612_37, g_612_38, g_612_39, g_612_40, g_612_41, g_612_42, g_612_43, g_612_44, g_612_46, g_612_47, g_612_48, g_612_49, g_612_50, g_612_53, g_612_56, g_612_57, g_612_58, g_612_59, g_612_61, g_612_62, g_612_63, g_612_64]
      refine ⟨fun _ => hQ σ ho (fun k' t' a1 a2 a3 a4 => ?_), fun z => absurd c z⟩
      have h := hr k' t' a1 a2 a3 a4
      by_cases y : (k' : Int) < (k : Int) + 1
      · rw [if_pos (by omega)] at h
        rw [if_pos (Or.inl y)]
        exact h
      · rw [if_neg (by omega)] at h
        rw [if_neg (by omega)]
        exact h
    · have ix0 : (p * 5 + (k : Int)) * 4 + t = ixP p k t := by unfold ixP; omega
      have ixb : 0 ≤ ixP p k t ∧ ixP p k t < 340 := by unfold ixP; omega
      have ixr : 20 * p + 4 ≤ ixP p k t ∧ ixP p k t < 20 * p + 20 := by unfold ixP; omega
      have inj : ∀ (k' : Nat) (t' : Int), k' ≤ 4 → 0 ≤ t' → t' ≤ 3 → ixP p k' t' = ixP p k t → k' = k ∧ t' = t := fun k' t' h0 h1 h2 e => by
        unfold ixP at e
        omega
      have h := hr k t hk.1 hk.2 t0 (by omega)
      rw [if_neg (by omega)] at h
      -- on to the next t with the entry right
      have next : ∀ ρ : kzM, on4 (ixP p k t) σ ρ → sfE τ ts p (k - 1) t (dnP w (l + 1)) (ρ.1 492 (ixP p k t)) (ρ.1 493 (ixP p k t)) (ρ.1 494 (ixP p k t)) (ρ.1 495 (ixP p k t)) → Wz (Z5_tryPiece_189 kdG0 L 491 p k w l (τ.1 338 w) v q t) ρ Q := fun ρ r1 r2 => by
        simp only [Z5_tryPiece_189, Wz_rt, Wz_cnd, Wz_lI, Wz_lW, Wz_lL, Wz_cl, Wz_cv, Wz_nz, Wz_gI, Wz_gR, Wz_sI, Wz_aI, Wz_aZ, Wz_aL, Wz_aN, Wz_aR, Wz_tI, Wz_tZ, Wz_tL, Option.some.injEq, exists_eq_left', zB_0, zB_1, true_and, and_true, true_implies, not_true_eq_false, false_implies, not_false_eq_true, Classical.not_not, g_0, g_1, g_2, g_3, g_4, g_5, g_327, g_328, g_329, g_330, g_331, g_332, g_333, g_334, g_335, g_336, g_337, g_338, g_339, g_340, g_341, g_342, g_343, g_464, g_465, g_466, g_484, g_485, g_486, g_487, g_488, g_489, g_490, g_491, g_492, g_493, g_494, g_495, g_496, g_497, g_498, g_499, g_500, g_501, g_562, g_563, g_564, g_565, g_566, g_567, g_568, g_574, g_580, g_581, g_582, g_583, g_584, g_585, g_586, g_587, g_588, g_589, g_590, g_591, g_592, g_600, g_601, g_602, g_603, g_604, g_605, g_606, g_607, g_608, g_609, g_610, g_611, g_612, g_613, g_614, g_615, g_616, g_617, g_618, g_619, g_620, g_621, g_622, g_623, g_624, g_625, g_626, g_627, g_628, g_629, g_630, g_631, g_632, g_633, g_634, g_635, g_636, g_637, g_638, g_639, g_640, g_641, g_642, g_643, g_644, g_645, g_646, g_647, g_648, g_649, g_650, g_651, g_652, g_653, g_654, g_655, g_656, g_657, g_658, g_659, g_660, g_661, g_662, g_0_0, g_0_1, g_0_2, g_0_3, g_0_4, g_0_5, g_0_6, g_0_7, g_0_8, g_0_9, g_0_10, g_0_11, g_1_0, g_3_0, g_327_0, g_327_1, g_327_2, g_327_3, g_328_0, g_330_0, g_332_0, g_334_0, g_336_0, g_336_1, g_336_2, g_336_3, g_337_0, g_339_0, g_341_0, g_464_0, g_464_1, g_484_0, g_484_1, g_484_2, g_485_0, g_487_0, g_489_0, g_491_0, g_491_1, g_491_2, g_491_3, g_491_4, g_491_5, g_491_6, g_491_7, g_496_0, g_498_0, g_500_0, g_500_1, g_500_3, g_500_4, g_500_5, g_500_6, g_500_7, g_562_0, g_564_0, g_566_0, g_580_0, g_580_1, g_580_2, g_580_3, g_581_0, g_583_0, g_585_0, g_588_1, g_588_2, g_588_3, g_588_4, g_588_6, g_601_0, g_601_1, g_601_2, g_601_3, g_601_4, g_601_5, g_601_6, g_601_7, g_601_8, g_608_0, g_610_0, g_612_0, g_612_2, g_612_4, g_612_5, g_612_7, g_612_8, g_612_9, g_612_10, g_612_11, g_612_12, g_612_13, g_612_14, g_612_15, g_612_16, g_612_19, g_612_20, g_612_22, g_612_24, g_612_25, g_612_26, g_612_27, g_612_28, g_612_30, g_612_31, g_612_32, g_612_33, g_612_34, g_612_36, g_612_37, g_612_38, g_612_39, g_612_40, g_612_41, g_612_42, g_612_43, g_612_44, g_612_46, g_612_47, g_612_48, g_612_49, g_612_50, g_612_53, g_612_56, g_612_57, g_612_58, g_612_59, g_612_61, g_612_62, g_612_63, g_612_64]
        refine ⟨by omega, ih' ρ (by omega) (by omega) (by omega) (fun a x z => ?_) (fun k' t' a1 a2 a3 a4 => ?_)⟩
        · rw [r1 a x (by omega)]
          exact ho a x z
        · by_cases y : k' = k ∧ t' = t
          · obtain ⟨rfl, rfl⟩ := y
            rw [if_pos (by omega)]
            exact r2
          · have h' := hr k' t' a1 a2 a3 a4
            have ne : ¬ixP p k' t' = ixP p k t := fun e => y (inj k' t' a2 a3 a4 e)
            rw [r1 492 _ (by omega), r1 493 _ (by omega), r1 494 _ (by omega), r1 495 _ (by omega)]
            by_cases z : (k' : Int) < (k : Int) ∨ ((k' : Int) = (k : Int) ∧ t' < t)
            · rw [if_pos z] at h'
              rw [if_pos (by omega)]
              exact h'
            · rw [if_neg z] at h'
              rw [if_neg (by omega)]
              exact h'
      have vv := hv t t0 (by omega)
      have fin : ∀ s0 x, x = v + (ptW τ ts).sw t (τ.1 338 w) → (s0 = 0 ∧ x = v ∨ s0 = 1 ∧ x = v + τ.1 465 5) → Wz (Z5_tryPiece_126 kdG0 L 491 p k w l (τ.1 338 w) v q t s0 (ixP p k t) 491 x) σ Q := fun s0 x hx hs => by
        rw [← hx] at vv
        simp only [Z5_tryPiece_126, Z5_tryPiece_162, Z7_switchPrice, Wz_rt, Wz_cnd, Wz_lI, Wz_lW, Wz_lL, Wz_cl, Wz_cv, Wz_nz, Wz_gI, Wz_gR, Wz_sI, Wz_aI, Wz_aZ, Wz_aL, Wz_aN, Wz_aR, Wz_tI, Wz_tZ, Wz_tL, Option.some.injEq, exists_eq_left', zB_0, zB_1, true_and, and_true, true_implies, not_true_eq_false, false_implies, not_false_eq_true, Classical.not_not, g_0, g_1, g_2, g_3, g_4, g_5, g_327, g_328, g_329, g_330, g_331, g_332, g_333, g_334, g_335, g_336, g_337, g_338, g_339, g_340, g_341, g_342, g_343, g_464, g_465, g_466, g_484, g_485, g_486, g_487, g_488, g_489, g_490, g_491, g_492, g_493, g_494, g_495, g_496, g_497, g_498, g_499, g_500, g_501, g_562, g_563, g_564, g_565, g_566, g_567, g_568, g_574, g_580, g_581, g_582, g_583, g_584, g_585, g_586, g_587, g_588, g_589, g_590, g_591, g_592, g_600, g_601, g_602, g_603, g_604, g_605, g_606, g_607, g_608, g_609, g_610, g_611, g_612, g_613, g_614, g_615, g_616, g_617, g_618, g_619, g_620, g_621, g_622, g_623, g_624, g_625, g_626, g_627, g_628, g_629, g_630, g_631, g_632, g_633, g_634, g_635, g_636, g_637, g_638, g_639, g_640, g_641, g_642, g_643, g_644, g_645, g_646, g_647, g_648, g_649, g_650, g_651, g_652, g_653, g_654, g_655, g_656, g_657, g_658, g_659, g_660, g_661, g_662, g_0_0, g_0_1, g_0_2, g_0_3, g_0_4, g_0_5, g_0_6, g_0_7, g_0_8, g_0_9, g_0_10, g_0_11, g_1_0, g_3_0, g_327_0, g_327_1, g_327_2, g_327_3, g_328_0, g_330_0, g_332_0, g_334_0, g_336_0, g_336_1, g_336_2, g_336_3, g_337_0, g_339_0, g_341_0, g_464_0, g_464_1, g_484_0, g_484_1, g_484_2, g_485_0, g_487_0, g_489_0, g_491_0, g_491_1, g_491_2, g_491_3, g_491_4, g_491_5, g_491_6, g_491_7, g_496_0, g_498_0, g_500_0, g_500_1, g_500_3, g_500_4, g_500_5, g_500_6, g_500_7, g_562_0, g_564_0, g_566_0, g_580_0, g_580_1, g_580_2, g_580_3, g_581_0, g_583_0, g_585_0, g_588_1, g_588_2, g_588_3, g_588_4, g_588_6, g_601_0, g_601_1, g_601_2, g_601_3, g_601_4, g_601_5, g_601_6, g_601_7, g_601_8, g_608_0, g_610_0, g_612_0, g_612_2, g_612_4, g_612_5, g_612_7, g_612_8, g_612_9, g_612_10, g_612_11, g_612_12, g_612_13, g_612_14, g_612_15, g_612_16, g_612_19, g_612_20, g_612_22, g_612_24, g_612_25, g_612_26, g_612_27, g_612_28, g_612_30, g_612_31, g_612_32, g_612_33, g_612_34, g_612_36, g_612_37, g_612_38, g_612_39, g_612_40, g_612_41, g_612_42, g_612_43, g_612_44, g_612_46, g_612_47, g_612_48, g_612_49, g_612_50, g_612_53, g_612_56, g_612_57, g_612_58, g_612_59, g_612_61, g_612_62, g_612_63, g_612_64]
        refine W5_better ixb.1 ixb.2 ?_
        rw [zp_0]
        have wr : ¬¬(x < σ.1 492 (ixP p k t) ∨ (x = σ.1 492 (ixP p k t) ∧ σ.1 493 (ixP p k t) < q)) → (0 ≤ ixP p k t ∧ ixP p k t < 340) ∧ (0 ≤ ixP p k t ∧ ixP p k t < 340) ∧ (0 ≤ ixP p k t ∧ ixP p k t < 340) ∧ (0 ≤ ixP p k t ∧ ixP p k t < 340) ∧ Wz (Z5_tryPiece_189 kdG0 L 491 p k w l (τ.1 338 w) v q t) (v2 (v2 (v2 (v2 σ.1 492 (ixP p k t) x) 493 (ixP p k t) q) 494 (ixP p k t) w) 495 (ixP p k t) l, σ.2) Q := fun g => by
          refine ⟨ixb, ixb, ixb, ixb, next _ (fun a y z => ?_) ?_⟩
          · dsimp only
            rw [v2_eq, if_neg (by omega), v2_eq, if_neg (by omega), v2_eq, if_neg (by omega), v2_eq, if_neg (by omega)]
          · dsimp only
            rw [v2_ne _ _ _ _ (by decide), v2_ne _ _ _ _ (by decide), v2_ne _ _ _ _ (by decide), v2_self, v2_ne _ _ _ _ (by decide), v2_ne _ _ _ _ (by decide), v2_self, v2_ne _ _ _ _ (by decide), v2_self, v2_self]
            exact sfE_new h vv (by have := Classical.not_not.1 g; omega)
        refine ⟨fun g => next σ (fun _ _ _ => rfl) (sfE_keep h (fun S' P' v2' => ?_)), fun g => ?_⟩
        · have := vE_u vv v2'
          rcases h with ⟨a, _, _⟩ | ⟨⟨_, b⟩, _, _⟩
          · exfalso
            omega
          · have z := ptW_b hI (k - 1 + 1) _ _ _ _ (by omega) ((ptW τ ts).vE_At b)
            refine ⟨?_, by omega⟩
            omega
        · rcases hs with ⟨e, e'⟩ | ⟨e, e'⟩
          · refine ⟨fun _ => ?_, fun z => absurd e z⟩
            rw [e'] at wr g
            exact wr g
          · refine ⟨fun z => by omega, fun _ => ?_⟩
            rw [e465]
            refine ⟨by omega, by omega, ?_⟩
            rw [← e']
            exact wr g
      have sw0 : (t = τ.1 338 w ∨ t = 3) → (ptW τ ts).sw t (τ.1 338 w) = 0 := fun z => if_pos z
      have sw1 : ¬(t = τ.1 338 w ∨ t = 3) → (ptW τ ts).sw t (τ.1 338 w) = τ.1 465 5 := fun z => if_neg z
      unfold Z5_tryPiece_70B
      simp only [Z5_tryPiece_93, Z5_tryPiece_94, Z5_caseOf, Z7_switchPrice, Wz_rt, Wz_cnd, Wz_lI, Wz_lW, Wz_lL, Wz_cl, Wz_cv, Wz_nz, Wz_gI, Wz_gR, Wz_sI, Wz_aI, Wz_aZ, Wz_aL, Wz_aN, Wz_aR, Wz_tI, Wz_tZ, Wz_tL, Option.some.injEq, exists_eq_left', zB_0, zB_1, true_and, and_true, true_implies, not_true_eq_false, false_implies, not_false_eq_true, Classical.not_not, g_0, g_1, g_2, g_3, g_4, g_5, g_327, g_328, g_329, g_330, g_331, g_332, g_333, g_334, g_335, g_336, g_337, g_338, g_339, g_340, g_341, g_342, g_343, g_464, g_465, g_466, g_484, g_485, g_486, g_487, g_488, g_489, g_490, g_491, g_492, g_493, g_494, g_495, g_496, g_497, g_498, g_499, g_500, g_501, g_562, g_563, g_564, g_565, g_566, g_567, g_568, g_574, g_580, g_581, g_582, g_583, g_584, g_585, g_586, g_587, g_588, g_589, g_590, g_591, g_592, g_600, g_601, g_602, g_603, g_604, g_605, g_606, g_607, g_608, g_609, g_610, g_611, g_612, g_613, g_614, g_615, g_616, g_617, g_618, g_619, g_620, g_621, g_622, g_623, g_624, g_625, g_626, g_627, g_628, g_629, g_630, g_631, g_632, g_633, g_634, g_635, g_636, g_637, g_638, g_639, g_640, g_641, g_642, g_643, g_644, g_645, g_646, g_647, g_648, g_649, g_650, g_651, g_652, g_653, g_654, g_655, g_656, g_657, g_658, g_659, g_660, g_661, g_662, g_0_0, g_0_1, g_0_2, g_0_3, g_0_4, g_0_5, g_0_6, g_0_7, g_0_8, g_0_9, g_0_10, g_0_11, g_1_0, g_3_0, g_327_0, g_327_1, g_327_2, g_327_3, g_328_0, g_330_0, g_332_0, g_334_0, g_336_0, g_336_1, g_336_2, g_336_3, g_337_0, g_339_0, g_341_0, g_464_0, g_464_1, g_484_0, g_484_1, g_484_2, g_485_0, g_487_0, g_489_0, g_491_0, g_491_1, g_491_2, g_491_3, g_491_4, g_491_5, g_491_6, g_491_7, g_496_0, g_498_0, g_500_0, g_500_1, g_500_3, g_500_4, g_500_5, g_500_6, g_500_7, g_562_0, g_564_0, g_566_0, g_580_0, g_580_1, g_580_2, g_580_3, g_581_0, g_583_0, g_585_0, g_588_1, g_588_2, g_588_3, g_588_4, g_588_6, g_601_0, g_601_1, g_601_2, g_601_3, g_601_4, g_601_5, g_601_6, g_601_7, g_601_8, g_608_0, g_610_0, g_612_0, g_612_2, g_612_4, g_612_5, g_612_7, g_612_8, g_612_9, g_612_10, g_612_11, g_612_12, g_612_13, g_612_14, g_612_15, g_612_16, g_612_19, g_612_20, g_612_22, g_612_24, g_612_25, g_612_26, g_612_27, g_612_28, g_612_30, g_612_31, g_612_32, g_612_33, g_612_34, g_612_36, g_612_37, g_612_38, g_612_39, g_612_40, g_612_41, g_612_42, g_612_43, g_612_44, g_612_46, g_612_47, g_612_48, g_612_49, g_612_50, g_612_53, g_612_56, g_612_57, g_612_58, g_612_59, g_612_61, g_612_62, g_612_63, g_612_64, ix0, e465]
      refine ⟨fun z => absurd z c, fun _ => ⟨fun d => ⟨by omega, ?_⟩, fun d => ⟨fun e => ⟨by omega, ?_⟩, fun e => ⟨by omega, ?_⟩⟩⟩⟩
      · exact fin 0 v (by rw [sw0 (Or.inl d)]; omega) (Or.inl ⟨rfl, rfl⟩)
      · exact fin 0 v (by rw [sw0 (Or.inr e)]; omega) (Or.inl ⟨rfl, rfl⟩)
      · exact ⟨fun z => absurd z (by decide), fun _ => ⟨by omega, by omega, fin 1 _ (by rw [sw1 (by omega)]) (Or.inr ⟨rfl, rfl⟩)⟩⟩
