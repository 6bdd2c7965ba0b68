/-! parting: the class's search -/
def entE (τ : kzM) (ts : Int) (ρ : kzM) (p : Int) (k : Nat) (t : Int) : Prop := (ptW τ ts).bE k p t (ρ.1 492 (ixP p k t)) (ρ.1 493 (ixP p k t)) ∨ (ρ.1 492 (ixP p k t) = 1000000000 ∧ ¬∃ S P, (ptW τ ts).At k p t S P)
def isLx (G : Int → Int → Prop) (w l : Int) : Prop := G w l ∧ ∀ w' l', G w' l' → ¬dnP w l w' l'
theorem isLx_u {G H : Int → Int → Prop} {w l w' l' : Int} (hGH : ∀ x y, G x y ↔ H x y) (h : isLx G w l) (k : isLx H w' l') : w = w' ∧ l = l' := by
  have a := h.2 w' l' ((hGH _ _).2 k.1)
  have b := k.2 w l ((hGH _ _).1 h.1)
  unfold dnP at a b
  omega
def fstE (τ : kzM) (ts : Int) (ρ : kzM) (p : Int) (k : Nat) (t : Int) : Prop := 1 ≤ k → ¬ρ.1 492 (ixP p k t) = 1000000000 → isLx (fun w l => (ptW τ ts).vE (k - 1) p t w l (ρ.1 492 (ixP p k t)) (ρ.1 493 (ixP p k t))) (ρ.1 494 (ixP p k t)) (ρ.1 495 (ixP p k t))
def doneE (τ : kzM) (ts : Int) (ρ : kzM) (p0 : Int) : Prop := ∀ (p : Int) (k : Nat) (t : Int), p0 ≤ p → p ≤ τ.1 1 1 → k ≤ 4 → 0 ≤ t → t ≤ 3 → (p = τ.1 1 1 → t < 3) → entE τ ts ρ p k t ∧ (p < τ.1 1 1 → fstE τ ts ρ p k t)
def rawE (ρ : kzM) (p0 : Int) : Prop := ∀ x : Int, 0 ≤ x → x < 20 * p0 → ρ.1 492 x = 1000000000 ∧ ρ.1 493 x = 1
theorem doneE_on {τ σ ρ : kzM} {ts p0 p : Int} (hp : 0 ≤ p) (hlt : p < p0) (h : doneE τ ts σ p0) (k : ∀ a x, (492 ≤ a ∧ a ≤ 495) → ¬(20 * p + 4 ≤ x ∧ x < 20 * p + 20) → ρ.1 a x = σ.1 a x) : doneE τ ts ρ p0 := fun p' k' t' a1 a2 a3 a4 a5 a6 => by
  obtain ⟨x, y⟩ := h p' k' t' a1 a2 a3 a4 a5 a6
  have nx : ¬(20 * p + 4 ≤ ixP p' k' t' ∧ ixP p' k' t' < 20 * p + 20) := by unfold ixP; omega
  unfold entE fstE at *
  rw [k 492 _ (by omega) nx, k 493 _ (by omega) nx, k 494 _ (by omega) nx, k 495 _ (by omega) nx]
  exact ⟨x, y⟩
set_option maxRecDepth 100000 in
theorem W5_tryPiece {τ : kzM} (hI : Inv τ) {ts p w l : Int} {k : Nat} (hk : 1 ≤ k ∧ k ≤ 4) (hcd : (ptW τ ts).cd p w l) (p0 : 0 ≤ p) {σ : kzM} (hL : tabL τ σ) (hE : entE τ ts σ (p + l) (k - 1) (τ.1 338 w)) (hr : rowE τ ts p w l k 0 σ) {Q : Unit → kzM → Prop} (hQ : ∀ ρ, (∀ a x, ¬((492 ≤ a ∧ a ≤ 495) ∧ 20 * p + 4 ≤ x ∧ x < 20 * p + 20) → ρ.1 a x = σ.1 a x) → rowE τ ts p w l ((k : Int) + 1) 0 ρ → Q () ρ) : Wz (Z5_tryPiece kdG0 491 p k w l ((ptW τ ts).pr p w l)) σ Q := by
  obtain ⟨a, b, c, d⟩ := ptW_cd.1 hcd
  have pw := ptW_w hI a.1 a.2
  have i1 := hI.1
  unfold I1 at i1
  have e38 : σ.1 338 w = τ.1 338 w := hL 338 w (by rw [md_5 (by decide)]; decide)
  have e42 : σ.1 342 w = τ.1 342 w := hL 342 w (by rw [md_5 (by decide)]; decide)
  have e37 : σ.1 337 1 = τ.1 337 1 := hL 337 1 (by decide)
  have e39 : σ.1 339 1 = τ.1 339 1 := hL 339 1 (by decide)
  have e41 : σ.1 341 1 = τ.1 341 1 := hL 341 1 (by decide)
  have i5 := hI.2.2.2.2.1
  unfold I5 at i5
  have ixn : ((p + l) * 5 + ((k : Int) - 1)) * 4 + τ.1 338 w = ixP (p + l) ((k - 1 : Nat) : Int) (τ.1 338 w) := by unfold ixP; omega
  have ixb : 0 ≤ ixP (p + l) ((k - 1 : Nat) : Int) (τ.1 338 w) ∧ ixP (p + l) ((k - 1 : Nat) : Int) (τ.1 338 w) < 340 := by unfold ixP; omega
  have pp := ptW_pr hI (ts := ts) (p := p) a.1 a.2 (l := l) (by omega) (by omega)
  have tgo : ∀ {Q' : Int → kzM → Prop}, Q' (τ.1 338 w) σ → Wz (Z10_tongueOf kdG0 336 w) σ Q' := fun {Q'} h => by
    refine (W10_tongueOf (show σ.1 337 1 ≤ 60 by omega)).2 ?_
    rw [if_pos (by omega), e38]
    exact h
  have cto : ∀ {Q' : Int → kzM → Prop}, Q' (τ.1 342 w) σ → Wz (Z10_countOf kdG0 336 w) σ Q' := fun {Q'} h => by
    refine (W10_countOf (show σ.1 341 1 ≤ 60 by omega)).2 ?_
    rw [if_pos (by omega), e42]
    exact h
  simp only [Z5_tryPiece, Z5_caseOf, Wz_rt, Wz_cnd, Wz_lI, Wz_lW, Wz_lL, Wz_cl, Wz_cv, Wz_nz, Wz_gI, Wz_gR, Wz_sI, Wz_aI, Wz_aZ, Wz_aL, Wz_aN, Wz_aR, Wz_tI, Wz_tZ, Wz_tL, Option.some.injEq, exists_eq_left', zB_0, zB_1, true_and, and_true, true_implies, not_true_eq_false, false_implies, not_false_eq_true, Classical.not_not, g_0, g_1, g_2, g_3, g_4, g_5, g_327, g_328, g_329, g_330, g_331, g_332, g_333, g_334, g_335, g_336, g_337, g_338, g_339, g_340, g_341, g_342, g_343, g_464, g_465, g_466, g_484, g_485, g_486, g_487, g_488, g_489, g_490, g_491, g_492, g_493, g_494, g_495, g_496, g_497, g_498, g_499, g_500, g_501, g_562, g_563, g_564, g_565, g_566, g_567, g_568, g_574, g_580, g_581, g_582, g_583, g_584, g_585, g_586, g_587, g_588, g_589, g_590, g_591, g_592, g_600, g_601, g_602, g_603, g_604, g_605, g_606, g_607, g_608, g_609, g_610, g_611, g_612, g_613, g_614, g_615, g_616, g_617, g_618, g_619, g_620, g_621, g_622, g_623, g_624, g_625, g_626, g_627, g_628, g_629, g_630, g_631, g_632, g_633, g_634, g_635, g_636, g_637, g_638, g_639, g_640, g_641, g_642, g_643, g_644, g_645, g_646, g_647, g_648, g_649, g_650, g_651, g_652, g_653, g_654, g_655, g_656, g_657, g_658, g_659, g_660, g_661, g_662, g_0_0, g_0_1, g_0_2, g_0_3, g_0_4, g_0_5, g_0_6, g_0_7, g_0_8, g_0_9, g_0_10, g_0_11, g_1_0, g_3_0, g_327_0, g_327_1, g_327_2, g_327_3, g_328_0, g_330_0, g_332_0, g_334_0, g_336_0, g_336_1, g_336_2, g_336_3, g_337_0, g_339_0, g_341_0, g_464_0, g_464_1, g_484_0, g_484_1, g_484_2, g_485_0, g_487_0, g_489_0, g_491_0, g_491_1, g_491_2, g_491_3, g_491_4, g_491_5, g_491_6, g_491_7, g_496_0, g_498_0, g_500_0, g_500_1, g_500_3, g_500_4, g_500_5, g_500_6, g_500_7, g_562_0, g_564_0, g_566_0, g_580_0, g_580_1, g_580_2, g_580_3, g_581_0, g_583_0, g_585_0, g_588_1, g_588_2, g_588_3, g_588_4, g_588_6, g_601_0, g_601_1, g_601_2, g_601_3, g_601_4, g_601_5, g_601_6, g_601_7, g_601_8, g_608_0, g_610_0, g_612_0, g_612_2, g_612_4, g_612_5, g_612_7, g_612_8, g_612_9, g_612_10, g_612_11, g_612_12, g_612_13, g_612_14, g_612_15, g_612_16, g_612_19, g_612_20, g_612_22, g_612_24, g_612_25, g_612_26, g_612_27, g_612_28, g_612_30, g_612_31, g_612_32, g_612_33, g_612_34, g_612_36, g_612_37, g_612_38, g_612_39, g_612_40, g_612_41, g_612_42, g_612_43, g_612_44, g_612_46, g_612_47, g_612_48, g_612_49, g_612_50, g_612_53, g_612_56, g_612_57, g_612_58, g_612_59, g_612_61, g_612_62, g_612_63, g_612_64]
  refine tgo ⟨by omega, by omega, by omega, ?_⟩
  rw [ixn]
  refine ⟨by omega, fun x9 => ?_, fun x9 => ⟨by omega, ?_⟩⟩
  · have none : ∀ t S' P', ¬(ptW τ ts).vE (k - 1) p t w l S' P' := fun t S' P' ⟨_, s, q, hb, _⟩ => by
      rcases hE with h | ⟨_, h⟩
      · have z := ptW_b hI (k - 1) _ _ _ _ (by omega) h.1
        omega
      · exact h ⟨s, q, hb.1⟩
    refine hQ σ (fun _ _ _ => rfl) (fun k' t' a1 a2 a3 a4 => ?_)
    have h := hr k' t' a1 a2 a3 a4
    by_cases y : k' = k
    · subst y
      rw [if_neg (by omega)] at h
      rw [if_pos (by omega)]
      exact sfE_keep h (fun S' P' v => absurd v (none t' S' P'))
    · by_cases z : (k' : Int) < k
      · rw [if_pos (Or.inl z)] at h
        rw [if_pos (by omega)]
        exact h
      · rw [if_neg (by omega)] at h
        rw [if_neg (by omega)]
        exact h
  · rcases hE with hb | ⟨z, _⟩
    · have zb := ptW_b hI (k - 1) _ _ _ _ (by omega) hb.1
      have p3 : (100 : Int) ^ (k - 1) ≤ 1000000 := by
        rcases (by omega : k - 1 = 0 ∨ k - 1 = 1 ∨ k - 1 = 2 ∨ k - 1 = 3) with z | z | z | z <;> rw [z] <;> decide
      have m := mul_b (a := τ.1 342 w) (b := σ.1 493 (ixP (p + l) ((k - 1 : Nat) : Int) (τ.1 338 w))) (u := 100) (v := 1000000) (by omega) (by omega)
      refine ⟨by omega, cto ⟨by omega, by omega, ?_⟩⟩
      unfold Z5_tryPiece_70
      refine W5_tp_70 hI hk p0 (by omega) a.1 a.2 (by omega) (fun t t0 t1 => ⟨hcd, _, _, hb, ?_, Int.mul_comm _ _⟩) hL hQ NN 0 σ (by omega) (by omega) (by unfold NN; omega) (fun _ _ _ => rfl) hr
      show _ = σ.1 492 (ixP (p + l) ((k - 1 : Nat) : Int) (τ.1 338 w)) + (ptW τ ts).pr p w l + (ptW τ ts).sw t (τ.1 338 w)
      omega
    · exact absurd z x9
