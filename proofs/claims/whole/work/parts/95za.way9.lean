/-! ways: the class walks; the method -/
set_option maxRecDepth 100000 in
theorem W9_fw_5 {τ σ : kzM} {n : Nat} (hn : 2 ≤ n ∧ n ≤ 5) (hl : lisC τ σ n (szN n)) {s T v r : Int} {d : Nat} (hd : disL (szN n) (cosN τ n) (adL n) s T (-1) (σ.1 607)) (v0 : 0 ≤ v) (v1 : v < szN n) (hv : σ.1 607 v = (d : Int) + 1) (hr : isF (szN n) (fun u => adL n v u ∧ dst (szN n) (cosN τ n) (adL n) s T d u) r) {Q : Int → kzM → Prop} (hQ : Q r σ) : ∀ (N : Nat) (k b : Int), 0 ≤ k → k ≤ mN n → mN n - k < N → ((b = v ∧ ∀ y : Int, 0 ≤ y → y < k → ¬σ.1 607 (σ.1 604 (10 * v + y)) = d) ∨ ((∃ y : Int, (0 ≤ y ∧ y < k) ∧ σ.1 604 (10 * v + y) = b) ∧ σ.1 607 b = d ∧ ∀ y : Int, 0 ≤ y → y < k → σ.1 607 (σ.1 604 (10 * v + y)) = d → b ≤ σ.1 604 (10 * v + y))) → Wz (lp (fun _ _ _ _ _ _ => none) (Z9_firstWith_5B kdG0) N 601 (d : Int) v b k) σ Q := by
  have sz := (way_n hn).2.2.2.1
  have me := kS_e0 ⟨n, by omega⟩ hn.1
  dsimp only at me
  obtain ⟨c1, c2, c3⟩ := hl.2.2.2 v v0 v1
  obtain ⟨a1, a2⟩ := nbI_adj hn c3
  have e10 := hl.2.2.1
  have mk : ∀ x : Int, 0 ≤ x → x < szN n → (σ.1 607 x = d ↔ dst (szN n) (cosN τ n) (adL n) s T d x) := fun x x0 x1 => by
    rcases hd x x0 x1 with ⟨e, a, b, c⟩ | ⟨a, b⟩
    · constructor
      · intro q
        rw [a] at q
        rw [show d = e by omega]
        exact c
      · intro q
        rw [a, dst_u c q]
    · constructor
      · intro q; omega
      · intro q; exact absurd ⟨d, q.1⟩ b
  obtain ⟨⟨r0, r1⟩, r2, r3⟩ := hr
  intro N
  induction N with
  | zero => intro k; intros; omega
  | succ N ih =>
    intro k b k0 k1 kN hb
    rw [lp_succ]
    have ih' := ih (k + 1)
    generalize lp (fun _ _ _ _ _ _ => none) (Z9_firstWith_5B kdG0) N = L at ih' ⊢
    unfold Z9_firstWith_5B
    simp only [Z9_firstWith_48, Z9_firstWith_45, Z9_neighbour, Wz_rt, Wz_cnd, Wz_lI, Wz_lW, Wz_lL, Wz_cl, Wz_cv, Wz_nz, Wz_gI, Wz_gR, Wz_sI, Wz_aI, Wz_aZ, Wz_aL, Wz_aN, Wz_aR, Wz_tI, Wz_tZ, Wz_tL, Option.some.injEq, exists_eq_left', zB_0, zB_1, true_and, and_true, true_implies, not_true_eq_false, false_implies, not_false_eq_true, Classical.not_not, g_0, g_1, g_2, g_3, g_4, g_5, g_327, g_328, g_329, g_330, g_331, g_332, g_333, g_334, g_335, g_336, g_337, g_338, g_339, g_340, g_341, g_342, g_343, g_464, g_465, g_466, g_484, g_485, g_486, g_487, g_488, g_489, g_490, g_491, g_492, g_493, g_494, g_495, g_496, g_497, g_498, g_499, g_500, g_501, g_562, g_563, g_564, g_565, g_566, g_567, g_568, g_574, g_580, g_581, g_582, g_583, g_584, g_585, g_586, g_587, g_588, g_589, g_590, g_591, g_592, g_600, g_601, g_602, g_603, g_604, g_605, g_606, g_607, g_608, g_609, g_610, g_611, g_612, g_613, g_614, g_615, g_616, g_617, g_618, g_619, g_620, g_621, g_622, g_623, g_624, g_625, g_626, g_627, g_628, g_629, g_630, g_631, g_632, g_633, g_634, g_635, g_636, g_637, g_638, g_639, g_640, g_641, g_642, g_643, g_644, g_645, g_646, g_647, g_648, g_649, g_650, g_651, g_652, g_653, g_654, g_655, g_656, g_657, g_658, g_659, g_660, g_661, g_662, g_0_0, g_0_1, g_0_2, g_0_3, g_0_4, g_0_5, g_0_6, g_0_7, g_0_8, g_0_9, g_0_10, g_0_11, g_1_0, g_3_0, g_327_0, g_327_1, g_327_2, g_327_3, g_328_0, g_330_0, g_332_0, g_334_0, g_336_0, g_336_1, g_336_2, g_336_3, g_337_0, g_339_0, g_341_0, g_464_0, g_464_1, g_484_0, g_484_1, g_484_2, g_485_0, g_487_0, g_489_0, g_491_0, g_491_1, g_491_2, g_491_3, g_491_4, g_491_5, g_491_6, g_491_7, g_496_0, g_498_0, g_500_0, g_500_1, g_500_3, g_500_4, g_500_5, g_500_6, g_500_7, g_562_0, g_564_0, g_566_0, g_580_0, g_580_1, g_580_2, g_580_3, g_581_0, g_583_0, g_585_0, g_588_1, g_588_2, g_588_3, g_588_4, g_588_6, g_601_0, g_601_1, g_601_2, g_601_3, g_601_4, g_601_5, g_601_6, g_601_7, g_601_8, g_608_0, g_610_0, g_612_0, g_612_2, g_612_4, g_612_5, g_612_7, g_612_8, g_612_9, g_612_10, g_612_11, g_612_12, g_612_13, g_612_14, g_612_15, g_612_16, g_612_19, g_612_20, g_612_22, g_612_24, g_612_25, g_612_26, g_612_27, g_612_28, g_612_30, g_612_31, g_612_32, g_612_33, g_612_34, g_612_36, g_612_37, g_612_38, g_612_39, g_612_40, g_612_41, g_612_42, g_612_43, g_612_44, g_612_46, g_612_47, g_612_48, g_612_49, g_612_50, g_612_53, g_612_56, g_612_57, g_612_58, g_612_59, g_612_61, g_612_62, g_612_63, g_612_64, e10]
    rw [show v * 10 + k = 10 * v + k by omega]
    refine ⟨fun c => ?_, fun c => ?_⟩
    · have ek : k = mN n := by omega
      subst ek
      obtain ⟨y, hy, ey⟩ := a2 r r0 r1 r2.1
      have yr := (mk r r0 r1).2 r2.2
      rcases hb with ⟨_, hb⟩ | ⟨⟨x, hx, ex⟩, hb2, hb3⟩
      · exact absurd (by rw [ey]; exact yr) (hb y hy.1 hy.2)
      · have le := hb3 y hy.1 hy.2 (by rw [ey]; exact yr)
        rw [ey] at le
        obtain ⟨⟨b0, b1⟩, ba⟩ := a1 x hx.1 hx.2
        rw [ex] at b0 b1 ba
        have : b = r := by
          by_cases z : b < r
          · exact absurd ⟨ba, (mk b b0 b1).1 hb2⟩ (r3 b b0 z)
          · omega
        rw [this]
        exact hQ
    · obtain ⟨⟨u0, u1⟩, ua⟩ := a1 k k0 (by omega)
      generalize hu : σ.1 604 (10 * v + k) = u at u0 u1 ua ⊢
      have keep : (σ.1 607 u = d → ¬b = v ∧ b ≤ u) → (-2147483648 ≤ k + 1 ∧ k + 1 ≤ 2147483647) ∧ Wz (L 601 (d : Int) v b (k + 1)) σ Q := fun hk => by
        refine ⟨by omega, ih' b (by omega) (by omega) (by omega) ?_⟩
        rcases hb with ⟨h1, h2⟩ | ⟨⟨x, hx, ex⟩, h2, h3⟩
        · refine Or.inl ⟨h1, fun y y0 y1 q => ?_⟩
          by_cases z : y = k
          · rw [z, hu] at q
            exact (hk q).1 h1
          · exact h2 y y0 (by omega) q
        · refine Or.inr ⟨⟨x, by omega, ex⟩, h2, fun y y0 y1 q => ?_⟩
          by_cases z : y = k
          · rw [z, hu] at q ⊢
            exact (hk q).2
          · exact h3 y y0 (by omega) q
      have take : σ.1 607 u = d → (b = v ∨ u ≤ b) → (-2147483648 ≤ k + 1 ∧ k + 1 ≤ 2147483647) ∧ Wz (L 601 (d : Int) v u (k + 1)) σ Q := fun hk hle => by
        refine ⟨by omega, ih' u (by omega) (by omega) (by omega) (Or.inr ⟨⟨k, by omega, hu⟩, hk, fun y y0 y1 q => ?_⟩)⟩
        by_cases z : y = k
        · rw [z, hu]; exact Int.le_refl _
        · rcases hb with ⟨h1, h2⟩ | ⟨⟨x, hx, ex⟩, h2, h3⟩
          · exact absurd q (h2 y y0 (by omega))
          · have p := h3 y y0 (by omega) q
            rcases hle with hle | hle
            · rw [hle, hv] at h2
              omega
            · omega
      refine ⟨by omega, by omega, fun e => ⟨fun g => take e (Or.inl g), fun g => ⟨fun w => keep (fun _ => ⟨g, w⟩), fun w => take e (Or.inr (by omega))⟩⟩, fun e => keep (fun z => absurd z e)⟩
def onW (τ σ : kzM) : Prop := ∀ a x, a ≠ 610 → a ≠ 611 → σ.1 a x = τ.1 a x
theorem onW.tr {τ σ ρ : kzM} (h : onW τ σ) (k : onW σ ρ) : onW τ ρ := fun a x y z => (k a x y z).trans (h a x y z)
theorem lisC.onW {τ σ ρ : kzM} {n m : Nat} (h : lisC τ σ n m) (k : onW σ ρ) : lisC τ ρ n m := h.on (fun a x z => k a x (fun q => z (by rw [q]; rfl)) (fun q => z (by rw [q]; rfl))) (fun a x z => k a x (by omega) (by omega))
def pthR (n : Nat) (σ : kzM) (w : Nat → Int) (k : Nat) : Prop := σ.1 610 1 = k + 1 ∧ ∀ j : Nat, j ≤ k → σ.1 611 j = codN n (w j)
set_option maxRecDepth 100000 in
theorem W9_wk_32 {τ : kzM} {n : Nat} (hn : 2 ≤ n ∧ n ≤ 5) {s T f : Int} {S : Nat} {w : Nat → Int} (hp : pthP τ n s T f S w) (f0 : 0 ≤ f) (f1 : f < szN n) (hdf : dst (szN n) (cosN τ n) (adL n) s T S f) {σ0 : kzM} (hl0 : lisC τ σ0 n (szN n)) (hd0 : disL (szN n) (cosN τ n) (adL n) s T (-1) (σ0.1 607)) {Q : Unit → kzM → Prop} (hQ : ∀ ρ, onW σ0 ρ → pthR n ρ w S → Q () ρ) : ∀ (N k : Nat) (σ : kzM), k ≤ S → S - k < N → onW σ0 σ → pthR n σ w k → Wz (lp (fun _ _ _ _ => none) (Z9_walk_32B kdG0) N 601 (w k) ((S : Int) - k - 1)) σ Q := by
  have sz := (way_n hn).2.2.2.1
  have SM := dst_M f0 f1 hdf
  have pin := pthP_in hp f0 f1 hdf
  intro N
  induction N with
  | zero => intro k; intros; omega
  | succ N ih =>
    intro k σ k1 kN ho hr
    rw [lp_succ]
    have ih' := ih (k + 1)
    generalize lp (fun _ _ _ _ => none) (Z9_walk_32B kdG0) N = L at ih' ⊢
    have hl := hl0.onW ho
    have e7 : σ.1 607 = σ0.1 607 := funext fun x => ho 607 x (by decide) (by decide)
    obtain ⟨⟨a0, a1⟩, a2⟩ := pin k k1
    unfold Z9_walk_32B
    simp only [Wz_rt, Wz_cnd, Wz_lI, Wz_lW, Wz_lL, Wz_cl, Wz_cv, Wz_nz, Wz_gI, Wz_gR, Wz_sI, Wz_aI, Wz_aZ, Wz_aL, Wz_aN, Wz_aR, Wz_tI, Wz_tZ, Wz_tL, Option.some.injEq, exists_eq_left', zB_0, zB_1, true_and, and_true, true_implies, not_true_eq_false, false_implies, not_false_eq_true, Classical.not_not, g_0, g_1, g_2, g_3, g_4, g_5, g_327, g_328, g_329, g_330, g_331, g_332, g_333, g_334, g_335, g_336, g_337, g_338, g_339, g_340, g_341, g_342, g_343, g_464, g_465, g_466, g_484, g_485, g_486, g_487, g_488, g_489, g_490, g_491, g_492, g_493, g_494, g_495, g_496, g_497, g_498, g_499, g_500, g_501, g_562, g_563, g_564, g_565, g_566, g_567, g_568, g_574, g_580, g_581, g_582, g_583, g_584, g_585, g_586, g_587, g_588, g_589, g_590, g_591, g_592, g_600, g_601, g_602, g_603, g_604, g_605, g_606, g_607, g_608, g_609, g_610, g_611, g_612, g_613, g_614, g_615, g_616, g_617, g_618, g_619, g_620, g_621, g_622, g_623, g_624, g_625, g_626, g_627, g_628, g_629, g_630, g_631, g_632, g_633, g_634, g_635, g_636, g_637, g_638, g_639, g_640, g_641, g_642, g_643, g_644, g_645, g_646, g_647, g_648, g_649, g_650, g_651, g_652, g_653, g_654, g_655, g_656, g_657, g_658, g_659, g_660, g_661, g_662, g_0_0, g_0_1, g_0_2, g_0_3, g_0_4, g_0_5, g_0_6, g_0_7, g_0_8, g_0_9, g_0_10, g_0_11, g_1_0, g_3_0, g_327_0, g_327_1, g_327_2, g_327_3, g_328_0, g_330_0, g_332_0, g_334_0, g_336_0, g_336_1, g_336_2, g_336_3, g_337_0, g_339_0, g_341_0, g_464_0, g_464_1, g_484_0, g_484_1, g_484_2, g_485_0, g_487_0, g_489_0, g_491_0, g_491_1, g_491_2, g_491_3, g_491_4, g_491_5, g_491_6, g_491_7, g_496_0, g_498_0, g_500_0, g_500_1, g_500_3, g_500_4, g_500_5, g_500_6, g_500_7, g_562_0, g_564_0, g_566_0, g_580_0, g_580_1, g_580_2, g_580_3, g_581_0, g_583_0, g_585_0, g_588_1, g_588_2, g_588_3, g_588_4, g_588_6, g_601_0, g_601_1, g_601_2, g_601_3, g_601_4, g_601_5, g_601_6, g_601_7, g_601_8, g_608_0, g_610_0, g_612_0, g_612_2, g_612_4, g_612_5, g_612_7, g_612_8, g_612_9, g_612_10, g_612_11, g_612_12, g_612_13, g_612_14, g_612_15, g_612_16, g_612_19, g_612_20, g_612_22, g_612_24, g_612_25, g_612_26, g_612_27, g_612_28, g_612_30, g_612_31, g_612_32, g_612_33, g_612_34, g_612_36, g_612_37, g_612_38, g_612_39, g_612_40, g_612_41, g_612_42, g_612_43, g_612_44, g_612_46, g_612_47, g_612_48, g_612_49, g_612_50, g_612_53, g_612_56, g_612_57, g_612_58, g_612_59, g_612_61, g_612_62, g_612_63, g_612_64]
    refine ⟨fun c => ?_, fun c => ?_⟩
    · rw [show k = S by omega] at hr
      exact hQ σ ho hr
    · have hv : σ.1 607 (w k) = ((S - (k + 1) : Nat) : Int) + 1 := by
        rw [e7]
        rcases hd0 _ a0 a1 with ⟨e, a, b, c⟩ | ⟨a, b⟩
        · have := dst_u c a2
          omega
        · exact absurd ⟨_, a2.1⟩ b
      have q := hp.2 k (by omega)
      unfold Z9_firstWith Z9_firstWith_5
      rw [show (S : Int) - k - 1 = ((S - (k + 1) : Nat) : Int) by omega]
      refine W9_fw_5 hn hl (by rw [e7]; exact hd0) a0 a1 hv q ?_ NN 0 (w k) (by omega) (by have := (kS_e0 ⟨n, by omega⟩ hn.1).2; dsimp only at this; omega) (by have := (kS_e0 ⟨n, by omega⟩ hn.1).2; dsimp only at this; unfold NN; omega) (Or.inl ⟨rfl, fun y a b => by omega⟩)
      have e2 : σ.1 602 (w (k + 1)) = codN n (w (k + 1)) := (hl.2.2.2 _ q.1.1 q.1.2).1
      rw [e2]
      obtain ⟨h1, h2⟩ := hr
      refine ⟨by have := q.1; omega, W_add r_610 (by omega) (by omega) (by decide) ⟨by omega, ?_⟩⟩
      rw [show ((S - (k + 1) : Nat) : Int) + -1 = (S : Int) - ((k + 1 : Nat) : Int) - 1 by omega]
      refine ih' _ (by omega) (by omega) (fun a x y1 y2 => ?_) ⟨?_, fun j hj => ?_⟩
      · simp only [addF]
        rw [v2_ne _ _ _ _ y1, v2_ne _ _ _ _ y2]
        exact ho a x y1 y2
      · simp only [addF]
        rw [v2_self, h1]
        omega
      · simp only [addF]
        rw [v2_ne _ _ _ _ (by decide), h1]
        by_cases y : j = k + 1
        · rw [y, show (k : Int) + 1 = ((k + 1 : Nat) : Int) by omega]
          exact v2_self _ _ _ _
        · rw [v2_nk _ _ _ _ (by omega)]
          exact h2 j (by omega)
set_option maxRecDepth 100000 in
theorem W9_walk {τ σ : kzM} {n : Nat} (hn : 2 ≤ n ∧ n ≤ 5) {s T f : Int} {S : Nat} {w : Nat → Int} (hp : pthP τ n s T f S w) (f0 : 0 ≤ f) (f1 : f < szN n) (hdf : dst (szN n) (cosN τ n) (adL n) s T S f) (hl : lisC τ σ n (szN n)) (hd : disL (szN n) (cosN τ n) (adL n) s T (-1) (σ.1 607)) {Q : Unit → kzM → Prop} (hQ : ∀ ρ, onW σ ρ → pthR n ρ w S → Q () ρ) : Wz (Z9_walk kdG0 601 f) σ Q := by
  have sz := (way_n hn).2.2.2.1
  have SM := dst_M f0 f1 hdf
  have e2 : σ.1 602 f = codN n f := (hl.2.2.2 f f0 f1).1
  have e7 : σ.1 607 f = S := by
    rcases hd f f0 f1 with ⟨e, a, b, c⟩ | ⟨a, b⟩
    · rw [a, dst_u c hdf]
    · exact absurd ⟨_, hdf.1⟩ b
  have f10 : (v2 σ.1 610 1 0) 610 1 = 0 := v2_self _ _ _ _
  have g7 : (addF (v2 σ.1 610 1 0) 610 (codN n f)) 607 f = S := by
    simp only [addF]
    rw [v2_ne _ _ _ _ (by decide), v2_ne _ _ _ _ (by decide), v2_ne _ _ _ _ (by decide), e7]
  have g2 : (v2 σ.1 610 1 0) 602 f = codN n f := by rw [v2_ne _ _ _ _ (by decide), e2]
  unfold Z9_walk Z9_walk_32
  simp only [W_size r_1, W_isEmpty r_1, W_isFull r_1, W_has r_1, W_clear r_1, W_size r_3, W_isEmpty r_3, W_isFull r_3, W_has r_3, W_clear r_3, W_size r_328, W_isEmpty r_328, W_isFull r_328, W_has r_328, W_clear r_328, W_size r_330, W_isEmpty r_330, W_isFull r_330, W_has r_330, W_clear r_330, W_size r_332, W_isEmpty r_332, W_isFull r_332, W_has r_332, W_clear r_332, W_size r_334, W_isEmpty r_334, W_isFull r_334, W_has r_334, W_clear r_334, W_size r_337, W_isEmpty r_337, W_isFull r_337, W_has r_337, W_clear r_337, W_size r_339, W_isEmpty r_339, W_isFull r_339, W_has r_339, W_clear r_339, W_size r_341, W_isEmpty r_341, W_isFull r_341, W_has r_341, W_clear r_341, W_size r_485, W_isEmpty r_485, W_isFull r_485, W_has r_485, W_clear r_485, W_size r_487, W_isEmpty r_487, W_isFull r_487, W_has r_487, W_clear r_487, W_size r_489, W_isEmpty r_489, W_isFull r_489, W_has r_489, W_clear r_489, W_size r_496, W_isEmpty r_496, W_isFull r_496, W_has r_496, W_clear r_496, W_size r_498, W_isEmpty r_498, W_isFull r_498, W_has r_498, W_clear r_498, W_size r_562, W_isEmpty r_562, W_isFull r_562, W_has r_562, W_clear r_562, W_size r_564, W_isEmpty r_564, W_isFull r_564, W_has r_564, W_clear r_564, W_size r_566, W_isEmpty r_566, W_isFull r_566, W_has r_566, W_clear r_566, W_size r_581, W_isEmpty r_581, W_isFull r_581, W_has r_581, W_clear r_581, W_size r_583, W_isEmpty r_583, W_isFull r_583, W_has r_583, W_clear r_583, W_size r_585, W_isEmpty r_585, W_isFull r_585, W_has r_585, W_clear r_585, W_size r_608, W_isEmpty r_608, W_isFull r_608, W_has r_608, W_clear r_608, W_size r_610, W_isEmpty r_610, W_isFull r_610, W_has r_610, W_clear r_610, Wz_rt, Wz_cnd, Wz_lI, Wz_lW, Wz_lL, Wz_cl, Wz_cv, Wz_nz, Wz_gI, Wz_gR, Wz_sI, Wz_aI, Wz_aZ, Wz_aL, Wz_aN, Wz_aR, Wz_tI, Wz_tZ, Wz_tL, Option.some.injEq, exists_eq_left', zB_0, zB_1, true_and, and_true, true_implies, not_true_eq_false, false_implies, not_false_eq_true, Classical.not_not, g_0, g_1, g_2, g_3, g_4, g_5, g_327, g_328, g_329, g_330, g_331, g_332, g_333, g_334, g_335, g_336, g_337, g_338, g_339, g_340, g_341, g_342, g_343, g_464, g_465, g_466, g_484, g_485, g_486, g_487, g_488, g_489, g_490, g_491, g_492, g_493, g_494, g_495, g_496, g_497, g_498, g_499, g_500, g_501, g_562, g_563, g_564, g_565, g_566, g_567, g_568, g_574, g_580, g_581, g_582, g_583, g_584, g_585, g_586, g_587, g_588, g_589, g_590, g_591, g_592, g_600, g_601, g_602, g_603, g_604, g_605, g_606, g_607, g_608, g_609, g_610, g_611, g_612, g_613, g_614, g_615, g_616, g_617, g_618, g_619, g_620, g_621, g_622, g_623, g_624, g_625, g_626, g_627, g_628, g_629, g_630, g_631, g_632, g_633, g_634, g_635, g_636, g_637, g_638, g_639, g_640, g_641, g_642, g_643, g_644, g_645, g_646, g_647, g_648, g_649, g_650, g_651, g_652, g_653, g_654, g_655, g_656, g_657, g_658, g_659, g_660, g_661, g_662, g_0_0, g_0_1, g_0_2, g_0_3, g_0_4, g_0_5, g_0_6, g_0_7, g_0_8, g_0_9, g_0_10, g_0_11, g_1_0, g_3_0, g_327_0, g_327_1, g_327_2, g_327_3, g_328_0, g_330_0, g_332_0, g_334_0, g_336_0, g_336_1, g_336_2, g_336_3, g_337_0, g_339_0, g_341_0, g_464_0, g_464_1, g_484_0, g_484_1, g_484_2, g_485_0, g_487_0, g_489_0, g_491_0, g_491_1, g_491_2, g_491_3, g_491_4, g_491_5, g_491_6, g_491_7, g_496_0, g_498_0, g_500_0, g_500_1, g_500_3, g_500_4, g_500_5, g_500_6, g_500_7, g_562_0, g_564_0, g_566_0, g_580_0, g_580_1, g_580_2, g_580_3, g_581_0, g_583_0, g_585_0, g_588_1, g_588_2, g_588_3, g_588_4, g_588_6, g_601_0, g_601_1, g_601_2, g_601_3, g_601_4, g_601_5, g_601_6, g_601_7, g_601_8, g_608_0, g_610_0, g_612_0, g_612_2, g_612_4, g_612_5, g_612_7, g_612_8, g_612_9, g_612_10, g_612_11, g_612_12, g_612_13, g_612_14, g_612_15, g_612_16, g_612_19, g_612_20, g_612_22, g_612_24, g_612_25, g_612_26, g_612_27, g_612_28, g_612_30, g_612_31, g_612_32, g_612_33, g_612_34, g_612_36, g_612_37, g_612_38, g_612_39, g_612_40, g_612_41, g_612_42, g_612_43, g_612_44, g_612_46, g_612_47, g_612_48, g_612_49, g_612_50, g_612_53, g_612_56, g_612_57, g_612_58, g_612_59, g_612_61, g_612_62, g_612_63, g_612_64, g2]
  refine ⟨by omega, W_add r_610 (by dsimp only; rw [f10]; omega) (by dsimp only; rw [f10]; decide) (by decide) ?_⟩
  dsimp only
  rw [g7]
  refine ⟨by omega, by omega, ?_⟩
  have o : onW σ (addF (v2 σ.1 610 1 0) 610 (codN n f), σ.2) := fun a x y1 y2 => by
    simp only [addF]
    rw [v2_ne _ _ _ _ y1, v2_ne _ _ _ _ y2, v2_ne _ _ _ _ y1]
  have q := W9_wk_32 hn hp f0 f1 hdf hl hd hQ NN 0 (addF (v2 σ.1 610 1 0) 610 (codN n f), σ.2) (by omega) (by unfold NN; omega) o ⟨by
    simp only [addF]
    rw [v2_self, f10]; rfl, fun j hj => by
    rw [show j = 0 by omega, hp.1]
    simp only [addF]
    rw [v2_ne _ _ _ _ (by decide), f10]
    exact v2_self _ _ _ _⟩
  rw [hp.1, show (S : Int) - ((0 : Nat) : Int) - 1 = (S : Int) - 1 by omega] at q
  exact q
theorem lst_ex {τ : kzM} (hI : Inv τ) {n : Nat} (hn : 2 ≤ n ∧ n ≤ 5) (h5 : τ.1 588 0 = n) {s v : Int} (s0 : 0 ≤ s) (s1 : s < szN n) (v0 : 0 ≤ v) (v1 : v < szN n) : ∃ T, lst (szN n) (cosN τ n) (adL n) s v T ∧ T < 1000000000 := by
  have all := cnn_all hn (c := cosN τ n) (t := 1000000) (fun w w0 w1 => by have := cosN_b hI h5 w0 w1; omega) s0 s1 v0 v1
  have go : ∀ k : Nat, cnn (szN n) (cosN τ n) (adL n) s (k : Int) v → ∃ T, lst (szN n) (cosN τ n) (adL n) s v T ∧ T ≤ k := by
    intro k
    induction k with
    | zero =>
      intro h
      refine ⟨0, ⟨h, fun t ht => ?_⟩, by omega⟩
      obtain ⟨m, hm⟩ := ht
      have a := (rcK_c m v hm).1
      have b := cosN_b hI h5 v0 v1
      omega
    | succ k ih =>
      intro h
      by_cases c : cnn (szN n) (cosN τ n) (adL n) s (k : Int) v
      · obtain ⟨T, a, b⟩ := ih c
        exact ⟨T, a, by omega⟩
      · refine ⟨((k + 1 : Nat) : Int), ⟨h, fun t ht => ?_⟩, by omega⟩
        by_cases y : ((k + 1 : Nat) : Int) ≤ t
        · exact y
        · obtain ⟨m, hm⟩ := ht
          exact absurd ⟨m, rcK_t (by omega) m v hm⟩ c
  obtain ⟨T, a, b⟩ := go 1000000 all
  exact ⟨T, a, by omega⟩
