/-! chosen and product: the greatest product, and the class's side -/
def mxF (f : Int → Int) : Nat → Int
  | 0 => 0
  | n + 1 => if mxF f n < f (n : Int) then f (n : Int) else mxF f n
def amF (f : Int → Int) : Nat → Int
  | 0 => 0
  | n + 1 => if mxF f n < f (n : Int) then (n : Int) else amF f n
theorem mxF_b {f : Int → Int} {u : Int} (u0 : 0 ≤ u) : ∀ n : Nat, (∀ k, 0 ≤ k → k < (n : Int) → f k ≤ u) → 0 ≤ mxF f n ∧ mxF f n ≤ u
  | 0, _ => ⟨Int.le_refl _, u0⟩
  | n + 1, h => by
    have ih := mxF_b u0 n (fun k k0 k1 => h k k0 (by omega))
    have e := h n (by omega) (by omega)
    unfold mxF
    split <;> omega
theorem mxF_ge {f : Int → Int} : ∀ (n : Nat) (k : Int), 0 ≤ k → k < (n : Int) → f k ≤ mxF f n
  | 0, k, k0, k1 => by omega
  | n + 1, k, k0, k1 => by
    unfold mxF
    by_cases c : k = n
    · rw [c]; split <;> omega
    · have := mxF_ge (f := f) n k k0 (by omega)
      split <;> omega
theorem mxF_cg {f g : Int → Int} : ∀ n : Nat, (∀ k, 0 ≤ k → k < (n : Int) → f k = g k) → mxF f n = mxF g n ∧ amF f n = amF g n
  | 0, _ => ⟨rfl, rfl⟩
  | n + 1, h => by
    have ih := mxF_cg n (fun k k0 k1 => h k k0 (by omega))
    have e := h n (by omega) (by omega)
    unfold mxF amF
    rw [ih.1, ih.2, e]
    exact ⟨rfl, rfl⟩
/-- the first greatest -/
theorem amF_b {f : Int → Int} : ∀ n : Nat, 0 < mxF f n → (0 ≤ amF f n ∧ amF f n < (n : Int)) ∧ f (amF f n) = mxF f n ∧ ∀ k, 0 ≤ k → k < amF f n → f k < mxF f n
  | 0, h => by unfold mxF at h; omega
  | n + 1, h => by
    unfold mxF amF at *
    by_cases c : mxF f n < f (n : Int)
    · rw [if_pos c, if_pos c] at *
      exact ⟨⟨by omega, by omega⟩, rfl, fun k k0 k1 => by have := mxF_ge (f := f) n k k0 k1; omega⟩
    · rw [if_neg c] at h
      rw [if_neg c, if_neg c]
      have ih := amF_b n h
      exact ⟨⟨ih.1.1, by omega⟩, ih.2⟩
theorem amF_r {f : Int → Int} : ∀ n : Nat, 0 ≤ amF f n ∧ (amF f n < (n : Int) ∨ amF f n = 0)
  | 0 => ⟨Int.le_refl _, Or.inr rfl⟩
  | n + 1 => by
    have ih := amF_r (f := f) n
    unfold amF
    split <;> omega
def likeW (τ : kzM) (v w : Int) : Prop := τ.1 338 v = τ.1 338 w ∧ τ.1 (344 + 2 * v.toNat) 1 = τ.1 (344 + 2 * w.toNat) 1 ∧ eqF (τ.1 (344 + 2 * v.toNat + 1)) (τ.1 (344 + 2 * w.toNat + 1)) 0 (τ.1 (344 + 2 * v.toNat) 1)
def canW (τ : kzM) (p w : Int) : Prop := w = τ.1 563 p ∨ (τ.1 565 p = 0 ∧ likeW τ (τ.1 563 p) w)
def togW (τ : kzM) (a b : Int) : Int := τ.1 (502 + a.toNat) b
/-- the greatest product from k places before the last on, with w first; what follows it -/
noncomputable def gS (τ : kzM) : Nat → Int → Int
  | 0, w => zp (canW τ (τ.1 562 1 - 1) w) * τ.1 342 w
  | k + 1, w => zp (canW τ (τ.1 562 1 - 1 - ((k + 1 : Nat) : Int)) w) * (τ.1 342 w * mxF (fun n => (togW τ w n + 1) * gS τ k n) (τ.1 337 1).toNat)
noncomputable def nS (τ : kzM) : Nat → Int → Int
  | 0, _ => 0
  | k + 1, w => amF (fun n => (togW τ w n + 1) * gS τ k n) (τ.1 337 1).toNat
theorem togW_b {τ : kzM} {nw : Int} (h : I7b τ nw) {a b : Int} (a0 : 0 ≤ a) (a1 : a < 60) (b0 : 0 ≤ b) (b1 : b < 60) : 0 ≤ togW τ a b ∧ togW τ a b ≤ 100 := by
  unfold I7b at h
  unfold togW
  rcases h.2.2.2.2 a b a0 a1 b0 b1 with e | ⟨k, ⟨k0, k1⟩, e1, e2⟩
  · omega
  · have q := h.2.2.1 k k0 k1
    rw [e1, e2] at q
    omega
def gB : Nat → Int
  | 0 => 100
  | k + 1 => 100 * (101 * gB k)
theorem zp_mul {p : Prop} {v u : Int} (h : 0 ≤ v ∧ v ≤ u) : 0 ≤ zp p * v ∧ zp p * v ≤ u := by
  by_cases c : p
  · rw [zp_pos c, Int.one_mul]; exact h
  · rw [zp_neg c, Int.zero_mul]; omega
theorem mul_b {a b u v : Int} (ha : 0 ≤ a ∧ a ≤ u) (hb : 0 ≤ b ∧ b ≤ v) : 0 ≤ a * b ∧ a * b ≤ u * v :=
  ⟨Int.mul_nonneg ha.1 hb.1, Int.mul_le_mul ha.2 hb.2 hb.1 (by omega)⟩
theorem gB_0 : ∀ k, 0 ≤ gB k
  | 0 => by decide
  | k + 1 => by
    have := gB_0 k
    unfold gB
    omega
theorem gS_b {τ : kzM} (hI : Inv τ) : ∀ (k : Nat) (w : Int), 0 ≤ w → w < τ.1 337 1 → 0 ≤ gS τ k w ∧ gS τ k w ≤ gB k
  | 0, w, w0, w1 => by
    have i5 := hI.2.2.2.2.1
    unfold I5 at i5
    have c := (i5.2.2.2.2 w w0 w1).2.2.1.1
    unfold gS gB
    exact zp_mul (by omega)
  | k + 1, w, w0, w1 => by
    have i5 := hI.2.2.2.2.1
    unfold I5 at i5
    have c := (i5.2.2.2.2 w w0 w1).2.2.1.1
    have m := mxF_b (f := fun n => (togW τ w n + 1) * gS τ k n) (u := 101 * gB k) (by have := gB_0 k; omega) (τ.1 337 1).toNat (fun n n0 n1 => by
      have t := togW_b hI.2.2.2.2.2.2.1.2 w0 (show w < 60 by omega) n0 (show n < 60 by omega)
      exact (mul_b (u := 101) ⟨by omega, by omega⟩ (gS_b hI k n n0 (by omega))).2)
    unfold gS gB
    exact zp_mul (mul_b ⟨by omega, c.2⟩ m)
def tabX (τ σ : kzM) : Prop := ∀ a x, ¬(566 ≤ a ∧ a ≤ 579) → σ.1 a x = τ.1 a x
set_option maxRecDepth 100000 in
theorem Inv.tabX {τ σ : kzM} (h : tabX τ σ) (hI : Inv τ) : Inv σ := Inv.to20 (fun a j _ z => h a j (fun q => z (md_20 (by omega)))) hI
set_option maxRecDepth 100000 in
theorem W10_like {τ : kzM} (hI : Inv τ) {v w : Int} (v0 : 0 ≤ v) (v1 : v < τ.1 337 1) (w0 : 0 ≤ w) (w1 : w < τ.1 337 1) {Q : Int → kzM → Prop} (hQ : Q (zp (likeW τ v w)) τ) : Wz (Z10_soundAlike kdG0 336 v w) τ Q := by
  have i5 := hI.2.2.2.2.1
  unfold I5 at i5
  have wl := i5.1
  obtain ⟨g1, g2⟩ := g_wd (i := v) v0 (by omega)
  obtain ⟨h1, h2⟩ := g_wd (i := w) w0 (by omega)
  have k1 := (hI.wd v0 v1).1.1
  have k2 := (hI.wd w0 w1).1.1
  simp only [Z10_soundAlike, Z10_soundAlike_36, Z10_soundAlike_35, W10_tongueOf (show τ.1 337 1 ≤ 60 by omega), Z11_isKey, Z11_isLetter, Z11_isTongue, Z11_isHand, Z11_isDay, Z12_isKey, Z12_isLetter, Z12_isTongue, Z12_isHand, Z12_areTongues, Z12_isWord, Z12_isSymbol, W_within, W_in, zp_0, zB_zp, W_size r_1, W_isEmpty r_1, W_isFull r_1, W_has r_1, W_clear r_1, W_size r_3, W_isEmpty r_3, W_isFull r_3, W_has r_3, W_clear r_3, W_size r_328, W_isEmpty r_328, W_isFull r_328, W_has r_328, W_clear r_328, W_size r_330, W_isEmpty r_330, W_isFull r_330, W_has r_330, W_clear r_330, W_size r_332, W_isEmpty r_332, W_isFull r_332, W_has r_332, W_clear r_332, W_size r_334, W_isEmpty r_334, W_isFull r_334, W_has r_334, W_clear r_334, W_size r_337, W_isEmpty r_337, W_isFull r_337, W_has r_337, W_clear r_337, W_size r_339, W_isEmpty r_339, W_isFull r_339, W_has r_339, W_clear r_339, W_size r_341, W_isEmpty r_341, W_isFull r_341, W_has r_341, W_clear r_341, W_size r_485, W_isEmpty r_485, W_isFull r_485, W_has r_485, W_clear r_485, W_size r_487, W_isEmpty r_487, W_isFull r_487, W_has r_487, W_clear r_487, W_size r_489, W_isEmpty r_489, W_isFull r_489, W_has r_489, W_clear r_489, W_size r_496, W_isEmpty r_496, W_isFull r_496, W_has r_496, W_clear r_496, W_size r_498, W_isEmpty r_498, W_isFull r_498, W_has r_498, W_clear r_498, W_size r_562, W_isEmpty r_562, W_isFull r_562, W_has r_562, W_clear r_562, W_size r_564, W_isEmpty r_564, W_isFull r_564, W_has r_564, W_clear r_564, W_size r_566, W_isEmpty r_566, W_isFull r_566, W_has r_566, W_clear r_566, W_size r_581, W_isEmpty r_581, W_isFull r_581, W_has r_581, W_clear r_581, W_size r_583, W_isEmpty r_583, W_isFull r_583, W_has r_583, W_clear r_583, W_size r_585, W_isEmpty r_585, W_isFull r_585, W_has r_585, W_clear r_585, W_size r_608, W_isEmpty r_608, W_isFull r_608, W_has r_608, W_clear r_608, W_size r_610, W_isEmpty r_610, W_isFull r_610, W_has r_610, W_clear r_610, Wz_rt, Wz_cnd, Wz_lI, Wz_lW, Wz_lL, Wz_cl, Wz_cv, Wz_nz, Wz_gI, Wz_gR, Wz_sI, Wz_aI, Wz_aZ, Wz_aL, Wz_aN, Wz_aR, Wz_tI, Wz_tZ, Wz_tL, Option.some.injEq, exists_eq_left', zB_0, zB_1, true_and, and_true, true_implies, not_true_eq_false, false_implies, not_false_eq_true, Classical.not_not, g_0, g_1, g_2, g_3, g_4, g_5, g_327, g_328, g_329, g_330, g_331, g_332, g_333, g_334, g_335, g_336, g_337, g_338, g_339, g_340, g_341, g_342, g_343, g_464, g_465, g_466, g_484, g_485, g_486, g_487, g_488, g_489, g_490, g_491, g_492, g_493, g_494, g_495, g_496, g_497, g_498, g_499, g_500, g_501, g_562, g_563, g_564, g_565, g_566, g_567, g_568, g_574, g_580, g_581, g_582, g_583, g_584, g_585, g_586, g_587, g_588, g_589, g_590, g_591, g_592, g_600, g_601, g_602, g_603, g_604, g_605, g_606, g_607, g_608, g_609, g_610, g_611, g_612, g_613, g_614, g_615, g_616, g_617, g_618, g_619, g_620, g_621, g_622, g_623, g_624, g_625, g_626, g_627, g_628, g_629, g_630, g_631, g_632, g_633, g_634, g_635, g_636, g_637, g_638, g_639, g_640, g_641, g_642, g_643, g_644, g_645, g_646, g_647, g_648, g_649, g_650, g_651, g_652, g_653, g_654, g_655, g_656, g_657, g_658, g_659, g_660, g_661, g_662, g_0_0, g_0_1, g_0_2, g_0_3, g_0_4, g_0_5, g_0_6, g_0_7, g_0_8, g_0_9, g_0_10, g_0_11, g_1_0, g_3_0, g_327_0, g_327_1, g_327_2, g_327_3, g_328_0, g_330_0, g_332_0, g_334_0, g_336_0, g_336_1, g_336_2, g_336_3, g_337_0, g_339_0, g_341_0, g_464_0, g_464_1, g_484_0, g_484_1, g_484_2, g_485_0, g_487_0, g_489_0, g_491_0, g_491_1, g_491_2, g_491_3, g_491_4, g_491_5, g_491_6, g_491_7, g_496_0, g_498_0, g_500_0, g_500_1, g_500_3, g_500_4, g_500_5, g_500_6, g_500_7, g_562_0, g_564_0, g_566_0, g_580_0, g_580_1, g_580_2, g_580_3, g_581_0, g_583_0, g_585_0, g_588_1, g_588_2, g_588_3, g_588_4, g_588_6, g_601_0, g_601_1, g_601_2, g_601_3, g_601_4, g_601_5, g_601_6, g_601_7, g_601_8, g_608_0, g_610_0, g_612_0, g_612_2, g_612_4, g_612_5, g_612_7, g_612_8, g_612_9, g_612_10, g_612_11, g_612_12, g_612_13, g_612_14, g_612_15, g_612_16, g_612_19, g_612_20, g_612_22, g_612_24, g_612_25, g_612_26, g_612_27, g_612_28, g_612_30, g_612_31, g_612_32, g_612_33, g_612_34, g_612_36, g_612_37, g_612_38, g_612_39, g_612_40, g_612_41, g_612_42, g_612_43, g_612_44, g_612_46, g_612_47, g_612_48, g_612_49, g_612_50, g_612_53, g_612_56, g_612_57, g_612_58, g_612_59, g_612_61, g_612_62, g_612_63, g_612_64, addF, v2, rw1, Nat.reduceEqDiff, Nat.reduceAdd, Int.reduceEq, Int.reduceNeg, reduceIte, false_and, and_false, true_and, and_true, and_self, if_pos (show 0 ≤ v ∧ v < τ.1 337 1 from ⟨v0, v1⟩), if_pos (show 0 ≤ w ∧ w < τ.1 337 1 from ⟨w0, w1⟩), g1, h1]
  refine ⟨fun c => ⟨by omega, by omega, ?_⟩, fun c => ?_⟩
  · refine ⟨congrArg Prod.fst g2.1, W_isLike (τ := τ) g2 h2 (by omega) (by omega) (by omega) (by omega) (by omega) (by omega) ?_⟩
    refine ⟨fun z => ?_, fun z => ?_⟩
    · rw [zp_0] at z
      rw [zp_neg (fun q => z q.2)] at hQ; exact hQ
    · rw [zp_0, Classical.not_not] at z
      rw [zp_pos ⟨c, z⟩] at hQ; exact hQ
  · rw [zp_neg (fun q => c q.1)] at hQ; exact hQ
set_option maxRecDepth 100000 in
theorem W0_can {τ : kzM} (hI : Inv τ) {p w : Int} (p0 : 0 ≤ p) (p1 : p < τ.1 562 1) (w0 : 0 ≤ w) (w1 : w < τ.1 337 1) {Q : Int → kzM → Prop} (hQ : Q (zp (canW τ p w)) τ) : Wz (Z0_canStand kdG0 500 p w) τ Q := by
  have i7 := hI.2.2.2.2.2.2.1.1
  unfold I7p at i7
  have e := i7.2.2.2 p p0 p1
  simp only [Z0_canStand, Z0_canStand_42, Z0_canStand_37, Z0_canStand_41, W_at r_562 (show τ.1 562 1 ≤ 5 by omega), W_at r_564 (show τ.1 564 1 ≤ 5 by omega), Z11_isKey, Z11_isLetter, Z11_isTongue, Z11_isHand, Z11_isDay, Z12_isKey, Z12_isLetter, Z12_isTongue, Z12_isHand, Z12_areTongues, Z12_isWord, Z12_isSymbol, W_within, W_in, zp_0, zB_zp, W_size r_1, W_isEmpty r_1, W_isFull r_1, W_has r_1, W_clear r_1, W_size r_3, W_isEmpty r_3, W_isFull r_3, W_has r_3, W_clear r_3, W_size r_328, W_isEmpty r_328, W_isFull r_328, W_has r_328, W_clear r_328, W_size r_330, W_isEmpty r_330, W_isFull r_330, W_has r_330, W_clear r_330, W_size r_332, W_isEmpty r_332, W_isFull r_332, W_has r_332, W_clear r_332, W_size r_334, W_isEmpty r_334, W_isFull r_334, W_has r_334, W_clear r_334, W_size r_337, W_isEmpty r_337, W_isFull r_337, W_has r_337, W_clear r_337, W_size r_339, W_isEmpty r_339, W_isFull r_339, W_has r_339, W_clear r_339, W_size r_341, W_isEmpty r_341, W_isFull r_341, W_has r_341, W_clear r_341, W_size r_485, W_isEmpty r_485, W_isFull r_485, W_has r_485, W_clear r_485, W_size r_487, W_isEmpty r_487, W_isFull r_487, W_has r_487, W_clear r_487, W_size r_489, W_isEmpty r_489, W_isFull r_489, W_has r_489, W_clear r_489, W_size r_496, W_isEmpty r_496, W_isFull r_496, W_has r_496, W_clear r_496, W_size r_498, W_isEmpty r_498, W_isFull r_498, W_has r_498, W_clear r_498, W_size r_562, W_isEmpty r_562, W_isFull r_562, W_has r_562, W_clear r_562, W_size r_564, W_isEmpty r_564, W_isFull r_564, W_has r_564, W_clear r_564, W_size r_566, W_isEmpty r_566, W_isFull r_566, W_has r_566, W_clear r_566, W_size r_581, W_isEmpty r_581, W_isFull r_581, W_has r_581, W_clear r_581, W_size r_583, W_isEmpty r_583, W_isFull r_583, W_has r_583, W_clear r_583, W_size r_585, W_isEmpty r_585, W_isFull r_585, W_has r_585, W_clear r_585, W_size r_608, W_isEmpty r_608, W_isFull r_608, W_has r_608, W_clear r_608, W_size r_610, W_isEmpty r_610, W_isFull r_610, W_has r_610, W_clear r_610, Wz_rt, Wz_cnd, Wz_lI, Wz_lW, Wz_lL, Wz_cl, Wz_cv, Wz_nz, Wz_gI, Wz_gR, Wz_sI, Wz_aI, Wz_aZ, Wz_aL, Wz_aN, Wz_aR, Wz_tI, Wz_tZ, Wz_tL, Option.some.injEq, exists_eq_left', zB_0, zB_1, true_and, and_true, true_implies, not_true_eq_false, false_implies, not_false_eq_true, Classical.not_not, g_0, g_1, g_2, g_3, g_4, g_5, g_327, g_328, g_329, g_330, g_331, g_332, g_333, g_334, g_335, g_336, g_337, g_338, g_339, g_340, g_341, g_342, g_343, g_464, g_465, g_466, g_484, g_485, g_486, g_487, g_488, g_489, g_490, g_491, g_492, g_493, g_494, g_495, g_496, g_497, g_498, g_499, g_500, g_501, g_562, g_563, g_564, g_565, g_566, g_567, g_568, g_574, g_580, g_581, g_582, g_583, g_584, g_585, g_586, g_587, g_588, g_589, g_590, g_591, g_592, g_600, g_601, g_602, g_603, g_604, g_605, g_606, g_607, g_608, g_609, g_610, g_611, g_612, g_613, g_614, g_615, g_616, g_617, g_618, g_619, g_620, g_621, g_622, g_623, g_624, g_625, g_626, g_627, g_628, g_629, g_630, g_631, g_632, g_633, g_634, g_635, g_636, g_637, g_638, g_639, g_640, g_641, g_642, g_643, g_644, g_645, g_646, g_647, g_648, g_649, g_650, g_651, g_652, g_653, g_654, g_655, g_656, g_657, g_658, g_659, g_660, g_661, g_662, g_0_0, g_0_1, g_0_2, g_0_3, g_0_4, g_0_5, g_0_6, g_0_7, g_0_8, g_0_9, g_0_10, g_0_11, g_1_0, g_3_0, g_327_0, g_327_1, g_327_2, g_327_3, g_328_0, g_330_0, g_332_0, g_334_0, g_336_0, g_336_1, g_336_2, g_336_3, g_337_0, g_339_0, g_341_0, g_464_0, g_464_1, g_484_0, g_484_1, g_484_2, g_485_0, g_487_0, g_489_0, g_491_0, g_491_1, g_491_2, g_491_3, g_491_4, g_491_5, g_491_6, g_491_7, g_496_0, g_498_0, g_500_0, g_500_1, g_500_3, g_500_4, g_500_5, g_500_6, g_500_7, g_562_0, g_564_0, g_566_0, g_580_0, g_580_1, g_580_2, g_580_3, g_581_0, g_583_0, g_585_0, g_588_1, g_588_2, g_588_3, g_588_4, g_588_6, g_601_0, g_601_1, g_601_2, g_601_3, g_601_4, g_601_5, g_601_6, g_601_7, g_601_8, g_608_0, g_610_0, g_612_0, g_612_2, g_612_4, g_612_5, g_612_7, g_612_8, g_612_9, g_612_10, g_612_11, g_612_12, g_612_13, g_612_14, g_612_15, g_612_16, g_612_19, g_612_20, g_612_22, g_612_24, g_612_25, g_612_26, g_612_27, g_612_28, g_612_30, g_612_31, g_612_32, g_612_33, g_612_34, g_612_36, g_612_37, g_612_38, g_612_39, g_612_40, g_612_41, g_612_42, g_612_43, g_612_44, g_612_46, g_612_47, g_612_48, g_612_49, g_612_50, g_612_53, g_612_56, g_612_57, g_612_58, g_612_59, g_612_61, g_612_62, g_612_63, g_612_64, addF, v2, rw1, Nat.reduceEqDiff, Nat.reduceAdd, Int.reduceEq, Int.reduceNeg, reduceIte, false_and, and_false, true_and, and_true, and_self, if_pos (show 0 ≤ p ∧ p < τ.1 562 1 from ⟨p0, p1⟩), if_pos (show 0 ≤ p ∧ p < τ.1 564 1 by omega)]
  refine ⟨fun c => ?_, fun c => ⟨fun d => ?_, fun d => ?_⟩⟩
  · rw [zp_pos (p := canW τ p w) (Or.inl c)] at hQ; exact hQ
  · refine W10_like hI (by omega) (by omega) w0 w1 ?_
    refine ⟨fun z => ?_, fun z => ?_⟩
    · rw [zp_0] at z
      rw [zp_neg (fun q => by rcases q with q | q; exact c q; exact z q.2)] at hQ; exact hQ
    · rw [zp_0, Classical.not_not] at z
      rw [zp_pos (p := canW τ p w) (Or.inr ⟨d, z⟩)] at hQ; exact hQ
  · rw [zp_neg (fun q => by rcases q with q | q; exact c q; exact d q.1)] at hQ; exact hQ
theorem canW_to {τ σ : kzM} (h : tabX τ σ) (hI : Inv τ) {p w : Int} (p0 : 0 ≤ p) (p1 : p < τ.1 562 1) (w0 : 0 ≤ w) (w1 : w < τ.1 337 1) : canW σ p w = canW τ p w := by
  have i5 := hI.2.2.2.2.1
  unfold I5 at i5
  have i7 := hI.2.2.2.2.2.2.1.1
  unfold I7p at i7
  have e := (i7.2.2.2 p p0 p1).1.1
  have r : ∀ v, 0 ≤ v → v < τ.1 337 1 → σ.1 (344 + 2 * v.toNat + 1) = τ.1 (344 + 2 * v.toNat + 1) := fun v _ _ => funext fun k => h _ _ (by omega)
  unfold canW likeW
  rw [h 563 p (by decide), h 565 p (by decide), h 338 _ (by decide), h 338 _ (by decide), h (344 + 2 * (τ.1 563 p).toNat) 1 (by omega), h (344 + 2 * w.toNat) 1 (by omega), r _ e.1 e.2, r _ w0 w1]
noncomputable def bF (τ : kzM) (k : Nat) (w n : Int) : Int := (togW τ w n + 1) * gS τ k n
theorem bF_b {τ : kzM} (hI : Inv τ) {k : Nat} {w n : Int} (w0 : 0 ≤ w) (w1 : w < τ.1 337 1) (n0 : 0 ≤ n) (n1 : n < τ.1 337 1) : 0 ≤ bF τ k w n ∧ bF τ k w n ≤ 101 * gB k := by
  have i5 := hI.2.2.2.2.1
  unfold I5 at i5
  have t := togW_b hI.2.2.2.2.2.2.1.2 w0 (show w < 60 by omega) n0 (show n < 60 by omega)
  exact mul_b ⟨by omega, by omega⟩ (gS_b hI k n n0 n1)
set_option maxRecDepth 100000 in
theorem W0_gb_29 {τ : kzM} (hI : Inv τ) {p w : Int} {k : Nat} (p0 : 0 ≤ p) (p1 : p + 1 < τ.1 562 1) (hk : p + 1 + k = τ.1 562 1 - 1) (w0 : 0 ≤ w) (w1 : w < τ.1 337 1) {σ0 : kzM} (hs0 : tabX τ σ0) (hg : ∀ n, 0 ≤ n → n < τ.1 337 1 → σ0.2 (569 + (p + 1).toNat) n = gS τ k n) (Q : Int → kzM → Prop) (hQ : ∀ σ, (∀ a x, ¬(a = 575 + p.toNat ∧ x = w) → σ.1 a x = σ0.1 a x) → σ.2 = σ0.2 → σ.1 (575 + p.toNat) w = nS τ (k + 1) w → Q (mxF (bF τ k w) (τ.1 337 1).toNat) σ) : ∀ (N j : Nat) (σ : kzM), j ≤ (τ.1 337 1).toNat → (τ.1 337 1).toNat - j < N → (∀ a x, ¬(a = 575 + p.toNat ∧ x = w) → σ.1 a x = σ0.1 a x) → σ.2 = σ0.2 → σ.1 (575 + p.toNat) w = amF (bF τ k w) j → Wz (lp (fun _ _ _ _ _ _ => none) (Z0_greatestBehind_29B kdG0) N 500 p w (mxF (bF τ k w) j) (j : Int)) σ Q := by
  have i5 := hI.2.2.2.2.1
  unfold I5 at i5
  have wl := i5.1
  have i7 := hI.2.2.2.2.2.2.1.1
  unfold I7p at i7
  have pl := i7.1
  have gk : gB k ≤ 100 * (101 * (100 * (101 * (100 * (101 * 100))))) := by
    have : k = 0 ∨ k = 1 ∨ k = 2 ∨ k = 3 := by omega
    rcases this with e | e | e | e <;> (subst e; decide)
  intro N
  induction N with
  | zero => intro j; intros; omega
  | succ N ih =>
    intro j σ j1 j2 hs h2 h3
    rw [lp_succ]
    generalize lp (fun _ _ _ _ _ _ => none) (Z0_greatestBehind_29B kdG0) N = L at ih ⊢
    unfold Z0_greatestBehind_29B
    obtain ⟨a1, a2⟩ := g_tg (i := w) w0 (by omega)
    obtain ⟨b1, b2⟩ := g_gr (i := p + 1) (by omega) (by omega)
    obtain ⟨c1, c2⟩ := g_nx (i := p) (by omega) (by omega)
    have s337 : σ.1 337 1 = τ.1 337 1 := by rw [hs _ _ (by omega)]; exact hs0 _ _ (by decide)
    simp only [Z0_greatestBehind_87, W10_size, Wz_rt, Wz_cnd, Wz_lI, Wz_lW, Wz_lL, Wz_cl, Wz_cv, Wz_nz, Wz_gI, Wz_gR, Wz_sI, Wz_aI, Wz_aZ, Wz_aL, Wz_aN, Wz_aR, Wz_tI, Wz_tZ, Wz_tL, Option.some.injEq, exists_eq_left', zB_0, zB_1, true_and, and_true, true_implies, not_true_eq_false, false_implies, not_false_eq_true, Classical.not_not, g_0, g_1, g_2, g_3, g_4, g_5, g_327, g_328, g_329, g_330, g_331, g_332, g_333, g_334, g_335, g_336, g_337, g_338, g_339, g_340, g_341, g_342, g_343, g_464, g_465, g_466, g_484, g_485, g_486, g_487, g_488, g_489, g_490, g_491, g_492, g_493, g_494, g_495, g_496, g_497, g_498, g_499, g_500, g_501, g_562, g_563, g_564, g_565, g_566, g_567, g_568, g_574, g_580, g_581, g_582, g_583, g_584, g_585, g_586, g_587, g_588, g_589, g_590, g_591, g_592, g_600, g_601, g_602, g_603, g_604, g_605, g_606, g_607, g_608, g_609, g_610, g_611, g_612, g_613, g_614, g_615, g_616, g_617, g_618, g_619, g_620, g_621, g_622, g_623, g_624, g_625, g_626, g_627, g_628, g_629, g_630, g_631, g_632, g_633, g_634, g_635, g_636, g_637, g_638, g_639, g_640, g_641, g_642, g_643, g_644, g_645, g_646, g_647, g_648, g_649, g_650, g_651, g_652, g_653, g_654, g_655, g_656, g_657, g_658, g_659, g_660, g_661, g_662, g_0_0, g_0_1, g_0_2, g_0_3, g_0_4, g_0_5, g_0_6, g_0_7, g_0_8, g_0_9, g_0_10, g_0_11, g_1_0, g_3_0, g_327_0, g_327_1, g_327_2, g_327_3, g_328_0, g_330_0, g_332_0, g_334_0, g_336_0, g_336_1, g_336_2, g_336_3, g_337_0, g_339_0, g_341_0, g_464_0, g_464_1, g_484_0, g_484_1, g_484_2, g_485_0, g_487_0, g_489_0, g_491_0, g_491_1, g_491_2, g_491_3, g_491_4, g_491_5, g_491_6, g_491_7, g_496_0, g_498_0, g_500_0, g_500_1, g_500_3, g_500_4, g_500_5, g_500_6, g_500_7, g_562_0, g_564_0, g_566_0, g_580_0, g_580_1, g_580_2, g_580_3, g_581_0, g_583_0, g_585_0, g_588_1, g_588_2, g_588_3, g_588_4, g_588_6, g_601_0, g_601_1, g_601_2, g_601_3, g_601_4, g_601_5, g_601_6, g_601_7, g_601_8, g_608_0, g_610_0, g_612_0, g_612_2, g_612_4, g_612_5, g_612_7, g_612_8, g_612_9, g_612_10, g_612_11, g_612_12, g_612_13, g_612_14, g_612_15, g_612_16, g_612_19, g_612_20, g_612_22, g_612_24, g_612_25, g_612_26, g_612_27, g_612_28, g_612_30, g_612_31, g_612_32, g_612_33, g_612_34, g_612_36, g_612_37, g_612_38, g_612_39, g_612_40, g_612_41, g_612_42, g_612_43, g_612_44, g_612_46, g_612_47, g_612_48, g_612_49, g_612_50, g_612_53, g_612_56, g_612_57, g_612_58, g_612_59, g_612_61, g_612_62, g_612_63, g_612_64, a1, a2, b1, b2, c1, c2]
    by_cases e : τ.1 337 1 ≤ j
    · refine ⟨fun _ => ?_, fun c => by omega⟩
      have ej : j = (τ.1 337 1).toNat := by omega
      rw [ej] at h3 ⊢
      exact hQ σ hs h2 h3
    · refine ⟨fun c => by omega, fun _ => ⟨⟨by omega, by omega⟩, ⟨by omega, by omega⟩, ⟨by omega, by omega⟩, ⟨by omega, by omega⟩, ?_⟩⟩
      have st : σ.1 (502 + w.toNat) j = togW τ w j := by rw [hs _ _ (by omega)]; exact hs0 _ _ (by omega)
      rw [st, h2, hg j (by omega) (by omega)]
      have t := togW_b hI.2.2.2.2.2.2.1.2 w0 (show w < 60 by omega) (show 0 ≤ (j : Int) by omega) (show (j : Int) < 60 by omega)
      have bb := bF_b hI (k := k) w0 w1 (show 0 ≤ (j : Int) by omega) (show (j : Int) < τ.1 337 1 by omega)
      have eb : (togW τ w j + 1) * gS τ k j = bF τ k w j := rfl
      rw [eb]
      have ex : mxF (bF τ k w) (j + 1) = if mxF (bF τ k w) j < bF τ k w j then bF τ k w j else mxF (bF τ k w) j := rfl
      have ea : amF (bF τ k w) (j + 1) = if mxF (bF τ k w) j < bF τ k w j then (j : Int) else amF (bF τ k w) j := rfl
      have ih' := fun σ' => ih (j + 1) σ' (by omega) (by omega)
      rw [ex, ea, show ((j + 1 : Nat) : Int) = (j : Int) + 1 by omega] at ih'
      refine ⟨by omega, by omega, fun c => ⟨by omega, ?_⟩, fun c => ⟨⟨by omega, by omega⟩, ⟨by omega, by omega⟩, by omega, ?_⟩⟩
      · rw [if_neg (by omega), if_neg (by omega)] at ih'
        exact ih' σ hs h2 h3
      · rw [if_pos (by omega), if_pos (by omega)] at ih'
        refine ih' _ (fun a x q => ?_) rfl ?_
        · dsimp only; rw [v2_eq, if_neg q]; exact hs a x q
        · dsimp only; rw [v2_self]
noncomputable def rS (τ : kzM) : Nat → Int → Int
  | 0, _ => 1
  | k + 1, w => mxF (bF τ k w) (τ.1 337 1).toNat
theorem gS_eq {τ : kzM} : ∀ (k : Nat) (w : Int), gS τ k w = zp (canW τ (τ.1 562 1 - 1 - (k : Int)) w) * (τ.1 342 w * rS τ k w)
  | 0, w => by
    show zp (canW τ (τ.1 562 1 - 1) w) * τ.1 342 w = _
    unfold rS
    rw [Int.mul_one, show τ.1 562 1 - 1 - ((0 : Nat) : Int) = τ.1 562 1 - 1 by omega]
  | k + 1, w => rfl
def chX (τ σ : kzM) (p : Int) : Prop := tabX τ σ ∧ ∀ q, p ≤ q → q < τ.1 562 1 → ∀ w, 0 ≤ w → w < τ.1 337 1 → σ.2 (569 + q.toNat) w = gS τ (τ.1 562 1 - 1 - q).toNat w ∧ (canW τ q w → σ.1 (575 + q.toNat) w = nS τ (τ.1 562 1 - 1 - q).toNat w)
set_option maxRecDepth 100000 in
theorem W0_gb {τ : kzM} (hI : Inv τ) {p w : Int} (p0 : 0 ≤ p) (p1 : p < τ.1 562 1) (w0 : 0 ≤ w) (w1 : w < τ.1 337 1) {σ : kzM} (hs : chX τ σ (p + 1)) {Q : Int → kzM → Prop} (hQ : ∀ ρ, (∀ a x, ¬(a = 575 + p.toNat ∧ x = w) → ρ.1 a x = σ.1 a x) → ρ.2 = σ.2 → ρ.1 (575 + p.toNat) w = nS τ (τ.1 562 1 - 1 - p).toNat w → Q (rS τ (τ.1 562 1 - 1 - p).toNat w) ρ) : Wz (Z0_greatestBehind kdG0 500 p w) σ Q := by
  have i5 := hI.2.2.2.2.1
  unfold I5 at i5
  have wl := i5.1
  have i7 := hI.2.2.2.2.2.2.1.1
  unfold I7p at i7
  have pl := i7.1
  obtain ⟨c1, c2⟩ := g_nx (i := p) (by omega) (by omega)
  have s562 : σ.1 562 1 = τ.1 562 1 := hs.1 _ _ (by decide)
  simp only [Z0_greatestBehind, W_size r_562, Wz_rt, Wz_cnd, Wz_lI, Wz_lW, Wz_lL, Wz_cl, Wz_cv, Wz_nz, Wz_gI, Wz_gR, Wz_sI, Wz_aI, Wz_aZ, Wz_aL, Wz_aN, Wz_aR, Wz_tI, Wz_tZ, Wz_tL, Option.some.injEq, exists_eq_left', zB_0, zB_1, true_and, and_true, true_implies, not_true_eq_false, false_implies, not_false_eq_true, Classical.not_not, g_0, g_1, g_2, g_3, g_4, g_5, g_327, g_328, g_329, g_330, g_331, g_332, g_333, g_334, g_335, g_336, g_337, g_338, g_339, g_340, g_341, g_342, g_343, g_464, g_465, g_466, g_484, g_485, g_486, g_487, g_488, g_489, g_490, g_491, g_492, g_493, g_494, g_495, g_496, g_497, g_498, g_499, g_500, g_501, g_562, g_563, g_564, g_565, g_566, g_567, g_568, g_574, g_580, g_581, g_582, g_583, g_584, g_585, g_586, g_587, g_588, g_589, g_590, g_591, g_592, g_600, g_601, g_602, g_603, g_604, g_605, g_606, g_607, g_608, g_609, g_610, g_611, g_612, g_613, g_614, g_615, g_616, g_617, g_618, g_619, g_620, g_621, g_622, g_623, g_624, g_625, g_626, g_627, g_628, g_629, g_630, g_631, g_632, g_633, g_634, g_635, g_636, g_637, g_638, g_639, g_640, g_641, g_642, g_643, g_644, g_645, g_646, g_647, g_648, g_649, g_650, g_651, g_652, g_653, g_654, g_655, g_656, g_657, g_658, g_659, g_660, g_661, g_662, g_0_0, g_0_1, g_0_2, g_0_3, g_0_4, g_0_5, g_0_6, g_0_7, g_0_8, g_0_9, g_0_10, g_0_11, g_1_0, g_3_0, g_327_0, g_327_1, g_327_2, g_327_3, g_328_0, g_330_0, g_332_0, g_334_0, g_336_0, g_336_1, g_336_2, g_336_3, g_337_0, g_339_0, g_341_0, g_464_0, g_464_1, g_484_0, g_484_1, g_484_2, g_485_0, g_487_0, g_489_0, g_491_0, g_491_1, g_491_2, g_491_3, g_491_4, g_491_5, g_491_6, g_491_7, g_496_0, g_498_0, g_500_0, g_500_1, g_500_3, g_500_4, g_500_5, g_500_6, g_500_7, g_562_0, g_564_0, g_566_0, g_580_0, g_580_1, g_580_2, g_580_3, g_581_0, g_583_0, g_585_0, g_588_1, g_588_2, g_588_3, g_588_4, g_588_6, g_601_0, g_601_1, g_601_2, g_601_3, g_601_4, g_601_5, g_601_6, g_601_7, g_601_8, g_608_0, g_610_0, g_612_0, g_612_2, g_612_4, g_612_5, g_612_7, g_612_8, g_612_9, g_612_10, g_612_11, g_612_12, g_612_13, g_612_14, g_612_15, g_612_16, g_612_19, g_612_20, g_612_22, g_612_24, g_612_25, g_612_26, g_612_27, g_612_28, g_612_30, g_612_31, g_612_32, g_612_33, g_612_34, g_612_36, g_612_37, g_612_38, g_612_39, g_612_40, g_612_41, g_612_42, g_612_43, g_612_44, g_612_46, g_612_47, g_612_48, g_612_49, g_612_50, g_612_53, g_612_56, g_612_57, g_612_58, g_612_59, g_612_61, g_612_62, g_612_63, g_612_64, c1, c2]
  rw [v2_ne _ _ _ _ (by omega), s562]
  refine ⟨⟨by omega, by omega⟩, by omega, by omega, fun c => ?_, fun c => ?_⟩
  · have q := hQ (v2 σ.1 (575 + p.toNat) w 0, σ.2)
    rw [show (τ.1 562 1 - 1 - p).toNat = 0 by omega] at q
    exact q (fun a x z => by dsimp only; rw [v2_eq, if_neg z]) rfl (by dsimp only; rw [v2_self]; rfl)
  · obtain ⟨k, hk⟩ : ∃ k : Nat, (τ.1 562 1 - 1 - p).toNat = k + 1 := ⟨(τ.1 562 1 - 1 - p).toNat - 1, by omega⟩
    rw [hk] at hQ
    unfold Z0_greatestBehind_29
    have hs' : tabX τ (v2 σ.1 (575 + p.toNat) w 0, σ.2) := fun a x z => by
      dsimp only; rw [v2_ne _ _ _ _ (by omega)]; exact hs.1 a x z
    refine W0_gb_29 hI (k := k) p0 (by omega) (by omega) w0 w1 hs' (fun n n0 n1 => ?_) Q ?_ NN 0 _ (Nat.zero_le _) (by unfold NN; omega) (fun _ _ _ => rfl) rfl ?_
    · have e := (hs.2 (p + 1) (by omega) (by omega) n n0 n1).1
      rw [show (τ.1 562 1 - 1 - (p + 1)).toNat = k by omega] at e
      exact e
    · intro ρ h1 h2 h3
      refine hQ ρ (fun a x z => ?_) h2 h3
      rw [h1 a x z]; dsimp only; rw [v2_eq, if_neg z]
    · dsimp only; rw [v2_self]; rfl
set_option maxRecDepth 100000 in
theorem W0_weigh_2 {τ : kzM} (hI : Inv τ) {p : Int} (p0 : 0 ≤ p) (p1 : p < τ.1 562 1) (Q : Unit → kzM → Prop) (hQ : ∀ σ, chX τ σ p → Q () σ) : ∀ (N j : Nat) (σ : kzM), j ≤ (τ.1 337 1).toNat → (τ.1 337 1).toNat - j < N → chX τ σ (p + 1) → (∀ w, 0 ≤ w → w < (j : Int) → σ.2 (569 + p.toNat) w = gS τ (τ.1 562 1 - 1 - p).toNat w ∧ (canW τ p w → σ.1 (575 + p.toNat) w = nS τ (τ.1 562 1 - 1 - p).toNat w)) → Wz (lp (fun _ _ _ _ => none) (Z0_weighPlace_2B kdG0) N 500 p (j : Int)) σ Q := by
  have i5 := hI.2.2.2.2.1
  unfold I5 at i5
  have wl := i5.1
  have i7 := hI.2.2.2.2.2.2.1.1
  unfold I7p at i7
  have pl := i7.1
  intro N
  induction N with
  | zero => intro j; intros; omega
  | succ N ih =>
    intro j σ j1 j2 hs hj
    rw [lp_succ]
    generalize lp (fun _ _ _ _ => none) (Z0_weighPlace_2B kdG0) N = L at ih ⊢
    unfold Z0_weighPlace_2B
    have s337 : σ.1 337 1 = τ.1 337 1 := hs.1 _ _ (by decide)
    have s341 : σ.1 341 1 = τ.1 337 1 := by rw [hs.1 _ _ (by decide)]; exact i5.2.2.1
    obtain ⟨b1, b2⟩ := g_gr (i := p) (by omega) (by omega)
    have hIs := hI.tabX hs.1
    simp only [Z0_weighPlace_49, W10_size, Wz_rt, Wz_cnd, Wz_lI, Wz_lW, Wz_lL, Wz_cl, Wz_cv, Wz_nz, Wz_gI, Wz_gR, Wz_sI, Wz_aI, Wz_aZ, Wz_aL, Wz_aN, Wz_aR, Wz_tI, Wz_tZ, Wz_tL, Option.some.injEq, exists_eq_left', zB_0, zB_1, true_and, and_true, true_implies, not_true_eq_false, false_implies, not_false_eq_true, Classical.not_not, g_0, g_1, g_2, g_3, g_4, g_5, g_327, g_328, g_329, g_330, g_331, g_332, g_333, g_334, g_335, g_336, g_337, g_338, g_339, g_340, g_341, g_342, g_343, g_464, g_465, g_466, g_484, g_485, g_486, g_487, g_488, g_489, g_490, g_491, g_492, g_493, g_494, g_495, g_496, g_497, g_498, g_499, g_500, g_501, g_562, g_563, g_564, g_565, g_566, g_567, g_568, g_574, g_580, g_581, g_582, g_583, g_584, g_585, g_586, g_587, g_588, g_589, g_590, g_591, g_592, g_600, g_601, g_602, g_603, g_604, g_605, g_606, g_607, g_608, g_609, g_610, g_611, g_612, g_613, g_614, g_615, g_616, g_617, g_618, g_619, g_620, g_621, g_622, g_623, g_624, g_625, g_626, g_627, g_628, g_629, g_630, g_631, g_632, g_633, g_634, g_635, g_636, g_637, g_638, g_639, g_640, g_641, g_642, g_643, g_644, g_645, g_646, g_647, g_648, g_649, g_650, g_651, g_652, g_653, g_654, g_655, g_656, g_657, g_658, g_659, g_660, g_661, g_662, g_0_0, g_0_1, g_0_2, g_0_3, g_0_4, g_0_5, g_0_6, g_0_7, g_0_8, g_0_9, g_0_10, g_0_11, g_1_0, g_3_0, g_327_0, g_327_1, g_327_2, g_327_3, g_328_0, g_330_0, g_332_0, g_334_0, g_336_0, g_336_1, g_336_2, g_336_3, g_337_0, g_339_0, g_341_0, g_464_0, g_464_1, g_484_0, g_484_1, g_484_2, g_485_0, g_487_0, g_489_0, g_491_0, g_491_1, g_491_2, g_491_3, g_491_4, g_491_5, g_491_6, g_491_7, g_496_0, g_498_0, g_500_0, g_500_1, g_500_3, g_500_4, g_500_5, g_500_6, g_500_7, g_562_0, g_564_0, g_566_0, g_580_0, g_580_1, g_580_2, g_580_3, g_581_0, g_583_0, g_585_0, g_588_1, g_588_2, g_588_3, g_588_4, g_588_6, g_601_0, g_601_1, g_601_2, g_601_3, g_601_4, g_601_5, g_601_6, g_601_7, g_601_8, g_608_0, g_610_0, g_612_0, g_612_2, g_612_4, g_612_5, g_612_7, g_612_8, g_612_9, g_612_10, g_612_11, g_612_12, g_612_13, g_612_14, g_612_15, g_612_16, g_612_19, g_612_20, g_612_22, g_612_24, g_612_25, g_612_26, g_612_27, g_612_28, g_612_30, g_612_31, g_612_32, g_612_33, g_612_34, g_612_36, g_612_37, g_612_38, g_612_39, g_612_40, g_612_41, g_612_42, g_612_43, g_612_44, g_612_46, g_612_47, g_612_48, g_612_49, g_612_50, g_612_53, g_612_56, g_612_57, g_612_58, g_612_59, g_612_61, g_612_62, g_612_63, g_612_64, b1, b2]
    by_cases e : τ.1 337 1 ≤ j
    · refine ⟨fun _ => hQ σ ⟨hs.1, fun q q0 q1 w w0 w1 => ?_⟩, fun c => by omega⟩
      by_cases c : q = p
      · rw [c]; exact hj w w0 (by omega)
      · exact hs.2 q (by omega) q1 w w0 w1
    · refine ⟨fun c => by omega, fun _ => ⟨⟨by omega, by omega⟩, ?_⟩⟩
      have ge := gS_eq (τ := τ) (τ.1 562 1 - 1 - p).toNat (j : Int)
      rw [show τ.1 562 1 - 1 - ((τ.1 562 1 - 1 - p).toNat : Int) = p by omega] at ge
      have gb := gS_b hI (τ.1 562 1 - 1 - p).toNat (j : Int) (by omega) (by omega)
      have gk : gB (τ.1 562 1 - 1 - p).toNat ≤ 100 * (101 * (100 * (101 * (100 * (101 * (100 * (101 * 100))))))) := by
        have : (τ.1 562 1 - 1 - p).toNat = 0 ∨ (τ.1 562 1 - 1 - p).toNat = 1 ∨ (τ.1 562 1 - 1 - p).toNat = 2 ∨ (τ.1 562 1 - 1 - p).toNat = 3 ∨ (τ.1 562 1 - 1 - p).toNat = 4 := by omega
        rcases this with e | e | e | e | e <;> (rw [e]; decide)
      have step : ∀ (ρ : kzM) (v : Int), v = gS τ (τ.1 562 1 - 1 - p).toNat (j : Int) → (∀ a x, ¬(a = 575 + p.toNat ∧ x = (j : Int)) → ρ.1 a x = σ.1 a x) → ρ.2 = σ.2 → (canW τ p j → ρ.1 (575 + p.toNat) j = nS τ (τ.1 562 1 - 1 - p).toNat j) → Wz (L 500 p ((j : Int) + 1)) (ρ.1, v2 ρ.2 (569 + p.toNat) j v) Q := fun ρ v hv r1 r2 r3 => by
        rw [show (j : Int) + 1 = ((j + 1 : Nat) : Int) by omega]
        refine ih (j + 1) _ (by omega) (by omega) ⟨fun a x z => ?_, fun q q0 q1 w w0 w1 => ?_⟩ (fun w w0 w1 => ?_)
        · dsimp only; rw [r1 a x (by omega)]; exact hs.1 a x z
        · dsimp only
          rw [v2_ne _ _ _ _ (by omega), r2, r1 _ _ (by omega)]
          exact hs.2 q q0 q1 w w0 w1
        · dsimp only
          by_cases c : w = j
          · rw [c, v2_self]; exact ⟨hv, r3⟩
          · rw [v2_nk _ _ _ _ c, r2, r1 _ _ (fun z => c z.2)]
            exact hj w w0 (by omega)
      have ce := canW_to hs.1 hI p0 p1 (show 0 ≤ (j : Int) by omega) (by omega)
      refine W0_can hIs p0 (by rw [hs.1 _ _ (by decide)]; exact p1) (by omega) (by omega) ?_
      rw [ce]
      refine ⟨fun c => ?_, fun c => ?_⟩
      · rw [zp_0] at c
        rw [zp_neg c, Int.zero_mul] at ge
        exact ⟨⟨by omega, by omega⟩, by omega, step σ 0 ge.symm (fun _ _ _ => rfl) rfl (fun q => absurd q c)⟩
      · rw [zp_0, Classical.not_not] at c
        rw [zp_pos c, Int.one_mul] at ge
        simp only [W10_countOf (show σ.1 341 1 ≤ 60 by omega)]
        rw [if_pos (show 0 ≤ (j : Int) ∧ (j : Int) < σ.1 341 1 by omega), hs.1 342 _ (by decide)]
        refine W0_gb hI p0 p1 (by omega) (by omega) hs ?_
        intro ρ r1 r2 r3
        rw [← ge]
        exact ⟨by omega, ⟨by omega, by omega⟩, by omega, step ρ _ rfl r1 r2 (fun _ => r3)⟩
