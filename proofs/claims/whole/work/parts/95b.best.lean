/-! layouts: the least costly, the class -/
theorem rowL_app {p t : List Nat} {i : Int} (i0 : 0 ≤ i) (i1 : i < p.length) : rowL (p ++ t) i = rowL p i := by
  unfold rowL
  rw [List.getD_eq_getElem?_getD, List.getD_eq_getElem?_getD, List.getElem?_append_left (by omega)]
theorem rowL_len {p : List Nat} {s : Nat} : rowL (p ++ [s]) p.length = s := by
  unfold rowL
  rw [List.getD_eq_getElem?_getD, show ((p.length : Int)).toNat = p.length by omega, List.getElem?_concat_length]
  rfl
theorem rowL_b {p : List Nat} {n : Nat} (h : ∀ x, x ∈ p → x < n) {i : Int} (i0 : 0 ≤ i) (i1 : i < p.length) : 0 ≤ rowL p i ∧ rowL p i < n := by
  unfold rowL
  have : p.getD i.toNat 0 ∈ p := by
    rw [List.getD_eq_getElem?_getD, List.getElem?_eq_getElem (by omega)]
    exact List.getElem_mem _
  have := h _ this
  omega
theorem adP_b {τ : kzM} (hI : Inv τ) {p : Int → Int} {i : Int} (i0 : 0 ≤ i) (i1 : i < 7) (hp : ∀ j, 0 ≤ j → j ≤ i → 0 ≤ p j ∧ p j < 7) : 0 ≤ adP τ p i ∧ adP τ p i ≤ 20180 := by
  have hL : tabL τ (fun a x => if a = 600 then p x else τ.1 a x, τ.2) := fun a x h1 => by dsimp only; rw [if_neg (fun q => h1 (by rw [q]; rfl))]
  have h := adC_b (hI.tabL hL) i0 i1 (fun j a b => by have := hp j a b; exact this)
  rw [adC_L hL i0 i1] at h
  exact h
theorem wS_le {f : Int → Int} {a : Nat} : ∀ b : Nat, a ≤ b → (∀ k : Int, 0 ≤ k → k < b → 0 ≤ f k) → wS f a ≤ wS f b
  | 0, h, _ => by rw [show a = 0 by omega]; omega
  | b + 1, h, k => by
    by_cases c : a = b + 1
    · rw [c]; omega
    · have := wS_le (f := f) (a := a) b (by omega) (fun x x0 x1 => k x x0 (by omega))
      have := k b (by omega) (by omega)
      show wS f a ≤ wS f b + f b
      omega
theorem part_le {τ : kzM} (hI : Inv τ) {p q : List Nat} (hq : ∃ t, q = p ++ t) (hl : q.length = (τ.1 588 0).toNat) (hn : ∀ x, x ∈ q → x < (τ.1 588 0).toNat) : wS (adP τ (rowL p)) p.length ≤ cP τ (rowL q) := by
  have i9 := hI.2.2.2.2.2.2.2.2
  unfold I9 at i9
  have s1 := i9.1
  obtain ⟨t, e⟩ := hq
  have pl : p.length ≤ q.length := by rw [e, List.length_append]; omega
  rw [wS_congr (q := adP τ (rowL q)) p.length (fun k k0 k1 => adP_cg k0 (fun j j0 j1 => by rw [e]; exact (rowL_app j0 (by omega)).symm))]
  unfold cP
  rw [← hl]
  refine wS_le _ pl (fun k k0 k1 => (adP_b hI k0 (by omega) (fun j j0 j1 => ?_)).1)
  have := rowL_b hn j0 (by omega)
  omega
def stpB (τ : kzM) (n : Nat) (s : Int × Int) (p : List Nat) : Int × Int := if cP τ (rowL p) < s.1 then (cP τ (rowL p), dgF (rowL p) n) else s
theorem fold_keep {τ : kzM} {n : Nat} : ∀ (L : List (List Nat)) (s : Int × Int), (∀ q, q ∈ L → s.1 ≤ cP τ (rowL q)) → L.foldl (stpB τ n) s = s
  | [], _, _ => rfl
  | a :: L, s, h => by
    rw [List.foldl_cons, show stpB τ n s a = s from if_neg (by have := h a List.mem_cons_self; omega)]
    exact fold_keep L s (fun q hq => h q (List.mem_cons_of_mem _ hq))
set_option maxRecDepth 100000 in
theorem W3_digits {σ : kzM} {n : Nat} (h0 : σ.1 588 0 = n) (hn : n ≤ 7) (hp : ∀ i : Int, 0 ≤ i → i < n → 0 ≤ σ.1 600 i ∧ σ.1 600 i ≤ 6) {Q : Int → kzM → Prop} (hQ : Q (dgF (σ.1 600) n) σ) : Wz (Z3_digits kdG0 588) σ Q := by
  have go : ∀ (N i : Nat), i ≤ n → n - i < N → Wz (lp (fun _ _ _ _ => none) (Z3_digits_4B kdG0) N 588 (dgF (σ.1 600) i) (i : Int)) σ Q := by
    intro N
    induction N with
    | zero => intro i; intros; omega
    | succ N ih =>
      intro i i1 i2
      rw [lp_succ]
      generalize lp (fun _ _ _ _ => none) (Z3_digits_4B kdG0) N = L at ih ⊢
      unfold Z3_digits_4B
      simp only [Wz_rt, Wz_cnd, Wz_lI, Wz_lW, Wz_lL, Wz_cl, Wz_cv, Wz_nz, Wz_gI, Wz_gR, Wz_sI, Wz_aI, Wz_aZ, Wz_aL, Wz_aN, Wz_aR, Wz_tI, Wz_tZ, Wz_tL, Option.some.injEq, exists_eq_left', zB_0, zB_1, true_and, and_true, true_implies, not_true_eq_false, false_implies, not_false_eq_true, Classical.not_not, g_0, g_1, g_2, g_3, g_4, g_5, g_327, g_328, g_329, g_330, g_331, g_332, g_333, g_334, g_335, g_336, g_337, g_338, g_339, g_340, g_341, g_342, g_343, g_464, g_465, g_466, g_484, g_485, g_486, g_487, g_488, g_489, g_490, g_491, g_492, g_493, g_494, g_495, g_496, g_497, g_498, g_499, g_500, g_501, g_562, g_563, g_564, g_565, g_566, g_567, g_568, g_574, g_580, g_581, g_582, g_583, g_584, g_585, g_586, g_587, g_588, g_589, g_590, g_591, g_592, g_600, g_601, g_602, g_603, g_604, g_605, g_606, g_607, g_608, g_609, g_610, g_611, g_612, g_613, g_614, g_615, g_616, g_617, g_618, g_619, g_620, g_621, g_622, g_623, g_624, g_625, g_626, g_627, g_628, g_629, g_630, g_631, g_632, g_633, g_634, g_635, g_636, g_637, g_638, g_639, g_640, g_641, g_642, g_643, g_644, g_645, g_646, g_647, g_648, g_649, g_650, g_651, g_652, g_653, g_654, g_655, g_656, g_657, g_658, g_659, g_660, g_661, g_662, g_0_0, g_0_1, g_0_2, g_0_3, g_0_4, g_0_5, g_0_6, g_0_7, g_0_8, g_0_9, g_0_10, g_0_11, g_1_0, g_3_0, g_327_0, g_327_1, g_327_2, g_327_3, g_328_0, g_330_0, g_332_0, g_334_0, g_336_0, g_336_1, g_336_2, g_336_3, g_337_0, g_339_0, g_341_0, g_464_0, g_464_1, g_484_0, g_484_1, g_484_2, g_485_0, g_487_0, g_489_0, g_491_0, g_491_1, g_491_2, g_491_3, g_491_4, g_491_5, g_491_6, g_491_7, g_496_0, g_498_0, g_500_0, g_500_1, g_500_3, g_500_4, g_500_5, g_500_6, g_500_7, g_562_0, g_564_0, g_566_0, g_580_0, g_580_1, g_580_2, g_580_3, g_581_0, g_583_0, g_585_0, g_588_1, g_588_2, g_588_3, g_588_4, g_588_6, g_601_0, g_601_1, g_601_2, g_601_3, g_601_4, g_601_5, g_601_6, g_601_7, g_601_8, g_608_0, g_610_0, g_612_0, g_612_2, g_612_4, g_612_5, g_612_7, g_612_8, g_612_9, g_612_10, g_612_11, g_612_12, g_612_13, g_612_14, g_612_15, g_612_16, g_612_19, g_612_20, g_612_22, g_612_24, g_612_25, g_612_26, g_612_27, g_612_28, g_612_30, g_612_31, g_612_32, g_612_33, g_612_34, g_612_36, g_612_37, g_612_38, g_612_39, g_612_40, g_612_41, g_612_42, g_612_43, g_612_44, g_612_46, g_612_47, g_612_48, g_612_49, g_612_50, g_612_53, g_612_56, g_612_57, g_612_58, g_612_59, g_612_61, g_612_62, g_612_63, g_612_64, h0]
      refine ⟨fun c => ?_, fun c => ?_⟩
      · rw [show i = n by omega]; exact hQ
      · have ih' := ih (i + 1) (by omega) (by omega)
        rw [show dgF (σ.1 600) (i + 1) = 10 * dgF (σ.1 600) i + σ.1 600 i from rfl, show ((i + 1 : Nat) : Int) = (i : Int) + 1 by omega] at ih'
        have b := dgF_b (f := σ.1 600) i (fun k k0 k1 => hp k k0 (by omega))
        have b2 := hp i (by omega) (by omega)
        have b3 : (10 : Int) ^ i ≤ 10 ^ 7 := by
          have h := Nat.pow_le_pow_right (n := 10) (by decide) (show i ≤ 7 by omega)
          exact_mod_cast h
        exact ⟨by omega, by omega, by omega, ih'⟩
  unfold Z3_digits Z3_digits_4
  exact go NN 0 (by omega) (by unfold NN; omega)
set_option maxRecDepth 100000 in
theorem W12_digits {σ : kzM} {n : Nat} (h0 : σ.1 612 55 = n) (hn : n ≤ 7) (hp : ∀ i : Int, 0 ≤ i → i < n → 0 ≤ σ.1 659 i ∧ σ.1 659 i ≤ 6) {Q : Int → kzM → Prop} (hQ : Q (dgF (σ.1 659) n) σ) : Wz (Z12_digits kdG0 612) σ Q := by
  have go : ∀ (N i : Nat), i ≤ n → n - i < N → Wz (lp (fun _ _ _ _ => none) (Z12_digits_4B kdG0) N 612 (dgF (σ.1 659) i) (i : Int)) σ Q := by
    intro N
    induction N with
    | zero => intro i; intros; omega
    | succ N ih =>
      intro i i1 i2
      rw [lp_succ]
      generalize lp (fun _ _ _ _ => none) (Z12_digits_4B kdG0) N = L at ih ⊢
      unfold Z12_digits_4B
      simp only [Wz_rt, Wz_cnd, Wz_lI, Wz_lW, Wz_lL, Wz_cl, Wz_cv, Wz_nz, Wz_gI, Wz_gR, Wz_sI, Wz_aI, Wz_aZ, Wz_aL, Wz_aN, Wz_aR, Wz_tI, Wz_tZ, Wz_tL, Option.some.injEq, exists_eq_left', zB_0, zB_1, true_and, and_true, true_implies, not_true_eq_false, false_implies, not_false_eq_true, Classical.not_not, g_0, g_1, g_2, g_3, g_4, g_5, g_327, g_328, g_329, g_330, g_331, g_332, g_333, g_334, g_335, g_336, g_337, g_338, g_339, g_340, g_341, g_342, g_343, g_464, g_465, g_466, g_484, g_485, g_486, g_487, g_488, g_489, g_490, g_491, g_492, g_493, g_494, g_495, g_496, g_497, g_498, g_499, g_500, g_501, g_562, g_563, g_564, g_565, g_566, g_567, g_568, g_574, g_580, g_581, g_582, g_583, g_584, g_585, g_586, g_587, g_588, g_589, g_590, g_591, g_592, g_600, g_601, g_602, g_603, g_604, g_605, g_606, g_607, g_608, g_609, g_610, g_611, g_612, g_613, g_614, g_615, g_616, g_617, g_618, g_619, g_620, g_621, g_622, g_623, g_624, g_625, g_626, g_627, g_628, g_629, g_630, g_631, g_632, g_633, g_634, g_635, g_636, g_637, g_638, g_639, g_640, g_641, g_642, g_643, g_644, g_645, g_646, g_647, g_648, g_649, g_650, g_651, g_652, g_653, g_654, g_655, g_656, g_657, g_658, g_659, g_660, g_661, g_662, g_0_0, g_0_1, g_0_2, g_0_3, g_0_4, g_0_5, g_0_6, g_0_7, g_0_8, g_0_9, g_0_10, g_0_11, g_1_0, g_3_0, g_327_0, g_327_1, g_327_2, g_327_3, g_328_0, g_330_0, g_332_0, g_334_0, g_336_0, g_336_1, g_336_2, g_336_3, g_337_0, g_339_0, g_341_0, g_464_0, g_464_1, g_484_0, g_484_1, g_484_2, g_485_0, g_487_0, g_489_0, g_491_0, g_491_1, g_491_2, g_491_3, g_491_4, g_491_5, g_491_6, g_491_7, g_496_0, g_498_0, g_500_0, g_500_1, g_500_3, g_500_4, g_500_5, g_500_6, g_500_7, g_562_0, g_564_0, g_566_0, g_580_0, g_580_1, g_580_2, g_580_3, g_581_0, g_583_0, g_585_0, g_588_1, g_588_2, g_588_3, g_588_4, g_588_6, g_601_0, g_601_1, g_601_2, g_601_3, g_601_4, g_601_5, g_601_6, g_601_7, g_601_8, g_608_0, g_610_0, g_612_0, g_612_2, g_612_4, g_612_5, g_612_7, g_612_8, g_612_9, g_612_10, g_612_11, g_612_12, g_612_13, g_612_14, g_612_15, g_612_16, g_612_19, g_612_20, g_612_22, g_612_24, g_612_25, g_612_26, g_612_27, g_612_28, g_612_30, g_612_31, g_612_32, g_612_33, g_612_34, g_612_36, g_612_37, g_612_38, g_612_39, g_612_40, g_612_41, g_612_42, g_612_43, g_612_44, g_612_46, g_612_47, g_612_48, g_612_49, g_612_50, g_612_53, g_612_56, g_612_57, g_612_58, g_612_59, g_612_61, g_612_62, g_612_63, g_612_64, h0]
      refine ⟨fun c => ?_, fun c => ?_⟩
      · rw [show i = n by omega]; exact hQ
      · have ih' := ih (i + 1) (by omega) (by omega)
        rw [show dgF (σ.1 659) (i + 1) = 10 * dgF (σ.1 659) i + σ.1 659 i from rfl, show ((i + 1 : Nat) : Int) = (i : Int) + 1 by omega] at ih'
        have b := dgF_b (f := σ.1 659) i (fun k k0 k1 => hp k k0 (by omega))
        have b2 := hp i (by omega) (by omega)
        have b3 : (10 : Int) ^ i ≤ 10 ^ 7 := by
          have h := Nat.pow_le_pow_right (n := 10) (by decide) (show i ≤ 7 by omega)
          exact_mod_cast h
        exact ⟨by omega, by omega, by omega, ih'⟩
  unfold Z12_digits Z12_digits_4
  exact go NN 0 (by omega) (by unfold NN; omega)
