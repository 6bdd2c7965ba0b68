/-! the line: joints and what arrives -/
def jnL (A B C : Int → Int) (a b : Int) : Nat → Int
  | 0 => 0
  | j + 1 => if jnL A B C a b j = 0 then (if A j = a ∧ B j = b then C j else 0) else jnL A B C a b j
theorem jnL_keep {A B C : Int → Int} {a b : Int} {j : Nat} (h : ¬jnL A B C a b j = 0) : ∀ m : Nat, j ≤ m → jnL A B C a b m = jnL A B C a b j
  | 0, hm => by rw [show j = 0 by omega]
  | m + 1, hm => by
    by_cases c : j = m + 1
    · rw [c]
    · have ih := jnL_keep h m (by omega)
      rw [show jnL A B C a b (m + 1) = if jnL A B C a b m = 0 then (if A m = a ∧ B m = b then C m else 0) else jnL A B C a b m from rfl, if_neg (by rw [ih]; exact h), ih]
def joinI (τ : kzM) (t a b : Int) : Int := jnL (jnA τ t) (jnB τ t) (jnC τ t) a b (τ.1 623 t).toNat
theorem joinI_L {τ σ : kzM} (h : tabL τ σ) (t : Int) : joinI σ t = joinI τ t := by
  have e2 : σ.1 622 = τ.1 622 := funext fun x => h 622 x (by rw [md_3 (by decide)]; decide)
  have e3 : σ.1 623 t = τ.1 623 t := h 623 t (by rw [md_3 (by decide)]; decide)
  funext a b
  unfold joinI
  rw [e3, show jnA σ t = jnA τ t from funext fun j => by unfold jnA; rw [e2], show jnB σ t = jnB τ t from funext fun j => by unfold jnB; rw [e2], show jnC σ t = jnC τ t from funext fun j => by unfold jnC; rw [e2]]
set_option maxRecDepth 100000 in
theorem W8_jo_2 {T : Nat} {t a b : Int} {τ : kzM} (hT : isT T) (h : I3j τ T t) {Q : Int → kzM → Prop} (hQ : Q (joinI τ t a b) τ) : ∀ (N j : Nat), (j : Int) ≤ τ.1 (T + 7) 1 → (τ.1 (T + 7) 1).toNat - j < N → jnL (jnA τ t) (jnB τ t) (jnC τ t) a b j = 0 → Wz (lp (fun _ _ _ _ _ => none) (Z8_joined_2B kdG0) N T a b (j : Int)) τ Q := by
  unfold I3j at h
  obtain ⟨h1, h2, h3, h4, h5⟩ := h
  intro N
  induction N with
  | zero => intro j; intros; omega
  | succ N ih =>
    intro j j1 j2 hj
    rw [lp_succ]
    have ih' := ih (j + 1)
    generalize lp (fun _ _ _ _ _ => none) (Z8_joined_2B kdG0) N = L at ih' ⊢
    have k3 := gT3 hT
    have k5 := gT5 hT
    have k7 := gT7 hT
    rw [show ((j + 1 : Nat) : Int) = (j : Int) + 1 by omega] at ih'
    unfold Z8_joined_2B
    simp only [Z8_joined_46, Wz_rt, Wz_cnd, Wz_lI, Wz_lW, Wz_lL, Wz_cl, Wz_cv, Wz_nz, Wz_gI, Wz_gR, Wz_sI, Wz_aI, Wz_aZ, Wz_aL, Wz_aN, Wz_aR, Wz_tI, Wz_tZ, Wz_tL, Option.some.injEq, exists_eq_left', zB_0, zB_1, true_and, and_true, true_implies, not_true_eq_false, false_implies, not_false_eq_true, Classical.not_not, g_0, g_1, g_2, g_3, g_4, g_5, g_327, g_328, g_329, g_330, g_331, g_332, g_333, g_334, g_335, g_336, g_337, g_338, g_339, g_340, g_341, g_342, g_343, g_464, g_465, g_466, g_484, g_485, g_486, g_487, g_488, g_489, g_490, g_491, g_492, g_493, g_494, g_495, g_496, g_497, g_498, g_499, g_500, g_501, g_562, g_563, g_564, g_565, g_566, g_567, g_568, g_574, g_580, g_581, g_582, g_583, g_584, g_585, g_586, g_587, g_588, g_589, g_590, g_591, g_592, g_600, g_601, g_602, g_603, g_604, g_605, g_606, g_607, g_608, g_609, g_610, g_611, g_612, g_613, g_614, g_615, g_616, g_617, g_618, g_619, g_620, g_621, g_622, g_623, g_624, g_625, g_626, g_627, g_628, g_629, g_630, g_631, g_632, g_633, g_634, g_635, g_636, g_637, g_638, g_639, g_640, g_641, g_642, g_643, g_644, g_645, g_646, g_647, g_648, g_649, g_650, g_651, g_652, g_653, g_654, g_655, g_656, g_657, g_658, g_659, g_660, g_661, g_662, g_0_0, g_0_1, g_0_2, g_0_3, g_0_4, g_0_5, g_0_6, g_0_7, g_0_8, g_0_9, g_0_10, g_0_11, g_1_0, g_3_0, g_327_0, g_327_1, g_327_2, g_327_3, g_328_0, g_330_0, g_332_0, g_334_0, g_336_0, g_336_1, g_336_2, g_336_3, g_337_0, g_339_0, g_341_0, g_464_0, g_464_1, g_484_0, g_484_1, g_484_2, g_485_0, g_487_0, g_489_0, g_491_0, g_491_1, g_491_2, g_491_3, g_491_4, g_491_5, g_491_6, g_491_7, g_496_0, g_498_0, g_500_0, g_500_1, g_500_3, g_500_4, g_500_5, g_500_6, g_500_7, g_562_0, g_564_0, g_566_0, g_580_0, g_580_1, g_580_2, g_580_3, g_581_0, g_583_0, g_585_0, g_588_1, g_588_2, g_588_3, g_588_4, g_588_6, g_601_0, g_601_1, g_601_2, g_601_3, g_601_4, g_601_5, g_601_6, g_601_7, g_601_8, g_608_0, g_610_0, g_612_0, g_612_2, g_612_4, g_612_5, g_612_7, g_612_8, g_612_9, g_612_10, g_612_11, g_612_12, g_612_13, g_612_14, g_612_15, g_612_16, g_612_19, g_612_20, g_612_22, g_612_24, g_612_25, g_612_26, g_612_27, g_612_28, g_612_30, g_612_31, g_612_32, g_612_33, g_612_34, g_612_36, g_612_37, g_612_38, g_612_39, g_612_40, g_612_41, g_612_42, g_612_43, g_612_44, g_612_46, g_612_47, g_612_48, g_612_49, g_612_50, g_612_53, g_612_56, g_612_57, g_612_58, g_612_59, g_612_61, g_612_62, g_612_63, g_612_64, gT hT, k3.1, k5.1, k7.1, W_size k7, W_at k3 (show τ.1 (T + 3) 1 ≤ ((12 : Nat) : Int) by omega), W_at k5 (show τ.1 (T + 5) 1 ≤ ((12 : Nat) : Int) by omega), W_at k7 (show τ.1 (T + 7) 1 ≤ ((12 : Nat) : Int) by omega)]
    by_cases c : τ.1 (T + 7) 1 ≤ j
    · refine ⟨fun _ => ?_, fun d => absurd c d⟩
      unfold joinI at hQ
      rw [h4, show (τ.1 (T + 7) 1).toNat = j by omega, hj] at hQ
      exact hQ
    · have e := h5 j (by omega) (by omega)
      rw [h2, h3, if_pos (by omega), if_pos (by omega), if_pos (by omega)]
      refine ⟨fun d => absurd d c, fun _ => ?_⟩
      have ea : jnA τ t j = τ.1 (T + 3 + 1) j := e.1.2
      have eb : jnB τ t j = τ.1 (T + 5 + 1) j := e.2.1.2
      have ec : jnC τ t j = τ.1 (T + 7 + 1) j := e.2.2.2
      have es : jnL (jnA τ t) (jnB τ t) (jnC τ t) a b (j + 1) = if jnA τ t j = a ∧ jnB τ t j = b then jnC τ t j else 0 := by
        rw [jnL, if_pos hj]
      refine ⟨fun x => ⟨fun y => ?_, fun y => ⟨by omega, ih' (by omega) (by omega) (by rw [es, if_neg (by rw [eb]; exact fun z => y z.2)])⟩⟩, fun x => ⟨by omega, ih' (by omega) (by omega) (by rw [es, if_neg (by rw [ea]; exact fun z => x z.1)])⟩⟩
      rw [if_pos ⟨by rw [ea]; exact x, by rw [eb]; exact y⟩] at es
      have := jnL_keep (A := jnA τ t) (B := jnB τ t) (C := jnC τ t) (a := a) (b := b) (j := j + 1) (by rw [es, ec]; have := e.2.2.1.1; show ¬τ.1 (T + 8) j = 0; omega) (τ.1 (T + 7) 1).toNat (by omega)
      unfold joinI at hQ
      rw [h4, this, es, ec] at hQ
      exact hQ
set_option maxRecDepth 100000 in
theorem W8_joined {T : Nat} {t a b : Int} {τ : kzM} (hT : isT T) (h : I3j τ T t) {Q : Int → kzM → Prop} (hQ : Q (joinI τ t a b) τ) : Wz (Z8_joined kdG0 T a b) τ Q := by
  unfold Z8_joined Z8_joined_2
  have h1 := h.1
  exact W8_jo_2 hT h hQ NN 0 (by omega) (by unfold NN; omega) rfl
set_option maxRecDepth 100000 in
theorem W12_jo_2 {T : Nat} {t a b : Int} {τ : kzM} (t0 : 0 ≤ t) (t3 : t < 3) (h18 : τ.1 612 18 = t) (h : I3j τ T t) {Q : Int → kzM → Prop} (hQ : Q (joinI τ t a b) τ) : ∀ (N j : Nat), (j : Int) ≤ τ.1 (T + 7) 1 → (τ.1 (T + 7) 1).toNat - j < N → jnL (jnA τ t) (jnB τ t) (jnC τ t) a b j = 0 → Wz (lp (fun _ _ _ _ _ => none) (Z12_joinOf_2B kdG0) N 612 a b (j : Int)) τ Q := by
  unfold I3j at h
  obtain ⟨h1, h2, h3, h4, h5⟩ := h
  intro N
  induction N with
  | zero => intro j; intros; omega
  | succ N ih =>
    intro j j1 j2 hj
    rw [lp_succ]
    have ih' := ih (j + 1)
    generalize lp (fun _ _ _ _ _ => none) (Z12_joinOf_2B kdG0) N = L at ih' ⊢
    rw [show ((j + 1 : Nat) : Int) = (j : Int) + 1 by omega] at ih'
    have ea : τ.1 622 (3 * (12 * t + j)) = jnA τ t j := rfl
    have eb : τ.1 622 (3 * (12 * t + j) + 1) = jnB τ t j := rfl
    have ec : τ.1 622 (3 * (12 * t + j) + 2) = jnC τ t j := rfl
    unfold Z12_joinOf_2B
    simp only [Z12_joinOf_62, Wz_rt, Wz_cnd, Wz_lI, Wz_lW, Wz_lL, Wz_cl, Wz_cv, Wz_nz, Wz_gI, Wz_gR, Wz_sI, Wz_aI, Wz_aZ, Wz_aL, Wz_aN, Wz_aR, Wz_tI, Wz_tZ, Wz_tL, Option.some.injEq, exists_eq_left', zB_0, zB_1, true_and, and_true, true_implies, not_true_eq_false, false_implies, not_false_eq_true, Classical.not_not, g_0, g_1, g_2, g_3, g_4, g_5, g_327, g_328, g_329, g_330, g_331, g_332, g_333, g_334, g_335, g_336, g_337, g_338, g_339, g_340, g_341, g_342, g_343, g_464, g_465, g_466, g_484, g_485, g_486, g_487, g_488, g_489, g_490, g_491, g_492, g_493, g_494, g_495, g_496, g_497, g_498, g_499, g_500, g_501, g_562, g_563, g_564, g_565, g_566, g_567, g_568, g_574, g_580, g_581, g_582, g_583, g_584, g_585, g_586, g_587, g_588, g_589, g_590, g_591, g_592, g_600, g_601, g_602, g_603, g_604, g_605, g_606, g_607, g_608, g_609, g_610, g_611, g_612, g_613, g_614, g_615, g_616, g_617, g_618, g_619, g_620, g_621, g_622, g_623, g_624, g_625, g_626, g_627, g_628, g_629, g_630, g_631, g_632, g_633, g_634, g_635, g_636, g_637, g_638, g_639, g_640, g_641, g_642, g_643, g_644, g_645, g_646, g_647, g_648, g_649, g_650, g_651, g_652, g_653, g_654, g_655, g_656, g_657, g_658, g_659, g_660, g_661, g_662, g_0_0, g_0_1, g_0_2, g_0_3, g_0_4, g_0_5, g_0_6, g_0_7, g_0_8, g_0_9, g_0_10, g_0_11, g_1_0, g_3_0, g_327_0, g_327_1, g_327_2, g_327_3, g_328_0, g_330_0, g_332_0, g_334_0, g_336_0, g_336_1, g_336_2, g_336_3, g_337_0, g_339_0, g_341_0, g_464_0, g_464_1, g_484_0, g_484_1, g_484_2, g_485_0, g_487_0, g_489_0, g_491_0, g_491_1, g_491_2, g_491_3, g_491_4, g_491_5, g_491_6, g_491_7, g_496_0, g_498_0, g_500_0, g_500_1, g_500_3, g_500_4, g_500_5, g_500_6, g_500_7, g_562_0, g_564_0, g_566_0, g_580_0, g_580_1, g_580_2, g_580_3, g_581_0, g_583_0, g_585_0, g_588_1, g_588_2, g_588_3, g_588_4, g_588_6, g_601_0, g_601_1, g_601_2, g_601_3, g_601_4, g_601_5, g_601_6, g_601_7, g_601_8, g_608_0, g_610_0, g_612_0, g_612_2, g_612_4, g_612_5, g_612_7, g_612_8, g_612_9, g_612_10, g_612_11, g_612_12, g_612_13, g_612_14, g_612_15, g_612_16, g_612_19, g_612_20, g_612_22, g_612_24, g_612_25, g_612_26, g_612_27, g_612_28, g_612_30, g_612_31, g_612_32, g_612_33, g_612_34, g_612_36, g_612_37, g_612_38, g_612_39, g_612_40, g_612_41, g_612_42, g_612_43, g_612_44, g_612_46, g_612_47, g_612_48, g_612_49, g_612_50, g_612_53, g_612_56, g_612_57, g_612_58, g_612_59, g_612_61, g_612_62, g_612_63, g_612_64, h18, h4, ea, eb, ec]
    by_cases c : τ.1 (T + 7) 1 ≤ j
    · refine ⟨by omega, fun _ => ?_, fun d => absurd c d⟩
      unfold joinI at hQ
      rw [h4, show (τ.1 (T + 7) 1).toNat = j by omega, hj] at hQ
      exact hQ
    · have e := h5 j (by omega) (by omega)
      have es : jnL (jnA τ t) (jnB τ t) (jnC τ t) a b (j + 1) = if jnA τ t j = a ∧ jnB τ t j = b then jnC τ t j else 0 := by
        rw [jnL, if_pos hj]
      refine ⟨by omega, fun d => absurd d c, fun _ => ⟨by omega, by omega, fun x => ⟨by omega, fun y => ⟨by omega, ?_⟩, fun y => ⟨by omega, ih' (by omega) (by omega) (by rw [es, if_neg (fun z => y z.2)])⟩⟩, fun x => ⟨by omega, ih' (by omega) (by omega) (by rw [es, if_neg (fun z => x z.1)])⟩⟩⟩
      rw [if_pos ⟨x, y⟩] at es
      have := jnL_keep (A := jnA τ t) (B := jnB τ t) (C := jnC τ t) (a := a) (b := b) (j := j + 1) (by rw [es, show jnC τ t j = τ.1 (T + 8) j from e.2.2.2]; omega) (τ.1 (T + 7) 1).toNat (by omega)
      unfold joinI at hQ
      rw [h4, this, es] at hQ
      exact hQ
set_option maxRecDepth 100000 in
theorem W12_joinOf {T : Nat} {t a b : Int} {τ : kzM} (t0 : 0 ≤ t) (t3 : t < 3) (h18 : τ.1 612 18 = t) (h : I3j τ T t) {Q : Int → kzM → Prop} (hQ : Q (joinI τ t a b) τ) : Wz (Z12_joinOf kdG0 612 a b) τ Q := by
  unfold Z12_joinOf Z12_joinOf_2
  have h1 := h.1
  exact W12_jo_2 t0 t3 h18 h hQ NN 0 (by omega) (by unfold NN; omega) rfl
theorem joinI_b {T : Nat} {t a b : Int} {τ : kzM} (h : I3j τ T t) : 0 ≤ joinI τ t a b ∧ (a ≤ 0 → joinI τ t a b = 0) := by
  unfold I3j at h
  obtain ⟨h1, h2, h3, h4, h5⟩ := h
  have go : ∀ j : Nat, (j : Int) ≤ τ.1 (T + 7) 1 → 0 ≤ jnL (jnA τ t) (jnB τ t) (jnC τ t) a b j ∧ (a ≤ 0 → jnL (jnA τ t) (jnB τ t) (jnC τ t) a b j = 0) := by
    intro j
    induction j with
    | zero => exact fun _ => ⟨Int.le_refl _, fun _ => rfl⟩
    | succ j ih =>
      intro hj
      have e := h5 j (by omega) (by omega)
      have ea : jnA τ t j = τ.1 (T + 4) j := e.1.2
      have ec : jnC τ t j = τ.1 (T + 8) j := e.2.2.2
      have i := ih (by omega)
      rw [jnL]
      by_cases c : jnL (jnA τ t) (jnB τ t) (jnC τ t) a b j = 0
      · rw [if_pos c]
        by_cases d : jnA τ t j = a ∧ jnB τ t j = b
        · rw [if_pos d]
          exact ⟨by omega, fun z => by omega⟩
        · rw [if_neg d]; exact ⟨Int.le_refl _, fun _ => rfl⟩
      · rw [if_neg c]; exact i
  unfold joinI
  rw [h4]
  exact go _ (by omega)
/-- signs: the last is the first of the list -/
def comeL (J : Int → Int → Int) : List Int → Int → List Int
  | [], x => [x]
  | a :: s, x => if J a x = 0 then x :: a :: s else comeL J s (J a x)
theorem comeL_len (J : Int → Int → Int) : ∀ (s : List Int) (x : Int), (comeL J s x).length ≤ s.length + 1
  | [], x => Nat.le_refl _
  | a :: s, x => by
    unfold comeL
    split
    · exact Nat.le_refl _
    · have := comeL_len J s (J a x)
      rw [List.length_cons]; omega
def topJ (J : Int → Int → Int) : List Int → Int → Int
  | [], _ => 0
  | a :: _, x => J a x
theorem comeL_0 {J : Int → Int → Int} {s : List Int} {x : Int} (h : topJ J s x = 0) : comeL J s x = x :: s := by
  cases s with
  | nil => rfl
  | cons a s => exact if_pos h
def stk (f : Int → Int) : List Int → Prop
  | [] => True
  | a :: s => f s.length = a ∧ stk f s
theorem stk_cg {f g : Int → Int} : ∀ s : List Int, (∀ i : Int, 0 ≤ i → i < s.length → f i = g i) → stk f s → stk g s
  | [], _, _ => trivial
  | a :: s, h, k => ⟨by rw [← h s.length (by omega) (by rw [List.length_cons]; omega)]; exact k.1, stk_cg s (fun i i0 i1 => h i i0 (by rw [List.length_cons]; omega)) k.2⟩
theorem stk_eq {f g : Int → Int} : ∀ s : List Int, stk f s → stk g s → ∀ i : Int, 0 ≤ i → i < s.length → f i = g i
  | [], _, _, i, i0, i1 => absurd i1 (by rw [List.length_nil]; omega)
  | a :: s, h, k, i, i0, i1 => by
    by_cases c : i = s.length
    · rw [c, h.1, k.1]
    · exact stk_eq s h.2 k.2 i i0 (by rw [List.length_cons] at i1; omega)
def onS (τ σ : kzM) : Prop := ∀ a x, a ≠ 334 → a ≠ 335 → σ.1 a x = τ.1 a x
theorem tabL.onS {τ σ ρ : kzM} (h : tabL τ σ) (k : onS σ ρ) : tabL τ ρ := fun a x z => (k a x (fun q => z (by rw [q]; rfl)) (fun q => z (by rw [q]; rfl))).trans (h a x z)
set_option maxRecDepth 100000 in
theorem Inv.j3 {τ : kzM} (hI : Inv τ) : I3j τ (6 + 107 * (τ.1 327 4).toNat) (τ.1 327 4) ∧ I3r τ (6 + 107 * (τ.1 327 4).toNat) (τ.1 327 4) ∧ isT (6 + 107 * (τ.1 327 4).toNat) ∧ lineP τ ∧ (0 ≤ τ.1 327 4 ∧ τ.1 327 4 < 3) ∧ τ.1 612 18 = τ.1 327 4 := by
  have i3 := hI.2.2.1
  have i4 := hI.2.2.2.1
  unfold I4 at i4
  have k := i3 (τ.1 327 4) i4.1.1 (by omega)
  exact ⟨k.2.1, k.1, (g_to i4.1.1 (by omega)).2, ⟨i4.2.2.1, i4.2.2.2⟩, by omega, i4.2.1⟩
set_option maxRecDepth 100000 in
theorem W4_top {τ σ : kzM} (hI : Inv τ) (hL : tabL τ σ) {s : List Int} {x : Int} (h1 : σ.1 334 1 = s.length) (h2 : s.length ≤ 120) (h3 : stk (σ.1 335) s) {Q : Int → kzM → Prop} (hQ : Q (topJ (joinI τ (τ.1 327 4)) s x) σ) : Wz (Z4_jointWithLast kdG0 327 (6 + 107 * (τ.1 327 4).toNat) x) σ Q := by
  have h4 : σ.1 327 4 = τ.1 327 4 := hL 327 4 (by decide)
  obtain ⟨k1, _, k3, _, _, _⟩ := (hI.tabL hL).j3
  rw [h4] at k1 k3
  cases s with
  | nil =>
    rw [List.length_nil] at h1
    simp only [Z4_jointWithLast, Z4_jointWithLast_35, zp_0, W_size r_1, W_isEmpty r_1, W_isFull r_1, W_has r_1, W_clear r_1, W_size r_3, W_isEmpty r_3, W_isFull r_3, W_has r_3, W_clear r_3, W_size r_328, W_isEmpty r_328, W_isFull r_328, W_has r_328, W_clear r_328, W_size r_330, W_isEmpty r_330, W_isFull r_330, W_has r_330, W_clear r_330, W_size r_332, W_isEmpty r_332, W_isFull r_332, W_has r_332, W_clear r_332, W_size r_334, W_isEmpty r_334, W_isFull r_334, W_has r_334, W_clear r_334, W_size r_337, W_isEmpty r_337, W_isFull r_337, W_has r_337, W_clear r_337, W_size r_339, W_isEmpty r_339, W_isFull r_339, W_has r_339, W_clear r_339, W_size r_341, W_isEmpty r_341, W_isFull r_341, W_has r_341, W_clear r_341, W_size r_485, W_isEmpty r_485, W_isFull r_485, W_has r_485, W_clear r_485, W_size r_487, W_isEmpty r_487, W_isFull r_487, W_has r_487, W_clear r_487, W_size r_489, W_isEmpty r_489, W_isFull r_489, W_has r_489, W_clear r_489, W_size r_496, W_isEmpty r_496, W_isFull r_496, W_has r_496, W_clear r_496, W_size r_498, W_isEmpty r_498, W_isFull r_498, W_has r_498, W_clear r_498, W_size r_562, W_isEmpty r_562, W_isFull r_562, W_has r_562, W_clear r_562, W_size r_564, W_isEmpty r_564, W_isFull r_564, W_has r_564, W_clear r_564, W_size r_566, W_isEmpty r_566, W_isFull r_566, W_has r_566, W_clear r_566, W_size r_581, W_isEmpty r_581, W_isFull r_581, W_has r_581, W_clear r_581, W_size r_583, W_isEmpty r_583, W_isFull r_583, W_has r_583, W_clear r_583, W_size r_585, W_isEmpty r_585, W_isFull r_585, W_has r_585, W_clear r_585, W_size r_608, W_isEmpty r_608, W_isFull r_608, W_has r_608, W_clear r_608, W_size r_610, W_isEmpty r_610, W_isFull r_610, W_has r_610, W_clear r_610, Wz_rt, Wz_cnd, Wz_lI, Wz_lW, Wz_lL, Wz_cl, Wz_cv, Wz_nz, Wz_gI, Wz_gR, Wz_sI, Wz_aI, Wz_aZ, Wz_aL, Wz_aN, Wz_aR, Wz_tI, Wz_tZ, Wz_tL, Option.some.injEq, exists_eq_left', zB_0, zB_1, true_and, and_true, true_implies, not_true_eq_false, false_implies, not_false_eq_true, Classical.not_not, g_0, g_1, g_2, g_3, g_4, g_5, g_327, g_328, g_329, g_330, g_331, g_332, g_333, g_334, g_335, g_336, g_337, g_338, g_339, g_340, g_341, g_342, g_343, g_464, g_465, g_466, g_484, g_485, g_486, g_487, g_488, g_489, g_490, g_491, g_492, g_493, g_494, g_495, g_496, g_497, g_498, g_499, g_500, g_501, g_562, g_563, g_564, g_565, g_566, g_567, g_568, g_574, g_580, g_581, g_582, g_583, g_584, g_585, g_586, g_587, g_588, g_589, g_590, g_591, g_592, g_600, g_601, g_602, g_603, g_604, g_605, g_606, g_607, g_608, g_609, g_610, g_611, g_612, g_613, g_614, g_615, g_616, g_617, g_618, g_619, g_620, g_621, g_622, g_623, g_624, g_625, g_626, g_627, g_628, g_629, g_630, g_631, g_632, g_633, g_634, g_635, g_636, g_637, g_638, g_639, g_640, g_641, g_642, g_643, g_644, g_645, g_646, g_647, g_648, g_649, g_650, g_651, g_652, g_653, g_654, g_655, g_656, g_657, g_658, g_659, g_660, g_661, g_662, g_0_0, g_0_1, g_0_2, g_0_3, g_0_4, g_0_5, g_0_6, g_0_7, g_0_8, g_0_9, g_0_10, g_0_11, g_1_0, g_3_0, g_327_0, g_327_1, g_327_2, g_327_3, g_328_0, g_330_0, g_332_0, g_334_0, g_336_0, g_336_1, g_336_2, g_336_3, g_337_0, g_339_0, g_341_0, g_464_0, g_464_1, g_484_0, g_484_1, g_484_2, g_485_0, g_487_0, g_489_0, g_491_0, g_491_1, g_491_2, g_491_3, g_491_4, g_491_5, g_491_6, g_491_7, g_496_0, g_498_0, g_500_0, g_500_1, g_500_3, g_500_4, g_500_5, g_500_6, g_500_7, g_562_0, g_564_0, g_566_0, g_580_0, g_580_1, g_580_2, g_580_3, g_581_0, g_583_0, g_585_0, g_588_1, g_588_2, g_588_3, g_588_4, g_588_6, g_601_0, g_601_1, g_601_2, g_601_3, g_601_4, g_601_5, g_601_6, g_601_7, g_601_8, g_608_0, g_610_0, g_612_0, g_612_2, g_612_4, g_612_5, g_612_7, g_612_8, g_612_9, g_612_10, g_612_11, g_612_12, g_612_13, g_612_14, g_612_15, g_612_16, g_612_19, g_612_20, g_612_22, g_612_24, g_612_25, g_612_26, g_612_27, g_612_28, g_612_30, g_612_31, g_612_32, g_612_33, g_612_34, g_612_36, g_612_37, g_612_38, g_612_39, g_612_40, g_612_41, g_612_42, g_612_43, g_612_44, g_612_46, g_612_47, g_612_48, g_612_49, g_612_50, g_612_53, g_612_56, g_612_57, g_612_58, g_612_59, g_612_61, g_612_62, g_612_63, g_612_64, gT k3]
    exact ⟨fun z => absurd h1 z, fun _ => hQ⟩
  | cons a s =>
    rw [List.length_cons] at h1 h2
    simp only [Z4_jointWithLast, Z4_jointWithLast_35, zp_0, W_size r_1, W_isEmpty r_1, W_isFull r_1, W_has r_1, W_clear r_1, W_size r_3, W_isEmpty r_3, W_isFull r_3, W_has r_3, W_clear r_3, W_size r_328, W_isEmpty r_328, W_isFull r_328, W_has r_328, W_clear r_328, W_size r_330, W_isEmpty r_330, W_isFull r_330, W_has r_330, W_clear r_330, W_size r_332, W_isEmpty r_332, W_isFull r_332, W_has r_332, W_clear r_332, W_size r_334, W_isEmpty r_334, W_isFull r_334, W_has r_334, W_clear r_334, W_size r_337, W_isEmpty r_337, W_isFull r_337, W_has r_337, W_clear r_337, W_size r_339, W_isEmpty r_339, W_isFull r_339, W_has r_339, W_clear r_339, W_size r_341, W_isEmpty r_341, W_isFull r_341, W_has r_341, W_clear r_341, W_size r_485, W_isEmpty r_485, W_isFull r_485, W_has r_485, W_clear r_485, W_size r_487, W_isEmpty r_487, W_isFull r_487, W_has r_487, W_clear r_487, W_size r_489, W_isEmpty r_489, W_isFull r_489, W_has r_489, W_clear r_489, W_size r_496, W_isEmpty r_496, W_isFull r_496, W_has r_496, W_clear r_496, W_size r_498, W_isEmpty r_498, W_isFull r_498, W_has r_498, W_clear r_498, W_size r_562, W_isEmpty r_562, W_isFull r_562, W_has r_562, W_clear r_562, W_size r_564, W_isEmpty r_564, W_isFull r_564, W_has r_564, W_clear r_564, W_size r_566, W_isEmpty r_566, W_isFull r_566, W_has r_566, W_clear r_566, W_size r_581, W_isEmpty r_581, W_isFull r_581, W_has r_581, W_clear r_581, W_size r_583, W_isEmpty r_583, W_isFull r_583, W_has r_583, W_clear r_583, W_size r_585, W_isEmpty r_585, W_isFull r_585, W_has r_585, W_clear r_585, W_size r_608, W_isEmpty r_608, W_isFull r_608, W_has r_608, W_clear r_608, W_size r_610, W_isEmpty r_610, W_isFull r_610, W_has r_610, W_clear r_610, Wz_rt, Wz_cnd, Wz_lI, Wz_lW, Wz_lL, Wz_cl, Wz_cv, Wz_nz, Wz_gI, Wz_gR, Wz_sI, Wz_aI, Wz_aZ, Wz_aL, Wz_aN, Wz_aR, Wz_tI, Wz_tZ, Wz_tL, Option.some.injEq, exists_eq_left', zB_0, zB_1, true_and, and_true, true_implies, not_true_eq_false, false_implies, not_false_eq_true, Classical.not_not, g_0, g_1, g_2, g_3, g_4, g_5, g_327, g_328, g_329, g_330, g_331, g_332, g_333, g_334, g_335, g_336, g_337, g_338, g_339, g_340, g_341, g_342, g_343, g_464, g_465, g_466, g_484, g_485, g_486, g_487, g_488, g_489, g_490, g_491, g_492, g_493, g_494, g_495, g_496, g_497, g_498, g_499, g_500, g_501, g_562, g_563, g_564, g_565, g_566, g_567, g_568, g_574, g_580, g_581, g_582, g_583, g_584, g_585, g_586, g_587, g_588, g_589, g_590, g_591, g_592, g_600, g_601, g_602, g_603, g_604, g_605, g_606, g_607, g_608, g_609, g_610, g_611, g_612, g_613, g_614, g_615, g_616, g_617, g_618, g_619, g_620, g_621, g_622, g_623, g_624, g_625, g_626, g_627, g_628, g_629, g_630, g_631, g_632, g_633, g_634, g_635, g_636, g_637, g_638, g_639, g_640, g_641, g_642, g_643, g_644, g_645, g_646, g_647, g_648, g_649, g_650, g_651, g_652, g_653, g_654, g_655, g_656, g_657, g_658, g_659, g_660, g_661, g_662, g_0_0, g_0_1, g_0_2, g_0_3, g_0_4, g_0_5, g_0_6, g_0_7, g_0_8, g_0_9, g_0_10, g_0_11, g_1_0, g_3_0, g_327_0, g_327_1, g_327_2, g_327_3, g_328_0, g_330_0, g_332_0, g_334_0, g_336_0, g_336_1, g_336_2, g_336_3, g_337_0, g_339_0, g_341_0, g_464_0, g_464_1, g_484_0, g_484_1, g_484_2, g_485_0, g_487_0, g_489_0, g_491_0, g_491_1, g_491_2, g_491_3, g_491_4, g_491_5, g_491_6, g_491_7, g_496_0, g_498_0, g_500_0, g_500_1, g_500_3, g_500_4, g_500_5, g_500_6, g_500_7, g_562_0, g_564_0, g_566_0, g_580_0, g_580_1, g_580_2, g_580_3, g_581_0, g_583_0, g_585_0, g_588_1, g_588_2, g_588_3, g_588_4, g_588_6, g_601_0, g_601_1, g_601_2, g_601_3, g_601_4, g_601_5, g_601_6, g_601_7, g_601_8, g_608_0, g_610_0, g_612_0, g_612_2, g_612_4, g_612_5, g_612_7, g_612_8, g_612_9, g_612_10, g_612_11, g_612_12, g_612_13, g_612_14, g_612_15, g_612_16, g_612_19, g_612_20, g_612_22, g_612_24, g_612_25, g_612_26, g_612_27, g_612_28, g_612_30, g_612_31, g_612_32, g_612_33, g_612_34, g_612_36, g_612_37, g_612_38, g_612_39, g_612_40, g_612_41, g_612_42, g_612_43, g_612_44, g_612_46, g_612_47, g_612_48, g_612_49, g_612_50, g_612_53, g_612_56, g_612_57, g_612_58, g_612_59, g_612_61, g_612_62, g_612_63, g_612_64, gT k3, W_at r_334 (show σ.1 334 1 ≤ ((120 : Nat) : Int) by omega)]
    refine ⟨fun _ => ⟨by omega, ?_⟩, fun z => absurd z (by omega)⟩
    rw [if_pos (by omega), show σ.1 334 1 - 1 = s.length by omega, h3.1]
    refine W8_joined k3 k1 ?_
    rw [joinI_L hL]
    exact hQ
set_option maxRecDepth 100000 in
theorem W4_ar_10 {τ : kzM} (hI : Inv τ) {Q : Unit → kzM → Prop} : ∀ (s : List Int) (N : Nat) (x : Int) (σ : kzM), s.length < N → s.length < 120 → tabL τ σ → σ.1 334 1 = s.length → stk (σ.1 335) s → (∀ ρ, onS σ ρ → ρ.1 334 1 = (comeL (joinI τ (τ.1 327 4)) s x).length → stk (ρ.1 335) (comeL (joinI τ (τ.1 327 4)) s x) → Q () ρ) → Wz (lp (fun _ _ _ _ _ => none) (Z4_arrive_10B kdG0) N 327 (6 + 107 * (τ.1 327 4).toNat) x (topJ (joinI τ (τ.1 327 4)) s x)) σ Q := by
  intro s
  induction s with
  | nil =>
    intro N x σ hN hc hL h1 h2 hQ
    obtain ⟨N, rfl⟩ : ∃ M, N = M + 1 := ⟨N - 1, by omega⟩
    rw [lp_succ]
    generalize lp (fun _ _ _ _ _ => none) (Z4_arrive_10B kdG0) N = L
    rw [List.length_nil] at h1
    generalize hk : topJ (joinI τ (τ.1 327 4)) [] x = k
    unfold Z4_arrive_10B
    simp only [Z4_arrive_56, zp_0, W_size r_1, W_isEmpty r_1, W_isFull r_1, W_has r_1, W_clear r_1, W_size r_3, W_isEmpty r_3, W_isFull r_3, W_has r_3, W_clear r_3, W_size r_328, W_isEmpty r_328, W_isFull r_328, W_has r_328, W_clear r_328, W_size r_330, W_isEmpty r_330, W_isFull r_330, W_has r_330, W_clear r_330, W_size r_332, W_isEmpty r_332, W_isFull r_332, W_has r_332, W_clear r_332, W_size r_334, W_isEmpty r_334, W_isFull r_334, W_has r_334, W_clear r_334, W_size r_337, W_isEmpty r_337, W_isFull r_337, W_has r_337, W_clear r_337, W_size r_339, W_isEmpty r_339, W_isFull r_339, W_has r_339, W_clear r_339, W_size r_341, W_isEmpty r_341, W_isFull r_341, W_has r_341, W_clear r_341, W_size r_485, W_isEmpty r_485, W_isFull r_485, W_has r_485, W_clear r_485, W_size r_487, W_isEmpty r_487, W_isFull r_487, W_has r_487, W_clear r_487, W_size r_489, W_isEmpty r_489, W_isFull r_489, W_has r_489, W_clear r_489, W_size r_496, W_isEmpty r_496, W_isFull r_496, W_has r_496, W_clear r_496, W_size r_498, W_isEmpty r_498, W_isFull r_498, W_has r_498, W_clear r_498, W_size r_562, W_isEmpty r_562, W_isFull r_562, W_has r_562, W_clear r_562, W_size r_564, W_isEmpty r_564, W_isFull r_564, W_has r_564, W_clear r_564, W_size r_566, W_isEmpty r_566, W_isFull r_566, W_has r_566, W_clear r_566, W_size r_581, W_isEmpty r_581, W_isFull r_581, W_has r_581, W_clear r_581, W_size r_583, W_isEmpty r_583, W_isFull r_583, W_has r_583, W_clear r_583, W_size r_585, W_isEmpty r_585, W_isFull r_585, W_has r_585, W_clear r_585, W_size r_608, W_isEmpty r_608, W_isFull r_608, W_has r_608, W_clear r_608, W_size r_610, W_isEmpty r_610, W_isFull r_610, W_has r_610, W_clear r_610, Wz_rt, Wz_cnd, Wz_lI, Wz_lW, Wz_lL, Wz_cl, Wz_cv, Wz_nz, Wz_gI, Wz_gR, Wz_sI, Wz_aI, Wz_aZ, Wz_aL, Wz_aN, Wz_aR, Wz_tI, Wz_tZ, Wz_tL, Option.some.injEq, exists_eq_left', zB_0, zB_1, true_and, and_true, true_implies, not_true_eq_false, false_implies, not_false_eq_true, Classical.not_not, g_0, g_1, g_2, g_3, g_4, g_5, g_327, g_328, g_329, g_330, g_331, g_332, g_333, g_334, g_335, g_336, g_337, g_338, g_339, g_340, g_341, g_342, g_343, g_464, g_465, g_466, g_484, g_485, g_486, g_487, g_488, g_489, g_490, g_491, g_492, g_493, g_494, g_495, g_496, g_497, g_498, g_499, g_500, g_501, g_562, g_563, g_564, g_565, g_566, g_567, g_568, g_574, g_580, g_581, g_582, g_583, g_584, g_585, g_586, g_587, g_588, g_589, g_590, g_591, g_592, g_600, g_601, g_602, g_603, g_604, g_605, g_606, g_607, g_608, g_609, g_610, g_611, g_612, g_613, g_614, g_615, g_616, g_617, g_618, g_619, g_620, g_621, g_622, g_623, g_624, g_625, g_626, g_627, g_628, g_629, g_630, g_631, g_632, g_633, g_634, g_635, g_636, g_637, g_638, g_639, g_640, g_641, g_642, g_643, g_644, g_645, g_646, g_647, g_648, g_649, g_650, g_651, g_652, g_653, g_654, g_655, g_656, g_657, g_658, g_659, g_660, g_661, g_662, g_0_0, g_0_1, g_0_2, g_0_3, g_0_4, g_0_5, g_0_6, g_0_7, g_0_8, g_0_9, g_0_10, g_0_11, g_1_0, g_3_0, g_327_0, g_327_1, g_327_2, g_327_3, g_328_0, g_330_0, g_332_0, g_334_0, g_336_0, g_336_1, g_336_2, g_336_3, g_337_0, g_339_0, g_341_0, g_464_0, g_464_1, g_484_0, g_484_1, g_484_2, g_485_0, g_487_0, g_489_0, g_491_0, g_491_1, g_491_2, g_491_3, g_491_4, g_491_5, g_491_6, g_491_7, g_496_0, g_498_0, g_500_0, g_500_1, g_500_3, g_500_4, g_500_5, g_500_6, g_500_7, g_562_0, g_564_0, g_566_0, g_580_0, g_580_1, g_580_2, g_580_3, g_581_0, g_583_0, g_585_0, g_588_1, g_588_2, g_588_3, g_588_4, g_588_6, g_601_0, g_601_1, g_601_2, g_601_3, g_601_4, g_601_5, g_601_6, g_601_7, g_601_8, g_608_0, g_610_0, g_612_0, g_612_2, g_612_4, g_612_5, g_612_7, g_612_8, g_612_9, g_612_10, g_612_11, g_612_12, g_612_13, g_612_14, g_612_15, g_612_16, g_612_19, g_612_20, g_612_22, g_612_24, g_612_25, g_612_26, g_612_27, g_612_28, g_612_30, g_612_31, g_612_32, g_612_33, g_612_34, g_612_36, g_612_37, g_612_38, g_612_39, g_612_40, g_612_41, g_612_42, g_612_43, g_612_44, g_612_46, g_612_47, g_612_48, g_612_49, g_612_50, g_612_53, g_612_56, g_612_57, g_612_58, g_612_59, g_612_61, g_612_62, g_612_63, g_612_64]
    refine ⟨fun _ => ?_, fun c => absurd hk.symm c⟩
    refine W_add r_334 (by omega) (by omega) (by decide) (hQ _ (fun a y e1 e2 => ?_) ?_ ⟨?_, trivial⟩)
    · simp only [addF, v2_ne _ _ _ _ e1, v2_ne _ _ _ _ e2]
    · simp only [addF, v2_self, h1]; rfl
    · simp only [addF, h1, v2_eq]; rfl
  | cons a s ih =>
    intro N x σ hN hc hL h1 h2 hQ
    rw [List.length_cons] at hN hc h1
    obtain ⟨N, rfl⟩ : ∃ M, N = M + 1 := ⟨N - 1, by omega⟩
    rw [lp_succ]
    have ih' := ih N
    generalize lp (fun _ _ _ _ _ => none) (Z4_arrive_10B kdG0) N = L at ih' ⊢
    unfold Z4_arrive_10B
    simp only [Z4_arrive_56, zp_0, W_size r_1, W_isEmpty r_1, W_isFull r_1, W_has r_1, W_clear r_1, W_size r_3, W_isEmpty r_3, W_isFull r_3, W_has r_3, W_clear r_3, W_size r_328, W_isEmpty r_328, W_isFull r_328, W_has r_328, W_clear r_328, W_size r_330, W_isEmpty r_330, W_isFull r_330, W_has r_330, W_clear r_330, W_size r_332, W_isEmpty r_332, W_isFull r_332, W_has r_332, W_clear r_332, W_size r_334, W_isEmpty r_334, W_isFull r_334, W_has r_334, W_clear r_334, W_size r_337, W_isEmpty r_337, W_isFull r_337, W_has r_337, W_clear r_337, W_size r_339, W_isEmpty r_339, W_isFull r_339, W_has r_339, W_clear r_339, W_size r_341, W_isEmpty r_341, W_isFull r_341, W_has r_341, W_clear r_341, W_size r_485, W_isEmpty r_485, W_isFull r_485, W_has r_485, W_clear r_485, W_size r_487, W_isEmpty r_487, W_isFull r_487, W_has r_487, W_clear r_487, W_size r_489, W_isEmpty r_489, W_isFull r_489, W_has r_489, W_clear r_489, W_size r_496, W_isEmpty r_496, W_isFull r_496, W_has r_496, W_clear r_496, W_size r_498, W_isEmpty r_498, W_isFull r_498, W_has r_498, W_clear r_498, W_size r_562, W_isEmpty r_562, W_isFull r_562, W_has r_562, W_clear r_562, W_size r_564, W_isEmpty r_564, W_isFull r_564, W_has r_564, W_clear r_564, W_size r_566, W_isEmpty r_566, W_isFull r_566, W_has r_566, W_clear r_566, W_size r_581, W_isEmpty r_581, W_isFull r_581, W_has r_581, W_clear r_581, W_size r_583, W_isEmpty r_583, W_isFull r_583, W_has r_583, W_clear r_583, W_size r_585, W_isEmpty r_585, W_isFull r_585, W_has r_585, W_clear r_585, W_size r_608, W_isEmpty r_608, W_isFull r_608, W_has r_608, W_clear r_608, W_size r_610, W_isEmpty r_610, W_isFull r_610, W_has r_610, W_clear r_610, Wz_rt, Wz_cnd, Wz_lI, Wz_lW, Wz_lL, Wz_cl, Wz_cv, Wz_nz, Wz_gI, Wz_gR, Wz_sI, Wz_aI, Wz_aZ, Wz_aL, Wz_aN, Wz_aR, Wz_tI, Wz_tZ, Wz_tL, Option.some.injEq, exists_eq_left', zB_0, zB_1, true_and, and_true, true_implies, not_true_eq_false, false_implies, not_false_eq_true, Classical.not_not, g_0, g_1, g_2, g_3, g_4, g_5, g_327, g_328, g_329, g_330, g_331, g_332, g_333, g_334, g_335, g_336, g_337, g_338, g_339, g_340, g_341, g_342, g_343, g_464, g_465, g_466, g_484, g_485, g_486, g_487, g_488, g_489, g_490, g_491, g_492, g_493, g_494, g_495, g_496, g_497, g_498, g_499, g_500, g_501, g_562, g_563, g_564, g_565, g_566, g_567, g_568, g_574, g_580, g_581, g_582, g_583, g_584, g_585, g_586, g_587, g_588, g_589, g_590, g_591, g_592, g_600, g_601, g_602, g_603, g_604, g_605, g_606, g_607, g_608, g_609, g_610, g_611, g_612, g_613, g_614, g_615, g_616, g_617, g_618, g_619, g_620, g_621, g_622, g_623, g_624, g_625, g_626, g_627, g_628, g_629, g_630, g_631, g_632, g_633, g_634, g_635, g_636, g_637, g_638, g_639, g_640, g_641, g_642, g_643, g_644, g_645, g_646, g_647, g_648, g_649, g_650, g_651, g_652, g_653, g_654, g_655, g_656, g_657, g_658, g_659, g_660, g_661, g_662, g_0_0, g_0_1, g_0_2, g_0_3, g_0_4, g_0_5, g_0_6, g_0_7, g_0_8, g_0_9, g_0_10, g_0_11, g_1_0, g_3_0, g_327_0, g_327_1, g_327_2, g_327_3, g_328_0, g_330_0, g_332_0, g_334_0, g_336_0, g_336_1, g_336_2, g_336_3, g_337_0, g_339_0, g_341_0, g_464_0, g_464_1, g_484_0, g_484_1, g_484_2, g_485_0, g_487_0, g_489_0, g_491_0, g_491_1, g_491_2, g_491_3, g_491_4, g_491_5, g_491_6, g_491_7, g_496_0, g_498_0, g_500_0, g_500_1, g_500_3, g_500_4, g_500_5, g_500_6, g_500_7, g_562_0, g_564_0, g_566_0, g_580_0, g_580_1, g_580_2, g_580_3, g_581_0, g_583_0, g_585_0, g_588_1, g_588_2, g_588_3, g_588_4, g_588_6, g_601_0, g_601_1, g_601_2, g_601_3, g_601_4, g_601_5, g_601_6, g_601_7, g_601_8, g_608_0, g_610_0, g_612_0, g_612_2, g_612_4, g_612_5, g_612_7, g_612_8, g_612_9, g_612_10, g_612_11, g_612_12, g_612_13, g_612_14, g_612_15, g_612_16, g_612_19, g_612_20, g_612_22, g_612_24, g_612_25, g_612_26, g_612_27, g_612_28, g_612_30, g_612_31, g_612_32, g_612_33, g_612_34, g_612_36, g_612_37, g_612_38, g_612_39, g_612_40, g_612_41, g_612_42, g_612_43, g_612_44, g_612_46, g_612_47, g_612_48, g_612_49, g_612_50, g_612_53, g_612_56, g_612_57, g_612_58, g_612_59, g_612_61, g_612_62, g_612_63, g_612_64]
    refine ⟨fun c => ?_, fun c => ⟨fun _ => ⟨by omega, W_remove r_334 (by omega) (by omega) (by omega) (by decide) ?_⟩, fun z => absurd z (by omega)⟩⟩
    · rw [comeL_0 c] at hQ
      refine W_add r_334 (by omega) (by omega) (by decide) (hQ _ (fun b y e1 e2 => ?_) ?_ ⟨?_, ?_⟩)
      · simp only [addF, v2_ne _ _ _ _ e1, v2_ne _ _ _ _ e2]
      · simp only [addF, v2_self, h1, List.length_cons]; omega
      · simp only [addF, h1]
        rw [v2_ne _ _ _ _ (by decide), List.length_cons]
        exact v2_self _ _ _ _
      · refine stk_cg _ (fun i i0 i1 => ?_) h2
        rw [List.length_cons] at i1
        simp only [addF]
        rw [v2_ne _ _ _ _ (by decide), v2_nk _ _ _ _ (by omega)]
    · have hS : onS σ (v2 (rw1 σ.1 (334 + 1) (remF (σ.1 (334 + 1)) (σ.1 334 1 - 1) (σ.1 334 1 - 1))) 334 1 (σ.1 334 1 - 1), σ.2) := fun b y e1 e2 => by
        dsimp only
        rw [v2_ne _ _ _ _ e1, rw1_eq, if_neg e2]
      have hL2 := hL.onS hS
      have s1 : (v2 (rw1 σ.1 (334 + 1) (remF (σ.1 (334 + 1)) (σ.1 334 1 - 1) (σ.1 334 1 - 1))) 334 1 (σ.1 334 1 - 1)) 334 1 = s.length := by
        rw [v2_self]; omega
      have s2 : stk ((v2 (rw1 σ.1 (334 + 1) (remF (σ.1 (334 + 1)) (σ.1 334 1 - 1) (σ.1 334 1 - 1))) 334 1 (σ.1 334 1 - 1)) 335) s := by
        refine stk_cg _ (fun i i0 i1 => ?_) h2.2
        rw [v2_ne _ _ _ _ (by decide), rw1_eq, if_pos rfl]
        unfold remF
        rw [if_neg (by omega)]
      refine W4_top hI hL2 s1 (by omega) s2 ?_
      refine ih' _ _ (by omega) (by omega) hL2 s1 s2 (fun ρ r1 r2 r3 => hQ ρ (fun b y e1 e2 => (r1 b y e1 e2).trans (hS b y e1 e2)) ?_ ?_)
      · rw [r2]
        rw [show comeL (joinI τ (τ.1 327 4)) (a :: s) x = comeL (joinI τ (τ.1 327 4)) s (joinI τ (τ.1 327 4) a x) from if_neg c]
        rfl
      · rw [show comeL (joinI τ (τ.1 327 4)) (a :: s) x = comeL (joinI τ (τ.1 327 4)) s (joinI τ (τ.1 327 4) a x) from if_neg c]
        exact r3
set_option maxRecDepth 100000 in
theorem W4_arrive {τ : kzM} (hI : Inv τ) {s : List Int} {x : Int} {σ : kzM} (hc : s.length < 120) (hL : tabL τ σ) (h1 : σ.1 334 1 = s.length) (h2 : stk (σ.1 335) s) {Q : Unit → kzM → Prop} (hQ : ∀ ρ, onS σ ρ → ρ.1 334 1 = (comeL (joinI τ (τ.1 327 4)) s x).length → stk (ρ.1 335) (comeL (joinI τ (τ.1 327 4)) s x) → Q () ρ) : Wz (Z4_arrive kdG0 327 (6 + 107 * (τ.1 327 4).toNat) x) σ Q := by
  unfold Z4_arrive Z4_arrive_10
  simp only [Wz_rt, Wz_cnd, Wz_lI, Wz_lW, Wz_lL, Wz_cl, Wz_cv, Wz_nz, Wz_gI, Wz_gR, Wz_sI, Wz_aI, Wz_aZ, Wz_aL, Wz_aN, Wz_aR, Wz_tI, Wz_tZ, Wz_tL, Option.some.injEq, exists_eq_left', zB_0, zB_1, true_and, and_true, true_implies, not_true_eq_false, false_implies, not_false_eq_true, Classical.not_not, g_0, g_1, g_2, g_3, g_4, g_5, g_327, g_328, g_329, g_330, g_331, g_332, g_333, g_334, g_335, g_336, g_337, g_338, g_339, g_340, g_341, g_342, g_343, g_464, g_465, g_466, g_484, g_485, g_486, g_487, g_488, g_489, g_490, g_491, g_492, g_493, g_494, g_495, g_496, g_497, g_498, g_499, g_500, g_501, g_562, g_563, g_564, g_565, g_566, g_567, g_568, g_574, g_580, g_581, g_582, g_583, g_584, g_585, g_586, g_587, g_588, g_589, g_590, g_591, g_592, g_600, g_601, g_602, g_603, g_604, g_605, g_606, g_607, g_608, g_609, g_610, g_611, g_612, g_613, g_614, g_615, g_616, g_617, g_618, g_619, g_620, g_621, g_622, g_623, g_624, g_625, g_626, g_627, g_628, g_629, g_630, g_631, g_632, g_633, g_634, g_635, g_636, g_637, g_638, g_639, g_640, g_641, g_642, g_643, g_644, g_645, g_646, g_647, g_648, g_649, g_650, g_651, g_652, g_653, g_654, g_655, g_656, g_657, g_658, g_659, g_660, g_661, g_662, g_0_0, g_0_1, g_0_2, g_0_3, g_0_4, g_0_5, g_0_6, g_0_7, g_0_8, g_0_9, g_0_10, g_0_11, g_1_0, g_3_0, g_327_0, g_327_1, g_327_2, g_327_3, g_328_0, g_330_0, g_332_0, g_334_0, g_336_0, g_336_1, g_336_2, g_336_3, g_337_0, g_339_0, g_341_0, g_464_0, g_464_1, g_484_0, g_484_1, g_484_2, g_485_0, g_487_0, g_489_0, g_491_0, g_491_1, g_491_2, g_491_3, g_491_4, g_491_5, g_491_6, g_491_7, g_496_0, g_498_0, g_500_0, g_500_1, g_500_3, g_500_4, g_500_5, g_500_6, g_500_7, g_562_0, g_564_0, g_566_0, g_580_0, g_580_1, g_580_2, g_580_3, g_581_0, g_583_0, g_585_0, g_588_1, g_588_2, g_588_3, g_588_4, g_588_6, g_601_0, g_601_1, g_601_2, g_601_3, g_601_4, g_601_5, g_601_6, g_601_7, g_601_8, g_608_0, g_610_0, g_612_0, g_612_2, g_612_4, g_612_5, g_612_7, g_612_8, g_612_9, g_612_10, g_612_11, g_612_12, g_612_13, g_612_14, g_612_15, g_612_16, g_612_19, g_612_20, g_612_22, g_612_24, g_612_25, g_612_26, g_612_27, g_612_28, g_612_30, g_612_31, g_612_32, g_612_33, g_612_34, g_612_36, g_612_37, g_612_38, g_612_39, g_612_40, g_612_41, g_612_42, g_612_43, g_612_44, g_612_46, g_612_47, g_612_48, g_612_49, g_612_50, g_612_53, g_612_56, g_612_57, g_612_58, g_612_59, g_612_61, g_612_62, g_612_63, g_612_64]
  exact W4_top hI hL h1 (by omega) h2 (W4_ar_10 hI s NN x σ (by unfold NN; omega) hc hL h1 h2 hQ)
