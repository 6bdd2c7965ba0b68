/-! idle -/
theorem kzI_b {x : Int} (h : ∃ y : Int32, y.toInt = x) : kzI x := by obtain ⟨y, rfl⟩ := h; exact kzI_of y
theorem zor_I (x y : Int) : -2147483648 ≤ zor x y ∧ zor x y ≤ 2147483647 := kzI_of _
theorem zand_I (x y : Int) : -2147483648 ≤ zand x y ∧ zand x y ≤ 2147483647 := kzI_of _
theorem zshl_I (x y : Int) : -2147483648 ≤ zshl x y ∧ zshl x y ≤ 2147483647 := kzI_of _
theorem zxor_I (x y : Int) : -2147483648 ≤ zxor x y ∧ zxor x y ≤ 2147483647 := kzI_of _
theorem zor_0 {x : Int} (h : kzI x) : zor x 0 = x := by
  unfold zor
  rw [show Int32.ofInt 0 = 0 from rfl, Int32.or_zero, kz_to h]
theorem i32_not (a b c : Int32) : (a &&& (b ^^^ -1)) &&& (c ^^^ -1) = a &&& ((b ||| c) ^^^ -1) := by
  apply Int32.toBitVec_inj.mp
  simp only [Int32.toBitVec_and, Int32.toBitVec_xor, Int32.toBitVec_or]
  apply BitVec.eq_of_getLsbD_eq
  intro i hi
  have e : (Int32.toBitVec (-1)) = BitVec.allOnes 32 := by decide
  simp only [e, BitVec.getLsbD_and, BitVec.getLsbD_xor, BitVec.getLsbD_or, BitVec.getLsbD_allOnes]
  cases a.toBitVec.getLsbD i <;> cases b.toBitVec.getLsbD i <;> cases c.toBitVec.getLsbD i <;> simp [hi]
theorem zand_not (a b c : Int) : zand (zand a (zxor b (-1))) (zxor c (-1)) = zand a (zxor (zor b c) (-1)) := by
  unfold zand zxor zor
  simp only [kz_of]
  rw [show Int32.ofInt (-1) = -1 from rfl, i32_not]
theorem zand_4095 : zand 4095 (zxor 0 (-1)) = 4095 := by decide +kernel
set_option maxRecDepth 100000 in
theorem W8_isIdle_2 {T : Nat} {t r : Int} {τ : kzM} (hT : isT T) (h : I3r τ T t) (r0 : 0 ≤ r) (r1 : r < τ.1 T 2) (Q : Int → kzM → Prop) : ∀ (n : Nat) (j : Int), 0 ≤ j → j ≤ r → r - j < (n : Int) → Q (zp (∃ a, (j ≤ a ∧ a < r) ∧ likeK τ t a r)) τ → Wz (lp (fun _ _ _ _ => none) (Z8_isIdle_2B kdG0) n T r j) τ Q := by
  have h' := h
  unfold I3r at h'
  obtain ⟨⟨h1, h2⟩, h3, -⟩ := h'
  intro n
  induction n with
  | zero => intro j; intros; omega
  | succ n ih =>
    intro j j0 j1 j2 hQ
    obtain ⟨g1, g2⟩ := gTk hT (i := j) j0 (by omega)
    obtain ⟨g3, g4⟩ := gTk hT r0 (by omega)
    rw [lp_succ]
    unfold Z8_isIdle_2B
    simp only [Z11_isKey, Z11_isLetter, Z11_isTongue, Z11_isHand, Z11_isDay, Z12_isKey, Z12_isLetter, Z12_isTongue, Z12_isHand, Z12_areTongues, Z12_isWord, Z12_isSymbol, W_within, W_in, zp_0, zB_zp, W_size r_1, W_isEmpty r_1, W_isFull r_1, W_has r_1, W_clear r_1, W_size r_3, W_isEmpty r_3, W_isFull r_3, W_has r_3, W_clear r_3, W_size r_328, W_isEmpty r_328, W_isFull r_328, W_has r_328, W_clear r_328, W_size r_330, W_isEmpty r_330, W_isFull r_330, W_has r_330, W_clear r_330, W_size r_332, W_isEmpty r_332, W_isFull r_332, W_has r_332, W_clear r_332, W_size r_334, W_isEmpty r_334, W_isFull r_334, W_has r_334, W_clear r_334, W_size r_337, W_isEmpty r_337, W_isFull r_337, W_has r_337, W_clear r_337, W_size r_339, W_isEmpty r_339, W_isFull r_339, W_has r_339, W_clear r_339, W_size r_341, W_isEmpty r_341, W_isFull r_341, W_has r_341, W_clear r_341, W_size r_485, W_isEmpty r_485, W_isFull r_485, W_has r_485, W_clear r_485, W_size r_487, W_isEmpty r_487, W_isFull r_487, W_has r_487, W_clear r_487, W_size r_489, W_isEmpty r_489, W_isFull r_489, W_has r_489, W_clear r_489, W_size r_496, W_isEmpty r_496, W_isFull r_496, W_has r_496, W_clear r_496, W_size r_498, W_isEmpty r_498, W_isFull r_498, W_has r_498, W_clear r_498, W_size r_562, W_isEmpty r_562, W_isFull r_562, W_has r_562, W_clear r_562, W_size r_564, W_isEmpty r_564, W_isFull r_564, W_has r_564, W_clear r_564, W_size r_566, W_isEmpty r_566, W_isFull r_566, W_has r_566, W_clear r_566, W_size r_581, W_isEmpty r_581, W_isFull r_581, W_has r_581, W_clear r_581, W_size r_583, W_isEmpty r_583, W_isFull r_583, W_has r_583, W_clear r_583, W_size r_585, W_isEmpty r_585, W_isFull r_585, W_has r_585, W_clear r_585, W_size r_608, W_isEmpty r_608, W_isFull r_608, W_has r_608, W_clear r_608, W_size r_610, W_isEmpty r_610, W_isFull r_610, W_has r_610, W_clear r_610, Wz_rt, Wz_cnd, Wz_lI, Wz_lW, Wz_lL, Wz_cl, Wz_cv, Wz_nz, Wz_gI, Wz_gR, Wz_sI, Wz_aI, Wz_aZ, Wz_aL, Wz_aN, Wz_aR, Wz_tI, Wz_tZ, Wz_tL, Option.some.injEq, exists_eq_left', zB_0, zB_1, true_and, and_true, true_implies, not_true_eq_false, false_implies, not_false_eq_true, Classical.not_not, g_0, g_1, g_2, g_3, g_4, g_5, g_327, g_328, g_329, g_330, g_331, g_332, g_333, g_334, g_335, g_336, g_337, g_338, g_339, g_340, g_341, g_342, g_343, g_464, g_465, g_466, g_484, g_485, g_486, g_487, g_488, g_489, g_490, g_491, g_492, g_493, g_494, g_495, g_496, g_497, g_498, g_499, g_500, g_501, g_562, g_563, g_564, g_565, g_566, g_567, g_568, g_574, g_580, g_581, g_582, g_583, g_584, g_585, g_586, g_587, g_588, g_589, g_590, g_591, g_592, g_600, g_601, g_602, g_603, g_604, g_605, g_606, g_607, g_608, g_609, g_610, g_611, g_612, g_613, g_614, g_615, g_616, g_617, g_618, g_619, g_620, g_621, g_622, g_623, g_624, g_625, g_626, g_627, g_628, g_629, g_630, g_631, g_632, g_633, g_634, g_635, g_636, g_637, g_638, g_639, g_640, g_641, g_642, g_643, g_644, g_645, g_646, g_647, g_648, g_649, g_650, g_651, g_652, g_653, g_654, g_655, g_656, g_657, g_658, g_659, g_660, g_661, g_662, g_0_0, g_0_1, g_0_2, g_0_3, g_0_4, g_0_5, g_0_6, g_0_7, g_0_8, g_0_9, g_0_10, g_0_11, g_1_0, g_3_0, g_327_0, g_327_1, g_327_2, g_327_3, g_328_0, g_330_0, g_332_0, g_334_0, g_336_0, g_336_1, g_336_2, g_336_3, g_337_0, g_339_0, g_341_0, g_464_0, g_464_1, g_484_0, g_484_1, g_484_2, g_485_0, g_487_0, g_489_0, g_491_0, g_491_1, g_491_2, g_491_3, g_491_4, g_491_5, g_491_6, g_491_7, g_496_0, g_498_0, g_500_0, g_500_1, g_500_3, g_500_4, g_500_5, g_500_6, g_500_7, g_562_0, g_564_0, g_566_0, g_580_0, g_580_1, g_580_2, g_580_3, g_581_0, g_583_0, g_585_0, g_588_1, g_588_2, g_588_3, g_588_4, g_588_6, g_601_0, g_601_1, g_601_2, g_601_3, g_601_4, g_601_5, g_601_6, g_601_7, g_601_8, g_608_0, g_610_0, g_612_0, g_612_2, g_612_4, g_612_5, g_612_7, g_612_8, g_612_9, g_612_10, g_612_11, g_612_12, g_612_13, g_612_14, g_612_15, g_612_16, g_612_19, g_612_20, g_612_22, g_612_24, g_612_25, g_612_26, g_612_27, g_612_28, g_612_30, g_612_31, g_612_32, g_612_33, g_612_34, g_612_36, g_612_37, g_612_38, g_612_39, g_612_40, g_612_41, g_612_42, g_612_43, g_612_44, g_612_46, g_612_47, g_612_48, g_612_49, g_612_50, g_612_53, g_612_56, g_612_57, g_612_58, g_612_59, g_612_61, g_612_62, g_612_63, g_612_64, addF, v2, rw1, Nat.reduceEqDiff, Nat.reduceAdd, Int.reduceEq, Int.reduceNeg, reduceIte, false_and, and_false, true_and, and_true, and_self, gT hT, g1, g3, g2.1]
    refine ⟨fun e => ?_, fun e => ⟨by omega, by omega, W8_likeK hT h j0 (by omega) r0 r1 ?_⟩⟩
    · rw [zp_neg (fun q => by obtain ⟨a, q1, q2⟩ := q; omega)] at hQ; exact hQ
    · rw [zp_0]
      refine ⟨fun z => ⟨by omega, ih _ (by omega) (by omega) (by omega) ?_⟩, fun z => ?_⟩
      · rw [zp_iff (q := ∃ a, (j ≤ a ∧ a < r) ∧ likeK τ t a r) ?_]
        · exact hQ
        · refine ⟨fun q => ?_, fun q => ?_⟩
          · obtain ⟨a, q1, q2⟩ := q; exact ⟨a, by omega, q2⟩
          · obtain ⟨a, q1, q2⟩ := q
            by_cases c : a = j
            · rw [c] at q2; exact absurd q2 z
            · exact ⟨a, by omega, q2⟩
      · rw [zp_pos ⟨j, by omega, Classical.not_not.mp z⟩] at hQ; exact hQ
def isIdleP (τ : kzM) (t r : Int) : Prop := ∃ a, (0 ≤ a ∧ a < r) ∧ likeK τ t a r
set_option maxRecDepth 100000 in
theorem W8_isIdle {T : Nat} {t r : Int} {τ : kzM} (hT : isT T) (h : I3r τ T t) (r0 : 0 ≤ r) (r1 : r < τ.1 T 2) {Q : Int → kzM → Prop} (hQ : Q (zp (isIdleP τ t r)) τ) : Wz (Z8_isIdle kdG0 T r) τ Q := by
  have h' := h
  unfold I3r at h'
  unfold Z8_isIdle Z8_isIdle_2
  exact W8_isIdle_2 hT h r0 r1 Q NN 0 (by omega) r0 (by unfold NN; omega) hQ
set_option maxRecDepth 100000 in
theorem W12_isIdle_5 {T : Nat} {t r : Int} {τ : kzM} (t0 : 0 ≤ t) (t3 : t < 3) (h : I3r τ T t) (r0 : 0 ≤ r) (r1 : r < τ.1 T 2) (Q : Int → kzM → Prop) : ∀ (n : Nat) (j s : Int), 0 ≤ j → j ≤ r → r - j < (n : Int) → (s = 0 ∨ s = 1) → (s = 1 → Q 1 τ) → (s = 0 → Q (zp (∃ a, (j ≤ a ∧ a < r) ∧ likeK τ t a r)) τ) → Wz (lp (fun _ _ _ _ _ _ => none) (Z12_isIdle_5B kdG0) n 612 t r s j) τ Q := by
  have h' := h
  unfold I3r at h'
  obtain ⟨⟨h1, h2⟩, h3, -⟩ := h'
  intro n
  induction n with
  | zero => intro j; intros; omega
  | succ n ih =>
    intro j s j0 j1 j2 hs q1 q0
    rw [lp_succ]
    unfold Z12_isIdle_5B
    simp only [Z12_isIdle_35, Z12_isIdle_40, Z11_isKey, Z11_isLetter, Z11_isTongue, Z11_isHand, Z11_isDay, Z12_isKey, Z12_isLetter, Z12_isTongue, Z12_isHand, Z12_areTongues, Z12_isWord, Z12_isSymbol, W_within, W_in, zp_0, zB_zp, W_size r_1, W_isEmpty r_1, W_isFull r_1, W_has r_1, W_clear r_1, W_size r_3, W_isEmpty r_3, W_isFull r_3, W_has r_3, W_clear r_3, W_size r_328, W_isEmpty r_328, W_isFull r_328, W_has r_328, W_clear r_328, W_size r_330, W_isEmpty r_330, W_isFull r_330, W_has r_330, W_clear r_330, W_size r_332, W_isEmpty r_332, W_isFull r_332, W_has r_332, W_clear r_332, W_size r_334, W_isEmpty r_334, W_isFull r_334, W_has r_334, W_clear r_334, W_size r_337, W_isEmpty r_337, W_isFull r_337, W_has r_337, W_clear r_337, W_size r_339, W_isEmpty r_339, W_isFull r_339, W_has r_339, W_clear r_339, W_size r_341, W_isEmpty r_341, W_isFull r_341, W_has r_341, W_clear r_341, W_size r_485, W_isEmpty r_485, W_isFull r_485, W_has r_485, W_clear r_485, W_size r_487, W_isEmpty r_487, W_isFull r_487, W_has r_487, W_clear r_487, W_size r_489, W_isEmpty r_489, W_isFull r_489, W_has r_489, W_clear r_489, W_size r_496, W_isEmpty r_496, W_isFull r_496, W_has r_496, W_clear r_496, W_size r_498, W_isEmpty r_498, W_isFull r_498, W_has r_498, W_clear r_498, W_size r_562, W_isEmpty r_562, W_isFull r_562, W_has r_562, W_clear r_562, W_size r_564, W_isEmpty r_564, W_isFull r_564, W_has r_564, W_clear r_564, W_size r_566, W_isEmpty r_566, W_isFull r_566, W_has r_566, W_clear r_566, W_size r_581, W_isEmpty r_581, W_isFull r_581, W_has r_581, W_clear r_581, W_size r_583, W_isEmpty r_583, W_isFull r_583, W_has r_583, W_clear r_583, W_size r_585, W_isEmpty r_585, W_isFull r_585, W_has r_585, W_clear r_585, W_size r_608, W_isEmpty r_608, W_isFull r_608, W_has r_608, W_clear r_608, W_size r_610, W_isEmpty r_610, W_isFull r_610, W_has r_610, W_clear r_610, Wz_rt, Wz_cnd, Wz_lI, Wz_lW, Wz_lL, Wz_cl, Wz_cv, Wz_nz, Wz_gI, Wz_gR, Wz_sI, Wz_aI, Wz_aZ, Wz_aL, Wz_aN, Wz_aR, Wz_tI, Wz_tZ, Wz_tL, Option.some.injEq, exists_eq_left', zB_0, zB_1, true_and, and_true, true_implies, not_true_eq_false, false_implies, not_false_eq_true, Classical.not_not, g_0, g_1, g_2, g_3, g_4, g_5, g_327, g_328, g_329, g_330, g_331, g_332, g_333, g_334, g_335, g_336, g_337, g_338, g_339, g_340, g_341, g_342, g_343, g_464, g_465, g_466, g_484, g_485, g_486, g_487, g_488, g_489, g_490, g_491, g_492, g_493, g_494, g_495, g_496, g_497, g_498, g_499, g_500, g_501, g_562, g_563, g_564, g_565, g_566, g_567, g_568, g_574, g_580, g_581, g_582, g_583, g_584, g_585, g_586, g_587, g_588, g_589, g_590, g_591, g_592, g_600, g_601, g_602, g_603, g_604, g_605, g_606, g_607, g_608, g_609, g_610, g_611, g_612, g_613, g_614, g_615, g_616, g_617, g_618, g_619, g_620, g_621, g_622, g_623, g_624, g_625, g_626, g_627, g_628, g_629, g_630, g_631, g_632, g_633, g_634, g_635, g_636, g_637, g_638, g_639, g_640, g_641, g_642, g_643, g_644, g_645, g_646, g_647, g_648, g_649, g_650, g_651, g_652, g_653, g_654, g_655, g_656, g_657, g_658, g_659, g_660, g_661, g_662, g_0_0, g_0_1, g_0_2, g_0_3, g_0_4, g_0_5, g_0_6, g_0_7, g_0_8, g_0_9, g_0_10, g_0_11, g_1_0, g_3_0, g_327_0, g_327_1, g_327_2, g_327_3, g_328_0, g_330_0, g_332_0, g_334_0, g_336_0, g_336_1, g_336_2, g_336_3, g_337_0, g_339_0, g_341_0, g_464_0, g_464_1, g_484_0, g_484_1, g_484_2, g_485_0, g_487_0, g_489_0, g_491_0, g_491_1, g_491_2, g_491_3, g_491_4, g_491_5, g_491_6, g_491_7, g_496_0, g_498_0, g_500_0, g_500_1, g_500_3, g_500_4, g_500_5, g_500_6, g_500_7, g_562_0, g_564_0, g_566_0, g_580_0, g_580_1, g_580_2, g_580_3, g_581_0, g_583_0, g_585_0, g_588_1, g_588_2, g_588_3, g_588_4, g_588_6, g_601_0, g_601_1, g_601_2, g_601_3, g_601_4, g_601_5, g_601_6, g_601_7, g_601_8, g_608_0, g_610_0, g_612_0, g_612_2, g_612_4, g_612_5, g_612_7, g_612_8, g_612_9, g_612_10, g_612_11, g_612_12, g_612_13, g_612_14, g_612_15, g_612_16, g_612_19, g_612_20, g_612_22, g_612_24, g_612_25, g_612_26, g_612_27, g_612_28, g_612_30, g_612_31, g_612_32, g_612_33, g_612_34, g_612_36, g_612_37, g_612_38, g_612_39, g_612_40, g_612_41, g_612_42, g_612_43, g_612_44, g_612_46, g_612_47, g_612_48, g_612_49, g_612_50, g_612_53, g_612_56, g_612_57, g_612_58, g_612_59, g_612_61, g_612_62, g_612_63, g_612_64, addF, v2, rw1, Nat.reduceEqDiff, Nat.reduceAdd, Int.reduceEq, Int.reduceNeg, reduceIte, false_and, and_false, true_and, and_true, and_self]
    refine ⟨fun e => ?_, fun e => ⟨fun z => ⟨by omega, by omega, W12_likeK t0 t3 h j0 (by omega) r0 r1 ?_⟩, fun z => ⟨by omega, ih _ _ (by omega) (by omega) (by omega) (Or.inr rfl) (fun _ => q1 (by omega)) (fun w => by omega)⟩⟩⟩
    · rcases hs with rfl | rfl
      · rw [zB_0]
        have q0 := q0 rfl
        rw [zp_neg (fun q => by obtain ⟨a, q1, q2⟩ := q; omega)] at q0; exact q0
      · rw [zB_1]; exact q1 rfl
    · rw [zp_0]
      have q0 := q0 z
      refine ⟨fun y => ⟨by omega, ih _ _ (by omega) (by omega) (by omega) (Or.inl rfl) (fun w => by omega) (fun _ => ?_)⟩, fun y => ⟨by omega, ih _ _ (by omega) (by omega) (by omega) (Or.inr rfl) (fun _ => ?_) (fun w => by omega)⟩⟩
      · rw [zp_iff (q := ∃ a, (j ≤ a ∧ a < r) ∧ likeK τ t a r) ?_]
        · exact q0
        · refine ⟨fun q => ?_, fun q => ?_⟩
          · obtain ⟨a, q1, q2⟩ := q; exact ⟨a, by omega, q2⟩
          · obtain ⟨a, q1, q2⟩ := q
            by_cases c : a = j
            · rw [c] at q2; exact absurd q2 y
            · exact ⟨a, by omega, q2⟩
      · rw [zp_pos ⟨j, by omega, Classical.not_not.mp y⟩] at q0; exact q0
set_option maxRecDepth 100000 in
theorem W12_isIdle {T : Nat} {t r : Int} {τ : kzM} (t0 : 0 ≤ t) (t3 : t < 3) (h : I3r τ T t) (r0 : 0 ≤ r) (r1 : r < τ.1 T 2) {Q : Int → kzM → Prop} (hQ : Q (zp (isIdleP τ t r)) τ) : Wz (Z12_isIdle kdG0 612 t r) τ Q := by
  have h' := h
  unfold I3r at h'
  unfold Z12_isIdle Z12_isIdle_5
  exact W12_isIdle_5 t0 t3 h r0 r1 Q NN 0 0 (by omega) r0 (by unfold NN; omega) (Or.inl rfl) (fun w => by omega) (fun _ => hQ)
/-- the bits of what holds below n -/
noncomputable def bI (P : Int → Prop) : Nat → Int
  | 0 => 0
  | n + 1 => @ite Int (P n) (Classical.propDecidable _) (zor (bI P n) (zshl 1 n)) (bI P n)
theorem bI_pos {P : Int → Prop} {n : Nat} (h : P n) : bI P (n + 1) = zor (bI P n) (zshl 1 n) := by
  show @ite Int (P n) (Classical.propDecidable _) _ _ = _
  exact @if_pos _ (Classical.propDecidable _) h _ _ _
theorem bI_neg {P : Int → Prop} {n : Nat} (h : ¬P n) : bI P (n + 1) = bI P n := by
  show @ite Int (P n) (Classical.propDecidable _) _ _ = _
  exact @if_neg _ (Classical.propDecidable _) h _ _ _
theorem bI_I {P : Int → Prop} : ∀ n, kzI (bI P n)
  | 0 => by unfold bI kzI; omega
  | n + 1 => by
    by_cases h : P n
    · rw [bI_pos h]; exact zor_I _ _
    · rw [bI_neg h]; exact bI_I n
/-- the bits of keys: of one rule on top of others, of all rules below n -/
def kB1 (f : Int → Int) (s : Int) : Nat → Int
  | 0 => s
  | n + 1 => zor (kB1 f s n) (zshl 1 (f n))
def kB (f : Int → Int → Int) (K : Int → Int) : Nat → Int
  | 0 => 0
  | n + 1 => kB1 (f n) (kB f K n) (K n).toNat
set_option maxRecDepth 100000 in
theorem W8_idleRules_4 {T : Nat} {t : Int} {τ : kzM} (hT : isT T) (h : I3r τ T t) (Q : Int → kzM → Prop) : ∀ (n : Nat) (j : Int), 0 ≤ j → j ≤ τ.1 T 2 → τ.1 T 2 - j < (n : Int) → Q (bI (isIdleP τ t) (τ.1 T 2).toNat) τ → Wz (lp (fun _ _ _ _ => none) (Z8_idleRules_4B kdG0) n T (bI (isIdleP τ t) j.toNat) j) τ Q := by
  have h' := h
  unfold I3r at h'
  obtain ⟨⟨h1, h2⟩, h3, -⟩ := h'
  intro n
  induction n with
  | zero => intro j; intros; omega
  | succ n ih =>
    intro j j0 j1 j2 hQ
    have q := ih (j + 1) (by omega)
    rw [show (j + 1).toNat = j.toNat + 1 by omega] at q
    have ej : ((j.toNat : Nat) : Int) = j := Int.toNat_of_nonneg j0
    rw [lp_succ]
    unfold Z8_idleRules_4B
    simp only [Z8_idleRules_26, Wz_rt, Wz_cnd, Wz_lI, Wz_lW, Wz_lL, Wz_cl, Wz_cv, Wz_nz, Wz_gI, Wz_gR, Wz_sI, Wz_aI, Wz_aZ, Wz_aL, Wz_aN, Wz_aR, Wz_tI, Wz_tZ, Wz_tL, Option.some.injEq, exists_eq_left', zB_0, zB_1, true_and, and_true, true_implies, not_true_eq_false, false_implies, not_false_eq_true, Classical.not_not, g_0, g_1, g_2, g_3, g_4, g_5, g_327, g_328, g_329, g_330, g_331, g_332, g_333, g_334, g_335, g_336, g_337, g_338, g_339, g_340, g_341, g_342, g_343, g_464, g_465, g_466, g_484, g_485, g_486, g_487, g_488, g_489, g_490, g_491, g_492, g_493, g_494, g_495, g_496, g_497, g_498, g_499, g_500, g_501, g_562, g_563, g_564, g_565, g_566, g_567, g_568, g_574, g_580, g_581, g_582, g_583, g_584, g_585, g_586, g_587, g_588, g_589, g_590, g_591, g_592, g_600, g_601, g_602, g_603, g_604, g_605, g_606, g_607, g_608, g_609, g_610, g_611, g_612, g_613, g_614, g_615, g_616, g_617, g_618, g_619, g_620, g_621, g_622, g_623, g_624, g_625, g_626, g_627, g_628, g_629, g_630, g_631, g_632, g_633, g_634, g_635, g_636, g_637, g_638, g_639, g_640, g_641, g_642, g_643, g_644, g_645, g_646, g_647, g_648, g_649, g_650, g_651, g_652, g_653, g_654, g_655, g_656, g_657, g_658, g_659, g_660, g_661, g_662, g_0_0, g_0_1, g_0_2, g_0_3, g_0_4, g_0_5, g_0_6, g_0_7, g_0_8, g_0_9, g_0_10, g_0_11, g_1_0, g_3_0, g_327_0, g_327_1, g_327_2, g_327_3, g_328_0, g_330_0, g_332_0, g_334_0, g_336_0, g_336_1, g_336_2, g_336_3, g_337_0, g_339_0, g_341_0, g_464_0, g_464_1, g_484_0, g_484_1, g_484_2, g_485_0, g_487_0, g_489_0, g_491_0, g_491_1, g_491_2, g_491_3, g_491_4, g_491_5, g_491_6, g_491_7, g_496_0, g_498_0, g_500_0, g_500_1, g_500_3, g_500_4, g_500_5, g_500_6, g_500_7, g_562_0, g_564_0, g_566_0, g_580_0, g_580_1, g_580_2, g_580_3, g_581_0, g_583_0, g_585_0, g_588_1, g_588_2, g_588_3, g_588_4, g_588_6, g_601_0, g_601_1, g_601_2, g_601_3, g_601_4, g_601_5, g_601_6, g_601_7, g_601_8, g_608_0, g_610_0, g_612_0, g_612_2, g_612_4, g_612_5, g_612_7, g_612_8, g_612_9, g_612_10, g_612_11, g_612_12, g_612_13, g_612_14, g_612_15, g_612_16, g_612_19, g_612_20, g_612_22, g_612_24, g_612_25, g_612_26, g_612_27, g_612_28, g_612_30, g_612_31, g_612_32, g_612_33, g_612_34, g_612_36, g_612_37, g_612_38, g_612_39, g_612_40, g_612_41, g_612_42, g_612_43, g_612_44, g_612_46, g_612_47, g_612_48, g_612_49, g_612_50, g_612_53, g_612_56, g_612_57, g_612_58, g_612_59, g_612_61, g_612_62, g_612_63, g_612_64, gT hT]
    refine ⟨fun e => ?_, fun e => W8_isIdle hT h j0 (by omega) ?_⟩
    · rw [show τ.1 T 2 = j by omega] at hQ; exact hQ
    · rw [zp_0]
      refine ⟨fun z => ⟨by omega, ?_⟩, fun z => ⟨zor_I _ _, by omega, ?_⟩⟩
      · rw [bI_neg (by rw [ej]; exact z)] at q
        exact q (by omega) (by omega) hQ
      · rw [bI_pos (by rw [ej]; exact Classical.not_not.mp z), ej] at q
        exact q (by omega) (by omega) hQ
def keyF (τ : kzM) (t r j : Int) : Int := τ.1 617 (4 * (24 * t + r) + j)
def keyN (τ : kzM) (t r : Int) : Int := τ.1 618 (24 * t + r)
set_option maxRecDepth 100000 in
theorem W8_unused_16 {T : Nat} {t r s : Int} {τ : kzM} (hT : isT T) (h : I3r τ T t) (r0 : 0 ≤ r) (r1 : r < τ.1 T 2) {k6 : Nat → Int → Int → kzM → Option (Int × kzM)} (Q : Int → kzM → Prop) : ∀ (n : Nat) (j : Int), 0 ≤ j → j ≤ keyN τ t r → keyN τ t r - j < (n : Int) → Wz (k6 T (zand 4095 (zxor (kB1 (keyF τ t r) s (keyN τ t r).toNat) (-1))) (r + 1)) τ Q → Wz (lp (fun _ _ _ _ _ => none) (Z8_unusedKeys_16B kdG0 k6) n T (zand 4095 (zxor (kB1 (keyF τ t r) s j.toNat) (-1))) r j) τ Q := by
  have h' := h
  unfold I3r at h'
  obtain ⟨⟨h1, h2⟩, h3, h4⟩ := h'
  have e1 := (h4 r r0 r1).1
  unfold eqR at e1
  obtain ⟨e1, e2, e3⟩ := e1
  obtain ⟨g3, g4⟩ := gTk hT r0 (by omega)
  intro n
  induction n with
  | zero => intro j; intros; omega
  | succ n ih =>
    intro j j0 j1 j2 hQ
    have q := ih (j + 1) (by omega)
    rw [show (j + 1).toNat = j.toNat + 1 by omega] at q
    have ej : ((j.toNat : Nat) : Int) = j := Int.toNat_of_nonneg j0
    have eK : keyN τ t r = τ.1 (T + 11 + 4 * r.toNat) 1 := e2
    rw [lp_succ]
    unfold Z8_unusedKeys_16B
    simp only [Wz_rt, Wz_cnd, Wz_lI, Wz_lW, Wz_lL, Wz_cl, Wz_cv, Wz_nz, Wz_gI, Wz_gR, Wz_sI, Wz_aI, Wz_aZ, Wz_aL, Wz_aN, Wz_aR, Wz_tI, Wz_tZ, Wz_tL, Option.some.injEq, exists_eq_left', zB_0, zB_1, true_and, and_true, true_implies, not_true_eq_false, false_implies, not_false_eq_true, Classical.not_not, g_0, g_1, g_2, g_3, g_4, g_5, g_327, g_328, g_329, g_330, g_331, g_332, g_333, g_334, g_335, g_336, g_337, g_338, g_339, g_340, g_341, g_342, g_343, g_464, g_465, g_466, g_484, g_485, g_486, g_487, g_488, g_489, g_490, g_491, g_492, g_493, g_494, g_495, g_496, g_497, g_498, g_499, g_500, g_501, g_562, g_563, g_564, g_565, g_566, g_567, g_568, g_574, g_580, g_581, g_582, g_583, g_584, g_585, g_586, g_587, g_588, g_589, g_590, g_591, g_592, g_600, g_601, g_602, g_603, g_604, g_605, g_606, g_607, g_608, g_609, g_610, g_611, g_612, g_613, g_614, g_615, g_616, g_617, g_618, g_619, g_620, g_621, g_622, g_623, g_624, g_625, g_626, g_627, g_628, g_629, g_630, g_631, g_632, g_633, g_634, g_635, g_636, g_637, g_638, g_639, g_640, g_641, g_642, g_643, g_644, g_645, g_646, g_647, g_648, g_649, g_650, g_651, g_652, g_653, g_654, g_655, g_656, g_657, g_658, g_659, g_660, g_661, g_662, g_0_0, g_0_1, g_0_2, g_0_3, g_0_4, g_0_5, g_0_6, g_0_7, g_0_8, g_0_9, g_0_10, g_0_11, g_1_0, g_3_0, g_327_0, g_327_1, g_327_2, g_327_3, g_328_0, g_330_0, g_332_0, g_334_0, g_336_0, g_336_1, g_336_2, g_336_3, g_337_0, g_339_0, g_341_0, g_464_0, g_464_1, g_484_0, g_484_1, g_484_2, g_485_0, g_487_0, g_489_0, g_491_0, g_491_1, g_491_2, g_491_3, g_491_4, g_491_5, g_491_6, g_491_7, g_496_0, g_498_0, g_500_0, g_500_1, g_500_3, g_500_4, g_500_5, g_500_6, g_500_7, g_562_0, g_564_0, g_566_0, g_580_0, g_580_1, g_580_2, g_580_3, g_581_0, g_583_0, g_585_0, g_588_1, g_588_2, g_588_3, g_588_4, g_588_6, g_601_0, g_601_1, g_601_2, g_601_3, g_601_4, g_601_5, g_601_6, g_601_7, g_601_8, g_608_0, g_610_0, g_612_0, g_612_2, g_612_4, g_612_5, g_612_7, g_612_8, g_612_9, g_612_10, g_612_11, g_612_12, g_612_13, g_612_14, g_612_15, g_612_16, g_612_19, g_612_20, g_612_22, g_612_24, g_612_25, g_612_26, g_612_27, g_612_28, g_612_30, g_612_31, g_612_32, g_612_33, g_612_34, g_612_36, g_612_37, g_612_38, g_612_39, g_612_40, g_612_41, g_612_42, g_612_43, g_612_44, g_612_46, g_612_47, g_612_48, g_612_49, g_612_50, g_612_53, g_612_56, g_612_57, g_612_58, g_612_59, g_612_61, g_612_62, g_612_63, g_612_64, gT hT, g3, g4.1, W_size g4, W_at g4 (show τ.1 (T + 11 + 4 * r.toNat) 1 ≤ ((4 : Nat) : Int) by omega)]
    refine ⟨by omega, fun e => ⟨by omega, ?_⟩, fun e => ⟨by omega, ?_⟩⟩
    · rw [show keyN τ t r = j by omega] at hQ; exact hQ
    · rw [if_pos (by omega), (e3 j j0 (by omega)).2.symm]
      refine ⟨zand_I _ _, by omega, ?_⟩
      rw [zand_not]
      have es : kB1 (keyF τ t r) s (j.toNat + 1) = zor (kB1 (keyF τ t r) s j.toNat) (zshl 1 (τ.1 617 (4 * (24 * t + r) + j))) := by
        show zor _ (zshl 1 (keyF τ t r ((j.toNat : Nat) : Int))) = _
        rw [ej]; rfl
      rw [es] at q
      exact q (by omega) (by omega) hQ
set_option maxRecDepth 100000 in
theorem W8_unused_6 {T : Nat} {t : Int} {τ : kzM} (hT : isT T) (h : I3r τ T t) (Q : Int → kzM → Prop) : ∀ (n : Nat) (j : Int), 0 ≤ j → j ≤ τ.1 T 2 → τ.1 T 2 - j < (n : Int) → Q (zand 4095 (zxor (kB (keyF τ t) (keyN τ t) (τ.1 T 2).toNat) (-1))) τ → Wz (lp (fun _ _ _ _ => none) (Z8_unusedKeys_6B kdG0) n T (zand 4095 (zxor (kB (keyF τ t) (keyN τ t) j.toNat) (-1))) j) τ Q := by
  have h' := h
  unfold I3r at h'
  obtain ⟨⟨h1, h2⟩, h3, h4⟩ := h'
  intro n
  induction n with
  | zero => intro j; intros; omega
  | succ n ih =>
    intro j j0 j1 j2 hQ
    have q := ih (j + 1) (by omega)
    rw [show (j + 1).toNat = j.toNat + 1 by omega] at q
    have ej : ((j.toNat : Nat) : Int) = j := Int.toNat_of_nonneg j0
    rw [lp_succ]
    unfold Z8_unusedKeys_6B
    simp only [Wz_rt, Wz_cnd, Wz_lI, Wz_lW, Wz_lL, Wz_cl, Wz_cv, Wz_nz, Wz_gI, Wz_gR, Wz_sI, Wz_aI, Wz_aZ, Wz_aL, Wz_aN, Wz_aR, Wz_tI, Wz_tZ, Wz_tL, Option.some.injEq, exists_eq_left', zB_0, zB_1, true_and, and_true, true_implies, not_true_eq_false, false_implies, not_false_eq_true, Classical.not_not, g_0, g_1, g_2, g_3, g_4, g_5, g_327, g_328, g_329, g_330, g_331, g_332, g_333, g_334, g_335, g_336, g_337, g_338, g_339, g_340, g_341, g_342, g_343, g_464, g_465, g_466, g_484, g_485, g_486, g_487, g_488, g_489, g_490, g_491, g_492, g_493, g_494, g_495, g_496, g_497, g_498, g_499, g_500, g_501, g_562, g_563, g_564, g_565, g_566, g_567, g_568, g_574, g_580, g_581, g_582, g_583, g_584, g_585, g_586, g_587, g_588, g_589, g_590, g_591, g_592, g_600, g_601, g_602, g_603, g_604, g_605, g_606, g_607, g_608, g_609, g_610, g_611, g_612, g_613, g_614, g_615, g_616, g_617, g_618, g_619, g_620, g_621, g_622, g_623, g_624, g_625, g_626, g_627, g_628, g_629, g_630, g_631, g_632, g_633, g_634, g_635, g_636, g_637, g_638, g_639, g_640, g_641, g_642, g_643, g_644, g_645, g_646, g_647, g_648, g_649, g_650, g_651, g_652, g_653, g_654, g_655, g_656, g_657, g_658, g_659, g_660, g_661, g_662, g_0_0, g_0_1, g_0_2, g_0_3, g_0_4, g_0_5, g_0_6, g_0_7, g_0_8, g_0_9, g_0_10, g_0_11, g_1_0, g_3_0, g_327_0, g_327_1, g_327_2, g_327_3, g_328_0, g_330_0, g_332_0, g_334_0, g_336_0, g_336_1, g_336_2, g_336_3, g_337_0, g_339_0, g_341_0, g_464_0, g_464_1, g_484_0, g_484_1, g_484_2, g_485_0, g_487_0, g_489_0, g_491_0, g_491_1, g_491_2, g_491_3, g_491_4, g_491_5, g_491_6, g_491_7, g_496_0, g_498_0, g_500_0, g_500_1, g_500_3, g_500_4, g_500_5, g_500_6, g_500_7, g_562_0, g_564_0, g_566_0, g_580_0, g_580_1, g_580_2, g_580_3, g_581_0, g_583_0, g_585_0, g_588_1, g_588_2, g_588_3, g_588_4, g_588_6, g_601_0, g_601_1, g_601_2, g_601_3, g_601_4, g_601_5, g_601_6, g_601_7, g_601_8, g_608_0, g_610_0, g_612_0, g_612_2, g_612_4, g_612_5, g_612_7, g_612_8, g_612_9, g_612_10, g_612_11, g_612_12, g_612_13, g_612_14, g_612_15, g_612_16, g_612_19, g_612_20, g_612_22, g_612_24, g_612_25, g_612_26, g_612_27, g_612_28, g_612_30, g_612_31, g_612_32, g_612_33, g_612_34, g_612_36, g_612_37, g_612_38, g_612_39, g_612_40, g_612_41, g_612_42, g_612_43, g_612_44, g_612_46, g_612_47, g_612_48, g_612_49, g_612_50, g_612_53, g_612_56, g_612_57, g_612_58, g_612_59, g_612_61, g_612_62, g_612_63, g_612_64, gT hT]
    refine ⟨fun e => ?_, fun e => ?_⟩
    · rw [show τ.1 T 2 = j by omega] at hQ; exact hQ
    · unfold Z8_unusedKeys_16
      have e1 := (h4 j j0 (by omega)).1
      unfold eqR at e1
      have eK : keyN τ t j = τ.1 (T + 11 + 4 * j.toNat) 1 := e1.2.1
      refine W8_unused_16 (s := kB (keyF τ t) (keyN τ t) j.toNat) hT h j0 (by omega) Q NN 0 (by omega) (by omega) (by unfold NN; omega) ?_
      have es : kB (keyF τ t) (keyN τ t) (j.toNat + 1) = kB1 (keyF τ t j) (kB (keyF τ t) (keyN τ t) j.toNat) (keyN τ t j).toNat := by
        show kB1 (keyF τ t ((j.toNat : Nat) : Int)) _ (keyN τ t ((j.toNat : Nat) : Int)).toNat = _
        rw [ej]
      rw [es] at q
      exact q (by omega) (by omega) hQ
set_option maxRecDepth 100000 in
theorem W12_idle_65 {T : Nat} {t r s w b : Int} {τ : kzM} (t0 : 0 ≤ t) (t3 : t < 3) (h : I3r τ T t) (r0 : 0 ≤ r) (r1 : r < τ.1 T 2) {k30 : Nat → Int → Int → Int → Int → Int → kzM → Option (Int × kzM)} (Q : Int → kzM → Prop) : ∀ (n : Nat) (j : Int), 0 ≤ j → j ≤ keyN τ t r → keyN τ t r - j < (n : Int) → Wz (k30 612 t w b (kB1 (keyF τ t r) s (keyN τ t r).toNat) (r + 1)) τ Q → Wz (lp (fun _ _ _ _ _ _ _ _ => none) (Z12_idle_65B kdG0 k30) n 612 t w b (kB1 (keyF τ t r) s j.toNat) r j) τ Q := by
  have h' := h
  unfold I3r at h'
  obtain ⟨⟨h1, h2⟩, h3, h4⟩ := h'
  have e1 := (h4 r r0 r1).1
  unfold eqR at e1
  obtain ⟨e1, e2, e3⟩ := e1
  intro n
  induction n with
  | zero => intro j; intros; omega
  | succ n ih =>
    intro j j0 j1 j2 hQ
    have q := ih (j + 1) (by omega)
    rw [show (j + 1).toNat = j.toNat + 1 by omega] at q
    have ej : ((j.toNat : Nat) : Int) = j := Int.toNat_of_nonneg j0
    have eK : keyN τ t r = τ.1 618 (24 * t + r) := rfl
    rw [lp_succ]
    unfold Z12_idle_65B
    simp only [Wz_rt, Wz_cnd, Wz_lI, Wz_lW, Wz_lL, Wz_cl, Wz_cv, Wz_nz, Wz_gI, Wz_gR, Wz_sI, Wz_aI, Wz_aZ, Wz_aL, Wz_aN, Wz_aR, Wz_tI, Wz_tZ, Wz_tL, Option.some.injEq, exists_eq_left', zB_0, zB_1, true_and, and_true, true_implies, not_true_eq_false, false_implies, not_false_eq_true, Classical.not_not, g_0, g_1, g_2, g_3, g_4, g_5, g_327, g_328, g_329, g_330, g_331, g_332, g_333, g_334, g_335, g_336, g_337, g_338, g_339, g_340, g_341, g_342, g_343, g_464, g_465, g_466, g_484, g_485, g_486, g_487, g_488, g_489, g_490, g_491, g_492, g_493, g_494, g_495, g_496, g_497, g_498, g_499, g_500, g_501, g_562, g_563, g_564, g_565, g_566, g_567, g_568, g_574, g_580, g_581, g_582, g_583, g_584, g_585, g_586, g_587, g_588, g_589, g_590, g_591, g_592, g_600, g_601, g_602, g_603, g_604, g_605, g_606, g_607, g_608, g_609, g_610, g_611, g_612, g_613, g_614, g_615, g_616, g_617, g_618, g_619, g_620, g_621, g_622, g_623, g_624, g_625, g_626, g_627, g_628, g_629, g_630, g_631, g_632, g_633, g_634, g_635, g_636, g_637, g_638, g_639, g_640, g_641, g_642, g_643, g_644, g_645, g_646, g_647, g_648, g_649, g_650, g_651, g_652, g_653, g_654, g_655, g_656, g_657, g_658, g_659, g_660, g_661, g_662, g_0_0, g_0_1, g_0_2, g_0_3, g_0_4, g_0_5, g_0_6, g_0_7, g_0_8, g_0_9, g_0_10, g_0_11, g_1_0, g_3_0, g_327_0, g_327_1, g_327_2, g_327_3, g_328_0, g_330_0, g_332_0, g_334_0, g_336_0, g_336_1, g_336_2, g_336_3, g_337_0, g_339_0, g_341_0, g_464_0, g_464_1, g_484_0, g_484_1, g_484_2, g_485_0, g_487_0, g_489_0, g_491_0, g_491_1, g_491_2, g_491_3, g_491_4, g_491_5, g_491_6, g_491_7, g_496_0, g_498_0, g_500_0, g_500_1, g_500_3, g_500_4, g_500_5, g_500_6, g_500_7, g_562_0, g_564_0, g_566_0, g_580_0, g_580_1, g_580_2, g_580_3, g_581_0, g_583_0, g_585_0, g_588_1, g_588_2, g_588_3, g_588_4, g_588_6, g_601_0, g_601_1, g_601_2, g_601_3, g_601_4, g_601_5, g_601_6, g_601_7, g_601_8, g_608_0, g_610_0, g_612_0, g_612_2, g_612_4, g_612_5, g_612_7, g_612_8, g_612_9, g_612_10, g_612_11, g_612_12, g_612_13, g_612_14, g_612_15, g_612_16, g_612_19, g_612_20, g_612_22, g_612_24, g_612_25, g_612_26, g_612_27, g_612_28, g_612_30, g_612_31, g_612_32, g_612_33, g_612_34, g_612_36, g_612_37, g_612_38, g_612_39, g_612_40, g_612_41, g_612_42, g_612_43, g_612_44, g_612_46, g_612_47, g_612_48, g_612_49, g_612_50, g_612_53, g_612_56, g_612_57, g_612_58, g_612_59, g_612_61, g_612_62, g_612_63, g_612_64]
    refine ⟨by omega, fun e => ⟨by omega, ?_⟩, fun e => ⟨by omega, zor_I _ _, by omega, ?_⟩⟩
    · rw [show keyN τ t r = j by omega] at hQ; exact hQ
    · have es : kB1 (keyF τ t r) s (j.toNat + 1) = zor (kB1 (keyF τ t r) s j.toNat) (zshl 1 (τ.1 617 (4 * (24 * t + r) + j))) := by
        show zor _ (zshl 1 (keyF τ t r ((j.toNat : Nat) : Int))) = _
        rw [ej]; rfl
      rw [es] at q
      exact q (by omega) (by omega) hQ
set_option maxRecDepth 100000 in
theorem W12_idle_30 {T : Nat} {t w : Int} {τ : kzM} (t0 : 0 ≤ t) (t3 : t < 3) (h : I3r τ T t) (Q : Int → kzM → Prop) : ∀ (n : Nat) (j : Int), 0 ≤ j → j ≤ τ.1 T 2 → τ.1 T 2 - j < (n : Int) → (w = 0 → Q (bI (isIdleP τ t) (τ.1 T 2).toNat) τ) → (¬w = 0 → Q (zand 4095 (zxor (kB (keyF τ t) (keyN τ t) (τ.1 T 2).toNat) (-1))) τ) → Wz (lp (fun _ _ _ _ _ _ _ => none) (Z12_idle_30B kdG0) n 612 t w (bI (isIdleP τ t) j.toNat) (kB (keyF τ t) (keyN τ t) j.toNat) j) τ Q := by
  have h' := h
  unfold I3r at h'
  obtain ⟨⟨h1, h2⟩, h3, h4⟩ := h'
  intro n
  induction n with
  | zero => intro j; intros; omega
  | succ n ih =>
    intro j j0 j1 j2 hQ hR
    have q := ih (j + 1) (by omega)
    rw [show (j + 1).toNat = j.toNat + 1 by omega] at q
    have ej : ((j.toNat : Nat) : Int) = j := Int.toNat_of_nonneg j0
    rw [lp_succ]
    unfold Z12_idle_30B
    simp only [Z12_idle_60, Z12_idle_134, Wz_rt, Wz_cnd, Wz_lI, Wz_lW, Wz_lL, Wz_cl, Wz_cv, Wz_nz, Wz_gI, Wz_gR, Wz_sI, Wz_aI, Wz_aZ, Wz_aL, Wz_aN, Wz_aR, Wz_tI, Wz_tZ, Wz_tL, Option.some.injEq, exists_eq_left', zB_0, zB_1, true_and, and_true, true_implies, not_true_eq_false, false_implies, not_false_eq_true, Classical.not_not, g_0, g_1, g_2, g_3, g_4, g_5, g_327, g_328, g_329, g_330, g_331, g_332, g_333, g_334, g_335, g_336, g_337, g_338, g_339, g_340, g_341, g_342, g_343, g_464, g_465, g_466, g_484, g_485, g_486, g_487, g_488, g_489, g_490, g_491, g_492, g_493, g_494, g_495, g_496, g_497, g_498, g_499, g_500, g_501, g_562, g_563, g_564, g_565, g_566, g_567, g_568, g_574, g_580, g_581, g_582, g_583, g_584, g_585, g_586, g_587, g_588, g_589, g_590, g_591, g_592, g_600, g_601, g_602, g_603, g_604, g_605, g_606, g_607, g_608, g_609, g_610, g_611, g_612, g_613, g_614, g_615, g_616, g_617, g_618, g_619, g_620, g_621, g_622, g_623, g_624, g_625, g_626, g_627, g_628, g_629, g_630, g_631, g_632, g_633, g_634, g_635, g_636, g_637, g_638, g_639, g_640, g_641, g_642, g_643, g_644, g_645, g_646, g_647, g_648, g_649, g_650, g_651, g_652, g_653, g_654, g_655, g_656, g_657, g_658, g_659, g_660, g_661, g_662, g_0_0, g_0_1, g_0_2, g_0_3, g_0_4, g_0_5, g_0_6, g_0_7, g_0_8, g_0_9, g_0_10, g_0_11, g_1_0, g_3_0, g_327_0, g_327_1, g_327_2, g_327_3, g_328_0, g_330_0, g_332_0, g_334_0, g_336_0, g_336_1, g_336_2, g_336_3, g_337_0, g_339_0, g_341_0, g_464_0, g_464_1, g_484_0, g_484_1, g_484_2, g_485_0, g_487_0, g_489_0, g_491_0, g_491_1, g_491_2, g_491_3, g_491_4, g_491_5, g_491_6, g_491_7, g_496_0, g_498_0, g_500_0, g_500_1, g_500_3, g_500_4, g_500_5, g_500_6, g_500_7, g_562_0, g_564_0, g_566_0, g_580_0, g_580_1, g_580_2, g_580_3, g_581_0, g_583_0, g_585_0, g_588_1, g_588_2, g_588_3, g_588_4, g_588_6, g_601_0, g_601_1, g_601_2, g_601_3, g_601_4, g_601_5, g_601_6, g_601_7, g_601_8, g_608_0, g_610_0, g_612_0, g_612_2, g_612_4, g_612_5, g_612_7, g_612_8, g_612_9, g_612_10, g_612_11, g_612_12, g_612_13, g_612_14, g_612_15, g_612_16, g_612_19, g_612_20, g_612_22, g_612_24, g_612_25, g_612_26, g_612_27, g_612_28, g_612_30, g_612_31, g_612_32, g_612_33, g_612_34, g_612_36, g_612_37, g_612_38, g_612_39, g_612_40, g_612_41, g_612_42, g_612_43, g_612_44, g_612_46, g_612_47, g_612_48, g_612_49, g_612_50, g_612_53, g_612_56, g_612_57, g_612_58, g_612_59, g_612_61, g_612_62, g_612_63, g_612_64, h3]
    refine ⟨by omega, fun e => ⟨fun z => ?_, fun z => ⟨zand_I _ _, ?_⟩⟩, fun e => W12_isIdle t0 t3 h j0 (by omega) ?_⟩
    · have hQ := hQ z; rw [show τ.1 T 2 = j by omega] at hQ; exact hQ
    · have hR := hR z; rw [show τ.1 T 2 = j by omega] at hR; exact hR
    · rw [zp_0]
      have e1 := (h4 j j0 (by omega)).1
      unfold eqR at e1
      have eK : keyN τ t j = τ.1 (T + 11 + 4 * j.toNat) 1 := e1.2.1
      have es : kB (keyF τ t) (keyN τ t) (j.toNat + 1) = kB1 (keyF τ t j) (kB (keyF τ t) (keyN τ t) j.toNat) (keyN τ t j).toNat := by
        show kB1 (keyF τ t ((j.toNat : Nat) : Int)) _ (keyN τ t ((j.toNat : Nat) : Int)).toNat = _
        rw [ej]
      rw [es] at q
      unfold Z12_idle_65
      refine ⟨fun z => ⟨zor_I _ _, ?_⟩, fun z => ⟨zshl_I _ _, zor_I _ _, ?_⟩⟩
      · refine W12_idle_65 (s := kB (keyF τ t) (keyN τ t) j.toNat) t0 t3 h j0 (by omega) Q NN 0 (by omega) (by omega) (by unfold NN; omega) ?_
        rw [bI_neg (by rw [ej]; exact z)] at q
        rw [zor_0 (bI_I _)]
        exact q (by omega) (by omega) hQ hR
      · refine W12_idle_65 (s := kB (keyF τ t) (keyN τ t) j.toNat) t0 t3 h j0 (by omega) Q NN 0 (by omega) (by omega) (by unfold NN; omega) ?_
        rw [bI_pos (by rw [ej]; exact Classical.not_not.mp z), ej] at q
        exact q (by omega) (by omega) hQ hR
set_option maxRecDepth 100000 in
theorem m_idle (t w : Int) (_ : kzI t) (_ : kzI w) : MOK (Z11_idle kdG0 0 t w) (Z12_idle kdG0 612 t w) := by
  intro τ hI
  have i3 := hI.2.2.1
  by_cases c : (0 ≤ t ∧ t ≤ 2) ∧ (w = 0 ∨ w = 1)
  · obtain ⟨c, cw⟩ := c
    obtain ⟨q1, q2⟩ := g_to (i := t) (by omega) (by omega)
    obtain ⟨i3r, i3j, i3l⟩ := i3 t (by omega) (by omega)
    have i3r' := i3r
    unfold I3r at i3r'
    simp only [Z11_idle, Z8_idleRules, Z8_unusedKeys, Z11_isKey, Z11_isLetter, Z11_isTongue, Z11_isHand, Z11_isDay, Z12_isKey, Z12_isLetter, Z12_isTongue, Z12_isHand, Z12_areTongues, Z12_isWord, Z12_isSymbol, W_within, W_in, zp_0, zB_zp, W_size r_1, W_isEmpty r_1, W_isFull r_1, W_has r_1, W_clear r_1, W_size r_3, W_isEmpty r_3, W_isFull r_3, W_has r_3, W_clear r_3, W_size r_328, W_isEmpty r_328, W_isFull r_328, W_has r_328, W_clear r_328, W_size r_330, W_isEmpty r_330, W_isFull r_330, W_has r_330, W_clear r_330, W_size r_332, W_isEmpty r_332, W_isFull r_332, W_has r_332, W_clear r_332, W_size r_334, W_isEmpty r_334, W_isFull r_334, W_has r_334, W_clear r_334, W_size r_337, W_isEmpty r_337, W_isFull r_337, W_has r_337, W_clear r_337, W_size r_339, W_isEmpty r_339, W_isFull r_339, W_has r_339, W_clear r_339, W_size r_341, W_isEmpty r_341, W_isFull r_341, W_has r_341, W_clear r_341, W_size r_485, W_isEmpty r_485, W_isFull r_485, W_has r_485, W_clear r_485, W_size r_487, W_isEmpty r_487, W_isFull r_487, W_has r_487, W_clear r_487, W_size r_489, W_isEmpty r_489, W_isFull r_489, W_has r_489, W_clear r_489, W_size r_496, W_isEmpty r_496, W_isFull r_496, W_has r_496, W_clear r_496, W_size r_498, W_isEmpty r_498, W_isFull r_498, W_has r_498, W_clear r_498, W_size r_562, W_isEmpty r_562, W_isFull r_562, W_has r_562, W_clear r_562, W_size r_564, W_isEmpty r_564, W_isFull r_564, W_has r_564, W_clear r_564, W_size r_566, W_isEmpty r_566, W_isFull r_566, W_has r_566, W_clear r_566, W_size r_581, W_isEmpty r_581, W_isFull r_581, W_has r_581, W_clear r_581, W_size r_583, W_isEmpty r_583, W_isFull r_583, W_has r_583, W_clear r_583, W_size r_585, W_isEmpty r_585, W_isFull r_585, W_has r_585, W_clear r_585, W_size r_608, W_isEmpty r_608, W_isFull r_608, W_has r_608, W_clear r_608, W_size r_610, W_isEmpty r_610, W_isFull r_610, W_has r_610, W_clear r_610, Wz_rt, Wz_cnd, Wz_lI, Wz_lW, Wz_lL, Wz_cl, Wz_cv, Wz_nz, Wz_gI, Wz_gR, Wz_sI, Wz_aI, Wz_aZ, Wz_aL, Wz_aN, Wz_aR, Wz_tI, Wz_tZ, Wz_tL, Option.some.injEq, exists_eq_left', zB_0, zB_1, true_and, and_true, true_implies, not_true_eq_false, false_implies, not_false_eq_true, Classical.not_not, g_0, g_1, g_2, g_3, g_4, g_5, g_327, g_328, g_329, g_330, g_331, g_332, g_333, g_334, g_335, g_336, g_337, g_338, g_339, g_340, g_341, g_342, g_343, g_464, g_465, g_466, g_484, g_485, g_486, g_487, g_488, g_489, g_490, g_491, g_492, g_493, g_494, g_495, g_496, g_497, g_498, g_499, g_500, g_501, g_562, g_563, g_564, g_565, g_566, g_567, g_568, g_574, g_580, g_581, g_582, g_583, g_584, g_585, g_586, g_587, g_588, g_589, g_590, g_591, g_592, g_600, g_601, g_602, g_603, g_604, g_605, g_606, g_607, g_608, g_609, g_610, g_611, g_612, g_613, g_614, g_615, g_616, g_617, g_618, g_619, g_620, g_621, g_622, g_623, g_624, g_625, g_626, g_627, g_628, g_629, g_630, g_631, g_632, g_633, g_634, g_635, g_636, g_637, g_638, g_639, g_640, g_641, g_642, g_643, g_644, g_645, g_646, g_647, g_648, g_649, g_650, g_651, g_652, g_653, g_654, g_655, g_656, g_657, g_658, g_659, g_660, g_661, g_662, g_0_0, g_0_1, g_0_2, g_0_3, g_0_4, g_0_5, g_0_6, g_0_7, g_0_8, g_0_9, g_0_10, g_0_11, g_1_0, g_3_0, g_327_0, g_327_1, g_327_2, g_327_3, g_328_0, g_330_0, g_332_0, g_334_0, g_336_0, g_336_1, g_336_2, g_336_3, g_337_0, g_339_0, g_341_0, g_464_0, g_464_1, g_484_0, g_484_1, g_484_2, g_485_0, g_487_0, g_489_0, g_491_0, g_491_1, g_491_2, g_491_3, g_491_4, g_491_5, g_491_6, g_491_7, g_496_0, g_498_0, g_500_0, g_500_1, g_500_3, g_500_4, g_500_5, g_500_6, g_500_7, g_562_0, g_564_0, g_566_0, g_580_0, g_580_1, g_580_2, g_580_3, g_581_0, g_583_0, g_585_0, g_588_1, g_588_2, g_588_3, g_588_4, g_588_6, g_601_0, g_601_1, g_601_2, g_601_3, g_601_4, g_601_5, g_601_6, g_601_7, g_601_8, g_608_0, g_610_0, g_612_0, g_612_2, g_612_4, g_612_5, g_612_7, g_612_8, g_612_9, g_612_10, g_612_11, g_612_12, g_612_13, g_612_14, g_612_15, g_612_16, g_612_19, g_612_20, g_612_22, g_612_24, g_612_25, g_612_26, g_612_27, g_612_28, g_612_30, g_612_31, g_612_32, g_612_33, g_612_34, g_612_36, g_612_37, g_612_38, g_612_39, g_612_40, g_612_41, g_612_42, g_612_43, g_612_44, g_612_46, g_612_47, g_612_48, g_612_49, g_612_50, g_612_53, g_612_56, g_612_57, g_612_58, g_612_59, g_612_61, g_612_62, g_612_63, g_612_64, addF, v2, rw1, Nat.reduceEqDiff, Nat.reduceAdd, Int.reduceEq, Int.reduceNeg, reduceIte, false_and, and_false, true_and, and_true, and_self, q1, (gT q2).1, c]
    have mdl : ∀ (Q : Int → kzM → Prop), (w = 0 → Q (bI (isIdleP τ t) (τ.1 (6 + 107 * t.toNat) 2).toNat) τ) → (¬w = 0 → Q (zand 4095 (zxor (kB (keyF τ t) (keyN τ t) (τ.1 (6 + 107 * t.toNat) 2).toNat) (-1))) τ) → Wz (Z12_idle kdG0 612 t w) τ Q := fun Q k1 k2 => by
      simp only [Z12_idle, Z11_isKey, Z11_isLetter, Z11_isTongue, Z11_isHand, Z11_isDay, Z12_isKey, Z12_isLetter, Z12_isTongue, Z12_isHand, Z12_areTongues, Z12_isWord, Z12_isSymbol, W_within, W_in, zp_0, zB_zp, W_size r_1, W_isEmpty r_1, W_isFull r_1, W_has r_1, W_clear r_1, W_size r_3, W_isEmpty r_3, W_isFull r_3, W_has r_3, W_clear r_3, W_size r_328, W_isEmpty r_328, W_isFull r_328, W_has r_328, W_clear r_328, W_size r_330, W_isEmpty r_330, W_isFull r_330, W_has r_330, W_clear r_330, W_size r_332, W_isEmpty r_332, W_isFull r_332, W_has r_332, W_clear r_332, W_size r_334, W_isEmpty r_334, W_isFull r_334, W_has r_334, W_clear r_334, W_size r_337, W_isEmpty r_337, W_isFull r_337, W_has r_337, W_clear r_337, W_size r_339, W_isEmpty r_339, W_isFull r_339, W_has r_339, W_clear r_339, W_size r_341, W_isEmpty r_341, W_isFull r_341, W_has r_341, W_clear r_341, W_size r_485, W_isEmpty r_485, W_isFull r_485, W_has r_485, W_clear r_485, W_size r_487, W_isEmpty r_487, W_isFull r_487, W_has r_487, W_clear r_487, W_size r_489, W_isEmpty r_489, W_isFull r_489, W_has r_489, W_clear r_489, W_size r_496, W_isEmpty r_496, W_isFull r_496, W_has r_496, W_clear r_496, W_size r_498, W_isEmpty r_498, W_isFull r_498, W_has r_498, W_clear r_498, W_size r_562, W_isEmpty r_562, W_isFull r_562, W_has r_562, W_clear r_562, W_size r_564, W_isEmpty r_564, W_isFull r_564, W_has r_564, W_clear r_564, W_size r_566, W_isEmpty r_566, W_isFull r_566, W_has r_566, W_clear r_566, W_size r_581, W_isEmpty r_581, W_isFull r_581, W_has r_581, W_clear r_581, W_size r_583, W_isEmpty r_583, W_isFull r_583, W_has r_583, W_clear r_583, W_size r_585, W_isEmpty r_585, W_isFull r_585, W_has r_585, W_clear r_585, W_size r_608, W_isEmpty r_608, W_isFull r_608, W_has r_608, W_clear r_608, W_size r_610, W_isEmpty r_610, W_isFull r_610, W_has r_610, W_clear r_610, Wz_rt, Wz_cnd, Wz_lI, Wz_lW, Wz_lL, Wz_cl, Wz_cv, Wz_nz, Wz_gI, Wz_gR, Wz_sI, Wz_aI, Wz_aZ, Wz_aL, Wz_aN, Wz_aR, Wz_tI, Wz_tZ, Wz_tL, Option.some.injEq, exists_eq_left', zB_0, zB_1, true_and, and_true, true_implies, not_true_eq_false, false_implies, not_false_eq_true, Classical.not_not, g_0, g_1, g_2, g_3, g_4, g_5, g_327, g_328, g_329, g_330, g_331, g_332, g_333, g_334, g_335, g_336, g_337, g_338, g_339, g_340, g_341, g_342, g_343, g_464, g_465, g_466, g_484, g_485, g_486, g_487, g_488, g_489, g_490, g_491, g_492, g_493, g_494, g_495, g_496, g_497, g_498, g_499, g_500, g_501, g_562, g_563, g_564, g_565, g_566, g_567, g_568, g_574, g_580, g_581, g_582, g_583, g_584, g_585, g_586, g_587, g_588, g_589, g_590, g_591, g_592, g_600, g_601, g_602, g_603, g_604, g_605, g_606, g_607, g_608, g_609, g_610, g_611, g_612, g_613, g_614, g_615, g_616, g_617, g_618, g_619, g_620, g_621, g_622, g_623, g_624, g_625, g_626, g_627, g_628, g_629, g_630, g_631, g_632, g_633, g_634, g_635, g_636, g_637, g_638, g_639, g_640, g_641, g_642, g_643, g_644, g_645, g_646, g_647, g_648, g_649, g_650, g_651, g_652, g_653, g_654, g_655, g_656, g_657, g_658, g_659, g_660, g_661, g_662, g_0_0, g_0_1, g_0_2, g_0_3, g_0_4, g_0_5, g_0_6, g_0_7, g_0_8, g_0_9, g_0_10, g_0_11, g_1_0, g_3_0, g_327_0, g_327_1, g_327_2, g_327_3, g_328_0, g_330_0, g_332_0, g_334_0, g_336_0, g_336_1, g_336_2, g_336_3, g_337_0, g_339_0, g_341_0, g_464_0, g_464_1, g_484_0, g_484_1, g_484_2, g_485_0, g_487_0, g_489_0, g_491_0, g_491_1, g_491_2, g_491_3, g_491_4, g_491_5, g_491_6, g_491_7, g_496_0, g_498_0, g_500_0, g_500_1, g_500_3, g_500_4, g_500_5, g_500_6, g_500_7, g_562_0, g_564_0, g_566_0, g_580_0, g_580_1, g_580_2, g_580_3, g_581_0, g_583_0, g_585_0, g_588_1, g_588_2, g_588_3, g_588_4, g_588_6, g_601_0, g_601_1, g_601_2, g_601_3, g_601_4, g_601_5, g_601_6, g_601_7, g_601_8, g_608_0, g_610_0, g_612_0, g_612_2, g_612_4, g_612_5, g_612_7, g_612_8, g_612_9, g_612_10, g_612_11, g_612_12, g_612_13, g_612_14, g_612_15, g_612_16, g_612_19, g_612_20, g_612_22, g_612_24, g_612_25, g_612_26, g_612_27, g_612_28, g_612_30, g_612_31, g_612_32, g_612_33, g_612_34, g_612_36, g_612_37, g_612_38, g_612_39, g_612_40, g_612_41, g_612_42, g_612_43, g_612_44, g_612_46, g_612_47, g_612_48, g_612_49, g_612_50, g_612_53, g_612_56, g_612_57, g_612_58, g_612_59, g_612_61, g_612_62, g_612_63, g_612_64, addF, v2, rw1, Nat.reduceEqDiff, Nat.reduceAdd, Int.reduceEq, Int.reduceNeg, reduceIte, false_and, and_false, true_and, and_true, and_self, c]
      refine ⟨fun z => by omega, fun _ => ?_⟩
      unfold Z12_idle_30
      exact W12_idle_30 (by omega) (by omega) i3r Q NN 0 (by omega) i3r'.1.1 (by unfold NN; omega) k1 k2
    refine ⟨fun z => ⟨by omega, ?_⟩, fun z => ⟨fun y => ⟨by omega, ?_⟩, fun y => by omega⟩⟩
    · unfold Z8_idleRules_4
      refine W8_idleRules_4 q2 i3r _ NN 0 (by omega) i3r'.1.1 (by unfold NN; omega) ?_
      exact mdl _ (fun _ => ⟨rfl, hI⟩) (fun y => absurd z y)
    · unfold Z8_unusedKeys_6
      have h4 : (4095 : Int) = zand 4095 (zxor (kB (keyF τ t) (keyN τ t) (0 : Int).toNat) (-1)) := zand_4095.symm
      rw [h4]
      refine W8_unused_6 q2 i3r _ NN 0 (by omega) i3r'.1.1 (by unfold NN; omega) ?_
      exact mdl _ (fun y => absurd y z) (fun _ => ⟨rfl, hI⟩)
  · simp only [Z11_idle, Z12_idle, Z11_isKey, Z11_isLetter, Z11_isTongue, Z11_isHand, Z11_isDay, Z12_isKey, Z12_isLetter, Z12_isTongue, Z12_isHand, Z12_areTongues, Z12_isWord, Z12_isSymbol, W_within, W_in, zp_0, zB_zp, W_size r_1, W_isEmpty r_1, W_isFull r_1, W_has r_1, W_clear r_1, W_size r_3, W_isEmpty r_3, W_isFull r_3, W_has r_3, W_clear r_3, W_size r_328, W_isEmpty r_328, W_isFull r_328, W_has r_328, W_clear r_328, W_size r_330, W_isEmpty r_330, W_isFull r_330, W_has r_330, W_clear r_330, W_size r_332, W_isEmpty r_332, W_isFull r_332, W_has r_332, W_clear r_332, W_size r_334, W_isEmpty r_334, W_isFull r_334, W_has r_334, W_clear r_334, W_size r_337, W_isEmpty r_337, W_isFull r_337, W_has r_337, W_clear r_337, W_size r_339, W_isEmpty r_339, W_isFull r_339, W_has r_339, W_clear r_339, W_size r_341, W_isEmpty r_341, W_isFull r_341, W_has r_341, W_clear r_341, W_size r_485, W_isEmpty r_485, W_isFull r_485, W_has r_485, W_clear r_485, W_size r_487, W_isEmpty r_487, W_isFull r_487, W_has r_487, W_clear r_487, W_size r_489, W_isEmpty r_489, W_isFull r_489, W_has r_489, W_clear r_489, W_size r_496, W_isEmpty r_496, W_isFull r_496, W_has r_496, W_clear r_496, W_size r_498, W_isEmpty r_498, W_isFull r_498, W_has r_498, W_clear r_498, W_size r_562, W_isEmpty r_562, W_isFull r_562, W_has r_562, W_clear r_562, W_size r_564, W_isEmpty r_564, W_isFull r_564, W_has r_564, W_clear r_564, W_size r_566, W_isEmpty r_566, W_isFull r_566, W_has r_566, W_clear r_566, W_size r_581, W_isEmpty r_581, W_isFull r_581, W_has r_581, W_clear r_581, W_size r_583, W_isEmpty r_583, W_isFull r_583, W_has r_583, W_clear r_583, W_size r_585, W_isEmpty r_585, W_isFull r_585, W_has r_585, W_clear r_585, W_size r_608, W_isEmpty r_608, W_isFull r_608, W_has r_608, W_clear r_608, W_size r_610, W_isEmpty r_610, W_isFull r_610, W_has r_610, W_clear r_610, Wz_rt, Wz_cnd, Wz_lI, Wz_lW, Wz_lL, Wz_cl, Wz_cv, Wz_nz, Wz_gI, Wz_gR, Wz_sI, Wz_aI, Wz_aZ, Wz_aL, Wz_aN, Wz_aR, Wz_tI, Wz_tZ, Wz_tL, Option.some.injEq, exists_eq_left', zB_0, zB_1, true_and, and_true, true_implies, not_true_eq_false, false_implies, not_false_eq_true, Classical.not_not, g_0, g_1, g_2, g_3, g_4, g_5, g_327, g_328, g_329, g_330, g_331, g_332, g_333, g_334, g_335, g_336, g_337, g_338, g_339, g_340, g_341, g_342, g_343, g_464, g_465, g_466, g_484, g_485, g_486, g_487, g_488, g_489, g_490, g_491, g_492, g_493, g_494, g_495, g_496, g_497, g_498, g_499, g_500, g_501, g_562, g_563, g_564, g_565, g_566, g_567, g_568, g_574, g_580, g_581, g_582, g_583, g_584, g_585, g_586, g_587, g_588, g_589, g_590, g_591, g_592, g_600, g_601, g_602, g_603, g_604, g_605, g_606, g_607, g_608, g_609, g_610, g_611, g_612, g_613, g_614, g_615, g_616, g_617, g_618, g_619, g_620, g_621, g_622, g_623, g_624, g_625, g_626, g_627, g_628, g_629, g_630, g_631, g_632, g_633, g_634, g_635, g_636, g_637, g_638, g_639, g_640, g_641, g_642, g_643, g_644, g_645, g_646, g_647, g_648, g_649, g_650, g_651, g_652, g_653, g_654, g_655, g_656, g_657, g_658, g_659, g_660, g_661, g_662, g_0_0, g_0_1, g_0_2, g_0_3, g_0_4, g_0_5, g_0_6, g_0_7, g_0_8, g_0_9, g_0_10, g_0_11, g_1_0, g_3_0, g_327_0, g_327_1, g_327_2, g_327_3, g_328_0, g_330_0, g_332_0, g_334_0, g_336_0, g_336_1, g_336_2, g_336_3, g_337_0, g_339_0, g_341_0, g_464_0, g_464_1, g_484_0, g_484_1, g_484_2, g_485_0, g_487_0, g_489_0, g_491_0, g_491_1, g_491_2, g_491_3, g_491_4, g_491_5, g_491_6, g_491_7, g_496_0, g_498_0, g_500_0, g_500_1, g_500_3, g_500_4, g_500_5, g_500_6, g_500_7, g_562_0, g_564_0, g_566_0, g_580_0, g_580_1, g_580_2, g_580_3, g_581_0, g_583_0, g_585_0, g_588_1, g_588_2, g_588_3, g_588_4, g_588_6, g_601_0, g_601_1, g_601_2, g_601_3, g_601_4, g_601_5, g_601_6, g_601_7, g_601_8, g_608_0, g_610_0, g_612_0, g_612_2, g_612_4, g_612_5, g_612_7, g_612_8, g_612_9, g_612_10, g_612_11, g_612_12, g_612_13, g_612_14, g_612_15, g_612_16, g_612_19, g_612_20, g_612_22, g_612_24, g_612_25, g_612_26, g_612_27, g_612_28, g_612_30, g_612_31, g_612_32, g_612_33, g_612_34, g_612_36, g_612_37, g_612_38, g_612_39, g_612_40, g_612_41, g_612_42, g_612_43, g_612_44, g_612_46, g_612_47, g_612_48, g_612_49, g_612_50, g_612_53, g_612_56, g_612_57, g_612_58, g_612_59, g_612_61, g_612_62, g_612_63, g_612_64, addF, v2, rw1, Nat.reduceEqDiff, Nat.reduceAdd, Int.reduceEq, Int.reduceNeg, reduceIte, false_and, and_false, true_and, and_true, and_self]
    (repeat' (first | with_reducible (refine And.intro ?_ ?_) | intro _)) <;> first | omega | with_reducible exact hI
