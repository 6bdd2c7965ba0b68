/-! forget -/
def ckF (fh fw : Int → Int) (h w : Int) : Nat → Int
  | 0 => 0
  | n + 1 => if fh n = h ∧ (w = -1 ∨ fw n = w) then ckF fh fw h w n else ckF fh fw h w n + 1
theorem ckF_1 {fh fw : Int → Int} {h w : Int} (n : Nat) : ckF fh fw h w (n + 1) = if fh n = h ∧ (w = -1 ∨ fw n = w) then ckF fh fw h w n else ckF fh fw h w n + 1 := rfl
theorem ckF_b {fh fw : Int → Int} {h w : Int} : ∀ n : Nat, 0 ≤ ckF fh fw h w n ∧ ckF fh fw h w n ≤ n
  | 0 => ⟨Int.le_refl _, Int.le_refl _⟩
  | n + 1 => by have := ckF_b (fh := fh) (fw := fw) (h := h) (w := w) n; unfold ckF; split <;> omega
theorem ckF_m {fh fw : Int → Int} {h w : Int} (k : Nat) : ∀ d : Nat, ckF fh fw h w k ≤ ckF fh fw h w (k + d) ∧ ckF fh fw h w (k + d) ≤ ckF fh fw h w k + d
  | 0 => ⟨Int.le_refl _, by simp⟩
  | d + 1 => by
    have := ckF_m (fh := fh) (fw := fw) (h := h) (w := w) k d
    rw [show k + (d + 1) = (k + d) + 1 by omega, ckF_1]
    split <;> omega
theorem ckF_s {fh fw : Int → Int} {h w : Int} : ∀ (n : Nat) (x : Int), 0 ≤ x → x < ckF fh fw h w n → ∃ k : Nat, k < n ∧ ¬(fh k = h ∧ (w = -1 ∨ fw k = w)) ∧ ckF fh fw h w k = x
  | 0, x, h0, h1 => by unfold ckF at h1; omega
  | n + 1, x, h0, h1 => by
    unfold ckF at h1
    by_cases c : fh n = h ∧ (w = -1 ∨ fw n = w)
    · rw [if_pos c] at h1
      obtain ⟨k, k1, k2, k3⟩ := ckF_s (fh := fh) (fw := fw) (h := h) (w := w) n x h0 h1
      exact ⟨k, by omega, k2, k3⟩
    · rw [if_neg c] at h1
      by_cases d : x = ckF fh fw h w n
      · exact ⟨n, by omega, c, d.symm⟩
      · obtain ⟨k, k1, k2, k3⟩ := ckF_s (fh := fh) (fw := fw) (h := h) (w := w) n x h0 (by omega)
        exact ⟨k, by omega, k2, k3⟩
theorem ckF_c {fh fw gh gw : Int → Int} {h w : Int} : ∀ n : Nat, (∀ k : Int, 0 ≤ k → k < n → fh k = gh k ∧ fw k = gw k) → ckF fh fw h w n = ckF gh gw h w n
  | 0, _ => rfl
  | n + 1, e => by
    obtain ⟨e1, e2⟩ := e n (by omega) (by omega)
    unfold ckF
    rw [ckF_c n (fun k k0 k1 => e k k0 (by omega)), e1, e2]
def posM (fh fw f f' : Int → Int) (h w k : Int) : Prop := (∀ j, 0 ≤ j → j < k → ¬(fh j = h ∧ (w = -1 ∨ fw j = w)) → f' (ckF fh fw h w j.toNat) = f j) ∧ ∀ j, k ≤ j → f' j = f j
theorem posM_goes {fh fw f f' : Int → Int} {h w k : Int} (k0 : 0 ≤ k) (g : fh k = h ∧ (w = -1 ∨ fw k = w)) (p : posM fh fw f f' h w k) : posM fh fw f f' h w (k + 1) := by
  refine ⟨fun j j0 j1 hj => ?_, fun j hj => p.2 j (by omega)⟩
  by_cases c : j = k
  · rw [c] at hj; exact absurd g hj
  · exact p.1 j j0 (by omega) hj
theorem ckF_step {fh fw : Int → Int} {h w k : Int} (k0 : 0 ≤ k) : ckF fh fw h w (k + 1).toNat = if fh k = h ∧ (w = -1 ∨ fw k = w) then ckF fh fw h w k.toNat else ckF fh fw h w k.toNat + 1 := by
  rw [show (k + 1).toNat = k.toNat + 1 by omega]
  show (if fh ((k.toNat : Nat) : Int) = h ∧ (w = -1 ∨ fw ((k.toNat : Nat) : Int) = w) then _ else _) = _
  rw [Int.toNat_of_nonneg k0]
theorem ckF_lt {fh fw : Int → Int} {h w j k : Int} (j0 : 0 ≤ j) (jk : j < k) (g : ¬(fh j = h ∧ (w = -1 ∨ fw j = w))) : ckF fh fw h w j.toNat < ckF fh fw h w k.toNat := by
  have e := ckF_step (fh := fh) (fw := fw) (h := h) (w := w) j0
  rw [if_neg g] at e
  have m := (ckF_m (fh := fh) (fw := fw) (h := h) (w := w) (j + 1).toNat (k.toNat - (j + 1).toNat)).1
  rw [show (j + 1).toNat + (k.toNat - (j + 1).toNat) = k.toNat by omega] at m
  omega
theorem posM_keep {fh fw f f' : Int → Int} {h w k : Int} (k0 : 0 ≤ k) (p : posM fh fw f f' h w k) : posM fh fw f (fun x => if x = ckF fh fw h w k.toNat then f' k else f' x) h w (k + 1) := by
  have b := ckF_b (fh := fh) (fw := fw) (h := h) (w := w) k.toNat
  refine ⟨fun j j0 j1 hj => ?_, fun j hj => ?_⟩
  · dsimp only
    by_cases c : j = k
    · rw [c, if_pos rfl]; exact p.2 k (Int.le_refl _)
    · have := ckF_lt (k := k) j0 (by omega) hj
      rw [if_neg (by omega)]
      exact p.1 j j0 (by omega) hj
  · dsimp only
    rw [if_neg (by omega)]
    exact p.2 j (by omega)
def posC (fh fw f f' : Int → Int) (h w n i : Int) : Prop := (∀ j, 0 ≤ j → j ≤ i → f' j = f j) ∧ ∀ j, i < j → j < n → ¬(fh j = h ∧ (w = -1 ∨ fw j = w)) → f' (i + 1 + ckF fh fw h w j.toNat - ckF fh fw h w (i + 1).toNat) = f j
theorem posC_keep {fh fw f f' : Int → Int} {h w n i : Int} (i0 : 0 ≤ i) (g : ¬(fh i = h ∧ (w = -1 ∨ fw i = w))) (p : posC fh fw f f' h w n i) : posC fh fw f f' h w n (i - 1) := by
  have e := ckF_step (fh := fh) (fw := fw) (h := h) (w := w) i0
  rw [if_neg g] at e
  refine ⟨fun j j0 j1 => p.1 j j0 (by omega), fun j j0 j1 hj => ?_⟩
  rw [show i - 1 + 1 = i by omega]
  by_cases c : j = i
  · rw [c, show i + ckF fh fw h w i.toNat - ckF fh fw h w i.toNat = i by omega]
    exact p.1 i i0 (Int.le_refl _)
  · have q := p.2 j (by omega) j1 hj
    rw [e] at q
    rw [show i + ckF fh fw h w j.toNat - ckF fh fw h w i.toNat = i + 1 + ckF fh fw h w j.toNat - (ckF fh fw h w i.toNat + 1) by omega]
    exact q
theorem posC_rem {fh fw f f' : Int → Int} {h w n i s : Int} (i0 : 0 ≤ i) (g : fh i = h ∧ (w = -1 ∨ fw i = w)) (hs : s = i + 1 + (ckF fh fw h w n.toNat - ckF fh fw h w (i + 1).toNat)) (p : posC fh fw f f' h w n i) : posC fh fw f (remF f' i (s - 1)) h w n (i - 1) := by
  have e := ckF_step (fh := fh) (fw := fw) (h := h) (w := w) i0
  rw [if_pos g] at e
  refine ⟨fun j j0 j1 => ?_, fun j j0 j1 hj => ?_⟩
  · unfold remF; rw [if_neg (by omega)]; exact p.1 j j0 (by omega)
  · rw [show i - 1 + 1 = i by omega]
    have ji : j ≠ i := fun c => by rw [c] at hj; exact hj g
    have q := p.2 j (by omega) j1 hj
    have m := (ckF_m (fh := fh) (fw := fw) (h := h) (w := w) (i + 1).toNat (j.toNat - (i + 1).toNat)).1
    rw [show (i + 1).toNat + (j.toNat - (i + 1).toNat) = j.toNat by omega] at m
    have l := ckF_lt (fh := fh) (fw := fw) (h := h) (w := w) (k := n) (by omega) j1 hj
    unfold remF
    rw [if_pos (by omega)]
    rw [show i + ckF fh fw h w j.toNat - ckF fh fw h w i.toNat + 1 = i + 1 + ckF fh fw h w j.toNat - ckF fh fw h w (i + 1).toNat by omega]
    exact q
def forM (τ σ : kzM) (h w k : Int) : Prop := (∀ a x, ¬(651 ≤ a ∧ a ≤ 653) → σ.1 a x = τ.1 a x) ∧ posM (τ.1 651) (τ.1 652) (τ.1 651) (σ.1 651) h w k ∧ posM (τ.1 651) (τ.1 652) (τ.1 652) (σ.1 652) h w k ∧ posM (τ.1 651) (τ.1 652) (τ.1 653) (σ.1 653) h w k
set_option maxRecDepth 100000 in
theorem W12_forget_27 {h w : Int} {τ : kzM} (Q : Int → kzM → Prop) (n0 : 0 ≤ τ.1 612 51) (n1 : τ.1 612 51 ≤ 60) (hQ : ∀ σ, forM τ σ h w (τ.1 612 51) → Q (τ.1 612 51 - ckF (τ.1 651) (τ.1 652) h w (τ.1 612 51).toNat) (v2 σ.1 612 51 (ckF (τ.1 651) (τ.1 652) h w (τ.1 612 51).toNat), σ.2)) : ∀ (n : Nat) (k : Int) (σ : kzM), 0 ≤ k → k ≤ τ.1 612 51 → τ.1 612 51 - k < (n : Int) → forM τ σ h w k → Wz (lp (fun _ _ _ _ _ _ => none) (Z12_forget_27B kdG0) n 612 h w (ckF (τ.1 651) (τ.1 652) h w k.toNat) k) σ Q := by
  intro n
  induction n with
  | zero => intro k; intros; omega
  | succ n ih =>
    intro k σ k0 k1 k2 hp
    have b := ckF_b (fh := τ.1 651) (fw := τ.1 652) (h := h) (w := w) k.toNat
    have e := ckF_step (fh := τ.1 651) (fw := τ.1 652) (h := h) (w := w) k0
    obtain ⟨p1, p2, p3, p4⟩ := hp
    rw [lp_succ]
    generalize lp (fun _ _ _ _ _ _ => none) (Z12_forget_27B kdG0) n = L at ih ⊢
    unfold Z12_forget_27B
    simp only [Z12_forget_63, Z12_forget_67, Z12_forget_68, Z12_forget_117, Wz_rt, Wz_cnd, Wz_lI, Wz_lW, Wz_lL, Wz_cl, Wz_cv, Wz_nz, Wz_gI, Wz_gR, Wz_sI, Wz_aI, Wz_aZ, Wz_aL, Wz_aN, Wz_aR, Wz_tI, Wz_tZ, Wz_tL, Option.some.injEq, exists_eq_left', zB_0, zB_1, true_and, and_true, true_implies, not_true_eq_false, false_implies, not_false_eq_true, Classical.not_not, g_0, g_1, g_2, g_3, g_4, g_5, g_327, g_328, g_329, g_330, g_331, g_332, g_333, g_334, g_335, g_336, g_337, g_338, g_339, g_340, g_341, g_342, g_343, g_464, g_465, g_466, g_484, g_485, g_486, g_487, g_488, g_489, g_490, g_491, g_492, g_493, g_494, g_495, g_496, g_497, g_498, g_499, g_500, g_501, g_562, g_563, g_564, g_565, g_566, g_567, g_568, g_574, g_580, g_581, g_582, g_583, g_584, g_585, g_586, g_587, g_588, g_589, g_590, g_591, g_592, g_600, g_601, g_602, g_603, g_604, g_605, g_606, g_607, g_608, g_609, g_610, g_611, g_612, g_613, g_614, g_615, g_616, g_617, g_618, g_619, g_620, g_621, g_622, g_623, g_624, g_625, g_626, g_627, g_628, g_629, g_630, g_631, g_632, g_633, g_634, g_635, g_636, g_637, g_638, g_639, g_640, g_641, g_642, g_643, g_644, g_645, g_646, g_647, g_648, g_649, g_650, g_651, g_652, g_653, g_654, g_655, g_656, g_657, g_658, g_659, g_660, g_661, g_662, g_0_0, g_0_1, g_0_2, g_0_3, g_0_4, g_0_5, g_0_6, g_0_7, g_0_8, g_0_9, g_0_10, g_0_11, g_1_0, g_3_0, g_327_0, g_327_1, g_327_2, g_327_3, g_328_0, g_330_0, g_332_0, g_334_0, g_336_0, g_336_1, g_336_2, g_336_3, g_337_0, g_339_0, g_341_0, g_464_0, g_464_1, g_484_0, g_484_1, g_484_2, g_485_0, g_487_0, g_489_0, g_491_0, g_491_1, g_491_2, g_491_3, g_491_4, g_491_5, g_491_6, g_491_7, g_496_0, g_498_0, g_500_0, g_500_1, g_500_3, g_500_4, g_500_5, g_500_6, g_500_7, g_562_0, g_564_0, g_566_0, g_580_0, g_580_1, g_580_2, g_580_3, g_581_0, g_583_0, g_585_0, g_588_1, g_588_2, g_588_3, g_588_4, g_588_6, g_601_0, g_601_1, g_601_2, g_601_3, g_601_4, g_601_5, g_601_6, g_601_7, g_601_8, g_608_0, g_610_0, g_612_0, g_612_2, g_612_4, g_612_5, g_612_7, g_612_8, g_612_9, g_612_10, g_612_11, g_612_12, g_612_13, g_612_14, g_612_15, g_612_16, g_612_19, g_612_20, g_612_22, g_612_24, g_612_25, g_612_26, g_612_27, g_612_28, g_612_30, g_612_31, g_612_32, g_612_33, g_612_34, g_612_36, g_612_37, g_612_38, g_612_39, g_612_40, g_612_41, g_612_42, g_612_43, g_612_44, g_612_46, g_612_47, g_612_48, g_612_49, g_612_50, g_612_53, g_612_56, g_612_57, g_612_58, g_612_59, g_612_61, g_612_62, g_612_63, g_612_64, p1 612 _ (by decide), p2.2 k (Int.le_refl _), p3.2 k (Int.le_refl _)]
    have next : ∀ σ', forM τ σ' h w (k + 1) → k < τ.1 612 51 → ∀ l, l = ckF (τ.1 651) (τ.1 652) h w (k + 1).toNat → Wz (L 612 h w l (k + 1)) σ' Q := fun σ' q1 q2 l ql => by
      rw [ql]; exact ih (k + 1) σ' (by omega) (by omega) (by omega) q1
    have keep : ¬(τ.1 651 k = h ∧ (w = -1 ∨ τ.1 652 k = w)) → forM τ (v2 (v2 (v2 σ.1 651 (ckF (τ.1 651) (τ.1 652) h w k.toNat) (τ.1 651 k)) 652 (ckF (τ.1 651) (τ.1 652) h w k.toNat) (τ.1 652 k)) 653 (ckF (τ.1 651) (τ.1 652) h w k.toNat) (σ.1 653 k), σ.2) h w (k + 1) := fun g => by
      refine ⟨fun a x ha => ?_, ?_, ?_, ?_⟩
      · dsimp only; rw [v2_ne _ _ _ _ (by omega), v2_ne _ _ _ _ (by omega), v2_ne _ _ _ _ (by omega)]; exact p1 a x ha
      · have q := posM_keep k0 p2
        rw [p2.2 k (Int.le_refl _)] at q
        have q2 : (v2 (v2 (v2 σ.1 651 (ckF (τ.1 651) (τ.1 652) h w k.toNat) (τ.1 651 k)) 652 (ckF (τ.1 651) (τ.1 652) h w k.toNat) (τ.1 652 k)) 653 (ckF (τ.1 651) (τ.1 652) h w k.toNat) (σ.1 653 k)) 651 = fun x => if x = ckF (τ.1 651) (τ.1 652) h w k.toNat then τ.1 651 k else σ.1 651 x := by
          funext x; simp only [addF, v2, rw1, Nat.reduceEqDiff, Nat.reduceAdd, Int.reduceEq, Int.reduceNeg, reduceIte, false_and, and_false, true_and, and_true, and_self]
        dsimp only; rw [q2]; exact q
      · have q := posM_keep k0 p3
        rw [p3.2 k (Int.le_refl _)] at q
        have q2 : (v2 (v2 (v2 σ.1 651 (ckF (τ.1 651) (τ.1 652) h w k.toNat) (τ.1 651 k)) 652 (ckF (τ.1 651) (τ.1 652) h w k.toNat) (τ.1 652 k)) 653 (ckF (τ.1 651) (τ.1 652) h w k.toNat) (σ.1 653 k)) 652 = fun x => if x = ckF (τ.1 651) (τ.1 652) h w k.toNat then τ.1 652 k else σ.1 652 x := by
          funext x; simp only [addF, v2, rw1, Nat.reduceEqDiff, Nat.reduceAdd, Int.reduceEq, Int.reduceNeg, reduceIte, false_and, and_false, true_and, and_true, and_self]
        dsimp only; rw [q2]; exact q
      · have q := posM_keep k0 p4
        have q2 : (v2 (v2 (v2 σ.1 651 (ckF (τ.1 651) (τ.1 652) h w k.toNat) (τ.1 651 k)) 652 (ckF (τ.1 651) (τ.1 652) h w k.toNat) (τ.1 652 k)) 653 (ckF (τ.1 651) (τ.1 652) h w k.toNat) (σ.1 653 k)) 653 = fun x => if x = ckF (τ.1 651) (τ.1 652) h w k.toNat then σ.1 653 k else σ.1 653 x := by
          funext x; simp only [addF, v2, rw1, Nat.reduceEqDiff, Nat.reduceAdd, Int.reduceEq, Int.reduceNeg, reduceIte, false_and, and_false, true_and, and_true, and_self]
        dsimp only; rw [q2]; exact q
    have goes : (τ.1 651 k = h ∧ (w = -1 ∨ τ.1 652 k = w)) → forM τ σ h w (k + 1) := fun g => ⟨p1, posM_goes k0 g p2, posM_goes k0 g p3, posM_goes k0 g p4⟩
    have vk1 : ∀ v x, v2 σ.1 651 x v 652 k = τ.1 652 k := fun v x => by rw [v2_ne _ _ _ _ (by decide), p3.2 k (Int.le_refl _)]
    have vk2 : ∀ v x u y, v2 (v2 σ.1 651 x v) 652 y u 653 k = σ.1 653 k := fun v x u y => by rw [v2_ne _ _ _ _ (by decide), v2_ne _ _ _ _ (by decide)]
    simp only [vk1, vk2]
    refine ⟨fun y => ⟨by omega, ?_⟩, fun y => ⟨by omega, fun z => ⟨fun u => ⟨by omega, ?_⟩, fun u => ⟨by omega, fun v => ⟨by omega, ?_⟩, fun v => ?_⟩⟩, fun z => ?_⟩⟩
    · have yk : k = τ.1 612 51 := by omega
      rw [yk]; exact hQ σ (by rw [← yk]; exact ⟨p1, p2, p3, p4⟩)
    · have g : τ.1 651 k = h ∧ (w = -1 ∨ τ.1 652 k = w) := ⟨z, Or.inl u⟩
      exact fun _ => ⟨by omega, next σ (goes g) (by omega) _ (by rw [e, if_pos g])⟩
    · have g : τ.1 651 k = h ∧ (w = -1 ∨ τ.1 652 k = w) := ⟨z, Or.inr v⟩
      exact fun _ => ⟨by omega, next σ (goes g) (by omega) _ (by rw [e, if_pos g])⟩
    · have g : ¬(τ.1 651 k = h ∧ (w = -1 ∨ τ.1 652 k = w)) := fun q => q.2.elim u v
      exact ⟨by omega, by omega, by omega, by omega, by omega, by omega, by omega, by omega, next _ (keep g) (by omega) _ (by rw [e, if_neg g])⟩
    · have g : ¬(τ.1 651 k = h ∧ (w = -1 ∨ τ.1 652 k = w)) := fun q => z q.1
      exact ⟨by omega, by omega, by omega, by omega, by omega, by omega, by omega, by omega, next _ (keep g) (by omega) _ (by rw [e, if_neg g])⟩
def forC (τ σ : kzM) (h w i : Int) : Prop := (∀ a x, ¬(581 ≤ a ∧ a ≤ 586) → σ.1 a x = τ.1 a x) ∧ (σ.1 581 1 = i + 1 + (ckF (τ.1 582) (τ.1 584) h w (τ.1 581 1).toNat - ckF (τ.1 582) (τ.1 584) h w (i + 1).toNat) ∧ σ.1 583 1 = σ.1 581 1 ∧ σ.1 585 1 = σ.1 581 1) ∧ posC (τ.1 582) (τ.1 584) (τ.1 582) (σ.1 582) h w (τ.1 581 1) i ∧ posC (τ.1 582) (τ.1 584) (τ.1 584) (σ.1 584) h w (τ.1 581 1) i ∧ posC (τ.1 582) (τ.1 584) (τ.1 586) (σ.1 586) h w (τ.1 581 1) i
set_option maxRecDepth 100000 in
theorem W2_drop_10 {h w : Int} {τ : kzM} (Q : Int → kzM → Prop) (n0 : 0 ≤ τ.1 581 1) (n1 : τ.1 581 1 ≤ 60) (hw : ∀ k, 0 ≤ k → k < τ.1 581 1 → 0 ≤ τ.1 584 k) (hQ : ∀ σ, forC τ σ h w (-1) → Q (τ.1 581 1 - σ.1 581 1) σ) : ∀ (n : Nat) (i : Int) (σ : kzM), -1 ≤ i → i < τ.1 581 1 → i + 1 < (n : Int) → forC τ σ h w i → Wz (lp (fun _ _ _ _ _ _ => none) (Z2_dropLearnings_10B kdG0) n 580 h w (τ.1 581 1) i) σ Q := by
  intro n
  induction n with
  | zero => intro k; intros; omega
  | succ n ih =>
    intro i σ i0 i1 i2 hp
    rw [lp_succ]
    generalize lp (fun _ _ _ _ _ _ => none) (Z2_dropLearnings_10B kdG0) n = L at ih ⊢
    by_cases ineg : i < 0
    · have im : i = -1 := by omega
      subst im
      have hp2 := hp.2.1
      rw [show ((-1 : Int) + 1).toNat = 0 from rfl] at hp2
      have b := ckF_b (fh := τ.1 582) (fw := τ.1 584) (h := h) (w := w) (τ.1 581 1).toNat
      have z0 : ckF (τ.1 582) (τ.1 584) h w 0 = 0 := rfl
      unfold Z2_dropLearnings_10B
      simp only [Z2_learnings, Wz_rt, Wz_cnd, Wz_lI, Wz_lW, Wz_lL, Wz_cl, Wz_cv, Wz_nz, Wz_gI, Wz_gR, Wz_sI, Wz_aI, Wz_aZ, Wz_aL, Wz_aN, Wz_aR, Wz_tI, Wz_tZ, Wz_tL, Option.some.injEq, exists_eq_left', zB_0, zB_1, true_and, and_true, true_implies, not_true_eq_false, false_implies, not_false_eq_true, Classical.not_not, g_0, g_1, g_2, g_3, g_4, g_5, g_327, g_328, g_329, g_330, g_331, g_332, g_333, g_334, g_335, g_336, g_337, g_338, g_339, g_340, g_341, g_342, g_343, g_464, g_465, g_466, g_484, g_485, g_486, g_487, g_488, g_489, g_490, g_491, g_492, g_493, g_494, g_495, g_496, g_497, g_498, g_499, g_500, g_501, g_562, g_563, g_564, g_565, g_566, g_567, g_568, g_574, g_580, g_581, g_582, g_583, g_584, g_585, g_586, g_587, g_588, g_589, g_590, g_591, g_592, g_600, g_601, g_602, g_603, g_604, g_605, g_606, g_607, g_608, g_609, g_610, g_611, g_612, g_613, g_614, g_615, g_616, g_617, g_618, g_619, g_620, g_621, g_622, g_623, g_624, g_625, g_626, g_627, g_628, g_629, g_630, g_631, g_632, g_633, g_634, g_635, g_636, g_637, g_638, g_639, g_640, g_641, g_642, g_643, g_644, g_645, g_646, g_647, g_648, g_649, g_650, g_651, g_652, g_653, g_654, g_655, g_656, g_657, g_658, g_659, g_660, g_661, g_662, g_0_0, g_0_1, g_0_2, g_0_3, g_0_4, g_0_5, g_0_6, g_0_7, g_0_8, g_0_9, g_0_10, g_0_11, g_1_0, g_3_0, g_327_0, g_327_1, g_327_2, g_327_3, g_328_0, g_330_0, g_332_0, g_334_0, g_336_0, g_336_1, g_336_2, g_336_3, g_337_0, g_339_0, g_341_0, g_464_0, g_464_1, g_484_0, g_484_1, g_484_2, g_485_0, g_487_0, g_489_0, g_491_0, g_491_1, g_491_2, g_491_3, g_491_4, g_491_5, g_491_6, g_491_7, g_496_0, g_498_0, g_500_0, g_500_1, g_500_3, g_500_4, g_500_5, g_500_6, g_500_7, g_562_0, g_564_0, g_566_0, g_580_0, g_580_1, g_580_2, g_580_3, g_581_0, g_583_0, g_585_0, g_588_1, g_588_2, g_588_3, g_588_4, g_588_6, g_601_0, g_601_1, g_601_2, g_601_3, g_601_4, g_601_5, g_601_6, g_601_7, g_601_8, g_608_0, g_610_0, g_612_0, g_612_2, g_612_4, g_612_5, g_612_7, g_612_8, g_612_9, g_612_10, g_612_11, g_612_12, g_612_13, g_612_14, g_612_15, g_612_16, g_612_19, g_612_20, g_612_22, g_612_24, g_612_25, g_612_26, g_612_27, g_612_28, g_612_30, g_612_31, g_612_32, g_612_33, g_612_34, g_612_36, g_612_37, g_612_38, g_612_39, g_612_40, g_612_41, g_612_42, g_612_43, g_612_44, g_612_46, g_612_47, g_612_48, g_612_49, g_612_50, g_612_53, g_612_56, g_612_57, g_612_58, g_612_59, g_612_61, g_612_62, g_612_63, g_612_64, W_size r_581]
      exact ⟨fun _ => ⟨by omega, hQ σ hp⟩, fun q => by omega⟩
    · have j0 : 0 ≤ i := by omega
      have e := ckF_step (fh := τ.1 582) (fw := τ.1 584) (h := h) (w := w) j0
      have m := ckF_m (fh := τ.1 582) (fw := τ.1 584) (h := h) (w := w) (i + 1).toNat ((τ.1 581 1).toNat - (i + 1).toNat)
      rw [show (i + 1).toNat + ((τ.1 581 1).toNat - (i + 1).toNat) = (τ.1 581 1).toNat by omega] at m
      obtain ⟨p1, ⟨p2, p3, p4⟩, p5, p6, p7⟩ := hp
      have r1 : σ.1 582 i = τ.1 582 i := p5.1 i j0 (Int.le_refl _)
      have r2 : σ.1 584 i = τ.1 584 i := p6.1 i j0 (Int.le_refl _)
      have hwi := hw i j0 i1
      have keep : ¬(τ.1 582 i = h ∧ (w = -1 ∨ τ.1 584 i = w)) → forC τ σ h w (i - 1) := fun g => by
        rw [if_neg g] at e
        refine ⟨p1, ⟨?_, p3, p4⟩, posC_keep j0 g p5, posC_keep j0 g p6, posC_keep j0 g p7⟩
        rw [show i - 1 + 1 = i by omega]; omega
      have rem : (τ.1 582 i = h ∧ (w = -1 ∨ τ.1 584 i = w)) → Wz (Z6_remove kdG0 581 i) σ fun _ τ' => Wz (Z6_remove kdG0 583 i) τ' fun _ τ'' => Wz (Z6_remove kdG0 585 i) τ'' fun _ σ' => forC τ σ' h w (i - 1) := fun g => by
        refine W_remove r_581 j0 (by omega) (show σ.1 581 1 ≤ ((60 : Nat) : Int) by omega) (by omega) ?_
        refine W_remove r_583 j0 (by simp only [addF, v2, rw1, Nat.reduceEqDiff, Nat.reduceAdd, Int.reduceEq, Int.reduceNeg, reduceIte, false_and, and_false, true_and, and_true, and_self]; omega) (by simp only [addF, v2, rw1, Nat.reduceEqDiff, Nat.reduceAdd, Int.reduceEq, Int.reduceNeg, reduceIte, false_and, and_false, true_and, and_true, and_self]; omega) (by omega) ?_
        refine W_remove r_585 j0 (by simp only [addF, v2, rw1, Nat.reduceEqDiff, Nat.reduceAdd, Int.reduceEq, Int.reduceNeg, reduceIte, false_and, and_false, true_and, and_true, and_self]; omega) (by simp only [addF, v2, rw1, Nat.reduceEqDiff, Nat.reduceAdd, Int.reduceEq, Int.reduceNeg, reduceIte, false_and, and_false, true_and, and_true, and_self]; omega) (by omega) ?_
        rw [if_pos g] at e
        refine ⟨fun a x ha => ?_, ⟨?_, ?_, ?_⟩, ?_, ?_, ?_⟩
        · dsimp only
          rw [v2_ne _ _ _ _ (by omega), rw1_eq, if_neg (by omega), v2_ne _ _ _ _ (by omega), rw1_eq, if_neg (by omega), v2_ne _ _ _ _ (by omega), rw1_eq, if_neg (by omega)]
          exact p1 a x ha
        · simp only [addF, v2, rw1, Nat.reduceEqDiff, Nat.reduceAdd, Int.reduceEq, Int.reduceNeg, reduceIte, false_and, and_false, true_and, and_true, and_self]; rw [show i - 1 + 1 = i by omega]; omega
        · simp only [addF, v2, rw1, Nat.reduceEqDiff, Nat.reduceAdd, Int.reduceEq, Int.reduceNeg, reduceIte, false_and, and_false, true_and, and_true, and_self]; omega
        · simp only [addF, v2, rw1, Nat.reduceEqDiff, Nat.reduceAdd, Int.reduceEq, Int.reduceNeg, reduceIte, false_and, and_false, true_and, and_true, and_self]; omega
        · have q := posC_rem (s := σ.1 581 1) j0 g p2 p5
          have q2 : ∀ f : Nat → Int → Int, ∀ v1 v2' v3 u1 u2 : Int, ∀ g1 g2 g3 : Int → Int, f = f → (v2 (rw1 (v2 (rw1 (v2 (rw1 σ.1 582 g1) 581 1 v1) 584 g2) 583 1 v2') 586 g3) 585 1 v3) 582 = g1 := fun _ _ _ _ _ _ g1 g2 g3 _ => by
            funext x; simp only [addF, v2, rw1, Nat.reduceEqDiff, Nat.reduceAdd, Int.reduceEq, Int.reduceNeg, reduceIte, false_and, and_false, true_and, and_true, and_self]
          dsimp only
          simp only [Nat.reduceAdd]
          rw [q2 σ.1 _ _ _ 0 0 _ _ _ rfl]
          exact q
        · have q := posC_rem (s := σ.1 581 1) j0 g p2 p6
          have q2 : ∀ v1 v2' v3 : Int, ∀ g1 g2 g3 : Int → Int, (v2 (rw1 (v2 (rw1 (v2 (rw1 σ.1 582 g1) 581 1 v1) 584 g2) 583 1 v2') 586 g3) 585 1 v3) 584 = g2 := fun _ _ _ g1 g2 g3 => by
            funext x; simp only [addF, v2, rw1, Nat.reduceEqDiff, Nat.reduceAdd, Int.reduceEq, Int.reduceNeg, reduceIte, false_and, and_false, true_and, and_true, and_self]
          dsimp only
          simp only [Nat.reduceAdd]
          rw [q2]
          have q3 : ∀ v1 : Int, ∀ g1 : Int → Int, v2 (rw1 σ.1 582 g1) 581 1 v1 584 = σ.1 584 := fun v1 g1 => by
            funext x; simp only [addF, v2, rw1, Nat.reduceEqDiff, Nat.reduceAdd, Int.reduceEq, Int.reduceNeg, reduceIte, false_and, and_false, true_and, and_true, and_self]
          have q4 : ∀ v1 : Int, ∀ g1 : Int → Int, v2 (rw1 σ.1 582 g1) 581 1 v1 583 1 = σ.1 583 1 := fun v1 g1 => by simp only [addF, v2, rw1, Nat.reduceEqDiff, Nat.reduceAdd, Int.reduceEq, Int.reduceNeg, reduceIte, false_and, and_false, true_and, and_true, and_self]
          rw [q3, q4, p3]; exact q
        · have q := posC_rem (s := σ.1 581 1) j0 g p2 p7
          have q2 : ∀ v1 v2' v3 : Int, ∀ g1 g2 g3 : Int → Int, (v2 (rw1 (v2 (rw1 (v2 (rw1 σ.1 582 g1) 581 1 v1) 584 g2) 583 1 v2') 586 g3) 585 1 v3) 586 = g3 := fun _ _ _ g1 g2 g3 => by
            funext x; simp only [addF, v2, rw1, Nat.reduceEqDiff, Nat.reduceAdd, Int.reduceEq, Int.reduceNeg, reduceIte, false_and, and_false, true_and, and_true, and_self]
          dsimp only
          simp only [Nat.reduceAdd]
          rw [q2]
          have q3 : ∀ v1 v2' : Int, ∀ g1 g2 : Int → Int, v2 (rw1 (v2 (rw1 σ.1 582 g1) 581 1 v1) 584 g2) 583 1 v2' 586 = σ.1 586 := fun v1 _ g1 _ => by
            funext x; simp only [addF, v2, rw1, Nat.reduceEqDiff, Nat.reduceAdd, Int.reduceEq, Int.reduceNeg, reduceIte, false_and, and_false, true_and, and_true, and_self]
          have q4 : ∀ v1 v2' : Int, ∀ g1 g2 : Int → Int, v2 (rw1 (v2 (rw1 σ.1 582 g1) 581 1 v1) 584 g2) 583 1 v2' 585 1 = σ.1 585 1 := fun v1 _ g1 _ => by simp only [addF, v2, rw1, Nat.reduceEqDiff, Nat.reduceAdd, Int.reduceEq, Int.reduceNeg, reduceIte, false_and, and_false, true_and, and_true, and_self]
          rw [q3, q4, p4]; exact q
      have next : ∀ σ', forC τ σ' h w (i - 1) → Wz (L 580 h w (τ.1 581 1) (i + -1)) σ' Q := fun σ' q1 => by
        have q := ih (i - 1) σ' (by omega) (by omega) (by omega) q1
        rw [show i + -1 = i - 1 by omega]; exact q
      unfold Z2_dropLearnings_10B
      simp only [Z2_dropLearnings_37, Z2_dropLearnings_73, Z2_isOf_29, Z2_isOf_28, Z2_isOf, Wz_rt, Wz_cnd, Wz_lI, Wz_lW, Wz_lL, Wz_cl, Wz_cv, Wz_nz, Wz_gI, Wz_gR, Wz_sI, Wz_aI, Wz_aZ, Wz_aL, Wz_aN, Wz_aR, Wz_tI, Wz_tZ, Wz_tL, Option.some.injEq, exists_eq_left', zB_0, zB_1, true_and, and_true, true_implies, not_true_eq_false, false_implies, not_false_eq_true, Classical.not_not, g_0, g_1, g_2, g_3, g_4, g_5, g_327, g_328, g_329, g_330, g_331, g_332, g_333, g_334, g_335, g_336, g_337, g_338, g_339, g_340, g_341, g_342, g_343, g_464, g_465, g_466, g_484, g_485, g_486, g_487, g_488, g_489, g_490, g_491, g_492, g_493, g_494, g_495, g_496, g_497, g_498, g_499, g_500, g_501, g_562, g_563, g_564, g_565, g_566, g_567, g_568, g_574, g_580, g_581, g_582, g_583, g_584, g_585, g_586, g_587, g_588, g_589, g_590, g_591, g_592, g_600, g_601, g_602, g_603, g_604, g_605, g_606, g_607, g_608, g_609, g_610, g_611, g_612, g_613, g_614, g_615, g_616, g_617, g_618, g_619, g_620, g_621, g_622, g_623, g_624, g_625, g_626, g_627, g_628, g_629, g_630, g_631, g_632, g_633, g_634, g_635, g_636, g_637, g_638, g_639, g_640, g_641, g_642, g_643, g_644, g_645, g_646, g_647, g_648, g_649, g_650, g_651, g_652, g_653, g_654, g_655, g_656, g_657, g_658, g_659, g_660, g_661, g_662, g_0_0, g_0_1, g_0_2, g_0_3, g_0_4, g_0_5, g_0_6, g_0_7, g_0_8, g_0_9, g_0_10, g_0_11, g_1_0, g_3_0, g_327_0, g_327_1, g_327_2, g_327_3, g_328_0, g_330_0, g_332_0, g_334_0, g_336_0, g_336_1, g_336_2, g_336_3, g_337_0, g_339_0, g_341_0, g_464_0, g_464_1, g_484_0, g_484_1, g_484_2, g_485_0, g_487_0, g_489_0, g_491_0, g_491_1, g_491_2, g_491_3, g_491_4, g_491_5, g_491_6, g_491_7, g_496_0, g_498_0, g_500_0, g_500_1, g_500_3, g_500_4, g_500_5, g_500_6, g_500_7, g_562_0, g_564_0, g_566_0, g_580_0, g_580_1, g_580_2, g_580_3, g_581_0, g_583_0, g_585_0, g_588_1, g_588_2, g_588_3, g_588_4, g_588_6, g_601_0, g_601_1, g_601_2, g_601_3, g_601_4, g_601_5, g_601_6, g_601_7, g_601_8, g_608_0, g_610_0, g_612_0, g_612_2, g_612_4, g_612_5, g_612_7, g_612_8, g_612_9, g_612_10, g_612_11, g_612_12, g_612_13, g_612_14, g_612_15, g_612_16, g_612_19, g_612_20, g_612_22, g_612_24, g_612_25, g_612_26, g_612_27, g_612_28, g_612_30, g_612_31, g_612_32, g_612_33, g_612_34, g_612_36, g_612_37, g_612_38, g_612_39, g_612_40, g_612_41, g_612_42, g_612_43, g_612_44, g_612_46, g_612_47, g_612_48, g_612_49, g_612_50, g_612_53, g_612_56, g_612_57, g_612_58, g_612_59, g_612_61, g_612_62, g_612_63, g_612_64, W_at r_581 (show σ.1 581 1 ≤ ((60 : Nat) : Int) by omega), W_at r_583 (show σ.1 583 1 ≤ ((60 : Nat) : Int) by omega), if_pos (show 0 ≤ i ∧ i < σ.1 581 1 by omega), if_pos (show 0 ≤ i ∧ i < σ.1 583 1 by omega), r1, r2]
      have fin : (τ.1 582 i = h ∧ (w = -1 ∨ τ.1 584 i = w)) → Wz (Z6_remove kdG0 581 i) σ fun _ τ' => Wz (Z6_remove kdG0 583 i) τ' fun _ τ'' => Wz (Z6_remove kdG0 585 i) τ'' fun _ τ3 => (-2147483648 ≤ i + -1 ∧ i + -1 ≤ 2147483647) ∧ Wz (L 580 h w (τ.1 581 1) (i + -1)) τ3 Q := fun g =>
        Wz_mono (rem g) fun _ s1 a1 => Wz_mono a1 fun _ s2 a2 => Wz_mono a2 fun _ s3 a3 => ⟨by omega, next s3 a3⟩
      have stay : ¬(τ.1 582 i = h ∧ (w = -1 ∨ τ.1 584 i = w)) → (-2147483648 ≤ i + -1 ∧ i + -1 ≤ 2147483647) ∧ Wz (L 580 h w (τ.1 581 1) (i + -1)) σ Q := fun g => ⟨by omega, next σ (keep g)⟩
      exact ⟨fun z => absurd z ineg, fun _ => ⟨fun u => ⟨fun z => ⟨fun y => absurd y (by decide), fun _ => fin ⟨z, Or.inl u⟩⟩, fun z => stay (fun q => z q.1)⟩, fun u => ⟨fun z => ⟨fun y => ⟨fun x => absurd x (by decide), fun _ => fin ⟨z, Or.inr y⟩⟩, fun y => stay (fun q => q.2.elim u y)⟩, fun z => stay (fun q => z q.1)⟩⟩⟩
set_option maxRecDepth 100000 in
theorem m_forget (h w : Int) (_ : kzI h) (_ : kzI w) : MOK (Z11_forget kdG0 0 h w) (Z12_forget kdG0 612 h w) := by
  intro τ hI
  have i5 := hI.2.2.2.2.1
  have i8 := hI.2.2.2.2.2.2.2.1.1
  unfold I5 at i5
  have b1 := i5.1
  have b2 := i5.2.2.2.1
  clear i5
  unfold I8l at i8
  obtain ⟨a1, a2, a3, a4, a5⟩ := i8
  by_cases c : (0 ≤ h ∧ h ≤ 3) ∧ (w = -1 ∨ (0 ≤ w ∧ w < τ.1 337 1))
  · obtain ⟨c1, c2⟩ := c
    have cls : Wz (Z2_dropLearnings kdG0 580 h w) τ fun r τ1 => Wz (Z12_forget kdG0 612 h w) τ1 fun s τ2 => r = s ∧ Inv τ2 := by
      simp only [Z2_dropLearnings, Z2_learnings, Wz_rt, Wz_cnd, Wz_lI, Wz_lW, Wz_lL, Wz_cl, Wz_cv, Wz_nz, Wz_gI, Wz_gR, Wz_sI, Wz_aI, Wz_aZ, Wz_aL, Wz_aN, Wz_aR, Wz_tI, Wz_tZ, Wz_tL, Option.some.injEq, exists_eq_left', zB_0, zB_1, true_and, and_true, true_implies, not_true_eq_false, false_implies, not_false_eq_true, Classical.not_not, g_0, g_1, g_2, g_3, g_4, g_5, g_327, g_328, g_329, g_330, g_331, g_332, g_333, g_334, g_335, g_336, g_337, g_338, g_339, g_340, g_341, g_342, g_343, g_464, g_465, g_466, g_484, g_485, g_486, g_487, g_488, g_489, g_490, g_491, g_492, g_493, g_494, g_495, g_496, g_497, g_498, g_499, g_500, g_501, g_562, g_563, g_564, g_565, g_566, g_567, g_568, g_574, g_580, g_581, g_582, g_583, g_584, g_585, g_586, g_587, g_588, g_589, g_590, g_591, g_592, g_600, g_601, g_602, g_603, g_604, g_605, g_606, g_607, g_608, g_609, g_610, g_611, g_612, g_613, g_614, g_615, g_616, g_617, g_618, g_619, g_620, g_621, g_622, g_623, g_624, g_625, g_626, g_627, g_628, g_629, g_630, g_631, g_632, g_633, g_634, g_635, g_636, g_637, g_638, g_639, g_640, g_641, g_642, g_643, g_644, g_645, g_646, g_647, g_648, g_649, g_650, g_651, g_652, g_653, g_654, g_655, g_656, g_657, g_658, g_659, g_660, g_661, g_662, g_0_0, g_0_1, g_0_2, g_0_3, g_0_4, g_0_5, g_0_6, g_0_7, g_0_8, g_0_9, g_0_10, g_0_11, g_1_0, g_3_0, g_327_0, g_327_1, g_327_2, g_327_3, g_328_0, g_330_0, g_332_0, g_334_0, g_336_0, g_336_1, g_336_2, g_336_3, g_337_0, g_339_0, g_341_0, g_464_0, g_464_1, g_484_0, g_484_1, g_484_2, g_485_0, g_487_0, g_489_0, g_491_0, g_491_1, g_491_2, g_491_3, g_491_4, g_491_5, g_491_6, g_491_7, g_496_0, g_498_0, g_500_0, g_500_1, g_500_3, g_500_4, g_500_5, g_500_6, g_500_7, g_562_0, g_564_0, g_566_0, g_580_0, g_580_1, g_580_2, g_580_3, g_581_0, g_583_0, g_585_0, g_588_1, g_588_2, g_588_3, g_588_4, g_588_6, g_601_0, g_601_1, g_601_2, g_601_3, g_601_4, g_601_5, g_601_6, g_601_7, g_601_8, g_608_0, g_610_0, g_612_0, g_612_2, g_612_4, g_612_5, g_612_7, g_612_8, g_612_9, g_612_10, g_612_11, g_612_12, g_612_13, g_612_14, g_612_15, g_612_16, g_612_19, g_612_20, g_612_22, g_612_24, g_612_25, g_612_26, g_612_27, g_612_28, g_612_30, g_612_31, g_612_32, g_612_33, g_612_34, g_612_36, g_612_37, g_612_38, g_612_39, g_612_40, g_612_41, g_612_42, g_612_43, g_612_44, g_612_46, g_612_47, g_612_48, g_612_49, g_612_50, g_612_53, g_612_56, g_612_57, g_612_58, g_612_59, g_612_61, g_612_62, g_612_63, g_612_64, W_size r_581]
      refine ⟨by omega, ?_⟩
      unfold Z2_dropLearnings_10
      refine W2_drop_10 (τ := τ) _ a1.1 a1.2 (fun k k0 k1 => (a5 k k0 k1).2.1.1.1) ?_ NN (τ.1 581 1 - 1) τ (by omega) (by omega) (by unfold NN; omega) ?_
      · intro σ hσ
        obtain ⟨p1, ⟨p2, p3, p4⟩, p5, p6, p7⟩ := hσ
        have z0 : ckF (τ.1 582) (τ.1 584) h w ((-1 : Int) + 1).toNat = 0 := rfl
        have p2 : σ.1 581 1 = ckF (τ.1 582) (τ.1 584) h w (τ.1 581 1).toNat := by rw [p2, z0]; omega
        have eck : ∀ n : Nat, (n : Int) ≤ τ.1 581 1 → ckF (σ.1 651) (σ.1 652) h w n = ckF (τ.1 582) (τ.1 584) h w n := fun n hn => ckF_c n fun k k0 k1 => by
          obtain ⟨e1, e2, e3⟩ := a5 k k0 (by omega)
          rw [p1 651 k (by decide), p1 652 k (by decide)]
          exact ⟨e1.2, e2.2⟩
        have f51 : σ.1 612 51 = τ.1 581 1 := by rw [p1 612 51 (by decide)]; exact a4
        have f29 : σ.1 612 29 = τ.1 337 1 := by rw [p1 612 29 (by decide)]; exact b2
        have eckn := eck (τ.1 581 1).toNat (by omega)
        have bn := ckF_b (fh := τ.1 582) (fw := τ.1 584) (h := h) (w := w) (τ.1 581 1).toNat
        have mdl : Wz (Z12_forget_22 kdG0 612 h w) σ fun s τ2 => τ.1 581 1 - σ.1 581 1 = s ∧ Inv τ2 := by
          unfold Z12_forget_22 Z12_forget_27
          refine W12_forget_27 (τ := σ) _ (by omega) (by omega) ?_ NN 0 σ (by omega) (by omega) (by unfold NN; omega) ?_
          · intro ρ hρ
            obtain ⟨q1, q2, q3, q4⟩ := hρ
            rw [f51] at q2 q3 q4 ⊢
            rw [eckn]
            refine ⟨by omega, ?_⟩
            refine inv_m8 (fun a x m1 m2 => ?_) hI ?_
            · have n1 : ¬(581 ≤ a ∧ a ≤ 586) := fun q => m1 (by unfold md; rw [if_neg (by omega), if_neg (by omega), if_neg (by omega), if_neg (by omega), if_neg (by omega), if_neg (by omega), if_neg (by omega), if_neg (by omega), if_pos (by omega)])
              have n2 : ¬(651 ≤ a ∧ a ≤ 653) := fun q => m1 (by unfold md; rw [if_neg (by omega), if_neg (by omega), if_neg (by omega), if_neg (by omega), if_neg (by omega), if_neg (by omega), if_neg (by omega), if_neg (by omega), if_pos (by omega)])
              show v2 ρ.1 612 51 _ a x = _
              rw [v2_eq, if_neg (fun q => m1 (by rw [q.1, q.2]; rfl)), q1 a x n2, p1 a x n1]
            · unfold I8l
              simp only [addF, v2, rw1, Nat.reduceEqDiff, Nat.reduceAdd, Int.reduceEq, Int.reduceNeg, reduceIte, false_and, and_false, true_and, and_true, and_self, q1 581 _ (by decide), q1 583 _ (by decide), q1 585 _ (by decide), q1 582 _ (by decide), q1 584 _ (by decide), q1 586 _ (by decide)]
              refine ⟨by omega, p3, p4, p2.symm, fun x x0 x1 => ?_⟩
              rw [p2] at x1
              obtain ⟨k, k1, k2, k3⟩ := ckF_s _ x x0 x1
              have e := a5 k (by omega) (by omega)
              obtain ⟨e1, e2, e3⟩ := e
              have w1 := p5.2 k (by omega) (by omega) k2
              have w2 := p6.2 k (by omega) (by omega) k2
              have w3 := p7.2 k (by omega) (by omega) k2
              rw [z0, show ((k : Int)).toNat = k from Int.toNat_natCast k, k3, show (-1 : Int) + 1 + x - 0 = x by omega] at w1 w2 w3
              have k2' : ¬(σ.1 651 (k : Int) = h ∧ (w = -1 ∨ σ.1 652 (k : Int) = w)) := by
                rw [p1 651 _ (by decide), p1 652 _ (by decide), e1.2, e2.2]; exact k2
              have ek := eck k (by omega)
              have u1 := q2.1 k (by omega) (by omega) k2'
              have u2 := q3.1 k (by omega) (by omega) k2'
              have u3 := q4.1 k (by omega) (by omega) k2'
              rw [show ((k : Int)).toNat = k from Int.toNat_natCast k, ek, k3] at u1 u2 u3
              rw [p1 651 _ (by decide)] at u1
              rw [p1 652 _ (by decide)] at u2
              rw [p1 653 _ (by decide)] at u3
              rw [w1, w2, w3, u1, u2, u3]
              exact ⟨e1, e2, e3⟩
          · exact ⟨fun _ _ _ => rfl, ⟨fun j j0 j1 => by omega, fun _ _ => rfl⟩, ⟨fun j j0 j1 => by omega, fun _ _ => rfl⟩, ⟨fun j j0 j1 => by omega, fun _ _ => rfl⟩⟩
        simp only [Z12_forget, Z12_isHand, Z12_isWord, Z12_forget_20, W_in, zp_0, zB_zp, Wz_rt, Wz_cnd, Wz_lI, Wz_lW, Wz_lL, Wz_cl, Wz_cv, Wz_nz, Wz_gI, Wz_gR, Wz_sI, Wz_aI, Wz_aZ, Wz_aL, Wz_aN, Wz_aR, Wz_tI, Wz_tZ, Wz_tL, Option.some.injEq, exists_eq_left', zB_0, zB_1, true_and, and_true, true_implies, not_true_eq_false, false_implies, not_false_eq_true, Classical.not_not, g_0, g_1, g_2, g_3, g_4, g_5, g_327, g_328, g_329, g_330, g_331, g_332, g_333, g_334, g_335, g_336, g_337, g_338, g_339, g_340, g_341, g_342, g_343, g_464, g_465, g_466, g_484, g_485, g_486, g_487, g_488, g_489, g_490, g_491, g_492, g_493, g_494, g_495, g_496, g_497, g_498, g_499, g_500, g_501, g_562, g_563, g_564, g_565, g_566, g_567, g_568, g_574, g_580, g_581, g_582, g_583, g_584, g_585, g_586, g_587, g_588, g_589, g_590, g_591, g_592, g_600, g_601, g_602, g_603, g_604, g_605, g_606, g_607, g_608, g_609, g_610, g_611, g_612, g_613, g_614, g_615, g_616, g_617, g_618, g_619, g_620, g_621, g_622, g_623, g_624, g_625, g_626, g_627, g_628, g_629, g_630, g_631, g_632, g_633, g_634, g_635, g_636, g_637, g_638, g_639, g_640, g_641, g_642, g_643, g_644, g_645, g_646, g_647, g_648, g_649, g_650, g_651, g_652, g_653, g_654, g_655, g_656, g_657, g_658, g_659, g_660, g_661, g_662, g_0_0, g_0_1, g_0_2, g_0_3, g_0_4, g_0_5, g_0_6, g_0_7, g_0_8, g_0_9, g_0_10, g_0_11, g_1_0, g_3_0, g_327_0, g_327_1, g_327_2, g_327_3, g_328_0, g_330_0, g_332_0, g_334_0, g_336_0, g_336_1, g_336_2, g_336_3, g_337_0, g_339_0, g_341_0, g_464_0, g_464_1, g_484_0, g_484_1, g_484_2, g_485_0, g_487_0, g_489_0, g_491_0, g_491_1, g_491_2, g_491_3, g_491_4, g_491_5, g_491_6, g_491_7, g_496_0, g_498_0, g_500_0, g_500_1, g_500_3, g_500_4, g_500_5, g_500_6, g_500_7, g_562_0, g_564_0, g_566_0, g_580_0, g_580_1, g_580_2, g_580_3, g_581_0, g_583_0, g_585_0, g_588_1, g_588_2, g_588_3, g_588_4, g_588_6, g_601_0, g_601_1, g_601_2, g_601_3, g_601_4, g_601_5, g_601_6, g_601_7, g_601_8, g_608_0, g_610_0, g_612_0, g_612_2, g_612_4, g_612_5, g_612_7, g_612_8, g_612_9, g_612_10, g_612_11, g_612_12, g_612_13, g_612_14, g_612_15, g_612_16, g_612_19, g_612_20, g_612_22, g_612_24, g_612_25, g_612_26, g_612_27, g_612_28, g_612_30, g_612_31, g_612_32, g_612_33, g_612_34, g_612_36, g_612_37, g_612_38, g_612_39, g_612_40, g_612_41, g_612_42, g_612_43, g_612_44, g_612_46, g_612_47, g_612_48, g_612_49, g_612_50, g_612_53, g_612_56, g_612_57, g_612_58, g_612_59, g_612_61, g_612_62, g_612_63, g_612_64, f29, c1]
        exact ⟨fun u => mdl, fun u => ⟨by omega, fun z => by omega, fun _ => mdl⟩⟩
      · refine ⟨fun _ _ _ => rfl, ⟨?_, a2, a3⟩, ⟨fun j _ _ => rfl, fun j j0 j1 => by omega⟩, ⟨fun j _ _ => rfl, fun j j0 j1 => by omega⟩, ⟨fun j _ _ => rfl, fun j j0 j1 => by omega⟩⟩
        rw [show τ.1 581 1 - 1 + 1 = τ.1 581 1 by omega]; omega
    simp only [Z11_forget, Z11_forget_23, Z11_forget_25, Z11_isHand, W_within, W10_has, zp_0, zB_zp, Wz_rt, Wz_cnd, Wz_lI, Wz_lW, Wz_lL, Wz_cl, Wz_cv, Wz_nz, Wz_gI, Wz_gR, Wz_sI, Wz_aI, Wz_aZ, Wz_aL, Wz_aN, Wz_aR, Wz_tI, Wz_tZ, Wz_tL, Option.some.injEq, exists_eq_left', zB_0, zB_1, true_and, and_true, true_implies, not_true_eq_false, false_implies, not_false_eq_true, Classical.not_not, g_0, g_1, g_2, g_3, g_4, g_5, g_327, g_328, g_329, g_330, g_331, g_332, g_333, g_334, g_335, g_336, g_337, g_338, g_339, g_340, g_341, g_342, g_343, g_464, g_465, g_466, g_484, g_485, g_486, g_487, g_488, g_489, g_490, g_491, g_492, g_493, g_494, g_495, g_496, g_497, g_498, g_499, g_500, g_501, g_562, g_563, g_564, g_565, g_566, g_567, g_568, g_574, g_580, g_581, g_582, g_583, g_584, g_585, g_586, g_587, g_588, g_589, g_590, g_591, g_592, g_600, g_601, g_602, g_603, g_604, g_605, g_606, g_607, g_608, g_609, g_610, g_611, g_612, g_613, g_614, g_615, g_616, g_617, g_618, g_619, g_620, g_621, g_622, g_623, g_624, g_625, g_626, g_627, g_628, g_629, g_630, g_631, g_632, g_633, g_634, g_635, g_636, g_637, g_638, g_639, g_640, g_641, g_642, g_643, g_644, g_645, g_646, g_647, g_648, g_649, g_650, g_651, g_652, g_653, g_654, g_655, g_656, g_657, g_658, g_659, g_660, g_661, g_662, g_0_0, g_0_1, g_0_2, g_0_3, g_0_4, g_0_5, g_0_6, g_0_7, g_0_8, g_0_9, g_0_10, g_0_11, g_1_0, g_3_0, g_327_0, g_327_1, g_327_2, g_327_3, g_328_0, g_330_0, g_332_0, g_334_0, g_336_0, g_336_1, g_336_2, g_336_3, g_337_0, g_339_0, g_341_0, g_464_0, g_464_1, g_484_0, g_484_1, g_484_2, g_485_0, g_487_0, g_489_0, g_491_0, g_491_1, g_491_2, g_491_3, g_491_4, g_491_5, g_491_6, g_491_7, g_496_0, g_498_0, g_500_0, g_500_1, g_500_3, g_500_4, g_500_5, g_500_6, g_500_7, g_562_0, g_564_0, g_566_0, g_580_0, g_580_1, g_580_2, g_580_3, g_581_0, g_583_0, g_585_0, g_588_1, g_588_2, g_588_3, g_588_4, g_588_6, g_601_0, g_601_1, g_601_2, g_601_3, g_601_4, g_601_5, g_601_6, g_601_7, g_601_8, g_608_0, g_610_0, g_612_0, g_612_2, g_612_4, g_612_5, g_612_7, g_612_8, g_612_9, g_612_10, g_612_11, g_612_12, g_612_13, g_612_14, g_612_15, g_612_16, g_612_19, g_612_20, g_612_22, g_612_24, g_612_25, g_612_26, g_612_27, g_612_28, g_612_30, g_612_31, g_612_32, g_612_33, g_612_34, g_612_36, g_612_37, g_612_38, g_612_39, g_612_40, g_612_41, g_612_42, g_612_43, g_612_44, g_612_46, g_612_47, g_612_48, g_612_49, g_612_50, g_612_53, g_612_56, g_612_57, g_612_58, g_612_59, g_612_61, g_612_62, g_612_63, g_612_64, c1]
    exact ⟨fun u => cls, fun u => ⟨fun z => by omega, fun _ => cls⟩⟩
  · simp only [Z11_forget_23, Z11_forget_25, Z11_forget, W10_has, Z12_forget_20, Z12_forget_117, Z12_forget_68, Z12_forget_67, Z12_forget_63, Z12_forget_22, Z12_forget, Z11_isKey, Z11_isLetter, Z11_isTongue, Z11_isHand, Z11_isDay, Z12_isKey, Z12_isLetter, Z12_isTongue, Z12_isHand, Z12_areTongues, Z12_isWord, Z12_isSymbol, W_within, W_in, zp_0, zB_zp, W_size r_1, W_isEmpty r_1, W_isFull r_1, W_has r_1, W_clear r_1, W_size r_3, W_isEmpty r_3, W_isFull r_3, W_has r_3, W_clear r_3, W_size r_328, W_isEmpty r_328, W_isFull r_328, W_has r_328, W_clear r_328, W_size r_330, W_isEmpty r_330, W_isFull r_330, W_has r_330, W_clear r_330, W_size r_332, W_isEmpty r_332, W_isFull r_332, W_has r_332, W_clear r_332, W_size r_334, W_isEmpty r_334, W_isFull r_334, W_has r_334, W_clear r_334, W_size r_337, W_isEmpty r_337, W_isFull r_337, W_has r_337, W_clear r_337, W_size r_339, W_isEmpty r_339, W_isFull r_339, W_has r_339, W_clear r_339, W_size r_341, W_isEmpty r_341, W_isFull r_341, W_has r_341, W_clear r_341, W_size r_485, W_isEmpty r_485, W_isFull r_485, W_has r_485, W_clear r_485, W_size r_487, W_isEmpty r_487, W_isFull r_487, W_has r_487, W_clear r_487, W_size r_489, W_isEmpty r_489, W_isFull r_489, W_has r_489, W_clear r_489, W_size r_496, W_isEmpty r_496, W_isFull r_496, W_has r_496, W_clear r_496, W_size r_498, W_isEmpty r_498, W_isFull r_498, W_has r_498, W_clear r_498, W_size r_562, W_isEmpty r_562, W_isFull r_562, W_has r_562, W_clear r_562, W_size r_564, W_isEmpty r_564, W_isFull r_564, W_has r_564, W_clear r_564, W_size r_566, W_isEmpty r_566, W_isFull r_566, W_has r_566, W_clear r_566, W_size r_581, W_isEmpty r_581, W_isFull r_581, W_has r_581, W_clear r_581, W_size r_583, W_isEmpty r_583, W_isFull r_583, W_has r_583, W_clear r_583, W_size r_585, W_isEmpty r_585, W_isFull r_585, W_has r_585, W_clear r_585, W_size r_608, W_isEmpty r_608, W_isFull r_608, W_has r_608, W_clear r_608, W_size r_610, W_isEmpty r_610, W_isFull r_610, W_has r_610, W_clear r_610, Wz_rt, Wz_cnd, Wz_lI, Wz_lW, Wz_lL, Wz_cl, Wz_cv, Wz_nz, Wz_gI, Wz_gR, Wz_sI, Wz_aI, Wz_aZ, Wz_aL, Wz_aN, Wz_aR, Wz_tI, Wz_tZ, Wz_tL, Option.some.injEq, exists_eq_left', zB_0, zB_1, true_and, and_true, true_implies, not_true_eq_false, false_implies, not_false_eq_true, Classical.not_not, g_0, g_1, g_2, g_3, g_4, g_5, g_327, g_328, g_329, g_330, g_331, g_332, g_333, g_334, g_335, g_336, g_337, g_338, g_339, g_340, g_341, g_342, g_343, g_464, g_465, g_466, g_484, g_485, g_486, g_487, g_488, g_489, g_490, g_491, g_492, g_493, g_494, g_495, g_496, g_497, g_498, g_499, g_500, g_501, g_562, g_563, g_564, g_565, g_566, g_567, g_568, g_574, g_580, g_581, g_582, g_583, g_584, g_585, g_586, g_587, g_588, g_589, g_590, g_591, g_592, g_600, g_601, g_602, g_603, g_604, g_605, g_606, g_607, g_608, g_609, g_610, g_611, g_612, g_613, g_614, g_615, g_616, g_617, g_618, g_619, g_620, g_621, g_622, g_623, g_624, g_625, g_626, g_627, g_628, g_629, g_630, g_631, g_632, g_633, g_634, g_635, g_636, g_637, g_638, g_639, g_640, g_641, g_642, g_643, g_644, g_645, g_646, g_647, g_648, g_649, g_650, g_651, g_652, g_653, g_654, g_655, g_656, g_657, g_658, g_659, g_660, g_661, g_662, g_0_0, g_0_1, g_0_2, g_0_3, g_0_4, g_0_5, g_0_6, g_0_7, g_0_8, g_0_9, g_0_10, g_0_11, g_1_0, g_3_0, g_327_0, g_327_1, g_327_2, g_327_3, g_328_0, g_330_0, g_332_0, g_334_0, g_336_0, g_336_1, g_336_2, g_336_3, g_337_0, g_339_0, g_341_0, g_464_0, g_464_1, g_484_0, g_484_1, g_484_2, g_485_0, g_487_0, g_489_0, g_491_0, g_491_1, g_491_2, g_491_3, g_491_4, g_491_5, g_491_6, g_491_7, g_496_0, g_498_0, g_500_0, g_500_1, g_500_3, g_500_4, g_500_5, g_500_6, g_500_7, g_562_0, g_564_0, g_566_0, g_580_0, g_580_1, g_580_2, g_580_3, g_581_0, g_583_0, g_585_0, g_588_1, g_588_2, g_588_3, g_588_4, g_588_6, g_601_0, g_601_1, g_601_2, g_601_3, g_601_4, g_601_5, g_601_6, g_601_7, g_601_8, g_608_0, g_610_0, g_612_0, g_612_2, g_612_4, g_612_5, g_612_7, g_612_8, g_612_9, g_612_10, g_612_11, g_612_12, g_612_13, g_612_14, g_612_15, g_612_16, g_612_19, g_612_20, g_612_22, g_612_24, g_612_25, g_612_26, g_612_27, g_612_28, g_612_30, g_612_31, g_612_32, g_612_33, g_612_34, g_612_36, g_612_37, g_612_38, g_612_39, g_612_40, g_612_41, g_612_42, g_612_43, g_612_44, g_612_46, g_612_47, g_612_48, g_612_49, g_612_50, g_612_53, g_612_56, g_612_57, g_612_58, g_612_59, g_612_61, g_612_62, g_612_63, g_612_64, addF, v2, rw1, Nat.reduceEqDiff, Nat.reduceAdd, Int.reduceEq, Int.reduceNeg, reduceIte, false_and, and_false, true_and, and_true, and_self]
    (repeat' (first | with_reducible (refine And.intro ?_ ?_) | intro _)) <;> first | omega | with_reducible exact hI
