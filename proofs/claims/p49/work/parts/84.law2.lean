/-! the law's second piece: learnings, told to both objects, to one of them without what is forgotten later -/
def up (f : Int → Int) (k v : Int) : Int → Int := fun j => if j = k then v else f j
theorem up_s {f : Int → Int} {k v : Int} : up f k v k = v := if_pos rfl
theorem up_n {f : Int → Int} {k v j : Int} (h : j ≠ k) : up f k v j = f j := if_neg h
theorem v2_up (f : Nat → Int → Int) (a : Nat) (k v : Int) : v2 f a k v a = up (f a) k v := funext fun j => by
  show (if a = a ∧ j = k then v else f a j) = if j = k then v else f a j
  by_cases h : j = k
  · rw [if_pos ⟨rfl, h⟩, if_pos h]
  · rw [if_neg (fun q => h q.2), if_neg h]
theorem v2_off {f : Nat → Int → Int} {a b : Nat} {k v : Int} (h : b ≠ a) : v2 f a k v b = f b := v2_row f k v h
theorem rd_1224_1225 {f : Nat → Int → Int} {k v j : Int} : v2 f 1224 k v 1225 j = f 1225 j := v2_ne _ _ _ _ (by decide)
theorem rd_1224_1226 {f : Nat → Int → Int} {k v j : Int} : v2 f 1224 k v 1226 j = f 1226 j := v2_ne _ _ _ _ (by decide)
theorem rd_1224_1227 {f : Nat → Int → Int} {k v j : Int} : v2 f 1224 k v 1227 j = f 1227 j := v2_ne _ _ _ _ (by decide)
theorem rd_1224_1228 {f : Nat → Int → Int} {k v j : Int} : v2 f 1224 k v 1228 j = f 1228 j := v2_ne _ _ _ _ (by decide)
theorem rd_1224_1229 {f : Nat → Int → Int} {k v j : Int} : v2 f 1224 k v 1229 j = f 1229 j := v2_ne _ _ _ _ (by decide)
theorem rd_1225_1224 {f : Nat → Int → Int} {k v j : Int} : v2 f 1225 k v 1224 j = f 1224 j := v2_ne _ _ _ _ (by decide)
theorem rd_1225_1226 {f : Nat → Int → Int} {k v j : Int} : v2 f 1225 k v 1226 j = f 1226 j := v2_ne _ _ _ _ (by decide)
theorem rd_1225_1227 {f : Nat → Int → Int} {k v j : Int} : v2 f 1225 k v 1227 j = f 1227 j := v2_ne _ _ _ _ (by decide)
theorem rd_1225_1228 {f : Nat → Int → Int} {k v j : Int} : v2 f 1225 k v 1228 j = f 1228 j := v2_ne _ _ _ _ (by decide)
theorem rd_1225_1229 {f : Nat → Int → Int} {k v j : Int} : v2 f 1225 k v 1229 j = f 1229 j := v2_ne _ _ _ _ (by decide)
theorem rd_1226_1224 {f : Nat → Int → Int} {k v j : Int} : v2 f 1226 k v 1224 j = f 1224 j := v2_ne _ _ _ _ (by decide)
theorem rd_1226_1225 {f : Nat → Int → Int} {k v j : Int} : v2 f 1226 k v 1225 j = f 1225 j := v2_ne _ _ _ _ (by decide)
theorem rd_1226_1227 {f : Nat → Int → Int} {k v j : Int} : v2 f 1226 k v 1227 j = f 1227 j := v2_ne _ _ _ _ (by decide)
theorem rd_1226_1228 {f : Nat → Int → Int} {k v j : Int} : v2 f 1226 k v 1228 j = f 1228 j := v2_ne _ _ _ _ (by decide)
theorem rd_1226_1229 {f : Nat → Int → Int} {k v j : Int} : v2 f 1226 k v 1229 j = f 1229 j := v2_ne _ _ _ _ (by decide)
theorem rd_1227_1224 {f : Nat → Int → Int} {k v j : Int} : v2 f 1227 k v 1224 j = f 1224 j := v2_ne _ _ _ _ (by decide)
theorem rd_1227_1225 {f : Nat → Int → Int} {k v j : Int} : v2 f 1227 k v 1225 j = f 1225 j := v2_ne _ _ _ _ (by decide)
theorem rd_1227_1226 {f : Nat → Int → Int} {k v j : Int} : v2 f 1227 k v 1226 j = f 1226 j := v2_ne _ _ _ _ (by decide)
theorem rd_1227_1228 {f : Nat → Int → Int} {k v j : Int} : v2 f 1227 k v 1228 j = f 1228 j := v2_ne _ _ _ _ (by decide)
theorem rd_1227_1229 {f : Nat → Int → Int} {k v j : Int} : v2 f 1227 k v 1229 j = f 1229 j := v2_ne _ _ _ _ (by decide)
theorem rd_1228_1224 {f : Nat → Int → Int} {k v j : Int} : v2 f 1228 k v 1224 j = f 1224 j := v2_ne _ _ _ _ (by decide)
theorem rd_1228_1225 {f : Nat → Int → Int} {k v j : Int} : v2 f 1228 k v 1225 j = f 1225 j := v2_ne _ _ _ _ (by decide)
theorem rd_1228_1226 {f : Nat → Int → Int} {k v j : Int} : v2 f 1228 k v 1226 j = f 1226 j := v2_ne _ _ _ _ (by decide)
theorem rd_1228_1227 {f : Nat → Int → Int} {k v j : Int} : v2 f 1228 k v 1227 j = f 1227 j := v2_ne _ _ _ _ (by decide)
theorem rd_1228_1229 {f : Nat → Int → Int} {k v j : Int} : v2 f 1228 k v 1229 j = f 1229 j := v2_ne _ _ _ _ (by decide)
theorem rd_1229_1224 {f : Nat → Int → Int} {k v j : Int} : v2 f 1229 k v 1224 j = f 1224 j := v2_ne _ _ _ _ (by decide)
theorem rd_1229_1225 {f : Nat → Int → Int} {k v j : Int} : v2 f 1229 k v 1225 j = f 1225 j := v2_ne _ _ _ _ (by decide)
theorem rd_1229_1226 {f : Nat → Int → Int} {k v j : Int} : v2 f 1229 k v 1226 j = f 1226 j := v2_ne _ _ _ _ (by decide)
theorem rd_1229_1227 {f : Nat → Int → Int} {k v j : Int} : v2 f 1229 k v 1227 j = f 1227 j := v2_ne _ _ _ _ (by decide)
theorem rd_1229_1228 {f : Nat → Int → Int} {k v j : Int} : v2 f 1229 k v 1228 j = f 1228 j := v2_ne _ _ _ _ (by decide)
theorem lge_0 {e : Nat} (h : 1224 < e) : (kdGe e).1 1224 = (13, 16) := kdGe_row (e := e) (i := 0) h
theorem lge_1 {e : Nat} (h : 1225 < e) : (kdGe e).1 1225 = (13, 16) := kdGe_row (e := e) (i := 1) h
theorem lge_2 {e : Nat} (h : 1226 < e) : (kdGe e).1 1226 = (13, 16) := kdGe_row (e := e) (i := 2) h
theorem lge_3 {e : Nat} (h : 1227 < e) : (kdGe e).1 1227 = (13, 4) := kdGe_row (e := e) (i := 3) h
theorem lge_4 {e : Nat} (h : 1228 < e) : (kdGe e).1 1228 = (13, 32) := kdGe_row (e := e) (i := 4) h
theorem lge_5 {e : Nat} (h : 1229 < e) : (kdGe e).1 1229 = (13, 4) := kdGe_row (e := e) (i := 5) h
/-- what is kept of the first k learnings, in its order -/
def Kept (H W D : Int → Int) (fg k : Int) (ph pw pd : Int → Int) : Prop := ∀ j, 0 ≤ j → j < k → ¬(H j = 0 ∧ (fg = -1 ∨ W j = fg)) → ph (ckF H W 0 fg j.toNat) = H j ∧ pw (ckF H W 0 fg j.toNat) = W j ∧ pd (ckF H W 0 fg j.toNat) = D j
abbrev B100 : Int → Int := fun _ => 100
/-- the learnings so far: the law's rows, and both objects -/
def S2 (τ : kzM) (n f fg k other : Int) (H W D NW : Int → Int) : Prop :=
  (τ.1 1224 = H ∧ τ.1 1225 = W ∧ τ.1 1226 = D ∧ τ.1 1227 = NW) ∧ Ob (V 0 τ) 0 n f 1 B100 k H W D ∧
  (∃ ph pw pd, Ob (V 612 τ) 0 n f 1 B100 other ph pw pd ∧ Kept H W D fg k ph pw pd) ∧ other = ckF H W 0 fg k.toNat ∧
  (∀ j, 0 ≤ j → j < k → (0 ≤ H j ∧ H j ≤ 3) ∧ (0 ≤ W j ∧ W j < n) ∧ (0 ≤ D j ∧ D j ≤ NW (H j))) ∧ ∀ h, 0 ≤ h → h < 4 → 0 ≤ NW h ∧ NW h ≤ 5 * k
theorem ckF_up {H W : Int → Int} {fg k h w : Int} : ∀ N : Nat, (N : Int) ≤ k → ckF (up H k h) (up W k w) 0 fg N = ckF H W 0 fg N := fun N hN => ckF_c N fun j j0 j1 => ⟨up_n (by omega), up_n (by omega)⟩
/-- a learning that is kept -/
theorem Kept.add {H W D : Int → Int} {fg k h w d : Int} {ph pw pd : Int → Int} (k0 : 0 ≤ k) (q : Kept H W D fg k ph pw pd) : Kept (up H k h) (up W k w) (up D k d) fg (k + 1) (up ph (ckF H W 0 fg k.toNat) h) (up pw (ckF H W 0 fg k.toNat) w) (up pd (ckF H W 0 fg k.toNat) d) := by
  intro j j0 j1 hj
  rw [ckF_up j.toNat (by omega)]
  by_cases c : j = k
  · rw [c, up_s, up_s, up_s, up_s, up_s, up_s]; exact ⟨rfl, rfl, rfl⟩
  · rw [up_n c, up_n c] at hj
    have l := ckF_lt (fh := H) (fw := W) (h := 0) (w := fg) (k := k) j0 (by omega) hj
    rw [up_n c, up_n c, up_n c, up_n (by omega), up_n (by omega), up_n (by omega)]
    exact q j j0 (by omega) hj
/-- a learning that is forgotten later -/
theorem Kept.skip {H W D : Int → Int} {fg k h w d : Int} {ph pw pd : Int → Int} (k0 : 0 ≤ k) (g : h = 0 ∧ (fg = -1 ∨ w = fg)) (q : Kept H W D fg k ph pw pd) : Kept (up H k h) (up W k w) (up D k d) fg (k + 1) ph pw pd := by
  intro j j0 j1 hj
  rw [ckF_up j.toNat (by omega)]
  by_cases c : j = k
  · rw [c, up_s, up_s] at hj; exact absurd g hj
  · rw [up_n c, up_n c] at hj
    rw [up_n c, up_n c, up_n c]
    exact q j j0 (by omega) hj
theorem Kept.bound {H W D : Int → Int} {fg k hh d : Int} {ph pw pd : Int → Int} (k0 : 0 ≤ k) (q : Kept H W D fg k ph pw pd) (b : ∀ j, 0 ≤ j → j < k → H j = hh → D j ≤ d) : ∀ y, 0 ≤ y → y < ckF H W 0 fg k.toNat → ph y = hh → pd y ≤ d := by
  intro y y0 y1 hy
  obtain ⟨j, j1, j2, j3⟩ := ckF_s _ y y0 y1
  have e := q j (by omega) (by omega) j2
  rw [show ((j : Int)).toNat = j from Int.toNat_natCast j, j3] at e
  rw [e.2.2]
  exact b j (by omega) (by omega) (by rw [← e.1]; exact hy)
set_option maxRecDepth 100000 in
theorem l_150 {xs : Nat → Int32} {N : Nat} (hN : N ≤ 260) {e : Nat} (he : 1228 ≤ e) {n f fg many : Int} (n2 : 2 ≤ n) (n6 : n ≤ 6) (m15 : many ≤ 15) (g0 : 0 ≤ fg) {k354 : Nat → Nat → Int → Int → Int → Nat → Nat → Nat → Int → Int → Int → kzM → Option (Unit × kzM)} {Q : Unit → kzM → Prop} (hk : ∀ (other on : Int) (τ' : kzM) (H W D NW : Int → Int), 0 ≤ on → on ≤ 59 → S2 τ' n f fg many other H W D NW → Wz (k354 0 612 n f many 1224 1225 1226 fg other on) τ' Q) : ∀ (M : Nat) (k other : Int) (τ : kzM) (H W D NW : Int → Int), 0 ≤ k → k ≤ many → many - k < (M : Int) → S2 τ n f fg k other H W D NW → Wz (lp (fun _ _ _ _ _ _ _ _ _ _ _ _ _ => none) (ZL_law_150B (kdGe e) xs N k354) M 0 612 n f many 1224 1225 1226 1227 fg other k) τ Q := by
  have hO := okO_0 e
  have hP := okO_1 e
  have gr0 := lge_0 (e := e) (by omega)
  have gr1 := lge_1 (e := e) (by omega)
  have gr2 := lge_2 (e := e) (by omega)
  have gr3 := lge_3 (e := e) (by omega)
  intro M
  induction M with
  | zero => intro k; intros; omega
  | succ M ih =>
    intro k other τ H W D NW k0 k1 k2 hs
    rw [lp_succ]
    generalize lp (fun _ _ _ _ _ _ _ _ _ _ _ _ _ => none) (ZL_law_150B (kdGe e) xs N k354) M = L at ih ⊢
    unfold ZL_law_150B
    simp only [ZL_law_288, Wz_rt, Wz_cnd, Wz_lI, Wz_lW, Wz_lL, Wz_cl, Wz_cv, Wz_nz, Wz_gI, Wz_gR, Wz_sI, Wz_aI, Wz_aZ, Wz_aL, Wz_aN, Wz_aR, Wz_tI, Wz_tZ, Wz_tL, Option.some.injEq, exists_eq_left', zB_0, zB_1, true_and, and_true, true_implies, not_true_eq_false, false_implies, not_false_eq_true, Classical.not_not, gr0, gr1, gr2, gr3, v2_self, rd_1224_1225, rd_1224_1226, rd_1224_1227, rd_1224_1228, rd_1224_1229, rd_1225_1224, rd_1225_1226, rd_1225_1227, rd_1225_1228, rd_1225_1229, rd_1226_1224, rd_1226_1225, rd_1226_1227, rd_1226_1228, rd_1226_1229, rd_1227_1224, rd_1227_1225, rd_1227_1226, rd_1227_1228, rd_1227_1229, rd_1228_1224, rd_1228_1225, rd_1228_1226, rd_1228_1227, rd_1228_1229, rd_1229_1224, rd_1229_1225, rd_1229_1226, rd_1229_1227, rd_1229_1228]
    refine ⟨fun c => l_cell hN (by omega) (by omega) (by omega) (by omega) fun r r0 r1 => ?_, fun c => ⟨by omega, l_cell hN (by omega) (by omega) (by omega) (by omega) fun h h0 h1 => ?_⟩⟩
    · rw [show k = many by omega] at hs; exact hk other r τ H W D NW r0 (by omega) hs
    refine ⟨⟨by omega, by omega⟩, by omega, l_cell hN (by omega) (by omega) (by omega) (by omega) fun w w0 w1 => ?_⟩
    simp only [v2_self, rd_1224_1225, rd_1224_1226, rd_1224_1227, rd_1224_1228, rd_1224_1229, rd_1225_1224, rd_1225_1226, rd_1225_1227, rd_1225_1228, rd_1225_1229, rd_1226_1224, rd_1226_1225, rd_1226_1227, rd_1226_1228, rd_1226_1229, rd_1227_1224, rd_1227_1225, rd_1227_1226, rd_1227_1228, rd_1227_1229, rd_1228_1224, rd_1228_1225, rd_1228_1226, rd_1228_1227, rd_1228_1229, rd_1229_1224, rd_1229_1225, rd_1229_1226, rd_1229_1227, rd_1229_1228]
    refine ⟨⟨by omega, by omega⟩, ⟨by omega, by omega⟩, ⟨by omega, by omega⟩, by omega, ?_⟩
    refine l_cell hN (by omega) (by omega) (by omega) (by omega) fun c6 c60 c61 => ?_
    simp only [v2_self, rd_1224_1225, rd_1224_1226, rd_1224_1227, rd_1224_1228, rd_1224_1229, rd_1225_1224, rd_1225_1226, rd_1225_1227, rd_1225_1228, rd_1225_1229, rd_1226_1224, rd_1226_1225, rd_1226_1227, rd_1226_1228, rd_1226_1229, rd_1227_1224, rd_1227_1225, rd_1227_1226, rd_1227_1228, rd_1227_1229, rd_1228_1224, rd_1228_1225, rd_1228_1226, rd_1228_1227, rd_1228_1229, rd_1229_1224, rd_1229_1225, rd_1229_1226, rd_1229_1227, rd_1229_1228]
    obtain ⟨⟨s1, s2, s3, s4⟩, ho, ⟨ph, pw, pd, hp, hkp⟩, hot, hr, hnw⟩ := hs
    have nh := hnw h h0 h1
    rw [s4]
    obtain ⟨d, hd⟩ : ∃ d, d = NW h + c6 := ⟨_, rfl⟩
    rw [← hd]
    have ck := ckF_b (fh := H) (fw := W) (h := 0) (w := fg) k.toNat
    -- the law's rows behind the stores
    obtain ⟨A, hA⟩ : ∃ A, A = v2 (v2 (v2 (v2 τ.1 1224 k h) 1225 k w) 1227 h d) 1226 k d := ⟨_, rfl⟩
    have A0 : A 1224 = up H k h := by rw [hA, v2_off (by decide), v2_off (by decide), v2_off (by decide), v2_up, s1]
    have A1 : A 1225 = up W k w := by rw [hA, v2_off (by decide), v2_off (by decide), v2_up, v2_off (by decide), s2]
    have A2 : A 1226 = up D k d := by rw [hA, v2_up, v2_off (by decide), v2_off (by decide), v2_off (by decide), s3]
    have A3 : A 1227 = up NW h d := by rw [hA, v2_off (by decide), v2_up, v2_off (by decide), v2_off (by decide), s4]
    have hoA : Ob (V 0 (A, τ.2)) 0 n f 1 B100 k H W D := by
      rw [hA]
      exact Ob.row (τ := (v2 (v2 (v2 τ.1 1224 k h) 1225 k w) 1227 h d, τ.2)) (by decide) (by decide) (Ob.row (τ := (v2 (v2 τ.1 1224 k h) 1225 k w, τ.2)) (by decide) (by decide) (Ob.row (τ := (v2 τ.1 1224 k h, τ.2)) (by decide) (by decide) (Ob.row (by decide) (by decide) ho)))
    have hpA : Ob (V 612 (A, τ.2)) 0 n f 1 B100 other ph pw pd := by
      rw [hA]
      exact Ob.row (τ := (v2 (v2 (v2 τ.1 1224 k h) 1225 k w) 1227 h d, τ.2)) (by decide) (by decide) (Ob.row (τ := (v2 (v2 τ.1 1224 k h) 1225 k w, τ.2)) (by decide) (by decide) (Ob.row (τ := (v2 τ.1 1224 k h, τ.2)) (by decide) (by decide) (Ob.row (by decide) (by decide) hp)))
    have hbd : ∀ j, 0 ≤ j → j < k → H j = h → D j ≤ d := fun j j0 j1 hj => by
      have e := (hr j j0 j1).2.2.2
      rw [hj] at e
      omega
    -- the next round
    have hr' : ∀ j, 0 ≤ j → j < k + 1 → (0 ≤ up H k h j ∧ up H k h j ≤ 3) ∧ (0 ≤ up W k w j ∧ up W k w j < n) ∧ (0 ≤ up D k d j ∧ up D k d j ≤ up NW h d (up H k h j)) := fun j j0 j1 => by
      by_cases c : j = k
      · subst c; rw [up_s, up_s, up_s, up_s]; omega
      · rw [up_n c, up_n c, up_n c]
        have e := hr j j0 (by omega)
        refine ⟨e.1, e.2.1, e.2.2.1, ?_⟩
        by_cases c2 : H j = h
        · rw [c2, up_s]; exact hbd j j0 (by omega) c2
        · rw [up_n c2]; exact e.2.2.2
    have hnw' : ∀ y, 0 ≤ y → y < 4 → 0 ≤ up NW h d y ∧ up NW h d y ≤ 5 * (k + 1) := fun y y0 y1 => by
      by_cases c : y = h
      · rw [c, up_s]; omega
      · rw [up_n c]; have := hnw y y0 y1; omega
    have next : ∀ (other' : Int) (τ' : kzM) (ph' pw' pd' : Int → Int), (τ'.1 1224 = up H k h ∧ τ'.1 1225 = up W k w ∧ τ'.1 1226 = up D k d ∧ τ'.1 1227 = up NW h d) → Ob (V 0 τ') 0 n f 1 B100 (k + 1) (up H k h) (up W k w) (up D k d) → Ob (V 612 τ') 0 n f 1 B100 other' ph' pw' pd' → Kept (up H k h) (up W k w) (up D k d) fg (k + 1) ph' pw' pd' → other' = ckF (up H k h) (up W k w) 0 fg (k + 1).toNat → Wz (ZL_law_337 (kdGe e) xs N L k354 0 612 n f many 1224 1225 1226 1227 fg other' k) τ' Q := fun other' τ' ph' pw' pd' r1 q1 q2 q3 q4 => by
      simp only [ZL_law_337, Wz_rt, Wz_cnd, Wz_lI, Wz_lW, Wz_lL, Wz_cl, Wz_cv, Wz_nz, Wz_gI, Wz_gR, Wz_sI, Wz_aI, Wz_aZ, Wz_aL, Wz_aN, Wz_aR, Wz_tI, Wz_tZ, Wz_tL, Option.some.injEq, exists_eq_left', zB_0, zB_1, true_and, and_true, true_implies, not_true_eq_false, false_implies, not_false_eq_true, Classical.not_not]
      exact ⟨by omega, ih (k + 1) other' τ' _ _ _ _ (by omega) (by omega) (by omega) ⟨r1, q1, ⟨ph', pw', pd', q2, q3⟩, q4, hr', hnw'⟩⟩
    have stp := ckF_step (fh := up H k h) (fw := up W k w) (h := 0) (w := fg) k0
    rw [up_s, up_s, ckF_up k.toNat (by omega)] at stp
    have s308 : ∀ τ' : kzM, (τ'.1 1224 = up H k h ∧ τ'.1 1225 = up W k w ∧ τ'.1 1226 = up D k d ∧ τ'.1 1227 = up NW h d) → Ob (V 0 τ') 0 n f 1 B100 (k + 1) (up H k h) (up W k w) (up D k d) → Ob (V 612 τ') 0 n f 1 B100 other ph pw pd → ¬(h = 0 ∧ (fg = -1 ∨ w = fg)) → Wz (ZL_law_308 (kdGe e) xs N L k354 0 612 n f many 1224 1225 1226 1227 fg other k) τ' Q := fun τ' r1 q1 q2 g => by
      simp only [ZL_law_308, Wz_rt, Wz_cnd, Wz_lI, Wz_lW, Wz_lL, Wz_cl, Wz_cv, Wz_nz, Wz_gI, Wz_gR, Wz_sI, Wz_aI, Wz_aZ, Wz_aL, Wz_aN, Wz_aR, Wz_tI, Wz_tZ, Wz_tL, Option.some.injEq, exists_eq_left', zB_0, zB_1, true_and, and_true, true_implies, not_true_eq_false, false_implies, not_false_eq_true, Classical.not_not, gr0, gr1, gr2, r1, up_s]
      refine ⟨by omega, ⟨by omega, by omega⟩, ⟨by omega, by omega⟩, ⟨by omega, by omega⟩, hP.k, ?_⟩
      refine t_learn_ok hP q2 (by omega) (by omega) (by omega) (by omega) ?_ fun τ2 hf2 q3 => ⟨fun _ => ?_, fun z => absurd rfl z⟩
      · rw [hot]; exact hkp.bound k0 hbd
      · rw [if_neg g] at stp
        refine next (other + 1) τ2 _ _ _ ⟨by rw [hf2.r1 (by decide)]; exact r1.1, by rw [hf2.r1 (by decide)]; exact r1.2.1, by rw [hf2.r1 (by decide)]; exact r1.2.2.1, by rw [hf2.r1 (by decide)]; exact r1.2.2.2⟩ (q1.o hf2) q3 ?_ (by rw [stp, hot])
        rw [hot]
        exact hkp.add k0
    have s290 : ∀ τ' : kzM, (τ'.1 1224 = up H k h ∧ τ'.1 1225 = up W k w ∧ τ'.1 1226 = up D k d ∧ τ'.1 1227 = up NW h d) → Ob (V 0 τ') 0 n f 1 B100 (k + 1) (up H k h) (up W k w) (up D k d) → Ob (V 612 τ') 0 n f 1 B100 other ph pw pd → Wz (ZL_law_290 (kdGe e) xs N L k354 0 612 n f many 1224 1225 1226 1227 fg other k) τ' Q := fun τ' r1 q1 q2 => by
      simp only [ZL_law_290, Wz_rt, Wz_cnd, Wz_lI, Wz_lW, Wz_lL, Wz_cl, Wz_cv, Wz_nz, Wz_gI, Wz_gR, Wz_sI, Wz_aI, Wz_aZ, Wz_aL, Wz_aN, Wz_aR, Wz_tI, Wz_tZ, Wz_tL, Option.some.injEq, exists_eq_left', zB_0, zB_1, true_and, and_true, true_implies, not_true_eq_false, false_implies, not_false_eq_true, Classical.not_not, gr0, gr1, r1, up_s]
      refine ⟨⟨by omega, by omega⟩, fun c1 => ⟨⟨by omega, by omega⟩, fun c2 => ?_, fun c2 => ?_⟩, fun c1 => ?_⟩
      · have g : h = 0 ∧ (fg = -1 ∨ w = fg) := ⟨c1, Or.inr c2⟩
        rw [if_pos g] at stp
        exact next other τ' ph pw pd r1 q1 q2 (hkp.skip k0 g) (by rw [stp, hot])
      · exact s308 τ' r1 q1 q2 (fun g => by omega)
      · exact s308 τ' r1 q1 q2 (fun g => c1 g.1)
    rw [← hA]
    refine ⟨by omega, ⟨by omega, by omega⟩, ⟨by omega, by omega⟩, ⟨by omega, by omega⟩, ⟨by omega, by omega⟩, ⟨by omega, by omega⟩, ⟨by omega, by omega⟩, ⟨by omega, by omega⟩, hO.k, ?_⟩
    refine t_learn_ok hO hoA (by omega) (by omega) (by omega) (by omega) hbd fun τ1 hf1 q1 => ⟨by omega, fun _ => ?_, fun z => absurd rfl z⟩
    have q1 : Ob (V 0 τ1) 0 n f 1 B100 (k + 1) (up H k h) (up W k w) (up D k d) := q1
    have r1 : τ1.1 1224 = up H k h ∧ τ1.1 1225 = up W k w ∧ τ1.1 1226 = up D k d ∧ τ1.1 1227 = up NW h d := ⟨by rw [hf1.r0 (by decide)]; exact A0, by rw [hf1.r0 (by decide)]; exact A1, by rw [hf1.r0 (by decide)]; exact A2, by rw [hf1.r0 (by decide)]; exact A3⟩
    have p1 := hpA.p hf1
    rw [r1.1, r1.2.1, r1.2.2.1, up_s, up_s, up_s]
    refine ⟨⟨by omega, by omega⟩, fun c => s290 τ1 r1 q1 p1, fun c => ⟨⟨by omega, by omega⟩, ⟨by omega, by omega⟩, ⟨by omega, by omega⟩, by omega, hO.k, ?_⟩⟩
    refine t_learn_no hO q1 (by omega) (by omega) (by omega) (by omega) k0 (by omega) up_s (by rw [up_s]; omega) fun τ2 hf2 q2 => ⟨fun _ => ?_, fun z => absurd rfl z⟩
    exact s290 τ2 ⟨by rw [hf2.r0 (by decide)]; exact r1.1, by rw [hf2.r0 (by decide)]; exact r1.2.1, by rw [hf2.r0 (by decide)]; exact r1.2.2.1, by rw [hf2.r0 (by decide)]; exact r1.2.2.2⟩ q2 (p1.p hf2)
set_option maxRecDepth 100000 in
theorem l_s2 {xs : Nat → Int32} {N : Nat} (hN : N ≤ 260) {e : Nat} (he : 1228 ≤ e) {n f many : Int} (n2 : 2 ≤ n) (n6 : n ≤ 6) (m0 : 0 ≤ many) (m15 : many ≤ 15) {τ : kzM} (ho : On (V 0 τ) n f) (hp : On (V 612 τ) n f) (z3 : ∀ j, τ.1 1227 j = 0) {k354 : Nat → Nat → Int → Int → Int → Nat → Nat → Nat → Int → Int → Int → kzM → Option (Unit × kzM)} {Q : Unit → kzM → Prop} (hk : ∀ (fg other on : Int) (τ' : kzM) (H W D NW : Int → Int), 0 ≤ fg → fg < n → 0 ≤ on → on ≤ 59 → S2 τ' n f fg many other H W D NW → Wz (k354 0 612 n f many 1224 1225 1226 fg other on) τ' Q) : Wz (ZL_law_s2 (kdGe e) xs N k354 0 612 n f many 1224 1225 1226 1227) τ Q := by
  simp only [ZL_law_s2, Wz_rt, Wz_cnd, Wz_lI, Wz_lW, Wz_lL, Wz_cl, Wz_cv, Wz_nz, Wz_gI, Wz_gR, Wz_sI, Wz_aI, Wz_aZ, Wz_aL, Wz_aN, Wz_aR, Wz_tI, Wz_tZ, Wz_tL, Option.some.injEq, exists_eq_left', zB_0, zB_1, true_and, and_true, true_implies, not_true_eq_false, false_implies, not_false_eq_true, Classical.not_not]
  refine l_cell hN (by omega) (by omega) (by omega) (by omega) fun fg g0 g1 => ?_
  unfold ZL_law_150
  refine l_150 hN he n2 n6 m15 g0 (fun other on τ' H W D NW => hk fg other on τ' H W D NW g0 g1) NN 0 0 τ (τ.1 1224) (τ.1 1225) (τ.1 1226) (τ.1 1227) (by omega) m0 (by unfold NN; omega) ⟨⟨rfl, rfl, rfl, rfl⟩, ho.lc (fun k k0 k1 => by omega), ⟨_, _, _, hp, fun j j0 j1 => by omega⟩, rfl, fun j j0 j1 => by omega, fun h h0 h1 => ?_⟩
  rw [z3]; omega
