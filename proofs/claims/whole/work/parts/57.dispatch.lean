/-! the law's loop out of 46 statements, one a method: by program (wip/whole/gen/mk57.py) -/
def MOK (f g : kzM → Option (Int × kzM)) : Prop := ∀ τ, Inv τ → Wz f τ fun r τ1 => Wz g τ1 fun s τ2 => r = s ∧ Inv τ2
def kzT (k : Nat → Nat → Int → kzM → Option (Unit × kzM)) (i : Int) : Prop := ∀ τ, Inv τ → Wz (k 0 612 i) τ fun _ _ => True
theorem kz_end {xs : Nat → Int32} {N : Nat} {k18 : Nat → Nat → Int → kzM → Option (Unit × kzM)} {i : Int} {τ : kzM} (hi : 0 ≤ i ∧ i + 6 ≤ 3072) (hk : kzT k18 (i + 6)) (hI : Inv τ) : Wz (ZL_law_1693 kdG0 xs N k18 0 612 i) τ fun _ _ => True := by
  unfold ZL_law_1693
  rw [Wz_lI]
  exact ⟨⟨by omega, by omega⟩, hk τ hI⟩
set_option maxRecDepth 100000 in
theorem kz_key {xs : Nat → Int32} {N : Nat} {k18 : Nat → Nat → Int → kzM → Option (Unit × kzM)} {i : Int} {τ : kzM} (hN : N ≤ 3072) (hi : 0 ≤ i ∧ i + 6 ≤ (N : Int)) (hk : kzT k18 (i + 6)) (hm : ∀ a1 : Int, kzI a1 → MOK (Z11_key kdG0 0 a1) (Z12_key kdG0 612 a1)) (hI : Inv τ) : Wz (ZL_law_232 kdG0 xs N k18 0 612 i) τ fun _ _ => True := by
  unfold ZL_law_232
  simp only [Wz_sc, Wz_cv, Wz_cnd, g_0, g_612, true_and]
  have h := hm (xs (i + 1).toNat).toInt (kzI_of _) τ hI
  refine ⟨⟨by omega, by omega⟩, Wz_mono h ?_⟩
  intro r τ1 q
  refine ⟨⟨by omega, by omega⟩, Wz_mono q ?_⟩
  rintro s τ2 ⟨p1, p2⟩
  exact ⟨fun _ => kz_end (by omega) hk p2, fun z => absurd p1 z⟩
set_option maxRecDepth 100000 in
theorem kz_letter {xs : Nat → Int32} {N : Nat} {k18 : Nat → Nat → Int → kzM → Option (Unit × kzM)} {i : Int} {τ : kzM} (hN : N ≤ 3072) (hi : 0 ≤ i ∧ i + 6 ≤ (N : Int)) (hk : kzT k18 (i + 6)) (hm : ∀ a1 : Int, kzI a1 → MOK (Z11_letter kdG0 0 a1) (Z12_letter kdG0 612 a1)) (hI : Inv τ) : Wz (ZL_law_255 kdG0 xs N k18 0 612 i) τ fun _ _ => True := by
  unfold ZL_law_255
  simp only [Wz_sc, Wz_cv, Wz_cnd, g_0, g_612, true_and]
  have h := hm (xs (i + 1).toNat).toInt (kzI_of _) τ hI
  refine ⟨⟨by omega, by omega⟩, Wz_mono h ?_⟩
  intro r τ1 q
  refine ⟨⟨by omega, by omega⟩, Wz_mono q ?_⟩
  rintro s τ2 ⟨p1, p2⟩
  exact ⟨fun _ => kz_end (by omega) hk p2, fun z => absurd p1 z⟩
set_option maxRecDepth 100000 in
theorem kz_wipe {xs : Nat → Int32} {N : Nat} {k18 : Nat → Nat → Int → kzM → Option (Unit × kzM)} {i : Int} {τ : kzM} (hN : N ≤ 3072) (hi : 0 ≤ i ∧ i + 6 ≤ (N : Int)) (hk : kzT k18 (i + 6)) (hm : ∀ a1 : Int, kzI a1 → MOK (Z11_wipe kdG0 0 a1) (Z12_wipe kdG0 612 a1)) (hI : Inv τ) : Wz (ZL_law_278 kdG0 xs N k18 0 612 i) τ fun _ _ => True := by
  unfold ZL_law_278
  simp only [Wz_sc, Wz_cv, Wz_cnd, g_0, g_612, true_and]
  have h := hm (xs (i + 1).toNat).toInt (kzI_of _) τ hI
  refine ⟨⟨by omega, by omega⟩, Wz_mono h ?_⟩
  intro r τ1 q
  refine ⟨⟨by omega, by omega⟩, Wz_mono q ?_⟩
  rintro s τ2 ⟨p1, p2⟩
  exact ⟨fun _ => kz_end (by omega) hk p2, fun z => absurd p1 z⟩
set_option maxRecDepth 100000 in
theorem kz_rule {xs : Nat → Int32} {N : Nat} {k18 : Nat → Nat → Int → kzM → Option (Unit × kzM)} {i : Int} {τ : kzM} (hN : N ≤ 3072) (hi : 0 ≤ i ∧ i + 6 ≤ (N : Int)) (hk : kzT k18 (i + 6)) (hm : ∀ a1 : Int, kzI a1 → MOK (Z11_rule kdG0 0 a1) (Z12_rule kdG0 612 a1)) (hI : Inv τ) : Wz (ZL_law_301 kdG0 xs N k18 0 612 i) τ fun _ _ => True := by
  unfold ZL_law_301
  simp only [Wz_sc, Wz_cv, Wz_cnd, g_0, g_612, true_and]
  have h := hm (xs (i + 1).toNat).toInt (kzI_of _) τ hI
  refine ⟨⟨by omega, by omega⟩, Wz_mono h ?_⟩
  intro r τ1 q
  refine ⟨⟨by omega, by omega⟩, Wz_mono q ?_⟩
  rintro s τ2 ⟨p1, p2⟩
  exact ⟨fun _ => kz_end (by omega) hk p2, fun z => absurd p1 z⟩
set_option maxRecDepth 100000 in
theorem kz_join {xs : Nat → Int32} {N : Nat} {k18 : Nat → Nat → Int → kzM → Option (Unit × kzM)} {i : Int} {τ : kzM} (hN : N ≤ 3072) (hi : 0 ≤ i ∧ i + 6 ≤ (N : Int)) (hk : kzT k18 (i + 6)) (hm : ∀ a1 a2 a3 a4 : Int, kzI a1 → kzI a2 → kzI a3 → kzI a4 → MOK (Z11_join kdG0 0 a1 a2 a3 a4) (Z12_join kdG0 612 a1 a2 a3 a4)) (hI : Inv τ) : Wz (ZL_law_324 kdG0 xs N k18 0 612 i) τ fun _ _ => True := by
  unfold ZL_law_324
  simp only [Wz_sc, Wz_cv, Wz_cnd, g_0, g_612, true_and]
  have h := hm (xs (i + 1).toNat).toInt (xs (i + 2).toNat).toInt (xs (i + 3).toNat).toInt (xs (i + 4).toNat).toInt (kzI_of _) (kzI_of _) (kzI_of _) (kzI_of _) τ hI
  refine ⟨⟨by omega, by omega⟩, ⟨by omega, by omega⟩, ⟨by omega, by omega⟩, ⟨by omega, by omega⟩, Wz_mono h ?_⟩
  intro r τ1 q
  refine ⟨⟨by omega, by omega⟩, ⟨by omega, by omega⟩, ⟨by omega, by omega⟩, ⟨by omega, by omega⟩, Wz_mono q ?_⟩
  rintro s τ2 ⟨p1, p2⟩
  exact ⟨fun _ => kz_end (by omega) hk p2, fun z => absurd p1 z⟩
set_option maxRecDepth 100000 in
theorem kz_own {xs : Nat → Int32} {N : Nat} {k18 : Nat → Nat → Int → kzM → Option (Unit × kzM)} {i : Int} {τ : kzM} (hN : N ≤ 3072) (hi : 0 ≤ i ∧ i + 6 ≤ (N : Int)) (hk : kzT k18 (i + 6)) (hm : ∀ a1 a2 b : Int, kzI a1 → kzI a2 → (b = 0 ∨ b = 1) → MOK (Z11_own kdG0 0 a1 a2 b) (Z12_own kdG0 612 a1 a2 b)) (hI : Inv τ) : Wz (ZL_law_377 kdG0 xs N k18 0 612 i) τ fun _ _ => True := by
  unfold ZL_law_377 ZL_law_401 ZL_law_428
  simp only [Wz_sc, Wz_cv, Wz_cnd, g_0, g_612, true_and]
  refine ⟨⟨by omega, by omega⟩, ⟨by omega, by omega⟩, ⟨by omega, by omega⟩, fun e => ?_, fun e => ?_⟩
  · have h := hm (xs (i + 1).toNat).toInt (xs (i + 2).toNat).toInt 0 (kzI_of _) (kzI_of _) (by omega) τ hI
    refine Wz_mono h ?_
    intro r τ1 q
    refine ⟨⟨by omega, by omega⟩, ⟨by omega, by omega⟩, ⟨by omega, by omega⟩, fun _ => ?_, fun z => absurd e z⟩
    refine Wz_mono q ?_
    rintro s τ2 ⟨p1, p2⟩
    exact ⟨fun _ => kz_end (by omega) hk p2, fun z => absurd p1 z⟩
  · have h := hm (xs (i + 1).toNat).toInt (xs (i + 2).toNat).toInt 1 (kzI_of _) (kzI_of _) (by omega) τ hI
    refine Wz_mono h ?_
    intro r τ1 q
    refine ⟨⟨by omega, by omega⟩, ⟨by omega, by omega⟩, ⟨by omega, by omega⟩, fun z => absurd z e, fun _ => ?_⟩
    refine Wz_mono q ?_
    rintro s τ2 ⟨p1, p2⟩
    exact ⟨fun _ => kz_end (by omega) hk p2, fun z => absurd p1 z⟩
set_option maxRecDepth 100000 in
theorem kz_quarrel {xs : Nat → Int32} {N : Nat} {k18 : Nat → Nat → Int → kzM → Option (Unit × kzM)} {i : Int} {τ : kzM} (hN : N ≤ 3072) (hi : 0 ≤ i ∧ i + 6 ≤ (N : Int)) (hk : kzT k18 (i + 6)) (hm : ∀ a1 a2 : Int, kzI a1 → kzI a2 → MOK (Z11_quarrel kdG0 0 a1 a2) (Z12_quarrel kdG0 612 a1 a2)) (hI : Inv τ) : Wz (ZL_law_436 kdG0 xs N k18 0 612 i) τ fun _ _ => True := by
  unfold ZL_law_436
  simp only [Wz_sc, Wz_cv, Wz_cnd, g_0, g_612, true_and]
  have h := hm (xs (i + 1).toNat).toInt (xs (i + 2).toNat).toInt (kzI_of _) (kzI_of _) τ hI
  refine ⟨⟨by omega, by omega⟩, ⟨by omega, by omega⟩, Wz_mono h ?_⟩
  intro r τ1 q
  refine ⟨⟨by omega, by omega⟩, ⟨by omega, by omega⟩, Wz_mono q ?_⟩
  rintro s τ2 ⟨p1, p2⟩
  exact ⟨fun _ => kz_end (by omega) hk p2, fun z => absurd p1 z⟩
set_option maxRecDepth 100000 in
theorem kz_idle {xs : Nat → Int32} {N : Nat} {k18 : Nat → Nat → Int → kzM → Option (Unit × kzM)} {i : Int} {τ : kzM} (hN : N ≤ 3072) (hi : 0 ≤ i ∧ i + 6 ≤ (N : Int)) (hk : kzT k18 (i + 6)) (hm : ∀ a1 a2 : Int, kzI a1 → kzI a2 → MOK (Z11_idle kdG0 0 a1 a2) (Z12_idle kdG0 612 a1 a2)) (hI : Inv τ) : Wz (ZL_law_469 kdG0 xs N k18 0 612 i) τ fun _ _ => True := by
  unfold ZL_law_469
  simp only [Wz_sc, Wz_cv, Wz_cnd, g_0, g_612, true_and]
  have h := hm (xs (i + 1).toNat).toInt (xs (i + 2).toNat).toInt (kzI_of _) (kzI_of _) τ hI
  refine ⟨⟨by omega, by omega⟩, ⟨by omega, by omega⟩, Wz_mono h ?_⟩
  intro r τ1 q
  refine ⟨⟨by omega, by omega⟩, ⟨by omega, by omega⟩, Wz_mono q ?_⟩
  rintro s τ2 ⟨p1, p2⟩
  exact ⟨fun _ => kz_end (by omega) hk p2, fun z => absurd p1 z⟩
set_option maxRecDepth 100000 in
theorem kz_missing {xs : Nat → Int32} {N : Nat} {k18 : Nat → Nat → Int → kzM → Option (Unit × kzM)} {i : Int} {τ : kzM} (hN : N ≤ 3072) (hi : 0 ≤ i ∧ i + 6 ≤ (N : Int)) (hk : kzT k18 (i + 6)) (hm : ∀ a1 a2 : Int, kzI a1 → kzI a2 → MOK (Z11_missing kdG0 0 a1 a2) (Z12_missing kdG0 612 a1 a2)) (hI : Inv τ) : Wz (ZL_law_502 kdG0 xs N k18 0 612 i) τ fun _ _ => True := by
  unfold ZL_law_502
  simp only [Wz_sc, Wz_cv, Wz_cnd, g_0, g_612, true_and]
  have h := hm (xs (i + 1).toNat).toInt (xs (i + 2).toNat).toInt (kzI_of _) (kzI_of _) τ hI
  refine ⟨⟨by omega, by omega⟩, ⟨by omega, by omega⟩, Wz_mono h ?_⟩
  intro r τ1 q
  refine ⟨⟨by omega, by omega⟩, ⟨by omega, by omega⟩, Wz_mono q ?_⟩
  rintro s τ2 ⟨p1, p2⟩
  exact ⟨fun _ => kz_end (by omega) hk p2, fun z => absurd p1 z⟩
set_option maxRecDepth 100000 in
theorem kz_speak {xs : Nat → Int32} {N : Nat} {k18 : Nat → Nat → Int → kzM → Option (Unit × kzM)} {i : Int} {τ : kzM} (hN : N ≤ 3072) (hi : 0 ≤ i ∧ i + 6 ≤ (N : Int)) (hk : kzT k18 (i + 6)) (hm : ∀ a1 : Int, kzI a1 → MOK (Z11_speak kdG0 0 a1) (Z12_speak kdG0 612 a1)) (hI : Inv τ) : Wz (ZL_law_535 kdG0 xs N k18 0 612 i) τ fun _ _ => True := by
  unfold ZL_law_535
  simp only [Wz_sc, Wz_cv, Wz_cnd, g_0, g_612, true_and]
  have h := hm (xs (i + 1).toNat).toInt (kzI_of _) τ hI
  refine ⟨⟨by omega, by omega⟩, Wz_mono h ?_⟩
  intro r τ1 q
  refine ⟨⟨by omega, by omega⟩, Wz_mono q ?_⟩
  rintro s τ2 ⟨p1, p2⟩
  exact ⟨fun _ => kz_end (by omega) hk p2, fun z => absurd p1 z⟩
set_option maxRecDepth 100000 in
theorem kz_strike {xs : Nat → Int32} {N : Nat} {k18 : Nat → Nat → Int → kzM → Option (Unit × kzM)} {i : Int} {τ : kzM} (hN : N ≤ 3072) (hi : 0 ≤ i ∧ i + 6 ≤ (N : Int)) (hk : kzT k18 (i + 6)) (hm : ∀ a1 a2 : Int, kzI a1 → kzI a2 → MOK (Z11_strike kdG0 0 a1 a2) (Z12_strike kdG0 612 a1 a2)) (hI : Inv τ) : Wz (ZL_law_558 kdG0 xs N k18 0 612 i) τ fun _ _ => True := by
  unfold ZL_law_558
  simp only [Wz_sc, Wz_cv, Wz_cnd, g_0, g_612, true_and]
  have h := hm (xs (i + 1).toNat).toInt (xs (i + 2).toNat).toInt (kzI_of _) (kzI_of _) τ hI
  refine ⟨⟨by omega, by omega⟩, ⟨by omega, by omega⟩, Wz_mono h ?_⟩
  intro r τ1 q
  refine ⟨⟨by omega, by omega⟩, ⟨by omega, by omega⟩, Wz_mono q ?_⟩
  rintro s τ2 ⟨p1, p2⟩
  exact ⟨fun _ => kz_end (by omega) hk p2, fun z => absurd p1 z⟩
set_option maxRecDepth 100000 in
theorem kz_change {xs : Nat → Int32} {N : Nat} {k18 : Nat → Nat → Int → kzM → Option (Unit × kzM)} {i : Int} {τ : kzM} (hN : N ≤ 3072) (hi : 0 ≤ i ∧ i + 6 ≤ (N : Int)) (hk : kzT k18 (i + 6)) (hm : ∀ a1 a2 : Int, kzI a1 → kzI a2 → MOK (Z11_change kdG0 0 a1 a2) (Z12_change kdG0 612 a1 a2)) (hI : Inv τ) : Wz (ZL_law_591 kdG0 xs N k18 0 612 i) τ fun _ _ => True := by
  unfold ZL_law_591
  simp only [Wz_sc, Wz_cv, Wz_cnd, g_0, g_612, true_and]
  have h := hm (xs (i + 1).toNat).toInt (xs (i + 2).toNat).toInt (kzI_of _) (kzI_of _) τ hI
  refine ⟨⟨by omega, by omega⟩, ⟨by omega, by omega⟩, Wz_mono h ?_⟩
  intro r τ1 q
  refine ⟨⟨by omega, by omega⟩, ⟨by omega, by omega⟩, Wz_mono q ?_⟩
  rintro s τ2 ⟨p1, p2⟩
  exact ⟨fun _ => kz_end (by omega) hk p2, fun z => absurd p1 z⟩
set_option maxRecDepth 100000 in
theorem kz_back {xs : Nat → Int32} {N : Nat} {k18 : Nat → Nat → Int → kzM → Option (Unit × kzM)} {i : Int} {τ : kzM} (hN : N ≤ 3072) (hi : 0 ≤ i ∧ i + 6 ≤ (N : Int)) (hk : kzT k18 (i + 6)) (hm : ∀ a1 : Int, kzI a1 → MOK (Z11_back kdG0 0 a1) (Z12_back kdG0 612 a1)) (hI : Inv τ) : Wz (ZL_law_624 kdG0 xs N k18 0 612 i) τ fun _ _ => True := by
  unfold ZL_law_624
  simp only [Wz_sc, Wz_cv, Wz_cnd, g_0, g_612, true_and]
  have h := hm (xs (i + 1).toNat).toInt (kzI_of _) τ hI
  refine ⟨⟨by omega, by omega⟩, Wz_mono h ?_⟩
  intro r τ1 q
  refine ⟨⟨by omega, by omega⟩, Wz_mono q ?_⟩
  rintro s τ2 ⟨p1, p2⟩
  exact ⟨fun _ => kz_end (by omega) hk p2, fun z => absurd p1 z⟩
set_option maxRecDepth 100000 in
theorem kz_stands {xs : Nat → Int32} {N : Nat} {k18 : Nat → Nat → Int → kzM → Option (Unit × kzM)} {i : Int} {τ : kzM} (hN : N ≤ 3072) (hi : 0 ≤ i ∧ i + 6 ≤ (N : Int)) (hk : kzT k18 (i + 6)) (hm : ∀ a1 : Int, kzI a1 → MOK (Z11_stands kdG0 0 a1) (Z12_stands kdG0 612 a1)) (hI : Inv τ) : Wz (ZL_law_647 kdG0 xs N k18 0 612 i) τ fun _ _ => True := by
  unfold ZL_law_647
  simp only [Wz_sc, Wz_cv, Wz_cnd, g_0, g_612, true_and]
  have h := hm (xs (i + 1).toNat).toInt (kzI_of _) τ hI
  refine ⟨⟨by omega, by omega⟩, Wz_mono h ?_⟩
  intro r τ1 q
  refine ⟨⟨by omega, by omega⟩, Wz_mono q ?_⟩
  rintro s τ2 ⟨p1, p2⟩
  exact ⟨fun _ => kz_end (by omega) hk p2, fun z => absurd p1 z⟩
set_option maxRecDepth 100000 in
theorem kz_piece {xs : Nat → Int32} {N : Nat} {k18 : Nat → Nat → Int → kzM → Option (Unit × kzM)} {i : Int} {τ : kzM} (hN : N ≤ 3072) (hi : 0 ≤ i ∧ i + 6 ≤ (N : Int)) (hk : kzT k18 (i + 6)) (hm : ∀ a1 : Int, kzI a1 → MOK (Z11_piece kdG0 0 a1) (Z12_piece kdG0 612 a1)) (hI : Inv τ) : Wz (ZL_law_670 kdG0 xs N k18 0 612 i) τ fun _ _ => True := by
  unfold ZL_law_670
  simp only [Wz_sc, Wz_cv, Wz_cnd, g_0, g_612, true_and]
  have h := hm (xs (i + 1).toNat).toInt (kzI_of _) τ hI
  refine ⟨⟨by omega, by omega⟩, Wz_mono h ?_⟩
  intro r τ1 q
  refine ⟨⟨by omega, by omega⟩, Wz_mono q ?_⟩
  rintro s τ2 ⟨p1, p2⟩
  exact ⟨fun _ => kz_end (by omega) hk p2, fun z => absurd p1 z⟩
set_option maxRecDepth 100000 in
theorem kz_could {xs : Nat → Int32} {N : Nat} {k18 : Nat → Nat → Int → kzM → Option (Unit × kzM)} {i : Int} {τ : kzM} (hN : N ≤ 3072) (hi : 0 ≤ i ∧ i + 6 ≤ (N : Int)) (hk : kzT k18 (i + 6)) (hm : MOK (Z11_could kdG0 0) (Z12_could kdG0 612)) (hI : Inv τ) : Wz (ZL_law_693 kdG0 xs N k18 0 612 i) τ fun _ _ => True := by
  unfold ZL_law_693
  simp only [Wz_sc, Wz_cv, Wz_cnd, g_0, g_612, true_and]
  have h := hm τ hI
  refine Wz_mono h ?_
  intro r τ1 q
  refine Wz_mono q ?_
  rintro s τ2 ⟨p1, p2⟩
  exact ⟨fun _ => kz_end (by omega) hk p2, fun z => absurd p1 z⟩
set_option maxRecDepth 100000 in
theorem kz_word {xs : Nat → Int32} {N : Nat} {k18 : Nat → Nat → Int → kzM → Option (Unit × kzM)} {i : Int} {τ : kzM} (hN : N ≤ 3072) (hi : 0 ≤ i ∧ i + 6 ≤ (N : Int)) (hk : kzT k18 (i + 6)) (hm : ∀ a1 a2 a3 : Int, kzI a1 → kzI a2 → kzI a3 → MOK (Z11_word kdG0 0 a1 a2 a3) (Z12_word kdG0 612 a1 a2 a3)) (hI : Inv τ) : Wz (ZL_law_706 kdG0 xs N k18 0 612 i) τ fun _ _ => True := by
  unfold ZL_law_706
  simp only [Wz_sc, Wz_cv, Wz_cnd, g_0, g_612, true_and]
  have h := hm (xs (i + 1).toNat).toInt (xs (i + 2).toNat).toInt (xs (i + 3).toNat).toInt (kzI_of _) (kzI_of _) (kzI_of _) τ hI
  refine ⟨⟨by omega, by omega⟩, ⟨by omega, by omega⟩, ⟨by omega, by omega⟩, Wz_mono h ?_⟩
  intro r τ1 q
  refine ⟨⟨by omega, by omega⟩, ⟨by omega, by omega⟩, ⟨by omega, by omega⟩, Wz_mono q ?_⟩
  rintro s τ2 ⟨p1, p2⟩
  exact ⟨fun _ => kz_end (by omega) hk p2, fun z => absurd p1 z⟩
set_option maxRecDepth 100000 in
theorem kz_ofWord {xs : Nat → Int32} {N : Nat} {k18 : Nat → Nat → Int → kzM → Option (Unit × kzM)} {i : Int} {τ : kzM} (hN : N ≤ 3072) (hi : 0 ≤ i ∧ i + 6 ≤ (N : Int)) (hk : kzT k18 (i + 6)) (hm : ∀ a1 a2 : Int, kzI a1 → kzI a2 → MOK (Z11_ofWord kdG0 0 a1 a2) (Z12_ofWord kdG0 612 a1 a2)) (hI : Inv τ) : Wz (ZL_law_749 kdG0 xs N k18 0 612 i) τ fun _ _ => True := by
  unfold ZL_law_749
  simp only [Wz_sc, Wz_cv, Wz_cnd, g_0, g_612, true_and]
  have h := hm (xs (i + 1).toNat).toInt (xs (i + 2).toNat).toInt (kzI_of _) (kzI_of _) τ hI
  refine ⟨⟨by omega, by omega⟩, ⟨by omega, by omega⟩, Wz_mono h ?_⟩
  intro r τ1 q
  refine ⟨⟨by omega, by omega⟩, ⟨by omega, by omega⟩, Wz_mono q ?_⟩
  rintro s τ2 ⟨p1, p2⟩
  exact ⟨fun _ => kz_end (by omega) hk p2, fun z => absurd p1 z⟩
set_option maxRecDepth 100000 in
theorem kz_count {xs : Nat → Int32} {N : Nat} {k18 : Nat → Nat → Int → kzM → Option (Unit × kzM)} {i : Int} {τ : kzM} (hN : N ≤ 3072) (hi : 0 ≤ i ∧ i + 6 ≤ (N : Int)) (hk : kzT k18 (i + 6)) (hm : ∀ a1 a2 : Int, kzI a1 → kzI a2 → MOK (Z11_count kdG0 0 a1 a2) (Z12_count kdG0 612 a1 a2)) (hI : Inv τ) : Wz (ZL_law_782 kdG0 xs N k18 0 612 i) τ fun _ _ => True := by
  unfold ZL_law_782
  simp only [Wz_sc, Wz_cv, Wz_cnd, g_0, g_612, true_and]
  have h := hm (xs (i + 1).toNat).toInt (xs (i + 2).toNat).toInt (kzI_of _) (kzI_of _) τ hI
  refine ⟨⟨by omega, by omega⟩, ⟨by omega, by omega⟩, Wz_mono h ?_⟩
  intro r τ1 q
  refine ⟨⟨by omega, by omega⟩, ⟨by omega, by omega⟩, Wz_mono q ?_⟩
  rintro s τ2 ⟨p1, p2⟩
  exact ⟨fun _ => kz_end (by omega) hk p2, fun z => absurd p1 z⟩
set_option maxRecDepth 100000 in
theorem kz_price {xs : Nat → Int32} {N : Nat} {k18 : Nat → Nat → Int → kzM → Option (Unit × kzM)} {i : Int} {τ : kzM} (hN : N ≤ 3072) (hi : 0 ≤ i ∧ i + 6 ≤ (N : Int)) (hk : kzT k18 (i + 6)) (hm : ∀ a1 a2 : Int, kzI a1 → kzI a2 → MOK (Z11_price kdG0 0 a1 a2) (Z12_price kdG0 612 a1 a2)) (hI : Inv τ) : Wz (ZL_law_815 kdG0 xs N k18 0 612 i) τ fun _ _ => True := by
  unfold ZL_law_815
  simp only [Wz_sc, Wz_cv, Wz_cnd, g_0, g_612, true_and]
  have h := hm (xs (i + 1).toNat).toInt (xs (i + 2).toNat).toInt (kzI_of _) (kzI_of _) τ hI
  refine ⟨⟨by omega, by omega⟩, ⟨by omega, by omega⟩, Wz_mono h ?_⟩
  intro r τ1 q
  refine ⟨⟨by omega, by omega⟩, ⟨by omega, by omega⟩, Wz_mono q ?_⟩
  rintro s τ2 ⟨p1, p2⟩
  exact ⟨fun _ => kz_end (by omega) hk p2, fun z => absurd p1 z⟩
set_option maxRecDepth 100000 in
theorem kz_slip {xs : Nat → Int32} {N : Nat} {k18 : Nat → Nat → Int → kzM → Option (Unit × kzM)} {i : Int} {τ : kzM} (hN : N ≤ 3072) (hi : 0 ≤ i ∧ i + 6 ≤ (N : Int)) (hk : kzT k18 (i + 6)) (hm : ∀ a1 : Int, kzI a1 → MOK (Z11_slip kdG0 0 a1) (Z12_slip kdG0 612 a1)) (hI : Inv τ) : Wz (ZL_law_848 kdG0 xs N k18 0 612 i) τ fun _ _ => True := by
  unfold ZL_law_848
  simp only [Wz_sc, Wz_cv, Wz_cnd, g_0, g_612, true_and]
  have h := hm (xs (i + 1).toNat).toInt (kzI_of _) τ hI
  refine ⟨⟨by omega, by omega⟩, Wz_mono h ?_⟩
  intro r τ1 q
  refine ⟨⟨by omega, by omega⟩, Wz_mono q ?_⟩
  rintro s τ2 ⟨p1, p2⟩
  exact ⟨fun _ => kz_end (by omega) hk p2, fun z => absurd p1 z⟩
set_option maxRecDepth 100000 in
theorem kz_guess {xs : Nat → Int32} {N : Nat} {k18 : Nat → Nat → Int → kzM → Option (Unit × kzM)} {i : Int} {τ : kzM} (hN : N ≤ 3072) (hi : 0 ≤ i ∧ i + 6 ≤ (N : Int)) (hk : kzT k18 (i + 6)) (hm : ∀ a1 a2 a3 : Int, kzI a1 → kzI a2 → kzI a3 → MOK (Z11_guess kdG0 0 a1 a2 a3) (Z12_guess kdG0 612 a1 a2 a3)) (hI : Inv τ) : Wz (ZL_law_871 kdG0 xs N k18 0 612 i) τ fun _ _ => True := by
  unfold ZL_law_871
  simp only [Wz_sc, Wz_cv, Wz_cnd, g_0, g_612, true_and]
  have h := hm (xs (i + 1).toNat).toInt (xs (i + 2).toNat).toInt (xs (i + 3).toNat).toInt (kzI_of _) (kzI_of _) (kzI_of _) τ hI
  refine ⟨⟨by omega, by omega⟩, ⟨by omega, by omega⟩, ⟨by omega, by omega⟩, Wz_mono h ?_⟩
  intro r τ1 q
  refine ⟨⟨by omega, by omega⟩, ⟨by omega, by omega⟩, ⟨by omega, by omega⟩, Wz_mono q ?_⟩
  rintro s τ2 ⟨p1, p2⟩
  exact ⟨fun _ => kz_end (by omega) hk p2, fun z => absurd p1 z⟩
set_option maxRecDepth 100000 in
theorem kz_part {xs : Nat → Int32} {N : Nat} {k18 : Nat → Nat → Int → kzM → Option (Unit × kzM)} {i : Int} {τ : kzM} (hN : N ≤ 3072) (hi : 0 ≤ i ∧ i + 6 ≤ (N : Int)) (hk : kzT k18 (i + 6)) (hm : ∀ a1 a2 : Int, kzI a1 → kzI a2 → MOK (Z11_part kdG0 0 a1 a2) (Z12_part kdG0 612 a1 a2)) (hI : Inv τ) : Wz (ZL_law_914 kdG0 xs N k18 0 612 i) τ fun _ _ => True := by
  unfold ZL_law_914
  simp only [Wz_sc, Wz_cv, Wz_cnd, g_0, g_612, true_and]
  have h := hm (xs (i + 1).toNat).toInt (xs (i + 2).toNat).toInt (kzI_of _) (kzI_of _) τ hI
  refine ⟨⟨by omega, by omega⟩, ⟨by omega, by omega⟩, Wz_mono h ?_⟩
  intro r τ1 q
  refine ⟨⟨by omega, by omega⟩, ⟨by omega, by omega⟩, Wz_mono q ?_⟩
  rintro s τ2 ⟨p1, p2⟩
  exact ⟨fun _ => kz_end (by omega) hk p2, fun z => absurd p1 z⟩
set_option maxRecDepth 100000 in
theorem kz_pieceOf {xs : Nat → Int32} {N : Nat} {k18 : Nat → Nat → Int → kzM → Option (Unit × kzM)} {i : Int} {τ : kzM} (hN : N ≤ 3072) (hi : 0 ≤ i ∧ i + 6 ≤ (N : Int)) (hk : kzT k18 (i + 6)) (hm : ∀ a1 a2 : Int, kzI a1 → kzI a2 → MOK (Z11_pieceOf kdG0 0 a1 a2) (Z12_pieceOf kdG0 612 a1 a2)) (hI : Inv τ) : Wz (ZL_law_947 kdG0 xs N k18 0 612 i) τ fun _ _ => True := by
  unfold ZL_law_947
  simp only [Wz_sc, Wz_cv, Wz_cnd, g_0, g_612, true_and]
  have h := hm (xs (i + 1).toNat).toInt (xs (i + 2).toNat).toInt (kzI_of _) (kzI_of _) τ hI
  refine ⟨⟨by omega, by omega⟩, ⟨by omega, by omega⟩, Wz_mono h ?_⟩
  intro r τ1 q
  refine ⟨⟨by omega, by omega⟩, ⟨by omega, by omega⟩, Wz_mono q ?_⟩
  rintro s τ2 ⟨p1, p2⟩
  exact ⟨fun _ => kz_end (by omega) hk p2, fun z => absurd p1 z⟩
set_option maxRecDepth 100000 in
theorem kz_both {xs : Nat → Int32} {N : Nat} {k18 : Nat → Nat → Int → kzM → Option (Unit × kzM)} {i : Int} {τ : kzM} (hN : N ≤ 3072) (hi : 0 ≤ i ∧ i + 6 ≤ (N : Int)) (hk : kzT k18 (i + 6)) (hm : ∀ a1 a2 a3 : Int, kzI a1 → kzI a2 → kzI a3 → MOK (Z11_both kdG0 0 a1 a2 a3) (Z12_both kdG0 612 a1 a2 a3)) (hI : Inv τ) : Wz (ZL_law_980 kdG0 xs N k18 0 612 i) τ fun _ _ => True := by
  unfold ZL_law_980
  simp only [Wz_sc, Wz_cv, Wz_cnd, g_0, g_612, true_and]
  have h := hm (xs (i + 1).toNat).toInt (xs (i + 2).toNat).toInt (xs (i + 3).toNat).toInt (kzI_of _) (kzI_of _) (kzI_of _) τ hI
  refine ⟨⟨by omega, by omega⟩, ⟨by omega, by omega⟩, ⟨by omega, by omega⟩, Wz_mono h ?_⟩
  intro r τ1 q
  refine ⟨⟨by omega, by omega⟩, ⟨by omega, by omega⟩, ⟨by omega, by omega⟩, Wz_mono q ?_⟩
  rintro s τ2 ⟨p1, p2⟩
  exact ⟨fun _ => kz_end (by omega) hk p2, fun z => absurd p1 z⟩
set_option maxRecDepth 100000 in
theorem kz_say {xs : Nat → Int32} {N : Nat} {k18 : Nat → Nat → Int → kzM → Option (Unit × kzM)} {i : Int} {τ : kzM} (hN : N ≤ 3072) (hi : 0 ≤ i ∧ i + 6 ≤ (N : Int)) (hk : kzT k18 (i + 6)) (hm : ∀ a1 b : Int, kzI a1 → (b = 0 ∨ b = 1) → MOK (Z11_say kdG0 0 a1 b) (Z12_say kdG0 612 a1 b)) (hI : Inv τ) : Wz (ZL_law_1023 kdG0 xs N k18 0 612 i) τ fun _ _ => True := by
  unfold ZL_law_1023 ZL_law_1042 ZL_law_1064
  simp only [Wz_sc, Wz_cv, Wz_cnd, g_0, g_612, true_and]
  refine ⟨⟨by omega, by omega⟩, ⟨by omega, by omega⟩, fun e => ?_, fun e => ?_⟩
  · have h := hm (xs (i + 1).toNat).toInt 0 (kzI_of _) (by omega) τ hI
    refine Wz_mono h ?_
    intro r τ1 q
    refine ⟨⟨by omega, by omega⟩, ⟨by omega, by omega⟩, fun _ => ?_, fun z => absurd e z⟩
    refine Wz_mono q ?_
    rintro s τ2 ⟨p1, p2⟩
    exact ⟨fun _ => kz_end (by omega) hk p2, fun z => absurd p1 z⟩
  · have h := hm (xs (i + 1).toNat).toInt 1 (kzI_of _) (by omega) τ hI
    refine Wz_mono h ?_
    intro r τ1 q
    refine ⟨⟨by omega, by omega⟩, ⟨by omega, by omega⟩, fun z => absurd z e, fun _ => ?_⟩
    refine Wz_mono q ?_
    rintro s τ2 ⟨p1, p2⟩
    exact ⟨fun _ => kz_end (by omega) hk p2, fun z => absurd p1 z⟩
set_option maxRecDepth 100000 in
theorem kz_chosen {xs : Nat → Int32} {N : Nat} {k18 : Nat → Nat → Int → kzM → Option (Unit × kzM)} {i : Int} {τ : kzM} (hN : N ≤ 3072) (hi : 0 ≤ i ∧ i + 6 ≤ (N : Int)) (hk : kzT k18 (i + 6)) (hm : ∀ a1 : Int, kzI a1 → MOK (Z11_chosen kdG0 0 a1) (Z12_chosen kdG0 612 a1)) (hI : Inv τ) : Wz (ZL_law_1072 kdG0 xs N k18 0 612 i) τ fun _ _ => True := by
  unfold ZL_law_1072
  simp only [Wz_sc, Wz_cv, Wz_cnd, g_0, g_612, true_and]
  have h := hm (xs (i + 1).toNat).toInt (kzI_of _) τ hI
  refine ⟨⟨by omega, by omega⟩, Wz_mono h ?_⟩
  intro r τ1 q
  refine ⟨⟨by omega, by omega⟩, Wz_mono q ?_⟩
  rintro s τ2 ⟨p1, p2⟩
  exact ⟨fun _ => kz_end (by omega) hk p2, fun z => absurd p1 z⟩
set_option maxRecDepth 100000 in
theorem kz_product {xs : Nat → Int32} {N : Nat} {k18 : Nat → Nat → Int → kzM → Option (Unit × kzM)} {i : Int} {τ : kzM} (hN : N ≤ 3072) (hi : 0 ≤ i ∧ i + 6 ≤ (N : Int)) (hk : kzT k18 (i + 6)) (hm : MOK (Z11_product kdG0 0) (Z12_product kdG0 612)) (hI : Inv τ) : Wz (ZL_law_1095 kdG0 xs N k18 0 612 i) τ fun _ _ => True := by
  unfold ZL_law_1095
  simp only [Wz_sc, Wz_cv, Wz_cnd, g_0, g_612, true_and]
  have h := hm τ hI
  refine Wz_mono h ?_
  intro r τ1 q
  refine Wz_mono q ?_
  rintro s τ2 ⟨p1, p2⟩
  exact ⟨fun _ => kz_end (by omega) hk p2, fun z => absurd p1 z⟩
set_option maxRecDepth 100000 in
theorem kz_learn {xs : Nat → Int32} {N : Nat} {k18 : Nat → Nat → Int → kzM → Option (Unit × kzM)} {i : Int} {τ : kzM} (hN : N ≤ 3072) (hi : 0 ≤ i ∧ i + 6 ≤ (N : Int)) (hk : kzT k18 (i + 6)) (hm : ∀ a1 a2 a3 : Int, kzI a1 → kzI a2 → kzI a3 → MOK (Z11_learn kdG0 0 a1 a2 a3) (Z12_learn kdG0 612 a1 a2 a3)) (hI : Inv τ) : Wz (ZL_law_1109 kdG0 xs N k18 0 612 i) τ fun _ _ => True := by
  unfold ZL_law_1109
  simp only [Wz_sc, Wz_cv, Wz_cnd, g_0, g_612, true_and]
  have h := hm (xs (i + 1).toNat).toInt (xs (i + 2).toNat).toInt (xs (i + 3).toNat).toInt (kzI_of _) (kzI_of _) (kzI_of _) τ hI
  refine ⟨⟨by omega, by omega⟩, ⟨by omega, by omega⟩, ⟨by omega, by omega⟩, Wz_mono h ?_⟩
  intro r τ1 q
  refine ⟨⟨by omega, by omega⟩, ⟨by omega, by omega⟩, ⟨by omega, by omega⟩, Wz_mono q ?_⟩
  rintro s τ2 ⟨p1, p2⟩
  exact ⟨fun _ => kz_end (by omega) hk p2, fun z => absurd p1 z⟩
set_option maxRecDepth 100000 in
theorem kz_worth {xs : Nat → Int32} {N : Nat} {k18 : Nat → Nat → Int → kzM → Option (Unit × kzM)} {i : Int} {τ : kzM} (hN : N ≤ 3072) (hi : 0 ≤ i ∧ i + 6 ≤ (N : Int)) (hk : kzT k18 (i + 6)) (hm : ∀ a1 a2 a3 : Int, kzI a1 → kzI a2 → kzI a3 → MOK (Z11_worth kdG0 0 a1 a2 a3) (Z12_worth kdG0 612 a1 a2 a3)) (hI : Inv τ) : Wz (ZL_law_1152 kdG0 xs N k18 0 612 i) τ fun _ _ => True := by
  unfold ZL_law_1152
  simp only [Wz_sc, Wz_cv, Wz_cnd, g_0, g_612, true_and]
  have h := hm (xs (i + 1).toNat).toInt (xs (i + 2).toNat).toInt (xs (i + 3).toNat).toInt (kzI_of _) (kzI_of _) (kzI_of _) τ hI
  refine ⟨⟨by omega, by omega⟩, ⟨by omega, by omega⟩, ⟨by omega, by omega⟩, Wz_mono h ?_⟩
  intro r τ1 q
  refine ⟨⟨by omega, by omega⟩, ⟨by omega, by omega⟩, ⟨by omega, by omega⟩, Wz_mono q ?_⟩
  rintro s τ2 ⟨p1, p2⟩
  exact ⟨fun _ => kz_end (by omega) hk p2, fun z => absurd p1 z⟩
set_option maxRecDepth 100000 in
theorem kz_forget {xs : Nat → Int32} {N : Nat} {k18 : Nat → Nat → Int → kzM → Option (Unit × kzM)} {i : Int} {τ : kzM} (hN : N ≤ 3072) (hi : 0 ≤ i ∧ i + 6 ≤ (N : Int)) (hk : kzT k18 (i + 6)) (hm : ∀ a1 a2 : Int, kzI a1 → kzI a2 → MOK (Z11_forget kdG0 0 a1 a2) (Z12_forget kdG0 612 a1 a2)) (hI : Inv τ) : Wz (ZL_law_1195 kdG0 xs N k18 0 612 i) τ fun _ _ => True := by
  unfold ZL_law_1195
  simp only [Wz_sc, Wz_cv, Wz_cnd, g_0, g_612, true_and]
  have h := hm (xs (i + 1).toNat).toInt (xs (i + 2).toNat).toInt (kzI_of _) (kzI_of _) τ hI
  refine ⟨⟨by omega, by omega⟩, ⟨by omega, by omega⟩, Wz_mono h ?_⟩
  intro r τ1 q
  refine ⟨⟨by omega, by omega⟩, ⟨by omega, by omega⟩, Wz_mono q ?_⟩
  rintro s τ2 ⟨p1, p2⟩
  exact ⟨fun _ => kz_end (by omega) hk p2, fun z => absurd p1 z⟩
set_option maxRecDepth 100000 in
theorem kz_fade {xs : Nat → Int32} {N : Nat} {k18 : Nat → Nat → Int → kzM → Option (Unit × kzM)} {i : Int} {τ : kzM} (hN : N ≤ 3072) (hi : 0 ≤ i ∧ i + 6 ≤ (N : Int)) (hk : kzT k18 (i + 6)) (hm : ∀ a1 : Int, kzI a1 → MOK (Z11_fade kdG0 0 a1) (Z12_fade kdG0 612 a1)) (hI : Inv τ) : Wz (ZL_law_1228 kdG0 xs N k18 0 612 i) τ fun _ _ => True := by
  unfold ZL_law_1228
  simp only [Wz_sc, Wz_cv, Wz_cnd, g_0, g_612, true_and]
  have h := hm (xs (i + 1).toNat).toInt (kzI_of _) τ hI
  refine ⟨⟨by omega, by omega⟩, Wz_mono h ?_⟩
  intro r τ1 q
  refine ⟨⟨by omega, by omega⟩, Wz_mono q ?_⟩
  rintro s τ2 ⟨p1, p2⟩
  exact ⟨fun _ => kz_end (by omega) hk p2, fun z => absurd p1 z⟩
set_option maxRecDepth 100000 in
theorem kz_mine {xs : Nat → Int32} {N : Nat} {k18 : Nat → Nat → Int → kzM → Option (Unit × kzM)} {i : Int} {τ : kzM} (hN : N ≤ 3072) (hi : 0 ≤ i ∧ i + 6 ≤ (N : Int)) (hk : kzT k18 (i + 6)) (hm : ∀ a1 a2 a3 a4 a5 : Int, kzI a1 → kzI a2 → kzI a3 → kzI a4 → kzI a5 → MOK (Z11_mine kdG0 0 a1 a2 a3 a4 a5) (Z12_mine kdG0 612 a1 a2 a3 a4 a5)) (hI : Inv τ) : Wz (ZL_law_1251 kdG0 xs N k18 0 612 i) τ fun _ _ => True := by
  unfold ZL_law_1251
  simp only [Wz_sc, Wz_cv, Wz_cnd, g_0, g_612, true_and]
  have h := hm (xs (i + 1).toNat).toInt (xs (i + 2).toNat).toInt (xs (i + 3).toNat).toInt (xs (i + 4).toNat).toInt (xs (i + 5).toNat).toInt (kzI_of _) (kzI_of _) (kzI_of _) (kzI_of _) (kzI_of _) τ hI
  refine ⟨⟨by omega, by omega⟩, ⟨by omega, by omega⟩, ⟨by omega, by omega⟩, ⟨by omega, by omega⟩, ⟨by omega, by omega⟩, Wz_mono h ?_⟩
  intro r τ1 q
  refine ⟨⟨by omega, by omega⟩, ⟨by omega, by omega⟩, ⟨by omega, by omega⟩, ⟨by omega, by omega⟩, ⟨by omega, by omega⟩, Wz_mono q ?_⟩
  rintro s τ2 ⟨p1, p2⟩
  exact ⟨fun _ => kz_end (by omega) hk p2, fun z => absurd p1 z⟩
set_option maxRecDepth 100000 in
theorem kz_budget {xs : Nat → Int32} {N : Nat} {k18 : Nat → Nat → Int → kzM → Option (Unit × kzM)} {i : Int} {τ : kzM} (hN : N ≤ 3072) (hi : 0 ≤ i ∧ i + 6 ≤ (N : Int)) (hk : kzT k18 (i + 6)) (hm : ∀ a1 a2 : Int, kzI a1 → kzI a2 → MOK (Z11_budget kdG0 0 a1 a2) (Z12_budget kdG0 612 a1 a2)) (hI : Inv τ) : Wz (ZL_law_1314 kdG0 xs N k18 0 612 i) τ fun _ _ => True := by
  unfold ZL_law_1314
  simp only [Wz_sc, Wz_cv, Wz_cnd, g_0, g_612, true_and]
  have h := hm (xs (i + 1).toNat).toInt (xs (i + 2).toNat).toInt (kzI_of _) (kzI_of _) τ hI
  refine ⟨⟨by omega, by omega⟩, ⟨by omega, by omega⟩, Wz_mono h ?_⟩
  intro r τ1 q
  refine ⟨⟨by omega, by omega⟩, ⟨by omega, by omega⟩, Wz_mono q ?_⟩
  rintro s τ2 ⟨p1, p2⟩
  exact ⟨fun _ => kz_end (by omega) hk p2, fun z => absurd p1 z⟩
set_option maxRecDepth 100000 in
theorem kz_seed {xs : Nat → Int32} {N : Nat} {k18 : Nat → Nat → Int → kzM → Option (Unit × kzM)} {i : Int} {τ : kzM} (hN : N ≤ 3072) (hi : 0 ≤ i ∧ i + 6 ≤ (N : Int)) (hk : kzT k18 (i + 6)) (hm : ∀ a1 : Int, kzI a1 → MOK (Z11_seed kdG0 0 a1) (Z12_seed kdG0 612 a1)) (hI : Inv τ) : Wz (ZL_law_1347 kdG0 xs N k18 0 612 i) τ fun _ _ => True := by
  unfold ZL_law_1347
  simp only [Wz_sc, Wz_cv, Wz_cnd, g_0, g_612, true_and]
  have h := hm (xs (i + 1).toNat).toInt (kzI_of _) τ hI
  refine ⟨⟨by omega, by omega⟩, Wz_mono h ?_⟩
  intro r τ1 q
  refine ⟨⟨by omega, by omega⟩, Wz_mono q ?_⟩
  rintro s τ2 ⟨p1, p2⟩
  exact ⟨fun _ => kz_end (by omega) hk p2, fun z => absurd p1 z⟩
set_option maxRecDepth 100000 in
theorem kz_share {xs : Nat → Int32} {N : Nat} {k18 : Nat → Nat → Int → kzM → Option (Unit × kzM)} {i : Int} {τ : kzM} (hN : N ≤ 3072) (hi : 0 ≤ i ∧ i + 6 ≤ (N : Int)) (hk : kzT k18 (i + 6)) (hm : ∀ a1 a2 a3 : Int, kzI a1 → kzI a2 → kzI a3 → MOK (Z11_share kdG0 0 a1 a2 a3) (Z12_share kdG0 612 a1 a2 a3)) (hI : Inv τ) : Wz (ZL_law_1370 kdG0 xs N k18 0 612 i) τ fun _ _ => True := by
  unfold ZL_law_1370
  simp only [Wz_sc, Wz_cv, Wz_cnd, g_0, g_612, true_and]
  have h := hm (xs (i + 1).toNat).toInt (xs (i + 2).toNat).toInt (xs (i + 3).toNat).toInt (kzI_of _) (kzI_of _) (kzI_of _) τ hI
  refine ⟨⟨by omega, by omega⟩, ⟨by omega, by omega⟩, ⟨by omega, by omega⟩, Wz_mono h ?_⟩
  intro r τ1 q
  refine ⟨⟨by omega, by omega⟩, ⟨by omega, by omega⟩, ⟨by omega, by omega⟩, Wz_mono q ?_⟩
  rintro s τ2 ⟨p1, p2⟩
  exact ⟨fun _ => kz_end (by omega) hk p2, fun z => absurd p1 z⟩
set_option maxRecDepth 100000 in
theorem kz_symbols {xs : Nat → Int32} {N : Nat} {k18 : Nat → Nat → Int → kzM → Option (Unit × kzM)} {i : Int} {τ : kzM} (hN : N ≤ 3072) (hi : 0 ≤ i ∧ i + 6 ≤ (N : Int)) (hk : kzT k18 (i + 6)) (hm : ∀ a1 : Int, kzI a1 → MOK (Z11_symbols kdG0 0 a1) (Z12_symbols kdG0 612 a1)) (hI : Inv τ) : Wz (ZL_law_1413 kdG0 xs N k18 0 612 i) τ fun _ _ => True := by
  unfold ZL_law_1413
  simp only [Wz_sc, Wz_cv, Wz_cnd, g_0, g_612, true_and]
  have h := hm (xs (i + 1).toNat).toInt (kzI_of _) τ hI
  refine ⟨⟨by omega, by omega⟩, Wz_mono h ?_⟩
  intro r τ1 q
  refine ⟨⟨by omega, by omega⟩, Wz_mono q ?_⟩
  rintro s τ2 ⟨p1, p2⟩
  exact ⟨fun _ => kz_end (by omega) hk p2, fun z => absurd p1 z⟩
set_option maxRecDepth 100000 in
theorem kz_set {xs : Nat → Int32} {N : Nat} {k18 : Nat → Nat → Int → kzM → Option (Unit × kzM)} {i : Int} {τ : kzM} (hN : N ≤ 3072) (hi : 0 ≤ i ∧ i + 6 ≤ (N : Int)) (hk : kzT k18 (i + 6)) (hm : ∀ a1 a2 a3 : Int, kzI a1 → kzI a2 → kzI a3 → MOK (Z11_set kdG0 0 a1 a2 a3) (Z12_set kdG0 612 a1 a2 a3)) (hI : Inv τ) : Wz (ZL_law_1436 kdG0 xs N k18 0 612 i) τ fun _ _ => True := by
  unfold ZL_law_1436
  simp only [Wz_sc, Wz_cv, Wz_cnd, g_0, g_612, true_and]
  have h := hm (xs (i + 1).toNat).toInt (xs (i + 2).toNat).toInt (xs (i + 3).toNat).toInt (kzI_of _) (kzI_of _) (kzI_of _) τ hI
  refine ⟨⟨by omega, by omega⟩, ⟨by omega, by omega⟩, ⟨by omega, by omega⟩, Wz_mono h ?_⟩
  intro r τ1 q
  refine ⟨⟨by omega, by omega⟩, ⟨by omega, by omega⟩, ⟨by omega, by omega⟩, Wz_mono q ?_⟩
  rintro s τ2 ⟨p1, p2⟩
  exact ⟨fun _ => kz_end (by omega) hk p2, fun z => absurd p1 z⟩
set_option maxRecDepth 100000 in
theorem kz_pair {xs : Nat → Int32} {N : Nat} {k18 : Nat → Nat → Int → kzM → Option (Unit × kzM)} {i : Int} {τ : kzM} (hN : N ≤ 3072) (hi : 0 ≤ i ∧ i + 6 ≤ (N : Int)) (hk : kzT k18 (i + 6)) (hm : ∀ a1 a2 a3 : Int, kzI a1 → kzI a2 → kzI a3 → MOK (Z11_pair kdG0 0 a1 a2 a3) (Z12_pair kdG0 612 a1 a2 a3)) (hI : Inv τ) : Wz (ZL_law_1479 kdG0 xs N k18 0 612 i) τ fun _ _ => True := by
  unfold ZL_law_1479
  simp only [Wz_sc, Wz_cv, Wz_cnd, g_0, g_612, true_and]
  have h := hm (xs (i + 1).toNat).toInt (xs (i + 2).toNat).toInt (xs (i + 3).toNat).toInt (kzI_of _) (kzI_of _) (kzI_of _) τ hI
  refine ⟨⟨by omega, by omega⟩, ⟨by omega, by omega⟩, ⟨by omega, by omega⟩, Wz_mono h ?_⟩
  intro r τ1 q
  refine ⟨⟨by omega, by omega⟩, ⟨by omega, by omega⟩, ⟨by omega, by omega⟩, Wz_mono q ?_⟩
  rintro s τ2 ⟨p1, p2⟩
  exact ⟨fun _ => kz_end (by omega) hk p2, fun z => absurd p1 z⟩
set_option maxRecDepth 100000 in
theorem kz_same {xs : Nat → Int32} {N : Nat} {k18 : Nat → Nat → Int → kzM → Option (Unit × kzM)} {i : Int} {τ : kzM} (hN : N ≤ 3072) (hi : 0 ≤ i ∧ i + 6 ≤ (N : Int)) (hk : kzT k18 (i + 6)) (hm : ∀ a1 : Int, kzI a1 → MOK (Z11_same kdG0 0 a1) (Z12_same kdG0 612 a1)) (hI : Inv τ) : Wz (ZL_law_1522 kdG0 xs N k18 0 612 i) τ fun _ _ => True := by
  unfold ZL_law_1522
  simp only [Wz_sc, Wz_cv, Wz_cnd, g_0, g_612, true_and]
  have h := hm (xs (i + 1).toNat).toInt (kzI_of _) τ hI
  refine ⟨⟨by omega, by omega⟩, Wz_mono h ?_⟩
  intro r τ1 q
  refine ⟨⟨by omega, by omega⟩, Wz_mono q ?_⟩
  rintro s τ2 ⟨p1, p2⟩
  exact ⟨fun _ => kz_end (by omega) hk p2, fun z => absurd p1 z⟩
set_option maxRecDepth 100000 in
theorem kz_cost {xs : Nat → Int32} {N : Nat} {k18 : Nat → Nat → Int → kzM → Option (Unit × kzM)} {i : Int} {τ : kzM} (hN : N ≤ 3072) (hi : 0 ≤ i ∧ i + 6 ≤ (N : Int)) (hk : kzT k18 (i + 6)) (hm : ∀ a1 : Int, kzI a1 → MOK (Z11_cost kdG0 0 a1) (Z12_cost kdG0 612 a1)) (hI : Inv τ) : Wz (ZL_law_1545 kdG0 xs N k18 0 612 i) τ fun _ _ => True := by
  unfold ZL_law_1545
  simp only [Wz_sc, Wz_cv, Wz_cnd, g_0, g_612, true_and]
  have h := hm (xs (i + 1).toNat).toInt (kzI_of _) τ hI
  refine ⟨⟨by omega, by omega⟩, Wz_mono h ?_⟩
  intro r τ1 q
  refine ⟨⟨by omega, by omega⟩, Wz_mono q ?_⟩
  rintro s τ2 ⟨p1, p2⟩
  exact ⟨fun _ => kz_end (by omega) hk p2, fun z => absurd p1 z⟩
set_option maxRecDepth 100000 in
theorem kz_best {xs : Nat → Int32} {N : Nat} {k18 : Nat → Nat → Int → kzM → Option (Unit × kzM)} {i : Int} {τ : kzM} (hN : N ≤ 3072) (hi : 0 ≤ i ∧ i + 6 ≤ (N : Int)) (hk : kzT k18 (i + 6)) (hm : MOK (Z11_best kdG0 0) (Z12_best kdG0 612)) (hI : Inv τ) : Wz (ZL_law_1568 kdG0 xs N k18 0 612 i) τ fun _ _ => True := by
  unfold ZL_law_1568
  simp only [Wz_sc, Wz_cv, Wz_cnd, g_0, g_612, true_and]
  have h := hm τ hI
  refine Wz_mono h ?_
  intro r τ1 q
  refine Wz_mono q ?_
  rintro s τ2 ⟨p1, p2⟩
  exact ⟨fun _ => kz_end (by omega) hk p2, fun z => absurd p1 z⟩
set_option maxRecDepth 100000 in
theorem kz_bound {xs : Nat → Int32} {N : Nat} {k18 : Nat → Nat → Int → kzM → Option (Unit × kzM)} {i : Int} {τ : kzM} (hN : N ≤ 3072) (hi : 0 ≤ i ∧ i + 6 ≤ (N : Int)) (hk : kzT k18 (i + 6)) (hm : MOK (Z11_bound kdG0 0) (Z12_bound kdG0 612)) (hI : Inv τ) : Wz (ZL_law_1581 kdG0 xs N k18 0 612 i) τ fun _ _ => True := by
  unfold ZL_law_1581
  simp only [Wz_sc, Wz_cv, Wz_cnd, g_0, g_612, true_and]
  have h := hm τ hI
  refine Wz_mono h ?_
  intro r τ1 q
  refine Wz_mono q ?_
  rintro s τ2 ⟨p1, p2⟩
  exact ⟨fun _ => kz_end (by omega) hk p2, fun z => absurd p1 z⟩
set_option maxRecDepth 100000 in
theorem kz_better {xs : Nat → Int32} {N : Nat} {k18 : Nat → Nat → Int → kzM → Option (Unit × kzM)} {i : Int} {τ : kzM} (hN : N ≤ 3072) (hi : 0 ≤ i ∧ i + 6 ≤ (N : Int)) (hk : kzT k18 (i + 6)) (hm : ∀ a1 a2 : Int, kzI a1 → kzI a2 → MOK (Z11_better kdG0 0 a1 a2) (Z12_better kdG0 612 a1 a2)) (hI : Inv τ) : Wz (ZL_law_1594 kdG0 xs N k18 0 612 i) τ fun _ _ => True := by
  unfold ZL_law_1594
  simp only [Wz_sc, Wz_cv, Wz_cnd, g_0, g_612, true_and]
  have h := hm (xs (i + 1).toNat).toInt (xs (i + 2).toNat).toInt (kzI_of _) (kzI_of _) τ hI
  refine ⟨⟨by omega, by omega⟩, ⟨by omega, by omega⟩, Wz_mono h ?_⟩
  intro r τ1 q
  refine ⟨⟨by omega, by omega⟩, ⟨by omega, by omega⟩, Wz_mono q ?_⟩
  rintro s τ2 ⟨p1, p2⟩
  exact ⟨fun _ => kz_end (by omega) hk p2, fun z => absurd p1 z⟩
set_option maxRecDepth 100000 in
theorem kz_way {xs : Nat → Int32} {N : Nat} {k18 : Nat → Nat → Int → kzM → Option (Unit × kzM)} {i : Int} {τ : kzM} (hN : N ≤ 3072) (hi : 0 ≤ i ∧ i + 6 ≤ (N : Int)) (hk : kzT k18 (i + 6)) (hm : ∀ a1 a2 a3 : Int, kzI a1 → kzI a2 → kzI a3 → MOK (Z11_way kdG0 0 a1 a2 a3) (Z12_way kdG0 612 a1 a2 a3)) (hI : Inv τ) : Wz (ZL_law_1627 kdG0 xs N k18 0 612 i) τ fun _ _ => True := by
  unfold ZL_law_1627
  simp only [Wz_sc, Wz_cv, Wz_cnd, g_0, g_612, true_and]
  have h := hm (xs (i + 1).toNat).toInt (xs (i + 2).toNat).toInt (xs (i + 3).toNat).toInt (kzI_of _) (kzI_of _) (kzI_of _) τ hI
  refine ⟨⟨by omega, by omega⟩, ⟨by omega, by omega⟩, ⟨by omega, by omega⟩, Wz_mono h ?_⟩
  intro r τ1 q
  refine ⟨⟨by omega, by omega⟩, ⟨by omega, by omega⟩, ⟨by omega, by omega⟩, Wz_mono q ?_⟩
  rintro s τ2 ⟨p1, p2⟩
  exact ⟨fun _ => kz_end (by omega) hk p2, fun z => absurd p1 z⟩
set_option maxRecDepth 100000 in
theorem kz_told {xs : Nat → Int32} {N : Nat} {k18 : Nat → Nat → Int → kzM → Option (Unit × kzM)} {i : Int} {τ : kzM} (hN : N ≤ 3072) (hi : 0 ≤ i ∧ i + 6 ≤ (N : Int)) (hk : kzT k18 (i + 6)) (hm : ∀ a1 : Int, kzI a1 → MOK (Z11_told kdG0 0 a1) (Z12_told kdG0 612 a1)) (hI : Inv τ) : Wz (ZL_law_1670 kdG0 xs N k18 0 612 i) τ fun _ _ => True := by
  unfold ZL_law_1670
  simp only [Wz_sc, Wz_cv, Wz_cnd, g_0, g_612, true_and]
  have h := hm (xs (i + 1).toNat).toInt (kzI_of _) τ hI
  refine ⟨⟨by omega, by omega⟩, Wz_mono h ?_⟩
  intro r τ1 q
  refine ⟨⟨by omega, by omega⟩, Wz_mono q ?_⟩
  rintro s τ2 ⟨p1, p2⟩
  exact ⟨fun _ => kz_end (by omega) hk p2, fun z => absurd p1 z⟩
set_option maxRecDepth 100000 in
theorem kz_law {xs : Nat → Int32} {N : Nat} (hN : N ≤ 3072)
  (m0 : ∀ a1 : Int, kzI a1 → MOK (Z11_key kdG0 0 a1) (Z12_key kdG0 612 a1))
  (m1 : ∀ a1 : Int, kzI a1 → MOK (Z11_letter kdG0 0 a1) (Z12_letter kdG0 612 a1))
  (m2 : ∀ a1 : Int, kzI a1 → MOK (Z11_wipe kdG0 0 a1) (Z12_wipe kdG0 612 a1))
  (m3 : ∀ a1 : Int, kzI a1 → MOK (Z11_rule kdG0 0 a1) (Z12_rule kdG0 612 a1))
  (m4 : ∀ a1 a2 a3 a4 : Int, kzI a1 → kzI a2 → kzI a3 → kzI a4 → MOK (Z11_join kdG0 0 a1 a2 a3 a4) (Z12_join kdG0 612 a1 a2 a3 a4))
  (m5 : ∀ a1 a2 b : Int, kzI a1 → kzI a2 → (b = 0 ∨ b = 1) → MOK (Z11_own kdG0 0 a1 a2 b) (Z12_own kdG0 612 a1 a2 b))
  (m6 : ∀ a1 a2 : Int, kzI a1 → kzI a2 → MOK (Z11_quarrel kdG0 0 a1 a2) (Z12_quarrel kdG0 612 a1 a2))
  (m7 : ∀ a1 a2 : Int, kzI a1 → kzI a2 → MOK (Z11_idle kdG0 0 a1 a2) (Z12_idle kdG0 612 a1 a2))
  (m8 : ∀ a1 a2 : Int, kzI a1 → kzI a2 → MOK (Z11_missing kdG0 0 a1 a2) (Z12_missing kdG0 612 a1 a2))
  (m9 : ∀ a1 : Int, kzI a1 → MOK (Z11_speak kdG0 0 a1) (Z12_speak kdG0 612 a1))
  (m10 : ∀ a1 a2 : Int, kzI a1 → kzI a2 → MOK (Z11_strike kdG0 0 a1 a2) (Z12_strike kdG0 612 a1 a2))
  (m11 : ∀ a1 a2 : Int, kzI a1 → kzI a2 → MOK (Z11_change kdG0 0 a1 a2) (Z12_change kdG0 612 a1 a2))
  (m12 : ∀ a1 : Int, kzI a1 → MOK (Z11_back kdG0 0 a1) (Z12_back kdG0 612 a1))
  (m13 : ∀ a1 : Int, kzI a1 → MOK (Z11_stands kdG0 0 a1) (Z12_stands kdG0 612 a1))
  (m14 : ∀ a1 : Int, kzI a1 → MOK (Z11_piece kdG0 0 a1) (Z12_piece kdG0 612 a1))
  (m15 : MOK (Z11_could kdG0 0) (Z12_could kdG0 612))
  (m16 : ∀ a1 a2 a3 : Int, kzI a1 → kzI a2 → kzI a3 → MOK (Z11_word kdG0 0 a1 a2 a3) (Z12_word kdG0 612 a1 a2 a3))
  (m17 : ∀ a1 a2 : Int, kzI a1 → kzI a2 → MOK (Z11_ofWord kdG0 0 a1 a2) (Z12_ofWord kdG0 612 a1 a2))
  (m18 : ∀ a1 a2 : Int, kzI a1 → kzI a2 → MOK (Z11_count kdG0 0 a1 a2) (Z12_count kdG0 612 a1 a2))
  (m19 : ∀ a1 a2 : Int, kzI a1 → kzI a2 → MOK (Z11_price kdG0 0 a1 a2) (Z12_price kdG0 612 a1 a2))
  (m20 : ∀ a1 : Int, kzI a1 → MOK (Z11_slip kdG0 0 a1) (Z12_slip kdG0 612 a1))
  (m21 : ∀ a1 a2 a3 : Int, kzI a1 → kzI a2 → kzI a3 → MOK (Z11_guess kdG0 0 a1 a2 a3) (Z12_guess kdG0 612 a1 a2 a3))
  (m22 : ∀ a1 a2 : Int, kzI a1 → kzI a2 → MOK (Z11_part kdG0 0 a1 a2) (Z12_part kdG0 612 a1 a2))
  (m23 : ∀ a1 a2 : Int, kzI a1 → kzI a2 → MOK (Z11_pieceOf kdG0 0 a1 a2) (Z12_pieceOf kdG0 612 a1 a2))
  (m24 : ∀ a1 a2 a3 : Int, kzI a1 → kzI a2 → kzI a3 → MOK (Z11_both kdG0 0 a1 a2 a3) (Z12_both kdG0 612 a1 a2 a3))
  (m25 : ∀ a1 b : Int, kzI a1 → (b = 0 ∨ b = 1) → MOK (Z11_say kdG0 0 a1 b) (Z12_say kdG0 612 a1 b))
  (m26 : ∀ a1 : Int, kzI a1 → MOK (Z11_chosen kdG0 0 a1) (Z12_chosen kdG0 612 a1))
  (m27 : MOK (Z11_product kdG0 0) (Z12_product kdG0 612))
  (m28 : ∀ a1 a2 a3 : Int, kzI a1 → kzI a2 → kzI a3 → MOK (Z11_learn kdG0 0 a1 a2 a3) (Z12_learn kdG0 612 a1 a2 a3))
  (m29 : ∀ a1 a2 a3 : Int, kzI a1 → kzI a2 → kzI a3 → MOK (Z11_worth kdG0 0 a1 a2 a3) (Z12_worth kdG0 612 a1 a2 a3))
  (m30 : ∀ a1 a2 : Int, kzI a1 → kzI a2 → MOK (Z11_forget kdG0 0 a1 a2) (Z12_forget kdG0 612 a1 a2))
  (m31 : ∀ a1 : Int, kzI a1 → MOK (Z11_fade kdG0 0 a1) (Z12_fade kdG0 612 a1))
  (m32 : ∀ a1 a2 a3 a4 a5 : Int, kzI a1 → kzI a2 → kzI a3 → kzI a4 → kzI a5 → MOK (Z11_mine kdG0 0 a1 a2 a3 a4 a5) (Z12_mine kdG0 612 a1 a2 a3 a4 a5))
  (m33 : ∀ a1 a2 : Int, kzI a1 → kzI a2 → MOK (Z11_budget kdG0 0 a1 a2) (Z12_budget kdG0 612 a1 a2))
  (m34 : ∀ a1 : Int, kzI a1 → MOK (Z11_seed kdG0 0 a1) (Z12_seed kdG0 612 a1))
  (m35 : ∀ a1 a2 a3 : Int, kzI a1 → kzI a2 → kzI a3 → MOK (Z11_share kdG0 0 a1 a2 a3) (Z12_share kdG0 612 a1 a2 a3))
  (m36 : ∀ a1 : Int, kzI a1 → MOK (Z11_symbols kdG0 0 a1) (Z12_symbols kdG0 612 a1))
  (m37 : ∀ a1 a2 a3 : Int, kzI a1 → kzI a2 → kzI a3 → MOK (Z11_set kdG0 0 a1 a2 a3) (Z12_set kdG0 612 a1 a2 a3))
  (m38 : ∀ a1 a2 a3 : Int, kzI a1 → kzI a2 → kzI a3 → MOK (Z11_pair kdG0 0 a1 a2 a3) (Z12_pair kdG0 612 a1 a2 a3))
  (m39 : ∀ a1 : Int, kzI a1 → MOK (Z11_same kdG0 0 a1) (Z12_same kdG0 612 a1))
  (m40 : ∀ a1 : Int, kzI a1 → MOK (Z11_cost kdG0 0 a1) (Z12_cost kdG0 612 a1))
  (m41 : MOK (Z11_best kdG0 0) (Z12_best kdG0 612))
  (m42 : MOK (Z11_bound kdG0 0) (Z12_bound kdG0 612))
  (m43 : ∀ a1 a2 : Int, kzI a1 → kzI a2 → MOK (Z11_better kdG0 0 a1 a2) (Z12_better kdG0 612 a1 a2))
  (m44 : ∀ a1 a2 a3 : Int, kzI a1 → kzI a2 → kzI a3 → MOK (Z11_way kdG0 0 a1 a2 a3) (Z12_way kdG0 612 a1 a2 a3))
  (m45 : ∀ a1 : Int, kzI a1 → MOK (Z11_told kdG0 0 a1) (Z12_told kdG0 612 a1)) : ∀ (n : Nat) (i : Int) (τ : kzM), 0 ≤ i → i ≤ 4000 → 4000 - i < (n : Int) → Inv τ → Wz (lp (fun _ _ _ _ => none) (ZL_law_18B kdG0 xs N) n 0 612 i) τ fun _ _ => True := by
  intro n
  induction n with
  | zero => intro i τ h0 h1 h2; omega
  | succ n ih =>
    intro i τ h0 h1 h2 hI
    rw [lp_succ]
    unfold ZL_law_18B
    simp only [Wz_lI, Wz_sc, Wz_cnd, Wz_rt]
    refine ⟨⟨by omega, by omega⟩, fun _ => trivial, fun e => ?_⟩
    have hk : kzT (lp (fun _ _ _ _ => none) (ZL_law_18B kdG0 xs N) n) (i + 6) := fun τ2 h => ih _ τ2 (by omega) (by omega) (by omega) h
    refine ⟨⟨by omega, by omega⟩, ?_⟩
    exact ⟨fun _ => kz_key hN (by omega) hk m0 hI, fun _ => ⟨fun _ => kz_letter hN (by omega) hk m1 hI, fun _ => ⟨fun _ => kz_wipe hN (by omega) hk m2 hI, fun _ => ⟨fun _ => kz_rule hN (by omega) hk m3 hI, fun _ => ⟨fun _ => kz_join hN (by omega) hk m4 hI, fun _ => ⟨fun _ => kz_own hN (by omega) hk m5 hI, fun _ => ⟨fun _ => kz_quarrel hN (by omega) hk m6 hI, fun _ => ⟨fun _ => kz_idle hN (by omega) hk m7 hI, fun _ => ⟨fun _ => kz_missing hN (by omega) hk m8 hI, fun _ => ⟨fun _ => kz_speak hN (by omega) hk m9 hI, fun _ => ⟨fun _ => kz_strike hN (by omega) hk m10 hI, fun _ => ⟨fun _ => kz_change hN (by omega) hk m11 hI, fun _ => ⟨fun _ => kz_back hN (by omega) hk m12 hI, fun _ => ⟨fun _ => kz_stands hN (by omega) hk m13 hI, fun _ => ⟨fun _ => kz_piece hN (by omega) hk m14 hI, fun _ => ⟨fun _ => kz_could hN (by omega) hk m15 hI, fun _ => ⟨fun _ => kz_word hN (by omega) hk m16 hI, fun _ => ⟨fun _ => kz_ofWord hN (by omega) hk m17 hI, fun _ => ⟨fun _ => kz_count hN (by omega) hk m18 hI, fun _ => ⟨fun _ => kz_price hN (by omega) hk m19 hI, fun _ => ⟨fun _ => kz_slip hN (by omega) hk m20 hI, fun _ => ⟨fun _ => kz_guess hN (by omega) hk m21 hI, fun _ => ⟨fun _ => kz_part hN (by omega) hk m22 hI, fun _ => ⟨fun _ => kz_pieceOf hN (by omega) hk m23 hI, fun _ => ⟨fun _ => kz_both hN (by omega) hk m24 hI, fun _ => ⟨fun _ => kz_say hN (by omega) hk m25 hI, fun _ => ⟨fun _ => kz_chosen hN (by omega) hk m26 hI, fun _ => ⟨fun _ => kz_product hN (by omega) hk m27 hI, fun _ => ⟨fun _ => kz_learn hN (by omega) hk m28 hI, fun _ => ⟨fun _ => kz_worth hN (by omega) hk m29 hI, fun _ => ⟨fun _ => kz_forget hN (by omega) hk m30 hI, fun _ => ⟨fun _ => kz_fade hN (by omega) hk m31 hI, fun _ => ⟨fun _ => kz_mine hN (by omega) hk m32 hI, fun _ => ⟨fun _ => kz_budget hN (by omega) hk m33 hI, fun _ => ⟨fun _ => kz_seed hN (by omega) hk m34 hI, fun _ => ⟨fun _ => kz_share hN (by omega) hk m35 hI, fun _ => ⟨fun _ => kz_symbols hN (by omega) hk m36 hI, fun _ => ⟨fun _ => kz_set hN (by omega) hk m37 hI, fun _ => ⟨fun _ => kz_pair hN (by omega) hk m38 hI, fun _ => ⟨fun _ => kz_same hN (by omega) hk m39 hI, fun _ => ⟨fun _ => kz_cost hN (by omega) hk m40 hI, fun _ => ⟨fun _ => kz_best hN (by omega) hk m41 hI, fun _ => ⟨fun _ => kz_bound hN (by omega) hk m42 hI, fun _ => ⟨fun _ => kz_better hN (by omega) hk m43 hI, fun _ => ⟨fun _ => kz_way hN (by omega) hk m44 hI, fun _ => ⟨fun _ => kz_told hN (by omega) hk m45 hI, fun _ => kz_end (by omega) hk hI⟩⟩⟩⟩⟩⟩⟩⟩⟩⟩⟩⟩⟩⟩⟩⟩⟩⟩⟩⟩⟩⟩⟩⟩⟩⟩⟩⟩⟩⟩⟩⟩⟩⟩⟩⟩⟩⟩⟩⟩⟩⟩⟩⟩⟩⟩
def kzof (σ : kdM) : kzM := (fun a j => (σ.1 a j.toNat).toInt, fun a j => (σ.2 a j.toNat).toInt)
theorem kzof_cv (σ : kdM) : kzcv (kzof σ) = σ := by
  unfold kzcv kzof
  refine Prod.ext ?_ ?_
  · funext a j; exact kz_of _
  · funext a j; exact Int64.ofInt_toInt _
theorem kzof_O (σ : kdM) : kzO (kzof σ) := ⟨fun a j => kzI_of _, fun a j => kzL_of _⟩
set_option maxRecDepth 100000 in
theorem kz_pure (xs : Nat → Int32) (N : Nat) (hN : N ≤ 3072)
  (m0 : ∀ a1 : Int, kzI a1 → MOK (Z11_key kdG0 0 a1) (Z12_key kdG0 612 a1))
  (m1 : ∀ a1 : Int, kzI a1 → MOK (Z11_letter kdG0 0 a1) (Z12_letter kdG0 612 a1))
  (m2 : ∀ a1 : Int, kzI a1 → MOK (Z11_wipe kdG0 0 a1) (Z12_wipe kdG0 612 a1))
  (m3 : ∀ a1 : Int, kzI a1 → MOK (Z11_rule kdG0 0 a1) (Z12_rule kdG0 612 a1))
  (m4 : ∀ a1 a2 a3 a4 : Int, kzI a1 → kzI a2 → kzI a3 → kzI a4 → MOK (Z11_join kdG0 0 a1 a2 a3 a4) (Z12_join kdG0 612 a1 a2 a3 a4))
  (m5 : ∀ a1 a2 b : Int, kzI a1 → kzI a2 → (b = 0 ∨ b = 1) → MOK (Z11_own kdG0 0 a1 a2 b) (Z12_own kdG0 612 a1 a2 b))
  (m6 : ∀ a1 a2 : Int, kzI a1 → kzI a2 → MOK (Z11_quarrel kdG0 0 a1 a2) (Z12_quarrel kdG0 612 a1 a2))
  (m7 : ∀ a1 a2 : Int, kzI a1 → kzI a2 → MOK (Z11_idle kdG0 0 a1 a2) (Z12_idle kdG0 612 a1 a2))
  (m8 : ∀ a1 a2 : Int, kzI a1 → kzI a2 → MOK (Z11_missing kdG0 0 a1 a2) (Z12_missing kdG0 612 a1 a2))
  (m9 : ∀ a1 : Int, kzI a1 → MOK (Z11_speak kdG0 0 a1) (Z12_speak kdG0 612 a1))
  (m10 : ∀ a1 a2 : Int, kzI a1 → kzI a2 → MOK (Z11_strike kdG0 0 a1 a2) (Z12_strike kdG0 612 a1 a2))
  (m11 : ∀ a1 a2 : Int, kzI a1 → kzI a2 → MOK (Z11_change kdG0 0 a1 a2) (Z12_change kdG0 612 a1 a2))
  (m12 : ∀ a1 : Int, kzI a1 → MOK (Z11_back kdG0 0 a1) (Z12_back kdG0 612 a1))
  (m13 : ∀ a1 : Int, kzI a1 → MOK (Z11_stands kdG0 0 a1) (Z12_stands kdG0 612 a1))
  (m14 : ∀ a1 : Int, kzI a1 → MOK (Z11_piece kdG0 0 a1) (Z12_piece kdG0 612 a1))
  (m15 : MOK (Z11_could kdG0 0) (Z12_could kdG0 612))
  (m16 : ∀ a1 a2 a3 : Int, kzI a1 → kzI a2 → kzI a3 → MOK (Z11_word kdG0 0 a1 a2 a3) (Z12_word kdG0 612 a1 a2 a3))
  (m17 : ∀ a1 a2 : Int, kzI a1 → kzI a2 → MOK (Z11_ofWord kdG0 0 a1 a2) (Z12_ofWord kdG0 612 a1 a2))
  (m18 : ∀ a1 a2 : Int, kzI a1 → kzI a2 → MOK (Z11_count kdG0 0 a1 a2) (Z12_count kdG0 612 a1 a2))
  (m19 : ∀ a1 a2 : Int, kzI a1 → kzI a2 → MOK (Z11_price kdG0 0 a1 a2) (Z12_price kdG0 612 a1 a2))
  (m20 : ∀ a1 : Int, kzI a1 → MOK (Z11_slip kdG0 0 a1) (Z12_slip kdG0 612 a1))
  (m21 : ∀ a1 a2 a3 : Int, kzI a1 → kzI a2 → kzI a3 → MOK (Z11_guess kdG0 0 a1 a2 a3) (Z12_guess kdG0 612 a1 a2 a3))
  (m22 : ∀ a1 a2 : Int, kzI a1 → kzI a2 → MOK (Z11_part kdG0 0 a1 a2) (Z12_part kdG0 612 a1 a2))
  (m23 : ∀ a1 a2 : Int, kzI a1 → kzI a2 → MOK (Z11_pieceOf kdG0 0 a1 a2) (Z12_pieceOf kdG0 612 a1 a2))
  (m24 : ∀ a1 a2 a3 : Int, kzI a1 → kzI a2 → kzI a3 → MOK (Z11_both kdG0 0 a1 a2 a3) (Z12_both kdG0 612 a1 a2 a3))
  (m25 : ∀ a1 b : Int, kzI a1 → (b = 0 ∨ b = 1) → MOK (Z11_say kdG0 0 a1 b) (Z12_say kdG0 612 a1 b))
  (m26 : ∀ a1 : Int, kzI a1 → MOK (Z11_chosen kdG0 0 a1) (Z12_chosen kdG0 612 a1))
  (m27 : MOK (Z11_product kdG0 0) (Z12_product kdG0 612))
  (m28 : ∀ a1 a2 a3 : Int, kzI a1 → kzI a2 → kzI a3 → MOK (Z11_learn kdG0 0 a1 a2 a3) (Z12_learn kdG0 612 a1 a2 a3))
  (m29 : ∀ a1 a2 a3 : Int, kzI a1 → kzI a2 → kzI a3 → MOK (Z11_worth kdG0 0 a1 a2 a3) (Z12_worth kdG0 612 a1 a2 a3))
  (m30 : ∀ a1 a2 : Int, kzI a1 → kzI a2 → MOK (Z11_forget kdG0 0 a1 a2) (Z12_forget kdG0 612 a1 a2))
  (m31 : ∀ a1 : Int, kzI a1 → MOK (Z11_fade kdG0 0 a1) (Z12_fade kdG0 612 a1))
  (m32 : ∀ a1 a2 a3 a4 a5 : Int, kzI a1 → kzI a2 → kzI a3 → kzI a4 → kzI a5 → MOK (Z11_mine kdG0 0 a1 a2 a3 a4 a5) (Z12_mine kdG0 612 a1 a2 a3 a4 a5))
  (m33 : ∀ a1 a2 : Int, kzI a1 → kzI a2 → MOK (Z11_budget kdG0 0 a1 a2) (Z12_budget kdG0 612 a1 a2))
  (m34 : ∀ a1 : Int, kzI a1 → MOK (Z11_seed kdG0 0 a1) (Z12_seed kdG0 612 a1))
  (m35 : ∀ a1 a2 a3 : Int, kzI a1 → kzI a2 → kzI a3 → MOK (Z11_share kdG0 0 a1 a2 a3) (Z12_share kdG0 612 a1 a2 a3))
  (m36 : ∀ a1 : Int, kzI a1 → MOK (Z11_symbols kdG0 0 a1) (Z12_symbols kdG0 612 a1))
  (m37 : ∀ a1 a2 a3 : Int, kzI a1 → kzI a2 → kzI a3 → MOK (Z11_set kdG0 0 a1 a2 a3) (Z12_set kdG0 612 a1 a2 a3))
  (m38 : ∀ a1 a2 a3 : Int, kzI a1 → kzI a2 → kzI a3 → MOK (Z11_pair kdG0 0 a1 a2 a3) (Z12_pair kdG0 612 a1 a2 a3))
  (m39 : ∀ a1 : Int, kzI a1 → MOK (Z11_same kdG0 0 a1) (Z12_same kdG0 612 a1))
  (m40 : ∀ a1 : Int, kzI a1 → MOK (Z11_cost kdG0 0 a1) (Z12_cost kdG0 612 a1))
  (m41 : MOK (Z11_best kdG0 0) (Z12_best kdG0 612))
  (m42 : MOK (Z11_bound kdG0 0) (Z12_bound kdG0 612))
  (m43 : ∀ a1 a2 : Int, kzI a1 → kzI a2 → MOK (Z11_better kdG0 0 a1 a2) (Z12_better kdG0 612 a1 a2))
  (m44 : ∀ a1 a2 a3 : Int, kzI a1 → kzI a2 → kzI a3 → MOK (Z11_way kdG0 0 a1 a2 a3) (Z12_way kdG0 612 a1 a2 a3))
  (m45 : ∀ a1 : Int, kzI a1 → MOK (Z11_told kdG0 0 a1) (Z12_told kdG0 612 a1))
  (σ : kdM) (hI : Inv (kzof σ)) : ∃ σ' : kdM, L_law_18 kdG0 xs N 0 612 0 σ = some ((), σ') := by
  have h := kz_law (xs := xs) hN m0 m1 m2 m3 m4 m5 m6 m7 m8 m9 m10 m11 m12 m13 m14 m15 m16 m17 m18 m19 m20 m21 m22 m23 m24 m25 m26 m27 m28 m29 m30 m31 m32 m33 m34 m35 m36 m37 m38 m39 m40 m41 m42 m43 m44 m45 NN 0 (kzof σ) (by omega) (by omega) (by unfold NN; omega) hI
  obtain ⟨r, τ', e, _⟩ := Wz_some h
  have q := qL_law_18 g_ok (xs := xs) hN 0 612 0 (by unfold kzI; omega) (kzof σ) (kzof_O σ) r τ' e
  rw [kzof_cv] at q
  exact ⟨kzcv τ', q.1⟩
