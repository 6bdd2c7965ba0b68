/-! AN OBJECT AT b: what the functions answer over one object at 0, they answer over one at b, and nothing else is changed -/
def okO (G : kdS) (b : Nat) : Prop := ∀ a, a < 612 → G.1 (b + a) = kdG0.1 a ∧ ∀ j t, kdG0.2.1 a j = some t → G.2.1 (b + a) j = some (b + t)
def RlS (b : Nat) (τ0 τ : kzM) : Prop := ∀ a, a < 612 → τ.1 (b + a) = τ0.1 a ∧ τ.2 (b + a) = τ0.2 a
def FrS (b : Nat) (τ τ' : kzM) : Prop := ∀ a, ¬(b ≤ a ∧ a < b + 612) → τ'.1 a = τ.1 a ∧ τ'.2 a = τ.2 a
theorem FrS.rf {b : Nat} {τ : kzM} : FrS b τ τ := fun _ _ => ⟨rfl, rfl⟩
theorem FrS.tr {b : Nat} {τ τ' τ'' : kzM} (h : FrS b τ τ') (k : FrS b τ' τ'') : FrS b τ τ'' := fun a ha => ⟨(k a ha).1.trans (h a ha).1, (k a ha).2.trans (h a ha).2⟩
def SH (b : Nat) {α : Type} (c : α → α) (f0 f : kzM → Option (α × kzM)) : Prop := ∀ τ0 τ, RlS b τ0 τ → ∀ r τ0', f0 τ0 = some (r, τ0') → ∃ τ', f τ = some (c r, τ') ∧ RlS b τ0' τ' ∧ FrS b τ τ'
theorem kd0_lt {a : Nat} (h : (kdG0.1 a).1 < 20) : a < 612 := by
  refine Nat.lt_of_not_le fun hge => ?_
  have e : kdG0.1 a = (20, 0) := by
    show kdG0k.getD a (20, 0) = _
    rw [List.getD_eq_getElem?_getD, List.getElem?_eq_none (by show kdG0k.length ≤ a; exact Nat.le_trans (Nat.le_of_ble_eq_true (by decide +kernel)) hge)]
    rfl
  rw [e] at h
  exact absurd h (by decide)
section SHR
variable {G : kdS} {b : Nat} {α : Type} {c : α → α}
theorem okO.kind (hO : okO G b) {a k : Nat} (hk : k < 20) (h : (kdG0.1 a).1 = k) : a < 612 ∧ G.1 (b + a) = kdG0.1 a :=
  have ha := kd0_lt (a := a) (by omega)
  ⟨ha, (hO a ha).1⟩
theorem s_rt {x y : α} (h : c x = y) : SH b c (zrt x) (zrt y) := fun τ0 τ hr r τ0' h0 => by
  cases h0
  exact ⟨τ, by rw [h]; rfl, hr, FrS.rf⟩
theorem s_no {f : kzM → Option (α × kzM)} : SH b c zno f := fun τ0 τ hr r τ0' h0 => by unfold zno at h0; exact absurd h0 (by simp)
theorem s_bot {f : kzM → Option (α × kzM)} : SH b c (fun _ => none) f := fun τ0 τ hr r τ0' h0 => absurd h0 (by simp)
theorem s_cnd {p : Prop} [Decidable p] {f1 f2 g1 g2 : kzM → Option (α × kzM)} (k1 : SH b c f1 g1) (k2 : SH b c f2 g2) : SH b c (zcnd p f1 f2) (zcnd p g1 g2) := fun τ0 τ hr r τ0' h0 => by
  unfold zcnd at h0 ⊢
  by_cases e : p
  · rw [if_pos e] at h0 ⊢; exact k1 τ0 τ hr r τ0' h0
  · rw [if_neg e] at h0 ⊢; exact k2 τ0 τ hr r τ0' h0
theorem s_lI {e : Int} {f g : Int → kzM → Option (α × kzM)} (k : ∀ t, SH b c (f t) (g t)) : SH b c (zlI e f) (zlI e g) := fun τ0 τ hr r τ0' h0 => by
  unfold zlI at h0 ⊢
  by_cases q : -2147483648 ≤ e ∧ e ≤ 2147483647
  · rw [if_pos q] at h0 ⊢; exact k e τ0 τ hr r τ0' h0
  · rw [if_neg q] at h0; exact absurd h0 (by simp)
theorem s_lL {e : Int} {f g : Int → kzM → Option (α × kzM)} (k : ∀ t, SH b c (f t) (g t)) : SH b c (zlL e f) (zlL e g) := fun τ0 τ hr r τ0' h0 => by
  unfold zlL at h0 ⊢
  by_cases q : -9223372036854775808 ≤ e ∧ e ≤ 9223372036854775807
  · rw [if_pos q] at h0 ⊢; exact k e τ0 τ hr r τ0' h0
  · rw [if_neg q] at h0; exact absurd h0 (by simp)
theorem s_lW {e : Int} {f g : Int → kzM → Option (α × kzM)} (k : ∀ t, SH b c (f t) (g t)) : SH b c (zlW e f) (zlW e g) := k _
theorem s_cl {γ : Type} {c1 : γ → γ} {f0 f : kzM → Option (γ × kzM)} {k0 k : γ → kzM → Option (α × kzM)} (h : SH b c1 f0 f) (kk : ∀ t, SH b c (k0 t) (k (c1 t))) : SH b c (zcl f0 k0) (zcl f k) := fun τ0 τ hr r τ0' h0 => by
  unfold zcl at h0 ⊢
  revert h0
  match hg : f0 τ0 with
  | none => intro h0; exact absurd h0 (by simp)
  | some (x, τ1) =>
    intro h0
    obtain ⟨τ', h1, h2, h3⟩ := h τ0 τ hr x τ1 hg
    rw [h1]
    obtain ⟨τ'', h4, h5, h6⟩ := kk x τ1 τ' h2 r τ0' h0
    exact ⟨τ'', h4, h5, h3.tr h6⟩
theorem s_cv (hO : okO G b) {ci a : Nat} (hc : ci < 20) {γ : Type} {c1 : γ → γ} {f0 f : kzM → Option (γ × kzM)} {k0 k : γ → kzM → Option (α × kzM)} (h : SH b c1 f0 f) (kk : ∀ t, SH b c (k0 t) (k (c1 t))) : SH b c (zcv kdG0 ci a f0 k0) (zcv G ci (b + a) f k) := fun τ0 τ hr r τ0' h0 => by
  unfold zcv at h0 ⊢
  by_cases e : (kdG0.1 a).1 = ci
  · rw [if_pos e] at h0; rw [if_pos (by rw [(hO.kind hc e).2]; exact e)]; exact s_cl h kk τ0 τ hr r τ0' h0
  · rw [if_neg e] at h0; exact absurd h0 (by simp)
theorem s_nz {y : Int} {f g : kzM → Option (α × kzM)} (k : SH b c f g) : SH b c (znz y f) (znz y g) := fun τ0 τ hr r τ0' h0 => by
  unfold znz at h0 ⊢
  by_cases q : y = 0
  · rw [if_pos q] at h0; exact absurd h0 (by simp)
  · rw [if_neg q] at h0 ⊢; exact k τ0 τ hr r τ0' h0
theorem s_gI (hO : okO G b) {ci a : Nat} {k : Int} (hc : ci < 20) {f g : Int → kzM → Option (α × kzM)} (kk : ∀ t, SH b c (f t) (g t)) : SH b c (zgI kdG0 ci k a f) (zgI G ci k (b + a) g) := fun τ0 τ hr r τ0' h0 => by
  unfold zgI at h0 ⊢
  by_cases e : (kdG0.1 a).1 = ci
  · have q := hO.kind hc e
    rw [if_pos e] at h0; rw [if_pos (by rw [q.2]; exact e), (hr a q.1).1]; exact kk _ τ0 τ hr r τ0' h0
  · rw [if_neg e] at h0; exact absurd h0 (by simp)
theorem s_gR (hO : okO G b) {ci k a : Nat} (hc : ci < 20) {f g : Nat → kzM → Option (α × kzM)} (kk : ∀ t, SH b c (f t) (g (b + t))) : SH b c (zgR kdG0 ci k a f) (zgR G ci k (b + a) g) := fun τ0 τ hr r τ0' h0 => by
  unfold zgR at h0 ⊢
  by_cases e : (kdG0.1 a).1 = ci
  · have q := hO.kind hc e
    rw [if_pos e] at h0; rw [if_pos (by rw [q.2]; exact e)]
    revert h0
    match hg : kdG0.2.1 a k with
    | none => intro h0; exact absurd h0 (by simp)
    | some t => intro h0; rw [(hO a q.1).2 k t hg]; exact kk t τ0 τ hr r τ0' h0
  · rw [if_neg e] at h0; exact absurd h0 (by simp)
theorem RlS.p2 {τ0 τ : kzM} (hr : RlS b τ0 τ) (a : Nat) (k v : Int) : RlS b (v2 τ0.1 a k v, τ0.2) (v2 τ.1 (b + a) k v, τ.2) := fun x hx => by
  refine ⟨funext fun j => ?_, (hr x hx).2⟩
  show (if b + x = b + a ∧ j = k then v else τ.1 (b + x) j) = if x = a ∧ j = k then v else τ0.1 x j
  rw [(hr x hx).1]
  by_cases q : x = a ∧ j = k
  · rw [if_pos q, if_pos ⟨by omega, q.2⟩]
  · rw [if_neg q, if_neg (fun z => q ⟨by omega, z.2⟩)]
theorem RlS.q2 {τ0 τ : kzM} (hr : RlS b τ0 τ) (a : Nat) (k v : Int) : RlS b (τ0.1, v2 τ0.2 a k v) (τ.1, v2 τ.2 (b + a) k v) := fun x hx => by
  refine ⟨(hr x hx).1, funext fun j => ?_⟩
  show (if b + x = b + a ∧ j = k then v else τ.2 (b + x) j) = if x = a ∧ j = k then v else τ0.2 x j
  rw [(hr x hx).2]
  by_cases q : x = a ∧ j = k
  · rw [if_pos q, if_pos ⟨by omega, q.2⟩]
  · rw [if_neg q, if_neg (fun z => q ⟨by omega, z.2⟩)]
theorem FrS.p2 {τ : kzM} {a : Nat} {k v : Int} (ha : a < 612) : FrS b τ (v2 τ.1 (b + a) k v, τ.2) := fun x hx => ⟨funext fun j => by
  show (if x = b + a ∧ j = k then v else τ.1 x j) = τ.1 x j
  rw [if_neg (fun q => hx (by omega))], rfl⟩
theorem FrS.q2 {τ : kzM} {a : Nat} {k v : Int} (ha : a < 612) : FrS b τ (τ.1, v2 τ.2 (b + a) k v) := fun x hx => ⟨rfl, funext fun j => by
  show (if x = b + a ∧ j = k then v else τ.2 x j) = τ.2 x j
  rw [if_neg (fun q => hx (by omega))]⟩
theorem s_fr {τ τ1 : kzM} {f : kzM → Option (α × kzM)} {r : α} {τ0' : kzM} (hf : FrS b τ τ1) (h : ∃ τ', f τ1 = some (r, τ') ∧ RlS b τ0' τ' ∧ FrS b τ1 τ') : ∃ τ', f τ1 = some (r, τ') ∧ RlS b τ0' τ' ∧ FrS b τ τ' := by
  obtain ⟨τ', h1, h2, h3⟩ := h
  exact ⟨τ', h1, h2, hf.tr h3⟩
theorem s_sI (hO : okO G b) {ci a : Nat} {k v : Int} (hc : ci < 20) {f g : kzM → Option (α × kzM)} (kk : SH b c f g) : SH b c (zsI kdG0 ci k a v f) (zsI G ci k (b + a) v g) := fun τ0 τ hr r τ0' h0 => by
  unfold zsI at h0 ⊢
  by_cases e : (kdG0.1 a).1 = ci
  · have q := hO.kind hc e
    rw [if_pos e] at h0; rw [if_pos (by rw [q.2]; exact e)]; exact s_fr (FrS.p2 q.1) (kk _ _ (hr.p2 a k v) r τ0' h0)
  · rw [if_neg e] at h0; exact absurd h0 (by simp)
theorem s_aI (hO : okO G b) {a : Nat} {i : Int} {f g : Int → kzM → Option (α × kzM)} (kk : ∀ t, SH b c (f t) (g t)) : SH b c (zaI kdG0 a i f) (zaI G (b + a) i g) := fun τ0 τ hr r τ0' h0 => by
  unfold zaI at h0 ⊢
  by_cases e : (kdG0.1 a).1 = 13 ∧ 0 ≤ i ∧ i < ((kdG0.1 a).2 : Int)
  · have q := hO.kind (k := 13) (by decide) e.1
    rw [if_pos e] at h0; rw [if_pos (by rw [q.2]; exact e), (hr a q.1).1]; exact kk _ τ0 τ hr r τ0' h0
  · rw [if_neg e] at h0; exact absurd h0 (by simp)
theorem s_aZ (hO : okO G b) {a : Nat} {i : Int} {f g : Int → kzM → Option (α × kzM)} (kk : ∀ t, SH b c (f t) (g t)) : SH b c (zaZ kdG0 a i f) (zaZ G (b + a) i g) := fun τ0 τ hr r τ0' h0 => by
  unfold zaZ at h0 ⊢
  by_cases e : (kdG0.1 a).1 = 15 ∧ 0 ≤ i ∧ i < ((kdG0.1 a).2 : Int)
  · have q := hO.kind (k := 15) (by decide) e.1
    rw [if_pos e] at h0; rw [if_pos (by rw [q.2]; exact e), (hr a q.1).1]; exact kk _ τ0 τ hr r τ0' h0
  · rw [if_neg e] at h0; exact absurd h0 (by simp)
theorem s_aL (hO : okO G b) {a : Nat} {i : Int} {f g : Int → kzM → Option (α × kzM)} (kk : ∀ t, SH b c (f t) (g t)) : SH b c (zaL kdG0 a i f) (zaL G (b + a) i g) := fun τ0 τ hr r τ0' h0 => by
  unfold zaL at h0 ⊢
  by_cases e : (kdG0.1 a).1 = 14 ∧ 0 ≤ i ∧ i < ((kdG0.1 a).2 : Int)
  · have q := hO.kind (k := 14) (by decide) e.1
    rw [if_pos e] at h0; rw [if_pos (by rw [q.2]; exact e), (hr a q.1).2]; exact kk _ τ0 τ hr r τ0' h0
  · rw [if_neg e] at h0; exact absurd h0 (by simp)
theorem s_tI (hO : okO G b) {a : Nat} {i v : Int} {f g : kzM → Option (α × kzM)} (kk : SH b c f g) : SH b c (ztI kdG0 a i v f) (ztI G (b + a) i v g) := fun τ0 τ hr r τ0' h0 => by
  unfold ztI at h0 ⊢
  by_cases e : (kdG0.1 a).1 = 13 ∧ 0 ≤ i ∧ i < ((kdG0.1 a).2 : Int)
  · have q := hO.kind (k := 13) (by decide) e.1
    rw [if_pos e] at h0; rw [if_pos (by rw [q.2]; exact e)]; exact s_fr (FrS.p2 q.1) (kk _ _ (hr.p2 a i v) r τ0' h0)
  · rw [if_neg e] at h0; exact absurd h0 (by simp)
theorem s_tZ (hO : okO G b) {a : Nat} {i v : Int} {f g : kzM → Option (α × kzM)} (kk : SH b c f g) : SH b c (ztZ kdG0 a i v f) (ztZ G (b + a) i v g) := fun τ0 τ hr r τ0' h0 => by
  unfold ztZ at h0 ⊢
  by_cases e : (kdG0.1 a).1 = 15 ∧ 0 ≤ i ∧ i < ((kdG0.1 a).2 : Int)
  · have q := hO.kind (k := 15) (by decide) e.1
    rw [if_pos e] at h0; rw [if_pos (by rw [q.2]; exact e)]; exact s_fr (FrS.p2 q.1) (kk _ _ (hr.p2 a i (zB v)) r τ0' h0)
  · rw [if_neg e] at h0; exact absurd h0 (by simp)
theorem s_tL (hO : okO G b) {a : Nat} {i v : Int} {f g : kzM → Option (α × kzM)} (kk : SH b c f g) : SH b c (ztL kdG0 a i v f) (ztL G (b + a) i v g) := fun τ0 τ hr r τ0' h0 => by
  unfold ztL at h0 ⊢
  by_cases e : (kdG0.1 a).1 = 14 ∧ 0 ≤ i ∧ i < ((kdG0.1 a).2 : Int)
  · have q := hO.kind (k := 14) (by decide) e.1
    rw [if_pos e] at h0; rw [if_pos (by rw [q.2]; exact e)]; exact s_fr (FrS.q2 q.1) (kk _ _ (hr.q2 a i v) r τ0' h0)
  · rw [if_neg e] at h0; exact absurd h0 (by simp)
theorem s_aN (hO : okO G b) {a : Nat} {f g : Int → kzM → Option (α × kzM)} (kk : ∀ t, SH b c (f t) (g t)) : SH b c (zaN kdG0 a f) (zaN G (b + a) g) := fun τ0 τ hr r τ0' h0 => by
  unfold zaN at h0 ⊢
  by_cases e : (kdG0.1 a).1 = 13
  · have q := hO.kind (k := 13) (by decide) e
    rw [if_pos e] at h0; rw [if_pos (by rw [q.2]; exact e), q.2]; exact kk _ τ0 τ hr r τ0' h0
  · rw [if_neg e] at h0; exact absurd h0 (by simp)
theorem s_aR (hO : okO G b) {t a : Nat} {i : Int} (hc : t < 20) {f g : Nat → kzM → Option (α × kzM)} (kk : ∀ t, SH b c (f t) (g (b + t))) : SH b c (zaR kdG0 t a i f) (zaR G t (b + a) i g) := fun τ0 τ hr r τ0' h0 => by
  unfold zaR at h0 ⊢
  by_cases e : (kdG0.1 a).1 = t ∧ 0 ≤ i ∧ i < ((kdG0.1 a).2 : Int)
  · have q := hO.kind hc e.1
    rw [if_pos e] at h0; rw [if_pos (by rw [q.2]; exact e)]
    revert h0
    match hg : kdG0.2.1 a i.toNat with
    | none => intro h0; exact absurd h0 (by simp)
    | some x => intro h0; rw [(hO a q.1).2 _ x hg]; exact kk x τ0 τ hr r τ0' h0
  · rw [if_neg e] at h0; exact absurd h0 (by simp)
end SHR

theorem sZ6_size {G : kdS} {b : Nat} (hO : okO G b) (l0 : Nat) : SH b id (Z6_size kdG0 l0) (Z6_size G (b + l0)) := by
  unfold Z6_size
  exact s_gI hO (by decide) fun _ => s_rt rfl
theorem sZ6_isEmpty_12 {G : kdS} {b : Nat} (hO : okO G b) (s0 : Int) : SH b id (Z6_isEmpty_12 kdG0 s0) (Z6_isEmpty_12 G s0) := by
  unfold Z6_isEmpty_12
  exact s_rt rfl
theorem sZ6_isEmpty {G : kdS} {b : Nat} (hO : okO G b) (l0 : Nat) : SH b id (Z6_isEmpty kdG0 l0) (Z6_isEmpty G (b + l0)) := by
  unfold Z6_isEmpty
  exact s_gI hO (by decide) fun _ => s_cnd ((sZ6_isEmpty_12 hO _)) ((sZ6_isEmpty_12 hO _))
theorem sZ6_isFull_17 {G : kdS} {b : Nat} (hO : okO G b) (s0 : Int) : SH b id (Z6_isFull_17 kdG0 s0) (Z6_isFull_17 G s0) := by
  unfold Z6_isFull_17
  exact s_rt rfl
theorem sZ6_isFull {G : kdS} {b : Nat} (hO : okO G b) (l0 : Nat) : SH b id (Z6_isFull kdG0 l0) (Z6_isFull G (b + l0)) := by
  unfold Z6_isFull
  exact s_gI hO (by decide) fun _ => s_gR hO (by decide) fun _ => s_aN hO fun _ => s_cnd ((sZ6_isFull_17 hO _)) ((sZ6_isFull_17 hO _))
theorem sZ6_has_17 {G : kdS} {b : Nat} (hO : okO G b) (s0 : Int) : SH b id (Z6_has_17 kdG0 s0) (Z6_has_17 G s0) := by
  unfold Z6_has_17
  exact s_rt rfl
theorem sZ6_has_16 {G : kdS} {b : Nat} (hO : okO G b) : SH b id (Z6_has_16 kdG0) (Z6_has_16 G) := by
  unfold Z6_has_16
  exact (sZ6_has_17 hO _)
theorem sZ6_has {G : kdS} {b : Nat} (hO : okO G b) (l0 : Nat) (l1 : Int) : SH b id (Z6_has kdG0 l0 l1) (Z6_has G (b + l0) l1) := by
  unfold Z6_has
  exact s_cnd ((sZ6_has_16 hO)) (s_gI hO (by decide) fun _ => s_cnd ((sZ6_has_16 hO)) ((sZ6_has_17 hO _)))
theorem sZ6_at_22 {G : kdS} {b : Nat} (hO : okO G b) (s0 : Int) : SH b id (Z6_at_22 kdG0 s0) (Z6_at_22 G s0) := by
  unfold Z6_at_22
  exact s_rt rfl
theorem sZ6_at_21 {G : kdS} {b : Nat} (hO : okO G b) : SH b id (Z6_at_21 kdG0) (Z6_at_21 G) := by
  unfold Z6_at_21
  exact (sZ6_at_22 hO _)
theorem sZ6_at {G : kdS} {b : Nat} (hO : okO G b) (l0 : Nat) (l1 : Int) : SH b id (Z6_at kdG0 l0 l1) (Z6_at G (b + l0) l1) := by
  unfold Z6_at
  exact s_cnd ((sZ6_at_21 hO)) (s_gI hO (by decide) fun _ => s_cnd ((sZ6_at_21 hO)) (s_gR hO (by decide) fun _ => s_aI hO fun _ => (sZ6_at_22 hO _)))
theorem sZ6_insert_19 {G : kdS} {b : Nat} (hO : okO G b) : SH b id (Z6_insert_19 kdG0) (Z6_insert_19 G) := by
  unfold Z6_insert_19
  exact s_rt rfl
theorem sZ6_insert_25B {G : kdS} {b : Nat} (hO : okO G b) {k250 k25 : Nat → Int → Int → Int → kzM → Option (Unit × kzM)} (hk25 : ∀ (a0 : Nat) (a1 : Int) (a2 : Int) (a3 : Int), SH b id (k250 a0 a1 a2 a3) (k25 (b + a0) a1 a2 a3)) (l0 : Nat) (l1 : Int) (l2 : Int) (l3 : Int) : SH b id (Z6_insert_25B kdG0 k250 l0 l1 l2 l3) (Z6_insert_25B G k25 (b + l0) l1 l2 l3) := by
  unfold Z6_insert_25B
  exact s_cnd (s_gR hO (by decide) fun _ => s_tI hO (s_gI hO (by decide) fun _ => s_lI fun _ => s_sI hO (by decide) (s_rt rfl))) (s_gR hO (by decide) fun _ => s_gR hO (by decide) fun _ => s_aI hO fun _ => s_tI hO (s_lI fun _ => (hk25 _ _ _ _)))
theorem sZ6_insert_25 {G : kdS} {b : Nat} (hO : okO G b) : ∀ (a0 : Nat) (a1 : Int) (a2 : Int) (a3 : Int), SH b id (Z6_insert_25 kdG0 a0 a1 a2 a3) (Z6_insert_25 G (b + a0) a1 a2 a3) :=
  lp_rel (R := fun (f0 : Nat → Int → Int → Int → kzM → Option (Unit × kzM)) (f : Nat → Int → Int → Int → kzM → Option (Unit × kzM)) => ∀ (a0 : Nat) (a1 : Int) (a2 : Int) (a3 : Int), SH b id (f0 a0 a1 a2 a3) (f (b + a0) a1 a2 a3)) (by intros; exact s_bot) (fun _ _ hf a0 a1 a2 a3 => sZ6_insert_25B hO hf a0 a1 a2 a3) NN
theorem sZ6_insert {G : kdS} {b : Nat} (hO : okO G b) (l0 : Nat) (l1 : Int) (l2 : Int) : SH b id (Z6_insert kdG0 l0 l1 l2) (Z6_insert G (b + l0) l1 l2) := by
  unfold Z6_insert
  exact s_cv hO (by decide) (sZ6_isFull hO _) fun _ => s_cnd (s_cnd ((sZ6_insert_19 hO)) (s_gI hO (by decide) fun _ => s_cnd (s_gI hO (by decide) fun _ => (sZ6_insert_25 hO _ _ _ _)) ((sZ6_insert_19 hO)))) ((sZ6_insert_19 hO))
theorem sZ6_add {G : kdS} {b : Nat} (hO : okO G b) (l0 : Nat) (l1 : Int) : SH b id (Z6_add kdG0 l0 l1) (Z6_add G (b + l0) l1) := by
  unfold Z6_add
  exact s_gI hO (by decide) fun _ => s_cv hO (by decide) (sZ6_insert hO _ _ _) fun _ => s_rt rfl
theorem sZ6_remove_54 {G : kdS} {b : Nat} (hO : okO G b) (l2 : Int) : SH b id (Z6_remove_54 kdG0 l2) (Z6_remove_54 G l2) := by
  unfold Z6_remove_54
  exact s_rt rfl
theorem sZ6_remove_26B {G : kdS} {b : Nat} (hO : okO G b) {k260 k26 : Nat → Int → Int → kzM → Option (Int × kzM)} (hk26 : ∀ (a0 : Nat) (a1 : Int) (a2 : Int), SH b id (k260 a0 a1 a2) (k26 (b + a0) a1 a2)) (l0 : Nat) (l2 : Int) (l3 : Int) : SH b id (Z6_remove_26B kdG0 k260 l0 l2 l3) (Z6_remove_26B G k26 (b + l0) l2 l3) := by
  unfold Z6_remove_26B
  exact s_gI hO (by decide) fun _ => s_cnd ((sZ6_remove_54 hO _)) (s_gR hO (by decide) fun _ => s_gR hO (by decide) fun _ => s_aI hO fun _ => s_tI hO (s_lI fun _ => (hk26 _ _ _)))
theorem sZ6_remove_26 {G : kdS} {b : Nat} (hO : okO G b) : ∀ (a0 : Nat) (a1 : Int) (a2 : Int), SH b id (Z6_remove_26 kdG0 a0 a1 a2) (Z6_remove_26 G (b + a0) a1 a2) :=
  lp_rel (R := fun (f0 : Nat → Int → Int → kzM → Option (Int × kzM)) (f : Nat → Int → Int → kzM → Option (Int × kzM)) => ∀ (a0 : Nat) (a1 : Int) (a2 : Int), SH b id (f0 a0 a1 a2) (f (b + a0) a1 a2)) (by intros; exact s_bot) (fun _ _ hf a0 a1 a2 => sZ6_remove_26B hO hf a0 a1 a2) NN
theorem sZ6_remove {G : kdS} {b : Nat} (hO : okO G b) (l0 : Nat) (l1 : Int) : SH b id (Z6_remove kdG0 l0 l1) (Z6_remove G (b + l0) l1) := by
  unfold Z6_remove
  exact s_cv hO (by decide) (sZ6_at hO _ _) fun _ => s_cv hO (by decide) (sZ6_has hO _ _) fun _ => s_cnd ((sZ6_remove_54 hO _)) (s_gI hO (by decide) fun _ => s_lI fun _ => s_sI hO (by decide) ((sZ6_remove_26 hO _ _ _)))
theorem sZ6_clear {G : kdS} {b : Nat} (hO : okO G b) (l0 : Nat) : SH b id (Z6_clear kdG0 l0) (Z6_clear G (b + l0)) := by
  unfold Z6_clear
  exact s_gI hO (by decide) fun _ => s_sI hO (by decide) (s_rt rfl)
theorem sZ6_copy_7B {G : kdS} {b : Nat} (hO : okO G b) {k70 k7 : Nat → Nat → Int → kzM → Option (Unit × kzM)} (hk7 : ∀ (a0 : Nat) (a1 : Nat) (a2 : Int), SH b id (k70 a0 a1 a2) (k7 (b + a0) (b + a1) a2)) (l0 : Nat) (l1 : Nat) (l2 : Int) : SH b id (Z6_copy_7B kdG0 k70 l0 l1 l2) (Z6_copy_7B G k7 (b + l0) (b + l1) l2) := by
  unfold Z6_copy_7B
  exact s_gI hO (by decide) fun _ => s_cnd (s_rt rfl) (s_gR hO (by decide) fun _ => s_aI hO fun _ => s_cv hO (by decide) (sZ6_add hO _ _) fun _ => s_lI fun _ => (hk7 _ _ _))
theorem sZ6_copy_7 {G : kdS} {b : Nat} (hO : okO G b) : ∀ (a0 : Nat) (a1 : Nat) (a2 : Int), SH b id (Z6_copy_7 kdG0 a0 a1 a2) (Z6_copy_7 G (b + a0) (b + a1) a2) :=
  lp_rel (R := fun (f0 : Nat → Nat → Int → kzM → Option (Unit × kzM)) (f : Nat → Nat → Int → kzM → Option (Unit × kzM)) => ∀ (a0 : Nat) (a1 : Nat) (a2 : Int), SH b id (f0 a0 a1 a2) (f (b + a0) (b + a1) a2)) (by intros; exact s_bot) (fun _ _ hf a0 a1 a2 => sZ6_copy_7B hO hf a0 a1 a2) NN
theorem sZ6_copy {G : kdS} {b : Nat} (hO : okO G b) (l0 : Nat) (l1 : Nat) : SH b id (Z6_copy kdG0 l0 l1) (Z6_copy G (b + l0) (b + l1)) := by
  unfold Z6_copy
  exact s_cv hO (by decide) (sZ6_clear hO _) fun _ => (sZ6_copy_7 hO _ _ _)
theorem sZ8_rules {G : kdS} {b : Nat} (hO : okO G b) (l0 : Nat) : SH b id (Z8_rules kdG0 l0) (Z8_rules G (b + l0)) := by
  unfold Z8_rules
  exact s_gI hO (by decide) fun _ => s_rt rfl
theorem sZ8_joins {G : kdS} {b : Nat} (hO : okO G b) (l0 : Nat) : SH b id (Z8_joins kdG0 l0) (Z8_joins G (b + l0)) := by
  unfold Z8_joins
  exact s_gR hO (by decide) fun _ => s_cv hO (by decide) (sZ6_size hO _) fun _ => s_rt rfl
theorem sZ4_strokes {G : kdS} {b : Nat} (hO : okO G b) (l0 : Nat) : SH b (b + ·) (Z4_strokes kdG0 l0) (Z4_strokes G (b + l0)) := by
  unfold Z4_strokes
  exact s_gR hO (by decide) fun _ => s_rt rfl
theorem sZ4_tongue {G : kdS} {b : Nat} (hO : okO G b) (l0 : Nat) : SH b id (Z4_tongue kdG0 l0) (Z4_tongue G (b + l0)) := by
  unfold Z4_tongue
  exact s_gI hO (by decide) fun _ => s_rt rfl
theorem sZ10_size {G : kdS} {b : Nat} (hO : okO G b) (l0 : Nat) : SH b id (Z10_size kdG0 l0) (Z10_size G (b + l0)) := by
  unfold Z10_size
  exact s_gR hO (by decide) fun _ => s_cv hO (by decide) (sZ6_size hO _) fun _ => s_rt rfl
theorem sZ10_isFull {G : kdS} {b : Nat} (hO : okO G b) (l0 : Nat) : SH b id (Z10_isFull kdG0 l0) (Z10_isFull G (b + l0)) := by
  unfold Z10_isFull
  exact s_gR hO (by decide) fun _ => s_cv hO (by decide) (sZ6_isFull hO _) fun _ => s_rt rfl
theorem sZ10_has {G : kdS} {b : Nat} (hO : okO G b) (l0 : Nat) (l1 : Int) : SH b id (Z10_has kdG0 l0 l1) (Z10_has G (b + l0) l1) := by
  unfold Z10_has
  exact s_gR hO (by decide) fun _ => s_cv hO (by decide) (sZ6_has hO _ _) fun _ => s_rt rfl
theorem sZ10_tongueOf {G : kdS} {b : Nat} (hO : okO G b) (l0 : Nat) (l1 : Int) : SH b id (Z10_tongueOf kdG0 l0 l1) (Z10_tongueOf G (b + l0) l1) := by
  unfold Z10_tongueOf
  exact s_gR hO (by decide) fun _ => s_cv hO (by decide) (sZ6_at hO _ _) fun _ => s_rt rfl
theorem sZ10_signOf {G : kdS} {b : Nat} (hO : okO G b) (l0 : Nat) (l1 : Int) : SH b id (Z10_signOf kdG0 l0 l1) (Z10_signOf G (b + l0) l1) := by
  unfold Z10_signOf
  exact s_gR hO (by decide) fun _ => s_cv hO (by decide) (sZ6_at hO _ _) fun _ => s_rt rfl
theorem sZ10_countOf {G : kdS} {b : Nat} (hO : okO G b) (l0 : Nat) (l1 : Int) : SH b id (Z10_countOf kdG0 l0 l1) (Z10_countOf G (b + l0) l1) := by
  unfold Z10_countOf
  exact s_gR hO (by decide) fun _ => s_cv hO (by decide) (sZ6_at hO _ _) fun _ => s_rt rfl
theorem sZ10_keysOf {G : kdS} {b : Nat} (hO : okO G b) (l0 : Nat) (l1 : Int) : SH b (b + ·) (Z10_keysOf kdG0 l0 l1) (Z10_keysOf G (b + l0) l1) := by
  unfold Z10_keysOf
  exact s_gR hO (by decide) fun _ => s_aR hO (by decide) fun _ => s_rt rfl
theorem sZ10_addWord {G : kdS} {b : Nat} (hO : okO G b) (l0 : Nat) (l1 : Int) (l2 : Int) (l3 : Int) (l4 : Nat) : SH b id (Z10_addWord kdG0 l0 l1 l2 l3 l4) (Z10_addWord G (b + l0) l1 l2 l3 (b + l4)) := by
  unfold Z10_addWord
  exact s_cv hO (by decide) (sZ10_isFull hO _) fun _ => s_cnd (s_gR hO (by decide) fun _ => s_cv hO (by decide) (sZ10_size hO _) fun _ => s_aR hO (by decide) fun _ => s_cv hO (by decide) (sZ6_copy hO _ _) fun _ => s_gR hO (by decide) fun _ => s_cv hO (by decide) (sZ6_add hO _ _) fun _ => s_gR hO (by decide) fun _ => s_cv hO (by decide) (sZ6_add hO _ _) fun _ => s_gR hO (by decide) fun _ => s_cv hO (by decide) (sZ6_add hO _ _) fun _ => s_cv hO (by decide) (sZ10_size hO _) fun _ => s_lI fun _ => s_rt rfl) (s_rt rfl)
theorem sZ7_leastFor {G : kdS} {b : Nat} (hO : okO G b) (l0 : Nat) (l1 : Int) (l2 : Nat) : SH b id (Z7_leastFor kdG0 l0 l1 l2) (Z7_leastFor G (b + l0) l1 (b + l2)) := by
  unfold Z7_leastFor
  exact s_gR hO (by decide) fun _ => s_aR hO (by decide) fun _ => s_cv hO (by decide) (sZ6_size hO _) fun _ => s_aI hO fun _ => s_rt rfl
theorem sZ7_priceOfOne_50 {G : kdS} {b : Nat} (hO : okO G b) (s0 : Nat) (s1 : Int) : SH b id (Z7_priceOfOne_50 kdG0 s0 s1) (Z7_priceOfOne_50 G (b + s0) s1) := by
  unfold Z7_priceOfOne_50
  exact s_aI hO fun _ => s_rt rfl
theorem sZ7_priceOfOne_49 {G : kdS} {b : Nat} (hO : okO G b) (s0 : Nat) : SH b id (Z7_priceOfOne_49 kdG0 s0) (Z7_priceOfOne_49 G (b + s0)) := by
  unfold Z7_priceOfOne_49
  exact (sZ7_priceOfOne_50 hO _ _)
theorem sZ7_priceOfOne {G : kdS} {b : Nat} (hO : okO G b) (l0 : Nat) (l1 : Int) (l2 : Int) : SH b id (Z7_priceOfOne kdG0 l0 l1 l2) (Z7_priceOfOne G (b + l0) l1 l2) := by
  unfold Z7_priceOfOne
  exact s_cnd (s_rt rfl) (s_nz (s_nz (s_lI fun _ => s_lI fun _ => s_nz (s_nz (s_lI fun _ => s_lI fun _ => s_gR hO (by decide) fun _ => s_cnd ((sZ7_priceOfOne_49 hO _)) (s_cnd ((sZ7_priceOfOne_49 hO _)) ((sZ7_priceOfOne_50 hO _ _))))))))
theorem sZ7_leastSum_215 {G : kdS} {b : Nat} (hO : okO G b) (l8 : Int) : SH b id (Z7_leastSum_215 kdG0 l8) (Z7_leastSum_215 G l8) := by
  unfold Z7_leastSum_215
  exact s_rt rfl
theorem sZ7_leastSum_142 {G : kdS} {b : Nat} (hO : okO G b) (l0 : Nat) (l3 : Int) (l4 : Nat) (l5 : Int) (l6 : Int) (l7 : Int) (l8 : Int) : SH b id (Z7_leastSum_142 kdG0 l0 l3 l4 l5 l6 l7 l8) (Z7_leastSum_142 G (b + l0) l3 (b + l4) l5 l6 l7 l8) := by
  unfold Z7_leastSum_142
  exact s_cnd ((sZ7_leastSum_215 hO _)) (s_cnd ((sZ7_leastSum_215 hO _)) (s_cnd ((sZ7_leastSum_215 hO _)) (s_lI fun _ => s_cv hO (by decide) (sZ6_at hO _ _) fun _ => s_cnd (s_lI fun _ => s_cv hO (by decide) (sZ6_at hO _ _) fun _ => s_cnd (s_gR hO (by decide) fun _ => s_aR hO (by decide) fun _ => s_aI hO fun _ => s_gR hO (by decide) fun _ => s_aI hO fun _ => s_lI fun _ => s_lI fun _ => (sZ7_leastSum_215 hO _)) ((sZ7_leastSum_215 hO _))) ((sZ7_leastSum_215 hO _)))))
theorem sZ7_leastSum_72 {G : kdS} {b : Nat} (hO : okO G b) (l0 : Nat) (l3 : Int) (l4 : Nat) (l5 : Int) (l6 : Int) (l7 : Int) (s0 : Int) (s1 : Nat) (s2 : Int) : SH b id (Z7_leastSum_72 kdG0 l0 l3 l4 l5 l6 l7 s0 s1 s2) (Z7_leastSum_72 G (b + l0) l3 (b + l4) l5 l6 l7 s0 (b + s1) s2) := by
  unfold Z7_leastSum_72
  exact s_aI hO fun _ => s_lI fun _ => s_cnd ((sZ7_leastSum_142 hO _ _ _ _ _ _ _)) (s_gR hO (by decide) fun _ => s_aR hO (by decide) fun _ => s_aI hO fun _ => s_gR hO (by decide) fun _ => s_aI hO fun _ => s_lI fun _ => s_lI fun _ => s_gR hO (by decide) fun _ => s_aR hO (by decide) fun _ => s_aI hO fun _ => s_lI fun _ => s_cv hO (by decide) (sZ6_at hO _ _) fun _ => s_cv hO (by decide) (sZ7_priceOfOne hO _ _ _) fun _ => s_lI fun _ => s_lI fun _ => (sZ7_leastSum_142 hO _ _ _ _ _ _ _))
theorem sZ7_leastSum_43 {G : kdS} {b : Nat} (hO : okO G b) (l0 : Nat) (l3 : Int) (l4 : Nat) (l5 : Int) (l6 : Int) (s0 : Int) : SH b id (Z7_leastSum_43 kdG0 l0 l3 l4 l5 l6 s0) (Z7_leastSum_43 G (b + l0) l3 (b + l4) l5 l6 s0) := by
  unfold Z7_leastSum_43
  exact s_gR hO (by decide) fun _ => s_aR hO (by decide) fun _ => s_aI hO fun _ => s_gR hO (by decide) fun _ => s_cnd ((sZ7_leastSum_72 hO _ _ _ _ _ _ _ _ _)) ((sZ7_leastSum_72 hO _ _ _ _ _ _ _ _ _))
theorem sZ7_leastSum {G : kdS} {b : Nat} (hO : okO G b) (l0 : Nat) (l1 : Nat) (l2 : Int) (l3 : Int) (l4 : Nat) (l5 : Int) : SH b id (Z7_leastSum kdG0 l0 l1 l2 l3 l4 l5) (Z7_leastSum G (b + l0) (b + l1) l2 l3 (b + l4) l5) := by
  unfold Z7_leastSum
  exact s_cnd (s_gR hO (by decide) fun _ => s_aI hO fun _ => s_lI fun _ => s_rt rfl) (s_lI fun _ => s_cv hO (by decide) (sZ6_at hO _ _) fun _ => s_cnd ((sZ7_leastSum_43 hO _ _ _ _ _ _)) (s_lI fun _ => s_cv hO (by decide) (sZ6_at hO _ _) fun _ => (sZ7_leastSum_43 hO _ _ _ _ _ _)))
theorem sZ7_workOut_12B {G : kdS} {b : Nat} (hO : okO G b) {k30 k3 : Nat → Nat → Int → Int → Nat → Int → kzM → Option (Unit × kzM)} (hk3 : ∀ (a0 : Nat) (a1 : Nat) (a2 : Int) (a3 : Int) (a4 : Nat) (a5 : Int), SH b id (k30 a0 a1 a2 a3 a4 a5) (k3 (b + a0) (b + a1) a2 a3 (b + a4) a5)) {k120 k12 : Nat → Nat → Int → Int → Nat → Int → Int → kzM → Option (Unit × kzM)} (hk12 : ∀ (a0 : Nat) (a1 : Nat) (a2 : Int) (a3 : Int) (a4 : Nat) (a5 : Int) (a6 : Int), SH b id (k120 a0 a1 a2 a3 a4 a5 a6) (k12 (b + a0) (b + a1) a2 a3 (b + a4) a5 a6)) (l0 : Nat) (l1 : Nat) (l2 : Int) (l3 : Int) (l4 : Nat) (l5 : Int) (l6 : Int) : SH b id (Z7_workOut_12B kdG0 k30 k120 l0 l1 l2 l3 l4 l5 l6) (Z7_workOut_12B G k3 k12 (b + l0) (b + l1) l2 l3 (b + l4) l5 l6) := by
  unfold Z7_workOut_12B
  exact s_cv hO (by decide) (sZ6_size hO _) fun _ => s_cnd (s_lI fun _ => (hk3 _ _ _ _ _ _)) (s_gR hO (by decide) fun _ => s_aR hO (by decide) fun _ => s_cv hO (by decide) (sZ7_leastSum hO _ _ _ _ _ _) fun _ => s_tI hO (s_lI fun _ => (hk12 _ _ _ _ _ _ _)))
theorem sZ7_workOut_12 {G : kdS} {b : Nat} (hO : okO G b) {k30 k3 : Nat → Nat → Int → Int → Nat → Int → kzM → Option (Unit × kzM)} (hk3 : ∀ (a0 : Nat) (a1 : Nat) (a2 : Int) (a3 : Int) (a4 : Nat) (a5 : Int), SH b id (k30 a0 a1 a2 a3 a4 a5) (k3 (b + a0) (b + a1) a2 a3 (b + a4) a5)) : ∀ (a0 : Nat) (a1 : Nat) (a2 : Int) (a3 : Int) (a4 : Nat) (a5 : Int) (a6 : Int), SH b id (Z7_workOut_12 kdG0 k30 a0 a1 a2 a3 a4 a5 a6) (Z7_workOut_12 G k3 (b + a0) (b + a1) a2 a3 (b + a4) a5 a6) :=
  lp_rel (R := fun (f0 : Nat → Nat → Int → Int → Nat → Int → Int → kzM → Option (Unit × kzM)) (f : Nat → Nat → Int → Int → Nat → Int → Int → kzM → Option (Unit × kzM)) => ∀ (a0 : Nat) (a1 : Nat) (a2 : Int) (a3 : Int) (a4 : Nat) (a5 : Int) (a6 : Int), SH b id (f0 a0 a1 a2 a3 a4 a5 a6) (f (b + a0) (b + a1) a2 a3 (b + a4) a5 a6)) (by intros; exact s_bot) (fun _ _ hf a0 a1 a2 a3 a4 a5 a6 => sZ7_workOut_12B hO hk3 hf a0 a1 a2 a3 a4 a5 a6) NN
theorem sZ7_workOut_3B {G : kdS} {b : Nat} (hO : okO G b) {k30 k3 : Nat → Nat → Int → Int → Nat → Int → kzM → Option (Unit × kzM)} (hk3 : ∀ (a0 : Nat) (a1 : Nat) (a2 : Int) (a3 : Int) (a4 : Nat) (a5 : Int), SH b id (k30 a0 a1 a2 a3 a4 a5) (k3 (b + a0) (b + a1) a2 a3 (b + a4) a5)) (l0 : Nat) (l1 : Nat) (l2 : Int) (l3 : Int) (l4 : Nat) (l5 : Int) : SH b id (Z7_workOut_3B kdG0 k30 l0 l1 l2 l3 l4 l5) (Z7_workOut_3B G k3 (b + l0) (b + l1) l2 l3 (b + l4) l5) := by
  unfold Z7_workOut_3B
  exact s_cnd (s_rt rfl) ((sZ7_workOut_12 hO hk3 _ _ _ _ _ _ _))
theorem sZ7_workOut_3 {G : kdS} {b : Nat} (hO : okO G b) : ∀ (a0 : Nat) (a1 : Nat) (a2 : Int) (a3 : Int) (a4 : Nat) (a5 : Int), SH b id (Z7_workOut_3 kdG0 a0 a1 a2 a3 a4 a5) (Z7_workOut_3 G (b + a0) (b + a1) a2 a3 (b + a4) a5) :=
  lp_rel (R := fun (f0 : Nat → Nat → Int → Int → Nat → Int → kzM → Option (Unit × kzM)) (f : Nat → Nat → Int → Int → Nat → Int → kzM → Option (Unit × kzM)) => ∀ (a0 : Nat) (a1 : Nat) (a2 : Int) (a3 : Int) (a4 : Nat) (a5 : Int), SH b id (f0 a0 a1 a2 a3 a4 a5) (f (b + a0) (b + a1) a2 a3 (b + a4) a5)) (by intros; exact s_bot) (fun _ _ hf a0 a1 a2 a3 a4 a5 => sZ7_workOut_3B hO hf a0 a1 a2 a3 a4 a5) NN
theorem sZ7_workOut {G : kdS} {b : Nat} (hO : okO G b) (l0 : Nat) (l1 : Nat) (l2 : Int) (l3 : Int) (l4 : Nat) : SH b id (Z7_workOut kdG0 l0 l1 l2 l3 l4) (Z7_workOut G (b + l0) (b + l1) l2 l3 (b + l4)) := by
  unfold Z7_workOut
  exact (sZ7_workOut_3 hO _ _ _ _ _ _)
theorem sZ7_priceOf {G : kdS} {b : Nat} (hO : okO G b) (l0 : Nat) (l1 : Nat) (l2 : Nat) : SH b id (Z7_priceOf kdG0 l0 l1 l2) (Z7_priceOf G (b + l0) (b + l1) (b + l2)) := by
  unfold Z7_priceOf
  exact s_cv hO (by decide) (sZ6_size hO _) fun _ => s_cv hO (by decide) (sZ7_workOut hO _ _ _ _ _) fun _ => s_cv hO (by decide) (sZ6_size hO _) fun _ => s_cv hO (by decide) (sZ7_leastFor hO _ _ _) fun _ => s_rt rfl
theorem sZ1_clear {G : kdS} {b : Nat} (hO : okO G b) (l0 : Nat) : SH b id (Z1_clear kdG0 l0) (Z1_clear G (b + l0)) := by
  unfold Z1_clear
  exact s_gR hO (by decide) fun _ => s_cv hO (by decide) (sZ6_clear hO _) fun _ => s_gR hO (by decide) fun _ => s_cv hO (by decide) (sZ6_clear hO _) fun _ => s_gR hO (by decide) fun _ => s_cv hO (by decide) (sZ6_clear hO _) fun _ => s_rt rfl
theorem sZ1_goesAhead_41 {G : kdS} {b : Nat} (hO : okO G b) (s0 : Int) : SH b id (Z1_goesAhead_41 kdG0 s0) (Z1_goesAhead_41 G s0) := by
  unfold Z1_goesAhead_41
  exact s_rt rfl
theorem sZ1_goesAhead_36 {G : kdS} {b : Nat} (hO : okO G b) : SH b id (Z1_goesAhead_36 kdG0) (Z1_goesAhead_36 G) := by
  unfold Z1_goesAhead_36
  exact (sZ1_goesAhead_41 hO _)
theorem sZ1_goesAhead_40 {G : kdS} {b : Nat} (hO : okO G b) : SH b id (Z1_goesAhead_40 kdG0) (Z1_goesAhead_40 G) := by
  unfold Z1_goesAhead_40
  exact (sZ1_goesAhead_41 hO _)
theorem sZ1_goesAhead {G : kdS} {b : Nat} (hO : okO G b) (l0 : Nat) (l1 : Int) (l2 : Int) (l3 : Int) : SH b id (Z1_goesAhead kdG0 l0 l1 l2 l3) (Z1_goesAhead G (b + l0) l1 l2 l3) := by
  unfold Z1_goesAhead
  exact s_gR hO (by decide) fun _ => s_cv hO (by decide) (sZ6_at hO _ _) fun _ => s_cnd ((sZ1_goesAhead_36 hO)) (s_gR hO (by decide) fun _ => s_cv hO (by decide) (sZ6_at hO _ _) fun _ => s_cnd (s_gR hO (by decide) fun _ => s_cv hO (by decide) (sZ6_at hO _ _) fun _ => s_cnd ((sZ1_goesAhead_40 hO)) ((sZ1_goesAhead_36 hO))) ((sZ1_goesAhead_40 hO)))
theorem sZ1_insert_33 {G : kdS} {b : Nat} (hO : okO G b) (l0 : Nat) (l1 : Int) (l2 : Int) (l3 : Int) (l4 : Int) : SH b id (Z1_insert_33 kdG0 l0 l1 l2 l3 l4) (Z1_insert_33 G (b + l0) l1 l2 l3 l4) := by
  unfold Z1_insert_33
  exact s_gR hO (by decide) fun _ => s_cv hO (by decide) (sZ6_insert hO _ _ _) fun _ => s_gR hO (by decide) fun _ => s_cv hO (by decide) (sZ6_insert hO _ _ _) fun _ => s_gR hO (by decide) fun _ => s_cv hO (by decide) (sZ6_insert hO _ _ _) fun _ => s_rt rfl
theorem sZ1_insert_9B {G : kdS} {b : Nat} (hO : okO G b) {k90 k9 : Nat → Int → Int → Int → Int → kzM → Option (Unit × kzM)} (hk9 : ∀ (a0 : Nat) (a1 : Int) (a2 : Int) (a3 : Int) (a4 : Int), SH b id (k90 a0 a1 a2 a3 a4) (k9 (b + a0) a1 a2 a3 a4)) (l0 : Nat) (l1 : Int) (l2 : Int) (l3 : Int) (l4 : Int) : SH b id (Z1_insert_9B kdG0 k90 l0 l1 l2 l3 l4) (Z1_insert_9B G k9 (b + l0) l1 l2 l3 l4) := by
  unfold Z1_insert_9B
  exact s_cnd ((sZ1_insert_33 hO _ _ _ _ _)) (s_lI fun _ => s_cv hO (by decide) (sZ1_goesAhead hO _ _ _ _) fun _ => s_cnd ((sZ1_insert_33 hO _ _ _ _ _)) (s_lI fun _ => (hk9 _ _ _ _ _)))
theorem sZ1_insert_9 {G : kdS} {b : Nat} (hO : okO G b) : ∀ (a0 : Nat) (a1 : Int) (a2 : Int) (a3 : Int) (a4 : Int), SH b id (Z1_insert_9 kdG0 a0 a1 a2 a3 a4) (Z1_insert_9 G (b + a0) a1 a2 a3 a4) :=
  lp_rel (R := fun (f0 : Nat → Int → Int → Int → Int → kzM → Option (Unit × kzM)) (f : Nat → Int → Int → Int → Int → kzM → Option (Unit × kzM)) => ∀ (a0 : Nat) (a1 : Int) (a2 : Int) (a3 : Int) (a4 : Int), SH b id (f0 a0 a1 a2 a3 a4) (f (b + a0) a1 a2 a3 a4)) (by intros; exact s_bot) (fun _ _ hf a0 a1 a2 a3 a4 => sZ1_insert_9B hO hf a0 a1 a2 a3 a4) NN
theorem sZ1_insert {G : kdS} {b : Nat} (hO : okO G b) (l0 : Nat) (l1 : Int) (l2 : Int) (l3 : Int) : SH b id (Z1_insert kdG0 l0 l1 l2 l3) (Z1_insert G (b + l0) l1 l2 l3) := by
  unfold Z1_insert
  exact s_gR hO (by decide) fun _ => s_cv hO (by decide) (sZ6_size hO _) fun _ => (sZ1_insert_9 hO _ _ _ _ _)
theorem sZ1_guessAt_37 {G : kdS} {b : Nat} (hO : okO G b) (s0 : Int) : SH b id (Z1_guessAt_37 kdG0 s0) (Z1_guessAt_37 G s0) := by
  unfold Z1_guessAt_37
  exact s_rt rfl
theorem sZ1_guessAt {G : kdS} {b : Nat} (hO : okO G b) (l0 : Nat) (l1 : Int) : SH b id (Z1_guessAt kdG0 l0 l1) (Z1_guessAt G (b + l0) l1) := by
  unfold Z1_guessAt
  exact s_cnd (s_gR hO (by decide) fun _ => s_cv hO (by decide) (sZ6_size hO _) fun _ => s_rt rfl) (s_gR hO (by decide) fun _ => s_cv hO (by decide) (sZ6_has hO _ _) fun _ => s_cnd ((sZ1_guessAt_37 hO _)) (s_gR hO (by decide) fun _ => s_cv hO (by decide) (sZ6_at hO _ _) fun _ => (sZ1_guessAt_37 hO _)))
theorem sZ0_pairs {G : kdS} {b : Nat} (hO : okO G b) (l0 : Nat) : SH b id (Z0_pairs kdG0 l0) (Z0_pairs G (b + l0)) := by
  unfold Z0_pairs
  exact s_gI hO (by decide) fun _ => s_rt rfl
theorem sZ0_padSize {G : kdS} {b : Nat} (hO : okO G b) (l0 : Nat) : SH b id (Z0_padSize kdG0 l0) (Z0_padSize G (b + l0)) := by
  unfold Z0_padSize
  exact s_gR hO (by decide) fun _ => s_cv hO (by decide) (sZ6_size hO _) fun _ => s_rt rfl
theorem sZ2_learnings {G : kdS} {b : Nat} (hO : okO G b) (l0 : Nat) : SH b id (Z2_learnings kdG0 l0) (Z2_learnings G (b + l0)) := by
  unfold Z2_learnings
  exact s_gR hO (by decide) fun _ => s_cv hO (by decide) (sZ6_size hO _) fun _ => s_rt rfl
theorem sZ2_isFull {G : kdS} {b : Nat} (hO : okO G b) (l0 : Nat) : SH b id (Z2_isFull kdG0 l0) (Z2_isFull G (b + l0)) := by
  unfold Z2_isFull
  exact s_gR hO (by decide) fun _ => s_cv hO (by decide) (sZ6_isFull hO _) fun _ => s_rt rfl
theorem sZ2_addLearning {G : kdS} {b : Nat} (hO : okO G b) (l0 : Nat) (l1 : Int) (l2 : Int) (l3 : Int) : SH b id (Z2_addLearning kdG0 l0 l1 l2 l3) (Z2_addLearning G (b + l0) l1 l2 l3) := by
  unfold Z2_addLearning
  exact s_gR hO (by decide) fun _ => s_cv hO (by decide) (sZ6_add hO _ _) fun _ => s_gR hO (by decide) fun _ => s_cv hO (by decide) (sZ6_add hO _ _) fun _ => s_gR hO (by decide) fun _ => s_cv hO (by decide) (sZ6_add hO _ _) fun _ => s_cv hO (by decide) (sZ2_learnings hO _) fun _ => s_rt rfl
theorem sZ2_latestDay_37 {G : kdS} {b : Nat} (hO : okO G b) {k40 k4 : Nat → Int → Int → Int → kzM → Option (Int × kzM)} (hk4 : ∀ (a0 : Nat) (a1 : Int) (a2 : Int) (a3 : Int), SH b id (k40 a0 a1 a2 a3) (k4 (b + a0) a1 a2 a3)) (l0 : Nat) (l1 : Int) (l2 : Int) (l3 : Int) : SH b id (Z2_latestDay_37 kdG0 k40 l0 l1 l2 l3) (Z2_latestDay_37 G k4 (b + l0) l1 l2 l3) := by
  unfold Z2_latestDay_37
  exact s_lI fun _ => (hk4 _ _ _ _)
theorem sZ2_latestDay_4B {G : kdS} {b : Nat} (hO : okO G b) {k40 k4 : Nat → Int → Int → Int → kzM → Option (Int × kzM)} (hk4 : ∀ (a0 : Nat) (a1 : Int) (a2 : Int) (a3 : Int), SH b id (k40 a0 a1 a2 a3) (k4 (b + a0) a1 a2 a3)) (l0 : Nat) (l1 : Int) (l2 : Int) (l3 : Int) : SH b id (Z2_latestDay_4B kdG0 k40 l0 l1 l2 l3) (Z2_latestDay_4B G k4 (b + l0) l1 l2 l3) := by
  unfold Z2_latestDay_4B
  exact s_cv hO (by decide) (sZ2_learnings hO _) fun _ => s_cnd (s_rt rfl) (s_gR hO (by decide) fun _ => s_cv hO (by decide) (sZ6_at hO _ _) fun _ => s_cnd (s_gR hO (by decide) fun _ => s_cv hO (by decide) (sZ6_at hO _ _) fun _ => s_lI fun _ => (sZ2_latestDay_37 hO hk4 _ _ _ _)) ((sZ2_latestDay_37 hO hk4 _ _ _ _)))
theorem sZ2_latestDay_4 {G : kdS} {b : Nat} (hO : okO G b) : ∀ (a0 : Nat) (a1 : Int) (a2 : Int) (a3 : Int), SH b id (Z2_latestDay_4 kdG0 a0 a1 a2 a3) (Z2_latestDay_4 G (b + a0) a1 a2 a3) :=
  lp_rel (R := fun (f0 : Nat → Int → Int → Int → kzM → Option (Int × kzM)) (f : Nat → Int → Int → Int → kzM → Option (Int × kzM)) => ∀ (a0 : Nat) (a1 : Int) (a2 : Int) (a3 : Int), SH b id (f0 a0 a1 a2 a3) (f (b + a0) a1 a2 a3)) (by intros; exact s_bot) (fun _ _ hf a0 a1 a2 a3 => sZ2_latestDay_4B hO hf a0 a1 a2 a3) NN
theorem sZ2_latestDay {G : kdS} {b : Nat} (hO : okO G b) (l0 : Nat) (l1 : Int) : SH b id (Z2_latestDay kdG0 l0 l1) (Z2_latestDay G (b + l0) l1) := by
  unfold Z2_latestDay
  exact (sZ2_latestDay_4 hO _ _ _ _)
theorem sZ2_faded_6B {G : kdS} {b : Nat} (hO : okO G b) {k60 k6 : Nat → Int → Int → Int → kzM → Option (Int × kzM)} (hk6 : ∀ (a0 : Nat) (a1 : Int) (a2 : Int) (a3 : Int), SH b id (k60 a0 a1 a2 a3) (k6 (b + a0) a1 a2 a3)) (l0 : Nat) (l1 : Int) (l2 : Int) (l3 : Int) : SH b id (Z2_faded_6B kdG0 k60 l0 l1 l2 l3) (Z2_faded_6B G k6 (b + l0) l1 l2 l3) := by
  unfold Z2_faded_6B
  exact s_cnd (s_rt rfl) (s_gI hO (by decide) fun _ => s_nz (s_lI fun _ => s_lI fun _ => s_cnd (s_rt rfl) (s_lI fun _ => (hk6 _ _ _ _))))
theorem sZ2_faded_6 {G : kdS} {b : Nat} (hO : okO G b) : ∀ (a0 : Nat) (a1 : Int) (a2 : Int) (a3 : Int), SH b id (Z2_faded_6 kdG0 a0 a1 a2 a3) (Z2_faded_6 G (b + a0) a1 a2 a3) :=
  lp_rel (R := fun (f0 : Nat → Int → Int → Int → kzM → Option (Int × kzM)) (f : Nat → Int → Int → Int → kzM → Option (Int × kzM)) => ∀ (a0 : Nat) (a1 : Int) (a2 : Int) (a3 : Int), SH b id (f0 a0 a1 a2 a3) (f (b + a0) a1 a2 a3)) (by intros; exact s_bot) (fun _ _ hf a0 a1 a2 a3 => sZ2_faded_6B hO hf a0 a1 a2 a3) NN
theorem sZ2_faded {G : kdS} {b : Nat} (hO : okO G b) (l0 : Nat) (l1 : Int) : SH b id (Z2_faded kdG0 l0 l1) (Z2_faded G (b + l0) l1) := by
  unfold Z2_faded
  exact (sZ2_faded_6 hO _ _ _ _)
theorem sZ2_isOf_29 {G : kdS} {b : Nat} (hO : okO G b) (s0 : Int) : SH b id (Z2_isOf_29 kdG0 s0) (Z2_isOf_29 G s0) := by
  unfold Z2_isOf_29
  exact s_rt rfl
theorem sZ2_isOf_28 {G : kdS} {b : Nat} (hO : okO G b) : SH b id (Z2_isOf_28 kdG0) (Z2_isOf_28 G) := by
  unfold Z2_isOf_28
  exact (sZ2_isOf_29 hO _)
theorem sZ2_isOf {G : kdS} {b : Nat} (hO : okO G b) (l0 : Nat) (l1 : Int) (l2 : Int) (l3 : Int) : SH b id (Z2_isOf kdG0 l0 l1 l2 l3) (Z2_isOf G (b + l0) l1 l2 l3) := by
  unfold Z2_isOf
  exact s_gR hO (by decide) fun _ => s_cv hO (by decide) (sZ6_at hO _ _) fun _ => s_cnd (s_gR hO (by decide) fun _ => s_cv hO (by decide) (sZ6_at hO _ _) fun _ => s_cnd ((sZ2_isOf_29 hO _)) ((sZ2_isOf_28 hO))) ((sZ2_isOf_28 hO))
theorem sZ2_worthOf_59 {G : kdS} {b : Nat} (hO : okO G b) {k60 k6 : Nat → Int → Int → Int → Int → Int → kzM → Option (Int × kzM)} (hk6 : ∀ (a0 : Nat) (a1 : Int) (a2 : Int) (a3 : Int) (a4 : Int) (a5 : Int), SH b id (k60 a0 a1 a2 a3 a4 a5) (k6 (b + a0) a1 a2 a3 a4 a5)) (l0 : Nat) (l1 : Int) (l2 : Int) (l3 : Int) (l4 : Int) (l5 : Int) : SH b id (Z2_worthOf_59 kdG0 k60 l0 l1 l2 l3 l4 l5) (Z2_worthOf_59 G k6 (b + l0) l1 l2 l3 l4 l5) := by
  unfold Z2_worthOf_59
  exact s_lI fun _ => (hk6 _ _ _ _ _ _)
theorem sZ2_worthOf_6B {G : kdS} {b : Nat} (hO : okO G b) {k60 k6 : Nat → Int → Int → Int → Int → Int → kzM → Option (Int × kzM)} (hk6 : ∀ (a0 : Nat) (a1 : Int) (a2 : Int) (a3 : Int) (a4 : Int) (a5 : Int), SH b id (k60 a0 a1 a2 a3 a4 a5) (k6 (b + a0) a1 a2 a3 a4 a5)) (l0 : Nat) (l1 : Int) (l2 : Int) (l3 : Int) (l4 : Int) (l5 : Int) : SH b id (Z2_worthOf_6B kdG0 k60 l0 l1 l2 l3 l4 l5) (Z2_worthOf_6B G k6 (b + l0) l1 l2 l3 l4 l5) := by
  unfold Z2_worthOf_6B
  exact s_cv hO (by decide) (sZ2_learnings hO _) fun _ => s_cnd (s_rt rfl) (s_cv hO (by decide) (sZ2_isOf hO _ _ _ _) fun _ => s_cnd ((sZ2_worthOf_59 hO hk6 _ _ _ _ _ _)) (s_gR hO (by decide) fun _ => s_cv hO (by decide) (sZ6_at hO _ _) fun _ => s_cnd ((sZ2_worthOf_59 hO hk6 _ _ _ _ _ _)) (s_gR hO (by decide) fun _ => s_cv hO (by decide) (sZ6_at hO _ _) fun _ => s_lI fun _ => s_cv hO (by decide) (sZ2_faded hO _ _) fun _ => s_lI fun _ => (sZ2_worthOf_59 hO hk6 _ _ _ _ _ _))))
theorem sZ2_worthOf_6 {G : kdS} {b : Nat} (hO : okO G b) : ∀ (a0 : Nat) (a1 : Int) (a2 : Int) (a3 : Int) (a4 : Int) (a5 : Int), SH b id (Z2_worthOf_6 kdG0 a0 a1 a2 a3 a4 a5) (Z2_worthOf_6 G (b + a0) a1 a2 a3 a4 a5) :=
  lp_rel (R := fun (f0 : Nat → Int → Int → Int → Int → Int → kzM → Option (Int × kzM)) (f : Nat → Int → Int → Int → Int → Int → kzM → Option (Int × kzM)) => ∀ (a0 : Nat) (a1 : Int) (a2 : Int) (a3 : Int) (a4 : Int) (a5 : Int), SH b id (f0 a0 a1 a2 a3 a4 a5) (f (b + a0) a1 a2 a3 a4 a5)) (by intros; exact s_bot) (fun _ _ hf a0 a1 a2 a3 a4 a5 => sZ2_worthOf_6B hO hf a0 a1 a2 a3 a4 a5) NN
theorem sZ2_worthOf {G : kdS} {b : Nat} (hO : okO G b) (l0 : Nat) (l1 : Int) (l2 : Int) (l3 : Int) : SH b id (Z2_worthOf kdG0 l0 l1 l2 l3) (Z2_worthOf G (b + l0) l1 l2 l3) := by
  unfold Z2_worthOf
  exact (sZ2_worthOf_6 hO _ _ _ _ _ _)
theorem sZ2_dropLearnings_73 {G : kdS} {b : Nat} (hO : okO G b) {k100 k10 : Nat → Int → Int → Int → Int → kzM → Option (Int × kzM)} (hk10 : ∀ (a0 : Nat) (a1 : Int) (a2 : Int) (a3 : Int) (a4 : Int), SH b id (k100 a0 a1 a2 a3 a4) (k10 (b + a0) a1 a2 a3 a4)) (l0 : Nat) (l1 : Int) (l2 : Int) (l3 : Int) (l4 : Int) : SH b id (Z2_dropLearnings_73 kdG0 k100 l0 l1 l2 l3 l4) (Z2_dropLearnings_73 G k10 (b + l0) l1 l2 l3 l4) := by
  unfold Z2_dropLearnings_73
  exact s_lI fun _ => (hk10 _ _ _ _ _)
theorem sZ2_dropLearnings_37 {G : kdS} {b : Nat} (hO : okO G b) {k100 k10 : Nat → Int → Int → Int → Int → kzM → Option (Int × kzM)} (hk10 : ∀ (a0 : Nat) (a1 : Int) (a2 : Int) (a3 : Int) (a4 : Int), SH b id (k100 a0 a1 a2 a3 a4) (k10 (b + a0) a1 a2 a3 a4)) (l0 : Nat) (l1 : Int) (l2 : Int) (l3 : Int) (l4 : Int) (s0 : Nat) (s1 : Int) (s2 : Int) (s3 : Int) : SH b id (Z2_dropLearnings_37 kdG0 k100 l0 l1 l2 l3 l4 s0 s1 s2 s3) (Z2_dropLearnings_37 G k10 (b + l0) l1 l2 l3 l4 (b + s0) s1 s2 s3) := by
  unfold Z2_dropLearnings_37
  exact s_cv hO (by decide) (sZ2_isOf hO _ _ _ _) fun _ => s_cnd ((sZ2_dropLearnings_73 hO hk10 _ _ _ _ _)) (s_gR hO (by decide) fun _ => s_cv hO (by decide) (sZ6_remove hO _ _) fun _ => s_gR hO (by decide) fun _ => s_cv hO (by decide) (sZ6_remove hO _ _) fun _ => s_gR hO (by decide) fun _ => s_cv hO (by decide) (sZ6_remove hO _ _) fun _ => (sZ2_dropLearnings_73 hO hk10 _ _ _ _ _))
theorem sZ2_dropLearnings_10B {G : kdS} {b : Nat} (hO : okO G b) {k100 k10 : Nat → Int → Int → Int → Int → kzM → Option (Int × kzM)} (hk10 : ∀ (a0 : Nat) (a1 : Int) (a2 : Int) (a3 : Int) (a4 : Int), SH b id (k100 a0 a1 a2 a3 a4) (k10 (b + a0) a1 a2 a3 a4)) (l0 : Nat) (l1 : Int) (l2 : Int) (l3 : Int) (l4 : Int) : SH b id (Z2_dropLearnings_10B kdG0 k100 l0 l1 l2 l3 l4) (Z2_dropLearnings_10B G k10 (b + l0) l1 l2 l3 l4) := by
  unfold Z2_dropLearnings_10B
  exact s_cnd (s_cv hO (by decide) (sZ2_learnings hO _) fun _ => s_lI fun _ => s_rt rfl) (s_cnd (s_gR hO (by decide) fun _ => s_cv hO (by decide) (sZ6_at hO _ _) fun _ => (sZ2_dropLearnings_37 hO hk10 _ _ _ _ _ _ _ _ _)) ((sZ2_dropLearnings_37 hO hk10 _ _ _ _ _ _ _ _ _)))
theorem sZ2_dropLearnings_10 {G : kdS} {b : Nat} (hO : okO G b) : ∀ (a0 : Nat) (a1 : Int) (a2 : Int) (a3 : Int) (a4 : Int), SH b id (Z2_dropLearnings_10 kdG0 a0 a1 a2 a3 a4) (Z2_dropLearnings_10 G (b + a0) a1 a2 a3 a4) :=
  lp_rel (R := fun (f0 : Nat → Int → Int → Int → Int → kzM → Option (Int × kzM)) (f : Nat → Int → Int → Int → Int → kzM → Option (Int × kzM)) => ∀ (a0 : Nat) (a1 : Int) (a2 : Int) (a3 : Int) (a4 : Int), SH b id (f0 a0 a1 a2 a3 a4) (f (b + a0) a1 a2 a3 a4)) (by intros; exact s_bot) (fun _ _ hf a0 a1 a2 a3 a4 => sZ2_dropLearnings_10B hO hf a0 a1 a2 a3 a4) NN
theorem sZ2_dropLearnings {G : kdS} {b : Nat} (hO : okO G b) (l0 : Nat) (l1 : Int) (l2 : Int) : SH b id (Z2_dropLearnings kdG0 l0 l1 l2) (Z2_dropLearnings G (b + l0) l1 l2) := by
  unfold Z2_dropLearnings
  exact s_cv hO (by decide) (sZ2_learnings hO _) fun _ => s_lI fun _ => (sZ2_dropLearnings_10 hO _ _ _ _ _)
theorem sZ2_setFade {G : kdS} {b : Nat} (hO : okO G b) (l0 : Nat) (l1 : Int) : SH b id (Z2_setFade kdG0 l0 l1) (Z2_setFade G (b + l0) l1) := by
  unfold Z2_setFade
  exact s_gI hO (by decide) fun _ => s_sI hO (by decide) (s_rt rfl)
theorem sZ2_budgetOf {G : kdS} {b : Nat} (hO : okO G b) (l0 : Nat) (l1 : Int) : SH b id (Z2_budgetOf kdG0 l0 l1) (Z2_budgetOf G (b + l0) l1) := by
  unfold Z2_budgetOf
  exact s_gR hO (by decide) fun _ => s_aI hO fun _ => s_rt rfl
theorem sZ2_setBudget {G : kdS} {b : Nat} (hO : okO G b) (l0 : Nat) (l1 : Int) (l2 : Int) : SH b id (Z2_setBudget kdG0 l0 l1 l2) (Z2_setBudget G (b + l0) l1 l2) := by
  unfold Z2_setBudget
  exact s_gR hO (by decide) fun _ => s_aI hO fun _ => s_gR hO (by decide) fun _ => s_tI hO (s_rt rfl)
theorem sZ2_setSeed {G : kdS} {b : Nat} (hO : okO G b) (l0 : Nat) (l1 : Int) : SH b id (Z2_setSeed kdG0 l0 l1) (Z2_setSeed G (b + l0) l1) := by
  unfold Z2_setSeed
  exact s_gI hO (by decide) fun _ => s_sI hO (by decide) (s_rt rfl)
theorem sZ2_givers_25 {G : kdS} {b : Nat} (hO : okO G b) {k40 k4 : Nat → Int → Int → Int → kzM → Option (Int × kzM)} (hk4 : ∀ (a0 : Nat) (a1 : Int) (a2 : Int) (a3 : Int), SH b id (k40 a0 a1 a2 a3) (k4 (b + a0) a1 a2 a3)) (l0 : Nat) (l1 : Int) (l3 : Int) (s0 : Int) (s1 : Int) : SH b id (Z2_givers_25 kdG0 k40 l0 l1 l3 s0 s1) (Z2_givers_25 G k4 (b + l0) l1 l3 s0 s1) := by
  unfold Z2_givers_25
  exact s_lI fun _ => s_lI fun _ => (hk4 _ _ _ _)
theorem sZ2_givers_4B {G : kdS} {b : Nat} (hO : okO G b) {k40 k4 : Nat → Int → Int → Int → kzM → Option (Int × kzM)} (hk4 : ∀ (a0 : Nat) (a1 : Int) (a2 : Int) (a3 : Int), SH b id (k40 a0 a1 a2 a3) (k4 (b + a0) a1 a2 a3)) (l0 : Nat) (l1 : Int) (l2 : Int) (l3 : Int) : SH b id (Z2_givers_4B kdG0 k40 l0 l1 l2 l3) (Z2_givers_4B G k4 (b + l0) l1 l2 l3) := by
  unfold Z2_givers_4B
  exact s_cnd (s_rt rfl) (s_gR hO (by decide) fun _ => s_aI hO fun _ => s_cnd ((sZ2_givers_25 hO hk4 _ _ _ _ _)) ((sZ2_givers_25 hO hk4 _ _ _ _ _)))
theorem sZ2_givers_4 {G : kdS} {b : Nat} (hO : okO G b) : ∀ (a0 : Nat) (a1 : Int) (a2 : Int) (a3 : Int), SH b id (Z2_givers_4 kdG0 a0 a1 a2 a3) (Z2_givers_4 G (b + a0) a1 a2 a3) :=
  lp_rel (R := fun (f0 : Nat → Int → Int → Int → kzM → Option (Int × kzM)) (f : Nat → Int → Int → Int → kzM → Option (Int × kzM)) => ∀ (a0 : Nat) (a1 : Int) (a2 : Int) (a3 : Int), SH b id (f0 a0 a1 a2 a3) (f (b + a0) a1 a2 a3)) (by intros; exact s_bot) (fun _ _ hf a0 a1 a2 a3 => sZ2_givers_4B hO hf a0 a1 a2 a3) NN
theorem sZ2_givers {G : kdS} {b : Nat} (hO : okO G b) (l0 : Nat) (l1 : Int) : SH b id (Z2_givers kdG0 l0 l1) (Z2_givers G (b + l0) l1) := by
  unfold Z2_givers
  exact (sZ2_givers_4 hO _ _ _ _)
theorem sZ2_drawLot {G : kdS} {b : Nat} (hO : okO G b) (l0 : Nat) (l1 : Int) : SH b id (Z2_drawLot kdG0 l0 l1) (Z2_drawLot G (b + l0) l1) := by
  unfold Z2_drawLot
  exact s_gI hO (by decide) fun _ => s_nz (s_lL fun _ => s_lI fun _ => s_sI hO (by decide) (s_gI hO (by decide) fun _ => s_nz (s_nz (s_lI fun _ => s_lI fun _ => s_rt rfl))))
theorem sZ2_sumWithLot_53 {G : kdS} {b : Nat} (hO : okO G b) {k60 k6 : Nat → Int → Int → Int → Int → Int → kzM → Option (Int × kzM)} (hk6 : ∀ (a0 : Nat) (a1 : Int) (a2 : Int) (a3 : Int) (a4 : Int) (a5 : Int), SH b id (k60 a0 a1 a2 a3 a4 a5) (k6 (b + a0) a1 a2 a3 a4 a5)) (l0 : Nat) (l1 : Int) (l2 : Int) (l3 : Int) (l4 : Int) (l5 : Int) : SH b id (Z2_sumWithLot_53 kdG0 k60 l0 l1 l2 l3 l4 l5) (Z2_sumWithLot_53 G k6 (b + l0) l1 l2 l3 l4 l5) := by
  unfold Z2_sumWithLot_53
  exact s_lI fun _ => (hk6 _ _ _ _ _ _)
theorem sZ2_sumWithLot_6B {G : kdS} {b : Nat} (hO : okO G b) {k60 k6 : Nat → Int → Int → Int → Int → Int → kzM → Option (Int × kzM)} (hk6 : ∀ (a0 : Nat) (a1 : Int) (a2 : Int) (a3 : Int) (a4 : Int) (a5 : Int), SH b id (k60 a0 a1 a2 a3 a4 a5) (k6 (b + a0) a1 a2 a3 a4 a5)) (l0 : Nat) (l1 : Int) (l2 : Int) (l3 : Int) (l4 : Int) (l5 : Int) : SH b id (Z2_sumWithLot_6B kdG0 k60 l0 l1 l2 l3 l4 l5) (Z2_sumWithLot_6B G k6 (b + l0) l1 l2 l3 l4 l5) := by
  unfold Z2_sumWithLot_6B
  exact s_cnd (s_cv hO (by decide) (sZ2_drawLot hO _ _) fun _ => s_lI fun _ => s_rt rfl) (s_gR hO (by decide) fun _ => s_aI hO fun _ => s_cnd ((sZ2_sumWithLot_53 hO hk6 _ _ _ _ _ _)) (s_cv hO (by decide) (sZ2_worthOf hO _ _ _ _) fun _ => s_lI fun _ => s_gR hO (by decide) fun _ => s_aI hO fun _ => s_lI fun _ => s_tI hO ((sZ2_sumWithLot_53 hO hk6 _ _ _ _ _ _))))
theorem sZ2_sumWithLot_6 {G : kdS} {b : Nat} (hO : okO G b) : ∀ (a0 : Nat) (a1 : Int) (a2 : Int) (a3 : Int) (a4 : Int) (a5 : Int), SH b id (Z2_sumWithLot_6 kdG0 a0 a1 a2 a3 a4 a5) (Z2_sumWithLot_6 G (b + a0) a1 a2 a3 a4 a5) :=
  lp_rel (R := fun (f0 : Nat → Int → Int → Int → Int → Int → kzM → Option (Int × kzM)) (f : Nat → Int → Int → Int → Int → Int → kzM → Option (Int × kzM)) => ∀ (a0 : Nat) (a1 : Int) (a2 : Int) (a3 : Int) (a4 : Int) (a5 : Int), SH b id (f0 a0 a1 a2 a3 a4 a5) (f (b + a0) a1 a2 a3 a4 a5)) (by intros; exact s_bot) (fun _ _ hf a0 a1 a2 a3 a4 a5 => sZ2_sumWithLot_6B hO hf a0 a1 a2 a3 a4 a5) NN
theorem sZ2_sumWithLot {G : kdS} {b : Nat} (hO : okO G b) (l0 : Nat) (l1 : Int) (l2 : Int) (l3 : Int) : SH b id (Z2_sumWithLot kdG0 l0 l1 l2 l3) (Z2_sumWithLot G (b + l0) l1 l2 l3) := by
  unfold Z2_sumWithLot
  exact (sZ2_sumWithLot_6 hO _ _ _ _ _ _)
theorem sZ3_size {G : kdS} {b : Nat} (hO : okO G b) (l0 : Nat) : SH b id (Z3_size kdG0 l0) (Z3_size G (b + l0)) := by
  unfold Z3_size
  exact s_gI hO (by decide) fun _ => s_rt rfl
theorem sZ3_startAnew_42B {G : kdS} {b : Nat} (hO : okO G b) {k120 k12 : Nat → Int → Int → kzM → Option (Int × kzM)} (hk12 : ∀ (a0 : Nat) (a1 : Int) (a2 : Int), SH b id (k120 a0 a1 a2) (k12 (b + a0) a1 a2)) {k420 k42 : Nat → Int → Int → Int → kzM → Option (Int × kzM)} (hk42 : ∀ (a0 : Nat) (a1 : Int) (a2 : Int) (a3 : Int), SH b id (k420 a0 a1 a2 a3) (k42 (b + a0) a1 a2 a3)) (l0 : Nat) (l2 : Int) (l3 : Int) (l4 : Int) : SH b id (Z3_startAnew_42B kdG0 k120 k420 l0 l2 l3 l4) (Z3_startAnew_42B G k12 k42 (b + l0) l2 l3 l4) := by
  unfold Z3_startAnew_42B
  exact s_cnd (s_lI fun _ => (hk12 _ _ _)) (s_gR hO (by decide) fun _ => s_aR hO (by decide) fun _ => s_tI hO (s_lI fun _ => (hk42 _ _ _ _)))
theorem sZ3_startAnew_42 {G : kdS} {b : Nat} (hO : okO G b) {k120 k12 : Nat → Int → Int → kzM → Option (Int × kzM)} (hk12 : ∀ (a0 : Nat) (a1 : Int) (a2 : Int), SH b id (k120 a0 a1 a2) (k12 (b + a0) a1 a2)) : ∀ (a0 : Nat) (a1 : Int) (a2 : Int) (a3 : Int), SH b id (Z3_startAnew_42 kdG0 k120 a0 a1 a2 a3) (Z3_startAnew_42 G k12 (b + a0) a1 a2 a3) :=
  lp_rel (R := fun (f0 : Nat → Int → Int → Int → kzM → Option (Int × kzM)) (f : Nat → Int → Int → Int → kzM → Option (Int × kzM)) => ∀ (a0 : Nat) (a1 : Int) (a2 : Int) (a3 : Int), SH b id (f0 a0 a1 a2 a3) (f (b + a0) a1 a2 a3)) (by intros; exact s_bot) (fun _ _ hf a0 a1 a2 a3 => sZ3_startAnew_42B hO hk12 hf a0 a1 a2 a3) NN
theorem sZ3_startAnew_12B {G : kdS} {b : Nat} (hO : okO G b) {k120 k12 : Nat → Int → Int → kzM → Option (Int × kzM)} (hk12 : ∀ (a0 : Nat) (a1 : Int) (a2 : Int), SH b id (k120 a0 a1 a2) (k12 (b + a0) a1 a2)) (l0 : Nat) (l2 : Int) (l3 : Int) : SH b id (Z3_startAnew_12B kdG0 k120 l0 l2 l3) (Z3_startAnew_12B G k12 (b + l0) l2 l3) := by
  unfold Z3_startAnew_12B
  exact s_cnd (s_rt rfl) (s_gR hO (by decide) fun _ => s_tI hO (s_gR hO (by decide) fun _ => s_tI hO (s_gR hO (by decide) fun _ => s_tI hO ((sZ3_startAnew_42 hO hk12 _ _ _ _)))))
theorem sZ3_startAnew_12 {G : kdS} {b : Nat} (hO : okO G b) : ∀ (a0 : Nat) (a1 : Int) (a2 : Int), SH b id (Z3_startAnew_12 kdG0 a0 a1 a2) (Z3_startAnew_12 G (b + a0) a1 a2) :=
  lp_rel (R := fun (f0 : Nat → Int → Int → kzM → Option (Int × kzM)) (f : Nat → Int → Int → kzM → Option (Int × kzM)) => ∀ (a0 : Nat) (a1 : Int) (a2 : Int), SH b id (f0 a0 a1 a2) (f (b + a0) a1 a2)) (by intros; exact s_bot) (fun _ _ hf a0 a1 a2 => sZ3_startAnew_12B hO hf a0 a1 a2) NN
theorem sZ3_startAnew {G : kdS} {b : Nat} (hO : okO G b) (l0 : Nat) (l1 : Int) : SH b id (Z3_startAnew kdG0 l0 l1) (Z3_startAnew G (b + l0) l1) := by
  unfold Z3_startAnew
  exact s_gI hO (by decide) fun _ => s_sI hO (by decide) ((sZ3_startAnew_12 hO _ _ _))
theorem sZ11_within_15 {G : kdS} {b : Nat} (hO : okO G b) (s0 : Int) : SH b id (Z11_within_15 kdG0 s0) (Z11_within_15 G s0) := by
  unfold Z11_within_15
  exact s_rt rfl
theorem sZ11_within_14 {G : kdS} {b : Nat} (hO : okO G b) : SH b id (Z11_within_14 kdG0) (Z11_within_14 G) := by
  unfold Z11_within_14
  exact (sZ11_within_15 hO _)
theorem sZ11_within {G : kdS} {b : Nat} (hO : okO G b) (l0 : Int) (l1 : Int) (l2 : Int) : SH b id (Z11_within kdG0 l0 l1 l2) (Z11_within G l0 l1 l2) := by
  unfold Z11_within
  exact s_cnd ((sZ11_within_14 hO)) (s_cnd ((sZ11_within_14 hO)) ((sZ11_within_15 hO _)))
theorem sZ11_isKey {G : kdS} {b : Nat} (hO : okO G b) (l0 : Int) : SH b id (Z11_isKey kdG0 l0) (Z11_isKey G l0) := by
  unfold Z11_isKey
  exact s_cl (sZ11_within hO _ _ _) fun _ => s_rt rfl
theorem sZ11_key {G : kdS} {b : Nat} (hO : okO G b) (l0 : Nat) (l1 : Int) : SH b id (Z11_key kdG0 l0 l1) (Z11_key G (b + l0) l1) := by
  unfold Z11_key
  exact s_cl (sZ11_isKey hO _) fun _ => s_cnd (s_rt rfl) (s_gR hO (by decide) fun _ => s_cv hO (by decide) (sZ6_isFull hO _) fun _ => s_cnd (s_gR hO (by decide) fun _ => s_cv hO (by decide) (sZ6_add hO _ _) fun _ => s_gR hO (by decide) fun _ => s_cv hO (by decide) (sZ6_size hO _) fun _ => s_rt rfl) (s_rt rfl))
theorem sZ11_isTongue {G : kdS} {b : Nat} (hO : okO G b) (l0 : Int) : SH b id (Z11_isTongue kdG0 l0) (Z11_isTongue G l0) := by
  unfold Z11_isTongue
  exact s_cl (sZ11_within hO _ _ _) fun _ => s_rt rfl
theorem sZ11_word_30 {G : kdS} {b : Nat} (hO : okO G b) : SH b id (Z11_word_30 kdG0) (Z11_word_30 G) := by
  unfold Z11_word_30
  exact s_rt rfl
theorem sZ11_word_68 {G : kdS} {b : Nat} (hO : okO G b) : SH b id (Z11_word_68 kdG0) (Z11_word_68 G) := by
  unfold Z11_word_68
  exact s_rt rfl
theorem sZ11_word {G : kdS} {b : Nat} (hO : okO G b) (l0 : Nat) (l1 : Int) (l2 : Int) (l3 : Int) : SH b id (Z11_word kdG0 l0 l1 l2 l3) (Z11_word G (b + l0) l1 l2 l3) := by
  unfold Z11_word
  exact s_cl (sZ11_isTongue hO _) fun _ => s_cnd (s_rt rfl) (s_cl (sZ11_within hO _ _ _) fun _ => s_cnd ((sZ11_word_30 hO)) (s_cl (sZ11_within hO _ _ _) fun _ => s_cnd ((sZ11_word_30 hO)) (s_gR hO (by decide) fun _ => s_cv hO (by decide) (sZ10_isFull hO _) fun _ => s_cnd (s_gR hO (by decide) fun _ => s_cv hO (by decide) (sZ6_isEmpty hO _) fun _ => s_cnd (s_gR hO (by decide) fun _ => s_cv hO (by decide) (sZ6_size hO _) fun _ => s_cnd (s_gR hO (by decide) fun _ => s_gR hO (by decide) fun _ => s_cv hO (by decide) (sZ10_addWord hO _ _ _ _ _) fun _ => s_gR hO (by decide) fun _ => s_cv hO (by decide) (sZ6_clear hO _) fun _ => s_rt rfl) ((sZ11_word_68 hO))) ((sZ11_word_68 hO))) (s_rt rfl))))
theorem sZ11_ofWord_130 {G : kdS} {b : Nat} (hO : okO G b) (s0 : Int) : SH b id (Z11_ofWord_130 kdG0 s0) (Z11_ofWord_130 G s0) := by
  unfold Z11_ofWord_130
  exact s_rt rfl
theorem sZ11_ofWord {G : kdS} {b : Nat} (hO : okO G b) (l0 : Nat) (l1 : Int) (l2 : Int) : SH b id (Z11_ofWord kdG0 l0 l1 l2) (Z11_ofWord G (b + l0) l1 l2) := by
  unfold Z11_ofWord
  exact s_gR hO (by decide) fun _ => s_cv hO (by decide) (sZ10_has hO _ _) fun _ => s_cnd (s_rt rfl) (s_cnd (s_gR hO (by decide) fun _ => s_cv hO (by decide) (sZ10_tongueOf hO _ _) fun _ => s_rt rfl) (s_cnd (s_gR hO (by decide) fun _ => s_cv hO (by decide) (sZ10_signOf hO _ _) fun _ => s_rt rfl) (s_cnd (s_gR hO (by decide) fun _ => s_cv hO (by decide) (sZ10_countOf hO _ _) fun _ => s_rt rfl) (s_cnd (s_gR hO (by decide) fun _ => s_cv hO (by decide) (sZ10_keysOf hO _ _) fun _ => s_cv hO (by decide) (sZ6_size hO _) fun _ => s_rt rfl) (s_cnd (s_gR hO (by decide) fun _ => s_cv hO (by decide) (sZ10_keysOf hO _ _) fun _ => s_lI fun _ => s_cv hO (by decide) (sZ6_has hO _ _) fun _ => s_cnd ((sZ11_ofWord_130 hO _)) (s_gR hO (by decide) fun _ => s_cv hO (by decide) (sZ10_keysOf hO _ _) fun _ => s_lI fun _ => s_cv hO (by decide) (sZ6_at hO _ _) fun _ => (sZ11_ofWord_130 hO _))) (s_rt rfl))))))
theorem sZ11_slip_47 {G : kdS} {b : Nat} (hO : okO G b) (s0 : Int) : SH b id (Z11_slip_47 kdG0 s0) (Z11_slip_47 G s0) := by
  unfold Z11_slip_47
  exact s_rt rfl
theorem sZ11_slip {G : kdS} {b : Nat} (hO : okO G b) (l0 : Nat) (l1 : Int) : SH b id (Z11_slip kdG0 l0 l1) (Z11_slip G (b + l0) l1) := by
  unfold Z11_slip
  exact s_gR hO (by decide) fun _ => s_cv hO (by decide) (sZ10_has hO _ _) fun _ => s_cnd (s_rt rfl) (s_gR hO (by decide) fun _ => s_cv hO (by decide) (sZ6_isEmpty hO _) fun _ => s_cnd (s_gR hO (by decide) fun _ => s_gR hO (by decide) fun _ => s_gR hO (by decide) fun _ => s_cv hO (by decide) (sZ10_keysOf hO _ _) fun _ => s_cv hO (by decide) (sZ7_priceOf hO _ _ _) fun _ => (sZ11_slip_47 hO _)) ((sZ11_slip_47 hO _)))
theorem sZ11_hasBit_14 {G : kdS} {b : Nat} (hO : okO G b) (s0 : Int) : SH b id (Z11_hasBit_14 kdG0 s0) (Z11_hasBit_14 G s0) := by
  unfold Z11_hasBit_14
  exact s_rt rfl
theorem sZ11_hasBit {G : kdS} {b : Nat} (hO : okO G b) (l0 : Int) (l1 : Int) : SH b id (Z11_hasBit kdG0 l0 l1) (Z11_hasBit G l0 l1) := by
  unfold Z11_hasBit
  exact s_cnd ((sZ11_hasBit_14 hO _)) ((sZ11_hasBit_14 hO _))
theorem sZ11_gather_103 {G : kdS} {b : Nat} (hO : okO G b) {k100 k10 : Nat → Int → Int → Int → Int → Int → kzM → Option (Unit × kzM)} (hk10 : ∀ (a0 : Nat) (a1 : Int) (a2 : Int) (a3 : Int) (a4 : Int) (a5 : Int), SH b id (k100 a0 a1 a2 a3 a4 a5) (k10 (b + a0) a1 a2 a3 a4 a5)) (l0 : Nat) (l1 : Int) (l2 : Int) (l3 : Int) (l4 : Int) (l5 : Int) : SH b id (Z11_gather_103 kdG0 k100 l0 l1 l2 l3 l4 l5) (Z11_gather_103 G k10 (b + l0) l1 l2 l3 l4 l5) := by
  unfold Z11_gather_103
  exact s_lI fun _ => (hk10 _ _ _ _ _ _)
theorem sZ11_gather_10B {G : kdS} {b : Nat} (hO : okO G b) {k100 k10 : Nat → Int → Int → Int → Int → Int → kzM → Option (Unit × kzM)} (hk10 : ∀ (a0 : Nat) (a1 : Int) (a2 : Int) (a3 : Int) (a4 : Int) (a5 : Int), SH b id (k100 a0 a1 a2 a3 a4 a5) (k10 (b + a0) a1 a2 a3 a4 a5)) (l0 : Nat) (l1 : Int) (l2 : Int) (l3 : Int) (l4 : Int) (l5 : Int) : SH b id (Z11_gather_10B kdG0 k100 l0 l1 l2 l3 l4 l5) (Z11_gather_10B G k10 (b + l0) l1 l2 l3 l4 l5) := by
  unfold Z11_gather_10B
  exact s_gR hO (by decide) fun _ => s_cv hO (by decide) (sZ10_size hO _) fun _ => s_cnd (s_rt rfl) (s_gR hO (by decide) fun _ => s_cv hO (by decide) (sZ10_tongueOf hO _ _) fun _ => s_cl (sZ11_hasBit hO _ _) fun _ => s_cnd ((sZ11_gather_103 hO hk10 _ _ _ _ _ _)) (s_gR hO (by decide) fun _ => s_gR hO (by decide) fun _ => s_gR hO (by decide) fun _ => s_cv hO (by decide) (sZ10_keysOf hO _ _) fun _ => s_cv hO (by decide) (sZ7_priceOf hO _ _ _) fun _ => s_cnd ((sZ11_gather_103 hO hk10 _ _ _ _ _ _)) (s_gR hO (by decide) fun _ => s_gR hO (by decide) fun _ => s_cv hO (by decide) (sZ10_countOf hO _ _) fun _ => s_gR hO (by decide) fun _ => s_cv hO (by decide) (sZ2_worthOf hO _ _ _ _) fun _ => s_lI fun _ => s_cv hO (by decide) (sZ1_insert hO _ _ _ _) fun _ => (sZ11_gather_103 hO hk10 _ _ _ _ _ _))))
theorem sZ11_gather_10 {G : kdS} {b : Nat} (hO : okO G b) : ∀ (a0 : Nat) (a1 : Int) (a2 : Int) (a3 : Int) (a4 : Int) (a5 : Int), SH b id (Z11_gather_10 kdG0 a0 a1 a2 a3 a4 a5) (Z11_gather_10 G (b + a0) a1 a2 a3 a4 a5) :=
  lp_rel (R := fun (f0 : Nat → Int → Int → Int → Int → Int → kzM → Option (Unit × kzM)) (f : Nat → Int → Int → Int → Int → Int → kzM → Option (Unit × kzM)) => ∀ (a0 : Nat) (a1 : Int) (a2 : Int) (a3 : Int) (a4 : Int) (a5 : Int), SH b id (f0 a0 a1 a2 a3 a4 a5) (f (b + a0) a1 a2 a3 a4 a5)) (by intros; exact s_bot) (fun _ _ hf a0 a1 a2 a3 a4 a5 => sZ11_gather_10B hO hf a0 a1 a2 a3 a4 a5) NN
theorem sZ11_gather {G : kdS} {b : Nat} (hO : okO G b) (l0 : Nat) (l1 : Int) (l2 : Int) (l3 : Int) (l4 : Int) : SH b id (Z11_gather kdG0 l0 l1 l2 l3 l4) (Z11_gather G (b + l0) l1 l2 l3 l4) := by
  unfold Z11_gather
  exact s_gR hO (by decide) fun _ => s_cv hO (by decide) (sZ1_clear hO _) fun _ => (sZ11_gather_10 hO _ _ _ _ _ _)
theorem sZ11_guess_20 {G : kdS} {b : Nat} (hO : okO G b) : SH b id (Z11_guess_20 kdG0) (Z11_guess_20 G) := by
  unfold Z11_guess_20
  exact s_rt rfl
theorem sZ11_guess {G : kdS} {b : Nat} (hO : okO G b) (l0 : Nat) (l1 : Int) (l2 : Int) (l3 : Int) : SH b id (Z11_guess kdG0 l0 l1 l2 l3) (Z11_guess G (b + l0) l1 l2 l3) := by
  unfold Z11_guess
  exact s_cl (sZ11_within hO _ _ _) fun _ => s_cnd ((sZ11_guess_20 hO)) (s_cl (sZ11_within hO _ _ _) fun _ => s_cnd ((sZ11_guess_20 hO)) (s_gR hO (by decide) fun _ => s_cv hO (by decide) (sZ6_isEmpty hO _) fun _ => s_cnd (s_cv hO (by decide) (sZ11_gather hO _ _ _ _ _) fun _ => s_gR hO (by decide) fun _ => s_cv hO (by decide) (sZ1_guessAt hO _ _) fun _ => s_rt rfl) (s_rt rfl)))
theorem sZ11_isDay {G : kdS} {b : Nat} (hO : okO G b) (l0 : Int) : SH b id (Z11_isDay kdG0 l0) (Z11_isDay G l0) := by
  unfold Z11_isDay
  exact s_cl (sZ11_within hO _ _ _) fun _ => s_rt rfl
theorem sZ11_isHand {G : kdS} {b : Nat} (hO : okO G b) (l0 : Int) : SH b id (Z11_isHand kdG0 l0) (Z11_isHand G l0) := by
  unfold Z11_isHand
  exact s_cl (sZ11_within hO _ _ _) fun _ => s_rt rfl
theorem sZ11_learn_18 {G : kdS} {b : Nat} (hO : okO G b) : SH b id (Z11_learn_18 kdG0) (Z11_learn_18 G) := by
  unfold Z11_learn_18
  exact s_rt rfl
theorem sZ11_learn_70 {G : kdS} {b : Nat} (hO : okO G b) (s0 : Int) : SH b id (Z11_learn_70 kdG0 s0) (Z11_learn_70 G s0) := by
  unfold Z11_learn_70
  exact s_rt rfl
theorem sZ11_learn {G : kdS} {b : Nat} (hO : okO G b) (l0 : Nat) (l1 : Int) (l2 : Int) (l3 : Int) : SH b id (Z11_learn kdG0 l0 l1 l2 l3) (Z11_learn G (b + l0) l1 l2 l3) := by
  unfold Z11_learn
  exact s_cl (sZ11_isHand hO _) fun _ => s_cnd ((sZ11_learn_18 hO)) (s_gR hO (by decide) fun _ => s_cv hO (by decide) (sZ10_has hO _ _) fun _ => s_cnd ((sZ11_learn_18 hO)) (s_cl (sZ11_isDay hO _) fun _ => s_cnd (s_rt rfl) (s_gR hO (by decide) fun _ => s_cv hO (by decide) (sZ2_isFull hO _) fun _ => s_cnd (s_gR hO (by decide) fun _ => s_cv hO (by decide) (sZ2_latestDay hO _ _) fun _ => s_cnd (s_gR hO (by decide) fun _ => s_cv hO (by decide) (sZ2_addLearning hO _ _ _ _) fun _ => (sZ11_learn_70 hO _)) ((sZ11_learn_70 hO _))) (s_rt rfl))))
theorem sZ11_worth_18 {G : kdS} {b : Nat} (hO : okO G b) : SH b id (Z11_worth_18 kdG0) (Z11_worth_18 G) := by
  unfold Z11_worth_18
  exact s_rt rfl
theorem sZ11_worth_42 {G : kdS} {b : Nat} (hO : okO G b) (s0 : Int) : SH b id (Z11_worth_42 kdG0 s0) (Z11_worth_42 G s0) := by
  unfold Z11_worth_42
  exact s_rt rfl
theorem sZ11_worth {G : kdS} {b : Nat} (hO : okO G b) (l0 : Nat) (l1 : Int) (l2 : Int) (l3 : Int) : SH b id (Z11_worth kdG0 l0 l1 l2 l3) (Z11_worth G (b + l0) l1 l2 l3) := by
  unfold Z11_worth
  exact s_cl (sZ11_isHand hO _) fun _ => s_cnd ((sZ11_worth_18 hO)) (s_gR hO (by decide) fun _ => s_cv hO (by decide) (sZ10_has hO _ _) fun _ => s_cnd ((sZ11_worth_18 hO)) (s_cl (sZ11_isDay hO _) fun _ => s_cnd ((sZ11_worth_42 hO _)) (s_gR hO (by decide) fun _ => s_cv hO (by decide) (sZ2_worthOf hO _ _ _ _) fun _ => (sZ11_worth_42 hO _))))
theorem sZ11_forget_23 {G : kdS} {b : Nat} (hO : okO G b) : SH b id (Z11_forget_23 kdG0) (Z11_forget_23 G) := by
  unfold Z11_forget_23
  exact s_rt rfl
theorem sZ11_forget_25 {G : kdS} {b : Nat} (hO : okO G b) (l0 : Nat) (l1 : Int) (l2 : Int) : SH b id (Z11_forget_25 kdG0 l0 l1 l2) (Z11_forget_25 G (b + l0) l1 l2) := by
  unfold Z11_forget_25
  exact s_gR hO (by decide) fun _ => s_cv hO (by decide) (sZ2_dropLearnings hO _ _ _) fun _ => s_rt rfl
theorem sZ11_forget {G : kdS} {b : Nat} (hO : okO G b) (l0 : Nat) (l1 : Int) (l2 : Int) : SH b id (Z11_forget kdG0 l0 l1 l2) (Z11_forget G (b + l0) l1 l2) := by
  unfold Z11_forget
  exact s_cl (sZ11_isHand hO _) fun _ => s_cnd ((sZ11_forget_23 hO)) (s_cnd ((sZ11_forget_25 hO _ _ _)) (s_gR hO (by decide) fun _ => s_cv hO (by decide) (sZ10_has hO _ _) fun _ => s_cnd ((sZ11_forget_23 hO)) ((sZ11_forget_25 hO _ _ _))))
theorem sZ11_fade_24 {G : kdS} {b : Nat} (hO : okO G b) (s0 : Int) : SH b id (Z11_fade_24 kdG0 s0) (Z11_fade_24 G s0) := by
  unfold Z11_fade_24
  exact s_rt rfl
theorem sZ11_fade {G : kdS} {b : Nat} (hO : okO G b) (l0 : Nat) (l1 : Int) : SH b id (Z11_fade kdG0 l0 l1) (Z11_fade G (b + l0) l1) := by
  unfold Z11_fade
  exact s_cl (sZ11_within hO _ _ _) fun _ => s_cnd ((sZ11_fade_24 hO _)) (s_gR hO (by decide) fun _ => s_cv hO (by decide) (sZ2_setFade hO _ _) fun _ => (sZ11_fade_24 hO _))
theorem sZ11_mine_37 {G : kdS} {b : Nat} (hO : okO G b) : SH b id (Z11_mine_37 kdG0) (Z11_mine_37 G) := by
  unfold Z11_mine_37
  exact s_rt rfl
theorem sZ11_mine {G : kdS} {b : Nat} (hO : okO G b) (l0 : Nat) (l1 : Int) (l2 : Int) (l3 : Int) (l4 : Int) (l5 : Int) : SH b id (Z11_mine kdG0 l0 l1 l2 l3 l4 l5) (Z11_mine G (b + l0) l1 l2 l3 l4 l5) := by
  unfold Z11_mine
  exact s_cl (sZ11_isHand hO _) fun _ => s_cnd (s_rt rfl) (s_cl (sZ11_isDay hO _) fun _ => s_cnd ((sZ11_mine_37 hO)) (s_cl (sZ11_within hO _ _ _) fun _ => s_cnd ((sZ11_mine_37 hO)) (s_cl (sZ11_within hO _ _ _) fun _ => s_cnd ((sZ11_mine_37 hO)) (s_gR hO (by decide) fun _ => s_cv hO (by decide) (sZ6_isEmpty hO _) fun _ => s_cnd (s_cv hO (by decide) (sZ11_gather hO _ _ _ _ _) fun _ => s_gR hO (by decide) fun _ => s_cv hO (by decide) (sZ1_guessAt hO _ _) fun _ => s_rt rfl) (s_rt rfl)))))
theorem sZ11_budget_34 {G : kdS} {b : Nat} (hO : okO G b) (s0 : Int) : SH b id (Z11_budget_34 kdG0 s0) (Z11_budget_34 G s0) := by
  unfold Z11_budget_34
  exact s_rt rfl
theorem sZ11_budget {G : kdS} {b : Nat} (hO : okO G b) (l0 : Nat) (l1 : Int) (l2 : Int) : SH b id (Z11_budget kdG0 l0 l1 l2) (Z11_budget G (b + l0) l1 l2) := by
  unfold Z11_budget
  exact s_cl (sZ11_isHand hO _) fun _ => s_cnd (s_rt rfl) (s_cl (sZ11_within hO _ _ _) fun _ => s_cnd ((sZ11_budget_34 hO _)) (s_gR hO (by decide) fun _ => s_cv hO (by decide) (sZ2_setBudget hO _ _ _) fun _ => (sZ11_budget_34 hO _)))
theorem sZ11_seed_24 {G : kdS} {b : Nat} (hO : okO G b) (s0 : Int) : SH b id (Z11_seed_24 kdG0 s0) (Z11_seed_24 G s0) := by
  unfold Z11_seed_24
  exact s_rt rfl
theorem sZ11_seed {G : kdS} {b : Nat} (hO : okO G b) (l0 : Nat) (l1 : Int) : SH b id (Z11_seed kdG0 l0 l1) (Z11_seed G (b + l0) l1) := by
  unfold Z11_seed
  exact s_cl (sZ11_within hO _ _ _) fun _ => s_cnd ((sZ11_seed_24 hO _)) (s_gR hO (by decide) fun _ => s_cv hO (by decide) (sZ2_setSeed hO _ _) fun _ => (sZ11_seed_24 hO _))
theorem sZ11_share_32 {G : kdS} {b : Nat} (hO : okO G b) : SH b id (Z11_share_32 kdG0) (Z11_share_32 G) := by
  unfold Z11_share_32
  exact s_rt rfl
theorem sZ11_share_64 {G : kdS} {b : Nat} (hO : okO G b) (s0 : Int) : SH b id (Z11_share_64 kdG0 s0) (Z11_share_64 G s0) := by
  unfold Z11_share_64
  exact s_rt rfl
theorem sZ11_share {G : kdS} {b : Nat} (hO : okO G b) (l0 : Nat) (l1 : Int) (l2 : Int) (l3 : Int) : SH b id (Z11_share kdG0 l0 l1 l2 l3) (Z11_share G (b + l0) l1 l2 l3) := by
  unfold Z11_share
  exact s_gR hO (by decide) fun _ => s_cv hO (by decide) (sZ10_has hO _ _) fun _ => s_cnd (s_rt rfl) (s_cl (sZ11_within hO _ _ _) fun _ => s_cnd ((sZ11_share_32 hO)) (s_cl (sZ11_isDay hO _) fun _ => s_cnd ((sZ11_share_32 hO)) (s_gR hO (by decide) fun _ => s_cv hO (by decide) (sZ2_givers hO _ _) fun _ => s_cnd (s_gR hO (by decide) fun _ => s_cv hO (by decide) (sZ2_sumWithLot hO _ _ _ _) fun _ => (sZ11_share_64 hO _)) ((sZ11_share_64 hO _)))))
theorem sZ11_toldOfOne_72 {G : kdS} {b : Nat} (hO : okO G b) (s0 : Int) : SH b id (Z11_toldOfOne_72 kdG0 s0) (Z11_toldOfOne_72 G s0) := by
  unfold Z11_toldOfOne_72
  exact s_rt rfl
theorem sZ11_toldOfOne {G : kdS} {b : Nat} (hO : okO G b) (l0 : Nat) (l1 : Int) : SH b id (Z11_toldOfOne kdG0 l0 l1) (Z11_toldOfOne G (b + l0) l1) := by
  unfold Z11_toldOfOne
  exact s_lW fun _ => s_cl (sZ11_isTongue hO _) fun _ => s_cnd (s_lW fun _ => s_cl (sZ11_isTongue hO _) fun _ => s_cnd (s_lW fun _ => s_cl (sZ11_isHand hO _) fun _ => s_cnd ((sZ11_toldOfOne_72 hO _)) (s_gR hO (by decide) fun _ => s_lW fun _ => s_cv hO (by decide) (sZ2_budgetOf hO _ _) fun _ => (sZ11_toldOfOne_72 hO _))) (s_gR hO (by decide) fun _ => s_aR hO (by decide) fun _ => s_cv hO (by decide) (sZ8_joins hO _) fun _ => s_rt rfl)) (s_gR hO (by decide) fun _ => s_aR hO (by decide) fun _ => s_cv hO (by decide) (sZ8_rules hO _) fun _ => s_rt rfl)
theorem sZ11_told {G : kdS} {b : Nat} (hO : okO G b) (l0 : Nat) (l1 : Int) : SH b id (Z11_told kdG0 l0 l1) (Z11_told G (b + l0) l1) := by
  unfold Z11_told
  exact s_cnd (s_gR hO (by decide) fun _ => s_cv hO (by decide) (sZ6_size hO _) fun _ => s_rt rfl) (s_cnd (s_gR hO (by decide) fun _ => s_cv hO (by decide) (sZ6_size hO _) fun _ => s_rt rfl) (s_cnd (s_gR hO (by decide) fun _ => s_cv hO (by decide) (sZ0_padSize hO _) fun _ => s_rt rfl) (s_cnd (s_gR hO (by decide) fun _ => s_cv hO (by decide) (sZ4_tongue hO _) fun _ => s_rt rfl) (s_cnd (s_gR hO (by decide) fun _ => s_cv hO (by decide) (sZ4_strokes hO _) fun _ => s_cv hO (by decide) (sZ6_size hO _) fun _ => s_rt rfl) (s_cnd (s_gR hO (by decide) fun _ => s_cv hO (by decide) (sZ10_size hO _) fun _ => s_rt rfl) (s_cnd (s_gR hO (by decide) fun _ => s_cv hO (by decide) (sZ0_pairs hO _) fun _ => s_rt rfl) (s_cnd (s_gR hO (by decide) fun _ => s_cv hO (by decide) (sZ2_learnings hO _) fun _ => s_rt rfl) (s_cnd (s_gR hO (by decide) fun _ => s_cv hO (by decide) (sZ3_size hO _) fun _ => s_rt rfl) (s_cv hO (by decide) (sZ11_toldOfOne hO _ _) fun _ => s_rt rfl)))))))))
