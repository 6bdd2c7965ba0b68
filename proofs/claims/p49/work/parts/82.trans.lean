/-! the calls over an object at b, in a memory with other things -/
def V (b : Nat) (τ : kzM) : kzM := (fun a j => τ.1 (b + a) j, fun a j => τ.2 (b + a) j)
theorem V_rl (b : Nat) (τ : kzM) : RlS b (V b τ) τ := fun _ _ => ⟨rfl, rfl⟩
theorem Rv_lt {a : Nat} (h : Rv a) : a < 612 := by unfold Rv at h; omega
section TRS
variable {G : kdS} {b : Nat} {τ : kzM} {pd n f x : Int} {B : Int → Int} {m : Int} {fh fw fd : Int → Int}
theorem Ob.rl {τ0' τ' : kzM} (h : RlS b τ0' τ') (q : Ob τ0' pd n f x B m fh fw fd) : Ob (V b τ') pd n f x B m fh fw fd :=
  q.cg fun a j z => congrFun (h a (Rv_lt z)).1 j
theorem tabG.rl {τ0' τ' : kzM} (h : RlS b τ0' τ') (k : FrS b τ τ') (q : tabG (V b τ) τ0') : tabG (V b τ) (V b τ') := fun a j z => by
  by_cases c : a < 612
  · rw [← q a j z]; exact congrFun (h a c).1 j
  · exact congrFun (k (b + a) (by omega)).1 j
set_option maxRecDepth 100000 in
theorem t_told0 (hO : okO G b) {Q : Int → kzM → Prop} (q : Ob (V b τ) pd n f x B m fh fw fd) (hQ : ∀ τ', FrS b τ τ' → Ob (V b τ') pd n f x B m fh fw fd → Q pd τ') : Wz (Z11_told G b 0) τ Q :=
  (sZ11_told hO 0 0).wz (V_rl b τ) (c_told0 (Q := fun r τ0' => r = pd ∧ Ob τ0' pd n f x B m fh fw fd) ⟨q.2.1, q⟩) fun r τ0' τ' h hr hf => by
    rw [show id r = pd from h.1]; exact hQ τ' hf (h.2.rl hr)
set_option maxRecDepth 100000 in
theorem t_told7 (hO : okO G b) {Q : Int → kzM → Prop} (q : Ob (V b τ) pd n f x B m fh fw fd) (hQ : ∀ τ', FrS b τ τ' → Ob (V b τ') pd n f x B m fh fw fd → Q m τ') : Wz (Z11_told G b 7) τ Q :=
  (sZ11_told hO 0 7).wz (V_rl b τ) (c_told7 (Q := fun r τ0' => r = m ∧ Ob τ0' pd n f x B m fh fw fd) ⟨q.2.2.2.2.2.2.1, q⟩) fun r τ0' τ' h hr hf => by
    rw [show id r = m from h.1]; exact hQ τ' hf (h.2.rl hr)
set_option maxRecDepth 100000 in
theorem t_toldB (hO : okO G b) {a : Int} (a0 : 30 ≤ a) (a1 : a ≤ 33) {Q : Int → kzM → Prop} (q : Ob (V b τ) pd n f x B m fh fw fd) (hQ : ∀ τ', FrS b τ τ' → Ob (V b τ') pd n f x B m fh fw fd → Q (B (a - 30)) τ') : Wz (Z11_told G b a) τ Q :=
  (sZ11_told hO 0 a).wz (V_rl b τ) (c_toldB a0 a1 (Q := fun r τ0' => r = B (a - 30) ∧ Ob τ0' pd n f x B m fh fw fd) ⟨q.2.2.2.2.2.1 _ (by omega) (by omega), q⟩) fun r τ0' τ' h hr hf => by
    rw [show id r = B (a - 30) from h.1]; exact hQ τ' hf (h.2.rl hr)
set_option maxRecDepth 100000 in
theorem t_key (hO : okO G b) (q : Ob (V b τ) pd n f x B m fh fw fd) {k : Int} (k0 : 0 ≤ k) (k1 : k ≤ 11) (hp : pd < 16) {Q : Int → kzM → Prop} (hQ : ∀ τ', FrS b τ τ' → Ob (V b τ') (pd + 1) n f x B m fh fw fd → Q (pd + 1) τ') : Wz (Z11_key G b k) τ Q :=
  (sZ11_key hO 0 k).wz (V_rl b τ) (c_key q k0 k1 hp (Q := fun r τ0' => r = pd + 1 ∧ Ob τ0' (pd + 1) n f x B m fh fw fd) fun τ0' h => ⟨rfl, h⟩) fun r τ0' τ' h hr hf => by
    rw [show id r = pd + 1 from h.1]; exact hQ τ' hf (h.2.rl hr)
set_option maxRecDepth 100000 in
theorem t_fade (hO : okO G b) (q : Ob (V b τ) pd n f x B m fh fw fd) {v : Int} (v0 : 0 ≤ v) (v1 : v ≤ 1000) {Q : Int → kzM → Prop} (hQ : ∀ τ', FrS b τ τ' → Ob (V b τ') pd n v x B m fh fw fd → Q f τ') : Wz (Z11_fade G b v) τ Q :=
  (sZ11_fade hO 0 v).wz (V_rl b τ) (c_fade q v0 v1 (Q := fun r τ0' => r = f ∧ Ob τ0' pd n v x B m fh fw fd) fun τ0' h => ⟨rfl, h⟩) fun r τ0' τ' h hr hf => by
    rw [show id r = f from h.1]; exact hQ τ' hf (h.2.rl hr)
set_option maxRecDepth 100000 in
theorem t_seed (hO : okO G b) (q : Ob (V b τ) pd n f x B m fh fw fd) {v : Int} (v0 : 1 ≤ v) (v1 : v ≤ 1000000) {Q : Int → kzM → Prop} (hQ : ∀ τ', FrS b τ τ' → Ob (V b τ') pd n f v B m fh fw fd → Q x τ') : Wz (Z11_seed G b v) τ Q :=
  (sZ11_seed hO 0 v).wz (V_rl b τ) (c_seed q v0 v1 (Q := fun r τ0' => r = x ∧ Ob τ0' pd n f v B m fh fw fd) fun τ0' h => ⟨rfl, h⟩) fun r τ0' τ' h hr hf => by
    rw [show id r = x from h.1]; exact hQ τ' hf (h.2.rl hr)
set_option maxRecDepth 100000 in
theorem t_budget (hO : okO G b) (q : Ob (V b τ) pd n f x B m fh fw fd) {h v : Int} (h0 : 0 ≤ h) (h1 : h < 4) (v0 : 0 ≤ v) (v1 : v ≤ 1000) {Q : Int → kzM → Prop} (hQ : ∀ τ', FrS b τ τ' → Ob (V b τ') pd n f x (fun k => if k = h then v else B k) m fh fw fd → Q (B h) τ') : Wz (Z11_budget G b h v) τ Q :=
  (sZ11_budget hO 0 h v).wz (V_rl b τ) (c_budget q h0 h1 v0 v1 (Q := fun r τ0' => r = B h ∧ Ob τ0' pd n f x (fun k => if k = h then v else B k) m fh fw fd) fun τ0' h => ⟨rfl, h⟩) fun r τ0' τ' hh hr hf => by
    rw [show id r = B h from hh.1]; exact hQ τ' hf (hh.2.rl hr)
set_option maxRecDepth 100000 in
theorem t_word (hO : okO G b) (q : Ob (V b τ) pd n f x B m fh fw fd) {t s k : Int} (c1 : 0 ≤ t ∧ t ≤ 2) (c2 : 1 ≤ s ∧ s ≤ 999) (c3 : 1 ≤ k ∧ k ≤ 100) (c4 : n < 60) (c5 : 1 ≤ pd) (c6 : pd ≤ 8) {Q : Int → kzM → Prop} (hQ : ∀ τ', FrS b τ τ' → Ob (V b τ') 0 (n + 1) f x B m fh fw fd → Q n τ') : Wz (Z11_word G b t s k) τ Q :=
  (sZ11_word hO 0 t s k).wz (V_rl b τ) (c_word q c1 c2 c3 c4 c5 c6 (Q := fun r τ0' => r = n ∧ Ob τ0' 0 (n + 1) f x B m fh fw fd) fun τ0' h => ⟨rfl, h⟩) fun r τ0' τ' h hr hf => by
    rw [show id r = n from h.1]; exact hQ τ' hf (h.2.rl hr)
set_option maxRecDepth 100000 in
theorem t_learn_ok (hO : okO G b) (q : Ob (V b τ) pd n f x B m fh fw fd) {h w d : Int} (c1 : 0 ≤ h ∧ h ≤ 3) (c2 : 0 ≤ w ∧ w < n) (c3 : 0 ≤ d ∧ d ≤ 3000) (c4 : m < 60) (c5 : ∀ k, 0 ≤ k → k < m → fh k = h → fd k ≤ d) {Q : Int → kzM → Prop} (hQ : ∀ τ', FrS b τ τ' → Ob (V b τ') pd n f x B (m + 1) (fun k => if k = m then h else fh k) (fun k => if k = m then w else fw k) (fun k => if k = m then d else fd k) → Q (m + 1) τ') : Wz (Z11_learn G b h w d) τ Q :=
  (sZ11_learn hO 0 h w d).wz (V_rl b τ) (c_learn_ok q c1 c2 c3 c4 c5 (Q := fun r τ0' => r = m + 1 ∧ Ob τ0' pd n f x B (m + 1) (fun k => if k = m then h else fh k) (fun k => if k = m then w else fw k) (fun k => if k = m then d else fd k)) fun τ0' h => ⟨rfl, h⟩) fun r τ0' τ' hh hr hf => by
    rw [show id r = m + 1 from hh.1]; exact hQ τ' hf (hh.2.rl hr)
set_option maxRecDepth 100000 in
theorem t_learn_no (hO : okO G b) (q : Ob (V b τ) pd n f x B m fh fw fd) {h w d : Int} (c1 : 0 ≤ h ∧ h ≤ 3) (c2 : 0 ≤ w ∧ w < n) (c3 : 0 ≤ d ∧ d ≤ 3000) (c4 : m < 60) {k : Int} (k0 : 0 ≤ k) (k1 : k < m) (k2 : fh k = h) (k3 : d < fd k) {Q : Int → kzM → Prop} (hQ : ∀ τ', FrS b τ τ' → Ob (V b τ') pd n f x B m fh fw fd → Q (-5) τ') : Wz (Z11_learn G b h w d) τ Q :=
  (sZ11_learn hO 0 h w d).wz (V_rl b τ) (c_learn_no q c1 c2 c3 c4 k0 k1 k2 k3 (Q := fun r τ0' => r = -5 ∧ Ob τ0' pd n f x B m fh fw fd) ⟨rfl, q⟩) fun r τ0' τ' hh hr hf => by
    rw [show id r = -5 from hh.1]; exact hQ τ' hf (hh.2.rl hr)
set_option maxRecDepth 100000 in
theorem t_worth (hO : okO G b) (q : Ob (V b τ) pd n f x B m fh fw fd) {h w d : Int} (c1 : 0 ≤ h ∧ h ≤ 3) (c2 : 0 ≤ w ∧ w < n) (c3 : 0 ≤ d ∧ d ≤ 3000) {Q : Int → kzM → Prop} (hQ : ∀ τ', FrS b τ τ' → Ob (V b τ') pd n f x B m fh fw fd → Q (wrt f m fh fw fd h w d) τ') : Wz (Z11_worth G b h w d) τ Q :=
  (sZ11_worth hO 0 h w d).wz (V_rl b τ) (c_worth q c1 c2 c3 (Q := fun r τ0' => r = wrt f m fh fw fd h w d ∧ Ob τ0' pd n f x B m fh fw fd) ⟨rfl, q⟩) fun r τ0' τ' hh hr hf => by
    rw [show id r = wrt f m fh fw fd h w d from hh.1]; exact hQ τ' hf (hh.2.rl hr)
set_option maxRecDepth 100000 in
theorem t_share_no (hO : okO G b) (q : Ob (V b τ) pd n f x B m fh fw fd) {w e d : Int} (c1 : 0 ≤ w ∧ w < n) (c2 : 1 ≤ e ∧ e ≤ 100) (c3 : 0 ≤ d ∧ d ≤ 3000) (c4 : wS (gvS B e) 4 < 2) {Q : Int → kzM → Prop} (hQ : ∀ τ', FrS b τ τ' → Ob (V b τ') pd n f x B m fh fw fd → Q (-1000005) τ') : Wz (Z11_share G b w e d) τ Q :=
  (sZ11_share hO 0 w e d).wz (V_rl b τ) (c_share_no q c1 c2 c3 c4 (Q := fun r τ0' => r = -1000005 ∧ Ob τ0' pd n f x B m fh fw fd) ⟨rfl, q⟩) fun r τ0' τ' hh hr hf => by
    rw [show id r = -1000005 from hh.1]; exact hQ τ' hf (hh.2.rl hr)
set_option maxRecDepth 100000 in
theorem t_share_ok (hO : okO G b) (q : Ob (V b τ) pd n f x B m fh fw fd) {w e d : Int} (c1 : 0 ≤ w ∧ w < n) (c2 : 1 ≤ e ∧ e ≤ 100) (c3 : 0 ≤ d ∧ d ≤ 3000) (c4 : 2 ≤ wS (gvS B e) 4) {Q : Int → kzM → Prop} (hQ : ∀ τ', FrS b τ τ' → Ob (V b τ') pd n f ((x * 16807).tmod 2147483647) (shB B e 4) m fh fw fd → Q (wS (shS B e (fun h => wrt f m fh fw fd h w d)) 4 + ((((x * 16807).tmod 2147483647).tmod 2001 - 1000) * 100).tdiv e) τ') : Wz (Z11_share G b w e d) τ Q :=
  (sZ11_share hO 0 w e d).wz (V_rl b τ) (c_share_ok q c1 c2 c3 c4 (Q := fun r τ0' => r = wS (shS B e (fun h => wrt f m fh fw fd h w d)) 4 + ((((x * 16807).tmod 2147483647).tmod 2001 - 1000) * 100).tdiv e ∧ Ob τ0' pd n f ((x * 16807).tmod 2147483647) (shB B e 4) m fh fw fd) fun τ0' h => ⟨rfl, h⟩) fun r τ0' τ' hh hr hf => by
    rw [show id r = _ from hh.1]; exact hQ τ' hf (hh.2.rl hr)
set_option maxRecDepth 100000 in
theorem t_forget (hO : okO G b) (q : Ob (V b τ) pd n f x B m fh fw fd) {h w : Int} (c1 : 0 ≤ h ∧ h ≤ 3) (c2 : w = -1 ∨ (0 ≤ w ∧ w < n)) {Q : Int → kzM → Prop} (hQ : ∀ τ' fh' fw' fd', FrS b τ τ' → Ob (V b τ') pd n f x B (ckF fh fw h w m.toNat) fh' fw' fd' → (∀ j, 0 ≤ j → j < m → ¬(fh j = h ∧ (w = -1 ∨ fw j = w)) → fh' (ckF fh fw h w j.toNat) = fh j ∧ fw' (ckF fh fw h w j.toNat) = fw j ∧ fd' (ckF fh fw h w j.toNat) = fd j) → Q (m - ckF fh fw h w m.toNat) τ') : Wz (Z11_forget G b h w) τ Q :=
  (sZ11_forget hO 0 h w).wz (V_rl b τ) (c_forget q c1 c2 (Q := fun r τ0' => r = m - ckF fh fw h w m.toNat ∧ ∃ fh' fw' fd', Ob τ0' pd n f x B (ckF fh fw h w m.toNat) fh' fw' fd' ∧ (∀ j, 0 ≤ j → j < m → ¬(fh j = h ∧ (w = -1 ∨ fw j = w)) → fh' (ckF fh fw h w j.toNat) = fh j ∧ fw' (ckF fh fw h w j.toNat) = fw j ∧ fd' (ckF fh fw h w j.toNat) = fd j)) fun τ0' fh' fw' fd' h1 h2 => ⟨rfl, fh', fw', fd', h1, h2⟩) fun r τ0' τ' hh hr hf => by
    obtain ⟨e, fh', fw', fd', h1, h2⟩ := hh
    rw [show id r = _ from e]; exact hQ τ' fh' fw' fd' hf (h1.rl hr) h2
set_option maxRecDepth 100000 in
theorem t_ofWord (hO : okO G b) {w : Int} (hI : Inv (V b τ)) (w0 : 0 ≤ w) (w1 : w < (V b τ).1 337 1) {Q : Int → kzM → Prop} (hQ : ∀ τ', FrS b τ τ' → tabG (V b τ) (V b τ') → Q ((V b τ).1 342 w) τ') : Wz (Z11_ofWord G b w 2) τ Q :=
  (sZ11_ofWord hO 0 w 2).wz (V_rl b τ) (c_ofWord hI w0 w1 (Q := fun r τ0' => r = (V b τ).1 342 w ∧ tabG (V b τ) τ0') ⟨rfl, fun _ _ _ => rfl⟩) fun r τ0' τ' hh hr hf => by
    rw [show id r = _ from hh.1]; exact hQ τ' hf (hh.2.rl hr hf)
set_option maxRecDepth 100000 in
theorem t_slip (hO : okO G b) {w : Int} (hI : Inv (V b τ)) (c1 : 0 ≤ w ∧ w < (V b τ).1 337 1) (c2 : 1 ≤ (V b τ).1 1 1) {Q : Int → kzM → Prop} (hQ : ∀ τ', FrS b τ τ' → tabG (V b τ) (V b τ') → Q (prC (V b τ) w) τ') : Wz (Z11_slip G b w) τ Q :=
  (sZ11_slip hO 0 w).wz (V_rl b τ) (c_slip hI c1 c2 (Q := fun r τ0' => r = prC (V b τ) w ∧ tabG (V b τ) τ0') fun τ0' h => ⟨rfl, h⟩) fun r τ0' τ' hh hr hf => by
    rw [show id r = _ from hh.1]; exact hQ τ' hf (hh.2.rl hr hf)
set_option maxRecDepth 100000 in
theorem t_guess (hO : okO G b) (hI : Inv (V b τ)) (c2 : 1 ≤ (V b τ).1 1 1) {i : Int} {Q : Int → kzM → Prop} (hQ : ∀ τ', FrS b τ τ' → tabG (V b τ) (V b τ') → Q (ansG (gG (prC (V b τ)) (wtC (V b τ) (-1) 0) ((V b τ).1 338) 7 60 ((V b τ).1 337 1).toNat) i) τ') : Wz (Z11_guess G b 7 60 i) τ Q :=
  (sZ11_guess hO 0 7 60 i).wz (V_rl b τ) (c_guess hI c2 (Q := fun r τ0' => r = ansG (gG (prC (V b τ)) (wtC (V b τ) (-1) 0) ((V b τ).1 338) 7 60 ((V b τ).1 337 1).toNat) i ∧ tabG (V b τ) τ0') fun τ0' h => ⟨rfl, h⟩) fun r τ0' τ' hh hr hf => by
    rw [show id r = _ from hh.1]; exact hQ τ' hf (hh.2.rl hr hf)
set_option maxRecDepth 100000 in
theorem t_mine (hO : okO G b) (hI : Inv (V b τ)) (c2 : 1 ≤ (V b τ).1 1 1) {h d i : Int} (c4 : 0 ≤ h ∧ h ≤ 3) (c5 : 0 ≤ d ∧ d ≤ 3000) {Q : Int → kzM → Prop} (hQ : ∀ τ', FrS b τ τ' → tabG (V b τ) (V b τ') → Q (ansG (gG (prC (V b τ)) (wtC (V b τ) h d) ((V b τ).1 338) 7 60 ((V b τ).1 337 1).toNat) i) τ') : Wz (Z11_mine G b h d 7 60 i) τ Q :=
  (sZ11_mine hO 0 h d 7 60 i).wz (V_rl b τ) (c_mine hI c2 c4 c5 (Q := fun r τ0' => r = ansG (gG (prC (V b τ)) (wtC (V b τ) h d) ((V b τ).1 338) 7 60 ((V b τ).1 337 1).toNat) i ∧ tabG (V b τ) τ0') fun τ0' h => ⟨rfl, h⟩) fun r τ0' τ' hh hr hf => by
    rw [show id r = _ from hh.1]; exact hQ τ' hf (hh.2.rl hr hf)
end TRS
