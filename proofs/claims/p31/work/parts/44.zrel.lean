/-! THE RELATION between the law's rows (86 lines, 87 phrases, 88 ballad, 89 tune, 90 numbers, 91 its own) and the object's book -/
def tz_R (M : tu_M) : Prop := tu_OK M ∧ (M 1 1 ≤ 6 ∧ M 1 4 ≤ 4) ∧ (M 90 4 = M 1 1 ∧ M 90 5 = M 1 4 ∧ M 90 6 = M 1 7 ∧ M 90 7 = M 1 9) ∧ (∀ j : Nat, j < 4 → M 90 j = M 2 j) ∧
  (∀ l : Nat, (l : Int) < M 1 1 → M 3 l ≤ 5 ∧ M 86 (2 * l) = M 3 l ∧ tu_rg (M 86 (2 * l + 1)) ∧ tu_mk (M 86 (2 * l + 1)) (M 3 l).toNat (tu_al (tu_cb M) l)) ∧
  (∀ p : Nat, (p : Int) < M 1 4 → M 5 p ≤ 9 ∧ M 87 (3 * p) = M 5 p ∧ (tu_rg (M 87 (3 * p + 1)) ∧ tu_mk (M 87 (3 * p + 1)) (M 5 p).toNat (tz_k2 (tu_kp (tu_cb M) p))) ∧ (tu_rg (M 87 (3 * p + 2)) ∧ tu_mk (M 87 (3 * p + 2)) (M 5 p).toNat (tz_k1 (tu_kp (tu_cb M) p)))) ∧
  (∀ k : Nat, (k : Int) < M 1 7 → M 88 k = M 7 k) ∧ (∀ k : Nat, (k : Int) < M 1 9 → M 89 k = M 8 k)
theorem tz_R.ok {M : tu_M} (h : tz_R M) : tu_OK M := h.1
theorem tz_R.small {M : tu_M} (h : tz_R M) : M 1 1 ≤ 6 ∧ M 1 4 ≤ 4 := h.2.1
theorem tz_R.q4 {M : tu_M} (h : tz_R M) : M 90 4 = M 1 1 ∧ M 90 5 = M 1 4 ∧ M 90 6 = M 1 7 ∧ M 90 7 = M 1 9 := h.2.2.1
theorem tz_R.qs {M : tu_M} (h : tz_R M) : ∀ j : Nat, j < 4 → M 90 j = M 2 j := h.2.2.2.1
theorem tz_R.li {M : tu_M} (h : tz_R M) : ∀ l : Nat, (l : Int) < M 1 1 → M 3 l ≤ 5 ∧ M 86 (2 * l) = M 3 l ∧ tu_rg (M 86 (2 * l + 1)) ∧ tu_mk (M 86 (2 * l + 1)) (M 3 l).toNat (tu_al (tu_cb M) l) := h.2.2.2.2.1
theorem tz_R.ph {M : tu_M} (h : tz_R M) : ∀ p : Nat, (p : Int) < M 1 4 → M 5 p ≤ 9 ∧ M 87 (3 * p) = M 5 p ∧ (tu_rg (M 87 (3 * p + 1)) ∧ tu_mk (M 87 (3 * p + 1)) (M 5 p).toNat (tz_k2 (tu_kp (tu_cb M) p))) ∧ (tu_rg (M 87 (3 * p + 2)) ∧ tu_mk (M 87 (3 * p + 2)) (M 5 p).toNat (tz_k1 (tu_kp (tu_cb M) p))) := h.2.2.2.2.2.1
theorem tz_R.ba {M : tu_M} (h : tz_R M) : ∀ k : Nat, (k : Int) < M 1 7 → M 88 k = M 7 k := h.2.2.2.2.2.2.1
theorem tz_R.tn {M : tu_M} (h : tz_R M) : ∀ k : Nat, (k : Int) < M 1 9 → M 89 k = M 8 k := h.2.2.2.2.2.2.2
/-- what laying uses for itself, and the law's own row -/
def tz_sc (M N : tu_M) : Prop := ∀ i, (i < 11 ∨ (18 < i ∧ i ≠ 91)) → N i = M i
theorem tz_sc.rf (M : tu_M) : tz_sc M M := fun _ _ => rfl
theorem tz_sc.sc {M N N' : tu_M} (h : tz_sc M N) (h2 : tu_sc N N') : tz_sc M N' := fun i hi => by rw [h2 i (by omega)]; exact h i hi
theorem tz_sc.w {M N : tu_M} (h : tz_sc M N) (f : Nat → Int) : tz_sc M (tu_row N 91 f) := fun i hi => by rw [tu_row_n _ _ (by omega)]; exact h i hi
theorem tz_sc.b {M N : tu_M} (h : tz_sc M N) : ∀ f, f < 8 → tu_cb N f = tu_cb M f := fun f hf => h (1 + f) (by omega)
theorem tu_BO.ext {B B' : Nat → Nat → Int} (h : tu_BO B) (e : ∀ f, f < 8 → B' f = B f) : tu_BO B' := by
  unfold tu_BO
  rw [e 0 (by decide), e 1 (by decide), e 2 (by decide), e 3 (by decide), e 4 (by decide), e 5 (by decide), e 6 (by decide), e 7 (by decide)]
  exact h
theorem tz_OK {M N : tu_M} (h : tz_sc M N) (hO : tu_OK M) : tu_OK N := tu_BO.ext hO h.b
theorem tz_al_q {B B' : Nat → Nat → Int} (e : ∀ f, f < 8 → B' f = B f) : tu_al B' = tu_al B := by
  funext l s; unfold tu_al; rw [e 3 (by decide)]
theorem tz_kp_q {B B' : Nat → Nat → Int} (e : ∀ f, f < 8 → B' f = B f) : tu_kp B' = tu_kp B := by
  funext l s; unfold tu_kp; rw [e 5 (by decide)]
theorem tz_nl_q {B B' : Nat → Nat → Int} (e : ∀ f, f < 8 → B' f = B f) : tu_nl B' = tu_nl B := by
  funext l; unfold tu_nl; rw [e 2 (by decide)]
theorem tz_np_q {B B' : Nat → Nat → Int} (e : ∀ f, f < 8 → B' f = B f) : tu_np B' = tu_np B := by
  funext l; unfold tu_np; rw [e 4 (by decide)]
theorem tz_co_q {B B' : Nat → Nat → Int} (e : ∀ f, f < 8 → B' f = B f) : tu_co B' = tu_co B := by
  funext l p; unfold tu_co; rw [tz_al_q e, tz_kp_q e, tz_nl_q e, tz_np_q e, e 1 (by decide)]
theorem tz_wk_q {B B' : Nat → Nat → Int} (e : ∀ f, f < 8 → B' f = B f) : tu_wk B' = tu_wk B := by
  funext q; unfold tu_wk; rw [tz_co_q e, e 6 (by decide), e 7 (by decide), e 0 (by decide)]
theorem tz_bq_q {B B' : Nat → Nat → Int} (e : ∀ f, f < 8 → B' f = B f) : tu_bq B' = tu_bq B := by
  funext n q
  have h1 : tu_uq B' = tu_uq B := by funext q; unfold tu_uq; rw [tz_co_q e, e 6 (by decide), e 0 (by decide)]
  have h2 : tu_sq2 B' = tu_sq2 B := by funext q; unfold tu_sq2; rw [tz_co_q e, e 6 (by decide), e 0 (by decide)]
  induction q with
  | zero => rfl
  | succ q ih => rw [tu_bq_s, tu_bq_s, ih, h1, h2]
theorem tz_bc_q {B B' : Nat → Nat → Int} (e : ∀ f, f < 8 → B' f = B f) : tu_bc B' = tu_bc B := by
  funext l p s; unfold tu_bc; rw [tz_al_q e, tz_kp_q e, tz_nl_q e, tz_np_q e, e 1 (by decide)]
theorem tz_eb_q {B B' : Nat → Nat → Int} (e : ∀ f, f < 8 → B' f = B f) : tu_eb B' = tu_eb B := by
  funext l p s; unfold tu_eb; rw [tz_al_q e, tz_kp_q e, tz_nl_q e, tz_np_q e, e 1 (by decide)]
theorem tz_TK_q {B B' : Nat → Nat → Int} (e : ∀ f, f < 8 → B' f = B f) : tu_TK B' = tu_TK B := by
  funext l p L a k; unfold tu_TK; rw [tz_al_q e, tz_kp_q e, tz_nl_q e, tz_np_q e, e 1 (by decide)]
theorem tz_FX_q {B B' : Nat → Nat → Int} (e : ∀ f, f < 8 → B' f = B f) : tu_FX B' = tu_FX B := by
  funext l p w y; unfold tu_FX; rw [tz_TK_q e, tz_nl_q e, tz_np_q e]
theorem tz_LX_q {B B' : Nat → Nat → Int} (e : ∀ f, f < 8 → B' f = B f) : tu_LX B' = tu_LX B := by
  funext l p s w y; unfold tu_LX; rw [tz_TK_q e, tz_nl_q e, tz_np_q e]

theorem tz_q_isStressed {M N : tu_M} (hsc : tz_sc M N) {l s y : Int} (h : ((¬ (0 ≤ l ∧ l < N 1 1 ∧ 0 ≤ s ∧ s < N 3 l.toNat)) ∧ y = -1) ∨ ((0 ≤ l ∧ l < N 1 1 ∧ 0 ≤ s ∧ s < N 3 l.toNat) ∧ y = N 4 ((l * 16) + s).toNat)) : ((¬ (0 ≤ l ∧ l < M 1 1 ∧ 0 ≤ s ∧ s < M 3 l.toNat)) ∧ y = -1) ∨ ((0 ≤ l ∧ l < M 1 1 ∧ 0 ≤ s ∧ s < M 3 l.toNat) ∧ y = M 4 ((l * 16) + s).toNat) := by
  rw [hsc 1 (by decide), hsc 3 (by decide), hsc 4 (by decide)] at h
  exact h
theorem tz_q_kindOf {M N : tu_M} (hsc : tz_sc M N) {l s y : Int} (h : ((¬ (0 ≤ l ∧ l < N 1 4 ∧ 0 ≤ s ∧ s < N 5 l.toNat)) ∧ y = -1) ∨ ((0 ≤ l ∧ l < N 1 4 ∧ 0 ≤ s ∧ s < N 5 l.toNat) ∧ y = N 6 ((l * 24) + s).toNat)) : ((¬ (0 ≤ l ∧ l < M 1 4 ∧ 0 ≤ s ∧ s < M 5 l.toNat)) ∧ y = -1) ∨ ((0 ≤ l ∧ l < M 1 4 ∧ 0 ≤ s ∧ s < M 5 l.toNat) ∧ y = M 6 ((l * 24) + s).toNat) := by
  rw [hsc 1 (by decide), hsc 5 (by decide), hsc 6 (by decide)] at h
  exact h
theorem tz_q_phrase {M N : tu_M} (hsc : tz_sc M N) {p w y : Int} (h : ((¬ (0 ≤ p ∧ p < N 1 4)) ∧ y = -1) ∨ (((0 ≤ p ∧ p < N 1 4) ∧ w = 0) ∧ y = N 5 p.toNat) ∨ (((0 ≤ p ∧ p < N 1 4) ∧ w = 1) ∧ y = tu_ti (fun q => N 6 (p.toNat * 24 + q)) 2 (N 5 p.toNat).toNat) ∨ (((0 ≤ p ∧ p < N 1 4) ∧ w = 2) ∧ y = tu_ti (fun q => N 6 (p.toNat * 24 + q)) 1 (N 5 p.toNat).toNat) ∨ (((0 ≤ p ∧ p < N 1 4) ∧ w = 3) ∧ y = tu_ti (fun q => N 6 (p.toNat * 24 + q)) 0 (N 5 p.toNat).toNat) ∨ (((0 ≤ p ∧ p < N 1 4) ∧ w = 4) ∧ y = tu_ti (N 8) p (N 1 9).toNat) ∨ (((0 ≤ p ∧ p < N 1 4) ∧ w = 5) ∧ y = tu_lg (fun q => N 6 (p.toNat * 24 + q)) (N 5 p.toNat).toNat) ∨ (((0 ≤ p ∧ p < N 1 4) ∧ (w < 0 ∨ 5 < w)) ∧ y = -2)) : ((¬ (0 ≤ p ∧ p < M 1 4)) ∧ y = -1) ∨ (((0 ≤ p ∧ p < M 1 4) ∧ w = 0) ∧ y = M 5 p.toNat) ∨ (((0 ≤ p ∧ p < M 1 4) ∧ w = 1) ∧ y = tu_ti (fun q => M 6 (p.toNat * 24 + q)) 2 (M 5 p.toNat).toNat) ∨ (((0 ≤ p ∧ p < M 1 4) ∧ w = 2) ∧ y = tu_ti (fun q => M 6 (p.toNat * 24 + q)) 1 (M 5 p.toNat).toNat) ∨ (((0 ≤ p ∧ p < M 1 4) ∧ w = 3) ∧ y = tu_ti (fun q => M 6 (p.toNat * 24 + q)) 0 (M 5 p.toNat).toNat) ∨ (((0 ≤ p ∧ p < M 1 4) ∧ w = 4) ∧ y = tu_ti (M 8) p (M 1 9).toNat) ∨ (((0 ≤ p ∧ p < M 1 4) ∧ w = 5) ∧ y = tu_lg (fun q => M 6 (p.toNat * 24 + q)) (M 5 p.toNat).toNat) ∨ (((0 ≤ p ∧ p < M 1 4) ∧ (w < 0 ∨ 5 < w)) ∧ y = -2) := by
  rw [hsc 1 (by decide), hsc 5 (by decide), hsc 6 (by decide), hsc 8 (by decide)] at h
  exact h
theorem tz_q_count {M N : tu_M} (hsc : tz_sc M N) {w y : Int} (h : ((w = 0) ∧ y = N 1 1) ∨ ((w = 1) ∧ y = N 1 4) ∨ ((w = 2) ∧ y = N 1 7) ∨ ((w = 3) ∧ y = N 1 9) ∨ ((w = 4) ∧ y = tu_sm (fun l => if 2 ≤ tu_ti (N 7) ((l : Nat) : Int) (N 1 7).toNat then 1 else 0) (N 1 1).toNat) ∨ ((w = 5) ∧ y = N 2 0) ∨ ((w = 6) ∧ y = N 2 1) ∨ ((w = 7) ∧ y = N 2 2) ∨ ((w = 8) ∧ y = N 2 3) ∨ ((w = 9) ∧ y = N 9 1) ∨ ((w = 10) ∧ y = N 0 4) ∨ ((w < 0 ∨ 10 < w) ∧ y = -2)) : ((w = 0) ∧ y = M 1 1) ∨ ((w = 1) ∧ y = M 1 4) ∨ ((w = 2) ∧ y = M 1 7) ∨ ((w = 3) ∧ y = M 1 9) ∨ ((w = 4) ∧ y = tu_sm (fun l => if 2 ≤ tu_ti (M 7) ((l : Nat) : Int) (M 1 7).toNat then 1 else 0) (M 1 1).toNat) ∨ ((w = 5) ∧ y = M 2 0) ∨ ((w = 6) ∧ y = M 2 1) ∨ ((w = 7) ∧ y = M 2 2) ∨ ((w = 8) ∧ y = M 2 3) ∨ ((w = 9) ∧ y = M 9 1) ∨ ((w = 10) ∧ y = M 0 4) ∨ ((w < 0 ∨ 10 < w) ∧ y = -2) := by
  rw [hsc 1 (by decide), hsc 2 (by decide), hsc 7 (by decide), hsc 9 (by decide), hsc 0 (by decide)] at h
  exact h
theorem tz_q_at {M N : tu_M} (hsc : tz_sc M N) {w k y : Int} (h : ((w = 0 ∧ ¬ (0 ≤ k ∧ k < N 1 7)) ∧ y = -1) ∨ ((w = 1 ∧ ¬ (0 ≤ k ∧ k < N 1 9)) ∧ y = -1) ∨ ((w = 0 ∧ 0 ≤ k ∧ k < N 1 7) ∧ y = N 7 k.toNat) ∨ ((w = 1 ∧ 0 ≤ k ∧ k < N 1 9) ∧ y = N 8 k.toNat)) : ((w = 0 ∧ ¬ (0 ≤ k ∧ k < M 1 7)) ∧ y = -1) ∨ ((w = 1 ∧ ¬ (0 ≤ k ∧ k < M 1 9)) ∧ y = -1) ∨ ((w = 0 ∧ 0 ≤ k ∧ k < M 1 7) ∧ y = M 7 k.toNat) ∨ ((w = 1 ∧ 0 ≤ k ∧ k < M 1 9) ∧ y = M 8 k.toNat) := by
  rw [hsc 1 (by decide), hsc 7 (by decide), hsc 8 (by decide)] at h
  exact h
theorem tz_q_line {M N : tu_M} (hsc : tz_sc M N) {l w y : Int} (h : ((¬ (0 ≤ l ∧ l < N 1 1)) ∧ y = -1) ∨ (((0 ≤ l ∧ l < N 1 1) ∧ w = 0) ∧ y = N 3 l.toNat) ∨ (((0 ≤ l ∧ l < N 1 1) ∧ w = 1) ∧ y = tu_sm (fun q => N 4 (l.toNat * 16 + q)) (N 3 l.toNat).toNat) ∨ (((0 ≤ l ∧ l < N 1 1) ∧ w = 2) ∧ y = tu_ti (N 7) l (N 1 7).toNat) ∨ (((0 ≤ l ∧ l < N 1 1) ∧ w = 3 ∧ 2 ≤ tu_ti (N 7) l (N 1 7).toNat) ∧ y = 1) ∨ (((0 ≤ l ∧ l < N 1 1) ∧ w = 3 ∧ tu_ti (N 7) l (N 1 7).toNat < 2) ∧ y = 0) ∨ (((0 ≤ l ∧ l < N 1 1) ∧ w = 4) ∧ y = (tu_bp 1000000 (fun p => tu_co (tu_cb N) l.toNat p) (N 1 4).toNat).1) ∨ (((0 ≤ l ∧ l < N 1 1) ∧ (w < 0 ∨ 4 < w)) ∧ y = -2)) : ((¬ (0 ≤ l ∧ l < M 1 1)) ∧ y = -1) ∨ (((0 ≤ l ∧ l < M 1 1) ∧ w = 0) ∧ y = M 3 l.toNat) ∨ (((0 ≤ l ∧ l < M 1 1) ∧ w = 1) ∧ y = tu_sm (fun q => M 4 (l.toNat * 16 + q)) (M 3 l.toNat).toNat) ∨ (((0 ≤ l ∧ l < M 1 1) ∧ w = 2) ∧ y = tu_ti (M 7) l (M 1 7).toNat) ∨ (((0 ≤ l ∧ l < M 1 1) ∧ w = 3 ∧ 2 ≤ tu_ti (M 7) l (M 1 7).toNat) ∧ y = 1) ∨ (((0 ≤ l ∧ l < M 1 1) ∧ w = 3 ∧ tu_ti (M 7) l (M 1 7).toNat < 2) ∧ y = 0) ∨ (((0 ≤ l ∧ l < M 1 1) ∧ w = 4) ∧ y = (tu_bp 1000000 (fun p => tu_co (tu_cb M) l.toNat p) (M 1 4).toNat).1) ∨ (((0 ≤ l ∧ l < M 1 1) ∧ (w < 0 ∨ 4 < w)) ∧ y = -2) := by
  rw [tz_co_q hsc.b, hsc 1 (by decide), hsc 3 (by decide), hsc 4 (by decide), hsc 7 (by decide)] at h
  exact h
theorem tz_q_fit {M N : tu_M} (hsc : tz_sc M N) {l p w y : Int} (h : ((¬ ((0 ≤ l ∧ l < N 1 1) ∧ 0 ≤ p ∧ p < N 1 4)) ∧ y = -1) ∨ ((((0 ≤ l ∧ l < N 1 1) ∧ 0 ≤ p ∧ p < N 1 4) ∧ ¬ (0 ≤ w ∧ w ≤ 4)) ∧ y = -2) ∨ ((((0 ≤ l ∧ l < N 1 1) ∧ 0 ≤ p ∧ p < N 1 4) ∧ 0 ≤ w ∧ w ≤ 4) ∧ tu_FX (tu_cb N) l.toNat p.toNat w y)) : ((¬ ((0 ≤ l ∧ l < M 1 1) ∧ 0 ≤ p ∧ p < M 1 4)) ∧ y = -1) ∨ ((((0 ≤ l ∧ l < M 1 1) ∧ 0 ≤ p ∧ p < M 1 4) ∧ ¬ (0 ≤ w ∧ w ≤ 4)) ∧ y = -2) ∨ ((((0 ≤ l ∧ l < M 1 1) ∧ 0 ≤ p ∧ p < M 1 4) ∧ 0 ≤ w ∧ w ≤ 4) ∧ tu_FX (tu_cb M) l.toNat p.toNat w y) := by
  rw [tz_FX_q hsc.b, hsc 1 (by decide)] at h
  exact h
theorem tz_q_lies {M N : tu_M} (hsc : tz_sc M N) {l p s w y : Int} (h : ((¬ (((0 ≤ l ∧ l < N 1 1) ∧ 0 ≤ s ∧ s < N 3 l.toNat) ∧ 0 ≤ p ∧ p < N 1 4)) ∧ y = -1) ∨ (((((0 ≤ l ∧ l < N 1 1) ∧ 0 ≤ s ∧ s < N 3 l.toNat) ∧ 0 ≤ p ∧ p < N 1 4) ∧ ¬ (0 ≤ w ∧ w ≤ 1)) ∧ y = -2) ∨ (((((0 ≤ l ∧ l < N 1 1) ∧ 0 ≤ s ∧ s < N 3 l.toNat) ∧ 0 ≤ p ∧ p < N 1 4) ∧ 0 ≤ w ∧ w ≤ 1) ∧ tu_LX (tu_cb N) l.toNat p.toNat s.toNat w y)) : ((¬ (((0 ≤ l ∧ l < M 1 1) ∧ 0 ≤ s ∧ s < M 3 l.toNat) ∧ 0 ≤ p ∧ p < M 1 4)) ∧ y = -1) ∨ (((((0 ≤ l ∧ l < M 1 1) ∧ 0 ≤ s ∧ s < M 3 l.toNat) ∧ 0 ≤ p ∧ p < M 1 4) ∧ ¬ (0 ≤ w ∧ w ≤ 1)) ∧ y = -2) ∨ (((((0 ≤ l ∧ l < M 1 1) ∧ 0 ≤ s ∧ s < M 3 l.toNat) ∧ 0 ≤ p ∧ p < M 1 4) ∧ 0 ≤ w ∧ w ≤ 1) ∧ tu_LX (tu_cb M) l.toNat p.toNat s.toNat w y) := by
  rw [tz_LX_q hsc.b, hsc 1 (by decide), hsc 3 (by decide)] at h
  exact h
theorem tz_q_whole {M N : tu_M} (hsc : tz_sc M N) {w y : Int} (h : ((¬ (0 ≤ w ∧ w ≤ 3)) ∧ y = -2) ∨ (((0 ≤ w ∧ w ≤ 3) ∧ N 1 9 < 1) ∧ y = -5) ∨ ((w = 0 ∧ 1 ≤ N 1 9) ∧ y = tu_sm (fun x9 => if tu_wk (tu_cb N) x9 < 1000000 then tu_wk (tu_cb N) x9 else 0) (N 1 7).toNat) ∨ ((w = 1 ∧ 1 ≤ N 1 9) ∧ y = tu_sm (fun x9 => if tu_wk (tu_cb N) x9 < 1000000 then 0 else 1) (N 1 7).toNat) ∨ ((w = 2 ∧ 1 ≤ N 1 9) ∧ y = (tu_gp (fun x9 => tu_wk (tu_cb N) x9) (N 1 7).toNat).2) ∨ ((w = 3 ∧ 1 ≤ N 1 9) ∧ y = tu_sm (fun x9 => N 5 (N 8 (x9 % (N 1 9).toNat)).toNat) (N 1 7).toNat)) : ((¬ (0 ≤ w ∧ w ≤ 3)) ∧ y = -2) ∨ (((0 ≤ w ∧ w ≤ 3) ∧ M 1 9 < 1) ∧ y = -5) ∨ ((w = 0 ∧ 1 ≤ M 1 9) ∧ y = tu_sm (fun x9 => if tu_wk (tu_cb M) x9 < 1000000 then tu_wk (tu_cb M) x9 else 0) (M 1 7).toNat) ∨ ((w = 1 ∧ 1 ≤ M 1 9) ∧ y = tu_sm (fun x9 => if tu_wk (tu_cb M) x9 < 1000000 then 0 else 1) (M 1 7).toNat) ∨ ((w = 2 ∧ 1 ≤ M 1 9) ∧ y = (tu_gp (fun x9 => tu_wk (tu_cb M) x9) (M 1 7).toNat).2) ∨ ((w = 3 ∧ 1 ≤ M 1 9) ∧ y = tu_sm (fun x9 => M 5 (M 8 (x9 % (M 1 9).toNat)).toNat) (M 1 7).toNat) := by
  rw [tz_wk_q hsc.b, hsc 1 (by decide), hsc 5 (by decide), hsc 8 (by decide)] at h
  exact h
theorem tz_q_bestPhrase {M N : tu_M} (hsc : tz_sc M N) { y : Int} (h : y = (tu_bq (tu_cb N) (N 1 1).toNat (N 1 4).toNat).1) : y = (tu_bq (tu_cb M) (M 1 1).toNat (M 1 4).toNat).1 := by
  rw [tz_bq_q hsc.b, hsc 1 (by decide)] at h
  exact h
theorem tz_q_bestChange {M N : tu_M} (hsc : tz_sc M N) {l p w y : Int} (h : ((¬ ((0 ≤ l ∧ l < N 1 1) ∧ 0 ≤ p ∧ p < N 1 4)) ∧ y = -1) ∨ ((((0 ≤ l ∧ l < N 1 1) ∧ 0 ≤ p ∧ p < N 1 4) ∧ ¬ (0 ≤ w ∧ w ≤ 1)) ∧ y = -2) ∨ ((((0 ≤ l ∧ l < N 1 1) ∧ 0 ≤ p ∧ p < N 1 4) ∧ 0 ≤ w ∧ w ≤ 1) ∧ y = if w = 0 ∨ (tu_bp 1000000 (fun x9 => tu_bc (tu_cb N) l.toNat p.toNat x9) (N 3 l.toNat).toNat).1 = -6 then (tu_bp 1000000 (fun x9 => tu_bc (tu_cb N) l.toNat p.toNat x9) (N 3 l.toNat).toNat).1 else (tu_bp 1000000 (fun x9 => tu_bc (tu_cb N) l.toNat p.toNat x9) (N 3 l.toNat).toNat).2)) : ((¬ ((0 ≤ l ∧ l < M 1 1) ∧ 0 ≤ p ∧ p < M 1 4)) ∧ y = -1) ∨ ((((0 ≤ l ∧ l < M 1 1) ∧ 0 ≤ p ∧ p < M 1 4) ∧ ¬ (0 ≤ w ∧ w ≤ 1)) ∧ y = -2) ∨ ((((0 ≤ l ∧ l < M 1 1) ∧ 0 ≤ p ∧ p < M 1 4) ∧ 0 ≤ w ∧ w ≤ 1) ∧ y = if w = 0 ∨ (tu_bp 1000000 (fun x9 => tu_bc (tu_cb M) l.toNat p.toNat x9) (M 3 l.toNat).toNat).1 = -6 then (tu_bp 1000000 (fun x9 => tu_bc (tu_cb M) l.toNat p.toNat x9) (M 3 l.toNat).toNat).1 else (tu_bp 1000000 (fun x9 => tu_bc (tu_cb M) l.toNat p.toNat x9) (M 3 l.toNat).toNat).2) := by
  rw [tz_bc_q hsc.b, hsc 1 (by decide), hsc 3 (by decide)] at h
  exact h
theorem tz_q_enoughBreath {M N : tu_M} (hsc : tz_sc M N) {l p y : Int} (h : ((¬ ((0 ≤ l ∧ l < N 1 1) ∧ 0 ≤ p ∧ p < N 1 4)) ∧ y = -1) ∨ (((0 ≤ l ∧ l < N 1 1) ∧ 0 ≤ p ∧ p < N 1 4) ∧ y = tu_b1' 1000000 (fun x9 => tu_eb (tu_cb N) l.toNat p.toNat x9) 8)) : ((¬ ((0 ≤ l ∧ l < M 1 1) ∧ 0 ≤ p ∧ p < M 1 4)) ∧ y = -1) ∨ (((0 ≤ l ∧ l < M 1 1) ∧ 0 ≤ p ∧ p < M 1 4) ∧ y = tu_b1' 1000000 (fun x9 => tu_eb (tu_cb M) l.toNat p.toNat x9) 8) := by
  rw [tz_eb_q hsc.b, hsc 1 (by decide)] at h
  exact h
/-- a line and a phrase that there are -/
theorem tz_R.lp {M : tu_M} (h : tz_R M) {l p : Nat} (hl : (l : Int) < M 1 1) (hp : (p : Int) < M 1 4) : tz_ok (tu_cb M) l p := ⟨h.ok, hl, hp, (h.li l hl).1, (h.ph p hp).1⟩
theorem tz_R.nl {M : tu_M} (h : tz_R M) {l : Nat} (hl : (l : Int) < M 1 1) : M 3 l = ((tu_nl (tu_cb M) l : Nat) : Int) ∧ 1 ≤ tu_nl (tu_cb M) l ∧ tu_nl (tu_cb M) l ≤ 5 := by
  have h1 := h.ok.syl l hl
  have h2 := (h.li l hl).1
  have e : tu_nl (tu_cb M) l = (M 3 l).toNat := rfl
  omega
theorem tz_R.np {M : tu_M} (h : tz_R M) {p : Nat} (hp : (p : Int) < M 1 4) : M 5 p = ((tu_np (tu_cb M) p : Nat) : Int) ∧ 1 ≤ tu_np (tu_cb M) p ∧ tu_np (tu_cb M) p ≤ 9 := by
  have h1 := h.ok.bts p hp
  have h2 := (h.ph p hp).1
  have e : tu_np (tu_cb M) p = (M 5 p).toNat := rfl
  omega
/-- what lay wants -/
theorem tz_lay {M N : tu_M} (h : tz_R M) (hsc : tz_sc M N) {l p : Nat} (hl : (l : Int) < M 1 1) (hp : (p : Int) < M 1 4) :
    (1 ≤ tu_nl (tu_cb M) l ∧ tu_nl (tu_cb M) l ≤ 5) ∧ (1 ≤ (M 2 0).toNat ∧ (M 2 0).toNat ≤ 8) ∧ p < 4 ∧ (1 ≤ tu_np (tu_cb M) p ∧ tu_np (tu_cb M) p ≤ 9) ∧ N 87 (3 * p) = ((tu_np (tu_cb M) p : Nat) : Int) ∧ tu_mk (M 86 (2 * l + 1)) (tu_nl (tu_cb M) l) (tu_al (tu_cb M) l) ∧ tu_mk (N 87 (3 * p + 1)) (tu_np (tu_cb M) p) (tz_k2 (tu_kp (tu_cb M) p)) ∧ tu_mk (N 87 (3 * p + 2)) (tu_np (tu_cb M) p) (tz_k1 (tu_kp (tu_cb M) p)) ∧
    (∀ b, b < tu_np (tu_cb M) p → 0 ≤ tu_kp (tu_cb M) p b ∧ tu_kp (tu_cb M) p b ≤ 2) ∧ (tu_cb M 1 0 = (((M 2 0).toNat : Nat) : Int) ∧ tu_cb M 1 1 = N 90 1 ∧ tu_cb M 1 2 = N 90 2 ∧ tu_cb M 1 3 = N 90 3) ∧ ((0 ≤ tu_cb M 1 1 ∧ tu_cb M 1 1 ≤ 9) ∧ (0 ≤ tu_cb M 1 2 ∧ tu_cb M 1 2 ≤ 9) ∧ (0 ≤ tu_cb M 1 3 ∧ tu_cb M 1 3 ≤ 20)) := by
  have g := (h.lp hl hp).g
  have s := h.ok.set
  have e90 := hsc 90 (by decide)
  have e87 := hsc 87 (by decide)
  have hn := h.nl hl
  have hm := h.np hp
  have hs := h.small
  have p1 := h.ph p hp
  have l1 := h.li l hl
  rw [e87, e90]
  refine ⟨hn.2, by omega, by omega, hm.2, by rw [p1.2.1]; exact hm.1, l1.2.2.2, p1.2.2.1.2, p1.2.2.2.2, g.2.2.2.2.2.2.1, ⟨?_, ?_, ?_, ?_⟩, ⟨s.2.1, s.2.2.1, s.2.2.2⟩⟩
  · show M 2 0 = _; omega
  · exact (h.qs 1 (by decide)).symm
  · exact (h.qs 2 (by decide)).symm
  · exact (h.qs 3 (by decide)).symm
/-- how often a line is sung -/
theorem tz_ti_q {f g : Nat → Int} {x : Int} : ∀ {n : Nat}, (∀ k, k < n → f k = g k) → tu_ti f x n = tu_ti g x n
  | 0, _ => rfl
  | n + 1, h => by
    unfold tu_ti
    rw [tz_ti_q (fun k hk => h k (by omega)), h n (Nat.lt_succ_self n)]
theorem tz_sung {M N : tu_M} (h : tz_R M) (hsc : tz_sc M N) (x : Int) : tu_ti (N 88) x (N 90 6).toNat = tu_ti (M 7) x (M 1 7).toNat := by
  rw [hsc 88 (by decide), hsc 90 (by decide), h.q4.2.2.1]
  exact tz_ti_q (fun k hk => h.ba k (by omega))
/-- ones counted -/
theorem tz_sm_ti {f : Nat → Int} : ∀ {n : Nat}, (∀ k, k < n → f k = 0 ∨ f k = 1) → tu_sm f n = tu_ti f 1 n
  | 0, _ => rfl
  | n + 1, h => by
    unfold tu_sm tu_ti
    rw [tz_sm_ti (fun k hk => h k (by omega))]
    rcases h n (Nat.lt_succ_self n) with q | q <;> rw [q] <;> rfl
theorem tz_ti_k2 (k : Nat → Int) : ∀ n, tu_ti (tz_k2 k) 1 n = tu_ti k 2 n
  | 0 => rfl
  | n + 1 => by
    unfold tu_ti
    rw [tz_ti_k2 k n]
    unfold tz_k2
    by_cases q : k n = 2
    · rw [if_pos q]; rfl
    · rw [if_neg q]; rfl
theorem tz_ti_k1 (k : Nat → Int) : ∀ n, tu_ti (tz_k1 k) 1 n = tu_ti k 1 n
  | 0 => rfl
  | n + 1 => by
    unfold tu_ti
    rw [tz_ti_k1 k n]
    unfold tz_k1
    by_cases q : k n = 1
    · rw [if_pos q]; rfl
    · rw [if_neg q]; rfl
theorem tz_ti_3 {k : Nat → Int} : ∀ {n : Nat}, (∀ b, b < n → 0 ≤ k b ∧ k b ≤ 2) → tu_ti k 0 n = ((n : Nat) : Int) - tu_ti k 2 n - tu_ti k 1 n
  | 0, _ => rfl
  | n + 1, h => by
    have ih := tz_ti_3 (k := k) (n := n) (fun b hb => h b (by omega))
    have g := h n (Nat.lt_succ_self n)
    unfold tu_ti
    rcases (show k n = 0 ∨ k n = 1 ∨ k n = 2 by omega) with q | q | q <;> rw [q] <;> simp <;> omega
/-- the best of several so far, as the law keeps it -/
def tz_bs (f : Nat → Int) (n : Nat) (bs ls : Int) : Prop := bs = (tu_bp 1000000 f n).1 ∧ ((bs = -6 ∧ (tu_bp 1000000 f n).2 = 1000000) ∨ ((0 ≤ bs ∧ bs ≤ n) ∧ ls = (tu_bp 1000000 f n).2 ∧ 0 ≤ ls ∧ ls < 1000000))
theorem tz_bs_0 (f : Nat → Int) (ls : Int) : tz_bs f 0 (-6) ls := ⟨rfl, Or.inl ⟨rfl, rfl⟩⟩
theorem tz_bs_hit {f : Nat → Int} {n : Nat} {bs ls x : Int} (h : tz_bs f n bs ls) (hx : x = f n) (h1 : 0 ≤ f n ∧ f n < 1000000) (h2 : bs < 0 ∨ f n < ls) : tz_bs f (n + 1) ((n : Nat) : Int) x := by
  obtain ⟨g1, g2⟩ := h
  have e : tu_bp 1000000 f (n + 1) = ((n : Int), f n) := if_pos (by omega)
  exact ⟨by rw [e], Or.inr ⟨by omega, by rw [e]; exact hx, by omega, by omega⟩⟩
theorem tz_bs_miss {f : Nat → Int} {n : Nat} {bs ls : Int} (h : tz_bs f n bs ls) (h2 : f n = 1000000 ∨ (0 ≤ bs ∧ ls ≤ f n)) : tz_bs f (n + 1) bs ls := by
  obtain ⟨g1, g2⟩ := h
  have e : tu_bp 1000000 f (n + 1) = tu_bp 1000000 f n := if_neg (by omega)
  refine ⟨by rw [e]; exact g1, ?_⟩
  rw [e]
  rcases g2 with g2 | g2
  · exact Or.inl g2
  · exact Or.inr ⟨by omega, g2.2⟩
/-- what lay leaves is in reach -/
theorem tz_W.rg {B : Nat → Nat → Int} {l p : Nat} {w : Nat → Int} (h : tz_W B l p w) (g : tz_ok B l p) : ∀ t, t < 5 → -2147483648 ≤ w t ∧ w t ≤ 2147483647 := by
  obtain ⟨L, a, k, r, c, hK, hTK, hT⟩ := tu_exB g.1 g.2.1 g.2.2.1
  have g9 := g.g.2.1
  have gn := g.g.1
  have hz := tz_Z_q (L' := B 1) (a' := tu_al B l) (k' := tu_kp B p) hK hTK.1.1 hTK.1.2.1 hTK.1.2.2.1 hTK.1.2.2.2 hTK.2.1 hTK.2.2
  have hm := tz_main hK hT g9.2 (tu_nl B l) 0 (Nat.zero_add _) (tu_np B p) 0 (Nat.zero_add _) (fun _ => 0) ⟨Int.le_refl _, Int.le_refl _⟩
  rw [hz] at hm
  have hp := tz_pow (Nat.le_refl _) g9.2
  obtain ⟨h1, h2, h3⟩ := h
  obtain ⟨m1, m2, m3, m4⟩ := hm
  have a1 : ∀ F : Nat → Nat, 0 ≤ tz_hs (tu_al B l) (tu_kp B p) (tu_nl B l) F ∧ tz_hs (tu_al B l) (tu_kp B p) (tu_nl B l) F ≤ 1 * ((tu_nl B l : Nat) : Int) := fun F => tu_sm_bd (fun q _ => by split <;> omega)
  have hc := h3
  have w34 : (-1000 ≤ w 3 ∧ w 3 ≤ 1000) ∧ (-1000 ≤ w 4 ∧ w 4 ≤ 1000) := by
    rcases h3 with ⟨-, -, q3, q4⟩ | ⟨-, -, q3, q4, -⟩
    · omega
    · rw [q3, q4]
      have a2 := a1 (tz_Z (B 1) (tu_al B l) (tu_kp B p) (tu_nl B l) (tu_np B p)).2.2.2
      have a3 : 0 ≤ tu_sm (fun q => if tu_kp B p q = 0 then 0 else 1) (tu_np B p) ∧ tu_sm (fun q => if tu_kp B p q = 0 then 0 else 1) (tu_np B p) ≤ 1 * ((tu_np B p : Nat) : Int) := tu_sm_bd (fun q _ => by split <;> omega)
      have a4 : 0 ≤ tu_sm (fun t => (((tz_Z (B 1) (tu_al B l) (tu_kp B p) (tu_nl B l) (tu_np B p)).2.2.2 t % 8 + 1 : Nat) : Int)) (tu_nl B l) ∧ tu_sm (fun t => (((tz_Z (B 1) (tu_al B l) (tu_kp B p) (tu_nl B l) (tu_np B p)).2.2.2 t % 8 + 1 : Nat) : Int)) (tu_nl B l) ≤ 8 * ((tu_nl B l : Nat) : Int) := tu_sm_bd (fun q _ => by omega)
      unfold tz_fr
      omega
  intro t ht
  rcases (show t = 0 ∨ t = 1 ∨ t = 2 ∨ t = 3 ∨ t = 4 by omega) with e | e | e | e | e <;> subst e
  · rcases h3 with ⟨q1, q2, -⟩ | ⟨q1, q2, -⟩ <;> omega
  all_goals omega

