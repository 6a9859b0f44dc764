/-! THE RELATION BETWEEN THE TWO OBJECTS, as it stands between the words of the script -/
def tw_P (M : tu_M) : Prop := (0 ≤ M 9 1 ∧ M 9 1 ≤ 60) ∧ (∀ k : Nat, (k : Int) < M 9 1 → tu_rg (M 10 k)) ∧ M 86 6 = M 9 1 ∧ ∀ k : Nat, (k : Int) < M 9 1 → M 91 k = M 10 k
def tw_sb (M : tu_M) (k : Nat) : Nat → Nat → Int := fun f => M (70 + 8 * k + f)
def tw_L (M : tu_M) : Prop := (∀ k, k < 2 → M 90 k = M 21 k) ∧ ∀ k, k < 2 → M 21 k = 1 → tu_BO (tw_sb M k) ∧ tu_MB (tw_sb M k) (fun j => M 89 (112 * k + j))
def tw_I (M : tu_M) : Prop := (tu_HS M ∧ tu_OK M) ∧ tu_MB (tu_cb M) (M 87) ∧ (tu_IH M (M 88) ∧ M 86 2 = M 0 4) ∧ tw_P M ∧ tw_L M
theorem tw_I.hs {M : tu_M} (h : tw_I M) : tu_HS M := h.1.1
theorem tw_I.ok {M : tu_M} (h : tw_I M) : tu_OK M := h.1.2
theorem tw_I.mb {M : tu_M} (h : tw_I M) : tu_MB (tu_cb M) (M 87) := h.2.1
theorem tw_I.ih {M : tu_M} (h : tw_I M) : tu_IH M (M 88) := h.2.2.1.1
theorem tw_I.e2 {M : tu_M} (h : tw_I M) : M 86 2 = M 0 4 := h.2.2.1.2
theorem tw_I.pd {M : tu_M} (h : tw_I M) : tw_P M := h.2.2.2.1
theorem tw_I.sl {M : tu_M} (h : tw_I M) : tw_L M := h.2.2.2.2
theorem tw_P.of {M M' : tu_M} (h : tw_P M) (e9 : M' 9 1 = M 9 1) (e10 : ∀ k : Nat, (k : Int) < M 9 1 → M' 10 k = M 10 k) (e86 : M' 86 6 = M 86 6) (e91 : ∀ k : Nat, (k : Int) < M 9 1 → M' 91 k = M 91 k) : tw_P M' := by
  refine ⟨by rw [e9]; exact h.1, fun k hk => ?_, by rw [e86, e9]; exact h.2.2.1, fun k hk => ?_⟩
  · rw [e9] at hk; rw [e10 k hk]; exact h.2.1 k hk
  · rw [e9] at hk; rw [e10 k hk, e91 k hk]; exact h.2.2.2 k hk
theorem tw_L.of {M M' : tu_M} (h : tw_L M) (e21 : M' 21 = M 21) (e90 : M' 90 = M 90) (e89 : M' 89 = M 89) (eb : ∀ i, 70 ≤ i → i < 86 → M' i = M i) : tw_L M' := by
  refine ⟨fun k hk => by rw [e90, e21]; exact h.1 k hk, fun k hk h1 => ?_⟩
  rw [e21] at h1
  obtain ⟨g1, g2⟩ := h.2 k hk h1
  have e : ∀ f, f < 8 → tw_sb M' k f = tw_sb M k f := fun f hf => eb _ (by omega) (by omega)
  refine ⟨g1.ext e, ?_⟩
  rw [e89]
  exact g2.ext e
theorem tw_IH_of {M M' : tu_M} {H : Nat → Int} (hi : tu_ip (M 19)) (h6 : M 0 4 ≤ 6) (h : tu_IH M H) (e0 : M' 0 4 = M 0 4) (e19 : M' 19 = M 19) (eb : ∀ i, 22 ≤ i → i < 70 → M' i = M i) : tu_IH M' H := by
  intro i hi9
  rw [e0] at hi9
  obtain ⟨k, hk, ek⟩ := hi.at (show i < 6 by omega)
  have e : ∀ f, f < 8 → tu_hb M' i f = tu_hb M i f := fun f hf => by
    unfold tu_hb
    rw [e19, ek]
    exact eb _ (by omega) (by omega)
  obtain ⟨g1, g2⟩ := h i hi9
  exact ⟨g1.ext e, g2.ext e⟩
theorem tw_HS_of {M M' : tu_M} (h : tu_HS M) (e0 : M' 0 4 = M 0 4) (e19 : M' 19 = M 19) (e20 : M' 20 = M 20) (e21 : M' 21 = M 21) : tu_HS M' := by
  unfold tu_HS
  rw [e0, e19, e20, e21]
  exact h
theorem tw_OK_of {M M' : tu_M} (h : tu_OK M) (e : ∀ f, f < 8 → M' (1 + f) = M (1 + f)) : tu_OK M' := tu_BO.ext h e
/-- a question: what laying leaves counts for nothing -/
theorem tw_q {M M1 M2 : tu_M} (h : tw_I M) (h1 : tu_sc M M1) (h2 : tu_sd M1 M2) : tw_I M2 := by
  have e : ∀ i, i ≠ 86 → (i < 11 ∨ (18 < i ∧ i < 92)) → M2 i = M i := fun i a b => by
    rw [h2.1 i a (by omega), h1 i (by omega)]
  have e2 : M2 86 2 = M 86 2 := by rw [h2.2.1, h1 86 (by decide)]
  have e6 : M2 86 6 = M 86 6 := by rw [h2.2.2, h1 86 (by decide)]
  have e0 : M2 0 = M 0 := e 0 (by decide) (by decide)
  have e19 : M2 19 = M 19 := e 19 (by decide) (by decide)
  have eb : ∀ f, f < 8 → M2 (1 + f) = M (1 + f) := fun f hf => e _ (by omega) (by omega)
  refine ⟨⟨tw_HS_of h.hs (by rw [e0]) e19 (e 20 (by decide) (by decide)) (e 21 (by decide) (by decide)), tw_OK_of h.ok eb⟩, ?_, ⟨?_, by rw [e2, e0]; exact h.e2⟩, h.pd.of (by rw [e 9 (by decide) (by decide)]) (fun k _ => by rw [e 10 (by decide) (by decide)]) e6 (fun k _ => by rw [e 91 (by decide) (by decide)]), h.sl.of (e 21 (by decide) (by decide)) (e 90 (by decide) (by decide)) (e 89 (by decide) (by decide)) (fun i a b => e i (by omega) (by omega))⟩
  · rw [e 87 (by decide) (by decide)]; exact h.mb.ext eb
  · rw [e 88 (by decide) (by decide)]; exact tw_IH_of h.hs.1 h.hs.2.1.2 h.ih (by rw [e0]) e19 (fun i a b => e i (by omega) (by omega))
/-- a change -/
theorem tw_chg0 {M N M2 : tu_M} {B' : Nat → Nat → Int} (h : tw_I M) (hr : tu_rec M N) (hB : tu_BO B') (hS : tu_MB B' (M2 87)) (e0 : M2 0 4 = N 0 4) (e19 : M2 19 = N 19) (eo : ∀ i, 20 ≤ i → i < 86 → M2 i = N i) (eb : ∀ f, f < 8 → M2 (1 + f) = B' f) (e88 : M2 88 = tu_mq (M 88) (M 87) (M 86 2)) (e862 : M2 86 2 = tu_mw (M 86 2)) (e89 : M2 89 = M 89) (e90 : M2 90 = M 90) (hp : tw_P M2) : tw_I M2 := by
  have hh := h.hs
  obtain ⟨r1, r2, r3, r4⟩ := id hr
  have n6 : 0 ≤ N 0 4 ∧ N 0 4 ≤ 6 := by
    rcases r4 with ⟨a, b, -⟩ | ⟨a, b, -⟩
    · omega
    · have := hh.2.1; omega
  have hw : tu_mw (M 0 4) = N 0 4 := by
    unfold tu_mw
    rcases r4 with ⟨a, b, -⟩ | ⟨a, b, -⟩
    · rw [if_pos a, b]
    · rw [if_neg (by omega), b]
  refine ⟨⟨⟨by rw [e19]; exact r3, by rw [e0]; exact n6, ?_, ?_⟩, tu_BO.ext hB eb⟩, hS.ext eb, ⟨?_, by rw [e862, h.e2, hw, e0]⟩, hp, h.sl.of ?_ e90 e89 (fun i a b => ?_)⟩
  · rw [eo 20 (by decide) (by decide), r1 20 (by decide) (by decide) (by decide)]; exact hh.2.2.1
  · rw [eo 21 (by decide) (by decide), r1 21 (by decide) (by decide) (by decide)]; exact hh.2.2.2
  · have g := h.ih.rec h.ok h.mb hr
    rw [e88, h.e2]
    exact tw_IH_of r3 n6.2 g e0 e19 (fun i a b => eo i (by omega) (by omega))
  · rw [eo 21 (by decide) (by decide), r1 21 (by decide) (by decide) (by decide)]
  · rw [eo i (by omega) b, r1 i (by omega) (by omega) (by omega)]
theorem tw_chg {M N M1 M2 : tu_M} {B' : Nat → Nat → Int} {S : Nat → Int} (h : tw_I M) (hr : tu_rec M N) (hB : tu_BO B') (hS : tu_MB B' S) (e1 : ∀ i, (i = 0 ∨ 9 ≤ i) → M1 i = N i) (eb : ∀ f, f < 8 → M1 (1 + f) = B' f) (h2 : M2 = tu_mrec M1 S) : tw_I M2 := by
  have r1 := hr.1
  have em : ∀ i, 70 ≤ i → M1 i = M i := fun i a => by rw [e1 i (by omega), r1 i (by omega) (by omega) (by omega)]
  have eo : ∀ i, i < 86 → M2 i = M1 i := fun i a => by
    rw [h2]; unfold tu_mrec
    rw [tu_row_n _ _ (by omega), tu_row_n _ _ (by omega), tu_row_n _ _ (by omega)]
  have eu : ∀ i, 88 < i → M2 i = M1 i := fun i a => by
    rw [h2]; unfold tu_mrec
    rw [tu_row_n _ _ (by omega), tu_row_n _ _ (by omega), tu_row_n _ _ (by omega)]
  have e86 : M2 86 = tu_u (M 86) 2 (tu_mw (M 86 2)) := by
    rw [h2]; unfold tu_mrec
    rw [tu_row_n _ _ (by decide), tu_row_n _ _ (by decide), tu_row_s, em 86 (by decide)]
  have e87 : M2 87 = S := by
    rw [h2]; unfold tu_mrec
    rw [tu_row_n _ _ (by decide), tu_row_s]
  have e88 : M2 88 = tu_mq (M 88) (M 87) (M 86 2) := by
    rw [h2]; unfold tu_mrec
    rw [tu_row_s, em 86 (by decide), em 87 (by decide), em 88 (by decide)]
  have e9 : M2 9 = M 9 := by rw [eo 9 (by decide), e1 9 (by decide), r1 9 (by decide) (by decide) (by decide)]
  have e10 : M2 10 = M 10 := by rw [eo 10 (by decide), e1 10 (by decide), r1 10 (by decide) (by decide) (by decide)]
  refine tw_chg0 h hr hB (by rw [e87]; exact hS) (by rw [eo 0 (by decide), e1 0 (by decide)]) (by rw [eo 19 (by decide), e1 19 (by decide)]) (fun i a b => by rw [eo i b, e1 i (by omega)]) (fun f hf => by rw [eo _ (by omega)]; exact eb f hf) e88 (by rw [e86, tu_u_s]) (by rw [eu 89 (by decide), em 89 (by decide)]) (by rw [eu 90 (by decide), em 90 (by decide)]) (h.pd.of (by rw [e9]) (fun k _ => by rw [e10]) (by rw [e86, tu_u_n _ _ (by decide)]) (fun k _ => by rw [eu 91 (by decide), em 91 (by decide)]))
/-- nothing has changed -/
theorem tw_same {M M1 M2 : tu_M} (h : tw_I M) (h1 : M1 = M) (h2 : M2 = M1) : tw_I M2 := by
  subst h2; subst h1; exact h
