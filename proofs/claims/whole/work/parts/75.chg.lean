theorem tf_set {M M1 : tu_M} {a w : Int} {z1 : Int} (h1 : tp_set M a w z1 M1) : ∀ i, 86 ≤ i → M1 i = M i := by
  unfold tp_set at h1
  obtain ⟨y1, h1, -⟩ := h1
  intro i hi
  rcases h1 with ⟨-, e1, -⟩ | ⟨-, N, hr, e1, -⟩
  · rw [e1]
  · rw [e1]
    repeat rw [tu_row_n _ _ (by omega)]
    exact hr.1 i (by omega) (by omega) (by omega)
theorem tw_set {M M1 M2 : tu_M} {a w : Int} {z1 z2 : Int} (h : tw_I M) (h1 : tp_set M a w z1 M1) (h2 : tq_set M M1 a w z2 M2) : z1 = z2 ∧ tw_I M2 := by
  have H : tu_BO (tu_cb M) := h.ok
  unfold tp_set at h1
  unfold tq_set at h2
  obtain ⟨y1, h1, rfl⟩ := h1
  obtain ⟨y2, h2, rfl⟩ := h2
  rcases h1 with ⟨c1, e1, e2⟩ | ⟨c1, N, hr, e1, e2⟩
  · rcases h2 with ⟨c2, g1, g2⟩ | ⟨c2, S, hS, g1, g2⟩
    · exact ⟨by omega, tw_same h e1 g1⟩
    · exfalso; omega
  · rcases h2 with ⟨c2, g1, g2⟩ | ⟨c2, S, hS, g1, g2⟩
    · exfalso; omega
    · refine ⟨e2.trans g2.symm, tw_chg h hr (H.kset (a := a.toNat) (by omega) c1.2.2.1 c1.2.2.2) hS (fun i hi => by rw [e1]; repeat rw [tu_row_n _ _ (by omega)]) (fun f hf => ?_) g1⟩
      rw [e1]
      rcases (show f = 0 ∨ f = 1 ∨ f = 2 ∨ f = 3 ∨ f = 4 ∨ f = 5 ∨ f = 6 ∨ f = 7 by omega) with rfl | rfl | rfl | rfl | rfl | rfl | rfl | rfl
      · exact hr.1 1 (by decide) (by decide) (by decide)
      · rfl
      · exact hr.1 3 (by decide) (by decide) (by decide)
      · exact hr.1 4 (by decide) (by decide) (by decide)
      · exact hr.1 5 (by decide) (by decide) (by decide)
      · exact hr.1 6 (by decide) (by decide) (by decide)
      · exact hr.1 7 (by decide) (by decide) (by decide)
      · exact hr.1 8 (by decide) (by decide) (by decide)
theorem tf_stress {M M1 : tu_M} {l s w : Int} {z1 : Int} (h1 : tp_stress M l s w z1 M1) : ∀ i, 86 ≤ i → M1 i = M i := by
  unfold tp_stress at h1
  obtain ⟨y1, h1, -⟩ := h1
  intro i hi
  rcases h1 with ⟨-, e1, -⟩ | ⟨-, N, hr, e1, -⟩
  · rw [e1]
  · rw [e1]
    repeat rw [tu_row_n _ _ (by omega)]
    exact hr.1 i (by omega) (by omega) (by omega)
theorem tw_stress {M M1 M2 : tu_M} {l s w : Int} {z1 z2 : Int} (hw : w = 0 ∨ w = 1) (h : tw_I M) (h1 : tp_stress M l s w z1 M1) (h2 : tq_stress M M1 l s w z2 M2) : z1 = z2 ∧ tw_I M2 := by
  have H : tu_BO (tu_cb M) := h.ok
  unfold tp_stress at h1
  unfold tq_stress at h2
  obtain ⟨y1, h1, rfl⟩ := h1
  obtain ⟨y2, h2, rfl⟩ := h2
  rcases h1 with ⟨c1, e1, e2⟩ | ⟨c1, N, hr, e1, e2⟩
  · rcases h2 with ⟨c2, g1, g2⟩ | ⟨c2, S, hS, g1, g2⟩
    · exact ⟨by omega, tw_same h e1 g1⟩
    · exfalso; omega
  · rcases h2 with ⟨c2, g1, g2⟩ | ⟨c2, S, hS, g1, g2⟩
    · exfalso; omega
    · refine ⟨e2.trans g2.symm, tw_chg h hr (H.kstress hw) hS (fun i hi => by rw [e1]; repeat rw [tu_row_n _ _ (by omega)]) (fun f hf => ?_) g1⟩
      rw [e1]
      rcases (show f = 0 ∨ f = 1 ∨ f = 2 ∨ f = 3 ∨ f = 4 ∨ f = 5 ∨ f = 6 ∨ f = 7 by omega) with rfl | rfl | rfl | rfl | rfl | rfl | rfl | rfl
      · exact hr.1 1 (by decide) (by decide) (by decide)
      · exact hr.1 2 (by decide) (by decide) (by decide)
      · exact hr.1 3 (by decide) (by decide) (by decide)
      · rfl
      · exact hr.1 5 (by decide) (by decide) (by decide)
      · exact hr.1 6 (by decide) (by decide) (by decide)
      · exact hr.1 7 (by decide) (by decide) (by decide)
      · exact hr.1 8 (by decide) (by decide) (by decide)
theorem tf_beat {M M1 : tu_M} {l s w : Int} {z1 : Int} (h1 : tp_beat M l s w z1 M1) : ∀ i, 86 ≤ i → M1 i = M i := by
  unfold tp_beat at h1
  obtain ⟨y1, h1, -⟩ := h1
  intro i hi
  rcases h1 with ⟨-, e1, -⟩ | ⟨-, e1, -⟩ | ⟨-, N, hr, e1, -⟩
  · rw [e1]
  · rw [e1]
  · rw [e1]
    repeat rw [tu_row_n _ _ (by omega)]
    exact hr.1 i (by omega) (by omega) (by omega)
theorem tw_beat {M M1 M2 : tu_M} {l s w : Int} {z1 z2 : Int} (h : tw_I M) (h1 : tp_beat M l s w z1 M1) (h2 : tq_beat M M1 l s w z2 M2) : z1 = z2 ∧ tw_I M2 := by
  have H : tu_BO (tu_cb M) := h.ok
  unfold tp_beat at h1
  unfold tq_beat at h2
  obtain ⟨y1, h1, rfl⟩ := h1
  obtain ⟨y2, h2, rfl⟩ := h2
  rcases h1 with ⟨c1, e1, e2⟩ | ⟨c1, e1, e2⟩ | ⟨c1, N, hr, e1, e2⟩
  · rcases h2 with ⟨c2, g1, g2⟩ | ⟨c2, g1, g2⟩ | ⟨c2, S, hS, g1, g2⟩
    · exact ⟨by omega, tw_same h e1 g1⟩
    · exfalso; omega
    · exfalso; omega
  · rcases h2 with ⟨c2, g1, g2⟩ | ⟨c2, g1, g2⟩ | ⟨c2, S, hS, g1, g2⟩
    · exfalso; omega
    · exact ⟨by omega, tw_same h e1 g1⟩
    · exfalso; omega
  · rcases h2 with ⟨c2, g1, g2⟩ | ⟨c2, g1, g2⟩ | ⟨c2, S, hS, g1, g2⟩
    · exfalso; omega
    · exfalso; omega
    · refine ⟨e2.trans g2.symm, tw_chg h hr (H.kbeat c1.2.2.2.2) hS (fun i hi => by rw [e1]; repeat rw [tu_row_n _ _ (by omega)]) (fun f hf => ?_) g1⟩
      rw [e1]
      rcases (show f = 0 ∨ f = 1 ∨ f = 2 ∨ f = 3 ∨ f = 4 ∨ f = 5 ∨ f = 6 ∨ f = 7 by omega) with rfl | rfl | rfl | rfl | rfl | rfl | rfl | rfl
      · exact hr.1 1 (by decide) (by decide) (by decide)
      · exact hr.1 2 (by decide) (by decide) (by decide)
      · exact hr.1 3 (by decide) (by decide) (by decide)
      · exact hr.1 4 (by decide) (by decide) (by decide)
      · exact hr.1 5 (by decide) (by decide) (by decide)
      · rfl
      · exact hr.1 7 (by decide) (by decide) (by decide)
      · exact hr.1 8 (by decide) (by decide) (by decide)
theorem tf_sing {M M1 : tu_M} {l : Int} {z1 : Int} (h1 : tp_sing M l z1 M1) : ∀ i, 86 ≤ i → M1 i = M i := by
  unfold tp_sing at h1
  obtain ⟨y1, h1, -⟩ := h1
  intro i hi
  rcases h1 with ⟨-, e1, -⟩ | ⟨-, e1, -⟩ | ⟨-, N, hr, e1, -⟩
  · rw [e1]
  · rw [e1]
  · rw [e1]
    repeat rw [tu_row_n _ _ (by omega)]
    exact hr.1 i (by omega) (by omega) (by omega)
theorem tw_sing {M M1 M2 : tu_M} {l : Int} {z1 z2 : Int} (h : tw_I M) (h1 : tp_sing M l z1 M1) (h2 : tq_sing M M1 l z2 M2) : z1 = z2 ∧ tw_I M2 := by
  have H : tu_BO (tu_cb M) := h.ok
  unfold tp_sing at h1
  unfold tq_sing at h2
  obtain ⟨y1, h1, rfl⟩ := h1
  obtain ⟨y2, h2, rfl⟩ := h2
  rcases h1 with ⟨c1, e1, e2⟩ | ⟨c1, e1, e2⟩ | ⟨c1, N, hr, e1, e2⟩
  · rcases h2 with ⟨c2, g1, g2⟩ | ⟨c2, g1, g2⟩ | ⟨c2, S, hS, g1, g2⟩
    · exact ⟨by omega, tw_same h e1 g1⟩
    · exfalso; omega
    · exfalso; omega
  · rcases h2 with ⟨c2, g1, g2⟩ | ⟨c2, g1, g2⟩ | ⟨c2, S, hS, g1, g2⟩
    · exfalso; omega
    · exact ⟨by omega, tw_same h e1 g1⟩
    · exfalso; omega
  · rcases h2 with ⟨c2, g1, g2⟩ | ⟨c2, g1, g2⟩ | ⟨c2, S, hS, g1, g2⟩
    · exfalso; omega
    · exfalso; omega
    · refine ⟨e2.trans g2.symm, tw_chg h hr (H.ksing ⟨c1.1, c1.2.1⟩ c1.2.2) hS (fun i hi => by rw [e1]; repeat rw [tu_row_n _ _ (by omega)]) (fun f hf => ?_) g1⟩
      rw [e1]
      rcases (show f = 0 ∨ f = 1 ∨ f = 2 ∨ f = 3 ∨ f = 4 ∨ f = 5 ∨ f = 6 ∨ f = 7 by omega) with rfl | rfl | rfl | rfl | rfl | rfl | rfl | rfl
      · rfl
      · exact hr.1 2 (by decide) (by decide) (by decide)
      · exact hr.1 3 (by decide) (by decide) (by decide)
      · exact hr.1 4 (by decide) (by decide) (by decide)
      · exact hr.1 5 (by decide) (by decide) (by decide)
      · exact hr.1 6 (by decide) (by decide) (by decide)
      · rfl
      · exact hr.1 8 (by decide) (by decide) (by decide)
theorem tf_play {M M1 : tu_M} {l : Int} {z1 : Int} (h1 : tp_play M l z1 M1) : ∀ i, 86 ≤ i → M1 i = M i := by
  unfold tp_play at h1
  obtain ⟨y1, h1, -⟩ := h1
  intro i hi
  rcases h1 with ⟨-, e1, -⟩ | ⟨-, e1, -⟩ | ⟨-, N, hr, e1, -⟩
  · rw [e1]
  · rw [e1]
  · rw [e1]
    repeat rw [tu_row_n _ _ (by omega)]
    exact hr.1 i (by omega) (by omega) (by omega)
theorem tw_play {M M1 M2 : tu_M} {l : Int} {z1 z2 : Int} (h : tw_I M) (h1 : tp_play M l z1 M1) (h2 : tq_play M M1 l z2 M2) : z1 = z2 ∧ tw_I M2 := by
  have H : tu_BO (tu_cb M) := h.ok
  unfold tp_play at h1
  unfold tq_play at h2
  obtain ⟨y1, h1, rfl⟩ := h1
  obtain ⟨y2, h2, rfl⟩ := h2
  rcases h1 with ⟨c1, e1, e2⟩ | ⟨c1, e1, e2⟩ | ⟨c1, N, hr, e1, e2⟩
  · rcases h2 with ⟨c2, g1, g2⟩ | ⟨c2, g1, g2⟩ | ⟨c2, S, hS, g1, g2⟩
    · exact ⟨by omega, tw_same h e1 g1⟩
    · exfalso; omega
    · exfalso; omega
  · rcases h2 with ⟨c2, g1, g2⟩ | ⟨c2, g1, g2⟩ | ⟨c2, S, hS, g1, g2⟩
    · exfalso; omega
    · exact ⟨by omega, tw_same h e1 g1⟩
    · exfalso; omega
  · rcases h2 with ⟨c2, g1, g2⟩ | ⟨c2, g1, g2⟩ | ⟨c2, S, hS, g1, g2⟩
    · exfalso; omega
    · exfalso; omega
    · refine ⟨e2.trans g2.symm, tw_chg h hr (H.kplay ⟨c1.1, c1.2.1⟩ c1.2.2) hS (fun i hi => by rw [e1]; repeat rw [tu_row_n _ _ (by omega)]) (fun f hf => ?_) g1⟩
      rw [e1]
      rcases (show f = 0 ∨ f = 1 ∨ f = 2 ∨ f = 3 ∨ f = 4 ∨ f = 5 ∨ f = 6 ∨ f = 7 by omega) with rfl | rfl | rfl | rfl | rfl | rfl | rfl | rfl
      · rfl
      · exact hr.1 2 (by decide) (by decide) (by decide)
      · exact hr.1 3 (by decide) (by decide) (by decide)
      · exact hr.1 4 (by decide) (by decide) (by decide)
      · exact hr.1 5 (by decide) (by decide) (by decide)
      · exact hr.1 6 (by decide) (by decide) (by decide)
      · exact hr.1 7 (by decide) (by decide) (by decide)
      · rfl
theorem tf_verse {M M1 : tu_M} {a d b : Int} {z1 : Int} (h1 : tp_verse M a d b z1 M1) : ∀ i, 86 ≤ i → M1 i = M i := by
  unfold tp_verse at h1
  obtain ⟨y1, h1, -⟩ := h1
  intro i hi
  rcases h1 with ⟨-, e1, -⟩ | ⟨-, e1, -⟩ | ⟨-, e1, -⟩ | ⟨-, N, hr, e1, -⟩
  · rw [e1]
  · rw [e1]
  · rw [e1]
  · rw [e1]
    repeat rw [tu_row_n _ _ (by omega)]
    exact hr.1 i (by omega) (by omega) (by omega)
theorem tw_verse {M M1 M2 : tu_M} {a d b : Int} {z1 z2 : Int} (h : tw_I M) (h1 : tp_verse M a d b z1 M1) (h2 : tq_verse M M1 a d b z2 M2) : z1 = z2 ∧ tw_I M2 := by
  have H : tu_BO (tu_cb M) := h.ok
  unfold tp_verse at h1
  unfold tq_verse at h2
  obtain ⟨y1, h1, rfl⟩ := h1
  obtain ⟨y2, h2, rfl⟩ := h2
  rcases h1 with ⟨c1, e1, e2⟩ | ⟨c1, e1, e2⟩ | ⟨c1, e1, e2⟩ | ⟨c1, N, hr, e1, e2⟩
  · rcases h2 with ⟨c2, g1, g2⟩ | ⟨c2, g1, g2⟩ | ⟨c2, g1, g2⟩ | ⟨c2, S, hS, g1, g2⟩
    · exact ⟨by omega, tw_same h e1 g1⟩
    · exfalso; omega
    · exfalso; omega
    · exfalso; omega
  · rcases h2 with ⟨c2, g1, g2⟩ | ⟨c2, g1, g2⟩ | ⟨c2, g1, g2⟩ | ⟨c2, S, hS, g1, g2⟩
    · exfalso; omega
    · exact ⟨by omega, tw_same h e1 g1⟩
    · exfalso; omega
    · exfalso; omega
  · rcases h2 with ⟨c2, g1, g2⟩ | ⟨c2, g1, g2⟩ | ⟨c2, g1, g2⟩ | ⟨c2, S, hS, g1, g2⟩
    · exfalso; omega
    · exfalso; omega
    · exact ⟨by omega, tw_same h e1 g1⟩
    · exfalso; omega
  · rcases h2 with ⟨c2, g1, g2⟩ | ⟨c2, g1, g2⟩ | ⟨c2, g1, g2⟩ | ⟨c2, S, hS, g1, g2⟩
    · exfalso; omega
    · exfalso; omega
    · exfalso; omega
    · refine ⟨e2.trans g2.symm, tw_chg h hr (H.kverse c1.1.1 c1.1.2.1 c1.1.2.2 c1.2.1 c1.2.2) hS (fun i hi => by rw [e1]; repeat rw [tu_row_n _ _ (by omega)]) (fun f hf => ?_) g1⟩
      rw [e1]
      rcases (show f = 0 ∨ f = 1 ∨ f = 2 ∨ f = 3 ∨ f = 4 ∨ f = 5 ∨ f = 6 ∨ f = 7 by omega) with rfl | rfl | rfl | rfl | rfl | rfl | rfl | rfl
      · rfl
      · exact hr.1 2 (by decide) (by decide) (by decide)
      · exact hr.1 3 (by decide) (by decide) (by decide)
      · exact hr.1 4 (by decide) (by decide) (by decide)
      · exact hr.1 5 (by decide) (by decide) (by decide)
      · exact hr.1 6 (by decide) (by decide) (by decide)
      · rfl
      · exact hr.1 8 (by decide) (by decide) (by decide)
theorem tf_dropLine {M M1 : tu_M} {l : Int} {z1 : Int} (h1 : tp_dropLine M l z1 M1) : ∀ i, 86 ≤ i → M1 i = M i := by
  unfold tp_dropLine at h1
  obtain ⟨y1, h1, -⟩ := h1
  intro i hi
  rcases h1 with ⟨-, e1, -⟩ | ⟨-, N, hr, e1, -⟩
  · rw [e1]
  · rw [e1]
    repeat rw [tu_row_n _ _ (by omega)]
    exact hr.1 i (by omega) (by omega) (by omega)
theorem tw_dropLine {M M1 M2 : tu_M} {l : Int} {z1 z2 : Int} (h : tw_I M) (h1 : tp_dropLine M l z1 M1) (h2 : tq_dropLine M M1 l z2 M2) : z1 = z2 ∧ tw_I M2 := by
  have H : tu_BO (tu_cb M) := h.ok
  unfold tp_dropLine at h1
  unfold tq_dropLine at h2
  obtain ⟨y1, h1, rfl⟩ := h1
  obtain ⟨y2, h2, rfl⟩ := h2
  rcases h1 with ⟨c1, e1, e2⟩ | ⟨c1, N, hr, e1, e2⟩
  · rcases h2 with ⟨c2, g1, g2⟩ | ⟨c2, S, hS, g1, g2⟩
    · exact ⟨by omega, tw_same h e1 g1⟩
    · exfalso; omega
  · rcases h2 with ⟨c2, g1, g2⟩ | ⟨c2, S, hS, g1, g2⟩
    · exfalso; omega
    · refine ⟨e2.trans g2.symm, tw_chg h hr (H.kdropLine (l := l.toNat) (by have e : tu_cb M 0 1 = M 1 1 := rfl; omega)) hS (fun i hi => by rw [e1]; repeat rw [tu_row_n _ _ (by omega)]) (fun f hf => ?_) g1⟩
      rw [e1]
      rcases (show f = 0 ∨ f = 1 ∨ f = 2 ∨ f = 3 ∨ f = 4 ∨ f = 5 ∨ f = 6 ∨ f = 7 by omega) with rfl | rfl | rfl | rfl | rfl | rfl | rfl | rfl
      · rfl
      · exact hr.1 2 (by decide) (by decide) (by decide)
      · rfl
      · rfl
      · exact hr.1 5 (by decide) (by decide) (by decide)
      · exact hr.1 6 (by decide) (by decide) (by decide)
      · rfl
      · exact hr.1 8 (by decide) (by decide) (by decide)
theorem tf_dropPhrase {M M1 : tu_M} {l : Int} {z1 : Int} (h1 : tp_dropPhrase M l z1 M1) : ∀ i, 86 ≤ i → M1 i = M i := by
  unfold tp_dropPhrase at h1
  obtain ⟨y1, h1, -⟩ := h1
  intro i hi
  rcases h1 with ⟨-, e1, -⟩ | ⟨-, N, hr, e1, -⟩
  · rw [e1]
  · rw [e1]
    repeat rw [tu_row_n _ _ (by omega)]
    exact hr.1 i (by omega) (by omega) (by omega)
theorem tw_dropPhrase {M M1 M2 : tu_M} {l : Int} {z1 z2 : Int} (h : tw_I M) (h1 : tp_dropPhrase M l z1 M1) (h2 : tq_dropPhrase M M1 l z2 M2) : z1 = z2 ∧ tw_I M2 := by
  have H : tu_BO (tu_cb M) := h.ok
  unfold tp_dropPhrase at h1
  unfold tq_dropPhrase at h2
  obtain ⟨y1, h1, rfl⟩ := h1
  obtain ⟨y2, h2, rfl⟩ := h2
  rcases h1 with ⟨c1, e1, e2⟩ | ⟨c1, N, hr, e1, e2⟩
  · rcases h2 with ⟨c2, g1, g2⟩ | ⟨c2, S, hS, g1, g2⟩
    · exact ⟨by omega, tw_same h e1 g1⟩
    · exfalso; omega
  · rcases h2 with ⟨c2, g1, g2⟩ | ⟨c2, S, hS, g1, g2⟩
    · exfalso; omega
    · refine ⟨e2.trans g2.symm, tw_chg h hr (H.kdropPhrase (l := l.toNat) (by have e : tu_cb M 0 4 = M 1 4 := rfl; omega)) hS (fun i hi => by rw [e1]; repeat rw [tu_row_n _ _ (by omega)]) (fun f hf => ?_) g1⟩
      rw [e1]
      rcases (show f = 0 ∨ f = 1 ∨ f = 2 ∨ f = 3 ∨ f = 4 ∨ f = 5 ∨ f = 6 ∨ f = 7 by omega) with rfl | rfl | rfl | rfl | rfl | rfl | rfl | rfl
      · rfl
      · exact hr.1 2 (by decide) (by decide) (by decide)
      · exact hr.1 3 (by decide) (by decide) (by decide)
      · exact hr.1 4 (by decide) (by decide) (by decide)
      · rfl
      · rfl
      · exact hr.1 7 (by decide) (by decide) (by decide)
      · rfl
theorem tf_clear {M M1 : tu_M} {w : Int} {z1 : Int} (h1 : tp_clear M w z1 M1) : ∀ i, 86 ≤ i → M1 i = M i := by
  unfold tp_clear at h1
  obtain ⟨y1, h1, -⟩ := h1
  intro i hi
  rcases h1 with ⟨-, N, hr, e1, -⟩ | ⟨-, N, hr, e1, -⟩
  · rw [e1, tu_row_n _ _ (by omega)]
    exact hr.1 i (by omega) (by omega) (by omega)
  · rw [e1, tu_row_n _ _ (by omega)]
    exact hr.1 i (by omega) (by omega) (by omega)
theorem tw_clear {M M1 M2 : tu_M} {w : Int} {z1 z2 : Int} (h : tw_I M) (h1 : tp_clear M w z1 M1) (h2 : tq_clear M M1 w z2 M2) : z1 = z2 ∧ tw_I M2 := by
  have H : tu_BO (tu_cb M) := h.ok
  unfold tp_clear at h1
  unfold tq_clear at h2
  obtain ⟨y1, h1, rfl⟩ := h1
  obtain ⟨y2, h2, rfl⟩ := h2
  rcases h1 with ⟨c1, N, hr, e1, e2⟩ | ⟨c1, N, hr, e1, e2⟩
  · rcases h2 with ⟨c2, S, hS, g1, g2⟩ | ⟨c2, S, hS, g1, g2⟩
    · refine ⟨e2.trans g2.symm, tw_chg h hr H.kclear7 hS (fun i hi => by rw [e1]; repeat rw [tu_row_n _ _ (by omega)]) (fun f hf => ?_) g1⟩
      rw [e1]
      rcases (show f = 0 ∨ f = 1 ∨ f = 2 ∨ f = 3 ∨ f = 4 ∨ f = 5 ∨ f = 6 ∨ f = 7 by omega) with rfl | rfl | rfl | rfl | rfl | rfl | rfl | rfl
      · rfl
      · exact hr.1 2 (by decide) (by decide) (by decide)
      · exact hr.1 3 (by decide) (by decide) (by decide)
      · exact hr.1 4 (by decide) (by decide) (by decide)
      · exact hr.1 5 (by decide) (by decide) (by decide)
      · exact hr.1 6 (by decide) (by decide) (by decide)
      · exact hr.1 7 (by decide) (by decide) (by decide)
      · exact hr.1 8 (by decide) (by decide) (by decide)
    · exfalso; omega
  · rcases h2 with ⟨c2, S, hS, g1, g2⟩ | ⟨c2, S, hS, g1, g2⟩
    · exfalso; omega
    · refine ⟨e2.trans g2.symm, tw_chg h hr H.kclear9 hS (fun i hi => by rw [e1]; repeat rw [tu_row_n _ _ (by omega)]) (fun f hf => ?_) g1⟩
      rw [e1]
      rcases (show f = 0 ∨ f = 1 ∨ f = 2 ∨ f = 3 ∨ f = 4 ∨ f = 5 ∨ f = 6 ∨ f = 7 by omega) with rfl | rfl | rfl | rfl | rfl | rfl | rfl | rfl
      · rfl
      · exact hr.1 2 (by decide) (by decide) (by decide)
      · exact hr.1 3 (by decide) (by decide) (by decide)
      · exact hr.1 4 (by decide) (by decide) (by decide)
      · exact hr.1 5 (by decide) (by decide) (by decide)
      · exact hr.1 6 (by decide) (by decide) (by decide)
      · exact hr.1 7 (by decide) (by decide) (by decide)
      · exact hr.1 8 (by decide) (by decide) (by decide)
