set_option maxHeartbeats 4000000 in
theorem tw_phrase {M M1 M2 : tu_M} {p w : Int} {z1 z2 : Int} (h : tw_I M) (h1 : tp_phrase M p w z1 M1) (h2 : tq_phrase M M1 p w z2 M2) : z1 = z2 ∧ tw_I M2 := by
  unfold tp_phrase at h1
  unfold tq_phrase at h2
  obtain ⟨y1, s1, h1, rfl⟩ := h1
  obtain ⟨y2, s2, h2, rfl⟩ := h2
  refine ⟨?_, tw_same h s1 s2⟩
  subst s1
  rcases h1 with h1 | h1 | h1 | h1 | h1 | h1 | h1 | h1 <;> rcases h2 with h2 | h2 | h2 | h2 | h2 | h2 | h2 | h2 <;> omega
set_option maxHeartbeats 4000000 in
theorem tw_isStressed {M M1 M2 : tu_M} {l s : Int} {z1 z2 : Int} (h : tw_I M) (h1 : tp_isStressed M l s z1 M1) (h2 : tq_isStressed M M1 l s z2 M2) : z1 = z2 ∧ tw_I M2 := by
  unfold tp_isStressed at h1
  unfold tq_isStressed at h2
  obtain ⟨y1, s1, h1, rfl⟩ := h1
  obtain ⟨y2, s2, h2, rfl⟩ := h2
  refine ⟨?_, tw_same h s1 s2⟩
  subst s1
  rcases h1 with h1 | h1 <;> rcases h2 with h2 | h2 <;> omega
set_option maxHeartbeats 4000000 in
theorem tw_kindOf {M M1 M2 : tu_M} {l s : Int} {z1 z2 : Int} (h : tw_I M) (h1 : tp_kindOf M l s z1 M1) (h2 : tq_kindOf M M1 l s z2 M2) : z1 = z2 ∧ tw_I M2 := by
  unfold tp_kindOf at h1
  unfold tq_kindOf at h2
  obtain ⟨y1, s1, h1, rfl⟩ := h1
  obtain ⟨y2, s2, h2, rfl⟩ := h2
  refine ⟨?_, tw_same h s1 s2⟩
  subst s1
  rcases h1 with h1 | h1 <;> rcases h2 with h2 | h2 <;> omega
set_option maxHeartbeats 4000000 in
theorem tw_count {M M1 M2 : tu_M} {w : Int} {z1 z2 : Int} (h : tw_I M) (h1 : tp_count M w z1 M1) (h2 : tq_count M M1 w z2 M2) : z1 = z2 ∧ tw_I M2 := by
  unfold tp_count at h1
  unfold tq_count at h2
  obtain ⟨y1, s1, h1, rfl⟩ := h1
  obtain ⟨y2, s2, h2, rfl⟩ := h2
  refine ⟨?_, tw_same h s1 s2⟩
  have e1 := h.pd.2.2.1
  have e2 := h.e2
  subst s1
  rcases h1 with h1 | h1 | h1 | h1 | h1 | h1 | h1 | h1 | h1 | h1 | h1 | h1 <;> rcases h2 with h2 | h2 | h2 | h2 | h2 | h2 | h2 | h2 | h2 | h2 | h2 | h2 <;> omega
set_option maxHeartbeats 4000000 in
theorem tw_at {M M1 M2 : tu_M} {w k : Int} {z1 z2 : Int} (h : tw_I M) (h1 : tp_at M w k z1 M1) (h2 : tq_at M M1 w k z2 M2) : z1 = z2 ∧ tw_I M2 := by
  unfold tp_at at h1
  unfold tq_at at h2
  obtain ⟨y1, s1, h1, rfl⟩ := h1
  obtain ⟨y2, s2, h2, rfl⟩ := h2
  refine ⟨?_, tw_same h s1 s2⟩
  subst s1
  rcases h1 with h1 | h1 | h1 | h1 <;> rcases h2 with h2 | h2 | h2 | h2 <;> omega
set_option maxHeartbeats 4000000 in
theorem tw_line {M M1 M2 : tu_M} {l w : Int} {z1 z2 : Int} (h : tw_I M) (h1 : tp_line M l w z1 M1) (h2 : tq_line M M1 l w z2 M2) : z1 = z2 ∧ tw_I M2 := by
  unfold tp_line at h1
  unfold tq_line at h2
  obtain ⟨y1, s1, h1, rfl⟩ := h1
  obtain ⟨y2, s2, h2, rfl⟩ := h2
  refine ⟨?_, tw_q h s1 s2⟩
  rcases h1 with h1 | h1 | h1 | h1 | h1 | h1 | h1 | h1 <;> rcases h2 with h2 | h2 | h2 | h2 | h2 | h2 | h2 | h2 <;> omega
set_option maxHeartbeats 4000000 in
theorem tw_whole {M M1 M2 : tu_M} {w : Int} {z1 z2 : Int} (h : tw_I M) (h1 : tp_whole M w z1 M1) (h2 : tq_whole M M1 w z2 M2) : z1 = z2 ∧ tw_I M2 := by
  unfold tp_whole at h1
  unfold tq_whole at h2
  obtain ⟨y1, s1, h1, rfl⟩ := h1
  obtain ⟨y2, s2, h2, rfl⟩ := h2
  refine ⟨?_, tw_q h s1 s2⟩
  rcases h1 with h1 | h1 | h1 | h1 | h1 | h1 <;> rcases h2 with h2 | h2 | h2 | h2 | h2 | h2 <;> omega
set_option maxHeartbeats 4000000 in
theorem tw_bestChange {M M1 M2 : tu_M} {l p w : Int} {z1 z2 : Int} (h : tw_I M) (h1 : tp_bestChange M l p w z1 M1) (h2 : tq_bestChange M M1 l p w z2 M2) : z1 = z2 ∧ tw_I M2 := by
  unfold tp_bestChange at h1
  unfold tq_bestChange at h2
  obtain ⟨y1, s1, h1, rfl⟩ := h1
  obtain ⟨y2, s2, h2, rfl⟩ := h2
  refine ⟨?_, tw_q h s1 s2⟩
  generalize (if w = 0 ∨ (tu_bp 1000000 (fun x9 => tu_bc (tu_cb M) l.toNat p.toNat x9) (M 3 l.toNat).toNat).1 = -6 then (tu_bp 1000000 (fun x9 => tu_bc (tu_cb M) l.toNat p.toNat x9) (M 3 l.toNat).toNat).1 else (tu_bp 1000000 (fun x9 => tu_bc (tu_cb M) l.toNat p.toNat x9) (M 3 l.toNat).toNat).2) = g9 at h1 h2
  rcases h1 with h1 | h1 | h1 <;> rcases h2 with h2 | h2 | h2 <;> omega
set_option maxHeartbeats 4000000 in
theorem tw_enoughBreath {M M1 M2 : tu_M} {l p : Int} {z1 z2 : Int} (h : tw_I M) (h1 : tp_enoughBreath M l p z1 M1) (h2 : tq_enoughBreath M M1 l p z2 M2) : z1 = z2 ∧ tw_I M2 := by
  unfold tp_enoughBreath at h1
  unfold tq_enoughBreath at h2
  obtain ⟨y1, s1, h1, rfl⟩ := h1
  obtain ⟨y2, s2, h2, rfl⟩ := h2
  refine ⟨?_, tw_q h s1 s2⟩
  rcases h1 with h1 | h1 <;> rcases h2 with h2 | h2 <;> omega
theorem tw_bestPhrase {M M1 M2 : tu_M} {z1 z2 : Int} (h : tw_I M) (h1 : tp_bestPhrase M z1 M1) (h2 : tq_bestPhrase M M1 z2 M2) : z1 = z2 ∧ tw_I M2 := by
  obtain ⟨y1, s1, h1, rfl⟩ := h1
  obtain ⟨y2, s2, h2, rfl⟩ := h2
  exact ⟨h1.trans h2.symm, tw_q h s1 s2⟩
theorem tw_fit {M M1 M2 : tu_M} {l p w : Int} {z1 z2 : Int} (h : tw_I M) (h1 : tp_fit M l p w z1 M1) (h2 : tq_fit M M1 l p w z1 z2 M2) : z1 = z2 ∧ tw_I M2 := by
  unfold tp_fit at h1
  unfold tq_fit at h2
  obtain ⟨y1, s1, h1, rfl⟩ := h1
  obtain ⟨y2, s2, h2, rfl⟩ := h2
  refine ⟨?_, tw_q h s1 s2⟩
  rcases h1 with h1 | h1 | ⟨h1, -⟩ <;> rcases h2 with h2 | h2 | h2 <;> omega
theorem tw_lies {M M1 M2 : tu_M} {l p s w : Int} {z1 z2 : Int} (h : tw_I M) (h1 : tp_lies M l p s w z1 M1) (h2 : tq_lies M M1 l p s w z1 z2 M2) : z1 = z2 ∧ tw_I M2 := by
  unfold tp_lies at h1
  unfold tq_lies at h2
  obtain ⟨y1, s1, h1, rfl⟩ := h1
  obtain ⟨y2, s2, h2, rfl⟩ := h2
  refine ⟨?_, tw_q h s1 s2⟩
  rcases h1 with h1 | h1 | ⟨h1, -⟩ <;> rcases h2 with h2 | h2 | h2 <;> omega
theorem tw_fitF {M M1 : tu_M} {l p w z1 : Int} (h1 : tp_fit M l p w z1 M1) (hg : ((0 ≤ l ∧ l < M 1 1) ∧ 0 ≤ p ∧ p < M 1 4) ∧ 0 ≤ w ∧ w ≤ 4) : tu_FX (tu_cb M) l.toNat p.toNat w z1 := by
  unfold tp_fit at h1
  obtain ⟨y1, s1, h1, rfl⟩ := h1
  rcases h1 with ⟨h1, -⟩ | ⟨h1, -⟩ | ⟨-, h1⟩
  · exact absurd hg.1 h1
  · exact absurd hg.2 h1.2
  · exact h1
theorem tw_liesF {M M1 : tu_M} {l p s w z1 : Int} (h1 : tp_lies M l p s w z1 M1) (hg : (((0 ≤ l ∧ l < M 1 1) ∧ 0 ≤ s ∧ s < M 3 l.toNat) ∧ 0 ≤ p ∧ p < M 1 4) ∧ 0 ≤ w ∧ w ≤ 1) : tu_LX (tu_cb M) l.toNat p.toNat s.toNat w z1 := by
  unfold tp_lies at h1
  obtain ⟨y1, s1, h1, rfl⟩ := h1
  rcases h1 with ⟨h1, -⟩ | ⟨h1, -⟩ | ⟨-, h1⟩
  · exact absurd hg.1 h1
  · exact absurd hg.2 h1.2
  · exact h1
theorem tf_phrase {M M1 : tu_M} {p w : Int} {z1 : Int} (h1 : tp_phrase M p w z1 M1) : ∀ i, 86 ≤ i → M1 i = M i := by
  unfold tp_phrase at h1
  obtain ⟨y1, s1, -, -⟩ := h1
  exact fun i hi => by rw [s1]
theorem tf_isStressed {M M1 : tu_M} {l s : Int} {z1 : Int} (h1 : tp_isStressed M l s z1 M1) : ∀ i, 86 ≤ i → M1 i = M i := by
  unfold tp_isStressed at h1
  obtain ⟨y1, s1, -, -⟩ := h1
  exact fun i hi => by rw [s1]
theorem tf_kindOf {M M1 : tu_M} {l s : Int} {z1 : Int} (h1 : tp_kindOf M l s z1 M1) : ∀ i, 86 ≤ i → M1 i = M i := by
  unfold tp_kindOf at h1
  obtain ⟨y1, s1, -, -⟩ := h1
  exact fun i hi => by rw [s1]
theorem tf_count {M M1 : tu_M} {w : Int} {z1 : Int} (h1 : tp_count M w z1 M1) : ∀ i, 86 ≤ i → M1 i = M i := by
  unfold tp_count at h1
  obtain ⟨y1, s1, -, -⟩ := h1
  exact fun i hi => by rw [s1]
theorem tf_at {M M1 : tu_M} {w k : Int} {z1 : Int} (h1 : tp_at M w k z1 M1) : ∀ i, 86 ≤ i → M1 i = M i := by
  unfold tp_at at h1
  obtain ⟨y1, s1, -, -⟩ := h1
  exact fun i hi => by rw [s1]
theorem tf_line {M M1 : tu_M} {l w : Int} {z1 : Int} (h1 : tp_line M l w z1 M1) : ∀ i, 86 ≤ i → M1 i = M i := by
  unfold tp_line at h1
  obtain ⟨y1, s1, -, -⟩ := h1
  exact fun i hi => s1 i (by omega)
theorem tf_whole {M M1 : tu_M} {w : Int} {z1 : Int} (h1 : tp_whole M w z1 M1) : ∀ i, 86 ≤ i → M1 i = M i := by
  unfold tp_whole at h1
  obtain ⟨y1, s1, -, -⟩ := h1
  exact fun i hi => s1 i (by omega)
theorem tf_bestChange {M M1 : tu_M} {l p w : Int} {z1 : Int} (h1 : tp_bestChange M l p w z1 M1) : ∀ i, 86 ≤ i → M1 i = M i := by
  unfold tp_bestChange at h1
  obtain ⟨y1, s1, -, -⟩ := h1
  exact fun i hi => s1 i (by omega)
theorem tf_enoughBreath {M M1 : tu_M} {l p : Int} {z1 : Int} (h1 : tp_enoughBreath M l p z1 M1) : ∀ i, 86 ≤ i → M1 i = M i := by
  unfold tp_enoughBreath at h1
  obtain ⟨y1, s1, -, -⟩ := h1
  exact fun i hi => s1 i (by omega)
theorem tf_bestPhrase {M M1 : tu_M} {z1 : Int} (h1 : tp_bestPhrase M  z1 M1) : ∀ i, 86 ≤ i → M1 i = M i := by
  unfold tp_bestPhrase at h1
  obtain ⟨y1, s1, -, -⟩ := h1
  exact fun i hi => s1 i (by omega)
theorem tf_fit {M M1 : tu_M} {l p w : Int} {z1 : Int} (h1 : tp_fit M l p w z1 M1) : ∀ i, 86 ≤ i → M1 i = M i := by
  unfold tp_fit at h1
  obtain ⟨y1, s1, -, -⟩ := h1
  exact fun i hi => s1 i (by omega)
theorem tf_lies {M M1 : tu_M} {l p s w : Int} {z1 : Int} (h1 : tp_lies M l p s w z1 M1) : ∀ i, 86 ≤ i → M1 i = M i := by
  unfold tp_lies at h1
  obtain ⟨y1, s1, -, -⟩ := h1
  exact fun i hi => s1 i (by omega)
