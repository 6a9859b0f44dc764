/-! undo, saving -/
theorem tf_undo {M M1 : tu_M} {z1 : Int} (h1 : tp_undo M z1 M1) : ∀ i, 86 ≤ i → M1 i = M i := by
  obtain ⟨y, ⟨h1, h2⟩, -⟩ := h1
  intro i hi
  by_cases q : M 0 4 < 1
  · rw [(h1 q).1]
  · obtain ⟨-, p, -, hp, e⟩ := h2 (by omega)
    rw [e, tu_tk_out (by omega), tu_row_n _ _ (by omega)]
theorem tf_save {M M1 : tu_M} {w z1 : Int} (h1 : tp_save M w z1 M1) : ∀ i, 86 ≤ i → M1 i = M i := by
  obtain ⟨y, ⟨h1, h2⟩, -⟩ := h1
  intro i hi
  by_cases q : w < 0 ∨ 1 < w
  · rw [(h1 q).1]
  · rw [(h2 (by omega)).2, tu_row_n _ _ (by omega), tu_tk_out (by omega)]
theorem tf_restore {M M1 : tu_M} {w z1 : Int} (hH : tu_HS M) (h1 : tp_restore M w z1 M1) : ∀ i, 86 ≤ i → M1 i = M i := by
  obtain ⟨y, ⟨h1, h2⟩, -⟩ := h1
  intro i hi
  by_cases q : w < 0 ∨ 1 < w
  · rw [(h1 q).1]
  · obtain ⟨a, b⟩ := h2 (by omega)
    rcases hH.2.2.2 w.toNat (by omega) with r | r
    · rw [(a r).1]
    · obtain ⟨N, hr, e, -⟩ := b r
      rw [e, tu_tk_out (by omega)]
      exact hr.1 i (by omega) (by omega) (by omega)
theorem tw_undo {M M1 M2 : tu_M} {z1 z2 : Int} (h : tw_I M) (h1 : tp_undo M z1 M1) (h2 : tq_undo M M1 z2 M2) : z1 = z2 ∧ tw_I M2 := by
  have f := tf_undo h1
  obtain ⟨y1, ⟨h1, h1'⟩, rfl⟩ := h1
  obtain ⟨y2, h2, rfl⟩ := h2
  have e2 : M1 86 2 = M 0 4 := by rw [f 86 (by decide)]; exact h.e2
  rw [e2] at h2
  have hh := h.hs
  have h06 := hh.2.1
  rcases h2 with ⟨d1, e, g2⟩ | ⟨d1, e, g2⟩
  · exact ⟨by rw [(h1 d1).2, g2], tw_same h (h1 d1).1 e⟩
  · obtain ⟨g1, p, hp, hpB, e1⟩ := h1' d1
    obtain ⟨k, hk, ek⟩ := hh.1.at (show (M 0 4 - 1).toNat < 6 by omega)
    have ep : p = 22 + 8 * k := by omega
    have ehb : ∀ q, tu_hb M (M 0 4 - 1).toNat q = M (p + q) := fun q => by
      unfold tu_hb
      rw [hp]
      rfl
    obtain ⟨i1, i2⟩ := h.ih (M 0 4 - 1).toNat (by omega)
    have eo : ∀ i, i < 86 → M2 i = M1 i := fun i a => by rw [e, tu_row_n _ _ (by omega), tu_row_n _ _ (by omega)]
    have eu : ∀ i, 87 < i → M2 i = M i := fun i a => by rw [e, tu_row_n _ _ (by omega), tu_row_n _ _ (by omega), f i (by omega)]
    have en : ∀ i, 9 ≤ i → i < 86 → M2 i = M i := fun i a b => by rw [eo i b, e1, tu_tk_out (by omega), tu_row_n _ _ (by omega)]
    have e0 : M2 0 = tu_u (M 0) 4 (M 0 4 - 1) := by rw [eo 0 (by decide), e1, tu_tk_out (by omega), tu_row_s]
    have eb : ∀ q, q < 8 → M2 (1 + q) = tu_hb M (M 0 4 - 1).toNat q := fun q hq => by rw [eo _ (by omega), e1, tu_tk_in q hq, tu_row_n _ _ (by omega), ehb]
    have e86 : M2 86 = tu_u (M 86) 2 (M 0 4 - 1) := by rw [e, tu_row_n _ _ (by decide), tu_row_s, f 86 (by decide)]
    have e87 : M2 87 = tu_ml (M 88) (M 87) ((M 0 4 - 1).toNat * 112) 0 112 := by rw [e, tu_row_s, f 88 (by decide), f 87 (by decide)]
    have e04 : M2 0 4 = M 0 4 - 1 := by rw [e0, tu_u_s]
    refine ⟨g1.trans g2.symm, ⟨⟨by rw [en 19 (by decide) (by decide)]; exact hh.1, by rw [e04]; omega, by rw [en 20 (by decide) (by decide)]; exact hh.2.2.1, by rw [en 21 (by decide) (by decide)]; exact hh.2.2.2⟩, i1.ext eb⟩, ?_, ⟨?_, by rw [e86, tu_u_s, e04]⟩, ?_, ?_⟩
    · rw [e87]
      refine (i2.q i1 (fun j hj => ?_)).ext eb
      rw [tu_ml_at, if_pos ⟨by omega, by omega⟩]
      rw [show (M 0 4 - 1).toNat * 112 + (j - 0) = 112 * (M 0 4 - 1).toNat + j by omega]
    · rw [eu 88 (by decide)]
      intro i hi
      rw [e04] at hi
      obtain ⟨k2, hk2, ek2⟩ := hh.1.at (show i < 6 by omega)
      have eq9 : ∀ q, q < 8 → tu_hb M2 i q = tu_hb M i q := fun q hq => by
        unfold tu_hb
        rw [en 19 (by decide) (by decide), ek2]
        exact en _ (by omega) (by omega)
      obtain ⟨j1, j2⟩ := h.ih i (by omega)
      exact ⟨j1.ext eq9, j2.ext eq9⟩
    · exact h.pd.of (by rw [en 9 (by decide) (by decide)]) (fun k _ => by rw [en 10 (by decide) (by decide)]) (by rw [e86, tu_u_n _ _ (by decide)]) (fun k _ => by rw [eu 91 (by decide)])
    · exact h.sl.of (en 21 (by decide) (by decide)) (eu 90 (by decide)) (eu 89 (by decide)) (fun i a b => en i (by omega) b)
theorem tw_save {M M1 M2 : tu_M} {w z1 z2 : Int} (h : tw_I M) (h1 : tp_save M w z1 M1) (h2 : tq_save M M1 w z2 M2) : z1 = z2 ∧ tw_I M2 := by
  have f := tf_save h1
  obtain ⟨y1, ⟨h1, h1'⟩, rfl⟩ := h1
  obtain ⟨y2, h2, rfl⟩ := h2
  have hh := h.hs
  rcases h2 with ⟨d1, e, g2⟩ | ⟨d1, e, g2⟩
  · exact ⟨by rw [(h1 d1).2, g2], tw_same h (h1 d1).1 e⟩
  · obtain ⟨g1, e1⟩ := h1' d1
    have n4 : M 87 4 = M 1 1 := h.mb.n4
    have eo : ∀ i, i < 89 → M2 i = M1 i := fun i a => by rw [e, tu_row_n _ _ (by omega), tu_row_n _ _ (by omega)]
    have en : ∀ i, i < 70 → i ≠ 21 → M2 i = M i := fun i a b => by rw [eo i (by omega), e1, tu_row_n _ _ b, tu_tk_out (by omega)]
    have e21 : M2 21 = tu_u (M 21) w.toNat 1 := by rw [eo 21 (by decide), e1, tu_row_s]
    have e89 : M2 89 = tu_ml (M 87) (M 89) 0 (112 * w.toNat) 112 := by rw [e, tu_row_n _ _ (by decide), tu_row_s, f 87 (by decide), f 89 (by decide)]
    have e90 : M2 90 = tu_u (M 90) w.toNat 1 := by rw [e, tu_row_s, f 90 (by decide)]
    have eb : ∀ q, q < 8 → M2 (1 + q) = M (1 + q) := fun q hq => en _ (by omega) (by omega)
    refine ⟨by rw [g1, g2, f 87 (by decide), n4], ⟨⟨by rw [en 19 (by decide) (by decide)]; exact hh.1, by rw [en 0 (by decide) (by decide)]; exact hh.2.1, by rw [en 20 (by decide) (by decide)]; exact hh.2.2.1, fun k hk => ?_⟩, tw_OK_of h.ok eb⟩, ?_, ⟨?_, ?_⟩, ?_, ?_⟩
    · rw [e21, tu_u_if]
      split
      · exact Or.inr rfl
      · exact hh.2.2.2 k hk
    · rw [eo 87 (by decide), f 87 (by decide)]; exact h.mb.ext eb
    · rw [eo 88 (by decide), f 88 (by decide)]
      exact tw_IH_of hh.1 hh.2.1.2 h.ih (by rw [en 0 (by decide) (by decide)]) (en 19 (by decide) (by decide)) (fun i a b => en i b (by omega))
    · rw [eo 86 (by decide), f 86 (by decide), en 0 (by decide) (by decide)]; exact h.e2
    · exact h.pd.of (by rw [en 9 (by decide) (by decide)]) (fun k _ => by rw [en 10 (by decide) (by decide)]) (by rw [eo 86 (by decide), f 86 (by decide)]) (fun k _ => by rw [e, tu_row_n _ _ (by decide), tu_row_n _ _ (by decide), f 91 (by decide)])
    · refine ⟨fun k hk => ?_, fun k hk h9 => ?_⟩
      · rw [e90, e21, tu_u_if, tu_u_if, h.sl.1 k hk]
      · by_cases q : k = w.toNat
        · have es : ∀ q9, q9 < 8 → tw_sb M2 k q9 = tu_cb M q9 := fun q9 h9 => by
            unfold tw_sb tu_cb
            rw [eo _ (by omega), e1, tu_row_n _ _ (by omega), q, tu_tk_in q9 h9]
          have hO : tu_BO (tu_cb M) := h.ok
          refine ⟨hO.ext es, (h.mb.q hO (fun j hj => ?_)).ext es⟩
          rw [e89, tu_ml_at, if_pos ⟨by omega, by omega⟩, q]
          rw [show 0 + (112 * w.toNat + j - 112 * w.toNat) = j by omega]
        · rw [e21, tu_u_n _ _ q] at h9
          obtain ⟨j1, j2⟩ := h.sl.2 k hk h9
          have es : ∀ q9, q9 < 8 → tw_sb M2 k q9 = tw_sb M k q9 := fun q9 h9 => by
            unfold tw_sb
            rw [eo _ (by omega), e1, tu_row_n _ _ (by omega), tu_tk_out (by omega)]
          refine ⟨j1.ext es, (j2.q j1 (fun j hj => ?_)).ext es⟩
          rw [e89, tu_ml_at, if_neg (by omega)]
theorem tw_restore {M M1 M2 : tu_M} {w z1 z2 : Int} (h : tw_I M) (h1 : tp_restore M w z1 M1) (h2 : tq_restore M M1 w z2 M2) : z1 = z2 ∧ tw_I M2 := by
  have f := tf_restore h.hs h1
  obtain ⟨y1, ⟨h1, h1'⟩, rfl⟩ := h1
  obtain ⟨y2, h2, rfl⟩ := h2
  have hh := h.hs
  have e90 : ∀ k, k < 2 → M1 90 k = M 21 k := fun k hk => by rw [f 90 (by decide)]; exact h.sl.1 k hk
  rcases h2 with ⟨d1, e, g2⟩ | ⟨⟨d1, d2⟩, e, g2⟩ | ⟨⟨d1, d2⟩, e, g2⟩
  · exact ⟨by rw [(h1 d1).2, g2], tw_same h (h1 d1).1 e⟩
  · rw [e90 _ (by omega)] at d2
    obtain ⟨a, -⟩ := h1' d1
    exact ⟨by rw [(a d2).2, g2], tw_same h (a d2).1 e⟩
  · rw [e90 _ (by omega)] at d2
    obtain ⟨-, b⟩ := h1' d1
    obtain ⟨N, hr, e1, g1⟩ := b d2
    obtain ⟨s1, s2⟩ := h.sl.2 w.toNat (by omega) d2
    have n4 : M 89 (112 * w.toNat + 4) = M (70 + 8 * w.toNat) 1 := s2.n4
    have es : ∀ q, q < 8 → M1 (1 + q) = tw_sb M w.toNat q := fun q hq => by
      rw [e1, tu_tk_in q hq]
      exact hr.1 _ (by omega) (by omega) (by omega)
    refine ⟨by rw [g1, g2, f 89 (by decide), n4], tw_chg h hr s1 ?_ (fun i hi => by rw [e1, tu_tk_out (by omega)]) es e⟩
    refine s2.q s1 (fun j hj => ?_)
    rw [tu_ml_at, if_pos ⟨by omega, by omega⟩, f 89 (by decide)]
    rw [show 112 * w.toNat + (j - 0) = 112 * w.toNat + j by omega]
