/-! texts: only the characters that are there count -/
theorem tw_ps {f g : Nat → Int} : ∀ n, (∀ k, k < n → f k = g k) → tu_ps f n = tu_ps g n
  | 0, _ => rfl
  | n + 1, e => by
    show tu_nx (tu_ps f n) (f n) = tu_nx (tu_ps g n) (g n)
    rw [tw_ps n (fun k hk => e k (by omega)), e n (by omega)]
theorem tw_ti {f g : Nat → Int} {z : Int} : ∀ n, (∀ k, k < n → f k = g k) → tu_ti f z n = tu_ti g z n
  | 0, _ => rfl
  | n + 1, e => by
    show tu_ti f z n + (if f n = z then 1 else 0) = tu_ti g z n + (if g n = z then 1 else 0)
    rw [tw_ti n (fun k hk => e k (by omega)), e n (by omega)]
theorem tw_PA {f g : Nat → Int} : ∀ n, (∀ k, k < n → f k = g k) → tu_PA f n = tu_PA g n
  | 0, _ => rfl
  | n + 1, e => by
    rw [tu_PA_s, tu_PA_s, tw_PA n (fun k hk => e k (by omega))]
    by_cases q : n = 0
    · rw [if_pos (Or.inl q), if_pos (Or.inl q)]
    · rw [e (n - 1) (by omega)]
theorem tw_qs {B : Nat → Nat → Int} {f g : Nat → Int} : ∀ n, (∀ k, k < n → f k = g k) → tu_qs B f n = tu_qs B g n
  | 0, _ => rfl
  | n + 1, e => by
    show tu_q1 (tu_qs B f n) (tu_ps f n) (f n) = tu_q1 (tu_qs B g n) (tu_ps g n) (g n)
    rw [tw_qs n (fun k hk => e k (by omega)), tw_ps n (fun k hk => e k (by omega)), e n (by omega)]
theorem tw_kd {f g : Nat → Int} {n : Nat} (e : ∀ k, k < n → f k = g k) {j : Nat} (hj : j < n) : tu_kd (tu_ps f j) (f j) = tu_kd (tu_ps g j) (g j) := by
  rw [tw_ps j (fun k hk => e k (by omega)), e j hj]
theorem tw_ft {f g : Nat → Int} {n : Nat} {w : Int} (e : ∀ k, k < n → f k = g k) (h : tu_ft f n w) : tu_ft g n w := by
  rcases h with ⟨k, h1, h2, h3, h4⟩ | ⟨h1, h2⟩
  · exact Or.inl ⟨k, h1, h2, by rw [← tw_kd e h1]; exact h3, fun j hj => by rw [← tw_kd e (show j < n by omega)]; exact h4 j hj⟩
  · exact Or.inr ⟨fun j hj => by rw [← tw_kd e hj]; exact h1 j hj, by rw [← tw_ps n e]; exact h2⟩
theorem tw_ft6 {f : Nat → Int} {n : Nat} (h : (∀ j, j < n → tu_kd (tu_ps f j) (f j) ≠ 0) ∧ 0 < (tu_ps f n).2) : tu_ft f n (-6) := Or.inr ⟨h.1, by rw [if_pos h.2]⟩
theorem tw_ap {f : Nat → Int} {o u c : Nat} : ∀ j k, tu_ap f o u c j k = if o ≤ k ∧ k < o + j then ((tu_by u (c - 1 - (k - o)) : Nat) : Int) else f k
  | 0, k => by rw [if_neg (by omega)]; rfl
  | j + 1, k => by
    show tu_u (tu_ap f o u c j) (o + j) ((tu_by u (c - 1 - j) : Nat) : Int) k = _
    by_cases q : k = o + j
    · subst q; rw [tu_u_s, if_pos ⟨by omega, by omega⟩, show o + j - o = j by omega]
    · rw [tu_u_n _ _ q, tw_ap j k]
      by_cases q2 : o ≤ k ∧ k < o + j
      · rw [if_pos q2, if_pos ⟨by omega, by omega⟩]
      · rw [if_neg q2, if_neg (by omega)]
theorem tf_wipe {M M1 : tu_M} {z1 : Int} (h1 : tp_wipe M z1 M1) : ∀ i, 86 ≤ i → M1 i = M i := by
  obtain ⟨h1, -⟩ := h1
  intro i hi
  rw [h1, tu_row_n _ _ (by omega)]
theorem tf_fault {M M1 : tu_M} {z1 : Int} (h1 : tp_fault M z1 M1) : ∀ i, 86 ≤ i → M1 i = M i := by
  obtain ⟨w, h1, -⟩ := h1
  intro i hi
  rw [h1]
theorem tf_put {M M1 : tu_M} {u : Nat} {z1 : Int} (h1 : tp_put M u z1 M1) : ∀ i, 86 ≤ i → M1 i = M i := by
  obtain ⟨y, h1, -⟩ := h1
  intro i hi
  rcases h1 with ⟨-, h1, -⟩ | ⟨-, h1, -⟩ | ⟨c, -, h1, -⟩
  · rw [h1]
  · rw [h1]
  · rw [h1, tu_row_n _ _ (by omega), tu_row_n _ _ (by omega)]
theorem tf_write {M M1 : tu_M} {z1 : Int} (h1 : tp_write M z1 M1) : ∀ i, 86 ≤ i → M1 i = M i := by
  obtain ⟨y, h1, -⟩ := h1
  intro i hi
  rcases h1 with ⟨-, h1, -⟩ | ⟨-, h1, -⟩ | ⟨-, N, hr, h1, -⟩
  · rw [h1]
  · rw [h1]
  · rw [h1]
    repeat rw [tu_row_n _ _ (by omega)]
    exact hr.1 i (by omega) (by omega) (by omega)
/-- only the texts change -/
theorem tw_pad {M M2 : tu_M} (h : tw_I M) (e : ∀ i, i < 86 → i ≠ 9 → i ≠ 10 → M2 i = M i) (e2 : M2 86 2 = M 86 2) (e8 : ∀ i, 87 ≤ i → i < 91 → M2 i = M i) (hp : tw_P M2) : tw_I M2 := by
  have e0 : M2 0 = M 0 := e 0 (by decide) (by decide) (by decide)
  have e19 : M2 19 = M 19 := e 19 (by decide) (by decide) (by decide)
  have eb : ∀ f, f < 8 → M2 (1 + f) = M (1 + f) := fun f hf => e _ (by omega) (by omega) (by omega)
  refine ⟨⟨tw_HS_of h.hs (by rw [e0]) e19 (e 20 (by decide) (by decide) (by decide)) (e 21 (by decide) (by decide) (by decide)), tw_OK_of h.ok eb⟩, ?_, ⟨?_, by rw [e2, e0]; exact h.e2⟩, hp, h.sl.of (e 21 (by decide) (by decide) (by decide)) (e8 90 (by decide) (by decide)) (e8 89 (by decide) (by decide)) (fun i a b => e i (by omega) (by omega) (by omega))⟩
  · rw [e8 87 (by decide) (by decide)]; exact h.mb.ext eb
  · rw [e8 88 (by decide) (by decide)]; exact tw_IH_of h.hs.1 h.hs.2.1.2 h.ih (by rw [e0]) e19 (fun i a b => e i (by omega) (by omega) (by omega))
theorem tw_wipe {M M1 M2 : tu_M} {z1 z2 : Int} (h : tw_I M) (h1 : tp_wipe M z1 M1) (h2 : tq_wipe M M1 z2 M2) : z1 = z2 ∧ tw_I M2 := by
  have f := tf_wipe h1
  obtain ⟨h1, g1⟩ := h1
  obtain ⟨h2, g2⟩ := h2
  have e86 : M2 86 = tu_u (M 86) 6 0 := by rw [h2, tu_row_s, f 86 (by decide)]
  have e9 : M2 9 = tu_u (M 9) 1 0 := by rw [h2, tu_row_n _ _ (by decide), h1, tu_row_s]
  refine ⟨by rw [g1, g2, f 86 (by decide)]; exact h.pd.2.2.1.symm, tw_pad h (fun i a b d => by rw [h2, tu_row_n _ _ (by omega), h1, tu_row_n _ _ b]) (by rw [e86, tu_u_n _ _ (by decide)]) (fun i a b => by rw [h2, tu_row_n _ _ (by omega), f i (by omega)]) ?_⟩
  refine ⟨by rw [e9, tu_u_s]; decide, fun k hk => ?_, by rw [e86, e9, tu_u_s, tu_u_s], fun k hk => ?_⟩
  · rw [e9, tu_u_s] at hk; omega
  · rw [e9, tu_u_s] at hk; omega
theorem tw_fault {M M1 M2 : tu_M} {z1 z2 : Int} (h : tw_I M) (h1 : tp_fault M z1 M1) (h2 : tq_fault M M1 z2 M2) : z1 = z2 ∧ tw_I M2 := by
  obtain ⟨w1, h1, g1, rfl⟩ := h1
  obtain ⟨w2, h2, g2, rfl⟩ := h2
  subst h1
  obtain ⟨p1, p2, p3, p4⟩ := h.pd
  rw [p3] at g2
  exact ⟨tu_ft_one g1 (tw_ft (fun k hk => p4 k (by omega)) g2), tw_same h rfl h2⟩
theorem tw_put {M M1 M2 : tu_M} {u : Nat} {z1 z2 : Int} (h : tw_I M) (h1 : tp_put M u z1 M1) (h2 : tq_put M M1 u z2 M2) : z1 = z2 ∧ tw_I M2 := by
  have f := tf_put h1
  obtain ⟨y1, h1, rfl⟩ := h1
  obtain ⟨y2, h2, rfl⟩ := h2
  obtain ⟨p1, p2, p3, p4⟩ := h.pd
  have e6 : M1 86 6 = M 9 1 := by rw [f 86 (by decide), p3]
  rw [e6] at h2
  rcases h1 with ⟨c1, e1, g1⟩ | ⟨⟨c, c1, c2⟩, e1, g1⟩ | ⟨c, ⟨c1, c2⟩, e1, g1⟩
  · rcases h2 with ⟨d1, e2, g2⟩ | ⟨⟨d, d1, d2⟩, e2, g2⟩ | ⟨d, ⟨d1, d2⟩, e2, g2⟩
    · exact ⟨by omega, tw_same h e1 e2⟩
    · exact absurd d1 (c1 d)
    · exact absurd d1 (c1 d)
  · rcases h2 with ⟨d1, e2, g2⟩ | ⟨⟨d, d1, d2⟩, e2, g2⟩ | ⟨d, ⟨d1, d2⟩, e2, g2⟩
    · exact absurd c1 (d1 c)
    · exact ⟨by omega, tw_same h e1 e2⟩
    · have := tu_vd_one c1 d1; omega
  · rcases h2 with ⟨d1, e2, g2⟩ | ⟨⟨d, d1, d2⟩, e2, g2⟩ | ⟨d, ⟨d1, d2⟩, e2, g2⟩
    · exact absurd c1 (d1 c)
    · have := tu_vd_one c1 d1; omega
    · have hd := tu_vd_one c1 d1
      subst hd
      have e86 : M2 86 = tu_u (M 86) 6 (M 9 1 + (c : Int)) := by rw [e2, tu_row_n _ _ (by decide), tu_row_s, f 86 (by decide)]
      have e9 : M2 9 = tu_u (M 9) 1 (M 9 1 + (c : Int)) := by rw [e2, tu_row_n _ _ (by decide), tu_row_n _ _ (by decide), e1, tu_row_n _ _ (by decide), tu_row_s]
      have e10 : M2 10 = tu_ap (M 10) (M 9 1).toNat u c c := by rw [e2, tu_row_n _ _ (by decide), tu_row_n _ _ (by decide), e1, tu_row_s]
      have e91 : M2 91 = tu_ap (M 91) (M 9 1).toNat u c c := by rw [e2, tu_row_s, f 91 (by decide)]
      refine ⟨by omega, tw_pad h (fun i a b d => by rw [e2, tu_row_n _ _ (by omega), tu_row_n _ _ (by omega), e1, tu_row_n _ _ d, tu_row_n _ _ b]) (by rw [e86, tu_u_n _ _ (by decide)]) (fun i a b => by rw [e2, tu_row_n _ _ (by omega), tu_row_n _ _ (by omega), f i (by omega)]) ?_⟩
      refine ⟨by rw [e9, tu_u_s]; omega, fun k hk => ?_, by rw [e86, e9, tu_u_s, tu_u_s], fun k hk => ?_⟩
      · rw [e9, tu_u_s] at hk
        rw [e10, tw_ap]
        by_cases q : (M 9 1).toNat ≤ k ∧ k < (M 9 1).toNat + c
        · rw [if_pos q]
          have hb : tu_by u (c - 1 - (k - (M 9 1).toNat)) < 256 := Nat.mod_lt _ (by decide)
          exact ⟨by omega, by omega⟩
        · rw [if_neg q]; exact p2 k (by omega)
      · rw [e9, tu_u_s] at hk
        rw [e10, e91, tw_ap, tw_ap]
        by_cases q : (M 9 1).toNat ≤ k ∧ k < (M 9 1).toNat + c
        · rw [if_pos q, if_pos q]
        · rw [if_neg q, if_neg q]; exact p4 k (by omega)
theorem tw_write {M M1 M2 : tu_M} {z1 z2 : Int} (h : tw_I M) (h1 : tp_write M z1 M1) (h2 : tq_write M M1 z2 M2) : z1 = z2 ∧ tw_I M2 := by
  have f := tf_write h1
  obtain ⟨y1, h1, rfl⟩ := h1
  obtain ⟨y2, h2, rfl⟩ := h2
  obtain ⟨p1, p2, p3, p4⟩ := h.pd
  have e6 : M1 86 6 = M 9 1 := by rw [f 86 (by decide), p3]
  rw [e6] at h2
  have e91 : ∀ k, k < (M 9 1).toNat → M1 91 k = M 10 k := fun k hk => by rw [f 91 (by decide)]; exact p4 k (by omega)
  have hps := tw_ps _ e91
  have hti := tw_ti (z := 124) _ e91
  have hPA := tw_PA _ e91
  have hqs := tw_qs (B := tu_cb M) _ e91
  have hgd : (∀ j, j < (M 9 1).toNat → tu_kd (tu_ps (M1 91) j) (M1 91 j) ≠ 0) → (∀ j, j < (M 9 1).toNat → tu_kd (tu_ps (M 10) j) (M 10 j) ≠ 0) := fun g j hj => by rw [← tw_kd e91 hj]; exact g j hj
  rw [hps, hti, hPA, hqs] at h2
  rcases h1 with ⟨⟨w, c1, c2⟩, e1, g1⟩ | ⟨⟨c1, c2⟩, e1, g1⟩ | ⟨⟨c1, c2⟩, N, hr, e1, g1⟩
  · rcases h2 with ⟨⟨v, d1, d2⟩, e2, g2⟩ | ⟨⟨d1, d2⟩, e2, g2⟩ | ⟨⟨d1, d2⟩, S, hS, e2, g2⟩
    · exact ⟨by omega, tw_same h e1 e2⟩
    · exact absurd (tu_ft_one c1 (tw_ft6 ⟨hgd d1.1, d1.2⟩)) c2
    · exact absurd (tu_ft_one c1 (tw_ft6 ⟨hgd d1.1, d1.2⟩)) c2
  · rcases h2 with ⟨⟨v, d1, d2⟩, e2, g2⟩ | ⟨⟨d1, d2⟩, e2, g2⟩ | ⟨⟨d1, d2⟩, S, hS, e2, g2⟩
    · exact absurd (tu_ft_one (tw_ft e91 d1) (tw_ft6 c1)) d2
    · exact ⟨by omega, tw_same h e1 e2⟩
    · exfalso; omega
  · rcases h2 with ⟨⟨v, d1, d2⟩, e2, g2⟩ | ⟨⟨d1, d2⟩, e2, g2⟩ | ⟨⟨d1, d2⟩, S, hS, e2, g2⟩
    · exact absurd (tu_ft_one (tw_ft e91 d1) (tw_ft6 c1)) d2
    · exfalso; omega
    · have hO : tu_BO (tu_cb M) := h.ok
      have hB := hO.qs c1.1 c1.2 c2.1 c2.2
      obtain ⟨-, b1, b6, b7⟩ := tu_BQ_all hO c1.1 _ (Nat.le_refl _)
      have em : ∀ i, 70 ≤ i → M1 i = M i := fun i a => by
        rw [e1]
        repeat rw [tu_row_n _ _ (by omega)]
        exact hr.1 i (by omega) (by omega) (by omega)
      have eo : ∀ i, i < 86 → M2 i = M1 i := fun i a => by
        rw [e2, tu_row_n _ _ (by omega), tu_row_n _ _ (by omega), tu_row_n _ _ (by omega)]
      have eu : ∀ i, 88 < i → M2 i = M i := fun i a => by
        rw [e2, tu_row_n _ _ (by omega), tu_row_n _ _ (by omega), tu_row_n _ _ (by omega), em i (by omega)]
      have e86 : M2 86 = tu_u (tu_u (M 86) 2 (tu_mw (M 86 2))) 6 0 := by rw [e2, tu_row_n _ _ (by decide), tu_row_n _ _ (by decide), tu_row_s, em 86 (by decide)]
      have e87 : M2 87 = S := by rw [e2, tu_row_n _ _ (by decide), tu_row_s]
      have e88 : M2 88 = tu_mq (M 88) (M 87) (M 86 2) := by rw [e2, tu_row_s, em 86 (by decide), em 87 (by decide), em 88 (by decide)]
      have e9 : M2 9 = tu_u (M 9) 1 0 := by rw [eo 9 (by decide), e1, tu_row_n _ _ (by decide), tu_row_s]
      have en : ∀ i, (i = 0 ∨ 11 ≤ i) → M1 i = N i := fun i a => by
        rw [e1]
        repeat rw [tu_row_n _ _ (by omega)]
      refine ⟨g1.trans g2.symm, tw_chg0 h hr hB (by rw [e87]; exact hS) (by rw [eo 0 (by decide), en 0 (by decide)]) (by rw [eo 19 (by decide), en 19 (by decide)]) (fun i a b => by rw [eo i b, en i (by omega)]) (fun q hq => ?_) e88 (by rw [e86, tu_u_n _ _ (by decide), tu_u_s]) (eu 89 (by decide)) (eu 90 (by decide)) ?_⟩
      · rw [eo _ (by omega), e1]
        rcases (show q = 0 ∨ q = 1 ∨ q = 2 ∨ q = 3 ∨ q = 4 ∨ q = 5 ∨ q = 6 ∨ q = 7 by omega) with rfl | rfl | rfl | rfl | rfl | rfl | rfl | rfl
        · rfl
        · rw [b1]; exact hr.1 2 (by decide) (by decide) (by decide)
        · rfl
        · rfl
        · rfl
        · rfl
        · rw [b6]; exact hr.1 7 (by decide) (by decide) (by decide)
        · rw [b7]; exact hr.1 8 (by decide) (by decide) (by decide)
      · refine ⟨by rw [e9, tu_u_s]; decide, fun k hk => ?_, by rw [e86, e9, tu_u_s, tu_u_s], fun k hk => ?_⟩
        · rw [e9, tu_u_s] at hk; omega
        · rw [e9, tu_u_s] at hk; omega
