/-! the law's walk through all ways: at each syllable the next code, all that is still to come -/
def tz_F (mh : Nat → Nat) (ct : (Nat → Nat) → Int) (n m : Nat) (y : Nat → Nat) : Nat → tz_Q → tz_Q
  | 0, A => A
  | e + 1, A => tz_F mh ct n m y e (tz_ad A (tz_Y mh ct n m (n - e) (8 * m - y e) (fun t => y t - 1)))
def tz_mu (n m : Nat) (y : Nat → Nat) : Nat → Nat
  | 0 => 0
  | e + 1 => tz_mu n m y e + (8 * m + 1 - y e) * 80 ^ (n - e)
theorem tz_F_q {mh : Nat → Nat} {ct : (Nat → Nat) → Int} {n m : Nat} {y y' : Nat → Nat} : ∀ {e : Nat} {A : tz_Q}, e ≤ n → (∀ t, t < e → y t = y' t) → tz_F mh ct n m y e A = tz_F mh ct n m y' e A
  | 0, A, _, _ => rfl
  | e + 1, A, he, h => by
    unfold tz_F
    rw [tz_Y_g (g' := fun t => y' t - 1) (by omega) (fun t ht => by show y t - 1 = y' t - 1; rw [h t (by omega)]), h e (Nat.lt_succ_self e)]
    exact tz_F_q (by omega) (fun t ht => h t (by omega))
theorem tz_mu_q {n m : Nat} {y y' : Nat → Nat} : ∀ {e : Nat}, (∀ t, t < e → y t = y' t) → tz_mu n m y e = tz_mu n m y' e
  | 0, _ => rfl
  | e + 1, h => by
    unfold tz_mu
    rw [tz_mu_q (fun t ht => h t (by omega)), h e (Nat.lt_succ_self e)]
/-- what stands in the row: the sum of all ways till now, the codes -/
def tz_A (L a k : Nat → Int) (n m : Nat) (A : tz_Q) (w : Nat → Int) : Prop := w 1 = A.2.1 ∧ w 2 = A.2.2.1 ∧ ((A.1 = 1000000 ∧ w 0 = -6 ∧ w 3 = -6 ∧ w 4 = -6) ∨ ((0 ≤ A.1 ∧ A.1 < 1000000) ∧ w 0 = A.1 ∧ w 3 = tz_fr k n m A.2.2.2 ∧ w 4 = tz_hs a k n A.2.2.2 ∧ (∀ t, t < n → w (8 + t) = ((A.2.2.2 t : Nat) : Int)) ∧ A.1 = tz_ct L a k n m A.2.2.2))
/-- a code that was chosen, and the next one behind it -/
def tz_v (mh : Nat → Nat) (m : Nat) (y : Nat → Nat) (t : Nat) : Prop := 1 ≤ y t ∧ (y t - 1) % 8 + 1 ≤ mh ((y t - 1) / 8) ∧ (y t - 1) / 8 + ((y t - 1) % 8 + 1) ≤ m ∧ 8 * ((y t - 1) / 8 + ((y t - 1) % 8 + 1)) ≤ y (t + 1)
def tz_w (y : Nat → Nat) (t : Nat) : Prop := 8 * ((y t - 1) / 8 + ((y t - 1) % 8 + 1)) + 1 ≤ y (t + 1)
def tz_I (L a k : Nat → Int) (mh : Nat → Nat) (n m : Nat) (Z : tz_Q) (e : Nat) (y : Nat → Nat) (A : tz_Q) (w : Nat → Int) : Prop :=
  e ≤ n ∧ tz_A L a k n m A w ∧ (∀ t, t < e → w (16 + t) = ((y t : Nat) : Int) - 1) ∧ (∀ t, t < e → y t ≤ 8 * m) ∧ (∀ t, t + 1 < e → tz_v mh m y t ∧ (t + 2 < e → tz_w y t)) ∧ tz_F mh (tz_ct L a k n m) n m y e A = Z
theorem tz_A.le {L a k : Nat → Int} {n m : Nat} {A : tz_Q} {w : Nat → Int} (h : tz_A L a k n m A w) : A.1 ≤ 1000000 := by
  rcases h.2.2 with q | q <;> omega
theorem tz_A.q {L a k : Nat → Int} {n m : Nat} {A : tz_Q} {w w' : Nat → Int} (h : tz_A L a k n m A w) (hn : n ≤ 8) (hw : ∀ t, t < 16 → w' t = w t) : tz_A L a k n m A w' := by
  obtain ⟨h1, h2, h3⟩ := h
  refine ⟨by rw [hw 1 (by decide)]; exact h1, by rw [hw 2 (by decide)]; exact h2, ?_⟩
  rw [hw 0 (by decide), hw 3 (by decide), hw 4 (by decide)]
  rcases h3 with q | ⟨q1, q2, q3, q4, q5, q6⟩
  · exact Or.inl q
  · exact Or.inr ⟨q1, q2, q3, q4, fun t ht => by rw [hw (8 + t) (by omega)]; exact q5 t ht, q6⟩
/-- no code is left -/
theorem tz_pop {L a k : Nat → Int} {mh : Nat → Nat} {n m : Nat} {Z : tz_Q} {e : Nat} {y : Nat → Nat} {A : tz_Q} {w : Nat → Int} (h : tz_I L a k mh n m Z (e + 1) y A w) (hn : n ≤ 8) (hy : y e = 8 * m) (z : Int) : tz_I L a k mh n m Z e y A (tu_u w (16 + e) z) ∧ tz_mu n m y e < tz_mu n m y (e + 1) := by
  obtain ⟨h1, h2, h3, h4, h5, h6⟩ := h
  refine ⟨⟨by omega, h2.q hn (fun t ht => tu_u_n _ _ (by omega)), fun t ht => ?_, fun t ht => h4 t (by omega), fun t ht => ⟨(h5 t (by omega)).1, fun h9 => (h5 t (by omega)).2 (by omega)⟩, ?_⟩, ?_⟩
  · rw [tu_u_n _ _ (by omega)]; exact h3 t (by omega)
  · have e1 : tz_Y mh (tz_ct L a k n m) n m (n - e) (8 * m - y e) (fun t => y t - 1) = tz_no := by
      rw [hy, Nat.sub_self, show n - e = (n - e - 1) + 1 by omega]
      rfl
    unfold tz_F at h6
    rw [e1, tz_ri h2.le] at h6
    exact h6
  · have g : 0 < 80 ^ (n - e) := Nat.pow_pos (by decide)
    have e2 : tz_mu n m y (e + 1) = tz_mu n m y e + (8 * m + 1 - y e) * 80 ^ (n - e) := rfl
    rw [e2, hy, show 8 * m + 1 - 8 * m = 1 by omega, Nat.one_mul]
    omega
/-- one code more at the same syllable -/
def tz_n1 (y : Nat → Nat) (e : Nat) : Nat → Nat := fun t => if t = e then y e + 1 else y t
theorem tz_n1_mu {n m e : Nat} {y : Nat → Nat} (hy : y e < 8 * m) : tz_mu n m (tz_n1 y e) (e + 1) + 80 ^ (n - e) = tz_mu n m y (e + 1) := by
  have e2 : ∀ y : Nat → Nat, tz_mu n m y (e + 1) = tz_mu n m y e + (8 * m + 1 - y e) * 80 ^ (n - e) := fun _ => rfl
  rw [e2, e2, tz_mu_q (y := tz_n1 y e) (y' := y) (fun t ht => if_neg (show ¬ t = e by omega)), show tz_n1 y e e = y e + 1 from if_pos rfl]
  obtain ⟨d, hd⟩ : ∃ d, 8 * m + 1 - (y e + 1) = d := ⟨_, rfl⟩
  rw [hd, show 8 * m + 1 - y e = d + 1 by omega, Nat.add_mul, Nat.one_mul]
  omega
theorem tz_o_0 {mh : Nat → Nat} {m s : Nat} {f : Nat → (Nat → Nat) → tz_Q} {g : Nat → Nat} {x : Nat} (h : ¬ x % 8 + 1 ≤ mh (x / 8)) : tz_o mh m s f g x = tz_no := if_neg h
theorem tz_o_1 {mh : Nat → Nat} {m s : Nat} {f : Nat → (Nat → Nat) → tz_Q} {g : Nat → Nat} {x : Nat} (h : x % 8 + 1 ≤ mh (x / 8)) : tz_o mh m s f g x = f (8 * (m - (x / 8 + (x % 8 + 1)))) (tz_s g s x) := if_pos h
/-- the next code taken off -/
theorem tz_F_1 {mh : Nat → Nat} {ct : (Nat → Nat) → Int} {n m e : Nat} {y : Nat → Nat} {A : tz_Q} (he : e + 1 ≤ n) (hy : y e < 8 * m) : tz_F mh ct n m y (e + 1) A = tz_F mh ct n m (tz_n1 y e) (e + 1) (tz_ad A (tz_o mh m e (tz_Y mh ct n m (n - (e + 1))) (fun t => y t - 1) (y e))) := by
  have e1 : tz_Y mh ct n m (n - e) (8 * m - y e) (fun t => y t - 1) = tz_ad (tz_o mh m e (tz_Y mh ct n m (n - (e + 1))) (fun t => y t - 1) (y e)) (tz_Y mh ct n m (n - e) (8 * m - (y e + 1)) (fun t => y t - 1)) := by
    rw [show n - e = (n - (e + 1)) + 1 by omega]
    show tz_Y1 mh m (n - (n - (e + 1) + 1)) _ _ (8 * m - y e) = tz_ad _ (tz_Y1 mh m (n - (n - (e + 1) + 1)) _ _ (8 * m - (y e + 1)))
    rw [show n - (n - (e + 1) + 1) = e by omega, show 8 * m - y e = (8 * m - (y e + 1)) + 1 by omega]
    show tz_ad (tz_o mh m e _ _ (8 * m - (8 * m - (y e + 1) + 1))) _ = _
    rw [show 8 * m - (8 * m - (y e + 1) + 1) = y e by omega]
  show tz_F mh ct n m y e (tz_ad A (tz_Y mh ct n m (n - e) (8 * m - y e) (fun t => y t - 1))) = tz_F mh ct n m (tz_n1 y e) e (tz_ad _ (tz_Y mh ct n m (n - e) (8 * m - tz_n1 y e e) (fun t => tz_n1 y e t - 1)))
  rw [e1, ← tz_as, show tz_n1 y e e = y e + 1 from if_pos rfl, tz_Y_g (g := fun t => tz_n1 y e t - 1) (g' := fun t => y t - 1) (by omega) (fun t ht => by
    show tz_n1 y e t - 1 = y t - 1
    rw [show tz_n1 y e t = y t from if_neg (by omega)])]
  exact tz_F_q (by omega) (fun t ht => (if_neg (by omega)).symm)
theorem tz_n1_w {e : Nat} {y : Nat → Nat} {w : Nat → Int} (h3 : ∀ t, t < e + 1 → w (16 + t) = ((y t : Nat) : Int) - 1) : ∀ t, t < e + 1 → tu_u w (16 + e) ((y e : Nat) : Int) (16 + t) = ((tz_n1 y e t : Nat) : Int) - 1 := by
  intro t ht
  unfold tz_n1
  by_cases q : t = e
  · subst q
    rw [tu_u_s, if_pos rfl]; omega
  · rw [tu_u_n _ _ (by omega), if_neg q]; exact h3 t ht
theorem tz_n1_v {mh : Nat → Nat} {m e t : Nat} {y : Nat → Nat} (h : tz_v mh m y t) (ht : t + 1 < e + 1) : tz_v mh m (tz_n1 y e) t := by
  unfold tz_v at h ⊢
  rw [show tz_n1 y e t = y t from if_neg (by omega)]
  refine ⟨h.1, h.2.1, h.2.2.1, ?_⟩
  unfold tz_n1
  split
  · next q => rw [← q]; exact Nat.le_succ_of_le h.2.2.2
  · exact h.2.2.2
theorem tz_n1_w2 {e t : Nat} {y : Nat → Nat} (h : tz_w y t) (ht : t + 1 < e) : tz_w (tz_n1 y e) t := by
  unfold tz_w at h ⊢
  rw [show tz_n1 y e t = y t from if_neg (by omega), show tz_n1 y e (t + 1) = y (t + 1) from if_neg (by omega)]
  exact h
/-- a code that doesn't fit -/
theorem tz_miss {L a k : Nat → Int} {mh : Nat → Nat} {n m : Nat} {Z : tz_Q} {e : Nat} {y : Nat → Nat} {A : tz_Q} {w : Nat → Int} (h : tz_I L a k mh n m Z (e + 1) y A w) (hn : n ≤ 8) (hy : y e < 8 * m) (hf : ¬ y e % 8 + 1 ≤ mh (y e / 8)) : tz_I L a k mh n m Z (e + 1) (tz_n1 y e) A (tu_u w (16 + e) ((y e : Nat) : Int)) ∧ tz_mu n m (tz_n1 y e) (e + 1) < tz_mu n m y (e + 1) := by
  have hmu := tz_n1_mu (n := n) hy
  have g : 0 < 80 ^ (n - e) := Nat.pow_pos (by decide)
  obtain ⟨h1, h2, h3, h4, h5, h6⟩ := h
  refine ⟨⟨h1, h2.q hn (fun t ht => tu_u_n _ _ (by omega)), tz_n1_w h3, fun t ht => ?_, fun t ht => ?_, ?_⟩, by omega⟩
  · unfold tz_n1; split
    · omega
    · exact h4 t ht
  · exact ⟨tz_n1_v (h5 t ht).1 ht, fun h9 => tz_n1_w2 ((h5 t ht).2 h9) (by omega)⟩
  · rw [tz_F_1 h1 hy, tz_o_0 hf, tz_ri h2.le] at h6
    exact h6
def tz_p2 (y : Nat → Nat) (e x : Nat) : Nat → Nat := fun t => if t = e + 1 then x else tz_n1 y e t
theorem tz_p2_0 {y : Nat → Nat} {e x t : Nat} (h : t < e) : tz_p2 y e x t = y t := by
  unfold tz_p2 tz_n1
  rw [if_neg (by omega), if_neg (by omega)]
theorem tz_p2_1 {y : Nat → Nat} {e x : Nat} : tz_p2 y e x e = y e + 1 := by
  unfold tz_p2 tz_n1
  rw [if_neg (by omega), if_pos rfl]
/-- one syllable further -/
theorem tz_push {L a k : Nat → Int} {mh : Nat → Nat} {n m : Nat} {Z : tz_Q} {e : Nat} {y : Nat → Nat} {A : tz_Q} {w : Nat → Int} (h : tz_I L a k mh n m Z (e + 1) y A w) (hn : n ≤ 8) (hm : m ≤ 9) (hy : y e < 8 * m) (hf : y e % 8 + 1 ≤ mh (y e / 8)) (hmh : y e / 8 + (y e % 8 + 1) ≤ m) (he : e + 1 < n) :
    ∃ y2, tz_I L a k mh n m Z (e + 2) y2 A (tu_u (tu_u w (16 + e) ((y e : Nat) : Int)) (16 + (e + 1)) (8 * ((y e / 8 + (y e % 8 + 1) : Nat) : Int) - 1)) ∧ tz_mu n m y2 (e + 2) < tz_mu n m y (e + 1) := by
  have hmu := tz_n1_mu (n := n) hy
  obtain ⟨h1, h2, h3, h4, h5, h6⟩ := h
  have hw := tz_n1_w h3
  refine ⟨fun t => if t = e + 1 then 8 * (y e / 8 + (y e % 8 + 1)) else tz_n1 y e t, ⟨⟨by omega, h2.q hn (fun t ht => ?_), fun t ht => ?_, fun t ht => ?_, fun t ht => ?_, ?_⟩, ?_⟩⟩
  · rw [tu_u_n _ _ (by omega), tu_u_n _ _ (by omega)]
  · show _ = (((if t = e + 1 then 8 * (y e / 8 + (y e % 8 + 1)) else tz_n1 y e t) : Nat) : Int) - 1
    by_cases q : t = e + 1
    · subst q
      rw [tu_u_s, if_pos rfl]; omega
    · rw [tu_u_n _ _ (by omega), if_neg q]; exact hw t (by omega)
  · show (if t = e + 1 then _ else _) ≤ _
    split
    · omega
    · unfold tz_n1; split
      · omega
      · exact h4 t (by omega)
  · have a0 : ∀ t, t < e → tz_p2 y e (8 * (y e / 8 + (y e % 8 + 1))) t = y t := fun t ht => tz_p2_0 ht
    have a1 : tz_p2 y e (8 * (y e / 8 + (y e % 8 + 1))) e = y e + 1 := tz_p2_1
    have a2 : tz_p2 y e (8 * (y e / 8 + (y e % 8 + 1))) (e + 1) = 8 * (y e / 8 + (y e % 8 + 1)) := if_pos rfl
    show tz_v mh m (tz_p2 y e (8 * (y e / 8 + (y e % 8 + 1)))) t ∧ (t + 2 < e + 2 → tz_w (tz_p2 y e (8 * (y e / 8 + (y e % 8 + 1)))) t)
    rcases Nat.lt_trichotomy (t + 1) e with q | q | q
    · obtain ⟨g, g9⟩ := h5 t (by omega)
      unfold tz_v at g ⊢
      unfold tz_w at g9 ⊢
      rw [a0 t (by omega), a0 (t + 1) q]
      exact ⟨g, fun _ => g9 (by omega)⟩
    · obtain ⟨g, -⟩ := h5 t (by omega)
      unfold tz_v at g ⊢
      unfold tz_w
      have g4 := g.2.2.2
      rw [a0 t (by omega)]
      rw [q] at g4 ⊢
      rw [a1]
      exact ⟨⟨g.1, g.2.1, g.2.2.1, by omega⟩, fun _ => by omega⟩
    · have q9 : t = e := by omega
      rw [q9]
      unfold tz_v
      rw [a1, a2, Nat.add_sub_cancel]
      exact ⟨⟨by omega, hf, hmh, Nat.le_refl _⟩, fun h9 => by omega⟩
  · rw [tz_F_1 h1 hy, tz_o_1 hf] at h6
    rw [← h6]
    show tz_F mh _ n m _ (e + 1) (tz_ad A (tz_Y mh _ n m (n - (e + 1)) (8 * m - (if e + 1 = e + 1 then 8 * (y e / 8 + (y e % 8 + 1)) else _)) _)) = _
    rw [if_pos rfl, tz_F_q (y := fun t => if t = e + 1 then 8 * (y e / 8 + (y e % 8 + 1)) else tz_n1 y e t) (y' := tz_n1 y e) h1 (fun t ht => if_neg (show ¬ t = e + 1 by omega)), show 8 * m - 8 * (y e / 8 + (y e % 8 + 1)) = 8 * (m - (y e / 8 + (y e % 8 + 1))) by omega]
    rw [tz_Y_g (g' := tz_s (fun t => y t - 1) e (y e)) (by omega) (fun t ht => ?_)]
    show (if t = e + 1 then _ else tz_n1 y e t) - 1 = tz_s (fun t => y t - 1) e (y e) t
    rw [if_neg (by omega)]
    unfold tz_n1 tz_s
    split
    · omega
    · rfl
  · have e2 : ∀ y : Nat → Nat, tz_mu n m y (e + 2) = tz_mu n m y (e + 1) + (8 * m + 1 - y (e + 1)) * 80 ^ (n - (e + 1)) := fun _ => rfl
    rw [e2, tz_mu_q (y := fun t => if t = e + 1 then 8 * (y e / 8 + (y e % 8 + 1)) else tz_n1 y e t) (y' := tz_n1 y e) (fun t ht => if_neg (show ¬ t = e + 1 by omega))]
    have e3 : 80 ^ (n - e) = 80 * 80 ^ (n - (e + 1)) := by
      rw [show n - e = n - (e + 1) + 1 by omega, Nat.pow_succ, Nat.mul_comm]
    have g : 0 < 80 ^ (n - (e + 1)) := Nat.pow_pos (by decide)
    rw [e3] at hmu
    obtain ⟨d, hd⟩ : ∃ d, 8 * m + 1 - (if e + 1 = e + 1 then 8 * (y e / 8 + (y e % 8 + 1)) else tz_n1 y e (e + 1)) = d := ⟨_, rfl⟩
    show _ + (8 * m + 1 - (if e + 1 = e + 1 then 8 * (y e / 8 + (y e % 8 + 1)) else tz_n1 y e (e + 1))) * _ < _
    rw [hd]
    have h80 : d ≤ 73 := by omega
    have := Nat.mul_le_mul_right (80 ^ (n - (e + 1))) h80
    omega
/-- a way whole: it is counted -/
theorem tz_leaf {L a k : Nat → Int} {mh : Nat → Nat} {n m : Nat} {Z : tz_Q} {e : Nat} {y : Nat → Nat} {A : tz_Q} {w w' : Nat → Int} (h : tz_I L a k mh n m Z (e + 1) y A w) (hy : y e < 8 * m) (hf : y e % 8 + 1 ≤ mh (y e / 8)) (he : e + 1 = n)
    (hw : ∀ t, t < e + 1 → w' (16 + t) = ((tz_n1 y e t : Nat) : Int) - 1)
    (hA : tz_A L a k n m (tz_ad A (tz_ct L a k n m (tz_g n (fun t => tz_n1 y e t - 1)), 1, 1, tz_g n (fun t => tz_n1 y e t - 1))) w') :
    ∃ A2, tz_I L a k mh n m Z (e + 1) (tz_n1 y e) A2 w' ∧ tz_mu n m (tz_n1 y e) (e + 1) < tz_mu n m y (e + 1) := by
  have hmu := tz_n1_mu (n := n) hy
  have g : 0 < 80 ^ (n - e) := Nat.pow_pos (by decide)
  obtain ⟨h1, h2, h3, h4, h5, h6⟩ := h
  refine ⟨_, ⟨h1, hA, hw, fun t ht => ?_, fun t ht => ?_, ?_⟩, by omega⟩
  · unfold tz_n1; split
    · omega
    · exact h4 t ht
  · exact ⟨tz_n1_v (h5 t ht).1 ht, fun h9 => tz_n1_w2 ((h5 t ht).2 h9) (by omega)⟩
  · rw [tz_F_1 h1 hy, tz_o_1 hf] at h6
    rw [← h6]
    have e1 : tz_Y mh (tz_ct L a k n m) n m (n - (e + 1)) (8 * (m - (y e / 8 + (y e % 8 + 1)))) (tz_s (fun t => y t - 1) e (y e)) = (tz_ct L a k n m (tz_g n (fun t => tz_n1 y e t - 1)), 1, 1, tz_g n (fun t => tz_n1 y e t - 1)) := by
      rw [tz_Y_g (g' := fun t => tz_n1 y e t - 1) (by omega) (fun t ht => by
        show tz_s (fun t => y t - 1) e (y e) t = tz_n1 y e t - 1
        unfold tz_n1 tz_s
        split
        · omega
        · rfl), show n - (e + 1) = 0 by omega]
      rfl
    rw [e1]
