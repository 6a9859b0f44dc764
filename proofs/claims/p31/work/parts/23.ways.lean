/-! counting the ways: v over the costs c; w = 0: all of them -/
def tu_wf (L a k r c v : Nat → Int) (w : Int) (s b : Nat) : Int := min (tu_sw (if w = 0 ∨ tu_cf L k c s b = c (s * 25 + b) then v (s * 25 + b + 1) else 0) (fun h => if w = 0 ∨ tu_ch L a k c s b h = c (s * 25 + b) then v ((s + 1) * 25 + b + h) else 0) (tu_mh L r b)) 1000000
def tu_VB (L a k r c : Nat → Int) (w : Int) (m s j : Nat) (v : Nat → Int) : Prop := v (s * 25 + m) = 0 ∧ ∀ b, j ≤ b → b < m → v (s * 25 + b) = tu_wf L a k r c v w s b ∧ 0 ≤ v (s * 25 + b)
def tu_V0 (n m : Nat) (v : Nat → Int) : Prop := ∀ b, b ≤ m → v (n * 25 + b) = 1
def tu_VS (L a k r c : Nat → Int) (w : Int) (n m s : Nat) (v : Nat → Int) : Prop := ∀ t, s ≤ t → t < n → tu_VB L a k r c w m t 0 v
theorem tu_sw_bd {i B : Int} {f : Nat → Int} : ∀ {n : Nat}, 0 ≤ i → i ≤ B → (∀ h, 1 ≤ h → h ≤ n → 0 ≤ f h ∧ f h ≤ B) → 0 ≤ tu_sw i f n ∧ tu_sw i f n ≤ B + B * n
  | 0, a, b, _ => ⟨a, by simp only [tu_sw]; omega⟩
  | n + 1, a, b, h => by
    have ih := tu_sw_bd (n := n) a b (fun q h1 h2 => h q h1 (by omega))
    have g := h (n + 1) (by omega) (Nat.le_refl _)
    have e : B * ((n + 1 : Nat) : Int) = B * (n : Int) + B := by
      rw [Int.natCast_add, Int.mul_add]; simp
    unfold tu_sw
    omega
theorem tu_wf_q {L a k r c v v' : Nat → Int} {w : Int} {s b : Nat} (h1 : v' (s * 25 + b + 1) = v (s * 25 + b + 1)) (h2 : ∀ h, 1 ≤ h → h ≤ tu_mh L r b → v' ((s + 1) * 25 + b + h) = v ((s + 1) * 25 + b + h)) : tu_wf L a k r c v' w s b = tu_wf L a k r c v w s b := by
  unfold tu_wf
  rw [h1, tu_sw_q (f := fun h => if w = 0 ∨ tu_ch L a k c s b h = c (s * 25 + b) then v' ((s + 1) * 25 + b + h) else 0) (fun h g1 g2 => by rw [h2 h g1 g2])]
theorem tu_V0.q {n m : Nat} {v v' : Nat → Int} (h : tu_V0 n m v) (e : ∀ i, n * 25 ≤ i → v' i = v i) : tu_V0 n m v' := fun b hb => by rw [e _ (by omega)]; exact h b hb
theorem tu_VB.q {L a k r c v v' : Nat → Int} {w : Int} {m s j : Nat} (h : tu_VB L a k r c w m s j v) (e : ∀ i, s * 25 + j ≤ i → v' i = v i) (hj : j ≤ m) : tu_VB L a k r c w m s j v' := by
  refine ⟨by rw [e _ (by omega)]; exact h.1, fun b h1 h2 => ?_⟩
  rw [e _ (by omega), tu_wf_q (e _ (by omega)) (fun q _ _ => e _ (by omega))]
  exact h.2 b h1 h2
theorem tu_VS.q {L a k r c v v' : Nat → Int} {w : Int} {n m s : Nat} (h : tu_VS L a k r c w n m s v) (e : ∀ i, s * 25 ≤ i → v' i = v i) : tu_VS L a k r c w n m s v' := fun t h1 h2 => (h t h1 h2).q (fun i hi => e i (by omega)) (Nat.zero_le _)
theorem tu_VB.bd {L a k r c v : Nat → Int} {w : Int} {m s j : Nat} (h : tu_VB L a k r c w m s j v) {b : Nat} (h1 : j ≤ b) (h2 : b ≤ m) : 0 ≤ v (s * 25 + b) ∧ v (s * 25 + b) ≤ 1000000 := by
  rcases Nat.lt_or_ge b m with q | q
  · have := h.2 b h1 q
    unfold tu_wf at this
    omega
  · rw [show b = m by omega, h.1]; omega
theorem tu_nv_bd {L a k r c v : Nat → Int} {w : Int} {n m s : Nat} (h0 : tu_V0 n m v) (hS : tu_VS L a k r c w n m (s + 1) v) (hs : s < n) {b : Nat} (hb : b ≤ m) : 0 ≤ v ((s + 1) * 25 + b) ∧ v ((s + 1) * 25 + b) ≤ 1000000 := by
  rcases Nat.lt_or_ge (s + 1) n with q | q
  · exact (hS (s + 1) (Nat.le_refl _) q).bd (Nat.zero_le _) hb
  · rw [show s + 1 = n by omega, h0 b hb]; omega
/-- what waysFrom asks of the row: no number in it is too great -/
def tu_vd2 (v : Nat → Int) (m s b : Nat) : Prop := (0 ≤ v (s * 25 + b + 1) ∧ v (s * 25 + b + 1) ≤ 1000000) ∧ ∀ q, q ≤ m → 0 ≤ v ((s + 1) * 25 + q) ∧ v ((s + 1) * 25 + q) ≤ 1000000
theorem tu_if_bd {c : Prop} [Decidable c] {x B : Int} (h : 0 ≤ x ∧ x ≤ B) (hB : 0 ≤ B) : 0 ≤ (if c then x else 0) ∧ (if c then x else 0) ≤ B := by split <;> omega
theorem tu_wf_0 {L a k r c v : Nat → Int} {w : Int} {n m s b : Nat} (hK : tu_LK L a k r n m) (hb : b < m) (h : tu_vd2 v m s b) : 0 ≤ tu_wf L a k r c v w s b := by
  have e := tu_mh_le hK hb
  have g := tu_sw_bd (i := if w = 0 ∨ tu_cf L k c s b = c (s * 25 + b) then v (s * 25 + b + 1) else 0) (f := fun h => if w = 0 ∨ tu_ch L a k c s b h = c (s * 25 + b) then v ((s + 1) * 25 + b + h) else 0) (B := 1000000) (n := tu_mh L r b) (tu_if_bd h.1 (by decide)).1 (tu_if_bd h.1 (by decide)).2 (fun q h1 h2 => by
    have := h.2 (b + q) (by omega)
    rw [show (s + 1) * 25 + (b + q) = (s + 1) * 25 + b + q by omega] at this
    exact tu_if_bd this (by decide))
  unfold tu_wf
  omega
theorem tu_VB_s {L a k r c v : Nat → Int} {w z : Int} {n m s i p : Nat} (hK : tu_LK L a k r n m) (hB : tu_VB L a k r c w m s i v) (hS : tu_VS L a k r c w n m (s + 1) v) (h0 : tu_V0 n m v) (hs : s < n) (hi : 1 ≤ i) (hm : i ≤ m) (hz : z = tu_wf L a k r c v w s (i - 1)) (hp : p = s * 25 + (i - 1) := by rfl) : tu_VB L a k r c w m s (i - 1) (tu_u v p z) := by
  subst hp
  have e : ∀ q, s * 25 + i ≤ q → tu_u v (s * 25 + (i - 1)) z q = v q := fun q hq => tu_u_n _ _ (by omega)
  have h2 := hB.q e hm
  refine ⟨h2.1, fun b h1 hb => ?_⟩
  rcases Nat.eq_or_lt_of_le h1 with q | q
  · subst q
    rw [tu_u_s, tu_wf_q (e _ (by omega)) (fun q _ _ => e _ (by omega))]
    refine ⟨hz, ?_⟩
    rw [hz]
    refine tu_wf_0 hK (by omega) ⟨?_, fun q hq => tu_nv_bd h0 hS hs hq⟩
    have g := hB.bd (Nat.le_refl _) hm
    rw [show s * 25 + (i - 1) + 1 = s * 25 + i by omega]
    exact g
  · exact h2.2 b (by omega) hb
theorem tu_VS_s {L a k r c v : Nat → Int} {w : Int} {n m j : Nat} (h : tu_VS L a k r c w n m j v) (hB : tu_VB L a k r c w m (j - 1) 0 v) : tu_VS L a k r c w n m (j - 1) v := by
  intro t h1 h2
  rcases Nat.eq_or_lt_of_le h1 with q | q
  · rw [← q]; exact hB
  · exact h t (by omega) h2
def tu_Vx (L a k r c : Nat → Int) (w : Int) (n m : Nat) (v : Nat → Int) : Prop := tu_V0 n m v ∧ tu_VS L a k r c w n m 0 v
theorem tu_Tx.bd {L a k r c : Nat → Int} {n m s b : Nat} (h : tu_Tx L a k r n m c) (hm : m ≤ 24) (hs : s ≤ n) (hb : b ≤ m) : 0 ≤ c (s * 25 + b) ∧ c (s * 25 + b) ≤ 1000000 := by
  rcases Nat.lt_or_ge s n with q | q
  · exact (h.2 s (Nat.zero_le _) q).bd (Nat.zero_le _) hb
  · have e : s = n := by omega
    rw [e]
    have := h.1.bd hm (Nat.zero_le _) hb
    omega
theorem tu_Tx.cf {L a k r c : Nat → Int} {n m s b : Nat} (hK : tu_LK L a k r n m) (h : tu_Tx L a k r n m c) (hs : s ≤ n) (hb : b < m) : 0 ≤ tu_cf L k c s b ∧ tu_cf L k c s b ≤ 1000009 := by
  have g := h.bd hK.2.2.1.2 hs (b := b + 1) hb
  have hl := hK.2.2.2.2.2.1
  unfold tu_cf
  rw [show s * 25 + b + 1 = s * 25 + (b + 1) by omega]
  split <;> omega
theorem tu_Tx.ch {L a k r c : Nat → Int} {n m s b q : Nat} (hK : tu_LK L a k r n m) (h : tu_Tx L a k r n m c) (hs : s < n) (hb : b < m) (h1 : 1 ≤ q) (h2 : q ≤ tu_mh L r b) : 0 ≤ tu_ch L a k c s b q ∧ tu_ch L a k c s b q ≤ 1000083 :=
  tu_ch_bd hK h.1 (fun t g1 g2 => h.2 t (Nat.zero_le _) g2) hs hb h1 h2
theorem tu_wp_le {L a k r c : Nat → Int} {n m : Nat} (hK : tu_LK L a k r n m) : ∀ s, tu_wp L a k r c m s ≤ m ∧ tu_wb L a k r c m s ≤ m ∧ tu_wb L a k r c m s + tu_wl L a k r c m s ≤ m := by
  have step : ∀ s, tu_wp L a k r c m s ≤ m → tu_wb L a k r c m s ≤ m ∧ tu_wb L a k r c m s + tu_wl L a k r c m s ≤ m := by
    intro s h
    have h1 := tu_ff_le (tu_hx L a k r c s) (m - tu_wp L a k r c m s) (tu_wp L a k r c m s)
    have h2 : tu_wb L a k r c m s ≤ m := by unfold tu_wb; omega
    refine ⟨h2, ?_⟩
    unfold tu_wl
    split
    · next q =>
      have e := tu_mh_le hK q
      have g := tu_fs_le (fun h => decide (tu_ch L a k c s (tu_wb L a k r c m s) h = c (s * 25 + tu_wb L a k r c m s))) (tu_mh L r (tu_wb L a k r c m s))
      show _ + tu_fs _ _ ≤ m
      omega
    · omega
  intro s
  induction s with
  | zero => exact ⟨Nat.zero_le _, step 0 (Nat.zero_le _)⟩
  | succ s ih =>
    have h : tu_wp L a k r c m (s + 1) ≤ m := by rw [tu_wp_s]; exact ih.2.2
    exact ⟨h, step _ h⟩
theorem tu_sw_p {i x : Int} {f : Nat → Int} {k : Nat} (h : f (k + 1) = x) : tu_sw i f k + x = tu_sw i f (k + 1) := by rw [← h]; rfl
theorem tu_sw_z {i : Int} {f : Nat → Int} {k : Nat} (h : f (k + 1) = 0) : tu_sw i f k = tu_sw i f (k + 1) := by
  show _ = tu_sw i f k + f (k + 1)
  rw [h, Int.add_zero]
theorem tu_sw_0p {i x : Int} {f : Nat → Int} (h : i = x) : 0 + x = tu_sw i f 0 := by rw [Int.zero_add, ← h]; rfl
theorem tu_sw_0z {i : Int} {f : Nat → Int} (h : i = 0) : 0 = tu_sw i f 0 := h.symm
theorem tu_sm_p {x : Int} {f : Nat → Int} {k : Nat} (h : f k = x) : tu_sm f k + x = tu_sm f (k + 1) := by rw [← h]; rfl
theorem tu_sm_z {f : Nat → Int} {k : Nat} (h : f k = 0) : tu_sm f k = tu_sm f (k + 1) := by
  show _ = tu_sm f k + f k
  rw [h, Int.add_zero]
theorem tu_ff_s {g : Nat → Nat} {b k : Nat} (h : g b = 0) : tu_ff g b (k + 1) = tu_ff g (b + 1) k := by
  show (if g b ≠ 0 then b else tu_ff g (b + 1) k) = _
  rw [if_neg (by omega)]
theorem tu_ff_h {g : Nat → Nat} {b k : Nat} (h : g b ≠ 0) : tu_ff g b (k + 1) = b := by
  show (if g b ≠ 0 then b else tu_ff g (b + 1) k) = _
  rw [if_pos h]
theorem tu_ff_n {g : Nat → Nat} : ∀ (k b : Nat), tu_ff g b k < b + k → g (tu_ff g b k) ≠ 0
  | 0, b, h => absurd h (by simp only [tu_ff]; omega)
  | k + 1, b, h => by
    by_cases h0 : g b = 0
    · rw [tu_ff_s h0] at h ⊢
      exact tu_ff_n k (b + 1) (by omega)
    · rw [tu_ff_h h0]; exact h0
/-- a syllable that begins on a beat has one -/
theorem tu_wl_pos {L a k r c : Nat → Int} {n m : Nat} (hK : tu_LK L a k r n m) (s : Nat) (h : tu_wb L a k r c m s < m) : 0 < tu_wl L a k r c m s := by
  have g := (tu_wp_le (c := c) hK s).1
  have q := tu_ff_n (g := tu_hx L a k r c s) (m - tu_wp L a k r c m s) (tu_wp L a k r c m s) (by
    show tu_wb L a k r c m s < _
    omega)
  have q : tu_hx L a k r c s (tu_wb L a k r c m s) ≠ 0 := q
  unfold tu_wl
  rw [if_pos h]
  omega
theorem tu_hx_le {L a k r c : Nat → Int} {n m b : Nat} (hK : tu_LK L a k r n m) (s : Nat) (hb : b < m) : tu_hx L a k r c s b ≤ 8 ∧ b + tu_hx L a k r c s b ≤ m := by
  have e := tu_mh_le hK hb
  have g := tu_fs_le (fun h => decide (tu_ch L a k c s b h = c (s * 25 + b))) (tu_mh L r b)
  show tu_fs _ _ ≤ 8 ∧ b + tu_fs _ _ ≤ m
  omega
