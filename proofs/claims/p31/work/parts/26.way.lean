theorem tu_mn_in {i : Int} {f : Nat → Int} : ∀ n, tu_mn i f n = i ∨ ∃ h, (1 ≤ h ∧ h ≤ n) ∧ tu_mn i f n = f h
  | 0 => Or.inl rfl
  | n + 1 => by
    have ih := tu_mn_in (i := i) (f := f) n
    unfold tu_mn
    rcases Int.le_total (tu_mn i f n) (f (n + 1)) with q | q
    · rw [Int.min_eq_left q]
      rcases ih with ih | ⟨h, h1, h2⟩
      · exact Or.inl ih
      · exact Or.inr ⟨h, by omega, h2⟩
    · rw [Int.min_eq_right q]
      exact Or.inr ⟨n + 1, by omega, rfl⟩
theorem tu_fs_p {p : Nat → Bool} : ∀ {n : Nat}, (tu_fs p n = 0 ∧ ∀ h, 1 ≤ h → h ≤ n → ¬ p h = true) ∨ ((1 ≤ tu_fs p n ∧ tu_fs p n ≤ n) ∧ p (tu_fs p n) = true ∧ ∀ h, 1 ≤ h → h < tu_fs p n → ¬ p h = true)
  | 0 => Or.inl ⟨rfl, fun h a b => by omega⟩
  | n + 1 => by
    rcases tu_fs_p (p := p) (n := n) with ⟨h1, h2⟩ | ⟨h1, h2, h3⟩
    · by_cases hp : p (n + 1) = true
      · have e := tu_fs_hit h1 hp (Nat.le_refl _)
        refine Or.inr ⟨by omega, by rw [e]; exact hp, fun h a b => h2 h a (by omega)⟩
      · refine Or.inl ⟨tu_fs_miss h1 hp, fun h a b => ?_⟩
        rcases Nat.lt_or_ge h (n + 1) with q | q
        · exact h2 h a (by omega)
        · rw [show h = n + 1 by omega]; exact hp
    · have e : tu_fs p (n + 1) = tu_fs p n := by
        show (if tu_fs p n ≠ 0 then tu_fs p n else _) = _
        rw [if_pos (by omega)]
      rw [e]
      exact Or.inr ⟨by omega, h2, h3⟩
theorem tu_ff_p {g : Nat → Nat} : ∀ (k b : Nat), (tu_ff g b k = b + k ∨ g (tu_ff g b k) ≠ 0) ∧ ∀ j, b ≤ j → j < tu_ff g b k → g j = 0
  | 0, b => ⟨Or.inl rfl, fun j h1 h2 => by simp only [tu_ff] at h2; omega⟩
  | k + 1, b => by
    by_cases h : g b ≠ 0
    · rw [tu_ff_h h]
      exact ⟨Or.inr h, fun j h1 h2 => by omega⟩
    · have h0 : g b = 0 := by omega
      rw [tu_ff_s h0]
      have ih := tu_ff_p (g := g) k (b + 1)
      refine ⟨ih.1.imp (fun e => by omega) id, fun j h1 h2 => ?_⟩
      rcases Nat.eq_or_lt_of_le h1 with q | q
      · rw [← q]; exact h0
      · exact ih.2 j q h2
/-- where a line can be laid the best way goes on from place to place -/
theorem tu_free {L a k r c : Nat → Int} {n m s b : Nat} (hK : tu_LK L a k r n m) (hT : tu_Tx L a k r n m c) (hs : s < n) (hb : b < m) (hc : c (s * 25 + b) < 1000000) (h0 : tu_hx L a k r c s b = 0) : c (s * 25 + b) = tu_cf L k c s b ∧ c (s * 25 + (b + 1)) ≤ c (s * 25 + b) := by
  have e := ((hT.2 s (Nat.zero_le _) hs).2 b (Nat.zero_le _) hb).1
  have hl := hK.2.2.2.2.2.1
  have hf : c (s * 25 + b) = tu_cf L k c s b := by
    rcases tu_mn_in (i := tu_cf L k c s b) (f := tu_ch L a k c s b) (tu_mh L r b) with q | ⟨h, h1, h2⟩
    · omega
    · rcases tu_fs_p (p := fun h => decide (tu_ch L a k c s b h = c (s * 25 + b))) (n := tu_mh L r b) with ⟨-, g⟩ | ⟨g, -⟩
      · exact absurd (decide_eq_true (show tu_ch L a k c s b h = c (s * 25 + b) by omega)) (g h h1.1 h1.2)
      · have : tu_fs (fun h => decide (tu_ch L a k c s b h = c (s * 25 + b))) (tu_mh L r b) = 0 := h0
        omega
  refine ⟨hf, ?_⟩
  rw [hf]
  unfold tu_cf
  rw [show s * 25 + (b + 1) = s * 25 + b + 1 by omega]
  split <;> omega
theorem tu_held {L a k r c : Nat → Int} {n m s b : Nat} (hK : tu_LK L a k r n m) (_hT : tu_Tx L a k r n m c) (_hs : s < n) (hb : b < m) (h0 : tu_hx L a k r c s b ≠ 0) : tu_ch L a k c s b (tu_hx L a k r c s b) = c (s * 25 + b) ∧ c ((s + 1) * 25 + (b + tu_hx L a k r c s b)) ≤ c (s * 25 + b) ∧ tu_hx L a k r c s b ≤ tu_mh L r b := by
  have hm := tu_mh_le hK hb
  obtain ⟨-, -, -, -, hd, -, hh, -⟩ := hK
  rcases tu_fs_p (p := fun h => decide (tu_ch L a k c s b h = c (s * 25 + b))) (n := tu_mh L r b) with ⟨g, -⟩ | ⟨g1, g2, -⟩
  · exact absurd g h0
  · have e : tu_ch L a k c s b (tu_hx L a k r c s b) = c (s * 25 + b) := of_decide_eq_true g2
    refine ⟨e, ?_, g1.2⟩
    have g1' : 1 ≤ tu_hx L a k r c s b ∧ tu_hx L a k r c s b ≤ tu_mh L r b := g1
    rw [← e]
    generalize tu_hx L a k r c s b = h at g1' ⊢
    have g2 : 0 ≤ L 1 * ((h : Int) - 1) := Int.mul_nonneg hd.1 (by omega)
    unfold tu_ch
    rw [show (s + 1) * 25 + (b + h) = (s + 1) * 25 + b + h by omega]
    split <;> omega
theorem tu_way {L a k r c : Nat → Int} {n m : Nat} (hK : tu_LK L a k r n m) (hT : tu_Tx L a k r n m c) (h0 : c 0 < 1000000) : ∀ s, s ≤ n → c (s * 25 + tu_wp L a k r c m s) < 1000000 ∧ (s < n → tu_wb L a k r c m s < m ∧ c (s * 25 + tu_wb L a k r c m s) < 1000000 ∧ tu_hx L a k r c s (tu_wb L a k r c m s) ≠ 0) := by
  have step : ∀ s, s < n → c (s * 25 + tu_wp L a k r c m s) < 1000000 → tu_wb L a k r c m s < m ∧ c (s * 25 + tu_wb L a k r c m s) < 1000000 ∧ tu_hx L a k r c s (tu_wb L a k r c m s) ≠ 0 := by
    intro s hs hc
    have hw := tu_wp_le (c := c) hK s
    have hff := tu_ff_p (g := tu_hx L a k r c s) (m - tu_wp L a k r c m s) (tu_wp L a k r c m s)
    have hle := tu_ff_le (tu_hx L a k r c s) (m - tu_wp L a k r c m s) (tu_wp L a k r c m s)
    change (tu_wb L a k r c m s = _ ∨ tu_hx L a k r c s (tu_wb L a k r c m s) ≠ 0) ∧ ∀ j, _ → j < tu_wb L a k r c m s → _ at hff
    change tu_wp L a k r c m s ≤ tu_wb L a k r c m s ∧ _ at hle
    have go : ∀ d, tu_wp L a k r c m s + d ≤ tu_wb L a k r c m s → c (s * 25 + (tu_wp L a k r c m s + d)) < 1000000 := by
      intro d
      induction d with
      | zero => intro _; exact hc
      | succ d ih =>
        intro hd
        have ih := ih (by omega)
        have hz := hff.2 (tu_wp L a k r c m s + d) (by omega) (by omega)
        have g := (tu_free hK hT hs (by omega) ih hz).2
        rw [show tu_wp L a k r c m s + (d + 1) = tu_wp L a k r c m s + d + 1 by omega]
        omega
    have hcb := go (tu_wb L a k r c m s - tu_wp L a k r c m s) (by omega)
    rw [show tu_wp L a k r c m s + (tu_wb L a k r c m s - tu_wp L a k r c m s) = tu_wb L a k r c m s by omega] at hcb
    have hlt : tu_wb L a k r c m s < m := by
      rcases Nat.lt_or_ge (tu_wb L a k r c m s) m with q | q
      · exact q
      · exfalso
        rw [show tu_wb L a k r c m s = m by omega, (hT.2 s (Nat.zero_le _) hs).1] at hcb
        omega
    refine ⟨hlt, hcb, ?_⟩
    rcases hff.1 with q | q
    · omega
    · exact q
  intro s
  induction s with
  | zero =>
    intro _
    have hc : c (0 * 25 + tu_wp L a k r c m 0) < 1000000 := by
      show c (0 * 25 + 0) < _
      simpa using h0
    exact ⟨hc, fun hs => step 0 hs hc⟩
  | succ s ih =>
    intro hs
    obtain ⟨hc, h1⟩ := ih (by omega)
    obtain ⟨h1, h2, h3⟩ := h1 (by omega)
    have hc : c ((s + 1) * 25 + tu_wp L a k r c m (s + 1)) < 1000000 := by
      rw [tu_wp_s]
      unfold tu_wl
      rw [if_pos h1]
      have := (tu_held hK hT (by omega) h1 h3).2.1
      omega
    exact ⟨hc, fun hs => step _ hs hc⟩
/-- the lowest of several, the first of them; -6 if there is none below the mark -/
def tu_bp (z : Int) (f : Nat → Int) : Nat → Int × Int
  | 0 => (-6, z)
  | p + 1 => if f p < (tu_bp z f p).2 then ((p : Int), f p) else tu_bp z f p
theorem tu_bp_q {z : Int} {f g : Nat → Int} : ∀ {n : Nat}, (∀ p, p < n → f p = g p) → tu_bp z f n = tu_bp z g n
  | 0, _ => rfl
  | n + 1, h => by
    unfold tu_bp
    rw [tu_bp_q (n := n) (fun p hp => h p (by omega)), h n (by omega)]
/-- the rows that laying uses for itself -/
def tu_sc (M N : tu_M) : Prop := ∀ i, (i < 11 ∨ 18 < i) → N i = M i
theorem tu_sc.rf (M : tu_M) : tu_sc M M := fun _ _ => rfl
theorem tu_sc.row {M N : tu_M} (h : tu_sc M N) {j : Nat} (f : Nat → Int) (hj : 11 ≤ j ∧ j ≤ 18) : tu_sc M (tu_row N j f) := fun i hi => by
  rw [tu_row_n _ _ (by omega)]; exact h i hi
def tu_TK (B : Nat → Nat → Int) (l p : Nat) (L a k : Nat → Int) : Prop := (L 0 = B 1 0 ∧ L 1 = B 1 1 ∧ L 2 = B 1 2 ∧ L 3 = B 1 3) ∧ (∀ s, s < tu_nl B l → a s = tu_al B l s) ∧ (∀ b, b < tu_np B p → k b = tu_kp B p b)
theorem tu_TK.co {B : Nat → Nat → Int} {l p : Nat} {L a k r c : Nat → Int} (h : tu_TK B l p L a k) (hK : tu_LK L a k r (tu_nl B l) (tu_np B p)) (hT : tu_Tx L a k r (tu_nl B l) (tu_np B p) c) : c 0 = tu_co B l p := by
  rw [hT.cx hK]
  exact tu_cx_q h.1.1 h.1.2.1 h.1.2.2.1 h.1.2.2.2 h.2.1 h.2.2
