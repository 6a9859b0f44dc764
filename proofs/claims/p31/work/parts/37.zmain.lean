theorem tz_main {L a k r c : Nat → Int} {n m : Nat} (hK : tu_LK L a k r n m) (hT : tu_Tx L a k r n m c) (hm : m ≤ 9) : ∀ (j s : Nat), s + j = n → ∀ (e b : Nat), b + e = m → ∀ g : Nat → Nat, (0 ≤ tz_pc L a k s b g ∧ tz_pc L a k s b g ≤ 83 * (s : Int) + 9 * (b : Int)) → tz_S L a k r c n m j s b e g (tz_Y (tu_mh L r) (tz_ct L a k n m) n m j (8 * e) g)
  | 0, s, hs, e, b, hb, g, hpc => by
    have es : s = n := by omega
    subst es
    have h0 := tz_R0 hT.1 e (by omega)
    have hcb := tz_cb hK hT 0 (by omega) e (by omega)
    rw [show m - e = b by omega] at h0 hcb
    rw [Nat.sub_zero] at hcb
    have hlt : c (s * 25 + b) < 1000000 := by
      rcases Nat.eq_zero_or_pos e with q | q
      · have e2 := hT.1.1
        rw [show b = m by omega, e2]; decide
      · have g2 := (hT.1.2 b (Nat.zero_le _) (by omega)).2
        have := hK.2.2.1
        omega
    have h3 : (1 : Int) ≤ ((3 ^ e : Nat) : Int) := by
      have := Nat.pow_pos (n := e) (show 0 < 3 by decide)
      omega
    refine ⟨fun v hV => (hV.1 b (by omega)).symm, ⟨by show (0 : Int) ≤ 1; decide, h3⟩, ⟨by show (0 : Int) ≤ 1; decide, Int.le_refl _⟩, Or.inr ⟨hlt, ?_, fun v hV => (hV.1 b (by omega)).symm, fun t ht => if_pos ht, trivial⟩⟩
    show tz_ct L a k s m (tz_g s g) = _
    rw [tz_ct_p, tz_pd_q (L := L) (a := a) (k := k) (s := s) (g := tz_g s g) (g' := g) (fun t ht => if_pos ht)]
    unfold tz_pc
    omega
  | j + 1, s, hs, 0, b, hb, g, hpc => by
    have eb : b = m := by omega
    subst eb
    have h0 := (hT.2 s (Nat.zero_le _) (by omega)).1
    exact ⟨fun v hV => ((hV.2 s (Nat.zero_le _) (by omega)).1).symm, ⟨Int.le_refl _, by show (0 : Int) ≤ 1; decide⟩, ⟨Int.le_refl _, Int.le_refl _⟩, Or.inl ⟨h0, rfl, rfl⟩⟩
  | j + 1, s, hs, e + 1, b, hb, g, hpc => by
    have hM := tu_mh_le hK (b := b) (by omega)
    show tz_S L a k r c n m (j + 1) s b (e + 1) g (tz_Y1 (tu_mh L r) m (n - (j + 1)) (tz_Y (tu_mh L r) (tz_ct L a k n m) n m j) g (8 * (e + 1)))
    rw [tz_Y1_e (by omega), show n - (j + 1) = s by omega, show m - (e + 1) = b by omega]
    refine tz_step hK hT hm hs hb hpc (fun i hi => ?_) (fun i hi h8 => ?_) ?_
    · show tz_S L a k r c n m j (s + 1) (b + (i + 1)) (e - i) (tz_s g s (8 * b + i)) (tz_o (tu_mh L r) m s (tz_Y (tu_mh L r) (tz_ct L a k n m) n m j) g (8 * b + i))
      unfold tz_o
      rw [show (8 * b + i) % 8 = i by omega, show (8 * b + i) / 8 = b by omega, if_pos (show i + 1 ≤ tu_mh L r b by omega), show m - (b + (i + 1)) = e - i by omega]
      refine tz_main hK hT hm j (s + 1) (by omega) (e - i) (b + (i + 1)) (by omega) (tz_s g s (8 * b + i)) ?_
      obtain ⟨x, hx, ex, ec⟩ := tz_held hK c s b i (by omega)
      have g1 : tz_s g s (8 * b + i) s = 8 * b + i := if_pos rfl
      have e1 : tz_pd L a k (s + 1) (tz_s g s (8 * b + i)) = tz_pd L a k s g + (L 1 * (i : Int) + (if ¬ (a s = 1 ↔ k b = 2) then L 3 else 0) - L 2 * ((i + 1 : Nat) : Int)) := by
        show tz_pd L a k s (tz_s g s (8 * b + i)) + (L 1 * ((tz_s g s (8 * b + i) s % 8 : Nat) : Int) + (if ¬ (a s = 1 ↔ k (tz_s g s (8 * b + i) s / 8) = 2) then L 3 else 0) - L 2 * ((tz_s g s (8 * b + i) s % 8 + 1 : Nat) : Int)) = _
        rw [g1, show (8 * b + i) % 8 = i by omega, show (8 * b + i) / 8 = b by omega, tz_pd_q (L := L) (a := a) (k := k) (s := s) (g := tz_s g s (8 * b + i)) (g' := g) (fun t ht => if_neg (show ¬ t = s by omega))]
      unfold tz_pc at hpc ⊢
      rw [e1, tz_run L k b (i + 1) (fun q hq => tz_mh_k hK (by omega) (by omega))]
      rw [show ((s + 1 : Nat) : Int) = (s : Int) + 1 from rfl, show ((b + (i + 1) : Nat) : Int) = (b : Int) + ((i : Int) + 1) from by omega]
      omega
    · show tz_o _ _ _ _ _ (8 * b + i) = tz_no
      unfold tz_o
      rw [show (8 * b + i) % 8 = i by omega, show (8 * b + i) / 8 = b by omega, if_neg (by omega)]
    · have e2 : tz_Y1 (tu_mh L r) m s (tz_Y (tu_mh L r) (tz_ct L a k n m) n m j) g (8 * e) = tz_Y (tu_mh L r) (tz_ct L a k n m) n m (j + 1) (8 * e) g := by
        show _ = tz_Y1 (tu_mh L r) m (n - (j + 1)) (tz_Y (tu_mh L r) (tz_ct L a k n m) n m j) g (8 * e)
        rw [show n - (j + 1) = s by omega]
      rw [e2]
      refine tz_main hK hT hm (j + 1) s hs e (b + 1) (by omega) g ?_
      obtain ⟨x0, hx0, ex0, ec0⟩ := tz_skip hK c s b
      unfold tz_pc at hpc ⊢
      have e3 : tz_pk L k (b + 1) = tz_pk L k b + x0 := by rw [ex0]; rfl
      rw [e3, show ((b + 1 : Nat) : Int) = (b : Int) + 1 from rfl]
      omega
/-- the best way, syllable by syllable -/
theorem tz_P_wp {L a k r c : Nat → Int} {m : Nat} {F : Nat → Nat} : ∀ (j s : Nat), tz_P L a k r c m j s (tu_wp L a k r c m s) F → (∀ t, t < s + j → tu_wb L a k r c m t < m) → ∀ t, s ≤ t → t < s + j → F t = 8 * tu_wb L a k r c m t + (tu_wl L a k r c m t - 1)
  | 0, s, _, _, t, h1, h2 => by omega
  | j + 1, s, h, hw, t, h1, h2 => by
    obtain ⟨e1, e2⟩ := h
    have hb : tu_ff (tu_hx L a k r c s) (tu_wp L a k r c m s) (m - tu_wp L a k r c m s) = tu_wb L a k r c m s := rfl
    have hl : tu_hx L a k r c s (tu_wb L a k r c m s) = tu_wl L a k r c m s := by
      unfold tu_wl
      rw [if_pos (hw s (by omega))]
    rw [hb, hl] at e1 e2
    rw [← tu_wp_s] at e2
    rcases Nat.eq_or_lt_of_le h1 with q | q
    · rw [← q]; exact e1
    · exact tz_P_wp j (s + 1) e2 (fun t ht => hw t (by omega)) t (by omega) (by omega)
/-- what lay finds is what the tables say -/
theorem tz_res {L a k r c : Nat → Int} {n m : Nat} (hK : tu_LK L a k r n m) (hT : tu_Tx L a k r n m c) (hm : m ≤ 9) (g : Nat → Nat) : (c 0 = 1000000 ∧ (tz_Y (tu_mh L r) (tz_ct L a k n m) n m n (8 * m) g).1 = 1000000 ∧ (tz_Y (tu_mh L r) (tz_ct L a k n m) n m n (8 * m) g).2.1 = 0 ∧ (tz_Y (tu_mh L r) (tz_ct L a k n m) n m n (8 * m) g).2.2.1 = 0) ∨
    (c 0 < 1000000 ∧ (tz_Y (tu_mh L r) (tz_ct L a k n m) n m n (8 * m) g).1 = c 0 ∧ (∀ v, tu_Vx L a k r c 0 n m v → (tz_Y (tu_mh L r) (tz_ct L a k n m) n m n (8 * m) g).2.1 = v 0) ∧ (∀ v, tu_Vx L a k r c 1 n m v → (tz_Y (tu_mh L r) (tz_ct L a k n m) n m n (8 * m) g).2.2.1 = v 0) ∧ ∀ t, t < n → 1 ≤ tu_wl L a k r c m t ∧ (tz_Y (tu_mh L r) (tz_ct L a k n m) n m n (8 * m) g).2.2.2 t = 8 * tu_wb L a k r c m t + (tu_wl L a k r c m t - 1)) := by
  have h := tz_main hK hT hm n 0 (Nat.zero_add _) m 0 (Nat.zero_add _) g ⟨Int.le_refl _, Int.le_refl _⟩
  obtain ⟨h1, h2, h3, h4⟩ := h
  rcases h4 with ⟨g1, g2, g3⟩ | ⟨g1, g2, g3, g4, g5⟩
  · exact Or.inl ⟨g1, g2, g3, by omega⟩
  · have hw := tu_way hK hT g1
    refine Or.inr ⟨g1, ?_, h1, g3, fun t ht => ⟨tu_wl_pos hK t ((hw t (by omega)).2 ht).1, tz_P_wp n 0 g5 (fun q hq => ((hw q (by omega)).2 (by omega)).1) t (Nat.zero_le _) (by omega)⟩⟩
    rw [g2]
    show (0 + 0) + c 0 = c 0
    omega
/-- what can be laid costs less than the mark: every kind of Q that is met -/
theorem tz_Y_le {mh : Nat → Nat} {ct : (Nat → Nat) → Int} {n m : Nat} {f : Nat → (Nat → Nat) → tz_Q} {s : Nat} {g : Nat → Nat} : ∀ u, (tz_Y1 mh m s f g u).1 ≤ 1000000
  | 0 => Int.le_refl _
  | u + 1 => by
    show (tz_ad (tz_o mh m s f g (8 * m - (u + 1))) (tz_Y1 mh m s f g u)).1 ≤ _
    exact Int.le_trans tz_le.2 (tz_Y_le (mh := mh) (ct := ct) (n := n) u)
