/-! the ways from a beat on: the tables of the laying say the same -/
theorem tz_pow {e m : Nat} (h : e ≤ m) (hm : m ≤ 9) : ((3 ^ e : Nat) : Int) ≤ 19683 := by
  have := Nat.pow_le_pow_right (n := 3) (by decide) (show e ≤ 9 by omega)
  have e9 : 3 ^ 9 = 19683 := by decide
  omega
set_option maxHeartbeats 4000000 in
theorem tz_step {L a k r c : Nat → Int} {n m j s b e : Nat} {g : Nat → Nat} {O : Nat → tz_Q} {Sk : tz_Q} (hK : tu_LK L a k r n m) (hT : tu_Tx L a k r n m c) (hm : m ≤ 9) (hs : s + (j + 1) = n) (hb : b + (e + 1) = m) (hpc : 0 ≤ tz_pc L a k s b g ∧ tz_pc L a k s b g ≤ 83 * (s : Int) + 9 * (b : Int))
    (hO1 : ∀ i, i < tu_mh L r b → tz_S L a k r c n m j (s + 1) (b + (i + 1)) (e - i) (tz_s g s (8 * b + i)) (O i)) (hO0 : ∀ i, tu_mh L r b ≤ i → i < 8 → O i = tz_no)
    (hS : tz_S L a k r c n m (j + 1) s (b + 1) e g Sk) : tz_S L a k r c n m (j + 1) s b (e + 1) g (tz_ad (tz_or O 7) Sk) := by
  have hM := tu_mh_le hK (b := b) (by omega)
  have hn16 := hK.2.1
  have hc := tz_c hT (s := s) (b := b) (by omega) (by omega)
  have hcb := tz_cb hK hT (j + 1) (by omega) (e + 1) (by omega)
  rw [show n - (j + 1) = s by omega, show m - (e + 1) = b by omega] at hcb
  obtain ⟨x0, hx0, ex0, ec0⟩ := tz_skip hK c s b
  have hcs := tz_cb hK hT (j + 1) (by omega) e (by omega)
  rw [show n - (j + 1) = s by omega, show m - e = b + 1 by omega] at hcs
  have hpk : tz_pc L a k s (b + 1) g = tz_pc L a k s b g + x0 := by
    unfold tz_pc
    show _ + (tz_pk L k b + (if k b = 0 then 0 else L 2)) = _
    rw [← ex0]
    omega
  have hh : ∀ i, i < tu_mh L r b → ∃ x, (0 ≤ x ∧ x ≤ 83) ∧ tu_ch L a k c s b (i + 1) = c ((s + 1) * 25 + (b + (i + 1))) + x ∧ tz_pc L a k (s + 1) (b + (i + 1)) (tz_s g s (8 * b + i)) = tz_pc L a k s b g + x := by
    intro i hi
    obtain ⟨x, hx, ex, ec⟩ := tz_held hK c s b i (by omega)
    refine ⟨x, hx, ec, ?_⟩
    unfold tz_pc
    have g1 : tz_s g s (8 * b + i) s = 8 * b + i := if_pos rfl
    have e1 : tz_pd L a k (s + 1) (tz_s g s (8 * b + i)) = tz_pd L a k s g + (L 1 * (i : Int) + (if ¬ (a s = 1 ↔ k b = 2) then L 3 else 0) - L 2 * ((i + 1 : Nat) : Int)) := by
      show tz_pd L a k s (tz_s g s (8 * b + i)) + (L 1 * ((tz_s g s (8 * b + i) s % 8 : Nat) : Int) + (if ¬ (a s = 1 ↔ k (tz_s g s (8 * b + i) s / 8) = 2) then L 3 else 0) - L 2 * ((tz_s g s (8 * b + i) s % 8 + 1 : Nat) : Int)) = _
      rw [g1, show (8 * b + i) % 8 = i by omega, show (8 * b + i) / 8 = b by omega, tz_pd_q (L := L) (a := a) (k := k) (s := s) (g := tz_s g s (8 * b + i)) (g' := g) (fun t ht => if_neg (show ¬ t = s by omega))]
    rw [e1, tz_run L k b (i + 1) (fun q hq => tz_mh_k hK (by omega) (by omega)), ex]
    omega
  have hci : ∀ i, i < tu_mh L r b → c ((s + 1) * 25 + (b + (i + 1))) = 1000000 ∨ (0 ≤ c ((s + 1) * 25 + (b + (i + 1))) ∧ c ((s + 1) * 25 + (b + (i + 1))) ≤ 83 * (j : Int) + 9 * ((e - i : Nat) : Int)) := by
    intro i hi
    have h := tz_cb hK hT j (by omega) (e - i) (by omega)
    rw [show n - j = s + 1 by omega, show m - (e - i) = b + (i + 1) by omega] at h
    exact h
  have hkn : ∀ q, q ≤ 7 → 0 ≤ (O q).2.2.1 ∧ (O q).2.2.1 ≤ (O q).2.1 := by
    intro q hq
    rcases Nat.lt_or_ge q (tu_mh L r b) with z | z
    · exact (hO1 q z).2.2.1
    · rw [hO0 q z (by omega)]; exact ⟨Int.le_refl _, Int.le_refl _⟩
  have hKN := tz_ad_k (tz_or_kn hkn) hS.2.2.1
  have hN : (tz_ad (tz_or O 7) Sk).2.1 = tu_sm (fun q => (O q).2.1) (tu_mh L r b) + Sk.2.1 := by
    rw [tz_n, tz_or_n]
    have z := tz_sm_0 (f := fun q => (O q).2.1) (H := tu_mh L r b) (8 - tu_mh L r b) (fun q h1 h2 => by show (O q).2.1 = 0; rw [hO0 q h1 (by omega)]; rfl)
    rw [show tu_mh L r b + (8 - tu_mh L r b) = 7 + 1 by omega] at z
    rw [z]
  have hNn : 0 ≤ tu_sm (fun q => (O q).2.1) (tu_mh L r b) := tz_sm_nn (fun q hq => (hO1 q hq).2.1.1)
  have hN3 := tz_sm_3 (f := fun q => (O q).2.1) (e := e) (tu_mh L r b) (by omega) (fun q hq => (hO1 q hq).2.1.2)
  have hp3 : 3 ^ (e + 1) = 3 * 3 ^ e := by rw [Nat.pow_succ, Nat.mul_comm]
  have hp9 := tz_pow (show e + 1 ≤ m by omega) hm
  have hB : 0 ≤ (tz_ad (tz_or O 7) Sk).2.1 ∧ (tz_ad (tz_or O 7) Sk).2.1 ≤ ((3 ^ (e + 1) : Nat) : Int) := by
    have h21 := hS.2.1
    have hu : 0 ≤ ((3 ^ (e + 1 - tu_mh L r b) : Nat) : Int) := Int.natCast_nonneg _
    have hu2 : 0 ≤ ((3 ^ e : Nat) : Int) := Int.natCast_nonneg _
    have hu3 : ((3 * 3 ^ e : Nat) : Int) = 3 * ((3 ^ e : Nat) : Int) := Int.natCast_mul _ _
    rw [hN]
    rw [hp3, hu3] at hN3 ⊢
    generalize ((3 ^ (e + 1 - tu_mh L r b) : Nat) : Int) = u1 at *
    generalize ((3 ^ e : Nat) : Int) = u2 at *
    omega
  refine ⟨fun v hV => ?_, hB, hKN, ?_⟩
  · have w := ((hV.2 s (Nat.zero_le _) (by omega)).2 b (Nat.zero_le _) (by omega)).1
    unfold tu_wf at w
    rw [tz_sw_sm, if_pos (Or.inl rfl), tz_sm_q (h := fun q => (O q).2.1) (fun q hq => by
      show (if _ then _ else _) = (O q).2.1
      rw [if_pos (Or.inl rfl), (hO1 q hq).1 v hV, show (s + 1) * 25 + b + (q + 1) = (s + 1) * 25 + (b + (q + 1)) by omega])] at w
    have z := hS.1 v hV
    rw [show s * 25 + (b + 1) = s * 25 + b + 1 by omega] at z
    rw [← z] at w
    rw [w, hN]
    rw [hN] at hB
    omega
  · rcases Int.lt_or_eq_of_le hc.1.2 with hlt | heq
    · right
      have hcr : 0 ≤ c (s * 25 + b) ∧ c (s * 25 + b) ≤ 83 * ((j + 1 : Nat) : Int) + 9 * ((e + 1 : Nat) : Int) := by
        rcases hcb with z | z
        · omega
        · exact z
      have hTT : tz_pc L a k s b g + c (s * 25 + b) < 1000000 := by omega
      -- each option against the least
      have hopt : ∀ q, q ≤ 7 → (tz_pc L a k s b g + c (s * 25 + b) ≤ (O q).1) ∧ ((O q).1 = tz_pc L a k s b g + c (s * 25 + b) ↔ (q < tu_mh L r b ∧ tu_ch L a k c s b (q + 1) = c (s * 25 + b))) := by
        intro q hq
        rcases Nat.lt_or_ge q (tu_mh L r b) with z | z
        · obtain ⟨x, hx, e1, e2⟩ := hh q z
          have h1 := hc.2.2.1 (q + 1) (by omega) (by omega)
          have h2 := hci q z
          rcases (hO1 q z).2.2.2 with ⟨g1, g2, -⟩ | ⟨g1, g2, -⟩
          · refine ⟨by omega, fun y => by omega, fun y => by omega⟩
          · rw [e2] at g2
            refine ⟨by omega, fun y => ⟨z, by omega⟩, fun y => by omega⟩
        · rw [hO0 q z (by omega)]
          show _ ≤ (1000000 : Int) ∧ ((1000000 : Int) = _ ↔ _)
          exact ⟨by omega, fun y => by omega, fun y => by omega⟩
      have hskg : (tz_pc L a k s b g + c (s * 25 + b) ≤ Sk.1) ∧ (Sk.1 = tz_pc L a k s b g + c (s * 25 + b) ↔ tu_cf L k c s b = c (s * 25 + b)) := by
        rcases hS.2.2.2 with ⟨g1, g2, -⟩ | ⟨g1, g2, -⟩
        · refine ⟨by omega, fun y => by omega, fun y => by omega⟩
        · rw [hpk] at g2
          refine ⟨by omega, fun y => by omega, fun y => by omega⟩
      have hF : (tz_ad (tz_or O 7) Sk).1 = tz_pc L a k s b g + c (s * 25 + b) ∧ (∀ t, t < s → (tz_ad (tz_or O 7) Sk).2.2.2 t = g t) ∧ tz_P L a k r c m (j + 1) s b (tz_ad (tz_or O 7) Sk).2.2.2 := by
        rcases tu_fs_p (p := fun h => decide (tu_ch L a k c s b h = c (s * 25 + b))) (n := tu_mh L r b) with ⟨z0, z1⟩ | ⟨z0, z1, z2⟩
        · have zx : tu_hx L a k r c s b = 0 := z0
          have hgt : ∀ q, q ≤ 7 → tz_pc L a k s b g + c (s * 25 + b) < (O q).1 := by
            intro q hq
            have h1 := hopt q hq
            rcases Int.lt_or_eq_of_le h1.1 with y | y
            · exact y
            · obtain ⟨y1, y2⟩ := h1.2.mp y.symm
              exact absurd (decide_eq_true y2) (z1 (q + 1) (by omega) (by omega))
          have hcf : c (s * 25 + b) = tu_cf L k c s b := by
            rcases hc.2.2.2 with y | y | ⟨h, y1, y2⟩
            · omega
            · exact y
            · exact absurd (decide_eq_true y2.symm) (z1 h y1.1 y1.2)
          have hsk := hskg.2.mpr hcf.symm
          obtain ⟨f1, f2⟩ := tz_f_2 (tz_or_gt (i := 7) hgt) hsk
          rcases hS.2.2.2 with ⟨g1, g2, -⟩ | ⟨g1, g2, g3, g4, g5⟩
          · omega
          · refine ⟨f1, fun t ht => by rw [f2]; exact g4 t ht, ?_⟩
            rw [f2]
            have ef : tu_ff (tu_hx L a k r c s) b (m - b) = tu_ff (tu_hx L a k r c s) (b + 1) (m - (b + 1)) := by
              rw [show m - b = m - (b + 1) + 1 by omega, tu_ff_s zx]
            unfold tz_P at g5 ⊢
            rw [ef]
            exact g5
        · have zx : tu_hx L a k r c s b = tu_fs (fun h => decide (tu_ch L a k c s b h = c (s * 25 + b))) (tu_mh L r b) := rfl
          rw [← zx] at z0 z1 z2
          have z1 : tu_ch L a k c s b (tu_hx L a k r c s b) = c (s * 25 + b) := of_decide_eq_true z1
          obtain ⟨p, hp⟩ : ∃ p, tu_hx L a k r c s b = p + 1 := ⟨tu_hx L a k r c s b - 1, by omega⟩
          rw [hp] at z0 z1 z2
          have hpo := (hopt p (by omega)).2.mpr ⟨by omega, z1⟩
          obtain ⟨f1, f2⟩ := tz_or_f hpo (fun q hq => by
            have h1 := hopt q (by omega)
            rcases Int.lt_or_eq_of_le h1.1 with y | y
            · exact y
            · obtain ⟨y1, y2⟩ := h1.2.mp y.symm
              exact absurd (decide_eq_true y2) (z2 (q + 1) (by omega) (by omega))) (i := 7) (by omega) (fun q hq => (hopt q hq).1)
          obtain ⟨f3, f4⟩ := tz_f_1 f1 hskg.1
          rcases (hO1 p (by omega)).2.2.2 with ⟨g1, g2, -⟩ | ⟨g1, g2, g3, g4, g5⟩
          · omega
          · refine ⟨f3, fun t ht => ?_, ?_⟩
            · rw [f4, f2, g4 t (by omega)]
              exact if_neg (by omega)
            · rw [f4, f2]
              have ef : tu_ff (tu_hx L a k r c s) b (m - b) = b := by
                rw [show m - b = e + 1 by omega, tu_ff_h (by omega)]
              unfold tz_P
              rw [ef, hp]
              refine ⟨?_, g5⟩
              rw [g4 s (Nat.lt_succ_self s)]
              show tz_s g s (8 * b + p) s = _
              rw [show tz_s g s (8 * b + p) s = 8 * b + p from if_pos rfl]
              omega
      refine ⟨hlt, hF.1, fun v hV => ?_, hF.2⟩
      have w := ((hV.2 s (Nat.zero_le _) (by omega)).2 b (Nat.zero_le _) (by omega)).1
      unfold tu_wf at w
      have hk1 : (tz_ad (tz_or O 7) Sk).2.2.1 = tz_k (tz_pc L a k s b g + c (s * 25 + b)) (tz_ad (tz_or O 7) Sk) := by
        unfold tz_k
        rw [if_pos hF.1]
      have hk2 := tz_k_ad (tz_or_ge (O := O) (T := tz_pc L a k s b g + c (s * 25 + b)) (i := 7) (fun q hq => (hopt q hq).1)) hskg.1
      rw [tz_or_k (fun q hq => (hopt q hq).1)] at hk2
      have z := tz_sm_0 (f := fun q => tz_k (tz_pc L a k s b g + c (s * 25 + b)) (O q)) (H := tu_mh L r b) (8 - tu_mh L r b) (fun q h1 h2 => by
        show tz_k _ (O q) = 0
        unfold tz_k
        rw [if_neg (fun y => by have := ((hopt q (by omega)).2.mp y).1; omega)])
      rw [show tu_mh L r b + (8 - tu_mh L r b) = 7 + 1 by omega] at z
      rw [z] at hk2
      have hsk2 : tz_k (tz_pc L a k s b g + c (s * 25 + b)) Sk = if (1 : Int) = 0 ∨ tu_cf L k c s b = c (s * 25 + b) then v (s * 25 + b + 1) else 0 := by
        unfold tz_k
        by_cases y : tu_cf L k c s b = c (s * 25 + b)
        · rw [if_pos (hskg.2.mpr y), if_pos (Or.inr y)]
          rcases hS.2.2.2 with ⟨g1, g2, -⟩ | ⟨g1, g2, g3, -⟩
          · omega
          · rw [g3 v hV, show s * 25 + (b + 1) = s * 25 + b + 1 by omega]
        · rw [if_neg (fun q => y (hskg.2.mp q)), if_neg (fun q => by rcases q with q | q; · exact absurd q (by decide)
                                                                     · exact y q)]
      rw [tz_sw_sm, tz_sm_q (h := fun q => tz_k (tz_pc L a k s b g + c (s * 25 + b)) (O q)) (fun q hq => by
        show (if (1 : Int) = 0 ∨ tu_ch L a k c s b (q + 1) = c (s * 25 + b) then v ((s + 1) * 25 + b + (q + 1)) else 0) = tz_k _ (O q)
        unfold tz_k
        by_cases y : tu_ch L a k c s b (q + 1) = c (s * 25 + b)
        · rw [if_pos (Or.inr y), if_pos ((hopt q (by omega)).2.mpr ⟨hq, y⟩)]
          rcases (hO1 q hq).2.2.2 with ⟨g1, g2, -⟩ | ⟨g1, g2, g3, -⟩
          · obtain ⟨x, hx, e1, e2⟩ := hh q hq
            omega
          · rw [g3 v hV, show (s + 1) * 25 + b + (q + 1) = (s + 1) * 25 + (b + (q + 1)) by omega]
        · rw [if_neg (fun q9 => by rcases q9 with q9 | q9; · exact absurd q9 (by decide)
                                   · exact y q9), if_neg (fun q9 => y ((hopt q (by omega)).2.mp q9).2)]), ← hsk2] at w
      rw [w, hk1, hk2]
      rw [hk1, hk2] at hKN
      omega
    · left
      have hs1 : c (s * 25 + (b + 1)) = 1000000 := by
        have := hc.2.1
        omega
      have hs2 : Sk.1 = 1000000 ∧ Sk.2.1 = 0 := by
        rcases hS.2.2.2 with ⟨g1, g2, g3⟩ | ⟨g1, -⟩
        · exact ⟨g2, g3⟩
        · omega
      have ho : ∀ q, q ≤ 7 → (O q).1 = 1000000 ∧ (O q).2.1 = 0 := by
        intro q hq
        rcases Nat.lt_or_ge q (tu_mh L r b) with z | z
        · obtain ⟨x, hx, e1, e2⟩ := hh q z
          have h1 := hc.2.2.1 (q + 1) (by omega) (by omega)
          have h2 := hci q z
          rcases (hO1 q z).2.2.2 with ⟨g1, g2, g3⟩ | ⟨g1, -⟩
          · exact ⟨g2, g3⟩
          · omega
        · rw [hO0 q z (by omega)]; exact ⟨rfl, rfl⟩
      have h1 := tz_or_ge (O := O) (T := 1000000) (i := 7) (fun q hq => by rw [(ho q hq).1]; exact Int.le_refl _)
      have h2 := tz_or_le (O := O) (i := 7) (q := 0) (by decide)
      rw [(ho 0 (by decide)).1] at h2
      refine ⟨heq, ?_, ?_⟩
      · rw [tz_eq (by omega)]
        show (tz_or O 7).1 = _
        omega
      · rw [hN, hs2.2, Int.add_zero, tz_sm_q (h := fun _ => 0) (fun q hq => (ho q (by omega)).2)]
        have : ∀ H, tu_sm (fun _ => 0) H = 0 := fun H => by
          induction H with
          | zero => rfl
          | succ H ih => show tu_sm (fun _ => 0) H + 0 = 0; rw [ih]; rfl
        exact this _
