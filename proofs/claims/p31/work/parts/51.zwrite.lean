/-! the text of one line: n characters, each x or X -/
def tz_lx (f : Nat → Int) (n : Nat) : Prop := ∀ k, k < n → f k = 88 ∨ f k = 120
theorem tz_lx_1 {f : Nat → Int} {n : Nat} (hn : n ≤ 5) (h : tz_lx f n) : ∀ k, k ≤ n → tu_ps f k = (0, (k : Int)) ∧ (k < n → tu_kd (tu_ps f k) (f k) = 2)
  | 0, hk => by
    refine ⟨rfl, fun h0 => ?_⟩
    rcases h 0 h0 with e | e <;> rw [e] <;> rfl
  | k + 1, hk => by
    obtain ⟨i1, i2⟩ := tz_lx_1 hn h k (by omega)
    have e := tu_ps_23 (Or.inl (i2 (by omega)))
    rw [i1] at e
    refine ⟨e, fun hk2 => ?_⟩
    rw [e]
    unfold tu_kd
    have hc := h (k + 1) hk2
    rw [if_neg (by show ¬ (0 < (k : Int) + 1 ∧ f (k + 1) = 59); omega), if_neg (by show ¬ ((k : Int) + 1 = 0 ∧ (0 : Int) = 0 ∧ f (k + 1) = 124); omega), if_pos (by show (0 : Int) = 0 ∧ (k : Int) + 1 < 16 ∧ _; omega)]
theorem tz_lx_2 {f : Nat → Int} {n : Nat} (h : tz_lx f n) : ∀ k, k ≤ n → tu_ti f 124 k = 0 ∧ tu_PA f k = if k = 0 then 0 else 1
  | 0, _ => ⟨rfl, rfl⟩
  | k + 1, hk => by
    obtain ⟨i1, i2⟩ := tz_lx_2 h k (by omega)
    have hc := h k (by omega)
    rw [tu_ti_s, tu_PA_s, i1, i2, if_neg (show ¬ f k = 124 by omega), if_neg (show ¬ k + 1 = 0 by omega)]
    refine ⟨rfl, ?_⟩
    by_cases q : k = 0
    · rw [if_pos q, if_pos (Or.inl q)]; rfl
    · have hc2 := h (k - 1) (by omega)
      rw [if_neg q, if_neg (fun z => by omega)]; rfl
theorem tz_lx_3 {B : Nat → Nat → Int} {f : Nat → Int} {n NL : Nat} (hn : n ≤ 5) (hN : B 0 1 = ((NL : Nat) : Int)) (h : tz_lx f n) : ∀ k, k < n → tu_qs B f (k + 1) 0 = tu_u (B 0) 1 (((NL : Nat) : Int) + 1) ∧ (∀ i, tu_qs B f (k + 1) 2 i = if i = NL then ((k : Nat) : Int) + 1 else B 2 i) ∧ (∀ i, tu_qs B f (k + 1) 3 i = if NL * 16 ≤ i ∧ i < NL * 16 + (k + 1) then (if f (i - NL * 16) = 88 then 1 else 0) else B 3 i) ∧ (tu_qs B f (k + 1) 1 = B 1 ∧ tu_qs B f (k + 1) 4 = B 4 ∧ tu_qs B f (k + 1) 5 = B 5 ∧ tu_qs B f (k + 1) 6 = B 6 ∧ tu_qs B f (k + 1) 7 = B 7)
  | 0, hk => by
    have e : tu_qs B f 1 = tu_qb B (f 0) := tu_q1_2a ((tz_lx_1 hn h 0 (by omega)).2 hk) rfl
    show tu_qs B f 1 0 = _ ∧ _
    rw [e]
    refine ⟨?_, fun i => ?_, fun i => ?_, rfl, rfl, rfl, rfl, rfl⟩
    · show tu_u (B 0) 1 (B 0 1 + 1) = _
      rw [hN]
    · show tu_u (tu_u (B 2) (B 0 1).toNat 0) (B 0 1).toNat (((0 : Nat) : Int) + 1) i = _
      rw [hN, Int.toNat_natCast, tu_u_if, tu_u_if]
      split
      · rfl
      · rfl
    · show tu_u (B 3) ((B 0 1).toNat * 16 + 0) (if f 0 = 88 then 1 else 0) i = _
      rw [hN, Int.toNat_natCast, tu_u_if]
      by_cases q : i = NL * 16 + 0
      · rw [if_pos q, if_pos (show NL * 16 ≤ i ∧ i < NL * 16 + (0 + 1) by omega), show i - NL * 16 = 0 by omega]
      · rw [if_neg q, if_neg (by omega)]
  | k + 1, hk => by
    obtain ⟨i0, i2, i3, i1, i4, i5, i6, i7⟩ := tz_lx_3 hn hN h k (by omega)
    have p := tz_lx_1 hn h (k + 1) (by omega)
    have e : tu_qs B f (k + 1 + 1) = tu_qc (tu_qs B f (k + 1)) (tu_ps f (k + 1)).2 (f (k + 1)) := tu_q1_2b (p.2 hk) (by rw [p.1]; show ((k + 1 : Nat) : Int) ≠ 0; omega)
    have e0 : tu_qs B f (k + 1) 0 1 = ((NL : Nat) : Int) + 1 := by rw [i0, tu_u_s]
    have ep : (tu_ps f (k + 1)).2.toNat = k + 1 := by rw [p.1]; rfl
    have en : (tu_qs B f (k + 1) 0 1 - 1).toNat = NL := by rw [e0]; omega
    show tu_qs B f (k + 1 + 1) 0 = _ ∧ _
    rw [e]
    refine ⟨i0, fun i => ?_, fun i => ?_, i1, i4, i5, i6, i7⟩
    · show tu_u (tu_qs B f (k + 1) 2) (tu_qs B f (k + 1) 0 1 - 1).toNat ((((tu_ps f (k + 1)).2.toNat : Nat) : Int) + 1) i = _
      rw [en, ep, tu_u_if, i2]
      by_cases q : i = NL
      · rw [if_pos q, if_pos q]
      · rw [if_neg q, if_neg q, if_neg q]
    · show tu_u (tu_qs B f (k + 1) 3) ((tu_qs B f (k + 1) 0 1 - 1).toNat * 16 + (tu_ps f (k + 1)).2.toNat) (if f (k + 1) = 88 then 1 else 0) i = _
      rw [en, ep, tu_u_if, i3]
      by_cases q : i = NL * 16 + (k + 1)
      · rw [if_pos q, if_pos (show NL * 16 ≤ i ∧ i < NL * 16 + (k + 1 + 1) by omega), show i - NL * 16 = k + 1 by omega]
      · rw [if_neg q]
        by_cases r : NL * 16 ≤ i ∧ i < NL * 16 + (k + 1)
        · rw [if_pos r, if_pos (show NL * 16 ≤ i ∧ i < NL * 16 + (k + 1 + 1) by omega)]
        · rw [if_neg r, if_neg (by omega)]

theorem tz_q1_q {B B' : Nat → Nat → Int} {a : Int × Int} {c : Int} (e : ∀ f, f < 8 → B' f = B f) : ∀ f, f < 8 → tu_q1 B' a c f = tu_q1 B a c f := by
  have r : ∀ (X X' : Nat → Nat → Int) (j : Nat) (u : Nat → Int), (∀ f, f < 8 → X' f = X f) → ∀ f, f < 8 → tu_row X' j u f = tu_row X j u f := fun X X' j u hX f hf => by
    by_cases q : f = j
    · subst q; rw [tu_row_s, tu_row_s]
    · rw [tu_row_n _ _ q, tu_row_n _ _ q]; exact hX f hf
  intro f hf
  unfold tu_q1 tu_qa tu_qb tu_qc tu_qd
  rw [e 0 (by decide), e 2 (by decide), e 3 (by decide), e 4 (by decide), e 5 (by decide)]
  split
  · exact r _ _ _ _ (r _ _ _ _ e) f hf
  · split
    · split
      · exact r _ _ _ _ (r _ _ _ _ (r _ _ _ _ e)) f hf
      · exact r _ _ _ _ (r _ _ _ _ e) f hf
    · split
      · exact r _ _ _ _ (r _ _ _ _ e) f hf
      · exact e f hf
theorem tz_qs_q {B B' : Nat → Nat → Int} {g : Nat → Int} (e : ∀ f, f < 8 → B' f = B f) : ∀ k, ∀ f, f < 8 → tu_qs B' g k f = tu_qs B g k f
  | 0 => e
  | k + 1 => fun f hf => tz_q1_q (tz_qs_q e k) f hf

theorem tz_lx_ft {f : Nat → Int} {n : Nat} {w : Int} (hn : 1 ≤ n ∧ n ≤ 5) (h : tz_lx f n) (hw : tu_ft f n w) : w = -6 := by
  rcases hw with ⟨k, hk, -, h0, -⟩ | ⟨-, e⟩
  · rw [(tz_lx_1 hn.2 h k (by omega)).2 hk] at h0
    exact absurd h0 (by decide)
  · rw [(tz_lx_1 hn.2 h n (Nat.le_refl _)).1] at e
    rw [e]
    exact if_pos (by show 0 < ((n : Nat) : Int); omega)
/-- the pad, the law's rows when a line is written -/
theorem tz_writeL {M Mx M' : tu_M} (hJ : tz_J M) (hx : ∀ i, i < 86 → i ≠ 9 → i ≠ 10 → Mx i = M i) {n NL : Nat} {S y : Int} (hN : M 1 1 = ((NL : Nat) : Int)) (hN5 : NL < 6) (hn : 1 ≤ n ∧ n ≤ 5) (hp : Mx 9 1 = ((n : Nat) : Int)) (hc : ∀ k, k < n → Mx 10 k = if tu_bi S k = 1 then 88 else 120) (hS : tu_rg S) (hSm : tu_mk S n (fun i => tu_bi S i)) (h : ((∃ w, tu_ft (Mx 10) (Mx 9 1).toNat w ∧ w ≠ -6) ∧ M' = Mx ∧ y = -3) ∨ ((((∀ j, j < (Mx 9 1).toNat → tu_kd (tu_ps (Mx 10) j) (Mx 10 j) ≠ 0) ∧ 0 < (tu_ps (Mx 10) (Mx 9 1).toNat).2) ∧ (16 < Mx 1 1 + (tu_PA (Mx 10) (Mx 9 1).toNat - tu_ti (Mx 10) 124 (Mx 9 1).toNat) ∨ 8 < Mx 1 4 + tu_ti (Mx 10) 124 (Mx 9 1).toNat)) ∧ M' = Mx ∧ y = -4) ∨ ((((∀ j, j < (Mx 9 1).toNat → tu_kd (tu_ps (Mx 10) j) (Mx 10 j) ≠ 0) ∧ 0 < (tu_ps (Mx 10) (Mx 9 1).toNat).2) ∧ Mx 1 1 + (tu_PA (Mx 10) (Mx 9 1).toNat - tu_ti (Mx 10) 124 (Mx 9 1).toNat) ≤ 16 ∧ Mx 1 4 + tu_ti (Mx 10) 124 (Mx 9 1).toNat ≤ 8) ∧ ∃ N : tu_M, tu_rec Mx N ∧ M' = tu_row (tu_row (tu_row (tu_row (tu_row (tu_row (tu_row N 1 (tu_qs (tu_cb Mx) (Mx 10) (Mx 9 1).toNat 0)) 3 (tu_qs (tu_cb Mx) (Mx 10) (Mx 9 1).toNat 2)) 4 (tu_qs (tu_cb Mx) (Mx 10) (Mx 9 1).toNat 3)) 5 (tu_qs (tu_cb Mx) (Mx 10) (Mx 9 1).toNat 4)) 6 (tu_qs (tu_cb Mx) (Mx 10) (Mx 9 1).toNat 5)) 9 (tu_u (Mx 9) 1 0)) 10 (Mx 10) ∧ y = tu_qs (tu_cb Mx) (Mx 10) (Mx 9 1).toNat 0 1))
    (c86 : Mx 86 = tu_u (tu_u (M 86) (2 * NL) ((n : Nat) : Int)) (2 * NL + 1) S) (r87 : Mx 87 = M 87) (r88 : Mx 88 = M 88) (r89 : Mx 89 = M 89) (c90 : Mx 90 = tu_u (M 90) 4 (((NL : Nat) : Int) + 1)) : (tz_J M' ∧ M' 90 = Mx 90) ∧ y = ((NL : Nat) : Int) + 1 := by
  have hB := hJ.1.ok
  have cn := hB.cnt
  have hA := hJ.1.ar
  have hlt : tz_lx (Mx 10) n := fun k hk => by
    rw [hc k hk]
    split
    · exact Or.inl rfl
    · exact Or.inr rfl
  have hpn : (Mx 9 1).toNat = n := by rw [hp]; rfl
  have l1 := tz_lx_1 hn.2 hlt
  have l2 := tz_lx_2 hlt n (Nat.le_refl _)
  rw [if_neg (by omega)] at l2
  obtain ⟨j, hj⟩ : ∃ j, n = j + 1 := ⟨n - 1, by omega⟩
  have l3 := tz_lx_3 (B := tu_cb M) hn.2 hN hlt j (by omega)
  rw [← hj] at l3
  have ebx : ∀ f, f < 8 → tu_cb Mx f = tu_cb M f := fun f hf => hx (1 + f) (by omega) (by omega) (by omega)
  have eqs : ∀ k, ∀ f, f < 8 → tu_qs (tu_cb Mx) (Mx 10) k f = tu_qs (tu_cb M) (Mx 10) k f := fun k => tz_qs_q ebx k
  have hHx : tu_HS Mx := by
    unfold tu_HS
    rw [hx 0 (by decide) (by decide) (by decide), hx 19 (by decide) (by decide) (by decide), hx 20 (by decide) (by decide) (by decide), hx 21 (by decide) (by decide) (by decide)]
    exact hJ.2
  rw [hpn, hx 1 (by decide) (by decide) (by decide), l2.1, l2.2] at h
  rcases h with ⟨⟨w, hw, hw6⟩, -⟩ | ⟨h, -⟩ | ⟨h, N, hr, hM, hy⟩
  · exact absurd (tz_lx_ft hn hlt hw) hw6
  · have := h.2; omega
  · have ec : ∀ i, i ≠ 0 → i ≠ 19 → (i < 22 ∨ 70 ≤ i) → N i = Mx i := fun i a b d => tz_rec hr a b d
    obtain ⟨q0, q2, q3, q1, q4, q5, q6, q7⟩ := l3
    have w0 : tu_qs (tu_cb M) (Mx 10) n 0 1 = ((NL : Nat) : Int) + 1 := by rw [q0, tu_u_s]
    have w04 : tu_qs (tu_cb M) (Mx 10) n 0 4 = M 1 4 := by rw [q0, tu_u_n _ _ (by decide)]; rfl
    have w07 : tu_qs (tu_cb M) (Mx 10) n 0 7 = M 1 7 := by rw [q0, tu_u_n _ _ (by decide)]; rfl
    have w09 : tu_qs (tu_cb M) (Mx 10) n 0 9 = M 1 9 := by rw [q0, tu_u_n _ _ (by decide)]; rfl
    have hj1 : ((j : Nat) : Int) + 1 = ((n : Nat) : Int) := by omega
    rw [hj1] at q2
    refine ⟨⟨?_, by rw [hM]; exact ec 90 (by decide) (by decide) (by decide)⟩, by rw [hy, eqs n 0 (by decide), w0]⟩
    refine tz_Jof (B := tu_qs (tu_cb M) (Mx 10) n) ?_ (fun f hf => ?_) ?_ (tz_HS hHx hr ?_ ?_ ?_ ?_)
    · refine ⟨by rw [w0, w04, w07, w09]; omega, fun l hl => ?_, fun l s hl hs => ?_, fun p hp => ?_, fun p b hp hb => ?_, fun k hk => ?_, fun k hk => ?_, by rw [q1]; exact hB.set⟩
      · rw [w0] at hl
        rw [q2]
        split
        · omega
        · exact hB.syl l (by omega)
      · rw [w0] at hl
        rw [q2] at hs
        rw [q3]
        split
        · split
          · exact Or.inr rfl
          · exact Or.inl rfl
        · next z =>
          by_cases e : l = NL
          · rw [if_pos e] at hs
            subst e
            omega
          · rw [if_neg e] at hs
            exact hB.str l s (by omega) hs
      · rw [w04] at hp
        rw [q4]; exact hB.bts p hp
      · rw [w04] at hp
        rw [q4] at hb
        rw [q5]; exact hB.knd p b hp hb
      · rw [w07] at hk
        rw [q6, w0]
        have := hB.bal k hk
        show 0 ≤ M 7 k ∧ M 7 k < _
        omega
      · rw [w09] at hk
        rw [q7, w04]; exact hB.tun k hk
    · rw [hM]
      revert f
      refine tz_f8 (eqs n 0 (by decide)) ?_ (eqs n 2 (by decide)) (eqs n 3 (by decide)) (eqs n 4 (by decide)) (eqs n 5 (by decide)) ?_ ?_
      · show N 2 = _; rw [ec 2 (by decide) (by decide) (by decide), hx 2 (by decide) (by decide) (by decide), q1]; rfl
      · show N 7 = _; rw [ec 7 (by decide) (by decide) (by decide), hx 7 (by decide) (by decide) (by decide), q6]; rfl
      · show N 8 = _; rw [ec 8 (by decide) (by decide) (by decide), hx 8 (by decide) (by decide) (by decide), q7]; rfl
    · rw [hM]
      show tz_AR _ (N 86) (N 87) (N 88) (N 89) (N 90)
      rw [ec 86 (by decide) (by decide) (by decide), ec 87 (by decide) (by decide) (by decide), ec 88 (by decide) (by decide) (by decide), ec 89 (by decide) (by decide) (by decide), ec 90 (by decide) (by decide) (by decide), c86, r87, r88, r89, c90]
      obtain ⟨a1, ⟨a2, a3, a4, a5⟩, a6, a7, a8, a9, a10⟩ := hA
      have a11 : M 1 1 ≤ 6 ∧ M 1 4 ≤ 4 := a1
      refine ⟨⟨by rw [w0]; omega, by rw [w04]; exact a1.2⟩, ⟨?_, ?_, ?_, ?_⟩, fun i hi => ?_, fun t ht => ?_, fun p hp => ?_, fun k hk => ?_, fun k hk => ?_⟩
      · rw [tu_u_s, w0]
      · rw [tu_u_n _ _ (by decide), w04]; exact a3
      · rw [tu_u_n _ _ (by decide), w07]; exact a4
      · rw [tu_u_n _ _ (by decide), w09]; exact a5
      · rw [tu_u_n _ _ (by omega), q1]; exact a6 i hi
      · rw [w0] at ht
        have es : ∀ q, tu_al (tu_qs (tu_cb M) (Mx 10) n) t q = tu_qs (tu_cb M) (Mx 10) n 3 (t * 16 + q) := fun q => rfl
        rw [q2]
        by_cases e : t = NL
        · rw [if_pos e]
          subst e
          rw [tu_u_n _ _ (by omega), tu_u_s, tu_u_s]
          refine ⟨by omega, rfl, hS, ?_⟩
          rw [Int.toNat_natCast]
          refine hSm.q (fun i hi => ?_)
          rw [es, q3, if_pos (by omega), show t * 16 + i - t * 16 = i by omega, hc i hi]
          rcases tu_bi_01 S i with z | z <;> rw [z] <;> decide
        · rw [if_neg e, tu_u_n _ _ (by omega), tu_u_n _ _ (by omega), tu_u_n _ _ (by omega), tu_u_n _ _ (by omega)]
          have g := a7 t (by show (t : Int) < M 1 1; omega)
          have gs := hB.syl t (by omega)
          refine ⟨g.1, g.2.1, g.2.2.1, g.2.2.2.q (fun i hi => ?_)⟩
          have hi : i < (M 3 t).toNat := hi
          rw [es, q3, if_neg (by omega)]
          exact Iff.rfl
      · rw [w04] at hp
        have es : tu_kp (tu_qs (tu_cb M) (Mx 10) n) p = tu_kp (tu_cb M) p := by unfold tu_kp; rw [q5]
        rw [q4, es]
        exact a8 p hp
      · rw [w07] at hk
        rw [q6]; exact a9 k hk
      · rw [w09] at hk
        rw [q7]; exact a10 k hk
    · rw [hM]; rfl
    · rw [hM]; rfl
    · rw [hM]; rfl
    · rw [hM]; rfl

/-! the text of one phrase: a stroke, m characters s, w, point -/
def tz_pt (f : Nat → Int) (m : Nat) : Prop := f 0 = 124 ∧ ∀ b, b < m → f (b + 1) = 115 ∨ f (b + 1) = 119 ∨ f (b + 1) = 46
theorem tz_pt_1 {f : Nat → Int} {m : Nat} (hm : m ≤ 9) (h : tz_pt f m) : tu_kd (tu_ps f 0) (f 0) = 1 ∧ ∀ b, b ≤ m → tu_ps f (b + 1) = (1, (b : Int)) ∧ (b < m → tu_kd (tu_ps f (b + 1)) (f (b + 1)) = 3) := by
  have h0 : tu_kd (tu_ps f 0) (f 0) = 1 := by rw [h.1]; rfl
  refine ⟨h0, fun b => ?_⟩
  have key : ∀ b, b < m → tu_ps f (b + 1) = (1, (b : Int)) → tu_kd (tu_ps f (b + 1)) (f (b + 1)) = 3 := by
    intro b hb e
    rw [e]
    unfold tu_kd
    have hc := h.2 b hb
    rw [if_neg (by show ¬ (0 < (b : Int) ∧ f (b + 1) = 59); omega), if_neg (by show ¬ ((b : Int) = 0 ∧ (1 : Int) = 0 ∧ _); omega), if_neg (by show ¬ ((1 : Int) = 0 ∧ _); omega), if_pos (by show (1 : Int) = 1 ∧ (b : Int) < 24 ∧ _; omega)]
  induction b with
  | zero =>
    intro _
    have e := tu_ps_1 h0
    exact ⟨e, fun hb => key 0 hb e⟩
  | succ b ih =>
    intro hb
    obtain ⟨i1, i2⟩ := ih (by omega)
    have e := tu_ps_23 (Or.inr (i2 (by omega)))
    rw [i1] at e
    exact ⟨e, fun hb => key (b + 1) hb e⟩
theorem tz_pt_2 {f : Nat → Int} {m : Nat} (h : tz_pt f m) : ∀ b, b ≤ m → tu_ti f 124 (b + 1) = 1 ∧ tu_PA f (b + 1) = 1
  | 0, _ => by
    rw [tu_ti_s, tu_PA_s, if_pos h.1, if_pos (Or.inl rfl)]
    exact ⟨rfl, rfl⟩
  | b + 1, hb => by
    obtain ⟨i1, i2⟩ := tz_pt_2 h b (by omega)
    have hc := h.2 b (by omega)
    rw [tu_ti_s, tu_PA_s, i1, i2, if_neg (show ¬ f (b + 1) = 124 by omega)]
    refine ⟨rfl, ?_⟩
    by_cases q : b = 0
    · subst q
      rw [if_neg (fun z => by have := h.1; rcases z with z | z; · omega
                              · have z : f 0 = 59 := z; omega)]
      rfl
    · have hc2 := h.2 (b - 1) (by omega)
      rw [show b - 1 + 1 = b by omega] at hc2
      rw [if_neg (fun z => by rcases z with z | z; · omega
                              · have z : f b = 59 := z; omega)]
      rfl
theorem tz_pt_3 {B : Nat → Nat → Int} {f : Nat → Int} {m NP : Nat} (hm : m ≤ 9) (hN : B 0 4 = ((NP : Nat) : Int)) (h : tz_pt f m) : ∀ b, b ≤ m → tu_qs B f (b + 1) 0 = tu_u (B 0) 4 (((NP : Nat) : Int) + 1) ∧ (∀ i, tu_qs B f (b + 1) 4 i = if i = NP then ((b : Nat) : Int) else B 4 i) ∧ (∀ i, tu_qs B f (b + 1) 5 i = if NP * 24 ≤ i ∧ i < NP * 24 + b then (if f (i - NP * 24 + 1) = 115 then 2 else if f (i - NP * 24 + 1) = 119 then 1 else 0) else B 5 i) ∧ (tu_qs B f (b + 1) 1 = B 1 ∧ tu_qs B f (b + 1) 2 = B 2 ∧ tu_qs B f (b + 1) 3 = B 3 ∧ tu_qs B f (b + 1) 6 = B 6 ∧ tu_qs B f (b + 1) 7 = B 7)
  | 0, hb => by
    have e : tu_qs B f 1 = tu_qa B := tu_q1_1 (tz_pt_1 hm h).1
    show tu_qs B f 1 0 = _ ∧ _
    rw [e]
    refine ⟨?_, fun i => ?_, fun i => ?_, rfl, rfl, rfl, rfl, rfl⟩
    · show tu_u (B 0) 4 (B 0 4 + 1) = _
      rw [hN]
    · show tu_u (B 4) (B 0 4).toNat 0 i = _
      rw [hN, Int.toNat_natCast, tu_u_if]
      rfl
    · show B 5 i = _
      rw [if_neg (by omega)]
  | b + 1, hb => by
    obtain ⟨i0, i4, i5, i1, i2, i3, i6, i7⟩ := tz_pt_3 hm hN h b (by omega)
    have p := (tz_pt_1 hm h).2 b (by omega)
    have e : tu_qs B f (b + 1 + 1) = tu_qd (tu_qs B f (b + 1)) (tu_ps f (b + 1)).2 (f (b + 1)) := tu_q1_3 (p.2 (by omega))
    have e0 : tu_qs B f (b + 1) 0 4 = ((NP : Nat) : Int) + 1 := by rw [i0, tu_u_s]
    have ep : (tu_ps f (b + 1)).2.toNat = b := by rw [p.1]; rfl
    have en : (tu_qs B f (b + 1) 0 4 - 1).toNat = NP := by rw [e0]; omega
    show tu_qs B f (b + 1 + 1) 0 = _ ∧ _
    rw [e]
    refine ⟨i0, fun i => ?_, fun i => ?_, i1, i2, i3, i6, i7⟩
    · show tu_u (tu_qs B f (b + 1) 4) (tu_qs B f (b + 1) 0 4 - 1).toNat ((((tu_ps f (b + 1)).2.toNat : Nat) : Int) + 1) i = _
      rw [en, ep, tu_u_if, i4]
      by_cases q : i = NP
      · rw [if_pos q, if_pos q]; rfl
      · rw [if_neg q, if_neg q, if_neg q]
    · show tu_u (tu_qs B f (b + 1) 5) ((tu_qs B f (b + 1) 0 4 - 1).toNat * 24 + (tu_ps f (b + 1)).2.toNat) (if f (b + 1) = 115 then 2 else if f (b + 1) = 119 then 1 else 0) i = _
      rw [en, ep, tu_u_if, i5]
      by_cases q : i = NP * 24 + b
      · rw [if_pos q, if_pos (show NP * 24 ≤ i ∧ i < NP * 24 + (b + 1) by omega), show i - NP * 24 + 1 = b + 1 by omega]
      · rw [if_neg q]
        by_cases r : NP * 24 ≤ i ∧ i < NP * 24 + b
        · rw [if_pos r, if_pos (show NP * 24 ≤ i ∧ i < NP * 24 + (b + 1) by omega)]
        · rw [if_neg r, if_neg (by omega)]
theorem tz_pt_ft {f : Nat → Int} {m : Nat} {w : Int} (hm : 1 ≤ m ∧ m ≤ 9) (h : tz_pt f m) (hw : tu_ft f (m + 1) w) : w = -6 := by
  have p := tz_pt_1 hm.2 h
  rcases hw with ⟨k, hk, -, h0, -⟩ | ⟨-, e⟩
  · rcases Nat.eq_zero_or_pos k with z | z
    · subst z; rw [p.1] at h0; exact absurd h0 (by decide)
    · have := (p.2 (k - 1) (by omega)).2 (by omega)
      rw [show k - 1 + 1 = k by omega, h0] at this
      exact absurd this (by decide)
  · rw [(p.2 m (Nat.le_refl _)).1] at e
    rw [e]
    exact if_pos (by show 0 < ((m : Nat) : Int); omega)
theorem tz_writeP {M Mx M' : tu_M} (hJ : tz_J M) (hx : ∀ i, i < 86 → i ≠ 9 → i ≠ 10 → Mx i = M i) {m NP : Nat} {y : Int} {k : Nat → Int} (hN : M 1 4 = ((NP : Nat) : Int)) (hN5 : NP < 4) (hm : 1 ≤ m ∧ m ≤ 9) (hp : Mx 9 1 = ((m : Nat) : Int) + 1) (hc0 : Mx 10 0 = 124) (hk : ∀ b, b < m → 0 ≤ k b ∧ k b ≤ 2) (hc : ∀ b, b < m → Mx 10 (b + 1) = if k b = 2 then 115 else if k b = 1 then 119 else 46) (h : ((∃ w, tu_ft (Mx 10) (Mx 9 1).toNat w ∧ w ≠ -6) ∧ M' = Mx ∧ y = -3) ∨ ((((∀ j, j < (Mx 9 1).toNat → tu_kd (tu_ps (Mx 10) j) (Mx 10 j) ≠ 0) ∧ 0 < (tu_ps (Mx 10) (Mx 9 1).toNat).2) ∧ (16 < Mx 1 1 + (tu_PA (Mx 10) (Mx 9 1).toNat - tu_ti (Mx 10) 124 (Mx 9 1).toNat) ∨ 8 < Mx 1 4 + tu_ti (Mx 10) 124 (Mx 9 1).toNat)) ∧ M' = Mx ∧ y = -4) ∨ ((((∀ j, j < (Mx 9 1).toNat → tu_kd (tu_ps (Mx 10) j) (Mx 10 j) ≠ 0) ∧ 0 < (tu_ps (Mx 10) (Mx 9 1).toNat).2) ∧ Mx 1 1 + (tu_PA (Mx 10) (Mx 9 1).toNat - tu_ti (Mx 10) 124 (Mx 9 1).toNat) ≤ 16 ∧ Mx 1 4 + tu_ti (Mx 10) 124 (Mx 9 1).toNat ≤ 8) ∧ ∃ N : tu_M, tu_rec Mx N ∧ M' = tu_row (tu_row (tu_row (tu_row (tu_row (tu_row (tu_row N 1 (tu_qs (tu_cb Mx) (Mx 10) (Mx 9 1).toNat 0)) 3 (tu_qs (tu_cb Mx) (Mx 10) (Mx 9 1).toNat 2)) 4 (tu_qs (tu_cb Mx) (Mx 10) (Mx 9 1).toNat 3)) 5 (tu_qs (tu_cb Mx) (Mx 10) (Mx 9 1).toNat 4)) 6 (tu_qs (tu_cb Mx) (Mx 10) (Mx 9 1).toNat 5)) 9 (tu_u (Mx 9) 1 0)) 10 (Mx 10) ∧ y = tu_qs (tu_cb Mx) (Mx 10) (Mx 9 1).toNat 0 1))
    (g0 : Mx 87 (3 * NP) = ((m : Nat) : Int)) (g1 : tu_rg (Mx 87 (3 * NP + 1)) ∧ tu_mk (Mx 87 (3 * NP + 1)) m (tz_k2 k)) (g2 : tu_rg (Mx 87 (3 * NP + 2)) ∧ tu_mk (Mx 87 (3 * NP + 2)) m (tz_k1 k)) (c87 : ∀ i, i < 3 * NP → Mx 87 i = M 87 i) (r86 : Mx 86 = M 86) (r88 : Mx 88 = M 88) (r89 : Mx 89 = M 89) (c90 : Mx 90 = tu_u (M 90) 5 (((NP : Nat) : Int) + 1)) : (tz_J M' ∧ M' 90 = Mx 90) ∧ y = M 1 1 := by
  have hB := hJ.1.ok
  have cn := hB.cnt
  have hA := hJ.1.ar
  have hpt : tz_pt (Mx 10) m := ⟨hc0, fun b hb => by
    rw [hc b hb]
    split
    · exact Or.inl rfl
    · split
      · exact Or.inr (Or.inl rfl)
      · exact Or.inr (Or.inr rfl)⟩
  have hpn : (Mx 9 1).toNat = m + 1 := by rw [hp]; rfl
  have l2 := tz_pt_2 hpt m (Nat.le_refl _)
  have l3 := tz_pt_3 (B := tu_cb M) hm.2 hN hpt m (Nat.le_refl _)
  have ebx : ∀ f, f < 8 → tu_cb Mx f = tu_cb M f := fun f hf => hx (1 + f) (by omega) (by omega) (by omega)
  have eqs : ∀ k, ∀ f, f < 8 → tu_qs (tu_cb Mx) (Mx 10) k f = tu_qs (tu_cb M) (Mx 10) k f := fun k => tz_qs_q ebx k
  have hHx : tu_HS Mx := by
    unfold tu_HS
    rw [hx 0 (by decide) (by decide) (by decide), hx 19 (by decide) (by decide) (by decide), hx 20 (by decide) (by decide) (by decide), hx 21 (by decide) (by decide) (by decide)]
    exact hJ.2
  have hsm := hJ.1.small
  rw [hpn, hx 1 (by decide) (by decide) (by decide), l2.1, l2.2] at h
  rcases h with ⟨⟨w, hw, hw6⟩, -⟩ | ⟨h, -⟩ | ⟨h, N, hr, hM, hy⟩
  · exact absurd (tz_pt_ft hm hpt hw) hw6
  · have := h.2; omega
  · have ec : ∀ i, i ≠ 0 → i ≠ 19 → (i < 22 ∨ 70 ≤ i) → N i = Mx i := fun i a b d => tz_rec hr a b d
    obtain ⟨q0, q4, q5, q1, q2, q3, q6, q7⟩ := l3
    have w04 : tu_qs (tu_cb M) (Mx 10) (m + 1) 0 4 = ((NP : Nat) : Int) + 1 := by rw [q0, tu_u_s]
    have w0 : tu_qs (tu_cb M) (Mx 10) (m + 1) 0 1 = M 1 1 := by rw [q0, tu_u_n _ _ (by decide)]; rfl
    have w07 : tu_qs (tu_cb M) (Mx 10) (m + 1) 0 7 = M 1 7 := by rw [q0, tu_u_n _ _ (by decide)]; rfl
    have w09 : tu_qs (tu_cb M) (Mx 10) (m + 1) 0 9 = M 1 9 := by rw [q0, tu_u_n _ _ (by decide)]; rfl
    have kk : ∀ b, b < m → tu_kp (tu_qs (tu_cb M) (Mx 10) (m + 1)) NP b = k b := fun b hb => by
      show tu_qs (tu_cb M) (Mx 10) (m + 1) 5 (NP * 24 + b) = _
      rw [q5, if_pos (by omega), show NP * 24 + b - NP * 24 + 1 = b + 1 by omega, hc b hb]
      have := hk b hb
      rcases (show k b = 0 ∨ k b = 1 ∨ k b = 2 by omega) with z | z | z <;> rw [z] <;> decide
    refine ⟨⟨?_, by rw [hM]; exact ec 90 (by decide) (by decide) (by decide)⟩, by rw [hy, eqs _ 0 (by decide), w0]⟩
    refine tz_Jof (B := tu_qs (tu_cb M) (Mx 10) (m + 1)) ?_ (fun f hf => ?_) ?_ (tz_HS hHx hr ?_ ?_ ?_ ?_)
    · refine ⟨by rw [w0, w04, w07, w09]; omega, fun l hl => ?_, fun l s hl hs => ?_, fun p hp => ?_, fun p b hp hb => ?_, fun k hk => ?_, fun k hk => ?_, by rw [q1]; exact hB.set⟩
      · rw [w0] at hl
        rw [q2]; exact hB.syl l hl
      · rw [w0] at hl
        rw [q2] at hs
        rw [q3]; exact hB.str l s hl hs
      · rw [w04] at hp
        rw [q4]
        split
        · omega
        · exact hB.bts p (by omega)
      · rw [w04] at hp
        rw [q4] at hb
        by_cases e : p = NP
        · rw [if_pos e] at hb
          subst e
          have z := kk b (by omega)
          have z : tu_qs (tu_cb M) (Mx 10) (m + 1) 5 (p * 24 + b) = k b := z
          rw [z]; exact hk b (by omega)
        · rw [if_neg e] at hb
          have gt := hB.bts p (by omega)
          have hb : (b : Int) < M 5 p := hb
          rw [q5, if_neg (by omega)]
          exact hB.knd p b (by omega) hb
      · rw [w07] at hk
        rw [q6, w0]; exact hB.bal k hk
      · rw [w09] at hk
        rw [q7, w04]
        have := hB.tun k hk
        show 0 ≤ M 8 k ∧ M 8 k < _
        omega
    · rw [hM]
      revert f
      refine tz_f8 (eqs _ 0 (by decide)) ?_ (eqs _ 2 (by decide)) (eqs _ 3 (by decide)) (eqs _ 4 (by decide)) (eqs _ 5 (by decide)) ?_ ?_
      · show N 2 = _; rw [ec 2 (by decide) (by decide) (by decide), hx 2 (by decide) (by decide) (by decide), q1]; rfl
      · show N 7 = _; rw [ec 7 (by decide) (by decide) (by decide), hx 7 (by decide) (by decide) (by decide), q6]; rfl
      · show N 8 = _; rw [ec 8 (by decide) (by decide) (by decide), hx 8 (by decide) (by decide) (by decide), q7]; rfl
    · rw [hM]
      show tz_AR _ (N 86) (N 87) (N 88) (N 89) (N 90)
      rw [ec 86 (by decide) (by decide) (by decide), ec 87 (by decide) (by decide) (by decide), ec 88 (by decide) (by decide) (by decide), ec 89 (by decide) (by decide) (by decide), ec 90 (by decide) (by decide) (by decide), r86, r88, r89, c90]
      obtain ⟨a1, ⟨a2, a3, a4, a5⟩, a6, a7, a8, a9, a10⟩ := hA
      refine ⟨⟨by rw [w0]; exact a1.1, by rw [w04]; omega⟩, ⟨?_, ?_, ?_, ?_⟩, fun i hi => ?_, fun l hl => ?_, fun t ht => ?_, fun k hk => ?_, fun k hk => ?_⟩
      · rw [tu_u_n _ _ (by decide), w0]; exact a2
      · rw [tu_u_s, w04]
      · rw [tu_u_n _ _ (by decide), w07]; exact a4
      · rw [tu_u_n _ _ (by decide), w09]; exact a5
      · rw [tu_u_n _ _ (by omega), q1]; exact a6 i hi
      · rw [w0] at hl
        have es : tu_al (tu_qs (tu_cb M) (Mx 10) (m + 1)) l = tu_al (tu_cb M) l := by unfold tu_al; rw [q3]
        rw [q2, es]
        exact a7 l hl
      · rw [w04] at ht
        rw [q4]
        by_cases e : t = NP
        · rw [if_pos e]
          subst e
          rw [Int.toNat_natCast]
          refine ⟨by omega, g0, ⟨g1.1, g1.2.q (fun i hi => ?_)⟩, ⟨g2.1, g2.2.q (fun i hi => ?_)⟩⟩
          · unfold tz_k2; rw [kk i hi]
          · unfold tz_k1; rw [kk i hi]
        · rw [if_neg e, c87 _ (by omega), c87 _ (by omega), c87 _ (by omega)]
          have g := a8 t (by show (t : Int) < M 1 4; omega)
          have gt := hB.bts t (by omega)
          have es : ∀ i, i < (M 5 t).toNat → tu_kp (tu_qs (tu_cb M) (Mx 10) (m + 1)) t i = tu_kp (tu_cb M) t i := fun i hi => by
            show tu_qs (tu_cb M) (Mx 10) (m + 1) 5 (t * 24 + i) = _
            rw [q5, if_neg (by omega)]
            rfl
          refine ⟨g.1, g.2.1, ⟨g.2.2.1.1, g.2.2.1.2.q (fun i hi => ?_)⟩, ⟨g.2.2.2.1, g.2.2.2.2.q (fun i hi => ?_)⟩⟩
          · unfold tz_k2; rw [es i hi]
          · unfold tz_k1; rw [es i hi]
      · rw [w07] at hk
        rw [q6]; exact a9 k hk
      · rw [w09] at hk
        rw [q7]; exact a10 k hk
    · rw [hM]; rfl
    · rw [hM]; rfl
    · rw [hM]; rfl
    · rw [hM]; rfl
/-! one character put -/
theorem tz_vd_1 {u : Nat} (h1 : 33 ≤ u) (h2 : u ≤ 126) : tu_vd u 1 := by
  refine ⟨by decide, fun k hk => ?_, ?_⟩
  · rw [show k = 0 by omega]
    unfold tu_by
    rw [Nat.pow_zero, Nat.div_one, Nat.mod_eq_of_lt (by omega)]
    exact ⟨h1, h2⟩
  · exact Nat.div_eq_of_lt (by omega)
theorem tz_put {M M' : tu_M} {u j : Nat} {y : Int} (hu : 33 ≤ u ∧ u ≤ 126) (hj : M 9 1 = ((j : Nat) : Int)) (hj9 : j < 20) (h : ((∀ c, ¬ tu_vd u c) ∧ M' = M ∧ y = -2) ∨ ((∃ c : Nat, tu_vd u c ∧ 60 < M 9 1 + (c : Int)) ∧ M' = M ∧ y = -4) ∨ (∃ c : Nat, (tu_vd u c ∧ M 9 1 + (c : Int) ≤ 60) ∧ M' = tu_row (tu_row M 9 (tu_u (M 9) 1 (M 9 1 + ((c : Nat) : Int)))) 10 (tu_ap (M 10) (M 9 1).toNat u c c) ∧ y = M 9 1 + ((c : Nat) : Int))) : M' = tu_row (tu_row M 9 (tu_u (M 9) 1 (((j : Nat) : Int) + 1))) 10 (tu_u (M 10) j ((u : Nat) : Int)) ∧ y = ((j : Nat) : Int) + 1 := by
  have hv := tz_vd_1 hu.1 hu.2
  rcases h with ⟨h, -⟩ | ⟨⟨c, h1, h2⟩, -⟩ | ⟨c, ⟨h1, h2⟩, hM, hy⟩
  · exact absurd hv (h 1)
  · rw [tu_vd_one h1 hv] at h2
    omega
  · have e := tu_vd_one h1 hv
    subst e
    have eb : tu_by u 0 = u := by
      unfold tu_by
      rw [Nat.pow_zero, Nat.div_one, Nat.mod_eq_of_lt (by omega)]
    have ea : tu_ap (M 10) (M 9 1).toNat u 1 1 = tu_u (M 10) j ((u : Nat) : Int) := by
      show tu_u (M 10) ((M 9 1).toNat + 0) ((tu_by u (1 - 1 - 0) : Nat) : Int) = _
      rw [hj, Int.toNat_natCast, Nat.add_zero, show 1 - 1 - 0 = 0 by decide, eb]
    rw [ea, hj] at hM
    exact ⟨hM, by rw [hy, hj]; rfl⟩
set_option maxRecDepth 100000 in
theorem tz_mk_5 : ∀ n, n ≤ 5 → ∀ S, S < 2 ^ n → ∀ i, i < 32 → n ≤ i → tu_bi ((S : Nat) : Int) i = 0 := by decide +kernel
theorem tz_mk_S {n S : Nat} (hn : n ≤ 5) (hS : S < 2 ^ n) : tu_mk ((S : Nat) : Int) n (fun i => tu_bi ((S : Nat) : Int) i) := fun i hi => by
  rcases Nat.lt_or_ge i n with q | q
  · rcases tu_bi_01 ((S : Nat) : Int) i with z | z
    · rw [z, if_neg (fun q9 => by have q9 : tu_bi ((S : Nat) : Int) i = 1 := q9.2; omega)]
    · rw [z, if_pos ⟨q, z⟩]
  · rw [tz_mk_5 n hn S hS i hi q, if_neg (by omega)]

