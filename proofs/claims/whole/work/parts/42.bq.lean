/-- a book behind k characters of a text without a fault -/
def tu_BQ (W : Nat → Nat → Int) (a : Int × Int) : Prop :=
  (∀ l : Nat, (l : Int) < W 0 1 → 1 ≤ W 2 l ∧ W 2 l ≤ 16) ∧ (∀ l s : Nat, (l : Int) < W 0 1 → (s : Int) < W 2 l → W 3 (l * 16 + s) = 0 ∨ W 3 (l * 16 + s) = 1) ∧
  (∀ p : Nat, (p : Int) < W 0 4 → (0 ≤ W 4 p ∧ W 4 p ≤ 24) ∧ (W 4 p = 0 → (p : Int) + 1 = W 0 4 ∧ a.1 = 1 ∧ a.2 = 0)) ∧ (∀ p b : Nat, (p : Int) < W 0 4 → (b : Int) < W 4 p → 0 ≤ W 5 (p * 24 + b) ∧ W 5 (p * 24 + b) ≤ 2)
theorem tu_BQ_all {B : Nat → Nat → Int} {f : Nat → Int} {n : Nat} (hO : tu_BO B) (h : ∀ j, j < n → tu_kd (tu_ps f j) (f j) ≠ 0) : ∀ k, k ≤ n → tu_BQ (tu_qs B f k) (tu_ps f k) ∧ (tu_qs B f k 1 = B 1 ∧ tu_qs B f k 6 = B 6 ∧ tu_qs B f k 7 = B 7)
  | 0, _ => ⟨⟨hO.2.1, hO.2.2.1, fun p hp => ⟨⟨by have := hO.2.2.2.1 p hp; show 0 ≤ B 4 p; omega, (hO.2.2.2.1 p hp).2⟩, fun z => by have := hO.2.2.2.1 p hp; have z : B 4 p = 0 := z; omega⟩, hO.2.2.2.2.1⟩, rfl, rfl, rfl⟩
  | k + 1, hk => by
    obtain ⟨⟨i1, i2, i3, i4⟩, i5⟩ := tu_BQ_all hO h k (by omega)
    obtain ⟨⟨q1, q2⟩, q3, ⟨q4, q5⟩, q6, q7⟩ := tu_QI_all (B := B) (f := f) (n := n) ⟨hO.1.1.1, hO.1.2.1.1⟩ h k (by omega)
    have cn := hO.1
    have hn := tu_ps_in f k
    have hc := tu_kd_c (h k (by omega))
    rw [show tu_qs B f (k + 1) = tu_q1 (tu_qs B f k) (tu_ps f k) (f k) from rfl]
    generalize tu_qs B f k = W at i1 i2 i3 i4 i5 q1 q2 q3 q6 q7 ⊢
    have w1 : 0 ≤ W 0 1 := by omega
    have w4 : 0 ≤ W 0 4 := by omega
    rcases hc with ⟨e, h1, h2⟩ | ⟨e, h1, h2, h3⟩ | ⟨e, h1, h2, h3⟩ | ⟨e, h1, h2, h3⟩
    · rw [tu_q1_4 e, tu_ps_4 e]
      exact ⟨⟨i1, i2, fun p hp => ⟨(i3 p hp).1, fun z => by have := (i3 p hp).2 z; omega⟩, i4⟩, i5⟩
    · rw [tu_q1_1 e, tu_ps_1 e]
      have r0 : tu_qa W 0 = tu_u (W 0) 4 (W 0 4 + 1) := rfl
      have r4 : tu_qa W 4 = tu_u (W 4) (W 0 4).toNat 0 := rfl
      refine ⟨⟨fun l hl => ?_, fun l s hl hs => ?_, fun p hp => ?_, fun p b hp hb => ?_⟩, i5⟩
      · rw [r0, tu_u_n _ _ (by decide)] at hl; exact i1 l hl
      · rw [r0, tu_u_n _ _ (by decide)] at hl; exact i2 l s hl hs
      · rw [r0, tu_u_s] at hp
        rw [r4, r0, tu_u_s]
        by_cases q : p = (W 0 4).toNat
        · subst q; rw [tu_u_s]; exact ⟨by omega, fun _ => ⟨by omega, rfl, rfl⟩⟩
        · rw [tu_u_n _ _ q]
          have := i3 p (by omega)
          exact ⟨this.1, fun z => by have := this.2 z; omega⟩
      · rw [r0, tu_u_s] at hp
        rw [r4] at hb
        by_cases q : p = (W 0 4).toNat
        · subst q; rw [tu_u_s] at hb; omega
        · rw [tu_u_n _ _ q] at hb
          exact i4 p b (by omega) hb
    · rw [tu_ps_23 (Or.inl e)]
      by_cases hz : (tu_ps f k).2 = 0
      · rw [tu_q1_2a e hz]
        have r0 : tu_qb W (f k) 0 = tu_u (W 0) 1 (W 0 1 + 1) := rfl
        have r2 : tu_qb W (f k) 2 = tu_u (tu_u (W 2) (W 0 1).toNat 0) (W 0 1).toNat (((0 : Nat) : Int) + 1) := rfl
        have r3 : tu_qb W (f k) 3 = tu_u (W 3) ((W 0 1).toNat * 16 + 0) (if f k = 88 then 1 else 0) := rfl
        refine ⟨⟨fun l hl => ?_, fun l s hl hs => ?_, fun p hp => ?_, fun p b hp hb => ?_⟩, i5⟩
        · rw [r0, tu_u_s] at hl
          rw [r2]
          by_cases q : l = (W 0 1).toNat
          · subst q; rw [tu_u_s]; omega
          · rw [tu_u_n _ _ q, tu_u_n _ _ q]; exact i1 l (by omega)
        · rw [r0, tu_u_s] at hl
          rw [r2] at hs
          rw [r3]
          by_cases q : l = (W 0 1).toNat
          · subst q
            rw [tu_u_s] at hs
            rw [show s = 0 by omega, tu_u_s]
            split
            · exact Or.inr rfl
            · exact Or.inl rfl
          · rw [tu_u_n _ _ q, tu_u_n _ _ q] at hs
            have := i1 l (by omega)
            rw [tu_u_n _ _ (by omega)]; exact i2 l s (by omega) hs
        · rw [r0, tu_u_n _ _ (by decide)] at hp
          rw [r0, tu_u_n _ _ (by decide)]
          have := i3 p hp
          exact ⟨this.1, fun z => by have := this.2 z; omega⟩
        · rw [r0, tu_u_n _ _ (by decide)] at hp; exact i4 p b hp hb
      · rw [tu_q1_2b e hz]
        have ql := q6 h1 (by omega)
        have r0 : tu_qc W (tu_ps f k).2 (f k) 0 = W 0 := rfl
        have r2 : tu_qc W (tu_ps f k).2 (f k) 2 = tu_u (W 2) (W 0 1 - 1).toNat (((tu_ps f k).2.toNat : Int) + 1) := rfl
        have r3 : tu_qc W (tu_ps f k).2 (f k) 3 = tu_u (W 3) ((W 0 1 - 1).toNat * 16 + (tu_ps f k).2.toNat) (if f k = 88 then 1 else 0) := rfl
        refine ⟨⟨fun l hl => ?_, fun l s hl hs => ?_, fun p hp => ?_, fun p b hp hb => ?_⟩, i5⟩
        · rw [r0] at hl
          rw [r2]
          by_cases q : l = (W 0 1 - 1).toNat
          · subst q; rw [tu_u_s]; omega
          · rw [tu_u_n _ _ q]; exact i1 l hl
        · rw [r0] at hl
          rw [r2] at hs
          rw [r3]
          by_cases q : l = (W 0 1 - 1).toNat
          · subst q
            rw [tu_u_s] at hs
            by_cases q2 : s = (tu_ps f k).2.toNat
            · subst q2; rw [tu_u_s]
              split
              · exact Or.inr rfl
              · exact Or.inl rfl
            · rw [tu_u_n _ _ (by omega)]; exact i2 _ s hl (by omega)
          · rw [tu_u_n _ _ q] at hs
            have := i1 l hl
            rw [tu_u_n _ _ (by omega)]; exact i2 l s hl hs
        · rw [r0] at hp ⊢
          have := i3 p hp
          exact ⟨this.1, fun z => by have := this.2 z; omega⟩
        · rw [r0] at hp; exact i4 p b hp hb
    · rw [tu_ps_23 (Or.inr e), tu_q1_3 e]
      have ql := q7 h1
      have r0 : tu_qd W (tu_ps f k).2 (f k) 0 = W 0 := rfl
      have r4 : tu_qd W (tu_ps f k).2 (f k) 4 = tu_u (W 4) (W 0 4 - 1).toNat (((tu_ps f k).2.toNat : Int) + 1) := rfl
      have r5 : tu_qd W (tu_ps f k).2 (f k) 5 = tu_u (W 5) ((W 0 4 - 1).toNat * 24 + (tu_ps f k).2.toNat) (if f k = 115 then 2 else if f k = 119 then 1 else 0) := rfl
      refine ⟨⟨fun l hl => ?_, fun l s hl hs => ?_, fun p hp => ?_, fun p b hp hb => ?_⟩, i5⟩
      · rw [r0] at hl; exact i1 l hl
      · rw [r0] at hl; exact i2 l s hl hs
      · rw [r0] at hp ⊢
        rw [r4]
        by_cases q : p = (W 0 4 - 1).toNat
        · subst q; rw [tu_u_s]; exact ⟨by omega, fun z => by omega⟩
        · rw [tu_u_n _ _ q]
          have := i3 p hp
          exact ⟨this.1, fun z => by have := this.2 z; omega⟩
      · rw [r0] at hp
        rw [r4] at hb
        rw [r5]
        by_cases q : p = (W 0 4 - 1).toNat
        · subst q
          rw [tu_u_s] at hb
          by_cases q2 : b = (tu_ps f k).2.toNat
          · subst q2; rw [tu_u_s]
            split
            · omega
            · split <;> omega
          · rw [tu_u_n _ _ (by omega)]; exact i4 _ b hp (by omega)
        · rw [tu_u_n _ _ q] at hb
          have := i3 p hp
          rw [tu_u_n _ _ (by omega)]; exact i4 p b hp hb
/-- a whole text written: a book again -/
theorem tu_BO.qs {B : Nat → Nat → Int} {f : Nat → Int} {n : Nat} (hO : tu_BO B) (h : ∀ j, j < n → tu_kd (tu_ps f j) (f j) ≠ 0) (he : 0 < (tu_ps f n).2) (c1 : B 0 1 + (tu_PA f n - tu_ti f 124 n) ≤ 16) (c2 : B 0 4 + tu_ti f 124 n ≤ 8) : tu_BO (tu_qs B f n) := by
  obtain ⟨⟨i1, i2, i3, i4⟩, e1, e6, e7⟩ := tu_BQ_all hO h n (Nat.le_refl _)
  obtain ⟨⟨q1, q2⟩, q3, ⟨q4, q5⟩, -, -⟩ := tu_QI_all (B := B) (f := f) (n := n) ⟨hO.1.1.1, hO.1.2.1.1⟩ h n (Nat.le_refl _)
  have cn := hO.1
  refine ⟨⟨by omega, by omega, by rw [q3 7 (by decide) (by decide)]; exact cn.2.2.1, by rw [q3 9 (by decide) (by decide)]; exact cn.2.2.2⟩, i1, i2, fun p hp => ?_, i4, fun k hk => ?_, fun k hk => ?_, ?_⟩
  · have := i3 p hp
    refine ⟨?_, this.1.2⟩
    by_cases q : tu_qs B f n 4 p = 0
    · have := this.2 q; omega
    · omega
  · rw [q3 7 (by decide) (by decide)] at hk
    rw [e6]
    have := hO.2.2.2.2.2.1 k hk
    omega
  · rw [q3 9 (by decide) (by decide)] at hk
    rw [e7]
    have := hO.2.2.2.2.2.2.1 k hk
    omega
  · rw [e1]; exact hO.2.2.2.2.2.2.2
