/-! writing the pad: what a character does to a book -/
def tu_qa (B : Nat → Nat → Int) : Nat → Nat → Int := tu_row (tu_row B 0 (tu_u (B 0) 4 ((B 0 4) + 1))) 4 (tu_u (B 4) (B 0 4).toNat 0)
def tu_qb (B : Nat → Nat → Int) (c : Int) : Nat → Nat → Int := tu_row (tu_row (tu_row B 0 (tu_u (B 0) 1 ((B 0 1) + 1))) 2 (tu_u (tu_u (B 2) (B 0 1).toNat 0) (B 0 1).toNat (((0 : Nat) : Int) + 1))) 3 (tu_u (B 3) ((B 0 1).toNat * 16 + 0) (if c = 88 then 1 else 0))
def tu_qc (B : Nat → Nat → Int) (z c : Int) : Nat → Nat → Int := tu_row (tu_row B 2 (tu_u (B 2) (B 0 1 - 1).toNat (((z.toNat : Nat) : Int) + 1))) 3 (tu_u (B 3) ((B 0 1 - 1).toNat * 16 + z.toNat) (if c = 88 then 1 else 0))
def tu_qd (B : Nat → Nat → Int) (z c : Int) : Nat → Nat → Int := tu_row (tu_row B 4 (tu_u (B 4) (B 0 4 - 1).toNat (((z.toNat : Nat) : Int) + 1))) 5 (tu_u (B 5) ((B 0 4 - 1).toNat * 24 + z.toNat) (if c = 115 then 2 else if c = 119 then 1 else 0))
def tu_q1 (B : Nat → Nat → Int) (a : Int × Int) (c : Int) : Nat → Nat → Int := if tu_kd a c = 1 then tu_qa B else if tu_kd a c = 2 then (if a.2 = 0 then tu_qb B c else tu_qc B a.2 c) else if tu_kd a c = 3 then tu_qd B a.2 c else B
def tu_qs (B : Nat → Nat → Int) (f : Nat → Int) : Nat → Nat → Nat → Int
  | 0 => B
  | k + 1 => tu_q1 (tu_qs B f k) (tu_ps f k) (f k)
theorem tu_kd_c {a : Int × Int} {c : Int} (h : tu_kd a c ≠ 0) : (tu_kd a c = 4 ∧ 0 < a.2 ∧ c = 59) ∨ (tu_kd a c = 1 ∧ a.2 = 0 ∧ a.1 = 0 ∧ c = 124) ∨ (tu_kd a c = 2 ∧ a.1 = 0 ∧ a.2 < 16 ∧ (c = 120 ∨ c = 88)) ∨ (tu_kd a c = 3 ∧ a.1 = 1 ∧ a.2 < 24 ∧ (c = 115 ∨ c = 119 ∨ c = 46)) := by
  unfold tu_kd at h ⊢
  split
  · next q => exact Or.inl ⟨rfl, q.1, q.2⟩
  · next q =>
    rw [if_neg q] at h
    split
    · next q2 => exact Or.inr (Or.inl ⟨rfl, q2.1, q2.2.1, q2.2.2⟩)
    · next q2 =>
      rw [if_neg q2] at h
      split
      · next q3 => exact Or.inr (Or.inr (Or.inl ⟨rfl, q3.1, q3.2.1, q3.2.2⟩))
      · next q3 =>
        rw [if_neg q3] at h
        split
        · next q4 => exact Or.inr (Or.inr (Or.inr ⟨rfl, q4.1, q4.2.1, q4.2.2⟩))
        · next q4 => rw [if_neg q4] at h; exact absurd rfl h
theorem tu_ps_4 {f : Nat → Int} {k : Nat} (h : tu_kd (tu_ps f k) (f k) = 4) : tu_ps f (k + 1) = (0, 0) := by
  show tu_nx _ _ = _
  simp [tu_nx, h]
theorem tu_ps_1 {f : Nat → Int} {k : Nat} (h : tu_kd (tu_ps f k) (f k) = 1) : tu_ps f (k + 1) = (1, 0) := by
  show tu_nx _ _ = _
  simp [tu_nx, h]
theorem tu_ps_23 {f : Nat → Int} {k : Nat} (h : tu_kd (tu_ps f k) (f k) = 2 ∨ tu_kd (tu_ps f k) (f k) = 3) : tu_ps f (k + 1) = ((tu_ps f k).1, (tu_ps f k).2 + 1) := by
  show tu_nx _ _ = _
  rcases h with h | h <;> simp [tu_nx, h]
/-- a part begins -/
def tu_bg (f : Nat → Int) (k : Nat) : Prop := k = 0 ∨ f (k - 1) = 59
theorem tu_bg_i {f : Nat → Int} : ∀ {k : Nat}, (∀ j, j < k → tu_kd (tu_ps f j) (f j) ≠ 0) → ((k = 0 ∨ f (k - 1) = 59) ↔ (tu_ps f k).1 = 0 ∧ (tu_ps f k).2 = 0)
  | 0, _ => ⟨fun _ => ⟨rfl, rfl⟩, fun _ => Or.inl rfl⟩
  | k + 1, h => by
    have hk := tu_kd_c (h k (Nat.lt_succ_self k))
    have hi := tu_ps_in f k
    rw [show k + 1 - 1 = k by omega]
    rcases hk with ⟨e, h1, h2⟩ | ⟨e, h1, h2, h3⟩ | ⟨e, h1, h2, h3⟩ | ⟨e, h1, h2, h3⟩
    · rw [tu_ps_4 e]; exact ⟨fun _ => ⟨rfl, rfl⟩, fun _ => Or.inr h2⟩
    · rw [tu_ps_1 e]
      refine ⟨fun z => by omega, fun z => absurd z.1 (by decide)⟩
    · rw [tu_ps_23 (Or.inl e)]
      refine ⟨fun z => by omega, fun z => ?_⟩
      have := z.2
      simp only [] at this
      omega
    · rw [tu_ps_23 (Or.inr e)]
      refine ⟨fun z => by omega, fun z => ?_⟩
      have := z.2
      simp only [] at this
      omega
/-- how many parts begin before a place -/
def tu_PA (f : Nat → Int) : Nat → Int := tu_sm (fun q => if q = 0 ∨ f (q - 1) = 59 then 1 else 0)
theorem tu_PA_s (f : Nat → Int) (k : Nat) : tu_PA f (k + 1) = tu_PA f k + (if k = 0 ∨ f (k - 1) = 59 then 1 else 0) := rfl
theorem tu_ti_s (f : Nat → Int) (z : Int) (k : Nat) : tu_ti f z (k + 1) = tu_ti f z k + (if f k = z then 1 else 0) := rfl
/-- what is true behind k characters of a text without a fault -/
def tu_QI (B : Nat → Nat → Int) (f : Nat → Int) (k : Nat) : Prop :=
  (tu_qs B f k 0 1 = B 0 1 + (tu_PA f k - tu_ti f 124 k) ∧ tu_qs B f k 0 4 = B 0 4 + tu_ti f 124 k) ∧ (∀ j, j ≠ 1 → j ≠ 4 → tu_qs B f k 0 j = B 0 j) ∧ (0 ≤ tu_PA f k - tu_ti f 124 k ∧ 0 ≤ tu_ti f 124 k) ∧
  ((tu_ps f k).1 = 0 → 0 < (tu_ps f k).2 → 1 ≤ tu_PA f k - tu_ti f 124 k ∧ tu_qs B f k 2 (tu_qs B f k 0 1 - 1).toNat = (tu_ps f k).2) ∧ ((tu_ps f k).1 = 1 → 1 ≤ tu_ti f 124 k ∧ tu_qs B f k 4 (tu_qs B f k 0 4 - 1).toNat = (tu_ps f k).2)
theorem tu_q1_1 {B : Nat → Nat → Int} {a : Int × Int} {c : Int} (h : tu_kd a c = 1) : tu_q1 B a c = tu_qa B := by unfold tu_q1; rw [if_pos h]
theorem tu_q1_2a {B : Nat → Nat → Int} {a : Int × Int} {c : Int} (h : tu_kd a c = 2) (h0 : a.2 = 0) : tu_q1 B a c = tu_qb B c := by unfold tu_q1; rw [if_neg (by omega), if_pos h, if_pos h0]
theorem tu_q1_2b {B : Nat → Nat → Int} {a : Int × Int} {c : Int} (h : tu_kd a c = 2) (h0 : a.2 ≠ 0) : tu_q1 B a c = tu_qc B a.2 c := by unfold tu_q1; rw [if_neg (by omega), if_pos h, if_neg h0]
theorem tu_q1_3 {B : Nat → Nat → Int} {a : Int × Int} {c : Int} (h : tu_kd a c = 3) : tu_q1 B a c = tu_qd B a.2 c := by unfold tu_q1; rw [if_neg (by omega), if_neg (by omega), if_pos h]
theorem tu_q1_4 {B : Nat → Nat → Int} {a : Int × Int} {c : Int} (h : tu_kd a c = 4) : tu_q1 B a c = B := by unfold tu_q1; rw [if_neg (by omega), if_neg (by omega), if_neg (by omega)]
theorem tu_QI_all {B : Nat → Nat → Int} {f : Nat → Int} {n : Nat} (hB : 0 ≤ B 0 1 ∧ 0 ≤ B 0 4) (h : ∀ j, j < n → tu_kd (tu_ps f j) (f j) ≠ 0) : ∀ k, k ≤ n → tu_QI B f k
  | 0, _ => ⟨⟨by simp [tu_qs, tu_PA, tu_sm, tu_ti], by simp [tu_qs, tu_ti]⟩, fun _ _ _ => rfl, ⟨by simp [tu_PA, tu_sm, tu_ti], by simp [tu_ti]⟩, fun _ h2 => absurd h2 (Int.lt_irrefl _), fun h1 => absurd (show (0 : Int) = 1 from h1) (by decide)⟩
  | k + 1, hk => by
    obtain ⟨⟨i1, i2⟩, i3, ⟨i4, i5⟩, i6, i7⟩ := tu_QI_all hB h k (by omega)
    have hn := tu_ps_in f k
    have hb := tu_bg_i (k := k) (fun j hj => h j (by omega))
    have hc := tu_kd_c (h k (by omega))
    have e1 := tu_PA_s f k
    have e2 := tu_ti_s f 124 k
    unfold tu_QI
    rw [show tu_qs B f (k + 1) = tu_q1 (tu_qs B f k) (tu_ps f k) (f k) from rfl]
    generalize tu_qs B f k = W at i1 i2 i3 i6 i7 ⊢
    rcases hc with ⟨e, h1, h2⟩ | ⟨e, h1, h2, h3⟩ | ⟨e, h1, h2, h3⟩ | ⟨e, h1, h2, h3⟩
    · rw [tu_q1_4 e, tu_ps_4 e, e1, e2, if_neg (show ¬ (k = 0 ∨ f (k - 1) = 59) from fun z => by have := hb.mp z; omega), if_neg (show ¬ f k = 124 by omega)]
      exact ⟨⟨by omega, by omega⟩, i3, ⟨by omega, by omega⟩, fun _ z => absurd z (Int.lt_irrefl _), fun z => absurd z (by decide)⟩
    · rw [tu_q1_1 e, tu_ps_1 e, e1, e2, if_pos (hb.mpr ⟨h2, h1⟩), if_pos h3]
      refine ⟨⟨?_, ?_⟩, fun j hj1 hj4 => ?_, ⟨by omega, by omega⟩, fun z => absurd z (by decide), fun _ => ⟨by omega, ?_⟩⟩
      · show tu_u (W 0) 4 (W 0 4 + 1) 1 = _
        rw [tu_u_n _ _ (by decide)]; omega
      · show tu_u (W 0) 4 (W 0 4 + 1) 4 = _
        rw [tu_u_s]; omega
      · show tu_u (W 0) 4 (W 0 4 + 1) j = _
        rw [tu_u_n _ _ hj4]; exact i3 j hj1 hj4
      · show tu_u (W 4) (W 0 4).toNat 0 (tu_u (W 0) 4 (W 0 4 + 1) 4 - 1).toNat = 0
        rw [tu_u_s, show W 0 4 + 1 - 1 = W 0 4 by omega, tu_u_s]
    · rw [tu_ps_23 (Or.inl e), e2, if_neg (show ¬ f k = 124 by omega)]
      by_cases hz : (tu_ps f k).2 = 0
      · rw [tu_q1_2a e hz, e1, if_pos (hb.mpr ⟨h1, hz⟩)]
        refine ⟨⟨?_, ?_⟩, fun j hj1 hj4 => ?_, ⟨by omega, by omega⟩, fun _ _ => ⟨by omega, ?_⟩, fun z => by simp only [] at z; omega⟩
        · show tu_u (W 0) 1 (W 0 1 + 1) 1 = _
          rw [tu_u_s]; omega
        · show tu_u (W 0) 1 (W 0 1 + 1) 4 = _
          rw [tu_u_n _ _ (by decide)]; omega
        · show tu_u (W 0) 1 (W 0 1 + 1) j = _
          rw [tu_u_n _ _ hj1]; exact i3 j hj1 hj4
        · show tu_u (tu_u (W 2) (W 0 1).toNat 0) (W 0 1).toNat (((0 : Nat) : Int) + 1) (tu_u (W 0) 1 (W 0 1 + 1) 1 - 1).toNat = (tu_ps f k).2 + 1
          rw [tu_u_s, show W 0 1 + 1 - 1 = W 0 1 by omega, tu_u_s]; omega
      · rw [tu_q1_2b e hz, e1, if_neg (show ¬ (k = 0 ∨ f (k - 1) = 59) from fun z => by have := hb.mp z; omega)]
        refine ⟨⟨by show W 0 1 = _; omega, by show W 0 4 = _; omega⟩, i3, ⟨by omega, by omega⟩, fun _ _ => ⟨?_, ?_⟩, fun z => by simp only [] at z; omega⟩
        · have := (i6 h1 (by omega)).1; omega
        · show tu_u (W 2) (W 0 1 - 1).toNat ((((tu_ps f k).2.toNat : Nat) : Int) + 1) (W 0 1 - 1).toNat = (tu_ps f k).2 + 1
          rw [tu_u_s]; omega
    · rw [tu_ps_23 (Or.inr e), e2, if_neg (show ¬ f k = 124 by omega), tu_q1_3 e, e1, if_neg (show ¬ (k = 0 ∨ f (k - 1) = 59) from fun z => by have := hb.mp z; omega)]
      refine ⟨⟨by show W 0 1 = _; omega, by show W 0 4 = _; omega⟩, i3, ⟨by omega, by omega⟩, fun z => by simp only [] at z; omega, fun _ => ⟨?_, ?_⟩⟩
      · have := (i7 h1).1; omega
      · show tu_u (W 4) (W 0 4 - 1).toNat ((((tu_ps f k).2.toNat : Nat) : Int) + 1) (W 0 4 - 1).toNat = (tu_ps f k).2 + 1
        rw [tu_u_s]; omega
theorem tu_PA_mono {f : Nat → Int} {n : Nat} (h : ∀ j, j < n → tu_kd (tu_ps f j) (f j) ≠ 0) : ∀ d k, k + d = n → tu_PA f k - tu_ti f 124 k ≤ tu_PA f n - tu_ti f 124 n ∧ tu_ti f 124 k ≤ tu_ti f 124 n
  | 0, k, e => by rw [show k = n by omega]; omega
  | d + 1, k, e => by
    have ih := tu_PA_mono h d (k + 1) (by omega)
    have hc := tu_kd_c (h k (by omega))
    have hb := tu_bg_i (k := k) (fun j hj => h j (by omega))
    rw [tu_PA_s, tu_ti_s] at ih
    by_cases q : f k = 124
    · have hk : k = 0 ∨ f (k - 1) = 59 := hb.mpr (by omega)
      rw [if_pos q, if_pos hk] at ih
      omega
    · rw [if_neg q] at ih
      split at ih <;> omega
theorem tu_ft_rg {f : Nat → Int} {n : Nat} {w : Int} (h : tu_ft f n w) : -6 ≤ w ∧ w ≤ (n : Int) := by
  rcases h with ⟨k, hk, e, -⟩ | ⟨-, e⟩
  · omega
  · split at e <;> omega
