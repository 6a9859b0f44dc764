/-! all ways of a line on a phrase, in their order: the least cost (1000000: none), how many, how many at that cost, the first of them -/
abbrev tz_Q : Type := Int × Int × Int × (Nat → Nat)
def tz_ad (A B : tz_Q) : tz_Q := if B.1 < A.1 then (B.1, A.2.1 + B.2.1, B.2.2.1, B.2.2.2) else if B.1 = A.1 then (A.1, A.2.1 + B.2.1, A.2.2.1 + B.2.2.1, A.2.2.2) else (A.1, A.2.1 + B.2.1, A.2.2.1, A.2.2.2)
def tz_no : tz_Q := (1000000, 0, 0, fun _ => 0)
theorem tz_lt {A B : tz_Q} (h : B.1 < A.1) : tz_ad A B = (B.1, A.2.1 + B.2.1, B.2.2.1, B.2.2.2) := if_pos h
theorem tz_eq {A B : tz_Q} (h : B.1 = A.1) : tz_ad A B = (A.1, A.2.1 + B.2.1, A.2.2.1 + B.2.2.1, A.2.2.2) := by
  unfold tz_ad
  rw [if_neg (by omega), if_pos h]
theorem tz_gt {A B : tz_Q} (h : A.1 < B.1) : tz_ad A B = (A.1, A.2.1 + B.2.1, A.2.2.1, A.2.2.2) := by
  unfold tz_ad
  rw [if_neg (by omega), if_neg (by omega)]
theorem tz_as (A B C : tz_Q) : tz_ad (tz_ad A B) C = tz_ad A (tz_ad B C) := by
  obtain ⟨a, n, k, f⟩ := A
  obtain ⟨b, m, l, g⟩ := B
  obtain ⟨c, o, q, e⟩ := C
  rcases Int.lt_trichotomy b a with h1 | h1 | h1 <;> rcases Int.lt_trichotomy c b with h2 | h2 | h2 <;> rcases Int.lt_trichotomy c a with h3 | h3 | h3 <;> first
    | (exfalso; omega)
    | (first | rw [tz_lt (A := (a, n, k, f)) (B := (b, m, l, g)) h1] | rw [tz_eq (A := (a, n, k, f)) (B := (b, m, l, g)) h1] | rw [tz_gt (A := (a, n, k, f)) (B := (b, m, l, g)) h1]
       first | rw [tz_lt (A := (b, m, l, g)) (B := (c, o, q, e)) h2] | rw [tz_eq (A := (b, m, l, g)) (B := (c, o, q, e)) h2] | rw [tz_gt (A := (b, m, l, g)) (B := (c, o, q, e)) h2]
       simp only [tz_ad]
       repeat' split
       all_goals first | rfl | (exfalso; omega) | (simp only [Int.add_assoc]))
theorem tz_ri {A : tz_Q} (h : A.1 ≤ 1000000) : tz_ad A tz_no = A := by
  obtain ⟨a, n, k, f⟩ := A
  have h : a ≤ 1000000 := h
  rcases Int.lt_or_eq_of_le h with q | q
  · rw [tz_gt (show ((a, n, k, f) : tz_Q).1 < tz_no.1 from q)]
    show (a, n + 0, k, f) = _
    rw [Int.add_zero]
  · rw [tz_eq (show tz_no.1 = ((a, n, k, f) : tz_Q).1 from q.symm)]
    show (a, n + 0, k + 0, f) = _
    rw [Int.add_zero, Int.add_zero]
theorem tz_le {A B : tz_Q} : (tz_ad A B).1 ≤ A.1 ∧ (tz_ad A B).1 ≤ B.1 := by
  rcases Int.lt_trichotomy B.1 A.1 with h | h | h
  · rw [tz_lt h]; exact ⟨Int.le_of_lt h, Int.le_refl _⟩
  · rw [tz_eq h]; exact ⟨Int.le_refl _, Int.le_of_eq h.symm⟩
  · rw [tz_gt h]; exact ⟨Int.le_refl _, Int.le_of_lt h⟩
theorem tz_n (A B : tz_Q) : (tz_ad A B).2.1 = A.2.1 + B.2.1 := by
  rcases Int.lt_trichotomy B.1 A.1 with h | h | h
  · rw [tz_lt h]
  · rw [tz_eq h]
  · rw [tz_gt h]
/-- several, one behind the other -/
def tz_or (O : Nat → tz_Q) : Nat → tz_Q
  | 0 => O 0
  | i + 1 => tz_ad (tz_or O i) (O (i + 1))
theorem tz_or_n (O : Nat → tz_Q) : ∀ i, (tz_or O i).2.1 = tu_sm (fun q => (O q).2.1) (i + 1)
  | 0 => (Int.zero_add _).symm
  | i + 1 => by
    show (tz_ad (tz_or O i) (O (i + 1))).2.1 = _
    rw [tz_n, tz_or_n O i]
    rfl
theorem tz_or_ge {O : Nat → tz_Q} {T : Int} : ∀ {i : Nat}, (∀ q, q ≤ i → T ≤ (O q).1) → T ≤ (tz_or O i).1
  | 0, h => h 0 (Nat.le_refl _)
  | i + 1, h => by
    have a := tz_or_ge (O := O) (i := i) (fun q hq => h q (by omega))
    have b := h (i + 1) (Nat.le_refl _)
    show T ≤ (tz_ad (tz_or O i) (O (i + 1))).1
    rcases Int.lt_trichotomy (O (i + 1)).1 (tz_or O i).1 with g | g | g
    · rw [tz_lt g]; exact b
    · rw [tz_eq g]; exact a
    · rw [tz_gt g]; exact a
theorem tz_or_le {O : Nat → tz_Q} : ∀ {i q : Nat}, q ≤ i → (tz_or O i).1 ≤ (O q).1
  | 0, q, h => by rw [show q = 0 by omega]; exact Int.le_refl _
  | i + 1, q, h => by
    have g := tz_le (A := tz_or O i) (B := O (i + 1))
    show (tz_ad (tz_or O i) (O (i + 1))).1 ≤ _
    rcases Nat.lt_or_ge q (i + 1) with r | r
    · have a := tz_or_le (O := O) (i := i) (q := q) (by omega)
      exact Int.le_trans g.1 a
    · rw [show q = i + 1 by omega]; exact g.2
/-- how many at a cost that none goes below -/
def tz_k (T : Int) (A : tz_Q) : Int := if A.1 = T then A.2.2.1 else 0
theorem tz_k_ad {T : Int} {A B : tz_Q} (ha : T ≤ A.1) (hb : T ≤ B.1) : tz_k T (tz_ad A B) = tz_k T A + tz_k T B := by
  unfold tz_k
  rcases Int.lt_trichotomy B.1 A.1 with h | h | h
  · rw [tz_lt h, if_neg (show ¬ A.1 = T by omega), Int.zero_add]
  · rw [tz_eq h]
    by_cases e : A.1 = T
    · rw [if_pos e, if_pos e, if_pos (h.trans e)]
    · rw [if_neg e, if_neg e, if_neg (fun z => e (h.symm.trans z))]; rfl
  · rw [tz_gt h, if_neg (show ¬ B.1 = T by omega), Int.add_zero]
theorem tz_or_k {O : Nat → tz_Q} {T : Int} : ∀ {i : Nat}, (∀ q, q ≤ i → T ≤ (O q).1) → tz_k T (tz_or O i) = tu_sm (fun q => tz_k T (O q)) (i + 1)
  | 0, h => (Int.zero_add _).symm
  | i + 1, h => by
    show tz_k T (tz_ad (tz_or O i) (O (i + 1))) = _
    rw [tz_k_ad (tz_or_ge (fun q hq => h q (by omega))) (h (i + 1) (Nat.le_refl _)), tz_or_k (O := O) (i := i) (fun q hq => h q (by omega))]
    rfl
/-- the first at that cost -/
theorem tz_f_1 {T : Int} {A B : tz_Q} (ha : A.1 = T) (hb : T ≤ B.1) : (tz_ad A B).1 = T ∧ (tz_ad A B).2.2.2 = A.2.2.2 := by
  rcases Int.lt_trichotomy B.1 A.1 with h | h | h
  · omega
  · rw [tz_eq h]; exact ⟨ha, rfl⟩
  · rw [tz_gt h]; exact ⟨ha, rfl⟩
theorem tz_f_2 {T : Int} {A B : tz_Q} (ha : T < A.1) (hb : B.1 = T) : (tz_ad A B).1 = T ∧ (tz_ad A B).2.2.2 = B.2.2.2 := by
  rw [tz_lt (by omega)]
  exact ⟨hb, rfl⟩
theorem tz_or_gt {O : Nat → tz_Q} {T : Int} : ∀ {i : Nat}, (∀ q, q ≤ i → T < (O q).1) → T < (tz_or O i).1 := fun {i} h => by
  have := tz_or_ge (O := O) (T := T + 1) (i := i) (fun q hq => by have := h q hq; omega)
  omega
theorem tz_or_f {O : Nat → tz_Q} {T : Int} {p : Nat} (hp : (O p).1 = T) (h0 : ∀ q, q < p → T < (O q).1) : ∀ {i : Nat}, p ≤ i → (∀ q, q ≤ i → T ≤ (O q).1) → (tz_or O i).1 = T ∧ (tz_or O i).2.2.2 = (O p).2.2.2
  | 0, h, _ => by rw [show p = 0 by omega] at hp ⊢; exact ⟨hp, rfl⟩
  | i + 1, h, ha => by
    show (tz_ad (tz_or O i) (O (i + 1))).1 = T ∧ (tz_ad (tz_or O i) (O (i + 1))).2.2.2 = _
    rcases Nat.lt_or_ge p (i + 1) with r | r
    · have ih := tz_or_f hp h0 (i := i) (by omega) (fun q hq => ha q (by omega))
      have g := tz_f_1 (B := O (i + 1)) ih.1 (ha _ (Nat.le_refl _))
      exact ⟨g.1, g.2.trans ih.2⟩
    · have e : p = i + 1 := by omega
      subst e
      exact tz_f_2 (tz_or_gt (fun q hq => h0 q (by omega))) hp
/-! the ways by their codes: 8 * the first beat + the beats beyond it; u codes are left -/
def tz_s (g : Nat → Nat) (s x : Nat) : Nat → Nat := fun t => if t = s then x else g t
def tz_o (mh : Nat → Nat) (m s : Nat) (f : Nat → (Nat → Nat) → tz_Q) (g : Nat → Nat) (x : Nat) : tz_Q := if x % 8 + 1 ≤ mh (x / 8) then f (8 * (m - (x / 8 + (x % 8 + 1)))) (tz_s g s x) else tz_no
def tz_Y1 (mh : Nat → Nat) (m s : Nat) (f : Nat → (Nat → Nat) → tz_Q) (g : Nat → Nat) : Nat → tz_Q
  | 0 => tz_no
  | u + 1 => tz_ad (tz_o mh m s f g (8 * m - (u + 1))) (tz_Y1 mh m s f g u)
def tz_g (n : Nat) (g : Nat → Nat) : Nat → Nat := fun t => if t < n then g t else 0
def tz_Y (mh : Nat → Nat) (ct : (Nat → Nat) → Int) (n m : Nat) : Nat → Nat → (Nat → Nat) → tz_Q
  | 0 => fun _ g => (ct (tz_g n g), 1, 1, tz_g n g)
  | j + 1 => fun u g => tz_Y1 mh m (n - (j + 1)) (tz_Y mh ct n m j) g u
theorem tz_Y_g {mh : Nat → Nat} {ct : (Nat → Nat) → Int} {n m : Nat} : ∀ {j u : Nat} {g g' : Nat → Nat}, j ≤ n → (∀ t, t < n - j → g t = g' t) → tz_Y mh ct n m j u g = tz_Y mh ct n m j u g'
  | 0, u, g, g', _, h => by
    have e : tz_g n g = tz_g n g' := by
      funext t
      unfold tz_g
      split
      · exact h t (by omega)
      · rfl
    show (ct (tz_g n g), (1 : Int), (1 : Int), tz_g n g) = (ct (tz_g n g'), 1, 1, tz_g n g')
    rw [e]
  | j + 1, u, g, g', hj, h => by
    show tz_Y1 mh m (n - (j + 1)) (tz_Y mh ct n m j) g u = tz_Y1 mh m (n - (j + 1)) (tz_Y mh ct n m j) g' u
    induction u with
    | zero => rfl
    | succ u ih =>
      show tz_ad (tz_o mh m (n - (j + 1)) (tz_Y mh ct n m j) g (8 * m - (u + 1))) _ = tz_ad (tz_o mh m (n - (j + 1)) (tz_Y mh ct n m j) g' (8 * m - (u + 1))) _
      rw [ih]
      have e : tz_o mh m (n - (j + 1)) (tz_Y mh ct n m j) g (8 * m - (u + 1)) = tz_o mh m (n - (j + 1)) (tz_Y mh ct n m j) g' (8 * m - (u + 1)) := by
        unfold tz_o
        split
        · refine tz_Y_g (by omega) (fun t ht => ?_)
          unfold tz_s
          split
          · rfl
          · exact h t (by omega)
        · rfl
      rw [e]
/-- eight codes make a beat -/
theorem tz_Y1_8 {mh : Nat → Nat} {m s : Nat} {f : Nat → (Nat → Nat) → tz_Q} {g : Nat → Nat} {e : Nat} (he : e + 1 ≤ m) : ∀ i, i < 8 → tz_Y1 mh m s f g (8 * (e + 1)) = tz_ad (tz_or (fun i => tz_o mh m s f g (8 * (m - (e + 1)) + i)) i) (tz_Y1 mh m s f g (8 * (e + 1) - (i + 1)))
  | 0, _ => by
    show tz_Y1 mh m s f g (8 * e + 7 + 1) = _
    show tz_ad (tz_o mh m s f g (8 * m - (8 * e + 7 + 1))) (tz_Y1 mh m s f g (8 * e + 7)) = tz_ad (tz_o mh m s f g (8 * (m - (e + 1)) + 0)) _
    rw [show 8 * m - (8 * e + 7 + 1) = 8 * (m - (e + 1)) + 0 by omega, show 8 * (e + 1) - (0 + 1) = 8 * e + 7 by omega]
  | i + 1, hi => by
    rw [tz_Y1_8 he i (by omega)]
    have e1 : 8 * (e + 1) - (i + 1) = (8 * (e + 1) - (i + 1 + 1)) + 1 := by omega
    rw [e1]
    show tz_ad _ (tz_ad (tz_o mh m s f g (8 * m - (8 * (e + 1) - (i + 1 + 1) + 1))) _) = tz_ad (tz_ad _ (tz_o mh m s f g (8 * (m - (e + 1)) + (i + 1)))) _
    rw [tz_as, show 8 * m - (8 * (e + 1) - (i + 1 + 1) + 1) = 8 * (m - (e + 1)) + (i + 1) by omega]
theorem tz_Y1_e {mh : Nat → Nat} {m s : Nat} {f : Nat → (Nat → Nat) → tz_Q} {g : Nat → Nat} {e : Nat} (he : e + 1 ≤ m) : tz_Y1 mh m s f g (8 * (e + 1)) = tz_ad (tz_or (fun i => tz_o mh m s f g (8 * (m - (e + 1)) + i)) 7) (tz_Y1 mh m s f g (8 * e)) := by
  rw [tz_Y1_8 he 7 (by decide), show 8 * (e + 1) - (7 + 1) = 8 * e by omega]
