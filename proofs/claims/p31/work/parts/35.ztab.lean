/-! all ways, and the tables of the laying -/
def tz_pk (L k : Nat → Int) (b : Nat) : Int := tu_sm (fun q => if k q = 0 then 0 else L 2) b
def tz_pd (L a k : Nat → Int) (s : Nat) (g : Nat → Nat) : Int := tu_sm (fun t => L 1 * ((g t % 8 : Nat) : Int) + (if ¬ (a t = 1 ↔ k (g t / 8) = 2) then L 3 else 0) - L 2 * ((g t % 8 + 1 : Nat) : Int)) s
def tz_pc (L a k : Nat → Int) (s b : Nat) (g : Nat → Nat) : Int := tz_pd L a k s g + tz_pk L k b
/-- of a way: what is drawn, what is free, what hurts, what it costs -/
def tz_dr (L : Nat → Int) (n : Nat) (g : Nat → Nat) : Int := tu_sm (fun t => L 1 * ((g t % 8 : Nat) : Int)) n
def tz_fr (k : Nat → Int) (n m : Nat) (g : Nat → Nat) : Int := tu_sm (fun q => if k q = 0 then 0 else 1) m - tu_sm (fun t => ((g t % 8 + 1 : Nat) : Int)) n
def tz_hs (a k : Nat → Int) (n : Nat) (g : Nat → Nat) : Int := tu_sm (fun t => if ¬ (a t = 1 ↔ k (g t / 8) = 2) then 1 else 0) n
def tz_ct (L a k : Nat → Int) (n m : Nat) (g : Nat → Nat) : Int := tz_dr L n g + (L 2 * tz_fr k n m g + L 3 * tz_hs a k n g)
theorem tz_sm_q {f h : Nat → Int} : ∀ {n : Nat}, (∀ t, t < n → f t = h t) → tu_sm f n = tu_sm h n
  | 0, _ => rfl
  | n + 1, e => by
    show tu_sm f n + f n = tu_sm h n + h n
    rw [tz_sm_q (fun t ht => e t (by omega)), e n (Nat.lt_succ_self n)]
theorem tz_pk_1 (L k : Nat → Int) : ∀ m, L 2 * tu_sm (fun q => if k q = 0 then 0 else 1) m = tz_pk L k m
  | 0 => Int.mul_zero _
  | m + 1 => by
    have ih := tz_pk_1 L k m
    show L 2 * (tu_sm (fun q => if k q = 0 then 0 else 1) m + (if k m = 0 then 0 else 1)) = tz_pk L k m + (if k m = 0 then 0 else L 2)
    rw [Int.mul_add, ih]
    split
    · rw [Int.mul_zero]
    · rw [Int.mul_one]
theorem tz_ct_p (L a k : Nat → Int) (m : Nat) (g : Nat → Nat) : ∀ n, tz_ct L a k n m g = tz_pd L a k n g + tz_pk L k m
  | 0 => by
    rw [← tz_pk_1]
    show 0 + (L 2 * (tu_sm (fun q => if k q = 0 then 0 else 1) m - 0) + L 3 * 0) = 0 + _
    rw [Int.sub_zero, Int.mul_zero, Int.add_zero]
  | n + 1 => by
    have ih := tz_ct_p L a k m g n
    unfold tz_ct tz_fr at ih ⊢
    have e1 : tz_dr L (n + 1) g = tz_dr L n g + L 1 * ((g n % 8 : Nat) : Int) := rfl
    have e2 : tz_hs a k (n + 1) g = tz_hs a k n g + (if ¬ (a n = 1 ↔ k (g n / 8) = 2) then 1 else 0) := rfl
    have e3 : tu_sm (fun t => ((g t % 8 + 1 : Nat) : Int)) (n + 1) = tu_sm (fun t => ((g t % 8 + 1 : Nat) : Int)) n + ((g n % 8 + 1 : Nat) : Int) := rfl
    have e4 : tz_pd L a k (n + 1) g = tz_pd L a k n g + (L 1 * ((g n % 8 : Nat) : Int) + (if ¬ (a n = 1 ↔ k (g n / 8) = 2) then L 3 else 0) - L 2 * ((g n % 8 + 1 : Nat) : Int)) := rfl
    rw [e1, e2, e3, e4]
    rw [Int.mul_sub] at ih ⊢
    rw [Int.mul_add, Int.mul_add]
    have e5 : L 3 * (if ¬ (a n = 1 ↔ k (g n / 8) = 2) then 1 else 0) = (if ¬ (a n = 1 ↔ k (g n / 8) = 2) then L 3 else 0) := by
      split
      · rw [Int.mul_one]
      · rw [Int.mul_zero]
    rw [e5]
    omega
theorem tz_pd_q {L a k : Nat → Int} {s : Nat} {g g' : Nat → Nat} (h : ∀ t, t < s → g t = g' t) : tz_pd L a k s g = tz_pd L a k s g' := tz_sm_q (fun t ht => by rw [h t ht])
theorem tz_run (L k : Nat → Int) (b : Nat) : ∀ h : Nat, (∀ j, j < h → k (b + j) ≠ 0) → tz_pk L k (b + h) = tz_pk L k b + L 2 * (h : Int)
  | 0, _ => by
    show tz_pk L k b = tz_pk L k b + L 2 * 0
    rw [Int.mul_zero, Int.add_zero]
  | h + 1, e => by
    have ih := tz_run L k b h (fun j hj => e j (by omega))
    show tz_pk L k (b + h) + (if k (b + h) = 0 then 0 else L 2) = _
    rw [ih, if_neg (e h (Nat.lt_succ_self h)), show ((h + 1 : Nat) : Int) = (h : Int) + 1 from rfl, Int.mul_add, Int.mul_one, Int.add_assoc]
/-- the beats that a syllable gets are no rests -/
theorem tz_ro {k r : Nat → Int} {m : Nat} (hr : tu_RO k r m) {b h : Nat} (hh : (h : Int) ≤ r b) (hb : b < m) : ∀ j, j < h → k (b + j) ≠ 0 ∧ (h : Int) ≤ r (b + j + 1) + (j + 1) ∧ b + j < m
  | 0, hj => by
    have e := hr.2 b hb
    have e0 : k b ≠ 0 := fun z => by rw [if_pos z] at e; omega
    rw [if_neg e0] at e
    exact ⟨e0, by show (h : Int) ≤ r (b + 1) + (0 + 1); omega, hb⟩
  | j + 1, hj => by
    obtain ⟨-, i2, i3⟩ := tz_ro hr hh hb j (by omega)
    have hlt : b + (j + 1) < m := by
      rcases Nat.lt_or_ge (b + (j + 1)) m with q | q
      · exact q
      · have e : b + j + 1 = m := by omega
        rw [e, hr.1] at i2
        omega
    have e := hr.2 (b + (j + 1)) hlt
    have i2 : (h : Int) ≤ r (b + (j + 1)) + ((j : Int) + 1) := i2
    have e0 : k (b + (j + 1)) ≠ 0 := fun z => by rw [if_pos z] at e; omega
    rw [if_neg e0] at e
    exact ⟨e0, by show (h : Int) ≤ r (b + (j + 1) + 1) + (((j + 1 : Nat) : Int) + 1); omega, hlt⟩
theorem tz_mh_k {L a k r : Nat → Int} {n m b : Nat} (hK : tu_LK L a k r n m) (hb : b < m) {j : Nat} (hj : j < tu_mh L r b) : k (b + j) ≠ 0 := by
  have e := tu_mh_le hK hb
  exact (tz_ro hK.2.2.2.2.2.2.2.2.2 (h := tu_mh L r b) (by omega) hb j hj).1
theorem tz_mn_le {i : Int} {f : Nat → Int} : ∀ {n : Nat}, tu_mn i f n ≤ i ∧ ∀ h, 1 ≤ h → h ≤ n → tu_mn i f n ≤ f h
  | 0 => ⟨Int.le_refl _, fun h a b => by omega⟩
  | n + 1 => by
    have ih := tz_mn_le (i := i) (f := f) (n := n)
    unfold tu_mn
    refine ⟨by omega, fun h a b => ?_⟩
    rcases Nat.lt_or_ge h (n + 1) with q | q
    · have := ih.2 h a (by omega)
      omega
    · rw [show h = n + 1 by omega]; omega
/-- a place of the table -/
theorem tz_c {L a k r c : Nat → Int} {n m s b : Nat} (hT : tu_Tx L a k r n m c) (hs : s < n) (hb : b < m) : (0 ≤ c (s * 25 + b) ∧ c (s * 25 + b) ≤ 1000000) ∧ c (s * 25 + b) ≤ tu_cf L k c s b ∧ (∀ h, 1 ≤ h → h ≤ tu_mh L r b → c (s * 25 + b) ≤ tu_ch L a k c s b h) ∧ (c (s * 25 + b) = 1000000 ∨ c (s * 25 + b) = tu_cf L k c s b ∨ ∃ h, (1 ≤ h ∧ h ≤ tu_mh L r b) ∧ c (s * 25 + b) = tu_ch L a k c s b h) := by
  obtain ⟨e, e0⟩ := (hT.2 s (Nat.zero_le _) hs).2 b (Nat.zero_le _) hb
  have g := tz_mn_le (i := tu_cf L k c s b) (f := tu_ch L a k c s b) (n := tu_mh L r b)
  refine ⟨⟨e0, by omega⟩, by omega, fun h h1 h2 => ?_, ?_⟩
  · have := g.2 h h1 h2
    omega
  · rcases tu_mn_in (i := tu_cf L k c s b) (f := tu_ch L a k c s b) (tu_mh L r b) with q | ⟨h, h1, h2⟩
    · omega
    · rcases Int.lt_or_le (tu_ch L a k c s b h) 1000000 with z | z
      · exact Or.inr (Or.inr ⟨h, h1, by omega⟩)
      · exact Or.inl (by omega)
theorem tz_skip {L a k r : Nat → Int} {n m : Nat} (hK : tu_LK L a k r n m) (c : Nat → Int) (s b : Nat) : ∃ x, (0 ≤ x ∧ x ≤ 9) ∧ x = (if k b = 0 then 0 else L 2) ∧ tu_cf L k c s b = c (s * 25 + (b + 1)) + x := by
  have hl := hK.2.2.2.2.2.1
  refine ⟨_, ?_, rfl, rfl⟩
  split <;> omega
theorem tz_held {L a k r : Nat → Int} {n m : Nat} (hK : tu_LK L a k r n m) (c : Nat → Int) (s b i : Nat) (hi : i < 8) : ∃ x, (0 ≤ x ∧ x ≤ 83) ∧ x = L 1 * (i : Int) + (if ¬ (a s = 1 ↔ k b = 2) then L 3 else 0) ∧ tu_ch L a k c s b (i + 1) = c ((s + 1) * 25 + (b + (i + 1))) + x := by
  have hd := hK.2.2.2.2.1
  have hh := hK.2.2.2.2.2.2.1
  have e : L 1 * (((i + 1 : Nat) : Int) - 1) = L 1 * (i : Int) := by
    rw [show ((i + 1 : Nat) : Int) - 1 = (i : Int) by omega]
  have g : 0 ≤ L 1 * (i : Int) ∧ L 1 * (i : Int) ≤ 63 := by
    rcases (show i = 0 ∨ i = 1 ∨ i = 2 ∨ i = 3 ∨ i = 4 ∨ i = 5 ∨ i = 6 ∨ i = 7 by omega) with rfl | rfl | rfl | rfl | rfl | rfl | rfl | rfl <;> omega
  refine ⟨_, ?_, rfl, ?_⟩
  · split <;> omega
  · unfold tu_ch
    rw [e, show (s + 1) * 25 + b + (i + 1) = (s + 1) * 25 + (b + (i + 1)) by omega]
    omega
/-- what can be laid is cheap -/
theorem tz_cb {L a k r c : Nat → Int} {n m : Nat} (hK : tu_LK L a k r n m) (hT : tu_Tx L a k r n m c) : ∀ j, j ≤ n → ∀ e, e ≤ m → c ((n - j) * 25 + (m - e)) = 1000000 ∨ (0 ≤ c ((n - j) * 25 + (m - e)) ∧ c ((n - j) * 25 + (m - e)) ≤ 83 * (j : Int) + 9 * (e : Int))
  | 0, _, e, he => by
    rcases Nat.eq_zero_or_pos e with q | q
    · rw [q]
      have h0 : c (n * 25 + m) = 0 := hT.1.1
      exact Or.inr ⟨Int.le_of_eq h0.symm, Int.le_of_eq h0⟩
    · have g := (hT.1.2 (m - e) (Nat.zero_le _) (by omega)).2
      show c (n * 25 + (m - e)) = _ ∨ (0 ≤ c (n * 25 + (m - e)) ∧ c (n * 25 + (m - e)) ≤ _)
      omega
  | j + 1, hj, 0, _ => Or.inl (hT.2 (n - (j + 1)) (Nat.zero_le _) (by omega)).1
  | j + 1, hj, e + 1, he => by
    have ie := tz_cb hK hT (j + 1) hj e (by omega)
    have g := tz_c hT (s := n - (j + 1)) (b := m - (e + 1)) (by omega) (by omega)
    rcases g.2.2.2 with q | q | ⟨h, h1, q⟩
    · exact Or.inl q
    · obtain ⟨x, hx, -, ex⟩ := tz_skip hK c (n - (j + 1)) (m - (e + 1))
      rw [show m - (e + 1) + 1 = m - e by omega] at ex
      omega
    · have hm := tu_mh_le hK (b := m - (e + 1)) (by omega)
      obtain ⟨x, hx, -, ex⟩ := tz_held hK c (n - (j + 1)) (m - (e + 1)) (h - 1) (by omega)
      have ij := tz_cb hK hT j (by omega) (e + 1 - h) (by omega)
      rw [show h - 1 + 1 = h by omega, show n - (j + 1) + 1 = n - j by omega, show m - (e + 1) + h = m - (e + 1 - h) by omega] at ex
      have h9 : ((e + 1 - h : Nat) : Int) ≤ e := by omega
      omega
/-- a prefix and the beats behind the last syllable -/
theorem tz_R0 {L k c : Nat → Int} {n m : Nat} (h : tu_R0 L k n m 0 c) : ∀ e, e ≤ m → tz_pk L k (m - e) + c (n * 25 + (m - e)) = tz_pk L k m
  | 0, _ => by rw [Nat.sub_zero, h.1, Int.add_zero]
  | e + 1, he => by
    have ih := tz_R0 h e (by omega)
    have g := (h.2 (m - (e + 1)) (Nat.zero_le _) (by omega)).1
    unfold tu_cf at g
    rw [show n * 25 + (m - (e + 1)) + 1 = n * 25 + (m - e) by omega] at g
    have e2 : tz_pk L k (m - e) = tz_pk L k (m - (e + 1)) + (if k (m - (e + 1)) = 0 then 0 else L 2) := by
      rw [show m - e = m - (e + 1) + 1 by omega]; rfl
    omega
/-- the best way from a place on: j syllables are left, the next is s, the next beat b -/
def tz_P (L a k r c : Nat → Int) (m : Nat) : Nat → Nat → Nat → (Nat → Nat) → Prop
  | 0, _, _, _ => True
  | j + 1, s, b, F => F s = 8 * tu_ff (tu_hx L a k r c s) b (m - b) + (tu_hx L a k r c s (tu_ff (tu_hx L a k r c s) b (m - b)) - 1) ∧ tz_P L a k r c m j (s + 1) (tu_ff (tu_hx L a k r c s) b (m - b) + tu_hx L a k r c s (tu_ff (tu_hx L a k r c s) b (m - b))) F
/-- what all ways from a place on come to -/
def tz_S (L a k r c : Nat → Int) (n m j s b e : Nat) (g : Nat → Nat) (Q : tz_Q) : Prop :=
  (∀ v, tu_Vx L a k r c 0 n m v → Q.2.1 = v (s * 25 + b)) ∧ (0 ≤ Q.2.1 ∧ Q.2.1 ≤ ((3 ^ e : Nat) : Int)) ∧ (0 ≤ Q.2.2.1 ∧ Q.2.2.1 ≤ Q.2.1) ∧
  ((c (s * 25 + b) = 1000000 ∧ Q.1 = 1000000 ∧ Q.2.1 = 0) ∨
   (c (s * 25 + b) < 1000000 ∧ Q.1 = tz_pc L a k s b g + c (s * 25 + b) ∧ (∀ v, tu_Vx L a k r c 1 n m v → Q.2.2.1 = v (s * 25 + b)) ∧ (∀ t, t < s → Q.2.2.2 t = g t) ∧ tz_P L a k r c m j s b Q.2.2.2))
theorem tz_sw_sm (i : Int) (f : Nat → Int) : ∀ H, tu_sw i f H = i + tu_sm (fun q => f (q + 1)) H
  | 0 => (Int.add_zero _).symm
  | H + 1 => by
    show tu_sw i f H + f (H + 1) = i + (tu_sm (fun q => f (q + 1)) H + f (H + 1))
    rw [tz_sw_sm i f H, Int.add_assoc]
theorem tz_sm_0 {f : Nat → Int} {H : Nat} : ∀ d, (∀ q, H ≤ q → q < H + d → f q = 0) → tu_sm f (H + d) = tu_sm f H
  | 0, _ => rfl
  | d + 1, h => by
    show tu_sm f (H + d) + f (H + d) = _
    rw [tz_sm_0 d (fun q a b => h q a (by omega)), h (H + d) (by omega) (by omega), Int.add_zero]
theorem tz_sm_3 {f : Nat → Int} {e : Nat} : ∀ H, H ≤ e + 1 → (∀ q, q < H → f q ≤ ((3 ^ (e - q) : Nat) : Int)) → 2 * tu_sm f H + ((3 ^ (e + 1 - H) : Nat) : Int) ≤ ((3 ^ (e + 1) : Nat) : Int)
  | 0, _, _ => by show 2 * 0 + _ ≤ _; rw [Nat.sub_zero]; omega
  | H + 1, hH, h => by
    have ih := tz_sm_3 (f := f) (e := e) H (by omega) (fun q hq => h q (by omega))
    have g := h H (Nat.lt_succ_self H)
    have e1 : 3 ^ (e + 1 - H) = 3 * 3 ^ (e - H) := by
      rw [show e + 1 - H = e - H + 1 by omega, Nat.pow_succ, Nat.mul_comm]
    rw [e1] at ih
    rw [show e + 1 - (H + 1) = e - H by omega]
    show 2 * (tu_sm f H + f H) + _ ≤ _
    omega
theorem tz_sm_nn {f : Nat → Int} : ∀ {n : Nat}, (∀ t, t < n → 0 ≤ f t) → 0 ≤ tu_sm f n
  | 0, _ => Int.le_refl _
  | n + 1, e => by
    have := tz_sm_nn (f := f) (n := n) (fun t ht => e t (by omega))
    have := e n (Nat.lt_succ_self n)
    show 0 ≤ tu_sm f n + f n
    omega
theorem tz_ad_k {A B : tz_Q} (ha : 0 ≤ A.2.2.1 ∧ A.2.2.1 ≤ A.2.1) (hb : 0 ≤ B.2.2.1 ∧ B.2.2.1 ≤ B.2.1) : 0 ≤ (tz_ad A B).2.2.1 ∧ (tz_ad A B).2.2.1 ≤ (tz_ad A B).2.1 := by
  rcases Int.lt_trichotomy B.1 A.1 with h | h | h
  · rw [tz_lt h]
    show 0 ≤ B.2.2.1 ∧ B.2.2.1 ≤ A.2.1 + B.2.1
    omega
  · rw [tz_eq h]
    show 0 ≤ A.2.2.1 + B.2.2.1 ∧ A.2.2.1 + B.2.2.1 ≤ A.2.1 + B.2.1
    omega
  · rw [tz_gt h]
    show 0 ≤ A.2.2.1 ∧ A.2.2.1 ≤ A.2.1 + B.2.1
    omega
theorem tz_or_kn {O : Nat → tz_Q} : ∀ {i : Nat}, (∀ q, q ≤ i → 0 ≤ (O q).2.2.1 ∧ (O q).2.2.1 ≤ (O q).2.1) → 0 ≤ (tz_or O i).2.2.1 ∧ (tz_or O i).2.2.1 ≤ (tz_or O i).2.1
  | 0, h => h 0 (Nat.le_refl _)
  | i + 1, h => tz_ad_k (tz_or_kn (O := O) (i := i) (fun q hq => h q (by omega))) (h (i + 1) (Nat.le_refl _))
