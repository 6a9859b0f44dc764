/-! laying a line on a phrase: L is the object's row (0 breath, 1 drawn, 2 lost, 3 hurt, 4 syllables, 5 beats), a stresses, k kinds, r rows without a rest, c costs, v ways -/
def tu_hu (a k : Nat → Int) (s b : Nat) : Prop := ¬ (a s = 1 ↔ k b = 2)
def tu_cf (L k c : Nat → Int) (s b : Nat) : Int := c (s * 25 + b + 1) + (if k b = 0 then 0 else L 2)
def tu_ch (L a k c : Nat → Int) (s b h : Nat) : Int := c ((s + 1) * 25 + b + h) + L 1 * ((h : Int) - 1) + (if ¬ (a s = 1 ↔ k b = 2) then L 3 else 0)
def tu_mh (L r : Nat → Int) (b : Nat) : Nat := (min (L 0) (r b)).toNat
def tu_mn (i : Int) (f : Nat → Int) : Nat → Int
  | 0 => i
  | h + 1 => min (tu_mn i f h) (f (h + 1))
def tu_sw (i : Int) (f : Nat → Int) : Nat → Int
  | 0 => i
  | h + 1 => tu_sw i f h + f (h + 1)
def tu_fs (p : Nat → Bool) : Nat → Nat
  | 0 => 0
  | k + 1 => if tu_fs p k ≠ 0 then tu_fs p k else if p (k + 1) = true then k + 1 else 0
def tu_ff (g : Nat → Nat) (b : Nat) : Nat → Nat
  | 0 => b
  | k + 1 => if g b ≠ 0 then b else tu_ff g (b + 1) k
theorem tu_fs_hit {p : Nat → Bool} {k : Nat} (h0 : tu_fs p k = 0) (hp : p (k + 1) = true) : ∀ {n : Nat}, k + 1 ≤ n → tu_fs p n = k + 1
  | 0, h => absurd h (by omega)
  | n + 1, h => by
    unfold tu_fs
    rcases Nat.lt_or_ge k n with q | q
    · have ih := tu_fs_hit h0 hp (n := n) q
      rw [ih, if_pos (by omega)]
    · have e : n = k := by omega
      subst e
      rw [if_neg (by omega), if_pos hp]
theorem tu_fs_miss {p : Nat → Bool} {k : Nat} (h0 : tu_fs p k = 0) (hp : ¬ p (k + 1) = true) : tu_fs p (k + 1) = 0 := by
  unfold tu_fs
  rw [if_neg (by omega), if_neg hp]
theorem tu_fs_le (p : Nat → Bool) : ∀ n, tu_fs p n ≤ n
  | 0 => Nat.le_refl _
  | n + 1 => by
    have := tu_fs_le p n
    unfold tu_fs
    split
    · omega
    · split <;> omega
theorem tu_ff_le (g : Nat → Nat) : ∀ (k b : Nat), b ≤ tu_ff g b k ∧ tu_ff g b k ≤ b + k
  | 0, b => ⟨Nat.le_refl _, by simp [tu_ff]⟩
  | k + 1, b => by
    have := tu_ff_le g k (b + 1)
    unfold tu_ff
    split <;> omega
/-- the best way: the fewest beats from here at the least cost (0: none), where a syllable begins, how many beats it has, where the next may begin -/
def tu_hx (L a k r c : Nat → Int) (s b : Nat) : Nat := tu_fs (fun h => decide (tu_ch L a k c s b h = c (s * 25 + b))) (tu_mh L r b)
def tu_wp (L a k r c : Nat → Int) (m : Nat) : Nat → Nat
  | 0 => 0
  | s + 1 => tu_ff (tu_hx L a k r c s) (tu_wp L a k r c m s) (m - tu_wp L a k r c m s) + (if tu_ff (tu_hx L a k r c s) (tu_wp L a k r c m s) (m - tu_wp L a k r c m s) < m then tu_hx L a k r c s (tu_ff (tu_hx L a k r c s) (tu_wp L a k r c m s) (m - tu_wp L a k r c m s)) else 0)
def tu_wb (L a k r c : Nat → Int) (m s : Nat) : Nat := tu_ff (tu_hx L a k r c s) (tu_wp L a k r c m s) (m - tu_wp L a k r c m s)
def tu_wl (L a k r c : Nat → Int) (m s : Nat) : Nat := if tu_wb L a k r c m s < m then tu_hx L a k r c s (tu_wb L a k r c m s) else 0
theorem tu_wp_s (L a k r c : Nat → Int) (m s : Nat) : tu_wp L a k r c m (s + 1) = tu_wb L a k r c m s + tu_wl L a k r c m s := rfl
/-- the rows without a rest -/
def tu_RO (k r : Nat → Int) (m : Nat) : Prop := r m = 0 ∧ ∀ b, b < m → r b = if k b = 0 then 0 else r (b + 1) + 1
theorem tu_RO.le {k r : Nat → Int} {m : Nat} (h : tu_RO k r m) : ∀ d b : Nat, b + d = m → 0 ≤ r b ∧ r b ≤ d
  | 0, b, e => by rw [show b = m by omega, h.1]; omega
  | d + 1, b, e => by
    have ih := h.le d (b + 1) (by omega)
    rw [h.2 b (by omega)]
    split <;> omega
/-- what is asked of the object -/
def tu_LK (L a k r : Nat → Int) (n m : Nat) : Prop := (L 4 = (n : Int) ∧ L 5 = (m : Int)) ∧ (1 ≤ n ∧ n ≤ 16) ∧ (1 ≤ m ∧ m ≤ 24) ∧ (1 ≤ L 0 ∧ L 0 ≤ 8) ∧ (0 ≤ L 1 ∧ L 1 ≤ 9) ∧ (0 ≤ L 2 ∧ L 2 ≤ 9) ∧ (0 ≤ L 3 ∧ L 3 ≤ 20) ∧ (∀ b, b < m → 0 ≤ k b ∧ k b ≤ 2) ∧ (∀ s, s < n → a s = 0 ∨ a s = 1) ∧ tu_RO k r m
theorem tu_mh_le {L a k r : Nat → Int} {n m b : Nat} (h : tu_LK L a k r n m) (hb : b < m) : b + tu_mh L r b ≤ m ∧ tu_mh L r b ≤ 8 ∧ ((tu_mh L r b : Nat) : Int) = min (L 0) (r b) := by
  have h1 := h.2.2.2.2.2.2.2.2.2.le (m - b) b (by omega)
  have h2 := h.2.2.2.1
  unfold tu_mh
  omega
/-- the costs: the rows behind the last syllable, of a syllable, from a beat on -/
def tu_R0 (L k : Nat → Int) (n m j : Nat) (c : Nat → Int) : Prop := c (n * 25 + m) = 0 ∧ ∀ b, j ≤ b → b < m → c (n * 25 + b) = tu_cf L k c n b ∧ 0 ≤ c (n * 25 + b) ∧ c (n * 25 + b) ≤ 9 * ((m : Int) - (b : Int))
def tu_RB (L a k r : Nat → Int) (m s j : Nat) (c : Nat → Int) : Prop := c (s * 25 + m) = 1000000 ∧ ∀ b, j ≤ b → b < m → c (s * 25 + b) = min (tu_mn (tu_cf L k c s b) (tu_ch L a k c s b) (tu_mh L r b)) 1000000 ∧ 0 ≤ c (s * 25 + b)
def tu_RS (L a k r : Nat → Int) (n m s : Nat) (c : Nat → Int) : Prop := ∀ t, s ≤ t → t < n → tu_RB L a k r m t 0 c
theorem tu_cf_q {L k c c' : Nat → Int} {s b : Nat} (h : c' (s * 25 + b + 1) = c (s * 25 + b + 1)) : tu_cf L k c' s b = tu_cf L k c s b := by
  unfold tu_cf; rw [h]
theorem tu_mn_q {i : Int} {f g : Nat → Int} : ∀ {n : Nat}, (∀ h, 1 ≤ h → h ≤ n → f h = g h) → tu_mn i f n = tu_mn i g n
  | 0, _ => rfl
  | n + 1, h => by
    unfold tu_mn
    rw [tu_mn_q (n := n) (fun q h1 h2 => h q h1 (by omega)), h (n + 1) (by omega) (Nat.le_refl _)]
theorem tu_sw_q {i : Int} {f g : Nat → Int} : ∀ {n : Nat}, (∀ h, 1 ≤ h → h ≤ n → f h = g h) → tu_sw i f n = tu_sw i g n
  | 0, _ => rfl
  | n + 1, h => by
    unfold tu_sw
    rw [tu_sw_q (n := n) (fun q h1 h2 => h q h1 (by omega)), h (n + 1) (by omega) (Nat.le_refl _)]
theorem tu_ch_q {L a k c c' : Nat → Int} {s b h : Nat} (e : c' ((s + 1) * 25 + b + h) = c ((s + 1) * 25 + b + h)) : tu_ch L a k c' s b h = tu_ch L a k c s b h := by
  unfold tu_ch; rw [e]
theorem tu_R0.q {L k c c' : Nat → Int} {n m j : Nat} (h : tu_R0 L k n m j c) (e : ∀ i, n * 25 + j ≤ i → c' i = c i) (hj : j ≤ m) : tu_R0 L k n m j c' := by
  refine ⟨by rw [e _ (by omega)]; exact h.1, fun b h1 h2 => ?_⟩
  rw [e _ (by omega), tu_cf_q (e _ (by omega))]
  exact h.2 b h1 h2
theorem tu_RB.q {L a k r c c' : Nat → Int} {m s j : Nat} (h : tu_RB L a k r m s j c) (hm : ∀ b, b < m → b + tu_mh L r b ≤ m) (e : ∀ i, s * 25 + j ≤ i → c' i = c i) (hj : j ≤ m) : tu_RB L a k r m s j c' := by
  refine ⟨by rw [e _ (by omega)]; exact h.1, fun b h1 h2 => ?_⟩
  have := hm b h2
  rw [e _ (by omega), tu_cf_q (e _ (by omega)), tu_mn_q (g := tu_ch L a k c s b) (fun q _ _ => tu_ch_q (e _ (by omega)))]
  exact h.2 b h1 h2
theorem tu_RS.q {L a k r c c' : Nat → Int} {n m s : Nat} (h : tu_RS L a k r n m s c) (hm : ∀ b, b < m → b + tu_mh L r b ≤ m) (e : ∀ i, s * 25 ≤ i → c' i = c i) : tu_RS L a k r n m s c' := fun t h1 h2 => (h t h1 h2).q hm (fun i hi => e i (by omega)) (Nat.zero_le _)
/-- the whole table -/
def tu_Tx (L a k r : Nat → Int) (n m : Nat) (c : Nat → Int) : Prop := tu_R0 L k n m 0 c ∧ tu_RS L a k r n m 0 c
/-- what stands in a table is neither too small nor too great -/
theorem tu_RB.bd {L a k r c : Nat → Int} {m s j : Nat} (h : tu_RB L a k r m s j c) {b : Nat} (h1 : j ≤ b) (h2 : b ≤ m) : 0 ≤ c (s * 25 + b) ∧ c (s * 25 + b) ≤ 1000000 := by
  rcases Nat.lt_or_ge b m with q | q
  · have := h.2 b h1 q
    omega
  · rw [show b = m by omega, h.1]; omega
theorem tu_R0.bd {L k c : Nat → Int} {n m j : Nat} (h : tu_R0 L k n m j c) (hm : m ≤ 24) {b : Nat} (h1 : j ≤ b) (h2 : b ≤ m) : 0 ≤ c (n * 25 + b) ∧ c (n * 25 + b) ≤ 216 := by
  rcases Nat.lt_or_ge b m with q | q
  · have := h.2 b h1 q
    omega
  · rw [show b = m by omega, h.1]; omega
/-- any place behind a syllable -/
theorem tu_nx_bd {L a k r c : Nat → Int} {n m s : Nat} (h0 : tu_R0 L k n m 0 c) (hS : tu_RS L a k r n m (s + 1) c) (hm : m ≤ 24) (hs : s < n) {b : Nat} (hb : b ≤ m) : 0 ≤ c ((s + 1) * 25 + b) ∧ c ((s + 1) * 25 + b) ≤ 1000000 := by
  rcases Nat.lt_or_ge (s + 1) n with q | q
  · exact (hS (s + 1) (Nat.le_refl _) q).bd (Nat.zero_le _) hb
  · have e : s + 1 = n := by omega
    rw [e]
    have := h0.bd hm (Nat.zero_le _) hb
    omega
theorem tu_ch_bd {L a k r c : Nat → Int} {n m s b h : Nat} (hK : tu_LK L a k r n m) (h0 : tu_R0 L k n m 0 c) (hS : tu_RS L a k r n m (s + 1) c) (hs : s < n) (hb : b < m) (h1 : 1 ≤ h) (h2 : h ≤ tu_mh L r b) : 0 ≤ tu_ch L a k c s b h ∧ tu_ch L a k c s b h ≤ 1000083 := by
  have e := tu_mh_le hK hb
  have g := tu_nx_bd h0 hS hK.2.2.1.2 hs (b := b + h) (by omega)
  obtain ⟨-, -, -, -, hL1, -, hL3, -⟩ := hK
  have g2 : 0 ≤ L 1 * ((h : Int) - 1) ∧ L 1 * ((h : Int) - 1) ≤ 63 := by
    rcases (show h = 1 ∨ h = 2 ∨ h = 3 ∨ h = 4 ∨ h = 5 ∨ h = 6 ∨ h = 7 ∨ h = 8 by omega) with rfl | rfl | rfl | rfl | rfl | rfl | rfl | rfl <;> omega
  unfold tu_ch
  rw [show (s + 1) * 25 + b + h = (s + 1) * 25 + (b + h) by omega]
  split <;> omega
theorem tu_mn_bd {i : Int} {f : Nat → Int} {B : Int} : ∀ {n : Nat}, 0 ≤ i → i ≤ B → (∀ h, 1 ≤ h → h ≤ n → 0 ≤ f h) → 0 ≤ tu_mn i f n ∧ tu_mn i f n ≤ B
  | 0, a, b, _ => ⟨a, b⟩
  | n + 1, a, b, h => by
    have ih := tu_mn_bd (n := n) a b (fun q h1 h2 => h q h1 (by omega))
    have := h (n + 1) (by omega) (Nat.le_refl _)
    unfold tu_mn
    omega
