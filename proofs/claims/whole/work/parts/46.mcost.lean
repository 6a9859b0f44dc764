/-! costs of the model: a thousand million where nothing can be laid -/
def tu_nv (x : Int) : Int := if x < 1000000 then x else 1000000000
theorem tu_nv_lo {x : Int} (h : x < 1000000) : tu_nv x = x := if_pos h
theorem tu_nv_hi {x : Int} (h : 1000000 ≤ x) : tu_nv x = 1000000000 := if_neg (by omega)
theorem tu_nv_min (x y : Int) (hx : x ≤ 1000000000) (hy : y ≤ 1000000000) : tu_nv (min x y) = min (tu_nv x) (tu_nv y) := by
  unfold tu_nv
  split <;> split <;> split <;> omega
theorem tu_nv_cap (x : Int) : tu_nv (min x 1000000) = tu_nv x := by
  unfold tu_nv
  split <;> split <;> omega
theorem tu_mn_le {i : Int} {f : Nat → Int} : ∀ n, tu_mn i f n ≤ i
  | 0 => Int.le_refl _
  | n + 1 => by
    have := tu_mn_le (i := i) (f := f) n
    unfold tu_mn; omega
theorem tu_nv_mn {i : Int} {f : Nat → Int} (hi : i ≤ 1000000000) : ∀ n, (∀ h, 1 ≤ h → h ≤ n → f h ≤ 1000000000) → tu_nv (tu_mn i f n) = tu_mn (tu_nv i) (fun h => tu_nv (f h)) n
  | 0, _ => rfl
  | n + 1, h => by
    have := tu_mn_le (i := i) (f := f) n
    show tu_nv (min (tu_mn i f n) (f (n + 1))) = min (tu_mn (tu_nv i) (fun h => tu_nv (f h)) n) (tu_nv (f (n + 1)))
    rw [tu_nv_min _ _ (by omega) (h (n + 1) (by omega) (Nat.le_refl _)), tu_nv_mn hi n (fun q h1 h2 => h q h1 (by omega))]
/-- a finite cost is small -/
theorem tu_fin0 {L a k r c : Nat → Int} {n m : Nat} (hK : tu_LK L a k r n m) (hT : tu_Tx L a k r n m c) : ∀ e b, b + e = m → c (n * 25 + b) ≤ 9 * (e : Int)
  | 0, b, h => by rw [show b = m by omega, hT.1.1]; omega
  | e + 1, b, h => by
    have ih := tu_fin0 hK hT e (b + 1) (by omega)
    have g := (hT.1.2 b (Nat.zero_le _) (by omega)).1
    have hl := hK.2.2.2.2.2.1
    rw [g]
    unfold tu_cf
    rw [show n * 25 + b + 1 = n * 25 + (b + 1) by omega]
    split <;> omega
theorem tu_fin1 {L a k r c : Nat → Int} {n m s : Nat} (hK : tu_LK L a k r n m) (hT : tu_Tx L a k r n m c) (hs : s < n) {D : Int} (hn : ∀ b, b ≤ m → c ((s + 1) * 25 + b) < 1000000 → c ((s + 1) * 25 + b) ≤ D + 9 * ((m : Int) - (b : Int))) (hD : 0 ≤ D ∧ D ≤ 400) : ∀ e b, b + e = m → c (s * 25 + b) < 1000000 → c (s * 25 + b) ≤ D + 20 + 9 * (e : Int)
  | 0, b, h, hc => by
    rw [show b = m by omega, (hT.2 s (Nat.zero_le _) hs).1] at hc; omega
  | e + 1, b, h, hc => by
    have ih := tu_fin1 hK hT hs hn hD e (b + 1) (by omega)
    have g := ((hT.2 s (Nat.zero_le _) hs).2 b (Nat.zero_le _) (by omega)).1
    have hl := hK.2.2.2.2.2.1
    have hl1 := hK.2.2.2.2.1
    have hl3 := hK.2.2.2.2.2.2.1
    have hmh := tu_mh_le hK (show b < m by omega)
    rcases tu_mn_in (i := tu_cf L k c s b) (f := tu_ch L a k c s b) (tu_mh L r b) with q | ⟨z, h1, h2⟩
    · rw [q] at g
      have g2 : c (s * 25 + b) = tu_cf L k c s b := by omega
      unfold tu_cf at g2
      rw [show s * 25 + b + 1 = s * 25 + (b + 1) by omega] at g2
      have : c (s * 25 + (b + 1)) < 1000000 := by split at g2 <;> omega
      have := ih this
      split at g2 <;> omega
    · rw [h2] at g
      have g2 : c (s * 25 + b) = tu_ch L a k c s b z := by omega
      unfold tu_ch at g2
      rw [show (s + 1) * 25 + b + z = (s + 1) * 25 + (b + z) by omega] at g2
      have hp : 0 ≤ L 1 * ((z : Int) - 1) ∧ L 1 * ((z : Int) - 1) ≤ 9 * ((z : Int) - 1) := ⟨Int.mul_nonneg hl1.1 (by omega), Int.mul_le_mul_of_nonneg_right hl1.2 (by omega)⟩
      generalize L 1 * ((z : Int) - 1) = P at g2 hp
      have hx : c ((s + 1) * 25 + (b + z)) < 1000000 := by split at g2 <;> omega
      have := hn (b + z) (by omega) hx
      split at g2 <;> omega
theorem tu_fin {L a k r c : Nat → Int} {n m : Nat} (hK : tu_LK L a k r n m) (hT : tu_Tx L a k r n m c) : ∀ d s, s + d = n → ∀ b, b ≤ m → c (s * 25 + b) < 1000000 → c (s * 25 + b) ≤ 20 * (d : Int) + 9 * ((m : Int) - (b : Int))
  | 0, s, h, b, hb, _ => by
    have := tu_fin0 hK hT (m - b) b (by omega)
    rw [show s = n by omega]; omega
  | d + 1, s, h, b, hb, hc => by
    have hn := hK.2.1
    have := tu_fin1 hK hT (show s < n by omega) (D := 20 * (d : Int)) (fun q hq hx => tu_fin hK hT d (s + 1) (by omega) q hq hx) (by omega) (m - b) b (by omega) hc
    omega
theorem tu_small {L a k r c : Nat → Int} {n m s b : Nat} (hK : tu_LK L a k r n m) (hT : tu_Tx L a k r n m c) (hs : s ≤ n) (hb : b ≤ m) (hc : c (s * 25 + b) < 1000000) : 0 ≤ c (s * 25 + b) ∧ c (s * 25 + b) ≤ 600 := by
  have h1 := tu_fin hK hT (n - s) s (by omega) b hb hc
  have h2 := hT.bd hK.2.2.1.2 hs hb
  have := hK.2.1; have := hK.2.2.1
  omega
/-- the steps of the model cost as much -/
theorem tu_nv_cf {L a k r c : Nat → Int} {n m s b : Nat} (hK : tu_LK L a k r n m) (hT : tu_Tx L a k r n m c) (hs : s ≤ n) (hb : b < m) {z : Int} (hz : z = tu_nv (c (s * 25 + (b + 1)))) : (if z = 1000000000 then 1000000000 else z + (if k b = 0 then 0 else L 2)) = tu_nv (tu_cf L k c s b) := by
  have hl := hK.2.2.2.2.2.1
  subst hz
  unfold tu_cf
  rw [show s * 25 + b + 1 = s * 25 + (b + 1) by omega]
  by_cases q : c (s * 25 + (b + 1)) < 1000000
  · have := tu_small hK hT hs (show b + 1 ≤ m from hb) q
    rw [tu_nv_lo q, if_neg (by omega), tu_nv_lo (by split <;> omega)]
  · rw [tu_nv_hi (by omega), if_pos rfl, tu_nv_hi (by split <;> omega)]
theorem tu_nv_ch {L a k r c : Nat → Int} {n m s b q : Nat} (hK : tu_LK L a k r n m) (hT : tu_Tx L a k r n m c) (hs : s < n) (h1 : 1 ≤ q) (h8 : q ≤ 8) (hb : b + q ≤ m) {z : Int} (hz : z = tu_nv (c ((s + 1) * 25 + (b + q)))) : (if z = 1000000000 then 1000000000 else z + L 1 * ((q : Int) - 1) + (if ¬ (a s = 1 ↔ k b = 2) then L 3 else 0)) = tu_nv (tu_ch L a k c s b q) := by
  have hl1 := hK.2.2.2.2.1
  have hl3 := hK.2.2.2.2.2.2.1
  have hp : 0 ≤ L 1 * ((q : Int) - 1) ∧ L 1 * ((q : Int) - 1) ≤ 9 * ((q : Int) - 1) := ⟨Int.mul_nonneg hl1.1 (by omega), Int.mul_le_mul_of_nonneg_right hl1.2 (by omega)⟩
  subst hz
  unfold tu_ch
  rw [show (s + 1) * 25 + b + q = (s + 1) * 25 + (b + q) by omega]
  generalize L 1 * ((q : Int) - 1) = P at hp ⊢
  by_cases w : c ((s + 1) * 25 + (b + q)) < 1000000
  · have := tu_small hK hT (show s + 1 ≤ n from hs) hb w
    rw [tu_nv_lo w, if_neg (by omega), tu_nv_lo (by split <;> omega)]
  · rw [tu_nv_hi (by omega), if_pos rfl, tu_nv_hi (by split <;> omega)]
/-- how far a syllable can be held -/
theorem tu_RO.run {k r : Nat → Int} {m : Nat} (h : tu_RO k r m) : ∀ q b : Nat, b ≤ m → ((q : Int) ≤ r b ↔ b + q ≤ m ∧ ∀ i, i < q → k (b + i) ≠ 0)
  | 0, b, hb => by
    have := (h.le (m - b) b (by omega)).1
    exact ⟨fun _ => ⟨by omega, fun i hi => absurd hi (Nat.not_lt_zero _)⟩, fun _ => by omega⟩
  | q + 1, b, hb => by
    rcases Nat.eq_or_lt_of_le hb with e | e
    · subst e
      rw [h.1]
      exact ⟨fun z => by omega, fun z => by omega⟩
    · have ih := tu_RO.run h q (b + 1) e
      rw [h.2 b e]
      by_cases z : k b = 0
      · rw [if_pos z]
        exact ⟨fun w => by omega, fun w => absurd z (w.2 0 (by omega))⟩
      · rw [if_neg z]
        refine ⟨fun w => ?_, fun w => ?_⟩
        · have g := ih.mp (by omega)
          refine ⟨by omega, fun i hi => ?_⟩
          cases i with
          | zero => exact z
          | succ i => rw [show b + (i + 1) = b + 1 + i by omega]; exact g.2 i (by omega)
        · have := ih.mpr ⟨by omega, fun i hi => by rw [show b + 1 + i = b + (i + 1) by omega]; exact w.2 (i + 1) (by omega)⟩
          omega
theorem tu_mh_step {L a k r : Nat → Int} {n m b q : Nat} (hK : tu_LK L a k r n m) (hb : b < m) (hq : q ≤ tu_mh L r b) : q + 1 ≤ tu_mh L r b ↔ (((q + 1 : Nat) : Int) ≤ L 0 ∧ b + (q + 1) ≤ m ∧ k (b + q) ≠ 0) := by
  have hO := hK.2.2.2.2.2.2.2.2.2
  have e := (tu_mh_le hK hb).2.2
  have r1 := hO.run (q + 1) b (by omega)
  have r0 := hO.run q b (by omega)
  refine ⟨fun w => ?_, fun w => ?_⟩
  · have g := r1.mp (by omega)
    exact ⟨by omega, g.1, g.2 q (by omega)⟩
  · have g0 := r0.mp (by omega)
    have g := r1.mpr ⟨w.2.1, fun i hi => by
      by_cases z : i = q
      · subst z; exact w.2.2
      · exact g0.2 i (by omega)⟩
    omega
