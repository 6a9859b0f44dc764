/-! the least cost, as a number of its own: of the d last syllables on the e last beats -/
def tu_t0 (L k : Nat → Int) (m : Nat) : Nat → Int
  | 0 => 0
  | e + 1 => tu_t0 L k m e + (if k (m - (e + 1)) = 0 then 0 else L 2)
def tu_t1 (L a k : Nat → Int) (q : Nat → Nat) (m s : Nat) (f : Nat → Int) : Nat → Int
  | 0 => 1000000
  | e + 1 => min (tu_mn (tu_t1 L a k q m s f e + (if k (m - (e + 1)) = 0 then 0 else L 2)) (fun h => f (e + 1 - h) + L 1 * ((h : Int) - 1) + (if ¬ (a s = 1 ↔ k (m - (e + 1)) = 2) then L 3 else 0)) (q (m - (e + 1)))) 1000000
def tu_t (L a k : Nat → Int) (q : Nat → Nat) (n m : Nat) : Nat → Nat → Int
  | 0 => tu_t0 L k m
  | d + 1 => tu_t1 L a k q m (n - (d + 1)) (tu_t L a k q n m d)
theorem tu_Tx.t0 {L k c : Nat → Int} {n m : Nat} (h : tu_R0 L k n m 0 c) : ∀ e, e ≤ m → c (n * 25 + (m - e)) = tu_t0 L k m e
  | 0, _ => h.1
  | e + 1, he => by
    have ih := tu_Tx.t0 h e (by omega)
    rw [(h.2 (m - (e + 1)) (Nat.zero_le _) (by omega)).1]
    unfold tu_cf tu_t0
    rw [show n * 25 + (m - (e + 1)) + 1 = n * 25 + (m - e) by omega, ih]
theorem tu_Tx.t1 {L a k r c : Nat → Int} {m s : Nat} {f : Nat → Int} (h : tu_RB L a k r m s 0 c) (hM : ∀ b, b < m → b + tu_mh L r b ≤ m) (hf : ∀ e, e ≤ m → c ((s + 1) * 25 + (m - e)) = f e) : ∀ e, e ≤ m → c (s * 25 + (m - e)) = tu_t1 L a k (tu_mh L r) m s f e
  | 0, _ => h.1
  | e + 1, he => by
    have ih := tu_Tx.t1 h hM hf e (by omega)
    have hm := hM (m - (e + 1)) (by omega)
    rw [(h.2 (m - (e + 1)) (Nat.zero_le _) (by omega)).1]
    unfold tu_t1
    rw [show tu_cf L k c s (m - (e + 1)) = tu_t1 L a k (tu_mh L r) m s f e + (if k (m - (e + 1)) = 0 then 0 else L 2) from by
      unfold tu_cf
      rw [show s * 25 + (m - (e + 1)) + 1 = s * 25 + (m - e) by omega, ih]]
    rw [tu_mn_q (f := tu_ch L a k c s (m - (e + 1))) (g := fun h => f (e + 1 - h) + L 1 * ((h : Int) - 1) + (if ¬ (a s = 1 ↔ k (m - (e + 1)) = 2) then L 3 else 0)) (fun q h1 h2 => by
      unfold tu_ch
      rw [show (s + 1) * 25 + (m - (e + 1)) + q = (s + 1) * 25 + (m - (e + 1 - q)) by omega, hf (e + 1 - q) (by omega)])]
theorem tu_Tx.t {L a k r c : Nat → Int} {n m : Nat} (hK : tu_LK L a k r n m) (h : tu_Tx L a k r n m c) : ∀ d, d ≤ n → ∀ e, e ≤ m → c ((n - d) * 25 + (m - e)) = tu_t L a k (tu_mh L r) n m d e
  | 0, _, e, he => tu_Tx.t0 h.1 e he
  | d + 1, hd, e, he => by
    have ih := tu_Tx.t hK h d (by omega)
    refine tu_Tx.t1 (f := tu_t L a k (tu_mh L r) n m d) (h.2 (n - (d + 1)) (Nat.zero_le _) (by omega)) (fun b hb => (tu_mh_le hK hb).1) (fun e he => ?_) e he
    rw [show n - (d + 1) + 1 = n - d by omega]
    exact ih e he
theorem tu_mn_i {i j : Int} {f g : Nat → Int} {n : Nat} (h : i = j) (hf : ∀ q, 1 ≤ q → q ≤ n → f q = g q) : tu_mn i f n = tu_mn j g n := by
  subst h; exact tu_mn_q hf
/-- it is a matter of the settings, the stresses, the kinds alone -/
theorem tu_t0_q {L L' k k' : Nat → Int} {m : Nat} (h2 : L' 2 = L 2) (hk : ∀ b, b < m → k' b = k b) : ∀ e, e ≤ m → tu_t0 L' k' m e = tu_t0 L k m e
  | 0, _ => rfl
  | e + 1, he => by
    unfold tu_t0
    rw [tu_t0_q h2 hk e (by omega), hk _ (by omega), h2]
theorem tu_t_q {L L' a a' k k' : Nat → Int} {q q' : Nat → Nat} {n m : Nat} (h1 : L' 1 = L 1) (h2 : L' 2 = L 2) (h3 : L' 3 = L 3) (ha : ∀ s, s < n → a' s = a s) (hk : ∀ b, b < m → k' b = k b) (hq : ∀ b, b < m → q' b = q b) : ∀ d, d ≤ n → ∀ e, e ≤ m → tu_t L' a' k' q' n m d e = tu_t L a k q n m d e
  | 0, _, e, he => tu_t0_q h2 hk e he
  | d + 1, hd, e, he => by
    have ih := tu_t_q h1 h2 h3 ha hk hq d (by omega)
    show tu_t1 L' a' k' q' m (n - (d + 1)) (tu_t L' a' k' q' n m d) e = tu_t1 L a k q m (n - (d + 1)) (tu_t L a k q n m d) e
    induction e with
    | zero => rfl
    | succ e ie =>
      have ie := ie (by omega)
      unfold tu_t1
      rw [ie, hk _ (by omega), h2, hq _ (by omega), ha _ (by omega)]
      by_cases hm : ∀ q0, 1 ≤ q0 → q0 ≤ q (m - (e + 1)) → True
      · rw [tu_mn_q (f := fun h => tu_t L' a' k' q' n m d (e + 1 - h) + L' 1 * ((h : Int) - 1) + (if ¬ (a (n - (d + 1)) = 1 ↔ k (m - (e + 1)) = 2) then L' 3 else 0)) (g := fun h => tu_t L a k q n m d (e + 1 - h) + L 1 * ((h : Int) - 1) + (if ¬ (a (n - (d + 1)) = 1 ↔ k (m - (e + 1)) = 2) then L 3 else 0)) (fun h _ _ => by
          show tu_t L' a' k' q' n m d (e + 1 - h) + L' 1 * ((h : Int) - 1) + (if ¬ (a (n - (d + 1)) = 1 ↔ k (m - (e + 1)) = 2) then L' 3 else 0) = _
          rw [ih (e + 1 - h) (by omega), h1, h3])]
      · exact absurd (fun _ _ _ => trivial) hm
/-- how many beats without a rest stand side by side from a beat on, and at most how many a syllable gets -/
def tu_rd (k : Nat → Int) (m : Nat) : Nat → Int
  | 0 => 0
  | d + 1 => if k (m - (d + 1)) = 0 then 0 else tu_rd k m d + 1
theorem tu_RO.rd {k r : Nat → Int} {m : Nat} (h : tu_RO k r m) : ∀ d, d ≤ m → r (m - d) = tu_rd k m d
  | 0, _ => h.1
  | d + 1, hd => by
    have ih := h.rd d (by omega)
    rw [h.2 (m - (d + 1)) (by omega), show m - (d + 1) + 1 = m - d by omega, ih]
    rfl
theorem tu_rd_q {k k' : Nat → Int} {m : Nat} (hk : ∀ b, b < m → k' b = k b) : ∀ d, d ≤ m → tu_rd k' m d = tu_rd k m d
  | 0, _ => rfl
  | d + 1, hd => by
    unfold tu_rd
    rw [hk _ (by omega), tu_rd_q hk d (by omega)]
def tu_qm (br : Int) (k : Nat → Int) (m b : Nat) : Nat := (min br (tu_rd k m (m - b))).toNat
theorem tu_mh_q {L a k r : Nat → Int} {n m b : Nat} (hK : tu_LK L a k r n m) (hb : b < m) : tu_mh L r b = tu_qm (L 0) k m b := by
  have h := hK.2.2.2.2.2.2.2.2.2.rd (m - b) (by omega)
  rw [show m - (m - b) = b by omega] at h
  unfold tu_mh tu_qm
  rw [h]
/-- the least cost of a line on a phrase of a book; 1000000: it cannot be laid -/
def tu_nl (B : Nat → Nat → Int) (l : Nat) : Nat := (B 2 l).toNat
def tu_np (B : Nat → Nat → Int) (p : Nat) : Nat := (B 4 p).toNat
def tu_al (B : Nat → Nat → Int) (l : Nat) : Nat → Int := fun s => B 3 (l * 16 + s)
def tu_kp (B : Nat → Nat → Int) (p : Nat) : Nat → Int := fun b => B 5 (p * 24 + b)
/-- with settings, stresses, kinds of one's own -/
def tu_cx (L a k : Nat → Int) (n m : Nat) : Int := tu_t L a k (tu_qm (L 0) k m) n m n m
def tu_co (B : Nat → Nat → Int) (l p : Nat) : Int := tu_cx (B 1) (tu_al B l) (tu_kp B p) (tu_nl B l) (tu_np B p)
theorem tu_Tx.cx {L a k r c : Nat → Int} {n m : Nat} (hK : tu_LK L a k r n m) (h : tu_Tx L a k r n m c) : c 0 = tu_cx L a k n m := by
  have e := h.t hK n (Nat.le_refl _) m (Nat.le_refl _)
  rw [show (n - n) * 25 + (m - m) = 0 by omega] at e
  rw [e]
  unfold tu_cx
  exact tu_t_q rfl rfl rfl (fun _ _ => rfl) (fun _ _ => rfl) (fun b hb => tu_mh_q hK hb) n (Nat.le_refl _) m (Nat.le_refl _)
theorem tu_cx_q {L L' a a' k k' : Nat → Int} {n m : Nat} (h0 : L' 0 = L 0) (h1 : L' 1 = L 1) (h2 : L' 2 = L 2) (h3 : L' 3 = L 3) (ha : ∀ s, s < n → a' s = a s) (hk : ∀ b, b < m → k' b = k b) : tu_cx L' a' k' n m = tu_cx L a k n m := by
  unfold tu_cx
  refine tu_t_q h1 h2 h3 ha hk (fun b hb => ?_) n (Nat.le_refl _) m (Nat.le_refl _)
  unfold tu_qm
  rw [h0, tu_rd_q hk _ (by omega)]
theorem tu_Tx.rg {L a k r c : Nat → Int} {n m : Nat} (hK : tu_LK L a k r n m) (h : tu_Tx L a k r n m c) : 0 ≤ c 0 ∧ c 0 ≤ 1000000 := by
  have g := h.bd hK.2.2.1.2 (s := 0) (b := 0) (Nat.zero_le _) (Nat.zero_le _)
  simpa using g
