/-! what the methods answer, in words of their own -/
def tu_ti (f : Nat → Int) (z : Int) : Nat → Int
  | 0 => 0
  | k + 1 => tu_ti f z k + (if f k = z then 1 else 0)
def tu_sm (f : Nat → Int) : Nat → Int
  | 0 => 0
  | k + 1 => tu_sm f k + f k
/-- the row without a rest that ends behind the k-th beat, and the longest one till there -/
def tu_rn (f : Nat → Int) : Nat → Int
  | 0 => 0
  | k + 1 => if f k = 0 then 0 else tu_rn f k + 1
def tu_lg (f : Nat → Int) : Nat → Int
  | 0 => 0
  | k + 1 => max (tu_lg f k) (tu_rn f (k + 1))
/-- a number taken out of a row that begins at o: how many are kept of the first k, and the row then -/
def tu_kc (f : Nat → Int) (o : Nat) (z : Int) : Nat → Nat
  | 0 => 0
  | k + 1 => tu_kc f o z k + (if f (o + k) = z then 0 else 1)
def tu_wr (f : Nat → Int) (o : Nat) (z : Int) : Nat → Nat → Int
  | 0 => f
  | k + 1 => if f (o + k) = z then tu_wr f o z k else tu_u (tu_wr f o z k) (o + tu_kc f o z k) (if z < f (o + k) then f (o + k) - 1 else f (o + k))
theorem tu_kc_le (f : Nat → Int) (o : Nat) (z : Int) : ∀ k, tu_kc f o z k ≤ k
  | 0 => Nat.le_refl _
  | k + 1 => by
    have := tu_kc_le f o z k
    unfold tu_kc; split <;> omega
theorem tu_wr_old (f : Nat → Int) (o : Nat) (z : Int) : ∀ k j, o + tu_kc f o z k ≤ j → tu_wr f o z k j = f j
  | 0, j, _ => rfl
  | k + 1, j, h => by
    unfold tu_kc at h; unfold tu_wr
    split
    · next e => rw [if_pos e] at h; exact tu_wr_old f o z k j (by omega)
    · next e => rw [if_neg e] at h; rw [tu_u_n _ _ (by omega)]; exact tu_wr_old f o z k j (by omega)
theorem tu_ti_01 (f : Nat → Int) (z : Int) : ∀ k : Nat, 0 ≤ tu_ti f z k ∧ tu_ti f z k ≤ k
  | 0 => ⟨Int.le_refl _, Int.le_refl _⟩
  | k + 1 => by
    have := tu_ti_01 f z k
    unfold tu_ti; split <;> omega
theorem tu_rn_le (f : Nat → Int) : ∀ k : Nat, 0 ≤ tu_rn f k ∧ tu_rn f k ≤ k
  | 0 => ⟨Int.le_refl _, Int.le_refl _⟩
  | k + 1 => by
    have := tu_rn_le f k
    unfold tu_rn; split <;> omega
theorem tu_lg_le (f : Nat → Int) : ∀ k : Nat, 0 ≤ tu_lg f k ∧ tu_lg f k ≤ k
  | 0 => ⟨Int.le_refl _, Int.le_refl _⟩
  | k + 1 => by
    have := tu_lg_le f k
    have := tu_rn_le f (k + 1)
    unfold tu_lg; omega
/-- a book: rows 0 (its object), 1 settings, 2 syllable counts, 3 stresses, 4 beat counts, 5 kinds, 6 ballad, 7 tune -/
def tu_BO (B : Nat → Nat → Int) : Prop :=
  ((0 ≤ B 0 1 ∧ B 0 1 ≤ 16) ∧ (0 ≤ B 0 4 ∧ B 0 4 ≤ 8) ∧ (0 ≤ B 0 7 ∧ B 0 7 ≤ 40) ∧ (0 ≤ B 0 9 ∧ B 0 9 ≤ 8)) ∧
  (∀ l : Nat, (l : Int) < B 0 1 → 1 ≤ B 2 l ∧ B 2 l ≤ 16) ∧ (∀ l s : Nat, (l : Int) < B 0 1 → (s : Int) < B 2 l → B 3 (l * 16 + s) = 0 ∨ B 3 (l * 16 + s) = 1) ∧
  (∀ p : Nat, (p : Int) < B 0 4 → 1 ≤ B 4 p ∧ B 4 p ≤ 24) ∧ (∀ p b : Nat, (p : Int) < B 0 4 → (b : Int) < B 4 p → 0 ≤ B 5 (p * 24 + b) ∧ B 5 (p * 24 + b) ≤ 2) ∧
  (∀ k : Nat, (k : Int) < B 0 7 → 0 ≤ B 6 k ∧ B 6 k < B 0 1) ∧ (∀ k : Nat, (k : Int) < B 0 9 → 0 ≤ B 7 k ∧ B 7 k < B 0 4) ∧
  (1 ≤ B 1 0 ∧ B 1 0 ≤ 8) ∧ (0 ≤ B 1 1 ∧ B 1 1 ≤ 9) ∧ (0 ≤ B 1 2 ∧ B 1 2 ≤ 9) ∧ (0 ≤ B 1 3 ∧ B 1 3 ≤ 20)
/-- the current book of the memory -/
def tu_cb (M : tu_M) : Nat → Nat → Int := fun f => M (1 + f)
def tu_OK (M : tu_M) : Prop := tu_BO (tu_cb M)
theorem tu_OK.cnt {M : tu_M} (h : tu_OK M) : (0 ≤ M 1 1 ∧ M 1 1 ≤ 16) ∧ (0 ≤ M 1 4 ∧ M 1 4 ≤ 8) ∧ (0 ≤ M 1 7 ∧ M 1 7 ≤ 40) ∧ (0 ≤ M 1 9 ∧ M 1 9 ≤ 8) := h.1
theorem tu_OK.syl {M : tu_M} (h : tu_OK M) : ∀ l : Nat, (l : Int) < M 1 1 → 1 ≤ M 3 l ∧ M 3 l ≤ 16 := h.2.1
theorem tu_OK.str {M : tu_M} (h : tu_OK M) : ∀ l s : Nat, (l : Int) < M 1 1 → (s : Int) < M 3 l → M 4 (l * 16 + s) = 0 ∨ M 4 (l * 16 + s) = 1 := h.2.2.1
theorem tu_OK.bts {M : tu_M} (h : tu_OK M) : ∀ p : Nat, (p : Int) < M 1 4 → 1 ≤ M 5 p ∧ M 5 p ≤ 24 := h.2.2.2.1
theorem tu_OK.knd {M : tu_M} (h : tu_OK M) : ∀ p b : Nat, (p : Int) < M 1 4 → (b : Int) < M 5 p → 0 ≤ M 6 (p * 24 + b) ∧ M 6 (p * 24 + b) ≤ 2 := h.2.2.2.2.1
theorem tu_OK.bal {M : tu_M} (h : tu_OK M) : ∀ k : Nat, (k : Int) < M 1 7 → 0 ≤ M 7 k ∧ M 7 k < M 1 1 := h.2.2.2.2.2.1
theorem tu_OK.tun {M : tu_M} (h : tu_OK M) : ∀ k : Nat, (k : Int) < M 1 9 → 0 ≤ M 8 k ∧ M 8 k < M 1 4 := h.2.2.2.2.2.2.1
theorem tu_OK.set {M : tu_M} (h : tu_OK M) : (1 ≤ M 2 0 ∧ M 2 0 ≤ 8) ∧ (0 ≤ M 2 1 ∧ M 2 1 ≤ 9) ∧ (0 ≤ M 2 2 ∧ M 2 2 ≤ 9) ∧ (0 ≤ M 2 3 ∧ M 2 3 ≤ 20) := h.2.2.2.2.2.2.2
