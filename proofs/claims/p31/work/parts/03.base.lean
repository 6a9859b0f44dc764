/-! A SMALL MACHINE OVER ONE WORLD: cells by their places, all numbers as Int, one memory of numbers -/
abbrev tu_v : Type := Int ⊕ (Nat ⊕ Nat)
abbrev tu_i (z : Int) : tu_v := .inl z
abbrev tu_r (i : Nat) : tu_v := .inr (.inl i)
abbrev tu_l (u : Nat) : tu_v := .inr (.inr u)
def tu_J (z : Int) : Int32 := Int32.ofInt z
def tu_K (u : Nat) : Int64 := Int64.ofNat u
def tu_vl (ad : Nat → Nat) (v : tu_v) : Value := match v with
  | .inl z => .int (tu_J z)
  | .inr (.inl i) => .ref (ad i)
  | .inr (.inr u) => .long (tu_K u)
abbrev tu_M : Type := Nat → Nat → Int
def tu_row (M : tu_M) (i : Nat) (f : Nat → Int) : tu_M := fun a => bif Nat.beq a i then f else M a
def tu_u (f : Nat → Int) (k : Nat) (x : Int) : Nat → Int := fun j => bif Nat.beq j k then x else f j
theorem tu_bf {a b : Nat} (h : a ≠ b) : Nat.beq a b = false := by
  cases e : Nat.beq a b
  · rfl
  · exact absurd (Nat.eq_of_beq_eq_true e) h
theorem tu_row_s (M : tu_M) (i : Nat) (f : Nat → Int) : tu_row M i f i = f := by simp [tu_row]
theorem tu_row_n (M : tu_M) {i a : Nat} (f : Nat → Int) (h : a ≠ i) : tu_row M i f a = M a := by
  have e : Nat.beq a i = false := tu_bf h
  simp [tu_row, e]
theorem tu_u_s (f : Nat → Int) (k : Nat) (x : Int) : tu_u f k x k = x := by simp [tu_u]
theorem tu_u_n (f : Nat → Int) {k j : Nat} (x : Int) (h : j ≠ k) : tu_u f k x j = f j := by
  have e : Nat.beq j k = false := tu_bf h
  simp [tu_u, e]
theorem tu_u_if (f : Nat → Int) (k j : Nat) (x : Int) : tu_u f k x j = if j = k then x else f j := by
  by_cases h : j = k
  · subst h; simp [tu_u_s]
  · simp [tu_u_n f x h, h]
theorem tu_rr (M : tu_M) (i : Nat) (f g : Nat → Int) : tu_row (tu_row M i f) i g = tu_row M i g := by
  funext a
  by_cases h : a = i
  · subst h; simp [tu_row_s]
  · simp [tu_row_n _ _ h]
theorem tu_rc (M : tu_M) {i j : Nat} (f g : Nat → Int) (h : Nat.beq i j = false) : tu_row (tu_row M i f) j g = tu_row (tu_row M j g) i f := by
  have h : i ≠ j := fun e => by subst e; simp at h
  funext a
  by_cases h1 : a = i
  · subst h1; rw [tu_row_n _ _ h, tu_row_s, tu_row_s]
  · by_cases h2 : a = j
    · subst h2; rw [tu_row_s, tu_row_n _ _ h1, tu_row_s]
    · rw [tu_row_n _ _ h2, tu_row_n _ _ h1, tu_row_n _ _ h1, tu_row_n _ _ h2]
theorem tu_rx (M : tu_M) (i : Nat) : tu_row M i (M i) = M := by
  funext a
  by_cases h : a = i
  · subst h; rw [tu_row_s]
  · rw [tu_row_n _ _ h]
/-! numbers -/
abbrev tu_rg (z : Int) : Prop := -2147483648 ≤ z ∧ z ≤ 2147483647
theorem tu_J_i {z : Int} (h : tu_rg z) : (tu_J z).toInt = z := by
  have h1 := h.1; have h2 := h.2
  exact Int32.toInt_ofInt_of_le (by simpa using h1) (by have e : (2:Int)^31 = 2147483648 := by decide
                                                        omega)
theorem tu_J_t (x : Int32) : tu_J x.toInt = x := by unfold tu_J; exact Int32.ofInt_toInt x
theorem tu_J_add (a b : Int) : tu_J (a + b) = tu_J a + tu_J b := Int32.ofInt_add ..
theorem tu_J_sub (a b : Int) : tu_J (a - b) = tu_J a - tu_J b := Int32.ofInt_sub ..
theorem tu_J_mul (a b : Int) : tu_J (a * b) = tu_J a * tu_J b := Int32.ofInt_mul ..
theorem tu_J_lt {a b : Int} (ha : tu_rg a) (hb : tu_rg b) : tu_J a < tu_J b ↔ a < b := by rw [Int32.lt_iff_toInt_lt, tu_J_i ha, tu_J_i hb]
theorem tu_J_le {a b : Int} (ha : tu_rg a) (hb : tu_rg b) : tu_J a ≤ tu_J b ↔ a ≤ b := by rw [Int32.le_iff_toInt_le, tu_J_i ha, tu_J_i hb]
theorem tu_J_eq {a b : Int} (ha : tu_rg a) (hb : tu_rg b) : tu_J a = tu_J b ↔ a = b := by
  rw [← Int32.toInt_inj, tu_J_i ha, tu_J_i hb]
theorem tu_rg_t (x : Int32) : tu_rg x.toInt := ⟨by have := Int32.le_toInt x; simpa using this, by have := Int32.toInt_lt x; have e : (2:Int)^31 = 2147483648 := by decide
                                                                                                  omega⟩
theorem tu_J_n {n : Nat} : tu_J (n : Int) = nI n := by
  apply Int32.toBitVec_inj.mp
  simp [tu_J, nI]
theorem tu_in {j : Int} {k n : Nat} (hj : j = (k : Int)) (hk : k < n) (hn : n < 2147483648) : vp_in (tu_J j) n := by
  subst hj; rw [tu_J_n]; exact vp_in_nI hk (by omega)
theorem tu_cl {j : Int} {k n : Nat} (hj : j = (k : Int)) (hk : k < n) (hn : n < 2147483648) : (tu_J j).toNatClampNeg = k := by
  subst hj; rw [tu_J_n]; exact nI_clamp (by omega)
