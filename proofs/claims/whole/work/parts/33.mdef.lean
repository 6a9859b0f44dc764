/-! the model's state against a book -/
def tu_MB (B : Nat → Nat → Int) (N : Nat → Int) : Prop :=
  (∀ i, i < 4 → N i = B 1 i) ∧ (N 4 = B 0 1 ∧ N 5 = B 0 4 ∧ N 6 = B 0 7 ∧ N 7 = B 0 9) ∧
  (∀ l : Nat, (l : Int) < B 0 1 → N (8 + 2 * l) = B 2 l ∧ tu_mk (N (8 + 2 * l + 1)) (B 2 l).toNat (fun s => B 3 (l * 16 + s))) ∧
  (∀ p : Nat, (p : Int) < B 0 4 → N (40 + 3 * p) = B 4 p ∧ tu_mk (N (40 + 3 * p + 1)) (B 4 p).toNat (fun b => if B 5 (p * 24 + b) = 2 then 1 else 0) ∧ tu_mk (N (40 + 3 * p + 2)) (B 4 p).toNat (fun b => if B 5 (p * 24 + b) = 1 then 1 else 0)) ∧
  (∀ k : Nat, (k : Int) < B 0 7 → N (64 + k) = B 6 k) ∧ (∀ k : Nat, (k : Int) < B 0 9 → N (104 + k) = B 7 k)
theorem tu_MB.set {B : Nat → Nat → Int} {N : Nat → Int} (h : tu_MB B N) : ∀ i, i < 4 → N i = B 1 i := h.1
theorem tu_MB.n4 {B : Nat → Nat → Int} {N : Nat → Int} (h : tu_MB B N) : N 4 = B 0 1 := h.2.1.1
theorem tu_MB.n5 {B : Nat → Nat → Int} {N : Nat → Int} (h : tu_MB B N) : N 5 = B 0 4 := h.2.1.2.1
theorem tu_MB.n6 {B : Nat → Nat → Int} {N : Nat → Int} (h : tu_MB B N) : N 6 = B 0 7 := h.2.1.2.2.1
theorem tu_MB.n7 {B : Nat → Nat → Int} {N : Nat → Int} (h : tu_MB B N) : N 7 = B 0 9 := h.2.1.2.2.2
theorem tu_MB.ln {B : Nat → Nat → Int} {N : Nat → Int} (h : tu_MB B N) : ∀ l : Nat, (l : Int) < B 0 1 → N (8 + 2 * l) = B 2 l := fun l hl => (h.2.2.1 l hl).1
theorem tu_MB.st {B : Nat → Nat → Int} {N : Nat → Int} (h : tu_MB B N) : ∀ l : Nat, (l : Int) < B 0 1 → tu_mk (N (8 + 2 * l + 1)) (B 2 l).toNat (fun s => B 3 (l * 16 + s)) := fun l hl => (h.2.2.1 l hl).2
theorem tu_MB.ph {B : Nat → Nat → Int} {N : Nat → Int} (h : tu_MB B N) : ∀ p : Nat, (p : Int) < B 0 4 → N (40 + 3 * p) = B 4 p := fun p hp => (h.2.2.2.1 p hp).1
theorem tu_MB.k2 {B : Nat → Nat → Int} {N : Nat → Int} (h : tu_MB B N) : ∀ p : Nat, (p : Int) < B 0 4 → tu_mk (N (40 + 3 * p + 1)) (B 4 p).toNat (fun b => if B 5 (p * 24 + b) = 2 then 1 else 0) := fun p hp => (h.2.2.2.1 p hp).2.1
theorem tu_MB.k1 {B : Nat → Nat → Int} {N : Nat → Int} (h : tu_MB B N) : ∀ p : Nat, (p : Int) < B 0 4 → tu_mk (N (40 + 3 * p + 2)) (B 4 p).toNat (fun b => if B 5 (p * 24 + b) = 1 then 1 else 0) := fun p hp => (h.2.2.2.1 p hp).2.2
theorem tu_MB.ba {B : Nat → Nat → Int} {N : Nat → Int} (h : tu_MB B N) : ∀ k : Nat, (k : Int) < B 0 7 → N (64 + k) = B 6 k := h.2.2.2.2.1
theorem tu_MB.tu {B : Nat → Nat → Int} {N : Nat → Int} (h : tu_MB B N) : ∀ k : Nat, (k : Int) < B 0 9 → N (104 + k) = B 7 k := h.2.2.2.2.2
/-- only the numbers of a state count -/
theorem tu_MB.q {B : Nat → Nat → Int} {N N' : Nat → Int} (hO : tu_BO B) (h : tu_MB B N) (e : ∀ j, j < 112 → N' j = N j) : tu_MB B N' := by
  have c := hO.1
  refine ⟨fun i hi => by rw [e i (by omega)]; exact h.1 i hi, ⟨by rw [e 4 (by omega)]; exact h.n4, by rw [e 5 (by omega)]; exact h.n5, by rw [e 6 (by omega)]; exact h.n6, by rw [e 7 (by omega)]; exact h.n7⟩, fun l hl => ?_, fun p hp => ?_, fun k hk => ?_, fun k hk => ?_⟩
  · rw [e _ (by omega), e _ (by omega)]; exact h.2.2.1 l hl
  · rw [e _ (by omega), e _ (by omega), e _ (by omega)]; exact h.2.2.2.1 p hp
  · rw [e _ (by omega)]; exact h.ba k hk
  · rw [e _ (by omega)]; exact h.tu k hk
/-- k numbers of f from a on, put into g from b on -/
def tu_ml (f g : Nat → Int) (a b : Nat) : Nat → Nat → Int
  | 0 => g
  | k + 1 => tu_u (tu_ml f g a b k) (b + k) (f (a + k))
theorem tu_ml_at (f g : Nat → Int) (a b : Nat) : ∀ k j, tu_ml f g a b k j = if b ≤ j ∧ j < b + k then f (a + (j - b)) else g j
  | 0, j => by rw [if_neg (by omega)]; rfl
  | k + 1, j => by
    show tu_u (tu_ml f g a b k) (b + k) (f (a + k)) j = _
    by_cases h : j = b + k
    · subst h; rw [tu_u_s, if_pos ⟨by omega, by omega⟩, show b + k - b = k by omega]
    · rw [tu_u_n _ _ h, tu_ml_at f g a b k j]
      by_cases q : b ≤ j ∧ j < b + k
      · rw [if_pos q, if_pos ⟨by omega, by omega⟩]
      · rw [if_neg q, if_neg (by omega)]
/-- the model's history behind record, its number -/
def tu_mq (f g : Nat → Int) (h : Int) : Nat → Int := if h = 6 then tu_ml g (tu_ml f f 112 0 560) 0 560 112 else tu_ml g f 0 (h.toNat * 112) 112
def tu_mw (h : Int) : Int := if h = 6 then 6 else h + 1
theorem tu_b_f {p q : Prop} [Decidable p] [Decidable q] (h : p ↔ q) : tu_b p = tu_b q := by
  unfold tu_b
  by_cases hp : p
  · rw [if_pos hp, if_pos (h.mp hp)]
  · rw [if_neg hp, if_neg (fun z => hp (h.mpr z))]
/-- what the model has looked up: n syllables with their stresses a, m beats with their kinds k, the breath -/
def tu_LM (r a k : Nat → Int) (n m : Nat) (br : Int) : Prop :=
  (r 10 = n ∧ tu_mk (r 11) n a) ∧ (r 12 = m ∧ tu_mk (r 13) m (fun b => if k b = 2 then 1 else 0) ∧ tu_mk (r 14) m (fun b => if k b = 0 then 0 else 1)) ∧ r 15 = br
