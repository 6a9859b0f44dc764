/-! the history: six books in some order -/
def tu_ip (g : Nat → Int) : Prop := ∃ c : Nat → Nat, (∀ i, i < 6 → c i < 6 ∧ g i = ((22 + 8 * c i : Nat) : Int)) ∧ (∀ i j, i < 6 → j < 6 → c i = c j → i = j)
theorem tu_ip.at {g : Nat → Int} (h : tu_ip g) {i : Nat} (hi : i < 6) : ∃ k, k < 6 ∧ g i = ((22 + 8 * k : Nat) : Int) := by
  obtain ⟨c, h1, -⟩ := h
  exact ⟨c i, h1 i hi⟩
theorem tu_ip.ne {g : Nat → Int} (h : tu_ip g) {i j : Nat} (hi : i < 6) (hj : j < 6) (hn : i ≠ j) : g i ≠ g j := by
  obtain ⟨c, h1, h2⟩ := h
  intro e
  have a := (h1 i hi).2
  have b := (h1 j hj).2
  exact hn (h2 i j hi hj (by omega))
theorem tu_ip.rot {g g' : Nat → Int} (h : tu_ip g) (h1 : ∀ j, j < 5 → g' j = g (j + 1)) (h5 : g' 5 = g 0) : tu_ip g' := by
  obtain ⟨c, e1, e2⟩ := h
  refine ⟨fun j => c (if j < 5 then j + 1 else 0), fun i hi => ?_, fun i j hi hj e => ?_⟩
  · by_cases q : i < 5
    · show c (if i < 5 then i + 1 else 0) < 6 ∧ g' i = ((22 + 8 * c (if i < 5 then i + 1 else 0) : Nat) : Int)
      rw [if_pos q, h1 i q]; exact e1 (i + 1) (by omega)
    · show c (if i < 5 then i + 1 else 0) < 6 ∧ g' i = ((22 + 8 * c (if i < 5 then i + 1 else 0) : Nat) : Int)
      rw [if_neg q, show i = 5 by omega, h5]; exact e1 0 (by omega)
  · have := e2 (if i < 5 then i + 1 else 0) (if j < 5 then j + 1 else 0) (by split <;> omega) (by split <;> omega) e
    split at this <;> split at this <;> omega
theorem tu_ip.q {g g' : Nat → Int} (h : tu_ip g) (h1 : ∀ j, j < 6 → g' j = g j) : tu_ip g' := by
  obtain ⟨c, e1, e2⟩ := h
  exact ⟨c, fun i hi => ⟨(e1 i hi).1, by rw [h1 i hi]; exact (e1 i hi).2⟩, e2⟩
/-- the i-th state of the history, as rows of a book -/
def tu_hb (M : tu_M) (i : Nat) : Nat → Nat → Int := fun f => M ((M 19 i).toNat + f)
/-- what record leaves: N behind M -/
def tu_rec (M N : tu_M) : Prop :=
  (∀ i, i ≠ 0 → i ≠ 19 → (i < 22 ∨ 70 ≤ i) → N i = M i) ∧ (∀ j, j ≠ 4 → N 0 j = M 0 j) ∧ tu_ip (N 19) ∧
  ((M 0 4 = 6 ∧ N 0 4 = 6 ∧ (∀ i, i < 5 → ∀ f, f < 8 → tu_hb N i f = tu_hb M (i + 1) f) ∧ (∀ f, f < 8 → tu_hb N 5 f = M (1 + f))) ∨
   (M 0 4 < 6 ∧ N 0 4 = M 0 4 + 1 ∧ (∀ i : Nat, (i : Int) < M 0 4 → ∀ f, f < 8 → tu_hb N i f = tu_hb M i f) ∧ (∀ f, f < 8 → tu_hb N (M 0 4).toNat f = M (1 + f))))
theorem tu_rec.of {M N : tu_M} {r0 g : Nat → Int} {c sh p : Nat} (hc : c ≤ 5) (h2 : r0 4 = (c : Int)) (h3 : ∀ j, j ≠ 4 → r0 j = M 0 j) (hg : tu_ip g) (h5 : ∀ i, i < c → g i = M 19 (i + sh)) (h6 : (M 0 4 = 6 ∧ c = 5 ∧ sh = 1) ∨ (M 0 4 = (c : Int) ∧ sh = 0)) (hp : g c = (p : Int))
    (h7 : N = tu_row (tu_tk (tu_row (tu_row M 0 r0) 19 g) p 1) 0 (tu_u (tu_tk (tu_row (tu_row M 0 r0) 19 g) p 1 0) 4 ((c : Int) + 1))) : tu_rec M N := by
  obtain ⟨k, hk, ek⟩ := hg.at (show c < 6 by omega)
  have ep : p = 22 + 8 * k := by omega
  have e0 : tu_tk (tu_row (tu_row M 0 r0) 19 g) p 1 0 = r0 := by
    rw [tu_tk_out (by omega), tu_row_n _ _ (by decide), tu_row_s]
  have e19 : N 19 = g := by
    rw [h7, tu_row_n _ _ (by decide), tu_tk_out (by omega), tu_row_s]
  have eo : ∀ i, i ≠ 0 → i ≠ 19 → (i < p ∨ p + 8 ≤ i) → N i = M i := by
    intro i a b d
    rw [h7, tu_row_n _ _ a, tu_tk_out d, tu_row_n _ _ b, tu_row_n _ _ a]
  have ei : ∀ f, f < 8 → N (p + f) = M (1 + f) := by
    intro f hf
    rw [h7, tu_row_n _ _ (by omega), tu_tk_in f hf, tu_row_n _ _ (by omega), tu_row_n _ _ (by omega)]
  have e00 : N 0 = tu_u r0 4 ((c : Int) + 1) := by rw [h7, tu_row_s, e0]
  have eh : ∀ i, i < c → ∀ f, f < 8 → tu_hb N i f = tu_hb M (i + sh) f := by
    intro i hi f hf
    obtain ⟨k2, hk2, ek2⟩ := hg.at (show i < 6 by omega)
    have hne := hg.ne (show i < 6 by omega) (show c < 6 by omega) (by omega)
    unfold tu_hb
    rw [e19, ← h5 i hi]
    exact eo _ (by omega) (by omega) (by omega)
  have el : ∀ f, f < 8 → tu_hb N c f = M (1 + f) := by
    intro f hf
    unfold tu_hb
    rw [e19, hp]
    exact ei f hf
  refine ⟨fun i a b d => eo i a b (by omega), fun j hj => by rw [e00, tu_u_n _ _ hj, h3 j hj], by rw [e19]; exact hg, ?_⟩
  have e4 : N 0 4 = (c : Int) + 1 := by rw [e00, tu_u_s]
  rcases h6 with ⟨a, b, d⟩ | ⟨a, b⟩
  · left
    subst b; subst d
    exact ⟨a, by rw [e4]; rfl, eh, el⟩
  · right
    subst b
    refine ⟨by omega, by rw [e4, a], fun i hi => eh i (by omega), ?_⟩
    rw [a]; exact el
/-- what stays all along: the order of the books, the slots -/
def tu_HS (M : tu_M) : Prop := tu_ip (M 19) ∧ (0 ≤ M 0 4 ∧ M 0 4 ≤ 6) ∧ (M 20 0 = 70 ∧ M 20 1 = 78) ∧ (∀ k, k < 2 → M 21 k = 0 ∨ M 21 k = 1)
/-- verses: lines from a on, each with the burden b behind it, at the places from o on -/
def tu_vs (f : Nat → Int) (o : Nat) (a b : Int) : Nat → Nat → Int
  | 0 => f
  | j + 1 => tu_u (tu_u (tu_vs f o a b j) (o + 2 * j) (a + (j : Int))) (o + 2 * j + 1) b
