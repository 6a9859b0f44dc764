theorem tu_BO.kbal {B : Nat → Nat → Int} (h : tu_BO B) {n : Int} {g : Nat → Int} (hn : 0 ≤ n ∧ n ≤ 40) (hg : ∀ k : Nat, (k : Int) < n → 0 ≤ g k ∧ g k < B 0 1) : tu_BO (tu_row (tu_row B 0 (tu_u (B 0) 7 n)) 6 g) := by
  have c := h.1
  refine ⟨?_, h.2.1, h.2.2.1, h.2.2.2.1, h.2.2.2.2.1, fun k hk => ?_, h.2.2.2.2.2.2.1, h.2.2.2.2.2.2.2⟩
  · show (0 ≤ tu_u (B 0) 7 n 1 ∧ tu_u (B 0) 7 n 1 ≤ 16) ∧ (0 ≤ tu_u (B 0) 7 n 4 ∧ tu_u (B 0) 7 n 4 ≤ 8) ∧ (0 ≤ tu_u (B 0) 7 n 7 ∧ tu_u (B 0) 7 n 7 ≤ 40) ∧ (0 ≤ tu_u (B 0) 7 n 9 ∧ tu_u (B 0) 7 n 9 ≤ 8)
    rw [tu_u_n _ _ (show 1 ≠ 7 by decide), tu_u_n _ _ (show 4 ≠ 7 by decide), tu_u_s, tu_u_n _ _ (show 9 ≠ 7 by decide)]
    exact ⟨c.1, c.2.1, hn, c.2.2.2⟩
  · have hk : (k : Int) < tu_u (B 0) 7 n 7 := hk
    rw [tu_u_s] at hk
    exact hg k hk
theorem tu_BO.ktun {B : Nat → Nat → Int} (h : tu_BO B) {n : Int} {g : Nat → Int} (hn : 0 ≤ n ∧ n ≤ 8) (hg : ∀ k : Nat, (k : Int) < n → 0 ≤ g k ∧ g k < B 0 4) : tu_BO (tu_row (tu_row B 0 (tu_u (B 0) 9 n)) 7 g) := by
  have c := h.1
  refine ⟨?_, h.2.1, h.2.2.1, h.2.2.2.1, h.2.2.2.2.1, h.2.2.2.2.2.1, fun k hk => ?_, h.2.2.2.2.2.2.2⟩
  · show (0 ≤ tu_u (B 0) 9 n 1 ∧ tu_u (B 0) 9 n 1 ≤ 16) ∧ (0 ≤ tu_u (B 0) 9 n 4 ∧ tu_u (B 0) 9 n 4 ≤ 8) ∧ (0 ≤ tu_u (B 0) 9 n 7 ∧ tu_u (B 0) 9 n 7 ≤ 40) ∧ (0 ≤ tu_u (B 0) 9 n 9 ∧ tu_u (B 0) 9 n 9 ≤ 8)
    rw [tu_u_n _ _ (show 1 ≠ 9 by decide), tu_u_n _ _ (show 4 ≠ 9 by decide), tu_u_n _ _ (show 7 ≠ 9 by decide), tu_u_s]
    exact ⟨c.1, c.2.1, c.2.2.1, hn⟩
  · have hk : (k : Int) < tu_u (B 0) 9 n 9 := hk
    rw [tu_u_s] at hk
    exact hg k hk
theorem tu_BO.ksing {B : Nat → Nat → Int} (h : tu_BO B) {l : Int} (hl : 0 ≤ l ∧ l < B 0 1) (hc : B 0 7 < 40) : tu_BO (tu_row (tu_row B 0 (tu_u (B 0) 7 (B 0 7 + 1))) 6 (tu_u (B 6) (B 0 7).toNat l)) := by
  have c := h.1
  refine h.kbal ⟨by omega, by omega⟩ (fun k hk => ?_)
  rw [tu_u_if]
  split
  · exact hl
  · exact h.2.2.2.2.2.1 k (by omega)
theorem tu_BO.kplay {B : Nat → Nat → Int} (h : tu_BO B) {l : Int} (hl : 0 ≤ l ∧ l < B 0 4) (hc : B 0 9 < 8) : tu_BO (tu_row (tu_row B 0 (tu_u (B 0) 9 (B 0 9 + 1))) 7 (tu_u (B 7) (B 0 9).toNat l)) := by
  have c := h.1
  refine h.ktun ⟨by omega, by omega⟩ (fun k hk => ?_)
  rw [tu_u_if]
  split
  · exact hl
  · exact h.2.2.2.2.2.2.1 k (by omega)
