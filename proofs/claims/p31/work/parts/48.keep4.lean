theorem tu_row_own {B : Nat → Nat → Int} {x : Nat → Int} {j : Nat} (hj : j ≠ 0) : tu_row (tu_row B 0 x) j (B j) = tu_row B 0 x := by
  funext f k
  by_cases e : f = j
  · subst e; rw [tu_row_s, tu_row_n _ _ hj]
  · rw [tu_row_n _ _ e]
theorem tu_BO.kclear7 {B : Nat → Nat → Int} (h : tu_BO B) : tu_BO (tu_row B 0 (tu_u (B 0) 7 0)) := by
  have g := h.kbal (n := 0) (g := B 6) ⟨by decide, by decide⟩ (fun k hk => absurd hk (by omega))
  rwa [tu_row_own (by decide)] at g
theorem tu_BO.kclear9 {B : Nat → Nat → Int} (h : tu_BO B) : tu_BO (tu_row B 0 (tu_u (B 0) 9 0)) := by
  have g := h.ktun (n := 0) (g := B 7) ⟨by decide, by decide⟩ (fun k hk => absurd hk (by omega))
  rwa [tu_row_own (by decide)] at g
theorem tu_wr_in {f : Nat → Int} {z m : Int} (hz : 0 ≤ z ∧ z < m) : ∀ n : Nat, (∀ k, k < n → 0 ≤ f k ∧ f k < m) → ∀ k, k < tu_kc f 0 z n → 0 ≤ tu_wr f 0 z n k ∧ tu_wr f 0 z n k < m - 1
  | 0, _, k, hk => by simp only [tu_kc] at hk; omega
  | n + 1, h, k, hk => by
    have hn := h n (by omega)
    unfold tu_kc at hk
    unfold tu_wr
    rw [Nat.zero_add] at hk ⊢
    by_cases e : f n = z
    · rw [if_pos e] at hk ⊢
      exact tu_wr_in hz n (fun q hq => h q (by omega)) k (by omega)
    · rw [if_neg e] at hk ⊢
      rw [Nat.zero_add]
      by_cases q : k = tu_kc f 0 z n
      · rw [q, tu_u_s]; split <;> omega
      · rw [tu_u_n _ _ q]
        exact tu_wr_in hz n (fun q hq => h q (by omega)) k (by omega)
