/-- one book taken over by another: all its rows -/
def tu_tk (M : tu_M) (b o : Nat) : tu_M := fun i => if b ≤ i ∧ i < b + 8 then M (o + (i - b)) else M i
theorem tu_tk_in {M : tu_M} {b o : Nat} (f : Nat) (h : f < 8) : tu_tk M b o (b + f) = M (o + f) := by
  unfold tu_tk
  rw [if_pos ⟨by omega, by omega⟩, show b + f - b = f by omega]
theorem tu_tk_out {M : tu_M} {b o i : Nat} (h : i < b ∨ b + 8 ≤ i) : tu_tk M b o i = M i := by
  unfold tu_tk
  rw [if_neg (by omega)]
theorem tu_cp {f g : Nat → Int} {n j : Nat} (h : j < n) : va_cpy f g 0 0 n j = f j := by
  unfold va_cpy
  rw [if_pos ⟨by omega, by omega⟩]
  congr 1
  omega
theorem tu_tk_q {M N : tu_M} {b o : Nat} (hb : tu_B b) (h1 : ∀ i, (i < b ∨ b + 8 ≤ i) → N i = M i) (e1 : ∀ j, j < 4 → N (b + 1) j = M (o + 1) j) (e2 : ∀ j, j < 16 → N (b + 2) j = M (o + 2) j) (e3 : ∀ j, j < 256 → N (b + 3) j = M (o + 3) j) (e4 : ∀ j, j < 8 → N (b + 4) j = M (o + 4) j) (e5 : ∀ j, j < 192 → N (b + 5) j = M (o + 5) j) (e6 : ∀ j, j < 40 → N (b + 6) j = M (o + 6) j) (e7 : ∀ j, j < 8 → N (b + 7) j = M (o + 7) j)
    (g1 : N b 1 = M o 1) (g4 : N b 4 = M o 4) (g7 : N b 7 = M o 7) (g9 : N b 9 = M o 9) : tu_qv N (tu_tk M b o) := by
  intro i hi
  by_cases h : i < b ∨ b + 8 ≤ i
  · rw [h1 i h, tu_tk_out h]; exact tu_sq_r _ _
  · obtain ⟨f, hf, rfl⟩ : ∃ f, f < 8 ∧ i = b + f := ⟨i - b, by omega, by omega⟩
    rw [tu_sh_bk hb hf, tu_tk_in f hf]
    rcases (show f = 0 ∨ f = 1 ∨ f = 2 ∨ f = 3 ∨ f = 4 ∨ f = 5 ∨ f = 6 ∨ f = 7 by omega) with rfl | rfl | rfl | rfl | rfl | rfl | rfl | rfl
    · show ∀ k, [some (b+1), none, some (b+2), some (b+3), none, some (b+4), some (b+5), none, some (b+6), none, some (b+7)][k]? = some none → N (b + 0) k = M (o + 0) k
      intro k hk
      have hk11 : k < 11 := (List.getElem?_eq_some_iff.mp hk).1
      rcases (show k = 0 ∨ k = 1 ∨ k = 2 ∨ k = 3 ∨ k = 4 ∨ k = 5 ∨ k = 6 ∨ k = 7 ∨ k = 8 ∨ k = 9 ∨ k = 10 by omega) with rfl | rfl | rfl | rfl | rfl | rfl | rfl | rfl | rfl | rfl | rfl
      all_goals first | exact g1 | exact g4 | exact g7 | exact g9 | (simp at hk)
    · exact e1
    · exact e2
    · exact e3
    · exact e4
    · exact e5
    · exact e6
    · exact e7
