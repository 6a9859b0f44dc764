theorem tu_vs_in {f : Nat → Int} {o : Nat} {a b m : Int} : ∀ j : Nat, (∀ k, k < o → 0 ≤ f k ∧ f k < m) → 0 ≤ a → a + (j : Int) ≤ m → 0 ≤ b → b < m → ∀ k, k < o + 2 * j → 0 ≤ tu_vs f o a b j k ∧ tu_vs f o a b j k < m
  | 0, h, _, _, _, _, k, hk => h k (by omega)
  | j + 1, h, a0, a1, b0, b1, k, hk => by
    show 0 ≤ tu_u (tu_u (tu_vs f o a b j) (o + 2 * j) (a + (j : Int))) (o + 2 * j + 1) b k ∧ tu_u (tu_u (tu_vs f o a b j) (o + 2 * j) (a + (j : Int))) (o + 2 * j + 1) b k < m
    by_cases e : k = o + 2 * j + 1
    · rw [e, tu_u_s]; exact ⟨b0, b1⟩
    · rw [tu_u_n _ _ e]
      by_cases e2 : k = o + 2 * j
      · rw [e2, tu_u_s]; omega
      · rw [tu_u_n _ _ e2]; exact tu_vs_in j h a0 (by omega) b0 b1 k (by omega)
theorem tu_BO.kverse {B : Nat → Nat → Int} (h : tu_BO B) {a d b : Int} (ha : 0 ≤ a ∧ a < B 0 1) (hd : 0 ≤ d ∧ d < B 0 1) (hb : 0 ≤ b ∧ b < B 0 1) (had : a ≤ d) (hc : B 0 7 + 2 * (d - a + 1) ≤ 40) : tu_BO (tu_row (tu_row B 0 (tu_u (B 0) 7 (B 0 7 + 2 * (d - a + 1)))) 6 (tu_vs (B 6) (B 0 7).toNat a b (d - a + 1).toNat)) := by
  have c := h.1
  exact h.kbal ⟨by omega, by omega⟩ (fun k hk => tu_vs_in _ (fun q hq => h.2.2.2.2.2.1 q (by omega)) ha.1 (by omega) hb.1 hb.2 k (by omega))
