theorem tu_BO.kdropPhrase {B : Nat → Nat → Int} (h : tu_BO B) {l : Nat} (hl : (l : Int) < B 0 4) : tu_BO (tu_row (tu_row (tu_row (tu_row B 0 (tu_u (tu_u (B 0) 4 (B 0 4 - 1)) 9 ((tu_kc (B 7) 0 ((l : Nat) : Int) (B 0 9).toNat : Nat) : Int))) 4 (va_cpy (B 4) (B 4) (l + 1) l ((B 0 4).toNat - l - 1))) 5 (va_cpy (B 5) (B 5) ((l + 1) * 24) (l * 24) (((B 0 4).toNat - l - 1) * 24))) 7 (tu_wr (B 7) 0 ((l : Nat) : Int) (B 0 9).toNat)) := by
  have c := h.1
  have kl := tu_kc_le (B 7) 0 ((l : Nat) : Int) (B 0 9).toNat
  have key : ∀ q : Nat, (q : Int) < B 0 4 - 1 → ∃ t : Nat, (t : Int) < B 0 4 ∧ va_cpy (B 4) (B 4) (l + 1) l ((B 0 4).toNat - l - 1) q = B 4 t ∧ ∀ s, s < 24 → va_cpy (B 5) (B 5) ((l + 1) * 24) (l * 24) (((B 0 4).toNat - l - 1) * 24) (q * 24 + s) = B 5 (t * 24 + s) := fun q hq => by
    by_cases r : q < l
    · exact ⟨q, by omega, va_cpy_out (by omega), fun s hs => va_cpy_out (by omega)⟩
    · refine ⟨q + 1, by omega, ?_, fun s hs => ?_⟩
      · rw [va_cpy_in (by omega), show l + 1 + (q - l) = q + 1 by omega]
      · rw [va_cpy_in (by omega), show (l + 1) * 24 + (q * 24 + s - l * 24) = (q + 1) * 24 + s by omega]
  generalize hkc : ((tu_kc (B 7) 0 ((l : Nat) : Int) (B 0 9).toNat : Nat) : Int) = K
  have e1 : tu_u (tu_u (B 0) 4 (B 0 4 - 1)) 9 K 1 = B 0 1 := by rw [tu_u_n _ _ (by decide), tu_u_n _ _ (by decide)]
  have e4 : tu_u (tu_u (B 0) 4 (B 0 4 - 1)) 9 K 4 = B 0 4 - 1 := by rw [tu_u_n _ _ (by decide), tu_u_s]
  have e7 : tu_u (tu_u (B 0) 4 (B 0 4 - 1)) 9 K 7 = B 0 7 := by rw [tu_u_n _ _ (by decide), tu_u_n _ _ (by decide)]
  have e9 : tu_u (tu_u (B 0) 4 (B 0 4 - 1)) 9 K 9 = K := by rw [tu_u_s]
  refine ⟨?_, fun l hl => ?_, fun l s hl hs => ?_, fun q hq => ?_, fun q s hq hs => ?_, fun k hk => ?_, fun k hk => ?_, h.2.2.2.2.2.2.2⟩
  · show (0 ≤ tu_u (tu_u (B 0) 4 (B 0 4 - 1)) 9 K 1 ∧ tu_u (tu_u (B 0) 4 (B 0 4 - 1)) 9 K 1 ≤ 16) ∧ (0 ≤ tu_u (tu_u (B 0) 4 (B 0 4 - 1)) 9 K 4 ∧ tu_u (tu_u (B 0) 4 (B 0 4 - 1)) 9 K 4 ≤ 8) ∧ (0 ≤ tu_u (tu_u (B 0) 4 (B 0 4 - 1)) 9 K 7 ∧ tu_u (tu_u (B 0) 4 (B 0 4 - 1)) 9 K 7 ≤ 40) ∧ (0 ≤ tu_u (tu_u (B 0) 4 (B 0 4 - 1)) 9 K 9 ∧ tu_u (tu_u (B 0) 4 (B 0 4 - 1)) 9 K 9 ≤ 8)
    rw [e1, e4, e7, e9]
    omega
  · exact h.2.1 l (by rw [← e1]; exact hl)
  · exact h.2.2.1 l s (by rw [← e1]; exact hl) hs
  · obtain ⟨t, t1, t2, -⟩ := key q (by rw [← e4]; exact hq)
    show 1 ≤ va_cpy (B 4) (B 4) (l + 1) l ((B 0 4).toNat - l - 1) q ∧ va_cpy (B 4) (B 4) (l + 1) l ((B 0 4).toNat - l - 1) q ≤ 24
    rw [t2]; exact h.2.2.2.1 t t1
  · obtain ⟨t, t1, t2, t3⟩ := key q (by rw [← e4]; exact hq)
    have hs : (s : Int) < va_cpy (B 4) (B 4) (l + 1) l ((B 0 4).toNat - l - 1) q := hs
    rw [t2] at hs
    have := h.2.2.2.1 t t1
    show 0 ≤ va_cpy (B 5) (B 5) ((l + 1) * 24) (l * 24) (((B 0 4).toNat - l - 1) * 24) (q * 24 + s) ∧ va_cpy (B 5) (B 5) ((l + 1) * 24) (l * 24) (((B 0 4).toNat - l - 1) * 24) (q * 24 + s) ≤ 2
    rw [t3 s (by omega)]
    exact h.2.2.2.2.1 t s t1 hs
  · have hk : (k : Int) < tu_u (tu_u (B 0) 4 (B 0 4 - 1)) 9 K 7 := hk
    rw [e7] at hk
    show 0 ≤ B 6 k ∧ B 6 k < tu_u (tu_u (B 0) 4 (B 0 4 - 1)) 9 K 1
    rw [e1]
    exact h.2.2.2.2.2.1 k hk
  · have hk : (k : Int) < tu_u (tu_u (B 0) 4 (B 0 4 - 1)) 9 K 9 := hk
    rw [e9] at hk
    show 0 ≤ tu_wr (B 7) 0 ((l : Nat) : Int) (B 0 9).toNat k ∧ tu_wr (B 7) 0 ((l : Nat) : Int) (B 0 9).toNat k < tu_u (tu_u (B 0) 4 (B 0 4 - 1)) 9 K 4
    rw [e4]
    exact tu_wr_in ⟨by omega, hl⟩ _ (fun j hj => h.2.2.2.2.2.2.1 j (by omega)) k (by omega)
