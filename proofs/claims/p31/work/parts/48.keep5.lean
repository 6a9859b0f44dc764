theorem va_cpy_in {f g : Nat → Int} {a b n j : Nat} (h : b ≤ j ∧ j < b + n) : va_cpy f g a b n j = f (a + (j - b)) := by
  unfold va_cpy
  rw [if_pos (by omega)]
theorem va_cpy_out {f g : Nat → Int} {a b n j : Nat} (h : ¬ (b ≤ j ∧ j < b + n)) : va_cpy f g a b n j = g j := by
  unfold va_cpy
  rw [if_neg (by omega)]
theorem tu_BO.kdropLine {B : Nat → Nat → Int} (h : tu_BO B) {l : Nat} (hl : (l : Int) < B 0 1) : tu_BO (tu_row (tu_row (tu_row (tu_row B 0 (tu_u (tu_u (B 0) 1 (B 0 1 - 1)) 7 ((tu_kc (B 6) 0 ((l : Nat) : Int) (B 0 7).toNat : Nat) : Int))) 2 (va_cpy (B 2) (B 2) (l + 1) l ((B 0 1).toNat - l - 1))) 3 (va_cpy (B 3) (B 3) ((l + 1) * 16) (l * 16) (((B 0 1).toNat - l - 1) * 16))) 6 (tu_wr (B 6) 0 ((l : Nat) : Int) (B 0 7).toNat)) := by
  have c := h.1
  have kl := tu_kc_le (B 6) 0 ((l : Nat) : Int) (B 0 7).toNat
  have key : ∀ q : Nat, (q : Int) < B 0 1 - 1 → ∃ t : Nat, (t : Int) < B 0 1 ∧ va_cpy (B 2) (B 2) (l + 1) l ((B 0 1).toNat - l - 1) q = B 2 t ∧ ∀ s, s < 16 → va_cpy (B 3) (B 3) ((l + 1) * 16) (l * 16) (((B 0 1).toNat - l - 1) * 16) (q * 16 + s) = B 3 (t * 16 + s) := fun q hq => by
    by_cases r : q < l
    · exact ⟨q, by omega, va_cpy_out (by omega), fun s hs => va_cpy_out (by omega)⟩
    · refine ⟨q + 1, by omega, ?_, fun s hs => ?_⟩
      · rw [va_cpy_in (by omega), show l + 1 + (q - l) = q + 1 by omega]
      · rw [va_cpy_in (by omega), show (l + 1) * 16 + (q * 16 + s - l * 16) = (q + 1) * 16 + s by omega]
  generalize hkc : ((tu_kc (B 6) 0 ((l : Nat) : Int) (B 0 7).toNat : Nat) : Int) = K
  have e1 : tu_u (tu_u (B 0) 1 (B 0 1 - 1)) 7 K 1 = B 0 1 - 1 := by rw [tu_u_n _ _ (by decide), tu_u_s]
  have e4 : tu_u (tu_u (B 0) 1 (B 0 1 - 1)) 7 K 4 = B 0 4 := by rw [tu_u_n _ _ (by decide), tu_u_n _ _ (by decide)]
  have e7 : tu_u (tu_u (B 0) 1 (B 0 1 - 1)) 7 K 7 = K := by rw [tu_u_s]
  have e9 : tu_u (tu_u (B 0) 1 (B 0 1 - 1)) 7 K 9 = B 0 9 := by rw [tu_u_n _ _ (by decide), tu_u_n _ _ (by decide)]
  refine ⟨?_, fun q hq => ?_, fun q s hq hs => ?_, fun p hp => ?_, fun p b hp hb => ?_, fun k hk => ?_, fun k hk => ?_, h.2.2.2.2.2.2.2⟩
  · show (0 ≤ tu_u (tu_u (B 0) 1 (B 0 1 - 1)) 7 K 1 ∧ tu_u (tu_u (B 0) 1 (B 0 1 - 1)) 7 K 1 ≤ 16) ∧ (0 ≤ tu_u (tu_u (B 0) 1 (B 0 1 - 1)) 7 K 4 ∧ tu_u (tu_u (B 0) 1 (B 0 1 - 1)) 7 K 4 ≤ 8) ∧ (0 ≤ tu_u (tu_u (B 0) 1 (B 0 1 - 1)) 7 K 7 ∧ tu_u (tu_u (B 0) 1 (B 0 1 - 1)) 7 K 7 ≤ 40) ∧ (0 ≤ tu_u (tu_u (B 0) 1 (B 0 1 - 1)) 7 K 9 ∧ tu_u (tu_u (B 0) 1 (B 0 1 - 1)) 7 K 9 ≤ 8)
    rw [e1, e4, e7, e9]
    omega
  · obtain ⟨t, t1, t2, -⟩ := key q (by rw [← e1]; exact hq)
    show 1 ≤ va_cpy (B 2) (B 2) (l + 1) l ((B 0 1).toNat - l - 1) q ∧ va_cpy (B 2) (B 2) (l + 1) l ((B 0 1).toNat - l - 1) q ≤ 16
    rw [t2]; exact h.2.1 t t1
  · obtain ⟨t, t1, t2, t3⟩ := key q (by rw [← e1]; exact hq)
    have hs : (s : Int) < va_cpy (B 2) (B 2) (l + 1) l ((B 0 1).toNat - l - 1) q := hs
    rw [t2] at hs
    have := h.2.1 t t1
    show va_cpy (B 3) (B 3) ((l + 1) * 16) (l * 16) (((B 0 1).toNat - l - 1) * 16) (q * 16 + s) = 0 ∨ va_cpy (B 3) (B 3) ((l + 1) * 16) (l * 16) (((B 0 1).toNat - l - 1) * 16) (q * 16 + s) = 1
    rw [t3 s (by omega)]
    exact h.2.2.1 t s t1 hs
  · exact h.2.2.2.1 p (by rw [← e4]; exact hp)
  · exact h.2.2.2.2.1 p b (by rw [← e4]; exact hp) hb
  · have hk : (k : Int) < tu_u (tu_u (B 0) 1 (B 0 1 - 1)) 7 K 7 := hk
    rw [e7] at hk
    show 0 ≤ tu_wr (B 6) 0 ((l : Nat) : Int) (B 0 7).toNat k ∧ tu_wr (B 6) 0 ((l : Nat) : Int) (B 0 7).toNat k < tu_u (tu_u (B 0) 1 (B 0 1 - 1)) 7 K 1
    rw [e1]
    exact tu_wr_in ⟨by omega, hl⟩ _ (fun j hj => h.2.2.2.2.2.1 j (by omega)) k (by omega)
  · have hk : (k : Int) < tu_u (tu_u (B 0) 1 (B 0 1 - 1)) 7 K 9 := hk
    rw [e9] at hk
    show 0 ≤ B 7 k ∧ B 7 k < tu_u (tu_u (B 0) 1 (B 0 1 - 1)) 7 K 4
    rw [e4]
    exact h.2.2.2.2.2.2.1 k hk
