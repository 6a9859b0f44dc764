theorem tu_MB.mdropLine {B : Nat → Nat → Int} {N : Nat → Int} (h : tu_MB B N) (hO : tu_BO B) {l K : Nat} (hl : (l : Int) < B 0 1) (hK : K = 2 * ((B 0 1).toNat - l - 1)) :
    tu_MB (tu_row (tu_row (tu_row (tu_row B 0 (tu_u (tu_u (B 0) 1 (B 0 1 - 1)) 7 ((tu_kc (B 6) 0 ((l : Nat) : Int) (B 0 7).toNat : Nat) : Int))) 2 (va_cpy (B 2) (B 2) (l + 1) l ((B 0 1).toNat - l - 1))) 3 (va_cpy (B 3) (B 3) ((l + 1) * 16) (l * 16) (((B 0 1).toNat - l - 1) * 16))) 6 (tu_wr (B 6) 0 ((l : Nat) : Int) (B 0 7).toNat))
     (tu_u (tu_wr (tu_ml (tu_u N 4 (N 4 - 1)) (tu_u N 4 (N 4 - 1)) (8 + 2 * l + 2) (8 + 2 * l) K) 64 ((l : Nat) : Int) (B 0 7).toNat) 6 ((tu_kc (tu_ml (tu_u N 4 (N 4 - 1)) (tu_u N 4 (N 4 - 1)) (8 + 2 * l + 2) (8 + 2 * l) K) 64 ((l : Nat) : Int) (B 0 7).toNat : Nat) : Int)) := by
  have c := hO.1
  have hX := tu_ml_at (tu_u N 4 (N 4 - 1)) (tu_u N 4 (N 4 - 1)) (8 + 2 * l + 2) (8 + 2 * l) K
  generalize tu_ml (tu_u N 4 (N 4 - 1)) (tu_u N 4 (N 4 - 1)) (8 + 2 * l + 2) (8 + 2 * l) K = X at hX ⊢
  have hout : ∀ j, j ≠ 4 → (j < 8 + 2 * l ∨ 8 + 2 * l + K ≤ j) → X j = N j := fun j a b => by rw [hX, if_neg (by omega), tu_u_n _ _ a]
  have hin : ∀ j, 8 + 2 * l ≤ j → j < 8 + 2 * l + K → X j = N (j + 2) := fun j a b => by rw [hX, if_pos ⟨a, b⟩, tu_u_n _ _ (by omega), show 8 + 2 * l + 2 + (j - (8 + 2 * l)) = j + 2 by omega]
  have h64 : ∀ k, k < (B 0 7).toNat → X (64 + k) = B 6 k := fun k hk => by rw [hout _ (by omega) (by omega)]; exact h.ba k (by omega)
  have ek : tu_kc X 64 ((l : Nat) : Int) (B 0 7).toNat = tu_kc (B 6) 0 ((l : Nat) : Int) (B 0 7).toNat := tu_kc_sh _ h64
  have kl := tu_kc_le (B 6) 0 ((l : Nat) : Int) (B 0 7).toNat
  have glow : ∀ {z : Int} (j : Nat), j < 64 → j ≠ 6 → tu_u (tu_wr X 64 ((l : Nat) : Int) (B 0 7).toNat) 6 z j = X j := fun j a b => by rw [tu_u_n _ _ b, tu_wr_low a]
  refine ⟨fun i hi => ?_, ⟨?_, ?_, ?_, ?_⟩, fun q hq => ?_, fun p hp => ?_, fun k hk => ?_, fun k hk => ?_⟩
  · rw [glow i (by omega) (by omega), hout i (by omega) (by omega)]; exact h.set i hi
  · rw [glow 4 (by omega) (by omega), hX, if_neg (by omega), tu_u_s]
    show N 4 - 1 = tu_u (tu_u (B 0) 1 (B 0 1 - 1)) 7 ((tu_kc (B 6) 0 ((l : Nat) : Int) (B 0 7).toNat : Nat) : Int) 1
    rw [tu_u_n _ _ (by decide), tu_u_s, h.n4]
  · rw [glow 5 (by omega) (by omega), hout 5 (by omega) (by omega)]
    show N 5 = tu_u (tu_u (B 0) 1 (B 0 1 - 1)) 7 ((tu_kc (B 6) 0 ((l : Nat) : Int) (B 0 7).toNat : Nat) : Int) 4
    rw [tu_u_n _ _ (by decide), tu_u_n _ _ (by decide), h.n5]
  · rw [tu_u_s, ek]
    show _ = tu_u (tu_u (B 0) 1 (B 0 1 - 1)) 7 ((tu_kc (B 6) 0 ((l : Nat) : Int) (B 0 7).toNat : Nat) : Int) 7
    rw [tu_u_s]
  · rw [glow 7 (by omega) (by omega), hout 7 (by omega) (by omega)]
    show N 7 = tu_u (tu_u (B 0) 1 (B 0 1 - 1)) 7 ((tu_kc (B 6) 0 ((l : Nat) : Int) (B 0 7).toNat : Nat) : Int) 9
    rw [tu_u_n _ _ (by decide), tu_u_n _ _ (by decide), h.n7]
  · have hq : (q : Int) < tu_u (tu_u (B 0) 1 (B 0 1 - 1)) 7 ((tu_kc (B 6) 0 ((l : Nat) : Int) (B 0 7).toNat : Nat) : Int) 1 := hq
    rw [tu_u_n _ _ (by decide), tu_u_s] at hq
    rw [glow _ (by omega) (by omega), glow _ (by omega) (by omega)]
    show X _ = va_cpy (B 2) (B 2) (l + 1) l ((B 0 1).toNat - l - 1) q ∧ tu_mk (X _) (va_cpy (B 2) (B 2) (l + 1) l ((B 0 1).toNat - l - 1) q).toNat (fun s => va_cpy (B 3) (B 3) ((l + 1) * 16) (l * 16) (((B 0 1).toNat - l - 1) * 16) (q * 16 + s))
    by_cases r : q < l
    · have e2 := hO.2.1 q (by omega)
      rw [va_cpy_out (by omega), hout _ (by omega) (by omega), hout _ (by omega) (by omega)]
      refine ⟨h.ln q (by omega), (h.st q (by omega)).q (fun i hi => ?_)⟩
      rw [va_cpy_out (by omega)]
    · have e2 := hO.2.1 (q + 1) (by omega)
      rw [va_cpy_in (by omega), hin _ (by omega) (by omega), hin _ (by omega) (by omega), show l + 1 + (q - l) = q + 1 by omega, show 8 + 2 * q + 2 = 8 + 2 * (q + 1) by omega, show 8 + 2 * q + 1 + 2 = 8 + 2 * (q + 1) + 1 by omega]
      refine ⟨h.ln (q + 1) (by omega), (h.st (q + 1) (by omega)).q (fun i hi => ?_)⟩
      rw [va_cpy_in (by omega), show (l + 1) * 16 + (q * 16 + i - l * 16) = (q + 1) * 16 + i by omega]
  · have hp : (p : Int) < tu_u (tu_u (B 0) 1 (B 0 1 - 1)) 7 ((tu_kc (B 6) 0 ((l : Nat) : Int) (B 0 7).toNat : Nat) : Int) 4 := hp
    rw [tu_u_n _ _ (by decide), tu_u_n _ _ (by decide)] at hp
    rw [glow _ (by omega) (by omega), glow _ (by omega) (by omega), glow _ (by omega) (by omega), hout _ (by omega) (by omega), hout _ (by omega) (by omega), hout _ (by omega) (by omega)]
    exact h.2.2.2.1 p hp
  · have hk : (k : Int) < tu_u (tu_u (B 0) 1 (B 0 1 - 1)) 7 ((tu_kc (B 6) 0 ((l : Nat) : Int) (B 0 7).toNat : Nat) : Int) 7 := hk
    rw [tu_u_s] at hk
    rw [tu_u_n _ _ (by omega)]
    exact tu_wr_sh _ h64 k (by omega)
  · have hk : (k : Int) < tu_u (tu_u (B 0) 1 (B 0 1 - 1)) 7 ((tu_kc (B 6) 0 ((l : Nat) : Int) (B 0 7).toNat : Nat) : Int) 9 := hk
    rw [tu_u_n _ _ (by decide), tu_u_n _ _ (by decide)] at hk
    rw [tu_u_n _ _ (by omega), tu_wr_old _ _ _ _ _ (by omega), hout _ (by omega) (by omega)]
    exact h.tu k hk
theorem tu_MB.mdropPhrase {B : Nat → Nat → Int} {N : Nat → Int} (h : tu_MB B N) (hO : tu_BO B) {l K : Nat} (hl : (l : Int) < B 0 4) (hK : K = 3 * ((B 0 4).toNat - l - 1)) :
    tu_MB (tu_row (tu_row (tu_row (tu_row B 0 (tu_u (tu_u (B 0) 4 (B 0 4 - 1)) 9 ((tu_kc (B 7) 0 ((l : Nat) : Int) (B 0 9).toNat : Nat) : Int))) 4 (va_cpy (B 4) (B 4) (l + 1) l ((B 0 4).toNat - l - 1))) 5 (va_cpy (B 5) (B 5) ((l + 1) * 24) (l * 24) (((B 0 4).toNat - l - 1) * 24))) 7 (tu_wr (B 7) 0 ((l : Nat) : Int) (B 0 9).toNat))
     (tu_u (tu_wr (tu_ml (tu_u N 5 (N 5 - 1)) (tu_u N 5 (N 5 - 1)) (40 + 3 * l + 3) (40 + 3 * l) K) 104 ((l : Nat) : Int) (B 0 9).toNat) 7 ((tu_kc (tu_ml (tu_u N 5 (N 5 - 1)) (tu_u N 5 (N 5 - 1)) (40 + 3 * l + 3) (40 + 3 * l) K) 104 ((l : Nat) : Int) (B 0 9).toNat : Nat) : Int)) := by
  have c := hO.1
  have hX := tu_ml_at (tu_u N 5 (N 5 - 1)) (tu_u N 5 (N 5 - 1)) (40 + 3 * l + 3) (40 + 3 * l) K
  generalize tu_ml (tu_u N 5 (N 5 - 1)) (tu_u N 5 (N 5 - 1)) (40 + 3 * l + 3) (40 + 3 * l) K = X at hX ⊢
  have hout : ∀ j, j ≠ 5 → (j < 40 + 3 * l ∨ 40 + 3 * l + K ≤ j) → X j = N j := fun j a b => by rw [hX, if_neg (by omega), tu_u_n _ _ a]
  have hin : ∀ j, 40 + 3 * l ≤ j → j < 40 + 3 * l + K → X j = N (j + 3) := fun j a b => by rw [hX, if_pos ⟨a, b⟩, tu_u_n _ _ (by omega), show 40 + 3 * l + 3 + (j - (40 + 3 * l)) = j + 3 by omega]
  have h104 : ∀ k, k < (B 0 9).toNat → X (104 + k) = B 7 k := fun k hk => by rw [hout _ (by omega) (by omega)]; exact h.tu k (by omega)
  have ek : tu_kc X 104 ((l : Nat) : Int) (B 0 9).toNat = tu_kc (B 7) 0 ((l : Nat) : Int) (B 0 9).toNat := tu_kc_sh _ h104
  have kl := tu_kc_le (B 7) 0 ((l : Nat) : Int) (B 0 9).toNat
  have glow : ∀ {z : Int} (j : Nat), j < 104 → j ≠ 7 → tu_u (tu_wr X 104 ((l : Nat) : Int) (B 0 9).toNat) 7 z j = X j := fun j a b => by rw [tu_u_n _ _ b, tu_wr_low a]
  refine ⟨fun i hi => ?_, ⟨?_, ?_, ?_, ?_⟩, fun q hq => ?_, fun p hp => ?_, fun k hk => ?_, fun k hk => ?_⟩
  · rw [glow i (by omega) (by omega), hout i (by omega) (by omega)]; exact h.set i hi
  · rw [glow 4 (by omega) (by omega), hout 4 (by omega) (by omega)]
    show N 4 = tu_u (tu_u (B 0) 4 (B 0 4 - 1)) 9 ((tu_kc (B 7) 0 ((l : Nat) : Int) (B 0 9).toNat : Nat) : Int) 1
    rw [tu_u_n _ _ (by decide), tu_u_n _ _ (by decide), h.n4]
  · rw [glow 5 (by omega) (by omega), hX, if_neg (by omega), tu_u_s]
    show N 5 - 1 = tu_u (tu_u (B 0) 4 (B 0 4 - 1)) 9 ((tu_kc (B 7) 0 ((l : Nat) : Int) (B 0 9).toNat : Nat) : Int) 4
    rw [tu_u_n _ _ (by decide), tu_u_s, h.n5]
  · rw [glow 6 (by omega) (by omega), hout 6 (by omega) (by omega)]
    show N 6 = tu_u (tu_u (B 0) 4 (B 0 4 - 1)) 9 ((tu_kc (B 7) 0 ((l : Nat) : Int) (B 0 9).toNat : Nat) : Int) 7
    rw [tu_u_n _ _ (by decide), tu_u_n _ _ (by decide), h.n6]
  · rw [tu_u_s, ek]
    show _ = tu_u (tu_u (B 0) 4 (B 0 4 - 1)) 9 ((tu_kc (B 7) 0 ((l : Nat) : Int) (B 0 9).toNat : Nat) : Int) 9
    rw [tu_u_s]
  · have hq : (q : Int) < tu_u (tu_u (B 0) 4 (B 0 4 - 1)) 9 ((tu_kc (B 7) 0 ((l : Nat) : Int) (B 0 9).toNat : Nat) : Int) 1 := hq
    rw [tu_u_n _ _ (by decide), tu_u_n _ _ (by decide)] at hq
    rw [glow _ (by omega) (by omega), glow _ (by omega) (by omega), hout _ (by omega) (by omega), hout _ (by omega) (by omega)]
    exact h.2.2.1 q hq
  · have hp : (p : Int) < tu_u (tu_u (B 0) 4 (B 0 4 - 1)) 9 ((tu_kc (B 7) 0 ((l : Nat) : Int) (B 0 9).toNat : Nat) : Int) 4 := hp
    rw [tu_u_n _ _ (by decide), tu_u_s] at hp
    rw [glow _ (by omega) (by omega), glow _ (by omega) (by omega), glow _ (by omega) (by omega)]
    show X _ = va_cpy (B 4) (B 4) (l + 1) l ((B 0 4).toNat - l - 1) p ∧ tu_mk (X _) (va_cpy (B 4) (B 4) (l + 1) l ((B 0 4).toNat - l - 1) p).toNat (fun b => if va_cpy (B 5) (B 5) ((l + 1) * 24) (l * 24) (((B 0 4).toNat - l - 1) * 24) (p * 24 + b) = 2 then 1 else 0) ∧ tu_mk (X _) (va_cpy (B 4) (B 4) (l + 1) l ((B 0 4).toNat - l - 1) p).toNat (fun b => if va_cpy (B 5) (B 5) ((l + 1) * 24) (l * 24) (((B 0 4).toNat - l - 1) * 24) (p * 24 + b) = 1 then 1 else 0)
    by_cases r : p < l
    · have e2 := hO.2.2.2.1 p (by omega)
      rw [va_cpy_out (by omega), hout _ (by omega) (by omega), hout _ (by omega) (by omega), hout _ (by omega) (by omega)]
      refine ⟨h.ph p (by omega), (h.k2 p (by omega)).q (fun i hi => ?_), (h.k1 p (by omega)).q (fun i hi => ?_)⟩
      · rw [va_cpy_out (by omega)]
      · rw [va_cpy_out (by omega)]
    · have e2 := hO.2.2.2.1 (p + 1) (by omega)
      rw [va_cpy_in (by omega), hin _ (by omega) (by omega), hin _ (by omega) (by omega), hin _ (by omega) (by omega), show l + 1 + (p - l) = p + 1 by omega, show 40 + 3 * p + 3 = 40 + 3 * (p + 1) by omega, show 40 + 3 * p + 1 + 3 = 40 + 3 * (p + 1) + 1 by omega, show 40 + 3 * p + 2 + 3 = 40 + 3 * (p + 1) + 2 by omega]
      refine ⟨h.ph (p + 1) (by omega), (h.k2 (p + 1) (by omega)).q (fun i hi => ?_), (h.k1 (p + 1) (by omega)).q (fun i hi => ?_)⟩
      · rw [va_cpy_in (by omega), show (l + 1) * 24 + (p * 24 + i - l * 24) = (p + 1) * 24 + i by omega]
      · rw [va_cpy_in (by omega), show (l + 1) * 24 + (p * 24 + i - l * 24) = (p + 1) * 24 + i by omega]
  · have hk : (k : Int) < tu_u (tu_u (B 0) 4 (B 0 4 - 1)) 9 ((tu_kc (B 7) 0 ((l : Nat) : Int) (B 0 9).toNat : Nat) : Int) 7 := hk
    rw [tu_u_n _ _ (by decide), tu_u_n _ _ (by decide)] at hk
    rw [tu_u_n _ _ (by omega), tu_wr_low (by omega), hout _ (by omega) (by omega)]
    exact h.ba k hk
  · have hk : (k : Int) < tu_u (tu_u (B 0) 4 (B 0 4 - 1)) 9 ((tu_kc (B 7) 0 ((l : Nat) : Int) (B 0 9).toNat : Nat) : Int) 9 := hk
    rw [tu_u_s] at hk
    rw [tu_u_n _ _ (by omega)]
    exact tu_wr_sh _ h104 k (by omega)
