theorem tu_kc_sh {f g : Nat → Int} {o : Nat} {z : Int} : ∀ n, (∀ k, k < n → f (o + k) = g k) → tu_kc f o z n = tu_kc g 0 z n
  | 0, _ => rfl
  | n + 1, h => by
    unfold tu_kc
    rw [tu_kc_sh n (fun k hk => h k (by omega)), h n (by omega), Nat.zero_add]
theorem tu_wr_sh {f g : Nat → Int} {o : Nat} {z : Int} : ∀ n, (∀ k, k < n → f (o + k) = g k) → ∀ j, j < tu_kc g 0 z n → tu_wr f o z n (o + j) = tu_wr g 0 z n j
  | 0, _, j, hj => by simp only [tu_kc] at hj; omega
  | n + 1, h, j, hj => by
    have ih := tu_wr_sh (z := z) n (fun k hk => h k (by omega))
    unfold tu_wr
    unfold tu_kc at hj
    rw [h n (by omega), tu_kc_sh n (fun k hk => h k (by omega)), Nat.zero_add]
    rw [Nat.zero_add] at hj
    by_cases e : g n = z
    · rw [if_pos e, if_pos e]; rw [if_pos e] at hj; exact ih j (by omega)
    · rw [if_neg e, if_neg e]; rw [if_neg e] at hj
      by_cases q : j = tu_kc g 0 z n
      · subst q; rw [tu_u_s, Nat.zero_add, tu_u_s]
      · rw [tu_u_n _ _ (by omega), tu_u_n _ _ (by omega)]; exact ih j (by omega)
theorem tu_wr_low {f : Nat → Int} {o : Nat} {z : Int} {j : Nat} (hj : j < o) : ∀ n, tu_wr f o z n j = f j
  | 0 => rfl
  | n + 1 => by
    unfold tu_wr
    split
    · exact tu_wr_low hj n
    · rw [tu_u_n _ _ (by omega)]; exact tu_wr_low hj n
theorem va_cpy_in {f g : Nat → Int} {a b n j : Nat} (h : b ≤ j ∧ j < b + n) : va_cpy f g a b n j = f (a + (j - b)) := by
  unfold va_cpy
  rw [if_pos (by omega)]
theorem va_cpy_out {f g : Nat → Int} {a b n j : Nat} (h : ¬ (b ≤ j ∧ j < b + n)) : va_cpy f g a b n j = g j := by
  unfold va_cpy
  rw [if_neg (by omega)]
theorem tu_MB.sing' {B : Nat → Nat → Int} {N : Nat → Int} (h : tu_MB B N) (c : (0 ≤ B 0 1 ∧ B 0 1 ≤ 16) ∧ (0 ≤ B 0 4 ∧ B 0 4 ≤ 8) ∧ (0 ≤ B 0 7 ∧ B 0 7 ≤ 40) ∧ (0 ≤ B 0 9 ∧ B 0 9 ≤ 8)) {l : Int} (hc : B 0 7 < 40) : tu_MB (tu_row (tu_row B 0 (tu_u (B 0) 7 (B 0 7 + 1))) 6 (tu_u (B 6) (B 0 7).toNat l)) (tu_u (tu_u N (64 + N 6).toNat l) 6 (N 6 + 1)) := by
  have e6 := h.n6
  have g : ∀ j, j ≠ 6 → j ≠ 64 + (B 0 7).toNat → tu_u (tu_u N (64 + N 6).toNat l) 6 (N 6 + 1) j = N j := fun j a b => by rw [tu_u_n _ _ a, tu_u_n _ _ (by omega)]
  refine ⟨fun i hi => (g i (by omega) (by omega)).trans (h.set i hi), ⟨(g 4 (by omega) (by omega)).trans h.n4, (g 5 (by omega) (by omega)).trans h.n5, ?_, (g 7 (by omega) (by omega)).trans h.n7⟩, fun l hl => ?_, fun p hp => ?_, fun k hk => ?_, fun k hk => ?_⟩
  · show _ = tu_u (B 0) 7 (B 0 7 + 1) 7
    rw [tu_u_s, tu_u_s, e6]
  · have hl : (l : Int) < B 0 1 := hl
    rw [g _ (by omega) (by omega), g _ (by omega) (by omega)]; exact h.2.2.1 l hl
  · have hp : (p : Int) < B 0 4 := hp
    rw [g _ (by omega) (by omega), g _ (by omega) (by omega), g _ (by omega) (by omega)]; exact h.2.2.2.1 p hp
  · have hk : (k : Int) < tu_u (B 0) 7 (B 0 7 + 1) 7 := hk
    rw [tu_u_s] at hk
    show _ = tu_u (B 6) (B 0 7).toNat l k
    by_cases e : k = (B 0 7).toNat
    · subst e; rw [tu_u_s, tu_u_n _ _ (by omega), show (64 + N 6).toNat = 64 + (B 0 7).toNat by omega, tu_u_s]
    · rw [tu_u_n _ _ e, g _ (by omega) (by omega)]; exact h.ba k (by omega)
  · have hk : (k : Int) < B 0 9 := hk
    rw [g _ (by omega) (by omega)]; exact h.tu k hk
def tu_vB (B : Nat → Nat → Int) (a b : Int) (j : Nat) : Nat → Nat → Int := tu_row (tu_row B 0 (tu_u (B 0) 7 (B 0 7 + 2 * (j : Int)))) 6 (tu_vs (B 6) (B 0 7).toNat a b j)
theorem tu_vB_0 {B : Nat → Nat → Int} {a b : Int} : tu_vB B a b 0 = B := by
  funext f k
  unfold tu_vB
  by_cases h6 : f = 6
  · subst h6; rw [tu_row_s]; rfl
  · rw [tu_row_n _ _ h6]
    by_cases h0 : f = 0
    · subst h0; rw [tu_row_s, tu_u_x (by omega)]
    · rw [tu_row_n _ _ h0]
theorem tu_MB.verse {B : Nat → Nat → Int} {S : Nat → Int} {a b : Int} {j : Nat} (h : tu_MB (tu_vB B a b j) S) (hO : tu_BO B) (hj : B 0 7 + 2 * ((j : Int) + 1) ≤ 40) : tu_MB (tu_vB B a b (j + 1)) (tu_u (tu_u (tu_u (tu_u S (64 + S 6).toNat (a + (j : Int))) 6 (S 6 + 1)) (64 + tu_u (tu_u S (64 + S 6).toNat (a + (j : Int))) 6 (S 6 + 1) 6).toNat b) 6 (tu_u (tu_u S (64 + S 6).toNat (a + (j : Int))) 6 (S 6 + 1) 6 + 1)) := by
  have c := hO.1
  have e0 : tu_vB B a b j 0 = tu_u (B 0) 7 (B 0 7 + 2 * (j : Int)) := rfl
  have e7 : tu_vB B a b j 0 7 = B 0 7 + 2 * (j : Int) := by rw [e0, tu_u_s]
  have e1 : tu_vB B a b j 0 1 = B 0 1 := by rw [e0, tu_u_n _ _ (by decide)]
  have e4 : tu_vB B a b j 0 4 = B 0 4 := by rw [e0, tu_u_n _ _ (by decide)]
  have e9 : tu_vB B a b j 0 9 = B 0 9 := by rw [e0, tu_u_n _ _ (by decide)]
  have h1 := h.sing' (l := a + (j : Int)) (by rw [e1, e4, e7, e9]; exact ⟨c.1, c.2.1, ⟨by omega, by omega⟩, c.2.2.2⟩) (by omega)
  generalize hB1 : tu_row (tu_row (tu_vB B a b j) 0 (tu_u (tu_vB B a b j 0) 7 (tu_vB B a b j 0 7 + 1))) 6 (tu_u (tu_vB B a b j 6) (tu_vB B a b j 0 7).toNat (a + (j : Int))) = B1 at h1
  have f0 : B1 0 = tu_u (B 0) 7 (B 0 7 + 2 * (j : Int) + 1) := by
    rw [← hB1]
    show tu_u (tu_u (B 0) 7 (B 0 7 + 2 * (j : Int))) 7 (tu_vB B a b j 0 7 + 1) = _
    rw [tu_uu, e7]
  have f6 : B1 6 = tu_u (tu_vs (B 6) (B 0 7).toNat a b j) ((B 0 7).toNat + 2 * j) (a + (j : Int)) := by
    rw [← hB1]
    show tu_u (tu_vs (B 6) (B 0 7).toNat a b j) (tu_vB B a b j 0 7).toNat (a + (j : Int)) = _
    rw [e7, show (B 0 7 + 2 * (j : Int)).toNat = (B 0 7).toNat + 2 * j by omega]
  have fo : ∀ f, f ≠ 0 → f ≠ 6 → B1 f = B f := fun f a b => by
    rw [← hB1, tu_row_n _ _ b, tu_row_n _ _ a]
    show tu_row (tu_row B 0 _) 6 _ f = _
    rw [tu_row_n _ _ b, tu_row_n _ _ a]
  have g7 : B1 0 7 = B 0 7 + 2 * (j : Int) + 1 := by rw [f0, tu_u_s]
  have h2 := h1.sing' (l := b) (by rw [f0, tu_u_n _ _ (by decide), tu_u_n _ _ (by decide), tu_u_s, tu_u_n _ _ (by decide)]; exact ⟨c.1, c.2.1, ⟨by omega, by omega⟩, c.2.2.2⟩) (by omega)
  have e : tu_row (tu_row B1 0 (tu_u (B1 0) 7 (B1 0 7 + 1))) 6 (tu_u (B1 6) (B1 0 7).toNat b) = tu_vB B a b (j + 1) := by
    funext f k
    unfold tu_vB
    by_cases q6 : f = 6
    · subst q6
      rw [tu_row_s, tu_row_s, f6, g7]
      show _ = tu_u (tu_u (tu_vs (B 6) (B 0 7).toNat a b j) ((B 0 7).toNat + 2 * j) (a + (j : Int))) ((B 0 7).toNat + 2 * j + 1) b k
      rw [show (B 0 7 + 2 * (j : Int) + 1).toNat = (B 0 7).toNat + 2 * j + 1 by omega]
    · rw [tu_row_n _ _ q6, tu_row_n _ _ q6]
      by_cases q0 : f = 0
      · subst q0
        rw [tu_row_s, tu_row_s, f0, tu_uu, tu_u_s, show B 0 7 + 2 * (j : Int) + 1 + 1 = B 0 7 + 2 * ((j + 1 : Nat) : Int) by omega]
      · rw [tu_row_n _ _ q0, tu_row_n _ _ q0, fo f q0 q6]
  rw [e] at h2
  exact h2
/-- two masks of a beat -/
def tu_bm (N : Nat → Int) (l s w : Int) : Nat → Nat → Int
  | 0 => N
  | k + 1 => tu_u (tu_bm N l s w k) (40 + 3 * l + 3 - ((k : Int) + 1)).toNat (tu_or (tu_and (tu_bm N l s w k (40 + 3 * l + 3 - ((k : Int) + 1)).toNat) (tu_xor (tu_shl 1 s) (-1))) (if w = (k : Int) + 1 then tu_shl 1 s else 0))
theorem tu_bm_e {N : Nat → Int} {l s w v : Int} {k : Nat} (h : (w = (k : Int) + 1 ∧ v = tu_shl 1 s) ∨ (w ≠ (k : Int) + 1 ∧ v = 0)) : tu_u (tu_bm N l s w k) (40 + 3 * l + 3 - ((k : Int) + 1)).toNat (tu_or (tu_and (tu_bm N l s w k (40 + 3 * l + 3 - ((k : Int) + 1)).toNat) (tu_xor (tu_shl 1 s) (-1))) v) = tu_bm N l s w (k + 1) := by
  rcases h with ⟨h1, h2⟩ | ⟨h1, h2⟩
  · show _ = tu_u _ _ (tu_or _ (if w = (k : Int) + 1 then tu_shl 1 s else 0))
    rw [if_pos h1, h2]
  · show _ = tu_u _ _ (tu_or _ (if w = (k : Int) + 1 then tu_shl 1 s else 0))
    rw [if_neg h1, h2]
theorem tu_mk.set2 {z : Int} {n b : Nat} {f : Nat → Int} {c w : Int} (h : tu_mk z n (fun i => if f i = c then 1 else 0)) (hb : b < n) (hn : n ≤ 24) : tu_mk (tu_or (tu_and z (tu_xor (tu_shl 1 (b : Int)) (-1))) (if w = c then tu_shl 1 (b : Int) else 0)) n (fun i => if tu_u f b w i = c then 1 else 0) := by
  have t := h.set (w := if w = c then tu_shl 1 (b : Int) else 0) (b := if w = c then 1 else 0) hb (by omega) (fun i hi => by
    by_cases r : w = c
    · rw [if_pos r, if_pos r, tu_bi_one (by omega) hi]
      by_cases q : i = b
      · rw [if_pos q, if_pos ⟨q, rfl⟩]
      · rw [if_neg q, if_neg (fun z => q z.1)]
    · rw [if_neg r, if_neg r, tu_bi_0 hi, if_neg (fun z => absurd z.2 (by decide))])
  refine t.q (fun i hi => ?_)
  by_cases q : i = b
  · subst q; rw [tu_u_s, tu_u_s]
  · rw [tu_u_n _ _ q, tu_u_n _ _ q]
theorem tu_MB.mbeat {B : Nat → Nat → Int} {N : Nat → Int} (h : tu_MB B N) (hO : tu_BO B) {l s w : Int} (l0 : 0 ≤ l) (hl : l < B 0 4) (s0 : 0 ≤ s) (hs : s < B 4 l.toNat) : tu_MB (tu_row B 5 (tu_u (B 5) (l * 24 + s).toNat w)) (tu_bm N l s w 2) := by
  obtain ⟨a, rfl⟩ := Int.eq_ofNat_of_zero_le l0
  obtain ⟨b, rfl⟩ := Int.eq_ofNat_of_zero_le s0
  have e := hO.2.2.2.1 a hl
  have c := hO.1
  rw [show (a : Int).toNat = a from rfl] at hs
  rw [show ((a : Int) * 24 + (b : Int)).toNat = a * 24 + b by omega]
  have i2 : (40 + 3 * (a : Int) + 3 - (((0 : Nat) : Int) + 1)).toNat = 40 + 3 * a + 2 := by omega
  have i1 : (40 + 3 * (a : Int) + 3 - (((1 : Nat) : Int) + 1)).toNat = 40 + 3 * a + 1 := by omega
  have e1 : tu_bm N a b w 1 = tu_u N (40 + 3 * a + 2) (tu_or (tu_and (N (40 + 3 * a + 2)) (tu_xor (tu_shl 1 (b : Int)) (-1))) (if w = 1 then tu_shl 1 (b : Int) else 0)) := by
    show tu_u N (40 + 3 * (a : Int) + 3 - (((0 : Nat) : Int) + 1)).toNat (tu_or (tu_and (N (40 + 3 * (a : Int) + 3 - (((0 : Nat) : Int) + 1)).toNat) _) (if w = ((0 : Nat) : Int) + 1 then tu_shl 1 (b : Int) else 0)) = _
    rw [i2]; rfl
  have e2 : tu_bm N a b w 2 = tu_u (tu_bm N a b w 1) (40 + 3 * a + 1) (tu_or (tu_and (N (40 + 3 * a + 1)) (tu_xor (tu_shl 1 (b : Int)) (-1))) (if w = 2 then tu_shl 1 (b : Int) else 0)) := by
    show tu_u (tu_bm N a b w 1) (40 + 3 * (a : Int) + 3 - (((1 : Nat) : Int) + 1)).toNat (tu_or (tu_and (tu_bm N a b w 1 (40 + 3 * (a : Int) + 3 - (((1 : Nat) : Int) + 1)).toNat) _) (if w = ((1 : Nat) : Int) + 1 then tu_shl 1 (b : Int) else 0)) = _
    rw [i1, e1, tu_u_n _ _ (show 40 + 3 * a + 1 ≠ 40 + 3 * a + 2 by omega)]; rfl
  have g : ∀ j, j ≠ 40 + 3 * a + 1 → j ≠ 40 + 3 * a + 2 → tu_bm N a b w 2 j = N j := fun j p q => by rw [e2, tu_u_n _ _ p, e1, tu_u_n _ _ q]
  have g1 : tu_bm N a b w 2 (40 + 3 * a + 1) = tu_or (tu_and (N (40 + 3 * a + 1)) (tu_xor (tu_shl 1 (b : Int)) (-1))) (if w = 2 then tu_shl 1 (b : Int) else 0) := by rw [e2, tu_u_s]
  have g2 : tu_bm N a b w 2 (40 + 3 * a + 2) = tu_or (tu_and (N (40 + 3 * a + 2)) (tu_xor (tu_shl 1 (b : Int)) (-1))) (if w = 1 then tu_shl 1 (b : Int) else 0) := by rw [e2, tu_u_n _ _ (by omega), e1, tu_u_s]
  refine ⟨fun i hi => (g i (by omega) (by omega)).trans (h.set i hi), ⟨(g 4 (by omega) (by omega)).trans h.n4, (g 5 (by omega) (by omega)).trans h.n5, (g 6 (by omega) (by omega)).trans h.n6, (g 7 (by omega) (by omega)).trans h.n7⟩, fun q hq => ?_, fun p hp => ?_, fun k hk => (g _ (by omega) (by omega)).trans (h.ba k hk), fun k hk => (g _ (by omega) (by omega)).trans (h.tu k hk)⟩
  · have hq : (q : Int) < B 0 1 := hq
    rw [g _ (by omega) (by omega), g _ (by omega) (by omega)]; exact h.2.2.1 q hq
  · have hp : (p : Int) < B 0 4 := hp
    have ep := hO.2.2.2.1 p hp
    refine ⟨(g _ (by omega) (by omega)).trans (h.ph p hp), ?_, ?_⟩
    · show tu_mk _ (B 4 p).toNat (fun i => if tu_u (B 5) (a * 24 + b) w (p * 24 + i) = 2 then 1 else 0)
      by_cases r : p = a
      · subst r
        rw [g1]
        refine ((h.k2 p hp).set2 (b := b) (w := w) (by omega) (by omega)).q (fun i hi => ?_)
        by_cases z : i = b
        · subst z; rw [tu_u_s, tu_u_s]
        · rw [tu_u_n _ _ (by omega), tu_u_n _ _ z]
      · rw [g _ (by omega) (by omega)]
        refine (h.k2 p hp).q (fun i hi => ?_)
        rw [tu_u_n _ _ (by omega)]
    · show tu_mk _ (B 4 p).toNat (fun i => if tu_u (B 5) (a * 24 + b) w (p * 24 + i) = 1 then 1 else 0)
      by_cases r : p = a
      · subst r
        rw [g2]
        refine ((h.k1 p hp).set2 (b := b) (w := w) (by omega) (by omega)).q (fun i hi => ?_)
        by_cases z : i = b
        · subst z; rw [tu_u_s, tu_u_s]
        · rw [tu_u_n _ _ (by omega), tu_u_n _ _ z]
      · rw [g _ (by omega) (by omega)]
        refine (h.k1 p hp).q (fun i hi => ?_)
        rw [tu_u_n _ _ (by omega)]
