/-! what the model's bits say -/
theorem tu_MB.b2 {B : Nat → Nat → Int} {N : Nat → Int} (hO : tu_BO B) (h : tu_MB B N) {p s : Nat} (hp : (p : Int) < B 0 4) (hs : (s : Int) < B 4 p) : tu_bi (N (40 + 3 * p + 1)) s = 1 ↔ B 5 (p * 24 + s) = 2 := by
  have e := hO.2.2.2.1 p hp
  rw [h.k2 p hp s (by omega)]
  by_cases q : B 5 (p * 24 + s) = 2
  · rw [if_pos ⟨by omega, if_pos q⟩]; exact ⟨fun _ => q, fun _ => rfl⟩
  · rw [if_neg (fun z => by have this : (if B 5 (p * 24 + s) = 2 then (1 : Int) else 0) = 1 := z.2; rw [if_neg q] at this; exact absurd this (by decide))]; exact ⟨fun z => absurd z (by decide), fun z => absurd z q⟩
theorem tu_MB.b1 {B : Nat → Nat → Int} {N : Nat → Int} (hO : tu_BO B) (h : tu_MB B N) {p s : Nat} (hp : (p : Int) < B 0 4) (hs : (s : Int) < B 4 p) : tu_bi (N (40 + 3 * p + 2)) s = 1 ↔ B 5 (p * 24 + s) = 1 := by
  have e := hO.2.2.2.1 p hp
  rw [h.k1 p hp s (by omega)]
  by_cases q : B 5 (p * 24 + s) = 1
  · rw [if_pos ⟨by omega, if_pos q⟩]; exact ⟨fun _ => q, fun _ => rfl⟩
  · rw [if_neg (fun z => by have this : (if B 5 (p * 24 + s) = 1 then (1 : Int) else 0) = 1 := z.2; rw [if_neg q] at this; exact absurd this (by decide))]; exact ⟨fun z => absurd z (by decide), fun z => absurd z q⟩
theorem tu_MB.bs {B : Nat → Nat → Int} {N : Nat → Int} (hO : tu_BO B) (h : tu_MB B N) {l s : Int} (l0 : 0 ≤ l) (hl : l < B 0 1) (s0 : 0 ≤ s) (hs : s < B 2 l.toNat) : tu_and (tu_shr (N (8 + 2 * l + 1).toNat) s) 1 = B 3 (l * 16 + s).toNat := by
  obtain ⟨a, rfl⟩ := Int.eq_ofNat_of_zero_le l0
  obtain ⟨b, rfl⟩ := Int.eq_ofNat_of_zero_le s0
  have e := hO.2.1 a hl
  have e2 := hO.2.2.1 a b hl hs
  rw [show (a : Int).toNat = a from rfl] at hs
  rw [tu_bit1 _ (show b < 32 by omega), show (8 + 2 * (a : Int) + 1).toNat = 8 + 2 * a + 1 by omega, h.st a hl b (by omega), show ((a : Int) * 16 + (b : Int)).toNat = a * 16 + b by omega]
  rcases e2 with e2 | e2
  · rw [if_neg (fun z => by have this : B 3 (a * 16 + b) = 1 := z.2; omega), e2]
  · rw [if_pos ⟨by omega, e2⟩, e2]
theorem tu_bits_s {z : Int} {n : Nat} {f : Nat → Int} (h : tu_mk z n f) (hn : n ≤ 24) (hf : ∀ i, i < n → f i = 0 ∨ f i = 1) : tu_sm (fun i9 => tu_bi z i9) 24 = tu_sm f n := by
  rw [h.cnt hn]
  have a : ∀ k, k ≤ n → tu_ti f 1 k = tu_sm f k := by
    intro k
    induction k with
    | zero => intro _; rfl
    | succ k ih =>
      intro hk
      show tu_ti f 1 k + _ = tu_sm f k + f k
      rw [ih (by omega)]
      rcases hf k (by omega) with e | e <;> simp [e]
  exact a n (Nat.le_refl _)
theorem tu_bits_k {z : Int} {n : Nat} {f : Nat → Int} {c : Int} (h : tu_mk z n (fun b => if f b = c then 1 else 0)) (hn : n ≤ 24) : tu_sm (fun i9 => tu_bi z i9) 24 = tu_ti f c n := by
  rw [h.cnt hn]
  have a : ∀ k, tu_ti (fun b => if f b = c then 1 else 0) 1 k = tu_ti f c k := by
    intro k
    induction k with
    | zero => rfl
    | succ k ih =>
      show _ + (if (if f k = c then (1 : Int) else 0) = 1 then (1 : Int) else 0) = tu_ti f c k + _
      rw [ih]
      by_cases q : f k = c
      · rw [if_pos q]; rfl
      · rw [if_neg q]; rfl
  exact a n
/-- strong, weak, silent beats together are all beats -/
theorem tu_kinds {f : Nat → Int} : ∀ n : Nat, (∀ b, b < n → 0 ≤ f b ∧ f b ≤ 2) → tu_ti f 0 n + tu_ti f 1 n + tu_ti f 2 n = (n : Int)
  | 0, _ => rfl
  | n + 1, h => by
    have ih := tu_kinds (f := f) n (fun b hb => h b (by omega))
    have := h n (by omega)
    show (tu_ti f 0 n + _) + (tu_ti f 1 n + _) + (tu_ti f 2 n + _) = _
    split <;> split <;> split <;> omega
/-! changes -/
def tu_mrec (M : tu_M) (S : Nat → Int) : tu_M := tu_row (tu_row (tu_row M 86 (tu_u (M 86) 2 (tu_mw (M 86 2)))) 87 S) 88 (tu_mq (M 88) (M 87) (M 86 2))
theorem tu_MB.mset {B : Nat → Nat → Int} {N : Nat → Int} (h : tu_MB B N) (hO : tu_BO B) {a : Nat} {w : Int} (ha : a < 4) : tu_MB (tu_row B 1 (tu_u (B 1) a w)) (tu_u N a w) := by
  have c := hO.1
  refine ⟨fun i hi => ?_, ⟨(tu_u_n _ _ (by omega)).trans h.n4, (tu_u_n _ _ (by omega)).trans h.n5, (tu_u_n _ _ (by omega)).trans h.n6, (tu_u_n _ _ (by omega)).trans h.n7⟩, fun l hl => ?_, fun p hp => ?_, fun k hk => (tu_u_n _ _ (by omega)).trans (h.ba k hk), fun k hk => (tu_u_n _ _ (by omega)).trans (h.tu k hk)⟩
  · show tu_u N a w i = tu_u (B 1) a w i
    by_cases e : i = a
    · subst e; rw [tu_u_s, tu_u_s]
    · rw [tu_u_n _ _ e, tu_u_n _ _ e]; exact h.set i hi
  · rw [tu_u_n _ _ (by omega), tu_u_n _ _ (by omega)]; exact h.2.2.1 l hl
  · rw [tu_u_n _ _ (by omega), tu_u_n _ _ (by omega), tu_u_n _ _ (by omega)]; exact h.2.2.2.1 p hp
theorem tu_MB.sing {B : Nat → Nat → Int} {N : Nat → Int} (h : tu_MB B N) (hO : tu_BO B) {l : Int} (hc : B 0 7 < 40) : tu_MB (tu_row (tu_row B 0 (tu_u (B 0) 7 (B 0 7 + 1))) 6 (tu_u (B 6) (B 0 7).toNat l)) (tu_u (tu_u N (64 + N 6).toNat l) 6 (N 6 + 1)) := by
  have c := hO.1
  have e6 := h.n6
  have g : ∀ j, j ≠ 6 → j ≠ 64 + (B 0 7).toNat → tu_u (tu_u N (64 + N 6).toNat l) 6 (N 6 + 1) j = N j := fun j a b => by rw [tu_u_n _ _ a, tu_u_n _ _ (by omega)]
  refine ⟨fun i hi => (g i (by omega) (by omega)).trans (h.set i hi), ⟨(g 4 (by omega) (by omega)).trans h.n4, (g 5 (by omega) (by omega)).trans h.n5, ?_, (g 7 (by omega) (by omega)).trans h.n7⟩, fun l hl => ?_, fun p hp => ?_, fun k hk => ?_, fun k hk => ?_⟩
  · show _ = tu_u (B 0) 7 (B 0 7 + 1) 7
    rw [tu_u_s, tu_u_s, e6]
  · have hl : (l : Int) < B 0 1 := hl
    rw [g _ (by omega) (by omega), g _ (by omega) (by omega)]; exact h.2.2.1 l hl
  · have hp : (p : Int) < B 0 4 := hp
    rw [g _ (by omega) (by omega), g _ (by omega) (by omega), g _ (by omega) (by omega)]; exact h.2.2.2.1 p hp
  · have hk : (k : Int) < tu_u (B 0) 7 (B 0 7 + 1) 7 := hk
    rw [tu_u_s] at hk
    show _ = tu_u (B 6) (B 0 7).toNat l k
    by_cases e : k = (B 0 7).toNat
    · subst e; rw [tu_u_s, tu_u_n _ _ (by omega), show (64 + N 6).toNat = 64 + (B 0 7).toNat by omega, tu_u_s]
    · rw [tu_u_n _ _ e, g _ (by omega) (by omega)]; exact h.ba k (by omega)
  · have hk : (k : Int) < B 0 9 := hk
    rw [g _ (by omega) (by omega)]; exact h.tu k hk
theorem tu_MB.play {B : Nat → Nat → Int} {N : Nat → Int} (h : tu_MB B N) (hO : tu_BO B) {l : Int} (hc : B 0 9 < 8) : tu_MB (tu_row (tu_row B 0 (tu_u (B 0) 9 (B 0 9 + 1))) 7 (tu_u (B 7) (B 0 9).toNat l)) (tu_u (tu_u N (104 + N 7).toNat l) 7 (N 7 + 1)) := by
  have c := hO.1
  have e6 := h.n7
  have g : ∀ j, j ≠ 7 → j ≠ 104 + (B 0 9).toNat → tu_u (tu_u N (104 + N 7).toNat l) 7 (N 7 + 1) j = N j := fun j a b => by rw [tu_u_n _ _ a, tu_u_n _ _ (by omega)]
  refine ⟨fun i hi => (g i (by omega) (by omega)).trans (h.set i hi), ⟨(g 4 (by omega) (by omega)).trans h.n4, (g 5 (by omega) (by omega)).trans h.n5, (g 6 (by omega) (by omega)).trans h.n6, ?_⟩, fun l hl => ?_, fun p hp => ?_, fun k hk => ?_, fun k hk => ?_⟩
  · show _ = tu_u (B 0) 9 (B 0 9 + 1) 9
    rw [tu_u_s, tu_u_s, e6]
  · have hl : (l : Int) < B 0 1 := hl
    rw [g _ (by omega) (by omega), g _ (by omega) (by omega)]; exact h.2.2.1 l hl
  · have hp : (p : Int) < B 0 4 := hp
    rw [g _ (by omega) (by omega), g _ (by omega) (by omega), g _ (by omega) (by omega)]; exact h.2.2.2.1 p hp
  · have hk : (k : Int) < B 0 7 := hk
    rw [g _ (by omega) (by omega)]; exact h.ba k hk
  · have hk : (k : Int) < tu_u (B 0) 9 (B 0 9 + 1) 9 := hk
    rw [tu_u_s] at hk
    show _ = tu_u (B 7) (B 0 9).toNat l k
    by_cases e : k = (B 0 9).toNat
    · subst e; rw [tu_u_s, tu_u_n _ _ (by omega), show (104 + N 7).toNat = 104 + (B 0 9).toNat by omega, tu_u_s]
    · rw [tu_u_n _ _ e, g _ (by omega) (by omega)]; exact h.tu k (by omega)
theorem tu_MB.clear7 {B : Nat → Nat → Int} {N : Nat → Int} (h : tu_MB B N) : tu_MB (tu_row B 0 (tu_u (B 0) 7 0)) (tu_u N 6 0) := by
  refine ⟨fun i hi => (tu_u_n _ _ (by omega)).trans (h.set i hi), ⟨(tu_u_n _ _ (by omega)).trans h.n4, (tu_u_n _ _ (by omega)).trans h.n5, (tu_u_s _ _ _).trans (show (0 : Int) = tu_u (B 0) 7 0 7 from (tu_u_s (B 0) 7 0).symm), (tu_u_n _ _ (by omega)).trans h.n7⟩, fun l hl => ?_, fun p hp => ?_, fun k hk => ?_, fun k hk => (tu_u_n _ _ (by omega)).trans (h.tu k hk)⟩
  · rw [tu_u_n _ _ (by omega), tu_u_n _ _ (by omega)]; exact h.2.2.1 l hl
  · rw [tu_u_n _ _ (by omega), tu_u_n _ _ (by omega), tu_u_n _ _ (by omega)]; exact h.2.2.2.1 p hp
  · have hk : (k : Int) < tu_u (B 0) 7 0 7 := hk
    rw [tu_u_s] at hk; omega
theorem tu_MB.clear9 {B : Nat → Nat → Int} {N : Nat → Int} (h : tu_MB B N) : tu_MB (tu_row B 0 (tu_u (B 0) 9 0)) (tu_u N 7 0) := by
  refine ⟨fun i hi => (tu_u_n _ _ (by omega)).trans (h.set i hi), ⟨(tu_u_n _ _ (by omega)).trans h.n4, (tu_u_n _ _ (by omega)).trans h.n5, (tu_u_n _ _ (by omega)).trans h.n6, (tu_u_s _ _ _).trans (show (0 : Int) = tu_u (B 0) 9 0 9 from (tu_u_s (B 0) 9 0).symm)⟩, fun l hl => ?_, fun p hp => ?_, fun k hk => (tu_u_n _ _ (by omega)).trans (h.ba k hk), fun k hk => ?_⟩
  · rw [tu_u_n _ _ (by omega), tu_u_n _ _ (by omega)]; exact h.2.2.1 l hl
  · rw [tu_u_n _ _ (by omega), tu_u_n _ _ (by omega), tu_u_n _ _ (by omega)]; exact h.2.2.2.1 p hp
  · have hk : (k : Int) < tu_u (B 0) 9 0 9 := hk
    rw [tu_u_s] at hk; omega
theorem tu_MB.mstress {B : Nat → Nat → Int} {N : Nat → Int} (h : tu_MB B N) (hO : tu_BO B) {l s w v : Int} (l0 : 0 ≤ l) (hl : l < B 0 1) (s0 : 0 ≤ s) (hs : s < B 2 l.toNat) (hv : (w = 1 ∧ v = tu_shl 1 s) ∨ (w ≠ 1 ∧ v = 0)) :
    tu_MB (tu_row B 3 (tu_u (B 3) (l * 16 + s).toNat w)) (tu_u N (8 + 2 * l + 1).toNat (tu_or (tu_and (N (8 + 2 * l + 1).toNat) (tu_xor (tu_shl 1 s) (-1))) v)) := by
  obtain ⟨a, rfl⟩ := Int.eq_ofNat_of_zero_le l0
  obtain ⟨b, rfl⟩ := Int.eq_ofNat_of_zero_le s0
  have e := hO.2.1 a hl
  have c := hO.1
  rw [show (a : Int).toNat = a from rfl] at hs
  rw [show (8 + 2 * (a : Int) + 1).toNat = 8 + 2 * a + 1 by omega, show ((a : Int) * 16 + (b : Int)).toNat = a * 16 + b by omega]
  have g : ∀ {x : Int} (j : Nat), j ≠ 8 + 2 * a + 1 → tu_u N (8 + 2 * a + 1) x j = N j := fun j q => tu_u_n _ _ q
  refine ⟨fun i hi => (g i (by omega)).trans (h.set i hi), ⟨(g 4 (by omega)).trans h.n4, (g 5 (by omega)).trans h.n5, (g 6 (by omega)).trans h.n6, (g 7 (by omega)).trans h.n7⟩, fun q hq => ?_, fun p hp => ?_, fun k hk => (g _ (by omega)).trans (h.ba k hk), fun k hk => (g _ (by omega)).trans (h.tu k hk)⟩
  · refine ⟨(g _ (by omega)).trans (h.ln q hq), ?_⟩
    have hq : (q : Int) < B 0 1 := hq
    have eq := hO.2.1 q hq
    show tu_mk _ (B 2 q).toNat (fun s => tu_u (B 3) (a * 16 + b) w (q * 16 + s))
    by_cases r : q = a
    · subst r
      rw [tu_u_s]
      have t := (h.st q hq).set (s := b) (w := v) (b := w) (by omega) (by omega) (fun i hi => by
        rcases hv with ⟨r1, r2⟩ | ⟨r1, r2⟩
        · rw [r2, tu_bi_one (by omega) hi]
          by_cases q : i = b
          · rw [if_pos q, if_pos ⟨q, r1⟩]
          · rw [if_neg q, if_neg (fun z => q z.1)]
        · rw [r2, tu_bi_0 hi, if_neg (fun z => r1 z.2)])
      refine t.q (fun i hi => ?_)
      by_cases z : i = b
      · subst z; rw [tu_u_s, tu_u_s]
      · rw [tu_u_n _ _ (by omega), tu_u_n _ _ z]
    · rw [g _ (by omega)]
      refine (h.st q hq).q (fun i hi => ?_)
      rw [tu_u_n _ _ (by omega)]
  · rw [g _ (by have : (p : Int) < B 0 4 := hp; omega), g _ (by have : (p : Int) < B 0 4 := hp; omega), g _ (by have : (p : Int) < B 0 4 := hp; omega)]; exact h.2.2.2.1 p hp
