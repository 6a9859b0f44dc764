/-! a part of a text, written sign by sign and at once -/
def tu_lj (W V : Nat → Nat → Int) (f : Nat → Int) (k0 j : Nat) : Prop :=
  (∀ i, i ≠ 1 → V 0 i = W 0 i) ∧ V 0 1 = W 0 1 + 1 ∧ (∀ l, l ≠ (W 0 1).toNat → V 2 l = W 2 l) ∧ V 2 (W 0 1).toNat = (j : Int) ∧ (∀ p, (p < (W 0 1).toNat * 16 ∨ (W 0 1).toNat * 16 + 16 ≤ p) → V 3 p = W 3 p) ∧ (∀ s, s < j → V 3 ((W 0 1).toNat * 16 + s) = if f (k0 + s) = 88 then 1 else 0) ∧ (∀ r, r ≠ 0 → r ≠ 2 → r ≠ 3 → V r = W r)
theorem tu_lj_1 {W : Nat → Nat → Int} {f : Nat → Int} {k0 : Nat} : tu_lj W (tu_qb W (f k0)) f k0 1 := by
  have r0 : tu_qb W (f k0) 0 = tu_u (W 0) 1 (W 0 1 + 1) := rfl
  have r2 : tu_qb W (f k0) 2 = tu_u (tu_u (W 2) (W 0 1).toNat 0) (W 0 1).toNat (((0 : Nat) : Int) + 1) := rfl
  have r3 : tu_qb W (f k0) 3 = tu_u (W 3) ((W 0 1).toNat * 16 + 0) (if f k0 = 88 then 1 else 0) := rfl
  refine ⟨fun i hi => by rw [r0, tu_u_n _ _ hi], by rw [r0, tu_u_s], fun l hl => by rw [r2, tu_u_n _ _ hl, tu_u_n _ _ hl], by rw [r2, tu_u_s]; rfl, fun p hp => by rw [r3, tu_u_n _ _ (by omega)], fun s hs => ?_, fun r a b c => ?_⟩
  · rw [show s = 0 by omega, r3, tu_u_s]; rfl
  · show tu_row (tu_row (tu_row W 0 _) 2 _) 3 _ r = W r
    rw [tu_row_n _ _ c, tu_row_n _ _ b, tu_row_n _ _ a]
theorem tu_lj.step {W V : Nat → Nat → Int} {f : Nat → Int} {k0 j : Nat} (h : tu_lj W V f k0 j) (hj : j < 16) (hW : 0 ≤ W 0 1) : tu_lj W (tu_qc V (j : Int) (f (k0 + j))) f k0 (j + 1) := by
  obtain ⟨h1, h2, h3, h4, h5, h6, h7⟩ := h
  have el : (V 0 1 - 1).toNat = (W 0 1).toNat := by omega
  have r0 : tu_qc V (j : Int) (f (k0 + j)) 0 = V 0 := rfl
  have r2 : tu_qc V (j : Int) (f (k0 + j)) 2 = tu_u (V 2) (W 0 1).toNat ((((j : Int).toNat : Nat) : Int) + 1) := by
    show tu_u (V 2) (V 0 1 - 1).toNat _ = _
    rw [el]
  have r3 : tu_qc V (j : Int) (f (k0 + j)) 3 = tu_u (V 3) ((W 0 1).toNat * 16 + j) (if f (k0 + j) = 88 then 1 else 0) := by
    show tu_u (V 3) ((V 0 1 - 1).toNat * 16 + (j : Int).toNat) _ = _
    rw [el]; rfl
  refine ⟨fun i hi => by rw [r0]; exact h1 i hi, by rw [r0]; exact h2, fun l hl => by rw [r2, tu_u_n _ _ hl]; exact h3 l hl, by rw [r2, tu_u_s]; omega, fun p hp => by rw [r3, tu_u_n _ _ (by omega)]; exact h5 p hp, fun s hs => ?_, fun r a b c => ?_⟩
  · rw [r3]
    by_cases q : s = j
    · subst q; rw [tu_u_s]
    · rw [tu_u_n _ _ (by omega)]; exact h6 s (by omega)
  · show tu_row (tu_row V 2 _) 3 _ r = W r
    rw [tu_row_n _ _ c, tu_row_n _ _ b]; exact h7 r a b c
theorem tu_lj.MB {W V : Nat → Nat → Int} {f N S : Nat → Int} {k0 j : Nat} (h : tu_lj W V f k0 j) (hM : tu_MB W N) (c : (0 ≤ W 0 1 ∧ W 0 1 < 16) ∧ (0 ≤ W 0 4 ∧ W 0 4 ≤ 8) ∧ (0 ≤ W 0 7 ∧ W 0 7 ≤ 40) ∧ (0 ≤ W 0 9 ∧ W 0 9 ≤ 8)) (hL : ∀ l : Nat, (l : Int) < W 0 1 → W 2 l ≤ 16) (s0 : S (8 + 2 * (W 0 1).toNat) = (j : Int)) (s1 : tu_mk (S (8 + 2 * (W 0 1).toNat + 1)) j (fun s => if f (k0 + s) = 88 then 1 else 0)) (so : ∀ p, p ≠ 8 + 2 * (W 0 1).toNat → p ≠ 8 + 2 * (W 0 1).toNat + 1 → S p = N p) : tu_MB V (tu_u S 4 (S 4 + 1)) := by
  obtain ⟨h1, h2, h3, h4, h5, h6, h7⟩ := h
  have e4 := hM.n4
  have g : ∀ p, p ≠ 4 → p ≠ 8 + 2 * (W 0 1).toNat → p ≠ 8 + 2 * (W 0 1).toNat + 1 → tu_u S 4 (S 4 + 1) p = N p := fun p a b d => by rw [tu_u_n _ _ a, so p b d]
  refine ⟨fun i hi => by rw [g i (by omega) (by omega) (by omega), h7 1 (by decide) (by decide) (by decide)]; exact hM.set i hi, ⟨?_, ?_, ?_, ?_⟩, fun l hl => ?_, fun p hp => ?_, fun k hk => ?_, fun k hk => ?_⟩
  · rw [tu_u_s, so 4 (by omega) (by omega), h2, e4]
  · rw [g 5 (by omega) (by omega) (by omega), h1 4 (by decide)]; exact hM.n5
  · rw [g 6 (by omega) (by omega) (by omega), h1 7 (by decide)]; exact hM.n6
  · rw [g 7 (by omega) (by omega) (by omega), h1 9 (by decide)]; exact hM.n7
  · by_cases q : l = (W 0 1).toNat
    · subst q
      rw [tu_u_n _ _ (by omega), tu_u_n _ _ (by omega), h4]
      exact ⟨s0, s1.q (fun i hi => by rw [h6 i hi])⟩
    · rw [g _ (by omega) (by omega) (by omega), g _ (by omega) (by omega) (by omega), h3 l q]
      refine ⟨hM.ln l (by omega), (hM.st l (by omega)).q (fun i hi => ?_)⟩
      have := hL l (by omega)
      rw [h5 _ (by omega)]
  · rw [h1 4 (by decide)] at hp
    rw [g _ (by omega) (by omega) (by omega), g _ (by omega) (by omega) (by omega), g _ (by omega) (by omega) (by omega), h7 4 (by decide) (by decide) (by decide), h7 5 (by decide) (by decide) (by decide)]
    exact hM.2.2.2.1 p hp
  · rw [h1 7 (by decide)] at hk
    rw [g _ (by omega) (by omega) (by omega), h7 6 (by decide) (by decide) (by decide)]; exact hM.ba k hk
  · rw [h1 9 (by decide)] at hk
    rw [g _ (by omega) (by omega) (by omega), h7 7 (by decide) (by decide) (by decide)]; exact hM.tu k hk
def tu_kz (c : Int) : Int := if c = 115 then 2 else if c = 119 then 1 else 0
def tu_pj (W V : Nat → Nat → Int) (f : Nat → Int) (k0 j : Nat) : Prop :=
  (∀ i, i ≠ 4 → V 0 i = W 0 i) ∧ V 0 4 = W 0 4 + 1 ∧ (∀ p, p ≠ (W 0 4).toNat → V 4 p = W 4 p) ∧ V 4 (W 0 4).toNat = (j : Int) ∧ (∀ p, (p < (W 0 4).toNat * 24 ∨ (W 0 4).toNat * 24 + 24 ≤ p) → V 5 p = W 5 p) ∧ (∀ s, s < j → V 5 ((W 0 4).toNat * 24 + s) = tu_kz (f (k0 + 1 + s))) ∧ (∀ r, r ≠ 0 → r ≠ 4 → r ≠ 5 → V r = W r)
theorem tu_pj_0 {W : Nat → Nat → Int} {f : Nat → Int} {k0 : Nat} : tu_pj W (tu_qa W) f k0 0 := by
  have r0 : tu_qa W 0 = tu_u (W 0) 4 (W 0 4 + 1) := rfl
  have r4 : tu_qa W 4 = tu_u (W 4) (W 0 4).toNat 0 := rfl
  refine ⟨fun i hi => by rw [r0, tu_u_n _ _ hi], by rw [r0, tu_u_s], fun l hl => by rw [r4, tu_u_n _ _ hl], by rw [r4, tu_u_s]; rfl, fun p hp => rfl, fun s hs => absurd hs (Nat.not_lt_zero _), fun r a b c => ?_⟩
  show tu_row (tu_row W 0 _) 4 _ r = W r
  rw [tu_row_n _ _ b, tu_row_n _ _ a]
theorem tu_pj.step {W V : Nat → Nat → Int} {f : Nat → Int} {k0 j : Nat} (h : tu_pj W V f k0 j) (hj : j < 24) (hW : 0 ≤ W 0 4) : tu_pj W (tu_qd V (j : Int) (f (k0 + 1 + j))) f k0 (j + 1) := by
  obtain ⟨h1, h2, h3, h4, h5, h6, h7⟩ := h
  have el : (V 0 4 - 1).toNat = (W 0 4).toNat := by omega
  have r0 : tu_qd V (j : Int) (f (k0 + 1 + j)) 0 = V 0 := rfl
  have r4 : tu_qd V (j : Int) (f (k0 + 1 + j)) 4 = tu_u (V 4) (W 0 4).toNat ((((j : Int).toNat : Nat) : Int) + 1) := by
    show tu_u (V 4) (V 0 4 - 1).toNat _ = _
    rw [el]
  have r5 : tu_qd V (j : Int) (f (k0 + 1 + j)) 5 = tu_u (V 5) ((W 0 4).toNat * 24 + j) (tu_kz (f (k0 + 1 + j))) := by
    show tu_u (V 5) ((V 0 4 - 1).toNat * 24 + (j : Int).toNat) _ = _
    rw [el]; rfl
  refine ⟨fun i hi => by rw [r0]; exact h1 i hi, by rw [r0]; exact h2, fun l hl => by rw [r4, tu_u_n _ _ hl]; exact h3 l hl, by rw [r4, tu_u_s]; omega, fun p hp => by rw [r5, tu_u_n _ _ (by omega)]; exact h5 p hp, fun s hs => ?_, fun r a b c => ?_⟩
  · rw [r5]
    by_cases q : s = j
    · subst q; rw [tu_u_s]
    · rw [tu_u_n _ _ (by omega)]; exact h6 s (by omega)
  · show tu_row (tu_row V 4 _) 5 _ r = W r
    rw [tu_row_n _ _ c, tu_row_n _ _ b]; exact h7 r a b c
theorem tu_pj.MB {W V : Nat → Nat → Int} {f N S : Nat → Int} {k0 j : Nat} (h : tu_pj W V f k0 j) (hM : tu_MB W N) (c : (0 ≤ W 0 1 ∧ W 0 1 ≤ 16) ∧ (0 ≤ W 0 4 ∧ W 0 4 < 8) ∧ (0 ≤ W 0 7 ∧ W 0 7 ≤ 40) ∧ (0 ≤ W 0 9 ∧ W 0 9 ≤ 8)) (hL : ∀ p : Nat, (p : Int) < W 0 4 → W 4 p ≤ 24) (s0 : S (40 + 3 * (W 0 4).toNat) = (j : Int)) (s1 : tu_mk (S (40 + 3 * (W 0 4).toNat + 1)) j (fun s => if f (k0 + 1 + s) = 115 then 1 else 0)) (s2 : tu_mk (S (40 + 3 * (W 0 4).toNat + 2)) j (fun s => if f (k0 + 1 + s) = 119 then 1 else 0)) (so : ∀ p, p ≠ 40 + 3 * (W 0 4).toNat → p ≠ 40 + 3 * (W 0 4).toNat + 1 → p ≠ 40 + 3 * (W 0 4).toNat + 2 → S p = N p) : tu_MB V (tu_u S 5 (S 5 + 1)) := by
  obtain ⟨h1, h2, h3, h4, h5, h6, h7⟩ := h
  have e5 := hM.n5
  have g : ∀ p, p ≠ 5 → p ≠ 40 + 3 * (W 0 4).toNat → p ≠ 40 + 3 * (W 0 4).toNat + 1 → p ≠ 40 + 3 * (W 0 4).toNat + 2 → tu_u S 5 (S 5 + 1) p = N p := fun p a b d e => by rw [tu_u_n _ _ a, so p b d e]
  have hz2 : ∀ c : Int, tu_kz c = 2 ↔ c = 115 := fun c => by unfold tu_kz; split <;> (try split) <;> omega
  have hz1 : ∀ c : Int, tu_kz c = 1 ↔ c = 119 := fun c => by unfold tu_kz; split <;> (try split) <;> omega
  refine ⟨fun i hi => by rw [g i (by omega) (by omega) (by omega) (by omega), h7 1 (by decide) (by decide) (by decide)]; exact hM.set i hi, ⟨?_, ?_, ?_, ?_⟩, fun l hl => ?_, fun p hp => ?_, fun k hk => ?_, fun k hk => ?_⟩
  · rw [g 4 (by omega) (by omega) (by omega) (by omega), h1 1 (by decide)]; exact hM.n4
  · rw [tu_u_s, so 5 (by omega) (by omega) (by omega), h2, e5]
  · rw [g 6 (by omega) (by omega) (by omega) (by omega), h1 7 (by decide)]; exact hM.n6
  · rw [g 7 (by omega) (by omega) (by omega) (by omega), h1 9 (by decide)]; exact hM.n7
  · rw [h1 1 (by decide)] at hl
    rw [g _ (by omega) (by omega) (by omega) (by omega), g _ (by omega) (by omega) (by omega) (by omega), h7 2 (by decide) (by decide) (by decide), h7 3 (by decide) (by decide) (by decide)]
    exact hM.2.2.1 l hl
  · by_cases q : p = (W 0 4).toNat
    · subst q
      rw [tu_u_n _ _ (by omega), tu_u_n _ _ (by omega), tu_u_n _ _ (by omega), h4]
      refine ⟨s0, s1.q (fun i hi => ?_), s2.q (fun i hi => ?_)⟩
      · rw [h6 i hi]
        by_cases r : f (k0 + 1 + i) = 115
        · rw [if_pos r, if_pos ((hz2 _).mpr r)]
        · rw [if_neg r, if_neg (fun z => r ((hz2 _).mp z))]
      · rw [h6 i hi]
        by_cases r : f (k0 + 1 + i) = 119
        · rw [if_pos r, if_pos ((hz1 _).mpr r)]
        · rw [if_neg r, if_neg (fun z => r ((hz1 _).mp z))]
    · rw [g _ (by omega) (by omega) (by omega) (by omega), g _ (by omega) (by omega) (by omega) (by omega), g _ (by omega) (by omega) (by omega) (by omega), h3 p q]
      have := hL p (by omega)
      refine ⟨hM.ph p (by omega), (hM.k2 p (by omega)).q (fun i hi => ?_), (hM.k1 p (by omega)).q (fun i hi => ?_)⟩
      · rw [h5 _ (by omega)]
      · rw [h5 _ (by omega)]
  · rw [h1 7 (by decide)] at hk
    rw [g _ (by omega) (by omega) (by omega) (by omega), h7 6 (by decide) (by decide) (by decide)]; exact hM.ba k hk
  · rw [h1 9 (by decide)] at hk
    rw [g _ (by omega) (by omega) (by omega) (by omega), h7 7 (by decide) (by decide) (by decide)]; exact hM.tu k hk
