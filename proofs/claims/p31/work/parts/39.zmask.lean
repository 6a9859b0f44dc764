/-! what the law's numbers say as bits; what a syllable may get -/
def tz_k2 (k : Nat → Int) : Nat → Int := fun b => if k b = 2 then 1 else 0
def tz_k1 (k : Nat → Int) : Nat → Int := fun b => if k b = 1 then 1 else 0
theorem tz_bi {z : Int} {n i : Nat} {f : Nat → Int} (h : tu_mk z n f) (hi : i < n) (hn : n ≤ 32) : tu_bi z i = if f i = 1 then 1 else 0 := by
  rw [h i (by omega)]
  by_cases q : f i = 1
  · rw [if_pos ⟨hi, q⟩, if_pos q]
  · rw [if_neg (fun z => q z.2), if_neg q]
theorem tz_bi2 {z : Int} {m b : Nat} {k : Nat → Int} (h : tu_mk z m (tz_k2 k)) (hb : b < m) (hm : m ≤ 32) : tu_bi z b = if k b = 2 then 1 else 0 := by
  rw [tz_bi h hb hm]
  unfold tz_k2
  by_cases q : k b = 2
  · rw [if_pos q, if_pos rfl]
  · rw [if_neg q, if_neg (by decide)]
theorem tz_bi1 {z : Int} {m b : Nat} {k : Nat → Int} (h : tu_mk z m (tz_k1 k)) (hb : b < m) (hm : m ≤ 32) : tu_bi z b = if k b = 1 then 1 else 0 := by
  rw [tz_bi h hb hm]
  unfold tz_k1
  by_cases q : k b = 1
  · rw [if_pos q, if_pos rfl]
  · rw [if_neg q, if_neg (by decide)]
theorem tz_snd {s v : Int} {m b : Nat} {k : Nat → Int} (hs : tu_mk s m (tz_k2 k)) (hv : tu_mk v m (tz_k1 k)) (hb : b < m) (hm : m ≤ 32) (hk : 0 ≤ k b ∧ k b ≤ 2) : tu_bi (tu_or s v) b = if k b = 0 then 0 else 1 := by
  rw [tu_bi_or, tz_bi2 hs hb hm, tz_bi1 hv hb hm]
  rcases (show k b = 0 ∨ k b = 1 ∨ k b = 2 by omega) with q | q | q <;> rw [q] <;> decide
theorem tz_hu {S s : Int} {n m i b : Nat} {a k : Nat → Int} (ha : tu_mk S n a) (hs : tu_mk s m (tz_k2 k)) (hi : i < n) (hn : n ≤ 32) (hb : b < m) (hm : m ≤ 32) : tu_bi S i = tu_bi s b ↔ (a i = 1 ↔ k b = 2) := by
  rw [tz_bi ha hi hn, tz_bi2 hs hb hm]
  by_cases q : a i = 1 <;> by_cases r : k b = 2 <;> simp [q, r]
/-- beats side by side without a rest -/
theorem tz_rd_k {k : Nat → Int} {m : Nat} : ∀ (d : Nat), d ≤ m → ∀ h : Nat, (h : Int) ≤ tu_rd k m d ↔ h ≤ d ∧ ∀ j, j < h → k (m - d + j) ≠ 0
  | 0, _, h => by
    show (h : Int) ≤ 0 ↔ _
    exact ⟨fun q => ⟨by omega, fun j hj => by omega⟩, fun q => by omega⟩
  | d + 1, hd, h => by
    have ih := tz_rd_k (k := k) (m := m) d (by omega)
    by_cases k0 : k (m - (d + 1)) = 0
    · have e : tu_rd k m (d + 1) = 0 := if_pos k0
      rw [e]
      refine ⟨fun q => ⟨by omega, fun j hj => by omega⟩, fun q => ?_⟩
      rcases Nat.eq_zero_or_pos h with z | z
      · omega
      · exact absurd k0 (by have := q.2 0 z; rwa [Nat.add_zero] at this)
    · have e : tu_rd k m (d + 1) = tu_rd k m d + 1 := if_neg k0
      rw [e]
      rcases Nat.eq_zero_or_pos h with z | z
      · subst z
        have i0 := (ih 0).mpr ⟨by omega, fun j hj => by omega⟩
        exact ⟨fun _ => ⟨by omega, fun j hj => by omega⟩, fun _ => by omega⟩
      · have i1 := ih (h - 1)
        refine ⟨fun q => ?_, fun q => ?_⟩
        · obtain ⟨g1, g2⟩ := i1.mp (by omega)
          refine ⟨by omega, fun j hj => ?_⟩
          rcases Nat.eq_zero_or_pos j with y | y
          · subst y; rwa [Nat.add_zero]
          · have := g2 (j - 1) (by omega)
            rwa [show m - d + (j - 1) = m - (d + 1) + j by omega] at this
        · have := i1.mpr ⟨by omega, fun j hj => by
            have := q.2 (j + 1) (by omega)
            rwa [show m - (d + 1) + (j + 1) = m - d + j by omega] at this⟩
          omega
theorem tz_qm {br : Int} {k : Nat → Int} {m b h : Nat} (hb : b < m) (h1 : 1 ≤ h) : h ≤ tu_qm br k m b ↔ (h : Int) ≤ br ∧ b + h ≤ m ∧ ∀ j, j < h → k (b + j) ≠ 0 := by
  have g := tz_rd_k (k := k) (m := m) (m - b) (by omega) h
  rw [show m - (m - b) = b by omega] at g
  unfold tu_qm
  refine ⟨fun q => ?_, fun q => ?_⟩
  · obtain ⟨g1, g2⟩ := g.mp (by omega)
    exact ⟨by omega, by omega, g2⟩
  · have := g.mpr ⟨by omega, q.2.2⟩
    omega
/-- what is free of a way is not below 0 -/
def tz_sd (k : Nat → Int) (b : Nat) : Int := tu_sm (fun q => if k q = 0 then 0 else 1) b
theorem tz_sd_run (k : Nat → Int) (b : Nat) : ∀ h : Nat, (∀ j, j < h → k (b + j) ≠ 0) → tz_sd k (b + h) = tz_sd k b + (h : Int)
  | 0, _ => (Int.add_zero _).symm
  | h + 1, e => by
    have ih := tz_sd_run k b h (fun j hj => e j (by omega))
    show tz_sd k (b + h) + (if k (b + h) = 0 then 0 else 1) = _
    rw [ih, if_neg (e h (Nat.lt_succ_self h))]
    omega
theorem tz_sd_mono (k : Nat → Int) (b : Nat) : ∀ d : Nat, tz_sd k b ≤ tz_sd k (b + d) ∧ tz_sd k (b + d) ≤ tz_sd k b + d
  | 0 => ⟨Int.le_refl _, Int.le_of_eq (Int.add_zero _).symm⟩
  | d + 1 => by
    have ih := tz_sd_mono k b d
    have e : tz_sd k (b + (d + 1)) = tz_sd k (b + d) + (if k (b + d) = 0 then 0 else 1) := rfl
    rw [e]
    split <;> omega
theorem tz_fr_nn {k : Nat → Int} {br : Int} {n m : Nat} {G : Nat → Nat} (h1 : ∀ t, t < n → G t < 8 * m ∧ G t % 8 + 1 ≤ tu_qm br k m (G t / 8)) (h2 : ∀ t, t + 1 < n → 8 * (G t / 8 + (G t % 8 + 1)) ≤ G (t + 1)) : 0 ≤ tz_fr k n m G ∧ tz_fr k n m G ≤ m := by
  have hs : 0 ≤ tu_sm (fun t => ((G t % 8 + 1 : Nat) : Int)) n := tz_sm_nn (fun t _ => Int.natCast_nonneg _)
  have hm := tz_sd_mono k 0 m
  have h00 : tz_sd k 0 = 0 := rfl
  rw [Nat.zero_add] at hm
  have key : ∀ t, t < n → tu_sm (fun t => ((G t % 8 + 1 : Nat) : Int)) (t + 1) ≤ tz_sd k (G t / 8 + (G t % 8 + 1)) ∧ G t / 8 + (G t % 8 + 1) ≤ m := by
    intro t
    induction t with
    | zero =>
      intro ht
      have g := h1 0 ht
      have q := (tz_qm (br := br) (k := k) (m := m) (b := G 0 / 8) (h := G 0 % 8 + 1) (by omega) (by omega)).mp g.2
      rw [tz_sd_run k _ _ q.2.2]
      have := tz_sd_mono k 0 (G 0 / 8)
      rw [Nat.zero_add] at this
      refine ⟨?_, q.2.1⟩
      show 0 + ((G 0 % 8 + 1 : Nat) : Int) ≤ _
      omega
    | succ t ih =>
      intro ht
      have ih := ih (by omega)
      have g := h1 (t + 1) ht
      have g2 := h2 t ht
      have q := (tz_qm (br := br) (k := k) (m := m) (b := G (t + 1) / 8) (h := G (t + 1) % 8 + 1) (by omega) (by omega)).mp g.2
      rw [tz_sd_run k _ _ q.2.2]
      have := tz_sd_mono k (G t / 8 + (G t % 8 + 1)) (G (t + 1) / 8 - (G t / 8 + (G t % 8 + 1)))
      rw [show G t / 8 + (G t % 8 + 1) + (G (t + 1) / 8 - (G t / 8 + (G t % 8 + 1))) = G (t + 1) / 8 by omega] at this
      refine ⟨?_, q.2.1⟩
      show tu_sm (fun t => ((G t % 8 + 1 : Nat) : Int)) (t + 1) + ((G (t + 1) % 8 + 1 : Nat) : Int) ≤ _
      omega
  unfold tz_fr
  show 0 ≤ tz_sd k m - _ ∧ tz_sd k m - _ ≤ _
  refine ⟨?_, by omega⟩
  rcases Nat.eq_zero_or_pos n with z | z
  · subst z
    show 0 ≤ tz_sd k m - 0
    omega
  · have g := key (n - 1) (by omega)
    have := tz_sd_mono k (G (n - 1) / 8 + (G (n - 1) % 8 + 1)) (m - (G (n - 1) / 8 + (G (n - 1) % 8 + 1)))
    rw [show G (n - 1) / 8 + (G (n - 1) % 8 + 1) + (m - (G (n - 1) / 8 + (G (n - 1) % 8 + 1))) = m by omega] at this
    rw [show n - 1 + 1 = n by omega] at g
    omega
theorem tz_ct_rg {L a k : Nat → Int} {n m : Nat} {G : Nat → Nat} (hL1 : 0 ≤ L 1 ∧ L 1 ≤ 9) (hL2 : 0 ≤ L 2 ∧ L 2 ≤ 9) (hL3 : 0 ≤ L 3 ∧ L 3 ≤ 20) (hn : n ≤ 5) (hm : m ≤ 9) (hf : 0 ≤ tz_fr k n m G ∧ tz_fr k n m G ≤ m) : 0 ≤ tz_ct L a k n m G ∧ tz_ct L a k n m G < 1000000 ∧ (0 ≤ tz_hs a k n G ∧ tz_hs a k n G ≤ 5) := by
  have a1 : 0 ≤ tz_hs a k n G ∧ tz_hs a k n G ≤ 1 * (n : Int) := tu_sm_bd (fun q _ => by split <;> omega)
  have a2 : 0 ≤ tz_dr L n G ∧ tz_dr L n G ≤ 63 * (n : Int) := tu_sm_bd (fun q _ => by
    have h7 : ((G q % 8 : Nat) : Int) ≤ 7 := by omega
    have h0 : 0 ≤ ((G q % 8 : Nat) : Int) := Int.natCast_nonneg _
    refine ⟨Int.mul_nonneg hL1.1 h0, ?_⟩
    have := Int.mul_le_mul hL1.2 h7 h0 (show (0 : Int) ≤ 9 by decide)
    exact this)
  have a3 : 0 ≤ L 2 * tz_fr k n m G ∧ L 2 * tz_fr k n m G ≤ 9 * 9 := ⟨Int.mul_nonneg hL2.1 hf.1, Int.mul_le_mul hL2.2 (by omega) hf.1 (by decide)⟩
  have a4 : 0 ≤ L 3 * tz_hs a k n G ∧ L 3 * tz_hs a k n G ≤ 20 * 5 := ⟨Int.mul_nonneg hL3.1 a1.1, Int.mul_le_mul hL3.2 (by omega) a1.1 (by decide)⟩
  unfold tz_ct
  generalize L 2 * tz_fr k n m G = u1 at *
  generalize L 3 * tz_hs a k n G = u2 at *
  omega
/-! the sum of all ways with one more -/
theorem tz_A_gt {L a k : Nat → Int} {n m : Nat} {A B : tz_Q} {w w' : Nat → Int} (h : tz_A L a k n m A w) (hB : B.2.1 = 1) (h1 : w' 1 = w 1 + 1) (h0 : ∀ t, t < 16 → t ≠ 1 → w' t = w t) (hn : n ≤ 8) (hw : 0 ≤ w 0 ∧ w 0 < B.1) : tz_A L a k n m (tz_ad A B) w' := by
  obtain ⟨g1, g2, g3⟩ := h
  rcases g3 with ⟨q1, q2, -⟩ | ⟨q0, q1, q2, q3, q4, q5⟩
  · omega
  · rw [tz_gt (by omega)]
    refine ⟨by show w' 1 = A.2.1 + B.2.1; omega, by rw [h0 2 (by decide) (by decide)]; exact g2, Or.inr ⟨q0, by rw [h0 0 (by decide) (by decide)]; exact q1, by rw [h0 3 (by decide) (by decide)]; exact q2, by rw [h0 4 (by decide) (by decide)]; exact q3, fun t ht => by rw [h0 (8 + t) (by omega) (by omega)]; exact q4 t ht, q5⟩⟩
theorem tz_A_eq {L a k : Nat → Int} {n m : Nat} {A B : tz_Q} {w w' : Nat → Int} (h : tz_A L a k n m A w) (hB : B.2.1 = 1 ∧ B.2.2.1 = 1) (h1 : w' 1 = w 1 + 1) (h2 : w' 2 = w 2 + 1) (h0 : ∀ t, t < 16 → t ≠ 1 → t ≠ 2 → w' t = w t) (hn : n ≤ 8) (hw : 0 ≤ w 0 ∧ w 0 = B.1) : tz_A L a k n m (tz_ad A B) w' := by
  obtain ⟨g1, g2, g3⟩ := h
  rcases g3 with ⟨q1, q2, -⟩ | ⟨q0, q1, q2, q3, q4, q5⟩
  · omega
  · rw [tz_eq (by omega)]
    refine ⟨by show w' 1 = A.2.1 + B.2.1; omega, by show w' 2 = A.2.2.1 + B.2.2.1; omega, Or.inr ⟨q0, by rw [h0 0 (by decide) (by decide) (by decide)]; exact q1, by rw [h0 3 (by decide) (by decide) (by decide)]; exact q2, by rw [h0 4 (by decide) (by decide) (by decide)]; exact q3, fun t ht => by rw [h0 (8 + t) (by omega) (by omega) (by omega)]; exact q4 t ht, q5⟩⟩
theorem tz_A_lt {L a k : Nat → Int} {n m : Nat} {A : tz_Q} {w w' : Nat → Int} {G : Nat → Nat} (h : tz_A L a k n m A w) (hc : 0 ≤ tz_ct L a k n m G ∧ tz_ct L a k n m G < 1000000) (h1 : w' 1 = w 1 + 1) (h2 : w' 2 = 1) (h0 : w' 0 = tz_ct L a k n m G) (h3 : w' 3 = tz_fr k n m G) (h4 : w' 4 = tz_hs a k n G) (h8 : ∀ t, t < n → w' (8 + t) = ((G t : Nat) : Int)) (hw : w 0 < 0 ∨ tz_ct L a k n m G < w 0) : tz_A L a k n m (tz_ad A (tz_ct L a k n m G, 1, 1, G)) w' := by
  obtain ⟨g1, g2, g3⟩ := h
  have hlt : ((tz_ct L a k n m G, 1, 1, G) : tz_Q).1 < A.1 := by
    show tz_ct L a k n m G < A.1
    rcases g3 with ⟨q1, q2, -⟩ | ⟨q0, q1, -⟩ <;> omega
  rw [tz_lt hlt]
  exact ⟨by show w' 1 = A.2.1 + 1; omega, h2, Or.inr ⟨hc, h0, h3, h4, h8, rfl⟩⟩
theorem tz_g_q {L a k : Nat → Int} {n m : Nat} {G : Nat → Nat} : tz_ct L a k n m (tz_g n G) = tz_ct L a k n m G ∧ tz_fr k n m (tz_g n G) = tz_fr k n m G ∧ tz_hs a k n (tz_g n G) = tz_hs a k n G := by
  have e : ∀ t, t < n → tz_g n G t = G t := fun t ht => if_pos ht
  have e1 : tz_dr L n (tz_g n G) = tz_dr L n G := tz_sm_q (fun t ht => by rw [e t ht])
  have e2 : tz_hs a k n (tz_g n G) = tz_hs a k n G := tz_sm_q (fun t ht => by rw [e t ht])
  have e3 : tz_fr k n m (tz_g n G) = tz_fr k n m G := by
    unfold tz_fr
    rw [tz_sm_q (f := fun t => ((tz_g n G t % 8 + 1 : Nat) : Int)) (h := fun t => ((G t % 8 + 1 : Nat) : Int)) (fun t ht => by rw [e t ht])]
  refine ⟨?_, e3, e2⟩
  unfold tz_ct
  rw [e1, e2, e3]
/-! all ways of a line on a phrase -/
def tz_Z (L a k : Nat → Int) (n m : Nat) : tz_Q := tz_Y (tu_qm (L 0) k m) (tz_ct L a k n m) n m n (8 * m) (fun _ => 0)
theorem tz_Z_le {L a k : Nat → Int} {n m : Nat} (hn : 1 ≤ n) : (tz_Z L a k n m).1 ≤ 1000000 := by
  unfold tz_Z
  rw [show n = (n - 1) + 1 by omega]
  exact tz_Y_le (ct := fun _ => 0) (n := 0) _
theorem tz_A_Z {L a k : Nat → Int} {n m : Nat} {w : Nat → Int} (hn : 1 ≤ n) (h : tz_A L a k n m (tz_ad tz_no (tz_Z L a k n m)) w) : tz_A L a k n m (tz_Z L a k n m) w := by
  have hle := tz_Z_le (L := L) (a := a) (k := k) (m := m) hn
  rcases Int.lt_or_eq_of_le hle with q | q
  · rw [tz_lt (show _ < tz_no.1 from q)] at h
    unfold tz_A at h ⊢
    have e0 : (tz_no).2.1 + (tz_Z L a k n m).2.1 = (tz_Z L a k n m).2.1 := Int.zero_add _
    rw [e0] at h
    exact h
  · rw [tz_eq (show _ = tz_no.1 from q)] at h
    obtain ⟨h1, h2, h3⟩ := h
    have h1 : w 1 = 0 + (tz_Z L a k n m).2.1 := h1
    have h2 : w 2 = 0 + (tz_Z L a k n m).2.2.1 := h2
    refine ⟨by omega, by omega, ?_⟩
    rcases h3 with r | ⟨r, -⟩
    · exact Or.inl ⟨q, r.2⟩
    · exfalso
      have r : (1000000 : Int) < 1000000 := r.2
      omega
