/-! from the growing world to the whole one -/
theorem tv_arr {cI : ClassId} {N : Nat} {f f' : Nat → Value} (h : ∀ j, j < N → f j = f' j) : arrV cI N f = arrV cI N f' := by
  have e : (fun j : Fin N => f j.val) = fun j => f' j.val := funext fun j => h j.val j.isLt
  unfold arrV
  rw [e]
theorem tv_low {g : tu_G} {ad : Nat → Nat} {row : Nat → Int} {s : tu_S} (h : s.1 ≤ 2) : tv_ce g ad row s = tu_ce g ad row s := by
  obtain ⟨a, b, c⟩ := s
  rcases (show a = 0 ∨ a = 1 ∨ a = 2 from by have h : a ≤ 2 := h; omega) with rfl | rfl | rfl <;> rfl
theorem tv_kinds : ∀ i, i < 97 → (tu_sh i).1 ≤ 2 ∨ (i = 0 ∨ i = 9 ∨ i = 11 ∨ i = 86) ∨ (i = 19 ∨ i = 20) ∨ (i = 1 ∨ i = 22 ∨ i = 30 ∨ i = 38 ∨ i = 46 ∨ i = 54 ∨ i = 62 ∨ i = 70 ∨ i = 78) := by decide +kernel
def tv_G (M : tu_M) : Prop := M 86 0 = 1 ∧ M 86 1 = 1 ∧ M 86 3 = 1 ∧ M 86 4 = 1 ∧ M 86 5 = 1 ∧ M 86 7 = 1 ∧ M 86 8 = 1 ∧ M 86 9 = 1 ∧ M 86 16 = 1 ∧ M 86 17 = 1
theorem tv_bookrow {ad : Nat → Nat} {M : tu_M} {b : Nat} (hB : tu_B b) (h : tv_B M b) (g : tu_G) : tv_ce g ad (M b) (tu_sh b) = tu_ce g ad (M b) (tu_sh b) := by
  have hs : tu_sh b = tu_bk b 0 := tu_sh_bk (f := 0) hB (by decide)
  obtain ⟨⟨a0, a2, a3, a5, a6, a8, a10⟩, -⟩ := h
  rw [hs, tv_ce4 (s := tu_bk b 0) rfl, tu_ce4 (s := tu_bk b 0) rfl]
  simp [tv_fv, tu_fv, a0, a2, a3, a5, a6, a8, a10]
theorem tv_to {g : tu_G} {ad : Nat → Nat} {M : tu_M} {H : Heap} (hE : tv_E M) (hG : tv_G M) (hP : va_P g.1 tu_cs (tv_ws g ad 97 M) H) : va_P g.1 tu_cs (tu_ws g ad M) H := by
  intro k q hq
  have hk : k < 97 := by
    have := (List.getElem?_eq_some_iff.mp hq).1
    simpa [tu_ws] using this
  rw [tu_ws_at hk] at hq
  cases hq
  have h9 := hP k _ (tv_ws_at hk)
  obtain ⟨⟨f1, f2, f3, f4, f5, f6⟩, e1, e2, e3⟩ := hE
  have key : tv_ce g ad (M k) (tu_sh k) = tu_ce g ad (M k) (tu_sh k) → va_at g.1 tu_cs (ad k, tu_ce g ad (M k) (tu_sh k)) H := fun e => by rw [← e]; exact h9
  rcases tv_kinds k hk with h | (rfl | rfl | rfl | rfl) | (rfl | rfl) | h
  · exact key (tv_low h)
  · refine key ?_
    obtain ⟨a, b, c, d, e, f⟩ := f1
    show Sum.inr (3, tv_fv ad (M 0) 0 [some 1, some 9, some 11, some 19, none, some 20, some 21]) = Sum.inr (3, tu_fv ad (M 0) 0 [some 1, some 9, some 11, some 19, none, some 20, some 21])
    simp [tv_fv, tu_fv, a, b, c, d, e, f]
  · refine key ?_
    obtain ⟨a, b⟩ := f4
    show Sum.inr (2, tv_fv ad (M 9) 0 [some 10, none]) = Sum.inr (2, tu_fv ad (M 9) 0 [some 10, none])
    simp [tv_fv, tu_fv, a]
  · refine key ?_
    obtain ⟨a, b, c, d, e, f, i⟩ := f5
    show Sum.inr (1, tv_fv ad (M 11) 0 [none, none, none, none, none, none, some 12, some 13, some 14, some 15, some 16, some 17, some 18]) = Sum.inr (1, tu_fv ad (M 11) 0 [none, none, none, none, none, none, some 12, some 13, some 14, some 15, some 16, some 17, some 18])
    simp [tv_fv, tu_fv, a, b, c, d, e, f, i]
  · refine key ?_
    obtain ⟨a, b, c, d, e, f, i, j, x, y⟩ := hG
    show Sum.inr (4, tv_fv ad (M 86) 0 [some 87, some 88, none, some 89, some 90, some 91, none, some 92, some 93, some 94, none, none, none, none, none, none, some 95, some 96]) = Sum.inr (4, tu_fv ad (M 86) 0 [some 87, some 88, none, some 89, some 90, some 91, none, some 92, some 93, some 94, none, none, none, none, none, none, some 95, some 96])
    simp [tv_fv, tu_fv, a, b, c, d, e, f, i, j, x, y]
  · show H[ad 19]? = some (vp_cell g.2.2.2.2 (6, .inr (.inr (.inr (.inr (fun j => some (ad (M 19 j).toNat)))))))
    have h8 : H[ad 19]? = some (vp_cell g.2.2.2.2 (6, .inr (.inr (.inr (.inr (fun j => if M 19 j = 0 then none else some (ad (M 19 j).toNat))))))) := h9
    rw [h8, vp_cell_q, vp_cell_q]
    congr 1
    exact tv_arr (fun j hj => by
      have := e1 j hj
      have h0 : ¬ M 19 j = 0 := by omega
      rw [if_neg h0])
  · show H[ad 20]? = some (vp_cell g.2.2.2.2 (2, .inr (.inr (.inr (.inr (fun j => some (ad (M 20 j).toNat)))))))
    have h8 : H[ad 20]? = some (vp_cell g.2.2.2.2 (2, .inr (.inr (.inr (.inr (fun j => if M 20 j = 0 then none else some (ad (M 20 j).toNat))))))) := h9
    rw [h8, vp_cell_q, vp_cell_q]
    congr 1
    exact tv_arr (fun j hj => by
      have := e2 j hj
      have h0 : ¬ M 20 j = 0 := by omega
      rw [if_neg h0])
  · have hb : tu_B k ∧ tv_B M k := by
      rcases h with rfl | rfl | rfl | rfl | rfl | rfl | rfl | rfl | rfl
      · exact ⟨Or.inl rfl, f3⟩
      · exact ⟨Or.inr ⟨0, by decide, rfl⟩, e3 0 (by decide)⟩
      · exact ⟨Or.inr ⟨1, by decide, rfl⟩, e3 1 (by decide)⟩
      · exact ⟨Or.inr ⟨2, by decide, rfl⟩, e3 2 (by decide)⟩
      · exact ⟨Or.inr ⟨3, by decide, rfl⟩, e3 3 (by decide)⟩
      · exact ⟨Or.inr ⟨4, by decide, rfl⟩, e3 4 (by decide)⟩
      · exact ⟨Or.inr ⟨5, by decide, rfl⟩, e3 5 (by decide)⟩
      · exact ⟨Or.inr ⟨6, by decide, rfl⟩, e3 6 (by decide)⟩
      · exact ⟨Or.inr ⟨7, by decide, rfl⟩, e3 7 (by decide)⟩
    exact key (tv_bookrow hb.1 hb.2 g)
/-- at the beginning the two objects agree -/
theorem tw_I0 {M : tu_M} (hE : tv_E M) (h87 : (M 87 0 = 3 ∧ M 87 1 = 1 ∧ M 87 2 = 3 ∧ M 87 3 = 7) ∧ (M 86 2 = 0 ∧ M 86 6 = 0) ∧ (M 87 4 = 0 ∧ M 87 5 = 0 ∧ M 87 6 = 0 ∧ M 87 7 = 0) ∧ M 90 0 = 0 ∧ M 90 1 = 0) : tw_I M := by
  obtain ⟨⟨f1, f2, ⟨-, ⟨b1, b4, b7, b9⟩, s0, s1, s2, s3⟩, ⟨-, f9⟩, f5, f6⟩, e1, e2, e3⟩ := hE
  obtain ⟨⟨m0, m1, m2, m3⟩, ⟨m, m'⟩, ⟨n4, n5, n6, n7⟩, w0, w1⟩ := h87
  have s0 : M 2 0 = 3 := s0
  have s1 : M 2 1 = 1 := s1
  have s2 : M 2 2 = 3 := s2
  have s3 : M 2 3 = 7 := s3
  have z21 : ∀ k, k < 2 → M 21 k = 0 := fun k hk => by
    rcases (show k = 0 ∨ k = 1 by omega) with rfl | rfl
    · exact f6.1
    · exact f6.2
  refine ⟨⟨⟨⟨fun i => i, fun i hi => ⟨hi, e1 i hi⟩, fun i j _ _ h => h⟩, by omega, ⟨e2 0 (by decide), e2 1 (by decide)⟩, fun k hk => Or.inl (z21 k hk)⟩, ?_⟩, ?_, ⟨fun i hi => by omega, by omega⟩, ⟨by omega, fun k hk => by omega, by omega, fun k hk => by omega⟩, ⟨fun k hk => ?_, fun k hk h1 => by rw [z21 k hk] at h1; omega⟩⟩
  · show tu_BO (tu_cb M)
    refine ⟨?_, fun l hl => ?_, fun l s hl => ?_, fun p hp => ?_, fun p b hp => ?_, fun k hk => ?_, fun k hk => ?_, ?_⟩
    · show (0 ≤ M 1 1 ∧ M 1 1 ≤ 16) ∧ (0 ≤ M 1 4 ∧ M 1 4 ≤ 8) ∧ (0 ≤ M 1 7 ∧ M 1 7 ≤ 40) ∧ (0 ≤ M 1 9 ∧ M 1 9 ≤ 8)
      omega
    · have hl : (l : Int) < M 1 1 := hl
      omega
    · have hl : (l : Int) < M 1 1 := hl
      omega
    · have hp : (p : Int) < M 1 4 := hp
      omega
    · have hp : (p : Int) < M 1 4 := hp
      omega
    · have hk : (k : Int) < M 1 7 := hk
      omega
    · have hk : (k : Int) < M 1 9 := hk
      omega
    · show (1 ≤ M 2 0 ∧ M 2 0 ≤ 8) ∧ (0 ≤ M 2 1 ∧ M 2 1 ≤ 9) ∧ (0 ≤ M 2 2 ∧ M 2 2 ≤ 9) ∧ (0 ≤ M 2 3 ∧ M 2 3 ≤ 20)
      omega
  · refine ⟨fun i hi => ?_, ?_, fun l hl => ?_, fun p hp => ?_, fun k hk => ?_, fun k hk => ?_⟩
    · show M 87 i = M 2 i
      rcases (show i = 0 ∨ i = 1 ∨ i = 2 ∨ i = 3 by omega) with rfl | rfl | rfl | rfl <;> omega
    · show M 87 4 = M 1 1 ∧ M 87 5 = M 1 4 ∧ M 87 6 = M 1 7 ∧ M 87 7 = M 1 9
      omega
    · have hl : (l : Int) < M 1 1 := hl
      omega
    · have hp : (p : Int) < M 1 4 := hp
      omega
    · have hk : (k : Int) < M 1 7 := hk
      omega
    · have hk : (k : Int) < M 1 9 := hk
      omega
  · rw [z21 k hk]
    rcases (show k = 0 ∨ k = 1 by omega) with rfl | rfl
    · exact w0
    · exact w1
