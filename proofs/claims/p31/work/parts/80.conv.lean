/-! from the growing world to the whole one -/
theorem tv_arr {cI : ClassId} {N : Nat} {f f' : Nat → Value} (h : ∀ j, j < N → f j = f' j) : arrV cI N f = arrV cI N f' := by
  have e : (fun j : Fin N => f j.val) = fun j => f' j.val := funext fun j => h j.val j.isLt
  unfold arrV
  rw [e]
theorem tv_low {g : tu_G} {ad : Nat → Nat} {row : Nat → Int} {s : tu_S} (h : s.1 ≤ 2) : tv_ce g ad row s = tu_ce g ad row s := by
  obtain ⟨a, b, c⟩ := s
  rcases (show a = 0 ∨ a = 1 ∨ a = 2 from by have h : a ≤ 2 := h; omega) with rfl | rfl | rfl <;> rfl
theorem tv_kinds : ∀ i, i < 92 → (tu_sh i).1 ≤ 2 ∨ (i = 0 ∨ i = 9 ∨ i = 11) ∨ (i = 19 ∨ i = 20) ∨ (i = 1 ∨ i = 22 ∨ i = 30 ∨ i = 38 ∨ i = 46 ∨ i = 54 ∨ i = 62 ∨ i = 70 ∨ i = 78) := by decide +kernel
theorem tv_bookrow {ad : Nat → Nat} {M : tu_M} {b : Nat} (hB : tu_B b) (h : tv_B M b) (g : tu_G) : tv_ce g ad (M b) (tu_sh b) = tu_ce g ad (M b) (tu_sh b) := by
  have hs : tu_sh b = tu_bk b 0 := tu_sh_bk (f := 0) hB (by decide)
  obtain ⟨⟨a0, a2, a3, a5, a6, a8, a10⟩, -⟩ := h
  rw [hs, tv_ce4 (s := tu_bk b 0) rfl, tu_ce4 (s := tu_bk b 0) rfl]
  simp [tv_fv, tu_fv, a0, a2, a3, a5, a6, a8, a10]
theorem tv_to {g : tu_G} {ad : Nat → Nat} {M : tu_M} {H : Heap} (hE : tv_E M) (hP : va_P g.1 tu_cs (tv_ws g ad 92 M) H) : va_P g.1 tu_cs (tu_ws g ad M) H := by
  intro k q hq
  have hk : k < 92 := by
    have := (List.getElem?_eq_some_iff.mp hq).1
    simpa [tu_ws] using this
  rw [tu_ws_at hk] at hq
  cases hq
  have h9 := hP k _ (tv_ws_at hk)
  obtain ⟨⟨f1, f2, f3, f4, f5, f6⟩, e1, e2, e3⟩ := hE
  have key : tv_ce g ad (M k) (tu_sh k) = tu_ce g ad (M k) (tu_sh k) → va_at g.1 tu_cs (ad k, tu_ce g ad (M k) (tu_sh k)) H := fun e => by rw [← e]; exact h9
  rcases tv_kinds k hk with h | (rfl | rfl | rfl) | (rfl | rfl) | h
  · exact key (tv_low h)
  · refine key ?_
    obtain ⟨a, b, c, d, e, f⟩ := f1
    show Sum.inr (3, tv_fv ad (M 0) 0 [some 1, some 9, some 11, some 19, none, some 20, some 21]) = Sum.inr (3, tu_fv ad (M 0) 0 [some 1, some 9, some 11, some 19, none, some 20, some 21])
    simp [tv_fv, tu_fv, a, b, c, d, e, f]
  · refine key ?_
    obtain ⟨a, b⟩ := f4
    show Sum.inr (2, tv_fv ad (M 9) 0 [some 10, none]) = Sum.inr (2, tu_fv ad (M 9) 0 [some 10, none])
    simp [tv_fv, tu_fv, a]
  · refine key ?_
    obtain ⟨a, b, c, d, e, f, i⟩ := f5
    show Sum.inr (1, tv_fv ad (M 11) 0 [none, none, none, none, none, none, some 12, some 13, some 14, some 15, some 16, some 17, some 18]) = Sum.inr (1, tu_fv ad (M 11) 0 [none, none, none, none, none, none, some 12, some 13, some 14, some 15, some 16, some 17, some 18])
    simp [tv_fv, tu_fv, a, b, c, d, e, f, i]
  · show H[ad 19]? = some (vp_cell g.2.2.2.2 (6, .inr (.inr (.inr (.inr (fun j => some (ad (M 19 j).toNat)))))))
    have h8 : H[ad 19]? = some (vp_cell g.2.2.2.2 (6, .inr (.inr (.inr (.inr (fun j => if M 19 j = 0 then none else some (ad (M 19 j).toNat))))))) := h9
    rw [h8, vp_cell_q, vp_cell_q]
    congr 1
    exact tv_arr (fun j hj => by
      have := e1 j hj
      have h0 : ¬ M 19 j = 0 := by omega
      rw [if_neg h0])
  · show H[ad 20]? = some (vp_cell g.2.2.2.2 (2, .inr (.inr (.inr (.inr (fun j => some (ad (M 20 j).toNat)))))))
    have h8 : H[ad 20]? = some (vp_cell g.2.2.2.2 (2, .inr (.inr (.inr (.inr (fun j => if M 20 j = 0 then none else some (ad (M 20 j).toNat))))))) := h9
    rw [h8, vp_cell_q, vp_cell_q]
    congr 1
    exact tv_arr (fun j hj => by
      have := e2 j hj
      have h0 : ¬ M 20 j = 0 := by omega
      rw [if_neg h0])
  · have hb : tu_B k ∧ tv_B M k := by
      rcases h with rfl | rfl | rfl | rfl | rfl | rfl | rfl | rfl | rfl
      · exact ⟨Or.inl rfl, f3⟩
      · exact ⟨Or.inr ⟨0, by decide, rfl⟩, e3 0 (by decide)⟩
      · exact ⟨Or.inr ⟨1, by decide, rfl⟩, e3 1 (by decide)⟩
      · exact ⟨Or.inr ⟨2, by decide, rfl⟩, e3 2 (by decide)⟩
      · exact ⟨Or.inr ⟨3, by decide, rfl⟩, e3 3 (by decide)⟩
      · exact ⟨Or.inr ⟨4, by decide, rfl⟩, e3 4 (by decide)⟩
      · exact ⟨Or.inr ⟨5, by decide, rfl⟩, e3 5 (by decide)⟩
      · exact ⟨Or.inr ⟨6, by decide, rfl⟩, e3 6 (by decide)⟩
      · exact ⟨Or.inr ⟨7, by decide, rfl⟩, e3 7 (by decide)⟩
    exact key (tv_bookrow hb.1 hb.2 g)
section TVA
variable {T : tv_T} {cc : ByteArray} {own : String} {fr lo mc ms n kc ks : Nat} {lv : List (Nat × tu_v)} {st : List tu_v} {M : tu_M}
theorem tv_astore (pc : Nat) (X : tv_X T cc own fr lo mc ms) {k : Nat} {x : Nat} {lv' : List (Nat × tu_v)} (hd : decode cc pc = .ok (.astore k, 2)) (hn : k < T.2.2.2.2.2.2.2.2.2.2.1) (hl0 : tu_pt k (tu_r x) lv = lv')
    (kk : tv_W T n kc ks (pc + 2) lv' st M) : tv_W T n kc ks pc lv (tu_r x :: st) M := by
  obtain ⟨p, l, e, R, s, m, args, below, meth, c, nL, g, ad, Q⟩ := T
  obtain ⟨hx, hb, hml, hown, hts, hK, hsa, hnw, had, h0, hfr, hlo, hmc, hms⟩ := X
  intro H locs ls hP hz hS hl
  subst hl0
  exact lv_astore (lv' := (tu_pt k (tu_r x) lv).map fun q => (q.1, tu_vl ad q.2)) hx hb hd hl hn (tu_pt_e ad _ (tu_r x) lv) (fun ls' hl' => kk H locs ls' hP hz hS hl')
end TVA
/-- at the beginning: no line, no phrase -/
theorem tz_J0 {M M' : tu_M} (hE : tv_E M) (hm : ∀ i, i < 90 → M' i = M i) (h90 : (M' 90 0 = 3 ∧ M' 90 1 = 1 ∧ M' 90 2 = 3 ∧ M' 90 3 = 7) ∧ M' 90 4 = 0 ∧ M' 90 5 = 0 ∧ M' 90 6 = 0 ∧ M' 90 7 = 0) : tz_J M' := by
  obtain ⟨⟨f1, f2, ⟨-, ⟨b1, b4, b7, b9⟩, s0, s1, s2, s3⟩, ⟨-, f9⟩, f5, f6⟩, e1, e2, e3⟩ := hE
  obtain ⟨⟨m0, m1, m2, m3⟩, n4, n5, n6, n7⟩ := h90
  have s0 : M 2 0 = 3 := s0
  have s1 : M 2 1 = 1 := s1
  have s2 : M 2 2 = 3 := s2
  have s3 : M 2 3 = 7 := s3
  have z21 : ∀ k, k < 2 → M 21 k = 0 := fun k hk => by
    rcases (show k = 0 ∨ k = 1 by omega) with rfl | rfl
    · exact f6.1
    · exact f6.2
  have c1 : M' 1 = M 1 := hm 1 (by decide)
  have c2 : M' 2 = M 2 := hm 2 (by decide)
  refine ⟨⟨?_, ?_, ?_, fun j hj => ?_, fun l hl => ?_, fun p hp => ?_, fun k hk => ?_, fun k hk => ?_⟩, ?_⟩
  · show tu_BO (tu_cb M')
    refine ⟨?_, fun l hl => ?_, fun l s hl => ?_, fun p hp => ?_, fun p b hp => ?_, fun k hk => ?_, fun k hk => ?_, ?_⟩
    · show (0 ≤ M' 1 1 ∧ M' 1 1 ≤ 16) ∧ (0 ≤ M' 1 4 ∧ M' 1 4 ≤ 8) ∧ (0 ≤ M' 1 7 ∧ M' 1 7 ≤ 40) ∧ (0 ≤ M' 1 9 ∧ M' 1 9 ≤ 8)
      rw [c1]
      omega
    · have hl : (l : Int) < M' 1 1 := hl
      rw [c1] at hl
      omega
    · have hl : (l : Int) < M' 1 1 := hl
      rw [c1] at hl
      omega
    · have hp : (p : Int) < M' 1 4 := hp
      rw [c1] at hp
      omega
    · have hp : (p : Int) < M' 1 4 := hp
      rw [c1] at hp
      omega
    · have hk : (k : Int) < M' 1 7 := hk
      rw [c1] at hk
      omega
    · have hk : (k : Int) < M' 1 9 := hk
      rw [c1] at hk
      omega
    · show (1 ≤ M' 2 0 ∧ M' 2 0 ≤ 8) ∧ (0 ≤ M' 2 1 ∧ M' 2 1 ≤ 9) ∧ (0 ≤ M' 2 2 ∧ M' 2 2 ≤ 9) ∧ (0 ≤ M' 2 3 ∧ M' 2 3 ≤ 20)
      rw [c2]
      omega
  · rw [c1]; omega
  · rw [c1]; omega
  · rw [c2]
    rcases (show j = 0 ∨ j = 1 ∨ j = 2 ∨ j = 3 by omega) with rfl | rfl | rfl | rfl <;> omega
  · rw [c1] at hl; omega
  · rw [c1] at hp; omega
  · rw [c1] at hk; omega
  · rw [c1] at hk; omega
  · unfold tu_HS
    rw [hm 0 (by decide), hm 19 (by decide), hm 20 (by decide), hm 21 (by decide)]
    exact ⟨⟨fun i => i, fun i hi => ⟨hi, e1 i hi⟩, fun i j _ _ h => h⟩, by omega, ⟨e2 0 (by decide), e2 1 (by decide)⟩, fun k hk => Or.inl (z21 k hk)⟩
set_option maxRecDepth 20000 in
set_option maxHeartbeats 4000000 in
theorem tl_init {T : tu_T} (X : tu_X T cL_law RL 9 344) (hnl : T.2.2.2.2.2.2.2.2.2.2.1 = 18) (hret : tu_RI T cL_law (fun z _ => z = 1)) {M : tu_M} (hE : tv_E M) (hz : ∀ j, M 90 j = 0) : tu_W T 42 [(0, tu_r 100), (1, tu_r 0), (2, tu_r 86), (3, tu_r 87), (4, tu_r 88), (5, tu_r 89), (6, tu_r 90), (7, tu_r 91)] [] M := by
  refine tu_aload 42 X 6 dL_law_42 rfl ?_
  refine tu_iconst 44 X dL_law_44 ?_
  refine tu_iconst 45 X dL_law_45 ?_
  refine tu_iast 46 X (M' := tu_row M 90 (tu_u (M 90) 0 3)) 0 dL_law_46 (by decide) rfl (by decide) rfl (by decide) rfl ?_
  refine tu_aload 47 X 6 dL_law_47 rfl ?_
  refine tu_iconst 49 X dL_law_49 ?_
  refine tu_iconst 50 X dL_law_50 ?_
  refine tu_iast 51 X (M' := tu_row M 90 (tu_u (tu_u (M 90) 0 3) 1 1)) 1 dL_law_51 (by decide) rfl (by decide) rfl (by decide) (tu_rr M 90 (tu_u (M 90) 0 3) (tu_u (tu_u (M 90) 0 3) 1 1)) ?_
  refine tu_aload 52 X 6 dL_law_52 rfl ?_
  refine tu_iconst 54 X dL_law_54 ?_
  refine tu_iconst 55 X dL_law_55 ?_
  refine tu_iast 56 X (M' := tu_row M 90 (tu_u (tu_u (tu_u (M 90) 0 3) 1 1) 2 3)) 2 dL_law_56 (by decide) rfl (by decide) rfl (by decide) (tu_rr M 90 (tu_u (tu_u (M 90) 0 3) 1 1) (tu_u (tu_u (tu_u (M 90) 0 3) 1 1) 2 3)) ?_
  refine tu_aload 57 X 6 dL_law_57 rfl ?_
  refine tu_iconst 59 X dL_law_59 ?_
  refine tu_bipush 60 X dL_law_60 (by decide) ?_
  refine tu_iast 62 X (M' := tu_row M 90 (tu_u (tu_u (tu_u (tu_u (M 90) 0 3) 1 1) 2 3) 3 7)) 3 dL_law_62 (by decide) rfl (by decide) rfl (by decide) (tu_rr M 90 (tu_u (tu_u (tu_u (M 90) 0 3) 1 1) 2 3) (tu_u (tu_u (tu_u (tu_u (M 90) 0 3) 1 1) 2 3) 3 7)) ?_
  refine tu_jmp [0, 1, 2, 3, 4, 5, 6, 7] (lv' := [(0, tu_r 100), (1, tu_r 0), (2, tu_r 86), (3, tu_r 87), (4, tu_r 88), (5, tu_r 89), (6, tu_r 90), (7, tu_r 91)]) ⟨rfl, rfl, rfl, rfl, rfl, rfl, rfl, rfl, trivial⟩ rfl (tl_loop X hnl hret (tz_J0 hE (fun i hi => by rw [tu_row_n _ _ (by omega)]) ⟨⟨rfl, rfl, rfl, rfl⟩, (hz 4), (hz 5), (hz 6), (hz 7)⟩))
