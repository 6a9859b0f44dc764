theorem tz_kc_q {f g : Nat → Int} {z : Int} : ∀ {n : Nat}, (∀ k, k < n → f k = g k) → tu_kc f 0 z n = tu_kc g 0 z n
  | 0, _ => rfl
  | n + 1, h => by
    unfold tu_kc
    rw [tz_kc_q (fun k hk => h k (by omega)), Nat.zero_add, h n (Nat.lt_succ_self n)]
theorem tz_wr_q {f g : Nat → Int} {z : Int} : ∀ {n : Nat}, (∀ k, k < n → f k = g k) → ∀ k, k < tu_kc g 0 z n → tu_wr f 0 z n k = tu_wr g 0 z n k
  | 0, _, k, hk => by simp only [tu_kc] at hk; omega
  | n + 1, h, k, hk => by
    have e := tz_kc_q (z := z) (n := n) (fun k hk => h k (by omega))
    have hn := h n (Nat.lt_succ_self n)
    unfold tu_kc at hk
    unfold tu_wr
    rw [Nat.zero_add] at hk ⊢
    rw [hn, e, Nat.zero_add]
    by_cases q : g n = z
    · rw [if_pos q] at hk
      rw [if_pos q, if_pos q]
      exact tz_wr_q (fun k hk => h k (by omega)) k (by omega)
    · rw [if_neg q] at hk
      rw [if_neg q, if_neg q]
      by_cases r : k = tu_kc g 0 z n
      · rw [r, tu_u_s, tu_u_s]
      · rw [tu_u_n _ _ r, tu_u_n _ _ r]
        exact tz_wr_q (fun k hk => h k (by omega)) k (by omega)

theorem tz_dropLine {M Mx M' : tu_M} (hJ : tz_J M) (hx : tz_x M Mx) {l NL : Nat} {y : Int} (hl : l < NL) (hN : M 1 1 = ((NL : Nat) : Int)) (h : ((¬ (0 ≤ (((l : Nat) : Int)) ∧ (((l : Nat) : Int)) < Mx 1 1)) ∧ M' = Mx ∧ y = -1) ∨ ((0 ≤ (((l : Nat) : Int)) ∧ (((l : Nat) : Int)) < Mx 1 1) ∧ ∃ N : tu_M, tu_rec Mx N ∧ M' = tu_row (tu_row (tu_row (tu_row N 1 (tu_u (tu_u (Mx 1) 1 ((Mx 1 1) - 1)) 7 ((tu_kc (Mx 7) 0 (((((l : Nat) : Int)).toNat : Nat) : Int) (Mx 1 7).toNat : Nat) : Int))) 3 (va_cpy (Mx 3) (Mx 3) ((((l : Nat) : Int)).toNat + 1) (((l : Nat) : Int)).toNat ((Mx 1 1).toNat - (((l : Nat) : Int)).toNat - 1))) 4 (va_cpy (Mx 4) (Mx 4) (((((l : Nat) : Int)).toNat + 1) * 16) ((((l : Nat) : Int)).toNat * 16) (((Mx 1 1).toNat - (((l : Nat) : Int)).toNat - 1) * 16))) 7 (tu_wr (Mx 7) 0 (((((l : Nat) : Int)).toNat : Nat) : Int) (Mx 1 7).toNat) ∧ y = ((tu_kc (Mx 7) 0 (((((l : Nat) : Int)).toNat : Nat) : Int) (Mx 1 7).toNat : Nat) : Int))) (r87 : Mx 87 = M 87) (r89 : Mx 89 = M 89)
    (c86 : ∀ i, i < 12 → Mx 86 i = if 2 * l ≤ i ∧ i < 2 * (NL - 1) then M 86 (i + 2) else M 86 i) (c88 : Mx 88 = tu_wr (M 88) 0 ((l : Nat) : Int) (M 1 7).toNat) (c90 : Mx 90 = tu_u (tu_u (M 90) 6 ((tu_kc (M 88) 0 ((l : Nat) : Int) (M 1 7).toNat : Nat) : Int)) 4 (((NL : Nat) : Int) - 1)) : tz_J M' ∧ y = ((tu_kc (M 88) 0 ((l : Nat) : Int) (M 1 7).toNat : Nat) : Int) := by
  have hB := hJ.1.ok
  have cn := hB.cnt
  have hsm := hJ.1.small
  have hA := hJ.1.ar
  have ekc : tu_kc (M 88) 0 ((l : Nat) : Int) (M 1 7).toNat = tu_kc (M 7) 0 ((l : Nat) : Int) (M 1 7).toNat := tz_kc_q (fun k hk => hJ.1.ba k (by omega))
  rw [hx 1 (by decide), hx 3 (by decide), hx 4 (by decide), hx 7 (by decide), Int.toNat_natCast] at h
  rcases h with ⟨h, -⟩ | ⟨h, N, hr, hM, hy⟩
  · omega
  · rw [ekc] at c90 ⊢
    refine ⟨?_, hy⟩
    have ec : ∀ i, i ≠ 0 → i ≠ 19 → (i < 22 ∨ 70 ≤ i) → N i = Mx i := fun i a b d => tz_rec hr a b d
    refine tz_Jof (tu_BO.kdropLine hB (l := l) (by show (l : Int) < M 1 1; omega)) (fun f hf => ?_) ?_ (tz_HS (hx.hs hJ.2) hr ?_ ?_ ?_ ?_)
    · rw [hM]
      revert f
      refine tz_f8 rfl ?_ rfl rfl ?_ ?_ rfl ?_
      all_goals first
        | (show N 1 = M 1; rw [ec 1 (by decide) (by decide) (by decide)]; exact hx 1 (by decide))
        | (show N 2 = M 2; rw [ec 2 (by decide) (by decide) (by decide)]; exact hx 2 (by decide))
        | (show N 3 = M 3; rw [ec 3 (by decide) (by decide) (by decide)]; exact hx 3 (by decide))
        | (show N 4 = M 4; rw [ec 4 (by decide) (by decide) (by decide)]; exact hx 4 (by decide))
        | (show N 5 = M 5; rw [ec 5 (by decide) (by decide) (by decide)]; exact hx 5 (by decide))
        | (show N 6 = M 6; rw [ec 6 (by decide) (by decide) (by decide)]; exact hx 6 (by decide))
        | (show N 7 = M 7; rw [ec 7 (by decide) (by decide) (by decide)]; exact hx 7 (by decide))
        | (show N 8 = M 8; rw [ec 8 (by decide) (by decide) (by decide)]; exact hx 8 (by decide))
    · rw [hM]
      show tz_AR _ (N 86) (N 87) (N 88) (N 89) (N 90)
      rw [show N 86 = Mx 86 from ec 86 (by decide) (by decide) (by decide), ec 87 (by decide) (by decide) (by decide), ec 88 (by decide) (by decide) (by decide), ec 89 (by decide) (by decide) (by decide), ec 90 (by decide) (by decide) (by decide), r87, c88, r89, c90]
      obtain ⟨a1, ⟨a2, a3, a4, a5⟩, a6, a7, a8, a9, a10⟩ := hA
      have e1 : tu_u (tu_u (M 1) 1 (M 1 1 - 1)) 7 ((tu_kc (M 7) 0 ((l : Nat) : Int) (M 1 7).toNat : Nat) : Int) 1 = M 1 1 - 1 := by rw [tu_u_n _ _ (by decide), tu_u_s]
      have e7 : tu_u (tu_u (M 1) 1 (M 1 1 - 1)) 7 ((tu_kc (M 7) 0 ((l : Nat) : Int) (M 1 7).toNat : Nat) : Int) 7 = ((tu_kc (M 7) 0 ((l : Nat) : Int) (M 1 7).toNat : Nat) : Int) := tu_u_s _ _ _
      have e4 : tu_u (tu_u (M 1) 1 (M 1 1 - 1)) 7 ((tu_kc (M 7) 0 ((l : Nat) : Int) (M 1 7).toNat : Nat) : Int) 4 = M 1 4 := by rw [tu_u_n _ _ (by decide), tu_u_n _ _ (by decide)]
      have e9 : tu_u (tu_u (M 1) 1 (M 1 1 - 1)) 7 ((tu_kc (M 7) 0 ((l : Nat) : Int) (M 1 7).toNat : Nat) : Int) 9 = M 1 9 := by rw [tu_u_n _ _ (by decide), tu_u_n _ _ (by decide)]
      refine ⟨⟨by show tu_u (tu_u (M 1) 1 (M 1 1 - 1)) 7 ((tu_kc (M 7) 0 ((l : Nat) : Int) (M 1 7).toNat : Nat) : Int) 1 ≤ 6; rw [e1]; omega, by show tu_u (tu_u (M 1) 1 (M 1 1 - 1)) 7 ((tu_kc (M 7) 0 ((l : Nat) : Int) (M 1 7).toNat : Nat) : Int) 4 ≤ 4; rw [e4]; omega⟩, ⟨?_, ?_, ?_, ?_⟩, fun j hj => ?_, fun t ht => ?_, fun p hp => ?_, fun k hk => ?_, fun k hk => ?_⟩
      · rw [tu_u_s]; show _ = tu_u (tu_u (M 1) 1 (M 1 1 - 1)) 7 ((tu_kc (M 7) 0 ((l : Nat) : Int) (M 1 7).toNat : Nat) : Int) 1; rw [e1]; omega
      · rw [tu_u_n _ _ (by decide), tu_u_n _ _ (by decide)]; show _ = tu_u (tu_u (M 1) 1 (M 1 1 - 1)) 7 ((tu_kc (M 7) 0 ((l : Nat) : Int) (M 1 7).toNat : Nat) : Int) 4; rw [e4]; exact a3
      · rw [tu_u_n _ _ (by decide), tu_u_s]; show _ = tu_u (tu_u (M 1) 1 (M 1 1 - 1)) 7 ((tu_kc (M 7) 0 ((l : Nat) : Int) (M 1 7).toNat : Nat) : Int) 7; rw [e7]
      · rw [tu_u_n _ _ (by decide), tu_u_n _ _ (by decide)]; show _ = tu_u (tu_u (M 1) 1 (M 1 1 - 1)) 7 ((tu_kc (M 7) 0 ((l : Nat) : Int) (M 1 7).toNat : Nat) : Int) 9; rw [e9]; exact a5
      · rw [tu_u_n _ _ (by omega), tu_u_n _ _ (by omega)]; exact a6 j hj
      · have ht : (t : Int) < tu_u (tu_u (M 1) 1 (M 1 1 - 1)) 7 ((tu_kc (M 7) 0 ((l : Nat) : Int) (M 1 7).toNat : Nat) : Int) 1 := ht
        rw [e1] at ht
        have es : ∀ q, tu_al (tu_row (tu_row (tu_row (tu_row (tu_cb M) 0 (tu_u (tu_u (tu_cb M 0) 1 (tu_cb M 0 1 - 1)) 7 ((tu_kc (tu_cb M 6) 0 ((l : Nat) : Int) (tu_cb M 0 7).toNat : Nat) : Int))) 2 (va_cpy (tu_cb M 2) (tu_cb M 2) (l + 1) l ((tu_cb M 0 1).toNat - l - 1))) 3 (va_cpy (tu_cb M 3) (tu_cb M 3) ((l + 1) * 16) (l * 16) (((tu_cb M 0 1).toNat - l - 1) * 16))) 6 (tu_wr (tu_cb M 6) 0 ((l : Nat) : Int) (tu_cb M 0 7).toNat)) t q = va_cpy (M 4) (M 4) ((l + 1) * 16) (l * 16) (((M 1 1).toNat - l - 1) * 16) (t * 16 + q) := fun q => rfl
        show va_cpy (M 3) (M 3) (l + 1) l ((M 1 1).toNat - l - 1) t ≤ 5 ∧ Mx 86 (2 * t) = va_cpy (M 3) (M 3) (l + 1) l ((M 1 1).toNat - l - 1) t ∧ tu_rg (Mx 86 (2 * t + 1)) ∧ tu_mk (Mx 86 (2 * t + 1)) (va_cpy (M 3) (M 3) (l + 1) l ((M 1 1).toNat - l - 1) t).toNat _
        rw [c86 (2 * t) (by omega), c86 (2 * t + 1) (by omega)]
        by_cases r : t < l
        · rw [va_cpy_out (by omega), if_neg (by omega), if_neg (by omega)]
          have g := a7 t (by show (t : Int) < M 1 1; omega)
          have gs := hB.syl t (by omega)
          refine ⟨g.1, g.2.1, g.2.2.1, g.2.2.2.q (fun i hi => ?_)⟩
          have hi : i < (M 3 t).toNat := hi
          rw [es, va_cpy_out (by omega)]
          exact Iff.rfl
        · rw [va_cpy_in (by omega), if_pos (by omega), if_pos (by omega), show l + 1 + (t - l) = t + 1 by omega, show 2 * t + 2 = 2 * (t + 1) by omega, show 2 * t + 1 + 2 = 2 * (t + 1) + 1 by omega]
          have g := a7 (t + 1) (by show ((t + 1 : Nat) : Int) < M 1 1; omega)
          have gs := hB.syl (t + 1) (by omega)
          refine ⟨g.1, g.2.1, g.2.2.1, g.2.2.2.q (fun i hi => ?_)⟩
          have hi : i < (M 3 (t + 1)).toNat := hi
          rw [es, va_cpy_in (by omega), show (l + 1) * 16 + (t * 16 + i - l * 16) = (t + 1) * 16 + i by omega]
          exact Iff.rfl
      · have hp : (p : Int) < tu_u (tu_u (M 1) 1 (M 1 1 - 1)) 7 ((tu_kc (M 7) 0 ((l : Nat) : Int) (M 1 7).toNat : Nat) : Int) 4 := hp
        rw [e4] at hp
        exact a8 p hp
      · have hk : (k : Int) < tu_u (tu_u (M 1) 1 (M 1 1 - 1)) 7 ((tu_kc (M 7) 0 ((l : Nat) : Int) (M 1 7).toNat : Nat) : Int) 7 := hk
        rw [e7] at hk
        exact tz_wr_q (fun k hk => hJ.1.ba k (by omega)) k (by omega)
      · have hk : (k : Int) < tu_u (tu_u (M 1) 1 (M 1 1 - 1)) 7 ((tu_kc (M 7) 0 ((l : Nat) : Int) (M 1 7).toNat : Nat) : Int) 9 := hk
        rw [e9] at hk
        exact a10 k hk
    · rw [hM]; rfl
    · rw [hM]; rfl
    · rw [hM]; rfl
    · rw [hM]; rfl

theorem tz_dropPhrase {M Mx M' : tu_M} (hJ : tz_J M) (hx : tz_x M Mx) {l NP : Nat} {y : Int} (hl : l < NP) (hN : M 1 4 = ((NP : Nat) : Int)) (h : ((¬ (0 ≤ (((l : Nat) : Int)) ∧ (((l : Nat) : Int)) < Mx 1 4)) ∧ M' = Mx ∧ y = -1) ∨ ((0 ≤ (((l : Nat) : Int)) ∧ (((l : Nat) : Int)) < Mx 1 4) ∧ ∃ N : tu_M, tu_rec Mx N ∧ M' = tu_row (tu_row (tu_row (tu_row N 1 (tu_u (tu_u (Mx 1) 4 ((Mx 1 4) - 1)) 9 ((tu_kc (Mx 8) 0 (((((l : Nat) : Int)).toNat : Nat) : Int) (Mx 1 9).toNat : Nat) : Int))) 5 (va_cpy (Mx 5) (Mx 5) ((((l : Nat) : Int)).toNat + 1) (((l : Nat) : Int)).toNat ((Mx 1 4).toNat - (((l : Nat) : Int)).toNat - 1))) 6 (va_cpy (Mx 6) (Mx 6) (((((l : Nat) : Int)).toNat + 1) * 24) ((((l : Nat) : Int)).toNat * 24) (((Mx 1 4).toNat - (((l : Nat) : Int)).toNat - 1) * 24))) 8 (tu_wr (Mx 8) 0 (((((l : Nat) : Int)).toNat : Nat) : Int) (Mx 1 9).toNat) ∧ y = ((tu_kc (Mx 8) 0 (((((l : Nat) : Int)).toNat : Nat) : Int) (Mx 1 9).toNat : Nat) : Int))) (r86 : Mx 86 = M 86) (r88 : Mx 88 = M 88)
    (c87 : ∀ i, i < 12 → Mx 87 i = if 3 * l ≤ i ∧ i < 3 * (NP - 1) then M 87 (i + 3) else M 87 i) (c89 : Mx 89 = tu_wr (M 89) 0 ((l : Nat) : Int) (M 1 9).toNat) (c90 : Mx 90 = tu_u (tu_u (M 90) 7 ((tu_kc (M 89) 0 ((l : Nat) : Int) (M 1 9).toNat : Nat) : Int)) 5 (((NP : Nat) : Int) - 1)) : tz_J M' ∧ y = ((tu_kc (M 89) 0 ((l : Nat) : Int) (M 1 9).toNat : Nat) : Int) := by
  have hB := hJ.1.ok
  have cn := hB.cnt
  have hsm := hJ.1.small
  have hA := hJ.1.ar
  have ekc : tu_kc (M 89) 0 ((l : Nat) : Int) (M 1 9).toNat = tu_kc (M 8) 0 ((l : Nat) : Int) (M 1 9).toNat := tz_kc_q (fun k hk => hJ.1.tn k (by omega))
  rw [hx 1 (by decide), hx 5 (by decide), hx 6 (by decide), hx 8 (by decide), Int.toNat_natCast] at h
  rcases h with ⟨h, -⟩ | ⟨h, N, hr, hM, hy⟩
  · omega
  · rw [ekc] at c90 ⊢
    refine ⟨?_, hy⟩
    have ec : ∀ i, i ≠ 0 → i ≠ 19 → (i < 22 ∨ 70 ≤ i) → N i = Mx i := fun i a b d => tz_rec hr a b d
    refine tz_Jof (tu_BO.kdropPhrase hB (l := l) (by show (l : Int) < M 1 4; omega)) (fun f hf => ?_) ?_ (tz_HS (hx.hs hJ.2) hr ?_ ?_ ?_ ?_)
    · rw [hM]
      revert f
      refine tz_f8 rfl ?_ ?_ ?_ rfl rfl ?_ rfl
      all_goals first
        | (show N 1 = M 1; rw [ec 1 (by decide) (by decide) (by decide)]; exact hx 1 (by decide))
        | (show N 2 = M 2; rw [ec 2 (by decide) (by decide) (by decide)]; exact hx 2 (by decide))
        | (show N 3 = M 3; rw [ec 3 (by decide) (by decide) (by decide)]; exact hx 3 (by decide))
        | (show N 4 = M 4; rw [ec 4 (by decide) (by decide) (by decide)]; exact hx 4 (by decide))
        | (show N 5 = M 5; rw [ec 5 (by decide) (by decide) (by decide)]; exact hx 5 (by decide))
        | (show N 6 = M 6; rw [ec 6 (by decide) (by decide) (by decide)]; exact hx 6 (by decide))
        | (show N 7 = M 7; rw [ec 7 (by decide) (by decide) (by decide)]; exact hx 7 (by decide))
        | (show N 8 = M 8; rw [ec 8 (by decide) (by decide) (by decide)]; exact hx 8 (by decide))
    · rw [hM]
      show tz_AR _ (N 86) (N 87) (N 88) (N 89) (N 90)
      rw [ec 86 (by decide) (by decide) (by decide), show N 87 = Mx 87 from ec 87 (by decide) (by decide) (by decide), ec 88 (by decide) (by decide) (by decide), ec 89 (by decide) (by decide) (by decide), ec 90 (by decide) (by decide) (by decide), r86, r88, c89, c90]
      obtain ⟨a1, ⟨a2, a3, a4, a5⟩, a6, a7, a8, a9, a10⟩ := hA
      have e4 : tu_u (tu_u (M 1) 4 (M 1 4 - 1)) 9 ((tu_kc (M 8) 0 ((l : Nat) : Int) (M 1 9).toNat : Nat) : Int) 4 = M 1 4 - 1 := by rw [tu_u_n _ _ (by decide), tu_u_s]
      have e9 : tu_u (tu_u (M 1) 4 (M 1 4 - 1)) 9 ((tu_kc (M 8) 0 ((l : Nat) : Int) (M 1 9).toNat : Nat) : Int) 9 = ((tu_kc (M 8) 0 ((l : Nat) : Int) (M 1 9).toNat : Nat) : Int) := tu_u_s _ _ _
      have e1 : tu_u (tu_u (M 1) 4 (M 1 4 - 1)) 9 ((tu_kc (M 8) 0 ((l : Nat) : Int) (M 1 9).toNat : Nat) : Int) 1 = M 1 1 := by rw [tu_u_n _ _ (by decide), tu_u_n _ _ (by decide)]
      have e7 : tu_u (tu_u (M 1) 4 (M 1 4 - 1)) 9 ((tu_kc (M 8) 0 ((l : Nat) : Int) (M 1 9).toNat : Nat) : Int) 7 = M 1 7 := by rw [tu_u_n _ _ (by decide), tu_u_n _ _ (by decide)]
      refine ⟨⟨by show tu_u (tu_u (M 1) 4 (M 1 4 - 1)) 9 ((tu_kc (M 8) 0 ((l : Nat) : Int) (M 1 9).toNat : Nat) : Int) 1 ≤ 6; rw [e1]; omega, by show tu_u (tu_u (M 1) 4 (M 1 4 - 1)) 9 ((tu_kc (M 8) 0 ((l : Nat) : Int) (M 1 9).toNat : Nat) : Int) 4 ≤ 4; rw [e4]; omega⟩, ⟨?_, ?_, ?_, ?_⟩, fun j hj => ?_, fun p hp => ?_, fun t ht => ?_, fun k hk => ?_, fun k hk => ?_⟩
      · rw [tu_u_n _ _ (by decide), tu_u_n _ _ (by decide)]; show _ = tu_u (tu_u (M 1) 4 (M 1 4 - 1)) 9 ((tu_kc (M 8) 0 ((l : Nat) : Int) (M 1 9).toNat : Nat) : Int) 1; rw [e1]; exact a2
      · rw [tu_u_s]; show _ = tu_u (tu_u (M 1) 4 (M 1 4 - 1)) 9 ((tu_kc (M 8) 0 ((l : Nat) : Int) (M 1 9).toNat : Nat) : Int) 4; rw [e4]; omega
      · rw [tu_u_n _ _ (by decide), tu_u_n _ _ (by decide)]; show _ = tu_u (tu_u (M 1) 4 (M 1 4 - 1)) 9 ((tu_kc (M 8) 0 ((l : Nat) : Int) (M 1 9).toNat : Nat) : Int) 7; rw [e7]; exact a4
      · rw [tu_u_n _ _ (by decide), tu_u_s]; show _ = tu_u (tu_u (M 1) 4 (M 1 4 - 1)) 9 ((tu_kc (M 8) 0 ((l : Nat) : Int) (M 1 9).toNat : Nat) : Int) 9; rw [e9]
      · rw [tu_u_n _ _ (by omega), tu_u_n _ _ (by omega)]; exact a6 j hj
      · have hp : (p : Int) < tu_u (tu_u (M 1) 4 (M 1 4 - 1)) 9 ((tu_kc (M 8) 0 ((l : Nat) : Int) (M 1 9).toNat : Nat) : Int) 1 := hp
        rw [e1] at hp
        exact a7 p hp
      · have ht : (t : Int) < tu_u (tu_u (M 1) 4 (M 1 4 - 1)) 9 ((tu_kc (M 8) 0 ((l : Nat) : Int) (M 1 9).toNat : Nat) : Int) 4 := ht
        rw [e4] at ht
        have es : ∀ q, tu_kp (tu_row (tu_row (tu_row (tu_row (tu_cb M) 0 (tu_u (tu_u (tu_cb M 0) 4 (tu_cb M 0 4 - 1)) 9 ((tu_kc (tu_cb M 7) 0 ((l : Nat) : Int) (tu_cb M 0 9).toNat : Nat) : Int))) 4 (va_cpy (tu_cb M 4) (tu_cb M 4) (l + 1) l ((tu_cb M 0 4).toNat - l - 1))) 5 (va_cpy (tu_cb M 5) (tu_cb M 5) ((l + 1) * 24) (l * 24) (((tu_cb M 0 4).toNat - l - 1) * 24))) 7 (tu_wr (tu_cb M 7) 0 ((l : Nat) : Int) (tu_cb M 0 9).toNat)) t q = va_cpy (M 6) (M 6) ((l + 1) * 24) (l * 24) (((M 1 4).toNat - l - 1) * 24) (t * 24 + q) := fun q => rfl
        show va_cpy (M 5) (M 5) (l + 1) l ((M 1 4).toNat - l - 1) t ≤ 9 ∧ Mx 87 (3 * t) = va_cpy (M 5) (M 5) (l + 1) l ((M 1 4).toNat - l - 1) t ∧ (tu_rg (Mx 87 (3 * t + 1)) ∧ tu_mk (Mx 87 (3 * t + 1)) (va_cpy (M 5) (M 5) (l + 1) l ((M 1 4).toNat - l - 1) t).toNat _) ∧ (tu_rg (Mx 87 (3 * t + 2)) ∧ tu_mk (Mx 87 (3 * t + 2)) (va_cpy (M 5) (M 5) (l + 1) l ((M 1 4).toNat - l - 1) t).toNat _)
        rw [c87 (3 * t) (by omega), c87 (3 * t + 1) (by omega), c87 (3 * t + 2) (by omega)]
        by_cases r : t < l
        · rw [va_cpy_out (by omega), if_neg (by omega), if_neg (by omega), if_neg (by omega)]
          have g := a8 t (by show (t : Int) < M 1 4; omega)
          have gs := hB.bts t (by omega)
          have eq : ∀ i, i < (M 5 t).toNat → tu_kp (tu_row (tu_row (tu_row (tu_row (tu_cb M) 0 (tu_u (tu_u (tu_cb M 0) 4 (tu_cb M 0 4 - 1)) 9 ((tu_kc (tu_cb M 7) 0 ((l : Nat) : Int) (tu_cb M 0 9).toNat : Nat) : Int))) 4 (va_cpy (tu_cb M 4) (tu_cb M 4) (l + 1) l ((tu_cb M 0 4).toNat - l - 1))) 5 (va_cpy (tu_cb M 5) (tu_cb M 5) ((l + 1) * 24) (l * 24) (((tu_cb M 0 4).toNat - l - 1) * 24))) 7 (tu_wr (tu_cb M 7) 0 ((l : Nat) : Int) (tu_cb M 0 9).toNat)) t i = tu_kp (tu_cb M) t i := fun i hi => by
            rw [es, va_cpy_out (by omega)]
            rfl
          refine ⟨g.1, g.2.1, ⟨g.2.2.1.1, g.2.2.1.2.q (fun i hi => ?_)⟩, ⟨g.2.2.2.1, g.2.2.2.2.q (fun i hi => ?_)⟩⟩
          · unfold tz_k2; rw [eq i hi]
          · unfold tz_k1; rw [eq i hi]
        · rw [va_cpy_in (by omega), if_pos (by omega), if_pos (by omega), if_pos (by omega), show l + 1 + (t - l) = t + 1 by omega, show 3 * t + 3 = 3 * (t + 1) by omega, show 3 * t + 1 + 3 = 3 * (t + 1) + 1 by omega, show 3 * t + 2 + 3 = 3 * (t + 1) + 2 by omega]
          have g := a8 (t + 1) (by show ((t + 1 : Nat) : Int) < M 1 4; omega)
          have gs := hB.bts (t + 1) (by omega)
          have eq : ∀ i, i < (M 5 (t + 1)).toNat → tu_kp (tu_row (tu_row (tu_row (tu_row (tu_cb M) 0 (tu_u (tu_u (tu_cb M 0) 4 (tu_cb M 0 4 - 1)) 9 ((tu_kc (tu_cb M 7) 0 ((l : Nat) : Int) (tu_cb M 0 9).toNat : Nat) : Int))) 4 (va_cpy (tu_cb M 4) (tu_cb M 4) (l + 1) l ((tu_cb M 0 4).toNat - l - 1))) 5 (va_cpy (tu_cb M 5) (tu_cb M 5) ((l + 1) * 24) (l * 24) (((tu_cb M 0 4).toNat - l - 1) * 24))) 7 (tu_wr (tu_cb M 7) 0 ((l : Nat) : Int) (tu_cb M 0 9).toNat)) t i = tu_kp (tu_cb M) (t + 1) i := fun i hi => by
            rw [es, va_cpy_in (by omega), show (l + 1) * 24 + (t * 24 + i - l * 24) = (t + 1) * 24 + i by omega]
            rfl
          refine ⟨g.1, g.2.1, ⟨g.2.2.1.1, g.2.2.1.2.q (fun i hi => ?_)⟩, ⟨g.2.2.2.1, g.2.2.2.2.q (fun i hi => ?_)⟩⟩
          · unfold tz_k2; rw [eq i hi]
          · unfold tz_k1; rw [eq i hi]
      · have hk : (k : Int) < tu_u (tu_u (M 1) 4 (M 1 4 - 1)) 9 ((tu_kc (M 8) 0 ((l : Nat) : Int) (M 1 9).toNat : Nat) : Int) 7 := hk
        rw [e7] at hk
        exact a9 k hk
      · have hk : (k : Int) < tu_u (tu_u (M 1) 4 (M 1 4 - 1)) 9 ((tu_kc (M 8) 0 ((l : Nat) : Int) (M 1 9).toNat : Nat) : Int) 9 := hk
        rw [e9] at hk
        exact tz_wr_q (fun k hk => hJ.1.tn k (by omega)) k (by omega)
    · rw [hM]; rfl
    · rw [hM]; rfl
    · rw [hM]; rfl
    · rw [hM]; rfl

