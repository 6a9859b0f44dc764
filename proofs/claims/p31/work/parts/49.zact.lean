/-! THE RELATION as one of a book and the law's rows, and what an act leaves of it -/
def tz_AR (B : Nat → Nat → Int) (li ph ba tn q : Nat → Int) : Prop := (B 0 1 ≤ 6 ∧ B 0 4 ≤ 4) ∧ (q 4 = B 0 1 ∧ q 5 = B 0 4 ∧ q 6 = B 0 7 ∧ q 7 = B 0 9) ∧ (∀ j : Nat, j < 4 → q j = B 1 j) ∧
  (∀ l : Nat, (l : Int) < B 0 1 → B 2 l ≤ 5 ∧ li (2 * l) = B 2 l ∧ tu_rg (li (2 * l + 1)) ∧ tu_mk (li (2 * l + 1)) (B 2 l).toNat (tu_al B l)) ∧
  (∀ p : Nat, (p : Int) < B 0 4 → B 4 p ≤ 9 ∧ ph (3 * p) = B 4 p ∧ (tu_rg (ph (3 * p + 1)) ∧ tu_mk (ph (3 * p + 1)) (B 4 p).toNat (tz_k2 (tu_kp B p))) ∧ (tu_rg (ph (3 * p + 2)) ∧ tu_mk (ph (3 * p + 2)) (B 4 p).toNat (tz_k1 (tu_kp B p)))) ∧
  (∀ k : Nat, (k : Int) < B 0 7 → ba k = B 6 k) ∧ (∀ k : Nat, (k : Int) < B 0 9 → tn k = B 7 k)
theorem tz_AR.ext {B B' : Nat → Nat → Int} {li ph ba tn q : Nat → Int} (h : tz_AR B li ph ba tn q) (e : ∀ f, f < 8 → B' f = B f) : tz_AR B' li ph ba tn q := by
  unfold tz_AR
  rw [e 0 (by decide), e 1 (by decide), e 2 (by decide), e 4 (by decide), e 6 (by decide), e 7 (by decide), tz_al_q e, tz_kp_q e]
  exact h
theorem tz_R.ar {M : tu_M} (h : tz_R M) : tz_AR (tu_cb M) (M 86) (M 87) (M 88) (M 89) (M 90) := h.2
def tz_J (M : tu_M) : Prop := tz_R M ∧ tu_HS M
theorem tz_Jof {M' : tu_M} {B : Nat → Nat → Int} (hO : tu_BO B) (eb : ∀ f, f < 8 → M' (1 + f) = B f) (hA : tz_AR B (M' 86) (M' 87) (M' 88) (M' 89) (M' 90)) (hH : tu_HS M') : tz_J M' :=
  ⟨⟨hO.ext (B' := tu_cb M') eb, hA.ext (B' := tu_cb M') eb⟩, hH⟩
def tz_x (M Mx : tu_M) : Prop := ∀ i, i < 86 → Mx i = M i
theorem tz_x.rf (M : tu_M) : tz_x M M := fun _ _ => rfl
theorem tz_x.row {M Mx : tu_M} (h : tz_x M Mx) {j : Nat} (f : Nat → Int) (hj : 86 ≤ j) : tz_x M (tu_row Mx j f) := fun i hi => by rw [tu_row_n _ _ (by omega)]; exact h i hi
theorem tz_x.hs {M Mx : tu_M} (h : tz_x M Mx) (g : tu_HS M) : tu_HS Mx := by
  unfold tu_HS
  rw [h 0 (by decide), h 19 (by decide), h 20 (by decide), h 21 (by decide)]
  exact g
theorem tz_x.ok {M Mx : tu_M} (h : tz_x M Mx) (g : tu_OK M) : tu_OK Mx := tu_BO.ext (B := tu_cb M) (B' := tu_cb Mx) g (fun f hf => h (1 + f) (by omega))
theorem tz_HS {M N M' : tu_M} (h : tu_HS M) (hr : tu_rec M N) (e0 : M' 0 = N 0) (e19 : M' 19 = N 19) (e20 : M' 20 = N 20) (e21 : M' 21 = N 21) : tu_HS M' := by
  obtain ⟨r1, r2, r3, r4⟩ := hr
  obtain ⟨h1, h2, h3, h4⟩ := h
  unfold tu_HS
  rw [e0, e19, e20, e21, r1 20 (by decide) (by decide) (by decide), r1 21 (by decide) (by decide) (by decide)]
  refine ⟨r3, ?_, h3, h4⟩
  rcases r4 with ⟨a, b, -⟩ | ⟨a, b, -⟩ <;> omega
/-- a cell that a record and the change behind it don't touch -/
theorem tz_rec {M N : tu_M} (hr : tu_rec M N) {i : Nat} (h0 : i ≠ 0) (h19 : i ≠ 19) (h : i < 22 ∨ 70 ≤ i) : N i = M i := hr.1 i h0 h19 h
theorem tz_f8 {P : Nat → Prop} (h0 : P 0) (h1 : P 1) (h2 : P 2) (h3 : P 3) (h4 : P 4) (h5 : P 5) (h6 : P 6) (h7 : P 7) : ∀ f, f < 8 → P f := fun f hf => by
  rcases (show f = 0 ∨ f = 1 ∨ f = 2 ∨ f = 3 ∨ f = 4 ∨ f = 5 ∨ f = 6 ∨ f = 7 by omega) with e | e | e | e | e | e | e | e <;> subst e <;> assumption

theorem tz_sing {M Mx M' : tu_M} (hJ : tz_J M) (hx : tz_x M Mx) {l : Nat} {y : Int} (hl : (l : Int) < M 1 1) (h : ((¬ (0 ≤ (((l : Nat) : Int)) ∧ (((l : Nat) : Int)) < Mx 1 1)) ∧ M' = Mx ∧ y = -1) ∨ (((0 ≤ (((l : Nat) : Int)) ∧ (((l : Nat) : Int)) < Mx 1 1) ∧ Mx 1 7 = 40) ∧ M' = Mx ∧ y = -4) ∨ ((0 ≤ (((l : Nat) : Int)) ∧ (((l : Nat) : Int)) < Mx 1 1 ∧ Mx 1 7 < 40) ∧ ∃ N : tu_M, tu_rec Mx N ∧ M' = tu_row (tu_row N 1 (tu_u (Mx 1) 7 ((Mx 1 7) + 1))) 7 (tu_u (Mx 7) (Mx 1 7).toNat (((l : Nat) : Int))) ∧ y = Mx 1 7 + 1)) (r86 : Mx 86 = M 86) (r87 : Mx 87 = M 87) (r89 : Mx 89 = M 89)
    (hc : (M 1 7 < 40 ∧ Mx 88 = tu_u (M 88) (M 1 7).toNat ((l : Nat) : Int) ∧ Mx 90 = tu_u (M 90) 6 (M 1 7 + 1)) ∨ (M 1 7 = 40 ∧ Mx 88 = M 88 ∧ Mx 90 = M 90)) : (tz_J M' ∧ M' 90 = Mx 90) ∧ (M 1 7 < 40 → y = M 1 7 + 1) ∧ (M 1 7 = 40 → y = -4) := by
  have hB := hJ.1.ok
  have cn := hB.cnt
  have hA := hJ.1.ar
  rw [hx 1 (by decide), hx 7 (by decide)] at h
  rcases h with ⟨h, -⟩ | ⟨h, hM, hy⟩ | ⟨h, N, hr, hM, hy⟩
  · omega
  · rcases hc with ⟨hc, -⟩ | ⟨hc, c88, c90⟩
    · omega
    · refine ⟨⟨?_, by rw [hM]⟩, fun z => by omega, fun _ => hy⟩
      rw [hM]
      refine tz_Jof hB (fun f hf => hx (1 + f) (by omega)) ?_ (hx.hs hJ.2)
      rw [r86, r87, c88, r89, c90]
      exact hA
  · rcases hc with ⟨hc, c88, c90⟩ | ⟨hc, -⟩
    · have ec : ∀ i, i ≠ 0 → i ≠ 19 → (i < 22 ∨ 70 ≤ i) → N i = Mx i := fun i a b d => tz_rec hr a b d
      refine ⟨⟨?_, by rw [hM]; exact ec 90 (by decide) (by decide) (by decide)⟩, fun _ => hy, fun z => by omega⟩
      refine tz_Jof (tu_BO.ksing hB (l := ((l : Nat) : Int)) ⟨by omega, hl⟩ hc) (fun f hf => ?_) ?_ (tz_HS (hx.hs hJ.2) hr ?_ ?_ ?_ ?_)
      · rw [hM]
        revert f
        refine tz_f8 rfl ?_ ?_ ?_ ?_ ?_ rfl ?_
        all_goals first
          | (show N 2 = M 2; rw [ec 2 (by decide) (by decide) (by decide)]; exact hx 2 (by decide))
          | (show N 3 = M 3; rw [ec 3 (by decide) (by decide) (by decide)]; exact hx 3 (by decide))
          | (show N 4 = M 4; rw [ec 4 (by decide) (by decide) (by decide)]; exact hx 4 (by decide))
          | (show N 5 = M 5; rw [ec 5 (by decide) (by decide) (by decide)]; exact hx 5 (by decide))
          | (show N 6 = M 6; rw [ec 6 (by decide) (by decide) (by decide)]; exact hx 6 (by decide))
          | (show N 8 = M 8; rw [ec 8 (by decide) (by decide) (by decide)]; exact hx 8 (by decide))
      · rw [hM]
        show tz_AR _ (N 86) (N 87) (N 88) (N 89) (N 90)
        rw [ec 86 (by decide) (by decide) (by decide), ec 87 (by decide) (by decide) (by decide), ec 88 (by decide) (by decide) (by decide), ec 89 (by decide) (by decide) (by decide), ec 90 (by decide) (by decide) (by decide), r86, r87, c88, r89, c90]
        obtain ⟨a1, ⟨a2, a3, a4, a5⟩, a6, a7, a8, a9, a10⟩ := hA
        refine ⟨a1, ⟨?_, ?_, ?_, ?_⟩, fun j hj => ?_, a7, a8, fun k hk => ?_, a10⟩
        · rw [tu_u_n _ _ (by decide)]; exact a2
        · rw [tu_u_n _ _ (by decide)]; exact a3
        · show tu_u (M 90) 6 (M 1 7 + 1) 6 = tu_u (M 1) 7 (M 1 7 + 1) 7; rw [tu_u_s, tu_u_s]
        · rw [tu_u_n _ _ (by decide)]; exact a5
        · rw [tu_u_n _ _ (by omega)]; exact a6 j hj
        · have hk : (k : Int) < tu_u (M 1) 7 (M 1 7 + 1) 7 := hk
          rw [tu_u_s] at hk
          show tu_u (M 88) (M 1 7).toNat _ k = tu_u (M 7) (M 1 7).toNat _ k
          rw [tu_u_if, tu_u_if]
          split
          · rfl
          · exact a9 k (by show (k : Int) < M 1 7; omega)
      · rw [hM]; rfl
      · rw [hM]; rfl
      · rw [hM]; rfl
      · rw [hM]; rfl
    · omega

theorem tz_play {M Mx M' : tu_M} (hJ : tz_J M) (hx : tz_x M Mx) {l : Nat} {y : Int} (hl : (l : Int) < M 1 4) (h : ((¬ (0 ≤ (((l : Nat) : Int)) ∧ (((l : Nat) : Int)) < Mx 1 4)) ∧ M' = Mx ∧ y = -1) ∨ (((0 ≤ (((l : Nat) : Int)) ∧ (((l : Nat) : Int)) < Mx 1 4) ∧ Mx 1 9 = 8) ∧ M' = Mx ∧ y = -4) ∨ ((0 ≤ (((l : Nat) : Int)) ∧ (((l : Nat) : Int)) < Mx 1 4 ∧ Mx 1 9 < 8) ∧ ∃ N : tu_M, tu_rec Mx N ∧ M' = tu_row (tu_row N 1 (tu_u (Mx 1) 9 ((Mx 1 9) + 1))) 8 (tu_u (Mx 8) (Mx 1 9).toNat (((l : Nat) : Int))) ∧ y = Mx 1 9 + 1)) (r86 : Mx 86 = M 86) (r87 : Mx 87 = M 87) (r88 : Mx 88 = M 88)
    (hc : (M 1 9 < 8 ∧ Mx 89 = tu_u (M 89) (M 1 9).toNat ((l : Nat) : Int) ∧ Mx 90 = tu_u (M 90) 7 (M 1 9 + 1)) ∨ (M 1 9 = 8 ∧ Mx 89 = M 89 ∧ Mx 90 = M 90)) : (tz_J M' ∧ M' 90 = Mx 90) ∧ (M 1 9 < 8 → y = M 1 9 + 1) ∧ (M 1 9 = 8 → y = -4) := by
  have hB := hJ.1.ok
  have cn := hB.cnt
  have hA := hJ.1.ar
  rw [hx 1 (by decide), hx 8 (by decide)] at h
  rcases h with ⟨h, -⟩ | ⟨h, hM, hy⟩ | ⟨h, N, hr, hM, hy⟩
  · omega
  · rcases hc with ⟨hc, -⟩ | ⟨hc, c89, c90⟩
    · omega
    · refine ⟨⟨?_, by rw [hM]⟩, fun z => by omega, fun _ => hy⟩
      rw [hM]
      refine tz_Jof hB (fun f hf => hx (1 + f) (by omega)) ?_ (hx.hs hJ.2)
      rw [r86, r87, r88, c89, c90]
      exact hA
  · rcases hc with ⟨hc, c89, c90⟩ | ⟨hc, -⟩
    · have ec : ∀ i, i ≠ 0 → i ≠ 19 → (i < 22 ∨ 70 ≤ i) → N i = Mx i := fun i a b d => tz_rec hr a b d
      refine ⟨⟨?_, by rw [hM]; exact ec 90 (by decide) (by decide) (by decide)⟩, fun _ => hy, fun z => by omega⟩
      refine tz_Jof (tu_BO.kplay hB (l := ((l : Nat) : Int)) ⟨by omega, hl⟩ hc) (fun f hf => ?_) ?_ (tz_HS (hx.hs hJ.2) hr ?_ ?_ ?_ ?_)
      · rw [hM]
        revert f
        refine tz_f8 rfl ?_ ?_ ?_ ?_ ?_ ?_ rfl
        all_goals first
          | (show N 1 = M 1; rw [ec 1 (by decide) (by decide) (by decide)]; exact hx 1 (by decide))
          | (show N 2 = M 2; rw [ec 2 (by decide) (by decide) (by decide)]; exact hx 2 (by decide))
          | (show N 3 = M 3; rw [ec 3 (by decide) (by decide) (by decide)]; exact hx 3 (by decide))
          | (show N 4 = M 4; rw [ec 4 (by decide) (by decide) (by decide)]; exact hx 4 (by decide))
          | (show N 5 = M 5; rw [ec 5 (by decide) (by decide) (by decide)]; exact hx 5 (by decide))
          | (show N 6 = M 6; rw [ec 6 (by decide) (by decide) (by decide)]; exact hx 6 (by decide))
          | (show N 7 = M 7; rw [ec 7 (by decide) (by decide) (by decide)]; exact hx 7 (by decide))
          | (show N 8 = M 8; rw [ec 8 (by decide) (by decide) (by decide)]; exact hx 8 (by decide))
      · rw [hM]
        show tz_AR _ (N 86) (N 87) (N 88) (N 89) (N 90)
        rw [ec 86 (by decide) (by decide) (by decide), ec 87 (by decide) (by decide) (by decide), ec 88 (by decide) (by decide) (by decide), ec 89 (by decide) (by decide) (by decide), ec 90 (by decide) (by decide) (by decide), r86, r87, r88, c89, c90]
        obtain ⟨a1, ⟨a2, a3, a4, a5⟩, a6, a7, a8, a9, a10⟩ := hA
        refine ⟨a1, ⟨?_, ?_, ?_, ?_⟩, fun j hj => ?_, a7, a8, a9, fun k hk => ?_⟩
        · rw [tu_u_n _ _ (by decide)]; exact a2
        · rw [tu_u_n _ _ (by decide)]; exact a3
        · rw [tu_u_n _ _ (by decide)]; exact a4
        · show tu_u (M 90) 7 (M 1 9 + 1) 7 = tu_u (M 1) 9 (M 1 9 + 1) 9; rw [tu_u_s, tu_u_s]
        · rw [tu_u_n _ _ (by omega)]; exact a6 j hj
        · have hk : (k : Int) < tu_u (M 1) 9 (M 1 9 + 1) 9 := hk
          rw [tu_u_s] at hk
          show tu_u (M 89) (M 1 9).toNat _ k = tu_u (M 8) (M 1 9).toNat _ k
          rw [tu_u_if, tu_u_if]
          split
          · rfl
          · exact a10 k (by show (k : Int) < M 1 9; omega)
      · rw [hM]; rfl
      · rw [hM]; rfl
      · rw [hM]; rfl
      · rw [hM]; rfl
    · omega

theorem tz_vs_q {f g : Nat → Int} {o : Nat} {a b : Int} : ∀ (j : Nat), (∀ k, k < o → f k = g k) → ∀ k, k < o + 2 * j → tu_vs f o a b j k = tu_vs g o a b j k
  | 0, h, k, hk => h k (by omega)
  | j + 1, h, k, hk => by
    show tu_u (tu_u (tu_vs f o a b j) (o + 2 * j) (a + (j : Int))) (o + 2 * j + 1) b k = tu_u (tu_u (tu_vs g o a b j) (o + 2 * j) (a + (j : Int))) (o + 2 * j + 1) b k
    by_cases e : k = o + 2 * j + 1
    · rw [e, tu_u_s, tu_u_s]
    · rw [tu_u_n _ _ e, tu_u_n _ _ e]
      by_cases e2 : k = o + 2 * j
      · rw [e2, tu_u_s, tu_u_s]
      · rw [tu_u_n _ _ e2, tu_u_n _ _ e2]
        exact tz_vs_q j h k (by omega)

theorem tz_verse {M Mx M' : tu_M} (hJ : tz_J M) (hx : tz_x M Mx) {a d b : Nat} {y : Int} (ha : (a : Int) < M 1 1) (hd : (d : Int) < M 1 1) (hb : (b : Int) < M 1 1) (h : ((¬ ((0 ≤ (((a : Nat) : Int)) ∧ (((a : Nat) : Int)) < Mx 1 1) ∧ (0 ≤ (((d : Nat) : Int)) ∧ (((d : Nat) : Int)) < Mx 1 1) ∧ (0 ≤ (((b : Nat) : Int)) ∧ (((b : Nat) : Int)) < Mx 1 1))) ∧ M' = Mx ∧ y = -1) ∨ ((((0 ≤ (((a : Nat) : Int)) ∧ (((a : Nat) : Int)) < Mx 1 1) ∧ (0 ≤ (((d : Nat) : Int)) ∧ (((d : Nat) : Int)) < Mx 1 1) ∧ (0 ≤ (((b : Nat) : Int)) ∧ (((b : Nat) : Int)) < Mx 1 1)) ∧ (((d : Nat) : Int)) < (((a : Nat) : Int))) ∧ M' = Mx ∧ y = -2) ∨ ((((0 ≤ (((a : Nat) : Int)) ∧ (((a : Nat) : Int)) < Mx 1 1) ∧ (0 ≤ (((d : Nat) : Int)) ∧ (((d : Nat) : Int)) < Mx 1 1) ∧ (0 ≤ (((b : Nat) : Int)) ∧ (((b : Nat) : Int)) < Mx 1 1)) ∧ (((a : Nat) : Int)) ≤ (((d : Nat) : Int)) ∧ 40 < Mx 1 7 + 2 * ((((d : Nat) : Int)) - (((a : Nat) : Int)) + 1)) ∧ M' = Mx ∧ y = -4) ∨ ((((0 ≤ (((a : Nat) : Int)) ∧ (((a : Nat) : Int)) < Mx 1 1) ∧ (0 ≤ (((d : Nat) : Int)) ∧ (((d : Nat) : Int)) < Mx 1 1) ∧ (0 ≤ (((b : Nat) : Int)) ∧ (((b : Nat) : Int)) < Mx 1 1)) ∧ (((a : Nat) : Int)) ≤ (((d : Nat) : Int)) ∧ Mx 1 7 + 2 * ((((d : Nat) : Int)) - (((a : Nat) : Int)) + 1) ≤ 40) ∧ ∃ N : tu_M, tu_rec Mx N ∧ M' = tu_row (tu_row N 1 (tu_u (Mx 1) 7 (Mx 1 7 + 2 * ((((d : Nat) : Int)) - (((a : Nat) : Int)) + 1)))) 7 (tu_vs (Mx 7) (Mx 1 7).toNat (((a : Nat) : Int)) (((b : Nat) : Int)) ((((d : Nat) : Int)) - (((a : Nat) : Int)) + 1).toNat) ∧ y = Mx 1 7 + 2 * ((((d : Nat) : Int)) - (((a : Nat) : Int)) + 1))) (r86 : Mx 86 = M 86) (r87 : Mx 87 = M 87) (r89 : Mx 89 = M 89)
    (hc : ((a ≤ d ∧ M 1 7 + 2 * ((d : Int) - a + 1) ≤ 40) ∧ Mx 88 = tu_vs (M 88) (M 1 7).toNat ((a : Nat) : Int) ((b : Nat) : Int) (d + 1 - a) ∧ Mx 90 = tu_u (M 90) 6 (M 1 7 + 2 * ((d : Int) - a + 1))) ∨ (¬ (a ≤ d ∧ M 1 7 + 2 * ((d : Int) - a + 1) ≤ 40) ∧ Mx 88 = M 88 ∧ Mx 90 = M 90)) : (tz_J M' ∧ M' 90 = Mx 90) ∧ (d < a → y = -2) ∧ (a ≤ d → M 1 7 + 2 * ((d : Int) - a + 1) ≤ 40 → y = M 1 7 + 2 * ((d : Int) - a + 1)) ∧ (a ≤ d → 40 < M 1 7 + 2 * ((d : Int) - a + 1) → y = -4) := by
  have hB := hJ.1.ok
  have cn := hB.cnt
  have hA := hJ.1.ar
  rw [hx 1 (by decide), hx 7 (by decide)] at h
  have same : (M' = Mx ∧ Mx 88 = M 88 ∧ Mx 90 = M 90) → tz_J M' ∧ M' 90 = Mx 90 := by
    intro ⟨hM, c88, c90⟩
    refine ⟨?_, by rw [hM]⟩
    rw [hM]
    refine tz_Jof hB (fun f hf => hx (1 + f) (by omega)) ?_ (hx.hs hJ.2)
    rw [r86, r87, c88, r89, c90]
    exact hA
  rcases h with ⟨h, -⟩ | ⟨h, hM, hy⟩ | ⟨h, hM, hy⟩ | ⟨h, N, hr, hM, hy⟩
  · omega
  · rcases hc with ⟨hc, -⟩ | ⟨hc, c88, c90⟩
    · omega
    · exact ⟨same ⟨hM, c88, c90⟩, fun _ => hy, fun z => by omega, fun z => by omega⟩
  · rcases hc with ⟨hc, -⟩ | ⟨hc, c88, c90⟩
    · omega
    · exact ⟨same ⟨hM, c88, c90⟩, fun z => by omega, fun z => by omega, fun _ _ => hy⟩
  · rcases hc with ⟨hc, c88, c90⟩ | ⟨hc, -⟩
    · have ec : ∀ i, i ≠ 0 → i ≠ 19 → (i < 22 ∨ 70 ≤ i) → N i = Mx i := fun i a b d => tz_rec hr a b d
      refine ⟨⟨?_, by rw [hM]; exact ec 90 (by decide) (by decide) (by decide)⟩, fun z => by omega, fun _ _ => hy, fun z => by omega⟩
      refine tz_Jof (tu_BO.kverse hB (a := ((a : Nat) : Int)) (d := ((d : Nat) : Int)) (b := ((b : Nat) : Int)) ⟨by omega, ha⟩ ⟨by omega, hd⟩ ⟨by omega, hb⟩ (by omega) (by show M 1 7 + _ ≤ 40; omega)) (fun f hf => ?_) ?_ (tz_HS (hx.hs hJ.2) hr ?_ ?_ ?_ ?_)
      · rw [hM]
        revert f
        refine tz_f8 rfl ?_ ?_ ?_ ?_ ?_ rfl ?_
        all_goals first
          | (show N 1 = M 1; rw [ec 1 (by decide) (by decide) (by decide)]; exact hx 1 (by decide))
          | (show N 2 = M 2; rw [ec 2 (by decide) (by decide) (by decide)]; exact hx 2 (by decide))
          | (show N 3 = M 3; rw [ec 3 (by decide) (by decide) (by decide)]; exact hx 3 (by decide))
          | (show N 4 = M 4; rw [ec 4 (by decide) (by decide) (by decide)]; exact hx 4 (by decide))
          | (show N 5 = M 5; rw [ec 5 (by decide) (by decide) (by decide)]; exact hx 5 (by decide))
          | (show N 6 = M 6; rw [ec 6 (by decide) (by decide) (by decide)]; exact hx 6 (by decide))
          | (show N 7 = M 7; rw [ec 7 (by decide) (by decide) (by decide)]; exact hx 7 (by decide))
          | (show N 8 = M 8; rw [ec 8 (by decide) (by decide) (by decide)]; exact hx 8 (by decide))
      · rw [hM]
        show tz_AR _ (N 86) (N 87) (N 88) (N 89) (N 90)
        rw [ec 86 (by decide) (by decide) (by decide), ec 87 (by decide) (by decide) (by decide), ec 88 (by decide) (by decide) (by decide), ec 89 (by decide) (by decide) (by decide), ec 90 (by decide) (by decide) (by decide), r86, r87, c88, r89, c90]
        obtain ⟨a1, ⟨a2, a3, a4, a5⟩, a6, a7, a8, a9, a10⟩ := hA
        refine ⟨a1, ⟨?_, ?_, ?_, ?_⟩, fun j hj => ?_, a7, a8, fun k hk => ?_, a10⟩
        · rw [tu_u_n _ _ (by decide)]; exact a2
        · rw [tu_u_n _ _ (by decide)]; exact a3
        · show tu_u (M 90) 6 _ 6 = tu_u (M 1) 7 _ 7; rw [tu_u_s, tu_u_s]; rfl
        · rw [tu_u_n _ _ (by decide)]; exact a5
        · rw [tu_u_n _ _ (by omega)]; exact a6 j hj
        · have hk : (k : Int) < tu_u (M 1) 7 (M 1 7 + 2 * ((d : Int) - a + 1)) 7 := hk
          rw [tu_u_s] at hk
          show tu_vs (M 88) (M 1 7).toNat _ _ _ k = tu_vs (M 7) (M 1 7).toNat _ _ _ k
          rw [show (((d : Nat) : Int) - ((a : Nat) : Int) + 1).toNat = d + 1 - a by omega]
          refine tz_vs_q _ (fun q hq => a9 q (by show (q : Int) < M 1 7; omega)) k (by omega)
      · rw [hM]; rfl
      · rw [hM]; rfl
      · rw [hM]; rfl
      · rw [hM]; rfl
    · omega

theorem tz_stress {M M' : tu_M} (hJ : tz_J M) {l s : Nat} {w y X : Int} (hl : (l : Int) < M 1 1) (hs : (s : Int) < M 3 l) (hw : w = 0 ∨ w = 1) (h : ((¬ (0 ≤ (((l : Nat) : Int)) ∧ (((l : Nat) : Int)) < M 1 1 ∧ 0 ≤ (((s : Nat) : Int)) ∧ (((s : Nat) : Int)) < M 3 (((l : Nat) : Int)).toNat)) ∧ M' = M ∧ y = -1) ∨ ((0 ≤ (((l : Nat) : Int)) ∧ (((l : Nat) : Int)) < M 1 1 ∧ 0 ≤ (((s : Nat) : Int)) ∧ (((s : Nat) : Int)) < M 3 (((l : Nat) : Int)).toNat) ∧ ∃ N : tu_M, tu_rec M N ∧ M' = tu_row N 4 (tu_u (M 4) (((((l : Nat) : Int)) * 16) + (((s : Nat) : Int))).toNat w) ∧ y = M 4 (((((l : Nat) : Int)) * 16) + (((s : Nat) : Int))).toNat)) (hX : ∀ i, i < 32 → tu_bi X i = if i = s ∧ w = 1 then 1 else 0) :
    y = tu_bi (M 86 (2 * l + 1)) s ∧ (∀ i, 86 ≤ i → M' i = M i) ∧ tz_J (tu_row M' 86 (tu_u (M 86) (2 * l + 1) (tu_or (tu_and (M 86 (2 * l + 1)) (tu_xor (tu_shl 1 ((s : Nat) : Int)) (-1))) X))) := by
  have hB := hJ.1.ok
  have cn := hB.cnt
  have hA := hJ.1.ar
  have hsy := hB.syl l hl
  have hli := hJ.1.li l hl
  have hst := hB.str l s hl hs
  rw [Int.toNat_natCast, show ((l : Int) * 16 + (s : Int)).toNat = l * 16 + s by omega] at h
  rcases h with ⟨h, -⟩ | ⟨h, N, hr, hM, hy⟩
  · exact absurd ⟨by omega, hl, by omega, hs⟩ h
  · have ec : ∀ i, i ≠ 0 → i ≠ 19 → (i < 22 ∨ 70 ≤ i) → N i = M i := fun i a b d => tz_rec hr a b d
    have e8 : ∀ i, 86 ≤ i → M' i = M i := fun i hi => by rw [hM, tu_row_n _ _ (by omega)]; exact ec i (by omega) (by omega) (by omega)
    refine ⟨?_, e8, ?_⟩
    · rw [tz_bi hli.2.2.2 (show s < (M 3 l).toNat by omega) (by omega)]
      show y = if M 4 (l * 16 + s) = 1 then 1 else 0
      split <;> omega
    · have hx : ∀ i, i < 11 → i ≠ 0 → i ≠ 4 → M' i = M i := fun i a b c => by rw [hM, tu_row_n _ _ c]; exact ec i b (by omega) (by omega)
      refine tz_Jof (tu_BO.kstress hB (p := l * 16 + s) hw) (fun f hf => ?_) ?_ (tz_HS hJ.2 hr ?_ ?_ ?_ ?_)
      · rw [tu_row_n _ _ (by omega)]
        revert f
        refine tz_f8 (hx 1 (by decide) (by decide) (by decide)) (hx 2 (by decide) (by decide) (by decide)) (hx 3 (by decide) (by decide) (by decide)) (by rw [hM]; rfl) (hx 5 (by decide) (by decide) (by decide)) (hx 6 (by decide) (by decide) (by decide)) (hx 7 (by decide) (by decide) (by decide)) (hx 8 (by decide) (by decide) (by decide))
      · rw [tu_row_s, tu_row_n _ _ (by decide), tu_row_n _ _ (by decide), tu_row_n _ _ (by decide), tu_row_n _ _ (by decide), e8 87 (by decide), e8 88 (by decide), e8 89 (by decide), e8 90 (by decide)]
        obtain ⟨a1, a2, a6, a7, a8, a9, a10⟩ := hA
        refine ⟨a1, a2, a6, fun t ht => ?_, a8, a9, a10⟩
        have g := a7 t ht
        have gt := hB.syl t ht
        have es : tu_al (tu_row (tu_cb M) 3 (tu_u (tu_cb M 3) (l * 16 + s) w)) t = fun q => tu_u (M 4) (l * 16 + s) w (t * 16 + q) := rfl
        refine ⟨g.1, by rw [tu_u_n _ _ (by omega)]; exact g.2.1, ?_, ?_⟩
        · rw [tu_u_if]
          split
          · exact tu_rg_t _
          · exact g.2.2.1
        · show tu_mk (tu_u (M 86) (2 * l + 1) _ (2 * t + 1)) (M 3 t).toNat _
          rw [es]
          by_cases q : t = l
          · subst q
            rw [tu_u_s]
            have m := hli.2.2.2.set (s := s) (w := X) (b := w) (by omega) (by omega) hX
            refine m.q (fun i hi => ?_)
            show tu_u (M 4) (t * 16 + s) w (t * 16 + i) = 1 ↔ tu_u (tu_al (tu_cb M) t) s w i = 1
            by_cases z : i = s
            · subst z; rw [tu_u_s, tu_u_s]
            · rw [tu_u_n _ _ (by omega), tu_u_n _ _ z]; exact Iff.rfl
          · rw [tu_u_n _ _ (by omega)]
            refine g.2.2.2.q (fun i hi => ?_)
            have hi : i < (M 3 t).toNat := hi
            have hs16 : s < 16 := by omega
            show tu_u (M 4) (l * 16 + s) w (t * 16 + i) = 1 ↔ M 4 (t * 16 + i) = 1
            rw [tu_u_n _ _ (by omega)]
      · rw [tu_row_n _ _ (by decide), hM]; rfl
      · rw [tu_row_n _ _ (by decide), hM]; rfl
      · rw [tu_row_n _ _ (by decide), hM]; rfl
      · rw [tu_row_n _ _ (by decide), hM]; rfl

theorem tz_beat {M M' : tu_M} (hJ : tz_J M) {p b : Nat} {w y X1 X2 : Int} (hp : (p : Int) < M 1 4) (hb : (b : Int) < M 5 p) (hw : 0 ≤ w ∧ w ≤ 2) (h : ((¬ (0 ≤ (((p : Nat) : Int)) ∧ (((p : Nat) : Int)) < M 1 4 ∧ 0 ≤ (((b : Nat) : Int)) ∧ (((b : Nat) : Int)) < M 5 (((p : Nat) : Int)).toNat)) ∧ M' = M ∧ y = -1) ∨ (((0 ≤ (((p : Nat) : Int)) ∧ (((p : Nat) : Int)) < M 1 4 ∧ 0 ≤ (((b : Nat) : Int)) ∧ (((b : Nat) : Int)) < M 5 (((p : Nat) : Int)).toNat) ∧ ¬ (0 ≤ w ∧ w ≤ 2)) ∧ M' = M ∧ y = -2) ∨ ((0 ≤ (((p : Nat) : Int)) ∧ (((p : Nat) : Int)) < M 1 4 ∧ 0 ≤ (((b : Nat) : Int)) ∧ (((b : Nat) : Int)) < M 5 (((p : Nat) : Int)).toNat ∧ 0 ≤ w ∧ w ≤ 2) ∧ ∃ N : tu_M, tu_rec M N ∧ M' = tu_row N 6 (tu_u (M 6) (((((p : Nat) : Int)) * 24) + (((b : Nat) : Int))).toNat w) ∧ y = M 6 (((((p : Nat) : Int)) * 24) + (((b : Nat) : Int))).toNat)) (hX1 : ∀ i, i < 32 → tu_bi X1 i = if i = b ∧ w = 2 then 1 else 0) (hX2 : ∀ i, i < 32 → tu_bi X2 i = if i = b ∧ w = 1 then 1 else 0) :
    y = tu_kp (tu_cb M) p b ∧ (∀ i, 86 ≤ i → M' i = M i) ∧ tz_J (tu_row M' 87 (tu_u (tu_u (M 87) (3 * p + 1) (tu_or (tu_and (M 87 (3 * p + 1)) (tu_xor (tu_shl 1 ((b : Nat) : Int)) (-1))) X1)) (3 * p + 2) (tu_or (tu_and (M 87 (3 * p + 2)) (tu_xor (tu_shl 1 ((b : Nat) : Int)) (-1))) X2))) := by
  have hB := hJ.1.ok
  have cn := hB.cnt
  have hA := hJ.1.ar
  have hsy := hB.bts p hp
  have hph := hJ.1.ph p hp
  rw [Int.toNat_natCast, show ((p : Int) * 24 + (b : Int)).toNat = p * 24 + b by omega] at h
  rcases h with ⟨h, -⟩ | ⟨h, -⟩ | ⟨h, N, hr, hM, hy⟩
  · exact absurd ⟨by omega, hp, by omega, hb⟩ h
  · exact absurd hw h.2
  · have ec : ∀ i, i ≠ 0 → i ≠ 19 → (i < 22 ∨ 70 ≤ i) → N i = M i := fun i a b d => tz_rec hr a b d
    have e8 : ∀ i, 86 ≤ i → M' i = M i := fun i hi => by rw [hM, tu_row_n _ _ (by omega)]; exact ec i (by omega) (by omega) (by omega)
    refine ⟨hy, e8, ?_⟩
    · have hx : ∀ i, i < 11 → i ≠ 0 → i ≠ 6 → M' i = M i := fun i a b c => by rw [hM, tu_row_n _ _ c]; exact ec i b (by omega) (by omega)
      refine tz_Jof (tu_BO.kbeat hB (q := p * 24 + b) hw) (fun f hf => ?_) ?_ (tz_HS hJ.2 hr ?_ ?_ ?_ ?_)
      · rw [tu_row_n _ _ (by omega)]
        revert f
        refine tz_f8 (hx 1 (by decide) (by decide) (by decide)) (hx 2 (by decide) (by decide) (by decide)) (hx 3 (by decide) (by decide) (by decide)) (hx 4 (by decide) (by decide) (by decide)) (hx 5 (by decide) (by decide) (by decide)) (by rw [hM]; rfl) (hx 7 (by decide) (by decide) (by decide)) (hx 8 (by decide) (by decide) (by decide))
      · rw [tu_row_s, tu_row_n _ _ (by decide), tu_row_n _ _ (by decide), tu_row_n _ _ (by decide), tu_row_n _ _ (by decide), e8 86 (by decide), e8 88 (by decide), e8 89 (by decide), e8 90 (by decide)]
        obtain ⟨a1, a2, a6, a7, a8, a9, a10⟩ := hA
        refine ⟨a1, a2, a6, a7, fun t ht => ?_, a9, a10⟩
        have g := a8 t ht
        have gt := hB.bts t ht
        have es : tu_kp (tu_row (tu_cb M) 5 (tu_u (tu_cb M 5) (p * 24 + b) w)) t = fun q => tu_u (M 6) (p * 24 + b) w (t * 24 + q) := rfl
        have key : ∀ (x : Int) (o : Nat) (F : (Nat → Int) → Nat → Int) (c : Int), (∀ k i, F k i = if k i = c then 1 else 0) → (∀ i, i < 32 → tu_bi x i = if i = b ∧ w = c then 1 else 0) → tu_mk (M 87 (3 * p + o)) (M 5 p).toNat (F (tu_kp (tu_cb M) p)) → tu_mk (tu_or (tu_and (M 87 (3 * p + o)) (tu_xor (tu_shl 1 ((b : Nat) : Int)) (-1))) x) (M 5 p).toNat (F (fun q => tu_u (M 6) (p * 24 + b) w (p * 24 + q))) := by
          intro x o F c hF hx9 m
          have m2 := m.set (s := b) (w := x) (b := if w = c then 1 else 0) (by omega) (by omega) (fun i hi => by
            rw [hx9 i hi]
            by_cases z : w = c
            · simp [z]
            · simp [z])
          refine m2.q (fun i hi => ?_)
          rw [hF]
          by_cases z : i = b
          · subst z; rw [tu_u_s, tu_u_s]
          · rw [tu_u_n _ _ (by omega), tu_u_n _ _ z, hF]; exact Iff.rfl
        have same : ∀ (v : Int) (F : (Nat → Int) → Nat → Int) (c : Int), (∀ k i, F k i = if k i = c then 1 else 0) → t ≠ p → tu_mk v (M 5 t).toNat (F (tu_kp (tu_cb M) t)) → tu_mk v (M 5 t).toNat (F (fun q => tu_u (M 6) (p * 24 + b) w (t * 24 + q))) := by
          intro v F c hF htp m
          refine m.q (fun i hi => ?_)
          have hi : i < (M 5 t).toNat := hi
          have hb24 : b < 24 := by omega
          have gt2 : M 5 t ≤ 24 := gt.2
          rw [hF, hF]
          show (if tu_u (M 6) (p * 24 + b) w (t * 24 + i) = c then (1 : Int) else 0) = 1 ↔ (if M 6 (t * 24 + i) = c then (1 : Int) else 0) = 1
          rw [tu_u_n _ _ (by omega)]
        refine ⟨g.1, by rw [tu_u_n _ _ (by omega), tu_u_n _ _ (by omega)]; exact g.2.1, ⟨?_, ?_⟩, ⟨?_, ?_⟩⟩
        · rw [tu_u_n _ _ (by omega), tu_u_if]
          split
          · exact tu_rg_t _
          · exact g.2.2.1.1
        · show tu_mk (tu_u (tu_u (M 87) (3 * p + 1) _) (3 * p + 2) _ (3 * t + 1)) (M 5 t).toNat _
          rw [tu_u_n _ _ (by omega), es]
          by_cases q : t = p
          · subst q
            rw [tu_u_s]
            exact key X1 1 tz_k2 2 (fun _ _ => rfl) hX1 hph.2.2.1.2
          · rw [tu_u_n _ _ (by omega)]
            exact same _ tz_k2 2 (fun _ _ => rfl) q g.2.2.1.2
        · rw [tu_u_if]
          split
          · exact tu_rg_t _
          · rw [tu_u_n _ _ (by omega)]; exact g.2.2.2.1
        · show tu_mk (tu_u (tu_u (M 87) (3 * p + 1) _) (3 * p + 2) _ (3 * t + 2)) (M 5 t).toNat _
          rw [es]
          by_cases q : t = p
          · subst q
            rw [tu_u_s]
            exact key X2 2 tz_k1 1 (fun _ _ => rfl) hX2 hph.2.2.2.2
          · rw [tu_u_n _ _ (by omega), tu_u_n _ _ (by omega)]
            exact same _ tz_k1 1 (fun _ _ => rfl) q g.2.2.2.2
      · rw [tu_row_n _ _ (by decide), hM]; rfl
      · rw [tu_row_n _ _ (by decide), hM]; rfl
      · rw [tu_row_n _ _ (by decide), hM]; rfl
      · rw [tu_row_n _ _ (by decide), hM]; rfl

theorem tz_set {M M' : tu_M} (hJ : tz_J M) {a : Nat} {w y : Int} (ha : a < 4) (hw : tu_f1 a ≤ w ∧ w ≤ tu_f2 a) (h : ((¬ (0 ≤ (((a : Nat) : Int)) ∧ (((a : Nat) : Int)) < 4 ∧ tu_f1 (((a : Nat) : Int)).toNat ≤ w ∧ w ≤ tu_f2 (((a : Nat) : Int)).toNat)) ∧ M' = M ∧ y = -2) ∨ ((0 ≤ (((a : Nat) : Int)) ∧ (((a : Nat) : Int)) < 4 ∧ tu_f1 (((a : Nat) : Int)).toNat ≤ w ∧ w ≤ tu_f2 (((a : Nat) : Int)).toNat) ∧ ∃ N : tu_M, tu_rec M N ∧ M' = tu_row N 2 (tu_u (M 2) (((a : Nat) : Int)).toNat w) ∧ y = M 2 (((a : Nat) : Int)).toNat)) :
    y = M 2 a ∧ (∀ i, 86 ≤ i → M' i = M i) ∧ tz_J (tu_row M' 90 (tu_u (M 90) a w)) := by
  have hB := hJ.1.ok
  have hA := hJ.1.ar
  rw [Int.toNat_natCast] at h
  rcases h with ⟨h, -⟩ | ⟨h, N, hr, hM, hy⟩
  · exact absurd ⟨by omega, by omega, hw.1, hw.2⟩ h
  · have ec : ∀ i, i ≠ 0 → i ≠ 19 → (i < 22 ∨ 70 ≤ i) → N i = M i := fun i a b d => tz_rec hr a b d
    have e8 : ∀ i, 86 ≤ i → M' i = M i := fun i hi => by rw [hM, tu_row_n _ _ (by omega)]; exact ec i (by omega) (by omega) (by omega)
    refine ⟨hy, e8, ?_⟩
    have hx : ∀ i, i < 11 → i ≠ 0 → i ≠ 2 → M' i = M i := fun i a b c => by rw [hM, tu_row_n _ _ c]; exact ec i b (by omega) (by omega)
    refine tz_Jof (tu_BO.kset hB ha hw.1 hw.2) (fun f hf => ?_) ?_ (tz_HS hJ.2 hr ?_ ?_ ?_ ?_)
    · rw [tu_row_n _ _ (by omega)]
      revert f
      refine tz_f8 (hx 1 (by decide) (by decide) (by decide)) (by rw [hM]; rfl) (hx 3 (by decide) (by decide) (by decide)) (hx 4 (by decide) (by decide) (by decide)) (hx 5 (by decide) (by decide) (by decide)) (hx 6 (by decide) (by decide) (by decide)) (hx 7 (by decide) (by decide) (by decide)) (hx 8 (by decide) (by decide) (by decide))
    · rw [tu_row_s, tu_row_n _ _ (by decide), tu_row_n _ _ (by decide), tu_row_n _ _ (by decide), tu_row_n _ _ (by decide), e8 86 (by decide), e8 87 (by decide), e8 88 (by decide), e8 89 (by decide)]
      obtain ⟨a1, ⟨a2, a3, a4, a5⟩, a6, a7, a8, a9, a10⟩ := hA
      refine ⟨a1, ⟨?_, ?_, ?_, ?_⟩, fun j hj => ?_, a7, a8, a9, a10⟩
      · rw [tu_u_n _ _ (by omega)]; exact a2
      · rw [tu_u_n _ _ (by omega)]; exact a3
      · rw [tu_u_n _ _ (by omega)]; exact a4
      · rw [tu_u_n _ _ (by omega)]; exact a5
      · show tu_u (M 90) a w j = tu_u (M 2) a w j
        rw [tu_u_if, tu_u_if]
        split
        · rfl
        · exact a6 j hj
    · rw [tu_row_n _ _ (by decide), hM]; rfl
    · rw [tu_row_n _ _ (by decide), hM]; rfl
    · rw [tu_row_n _ _ (by decide), hM]; rfl
    · rw [tu_row_n _ _ (by decide), hM]; rfl

theorem tz_clear7 {M M' : tu_M} (hJ : tz_J M) {y : Int} (h : ((0 : Int) = 0 ∧ ∃ N : tu_M, tu_rec M N ∧ M' = tu_row N 1 (tu_u (M 1) 7 0) ∧ y = M 1 7) ∨ ((0 : Int) = 1 ∧ ∃ N : tu_M, tu_rec M N ∧ M' = tu_row N 1 (tu_u (M 1) 9 0) ∧ y = M 1 9)) :
    y = M 1 7 ∧ (∀ i, 86 ≤ i → M' i = M i) ∧ tz_J (tu_row M' 90 (tu_u (M 90) 6 0)) := by
  have hB := hJ.1.ok
  have hA := hJ.1.ar
  have h : ∃ N : tu_M, tu_rec M N ∧ M' = tu_row N 1 (tu_u (M 1) 7 0) ∧ y = M 1 7 := by
    rcases h with ⟨h, g⟩ | ⟨h, g⟩
    · first | exact g | exact absurd h (by decide)
    · first | exact absurd h (by decide) | exact g
  obtain ⟨N, hr, hM, hy⟩ := h
  have ec : ∀ i, i ≠ 0 → i ≠ 19 → (i < 22 ∨ 70 ≤ i) → N i = M i := fun i a b d => tz_rec hr a b d
  have e8 : ∀ i, 86 ≤ i → M' i = M i := fun i hi => by rw [hM, tu_row_n _ _ (by omega)]; exact ec i (by omega) (by omega) (by omega)
  refine ⟨hy, e8, ?_⟩
  have hx : ∀ i, i < 11 → i ≠ 0 → i ≠ 1 → M' i = M i := fun i a b c => by rw [hM, tu_row_n _ _ c]; exact ec i b (by omega) (by omega)
  refine tz_Jof (tu_BO.kclear7 hB) (fun f hf => ?_) ?_ (tz_HS hJ.2 hr ?_ ?_ ?_ ?_)
  · rw [tu_row_n _ _ (by omega)]
    revert f
    refine tz_f8 (by rw [hM]; rfl) (hx 2 (by decide) (by decide) (by decide)) (hx 3 (by decide) (by decide) (by decide)) (hx 4 (by decide) (by decide) (by decide)) (hx 5 (by decide) (by decide) (by decide)) (hx 6 (by decide) (by decide) (by decide)) (hx 7 (by decide) (by decide) (by decide)) (hx 8 (by decide) (by decide) (by decide))
  · rw [tu_row_s, tu_row_n _ _ (by decide), tu_row_n _ _ (by decide), tu_row_n _ _ (by decide), tu_row_n _ _ (by decide), e8 86 (by decide), e8 87 (by decide), e8 88 (by decide), e8 89 (by decide)]
    obtain ⟨a1, ⟨a2, a3, a4, a5⟩, a6, a7, a8, a9, a10⟩ := hA
    refine ⟨a1, ⟨?_, ?_, ?_, ?_⟩, fun j hj => ?_, a7, a8, fun k hk => ?_, a10⟩
    · rw [tu_u_n _ _ (by decide)]; exact a2
    · rw [tu_u_n _ _ (by decide)]; exact a3
    · rw [tu_u_s]; exact (tu_u_s (M 1) 7 0).symm
    · rw [tu_u_n _ _ (by decide)]; exact a5
    · rw [tu_u_n _ _ (by omega)]; exact a6 j hj
    · have hk : (k : Int) < tu_u (M 1) 7 0 7 := hk
      rw [tu_u_s] at hk
      omega
  · rw [tu_row_n _ _ (by decide), hM]; rfl
  · rw [tu_row_n _ _ (by decide), hM]; rfl
  · rw [tu_row_n _ _ (by decide), hM]; rfl
  · rw [tu_row_n _ _ (by decide), hM]; rfl

theorem tz_clear9 {M M' : tu_M} (hJ : tz_J M) {y : Int} (h : ((1 : Int) = 0 ∧ ∃ N : tu_M, tu_rec M N ∧ M' = tu_row N 1 (tu_u (M 1) 7 0) ∧ y = M 1 7) ∨ ((1 : Int) = 1 ∧ ∃ N : tu_M, tu_rec M N ∧ M' = tu_row N 1 (tu_u (M 1) 9 0) ∧ y = M 1 9)) :
    y = M 1 9 ∧ (∀ i, 86 ≤ i → M' i = M i) ∧ tz_J (tu_row M' 90 (tu_u (M 90) 7 0)) := by
  have hB := hJ.1.ok
  have hA := hJ.1.ar
  have h : ∃ N : tu_M, tu_rec M N ∧ M' = tu_row N 1 (tu_u (M 1) 9 0) ∧ y = M 1 9 := by
    rcases h with ⟨h, g⟩ | ⟨h, g⟩
    · first | exact g | exact absurd h (by decide)
    · first | exact absurd h (by decide) | exact g
  obtain ⟨N, hr, hM, hy⟩ := h
  have ec : ∀ i, i ≠ 0 → i ≠ 19 → (i < 22 ∨ 70 ≤ i) → N i = M i := fun i a b d => tz_rec hr a b d
  have e8 : ∀ i, 86 ≤ i → M' i = M i := fun i hi => by rw [hM, tu_row_n _ _ (by omega)]; exact ec i (by omega) (by omega) (by omega)
  refine ⟨hy, e8, ?_⟩
  have hx : ∀ i, i < 11 → i ≠ 0 → i ≠ 1 → M' i = M i := fun i a b c => by rw [hM, tu_row_n _ _ c]; exact ec i b (by omega) (by omega)
  refine tz_Jof (tu_BO.kclear9 hB) (fun f hf => ?_) ?_ (tz_HS hJ.2 hr ?_ ?_ ?_ ?_)
  · rw [tu_row_n _ _ (by omega)]
    revert f
    refine tz_f8 (by rw [hM]; rfl) (hx 2 (by decide) (by decide) (by decide)) (hx 3 (by decide) (by decide) (by decide)) (hx 4 (by decide) (by decide) (by decide)) (hx 5 (by decide) (by decide) (by decide)) (hx 6 (by decide) (by decide) (by decide)) (hx 7 (by decide) (by decide) (by decide)) (hx 8 (by decide) (by decide) (by decide))
  · rw [tu_row_s, tu_row_n _ _ (by decide), tu_row_n _ _ (by decide), tu_row_n _ _ (by decide), tu_row_n _ _ (by decide), e8 86 (by decide), e8 87 (by decide), e8 88 (by decide), e8 89 (by decide)]
    obtain ⟨a1, ⟨a2, a3, a4, a5⟩, a6, a7, a8, a9, a10⟩ := hA
    refine ⟨a1, ⟨?_, ?_, ?_, ?_⟩, fun j hj => ?_, a7, a8, a9, fun k hk => ?_⟩
    · rw [tu_u_n _ _ (by decide)]; exact a2
    · rw [tu_u_n _ _ (by decide)]; exact a3
    · rw [tu_u_n _ _ (by decide)]; exact a4
    · rw [tu_u_s]; exact (tu_u_s (M 1) 9 0).symm
    · rw [tu_u_n _ _ (by omega)]; exact a6 j hj
    · have hk : (k : Int) < tu_u (M 1) 9 0 9 := hk
      rw [tu_u_s] at hk
      omega
  · rw [tu_row_n _ _ (by decide), hM]; rfl
  · rw [tu_row_n _ _ (by decide), hM]; rfl
  · rw [tu_row_n _ _ (by decide), hM]; rfl
  · rw [tu_row_n _ _ (by decide), hM]; rfl

