/-! small things that the law's acts want -/
theorem tz_hX1 {s : Nat} {w c : Int} (hs : s < 32) (hw : w = c) : ∀ i, i < 32 → tu_bi (tu_shl 1 ((s : Nat) : Int)) i = if i = s ∧ w = c then 1 else 0 := fun i hi => by
  rw [tu_bi_one hs hi]
  by_cases q : i = s
  · rw [if_pos q, if_pos ⟨q, hw⟩]
  · rw [if_neg q, if_neg (fun z => q z.1)]
theorem tz_hX0 {s : Nat} {w c : Int} (hw : w ≠ c) : ∀ i, i < 32 → tu_bi 0 i = if i = s ∧ w = c then 1 else 0 := fun i hi => by
  rw [tu_bi_0 hi, if_neg (fun z => hw z.2)]
theorem tz_f12 {a : Nat} {w : Int} (h : (a = 0 ∧ 1 ≤ w ∧ w ≤ 8) ∨ ((a = 1 ∨ a = 2) ∧ 0 ≤ w ∧ w ≤ 9) ∨ (a = 3 ∧ 0 ≤ w ∧ w ≤ 20)) : tu_f1 a ≤ w ∧ w ≤ tu_f2 a := by
  rcases h with ⟨rfl, h⟩ | ⟨rfl | rfl, h⟩ | ⟨rfl, h⟩
  · exact h
  · exact h
  · exact h
  · exact h
theorem tz_shl1 : ∀ n, n ≤ 5 → tu_shl 1 ((n : Nat) : Int) = ((2 ^ n : Nat) : Int) ∧ 1 ≤ 2 ^ n ∧ 2 ^ n ≤ 32 := by decide +kernel
theorem tz_inc0 {z : Int} {n : Nat} {f : Nat → Int} (h : tu_mk z n f) (hf : f n ≠ 1) : tu_mk z (n + 1) f := fun i hi => by
  rw [h i hi]
  by_cases r : i < n ∧ f i = 1
  · rw [if_pos r, if_pos ⟨by omega, r.2⟩]
  · rw [if_neg r, if_neg (fun q => by
      by_cases e : i = n
      · subst e; exact hf q.2
      · exact r ⟨by omega, q.2⟩)]
/-- numbers shifted down in a row -/
def tz_sh (f : Nat → Int) (a s k : Nat) : Nat → Int := fun i => if a ≤ i ∧ i < k then f (i + s) else f i
theorem tz_sh_0 (f : Nat → Int) (a s : Nat) : tz_sh f a s a = f := by
  funext i
  exact if_neg (by omega)
theorem tz_sh_at {f : Nat → Int} {a s k i : Nat} (h : k ≤ i) : tz_sh f a s k i = f i := if_neg (by omega)
theorem tz_sh_s {f : Nat → Int} {a s k : Nat} (h : a ≤ k) : tu_u (tz_sh f a s k) k (f (k + s)) = tz_sh f a s (k + 1) := by
  funext i
  rw [tu_u_if]
  unfold tz_sh
  by_cases q : i = k
  · subst q; rw [if_pos rfl, if_pos ⟨h, Nat.lt_succ_self _⟩]
  · rw [if_neg q]
    by_cases r : a ≤ i ∧ i < k
    · rw [if_pos r, if_pos (by omega)]
    · rw [if_neg r, if_neg (by omega)]
theorem tz_ux {f : Nat → Int} {k : Nat} {x : Int} (h : f k = x) : tu_u f k x = f := by
  funext j
  rw [tu_u_if]
  split
  · next q => rw [q, h]
  · rfl
theorem tz_uuv {f : Nat → Int} {k : Nat} {x y : Int} : tu_u (tu_u f k x) k y = tu_u f k y := by
  funext j
  by_cases q : j = k
  · subst q; rw [tu_u_s, tu_u_s]
  · rw [tu_u_n _ _ q, tu_u_n _ _ q, tu_u_n _ _ q]
/-- the pad while a line is put -/
def tz_pl (M0 Mp : tu_M) (S : Int) (k : Nat) : Prop := (∀ i, i ≠ 9 → i ≠ 10 → Mp i = M0 i) ∧ Mp 9 1 = ((k : Nat) : Int) ∧ ∀ j, j < k → Mp 10 j = if tu_bi S j = 1 then 88 else 120
theorem tz_pl_s {M0 Mp N : tu_M} {S u : Int} {k : Nat} (h : tz_pl M0 Mp S k) (hN : N = tu_row (tu_row Mp 9 (tu_u (Mp 9) 1 (((k : Nat) : Int) + 1))) 10 (tu_u (Mp 10) k u)) (hu : u = if tu_bi S k = 1 then 88 else 120) : tz_pl M0 N S (k + 1) := by
  obtain ⟨h1, h2, h3⟩ := h
  subst hN
  refine ⟨fun i a b => by rw [tu_row_n _ _ b, tu_row_n _ _ a]; exact h1 i a b, ?_, fun j hj => ?_⟩
  · rw [tu_row_n _ _ (by decide), tu_row_s, tu_u_s]; rfl
  · rw [tu_row_s, tu_u_if]
    by_cases q : j = k
    · rw [if_pos q, hu, q]
    · rw [if_neg q]; exact h3 j (by omega)
theorem tz_pl.rg {M0 Mp : tu_M} {S : Int} {k : Nat} (h : tz_pl M0 Mp S k) : ∀ j : Nat, (j : Int) < Mp 9 1 → tu_rg (Mp 10 j) := fun j hj => by
  rw [h.2.1] at hj
  rw [h.2.2 j (by omega)]
  split <;> exact ⟨by decide, by decide⟩
/-- the pad while a phrase is put -/
def tz_pp (M0 Mp : tu_M) (e b : Nat) (k : Nat → Int) : Prop := (∀ i, i ≠ 9 → i ≠ 10 → i ≠ 87 → Mp i = M0 i) ∧ Mp 9 1 = ((b : Nat) : Int) + 1 ∧ Mp 10 0 = 124 ∧ (∀ j, j < b → Mp 10 (j + 1) = if k j = 2 then 115 else if k j = 1 then 119 else 46) ∧ (∀ j, j < b → 0 ≤ k j ∧ k j ≤ 2) ∧
  ((tu_rg (Mp 87 (e + 1)) ∧ tu_mk (Mp 87 (e + 1)) b (tz_k2 k)) ∧ (tu_rg (Mp 87 (e + 2)) ∧ tu_mk (Mp 87 (e + 2)) b (tz_k1 k))) ∧ ∀ i, i ≤ e → Mp 87 i = M0 87 i
/-- its row with the beat's bit -/
def tz_pq (M0 Mq : tu_M) (e b : Nat) (k : Nat → Int) (x : Int) : Prop := (∀ i, i ≠ 9 → i ≠ 10 → i ≠ 87 → Mq i = M0 i) ∧ Mq 9 1 = ((b : Nat) : Int) + 1 ∧ Mq 10 0 = 124 ∧ (∀ j, j < b → Mq 10 (j + 1) = if k j = 2 then 115 else if k j = 1 then 119 else 46) ∧ (∀ j, j < b → 0 ≤ k j ∧ k j ≤ 2) ∧
  ((tu_rg (Mq 87 (e + 1)) ∧ tu_mk (Mq 87 (e + 1)) (b + 1) (tz_k2 (tu_u k b x))) ∧ (tu_rg (Mq 87 (e + 2)) ∧ tu_mk (Mq 87 (e + 2)) (b + 1) (tz_k1 (tu_u k b x)))) ∧ ∀ i, i ≤ e → Mq 87 i = M0 87 i
theorem tz_k2_u {k : Nat → Int} {b : Nat} {x : Int} : ∀ i, i < b → (tz_k2 (tu_u k b x) i = 1 ↔ tz_k2 k i = 1) := fun i hi => by
  unfold tz_k2
  rw [tu_u_n _ _ (by omega)]
theorem tz_k1_u {k : Nat → Int} {b : Nat} {x : Int} : ∀ i, i < b → (tz_k1 (tu_u k b x) i = 1 ↔ tz_k1 k i = 1) := fun i hi => by
  unfold tz_k1
  rw [tu_u_n _ _ (by omega)]
theorem tz_k2_b {k : Nat → Int} {b : Nat} {x : Int} : tz_k2 (tu_u k b x) b = if x = 2 then 1 else 0 := by unfold tz_k2; rw [tu_u_s]
theorem tz_k1_b {k : Nat → Int} {b : Nat} {x : Int} : tz_k1 (tu_u k b x) b = if x = 1 then 1 else 0 := by unfold tz_k1; rw [tu_u_s]
theorem tz_pp_2 {M0 Mp Mq : tu_M} {e b : Nat} {k : Nat → Int} (h : tz_pp M0 Mp e b k) (hb : b < 32) (hM : Mq = tu_row Mp 87 (tu_u (Mp 87) (e + 1) (tu_or (Mp 87 (e + 1)) (tu_shl 1 ((b : Nat) : Int))))) : tz_pq M0 Mq e b k 2 := by
  obtain ⟨h1, h2, h3, h4, h5, ⟨⟨h6, h7⟩, h8, h9⟩, h10⟩ := h
  subst hM
  refine ⟨fun i a c d => by rw [tu_row_n _ _ d]; exact h1 i a c d, h2, h3, h4, h5, ⟨⟨?_, ?_⟩, ?_, ?_⟩, fun i hi => ?_⟩
  · rw [tu_row_s, tu_u_s]; exact tu_rg_t _
  · rw [tu_row_s, tu_u_s]
    exact (h7.q tz_k2_u).add hb tz_k2_b
  · rw [tu_row_s, tu_u_n _ _ (by omega)]; exact h8
  · rw [tu_row_s, tu_u_n _ _ (by omega)]
    exact tz_inc0 (h9.q tz_k1_u) (by rw [tz_k1_b]; decide)
  · rw [tu_row_s, tu_u_n _ _ (by omega)]; exact h10 i hi
theorem tz_pp_1 {M0 Mp Mq : tu_M} {e b : Nat} {k : Nat → Int} (h : tz_pp M0 Mp e b k) (hb : b < 32) (hM : Mq = tu_row Mp 87 (tu_u (Mp 87) (e + 2) (tu_or (Mp 87 (e + 2)) (tu_shl 1 ((b : Nat) : Int))))) : tz_pq M0 Mq e b k 1 := by
  obtain ⟨h1, h2, h3, h4, h5, ⟨⟨h6, h7⟩, h8, h9⟩, h10⟩ := h
  subst hM
  refine ⟨fun i a c d => by rw [tu_row_n _ _ d]; exact h1 i a c d, h2, h3, h4, h5, ⟨⟨?_, ?_⟩, ?_, ?_⟩, fun i hi => ?_⟩
  · rw [tu_row_s, tu_u_n _ _ (by omega)]; exact h6
  · rw [tu_row_s, tu_u_n _ _ (by omega)]
    exact tz_inc0 (h7.q tz_k2_u) (by rw [tz_k2_b]; decide)
  · rw [tu_row_s, tu_u_s]; exact tu_rg_t _
  · rw [tu_row_s, tu_u_s]
    exact (h9.q tz_k1_u).add hb tz_k1_b
  · rw [tu_row_s, tu_u_n _ _ (by omega)]; exact h10 i hi
theorem tz_pp_0 {M0 Mp Mq : tu_M} {e b : Nat} {k : Nat → Int} (h : tz_pp M0 Mp e b k) (hM : Mq = Mp) : tz_pq M0 Mq e b k 0 := by
  obtain ⟨h1, h2, h3, h4, h5, ⟨⟨h6, h7⟩, h8, h9⟩, h10⟩ := h
  subst hM
  exact ⟨h1, h2, h3, h4, h5, ⟨⟨h6, tz_inc0 (h7.q tz_k2_u) (by rw [tz_k2_b]; decide)⟩, h8, tz_inc0 (h9.q tz_k1_u) (by rw [tz_k1_b]; decide)⟩, h10⟩
theorem tz_pq_s {M0 Mq N : tu_M} {e b : Nat} {k : Nat → Int} {x u : Int} (h : tz_pq M0 Mq e b k x) (hx : 0 ≤ x ∧ x ≤ 2) (hN : N = tu_row (tu_row Mq 9 (tu_u (Mq 9) 1 (((b + 1 : Nat) : Int) + 1))) 10 (tu_u (Mq 10) (b + 1) u)) (hu : u = if x = 2 then 115 else if x = 1 then 119 else 46) : tz_pp M0 N e (b + 1) (tu_u k b x) := by
  obtain ⟨h1, h2, h3, h4, h5, h6, h7⟩ := h
  subst hN
  refine ⟨fun i a c d => by rw [tu_row_n _ _ c, tu_row_n _ _ a]; exact h1 i a c d, ?_, ?_, fun j hj => ?_, fun j hj => ?_, h6, h7⟩
  · rw [tu_row_n _ _ (by decide), tu_row_s, tu_u_s]
  · rw [tu_row_s, tu_u_n _ _ (by omega)]; exact h3
  · rw [tu_row_s, tu_u_if]
    by_cases q : j = b
    · subst q; rw [if_pos rfl, tu_u_s]; exact hu
    · rw [if_neg (by omega), tu_u_n _ _ q]; exact h4 j (by omega)
  · by_cases q : j = b
    · subst q; rw [tu_u_s]; exact hx
    · rw [tu_u_n _ _ q]; exact h5 j (by omega)
theorem tz_pp.rg {M0 Mp : tu_M} {e b : Nat} {k : Nat → Int} (h : tz_pp M0 Mp e b k) : ∀ j : Nat, (j : Int) < Mp 9 1 → tu_rg (Mp 10 j) := fun j hj => by
  rw [h.2.1] at hj
  rcases Nat.eq_zero_or_pos j with z | z
  · rw [z, h.2.2.1]; exact ⟨by decide, by decide⟩
  · have := h.2.2.2.1 (j - 1) (by omega)
    rw [show j - 1 + 1 = j by omega] at this
    rw [this]
    split
    · exact ⟨by decide, by decide⟩
    · split <;> exact ⟨by decide, by decide⟩
theorem tz_hs9 {M Mp : tu_M} (h : ∀ i, i < 86 → i ≠ 9 → i ≠ 10 → Mp i = M i) (g : tu_HS M) : tu_HS Mp := by
  unfold tu_HS
  rw [h 0 (by decide) (by decide) (by decide), h 19 (by decide) (by decide) (by decide), h 20 (by decide) (by decide) (by decide), h 21 (by decide) (by decide) (by decide)]
  exact g
theorem tz_ok9 {M Mp : tu_M} (h : ∀ i, i < 86 → i ≠ 9 → i ≠ 10 → Mp i = M i) (g : tu_OK M) : tu_OK Mp := tu_BO.ext (B := tu_cb M) (B' := tu_cb Mp) g (fun f hf => h (1 + f) (by omega) (by omega) (by omega))
