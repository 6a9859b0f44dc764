/-! the ballad on a tune, on a phrase: sums over its places, and over the lines -/
theorem tz_sm_add {f g : Nat → Int} : ∀ n, tu_sm (fun k => f k + g k) n = tu_sm f n + tu_sm g n
  | 0 => rfl
  | n + 1 => by
    show tu_sm (fun k => f k + g k) n + (f n + g n) = (tu_sm f n + f n) + (tu_sm g n + g n)
    rw [tz_sm_add n]
    omega
theorem tz_sm_one {g : Nat → Int} {i : Nat} : ∀ n, tu_sm (fun j => if i = j then g j else 0) n = if i < n then g i else 0
  | 0 => rfl
  | n + 1 => by
    show tu_sm (fun j => if i = j then g j else 0) n + (if i = n then g n else 0) = _
    rw [tz_sm_one n]
    by_cases h : i = n
    · subst h
      rw [if_neg (Nat.lt_irrefl _), if_pos rfl, if_pos (Nat.lt_succ_self _), Int.zero_add]
    · rw [if_neg h, Int.add_zero]
      by_cases h2 : i < n
      · rw [if_pos h2, if_pos (by omega)]
      · rw [if_neg h2, if_neg (by omega)]
theorem tz_cnt {f g : Nat → Int} {n : Nat} : ∀ N, (∀ k, k < N → 0 ≤ f k ∧ f k < (n : Int)) → tu_sm (fun k => g (f k).toNat) N = tu_sm (fun j => tu_ti f ((j : Nat) : Int) N * g j) n
  | 0, _ => by
    have : ∀ n, tu_sm (fun j => tu_ti f ((j : Nat) : Int) 0 * g j) n = 0 := fun n => by
      induction n with
      | zero => rfl
      | succ n ih => show tu_sm (fun j => tu_ti f ((j : Nat) : Int) 0 * g j) n + 0 * g n = 0; rw [ih, Int.zero_mul]; rfl
    exact (this n).symm
  | N + 1, h => by
    have ih := tz_cnt (f := f) (g := g) (n := n) N (fun k hk => h k (by omega))
    have hN := h N (Nat.lt_succ_self N)
    show tu_sm (fun k => g (f k).toNat) N + g (f N).toNat = _
    rw [ih, tz_sm_q (f := fun j => tu_ti f ((j : Nat) : Int) (N + 1) * g j) (h := fun j => tu_ti f ((j : Nat) : Int) N * g j + (if (f N).toNat = j then g j else 0)) (fun j hj => by
      show (tu_ti f ((j : Nat) : Int) N + (if f N = ((j : Nat) : Int) then 1 else 0)) * g j = _
      rw [Int.add_mul]
      by_cases q : f N = ((j : Nat) : Int)
      · rw [if_pos q, if_pos (by omega), Int.one_mul]
      · rw [if_neg q, if_neg (by omega), Int.zero_mul]), tz_sm_add, tz_sm_one, if_pos (by omega)]
theorem tz_uq {B : Nat → Nat → Int} {q n N : Nat} (hN : B 0 7 = (N : Int)) (h : ∀ k, k < N → 0 ≤ B 6 k ∧ B 6 k < (n : Int)) : tu_sm (fun k => if tu_co B (B 6 k).toNat q < 1000000 then 0 else 1) N = tu_uq B q n := by
  have e := tz_cnt (f := B 6) (g := fun j => if tu_co B j q < 1000000 then 0 else 1) N h
  have e2 : tu_sm (fun k => if tu_co B (B 6 k).toNat q < 1000000 then 0 else 1) N = tu_sm (fun j => tu_ti (B 6) ((j : Nat) : Int) N * (if tu_co B j q < 1000000 then 0 else 1)) n := e
  rw [e2]
  unfold tu_uq
  rw [hN]
  exact tz_sm_q (fun j hj => by
    show _ * (if tu_co B j q < 1000000 then (0 : Int) else 1) = (if tu_co B j q < 1000000 then 0 else tu_ti (B 6) ((j : Nat) : Int) N)
    split
    · rw [Int.mul_zero]
    · rw [Int.mul_one])
theorem tz_sq {B : Nat → Nat → Int} {q n N : Nat} (hN : B 0 7 = (N : Int)) (h : ∀ k, k < N → 0 ≤ B 6 k ∧ B 6 k < (n : Int)) : tu_sm (fun k => if tu_co B (B 6 k).toNat q < 1000000 then tu_co B (B 6 k).toNat q else 0) N = tu_sq2 B q n := by
  have e := tz_cnt (f := B 6) (g := fun j => if tu_co B j q < 1000000 then tu_co B j q else 0) N h
  have e2 : tu_sm (fun k => if tu_co B (B 6 k).toNat q < 1000000 then tu_co B (B 6 k).toNat q else 0) N = tu_sm (fun j => tu_ti (B 6) ((j : Nat) : Int) N * (if tu_co B j q < 1000000 then tu_co B j q else 0)) n := e
  rw [e2]
  unfold tu_sq2
  rw [hN]
  exact tz_sm_q (fun j hj => by
    show _ * (if tu_co B j q < 1000000 then tu_co B j q else 0) = (if tu_co B j q < 1000000 then tu_ti (B 6) ((j : Nat) : Int) N * tu_co B j q else 0)
    split
    · rfl
    · rw [Int.mul_zero])
/-- the best phrase so far: e phrases and one pass are behind us -/
def tz_b9 (B : Nat → Nat → Int) (n e : Nat) (bs fw ls : Int) : Prop := (bs = (tu_bq B n (e - 1)).1 ∧ fw = (tu_bq B n (e - 1)).2.1 ∧ ls = (tu_bq B n (e - 1)).2.2) ∧ (bs = -6 ∨ (0 ≤ bs ∧ bs < e)) ∧ (0 ≤ fw ∧ fw ≤ 40) ∧ (0 ≤ ls ∧ ls ≤ 40000000)
theorem tz_b9_0 (B : Nat → Nat → Int) (n : Nat) : tz_b9 B n 0 (-6) 0 0 := ⟨⟨rfl, rfl, rfl⟩, Or.inl rfl, by decide, by decide⟩
theorem tz_b9_1 {B : Nat → Nat → Int} {n e : Nat} {bs fw ls : Int} (h : tz_b9 B n e bs fw ls) (he : e = 0) : tz_b9 B n (e + 1) bs fw ls := by
  subst he
  exact ⟨h.1, by have := h.2.1; omega, h.2.2⟩
theorem tz_b9_hit {B : Nat → Nat → Int} {n e : Nat} {bs fw ls u s x : Int} (h : tz_b9 B n e bs fw ls) (he : 1 ≤ e) (hu : u = tu_uq B (e - 1) n) (hs : s = tu_sq2 B (e - 1) n) (hr : (0 ≤ u ∧ u ≤ 40) ∧ (0 ≤ s ∧ s ≤ 40000000)) (hx : x = (e : Int) - 1) (hc : bs < 0 ∨ u < fw ∨ (u = fw ∧ s < ls)) : tz_b9 B n (e + 1) x u s := by
  obtain ⟨⟨h1, h2, h3⟩, h4, h5⟩ := h
  have e1 : tu_bq B n (e + 1 - 1) = (((e - 1 : Nat) : Int), tu_uq B (e - 1) n, tu_sq2 B (e - 1) n) := by
    rw [show e + 1 - 1 = (e - 1) + 1 by omega, tu_bq_s, if_pos (by omega)]
  refine ⟨?_, by omega, hr⟩
  rw [e1]
  exact ⟨by show x = ((e - 1 : Nat) : Int); omega, hu, hs⟩
theorem tz_b9_miss {B : Nat → Nat → Int} {n e : Nat} {bs fw ls u s : Int} (h : tz_b9 B n e bs fw ls) (he : 1 ≤ e) (hu : u = tu_uq B (e - 1) n) (hs : s = tu_sq2 B (e - 1) n) (hb : 0 ≤ bs) (hc : fw < u ∨ (u = fw ∧ ls ≤ s)) : tz_b9 B n (e + 1) bs fw ls := by
  obtain ⟨⟨h1, h2, h3⟩, h4, h5⟩ := h
  have e1 : tu_bq B n (e + 1 - 1) = tu_bq B n (e - 1) := by
    rw [show e + 1 - 1 = (e - 1) + 1 by omega, tu_bq_s, if_neg (by omega)]
  refine ⟨?_, by omega, h5⟩
  rw [e1]
  exact ⟨h1, h2, h3⟩
theorem tz_co_rg {B : Nat → Nat → Int} {l p : Nat} (g : tz_ok B l p) : 0 ≤ tu_co B l p ∧ tu_co B l p ≤ 1000000 := by
  obtain ⟨L, a, k, r, c, hK, hTK, hT⟩ := tu_exB g.1 g.2.1 g.2.2.1
  rw [← hTK.co hK hT]
  exact hT.rg hK
/-! the first of the lowest, from above -/
def tz_fm (f : Nat → Int) (j n : Nat) (b c : Int) : Prop := (b = -6 ∧ c = -6 ∧ ∀ i, j ≤ i → i < n → 1000000 ≤ f i) ∨ (∃ q : Nat, b = (q : Int) ∧ (j ≤ q ∧ q < n) ∧ c = f q ∧ (0 ≤ f q ∧ f q < 1000000) ∧ (∀ i, j ≤ i → i < q → f q < f i) ∧ ∀ i, j ≤ i → i < n → f q ≤ f i)
theorem tz_fm_0 (f : Nat → Int) (n : Nat) : tz_fm f n n (-6) (-6) := Or.inl ⟨rfl, rfl, fun i a b => by omega⟩
theorem tz_fm_miss {f : Nat → Int} {j n : Nat} {b c : Int} (h : tz_fm f j n b c) (hj : 1 ≤ j) (hc : f (j - 1) = 1000000 ∨ (0 ≤ c ∧ c < f (j - 1))) : tz_fm f (j - 1) n b c := by
  rcases h with ⟨h1, h2, h3⟩ | ⟨q, h1, h2, h3, h4, h5, h6⟩
  · refine Or.inl ⟨h1, h2, fun i a d => ?_⟩
    rcases Nat.eq_or_lt_of_le a with e | e
    · rw [← e]; omega
    · exact h3 i (by omega) d
  · refine Or.inr ⟨q, h1, by omega, h3, h4, fun i a d => ?_, fun i a d => ?_⟩
    · rcases Nat.eq_or_lt_of_le a with e | e
      · rw [← e]; omega
      · exact h5 i (by omega) d
    · rcases Nat.eq_or_lt_of_le a with e | e
      · rw [← e]; omega
      · exact h6 i (by omega) d
theorem tz_fm_hit {f : Nat → Int} {j n : Nat} {b c x y : Int} (h : tz_fm f j n b c) (hj : 1 ≤ j) (hn : j ≤ n) (hx : x = (j : Int) - 1) (hy : y = f (j - 1)) (hf : 0 ≤ f (j - 1) ∧ f (j - 1) < 1000000) (hc : c < 0 ∨ f (j - 1) ≤ c) : tz_fm f (j - 1) n x y := by
  refine Or.inr ⟨j - 1, by omega, by omega, hy, hf, fun i a d => by omega, fun i a d => ?_⟩
  rcases Nat.eq_or_lt_of_le a with e | e
  · rw [← e]; exact Int.le_refl _
  · rcases h with ⟨h1, h2, h3⟩ | ⟨q, h1, h2, h3, h4, h5, h6⟩
    · have := h3 i (by omega) d
      omega
    · have := h6 i (by omega) d
      omega
theorem tz_bp_p {f : Nat → Int} : ∀ n, ((tu_bp 1000000 f n).1 = -6 ∧ (tu_bp 1000000 f n).2 = 1000000 ∧ ∀ i, i < n → 1000000 ≤ f i) ∨ (∃ q : Nat, (tu_bp 1000000 f n).1 = (q : Int) ∧ q < n ∧ (tu_bp 1000000 f n).2 = f q ∧ f q < 1000000 ∧ (∀ i, i < q → f q < f i) ∧ ∀ i, i < n → f q ≤ f i)
  | 0 => Or.inl ⟨rfl, rfl, fun i a => by omega⟩
  | n + 1 => by
    have ih := tz_bp_p (f := f) n
    by_cases h : f n < (tu_bp 1000000 f n).2
    · have e : tu_bp 1000000 f (n + 1) = ((n : Int), f n) := if_pos h
      rw [e]
      refine Or.inr ⟨n, rfl, Nat.lt_succ_self n, rfl, ?_, fun i a => ?_, fun i a => ?_⟩
      · rcases ih with ⟨-, g, -⟩ | ⟨q, -, -, g2, g3, -⟩ <;> omega
      · rcases ih with ⟨-, g1, g2⟩ | ⟨q, -, -, g2, g3, -, g5⟩
        · have := g2 i a; omega
        · have := g5 i a; omega
      · rcases Nat.lt_or_ge i n with z | z
        · rcases ih with ⟨-, g1, g2⟩ | ⟨q, -, -, g2, g3, -, g5⟩
          · have := g2 i z; omega
          · have := g5 i z; omega
        · rw [show i = n by omega]; exact Int.le_refl _
    · have e : tu_bp 1000000 f (n + 1) = tu_bp 1000000 f n := if_neg h
      rw [e]
      rcases ih with ⟨g0, g1, g2⟩ | ⟨q, g0, g1, g2, g3, g4, g5⟩
      · refine Or.inl ⟨g0, g1, fun i a => ?_⟩
        rcases Nat.lt_or_ge i n with z | z
        · exact g2 i z
        · rw [show i = n by omega]; omega
      · refine Or.inr ⟨q, g0, by omega, g2, g3, g4, fun i a => ?_⟩
        rcases Nat.lt_or_ge i n with z | z
        · exact g5 i z
        · rw [show i = n by omega]; omega
theorem tz_fm_bp {f : Nat → Int} {n : Nat} {b c : Int} (h : tz_fm f 0 n b c) : (tu_bp 1000000 f n).1 = b ∧ (b = -6 → c = -6) ∧ (b ≠ -6 → (tu_bp 1000000 f n).2 = c) := by
  rcases tz_bp_p (f := f) n with ⟨g0, g1, g2⟩ | ⟨q, g0, g1, g2, g3, g4, g5⟩
  · rcases h with ⟨h1, h2, h3⟩ | ⟨p, h1, h2, h3, h4, h5, h6⟩
    · exact ⟨by omega, fun _ => h2, fun z => absurd h1 z⟩
    · have := g2 p h2.2; omega
  · rcases h with ⟨h1, h2, h3⟩ | ⟨p, h1, h2, h3, h4, h5, h6⟩
    · have := h3 q (Nat.zero_le _) g1; omega
    · have a1 := g5 p h2.2
      have a2 := h6 q (Nat.zero_le _) g1
      have e : p = q := by
        rcases Nat.lt_trichotomy p q with z | z | z
        · have := g4 p z; omega
        · exact z
        · have := h5 q (Nat.zero_le _) z; omega
      subst e
      exact ⟨by omega, fun z => by omega, fun _ => by omega⟩
/-! more breath costs no more -/
theorem tz_mn_mono {i i' : Int} {f f' : Nat → Int} {N : Nat} (hi : i' ≤ i) (hf : ∀ h, 1 ≤ h → h ≤ N → f' h ≤ f h) : ∀ N', N ≤ N' → tu_mn i' f' N' ≤ tu_mn i f N := by
  have base : ∀ N, (∀ h, 1 ≤ h → h ≤ N → f' h ≤ f h) → tu_mn i' f' N ≤ tu_mn i f N := by
    intro N
    induction N with
    | zero => intro _; exact hi
    | succ N ih =>
      intro h
      have a := ih (fun q h1 h2 => h q h1 (by omega))
      have b := h (N + 1) (by omega) (Nat.le_refl _)
      unfold tu_mn
      omega
  intro N' hN
  induction N' with
  | zero => rw [show N = 0 by omega]; exact hi
  | succ N' ih =>
    rcases Nat.lt_or_ge N' N with z | z
    · have e : N = N' + 1 := by omega
      subst e
      exact base _ hf
    · have := ih z
      show min (tu_mn i' f' N') (f' (N' + 1)) ≤ _
      omega
theorem tz_t_mono {L L' a k : Nat → Int} {q q' : Nat → Nat} {n m : Nat} (h1 : L' 1 = L 1) (h2 : L' 2 = L 2) (h3 : L' 3 = L 3) (hq : ∀ b, b < m → q b ≤ q' b) : ∀ d, ∀ e, e ≤ m → tu_t L' a k q' n m d e ≤ tu_t L a k q n m d e
  | 0, e, he => Int.le_of_eq (tu_t0_q h2 (fun _ _ => rfl) e he)
  | d + 1, e, he => by
    have ih := tz_t_mono (L := L) (L' := L') (a := a) (k := k) (q := q) (q' := q') (n := n) (m := m) h1 h2 h3 hq d
    show tu_t1 L' a k q' m (n - (d + 1)) (tu_t L' a k q' n m d) e ≤ tu_t1 L a k q m (n - (d + 1)) (tu_t L a k q n m d) e
    induction e with
    | zero => exact Int.le_refl _
    | succ e ie =>
      have ie := ie (by omega)
      unfold tu_t1
      rw [h2]
      have g := tz_mn_mono (i := tu_t1 L a k q m (n - (d + 1)) (tu_t L a k q n m d) e + (if k (m - (e + 1)) = 0 then 0 else L 2)) (i' := tu_t1 L' a k q' m (n - (d + 1)) (tu_t L' a k q' n m d) e + (if k (m - (e + 1)) = 0 then 0 else L 2))
        (f := fun h => tu_t L a k q n m d (e + 1 - h) + L 1 * ((h : Int) - 1) + (if ¬ (a (n - (d + 1)) = 1 ↔ k (m - (e + 1)) = 2) then L 3 else 0)) (f' := fun h => tu_t L' a k q' n m d (e + 1 - h) + L' 1 * ((h : Int) - 1) + (if ¬ (a (n - (d + 1)) = 1 ↔ k (m - (e + 1)) = 2) then L' 3 else 0)) (N := q (m - (e + 1))) (by omega) (fun h g1 g2 => by
          show tu_t L' a k q' n m d (e + 1 - h) + L' 1 * ((h : Int) - 1) + (if ¬ (a (n - (d + 1)) = 1 ↔ k (m - (e + 1)) = 2) then L' 3 else 0) ≤ tu_t L a k q n m d (e + 1 - h) + L 1 * ((h : Int) - 1) + (if ¬ (a (n - (d + 1)) = 1 ↔ k (m - (e + 1)) = 2) then L 3 else 0)
          have := ih (e + 1 - h) (by omega)
          rw [h1, h3]
          omega) (q' (m - (e + 1))) (hq _ (by omega))
      omega
theorem tz_eb_mono {B : Nat → Nat → Int} {l p i j : Nat} (h : i ≤ j) : tu_eb B l p j ≤ tu_eb B l p i := by
  unfold tu_eb tu_cx
  refine tz_t_mono ?_ ?_ ?_ (fun b hb => ?_) _ _ (Nat.le_refl _)
  · rw [tu_u_n _ _ (by decide), tu_u_n _ _ (by decide)]
  · rw [tu_u_n _ _ (by decide), tu_u_n _ _ (by decide)]
  · rw [tu_u_n _ _ (by decide), tu_u_n _ _ (by decide)]
  · rw [tu_u_s, tu_u_s]
    unfold tu_qm
    omega
def tz_fb (f : Nat → Int) (j : Nat) (b c : Int) : Prop := (j = 8 ∧ b = -6 ∧ c = -6) ∨ (j < 8 ∧ b = (j : Int) + 1 ∧ c = f j ∧ (0 ≤ f j ∧ f j < 1000000) ∧ ∀ i, j ≤ i → i < 8 → f i = f j)
theorem tz_fb_hit {f : Nat → Int} {j : Nat} {b c x y : Int} (h : tz_fb f j b c) (hm : ∀ i j, i ≤ j → f j ≤ f i) (hj : 1 ≤ j ∧ j ≤ 8) (hx : x = (j : Int)) (hy : y = f (j - 1)) (hf : 0 ≤ f (j - 1) ∧ f (j - 1) < 1000000) (hc : c < 0 ∨ f (j - 1) ≤ c) : tz_fb f (j - 1) x y := by
  refine Or.inr ⟨by omega, by omega, hy, hf, fun i a d => ?_⟩
  rcases Nat.eq_or_lt_of_le a with e | e
  · rw [← e]
  · rcases h with ⟨h1, -⟩ | ⟨h1, h2, h3, h4, h5⟩
    · omega
    · have a1 := h5 i (by omega) d
      have a2 := hm (j - 1) j (by omega)
      omega
theorem tz_fb_end {f : Nat → Int} {j : Nat} {b c : Int} (h : tz_fb f j b c) (hm : ∀ i j, i ≤ j → f j ≤ f i) (hc : j = 0 ∨ f (j - 1) = 1000000 ∨ (0 ≤ c ∧ c < f (j - 1))) : tu_b1' 1000000 f 8 = b := by
  unfold tu_b1'
  rcases tz_bp_p (f := f) 8 with ⟨g0, g1, g2⟩ | ⟨q, g0, g1, g2, g3, g4, g5⟩
  · rw [if_pos g0]
    rcases h with ⟨h1, h2, h3⟩ | ⟨h1, h2, h3, h4, h5⟩
    · exact h2.symm
    · have := g2 j h1; omega
  · rw [if_neg (by omega), g0]
    rcases h with ⟨h1, h2, h3⟩ | ⟨h1, h2, h3, h4, h5⟩
    · subst h1
      rcases hc with z | z | z
      · omega
      · have := hm q (8 - 1) (by omega)
        omega
      · omega
    · have e : q = j := by
        rcases Nat.lt_trichotomy q j with z | z | z
        · have a1 := hm q (j - 1) (by omega)
          have a2 := g5 j h1
          omega
        · exact z
        · have a1 := h5 q (by omega) g1
          have a2 := g4 j z
          omega
      rw [h2, e]
