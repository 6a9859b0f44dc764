/-! what the methods answer, in words of their own -/
def tu_ti (f : Nat → Int) (z : Int) : Nat → Int
  | 0 => 0
  | k + 1 => tu_ti f z k + (if f k = z then 1 else 0)
def tu_sm (f : Nat → Int) : Nat → Int
  | 0 => 0
  | k + 1 => tu_sm f k + f k
/-- the row without a rest that ends behind the k-th beat, and the longest one till there -/
def tu_rn (f : Nat → Int) : Nat → Int
  | 0 => 0
  | k + 1 => if f k = 0 then 0 else tu_rn f k + 1
def tu_lg (f : Nat → Int) : Nat → Int
  | 0 => 0
  | k + 1 => max (tu_lg f k) (tu_rn f (k + 1))
/-- a number taken out of a row that begins at o: how many are kept of the first k, and the row then -/
def tu_kc (f : Nat → Int) (o : Nat) (z : Int) : Nat → Nat
  | 0 => 0
  | k + 1 => tu_kc f o z k + (if f (o + k) = z then 0 else 1)
def tu_wr (f : Nat → Int) (o : Nat) (z : Int) : Nat → Nat → Int
  | 0 => f
  | k + 1 => if f (o + k) = z then tu_wr f o z k else tu_u (tu_wr f o z k) (o + tu_kc f o z k) (if z < f (o + k) then f (o + k) - 1 else f (o + k))
theorem tu_kc_le (f : Nat → Int) (o : Nat) (z : Int) : ∀ k, tu_kc f o z k ≤ k
  | 0 => Nat.le_refl _
  | k + 1 => by
    have := tu_kc_le f o z k
    unfold tu_kc; split <;> omega
theorem tu_wr_old (f : Nat → Int) (o : Nat) (z : Int) : ∀ k j, o + tu_kc f o z k ≤ j → tu_wr f o z k j = f j
  | 0, j, _ => rfl
  | k + 1, j, h => by
    unfold tu_kc at h; unfold tu_wr
    split
    · next e => rw [if_pos e] at h; exact tu_wr_old f o z k j (by omega)
    · next e => rw [if_neg e] at h; rw [tu_u_n _ _ (by omega)]; exact tu_wr_old f o z k j (by omega)
theorem tu_ti_01 (f : Nat → Int) (z : Int) : ∀ k : Nat, 0 ≤ tu_ti f z k ∧ tu_ti f z k ≤ k
  | 0 => ⟨Int.le_refl _, Int.le_refl _⟩
  | k + 1 => by
    have := tu_ti_01 f z k
    unfold tu_ti; split <;> omega
theorem tu_rn_le (f : Nat → Int) : ∀ k : Nat, 0 ≤ tu_rn f k ∧ tu_rn f k ≤ k
  | 0 => ⟨Int.le_refl _, Int.le_refl _⟩
  | k + 1 => by
    have := tu_rn_le f k
    unfold tu_rn; split <;> omega
theorem tu_lg_le (f : Nat → Int) : ∀ k : Nat, 0 ≤ tu_lg f k ∧ tu_lg f k ≤ k
  | 0 => ⟨Int.le_refl _, Int.le_refl _⟩
  | k + 1 => by
    have := tu_lg_le f k
    have := tu_rn_le f (k + 1)
    unfold tu_lg; omega
/-- a book: rows 0 (its object), 1 settings, 2 syllable counts, 3 stresses, 4 beat counts, 5 kinds, 6 ballad, 7 tune -/
def tu_BO (B : Nat → Nat → Int) : Prop :=
  ((0 ≤ B 0 1 ∧ B 0 1 ≤ 16) ∧ (0 ≤ B 0 4 ∧ B 0 4 ≤ 8) ∧ (0 ≤ B 0 7 ∧ B 0 7 ≤ 40) ∧ (0 ≤ B 0 9 ∧ B 0 9 ≤ 8)) ∧
  (∀ l : Nat, (l : Int) < B 0 1 → 1 ≤ B 2 l ∧ B 2 l ≤ 16) ∧ (∀ l s : Nat, (l : Int) < B 0 1 → (s : Int) < B 2 l → B 3 (l * 16 + s) = 0 ∨ B 3 (l * 16 + s) = 1) ∧
  (∀ p : Nat, (p : Int) < B 0 4 → 1 ≤ B 4 p ∧ B 4 p ≤ 24) ∧ (∀ p b : Nat, (p : Int) < B 0 4 → (b : Int) < B 4 p → 0 ≤ B 5 (p * 24 + b) ∧ B 5 (p * 24 + b) ≤ 2) ∧
  (∀ k : Nat, (k : Int) < B 0 7 → 0 ≤ B 6 k ∧ B 6 k < B 0 1) ∧ (∀ k : Nat, (k : Int) < B 0 9 → 0 ≤ B 7 k ∧ B 7 k < B 0 4) ∧
  (1 ≤ B 1 0 ∧ B 1 0 ≤ 8) ∧ (0 ≤ B 1 1 ∧ B 1 1 ≤ 9) ∧ (0 ≤ B 1 2 ∧ B 1 2 ≤ 9) ∧ (0 ≤ B 1 3 ∧ B 1 3 ≤ 20)
/-- the current book of the memory -/
def tu_cb (M : tu_M) : Nat → Nat → Int := fun f => M (1 + f)
def tu_OK (M : tu_M) : Prop := tu_BO (tu_cb M)
theorem tu_OK.cnt {M : tu_M} (h : tu_OK M) : (0 ≤ M 1 1 ∧ M 1 1 ≤ 16) ∧ (0 ≤ M 1 4 ∧ M 1 4 ≤ 8) ∧ (0 ≤ M 1 7 ∧ M 1 7 ≤ 40) ∧ (0 ≤ M 1 9 ∧ M 1 9 ≤ 8) := h.1
theorem tu_OK.syl {M : tu_M} (h : tu_OK M) : ∀ l : Nat, (l : Int) < M 1 1 → 1 ≤ M 3 l ∧ M 3 l ≤ 16 := h.2.1
theorem tu_OK.str {M : tu_M} (h : tu_OK M) : ∀ l s : Nat, (l : Int) < M 1 1 → (s : Int) < M 3 l → M 4 (l * 16 + s) = 0 ∨ M 4 (l * 16 + s) = 1 := h.2.2.1
theorem tu_OK.bts {M : tu_M} (h : tu_OK M) : ∀ p : Nat, (p : Int) < M 1 4 → 1 ≤ M 5 p ∧ M 5 p ≤ 24 := h.2.2.2.1
theorem tu_OK.knd {M : tu_M} (h : tu_OK M) : ∀ p b : Nat, (p : Int) < M 1 4 → (b : Int) < M 5 p → 0 ≤ M 6 (p * 24 + b) ∧ M 6 (p * 24 + b) ≤ 2 := h.2.2.2.2.1
theorem tu_OK.bal {M : tu_M} (h : tu_OK M) : ∀ k : Nat, (k : Int) < M 1 7 → 0 ≤ M 7 k ∧ M 7 k < M 1 1 := h.2.2.2.2.2.1
theorem tu_OK.tun {M : tu_M} (h : tu_OK M) : ∀ k : Nat, (k : Int) < M 1 9 → 0 ≤ M 8 k ∧ M 8 k < M 1 4 := h.2.2.2.2.2.2.1
theorem tu_OK.set {M : tu_M} (h : tu_OK M) : (1 ≤ M 2 0 ∧ M 2 0 ≤ 8) ∧ (0 ≤ M 2 1 ∧ M 2 1 ≤ 9) ∧ (0 ≤ M 2 2 ∧ M 2 2 ≤ 9) ∧ (0 ≤ M 2 3 ∧ M 2 3 ≤ 20) := h.2.2.2.2.2.2.2
/-! longs: bytes and comparisons -/
section TE
variable {T : tu_T} {cc : ByteArray} {own : String} {fr lo : Nat} {lv : List (Nat × tu_v)} {st : List tu_v} {M : tu_M}
theorem tu_land255 (pc : Nat) (X : tu_X T cc own fr lo) {a : Nat} (hd : decode cc pc = .ok (.land, 1)) (kk : tu_W T (pc + 1) lv (tu_l (a % 256) :: st) M) : tu_W T pc lv (tu_l 255 :: tu_l a :: st) M := by
  refine tu_land pc X hd ?_
  rw [show a &&& 255 = a % 256 from Nat.and_two_pow_sub_one_eq_mod a 8]
  exact kk
theorem tu_lushr8 (pc : Nat) (X : tu_X T cc own fr lo) {a : Nat} (hd : decode cc pc = .ok (.lushr, 1)) (ha : a < 18446744073709551616) (kk : tu_W T (pc + 1) lv (tu_l (a / 256) :: st) M) : tu_W T pc lv (tu_i 8 :: tu_l a :: st) M :=
  tu_lushr pc X 8 hd ha rfl (by decide) kk
end TE
theorem tu_lc_rg (a b : Nat) : tu_rg (tu_lc a b) := by
  unfold tu_lc lg_cmp
  split
  · exact ⟨by decide, by decide⟩
  · split <;> exact ⟨by decide, by decide⟩
theorem tu_K_inj {a b : Nat} (ha : a < 18446744073709551616) (hb : b < 18446744073709551616) : tu_K a = tu_K b ↔ a = b := by
  refine ⟨fun h => ?_, fun h => by rw [h]⟩
  have h2 := congrArg (fun x : Int64 => x.toBitVec.toNat) h
  simp only [tu_K_b, BitVec.toNat_ofNat] at h2
  omega
theorem tu_K_lt {a b : Nat} (ha : a < 9223372036854775808) (hb : b < 9223372036854775808) : tu_K a < tu_K b ↔ a < b := by
  have h := pk_lLT (a := a) (b := b) (by omega) (by omega)
  exact h
theorem tu_lc_0 {a b : Nat} (ha : a < 18446744073709551616) (hb : b < 18446744073709551616) : tu_lc a b = 0 ↔ a = b := by
  rw [← tu_K_inj ha hb]
  unfold tu_lc lg_cmp
  by_cases h1 : tu_K a > tu_K b
  · rw [if_pos h1]
    refine ⟨fun h => absurd h (by decide), fun h => ?_⟩
    rw [h] at h1
    exact absurd h1 Int64.lt_irrefl
  · rw [if_neg h1]
    by_cases h2 : tu_K a = tu_K b
    · rw [if_pos h2]; exact ⟨fun _ => h2, fun _ => rfl⟩
    · rw [if_neg h2]; exact ⟨fun h => absurd h (by decide), fun h => absurd h h2⟩
theorem tu_lc_neg {a b : Nat} (ha : a < 9223372036854775808) (hb : b < 9223372036854775808) : tu_lc a b < 0 ↔ a < b := by
  rw [← tu_K_lt ha hb]
  unfold tu_lc lg_cmp
  by_cases h1 : tu_K a > tu_K b
  · rw [if_pos h1]
    exact ⟨fun h => absurd h (by decide), fun h => absurd h (Int64.lt_asymm h1)⟩
  · rw [if_neg h1]
    by_cases h2 : tu_K a = tu_K b
    · rw [if_pos h2, h2]; exact ⟨fun h => absurd h (by decide), fun h => absurd h Int64.lt_irrefl⟩
    · rw [if_neg h2]
      refine ⟨fun _ => ?_, fun _ => by decide⟩
      have h3 : ¬ b < a := fun z => h1 ((tu_K_lt hb ha).mpr z)
      have h4 : a ≠ b := fun z => h2 (by rw [z])
      exact (tu_K_lt ha hb).mpr (by omega)
theorem tu_lc_pos {a b : Nat} (ha : a < 9223372036854775808) (hb : b < 9223372036854775808) : tu_lc a b ≤ 0 ↔ a ≤ b := by
  unfold tu_lc lg_cmp
  by_cases h1 : tu_K a > tu_K b
  · rw [if_pos h1]
    have h2 := (tu_K_lt hb ha).mp h1
    exact ⟨fun h => absurd h (by decide), fun h => by omega⟩
  · rw [if_neg h1]
    have h3 : ¬ b < a := fun z => h1 ((tu_K_lt hb ha).mpr z)
    split
    · exact ⟨fun _ => by omega, fun _ => by decide⟩
    · exact ⟨fun _ => by omega, fun _ => by decide⟩
/-- the k-th byte of a number, the number of its characters -/
def tu_by (u k : Nat) : Nat := u / 256 ^ k % 256
def tu_vd (u c : Nat) : Prop := (1 ≤ c ∧ c ≤ 8) ∧ (∀ k, k < c → 33 ≤ tu_by u k ∧ tu_by u k ≤ 126) ∧ u / 256 ^ c = 0
/-- how many characters, 0 if the number holds none or something else -/
def tu_sg (u : Nat) (w : Int) : Prop := (∃ c : Nat, w = (c : Int) ∧ tu_vd u c) ∨ (w = 0 ∧ ∀ c, ¬ tu_vd u c)
/-- characters at the end of a row: the j first of c -/
def tu_ap (f : Nat → Int) (o u c : Nat) : Nat → Nat → Int
  | 0 => f
  | j + 1 => tu_u (tu_ap f o u c j) (o + j) (tu_by u (c - 1 - j) : Nat)
theorem tu_div0 {u a b : Nat} (h : a ≤ b) (h0 : u / 256 ^ a = 0) : u / 256 ^ b = 0 := by
  have h1 : u < 256 ^ a := by
    rcases Nat.div_eq_zero_iff.mp h0 with q | q
    · exact absurd q (Nat.pos_iff_ne_zero.mp (Nat.pow_pos (by decide)))
    · exact q
  exact Nat.div_eq_of_lt (Nat.lt_of_lt_of_le h1 (Nat.pow_le_pow_right (by decide) h))
theorem tu_vd_bad {u k : Nat} (h0 : u / 256 ^ k ≠ 0) (hb : ¬ (33 ≤ tu_by u k ∧ tu_by u k ≤ 126)) : ∀ c, ¬ tu_vd u c := by
  intro c h
  rcases Nat.lt_or_ge k c with q | q
  · exact hb (h.2.1 k q)
  · exact h0 (tu_div0 q h.2.2)
theorem tu_vd_0 {u : Nat} (h0 : u = 0) : ∀ c, ¬ tu_vd u c := by
  intro c h
  have := (h.2.1 0 (by have := h.1.1; omega)).1
  subst h0
  simp [tu_by] at this
theorem tu_vd_one {u c d : Nat} (hc : tu_vd u c) (hd : tu_vd u d) : c = d := by
  have key : ∀ {a b : Nat}, tu_vd u a → tu_vd u b → ¬ a < b := fun {a b} ha hb h => by
    have h1 := (hb.2.1 a h).1
    have h2 := ha.2.2
    unfold tu_by at h1
    rw [h2] at h1
    simp at h1
  have h1 := key hc hd
  have h2 := key hd hc
  omega
theorem tu_sg_one {u : Nat} {a b : Int} (ha : tu_sg u a) (hb : tu_sg u b) : a = b := by
  rcases ha with ⟨c, rfl, hc⟩ | ⟨rfl, hc⟩ <;> rcases hb with ⟨d, rfl, hd⟩ | ⟨rfl, hd⟩
  · rw [tu_vd_one hc hd]
  · exact absurd hc (hd c)
  · exact absurd hd (hc d)
  · rfl
/-! texts: what a character is, behind k others; phrase now (1 or 0), and how many syllables or beats -/
def tu_kd (a : Int × Int) (c : Int) : Nat := if 0 < a.2 ∧ c = 59 then 4 else if a.2 = 0 ∧ a.1 = 0 ∧ c = 124 then 1 else if a.1 = 0 ∧ a.2 < 16 ∧ (c = 120 ∨ c = 88) then 2 else if a.1 = 1 ∧ a.2 < 24 ∧ (c = 115 ∨ c = 119 ∨ c = 46) then 3 else 0
def tu_nx (a : Int × Int) (c : Int) : Int × Int := if tu_kd a c = 4 then (0, 0) else if tu_kd a c = 1 then (1, 0) else (a.1, a.2 + 1)
def tu_ps (f : Nat → Int) : Nat → Int × Int
  | 0 => (0, 0)
  | k + 1 => tu_nx (tu_ps f k) (f k)
/-- the fault of a text of n characters -/
def tu_ft (f : Nat → Int) (n : Nat) (w : Int) : Prop := (∃ k : Nat, k < n ∧ w = (k : Int) ∧ tu_kd (tu_ps f k) (f k) = 0 ∧ ∀ j, j < k → tu_kd (tu_ps f j) (f j) ≠ 0) ∨ ((∀ j, j < n → tu_kd (tu_ps f j) (f j) ≠ 0) ∧ w = if 0 < (tu_ps f n).2 then -6 else (n : Int))
theorem tu_ft_one {f : Nat → Int} {n : Nat} {a b : Int} (ha : tu_ft f n a) (hb : tu_ft f n b) : a = b := by
  rcases ha with ⟨k, h1, rfl, h3, h4⟩ | ⟨h1, rfl⟩ <;> rcases hb with ⟨q, g1, rfl, g3, g4⟩ | ⟨g1, rfl⟩
  · rcases Nat.lt_trichotomy k q with h | h | h
    · exact absurd h3 (g4 k h)
    · rw [h]
    · exact absurd g3 (h4 q h)
  · exact absurd h3 (g1 k h1)
  · exact absurd g3 (h1 q g1)
  · rfl
theorem tu_ps_in (f : Nat → Int) : ∀ k : Nat, ((tu_ps f k).1 = 0 ∨ (tu_ps f k).1 = 1) ∧ 0 ≤ (tu_ps f k).2 ∧ (tu_ps f k).2 ≤ k
  | 0 => ⟨Or.inl rfl, Int.le_refl _, Int.le_refl _⟩
  | k + 1 => by
    have := tu_ps_in f k
    unfold tu_ps tu_nx
    split
    · exact ⟨Or.inl rfl, by omega, by omega⟩
    · split
      · exact ⟨Or.inr rfl, by omega, by omega⟩
      · exact ⟨this.1, by omega, by omega⟩
