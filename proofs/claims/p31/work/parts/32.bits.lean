/-! whole numbers as bits -/
def tu_bb (x : Int32) (i : Nat) : Bool := x.toBitVec.getLsbD i
theorem tu_bb_e {x y : Int32} (h : ∀ i, i < 32 → tu_bb x i = tu_bb y i) : x = y := Int32.toBitVec_inj.mp (BitVec.eq_of_getLsbD_eq (fun i hi => h i hi))
def tu_bi (z : Int) (s : Nat) : Int := if tu_bb (tu_J z) s = true then 1 else 0
theorem tu_bi_01 (z : Int) (s : Nat) : tu_bi z s = 0 ∨ tu_bi z s = 1 := by
  unfold tu_bi; split
  · exact Or.inr rfl
  · exact Or.inl rfl
theorem tu_shn : ∀ n, n < 32 → ((tu_J ((n : Nat) : Int) &&& 31).toBitVec.smod 32).toNat = n := by decide +kernel
theorem tu_bb_shr (x : Int32) {s i : Nat} (hs : s < 32) (hi : i < 32) : tu_bb (x >>> (tu_J ((s : Nat) : Int) &&& 31)) i = if s + i < 32 then tu_bb x (s + i) else tu_bb x 31 := by
  unfold tu_bb
  rw [Int32.toBitVec_shiftRight]
  show (x.toBitVec.sshiftRight ((tu_J ((s : Nat) : Int) &&& 31).toBitVec.smod 32).toNat).getLsbD i = _
  rw [tu_shn s hs, BitVec.getLsbD_sshiftRight, BitVec.msb_eq_getLsbD_last]
  simp [hi]
theorem tu_bb_shl (x : Int32) {s i : Nat} (hs : s < 32) (hi : i < 32) : tu_bb (x <<< (tu_J ((s : Nat) : Int) &&& 31)) i = (decide (s ≤ i) && tu_bb x (i - s)) := by
  unfold tu_bb
  rw [Int32.toBitVec_shiftLeft]
  show (x.toBitVec <<< ((tu_J ((s : Nat) : Int) &&& 31).toBitVec.smod 32).toNat).getLsbD i = _
  rw [tu_shn s hs, BitVec.getLsbD_shiftLeft]
  rcases Nat.lt_or_ge i s with h | h
  · simp [h, Nat.not_le.mpr h]
  · simp [hi, h, Nat.not_lt.mpr h]
theorem tu_bb_1 : ∀ i, i < 32 → tu_bb 1 i = decide (i = 0) := by decide +kernel
theorem tu_bb_m1 : ∀ i, i < 32 → tu_bb (-1) i = true := by decide +kernel
theorem tu_bb_0 : ∀ i, i < 32 → tu_bb 0 i = false := by decide +kernel
theorem tu_bit1 (z : Int) {s : Nat} (hs : s < 32) : tu_and (tu_shr z ((s : Nat) : Int)) 1 = tu_bi z s := by
  unfold tu_and tu_shr tu_bi
  rw [tu_J_t]
  have e : ((tu_J z >>> (tu_J ((s : Nat) : Int) &&& 31)) &&& tu_J 1) = if tu_bb (tu_J z) s = true then 1 else 0 := by
    apply tu_bb_e
    intro i hi
    have e1 : tu_bb ((tu_J z >>> (tu_J ((s : Nat) : Int) &&& 31)) &&& tu_J 1) i = (tu_bb (tu_J z >>> (tu_J ((s : Nat) : Int) &&& 31)) i && tu_bb 1 i) := by
      unfold tu_bb; rw [Int32.toBitVec_and, BitVec.getLsbD_and]; rfl
    rw [e1, tu_bb_shr _ hs hi, tu_bb_1 i hi]
    by_cases h : i = 0
    · subst h
      rw [if_pos (show s + 0 < 32 by omega), Nat.add_zero]
      by_cases q : tu_bb (tu_J z) s = true
      · rw [q, if_pos rfl]; decide
      · rw [if_neg q, tu_bb_0 0 (by decide)]; simp at q; rw [q]; rfl
    · rw [show decide (i = 0) = false from decide_eq_false h, Bool.and_false]
      by_cases q : tu_bb (tu_J z) s = true
      · rw [if_pos q, tu_bb_1 i hi, decide_eq_false h]
      · rw [if_neg q, tu_bb_0 i hi]
  rw [e]
  by_cases q : tu_bb (tu_J z) s = true
  · rw [if_pos q, if_pos q]; rfl
  · rw [if_neg q, if_neg q]; rfl
theorem tu_bi_or (z w : Int) (i : Nat) : tu_bi (tu_or z w) i = if tu_bi z i = 1 ∨ tu_bi w i = 1 then 1 else 0 := by
  unfold tu_bi tu_or
  rw [tu_J_t]
  have e : tu_bb (tu_J z ||| tu_J w) i = (tu_bb (tu_J z) i || tu_bb (tu_J w) i) := by unfold tu_bb; rw [Int32.toBitVec_or, BitVec.getLsbD_or]
  rw [e]
  cases tu_bb (tu_J z) i <;> cases tu_bb (tu_J w) i <;> decide
theorem tu_bi_and (z w : Int) (i : Nat) : tu_bi (tu_and z w) i = if tu_bi z i = 1 ∧ tu_bi w i = 1 then 1 else 0 := by
  unfold tu_bi tu_and
  rw [tu_J_t]
  have e : tu_bb (tu_J z &&& tu_J w) i = (tu_bb (tu_J z) i && tu_bb (tu_J w) i) := by unfold tu_bb; rw [Int32.toBitVec_and, BitVec.getLsbD_and]
  rw [e]
  cases tu_bb (tu_J z) i <;> cases tu_bb (tu_J w) i <;> decide
theorem tu_bi_xor (z w : Int) (i : Nat) : tu_bi (tu_xor z w) i = if tu_bi z i = tu_bi w i then 0 else 1 := by
  unfold tu_bi tu_xor
  rw [tu_J_t]
  have e : tu_bb (tu_J z ^^^ tu_J w) i = (tu_bb (tu_J z) i ^^ tu_bb (tu_J w) i) := by unfold tu_bb; rw [Int32.toBitVec_xor, BitVec.getLsbD_xor]
  rw [e]
  cases tu_bb (tu_J z) i <;> cases tu_bb (tu_J w) i <;> decide
theorem tu_bi_one {s i : Nat} (hs : s < 32) (hi : i < 32) : tu_bi (tu_shl 1 ((s : Nat) : Int)) i = if i = s then 1 else 0 := by
  unfold tu_bi tu_shl
  rw [tu_J_t, show tu_J 1 = (1 : Int32) from rfl, tu_bb_shl _ hs hi]
  by_cases h : i = s
  · subst h; rw [if_pos rfl, Nat.sub_self, tu_bb_1 0 (by decide)]; simp
  · rw [if_neg h]
    rcases Nat.lt_or_ge i s with q | q
    · simp [Nat.not_le.mpr q]
    · rw [tu_bb_1 (i - s) (by omega), decide_eq_false (show ¬ i - s = 0 by omega)]; simp
theorem tu_bi_m1 {i : Nat} (hi : i < 32) : tu_bi (-1) i = 1 := by
  unfold tu_bi
  rw [show tu_J (-1) = (-1 : Int32) from rfl, tu_bb_m1 i hi, if_pos rfl]
theorem tu_bi_0 {i : Nat} (hi : i < 32) : tu_bi 0 i = 0 := by
  unfold tu_bi
  rw [show tu_J 0 = (0 : Int32) from rfl, tu_bb_0 i hi]; rfl
/-- the bits of a number are the first n of f -/
def tu_mk (z : Int) (n : Nat) (f : Nat → Int) : Prop := ∀ i, i < 32 → tu_bi z i = if i < n ∧ f i = 1 then 1 else 0
theorem tu_mk_0 {f : Nat → Int} : tu_mk 0 0 f := fun i hi => by rw [tu_bi_0 hi, if_neg (by omega)]
theorem tu_mk.add {z : Int} {n : Nat} {f : Nat → Int} (h : tu_mk z n f) (hn : n < 32) (hf : f n = 1) : tu_mk (tu_or z (tu_shl 1 ((n : Nat) : Int))) (n + 1) f := fun i hi => by
  rw [tu_bi_or, h i hi, tu_bi_one hn hi]
  by_cases q : i = n
  · subst q; rw [if_pos (Or.inr (if_pos rfl)), if_pos ⟨Nat.lt_succ_self _, hf⟩]
  · rw [if_neg q]
    by_cases r : i < n ∧ f i = 1
    · rw [if_pos r, if_pos (Or.inl rfl), if_pos ⟨by omega, r.2⟩]
    · rw [if_neg r, if_neg (by decide), if_neg (fun z => r ⟨by omega, z.2⟩)]
theorem tu_mk.add0 {z : Int} {n : Nat} {f : Nat → Int} (h : tu_mk z n f) (hf : f n ≠ 1) : tu_mk (tu_or z 0) (n + 1) f := fun i hi => by
  rw [tu_bi_or, h i hi, tu_bi_0 hi]
  by_cases r : i < n ∧ f i = 1
  · rw [if_pos r, if_pos (Or.inl rfl), if_pos ⟨by omega, r.2⟩]
  · rw [if_neg r, if_neg (by decide), if_neg (fun q => by
      by_cases e : i = n
      · subst e; exact hf q.2
      · exact r ⟨by omega, q.2⟩)]
theorem tu_mk.q {z : Int} {n : Nat} {f g : Nat → Int} (h : tu_mk z n f) (hg : ∀ i, i < n → (g i = 1 ↔ f i = 1)) : tu_mk z n g := fun i hi => by
  rw [h i hi]
  by_cases r : i < n ∧ f i = 1
  · rw [if_pos r, if_pos ⟨r.1, (hg i r.1).mpr r.2⟩]
  · rw [if_neg r, if_neg (fun q => r ⟨q.1, (hg i q.1).mp q.2⟩)]
/-- one bit set anew -/
theorem tu_mk.set {z w : Int} {n s : Nat} {f : Nat → Int} {b : Int} (h : tu_mk z n f) (hs : s < n) (hn : n ≤ 32) (hw : ∀ i, i < 32 → tu_bi w i = if i = s ∧ b = 1 then 1 else 0) : tu_mk (tu_or (tu_and z (tu_xor (tu_shl 1 ((s : Nat) : Int)) (-1))) w) n (tu_u f s b) := fun i hi => by
  rw [tu_bi_or, tu_bi_and, tu_bi_xor, h i hi, tu_bi_one (by omega) hi, tu_bi_m1 hi, hw i hi]
  by_cases e : i = s
  · subst e
    rw [tu_u_s]
    by_cases r : b = 1 <;> simp [hs, r]
  · rw [tu_u_n _ _ e, if_neg e, if_neg (show ¬ (0 : Int) = 1 by decide), if_neg (show ¬ (i = s ∧ b = 1) from fun q => e q.1)]
    by_cases r : i < n ∧ f i = 1
    · rw [if_pos r]; decide
    · rw [if_neg r]; decide
theorem tu_mk.flip {z : Int} {n s : Nat} {f : Nat → Int} (h : tu_mk z n f) (hs : s < n) (hn : n ≤ 32) (hf : f s = 0 ∨ f s = 1) : tu_mk (tu_xor z (tu_shl 1 ((s : Nat) : Int))) n (tu_u f s (1 - f s)) := fun i hi => by
  rw [tu_bi_xor, h i hi, tu_bi_one (by omega) hi]
  by_cases e : i = s
  · subst e
    rw [tu_u_s]
    rcases hf with r | r <;> simp [hs, r]
  · rw [tu_u_n _ _ e, if_neg e]
    by_cases r : i < n ∧ f i = 1
    · rw [if_pos r]; decide
    · rw [if_neg r]; decide
/-- how many bits -/
theorem tu_mk.cnt {z : Int} {n : Nat} {f : Nat → Int} (h : tu_mk z n f) (hn : n ≤ 24) : tu_sm (fun i => tu_bi z i) 24 = tu_ti f 1 n := by
  have key : ∀ d, n + d ≤ 24 → tu_sm (fun i => tu_bi z i) (n + d) = tu_ti f 1 n := by
    intro d
    induction d with
    | zero =>
      intro _
      have a : ∀ k, k ≤ n → tu_sm (fun i => tu_bi z i) k = tu_ti f 1 k := by
        intro k
        induction k with
        | zero => intro _; rfl
        | succ k ih =>
          intro hk
          show tu_sm (fun i => tu_bi z i) k + tu_bi z k = tu_ti f 1 k + _
          rw [ih (by omega), h k (by omega)]
          by_cases r : f k = 1
          · rw [if_pos ⟨by omega, r⟩, if_pos r]
          · rw [if_neg (fun q => r q.2), if_neg r]
      exact a n (Nat.le_refl _)
    | succ d ih =>
      intro hd
      show tu_sm (fun i => tu_bi z i) (n + d) + tu_bi z (n + d) = _
      rw [ih (by omega), h (n + d) (by omega), if_neg (by omega), Int.add_zero]
  have := key (24 - n) (by omega)
  rwa [show n + (24 - n) = 24 by omega] at this
