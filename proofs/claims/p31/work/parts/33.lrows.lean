/-! rows that the law wants: the script, division, what is taken off the stack -/
section TWL
variable {T : tu_T} {cc : ByteArray} {own : String} {fr lo : Nat} {lv : List (Nat × tu_v)} {st : List tu_v} {M : tu_M}
def tw_SC (T : tu_T) (L : Nat) (xs : Nat → Int32) : Prop := match T with
  | (_, _, _, _, s, _, _, _, _, _, _, _, ad, _, _, _) => va_X (ad 100) L xs s s.heap ∧ ad 100 < s.heap.size ∧ ¬ tu_A ad (ad 100)
theorem tw_sld (pc : Nat) (X : tu_X T cc own fr lo) {L : Nat} {xs : Nat → Int32} (hX : tw_SC T L xs) {j : Int} (q : Nat) (hd : decode cc pc = .ok (.iaload, 1)) (hj : j = (q : Int)) (hq : q < L) (hL : L ≤ 260)
    (kk : tu_W T (pc + 1) lv (tu_i (xs q).toInt :: st) M) : tu_W T pc lv (tu_i j :: tu_r 100 :: st) M := by
  obtain ⟨p, l, e, R, s, m, args, below, meth, c, nL, g, ad, kc, ks, Q⟩ := T
  obtain ⟨hx, hb, hml, hown, hts, hK, hI, hst, hfr, hlo, hkc, hks⟩ := X
  intro H locs ls hP hS hl
  have h := kk H locs ls hP hS hl
  rw [show (tu_i (xs q).toInt :: st).map (tu_vl ad) = _ from tu_raw] at h
  refine va_sld (b := ad 100) hx hb hX.1 hX.2.1 hX.2.2 hS (tu_in hj hq (by omega)) hd ?_
  rw [tu_cl hj hq (by omega)]
  exact h
theorem tw_slen (pc : Nat) (X : tu_X T cc own fr lo) (hd : decode cc pc = .ok (.arraylength, 1))
    (kk : ∀ (L : Nat) (xs : Nat → Int32), tw_SC T L xs → L ≤ 260 → tu_W T (pc + 1) lv (tu_i ((L : Nat) : Int) :: st) M) : tu_W T pc lv (tu_r 100 :: st) M := by
  obtain ⟨p, l, e, R, s, m, args, below, meth, c, nL, g, ad, kc, ks, Q⟩ := T
  obtain ⟨hx, hb, hml, hown, hts, hK, hI, hst, hfr, hlo, hkc, hks⟩ := X
  intro H locs ls hP hS hl
  obtain ⟨L, xs, hL, hX, hA⟩ := hst.2.2.2
  have hX2 := hX
  obtain ⟨scr, h4, h5⟩ := hX2
  have hbl := (Array.getElem?_eq_some_iff.mp h4).1
  have h := kk L xs ⟨hX, hbl, hA⟩ hL H locs ls hP hS hl
  refine va_slen (b := ad 100) hx hb hX hbl hA hS hd ?_
  have e1 : (tu_i ((L : Nat) : Int) :: st).map (tu_vl ad) = .int (nI L) :: st.map (tu_vl ad) := by
    show Value.int (tu_J ((L : Nat) : Int)) :: _ = _
    rw [tu_J_n]
  rw [e1] at h
  exact h
def tu_div (a b : Int) : Int := (tu_J a / tu_J b).toInt
theorem tu_div_n {a b : Nat} (ha : a < 2147483648) (h0 : 0 < b) (hb : b < 2147483648) : tu_div (a : Int) (b : Int) = ((a / b : Nat) : Int) := by
  unfold tu_div
  rw [tu_J_n, tu_J_n, pk_div (by omega) h0 (by omega)]
  have : a / b ≤ a := Nat.div_le_self _ _
  rw [nI_toInt (by omega)]
theorem tu_idiv (pc : Nat) (X : tu_X T cc own fr lo) {a b : Int} (hd : decode cc pc = .ok (.idiv, 1)) (hr : tu_rg b) (h0 : b ≠ 0)
    (kk : tu_W T (pc + 1) lv (tu_i (tu_div a b) :: st) M) : tu_W T pc lv (tu_i b :: tu_i a :: st) M := by
  obtain ⟨p, l, e, R, s, m, args, below, meth, c, nL, g, ad, kc, ks, Q⟩ := T
  obtain ⟨hx, hb, hml, hown, hts, hK, hI, hst, hfr, hlo, hkc, hks⟩ := X
  intro H locs ls hP hS hl
  have h := kk H locs ls hP hS hl
  rw [show (tu_i (tu_div a b) :: st).map (tu_vl ad) = _ from tu_raw] at h
  exact lv_idiv hx hb hd (fun z => h0 ((tu_J_eq hr (show tu_rg 0 from ⟨by decide, by decide⟩)).mp (z.trans (by decide)))) h
theorem tu_dup_x2 (pc : Nat) (X : tu_X T cc own fr lo) {v w x : tu_v} (hd : decode cc pc = .ok (.dup_x2, 1)) (hv : tu_2 v = false) (hw : tu_2 w = false) (hx9 : tu_2 x = false)
    (kk : tu_W T (pc + 1) lv (v :: w :: x :: v :: st) M) : tu_W T pc lv (v :: w :: x :: st) M := by
  obtain ⟨p, l, e, R, s, m, args, below, meth, c, nL, g, ad, kc, ks, Q⟩ := T
  obtain ⟨hx, hb, hml, hown, hts, hK, hI, hst, hfr, hlo, hkc, hks⟩ := X
  intro H locs ls hP hS hl
  exact lv_dup_x2 hx hb hd (by rcases v with z | i | u <;> first | rfl | cases hv) (by rcases w with z | i | u <;> first | rfl | cases hw) (by rcases x with z | i | u <;> first | rfl | cases hx9) (kk H locs ls hP hS hl)
theorem tu_pop (pc : Nat) (X : tu_X T cc own fr lo) {v : tu_v} (hd : decode cc pc = .ok (.pop, 1)) (hv : tu_2 v = false)
    (kk : tu_W T (pc + 1) lv st M) : tu_W T pc lv (v :: st) M := by
  obtain ⟨p, l, e, R, s, m, args, below, meth, c, nL, g, ad, kc, ks, Q⟩ := T
  obtain ⟨hx, hb, hml, hown, hts, hK, hI, hst, hfr, hlo, hkc, hks⟩ := X
  intro H locs ls hP hS hl
  exact lv_pop hx hb hd (by rcases v with z | i | u <;> first | rfl | cases hv) (kk H locs ls hP hS hl)
end TWL
/-- any number without its sign -/
theorem tu_low (v : Int) : ∃ k : Nat, k < 2147483648 ∧ tu_and v 2147483647 = (k : Int) := by
  obtain ⟨j, h1, h2⟩ := pk_andE (tu_J v) (m := 2147483647) 31 (by decide)
  refine ⟨j, by omega, ?_⟩
  unfold tu_and
  rw [show tu_J 2147483647 = (2147483647 : Int32) from rfl, h2, nI_toInt (by omega)]
