/-! rows of the library's members, of the static tables, of longs; jumps -/
section TD
variable {T : tu_T} {cc : ByteArray} {own : String} {fr lo : Nat} {lv : List (Nat × tu_v)} {st : List tu_v} {M : tu_M}
theorem tu_n1 : Cond.native arraycopyName ∈ tu_tb := tu_tb_in 34 rfl rfl
theorem tu_n2 : Cond.static arraycopyName ∈ tu_tb := tu_tb_in 33 rfl rfl
theorem tu_n3 : Cond.initialized "java/lang/System" ∈ tu_tb := tu_tb_in 12 rfl rfl
theorem tu_n4 : Cond.initialized "java/lang/Math" ∈ tu_tb := tu_tb_in 15 rfl rfl
theorem tu_n5 : Cond.static Lib.Math.min.name ∈ tu_tb := tu_tb_in 372 rfl rfl
theorem tu_n6 : Cond.code Lib.Math.min.name Lib.Math.min.code 2 (some .int) ∈ tu_tb := tu_tb_in 373 (by decide +kernel) rfl
theorem tu_n7 : Cond.static Lib.Math.max.name ∈ tu_tb := tu_tb_in 459 rfl rfl
theorem tu_n8 : Cond.code Lib.Math.max.name Lib.Math.max.code 2 (some .int) ∈ tu_tb := tu_tb_in 460 (by decide +kernel) rfl
theorem tu_J0 {z : Int} {n : Nat} (h : z = (n : Int)) (hn : n < 2147483648) : ¬ tu_J z < 0 := by
  subst h; rw [tu_J_n]; exact nI_pos (by omega)
theorem tu_cl' {j : Int} {k : Nat} (hj : j = (k : Int)) (hk : k < 2147483648) : (tu_J j).toNatClampNeg = k := by
  subst hj; rw [tu_J_n]; exact nI_clamp (by omega)
theorem tu_cpy (f g : Nat → Int) (sp dp n : Nat) : va_cpy (fun j => tu_J (f j)) (fun j => tu_J (g j)) sp dp n = fun j => tu_J (va_cpy f g sp dp n j) := by
  funext j
  unfold va_cpy
  split <;> rfl
theorem tu_sum (l : List tu_v) (ad : Nat → Nat) (h : l.length ≤ 4) : ((l.map (tu_vl ad)).map fun v => v.category).sum ≤ 8 := by
  have hc : ∀ v : Value, v.category ≤ 2 := fun v => by rcases lv_cat v with h | h <;> omega
  have h2 : ∀ l : List Value, (l.map fun v => v.category).sum ≤ 2 * l.length := by
    intro l
    induction l with
    | nil => exact Nat.zero_le _
    | cons a l ih =>
      have := hc a
      simp only [List.map_cons, List.sum_cons, List.length_cons]
      omega
  have := h2 (l.map (tu_vl ad))
  rw [List.length_map] at this
  omega
theorem tu_copy (pc : Nat) (X : tu_X T cc own fr lo) {idx i0 i1 n0 n1 : Nat} {sp dp n : Int} {M' : tu_M} (a b k : Nat) (hw : Cond.methodLink own idx arraycopyName ∈ tu_tb) (hd : decode cc pc = .ok (.invokestatic idx, 3)) (h0 : i0 < 92) (h1 : i1 < 92) (hs0 : tu_sh i0 = (0, n0, [])) (hs1 : tu_sh i1 = (0, n1, [])) (hn0 : n0 < 2147483648) (hn1 : n1 < 2147483648) (ha : sp = (a : Int)) (hb2 : dp = (b : Int)) (hk : n = (k : Int)) (h4 : a + k ≤ n0) (h5 : b + k ≤ n1) (hM : tu_row M i1 (va_cpy (M i0) (M i1) a b k) = M') (hlen : st.length ≤ 4) (hfr1 : 1 ≤ fr) (hlo1 : 8 + (nativeFrameWords "java/lang/System" "arraycopy" 5 + 11) ≤ lo)
    (kk : tu_W T (pc + 3) lv st M') : tu_W T pc lv (tu_i n :: tu_i dp :: tu_r i1 :: tu_i sp :: tu_r i0 :: st) M := by
  obtain ⟨p, l, e, R, s, m, args, below, meth, c, nL, g, ad, kc, ks, Q⟩ := T
  obtain ⟨hx, hb, hml, hown, hts, hK, hI, hst, hfr, hlo, hkc, hks⟩ := X
  intro H locs ls hP hS hl
  subst hM
  have hsum := tu_sum st ad hlen
  refine va_copyi (sp := tu_J sp) (dp := tu_J dp) (n := tu_J n) hx hb (hml.trans hl.1.symm) hown (hts _ hw) (hts _ tu_n1) (hts _ tu_n2) (hts _ tu_n3) hK hP (tu_D hI) hS i0 i1 0 0 (by rw [tu_ws_at h0, tu_ce0 hs0]) (by rw [tu_ws_at h1, tu_ce0 hs1]) rfl rfl rfl (tu_J0 ha (by omega)) (tu_J0 hb2 (by omega)) (tu_J0 hk (by omega)) (by rw [tu_cl' ha (by omega), tu_cl' hk (by omega)]; exact h4) (by rw [tu_cl' hb2 (by omega), tu_cl' hk (by omega)]; exact h5) (fun _ _ => rfl) (by omega) (by omega) hd (fun H1 locs1 hP1 _ hS1 => kk H1 locs1 ls ?_ hS1 hl)
  rw [tu_cl' ha (by omega), tu_cl' hb2 (by omega), tu_cl' hk (by omega), tu_cpy] at hP1
  rw [tu_ws_set (f := va_cpy (M i0) (M i1) a b k)] at hP1
  · exact hP1
  · rw [tu_ce0 hs1]
theorem tu_mmin (pc : Nat) (X : tu_X T cc own fr lo) {idx : Nat} {a b : Int} (hw : Cond.methodLink own idx Lib.Math.min.name ∈ tu_tb) (hd : decode cc pc = .ok (.invokestatic idx, 3)) (ha : tu_rg a) (hb2 : tu_rg b) (hlen : st.length ≤ 4) (hfr1 : 1 ≤ fr) (hlo1 : 21 ≤ lo)
    (kk : tu_W T (pc + 3) lv (tu_i (min a b) :: st) M) : tu_W T pc lv (tu_i b :: tu_i a :: st) M := by
  obtain ⟨p, l, e, R, s, m, args, below, meth, c, nL, g, ad, kc, ks, Q⟩ := T
  obtain ⟨hx, hb, hml, hown, hts, hK, hI, hst, hfr, hlo, hkc, hks⟩ := X
  intro H locs ls hP hS hl
  have hsum := tu_sum st ad hlen
  have h := kk H locs ls hP hS hl
  refine va_mmin (x := tu_J a) (y := tu_J b) hx hb (hml.trans hl.1.symm) hown (hts _ hw) (hts _ tu_n5) (hts _ tu_n4) (hts _ tu_n6) (by omega) (by omega) hkc hks hd ?_
  have e1 : (if tu_J b < tu_J a then tu_J b else tu_J a) = tu_J (min a b) := by
    by_cases q : b < a
    · rw [if_pos ((tu_J_lt hb2 ha).mpr q), Int.min_eq_right (by omega)]
    · rw [if_neg (fun z => q ((tu_J_lt hb2 ha).mp z)), Int.min_eq_left (by omega)]
  rw [e1]
  exact h
theorem tu_mmax (pc : Nat) (X : tu_X T cc own fr lo) {idx : Nat} {a b : Int} (hw : Cond.methodLink own idx Lib.Math.max.name ∈ tu_tb) (hd : decode cc pc = .ok (.invokestatic idx, 3)) (ha : tu_rg a) (hb2 : tu_rg b) (hlen : st.length ≤ 4) (hfr1 : 1 ≤ fr) (hlo1 : 21 ≤ lo)
    (kk : tu_W T (pc + 3) lv (tu_i (max a b) :: st) M) : tu_W T pc lv (tu_i b :: tu_i a :: st) M := by
  obtain ⟨p, l, e, R, s, m, args, below, meth, c, nL, g, ad, kc, ks, Q⟩ := T
  obtain ⟨hx, hb, hml, hown, hts, hK, hI, hst, hfr, hlo, hkc, hks⟩ := X
  intro H locs ls hP hS hl
  have hsum := tu_sum st ad hlen
  have h := kk H locs ls hP hS hl
  refine va_mmax (x := tu_J a) (y := tu_J b) hx hb (hml.trans hl.1.symm) hown (hts _ hw) (hts _ tu_n7) (hts _ tu_n4) (hts _ tu_n8) (by omega) (by omega) hkc hks hd ?_
  have e1 : (if tu_J a < tu_J b then tu_J b else tu_J a) = tu_J (max a b) := by
    by_cases q : a < b
    · rw [if_pos ((tu_J_lt ha hb2).mpr q), Int.max_eq_right (by omega)]
    · rw [if_neg (fun z => q ((tu_J_lt ha hb2).mp z)), Int.max_eq_left (by omega)]
  rw [e1]
  exact h
theorem tu_gets1 (pc : Nat) (X : tu_X T cc own fr lo) {idx : Nat} (hw : Cond.fieldLink own idx RX3 "LEAST_VALUES" "[I" ∈ tu_tb) (hd : decode cc pc = .ok (.getstatic idx, 3)) (kk : tu_W T (pc + 3) lv (tu_r 97 :: st) M) : tu_W T pc lv st M := by
  obtain ⟨p, l, e, R, s, m, args, below, meth, c, nL, g, ad, kc, ks, Q⟩ := T
  obtain ⟨hx, hb, hml, hown, hts, hK, hI, hst, hfr, hlo, hkc, hks⟩ := X
  intro H locs ls hP hS hl
  exact va_gets hx hb hst.1.1 hS hown (hts _ hw) (fun _ h => h) hd (kk H locs ls hP hS hl)
theorem tu_gets2 (pc : Nat) (X : tu_X T cc own fr lo) {idx : Nat} (hw : Cond.fieldLink own idx RX3 "GREATEST_VALUES" "[I" ∈ tu_tb) (hd : decode cc pc = .ok (.getstatic idx, 3)) (kk : tu_W T (pc + 3) lv (tu_r 98 :: st) M) : tu_W T pc lv st M := by
  obtain ⟨p, l, e, R, s, m, args, below, meth, c, nL, g, ad, kc, ks, Q⟩ := T
  obtain ⟨hx, hb, hml, hown, hts, hK, hI, hst, hfr, hlo, hkc, hks⟩ := X
  intro H locs ls hP hS hl
  exact va_gets hx hb hst.2.1 hS hown (hts _ hw) (fun _ h => h) hd (kk H locs ls hP hS hl)
theorem tu_tald1 (pc : Nat) (X : tu_X T cc own fr lo) {j : Int} (q : Nat) (hd : decode cc pc = .ok (.iaload, 1)) (hj : j = (q : Int)) (hq : q < 4) (kk : tu_W T (pc + 1) lv (tu_i (tu_f1 q) :: st) M) : tu_W T pc lv (tu_i j :: tu_r 97 :: st) M := by
  obtain ⟨p, l, e, R, s, m, args, below, meth, c, nL, g, ad, kc, ks, Q⟩ := T
  obtain ⟨hx, hb, hml, hown, hts, hK, hI, hst, hfr, hlo, hkc, hks⟩ := X
  intro H locs ls hP hS hl
  exact va_ti hx hb hst.1.2 hS (tu_in hj hq (by decide)) (v := .int (tu_J (tu_f1 q))) (by rw [tu_cl hj hq (by decide)]) hd (kk H locs ls hP hS hl)
theorem tu_tald2 (pc : Nat) (X : tu_X T cc own fr lo) {j : Int} (q : Nat) (hd : decode cc pc = .ok (.iaload, 1)) (hj : j = (q : Int)) (hq : q < 4) (kk : tu_W T (pc + 1) lv (tu_i (tu_f2 q) :: st) M) : tu_W T pc lv (tu_i j :: tu_r 98 :: st) M := by
  obtain ⟨p, l, e, R, s, m, args, below, meth, c, nL, g, ad, kc, ks, Q⟩ := T
  obtain ⟨hx, hb, hml, hown, hts, hK, hI, hst, hfr, hlo, hkc, hks⟩ := X
  intro H locs ls hP hS hl
  exact va_ti hx hb hst.2.2.1 hS (tu_in hj hq (by decide)) (v := .int (tu_J (tu_f2 q))) (by rw [tu_cl hj hq (by decide)]) hd (kk H locs ls hP hS hl)
/-! longs, as numbers below 2^64 -/
def tu_n64 (x : Int64) : Nat := x.toBitVec.toNat
theorem tu_n64_K (x : Int64) : tu_K (tu_n64 x) = x := by
  apply Int64.toBitVec_inj.mp
  simp [tu_K, tu_n64]
theorem tu_n64_lt (x : Int64) : tu_n64 x < 18446744073709551616 := x.toBitVec.isLt
theorem tu_K_b (u : Nat) : (tu_K u).toBitVec = BitVec.ofNat 64 u := by simp [tu_K]
theorem tu_rawL {ad : Nat → Nat} {x : Int64} {st : List tu_v} : (tu_l (tu_n64 x) :: st).map (tu_vl ad) = .long x :: st.map (tu_vl ad) := by
  show Value.long (tu_K (tu_n64 x)) :: _ = _
  rw [tu_n64_K]
theorem tu_land (pc : Nat) (X : tu_X T cc own fr lo) {a b : Nat} (hd : decode cc pc = .ok (.land, 1)) (kk : tu_W T (pc + 1) lv (tu_l (a &&& b) :: st) M) : tu_W T pc lv (tu_l b :: tu_l a :: st) M := by
  obtain ⟨p, l, e, R, s, m, args, below, meth, c, nL, g, ad, kc, ks, Q⟩ := T
  obtain ⟨hx, hb, hml, hown, hts, hK, hI, hst, hfr, hlo, hkc, hks⟩ := X
  intro H locs ls hP hS hl
  have h := kk H locs ls hP hS hl
  have e1 : tu_K (a &&& b) = tu_K a &&& tu_K b := by
    apply Int64.toBitVec_inj.mp
    rw [Int64.toBitVec_and, tu_K_b, tu_K_b, tu_K_b]
    apply BitVec.eq_of_toNat_eq
    simp [Nat.and_mod_two_pow]
  rw [show (tu_l (a &&& b) :: st).map (tu_vl ad) = .long (tu_K a &&& tu_K b) :: st.map (tu_vl ad) from by rw [← e1]; rfl] at h
  exact lv_land hx hb hd h
theorem tu_lushr (pc : Nat) (X : tu_X T cc own fr lo) {a : Nat} {b : Int} (k : Nat) (hd : decode cc pc = .ok (.lushr, 1)) (ha : a < 18446744073709551616) (hb2 : b = (k : Int)) (hk : k < 64) (kk : tu_W T (pc + 1) lv (tu_l (a / 2 ^ k) :: st) M) : tu_W T pc lv (tu_i b :: tu_l a :: st) M := by
  obtain ⟨p, l, e, R, s, m, args, below, meth, c, nL, g, ad, kc, ks, Q⟩ := T
  obtain ⟨hx, hb, hml, hown, hts, hK, hI, hst, hfr, hlo, hkc, hks⟩ := X
  intro H locs ls hP hS hl
  have h := kk H locs ls hP hS hl
  subst hb2
  have e0 : ∀ k : Nat, k < 64 → (((nI k).toInt64.toUInt64 &&& Int64.toUInt64 63).toBitVec % 64).toNat = k := by decide +kernel
  have e1 : ((tu_K a).toUInt64 >>> ((tu_J (k : Int)).toInt64.toUInt64 &&& Int64.toUInt64 63)).toInt64 = tu_K (a / 2 ^ k) := by
    apply Int64.toBitVec_inj.mp
    apply BitVec.eq_of_toNat_eq
    rw [tu_J_n]
    have e2 := e0 k hk
    have e3 : a / 2 ^ k < 18446744073709551616 := Nat.lt_of_le_of_lt (Nat.div_le_self _ _) ha
    simp only [UInt64.toBitVec_toInt64, UInt64.toBitVec_shiftRight, BitVec.ushiftRight_eq', BitVec.toNat_ushiftRight, Nat.shiftRight_eq_div_pow, tu_K_b, BitVec.toNat_ofNat]
    rw [e2]
    rw [show (tu_K a).toUInt64.toBitVec.toNat = a % 2 ^ 64 from by rw [show (tu_K a).toUInt64.toBitVec = (tu_K a).toBitVec from rfl, tu_K_b, BitVec.toNat_ofNat]]
    rw [Nat.mod_eq_of_lt (by omega), Nat.mod_eq_of_lt (by omega)]
  exact lv_lushr (v := tu_K (a / 2 ^ k)) hx hb hd e1 h
def tu_lc (a b : Nat) : Int := (lg_cmp (tu_K a) (tu_K b)).toInt
theorem tu_lcmp (pc : Nat) (X : tu_X T cc own fr lo) {a b : Nat} (hd : decode cc pc = .ok (.lcmp, 1)) (kk : tu_W T (pc + 1) lv (tu_i (tu_lc a b) :: st) M) : tu_W T pc lv (tu_l b :: tu_l a :: st) M := by
  obtain ⟨p, l, e, R, s, m, args, below, meth, c, nL, g, ad, kc, ks, Q⟩ := T
  obtain ⟨hx, hb, hml, hown, hts, hK, hI, hst, hfr, hlo, hkc, hks⟩ := X
  intro H locs ls hP hS hl
  have h := kk H locs ls hP hS hl
  rw [show (tu_i (tu_lc a b) :: st).map (tu_vl ad) = _ from tu_raw] at h
  exact W.lcmp hx hb hd h
theorem tu_l2i (pc : Nat) (X : tu_X T cc own fr lo) {a : Nat} (hd : decode cc pc = .ok (.l2i, 1)) (kk : tu_W T (pc + 1) lv (tu_i (a : Int) :: st) M) : tu_W T pc lv (tu_l a :: st) M := by
  obtain ⟨p, l, e, R, s, m, args, below, meth, c, nL, g, ad, kc, ks, Q⟩ := T
  obtain ⟨hx, hb, hml, hown, hts, hK, hI, hst, hfr, hlo, hkc, hks⟩ := X
  intro H locs ls hP hS hl
  have h := kk H locs ls hP hS hl
  exact lv_l2i (v := tu_J (a : Int)) hx hb hd (by rw [tu_J_n]; exact lN_i a) h
theorem tu_i2c (pc : Nat) (X : tu_X T cc own fr lo) {a : Int} (k : Nat) (hd : decode cc pc = .ok (.i2c, 1)) (ha : a = (k : Int)) (hk : k < 65536) (kk : tu_W T (pc + 1) lv (tu_i a :: st) M) : tu_W T pc lv (tu_i a :: st) M := by
  obtain ⟨p, l, e, R, s, m, args, below, meth, c, nL, g, ad, kc, ks, Q⟩ := T
  obtain ⟨hx, hb, hml, hown, hts, hK, hI, hst, hfr, hlo, hkc, hks⟩ := X
  intro H locs ls hP hS hl
  have h := kk H locs ls hP hS hl
  subst ha
  refine lv_i2c (v := tu_J (k : Int)) hx hb hd ?_ h
  rw [pk_char, tu_J_n, pk_tn (by omega), Nat.mod_eq_of_lt hk]
theorem tu_i2l (pc : Nat) (X : tu_X T cc own fr lo) {a : Int} (hd : decode cc pc = .ok (.i2l, 1)) (kk : tu_W T (pc + 1) lv (tu_l (tu_n64 (tu_J a).toInt64) :: st) M) : tu_W T pc lv (tu_i a :: st) M := by
  obtain ⟨p, l, e, R, s, m, args, below, meth, c, nL, g, ad, kc, ks, Q⟩ := T
  obtain ⟨hx, hb, hml, hown, hts, hK, hI, hst, hfr, hlo, hkc, hks⟩ := X
  intro H locs ls hP hS hl
  have h := kk H locs ls hP hS hl
  rw [show (tu_l (tu_n64 (tu_J a).toInt64) :: st).map (tu_vl ad) = _ from tu_rawL] at h
  exact lv_i2l hx hb hd rfl h
/-! jumps: other listed locals, the memory in another form -/
def tu_pk (lv : List (Nat × tu_v)) : List Nat → List (Nat × tu_v) → Prop
  | [], [] => True
  | p :: ps, q :: qs => lv[p]? = some q ∧ tu_pk lv ps qs
  | _, _ => False
theorem tu_ei {i : Nat} {x y : Int} (h : x = y) : some (i, tu_i x) = some (i, tu_i y) := by rw [h]
theorem tu_el {i : Nat} {x y : Nat} (h : x = y) : some (i, tu_l x) = some (i, tu_l y) := by rw [h]
theorem tu_pk_in {lv : List (Nat × tu_v)} : ∀ {ps : List Nat} {l : List (Nat × tu_v)}, tu_pk lv ps l → ∀ q ∈ l, q ∈ lv
  | [], [], _, q, h => by cases h
  | p :: ps, a :: l, h, q, hq => by
    rcases List.mem_cons.mp hq with rfl | hq
    · exact List.mem_of_getElem? h.1
    · exact tu_pk_in h.2 q hq
  | [], _ :: _, h, _, _ => h.elim
  | _ :: _, [], h, _, _ => h.elim
theorem tu_jmp {pc : Nat} {lv' : List (Nat × tu_v)} {M' : tu_M} (ps : List Nat) (hp : tu_pk lv ps lv') (hM : M = M') (kk : tu_W T pc lv' st M') : tu_W T pc lv st M := by
  obtain ⟨p, l, e, R, s, m, args, below, meth, c, nL, g, ad, kc, ks, Q⟩ := T
  subst hM
  intro H locs ls hP hS hl
  refine kk H locs ls hP hS ⟨hl.1, hl.2.1, fun q hq => ?_⟩
  obtain ⟨a, ha, rfl⟩ := List.mem_map.mp hq
  exact hl.2.2 _ (List.mem_map.mpr ⟨a, tu_pk_in hp a ha, rfl⟩)
theorem tu_st_eq {pc : Nat} {st' : List tu_v} {M' : tu_M} (h : st = st') (hM : M = M') (kk : tu_W T pc lv st' M') : tu_W T pc lv st M := by subst h; subst hM; exact kk
theorem tu_tp {pc : Nat} {a b : Int} (h : a = b) (kk : tu_W T pc lv (tu_i b :: st) M) : tu_W T pc lv (tu_i a :: st) M := by subst h; exact kk
end TD
/-! truth values -/
def tu_b (c : Prop) [Decidable c] : Int := if c then 1 else 0
theorem tu_b1 {c : Prop} [Decidable c] (h : c) : tu_b c = 1 := if_pos h
theorem tu_b0 {c : Prop} [Decidable c] (h : ¬ c) : tu_b c = 0 := if_neg h
theorem tu_b_rg {c : Prop} [Decidable c] : tu_rg (tu_b c) := by
  unfold tu_b; split <;> exact ⟨by decide, by decide⟩
theorem tu_b_01 {c : Prop} [Decidable c] : tu_b c = 0 ∨ tu_b c = 1 := by unfold tu_b; split <;> simp
theorem tu_b_e0 {c : Prop} [Decidable c] (h : tu_b c = 0) : ¬ c := fun z => by rw [tu_b1 z] at h; cases h
theorem tu_b_n0 {c : Prop} [Decidable c] (h : tu_b c ≠ 0) : c := Decidable.byContradiction fun z => h (tu_b0 z)
