section TU
variable {T : tu_T} {cc : ByteArray} {own : String} {fr lo : Nat} {lv : List (Nat × tu_v)} {st : List tu_v} {M : tu_M}
theorem tu_at {ad : Nat → Nat} {ls : Array Slot} {nL : Nat} {lv : List (Nat × tu_v)} (h : lv_has ls nL (lv.map fun q => (q.1, tu_vl ad q.2))) (k : Nat) {i : Nat} {v : tu_v} (hk : lv[k]? = some (i, v)) : ls[i]? = some (.val (tu_vl ad v)) :=
  lv_at h k (by rw [List.getElem?_map, hk]; rfl)
def tu_2 (v : tu_v) : Bool := match v with
  | .inr (.inr _) => true
  | _ => false
theorem tu_2c (ad : Nat → Nat) (v : tu_v) : ((tu_vl ad v).category == 2) = tu_2 v := by
  rcases v with z | i | u <;> rfl
def tu_pt (i : Nat) (v : tu_v) (lv : List (Nat × tu_v)) : List (Nat × tu_v) := (i, v) :: lv.filter (fun q => !(q.1 == i) && !(q.1 + 1 == i && tu_2 q.2))
def tu_pt2 (i : Nat) (v : tu_v) (lv : List (Nat × tu_v)) : List (Nat × tu_v) := (i, v) :: lv.filter (fun q => !(q.1 == i) && (!(q.1 == i + 1) && !(q.1 + 1 == i && tu_2 q.2)))
theorem tu_pt_e (ad : Nat → Nat) (i : Nat) (v : tu_v) (lv : List (Nat × tu_v)) : (i, tu_vl ad v) :: (lv.map fun q => (q.1, tu_vl ad q.2)).filter (fun q => !(q.1 == i) && !(q.1 + 1 == i && q.2.category == 2)) = (tu_pt i v lv).map fun q => (q.1, tu_vl ad q.2) := by
  simp only [tu_pt, List.map_cons, List.filter_map, Function.comp_def, tu_2c]
theorem tu_pt2_e (ad : Nat → Nat) (i : Nat) (v : tu_v) (lv : List (Nat × tu_v)) : (i, tu_vl ad v) :: (lv.map fun q => (q.1, tu_vl ad q.2)).filter (fun q => !(q.1 == i) && (!(q.1 == i + 1) && !(q.1 + 1 == i && q.2.category == 2))) = (tu_pt2 i v lv).map fun q => (q.1, tu_vl ad q.2) := by
  simp only [tu_pt2, List.map_cons, List.filter_map, Function.comp_def, tu_2c]
theorem tu_lit {z : Int} {v : Int32} (h : v = tu_J z) : Value.int v = .int (tu_J z) := by rw [h]

theorem tu_iconst (pc : Nat) (X : tu_X T cc own fr lo) {n : Int} (hd : decode cc pc = .ok (.iconst n, 1))
    (kk : tu_W T (pc + 1) lv (tu_i n :: st) M) : tu_W T pc lv st M := by
  obtain ⟨p, l, e, R, s, m, args, below, meth, c, nL, g, ad, kc, ks, Q⟩ := T
  obtain ⟨hx, hb, hml, hown, hts, hK, hI, hst, hfr, hlo, hkc, hks⟩ := X
  intro H locs ls hP hS hl
  exact lv_iconst hx hb hd rfl (kk H locs ls hP hS hl)

theorem tu_bipush (pc : Nat) (X : tu_X T cc own fr lo) {n : Int} (hd : decode cc pc = .ok (.bipush n, 2)) (hv : (Int8.ofInt n).toInt32 = tu_J n)
    (kk : tu_W T (pc + 2) lv (tu_i n :: st) M) : tu_W T pc lv st M := by
  obtain ⟨p, l, e, R, s, m, args, below, meth, c, nL, g, ad, kc, ks, Q⟩ := T
  obtain ⟨hx, hb, hml, hown, hts, hK, hI, hst, hfr, hlo, hkc, hks⟩ := X
  intro H locs ls hP hS hl
  exact lv_bipush hx hb hd hv (kk H locs ls hP hS hl)

theorem tu_sipush (pc : Nat) (X : tu_X T cc own fr lo) {n : Int} (hd : decode cc pc = .ok (.sipush n, 3)) (hv : (Int16.ofInt n).toInt32 = tu_J n)
    (kk : tu_W T (pc + 3) lv (tu_i n :: st) M) : tu_W T pc lv st M := by
  obtain ⟨p, l, e, R, s, m, args, below, meth, c, nL, g, ad, kc, ks, Q⟩ := T
  obtain ⟨hx, hb, hml, hown, hts, hK, hI, hst, hfr, hlo, hkc, hks⟩ := X
  intro H locs ls hP hS hl
  exact lv_sipush hx hb hd hv (kk H locs ls hP hS hl)

theorem tu_ldc (pc : Nat) (X : tu_X T cc own fr lo) {idx : Nat} {v : Int32} {n : Int} (hd : decode cc pc = .ok (.ldc idx, 2)) (hw : Cond.constant own idx v ∈ tu_tb) (hv : v = tu_J n)
    (kk : tu_W T (pc + 2) lv (tu_i n :: st) M) : tu_W T pc lv st M := by
  obtain ⟨p, l, e, R, s, m, args, below, meth, c, nL, g, ad, kc, ks, Q⟩ := T
  obtain ⟨hx, hb, hml, hown, hts, hK, hI, hst, hfr, hlo, hkc, hks⟩ := X
  intro H locs ls hP hS hl
  subst hv
  exact lv_ldc hx hb hown (hts _ hw) hd (kk H locs ls hP hS hl)

theorem tu_ldc2 (pc : Nat) (X : tu_X T cc own fr lo) {idx : Nat} {v : Int64} {n : Nat} (hd : decode cc pc = .ok (.ldc2_w idx, 3)) (hw : Cond.constantLong own idx v ∈ tu_tb) (hv : v = tu_K n)
    (kk : tu_W T (pc + 3) lv (tu_l n :: st) M) : tu_W T pc lv st M := by
  obtain ⟨p, l, e, R, s, m, args, below, meth, c, nL, g, ad, kc, ks, Q⟩ := T
  obtain ⟨hx, hb, hml, hown, hts, hK, hI, hst, hfr, hlo, hkc, hks⟩ := X
  intro H locs ls hP hS hl
  subst hv
  exact lv_ldc2 hx hb hown (hts _ hw) hd (kk H locs ls hP hS hl)

theorem tu_lconst (pc : Nat) (X : tu_X T cc own fr lo) {n : Fin 2} (hd : decode cc pc = .ok (.lconst n, 1))
    (kk : tu_W T (pc + 1) lv (tu_l n :: st) M) : tu_W T pc lv st M := by
  obtain ⟨p, l, e, R, s, m, args, below, meth, c, nL, g, ad, kc, ks, Q⟩ := T
  obtain ⟨hx, hb, hml, hown, hts, hK, hI, hst, hfr, hlo, hkc, hks⟩ := X
  intro H locs ls hP hS hl
  exact lv_lconst hx hb hd rfl (kk H locs ls hP hS hl)

theorem tu_iload_n (pc : Nat) (X : tu_X T cc own fr lo) {k : Fin 4} {x : Int} (q : Nat) (hd : decode cc pc = .ok (.iload_n k, 1)) (hl0 : lv[q]? = some ((k : Nat), tu_i x))
    (kk : tu_W T (pc + 1) lv (tu_i x :: st) M) : tu_W T pc lv st M := by
  obtain ⟨p, l, e, R, s, m, args, below, meth, c, nL, g, ad, kc, ks, Q⟩ := T
  obtain ⟨hx, hb, hml, hown, hts, hK, hI, hst, hfr, hlo, hkc, hks⟩ := X
  intro H locs ls hP hS hl
  exact lv_iload_n hx hb hd rfl (tu_at hl q hl0) (kk H locs ls hP hS hl)

theorem tu_iload (pc : Nat) (X : tu_X T cc own fr lo) {k : Nat} {x : Int} (q : Nat) (hd : decode cc pc = .ok (.iload k, 2)) (hl0 : lv[q]? = some (k, tu_i x))
    (kk : tu_W T (pc + 2) lv (tu_i x :: st) M) : tu_W T pc lv st M := by
  obtain ⟨p, l, e, R, s, m, args, below, meth, c, nL, g, ad, kc, ks, Q⟩ := T
  obtain ⟨hx, hb, hml, hown, hts, hK, hI, hst, hfr, hlo, hkc, hks⟩ := X
  intro H locs ls hP hS hl
  exact lv_iload hx hb hd (tu_at hl q hl0) (kk H locs ls hP hS hl)

theorem tu_istore_n (pc : Nat) (X : tu_X T cc own fr lo) {k : Fin 4} {x : Int} {lv' : List (Nat × tu_v)} (hd : decode cc pc = .ok (.istore_n k, 1)) (hn : (k : Nat)  < T.2.2.2.2.2.2.2.2.2.2.1) (hl0 : tu_pt (k : Nat) (tu_i x) lv = lv')
    (kk : tu_W T (pc + 1) lv' st M) : tu_W T pc lv (tu_i x :: st) M := by
  obtain ⟨p, l, e, R, s, m, args, below, meth, c, nL, g, ad, kc, ks, Q⟩ := T
  obtain ⟨hx, hb, hml, hown, hts, hK, hI, hst, hfr, hlo, hkc, hks⟩ := X
  intro H locs ls hP hS hl
  subst hl0
  exact lv_istore_n (lv' := (tu_pt (k : Nat) (tu_i x) lv).map fun q => (q.1, tu_vl ad q.2)) hx hb hd rfl hl hn (tu_pt_e ad _ (tu_i x) lv) (fun ls' hl' => kk H locs ls' hP hS hl')

theorem tu_istore (pc : Nat) (X : tu_X T cc own fr lo) {k : Nat} {x : Int} {lv' : List (Nat × tu_v)} (hd : decode cc pc = .ok (.istore k, 2)) (hn : k  < T.2.2.2.2.2.2.2.2.2.2.1) (hl0 : tu_pt k (tu_i x) lv = lv')
    (kk : tu_W T (pc + 2) lv' st M) : tu_W T pc lv (tu_i x :: st) M := by
  obtain ⟨p, l, e, R, s, m, args, below, meth, c, nL, g, ad, kc, ks, Q⟩ := T
  obtain ⟨hx, hb, hml, hown, hts, hK, hI, hst, hfr, hlo, hkc, hks⟩ := X
  intro H locs ls hP hS hl
  subst hl0
  exact lv_istore (lv' := (tu_pt k (tu_i x) lv).map fun q => (q.1, tu_vl ad q.2)) hx hb hd hl hn (tu_pt_e ad _ (tu_i x) lv) (fun ls' hl' => kk H locs ls' hP hS hl')

theorem tu_aload_n (pc : Nat) (X : tu_X T cc own fr lo) {k : Fin 4} {x : Nat} (q : Nat) (hd : decode cc pc = .ok (.aload_n k, 1)) (hl0 : lv[q]? = some ((k : Nat), tu_r x))
    (kk : tu_W T (pc + 1) lv (tu_r x :: st) M) : tu_W T pc lv st M := by
  obtain ⟨p, l, e, R, s, m, args, below, meth, c, nL, g, ad, kc, ks, Q⟩ := T
  obtain ⟨hx, hb, hml, hown, hts, hK, hI, hst, hfr, hlo, hkc, hks⟩ := X
  intro H locs ls hP hS hl
  exact lv_aload_n hx hb hd rfl (tu_at hl q hl0) (kk H locs ls hP hS hl)

theorem tu_aload (pc : Nat) (X : tu_X T cc own fr lo) {k : Nat} {x : Nat} (q : Nat) (hd : decode cc pc = .ok (.aload k, 2)) (hl0 : lv[q]? = some (k, tu_r x))
    (kk : tu_W T (pc + 2) lv (tu_r x :: st) M) : tu_W T pc lv st M := by
  obtain ⟨p, l, e, R, s, m, args, below, meth, c, nL, g, ad, kc, ks, Q⟩ := T
  obtain ⟨hx, hb, hml, hown, hts, hK, hI, hst, hfr, hlo, hkc, hks⟩ := X
  intro H locs ls hP hS hl
  exact lv_aload hx hb hd (tu_at hl q hl0) (kk H locs ls hP hS hl)

theorem tu_astore_n (pc : Nat) (X : tu_X T cc own fr lo) {k : Fin 4} {x : Nat} {lv' : List (Nat × tu_v)} (hd : decode cc pc = .ok (.astore_n k, 1)) (hn : (k : Nat)  < T.2.2.2.2.2.2.2.2.2.2.1) (hl0 : tu_pt (k : Nat) (tu_r x) lv = lv')
    (kk : tu_W T (pc + 1) lv' st M) : tu_W T pc lv (tu_r x :: st) M := by
  obtain ⟨p, l, e, R, s, m, args, below, meth, c, nL, g, ad, kc, ks, Q⟩ := T
  obtain ⟨hx, hb, hml, hown, hts, hK, hI, hst, hfr, hlo, hkc, hks⟩ := X
  intro H locs ls hP hS hl
  subst hl0
  exact lv_astore_n (lv' := (tu_pt (k : Nat) (tu_r x) lv).map fun q => (q.1, tu_vl ad q.2)) hx hb hd rfl hl hn (tu_pt_e ad _ (tu_r x) lv) (fun ls' hl' => kk H locs ls' hP hS hl')

theorem tu_lload_n (pc : Nat) (X : tu_X T cc own fr lo) {k : Fin 4} {x : Nat} (q : Nat) (hd : decode cc pc = .ok (.lload_n k, 1)) (hl0 : lv[q]? = some ((k : Nat), tu_l x))
    (kk : tu_W T (pc + 1) lv (tu_l x :: st) M) : tu_W T pc lv st M := by
  obtain ⟨p, l, e, R, s, m, args, below, meth, c, nL, g, ad, kc, ks, Q⟩ := T
  obtain ⟨hx, hb, hml, hown, hts, hK, hI, hst, hfr, hlo, hkc, hks⟩ := X
  intro H locs ls hP hS hl
  exact lv_lload_n hx hb hd rfl (tu_at hl q hl0) (kk H locs ls hP hS hl)

theorem tu_lload (pc : Nat) (X : tu_X T cc own fr lo) {k : Nat} {x : Nat} (q : Nat) (hd : decode cc pc = .ok (.lload k, 2)) (hl0 : lv[q]? = some (k, tu_l x))
    (kk : tu_W T (pc + 2) lv (tu_l x :: st) M) : tu_W T pc lv st M := by
  obtain ⟨p, l, e, R, s, m, args, below, meth, c, nL, g, ad, kc, ks, Q⟩ := T
  obtain ⟨hx, hb, hml, hown, hts, hK, hI, hst, hfr, hlo, hkc, hks⟩ := X
  intro H locs ls hP hS hl
  exact lv_lload hx hb hd (tu_at hl q hl0) (kk H locs ls hP hS hl)

theorem tu_lstore_n (pc : Nat) (X : tu_X T cc own fr lo) {k : Fin 4} {x : Nat} {lv' : List (Nat × tu_v)} (hd : decode cc pc = .ok (.lstore_n k, 1)) (hn : (k : Nat) + 1 < T.2.2.2.2.2.2.2.2.2.2.1) (hl0 : tu_pt2 (k : Nat) (tu_l x) lv = lv')
    (kk : tu_W T (pc + 1) lv' st M) : tu_W T pc lv (tu_l x :: st) M := by
  obtain ⟨p, l, e, R, s, m, args, below, meth, c, nL, g, ad, kc, ks, Q⟩ := T
  obtain ⟨hx, hb, hml, hown, hts, hK, hI, hst, hfr, hlo, hkc, hks⟩ := X
  intro H locs ls hP hS hl
  subst hl0
  exact lv_lstore_n (lv' := (tu_pt2 (k : Nat) (tu_l x) lv).map fun q => (q.1, tu_vl ad q.2)) hx hb hd rfl hl hn (tu_pt2_e ad _ (tu_l x) lv) (fun ls' hl' => kk H locs ls' hP hS hl')

theorem tu_lstore (pc : Nat) (X : tu_X T cc own fr lo) {k : Nat} {x : Nat} {lv' : List (Nat × tu_v)} (hd : decode cc pc = .ok (.lstore k, 2)) (hn : k + 1 < T.2.2.2.2.2.2.2.2.2.2.1) (hl0 : tu_pt2 k (tu_l x) lv = lv')
    (kk : tu_W T (pc + 2) lv' st M) : tu_W T pc lv (tu_l x :: st) M := by
  obtain ⟨p, l, e, R, s, m, args, below, meth, c, nL, g, ad, kc, ks, Q⟩ := T
  obtain ⟨hx, hb, hml, hown, hts, hK, hI, hst, hfr, hlo, hkc, hks⟩ := X
  intro H locs ls hP hS hl
  subst hl0
  exact lv_lstore (lv' := (tu_pt2 k (tu_l x) lv).map fun q => (q.1, tu_vl ad q.2)) hx hb hd hl hn (tu_pt2_e ad _ (tu_l x) lv) (fun ls' hl' => kk H locs ls' hP hS hl')

theorem tu_iinc (pc : Nat) (X : tu_X T cc own fr lo) {i : Nat} {n x : Int} {lv' : List (Nat × tu_v)} (q : Nat) (hd : decode cc pc = .ok (.iinc i n, 3)) (hk : lv[q]? = some (i, tu_i x)) (hn : i < T.2.2.2.2.2.2.2.2.2.2.1) (hl0 : tu_pt i (tu_i (x + n)) lv = lv')
    (kk : tu_W T (pc + 3) lv' st M) : tu_W T pc lv st M := by
  obtain ⟨p, l, e, R, s, m, args, below, meth, c, nL, g, ad, kc, ks, Q⟩ := T
  obtain ⟨hx, hb, hml, hown, hts, hK, hI, hst, hfr, hlo, hkc, hks⟩ := X
  intro H locs ls hP hS hl
  subst hl0
  exact lv_iinc (v := tu_J (x + n)) (lv' := (tu_pt i (tu_i (x + n)) lv).map fun q => (q.1, tu_vl ad q.2)) hx hb hd hl (k := q) (x := tu_J x) (by rw [List.getElem?_map, hk]; rfl) (tu_J_add x n).symm hn (tu_pt_e ad _ (tu_i (x + n)) lv) (fun ls' hl' => kk H locs ls' hP hS hl')

theorem tu_iadd (pc : Nat) (X : tu_X T cc own fr lo) {a b : Int} (hd : decode cc pc = .ok (.iadd, 1))
    (kk : tu_W T (pc + 1) lv (tu_i (a + b) :: st) M) : tu_W T pc lv (tu_i b :: tu_i a :: st) M := by
  obtain ⟨p, l, e, R, s, m, args, below, meth, c, nL, g, ad, kc, ks, Q⟩ := T
  obtain ⟨hx, hb, hml, hown, hts, hK, hI, hst, hfr, hlo, hkc, hks⟩ := X
  intro H locs ls hP hS hl
  have h := kk H locs ls hP hS hl
  rw [show (tu_i (a + b) :: st).map (tu_vl ad) = .int (tu_J a + tu_J b) :: st.map (tu_vl ad) from by rw [← tu_J_add]; rfl] at h
  exact lv_iadd hx hb hd h

theorem tu_isub (pc : Nat) (X : tu_X T cc own fr lo) {a b : Int} (hd : decode cc pc = .ok (.isub, 1))
    (kk : tu_W T (pc + 1) lv (tu_i (a - b) :: st) M) : tu_W T pc lv (tu_i b :: tu_i a :: st) M := by
  obtain ⟨p, l, e, R, s, m, args, below, meth, c, nL, g, ad, kc, ks, Q⟩ := T
  obtain ⟨hx, hb, hml, hown, hts, hK, hI, hst, hfr, hlo, hkc, hks⟩ := X
  intro H locs ls hP hS hl
  have h := kk H locs ls hP hS hl
  rw [show (tu_i (a - b) :: st).map (tu_vl ad) = .int (tu_J a - tu_J b) :: st.map (tu_vl ad) from by rw [← tu_J_sub]; rfl] at h
  exact lv_isub hx hb hd h

theorem tu_imul (pc : Nat) (X : tu_X T cc own fr lo) {a b : Int} (hd : decode cc pc = .ok (.imul, 1))
    (kk : tu_W T (pc + 1) lv (tu_i (a * b) :: st) M) : tu_W T pc lv (tu_i b :: tu_i a :: st) M := by
  obtain ⟨p, l, e, R, s, m, args, below, meth, c, nL, g, ad, kc, ks, Q⟩ := T
  obtain ⟨hx, hb, hml, hown, hts, hK, hI, hst, hfr, hlo, hkc, hks⟩ := X
  intro H locs ls hP hS hl
  have h := kk H locs ls hP hS hl
  rw [show (tu_i (a * b) :: st).map (tu_vl ad) = .int (tu_J a * tu_J b) :: st.map (tu_vl ad) from by rw [← tu_J_mul]; rfl] at h
  exact lv_imul hx hb hd h

theorem tu_raw {ad : Nat → Nat} {x : Int32} {st : List tu_v} : (tu_i x.toInt :: st).map (tu_vl ad) = .int x :: st.map (tu_vl ad) := by
  show Value.int (tu_J x.toInt) :: _ = _
  rw [tu_J_t]
def tu_and (a b : Int) : Int := (tu_J a &&& tu_J b).toInt
def tu_or (a b : Int) : Int := (tu_J a ||| tu_J b).toInt
def tu_xor (a b : Int) : Int := (tu_J a ^^^ tu_J b).toInt
def tu_shl (a b : Int) : Int := (tu_J a <<< (tu_J b &&& 31)).toInt
def tu_shr (a b : Int) : Int := (tu_J a >>> (tu_J b &&& 31)).toInt
def tu_rem (a b : Int) : Int := (tu_J a - tu_J a / tu_J b * tu_J b).toInt

theorem tu_iand (pc : Nat) (X : tu_X T cc own fr lo) {a b : Int} (hd : decode cc pc = .ok (.iand, 1))
    (kk : tu_W T (pc + 1) lv (tu_i (tu_and a b) :: st) M) : tu_W T pc lv (tu_i b :: tu_i a :: st) M := by
  obtain ⟨p, l, e, R, s, m, args, below, meth, c, nL, g, ad, kc, ks, Q⟩ := T
  obtain ⟨hx, hb, hml, hown, hts, hK, hI, hst, hfr, hlo, hkc, hks⟩ := X
  intro H locs ls hP hS hl
  have h := kk H locs ls hP hS hl
  rw [show (tu_i (tu_and a b) :: st).map (tu_vl ad) = _ from tu_raw] at h
  exact lv_iand hx hb hd h

theorem tu_ior (pc : Nat) (X : tu_X T cc own fr lo) {a b : Int} (hd : decode cc pc = .ok (.ior, 1))
    (kk : tu_W T (pc + 1) lv (tu_i (tu_or a b) :: st) M) : tu_W T pc lv (tu_i b :: tu_i a :: st) M := by
  obtain ⟨p, l, e, R, s, m, args, below, meth, c, nL, g, ad, kc, ks, Q⟩ := T
  obtain ⟨hx, hb, hml, hown, hts, hK, hI, hst, hfr, hlo, hkc, hks⟩ := X
  intro H locs ls hP hS hl
  have h := kk H locs ls hP hS hl
  rw [show (tu_i (tu_or a b) :: st).map (tu_vl ad) = _ from tu_raw] at h
  exact lv_ior hx hb hd h

theorem tu_ixor (pc : Nat) (X : tu_X T cc own fr lo) {a b : Int} (hd : decode cc pc = .ok (.ixor, 1))
    (kk : tu_W T (pc + 1) lv (tu_i (tu_xor a b) :: st) M) : tu_W T pc lv (tu_i b :: tu_i a :: st) M := by
  obtain ⟨p, l, e, R, s, m, args, below, meth, c, nL, g, ad, kc, ks, Q⟩ := T
  obtain ⟨hx, hb, hml, hown, hts, hK, hI, hst, hfr, hlo, hkc, hks⟩ := X
  intro H locs ls hP hS hl
  have h := kk H locs ls hP hS hl
  rw [show (tu_i (tu_xor a b) :: st).map (tu_vl ad) = _ from tu_raw] at h
  exact lv_ixor hx hb hd h

theorem tu_ishl (pc : Nat) (X : tu_X T cc own fr lo) {a b : Int} (hd : decode cc pc = .ok (.ishl, 1))
    (kk : tu_W T (pc + 1) lv (tu_i (tu_shl a b) :: st) M) : tu_W T pc lv (tu_i b :: tu_i a :: st) M := by
  obtain ⟨p, l, e, R, s, m, args, below, meth, c, nL, g, ad, kc, ks, Q⟩ := T
  obtain ⟨hx, hb, hml, hown, hts, hK, hI, hst, hfr, hlo, hkc, hks⟩ := X
  intro H locs ls hP hS hl
  have h := kk H locs ls hP hS hl
  rw [show (tu_i (tu_shl a b) :: st).map (tu_vl ad) = _ from tu_raw] at h
  exact lv_ishl hx hb hd h

theorem tu_ishr (pc : Nat) (X : tu_X T cc own fr lo) {a b : Int} (hd : decode cc pc = .ok (.ishr, 1))
    (kk : tu_W T (pc + 1) lv (tu_i (tu_shr a b) :: st) M) : tu_W T pc lv (tu_i b :: tu_i a :: st) M := by
  obtain ⟨p, l, e, R, s, m, args, below, meth, c, nL, g, ad, kc, ks, Q⟩ := T
  obtain ⟨hx, hb, hml, hown, hts, hK, hI, hst, hfr, hlo, hkc, hks⟩ := X
  intro H locs ls hP hS hl
  have h := kk H locs ls hP hS hl
  rw [show (tu_i (tu_shr a b) :: st).map (tu_vl ad) = _ from tu_raw] at h
  exact lv_ishr hx hb hd h

theorem tu_irem (pc : Nat) (X : tu_X T cc own fr lo) {a b : Int} (hd : decode cc pc = .ok (.irem, 1)) (hr : tu_rg b) (h0 : b ≠ 0)
    (kk : tu_W T (pc + 1) lv (tu_i (tu_rem a b) :: st) M) : tu_W T pc lv (tu_i b :: tu_i a :: st) M := by
  obtain ⟨p, l, e, R, s, m, args, below, meth, c, nL, g, ad, kc, ks, Q⟩ := T
  obtain ⟨hx, hb, hml, hown, hts, hK, hI, hst, hfr, hlo, hkc, hks⟩ := X
  intro H locs ls hP hS hl
  have h := kk H locs ls hP hS hl
  rw [show (tu_i (tu_rem a b) :: st).map (tu_vl ad) = _ from tu_raw] at h
  exact lv_irem hx hb hd (fun z => h0 ((tu_J_eq hr (show tu_rg 0 from ⟨by decide, by decide⟩)).mp (z.trans (by decide)))) h

theorem tu_icmp_eq (pc : Nat) (X : tu_X T cc own fr lo) {a b : Int} {off : Int} (tgt : Nat) (hd : decode cc pc = .ok (.if_icmp .eq off, 3)) (ht : (pc : Int) + off = (tgt : Int)) (ha : tu_rg a) (hb2 : tu_rg b)
    (kt : a = b → tu_W T tgt lv st M)
    (kk : a ≠ b → tu_W T (pc + 3) lv st M) : tu_W T pc lv (tu_i b :: tu_i a :: st) M := by
  obtain ⟨p, l, e, R, s, m, args, below, meth, c, nL, g, ad, kc, ks, Q⟩ := T
  obtain ⟨hx, hb, hml, hown, hts, hK, hI, hst, hfr, hlo, hkc, hks⟩ := X
  intro H locs ls hP hS hl
  exact lv_icmp_eq (tgt := tgt) hx hb hd ht (fun hc => kt (by (first | exact (tu_J_eq ha hb2).mp hc | exact fun z => hc ((tu_J_eq ha hb2).mpr z) | exact Int.not_lt.mp (fun z => hc ((tu_J_eq ha hb2).mpr z)) | exact Int.not_le.mp (fun z => hc ((tu_J_eq ha hb2).mpr z)) | exact Decidable.byContradiction fun z => hc (fun y => z ((tu_J_eq ha hb2).mp y)) | (have hq := mt (tu_J_eq ha hb2).mpr hc; omega) | (have hq := fun y => hc ((tu_J_eq ha hb2).mp y); omega) | (rw [(tu_J_eq ha hb2)] at hc; omega))) H locs ls hP hS hl) (fun hc => kk (by (first | exact (tu_J_eq ha hb2).mp hc | exact fun z => hc ((tu_J_eq ha hb2).mpr z) | exact Int.not_lt.mp (fun z => hc ((tu_J_eq ha hb2).mpr z)) | exact Int.not_le.mp (fun z => hc ((tu_J_eq ha hb2).mpr z)) | exact Decidable.byContradiction fun z => hc (fun y => z ((tu_J_eq ha hb2).mp y)) | (have hq := mt (tu_J_eq ha hb2).mpr hc; omega) | (have hq := fun y => hc ((tu_J_eq ha hb2).mp y); omega) | (rw [(tu_J_eq ha hb2)] at hc; omega))) H locs ls hP hS hl)

theorem tu_if_eq (pc : Nat) (X : tu_X T cc own fr lo) {a : Int} {off : Int} (tgt : Nat) (hd : decode cc pc = .ok (.ifCond .eq off, 3)) (ht : (pc : Int) + off = (tgt : Int)) (ha : tu_rg a) 
    (kt : a = 0 → tu_W T tgt lv st M)
    (kk : a ≠ 0 → tu_W T (pc + 3) lv st M) : tu_W T pc lv (tu_i a :: st) M := by
  obtain ⟨p, l, e, R, s, m, args, below, meth, c, nL, g, ad, kc, ks, Q⟩ := T
  obtain ⟨hx, hb, hml, hown, hts, hK, hI, hst, hfr, hlo, hkc, hks⟩ := X
  intro H locs ls hP hS hl
  exact lv_if_eq (tgt := tgt) hx hb hd ht (fun hc => kt (by (rw [show (0 : Int32) = tu_J 0 from by decide] at hc; first | exact (tu_J_eq ha (show tu_rg 0 from ⟨by decide, by decide⟩)).mp hc | exact fun z => hc ((tu_J_eq ha (show tu_rg 0 from ⟨by decide, by decide⟩)).mpr z) | exact Int.not_lt.mp (fun z => hc ((tu_J_eq ha (show tu_rg 0 from ⟨by decide, by decide⟩)).mpr z)) | exact Int.not_le.mp (fun z => hc ((tu_J_eq ha (show tu_rg 0 from ⟨by decide, by decide⟩)).mpr z)) | exact Decidable.byContradiction fun z => hc (fun y => z ((tu_J_eq ha (show tu_rg 0 from ⟨by decide, by decide⟩)).mp y)) | (have hq := mt (tu_J_eq ha (show tu_rg 0 from ⟨by decide, by decide⟩)).mpr hc; omega) | (have hq := fun y => hc ((tu_J_eq ha (show tu_rg 0 from ⟨by decide, by decide⟩)).mp y); omega) | (rw [(tu_J_eq ha (show tu_rg 0 from ⟨by decide, by decide⟩))] at hc; omega))) H locs ls hP hS hl) (fun hc => kk (by (rw [show (0 : Int32) = tu_J 0 from by decide] at hc; first | exact (tu_J_eq ha (show tu_rg 0 from ⟨by decide, by decide⟩)).mp hc | exact fun z => hc ((tu_J_eq ha (show tu_rg 0 from ⟨by decide, by decide⟩)).mpr z) | exact Int.not_lt.mp (fun z => hc ((tu_J_eq ha (show tu_rg 0 from ⟨by decide, by decide⟩)).mpr z)) | exact Int.not_le.mp (fun z => hc ((tu_J_eq ha (show tu_rg 0 from ⟨by decide, by decide⟩)).mpr z)) | exact Decidable.byContradiction fun z => hc (fun y => z ((tu_J_eq ha (show tu_rg 0 from ⟨by decide, by decide⟩)).mp y)) | (have hq := mt (tu_J_eq ha (show tu_rg 0 from ⟨by decide, by decide⟩)).mpr hc; omega) | (have hq := fun y => hc ((tu_J_eq ha (show tu_rg 0 from ⟨by decide, by decide⟩)).mp y); omega) | (rw [(tu_J_eq ha (show tu_rg 0 from ⟨by decide, by decide⟩))] at hc; omega))) H locs ls hP hS hl)

theorem tu_icmp_ne (pc : Nat) (X : tu_X T cc own fr lo) {a b : Int} {off : Int} (tgt : Nat) (hd : decode cc pc = .ok (.if_icmp .ne off, 3)) (ht : (pc : Int) + off = (tgt : Int)) (ha : tu_rg a) (hb2 : tu_rg b)
    (kt : a ≠ b → tu_W T tgt lv st M)
    (kk : a = b → tu_W T (pc + 3) lv st M) : tu_W T pc lv (tu_i b :: tu_i a :: st) M := by
  obtain ⟨p, l, e, R, s, m, args, below, meth, c, nL, g, ad, kc, ks, Q⟩ := T
  obtain ⟨hx, hb, hml, hown, hts, hK, hI, hst, hfr, hlo, hkc, hks⟩ := X
  intro H locs ls hP hS hl
  exact lv_icmp_ne (tgt := tgt) hx hb hd ht (fun hc => kt (by (first | exact (tu_J_eq ha hb2).mp hc | exact fun z => hc ((tu_J_eq ha hb2).mpr z) | exact Int.not_lt.mp (fun z => hc ((tu_J_eq ha hb2).mpr z)) | exact Int.not_le.mp (fun z => hc ((tu_J_eq ha hb2).mpr z)) | exact Decidable.byContradiction fun z => hc (fun y => z ((tu_J_eq ha hb2).mp y)) | (have hq := mt (tu_J_eq ha hb2).mpr hc; omega) | (have hq := fun y => hc ((tu_J_eq ha hb2).mp y); omega) | (rw [(tu_J_eq ha hb2)] at hc; omega))) H locs ls hP hS hl) (fun hc => kk (by (first | exact (tu_J_eq ha hb2).mp hc | exact fun z => hc ((tu_J_eq ha hb2).mpr z) | exact Int.not_lt.mp (fun z => hc ((tu_J_eq ha hb2).mpr z)) | exact Int.not_le.mp (fun z => hc ((tu_J_eq ha hb2).mpr z)) | exact Decidable.byContradiction fun z => hc (fun y => z ((tu_J_eq ha hb2).mp y)) | (have hq := mt (tu_J_eq ha hb2).mpr hc; omega) | (have hq := fun y => hc ((tu_J_eq ha hb2).mp y); omega) | (rw [(tu_J_eq ha hb2)] at hc; omega))) H locs ls hP hS hl)

theorem tu_if_ne (pc : Nat) (X : tu_X T cc own fr lo) {a : Int} {off : Int} (tgt : Nat) (hd : decode cc pc = .ok (.ifCond .ne off, 3)) (ht : (pc : Int) + off = (tgt : Int)) (ha : tu_rg a) 
    (kt : a ≠ 0 → tu_W T tgt lv st M)
    (kk : a = 0 → tu_W T (pc + 3) lv st M) : tu_W T pc lv (tu_i a :: st) M := by
  obtain ⟨p, l, e, R, s, m, args, below, meth, c, nL, g, ad, kc, ks, Q⟩ := T
  obtain ⟨hx, hb, hml, hown, hts, hK, hI, hst, hfr, hlo, hkc, hks⟩ := X
  intro H locs ls hP hS hl
  exact lv_if_ne (tgt := tgt) hx hb hd ht (fun hc => kt (by (rw [show (0 : Int32) = tu_J 0 from by decide] at hc; first | exact (tu_J_eq ha (show tu_rg 0 from ⟨by decide, by decide⟩)).mp hc | exact fun z => hc ((tu_J_eq ha (show tu_rg 0 from ⟨by decide, by decide⟩)).mpr z) | exact Int.not_lt.mp (fun z => hc ((tu_J_eq ha (show tu_rg 0 from ⟨by decide, by decide⟩)).mpr z)) | exact Int.not_le.mp (fun z => hc ((tu_J_eq ha (show tu_rg 0 from ⟨by decide, by decide⟩)).mpr z)) | exact Decidable.byContradiction fun z => hc (fun y => z ((tu_J_eq ha (show tu_rg 0 from ⟨by decide, by decide⟩)).mp y)) | (have hq := mt (tu_J_eq ha (show tu_rg 0 from ⟨by decide, by decide⟩)).mpr hc; omega) | (have hq := fun y => hc ((tu_J_eq ha (show tu_rg 0 from ⟨by decide, by decide⟩)).mp y); omega) | (rw [(tu_J_eq ha (show tu_rg 0 from ⟨by decide, by decide⟩))] at hc; omega))) H locs ls hP hS hl) (fun hc => kk (by (rw [show (0 : Int32) = tu_J 0 from by decide] at hc; first | exact (tu_J_eq ha (show tu_rg 0 from ⟨by decide, by decide⟩)).mp hc | exact fun z => hc ((tu_J_eq ha (show tu_rg 0 from ⟨by decide, by decide⟩)).mpr z) | exact Int.not_lt.mp (fun z => hc ((tu_J_eq ha (show tu_rg 0 from ⟨by decide, by decide⟩)).mpr z)) | exact Int.not_le.mp (fun z => hc ((tu_J_eq ha (show tu_rg 0 from ⟨by decide, by decide⟩)).mpr z)) | exact Decidable.byContradiction fun z => hc (fun y => z ((tu_J_eq ha (show tu_rg 0 from ⟨by decide, by decide⟩)).mp y)) | (have hq := mt (tu_J_eq ha (show tu_rg 0 from ⟨by decide, by decide⟩)).mpr hc; omega) | (have hq := fun y => hc ((tu_J_eq ha (show tu_rg 0 from ⟨by decide, by decide⟩)).mp y); omega) | (rw [(tu_J_eq ha (show tu_rg 0 from ⟨by decide, by decide⟩))] at hc; omega))) H locs ls hP hS hl)

theorem tu_icmp_lt (pc : Nat) (X : tu_X T cc own fr lo) {a b : Int} {off : Int} (tgt : Nat) (hd : decode cc pc = .ok (.if_icmp .lt off, 3)) (ht : (pc : Int) + off = (tgt : Int)) (ha : tu_rg a) (hb2 : tu_rg b)
    (kt : a < b → tu_W T tgt lv st M)
    (kk : b ≤ a → tu_W T (pc + 3) lv st M) : tu_W T pc lv (tu_i b :: tu_i a :: st) M := by
  obtain ⟨p, l, e, R, s, m, args, below, meth, c, nL, g, ad, kc, ks, Q⟩ := T
  obtain ⟨hx, hb, hml, hown, hts, hK, hI, hst, hfr, hlo, hkc, hks⟩ := X
  intro H locs ls hP hS hl
  exact lv_icmp_lt (tgt := tgt) hx hb hd ht (fun hc => kt (by (first | exact (tu_J_lt ha hb2).mp hc | exact fun z => hc ((tu_J_lt ha hb2).mpr z) | exact Int.not_lt.mp (fun z => hc ((tu_J_lt ha hb2).mpr z)) | exact Int.not_le.mp (fun z => hc ((tu_J_lt ha hb2).mpr z)) | exact Decidable.byContradiction fun z => hc (fun y => z ((tu_J_lt ha hb2).mp y)) | (have hq := mt (tu_J_lt ha hb2).mpr hc; omega) | (have hq := fun y => hc ((tu_J_lt ha hb2).mp y); omega) | (rw [(tu_J_lt ha hb2)] at hc; omega))) H locs ls hP hS hl) (fun hc => kk (by (first | exact (tu_J_lt ha hb2).mp hc | exact fun z => hc ((tu_J_lt ha hb2).mpr z) | exact Int.not_lt.mp (fun z => hc ((tu_J_lt ha hb2).mpr z)) | exact Int.not_le.mp (fun z => hc ((tu_J_lt ha hb2).mpr z)) | exact Decidable.byContradiction fun z => hc (fun y => z ((tu_J_lt ha hb2).mp y)) | (have hq := mt (tu_J_lt ha hb2).mpr hc; omega) | (have hq := fun y => hc ((tu_J_lt ha hb2).mp y); omega) | (rw [(tu_J_lt ha hb2)] at hc; omega))) H locs ls hP hS hl)

theorem tu_if_lt (pc : Nat) (X : tu_X T cc own fr lo) {a : Int} {off : Int} (tgt : Nat) (hd : decode cc pc = .ok (.ifCond .lt off, 3)) (ht : (pc : Int) + off = (tgt : Int)) (ha : tu_rg a) 
    (kt : a < 0 → tu_W T tgt lv st M)
    (kk : 0 ≤ a → tu_W T (pc + 3) lv st M) : tu_W T pc lv (tu_i a :: st) M := by
  obtain ⟨p, l, e, R, s, m, args, below, meth, c, nL, g, ad, kc, ks, Q⟩ := T
  obtain ⟨hx, hb, hml, hown, hts, hK, hI, hst, hfr, hlo, hkc, hks⟩ := X
  intro H locs ls hP hS hl
  exact lv_if_lt (tgt := tgt) hx hb hd ht (fun hc => kt (by (rw [show (0 : Int32) = tu_J 0 from by decide] at hc; first | exact (tu_J_lt ha (show tu_rg 0 from ⟨by decide, by decide⟩)).mp hc | exact fun z => hc ((tu_J_lt ha (show tu_rg 0 from ⟨by decide, by decide⟩)).mpr z) | exact Int.not_lt.mp (fun z => hc ((tu_J_lt ha (show tu_rg 0 from ⟨by decide, by decide⟩)).mpr z)) | exact Int.not_le.mp (fun z => hc ((tu_J_lt ha (show tu_rg 0 from ⟨by decide, by decide⟩)).mpr z)) | exact Decidable.byContradiction fun z => hc (fun y => z ((tu_J_lt ha (show tu_rg 0 from ⟨by decide, by decide⟩)).mp y)) | (have hq := mt (tu_J_lt ha (show tu_rg 0 from ⟨by decide, by decide⟩)).mpr hc; omega) | (have hq := fun y => hc ((tu_J_lt ha (show tu_rg 0 from ⟨by decide, by decide⟩)).mp y); omega) | (rw [(tu_J_lt ha (show tu_rg 0 from ⟨by decide, by decide⟩))] at hc; omega))) H locs ls hP hS hl) (fun hc => kk (by (rw [show (0 : Int32) = tu_J 0 from by decide] at hc; first | exact (tu_J_lt ha (show tu_rg 0 from ⟨by decide, by decide⟩)).mp hc | exact fun z => hc ((tu_J_lt ha (show tu_rg 0 from ⟨by decide, by decide⟩)).mpr z) | exact Int.not_lt.mp (fun z => hc ((tu_J_lt ha (show tu_rg 0 from ⟨by decide, by decide⟩)).mpr z)) | exact Int.not_le.mp (fun z => hc ((tu_J_lt ha (show tu_rg 0 from ⟨by decide, by decide⟩)).mpr z)) | exact Decidable.byContradiction fun z => hc (fun y => z ((tu_J_lt ha (show tu_rg 0 from ⟨by decide, by decide⟩)).mp y)) | (have hq := mt (tu_J_lt ha (show tu_rg 0 from ⟨by decide, by decide⟩)).mpr hc; omega) | (have hq := fun y => hc ((tu_J_lt ha (show tu_rg 0 from ⟨by decide, by decide⟩)).mp y); omega) | (rw [(tu_J_lt ha (show tu_rg 0 from ⟨by decide, by decide⟩))] at hc; omega))) H locs ls hP hS hl)

theorem tu_icmp_ge (pc : Nat) (X : tu_X T cc own fr lo) {a b : Int} {off : Int} (tgt : Nat) (hd : decode cc pc = .ok (.if_icmp .ge off, 3)) (ht : (pc : Int) + off = (tgt : Int)) (ha : tu_rg a) (hb2 : tu_rg b)
    (kt : b ≤ a → tu_W T tgt lv st M)
    (kk : a < b → tu_W T (pc + 3) lv st M) : tu_W T pc lv (tu_i b :: tu_i a :: st) M := by
  obtain ⟨p, l, e, R, s, m, args, below, meth, c, nL, g, ad, kc, ks, Q⟩ := T
  obtain ⟨hx, hb, hml, hown, hts, hK, hI, hst, hfr, hlo, hkc, hks⟩ := X
  intro H locs ls hP hS hl
  exact lv_icmp_ge (tgt := tgt) hx hb hd ht (fun hc => kt (by (first | exact (tu_J_le hb2 ha).mp hc | exact fun z => hc ((tu_J_le hb2 ha).mpr z) | exact Int.not_lt.mp (fun z => hc ((tu_J_le hb2 ha).mpr z)) | exact Int.not_le.mp (fun z => hc ((tu_J_le hb2 ha).mpr z)) | exact Decidable.byContradiction fun z => hc (fun y => z ((tu_J_le hb2 ha).mp y)) | (have hq := mt (tu_J_le hb2 ha).mpr hc; omega) | (have hq := fun y => hc ((tu_J_le hb2 ha).mp y); omega) | (rw [(tu_J_le hb2 ha)] at hc; omega))) H locs ls hP hS hl) (fun hc => kk (by (first | exact (tu_J_le hb2 ha).mp hc | exact fun z => hc ((tu_J_le hb2 ha).mpr z) | exact Int.not_lt.mp (fun z => hc ((tu_J_le hb2 ha).mpr z)) | exact Int.not_le.mp (fun z => hc ((tu_J_le hb2 ha).mpr z)) | exact Decidable.byContradiction fun z => hc (fun y => z ((tu_J_le hb2 ha).mp y)) | (have hq := mt (tu_J_le hb2 ha).mpr hc; omega) | (have hq := fun y => hc ((tu_J_le hb2 ha).mp y); omega) | (rw [(tu_J_le hb2 ha)] at hc; omega))) H locs ls hP hS hl)

theorem tu_if_ge (pc : Nat) (X : tu_X T cc own fr lo) {a : Int} {off : Int} (tgt : Nat) (hd : decode cc pc = .ok (.ifCond .ge off, 3)) (ht : (pc : Int) + off = (tgt : Int)) (ha : tu_rg a) 
    (kt : 0 ≤ a → tu_W T tgt lv st M)
    (kk : a < 0 → tu_W T (pc + 3) lv st M) : tu_W T pc lv (tu_i a :: st) M := by
  obtain ⟨p, l, e, R, s, m, args, below, meth, c, nL, g, ad, kc, ks, Q⟩ := T
  obtain ⟨hx, hb, hml, hown, hts, hK, hI, hst, hfr, hlo, hkc, hks⟩ := X
  intro H locs ls hP hS hl
  exact lv_if_ge (tgt := tgt) hx hb hd ht (fun hc => kt (by (rw [show (0 : Int32) = tu_J 0 from by decide] at hc; first | exact (tu_J_le (show tu_rg 0 from ⟨by decide, by decide⟩) ha).mp hc | exact fun z => hc ((tu_J_le (show tu_rg 0 from ⟨by decide, by decide⟩) ha).mpr z) | exact Int.not_lt.mp (fun z => hc ((tu_J_le (show tu_rg 0 from ⟨by decide, by decide⟩) ha).mpr z)) | exact Int.not_le.mp (fun z => hc ((tu_J_le (show tu_rg 0 from ⟨by decide, by decide⟩) ha).mpr z)) | exact Decidable.byContradiction fun z => hc (fun y => z ((tu_J_le (show tu_rg 0 from ⟨by decide, by decide⟩) ha).mp y)) | (have hq := mt (tu_J_le (show tu_rg 0 from ⟨by decide, by decide⟩) ha).mpr hc; omega) | (have hq := fun y => hc ((tu_J_le (show tu_rg 0 from ⟨by decide, by decide⟩) ha).mp y); omega) | (rw [(tu_J_le (show tu_rg 0 from ⟨by decide, by decide⟩) ha)] at hc; omega))) H locs ls hP hS hl) (fun hc => kk (by (rw [show (0 : Int32) = tu_J 0 from by decide] at hc; first | exact (tu_J_le (show tu_rg 0 from ⟨by decide, by decide⟩) ha).mp hc | exact fun z => hc ((tu_J_le (show tu_rg 0 from ⟨by decide, by decide⟩) ha).mpr z) | exact Int.not_lt.mp (fun z => hc ((tu_J_le (show tu_rg 0 from ⟨by decide, by decide⟩) ha).mpr z)) | exact Int.not_le.mp (fun z => hc ((tu_J_le (show tu_rg 0 from ⟨by decide, by decide⟩) ha).mpr z)) | exact Decidable.byContradiction fun z => hc (fun y => z ((tu_J_le (show tu_rg 0 from ⟨by decide, by decide⟩) ha).mp y)) | (have hq := mt (tu_J_le (show tu_rg 0 from ⟨by decide, by decide⟩) ha).mpr hc; omega) | (have hq := fun y => hc ((tu_J_le (show tu_rg 0 from ⟨by decide, by decide⟩) ha).mp y); omega) | (rw [(tu_J_le (show tu_rg 0 from ⟨by decide, by decide⟩) ha)] at hc; omega))) H locs ls hP hS hl)

theorem tu_icmp_gt (pc : Nat) (X : tu_X T cc own fr lo) {a b : Int} {off : Int} (tgt : Nat) (hd : decode cc pc = .ok (.if_icmp .gt off, 3)) (ht : (pc : Int) + off = (tgt : Int)) (ha : tu_rg a) (hb2 : tu_rg b)
    (kt : b < a → tu_W T tgt lv st M)
    (kk : a ≤ b → tu_W T (pc + 3) lv st M) : tu_W T pc lv (tu_i b :: tu_i a :: st) M := by
  obtain ⟨p, l, e, R, s, m, args, below, meth, c, nL, g, ad, kc, ks, Q⟩ := T
  obtain ⟨hx, hb, hml, hown, hts, hK, hI, hst, hfr, hlo, hkc, hks⟩ := X
  intro H locs ls hP hS hl
  exact lv_icmp_gt (tgt := tgt) hx hb hd ht (fun hc => kt (by (first | exact (tu_J_lt hb2 ha).mp hc | exact fun z => hc ((tu_J_lt hb2 ha).mpr z) | exact Int.not_lt.mp (fun z => hc ((tu_J_lt hb2 ha).mpr z)) | exact Int.not_le.mp (fun z => hc ((tu_J_lt hb2 ha).mpr z)) | exact Decidable.byContradiction fun z => hc (fun y => z ((tu_J_lt hb2 ha).mp y)) | (have hq := mt (tu_J_lt hb2 ha).mpr hc; omega) | (have hq := fun y => hc ((tu_J_lt hb2 ha).mp y); omega) | (rw [(tu_J_lt hb2 ha)] at hc; omega))) H locs ls hP hS hl) (fun hc => kk (by (first | exact (tu_J_lt hb2 ha).mp hc | exact fun z => hc ((tu_J_lt hb2 ha).mpr z) | exact Int.not_lt.mp (fun z => hc ((tu_J_lt hb2 ha).mpr z)) | exact Int.not_le.mp (fun z => hc ((tu_J_lt hb2 ha).mpr z)) | exact Decidable.byContradiction fun z => hc (fun y => z ((tu_J_lt hb2 ha).mp y)) | (have hq := mt (tu_J_lt hb2 ha).mpr hc; omega) | (have hq := fun y => hc ((tu_J_lt hb2 ha).mp y); omega) | (rw [(tu_J_lt hb2 ha)] at hc; omega))) H locs ls hP hS hl)

theorem tu_if_gt (pc : Nat) (X : tu_X T cc own fr lo) {a : Int} {off : Int} (tgt : Nat) (hd : decode cc pc = .ok (.ifCond .gt off, 3)) (ht : (pc : Int) + off = (tgt : Int)) (ha : tu_rg a) 
    (kt : 0 < a → tu_W T tgt lv st M)
    (kk : a ≤ 0 → tu_W T (pc + 3) lv st M) : tu_W T pc lv (tu_i a :: st) M := by
  obtain ⟨p, l, e, R, s, m, args, below, meth, c, nL, g, ad, kc, ks, Q⟩ := T
  obtain ⟨hx, hb, hml, hown, hts, hK, hI, hst, hfr, hlo, hkc, hks⟩ := X
  intro H locs ls hP hS hl
  exact lv_if_gt (tgt := tgt) hx hb hd ht (fun hc => kt (by (rw [show (0 : Int32) = tu_J 0 from by decide] at hc; first | exact (tu_J_lt (show tu_rg 0 from ⟨by decide, by decide⟩) ha).mp hc | exact fun z => hc ((tu_J_lt (show tu_rg 0 from ⟨by decide, by decide⟩) ha).mpr z) | exact Int.not_lt.mp (fun z => hc ((tu_J_lt (show tu_rg 0 from ⟨by decide, by decide⟩) ha).mpr z)) | exact Int.not_le.mp (fun z => hc ((tu_J_lt (show tu_rg 0 from ⟨by decide, by decide⟩) ha).mpr z)) | exact Decidable.byContradiction fun z => hc (fun y => z ((tu_J_lt (show tu_rg 0 from ⟨by decide, by decide⟩) ha).mp y)) | (have hq := mt (tu_J_lt (show tu_rg 0 from ⟨by decide, by decide⟩) ha).mpr hc; omega) | (have hq := fun y => hc ((tu_J_lt (show tu_rg 0 from ⟨by decide, by decide⟩) ha).mp y); omega) | (rw [(tu_J_lt (show tu_rg 0 from ⟨by decide, by decide⟩) ha)] at hc; omega))) H locs ls hP hS hl) (fun hc => kk (by (rw [show (0 : Int32) = tu_J 0 from by decide] at hc; first | exact (tu_J_lt (show tu_rg 0 from ⟨by decide, by decide⟩) ha).mp hc | exact fun z => hc ((tu_J_lt (show tu_rg 0 from ⟨by decide, by decide⟩) ha).mpr z) | exact Int.not_lt.mp (fun z => hc ((tu_J_lt (show tu_rg 0 from ⟨by decide, by decide⟩) ha).mpr z)) | exact Int.not_le.mp (fun z => hc ((tu_J_lt (show tu_rg 0 from ⟨by decide, by decide⟩) ha).mpr z)) | exact Decidable.byContradiction fun z => hc (fun y => z ((tu_J_lt (show tu_rg 0 from ⟨by decide, by decide⟩) ha).mp y)) | (have hq := mt (tu_J_lt (show tu_rg 0 from ⟨by decide, by decide⟩) ha).mpr hc; omega) | (have hq := fun y => hc ((tu_J_lt (show tu_rg 0 from ⟨by decide, by decide⟩) ha).mp y); omega) | (rw [(tu_J_lt (show tu_rg 0 from ⟨by decide, by decide⟩) ha)] at hc; omega))) H locs ls hP hS hl)

theorem tu_icmp_le (pc : Nat) (X : tu_X T cc own fr lo) {a b : Int} {off : Int} (tgt : Nat) (hd : decode cc pc = .ok (.if_icmp .le off, 3)) (ht : (pc : Int) + off = (tgt : Int)) (ha : tu_rg a) (hb2 : tu_rg b)
    (kt : a ≤ b → tu_W T tgt lv st M)
    (kk : b < a → tu_W T (pc + 3) lv st M) : tu_W T pc lv (tu_i b :: tu_i a :: st) M := by
  obtain ⟨p, l, e, R, s, m, args, below, meth, c, nL, g, ad, kc, ks, Q⟩ := T
  obtain ⟨hx, hb, hml, hown, hts, hK, hI, hst, hfr, hlo, hkc, hks⟩ := X
  intro H locs ls hP hS hl
  exact lv_icmp_le (tgt := tgt) hx hb hd ht (fun hc => kt (by (first | exact (tu_J_le ha hb2).mp hc | exact fun z => hc ((tu_J_le ha hb2).mpr z) | exact Int.not_lt.mp (fun z => hc ((tu_J_le ha hb2).mpr z)) | exact Int.not_le.mp (fun z => hc ((tu_J_le ha hb2).mpr z)) | exact Decidable.byContradiction fun z => hc (fun y => z ((tu_J_le ha hb2).mp y)) | (have hq := mt (tu_J_le ha hb2).mpr hc; omega) | (have hq := fun y => hc ((tu_J_le ha hb2).mp y); omega) | (rw [(tu_J_le ha hb2)] at hc; omega))) H locs ls hP hS hl) (fun hc => kk (by (first | exact (tu_J_le ha hb2).mp hc | exact fun z => hc ((tu_J_le ha hb2).mpr z) | exact Int.not_lt.mp (fun z => hc ((tu_J_le ha hb2).mpr z)) | exact Int.not_le.mp (fun z => hc ((tu_J_le ha hb2).mpr z)) | exact Decidable.byContradiction fun z => hc (fun y => z ((tu_J_le ha hb2).mp y)) | (have hq := mt (tu_J_le ha hb2).mpr hc; omega) | (have hq := fun y => hc ((tu_J_le ha hb2).mp y); omega) | (rw [(tu_J_le ha hb2)] at hc; omega))) H locs ls hP hS hl)

theorem tu_if_le (pc : Nat) (X : tu_X T cc own fr lo) {a : Int} {off : Int} (tgt : Nat) (hd : decode cc pc = .ok (.ifCond .le off, 3)) (ht : (pc : Int) + off = (tgt : Int)) (ha : tu_rg a) 
    (kt : a ≤ 0 → tu_W T tgt lv st M)
    (kk : 0 < a → tu_W T (pc + 3) lv st M) : tu_W T pc lv (tu_i a :: st) M := by
  obtain ⟨p, l, e, R, s, m, args, below, meth, c, nL, g, ad, kc, ks, Q⟩ := T
  obtain ⟨hx, hb, hml, hown, hts, hK, hI, hst, hfr, hlo, hkc, hks⟩ := X
  intro H locs ls hP hS hl
  exact lv_if_le (tgt := tgt) hx hb hd ht (fun hc => kt (by (rw [show (0 : Int32) = tu_J 0 from by decide] at hc; first | exact (tu_J_le ha (show tu_rg 0 from ⟨by decide, by decide⟩)).mp hc | exact fun z => hc ((tu_J_le ha (show tu_rg 0 from ⟨by decide, by decide⟩)).mpr z) | exact Int.not_lt.mp (fun z => hc ((tu_J_le ha (show tu_rg 0 from ⟨by decide, by decide⟩)).mpr z)) | exact Int.not_le.mp (fun z => hc ((tu_J_le ha (show tu_rg 0 from ⟨by decide, by decide⟩)).mpr z)) | exact Decidable.byContradiction fun z => hc (fun y => z ((tu_J_le ha (show tu_rg 0 from ⟨by decide, by decide⟩)).mp y)) | (have hq := mt (tu_J_le ha (show tu_rg 0 from ⟨by decide, by decide⟩)).mpr hc; omega) | (have hq := fun y => hc ((tu_J_le ha (show tu_rg 0 from ⟨by decide, by decide⟩)).mp y); omega) | (rw [(tu_J_le ha (show tu_rg 0 from ⟨by decide, by decide⟩))] at hc; omega))) H locs ls hP hS hl) (fun hc => kk (by (rw [show (0 : Int32) = tu_J 0 from by decide] at hc; first | exact (tu_J_le ha (show tu_rg 0 from ⟨by decide, by decide⟩)).mp hc | exact fun z => hc ((tu_J_le ha (show tu_rg 0 from ⟨by decide, by decide⟩)).mpr z) | exact Int.not_lt.mp (fun z => hc ((tu_J_le ha (show tu_rg 0 from ⟨by decide, by decide⟩)).mpr z)) | exact Int.not_le.mp (fun z => hc ((tu_J_le ha (show tu_rg 0 from ⟨by decide, by decide⟩)).mpr z)) | exact Decidable.byContradiction fun z => hc (fun y => z ((tu_J_le ha (show tu_rg 0 from ⟨by decide, by decide⟩)).mp y)) | (have hq := mt (tu_J_le ha (show tu_rg 0 from ⟨by decide, by decide⟩)).mpr hc; omega) | (have hq := fun y => hc ((tu_J_le ha (show tu_rg 0 from ⟨by decide, by decide⟩)).mp y); omega) | (rw [(tu_J_le ha (show tu_rg 0 from ⟨by decide, by decide⟩))] at hc; omega))) H locs ls hP hS hl)

theorem tu_goto (pc : Nat) (X : tu_X T cc own fr lo) {off : Int} (tgt : Nat) (hd : decode cc pc = .ok (.goto off, 3)) (ht : (pc : Int) + off = (tgt : Int))
    (kk : tu_W T tgt lv st M) : tu_W T pc lv st M := by
  obtain ⟨p, l, e, R, s, m, args, below, meth, c, nL, g, ad, kc, ks, Q⟩ := T
  obtain ⟨hx, hb, hml, hown, hts, hK, hI, hst, hfr, hlo, hkc, hks⟩ := X
  intro H locs ls hP hS hl
  exact lv_goto (tgt := tgt) hx hb hd ht (kk H locs ls hP hS hl)

theorem tu_tabOut (pc : Nat) (X : tu_X T cc own fr lo) {dflt lo2 hi : Int} {offs : Array Int} {len : Nat} {a : Int} (tgt : Nat) (hd : decode cc pc = .ok (.tableswitch dflt lo2 hi offs, len)) (ha : tu_rg a) (h : a < lo2 ∨ hi < a) (ht : (pc : Int) + dflt = (tgt : Int))
    (kk : tu_W T tgt lv st M) : tu_W T pc lv (tu_i a :: st) M := by
  obtain ⟨p, l, e, R, s, m, args, below, meth, c, nL, g, ad, kc, ks, Q⟩ := T
  obtain ⟨hx, hb, hml, hown, hts, hK, hI, hst, hfr, hlo, hkc, hks⟩ := X
  intro H locs ls hP hS hl
  exact lv_tableOut (x := tu_J a) (tgt := tgt) hx hb hd (by rw [tu_J_i ha]; exact h) ht (kk H locs ls hP hS hl)

theorem tu_tabIn (pc : Nat) (X : tu_X T cc own fr lo) {dflt lo2 hi : Int} {offs : Array Int} {len : Nat} {a : Int} {off : Int} (tgt : Nat) (hd : decode cc pc = .ok (.tableswitch dflt lo2 hi offs, len)) (ha : tu_rg a) (h1 : ¬ a < lo2) (h2 : ¬ hi < a) (ho : offs[(a - lo2).toNat]? = some off) (ht : (pc : Int) + off = (tgt : Int))
    (kk : tu_W T tgt lv st M) : tu_W T pc lv (tu_i a :: st) M := by
  obtain ⟨p, l, e, R, s, m, args, below, meth, c, nL, g, ad, kc, ks, Q⟩ := T
  obtain ⟨hx, hb, hml, hown, hts, hK, hI, hst, hfr, hlo, hkc, hks⟩ := X
  intro H locs ls hP hS hl
  exact lv_tableIn (x := tu_J a) (tgt := tgt) hx hb hd (by rw [tu_J_i ha]; exact h1) (by rw [tu_J_i ha]; exact h2) (by rw [tu_J_i ha]; exact ho) ht (kk H locs ls hP hS hl)

theorem tu_dup (pc : Nat) (X : tu_X T cc own fr lo) {v : tu_v} (hd : decode cc pc = .ok (.dup, 1)) (hv : tu_2 v = false)
    (kk : tu_W T (pc + 1) lv (v :: v :: st) M) : tu_W T pc lv (v :: st) M := by
  obtain ⟨p, l, e, R, s, m, args, below, meth, c, nL, g, ad, kc, ks, Q⟩ := T
  obtain ⟨hx, hb, hml, hown, hts, hK, hI, hst, hfr, hlo, hkc, hks⟩ := X
  intro H locs ls hP hS hl
  exact lv_dup hx hb hd (by rcases v with z | i | u <;> first | rfl | cases hv) (kk H locs ls hP hS hl)

theorem tu_dup_x1 (pc : Nat) (X : tu_X T cc own fr lo) {v w : tu_v} (hd : decode cc pc = .ok (.dup_x1, 1)) (hv : tu_2 v = false) (hw : tu_2 w = false)
    (kk : tu_W T (pc + 1) lv (v :: w :: v :: st) M) : tu_W T pc lv (v :: w :: st) M := by
  obtain ⟨p, l, e, R, s, m, args, below, meth, c, nL, g, ad, kc, ks, Q⟩ := T
  obtain ⟨hx, hb, hml, hown, hts, hK, hI, hst, hfr, hlo, hkc, hks⟩ := X
  intro H locs ls hP hS hl
  exact lv_dup_x1 hx hb hd (by rcases v with z | i | u <;> first | rfl | cases hv) (by rcases w with z | i | u <;> first | rfl | cases hw) (kk H locs ls hP hS hl)

theorem tu_dup2 (pc : Nat) (X : tu_X T cc own fr lo) {v w : tu_v} (hd : decode cc pc = .ok (.dup2, 1)) (hv : tu_2 v = false) (hw : tu_2 w = false)
    (kk : tu_W T (pc + 1) lv (v :: w :: v :: w :: st) M) : tu_W T pc lv (v :: w :: st) M := by
  obtain ⟨p, l, e, R, s, m, args, below, meth, c, nL, g, ad, kc, ks, Q⟩ := T
  obtain ⟨hx, hb, hml, hown, hts, hK, hI, hst, hfr, hlo, hkc, hks⟩ := X
  intro H locs ls hP hS hl
  exact lv_dup2_11 hx hb hd (by rcases v with z | i | u <;> first | rfl | cases hv) (by rcases w with z | i | u <;> first | rfl | cases hw) (kk H locs ls hP hS hl)

/-- a field's link: the class's place, the field's place, its words in the tables -/
def tu_fl (own : String) (idx ci k : Nat) : Prop := ∃ (C : String) (TT : u_T) (N : Nat), tu_cs[ci]? = some (C, TT, N) ∧ k < N ∧ (∀ w ∈ u_ws C TT N, w ∈ tu_tb) ∧ Cond.fieldLink own idx (TT k).1 (TT k).2.1 (TT k).2.2.1 ∈ tu_tb
/-- and what a store wants of it: an int, not final -/
def tu_fp (own : String) (idx ci k : Nat) : Prop := ∃ (C : String) (TT : u_T) (N : Nat), tu_cs[ci]? = some (C, TT, N) ∧ k < N ∧ (∀ w ∈ u_ws C TT N, w ∈ tu_tb) ∧ Cond.fieldLink own idx (TT k).1 (TT k).2.1 (TT k).2.2.1 ∈ tu_tb ∧ (TT k).2.2.2 = false ∧ parseFieldDescriptor (TT k).2.2.1 = some .int ∧ (∃ ty0 : Nat → FieldType, ∀ j, j < N → parseFieldDescriptor (TT j).2.2.1 = some (ty0 j)) ∧ (∀ a, a < N → ∀ b, b < N → a ≠ b → (TT a).2.1 ≠ (TT b).2.1)
theorem tu_ce4 {g : tu_G} {ad : Nat → Nat} {row : Nat → Int} {s : tu_S} {c : Nat} {fs : List (Option Nat)} (h : s = (4, c, fs)) : tu_ce g ad row s = .inr (c, tu_fv ad row 0 fs) := by subst h; rfl
theorem tu_ce0 {g : tu_G} {ad : Nat → Nat} {row : Nat → Int} {s : tu_S} {n : Nat} (h : s = (0, n, [])) : tu_ce g ad row s = .inl (g.2.1, n, .inl (fun j => tu_J (row j))) := by subst h; rfl
theorem tu_ce1 {g : tu_G} {ad : Nat → Nat} {row : Nat → Int} {s : tu_S} {n : Nat} (h : s = (1, n, [])) : tu_ce g ad row s = .inl (g.2.2.1, n, .inl (fun j => tu_J (row j))) := by subst h; rfl
theorem tu_ce2 {g : tu_G} {ad : Nat → Nat} {row : Nat → Int} {s : tu_S} {n : Nat} (h : s = (2, n, [])) : tu_ce g ad row s = .inl (g.2.2.2.1, n, .inl (fun j => tu_J (row j))) := by subst h; rfl
theorem tu_ce3 {g : tu_G} {ad : Nat → Nat} {row : Nat → Int} {s : tu_S} {n : Nat} (h : s = (3, n, [])) : tu_ce g ad row s = .inl (g.2.2.2.2, n, .inr (.inr (.inr (.inr (fun j => some (ad (row j).toNat)))))) := by subst h; rfl

theorem tu_getI (pc : Nat) (X : tu_X T cc own fr lo) {idx ci k i : Nat} {fs : List (Option Nat)} {x : Int} (hd : decode cc pc = .ok (.getfield idx, 3)) (hf : tu_fl own idx ci k) (hi : i < 92) (hs : tu_sh i = (4, ci, fs)) (hk : fs[k]? = some none) (hv : M i k = x)
    (kk : tu_W T (pc + 3) lv (tu_i x :: st) M) : tu_W T pc lv (tu_r i :: st) M := by
  obtain ⟨p, l, e, R, s, m, args, below, meth, c, nL, g, ad, kc, ks, Q⟩ := T
  obtain ⟨hx, hb, hml, hown, hts, hK, hI, hst, hfr, hlo, hkc, hks⟩ := X
  intro H locs ls hP hS hl
  subst hv
  obtain ⟨C, TT, N, hc, hkN, hin, hlk⟩ := hf
  exact va_get hx hb (v := .int (tu_J (M i k))) hts hin hown hK hP i (by rw [tu_ws_at hi, tu_ce4 hs]) hc k hkN (hts _ hlk) (fun _ h9 => h9) (by have := tu_fv_i (ad := ad) (row := M i) (j := 0) hk; rwa [Nat.zero_add] at this) hd (kk H locs ls hP hS hl)

theorem tu_getR (pc : Nat) (X : tu_X T cc own fr lo) {idx ci k i r : Nat} {fs : List (Option Nat)} (hd : decode cc pc = .ok (.getfield idx, 3)) (hf : tu_fl own idx ci k) (hi : i < 92) (hs : tu_sh i = (4, ci, fs)) (hk : fs[k]? = some (some r))
    (kk : tu_W T (pc + 3) lv (tu_r r :: st) M) : tu_W T pc lv (tu_r i :: st) M := by
  obtain ⟨p, l, e, R, s, m, args, below, meth, c, nL, g, ad, kc, ks, Q⟩ := T
  obtain ⟨hx, hb, hml, hown, hts, hK, hI, hst, hfr, hlo, hkc, hks⟩ := X
  intro H locs ls hP hS hl
  obtain ⟨C, TT, N, hc, hkN, hin, hlk⟩ := hf
  exact va_get hx hb (v := .ref (ad r)) hts hin hown hK hP i (by rw [tu_ws_at hi, tu_ce4 hs]) hc k hkN (hts _ hlk) (fun _ h9 => h9) (tu_fv_r hk) hd (kk H locs ls hP hS hl)

theorem tu_lt {fs : List (Option Nat)} {k : Nat} {z : Option Nat} (h : fs[k]? = some z) : k < fs.length := (List.getElem?_eq_some_iff.mp h).1

theorem tu_putI (pc : Nat) (X : tu_X T cc own fr lo) {idx ci k i : Nat} {fs : List (Option Nat)} {x : Int} {M' : tu_M} (hd : decode cc pc = .ok (.putfield idx, 3)) (hf : tu_fp own idx ci k) (hi : i < 92) (hs : tu_sh i = (4, ci, fs)) (hk : fs[k]? = some none) (hM : tu_row M i (tu_u (M i) k x) = M')
    (kk : tu_W T (pc + 3) lv st M') : tu_W T pc lv (tu_i x :: tu_r i :: st) M := by
  obtain ⟨p, l, e, R, s, m, args, below, meth, c, nL, g, ad, kc, ks, Q⟩ := T
  obtain ⟨hx, hb, hml, hown, hts, hK, hI, hst, hfr, hlo, hkc, hks⟩ := X
  intro H locs ls hP hS hl
  subst hM
  obtain ⟨C, TT, N, hc, hkN, hin, hlk, hfin, hd0, ⟨ty0, hty⟩, hnm⟩ := hf
  refine va_put (v := .int (tu_J x)) hx hb hts hin ty0 hty hnm hown hK hP (tu_D hI) hS i (by rw [tu_ws_at hi, tu_ce4 hs]) hc k hkN (hts _ hlk) (fun _ h9 => h9) hfin hd0 rfl rfl (by rw [tu_fv_l]; exact tu_lt hk) hd (fun H1 locs1 hP1 _ hS1 => kk H1 locs1 ls ?_ hS1 hl)
  rw [tu_ws_set (f := tu_u (M i) k x)] at hP1
  · exact hP1
  · have h1 := tu_fv_s (ad := ad) (row := M i) (x := x) (j := 0) hk
    rw [Nat.zero_add] at h1
    rw [tu_ce4 hs, h1]

theorem tu_iald (pc : Nat) (X : tu_X T cc own fr lo) {i n : Nat} {j x : Int} (q : Nat) (hd : decode cc pc = .ok (.iaload, 1)) (hi : i < 92) (hs : tu_sh i = (0, n, [])) (hn : n < 2147483648) (hj : j = (q : Int)) (hq : q < n) (hv : M i q = x)
    (kk : tu_W T (pc + 1) lv (tu_i x :: st) M) : tu_W T pc lv (tu_i j :: tu_r i :: st) M := by
  obtain ⟨p, l, e, R, s, m, args, below, meth, c, nL, g, ad, kc, ks, Q⟩ := T
  obtain ⟨hx, hb, hml, hown, hts, hK, hI, hst, hfr, hlo, hkc, hks⟩ := X
  intro H locs ls hP hS hl
  subst hv
  refine va_iald hx hb hK hP i 0 (by rw [tu_ws_at hi, tu_ce0 hs]) rfl (tu_in hj hq hn) hd ?_
  rw [tu_cl hj hq hn]
  exact kk H locs ls hP hS hl

theorem tu_cald (pc : Nat) (X : tu_X T cc own fr lo) {i n : Nat} {j x : Int} (q : Nat) (hd : decode cc pc = .ok (.caload, 1)) (hi : i < 92) (hs : tu_sh i = (1, n, [])) (hn : n < 2147483648) (hj : j = (q : Int)) (hq : q < n) (hv : M i q = x)
    (kk : tu_W T (pc + 1) lv (tu_i x :: st) M) : tu_W T pc lv (tu_i j :: tu_r i :: st) M := by
  obtain ⟨p, l, e, R, s, m, args, below, meth, c, nL, g, ad, kc, ks, Q⟩ := T
  obtain ⟨hx, hb, hml, hown, hts, hK, hI, hst, hfr, hlo, hkc, hks⟩ := X
  intro H locs ls hP hS hl
  subst hv
  refine va_cald hx hb hK hP i 1 (by rw [tu_ws_at hi, tu_ce1 hs]) rfl (tu_in hj hq hn) hd ?_
  rw [tu_cl hj hq hn]
  exact kk H locs ls hP hS hl

theorem tu_zald (pc : Nat) (X : tu_X T cc own fr lo) {i n : Nat} {j x : Int} (q : Nat) (hd : decode cc pc = .ok (.baload, 1)) (hi : i < 92) (hs : tu_sh i = (2, n, [])) (hn : n < 2147483648) (hj : j = (q : Int)) (hq : q < n) (hv : M i q = x)
    (kk : tu_W T (pc + 1) lv (tu_i x :: st) M) : tu_W T pc lv (tu_i j :: tu_r i :: st) M := by
  obtain ⟨p, l, e, R, s, m, args, below, meth, c, nL, g, ad, kc, ks, Q⟩ := T
  obtain ⟨hx, hb, hml, hown, hts, hK, hI, hst, hfr, hlo, hkc, hks⟩ := X
  intro H locs ls hP hS hl
  subst hv
  refine va_zald hx hb hK hP i 2 (by rw [tu_ws_at hi, tu_ce2 hs]) rfl (tu_in hj hq hn) hd ?_
  rw [tu_cl hj hq hn]
  exact kk H locs ls hP hS hl

theorem tu_aald (pc : Nat) (X : tu_X T cc own fr lo) {i n r : Nat} {j : Int} (q : Nat) (hd : decode cc pc = .ok (.aaload, 1)) (hi : i < 92) (hs : tu_sh i = (3, n, [])) (hn : n < 2147483648) (hj : j = (q : Int)) (hq : q < n) (hv : (M i q).toNat = r)
    (kk : tu_W T (pc + 1) lv (tu_r r :: st) M) : tu_W T pc lv (tu_i j :: tu_r i :: st) M := by
  obtain ⟨p, l, e, R, s, m, args, below, meth, c, nL, g, ad, kc, ks, Q⟩ := T
  obtain ⟨hx, hb, hml, hown, hts, hK, hI, hst, hfr, hlo, hkc, hks⟩ := X
  intro H locs ls hP hS hl
  subst hv
  refine va_aldq hx hb hK hP i 3 (by rw [tu_ws_at hi, tu_ce3 hs]) rfl (tu_in hj hq hn) hd ?_
  rw [tu_cl hj hq hn]
  exact kk H locs ls hP hS hl

theorem tu_iast (pc : Nat) (X : tu_X T cc own fr lo) {i n : Nat} {j x : Int} {M' : tu_M} (q : Nat) (hd : decode cc pc = .ok (.iastore, 1)) (hi : i < 92) (hs : tu_sh i = (0, n, [])) (hn : n < 2147483648) (hj : j = (q : Int)) (hq : q < n) (hM : tu_row M i (tu_u (M i) q x) = M')
    (kk : tu_W T (pc + 1) lv st M') : tu_W T pc lv (tu_i x :: tu_i j :: tu_r i :: st) M := by
  obtain ⟨p, l, e, R, s, m, args, below, meth, c, nL, g, ad, kc, ks, Q⟩ := T
  obtain ⟨hx, hb, hml, hown, hts, hK, hI, hst, hfr, hlo, hkc, hks⟩ := X
  intro H locs ls hP hS hl
  subst hM
  refine va_iast (x := tu_J x) hx hb hK hP (tu_D hI) hS i 0 (by rw [tu_ws_at hi, tu_ce0 hs]) rfl (tu_in hj hq hn) hd (fun H1 locs1 hP1 _ hS1 => kk H1 locs1 ls ?_ hS1 hl)
  rw [tu_cl hj hq hn, tu_ju] at hP1
  rw [tu_ws_set (f := tu_u (M i) q x)] at hP1
  · exact hP1
  · rw [tu_ce0 hs]

theorem tu_cast (pc : Nat) (X : tu_X T cc own fr lo) {i n : Nat} {j x : Int} {M' : tu_M} (q : Nat) (hd : decode cc pc = .ok (.castore, 1)) (hi : i < 92) (hs : tu_sh i = (1, n, [])) (hn : n < 2147483648) (hj : j = (q : Int)) (hq : q < n) (hx9 : vp_nar .char (tu_J x) = tu_J x) (hM : tu_row M i (tu_u (M i) q x) = M')
    (kk : tu_W T (pc + 1) lv st M') : tu_W T pc lv (tu_i x :: tu_i j :: tu_r i :: st) M := by
  obtain ⟨p, l, e, R, s, m, args, below, meth, c, nL, g, ad, kc, ks, Q⟩ := T
  obtain ⟨hx, hb, hml, hown, hts, hK, hI, hst, hfr, hlo, hkc, hks⟩ := X
  intro H locs ls hP hS hl
  subst hM
  refine va_cast (x := tu_J x) hx hb hK hP (tu_D hI) hS i 1 (by rw [tu_ws_at hi, tu_ce1 hs]) rfl (tu_in hj hq hn) hd (fun H1 locs1 hP1 _ hS1 => kk H1 locs1 ls ?_ hS1 hl)
  rw [tu_cl hj hq hn, hx9, tu_ju] at hP1
  rw [tu_ws_set (f := tu_u (M i) q x)] at hP1
  · exact hP1
  · rw [tu_ce1 hs]

theorem tu_zast (pc : Nat) (X : tu_X T cc own fr lo) {i n : Nat} {j x : Int} {M' : tu_M} (q : Nat) (hd : decode cc pc = .ok (.bastore, 1)) (hi : i < 92) (hs : tu_sh i = (2, n, [])) (hn : n < 2147483648) (hj : j = (q : Int)) (hq : q < n) (hx9 : vp_nar .boolean (tu_J x) = tu_J x) (hM : tu_row M i (tu_u (M i) q x) = M')
    (kk : tu_W T (pc + 1) lv st M') : tu_W T pc lv (tu_i x :: tu_i j :: tu_r i :: st) M := by
  obtain ⟨p, l, e, R, s, m, args, below, meth, c, nL, g, ad, kc, ks, Q⟩ := T
  obtain ⟨hx, hb, hml, hown, hts, hK, hI, hst, hfr, hlo, hkc, hks⟩ := X
  intro H locs ls hP hS hl
  subst hM
  refine va_zast (x := tu_J x) hx hb hK hP (tu_D hI) hS i 2 (by rw [tu_ws_at hi, tu_ce2 hs]) rfl (tu_in hj hq hn) hd (fun H1 locs1 hP1 _ hS1 => kk H1 locs1 ls ?_ hS1 hl)
  rw [tu_cl hj hq hn, hx9, tu_ju] at hP1
  rw [tu_ws_set (f := tu_u (M i) q x)] at hP1
  · exact hP1
  · rw [tu_ce2 hs]

theorem tu_aast (pc : Nat) (X : tu_X T cc own fr lo) {i n r : Nat} {j : Int} {fs : List (Option Nat)} {M' : tu_M} (q : Nat) (hd : decode cc pc = .ok (.aastore, 1)) (hi : i < 92) (hs : tu_sh i = (3, n, [])) (hn : n < 2147483648) (hj : j = (q : Int)) (hq : q < n) (hr : r < 92) (hrs : tu_sh r = (4, 0, fs)) (hM : tu_row M i (tu_u (M i) q (r : Int)) = M')
    (kk : tu_W T (pc + 1) lv st M') : tu_W T pc lv (tu_r r :: tu_i j :: tu_r i :: st) M := by
  obtain ⟨p, l, e, R, s, m, args, below, meth, c, nL, g, ad, kc, ks, Q⟩ := T
  obtain ⟨hx, hb, hml, hown, hts, hK, hI, hst, hfr, hlo, hkc, hks⟩ := X
  intro H locs ls hP hS hl
  subst hM
  refine va_astq (r := (RX0, TX0, 11)) hx hb hK hP (tu_D hI) hS i 3 r 0 (by rw [tu_ws_at hi, tu_ce3 hs]) rfl (by rw [tu_ws_at hr, tu_ce4 hrs]) rfl (tu_in hj hq hn) hd (fun H1 locs1 hP1 _ hS1 => kk H1 locs1 ls ?_ hS1 hl)
  rw [tu_cl hj hq hn] at hP1
  have e : va_up (fun j => some (ad (M i j).toNat)) q (some (ad r)) = fun j => some (ad (tu_u (M i) q (r : Int) j).toNat) := by
    funext a
    by_cases h : a = q
    · subst h; simp [va_up, tu_u_s]
    · simp [va_up, h, tu_u_n]
  rw [e, tu_ws_set (f := tu_u (M i) q (r : Int))] at hP1
  · exact hP1
  · rw [tu_ce3 hs]

end TU
