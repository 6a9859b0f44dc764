section TV
variable {T : tv_T} {cc : ByteArray} {own : String} {fr lo mc ms n kc ks : Nat} {lv : List (Nat × tu_v)} {st : List tu_v} {M : tu_M}
theorem tv_iconst (pc : Nat) (X : tv_X T cc own fr lo mc ms) {z : Int} (hd : decode cc pc = .ok (.iconst z, 1))
    (kk : tv_W T n kc ks (pc + 1) lv (tu_i z :: st) M) : tv_W T n kc ks pc lv st M := by
  obtain ⟨p, l, e, R, s, m, args, below, meth, c, nL, g, ad, Q⟩ := T
  obtain ⟨hx, hb, hml, hown, hts, hK, hsa, hnw, had, h0, hfr, hlo, hmc, hms⟩ := X
  intro H locs ls hP hz hS hl
  exact lv_iconst hx hb hd rfl (kk H locs ls hP hz hS hl)
theorem tv_bipush (pc : Nat) (X : tv_X T cc own fr lo mc ms) {z : Int} (hd : decode cc pc = .ok (.bipush z, 2)) (hv : (Int8.ofInt z).toInt32 = tu_J z)
    (kk : tv_W T n kc ks (pc + 2) lv (tu_i z :: st) M) : tv_W T n kc ks pc lv st M := by
  obtain ⟨p, l, e, R, s, m, args, below, meth, c, nL, g, ad, Q⟩ := T
  obtain ⟨hx, hb, hml, hown, hts, hK, hsa, hnw, had, h0, hfr, hlo, hmc, hms⟩ := X
  intro H locs ls hP hz hS hl
  exact lv_bipush hx hb hd hv (kk H locs ls hP hz hS hl)
theorem tv_sipush (pc : Nat) (X : tv_X T cc own fr lo mc ms) {z : Int} (hd : decode cc pc = .ok (.sipush z, 3)) (hv : (Int16.ofInt z).toInt32 = tu_J z)
    (kk : tv_W T n kc ks (pc + 3) lv (tu_i z :: st) M) : tv_W T n kc ks pc lv st M := by
  obtain ⟨p, l, e, R, s, m, args, below, meth, c, nL, g, ad, Q⟩ := T
  obtain ⟨hx, hb, hml, hown, hts, hK, hsa, hnw, had, h0, hfr, hlo, hmc, hms⟩ := X
  intro H locs ls hP hz hS hl
  exact lv_sipush hx hb hd hv (kk H locs ls hP hz hS hl)
theorem tv_iload_n (pc : Nat) (X : tv_X T cc own fr lo mc ms) {k : Fin 4} {x : Int} (q : Nat) (hd : decode cc pc = .ok (.iload_n k, 1)) (hl0 : lv[q]? = some ((k : Nat), tu_i x))
    (kk : tv_W T n kc ks (pc + 1) lv (tu_i x :: st) M) : tv_W T n kc ks pc lv st M := by
  obtain ⟨p, l, e, R, s, m, args, below, meth, c, nL, g, ad, Q⟩ := T
  obtain ⟨hx, hb, hml, hown, hts, hK, hsa, hnw, had, h0, hfr, hlo, hmc, hms⟩ := X
  intro H locs ls hP hz hS hl
  exact lv_iload_n hx hb hd rfl (tu_at hl q hl0) (kk H locs ls hP hz hS hl)
theorem tv_istore_n (pc : Nat) (X : tv_X T cc own fr lo mc ms) {k : Fin 4} {x : Int} {lv' : List (Nat × tu_v)} (hd : decode cc pc = .ok (.istore_n k, 1)) (hn : (k : Nat)  < T.2.2.2.2.2.2.2.2.2.2.1) (hl0 : tu_pt (k : Nat) (tu_i x) lv = lv')
    (kk : tv_W T n kc ks (pc + 1) lv' st M) : tv_W T n kc ks pc lv (tu_i x :: st) M := by
  obtain ⟨p, l, e, R, s, m, args, below, meth, c, nL, g, ad, Q⟩ := T
  obtain ⟨hx, hb, hml, hown, hts, hK, hsa, hnw, had, h0, hfr, hlo, hmc, hms⟩ := X
  intro H locs ls hP hz hS hl
  subst hl0
  exact lv_istore_n (lv' := (tu_pt (k : Nat) (tu_i x) lv).map fun q => (q.1, tu_vl ad q.2)) hx hb hd rfl hl hn (tu_pt_e ad _ (tu_i x) lv) (fun ls' hl' => kk H locs ls' hP hz hS hl')
theorem tv_iinc (pc : Nat) (X : tv_X T cc own fr lo mc ms) {i : Nat} {z x : Int} {lv' : List (Nat × tu_v)} (q : Nat) (hd : decode cc pc = .ok (.iinc i z, 3)) (hk : lv[q]? = some (i, tu_i x)) (hn : i < T.2.2.2.2.2.2.2.2.2.2.1) (hl0 : tu_pt i (tu_i (x + z)) lv = lv')
    (kk : tv_W T n kc ks (pc + 3) lv' st M) : tv_W T n kc ks pc lv st M := by
  obtain ⟨p, l, e, R, s, m, args, below, meth, c, nL, g, ad, Q⟩ := T
  obtain ⟨hx, hb, hml, hown, hts, hK, hsa, hnw, had, h0, hfr, hlo, hmc, hms⟩ := X
  intro H locs ls hP hz hS hl
  subst hl0
  exact lv_iinc (v := tu_J (x + z)) (lv' := (tu_pt i (tu_i (x + z)) lv).map fun q => (q.1, tu_vl ad q.2)) hx hb hd hl (k := q) (x := tu_J x) (by rw [List.getElem?_map, hk]; rfl) (tu_J_add x z).symm hn (tu_pt_e ad _ (tu_i (x + z)) lv) (fun ls' hl' => kk H locs ls' hP hz hS hl')
theorem tv_aload_n (pc : Nat) (X : tv_X T cc own fr lo mc ms) {k : Fin 4} {x : Nat} (q : Nat) (hd : decode cc pc = .ok (.aload_n k, 1)) (hl0 : lv[q]? = some ((k : Nat), tu_r x))
    (kk : tv_W T n kc ks (pc + 1) lv (tu_r x :: st) M) : tv_W T n kc ks pc lv st M := by
  obtain ⟨p, l, e, R, s, m, args, below, meth, c, nL, g, ad, Q⟩ := T
  obtain ⟨hx, hb, hml, hown, hts, hK, hsa, hnw, had, h0, hfr, hlo, hmc, hms⟩ := X
  intro H locs ls hP hz hS hl
  exact lv_aload_n hx hb hd rfl (tu_at hl q hl0) (kk H locs ls hP hz hS hl)
theorem tv_astore_n (pc : Nat) (X : tv_X T cc own fr lo mc ms) {k : Fin 4} {x : Nat} {lv' : List (Nat × tu_v)} (hd : decode cc pc = .ok (.astore_n k, 1)) (hn : (k : Nat)  < T.2.2.2.2.2.2.2.2.2.2.1) (hl0 : tu_pt (k : Nat) (tu_r x) lv = lv')
    (kk : tv_W T n kc ks (pc + 1) lv' st M) : tv_W T n kc ks pc lv (tu_r x :: st) M := by
  obtain ⟨p, l, e, R, s, m, args, below, meth, c, nL, g, ad, Q⟩ := T
  obtain ⟨hx, hb, hml, hown, hts, hK, hsa, hnw, had, h0, hfr, hlo, hmc, hms⟩ := X
  intro H locs ls hP hz hS hl
  subst hl0
  exact lv_astore_n (lv' := (tu_pt (k : Nat) (tu_r x) lv).map fun q => (q.1, tu_vl ad q.2)) hx hb hd rfl hl hn (tu_pt_e ad _ (tu_r x) lv) (fun ls' hl' => kk H locs ls' hP hz hS hl')
theorem tv_icmp_ge (pc : Nat) (X : tv_X T cc own fr lo mc ms) {a b : Int} {off : Int} (tgt : Nat) (hd : decode cc pc = .ok (.if_icmp .ge off, 3)) (ht : (pc : Int) + off = (tgt : Int)) (ha : tu_rg a) (hb2 : tu_rg b)
    (kt : b ≤ a → tv_W T n kc ks tgt lv st M)
    (kk : a < b → tv_W T n kc ks (pc + 3) lv st M) : tv_W T n kc ks pc lv (tu_i b :: tu_i a :: st) M := by
  obtain ⟨p, l, e, R, s, m, args, below, meth, c, nL, g, ad, Q⟩ := T
  obtain ⟨hx, hb, hml, hown, hts, hK, hsa, hnw, had, h0, hfr, hlo, hmc, hms⟩ := X
  intro H locs ls hP hz hS hl
  exact lv_icmp_ge (tgt := tgt) hx hb hd ht (fun hc => kt (by (first | exact (tu_J_le hb2 ha).mp hc | exact fun z => hc ((tu_J_le hb2 ha).mpr z) | exact Int.not_lt.mp (fun z => hc ((tu_J_le hb2 ha).mpr z)) | exact Int.not_le.mp (fun z => hc ((tu_J_le hb2 ha).mpr z)) | exact Decidable.byContradiction fun z => hc (fun y => z ((tu_J_le hb2 ha).mp y)) | (have hq := mt (tu_J_le hb2 ha).mpr hc; omega) | (have hq := fun y => hc ((tu_J_le hb2 ha).mp y); omega) | (rw [(tu_J_le hb2 ha)] at hc; omega))) H locs ls hP hz hS hl) (fun hc => kk (by (first | exact (tu_J_le hb2 ha).mp hc | exact fun z => hc ((tu_J_le hb2 ha).mpr z) | exact Int.not_lt.mp (fun z => hc ((tu_J_le hb2 ha).mpr z)) | exact Int.not_le.mp (fun z => hc ((tu_J_le hb2 ha).mpr z)) | exact Decidable.byContradiction fun z => hc (fun y => z ((tu_J_le hb2 ha).mp y)) | (have hq := mt (tu_J_le hb2 ha).mpr hc; omega) | (have hq := fun y => hc ((tu_J_le hb2 ha).mp y); omega) | (rw [(tu_J_le hb2 ha)] at hc; omega))) H locs ls hP hz hS hl)
theorem tv_goto (pc : Nat) (X : tv_X T cc own fr lo mc ms) {off : Int} (tgt : Nat) (hd : decode cc pc = .ok (.goto off, 3)) (ht : (pc : Int) + off = (tgt : Int))
    (kk : tv_W T n kc ks tgt lv st M) : tv_W T n kc ks pc lv st M := by
  obtain ⟨p, l, e, R, s, m, args, below, meth, c, nL, g, ad, Q⟩ := T
  obtain ⟨hx, hb, hml, hown, hts, hK, hsa, hnw, had, h0, hfr, hlo, hmc, hms⟩ := X
  intro H locs ls hP hz hS hl
  exact lv_goto (tgt := tgt) hx hb hd ht (kk H locs ls hP hz hS hl)
theorem tv_dup (pc : Nat) (X : tv_X T cc own fr lo mc ms) {v : tu_v} (hd : decode cc pc = .ok (.dup, 1)) (hv : tu_2 v = false)
    (kk : tv_W T n kc ks (pc + 1) lv (v :: v :: st) M) : tv_W T n kc ks pc lv (v :: st) M := by
  obtain ⟨p, l, e, R, s, m, args, below, meth, c, nL, g, ad, Q⟩ := T
  obtain ⟨hx, hb, hml, hown, hts, hK, hsa, hnw, had, h0, hfr, hlo, hmc, hms⟩ := X
  intro H locs ls hP hz hS hl
  exact lv_dup hx hb hd (by rcases v with z | i | u <;> first | rfl | cases hv) (kk H locs ls hP hz hS hl)
theorem tv_obj (pc : Nat) (X : tv_X T cc own fr lo mc ms) {idx b : Nat} (hw : Cond.methodLink own idx Lib.objectInit ∈ tu_tb) (hd : decode cc pc = .ok (.invokespecial idx, 3)) (hlen : st.length ≤ 4) (hfr1 : 1 ≤ fr) (hlo1 : 20 ≤ lo)
    (kk : tv_W T n kc ks (pc + 3) lv st M) : tv_W T n kc ks pc lv (tu_r b :: st) M := by
  obtain ⟨p, l, e, R, s, m, args, below, meth, c, nL, g, ad, Q⟩ := T
  obtain ⟨hx, hb, hml, hown, hts, hK, hsa, hnw, had, h0, hfr, hlo, hmc, hms⟩ := X
  intro H locs ls hP hz hS hl
  have hr := tu_room st ad (m := m) (pc := pc) (ls := ls) (rest := (tu_r b :: st).map (tu_vl ad)) hlen
  refine W.objInit hx hb hown (hts _ hw) (hts _ tv_o1) (hts _ tv_o2) rfl (hl.1.trans hml.symm) (a := ad b) (rest := st.map (tu_vl ad)) rfl hd (by omega) (by omega) ?_
  exact kk H locs ls hP hz hS hl
theorem tv_newI (pc : Nat) (X : tv_X T cc own fr lo mc ms) {z : Int} (N : Nat) (hd : decode cc pc = .ok (.newarray .int, 2)) (hz9 : z = (N : Int)) (hN : N ≤ 1000) (hs : tu_sh n = (0, N, [])) (hn : n < 92) (hkc : kc + 1 ≤ mc) (hks : ks + N ≤ ms)
    (kk : ∀ M', M' = tu_row M n (fun _ => 0) → tv_W T (n + 1) (kc + 1) (ks + N) (pc + 2) lv (tu_r n :: st) M') : tv_W T n kc ks pc lv (tu_i z :: st) M := by
  obtain ⟨p, l, e, R, s, m, args, below, meth, c, nL, g, ad, Q⟩ := T
  obtain ⟨hx, hb, hml, hown, hts, hK, hsa, hnw, had, h0, hfr, hlo, hmc, hms⟩ := X
  intro H locs ls hP hz hS hl
  have hh : H.size = ad n := by rw [hz, had n hn]
  refine va_newaK (atype := .int) (n := tu_J z) (N := N) hx hb (hts _ tv_aI) rfl hd rfl (tu_J0 hz9 (by omega)) (tu_cl' hz9 (by omega)) (by show N * 4 ≤ _; omega) (by omega) (by omega) hh ?_
  intro H1 cA g1 g2 g3 g4 g5
  have hcA : cA = g.2.1 := Option.some.inj (g5.symm.trans (hK.2 0 (g.2.1, .int) rfl).2)
  subst hcA
  refine kk _ rfl H1 locs ls (tv_push hP (fun q hq => g3 q (by omega)) (tv_ce0 hs) ?_) (by rw [g2, ← hh, hz]; omega) ⟨Nat.le_trans hS.1 (by omega), fun q h1 h2 => (g3 q (by have := hS.1; omega)).trans (hS.2.1 q h1 h2), hS.2.2⟩ hl
  exact g1
theorem tv_newC (pc : Nat) (X : tv_X T cc own fr lo mc ms) {z : Int} (N : Nat) (hd : decode cc pc = .ok (.newarray .char, 2)) (hz9 : z = (N : Int)) (hN : N ≤ 1000) (hs : tu_sh n = (1, N, [])) (hn : n < 92) (hkc : kc + 1 ≤ mc) (hks : ks + N ≤ ms)
    (kk : ∀ M', M' = tu_row M n (fun _ => 0) → tv_W T (n + 1) (kc + 1) (ks + N) (pc + 2) lv (tu_r n :: st) M') : tv_W T n kc ks pc lv (tu_i z :: st) M := by
  obtain ⟨p, l, e, R, s, m, args, below, meth, c, nL, g, ad, Q⟩ := T
  obtain ⟨hx, hb, hml, hown, hts, hK, hsa, hnw, had, h0, hfr, hlo, hmc, hms⟩ := X
  intro H locs ls hP hz hS hl
  have hh : H.size = ad n := by rw [hz, had n hn]
  refine va_newaK (atype := .char) (n := tu_J z) (N := N) hx hb (hts _ tv_aC) rfl hd rfl (tu_J0 hz9 (by omega)) (tu_cl' hz9 (by omega)) (by show N * 2 ≤ _; omega) (by omega) (by omega) hh ?_
  intro H1 cA g1 g2 g3 g4 g5
  have hcA : cA = g.2.2.1 := Option.some.inj (g5.symm.trans (hK.2 1 (g.2.2.1, .char) rfl).2)
  subst hcA
  refine kk _ rfl H1 locs ls (tv_push hP (fun q hq => g3 q (by omega)) (tv_ce1 hs) ?_) (by rw [g2, ← hh, hz]; omega) ⟨Nat.le_trans hS.1 (by omega), fun q h1 h2 => (g3 q (by have := hS.1; omega)).trans (hS.2.1 q h1 h2), hS.2.2⟩ hl
  exact g1
theorem tv_newZ (pc : Nat) (X : tv_X T cc own fr lo mc ms) {z : Int} (N : Nat) (hd : decode cc pc = .ok (.newarray .boolean, 2)) (hz9 : z = (N : Int)) (hN : N ≤ 1000) (hs : tu_sh n = (2, N, [])) (hn : n < 92) (hkc : kc + 1 ≤ mc) (hks : ks + N ≤ ms)
    (kk : ∀ M', M' = tu_row M n (fun _ => 0) → tv_W T (n + 1) (kc + 1) (ks + N) (pc + 2) lv (tu_r n :: st) M') : tv_W T n kc ks pc lv (tu_i z :: st) M := by
  obtain ⟨p, l, e, R, s, m, args, below, meth, c, nL, g, ad, Q⟩ := T
  obtain ⟨hx, hb, hml, hown, hts, hK, hsa, hnw, had, h0, hfr, hlo, hmc, hms⟩ := X
  intro H locs ls hP hz hS hl
  have hh : H.size = ad n := by rw [hz, had n hn]
  refine va_newaK (atype := .boolean) (n := tu_J z) (N := N) hx hb (hts _ tv_aZ) rfl hd rfl (tu_J0 hz9 (by omega)) (tu_cl' hz9 (by omega)) (by show N * 1 ≤ _; omega) (by omega) (by omega) hh ?_
  intro H1 cA g1 g2 g3 g4 g5
  have hcA : cA = g.2.2.2.1 := Option.some.inj (g5.symm.trans (hK.2 2 (g.2.2.2.1, .boolean) rfl).2)
  subst hcA
  refine kk _ rfl H1 locs ls (tv_push hP (fun q hq => g3 q (by omega)) (tv_ce2 hs) ?_) (by rw [g2, ← hh, hz]; omega) ⟨Nat.le_trans hS.1 (by omega), fun q h1 h2 => (g3 q (by have := hS.1; omega)).trans (hS.2.1 q h1 h2), hS.2.2⟩ hl
  exact g1
theorem tv_newQ (pc : Nat) (X : tv_X T cc own fr lo mc ms) {z : Int} (N : Nat) {idx : Nat} (hw : Cond.classLink own idx RX0 ∈ tu_tb) (hd : decode cc pc = .ok (.anewarray idx, 3)) (hz9 : z = (N : Int)) (hN : N ≤ 1000) (hs : tu_sh n = (3, N, [])) (hn : n < 92) (hkc : kc + 1 ≤ mc) (hks : ks + N ≤ ms)
    (kk : ∀ M', M' = tu_row M n (fun _ => 0) → tv_W T (n + 1) (kc + 1) (ks + N) (pc + 3) lv (tu_r n :: st) M') : tv_W T n kc ks pc lv (tu_i z :: st) M := by
  obtain ⟨p, l, e, R, s, m, args, below, meth, c, nL, g, ad, Q⟩ := T
  obtain ⟨hx, hb, hml, hown, hts, hK, hsa, hnw, had, h0, hfr, hlo, hmc, hms⟩ := X
  intro H locs ls hP hz hS hl
  have hh : H.size = ad n := by rw [hz, had n hn]
  have hcl : (tu_J z).toNatClampNeg = N := tu_cl' hz9 (by omega)
  refine W.anew (n := tu_J z) (rest := st.map (tu_vl ad)) hx hb hown (hts _ hw) (va_AO.use hnw.2.2.2) rfl hd rfl (tu_J0 hz9 (by omega)) (by rw [hcl]; omega) (by omega) (by rw [hcl]; omega) fun cA kA comp f1 f2 f3 f4 => ?_
  have hcA : cA = g.2.2.2.2 := by
    obtain ⟨kA', comp', -, -, -, k4⟩ := (hK.2 3 (g.2.2.2.2, .object RX0) rfl).2
    exact Option.some.inj (f1.symm.trans k4)
  subst hcA
  rw [hcl, hh]
  refine kk _ rfl _ locs ls (tv_push hP (fun q hq => by rw [Array.getElem?_push, if_neg (Nat.ne_of_lt hq)]) (tv_ce3 hs) ?_) (by rw [Array.size_push, hz]; omega) ⟨Nat.le_trans hS.1 (by rw [Array.size_push]; omega), fun q h1 h2 => by rw [Array.getElem?_push, if_neg (by have := hS.1; omega)]; exact hS.2.1 q h1 h2, hS.2.2⟩ hl
  show (H.push _)[ad n]? = some (vp_cell _ _)
  rw [← hh, Array.getElem?_push_size, vp_cell_q, ← arrV_new]
  rfl
theorem tv_new (pc : Nat) (X : tv_X T cc own fr lo mc ms) {idx ci N : Nat} {fs : List (Option Nat)} (hw : tv_cl own idx ci N fs) (hd : decode cc pc = .ok (.new idx, 3)) (hs : tu_sh n = (4, ci, fs)) (hn : n < 92) (hkc : kc + 1 ≤ mc) (hks : ks + N ≤ ms)
    (kk : ∀ M', M' = tu_row M n (fun _ => 0) → tv_W T (n + 1) (kc + 1) (ks + N) (pc + 3) lv (tu_r n :: st) M') : tv_W T n kc ks pc lv st M := by
  obtain ⟨p, l, e, R, s, m, args, below, meth, c, nL, g, ad, Q⟩ := T
  obtain ⟨hx, hb, hml, hown, hts, hK, hsa, hnw, had, h0, hfr, hlo, hmc, hms⟩ := X
  intro H locs ls hP hz hS hl
  obtain ⟨C, TT, ty, hc, hin, hty, hcl, hinst, hini, hdef⟩ := hw
  have hh : H.size = ad n := by rw [hz, had n hn]
  have hKn := hK.1 ci _ hc
  refine W.newcK hx hb hown (hts _ hcl) (hts _ hinst) (hts _ hini) rfl hd (by omega) (by omega) hKn.2.1 hh fun H1 kC hkC e1 z1 o1 => ?_
  refine kk _ rfl H1 locs ls (tv_push hP (fun q hq => o1 q (by omega)) (tv_ce4 hs) ?_) (by rw [z1, ← hh, hz]; omega) ⟨Nat.le_trans hS.1 (by omega), fun q h1 h2 => (o1 q (by have := hS.1; omega)).trans (hS.2.1 q h1 h2), hS.2.2⟩ hl
  exact ⟨_, hc, (u_born ty hts hin hKn hkC e1 hty).to (hdef ad)⟩
theorem tv_putI (pc : Nat) (X : tv_X T cc own fr lo mc ms) {idx ci k i : Nat} {fs : List (Option Nat)} {x : Int} (hd : decode cc pc = .ok (.putfield idx, 3)) (hf : tu_fp own idx ci k) (hi : i < n) (hn : n ≤ 92) (hs : tu_sh i = (4, ci, fs)) (hk : fs[k]? = some none)
    (kk : ∀ M', M' = tu_row M i (tu_u (M i) k x) → tv_W T n kc ks (pc + 3) lv st M') : tv_W T n kc ks pc lv (tu_i x :: tu_r i :: st) M := by
  obtain ⟨p, l, e, R, s, m, args, below, meth, c, nL, g, ad, Q⟩ := T
  obtain ⟨hx, hb, hml, hown, hts, hK, hsa, hnw, had, h0, hfr, hlo, hmc, hms⟩ := X
  intro H locs ls hP hz hS hl
  obtain ⟨C, TT, N, hc, hkN, hin, hlk, hfin, hd0, ⟨ty0, hty⟩, hnm⟩ := hf
  have hap := va_apart (own := own) hts hin ty0 hty hnm hK hc
  have hat := tv_ws_at (g := g) (ad := ad) (M := M) hi
  rw [tv_ce4 hs] at hat
  obtain ⟨r, h1, cell, q1, q2, q3, q4⟩ := hP i _ hat
  have hr : r = (C, TT, N) := Option.some.inj (h1.symm.trans hc)
  subst hr
  obtain ⟨hSl, hfc, kC, hkC, hkind⟩ := hK.1 ci _ hc
  obtain ⟨cf, kf, fi, f, hfi, hsl⟩ := hSl k hkN
  have hlay := hts _ (hin _ (u_in_lay hkN))
  unfold u_lay at hlay
  rw [if_neg (by rw [hfin]; decide)] at hlay
  have hst := (u_facts hfc hkC (u_lays hts hin hkN) hfi).1
  have h6 := u_store hfc hkC hkind hlay hfi hd0 (v := .int (tu_J x)) rfl rfl
  have hD := tv_D (g := g) (M := M) had hn
  refine W.putK hx hb (f := f) ⟨hown, hts _ hlk, ⟨_, _, _, hfi⟩, hst⟩ (by rw [q2]; exact h6) q1 q3 (by rw [hsl]; exact k2_hasslot (q4 k hkN)) rfl rfl hd fun H1 e1 e2 e3 => ?_
  rw [hsl] at e1 ⊢
  have hlen : k < (tv_fv ad (M i) 0 fs).length := by rw [tv_fv_l]; exact tu_lt hk
  have hP1 := hP.set hD hat (e := .inr (ci, (tv_fv ad (M i) 0 fs).set k (.int (tu_J x)))) ⟨_, hc, t_OB.to (V := updV (vp_V (tv_fv ad (M i) 0 fs)) k (.int (tu_J x))) ⟨_, e1, q2, q3, t_set q4 hap hkN _⟩ (fun j _ => vp_updV_set hlen _ j)⟩ e3
  refine kk _ rfl H1 _ ls ?_ (e2.trans hz) (hS.put e2 e3 (hD.2 i _ hat)) hl
  rw [tv_ws_set (f := tu_u (M i) k x)] at hP1
  · exact hP1
  · have h1 := tv_fv_s (ad := ad) (row := M i) (x := x) (j := 0) hk
    rw [Nat.zero_add] at h1
    rw [tv_ce4 hs, h1]
theorem tv_putR (pc : Nat) (X : tv_X T cc own fr lo mc ms) (hnm9 : tv_nm T) {idx ci k i r9 : Nat} {fs : List (Option Nat)} (hd : decode cc pc = .ok (.putfield idx, 3)) (hf : tv_fF own idx ci k) (hi : i < n) (hn : n ≤ 92) (hs : tu_sh i = (4, ci, fs)) (hk : fs[k]? = some (some r9))
    (kk : ∀ M', M' = tu_row M i (tu_u (M i) k 1) → tv_W T n kc ks (pc + 3) lv st M') : tv_W T n kc ks pc lv (tu_r r9 :: tu_r i :: st) M := by
  obtain ⟨p, l, e, R, s, m, args, below, meth, c, nL, g, ad, Q⟩ := T
  obtain ⟨hx, hb, hml, hown, hts, hK, hsa, hnw, had, h0, hfr, hlo, hmc, hms⟩ := X
  intro H locs ls hP hz hS hl
  have hnm9 : meth.name = "<init>" := hnm9
  obtain ⟨C, TT, N, ty, hc, hkN, hin, hlk, hfin, hdecl, hd0, hty9, ⟨ty0, hty⟩, hnm⟩ := hf
  have hap := va_apart (own := own) hts hin ty0 hty hnm hK hc
  have hat := tv_ws_at (g := g) (ad := ad) (M := M) hi
  rw [tv_ce4 hs] at hat
  obtain ⟨r, h1, cell, q1, q2, q3, q4⟩ := hP i _ hat
  have hr : r = (C, TT, N) := Option.some.inj (h1.symm.trans hc)
  subst hr
  obtain ⟨hSl, hfc, kC, hkC, hkind⟩ := hK.1 ci _ hc
  obtain ⟨cf, kf, fi, f, hfi, hsl⟩ := hSl k hkN
  have hlay := hts _ (hin _ (u_in_lay hkN))
  unfold u_lay at hlay
  rw [if_pos hfin] at hlay
  have hst := (u_facts hfc hkC (u_lays hts hin hkN) hfi).1
  have hcf : m.cls = cf := by
    obtain ⟨_, _, c', _, _, _, -, -, hf', -, -, -, hown2, -⟩ := Cond.laysFinal_spec hlay
    have e1 : c' = cf := by have := hfi.symm.trans hf'; simp at this; exact this.1.symm
    rw [hdecl] at hown2
    rw [← e1]; exact Option.some.inj (hown.symm.trans hown2)
  have h6 := u_fits hfc hkC hkind (Or.inr hlay) hfi hd0 (hty9 (ad r9)).1 (hty9 (ad r9)).2
  have hD := tv_D (g := g) (M := M) had hn
  refine W.putFinK hx hb hown (hts _ hlk) hfi hst hcf hnm9 (by rw [q2]; exact h6) q1 q3 (by rw [hsl]; exact k2_hasslot (q4 k hkN)) rfl rfl hd fun H1 e1 e2 e3 => ?_
  rw [hsl] at e1 ⊢
  have hlen : k < (tv_fv ad (M i) 0 fs).length := by rw [tv_fv_l]; exact tu_lt hk
  have hP1 := hP.set hD hat (e := .inr (ci, (tv_fv ad (M i) 0 fs).set k (.ref (ad r9)))) ⟨_, hc, t_OB.to (V := updV (vp_V (tv_fv ad (M i) 0 fs)) k (.ref (ad r9))) ⟨_, e1, q2, q3, t_set q4 hap hkN _⟩ (fun j _ => vp_updV_set hlen _ j)⟩ e3
  refine kk _ rfl H1 _ ls ?_ (e2.trans hz) (hS.put e2 e3 (hD.2 i _ hat)) hl
  rw [tv_ws_set (f := tu_u (M i) k 1)] at hP1
  · exact hP1
  · have h1 := tv_fv_sr (ad := ad) (row := M i) (j := 0) hk
    rw [Nat.zero_add] at h1
    rw [tv_ce4 hs, h1]
theorem tv_getR (pc : Nat) (X : tv_X T cc own fr lo mc ms) {idx ci k i r : Nat} {fs : List (Option Nat)} (hd : decode cc pc = .ok (.getfield idx, 3)) (hf : tu_fl own idx ci k) (hi : i < n) (hs : tu_sh i = (4, ci, fs)) (hk : fs[k]? = some (some r)) (hv : M i k ≠ 0)
    (kk : tv_W T n kc ks (pc + 3) lv (tu_r r :: st) M) : tv_W T n kc ks pc lv (tu_r i :: st) M := by
  obtain ⟨p, l, e, R, s, m, args, below, meth, c, nL, g, ad, Q⟩ := T
  obtain ⟨hx, hb, hml, hown, hts, hK, hsa, hnw, had, h0, hfr, hlo, hmc, hms⟩ := X
  intro H locs ls hP hz hS hl
  obtain ⟨C, TT, N, hc, hkN, hin, hlk⟩ := hf
  exact va_get hx hb (v := .ref (ad r)) hts hin hown hK hP i (by rw [tv_ws_at hi, tv_ce4 hs]) hc k hkN (hts _ hlk) (fun _ h9 => h9) (tv_fv_r hk (by rw [Nat.zero_add]; exact hv)) hd (kk H locs ls hP hz hS hl)
theorem tv_gets0 (pc : Nat) (X : tv_X T cc RX0 fr lo mc ms) (hd : decode cc pc = .ok (.getstatic 46, 3)) (kk : tv_W T n kc ks (pc + 3) lv (tu_r 99 :: st) M) : tv_W T n kc ks pc lv st M := by
  obtain ⟨p, l, e, R, s, m, args, below, meth, c, nL, g, ad, Q⟩ := T
  obtain ⟨hx, hb, hml, hown, hts, hK, hsa, hnw, had, h0, hfr, hlo, hmc, hms⟩ := X
  intro H locs ls hP hz hS hl
  exact va_getsN hx hb hsa.2.2.1 hS hown (va_Nw.use rfl hnw.1) (fun _ h => h) hd (kk H locs ls hP hz hS hl)
theorem tv_iast (pc : Nat) (X : tv_X T cc own fr lo mc ms) {i N : Nat} {j x : Int} (q : Nat) (hd : decode cc pc = .ok (.iastore, 1)) (hi : i < n) (hn9 : n ≤ 92) (hs : tu_sh i = (0, N, [])) (hn : N < 2147483648) (hj : j = (q : Int)) (hq : q < N)
    (kk : ∀ M', M' = tu_row M i (tu_u (M i) q x) → tv_W T n kc ks (pc + 1) lv st M') : tv_W T n kc ks pc lv (tu_i x :: tu_i j :: tu_r i :: st) M := by
  obtain ⟨p, l, e, R, s, m, args, below, meth, c, nL, g, ad, Q⟩ := T
  obtain ⟨hx, hb, hml, hown, hts, hK, hsa, hnw, had, h0, hfr, hlo, hmc, hms⟩ := X
  intro H locs ls hP hz hS hl
  have hat := tv_ws_at (g := g) (ad := ad) (M := M) hi
  rw [tv_ce0 hs] at hat
  have hD := tv_D (g := g) (M := M) had hn9
  refine W.iast hx hb (hP i _ hat) ((hK.2 0 _ rfl).1 N (fun j => .int (tu_J (M i j)))) (fun q => by cases q) (by show ¬ (tu_J j < 0 ∨ (arrV _ _ _).slots.size ≤ _); rw [arrV_size]; exact tu_in hj hq hn) rfl rfl hd fun H1 e z oq => ?_
  rw [tu_cl hj hq hn] at e ⊢
  have hP1 := hP.set hD hat (e := .inl (g.2.1, N, .inl (fun j => tu_J (tu_u (M i) q x j)))) (H1 := H1) (by
    show H1[ad i]? = some (vp_cell _ _)
    rw [e, vp_cell_i, vp_cell_i, arrV_store]
    congr 2
    funext a
    by_cases h : a = q
    · subst h; simp [updV, tu_u_s]
    · simp [updV, h, tu_u_n]) oq
  refine kk _ rfl H1 _ ls ?_ (z.trans hz) (hS.put z oq (hD.2 i _ hat)) hl
  rw [tv_ws_set (f := tu_u (M i) q x)] at hP1
  · exact hP1
  · rw [tv_ce0 hs]
theorem tv_aast (pc : Nat) (X : tv_X T cc own fr lo mc ms) {i N r : Nat} {j : Int} {fs : List (Option Nat)} (q : Nat) (hd : decode cc pc = .ok (.aastore, 1)) (hi : i < n) (hn9 : n ≤ 92) (hs : tu_sh i = (3, N, [])) (hn : N < 2147483648) (hj : j = (q : Int)) (hq : q < N) (hr : r < n) (hr0 : r ≠ 0) (hrs : tu_sh r = (4, 0, fs))
    (kk : ∀ M', M' = tu_row M i (tu_u (M i) q (r : Int)) → tv_W T n kc ks (pc + 1) lv st M') : tv_W T n kc ks pc lv (tu_r r :: tu_i j :: tu_r i :: st) M := by
  obtain ⟨p, l, e, R, s, m, args, below, meth, c, nL, g, ad, Q⟩ := T
  obtain ⟨hx, hb, hml, hown, hts, hK, hsa, hnw, had, h0, hfr, hlo, hmc, hms⟩ := X
  intro H locs ls hP hz hS hl
  have hat := tv_ws_at (g := g) (ad := ad) (M := M) hi
  rw [tv_ce3 hs] at hat
  have hav := tv_ws_at (g := g) (ad := ad) (M := M) hr
  rw [tv_ce4 hrs] at hav
  have hD := tv_D (g := g) (M := M) had hn9
  obtain ⟨r', hr', cellV, g1, g2, g3, -⟩ := hP r _ hav
  have hcls := (hK.1 0 (RX0, TX0, 11) rfl).2
  obtain ⟨kA, comp, k1, k2, k3, -⟩ := (hK.2 3 (g.2.2.2.2, .object RX0) rfl).2
  have hcomp : comp = g.1.1 0 := Option.some.inj (k3.symm.trans hcls.1)
  subst hcomp
  obtain ⟨kC, hkC, -⟩ := hcls.2
  refine W.aast hx hb (hP i _ hat) (fun q h => by cases h) (fun h => by cases h) k1 k2 rfl hkC ⟨fun h => tu_in hj hq hn (Or.inl h), by show _ < (arrV _ _ _).slots.size; rw [arrV_size, tu_cl hj hq hn]; exact hq⟩ g1 (fun q h => by rw [g3] at h; cases h) (by rw [g2]; exact hkC) (by rw [g2]; exact va_assign hcls) rfl rfl hd fun H1 e z oq => ?_
  rw [tu_cl hj hq hn] at e ⊢
  have hP1 := hP.set hD hat (e := .inl (g.2.2.2.2, N, .inr (.inr (.inr (.inr (fun j => if tu_u (M i) q (r : Int) j = 0 then none else some (ad (tu_u (M i) q (r : Int) j).toNat))))))) (H1 := H1) (by
    show H1[ad i]? = some (vp_cell _ _)
    rw [e, vp_cell_q, vp_cell_q, arrV_store]
    congr 2
    funext a
    by_cases h : a = q
    · subst h
      have h9 : ¬ (r : Int) = 0 := by omega
      simp [updV, tu_u_s, hr0, va_rf]
    · simp [updV, h, tu_u_n]) oq
  refine kk _ rfl H1 _ ls ?_ (z.trans hz) (hS.put z oq (hD.2 i _ hat)) hl
  rw [tv_ws_set (f := tu_u (M i) q (r : Int))] at hP1
  · exact hP1
  · rw [tv_ce3 hs]
/-- the first settings, copied -/
theorem tv_copy0 (pc : Nat) (X : tv_X T cc RX0 fr lo mc ms) {i N : Nat} (hd : decode cc pc = .ok (.invokestatic 49, 3)) (hi : i < n) (hn9 : n ≤ 92) (hs : tu_sh i = (0, N, [])) (hN : 4 ≤ N) (hlen : st.length ≤ 4) (hfr1 : 1 ≤ fr) (hlo1 : 40 ≤ lo)
    (kk : ∀ M', M' = tu_row M i (va_cpy tu_f0 (M i) 0 0 4) → tv_W T n kc ks (pc + 3) lv st M') : tv_W T n kc ks pc lv (tu_i 4 :: tu_i 0 :: tu_r i :: tu_i 0 :: tu_r 99 :: st) M := by
  obtain ⟨p, l, e, R, s, m, args, below, meth, c, nL, g, ad, Q⟩ := T
  obtain ⟨hx, hb, hml, hown, hts, hK, hsa, hnw, had, h0, hfr, hlo, hmc, hms⟩ := X
  intro H locs ls hP hz hS hl
  have hat := tv_ws_at (g := g) (ad := ad) (M := M) hi
  rw [tv_ce0 hs] at hat
  have hD := tv_D (g := g) (M := M) had hn9
  have hsum := tu_sum st ad hlen
  have hnf := nf_le
  obtain ⟨scr, hs1, hs2, hs3, hs4, -, hs5, hs7⟩ := hsa.2.2.2
  have hc0 : H[ad 99]? = some scr := by rw [hS.2.1 (ad 99) (Array.getElem?_eq_some_iff.mp hs1).1 hs7]; exact hs1
  have hc1 : H[ad i]? = some (vp_cell g.2.1 (N, .inl (fun j => tu_J (M i j)))) := hP i _ hat
  obtain ⟨hs6, k0, hk0, cm0, hkk0⟩ := hs2
  obtain ⟨-, k1, hk1, cm1, hkk1⟩ := (hK.2 0 _ rfl).1 N (fun j => .int (tu_J (M i j)))
  intro T9 hT X9
  obtain ⟨vm', X', step⟩ := X9.arraycopy hx hown (hts _ ac_RX0) (hts _ tu_n1) (hts _ tu_n2) (hts _ tu_n3) (src := ad 99) (dst := ad i) (cs := scr) (cd := vp_cell g.2.1 (N, .inl (fun j => tu_J (M i j)))) (srcPos := tu_J 0) (destPos := tu_J 0) (n := tu_J 4) (by rw [hT]; exact hc0) (by rw [hT]; exact hc1)
    hs6 (fun _ h => by cases h) hs3 (fun h => by cases h) hk0 hk1 hkk0 hkk1 (by simp [refKind]) (by decide) (by decide) (by decide)
    (by show ¬ (4 : Int) > _; omega)
    (by show ¬ (4 : Int) > ((arrV g.2.1 N (fun j => .int (tu_J (M i j)))).slots.size : Int); rw [arrV_size]; omega)
    (fun vm₁ _ j hj => by
      have hj : j < 4 := hj
      have e : scr.slots.getD (0 + j) .null = .int (tu_J (tu_f0 j)) := by
        rw [Nat.zero_add, Array.getD_eq_getD_getElem?, hs5 _ hj]
        rfl
      refine ⟨?_, ?_⟩
      · show fits .int (scr.slots.getD (0 + j) .null) = true
        rw [e]; rfl
      · have e' : scr.slots.getD ((tu_J 0).toNatClampNeg + j) .null = .int (tu_J (tu_f0 j)) := e
        rw [e']
        exact trivial)
    (g := F0 m pc ls ((tu_i 4 :: tu_i 0 :: tu_r i :: tu_i 0 :: tu_r 99 :: st).map (tu_vl ad))) rfl (by rw [hml]; exact hl.1) (rest := st.map (tu_vl ad)) rfl (by rw [hb]; exact hd) (by omega) (by show 2 * 0 + _ + _ ≤ _; omega)
  have e1 : copied scr (vp_cell g.2.1 (N, .inl (fun j => tu_J (M i j)))) (tu_J 0) (tu_J 0) (tu_J 4) = vp_cell g.2.1 (N, .inl (fun j => tu_J (va_cpy tu_f0 (M i) 0 0 4 j))) := by
    rw [← tu_cpy]
    exact va_copiedX (fun z => .int z) scr g.2.1 (fun j => tu_J (tu_f0 j)) (fun j => tu_J (M i j)) hs5 (show 0 + 4 ≤ 4 by decide)
  rw [e1] at X' step
  have hl9 : ad i < H.size := (Array.getElem?_eq_some_iff.mp hc1).1
  have hheap : ((T9.setVm vm').setCell (ad i) (vp_cell g.2.1 (N, .inl (fun j => tu_J (va_cpy tu_f0 (M i) 0 0 4 j))))).heap = H.setIfInBounds (ad i) (vp_cell g.2.1 (N, .inl (fun j => tu_J (va_cpy tu_f0 (M i) 0 0 4 j)))) := by rw [← hT]; rfl
  have oq : ∀ q : Nat, q ≠ ad i → (H.setIfInBounds (ad i) (vp_cell g.2.1 (N, .inl (fun j => tu_J (va_cpy tu_f0 (M i) 0 0 4 j)))))[q]? = H[q]? := fun q hq => by simp [Array.getElem?_setIfInBounds, Ne.symm hq]
  have hP1 := hP.set hD hat (e := .inl (g.2.1, N, .inl (fun j => tu_J (va_cpy tu_f0 (M i) 0 0 4 j)))) (show (H.setIfInBounds (ad i) (vp_cell g.2.1 (N, .inl (fun j => tu_J (va_cpy tu_f0 (M i) 0 0 4 j)))))[ad i]? = some _ by simp [Array.getElem?_setIfInBounds, hl9]) oq
  rw [tv_ws_set (f := va_cpy tu_f0 (M i) 0 0 4) (tv_ce0 hs)] at hP1
  obtain ⟨t, a1, b1⟩ := kk _ rfl _ _ ls hP1 (by simp; exact hz) ⟨by simp; exact hS.1, fun q g1 g2 => by
      rw [oq q (fun e => g2 (by rw [e]; exact hD.2 i _ hat))]
      exact hS.2.1 q g1 g2, fun q hq => by
      rcases List.mem_append.mp hq with h | h
      · exact hS.2.2 q h
      · obtain ⟨z, -, hz⟩ := List.mem_map.mp h
        rw [← hz]
        exact hD.2 i _ hat⟩ hl _ hheap X'
  exact ⟨t, step t a1, b1⟩
/-- a constructor called -/
theorem tv_call (pc : Nat) (X : tv_X T cc own fr lo mc ms) {Y : tv_Y} {idx b n' : Nat} {post : tu_M → Prop} (hM : tv_MV Y b n n' M post) (hw : Cond.methodLink own idx Y.1 ∈ tu_tb ∧ Cond.instanceMethod Y.1 ∈ tu_tb ∧ Cond.initialized Y.1.cls ∈ tu_tb ∧ Cond.code Y.1 Y.2.1 Y.2.2.1 none ∈ tu_tb) (hy : Y.1.name = "<init>" ∧ Y.1.cls ≠ "java/lang/invoke/MethodHandle" ∧ Y.1.cls ≠ "java/lang/invoke/VarHandle" ∧ (parseMethodDescriptor Y.1.desc).map (fun d => d.parameters.length) = some 0) (hd : decode cc pc = .ok (.invokespecial idx, 3)) (hlen : st.length ≤ 4) (hroom : Y.2.2.2.1 + 1 ≤ fr ∧ 8 + (Y.2.2.1 + 11) + Y.2.2.2.2.1 ≤ lo) (hkc : kc + Y.2.2.2.2.2.1 ≤ mc) (hks : ks + Y.2.2.2.2.2.2 ≤ ms)
    (kk : ∀ M', post M' → tv_W T n' (kc + Y.2.2.2.2.2.1) (ks + Y.2.2.2.2.2.2) (pc + 3) lv st M') : tv_W T n kc ks pc lv (tu_r b :: st) M := by
  obtain ⟨p, l, e, R, s, m, args, below, meth, c, nL, g, ad, Q⟩ := T
  obtain ⟨hx, hb, hml, hown, hts, hK, hsa, hnw, had, h0, hfr, hlo, hmc, hms⟩ := X
  intro H locs ls hP hz hS hl
  have cw := cwI (R := R) (rm := tv_rm Y) (mc := Y.2.2.2.2.2.1) (ms := Y.2.2.2.2.2.2) (ws := tv_wd Y) 0 hts (tv_gd hw.2.2.2) rfl rfl rfl (hts _ hw.2.2.1) (hts _ hw.1) (hts _ hw.2.1) hy.1 hy.2 ⟨Nat.le_trans hroom.1 hfr, Nat.le_trans hroom.2 hlo⟩
  refine va_callv (A1 := tv_A ad) (va_runI (cc := cc) (nL := nL) (Ts := tu_tb) (own := own) (b := ad b) (As := []) (rest := st.map (tu_vl ad)) ⟨hx, hb, hml, hown, hts⟩ (hM l g ad) cw ⟨tv_blind, tv_pre hK had hsa hnw hP hz hS⟩ rfl rfl hl.1 rfl (tu_room st ad hlen) hd ⟨by omega, by omega⟩) hS (fun q _ h => h) (fun q h => h) (fun M' t H1 locs1 ht hvm hpost hB hz1 hk hS1 => ?_)
  obtain ⟨hP1, -, hz2, -⟩ := hB
  rw [ht] at hP1 hz2
  exact kk M' hpost H1 locs1 ls hP1 hz2 hS1 hl
/-- of a nest mate -/
theorem tv_callN (pc : Nat) (X : tv_X T cc own fr lo mc ms) {Y : tv_Y} {idx b n' : Nat} {host : String} {post : tu_M → Prop} (hM : tv_MV Y b n n' M post) (hnl : ∀ s : State, tv_Nw s → va_Nw (.methodLinkNest own idx Y.1 host) s) (hw : Cond.instanceMethod Y.1 ∈ tu_tb ∧ Cond.initialized Y.1.cls ∈ tu_tb ∧ Cond.code Y.1 Y.2.1 Y.2.2.1 none ∈ tu_tb) (hy : Y.1.name = "<init>" ∧ Y.1.cls ≠ "java/lang/invoke/MethodHandle" ∧ Y.1.cls ≠ "java/lang/invoke/VarHandle" ∧ (parseMethodDescriptor Y.1.desc).map (fun d => d.parameters.length) = some 0) (hd : decode cc pc = .ok (.invokespecial idx, 3)) (hlen : st.length ≤ 4) (hroom : Y.2.2.2.1 + 1 ≤ fr ∧ 8 + (Y.2.2.1 + 11) + Y.2.2.2.2.1 ≤ lo) (hkc : kc + Y.2.2.2.2.2.1 ≤ mc) (hks : ks + Y.2.2.2.2.2.2 ≤ ms)
    (kk : ∀ M', post M' → tv_W T n' (kc + Y.2.2.2.2.2.1) (ks + Y.2.2.2.2.2.2) (pc + 3) lv st M') : tv_W T n kc ks pc lv (tu_r b :: st) M := by
  obtain ⟨p, l, e, R, s, m, args, below, meth, c, nL, g, ad, Q⟩ := T
  obtain ⟨hx, hb, hml, hown, hts, hK, hsa, hnw, had, h0, hfr, hlo, hmc, hms⟩ := X
  intro H locs ls hP hz hS hl
  have cw := va_cnB (R := R) (rm := tv_rm Y) (mc := Y.2.2.2.2.2.1) (ms := Y.2.2.2.2.2.2) (ws := tv_wd Y) (ret := none) (own := own) (index := idx) (host := host) 0 hts (tv_gd hw.2.2) rfl rfl rfl (hnl s hnw) (hts _ hw.2.1) hy.2 ⟨Nat.le_trans hroom.1 hfr, Nat.le_trans hroom.2 hlo⟩
  refine va_callv (A1 := tv_A ad) (va_runIN (cc := cc) (nL := nL) (Ts := tu_tb) (own := own) (b := ad b) (As := []) (rest := st.map (tu_vl ad)) ⟨hx, hb, hml, hown, hts⟩ (hM l g ad) ⟨cw, hy.1, hts _ hw.1⟩ ⟨tv_blind, tv_pre hK had hsa hnw hP hz hS⟩ rfl rfl hl.1 rfl (tu_room st ad hlen) hd ⟨by omega, by omega⟩) hS (fun q _ h => h) (fun q h => h) (fun M' t H1 locs1 ht hvm hpost hB hz1 hk hS1 => ?_)
  obtain ⟨hP1, -, hz2, -⟩ := hB
  rw [ht] at hP1 hz2
  exact kk M' hpost H1 locs1 ls hP1 hz2 hS1 hl

end TV
