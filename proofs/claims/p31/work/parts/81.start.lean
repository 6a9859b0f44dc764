/-! THE CLAIM OUT OF ONE WALK OF THE LAW'S BODY. Your part is whole_start (and what it stands on); all else here is the same for every law, but numbers. -/
def R_law : String := "BurdenTunesLaw"
def lw_P (b : Addr) (xs : List Int32) (args : Array Value) (s : State) : Prop := args = #[.ref b] ∧ s.IntsAt b xs ∧ xs.length ≤ 260 ∧ (Jvm.Cond.and given_1 narrow_1).before args s = true
def lw_Q (_ : Array Value) (s : State) (o : Outcome) (t : State) : Prop := o = .returned (some (.int 1)) ∧ Framed s o t [] 600000 7302250
def lw_Z (below : List Frame) (a : Array Value) (s : State) : State → Prop := fun t => ∃ o, t.status = .running ∧ Ended t below o ∧ lw_Q a s o t
/-- the law's own end, with 1 on the stack, nothing written that was there before, its room as the claim has it -/
theorem lw_ret {p : Program} {l : Launch} {e : Env} {s : State} {m : MethodId} {below : List Frame} {meth : Method} {c : Code} {b : Nat} (hx : p.tables.exec = Jvm.exec) (hb : c.code = code) (hr : meth.sig.returnType = ret) (hlocks : meth.locks = false) {pc : Nat} {H : Heap} {ls : Array Slot} (hdg : decode code pc = .ok (.ireturn, 1)) : W p l e room_1 s m #[Value.ref b] below meth c H [] 600000 7302250 (lw_Z below #[Value.ref b] s) (F0 m pc ls [.int 1]) := by
  intro T hT X
  obtain ⟨fs, hret, hrun, hended, hW, hframe⟩ := X.leave (v := some (.int 1)) (hlocks := hlocks) (fun h => by rw [hr] at h; cases h)
  have hmeth' : T.vm.method? m = some meth := X.method'
  refine ⟨T.setFrames fs, ?_, .returned (some (.int 1)), hrun, hended, rfl, ⟨_, rfl⟩, hW, hframe⟩
  jvm_step X.here [X.here.top, hx, hb, hdg, hmeth', hr, ret, narrow_b1]
  (try refine ⟨rfl, ?_⟩); (try refine ⟨rfl, ?_⟩)
  first | (intro acts; rw [hret _ acts rfl rfl rfl]) | rw [hret _ _ rfl rfl rfl]
  exact Steps.refl _
/-- what holds at the law's entry: the machine, the code, the tables' words (any of lw_tbl by 'hts w (by decide +kernel)'), the script of L ints xs at the cell b, what the Statement gives of the start (any of its parts by flat_of_before) -/
def lw_At (p : Program) (s : State) (m : MethodId) (meth : Method) (c : Code) (b L : Nat) (xs : Nat → Int32) : Prop :=
  p.tables.exec = Jvm.exec ∧ c.code = code ∧ meth.sig.returnType = ret ∧ c.maxLocals = 18 ∧ s.vm.findClass R_law = some m.cls ∧ (∀ w ∈ lw_tbl, w.before #[Value.ref b] s = true) ∧ va_X b L xs s s.heap ∧ b < s.heap.size ∧ meth.locks = false ∧ (Jvm.Cond.and given_1 narrow_1).before #[Value.ref b] s = true
/-- the words, at the law's start -/
theorem tx_tb {p : Program} {s : State} {m : MethodId} {meth : Method} {c : Code} {b L : Nat} {xs : Nat → Int32} (C0 : lw_At p s m meth c b L xs) : ∀ w ∈ tu_tb, w.before #[Value.ref b] s = true := fun w h => C0.2.2.2.2.2.1 w (List.mem_filter.mp h).1
theorem tx_arr {s : State} {args : Array Value} {ty : FieldType} (h : (Cond.arrayClass ty).before args s = true) (h9 : ∀ C, ty ≠ .object C) : ∃ cA : ClassId, ArrOfT s cA ty ∧ va_RA s cA ty := by
  obtain ⟨cA, kA, comp, h1, h2, h3⟩ := Cond.arrayClass_spec h
  refine ⟨cA, fun n z => ⟨fun k h => (by cases h), kA, h2, comp, h3⟩, ?_⟩
  cases ty with
  | object C => exact absurd rfl (h9 C)
  | _ => exact h1
theorem tx_arrO {s : State} {args : Array Value} {C : String} (h : (Cond.arrayOver (.object C)).before args s = true) : ∃ cA : ClassId, ArrOfT s cA (.object C) ∧ va_RA s cA (.object C) := by
  obtain ⟨comp, cA, kA, h1, -, h3, h4, h5⟩ := Cond.arrayOver_spec h
  exact ⟨cA, fun n z => ⟨fun k h => (by cases h), kA, h3, comp, h4⟩, kA, comp, h3, h4, h1, h5⟩
theorem tx_wO : Cond.arrayOver (.object RX0) ∈ lw_tbl := List.mem_of_getElem? (i := 151) rfl
theorem tx_w1 : Cond.fieldLinkNest RX0 46 RX3 "FIRST_VALUES" "[I" RX3 ∈ lw_tbl := List.mem_of_getElem? (i := 30) rfl
theorem tx_w2 : Cond.methodLinkNest RX3 18 yX2_init RX3 ∈ lw_tbl := List.mem_of_getElem? (i := 88) rfl
theorem tx_w3 : Cond.methodLinkNest RX3 25 yX1_init RX3 ∈ lw_tbl := List.mem_of_getElem? (i := 104) rfl
theorem tx_l1 : Cond.laysStatic RX3 "LEAST_VALUES" "[I" ∈ lw_tbl := List.mem_of_getElem? (i := 180) rfl
theorem tx_l2 : Cond.laysStatic RX3 "GREATEST_VALUES" "[I" ∈ lw_tbl := List.mem_of_getElem? (i := 182) rfl
theorem tx_l0 : Cond.laysStatic RX3 "FIRST_VALUES" "[I" ∈ lw_tbl := List.mem_of_getElem? (i := 31) rfl
theorem tx_i3 : Cond.initialized RX3 ∈ lw_tbl := (List.mem_filter.mp cy_X3.2.1).1
theorem tx_nw {p : Program} {s : State} {m : MethodId} {meth : Method} {c : Code} {b L : Nat} {xs : Nat → Int32} (C0 : lw_At p s m meth c b L xs) : tv_Nw s := by
  have hts := C0.2.2.2.2.2.1
  exact ⟨va_Nw.of rfl (hts _ tx_w1), va_Nw.of rfl (hts _ tx_w2), va_Nw.of rfl (hts _ tx_w3), va_AO.of (hts _ tx_wO)⟩
/-- one of the three tables -/
theorem tx_tab {s : State} {b : Nat} {nm : String} {f : Nat → Int} {w0 w1 w2 w3 : Int32} (hf : tu_J (f 0) = w0 ∧ tu_J (f 1) = w1 ∧ tu_J (f 2) = w2 ∧ tu_J (f 3) = w3) (hl : (Cond.laysStatic RX3 nm "[I").before #[Value.ref b] s = true) (hini : (Cond.initialized RX3).before #[Value.ref b] s = true) (harr : (Cond.arrayOf (.static RX3 nm "[I") .int).before #[Value.ref b] s = true) (hlen : (Cond.eq (.length (.static RX3 nm "[I")) (.int 4)).before #[Value.ref b] s = true) (h0 : (Cond.eq (.elem (.static RX3 nm "[I") (.int 0)) (.int w0)).before #[Value.ref b] s = true) (h1 : (Cond.eq (.elem (.static RX3 nm "[I") (.int 1)) (.int w1)).before #[Value.ref b] s = true) (h2 : (Cond.eq (.elem (.static RX3 nm "[I") (.int 2)) (.int w2)).before #[Value.ref b] s = true) (h3 : (Cond.eq (.elem (.static RX3 nm "[I") (.int 3)) (.int w3)).before #[Value.ref b] s = true) : ∃ t : Nat, va_Z RX3 nm "[I" (.ref t) (fun q => s.heap.size ≤ q) s s.heap ∧ va_T .int t 4 (fun j => .int (tu_J (f j))) (fun q => s.heap.size ≤ q) s s.heap := by
  have hA : ∀ a : Nat, a < s.heap.size → ¬ (fun q : Nat => s.heap.size ≤ q) a := fun a h => Nat.not_le.mpr h
  obtain ⟨t, ht, hT⟩ := va_Tof (N := 4) (f := fun j => .int (tu_J (f j))) (by decide) harr (va_eqt hlen) (fun j hj => by
    rcases (show j = 0 ∨ j = 1 ∨ j = 2 ∨ j = 3 by omega) with rfl | rfl | rfl | rfl
    · rw [hf.1]; exact va_eqt h0
    · rw [hf.2.1]; exact va_eqt h1
    · rw [hf.2.2.1]; exact va_eqt h2
    · rw [hf.2.2.2]; exact va_eqt h3) hA
  exact ⟨t, va_Zof hl hini ht hA, hT⟩
set_option maxRecDepth 20000 in
theorem tx_sa {p : Program} {s : State} {m : MethodId} {meth : Method} {c : Code} {b L : Nat} {xs : Nat → Int32} (C0 : lw_At p s m meth c b L xs) : ∃ ad : Nat → Nat, tv_ad ad ∧ ad 0 = s.heap.size ∧ ad 100 = b ∧ tv_Sa ad s s.heap := by
  obtain ⟨hx, hb, hr, hml, hown, hts, hX, hbl, hlocks, hgv⟩ := id C0
  have hs := flat_of_before _ hgv
  obtain ⟨t1, z1, y1⟩ := tx_tab (nm := "LEAST_VALUES") (f := tu_f1) (w0 := 1) (w1 := 0) (w2 := 0) (w3 := 0) ⟨by decide, by decide, by decide, by decide⟩ (hts _ tx_l1) (hts _ tx_i3) (hs _ (by decide +kernel)) (hs _ (by decide +kernel)) (hs _ (by decide +kernel)) (hs _ (by decide +kernel)) (hs _ (by decide +kernel)) (hs _ (by decide +kernel))
  obtain ⟨t2, z2, y2⟩ := tx_tab (nm := "GREATEST_VALUES") (f := tu_f2) (w0 := 8) (w1 := 9) (w2 := 9) (w3 := 20) ⟨by decide, by decide, by decide, by decide⟩ (hts _ tx_l2) (hts _ tx_i3) (hs _ (by decide +kernel)) (hs _ (by decide +kernel)) (hs _ (by decide +kernel)) (hs _ (by decide +kernel)) (hs _ (by decide +kernel)) (hs _ (by decide +kernel))
  obtain ⟨t3, z3, y3⟩ := tx_tab (nm := "FIRST_VALUES") (f := tu_f0) (w0 := 3) (w1 := 1) (w2 := 3) (w3 := 7) ⟨by decide, by decide, by decide, by decide⟩ (hts _ tx_l0) (hts _ tx_i3) (hs _ (by decide +kernel)) (hs _ (by decide +kernel)) (hs _ (by decide +kernel)) (hs _ (by decide +kernel)) (hs _ (by decide +kernel)) (hs _ (by decide +kernel))
  refine ⟨fun i => if i < 92 then s.heap.size + i else if i = 97 then t1 else if i = 98 then t2 else if i = 99 then t3 else b, fun i hi => ?_, ?_, ?_, ?_⟩
  · show (if i < 92 then s.heap.size + i else _) = (if 0 < 92 then s.heap.size + 0 else _) + i
    rw [if_pos hi, if_pos (by decide)]; rfl
  · show (if 0 < 92 then s.heap.size + 0 else _) = _
    rw [if_pos (by decide)]; rfl
  · rfl
  · have e : ∀ ad : Nat → Nat, ad 0 = s.heap.size → ∀ q, tv_A ad q → s.heap.size ≤ q := fun ad h q hq => by
      have hq : ad 0 ≤ q := hq
      omega
    exact ⟨⟨z1.narrow (e _ rfl), y1.narrow (e _ rfl)⟩, ⟨z2.narrow (e _ rfl), y2.narrow (e _ rfl)⟩, ⟨z3.narrow (e _ rfl), y3.narrow (e _ rfl)⟩⟩
set_option maxRecDepth 20000 in
theorem tx_k {p : Program} {s : State} {m : MethodId} {meth : Method} {c : Code} {b L : Nat} {xs : Nat → Int32} (C0 : lw_At p s m meth c b L xs) : ∃ g : tu_G, va_K g.1 tu_cs (tu_ty g) s := by
  have hts := C0.2.2.2.2.2.1
  have htb := tx_tb C0
  obtain ⟨c0, i0, k0⟩ := u_known (C := RX0) (T := TX0) (N := 11) htb iw_X0 (hts (.instantiable RX0 11) (List.mem_of_getElem? (i := 25) rfl))
  obtain ⟨c1, i1, k1⟩ := u_known (C := RX1) (T := TX1) (N := 13) htb iw_X1 (hts (.instantiable RX1 13) (List.mem_of_getElem? (i := 103) rfl))
  obtain ⟨c2, i2, k2⟩ := u_known (C := RX2) (T := TX2) (N := 2) htb iw_X2 (hts (.instantiable RX2 2) (List.mem_of_getElem? (i := 87) rfl))
  obtain ⟨c3, i3, k3⟩ := u_known (C := RX3) (T := TX3) (N := 7) htb iw_X3 (hts (.instantiable RX3 7) (List.mem_of_getElem? (i := 17) rfl))
  obtain ⟨a0, b0⟩ := tx_arr (htb _ tv_aI) (fun C h => by cases h)
  obtain ⟨a1, b1⟩ := tx_arr (htb _ tv_aC) (fun C h => by cases h)
  obtain ⟨a2, b2⟩ := tx_arr (htb _ tv_aZ) (fun C h => by cases h)
  obtain ⟨a3, b3⟩ := tx_arrO (hts _ tx_wO)
  refine ⟨((fun k => match k with | 0 => c0 | 1 => c1 | 2 => c2 | _ => c3, fun k => match k with | 0 => i0 | 1 => i1 | 2 => i2 | _ => i3), a0, a1, a2, a3), fun k q hq => ?_, fun k q hq => ?_⟩
  · match k, hq with
    | 0, hq => cases hq; exact k0
    | 1, hq => cases hq; exact k1
    | 2, hq => cases hq; exact k2
    | 3, hq => cases hq; exact k3
    | k + 4, hq => simp [tu_cs] at hq
  · match k, hq with
    | 0, hq => cases hq; exact b0
    | 1, hq => cases hq; exact b1
    | 2, hq => cases hq; exact b2
    | 3, hq => cases hq; exact b3
    | k + 4, hq => simp [tu_ty] at hq
set_option maxRecDepth 20000 in
set_option maxHeartbeats 4000000 in
theorem whole_start {p : Program} {e : Env} {s : State} {m : MethodId} {below : List Frame} {meth : Method} {c : Code} (l : Launch) (hflags : l.flags = flags0) {b L : Nat} {xs : Nat → Int32} (hL : L ≤ 260) (C0 : lw_At p s m meth c b L xs) : W p l e room_1 s m #[Value.ref b] below meth c s.heap [] 0 0 (lw_Z below #[Value.ref b] s) (entryFrame m ([Value.ref b] : List Value).toArray 18) := by
  obtain ⟨hx, hb, hr, hml, hown, hts, hX, hbl, hlocks, hgv⟩ := id C0
  have htb := tx_tb C0
  have hnw := tx_nw C0
  obtain ⟨ad, had, h0, h100, hsa⟩ := tx_sa C0
  obtain ⟨g, hK⟩ := tx_k C0
  have hl := lv_entry ([.ref b]) (n := 18) (Nat.le_of_ble_eq_true rfl)
  rw [lg_entry_eq]
  generalize (lg_sl ([.ref b]) ++ List.replicate (18 - (lg_sl ([.ref b])).length) Slot.unset).toArray = ls at hl ⊢
  have hl : lv_has ls 18 ([(0, tu_r 100)].map fun q => (q.1, tu_vl ad q.2)) := by
    have hl : lv_has ls 18 [(0, .ref b)] := hl
    rw [← h100] at hl
    exact hl
  have main : tv_W (p, l, e, room_1, s, m, #[Value.ref b], below, meth, c, 18, g, ad, lw_Z below #[Value.ref b] s) 0 0 0 0 [(0, tu_r 100)] [] (fun _ _ => 0) := by
    have X : tv_X (p, l, e, room_1, s, m, #[Value.ref b], below, meth, c, 18, g, ad, lw_Z below #[Value.ref b] s) cL_law RL 9 344 600000 7302250 := ⟨hx, hb, hml, hown, htb, hK, hsa, hnw, had, by omega, Nat.le_refl _, Nat.le_refl _, Nat.le_refl _, Nat.le_refl _⟩
    refine tv_new 0 X cl_RL_21 dL_law_0 rfl (by decide) (Nat.le_of_ble_eq_true rfl) (Nat.le_of_ble_eq_true rfl) (fun M1 h1 => ?_)
    refine tv_dup 3 X dL_law_3 rfl ?_
    refine tv_call 4 X c_X3_init ci_RL_70 cn_X3 dL_law_4 (by decide) ⟨by decide, by decide⟩ (Nat.le_of_ble_eq_true rfl) (Nat.le_of_ble_eq_true rfl) (fun M2 h2 => ?_)
    refine tv_astore_n 7 X (lv' := [(1, tu_r 0), (0, tu_r 100)]) dL_law_7 (Nat.le_of_ble_eq_true rfl) rfl ?_
    refine tv_bipush 8 X dL_law_8 (by decide) ?_
    refine tv_newI 10 X 12 dL_law_10 rfl (by decide) rfl (by decide) (Nat.le_of_ble_eq_true rfl) (Nat.le_of_ble_eq_true rfl) (fun M3 h3 => ?_)
    refine tv_astore_n 12 X (lv' := [(2, tu_r 86), (1, tu_r 0), (0, tu_r 100)]) dL_law_12 (Nat.le_of_ble_eq_true rfl) rfl ?_
    refine tv_bipush 13 X dL_law_13 (by decide) ?_
    refine tv_newI 15 X 12 dL_law_15 rfl (by decide) rfl (by decide) (Nat.le_of_ble_eq_true rfl) (Nat.le_of_ble_eq_true rfl) (fun M4 h4 => ?_)
    refine tv_astore_n 17 X (lv' := [(3, tu_r 87), (2, tu_r 86), (1, tu_r 0), (0, tu_r 100)]) dL_law_17 (Nat.le_of_ble_eq_true rfl) rfl ?_
    refine tv_bipush 18 X dL_law_18 (by decide) ?_
    refine tv_newI 20 X 40 dL_law_20 rfl (by decide) rfl (by decide) (Nat.le_of_ble_eq_true rfl) (Nat.le_of_ble_eq_true rfl) (fun M5 h5 => ?_)
    refine tv_astore 22 X (lv' := [(4, tu_r 88), (3, tu_r 87), (2, tu_r 86), (1, tu_r 0), (0, tu_r 100)]) dL_law_22 (Nat.le_of_ble_eq_true rfl) rfl ?_
    refine tv_bipush 24 X dL_law_24 (by decide) ?_
    refine tv_newI 26 X 8 dL_law_26 rfl (by decide) rfl (by decide) (Nat.le_of_ble_eq_true rfl) (Nat.le_of_ble_eq_true rfl) (fun M6 h6 => ?_)
    refine tv_astore 28 X (lv' := [(5, tu_r 89), (4, tu_r 88), (3, tu_r 87), (2, tu_r 86), (1, tu_r 0), (0, tu_r 100)]) dL_law_28 (Nat.le_of_ble_eq_true rfl) rfl ?_
    refine tv_bipush 30 X dL_law_30 (by decide) ?_
    refine tv_newI 32 X 8 dL_law_32 rfl (by decide) rfl (by decide) (Nat.le_of_ble_eq_true rfl) (Nat.le_of_ble_eq_true rfl) (fun M7 h7 => ?_)
    refine tv_astore 34 X (lv' := [(6, tu_r 90), (5, tu_r 89), (4, tu_r 88), (3, tu_r 87), (2, tu_r 86), (1, tu_r 0), (0, tu_r 100)]) dL_law_34 (Nat.le_of_ble_eq_true rfl) rfl ?_
    refine tv_bipush 36 X dL_law_36 (by decide) ?_
    refine tv_newI 38 X 24 dL_law_38 rfl (by decide) rfl (by decide) (Nat.le_of_ble_eq_true rfl) (Nat.le_of_ble_eq_true rfl) (fun M8 h8 => ?_)
    refine tv_astore 40 X (lv' := [(7, tu_r 91), (6, tu_r 90), (5, tu_r 89), (4, tu_r 88), (3, tu_r 87), (2, tu_r 86), (1, tu_r 0), (0, tu_r 100)]) dL_law_40 (Nat.le_of_ble_eq_true rfl) rfl ?_
    have e8 : ∀ a, a < 86 → M8 a = M2 a := fun a ha => by rw [h8, tu_row_n _ _ (by omega), h7, tu_row_n _ _ (by omega), h6, tu_row_n _ _ (by omega), h5, tu_row_n _ _ (by omega), h4, tu_row_n _ _ (by omega), h3, tu_row_n _ _ (by omega)]
    have e90 : ∀ j, M8 90 j = 0 := fun j => by rw [h8, tu_row_n _ _ (by decide), h7, tu_row_s]
    have hE : tv_E M8 := ⟨h2.1.of (fun a q _ _ => e8 a (by omega)), fun j hj => by rw [e8 19 (by decide)]; exact h2.2.1 j hj, fun j hj => by rw [e8 20 (by decide)]; exact h2.2.2.1 j hj, fun j hj => (h2.2.2.2 j hj).of (e8 _ (by omega)) (e8 _ (by omega))⟩
    intro H locs ls hP hz hS hl
    have hP1 := tv_to hE hP
    refine W.widen (k := 600000) (n := 7302250) (Nat.le_of_ble_eq_true rfl) (Nat.le_of_ble_eq_true rfl) ?_
    refine va_forget (fun q hq => by have := hS.2.2 q hq; have this : ad 0 ≤ q.base := this; omega) ?_
    have hA : ∀ q, tu_A ad q → tv_A ad q := fun q hq => by
      obtain ⟨i, hi, rfl⟩ := hq
      have := had i hi
      show ad 0 ≤ ad i
      omega
    have hsx : tu_sx ad s s.heap := by
      refine ⟨L, xs, hL, by rw [h100]; exact hX, fun hq => ?_⟩
      have := hA _ hq
      have this : ad 0 ≤ ad 100 := this
      omega
    have Xu : tu_X (p, l, e, room_1, s, m, #[Value.ref b], below, meth, c, 18, g, ad, 600000, 7302250, lw_Z below #[Value.ref b] s) cL_law RL 9 344 := ⟨hx, hb, hml, hown, htb, hK, tv_inj had, ⟨⟨hsa.1.1.narrow hA, hsa.1.2.narrow hA⟩, hsa.2.1.1.narrow hA, hsa.2.1.2.narrow hA, hsx⟩, Nat.le_refl _, Nat.le_refl _, Nat.le_refl _, Nat.le_refl _⟩
    have hret : tu_RI (p, l, e, room_1, s, m, #[Value.ref b], below, meth, c, 18, g, ad, 600000, 7302250, lw_Z below #[Value.ref b] s) cL_law (fun z _ => z = 1) := by
      intro pc lv N z hd _ hz1
      subst hz1
      intro H locs ls hP hS hl
      refine va_forget (fun q hq => by
        have := hA _ (hS.2.2 q hq)
        have this : ad 0 ≤ q.base := this
        omega) ?_
      exact lw_ret hx hb hr hlocks hd
    refine tl_init Xu rfl hret hE e90 H [] ls hP1 ⟨hS.1, fun q h1 _ => hS.2.1 q h1 (fun h => by have h : ad 0 ≤ q := h; omega), fun _ h => by cases h⟩ ?_
    exact lv_sub hl [7, 6, 5, 4, 3, 2, 1, 0] rfl
  exact main s.heap [] ls (fun k q hq => by simp [tv_ws] at hq) (by omega) va_S.rf hl
