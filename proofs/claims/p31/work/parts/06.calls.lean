/-! contracts over the small machine: a method, its arguments, the memory before; what is true of its answer and of the memory behind it -/
abbrev tu_Y : Type := MethodName × ByteArray × Nat × Option FieldType × Nat × Nat
def tu_wd (Y : tu_Y) : List Cond := Cond.code Y.1 Y.2.1 Y.2.2.1 Y.2.2.2.1 :: tu_tb
def tu_rm (Y : tu_Y) : Room := { frames := Y.2.2.2.2.1, cells := 0, slots := 0, locals := Y.2.2.2.2.2 }
def tu_Pr (g : tu_G) (ad : Nat → Nat) (av : List tu_v) (M : tu_M) : Array Value → State → Prop := va_Pc (av.map (tu_vl ad)) (fun U => tu_Wo g ad M U)
/-- an int (or a boolean) comes back -/
def tu_MI (Y : tu_Y) (av : List tu_v) (M : tu_M) (post : Int → tu_M → Prop) : Prop := ∀ (l : Launch) (g : tu_G) (ad : Nat → Nat), Met l Y.1 (tu_wd Y) (tu_rm Y) (tu_Pr g ad av M) (va_Qi (fun r M' => ∃ z : Int, r = tu_J z ∧ post z M') (fun M' t => tu_Wo g ad M' t) (tu_A ad)) 0 0 (tu_A ad)
/-- nothing comes back -/
def tu_MV (Y : tu_Y) (av : List tu_v) (M : tu_M) (post : tu_M → Prop) : Prop := ∀ (l : Launch) (g : tu_G) (ad : Nat → Nat), Met l Y.1 (tu_wd Y) (tu_rm Y) (tu_Pr g ad av M) (va_Qv post (fun M' t => tu_Wo g ad M' t) (tu_A ad)) 0 0 (tu_A ad)
/-- the return's row, as a method's body gets it -/
def tu_RI (T : tu_T) (cc : ByteArray) (post : Int → tu_M → Prop) : Prop := ∀ (pc : Nat) (lv : List (Nat × tu_v)) (M : tu_M) (z : Int), decode cc pc = .ok (.ireturn, 1) → (∀ h : T.2.2.2.2.2.2.2.2.1.sig.returnType = some .boolean, z = 0 ∨ z = 1) → post z M → tu_W T pc lv [tu_i z] M
def tu_RV (T : tu_T) (cc : ByteArray) (post : tu_M → Prop) : Prop := ∀ (pc : Nat) (lv : List (Nat × tu_v)) (M : tu_M), decode cc pc = .ok (.return_, 1) → post M → tu_W T pc lv [] M
def tu_la : Nat → List tu_v → List (Nat × tu_v)
  | _, [] => []
  | i, v :: vs => (i, v) :: tu_la (if tu_2 v = true then i + 2 else i + 1) vs
theorem tu_la_e (ad : Nat → Nat) : ∀ (i : Nat) (vs : List tu_v), lv_args i (vs.map (tu_vl ad)) = (tu_la i vs).map fun q => (q.1, tu_vl ad q.2)
  | _, [] => rfl
  | i, v :: vs => by
    have h : (tu_vl ad v).category = 2 ↔ tu_2 v = true := by rw [← tu_2c ad v, beq_iff_eq]
    simp only [List.map_cons, lv_args, tu_la]
    by_cases hv : tu_2 v = true
    · rw [if_pos (h.mpr hv), if_pos hv, tu_la_e ad _ vs]
    · rw [if_neg (fun z => hv (h.mp z)), if_neg hv, tu_la_e ad _ vs]
def tu_sz : List tu_v → Nat
  | [] => 0
  | v :: vs => (if tu_2 v = true then 2 else 1) + tu_sz vs
theorem tu_sz_e (ad : Nat → Nat) : ∀ vs : List tu_v, (lg_sl (vs.map (tu_vl ad))).length = tu_sz vs
  | [] => rfl
  | v :: vs => by
    have h : (tu_vl ad v).category = 2 ↔ tu_2 v = true := by rw [← tu_2c ad v, beq_iff_eq]
    have ih := tu_sz_e ad vs
    unfold lg_sl at ih ⊢
    rw [List.map_cons, List.flatMap_cons, List.length_append, ih, tu_sz]
    by_cases hv : tu_2 v = true
    · rw [if_pos (h.mpr hv), if_pos hv]; rfl
    · rw [if_neg (fun z => hv (h.mp z)), if_neg hv]; rfl
theorem tu_MI.of {Y : tu_Y} {av : List tu_v} {M : tu_M} {post : Int → tu_M → Prop} {ty : FieldType} (hy : plainName Y.1.cls = true) (hty : Y.2.2.2.1 = some ty) (hb0 : ty = .boolean ∨ ty = .int) (hz : tu_sz av ≤ Y.2.2.1)
    (body : ∀ T : tu_T, tu_X T Y.2.1 Y.1.cls Y.2.2.2.2.1 Y.2.2.2.2.2 → T.2.2.2.2.2.2.2.2.2.2.1 = Y.2.2.1 → T.2.2.2.2.2.2.2.2.1.sig.returnType = some ty → tu_RI T Y.2.1 post → tu_W T 0 (tu_la 0 av) [] M) : tu_MI Y av M post := by
  intro l g ad
  refine Met.ofW (cc := Y.2.1) (maxL := Y.2.2.1) (ret := Y.2.2.2.1) hy rfl ?_
  intro p e s m args below meth c s₁ B hml hv
  obtain ⟨rfl, hP, hK, hI, hst⟩ := hv
  have hts : ∀ w ∈ tu_tb, w.before (av.map (tu_vl ad)).toArray s = true := fun w hw => atoms_spec (ws := tu_wd Y) B.pre w (List.mem_cons_of_mem _ hw)
  have hl := lv_entry (av.map (tu_vl ad)) (n := Y.2.2.1) (by rw [tu_sz_e]; exact hz)
  rw [tu_la_e] at hl
  rw [lg_entry_eq]
  refine body (p, l, e, (headSpec (tu_wd Y) (tu_rm Y)).room, s, m, (av.map (tu_vl ad)).toArray, below, meth, c, Y.2.2.1, g, ad, 0, 0, _) ⟨B.exec, B.bytes, hml, findClass_of_methodNamed B.named, hts, hK, hI, hst, Nat.le_refl _, Nat.le_refl _, Nat.zero_le _, Nat.zero_le _⟩ rfl (B.returns.trans hty) ?_ s.heap [] _ hP va_S.rf hl
  intro pc lv M' z hd hbz hpost H locs ls hP' hS' hl'
  have hn : narrow ty (.int (tu_J z)) = .int (tu_J z) := by
    rcases hb0 with rfl | rfl
    · rcases hbz (B.returns.trans hty) with rfl | rfl <;> rfl
    · rfl
  refine W.zret (v := tu_J z) B.exec B.bytes (B.returns.trans hty) hn (fun t ht hW => ⟨⟨tu_J z, M', rfl, ⟨z, rfl, hpost⟩, ?_, ?_, hI, ?_⟩, hS'.F ht⟩) hS'.2.2 hd B.notSynchronized
  · rw [ht]; exact hP'
  · exact va_K.moved hW.alike hK
  · refine tu_st.kept (H := s.heap) (hst.moved hW.alike) (fun a h1 h2 => ?_)
    rw [ht]; exact hS'.2.1 a h1 h2
theorem tu_MV.of {Y : tu_Y} {av : List tu_v} {M : tu_M} {post : tu_M → Prop} (hy : plainName Y.1.cls = true) (hty : Y.2.2.2.1 = none) (hz : tu_sz av ≤ Y.2.2.1)
    (body : ∀ T : tu_T, tu_X T Y.2.1 Y.1.cls Y.2.2.2.2.1 Y.2.2.2.2.2 → T.2.2.2.2.2.2.2.2.2.2.1 = Y.2.2.1 → tu_RV T Y.2.1 post → tu_W T 0 (tu_la 0 av) [] M) : tu_MV Y av M post := by
  intro l g ad
  refine Met.ofW (cc := Y.2.1) (maxL := Y.2.2.1) (ret := Y.2.2.2.1) hy rfl ?_
  intro p e s m args below meth c s₁ B hml hv
  obtain ⟨rfl, hP, hK, hI, hst⟩ := hv
  have hts : ∀ w ∈ tu_tb, w.before (av.map (tu_vl ad)).toArray s = true := fun w hw => atoms_spec (ws := tu_wd Y) B.pre w (List.mem_cons_of_mem _ hw)
  have hl := lv_entry (av.map (tu_vl ad)) (n := Y.2.2.1) (by rw [tu_sz_e]; exact hz)
  rw [tu_la_e] at hl
  rw [lg_entry_eq]
  refine body (p, l, e, (headSpec (tu_wd Y) (tu_rm Y)).room, s, m, (av.map (tu_vl ad)).toArray, below, meth, c, Y.2.2.1, g, ad, 0, 0, _) ⟨B.exec, B.bytes, hml, findClass_of_methodNamed B.named, hts, hK, hI, hst, Nat.le_refl _, Nat.le_refl _, Nat.zero_le _, Nat.zero_le _⟩ rfl ?_ s.heap [] _ hP va_S.rf hl
  intro pc lv M' hd hpost H locs ls hP' hS' hl'
  refine W.vret B.exec B.bytes (B.returns.trans hty) (fun t ht hW => ⟨⟨M', rfl, hpost, ?_, ?_, hI, ?_⟩, hS'.F ht⟩) hS'.2.2 hd B.notSynchronized
  · rw [ht]; exact hP'
  · exact va_K.moved hW.alike hK
  · refine tu_st.kept (H := s.heap) (hst.moved hW.alike) (fun a h1 h2 => ?_)
    rw [ht]; exact hS'.2.1 a h1 h2
/-! calls -/
/-- what a call of an instance method wants of the tables -/
def tu_sV (own : String) (idx : Nat) (Y : tu_Y) (n : Nat) : Prop := (Cond.methodLink own idx Y.1 ∈ tu_tb ∧ Cond.instanceMethod Y.1 ∈ tu_tb ∧ Cond.selects Y.1.cls Y.1 Y.1 ∈ tu_tb ∧ Cond.initialized Y.1.cls ∈ tu_tb ∧ Cond.code Y.1 Y.2.1 Y.2.2.1 Y.2.2.2.1 ∈ tu_tb) ∧ (Y.1.cls ≠ "java/lang/invoke/MethodHandle" ∧ Y.1.cls ≠ "java/lang/invoke/VarHandle" ∧ (parseMethodDescriptor Y.1.desc).map (fun d => d.parameters.length) = some n)
def tu_sS (own : String) (idx : Nat) (Y : tu_Y) (n : Nat) : Prop := (Cond.methodLink own idx Y.1 ∈ tu_tb ∧ Cond.static Y.1 ∈ tu_tb ∧ Cond.initialized Y.1.cls ∈ tu_tb ∧ Cond.code Y.1 Y.2.1 Y.2.2.1 Y.2.2.2.1 ∈ tu_tb) ∧ (Y.1.cls ≠ "java/lang/invoke/MethodHandle" ∧ Y.1.cls ≠ "java/lang/invoke/VarHandle" ∧ (parseMethodDescriptor Y.1.desc).map (fun d => d.parameters.length) = some n)
theorem tu_gd {Y' Y : tu_Y} (hc : Cond.code Y.1 Y.2.1 Y.2.2.1 Y.2.2.2.1 ∈ tu_tb) : GoodIn (tu_wd Y') (tu_wd Y) := by
  intro w hw
  rcases List.mem_cons.mp hw with rfl | hw
  · exact ⟨List.mem_cons_of_mem _ hc, tu_tb_good _ hc⟩
  · exact ⟨List.mem_cons_of_mem _ hw, tu_tb_good _ hw⟩
theorem tu_gt {Y : tu_Y} (hc : Cond.code Y.1 Y.2.1 Y.2.2.1 Y.2.2.2.1 ∈ tu_tb) : GoodIn tu_tb (tu_wd Y) := by
  intro w hw
  rcases List.mem_cons.mp hw with rfl | hw
  · exact ⟨hc, tu_tb_good _ hc⟩
  · exact ⟨hw, tu_tb_good _ hw⟩
theorem tu_blind {g : tu_G} {ad : Nat → Nat} {av : List tu_v} {M : tu_M} : FrameBlind (tu_Pr g ad av M) := by
  intro a U f mk h
  obtain ⟨h1, h2, h3, h4, h5⟩ := h
  exact ⟨h1, h2, va_K.moved (u := U) (U := U.calling f mk a) (Vm.Alike.refl U.vm) h3, h4, tu_st.moved (u := U) (U := U.calling f mk a) (Vm.Alike.refl U.vm) h5⟩
section TC
variable {T : tu_T} {cc : ByteArray} {own : String} {fr lo : Nat} {lv : List (Nat × tu_v)} {st : List tu_v} {M : tu_M}
theorem tu_cB {R : Room} {s : State} {args : Array Value} {own : String} {idx : Nat} {Y : tu_Y} {n : Nat} (hts : ∀ w ∈ tu_tb, w.before args s = true) (hc : Cond.code Y.1 Y.2.1 Y.2.2.1 Y.2.2.2.1 ∈ tu_tb) (hi : Cond.initialized Y.1.cls ∈ tu_tb) (hl : Cond.methodLink own idx Y.1 ∈ tu_tb) (hd : Y.1.cls ≠ "java/lang/invoke/MethodHandle" ∧ Y.1.cls ≠ "java/lang/invoke/VarHandle" ∧ (parseMethodDescriptor Y.1.desc).map (fun d => d.parameters.length) = some n) (hr : Y.2.2.2.2.1 + 1 ≤ R.frames ∧ 8 + (Y.2.2.1 + 11) + Y.2.2.2.2.2 ≤ R.locals) : CallB R s args own idx Y.1 Y.2.1 Y.2.2.1 Y.2.2.2.1 (tu_wd Y) (tu_rm Y) 0 0 n :=
  callB_of (Ts := tu_tb) n hts (tu_gt hc) rfl rfl rfl (hts _ hi) (hts _ hl) hd hr
theorem tu_recv {g : tu_G} {ad : Nat → Nat} {M : tu_M} {s : State} {H : Heap} {b ci : Nat} {q : vw_C} {fs : List (Option Nat)} (hK : va_K g.1 tu_cs (tu_ty g) s) (hP : va_P g.1 tu_cs (tu_ws g ad M) H) (hb : b < 92) (hs : tu_sh b = (4, ci, fs)) (hc : tu_cs[ci]? = some q) : ∃ cell : Cell, H[ad b]? = some cell ∧ cell.vm.isStatics = false ∧ s.vm.findClass q.1 = some cell.cls :=
  va_recv hK hP hc (by rw [tu_ws_at hb, tu_ce4 hs])
theorem tu_room (l : List tu_v) (ad : Nat → Nat) {m : MethodId} {pc : Nat} {ls : Array Slot} {rest : List Value} (h : l.length ≤ 4) : 2 * (F0 m pc ls rest).monitorRoom + ((l.map (tu_vl ad)).map fun v => v.category).sum ≤ 8 := by
  apply lv_room
  have hc : ∀ v : Value, v.category ≤ 2 := fun v => by rcases lv_cat v with h | h <;> omega
  have h2 : ∀ l : List Value, (l.map fun v => v.category).sum ≤ 2 * l.length := by
    intro l
    induction l with
    | nil => exact Nat.zero_le _
    | cons a l ih =>
      have := hc a
      simp only [List.map_cons, List.sum_cons, List.length_cons]
      omega
  have := h2 (l.map (tu_vl ad))
  rw [List.length_map] at this
  omega
theorem tu_pre {g : tu_G} {ad : Nat → Nat} {M : tu_M} {s : State} {H : Heap} {locs : List Loc} {av : List tu_v} (hK : va_K g.1 tu_cs (tu_ty g) s) (hI : tu_inj ad) (hst : tu_st ad s s.heap) (hP : va_P g.1 tu_cs (tu_ws g ad M) H) (hS : va_S (tu_A ad) s.heap H locs) : ∀ U : State, U.heap = H → s.WarmedH U.vm → tu_Pr g ad av M (av.map (tu_vl ad)).toArray U := by
  intro U hU hW
  refine ⟨rfl, by rw [hU]; exact hP, va_K.moved hW.alike hK, hI, tu_st.kept (H := s.heap) (hst.moved hW.alike) (fun a h1 h2 => ?_)⟩
  rw [hU]; exact hS.2.1 a h1 h2
theorem tu_callVI (pc : Nat) (X : tu_X T cc own fr lo) {Y : tu_Y} {idx b ci n : Nat} {q : vw_C} {fs : List (Option Nat)} {as : List tu_v} {post : Int → tu_M → Prop} (hM : tu_MI Y (tu_r b :: as) M post) (hs : tu_sV own idx Y n) (hd : decode cc pc = .ok (.invokevirtual idx, 3)) (hn : as.length = n) (hb97 : b < 92) (hsh : tu_sh b = (4, ci, fs)) (hci : tu_cs[ci]? = some q) (hqc : q.1 = Y.1.cls) (hlen : st.length ≤ 4) (hroom : Y.2.2.2.2.1 + 1 ≤ fr ∧ 8 + (Y.2.2.1 + 11) + Y.2.2.2.2.2 ≤ lo)
    (kk : ∀ (z : Int) (M' : tu_M), post z M' → tu_W T (pc + 3) lv (tu_i z :: st) M') : tu_W T pc lv (as.reverse ++ tu_r b :: st) M := by
  obtain ⟨p, l, e, R, s, m, args, below, meth, c, nL, g, ad, kc, ks, Q⟩ := T
  obtain ⟨hx, hb, hml, hown, hts, hK, hI, hst, hfr, hlo, hkc, hks⟩ := X
  intro H locs ls hP hS hl
  obtain ⟨⟨hl0, hin, hse, hini, hco⟩, hd3⟩ := hs
  have hr : Y.2.2.2.2.1 + 1 ≤ R.frames ∧ 8 + (Y.2.2.1 + 11) + Y.2.2.2.2.2 ≤ R.locals := ⟨Nat.le_trans hroom.1 hfr, Nat.le_trans hroom.2 hlo⟩
  have cw : CallW R s args own Y.1.cls idx Y.1 Y.2.1 Y.2.2.1 Y.2.2.2.1 (tu_wd Y) (tu_rm Y) 0 0 n := ⟨tu_cB hts hco hini hl0 hd3 hr, hts _ hin, hts _ hse⟩
  have hrc := tu_recv (M := M) (H := H) hK hP hb97 hsh hci
  rw [hqc] at hrc
  have e1 : (as.reverse ++ tu_r b :: st).map (tu_vl ad) = (as.map (tu_vl ad)).reverse ++ .ref (ad b) :: st.map (tu_vl ad) := by simp [List.map_reverse, tu_vl]
  rw [e1]
  refine va_calli (A1 := tu_A ad) (a := (Value.ref (ad b) :: as.map (tu_vl ad)).toArray) (va_runV (cc := cc) (nL := nL) (Ts := tu_tb) (own := own) (C := Y.1.cls) (b := ad b) (As := as.map (tu_vl ad)) (rest := st.map (tu_vl ad)) ⟨hx, hb, hml, hown, hts⟩ (hM l g ad) cw ⟨tu_blind, hrc, tu_pre (av := tu_r b :: as) hK hI hst hP hS⟩ rfl (by simpa using hn) hl.1 rfl (tu_room st ad hlen) hd ⟨by omega, by omega⟩) hS (fun q _ h => h) (fun q h => h) (fun r M' t H1 locs1 ht hvm hpost hB hz hk hS1 => ?_)
  obtain ⟨z, rfl, hpost⟩ := hpost
  obtain ⟨hP1, -, -, -⟩ := hB
  rw [ht] at hP1
  exact kk z M' hpost H1 locs1 ls hP1 hS1 hl
theorem tu_callVV (pc : Nat) (X : tu_X T cc own fr lo) {Y : tu_Y} {idx b ci n : Nat} {q : vw_C} {fs : List (Option Nat)} {as : List tu_v} {post : tu_M → Prop} (hM : tu_MV Y (tu_r b :: as) M post) (hs : tu_sV own idx Y n) (hd : decode cc pc = .ok (.invokevirtual idx, 3)) (hn : as.length = n) (hb97 : b < 92) (hsh : tu_sh b = (4, ci, fs)) (hci : tu_cs[ci]? = some q) (hqc : q.1 = Y.1.cls) (hlen : st.length ≤ 4) (hroom : Y.2.2.2.2.1 + 1 ≤ fr ∧ 8 + (Y.2.2.1 + 11) + Y.2.2.2.2.2 ≤ lo)
    (kk : ∀ (M' : tu_M), post M' → tu_W T (pc + 3) lv st M') : tu_W T pc lv (as.reverse ++ tu_r b :: st) M := by
  obtain ⟨p, l, e, R, s, m, args, below, meth, c, nL, g, ad, kc, ks, Q⟩ := T
  obtain ⟨hx, hb, hml, hown, hts, hK, hI, hst, hfr, hlo, hkc, hks⟩ := X
  intro H locs ls hP hS hl
  obtain ⟨⟨hl0, hin, hse, hini, hco⟩, hd3⟩ := hs
  have hr : Y.2.2.2.2.1 + 1 ≤ R.frames ∧ 8 + (Y.2.2.1 + 11) + Y.2.2.2.2.2 ≤ R.locals := ⟨Nat.le_trans hroom.1 hfr, Nat.le_trans hroom.2 hlo⟩
  have cw : CallW R s args own Y.1.cls idx Y.1 Y.2.1 Y.2.2.1 Y.2.2.2.1 (tu_wd Y) (tu_rm Y) 0 0 n := ⟨tu_cB hts hco hini hl0 hd3 hr, hts _ hin, hts _ hse⟩
  have hrc := tu_recv (M := M) (H := H) hK hP hb97 hsh hci
  rw [hqc] at hrc
  have e1 : (as.reverse ++ tu_r b :: st).map (tu_vl ad) = (as.map (tu_vl ad)).reverse ++ .ref (ad b) :: st.map (tu_vl ad) := by simp [List.map_reverse, tu_vl]
  rw [e1]
  refine va_callv (A1 := tu_A ad) (a := (Value.ref (ad b) :: as.map (tu_vl ad)).toArray) (va_runV (cc := cc) (nL := nL) (Ts := tu_tb) (own := own) (C := Y.1.cls) (b := ad b) (As := as.map (tu_vl ad)) (rest := st.map (tu_vl ad)) ⟨hx, hb, hml, hown, hts⟩ (hM l g ad) cw ⟨tu_blind, hrc, tu_pre (av := tu_r b :: as) hK hI hst hP hS⟩ rfl (by simpa using hn) hl.1 rfl (tu_room st ad hlen) hd ⟨by omega, by omega⟩) hS (fun q _ h => h) (fun q h => h) (fun M' t H1 locs1 ht hvm hpost hB hz hk hS1 => ?_)
  obtain ⟨hP1, -, -, -⟩ := hB
  rw [ht] at hP1
  exact kk M' hpost H1 locs1 ls hP1 hS1 hl
theorem tu_callSI (pc : Nat) (X : tu_X T cc own fr lo) {Y : tu_Y} {idx n : Nat} {as : List tu_v} {post : Int → tu_M → Prop} (hM : tu_MI Y as M post) (hs : tu_sS own idx Y n) (hd : decode cc pc = .ok (.invokestatic idx, 3)) (hn : as.length = n) (hlen : st.length ≤ 4) (hroom : Y.2.2.2.2.1 + 1 ≤ fr ∧ 8 + (Y.2.2.1 + 11) + Y.2.2.2.2.2 ≤ lo)
    (kk : ∀ (z : Int) (M' : tu_M), post z M' → tu_W T (pc + 3) lv (tu_i z :: st) M') : tu_W T pc lv (as.reverse ++ st) M := by
  obtain ⟨p, l, e, R, s, m, args, below, meth, c, nL, g, ad, kc, ks, Q⟩ := T
  obtain ⟨hx, hb, hml, hown, hts, hK, hI, hst, hfr, hlo, hkc, hks⟩ := X
  intro H locs ls hP hS hl
  obtain ⟨⟨hl0, hstt, hini, hco⟩, hd3⟩ := hs
  have hr : Y.2.2.2.2.1 + 1 ≤ R.frames ∧ 8 + (Y.2.2.1 + 11) + Y.2.2.2.2.2 ≤ R.locals := ⟨Nat.le_trans hroom.1 hfr, Nat.le_trans hroom.2 hlo⟩
  have e1 : (as.reverse ++ st).map (tu_vl ad) = (as.map (tu_vl ad)).reverse ++ st.map (tu_vl ad) := by simp [List.map_reverse]
  rw [e1]
  refine va_calli (A1 := tu_A ad) (a := (as.map (tu_vl ad)).toArray) (va_runS (cc := cc) (nL := nL) (Ts := tu_tb) (own := own) (As := as.map (tu_vl ad)) (rest := st.map (tu_vl ad)) ⟨hx, hb, hml, hown, hts⟩ (hM l g ad) ⟨tu_cB hts hco hini hl0 hd3 hr, hts _ hstt⟩ ⟨tu_blind, tu_pre (av := as) hK hI hst hP hS⟩ rfl (by simpa using hn) hl.1 rfl (tu_room st ad hlen) hd ⟨by omega, by omega⟩) hS (fun q _ h => h) (fun q h => h) (fun r M' t H1 locs1 ht hvm hpost hB hz hk hS1 => ?_)
  obtain ⟨z, rfl, hpost⟩ := hpost
  obtain ⟨hP1, -, -, -⟩ := hB
  rw [ht] at hP1
  exact kk z M' hpost H1 locs1 ls hP1 hS1 hl
theorem tu_callSV (pc : Nat) (X : tu_X T cc own fr lo) {Y : tu_Y} {idx n : Nat} {as : List tu_v} {post : tu_M → Prop} (hM : tu_MV Y as M post) (hs : tu_sS own idx Y n) (hd : decode cc pc = .ok (.invokestatic idx, 3)) (hn : as.length = n) (hlen : st.length ≤ 4) (hroom : Y.2.2.2.2.1 + 1 ≤ fr ∧ 8 + (Y.2.2.1 + 11) + Y.2.2.2.2.2 ≤ lo)
    (kk : ∀ (M' : tu_M), post M' → tu_W T (pc + 3) lv st M') : tu_W T pc lv (as.reverse ++ st) M := by
  obtain ⟨p, l, e, R, s, m, args, below, meth, c, nL, g, ad, kc, ks, Q⟩ := T
  obtain ⟨hx, hb, hml, hown, hts, hK, hI, hst, hfr, hlo, hkc, hks⟩ := X
  intro H locs ls hP hS hl
  obtain ⟨⟨hl0, hstt, hini, hco⟩, hd3⟩ := hs
  have hr : Y.2.2.2.2.1 + 1 ≤ R.frames ∧ 8 + (Y.2.2.1 + 11) + Y.2.2.2.2.2 ≤ R.locals := ⟨Nat.le_trans hroom.1 hfr, Nat.le_trans hroom.2 hlo⟩
  have e1 : (as.reverse ++ st).map (tu_vl ad) = (as.map (tu_vl ad)).reverse ++ st.map (tu_vl ad) := by simp [List.map_reverse]
  rw [e1]
  refine va_callv (A1 := tu_A ad) (a := (as.map (tu_vl ad)).toArray) (va_runS (cc := cc) (nL := nL) (Ts := tu_tb) (own := own) (As := as.map (tu_vl ad)) (rest := st.map (tu_vl ad)) ⟨hx, hb, hml, hown, hts⟩ (hM l g ad) ⟨tu_cB hts hco hini hl0 hd3 hr, hts _ hstt⟩ ⟨tu_blind, tu_pre (av := as) hK hI hst hP hS⟩ rfl (by simpa using hn) hl.1 rfl (tu_room st ad hlen) hd ⟨by omega, by omega⟩) hS (fun q _ h => h) (fun q h => h) (fun M' t H1 locs1 ht hvm hpost hB hz hk hS1 => ?_)
  obtain ⟨hP1, -, -, -⟩ := hB
  rw [ht] at hP1
  exact kk M' hpost H1 locs1 ls hP1 hS1 hl
end TC
