/-! A GROWING WORLD: n cells are made, side by side from the address ad 0 on; a field (or a place of a row of books) that is still null has 0 in the memory -/
def tv_fv (ad : Nat → Nat) (row : Nat → Int) : Nat → List (Option Nat) → List Value
  | _, [] => []
  | k, none :: t => .int (tu_J (row k)) :: tv_fv ad row (k + 1) t
  | k, some j :: t => (if row k = 0 then .null else .ref (ad j)) :: tv_fv ad row (k + 1) t
def tv_ce (g : tu_G) (ad : Nat → Nat) (row : Nat → Int) (s : tu_S) : va_E := match s with
  | (0, n, _) => .inl (g.2.1, n, .inl (fun j => tu_J (row j)))
  | (1, n, _) => .inl (g.2.2.1, n, .inl (fun j => tu_J (row j)))
  | (2, n, _) => .inl (g.2.2.2.1, n, .inl (fun j => tu_J (row j)))
  | (3, n, _) => .inl (g.2.2.2.2, n, .inr (.inr (.inr (.inr (fun j => if row j = 0 then none else some (ad (row j).toNat))))))
  | (_, c, fs) => .inr (c, tv_fv ad row 0 fs)
def tv_ws (g : tu_G) (ad : Nat → Nat) (n : Nat) (M : tu_M) : va_W := (List.range n).map fun i => (ad i, tv_ce g ad (M i) (tu_sh i))
def tv_A (ad : Nat → Nat) : Nat → Prop := fun q => ad 0 ≤ q
def tv_ad (ad : Nat → Nat) : Prop := ∀ i, i < 92 → ad i = ad 0 + i
theorem tv_inj {ad : Nat → Nat} (h : tv_ad ad) : tu_inj ad := fun i j hi hj e => by
  have a := h i hi; have b := h j hj; omega
theorem tv_ws_at {g : tu_G} {ad : Nat → Nat} {M : tu_M} {n i : Nat} (h : i < n) : (tv_ws g ad n M)[i]? = some (ad i, tv_ce g ad (M i) (tu_sh i)) := by
  simp [tv_ws, h]
theorem tv_ws_no {g : tu_G} {ad : Nat → Nat} {M : tu_M} {n i : Nat} (h : ¬ i < n) : (tv_ws g ad n M)[i]? = none := by
  apply List.getElem?_eq_none
  simp [tv_ws]; omega
theorem tv_ws_set {g : tu_G} {ad : Nat → Nat} {M : tu_M} {n i : Nat} (f : Nat → Int) {e : va_E} (he : tv_ce g ad f (tu_sh i) = e) : (tv_ws g ad n M).set i (ad i, e) = tv_ws g ad n (tu_row M i f) := by
  apply List.ext_getElem?
  intro j
  by_cases hj : j < n
  · by_cases h : i = j
    · subst h
      rw [List.getElem?_set_self (by simp [tv_ws]; omega), tv_ws_at hj, tu_row_s, he]
    · rw [List.getElem?_set_ne h, tv_ws_at hj, tv_ws_at hj, tu_row_n _ _ (Ne.symm h)]
  · rw [tv_ws_no hj]
    apply List.getElem?_eq_none
    simp [tv_ws]; omega
theorem tv_ws_push {g : tu_G} {ad : Nat → Nat} {M : tu_M} {n : Nat} (f : Nat → Int) : tv_ws g ad (n + 1) (tu_row M n f) = tv_ws g ad n M ++ [(ad n, tv_ce g ad f (tu_sh n))] := by
  unfold tv_ws
  rw [List.range_succ, List.map_append]
  congr 1
  · apply List.map_congr_left
    intro i hi
    rw [tu_row_n]
    exact Nat.ne_of_lt (List.mem_range.mp hi)
  · simp [tu_row_s]
theorem tv_D {g : tu_G} {ad : Nat → Nat} {M : tu_M} {n : Nat} (h : tv_ad ad) (hn : n ≤ 92) : va_D (tv_A ad) (tv_ws g ad n M) := by
  have lt : ∀ {i : Nat} {q : Nat × va_E}, (tv_ws g ad n M)[i]? = some q → i < n ∧ q.1 = ad i := fun {i q} hq => by
    have a := (List.getElem?_eq_some_iff.mp hq).1
    have a : i < n := by simpa [tv_ws] using a
    rw [tv_ws_at a] at hq
    cases hq
    exact ⟨a, rfl⟩
  refine ⟨fun i j p q hi hj e => ?_, fun k q hk => ?_⟩
  · have a := lt hi; have b := lt hj
    exact tv_inj h i j (by omega) (by omega) (by rw [← a.2, ← b.2, e])
  · have a := lt hk
    have b := h k (by omega)
    show ad 0 ≤ q.1
    rw [a.2]; omega
theorem tv_fv_i {ad : Nat → Nat} {row : Nat → Int} : ∀ {fs : List (Option Nat)} {k j : Nat}, fs[k]? = some none → (tv_fv ad row j fs)[k]? = some (.int (tu_J (row (j + k))))
  | [], k, j, h => by simp at h
  | none :: t, 0, j, _ => rfl
  | some a :: t, 0, j, h => by cases h
  | none :: t, k + 1, j, h => by
    have := tv_fv_i (ad := ad) (row := row) (fs := t) (k := k) (j := j + 1) h
    simpa [tv_fv, Nat.add_assoc, Nat.add_comm 1 k] using this
  | some a :: t, k + 1, j, h => by
    have := tv_fv_i (ad := ad) (row := row) (fs := t) (k := k) (j := j + 1) h
    simpa [tv_fv, Nat.add_assoc, Nat.add_comm 1 k] using this
theorem tv_fv_r {ad : Nat → Nat} {row : Nat → Int} {r : Nat} : ∀ {fs : List (Option Nat)} {k j : Nat}, fs[k]? = some (some r) → row (j + k) ≠ 0 → (tv_fv ad row j fs)[k]? = some (.ref (ad r))
  | [], k, j, h, _ => by simp at h
  | none :: t, 0, j, h, _ => by cases h
  | some a :: t, 0, j, h, hr => by
    cases h
    have hr : row j ≠ 0 := hr
    simp [tv_fv, hr]
  | none :: t, k + 1, j, h, hr => by
    have := tv_fv_r (ad := ad) (row := row) (r := r) (fs := t) (k := k) (j := j + 1) h (by rw [show j + 1 + k = j + (k + 1) by omega]; exact hr)
    simpa [tv_fv] using this
  | some a :: t, k + 1, j, h, hr => by
    have := tv_fv_r (ad := ad) (row := row) (r := r) (fs := t) (k := k) (j := j + 1) h (by rw [show j + 1 + k = j + (k + 1) by omega]; exact hr)
    simpa [tv_fv] using this
theorem tv_fv_n {ad : Nat → Nat} {row row' : Nat → Int} : ∀ {fs : List (Option Nat)} {j : Nat}, (∀ k, j ≤ k → row' k = row k) → tv_fv ad row' j fs = tv_fv ad row j fs
  | [], j, h => rfl
  | none :: t, j, h => by
    have := tv_fv_n (ad := ad) (row := row) (row' := row') (fs := t) (j := j + 1) (fun k hk => h k (by omega))
    simp [tv_fv, this, h j (Nat.le_refl _)]
  | some a :: t, j, h => by
    have := tv_fv_n (ad := ad) (row := row) (row' := row') (fs := t) (j := j + 1) (fun k hk => h k (by omega))
    simp [tv_fv, this, h j (Nat.le_refl _)]
theorem tv_fv_s {ad : Nat → Nat} {row : Nat → Int} {x : Int} : ∀ {fs : List (Option Nat)} {k j : Nat}, fs[k]? = some none → (tv_fv ad row j fs).set k (.int (tu_J x)) = tv_fv ad (tu_u row (j + k) x) j fs
  | [], k, j, h => by simp at h
  | none :: t, 0, j, _ => by
    have := tv_fv_n (ad := ad) (row := row) (row' := tu_u row j x) (fs := t) (j := j + 1) (fun k hk => tu_u_n _ _ (by omega))
    simp [tv_fv, this, tu_u_s]
  | some a :: t, 0, j, h => by cases h
  | none :: t, k + 1, j, h => by
    have := tv_fv_s (ad := ad) (row := row) (x := x) (fs := t) (k := k) (j := j + 1) h
    rw [show j + 1 + k = j + (k + 1) by omega] at this
    simp [tv_fv, this, tu_u_n row (k := j + (k + 1)) (j := j) x (by omega)]
  | some a :: t, k + 1, j, h => by
    have := tv_fv_s (ad := ad) (row := row) (x := x) (fs := t) (k := k) (j := j + 1) h
    rw [show j + 1 + k = j + (k + 1) by omega] at this
    simp [tv_fv, this, tu_u_n row (k := j + (k + 1)) (j := j) x (by omega)]
theorem tv_fv_sr {ad : Nat → Nat} {row : Nat → Int} {r : Nat} : ∀ {fs : List (Option Nat)} {k j : Nat}, fs[k]? = some (some r) → (tv_fv ad row j fs).set k (.ref (ad r)) = tv_fv ad (tu_u row (j + k) 1) j fs
  | [], k, j, h => by simp at h
  | none :: t, 0, j, h => by cases h
  | some a :: t, 0, j, h => by
    cases h
    have := tv_fv_n (ad := ad) (row := row) (row' := tu_u row j 1) (fs := t) (j := j + 1) (fun k hk => tu_u_n _ _ (by omega))
    simp [tv_fv, this, tu_u_s]
  | none :: t, k + 1, j, h => by
    have := tv_fv_sr (ad := ad) (row := row) (r := r) (fs := t) (k := k) (j := j + 1) h
    rw [show j + 1 + k = j + (k + 1) by omega] at this
    simp [tv_fv, this, tu_u_n row (k := j + (k + 1)) (j := j) 1 (by omega)]
  | some a :: t, k + 1, j, h => by
    have := tv_fv_sr (ad := ad) (row := row) (r := r) (fs := t) (k := k) (j := j + 1) h
    rw [show j + 1 + k = j + (k + 1) by omega] at this
    simp [tv_fv, this, tu_u_n row (k := j + (k + 1)) (j := j) 1 (by omega)]
theorem tv_fv_l {ad : Nat → Nat} {row : Nat → Int} : ∀ {fs : List (Option Nat)} {j : Nat}, (tv_fv ad row j fs).length = fs.length
  | [], j => rfl
  | none :: t, j => by simp [tv_fv, tv_fv_l (fs := t)]
  | some a :: t, j => by simp [tv_fv, tv_fv_l (fs := t)]
theorem tv_ce4 {g : tu_G} {ad : Nat → Nat} {row : Nat → Int} {s : tu_S} {c : Nat} {fs : List (Option Nat)} (h : s = (4, c, fs)) : tv_ce g ad row s = .inr (c, tv_fv ad row 0 fs) := by subst h; rfl
theorem tv_ce0 {g : tu_G} {ad : Nat → Nat} {row : Nat → Int} {s : tu_S} {n : Nat} (h : s = (0, n, [])) : tv_ce g ad row s = .inl (g.2.1, n, .inl (fun j => tu_J (row j))) := by subst h; rfl
theorem tv_ce1 {g : tu_G} {ad : Nat → Nat} {row : Nat → Int} {s : tu_S} {n : Nat} (h : s = (1, n, [])) : tv_ce g ad row s = .inl (g.2.2.1, n, .inl (fun j => tu_J (row j))) := by subst h; rfl
theorem tv_ce2 {g : tu_G} {ad : Nat → Nat} {row : Nat → Int} {s : tu_S} {n : Nat} (h : s = (2, n, [])) : tv_ce g ad row s = .inl (g.2.2.2.1, n, .inl (fun j => tu_J (row j))) := by subst h; rfl
theorem tv_ce3 {g : tu_G} {ad : Nat → Nat} {row : Nat → Int} {s : tu_S} {n : Nat} (h : s = (3, n, [])) : tv_ce g ad row s = .inl (g.2.2.2.2, n, .inr (.inr (.inr (.inr (fun j => if row j = 0 then none else some (ad (row j).toNat)))))) := by subst h; rfl
/-- a new cell -/
theorem tv_push {g : tu_G} {ad : Nat → Nat} {n : Nat} {M : tu_M} {H H1 : Heap} {e : va_E} (hP : va_P g.1 tu_cs (tv_ws g ad n M) H) (ho : ∀ q, q < H.size → H1[q]? = H[q]?) (he : tv_ce g ad (fun _ => 0) (tu_sh n) = e) (hat : va_at g.1 tu_cs (ad n, e) H1) : va_P g.1 tu_cs (tv_ws g ad (n + 1) (tu_row M n (fun _ => 0))) H1 := by
  rw [tv_ws_push, he]
  refine (hP.kept (fun k x hx => ho x.1 ((hP k x hx).lt))).app (fun k x hx => ?_)
  have hz : k < 1 := (List.getElem?_eq_some_iff.mp hx).1
  rw [show k = 0 by omega] at hx
  cases hx
  exact hat
/-- the first settings -/
def tu_f0 (j : Nat) : Int := match j with
  | 0 => 3
  | 1 => 1
  | 2 => 3
  | _ => 7
def tv_Sa (ad : Nat → Nat) (U : State) (H : Heap) : Prop :=
  (va_Z RX3 "LEAST_VALUES" "[I" (.ref (ad 97)) (tv_A ad) U H ∧ va_T .int (ad 97) 4 (fun j => .int (tu_J (tu_f1 j))) (tv_A ad) U H) ∧
  (va_Z RX3 "GREATEST_VALUES" "[I" (.ref (ad 98)) (tv_A ad) U H ∧ va_T .int (ad 98) 4 (fun j => .int (tu_J (tu_f2 j))) (tv_A ad) U H) ∧
  (va_Z RX3 "FIRST_VALUES" "[I" (.ref (ad 99)) (tv_A ad) U H ∧ va_T .int (ad 99) 4 (fun j => .int (tu_J (tu_f0 j))) (tv_A ad) U H)
theorem tv_Sa.moved {ad : Nat → Nat} {u U : State} {H : Heap} (hvm : u.vm.Alike U.vm) (h : tv_Sa ad u H) : tv_Sa ad U H :=
  ⟨⟨h.1.1.moved hvm, h.1.2.moved hvm⟩, ⟨h.2.1.1.moved hvm, h.2.1.2.moved hvm⟩, ⟨h.2.2.1.moved hvm, h.2.2.2.moved hvm⟩⟩
theorem tv_Sa.kept {ad : Nat → Nat} {U : State} {H H1 : Heap} (h : tv_Sa ad U H) (hq : ∀ a : Nat, a < H.size → ¬ tv_A ad a → H1[a]? = H[a]?) : tv_Sa ad U H1 :=
  ⟨⟨h.1.1.kept hq, h.1.2.kept hq⟩, ⟨h.2.1.1.kept hq, h.2.1.2.kept hq⟩, ⟨h.2.2.1.kept hq, h.2.2.2.kept hq⟩⟩
/-- the words of nest mates, and the row of books -/
def tv_Nw (U : State) : Prop := va_Nw (.fieldLinkNest RX0 46 RX3 "FIRST_VALUES" "[I" RX3) U ∧ va_Nw (.methodLinkNest RX3 18 yX2_init RX3) U ∧ va_Nw (.methodLinkNest RX3 25 yX1_init RX3) U ∧ va_AO RX0 U
theorem tv_Nw.warm {s U : State} (hW : s.WarmedH U.vm) (h : tv_Nw s) : tv_Nw U := ⟨va_Nw.warmF hW h.1, va_Nw.warmM hW h.2.1, va_Nw.warmM hW h.2.2.1, va_AO.moved hW.alike h.2.2.2⟩
theorem tv_Nw.call {s : State} {f : JFrame} {mk : MethodId} {a : Array Value} (h : tv_Nw s) : tv_Nw (s.calling f mk a) := ⟨va_Nw.same rfl rfl h.1, va_Nw.same rfl rfl h.2.1, va_Nw.same rfl rfl h.2.2.1, va_AO.moved (Vm.Alike.refl s.vm) h.2.2.2⟩
def tv_Wo (g : tu_G) (ad : Nat → Nat) (n : Nat) (M : tu_M) (U : State) : Prop := va_P g.1 tu_cs (tv_ws g ad n M) U.heap ∧ va_K g.1 tu_cs (tu_ty g) U ∧ U.heap.size = ad 0 + n ∧ tv_ad ad ∧ tv_Sa ad U U.heap ∧ tv_Nw U
abbrev tv_T : Type := Program × Launch × Env × Room × State × MethodId × Array Value × List Frame × Method × Code × Nat × tu_G × (Nat → Nat) × (State → Prop)
/-- the machine, at a place of the code, with n cells made (kc of them by this method, of ks places), comes to a state with the goal -/
def tv_W (T : tv_T) (n kc ks : Nat) (pc : Nat) (lv : List (Nat × tu_v)) (st : List tu_v) (M : tu_M) : Prop := match T with
  | (p, l, e, R, s, m, args, below, meth, c, nL, g, ad, Q) => ∀ (H : Heap) (locs : List Loc) (ls : Array Slot), va_P g.1 tu_cs (tv_ws g ad n M) H → H.size = ad 0 + n → va_S (tv_A ad) s.heap H locs → lv_has ls nL (lv.map fun q => (q.1, tu_vl ad q.2)) → W p l e R s m args below meth c H locs kc ks Q (F0 m pc ls (st.map (tu_vl ad)))
/-- what stays all through a method -/
def tv_X (T : tv_T) (cc : ByteArray) (own : String) (fr lo mc ms : Nat) : Prop := match T with
  | (p, _, _, R, s, m, args, _, _, c, nL, g, ad, _) => p.tables.exec = Jvm.exec ∧ c.code = cc ∧ c.maxLocals = nL ∧ s.vm.findClass own = some m.cls ∧ (∀ w ∈ tu_tb, w.before args s = true) ∧ va_K g.1 tu_cs (tu_ty g) s ∧ tv_Sa ad s s.heap ∧ tv_Nw s ∧ tv_ad ad ∧ ad 0 ≤ s.heap.size ∧ fr ≤ R.frames ∧ lo ≤ R.locals ∧ mc ≤ R.cells ∧ ms ≤ R.slots
/-! contracts of constructors: name, code, locals, room: frames, locals, cells, slots -/
abbrev tv_Y : Type := MethodName × ByteArray × Nat × Nat × Nat × Nat × Nat
def tv_wd (Y : tv_Y) : List Cond := Cond.code Y.1 Y.2.1 Y.2.2.1 none :: tu_tb
def tv_rm (Y : tv_Y) : Room := { frames := Y.2.2.2.1, cells := Y.2.2.2.2.2.1, slots := Y.2.2.2.2.2.2, locals := Y.2.2.2.2.1 }
def tv_Pr (g : tu_G) (ad : Nat → Nat) (b n : Nat) (M : tu_M) : Array Value → State → Prop := va_Pc [.ref (ad b)] (fun U => tv_Wo g ad n M U)
def tv_MV (Y : tv_Y) (b n n' : Nat) (M : tu_M) (post : tu_M → Prop) : Prop := ∀ (l : Launch) (g : tu_G) (ad : Nat → Nat), Met l Y.1 (tv_wd Y) (tv_rm Y) (tv_Pr g ad b n M) (va_Qv post (fun M' t => tv_Wo g ad n' M' t) (tv_A ad)) Y.2.2.2.2.2.1 Y.2.2.2.2.2.2 (tv_A ad)
def tv_R (T : tv_T) (cc : ByteArray) (n mc ms : Nat) (post : tu_M → Prop) : Prop := ∀ (kc ks pc : Nat) (lv : List (Nat × tu_v)) (M : tu_M), decode cc pc = .ok (.return_, 1) → kc ≤ mc → ks ≤ ms → post M → tv_W T n kc ks pc lv [] M
def tv_nm (T : tv_T) : Prop := T.2.2.2.2.2.2.2.2.1.name = "<init>"
theorem tv_MV.of {Y : tv_Y} {b n n' : Nat} {M : tu_M} {post : tu_M → Prop} (hy : plainName Y.1.cls = true) (hn : Y.1.name = "<init>") (h1 : 1 ≤ Y.2.2.1)
    (body : ∀ T : tv_T, tv_X T Y.2.1 Y.1.cls Y.2.2.2.1 Y.2.2.2.2.1 Y.2.2.2.2.2.1 Y.2.2.2.2.2.2 → T.2.2.2.2.2.2.2.2.2.2.1 = Y.2.2.1 → tv_nm T → tv_R T Y.2.1 n' Y.2.2.2.2.2.1 Y.2.2.2.2.2.2 post → tv_W T n 0 0 0 [(0, tu_r b)] [] M) : tv_MV Y b n n' M post := by
  intro l g ad
  refine Met.ofW (cc := Y.2.1) (maxL := Y.2.2.1) (ret := none) hy rfl ?_
  intro p e s m args below meth c s₁ B hml hv
  obtain ⟨rfl, hP, hK, hz, had, hsa, hnw⟩ := hv
  have hts : ∀ w ∈ tu_tb, w.before ([Value.ref (ad b)] : List Value).toArray s = true := fun w hw => atoms_spec (ws := tv_wd Y) B.pre w (List.mem_cons_of_mem _ hw)
  have hl := lv_entry [Value.ref (ad b)] (n := Y.2.2.1) (by exact h1)
  rw [lg_entry_eq]
  refine body (p, l, e, (headSpec (tv_wd Y) (tv_rm Y)).room, s, m, ([Value.ref (ad b)] : List Value).toArray, below, meth, c, Y.2.2.1, g, ad, _) ⟨B.exec, B.bytes, hml, findClass_of_methodNamed B.named, hts, hK, hsa, hnw, had, by omega, Nat.le_refl _, Nat.le_refl _, Nat.le_refl _, Nat.le_refl _⟩ rfl ((name_of_methodNamed B.named B.method).1.trans hn) ?_ s.heap [] _ hP hz va_S.rf hl
  intro kc ks pc lv M' hd hkc hks hpost H locs ls hP' hz' hS' hl'
  refine W.widen (k := Y.2.2.2.2.2.1) (n := Y.2.2.2.2.2.2) hkc hks ?_
  refine W.vret B.exec B.bytes B.returns (fun t ht hW => ⟨⟨M', rfl, hpost, ?_, ?_, ?_, had, ?_, ?_⟩, hS'.F ht⟩) hS'.2.2 hd B.notSynchronized
  · rw [ht]; exact hP'
  · exact va_K.moved hW.alike hK
  · rw [ht]; exact hz'
  · refine tv_Sa.kept (H := s.heap) (hsa.moved hW.alike) (fun a h1 h2 => ?_)
    rw [ht]; exact hS'.2.1 a h1 h2
  · exact hnw.warm hW
theorem tv_gd {Y : tv_Y} (hc : Cond.code Y.1 Y.2.1 Y.2.2.1 none ∈ tu_tb) : GoodIn tu_tb (tv_wd Y) := by
  intro w hw
  rcases List.mem_cons.mp hw with rfl | hw
  · exact ⟨hc, tu_tb_good _ hc⟩
  · exact ⟨hw, tu_tb_good _ hw⟩
theorem tv_blind {g : tu_G} {ad : Nat → Nat} {b n : Nat} {M : tu_M} : FrameBlind (tv_Pr g ad b n M) := by
  intro a U f mk h
  obtain ⟨h1, h2, h3, h4, h5, h6, h7⟩ := h
  exact ⟨h1, h2, va_K.moved (u := U) (U := U.calling f mk a) (Vm.Alike.refl U.vm) h3, h4, h5, tv_Sa.moved (u := U) (U := U.calling f mk a) (Vm.Alike.refl U.vm) h6, h7.call⟩
theorem tv_pre {g : tu_G} {ad : Nat → Nat} {M : tu_M} {s : State} {H : Heap} {locs : List Loc} {b n : Nat} (hK : va_K g.1 tu_cs (tu_ty g) s) (had : tv_ad ad) (hsa : tv_Sa ad s s.heap) (hnw : tv_Nw s) (hP : va_P g.1 tu_cs (tv_ws g ad n M) H) (hz : H.size = ad 0 + n) (hS : va_S (tv_A ad) s.heap H locs) : ∀ U : State, U.heap = H → s.WarmedH U.vm → tv_Pr g ad b n M [Value.ref (ad b)].toArray U := by
  intro U hU hW
  refine ⟨rfl, by rw [hU]; exact hP, va_K.moved hW.alike hK, by rw [hU]; exact hz, had, tv_Sa.kept (H := s.heap) (hsa.moved hW.alike) (fun a h1 h2 => ?_), hnw.warm hW⟩
  rw [hU]; exact hS.2.1 a h1 h2
/-- a class that can be made: its place in the constant pool, the class's place, its fields' number and kinds -/
def tv_cl (own : String) (idx ci N : Nat) (fs : List (Option Nat)) : Prop := ∃ (C : String) (TT : u_T) (ty : Nat → FieldType), tu_cs[ci]? = some (C, TT, N) ∧ (∀ w ∈ u_ws C TT N, w ∈ tu_tb) ∧ (∀ k, k < N → parseFieldDescriptor (TT k).2.2.1 = some (ty k)) ∧ Cond.classLink own idx C ∈ tu_tb ∧ Cond.instantiable C N ∈ tu_tb ∧ Cond.initialized C ∈ tu_tb ∧ ∀ (ad : Nat → Nat) (j : Nat), j < N → defaultValue (ty j) = vp_V (tv_fv ad (fun _ => 0) 0 fs) j
/-- a final field that holds a reference -/
def tv_fF (own : String) (idx ci k : Nat) : Prop := ∃ (C : String) (TT : u_T) (N : Nat) (ty : FieldType), tu_cs[ci]? = some (C, TT, N) ∧ k < N ∧ (∀ w ∈ u_ws C TT N, w ∈ tu_tb) ∧ Cond.fieldLink own idx (TT k).1 (TT k).2.1 (TT k).2.2.1 ∈ tu_tb ∧ (TT k).2.2.2 = true ∧ (TT k).1 = own ∧ parseFieldDescriptor (TT k).2.2.1 = some ty ∧ (∀ q : Nat, narrow ty (.ref q) = .ref q ∧ fits ty (.ref q) = true) ∧ (∃ ty0 : Nat → FieldType, ∀ j, j < N → parseFieldDescriptor (TT j).2.2.1 = some (ty0 j)) ∧ (∀ a, a < N → ∀ b, b < N → a ≠ b → (TT a).2.1 ≠ (TT b).2.1)
theorem tv_o1 : Cond.instanceMethod Lib.objectInit ∈ tu_tb := tu_tb_in 22 rfl rfl
theorem tv_o2 : Cond.code Lib.objectInit ⟨#[0xb1]⟩ 1 none ∈ tu_tb := tu_tb_in 23 (by decide +kernel) rfl
theorem tv_aI : Cond.arrayClass .int ∈ tu_tb := tu_tb_in 85 rfl rfl
theorem tv_aC : Cond.arrayClass .char ∈ tu_tb := tu_tb_in 101 rfl rfl
theorem tv_aZ : Cond.arrayClass .boolean ∈ tu_tb := tu_tb_in 174 rfl rfl
