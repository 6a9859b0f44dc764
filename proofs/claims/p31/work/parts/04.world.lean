/-! the cells of the object and of the law, in the order in which they are made: kind (0 ints, 1 chars, 2 booleans, 3 books, 4 an object), length or class, fields -/
abbrev tu_S : Type := Nat × Nat × List (Option Nat)
def tu_bk (b : Nat) (f : Nat) : tu_S := match f with
  | 0 => (4, 0, [some (b+1), none, some (b+2), some (b+3), none, some (b+4), some (b+5), none, some (b+6), none, some (b+7)])
  | 1 => (0, 4, [])
  | 2 => (0, 16, [])
  | 3 => (0, 256, [])
  | 4 => (0, 8, [])
  | 5 => (0, 192, [])
  | 6 => (0, 40, [])
  | _ => (0, 8, [])
def tu_sh (i : Nat) : tu_S := match i with
  | 0 => (4, 3, [some 1, some 9, some 11, some 19, none, some 20, some 21])
  | 9 => (4, 2, [some 10, none])
  | 10 => (1, 60, [])
  | 11 => (4, 1, [none, none, none, none, none, none, some 12, some 13, some 14, some 15, some 16, some 17, some 18])
  | 12 => (0, 16, [])
  | 13 => (0, 24, [])
  | 14 => (0, 25, [])
  | 15 => (0, 425, [])
  | 16 => (0, 425, [])
  | 17 => (0, 16, [])
  | 18 => (0, 16, [])
  | 19 => (3, 6, [])
  | 20 => (3, 2, [])
  | 21 => (2, 2, [])
  | 86 => (0, 12, [])
  | 87 => (0, 12, [])
  | 88 => (0, 40, [])
  | 89 => (0, 8, [])
  | 90 => (0, 8, [])
  | 91 => (0, 24, [])
  | i => bif Nat.blt i 9 then tu_bk 1 (i - 1) else tu_bk (22 + 8 * ((i - 22) / 8)) ((i - 22) % 8)
def tu_B (b : Nat) : Prop := b = 1 ∨ ∃ k, k < 8 ∧ b = 22 + 8 * k
theorem tu_sh_bk {b f : Nat} (h : tu_B b) (hf : f < 8) : tu_sh (b + f) = tu_bk b f := by
  rcases h with rfl | ⟨k, hk, rfl⟩
  · rcases (show f = 0 ∨ f = 1 ∨ f = 2 ∨ f = 3 ∨ f = 4 ∨ f = 5 ∨ f = 6 ∨ f = 7 by omega) with rfl | rfl | rfl | rfl | rfl | rfl | rfl | rfl <;> rfl
  · rcases (show k = 0 ∨ k = 1 ∨ k = 2 ∨ k = 3 ∨ k = 4 ∨ k = 5 ∨ k = 6 ∨ k = 7 by omega) with rfl | rfl | rfl | rfl | rfl | rfl | rfl | rfl <;> rcases (show f = 0 ∨ f = 1 ∨ f = 2 ∨ f = 3 ∨ f = 4 ∨ f = 5 ∨ f = 6 ∨ f = 7 by omega) with rfl | rfl | rfl | rfl | rfl | rfl | rfl | rfl <;> rfl
theorem tu_B_lt {b f : Nat} (h : tu_B b) (hf : f < 8) : b + f < 92 := by
  rcases h with rfl | ⟨k, hk, rfl⟩ <;> omega
/-- the words of the tables that every state of a run keeps -/
def tu_tb : List Cond := lw_tbl.filter goodWord
theorem tu_tb_in {w : Cond} (i : Nat) (h : lw_tbl[i]? = some w) (hg : goodWord w = true) : w ∈ tu_tb := List.mem_filter.mpr ⟨List.mem_of_getElem? h, hg⟩
theorem tu_tb_good : ∀ w ∈ tu_tb, (w.onTables && w.keeps) = true ∨ ∃ ty, w = .arrayClass ty := fun w h => good_of_word (List.mem_filter.mp h).2
abbrev tu_G : Type := va_G × ClassId × ClassId × ClassId × ClassId
abbrev tu_cs : List vw_C := [(RX0, TX0, 11), (RX1, TX1, 13), (RX2, TX2, 2), (RX3, TX3, 7)]
abbrev tu_ty (g : tu_G) : List (ClassId × FieldType) := [(g.2.1, .int), (g.2.2.1, .char), (g.2.2.2.1, .boolean), (g.2.2.2.2, .object RX0)]
def tu_fv (ad : Nat → Nat) (row : Nat → Int) : Nat → List (Option Nat) → List Value
  | _, [] => []
  | k, none :: t => .int (tu_J (row k)) :: tu_fv ad row (k + 1) t
  | k, some j :: t => .ref (ad j) :: tu_fv ad row (k + 1) t
def tu_ce (g : tu_G) (ad : Nat → Nat) (row : Nat → Int) (s : tu_S) : va_E := match s with
  | (0, n, _) => .inl (g.2.1, n, .inl (fun j => tu_J (row j)))
  | (1, n, _) => .inl (g.2.2.1, n, .inl (fun j => tu_J (row j)))
  | (2, n, _) => .inl (g.2.2.2.1, n, .inl (fun j => tu_J (row j)))
  | (3, n, _) => .inl (g.2.2.2.2, n, .inr (.inr (.inr (.inr (fun j => some (ad (row j).toNat))))))
  | (_, c, fs) => .inr (c, tu_fv ad row 0 fs)
def tu_ws (g : tu_G) (ad : Nat → Nat) (M : tu_M) : va_W := (List.range 92).map fun i => (ad i, tu_ce g ad (M i) (tu_sh i))
theorem tu_ws_at {g : tu_G} {ad : Nat → Nat} {M : tu_M} {i : Nat} (h : i < 92) : (tu_ws g ad M)[i]? = some (ad i, tu_ce g ad (M i) (tu_sh i)) := by
  simp [tu_ws, h]
theorem tu_ws_set {g : tu_G} {ad : Nat → Nat} {M : tu_M} {i : Nat} (f : Nat → Int) {e : va_E} (he : tu_ce g ad f (tu_sh i) = e) : (tu_ws g ad M).set i (ad i, e) = tu_ws g ad (tu_row M i f) := by
  apply List.ext_getElem?
  intro j
  by_cases hj : j < 92
  · by_cases h : i = j
    · subst h
      rw [List.getElem?_set_self (by simp [tu_ws]; omega), tu_ws_at hj, tu_row_s, he]
    · rw [List.getElem?_set_ne h, tu_ws_at hj, tu_ws_at hj, tu_row_n _ _ (Ne.symm h)]
  · have h1 : ∀ M, (tu_ws g ad M)[j]? = none := fun M => by simp [tu_ws]; omega
    rw [h1]
    apply List.getElem?_eq_none
    simp [tu_ws]; omega
def tu_A (ad : Nat → Nat) : Nat → Prop := fun q => ∃ i, i < 92 ∧ q = ad i
def tu_inj (ad : Nat → Nat) : Prop := ∀ i j, i < 92 → j < 92 → ad i = ad j → i = j
theorem tu_D {g : tu_G} {ad : Nat → Nat} {M : tu_M} (h : tu_inj ad) : va_D (tu_A ad) (tu_ws g ad M) := by
  have lt : ∀ {i : Nat} {q : Nat × va_E}, (tu_ws g ad M)[i]? = some q → i < 92 := fun {i q} hq => by
    have := (List.getElem?_eq_some_iff.mp hq).1
    simpa [tu_ws] using this
  refine ⟨fun i j p q hi hj e => ?_, fun k q hk => ?_⟩
  · have a := lt hi; have b := lt hj
    rw [tu_ws_at a] at hi; rw [tu_ws_at b] at hj
    cases hi; cases hj
    exact h i j a b e
  · have a := lt hk
    rw [tu_ws_at a] at hk
    cases hk
    exact ⟨k, a, rfl⟩
theorem tu_fv_i {ad : Nat → Nat} {row : Nat → Int} : ∀ {fs : List (Option Nat)} {k j : Nat}, fs[k]? = some none → (tu_fv ad row j fs)[k]? = some (.int (tu_J (row (j + k))))
  | [], k, j, h => by simp at h
  | none :: t, 0, j, _ => rfl
  | some a :: t, 0, j, h => by cases h
  | none :: t, k + 1, j, h => by
    have := tu_fv_i (ad := ad) (row := row) (fs := t) (k := k) (j := j + 1) h
    simpa [tu_fv, Nat.add_assoc, Nat.add_comm 1 k] using this
  | some a :: t, k + 1, j, h => by
    have := tu_fv_i (ad := ad) (row := row) (fs := t) (k := k) (j := j + 1) h
    simpa [tu_fv, Nat.add_assoc, Nat.add_comm 1 k] using this
theorem tu_fv_r {ad : Nat → Nat} {row : Nat → Int} {r : Nat} : ∀ {fs : List (Option Nat)} {k j : Nat}, fs[k]? = some (some r) → (tu_fv ad row j fs)[k]? = some (.ref (ad r))
  | [], k, j, h => by simp at h
  | none :: t, 0, j, h => by cases h
  | some a :: t, 0, j, h => by cases h; rfl
  | none :: t, k + 1, j, h => by
    have := tu_fv_r (ad := ad) (row := row) (r := r) (fs := t) (k := k) (j := j + 1) h
    simpa [tu_fv] using this
  | some a :: t, k + 1, j, h => by
    have := tu_fv_r (ad := ad) (row := row) (r := r) (fs := t) (k := k) (j := j + 1) h
    simpa [tu_fv] using this
theorem tu_fv_n {ad : Nat → Nat} {row row' : Nat → Int} : ∀ {fs : List (Option Nat)} {j : Nat}, (∀ k, j ≤ k → row' k = row k) → tu_fv ad row' j fs = tu_fv ad row j fs
  | [], j, h => rfl
  | none :: t, j, h => by
    have := tu_fv_n (ad := ad) (row := row) (row' := row') (fs := t) (j := j + 1) (fun k hk => h k (by omega))
    simp [tu_fv, this, h j (Nat.le_refl _)]
  | some a :: t, j, h => by
    have := tu_fv_n (ad := ad) (row := row) (row' := row') (fs := t) (j := j + 1) (fun k hk => h k (by omega))
    simp [tu_fv, this]
theorem tu_fv_s {ad : Nat → Nat} {row : Nat → Int} {x : Int} : ∀ {fs : List (Option Nat)} {k j : Nat}, fs[k]? = some none → (tu_fv ad row j fs).set k (.int (tu_J x)) = tu_fv ad (tu_u row (j + k) x) j fs
  | [], k, j, h => by simp at h
  | none :: t, 0, j, _ => by
    have := tu_fv_n (ad := ad) (row := row) (row' := tu_u row j x) (fs := t) (j := j + 1) (fun k hk => tu_u_n _ _ (by omega))
    simp [tu_fv, this, tu_u_s]
  | some a :: t, 0, j, h => by cases h
  | none :: t, k + 1, j, h => by
    have := tu_fv_s (ad := ad) (row := row) (x := x) (fs := t) (k := k) (j := j + 1) h
    rw [show j + 1 + k = j + (k + 1) by omega] at this
    simp [tu_fv, this, tu_u_n row (k := j + (k + 1)) (j := j) x (by omega)]
  | some a :: t, k + 1, j, h => by
    have := tu_fv_s (ad := ad) (row := row) (x := x) (fs := t) (k := k) (j := j + 1) h
    rw [show j + 1 + k = j + (k + 1) by omega] at this
    simp [tu_fv, this]
theorem tu_fv_l {ad : Nat → Nat} {row : Nat → Int} : ∀ {fs : List (Option Nat)} {j : Nat}, (tu_fv ad row j fs).length = fs.length
  | [], j => rfl
  | none :: t, j => by simp [tu_fv, tu_fv_l (fs := t)]
  | some a :: t, j => by simp [tu_fv, tu_fv_l (fs := t)]
theorem tu_ju (f : Nat → Int) (k : Nat) (x : Int) : upd (fun j => tu_J (f j)) k (tu_J x) = fun j => tu_J (tu_u f k x j) := by
  funext j
  by_cases h : j = k
  · subst h; simp [upd, tu_u_s]
  · simp [upd, h, tu_u_n]
/-! the two tables of set -/
def tu_f1 (j : Nat) : Int := match j with
  | 0 => 1
  | _ => 0
def tu_f2 (j : Nat) : Int := match j with
  | 0 => 8
  | 1 => 9
  | 2 => 9
  | _ => 20
/-- the script, which nobody writes -/
def tu_sx (ad : Nat → Nat) (U : State) (H : Heap) : Prop := ∃ (L : Nat) (xs : Nat → Int32), L ≤ 260 ∧ va_X (ad 100) L xs U H ∧ ¬ tu_A ad (ad 100)
theorem tu_sx.moved {ad : Nat → Nat} {u U : State} {H : Heap} (hvm : u.vm.Alike U.vm) (h : tu_sx ad u H) : tu_sx ad U H := by
  obtain ⟨L, xs, h1, h2, h3⟩ := h
  exact ⟨L, xs, h1, h2.moved hvm, h3⟩
theorem tu_sx.kept {ad : Nat → Nat} {U : State} {H H1 : Heap} (h : tu_sx ad U H) (hq : ∀ a : Nat, a < H.size → ¬ tu_A ad a → H1[a]? = H[a]?) : tu_sx ad U H1 := by
  obtain ⟨L, xs, h1, h2, h3⟩ := h
  obtain ⟨scr, h4, h5⟩ := id h2
  exact ⟨L, xs, h1, h2.kept (hq _ (Array.getElem?_eq_some_iff.mp h4).1 h3), h3⟩
def tu_st (ad : Nat → Nat) (U : State) (H : Heap) : Prop :=
  (va_Z RX3 "LEAST_VALUES" "[I" (.ref (ad 97)) (tu_A ad) U H ∧ va_T .int (ad 97) 4 (fun j => .int (tu_J (tu_f1 j))) (tu_A ad) U H) ∧
  (va_Z RX3 "GREATEST_VALUES" "[I" (.ref (ad 98)) (tu_A ad) U H ∧ va_T .int (ad 98) 4 (fun j => .int (tu_J (tu_f2 j))) (tu_A ad) U H ∧ tu_sx ad U H)
theorem tu_st.moved {ad : Nat → Nat} {u U : State} {H : Heap} (hvm : u.vm.Alike U.vm) (h : tu_st ad u H) : tu_st ad U H :=
  ⟨⟨h.1.1.moved hvm, h.1.2.moved hvm⟩, ⟨h.2.1.moved hvm, h.2.2.1.moved hvm, h.2.2.2.moved hvm⟩⟩
theorem tu_st.kept {ad : Nat → Nat} {U : State} {H H1 : Heap} (h : tu_st ad U H) (hq : ∀ a : Nat, a < H.size → ¬ tu_A ad a → H1[a]? = H[a]?) : tu_st ad U H1 :=
  ⟨⟨h.1.1.kept hq, h.1.2.kept hq⟩, ⟨h.2.1.kept hq, h.2.2.1.kept hq, h.2.2.2.kept hq⟩⟩
/-- what holds of a state between the calls -/
def tu_Wo (g : tu_G) (ad : Nat → Nat) (M : tu_M) (U : State) : Prop := va_P g.1 tu_cs (tu_ws g ad M) U.heap ∧ va_K g.1 tu_cs (tu_ty g) U ∧ tu_inj ad ∧ tu_st ad U U.heap
abbrev tu_T : Type := Program × Launch × Env × Room × State × MethodId × Array Value × List Frame × Method × Code × Nat × tu_G × (Nat → Nat) × Nat × Nat × (State → Prop)
/-- the machine, at a place of the code, comes to a state with the goal: for every heap that holds the memory M -/
def tu_W (T : tu_T) (pc : Nat) (lv : List (Nat × tu_v)) (st : List tu_v) (M : tu_M) : Prop := match T with
  | (p, l, e, R, s, m, args, below, meth, c, nL, g, ad, kc, ks, Q) => ∀ (H : Heap) (locs : List Loc) (ls : Array Slot), va_P g.1 tu_cs (tu_ws g ad M) H → va_S (tu_A ad) s.heap H locs → lv_has ls nL (lv.map fun q => (q.1, tu_vl ad q.2)) → W p l e R s m args below meth c H locs kc ks Q (F0 m pc ls (st.map (tu_vl ad)))
/-- what stays all through a method -/
def tu_X (T : tu_T) (cc : ByteArray) (own : String) (fr lo : Nat) : Prop := match T with
  | (p, _, _, R, s, m, args, _, _, c, nL, g, ad, kc, ks, _) => p.tables.exec = Jvm.exec ∧ c.code = cc ∧ c.maxLocals = nL ∧ s.vm.findClass own = some m.cls ∧ (∀ w ∈ tu_tb, w.before args s = true) ∧ va_K g.1 tu_cs (tu_ty g) s ∧ tu_inj ad ∧ tu_st ad s s.heap ∧ fr ≤ R.frames ∧ lo ≤ R.locals ∧ kc ≤ R.cells ∧ ks ≤ R.slots
