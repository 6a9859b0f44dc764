/-! a memory may be replaced by one that is the same where the cells have places -/
def tu_sq (s : tu_S) (f g : Nat → Int) : Prop := match s with
  | (0, n, _) => ∀ j, j < n → f j = g j
  | (1, n, _) => ∀ j, j < n → f j = g j
  | (2, n, _) => ∀ j, j < n → f j = g j
  | (3, n, _) => ∀ j, j < n → f j = g j
  | (_, _, fs) => ∀ k, fs[k]? = some none → f k = g k
theorem tu_sq_r (s : tu_S) (f : Nat → Int) : tu_sq s f f := by
  obtain ⟨k, n, fs⟩ := s
  unfold tu_sq
  split <;> (intro _ _; rfl)
def tu_qv (M N : tu_M) : Prop := ∀ i, i < 92 → tu_sq (tu_sh i) (M i) (N i)
theorem tu_fv_q {ad : Nat → Nat} {f g : Nat → Int} : ∀ {fs : List (Option Nat)} {j : Nat}, (∀ k, fs[k]? = some none → f (j + k) = g (j + k)) → tu_fv ad f j fs = tu_fv ad g j fs
  | [], j, h => rfl
  | none :: t, j, h => by
    have h0 := h 0 rfl
    have ih := tu_fv_q (ad := ad) (f := f) (g := g) (fs := t) (j := j + 1) (fun k hk => by
      have := h (k + 1) hk
      rwa [show j + (k + 1) = j + 1 + k by omega] at this)
    simp only [tu_fv, ih]
    rw [show f j = g j from h0]
  | some a :: t, j, h => by
    have ih := tu_fv_q (ad := ad) (f := f) (g := g) (fs := t) (j := j + 1) (fun k hk => by
      have := h (k + 1) hk
      rwa [show j + (k + 1) = j + 1 + k by omega] at this)
    simp only [tu_fv, ih]
theorem tu_arr_q {c : ClassId} {n : Nat} {f g : Nat → Value} (h : ∀ j, j < n → f j = g j) : arrV c n f = arrV c n g := by
  have e : (fun j : Fin n => f j.val) = fun j : Fin n => g j.val := funext fun j => h j.val j.isLt
  unfold arrV
  rw [e]
theorem tu_at_q {g : tu_G} {ad : Nat → Nat} {f f' : Nat → Int} {s : tu_S} {a : Nat} {H : Heap} (hs : tu_sq s f f') (h : va_at g.1 tu_cs (a, tu_ce g ad f s) H) : va_at g.1 tu_cs (a, tu_ce g ad f' s) H := by
  obtain ⟨k, n, fs⟩ := s
  match k, hs, h with
  | 0, hs, h =>
    have e : arrV g.2.1 n (fun j => Value.int (tu_J (f j))) = arrV g.2.1 n (fun j => Value.int (tu_J (f' j))) := tu_arr_q fun j hj => by rw [hs j hj]
    show H[a]? = some (arrV g.2.1 n (fun j => Value.int (tu_J (f' j))))
    rw [← e]; exact h
  | 1, hs, h =>
    have e : arrV g.2.2.1 n (fun j => Value.int (tu_J (f j))) = arrV g.2.2.1 n (fun j => Value.int (tu_J (f' j))) := tu_arr_q fun j hj => by rw [hs j hj]
    show H[a]? = some (arrV g.2.2.1 n (fun j => Value.int (tu_J (f' j))))
    rw [← e]; exact h
  | 2, hs, h =>
    have e : arrV g.2.2.2.1 n (fun j => Value.int (tu_J (f j))) = arrV g.2.2.2.1 n (fun j => Value.int (tu_J (f' j))) := tu_arr_q fun j hj => by rw [hs j hj]
    show H[a]? = some (arrV g.2.2.2.1 n (fun j => Value.int (tu_J (f' j))))
    rw [← e]; exact h
  | 3, hs, h =>
    have e : arrV g.2.2.2.2 n (fun j => va_rf (some (ad (f j).toNat))) = arrV g.2.2.2.2 n (fun j => va_rf (some (ad (f' j).toNat))) := tu_arr_q fun j hj => by rw [hs j hj]
    show H[a]? = some (arrV g.2.2.2.2 n (fun j => va_rf (some (ad (f' j).toNat))))
    rw [← e]; exact h
  | k + 4, hs, h =>
    have e : tu_fv ad f 0 fs = tu_fv ad f' 0 fs := tu_fv_q fun k hk => by rw [Nat.zero_add]; exact hs k hk
    show va_at g.1 tu_cs (a, .inr (n, tu_fv ad f' 0 fs)) H
    rw [← e]; exact h
theorem tu_ext {T : tu_T} {pc : Nat} {lv : List (Nat × tu_v)} {st : List tu_v} {M N : tu_M} (h : tu_qv M N) (kk : tu_W T pc lv st N) : tu_W T pc lv st M := by
  obtain ⟨p, l, e, R, s, m, args, below, meth, c, nL, g, ad, kc, ks, Q⟩ := T
  intro H locs ls hP hS hl
  refine kk H locs ls (fun k q hk => ?_) hS hl
  have hk97 : k < 92 := by
    have := (List.getElem?_eq_some_iff.mp hk).1
    simpa [tu_ws] using this
  rw [tu_ws_at hk97] at hk
  cases hk
  exact tu_at_q (h k hk97) (hP k _ (tu_ws_at hk97))
