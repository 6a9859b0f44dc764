/-! a changed book is a book -/
theorem tu_BO.kset {B : Nat → Nat → Int} (h : tu_BO B) {a : Nat} {w : Int} (ha : a < 4) (h1 : tu_f1 a ≤ w) (h2 : w ≤ tu_f2 a) : tu_BO (tu_row B 1 (tu_u (B 1) a w)) := by
  obtain ⟨s0, s1, s2, s3⟩ := h.2.2.2.2.2.2.2
  refine ⟨h.1, h.2.1, h.2.2.1, h.2.2.2.1, h.2.2.2.2.1, h.2.2.2.2.2.1, h.2.2.2.2.2.2.1, ?_⟩
  show (1 ≤ tu_u (B 1) a w 0 ∧ tu_u (B 1) a w 0 ≤ 8) ∧ (0 ≤ tu_u (B 1) a w 1 ∧ tu_u (B 1) a w 1 ≤ 9) ∧ (0 ≤ tu_u (B 1) a w 2 ∧ tu_u (B 1) a w 2 ≤ 9) ∧ (0 ≤ tu_u (B 1) a w 3 ∧ tu_u (B 1) a w 3 ≤ 20)
  rcases (show a = 0 ∨ a = 1 ∨ a = 2 ∨ a = 3 by omega) with rfl | rfl | rfl | rfl
  · have e1 : (1 : Int) ≤ w := h1
    have e2 : w ≤ 8 := h2
    rw [tu_u_s, tu_u_n _ _ (by decide), tu_u_n _ _ (by decide), tu_u_n _ _ (by decide)]; exact ⟨⟨e1, e2⟩, s1, s2, s3⟩
  · have e1 : (0 : Int) ≤ w := h1
    have e2 : w ≤ 9 := h2
    rw [tu_u_s, tu_u_n _ _ (by decide), tu_u_n _ _ (by decide), tu_u_n _ _ (by decide)]; exact ⟨s0, ⟨e1, e2⟩, s2, s3⟩
  · have e1 : (0 : Int) ≤ w := h1
    have e2 : w ≤ 9 := h2
    rw [tu_u_s, tu_u_n _ _ (by decide), tu_u_n _ _ (by decide), tu_u_n _ _ (by decide)]; exact ⟨s0, s1, ⟨e1, e2⟩, s3⟩
  · have e1 : (0 : Int) ≤ w := h1
    have e2 : w ≤ 20 := h2
    rw [tu_u_s, tu_u_n _ _ (by decide), tu_u_n _ _ (by decide), tu_u_n _ _ (by decide)]; exact ⟨s0, s1, s2, ⟨e1, e2⟩⟩
theorem tu_BO.kstress {B : Nat → Nat → Int} (h : tu_BO B) {p : Nat} {w : Int} (hw : w = 0 ∨ w = 1) : tu_BO (tu_row B 3 (tu_u (B 3) p w)) := by
  refine ⟨h.1, h.2.1, fun l s hl hs => ?_, h.2.2.2.1, h.2.2.2.2.1, h.2.2.2.2.2.1, h.2.2.2.2.2.2.1, h.2.2.2.2.2.2.2⟩
  show tu_u (B 3) p w (l * 16 + s) = 0 ∨ tu_u (B 3) p w (l * 16 + s) = 1
  rw [tu_u_if]
  split
  · exact hw
  · exact h.2.2.1 l s hl hs
theorem tu_BO.kbeat {B : Nat → Nat → Int} (h : tu_BO B) {q : Nat} {w : Int} (hw : 0 ≤ w ∧ w ≤ 2) : tu_BO (tu_row B 5 (tu_u (B 5) q w)) := by
  refine ⟨h.1, h.2.1, h.2.2.1, h.2.2.2.1, fun p b hp hb => ?_, h.2.2.2.2.2.1, h.2.2.2.2.2.2.1, h.2.2.2.2.2.2.2⟩
  show 0 ≤ tu_u (B 5) q w (p * 24 + b) ∧ tu_u (B 5) q w (p * 24 + b) ≤ 2
  rw [tu_u_if]
  split
  · exact hw
  · exact h.2.2.2.2.1 p b hp hb
