theorem tu_lj_next {B : Nat → Nat → Int} {f : Nat → Int} {k0 j : Nat} (hk : tu_kd (tu_ps f (k0 + j)) (f (k0 + j)) = 2) (hP : tu_ps f (k0 + j) = (0, (j : Int))) (hj : j < 16) (hW : 0 ≤ tu_qs B f k0 0 1) (hV : j = 0 ∨ tu_lj (tu_qs B f k0) (tu_qs B f (k0 + j)) f k0 j) : tu_lj (tu_qs B f k0) (tu_qs B f (k0 + (j + 1))) f k0 (j + 1) := by
  rw [show tu_qs B f (k0 + (j + 1)) = tu_q1 (tu_qs B f (k0 + j)) (tu_ps f (k0 + j)) (f (k0 + j)) from rfl]
  by_cases q : j = 0
  · subst q
    rw [tu_q1_2a hk (by rw [hP]; rfl)]
    exact tu_lj_1
  · rw [tu_q1_2b hk (by rw [hP]; show (j : Int) ≠ 0; omega), hP]
    rcases hV with z | z
    · exact absurd z q
    · exact z.step hj hW
theorem tu_pj_next {B : Nat → Nat → Int} {f : Nat → Int} {k0 j : Nat} (hk : tu_kd (tu_ps f (k0 + 1 + j)) (f (k0 + 1 + j)) = 3) (hP : tu_ps f (k0 + 1 + j) = (1, (j : Int))) (hj : j < 24) (hW : 0 ≤ tu_qs B f k0 0 4) (hV : tu_pj (tu_qs B f k0) (tu_qs B f (k0 + 1 + j)) f k0 j) : tu_pj (tu_qs B f k0) (tu_qs B f (k0 + 1 + (j + 1))) f k0 (j + 1) := by
  rw [show tu_qs B f (k0 + 1 + (j + 1)) = tu_q1 (tu_qs B f (k0 + 1 + j)) (tu_ps f (k0 + 1 + j)) (f (k0 + 1 + j)) from rfl, tu_q1_3 hk, hP]
  exact hV.step hj hW
theorem tu_pj_first {B : Nat → Nat → Int} {f : Nat → Int} {k0 : Nat} (hk : tu_kd (tu_ps f k0) (f k0) = 1) : tu_pj (tu_qs B f k0) (tu_qs B f (k0 + 1 + 0)) f k0 0 := by
  rw [show tu_qs B f (k0 + 1 + 0) = tu_q1 (tu_qs B f k0) (tu_ps f k0) (f k0) from rfl, tu_q1_1 hk]
  exact tu_pj_0
theorem tu_wc {B : Nat → Nat → Int} {f : Nat → Int} {n k : Nat} (hO : tu_BO B) (h : ∀ j, j < n → tu_kd (tu_ps f j) (f j) ≠ 0) (c1 : B 0 1 + (tu_PA f n - tu_ti f 124 n) ≤ 16) (c2 : B 0 4 + tu_ti f 124 n ≤ 8) (hk : k < n) (hP : tu_ps f k = (0, 0)) :
    ((0 ≤ tu_qs B f k 0 1 ∧ tu_qs B f k 0 1 ≤ 16) ∧ (0 ≤ tu_qs B f k 0 4 ∧ tu_qs B f k 0 4 ≤ 8) ∧ (0 ≤ tu_qs B f k 0 7 ∧ tu_qs B f k 0 7 ≤ 40) ∧ (0 ≤ tu_qs B f k 0 9 ∧ tu_qs B f k 0 9 ≤ 8)) ∧ (f k ≠ 124 → tu_qs B f k 0 1 < 16) ∧ (f k = 124 → tu_qs B f k 0 4 < 8) := by
  obtain ⟨⟨q1, q2⟩, q3, ⟨q4, q5⟩, -, -⟩ := tu_QI_all (B := B) (f := f) (n := n) ⟨hO.1.1.1, hO.1.2.1.1⟩ h k (by omega)
  have cn := hO.1
  have hb := (tu_bg_i (k := k) (fun j hj => h j (by omega))).mpr ⟨by rw [hP], by rw [hP]⟩
  have m0 := tu_PA_mono h (n - k) k (by omega)
  have m1 := tu_PA_mono h (n - (k + 1)) (k + 1) (by omega)
  rw [tu_PA_s, tu_ti_s, if_pos hb] at m1
  rw [q3 7 (by decide) (by decide), q3 9 (by decide) (by decide), q1, q2]
  refine ⟨⟨⟨by omega, by omega⟩, ⟨by omega, by omega⟩, cn.2.2.1, cn.2.2.2⟩, fun z => ?_, fun z => ?_⟩
  · rw [if_neg z] at m1; omega
  · rw [if_pos z] at m1; omega
theorem tu_kd2 {f : Nat → Int} {k j : Nat} (h : tu_kd (tu_ps f k) (f k) ≠ 0) (hP : tu_ps f k = (0, (j : Int))) (h1 : f k ≠ 59) (h2 : j = 0 → f k ≠ 124) : tu_kd (tu_ps f k) (f k) = 2 ∧ j < 16 ∧ (f k = 120 ∨ f k = 88) := by
  rcases tu_kd_c h with ⟨e, a, b⟩ | ⟨e, a, b, c⟩ | ⟨e, a, b, c⟩ | ⟨e, a, b, c⟩
  · exact absurd b h1
  · rw [hP] at a; have a : (j : Int) = 0 := a; exact absurd c (h2 (by omega))
  · rw [hP] at b; have b : (j : Int) < 16 := b; exact ⟨e, by omega, c⟩
  · rw [hP] at a; exact absurd (show (0 : Int) = 1 from a) (by decide)
theorem tu_kd3 {f : Nat → Int} {k j : Nat} (h : tu_kd (tu_ps f k) (f k) ≠ 0) (hP : tu_ps f k = (1, (j : Int))) (h1 : f k ≠ 59) : tu_kd (tu_ps f k) (f k) = 3 ∧ j < 24 ∧ (f k = 115 ∨ f k = 119 ∨ f k = 46) := by
  rcases tu_kd_c h with ⟨e, a, b⟩ | ⟨e, a, b, c⟩ | ⟨e, a, b, c⟩ | ⟨e, a, b, c⟩
  · exact absurd b h1
  · rw [hP] at b; exact absurd (show (1 : Int) = 0 from b) (by decide)
  · rw [hP] at a; exact absurd (show (1 : Int) = 0 from a) (by decide)
  · rw [hP] at b; have b : (j : Int) < 24 := b; exact ⟨e, by omega, c⟩
theorem tu_kd1 {f : Nat → Int} {k : Nat} (h : tu_kd (tu_ps f k) (f k) ≠ 0) (h1 : f k = 124) : tu_kd (tu_ps f k) (f k) = 1 := by
  rcases tu_kd_c h with ⟨e, a, b⟩ | ⟨e, a, b, c⟩ | ⟨e, a, b, c⟩ | ⟨e, a, b, c⟩ <;> omega
theorem tu_kd4 {f : Nat → Int} {k : Nat} (h : tu_kd (tu_ps f k) (f k) ≠ 0) (h1 : f k = 59) : tu_kd (tu_ps f k) (f k) = 4 := by
  rcases tu_kd_c h with ⟨e, a, b⟩ | ⟨e, a, b, c⟩ | ⟨e, a, b, c⟩ | ⟨e, a, b, c⟩ <;> omega
