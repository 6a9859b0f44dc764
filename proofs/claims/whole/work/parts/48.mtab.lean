/-! the model's tables against the class' tables -/
def tu_AT1 (L a k r c : Nat → Int) (n m t q : Nat) (C W U : Nat → Int) : Prop :=
  C (25 * t + q) = tu_nv (c (t * 25 + q)) ∧ ((0 ≤ W (25 * t + q) ∧ W (25 * t + q) ≤ 1000000) ∧ (0 ≤ U (25 * t + q) ∧ U (25 * t + q) ≤ 1000000)) ∧ (1000000 ≤ c (t * 25 + q) → W (25 * t + q) = 0 ∧ U (25 * t + q) = 0) ∧
  (∀ v, tu_Vx L a k r c 0 n m v → W (25 * t + q) = v (t * 25 + q)) ∧ (∀ v, tu_Vx L a k r c 1 n m v → c (t * 25 + q) < 1000000 → U (25 * t + q) = v (t * 25 + q))
def tu_AT (L a k r c : Nat → Int) (n m s b : Nat) (C W U : Nat → Int) : Prop := ∀ t q, t ≤ n → q ≤ m → (s < t ∨ (s = t ∧ b < q)) → tu_AT1 L a k r c n m t q C W U
theorem tu_AT1.q {L a k r c : Nat → Int} {n m t q : Nat} {C W U C' W' U' : Nat → Int} (h : tu_AT1 L a k r c n m t q C W U) (e : C' (25 * t + q) = C (25 * t + q) ∧ W' (25 * t + q) = W (25 * t + q) ∧ U' (25 * t + q) = U (25 * t + q)) : tu_AT1 L a k r c n m t q C' W' U' := by
  unfold tu_AT1
  rw [e.1, e.2.1, e.2.2]; exact h
theorem tu_mn_lb {i : Int} {f : Nat → Int} : ∀ n, ∀ q, 1 ≤ q → q ≤ n → tu_mn i f n ≤ f q
  | 0, q, h1, h2 => absurd h2 (by omega)
  | n + 1, q, h1, h2 => by
    unfold tu_mn
    by_cases e : q = n + 1
    · subst e; omega
    · have := tu_mn_lb (i := i) (f := f) n q h1 (by omega); omega
theorem tu_sw_n {i : Int} {f : Nat → Int} : ∀ n, 0 ≤ i → (∀ q, 1 ≤ q → q ≤ n → 0 ≤ f q) → 0 ≤ tu_sw i f n
  | 0, h, _ => h
  | n + 1, h, g => by
    have := tu_sw_n n h (fun q h1 h2 => g q h1 (by omega))
    have := g (n + 1) (by omega) (Nat.le_refl _)
    unfold tu_sw; omega
theorem tu_sw_00 {i : Int} {f : Nat → Int} : ∀ n, i = 0 → (∀ q, 1 ≤ q → q ≤ n → f q = 0) → tu_sw i f n = 0
  | 0, h, _ => h
  | n + 1, h, g => by
    unfold tu_sw
    rw [tu_sw_00 n h (fun q h1 h2 => g q h1 (by omega)), g (n + 1) (by omega) (Nat.le_refl _)]; rfl
theorem tu_sw_i {i j : Int} {f g : Nat → Int} {n : Nat} (h : i = j) (hf : ∀ q, 1 ≤ q → q ≤ n → f q = g q) : tu_sw i f n = tu_sw j g n := by
  subst h; exact tu_sw_q hf
/-- the least ways behind h steps -/
def tu_ul (zf uf : Int) (zh uh : Nat → Int) (h : Nat) (C : Int) : Int := if C = 1000000000 then 0 else min (tu_sw (if zf = C then uf else 0) (fun q => if zh q = C then uh q else 0) h) 1000000
theorem tu_ul_s {zf uf : Int} {zh uh : Nat → Int} {h : Nat} (hz : zf ≤ 1000000000) (hu : 0 ≤ uf) (hh : ∀ q, 1 ≤ q → q ≤ h + 1 → 0 ≤ uh q) (hb : ∀ q, 1 ≤ q → q ≤ h + 1 → zh q ≤ 1000000000) : tu_tu (zh (h + 1)) (tu_mn zf zh h) (tu_ul zf uf zh uh h (tu_mn zf zh h)) (uh (h + 1)) = tu_ul zf uf zh uh (h + 1) (tu_mn zf zh (h + 1)) := by
  have hle := tu_mn_le (i := zf) (f := zh) h
  have hlb := fun q => tu_mn_lb (i := zf) (f := zh) h q
  have z1 := hb (h + 1) (by omega) (Nat.le_refl _)
  have u1 := hh (h + 1) (by omega) (Nat.le_refl _)
  rw [show tu_mn zf zh (h + 1) = min (tu_mn zf zh h) (zh (h + 1)) from rfl]
  generalize hC : tu_mn zf zh h = C at hle hlb ⊢
  unfold tu_tu tu_ul
  rcases Int.lt_trichotomy (zh (h + 1)) C with w | w | w
  · rw [if_pos ⟨by omega, by omega⟩, if_pos w, show min C (zh (h + 1)) = zh (h + 1) by omega, if_neg (show ¬ zh (h + 1) = 1000000000 by omega)]
    have : tu_sw (if zf = zh (h + 1) then uf else 0) (fun q => if zh q = zh (h + 1) then uh q else 0) (h + 1) = 0 + uh (h + 1) := by
      show tu_sw (if zf = zh (h + 1) then uf else 0) (fun q => if zh q = zh (h + 1) then uh q else 0) h + (if zh (h + 1) = zh (h + 1) then uh (h + 1) else 0) = _
      rw [if_pos rfl, tu_sw_00 h (if_neg (by omega)) (fun q h1 h2 => if_neg (by have := hlb q h1 h2; omega))]
    rw [this]
  · rw [show min C (zh (h + 1)) = C by omega, if_neg (show ¬ zh (h + 1) < C by omega)]
    by_cases e : C = 1000000000
    · rw [if_neg (by omega), if_pos e, if_pos e]
    · rw [if_pos ⟨by omega, by omega⟩, if_neg e, if_neg e]
      have : tu_sw (if zf = C then uf else 0) (fun q => if zh q = C then uh q else 0) (h + 1) = tu_sw (if zf = C then uf else 0) (fun q => if zh q = C then uh q else 0) h + uh (h + 1) := by
        show _ + (if zh (h + 1) = C then uh (h + 1) else 0) = _
        rw [if_pos w]
      rw [this]
      have := tu_sw_n (i := if zf = C then uf else 0) (f := fun q => if zh q = C then uh q else 0) h (by split <;> omega) (fun q h1 h2 => by
        show 0 ≤ if zh q = C then uh q else 0
        have := hh q h1 (by omega); split <;> omega)
      omega
  · rw [show min C (zh (h + 1)) = C by omega, if_neg (show ¬ (zh (h + 1) ≤ C ∧ zh (h + 1) ≠ 1000000000) by omega), if_neg (show ¬ zh (h + 1) < C by omega)]
    have : tu_sw (if zf = C then uf else 0) (fun q => if zh q = C then uh q else 0) (h + 1) = tu_sw (if zf = C then uf else 0) (fun q => if zh q = C then uh q else 0) h := by
      show _ + (if zh (h + 1) = C then uh (h + 1) else 0) = _
      rw [if_neg (show ¬ zh (h + 1) = C by omega), Int.add_zero]
    rw [this]
theorem tu_ul_0 {zf uf : Int} {zh uh : Nat → Int} (hz : zf ≤ 1000000000) : tu_tu zf 1000000000 0 uf = tu_ul zf uf zh uh 0 zf := by
  unfold tu_tu tu_ul
  by_cases e : zf = 1000000000
  · rw [if_neg (by omega), if_pos e]; split <;> rfl
  · rw [if_pos ⟨by omega, e⟩, if_pos (by omega), if_neg e]
    show min (0 + uf) 1000000 = min (if zf = zf then uf else 0) 1000000
    rw [if_pos rfl, Int.zero_add]
/-- the place (s, b) behind h held steps -/
def tu_zf (L k c : Nat → Int) (m s b : Nat) : Int := if b < m then tu_nv (tu_cf L k c s b) else 1000000000
def tu_zh (L a k c : Nat → Int) (s b q : Nat) : Int := tu_nv (tu_ch L a k c s b q)
def tu_yf (W : Nat → Int) (m s b : Nat) : Int := if b < m then W (25 * s + b + 1) else 0
def tu_yh (W : Nat → Int) (s b q : Nat) : Int := W (25 * (s + 1) + b + q)
def tu_FS (C0 W0 U0 L a k c : Nat → Int) (m s b h : Nat) (C W U : Nat → Int) : Prop :=
  (∀ i, i ≠ 25 * s + b → C i = C0 i ∧ W i = W0 i ∧ U i = U0 i) ∧ C (25 * s + b) = tu_mn (tu_zf L k c m s b) (tu_zh L a k c s b) h ∧ W (25 * s + b) = min (tu_sw (tu_yf W0 m s b) (tu_yh W0 s b) h) 1000000 ∧
  U (25 * s + b) = tu_ul (tu_zf L k c m s b) (tu_yf U0 m s b) (tu_zh L a k c s b) (tu_yh U0 s b) h (tu_mn (tu_zf L k c m s b) (tu_zh L a k c s b) h)
theorem tu_nv_le (x : Int) : tu_nv x ≤ 1000000000 := by unfold tu_nv; split <;> omega
theorem tu_zf_le (L k c : Nat → Int) (m s b : Nat) : tu_zf L k c m s b ≤ 1000000000 := by
  unfold tu_zf; split
  · exact tu_nv_le _
  · omega
/-- nothing taken in yet: at the end of a row -/
theorem tu_FS_none {C0 W0 U0 L a k c : Nat → Int} {m s b : Nat} (hb : ¬ b < m) : tu_FS C0 W0 U0 L a k c m s b 0 (tu_u C0 (25 * s + b) 1000000000) (tu_u W0 (25 * s + b) 0) (tu_u U0 (25 * s + b) 0) := by
  have e : tu_zf L k c m s b = 1000000000 := if_neg hb
  refine ⟨fun i hi => ⟨tu_u_n _ _ hi, tu_u_n _ _ hi, tu_u_n _ _ hi⟩, ?_, ?_, ?_⟩
  · rw [tu_u_s]; show _ = tu_zf L k c m s b; rw [e]
  · rw [tu_u_s]; show _ = min (tu_yf W0 m s b) 1000000; unfold tu_yf; rw [if_neg hb]; rfl
  · rw [tu_u_s]; unfold tu_ul; rw [if_pos (show tu_mn (tu_zf L k c m s b) (tu_zh L a k c s b) 0 = 1000000000 from e)]
/-- the free step taken in -/
theorem tu_FS_free {C0 W0 U0 L a k c : Nat → Int} {m s b : Nat} {z : Int} (hb : b < m) (hz : z = tu_nv (tu_cf L k c s b)) :
    tu_FS C0 W0 U0 L a k c m s b 0 (tu_u (tu_u C0 (25 * s + b) 1000000000) (25 * s + b) (min z (tu_u C0 (25 * s + b) 1000000000 (25 * s + b)))) (tu_u (tu_u W0 (25 * s + b) 0) (25 * s + b) (min (tu_u W0 (25 * s + b) 0 (25 * s + b) + tu_u W0 (25 * s + b) 0 (25 * s + b + 1)) 1000000))
      (tu_u (tu_u U0 (25 * s + b) 0) (25 * s + b) (tu_tu z (tu_u C0 (25 * s + b) 1000000000 (25 * s + b)) (tu_u U0 (25 * s + b) 0 (25 * s + b)) (tu_u U0 (25 * s + b) 0 (25 * s + b + 1)))) := by
  have e : tu_zf L k c m s b = z := by unfold tu_zf; rw [if_pos hb, hz]
  have ez : z ≤ 1000000000 := by rw [hz]; exact tu_nv_le _
  refine ⟨fun i hi => ⟨by rw [tu_u_n _ _ hi, tu_u_n _ _ hi], by rw [tu_u_n _ _ hi, tu_u_n _ _ hi], by rw [tu_u_n _ _ hi, tu_u_n _ _ hi]⟩, ?_, ?_, ?_⟩
  · rw [tu_u_s, tu_u_s]; show _ = tu_zf L k c m s b; rw [e]; omega
  · rw [tu_u_s, tu_u_s, tu_u_n _ _ (by omega)]; show _ = min (tu_yf W0 m s b) 1000000; unfold tu_yf; rw [if_pos hb, Int.zero_add]
  · rw [tu_u_s, tu_u_s, tu_u_s, tu_u_n _ _ (by omega)]
    show _ = tu_ul (tu_zf L k c m s b) (tu_yf U0 m s b) (tu_zh L a k c s b) (tu_yh U0 s b) 0 (tu_zf L k c m s b)
    rw [e, show tu_yf U0 m s b = U0 (25 * s + b + 1) from if_pos hb]
    exact tu_ul_0 ez
/-- a held step taken in -/
theorem tu_FS.step {C0 W0 U0 L a k c C W U : Nat → Int} {m s b h : Nat} {z : Int} (hF : tu_FS C0 W0 U0 L a k c m s b h C W U) (hz : z = tu_zh L a k c s b (h + 1))
    (hW : 0 ≤ tu_yf W0 m s b ∧ ∀ q, 1 ≤ q → q ≤ h + 1 → 0 ≤ tu_yh W0 s b q) (hU : 0 ≤ tu_yf U0 m s b ∧ ∀ q, 1 ≤ q → q ≤ h + 1 → 0 ≤ tu_yh U0 s b q) :
    tu_FS C0 W0 U0 L a k c m s b (h + 1) (tu_u C (25 * s + b) (min z (C (25 * s + b)))) (tu_u W (25 * s + b) (min (W (25 * s + b) + W (25 * (s + 1) + b + (h + 1))) 1000000)) (tu_u U (25 * s + b) (tu_tu z (C (25 * s + b)) (U (25 * s + b)) (U (25 * (s + 1) + b + (h + 1))))) := by
  obtain ⟨h1, h2, h3, h4⟩ := hF
  refine ⟨fun i hi => ⟨by rw [tu_u_n _ _ hi]; exact (h1 i hi).1, by rw [tu_u_n _ _ hi]; exact (h1 i hi).2.1, by rw [tu_u_n _ _ hi]; exact (h1 i hi).2.2⟩, ?_, ?_, ?_⟩
  · rw [tu_u_s, h2, hz]
    show _ = min (tu_mn (tu_zf L k c m s b) (tu_zh L a k c s b) h) (tu_zh L a k c s b (h + 1))
    omega
  · rw [tu_u_s, h3, (h1 _ (by omega)).2.1]
    show _ = min (tu_sw (tu_yf W0 m s b) (tu_yh W0 s b) h + tu_yh W0 s b (h + 1)) 1000000
    have := tu_sw_n (i := tu_yf W0 m s b) (f := tu_yh W0 s b) h hW.1 (fun q h1 h2 => hW.2 q h1 (by omega))
    have g := hW.2 (h + 1) (by omega) (Nat.le_refl _)
    unfold tu_yh at g ⊢
    omega
  · rw [tu_u_s, h2, h4, (h1 _ (by omega)).2.2, hz]
    exact tu_ul_s (tu_zf_le _ _ _ _ _ _) hU.1 (fun q a1 a2 => hU.2 q a1 a2) (fun q _ _ => tu_nv_le _)
