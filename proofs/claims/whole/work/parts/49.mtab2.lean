theorem tu_cf_far {L a k r c : Nat → Int} {n m s b : Nat} (hK : tu_LK L a k r n m) (hT : tu_Tx L a k r n m c) (hs : s ≤ n) (hb : b < m) : (tu_cf L k c s b < 1000000 ↔ c (s * 25 + (b + 1)) < 1000000) := by
  have hl := hK.2.2.2.2.2.1
  unfold tu_cf
  rw [show s * 25 + b + 1 = s * 25 + (b + 1) by omega]
  refine ⟨fun z => by split at z <;> omega, fun z => ?_⟩
  have := tu_small hK hT hs (show b + 1 ≤ m from hb) z
  split <;> omega
theorem tu_ch_far {L a k r c : Nat → Int} {n m s b q : Nat} (hK : tu_LK L a k r n m) (hT : tu_Tx L a k r n m c) (hs : s < n) (h1 : 1 ≤ q) (h8 : q ≤ 8) (hb : b + q ≤ m) : (tu_ch L a k c s b q < 1000000 ↔ c ((s + 1) * 25 + (b + q)) < 1000000) := by
  have hl1 := hK.2.2.2.2.1
  have hl3 := hK.2.2.2.2.2.2.1
  have hp : 0 ≤ L 1 * ((q : Int) - 1) ∧ L 1 * ((q : Int) - 1) ≤ 9 * ((q : Int) - 1) := ⟨Int.mul_nonneg hl1.1 (by omega), Int.mul_le_mul_of_nonneg_right hl1.2 (by omega)⟩
  unfold tu_ch
  rw [show (s + 1) * 25 + b + q = (s + 1) * 25 + (b + q) by omega]
  generalize L 1 * ((q : Int) - 1) = P at hp ⊢
  refine ⟨fun z => by split at z <;> omega, fun z => ?_⟩
  have := tu_small hK hT (show s + 1 ≤ n from hs) hb z
  split <;> omega
theorem tu_nv_eq {x y : Int} (hy : y < 1000000) : tu_nv x = y ↔ x = y := by
  unfold tu_nv; split <;> omega
theorem tu_AT1_in {L a k r c : Nat → Int} {n m s b : Nat} {C0 W0 U0 C W U : Nat → Int} (hK : tu_LK L a k r n m) (hT : tu_Tx L a k r n m c) (hs : s < n) (hb : b < m) (hA : tu_AT L a k r c n m s b C0 W0 U0) (hF : tu_FS C0 W0 U0 L a k c m s b (tu_mh L r b) C W U) : tu_AT1 L a k r c n m s b C W U := by
  obtain ⟨-, h2, h3, h4⟩ := hF
  have hm := tu_mh_le hK hb
  have E := ((hT.2 s (Nat.zero_le _) hs).2 b (Nat.zero_le _) hb).1
  have bf := hT.cf hK (show s ≤ n by omega) hb
  have bh := fun q h1 h2 => hT.ch hK hs hb (q := q) h1 h2
  have ef : tu_zf L k c m s b = tu_nv (tu_cf L k c s b) := if_pos hb
  have eC : tu_mn (tu_zf L k c m s b) (tu_zh L a k c s b) (tu_mh L r b) = tu_nv (c (s * 25 + b)) := by
    rw [ef, E, tu_nv_cap, tu_nv_mn (by omega) (tu_mh L r b) (fun q h1 h2 => by have := bh q h1 h2; omega)]; rfl
  have af := hA s (b + 1) (by omega) hb (Or.inr ⟨rfl, by omega⟩)
  have ah := fun q (h1 : 1 ≤ q) (h2 : q ≤ tu_mh L r b) => hA (s + 1) (b + q) hs (by omega) (Or.inl (by omega))
  have yf : ∀ V : Nat → Int, tu_yf V m s b = V (25 * s + (b + 1)) := fun V => by unfold tu_yf; rw [if_pos hb]; rfl
  have yh : ∀ (V : Nat → Int) q, tu_yh V s b q = V (25 * (s + 1) + (b + q)) := fun V q => by unfold tu_yh; rw [Nat.add_assoc]
  rw [eC] at h2 h4
  have wn := tu_sw_n (i := tu_yf W0 m s b) (f := tu_yh W0 s b) (tu_mh L r b) (by rw [yf]; exact af.2.1.1.1) (fun q h1 h2 => by rw [yh]; exact (ah q h1 h2).2.1.1.1)
  have mle := tu_mn_le (i := tu_cf L k c s b) (f := tu_ch L a k c s b) (tu_mh L r b)
  have mlb := fun q => tu_mn_lb (i := tu_cf L k c s b) (f := tu_ch L a k c s b) (tu_mh L r b) q
  refine ⟨h2, ⟨by rw [h3]; omega, ?_⟩, fun hc => ⟨?_, ?_⟩, fun v hv => ?_, fun v hv hc => ?_⟩
  · rw [h4]
    unfold tu_ul
    split
    · omega
    · have := tu_sw_n (i := if tu_zf L k c m s b = tu_nv (c (s * 25 + b)) then tu_yf U0 m s b else 0) (f := fun q => if tu_zh L a k c s b q = tu_nv (c (s * 25 + b)) then tu_yh U0 s b q else 0) (tu_mh L r b) (by have := af.2.1.2.1; rw [yf]; split <;> omega) (fun q h1 h2 => by
        show 0 ≤ if tu_zh L a k c s b q = tu_nv (c (s * 25 + b)) then tu_yh U0 s b q else 0
        have := (ah q h1 h2).2.1.2.1
        rw [yh]; split <;> omega)
      omega
  · rw [h3, tu_sw_00 (tu_mh L r b) (by rw [yf]; exact (af.2.2.1 (by have := tu_cf_far hK hT (show s ≤ n by omega) hb; omega)).1) (fun q h1 h2 => by
      rw [yh]
      exact ((ah q h1 h2).2.2.1 (by have := tu_ch_far hK hT hs h1 (by omega) (show b + q ≤ m by omega); have := mlb q h1 h2; omega)).1)]; rfl
  · rw [h4]
    unfold tu_ul
    rw [if_pos (tu_nv_hi hc)]
  · rw [h3, ((hv.2 s (Nat.zero_le _) hs).2 b (Nat.zero_le _) hb).1]
    unfold tu_wf
    refine congrArg (fun x => min x 1000000) (tu_sw_i ?_ (fun q h1 h2 => ?_))
    · rw [if_pos (Or.inl rfl), yf, af.2.2.2.1 v hv]; rfl
    · show _ = if (0 : Int) = 0 ∨ _ then _ else 0
      rw [if_pos (Or.inl rfl), yh, (ah q h1 h2).2.2.2.1 v hv, Nat.add_assoc]
  · rw [h4, ((hv.2 s (Nat.zero_le _) hs).2 b (Nat.zero_le _) hb).1, tu_nv_lo hc]
    unfold tu_ul tu_wf
    rw [if_neg (by omega)]
    refine congrArg (fun x => min x 1000000) (tu_sw_i ?_ (fun q h1 h2 => ?_))
    · rw [ef]
      by_cases z : tu_cf L k c s b = c (s * 25 + b)
      · rw [if_pos ((tu_nv_eq hc).mpr z), if_pos (Or.inr z), yf, af.2.2.2.2 v hv (by have := tu_cf_far hK hT (show s ≤ n by omega) hb; omega)]; rfl
      · rw [if_neg (fun w => z ((tu_nv_eq hc).mp w)), if_neg (fun w => by rcases w with w | w; exact absurd w (by decide); exact z w)]
    · show (if tu_nv (tu_ch L a k c s b q) = _ then _ else 0) = if (1 : Int) = 0 ∨ _ then _ else 0
      by_cases z : tu_ch L a k c s b q = c (s * 25 + b)
      · rw [if_pos ((tu_nv_eq hc).mpr z), if_pos (Or.inr z), yh, (ah q h1 h2).2.2.2.2 v hv (by have := tu_ch_far hK hT hs h1 (by omega) (show b + q ≤ m by omega); omega), Nat.add_assoc]
      · rw [if_neg (fun w => z ((tu_nv_eq hc).mp w)), if_neg (fun w => by rcases w with w | w; exact absurd w (by decide); exact z w)]
theorem tu_AT1_last {L a k r c : Nat → Int} {n m b : Nat} {C0 W0 U0 C W U : Nat → Int} (hK : tu_LK L a k r n m) (hT : tu_Tx L a k r n m c) (hb : b < m) (hA : tu_AT L a k r c n m n b C0 W0 U0) (hF : tu_FS C0 W0 U0 L a k c m n b 0 C W U) : tu_AT1 L a k r c n m n b C W U := by
  obtain ⟨-, h2, h3, h4⟩ := hF
  have E := (hT.1.2 b (Nat.zero_le _) hb)
  have hm := hK.2.2.1
  have ef : tu_zf L k c m n b = tu_nv (tu_cf L k c n b) := if_pos hb
  have af := hA n (b + 1) (Nat.le_refl _) hb (Or.inr ⟨rfl, by omega⟩)
  have yf : ∀ V : Nat → Int, tu_yf V m n b = V (25 * n + (b + 1)) := fun V => by unfold tu_yf; rw [if_pos hb]; rfl
  have eC : tu_mn (tu_zf L k c m n b) (tu_zh L a k c n b) 0 = c (n * 25 + b) := by
    show tu_zf L k c m n b = _
    rw [ef, ← E.1, tu_nv_lo (by omega)]
  have hc : c (n * 25 + b) < 1000000 := by omega
  have hf : tu_cf L k c n b < 1000000 := by omega
  have hU : U (25 * n + b) = min (U0 (25 * n + (b + 1))) 1000000 := by
    rw [h4, eC]
    unfold tu_ul
    rw [if_neg (by omega)]
    show min (if tu_zf L k c m n b = c (n * 25 + b) then tu_yf U0 m n b else 0) 1000000 = _
    rw [if_pos (by rw [ef, ← E.1, tu_nv_lo hc]), yf]
  have hW : W (25 * n + b) = min (W0 (25 * n + (b + 1))) 1000000 := by
    rw [h3]; show min (tu_yf W0 m n b) 1000000 = _; rw [yf]
  have b1 := af.2.1
  refine ⟨by rw [h2, eC, tu_nv_lo hc], ⟨by omega, by omega⟩, fun z => by omega, fun v hv => ?_, fun v hv _ => ?_⟩
  · rw [hW, af.2.2.2.1 v hv, hv.1 (b + 1) hb, hv.1 b (by omega)]; rfl
  · rw [hU, af.2.2.2.2 v hv (by have := tu_cf_far hK hT (Nat.le_refl n) hb; omega), hv.1 (b + 1) hb, hv.1 b (by omega)]; rfl
theorem tu_AT1_end {L a k r c : Nat → Int} {n m s : Nat} {C0 W0 U0 C W U : Nat → Int} (hT : tu_Tx L a k r n m c) (hs : s < n) (hF : tu_FS C0 W0 U0 L a k c m s m 0 C W U) : tu_AT1 L a k r c n m s m C W U := by
  obtain ⟨-, h2, h3, h4⟩ := hF
  have E := (hT.2 s (Nat.zero_le _) hs).1
  have ef : tu_zf L k c m s m = 1000000000 := if_neg (Nat.lt_irrefl _)
  have eC : tu_mn (tu_zf L k c m s m) (tu_zh L a k c s m) 0 = 1000000000 := ef
  have hU : U (25 * s + m) = 0 := by rw [h4]; unfold tu_ul; rw [if_pos eC]
  have hW : W (25 * s + m) = 0 := by
    rw [h3]; show min (tu_yf W0 m s m) 1000000 = _; unfold tu_yf; rw [if_neg (Nat.lt_irrefl _)]; rfl
  refine ⟨by rw [h2, eC, E]; rfl, ⟨by omega, by omega⟩, fun _ => ⟨hW, hU⟩, fun v hv => by rw [hW, (hv.2 s (Nat.zero_le _) hs).1], fun v hv z => by omega⟩
theorem tu_AT1_of {L a k r c : Nat → Int} {n m s b h : Nat} {C0 W0 U0 C W U : Nat → Int} (hK : tu_LK L a k r n m) (hT : tu_Tx L a k r n m c) (hs : s ≤ n) (hb : b ≤ m) (hne : ¬ (s = n ∧ b = m)) (hA : tu_AT L a k r c n m s b C0 W0 U0) (hF : tu_FS C0 W0 U0 L a k c m s b h C W U) (hi : h = 0 ∨ (s < n ∧ b < m ∧ h ≤ tu_mh L r b)) (hx : ¬ (s < n ∧ (h : Int) + 1 ≤ L 0 ∧ b + (h + 1) ≤ m ∧ k (b + h) ≠ 0)) : tu_AT1 L a k r c n m s b C W U := by
  by_cases e1 : s < n
  · by_cases e2 : b < m
    · have hl : h ≤ tu_mh L r b := by rcases hi with z | z <;> omega
      have := tu_mh_step hK e2 hl
      have e : h = tu_mh L r b := by
        by_cases z : h + 1 ≤ tu_mh L r b
        · have w := this.mp z
          exact absurd ⟨e1, by omega, w.2.1, w.2.2⟩ hx
        · omega
      subst e
      exact tu_AT1_in hK hT e1 e2 hA hF
    · have em : b = m := by omega
      subst em
      rw [show h = 0 by omega] at hF
      exact tu_AT1_end hT e1 hF
  · have en : s = n := by omega
    subst en
    rw [show h = 0 by omega] at hF
    exact tu_AT1_last hK hT (by omega) hA hF
