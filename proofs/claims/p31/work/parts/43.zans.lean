/-! what lay finds, and what the class answers -/
theorem tz_Y_q {mh mh' : Nat → Nat} {ct ct' : (Nat → Nat) → Int} {n m : Nat} (hmh : ∀ b, b < m → mh b = mh' b) (hct : ∀ g, (∀ t, t < n → g t < 8 * m) → ct g = ct' g) : ∀ (j : Nat), j ≤ n → ∀ (u : Nat), u ≤ 8 * m → ∀ g : Nat → Nat, (∀ t, t < n - j → g t < 8 * m) → tz_Y mh ct n m j u g = tz_Y mh' ct' n m j u g
  | 0, _, u, _, g, h => by
    show (ct (tz_g n g), (1 : Int), (1 : Int), tz_g n g) = (ct' (tz_g n g), 1, 1, tz_g n g)
    rw [hct (tz_g n g) (fun t ht => by rw [show tz_g n g t = g t from if_pos ht]; exact h t (by omega))]
  | j + 1, hj, u, hu, g, h => by
    show tz_Y1 mh m (n - (j + 1)) (tz_Y mh ct n m j) g u = tz_Y1 mh' m (n - (j + 1)) (tz_Y mh' ct' n m j) g u
    induction u with
    | zero => rfl
    | succ u ih =>
      show tz_ad (tz_o mh m (n - (j + 1)) (tz_Y mh ct n m j) g (8 * m - (u + 1))) _ = tz_ad (tz_o mh' m (n - (j + 1)) (tz_Y mh' ct' n m j) g (8 * m - (u + 1))) _
      rw [ih (by omega)]
      have e : tz_o mh m (n - (j + 1)) (tz_Y mh ct n m j) g (8 * m - (u + 1)) = tz_o mh' m (n - (j + 1)) (tz_Y mh' ct' n m j) g (8 * m - (u + 1)) := by
        unfold tz_o
        rw [hmh ((8 * m - (u + 1)) / 8) (by omega)]
        split
        · refine tz_Y_q hmh hct j (by omega) _ (by omega) _ (fun t ht => ?_)
          unfold tz_s
          split
          · omega
          · exact h t (by omega)
        · rfl
      rw [e]
theorem tz_ct_q {L L' a a' k k' : Nat → Int} {n m : Nat} (h1 : L 1 = L' 1) (h2 : L 2 = L' 2) (h3 : L 3 = L' 3) (ha : ∀ t, t < n → a t = a' t) (hk : ∀ b, b < m → k b = k' b) (g : Nat → Nat) (hg : ∀ t, t < n → g t < 8 * m) : tz_ct L a k n m g = tz_ct L' a' k' n m g ∧ tz_fr k n m g = tz_fr k' n m g ∧ tz_hs a k n g = tz_hs a' k' n g := by
  have e1 : tz_dr L n g = tz_dr L' n g := tz_sm_q (fun t ht => by rw [h1])
  have e2 : tz_hs a k n g = tz_hs a' k' n g := tz_sm_q (fun t ht => by
    have := hg t ht
    rw [ha t ht, hk (g t / 8) (by omega)])
  have e3 : tz_fr k n m g = tz_fr k' n m g := by
    unfold tz_fr
    rw [tz_sm_q (f := fun q => if k q = 0 then (0 : Int) else 1) (h := fun q => if k' q = 0 then 0 else 1) (fun q hq => by rw [hk q hq])]
  refine ⟨?_, e3, e2⟩
  unfold tz_ct
  rw [e1, e2, e3, h2, h3]
theorem tz_Z_q {L a k r L' a' k' : Nat → Int} {n m : Nat} (hK : tu_LK L a k r n m) (h0 : L 0 = L' 0) (h1 : L 1 = L' 1) (h2 : L 2 = L' 2) (h3 : L 3 = L' 3) (ha : ∀ t, t < n → a t = a' t) (hk : ∀ b, b < m → k b = k' b) : tz_Y (tu_mh L r) (tz_ct L a k n m) n m n (8 * m) (fun _ => 0) = tz_Z L' a' k' n m := by
  unfold tz_Z
  refine tz_Y_q (fun b hb => ?_) (fun g hg => (tz_ct_q h1 h2 h3 ha hk g hg).1) n (Nat.le_refl _) _ (Nat.le_refl _) _ (fun t ht => by omega)
  rw [tu_mh_q hK hb]
  unfold tu_qm
  rw [h0, tu_rd_q hk _ (by omega)]
/-- the numbers that lay is given -/
def tz_G (L a k : Nat → Int) (n m : Nat) : Prop := (1 ≤ n ∧ n ≤ 5) ∧ (1 ≤ m ∧ m ≤ 9) ∧ (1 ≤ L 0 ∧ L 0 ≤ 8) ∧ (0 ≤ L 1 ∧ L 1 ≤ 9) ∧ (0 ≤ L 2 ∧ L 2 ≤ 9) ∧ (0 ≤ L 3 ∧ L 3 ≤ 20) ∧ (∀ b, b < m → 0 ≤ k b ∧ k b ≤ 2) ∧ (∀ s, s < n → a s = 0 ∨ a s = 1)
theorem tz_ex {L a k : Nat → Int} {n m : Nat} (g : tz_G L a k n m) : ∃ L' r c, (L' 0 = L 0 ∧ L' 1 = L 1 ∧ L' 2 = L 2 ∧ L' 3 = L 3) ∧ tu_LK L' a k r n m ∧ tu_Tx L' a k r n m c := by
  obtain ⟨g2, g3, g4, g5, g6, g7, g8, g9⟩ := g
  obtain ⟨r, c, hK, hT⟩ := tu_ex (L := fun i => if i = 4 then ((n : Nat) : Int) else if i = 5 then ((m : Nat) : Int) else L i) (a := a) (k := k) (n := n) (m := m) ⟨⟨rfl, rfl⟩, ⟨g2.1, by omega⟩, ⟨g3.1, by omega⟩, g4, g5, g6, g7, g8, g9⟩
  exact ⟨fun i => if i = 4 then ((n : Nat) : Int) else if i = 5 then ((m : Nat) : Int) else L i, r, c, ⟨rfl, rfl, rfl, rfl⟩, hK, hT⟩
/-- the least cost -/
theorem tz_w0 {L a k : Nat → Int} {n m : Nat} {w : Nat → Int} (g : tz_G L a k n m) (h : tz_A L a k n m (tz_Z L a k n m) w) : (tu_cx L a k n m = 1000000 ∧ w 0 = -6) ∨ ((0 ≤ tu_cx L a k n m ∧ tu_cx L a k n m < 1000000) ∧ w 0 = tu_cx L a k n m) := by
  obtain ⟨L', r, c, ⟨e0, e1, e2, e3⟩, hK, hT⟩ := tz_ex g
  have hz := tz_Z_q (L' := L) (a' := a) (k' := k) hK e0 e1 e2 e3 (fun _ _ => rfl) (fun _ _ => rfl)
  have hr := tz_res hK hT g.2.1.2 (fun _ => 0)
  rw [hz] at hr
  have hc : c 0 = tu_cx L a k n m := (hT.cx hK).trans (tu_cx_q e0 e1 e2 e3 (fun _ _ => rfl) (fun _ _ => rfl))
  rw [hc] at hr
  have h0 := hT.rg hK
  rw [hc] at h0
  obtain ⟨-, -, h3⟩ := h
  rcases hr with ⟨r1, r2, -⟩ | ⟨r1, r2, -⟩
  · left
    rcases h3 with ⟨q1, q2, -⟩ | ⟨q1, q2, -⟩
    · exact ⟨r1, q2⟩
    · omega
  · right
    rcases h3 with ⟨q1, q2, -⟩ | ⟨q1, q2, -⟩
    · omega
    · exact ⟨⟨h0.1, r1⟩, by omega⟩
/-- a line on a phrase of the book: small ones -/
def tz_ok (B : Nat → Nat → Int) (l p : Nat) : Prop := tu_BO B ∧ (l : Int) < B 0 1 ∧ (p : Int) < B 0 4 ∧ B 2 l ≤ 5 ∧ B 4 p ≤ 9
theorem tz_ok.g {B : Nat → Nat → Int} {l p : Nat} (h : tz_ok B l p) : tz_G (B 1) (tu_al B l) (tu_kp B p) (tu_nl B l) (tu_np B p) := by
  obtain ⟨hO, hl, hp, h5, h9⟩ := h
  have h1 := hO.2.1 l hl
  have h2 := hO.2.2.2.1 p hp
  obtain ⟨s0, s1, s2, s3⟩ := hO.2.2.2.2.2.2.2
  have e1 : ((tu_nl B l : Nat) : Int) = B 2 l := by unfold tu_nl; omega
  have e2 : ((tu_np B p : Nat) : Int) = B 4 p := by unfold tu_np; omega
  exact ⟨by omega, by omega, s0, s1, s2, s3, fun b hb => hO.2.2.2.2.1 p b hp (by omega), fun s hs => hO.2.2.1 l s hl (by omega)⟩
def tz_W (B : Nat → Nat → Int) (l p : Nat) (w : Nat → Int) : Prop := tz_A (B 1) (tu_al B l) (tu_kp B p) (tu_nl B l) (tu_np B p) (tz_Z (B 1) (tu_al B l) (tu_kp B p) (tu_nl B l) (tu_np B p)) w
theorem tz_W.co {B : Nat → Nat → Int} {l p : Nat} {w : Nat → Int} (h : tz_W B l p w) (g : tz_ok B l p) : (tu_co B l p = 1000000 ∧ w 0 = -6) ∨ ((0 ≤ tu_co B l p ∧ tu_co B l p < 1000000) ∧ w 0 = tu_co B l p) := tz_w0 g.g h
theorem tz_fit {B : Nat → Nat → Int} {l p : Nat} {w : Nat → Int} {x y : Int} (g : tz_ok B l p) (h : tz_W B l p w) (hx : 0 ≤ x ∧ x ≤ 4) (hF : tu_FX B l p x y) : y = w x.toNat := by
  obtain ⟨L, a, k, r, c, hK, hTK, hT, hy⟩ := hF
  have g9 := g.g.2.1
  have hz := tz_Z_q (L' := B 1) (a' := tu_al B l) (k' := tu_kp B p) hK hTK.1.1 hTK.1.2.1 hTK.1.2.2.1 hTK.1.2.2.2 hTK.2.1 hTK.2.2
  have hr := tz_res hK hT g9.2 (fun _ => 0)
  rw [hz] at hr
  obtain ⟨h1, h2, h3⟩ := h
  rcases hr with ⟨r1, r2, r3, r4⟩ | ⟨r1, r2, r3, r4, r5⟩
  · have hy : ((x = 1 ∨ x = 2) ∧ y = 0) ∨ ((x = 0 ∨ x = 3 ∨ x = 4) ∧ y = -6) := by
      rcases hy with q | ⟨q, -⟩
      · exact q.2
      · omega
    rcases h3 with ⟨q1, q2, q3, q4⟩ | ⟨q1, -⟩
    · rcases hy with ⟨z | z, e⟩ | ⟨z | z | z, e⟩ <;> subst z <;> rw [e]
      · show 0 = w 1; omega
      · show 0 = w 2; omega
      · exact q2.symm
      · exact q3.symm
      · exact q4.symm
    · omega
  · have hy2 := hy.resolve_left (fun q => by omega)
    obtain ⟨-, hy2⟩ := hy2
    rcases h3 with ⟨q1, -⟩ | ⟨q0, q1, q2, q3, q4, q5⟩
    · omega
    · have hm8 : ∀ t, t < tu_nl B l → tu_wb L a k r c (tu_np B p) t < tu_np B p ∧ tu_wl L a k r c (tu_np B p) t ≤ 8 := by
        intro t ht
        have hw := ((tu_way hK hT r1 t (by omega)).2 ht).1
        refine ⟨hw, ?_⟩
        unfold tu_wl
        rw [if_pos hw]
        exact (tu_hx_le hK t hw).1
      have hF : ∀ t, t < tu_nl B l → (tz_Z (B 1) (tu_al B l) (tu_kp B p) (tu_nl B l) (tu_np B p)).2.2.2 t % 8 + 1 = tu_wl L a k r c (tu_np B p) t ∧ (tz_Z (B 1) (tu_al B l) (tu_kp B p) (tu_nl B l) (tu_np B p)).2.2.2 t / 8 = tu_wb L a k r c (tu_np B p) t := by
        intro t ht
        have a1 := r5 t ht
        have a2 := hm8 t ht
        omega
      rcases hy2 with ⟨e, ey⟩ | ⟨e, v, hv, ey⟩ | ⟨e, v, hv, ey⟩ | ⟨e, ey⟩ | ⟨e, ey⟩ <;> subst e
      · show y = w 0; omega
      · show y = w 1
        have := r3 v hv
        omega
      · show y = w 2
        have := r4 v hv
        omega
      · show y = w 3
        rw [ey, q2]
        unfold tu_fb tz_fr
        rw [tz_sm_q (f := fun q => if k q = 0 then (0 : Int) else 1) (h := fun q => if tu_kp B p q = 0 then 0 else 1) (fun q hq => by rw [hTK.2.2 q hq]), tz_sm_q (f := fun t => ((tu_wl L a k r c (tu_np B p) t : Nat) : Int)) (h := fun t => (((tz_Z (B 1) (tu_al B l) (tu_kp B p) (tu_nl B l) (tu_np B p)).2.2.2 t % 8 + 1 : Nat) : Int)) (fun t ht => by rw [← (hF t ht).1])]
      · show y = w 4
        rw [ey, q3]
        unfold tu_hs tz_hs
        exact tz_sm_q (fun t ht => by rw [hTK.2.1 t ht, hTK.2.2 _ (hm8 t ht).1, (hF t ht).2])
theorem tz_lie {B : Nat → Nat → Int} {l p s : Nat} {w : Nat → Int} {x y : Int} (g : tz_ok B l p) (h : tz_W B l p w) (hs : s < tu_nl B l) (hF : tu_LX B l p s x y) : (w 0 = -6 ∧ y = -6) ∨ (0 ≤ w 0 ∧ ∃ F : Nat, F < 2147483648 ∧ w (8 + s) = ((F : Nat) : Int) ∧ ((x = 0 ∧ y = ((F / 8 : Nat) : Int)) ∨ (x = 1 ∧ y = ((F % 8 + 1 : Nat) : Int)))) := by
  obtain ⟨L, a, k, r, c, hK, hTK, hT, hy⟩ := hF
  have g9 := g.g.2.1
  have hz := tz_Z_q (L' := B 1) (a' := tu_al B l) (k' := tu_kp B p) hK hTK.1.1 hTK.1.2.1 hTK.1.2.2.1 hTK.1.2.2.2 hTK.2.1 hTK.2.2
  have hr := tz_res hK hT g9.2 (fun _ => 0)
  rw [hz] at hr
  obtain ⟨h1, h2, h3⟩ := h
  rcases hr with ⟨r1, r2, r3, r4⟩ | ⟨r1, r2, r3, r4, r5⟩
  · left
    rcases h3 with ⟨q1, q2, -⟩ | ⟨q1, -⟩
    · refine ⟨q2, ?_⟩
      rcases hy with q | ⟨q, -⟩
      · exact q.2
      · omega
    · omega
  · right
    rcases h3 with ⟨q1, -⟩ | ⟨q0, q1, q2, q3, q4, q5⟩
    · omega
    · have hw := ((tu_way hK hT r1 s (by omega)).2 hs).1
      have h8 : tu_wl L a k r c (tu_np B p) s ≤ 8 := by
        unfold tu_wl
        rw [if_pos hw]
        exact (tu_hx_le hK s hw).1
      have a1 := r5 s hs
      refine ⟨by omega, _, ?_, q4 s hs, ?_⟩
      · omega
      · rcases hy with ⟨q, -⟩ | ⟨-, ⟨e, ey⟩ | ⟨e, ey⟩⟩
        · omega
        · left; refine ⟨e, ?_⟩; rw [ey]; omega
        · right; refine ⟨e, ?_⟩; rw [ey]; omega
