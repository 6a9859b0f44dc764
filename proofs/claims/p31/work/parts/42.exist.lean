/-! tables there are -/
theorem tu_t0_nn {L k : Nat → Int} {m : Nat} (h : 0 ≤ L 2 ∧ L 2 ≤ 9) : ∀ e : Nat, 0 ≤ tu_t0 L k m e ∧ tu_t0 L k m e ≤ 9 * (e : Int)
  | 0 => ⟨Int.le_refl _, Int.le_refl _⟩
  | e + 1 => by
    have := tu_t0_nn (L := L) (k := k) (m := m) h e
    unfold tu_t0
    split <;> omega
theorem tu_mn_lo {i : Int} {f : Nat → Int} : ∀ n, 0 ≤ i → (∀ h, 1 ≤ h → h ≤ n → 0 ≤ f h) → 0 ≤ tu_mn i f n
  | 0, h, _ => h
  | n + 1, h, g => by
    have := tu_mn_lo n h (fun q h1 h2 => g q h1 (by omega))
    have := g (n + 1) (by omega) (Nat.le_refl _)
    unfold tu_mn; omega
theorem tu_t_nn {L a k : Nat → Int} {q : Nat → Nat} {n m : Nat} (h1 : 0 ≤ L 1) (h2 : 0 ≤ L 2 ∧ L 2 ≤ 9) (h3 : 0 ≤ L 3) : ∀ d e : Nat, 0 ≤ tu_t L a k q n m d e
  | 0, e => (tu_t0_nn h2 e).1
  | d + 1, e => by
    have ih := tu_t_nn (L := L) (a := a) (k := k) (q := q) (n := n) (m := m) h1 h2 h3 d
    show 0 ≤ tu_t1 L a k q m (n - (d + 1)) (tu_t L a k q n m d) e
    induction e with
    | zero => show (0 : Int) ≤ 1000000; decide
    | succ e ie =>
      unfold tu_t1
      have hb := tu_mn_lo (i := tu_t1 L a k q m (n - (d + 1)) (tu_t L a k q n m d) e + (if k (m - (e + 1)) = 0 then 0 else L 2)) (f := fun h => tu_t L a k q n m d (e + 1 - h) + L 1 * ((h : Int) - 1) + (if ¬ (a (n - (d + 1)) = 1 ↔ k (m - (e + 1)) = 2) then L 3 else 0)) (q (m - (e + 1))) (by split <;> omega) (fun h g1 g2 => by
        show 0 ≤ tu_t L a k q n m d (e + 1 - h) + L 1 * ((h : Int) - 1) + (if ¬ (a (n - (d + 1)) = 1 ↔ k (m - (e + 1)) = 2) then L 3 else 0)
        have := ih (e + 1 - h)
        have : 0 ≤ L 1 * ((h : Int) - 1) := Int.mul_nonneg h1 (by omega)
        split <;> omega)
      omega
theorem tu_RO_rd (k : Nat → Int) (m : Nat) : tu_RO k (fun b => tu_rd k m (m - b)) m := by
  refine ⟨by show tu_rd k m (m - m) = 0; rw [Nat.sub_self]; rfl, fun b hb => ?_⟩
  show tu_rd k m (m - b) = if k b = 0 then 0 else tu_rd k m (m - (b + 1)) + 1
  rw [show m - b = (m - (b + 1)) + 1 by omega]
  show (if k (m - ((m - (b + 1)) + 1)) = 0 then 0 else tu_rd k m (m - (b + 1)) + 1) = _
  rw [show m - ((m - (b + 1)) + 1) = b by omega]
theorem tu_ex {L a k : Nat → Int} {n m : Nat} (g : (L 4 = (n : Int) ∧ L 5 = (m : Int)) ∧ (1 ≤ n ∧ n ≤ 16) ∧ (1 ≤ m ∧ m ≤ 24) ∧ (1 ≤ L 0 ∧ L 0 ≤ 8) ∧ (0 ≤ L 1 ∧ L 1 ≤ 9) ∧ (0 ≤ L 2 ∧ L 2 ≤ 9) ∧ (0 ≤ L 3 ∧ L 3 ≤ 20) ∧ (∀ b, b < m → 0 ≤ k b ∧ k b ≤ 2) ∧ (∀ s, s < n → a s = 0 ∨ a s = 1)) : ∃ r c, tu_LK L a k r n m ∧ tu_Tx L a k r n m c := by
  obtain ⟨g1, g2, g3, g4, g5, g6, g7, g8, g9⟩ := g
  have hK : tu_LK L a k (fun b => tu_rd k m (m - b)) n m := ⟨g1, g2, g3, g4, g5, g6, g7, g8, g9, tu_RO_rd k m⟩
  have nn := tu_t_nn (L := L) (a := a) (k := k) (q := tu_qm (L 0) k m) (n := n) (m := m) g5.1 g6 g7.1
  obtain ⟨c, hc⟩ : ∃ c : Nat → Int, ∀ s b, s ≤ n → b ≤ m → c (s * 25 + b) = tu_t L a k (tu_qm (L 0) k m) n m (n - s) (m - b) :=
    ⟨fun i => tu_t L a k (tu_qm (L 0) k m) n m (n - i / 25) (m - i % 25), fun s b hs hb => by
      show tu_t _ _ _ _ _ _ (n - (s * 25 + b) / 25) (m - (s * 25 + b) % 25) = _
      rw [show (s * 25 + b) / 25 = s by omega, show (s * 25 + b) % 25 = b by omega]⟩
  refine ⟨_, c, hK, ⟨?_, fun b _ hb => ?_⟩, fun s _ hs => ⟨?_, fun b _ hb => ?_⟩⟩
  · rw [hc n m (Nat.le_refl _) (Nat.le_refl _), Nat.sub_self, Nat.sub_self]; rfl
  · rw [hc n b (Nat.le_refl _) (by omega), Nat.sub_self]
    have w := tu_t0_nn (L := L) (k := k) (m := m) g6 (m - b)
    refine ⟨?_, w.1, by show tu_t0 L k m (m - b) ≤ _; have := w.2; omega⟩
    unfold tu_cf
    rw [show n * 25 + b + 1 = n * 25 + (b + 1) by omega, hc n (b + 1) (Nat.le_refl _) hb, Nat.sub_self, show m - b = (m - (b + 1)) + 1 by omega]
    show tu_t0 L k m (m - (b + 1)) + (if k (m - ((m - (b + 1)) + 1)) = 0 then 0 else L 2) = _
    rw [show m - ((m - (b + 1)) + 1) = b by omega]; rfl
  · rw [hc s m (by omega) (Nat.le_refl _), Nat.sub_self, show n - s = (n - (s + 1)) + 1 by omega]; rfl
  · refine ⟨?_, by rw [hc s b (by omega) (by omega)]; exact nn _ _⟩
    have hm := tu_mh_le hK hb
    rw [hc s b (by omega) (by omega), show n - s = (n - (s + 1)) + 1 by omega, show m - b = (m - (b + 1)) + 1 by omega]
    show min (tu_mn (tu_t1 L a k (tu_qm (L 0) k m) m (n - (n - (s + 1) + 1)) (tu_t L a k (tu_qm (L 0) k m) n m (n - (s + 1))) (m - (b + 1)) + (if k (m - (m - (b + 1) + 1)) = 0 then 0 else L 2)) (fun h => tu_t L a k (tu_qm (L 0) k m) n m (n - (s + 1)) (m - (b + 1) + 1 - h) + L 1 * ((h : Int) - 1) + (if ¬ (a (n - (n - (s + 1) + 1)) = 1 ↔ k (m - (m - (b + 1) + 1)) = 2) then L 3 else 0)) (tu_qm (L 0) k m (m - (m - (b + 1) + 1)))) 1000000 = _
    rw [show m - (m - (b + 1) + 1) = b by omega, show n - (n - (s + 1) + 1) = s by omega]
    refine congrArg (fun x => min x 1000000) (tu_mn_i ?_ (fun h h1 h2 => ?_))
    · unfold tu_cf
      rw [show s * 25 + b + 1 = s * 25 + (b + 1) by omega, hc s (b + 1) (by omega) hb, show n - s = (n - (s + 1)) + 1 by omega]
      show _ = tu_t1 L a k (tu_qm (L 0) k m) m (n - (n - (s + 1) + 1)) (tu_t L a k (tu_qm (L 0) k m) n m (n - (s + 1))) (m - (b + 1)) + _
      rw [show n - (n - (s + 1) + 1) = s by omega]
    · have h2' : h ≤ tu_mh L (fun b => tu_rd k m (m - b)) b := h2
      unfold tu_ch
      rw [show (s + 1) * 25 + b + h = (s + 1) * 25 + (b + h) by omega, hc (s + 1) (b + h) (by omega) (by omega), show m - (b + 1) + 1 - h = m - (b + h) by omega]
theorem tu_exB {B : Nat → Nat → Int} {l p : Nat} (hO : tu_BO B) (hl : (l : Int) < B 0 1) (hp : (p : Int) < B 0 4) : ∃ L a k r c, tu_LK L a k r (tu_nl B l) (tu_np B p) ∧ tu_TK B l p L a k ∧ tu_Tx L a k r (tu_nl B l) (tu_np B p) c := by
  have h1 := hO.2.1 l hl
  have h2 := hO.2.2.2.1 p hp
  obtain ⟨s0, s1, s2, s3⟩ := hO.2.2.2.2.2.2.2
  have e1 : ((tu_nl B l : Nat) : Int) = B 2 l := by unfold tu_nl; omega
  have e2 : ((tu_np B p : Nat) : Int) = B 4 p := by unfold tu_np; omega
  obtain ⟨r, c, hK, hT⟩ := tu_ex (L := fun i => if i = 4 then ((tu_nl B l : Nat) : Int) else if i = 5 then ((tu_np B p : Nat) : Int) else B 1 i) (a := tu_al B l) (k := tu_kp B p) (n := tu_nl B l) (m := tu_np B p)
    ⟨⟨rfl, rfl⟩, by omega, by omega, s0, s1, s2, s3, fun b hb => hO.2.2.2.2.1 p b hp (by omega), fun s hs => hO.2.2.1 l s hl (by omega)⟩
  exact ⟨_, _, _, r, c, hK, ⟨⟨rfl, rfl, rfl, rfl⟩, fun _ _ => rfl, fun _ _ => rfl⟩, hT⟩
