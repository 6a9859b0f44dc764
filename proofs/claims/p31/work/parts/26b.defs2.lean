def tu_fb (L a k r c : Nat → Int) (n m : Nat) : Int := tu_sm (fun q => if k q = 0 then 0 else 1) m - tu_sm (fun t => ((tu_wl L a k r c m t : Nat) : Int)) n
def tu_hs (L a k r c : Nat → Int) (n m : Nat) : Int := tu_sm (fun t => if ¬ (a t = 1 ↔ k (tu_wb L a k r c m t) = 2) then 1 else 0) n
def tu_FX (B : Nat → Nat → Int) (l p : Nat) (w y : Int) : Prop := ∃ L a k r c, tu_LK L a k r (tu_nl B l) (tu_np B p) ∧ tu_TK B l p L a k ∧ tu_Tx L a k r (tu_nl B l) (tu_np B p) c ∧ ((c 0 = 1000000 ∧ (((w = 1 ∨ w = 2) ∧ y = 0) ∨ ((w = 0 ∨ w = 3 ∨ w = 4) ∧ y = -6))) ∨ (c 0 < 1000000 ∧ ((w = 0 ∧ y = c 0) ∨ (w = 1 ∧ ∃ v, tu_Vx L a k r c 0 (tu_nl B l) (tu_np B p) v ∧ y = v 0) ∨ (w = 2 ∧ ∃ v, tu_Vx L a k r c 1 (tu_nl B l) (tu_np B p) v ∧ y = v 0) ∨ (w = 3 ∧ y = tu_fb L a k r c (tu_nl B l) (tu_np B p)) ∨ (w = 4 ∧ y = tu_hs L a k r c (tu_nl B l) (tu_np B p)))))
def tu_LX (B : Nat → Nat → Int) (l p s : Nat) (w y : Int) : Prop := ∃ L a k r c, tu_LK L a k r (tu_nl B l) (tu_np B p) ∧ tu_TK B l p L a k ∧ tu_Tx L a k r (tu_nl B l) (tu_np B p) c ∧ ((c 0 = 1000000 ∧ y = -6) ∨ (c 0 < 1000000 ∧ ((w = 0 ∧ y = ((tu_wb L a k r c (tu_np B p) s : Nat) : Int)) ∨ (w = 1 ∧ y = ((tu_wl L a k r c (tu_np B p) s : Nat) : Int)))))
theorem tu_rem_n {a b : Nat} (ha : a < 2147483648) (h0 : 0 < b) (hb : b < 2147483648) : tu_rem (a : Int) (b : Int) = ((a % b : Nat) : Int) := by
  unfold tu_rem
  rw [tu_J_n, tu_J_n, pk_rem (by omega) h0 (by omega)]
  have : a % b < b := Nat.mod_lt _ h0
  rw [nI_toInt (by omega)]
/-- the cost of a place of the ballad on the tune -/
def tu_wk (B : Nat → Nat → Int) (q : Nat) : Int := tu_co B (B 6 q).toNat (B 7 (q % (B 0 9).toNat)).toNat
def tu_gp (f : Nat → Int) : Nat → Int × Int
  | 0 => (-1, -6)
  | k + 1 => if f k < 1000000 ∧ (tu_gp f k).1 < f k then (f k, (k : Int)) else tu_gp f k
/-- the phrase with the fewest lines that cannot be laid, then the least sum -/
def tu_uq (B : Nat → Nat → Int) (q : Nat) : Nat → Int := tu_sm (fun j => if tu_co B j q < 1000000 then 0 else tu_ti (B 6) (j : Int) (B 0 7).toNat)
def tu_sq2 (B : Nat → Nat → Int) (q : Nat) : Nat → Int := tu_sm (fun j => if tu_co B j q < 1000000 then tu_ti (B 6) (j : Int) (B 0 7).toNat * tu_co B j q else 0)
def tu_bq (B : Nat → Nat → Int) (n : Nat) : Nat → Int × Int × Int
  | 0 => (-6, 0, 0)
  | q + 1 => if (tu_bq B n q).1 = -6 ∨ tu_uq B q n < (tu_bq B n q).2.1 ∨ (tu_uq B q n = (tu_bq B n q).2.1 ∧ tu_sq2 B q n < (tu_bq B n q).2.2) then ((q : Int), tu_uq B q n, tu_sq2 B q n) else tu_bq B n q
theorem tu_bq_s (B : Nat → Nat → Int) (n q : Nat) : tu_bq B n (q + 1) = if (tu_bq B n q).1 = -6 ∨ tu_uq B q n < (tu_bq B n q).2.1 ∨ (tu_uq B q n = (tu_bq B n q).2.1 ∧ tu_sq2 B q n < (tu_bq B n q).2.2) then ((q : Int), tu_uq B q n, tu_sq2 B q n) else tu_bq B n q := rfl
theorem tu_uq_s (B : Nat → Nat → Int) (q j : Nat) : tu_uq B q (j + 1) = tu_uq B q j + (if tu_co B j q < 1000000 then 0 else tu_ti (B 6) (j : Int) (B 0 7).toNat) := rfl
theorem tu_sq2_s (B : Nat → Nat → Int) (q j : Nat) : tu_sq2 B q (j + 1) = tu_sq2 B q j + (if tu_co B j q < 1000000 then tu_ti (B 6) (j : Int) (B 0 7).toNat * tu_co B j q else 0) := rfl
theorem tu_prod {a b : Int} (ha : 0 ≤ a ∧ a ≤ 40) (hb : 0 ≤ b ∧ b ≤ 1000000) : 0 ≤ a * b ∧ a * b ≤ 40000000 := by
  refine ⟨Int.mul_nonneg ha.1 hb.1, ?_⟩
  have h := Int.mul_le_mul ha.2 hb.2 hb.1 (show (0 : Int) ≤ 40 by decide)
  omega
theorem tu_sm_bd {f : Nat → Int} {B : Int} : ∀ {n : Nat}, (∀ k, k < n → 0 ≤ f k ∧ f k ≤ B) → 0 ≤ tu_sm f n ∧ tu_sm f n ≤ B * n
  | 0, _ => ⟨Int.le_refl _, by simp [tu_sm]⟩
  | n + 1, h => by
    have ih := tu_sm_bd (f := f) (B := B) (n := n) (fun k hk => h k (by omega))
    have g := h n (Nat.lt_succ_self n)
    have e : B * ((n + 1 : Nat) : Int) = B * (n : Int) + B := by
      rw [Int.natCast_add, Int.mul_add]; simp
    unfold tu_sm
    omega
/-- another stress, another breath -/
def tu_bc (B : Nat → Nat → Int) (l p s : Nat) : Int := tu_cx (B 1) (tu_u (tu_al B l) s (1 - tu_al B l s)) (tu_kp B p) (tu_nl B l) (tu_np B p)
def tu_eb (B : Nat → Nat → Int) (l p q : Nat) : Int := tu_cx (tu_u (B 1) 0 ((q : Int) + 1)) (tu_al B l) (tu_kp B p) (tu_nl B l) (tu_np B p)
theorem tu_LK_turn {L a k r : Nat → Int} {n m s : Nat} (h : tu_LK L a k r n m) (hs : s < n) : tu_LK L (tu_u a s (1 - a s)) k r n m := by
  obtain ⟨h1, h2, h3, h4, h5, h6, h7, h8, h9, h10⟩ := h
  refine ⟨h1, h2, h3, h4, h5, h6, h7, h8, fun t ht => ?_, h10⟩
  rw [tu_u_if]
  split
  · have := h9 s hs; omega
  · exact h9 t ht
theorem tu_LK_br {L L' a k r : Nat → Int} {n m q : Nat} (h : tu_LK L a k r n m) (hi : ∀ i, i ≠ 0 → L' i = L i) (hq : q < 8) : tu_LK (tu_u L' 0 (((q + 1 : Nat)) : Int)) a k r n m := by
  obtain ⟨h1, h2, h3, h4, h5, h6, h7, h8, h9, h10⟩ := h
  refine ⟨⟨by rw [tu_u_n _ _ (by decide), hi _ (by decide)]; exact h1.1, by rw [tu_u_n _ _ (by decide), hi _ (by decide)]; exact h1.2⟩, h2, h3, by rw [tu_u_s]; omega, ?_, ?_, ?_, h8, h9, h10⟩ <;> (rw [tu_u_n _ _ (by decide), hi _ (by decide)]; assumption)
theorem tu_TK.bc {B : Nat → Nat → Int} {l p s : Nat} {L a k r c : Nat → Int} (h : tu_TK B l p L a k) (hK : tu_LK L a k r (tu_nl B l) (tu_np B p)) (hs : s < tu_nl B l) (hT : tu_Tx L (tu_u a s (1 - a s)) k r (tu_nl B l) (tu_np B p) c) : c 0 = tu_bc B l p s := by
  rw [hT.cx (tu_LK_turn hK hs)]
  refine tu_cx_q h.1.1 h.1.2.1 h.1.2.2.1 h.1.2.2.2 (fun t ht => ?_) h.2.2
  rw [tu_u_if, tu_u_if, h.2.1 s hs]
  split
  · rfl
  · exact h.2.1 t ht
theorem tu_TK.eb {B : Nat → Nat → Int} {l p q : Nat} {L L' a k r c : Nat → Int} (h : tu_TK B l p L a k) (hK : tu_LK L a k r (tu_nl B l) (tu_np B p)) (hi : ∀ i, i ≠ 0 → L' i = L i) (hq : q < 8) (hT : tu_Tx (tu_u L' 0 (((q + 1 : Nat)) : Int)) a k r (tu_nl B l) (tu_np B p) c) : c 0 = tu_eb B l p q := by
  rw [hT.cx (tu_LK_br hK hi hq)]
  refine tu_cx_q ?_ ?_ ?_ ?_ h.2.1 h.2.2
  · rw [tu_u_s, tu_u_s]; rfl
  · rw [tu_u_n _ _ (by decide), tu_u_n _ _ (by decide), hi _ (by decide), h.1.2.1]
  · rw [tu_u_n _ _ (by decide), tu_u_n _ _ (by decide), hi _ (by decide), h.1.2.2.1]
  · rw [tu_u_n _ _ (by decide), tu_u_n _ _ (by decide), hi _ (by decide), h.1.2.2.2]
def tu_b1' (z : Int) (f : Nat → Int) (k : Nat) : Int := if (tu_bp z f k).1 = -6 then -6 else (tu_bp z f k).1 + 1
theorem tu_b1_hit {z : Int} {f : Nat → Int} {k : Nat} (h : f k < (tu_bp z f k).2) : tu_b1' z f (k + 1) = (k : Int) + 1 := by
  unfold tu_b1'
  have e : tu_bp z f (k + 1) = ((k : Int), f k) := by
    show (if _ then _ else _) = _
    rw [if_pos h]
  rw [e, if_neg (by show ¬ (k : Int) = -6; omega)]
theorem tu_b1_miss {z : Int} {f : Nat → Int} {k : Nat} (h : (tu_bp z f k).2 ≤ f k) : tu_b1' z f (k + 1) = tu_b1' z f k := by
  unfold tu_b1'
  have e : tu_bp z f (k + 1) = tu_bp z f k := by
    show (if _ then _ else _) = _
    rw [if_neg (by omega)]
  rw [e]
