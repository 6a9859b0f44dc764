theorem tu_pick {f : Nat → Int} {z : Int} : ∀ n : Nat, 0 ≤ z → z < (n : Int) → tu_sm (fun j => if z = (j : Int) then f j else 0) n = f z.toNat
  | 0, h1, h2 => absurd h2 (by omega)
  | n + 1, h1, h2 => by
    show tu_sm (fun j => if z = (j : Int) then f j else 0) n + (if z = (n : Int) then f n else 0) = _
    by_cases e : z = (n : Int)
    · have g : ∀ k, k ≤ n → tu_sm (fun j => if z = (j : Int) then f j else 0) k = 0 := by
        intro k
        induction k with
        | zero => intro _; rfl
        | succ k ih =>
          intro hk
          show _ + (if z = (k : Int) then f k else 0) = 0
          rw [ih (by omega), if_neg (by omega)]; rfl
      rw [g n (Nat.le_refl _), if_pos e, Int.zero_add, show z.toNat = n by omega]
    · rw [tu_pick n h1 (by omega), if_neg e, Int.add_zero]
theorem tu_sm_add {f g : Nat → Int} : ∀ n, tu_sm (fun j => f j + g j) n = tu_sm f n + tu_sm g n
  | 0 => rfl
  | n + 1 => by
    show tu_sm (fun j => f j + g j) n + (f n + g n) = (tu_sm f n + f n) + (tu_sm g n + g n)
    rw [tu_sm_add n]; omega
theorem tu_sm_q {f g : Nat → Int} : ∀ n, (∀ j, j < n → f j = g j) → tu_sm f n = tu_sm g n
  | 0, _ => rfl
  | n + 1, h => by
    show tu_sm f n + f n = tu_sm g n + g n
    rw [tu_sm_q n (fun j hj => h j (by omega)), h n (by omega)]
theorem tu_dbl {g f : Nat → Int} {n : Nat} : ∀ N, (∀ k, k < N → 0 ≤ g k ∧ g k < (n : Int)) → tu_sm (fun k => f (g k).toNat) N = tu_sm (fun j => tu_ti g (j : Int) N * f j) n
  | 0, _ => by
    have z : ∀ k, tu_sm (fun j => tu_ti g (j : Int) 0 * f j) k = 0 := by
      intro k
      induction k with
      | zero => rfl
      | succ k ih => show _ + (0 : Int) * f k = 0; rw [ih, Int.zero_mul]; rfl
    rw [z]; rfl
  | N + 1, h => by
    have b := h N (by omega)
    show tu_sm (fun k => f (g k).toNat) N + f (g N).toNat = _
    rw [tu_dbl N (fun k hk => h k (by omega)), ← tu_pick (f := f) n b.1 b.2, ← tu_sm_add]
    refine tu_sm_q n (fun j hj => ?_)
    show tu_ti g (j : Int) N * f j + _ = (tu_ti g (j : Int) N + (if g N = (j : Int) then 1 else 0)) * f j
    rw [Int.add_mul]
    by_cases e : g N = (j : Int)
    · rw [if_pos e, if_pos e, Int.one_mul]
    · rw [if_neg e, if_neg e, Int.zero_mul]
theorem tu_uq_b {B : Nat → Nat → Int} {q : Nat} (hO : tu_BO B) : tu_sm (fun x9 => if tu_co B (B 6 x9).toNat q < 1000000 then 0 else 1) (B 0 7).toNat = tu_uq B q (B 0 1).toNat := by
  have c := hO.1
  have e := tu_dbl (g := B 6) (f := fun j => if tu_co B j q < 1000000 then 0 else 1) (n := (B 0 1).toNat) (B 0 7).toNat (fun k hk => by have := hO.2.2.2.2.2.1 k (by omega); omega)
  refine e.trans (tu_sm_q _ (fun j hj => ?_))
  show _ * (if tu_co B j q < 1000000 then (0 : Int) else 1) = if tu_co B j q < 1000000 then 0 else _
  split
  · rw [Int.mul_zero]
  · rw [Int.mul_one]
theorem tu_sq_b {B : Nat → Nat → Int} {q : Nat} (hO : tu_BO B) : tu_sm (fun x9 => if tu_co B (B 6 x9).toNat q < 1000000 then tu_co B (B 6 x9).toNat q else 0) (B 0 7).toNat = tu_sq2 B q (B 0 1).toNat := by
  have c := hO.1
  have e := tu_dbl (g := B 6) (f := fun j => if tu_co B j q < 1000000 then tu_co B j q else 0) (n := (B 0 1).toNat) (B 0 7).toNat (fun k hk => by have := hO.2.2.2.2.2.1 k (by omega); omega)
  refine e.trans (tu_sm_q _ (fun j hj => ?_))
  show _ * (if tu_co B j q < 1000000 then tu_co B j q else 0) = if tu_co B j q < 1000000 then _ * _ else 0
  split
  · rfl
  · rw [Int.mul_zero]
set_option maxRecDepth 20000 in
set_option maxHeartbeats 400000 in
theorem c_X4_bestPhrase {M : tu_M} (B : Nat → Nat → Int)  (hO : tu_BO B) (hR : tu_MB B (M 87)) : tu_MI tu_Y_X4_bestPhrase [tu_r 86] M (fun z M' => ∃ (y : Int), (tu_sd M M') ∧ (y = (tu_bq B (B 0 1).toNat (B 0 4).toNat).1) ∧ z = y) := by
  have cn := hO.1
  refine tu_MI.of (ty := .int) (by decide) rfl (by first | exact Or.inl rfl | exact Or.inr rfl) (Nat.le_of_ble_eq_true rfl) (fun T (X : tu_X T cX4_bestPhrase RX4 6 135) hnl hrt hret => ?_)
  have hret : tu_RI T cX4_bestPhrase (fun z M' => ∃ (y : Int), (tu_sd M M') ∧ (y = (tu_bq B (B 0 1).toNat (B 0 4).toNat).1) ∧ z = y) := hret
  have hnl : T.2.2.2.2.2.2.2.2.2.2.1 = 9 := hnl
  show tu_W T 0 [(0, tu_r 86)] [] M
  refine tu_bipush 0 X dX4_bestPhrase_0 (by decide) ?_
  refine tu_istore_n 2 X (lv' := [(1, tu_i (-6)), (0, tu_r 86)]) dX4_bestPhrase_2 (by rw [hnl]; decide) rfl ?_
  refine tu_iconst 3 X dX4_bestPhrase_3 ?_
  refine tu_istore_n 4 X (lv' := [(2, tu_i 0), (1, tu_i (-6)), (0, tu_r 86)]) dX4_bestPhrase_4 (by rw [hnl]; decide) rfl ?_
  refine tu_iconst 5 X dX4_bestPhrase_5 ?_
  refine tu_istore_n 6 X (lv' := [(3, tu_i 0), (2, tu_i 0), (1, tu_i (-6)), (0, tu_r 86)]) dX4_bestPhrase_6 (by rw [hnl]; decide) rfl ?_
  refine tu_iconst 7 X dX4_bestPhrase_7 ?_
  refine tu_istore 8 X (lv' := [(4, tu_i 0), (3, tu_i 0), (2, tu_i 0), (1, tu_i (-6)), (0, tu_r 86)]) dX4_bestPhrase_8 (by rw [hnl]; decide) rfl ?_
  refine tu_st_eq rfl (M' := tu_row M 86 (M 86)) ((tu_rx M 86).symm) ?_
  refine tu_st_eq rfl (M' := tu_row (tu_row M 86 (M 86)) 92 (M 92)) ((congrArg (fun m => tu_row m 86 (M 86)) ((tu_rx M 92).symm)).trans (tu_rc M (M 92) (M 86) rfl)) ?_
  refine tu_st_eq rfl (M' := tu_row (tu_row (tu_row M 86 (M 86)) 92 (M 92)) 93 (M 93)) ((congrArg (fun m => tu_row m 92 (M 92)) ((congrArg (fun m => tu_row m 86 (M 86)) ((tu_rx M 93).symm)).trans (tu_rc M (M 93) (M 86) rfl))).trans (tu_rc (tu_row M 86 (M 86)) (M 93) (M 92) rfl)) ?_
  refine tu_st_eq rfl (M' := tu_row (tu_row (tu_row (tu_row M 86 (M 86)) 92 (M 92)) 93 (M 93)) 94 (M 94)) ((congrArg (fun m => tu_row m 93 (M 93)) ((congrArg (fun m => tu_row m 92 (M 92)) ((congrArg (fun m => tu_row m 86 (M 86)) ((tu_rx M 94).symm)).trans (tu_rc M (M 94) (M 86) rfl))).trans (tu_rc (tu_row M 86 (M 86)) (M 94) (M 92) rfl))).trans (tu_rc (tu_row (tu_row M 86 (M 86)) 92 (M 92)) (M 94) (M 93) rfl)) ?_
  have lp10 : ∀ (nq : Nat) (p : Nat) (r9 : Nat → Int) (C : Nat → Int) (W : Nat → Int) (U : Nat → Int), ((p : Int) ≤ B 0 4) → (r9 2 = M 86 2 ∧ r9 6 = M 86 6) → ((-6 ≤ (tu_bq B (B 0 1).toNat p).1 ∧ (tu_bq B (B 0 1).toNat p).1 ≤ p) ∧ (0 ≤ (tu_bq B (B 0 1).toNat p).2.1 ∧ (tu_bq B (B 0 1).toNat p).2.1 ≤ 40) ∧ 0 ≤ (tu_bq B (B 0 1).toNat p).2.2 ∧ (tu_bq B (B 0 1).toNat p).2.2 ≤ 40000000) → (B 0 4).toNat - p < nq → tu_W T 10 [(0, tu_r 86), (1, tu_i ((tu_bq B (B 0 1).toNat p).1)), (2, tu_i ((tu_bq B (B 0 1).toNat p).2.1)), (3, tu_i ((tu_bq B (B 0 1).toNat p).2.2)), (4, tu_i ((p : Nat) : Int))] [] (tu_row (tu_row (tu_row (tu_row M 86 r9) 92 C) 93 W) 94 U) := by
    intro nq
    induction nq with
    | zero => intros; omega
    | succ nq ih10 =>
      intro p r9 C W U hp h9 hb hn10
      refine tu_iload 10 X 4 dX4_bestPhrase_10 rfl ?_
      refine tu_aload_n 12 X 0 dX4_bestPhrase_12 rfl ?_
      refine tu_getR 13 X dX4_bestPhrase_13 fl_RX4_7 (by decide) rfl rfl ?_
      refine tu_iconst 16 X dX4_bestPhrase_16 ?_
      refine tu_iald 17 X (x := M 87 5) 5 dX4_bestPhrase_17 (by decide) rfl (by decide) rfl (by decide) rfl ?_
      refine tu_tp (b := (B 0 4)) (by exact hR.n5) ?_
      refine tu_icmp_ge 18 X 174 dX4_bestPhrase_18 (by decide) (show tu_rg ((p : Nat) : Int) from by first | assumption | exact ⟨by omega, by omega⟩) (show tu_rg (B 0 4) from by first | assumption | exact ⟨by omega, by omega⟩) (fun br18 => ?_) (fun br18 => ?_)
      ·
        refine tu_iload_n 174 X 1 dX4_bestPhrase_174 rfl ?_
        refine hret 175 _ _ ((tu_bq B (B 0 1).toNat p).1) dX4_bestPhrase_175 (fun h => by rw [hrt] at h; cases h) ?_
        exact ⟨_, ((((tu_sd.rf _).r86 h9).row _ (by decide)).row _ (by decide)).row _ (by decide), by rw [show (B 0 4).toNat = p from by omega], rfl⟩
      ·
        refine tu_iconst 21 X dX4_bestPhrase_21 ?_
        refine tu_istore 22 X (lv' := [(5, tu_i 0), (0, tu_r 86), (1, tu_i ((tu_bq B (B 0 1).toNat p).1)), (2, tu_i ((tu_bq B (B 0 1).toNat p).2.1)), (3, tu_i ((tu_bq B (B 0 1).toNat p).2.2)), (4, tu_i ((p : Nat) : Int))]) dX4_bestPhrase_22 (by rw [hnl]; decide) rfl ?_
        refine tu_iconst 24 X dX4_bestPhrase_24 ?_
        refine tu_istore 25 X (lv' := [(6, tu_i 0), (5, tu_i 0), (0, tu_r 86), (1, tu_i ((tu_bq B (B 0 1).toNat p).1)), (2, tu_i ((tu_bq B (B 0 1).toNat p).2.1)), (3, tu_i ((tu_bq B (B 0 1).toNat p).2.2)), (4, tu_i ((p : Nat) : Int))]) dX4_bestPhrase_25 (by rw [hnl]; decide) rfl ?_
        refine tu_iconst 27 X dX4_bestPhrase_27 ?_
        refine tu_istore 28 X (lv' := [(7, tu_i 0), (6, tu_i 0), (5, tu_i 0), (0, tu_r 86), (1, tu_i ((tu_bq B (B 0 1).toNat p).1)), (2, tu_i ((tu_bq B (B 0 1).toNat p).2.1)), (3, tu_i ((tu_bq B (B 0 1).toNat p).2.2)), (4, tu_i ((p : Nat) : Int))]) dX4_bestPhrase_28 (by rw [hnl]; decide) rfl ?_
        have lp30 : ∀ (nq : Nat) (q : Nat) (r9 : Nat → Int) (C : Nat → Int) (W : Nat → Int) (U : Nat → Int), ((q : Int) ≤ B 0 7) → (r9 2 = M 86 2 ∧ r9 6 = M 86 6) → ((0 ≤ tu_sm (fun x9 => if tu_co B (B 6 x9).toNat p < 1000000 then 0 else 1) q ∧ tu_sm (fun x9 => if tu_co B (B 6 x9).toNat p < 1000000 then 0 else 1) q ≤ q) ∧ 0 ≤ tu_sm (fun x9 => if tu_co B (B 6 x9).toNat p < 1000000 then tu_co B (B 6 x9).toNat p else 0) q ∧ tu_sm (fun x9 => if tu_co B (B 6 x9).toNat p < 1000000 then tu_co B (B 6 x9).toNat p else 0) q ≤ 1000000 * (q : Int)) → (B 0 7).toNat - q < nq → tu_W T 30 [(0, tu_r 86), (1, tu_i ((tu_bq B (B 0 1).toNat p).1)), (2, tu_i ((tu_bq B (B 0 1).toNat p).2.1)), (3, tu_i ((tu_bq B (B 0 1).toNat p).2.2)), (4, tu_i ((p : Nat) : Int)), (5, tu_i (tu_sm (fun x9 => if tu_co B (B 6 x9).toNat p < 1000000 then 0 else 1) q)), (6, tu_i (tu_sm (fun x9 => if tu_co B (B 6 x9).toNat p < 1000000 then tu_co B (B 6 x9).toNat p else 0) q)), (7, tu_i ((q : Nat) : Int))] [] (tu_row (tu_row (tu_row (tu_row M 86 r9) 92 C) 93 W) 94 U) := by
          intro nq
          induction nq with
          | zero => intros; omega
          | succ nq ih30 =>
            intro q r9 C W U hq h9 hs hn30
            refine tu_iload 30 X 7 dX4_bestPhrase_30 rfl ?_
            refine tu_aload_n 32 X 0 dX4_bestPhrase_32 rfl ?_
            refine tu_getR 33 X dX4_bestPhrase_33 fl_RX4_7 (by decide) rfl rfl ?_
            refine tu_bipush 36 X dX4_bestPhrase_36 (by decide) ?_
            refine tu_iald 38 X (x := M 87 6) 6 dX4_bestPhrase_38 (by decide) rfl (by decide) rfl (by decide) rfl ?_
            refine tu_tp (b := (B 0 7)) (by exact hR.n6) ?_
            refine tu_icmp_ge 39 X 101 dX4_bestPhrase_39 (by decide) (show tu_rg ((q : Nat) : Int) from by first | assumption | exact ⟨by omega, by omega⟩) (show tu_rg (B 0 7) from by first | assumption | exact ⟨by omega, by omega⟩) (fun br39 => ?_) (fun br39 => ?_)
            ·
              have eq7 : (B 0 7).toNat = q := by omega
              have eu := tu_uq_b (B := B) (q := p) hO
              have es := tu_sq_b (B := B) (q := p) hO
              rw [eq7] at eu es
              refine tu_iload_n 101 X 1 dX4_bestPhrase_101 rfl ?_
              refine tu_bipush 102 X dX4_bestPhrase_102 (by decide) ?_
              refine tu_icmp_eq 104 X 125 dX4_bestPhrase_104 (by decide) (show tu_rg ((tu_bq B (B 0 1).toNat p).1) from by first | assumption | exact ⟨by omega, by omega⟩) ⟨by decide, by decide⟩ (fun br104 => ?_) (fun br104 => ?_)
              ·
                refine tu_iconst 125 X dX4_bestPhrase_125 ?_
                refine tu_goto 126 X 130 dX4_bestPhrase_126 (by decide) ?_
                refine tu_istore 130 X (lv' := [(7, tu_i 1), (0, tu_r 86), (1, tu_i ((tu_bq B (B 0 1).toNat p).1)), (2, tu_i ((tu_bq B (B 0 1).toNat p).2.1)), (3, tu_i ((tu_bq B (B 0 1).toNat p).2.2)), (4, tu_i ((p : Nat) : Int)), (5, tu_i (tu_sm (fun x9 => if tu_co B (B 6 x9).toNat p < 1000000 then 0 else 1) q)), (6, tu_i (tu_sm (fun x9 => if tu_co B (B 6 x9).toNat p < 1000000 then tu_co B (B 6 x9).toNat p else 0) q))]) dX4_bestPhrase_130 (by rw [hnl]; decide) rfl ?_
                refine tu_iload 132 X 0 dX4_bestPhrase_132 rfl ?_
                refine tu_if_eq 134 X 142 dX4_bestPhrase_134 (by decide) ⟨by decide, by decide⟩ (fun br134 => ?_) (fun br134 => ?_)
                ·
                  exfalso; omega
                ·
                  refine tu_iload 137 X 5 dX4_bestPhrase_137 rfl ?_
                  refine tu_goto 139 X 143 dX4_bestPhrase_139 (by decide) ?_
                  refine tu_istore_n 143 X (lv' := [(1, tu_i ((p : Nat) : Int)), (7, tu_i 1), (0, tu_r 86), (2, tu_i ((tu_bq B (B 0 1).toNat p).2.1)), (3, tu_i ((tu_bq B (B 0 1).toNat p).2.2)), (4, tu_i ((p : Nat) : Int)), (5, tu_i (tu_sm (fun x9 => if tu_co B (B 6 x9).toNat p < 1000000 then 0 else 1) q)), (6, tu_i (tu_sm (fun x9 => if tu_co B (B 6 x9).toNat p < 1000000 then tu_co B (B 6 x9).toNat p else 0) q))]) dX4_bestPhrase_143 (by rw [hnl]; decide) rfl ?_
                  refine tu_iload 144 X 1 dX4_bestPhrase_144 rfl ?_
                  refine tu_if_eq 146 X 154 dX4_bestPhrase_146 (by decide) ⟨by decide, by decide⟩ (fun br146 => ?_) (fun br146 => ?_)
                  ·
                    exfalso; omega
                  ·
                    refine tu_iload 149 X 6 dX4_bestPhrase_149 rfl ?_
                    refine tu_goto 151 X 155 dX4_bestPhrase_151 (by decide) ?_
                    refine tu_istore_n 155 X (lv' := [(2, tu_i (tu_sm (fun x9 => if tu_co B (B 6 x9).toNat p < 1000000 then 0 else 1) q)), (1, tu_i ((p : Nat) : Int)), (7, tu_i 1), (0, tu_r 86), (3, tu_i ((tu_bq B (B 0 1).toNat p).2.2)), (4, tu_i ((p : Nat) : Int)), (5, tu_i (tu_sm (fun x9 => if tu_co B (B 6 x9).toNat p < 1000000 then 0 else 1) q)), (6, tu_i (tu_sm (fun x9 => if tu_co B (B 6 x9).toNat p < 1000000 then tu_co B (B 6 x9).toNat p else 0) q))]) dX4_bestPhrase_155 (by rw [hnl]; decide) rfl ?_
                    refine tu_iload 156 X 2 dX4_bestPhrase_156 rfl ?_
                    refine tu_if_eq 158 X 166 dX4_bestPhrase_158 (by decide) ⟨by decide, by decide⟩ (fun br158 => ?_) (fun br158 => ?_)
                    ·
                      exfalso; omega
                    ·
                      refine tu_iload 161 X 7 dX4_bestPhrase_161 rfl ?_
                      refine tu_goto 163 X 167 dX4_bestPhrase_163 (by decide) ?_
                      refine tu_istore_n 167 X (lv' := [(3, tu_i (tu_sm (fun x9 => if tu_co B (B 6 x9).toNat p < 1000000 then tu_co B (B 6 x9).toNat p else 0) q)), (2, tu_i (tu_sm (fun x9 => if tu_co B (B 6 x9).toNat p < 1000000 then 0 else 1) q)), (1, tu_i ((p : Nat) : Int)), (7, tu_i 1), (0, tu_r 86), (4, tu_i ((p : Nat) : Int)), (5, tu_i (tu_sm (fun x9 => if tu_co B (B 6 x9).toNat p < 1000000 then 0 else 1) q)), (6, tu_i (tu_sm (fun x9 => if tu_co B (B 6 x9).toNat p < 1000000 then tu_co B (B 6 x9).toNat p else 0) q))]) dX4_bestPhrase_167 (by rw [hnl]; decide) rfl ?_
                      refine tu_iinc 168 X (lv' := [(4, tu_i (((p : Nat) : Int) + 1)), (3, tu_i (tu_sm (fun x9 => if tu_co B (B 6 x9).toNat p < 1000000 then tu_co B (B 6 x9).toNat p else 0) q)), (2, tu_i (tu_sm (fun x9 => if tu_co B (B 6 x9).toNat p < 1000000 then 0 else 1) q)), (1, tu_i ((p : Nat) : Int)), (7, tu_i 1), (0, tu_r 86), (5, tu_i (tu_sm (fun x9 => if tu_co B (B 6 x9).toNat p < 1000000 then 0 else 1) q)), (6, tu_i (tu_sm (fun x9 => if tu_co B (B 6 x9).toNat p < 1000000 then tu_co B (B 6 x9).toNat p else 0) q))]) 5 dX4_bestPhrase_168 rfl (by rw [hnl]; decide) rfl ?_
                      refine tu_goto 171 X 10 dX4_bestPhrase_171 (by decide) ?_
                      refine tu_jmp [5, 3, 2, 1, 0] (lv' := [(0, tu_r 86), (1, tu_i ((tu_bq B (B 0 1).toNat (p + 1)).1)), (2, tu_i ((tu_bq B (B 0 1).toNat (p + 1)).2.1)), (3, tu_i ((tu_bq B (B 0 1).toNat (p + 1)).2.2)), (4, tu_i (((p + 1) : Nat) : Int))]) ⟨rfl, tu_ei (by first | rfl | (rw [tu_bq_s]; split <;> first | rfl | (exfalso; omega))), tu_ei (by first | rfl | (rw [tu_bq_s]; split <;> first | rfl | exact eu | (exfalso; omega))), tu_ei (by first | rfl | (rw [tu_bq_s]; split <;> first | rfl | exact es | (exfalso; omega))), tu_ei (by first | rfl | omega), trivial⟩ rfl (ih10 (p + 1) r9 C W U (by omega) (by exact h9) (by rw [tu_bq_s]; split <;> first | omega | (simp only []; omega)) (by omega))
              ·
                refine tu_iload 107 X 5 dX4_bestPhrase_107 rfl ?_
                refine tu_iload_n 109 X 2 dX4_bestPhrase_109 rfl ?_
                refine tu_icmp_lt 110 X 125 dX4_bestPhrase_110 (by decide) (show tu_rg (tu_sm (fun x9 => if tu_co B (B 6 x9).toNat p < 1000000 then 0 else 1) q) from by first | assumption | exact ⟨by omega, by omega⟩) (show tu_rg ((tu_bq B (B 0 1).toNat p).2.1) from by first | assumption | exact ⟨by omega, by omega⟩) (fun br110 => ?_) (fun br110 => ?_)
                ·
                  refine tu_iconst 125 X dX4_bestPhrase_125 ?_
                  refine tu_goto 126 X 130 dX4_bestPhrase_126 (by decide) ?_
                  refine tu_istore 130 X (lv' := [(7, tu_i 1), (0, tu_r 86), (1, tu_i ((tu_bq B (B 0 1).toNat p).1)), (2, tu_i ((tu_bq B (B 0 1).toNat p).2.1)), (3, tu_i ((tu_bq B (B 0 1).toNat p).2.2)), (4, tu_i ((p : Nat) : Int)), (5, tu_i (tu_sm (fun x9 => if tu_co B (B 6 x9).toNat p < 1000000 then 0 else 1) q)), (6, tu_i (tu_sm (fun x9 => if tu_co B (B 6 x9).toNat p < 1000000 then tu_co B (B 6 x9).toNat p else 0) q))]) dX4_bestPhrase_130 (by rw [hnl]; decide) rfl ?_
                  refine tu_iload 132 X 0 dX4_bestPhrase_132 rfl ?_
                  refine tu_if_eq 134 X 142 dX4_bestPhrase_134 (by decide) ⟨by decide, by decide⟩ (fun br134 => ?_) (fun br134 => ?_)
                  ·
                    exfalso; omega
                  ·
                    refine tu_iload 137 X 5 dX4_bestPhrase_137 rfl ?_
                    refine tu_goto 139 X 143 dX4_bestPhrase_139 (by decide) ?_
                    refine tu_istore_n 143 X (lv' := [(1, tu_i ((p : Nat) : Int)), (7, tu_i 1), (0, tu_r 86), (2, tu_i ((tu_bq B (B 0 1).toNat p).2.1)), (3, tu_i ((tu_bq B (B 0 1).toNat p).2.2)), (4, tu_i ((p : Nat) : Int)), (5, tu_i (tu_sm (fun x9 => if tu_co B (B 6 x9).toNat p < 1000000 then 0 else 1) q)), (6, tu_i (tu_sm (fun x9 => if tu_co B (B 6 x9).toNat p < 1000000 then tu_co B (B 6 x9).toNat p else 0) q))]) dX4_bestPhrase_143 (by rw [hnl]; decide) rfl ?_
                    refine tu_iload 144 X 1 dX4_bestPhrase_144 rfl ?_
                    refine tu_if_eq 146 X 154 dX4_bestPhrase_146 (by decide) ⟨by decide, by decide⟩ (fun br146 => ?_) (fun br146 => ?_)
                    ·
                      exfalso; omega
                    ·
                      refine tu_iload 149 X 6 dX4_bestPhrase_149 rfl ?_
                      refine tu_goto 151 X 155 dX4_bestPhrase_151 (by decide) ?_
                      refine tu_istore_n 155 X (lv' := [(2, tu_i (tu_sm (fun x9 => if tu_co B (B 6 x9).toNat p < 1000000 then 0 else 1) q)), (1, tu_i ((p : Nat) : Int)), (7, tu_i 1), (0, tu_r 86), (3, tu_i ((tu_bq B (B 0 1).toNat p).2.2)), (4, tu_i ((p : Nat) : Int)), (5, tu_i (tu_sm (fun x9 => if tu_co B (B 6 x9).toNat p < 1000000 then 0 else 1) q)), (6, tu_i (tu_sm (fun x9 => if tu_co B (B 6 x9).toNat p < 1000000 then tu_co B (B 6 x9).toNat p else 0) q))]) dX4_bestPhrase_155 (by rw [hnl]; decide) rfl ?_
                      refine tu_iload 156 X 2 dX4_bestPhrase_156 rfl ?_
                      refine tu_if_eq 158 X 166 dX4_bestPhrase_158 (by decide) ⟨by decide, by decide⟩ (fun br158 => ?_) (fun br158 => ?_)
                      ·
                        exfalso; omega
                      ·
                        refine tu_iload 161 X 7 dX4_bestPhrase_161 rfl ?_
                        refine tu_goto 163 X 167 dX4_bestPhrase_163 (by decide) ?_
                        refine tu_istore_n 167 X (lv' := [(3, tu_i (tu_sm (fun x9 => if tu_co B (B 6 x9).toNat p < 1000000 then tu_co B (B 6 x9).toNat p else 0) q)), (2, tu_i (tu_sm (fun x9 => if tu_co B (B 6 x9).toNat p < 1000000 then 0 else 1) q)), (1, tu_i ((p : Nat) : Int)), (7, tu_i 1), (0, tu_r 86), (4, tu_i ((p : Nat) : Int)), (5, tu_i (tu_sm (fun x9 => if tu_co B (B 6 x9).toNat p < 1000000 then 0 else 1) q)), (6, tu_i (tu_sm (fun x9 => if tu_co B (B 6 x9).toNat p < 1000000 then tu_co B (B 6 x9).toNat p else 0) q))]) dX4_bestPhrase_167 (by rw [hnl]; decide) rfl ?_
                        refine tu_iinc 168 X (lv' := [(4, tu_i (((p : Nat) : Int) + 1)), (3, tu_i (tu_sm (fun x9 => if tu_co B (B 6 x9).toNat p < 1000000 then tu_co B (B 6 x9).toNat p else 0) q)), (2, tu_i (tu_sm (fun x9 => if tu_co B (B 6 x9).toNat p < 1000000 then 0 else 1) q)), (1, tu_i ((p : Nat) : Int)), (7, tu_i 1), (0, tu_r 86), (5, tu_i (tu_sm (fun x9 => if tu_co B (B 6 x9).toNat p < 1000000 then 0 else 1) q)), (6, tu_i (tu_sm (fun x9 => if tu_co B (B 6 x9).toNat p < 1000000 then tu_co B (B 6 x9).toNat p else 0) q))]) 5 dX4_bestPhrase_168 rfl (by rw [hnl]; decide) rfl ?_
                        refine tu_goto 171 X 10 dX4_bestPhrase_171 (by decide) ?_
                        refine tu_jmp [5, 3, 2, 1, 0] (lv' := [(0, tu_r 86), (1, tu_i ((tu_bq B (B 0 1).toNat (p + 1)).1)), (2, tu_i ((tu_bq B (B 0 1).toNat (p + 1)).2.1)), (3, tu_i ((tu_bq B (B 0 1).toNat (p + 1)).2.2)), (4, tu_i (((p + 1) : Nat) : Int))]) ⟨rfl, tu_ei (by first | rfl | (rw [tu_bq_s]; split <;> first | rfl | (exfalso; omega))), tu_ei (by first | rfl | (rw [tu_bq_s]; split <;> first | rfl | exact eu | (exfalso; omega))), tu_ei (by first | rfl | (rw [tu_bq_s]; split <;> first | rfl | exact es | (exfalso; omega))), tu_ei (by first | rfl | omega), trivial⟩ rfl (ih10 (p + 1) r9 C W U (by omega) (by exact h9) (by rw [tu_bq_s]; split <;> first | omega | (simp only []; omega)) (by omega))
                ·
                  refine tu_iload 113 X 5 dX4_bestPhrase_113 rfl ?_
                  refine tu_iload_n 115 X 2 dX4_bestPhrase_115 rfl ?_
                  refine tu_icmp_ne 116 X 129 dX4_bestPhrase_116 (by decide) (show tu_rg (tu_sm (fun x9 => if tu_co B (B 6 x9).toNat p < 1000000 then 0 else 1) q) from by first | assumption | exact ⟨by omega, by omega⟩) (show tu_rg ((tu_bq B (B 0 1).toNat p).2.1) from by first | assumption | exact ⟨by omega, by omega⟩) (fun br116 => ?_) (fun br116 => ?_)
                  ·
                    refine tu_iconst 129 X dX4_bestPhrase_129 ?_
                    refine tu_istore 130 X (lv' := [(7, tu_i 0), (0, tu_r 86), (1, tu_i ((tu_bq B (B 0 1).toNat p).1)), (2, tu_i ((tu_bq B (B 0 1).toNat p).2.1)), (3, tu_i ((tu_bq B (B 0 1).toNat p).2.2)), (4, tu_i ((p : Nat) : Int)), (5, tu_i (tu_sm (fun x9 => if tu_co B (B 6 x9).toNat p < 1000000 then 0 else 1) q)), (6, tu_i (tu_sm (fun x9 => if tu_co B (B 6 x9).toNat p < 1000000 then tu_co B (B 6 x9).toNat p else 0) q))]) dX4_bestPhrase_130 (by rw [hnl]; decide) rfl ?_
                    refine tu_iload 132 X 0 dX4_bestPhrase_132 rfl ?_
                    refine tu_if_eq 134 X 142 dX4_bestPhrase_134 (by decide) ⟨by decide, by decide⟩ (fun br134 => ?_) (fun br134 => ?_)
                    ·
                      refine tu_iload_n 142 X 2 dX4_bestPhrase_142 rfl ?_
                      refine tu_istore_n 143 X (lv' := [(1, tu_i ((tu_bq B (B 0 1).toNat p).1)), (7, tu_i 0), (0, tu_r 86), (2, tu_i ((tu_bq B (B 0 1).toNat p).2.1)), (3, tu_i ((tu_bq B (B 0 1).toNat p).2.2)), (4, tu_i ((p : Nat) : Int)), (5, tu_i (tu_sm (fun x9 => if tu_co B (B 6 x9).toNat p < 1000000 then 0 else 1) q)), (6, tu_i (tu_sm (fun x9 => if tu_co B (B 6 x9).toNat p < 1000000 then tu_co B (B 6 x9).toNat p else 0) q))]) dX4_bestPhrase_143 (by rw [hnl]; decide) rfl ?_
                      refine tu_iload 144 X 1 dX4_bestPhrase_144 rfl ?_
                      refine tu_if_eq 146 X 154 dX4_bestPhrase_146 (by decide) ⟨by decide, by decide⟩ (fun br146 => ?_) (fun br146 => ?_)
                      ·
                        refine tu_iload_n 154 X 3 dX4_bestPhrase_154 rfl ?_
                        refine tu_istore_n 155 X (lv' := [(2, tu_i ((tu_bq B (B 0 1).toNat p).2.1)), (1, tu_i ((tu_bq B (B 0 1).toNat p).1)), (7, tu_i 0), (0, tu_r 86), (3, tu_i ((tu_bq B (B 0 1).toNat p).2.2)), (4, tu_i ((p : Nat) : Int)), (5, tu_i (tu_sm (fun x9 => if tu_co B (B 6 x9).toNat p < 1000000 then 0 else 1) q)), (6, tu_i (tu_sm (fun x9 => if tu_co B (B 6 x9).toNat p < 1000000 then tu_co B (B 6 x9).toNat p else 0) q))]) dX4_bestPhrase_155 (by rw [hnl]; decide) rfl ?_
                        refine tu_iload 156 X 2 dX4_bestPhrase_156 rfl ?_
                        refine tu_if_eq 158 X 166 dX4_bestPhrase_158 (by decide) ⟨by decide, by decide⟩ (fun br158 => ?_) (fun br158 => ?_)
                        ·
                          refine tu_iload_n 166 X 4 dX4_bestPhrase_166 rfl ?_
                          refine tu_istore_n 167 X (lv' := [(3, tu_i ((tu_bq B (B 0 1).toNat p).2.2)), (2, tu_i ((tu_bq B (B 0 1).toNat p).2.1)), (1, tu_i ((tu_bq B (B 0 1).toNat p).1)), (7, tu_i 0), (0, tu_r 86), (4, tu_i ((p : Nat) : Int)), (5, tu_i (tu_sm (fun x9 => if tu_co B (B 6 x9).toNat p < 1000000 then 0 else 1) q)), (6, tu_i (tu_sm (fun x9 => if tu_co B (B 6 x9).toNat p < 1000000 then tu_co B (B 6 x9).toNat p else 0) q))]) dX4_bestPhrase_167 (by rw [hnl]; decide) rfl ?_
                          refine tu_iinc 168 X (lv' := [(4, tu_i (((p : Nat) : Int) + 1)), (3, tu_i ((tu_bq B (B 0 1).toNat p).2.2)), (2, tu_i ((tu_bq B (B 0 1).toNat p).2.1)), (1, tu_i ((tu_bq B (B 0 1).toNat p).1)), (7, tu_i 0), (0, tu_r 86), (5, tu_i (tu_sm (fun x9 => if tu_co B (B 6 x9).toNat p < 1000000 then 0 else 1) q)), (6, tu_i (tu_sm (fun x9 => if tu_co B (B 6 x9).toNat p < 1000000 then tu_co B (B 6 x9).toNat p else 0) q))]) 5 dX4_bestPhrase_168 rfl (by rw [hnl]; decide) rfl ?_
                          refine tu_goto 171 X 10 dX4_bestPhrase_171 (by decide) ?_
                          refine tu_jmp [5, 3, 2, 1, 0] (lv' := [(0, tu_r 86), (1, tu_i ((tu_bq B (B 0 1).toNat (p + 1)).1)), (2, tu_i ((tu_bq B (B 0 1).toNat (p + 1)).2.1)), (3, tu_i ((tu_bq B (B 0 1).toNat (p + 1)).2.2)), (4, tu_i (((p + 1) : Nat) : Int))]) ⟨rfl, tu_ei (by first | rfl | (rw [tu_bq_s]; split <;> first | rfl | (exfalso; omega))), tu_ei (by first | rfl | (rw [tu_bq_s]; split <;> first | rfl | exact eu | (exfalso; omega))), tu_ei (by first | rfl | (rw [tu_bq_s]; split <;> first | rfl | exact es | (exfalso; omega))), tu_ei (by first | rfl | omega), trivial⟩ rfl (ih10 (p + 1) r9 C W U (by omega) (by exact h9) (by rw [tu_bq_s]; split <;> first | omega | (simp only []; omega)) (by omega))
                        ·
                          exfalso; omega
                      ·
                        exfalso; omega
                    ·
                      exfalso; omega
                  ·
                    refine tu_iload 119 X 6 dX4_bestPhrase_119 rfl ?_
                    refine tu_iload_n 121 X 3 dX4_bestPhrase_121 rfl ?_
                    refine tu_icmp_ge 122 X 129 dX4_bestPhrase_122 (by decide) (show tu_rg (tu_sm (fun x9 => if tu_co B (B 6 x9).toNat p < 1000000 then tu_co B (B 6 x9).toNat p else 0) q) from by first | assumption | exact ⟨by omega, by omega⟩) (show tu_rg ((tu_bq B (B 0 1).toNat p).2.2) from by first | assumption | exact ⟨by omega, by omega⟩) (fun br122 => ?_) (fun br122 => ?_)
                    ·
                      refine tu_iconst 129 X dX4_bestPhrase_129 ?_
                      refine tu_istore 130 X (lv' := [(7, tu_i 0), (0, tu_r 86), (1, tu_i ((tu_bq B (B 0 1).toNat p).1)), (2, tu_i ((tu_bq B (B 0 1).toNat p).2.1)), (3, tu_i ((tu_bq B (B 0 1).toNat p).2.2)), (4, tu_i ((p : Nat) : Int)), (5, tu_i (tu_sm (fun x9 => if tu_co B (B 6 x9).toNat p < 1000000 then 0 else 1) q)), (6, tu_i (tu_sm (fun x9 => if tu_co B (B 6 x9).toNat p < 1000000 then tu_co B (B 6 x9).toNat p else 0) q))]) dX4_bestPhrase_130 (by rw [hnl]; decide) rfl ?_
                      refine tu_iload 132 X 0 dX4_bestPhrase_132 rfl ?_
                      refine tu_if_eq 134 X 142 dX4_bestPhrase_134 (by decide) ⟨by decide, by decide⟩ (fun br134 => ?_) (fun br134 => ?_)
                      ·
                        refine tu_iload_n 142 X 2 dX4_bestPhrase_142 rfl ?_
                        refine tu_istore_n 143 X (lv' := [(1, tu_i ((tu_bq B (B 0 1).toNat p).1)), (7, tu_i 0), (0, tu_r 86), (2, tu_i ((tu_bq B (B 0 1).toNat p).2.1)), (3, tu_i ((tu_bq B (B 0 1).toNat p).2.2)), (4, tu_i ((p : Nat) : Int)), (5, tu_i (tu_sm (fun x9 => if tu_co B (B 6 x9).toNat p < 1000000 then 0 else 1) q)), (6, tu_i (tu_sm (fun x9 => if tu_co B (B 6 x9).toNat p < 1000000 then tu_co B (B 6 x9).toNat p else 0) q))]) dX4_bestPhrase_143 (by rw [hnl]; decide) rfl ?_
                        refine tu_iload 144 X 1 dX4_bestPhrase_144 rfl ?_
                        refine tu_if_eq 146 X 154 dX4_bestPhrase_146 (by decide) ⟨by decide, by decide⟩ (fun br146 => ?_) (fun br146 => ?_)
                        ·
                          refine tu_iload_n 154 X 3 dX4_bestPhrase_154 rfl ?_
                          refine tu_istore_n 155 X (lv' := [(2, tu_i ((tu_bq B (B 0 1).toNat p).2.1)), (1, tu_i ((tu_bq B (B 0 1).toNat p).1)), (7, tu_i 0), (0, tu_r 86), (3, tu_i ((tu_bq B (B 0 1).toNat p).2.2)), (4, tu_i ((p : Nat) : Int)), (5, tu_i (tu_sm (fun x9 => if tu_co B (B 6 x9).toNat p < 1000000 then 0 else 1) q)), (6, tu_i (tu_sm (fun x9 => if tu_co B (B 6 x9).toNat p < 1000000 then tu_co B (B 6 x9).toNat p else 0) q))]) dX4_bestPhrase_155 (by rw [hnl]; decide) rfl ?_
                          refine tu_iload 156 X 2 dX4_bestPhrase_156 rfl ?_
                          refine tu_if_eq 158 X 166 dX4_bestPhrase_158 (by decide) ⟨by decide, by decide⟩ (fun br158 => ?_) (fun br158 => ?_)
                          ·
                            refine tu_iload_n 166 X 4 dX4_bestPhrase_166 rfl ?_
                            refine tu_istore_n 167 X (lv' := [(3, tu_i ((tu_bq B (B 0 1).toNat p).2.2)), (2, tu_i ((tu_bq B (B 0 1).toNat p).2.1)), (1, tu_i ((tu_bq B (B 0 1).toNat p).1)), (7, tu_i 0), (0, tu_r 86), (4, tu_i ((p : Nat) : Int)), (5, tu_i (tu_sm (fun x9 => if tu_co B (B 6 x9).toNat p < 1000000 then 0 else 1) q)), (6, tu_i (tu_sm (fun x9 => if tu_co B (B 6 x9).toNat p < 1000000 then tu_co B (B 6 x9).toNat p else 0) q))]) dX4_bestPhrase_167 (by rw [hnl]; decide) rfl ?_
                            refine tu_iinc 168 X (lv' := [(4, tu_i (((p : Nat) : Int) + 1)), (3, tu_i ((tu_bq B (B 0 1).toNat p).2.2)), (2, tu_i ((tu_bq B (B 0 1).toNat p).2.1)), (1, tu_i ((tu_bq B (B 0 1).toNat p).1)), (7, tu_i 0), (0, tu_r 86), (5, tu_i (tu_sm (fun x9 => if tu_co B (B 6 x9).toNat p < 1000000 then 0 else 1) q)), (6, tu_i (tu_sm (fun x9 => if tu_co B (B 6 x9).toNat p < 1000000 then tu_co B (B 6 x9).toNat p else 0) q))]) 5 dX4_bestPhrase_168 rfl (by rw [hnl]; decide) rfl ?_
                            refine tu_goto 171 X 10 dX4_bestPhrase_171 (by decide) ?_
                            refine tu_jmp [5, 3, 2, 1, 0] (lv' := [(0, tu_r 86), (1, tu_i ((tu_bq B (B 0 1).toNat (p + 1)).1)), (2, tu_i ((tu_bq B (B 0 1).toNat (p + 1)).2.1)), (3, tu_i ((tu_bq B (B 0 1).toNat (p + 1)).2.2)), (4, tu_i (((p + 1) : Nat) : Int))]) ⟨rfl, tu_ei (by first | rfl | (rw [tu_bq_s]; split <;> first | rfl | (exfalso; omega))), tu_ei (by first | rfl | (rw [tu_bq_s]; split <;> first | rfl | exact eu | (exfalso; omega))), tu_ei (by first | rfl | (rw [tu_bq_s]; split <;> first | rfl | exact es | (exfalso; omega))), tu_ei (by first | rfl | omega), trivial⟩ rfl (ih10 (p + 1) r9 C W U (by omega) (by exact h9) (by rw [tu_bq_s]; split <;> first | omega | (simp only []; omega)) (by omega))
                          ·
                            exfalso; omega
                        ·
                          exfalso; omega
                      ·
                        exfalso; omega
                    ·
                      refine tu_iconst 125 X dX4_bestPhrase_125 ?_
                      refine tu_goto 126 X 130 dX4_bestPhrase_126 (by decide) ?_
                      refine tu_istore 130 X (lv' := [(7, tu_i 1), (0, tu_r 86), (1, tu_i ((tu_bq B (B 0 1).toNat p).1)), (2, tu_i ((tu_bq B (B 0 1).toNat p).2.1)), (3, tu_i ((tu_bq B (B 0 1).toNat p).2.2)), (4, tu_i ((p : Nat) : Int)), (5, tu_i (tu_sm (fun x9 => if tu_co B (B 6 x9).toNat p < 1000000 then 0 else 1) q)), (6, tu_i (tu_sm (fun x9 => if tu_co B (B 6 x9).toNat p < 1000000 then tu_co B (B 6 x9).toNat p else 0) q))]) dX4_bestPhrase_130 (by rw [hnl]; decide) rfl ?_
                      refine tu_iload 132 X 0 dX4_bestPhrase_132 rfl ?_
                      refine tu_if_eq 134 X 142 dX4_bestPhrase_134 (by decide) ⟨by decide, by decide⟩ (fun br134 => ?_) (fun br134 => ?_)
                      ·
                        exfalso; omega
                      ·
                        refine tu_iload 137 X 5 dX4_bestPhrase_137 rfl ?_
                        refine tu_goto 139 X 143 dX4_bestPhrase_139 (by decide) ?_
                        refine tu_istore_n 143 X (lv' := [(1, tu_i ((p : Nat) : Int)), (7, tu_i 1), (0, tu_r 86), (2, tu_i ((tu_bq B (B 0 1).toNat p).2.1)), (3, tu_i ((tu_bq B (B 0 1).toNat p).2.2)), (4, tu_i ((p : Nat) : Int)), (5, tu_i (tu_sm (fun x9 => if tu_co B (B 6 x9).toNat p < 1000000 then 0 else 1) q)), (6, tu_i (tu_sm (fun x9 => if tu_co B (B 6 x9).toNat p < 1000000 then tu_co B (B 6 x9).toNat p else 0) q))]) dX4_bestPhrase_143 (by rw [hnl]; decide) rfl ?_
                        refine tu_iload 144 X 1 dX4_bestPhrase_144 rfl ?_
                        refine tu_if_eq 146 X 154 dX4_bestPhrase_146 (by decide) ⟨by decide, by decide⟩ (fun br146 => ?_) (fun br146 => ?_)
                        ·
                          exfalso; omega
                        ·
                          refine tu_iload 149 X 6 dX4_bestPhrase_149 rfl ?_
                          refine tu_goto 151 X 155 dX4_bestPhrase_151 (by decide) ?_
                          refine tu_istore_n 155 X (lv' := [(2, tu_i (tu_sm (fun x9 => if tu_co B (B 6 x9).toNat p < 1000000 then 0 else 1) q)), (1, tu_i ((p : Nat) : Int)), (7, tu_i 1), (0, tu_r 86), (3, tu_i ((tu_bq B (B 0 1).toNat p).2.2)), (4, tu_i ((p : Nat) : Int)), (5, tu_i (tu_sm (fun x9 => if tu_co B (B 6 x9).toNat p < 1000000 then 0 else 1) q)), (6, tu_i (tu_sm (fun x9 => if tu_co B (B 6 x9).toNat p < 1000000 then tu_co B (B 6 x9).toNat p else 0) q))]) dX4_bestPhrase_155 (by rw [hnl]; decide) rfl ?_
                          refine tu_iload 156 X 2 dX4_bestPhrase_156 rfl ?_
                          refine tu_if_eq 158 X 166 dX4_bestPhrase_158 (by decide) ⟨by decide, by decide⟩ (fun br158 => ?_) (fun br158 => ?_)
                          ·
                            exfalso; omega
                          ·
                            refine tu_iload 161 X 7 dX4_bestPhrase_161 rfl ?_
                            refine tu_goto 163 X 167 dX4_bestPhrase_163 (by decide) ?_
                            refine tu_istore_n 167 X (lv' := [(3, tu_i (tu_sm (fun x9 => if tu_co B (B 6 x9).toNat p < 1000000 then tu_co B (B 6 x9).toNat p else 0) q)), (2, tu_i (tu_sm (fun x9 => if tu_co B (B 6 x9).toNat p < 1000000 then 0 else 1) q)), (1, tu_i ((p : Nat) : Int)), (7, tu_i 1), (0, tu_r 86), (4, tu_i ((p : Nat) : Int)), (5, tu_i (tu_sm (fun x9 => if tu_co B (B 6 x9).toNat p < 1000000 then 0 else 1) q)), (6, tu_i (tu_sm (fun x9 => if tu_co B (B 6 x9).toNat p < 1000000 then tu_co B (B 6 x9).toNat p else 0) q))]) dX4_bestPhrase_167 (by rw [hnl]; decide) rfl ?_
                            refine tu_iinc 168 X (lv' := [(4, tu_i (((p : Nat) : Int) + 1)), (3, tu_i (tu_sm (fun x9 => if tu_co B (B 6 x9).toNat p < 1000000 then tu_co B (B 6 x9).toNat p else 0) q)), (2, tu_i (tu_sm (fun x9 => if tu_co B (B 6 x9).toNat p < 1000000 then 0 else 1) q)), (1, tu_i ((p : Nat) : Int)), (7, tu_i 1), (0, tu_r 86), (5, tu_i (tu_sm (fun x9 => if tu_co B (B 6 x9).toNat p < 1000000 then 0 else 1) q)), (6, tu_i (tu_sm (fun x9 => if tu_co B (B 6 x9).toNat p < 1000000 then tu_co B (B 6 x9).toNat p else 0) q))]) 5 dX4_bestPhrase_168 rfl (by rw [hnl]; decide) rfl ?_
                            refine tu_goto 171 X 10 dX4_bestPhrase_171 (by decide) ?_
                            refine tu_jmp [5, 3, 2, 1, 0] (lv' := [(0, tu_r 86), (1, tu_i ((tu_bq B (B 0 1).toNat (p + 1)).1)), (2, tu_i ((tu_bq B (B 0 1).toNat (p + 1)).2.1)), (3, tu_i ((tu_bq B (B 0 1).toNat (p + 1)).2.2)), (4, tu_i (((p + 1) : Nat) : Int))]) ⟨rfl, tu_ei (by first | rfl | (rw [tu_bq_s]; split <;> first | rfl | (exfalso; omega))), tu_ei (by first | rfl | (rw [tu_bq_s]; split <;> first | rfl | exact eu | (exfalso; omega))), tu_ei (by first | rfl | (rw [tu_bq_s]; split <;> first | rfl | exact es | (exfalso; omega))), tu_ei (by first | rfl | omega), trivial⟩ rfl (ih10 (p + 1) r9 C W U (by omega) (by exact h9) (by rw [tu_bq_s]; split <;> first | omega | (simp only []; omega)) (by omega))
            ·
              have h7q := hO.2.2.2.2.2.1 q (by omega)
              obtain ⟨L, a, k, r, c, hK, hTK, hT⟩ := tu_exB hO (l := (B 6 q).toNat) (p := p) (by omega) (by omega)
              have ec := hTK.co hK hT
              have ecr := hT.rg hK
              have bz := tu_nv_rg ecr.1
              rw [ec] at bz
              rw [ec] at ecr
              have hnv : tu_nv (tu_co B (B 6 q).toNat p) = 1000000000 ↔ 1000000 ≤ tu_co B (B 6 q).toNat p := tu_nv_big
              have hnv2 : tu_co B (B 6 q).toNat p < 1000000 → tu_nv (tu_co B (B 6 q).toNat p) = tu_co B (B 6 q).toNat p := tu_nv_lo
              refine tu_aload_n 42 X 0 dX4_bestPhrase_42 rfl ?_
              refine tu_aload_n 43 X 0 dX4_bestPhrase_43 rfl ?_
              refine tu_getR 44 X dX4_bestPhrase_44 fl_RX4_7 (by decide) rfl rfl ?_
              refine tu_bipush 47 X dX4_bestPhrase_47 (by decide) ?_
              refine tu_iload 49 X 7 dX4_bestPhrase_49 rfl ?_
              refine tu_iadd 51 X dX4_bestPhrase_51 ?_
              refine tu_iald 52 X (x := M 87 (64 + q)) (64 + q) dX4_bestPhrase_52 (by decide) rfl (by decide) (by omega) (by omega) rfl ?_
              refine tu_tp (b := (B 6 q)) (by exact hR.ba q (by omega)) ?_
              refine tu_iload 53 X 4 dX4_bestPhrase_53 rfl ?_
              refine tu_st_eq (show _ = [tu_i ((p : Nat) : Int), tu_i ((((B 6 q).toNat) : Nat) : Int), tu_r 86] from by first | rfl | (simp only [List.cons.injEq, Sum.inl.injEq, and_true, true_and]; omega)) rfl ?_
              refine tu_callVI 55 X (st := []) (as := [tu_i ((((B 6 q).toNat) : Nat) : Int), tu_i ((p : Nat) : Int)]) (c_X4_costOf B L a k r c ((B 6 q).toNat) p (show tu_BO B from by first | assumption | omega | exact ⟨by omega, by omega⟩ | decide) (show tu_MB B (M 87) from by first | assumption | omega | exact ⟨by omega, by omega⟩ | decide) (show (((B 6 q).toNat) : Int) < B 0 1 from by first | assumption | omega | exact ⟨by omega, by omega⟩ | decide) (show (p : Int) < B 0 4 from by first | assumption | omega | exact ⟨by omega, by omega⟩ | decide) (show tu_LK L a k r (tu_nl B ((B 6 q).toNat)) (tu_np B p) from by first | assumption | omega | exact ⟨by omega, by omega⟩ | decide) (show tu_TK B ((B 6 q).toNat) p L a k from by first | assumption | omega | exact ⟨by omega, by omega⟩ | decide) (show tu_Tx L a k r (tu_nl B ((B 6 q).toNat)) (tu_np B p) c from by first | assumption | omega | exact ⟨by omega, by omega⟩ | decide)) sv_RX4_166 dX4_bestPhrase_55 rfl (by decide) rfl rfl rfl (Nat.le_of_ble_eq_true rfl) ⟨by decide, by decide⟩ (fun z M' h => ?_)
              obtain ⟨r9_55, C_55, W_55, U_55, hM55, h55_0, h55_1, h55_2, hz55⟩ := h
              refine tu_st_eq rfl (M' := tu_row (tu_row (tu_row (tu_row M 86 r9_55) 92 C_55) 93 W_55) 94 U_55) (hM55.trans ((congrArg (fun m => tu_row m 94 U_55) ((congrArg (fun m => tu_row m 93 W_55) ((congrArg (fun m => tu_row m 92 C_55) ((tu_rc (tu_row (tu_row (tu_row M 86 r9) 92 C) 93 W) U r9_55 rfl).trans (congrArg (fun m => tu_row m 94 U) ((tu_rc (tu_row (tu_row M 86 r9) 92 C) W r9_55 rfl).trans (congrArg (fun m => tu_row m 93 W) ((tu_rc (tu_row M 86 r9) C r9_55 rfl).trans (congrArg (fun m => tu_row m 92 C) (tu_rr M 86 r9 r9_55)))))))).trans ((tu_rc (tu_row (tu_row (tu_row M 86 r9_55) 92 C) 93 W) U C_55 rfl).trans (congrArg (fun m => tu_row m 94 U) ((tu_rc (tu_row (tu_row M 86 r9_55) 92 C) W C_55 rfl).trans (congrArg (fun m => tu_row m 93 W) (tu_rr (tu_row M 86 r9_55) 92 C C_55))))))).trans ((tu_rc (tu_row (tu_row (tu_row M 86 r9_55) 92 C_55) 93 W) U W_55 rfl).trans (congrArg (fun m => tu_row m 94 U) (tu_rr (tu_row (tu_row M 86 r9_55) 92 C_55) 93 W W_55))))).trans (tu_rr (tu_row (tu_row (tu_row M 86 r9_55) 92 C_55) 93 W_55) 94 U U_55))) ?_
              refine tu_tp (b := (tu_nv (c 0))) hz55 ?_
              refine tu_tp (b := (tu_nv (tu_co B (B 6 q).toNat p))) (by rw [ec]) ?_
              refine tu_istore 58 X (lv' := [(8, tu_i (tu_nv (tu_co B (B 6 q).toNat p))), (0, tu_r 86), (1, tu_i ((tu_bq B (B 0 1).toNat p).1)), (2, tu_i ((tu_bq B (B 0 1).toNat p).2.1)), (3, tu_i ((tu_bq B (B 0 1).toNat p).2.2)), (4, tu_i ((p : Nat) : Int)), (5, tu_i (tu_sm (fun x9 => if tu_co B (B 6 x9).toNat p < 1000000 then 0 else 1) q)), (6, tu_i (tu_sm (fun x9 => if tu_co B (B 6 x9).toNat p < 1000000 then tu_co B (B 6 x9).toNat p else 0) q)), (7, tu_i ((q : Nat) : Int))]) dX4_bestPhrase_58 (by rw [hnl]; decide) rfl ?_
              refine tu_iload 60 X 6 dX4_bestPhrase_60 rfl ?_
              refine tu_iload 62 X 0 dX4_bestPhrase_62 rfl ?_
              refine tu_ldc 64 X (n := 1000000000) dX4_bestPhrase_64 kw_RX4_88 (by decide) ?_
              refine tu_icmp_ne 66 X 73 dX4_bestPhrase_66 (by decide) (show tu_rg (tu_nv (tu_co B (B 6 q).toNat p)) from by first | assumption | exact ⟨by omega, by omega⟩) ⟨by decide, by decide⟩ (fun br66 => ?_) (fun br66 => ?_)
              ·
                refine tu_iconst 73 X dX4_bestPhrase_73 ?_
                refine tu_iadd 74 X dX4_bestPhrase_74 ?_
                refine tu_istore 75 X (lv' := [(5, tu_i ((tu_sm (fun x9 => if tu_co B (B 6 x9).toNat p < 1000000 then 0 else 1) q) + 0)), (8, tu_i (tu_nv (tu_co B (B 6 q).toNat p))), (0, tu_r 86), (1, tu_i ((tu_bq B (B 0 1).toNat p).1)), (2, tu_i ((tu_bq B (B 0 1).toNat p).2.1)), (3, tu_i ((tu_bq B (B 0 1).toNat p).2.2)), (4, tu_i ((p : Nat) : Int)), (6, tu_i (tu_sm (fun x9 => if tu_co B (B 6 x9).toNat p < 1000000 then tu_co B (B 6 x9).toNat p else 0) q)), (7, tu_i ((q : Nat) : Int))]) dX4_bestPhrase_75 (by rw [hnl]; decide) rfl ?_
                refine tu_iload 77 X 7 dX4_bestPhrase_77 rfl ?_
                refine tu_iload 79 X 1 dX4_bestPhrase_79 rfl ?_
                refine tu_ldc 81 X (n := 1000000000) dX4_bestPhrase_81 kw_RX4_88 (by decide) ?_
                refine tu_icmp_ne 83 X 90 dX4_bestPhrase_83 (by decide) (show tu_rg (tu_nv (tu_co B (B 6 q).toNat p)) from by first | assumption | exact ⟨by omega, by omega⟩) ⟨by decide, by decide⟩ (fun br83 => ?_) (fun br83 => ?_)
                ·
                  refine tu_iload 90 X 1 dX4_bestPhrase_90 rfl ?_
                  refine tu_iadd 92 X dX4_bestPhrase_92 ?_
                  refine tu_istore 93 X (lv' := [(6, tu_i ((tu_sm (fun x9 => if tu_co B (B 6 x9).toNat p < 1000000 then tu_co B (B 6 x9).toNat p else 0) q) + (tu_nv (tu_co B (B 6 q).toNat p)))), (5, tu_i ((tu_sm (fun x9 => if tu_co B (B 6 x9).toNat p < 1000000 then 0 else 1) q) + 0)), (8, tu_i (tu_nv (tu_co B (B 6 q).toNat p))), (0, tu_r 86), (1, tu_i ((tu_bq B (B 0 1).toNat p).1)), (2, tu_i ((tu_bq B (B 0 1).toNat p).2.1)), (3, tu_i ((tu_bq B (B 0 1).toNat p).2.2)), (4, tu_i ((p : Nat) : Int)), (7, tu_i ((q : Nat) : Int))]) dX4_bestPhrase_93 (by rw [hnl]; decide) rfl ?_
                  refine tu_iinc 95 X (lv' := [(7, tu_i (((q : Nat) : Int) + 1)), (6, tu_i ((tu_sm (fun x9 => if tu_co B (B 6 x9).toNat p < 1000000 then tu_co B (B 6 x9).toNat p else 0) q) + (tu_nv (tu_co B (B 6 q).toNat p)))), (5, tu_i ((tu_sm (fun x9 => if tu_co B (B 6 x9).toNat p < 1000000 then 0 else 1) q) + 0)), (8, tu_i (tu_nv (tu_co B (B 6 q).toNat p))), (0, tu_r 86), (1, tu_i ((tu_bq B (B 0 1).toNat p).1)), (2, tu_i ((tu_bq B (B 0 1).toNat p).2.1)), (3, tu_i ((tu_bq B (B 0 1).toNat p).2.2)), (4, tu_i ((p : Nat) : Int))]) 8 dX4_bestPhrase_95 rfl (by rw [hnl]; decide) rfl ?_
                  refine tu_goto 98 X 30 dX4_bestPhrase_98 (by decide) ?_
                  refine tu_jmp [4, 5, 6, 7, 8, 2, 1, 0] (lv' := [(0, tu_r 86), (1, tu_i ((tu_bq B (B 0 1).toNat p).1)), (2, tu_i ((tu_bq B (B 0 1).toNat p).2.1)), (3, tu_i ((tu_bq B (B 0 1).toNat p).2.2)), (4, tu_i ((p : Nat) : Int)), (5, tu_i (tu_sm (fun x9 => if tu_co B (B 6 x9).toNat p < 1000000 then 0 else 1) (q + 1))), (6, tu_i (tu_sm (fun x9 => if tu_co B (B 6 x9).toNat p < 1000000 then tu_co B (B 6 x9).toNat p else 0) (q + 1))), (7, tu_i (((q + 1) : Nat) : Int))]) ⟨rfl, rfl, rfl, rfl, rfl, tu_ei (by first | rfl | (simp only [tu_sm]; split <;> omega)), tu_ei (by first | rfl | (simp only [tu_sm]; split <;> omega)), tu_ei (by first | rfl | omega), trivial⟩ rfl (ih30 (q + 1) r9_55 C_55 W_55 U_55 (by omega) (by exact ⟨h55_1.1.trans h9.1, h55_1.2.trans h9.2⟩) (by simp only [tu_sm]; split <;> omega) (by omega))
                ·
                  refine tu_iconst 86 X dX4_bestPhrase_86 ?_
                  refine tu_goto 87 X 92 dX4_bestPhrase_87 (by decide) ?_
                  refine tu_iadd 92 X dX4_bestPhrase_92 ?_
                  refine tu_istore 93 X (lv' := [(6, tu_i ((tu_sm (fun x9 => if tu_co B (B 6 x9).toNat p < 1000000 then tu_co B (B 6 x9).toNat p else 0) q) + 0)), (5, tu_i ((tu_sm (fun x9 => if tu_co B (B 6 x9).toNat p < 1000000 then 0 else 1) q) + 0)), (8, tu_i (tu_nv (tu_co B (B 6 q).toNat p))), (0, tu_r 86), (1, tu_i ((tu_bq B (B 0 1).toNat p).1)), (2, tu_i ((tu_bq B (B 0 1).toNat p).2.1)), (3, tu_i ((tu_bq B (B 0 1).toNat p).2.2)), (4, tu_i ((p : Nat) : Int)), (7, tu_i ((q : Nat) : Int))]) dX4_bestPhrase_93 (by rw [hnl]; decide) rfl ?_
                  refine tu_iinc 95 X (lv' := [(7, tu_i (((q : Nat) : Int) + 1)), (6, tu_i ((tu_sm (fun x9 => if tu_co B (B 6 x9).toNat p < 1000000 then tu_co B (B 6 x9).toNat p else 0) q) + 0)), (5, tu_i ((tu_sm (fun x9 => if tu_co B (B 6 x9).toNat p < 1000000 then 0 else 1) q) + 0)), (8, tu_i (tu_nv (tu_co B (B 6 q).toNat p))), (0, tu_r 86), (1, tu_i ((tu_bq B (B 0 1).toNat p).1)), (2, tu_i ((tu_bq B (B 0 1).toNat p).2.1)), (3, tu_i ((tu_bq B (B 0 1).toNat p).2.2)), (4, tu_i ((p : Nat) : Int))]) 8 dX4_bestPhrase_95 rfl (by rw [hnl]; decide) rfl ?_
                  refine tu_goto 98 X 30 dX4_bestPhrase_98 (by decide) ?_
                  refine tu_jmp [4, 5, 6, 7, 8, 2, 1, 0] (lv' := [(0, tu_r 86), (1, tu_i ((tu_bq B (B 0 1).toNat p).1)), (2, tu_i ((tu_bq B (B 0 1).toNat p).2.1)), (3, tu_i ((tu_bq B (B 0 1).toNat p).2.2)), (4, tu_i ((p : Nat) : Int)), (5, tu_i (tu_sm (fun x9 => if tu_co B (B 6 x9).toNat p < 1000000 then 0 else 1) (q + 1))), (6, tu_i (tu_sm (fun x9 => if tu_co B (B 6 x9).toNat p < 1000000 then tu_co B (B 6 x9).toNat p else 0) (q + 1))), (7, tu_i (((q + 1) : Nat) : Int))]) ⟨rfl, rfl, rfl, rfl, rfl, tu_ei (by first | rfl | (simp only [tu_sm]; split <;> omega)), tu_ei (by first | rfl | (simp only [tu_sm]; split <;> omega)), tu_ei (by first | rfl | omega), trivial⟩ rfl (ih30 (q + 1) r9_55 C_55 W_55 U_55 (by omega) (by exact ⟨h55_1.1.trans h9.1, h55_1.2.trans h9.2⟩) (by simp only [tu_sm]; split <;> omega) (by omega))
              ·
                refine tu_iconst 69 X dX4_bestPhrase_69 ?_
                refine tu_goto 70 X 74 dX4_bestPhrase_70 (by decide) ?_
                refine tu_iadd 74 X dX4_bestPhrase_74 ?_
                refine tu_istore 75 X (lv' := [(5, tu_i ((tu_sm (fun x9 => if tu_co B (B 6 x9).toNat p < 1000000 then 0 else 1) q) + 1)), (8, tu_i (tu_nv (tu_co B (B 6 q).toNat p))), (0, tu_r 86), (1, tu_i ((tu_bq B (B 0 1).toNat p).1)), (2, tu_i ((tu_bq B (B 0 1).toNat p).2.1)), (3, tu_i ((tu_bq B (B 0 1).toNat p).2.2)), (4, tu_i ((p : Nat) : Int)), (6, tu_i (tu_sm (fun x9 => if tu_co B (B 6 x9).toNat p < 1000000 then tu_co B (B 6 x9).toNat p else 0) q)), (7, tu_i ((q : Nat) : Int))]) dX4_bestPhrase_75 (by rw [hnl]; decide) rfl ?_
                refine tu_iload 77 X 7 dX4_bestPhrase_77 rfl ?_
                refine tu_iload 79 X 1 dX4_bestPhrase_79 rfl ?_
                refine tu_ldc 81 X (n := 1000000000) dX4_bestPhrase_81 kw_RX4_88 (by decide) ?_
                refine tu_icmp_ne 83 X 90 dX4_bestPhrase_83 (by decide) (show tu_rg (tu_nv (tu_co B (B 6 q).toNat p)) from by first | assumption | exact ⟨by omega, by omega⟩) ⟨by decide, by decide⟩ (fun br83 => ?_) (fun br83 => ?_)
                ·
                  refine tu_iload 90 X 1 dX4_bestPhrase_90 rfl ?_
                  refine tu_iadd 92 X dX4_bestPhrase_92 ?_
                  refine tu_istore 93 X (lv' := [(6, tu_i ((tu_sm (fun x9 => if tu_co B (B 6 x9).toNat p < 1000000 then tu_co B (B 6 x9).toNat p else 0) q) + (tu_nv (tu_co B (B 6 q).toNat p)))), (5, tu_i ((tu_sm (fun x9 => if tu_co B (B 6 x9).toNat p < 1000000 then 0 else 1) q) + 1)), (8, tu_i (tu_nv (tu_co B (B 6 q).toNat p))), (0, tu_r 86), (1, tu_i ((tu_bq B (B 0 1).toNat p).1)), (2, tu_i ((tu_bq B (B 0 1).toNat p).2.1)), (3, tu_i ((tu_bq B (B 0 1).toNat p).2.2)), (4, tu_i ((p : Nat) : Int)), (7, tu_i ((q : Nat) : Int))]) dX4_bestPhrase_93 (by rw [hnl]; decide) rfl ?_
                  refine tu_iinc 95 X (lv' := [(7, tu_i (((q : Nat) : Int) + 1)), (6, tu_i ((tu_sm (fun x9 => if tu_co B (B 6 x9).toNat p < 1000000 then tu_co B (B 6 x9).toNat p else 0) q) + (tu_nv (tu_co B (B 6 q).toNat p)))), (5, tu_i ((tu_sm (fun x9 => if tu_co B (B 6 x9).toNat p < 1000000 then 0 else 1) q) + 1)), (8, tu_i (tu_nv (tu_co B (B 6 q).toNat p))), (0, tu_r 86), (1, tu_i ((tu_bq B (B 0 1).toNat p).1)), (2, tu_i ((tu_bq B (B 0 1).toNat p).2.1)), (3, tu_i ((tu_bq B (B 0 1).toNat p).2.2)), (4, tu_i ((p : Nat) : Int))]) 8 dX4_bestPhrase_95 rfl (by rw [hnl]; decide) rfl ?_
                  refine tu_goto 98 X 30 dX4_bestPhrase_98 (by decide) ?_
                  refine tu_jmp [4, 5, 6, 7, 8, 2, 1, 0] (lv' := [(0, tu_r 86), (1, tu_i ((tu_bq B (B 0 1).toNat p).1)), (2, tu_i ((tu_bq B (B 0 1).toNat p).2.1)), (3, tu_i ((tu_bq B (B 0 1).toNat p).2.2)), (4, tu_i ((p : Nat) : Int)), (5, tu_i (tu_sm (fun x9 => if tu_co B (B 6 x9).toNat p < 1000000 then 0 else 1) (q + 1))), (6, tu_i (tu_sm (fun x9 => if tu_co B (B 6 x9).toNat p < 1000000 then tu_co B (B 6 x9).toNat p else 0) (q + 1))), (7, tu_i (((q + 1) : Nat) : Int))]) ⟨rfl, rfl, rfl, rfl, rfl, tu_ei (by first | rfl | (simp only [tu_sm]; split <;> omega)), tu_ei (by first | rfl | (simp only [tu_sm]; split <;> omega)), tu_ei (by first | rfl | omega), trivial⟩ rfl (ih30 (q + 1) r9_55 C_55 W_55 U_55 (by omega) (by exact ⟨h55_1.1.trans h9.1, h55_1.2.trans h9.2⟩) (by simp only [tu_sm]; split <;> omega) (by omega))
                ·
                  refine tu_iconst 86 X dX4_bestPhrase_86 ?_
                  refine tu_goto 87 X 92 dX4_bestPhrase_87 (by decide) ?_
                  refine tu_iadd 92 X dX4_bestPhrase_92 ?_
                  refine tu_istore 93 X (lv' := [(6, tu_i ((tu_sm (fun x9 => if tu_co B (B 6 x9).toNat p < 1000000 then tu_co B (B 6 x9).toNat p else 0) q) + 0)), (5, tu_i ((tu_sm (fun x9 => if tu_co B (B 6 x9).toNat p < 1000000 then 0 else 1) q) + 1)), (8, tu_i (tu_nv (tu_co B (B 6 q).toNat p))), (0, tu_r 86), (1, tu_i ((tu_bq B (B 0 1).toNat p).1)), (2, tu_i ((tu_bq B (B 0 1).toNat p).2.1)), (3, tu_i ((tu_bq B (B 0 1).toNat p).2.2)), (4, tu_i ((p : Nat) : Int)), (7, tu_i ((q : Nat) : Int))]) dX4_bestPhrase_93 (by rw [hnl]; decide) rfl ?_
                  refine tu_iinc 95 X (lv' := [(7, tu_i (((q : Nat) : Int) + 1)), (6, tu_i ((tu_sm (fun x9 => if tu_co B (B 6 x9).toNat p < 1000000 then tu_co B (B 6 x9).toNat p else 0) q) + 0)), (5, tu_i ((tu_sm (fun x9 => if tu_co B (B 6 x9).toNat p < 1000000 then 0 else 1) q) + 1)), (8, tu_i (tu_nv (tu_co B (B 6 q).toNat p))), (0, tu_r 86), (1, tu_i ((tu_bq B (B 0 1).toNat p).1)), (2, tu_i ((tu_bq B (B 0 1).toNat p).2.1)), (3, tu_i ((tu_bq B (B 0 1).toNat p).2.2)), (4, tu_i ((p : Nat) : Int))]) 8 dX4_bestPhrase_95 rfl (by rw [hnl]; decide) rfl ?_
                  refine tu_goto 98 X 30 dX4_bestPhrase_98 (by decide) ?_
                  refine tu_jmp [4, 5, 6, 7, 8, 2, 1, 0] (lv' := [(0, tu_r 86), (1, tu_i ((tu_bq B (B 0 1).toNat p).1)), (2, tu_i ((tu_bq B (B 0 1).toNat p).2.1)), (3, tu_i ((tu_bq B (B 0 1).toNat p).2.2)), (4, tu_i ((p : Nat) : Int)), (5, tu_i (tu_sm (fun x9 => if tu_co B (B 6 x9).toNat p < 1000000 then 0 else 1) (q + 1))), (6, tu_i (tu_sm (fun x9 => if tu_co B (B 6 x9).toNat p < 1000000 then tu_co B (B 6 x9).toNat p else 0) (q + 1))), (7, tu_i (((q + 1) : Nat) : Int))]) ⟨rfl, rfl, rfl, rfl, rfl, tu_ei (by first | rfl | (simp only [tu_sm]; split <;> omega)), tu_ei (by first | rfl | (simp only [tu_sm]; split <;> omega)), tu_ei (by first | rfl | omega), trivial⟩ rfl (ih30 (q + 1) r9_55 C_55 W_55 U_55 (by omega) (by exact ⟨h55_1.1.trans h9.1, h55_1.2.trans h9.2⟩) (by simp only [tu_sm]; split <;> omega) (by omega))
        refine tu_jmp [3, 4, 5, 6, 7, 2, 1, 0] (lv' := [(0, tu_r 86), (1, tu_i ((tu_bq B (B 0 1).toNat p).1)), (2, tu_i ((tu_bq B (B 0 1).toNat p).2.1)), (3, tu_i ((tu_bq B (B 0 1).toNat p).2.2)), (4, tu_i ((p : Nat) : Int)), (5, tu_i (tu_sm (fun x9 => if tu_co B (B 6 x9).toNat p < 1000000 then 0 else 1) 0)), (6, tu_i (tu_sm (fun x9 => if tu_co B (B 6 x9).toNat p < 1000000 then tu_co B (B 6 x9).toNat p else 0) 0)), (7, tu_i 0)]) ⟨rfl, rfl, rfl, rfl, rfl, tu_ei (by first | rfl | (simp only [tu_sm]; split <;> omega)), tu_ei (by first | rfl | (simp only [tu_sm]; split <;> omega)), rfl, trivial⟩ rfl (lp30 (((B 0 7).toNat - 0) + 1) 0 r9 C W U (by omega) (by exact h9) (by exact ⟨⟨Int.le_refl _, Int.le_refl _⟩, Int.le_refl _, Int.le_refl _⟩) (by omega))
  refine tu_jmp [4, 3, 2, 1, 0] (lv' := [(0, tu_r 86), (1, tu_i ((tu_bq B (B 0 1).toNat 0).1)), (2, tu_i ((tu_bq B (B 0 1).toNat 0).2.1)), (3, tu_i ((tu_bq B (B 0 1).toNat 0).2.2)), (4, tu_i 0)]) ⟨rfl, tu_ei (by first | rfl | (rw [tu_bq_s]; split <;> first | rfl | (exfalso; omega))), tu_ei (by first | rfl | (rw [tu_bq_s]; split <;> first | rfl | exact eu | (exfalso; omega))), tu_ei (by first | rfl | (rw [tu_bq_s]; split <;> first | rfl | exact es | (exfalso; omega))), rfl, trivial⟩ rfl (lp10 (((B 0 4).toNat - 0) + 1) 0 (M 86) (M 92) (M 93) (M 94) (by omega) (by exact ⟨rfl, rfl⟩) (by exact ⟨⟨by show (-6 : Int) ≤ -6; decide, by show (-6 : Int) ≤ 0; decide⟩, ⟨by show (0 : Int) ≤ 0; decide, by show (0 : Int) ≤ 40; decide⟩, by show (0 : Int) ≤ 0; decide, by show (0 : Int) ≤ 40000000; decide⟩) (by omega))
