theorem tu_uu (f : Nat → Int) (k : Nat) (x y : Int) : tu_u (tu_u f k x) k y = tu_u f k y := by
  funext j
  rw [tu_u_if, tu_u_if, tu_u_if]
  split <;> rfl
theorem tu_u_x {f : Nat → Int} {k : Nat} {x : Int} (h : x = f k) : tu_u f k x = f := by
  funext j
  rw [tu_u_if]
  split
  · next e => rw [h, e]
  · rfl
theorem tu_narc {k : Nat} (h : k < 65536) : vp_nar .char (tu_J (k : Int)) = tu_J (k : Int) := by
  unfold vp_nar
  rw [tu_J_n, (pk_charN h).1]

set_option maxRecDepth 20000 in
set_option maxHeartbeats 4000000 in
theorem c_X2_isSyllable {M : tu_M} (c : Int) (hc : tu_rg c) : tu_MI tu_Y_X2_isSyllable [tu_i c] M (fun z M' => M' = M ∧ z = tu_b (c = 120 ∨ c = 88)) := by
  refine tu_MI.of (ty := .boolean) (by decide) rfl (by first | exact Or.inl rfl | exact Or.inr rfl) (Nat.le_of_ble_eq_true rfl) (fun T (X : tu_X T cX2_isSyllable RX2 0 0) hnl hrt hret => ?_)
  have hret : tu_RI T cX2_isSyllable (fun z M' => M' = M ∧ z = tu_b (c = 120 ∨ c = 88)) := hret
  have hnl : T.2.2.2.2.2.2.2.2.2.2.1 = 1 := hnl
  show tu_W T 0 [(0, tu_i c)] [] M
  refine tu_iload_n 0 X 0 dX2_isSyllable_0 rfl ?_
  refine tu_bipush 1 X dX2_isSyllable_1 (by decide) ?_
  refine tu_icmp_eq 3 X 12 dX2_isSyllable_3 (by decide) (show tu_rg c from by first | assumption | exact ⟨by omega, by omega⟩) ⟨by decide, by decide⟩ (fun br3 => ?_) (fun br3 => ?_)
  ·
    refine tu_iconst 12 X dX2_isSyllable_12 ?_
    refine tu_goto 13 X 17 dX2_isSyllable_13 (by decide) ?_
    refine hret 17 _ _ 1 dX2_isSyllable_17 (fun _ => Or.inr rfl) ?_
    exact ⟨rfl, (tu_b1 (by omega)).symm⟩
  ·
    refine tu_iload_n 6 X 0 dX2_isSyllable_6 rfl ?_
    refine tu_bipush 7 X dX2_isSyllable_7 (by decide) ?_
    refine tu_icmp_ne 9 X 16 dX2_isSyllable_9 (by decide) (show tu_rg c from by first | assumption | exact ⟨by omega, by omega⟩) ⟨by decide, by decide⟩ (fun br9 => ?_) (fun br9 => ?_)
    ·
      refine tu_iconst 16 X dX2_isSyllable_16 ?_
      refine hret 17 _ _ 0 dX2_isSyllable_17 (fun _ => Or.inl rfl) ?_
      exact ⟨rfl, (tu_b0 (by omega)).symm⟩
    ·
      refine tu_iconst 12 X dX2_isSyllable_12 ?_
      refine tu_goto 13 X 17 dX2_isSyllable_13 (by decide) ?_
      refine hret 17 _ _ 1 dX2_isSyllable_17 (fun _ => Or.inr rfl) ?_
      exact ⟨rfl, (tu_b1 (by omega)).symm⟩
set_option maxRecDepth 20000 in
set_option maxHeartbeats 4000000 in
theorem c_X2_isBeat {M : tu_M} (c : Int) (hc : tu_rg c) : tu_MI tu_Y_X2_isBeat [tu_i c] M (fun z M' => M' = M ∧ z = tu_b (c = 115 ∨ c = 119 ∨ c = 46)) := by
  refine tu_MI.of (ty := .boolean) (by decide) rfl (by first | exact Or.inl rfl | exact Or.inr rfl) (Nat.le_of_ble_eq_true rfl) (fun T (X : tu_X T cX2_isBeat RX2 0 0) hnl hrt hret => ?_)
  have hret : tu_RI T cX2_isBeat (fun z M' => M' = M ∧ z = tu_b (c = 115 ∨ c = 119 ∨ c = 46)) := hret
  have hnl : T.2.2.2.2.2.2.2.2.2.2.1 = 1 := hnl
  show tu_W T 0 [(0, tu_i c)] [] M
  refine tu_iload_n 0 X 0 dX2_isBeat_0 rfl ?_
  refine tu_bipush 1 X dX2_isBeat_1 (by decide) ?_
  refine tu_icmp_eq 3 X 18 dX2_isBeat_3 (by decide) (show tu_rg c from by first | assumption | exact ⟨by omega, by omega⟩) ⟨by decide, by decide⟩ (fun br3 => ?_) (fun br3 => ?_)
  ·
    refine tu_iconst 18 X dX2_isBeat_18 ?_
    refine tu_goto 19 X 23 dX2_isBeat_19 (by decide) ?_
    refine hret 23 _ _ 1 dX2_isBeat_23 (fun _ => Or.inr rfl) ?_
    exact ⟨rfl, (tu_b1 (by omega)).symm⟩
  ·
    refine tu_iload_n 6 X 0 dX2_isBeat_6 rfl ?_
    refine tu_bipush 7 X dX2_isBeat_7 (by decide) ?_
    refine tu_icmp_eq 9 X 18 dX2_isBeat_9 (by decide) (show tu_rg c from by first | assumption | exact ⟨by omega, by omega⟩) ⟨by decide, by decide⟩ (fun br9 => ?_) (fun br9 => ?_)
    ·
      refine tu_iconst 18 X dX2_isBeat_18 ?_
      refine tu_goto 19 X 23 dX2_isBeat_19 (by decide) ?_
      refine hret 23 _ _ 1 dX2_isBeat_23 (fun _ => Or.inr rfl) ?_
      exact ⟨rfl, (tu_b1 (by omega)).symm⟩
    ·
      refine tu_iload_n 12 X 0 dX2_isBeat_12 rfl ?_
      refine tu_bipush 13 X dX2_isBeat_13 (by decide) ?_
      refine tu_icmp_ne 15 X 22 dX2_isBeat_15 (by decide) (show tu_rg c from by first | assumption | exact ⟨by omega, by omega⟩) ⟨by decide, by decide⟩ (fun br15 => ?_) (fun br15 => ?_)
      ·
        refine tu_iconst 22 X dX2_isBeat_22 ?_
        refine hret 23 _ _ 0 dX2_isBeat_23 (fun _ => Or.inl rfl) ?_
        exact ⟨rfl, (tu_b0 (by omega)).symm⟩
      ·
        refine tu_iconst 18 X dX2_isBeat_18 ?_
        refine tu_goto 19 X 23 dX2_isBeat_19 (by decide) ?_
        refine hret 23 _ _ 1 dX2_isBeat_23 (fun _ => Or.inr rfl) ?_
        exact ⟨rfl, (tu_b1 (by omega)).symm⟩
set_option maxRecDepth 20000 in
set_option maxHeartbeats 4000000 in
theorem c_X2_signsIn {M : tu_M} (u : Nat) (hu : u < 18446744073709551616) : tu_MI tu_Y_X2_signsIn [tu_l u] M (fun z M' => ∃ (w : Int), M' = M ∧ (tu_sg u w) ∧ (0 ≤ w ∧ w ≤ 8) ∧ z = w) := by
  refine tu_MI.of (ty := .int) (by decide) rfl (by first | exact Or.inl rfl | exact Or.inr rfl) (Nat.le_of_ble_eq_true rfl) (fun T (X : tu_X T cX2_signsIn RX2 0 0) hnl hrt hret => ?_)
  have hret : tu_RI T cX2_signsIn (fun z M' => ∃ (w : Int), M' = M ∧ (tu_sg u w) ∧ (0 ≤ w ∧ w ≤ 8) ∧ z = w) := hret
  have hnl : T.2.2.2.2.2.2.2.2.2.2.1 = 7 := hnl
  show tu_W T 0 [(0, tu_l u)] [] M
  refine tu_lload_n 0 X 0 dX2_signsIn_0 rfl ?_
  refine tu_lstore_n 1 X (lv' := [(2, tu_l u), (0, tu_l u)]) dX2_signsIn_1 (by rw [hnl]; decide) rfl ?_
  refine tu_iconst 2 X dX2_signsIn_2 ?_
  refine tu_istore 3 X (lv' := [(4, tu_i 0), (2, tu_l u), (0, tu_l u)]) dX2_signsIn_3 (by rw [hnl]; decide) rfl ?_
  have lp5 : ∀ (nq : Nat) (k : Nat), (k ≤ 8) → (∀ j, j < k → 33 ≤ tu_by u j ∧ tu_by u j ≤ 126) → 8 - k < nq → tu_W T 5 [(0, tu_l u), (2, tu_l (u / 256 ^ k)), (4, tu_i ((k : Nat) : Int))] [] M := by
    intro nq
    induction nq with
    | zero => intros; omega
    | succ nq ih5 =>
      intro k hk hg hn5
      have e1 : u / 256 ^ k < 18446744073709551616 := Nat.lt_of_le_of_lt (Nat.div_le_self _ _) hu
      refine tu_lload_n 5 X 1 dX2_signsIn_5 rfl ?_
      refine tu_lconst 6 X dX2_signsIn_6 ?_
      refine tu_lcmp 7 X dX2_signsIn_7 ?_
      refine tu_if_eq 8 X 56 dX2_signsIn_8 (by decide) (tu_lc_rg _ _) (fun br8 => ?_) (fun br8 => ?_)
      ·
        have br8 : u / 256 ^ k = 0 := (tu_lc_0 e1 (by decide)).mp br8
        refine tu_iload 56 X 2 dX2_signsIn_56 rfl ?_
        refine hret 58 _ _ ((k : Nat) : Int) dX2_signsIn_58 (fun h => by rw [hrt] at h; cases h) ?_
        refine ⟨_, rfl, ?_, ⟨by omega, by omega⟩, rfl⟩
        have e2 : u / 256 ^ k = 0 := by first | exact br8 | (rw [show k = 8 from by omega]; exact Nat.div_eq_of_lt (by omega))
        rcases Nat.eq_zero_or_pos k with q | q
        · right
          subst q
          exact ⟨rfl, tu_vd_0 (by simpa using e2)⟩
        · left
          exact ⟨k, rfl, ⟨q, hk⟩, hg, e2⟩
      ·
        have br8 : ¬ u / 256 ^ k = 0 := fun z => br8 ((tu_lc_0 e1 (by decide)).mpr z)
        refine tu_iload 11 X 2 dX2_signsIn_11 rfl ?_
        refine tu_bipush 13 X dX2_signsIn_13 (by decide) ?_
        refine tu_icmp_ge 15 X 56 dX2_signsIn_15 (by decide) (show tu_rg ((k : Nat) : Int) from by first | assumption | exact ⟨by omega, by omega⟩) ⟨by decide, by decide⟩ (fun br15 => ?_) (fun br15 => ?_)
        ·
          refine tu_iload 56 X 2 dX2_signsIn_56 rfl ?_
          refine hret 58 _ _ ((k : Nat) : Int) dX2_signsIn_58 (fun h => by rw [hrt] at h; cases h) ?_
          refine ⟨_, rfl, ?_, ⟨by omega, by omega⟩, rfl⟩
          have e2 : u / 256 ^ k = 0 := by first | exact br8 | (rw [show k = 8 from by omega]; exact Nat.div_eq_of_lt (by omega))
          rcases Nat.eq_zero_or_pos k with q | q
          · right
            subst q
            exact ⟨rfl, tu_vd_0 (by simpa using e2)⟩
          · left
            exact ⟨k, rfl, ⟨q, hk⟩, hg, e2⟩
        ·
          refine tu_lload_n 18 X 1 dX2_signsIn_18 rfl ?_
          refine tu_ldc2 19 X (n := 255) dX2_signsIn_19 kw_RX2_19 (by decide) ?_
          refine tu_land255 22 X dX2_signsIn_22 ?_
          refine tu_lstore 23 X (lv' := [(5, tu_l ((u / 256 ^ k) % 256)), (0, tu_l u), (2, tu_l (u / 256 ^ k)), (4, tu_i ((k : Nat) : Int))]) dX2_signsIn_23 (by rw [hnl]; decide) rfl ?_
          refine tu_lload 25 X 0 dX2_signsIn_25 rfl ?_
          refine tu_ldc2 27 X (n := 33) dX2_signsIn_27 kw_RX2_21 (by decide) ?_
          refine tu_lcmp 30 X dX2_signsIn_30 ?_
          refine tu_if_lt 31 X 43 dX2_signsIn_31 (by decide) (tu_lc_rg _ _) (fun br31 => ?_) (fun br31 => ?_)
          ·
            have br31 := (tu_lc_neg (by omega) (by decide)).mp br31
            refine tu_iconst 43 X dX2_signsIn_43 ?_
            refine hret 44 _ _ 0 dX2_signsIn_44 (fun h => by rw [hrt] at h; cases h) ?_
            exact ⟨0, rfl, Or.inr ⟨rfl, tu_vd_bad br8 (by unfold tu_by; omega)⟩, ⟨by decide, by decide⟩, rfl⟩
          ·
            have br31 : ¬ u / 256 ^ k % 256 < 33 := fun z => absurd ((tu_lc_neg (by omega) (by decide)).mpr z) (by omega)
            refine tu_lload 34 X 0 dX2_signsIn_34 rfl ?_
            refine tu_ldc2 36 X (n := 126) dX2_signsIn_36 kw_RX2_23 (by decide) ?_
            refine tu_lcmp 39 X dX2_signsIn_39 ?_
            refine tu_if_le 40 X 45 dX2_signsIn_40 (by decide) (tu_lc_rg _ _) (fun br40 => ?_) (fun br40 => ?_)
            ·
              have br40 := (tu_lc_pos (by omega) (by decide)).mp br40
              refine tu_lload_n 45 X 2 dX2_signsIn_45 rfl ?_
              refine tu_bipush 46 X dX2_signsIn_46 (by decide) ?_
              refine tu_lushr8 48 X dX2_signsIn_48 (by omega) ?_
              refine tu_lstore_n 49 X (lv' := [(2, tu_l ((u / 256 ^ k) / 256)), (5, tu_l ((u / 256 ^ k) % 256)), (0, tu_l u), (4, tu_i ((k : Nat) : Int))]) dX2_signsIn_49 (by rw [hnl]; decide) rfl ?_
              refine tu_iinc 50 X (lv' := [(4, tu_i (((k : Nat) : Int) + 1)), (2, tu_l ((u / 256 ^ k) / 256)), (5, tu_l ((u / 256 ^ k) % 256)), (0, tu_l u)]) 3 dX2_signsIn_50 rfl (by rw [hnl]; decide) rfl ?_
              refine tu_goto 53 X 5 dX2_signsIn_53 (by decide) ?_
              refine tu_jmp [3, 1, 0] (lv' := [(0, tu_l u), (2, tu_l (u / 256 ^ (k + 1))), (4, tu_i (((k + 1) : Nat) : Int))]) ⟨rfl, tu_el (by first | (simp; done) | rw [Nat.pow_succ, Nat.div_div_eq_div_mul]), tu_ei (by first | rfl | omega), trivial⟩ rfl (ih5 (k + 1) (by first | assumption | omega) (by intro j hj; rcases Nat.lt_or_ge j k with q | q; exact hg j q; rw [show j = k from by omega]; unfold tu_by; omega) (by omega))
            ·
              have br40 : ¬ u / 256 ^ k % 256 ≤ 126 := fun z => absurd ((tu_lc_pos (by omega) (by decide)).mpr z) (by omega)
              refine tu_iconst 43 X dX2_signsIn_43 ?_
              refine hret 44 _ _ 0 dX2_signsIn_44 (fun h => by rw [hrt] at h; cases h) ?_
              exact ⟨0, rfl, Or.inr ⟨rfl, tu_vd_bad br8 (by unfold tu_by; omega)⟩, ⟨by decide, by decide⟩, rfl⟩
  refine tu_jmp [2, 1, 0] (lv' := [(0, tu_l u), (2, tu_l (u / 256 ^ 0)), (4, tu_i 0)]) ⟨rfl, tu_el (by first | (simp; done) | rw [Nat.pow_succ, Nat.div_div_eq_div_mul]), rfl, trivial⟩ rfl (lp5 ((8 - 0) + 1) 0 (by first | assumption | omega) (by intro j hj; omega) (by omega))
set_option maxRecDepth 20000 in
set_option maxHeartbeats 4000000 in
theorem c_X2_append {M : tu_M} (u c : Nat) (hp : 0 ≤ M 9 1 ∧ M 9 1 ≤ 60) (hu : u < 18446744073709551616) (hc : c ≤ 8) (hl : M 9 1 + c ≤ 60) : tu_MV tu_Y_X2_append [tu_r 9, tu_l u, tu_i ((c : Nat) : Int)] M (fun M' => M' = tu_row (tu_row M 9 (tu_u (M 9) 1 (M 9 1 + ((c : Nat) : Int)))) 10 (tu_ap (M 10) (M 9 1).toNat u c c)) := by
  refine tu_MV.of (by decide) rfl (Nat.le_of_ble_eq_true rfl) (fun T (X : tu_X T cX2_append RX2 0 0) hnl hret => ?_)
  have hret : tu_RV T cX2_append (fun M' => M' = tu_row (tu_row M 9 (tu_u (M 9) 1 (M 9 1 + ((c : Nat) : Int)))) 10 (tu_ap (M 10) (M 9 1).toNat u c c)) := hret
  have hnl : T.2.2.2.2.2.2.2.2.2.2.1 = 5 := hnl
  show tu_W T 0 [(0, tu_r 9), (1, tu_l u), (3, tu_i ((c : Nat) : Int))] [] M
  refine tu_iload_n 0 X 2 dX2_append_0 rfl ?_
  refine tu_iconst 1 X dX2_append_1 ?_
  refine tu_isub 2 X dX2_append_2 ?_
  refine tu_istore 3 X (lv' := [(4, tu_i (((c : Nat) : Int) - 1)), (0, tu_r 9), (1, tu_l u), (3, tu_i ((c : Nat) : Int))]) dX2_append_3 (by rw [hnl]; decide) rfl ?_
  refine tu_st_eq rfl (M' := tu_row M 9 (M 9)) ((tu_rx M 9).symm) ?_
  refine tu_st_eq rfl (M' := tu_row (tu_row M 9 (M 9)) 10 (M 10)) ((congrArg (fun m => tu_row m 9 (M 9)) ((tu_rx M 10).symm)).trans (tu_rc M (M 10) (M 9) rfl)) ?_
  have lp5 : ∀ (nq : Nat) (j : Nat) (y : Int), (j ≤ c) → (y = (c : Int) - 1 - (j : Int)) → c - j < nq → tu_W T 5 [(0, tu_r 9), (1, tu_l u), (3, tu_i ((c : Nat) : Int)), (4, tu_i y)] [] (tu_row (tu_row M 9 (tu_u (M 9) 1 (M 9 1 + ((j : Nat) : Int)))) 10 (tu_ap (M 10) (M 9 1).toNat u c j)) := by
    intro nq
    induction nq with
    | zero => intros; omega
    | succ nq ih5 =>
      intro j y hj hy hn5
      refine tu_iload 5 X 3 dX2_append_5 rfl ?_
      refine tu_if_lt 7 X 57 dX2_append_7 (by decide) (show tu_rg y from by first | assumption | exact ⟨by omega, by omega⟩) (fun br7 => ?_) (fun br7 => ?_)
      ·
        refine hret 57 _ _ dX2_append_57 ?_
        rw [show c = j from by omega]
      ·
        refine tu_aload_n 10 X 0 dX2_append_10 rfl ?_
        refine tu_getI 11 X (x := (tu_u (M 9) 1 (M 9 1 + ((j : Nat) : Int))) 1) dX2_append_11 fl_RX2_15 (by decide) rfl rfl rfl ?_
        refine tu_tp (b := ((((M 9 1).toNat + j : Nat)) : Int)) (by rw [tu_u_s]; omega) ?_
        refine tu_bipush 14 X dX2_append_14 (by decide) ?_
        refine tu_icmp_ge 16 X 51 dX2_append_16 (by decide) (show tu_rg ((((M 9 1).toNat + j : Nat)) : Int) from by first | assumption | exact ⟨by omega, by omega⟩) ⟨by decide, by decide⟩ (fun br16 => ?_) (fun br16 => ?_)
        ·
          exfalso; omega
        ·
          refine tu_aload_n 19 X 0 dX2_append_19 rfl ?_
          refine tu_getR 20 X dX2_append_20 fl_RX2_9 (by decide) rfl rfl ?_
          refine tu_aload_n 23 X 0 dX2_append_23 rfl ?_
          refine tu_getI 24 X (x := (tu_u (M 9) 1 (M 9 1 + ((j : Nat) : Int))) 1) dX2_append_24 fl_RX2_15 (by decide) rfl rfl rfl ?_
          refine tu_tp (b := ((((M 9 1).toNat + j : Nat)) : Int)) (by rw [tu_u_s]; omega) ?_
          refine tu_lload_n 27 X 1 dX2_append_27 rfl ?_
          refine tu_bipush 28 X dX2_append_28 (by decide) ?_
          refine tu_iload 30 X 3 dX2_append_30 rfl ?_
          refine tu_tp (b := (((c - 1 - j : Nat)) : Int)) (by omega) ?_
          refine tu_imul 32 X dX2_append_32 ?_
          refine tu_lushr 33 X (8 * (c - 1 - j)) dX2_append_33 (by omega) (by omega) (by omega) ?_
          refine tu_ldc2 34 X (n := 255) dX2_append_34 kw_RX2_19 (by decide) ?_
          refine tu_land255 37 X dX2_append_37 ?_
          refine tu_l2i 38 X dX2_append_38 ?_
          refine tu_i2c 39 X ((u / 2 ^ (8 * (c - 1 - j))) % 256) dX2_append_39 (by omega) (by omega) ?_
          refine tu_tp (b := ((tu_by u (c - 1 - j) : Nat) : Int)) (by rw [tu_by, show (256 : Nat) ^ (c - 1 - j) = 2 ^ (8 * (c - 1 - j)) from (Nat.pow_mul 2 8 _).symm]) ?_
          refine tu_cast 40 X (M' := tu_row (tu_row M 9 (tu_u (M 9) 1 (M 9 1 + ((j : Nat) : Int)))) 10 (tu_ap (M 10) (M 9 1).toNat u c (j + 1))) ((M 9 1).toNat + j) dX2_append_40 (by decide) rfl (by decide) (by omega) (by omega) (by exact tu_narc (by unfold tu_by; omega)) ((tu_rr (tu_row M 9 (tu_u (M 9) 1 (M 9 1 + ((j : Nat) : Int)))) 10 (tu_ap (M 10) (M 9 1).toNat u c j) (tu_u (tu_ap (M 10) (M 9 1).toNat u c j) ((M 9 1).toNat + j) ((tu_by u (c - 1 - j) : Nat) : Int))).trans (congrArg (fun q => tu_row (tu_row M 9 (tu_u (M 9) 1 (M 9 1 + ((j : Nat) : Int)))) 10 q) (show tu_u (tu_ap (M 10) (M 9 1).toNat u c j) ((M 9 1).toNat + j) ((tu_by u (c - 1 - j) : Nat) : Int) = tu_ap (M 10) (M 9 1).toNat u c (j + 1) from by rfl))) ?_
          refine tu_aload_n 41 X 0 dX2_append_41 rfl ?_
          refine tu_dup 42 X dX2_append_42 rfl ?_
          refine tu_getI 43 X (x := (tu_u (M 9) 1 (M 9 1 + ((j : Nat) : Int))) 1) dX2_append_43 fl_RX2_15 (by decide) rfl rfl rfl ?_
          refine tu_tp (b := ((((M 9 1).toNat + j : Nat)) : Int)) (by rw [tu_u_s]; omega) ?_
          refine tu_iconst 46 X dX2_append_46 ?_
          refine tu_iadd 47 X dX2_append_47 ?_
          refine tu_putI 48 X (M' := tu_row (tu_row M 9 (tu_u (M 9) 1 (M 9 1 + (((j + 1) : Nat) : Int)))) 10 (tu_ap (M 10) (M 9 1).toNat u c (j + 1))) dX2_append_48 fp_RX2_15 (by decide) rfl rfl (((tu_rc (tu_row M 9 (tu_u (M 9) 1 (M 9 1 + ((j : Nat) : Int)))) (tu_ap (M 10) (M 9 1).toNat u c (j + 1)) (tu_u (tu_u (M 9) 1 (M 9 1 + ((j : Nat) : Int))) 1 (((((M 9 1).toNat + j : Nat)) : Int) + 1)) rfl).trans (congrArg (fun m => tu_row m 10 (tu_ap (M 10) (M 9 1).toNat u c (j + 1))) (tu_rr M 9 (tu_u (M 9) 1 (M 9 1 + ((j : Nat) : Int))) (tu_u (tu_u (M 9) 1 (M 9 1 + ((j : Nat) : Int))) 1 (((((M 9 1).toNat + j : Nat)) : Int) + 1))))).trans (congrArg (fun m => tu_row m 10 (tu_ap (M 10) (M 9 1).toNat u c (j + 1))) (congrArg (fun q => tu_row M 9 q) (show tu_u (tu_u (M 9) 1 (M 9 1 + ((j : Nat) : Int))) 1 (((((M 9 1).toNat + j : Nat)) : Int) + 1) = tu_u (M 9) 1 (M 9 1 + (((j + 1) : Nat) : Int)) from by rw [tu_uu]; congr 1; omega)))) ?_
          refine tu_iinc 51 X (lv' := [(4, tu_i (y + (-1))), (0, tu_r 9), (1, tu_l u), (3, tu_i ((c : Nat) : Int))]) 3 dX2_append_51 rfl (by rw [hnl]; decide) rfl ?_
          refine tu_goto 54 X 5 dX2_append_54 (by decide) ?_
          refine tu_jmp [1, 2, 3, 0] (lv' := [(0, tu_r 9), (1, tu_l u), (3, tu_i ((c : Nat) : Int)), (4, tu_i (y + (-1)))]) ⟨rfl, rfl, rfl, rfl, trivial⟩ rfl (ih5 (j + 1) (y + (-1)) (by first | assumption | omega) (by first | assumption | omega) (by omega))
  refine tu_jmp [1, 2, 3, 0] (lv' := [(0, tu_r 9), (1, tu_l u), (3, tu_i ((c : Nat) : Int)), (4, tu_i (((c : Nat) : Int) - 1))]) ⟨rfl, rfl, rfl, rfl, trivial⟩ (by first | rfl | (rw [show tu_u (M 9) 1 (M 9 1 + ((0 : Nat) : Int)) = M 9 from tu_u_x (by omega)]; rfl)) (lp5 ((c - 0) + 1) 0 (((c : Nat) : Int) - 1) (by first | assumption | omega) (by first | assumption | omega) (by omega))
set_option maxRecDepth 20000 in
set_option maxHeartbeats 4000000 in
theorem c_X2_beginsPart {M : tu_M} (k : Nat) (hp : 0 ≤ M 9 1 ∧ M 9 1 ≤ 60) (hk : (k : Int) < M 9 1) (hr : ∀ k : Nat, (k : Int) < M 9 1 → tu_rg (M 10 k)) : tu_MI tu_Y_X2_beginsPart [tu_r 9, tu_i ((k : Nat) : Int)] M (fun z M' => M' = M ∧ z = tu_b (k = 0 ∨ M 10 (k - 1) = 59)) := by
  refine tu_MI.of (ty := .boolean) (by decide) rfl (by first | exact Or.inl rfl | exact Or.inr rfl) (Nat.le_of_ble_eq_true rfl) (fun T (X : tu_X T cX2_beginsPart RX2 0 0) hnl hrt hret => ?_)
  have hret : tu_RI T cX2_beginsPart (fun z M' => M' = M ∧ z = tu_b (k = 0 ∨ M 10 (k - 1) = 59)) := hret
  have hnl : T.2.2.2.2.2.2.2.2.2.2.1 = 2 := hnl
  show tu_W T 0 [(0, tu_r 9), (1, tu_i ((k : Nat) : Int))] [] M
  refine tu_iload_n 0 X 1 dX2_beginsPart_0 rfl ?_
  refine tu_if_eq 1 X 29 dX2_beginsPart_1 (by decide) (show tu_rg ((k : Nat) : Int) from by first | assumption | exact ⟨by omega, by omega⟩) (fun br1 => ?_) (fun br1 => ?_)
  ·
    refine tu_iconst 29 X dX2_beginsPart_29 ?_
    refine tu_goto 30 X 34 dX2_beginsPart_30 (by decide) ?_
    refine hret 34 _ _ 1 dX2_beginsPart_34 (fun _ => Or.inr rfl) ?_
    exact ⟨rfl, (tu_b1 (by omega)).symm⟩
  ·
    refine tu_iload_n 4 X 1 dX2_beginsPart_4 rfl ?_
    refine tu_if_le 5 X 33 dX2_beginsPart_5 (by decide) (show tu_rg ((k : Nat) : Int) from by first | assumption | exact ⟨by omega, by omega⟩) (fun br5 => ?_) (fun br5 => ?_)
    ·
      exfalso; omega
    ·
      refine tu_iload_n 8 X 1 dX2_beginsPart_8 rfl ?_
      refine tu_aload_n 9 X 0 dX2_beginsPart_9 rfl ?_
      refine tu_getI 10 X (x := M 9 1) dX2_beginsPart_10 fl_RX2_15 (by decide) rfl rfl rfl ?_
      refine tu_icmp_ge 13 X 33 dX2_beginsPart_13 (by decide) (show tu_rg ((k : Nat) : Int) from by first | assumption | exact ⟨by omega, by omega⟩) (show tu_rg (M 9 1) from by first | assumption | exact ⟨by omega, by omega⟩) (fun br13 => ?_) (fun br13 => ?_)
      ·
        exfalso; omega
      ·
        refine tu_aload_n 16 X 0 dX2_beginsPart_16 rfl ?_
        refine tu_getR 17 X dX2_beginsPart_17 fl_RX2_9 (by decide) rfl rfl ?_
        refine tu_iload_n 20 X 1 dX2_beginsPart_20 rfl ?_
        refine tu_iconst 21 X dX2_beginsPart_21 ?_
        refine tu_isub 22 X dX2_beginsPart_22 ?_
        refine tu_tp (b := (((k - 1 : Nat)) : Int)) (by omega) ?_
        refine tu_cald 23 X (x := M 10 (k - 1)) (k - 1) dX2_beginsPart_23 (by decide) rfl (by decide) (by omega) (by omega) rfl ?_
        have e1 := hr (k - 1) (by omega)
        refine tu_bipush 24 X dX2_beginsPart_24 (by decide) ?_
        refine tu_icmp_ne 26 X 33 dX2_beginsPart_26 (by decide) (show tu_rg (M 10 (k - 1)) from by first | assumption | exact ⟨by omega, by omega⟩) ⟨by decide, by decide⟩ (fun br26 => ?_) (fun br26 => ?_)
        ·
          refine tu_iconst 33 X dX2_beginsPart_33 ?_
          refine hret 34 _ _ 0 dX2_beginsPart_34 (fun _ => Or.inl rfl) ?_
          exact ⟨rfl, (tu_b0 (by omega)).symm⟩
        ·
          refine tu_iconst 29 X dX2_beginsPart_29 ?_
          refine tu_goto 30 X 34 dX2_beginsPart_30 (by decide) ?_
          refine hret 34 _ _ 1 dX2_beginsPart_34 (fun _ => Or.inr rfl) ?_
          exact ⟨rfl, (tu_b1 (by omega)).symm⟩
set_option maxRecDepth 20000 in
set_option maxHeartbeats 4000000 in
theorem c_X2_parts {M : tu_M}  (hp : 0 ≤ M 9 1 ∧ M 9 1 ≤ 60) (hr : ∀ k : Nat, (k : Int) < M 9 1 → tu_rg (M 10 k)) : tu_MI tu_Y_X2_parts [tu_r 9] M (fun z M' => M' = M ∧ z = tu_sm (fun q => if q = 0 ∨ M 10 (q - 1) = 59 then 1 else 0) (M 9 1).toNat) := by
  refine tu_MI.of (ty := .int) (by decide) rfl (by first | exact Or.inl rfl | exact Or.inr rfl) (Nat.le_of_ble_eq_true rfl) (fun T (X : tu_X T cX2_parts RX2 1 21) hnl hrt hret => ?_)
  have hret : tu_RI T cX2_parts (fun z M' => M' = M ∧ z = tu_sm (fun q => if q = 0 ∨ M 10 (q - 1) = 59 then 1 else 0) (M 9 1).toNat) := hret
  have hnl : T.2.2.2.2.2.2.2.2.2.2.1 = 3 := hnl
  show tu_W T 0 [(0, tu_r 9)] [] M
  refine tu_iconst 0 X dX2_parts_0 ?_
  refine tu_istore_n 1 X (lv' := [(1, tu_i 0), (0, tu_r 9)]) dX2_parts_1 (by rw [hnl]; decide) rfl ?_
  refine tu_iconst 2 X dX2_parts_2 ?_
  refine tu_istore_n 3 X (lv' := [(2, tu_i 0), (1, tu_i 0), (0, tu_r 9)]) dX2_parts_3 (by rw [hnl]; decide) rfl ?_
  have lp4 : ∀ (nq : Nat) (k : Nat), ((k : Int) ≤ M 9 1) → (M 9 1).toNat - k < nq → tu_W T 4 [(0, tu_r 9), (1, tu_i (tu_sm (fun q => if q = 0 ∨ M 10 (q - 1) = 59 then 1 else 0) k)), (2, tu_i ((k : Nat) : Int))] [] M := by
    intro nq
    induction nq with
    | zero => intros; omega
    | succ nq ih4 =>
      intro k hk hn4
      refine tu_iload_n 4 X 2 dX2_parts_4 rfl ?_
      refine tu_aload_n 5 X 0 dX2_parts_5 rfl ?_
      refine tu_getI 6 X (x := M 9 1) dX2_parts_6 fl_RX2_15 (by decide) rfl rfl rfl ?_
      refine tu_icmp_ge 9 X 29 dX2_parts_9 (by decide) (show tu_rg ((k : Nat) : Int) from by first | assumption | exact ⟨by omega, by omega⟩) (show tu_rg (M 9 1) from by first | assumption | exact ⟨by omega, by omega⟩) (fun br9 => ?_) (fun br9 => ?_)
      ·
        refine tu_iload_n 29 X 1 dX2_parts_29 rfl ?_
        refine hret 30 _ _ (tu_sm (fun q => if q = 0 ∨ M 10 (q - 1) = 59 then 1 else 0) k) dX2_parts_30 (fun h => by rw [hrt] at h; cases h) ?_
        exact ⟨rfl, by rw [show (M 9 1).toNat = k from by omega]⟩
      ·
        refine tu_aload_n 12 X 0 dX2_parts_12 rfl ?_
        refine tu_iload_n 13 X 2 dX2_parts_13 rfl ?_
        refine tu_callVI 14 X (st := []) (as := [tu_i ((k : Nat) : Int)]) (c_X2_beginsPart k (show 0 ≤ M 9 1 ∧ M 9 1 ≤ 60 from by first | assumption | omega | exact ⟨by omega, by omega⟩ | decide) (show (k : Int) < M 9 1 from by first | assumption | omega | exact ⟨by omega, by omega⟩ | decide) (show ∀ k : Nat, (k : Int) < M 9 1 → tu_rg (M 10 k) from by first | assumption | omega | exact ⟨by omega, by omega⟩ | decide)) sv_RX2_25 dX2_parts_14 rfl (by decide) rfl rfl rfl (Nat.le_of_ble_eq_true rfl) ⟨by decide, by decide⟩ (fun z M' h => ?_)
        obtain ⟨hM14, hz14⟩ := h
        refine tu_st_eq rfl (M' := M) hM14 ?_
        refine tu_tp (b := tu_b (k = 0 ∨ M 10 (k - 1) = 59)) hz14 ?_
        refine tu_if_eq 17 X 23 dX2_parts_17 (by decide) tu_b_rg (fun br17 => ?_) (fun br17 => ?_)
        ·
          have br17 := tu_b_e0 br17
          refine tu_iinc 23 X (lv' := [(2, tu_i (((k : Nat) : Int) + 1)), (0, tu_r 9), (1, tu_i (tu_sm (fun q => if q = 0 ∨ M 10 (q - 1) = 59 then 1 else 0) k))]) 2 dX2_parts_23 rfl (by rw [hnl]; decide) rfl ?_
          refine tu_goto 26 X 4 dX2_parts_26 (by decide) ?_
          refine tu_jmp [1, 2, 0] (lv' := [(0, tu_r 9), (1, tu_i (tu_sm (fun q => if q = 0 ∨ M 10 (q - 1) = 59 then 1 else 0) (k + 1))), (2, tu_i (((k + 1) : Nat) : Int))]) ⟨rfl, tu_ei (by first | rfl | (simp only [tu_sm]; first | (rw [if_pos (by omega)]; done) | (rw [if_neg (by omega)]; omega))), tu_ei (by first | rfl | omega), trivial⟩ rfl (ih4 (k + 1) (by first | assumption | omega) (by omega))
        ·
          have br17 := tu_b_n0 br17
          refine tu_iinc 20 X (lv' := [(1, tu_i (tu_sm (fun q => if q = 0 ∨ M 10 (q - 1) = 59 then 1 else 0) k + 1)), (0, tu_r 9), (2, tu_i ((k : Nat) : Int))]) 1 dX2_parts_20 rfl (by rw [hnl]; decide) rfl ?_
          refine tu_iinc 23 X (lv' := [(2, tu_i (((k : Nat) : Int) + 1)), (1, tu_i (tu_sm (fun q => if q = 0 ∨ M 10 (q - 1) = 59 then 1 else 0) k + 1)), (0, tu_r 9)]) 2 dX2_parts_23 rfl (by rw [hnl]; decide) rfl ?_
          refine tu_goto 26 X 4 dX2_parts_26 (by decide) ?_
          refine tu_jmp [2, 1, 0] (lv' := [(0, tu_r 9), (1, tu_i (tu_sm (fun q => if q = 0 ∨ M 10 (q - 1) = 59 then 1 else 0) (k + 1))), (2, tu_i (((k + 1) : Nat) : Int))]) ⟨rfl, tu_ei (by first | rfl | (simp only [tu_sm]; first | (rw [if_pos (by omega)]; done) | (rw [if_neg (by omega)]; omega))), tu_ei (by first | rfl | omega), trivial⟩ rfl (ih4 (k + 1) (by first | assumption | omega) (by omega))
  refine tu_jmp [2, 1, 0] (lv' := [(0, tu_r 9), (1, tu_i (tu_sm (fun q => if q = 0 ∨ M 10 (q - 1) = 59 then 1 else 0) 0)), (2, tu_i 0)]) ⟨rfl, tu_ei (by first | rfl | (simp only [tu_sm]; first | (rw [if_pos (by omega)]; done) | (rw [if_neg (by omega)]; omega))), rfl, trivial⟩ rfl (lp4 (((M 9 1).toNat - 0) + 1) 0 (by first | assumption | omega) (by omega))
set_option maxRecDepth 20000 in
set_option maxHeartbeats 4000000 in
theorem c_X2_phraseParts {M : tu_M}  (hp : 0 ≤ M 9 1 ∧ M 9 1 ≤ 60) (hr : ∀ k : Nat, (k : Int) < M 9 1 → tu_rg (M 10 k)) : tu_MI tu_Y_X2_phraseParts [tu_r 9] M (fun z M' => M' = M ∧ z = tu_ti (M 10) 124 (M 9 1).toNat) := by
  refine tu_MI.of (ty := .int) (by decide) rfl (by first | exact Or.inl rfl | exact Or.inr rfl) (Nat.le_of_ble_eq_true rfl) (fun T (X : tu_X T cX2_phraseParts RX2 0 0) hnl hrt hret => ?_)
  have hret : tu_RI T cX2_phraseParts (fun z M' => M' = M ∧ z = tu_ti (M 10) 124 (M 9 1).toNat) := hret
  have hnl : T.2.2.2.2.2.2.2.2.2.2.1 = 3 := hnl
  show tu_W T 0 [(0, tu_r 9)] [] M
  refine tu_iconst 0 X dX2_phraseParts_0 ?_
  refine tu_istore_n 1 X (lv' := [(1, tu_i 0), (0, tu_r 9)]) dX2_phraseParts_1 (by rw [hnl]; decide) rfl ?_
  refine tu_iconst 2 X dX2_phraseParts_2 ?_
  refine tu_istore_n 3 X (lv' := [(2, tu_i 0), (1, tu_i 0), (0, tu_r 9)]) dX2_phraseParts_3 (by rw [hnl]; decide) rfl ?_
  have lp4 : ∀ (nq : Nat) (k : Nat), ((k : Int) ≤ M 9 1) → (M 9 1).toNat - k < nq → tu_W T 4 [(0, tu_r 9), (1, tu_i (tu_ti (M 10) 124 k)), (2, tu_i ((k : Nat) : Int))] [] M := by
    intro nq
    induction nq with
    | zero => intros; omega
    | succ nq ih4 =>
      intro k hk hn4
      refine tu_iload_n 4 X 2 dX2_phraseParts_4 rfl ?_
      refine tu_aload_n 5 X 0 dX2_phraseParts_5 rfl ?_
      refine tu_getI 6 X (x := M 9 1) dX2_phraseParts_6 fl_RX2_15 (by decide) rfl rfl rfl ?_
      refine tu_icmp_ge 9 X 32 dX2_phraseParts_9 (by decide) (show tu_rg ((k : Nat) : Int) from by first | assumption | exact ⟨by omega, by omega⟩) (show tu_rg (M 9 1) from by first | assumption | exact ⟨by omega, by omega⟩) (fun br9 => ?_) (fun br9 => ?_)
      ·
        refine tu_iload_n 32 X 1 dX2_phraseParts_32 rfl ?_
        refine hret 33 _ _ (tu_ti (M 10) 124 k) dX2_phraseParts_33 (fun h => by rw [hrt] at h; cases h) ?_
        exact ⟨rfl, by rw [show (M 9 1).toNat = k from by omega]⟩
      ·
        refine tu_aload_n 12 X 0 dX2_phraseParts_12 rfl ?_
        refine tu_getR 13 X dX2_phraseParts_13 fl_RX2_9 (by decide) rfl rfl ?_
        refine tu_iload_n 16 X 2 dX2_phraseParts_16 rfl ?_
        refine tu_cald 17 X (x := M 10 k) k dX2_phraseParts_17 (by decide) rfl (by decide) (by omega) (by omega) rfl ?_
        have e2 := hr k (by omega)
        refine tu_bipush 18 X dX2_phraseParts_18 (by decide) ?_
        refine tu_icmp_ne 20 X 26 dX2_phraseParts_20 (by decide) (show tu_rg (M 10 k) from by first | assumption | exact ⟨by omega, by omega⟩) ⟨by decide, by decide⟩ (fun br20 => ?_) (fun br20 => ?_)
        ·
          refine tu_iinc 26 X (lv' := [(2, tu_i (((k : Nat) : Int) + 1)), (0, tu_r 9), (1, tu_i (tu_ti (M 10) 124 k))]) 2 dX2_phraseParts_26 rfl (by rw [hnl]; decide) rfl ?_
          refine tu_goto 29 X 4 dX2_phraseParts_29 (by decide) ?_
          refine tu_jmp [1, 2, 0] (lv' := [(0, tu_r 9), (1, tu_i (tu_ti (M 10) 124 (k + 1))), (2, tu_i (((k + 1) : Nat) : Int))]) ⟨rfl, tu_ei (by first | rfl | (simp only [tu_ti]; split <;> omega)), tu_ei (by first | rfl | omega), trivial⟩ rfl (ih4 (k + 1) (by first | assumption | omega) (by omega))
        ·
          refine tu_iinc 23 X (lv' := [(1, tu_i (tu_ti (M 10) 124 k + 1)), (0, tu_r 9), (2, tu_i ((k : Nat) : Int))]) 1 dX2_phraseParts_23 rfl (by rw [hnl]; decide) rfl ?_
          refine tu_iinc 26 X (lv' := [(2, tu_i (((k : Nat) : Int) + 1)), (1, tu_i (tu_ti (M 10) 124 k + 1)), (0, tu_r 9)]) 2 dX2_phraseParts_26 rfl (by rw [hnl]; decide) rfl ?_
          refine tu_goto 29 X 4 dX2_phraseParts_29 (by decide) ?_
          refine tu_jmp [2, 1, 0] (lv' := [(0, tu_r 9), (1, tu_i (tu_ti (M 10) 124 (k + 1))), (2, tu_i (((k + 1) : Nat) : Int))]) ⟨rfl, tu_ei (by first | rfl | (simp only [tu_ti]; split <;> omega)), tu_ei (by first | rfl | omega), trivial⟩ rfl (ih4 (k + 1) (by first | assumption | omega) (by omega))
  refine tu_jmp [2, 1, 0] (lv' := [(0, tu_r 9), (1, tu_i (tu_ti (M 10) 124 0)), (2, tu_i 0)]) ⟨rfl, tu_ei (by first | rfl | (simp only [tu_ti]; split <;> omega)), rfl, trivial⟩ rfl (lp4 (((M 9 1).toNat - 0) + 1) 0 (by first | assumption | omega) (by omega))
set_option maxRecDepth 20000 in
set_option maxHeartbeats 4000000 in
theorem c_X2_faultPlace {M : tu_M}  (hp : 0 ≤ M 9 1 ∧ M 9 1 ≤ 60) (hr : ∀ k : Nat, (k : Int) < M 9 1 → tu_rg (M 10 k)) : tu_MI tu_Y_X2_faultPlace [tu_r 9] M (fun z M' => ∃ (w : Int), M' = M ∧ (tu_ft (M 10) (M 9 1).toNat w) ∧ z = w) := by
  refine tu_MI.of (ty := .int) (by decide) rfl (by first | exact Or.inl rfl | exact Or.inr rfl) (Nat.le_of_ble_eq_true rfl) (fun T (X : tu_X T cX2_faultPlace RX2 1 20) hnl hrt hret => ?_)
  have hret : tu_RI T cX2_faultPlace (fun z M' => ∃ (w : Int), M' = M ∧ (tu_ft (M 10) (M 9 1).toNat w) ∧ z = w) := hret
  have hnl : T.2.2.2.2.2.2.2.2.2.2.1 = 5 := hnl
  show tu_W T 0 [(0, tu_r 9)] [] M
  refine tu_iconst 0 X dX2_faultPlace_0 ?_
  refine tu_istore_n 1 X (lv' := [(1, tu_i 0), (0, tu_r 9)]) dX2_faultPlace_1 (by rw [hnl]; decide) rfl ?_
  refine tu_iconst 2 X dX2_faultPlace_2 ?_
  refine tu_istore_n 3 X (lv' := [(2, tu_i 0), (1, tu_i 0), (0, tu_r 9)]) dX2_faultPlace_3 (by rw [hnl]; decide) rfl ?_
  refine tu_iconst 4 X dX2_faultPlace_4 ?_
  refine tu_istore_n 5 X (lv' := [(3, tu_i 0), (2, tu_i 0), (1, tu_i 0), (0, tu_r 9)]) dX2_faultPlace_5 (by rw [hnl]; decide) rfl ?_
  have lp6 : ∀ (nq : Nat) (k : Nat) (y : Int), ((k : Int) ≤ M 9 1) → (((tu_ps (M 10) k).1 = 1 ∧ y = 2) ∨ ((tu_ps (M 10) k).1 = 0 ∧ (tu_ps (M 10) k).2 = 0 ∧ y = 0) ∨ ((tu_ps (M 10) k).1 = 0 ∧ 0 < (tu_ps (M 10) k).2 ∧ y = 1)) → (∀ j, j < k → tu_kd (tu_ps (M 10) j) (M 10 j) ≠ 0) → (M 9 1).toNat - k < nq → tu_W T 6 [(0, tu_r 9), (1, tu_i y), (2, tu_i ((tu_ps (M 10) k).2)), (3, tu_i ((k : Nat) : Int))] [] M := by
    intro nq
    induction nq with
    | zero => intros; omega
    | succ nq ih6 =>
      intro k y hk hy hg hn6
      have e1 := tu_ps_in (M 10) k
      refine tu_iload_n 6 X 3 dX2_faultPlace_6 rfl ?_
      refine tu_aload_n 7 X 0 dX2_faultPlace_7 rfl ?_
      refine tu_getI 8 X (x := M 9 1) dX2_faultPlace_8 fl_RX2_15 (by decide) rfl rfl rfl ?_
      refine tu_icmp_ge 11 X 116 dX2_faultPlace_11 (by decide) (show tu_rg ((k : Nat) : Int) from by first | assumption | exact ⟨by omega, by omega⟩) (show tu_rg (M 9 1) from by first | assumption | exact ⟨by omega, by omega⟩) (fun br11 => ?_) (fun br11 => ?_)
      ·
        refine tu_iload_n 116 X 2 dX2_faultPlace_116 rfl ?_
        refine tu_if_le 117 X 125 dX2_faultPlace_117 (by decide) (show tu_rg ((tu_ps (M 10) k).2) from by first | assumption | exact ⟨by omega, by omega⟩) (fun br117 => ?_) (fun br117 => ?_)
        ·
          refine tu_aload_n 125 X 0 dX2_faultPlace_125 rfl ?_
          refine tu_getI 126 X (x := M 9 1) dX2_faultPlace_126 fl_RX2_15 (by decide) rfl rfl rfl ?_
          refine hret 129 _ _ (M 9 1) dX2_faultPlace_129 (fun h => by rw [hrt] at h; cases h) ?_
          refine ⟨_, rfl, Or.inr ⟨by rw [show (M 9 1).toNat = k from by omega]; exact hg, ?_⟩, rfl⟩
          rw [show (M 9 1).toNat = k from by omega]
          first | (rw [if_pos (by omega)]; done) | (rw [if_neg (by omega)]; omega)
        ·
          refine tu_bipush 120 X dX2_faultPlace_120 (by decide) ?_
          refine tu_goto 122 X 129 dX2_faultPlace_122 (by decide) ?_
          refine hret 129 _ _ (-6) dX2_faultPlace_129 (fun h => by rw [hrt] at h; cases h) ?_
          refine ⟨_, rfl, Or.inr ⟨by rw [show (M 9 1).toNat = k from by omega]; exact hg, ?_⟩, rfl⟩
          rw [show (M 9 1).toNat = k from by omega]
          first | (rw [if_pos (by omega)]; done) | (rw [if_neg (by omega)]; omega)
      ·
        refine tu_aload_n 14 X 0 dX2_faultPlace_14 rfl ?_
        refine tu_getR 15 X dX2_faultPlace_15 fl_RX2_9 (by decide) rfl rfl ?_
        refine tu_iload_n 18 X 3 dX2_faultPlace_18 rfl ?_
        refine tu_cald 19 X (x := M 10 k) k dX2_faultPlace_19 (by decide) rfl (by decide) (by omega) (by omega) rfl ?_
        have e4 := hr k (by omega)
        refine tu_istore 20 X (lv' := [(4, tu_i (M 10 k)), (0, tu_r 9), (1, tu_i y), (2, tu_i ((tu_ps (M 10) k).2)), (3, tu_i ((k : Nat) : Int))]) dX2_faultPlace_20 (by rw [hnl]; decide) rfl ?_
        have lp108 : (¬ (0 < (tu_ps (M 10) k).2 ∧ M 10 k = 59)) → (¬ ((tu_ps (M 10) k).2 = 0 ∧ (tu_ps (M 10) k).1 = 0 ∧ M 10 k = 124)) → (¬ ((tu_ps (M 10) k).1 = 0 ∧ (tu_ps (M 10) k).2 < 16 ∧ (M 10 k = 120 ∨ M 10 k = 88))) → (¬ ((tu_ps (M 10) k).1 = 1 ∧ (tu_ps (M 10) k).2 < 24 ∧ (M 10 k = 115 ∨ M 10 k = 119 ∨ M 10 k = 46))) → tu_W T 108 [(0, tu_r 9), (1, tu_i y), (2, tu_i ((tu_ps (M 10) k).2)), (3, tu_i ((k : Nat) : Int)), (4, tu_i (M 10 k))] [] M := by
            intro  j40 j56 j83 j108
            refine tu_iload_n 108 X 3 dX2_faultPlace_108 rfl ?_
            refine hret 109 _ _ ((k : Nat) : Int) dX2_faultPlace_109 (fun h => by rw [hrt] at h; cases h) ?_
            exact ⟨_, rfl, Or.inl ⟨k, by omega, rfl, by unfold tu_kd; (repeat' split) <;> omega, hg⟩, rfl⟩
        have lp83 : (¬ (0 < (tu_ps (M 10) k).2 ∧ M 10 k = 59)) → (¬ ((tu_ps (M 10) k).2 = 0 ∧ (tu_ps (M 10) k).1 = 0 ∧ M 10 k = 124)) → (¬ ((tu_ps (M 10) k).1 = 0 ∧ (tu_ps (M 10) k).2 < 16 ∧ (M 10 k = 120 ∨ M 10 k = 88))) → tu_W T 83 [(0, tu_r 9), (1, tu_i y), (2, tu_i ((tu_ps (M 10) k).2)), (3, tu_i ((k : Nat) : Int)), (4, tu_i (M 10 k))] [] M := by
            intro  j40 j56 j83
            refine tu_iload 83 X 4 dX2_faultPlace_83 rfl ?_
            refine tu_callSI 85 X (st := []) (as := [tu_i (M 10 k)]) (c_X2_isBeat (M 10 k) (show tu_rg (M 10 k) from by first | assumption | omega | exact ⟨by omega, by omega⟩ | decide)) ss_RX2_33 dX2_faultPlace_85 rfl (Nat.le_of_ble_eq_true rfl) ⟨by decide, by decide⟩ (fun z M' h => ?_)
            obtain ⟨hM85, hz85⟩ := h
            refine tu_st_eq rfl (M' := M) hM85 ?_
            refine tu_tp (b := tu_b ((M 10 k) = 115 ∨ (M 10 k) = 119 ∨ (M 10 k) = 46)) hz85 ?_
            refine tu_if_eq 88 X 108 dX2_faultPlace_88 (by decide) tu_b_rg (fun br88 => ?_) (fun br88 => ?_)
            ·
              have br88 := tu_b_e0 br88
              refine tu_jmp [0, 1, 2, 3, 4] (lv' := [(0, tu_r 9), (1, tu_i y), (2, tu_i ((tu_ps (M 10) k).2)), (3, tu_i ((k : Nat) : Int)), (4, tu_i (M 10 k))]) ⟨rfl, rfl, rfl, rfl, rfl, trivial⟩ rfl (lp108 (by first | assumption | omega) (by first | assumption | omega) (by first | assumption | omega) (by first | assumption | omega))
            ·
              have br88 := tu_b_n0 br88
              refine tu_iload_n 91 X 1 dX2_faultPlace_91 rfl ?_
              refine tu_iconst 92 X dX2_faultPlace_92 ?_
              refine tu_icmp_ne 93 X 108 dX2_faultPlace_93 (by decide) (show tu_rg y from by first | assumption | exact ⟨by omega, by omega⟩) ⟨by decide, by decide⟩ (fun br93 => ?_) (fun br93 => ?_)
              ·
                refine tu_jmp [0, 1, 2, 3, 4] (lv' := [(0, tu_r 9), (1, tu_i y), (2, tu_i ((tu_ps (M 10) k).2)), (3, tu_i ((k : Nat) : Int)), (4, tu_i (M 10 k))]) ⟨rfl, rfl, rfl, rfl, rfl, trivial⟩ rfl (lp108 (by first | assumption | omega) (by first | assumption | omega) (by first | assumption | omega) (by first | assumption | omega))
              ·
                refine tu_iload_n 96 X 2 dX2_faultPlace_96 rfl ?_
                refine tu_bipush 97 X dX2_faultPlace_97 (by decide) ?_
                refine tu_icmp_ge 99 X 108 dX2_faultPlace_99 (by decide) (show tu_rg ((tu_ps (M 10) k).2) from by first | assumption | exact ⟨by omega, by omega⟩) ⟨by decide, by decide⟩ (fun br99 => ?_) (fun br99 => ?_)
                ·
                  refine tu_jmp [0, 1, 2, 3, 4] (lv' := [(0, tu_r 9), (1, tu_i y), (2, tu_i ((tu_ps (M 10) k).2)), (3, tu_i ((k : Nat) : Int)), (4, tu_i (M 10 k))]) ⟨rfl, rfl, rfl, rfl, rfl, trivial⟩ rfl (lp108 (by first | assumption | omega) (by first | assumption | omega) (by first | assumption | omega) (by first | assumption | omega))
                ·
                  refine tu_iinc 102 X (lv' := [(2, tu_i ((tu_ps (M 10) k).2 + 1)), (0, tu_r 9), (1, tu_i y), (3, tu_i ((k : Nat) : Int)), (4, tu_i (M 10 k))]) 2 dX2_faultPlace_102 rfl (by rw [hnl]; decide) rfl ?_
                  have e2 : tu_kd (tu_ps (M 10) k) (M 10 k) = 3 := by unfold tu_kd; (repeat' split) <;> omega
                  have e3 : tu_ps (M 10) (k + 1) = (1, (tu_ps (M 10) k).2 + 1) := by show tu_nx _ _ = _; simp [tu_nx, e2]; omega
                  have e5 : (tu_ps (M 10) (k + 1)).1 = 1 := by rw [e3]
                  have e6 : (tu_ps (M 10) (k + 1)).2 = (tu_ps (M 10) k).2 + 1 := by rw [e3]
                  refine tu_goto 105 X 110 dX2_faultPlace_105 (by decide) ?_
                  refine tu_iinc 110 X (lv' := [(3, tu_i (((k : Nat) : Int) + 1)), (2, tu_i ((tu_ps (M 10) k).2 + 1)), (0, tu_r 9), (1, tu_i y), (4, tu_i (M 10 k))]) 3 dX2_faultPlace_110 rfl (by rw [hnl]; decide) rfl ?_
                  refine tu_goto 113 X 6 dX2_faultPlace_113 (by decide) ?_
                  refine tu_jmp [2, 3, 1, 0] (lv' := [(0, tu_r 9), (1, tu_i y), (2, tu_i ((tu_ps (M 10) (k + 1)).2)), (3, tu_i (((k + 1) : Nat) : Int))]) ⟨rfl, rfl, tu_ei (by first | rfl | (omega)), tu_ei (by first | rfl | omega), trivial⟩ rfl (ih6 (k + 1) y (by first | assumption | omega) (by omega) (by intro j hj; rcases Nat.lt_or_ge j k with q | q; exact hg j q; rw [show j = k from by omega, e2]; decide) (by omega))
        have lp56 : (¬ (0 < (tu_ps (M 10) k).2 ∧ M 10 k = 59)) → (¬ ((tu_ps (M 10) k).2 = 0 ∧ (tu_ps (M 10) k).1 = 0 ∧ M 10 k = 124)) → tu_W T 56 [(0, tu_r 9), (1, tu_i y), (2, tu_i ((tu_ps (M 10) k).2)), (3, tu_i ((k : Nat) : Int)), (4, tu_i (M 10 k))] [] M := by
            intro  j40 j56
            refine tu_iload 56 X 4 dX2_faultPlace_56 rfl ?_
            refine tu_callSI 58 X (st := []) (as := [tu_i (M 10 k)]) (c_X2_isSyllable (M 10 k) (show tu_rg (M 10 k) from by first | assumption | omega | exact ⟨by omega, by omega⟩ | decide)) ss_RX2_29 dX2_faultPlace_58 rfl (Nat.le_of_ble_eq_true rfl) ⟨by decide, by decide⟩ (fun z M' h => ?_)
            obtain ⟨hM58, hz58⟩ := h
            refine tu_st_eq rfl (M' := M) hM58 ?_
            refine tu_tp (b := tu_b ((M 10 k) = 120 ∨ (M 10 k) = 88)) hz58 ?_
            refine tu_if_eq 61 X 83 dX2_faultPlace_61 (by decide) tu_b_rg (fun br61 => ?_) (fun br61 => ?_)
            ·
              have br61 := tu_b_e0 br61
              refine tu_jmp [0, 1, 2, 3, 4] (lv' := [(0, tu_r 9), (1, tu_i y), (2, tu_i ((tu_ps (M 10) k).2)), (3, tu_i ((k : Nat) : Int)), (4, tu_i (M 10 k))]) ⟨rfl, rfl, rfl, rfl, rfl, trivial⟩ rfl (lp83 (by first | assumption | omega) (by first | assumption | omega) (by first | assumption | omega))
            ·
              have br61 := tu_b_n0 br61
              refine tu_iload_n 64 X 1 dX2_faultPlace_64 rfl ?_
              refine tu_iconst 65 X dX2_faultPlace_65 ?_
              refine tu_icmp_eq 66 X 83 dX2_faultPlace_66 (by decide) (show tu_rg y from by first | assumption | exact ⟨by omega, by omega⟩) ⟨by decide, by decide⟩ (fun br66 => ?_) (fun br66 => ?_)
              ·
                refine tu_jmp [0, 1, 2, 3, 4] (lv' := [(0, tu_r 9), (1, tu_i y), (2, tu_i ((tu_ps (M 10) k).2)), (3, tu_i ((k : Nat) : Int)), (4, tu_i (M 10 k))]) ⟨rfl, rfl, rfl, rfl, rfl, trivial⟩ rfl (lp83 (by first | assumption | omega) (by first | assumption | omega) (by first | assumption | omega))
              ·
                refine tu_iload_n 69 X 2 dX2_faultPlace_69 rfl ?_
                refine tu_bipush 70 X dX2_faultPlace_70 (by decide) ?_
                refine tu_icmp_ge 72 X 83 dX2_faultPlace_72 (by decide) (show tu_rg ((tu_ps (M 10) k).2) from by first | assumption | exact ⟨by omega, by omega⟩) ⟨by decide, by decide⟩ (fun br72 => ?_) (fun br72 => ?_)
                ·
                  refine tu_jmp [0, 1, 2, 3, 4] (lv' := [(0, tu_r 9), (1, tu_i y), (2, tu_i ((tu_ps (M 10) k).2)), (3, tu_i ((k : Nat) : Int)), (4, tu_i (M 10 k))]) ⟨rfl, rfl, rfl, rfl, rfl, trivial⟩ rfl (lp83 (by first | assumption | omega) (by first | assumption | omega) (by first | assumption | omega))
                ·
                  refine tu_iconst 75 X dX2_faultPlace_75 ?_
                  refine tu_istore_n 76 X (lv' := [(1, tu_i 1), (0, tu_r 9), (2, tu_i ((tu_ps (M 10) k).2)), (3, tu_i ((k : Nat) : Int)), (4, tu_i (M 10 k))]) dX2_faultPlace_76 (by rw [hnl]; decide) rfl ?_
                  refine tu_iinc 77 X (lv' := [(2, tu_i ((tu_ps (M 10) k).2 + 1)), (1, tu_i 1), (0, tu_r 9), (3, tu_i ((k : Nat) : Int)), (4, tu_i (M 10 k))]) 2 dX2_faultPlace_77 rfl (by rw [hnl]; decide) rfl ?_
                  have e2 : tu_kd (tu_ps (M 10) k) (M 10 k) = 2 := by unfold tu_kd; (repeat' split) <;> omega
                  have e3 : tu_ps (M 10) (k + 1) = (0, (tu_ps (M 10) k).2 + 1) := by show tu_nx _ _ = _; simp [tu_nx, e2]; omega
                  have e5 : (tu_ps (M 10) (k + 1)).1 = 0 := by rw [e3]
                  have e6 : (tu_ps (M 10) (k + 1)).2 = (tu_ps (M 10) k).2 + 1 := by rw [e3]
                  refine tu_goto 80 X 110 dX2_faultPlace_80 (by decide) ?_
                  refine tu_iinc 110 X (lv' := [(3, tu_i (((k : Nat) : Int) + 1)), (2, tu_i ((tu_ps (M 10) k).2 + 1)), (1, tu_i 1), (0, tu_r 9), (4, tu_i (M 10 k))]) 3 dX2_faultPlace_110 rfl (by rw [hnl]; decide) rfl ?_
                  refine tu_goto 113 X 6 dX2_faultPlace_113 (by decide) ?_
                  refine tu_jmp [3, 2, 1, 0] (lv' := [(0, tu_r 9), (1, tu_i 1), (2, tu_i ((tu_ps (M 10) (k + 1)).2)), (3, tu_i (((k + 1) : Nat) : Int))]) ⟨rfl, rfl, tu_ei (by first | rfl | (omega)), tu_ei (by first | rfl | omega), trivial⟩ rfl (ih6 (k + 1) 1 (by first | assumption | omega) (by omega) (by intro j hj; rcases Nat.lt_or_ge j k with q | q; exact hg j q; rw [show j = k from by omega, e2]; decide) (by omega))
        have lp40 : (¬ (0 < (tu_ps (M 10) k).2 ∧ M 10 k = 59)) → tu_W T 40 [(0, tu_r 9), (1, tu_i y), (2, tu_i ((tu_ps (M 10) k).2)), (3, tu_i ((k : Nat) : Int)), (4, tu_i (M 10 k))] [] M := by
            intro  j40
            refine tu_iload 40 X 4 dX2_faultPlace_40 rfl ?_
            refine tu_bipush 42 X dX2_faultPlace_42 (by decide) ?_
            refine tu_icmp_ne 44 X 56 dX2_faultPlace_44 (by decide) (show tu_rg (M 10 k) from by first | assumption | exact ⟨by omega, by omega⟩) ⟨by decide, by decide⟩ (fun br44 => ?_) (fun br44 => ?_)
            ·
              refine tu_jmp [0, 1, 2, 3, 4] (lv' := [(0, tu_r 9), (1, tu_i y), (2, tu_i ((tu_ps (M 10) k).2)), (3, tu_i ((k : Nat) : Int)), (4, tu_i (M 10 k))]) ⟨rfl, rfl, rfl, rfl, rfl, trivial⟩ rfl (lp56 (by first | assumption | omega) (by first | assumption | omega))
            ·
              refine tu_iload_n 47 X 1 dX2_faultPlace_47 rfl ?_
              refine tu_if_ne 48 X 56 dX2_faultPlace_48 (by decide) (show tu_rg y from by first | assumption | exact ⟨by omega, by omega⟩) (fun br48 => ?_) (fun br48 => ?_)
              ·
                refine tu_jmp [0, 1, 2, 3, 4] (lv' := [(0, tu_r 9), (1, tu_i y), (2, tu_i ((tu_ps (M 10) k).2)), (3, tu_i ((k : Nat) : Int)), (4, tu_i (M 10 k))]) ⟨rfl, rfl, rfl, rfl, rfl, trivial⟩ rfl (lp56 (by first | assumption | omega) (by first | assumption | omega))
              ·
                refine tu_iconst 51 X dX2_faultPlace_51 ?_
                refine tu_istore_n 52 X (lv' := [(1, tu_i 2), (0, tu_r 9), (2, tu_i ((tu_ps (M 10) k).2)), (3, tu_i ((k : Nat) : Int)), (4, tu_i (M 10 k))]) dX2_faultPlace_52 (by rw [hnl]; decide) rfl ?_
                have e2 : tu_kd (tu_ps (M 10) k) (M 10 k) = 1 := by unfold tu_kd; (repeat' split) <;> omega
                have e3 : tu_ps (M 10) (k + 1) = (1, 0) := by show tu_nx _ _ = _; simp [tu_nx, e2]
                have e5 : (tu_ps (M 10) (k + 1)).1 = 1 := by rw [e3]
                have e6 : (tu_ps (M 10) (k + 1)).2 = 0 := by rw [e3]
                refine tu_goto 53 X 110 dX2_faultPlace_53 (by decide) ?_
                refine tu_iinc 110 X (lv' := [(3, tu_i (((k : Nat) : Int) + 1)), (1, tu_i 2), (0, tu_r 9), (2, tu_i ((tu_ps (M 10) k).2)), (4, tu_i (M 10 k))]) 3 dX2_faultPlace_110 rfl (by rw [hnl]; decide) rfl ?_
                refine tu_goto 113 X 6 dX2_faultPlace_113 (by decide) ?_
                refine tu_jmp [2, 1, 3, 0] (lv' := [(0, tu_r 9), (1, tu_i 2), (2, tu_i ((tu_ps (M 10) (k + 1)).2)), (3, tu_i (((k + 1) : Nat) : Int))]) ⟨rfl, rfl, tu_ei (by first | rfl | (omega)), tu_ei (by first | rfl | omega), trivial⟩ rfl (ih6 (k + 1) 2 (by first | assumption | omega) (by omega) (by intro j hj; rcases Nat.lt_or_ge j k with q | q; exact hg j q; rw [show j = k from by omega, e2]; decide) (by omega))
        refine tu_iload 22 X 0 dX2_faultPlace_22 rfl ?_
        refine tu_bipush 24 X dX2_faultPlace_24 (by decide) ?_
        refine tu_icmp_ne 26 X 40 dX2_faultPlace_26 (by decide) (show tu_rg (M 10 k) from by first | assumption | exact ⟨by omega, by omega⟩) ⟨by decide, by decide⟩ (fun br26 => ?_) (fun br26 => ?_)
        ·
          refine tu_jmp [1, 2, 3, 4, 0] (lv' := [(0, tu_r 9), (1, tu_i y), (2, tu_i ((tu_ps (M 10) k).2)), (3, tu_i ((k : Nat) : Int)), (4, tu_i (M 10 k))]) ⟨rfl, rfl, rfl, rfl, rfl, trivial⟩ rfl (lp40 (by first | assumption | omega))
        ·
          refine tu_iload_n 29 X 3 dX2_faultPlace_29 rfl ?_
          refine tu_if_le 30 X 40 dX2_faultPlace_30 (by decide) (show tu_rg ((tu_ps (M 10) k).2) from by first | assumption | exact ⟨by omega, by omega⟩) (fun br30 => ?_) (fun br30 => ?_)
          ·
            refine tu_jmp [1, 2, 3, 4, 0] (lv' := [(0, tu_r 9), (1, tu_i y), (2, tu_i ((tu_ps (M 10) k).2)), (3, tu_i ((k : Nat) : Int)), (4, tu_i (M 10 k))]) ⟨rfl, rfl, rfl, rfl, rfl, trivial⟩ rfl (lp40 (by first | assumption | omega))
          ·
            refine tu_iconst 33 X dX2_faultPlace_33 ?_
            refine tu_istore_n 34 X (lv' := [(1, tu_i 0), (4, tu_i (M 10 k)), (0, tu_r 9), (2, tu_i ((tu_ps (M 10) k).2)), (3, tu_i ((k : Nat) : Int))]) dX2_faultPlace_34 (by rw [hnl]; decide) rfl ?_
            refine tu_iconst 35 X dX2_faultPlace_35 ?_
            refine tu_istore_n 36 X (lv' := [(2, tu_i 0), (1, tu_i 0), (4, tu_i (M 10 k)), (0, tu_r 9), (3, tu_i ((k : Nat) : Int))]) dX2_faultPlace_36 (by rw [hnl]; decide) rfl ?_
            have e2 : tu_kd (tu_ps (M 10) k) (M 10 k) = 4 := by unfold tu_kd; (repeat' split) <;> omega
            have e3 : tu_ps (M 10) (k + 1) = (0, 0) := by show tu_nx _ _ = _; simp [tu_nx, e2]
            have e5 : (tu_ps (M 10) (k + 1)).1 = 0 := by rw [e3]
            have e6 : (tu_ps (M 10) (k + 1)).2 = 0 := by rw [e3]
            refine tu_goto 37 X 110 dX2_faultPlace_37 (by decide) ?_
            refine tu_iinc 110 X (lv' := [(3, tu_i (((k : Nat) : Int) + 1)), (2, tu_i 0), (1, tu_i 0), (4, tu_i (M 10 k)), (0, tu_r 9)]) 4 dX2_faultPlace_110 rfl (by rw [hnl]; decide) rfl ?_
            refine tu_goto 113 X 6 dX2_faultPlace_113 (by decide) ?_
            refine tu_jmp [4, 2, 1, 0] (lv' := [(0, tu_r 9), (1, tu_i 0), (2, tu_i ((tu_ps (M 10) (k + 1)).2)), (3, tu_i (((k + 1) : Nat) : Int))]) ⟨rfl, rfl, tu_ei (by first | rfl | (omega)), tu_ei (by first | rfl | omega), trivial⟩ rfl (ih6 (k + 1) 0 (by first | assumption | omega) (by omega) (by intro j hj; rcases Nat.lt_or_ge j k with q | q; exact hg j q; rw [show j = k from by omega, e2]; decide) (by omega))
  refine tu_jmp [3, 2, 1, 0] (lv' := [(0, tu_r 9), (1, tu_i 0), (2, tu_i ((tu_ps (M 10) 0).2)), (3, tu_i 0)]) ⟨rfl, rfl, tu_ei (by first | rfl | (omega)), rfl, trivial⟩ rfl (lp6 (((M 9 1).toNat - 0) + 1) 0 0 (by first | assumption | omega) (by exact Or.inr (Or.inl ⟨rfl, rfl, rfl⟩)) (by intro j hj; omega) (by omega))
