set_option maxRecDepth 20000 in
set_option maxHeartbeats 4000000 in
theorem c_X3_record {M : tu_M}  (hH : tu_HS M) : tu_MV tu_Y_X3_record [tu_r 0] M (fun M' => (tu_rec M M')) := by
  obtain ⟨hp, hc0, -, -⟩ := hH
  refine tu_MV.of (by decide) rfl (Nat.le_of_ble_eq_true rfl) (fun T (X : tu_X T cX3_record RX3 2 61) hnl hret => ?_)
  have hret : tu_RV T cX3_record (fun M' => (tu_rec M M')) := hret
  have hnl : T.2.2.2.2.2.2.2.2.2.2.1 = 3 := hnl
  show tu_W T 0 [(0, tu_r 0)] [] M
  refine tu_st_eq rfl (M' := tu_row M 0 (M 0)) ((tu_rx M 0).symm) ?_
  refine tu_st_eq rfl (M' := tu_row (tu_row M 0 (M 0)) 19 (M 19)) ((congrArg (fun m => tu_row m 0 (M 0)) ((tu_rx M 19).symm)).trans (tu_rc M (M 19) (M 0) rfl)) ?_
  have lp61 : ∀ (r0 : Nat → Int) (g : Nat → Int) (c : Nat) (sh : Nat), (c ≤ 5) → (r0 4 = (c : Int)) → (∀ j, j ≠ 4 → r0 j = M 0 j) → (tu_ip g) → (∀ i, i < c → g i = M 19 (i + sh)) → ((M 0 4 = 6 ∧ c = 5 ∧ sh = 1) ∨ (M 0 4 = (c : Int) ∧ sh = 0)) → tu_W T 61 [(0, tu_r 0)] [] (tu_row (tu_row M 0 r0) 19 g) := by
      intro r0 g c sh hc h2 h3 hg h5 h6
      refine tu_aload_n 61 X 0 dX3_record_61 rfl ?_
      refine tu_getR 62 X dX3_record_62 fl_RX3_30 (by decide) rfl rfl ?_
      refine tu_aload_n 65 X 0 dX3_record_65 rfl ?_
      refine tu_getI 66 X (x := r0 4) dX3_record_66 fl_RX3_34 (by decide) rfl rfl rfl ?_
      refine tu_tp (b := ((c : Nat) : Int)) (by exact h2) ?_
      obtain ⟨k69, hk69, hB69⟩ := hg.at (show c < 6 by omega)
      obtain ⟨p69, hp69⟩ : ∃ p : Nat, p = 22 + 8 * k69 := ⟨_, rfl⟩
      rw [← hp69] at hB69
      have hb69 : tu_B p69 := Or.inr ⟨k69, by omega, hp69⟩
      refine tu_aald 69 X (r := p69) c dX3_record_69 (by decide) rfl (by decide) (by omega) (by omega) (show (g c).toNat = p69 from by omega) ?_
      refine tu_aload_n 70 X 0 dX3_record_70 rfl ?_
      refine tu_getR 71 X dX3_record_71 fl_RX3_10 (by decide) rfl rfl ?_
      refine tu_callVV 74 X (st := []) (as := [tu_r 1]) (c_X0_takeOver p69 1 (show (p69 = 1 ∧ ∃ k, k < 8 ∧ 1 = 22 + 8 * k) ∨ (1 = 1 ∧ ∃ k, k < 8 ∧ p69 = 22 + 8 * k) from by exact Or.inr ⟨rfl, k69, by omega, hp69⟩)) sv_RX3_210 dX3_record_74 rfl (tu_B_lt (f := 0) hb69 (by decide)) (tu_sh_bk (f := 0) hb69 (by decide)) rfl rfl (by decide) ⟨by decide, by decide⟩ (fun M' h => ?_)
      have hM74 := h
      obtain ⟨N74, hN74⟩ : ∃ m : tu_M, m = tu_tk (tu_row (tu_row M 0 r0) 19 g) p69 1 := ⟨_, rfl⟩
      refine tu_st_eq rfl (M' := N74) (hM74.trans hN74.symm) ?_
      refine tu_aload_n 77 X 0 dX3_record_77 rfl ?_
      refine tu_dup 78 X dX3_record_78 rfl ?_
      refine tu_getI 79 X (x := N74 0 4) dX3_record_79 fl_RX3_34 (by decide) rfl rfl rfl ?_
      refine tu_tp (b := ((c : Nat) : Int)) (by rw [hN74, tu_tk_out (by omega)]; exact h2) ?_
      refine tu_iconst 82 X dX3_record_82 ?_
      refine tu_iadd 83 X dX3_record_83 ?_
      refine tu_putI 84 X (M' := tu_row N74 0 (tu_u (N74 0) 4 (((c : Nat) : Int) + 1))) dX3_record_84 fp_RX3_34 (by decide) rfl rfl rfl ?_
      refine hret 87 _ _ dX3_record_87 ?_
      exact tu_rec.of hc h2 h3 hg h5 h6 hB69 (by rw [hN74])
  refine tu_aload_n 0 X 0 dX3_record_0 rfl ?_
  refine tu_getI 1 X (x := (M 0) 4) dX3_record_1 fl_RX3_34 (by decide) rfl rfl rfl ?_
  refine tu_bipush 4 X dX3_record_4 (by decide) ?_
  refine tu_icmp_ne 6 X 61 dX3_record_6 (by decide) (show tu_rg ((M 0) 4) from by first | assumption | exact ⟨by omega, by omega⟩) ⟨by decide, by decide⟩ (fun br6 => ?_) (fun br6 => ?_)
  ·
    refine tu_jmp [0] (lv' := [(0, tu_r 0)]) ⟨rfl, trivial⟩ rfl (lp61 (M 0) (M 19) ((M 0 4).toNat) 0 (by omega) (by first | (rw [tu_u_s]; omega) | omega) (by first | (intro j hj; rfl) | (intro j hj; exact tu_u_n _ _ hj)) (by first | exact hp | exact hp.rot (fun j hj => by rw [tu_u_n _ _ (by omega), hg, if_pos (by omega)]) (by rw [tu_u_s, hB13])) (by first | (intro i hi; rfl) | (intro i hi; rw [tu_u_n _ _ (by omega), hg, if_pos (by omega)])) (by omega))
  ·
    refine tu_aload_n 9 X 0 dX3_record_9 rfl ?_
    refine tu_getR 10 X dX3_record_10 fl_RX3_30 (by decide) rfl rfl ?_
    refine tu_iconst 13 X dX3_record_13 ?_
    obtain ⟨k13, hk13, hB13⟩ := hp.at (show 0 < 6 by decide)
    obtain ⟨p13, hp13⟩ : ∃ p : Nat, p = 22 + 8 * k13 := ⟨_, rfl⟩
    rw [← hp13] at hB13
    have hb13 : tu_B p13 := Or.inr ⟨k13, by omega, hp13⟩
    refine tu_aald 14 X (r := p13) 0 dX3_record_14 (by decide) rfl (by decide) rfl (by decide) (show ((M 19) 0).toNat = p13 from by omega) ?_
    refine tu_astore_n 15 X (lv' := [(1, tu_r p13), (0, tu_r 0)]) dX3_record_15 (by rw [hnl]; decide) rfl ?_
    refine tu_iconst 16 X dX3_record_16 ?_
    refine tu_istore_n 17 X (lv' := [(2, tu_i 1), (1, tu_r p13), (0, tu_r 0)]) dX3_record_17 (by rw [hnl]; decide) rfl ?_
    have lp18 : ∀ (n : Nat) (k : Nat) (g : Nat → Int), (1 ≤ k ∧ k ≤ 6) → (∀ j, g j = if j + 1 < k then M 19 (j + 1) else M 19 j) → 6 - k < n → tu_W T 18 [(0, tu_r 0), (1, tu_r p13), (2, tu_i ((k : Nat) : Int))] [] (tu_row (tu_row M 0 (M 0)) 19 g) := by
      intro n
      induction n with
      | zero => intros; omega
      | succ n ih18 =>
        intro k g hk hg hn18
        refine tu_iload_n 18 X 2 dX3_record_18 rfl ?_
        refine tu_bipush 19 X dX3_record_19 (by decide) ?_
        refine tu_icmp_ge 21 X 44 dX3_record_21 (by decide) (show tu_rg ((k : Nat) : Int) from by first | assumption | exact ⟨by omega, by omega⟩) ⟨by decide, by decide⟩ (fun br21 => ?_) (fun br21 => ?_)
        ·
          refine tu_aload_n 44 X 0 dX3_record_44 rfl ?_
          refine tu_getR 45 X dX3_record_45 fl_RX3_30 (by decide) rfl rfl ?_
          refine tu_iconst 48 X dX3_record_48 ?_
          refine tu_aload_n 49 X 1 dX3_record_49 rfl ?_
          refine tu_aast 50 X (M' := tu_row (tu_row M 0 (M 0)) 19 (tu_u g 5 ((p13 : Nat) : Int))) 5 dX3_record_50 (by decide) rfl (by decide) rfl (by decide) (tu_B_lt (f := 0) hb13 (by decide)) (tu_sh_bk (f := 0) hb13 (by decide)) (tu_rr (tu_row M 0 (M 0)) 19 g (tu_u g 5 ((p13 : Nat) : Int))) ?_
          refine tu_aload_n 51 X 0 dX3_record_51 rfl ?_
          refine tu_dup 52 X dX3_record_52 rfl ?_
          refine tu_getI 53 X (x := (M 0) 4) dX3_record_53 fl_RX3_34 (by decide) rfl rfl rfl ?_
          refine tu_tp (b := (M 0 4)) (by rfl) ?_
          refine tu_iconst 56 X dX3_record_56 ?_
          refine tu_isub 57 X dX3_record_57 ?_
          refine tu_putI 58 X (M' := tu_row (tu_row M 0 (tu_u (M 0) 4 ((M 0 4) - 1))) 19 (tu_u g 5 ((p13 : Nat) : Int))) dX3_record_58 fp_RX3_34 (by decide) rfl rfl ((tu_rc (tu_row M 0 (M 0)) (tu_u g 5 ((p13 : Nat) : Int)) (tu_u (M 0) 4 ((M 0 4) - 1)) rfl).trans (congrArg (fun m => tu_row m 19 (tu_u g 5 ((p13 : Nat) : Int))) (tu_rr M 0 (M 0) (tu_u (M 0) 4 ((M 0 4) - 1))))) ?_
          refine tu_jmp [0] (lv' := [(0, tu_r 0)]) ⟨rfl, trivial⟩ rfl (lp61 (tu_u (M 0) 4 ((M 0 4) - 1)) (tu_u g 5 ((p13 : Nat) : Int)) 5 1 (by omega) (by first | (rw [tu_u_s]; omega) | omega) (by first | (intro j hj; rfl) | (intro j hj; exact tu_u_n _ _ hj)) (by first | exact hp | exact hp.rot (fun j hj => by rw [tu_u_n _ _ (by omega), hg, if_pos (by omega)]) (by rw [tu_u_s, hB13])) (by first | (intro i hi; rfl) | (intro i hi; rw [tu_u_n _ _ (by omega), hg, if_pos (by omega)])) (by omega))
        ·
          refine tu_aload_n 24 X 0 dX3_record_24 rfl ?_
          refine tu_getR 25 X dX3_record_25 fl_RX3_30 (by decide) rfl rfl ?_
          refine tu_iload_n 28 X 2 dX3_record_28 rfl ?_
          refine tu_iconst 29 X dX3_record_29 ?_
          refine tu_isub 30 X dX3_record_30 ?_
          refine tu_tp (b := (((k - 1 : Nat)) : Int)) (by omega) ?_
          refine tu_aload_n 31 X 0 dX3_record_31 rfl ?_
          refine tu_getR 32 X dX3_record_32 fl_RX3_30 (by decide) rfl rfl ?_
          refine tu_iload_n 35 X 2 dX3_record_35 rfl ?_
          obtain ⟨k35, hk35, hB35⟩ := hp.at (show k < 6 by omega)
          obtain ⟨p35, hp35⟩ : ∃ p : Nat, p = 22 + 8 * k35 := ⟨_, rfl⟩
          rw [← hp35] at hB35
          have hb35 : tu_B p35 := Or.inr ⟨k35, by omega, hp35⟩
          refine tu_aald 36 X (r := p35) k dX3_record_36 (by decide) rfl (by decide) (by omega) (by omega) (show (g k).toNat = p35 from by rw [hg, if_neg (by omega)]; omega) ?_
          refine tu_aast 37 X (M' := tu_row (tu_row M 0 (M 0)) 19 (tu_u g (k - 1) ((p35 : Nat) : Int))) (k - 1) dX3_record_37 (by decide) rfl (by decide) (by omega) (by omega) (tu_B_lt (f := 0) hb35 (by decide)) (tu_sh_bk (f := 0) hb35 (by decide)) (tu_rr (tu_row M 0 (M 0)) 19 g (tu_u g (k - 1) ((p35 : Nat) : Int))) ?_
          refine tu_iinc 38 X (lv' := [(2, tu_i (((k : Nat) : Int) + 1)), (0, tu_r 0), (1, tu_r p13)]) 2 dX3_record_38 rfl (by rw [hnl]; decide) rfl ?_
          refine tu_goto 41 X 18 dX3_record_41 (by decide) ?_
          refine tu_jmp [1, 2, 0] (lv' := [(0, tu_r 0), (1, tu_r p13), (2, tu_i (((k + 1) : Nat) : Int))]) ⟨rfl, rfl, tu_ei (by first | rfl | omega), trivial⟩ rfl (ih18 (k + 1) (tu_u g (k - 1) ((p35 : Nat) : Int)) (by omega) (by intro j; rw [tu_u_if, hg j]; by_cases q : j = k - 1 <;> (first | (rw [if_pos q, if_pos (by omega), ← hB35, show k = j + 1 from by omega]) | (rw [if_neg q]; by_cases q2 : j + 1 < k <;> (first | (rw [if_pos q2, if_pos (by omega)]) | (rw [if_neg q2, if_neg (by omega)]))))) (by omega))
    refine tu_jmp [2, 1, 0] (lv' := [(0, tu_r 0), (1, tu_r p13), (2, tu_i 1)]) ⟨rfl, rfl, rfl, trivial⟩ rfl (lp18 ((6 - 1) + 1) 1 (M 19) (by omega) (by intro j; rw [if_neg (by omega)]) (by omega))
set_option maxRecDepth 20000 in
set_option maxHeartbeats 4000000 in
theorem c_X3_undo {M : tu_M}  (hH : tu_HS M) : tu_MI tu_Y_X3_undo [tu_r 0] M (fun z M' => ∃ (w : Int), ((M 0 4 < 1 → M' = M ∧ w = -5) ∧ (1 ≤ M 0 4 → w = M 0 4 - 1 ∧ ∃ p : Nat, M 19 (M 0 4 - 1).toNat = (p : Int) ∧ tu_B p ∧ M' = tu_tk (tu_row M 0 (tu_u (M 0) 4 (M 0 4 - 1))) 1 p)) ∧ z = w) := by
  obtain ⟨hp, hc0, -, -⟩ := hH
  refine tu_MI.of (ty := .int) (by decide) rfl (by first | exact Or.inl rfl | exact Or.inr rfl) (Nat.le_of_ble_eq_true rfl) (fun T (X : tu_X T cX3_undo RX3 2 61) hnl hrt hret => ?_)
  have hret : tu_RI T cX3_undo (fun z M' => ∃ (w : Int), ((M 0 4 < 1 → M' = M ∧ w = -5) ∧ (1 ≤ M 0 4 → w = M 0 4 - 1 ∧ ∃ p : Nat, M 19 (M 0 4 - 1).toNat = (p : Int) ∧ tu_B p ∧ M' = tu_tk (tu_row M 0 (tu_u (M 0) 4 (M 0 4 - 1))) 1 p)) ∧ z = w) := hret
  have hnl : T.2.2.2.2.2.2.2.2.2.2.1 = 1 := hnl
  show tu_W T 0 [(0, tu_r 0)] [] M
  refine tu_aload_n 0 X 0 dX3_undo_0 rfl ?_
  refine tu_getI 1 X (x := M 0 4) dX3_undo_1 fl_RX3_34 (by decide) rfl rfl rfl ?_
  refine tu_iconst 4 X dX3_undo_4 ?_
  refine tu_icmp_ge 5 X 11 dX3_undo_5 (by decide) (show tu_rg (M 0 4) from by first | assumption | exact ⟨by omega, by omega⟩) ⟨by decide, by decide⟩ (fun br5 => ?_) (fun br5 => ?_)
  ·
    refine tu_aload_n 11 X 0 dX3_undo_11 rfl ?_
    refine tu_dup 12 X dX3_undo_12 rfl ?_
    refine tu_getI 13 X (x := M 0 4) dX3_undo_13 fl_RX3_34 (by decide) rfl rfl rfl ?_
    refine tu_iconst 16 X dX3_undo_16 ?_
    refine tu_isub 17 X dX3_undo_17 ?_
    refine tu_putI 18 X (M' := tu_row M 0 (tu_u (M 0) 4 ((M 0 4) - 1))) dX3_undo_18 fp_RX3_34 (by decide) rfl rfl rfl ?_
    refine tu_aload_n 21 X 0 dX3_undo_21 rfl ?_
    refine tu_getR 22 X dX3_undo_22 fl_RX3_10 (by decide) rfl rfl ?_
    refine tu_aload_n 25 X 0 dX3_undo_25 rfl ?_
    refine tu_getR 26 X dX3_undo_26 fl_RX3_30 (by decide) rfl rfl ?_
    refine tu_aload_n 29 X 0 dX3_undo_29 rfl ?_
    refine tu_getI 30 X (x := (tu_u (M 0) 4 ((M 0 4) - 1)) 4) dX3_undo_30 fl_RX3_34 (by decide) rfl rfl rfl ?_
    refine tu_tp (b := (((M 0 4 - 1).toNat : Nat) : Int)) (by rw [tu_u_s]; omega) ?_
    obtain ⟨k33, hk33, hB33⟩ := hp.at (show (M 0 4 - 1).toNat < 6 by omega)
    obtain ⟨p33, hp33⟩ : ∃ p : Nat, p = 22 + 8 * k33 := ⟨_, rfl⟩
    rw [← hp33] at hB33
    have hb33 : tu_B p33 := Or.inr ⟨k33, by omega, hp33⟩
    refine tu_aald 33 X (r := p33) ((M 0 4 - 1).toNat) dX3_undo_33 (by decide) rfl (by decide) (by omega) (by omega) (show (M 19 ((M 0 4 - 1).toNat)).toNat = p33 from by omega) ?_
    refine tu_callVV 34 X (st := []) (as := [tu_r p33]) (c_X0_takeOver 1 p33 (show (1 = 1 ∧ ∃ k, k < 8 ∧ p33 = 22 + 8 * k) ∨ (p33 = 1 ∧ ∃ k, k < 8 ∧ 1 = 22 + 8 * k) from by exact Or.inl ⟨rfl, k33, by omega, hp33⟩)) sv_RX3_210 dX3_undo_34 rfl (by decide) rfl rfl rfl (by decide) ⟨by decide, by decide⟩ (fun M' h => ?_)
    have hM34 := h
    obtain ⟨N34, hN34⟩ : ∃ m : tu_M, m = tu_tk (tu_row M 0 (tu_u (M 0) 4 ((M 0 4) - 1))) 1 p33 := ⟨_, rfl⟩
    refine tu_st_eq rfl (M' := N34) (hM34.trans hN34.symm) ?_
    refine tu_aload_n 37 X 0 dX3_undo_37 rfl ?_
    refine tu_getI 38 X (x := N34 0 4) dX3_undo_38 fl_RX3_34 (by decide) rfl rfl rfl ?_
    refine tu_tp (b := (M 0 4 - 1)) (by rw [hN34, tu_tk_out (Or.inl (by decide)), tu_row_s, tu_u_s]) ?_
    refine hret 41 _ _ (M 0 4 - 1) dX3_undo_41 (fun h => by rw [hrt] at h; cases h) ?_
    exact ⟨_, ⟨fun h => absurd h (by omega), fun _ => ⟨rfl, p33, hB33, hb33, hN34⟩⟩, rfl⟩
  ·
    refine tu_bipush 8 X dX3_undo_8 (by decide) ?_
    refine hret 10 _ _ (-5) dX3_undo_10 (fun h => by rw [hrt] at h; cases h) ?_
    exact ⟨_, ⟨fun _ => ⟨rfl, rfl⟩, fun h => absurd h (by omega)⟩, rfl⟩
set_option maxRecDepth 20000 in
set_option maxHeartbeats 4000000 in
theorem c_X3_save {M : tu_M} (w : Int) (hH : tu_HS M) (hw : tu_rg w) : tu_MI tu_Y_X3_save [tu_r 0, tu_i w] M (fun z M' => ∃ (y : Int), (((w < 0 ∨ 1 < w) → M' = M ∧ y = -2) ∧ ((0 ≤ w ∧ w ≤ 1) → y = M 1 1 ∧ M' = tu_row (tu_tk M (70 + 8 * w.toNat) 1) 21 (tu_u (M 21) w.toNat 1))) ∧ z = y) := by
  obtain ⟨hp, hc0, hs, hz⟩ := hH
  refine tu_MI.of (ty := .int) (by decide) rfl (by first | exact Or.inl rfl | exact Or.inr rfl) (Nat.le_of_ble_eq_true rfl) (fun T (X : tu_X T cX3_save RX3 2 61) hnl hrt hret => ?_)
  have hret : tu_RI T cX3_save (fun z M' => ∃ (y : Int), (((w < 0 ∨ 1 < w) → M' = M ∧ y = -2) ∧ ((0 ≤ w ∧ w ≤ 1) → y = M 1 1 ∧ M' = tu_row (tu_tk M (70 + 8 * w.toNat) 1) 21 (tu_u (M 21) w.toNat 1))) ∧ z = y) := hret
  have hnl : T.2.2.2.2.2.2.2.2.2.2.1 = 2 := hnl
  show tu_W T 0 [(0, tu_r 0), (1, tu_i w)] [] M
  refine tu_iload_n 0 X 1 dX3_save_0 rfl ?_
  refine tu_if_lt 1 X 9 dX3_save_1 (by decide) (show tu_rg w from by first | assumption | exact ⟨by omega, by omega⟩) (fun br1 => ?_) (fun br1 => ?_)
  ·
    refine tu_bipush 9 X dX3_save_9 (by decide) ?_
    refine hret 11 _ _ (-2) dX3_save_11 (fun h => by rw [hrt] at h; cases h) ?_
    exact ⟨_, ⟨fun _ => ⟨rfl, rfl⟩, fun h => absurd h (by omega)⟩, rfl⟩
  ·
    refine tu_iload_n 4 X 1 dX3_save_4 rfl ?_
    refine tu_iconst 5 X dX3_save_5 ?_
    refine tu_icmp_lt 6 X 12 dX3_save_6 (by decide) (show tu_rg w from by first | assumption | exact ⟨by omega, by omega⟩) ⟨by decide, by decide⟩ (fun br6 => ?_) (fun br6 => ?_)
    ·
      refine tu_aload_n 12 X 0 dX3_save_12 rfl ?_
      refine tu_getR 13 X dX3_save_13 fl_RX3_38 (by decide) rfl rfl ?_
      refine tu_iload_n 16 X 1 dX3_save_16 rfl ?_
      obtain ⟨p17, hp17⟩ : ∃ p : Nat, p = 70 + 8 * w.toNat := ⟨_, rfl⟩
      have hB17 : M 20 w.toNat = (p17 : Int) := by rcases (show w.toNat = 0 ∨ w.toNat = 1 by omega) with q | q <;> rw [q] at hp17 ⊢ <;> omega
      have hb17 : tu_B p17 := Or.inr ⟨6 + w.toNat, by omega, by omega⟩
      refine tu_aald 17 X (r := p17) w.toNat dX3_save_17 (by decide) rfl (by decide) (by omega) (by omega) (show (M 20 w.toNat).toNat = p17 from by omega) ?_
      refine tu_aload_n 18 X 0 dX3_save_18 rfl ?_
      refine tu_getR 19 X dX3_save_19 fl_RX3_10 (by decide) rfl rfl ?_
      refine tu_callVV 22 X (st := []) (as := [tu_r 1]) (c_X0_takeOver p17 1 (show (p17 = 1 ∧ ∃ k, k < 8 ∧ 1 = 22 + 8 * k) ∨ (1 = 1 ∧ ∃ k, k < 8 ∧ p17 = 22 + 8 * k) from by exact Or.inr ⟨rfl, 6 + w.toNat, by omega, by omega⟩)) sv_RX3_210 dX3_save_22 rfl (tu_B_lt (f := 0) hb17 (by decide)) (tu_sh_bk (f := 0) hb17 (by decide)) rfl rfl (by decide) ⟨by decide, by decide⟩ (fun M' h => ?_)
      have hM22 := h
      obtain ⟨N22, hN22⟩ : ∃ m : tu_M, m = tu_tk M p17 1 := ⟨_, rfl⟩
      refine tu_st_eq rfl (M' := N22) (hM22.trans hN22.symm) ?_
      refine tu_aload_n 25 X 0 dX3_save_25 rfl ?_
      refine tu_getR 26 X dX3_save_26 fl_RX3_41 (by decide) rfl rfl ?_
      refine tu_iload_n 29 X 1 dX3_save_29 rfl ?_
      refine tu_iconst 30 X dX3_save_30 ?_
      refine tu_zast 31 X (M' := tu_row N22 21 (tu_u (M 21) w.toNat 1)) w.toNat dX3_save_31 (by decide) rfl (by decide) (by omega) (by omega) (by decide) (congrArg (fun q => tu_row N22 21 q) (show tu_u (N22 21) w.toNat 1 = tu_u (M 21) w.toNat 1 from by rw [hN22, tu_tk_out (by omega)])) ?_
      refine tu_aload_n 32 X 0 dX3_save_32 rfl ?_
      refine tu_getR 33 X dX3_save_33 fl_RX3_10 (by decide) rfl rfl ?_
      refine tu_getI 36 X (x := N22 1 1) dX3_save_36 fl_RX3_68 (by decide) rfl rfl rfl ?_
      refine tu_tp (b := (M 1 1)) (by rw [hN22, tu_tk_out (by omega)]) ?_
      refine hret 39 _ _ (M 1 1) dX3_save_39 (fun h => by rw [hrt] at h; cases h) ?_
      exact ⟨_, ⟨fun h => absurd h (by omega), fun _ => ⟨rfl, by rw [← hp17, hN22]⟩⟩, rfl⟩
    ·
      refine tu_bipush 9 X dX3_save_9 (by decide) ?_
      refine hret 11 _ _ (-2) dX3_save_11 (fun h => by rw [hrt] at h; cases h) ?_
      exact ⟨_, ⟨fun _ => ⟨rfl, rfl⟩, fun h => absurd h (by omega)⟩, rfl⟩
set_option maxRecDepth 20000 in
set_option maxHeartbeats 4000000 in
theorem c_X3_restore {M : tu_M} (w : Int) (hH : tu_HS M) (hw : tu_rg w) : tu_MI tu_Y_X3_restore [tu_r 0, tu_i w] M (fun z M' => ∃ (y : Int), (((w < 0 ∨ 1 < w) → M' = M ∧ y = -2) ∧ ((0 ≤ w ∧ w ≤ 1) → (M 21 w.toNat = 0 → M' = M ∧ y = -5) ∧ (M 21 w.toNat = 1 → ∃ N : tu_M, tu_rec M N ∧ M' = tu_tk N 1 (70 + 8 * w.toNat) ∧ y = M (70 + 8 * w.toNat) 1))) ∧ z = y) := by
  have hH0 := hH
  obtain ⟨hp, hc0, hs, hz⟩ := hH
  refine tu_MI.of (ty := .int) (by decide) rfl (by first | exact Or.inl rfl | exact Or.inr rfl) (Nat.le_of_ble_eq_true rfl) (fun T (X : tu_X T cX3_restore RX3 3 83) hnl hrt hret => ?_)
  have hret : tu_RI T cX3_restore (fun z M' => ∃ (y : Int), (((w < 0 ∨ 1 < w) → M' = M ∧ y = -2) ∧ ((0 ≤ w ∧ w ≤ 1) → (M 21 w.toNat = 0 → M' = M ∧ y = -5) ∧ (M 21 w.toNat = 1 → ∃ N : tu_M, tu_rec M N ∧ M' = tu_tk N 1 (70 + 8 * w.toNat) ∧ y = M (70 + 8 * w.toNat) 1))) ∧ z = y) := hret
  have hnl : T.2.2.2.2.2.2.2.2.2.2.1 = 2 := hnl
  show tu_W T 0 [(0, tu_r 0), (1, tu_i w)] [] M
  refine tu_iload_n 0 X 1 dX3_restore_0 rfl ?_
  refine tu_if_lt 1 X 9 dX3_restore_1 (by decide) (show tu_rg w from by first | assumption | exact ⟨by omega, by omega⟩) (fun br1 => ?_) (fun br1 => ?_)
  ·
    refine tu_bipush 9 X dX3_restore_9 (by decide) ?_
    refine hret 11 _ _ (-2) dX3_restore_11 (fun h => by rw [hrt] at h; cases h) ?_
    exact ⟨_, ⟨fun _ => ⟨rfl, rfl⟩, fun h => absurd h (by omega)⟩, rfl⟩
  ·
    refine tu_iload_n 4 X 1 dX3_restore_4 rfl ?_
    refine tu_iconst 5 X dX3_restore_5 ?_
    refine tu_icmp_lt 6 X 12 dX3_restore_6 (by decide) (show tu_rg w from by first | assumption | exact ⟨by omega, by omega⟩) ⟨by decide, by decide⟩ (fun br6 => ?_) (fun br6 => ?_)
    ·
      refine tu_aload_n 12 X 0 dX3_restore_12 rfl ?_
      refine tu_getR 13 X dX3_restore_13 fl_RX3_41 (by decide) rfl rfl ?_
      refine tu_iload_n 16 X 1 dX3_restore_16 rfl ?_
      have hz2 := hz w.toNat (by omega)
      refine tu_zald 17 X (x := M 21 w.toNat) w.toNat dX3_restore_17 (by decide) rfl (by decide) (by omega) (by omega) rfl ?_
      refine tu_if_ne 18 X 24 dX3_restore_18 (by decide) (show tu_rg (M 21 w.toNat) from by first | assumption | exact ⟨by omega, by omega⟩) (fun br18 => ?_) (fun br18 => ?_)
      ·
        refine tu_aload_n 24 X 0 dX3_restore_24 rfl ?_
        refine tu_callVV 25 X (st := []) (as := []) (c_X3_record  (show tu_HS M from by first | assumption | omega | exact ⟨by omega, by omega⟩ | decide)) sv_RX3_52 dX3_restore_25 rfl (by decide) rfl rfl rfl (by decide) ⟨by decide, by decide⟩ (fun N25 h => ?_)
        have h25_0 := h
        refine tu_aload_n 28 X 0 dX3_restore_28 rfl ?_
        refine tu_getR 29 X dX3_restore_29 fl_RX3_10 (by decide) rfl rfl ?_
        refine tu_aload_n 32 X 0 dX3_restore_32 rfl ?_
        refine tu_getR 33 X dX3_restore_33 fl_RX3_38 (by decide) rfl rfl ?_
        refine tu_iload_n 36 X 1 dX3_restore_36 rfl ?_
        obtain ⟨p37, hp37⟩ : ∃ p : Nat, p = 70 + 8 * w.toNat := ⟨_, rfl⟩
        have hB37 : M 20 w.toNat = (p37 : Int) := by rcases (show w.toNat = 0 ∨ w.toNat = 1 by omega) with q | q <;> rw [q] at hp37 ⊢ <;> omega
        have hb37 : tu_B p37 := Or.inr ⟨6 + w.toNat, by omega, by omega⟩
        have e37 : N25 20 = M 20 := h25_0.1 20 (by decide) (by decide) (by decide)
        refine tu_aald 37 X (r := p37) w.toNat dX3_restore_37 (by decide) rfl (by decide) (by omega) (by omega) (show (N25 20 w.toNat).toNat = p37 from by rw [e37]; omega) ?_
        refine tu_callVV 38 X (st := []) (as := [tu_r p37]) (c_X0_takeOver 1 p37 (show (1 = 1 ∧ ∃ k, k < 8 ∧ p37 = 22 + 8 * k) ∨ (p37 = 1 ∧ ∃ k, k < 8 ∧ 1 = 22 + 8 * k) from by exact Or.inl ⟨rfl, 6 + w.toNat, by omega, by omega⟩)) sv_RX3_210 dX3_restore_38 rfl (by decide) rfl rfl rfl (by decide) ⟨by decide, by decide⟩ (fun M' h => ?_)
        have hM38 := h
        obtain ⟨N38, hN38⟩ : ∃ m : tu_M, m = tu_tk N25 1 p37 := ⟨_, rfl⟩
        refine tu_st_eq rfl (M' := N38) (hM38.trans hN38.symm) ?_
        refine tu_aload_n 41 X 0 dX3_restore_41 rfl ?_
        refine tu_getR 42 X dX3_restore_42 fl_RX3_10 (by decide) rfl rfl ?_
        refine tu_getI 45 X (x := N38 1 1) dX3_restore_45 fl_RX3_68 (by decide) rfl rfl rfl ?_
        refine tu_tp (b := (M p37 1)) (by rw [hN38, show tu_tk N25 1 p37 1 = N25 (p37 + 0) from tu_tk_in 0 (by decide), h25_0.1 (p37 + 0) (by omega) (by omega) (by omega)]; rfl) ?_
        refine hret 48 _ _ (M p37 1) dX3_restore_48 (fun h => by rw [hrt] at h; cases h) ?_
        exact ⟨_, ⟨fun h => absurd h (by omega), fun _ => ⟨fun h => absurd h (by omega), fun _ => ⟨N25, h25_0, by rw [← hp37]; exact hN38, by rw [← hp37]⟩⟩⟩, rfl⟩
      ·
        refine tu_bipush 21 X dX3_restore_21 (by decide) ?_
        refine hret 23 _ _ (-5) dX3_restore_23 (fun h => by rw [hrt] at h; cases h) ?_
        exact ⟨_, ⟨fun h => absurd h (by omega), fun _ => ⟨fun _ => ⟨rfl, rfl⟩, fun h => absurd h (by omega)⟩⟩, rfl⟩
    ·
      refine tu_bipush 9 X dX3_restore_9 (by decide) ?_
      refine hret 11 _ _ (-2) dX3_restore_11 (fun h => by rw [hrt] at h; cases h) ?_
      exact ⟨_, ⟨fun _ => ⟨rfl, rfl⟩, fun h => absurd h (by omega)⟩, rfl⟩
