set_option maxRecDepth 20000 in
set_option maxHeartbeats 4000000 in
theorem c_X3_record {M : tu_M}  (hH : tu_HS M) : tu_MV tu_Y_X3_record [tu_r 0] M (fun M' => (tu_rec M M')) := by
  obtain ⟨hp, hc0, -, -⟩ := hH
  refine tu_MV.of (by decide) rfl (Nat.le_of_ble_eq_true rfl) (fun T (X : tu_X T cX3_record RX3 2 61) hnl hret => ?_)
  have hret : tu_RV T cX3_record (fun M' => (tu_rec M M')) := hret
  have hnl : T.2.2.2.2.2.2.2.2.2.2.1 = 3 := hnl
  show tu_W T 0 [(0, tu_r 0)] [] M
  refine tu_st_eq rfl (M' := tu_row M 0 (M 0)) ((tu_rx M 0).symm) ?_
  refine tu_st_eq rfl (M' := tu_row (tu_row M 0 (M 0)) 19 (M 19)) ((congrArg (fun m => tu_row m 0 (M 0)) ((tu_rx M 19).symm)).trans (tu_rc M (M 19) (M 0) rfl)) ?_
  have lp61 : ∀ (r0 : Nat → Int) (g : Nat → Int) (c : Nat) (sh : Nat), (c ≤ 5) → (r0 4 = (c : Int)) → (∀ j, j ≠ 4 → r0 j = M 0 j) → (tu_ip g) → (∀ i, i < c → g i = M 19 (i + sh)) → ((M 0 4 = 6 ∧ c = 5 ∧ sh = 1) ∨ (M 0 4 = (c : Int) ∧ sh = 0)) → tu_W T 61 [(0, tu_r 0)] [] (tu_row (tu_row M 0 r0) 19 g) := by
      intro r0 g c sh hc h2 h3 hg h5 h6
      refine tu_aload_n 61 X 0 dX3_record_61 rfl ?_
      refine tu_getR 62 X dX3_record_62 fl_RX3_30 (by decide) rfl rfl ?_
      refine tu_aload_n 65 X 0 dX3_record_65 rfl ?_
      refine tu_getI 66 X (x := r0 4) dX3_record_66 fl_RX3_34 (by decide) rfl rfl rfl ?_
      refine tu_tp (b := ((c : Nat) : Int)) (by exact h2) ?_
      obtain ⟨k69, hk69, hB69⟩ := hg.at (show c < 6 by omega)
      obtain ⟨p69, hp69⟩ : ∃ p : Nat, p = 22 + 8 * k69 := ⟨_, rfl⟩
      rw [← hp69] at hB69
      have hb69 : tu_B p69 := Or.inr ⟨k69, by omega, hp69⟩
      refine tu_aald 69 X (r := p69) c dX3_record_69 (by decide) rfl (by decide) (by omega) (by omega) (show (g c).toNat = p69 from by omega) ?_
      refine tu_aload_n 70 X 0 dX3_record_70 rfl ?_
      refine tu_getR 71 X dX3_record_71 fl_RX3_10 (by decide) rfl rfl ?_
      refine tu_callVV 74 X (st := []) (as := [tu_r 1]) (c_X0_takeOver p69 1 (show (p69 = 1 ∧ ∃ k, k < 8 ∧ 1 = 22 + 8 * k) ∨ (1 = 1 ∧ ∃ k, k < 8 ∧ p69 = 22 + 8 * k) from by exact Or.inr ⟨rfl, k69, by omega, hp69⟩)) sv_RX3_210 dX3_record_74 rfl (tu_B_lt (f := 0) hb69 (by decide)) (tu_sh_bk (f := 0) hb69 (by decide)) rfl rfl (Nat.le_of_ble_eq_true rfl) ⟨by decide, by decide⟩ (fun M' h => ?_)
      have hM74 := h
      obtain ⟨N74, hN74⟩ : ∃ m : tu_M, m = tu_tk (tu_row (tu_row M 0 r0) 19 g) p69 1 := ⟨_, rfl⟩
      refine tu_st_eq rfl (M' := N74) (hM74.trans hN74.symm) ?_
      refine tu_aload_n 77 X 0 dX3_record_77 rfl ?_
      refine tu_dup 78 X dX3_record_78 rfl ?_
      refine tu_getI 79 X (x := N74 0 4) dX3_record_79 fl_RX3_34 (by decide) rfl rfl rfl ?_
      refine tu_tp (b := ((c : Nat) : Int)) (by rw [hN74, tu_tk_out (by omega)]; exact h2) ?_
      refine tu_iconst 82 X dX3_record_82 ?_
      refine tu_iadd 83 X dX3_record_83 ?_
      refine tu_putI 84 X (M' := tu_row N74 0 (tu_u (N74 0) 4 (((c : Nat) : Int) + 1))) dX3_record_84 fp_RX3_34 (by decide) rfl rfl rfl ?_
      refine hret 87 _ _ dX3_record_87 ?_
      exact tu_rec.of hc h2 h3 hg h5 h6 hB69 (by rw [hN74])
  refine tu_aload_n 0 X 0 dX3_record_0 rfl ?_
  refine tu_getI 1 X (x := (M 0) 4) dX3_record_1 fl_RX3_34 (by decide) rfl rfl rfl ?_
  refine tu_bipush 4 X dX3_record_4 (by decide) ?_
  refine tu_icmp_ne 6 X 61 dX3_record_6 (by decide) (show tu_rg ((M 0) 4) from by first | assumption | exact ⟨by omega, by omega⟩) ⟨by decide, by decide⟩ (fun br6 => ?_) (fun br6 => ?_)
  ·
    refine tu_jmp [0] (lv' := [(0, tu_r 0)]) ⟨rfl, trivial⟩ rfl (lp61 (M 0) (M 19) ((M 0 4).toNat) 0 (by omega) (by first | (rw [tu_u_s]; omega) | omega) (by first | (intro j hj; rfl) | (intro j hj; exact tu_u_n _ _ hj)) (by first | exact hp | exact hp.rot (fun j hj => by rw [tu_u_n _ _ (by omega), hg, if_pos (by omega)]) (by rw [tu_u_s, hB13])) (by first | (intro i hi; rfl) | (intro i hi; rw [tu_u_n _ _ (by omega), hg, if_pos (by omega)])) (by omega))
  ·
    refine tu_aload_n 9 X 0 dX3_record_9 rfl ?_
    refine tu_getR 10 X dX3_record_10 fl_RX3_30 (by decide) rfl rfl ?_
    refine tu_iconst 13 X dX3_record_13 ?_
    obtain ⟨k13, hk13, hB13⟩ := hp.at (show 0 < 6 by decide)
    obtain ⟨p13, hp13⟩ : ∃ p : Nat, p = 22 + 8 * k13 := ⟨_, rfl⟩
    rw [← hp13] at hB13
    have hb13 : tu_B p13 := Or.inr ⟨k13, by omega, hp13⟩
    refine tu_aald 14 X (r := p13) 0 dX3_record_14 (by decide) rfl (by decide) rfl (by decide) (show ((M 19) 0).toNat = p13 from by omega) ?_
    refine tu_astore_n 15 X (lv' := [(1, tu_r p13), (0, tu_r 0)]) dX3_record_15 (by rw [hnl]; decide) rfl ?_
    refine tu_iconst 16 X dX3_record_16 ?_
    refine tu_istore_n 17 X (lv' := [(2, tu_i 1), (1, tu_r p13), (0, tu_r 0)]) dX3_record_17 (by rw [hnl]; decide) rfl ?_
    have lp18 : ∀ (nq : Nat) (k : Nat) (g : Nat → Int), (1 ≤ k ∧ k ≤ 6) → (∀ j, g j = if j + 1 < k then M 19 (j + 1) else M 19 j) → 6 - k < nq → tu_W T 18 [(0, tu_r 0), (1, tu_r p13), (2, tu_i ((k : Nat) : Int))] [] (tu_row (tu_row M 0 (M 0)) 19 g) := by
      intro nq
      induction nq with
      | zero => intros; omega
      | succ nq ih18 =>
        intro k g hk hg hn18
        refine tu_iload_n 18 X 2 dX3_record_18 rfl ?_
        refine tu_bipush 19 X dX3_record_19 (by decide) ?_
        refine tu_icmp_ge 21 X 44 dX3_record_21 (by decide) (show tu_rg ((k : Nat) : Int) from by first | assumption | exact ⟨by omega, by omega⟩) ⟨by decide, by decide⟩ (fun br21 => ?_) (fun br21 => ?_)
        ·
          refine tu_aload_n 44 X 0 dX3_record_44 rfl ?_
          refine tu_getR 45 X dX3_record_45 fl_RX3_30 (by decide) rfl rfl ?_
          refine tu_iconst 48 X dX3_record_48 ?_
          refine tu_aload_n 49 X 1 dX3_record_49 rfl ?_
          refine tu_aast 50 X (M' := tu_row (tu_row M 0 (M 0)) 19 (tu_u g 5 ((p13 : Nat) : Int))) 5 dX3_record_50 (by decide) rfl (by decide) rfl (by decide) (tu_B_lt (f := 0) hb13 (by decide)) (tu_sh_bk (f := 0) hb13 (by decide)) (tu_rr (tu_row M 0 (M 0)) 19 g (tu_u g 5 ((p13 : Nat) : Int))) ?_
          refine tu_aload_n 51 X 0 dX3_record_51 rfl ?_
          refine tu_dup 52 X dX3_record_52 rfl ?_
          refine tu_getI 53 X (x := (M 0) 4) dX3_record_53 fl_RX3_34 (by decide) rfl rfl rfl ?_
          refine tu_tp (b := (M 0 4)) (by rfl) ?_
          refine tu_iconst 56 X dX3_record_56 ?_
          refine tu_isub 57 X dX3_record_57 ?_
          refine tu_putI 58 X (M' := tu_row (tu_row M 0 (tu_u (M 0) 4 ((M 0 4) - 1))) 19 (tu_u g 5 ((p13 : Nat) : Int))) dX3_record_58 fp_RX3_34 (by decide) rfl rfl ((tu_rc (tu_row M 0 (M 0)) (tu_u g 5 ((p13 : Nat) : Int)) (tu_u (M 0) 4 ((M 0 4) - 1)) rfl).trans (congrArg (fun m => tu_row m 19 (tu_u g 5 ((p13 : Nat) : Int))) (tu_rr M 0 (M 0) (tu_u (M 0) 4 ((M 0 4) - 1))))) ?_
          refine tu_jmp [0] (lv' := [(0, tu_r 0)]) ⟨rfl, trivial⟩ rfl (lp61 (tu_u (M 0) 4 ((M 0 4) - 1)) (tu_u g 5 ((p13 : Nat) : Int)) 5 1 (by omega) (by first | (rw [tu_u_s]; omega) | omega) (by first | (intro j hj; rfl) | (intro j hj; exact tu_u_n _ _ hj)) (by first | exact hp | exact hp.rot (fun j hj => by rw [tu_u_n _ _ (by omega), hg, if_pos (by omega)]) (by rw [tu_u_s, hB13])) (by first | (intro i hi; rfl) | (intro i hi; rw [tu_u_n _ _ (by omega), hg, if_pos (by omega)])) (by omega))
        ·
          refine tu_aload_n 24 X 0 dX3_record_24 rfl ?_
          refine tu_getR 25 X dX3_record_25 fl_RX3_30 (by decide) rfl rfl ?_
          refine tu_iload_n 28 X 2 dX3_record_28 rfl ?_
          refine tu_iconst 29 X dX3_record_29 ?_
          refine tu_isub 30 X dX3_record_30 ?_
          refine tu_tp (b := (((k - 1 : Nat)) : Int)) (by omega) ?_
          refine tu_aload_n 31 X 0 dX3_record_31 rfl ?_
          refine tu_getR 32 X dX3_record_32 fl_RX3_30 (by decide) rfl rfl ?_
          refine tu_iload_n 35 X 2 dX3_record_35 rfl ?_
          obtain ⟨k35, hk35, hB35⟩ := hp.at (show k < 6 by omega)
          obtain ⟨p35, hp35⟩ : ∃ p : Nat, p = 22 + 8 * k35 := ⟨_, rfl⟩
          rw [← hp35] at hB35
          have hb35 : tu_B p35 := Or.inr ⟨k35, by omega, hp35⟩
          refine tu_aald 36 X (r := p35) k dX3_record_36 (by decide) rfl (by decide) (by omega) (by omega) (show (g k).toNat = p35 from by rw [hg, if_neg (by omega)]; omega) ?_
          refine tu_aast 37 X (M' := tu_row (tu_row M 0 (M 0)) 19 (tu_u g (k - 1) ((p35 : Nat) : Int))) (k - 1) dX3_record_37 (by decide) rfl (by decide) (by omega) (by omega) (tu_B_lt (f := 0) hb35 (by decide)) (tu_sh_bk (f := 0) hb35 (by decide)) (tu_rr (tu_row M 0 (M 0)) 19 g (tu_u g (k - 1) ((p35 : Nat) : Int))) ?_
          refine tu_iinc 38 X (lv' := [(2, tu_i (((k : Nat) : Int) + 1)), (0, tu_r 0), (1, tu_r p13)]) 2 dX3_record_38 rfl (by rw [hnl]; decide) rfl ?_
          refine tu_goto 41 X 18 dX3_record_41 (by decide) ?_
          refine tu_jmp [1, 2, 0] (lv' := [(0, tu_r 0), (1, tu_r p13), (2, tu_i (((k + 1) : Nat) : Int))]) ⟨rfl, rfl, tu_ei (by first | rfl | omega), trivial⟩ rfl (ih18 (k + 1) (tu_u g (k - 1) ((p35 : Nat) : Int)) (by omega) (by intro j; rw [tu_u_if, hg j]; by_cases q : j = k - 1 <;> (first | (rw [if_pos q, if_pos (by omega), ← hB35, show k = j + 1 from by omega]) | (rw [if_neg q]; by_cases q2 : j + 1 < k <;> (first | (rw [if_pos q2, if_pos (by omega)]) | (rw [if_neg q2, if_neg (by omega)]))))) (by omega))
    refine tu_jmp [2, 1, 0] (lv' := [(0, tu_r 0), (1, tu_r p13), (2, tu_i 1)]) ⟨rfl, rfl, rfl, trivial⟩ rfl (lp18 ((6 - 1) + 1) 1 (M 19) (by omega) (by intro j; rw [if_neg (by omega)]) (by omega))
