/-- the cells that stand when the loops begin -/
def tv_F (M : tu_M) : Prop := (M 0 0 = 1 ∧ M 0 1 = 1 ∧ M 0 2 = 1 ∧ M 0 3 = 1 ∧ M 0 5 = 1 ∧ M 0 6 = 1) ∧ M 0 4 = 0 ∧ tv_B M 1 ∧ (M 9 0 = 1 ∧ M 9 1 = 0) ∧ (M 11 6 = 1 ∧ M 11 7 = 1 ∧ M 11 8 = 1 ∧ M 11 9 = 1 ∧ M 11 10 = 1 ∧ M 11 11 = 1 ∧ M 11 12 = 1) ∧ (M 21 0 = 0 ∧ M 21 1 = 0)
theorem tv_F.of {M M' : tu_M} (h : tv_F M) (e : ∀ a, a < 22 → a ≠ 19 → a ≠ 20 → M' a = M a) : tv_F M' := by
  obtain ⟨h1, h2, h3, h4, h5, h6⟩ := h
  unfold tv_F
  rw [e 0 (by decide) (by decide) (by decide), e 9 (by decide) (by decide) (by decide), e 11 (by decide) (by decide) (by decide), e 21 (by decide) (by decide) (by decide)]
  exact ⟨h1, h2, h3.of (e 1 (by decide) (by decide) (by decide)) (e 2 (by decide) (by decide) (by decide)), h4, h5, h6⟩
/-- behind the constructor -/
def tv_E (M : tu_M) : Prop := tv_F M ∧ (∀ j : Nat, j < 6 → M 19 j = ((22 + 8 * j : Nat) : Int)) ∧ (∀ j : Nat, j < 2 → M 20 j = ((22 + 8 * (j + 6) : Nat) : Int)) ∧ ∀ j : Nat, j < 8 → tv_B M (22 + 8 * j)
theorem tv_sb (j : Nat) (hj : j < 8) : tu_sh (22 + 8 * j) = (4, 0, [some (22 + 8 * j+1), none, some (22 + 8 * j+2), some (22 + 8 * j+3), none, some (22 + 8 * j+4), some (22 + 8 * j+5), none, some (22 + 8 * j+6), none, some (22 + 8 * j+7)]) := tu_sh_bk (f := 0) (Or.inr ⟨j, hj, rfl⟩) (by decide)
set_option maxRecDepth 20000 in
set_option maxHeartbeats 4000000 in
theorem c_X3_init {M : tu_M}  : tv_MV tv_Y_X3 0 1 86 M (fun M' => tv_E M') := by
  refine tv_MV.of (by decide) rfl (by decide) (fun T (X : tv_X T cX3_init RX3 2 60 85 5847) hnl hnm hret => ?_)
  have hret : tv_R T cX3_init 86 85 5847 (fun M' => tv_E M') := hret
  have hnl : T.2.2.2.2.2.2.2.2.2.2.1 = 2 := hnl
  have lp95 : ∀ (d i : Nat) (kc ks : Nat) (N : tu_M), d + i = 2 → kc = 69 + 8 * i → ks = 4777 + 535 * i → tv_F N → ((∀ j : Nat, j < 6 → N 19 j = ((22 + 8 * j : Nat) : Int)) ∧ (∀ j : Nat, j < i → N 20 j = ((22 + 8 * (j + 6) : Nat) : Int)) ∧ (∀ j : Nat, j < 6 + i → tv_B N (22 + 8 * j))) → tv_W T (70 + 8 * i) kc ks 95 [(1, tu_i ((i : Nat) : Int)), (0, tu_r 0)] [] N := by
    intro d
    induction d with
    | zero =>
      intro i kc ks N hd hkc hks hN hI
      refine tv_iload_n 95 X 0 dX3_init_95 rfl ?_
      refine tv_iconst 96 X dX3_init_96 ?_
      refine tv_icmp_ge 97 X 119 dX3_init_97 (by decide) ⟨by omega, by omega⟩ ⟨by decide, by decide⟩ (fun br => ?_) (fun br => ?_)
      · exact tv_eq (show 70 + 8 * i = 86 by omega) rfl rfl (hret _ _ 119 _ _ dX3_init_119 (by omega) (by omega) ⟨hN, hI.1, fun j hj => hI.2.1 j (by omega), fun j hj => hI.2.2 j (by omega)⟩)
      · exact absurd br (by omega)
    | succ d ih =>
      intro i kc ks N hd hkc hks hN hI
      refine tv_iload_n 95 X 0 dX3_init_95 rfl ?_
      refine tv_iconst 96 X dX3_init_96 ?_
      refine tv_icmp_ge 97 X 119 dX3_init_97 (by decide) ⟨by omega, by omega⟩ ⟨by decide, by decide⟩ (fun br => ?_) (fun br => ?_)
      · exact absurd br (by omega)
      · have hi : i < 2 := by omega
        have hs : tu_sh (70 + 8 * i) = (4, 0, [some ((70 + 8 * i)+1), none, some ((70 + 8 * i)+2), some ((70 + 8 * i)+3), none, some ((70 + 8 * i)+4), some ((70 + 8 * i)+5), none, some ((70 + 8 * i)+6), none, some ((70 + 8 * i)+7)]) := by have := tv_sb (i + 6) (by omega); rw [show 22 + 8 * (i + 6) = 70 + 8 * i by omega] at this; exact this
        refine tv_aload_n 100 X 1 dX3_init_100 rfl ?_
        refine tv_getR 101 X dX3_init_101 fl_RX3_38 (by omega) rfl rfl (by rw [hN.1.2.2.2.2.1]; decide) ?_
        refine tv_iload_n 104 X 0 dX3_init_104 rfl ?_
        refine tv_new 105 X (cl_RX3_7 (70 + 8 * i)) dX3_init_105 hs (by omega) (by omega) (by omega) (fun N1 e1 => ?_)
        refine tv_dup 108 X dX3_init_108 rfl ?_
        refine tv_call 109 X (c_X0_init (70 + 8 * i) (Or.inr ⟨(i + 6), by omega, by omega⟩)) ci_RX3_9 cn_X0 dX3_init_109 (by simp) ⟨by decide, by decide⟩ (show kc + 1 + 7 ≤ 85 from by omega) (show ks + 11 + 524 ≤ 5847 from by omega) (fun N2 h => ?_)
        obtain ⟨e2, g2⟩ := h
        refine tv_aast 112 X i dX3_init_112 (by omega) (by omega) rfl (by decide) rfl (by omega) (by omega) (by omega) hs (fun N3 e3 => ?_)
        refine tv_iinc 113 X 0 dX3_init_113 rfl (by rw [hnl]; decide) rfl ?_
        refine tv_goto 116 X 95 dX3_init_116 (by decide) ?_
        have eo : ∀ a, a < 70 + 8 * i → a ≠ 20 → N3 a = N a := fun a h1 h2 => by rw [e3, tu_row_n _ _ h2, e2 a h1, e1, tu_row_n _ _ (by omega)]
        have en : ∀ a, 22 ≤ a → a ≠ 20 → N3 a = N2 a := fun a h1 h2 => by rw [e3, tu_row_n _ _ h2]
        have ec : N3 20 = tu_u (N 20) i (((70 + 8 * i) : Nat) : Int) := by rw [e3, tu_row_s, e2 20 (by omega), e1, tu_row_n _ _ (by omega)]
        refine tv_eq (show _ = 70 + 8 * (i + 1) by omega) (show _ = 69 + 8 * (i + 1) from by show kc + 1 + 7 = _; omega) (show _ = 4777 + 535 * (i + 1) from by show ks + 11 + 524 = _; omega) ?_
        refine tv_lv (lv' := [(1, tu_i ((i + 1 : Nat) : Int)), (0, tu_r 0)]) [0, 1] ⟨tu_ei (by omega), rfl, trivial⟩ ?_
        exact ih (i + 1) _ _ N3 (by omega) rfl rfl (hN.of (fun a h1 h2 h3 => eo a (by omega) (by omega))) ⟨fun j hj => by rw [eo 19 (by omega) (by omega)]; exact hI.1 j hj, fun j hj => by
          rw [ec, tu_u_if]
          by_cases q : j = i
          · rw [if_pos q, q]; omega
          · rw [if_neg q]; exact hI.2.1 j (by omega), fun j hj => by
          by_cases q : j < 6 + i
          · exact (hI.2.2 j q).of (eo _ (by omega) (by omega)) (eo _ (by omega) (by omega))
          · have g3 := g2.of (M' := N3) (en _ (by omega) (by omega)) (en _ (by omega) (by omega))
            rw [show 70 + 8 * i = 22 + 8 * j by omega] at g3
            exact g3⟩
  have lp68 : ∀ (d i : Nat) (kc ks : Nat) (N : tu_M), d + i = 6 → kc = 21 + 8 * i → ks = 1567 + 535 * i → tv_F N → ((∀ j : Nat, j < i → N 19 j = ((22 + 8 * j : Nat) : Int)) ∧ (∀ j : Nat, j < i → tv_B N (22 + 8 * j))) → tv_W T (22 + 8 * i) kc ks 68 [(1, tu_i ((i : Nat) : Int)), (0, tu_r 0)] [] N := by
    intro d
    induction d with
    | zero =>
      intro i kc ks N hd hkc hks hN hI
      refine tv_iload_n 68 X 0 dX3_init_68 rfl ?_
      refine tv_bipush 69 X dX3_init_69 (by decide) ?_
      refine tv_icmp_ge 71 X 93 dX3_init_71 (by decide) ⟨by omega, by omega⟩ ⟨by decide, by decide⟩ (fun br => ?_) (fun br => ?_)
      · refine tv_iconst 93 X dX3_init_93 ?_
        refine tv_istore_n 94 X (lv' := [(1, tu_i 0), (0, tu_r 0)]) dX3_init_94 (by rw [hnl]; decide) rfl ?_
        refine tv_eq (show 22 + 8 * i = 70 + 8 * 0 by omega) (show kc = 69 + 8 * 0 by omega) (show ks = 4777 + 535 * 0 by omega) ?_
        exact lp95 2 0 _ _ N (by decide) rfl rfl hN ⟨fun j hj => hI.1 j (by omega), fun j hj => absurd hj (by omega), fun j hj => hI.2 j (by omega)⟩
      · exact absurd br (by omega)
    | succ d ih =>
      intro i kc ks N hd hkc hks hN hI
      refine tv_iload_n 68 X 0 dX3_init_68 rfl ?_
      refine tv_bipush 69 X dX3_init_69 (by decide) ?_
      refine tv_icmp_ge 71 X 93 dX3_init_71 (by decide) ⟨by omega, by omega⟩ ⟨by decide, by decide⟩ (fun br => ?_) (fun br => ?_)
      · exact absurd br (by omega)
      · have hi : i < 6 := by omega
        have hs : tu_sh (22 + 8 * i) = (4, 0, [some ((22 + 8 * i)+1), none, some ((22 + 8 * i)+2), some ((22 + 8 * i)+3), none, some ((22 + 8 * i)+4), some ((22 + 8 * i)+5), none, some ((22 + 8 * i)+6), none, some ((22 + 8 * i)+7)]) := by have := tv_sb i (by omega); rw [show 22 + 8 * i = 22 + 8 * i by omega] at this; exact this
        refine tv_aload_n 74 X 1 dX3_init_74 rfl ?_
        refine tv_getR 75 X dX3_init_75 fl_RX3_30 (by omega) rfl rfl (by rw [hN.1.2.2.2.1]; decide) ?_
        refine tv_iload_n 78 X 0 dX3_init_78 rfl ?_
        refine tv_new 79 X (cl_RX3_7 (22 + 8 * i)) dX3_init_79 hs (by omega) (by omega) (by omega) (fun N1 e1 => ?_)
        refine tv_dup 82 X dX3_init_82 rfl ?_
        refine tv_call 83 X (c_X0_init (22 + 8 * i) (Or.inr ⟨i, by omega, by omega⟩)) ci_RX3_9 cn_X0 dX3_init_83 (by simp) ⟨by decide, by decide⟩ (show kc + 1 + 7 ≤ 85 from by omega) (show ks + 11 + 524 ≤ 5847 from by omega) (fun N2 h => ?_)
        obtain ⟨e2, g2⟩ := h
        refine tv_aast 86 X i dX3_init_86 (by omega) (by omega) rfl (by decide) rfl (by omega) (by omega) (by omega) hs (fun N3 e3 => ?_)
        refine tv_iinc 87 X 0 dX3_init_87 rfl (by rw [hnl]; decide) rfl ?_
        refine tv_goto 90 X 68 dX3_init_90 (by decide) ?_
        have eo : ∀ a, a < 22 + 8 * i → a ≠ 19 → N3 a = N a := fun a h1 h2 => by rw [e3, tu_row_n _ _ h2, e2 a h1, e1, tu_row_n _ _ (by omega)]
        have en : ∀ a, 22 ≤ a → a ≠ 19 → N3 a = N2 a := fun a h1 h2 => by rw [e3, tu_row_n _ _ h2]
        have ec : N3 19 = tu_u (N 19) i (((22 + 8 * i) : Nat) : Int) := by rw [e3, tu_row_s, e2 19 (by omega), e1, tu_row_n _ _ (by omega)]
        refine tv_eq (show _ = 22 + 8 * (i + 1) by omega) (show _ = 21 + 8 * (i + 1) from by show kc + 1 + 7 = _; omega) (show _ = 1567 + 535 * (i + 1) from by show ks + 11 + 524 = _; omega) ?_
        refine tv_lv (lv' := [(1, tu_i ((i + 1 : Nat) : Int)), (0, tu_r 0)]) [0, 1] ⟨tu_ei (by omega), rfl, trivial⟩ ?_
        exact ih (i + 1) _ _ N3 (by omega) rfl rfl (hN.of (fun a h1 h2 h3 => eo a (by omega) (by omega))) ⟨fun j hj => by
          rw [ec, tu_u_if]
          by_cases q : j = i
          · rw [if_pos q, q]
          · rw [if_neg q]; exact hI.1 j (by omega), fun j hj => by
          by_cases q : j < i
          · exact (hI.2 j q).of (eo _ (by omega) (by omega)) (eo _ (by omega) (by omega))
          · have g3 := g2.of (M' := N3) (en _ (by omega) (by omega)) (en _ (by omega) (by omega))
            rw [show 22 + 8 * i = 22 + 8 * j by omega] at g3
            exact g3⟩
  refine tv_aload_n 0 X 0 dX3_init_0 rfl ?_
  refine tv_obj 1 X oi_RX3 dX3_init_1 (by decide) (by decide) (by decide) ?_
  refine tv_aload_n 4 X 0 dX3_init_4 rfl ?_
  refine tv_new 5 X (cl_RX3_7 1) dX3_init_5 rfl (by decide) (Nat.le_of_ble_eq_true rfl) (Nat.le_of_ble_eq_true rfl) (fun M1 h1 => ?_)
  refine tv_dup 8 X dX3_init_8 rfl ?_
  refine tv_call 9 X (c_X0_init 1 (by exact Or.inl rfl)) ci_RX3_9 cn_X0 dX3_init_9 (by decide) ⟨by decide, by decide⟩ (Nat.le_of_ble_eq_true rfl) (Nat.le_of_ble_eq_true rfl) (fun M2 h => ?_)
  obtain ⟨f2, g2⟩ := h
  refine tv_putR 12 X hnm dX3_init_12 fF_RX3_10 (by decide) (by decide) rfl rfl (fun M3 h3 => ?_)
  refine tv_aload_n 15 X 0 dX3_init_15 rfl ?_
  refine tv_new 16 X cl_RX3_16 dX3_init_16 rfl (by decide) (Nat.le_of_ble_eq_true rfl) (Nat.le_of_ble_eq_true rfl) (fun M4 h4 => ?_)
  refine tv_dup 19 X dX3_init_19 rfl ?_
  refine tv_callN 20 X c_X2_init (host := RX3) (fun _ h9 => h9.2.1) cy_X2 cn_X2 dX3_init_20 (by decide) ⟨by decide, by decide⟩ (Nat.le_of_ble_eq_true rfl) (Nat.le_of_ble_eq_true rfl) (fun M5 h => ?_)
  obtain ⟨f5, g5⟩ := h
  refine tv_putR 23 X hnm dX3_init_23 fF_RX3_19 (by decide) (by decide) rfl rfl (fun M6 h6 => ?_)
  refine tv_aload_n 26 X 0 dX3_init_26 rfl ?_
  refine tv_new 27 X cl_RX3_23 dX3_init_27 rfl (by decide) (Nat.le_of_ble_eq_true rfl) (Nat.le_of_ble_eq_true rfl) (fun M7 h7 => ?_)
  refine tv_dup 30 X dX3_init_30 rfl ?_
  refine tv_callN 31 X c_X1_init (host := RX3) (fun _ h9 => h9.2.2.1) cy_X1 cn_X1 dX3_init_31 (by decide) ⟨by decide, by decide⟩ (Nat.le_of_ble_eq_true rfl) (Nat.le_of_ble_eq_true rfl) (fun M8 h => ?_)
  obtain ⟨f8, g8⟩ := h
  refine tv_putR 34 X hnm dX3_init_34 fF_RX3_26 (by decide) (by decide) rfl rfl (fun M9 h9 => ?_)
  refine tv_aload_n 37 X 0 dX3_init_37 rfl ?_
  refine tv_bipush 38 X dX3_init_38 (by decide) ?_
  refine tv_newQ 40 X 6 lk_RX3_7 dX3_init_40 rfl (by decide) rfl (by decide) (Nat.le_of_ble_eq_true rfl) (Nat.le_of_ble_eq_true rfl) (fun M10 h10 => ?_)
  refine tv_putR 43 X hnm dX3_init_43 fF_RX3_30 (by decide) (by decide) rfl rfl (fun M11 h11 => ?_)
  refine tv_aload_n 46 X 0 dX3_init_46 rfl ?_
  refine tv_iconst 47 X dX3_init_47 ?_
  refine tv_putI 48 X dX3_init_48 fp_RX3_34 (by decide) (by decide) rfl rfl (fun M12 h12 => ?_)
  refine tv_aload_n 51 X 0 dX3_init_51 rfl ?_
  refine tv_iconst 52 X dX3_init_52 ?_
  refine tv_newQ 53 X 2 lk_RX3_7 dX3_init_53 rfl (by decide) rfl (by decide) (Nat.le_of_ble_eq_true rfl) (Nat.le_of_ble_eq_true rfl) (fun M13 h13 => ?_)
  refine tv_putR 56 X hnm dX3_init_56 fF_RX3_38 (by decide) (by decide) rfl rfl (fun M14 h14 => ?_)
  refine tv_aload_n 59 X 0 dX3_init_59 rfl ?_
  refine tv_iconst 60 X dX3_init_60 ?_
  refine tv_newZ 61 X 2 dX3_init_61 rfl (by decide) rfl (by decide) (Nat.le_of_ble_eq_true rfl) (Nat.le_of_ble_eq_true rfl) (fun M15 h15 => ?_)
  refine tv_putR 63 X hnm dX3_init_63 fF_RX3_41 (by decide) (by decide) rfl rfl (fun M16 h16 => ?_)
  have hF : tv_F M16 := ⟨⟨(by rw [h16, tu_row_s, tu_u_n _ _ (by decide), h15, tu_row_n _ _ (by decide), h14, tu_row_s, tu_u_n _ _ (by decide), h13, tu_row_n _ _ (by decide), h12, tu_row_s, tu_u_n _ _ (by decide), h11, tu_row_s, tu_u_n _ _ (by decide), h10, tu_row_n _ _ (by decide), h9, tu_row_s, tu_u_n _ _ (by decide), f8 _ (by decide), h7, tu_row_n _ _ (by decide), h6, tu_row_s, tu_u_n _ _ (by decide), f5 _ (by decide), h4, tu_row_n _ _ (by decide), h3, tu_row_s, tu_u_s]), (by rw [h16, tu_row_s, tu_u_n _ _ (by decide), h15, tu_row_n _ _ (by decide), h14, tu_row_s, tu_u_n _ _ (by decide), h13, tu_row_n _ _ (by decide), h12, tu_row_s, tu_u_n _ _ (by decide), h11, tu_row_s, tu_u_n _ _ (by decide), h10, tu_row_n _ _ (by decide), h9, tu_row_s, tu_u_n _ _ (by decide), f8 _ (by decide), h7, tu_row_n _ _ (by decide), h6, tu_row_s, tu_u_s]), (by rw [h16, tu_row_s, tu_u_n _ _ (by decide), h15, tu_row_n _ _ (by decide), h14, tu_row_s, tu_u_n _ _ (by decide), h13, tu_row_n _ _ (by decide), h12, tu_row_s, tu_u_n _ _ (by decide), h11, tu_row_s, tu_u_n _ _ (by decide), h10, tu_row_n _ _ (by decide), h9, tu_row_s, tu_u_s]), (by rw [h16, tu_row_s, tu_u_n _ _ (by decide), h15, tu_row_n _ _ (by decide), h14, tu_row_s, tu_u_n _ _ (by decide), h13, tu_row_n _ _ (by decide), h12, tu_row_s, tu_u_n _ _ (by decide), h11, tu_row_s, tu_u_s]), (by rw [h16, tu_row_s, tu_u_n _ _ (by decide), h15, tu_row_n _ _ (by decide), h14, tu_row_s, tu_u_s]), (by rw [h16, tu_row_s, tu_u_s])⟩, (by rw [h16, tu_row_s, tu_u_n _ _ (by decide), h15, tu_row_n _ _ (by decide), h14, tu_row_s, tu_u_n _ _ (by decide), h13, tu_row_n _ _ (by decide), h12, tu_row_s, tu_u_s]), g2.of (by rw [h16, tu_row_n _ _ (by decide), h15, tu_row_n _ _ (by decide), h14, tu_row_n _ _ (by decide), h13, tu_row_n _ _ (by decide), h12, tu_row_n _ _ (by decide), h11, tu_row_n _ _ (by decide), h10, tu_row_n _ _ (by decide), h9, tu_row_n _ _ (by decide), f8 _ (by decide), h7, tu_row_n _ _ (by decide), h6, tu_row_n _ _ (by decide), f5 _ (by decide), h4, tu_row_n _ _ (by decide), h3, tu_row_n _ _ (by decide)]) (by rw [h16, tu_row_n _ _ (by decide), h15, tu_row_n _ _ (by decide), h14, tu_row_n _ _ (by decide), h13, tu_row_n _ _ (by decide), h12, tu_row_n _ _ (by decide), h11, tu_row_n _ _ (by decide), h10, tu_row_n _ _ (by decide), h9, tu_row_n _ _ (by decide), f8 _ (by decide), h7, tu_row_n _ _ (by decide), h6, tu_row_n _ _ (by decide), f5 _ (by decide), h4, tu_row_n _ _ (by decide), h3, tu_row_n _ _ (by decide)]), ⟨(by rw [h16, tu_row_n _ _ (by decide), h15, tu_row_n _ _ (by decide), h14, tu_row_n _ _ (by decide), h13, tu_row_n _ _ (by decide), h12, tu_row_n _ _ (by decide), h11, tu_row_n _ _ (by decide), h10, tu_row_n _ _ (by decide), h9, tu_row_n _ _ (by decide), f8 _ (by decide), h7, tu_row_n _ _ (by decide), h6, tu_row_n _ _ (by decide)]; exact g5.1), (by rw [h16, tu_row_n _ _ (by decide), h15, tu_row_n _ _ (by decide), h14, tu_row_n _ _ (by decide), h13, tu_row_n _ _ (by decide), h12, tu_row_n _ _ (by decide), h11, tu_row_n _ _ (by decide), h10, tu_row_n _ _ (by decide), h9, tu_row_n _ _ (by decide), f8 _ (by decide), h7, tu_row_n _ _ (by decide), h6, tu_row_n _ _ (by decide)]; exact g5.2)⟩, ⟨(by rw [h16, tu_row_n _ _ (by decide), h15, tu_row_n _ _ (by decide), h14, tu_row_n _ _ (by decide), h13, tu_row_n _ _ (by decide), h12, tu_row_n _ _ (by decide), h11, tu_row_n _ _ (by decide), h10, tu_row_n _ _ (by decide), h9, tu_row_n _ _ (by decide)]; exact g8.1), (by rw [h16, tu_row_n _ _ (by decide), h15, tu_row_n _ _ (by decide), h14, tu_row_n _ _ (by decide), h13, tu_row_n _ _ (by decide), h12, tu_row_n _ _ (by decide), h11, tu_row_n _ _ (by decide), h10, tu_row_n _ _ (by decide), h9, tu_row_n _ _ (by decide)]; exact g8.2.1), (by rw [h16, tu_row_n _ _ (by decide), h15, tu_row_n _ _ (by decide), h14, tu_row_n _ _ (by decide), h13, tu_row_n _ _ (by decide), h12, tu_row_n _ _ (by decide), h11, tu_row_n _ _ (by decide), h10, tu_row_n _ _ (by decide), h9, tu_row_n _ _ (by decide)]; exact g8.2.2.1), (by rw [h16, tu_row_n _ _ (by decide), h15, tu_row_n _ _ (by decide), h14, tu_row_n _ _ (by decide), h13, tu_row_n _ _ (by decide), h12, tu_row_n _ _ (by decide), h11, tu_row_n _ _ (by decide), h10, tu_row_n _ _ (by decide), h9, tu_row_n _ _ (by decide)]; exact g8.2.2.2.1), (by rw [h16, tu_row_n _ _ (by decide), h15, tu_row_n _ _ (by decide), h14, tu_row_n _ _ (by decide), h13, tu_row_n _ _ (by decide), h12, tu_row_n _ _ (by decide), h11, tu_row_n _ _ (by decide), h10, tu_row_n _ _ (by decide), h9, tu_row_n _ _ (by decide)]; exact g8.2.2.2.2.1), (by rw [h16, tu_row_n _ _ (by decide), h15, tu_row_n _ _ (by decide), h14, tu_row_n _ _ (by decide), h13, tu_row_n _ _ (by decide), h12, tu_row_n _ _ (by decide), h11, tu_row_n _ _ (by decide), h10, tu_row_n _ _ (by decide), h9, tu_row_n _ _ (by decide)]; exact g8.2.2.2.2.2.1), (by rw [h16, tu_row_n _ _ (by decide), h15, tu_row_n _ _ (by decide), h14, tu_row_n _ _ (by decide), h13, tu_row_n _ _ (by decide), h12, tu_row_n _ _ (by decide), h11, tu_row_n _ _ (by decide), h10, tu_row_n _ _ (by decide), h9, tu_row_n _ _ (by decide)]; exact g8.2.2.2.2.2.2)⟩, ⟨(by rw [h16, tu_row_n _ _ (by decide), h15, tu_row_s]), (by rw [h16, tu_row_n _ _ (by decide), h15, tu_row_s])⟩⟩
  refine tv_iconst 66 X dX3_init_66 ?_
  refine tv_istore_n 67 X (lv' := [(1, tu_i 0), (0, tu_r 0)]) dX3_init_67 (by rw [hnl]; decide) rfl ?_
  exact lp68 6 0 _ _ M16 (by decide) rfl rfl hF ⟨fun j hj => absurd hj (by omega), fun j hj => absurd hj (by omega)⟩
