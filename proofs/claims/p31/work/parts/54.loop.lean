theorem tz_Jsc {M N : tu_M} (h : tz_J M) (hs : tz_sc M N) : tz_J N := by
  refine tz_Jof (B := tu_cb M) h.1.ok hs.b ?_ ?_
  · rw [hs 86 (by decide), hs 87 (by decide), hs 88 (by decide), hs 89 (by decide), hs 90 (by decide)]
    exact h.1.ar
  · have g := h.2
    unfold tu_HS at g ⊢
    rw [hs 0 (by decide), hs 19 (by decide), hs 20 (by decide), hs 21 (by decide)]
    exact g
theorem tz_Jw {M N : tu_M} (h : tz_J M) (hs : ∀ i, i ≠ 9 → N i = M i) : tz_J N := by
  refine tz_Jof (B := tu_cb M) h.1.ok (fun f hf => hs (1 + f) (by omega)) ?_ ?_
  · rw [hs 86 (by decide), hs 87 (by decide), hs 88 (by decide), hs 89 (by decide), hs 90 (by decide)]
    exact h.1.ar
  · have g := h.2
    unfold tu_HS at g ⊢
    rw [hs 0 (by decide), hs 19 (by decide), hs 20 (by decide), hs 21 (by decide)]
    exact g
set_option maxRecDepth 20000 in
set_option maxHeartbeats 4000000 in
theorem tl_loop {T : tu_T} (X : tu_X T cL_law RL 9 344) (hnl : T.2.2.2.2.2.2.2.2.2.2.1 = 18) (hret : tu_RI T cL_law (fun z _ => z = 1)) {M : tu_M} (hJ : tz_J M) : tu_W T 63 [(0, tu_r 100), (1, tu_r 0), (2, tu_r 86), (3, tu_r 87), (4, tu_r 88), (5, tu_r 89), (6, tu_r 90), (7, tu_r 91)] [] M := by
  refine tu_iconst 63 X dL_law_63 ?_
  refine tu_istore 64 X (lv' := [(8, tu_i 0), (0, tu_r 100), (1, tu_r 0), (2, tu_r 86), (3, tu_r 87), (4, tu_r 88), (5, tu_r 89), (6, tu_r 90), (7, tu_r 91)]) dL_law_64 (by rw [hnl]; decide) rfl ?_
  have lp66 : ∀ (nq : Nat) (i8 : Nat) (Ma : tu_M), (i8 ≤ 22) → (tz_J Ma) → 22 - i8 < nq → tu_W T 66 [(0, tu_r 100), (1, tu_r 0), (2, tu_r 86), (3, tu_r 87), (4, tu_r 88), (5, tu_r 89), (6, tu_r 90), (7, tu_r 91), (8, tu_i ((i8 : Nat) : Int))] [] Ma := by
    intro nq
    induction nq with
    | zero => intros; omega
    | succ nq ih66 =>
      intro i8 Ma hi8 hJ hn66
      have hR := hJ.1
      have hB := hR.ok
      have cn := hB.cnt
      have hsm := hR.small
      have q4 := hR.q4
      have hqs := hR.qs
      obtain ⟨NL, eL⟩ : ∃ c : Nat, Ma 1 1 = (c : Int) := ⟨(Ma 1 1).toNat, by omega⟩
      obtain ⟨NP, eP⟩ : ∃ c : Nat, Ma 1 4 = (c : Int) := ⟨(Ma 1 4).toNat, by omega⟩
      obtain ⟨NB, eB⟩ : ∃ c : Nat, Ma 1 7 = (c : Int) := ⟨(Ma 1 7).toNat, by omega⟩
      obtain ⟨NT, eT⟩ : ∃ c : Nat, Ma 1 9 = (c : Int) := ⟨(Ma 1 9).toNat, by omega⟩
      refine tu_iload 66 X 8 dL_law_66 rfl ?_
      refine tu_bipush 68 X dL_law_68 (by decide) ?_
      refine tu_icmp_ge 70 X 1634 dL_law_70 (by decide) (show tu_rg ((i8 : Nat) : Int) from by first | assumption | exact ⟨by omega, by omega⟩) ⟨by decide, by decide⟩ (fun br70 => ?_) (fun br70 => ?_)
      ·
        refine tu_iconst 1634 X dL_law_1634 ?_
        refine hret 1635 _ _ 1 dL_law_1635 (fun _ => Or.inr rfl) ?_
        rfl
      ·
        refine tu_aload_n 73 X 0 dL_law_73 rfl ?_
        refine tu_iconst 74 X dL_law_74 ?_
        refine tu_iload 75 X 8 dL_law_75 rfl ?_
        refine tu_imul 77 X dL_law_77 ?_
        refine tu_callSI 78 X (st := []) (as := [tu_r 100, tu_i (2 * ((i8 : Nat) : Int))]) (c_L_cell (2 * ((i8 : Nat) : Int)) (show 0 ≤ (2 * ((i8 : Nat) : Int)) ∧ (2 * ((i8 : Nat) : Int)) ≤ 1000 from by first | assumption | omega | exact ⟨by omega, by omega⟩ | decide)) ss_RL_71 dL_law_78 rfl (Nat.le_of_ble_eq_true rfl) ⟨by decide, by decide⟩ (fun z M' h => ?_)
        obtain ⟨y_78, hM78, hz78⟩ := h
        refine tu_st_eq rfl (M' := Ma) hM78 ?_
        refine tu_tp (b := y_78) hz78 ?_
        refine tu_istore 81 X (lv' := [(9, tu_i y_78), (0, tu_r 100), (1, tu_r 0), (2, tu_r 86), (3, tu_r 87), (4, tu_r 88), (5, tu_r 89), (6, tu_r 90), (7, tu_r 91), (8, tu_i ((i8 : Nat) : Int))]) dL_law_81 (by rw [hnl]; decide) rfl ?_
        refine tu_aload_n 83 X 1 dL_law_83 rfl ?_
        refine tu_iconst 84 X dL_law_84 ?_
        refine tu_iload 85 X 9 dL_law_85 rfl ?_
        refine tu_imul 87 X dL_law_87 ?_
        refine tu_iconst 88 X dL_law_88 ?_
        refine tu_iadd 89 X dL_law_89 ?_
        refine tu_callSI 90 X (st := []) (as := [tu_r 100, tu_i ((2 * ((i8 : Nat) : Int)) + 1)]) (c_L_cell ((2 * ((i8 : Nat) : Int)) + 1) (show 0 ≤ ((2 * ((i8 : Nat) : Int)) + 1) ∧ ((2 * ((i8 : Nat) : Int)) + 1) ≤ 1000 from by first | assumption | omega | exact ⟨by omega, by omega⟩ | decide)) ss_RL_71 dL_law_90 rfl (Nat.le_of_ble_eq_true rfl) ⟨by decide, by decide⟩ (fun z M' h => ?_)
        obtain ⟨y_90, hM90, hz90⟩ := h
        refine tu_st_eq rfl (M' := Ma) hM90 ?_
        refine tu_tp (b := y_90) hz90 ?_
        refine tu_istore 93 X (lv' := [(10, tu_i y_90), (9, tu_i y_78), (0, tu_r 100), (1, tu_r 0), (2, tu_r 86), (3, tu_r 87), (4, tu_r 88), (5, tu_r 89), (6, tu_r 90), (7, tu_r 91), (8, tu_i ((i8 : Nat) : Int))]) dL_law_93 (by rw [hnl]; decide) rfl ?_
        have lp115 : ∀ (kd : Int), (0 ≤ kd ∧ kd < 14) → tu_W T 115 [(0, tu_r 100), (1, tu_r 0), (2, tu_r 86), (3, tu_r 87), (4, tu_r 88), (5, tu_r 89), (6, tu_r 90), (7, tu_r 91), (8, tu_i ((i8 : Nat) : Int)), (9, tu_i y_78), (10, tu_i y_90)] [tu_i kd] Ma := by
            intro kd hkd
            refine tu_istore 115 X (lv' := [(11, tu_i kd), (0, tu_r 100), (1, tu_r 0), (2, tu_r 86), (3, tu_r 87), (4, tu_r 88), (5, tu_r 89), (6, tu_r 90), (7, tu_r 91), (8, tu_i ((i8 : Nat) : Int)), (9, tu_i y_78), (10, tu_i y_90)]) dL_law_115 (by rw [hnl]; decide) rfl ?_
            have lp139 : ∀ (l9 : Nat), (0 < Ma 1 1 → (l9 : Int) < Ma 1 1) → tu_W T 139 [(0, tu_r 100), (1, tu_r 0), (2, tu_r 86), (3, tu_r 87), (4, tu_r 88), (5, tu_r 89), (6, tu_r 90), (7, tu_r 91), (8, tu_i ((i8 : Nat) : Int)), (9, tu_i y_78), (10, tu_i y_90), (11, tu_i kd)] [tu_i ((l9 : Nat) : Int)] Ma := by
                intro l9 hl9
                refine tu_istore 139 X (lv' := [(12, tu_i ((l9 : Nat) : Int)), (0, tu_r 100), (1, tu_r 0), (2, tu_r 86), (3, tu_r 87), (4, tu_r 88), (5, tu_r 89), (6, tu_r 90), (7, tu_r 91), (8, tu_i ((i8 : Nat) : Int)), (9, tu_i y_78), (10, tu_i y_90), (11, tu_i kd)]) dL_law_139 (by rw [hnl]; decide) rfl ?_
                have lp163 : ∀ (p9 : Nat), (0 < Ma 1 4 → (p9 : Int) < Ma 1 4) → tu_W T 163 [(0, tu_r 100), (1, tu_r 0), (2, tu_r 86), (3, tu_r 87), (4, tu_r 88), (5, tu_r 89), (6, tu_r 90), (7, tu_r 91), (8, tu_i ((i8 : Nat) : Int)), (9, tu_i y_78), (10, tu_i y_90), (11, tu_i kd), (12, tu_i ((l9 : Nat) : Int))] [tu_i ((p9 : Nat) : Int)] Ma := by
                    intro p9 hp9
                    refine tu_istore 163 X (lv' := [(13, tu_i ((p9 : Nat) : Int)), (0, tu_r 100), (1, tu_r 0), (2, tu_r 86), (3, tu_r 87), (4, tu_r 88), (5, tu_r 89), (6, tu_r 90), (7, tu_r 91), (8, tu_i ((i8 : Nat) : Int)), (9, tu_i y_78), (10, tu_i y_90), (11, tu_i kd), (12, tu_i ((l9 : Nat) : Int))]) dL_law_163 (by rw [hnl]; decide) rfl ?_
                    have lp1576 : ∀ (Mz : tu_M), (tz_J Mz) → tu_W T 1576 [(0, tu_r 100), (1, tu_r 0), (2, tu_r 86), (3, tu_r 87), (4, tu_r 88), (5, tu_r 89), (6, tu_r 90), (7, tu_r 91), (8, tu_i ((i8 : Nat) : Int)), (10, tu_i y_90)] [] Mz := by
                        intro Mz hJz
                        refine tu_aload_n 1576 X 1 dL_law_1576 rfl ?_
                        refine tu_aload 1577 X 6 dL_law_1577 rfl ?_
                        refine tu_aload_n 1579 X 2 dL_law_1579 rfl ?_
                        refine tu_aload_n 1580 X 3 dL_law_1580 rfl ?_
                        refine tu_aload 1581 X 4 dL_law_1581 rfl ?_
                        refine tu_aload 1583 X 5 dL_law_1583 rfl ?_
                        refine tu_aload 1585 X 7 dL_law_1585 rfl ?_
                        refine tu_callSI 1587 X (st := []) (as := [tu_r 0, tu_r 90, tu_r 86, tu_r 87, tu_r 88, tu_r 89, tu_r 91]) (c_L_same  (show tz_R Mz from by exact hJz.1)) ss_RL_129 dL_law_1587 rfl (Nat.le_of_ble_eq_true rfl) ⟨by decide, by decide⟩ (fun z N1587 h => ?_)
                        obtain ⟨y_1587, h1587_0, h1587_1, hz1587⟩ := h
                        refine tu_tp (b := y_1587) hz1587 ?_
                        have hJn : tz_J N1587 := tz_Jsc hJz h1587_0
                        refine tu_if_eq 1590 X 1626 dL_law_1590 (by decide) (show tu_rg y_1587 from by first | assumption | exact ⟨by omega, by omega⟩) (fun br1590 => ?_) (fun br1590 => ?_)
                        ·
                          exfalso; omega
                        ·
                          refine tu_iload 1593 X 9 dL_law_1593 rfl ?_
                          refine tu_bipush 1595 X dL_law_1595 (by decide) ?_
                          refine tu_ishr 1597 X dL_law_1597 ?_
                          refine tu_iconst 1598 X dL_law_1598 ?_
                          refine tu_st_eq (show _ = [tu_i ((2 : Nat) : Int), tu_i (tu_shr y_90 13)] from by first | rfl | (simp only [List.cons.injEq, Sum.inl.injEq, and_true, true_and]; omega)) rfl ?_
                          refine tu_callSI 1599 X (st := []) (as := [tu_i (tu_shr y_90 13), tu_i ((2 : Nat) : Int)]) (c_L_low (tu_shr y_90 13) 2 (show 0 < 2 ∧ 2 < 2147483648 from by decide)) ss_RL_61 dL_law_1599 rfl (Nat.le_of_ble_eq_true rfl) ⟨by decide, by decide⟩ (fun z M' h => ?_)
                          obtain ⟨j_1599, hM1599, h1599_0, hz1599⟩ := h
                          refine tu_st_eq rfl (M' := N1587) hM1599 ?_
                          refine tu_tp (b := ((j_1599 : Nat) : Int)) hz1599 ?_
                          refine tu_if_ne 1602 X 1628 dL_law_1602 (by decide) (show tu_rg ((j_1599 : Nat) : Int) from by first | assumption | exact ⟨by omega, by omega⟩) (fun br1602 => ?_) (fun br1602 => ?_)
                          ·
                            refine tu_iinc 1628 X (lv' := [(8, tu_i (((i8 : Nat) : Int) + 1)), (0, tu_r 100), (1, tu_r 0), (2, tu_r 86), (3, tu_r 87), (4, tu_r 88), (5, tu_r 89), (6, tu_r 90), (7, tu_r 91), (10, tu_i y_90)]) 8 dL_law_1628 rfl (by rw [hnl]; decide) rfl ?_
                            refine tu_goto 1631 X 66 dL_law_1631 (by decide) ?_
                            refine tu_jmp [1, 2, 3, 4, 5, 6, 7, 8, 0] (lv' := [(0, tu_r 100), (1, tu_r 0), (2, tu_r 86), (3, tu_r 87), (4, tu_r 88), (5, tu_r 89), (6, tu_r 90), (7, tu_r 91), (8, tu_i (((i8 + 1) : Nat) : Int))]) ⟨rfl, rfl, rfl, rfl, rfl, rfl, rfl, rfl, tu_ei (by first | rfl | omega), trivial⟩ rfl (ih66 (i8 + 1) N1587 (by omega) (by exact hJn) (by omega))
                          ·
                            refine tu_aload_n 1605 X 1 dL_law_1605 rfl ?_
                            refine tu_iload 1606 X 9 dL_law_1606 rfl ?_
                            refine tu_iconst 1608 X dL_law_1608 ?_
                            refine tu_ishr 1609 X dL_law_1609 ?_
                            refine tu_aload 1610 X 6 dL_law_1610 rfl ?_
                            refine tu_aload_n 1612 X 2 dL_law_1612 rfl ?_
                            refine tu_aload_n 1613 X 3 dL_law_1613 rfl ?_
                            refine tu_aload 1614 X 4 dL_law_1614 rfl ?_
                            refine tu_aload 1616 X 5 dL_law_1616 rfl ?_
                            refine tu_aload 1618 X 7 dL_law_1618 rfl ?_
                            refine tu_callSI 1620 X (st := []) (as := [tu_r 0, tu_i (tu_shr y_90 2), tu_r 90, tu_r 86, tu_r 87, tu_r 88, tu_r 89, tu_r 91]) (c_L_whole (tu_shr y_90 2) (show tz_R N1587 from by exact hJn.1)) ss_RL_133 dL_law_1620 rfl (Nat.le_of_ble_eq_true rfl) ⟨by decide, by decide⟩ (fun z N1620 h => ?_)
                            obtain ⟨y_1620, h1620_0, h1620_1, hz1620⟩ := h
                            refine tu_tp (b := y_1620) hz1620 ?_
                            have hJn : tz_J N1620 := tz_Jsc hJn h1620_0
                            refine tu_if_ne 1623 X 1628 dL_law_1623 (by decide) (show tu_rg y_1620 from by first | assumption | exact ⟨by omega, by omega⟩) (fun br1623 => ?_) (fun br1623 => ?_)
                            ·
                              refine tu_iinc 1628 X (lv' := [(8, tu_i (((i8 : Nat) : Int) + 1)), (0, tu_r 100), (1, tu_r 0), (2, tu_r 86), (3, tu_r 87), (4, tu_r 88), (5, tu_r 89), (6, tu_r 90), (7, tu_r 91), (10, tu_i y_90)]) 8 dL_law_1628 rfl (by rw [hnl]; decide) rfl ?_
                              refine tu_goto 1631 X 66 dL_law_1631 (by decide) ?_
                              refine tu_jmp [1, 2, 3, 4, 5, 6, 7, 8, 0] (lv' := [(0, tu_r 100), (1, tu_r 0), (2, tu_r 86), (3, tu_r 87), (4, tu_r 88), (5, tu_r 89), (6, tu_r 90), (7, tu_r 91), (8, tu_i (((i8 + 1) : Nat) : Int))]) ⟨rfl, rfl, rfl, rfl, rfl, rfl, rfl, rfl, tu_ei (by first | rfl | omega), trivial⟩ rfl (ih66 (i8 + 1) N1620 (by omega) (by exact hJn) (by omega))
                            ·
                              exfalso; omega
                    refine tu_aload_n 165 X 2 dL_law_165 rfl ?_
                    refine tu_callVI 166 X (st := []) (as := []) (c_X3_wipe  ) sv_RL_75 dL_law_166 rfl (by decide) rfl rfl rfl (Nat.le_of_ble_eq_true rfl) ⟨by decide, by decide⟩ (fun z M' h => ?_)
                    obtain ⟨hM166, hz166⟩ := h
                    refine tu_st_eq rfl (M' := tu_row Ma 9 (tu_u (Ma 9) 1 0)) hM166 ?_
                    refine tu_tp (b := (Ma 9 1)) hz166 ?_
                    refine tu_pop 169 X dL_law_169 rfl ?_
                    obtain ⟨Mw, hMw⟩ : ∃ m99 : tu_M, m99 = tu_row Ma 9 (tu_u (Ma 9) 1 0) := ⟨_, rfl⟩
                    refine tu_st_eq rfl (M' := Mw) hMw.symm ?_
                    have hwM : ∀ i, i ≠ 9 → Mw i = Ma i := fun i a => by rw [hMw, tu_row_n _ _ a]
                    have hw0 : Mw 9 1 = 0 := by rw [hMw, tu_row_s, tu_u_s]
                    have hJw : tz_J Mw := tz_Jw hJ hwM
                    have eLw : Mw 1 1 = ((NL : Nat) : Int) := by rw [hwM 1 (by decide)]; exact eL
                    have ePw : Mw 1 4 = ((NP : Nat) : Int) := by rw [hwM 1 (by decide)]; exact eP
                    have lp1495 : tu_W T 1495 [(0, tu_r 100), (1, tu_r 0), (2, tu_r 86), (3, tu_r 87), (4, tu_r 88), (5, tu_r 89), (6, tu_r 90), (7, tu_r 91), (8, tu_i ((i8 : Nat) : Int)), (9, tu_i y_78), (10, tu_i y_90), (11, tu_i kd), (12, tu_i ((l9 : Nat) : Int)), (13, tu_i ((p9 : Nat) : Int))] [] Mw := by
                        refine tu_jmp [0, 1, 2, 3, 4, 5, 6, 7, 8, 10] (lv' := [(0, tu_r 100), (1, tu_r 0), (2, tu_r 86), (3, tu_r 87), (4, tu_r 88), (5, tu_r 89), (6, tu_r 90), (7, tu_r 91), (8, tu_i ((i8 : Nat) : Int)), (10, tu_i y_90)]) ⟨rfl, rfl, rfl, rfl, rfl, rfl, rfl, rfl, rfl, rfl, trivial⟩ rfl (tl_set X hnl hJw lp1576)
                    have lp1416 : tu_W T 1416 [(0, tu_r 100), (1, tu_r 0), (2, tu_r 86), (3, tu_r 87), (4, tu_r 88), (5, tu_r 89), (6, tu_r 90), (7, tu_r 91), (8, tu_i ((i8 : Nat) : Int)), (9, tu_i y_78), (10, tu_i y_90), (11, tu_i kd), (12, tu_i ((l9 : Nat) : Int)), (13, tu_i ((p9 : Nat) : Int))] [] Mw := by
                        refine tu_iload 1416 X 11 dL_law_1416 rfl ?_
                        refine tu_bipush 1418 X dL_law_1418 (by decide) ?_
                        refine tu_icmp_ne 1420 X 1495 dL_law_1420 (by decide) (show tu_rg kd from by first | assumption | exact ⟨by omega, by omega⟩) ⟨by decide, by decide⟩ (fun br1420 => ?_) (fun br1420 => ?_)
                        ·
                          refine tu_jmp [0, 1, 2, 3, 4, 5, 6, 7, 8, 9, 10, 11, 12, 13] (lv' := [(0, tu_r 100), (1, tu_r 0), (2, tu_r 86), (3, tu_r 87), (4, tu_r 88), (5, tu_r 89), (6, tu_r 90), (7, tu_r 91), (8, tu_i ((i8 : Nat) : Int)), (9, tu_i y_78), (10, tu_i y_90), (11, tu_i kd), (12, tu_i ((l9 : Nat) : Int)), (13, tu_i ((p9 : Nat) : Int))]) ⟨rfl, rfl, rfl, rfl, rfl, rfl, rfl, rfl, rfl, rfl, rfl, rfl, rfl, rfl, trivial⟩ rfl (lp1495 )
                        ·
                          refine tu_iload 1423 X 10 dL_law_1423 rfl ?_
                          refine tu_iconst 1425 X dL_law_1425 ?_
                          refine tu_st_eq (show _ = [tu_i ((4 : Nat) : Int), tu_i y_90] from by first | rfl | (simp only [List.cons.injEq, Sum.inl.injEq, and_true, true_and]; omega)) rfl ?_
                          refine tu_callSI 1426 X (st := []) (as := [tu_i y_90, tu_i ((4 : Nat) : Int)]) (c_L_low y_90 4 (show 0 < 4 ∧ 4 < 2147483648 from by decide)) ss_RL_61 dL_law_1426 rfl (Nat.le_of_ble_eq_true rfl) ⟨by decide, by decide⟩ (fun z M' h => ?_)
                          obtain ⟨j_1426, hM1426, h1426_0, hz1426⟩ := h
                          refine tu_st_eq rfl (M' := Mw) hM1426 ?_
                          refine tu_tp (b := ((j_1426 : Nat) : Int)) hz1426 ?_
                          refine tu_if_ne 1429 X 1495 dL_law_1429 (by decide) (show tu_rg ((j_1426 : Nat) : Int) from by first | assumption | exact ⟨by omega, by omega⟩) (fun br1429 => ?_) (fun br1429 => ?_)
                          ·
                            refine tu_jmp [0, 1, 2, 3, 4, 5, 6, 7, 8, 9, 10, 11, 12, 13] (lv' := [(0, tu_r 100), (1, tu_r 0), (2, tu_r 86), (3, tu_r 87), (4, tu_r 88), (5, tu_r 89), (6, tu_r 90), (7, tu_r 91), (8, tu_i ((i8 : Nat) : Int)), (9, tu_i y_78), (10, tu_i y_90), (11, tu_i kd), (12, tu_i ((l9 : Nat) : Int)), (13, tu_i ((p9 : Nat) : Int))]) ⟨rfl, rfl, rfl, rfl, rfl, rfl, rfl, rfl, rfl, rfl, rfl, rfl, rfl, rfl, trivial⟩ rfl (lp1495 )
                          ·
                            refine tu_jmp [0, 1, 2, 3, 4, 5, 6, 7, 8, 10] (lv' := [(0, tu_r 100), (1, tu_r 0), (2, tu_r 86), (3, tu_r 87), (4, tu_r 88), (5, tu_r 89), (6, tu_r 90), (7, tu_r 91), (8, tu_i ((i8 : Nat) : Int)), (10, tu_i y_90)]) ⟨rfl, rfl, rfl, rfl, rfl, rfl, rfl, rfl, rfl, rfl, trivial⟩ rfl (tl_clear X hnl hJw lp1576)
                    have lp1247 : tu_W T 1247 [(0, tu_r 100), (1, tu_r 0), (2, tu_r 86), (3, tu_r 87), (4, tu_r 88), (5, tu_r 89), (6, tu_r 90), (7, tu_r 91), (8, tu_i ((i8 : Nat) : Int)), (9, tu_i y_78), (10, tu_i y_90), (11, tu_i kd), (12, tu_i ((l9 : Nat) : Int)), (13, tu_i ((p9 : Nat) : Int))] [] Mw := by
                        refine tu_iload 1247 X 11 dL_law_1247 rfl ?_
                        refine tu_bipush 1249 X dL_law_1249 (by decide) ?_
                        refine tu_icmp_ge 1251 X 1416 dL_law_1251 (by decide) (show tu_rg kd from by first | assumption | exact ⟨by omega, by omega⟩) ⟨by decide, by decide⟩ (fun br1251 => ?_) (fun br1251 => ?_)
                        ·
                          refine tu_jmp [0, 1, 2, 3, 4, 5, 6, 7, 8, 9, 10, 11, 12, 13] (lv' := [(0, tu_r 100), (1, tu_r 0), (2, tu_r 86), (3, tu_r 87), (4, tu_r 88), (5, tu_r 89), (6, tu_r 90), (7, tu_r 91), (8, tu_i ((i8 : Nat) : Int)), (9, tu_i y_78), (10, tu_i y_90), (11, tu_i kd), (12, tu_i ((l9 : Nat) : Int)), (13, tu_i ((p9 : Nat) : Int))]) ⟨rfl, rfl, rfl, rfl, rfl, rfl, rfl, rfl, rfl, rfl, rfl, rfl, rfl, rfl, trivial⟩ rfl (lp1416 )
                        ·
                          refine tu_aload 1254 X 6 dL_law_1254 rfl ?_
                          refine tu_iconst 1256 X dL_law_1256 ?_
                          refine tu_iald 1257 X (x := Mw 90 4) 4 dL_law_1257 (by decide) rfl (by decide) rfl (by decide) rfl ?_
                          refine tu_tp (b := ((NL : Nat) : Int)) (by rw [hwM 90 (by decide), q4.1]; exact eL) ?_
                          refine tu_if_le 1258 X 1416 dL_law_1258 (by decide) (show tu_rg ((NL : Nat) : Int) from by first | assumption | exact ⟨by omega, by omega⟩) (fun br1258 => ?_) (fun br1258 => ?_)
                          ·
                            refine tu_jmp [0, 1, 2, 3, 4, 5, 6, 7, 8, 9, 10, 11, 12, 13] (lv' := [(0, tu_r 100), (1, tu_r 0), (2, tu_r 86), (3, tu_r 87), (4, tu_r 88), (5, tu_r 89), (6, tu_r 90), (7, tu_r 91), (8, tu_i ((i8 : Nat) : Int)), (9, tu_i y_78), (10, tu_i y_90), (11, tu_i kd), (12, tu_i ((l9 : Nat) : Int)), (13, tu_i ((p9 : Nat) : Int))]) ⟨rfl, rfl, rfl, rfl, rfl, rfl, rfl, rfl, rfl, rfl, rfl, rfl, rfl, rfl, trivial⟩ rfl (lp1416 )
                          ·
                            refine tu_jmp [0, 1, 2, 3, 4, 5, 6, 7, 8, 10, 12] (lv' := [(0, tu_r 100), (1, tu_r 0), (2, tu_r 86), (3, tu_r 87), (4, tu_r 88), (5, tu_r 89), (6, tu_r 90), (7, tu_r 91), (8, tu_i ((i8 : Nat) : Int)), (10, tu_i y_90), (12, tu_i ((l9 : Nat) : Int))]) ⟨rfl, rfl, rfl, rfl, rfl, rfl, rfl, rfl, rfl, rfl, rfl, trivial⟩ rfl (tl_verse X hnl hJw (by omega) lp1576)
                    have lp1167 : tu_W T 1167 [(0, tu_r 100), (1, tu_r 0), (2, tu_r 86), (3, tu_r 87), (4, tu_r 88), (5, tu_r 89), (6, tu_r 90), (7, tu_r 91), (8, tu_i ((i8 : Nat) : Int)), (9, tu_i y_78), (10, tu_i y_90), (11, tu_i kd), (12, tu_i ((l9 : Nat) : Int)), (13, tu_i ((p9 : Nat) : Int))] [] Mw := by
                        refine tu_iload 1167 X 11 dL_law_1167 rfl ?_
                        refine tu_bipush 1169 X dL_law_1169 (by decide) ?_
                        refine tu_icmp_ge 1171 X 1247 dL_law_1171 (by decide) (show tu_rg kd from by first | assumption | exact ⟨by omega, by omega⟩) ⟨by decide, by decide⟩ (fun br1171 => ?_) (fun br1171 => ?_)
                        ·
                          refine tu_jmp [0, 1, 2, 3, 4, 5, 6, 7, 8, 9, 10, 11, 12, 13] (lv' := [(0, tu_r 100), (1, tu_r 0), (2, tu_r 86), (3, tu_r 87), (4, tu_r 88), (5, tu_r 89), (6, tu_r 90), (7, tu_r 91), (8, tu_i ((i8 : Nat) : Int)), (9, tu_i y_78), (10, tu_i y_90), (11, tu_i kd), (12, tu_i ((l9 : Nat) : Int)), (13, tu_i ((p9 : Nat) : Int))]) ⟨rfl, rfl, rfl, rfl, rfl, rfl, rfl, rfl, rfl, rfl, rfl, rfl, rfl, rfl, trivial⟩ rfl (lp1247 )
                        ·
                          refine tu_aload 1174 X 6 dL_law_1174 rfl ?_
                          refine tu_iconst 1176 X dL_law_1176 ?_
                          refine tu_iald 1177 X (x := Mw 90 5) 5 dL_law_1177 (by decide) rfl (by decide) rfl (by decide) rfl ?_
                          refine tu_tp (b := ((NP : Nat) : Int)) (by rw [hwM 90 (by decide), q4.2.1]; exact eP) ?_
                          refine tu_if_le 1178 X 1247 dL_law_1178 (by decide) (show tu_rg ((NP : Nat) : Int) from by first | assumption | exact ⟨by omega, by omega⟩) (fun br1178 => ?_) (fun br1178 => ?_)
                          ·
                            refine tu_jmp [0, 1, 2, 3, 4, 5, 6, 7, 8, 9, 10, 11, 12, 13] (lv' := [(0, tu_r 100), (1, tu_r 0), (2, tu_r 86), (3, tu_r 87), (4, tu_r 88), (5, tu_r 89), (6, tu_r 90), (7, tu_r 91), (8, tu_i ((i8 : Nat) : Int)), (9, tu_i y_78), (10, tu_i y_90), (11, tu_i kd), (12, tu_i ((l9 : Nat) : Int)), (13, tu_i ((p9 : Nat) : Int))]) ⟨rfl, rfl, rfl, rfl, rfl, rfl, rfl, rfl, rfl, rfl, rfl, rfl, rfl, rfl, trivial⟩ rfl (lp1247 )
                          ·
                            refine tu_jmp [0, 1, 2, 3, 4, 5, 6, 7, 8, 10, 13] (lv' := [(0, tu_r 100), (1, tu_r 0), (2, tu_r 86), (3, tu_r 87), (4, tu_r 88), (5, tu_r 89), (6, tu_r 90), (7, tu_r 91), (8, tu_i ((i8 : Nat) : Int)), (10, tu_i y_90), (13, tu_i ((p9 : Nat) : Int))]) ⟨rfl, rfl, rfl, rfl, rfl, rfl, rfl, rfl, rfl, rfl, rfl, trivial⟩ rfl (tl_play X hnl hJw (by omega) lp1576)
                    have lp1087 : tu_W T 1087 [(0, tu_r 100), (1, tu_r 0), (2, tu_r 86), (3, tu_r 87), (4, tu_r 88), (5, tu_r 89), (6, tu_r 90), (7, tu_r 91), (8, tu_i ((i8 : Nat) : Int)), (9, tu_i y_78), (10, tu_i y_90), (11, tu_i kd), (12, tu_i ((l9 : Nat) : Int)), (13, tu_i ((p9 : Nat) : Int))] [] Mw := by
                        refine tu_iload 1087 X 11 dL_law_1087 rfl ?_
                        refine tu_bipush 1089 X dL_law_1089 (by decide) ?_
                        refine tu_icmp_ge 1091 X 1167 dL_law_1091 (by decide) (show tu_rg kd from by first | assumption | exact ⟨by omega, by omega⟩) ⟨by decide, by decide⟩ (fun br1091 => ?_) (fun br1091 => ?_)
                        ·
                          refine tu_jmp [0, 1, 2, 3, 4, 5, 6, 7, 8, 9, 10, 11, 12, 13] (lv' := [(0, tu_r 100), (1, tu_r 0), (2, tu_r 86), (3, tu_r 87), (4, tu_r 88), (5, tu_r 89), (6, tu_r 90), (7, tu_r 91), (8, tu_i ((i8 : Nat) : Int)), (9, tu_i y_78), (10, tu_i y_90), (11, tu_i kd), (12, tu_i ((l9 : Nat) : Int)), (13, tu_i ((p9 : Nat) : Int))]) ⟨rfl, rfl, rfl, rfl, rfl, rfl, rfl, rfl, rfl, rfl, rfl, rfl, rfl, rfl, trivial⟩ rfl (lp1167 )
                        ·
                          refine tu_aload 1094 X 6 dL_law_1094 rfl ?_
                          refine tu_iconst 1096 X dL_law_1096 ?_
                          refine tu_iald 1097 X (x := Mw 90 4) 4 dL_law_1097 (by decide) rfl (by decide) rfl (by decide) rfl ?_
                          refine tu_tp (b := ((NL : Nat) : Int)) (by rw [hwM 90 (by decide), q4.1]; exact eL) ?_
                          refine tu_if_le 1098 X 1167 dL_law_1098 (by decide) (show tu_rg ((NL : Nat) : Int) from by first | assumption | exact ⟨by omega, by omega⟩) (fun br1098 => ?_) (fun br1098 => ?_)
                          ·
                            refine tu_jmp [0, 1, 2, 3, 4, 5, 6, 7, 8, 9, 10, 11, 12, 13] (lv' := [(0, tu_r 100), (1, tu_r 0), (2, tu_r 86), (3, tu_r 87), (4, tu_r 88), (5, tu_r 89), (6, tu_r 90), (7, tu_r 91), (8, tu_i ((i8 : Nat) : Int)), (9, tu_i y_78), (10, tu_i y_90), (11, tu_i kd), (12, tu_i ((l9 : Nat) : Int)), (13, tu_i ((p9 : Nat) : Int))]) ⟨rfl, rfl, rfl, rfl, rfl, rfl, rfl, rfl, rfl, rfl, rfl, rfl, rfl, rfl, trivial⟩ rfl (lp1167 )
                          ·
                            refine tu_jmp [0, 1, 2, 3, 4, 5, 6, 7, 8, 10, 12] (lv' := [(0, tu_r 100), (1, tu_r 0), (2, tu_r 86), (3, tu_r 87), (4, tu_r 88), (5, tu_r 89), (6, tu_r 90), (7, tu_r 91), (8, tu_i ((i8 : Nat) : Int)), (10, tu_i y_90), (12, tu_i ((l9 : Nat) : Int))]) ⟨rfl, rfl, rfl, rfl, rfl, rfl, rfl, rfl, rfl, rfl, rfl, trivial⟩ rfl (tl_sing X hnl hJw (by omega) lp1576)
                    have lp924 : tu_W T 924 [(0, tu_r 100), (1, tu_r 0), (2, tu_r 86), (3, tu_r 87), (4, tu_r 88), (5, tu_r 89), (6, tu_r 90), (7, tu_r 91), (8, tu_i ((i8 : Nat) : Int)), (9, tu_i y_78), (10, tu_i y_90), (11, tu_i kd), (12, tu_i ((l9 : Nat) : Int)), (13, tu_i ((p9 : Nat) : Int))] [] Mw := by
                        refine tu_iload 924 X 11 dL_law_924 rfl ?_
                        refine tu_iconst 926 X dL_law_926 ?_
                        refine tu_icmp_ne 927 X 1087 dL_law_927 (by decide) (show tu_rg kd from by first | assumption | exact ⟨by omega, by omega⟩) ⟨by decide, by decide⟩ (fun br927 => ?_) (fun br927 => ?_)
                        ·
                          refine tu_jmp [0, 1, 2, 3, 4, 5, 6, 7, 8, 9, 10, 11, 12, 13] (lv' := [(0, tu_r 100), (1, tu_r 0), (2, tu_r 86), (3, tu_r 87), (4, tu_r 88), (5, tu_r 89), (6, tu_r 90), (7, tu_r 91), (8, tu_i ((i8 : Nat) : Int)), (9, tu_i y_78), (10, tu_i y_90), (11, tu_i kd), (12, tu_i ((l9 : Nat) : Int)), (13, tu_i ((p9 : Nat) : Int))]) ⟨rfl, rfl, rfl, rfl, rfl, rfl, rfl, rfl, rfl, rfl, rfl, rfl, rfl, rfl, trivial⟩ rfl (lp1087 )
                        ·
                          refine tu_aload 930 X 6 dL_law_930 rfl ?_
                          refine tu_iconst 932 X dL_law_932 ?_
                          refine tu_iald 933 X (x := Mw 90 5) 5 dL_law_933 (by decide) rfl (by decide) rfl (by decide) rfl ?_
                          refine tu_tp (b := ((NP : Nat) : Int)) (by rw [hwM 90 (by decide), q4.2.1]; exact eP) ?_
                          refine tu_if_le 934 X 1087 dL_law_934 (by decide) (show tu_rg ((NP : Nat) : Int) from by first | assumption | exact ⟨by omega, by omega⟩) (fun br934 => ?_) (fun br934 => ?_)
                          ·
                            refine tu_jmp [0, 1, 2, 3, 4, 5, 6, 7, 8, 9, 10, 11, 12, 13] (lv' := [(0, tu_r 100), (1, tu_r 0), (2, tu_r 86), (3, tu_r 87), (4, tu_r 88), (5, tu_r 89), (6, tu_r 90), (7, tu_r 91), (8, tu_i ((i8 : Nat) : Int)), (9, tu_i y_78), (10, tu_i y_90), (11, tu_i kd), (12, tu_i ((l9 : Nat) : Int)), (13, tu_i ((p9 : Nat) : Int))]) ⟨rfl, rfl, rfl, rfl, rfl, rfl, rfl, rfl, rfl, rfl, rfl, rfl, rfl, rfl, trivial⟩ rfl (lp1087 )
                          ·
                            refine tu_jmp [0, 1, 2, 3, 4, 5, 6, 7, 8, 10, 13] (lv' := [(0, tu_r 100), (1, tu_r 0), (2, tu_r 86), (3, tu_r 87), (4, tu_r 88), (5, tu_r 89), (6, tu_r 90), (7, tu_r 91), (8, tu_i ((i8 : Nat) : Int)), (10, tu_i y_90), (13, tu_i ((p9 : Nat) : Int))]) ⟨rfl, rfl, rfl, rfl, rfl, rfl, rfl, rfl, rfl, rfl, rfl, trivial⟩ rfl (tl_beat X hnl hJw (by omega) lp1576)
                    have lp812 : tu_W T 812 [(0, tu_r 100), (1, tu_r 0), (2, tu_r 86), (3, tu_r 87), (4, tu_r 88), (5, tu_r 89), (6, tu_r 90), (7, tu_r 91), (8, tu_i ((i8 : Nat) : Int)), (9, tu_i y_78), (10, tu_i y_90), (11, tu_i kd), (12, tu_i ((l9 : Nat) : Int)), (13, tu_i ((p9 : Nat) : Int))] [] Mw := by
                        refine tu_iload 812 X 11 dL_law_812 rfl ?_
                        refine tu_iconst 814 X dL_law_814 ?_
                        refine tu_icmp_ne 815 X 924 dL_law_815 (by decide) (show tu_rg kd from by first | assumption | exact ⟨by omega, by omega⟩) ⟨by decide, by decide⟩ (fun br815 => ?_) (fun br815 => ?_)
                        ·
                          refine tu_jmp [0, 1, 2, 3, 4, 5, 6, 7, 8, 9, 10, 11, 12, 13] (lv' := [(0, tu_r 100), (1, tu_r 0), (2, tu_r 86), (3, tu_r 87), (4, tu_r 88), (5, tu_r 89), (6, tu_r 90), (7, tu_r 91), (8, tu_i ((i8 : Nat) : Int)), (9, tu_i y_78), (10, tu_i y_90), (11, tu_i kd), (12, tu_i ((l9 : Nat) : Int)), (13, tu_i ((p9 : Nat) : Int))]) ⟨rfl, rfl, rfl, rfl, rfl, rfl, rfl, rfl, rfl, rfl, rfl, rfl, rfl, rfl, trivial⟩ rfl (lp924 )
                        ·
                          refine tu_aload 818 X 6 dL_law_818 rfl ?_
                          refine tu_iconst 820 X dL_law_820 ?_
                          refine tu_iald 821 X (x := Mw 90 4) 4 dL_law_821 (by decide) rfl (by decide) rfl (by decide) rfl ?_
                          refine tu_tp (b := ((NL : Nat) : Int)) (by rw [hwM 90 (by decide), q4.1]; exact eL) ?_
                          refine tu_if_le 822 X 924 dL_law_822 (by decide) (show tu_rg ((NL : Nat) : Int) from by first | assumption | exact ⟨by omega, by omega⟩) (fun br822 => ?_) (fun br822 => ?_)
                          ·
                            refine tu_jmp [0, 1, 2, 3, 4, 5, 6, 7, 8, 9, 10, 11, 12, 13] (lv' := [(0, tu_r 100), (1, tu_r 0), (2, tu_r 86), (3, tu_r 87), (4, tu_r 88), (5, tu_r 89), (6, tu_r 90), (7, tu_r 91), (8, tu_i ((i8 : Nat) : Int)), (9, tu_i y_78), (10, tu_i y_90), (11, tu_i kd), (12, tu_i ((l9 : Nat) : Int)), (13, tu_i ((p9 : Nat) : Int))]) ⟨rfl, rfl, rfl, rfl, rfl, rfl, rfl, rfl, rfl, rfl, rfl, rfl, rfl, rfl, trivial⟩ rfl (lp924 )
                          ·
                            refine tu_jmp [0, 1, 2, 3, 4, 5, 6, 7, 8, 10, 12] (lv' := [(0, tu_r 100), (1, tu_r 0), (2, tu_r 86), (3, tu_r 87), (4, tu_r 88), (5, tu_r 89), (6, tu_r 90), (7, tu_r 91), (8, tu_i ((i8 : Nat) : Int)), (10, tu_i y_90), (12, tu_i ((l9 : Nat) : Int))]) ⟨rfl, rfl, rfl, rfl, rfl, rfl, rfl, rfl, rfl, rfl, rfl, trivial⟩ rfl (tl_stress X hnl hJw (by omega) lp1576)
                    have lp661 : tu_W T 661 [(0, tu_r 100), (1, tu_r 0), (2, tu_r 86), (3, tu_r 87), (4, tu_r 88), (5, tu_r 89), (6, tu_r 90), (7, tu_r 91), (8, tu_i ((i8 : Nat) : Int)), (9, tu_i y_78), (10, tu_i y_90), (11, tu_i kd), (12, tu_i ((l9 : Nat) : Int)), (13, tu_i ((p9 : Nat) : Int))] [] Mw := by
                        refine tu_iload 661 X 11 dL_law_661 rfl ?_
                        refine tu_iconst 663 X dL_law_663 ?_
                        refine tu_icmp_ne 664 X 812 dL_law_664 (by decide) (show tu_rg kd from by first | assumption | exact ⟨by omega, by omega⟩) ⟨by decide, by decide⟩ (fun br664 => ?_) (fun br664 => ?_)
                        ·
                          refine tu_jmp [0, 1, 2, 3, 4, 5, 6, 7, 8, 9, 10, 11, 12, 13] (lv' := [(0, tu_r 100), (1, tu_r 0), (2, tu_r 86), (3, tu_r 87), (4, tu_r 88), (5, tu_r 89), (6, tu_r 90), (7, tu_r 91), (8, tu_i ((i8 : Nat) : Int)), (9, tu_i y_78), (10, tu_i y_90), (11, tu_i kd), (12, tu_i ((l9 : Nat) : Int)), (13, tu_i ((p9 : Nat) : Int))]) ⟨rfl, rfl, rfl, rfl, rfl, rfl, rfl, rfl, rfl, rfl, rfl, rfl, rfl, rfl, trivial⟩ rfl (lp812 )
                        ·
                          refine tu_aload 667 X 6 dL_law_667 rfl ?_
                          refine tu_iconst 669 X dL_law_669 ?_
                          refine tu_iald 670 X (x := Mw 90 5) 5 dL_law_670 (by decide) rfl (by decide) rfl (by decide) rfl ?_
                          refine tu_tp (b := ((NP : Nat) : Int)) (by rw [hwM 90 (by decide), q4.2.1]; exact eP) ?_
                          refine tu_if_le 671 X 812 dL_law_671 (by decide) (show tu_rg ((NP : Nat) : Int) from by first | assumption | exact ⟨by omega, by omega⟩) (fun br671 => ?_) (fun br671 => ?_)
                          ·
                            refine tu_jmp [0, 1, 2, 3, 4, 5, 6, 7, 8, 9, 10, 11, 12, 13] (lv' := [(0, tu_r 100), (1, tu_r 0), (2, tu_r 86), (3, tu_r 87), (4, tu_r 88), (5, tu_r 89), (6, tu_r 90), (7, tu_r 91), (8, tu_i ((i8 : Nat) : Int)), (9, tu_i y_78), (10, tu_i y_90), (11, tu_i kd), (12, tu_i ((l9 : Nat) : Int)), (13, tu_i ((p9 : Nat) : Int))]) ⟨rfl, rfl, rfl, rfl, rfl, rfl, rfl, rfl, rfl, rfl, rfl, rfl, rfl, rfl, trivial⟩ rfl (lp812 )
                          ·
                            refine tu_iload 674 X 10 dL_law_674 rfl ?_
                            refine tu_iconst 676 X dL_law_676 ?_
                            refine tu_st_eq (show _ = [tu_i ((3 : Nat) : Int), tu_i y_90] from by first | rfl | (simp only [List.cons.injEq, Sum.inl.injEq, and_true, true_and]; omega)) rfl ?_
                            refine tu_callSI 677 X (st := []) (as := [tu_i y_90, tu_i ((3 : Nat) : Int)]) (c_L_low y_90 3 (show 0 < 3 ∧ 3 < 2147483648 from by decide)) ss_RL_61 dL_law_677 rfl (Nat.le_of_ble_eq_true rfl) ⟨by decide, by decide⟩ (fun z M' h => ?_)
                            obtain ⟨j_677, hM677, h677_0, hz677⟩ := h
                            refine tu_st_eq rfl (M' := Mw) hM677 ?_
                            refine tu_tp (b := ((j_677 : Nat) : Int)) hz677 ?_
                            refine tu_if_ne 680 X 812 dL_law_680 (by decide) (show tu_rg ((j_677 : Nat) : Int) from by first | assumption | exact ⟨by omega, by omega⟩) (fun br680 => ?_) (fun br680 => ?_)
                            ·
                              refine tu_jmp [0, 1, 2, 3, 4, 5, 6, 7, 8, 9, 10, 11, 12, 13] (lv' := [(0, tu_r 100), (1, tu_r 0), (2, tu_r 86), (3, tu_r 87), (4, tu_r 88), (5, tu_r 89), (6, tu_r 90), (7, tu_r 91), (8, tu_i ((i8 : Nat) : Int)), (9, tu_i y_78), (10, tu_i y_90), (11, tu_i kd), (12, tu_i ((l9 : Nat) : Int)), (13, tu_i ((p9 : Nat) : Int))]) ⟨rfl, rfl, rfl, rfl, rfl, rfl, rfl, rfl, rfl, rfl, rfl, rfl, rfl, rfl, trivial⟩ rfl (lp812 )
                            ·
                              refine tu_jmp [0, 1, 2, 3, 4, 5, 6, 7, 8, 10, 13] (lv' := [(0, tu_r 100), (1, tu_r 0), (2, tu_r 86), (3, tu_r 87), (4, tu_r 88), (5, tu_r 89), (6, tu_r 90), (7, tu_r 91), (8, tu_i ((i8 : Nat) : Int)), (10, tu_i y_90), (13, tu_i ((p9 : Nat) : Int))]) ⟨rfl, rfl, rfl, rfl, rfl, rfl, rfl, rfl, rfl, rfl, rfl, trivial⟩ rfl (tl_dropPhrase X hnl hJw (by omega) lp1576)
                    have lp510 : tu_W T 510 [(0, tu_r 100), (1, tu_r 0), (2, tu_r 86), (3, tu_r 87), (4, tu_r 88), (5, tu_r 89), (6, tu_r 90), (7, tu_r 91), (8, tu_i ((i8 : Nat) : Int)), (9, tu_i y_78), (10, tu_i y_90), (11, tu_i kd), (12, tu_i ((l9 : Nat) : Int)), (13, tu_i ((p9 : Nat) : Int))] [] Mw := by
                        refine tu_iload 510 X 11 dL_law_510 rfl ?_
                        refine tu_iconst 512 X dL_law_512 ?_
                        refine tu_icmp_ne 513 X 661 dL_law_513 (by decide) (show tu_rg kd from by first | assumption | exact ⟨by omega, by omega⟩) ⟨by decide, by decide⟩ (fun br513 => ?_) (fun br513 => ?_)
                        ·
                          refine tu_jmp [0, 1, 2, 3, 4, 5, 6, 7, 8, 9, 10, 11, 12, 13] (lv' := [(0, tu_r 100), (1, tu_r 0), (2, tu_r 86), (3, tu_r 87), (4, tu_r 88), (5, tu_r 89), (6, tu_r 90), (7, tu_r 91), (8, tu_i ((i8 : Nat) : Int)), (9, tu_i y_78), (10, tu_i y_90), (11, tu_i kd), (12, tu_i ((l9 : Nat) : Int)), (13, tu_i ((p9 : Nat) : Int))]) ⟨rfl, rfl, rfl, rfl, rfl, rfl, rfl, rfl, rfl, rfl, rfl, rfl, rfl, rfl, trivial⟩ rfl (lp661 )
                        ·
                          refine tu_aload 516 X 6 dL_law_516 rfl ?_
                          refine tu_iconst 518 X dL_law_518 ?_
                          refine tu_iald 519 X (x := Mw 90 4) 4 dL_law_519 (by decide) rfl (by decide) rfl (by decide) rfl ?_
                          refine tu_tp (b := ((NL : Nat) : Int)) (by rw [hwM 90 (by decide), q4.1]; exact eL) ?_
                          refine tu_if_le 520 X 661 dL_law_520 (by decide) (show tu_rg ((NL : Nat) : Int) from by first | assumption | exact ⟨by omega, by omega⟩) (fun br520 => ?_) (fun br520 => ?_)
                          ·
                            refine tu_jmp [0, 1, 2, 3, 4, 5, 6, 7, 8, 9, 10, 11, 12, 13] (lv' := [(0, tu_r 100), (1, tu_r 0), (2, tu_r 86), (3, tu_r 87), (4, tu_r 88), (5, tu_r 89), (6, tu_r 90), (7, tu_r 91), (8, tu_i ((i8 : Nat) : Int)), (9, tu_i y_78), (10, tu_i y_90), (11, tu_i kd), (12, tu_i ((l9 : Nat) : Int)), (13, tu_i ((p9 : Nat) : Int))]) ⟨rfl, rfl, rfl, rfl, rfl, rfl, rfl, rfl, rfl, rfl, rfl, rfl, rfl, rfl, trivial⟩ rfl (lp661 )
                          ·
                            refine tu_iload 523 X 10 dL_law_523 rfl ?_
                            refine tu_iconst 525 X dL_law_525 ?_
                            refine tu_st_eq (show _ = [tu_i ((3 : Nat) : Int), tu_i y_90] from by first | rfl | (simp only [List.cons.injEq, Sum.inl.injEq, and_true, true_and]; omega)) rfl ?_
                            refine tu_callSI 526 X (st := []) (as := [tu_i y_90, tu_i ((3 : Nat) : Int)]) (c_L_low y_90 3 (show 0 < 3 ∧ 3 < 2147483648 from by decide)) ss_RL_61 dL_law_526 rfl (Nat.le_of_ble_eq_true rfl) ⟨by decide, by decide⟩ (fun z M' h => ?_)
                            obtain ⟨j_526, hM526, h526_0, hz526⟩ := h
                            refine tu_st_eq rfl (M' := Mw) hM526 ?_
                            refine tu_tp (b := ((j_526 : Nat) : Int)) hz526 ?_
                            refine tu_if_ne 529 X 661 dL_law_529 (by decide) (show tu_rg ((j_526 : Nat) : Int) from by first | assumption | exact ⟨by omega, by omega⟩) (fun br529 => ?_) (fun br529 => ?_)
                            ·
                              refine tu_jmp [0, 1, 2, 3, 4, 5, 6, 7, 8, 9, 10, 11, 12, 13] (lv' := [(0, tu_r 100), (1, tu_r 0), (2, tu_r 86), (3, tu_r 87), (4, tu_r 88), (5, tu_r 89), (6, tu_r 90), (7, tu_r 91), (8, tu_i ((i8 : Nat) : Int)), (9, tu_i y_78), (10, tu_i y_90), (11, tu_i kd), (12, tu_i ((l9 : Nat) : Int)), (13, tu_i ((p9 : Nat) : Int))]) ⟨rfl, rfl, rfl, rfl, rfl, rfl, rfl, rfl, rfl, rfl, rfl, rfl, rfl, rfl, trivial⟩ rfl (lp661 )
                            ·
                              refine tu_jmp [0, 1, 2, 3, 4, 5, 6, 7, 8, 10, 12] (lv' := [(0, tu_r 100), (1, tu_r 0), (2, tu_r 86), (3, tu_r 87), (4, tu_r 88), (5, tu_r 89), (6, tu_r 90), (7, tu_r 91), (8, tu_i ((i8 : Nat) : Int)), (10, tu_i y_90), (12, tu_i ((l9 : Nat) : Int))]) ⟨rfl, rfl, rfl, rfl, rfl, rfl, rfl, rfl, rfl, rfl, rfl, trivial⟩ rfl (tl_dropLine X hnl hJw (by omega) lp1576)
                    have lp308 : tu_W T 308 [(0, tu_r 100), (1, tu_r 0), (2, tu_r 86), (3, tu_r 87), (4, tu_r 88), (5, tu_r 89), (6, tu_r 90), (7, tu_r 91), (8, tu_i ((i8 : Nat) : Int)), (9, tu_i y_78), (10, tu_i y_90), (11, tu_i kd), (12, tu_i ((l9 : Nat) : Int)), (13, tu_i ((p9 : Nat) : Int))] [] Mw := by
                        refine tu_iload 308 X 11 dL_law_308 rfl ?_
                        refine tu_iconst 310 X dL_law_310 ?_
                        refine tu_icmp_ne 311 X 510 dL_law_311 (by decide) (show tu_rg kd from by first | assumption | exact ⟨by omega, by omega⟩) ⟨by decide, by decide⟩ (fun br311 => ?_) (fun br311 => ?_)
                        ·
                          refine tu_jmp [0, 1, 2, 3, 4, 5, 6, 7, 8, 9, 10, 11, 12, 13] (lv' := [(0, tu_r 100), (1, tu_r 0), (2, tu_r 86), (3, tu_r 87), (4, tu_r 88), (5, tu_r 89), (6, tu_r 90), (7, tu_r 91), (8, tu_i ((i8 : Nat) : Int)), (9, tu_i y_78), (10, tu_i y_90), (11, tu_i kd), (12, tu_i ((l9 : Nat) : Int)), (13, tu_i ((p9 : Nat) : Int))]) ⟨rfl, rfl, rfl, rfl, rfl, rfl, rfl, rfl, rfl, rfl, rfl, rfl, rfl, rfl, trivial⟩ rfl (lp510 )
                        ·
                          refine tu_aload 314 X 6 dL_law_314 rfl ?_
                          refine tu_iconst 316 X dL_law_316 ?_
                          refine tu_iald 317 X (x := Mw 90 5) 5 dL_law_317 (by decide) rfl (by decide) rfl (by decide) rfl ?_
                          refine tu_tp (b := ((NP : Nat) : Int)) (by rw [hwM 90 (by decide), q4.2.1]; exact eP) ?_
                          refine tu_iconst 318 X dL_law_318 ?_
                          refine tu_icmp_ge 319 X 510 dL_law_319 (by decide) (show tu_rg ((NP : Nat) : Int) from by first | assumption | exact ⟨by omega, by omega⟩) ⟨by decide, by decide⟩ (fun br319 => ?_) (fun br319 => ?_)
                          ·
                            refine tu_jmp [0, 1, 2, 3, 4, 5, 6, 7, 8, 9, 10, 11, 12, 13] (lv' := [(0, tu_r 100), (1, tu_r 0), (2, tu_r 86), (3, tu_r 87), (4, tu_r 88), (5, tu_r 89), (6, tu_r 90), (7, tu_r 91), (8, tu_i ((i8 : Nat) : Int)), (9, tu_i y_78), (10, tu_i y_90), (11, tu_i kd), (12, tu_i ((l9 : Nat) : Int)), (13, tu_i ((p9 : Nat) : Int))]) ⟨rfl, rfl, rfl, rfl, rfl, rfl, rfl, rfl, rfl, rfl, rfl, rfl, rfl, rfl, trivial⟩ rfl (lp510 )
                          ·
                            refine tu_jmp [0, 1, 2, 3, 4, 5, 6, 7, 8, 10] (lv' := [(0, tu_r 100), (1, tu_r 0), (2, tu_r 86), (3, tu_r 87), (4, tu_r 88), (5, tu_r 89), (6, tu_r 90), (7, tu_r 91), (8, tu_i ((i8 : Nat) : Int)), (10, tu_i y_90)]) ⟨rfl, rfl, rfl, rfl, rfl, rfl, rfl, rfl, rfl, rfl, trivial⟩ rfl (tl_phr X hnl hJw hw0 (by omega) lp1576)
                    refine tu_iload 170 X 12 dL_law_170 rfl ?_
                    refine tu_if_ne 172 X 308 dL_law_172 (by decide) (show tu_rg kd from by first | assumption | exact ⟨by omega, by omega⟩) (fun br172 => ?_) (fun br172 => ?_)
                    ·
                      refine tu_jmp [1, 2, 3, 4, 5, 6, 7, 8, 9, 10, 11, 12, 13, 0] (lv' := [(0, tu_r 100), (1, tu_r 0), (2, tu_r 86), (3, tu_r 87), (4, tu_r 88), (5, tu_r 89), (6, tu_r 90), (7, tu_r 91), (8, tu_i ((i8 : Nat) : Int)), (9, tu_i y_78), (10, tu_i y_90), (11, tu_i kd), (12, tu_i ((l9 : Nat) : Int)), (13, tu_i ((p9 : Nat) : Int))]) ⟨rfl, rfl, rfl, rfl, rfl, rfl, rfl, rfl, rfl, rfl, rfl, rfl, rfl, rfl, trivial⟩ rfl (lp308 )
                    ·
                      refine tu_aload 175 X 7 dL_law_175 rfl ?_
                      refine tu_iconst 177 X dL_law_177 ?_
                      refine tu_iald 178 X (x := Mw 90 4) 4 dL_law_178 (by decide) rfl (by decide) rfl (by decide) rfl ?_
                      refine tu_tp (b := ((NL : Nat) : Int)) (by rw [hwM 90 (by decide), q4.1]; exact eL) ?_
                      refine tu_bipush 179 X dL_law_179 (by decide) ?_
                      refine tu_icmp_ge 181 X 308 dL_law_181 (by decide) (show tu_rg ((NL : Nat) : Int) from by first | assumption | exact ⟨by omega, by omega⟩) ⟨by decide, by decide⟩ (fun br181 => ?_) (fun br181 => ?_)
                      ·
                        refine tu_jmp [1, 2, 3, 4, 5, 6, 7, 8, 9, 10, 11, 12, 13, 0] (lv' := [(0, tu_r 100), (1, tu_r 0), (2, tu_r 86), (3, tu_r 87), (4, tu_r 88), (5, tu_r 89), (6, tu_r 90), (7, tu_r 91), (8, tu_i ((i8 : Nat) : Int)), (9, tu_i y_78), (10, tu_i y_90), (11, tu_i kd), (12, tu_i ((l9 : Nat) : Int)), (13, tu_i ((p9 : Nat) : Int))]) ⟨rfl, rfl, rfl, rfl, rfl, rfl, rfl, rfl, rfl, rfl, rfl, rfl, rfl, rfl, trivial⟩ rfl (lp308 )
                      ·
                        refine tu_jmp [1, 2, 3, 4, 5, 6, 7, 8, 9, 11] (lv' := [(0, tu_r 100), (1, tu_r 0), (2, tu_r 86), (3, tu_r 87), (4, tu_r 88), (5, tu_r 89), (6, tu_r 90), (7, tu_r 91), (8, tu_i ((i8 : Nat) : Int)), (10, tu_i y_90)]) ⟨rfl, rfl, rfl, rfl, rfl, rfl, rfl, rfl, rfl, rfl, trivial⟩ rfl (tl_line X hnl hJw hw0 (by omega) lp1576)
                refine tu_aload 141 X 7 dL_law_141 rfl ?_
                refine tu_iconst 143 X dL_law_143 ?_
                refine tu_iald 144 X (x := Ma 90 5) 5 dL_law_144 (by decide) rfl (by decide) rfl (by decide) rfl ?_
                refine tu_tp (b := ((NP : Nat) : Int)) (by rw [q4.2.1]; exact eP) ?_
                refine tu_if_ne 145 X 152 dL_law_145 (by decide) (show tu_rg ((NP : Nat) : Int) from by first | assumption | exact ⟨by omega, by omega⟩) (fun br145 => ?_) (fun br145 => ?_)
                ·
                  refine tu_iload 152 X 10 dL_law_152 rfl ?_
                  refine tu_iconst 154 X dL_law_154 ?_
                  refine tu_ishr 155 X dL_law_155 ?_
                  refine tu_aload 156 X 7 dL_law_156 rfl ?_
                  refine tu_iconst 158 X dL_law_158 ?_
                  refine tu_iald 159 X (x := Ma 90 5) 5 dL_law_159 (by decide) rfl (by decide) rfl (by decide) rfl ?_
                  refine tu_tp (b := ((NP : Nat) : Int)) (by rw [q4.2.1]; exact eP) ?_
                  refine tu_callSI 160 X (st := []) (as := [tu_i (tu_shr y_78 4), tu_i ((NP : Nat) : Int)]) (c_L_low (tu_shr y_78 4) NP (show 0 < NP ∧ NP < 2147483648 from by omega)) ss_RL_61 dL_law_160 rfl (Nat.le_of_ble_eq_true rfl) ⟨by decide, by decide⟩ (fun z M' h => ?_)
                  obtain ⟨j_160, hM160, h160_0, hz160⟩ := h
                  refine tu_st_eq rfl (M' := Ma) hM160 ?_
                  refine tu_tp (b := ((j_160 : Nat) : Int)) hz160 ?_
                  refine tu_jmp [1, 2, 3, 4, 5, 6, 7, 8, 9, 10, 11, 12, 0] (lv' := [(0, tu_r 100), (1, tu_r 0), (2, tu_r 86), (3, tu_r 87), (4, tu_r 88), (5, tu_r 89), (6, tu_r 90), (7, tu_r 91), (8, tu_i ((i8 : Nat) : Int)), (9, tu_i y_78), (10, tu_i y_90), (11, tu_i kd), (12, tu_i ((l9 : Nat) : Int))]) ⟨rfl, rfl, rfl, rfl, rfl, rfl, rfl, rfl, rfl, rfl, rfl, rfl, rfl, trivial⟩ rfl (lp163 j_160 (by omega))
                ·
                  refine tu_iconst 148 X dL_law_148 ?_
                  refine tu_goto 149 X 163 dL_law_149 (by decide) ?_
                  refine tu_jmp [1, 2, 3, 4, 5, 6, 7, 8, 9, 10, 11, 12, 0] (lv' := [(0, tu_r 100), (1, tu_r 0), (2, tu_r 86), (3, tu_r 87), (4, tu_r 88), (5, tu_r 89), (6, tu_r 90), (7, tu_r 91), (8, tu_i ((i8 : Nat) : Int)), (9, tu_i y_78), (10, tu_i y_90), (11, tu_i kd), (12, tu_i ((l9 : Nat) : Int))]) ⟨rfl, rfl, rfl, rfl, rfl, rfl, rfl, rfl, rfl, rfl, rfl, rfl, rfl, trivial⟩ rfl (lp163 0 (by omega))
            refine tu_aload 117 X 7 dL_law_117 rfl ?_
            refine tu_iconst 119 X dL_law_119 ?_
            refine tu_iald 120 X (x := Ma 90 4) 4 dL_law_120 (by decide) rfl (by decide) rfl (by decide) rfl ?_
            refine tu_tp (b := ((NL : Nat) : Int)) (by rw [q4.1]; exact eL) ?_
            refine tu_if_ne 121 X 128 dL_law_121 (by decide) (show tu_rg ((NL : Nat) : Int) from by first | assumption | exact ⟨by omega, by omega⟩) (fun br121 => ?_) (fun br121 => ?_)
            ·
              refine tu_iload 128 X 10 dL_law_128 rfl ?_
              refine tu_iconst 130 X dL_law_130 ?_
              refine tu_ishr 131 X dL_law_131 ?_
              refine tu_aload 132 X 7 dL_law_132 rfl ?_
              refine tu_iconst 134 X dL_law_134 ?_
              refine tu_iald 135 X (x := Ma 90 4) 4 dL_law_135 (by decide) rfl (by decide) rfl (by decide) rfl ?_
              refine tu_tp (b := ((NL : Nat) : Int)) (by rw [q4.1]; exact eL) ?_
              refine tu_callSI 136 X (st := []) (as := [tu_i (tu_shr y_78 4), tu_i ((NL : Nat) : Int)]) (c_L_low (tu_shr y_78 4) NL (show 0 < NL ∧ NL < 2147483648 from by omega)) ss_RL_61 dL_law_136 rfl (Nat.le_of_ble_eq_true rfl) ⟨by decide, by decide⟩ (fun z M' h => ?_)
              obtain ⟨j_136, hM136, h136_0, hz136⟩ := h
              refine tu_st_eq rfl (M' := Ma) hM136 ?_
              refine tu_tp (b := ((j_136 : Nat) : Int)) hz136 ?_
              refine tu_jmp [1, 2, 3, 4, 5, 6, 7, 8, 9, 10, 11, 0] (lv' := [(0, tu_r 100), (1, tu_r 0), (2, tu_r 86), (3, tu_r 87), (4, tu_r 88), (5, tu_r 89), (6, tu_r 90), (7, tu_r 91), (8, tu_i ((i8 : Nat) : Int)), (9, tu_i y_78), (10, tu_i y_90), (11, tu_i kd)]) ⟨rfl, rfl, rfl, rfl, rfl, rfl, rfl, rfl, rfl, rfl, rfl, rfl, trivial⟩ rfl (lp139 j_136 (by omega))
            ·
              refine tu_iconst 124 X dL_law_124 ?_
              refine tu_goto 125 X 139 dL_law_125 (by decide) ?_
              refine tu_jmp [1, 2, 3, 4, 5, 6, 7, 8, 9, 10, 11, 0] (lv' := [(0, tu_r 100), (1, tu_r 0), (2, tu_r 86), (3, tu_r 87), (4, tu_r 88), (5, tu_r 89), (6, tu_r 90), (7, tu_r 91), (8, tu_i ((i8 : Nat) : Int)), (9, tu_i y_78), (10, tu_i y_90), (11, tu_i kd)]) ⟨rfl, rfl, rfl, rfl, rfl, rfl, rfl, rfl, rfl, rfl, rfl, rfl, trivial⟩ rfl (lp139 0 (by omega))
        refine tu_iload 95 X 10 dL_law_95 rfl ?_
        refine tu_iconst 97 X dL_law_97 ?_
        refine tu_icmp_ge 98 X 108 dL_law_98 (by decide) (show tu_rg ((i8 : Nat) : Int) from by first | assumption | exact ⟨by omega, by omega⟩) ⟨by decide, by decide⟩ (fun br98 => ?_) (fun br98 => ?_)
        ·
          refine tu_iload 108 X 1 dL_law_108 rfl ?_
          refine tu_bipush 110 X dL_law_110 (by decide) ?_
          refine tu_st_eq (show _ = [tu_i ((14 : Nat) : Int), tu_i y_78] from by first | rfl | (simp only [List.cons.injEq, Sum.inl.injEq, and_true, true_and]; omega)) rfl ?_
          refine tu_callSI 112 X (st := []) (as := [tu_i y_78, tu_i ((14 : Nat) : Int)]) (c_L_low y_78 14 (show 0 < 14 ∧ 14 < 2147483648 from by decide)) ss_RL_61 dL_law_112 rfl (Nat.le_of_ble_eq_true rfl) ⟨by decide, by decide⟩ (fun z M' h => ?_)
          obtain ⟨j_112, hM112, h112_0, hz112⟩ := h
          refine tu_st_eq rfl (M' := Ma) hM112 ?_
          refine tu_tp (b := ((j_112 : Nat) : Int)) hz112 ?_
          refine tu_jmp [2, 3, 4, 5, 6, 7, 8, 9, 10, 1, 0] (lv' := [(0, tu_r 100), (1, tu_r 0), (2, tu_r 86), (3, tu_r 87), (4, tu_r 88), (5, tu_r 89), (6, tu_r 90), (7, tu_r 91), (8, tu_i ((i8 : Nat) : Int)), (9, tu_i y_78), (10, tu_i y_90)]) ⟨rfl, rfl, rfl, rfl, rfl, rfl, rfl, rfl, rfl, rfl, rfl, trivial⟩ rfl (lp115 ((j_112 : Nat) : Int) (by omega))
        ·
          refine tu_iload 101 X 10 dL_law_101 rfl ?_
          refine tu_iconst 103 X dL_law_103 ?_
          refine tu_irem 104 X dL_law_104 ⟨by decide, by decide⟩ (by decide) ?_
          refine tu_tp (b := ((i8 % 2 : Nat) : Int)) (by exact tu_rem_n (by omega) (by decide) (by decide)) ?_
          refine tu_goto 105 X 115 dL_law_105 (by decide) ?_
          refine tu_jmp [2, 3, 4, 5, 6, 7, 8, 9, 10, 1, 0] (lv' := [(0, tu_r 100), (1, tu_r 0), (2, tu_r 86), (3, tu_r 87), (4, tu_r 88), (5, tu_r 89), (6, tu_r 90), (7, tu_r 91), (8, tu_i ((i8 : Nat) : Int)), (9, tu_i y_78), (10, tu_i y_90)]) ⟨rfl, rfl, rfl, rfl, rfl, rfl, rfl, rfl, rfl, rfl, rfl, trivial⟩ rfl (lp115 ((i8 % 2 : Nat) : Int) (by omega))
  refine tu_jmp [1, 2, 3, 4, 5, 6, 7, 8, 0] (lv' := [(0, tu_r 100), (1, tu_r 0), (2, tu_r 86), (3, tu_r 87), (4, tu_r 88), (5, tu_r 89), (6, tu_r 90), (7, tu_r 91), (8, tu_i 0)]) ⟨rfl, rfl, rfl, rfl, rfl, rfl, rfl, rfl, rfl, trivial⟩ rfl (lp66 ((22 - 0) + 1) 0 M (by omega) (by exact hJ) (by omega))
