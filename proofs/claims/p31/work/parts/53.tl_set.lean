set_option maxRecDepth 20000 in
set_option maxHeartbeats 1000000 in
theorem tl_set {T : tu_T} (X : tu_X T cL_law RL 9 344) (hnl : T.2.2.2.2.2.2.2.2.2.2.1 = 18) {M : tu_M} (hJ : tz_J M) {i8 : Nat} {y8 : Int}   (lp1576 : ∀ (Mz : tu_M), (tz_J Mz) → tu_W T 1576 [(0, tu_r 100), (1, tu_r 0), (2, tu_r 86), (3, tu_r 87), (4, tu_r 88), (5, tu_r 89), (6, tu_r 90), (7, tu_r 91), (8, tu_i ((i8 : Nat) : Int)), (10, tu_i y8)] [] Mz) : tu_W T 1495 [(0, tu_r 100), (1, tu_r 0), (2, tu_r 86), (3, tu_r 87), (4, tu_r 88), (5, tu_r 89), (6, tu_r 90), (7, tu_r 91), (8, tu_i ((i8 : Nat) : Int)), (10, tu_i y8)] [] M := by
  have hR := hJ.1
  have hB := hR.ok
  have cn := hB.cnt
  have hsm := hR.small
  have q4 := hR.q4
  have hqs := hR.qs
  obtain ⟨NL, eL⟩ : ∃ c : Nat, M 1 1 = (c : Int) := ⟨(M 1 1).toNat, by omega⟩
  obtain ⟨NP, eP⟩ : ∃ c : Nat, M 1 4 = (c : Int) := ⟨(M 1 4).toNat, by omega⟩
  obtain ⟨NB, eB⟩ : ∃ c : Nat, M 1 7 = (c : Int) := ⟨(M 1 7).toNat, by omega⟩
  obtain ⟨NT, eT⟩ : ∃ c : Nat, M 1 9 = (c : Int) := ⟨(M 1 9).toNat, by omega⟩
  refine tu_iload 1495 X 9 dL_law_1495 rfl ?_
  refine tu_iconst 1497 X dL_law_1497 ?_
  refine tu_st_eq (show _ = [tu_i ((4 : Nat) : Int), tu_i y8] from by first | rfl | (simp only [List.cons.injEq, Sum.inl.injEq, and_true, true_and]; omega)) rfl ?_
  refine tu_callSI 1498 X (st := []) (as := [tu_i y8, tu_i ((4 : Nat) : Int)]) (c_L_low y8 4 (show 0 < 4 ∧ 4 < 2147483648 from by first | assumption | omega | exact ⟨by omega, by omega⟩ | decide)) ss_RL_61 dL_law_1498 rfl (Nat.le_of_ble_eq_true rfl) ⟨by decide, by decide⟩ (fun z M' h => ?_)
  obtain ⟨j_1498, hM1498, h1498_0, hz1498⟩ := h
  refine tu_st_eq rfl (M' := M) hM1498 ?_
  refine tu_tp (b := ((j_1498 : Nat) : Int)) hz1498 ?_
  refine tu_istore 1501 X (lv' := [(14, tu_i ((j_1498 : Nat) : Int)), (0, tu_r 100), (1, tu_r 0), (2, tu_r 86), (3, tu_r 87), (4, tu_r 88), (5, tu_r 89), (6, tu_r 90), (7, tu_r 91), (8, tu_i ((i8 : Nat) : Int)), (10, tu_i y8)]) dL_law_1501 (by rw [hnl]; decide) rfl ?_
  refine tu_iload 1503 X 0 dL_law_1503 rfl ?_
  refine tu_if_ne 1505 X 1522 dL_law_1505 (by decide) (show tu_rg ((j_1498 : Nat) : Int) from by first | assumption | exact ⟨by omega, by omega⟩) (fun br1505 => ?_) (fun br1505 => ?_)
  ·
    refine tu_iload 1522 X 0 dL_law_1522 rfl ?_
    refine tu_iconst 1524 X dL_law_1524 ?_
    refine tu_icmp_ne 1525 X 1540 dL_law_1525 (by decide) (show tu_rg ((j_1498 : Nat) : Int) from by first | assumption | exact ⟨by omega, by omega⟩) ⟨by decide, by decide⟩ (fun br1525 => ?_) (fun br1525 => ?_)
    ·
      refine tu_iload 1540 X 10 dL_law_1540 rfl ?_
      refine tu_iconst 1542 X dL_law_1542 ?_
      refine tu_ishr 1543 X dL_law_1543 ?_
      refine tu_bipush 1544 X dL_law_1544 (by decide) ?_
      refine tu_st_eq (show _ = [tu_i ((10 : Nat) : Int), tu_i (tu_shr y8 3)] from by first | rfl | (simp only [List.cons.injEq, Sum.inl.injEq, and_true, true_and]; omega)) rfl ?_
      refine tu_callSI 1546 X (st := []) (as := [tu_i (tu_shr y8 3), tu_i ((10 : Nat) : Int)]) (c_L_low (tu_shr y8 3) 10 (show 0 < 10 ∧ 10 < 2147483648 from by first | assumption | omega | exact ⟨by omega, by omega⟩ | decide)) ss_RL_61 dL_law_1546 rfl (Nat.le_of_ble_eq_true rfl) ⟨by decide, by decide⟩ (fun z M' h => ?_)
      obtain ⟨j_1546, hM1546, h1546_0, hz1546⟩ := h
      refine tu_st_eq rfl (M' := M) hM1546 ?_
      refine tu_tp (b := ((j_1546 : Nat) : Int)) hz1546 ?_
      refine tu_istore 1549 X (lv' := [(15, tu_i ((j_1546 : Nat) : Int)), (14, tu_i ((j_1498 : Nat) : Int)), (0, tu_r 100), (1, tu_r 0), (2, tu_r 86), (3, tu_r 87), (4, tu_r 88), (5, tu_r 89), (6, tu_r 90), (7, tu_r 91), (8, tu_i ((i8 : Nat) : Int)), (10, tu_i y8)]) dL_law_1549 (by rw [hnl]; decide) rfl ?_
      refine tu_aload_n 1551 X 3 dL_law_1551 rfl ?_
      refine tu_iload 1552 X 1 dL_law_1552 rfl ?_
      refine tu_iload 1554 X 0 dL_law_1554 rfl ?_
      refine tu_callVI 1556 X (st := []) (as := [tu_i ((j_1498 : Nat) : Int), tu_i ((j_1546 : Nat) : Int)]) (c_X3_set ((j_1498 : Nat) : Int) ((j_1546 : Nat) : Int) (show tu_HS M from by exact hJ.2) (show tu_rg ((j_1498 : Nat) : Int) from by first | assumption | omega | exact ⟨by omega, by omega⟩ | decide) (show tu_rg ((j_1546 : Nat) : Int) from by first | assumption | omega | exact ⟨by omega, by omega⟩ | decide)) sv_RL_126 dL_law_1556 rfl (by decide) rfl rfl rfl (Nat.le_of_ble_eq_true rfl) ⟨by decide, by decide⟩ (fun z N1556 h => ?_)
      obtain ⟨y_1556, h1556_0, hz1556⟩ := h
      refine tu_tp (b := y_1556) hz1556 ?_
      obtain ⟨hy1, e8, hJ2⟩ := tz_set hJ (a := j_1498) (by omega) (tz_f12 (by omega)) h1556_0
      have e90 := e8 90 (by decide)
      have hst := hB.set
      have hv2 : -100 ≤ M 2 j_1498 ∧ M 2 j_1498 ≤ 100 := by
        rcases (show j_1498 = 0 ∨ j_1498 = 1 ∨ j_1498 = 2 ∨ j_1498 = 3 by omega) with e | e | e | e <;> rw [e] <;> omega
      refine tu_aload 1559 X 8 dL_law_1559 rfl ?_
      refine tu_iload 1561 X 1 dL_law_1561 rfl ?_
      refine tu_iald 1563 X (x := N1556 90 j_1498) j_1498 dL_law_1563 (by decide) rfl (by decide) (by omega) (by omega) rfl ?_
      refine tu_tp (b := (M 2 j_1498)) (by rw [e90]; exact hqs _ (by omega)) ?_
      refine tu_icmp_eq 1564 X 1569 dL_law_1564 (by decide) (show tu_rg y_1556 from by first | assumption | exact ⟨by omega, by omega⟩) (show tu_rg (M 2 j_1498) from by first | assumption | exact ⟨by omega, by omega⟩) (fun br1564 => ?_) (fun br1564 => ?_)
      ·
        refine tu_aload 1569 X 8 dL_law_1569 rfl ?_
        refine tu_iload 1571 X 1 dL_law_1571 rfl ?_
        refine tu_iload 1573 X 0 dL_law_1573 rfl ?_
        refine tu_iast 1575 X (M' := tu_row N1556 90 (tu_u (N1556 90) j_1498 ((j_1546 : Nat) : Int))) j_1498 dL_law_1575 (by decide) rfl (by decide) (by omega) (by omega) rfl ?_
        refine tu_jmp [2, 3, 4, 5, 6, 7, 8, 9, 10, 11] (lv' := [(0, tu_r 100), (1, tu_r 0), (2, tu_r 86), (3, tu_r 87), (4, tu_r 88), (5, tu_r 89), (6, tu_r 90), (7, tu_r 91), (8, tu_i ((i8 : Nat) : Int)), (10, tu_i y8)]) ⟨rfl, rfl, rfl, rfl, rfl, rfl, rfl, rfl, rfl, rfl, trivial⟩ rfl (lp1576 (tu_row N1556 90 (tu_u (N1556 90) j_1498 ((j_1546 : Nat) : Int))) (by first | exact hJ2 | (rw [e90]; exact hJ2)))
      ·
        exfalso; omega
    ·
      refine tu_iload 1528 X 10 dL_law_1528 rfl ?_
      refine tu_iconst 1530 X dL_law_1530 ?_
      refine tu_ishr 1531 X dL_law_1531 ?_
      refine tu_bipush 1532 X dL_law_1532 (by decide) ?_
      refine tu_st_eq (show _ = [tu_i ((21 : Nat) : Int), tu_i (tu_shr y8 3)] from by first | rfl | (simp only [List.cons.injEq, Sum.inl.injEq, and_true, true_and]; omega)) rfl ?_
      refine tu_callSI 1534 X (st := []) (as := [tu_i (tu_shr y8 3), tu_i ((21 : Nat) : Int)]) (c_L_low (tu_shr y8 3) 21 (show 0 < 21 ∧ 21 < 2147483648 from by first | assumption | omega | exact ⟨by omega, by omega⟩ | decide)) ss_RL_61 dL_law_1534 rfl (Nat.le_of_ble_eq_true rfl) ⟨by decide, by decide⟩ (fun z M' h => ?_)
      obtain ⟨j_1534, hM1534, h1534_0, hz1534⟩ := h
      refine tu_st_eq rfl (M' := M) hM1534 ?_
      refine tu_tp (b := ((j_1534 : Nat) : Int)) hz1534 ?_
      refine tu_goto 1537 X 1549 dL_law_1537 (by decide) ?_
      refine tu_istore 1549 X (lv' := [(15, tu_i ((j_1534 : Nat) : Int)), (14, tu_i ((j_1498 : Nat) : Int)), (0, tu_r 100), (1, tu_r 0), (2, tu_r 86), (3, tu_r 87), (4, tu_r 88), (5, tu_r 89), (6, tu_r 90), (7, tu_r 91), (8, tu_i ((i8 : Nat) : Int)), (10, tu_i y8)]) dL_law_1549 (by rw [hnl]; decide) rfl ?_
      refine tu_aload_n 1551 X 3 dL_law_1551 rfl ?_
      refine tu_iload 1552 X 1 dL_law_1552 rfl ?_
      refine tu_iload 1554 X 0 dL_law_1554 rfl ?_
      refine tu_callVI 1556 X (st := []) (as := [tu_i ((j_1498 : Nat) : Int), tu_i ((j_1534 : Nat) : Int)]) (c_X3_set ((j_1498 : Nat) : Int) ((j_1534 : Nat) : Int) (show tu_HS M from by exact hJ.2) (show tu_rg ((j_1498 : Nat) : Int) from by first | assumption | omega | exact ⟨by omega, by omega⟩ | decide) (show tu_rg ((j_1534 : Nat) : Int) from by first | assumption | omega | exact ⟨by omega, by omega⟩ | decide)) sv_RL_126 dL_law_1556 rfl (by decide) rfl rfl rfl (Nat.le_of_ble_eq_true rfl) ⟨by decide, by decide⟩ (fun z N1556 h => ?_)
      obtain ⟨y_1556, h1556_0, hz1556⟩ := h
      refine tu_tp (b := y_1556) hz1556 ?_
      obtain ⟨hy1, e8, hJ2⟩ := tz_set hJ (a := j_1498) (by omega) (tz_f12 (by omega)) h1556_0
      have e90 := e8 90 (by decide)
      have hst := hB.set
      have hv2 : -100 ≤ M 2 j_1498 ∧ M 2 j_1498 ≤ 100 := by
        rcases (show j_1498 = 0 ∨ j_1498 = 1 ∨ j_1498 = 2 ∨ j_1498 = 3 by omega) with e | e | e | e <;> rw [e] <;> omega
      refine tu_aload 1559 X 8 dL_law_1559 rfl ?_
      refine tu_iload 1561 X 1 dL_law_1561 rfl ?_
      refine tu_iald 1563 X (x := N1556 90 j_1498) j_1498 dL_law_1563 (by decide) rfl (by decide) (by omega) (by omega) rfl ?_
      refine tu_tp (b := (M 2 j_1498)) (by rw [e90]; exact hqs _ (by omega)) ?_
      refine tu_icmp_eq 1564 X 1569 dL_law_1564 (by decide) (show tu_rg y_1556 from by first | assumption | exact ⟨by omega, by omega⟩) (show tu_rg (M 2 j_1498) from by first | assumption | exact ⟨by omega, by omega⟩) (fun br1564 => ?_) (fun br1564 => ?_)
      ·
        refine tu_aload 1569 X 8 dL_law_1569 rfl ?_
        refine tu_iload 1571 X 1 dL_law_1571 rfl ?_
        refine tu_iload 1573 X 0 dL_law_1573 rfl ?_
        refine tu_iast 1575 X (M' := tu_row N1556 90 (tu_u (N1556 90) j_1498 ((j_1534 : Nat) : Int))) j_1498 dL_law_1575 (by decide) rfl (by decide) (by omega) (by omega) rfl ?_
        refine tu_jmp [2, 3, 4, 5, 6, 7, 8, 9, 10, 11] (lv' := [(0, tu_r 100), (1, tu_r 0), (2, tu_r 86), (3, tu_r 87), (4, tu_r 88), (5, tu_r 89), (6, tu_r 90), (7, tu_r 91), (8, tu_i ((i8 : Nat) : Int)), (10, tu_i y8)]) ⟨rfl, rfl, rfl, rfl, rfl, rfl, rfl, rfl, rfl, rfl, trivial⟩ rfl (lp1576 (tu_row N1556 90 (tu_u (N1556 90) j_1498 ((j_1534 : Nat) : Int))) (by first | exact hJ2 | (rw [e90]; exact hJ2)))
      ·
        exfalso; omega
  ·
    refine tu_iconst 1508 X dL_law_1508 ?_
    refine tu_iload 1509 X 10 dL_law_1509 rfl ?_
    refine tu_iconst 1511 X dL_law_1511 ?_
    refine tu_ishr 1512 X dL_law_1512 ?_
    refine tu_bipush 1513 X dL_law_1513 (by decide) ?_
    refine tu_st_eq (show _ = [tu_i ((8 : Nat) : Int), tu_i (tu_shr y8 3), tu_i 1] from by first | rfl | (simp only [List.cons.injEq, Sum.inl.injEq, and_true, true_and]; omega)) rfl ?_
    refine tu_callSI 1515 X (st := [tu_i 1]) (as := [tu_i (tu_shr y8 3), tu_i ((8 : Nat) : Int)]) (c_L_low (tu_shr y8 3) 8 (show 0 < 8 ∧ 8 < 2147483648 from by first | assumption | omega | exact ⟨by omega, by omega⟩ | decide)) ss_RL_61 dL_law_1515 rfl (Nat.le_of_ble_eq_true rfl) ⟨by decide, by decide⟩ (fun z M' h => ?_)
    obtain ⟨j_1515, hM1515, h1515_0, hz1515⟩ := h
    refine tu_st_eq rfl (M' := M) hM1515 ?_
    refine tu_tp (b := ((j_1515 : Nat) : Int)) hz1515 ?_
    refine tu_iadd 1518 X dL_law_1518 ?_
    refine tu_goto 1519 X 1549 dL_law_1519 (by decide) ?_
    refine tu_istore 1549 X (lv' := [(15, tu_i (1 + ((j_1515 : Nat) : Int))), (14, tu_i ((j_1498 : Nat) : Int)), (0, tu_r 100), (1, tu_r 0), (2, tu_r 86), (3, tu_r 87), (4, tu_r 88), (5, tu_r 89), (6, tu_r 90), (7, tu_r 91), (8, tu_i ((i8 : Nat) : Int)), (10, tu_i y8)]) dL_law_1549 (by rw [hnl]; decide) rfl ?_
    refine tu_aload_n 1551 X 3 dL_law_1551 rfl ?_
    refine tu_iload 1552 X 1 dL_law_1552 rfl ?_
    refine tu_iload 1554 X 0 dL_law_1554 rfl ?_
    refine tu_callVI 1556 X (st := []) (as := [tu_i ((j_1498 : Nat) : Int), tu_i (1 + ((j_1515 : Nat) : Int))]) (c_X3_set ((j_1498 : Nat) : Int) (1 + ((j_1515 : Nat) : Int)) (show tu_HS M from by exact hJ.2) (show tu_rg ((j_1498 : Nat) : Int) from by first | assumption | omega | exact ⟨by omega, by omega⟩ | decide) (show tu_rg (1 + ((j_1515 : Nat) : Int)) from by first | assumption | omega | exact ⟨by omega, by omega⟩ | decide)) sv_RL_126 dL_law_1556 rfl (by decide) rfl rfl rfl (Nat.le_of_ble_eq_true rfl) ⟨by decide, by decide⟩ (fun z N1556 h => ?_)
    obtain ⟨y_1556, h1556_0, hz1556⟩ := h
    refine tu_tp (b := y_1556) hz1556 ?_
    obtain ⟨hy1, e8, hJ2⟩ := tz_set hJ (a := j_1498) (by omega) (tz_f12 (by omega)) h1556_0
    have e90 := e8 90 (by decide)
    have hst := hB.set
    have hv2 : -100 ≤ M 2 j_1498 ∧ M 2 j_1498 ≤ 100 := by
      rcases (show j_1498 = 0 ∨ j_1498 = 1 ∨ j_1498 = 2 ∨ j_1498 = 3 by omega) with e | e | e | e <;> rw [e] <;> omega
    refine tu_aload 1559 X 8 dL_law_1559 rfl ?_
    refine tu_iload 1561 X 1 dL_law_1561 rfl ?_
    refine tu_iald 1563 X (x := N1556 90 j_1498) j_1498 dL_law_1563 (by decide) rfl (by decide) (by omega) (by omega) rfl ?_
    refine tu_tp (b := (M 2 j_1498)) (by rw [e90]; exact hqs _ (by omega)) ?_
    refine tu_icmp_eq 1564 X 1569 dL_law_1564 (by decide) (show tu_rg y_1556 from by first | assumption | exact ⟨by omega, by omega⟩) (show tu_rg (M 2 j_1498) from by first | assumption | exact ⟨by omega, by omega⟩) (fun br1564 => ?_) (fun br1564 => ?_)
    ·
      refine tu_aload 1569 X 8 dL_law_1569 rfl ?_
      refine tu_iload 1571 X 1 dL_law_1571 rfl ?_
      refine tu_iload 1573 X 0 dL_law_1573 rfl ?_
      refine tu_iast 1575 X (M' := tu_row N1556 90 (tu_u (N1556 90) j_1498 (1 + ((j_1515 : Nat) : Int)))) j_1498 dL_law_1575 (by decide) rfl (by decide) (by omega) (by omega) rfl ?_
      refine tu_jmp [2, 3, 4, 5, 6, 7, 8, 9, 10, 11] (lv' := [(0, tu_r 100), (1, tu_r 0), (2, tu_r 86), (3, tu_r 87), (4, tu_r 88), (5, tu_r 89), (6, tu_r 90), (7, tu_r 91), (8, tu_i ((i8 : Nat) : Int)), (10, tu_i y8)]) ⟨rfl, rfl, rfl, rfl, rfl, rfl, rfl, rfl, rfl, rfl, trivial⟩ rfl (lp1576 (tu_row N1556 90 (tu_u (N1556 90) j_1498 (1 + ((j_1515 : Nat) : Int)))) (by first | exact hJ2 | (rw [e90]; exact hJ2)))
    ·
      exfalso; omega
