set_option maxRecDepth 20000 in
set_option maxHeartbeats 1000000 in
theorem tl_clear {T : tu_T} (X : tu_X T cL_law RL 9 344) (hnl : T.2.2.2.2.2.2.2.2.2.2.1 = 18) {M : tu_M} (hJ : tz_J M) {i8 : Nat} {y8 : Int}   (lp1576 : ∀ (Mz : tu_M), (tz_J Mz) → tu_W T 1576 [(0, tu_r 100), (1, tu_r 0), (2, tu_r 86), (3, tu_r 87), (4, tu_r 88), (5, tu_r 89), (6, tu_r 90), (7, tu_r 91), (8, tu_i ((i8 : Nat) : Int)), (10, tu_i y8)] [] Mz) : tu_W T 1432 [(0, tu_r 100), (1, tu_r 0), (2, tu_r 86), (3, tu_r 87), (4, tu_r 88), (5, tu_r 89), (6, tu_r 90), (7, tu_r 91), (8, tu_i ((i8 : Nat) : Int)), (10, tu_i y8)] [] M := by
  have hR := hJ.1
  have hB := hR.ok
  have cn := hB.cnt
  have hsm := hR.small
  have q4 := hR.q4
  have hqs := hR.qs
  obtain ⟨NL, eL⟩ : ∃ c : Nat, M 1 1 = (c : Int) := ⟨(M 1 1).toNat, by omega⟩
  obtain ⟨NP, eP⟩ : ∃ c : Nat, M 1 4 = (c : Int) := ⟨(M 1 4).toNat, by omega⟩
  obtain ⟨NB, eB⟩ : ∃ c : Nat, M 1 7 = (c : Int) := ⟨(M 1 7).toNat, by omega⟩
  obtain ⟨NT, eT⟩ : ∃ c : Nat, M 1 9 = (c : Int) := ⟨(M 1 9).toNat, by omega⟩
  refine tu_iload 1432 X 9 dL_law_1432 rfl ?_
  refine tu_iconst 1434 X dL_law_1434 ?_
  refine tu_ishr 1435 X dL_law_1435 ?_
  refine tu_iconst 1436 X dL_law_1436 ?_
  refine tu_st_eq (show _ = [tu_i ((2 : Nat) : Int), tu_i (tu_shr y8 2)] from by first | rfl | (simp only [List.cons.injEq, Sum.inl.injEq, and_true, true_and]; omega)) rfl ?_
  refine tu_callSI 1437 X (st := []) (as := [tu_i (tu_shr y8 2), tu_i ((2 : Nat) : Int)]) (c_L_low (tu_shr y8 2) 2 (show 0 < 2 ∧ 2 < 2147483648 from by first | assumption | omega | exact ⟨by omega, by omega⟩ | decide)) ss_RL_61 dL_law_1437 rfl (Nat.le_of_ble_eq_true rfl) ⟨by decide, by decide⟩ (fun z M' h => ?_)
  obtain ⟨j_1437, hM1437, h1437_0, hz1437⟩ := h
  refine tu_st_eq rfl (M' := M) hM1437 ?_
  refine tu_tp (b := ((j_1437 : Nat) : Int)) hz1437 ?_
  refine tu_if_ne 1440 X 1447 dL_law_1440 (by decide) (show tu_rg ((j_1437 : Nat) : Int) from by first | assumption | exact ⟨by omega, by omega⟩) (fun br1440 => ?_) (fun br1440 => ?_)
  ·
    refine tu_iconst 1447 X dL_law_1447 ?_
    refine tu_istore 1448 X (lv' := [(14, tu_i 0), (0, tu_r 100), (1, tu_r 0), (2, tu_r 86), (3, tu_r 87), (4, tu_r 88), (5, tu_r 89), (6, tu_r 90), (7, tu_r 91), (8, tu_i ((i8 : Nat) : Int)), (10, tu_i y8)]) dL_law_1448 (by rw [hnl]; decide) rfl ?_
    refine tu_aload_n 1450 X 2 dL_law_1450 rfl ?_
    refine tu_iload 1451 X 0 dL_law_1451 rfl ?_
    refine tu_callVI 1453 X (st := []) (as := [tu_i 0]) (c_X3_clear 0 (show tu_HS M from by exact hJ.2) (show 0 = 0 ∨ 0 = 1 from by first | exact Or.inl rfl | exact Or.inr rfl)) sv_RL_122 dL_law_1453 rfl (by decide) rfl rfl rfl (Nat.le_of_ble_eq_true rfl) ⟨by decide, by decide⟩ (fun z N1453 h => ?_)
    obtain ⟨y_1453, h1453_0, hz1453⟩ := h
    refine tu_tp (b := y_1453) hz1453 ?_
    obtain ⟨hy1, e8, hJ2⟩ := tz_clear7 hJ h1453_0
    have e90 := e8 90 (by decide)
    refine tu_aload 1456 X 7 dL_law_1456 rfl ?_
    refine tu_iload 1458 X 0 dL_law_1458 rfl ?_
    refine tu_if_eq 1460 X 1468 dL_law_1460 (by decide) ⟨by decide, by decide⟩ (fun br1460 => ?_) (fun br1460 => ?_)
    ·
      refine tu_bipush 1468 X dL_law_1468 (by decide) ?_
      refine tu_iald 1470 X (x := N1453 90 6) 6 dL_law_1470 (by decide) rfl (by decide) rfl (by decide) rfl ?_
      refine tu_tp (b := ((NB : Nat) : Int)) (by rw [e90, q4.2.2.1]; exact eB) ?_
      refine tu_icmp_eq 1471 X 1476 dL_law_1471 (by decide) (show tu_rg y_1453 from by first | assumption | exact ⟨by omega, by omega⟩) (show tu_rg ((NB : Nat) : Int) from by first | assumption | exact ⟨by omega, by omega⟩) (fun br1471 => ?_) (fun br1471 => ?_)
      ·
        refine tu_aload 1476 X 7 dL_law_1476 rfl ?_
        refine tu_iload 1478 X 0 dL_law_1478 rfl ?_
        refine tu_if_eq 1480 X 1488 dL_law_1480 (by decide) ⟨by decide, by decide⟩ (fun br1480 => ?_) (fun br1480 => ?_)
        ·
          refine tu_bipush 1488 X dL_law_1488 (by decide) ?_
          refine tu_iconst 1490 X dL_law_1490 ?_
          refine tu_iast 1491 X (M' := tu_row N1453 90 (tu_u (N1453 90) 6 0)) 6 dL_law_1491 (by decide) rfl (by decide) rfl (by decide) rfl ?_
          refine tu_goto 1492 X 1576 dL_law_1492 (by decide) ?_
          refine tu_jmp [1, 2, 3, 4, 5, 6, 7, 8, 9, 10] (lv' := [(0, tu_r 100), (1, tu_r 0), (2, tu_r 86), (3, tu_r 87), (4, tu_r 88), (5, tu_r 89), (6, tu_r 90), (7, tu_r 91), (8, tu_i ((i8 : Nat) : Int)), (10, tu_i y8)]) ⟨rfl, rfl, rfl, rfl, rfl, rfl, rfl, rfl, rfl, rfl, trivial⟩ rfl (lp1576 (tu_row N1453 90 (tu_u (N1453 90) 6 0)) (by first | exact hJ2 | (rw [e90]; exact hJ2)))
        ·
          exfalso; omega
      ·
        exfalso; omega
    ·
      exfalso; omega
  ·
    refine tu_iconst 1443 X dL_law_1443 ?_
    refine tu_goto 1444 X 1448 dL_law_1444 (by decide) ?_
    refine tu_istore 1448 X (lv' := [(14, tu_i 1), (0, tu_r 100), (1, tu_r 0), (2, tu_r 86), (3, tu_r 87), (4, tu_r 88), (5, tu_r 89), (6, tu_r 90), (7, tu_r 91), (8, tu_i ((i8 : Nat) : Int)), (10, tu_i y8)]) dL_law_1448 (by rw [hnl]; decide) rfl ?_
    refine tu_aload_n 1450 X 2 dL_law_1450 rfl ?_
    refine tu_iload 1451 X 0 dL_law_1451 rfl ?_
    refine tu_callVI 1453 X (st := []) (as := [tu_i 1]) (c_X3_clear 1 (show tu_HS M from by exact hJ.2) (show 1 = 0 ∨ 1 = 1 from by first | exact Or.inl rfl | exact Or.inr rfl)) sv_RL_122 dL_law_1453 rfl (by decide) rfl rfl rfl (Nat.le_of_ble_eq_true rfl) ⟨by decide, by decide⟩ (fun z N1453 h => ?_)
    obtain ⟨y_1453, h1453_0, hz1453⟩ := h
    refine tu_tp (b := y_1453) hz1453 ?_
    obtain ⟨hy1, e8, hJ2⟩ := tz_clear9 hJ h1453_0
    have e90 := e8 90 (by decide)
    refine tu_aload 1456 X 7 dL_law_1456 rfl ?_
    refine tu_iload 1458 X 0 dL_law_1458 rfl ?_
    refine tu_if_eq 1460 X 1468 dL_law_1460 (by decide) ⟨by decide, by decide⟩ (fun br1460 => ?_) (fun br1460 => ?_)
    ·
      exfalso; omega
    ·
      refine tu_bipush 1463 X dL_law_1463 (by decide) ?_
      refine tu_goto 1465 X 1470 dL_law_1465 (by decide) ?_
      refine tu_iald 1470 X (x := N1453 90 7) 7 dL_law_1470 (by decide) rfl (by decide) rfl (by decide) rfl ?_
      refine tu_tp (b := ((NT : Nat) : Int)) (by rw [e90, q4.2.2.2]; exact eT) ?_
      refine tu_icmp_eq 1471 X 1476 dL_law_1471 (by decide) (show tu_rg y_1453 from by first | assumption | exact ⟨by omega, by omega⟩) (show tu_rg ((NT : Nat) : Int) from by first | assumption | exact ⟨by omega, by omega⟩) (fun br1471 => ?_) (fun br1471 => ?_)
      ·
        refine tu_aload 1476 X 7 dL_law_1476 rfl ?_
        refine tu_iload 1478 X 0 dL_law_1478 rfl ?_
        refine tu_if_eq 1480 X 1488 dL_law_1480 (by decide) ⟨by decide, by decide⟩ (fun br1480 => ?_) (fun br1480 => ?_)
        ·
          exfalso; omega
        ·
          refine tu_bipush 1483 X dL_law_1483 (by decide) ?_
          refine tu_goto 1485 X 1490 dL_law_1485 (by decide) ?_
          refine tu_iconst 1490 X dL_law_1490 ?_
          refine tu_iast 1491 X (M' := tu_row N1453 90 (tu_u (N1453 90) 7 0)) 7 dL_law_1491 (by decide) rfl (by decide) rfl (by decide) rfl ?_
          refine tu_goto 1492 X 1576 dL_law_1492 (by decide) ?_
          refine tu_jmp [1, 2, 3, 4, 5, 6, 7, 8, 9, 10] (lv' := [(0, tu_r 100), (1, tu_r 0), (2, tu_r 86), (3, tu_r 87), (4, tu_r 88), (5, tu_r 89), (6, tu_r 90), (7, tu_r 91), (8, tu_i ((i8 : Nat) : Int)), (10, tu_i y8)]) ⟨rfl, rfl, rfl, rfl, rfl, rfl, rfl, rfl, rfl, rfl, trivial⟩ rfl (lp1576 (tu_row N1453 90 (tu_u (N1453 90) 7 0)) (by first | exact hJ2 | (rw [e90]; exact hJ2)))
      ·
        exfalso; omega
