set_option maxRecDepth 20000 in
set_option maxHeartbeats 1000000 in
theorem tl_beat {T : tu_T} (X : tu_X T cL_law RL 9 344) (hnl : T.2.2.2.2.2.2.2.2.2.2.1 = 18) {M : tu_M} (hJ : tz_J M) {i8 : Nat} {y8 : Int} {p9 : Nat} (hp : (p9 : Int) < M 1 4) (lp1576 : ∀ (Mz : tu_M), (tz_J Mz) → tu_W T 1576 [(0, tu_r 100), (1, tu_r 0), (2, tu_r 86), (3, tu_r 87), (4, tu_r 88), (5, tu_r 89), (6, tu_r 90), (7, tu_r 91), (8, tu_i ((i8 : Nat) : Int)), (10, tu_i y8)] [] Mz) : tu_W T 937 [(0, tu_r 100), (1, tu_r 0), (2, tu_r 86), (3, tu_r 87), (4, tu_r 88), (5, tu_r 89), (6, tu_r 90), (7, tu_r 91), (8, tu_i ((i8 : Nat) : Int)), (10, tu_i y8), (13, tu_i ((p9 : Nat) : Int))] [] M := by
  have hR := hJ.1
  have hB := hR.ok
  have cn := hB.cnt
  have hsm := hR.small
  have q4 := hR.q4
  have hqs := hR.qs
  obtain ⟨NL, eL⟩ : ∃ c : Nat, M 1 1 = (c : Int) := ⟨(M 1 1).toNat, by omega⟩
  obtain ⟨NP, eP⟩ : ∃ c : Nat, M 1 4 = (c : Int) := ⟨(M 1 4).toNat, by omega⟩
  obtain ⟨NB, eB⟩ : ∃ c : Nat, M 1 7 = (c : Int) := ⟨(M 1 7).toNat, by omega⟩
  obtain ⟨NT, eT⟩ : ∃ c : Nat, M 1 9 = (c : Int) := ⟨(M 1 9).toNat, by omega⟩
  have hbs := hB.bts p9 hp
  have hph := hR.ph p9 hp
  refine tu_iload 937 X 9 dL_law_937 rfl ?_
  refine tu_aload_n 939 X 3 dL_law_939 rfl ?_
  refine tu_iconst 940 X dL_law_940 ?_
  refine tu_iload 941 X 10 dL_law_941 rfl ?_
  refine tu_imul 943 X dL_law_943 ?_
  refine tu_iald 944 X (x := M 87 (3 * p9)) (3 * p9) dL_law_944 (by decide) rfl (by decide) (by omega) (by omega) rfl ?_
  refine tu_tp (b := (((M 5 p9).toNat : Nat) : Int)) (by rw [hph.2.1]; omega) ?_
  refine tu_st_eq (show _ = [tu_i ((((M 5 p9).toNat) : Nat) : Int), tu_i y8] from by first | rfl | (simp only [List.cons.injEq, Sum.inl.injEq, and_true, true_and]; omega)) rfl ?_
  refine tu_callSI 945 X (st := []) (as := [tu_i y8, tu_i ((((M 5 p9).toNat) : Nat) : Int)]) (c_L_low y8 ((M 5 p9).toNat) (show 0 < ((M 5 p9).toNat) ∧ ((M 5 p9).toNat) < 2147483648 from by first | assumption | omega | exact ⟨by omega, by omega⟩ | decide)) ss_RL_61 dL_law_945 rfl (Nat.le_of_ble_eq_true rfl) ⟨by decide, by decide⟩ (fun z M' h => ?_)
  obtain ⟨j_945, hM945, h945_0, hz945⟩ := h
  refine tu_st_eq rfl (M' := M) hM945 ?_
  refine tu_tp (b := ((j_945 : Nat) : Int)) hz945 ?_
  refine tu_istore 948 X (lv' := [(14, tu_i ((j_945 : Nat) : Int)), (0, tu_r 100), (1, tu_r 0), (2, tu_r 86), (3, tu_r 87), (4, tu_r 88), (5, tu_r 89), (6, tu_r 90), (7, tu_r 91), (8, tu_i ((i8 : Nat) : Int)), (10, tu_i y8), (13, tu_i ((p9 : Nat) : Int))]) dL_law_948 (by rw [hnl]; decide) rfl ?_
  refine tu_iload 950 X 10 dL_law_950 rfl ?_
  refine tu_iconst 952 X dL_law_952 ?_
  refine tu_ishr 953 X dL_law_953 ?_
  refine tu_iconst 954 X dL_law_954 ?_
  refine tu_st_eq (show _ = [tu_i ((3 : Nat) : Int), tu_i (tu_shr y8 5)] from by first | rfl | (simp only [List.cons.injEq, Sum.inl.injEq, and_true, true_and]; omega)) rfl ?_
  refine tu_callSI 955 X (st := []) (as := [tu_i (tu_shr y8 5), tu_i ((3 : Nat) : Int)]) (c_L_low (tu_shr y8 5) 3 (show 0 < 3 ∧ 3 < 2147483648 from by first | assumption | omega | exact ⟨by omega, by omega⟩ | decide)) ss_RL_61 dL_law_955 rfl (Nat.le_of_ble_eq_true rfl) ⟨by decide, by decide⟩ (fun z M' h => ?_)
  obtain ⟨j_955, hM955, h955_0, hz955⟩ := h
  refine tu_st_eq rfl (M' := M) hM955 ?_
  refine tu_tp (b := ((j_955 : Nat) : Int)) hz955 ?_
  have hbt : ((j_945 : Nat) : Int) < M 5 p9 := by omega
  have hkk : 0 ≤ (tu_kp (tu_cb M) p9) j_945 ∧ (tu_kp (tu_cb M) p9) j_945 ≤ 2 := hB.knd p9 j_945 hp hbt
  have hw9 : 0 ≤ ((j_955 : Nat) : Int) ∧ ((j_955 : Nat) : Int) ≤ 2 := by omega
  refine tu_istore 958 X (lv' := [(15, tu_i ((j_955 : Nat) : Int)), (14, tu_i ((j_945 : Nat) : Int)), (0, tu_r 100), (1, tu_r 0), (2, tu_r 86), (3, tu_r 87), (4, tu_r 88), (5, tu_r 89), (6, tu_r 90), (7, tu_r 91), (8, tu_i ((i8 : Nat) : Int)), (10, tu_i y8), (13, tu_i ((p9 : Nat) : Int))]) dL_law_958 (by rw [hnl]; decide) rfl ?_
  refine tu_aload_n 960 X 5 dL_law_960 rfl ?_
  refine tu_iconst 961 X dL_law_961 ?_
  refine tu_iload 962 X 12 dL_law_962 rfl ?_
  refine tu_imul 964 X dL_law_964 ?_
  refine tu_iconst 965 X dL_law_965 ?_
  refine tu_iadd 966 X dL_law_966 ?_
  refine tu_iald 967 X (x := M 87 ((3 * p9) + 1)) ((3 * p9) + 1) dL_law_967 (by decide) rfl (by decide) (by omega) (by omega) rfl ?_
  refine tu_iload 968 X 1 dL_law_968 rfl ?_
  refine tu_ishr 970 X dL_law_970 ?_
  refine tu_iconst 971 X dL_law_971 ?_
  refine tu_iand 972 X dL_law_972 ?_
  refine tu_tp (b := (if (tu_kp (tu_cb M) p9) j_945 = 2 then 1 else 0)) (by rw [tu_bit1 _ (by omega)]; exact tz_bi2 hph.2.2.1.2 (by omega) (by omega)) ?_
  refine tu_iconst 973 X dL_law_973 ?_
  refine tu_imul 974 X dL_law_974 ?_
  refine tu_aload_n 975 X 5 dL_law_975 rfl ?_
  refine tu_iconst 976 X dL_law_976 ?_
  refine tu_iload 977 X 12 dL_law_977 rfl ?_
  refine tu_imul 979 X dL_law_979 ?_
  refine tu_iconst 980 X dL_law_980 ?_
  refine tu_iadd 981 X dL_law_981 ?_
  refine tu_iald 982 X (x := M 87 ((3 * p9) + 2)) ((3 * p9) + 2) dL_law_982 (by decide) rfl (by decide) (by omega) (by omega) rfl ?_
  refine tu_iload 983 X 1 dL_law_983 rfl ?_
  refine tu_ishr 985 X dL_law_985 ?_
  refine tu_iconst 986 X dL_law_986 ?_
  refine tu_iand 987 X dL_law_987 ?_
  refine tu_tp (b := (if (tu_kp (tu_cb M) p9) j_945 = 1 then 1 else 0)) (by rw [tu_bit1 _ (by omega)]; exact tz_bi1 hph.2.2.2.2 (by omega) (by omega)) ?_
  refine tu_iadd 988 X dL_law_988 ?_
  refine tu_tp (b := ((tu_kp (tu_cb M) p9) j_945)) (by rcases (show (tu_kp (tu_cb M) p9) j_945 = 0 ∨ (tu_kp (tu_cb M) p9) j_945 = 1 ∨ (tu_kp (tu_cb M) p9) j_945 = 2 by omega) with q | q | q <;> rw [q] <;> decide) ?_
  refine tu_istore 989 X (lv' := [(16, tu_i ((tu_kp (tu_cb M) p9) j_945)), (15, tu_i ((j_955 : Nat) : Int)), (14, tu_i ((j_945 : Nat) : Int)), (0, tu_r 100), (1, tu_r 0), (2, tu_r 86), (3, tu_r 87), (4, tu_r 88), (5, tu_r 89), (6, tu_r 90), (7, tu_r 91), (8, tu_i ((i8 : Nat) : Int)), (10, tu_i y8), (13, tu_i ((p9 : Nat) : Int))]) dL_law_989 (by rw [hnl]; decide) rfl ?_
  refine tu_aload_n 991 X 4 dL_law_991 rfl ?_
  refine tu_iload 992 X 13 dL_law_992 rfl ?_
  refine tu_iload 994 X 2 dL_law_994 rfl ?_
  refine tu_iload 996 X 1 dL_law_996 rfl ?_
  refine tu_callVI 998 X (st := []) (as := [tu_i ((p9 : Nat) : Int), tu_i ((j_945 : Nat) : Int), tu_i ((j_955 : Nat) : Int)]) (c_X3_beat ((p9 : Nat) : Int) ((j_945 : Nat) : Int) ((j_955 : Nat) : Int) (show tu_OK M from by exact hB) (show tu_HS M from by exact hJ.2) (show tu_rg ((p9 : Nat) : Int) from by first | assumption | omega | exact ⟨by omega, by omega⟩ | decide) (show tu_rg ((j_945 : Nat) : Int) from by first | assumption | omega | exact ⟨by omega, by omega⟩ | decide) (show tu_rg ((j_955 : Nat) : Int) from by first | assumption | omega | exact ⟨by omega, by omega⟩ | decide)) sv_RL_110 dL_law_998 rfl (by decide) rfl rfl rfl (Nat.le_of_ble_eq_true rfl) ⟨by decide, by decide⟩ (fun z N998 h => ?_)
  obtain ⟨y_998, h998_0, hz998⟩ := h
  refine tu_tp (b := y_998) hz998 ?_
  obtain ⟨hy1, e8, -⟩ := tz_beat hJ hp hbt hw9 h998_0 (X1 := if ((j_955 : Nat) : Int) = 2 then tu_shl 1 ((j_945 : Nat) : Int) else 0) (X2 := if ((j_955 : Nat) : Int) = 1 then tu_shl 1 ((j_945 : Nat) : Int) else 0) (by split; (exact tz_hX1 (by omega) (by assumption)); (exact tz_hX0 (by assumption))) (by split; (exact tz_hX1 (by omega) (by assumption)); (exact tz_hX0 (by assumption)))
  have e87 := e8 87 (by decide)
  refine tu_iload 1001 X 0 dL_law_1001 rfl ?_
  refine tu_icmp_eq 1003 X 1008 dL_law_1003 (by decide) (show tu_rg y_998 from by first | assumption | exact ⟨by omega, by omega⟩) (show tu_rg ((tu_kp (tu_cb M) p9) j_945) from by first | assumption | exact ⟨by omega, by omega⟩) (fun br1003 => ?_) (fun br1003 => ?_)
  ·
    refine tu_aload_n 1008 X 6 dL_law_1008 rfl ?_
    refine tu_iconst 1009 X dL_law_1009 ?_
    refine tu_iload 1010 X 13 dL_law_1010 rfl ?_
    refine tu_imul 1012 X dL_law_1012 ?_
    refine tu_iconst 1013 X dL_law_1013 ?_
    refine tu_iadd 1014 X dL_law_1014 ?_
    refine tu_aload_n 1015 X 6 dL_law_1015 rfl ?_
    refine tu_iconst 1016 X dL_law_1016 ?_
    refine tu_iload 1017 X 13 dL_law_1017 rfl ?_
    refine tu_imul 1019 X dL_law_1019 ?_
    refine tu_iconst 1020 X dL_law_1020 ?_
    refine tu_iadd 1021 X dL_law_1021 ?_
    refine tu_iald 1022 X (x := N998 87 ((3 * p9) + 1)) ((3 * p9) + 1) dL_law_1022 (by decide) rfl (by decide) (by omega) (by omega) rfl ?_
    refine tu_tp (b := (M 87 (3 * p9 + 1))) (by rw [e87]) ?_
    refine tu_iconst 1023 X dL_law_1023 ?_
    refine tu_iload 1024 X 2 dL_law_1024 rfl ?_
    refine tu_ishl 1026 X dL_law_1026 ?_
    refine tu_iconst 1027 X dL_law_1027 ?_
    refine tu_ixor 1028 X dL_law_1028 ?_
    refine tu_iand 1029 X dL_law_1029 ?_
    refine tu_iload 1030 X 1 dL_law_1030 rfl ?_
    refine tu_iconst 1032 X dL_law_1032 ?_
    refine tu_icmp_ne 1033 X 1043 dL_law_1033 (by decide) (show tu_rg ((j_955 : Nat) : Int) from by first | assumption | exact ⟨by omega, by omega⟩) ⟨by decide, by decide⟩ (fun br1033 => ?_) (fun br1033 => ?_)
    ·
      have hX1 : ∀ i, i < 32 → tu_bi 0 i = if i = j_945 ∧ ((j_955 : Nat) : Int) = 2 then 1 else 0 := tz_hX0 (by omega)
      refine tu_iconst 1043 X dL_law_1043 ?_
      refine tu_ior 1044 X dL_law_1044 ?_
      refine tu_iast 1045 X (M' := tu_row N998 87 (tu_u (N998 87) ((3 * p9) + 1) (tu_or (tu_and (M 87 (3 * p9 + 1)) (tu_xor (tu_shl 1 ((j_945 : Nat) : Int)) (-1))) 0))) ((3 * p9) + 1) dL_law_1045 (by decide) rfl (by decide) (by omega) (by omega) rfl ?_
      refine tu_aload_n 1046 X 6 dL_law_1046 rfl ?_
      refine tu_iconst 1047 X dL_law_1047 ?_
      refine tu_iload 1048 X 13 dL_law_1048 rfl ?_
      refine tu_imul 1050 X dL_law_1050 ?_
      refine tu_iconst 1051 X dL_law_1051 ?_
      refine tu_iadd 1052 X dL_law_1052 ?_
      refine tu_aload_n 1053 X 6 dL_law_1053 rfl ?_
      refine tu_iconst 1054 X dL_law_1054 ?_
      refine tu_iload 1055 X 13 dL_law_1055 rfl ?_
      refine tu_imul 1057 X dL_law_1057 ?_
      refine tu_iconst 1058 X dL_law_1058 ?_
      refine tu_iadd 1059 X dL_law_1059 ?_
      refine tu_iald 1060 X (x := (tu_u (N998 87) ((3 * p9) + 1) (tu_or (tu_and (M 87 (3 * p9 + 1)) (tu_xor (tu_shl 1 ((j_945 : Nat) : Int)) (-1))) 0)) ((3 * p9) + 2)) ((3 * p9) + 2) dL_law_1060 (by decide) rfl (by decide) (by omega) (by omega) rfl ?_
      refine tu_tp (b := (M 87 (3 * p9 + 2))) (by rw [tu_u_n _ _ (by omega), e87]) ?_
      refine tu_iconst 1061 X dL_law_1061 ?_
      refine tu_iload 1062 X 2 dL_law_1062 rfl ?_
      refine tu_ishl 1064 X dL_law_1064 ?_
      refine tu_iconst 1065 X dL_law_1065 ?_
      refine tu_ixor 1066 X dL_law_1066 ?_
      refine tu_iand 1067 X dL_law_1067 ?_
      refine tu_iload 1068 X 1 dL_law_1068 rfl ?_
      refine tu_iconst 1070 X dL_law_1070 ?_
      refine tu_icmp_ne 1071 X 1081 dL_law_1071 (by decide) (show tu_rg ((j_955 : Nat) : Int) from by first | assumption | exact ⟨by omega, by omega⟩) ⟨by decide, by decide⟩ (fun br1071 => ?_) (fun br1071 => ?_)
      ·
        have hX2 : ∀ i, i < 32 → tu_bi 0 i = if i = j_945 ∧ ((j_955 : Nat) : Int) = 1 then 1 else 0 := tz_hX0 (by omega)
        refine tu_iconst 1081 X dL_law_1081 ?_
        refine tu_ior 1082 X dL_law_1082 ?_
        refine tu_iast 1083 X (M' := tu_row N998 87 (tu_u (tu_u (N998 87) ((3 * p9) + 1) (tu_or (tu_and (M 87 (3 * p9 + 1)) (tu_xor (tu_shl 1 ((j_945 : Nat) : Int)) (-1))) 0)) ((3 * p9) + 2) (tu_or (tu_and (M 87 (3 * p9 + 2)) (tu_xor (tu_shl 1 ((j_945 : Nat) : Int)) (-1))) 0))) ((3 * p9) + 2) dL_law_1083 (by decide) rfl (by decide) (by omega) (by omega) (tu_rr N998 87 (tu_u (N998 87) ((3 * p9) + 1) (tu_or (tu_and (M 87 (3 * p9 + 1)) (tu_xor (tu_shl 1 ((j_945 : Nat) : Int)) (-1))) 0)) (tu_u (tu_u (N998 87) ((3 * p9) + 1) (tu_or (tu_and (M 87 (3 * p9 + 1)) (tu_xor (tu_shl 1 ((j_945 : Nat) : Int)) (-1))) 0)) ((3 * p9) + 2) (tu_or (tu_and (M 87 (3 * p9 + 2)) (tu_xor (tu_shl 1 ((j_945 : Nat) : Int)) (-1))) 0))) ?_
        refine tu_goto 1084 X 1576 dL_law_1084 (by decide) ?_
        refine tu_jmp [3, 4, 5, 6, 7, 8, 9, 10, 11, 12] (lv' := [(0, tu_r 100), (1, tu_r 0), (2, tu_r 86), (3, tu_r 87), (4, tu_r 88), (5, tu_r 89), (6, tu_r 90), (7, tu_r 91), (8, tu_i ((i8 : Nat) : Int)), (10, tu_i y8)]) ⟨rfl, rfl, rfl, rfl, rfl, rfl, rfl, rfl, rfl, rfl, trivial⟩ rfl (lp1576 (tu_row N998 87 (tu_u (tu_u (N998 87) ((3 * p9) + 1) (tu_or (tu_and (M 87 (3 * p9 + 1)) (tu_xor (tu_shl 1 ((j_945 : Nat) : Int)) (-1))) 0)) ((3 * p9) + 2) (tu_or (tu_and (M 87 (3 * p9 + 2)) (tu_xor (tu_shl 1 ((j_945 : Nat) : Int)) (-1))) 0))) (by rw [e87]; exact (tz_beat hJ hp hbt hw9 h998_0 hX1 hX2).2.2))
      ·
        have hX2 : ∀ i, i < 32 → tu_bi (tu_shl 1 ((j_945 : Nat) : Int)) i = if i = j_945 ∧ ((j_955 : Nat) : Int) = 1 then 1 else 0 := tz_hX1 (by omega) (by omega)
        refine tu_iconst 1074 X dL_law_1074 ?_
        refine tu_iload 1075 X 2 dL_law_1075 rfl ?_
        refine tu_ishl 1077 X dL_law_1077 ?_
        refine tu_goto 1078 X 1082 dL_law_1078 (by decide) ?_
        refine tu_ior 1082 X dL_law_1082 ?_
        refine tu_iast 1083 X (M' := tu_row N998 87 (tu_u (tu_u (N998 87) ((3 * p9) + 1) (tu_or (tu_and (M 87 (3 * p9 + 1)) (tu_xor (tu_shl 1 ((j_945 : Nat) : Int)) (-1))) 0)) ((3 * p9) + 2) (tu_or (tu_and (M 87 (3 * p9 + 2)) (tu_xor (tu_shl 1 ((j_945 : Nat) : Int)) (-1))) (tu_shl 1 ((j_945 : Nat) : Int))))) ((3 * p9) + 2) dL_law_1083 (by decide) rfl (by decide) (by omega) (by omega) (tu_rr N998 87 (tu_u (N998 87) ((3 * p9) + 1) (tu_or (tu_and (M 87 (3 * p9 + 1)) (tu_xor (tu_shl 1 ((j_945 : Nat) : Int)) (-1))) 0)) (tu_u (tu_u (N998 87) ((3 * p9) + 1) (tu_or (tu_and (M 87 (3 * p9 + 1)) (tu_xor (tu_shl 1 ((j_945 : Nat) : Int)) (-1))) 0)) ((3 * p9) + 2) (tu_or (tu_and (M 87 (3 * p9 + 2)) (tu_xor (tu_shl 1 ((j_945 : Nat) : Int)) (-1))) (tu_shl 1 ((j_945 : Nat) : Int))))) ?_
        refine tu_goto 1084 X 1576 dL_law_1084 (by decide) ?_
        refine tu_jmp [3, 4, 5, 6, 7, 8, 9, 10, 11, 12] (lv' := [(0, tu_r 100), (1, tu_r 0), (2, tu_r 86), (3, tu_r 87), (4, tu_r 88), (5, tu_r 89), (6, tu_r 90), (7, tu_r 91), (8, tu_i ((i8 : Nat) : Int)), (10, tu_i y8)]) ⟨rfl, rfl, rfl, rfl, rfl, rfl, rfl, rfl, rfl, rfl, trivial⟩ rfl (lp1576 (tu_row N998 87 (tu_u (tu_u (N998 87) ((3 * p9) + 1) (tu_or (tu_and (M 87 (3 * p9 + 1)) (tu_xor (tu_shl 1 ((j_945 : Nat) : Int)) (-1))) 0)) ((3 * p9) + 2) (tu_or (tu_and (M 87 (3 * p9 + 2)) (tu_xor (tu_shl 1 ((j_945 : Nat) : Int)) (-1))) (tu_shl 1 ((j_945 : Nat) : Int))))) (by rw [e87]; exact (tz_beat hJ hp hbt hw9 h998_0 hX1 hX2).2.2))
    ·
      have hX1 : ∀ i, i < 32 → tu_bi (tu_shl 1 ((j_945 : Nat) : Int)) i = if i = j_945 ∧ ((j_955 : Nat) : Int) = 2 then 1 else 0 := tz_hX1 (by omega) (by omega)
      refine tu_iconst 1036 X dL_law_1036 ?_
      refine tu_iload 1037 X 2 dL_law_1037 rfl ?_
      refine tu_ishl 1039 X dL_law_1039 ?_
      refine tu_goto 1040 X 1044 dL_law_1040 (by decide) ?_
      refine tu_ior 1044 X dL_law_1044 ?_
      refine tu_iast 1045 X (M' := tu_row N998 87 (tu_u (N998 87) ((3 * p9) + 1) (tu_or (tu_and (M 87 (3 * p9 + 1)) (tu_xor (tu_shl 1 ((j_945 : Nat) : Int)) (-1))) (tu_shl 1 ((j_945 : Nat) : Int))))) ((3 * p9) + 1) dL_law_1045 (by decide) rfl (by decide) (by omega) (by omega) rfl ?_
      refine tu_aload_n 1046 X 6 dL_law_1046 rfl ?_
      refine tu_iconst 1047 X dL_law_1047 ?_
      refine tu_iload 1048 X 13 dL_law_1048 rfl ?_
      refine tu_imul 1050 X dL_law_1050 ?_
      refine tu_iconst 1051 X dL_law_1051 ?_
      refine tu_iadd 1052 X dL_law_1052 ?_
      refine tu_aload_n 1053 X 6 dL_law_1053 rfl ?_
      refine tu_iconst 1054 X dL_law_1054 ?_
      refine tu_iload 1055 X 13 dL_law_1055 rfl ?_
      refine tu_imul 1057 X dL_law_1057 ?_
      refine tu_iconst 1058 X dL_law_1058 ?_
      refine tu_iadd 1059 X dL_law_1059 ?_
      refine tu_iald 1060 X (x := (tu_u (N998 87) ((3 * p9) + 1) (tu_or (tu_and (M 87 (3 * p9 + 1)) (tu_xor (tu_shl 1 ((j_945 : Nat) : Int)) (-1))) (tu_shl 1 ((j_945 : Nat) : Int)))) ((3 * p9) + 2)) ((3 * p9) + 2) dL_law_1060 (by decide) rfl (by decide) (by omega) (by omega) rfl ?_
      refine tu_tp (b := (M 87 (3 * p9 + 2))) (by rw [tu_u_n _ _ (by omega), e87]) ?_
      refine tu_iconst 1061 X dL_law_1061 ?_
      refine tu_iload 1062 X 2 dL_law_1062 rfl ?_
      refine tu_ishl 1064 X dL_law_1064 ?_
      refine tu_iconst 1065 X dL_law_1065 ?_
      refine tu_ixor 1066 X dL_law_1066 ?_
      refine tu_iand 1067 X dL_law_1067 ?_
      refine tu_iload 1068 X 1 dL_law_1068 rfl ?_
      refine tu_iconst 1070 X dL_law_1070 ?_
      refine tu_icmp_ne 1071 X 1081 dL_law_1071 (by decide) (show tu_rg ((j_955 : Nat) : Int) from by first | assumption | exact ⟨by omega, by omega⟩) ⟨by decide, by decide⟩ (fun br1071 => ?_) (fun br1071 => ?_)
      ·
        have hX2 : ∀ i, i < 32 → tu_bi 0 i = if i = j_945 ∧ ((j_955 : Nat) : Int) = 1 then 1 else 0 := tz_hX0 (by omega)
        refine tu_iconst 1081 X dL_law_1081 ?_
        refine tu_ior 1082 X dL_law_1082 ?_
        refine tu_iast 1083 X (M' := tu_row N998 87 (tu_u (tu_u (N998 87) ((3 * p9) + 1) (tu_or (tu_and (M 87 (3 * p9 + 1)) (tu_xor (tu_shl 1 ((j_945 : Nat) : Int)) (-1))) (tu_shl 1 ((j_945 : Nat) : Int)))) ((3 * p9) + 2) (tu_or (tu_and (M 87 (3 * p9 + 2)) (tu_xor (tu_shl 1 ((j_945 : Nat) : Int)) (-1))) 0))) ((3 * p9) + 2) dL_law_1083 (by decide) rfl (by decide) (by omega) (by omega) (tu_rr N998 87 (tu_u (N998 87) ((3 * p9) + 1) (tu_or (tu_and (M 87 (3 * p9 + 1)) (tu_xor (tu_shl 1 ((j_945 : Nat) : Int)) (-1))) (tu_shl 1 ((j_945 : Nat) : Int)))) (tu_u (tu_u (N998 87) ((3 * p9) + 1) (tu_or (tu_and (M 87 (3 * p9 + 1)) (tu_xor (tu_shl 1 ((j_945 : Nat) : Int)) (-1))) (tu_shl 1 ((j_945 : Nat) : Int)))) ((3 * p9) + 2) (tu_or (tu_and (M 87 (3 * p9 + 2)) (tu_xor (tu_shl 1 ((j_945 : Nat) : Int)) (-1))) 0))) ?_
        refine tu_goto 1084 X 1576 dL_law_1084 (by decide) ?_
        refine tu_jmp [3, 4, 5, 6, 7, 8, 9, 10, 11, 12] (lv' := [(0, tu_r 100), (1, tu_r 0), (2, tu_r 86), (3, tu_r 87), (4, tu_r 88), (5, tu_r 89), (6, tu_r 90), (7, tu_r 91), (8, tu_i ((i8 : Nat) : Int)), (10, tu_i y8)]) ⟨rfl, rfl, rfl, rfl, rfl, rfl, rfl, rfl, rfl, rfl, trivial⟩ rfl (lp1576 (tu_row N998 87 (tu_u (tu_u (N998 87) ((3 * p9) + 1) (tu_or (tu_and (M 87 (3 * p9 + 1)) (tu_xor (tu_shl 1 ((j_945 : Nat) : Int)) (-1))) (tu_shl 1 ((j_945 : Nat) : Int)))) ((3 * p9) + 2) (tu_or (tu_and (M 87 (3 * p9 + 2)) (tu_xor (tu_shl 1 ((j_945 : Nat) : Int)) (-1))) 0))) (by rw [e87]; exact (tz_beat hJ hp hbt hw9 h998_0 hX1 hX2).2.2))
      ·
        exfalso; omega
  ·
    exfalso; omega
