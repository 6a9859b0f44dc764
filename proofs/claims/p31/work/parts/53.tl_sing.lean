set_option maxRecDepth 20000 in
set_option maxHeartbeats 1000000 in
theorem tl_sing {T : tu_T} (X : tu_X T cL_law RL 9 344) (hnl : T.2.2.2.2.2.2.2.2.2.2.1 = 18) {M : tu_M} (hJ : tz_J M) {i8 : Nat} {y8 : Int} {l9 : Nat} (hl : (l9 : Int) < M 1 1) (lp1576 : ∀ (Mz : tu_M), (tz_J Mz) → tu_W T 1576 [(0, tu_r 100), (1, tu_r 0), (2, tu_r 86), (3, tu_r 87), (4, tu_r 88), (5, tu_r 89), (6, tu_r 90), (7, tu_r 91), (8, tu_i ((i8 : Nat) : Int)), (10, tu_i y8)] [] Mz) : tu_W T 1101 [(0, tu_r 100), (1, tu_r 0), (2, tu_r 86), (3, tu_r 87), (4, tu_r 88), (5, tu_r 89), (6, tu_r 90), (7, tu_r 91), (8, tu_i ((i8 : Nat) : Int)), (10, tu_i y8), (12, tu_i ((l9 : Nat) : Int))] [] M := by
  have hR := hJ.1
  have hB := hR.ok
  have cn := hB.cnt
  have hsm := hR.small
  have q4 := hR.q4
  have hqs := hR.qs
  obtain ⟨NL, eL⟩ : ∃ c : Nat, M 1 1 = (c : Int) := ⟨(M 1 1).toNat, by omega⟩
  obtain ⟨NP, eP⟩ : ∃ c : Nat, M 1 4 = (c : Int) := ⟨(M 1 4).toNat, by omega⟩
  obtain ⟨NB, eB⟩ : ∃ c : Nat, M 1 7 = (c : Int) := ⟨(M 1 7).toNat, by omega⟩
  obtain ⟨NT, eT⟩ : ∃ c : Nat, M 1 9 = (c : Int) := ⟨(M 1 9).toNat, by omega⟩
  refine tu_aload 1101 X 6 dL_law_1101 rfl ?_
  refine tu_bipush 1103 X dL_law_1103 (by decide) ?_
  refine tu_iald 1105 X (x := M 90 6) 6 dL_law_1105 (by decide) rfl (by decide) rfl (by decide) rfl ?_
  refine tu_tp (b := ((NB : Nat) : Int)) (by rw [q4.2.2.1]; exact eB) ?_
  refine tu_bipush 1106 X dL_law_1106 (by decide) ?_
  refine tu_icmp_ge 1108 X 1115 dL_law_1108 (by decide) (show tu_rg ((NB : Nat) : Int) from by first | assumption | exact ⟨by omega, by omega⟩) ⟨by decide, by decide⟩ (fun br1108 => ?_) (fun br1108 => ?_)
  ·
    refine tu_iconst 1115 X dL_law_1115 ?_
    refine tu_istore 1116 X (lv' := [(14, tu_i 0), (0, tu_r 100), (1, tu_r 0), (2, tu_r 86), (3, tu_r 87), (4, tu_r 88), (5, tu_r 89), (6, tu_r 90), (7, tu_r 91), (8, tu_i ((i8 : Nat) : Int)), (10, tu_i y8), (12, tu_i ((l9 : Nat) : Int))]) dL_law_1116 (by rw [hnl]; decide) rfl ?_
    refine tu_iload 1118 X 0 dL_law_1118 rfl ?_
    refine tu_if_eq 1120 X 1138 dL_law_1120 (by decide) ⟨by decide, by decide⟩ (fun br1120 => ?_) (fun br1120 => ?_)
    ·
      obtain ⟨Mx, hMx⟩ : ∃ m99 : tu_M, m99 = M := ⟨_, rfl⟩
      refine tu_st_eq rfl (M' := Mx) hMx.symm ?_
      have hx : tz_x M Mx := by
        rw [hMx]
        first | exact tz_x.rf _ | exact (tz_x.rf _).row _ (by decide) | exact ((tz_x.rf _).row _ (by decide)).row _ (by decide) | exact (((tz_x.rf _).row _ (by decide)).row _ (by decide)).row _ (by decide)
      have r86 : Mx 86 = M 86 := by first | (rw [hMx]; done) | (rw [hMx]; rfl)
      have r87 : Mx 87 = M 87 := by first | (rw [hMx]; done) | (rw [hMx]; rfl)
      have r89 : Mx 89 = M 89 := by first | (rw [hMx]; done) | (rw [hMx]; rfl)
      refine tu_aload_n 1138 X 2 dL_law_1138 rfl ?_
      refine tu_iload 1139 X 11 dL_law_1139 rfl ?_
      refine tu_callVI 1141 X (st := []) (as := [tu_i ((l9 : Nat) : Int)]) (c_X3_sing ((l9 : Nat) : Int) (show tu_OK Mx from by exact hx.ok hB) (show tu_HS Mx from by exact hx.hs hJ.2) (show tu_rg ((l9 : Nat) : Int) from by first | assumption | omega | exact ⟨by omega, by omega⟩ | decide)) sv_RL_113 dL_law_1141 rfl (by decide) rfl rfl rfl (Nat.le_of_ble_eq_true rfl) ⟨by decide, by decide⟩ (fun z N1141 h => ?_)
      obtain ⟨y_1141, h1141_0, hz1141⟩ := h
      refine tu_tp (b := y_1141) hz1141 ?_
      obtain ⟨hJ2, hy1, hy2⟩ := tz_sing hJ hx hl h1141_0 r86 r87 r89 (by first | exact Or.inl ⟨by omega, by rw [hMx, show (M 1 7).toNat = NB by omega]; rfl, by rw [hMx, eB]; rfl⟩ | exact Or.inr ⟨by omega, by first | (rw [hMx]; done) | (rw [hMx]; rfl), by first | (rw [hMx]; done) | (rw [hMx]; rfl)⟩)
      refine tu_iload 1144 X 0 dL_law_1144 rfl ?_
      refine tu_if_eq 1146 X 1157 dL_law_1146 (by decide) ⟨by decide, by decide⟩ (fun br1146 => ?_) (fun br1146 => ?_)
      ·
        refine tu_bipush 1157 X dL_law_1157 (by decide) ?_
        refine tu_icmp_eq 1159 X 1164 dL_law_1159 (by decide) (show tu_rg y_1141 from by first | assumption | exact ⟨by omega, by omega⟩) ⟨by decide, by decide⟩ (fun br1159 => ?_) (fun br1159 => ?_)
        ·
          refine tu_goto 1164 X 1576 dL_law_1164 (by decide) ?_
          refine tu_jmp [1, 2, 3, 4, 5, 6, 7, 8, 9, 10] (lv' := [(0, tu_r 100), (1, tu_r 0), (2, tu_r 86), (3, tu_r 87), (4, tu_r 88), (5, tu_r 89), (6, tu_r 90), (7, tu_r 91), (8, tu_i ((i8 : Nat) : Int)), (10, tu_i y8)]) ⟨rfl, rfl, rfl, rfl, rfl, rfl, rfl, rfl, rfl, rfl, trivial⟩ rfl (lp1576 N1141 (by exact hJ2.1))
        ·
          exfalso; omega
      ·
        exfalso; omega
    ·
      exfalso; omega
  ·
    refine tu_iconst 1111 X dL_law_1111 ?_
    refine tu_goto 1112 X 1116 dL_law_1112 (by decide) ?_
    refine tu_istore 1116 X (lv' := [(14, tu_i 1), (0, tu_r 100), (1, tu_r 0), (2, tu_r 86), (3, tu_r 87), (4, tu_r 88), (5, tu_r 89), (6, tu_r 90), (7, tu_r 91), (8, tu_i ((i8 : Nat) : Int)), (10, tu_i y8), (12, tu_i ((l9 : Nat) : Int))]) dL_law_1116 (by rw [hnl]; decide) rfl ?_
    refine tu_iload 1118 X 0 dL_law_1118 rfl ?_
    refine tu_if_eq 1120 X 1138 dL_law_1120 (by decide) ⟨by decide, by decide⟩ (fun br1120 => ?_) (fun br1120 => ?_)
    ·
      exfalso; omega
    ·
      refine tu_aload 1123 X 5 dL_law_1123 rfl ?_
      refine tu_aload 1125 X 7 dL_law_1125 rfl ?_
      refine tu_bipush 1127 X dL_law_1127 (by decide) ?_
      refine tu_dup2 1129 X dL_law_1129 rfl rfl ?_
      refine tu_iald 1130 X (x := M 90 6) 6 dL_law_1130 (by decide) rfl (by decide) rfl (by decide) rfl ?_
      refine tu_tp (b := ((NB : Nat) : Int)) (by rw [q4.2.2.1]; exact eB) ?_
      refine tu_dup_x2 1131 X dL_law_1131 rfl rfl rfl ?_
      refine tu_iconst 1132 X dL_law_1132 ?_
      refine tu_iadd 1133 X dL_law_1133 ?_
      refine tu_iast 1134 X (M' := tu_row M 90 (tu_u (M 90) 6 (((NB : Nat) : Int) + 1))) 6 dL_law_1134 (by decide) rfl (by decide) rfl (by decide) rfl ?_
      refine tu_iload 1135 X 11 dL_law_1135 rfl ?_
      refine tu_iast 1137 X (M' := tu_row (tu_row M 88 (tu_u (M 88) NB ((l9 : Nat) : Int))) 90 (tu_u (M 90) 6 (((NB : Nat) : Int) + 1))) NB dL_law_1137 (by decide) rfl (by decide) (by omega) (by omega) (tu_rc M (tu_u (M 90) 6 (((NB : Nat) : Int) + 1)) (tu_u (M 88) NB ((l9 : Nat) : Int)) rfl) ?_
      obtain ⟨Mx, hMx⟩ : ∃ m99 : tu_M, m99 = tu_row (tu_row M 88 (tu_u (M 88) NB ((l9 : Nat) : Int))) 90 (tu_u (M 90) 6 (((NB : Nat) : Int) + 1)) := ⟨_, rfl⟩
      refine tu_st_eq rfl (M' := Mx) hMx.symm ?_
      have hx : tz_x M Mx := by
        rw [hMx]
        first | exact tz_x.rf _ | exact (tz_x.rf _).row _ (by decide) | exact ((tz_x.rf _).row _ (by decide)).row _ (by decide) | exact (((tz_x.rf _).row _ (by decide)).row _ (by decide)).row _ (by decide)
      have r86 : Mx 86 = M 86 := by first | (rw [hMx]; done) | (rw [hMx]; rfl)
      have r87 : Mx 87 = M 87 := by first | (rw [hMx]; done) | (rw [hMx]; rfl)
      have r89 : Mx 89 = M 89 := by first | (rw [hMx]; done) | (rw [hMx]; rfl)
      refine tu_aload_n 1138 X 2 dL_law_1138 rfl ?_
      refine tu_iload 1139 X 11 dL_law_1139 rfl ?_
      refine tu_callVI 1141 X (st := []) (as := [tu_i ((l9 : Nat) : Int)]) (c_X3_sing ((l9 : Nat) : Int) (show tu_OK Mx from by exact hx.ok hB) (show tu_HS Mx from by exact hx.hs hJ.2) (show tu_rg ((l9 : Nat) : Int) from by first | assumption | omega | exact ⟨by omega, by omega⟩ | decide)) sv_RL_113 dL_law_1141 rfl (by decide) rfl rfl rfl (Nat.le_of_ble_eq_true rfl) ⟨by decide, by decide⟩ (fun z N1141 h => ?_)
      obtain ⟨y_1141, h1141_0, hz1141⟩ := h
      refine tu_tp (b := y_1141) hz1141 ?_
      obtain ⟨hJ2, hy1, hy2⟩ := tz_sing hJ hx hl h1141_0 r86 r87 r89 (by first | exact Or.inl ⟨by omega, by rw [hMx, show (M 1 7).toNat = NB by omega]; rfl, by rw [hMx, eB]; rfl⟩ | exact Or.inr ⟨by omega, by first | (rw [hMx]; done) | (rw [hMx]; rfl), by first | (rw [hMx]; done) | (rw [hMx]; rfl)⟩)
      refine tu_iload 1144 X 0 dL_law_1144 rfl ?_
      refine tu_if_eq 1146 X 1157 dL_law_1146 (by decide) ⟨by decide, by decide⟩ (fun br1146 => ?_) (fun br1146 => ?_)
      ·
        exfalso; omega
      ·
        refine tu_aload 1149 X 7 dL_law_1149 rfl ?_
        refine tu_bipush 1151 X dL_law_1151 (by decide) ?_
        refine tu_iald 1153 X (x := N1141 90 6) 6 dL_law_1153 (by decide) rfl (by decide) rfl (by decide) rfl ?_
        refine tu_tp (b := (((NB : Nat) : Int) + 1)) (by rw [hJ2.2, hMx, tu_row_s, tu_u_s]) ?_
        refine tu_goto 1154 X 1159 dL_law_1154 (by decide) ?_
        refine tu_icmp_eq 1159 X 1164 dL_law_1159 (by decide) (show tu_rg y_1141 from by first | assumption | exact ⟨by omega, by omega⟩) (show tu_rg (((NB : Nat) : Int) + 1) from by first | assumption | exact ⟨by omega, by omega⟩) (fun br1159 => ?_) (fun br1159 => ?_)
        ·
          refine tu_goto 1164 X 1576 dL_law_1164 (by decide) ?_
          refine tu_jmp [1, 2, 3, 4, 5, 6, 7, 8, 9, 10] (lv' := [(0, tu_r 100), (1, tu_r 0), (2, tu_r 86), (3, tu_r 87), (4, tu_r 88), (5, tu_r 89), (6, tu_r 90), (7, tu_r 91), (8, tu_i ((i8 : Nat) : Int)), (10, tu_i y8)]) ⟨rfl, rfl, rfl, rfl, rfl, rfl, rfl, rfl, rfl, rfl, trivial⟩ rfl (lp1576 N1141 (by exact hJ2.1))
        ·
          exfalso; omega
