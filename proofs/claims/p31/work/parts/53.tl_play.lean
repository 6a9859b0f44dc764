set_option maxRecDepth 20000 in
set_option maxHeartbeats 1000000 in
theorem tl_play {T : tu_T} (X : tu_X T cL_law RL 9 344) (hnl : T.2.2.2.2.2.2.2.2.2.2.1 = 18) {M : tu_M} (hJ : tz_J M) {i8 : Nat} {y8 : Int} {p9 : Nat} (hp : (p9 : Int) < M 1 4) (lp1576 : ∀ (Mz : tu_M), (tz_J Mz) → tu_W T 1576 [(0, tu_r 100), (1, tu_r 0), (2, tu_r 86), (3, tu_r 87), (4, tu_r 88), (5, tu_r 89), (6, tu_r 90), (7, tu_r 91), (8, tu_i ((i8 : Nat) : Int)), (10, tu_i y8)] [] Mz) : tu_W T 1181 [(0, tu_r 100), (1, tu_r 0), (2, tu_r 86), (3, tu_r 87), (4, tu_r 88), (5, tu_r 89), (6, tu_r 90), (7, tu_r 91), (8, tu_i ((i8 : Nat) : Int)), (10, tu_i y8), (13, tu_i ((p9 : Nat) : Int))] [] M := by
  have hR := hJ.1
  have hB := hR.ok
  have cn := hB.cnt
  have hsm := hR.small
  have q4 := hR.q4
  have hqs := hR.qs
  obtain ⟨NL, eL⟩ : ∃ c : Nat, M 1 1 = (c : Int) := ⟨(M 1 1).toNat, by omega⟩
  obtain ⟨NP, eP⟩ : ∃ c : Nat, M 1 4 = (c : Int) := ⟨(M 1 4).toNat, by omega⟩
  obtain ⟨NB, eB⟩ : ∃ c : Nat, M 1 7 = (c : Int) := ⟨(M 1 7).toNat, by omega⟩
  obtain ⟨NT, eT⟩ : ∃ c : Nat, M 1 9 = (c : Int) := ⟨(M 1 9).toNat, by omega⟩
  refine tu_aload 1181 X 6 dL_law_1181 rfl ?_
  refine tu_bipush 1183 X dL_law_1183 (by decide) ?_
  refine tu_iald 1185 X (x := M 90 7) 7 dL_law_1185 (by decide) rfl (by decide) rfl (by decide) rfl ?_
  refine tu_tp (b := ((NT : Nat) : Int)) (by rw [q4.2.2.2]; exact eT) ?_
  refine tu_bipush 1186 X dL_law_1186 (by decide) ?_
  refine tu_icmp_ge 1188 X 1195 dL_law_1188 (by decide) (show tu_rg ((NT : Nat) : Int) from by first | assumption | exact ⟨by omega, by omega⟩) ⟨by decide, by decide⟩ (fun br1188 => ?_) (fun br1188 => ?_)
  ·
    refine tu_iconst 1195 X dL_law_1195 ?_
    refine tu_istore 1196 X (lv' := [(14, tu_i 0), (0, tu_r 100), (1, tu_r 0), (2, tu_r 86), (3, tu_r 87), (4, tu_r 88), (5, tu_r 89), (6, tu_r 90), (7, tu_r 91), (8, tu_i ((i8 : Nat) : Int)), (10, tu_i y8), (13, tu_i ((p9 : Nat) : Int))]) dL_law_1196 (by rw [hnl]; decide) rfl ?_
    refine tu_iload 1198 X 0 dL_law_1198 rfl ?_
    refine tu_if_eq 1200 X 1218 dL_law_1200 (by decide) ⟨by decide, by decide⟩ (fun br1200 => ?_) (fun br1200 => ?_)
    ·
      obtain ⟨Mx, hMx⟩ : ∃ m99 : tu_M, m99 = M := ⟨_, rfl⟩
      refine tu_st_eq rfl (M' := Mx) hMx.symm ?_
      have hx : tz_x M Mx := by
        rw [hMx]
        first | exact tz_x.rf _ | exact (tz_x.rf _).row _ (by decide) | exact ((tz_x.rf _).row _ (by decide)).row _ (by decide) | exact (((tz_x.rf _).row _ (by decide)).row _ (by decide)).row _ (by decide)
      have r86 : Mx 86 = M 86 := by first | (rw [hMx]; done) | (rw [hMx]; rfl)
      have r87 : Mx 87 = M 87 := by first | (rw [hMx]; done) | (rw [hMx]; rfl)
      have r88 : Mx 88 = M 88 := by first | (rw [hMx]; done) | (rw [hMx]; rfl)
      refine tu_aload_n 1218 X 2 dL_law_1218 rfl ?_
      refine tu_iload 1219 X 11 dL_law_1219 rfl ?_
      refine tu_callVI 1221 X (st := []) (as := [tu_i ((p9 : Nat) : Int)]) (c_X3_play ((p9 : Nat) : Int) (show tu_OK Mx from by exact hx.ok hB) (show tu_HS Mx from by exact hx.hs hJ.2) (show tu_rg ((p9 : Nat) : Int) from by first | assumption | omega | exact ⟨by omega, by omega⟩ | decide)) sv_RL_116 dL_law_1221 rfl (by decide) rfl rfl rfl (Nat.le_of_ble_eq_true rfl) ⟨by decide, by decide⟩ (fun z N1221 h => ?_)
      obtain ⟨y_1221, h1221_0, hz1221⟩ := h
      refine tu_tp (b := y_1221) hz1221 ?_
      obtain ⟨hJ2, hy1, hy2⟩ := tz_play hJ hx hp h1221_0 r86 r87 r88 (by first | exact Or.inl ⟨by omega, by rw [hMx, show (M 1 9).toNat = NT by omega]; rfl, by rw [hMx, eT]; rfl⟩ | exact Or.inr ⟨by omega, by first | (rw [hMx]; done) | (rw [hMx]; rfl), by first | (rw [hMx]; done) | (rw [hMx]; rfl)⟩)
      refine tu_iload 1224 X 0 dL_law_1224 rfl ?_
      refine tu_if_eq 1226 X 1237 dL_law_1226 (by decide) ⟨by decide, by decide⟩ (fun br1226 => ?_) (fun br1226 => ?_)
      ·
        refine tu_bipush 1237 X dL_law_1237 (by decide) ?_
        refine tu_icmp_eq 1239 X 1244 dL_law_1239 (by decide) (show tu_rg y_1221 from by first | assumption | exact ⟨by omega, by omega⟩) ⟨by decide, by decide⟩ (fun br1239 => ?_) (fun br1239 => ?_)
        ·
          refine tu_goto 1244 X 1576 dL_law_1244 (by decide) ?_
          refine tu_jmp [1, 2, 3, 4, 5, 6, 7, 8, 9, 10] (lv' := [(0, tu_r 100), (1, tu_r 0), (2, tu_r 86), (3, tu_r 87), (4, tu_r 88), (5, tu_r 89), (6, tu_r 90), (7, tu_r 91), (8, tu_i ((i8 : Nat) : Int)), (10, tu_i y8)]) ⟨rfl, rfl, rfl, rfl, rfl, rfl, rfl, rfl, rfl, rfl, trivial⟩ rfl (lp1576 N1221 (by exact hJ2.1))
        ·
          exfalso; omega
      ·
        exfalso; omega
    ·
      exfalso; omega
  ·
    refine tu_iconst 1191 X dL_law_1191 ?_
    refine tu_goto 1192 X 1196 dL_law_1192 (by decide) ?_
    refine tu_istore 1196 X (lv' := [(14, tu_i 1), (0, tu_r 100), (1, tu_r 0), (2, tu_r 86), (3, tu_r 87), (4, tu_r 88), (5, tu_r 89), (6, tu_r 90), (7, tu_r 91), (8, tu_i ((i8 : Nat) : Int)), (10, tu_i y8), (13, tu_i ((p9 : Nat) : Int))]) dL_law_1196 (by rw [hnl]; decide) rfl ?_
    refine tu_iload 1198 X 0 dL_law_1198 rfl ?_
    refine tu_if_eq 1200 X 1218 dL_law_1200 (by decide) ⟨by decide, by decide⟩ (fun br1200 => ?_) (fun br1200 => ?_)
    ·
      exfalso; omega
    ·
      refine tu_aload 1203 X 6 dL_law_1203 rfl ?_
      refine tu_aload 1205 X 7 dL_law_1205 rfl ?_
      refine tu_bipush 1207 X dL_law_1207 (by decide) ?_
      refine tu_dup2 1209 X dL_law_1209 rfl rfl ?_
      refine tu_iald 1210 X (x := M 90 7) 7 dL_law_1210 (by decide) rfl (by decide) rfl (by decide) rfl ?_
      refine tu_tp (b := ((NT : Nat) : Int)) (by rw [q4.2.2.2]; exact eT) ?_
      refine tu_dup_x2 1211 X dL_law_1211 rfl rfl rfl ?_
      refine tu_iconst 1212 X dL_law_1212 ?_
      refine tu_iadd 1213 X dL_law_1213 ?_
      refine tu_iast 1214 X (M' := tu_row M 90 (tu_u (M 90) 7 (((NT : Nat) : Int) + 1))) 7 dL_law_1214 (by decide) rfl (by decide) rfl (by decide) rfl ?_
      refine tu_iload 1215 X 11 dL_law_1215 rfl ?_
      refine tu_iast 1217 X (M' := tu_row (tu_row M 89 (tu_u (M 89) NT ((p9 : Nat) : Int))) 90 (tu_u (M 90) 7 (((NT : Nat) : Int) + 1))) NT dL_law_1217 (by decide) rfl (by decide) (by omega) (by omega) (tu_rc M (tu_u (M 90) 7 (((NT : Nat) : Int) + 1)) (tu_u (M 89) NT ((p9 : Nat) : Int)) rfl) ?_
      obtain ⟨Mx, hMx⟩ : ∃ m99 : tu_M, m99 = tu_row (tu_row M 89 (tu_u (M 89) NT ((p9 : Nat) : Int))) 90 (tu_u (M 90) 7 (((NT : Nat) : Int) + 1)) := ⟨_, rfl⟩
      refine tu_st_eq rfl (M' := Mx) hMx.symm ?_
      have hx : tz_x M Mx := by
        rw [hMx]
        first | exact tz_x.rf _ | exact (tz_x.rf _).row _ (by decide) | exact ((tz_x.rf _).row _ (by decide)).row _ (by decide) | exact (((tz_x.rf _).row _ (by decide)).row _ (by decide)).row _ (by decide)
      have r86 : Mx 86 = M 86 := by first | (rw [hMx]; done) | (rw [hMx]; rfl)
      have r87 : Mx 87 = M 87 := by first | (rw [hMx]; done) | (rw [hMx]; rfl)
      have r88 : Mx 88 = M 88 := by first | (rw [hMx]; done) | (rw [hMx]; rfl)
      refine tu_aload_n 1218 X 2 dL_law_1218 rfl ?_
      refine tu_iload 1219 X 11 dL_law_1219 rfl ?_
      refine tu_callVI 1221 X (st := []) (as := [tu_i ((p9 : Nat) : Int)]) (c_X3_play ((p9 : Nat) : Int) (show tu_OK Mx from by exact hx.ok hB) (show tu_HS Mx from by exact hx.hs hJ.2) (show tu_rg ((p9 : Nat) : Int) from by first | assumption | omega | exact ⟨by omega, by omega⟩ | decide)) sv_RL_116 dL_law_1221 rfl (by decide) rfl rfl rfl (Nat.le_of_ble_eq_true rfl) ⟨by decide, by decide⟩ (fun z N1221 h => ?_)
      obtain ⟨y_1221, h1221_0, hz1221⟩ := h
      refine tu_tp (b := y_1221) hz1221 ?_
      obtain ⟨hJ2, hy1, hy2⟩ := tz_play hJ hx hp h1221_0 r86 r87 r88 (by first | exact Or.inl ⟨by omega, by rw [hMx, show (M 1 9).toNat = NT by omega]; rfl, by rw [hMx, eT]; rfl⟩ | exact Or.inr ⟨by omega, by first | (rw [hMx]; done) | (rw [hMx]; rfl), by first | (rw [hMx]; done) | (rw [hMx]; rfl)⟩)
      refine tu_iload 1224 X 0 dL_law_1224 rfl ?_
      refine tu_if_eq 1226 X 1237 dL_law_1226 (by decide) ⟨by decide, by decide⟩ (fun br1226 => ?_) (fun br1226 => ?_)
      ·
        exfalso; omega
      ·
        refine tu_aload 1229 X 7 dL_law_1229 rfl ?_
        refine tu_bipush 1231 X dL_law_1231 (by decide) ?_
        refine tu_iald 1233 X (x := N1221 90 7) 7 dL_law_1233 (by decide) rfl (by decide) rfl (by decide) rfl ?_
        refine tu_tp (b := (((NT : Nat) : Int) + 1)) (by rw [hJ2.2, hMx, tu_row_s, tu_u_s]) ?_
        refine tu_goto 1234 X 1239 dL_law_1234 (by decide) ?_
        refine tu_icmp_eq 1239 X 1244 dL_law_1239 (by decide) (show tu_rg y_1221 from by first | assumption | exact ⟨by omega, by omega⟩) (show tu_rg (((NT : Nat) : Int) + 1) from by first | assumption | exact ⟨by omega, by omega⟩) (fun br1239 => ?_) (fun br1239 => ?_)
        ·
          refine tu_goto 1244 X 1576 dL_law_1244 (by decide) ?_
          refine tu_jmp [1, 2, 3, 4, 5, 6, 7, 8, 9, 10] (lv' := [(0, tu_r 100), (1, tu_r 0), (2, tu_r 86), (3, tu_r 87), (4, tu_r 88), (5, tu_r 89), (6, tu_r 90), (7, tu_r 91), (8, tu_i ((i8 : Nat) : Int)), (10, tu_i y8)]) ⟨rfl, rfl, rfl, rfl, rfl, rfl, rfl, rfl, rfl, rfl, trivial⟩ rfl (lp1576 N1221 (by exact hJ2.1))
        ·
          exfalso; omega
