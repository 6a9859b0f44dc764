set_option maxRecDepth 20000 in
set_option maxHeartbeats 1000000 in
theorem tl_verse {T : tu_T} (X : tu_X T cL_law RL 9 344) (hnl : T.2.2.2.2.2.2.2.2.2.2.1 = 18) {M : tu_M} (hJ : tz_J M) {i8 : Nat} {y8 : Int} {l9 : Nat} (hl : (l9 : Int) < M 1 1) (lp1576 : ∀ (Mz : tu_M), (tz_J Mz) → tu_W T 1576 [(0, tu_r 100), (1, tu_r 0), (2, tu_r 86), (3, tu_r 87), (4, tu_r 88), (5, tu_r 89), (6, tu_r 90), (7, tu_r 91), (8, tu_i ((i8 : Nat) : Int)), (10, tu_i y8)] [] Mz) : tu_W T 1261 [(0, tu_r 100), (1, tu_r 0), (2, tu_r 86), (3, tu_r 87), (4, tu_r 88), (5, tu_r 89), (6, tu_r 90), (7, tu_r 91), (8, tu_i ((i8 : Nat) : Int)), (10, tu_i y8), (12, tu_i ((l9 : Nat) : Int))] [] M := by
  have hR := hJ.1
  have hB := hR.ok
  have cn := hB.cnt
  have hsm := hR.small
  have q4 := hR.q4
  have hqs := hR.qs
  obtain ⟨NL, eL⟩ : ∃ c : Nat, M 1 1 = (c : Int) := ⟨(M 1 1).toNat, by omega⟩
  obtain ⟨NP, eP⟩ : ∃ c : Nat, M 1 4 = (c : Int) := ⟨(M 1 4).toNat, by omega⟩
  obtain ⟨NB, eB⟩ : ∃ c : Nat, M 1 7 = (c : Int) := ⟨(M 1 7).toNat, by omega⟩
  obtain ⟨NT, eT⟩ : ∃ c : Nat, M 1 9 = (c : Int) := ⟨(M 1 9).toNat, by omega⟩
  refine tu_iload 1261 X 9 dL_law_1261 rfl ?_
  refine tu_aload 1263 X 6 dL_law_1263 rfl ?_
  refine tu_iconst 1265 X dL_law_1265 ?_
  refine tu_iald 1266 X (x := M 90 4) 4 dL_law_1266 (by decide) rfl (by decide) rfl (by decide) rfl ?_
  refine tu_tp (b := ((NL : Nat) : Int)) (by rw [q4.1]; exact eL) ?_
  refine tu_callSI 1267 X (st := []) (as := [tu_i y8, tu_i ((NL : Nat) : Int)]) (c_L_low y8 NL (show 0 < NL ∧ NL < 2147483648 from by first | assumption | omega | exact ⟨by omega, by omega⟩ | decide)) ss_RL_61 dL_law_1267 rfl (Nat.le_of_ble_eq_true rfl) ⟨by decide, by decide⟩ (fun z M' h => ?_)
  obtain ⟨j_1267, hM1267, h1267_0, hz1267⟩ := h
  refine tu_st_eq rfl (M' := M) hM1267 ?_
  refine tu_tp (b := ((j_1267 : Nat) : Int)) hz1267 ?_
  refine tu_istore 1270 X (lv' := [(14, tu_i ((j_1267 : Nat) : Int)), (0, tu_r 100), (1, tu_r 0), (2, tu_r 86), (3, tu_r 87), (4, tu_r 88), (5, tu_r 89), (6, tu_r 90), (7, tu_r 91), (8, tu_i ((i8 : Nat) : Int)), (10, tu_i y8), (12, tu_i ((l9 : Nat) : Int))]) dL_law_1270 (by rw [hnl]; decide) rfl ?_
  refine tu_iload 1272 X 10 dL_law_1272 rfl ?_
  refine tu_iconst 1274 X dL_law_1274 ?_
  refine tu_ishr 1275 X dL_law_1275 ?_
  refine tu_aload 1276 X 7 dL_law_1276 rfl ?_
  refine tu_iconst 1278 X dL_law_1278 ?_
  refine tu_iald 1279 X (x := M 90 4) 4 dL_law_1279 (by decide) rfl (by decide) rfl (by decide) rfl ?_
  refine tu_tp (b := ((NL : Nat) : Int)) (by rw [q4.1]; exact eL) ?_
  refine tu_callSI 1280 X (st := []) (as := [tu_i (tu_shr y8 4), tu_i ((NL : Nat) : Int)]) (c_L_low (tu_shr y8 4) NL (show 0 < NL ∧ NL < 2147483648 from by first | assumption | omega | exact ⟨by omega, by omega⟩ | decide)) ss_RL_61 dL_law_1280 rfl (Nat.le_of_ble_eq_true rfl) ⟨by decide, by decide⟩ (fun z M' h => ?_)
  obtain ⟨j_1280, hM1280, h1280_0, hz1280⟩ := h
  refine tu_st_eq rfl (M' := M) hM1280 ?_
  refine tu_tp (b := ((j_1280 : Nat) : Int)) hz1280 ?_
  refine tu_istore 1283 X (lv' := [(15, tu_i ((j_1280 : Nat) : Int)), (14, tu_i ((j_1267 : Nat) : Int)), (0, tu_r 100), (1, tu_r 0), (2, tu_r 86), (3, tu_r 87), (4, tu_r 88), (5, tu_r 89), (6, tu_r 90), (7, tu_r 91), (8, tu_i ((i8 : Nat) : Int)), (10, tu_i y8), (12, tu_i ((l9 : Nat) : Int))]) dL_law_1283 (by rw [hnl]; decide) rfl ?_
  refine tu_iload 1285 X 1 dL_law_1285 rfl ?_
  refine tu_iload 1287 X 12 dL_law_1287 rfl ?_
  refine tu_icmp_lt 1289 X 1316 dL_law_1289 (by decide) (show tu_rg ((j_1267 : Nat) : Int) from by first | assumption | exact ⟨by omega, by omega⟩) (show tu_rg ((l9 : Nat) : Int) from by first | assumption | exact ⟨by omega, by omega⟩) (fun br1289 => ?_) (fun br1289 => ?_)
  ·
    refine tu_iconst 1316 X dL_law_1316 ?_
    refine tu_istore 1317 X (lv' := [(16, tu_i 0), (15, tu_i ((j_1280 : Nat) : Int)), (14, tu_i ((j_1267 : Nat) : Int)), (0, tu_r 100), (1, tu_r 0), (2, tu_r 86), (3, tu_r 87), (4, tu_r 88), (5, tu_r 89), (6, tu_r 90), (7, tu_r 91), (8, tu_i ((i8 : Nat) : Int)), (10, tu_i y8), (12, tu_i ((l9 : Nat) : Int))]) dL_law_1317 (by rw [hnl]; decide) rfl ?_
    refine tu_iload 1319 X 0 dL_law_1319 rfl ?_
    refine tu_if_eq 1321 X 1371 dL_law_1321 (by decide) ⟨by decide, by decide⟩ (fun br1321 => ?_) (fun br1321 => ?_)
    ·
      obtain ⟨Mx, hMx⟩ : ∃ m99 : tu_M, m99 = M := ⟨_, rfl⟩
      refine tu_st_eq rfl (M' := Mx) hMx.symm ?_
      have hx : tz_x M Mx := by
        rw [hMx]
        first | exact tz_x.rf _ | exact (tz_x.rf _).row _ (by decide) | exact ((tz_x.rf _).row _ (by decide)).row _ (by decide) | exact (((tz_x.rf _).row _ (by decide)).row _ (by decide)).row _ (by decide)
      have r86 : Mx 86 = M 86 := by first | (rw [hMx]; done) | (rw [hMx]; rfl)
      have r87 : Mx 87 = M 87 := by first | (rw [hMx]; done) | (rw [hMx]; rfl)
      have r89 : Mx 89 = M 89 := by first | (rw [hMx]; done) | (rw [hMx]; rfl)
      have hvc : ((l9 ≤ j_1267 ∧ M 1 7 + 2 * (((j_1267 : Nat) : Int) - ((l9 : Nat) : Int) + 1) ≤ 40) ∧ Mx 88 = tu_vs (M 88) (M 1 7).toNat ((l9 : Nat) : Int) ((j_1280 : Nat) : Int) (j_1267 + 1 - l9) ∧ Mx 90 = tu_u (M 90) 6 ((M 1 7) + 2 * (((j_1267 : Nat) : Int) - ((l9 : Nat) : Int) + 1))) ∨ (¬ (l9 ≤ j_1267 ∧ M 1 7 + 2 * (((j_1267 : Nat) : Int) - ((l9 : Nat) : Int) + 1) ≤ 40) ∧ Mx 88 = M 88 ∧ Mx 90 = M 90) := by
        first
        | exact Or.inr ⟨by omega, by rw [hMx], by rw [hMx]⟩
        | (refine Or.inl ⟨⟨by omega, by omega⟩, ?_, ?_⟩
           · rw [hMx, show (M 1 7).toNat = NB by omega, show j_1267 + 1 - l9 = k9 by omega]; rfl
           · rw [hMx, show ((M 1 7) + 2 * (((j_1267 : Nat) : Int) - ((l9 : Nat) : Int) + 1)) = ((NB + 2 * k9 : Nat) : Int) by omega]; rfl)
      have hvd : l9 ≤ j_1267 → M 1 7 + 2 * (((j_1267 : Nat) : Int) - ((l9 : Nat) : Int) + 1) ≤ 40 → Mx 90 6 = ((M 1 7) + 2 * (((j_1267 : Nat) : Int) - ((l9 : Nat) : Int) + 1)) := fun a b => by
        rcases hvc with q | q
        · rw [q.2.2, tu_u_s]
        · exact absurd ⟨a, b⟩ q.1
      refine tu_aload_n 1371 X 4 dL_law_1371 rfl ?_
      refine tu_iload 1372 X 13 dL_law_1372 rfl ?_
      refine tu_iload 1374 X 2 dL_law_1374 rfl ?_
      refine tu_iload 1376 X 1 dL_law_1376 rfl ?_
      refine tu_callVI 1378 X (st := []) (as := [tu_i ((l9 : Nat) : Int), tu_i ((j_1267 : Nat) : Int), tu_i ((j_1280 : Nat) : Int)]) (c_X3_verse ((l9 : Nat) : Int) ((j_1267 : Nat) : Int) ((j_1280 : Nat) : Int) (show tu_OK Mx from by exact hx.ok hB) (show tu_HS Mx from by exact hx.hs hJ.2) (show tu_rg ((l9 : Nat) : Int) from by first | assumption | omega | exact ⟨by omega, by omega⟩ | decide) (show tu_rg ((j_1267 : Nat) : Int) from by first | assumption | omega | exact ⟨by omega, by omega⟩ | decide) (show tu_rg ((j_1280 : Nat) : Int) from by first | assumption | omega | exact ⟨by omega, by omega⟩ | decide)) sv_RL_119 dL_law_1378 rfl (by decide) rfl rfl rfl (Nat.le_of_ble_eq_true rfl) ⟨by decide, by decide⟩ (fun z N1378 h => ?_)
      obtain ⟨y_1378, h1378_0, hz1378⟩ := h
      refine tu_tp (b := y_1378) hz1378 ?_
      obtain ⟨hJ2, hy1, hy2, hy3⟩ := tz_verse hJ hx hl (show ((j_1267 : Nat) : Int) < M 1 1 by omega) (show ((j_1280 : Nat) : Int) < M 1 1 by omega) h1378_0 r86 r87 r89 hvc
      refine tu_iload 1381 X 2 dL_law_1381 rfl ?_
      refine tu_iload 1383 X 13 dL_law_1383 rfl ?_
      refine tu_icmp_ge 1385 X 1393 dL_law_1385 (by decide) (show tu_rg ((j_1267 : Nat) : Int) from by first | assumption | exact ⟨by omega, by omega⟩) (show tu_rg ((l9 : Nat) : Int) from by first | assumption | exact ⟨by omega, by omega⟩) (fun br1385 => ?_) (fun br1385 => ?_)
      ·
        exfalso; omega
      ·
        refine tu_bipush 1388 X dL_law_1388 (by decide) ?_
        refine tu_goto 1390 X 1408 dL_law_1390 (by decide) ?_
        refine tu_icmp_eq 1408 X 1413 dL_law_1408 (by decide) (show tu_rg y_1378 from by first | assumption | exact ⟨by omega, by omega⟩) ⟨by decide, by decide⟩ (fun br1408 => ?_) (fun br1408 => ?_)
        ·
          refine tu_goto 1413 X 1576 dL_law_1413 (by decide) ?_
          refine tu_jmp [3, 4, 5, 6, 7, 8, 9, 10, 11, 12] (lv' := [(0, tu_r 100), (1, tu_r 0), (2, tu_r 86), (3, tu_r 87), (4, tu_r 88), (5, tu_r 89), (6, tu_r 90), (7, tu_r 91), (8, tu_i ((i8 : Nat) : Int)), (10, tu_i y8)]) ⟨rfl, rfl, rfl, rfl, rfl, rfl, rfl, rfl, rfl, rfl, trivial⟩ rfl (lp1576 N1378 (by exact hJ2.1))
        ·
          exfalso; omega
    ·
      exfalso; omega
  ·
    refine tu_aload 1292 X 8 dL_law_1292 rfl ?_
    refine tu_bipush 1294 X dL_law_1294 (by decide) ?_
    refine tu_iald 1296 X (x := M 90 6) 6 dL_law_1296 (by decide) rfl (by decide) rfl (by decide) rfl ?_
    refine tu_tp (b := ((NB : Nat) : Int)) (by rw [q4.2.2.1]; exact eB) ?_
    refine tu_iconst 1297 X dL_law_1297 ?_
    refine tu_iload 1298 X 1 dL_law_1298 rfl ?_
    refine tu_iload 1300 X 12 dL_law_1300 rfl ?_
    refine tu_isub 1302 X dL_law_1302 ?_
    refine tu_iconst 1303 X dL_law_1303 ?_
    refine tu_iadd 1304 X dL_law_1304 ?_
    refine tu_imul 1305 X dL_law_1305 ?_
    refine tu_iadd 1306 X dL_law_1306 ?_
    refine tu_bipush 1307 X dL_law_1307 (by decide) ?_
    refine tu_icmp_gt 1309 X 1316 dL_law_1309 (by decide) (show tu_rg (((NB : Nat) : Int) + (2 * ((((j_1267 : Nat) : Int) - ((l9 : Nat) : Int)) + 1))) from by first | assumption | exact ⟨by omega, by omega⟩) ⟨by decide, by decide⟩ (fun br1309 => ?_) (fun br1309 => ?_)
    ·
      refine tu_iconst 1316 X dL_law_1316 ?_
      refine tu_istore 1317 X (lv' := [(16, tu_i 0), (15, tu_i ((j_1280 : Nat) : Int)), (14, tu_i ((j_1267 : Nat) : Int)), (0, tu_r 100), (1, tu_r 0), (2, tu_r 86), (3, tu_r 87), (4, tu_r 88), (5, tu_r 89), (6, tu_r 90), (7, tu_r 91), (8, tu_i ((i8 : Nat) : Int)), (10, tu_i y8), (12, tu_i ((l9 : Nat) : Int))]) dL_law_1317 (by rw [hnl]; decide) rfl ?_
      refine tu_iload 1319 X 0 dL_law_1319 rfl ?_
      refine tu_if_eq 1321 X 1371 dL_law_1321 (by decide) ⟨by decide, by decide⟩ (fun br1321 => ?_) (fun br1321 => ?_)
      ·
        obtain ⟨Mx, hMx⟩ : ∃ m99 : tu_M, m99 = M := ⟨_, rfl⟩
        refine tu_st_eq rfl (M' := Mx) hMx.symm ?_
        have hx : tz_x M Mx := by
          rw [hMx]
          first | exact tz_x.rf _ | exact (tz_x.rf _).row _ (by decide) | exact ((tz_x.rf _).row _ (by decide)).row _ (by decide) | exact (((tz_x.rf _).row _ (by decide)).row _ (by decide)).row _ (by decide)
        have r86 : Mx 86 = M 86 := by first | (rw [hMx]; done) | (rw [hMx]; rfl)
        have r87 : Mx 87 = M 87 := by first | (rw [hMx]; done) | (rw [hMx]; rfl)
        have r89 : Mx 89 = M 89 := by first | (rw [hMx]; done) | (rw [hMx]; rfl)
        have hvc : ((l9 ≤ j_1267 ∧ M 1 7 + 2 * (((j_1267 : Nat) : Int) - ((l9 : Nat) : Int) + 1) ≤ 40) ∧ Mx 88 = tu_vs (M 88) (M 1 7).toNat ((l9 : Nat) : Int) ((j_1280 : Nat) : Int) (j_1267 + 1 - l9) ∧ Mx 90 = tu_u (M 90) 6 ((M 1 7) + 2 * (((j_1267 : Nat) : Int) - ((l9 : Nat) : Int) + 1))) ∨ (¬ (l9 ≤ j_1267 ∧ M 1 7 + 2 * (((j_1267 : Nat) : Int) - ((l9 : Nat) : Int) + 1) ≤ 40) ∧ Mx 88 = M 88 ∧ Mx 90 = M 90) := by
          first
          | exact Or.inr ⟨by omega, by rw [hMx], by rw [hMx]⟩
          | (refine Or.inl ⟨⟨by omega, by omega⟩, ?_, ?_⟩
             · rw [hMx, show (M 1 7).toNat = NB by omega, show j_1267 + 1 - l9 = k9 by omega]; rfl
             · rw [hMx, show ((M 1 7) + 2 * (((j_1267 : Nat) : Int) - ((l9 : Nat) : Int) + 1)) = ((NB + 2 * k9 : Nat) : Int) by omega]; rfl)
        have hvd : l9 ≤ j_1267 → M 1 7 + 2 * (((j_1267 : Nat) : Int) - ((l9 : Nat) : Int) + 1) ≤ 40 → Mx 90 6 = ((M 1 7) + 2 * (((j_1267 : Nat) : Int) - ((l9 : Nat) : Int) + 1)) := fun a b => by
          rcases hvc with q | q
          · rw [q.2.2, tu_u_s]
          · exact absurd ⟨a, b⟩ q.1
        refine tu_aload_n 1371 X 4 dL_law_1371 rfl ?_
        refine tu_iload 1372 X 13 dL_law_1372 rfl ?_
        refine tu_iload 1374 X 2 dL_law_1374 rfl ?_
        refine tu_iload 1376 X 1 dL_law_1376 rfl ?_
        refine tu_callVI 1378 X (st := []) (as := [tu_i ((l9 : Nat) : Int), tu_i ((j_1267 : Nat) : Int), tu_i ((j_1280 : Nat) : Int)]) (c_X3_verse ((l9 : Nat) : Int) ((j_1267 : Nat) : Int) ((j_1280 : Nat) : Int) (show tu_OK Mx from by exact hx.ok hB) (show tu_HS Mx from by exact hx.hs hJ.2) (show tu_rg ((l9 : Nat) : Int) from by first | assumption | omega | exact ⟨by omega, by omega⟩ | decide) (show tu_rg ((j_1267 : Nat) : Int) from by first | assumption | omega | exact ⟨by omega, by omega⟩ | decide) (show tu_rg ((j_1280 : Nat) : Int) from by first | assumption | omega | exact ⟨by omega, by omega⟩ | decide)) sv_RL_119 dL_law_1378 rfl (by decide) rfl rfl rfl (Nat.le_of_ble_eq_true rfl) ⟨by decide, by decide⟩ (fun z N1378 h => ?_)
        obtain ⟨y_1378, h1378_0, hz1378⟩ := h
        refine tu_tp (b := y_1378) hz1378 ?_
        obtain ⟨hJ2, hy1, hy2, hy3⟩ := tz_verse hJ hx hl (show ((j_1267 : Nat) : Int) < M 1 1 by omega) (show ((j_1280 : Nat) : Int) < M 1 1 by omega) h1378_0 r86 r87 r89 hvc
        refine tu_iload 1381 X 2 dL_law_1381 rfl ?_
        refine tu_iload 1383 X 13 dL_law_1383 rfl ?_
        refine tu_icmp_ge 1385 X 1393 dL_law_1385 (by decide) (show tu_rg ((j_1267 : Nat) : Int) from by first | assumption | exact ⟨by omega, by omega⟩) (show tu_rg ((l9 : Nat) : Int) from by first | assumption | exact ⟨by omega, by omega⟩) (fun br1385 => ?_) (fun br1385 => ?_)
        ·
          refine tu_iload 1393 X 0 dL_law_1393 rfl ?_
          refine tu_if_eq 1395 X 1406 dL_law_1395 (by decide) ⟨by decide, by decide⟩ (fun br1395 => ?_) (fun br1395 => ?_)
          ·
            refine tu_bipush 1406 X dL_law_1406 (by decide) ?_
            refine tu_icmp_eq 1408 X 1413 dL_law_1408 (by decide) (show tu_rg y_1378 from by first | assumption | exact ⟨by omega, by omega⟩) ⟨by decide, by decide⟩ (fun br1408 => ?_) (fun br1408 => ?_)
            ·
              refine tu_goto 1413 X 1576 dL_law_1413 (by decide) ?_
              refine tu_jmp [3, 4, 5, 6, 7, 8, 9, 10, 11, 12] (lv' := [(0, tu_r 100), (1, tu_r 0), (2, tu_r 86), (3, tu_r 87), (4, tu_r 88), (5, tu_r 89), (6, tu_r 90), (7, tu_r 91), (8, tu_i ((i8 : Nat) : Int)), (10, tu_i y8)]) ⟨rfl, rfl, rfl, rfl, rfl, rfl, rfl, rfl, rfl, rfl, trivial⟩ rfl (lp1576 N1378 (by exact hJ2.1))
            ·
              exfalso; omega
          ·
            exfalso; omega
        ·
          exfalso; omega
      ·
        exfalso; omega
    ·
      refine tu_iconst 1312 X dL_law_1312 ?_
      refine tu_goto 1313 X 1317 dL_law_1313 (by decide) ?_
      refine tu_istore 1317 X (lv' := [(16, tu_i 1), (15, tu_i ((j_1280 : Nat) : Int)), (14, tu_i ((j_1267 : Nat) : Int)), (0, tu_r 100), (1, tu_r 0), (2, tu_r 86), (3, tu_r 87), (4, tu_r 88), (5, tu_r 89), (6, tu_r 90), (7, tu_r 91), (8, tu_i ((i8 : Nat) : Int)), (10, tu_i y8), (12, tu_i ((l9 : Nat) : Int))]) dL_law_1317 (by rw [hnl]; decide) rfl ?_
      refine tu_iload 1319 X 0 dL_law_1319 rfl ?_
      refine tu_if_eq 1321 X 1371 dL_law_1321 (by decide) ⟨by decide, by decide⟩ (fun br1321 => ?_) (fun br1321 => ?_)
      ·
        exfalso; omega
      ·
        refine tu_iload 1324 X 13 dL_law_1324 rfl ?_
        refine tu_istore 1326 X (lv' := [(17, tu_i ((l9 : Nat) : Int)), (16, tu_i 1), (15, tu_i ((j_1280 : Nat) : Int)), (14, tu_i ((j_1267 : Nat) : Int)), (0, tu_r 100), (1, tu_r 0), (2, tu_r 86), (3, tu_r 87), (4, tu_r 88), (5, tu_r 89), (6, tu_r 90), (7, tu_r 91), (8, tu_i ((i8 : Nat) : Int)), (10, tu_i y8), (12, tu_i ((l9 : Nat) : Int))]) dL_law_1326 (by rw [hnl]; decide) rfl ?_
        refine tu_st_eq rfl (M' := tu_row M 88 (M 88)) ((tu_rx M 88).symm) ?_
        refine tu_st_eq rfl (M' := tu_row (tu_row M 88 (M 88)) 90 (M 90)) ((congrArg (fun m => tu_row m 88 (M 88)) ((tu_rx M 90).symm)).trans (tu_rc M (M 90) (M 88) rfl)) ?_
        have lp1328 : ∀ (nq : Nat) (k9 : Nat), (l9 + k9 ≤ j_1267 + 1) → j_1267 + 1 - k9 < nq → tu_W T 1328 [(0, tu_r 100), (1, tu_r 0), (2, tu_r 86), (3, tu_r 87), (4, tu_r 88), (5, tu_r 89), (6, tu_r 90), (7, tu_r 91), (8, tu_i ((i8 : Nat) : Int)), (10, tu_i y8), (12, tu_i ((l9 : Nat) : Int)), (14, tu_i ((j_1267 : Nat) : Int)), (15, tu_i ((j_1280 : Nat) : Int)), (16, tu_i 1), (17, tu_i (((l9 + k9) : Nat) : Int))] [] (tu_row (tu_row M 88 (tu_vs (M 88) NB ((l9 : Nat) : Int) ((j_1280 : Nat) : Int) k9)) 90 (tu_u (M 90) 6 ((NB + 2 * k9 : Nat) : Int))) := by
          intro nq
          induction nq with
          | zero => intros; omega
          | succ nq ih1328 =>
            intro k9 hk9 hn1328
            refine tu_iload 1328 X 14 dL_law_1328 rfl ?_
            refine tu_iload 1330 X 11 dL_law_1330 rfl ?_
            refine tu_icmp_gt 1332 X 1371 dL_law_1332 (by decide) (show tu_rg (((l9 + k9) : Nat) : Int) from by first | assumption | exact ⟨by omega, by omega⟩) (show tu_rg ((j_1267 : Nat) : Int) from by first | assumption | exact ⟨by omega, by omega⟩) (fun br1332 => ?_) (fun br1332 => ?_)
            ·
              obtain ⟨Mx, hMx⟩ : ∃ m99 : tu_M, m99 = tu_row (tu_row M 88 (tu_vs (M 88) NB ((l9 : Nat) : Int) ((j_1280 : Nat) : Int) k9)) 90 (tu_u (M 90) 6 ((NB + 2 * k9 : Nat) : Int)) := ⟨_, rfl⟩
              refine tu_st_eq rfl (M' := Mx) hMx.symm ?_
              have hx : tz_x M Mx := by
                rw [hMx]
                first | exact tz_x.rf _ | exact (tz_x.rf _).row _ (by decide) | exact ((tz_x.rf _).row _ (by decide)).row _ (by decide) | exact (((tz_x.rf _).row _ (by decide)).row _ (by decide)).row _ (by decide)
              have r86 : Mx 86 = M 86 := by first | (rw [hMx]; done) | (rw [hMx]; rfl)
              have r87 : Mx 87 = M 87 := by first | (rw [hMx]; done) | (rw [hMx]; rfl)
              have r89 : Mx 89 = M 89 := by first | (rw [hMx]; done) | (rw [hMx]; rfl)
              have hvc : ((l9 ≤ j_1267 ∧ M 1 7 + 2 * (((j_1267 : Nat) : Int) - ((l9 : Nat) : Int) + 1) ≤ 40) ∧ Mx 88 = tu_vs (M 88) (M 1 7).toNat ((l9 : Nat) : Int) ((j_1280 : Nat) : Int) (j_1267 + 1 - l9) ∧ Mx 90 = tu_u (M 90) 6 ((M 1 7) + 2 * (((j_1267 : Nat) : Int) - ((l9 : Nat) : Int) + 1))) ∨ (¬ (l9 ≤ j_1267 ∧ M 1 7 + 2 * (((j_1267 : Nat) : Int) - ((l9 : Nat) : Int) + 1) ≤ 40) ∧ Mx 88 = M 88 ∧ Mx 90 = M 90) := by
                first
                | exact Or.inr ⟨by omega, by rw [hMx], by rw [hMx]⟩
                | (refine Or.inl ⟨⟨by omega, by omega⟩, ?_, ?_⟩
                   · rw [hMx, show (M 1 7).toNat = NB by omega, show j_1267 + 1 - l9 = k9 by omega]; rfl
                   · rw [hMx, show ((M 1 7) + 2 * (((j_1267 : Nat) : Int) - ((l9 : Nat) : Int) + 1)) = ((NB + 2 * k9 : Nat) : Int) by omega]; rfl)
              have hvd : l9 ≤ j_1267 → M 1 7 + 2 * (((j_1267 : Nat) : Int) - ((l9 : Nat) : Int) + 1) ≤ 40 → Mx 90 6 = ((M 1 7) + 2 * (((j_1267 : Nat) : Int) - ((l9 : Nat) : Int) + 1)) := fun a b => by
                rcases hvc with q | q
                · rw [q.2.2, tu_u_s]
                · exact absurd ⟨a, b⟩ q.1
              refine tu_aload_n 1371 X 1 dL_law_1371 rfl ?_
              refine tu_iload 1372 X 10 dL_law_1372 rfl ?_
              refine tu_iload 1374 X 11 dL_law_1374 rfl ?_
              refine tu_iload 1376 X 12 dL_law_1376 rfl ?_
              refine tu_callVI 1378 X (st := []) (as := [tu_i ((l9 : Nat) : Int), tu_i ((j_1267 : Nat) : Int), tu_i ((j_1280 : Nat) : Int)]) (c_X3_verse ((l9 : Nat) : Int) ((j_1267 : Nat) : Int) ((j_1280 : Nat) : Int) (show tu_OK Mx from by exact hx.ok hB) (show tu_HS Mx from by exact hx.hs hJ.2) (show tu_rg ((l9 : Nat) : Int) from by first | assumption | omega | exact ⟨by omega, by omega⟩ | decide) (show tu_rg ((j_1267 : Nat) : Int) from by first | assumption | omega | exact ⟨by omega, by omega⟩ | decide) (show tu_rg ((j_1280 : Nat) : Int) from by first | assumption | omega | exact ⟨by omega, by omega⟩ | decide)) sv_RL_119 dL_law_1378 rfl (by decide) rfl rfl rfl (Nat.le_of_ble_eq_true rfl) ⟨by decide, by decide⟩ (fun z N1378 h => ?_)
              obtain ⟨y_1378, h1378_0, hz1378⟩ := h
              refine tu_tp (b := y_1378) hz1378 ?_
              obtain ⟨hJ2, hy1, hy2, hy3⟩ := tz_verse hJ hx hl (show ((j_1267 : Nat) : Int) < M 1 1 by omega) (show ((j_1280 : Nat) : Int) < M 1 1 by omega) h1378_0 r86 r87 r89 hvc
              refine tu_iload 1381 X 11 dL_law_1381 rfl ?_
              refine tu_iload 1383 X 10 dL_law_1383 rfl ?_
              refine tu_icmp_ge 1385 X 1393 dL_law_1385 (by decide) (show tu_rg ((j_1267 : Nat) : Int) from by first | assumption | exact ⟨by omega, by omega⟩) (show tu_rg ((l9 : Nat) : Int) from by first | assumption | exact ⟨by omega, by omega⟩) (fun br1385 => ?_) (fun br1385 => ?_)
              ·
                refine tu_iload 1393 X 13 dL_law_1393 rfl ?_
                refine tu_if_eq 1395 X 1406 dL_law_1395 (by decide) ⟨by decide, by decide⟩ (fun br1395 => ?_) (fun br1395 => ?_)
                ·
                  exfalso; omega
                ·
                  refine tu_aload 1398 X 6 dL_law_1398 rfl ?_
                  refine tu_bipush 1400 X dL_law_1400 (by decide) ?_
                  refine tu_iald 1402 X (x := N1378 90 6) 6 dL_law_1402 (by decide) rfl (by decide) rfl (by decide) rfl ?_
                  refine tu_tp (b := ((M 1 7) + 2 * (((j_1267 : Nat) : Int) - ((l9 : Nat) : Int) + 1))) (by rw [hJ2.2]; exact hvd (by omega) (by omega)) ?_
                  refine tu_goto 1403 X 1408 dL_law_1403 (by decide) ?_
                  refine tu_icmp_eq 1408 X 1413 dL_law_1408 (by decide) (show tu_rg y_1378 from by first | assumption | exact ⟨by omega, by omega⟩) (show tu_rg ((M 1 7) + 2 * (((j_1267 : Nat) : Int) - ((l9 : Nat) : Int) + 1)) from by first | assumption | exact ⟨by omega, by omega⟩) (fun br1408 => ?_) (fun br1408 => ?_)
                  ·
                    refine tu_goto 1413 X 1576 dL_law_1413 (by decide) ?_
                    refine tu_jmp [0, 1, 2, 3, 4, 5, 6, 7, 8, 9] (lv' := [(0, tu_r 100), (1, tu_r 0), (2, tu_r 86), (3, tu_r 87), (4, tu_r 88), (5, tu_r 89), (6, tu_r 90), (7, tu_r 91), (8, tu_i ((i8 : Nat) : Int)), (10, tu_i y8)]) ⟨rfl, rfl, rfl, rfl, rfl, rfl, rfl, rfl, rfl, rfl, trivial⟩ rfl (lp1576 N1378 (by exact hJ2.1))
                  ·
                    exfalso; omega
              ·
                exfalso; omega
            ·
              refine tu_aload 1335 X 4 dL_law_1335 rfl ?_
              refine tu_aload 1337 X 6 dL_law_1337 rfl ?_
              refine tu_bipush 1339 X dL_law_1339 (by decide) ?_
              refine tu_dup2 1341 X dL_law_1341 rfl rfl ?_
              refine tu_iald 1342 X (x := (tu_u (M 90) 6 ((NB + 2 * k9 : Nat) : Int)) 6) 6 dL_law_1342 (by decide) rfl (by decide) rfl (by decide) rfl ?_
              refine tu_tp (b := ((NB + 2 * k9 : Nat) : Int)) (by exact tu_u_s _ _ _) ?_
              refine tu_dup_x2 1343 X dL_law_1343 rfl rfl rfl ?_
              refine tu_iconst 1344 X dL_law_1344 ?_
              refine tu_iadd 1345 X dL_law_1345 ?_
              refine tu_iast 1346 X (M' := tu_row (tu_row M 88 (tu_vs (M 88) NB ((l9 : Nat) : Int) ((j_1280 : Nat) : Int) k9)) 90 (tu_u (tu_u (M 90) 6 ((NB + 2 * k9 : Nat) : Int)) 6 (((NB + 2 * k9 : Nat) : Int) + 1))) 6 dL_law_1346 (by decide) rfl (by decide) rfl (by decide) (tu_rr (tu_row M 88 (tu_vs (M 88) NB ((l9 : Nat) : Int) ((j_1280 : Nat) : Int) k9)) 90 (tu_u (M 90) 6 ((NB + 2 * k9 : Nat) : Int)) (tu_u (tu_u (M 90) 6 ((NB + 2 * k9 : Nat) : Int)) 6 (((NB + 2 * k9 : Nat) : Int) + 1))) ?_
              refine tu_iload 1347 X 14 dL_law_1347 rfl ?_
              refine tu_iast 1349 X (M' := tu_row (tu_row M 88 (tu_u (tu_vs (M 88) NB ((l9 : Nat) : Int) ((j_1280 : Nat) : Int) k9) (NB + 2 * k9) (((l9 + k9) : Nat) : Int))) 90 (tu_u (tu_u (M 90) 6 ((NB + 2 * k9 : Nat) : Int)) 6 (((NB + 2 * k9 : Nat) : Int) + 1))) (NB + 2 * k9) dL_law_1349 (by decide) rfl (by decide) (by omega) (by omega) ((tu_rc (tu_row M 88 (tu_vs (M 88) NB ((l9 : Nat) : Int) ((j_1280 : Nat) : Int) k9)) (tu_u (tu_u (M 90) 6 ((NB + 2 * k9 : Nat) : Int)) 6 (((NB + 2 * k9 : Nat) : Int) + 1)) (tu_u (tu_vs (M 88) NB ((l9 : Nat) : Int) ((j_1280 : Nat) : Int) k9) (NB + 2 * k9) (((l9 + k9) : Nat) : Int)) rfl).trans (congrArg (fun m => tu_row m 90 (tu_u (tu_u (M 90) 6 ((NB + 2 * k9 : Nat) : Int)) 6 (((NB + 2 * k9 : Nat) : Int) + 1))) (tu_rr M 88 (tu_vs (M 88) NB ((l9 : Nat) : Int) ((j_1280 : Nat) : Int) k9) (tu_u (tu_vs (M 88) NB ((l9 : Nat) : Int) ((j_1280 : Nat) : Int) k9) (NB + 2 * k9) (((l9 + k9) : Nat) : Int))))) ?_
              refine tu_aload 1350 X 4 dL_law_1350 rfl ?_
              refine tu_aload 1352 X 6 dL_law_1352 rfl ?_
              refine tu_bipush 1354 X dL_law_1354 (by decide) ?_
              refine tu_dup2 1356 X dL_law_1356 rfl rfl ?_
              refine tu_iald 1357 X (x := (tu_u (tu_u (M 90) 6 ((NB + 2 * k9 : Nat) : Int)) 6 (((NB + 2 * k9 : Nat) : Int) + 1)) 6) 6 dL_law_1357 (by decide) rfl (by decide) rfl (by decide) rfl ?_
              refine tu_tp (b := ((NB + 2 * k9 + 1 : Nat) : Int)) (by exact tu_u_s _ _ _) ?_
              refine tu_dup_x2 1358 X dL_law_1358 rfl rfl rfl ?_
              refine tu_iconst 1359 X dL_law_1359 ?_
              refine tu_iadd 1360 X dL_law_1360 ?_
              refine tu_iast 1361 X (M' := tu_row (tu_row M 88 (tu_u (tu_vs (M 88) NB ((l9 : Nat) : Int) ((j_1280 : Nat) : Int) k9) (NB + 2 * k9) (((l9 + k9) : Nat) : Int))) 90 (tu_u (tu_u (tu_u (M 90) 6 ((NB + 2 * k9 : Nat) : Int)) 6 (((NB + 2 * k9 : Nat) : Int) + 1)) 6 (((NB + 2 * k9 + 1 : Nat) : Int) + 1))) 6 dL_law_1361 (by decide) rfl (by decide) rfl (by decide) (tu_rr (tu_row M 88 (tu_u (tu_vs (M 88) NB ((l9 : Nat) : Int) ((j_1280 : Nat) : Int) k9) (NB + 2 * k9) (((l9 + k9) : Nat) : Int))) 90 (tu_u (tu_u (M 90) 6 ((NB + 2 * k9 : Nat) : Int)) 6 (((NB + 2 * k9 : Nat) : Int) + 1)) (tu_u (tu_u (tu_u (M 90) 6 ((NB + 2 * k9 : Nat) : Int)) 6 (((NB + 2 * k9 : Nat) : Int) + 1)) 6 (((NB + 2 * k9 + 1 : Nat) : Int) + 1))) ?_
              refine tu_iload 1362 X 12 dL_law_1362 rfl ?_
              refine tu_iast 1364 X (M' := tu_row (tu_row M 88 (tu_u (tu_u (tu_vs (M 88) NB ((l9 : Nat) : Int) ((j_1280 : Nat) : Int) k9) (NB + 2 * k9) (((l9 + k9) : Nat) : Int)) (NB + 2 * k9 + 1) ((j_1280 : Nat) : Int))) 90 (tu_u (tu_u (tu_u (M 90) 6 ((NB + 2 * k9 : Nat) : Int)) 6 (((NB + 2 * k9 : Nat) : Int) + 1)) 6 (((NB + 2 * k9 + 1 : Nat) : Int) + 1))) (NB + 2 * k9 + 1) dL_law_1364 (by decide) rfl (by decide) (by omega) (by omega) ((tu_rc (tu_row M 88 (tu_u (tu_vs (M 88) NB ((l9 : Nat) : Int) ((j_1280 : Nat) : Int) k9) (NB + 2 * k9) (((l9 + k9) : Nat) : Int))) (tu_u (tu_u (tu_u (M 90) 6 ((NB + 2 * k9 : Nat) : Int)) 6 (((NB + 2 * k9 : Nat) : Int) + 1)) 6 (((NB + 2 * k9 + 1 : Nat) : Int) + 1)) (tu_u (tu_u (tu_vs (M 88) NB ((l9 : Nat) : Int) ((j_1280 : Nat) : Int) k9) (NB + 2 * k9) (((l9 + k9) : Nat) : Int)) (NB + 2 * k9 + 1) ((j_1280 : Nat) : Int)) rfl).trans (congrArg (fun m => tu_row m 90 (tu_u (tu_u (tu_u (M 90) 6 ((NB + 2 * k9 : Nat) : Int)) 6 (((NB + 2 * k9 : Nat) : Int) + 1)) 6 (((NB + 2 * k9 + 1 : Nat) : Int) + 1))) (tu_rr M 88 (tu_u (tu_vs (M 88) NB ((l9 : Nat) : Int) ((j_1280 : Nat) : Int) k9) (NB + 2 * k9) (((l9 + k9) : Nat) : Int)) (tu_u (tu_u (tu_vs (M 88) NB ((l9 : Nat) : Int) ((j_1280 : Nat) : Int) k9) (NB + 2 * k9) (((l9 + k9) : Nat) : Int)) (NB + 2 * k9 + 1) ((j_1280 : Nat) : Int))))) ?_
              refine tu_iinc 1365 X (lv' := [(17, tu_i ((((l9 + k9) : Nat) : Int) + 1)), (0, tu_r 100), (1, tu_r 0), (2, tu_r 86), (3, tu_r 87), (4, tu_r 88), (5, tu_r 89), (6, tu_r 90), (7, tu_r 91), (8, tu_i ((i8 : Nat) : Int)), (10, tu_i y8), (12, tu_i ((l9 : Nat) : Int)), (14, tu_i ((j_1267 : Nat) : Int)), (15, tu_i ((j_1280 : Nat) : Int)), (16, tu_i 1)]) 14 dL_law_1365 rfl (by rw [hnl]; decide) rfl ?_
              refine tu_goto 1368 X 1328 dL_law_1368 (by decide) ?_
              refine tu_jmp [1, 2, 3, 4, 5, 6, 7, 8, 9, 10, 11, 12, 13, 14, 0] (lv' := [(0, tu_r 100), (1, tu_r 0), (2, tu_r 86), (3, tu_r 87), (4, tu_r 88), (5, tu_r 89), (6, tu_r 90), (7, tu_r 91), (8, tu_i ((i8 : Nat) : Int)), (10, tu_i y8), (12, tu_i ((l9 : Nat) : Int)), (14, tu_i ((j_1267 : Nat) : Int)), (15, tu_i ((j_1280 : Nat) : Int)), (16, tu_i 1), (17, tu_i (((l9 + (k9 + 1)) : Nat) : Int))]) ⟨rfl, rfl, rfl, rfl, rfl, rfl, rfl, rfl, rfl, rfl, rfl, rfl, rfl, rfl, tu_ei (by first | rfl | (first | rfl | omega)), trivial⟩ (by first | rfl | (first | (rw [tz_ux (show M 90 6 = ((NB + 2 * 0 : Nat) : Int) from by rw [q4.2.2.1]; exact eB)]; rfl) | (rw [tz_uuv, tz_uuv]; rfl))) (ih1328 (k9 + 1) (by omega) (by omega))
        refine tu_jmp [4, 5, 6, 7, 8, 9, 10, 11, 12, 13, 14, 3, 2, 1, 0] (lv' := [(0, tu_r 100), (1, tu_r 0), (2, tu_r 86), (3, tu_r 87), (4, tu_r 88), (5, tu_r 89), (6, tu_r 90), (7, tu_r 91), (8, tu_i ((i8 : Nat) : Int)), (10, tu_i y8), (12, tu_i ((l9 : Nat) : Int)), (14, tu_i ((j_1267 : Nat) : Int)), (15, tu_i ((j_1280 : Nat) : Int)), (16, tu_i 1), (17, tu_i (((l9 + 0) : Nat) : Int))]) ⟨rfl, rfl, rfl, rfl, rfl, rfl, rfl, rfl, rfl, rfl, rfl, rfl, rfl, rfl, tu_ei (by first | rfl | (first | rfl | omega)), trivial⟩ (by first | rfl | (first | (rw [tz_ux (show M 90 6 = ((NB + 2 * 0 : Nat) : Int) from by rw [q4.2.2.1]; exact eB)]; rfl) | (rw [tz_uuv, tz_uuv]; rfl))) (lp1328 ((j_1267 + 1 - 0) + 1) 0 (by omega) (by omega))
