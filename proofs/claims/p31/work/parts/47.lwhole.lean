set_option maxRecDepth 20000 in
set_option maxHeartbeats 4000000 in
theorem c_L_whole {M : tu_M} (x : Int) (hR : tz_R M) : tu_MI tu_Y_L_whole [tu_r 0, tu_i x, tu_r 90, tu_r 86, tu_r 87, tu_r 88, tu_r 89, tu_r 91] M (fun z M' => ∃ (y : Int), (tz_sc M M') ∧ (y = 1) ∧ z = y) := by
  have hB := hR.ok
  have cn := hB.cnt
  have hsm := hR.small
  have q4 := hR.q4
  have hqs := hR.qs
  obtain ⟨NL, eL⟩ : ∃ c : Nat, M 1 1 = (c : Int) := ⟨(M 1 1).toNat, by omega⟩
  obtain ⟨NP, eP⟩ : ∃ c : Nat, M 1 4 = (c : Int) := ⟨(M 1 4).toNat, by omega⟩
  obtain ⟨NB, eB⟩ : ∃ c : Nat, M 1 7 = (c : Int) := ⟨(M 1 7).toNat, by omega⟩
  obtain ⟨NT, eT⟩ : ∃ c : Nat, M 1 9 = (c : Int) := ⟨(M 1 9).toNat, by omega⟩
  have hsc := tz_sc.rf M
  refine tu_MI.of (ty := .boolean) (by decide) rfl (by first | exact Or.inl rfl | exact Or.inr rfl) (Nat.le_of_ble_eq_true rfl) (fun T (X : tu_X T cL_whole RL 5 120) hnl hrt hret => ?_)
  have hret : tu_RI T cL_whole (fun z M' => ∃ (y : Int), (tz_sc M M') ∧ (y = 1) ∧ z = y) := hret
  have hnl : T.2.2.2.2.2.2.2.2.2.2.1 = 19 := hnl
  show tu_W T 0 [(0, tu_r 0), (1, tu_i x), (2, tu_r 90), (3, tu_r 86), (4, tu_r 87), (5, tu_r 88), (6, tu_r 89), (7, tu_r 91)] [] M
  refine tu_bipush 0 X dL_whole_0 (by decide) ?_
  refine tu_istore 2 X (lv' := [(8, tu_i (-6)), (0, tu_r 0), (1, tu_i x), (2, tu_r 90), (3, tu_r 86), (4, tu_r 87), (5, tu_r 88), (6, tu_r 89), (7, tu_r 91)]) dL_whole_2 (by rw [hnl]; decide) rfl ?_
  refine tu_iconst 4 X dL_whole_4 ?_
  refine tu_istore 5 X (lv' := [(9, tu_i 0), (8, tu_i (-6)), (0, tu_r 0), (1, tu_i x), (2, tu_r 90), (3, tu_r 86), (4, tu_r 87), (5, tu_r 88), (6, tu_r 89), (7, tu_r 91)]) dL_whole_5 (by rw [hnl]; decide) rfl ?_
  refine tu_iconst 7 X dL_whole_7 ?_
  refine tu_istore 8 X (lv' := [(10, tu_i 0), (9, tu_i 0), (8, tu_i (-6)), (0, tu_r 0), (1, tu_i x), (2, tu_r 90), (3, tu_r 86), (4, tu_r 87), (5, tu_r 88), (6, tu_r 89), (7, tu_r 91)]) dL_whole_8 (by rw [hnl]; decide) rfl ?_
  refine tu_iconst 10 X dL_whole_10 ?_
  refine tu_istore 11 X (lv' := [(11, tu_i (-1)), (10, tu_i 0), (9, tu_i 0), (8, tu_i (-6)), (0, tu_r 0), (1, tu_i x), (2, tu_r 90), (3, tu_r 86), (4, tu_r 87), (5, tu_r 88), (6, tu_r 89), (7, tu_r 91)]) dL_whole_11 (by rw [hnl]; decide) rfl ?_
  have lp13 : ∀ (nq : Nat) (e : Nat) (bs : Int) (fw : Int) (ls : Int) (Ma : tu_M), (e ≤ NP + 1) → (tz_b9 (tu_cb M) NL e bs fw ls) → (tz_sc M Ma) → NP + 1 - e < nq → tu_W T 13 [(0, tu_r 0), (1, tu_i x), (2, tu_r 90), (3, tu_r 86), (4, tu_r 87), (5, tu_r 88), (6, tu_r 89), (7, tu_r 91), (8, tu_i bs), (9, tu_i fw), (10, tu_i ls), (11, tu_i (((e : Nat) : Int) - 1))] [] Ma := by
    intro nq
    induction nq with
    | zero => intros; omega
    | succ nq ih13 =>
      intro e bs fw ls Ma he hb9 hsc hn13
      have hbr : (bs = -6 ∨ (0 ≤ bs ∧ bs < e)) ∧ (0 ≤ fw ∧ fw ≤ 40) ∧ (0 ≤ ls ∧ ls ≤ 40000000) := hb9.2
      refine tu_iload 13 X 11 dL_whole_13 rfl ?_
      refine tu_aload_n 15 X 2 dL_whole_15 rfl ?_
      refine tu_iconst 16 X dL_whole_16 ?_
      refine tu_iald 17 X (x := Ma 90 5) 5 dL_whole_17 (by decide) rfl (by decide) rfl (by decide) rfl ?_
      refine tu_tp (b := (M 90 5)) (by rw [hsc 90 (by decide)]) ?_
      refine tu_tp (b := ((NP : Nat) : Int)) (by rw [q4.2.1]; exact eP) ?_
      refine tu_icmp_ge 18 X 291 dL_whole_18 (by decide) (show tu_rg (((e : Nat) : Int) - 1) from by first | assumption | exact ⟨by omega, by omega⟩) (show tu_rg ((NP : Nat) : Int) from by first | assumption | exact ⟨by omega, by omega⟩) (fun br18 => ?_) (fun br18 => ?_)
      ·
        refine tu_aload_n 291 X 0 dL_whole_291 rfl ?_
        refine tu_callVI 292 X (st := []) (as := []) (c_X3_bestPhrase  (show tu_OK Ma from by exact tz_OK hsc hR.ok)) sv_RL_57 dL_whole_292 rfl (by decide) rfl rfl rfl (Nat.le_of_ble_eq_true rfl) ⟨by decide, by decide⟩ (fun z N292 h => ?_)
        obtain ⟨y_292, h292_0, h292_1, hz292⟩ := h
        refine tu_tp (b := y_292) hz292 ?_
        have a292 := tz_q_bestPhrase hsc h292_1
        have b292 : y_292 = bs := by
          rw [a292, hb9.1.1, show e - 1 = (M 1 4).toNat by omega, show NL = (M 1 1).toNat by omega]
        have hsc : tz_sc M N292 := hsc.sc h292_0
        refine tu_iload 295 X 8 dL_whole_295 rfl ?_
        refine tu_icmp_ne 297 X 317 dL_whole_297 (by decide) (show tu_rg y_292 from by first | assumption | exact ⟨by omega, by omega⟩) (show tu_rg bs from by first | assumption | exact ⟨by omega, by omega⟩) (fun br297 => ?_) (fun br297 => ?_)
        ·
          exfalso; omega
        ·
          have lp319 : ∀ (Me : tu_M), (tz_sc M Me) → tu_W T 319 [(0, tu_r 0), (1, tu_i x), (2, tu_r 90), (3, tu_r 86), (4, tu_r 87), (5, tu_r 88), (6, tu_r 89), (7, tu_r 91), (8, tu_i bs), (9, tu_i fw), (10, tu_i ls), (11, tu_i (((e : Nat) : Int) - 1))] [] Me := by
              intro Me hsc
              refine tu_aload_n 319 X 2 dL_whole_319 rfl ?_
              refine tu_iconst 320 X dL_whole_320 ?_
              refine tu_iald 321 X (x := Me 90 4) 4 dL_whole_321 (by decide) rfl (by decide) rfl (by decide) rfl ?_
              refine tu_tp (b := (M 90 4)) (by rw [hsc 90 (by decide)]) ?_
              refine tu_tp (b := ((NL : Nat) : Int)) (by rw [q4.1]; exact eL) ?_
              refine tu_if_eq 322 X 331 dL_whole_322 (by decide) (show tu_rg ((NL : Nat) : Int) from by first | assumption | exact ⟨by omega, by omega⟩) (fun br322 => ?_) (fun br322 => ?_)
              ·
                refine tu_iconst 331 X dL_whole_331 ?_
                refine hret 332 _ _ 1 dL_whole_332 (fun _ => Or.inr rfl) ?_
                exact ⟨_, hsc, rfl, rfl⟩
              ·
                refine tu_aload_n 325 X 2 dL_whole_325 rfl ?_
                refine tu_iconst 326 X dL_whole_326 ?_
                refine tu_iald 327 X (x := Me 90 5) 5 dL_whole_327 (by decide) rfl (by decide) rfl (by decide) rfl ?_
                refine tu_tp (b := (M 90 5)) (by rw [hsc 90 (by decide)]) ?_
                refine tu_tp (b := ((NP : Nat) : Int)) (by rw [q4.2.1]; exact eP) ?_
                refine tu_if_ne 328 X 333 dL_whole_328 (by decide) (show tu_rg ((NP : Nat) : Int) from by first | assumption | exact ⟨by omega, by omega⟩) (fun br328 => ?_) (fun br328 => ?_)
                ·
                  refine tu_iload_n 333 X 1 dL_whole_333 rfl ?_
                  refine tu_aload_n 334 X 2 dL_whole_334 rfl ?_
                  refine tu_iconst 335 X dL_whole_335 ?_
                  refine tu_iald 336 X (x := Me 90 4) 4 dL_whole_336 (by decide) rfl (by decide) rfl (by decide) rfl ?_
                  refine tu_tp (b := (M 90 4)) (by rw [hsc 90 (by decide)]) ?_
                  refine tu_tp (b := ((NL : Nat) : Int)) (by rw [q4.1]; exact eL) ?_
                  refine tu_callSI 337 X (st := []) (as := [tu_i x, tu_i ((NL : Nat) : Int)]) (c_L_low x NL (show 0 < NL ∧ NL < 2147483648 from by first | assumption | omega | exact ⟨by omega, by omega⟩ | decide)) ss_RL_61 dL_whole_337 rfl (Nat.le_of_ble_eq_true rfl) ⟨by decide, by decide⟩ (fun z M' h => ?_)
                  obtain ⟨j_337, hM337, h337_0, hz337⟩ := h
                  refine tu_st_eq rfl (M' := Me) hM337 ?_
                  refine tu_tp (b := ((j_337 : Nat) : Int)) hz337 ?_
                  refine tu_istore 340 X (lv' := [(11, tu_i ((j_337 : Nat) : Int)), (0, tu_r 0), (1, tu_i x), (2, tu_r 90), (3, tu_r 86), (4, tu_r 87), (5, tu_r 88), (6, tu_r 89), (7, tu_r 91), (8, tu_i bs), (9, tu_i fw), (10, tu_i ls)]) dL_whole_340 (by rw [hnl]; decide) rfl ?_
                  refine tu_iload_n 342 X 2 dL_whole_342 rfl ?_
                  refine tu_iconst 343 X dL_whole_343 ?_
                  refine tu_ishr 344 X dL_whole_344 ?_
                  refine tu_aload_n 345 X 3 dL_whole_345 rfl ?_
                  refine tu_iconst 346 X dL_whole_346 ?_
                  refine tu_iald 347 X (x := Me 90 5) 5 dL_whole_347 (by decide) rfl (by decide) rfl (by decide) rfl ?_
                  refine tu_tp (b := (M 90 5)) (by rw [hsc 90 (by decide)]) ?_
                  refine tu_tp (b := ((NP : Nat) : Int)) (by rw [q4.2.1]; exact eP) ?_
                  refine tu_callSI 348 X (st := []) (as := [tu_i (tu_shr x 4), tu_i ((NP : Nat) : Int)]) (c_L_low (tu_shr x 4) NP (show 0 < NP ∧ NP < 2147483648 from by first | assumption | omega | exact ⟨by omega, by omega⟩ | decide)) ss_RL_61 dL_whole_348 rfl (Nat.le_of_ble_eq_true rfl) ⟨by decide, by decide⟩ (fun z M' h => ?_)
                  obtain ⟨j_348, hM348, h348_0, hz348⟩ := h
                  refine tu_st_eq rfl (M' := Me) hM348 ?_
                  refine tu_tp (b := ((j_348 : Nat) : Int)) hz348 ?_
                  refine tu_istore 351 X (lv' := [(12, tu_i ((j_348 : Nat) : Int)), (11, tu_i ((j_337 : Nat) : Int)), (0, tu_r 0), (1, tu_i x), (2, tu_r 90), (3, tu_r 86), (4, tu_r 87), (5, tu_r 88), (6, tu_r 89), (7, tu_r 91), (8, tu_i bs), (9, tu_i fw), (10, tu_i ls)]) dL_whole_351 (by rw [hnl]; decide) rfl ?_
                  refine tu_bipush 353 X dL_whole_353 (by decide) ?_
                  refine tu_istore 355 X (lv' := [(13, tu_i (-6)), (12, tu_i ((j_348 : Nat) : Int)), (11, tu_i ((j_337 : Nat) : Int)), (0, tu_r 0), (1, tu_i x), (2, tu_r 90), (3, tu_r 86), (4, tu_r 87), (5, tu_r 88), (6, tu_r 89), (7, tu_r 91), (8, tu_i bs), (9, tu_i fw), (10, tu_i ls)]) dL_whole_355 (by rw [hnl]; decide) rfl ?_
                  refine tu_bipush 357 X dL_whole_357 (by decide) ?_
                  refine tu_istore 359 X (lv' := [(14, tu_i (-6)), (13, tu_i (-6)), (12, tu_i ((j_348 : Nat) : Int)), (11, tu_i ((j_337 : Nat) : Int)), (0, tu_r 0), (1, tu_i x), (2, tu_r 90), (3, tu_r 86), (4, tu_r 87), (5, tu_r 88), (6, tu_r 89), (7, tu_r 91), (8, tu_i bs), (9, tu_i fw), (10, tu_i ls)]) dL_whole_359 (by rw [hnl]; decide) rfl ?_
                  have hlM : ((j_337 : Nat) : Int) < M 1 1 := by omega
                  have hpM : ((j_348 : Nat) : Int) < M 1 4 := by omega
                  have hnl9 := hR.nl hlM
                  have hnp9 := hR.np hpM
                  have hli := hR.li _ hlM
                  have hph := hR.ph _ hpM
                  have hok := hR.lp hlM hpM
                  have hG := hok.g
                  have hmo : ∀ i j, i ≤ j → (fun x9 => tu_eb (tu_cb M) j_337 j_348 x9) j ≤ (fun x9 => tu_eb (tu_cb M) j_337 j_348 x9) i := fun i j h => tz_eb_mono h
                  refine tu_aload_n 361 X 7 dL_whole_361 rfl ?_
                  refine tu_iconst 362 X dL_whole_362 ?_
                  refine tu_iload 363 X 3 dL_whole_363 rfl ?_
                  refine tu_imul 365 X dL_whole_365 ?_
                  refine tu_iald 366 X (x := Me 86 (2 * j_337)) (2 * j_337) dL_whole_366 (by decide) rfl (by decide) (by omega) (by omega) rfl ?_
                  refine tu_tp (b := (M 86 (2 * j_337))) (by rw [hsc 86 (by decide)]) ?_
                  refine tu_tp (b := (((tu_nl (tu_cb M) j_337) : Nat) : Int)) (by rw [hli.2.1]; exact hnl9.1) ?_
                  refine tu_iconst 367 X dL_whole_367 ?_
                  refine tu_isub 368 X dL_whole_368 ?_
                  refine tu_istore 369 X (lv' := [(15, tu_i ((((tu_nl (tu_cb M) j_337) : Nat) : Int) - 1)), (14, tu_i (-6)), (13, tu_i (-6)), (12, tu_i ((j_348 : Nat) : Int)), (11, tu_i ((j_337 : Nat) : Int)), (0, tu_r 0), (1, tu_i x), (2, tu_r 90), (3, tu_r 86), (4, tu_r 87), (5, tu_r 88), (6, tu_r 89), (7, tu_r 91), (8, tu_i bs), (9, tu_i fw), (10, tu_i ls)]) dL_whole_369 (by rw [hnl]; decide) rfl ?_
                  have lp371 : ∀ (nq : Nat) (j9 : Nat) (ch : Int) (ct : Int) (Mg : tu_M), (j9 ≤ (tu_nl (tu_cb M) j_337)) → (tz_fm (fun x9 => tu_bc (tu_cb M) j_337 j_348 x9) j9 (tu_nl (tu_cb M) j_337) ch ct) → (tz_sc M Mg) → j9 < nq → tu_W T 371 [(0, tu_r 0), (1, tu_i x), (2, tu_r 90), (3, tu_r 86), (4, tu_r 87), (5, tu_r 88), (6, tu_r 89), (7, tu_r 91), (8, tu_i bs), (9, tu_i fw), (10, tu_i ls), (11, tu_i ((j_337 : Nat) : Int)), (12, tu_i ((j_348 : Nat) : Int)), (13, tu_i ch), (14, tu_i ct), (15, tu_i (((j9 : Nat) : Int) - 1))] [] Mg := by
                    intro nq
                    induction nq with
                    | zero => intros; omega
                    | succ nq ih371 =>
                      intro j9 ch ct Mg hj9 hfm hsc hn371
                      have hctr : ct = -6 ∨ (0 ≤ ct ∧ ct < 1000000) := by
                        rcases hfm with q | ⟨q, -, -, q3, q4, -⟩
                        · exact Or.inl q.2.1
                        · exact Or.inr (by omega)
                      refine tu_iload 371 X 15 dL_whole_371 rfl ?_
                      refine tu_if_lt 373 X 448 dL_whole_373 (by decide) (show tu_rg (((j9 : Nat) : Int) - 1) from by first | assumption | exact ⟨by omega, by omega⟩) (fun br373 => ?_) (fun br373 => ?_)
                      ·
                        refine tu_bipush 448 X dL_whole_448 (by decide) ?_
                        refine tu_istore 450 X (lv' := [(15, tu_i (-6)), (0, tu_r 0), (1, tu_i x), (2, tu_r 90), (3, tu_r 86), (4, tu_r 87), (5, tu_r 88), (6, tu_r 89), (7, tu_r 91), (8, tu_i bs), (9, tu_i fw), (10, tu_i ls), (11, tu_i ((j_337 : Nat) : Int)), (12, tu_i ((j_348 : Nat) : Int)), (13, tu_i ch), (14, tu_i ct)]) dL_whole_450 (by rw [hnl]; decide) rfl ?_
                        refine tu_bipush 452 X dL_whole_452 (by decide) ?_
                        refine tu_istore 454 X (lv' := [(16, tu_i (-6)), (15, tu_i (-6)), (0, tu_r 0), (1, tu_i x), (2, tu_r 90), (3, tu_r 86), (4, tu_r 87), (5, tu_r 88), (6, tu_r 89), (7, tu_r 91), (8, tu_i bs), (9, tu_i fw), (10, tu_i ls), (11, tu_i ((j_337 : Nat) : Int)), (12, tu_i ((j_348 : Nat) : Int)), (13, tu_i ch), (14, tu_i ct)]) dL_whole_454 (by rw [hnl]; decide) rfl ?_
                        refine tu_bipush 456 X dL_whole_456 (by decide) ?_
                        refine tu_istore 458 X (lv' := [(17, tu_i 8), (16, tu_i (-6)), (15, tu_i (-6)), (0, tu_r 0), (1, tu_i x), (2, tu_r 90), (3, tu_r 86), (4, tu_r 87), (5, tu_r 88), (6, tu_r 89), (7, tu_r 91), (8, tu_i bs), (9, tu_i fw), (10, tu_i ls), (11, tu_i ((j_337 : Nat) : Int)), (12, tu_i ((j_348 : Nat) : Int)), (13, tu_i ch), (14, tu_i ct)]) dL_whole_458 (by rw [hnl]; decide) rfl ?_
                        have lp460 : ∀ (nq : Nat) (j8 : Nat) (bh : Int) (wt : Int) (Mh : tu_M), (j8 ≤ 8) → (tz_fb (fun x9 => tu_eb (tu_cb M) j_337 j_348 x9) j8 bh wt) → (tz_sc M Mh) → j8 < nq → tu_W T 460 [(0, tu_r 0), (1, tu_i x), (2, tu_r 90), (3, tu_r 86), (4, tu_r 87), (5, tu_r 88), (6, tu_r 89), (7, tu_r 91), (8, tu_i bs), (9, tu_i fw), (10, tu_i ls), (11, tu_i ((j_337 : Nat) : Int)), (12, tu_i ((j_348 : Nat) : Int)), (13, tu_i ch), (14, tu_i ct), (15, tu_i bh), (16, tu_i wt), (17, tu_i ((j8 : Nat) : Int))] [] Mh := by
                          intro nq
                          induction nq with
                          | zero => intros; omega
                          | succ nq ih460 =>
                            intro j8 bh wt Mh hj8 hfb hsc hn460
                            have hwtr : wt = -6 ∨ (0 ≤ wt ∧ wt < 1000000) := by
                              rcases hfb with q | ⟨-, -, q3, q4, -⟩
                              · exact Or.inl q.2.2
                              · exact Or.inr (by omega)
                            refine tu_iload 460 X 17 dL_whole_460 rfl ?_
                            refine tu_iconst 462 X dL_whole_462 ?_
                            refine tu_icmp_lt 463 X 532 dL_whole_463 (by decide) (show tu_rg ((j8 : Nat) : Int) from by first | assumption | exact ⟨by omega, by omega⟩) ⟨by decide, by decide⟩ (fun br463 => ?_) (fun br463 => ?_)
                            ·
                              obtain ⟨Mk, hMk⟩ : ∃ m99 : tu_M, m99 = Mh := ⟨_, rfl⟩
                              refine tu_st_eq rfl (M' := Mk) hMk.symm ?_
                              have hsc : tz_sc M Mk := by
                                rw [hMk]
                                first | exact hsc | exact hsc.w _
                              have hfin := tz_fb_end hfb hmo (by omega)
                              have hfm9 := hfm
                              rw [show j9 = 0 from by omega] at hfm9
                              have hbp := tz_fm_bp hfm9
                              have hchr : -6 ≤ ch ∧ ch ≤ 16 := by
                                rcases hfm with q | ⟨q, q1, q2, -⟩
                                · omega
                                · omega
                              have hbhr : -6 ≤ bh ∧ bh ≤ 16 := by
                                rcases hfb with q | ⟨q1, q2, -⟩
                                · omega
                                · omega
                              refine tu_aload_n 532 X 0 dL_whole_532 rfl ?_
                              refine tu_iload 533 X 11 dL_whole_533 rfl ?_
                              refine tu_iload 535 X 12 dL_whole_535 rfl ?_
                              refine tu_iconst 537 X dL_whole_537 ?_
                              refine tu_callVI 538 X (st := []) (as := [tu_i ((j_337 : Nat) : Int), tu_i ((j_348 : Nat) : Int), tu_i 0]) (c_X3_bestChange ((j_337 : Nat) : Int) ((j_348 : Nat) : Int) 0 (show tu_OK Mk from by exact tz_OK hsc hR.ok) (show tu_rg ((j_337 : Nat) : Int) from by first | assumption | omega | exact ⟨by omega, by omega⟩ | decide) (show tu_rg ((j_348 : Nat) : Int) from by first | assumption | omega | exact ⟨by omega, by omega⟩ | decide) (show tu_rg 0 from by first | assumption | omega | exact ⟨by omega, by omega⟩ | decide)) sv_RL_64 dL_whole_538 rfl (by decide) rfl rfl rfl (Nat.le_of_ble_eq_true rfl) ⟨by decide, by decide⟩ (fun z N538 h => ?_)
                              obtain ⟨y_538, h538_0, h538_1, hz538⟩ := h
                              refine tu_tp (b := y_538) hz538 ?_
                              have a538 := tz_q_bestChange hsc h538_1
                              simp only [Int.toNat_natCast] at a538
                              have e538 : (M 3 j_337).toNat = (tu_nl (tu_cb M) j_337) := rfl
                              rw [e538, if_pos (Or.inl trivial), hbp.1] at a538
                              have b538 : y_538 = ch := by omega
                              have hsc : tz_sc M N538 := hsc.sc h538_0
                              refine tu_iload 541 X 13 dL_whole_541 rfl ?_
                              refine tu_icmp_ne 543 X 577 dL_whole_543 (by decide) (show tu_rg y_538 from by first | assumption | exact ⟨by omega, by omega⟩) (show tu_rg ch from by first | assumption | exact ⟨by omega, by omega⟩) (fun br543 => ?_) (fun br543 => ?_)
                              ·
                                exfalso; omega
                              ·
                                refine tu_aload_n 546 X 0 dL_whole_546 rfl ?_
                                refine tu_iload 547 X 11 dL_whole_547 rfl ?_
                                refine tu_iload 549 X 12 dL_whole_549 rfl ?_
                                refine tu_iconst 551 X dL_whole_551 ?_
                                refine tu_callVI 552 X (st := []) (as := [tu_i ((j_337 : Nat) : Int), tu_i ((j_348 : Nat) : Int), tu_i 1]) (c_X3_bestChange ((j_337 : Nat) : Int) ((j_348 : Nat) : Int) 1 (show tu_OK N538 from by exact tz_OK hsc hR.ok) (show tu_rg ((j_337 : Nat) : Int) from by first | assumption | omega | exact ⟨by omega, by omega⟩ | decide) (show tu_rg ((j_348 : Nat) : Int) from by first | assumption | omega | exact ⟨by omega, by omega⟩ | decide) (show tu_rg 1 from by first | assumption | omega | exact ⟨by omega, by omega⟩ | decide)) sv_RL_64 dL_whole_552 rfl (by decide) rfl rfl rfl (Nat.le_of_ble_eq_true rfl) ⟨by decide, by decide⟩ (fun z N552 h => ?_)
                                obtain ⟨y_552, h552_0, h552_1, hz552⟩ := h
                                refine tu_tp (b := y_552) hz552 ?_
                                have a552 := tz_q_bestChange hsc h552_1
                                simp only [Int.toNat_natCast] at a552
                                have e552 : (M 3 j_337).toNat = (tu_nl (tu_cb M) j_337) := rfl
                                rw [e552, hbp.1] at a552
                                have b552 : y_552 = ct := by
                                  by_cases q : ch = -6
                                  · rw [if_pos (Or.inr q)] at a552
                                    have := hbp.2.1 q
                                    omega
                                  · have h9 : ¬ ((1 : Int) = 0 ∨ ch = -6) := by omega
                                    have h8 : ¬ (False ∨ ch = -6) := fun z => z.elim id q
                                    first | rw [if_neg h9, hbp.2.2 q] at a552 | rw [if_neg h8, hbp.2.2 q] at a552
                                    omega
                                have hsc : tz_sc M N552 := hsc.sc h552_0
                                refine tu_iload 555 X 14 dL_whole_555 rfl ?_
                                refine tu_icmp_ne 557 X 577 dL_whole_557 (by decide) (show tu_rg y_552 from by first | assumption | exact ⟨by omega, by omega⟩) (show tu_rg ct from by first | assumption | exact ⟨by omega, by omega⟩) (fun br557 => ?_) (fun br557 => ?_)
                                ·
                                  exfalso; omega
                                ·
                                  refine tu_aload_n 560 X 0 dL_whole_560 rfl ?_
                                  refine tu_iload 561 X 11 dL_whole_561 rfl ?_
                                  refine tu_iload 563 X 12 dL_whole_563 rfl ?_
                                  refine tu_callVI 565 X (st := []) (as := [tu_i ((j_337 : Nat) : Int), tu_i ((j_348 : Nat) : Int)]) (c_X3_enoughBreath ((j_337 : Nat) : Int) ((j_348 : Nat) : Int) (show tu_OK N552 from by exact tz_OK hsc hR.ok) (show tu_rg ((j_337 : Nat) : Int) from by first | assumption | omega | exact ⟨by omega, by omega⟩ | decide) (show tu_rg ((j_348 : Nat) : Int) from by first | assumption | omega | exact ⟨by omega, by omega⟩ | decide)) sv_RL_67 dL_whole_565 rfl (by decide) rfl rfl rfl (Nat.le_of_ble_eq_true rfl) ⟨by decide, by decide⟩ (fun z N565 h => ?_)
                                  obtain ⟨y_565, h565_0, h565_1, hz565⟩ := h
                                  refine tu_tp (b := y_565) hz565 ?_
                                  have a565 := tz_q_enoughBreath hsc h565_1
                                  simp only [Int.toNat_natCast] at a565
                                  rw [hfin] at a565
                                  have b565 : y_565 = bh := by omega
                                  have hsc : tz_sc M N565 := hsc.sc h565_0
                                  refine tu_iload 568 X 15 dL_whole_568 rfl ?_
                                  refine tu_icmp_ne 570 X 577 dL_whole_570 (by decide) (show tu_rg y_565 from by first | assumption | exact ⟨by omega, by omega⟩) (show tu_rg bh from by first | assumption | exact ⟨by omega, by omega⟩) (fun br570 => ?_) (fun br570 => ?_)
                                  ·
                                    exfalso; omega
                                  ·
                                    refine tu_iconst 573 X dL_whole_573 ?_
                                    refine tu_goto 574 X 578 dL_whole_574 (by decide) ?_
                                    refine hret 578 _ _ 1 dL_whole_578 (fun _ => Or.inr rfl) ?_
                                    exact ⟨_, hsc, rfl, rfl⟩
                            ·
                              have ly := tz_lay hR hsc hlM hpM
                              refine tu_aload_n 466 X 3 dL_whole_466 rfl ?_
                              refine tu_iconst 467 X dL_whole_467 ?_
                              refine tu_iload 468 X 11 dL_whole_468 rfl ?_
                              refine tu_imul 470 X dL_whole_470 ?_
                              refine tu_iald 471 X (x := Mh 86 (2 * j_337)) (2 * j_337) dL_whole_471 (by decide) rfl (by decide) (by omega) (by omega) rfl ?_
                              refine tu_tp (b := (M 86 (2 * j_337))) (by rw [hsc 86 (by decide)]) ?_
                              refine tu_tp (b := (((tu_nl (tu_cb M) j_337) : Nat) : Int)) (by rw [hli.2.1]; exact hnl9.1) ?_
                              refine tu_aload_n 472 X 3 dL_whole_472 rfl ?_
                              refine tu_iconst 473 X dL_whole_473 ?_
                              refine tu_iload 474 X 11 dL_whole_474 rfl ?_
                              refine tu_imul 476 X dL_whole_476 ?_
                              refine tu_iconst 477 X dL_whole_477 ?_
                              refine tu_iadd 478 X dL_whole_478 ?_
                              refine tu_iald 479 X (x := Mh 86 ((2 * j_337) + 1)) ((2 * j_337) + 1) dL_whole_479 (by decide) rfl (by decide) (by omega) (by omega) rfl ?_
                              refine tu_tp (b := (M 86 ((2 * j_337) + 1))) (by rw [hsc 86 (by decide)]) ?_
                              refine tu_iload 480 X 12 dL_whole_480 rfl ?_
                              refine tu_iload 482 X 17 dL_whole_482 rfl ?_
                              refine tu_tp (b := ((j8 : Nat) : Int)) (by rfl) ?_
                              refine tu_aload_n 484 X 2 dL_whole_484 rfl ?_
                              refine tu_aload 485 X 4 dL_whole_485 rfl ?_
                              refine tu_aload 487 X 7 dL_whole_487 rfl ?_
                              refine tu_callSV 489 X (st := []) (as := [tu_i (((tu_nl (tu_cb M) j_337) : Nat) : Int), tu_i (M 86 ((2 * j_337) + 1)), tu_i ((j_348 : Nat) : Int), tu_i ((j8 : Nat) : Int), tu_r 90, tu_r 87, tu_r 91]) (c_L_lay (tu_nl (tu_cb M) j_337) (tu_np (tu_cb M) j_348) j_348 j8 (M 86 ((2 * j_337) + 1)) (tu_u (tu_cb M 1) 0 (((j8 - 1 : Nat) : Int) + 1)) (tu_al (tu_cb M) j_337) (tu_kp (tu_cb M) j_348) (show 1 ≤ (tu_nl (tu_cb M) j_337) ∧ (tu_nl (tu_cb M) j_337) ≤ 5 from by exact ly.1) (show 1 ≤ j8 ∧ j8 ≤ 8 from by omega) (show j_348 < 4 from by exact ly.2.2.1) (show 1 ≤ (tu_np (tu_cb M) j_348) ∧ (tu_np (tu_cb M) j_348) ≤ 9 from by exact ly.2.2.2.1) (show Mh 87 (3 * j_348) = (((tu_np (tu_cb M) j_348) : Nat) : Int) from by exact ly.2.2.2.2.1) (show tu_mk (M 86 ((2 * j_337) + 1)) (tu_nl (tu_cb M) j_337) (tu_al (tu_cb M) j_337) from by exact ly.2.2.2.2.2.1) (show tu_mk (Mh 87 (3 * j_348 + 1)) (tu_np (tu_cb M) j_348) (tz_k2 (tu_kp (tu_cb M) j_348)) from by exact ly.2.2.2.2.2.2.1) (show tu_mk (Mh 87 (3 * j_348 + 2)) (tu_np (tu_cb M) j_348) (tz_k1 (tu_kp (tu_cb M) j_348)) from by exact ly.2.2.2.2.2.2.2.1) (show ∀ b, b < (tu_np (tu_cb M) j_348) → 0 ≤ (tu_kp (tu_cb M) j_348) b ∧ (tu_kp (tu_cb M) j_348) b ≤ 2 from by exact ly.2.2.2.2.2.2.2.2.1) (show (tu_u (tu_cb M 1) 0 (((j8 - 1 : Nat) : Int) + 1)) 0 = ((j8 : Nat) : Int) ∧ (tu_u (tu_cb M 1) 0 (((j8 - 1 : Nat) : Int) + 1)) 1 = Mh 90 1 ∧ (tu_u (tu_cb M 1) 0 (((j8 - 1 : Nat) : Int) + 1)) 2 = Mh 90 2 ∧ (tu_u (tu_cb M 1) 0 (((j8 - 1 : Nat) : Int) + 1)) 3 = Mh 90 3 from by exact ⟨by rw [tu_u_s]; omega, by rw [tu_u_n _ _ (by decide)]; exact ly.2.2.2.2.2.2.2.2.2.1.2.1, by rw [tu_u_n _ _ (by decide)]; exact ly.2.2.2.2.2.2.2.2.2.1.2.2.1, by rw [tu_u_n _ _ (by decide)]; exact ly.2.2.2.2.2.2.2.2.2.1.2.2.2⟩) (show (0 ≤ (tu_u (tu_cb M 1) 0 (((j8 - 1 : Nat) : Int) + 1)) 1 ∧ (tu_u (tu_cb M 1) 0 (((j8 - 1 : Nat) : Int) + 1)) 1 ≤ 9) ∧ (0 ≤ (tu_u (tu_cb M 1) 0 (((j8 - 1 : Nat) : Int) + 1)) 2 ∧ (tu_u (tu_cb M 1) 0 (((j8 - 1 : Nat) : Int) + 1)) 2 ≤ 9) ∧ (0 ≤ (tu_u (tu_cb M 1) 0 (((j8 - 1 : Nat) : Int) + 1)) 3 ∧ (tu_u (tu_cb M 1) 0 (((j8 - 1 : Nat) : Int) + 1)) 3 ≤ 20) from by exact ⟨by rw [tu_u_n _ _ (by decide)]; exact ly.2.2.2.2.2.2.2.2.2.2.1, by rw [tu_u_n _ _ (by decide)]; exact ly.2.2.2.2.2.2.2.2.2.2.2.1, by rw [tu_u_n _ _ (by decide)]; exact ly.2.2.2.2.2.2.2.2.2.2.2.2⟩)) ss_RL_16 dL_whole_489 rfl (Nat.le_of_ble_eq_true rfl) ⟨by decide, by decide⟩ (fun M' h => ?_)
                              obtain ⟨w_489, hM489, h489_0⟩ := h
                              refine tu_st_eq rfl (M' := tu_row Mh 91 w_489) hM489 ?_
                              have hcw := tz_w0 (a := (tu_al (tu_cb M) j_337)) (k := (tu_kp (tu_cb M) j_348)) ⟨hG.1, hG.2.1, by rw [tu_u_s]; omega, by rw [tu_u_n _ _ (by decide)]; exact hG.2.2.2.1, by rw [tu_u_n _ _ (by decide)]; exact hG.2.2.2.2.1, by rw [tu_u_n _ _ (by decide)]; exact hG.2.2.2.2.2.1, hG.2.2.2.2.2.2.1, hG.2.2.2.2.2.2.2⟩ h489_0
                              have eeb : (tu_eb (tu_cb M) j_337 j_348 (j8 - 1)) = tu_cx (tu_u (tu_cb M 1) 0 (((j8 - 1 : Nat) : Int) + 1)) (tu_al (tu_cb M) j_337) (tu_kp (tu_cb M) j_348) (tu_nl (tu_cb M) j_337) (tu_np (tu_cb M) j_348) := rfl
                              rw [← eeb] at hcw
                              refine tu_aload 492 X 7 dL_whole_492 rfl ?_
                              refine tu_iconst 494 X dL_whole_494 ?_
                              refine tu_iald 495 X (x := w_489 0) 0 dL_whole_495 (by decide) rfl (by decide) rfl (by decide) rfl ?_
                              refine tu_if_lt 496 X 532 dL_whole_496 (by decide) (show tu_rg (w_489 0) from by first | assumption | exact ⟨by omega, by omega⟩) (fun br496 => ?_) (fun br496 => ?_)
                              ·
                                have hcx : (tu_eb (tu_cb M) j_337 j_348 (j8 - 1)) = 1000000 := by omega
                                obtain ⟨Mk, hMk⟩ : ∃ m99 : tu_M, m99 = tu_row Mh 91 w_489 := ⟨_, rfl⟩
                                refine tu_st_eq rfl (M' := Mk) hMk.symm ?_
                                have hsc : tz_sc M Mk := by
                                  rw [hMk]
                                  first | exact hsc | exact hsc.w _
                                have hfin := tz_fb_end hfb hmo (by omega)
                                have hfm9 := hfm
                                rw [show j9 = 0 from by omega] at hfm9
                                have hbp := tz_fm_bp hfm9
                                have hchr : -6 ≤ ch ∧ ch ≤ 16 := by
                                  rcases hfm with q | ⟨q, q1, q2, -⟩
                                  · omega
                                  · omega
                                have hbhr : -6 ≤ bh ∧ bh ≤ 16 := by
                                  rcases hfb with q | ⟨q1, q2, -⟩
                                  · omega
                                  · omega
                                refine tu_aload_n 532 X 0 dL_whole_532 rfl ?_
                                refine tu_iload 533 X 11 dL_whole_533 rfl ?_
                                refine tu_iload 535 X 12 dL_whole_535 rfl ?_
                                refine tu_iconst 537 X dL_whole_537 ?_
                                refine tu_callVI 538 X (st := []) (as := [tu_i ((j_337 : Nat) : Int), tu_i ((j_348 : Nat) : Int), tu_i 0]) (c_X3_bestChange ((j_337 : Nat) : Int) ((j_348 : Nat) : Int) 0 (show tu_OK Mk from by exact tz_OK hsc hR.ok) (show tu_rg ((j_337 : Nat) : Int) from by first | assumption | omega | exact ⟨by omega, by omega⟩ | decide) (show tu_rg ((j_348 : Nat) : Int) from by first | assumption | omega | exact ⟨by omega, by omega⟩ | decide) (show tu_rg 0 from by first | assumption | omega | exact ⟨by omega, by omega⟩ | decide)) sv_RL_64 dL_whole_538 rfl (by decide) rfl rfl rfl (Nat.le_of_ble_eq_true rfl) ⟨by decide, by decide⟩ (fun z N538 h => ?_)
                                obtain ⟨y_538, h538_0, h538_1, hz538⟩ := h
                                refine tu_tp (b := y_538) hz538 ?_
                                have a538 := tz_q_bestChange hsc h538_1
                                simp only [Int.toNat_natCast] at a538
                                have e538 : (M 3 j_337).toNat = (tu_nl (tu_cb M) j_337) := rfl
                                rw [e538, if_pos (Or.inl trivial), hbp.1] at a538
                                have b538 : y_538 = ch := by omega
                                have hsc : tz_sc M N538 := hsc.sc h538_0
                                refine tu_iload 541 X 13 dL_whole_541 rfl ?_
                                refine tu_icmp_ne 543 X 577 dL_whole_543 (by decide) (show tu_rg y_538 from by first | assumption | exact ⟨by omega, by omega⟩) (show tu_rg ch from by first | assumption | exact ⟨by omega, by omega⟩) (fun br543 => ?_) (fun br543 => ?_)
                                ·
                                  exfalso; omega
                                ·
                                  refine tu_aload_n 546 X 0 dL_whole_546 rfl ?_
                                  refine tu_iload 547 X 11 dL_whole_547 rfl ?_
                                  refine tu_iload 549 X 12 dL_whole_549 rfl ?_
                                  refine tu_iconst 551 X dL_whole_551 ?_
                                  refine tu_callVI 552 X (st := []) (as := [tu_i ((j_337 : Nat) : Int), tu_i ((j_348 : Nat) : Int), tu_i 1]) (c_X3_bestChange ((j_337 : Nat) : Int) ((j_348 : Nat) : Int) 1 (show tu_OK N538 from by exact tz_OK hsc hR.ok) (show tu_rg ((j_337 : Nat) : Int) from by first | assumption | omega | exact ⟨by omega, by omega⟩ | decide) (show tu_rg ((j_348 : Nat) : Int) from by first | assumption | omega | exact ⟨by omega, by omega⟩ | decide) (show tu_rg 1 from by first | assumption | omega | exact ⟨by omega, by omega⟩ | decide)) sv_RL_64 dL_whole_552 rfl (by decide) rfl rfl rfl (Nat.le_of_ble_eq_true rfl) ⟨by decide, by decide⟩ (fun z N552 h => ?_)
                                  obtain ⟨y_552, h552_0, h552_1, hz552⟩ := h
                                  refine tu_tp (b := y_552) hz552 ?_
                                  have a552 := tz_q_bestChange hsc h552_1
                                  simp only [Int.toNat_natCast] at a552
                                  have e552 : (M 3 j_337).toNat = (tu_nl (tu_cb M) j_337) := rfl
                                  rw [e552, hbp.1] at a552
                                  have b552 : y_552 = ct := by
                                    by_cases q : ch = -6
                                    · rw [if_pos (Or.inr q)] at a552
                                      have := hbp.2.1 q
                                      omega
                                    · have h9 : ¬ ((1 : Int) = 0 ∨ ch = -6) := by omega
                                      have h8 : ¬ (False ∨ ch = -6) := fun z => z.elim id q
                                      first | rw [if_neg h9, hbp.2.2 q] at a552 | rw [if_neg h8, hbp.2.2 q] at a552
                                      omega
                                  have hsc : tz_sc M N552 := hsc.sc h552_0
                                  refine tu_iload 555 X 14 dL_whole_555 rfl ?_
                                  refine tu_icmp_ne 557 X 577 dL_whole_557 (by decide) (show tu_rg y_552 from by first | assumption | exact ⟨by omega, by omega⟩) (show tu_rg ct from by first | assumption | exact ⟨by omega, by omega⟩) (fun br557 => ?_) (fun br557 => ?_)
                                  ·
                                    exfalso; omega
                                  ·
                                    refine tu_aload_n 560 X 0 dL_whole_560 rfl ?_
                                    refine tu_iload 561 X 11 dL_whole_561 rfl ?_
                                    refine tu_iload 563 X 12 dL_whole_563 rfl ?_
                                    refine tu_callVI 565 X (st := []) (as := [tu_i ((j_337 : Nat) : Int), tu_i ((j_348 : Nat) : Int)]) (c_X3_enoughBreath ((j_337 : Nat) : Int) ((j_348 : Nat) : Int) (show tu_OK N552 from by exact tz_OK hsc hR.ok) (show tu_rg ((j_337 : Nat) : Int) from by first | assumption | omega | exact ⟨by omega, by omega⟩ | decide) (show tu_rg ((j_348 : Nat) : Int) from by first | assumption | omega | exact ⟨by omega, by omega⟩ | decide)) sv_RL_67 dL_whole_565 rfl (by decide) rfl rfl rfl (Nat.le_of_ble_eq_true rfl) ⟨by decide, by decide⟩ (fun z N565 h => ?_)
                                    obtain ⟨y_565, h565_0, h565_1, hz565⟩ := h
                                    refine tu_tp (b := y_565) hz565 ?_
                                    have a565 := tz_q_enoughBreath hsc h565_1
                                    simp only [Int.toNat_natCast] at a565
                                    rw [hfin] at a565
                                    have b565 : y_565 = bh := by omega
                                    have hsc : tz_sc M N565 := hsc.sc h565_0
                                    refine tu_iload 568 X 15 dL_whole_568 rfl ?_
                                    refine tu_icmp_ne 570 X 577 dL_whole_570 (by decide) (show tu_rg y_565 from by first | assumption | exact ⟨by omega, by omega⟩) (show tu_rg bh from by first | assumption | exact ⟨by omega, by omega⟩) (fun br570 => ?_) (fun br570 => ?_)
                                    ·
                                      exfalso; omega
                                    ·
                                      refine tu_iconst 573 X dL_whole_573 ?_
                                      refine tu_goto 574 X 578 dL_whole_574 (by decide) ?_
                                      refine hret 578 _ _ 1 dL_whole_578 (fun _ => Or.inr rfl) ?_
                                      exact ⟨_, hsc, rfl, rfl⟩
                              ·
                                have hcx : w_489 0 = (tu_eb (tu_cb M) j_337 j_348 (j8 - 1)) := by omega
                                refine tu_iload 499 X 16 dL_whole_499 rfl ?_
                                refine tu_if_lt 501 X 516 dL_whole_501 (by decide) (show tu_rg wt from by first | assumption | exact ⟨by omega, by omega⟩) (fun br501 => ?_) (fun br501 => ?_)
                                ·
                                  refine tu_iload 516 X 17 dL_whole_516 rfl ?_
                                  refine tu_istore 518 X (lv' := [(15, tu_i ((j8 : Nat) : Int)), (0, tu_r 0), (1, tu_i x), (2, tu_r 90), (3, tu_r 86), (4, tu_r 87), (5, tu_r 88), (6, tu_r 89), (7, tu_r 91), (8, tu_i bs), (9, tu_i fw), (10, tu_i ls), (11, tu_i ((j_337 : Nat) : Int)), (12, tu_i ((j_348 : Nat) : Int)), (13, tu_i ch), (14, tu_i ct), (16, tu_i wt), (17, tu_i ((j8 : Nat) : Int))]) dL_whole_518 (by rw [hnl]; decide) rfl ?_
                                  refine tu_aload 520 X 8 dL_whole_520 rfl ?_
                                  refine tu_iconst 522 X dL_whole_522 ?_
                                  refine tu_iald 523 X (x := w_489 0) 0 dL_whole_523 (by decide) rfl (by decide) rfl (by decide) rfl ?_
                                  refine tu_istore 524 X (lv' := [(16, tu_i (w_489 0)), (15, tu_i ((j8 : Nat) : Int)), (0, tu_r 0), (1, tu_i x), (2, tu_r 90), (3, tu_r 86), (4, tu_r 87), (5, tu_r 88), (6, tu_r 89), (7, tu_r 91), (8, tu_i bs), (9, tu_i fw), (10, tu_i ls), (11, tu_i ((j_337 : Nat) : Int)), (12, tu_i ((j_348 : Nat) : Int)), (13, tu_i ch), (14, tu_i ct), (17, tu_i ((j8 : Nat) : Int))]) dL_whole_524 (by rw [hnl]; decide) rfl ?_
                                  refine tu_iinc 526 X (lv' := [(17, tu_i (((j8 : Nat) : Int) + (-1))), (16, tu_i (w_489 0)), (15, tu_i ((j8 : Nat) : Int)), (0, tu_r 0), (1, tu_i x), (2, tu_r 90), (3, tu_r 86), (4, tu_r 87), (5, tu_r 88), (6, tu_r 89), (7, tu_r 91), (8, tu_i bs), (9, tu_i fw), (10, tu_i ls), (11, tu_i ((j_337 : Nat) : Int)), (12, tu_i ((j_348 : Nat) : Int)), (13, tu_i ch), (14, tu_i ct)]) 17 dL_whole_526 rfl (by rw [hnl]; decide) rfl ?_
                                  refine tu_goto 529 X 460 dL_whole_529 (by decide) ?_
                                  refine tu_jmp [3, 4, 5, 6, 7, 8, 9, 10, 11, 12, 13, 14, 15, 16, 17, 2, 1, 0] (lv' := [(0, tu_r 0), (1, tu_i x), (2, tu_r 90), (3, tu_r 86), (4, tu_r 87), (5, tu_r 88), (6, tu_r 89), (7, tu_r 91), (8, tu_i bs), (9, tu_i fw), (10, tu_i ls), (11, tu_i ((j_337 : Nat) : Int)), (12, tu_i ((j_348 : Nat) : Int)), (13, tu_i ch), (14, tu_i ct), (15, tu_i ((j8 : Nat) : Int)), (16, tu_i (w_489 0)), (17, tu_i (((j8 - 1) : Nat) : Int))]) ⟨rfl, rfl, rfl, rfl, rfl, rfl, rfl, rfl, rfl, rfl, rfl, rfl, rfl, rfl, rfl, rfl, rfl, tu_ei (by first | rfl | (omega)), trivial⟩ rfl (ih460 (j8 - 1) ((j8 : Nat) : Int) (w_489 0) (tu_row Mh 91 w_489) (by omega) (by exact tz_fb_hit hfb hmo (by omega) (by omega) hcx (by omega) (by omega)) (by exact hsc.w _) (by omega))
                                ·
                                  refine tu_aload 504 X 7 dL_whole_504 rfl ?_
                                  refine tu_iconst 506 X dL_whole_506 ?_
                                  refine tu_iald 507 X (x := w_489 0) 0 dL_whole_507 (by decide) rfl (by decide) rfl (by decide) rfl ?_
                                  refine tu_iload 508 X 16 dL_whole_508 rfl ?_
                                  refine tu_icmp_le 510 X 516 dL_whole_510 (by decide) (show tu_rg (w_489 0) from by first | assumption | exact ⟨by omega, by omega⟩) (show tu_rg wt from by first | assumption | exact ⟨by omega, by omega⟩) (fun br510 => ?_) (fun br510 => ?_)
                                  ·
                                    refine tu_iload 516 X 17 dL_whole_516 rfl ?_
                                    refine tu_istore 518 X (lv' := [(15, tu_i ((j8 : Nat) : Int)), (0, tu_r 0), (1, tu_i x), (2, tu_r 90), (3, tu_r 86), (4, tu_r 87), (5, tu_r 88), (6, tu_r 89), (7, tu_r 91), (8, tu_i bs), (9, tu_i fw), (10, tu_i ls), (11, tu_i ((j_337 : Nat) : Int)), (12, tu_i ((j_348 : Nat) : Int)), (13, tu_i ch), (14, tu_i ct), (16, tu_i wt), (17, tu_i ((j8 : Nat) : Int))]) dL_whole_518 (by rw [hnl]; decide) rfl ?_
                                    refine tu_aload 520 X 8 dL_whole_520 rfl ?_
                                    refine tu_iconst 522 X dL_whole_522 ?_
                                    refine tu_iald 523 X (x := w_489 0) 0 dL_whole_523 (by decide) rfl (by decide) rfl (by decide) rfl ?_
                                    refine tu_istore 524 X (lv' := [(16, tu_i (w_489 0)), (15, tu_i ((j8 : Nat) : Int)), (0, tu_r 0), (1, tu_i x), (2, tu_r 90), (3, tu_r 86), (4, tu_r 87), (5, tu_r 88), (6, tu_r 89), (7, tu_r 91), (8, tu_i bs), (9, tu_i fw), (10, tu_i ls), (11, tu_i ((j_337 : Nat) : Int)), (12, tu_i ((j_348 : Nat) : Int)), (13, tu_i ch), (14, tu_i ct), (17, tu_i ((j8 : Nat) : Int))]) dL_whole_524 (by rw [hnl]; decide) rfl ?_
                                    refine tu_iinc 526 X (lv' := [(17, tu_i (((j8 : Nat) : Int) + (-1))), (16, tu_i (w_489 0)), (15, tu_i ((j8 : Nat) : Int)), (0, tu_r 0), (1, tu_i x), (2, tu_r 90), (3, tu_r 86), (4, tu_r 87), (5, tu_r 88), (6, tu_r 89), (7, tu_r 91), (8, tu_i bs), (9, tu_i fw), (10, tu_i ls), (11, tu_i ((j_337 : Nat) : Int)), (12, tu_i ((j_348 : Nat) : Int)), (13, tu_i ch), (14, tu_i ct)]) 17 dL_whole_526 rfl (by rw [hnl]; decide) rfl ?_
                                    refine tu_goto 529 X 460 dL_whole_529 (by decide) ?_
                                    refine tu_jmp [3, 4, 5, 6, 7, 8, 9, 10, 11, 12, 13, 14, 15, 16, 17, 2, 1, 0] (lv' := [(0, tu_r 0), (1, tu_i x), (2, tu_r 90), (3, tu_r 86), (4, tu_r 87), (5, tu_r 88), (6, tu_r 89), (7, tu_r 91), (8, tu_i bs), (9, tu_i fw), (10, tu_i ls), (11, tu_i ((j_337 : Nat) : Int)), (12, tu_i ((j_348 : Nat) : Int)), (13, tu_i ch), (14, tu_i ct), (15, tu_i ((j8 : Nat) : Int)), (16, tu_i (w_489 0)), (17, tu_i (((j8 - 1) : Nat) : Int))]) ⟨rfl, rfl, rfl, rfl, rfl, rfl, rfl, rfl, rfl, rfl, rfl, rfl, rfl, rfl, rfl, rfl, rfl, tu_ei (by first | rfl | (omega)), trivial⟩ rfl (ih460 (j8 - 1) ((j8 : Nat) : Int) (w_489 0) (tu_row Mh 91 w_489) (by omega) (by exact tz_fb_hit hfb hmo (by omega) (by omega) hcx (by omega) (by omega)) (by exact hsc.w _) (by omega))
                                  ·
                                    refine tu_goto 513 X 532 dL_whole_513 (by decide) ?_
                                    obtain ⟨Mk, hMk⟩ : ∃ m99 : tu_M, m99 = tu_row Mh 91 w_489 := ⟨_, rfl⟩
                                    refine tu_st_eq rfl (M' := Mk) hMk.symm ?_
                                    have hsc : tz_sc M Mk := by
                                      rw [hMk]
                                      first | exact hsc | exact hsc.w _
                                    have hfin := tz_fb_end hfb hmo (by omega)
                                    have hfm9 := hfm
                                    rw [show j9 = 0 from by omega] at hfm9
                                    have hbp := tz_fm_bp hfm9
                                    have hchr : -6 ≤ ch ∧ ch ≤ 16 := by
                                      rcases hfm with q | ⟨q, q1, q2, -⟩
                                      · omega
                                      · omega
                                    have hbhr : -6 ≤ bh ∧ bh ≤ 16 := by
                                      rcases hfb with q | ⟨q1, q2, -⟩
                                      · omega
                                      · omega
                                    refine tu_aload_n 532 X 0 dL_whole_532 rfl ?_
                                    refine tu_iload 533 X 11 dL_whole_533 rfl ?_
                                    refine tu_iload 535 X 12 dL_whole_535 rfl ?_
                                    refine tu_iconst 537 X dL_whole_537 ?_
                                    refine tu_callVI 538 X (st := []) (as := [tu_i ((j_337 : Nat) : Int), tu_i ((j_348 : Nat) : Int), tu_i 0]) (c_X3_bestChange ((j_337 : Nat) : Int) ((j_348 : Nat) : Int) 0 (show tu_OK Mk from by exact tz_OK hsc hR.ok) (show tu_rg ((j_337 : Nat) : Int) from by first | assumption | omega | exact ⟨by omega, by omega⟩ | decide) (show tu_rg ((j_348 : Nat) : Int) from by first | assumption | omega | exact ⟨by omega, by omega⟩ | decide) (show tu_rg 0 from by first | assumption | omega | exact ⟨by omega, by omega⟩ | decide)) sv_RL_64 dL_whole_538 rfl (by decide) rfl rfl rfl (Nat.le_of_ble_eq_true rfl) ⟨by decide, by decide⟩ (fun z N538 h => ?_)
                                    obtain ⟨y_538, h538_0, h538_1, hz538⟩ := h
                                    refine tu_tp (b := y_538) hz538 ?_
                                    have a538 := tz_q_bestChange hsc h538_1
                                    simp only [Int.toNat_natCast] at a538
                                    have e538 : (M 3 j_337).toNat = (tu_nl (tu_cb M) j_337) := rfl
                                    rw [e538, if_pos (Or.inl trivial), hbp.1] at a538
                                    have b538 : y_538 = ch := by omega
                                    have hsc : tz_sc M N538 := hsc.sc h538_0
                                    refine tu_iload 541 X 13 dL_whole_541 rfl ?_
                                    refine tu_icmp_ne 543 X 577 dL_whole_543 (by decide) (show tu_rg y_538 from by first | assumption | exact ⟨by omega, by omega⟩) (show tu_rg ch from by first | assumption | exact ⟨by omega, by omega⟩) (fun br543 => ?_) (fun br543 => ?_)
                                    ·
                                      exfalso; omega
                                    ·
                                      refine tu_aload_n 546 X 0 dL_whole_546 rfl ?_
                                      refine tu_iload 547 X 11 dL_whole_547 rfl ?_
                                      refine tu_iload 549 X 12 dL_whole_549 rfl ?_
                                      refine tu_iconst 551 X dL_whole_551 ?_
                                      refine tu_callVI 552 X (st := []) (as := [tu_i ((j_337 : Nat) : Int), tu_i ((j_348 : Nat) : Int), tu_i 1]) (c_X3_bestChange ((j_337 : Nat) : Int) ((j_348 : Nat) : Int) 1 (show tu_OK N538 from by exact tz_OK hsc hR.ok) (show tu_rg ((j_337 : Nat) : Int) from by first | assumption | omega | exact ⟨by omega, by omega⟩ | decide) (show tu_rg ((j_348 : Nat) : Int) from by first | assumption | omega | exact ⟨by omega, by omega⟩ | decide) (show tu_rg 1 from by first | assumption | omega | exact ⟨by omega, by omega⟩ | decide)) sv_RL_64 dL_whole_552 rfl (by decide) rfl rfl rfl (Nat.le_of_ble_eq_true rfl) ⟨by decide, by decide⟩ (fun z N552 h => ?_)
                                      obtain ⟨y_552, h552_0, h552_1, hz552⟩ := h
                                      refine tu_tp (b := y_552) hz552 ?_
                                      have a552 := tz_q_bestChange hsc h552_1
                                      simp only [Int.toNat_natCast] at a552
                                      have e552 : (M 3 j_337).toNat = (tu_nl (tu_cb M) j_337) := rfl
                                      rw [e552, hbp.1] at a552
                                      have b552 : y_552 = ct := by
                                        by_cases q : ch = -6
                                        · rw [if_pos (Or.inr q)] at a552
                                          have := hbp.2.1 q
                                          omega
                                        · have h9 : ¬ ((1 : Int) = 0 ∨ ch = -6) := by omega
                                          have h8 : ¬ (False ∨ ch = -6) := fun z => z.elim id q
                                          first | rw [if_neg h9, hbp.2.2 q] at a552 | rw [if_neg h8, hbp.2.2 q] at a552
                                          omega
                                      have hsc : tz_sc M N552 := hsc.sc h552_0
                                      refine tu_iload 555 X 14 dL_whole_555 rfl ?_
                                      refine tu_icmp_ne 557 X 577 dL_whole_557 (by decide) (show tu_rg y_552 from by first | assumption | exact ⟨by omega, by omega⟩) (show tu_rg ct from by first | assumption | exact ⟨by omega, by omega⟩) (fun br557 => ?_) (fun br557 => ?_)
                                      ·
                                        exfalso; omega
                                      ·
                                        refine tu_aload_n 560 X 0 dL_whole_560 rfl ?_
                                        refine tu_iload 561 X 11 dL_whole_561 rfl ?_
                                        refine tu_iload 563 X 12 dL_whole_563 rfl ?_
                                        refine tu_callVI 565 X (st := []) (as := [tu_i ((j_337 : Nat) : Int), tu_i ((j_348 : Nat) : Int)]) (c_X3_enoughBreath ((j_337 : Nat) : Int) ((j_348 : Nat) : Int) (show tu_OK N552 from by exact tz_OK hsc hR.ok) (show tu_rg ((j_337 : Nat) : Int) from by first | assumption | omega | exact ⟨by omega, by omega⟩ | decide) (show tu_rg ((j_348 : Nat) : Int) from by first | assumption | omega | exact ⟨by omega, by omega⟩ | decide)) sv_RL_67 dL_whole_565 rfl (by decide) rfl rfl rfl (Nat.le_of_ble_eq_true rfl) ⟨by decide, by decide⟩ (fun z N565 h => ?_)
                                        obtain ⟨y_565, h565_0, h565_1, hz565⟩ := h
                                        refine tu_tp (b := y_565) hz565 ?_
                                        have a565 := tz_q_enoughBreath hsc h565_1
                                        simp only [Int.toNat_natCast] at a565
                                        rw [hfin] at a565
                                        have b565 : y_565 = bh := by omega
                                        have hsc : tz_sc M N565 := hsc.sc h565_0
                                        refine tu_iload 568 X 15 dL_whole_568 rfl ?_
                                        refine tu_icmp_ne 570 X 577 dL_whole_570 (by decide) (show tu_rg y_565 from by first | assumption | exact ⟨by omega, by omega⟩) (show tu_rg bh from by first | assumption | exact ⟨by omega, by omega⟩) (fun br570 => ?_) (fun br570 => ?_)
                                        ·
                                          exfalso; omega
                                        ·
                                          refine tu_iconst 573 X dL_whole_573 ?_
                                          refine tu_goto 574 X 578 dL_whole_574 (by decide) ?_
                                          refine hret 578 _ _ 1 dL_whole_578 (fun _ => Or.inr rfl) ?_
                                          exact ⟨_, hsc, rfl, rfl⟩
                        refine tu_jmp [3, 4, 5, 6, 7, 8, 9, 10, 11, 12, 13, 14, 15, 16, 17, 2, 1, 0] (lv' := [(0, tu_r 0), (1, tu_i x), (2, tu_r 90), (3, tu_r 86), (4, tu_r 87), (5, tu_r 88), (6, tu_r 89), (7, tu_r 91), (8, tu_i bs), (9, tu_i fw), (10, tu_i ls), (11, tu_i ((j_337 : Nat) : Int)), (12, tu_i ((j_348 : Nat) : Int)), (13, tu_i ch), (14, tu_i ct), (15, tu_i (-6)), (16, tu_i (-6)), (17, tu_i ((8 : Nat) : Int))]) ⟨rfl, rfl, rfl, rfl, rfl, rfl, rfl, rfl, rfl, rfl, rfl, rfl, rfl, rfl, rfl, rfl, rfl, tu_ei (by first | rfl | (omega)), trivial⟩ rfl (lp460 (8 + 1) 8 (-6) (-6) Mg (by omega) (by exact Or.inl ⟨rfl, rfl, rfl⟩) (by exact hsc) (by omega))
                      ·
                        have ly := tz_lay hR hsc hlM hpM
                        refine tu_aload_n 376 X 3 dL_whole_376 rfl ?_
                        refine tu_iconst 377 X dL_whole_377 ?_
                        refine tu_iload 378 X 11 dL_whole_378 rfl ?_
                        refine tu_imul 380 X dL_whole_380 ?_
                        refine tu_iald 381 X (x := Mg 86 (2 * j_337)) (2 * j_337) dL_whole_381 (by decide) rfl (by decide) (by omega) (by omega) rfl ?_
                        refine tu_tp (b := (M 86 (2 * j_337))) (by rw [hsc 86 (by decide)]) ?_
                        refine tu_tp (b := (((tu_nl (tu_cb M) j_337) : Nat) : Int)) (by rw [hli.2.1]; exact hnl9.1) ?_
                        refine tu_aload_n 382 X 3 dL_whole_382 rfl ?_
                        refine tu_iconst 383 X dL_whole_383 ?_
                        refine tu_iload 384 X 11 dL_whole_384 rfl ?_
                        refine tu_imul 386 X dL_whole_386 ?_
                        refine tu_iconst 387 X dL_whole_387 ?_
                        refine tu_iadd 388 X dL_whole_388 ?_
                        refine tu_iald 389 X (x := Mg 86 ((2 * j_337) + 1)) ((2 * j_337) + 1) dL_whole_389 (by decide) rfl (by decide) (by omega) (by omega) rfl ?_
                        refine tu_tp (b := (M 86 ((2 * j_337) + 1))) (by rw [hsc 86 (by decide)]) ?_
                        refine tu_iconst 390 X dL_whole_390 ?_
                        refine tu_iload 391 X 15 dL_whole_391 rfl ?_
                        refine tu_tp (b := ((j9 - 1 : Nat) : Int)) (by omega) ?_
                        refine tu_ishl 393 X dL_whole_393 ?_
                        refine tu_ixor 394 X dL_whole_394 ?_
                        refine tu_iload 395 X 12 dL_whole_395 rfl ?_
                        refine tu_aload_n 397 X 2 dL_whole_397 rfl ?_
                        refine tu_iconst 398 X dL_whole_398 ?_
                        refine tu_iald 399 X (x := Mg 90 0) 0 dL_whole_399 (by decide) rfl (by decide) rfl (by decide) rfl ?_
                        refine tu_tp (b := (M 90 0)) (by rw [hsc 90 (by decide)]) ?_
                        refine tu_tp (b := (((M 2 0).toNat : Nat) : Int)) (by rw [hqs 0 (by decide)]; have := hB.set; omega) ?_
                        refine tu_aload_n 400 X 2 dL_whole_400 rfl ?_
                        refine tu_aload 401 X 4 dL_whole_401 rfl ?_
                        refine tu_aload 403 X 7 dL_whole_403 rfl ?_
                        refine tu_st_eq (show _ = [tu_r 91, tu_r 87, tu_r 90, tu_i ((((M 2 0).toNat) : Nat) : Int), tu_i ((j_348 : Nat) : Int), tu_i (tu_xor (M 86 ((2 * j_337) + 1)) (tu_shl 1 ((j9 - 1 : Nat) : Int))), tu_i (((tu_nl (tu_cb M) j_337) : Nat) : Int)] from by first | rfl | (simp only [List.cons.injEq, Sum.inl.injEq, and_true, true_and]; omega)) rfl ?_
                        refine tu_callSV 405 X (st := []) (as := [tu_i (((tu_nl (tu_cb M) j_337) : Nat) : Int), tu_i (tu_xor (M 86 ((2 * j_337) + 1)) (tu_shl 1 ((j9 - 1 : Nat) : Int))), tu_i ((j_348 : Nat) : Int), tu_i ((((M 2 0).toNat) : Nat) : Int), tu_r 90, tu_r 87, tu_r 91]) (c_L_lay (tu_nl (tu_cb M) j_337) (tu_np (tu_cb M) j_348) j_348 ((M 2 0).toNat) (tu_xor (M 86 ((2 * j_337) + 1)) (tu_shl 1 ((j9 - 1 : Nat) : Int))) (tu_cb M 1) (tu_u (tu_al (tu_cb M) j_337) (j9 - 1) (1 - (tu_al (tu_cb M) j_337) (j9 - 1))) (tu_kp (tu_cb M) j_348) (show 1 ≤ (tu_nl (tu_cb M) j_337) ∧ (tu_nl (tu_cb M) j_337) ≤ 5 from by exact ly.1) (show 1 ≤ ((M 2 0).toNat) ∧ ((M 2 0).toNat) ≤ 8 from by exact ly.2.1) (show j_348 < 4 from by exact ly.2.2.1) (show 1 ≤ (tu_np (tu_cb M) j_348) ∧ (tu_np (tu_cb M) j_348) ≤ 9 from by exact ly.2.2.2.1) (show Mg 87 (3 * j_348) = (((tu_np (tu_cb M) j_348) : Nat) : Int) from by exact ly.2.2.2.2.1) (show tu_mk (tu_xor (M 86 ((2 * j_337) + 1)) (tu_shl 1 ((j9 - 1 : Nat) : Int))) (tu_nl (tu_cb M) j_337) (tu_u (tu_al (tu_cb M) j_337) (j9 - 1) (1 - (tu_al (tu_cb M) j_337) (j9 - 1))) from by exact ly.2.2.2.2.2.1.flip (by omega) (by omega) (hB.str j_337 (j9 - 1) hlM (by omega))) (show tu_mk (Mg 87 (3 * j_348 + 1)) (tu_np (tu_cb M) j_348) (tz_k2 (tu_kp (tu_cb M) j_348)) from by exact ly.2.2.2.2.2.2.1) (show tu_mk (Mg 87 (3 * j_348 + 2)) (tu_np (tu_cb M) j_348) (tz_k1 (tu_kp (tu_cb M) j_348)) from by exact ly.2.2.2.2.2.2.2.1) (show ∀ b, b < (tu_np (tu_cb M) j_348) → 0 ≤ (tu_kp (tu_cb M) j_348) b ∧ (tu_kp (tu_cb M) j_348) b ≤ 2 from by exact ly.2.2.2.2.2.2.2.2.1) (show (tu_cb M 1) 0 = ((((M 2 0).toNat) : Nat) : Int) ∧ (tu_cb M 1) 1 = Mg 90 1 ∧ (tu_cb M 1) 2 = Mg 90 2 ∧ (tu_cb M 1) 3 = Mg 90 3 from by exact ly.2.2.2.2.2.2.2.2.2.1) (show (0 ≤ (tu_cb M 1) 1 ∧ (tu_cb M 1) 1 ≤ 9) ∧ (0 ≤ (tu_cb M 1) 2 ∧ (tu_cb M 1) 2 ≤ 9) ∧ (0 ≤ (tu_cb M 1) 3 ∧ (tu_cb M 1) 3 ≤ 20) from by exact ly.2.2.2.2.2.2.2.2.2.2)) ss_RL_16 dL_whole_405 rfl (Nat.le_of_ble_eq_true rfl) ⟨by decide, by decide⟩ (fun M' h => ?_)
                        obtain ⟨w_405, hM405, h405_0⟩ := h
                        refine tu_st_eq rfl (M' := tu_row Mg 91 w_405) hM405 ?_
                        have hcw := tz_w0 (L := tu_cb M 1) ⟨hG.1, hG.2.1, hG.2.2.1, hG.2.2.2.1, hG.2.2.2.2.1, hG.2.2.2.2.2.1, hG.2.2.2.2.2.2.1, fun s hs => by
                          rw [tu_u_if]
                          split
                          · have := hG.2.2.2.2.2.2.2 (j9 - 1) (by omega); omega
                          · exact hG.2.2.2.2.2.2.2 s hs⟩ h405_0
                        have ebc : (tu_bc (tu_cb M) j_337 j_348 (j9 - 1)) = tu_cx (tu_cb M 1) (tu_u (tu_al (tu_cb M) j_337) (j9 - 1) (1 - (tu_al (tu_cb M) j_337) (j9 - 1))) (tu_kp (tu_cb M) j_348) (tu_nl (tu_cb M) j_337) (tu_np (tu_cb M) j_348) := rfl
                        rw [← ebc] at hcw
                        refine tu_aload 408 X 7 dL_whole_408 rfl ?_
                        refine tu_iconst 410 X dL_whole_410 ?_
                        refine tu_iald 411 X (x := w_405 0) 0 dL_whole_411 (by decide) rfl (by decide) rfl (by decide) rfl ?_
                        refine tu_if_lt 412 X 442 dL_whole_412 (by decide) (show tu_rg (w_405 0) from by first | assumption | exact ⟨by omega, by omega⟩) (fun br412 => ?_) (fun br412 => ?_)
                        ·
                          have hcx : (tu_bc (tu_cb M) j_337 j_348 (j9 - 1)) = 1000000 := by omega
                          refine tu_iinc 442 X (lv' := [(15, tu_i ((((j9 : Nat) : Int) - 1) + (-1))), (0, tu_r 0), (1, tu_i x), (2, tu_r 90), (3, tu_r 86), (4, tu_r 87), (5, tu_r 88), (6, tu_r 89), (7, tu_r 91), (8, tu_i bs), (9, tu_i fw), (10, tu_i ls), (11, tu_i ((j_337 : Nat) : Int)), (12, tu_i ((j_348 : Nat) : Int)), (13, tu_i ch), (14, tu_i ct)]) 15 dL_whole_442 rfl (by rw [hnl]; decide) rfl ?_
                          refine tu_goto 445 X 371 dL_whole_445 (by decide) ?_
                          refine tu_jmp [1, 2, 3, 4, 5, 6, 7, 8, 9, 10, 11, 12, 13, 14, 15, 0] (lv' := [(0, tu_r 0), (1, tu_i x), (2, tu_r 90), (3, tu_r 86), (4, tu_r 87), (5, tu_r 88), (6, tu_r 89), (7, tu_r 91), (8, tu_i bs), (9, tu_i fw), (10, tu_i ls), (11, tu_i ((j_337 : Nat) : Int)), (12, tu_i ((j_348 : Nat) : Int)), (13, tu_i ch), (14, tu_i ct), (15, tu_i ((((j9 - 1) : Nat) : Int) - 1))]) ⟨rfl, rfl, rfl, rfl, rfl, rfl, rfl, rfl, rfl, rfl, rfl, rfl, rfl, rfl, rfl, tu_ei (by first | rfl | (omega)), trivial⟩ rfl (ih371 (j9 - 1) ch ct (tu_row Mg 91 w_405) (by omega) (by first | exact tz_fm_hit hfm (by omega) hj9 (by omega) hcx (show 0 ≤ (tu_bc (tu_cb M) j_337 j_348 (j9 - 1)) ∧ (tu_bc (tu_cb M) j_337 j_348 (j9 - 1)) < 1000000 from by omega) (by omega) | exact tz_fm_miss hfm (by omega) (by omega)) (by exact hsc.w _) (by omega))
                        ·
                          have hcx : w_405 0 = (tu_bc (tu_cb M) j_337 j_348 (j9 - 1)) := by omega
                          refine tu_iload 415 X 14 dL_whole_415 rfl ?_
                          refine tu_if_lt 417 X 432 dL_whole_417 (by decide) (show tu_rg ct from by first | assumption | exact ⟨by omega, by omega⟩) (fun br417 => ?_) (fun br417 => ?_)
                          ·
                            refine tu_iload 432 X 15 dL_whole_432 rfl ?_
                            refine tu_istore 434 X (lv' := [(13, tu_i (((j9 : Nat) : Int) - 1)), (0, tu_r 0), (1, tu_i x), (2, tu_r 90), (3, tu_r 86), (4, tu_r 87), (5, tu_r 88), (6, tu_r 89), (7, tu_r 91), (8, tu_i bs), (9, tu_i fw), (10, tu_i ls), (11, tu_i ((j_337 : Nat) : Int)), (12, tu_i ((j_348 : Nat) : Int)), (14, tu_i ct), (15, tu_i (((j9 : Nat) : Int) - 1))]) dL_whole_434 (by rw [hnl]; decide) rfl ?_
                            refine tu_aload 436 X 8 dL_whole_436 rfl ?_
                            refine tu_iconst 438 X dL_whole_438 ?_
                            refine tu_iald 439 X (x := w_405 0) 0 dL_whole_439 (by decide) rfl (by decide) rfl (by decide) rfl ?_
                            refine tu_istore 440 X (lv' := [(14, tu_i (w_405 0)), (13, tu_i (((j9 : Nat) : Int) - 1)), (0, tu_r 0), (1, tu_i x), (2, tu_r 90), (3, tu_r 86), (4, tu_r 87), (5, tu_r 88), (6, tu_r 89), (7, tu_r 91), (8, tu_i bs), (9, tu_i fw), (10, tu_i ls), (11, tu_i ((j_337 : Nat) : Int)), (12, tu_i ((j_348 : Nat) : Int)), (15, tu_i (((j9 : Nat) : Int) - 1))]) dL_whole_440 (by rw [hnl]; decide) rfl ?_
                            refine tu_iinc 442 X (lv' := [(15, tu_i ((((j9 : Nat) : Int) - 1) + (-1))), (14, tu_i (w_405 0)), (13, tu_i (((j9 : Nat) : Int) - 1)), (0, tu_r 0), (1, tu_i x), (2, tu_r 90), (3, tu_r 86), (4, tu_r 87), (5, tu_r 88), (6, tu_r 89), (7, tu_r 91), (8, tu_i bs), (9, tu_i fw), (10, tu_i ls), (11, tu_i ((j_337 : Nat) : Int)), (12, tu_i ((j_348 : Nat) : Int))]) 15 dL_whole_442 rfl (by rw [hnl]; decide) rfl ?_
                            refine tu_goto 445 X 371 dL_whole_445 (by decide) ?_
                            refine tu_jmp [3, 4, 5, 6, 7, 8, 9, 10, 11, 12, 13, 14, 15, 2, 1, 0] (lv' := [(0, tu_r 0), (1, tu_i x), (2, tu_r 90), (3, tu_r 86), (4, tu_r 87), (5, tu_r 88), (6, tu_r 89), (7, tu_r 91), (8, tu_i bs), (9, tu_i fw), (10, tu_i ls), (11, tu_i ((j_337 : Nat) : Int)), (12, tu_i ((j_348 : Nat) : Int)), (13, tu_i (((j9 : Nat) : Int) - 1)), (14, tu_i (w_405 0)), (15, tu_i ((((j9 - 1) : Nat) : Int) - 1))]) ⟨rfl, rfl, rfl, rfl, rfl, rfl, rfl, rfl, rfl, rfl, rfl, rfl, rfl, rfl, rfl, tu_ei (by first | rfl | (omega)), trivial⟩ rfl (ih371 (j9 - 1) (((j9 : Nat) : Int) - 1) (w_405 0) (tu_row Mg 91 w_405) (by omega) (by first | exact tz_fm_hit hfm (by omega) hj9 (by omega) hcx (show 0 ≤ (tu_bc (tu_cb M) j_337 j_348 (j9 - 1)) ∧ (tu_bc (tu_cb M) j_337 j_348 (j9 - 1)) < 1000000 from by omega) (by omega) | exact tz_fm_miss hfm (by omega) (by omega)) (by exact hsc.w _) (by omega))
                          ·
                            refine tu_aload 420 X 7 dL_whole_420 rfl ?_
                            refine tu_iconst 422 X dL_whole_422 ?_
                            refine tu_iald 423 X (x := w_405 0) 0 dL_whole_423 (by decide) rfl (by decide) rfl (by decide) rfl ?_
                            refine tu_iload 424 X 14 dL_whole_424 rfl ?_
                            refine tu_icmp_le 426 X 432 dL_whole_426 (by decide) (show tu_rg (w_405 0) from by first | assumption | exact ⟨by omega, by omega⟩) (show tu_rg ct from by first | assumption | exact ⟨by omega, by omega⟩) (fun br426 => ?_) (fun br426 => ?_)
                            ·
                              refine tu_iload 432 X 15 dL_whole_432 rfl ?_
                              refine tu_istore 434 X (lv' := [(13, tu_i (((j9 : Nat) : Int) - 1)), (0, tu_r 0), (1, tu_i x), (2, tu_r 90), (3, tu_r 86), (4, tu_r 87), (5, tu_r 88), (6, tu_r 89), (7, tu_r 91), (8, tu_i bs), (9, tu_i fw), (10, tu_i ls), (11, tu_i ((j_337 : Nat) : Int)), (12, tu_i ((j_348 : Nat) : Int)), (14, tu_i ct), (15, tu_i (((j9 : Nat) : Int) - 1))]) dL_whole_434 (by rw [hnl]; decide) rfl ?_
                              refine tu_aload 436 X 8 dL_whole_436 rfl ?_
                              refine tu_iconst 438 X dL_whole_438 ?_
                              refine tu_iald 439 X (x := w_405 0) 0 dL_whole_439 (by decide) rfl (by decide) rfl (by decide) rfl ?_
                              refine tu_istore 440 X (lv' := [(14, tu_i (w_405 0)), (13, tu_i (((j9 : Nat) : Int) - 1)), (0, tu_r 0), (1, tu_i x), (2, tu_r 90), (3, tu_r 86), (4, tu_r 87), (5, tu_r 88), (6, tu_r 89), (7, tu_r 91), (8, tu_i bs), (9, tu_i fw), (10, tu_i ls), (11, tu_i ((j_337 : Nat) : Int)), (12, tu_i ((j_348 : Nat) : Int)), (15, tu_i (((j9 : Nat) : Int) - 1))]) dL_whole_440 (by rw [hnl]; decide) rfl ?_
                              refine tu_iinc 442 X (lv' := [(15, tu_i ((((j9 : Nat) : Int) - 1) + (-1))), (14, tu_i (w_405 0)), (13, tu_i (((j9 : Nat) : Int) - 1)), (0, tu_r 0), (1, tu_i x), (2, tu_r 90), (3, tu_r 86), (4, tu_r 87), (5, tu_r 88), (6, tu_r 89), (7, tu_r 91), (8, tu_i bs), (9, tu_i fw), (10, tu_i ls), (11, tu_i ((j_337 : Nat) : Int)), (12, tu_i ((j_348 : Nat) : Int))]) 15 dL_whole_442 rfl (by rw [hnl]; decide) rfl ?_
                              refine tu_goto 445 X 371 dL_whole_445 (by decide) ?_
                              refine tu_jmp [3, 4, 5, 6, 7, 8, 9, 10, 11, 12, 13, 14, 15, 2, 1, 0] (lv' := [(0, tu_r 0), (1, tu_i x), (2, tu_r 90), (3, tu_r 86), (4, tu_r 87), (5, tu_r 88), (6, tu_r 89), (7, tu_r 91), (8, tu_i bs), (9, tu_i fw), (10, tu_i ls), (11, tu_i ((j_337 : Nat) : Int)), (12, tu_i ((j_348 : Nat) : Int)), (13, tu_i (((j9 : Nat) : Int) - 1)), (14, tu_i (w_405 0)), (15, tu_i ((((j9 - 1) : Nat) : Int) - 1))]) ⟨rfl, rfl, rfl, rfl, rfl, rfl, rfl, rfl, rfl, rfl, rfl, rfl, rfl, rfl, rfl, tu_ei (by first | rfl | (omega)), trivial⟩ rfl (ih371 (j9 - 1) (((j9 : Nat) : Int) - 1) (w_405 0) (tu_row Mg 91 w_405) (by omega) (by first | exact tz_fm_hit hfm (by omega) hj9 (by omega) hcx (show 0 ≤ (tu_bc (tu_cb M) j_337 j_348 (j9 - 1)) ∧ (tu_bc (tu_cb M) j_337 j_348 (j9 - 1)) < 1000000 from by omega) (by omega) | exact tz_fm_miss hfm (by omega) (by omega)) (by exact hsc.w _) (by omega))
                            ·
                              refine tu_goto 429 X 442 dL_whole_429 (by decide) ?_
                              refine tu_iinc 442 X (lv' := [(15, tu_i ((((j9 : Nat) : Int) - 1) + (-1))), (0, tu_r 0), (1, tu_i x), (2, tu_r 90), (3, tu_r 86), (4, tu_r 87), (5, tu_r 88), (6, tu_r 89), (7, tu_r 91), (8, tu_i bs), (9, tu_i fw), (10, tu_i ls), (11, tu_i ((j_337 : Nat) : Int)), (12, tu_i ((j_348 : Nat) : Int)), (13, tu_i ch), (14, tu_i ct)]) 15 dL_whole_442 rfl (by rw [hnl]; decide) rfl ?_
                              refine tu_goto 445 X 371 dL_whole_445 (by decide) ?_
                              refine tu_jmp [1, 2, 3, 4, 5, 6, 7, 8, 9, 10, 11, 12, 13, 14, 15, 0] (lv' := [(0, tu_r 0), (1, tu_i x), (2, tu_r 90), (3, tu_r 86), (4, tu_r 87), (5, tu_r 88), (6, tu_r 89), (7, tu_r 91), (8, tu_i bs), (9, tu_i fw), (10, tu_i ls), (11, tu_i ((j_337 : Nat) : Int)), (12, tu_i ((j_348 : Nat) : Int)), (13, tu_i ch), (14, tu_i ct), (15, tu_i ((((j9 - 1) : Nat) : Int) - 1))]) ⟨rfl, rfl, rfl, rfl, rfl, rfl, rfl, rfl, rfl, rfl, rfl, rfl, rfl, rfl, rfl, tu_ei (by first | rfl | (omega)), trivial⟩ rfl (ih371 (j9 - 1) ch ct (tu_row Mg 91 w_405) (by omega) (by first | exact tz_fm_hit hfm (by omega) hj9 (by omega) hcx (show 0 ≤ (tu_bc (tu_cb M) j_337 j_348 (j9 - 1)) ∧ (tu_bc (tu_cb M) j_337 j_348 (j9 - 1)) < 1000000 from by omega) (by omega) | exact tz_fm_miss hfm (by omega) (by omega)) (by exact hsc.w _) (by omega))
                  refine tu_jmp [5, 6, 7, 8, 9, 10, 11, 12, 13, 14, 15, 4, 3, 2, 1, 0] (lv' := [(0, tu_r 0), (1, tu_i x), (2, tu_r 90), (3, tu_r 86), (4, tu_r 87), (5, tu_r 88), (6, tu_r 89), (7, tu_r 91), (8, tu_i bs), (9, tu_i fw), (10, tu_i ls), (11, tu_i ((j_337 : Nat) : Int)), (12, tu_i ((j_348 : Nat) : Int)), (13, tu_i (-6)), (14, tu_i (-6)), (15, tu_i ((((tu_nl (tu_cb M) j_337) : Nat) : Int) - 1))]) ⟨rfl, rfl, rfl, rfl, rfl, rfl, rfl, rfl, rfl, rfl, rfl, rfl, rfl, rfl, rfl, rfl, trivial⟩ rfl (lp371 ((tu_nl (tu_cb M) j_337) + 1) (tu_nl (tu_cb M) j_337) (-6) (-6) Me (by omega) (by exact tz_fm_0 _ _) (by exact hsc) (by omega))
                ·
                  refine tu_iconst 331 X dL_whole_331 ?_
                  refine hret 332 _ _ 1 dL_whole_332 (fun _ => Or.inr rfl) ?_
                  exact ⟨_, hsc, rfl, rfl⟩
          refine tu_aload_n 300 X 2 dL_whole_300 rfl ?_
          refine tu_bipush 301 X dL_whole_301 (by decide) ?_
          refine tu_iald 303 X (x := N292 90 7) 7 dL_whole_303 (by decide) rfl (by decide) rfl (by decide) rfl ?_
          refine tu_tp (b := (M 90 7)) (by rw [hsc 90 (by decide)]) ?_
          refine tu_tp (b := ((NT : Nat) : Int)) (by rw [q4.2.2.2]; exact eT) ?_
          refine tu_if_ne 304 X 319 dL_whole_304 (by decide) (show tu_rg ((NT : Nat) : Int) from by first | assumption | exact ⟨by omega, by omega⟩) (fun br304 => ?_) (fun br304 => ?_)
          ·
            refine tu_jmp [0, 1, 2, 3, 4, 5, 6, 7, 8, 9, 10, 11] (lv' := [(0, tu_r 0), (1, tu_i x), (2, tu_r 90), (3, tu_r 86), (4, tu_r 87), (5, tu_r 88), (6, tu_r 89), (7, tu_r 91), (8, tu_i bs), (9, tu_i fw), (10, tu_i ls), (11, tu_i (((e : Nat) : Int) - 1))]) ⟨rfl, rfl, rfl, rfl, rfl, rfl, rfl, rfl, rfl, rfl, rfl, rfl, trivial⟩ rfl (lp319 N292 (by exact hsc))
          ·
            refine tu_aload_n 307 X 0 dL_whole_307 rfl ?_
            refine tu_iconst 308 X dL_whole_308 ?_
            refine tu_callVI 309 X (st := []) (as := [tu_i 0]) (c_X3_whole 0 (show tu_OK N292 from by exact tz_OK hsc hR.ok) (show tu_rg 0 from by first | assumption | omega | exact ⟨by omega, by omega⟩ | decide)) sv_RL_54 dL_whole_309 rfl (by decide) rfl rfl rfl (Nat.le_of_ble_eq_true rfl) ⟨by decide, by decide⟩ (fun z N309 h => ?_)
            obtain ⟨y_309, h309_0, h309_1, hz309⟩ := h
            refine tu_tp (b := y_309) hz309 ?_
            have a309 := tz_q_whole hsc h309_1
            simp only [Int.toNat_natCast] at a309
            have b309 : y_309 = -5 := by omega
            have hsc : tz_sc M N309 := hsc.sc h309_0
            refine tu_bipush 312 X dL_whole_312 (by decide) ?_
            refine tu_icmp_eq 314 X 319 dL_whole_314 (by decide) (show tu_rg y_309 from by first | assumption | exact ⟨by omega, by omega⟩) ⟨by decide, by decide⟩ (fun br314 => ?_) (fun br314 => ?_)
            ·
              refine tu_jmp [0, 1, 2, 3, 4, 5, 6, 7, 8, 9, 10, 11] (lv' := [(0, tu_r 0), (1, tu_i x), (2, tu_r 90), (3, tu_r 86), (4, tu_r 87), (5, tu_r 88), (6, tu_r 89), (7, tu_r 91), (8, tu_i bs), (9, tu_i fw), (10, tu_i ls), (11, tu_i (((e : Nat) : Int) - 1))]) ⟨rfl, rfl, rfl, rfl, rfl, rfl, rfl, rfl, rfl, rfl, rfl, rfl, trivial⟩ rfl (lp319 N309 (by exact hsc))
            ·
              exfalso; omega
      ·
        refine tu_iload 21 X 11 dL_whole_21 rfl ?_
        refine tu_if_ge 23 X 36 dL_whole_23 (by decide) (show tu_rg (((e : Nat) : Int) - 1) from by first | assumption | exact ⟨by omega, by omega⟩) (fun br23 => ?_) (fun br23 => ?_)
        ·
          have hNT : e = 0 → 1 ≤ NT := fun q => by omega
          obtain ⟨ON, hON⟩ : ∃ ON : Nat → Nat, ON = fun k => if e = 0 then (M 8 (k % NT)).toNat else e - 1 := ⟨_, rfl⟩
          have hON0 : e = 0 → ∀ k, ON k = (M 8 (k % NT)).toNat := fun q k => by rw [hON]; exact if_pos q
          have hON1 : e ≠ 0 → ∀ k, ON k = e - 1 := fun q k => by rw [hON]; exact if_neg q
          have hONl : ∀ k, ((ON k : Nat) : Int) < M 1 4 := by
            intro k
            by_cases q : e = 0
            · rw [hON0 q k]
              have z := Nat.mod_lt k (hNT q)
              have := hB.tun (k % NT) (by omega)
              omega
            · rw [hON1 q k]; omega
          have hcr : ∀ q, q < NB → 0 ≤ tu_co (tu_cb M) (M 7 q).toNat (ON q) ∧ tu_co (tu_cb M) (M 7 q).toNat (ON q) ≤ 1000000 := by
            intro q hq
            have := hB.bal q (by omega)
            exact tz_co_rg (hR.lp (by omega) (hONl q))
          refine tu_iconst 36 X dL_whole_36 ?_
          refine tu_istore 37 X (lv' := [(12, tu_i 0), (0, tu_r 0), (1, tu_i x), (2, tu_r 90), (3, tu_r 86), (4, tu_r 87), (5, tu_r 88), (6, tu_r 89), (7, tu_r 91), (8, tu_i bs), (9, tu_i fw), (10, tu_i ls), (11, tu_i (((e : Nat) : Int) - 1))]) dL_whole_37 (by rw [hnl]; decide) rfl ?_
          refine tu_iconst 39 X dL_whole_39 ?_
          refine tu_istore 40 X (lv' := [(13, tu_i 0), (12, tu_i 0), (0, tu_r 0), (1, tu_i x), (2, tu_r 90), (3, tu_r 86), (4, tu_r 87), (5, tu_r 88), (6, tu_r 89), (7, tu_r 91), (8, tu_i bs), (9, tu_i fw), (10, tu_i ls), (11, tu_i (((e : Nat) : Int) - 1))]) dL_whole_40 (by rw [hnl]; decide) rfl ?_
          refine tu_bipush 42 X dL_whole_42 (by decide) ?_
          refine tu_istore 44 X (lv' := [(14, tu_i (-6)), (13, tu_i 0), (12, tu_i 0), (0, tu_r 0), (1, tu_i x), (2, tu_r 90), (3, tu_r 86), (4, tu_r 87), (5, tu_r 88), (6, tu_r 89), (7, tu_r 91), (8, tu_i bs), (9, tu_i fw), (10, tu_i ls), (11, tu_i (((e : Nat) : Int) - 1))]) dL_whole_44 (by rw [hnl]; decide) rfl ?_
          refine tu_iconst 46 X dL_whole_46 ?_
          refine tu_istore 47 X (lv' := [(15, tu_i (-1)), (14, tu_i (-6)), (13, tu_i 0), (12, tu_i 0), (0, tu_r 0), (1, tu_i x), (2, tu_r 90), (3, tu_r 86), (4, tu_r 87), (5, tu_r 88), (6, tu_r 89), (7, tu_r 91), (8, tu_i bs), (9, tu_i fw), (10, tu_i ls), (11, tu_i (((e : Nat) : Int) - 1))]) dL_whole_47 (by rw [hnl]; decide) rfl ?_
          refine tu_iconst 49 X dL_whole_49 ?_
          refine tu_istore 50 X (lv' := [(16, tu_i 0), (15, tu_i (-1)), (14, tu_i (-6)), (13, tu_i 0), (12, tu_i 0), (0, tu_r 0), (1, tu_i x), (2, tu_r 90), (3, tu_r 86), (4, tu_r 87), (5, tu_r 88), (6, tu_r 89), (7, tu_r 91), (8, tu_i bs), (9, tu_i fw), (10, tu_i ls), (11, tu_i (((e : Nat) : Int) - 1))]) dL_whole_50 (by rw [hnl]; decide) rfl ?_
          refine tu_iconst 52 X dL_whole_52 ?_
          refine tu_istore 53 X (lv' := [(17, tu_i 0), (16, tu_i 0), (15, tu_i (-1)), (14, tu_i (-6)), (13, tu_i 0), (12, tu_i 0), (0, tu_r 0), (1, tu_i x), (2, tu_r 90), (3, tu_r 86), (4, tu_r 87), (5, tu_r 88), (6, tu_r 89), (7, tu_r 91), (8, tu_i bs), (9, tu_i fw), (10, tu_i ls), (11, tu_i (((e : Nat) : Int) - 1))]) dL_whole_53 (by rw [hnl]; decide) rfl ?_
          have lp55 : ∀ (nq : Nat) (k9 : Nat) (Mb : tu_M), (k9 ≤ NB) → (-1 ≤ (tu_gp (fun q => tu_co (tu_cb M) (M 7 q).toNat (ON q)) k9).1 ∧ (tu_gp (fun q => tu_co (tu_cb M) (M 7 q).toNat (ON q)) k9).1 ≤ 1000000) → (tz_sc M Mb) → NB - k9 < nq → tu_W T 55 [(0, tu_r 0), (1, tu_i x), (2, tu_r 90), (3, tu_r 86), (4, tu_r 87), (5, tu_r 88), (6, tu_r 89), (7, tu_r 91), (8, tu_i bs), (9, tu_i fw), (10, tu_i ls), (11, tu_i (((e : Nat) : Int) - 1)), (12, tu_i (tu_sm (fun q => if tu_co (tu_cb M) (M 7 q).toNat (ON q) < 1000000 then tu_co (tu_cb M) (M 7 q).toNat (ON q) else 0) k9)), (13, tu_i (tu_sm (fun q => if tu_co (tu_cb M) (M 7 q).toNat (ON q) < 1000000 then 0 else 1) k9)), (14, tu_i ((tu_gp (fun q => tu_co (tu_cb M) (M 7 q).toNat (ON q)) k9).2)), (15, tu_i ((tu_gp (fun q => tu_co (tu_cb M) (M 7 q).toNat (ON q)) k9).1)), (16, tu_i (tu_sm (fun q => M 5 (ON q)) k9)), (17, tu_i ((k9 : Nat) : Int))] [] Mb := by
            intro nq
            induction nq with
            | zero => intros; omega
            | succ nq ih55 =>
              intro k9 Mb hk9 hgp hsc hn55
              refine tu_iload 55 X 17 dL_whole_55 rfl ?_
              refine tu_aload_n 57 X 2 dL_whole_57 rfl ?_
              refine tu_bipush 58 X dL_whole_58 (by decide) ?_
              refine tu_iald 60 X (x := Mb 90 6) 6 dL_whole_60 (by decide) rfl (by decide) rfl (by decide) rfl ?_
              refine tu_tp (b := (M 90 6)) (by rw [hsc 90 (by decide)]) ?_
              refine tu_tp (b := ((NB : Nat) : Int)) (by rw [q4.2.2.1]; exact eB) ?_
              refine tu_icmp_ge 61 X 197 dL_whole_61 (by decide) (show tu_rg ((k9 : Nat) : Int) from by first | assumption | exact ⟨by omega, by omega⟩) (show tu_rg ((NB : Nat) : Int) from by first | assumption | exact ⟨by omega, by omega⟩) (fun br61 => ?_) (fun br61 => ?_)
              ·
                refine tu_jmp [0, 1, 2, 3, 4, 5, 6, 7, 8, 9, 10, 11, 12, 13, 14, 15, 16, 17] (lv' := [(0, tu_r 0), (1, tu_i x), (2, tu_r 90), (3, tu_r 86), (4, tu_r 87), (5, tu_r 88), (6, tu_r 89), (7, tu_r 91), (8, tu_i bs), (9, tu_i fw), (10, tu_i ls), (11, tu_i (((e : Nat) : Int) - 1)), (12, tu_i (tu_sm (fun q => if tu_co (tu_cb M) (M 7 q).toNat (ON q) < 1000000 then tu_co (tu_cb M) (M 7 q).toNat (ON q) else 0) NB)), (13, tu_i (tu_sm (fun q => if tu_co (tu_cb M) (M 7 q).toNat (ON q) < 1000000 then 0 else 1) NB)), (14, tu_i ((tu_gp (fun q => tu_co (tu_cb M) (M 7 q).toNat (ON q)) NB).2)), (15, tu_i ((tu_gp (fun q => tu_co (tu_cb M) (M 7 q).toNat (ON q)) NB).1)), (16, tu_i (tu_sm (fun q => M 5 (ON q)) NB)), (17, tu_i ((k9 : Nat) : Int))]) ⟨rfl, rfl, rfl, rfl, rfl, rfl, rfl, rfl, rfl, rfl, rfl, rfl, tu_ei (by rw [show NB = k9 from by omega]), tu_ei (by rw [show NB = k9 from by omega]), tu_ei (by rw [show NB = k9 from by omega]), tu_ei (by rw [show NB = k9 from by omega]), tu_ei (by rw [show NB = k9 from by omega]), rfl, trivial⟩ rfl ?_
                have hek : k9 = NB := by omega
                have hs1 : 0 ≤ tu_sm (fun q => if tu_co (tu_cb M) (M 7 q).toNat (ON q) < 1000000 then tu_co (tu_cb M) (M 7 q).toNat (ON q) else 0) NB ∧ tu_sm (fun q => if tu_co (tu_cb M) (M 7 q).toNat (ON q) < 1000000 then tu_co (tu_cb M) (M 7 q).toNat (ON q) else 0) NB ≤ 1000000 * (NB : Int) := tu_sm_bd (fun q hq => by have := hcr q hq; split <;> omega)
                have hs2 : 0 ≤ tu_sm (fun q => if tu_co (tu_cb M) (M 7 q).toNat (ON q) < 1000000 then 0 else 1) NB ∧ tu_sm (fun q => if tu_co (tu_cb M) (M 7 q).toNat (ON q) < 1000000 then 0 else 1) NB ≤ 1 * (NB : Int) := tu_sm_bd (fun q hq => by split <;> omega)
                have hs4 : 0 ≤ tu_sm (fun q => M 5 (ON q)) NB ∧ tu_sm (fun q => M 5 (ON q)) NB ≤ 24 * (NB : Int) := tu_sm_bd (fun q hq => by have := hB.bts _ (hONl q); omega)
                have hgp2 : ∀ z : Nat, -6 ≤ (tu_gp (fun q => tu_co (tu_cb M) (M 7 q).toNat (ON q)) z).2 ∧ (tu_gp (fun q => tu_co (tu_cb M) (M 7 q).toNat (ON q)) z).2 ≤ z := by
                  intro z
                  induction z with
                  | zero => exact ⟨Int.le_refl _, by show (-6 : Int) ≤ 0; decide⟩
                  | succ z ih =>
                    show -6 ≤ (if _ then (_, (z : Int)) else tu_gp _ z).2 ∧ (if _ then (_, (z : Int)) else tu_gp _ z).2 ≤ ((z + 1 : Nat) : Int)
                    split
                    · show -6 ≤ (z : Int) ∧ (z : Int) ≤ _; omega
                    · omega
                have hgp3 := hgp2 NB
                refine tu_iload 197 X 11 dL_whole_197 rfl ?_
                refine tu_if_ge 199 X 244 dL_whole_199 (by decide) (show tu_rg (((e : Nat) : Int) - 1) from by first | assumption | exact ⟨by omega, by omega⟩) (fun br199 => ?_) (fun br199 => ?_)
                ·
                  have he1 : e ≠ 0 := by omega
                  have hbal9 : ∀ k, k < NB → 0 ≤ tu_cb M 6 k ∧ tu_cb M 6 k < (NL : Int) := fun k hk => by
                    have := hB.bal k (by omega)
                    exact ⟨this.1, by show M 7 k < _; omega⟩
                  have hU : tu_sm (fun q => if tu_co (tu_cb M) (M 7 q).toNat (ON q) < 1000000 then 0 else 1) NB = tu_uq (tu_cb M) (e - 1) NL := by
                    rw [← tz_uq (N := NB) eB hbal9]
                    exact tz_sm_q (fun q hq => by rw [hON1 he1 q]; rfl)
                  have hSq : tu_sm (fun q => if tu_co (tu_cb M) (M 7 q).toNat (ON q) < 1000000 then tu_co (tu_cb M) (M 7 q).toNat (ON q) else 0) NB = tu_sq2 (tu_cb M) (e - 1) NL := by
                    rw [← tz_sq (N := NB) eB hbal9]
                    exact tz_sm_q (fun q hq => by rw [hON1 he1 q]; rfl)
                  have hUr : (0 ≤ tu_sm (fun q => if tu_co (tu_cb M) (M 7 q).toNat (ON q) < 1000000 then 0 else 1) NB ∧ tu_sm (fun q => if tu_co (tu_cb M) (M 7 q).toNat (ON q) < 1000000 then 0 else 1) NB ≤ 40) ∧ (0 ≤ tu_sm (fun q => if tu_co (tu_cb M) (M 7 q).toNat (ON q) < 1000000 then tu_co (tu_cb M) (M 7 q).toNat (ON q) else 0) NB ∧ tu_sm (fun q => if tu_co (tu_cb M) (M 7 q).toNat (ON q) < 1000000 then tu_co (tu_cb M) (M 7 q).toNat (ON q) else 0) NB ≤ 40000000) := ⟨by omega, by omega⟩
                  refine tu_iload 244 X 8 dL_whole_244 rfl ?_
                  refine tu_if_lt 246 X 273 dL_whole_246 (by decide) (show tu_rg bs from by first | assumption | exact ⟨by omega, by omega⟩) (fun br246 => ?_) (fun br246 => ?_)
                  ·
                    refine tu_iload 273 X 11 dL_whole_273 rfl ?_
                    refine tu_istore 275 X (lv' := [(8, tu_i (((e : Nat) : Int) - 1)), (0, tu_r 0), (1, tu_i x), (2, tu_r 90), (3, tu_r 86), (4, tu_r 87), (5, tu_r 88), (6, tu_r 89), (7, tu_r 91), (9, tu_i fw), (10, tu_i ls), (11, tu_i (((e : Nat) : Int) - 1)), (12, tu_i (tu_sm (fun q => if tu_co (tu_cb M) (M 7 q).toNat (ON q) < 1000000 then tu_co (tu_cb M) (M 7 q).toNat (ON q) else 0) NB)), (13, tu_i (tu_sm (fun q => if tu_co (tu_cb M) (M 7 q).toNat (ON q) < 1000000 then 0 else 1) NB)), (14, tu_i ((tu_gp (fun q => tu_co (tu_cb M) (M 7 q).toNat (ON q)) NB).2)), (15, tu_i ((tu_gp (fun q => tu_co (tu_cb M) (M 7 q).toNat (ON q)) NB).1)), (16, tu_i (tu_sm (fun q => M 5 (ON q)) NB)), (17, tu_i ((k9 : Nat) : Int))]) dL_whole_275 (by rw [hnl]; decide) rfl ?_
                    refine tu_iload 277 X 13 dL_whole_277 rfl ?_
                    refine tu_istore 279 X (lv' := [(9, tu_i (tu_sm (fun q => if tu_co (tu_cb M) (M 7 q).toNat (ON q) < 1000000 then 0 else 1) NB)), (8, tu_i (((e : Nat) : Int) - 1)), (0, tu_r 0), (1, tu_i x), (2, tu_r 90), (3, tu_r 86), (4, tu_r 87), (5, tu_r 88), (6, tu_r 89), (7, tu_r 91), (10, tu_i ls), (11, tu_i (((e : Nat) : Int) - 1)), (12, tu_i (tu_sm (fun q => if tu_co (tu_cb M) (M 7 q).toNat (ON q) < 1000000 then tu_co (tu_cb M) (M 7 q).toNat (ON q) else 0) NB)), (13, tu_i (tu_sm (fun q => if tu_co (tu_cb M) (M 7 q).toNat (ON q) < 1000000 then 0 else 1) NB)), (14, tu_i ((tu_gp (fun q => tu_co (tu_cb M) (M 7 q).toNat (ON q)) NB).2)), (15, tu_i ((tu_gp (fun q => tu_co (tu_cb M) (M 7 q).toNat (ON q)) NB).1)), (16, tu_i (tu_sm (fun q => M 5 (ON q)) NB)), (17, tu_i ((k9 : Nat) : Int))]) dL_whole_279 (by rw [hnl]; decide) rfl ?_
                    refine tu_iload 281 X 12 dL_whole_281 rfl ?_
                    refine tu_istore 283 X (lv' := [(10, tu_i (tu_sm (fun q => if tu_co (tu_cb M) (M 7 q).toNat (ON q) < 1000000 then tu_co (tu_cb M) (M 7 q).toNat (ON q) else 0) NB)), (9, tu_i (tu_sm (fun q => if tu_co (tu_cb M) (M 7 q).toNat (ON q) < 1000000 then 0 else 1) NB)), (8, tu_i (((e : Nat) : Int) - 1)), (0, tu_r 0), (1, tu_i x), (2, tu_r 90), (3, tu_r 86), (4, tu_r 87), (5, tu_r 88), (6, tu_r 89), (7, tu_r 91), (11, tu_i (((e : Nat) : Int) - 1)), (12, tu_i (tu_sm (fun q => if tu_co (tu_cb M) (M 7 q).toNat (ON q) < 1000000 then tu_co (tu_cb M) (M 7 q).toNat (ON q) else 0) NB)), (13, tu_i (tu_sm (fun q => if tu_co (tu_cb M) (M 7 q).toNat (ON q) < 1000000 then 0 else 1) NB)), (14, tu_i ((tu_gp (fun q => tu_co (tu_cb M) (M 7 q).toNat (ON q)) NB).2)), (15, tu_i ((tu_gp (fun q => tu_co (tu_cb M) (M 7 q).toNat (ON q)) NB).1)), (16, tu_i (tu_sm (fun q => M 5 (ON q)) NB)), (17, tu_i ((k9 : Nat) : Int))]) dL_whole_283 (by rw [hnl]; decide) rfl ?_
                    refine tu_iinc 285 X (lv' := [(11, tu_i ((((e : Nat) : Int) - 1) + 1)), (10, tu_i (tu_sm (fun q => if tu_co (tu_cb M) (M 7 q).toNat (ON q) < 1000000 then tu_co (tu_cb M) (M 7 q).toNat (ON q) else 0) NB)), (9, tu_i (tu_sm (fun q => if tu_co (tu_cb M) (M 7 q).toNat (ON q) < 1000000 then 0 else 1) NB)), (8, tu_i (((e : Nat) : Int) - 1)), (0, tu_r 0), (1, tu_i x), (2, tu_r 90), (3, tu_r 86), (4, tu_r 87), (5, tu_r 88), (6, tu_r 89), (7, tu_r 91), (12, tu_i (tu_sm (fun q => if tu_co (tu_cb M) (M 7 q).toNat (ON q) < 1000000 then tu_co (tu_cb M) (M 7 q).toNat (ON q) else 0) NB)), (13, tu_i (tu_sm (fun q => if tu_co (tu_cb M) (M 7 q).toNat (ON q) < 1000000 then 0 else 1) NB)), (14, tu_i ((tu_gp (fun q => tu_co (tu_cb M) (M 7 q).toNat (ON q)) NB).2)), (15, tu_i ((tu_gp (fun q => tu_co (tu_cb M) (M 7 q).toNat (ON q)) NB).1)), (16, tu_i (tu_sm (fun q => M 5 (ON q)) NB)), (17, tu_i ((k9 : Nat) : Int))]) 11 dL_whole_285 rfl (by rw [hnl]; decide) rfl ?_
                    refine tu_goto 288 X 13 dL_whole_288 (by decide) ?_
                    refine tu_jmp [4, 5, 6, 7, 8, 9, 10, 11, 3, 2, 1, 0] (lv' := [(0, tu_r 0), (1, tu_i x), (2, tu_r 90), (3, tu_r 86), (4, tu_r 87), (5, tu_r 88), (6, tu_r 89), (7, tu_r 91), (8, tu_i (((e : Nat) : Int) - 1)), (9, tu_i (tu_sm (fun q => if tu_co (tu_cb M) (M 7 q).toNat (ON q) < 1000000 then 0 else 1) NB)), (10, tu_i (tu_sm (fun q => if tu_co (tu_cb M) (M 7 q).toNat (ON q) < 1000000 then tu_co (tu_cb M) (M 7 q).toNat (ON q) else 0) NB)), (11, tu_i ((((e + 1) : Nat) : Int) - 1))]) ⟨rfl, rfl, rfl, rfl, rfl, rfl, rfl, rfl, rfl, rfl, rfl, tu_ei (by first | rfl | (omega)), trivial⟩ rfl (ih13 (e + 1) (((e : Nat) : Int) - 1) (tu_sm (fun q => if tu_co (tu_cb M) (M 7 q).toNat (ON q) < 1000000 then 0 else 1) NB) (tu_sm (fun q => if tu_co (tu_cb M) (M 7 q).toNat (ON q) < 1000000 then tu_co (tu_cb M) (M 7 q).toNat (ON q) else 0) NB) Mb (by omega) (by first | exact tz_b9_1 hb9 (by omega) | exact tz_b9_hit hb9 (by omega) hU hSq hUr (by omega) (by omega) | exact tz_b9_miss hb9 (by omega) hU hSq (by omega) (by omega)) (by exact hsc) (by omega))
                  ·
                    refine tu_iload 249 X 13 dL_whole_249 rfl ?_
                    refine tu_iload 251 X 9 dL_whole_251 rfl ?_
                    refine tu_icmp_gt 253 X 285 dL_whole_253 (by decide) (show tu_rg (tu_sm (fun q => if tu_co (tu_cb M) (M 7 q).toNat (ON q) < 1000000 then 0 else 1) NB) from by first | assumption | exact ⟨by omega, by omega⟩) (show tu_rg fw from by first | assumption | exact ⟨by omega, by omega⟩) (fun br253 => ?_) (fun br253 => ?_)
                    ·
                      refine tu_iinc 285 X (lv' := [(11, tu_i ((((e : Nat) : Int) - 1) + 1)), (0, tu_r 0), (1, tu_i x), (2, tu_r 90), (3, tu_r 86), (4, tu_r 87), (5, tu_r 88), (6, tu_r 89), (7, tu_r 91), (8, tu_i bs), (9, tu_i fw), (10, tu_i ls), (12, tu_i (tu_sm (fun q => if tu_co (tu_cb M) (M 7 q).toNat (ON q) < 1000000 then tu_co (tu_cb M) (M 7 q).toNat (ON q) else 0) NB)), (13, tu_i (tu_sm (fun q => if tu_co (tu_cb M) (M 7 q).toNat (ON q) < 1000000 then 0 else 1) NB)), (14, tu_i ((tu_gp (fun q => tu_co (tu_cb M) (M 7 q).toNat (ON q)) NB).2)), (15, tu_i ((tu_gp (fun q => tu_co (tu_cb M) (M 7 q).toNat (ON q)) NB).1)), (16, tu_i (tu_sm (fun q => M 5 (ON q)) NB)), (17, tu_i ((k9 : Nat) : Int))]) 11 dL_whole_285 rfl (by rw [hnl]; decide) rfl ?_
                      refine tu_goto 288 X 13 dL_whole_288 (by decide) ?_
                      refine tu_jmp [1, 2, 3, 4, 5, 6, 7, 8, 9, 10, 11, 0] (lv' := [(0, tu_r 0), (1, tu_i x), (2, tu_r 90), (3, tu_r 86), (4, tu_r 87), (5, tu_r 88), (6, tu_r 89), (7, tu_r 91), (8, tu_i bs), (9, tu_i fw), (10, tu_i ls), (11, tu_i ((((e + 1) : Nat) : Int) - 1))]) ⟨rfl, rfl, rfl, rfl, rfl, rfl, rfl, rfl, rfl, rfl, rfl, tu_ei (by first | rfl | (omega)), trivial⟩ rfl (ih13 (e + 1) bs fw ls Mb (by omega) (by first | exact tz_b9_1 hb9 (by omega) | exact tz_b9_hit hb9 (by omega) hU hSq hUr (by omega) (by omega) | exact tz_b9_miss hb9 (by omega) hU hSq (by omega) (by omega)) (by exact hsc) (by omega))
                    ·
                      refine tu_iload 256 X 13 dL_whole_256 rfl ?_
                      refine tu_iload 258 X 9 dL_whole_258 rfl ?_
                      refine tu_icmp_ne 260 X 273 dL_whole_260 (by decide) (show tu_rg (tu_sm (fun q => if tu_co (tu_cb M) (M 7 q).toNat (ON q) < 1000000 then 0 else 1) NB) from by first | assumption | exact ⟨by omega, by omega⟩) (show tu_rg fw from by first | assumption | exact ⟨by omega, by omega⟩) (fun br260 => ?_) (fun br260 => ?_)
                      ·
                        refine tu_iload 273 X 11 dL_whole_273 rfl ?_
                        refine tu_istore 275 X (lv' := [(8, tu_i (((e : Nat) : Int) - 1)), (0, tu_r 0), (1, tu_i x), (2, tu_r 90), (3, tu_r 86), (4, tu_r 87), (5, tu_r 88), (6, tu_r 89), (7, tu_r 91), (9, tu_i fw), (10, tu_i ls), (11, tu_i (((e : Nat) : Int) - 1)), (12, tu_i (tu_sm (fun q => if tu_co (tu_cb M) (M 7 q).toNat (ON q) < 1000000 then tu_co (tu_cb M) (M 7 q).toNat (ON q) else 0) NB)), (13, tu_i (tu_sm (fun q => if tu_co (tu_cb M) (M 7 q).toNat (ON q) < 1000000 then 0 else 1) NB)), (14, tu_i ((tu_gp (fun q => tu_co (tu_cb M) (M 7 q).toNat (ON q)) NB).2)), (15, tu_i ((tu_gp (fun q => tu_co (tu_cb M) (M 7 q).toNat (ON q)) NB).1)), (16, tu_i (tu_sm (fun q => M 5 (ON q)) NB)), (17, tu_i ((k9 : Nat) : Int))]) dL_whole_275 (by rw [hnl]; decide) rfl ?_
                        refine tu_iload 277 X 13 dL_whole_277 rfl ?_
                        refine tu_istore 279 X (lv' := [(9, tu_i (tu_sm (fun q => if tu_co (tu_cb M) (M 7 q).toNat (ON q) < 1000000 then 0 else 1) NB)), (8, tu_i (((e : Nat) : Int) - 1)), (0, tu_r 0), (1, tu_i x), (2, tu_r 90), (3, tu_r 86), (4, tu_r 87), (5, tu_r 88), (6, tu_r 89), (7, tu_r 91), (10, tu_i ls), (11, tu_i (((e : Nat) : Int) - 1)), (12, tu_i (tu_sm (fun q => if tu_co (tu_cb M) (M 7 q).toNat (ON q) < 1000000 then tu_co (tu_cb M) (M 7 q).toNat (ON q) else 0) NB)), (13, tu_i (tu_sm (fun q => if tu_co (tu_cb M) (M 7 q).toNat (ON q) < 1000000 then 0 else 1) NB)), (14, tu_i ((tu_gp (fun q => tu_co (tu_cb M) (M 7 q).toNat (ON q)) NB).2)), (15, tu_i ((tu_gp (fun q => tu_co (tu_cb M) (M 7 q).toNat (ON q)) NB).1)), (16, tu_i (tu_sm (fun q => M 5 (ON q)) NB)), (17, tu_i ((k9 : Nat) : Int))]) dL_whole_279 (by rw [hnl]; decide) rfl ?_
                        refine tu_iload 281 X 12 dL_whole_281 rfl ?_
                        refine tu_istore 283 X (lv' := [(10, tu_i (tu_sm (fun q => if tu_co (tu_cb M) (M 7 q).toNat (ON q) < 1000000 then tu_co (tu_cb M) (M 7 q).toNat (ON q) else 0) NB)), (9, tu_i (tu_sm (fun q => if tu_co (tu_cb M) (M 7 q).toNat (ON q) < 1000000 then 0 else 1) NB)), (8, tu_i (((e : Nat) : Int) - 1)), (0, tu_r 0), (1, tu_i x), (2, tu_r 90), (3, tu_r 86), (4, tu_r 87), (5, tu_r 88), (6, tu_r 89), (7, tu_r 91), (11, tu_i (((e : Nat) : Int) - 1)), (12, tu_i (tu_sm (fun q => if tu_co (tu_cb M) (M 7 q).toNat (ON q) < 1000000 then tu_co (tu_cb M) (M 7 q).toNat (ON q) else 0) NB)), (13, tu_i (tu_sm (fun q => if tu_co (tu_cb M) (M 7 q).toNat (ON q) < 1000000 then 0 else 1) NB)), (14, tu_i ((tu_gp (fun q => tu_co (tu_cb M) (M 7 q).toNat (ON q)) NB).2)), (15, tu_i ((tu_gp (fun q => tu_co (tu_cb M) (M 7 q).toNat (ON q)) NB).1)), (16, tu_i (tu_sm (fun q => M 5 (ON q)) NB)), (17, tu_i ((k9 : Nat) : Int))]) dL_whole_283 (by rw [hnl]; decide) rfl ?_
                        refine tu_iinc 285 X (lv' := [(11, tu_i ((((e : Nat) : Int) - 1) + 1)), (10, tu_i (tu_sm (fun q => if tu_co (tu_cb M) (M 7 q).toNat (ON q) < 1000000 then tu_co (tu_cb M) (M 7 q).toNat (ON q) else 0) NB)), (9, tu_i (tu_sm (fun q => if tu_co (tu_cb M) (M 7 q).toNat (ON q) < 1000000 then 0 else 1) NB)), (8, tu_i (((e : Nat) : Int) - 1)), (0, tu_r 0), (1, tu_i x), (2, tu_r 90), (3, tu_r 86), (4, tu_r 87), (5, tu_r 88), (6, tu_r 89), (7, tu_r 91), (12, tu_i (tu_sm (fun q => if tu_co (tu_cb M) (M 7 q).toNat (ON q) < 1000000 then tu_co (tu_cb M) (M 7 q).toNat (ON q) else 0) NB)), (13, tu_i (tu_sm (fun q => if tu_co (tu_cb M) (M 7 q).toNat (ON q) < 1000000 then 0 else 1) NB)), (14, tu_i ((tu_gp (fun q => tu_co (tu_cb M) (M 7 q).toNat (ON q)) NB).2)), (15, tu_i ((tu_gp (fun q => tu_co (tu_cb M) (M 7 q).toNat (ON q)) NB).1)), (16, tu_i (tu_sm (fun q => M 5 (ON q)) NB)), (17, tu_i ((k9 : Nat) : Int))]) 11 dL_whole_285 rfl (by rw [hnl]; decide) rfl ?_
                        refine tu_goto 288 X 13 dL_whole_288 (by decide) ?_
                        refine tu_jmp [4, 5, 6, 7, 8, 9, 10, 11, 3, 2, 1, 0] (lv' := [(0, tu_r 0), (1, tu_i x), (2, tu_r 90), (3, tu_r 86), (4, tu_r 87), (5, tu_r 88), (6, tu_r 89), (7, tu_r 91), (8, tu_i (((e : Nat) : Int) - 1)), (9, tu_i (tu_sm (fun q => if tu_co (tu_cb M) (M 7 q).toNat (ON q) < 1000000 then 0 else 1) NB)), (10, tu_i (tu_sm (fun q => if tu_co (tu_cb M) (M 7 q).toNat (ON q) < 1000000 then tu_co (tu_cb M) (M 7 q).toNat (ON q) else 0) NB)), (11, tu_i ((((e + 1) : Nat) : Int) - 1))]) ⟨rfl, rfl, rfl, rfl, rfl, rfl, rfl, rfl, rfl, rfl, rfl, tu_ei (by first | rfl | (omega)), trivial⟩ rfl (ih13 (e + 1) (((e : Nat) : Int) - 1) (tu_sm (fun q => if tu_co (tu_cb M) (M 7 q).toNat (ON q) < 1000000 then 0 else 1) NB) (tu_sm (fun q => if tu_co (tu_cb M) (M 7 q).toNat (ON q) < 1000000 then tu_co (tu_cb M) (M 7 q).toNat (ON q) else 0) NB) Mb (by omega) (by first | exact tz_b9_1 hb9 (by omega) | exact tz_b9_hit hb9 (by omega) hU hSq hUr (by omega) (by omega) | exact tz_b9_miss hb9 (by omega) hU hSq (by omega) (by omega)) (by exact hsc) (by omega))
                      ·
                        refine tu_iload 263 X 12 dL_whole_263 rfl ?_
                        refine tu_iload 265 X 10 dL_whole_265 rfl ?_
                        refine tu_icmp_lt 267 X 273 dL_whole_267 (by decide) (show tu_rg (tu_sm (fun q => if tu_co (tu_cb M) (M 7 q).toNat (ON q) < 1000000 then tu_co (tu_cb M) (M 7 q).toNat (ON q) else 0) NB) from by first | assumption | exact ⟨by omega, by omega⟩) (show tu_rg ls from by first | assumption | exact ⟨by omega, by omega⟩) (fun br267 => ?_) (fun br267 => ?_)
                        ·
                          refine tu_iload 273 X 11 dL_whole_273 rfl ?_
                          refine tu_istore 275 X (lv' := [(8, tu_i (((e : Nat) : Int) - 1)), (0, tu_r 0), (1, tu_i x), (2, tu_r 90), (3, tu_r 86), (4, tu_r 87), (5, tu_r 88), (6, tu_r 89), (7, tu_r 91), (9, tu_i fw), (10, tu_i ls), (11, tu_i (((e : Nat) : Int) - 1)), (12, tu_i (tu_sm (fun q => if tu_co (tu_cb M) (M 7 q).toNat (ON q) < 1000000 then tu_co (tu_cb M) (M 7 q).toNat (ON q) else 0) NB)), (13, tu_i (tu_sm (fun q => if tu_co (tu_cb M) (M 7 q).toNat (ON q) < 1000000 then 0 else 1) NB)), (14, tu_i ((tu_gp (fun q => tu_co (tu_cb M) (M 7 q).toNat (ON q)) NB).2)), (15, tu_i ((tu_gp (fun q => tu_co (tu_cb M) (M 7 q).toNat (ON q)) NB).1)), (16, tu_i (tu_sm (fun q => M 5 (ON q)) NB)), (17, tu_i ((k9 : Nat) : Int))]) dL_whole_275 (by rw [hnl]; decide) rfl ?_
                          refine tu_iload 277 X 13 dL_whole_277 rfl ?_
                          refine tu_istore 279 X (lv' := [(9, tu_i (tu_sm (fun q => if tu_co (tu_cb M) (M 7 q).toNat (ON q) < 1000000 then 0 else 1) NB)), (8, tu_i (((e : Nat) : Int) - 1)), (0, tu_r 0), (1, tu_i x), (2, tu_r 90), (3, tu_r 86), (4, tu_r 87), (5, tu_r 88), (6, tu_r 89), (7, tu_r 91), (10, tu_i ls), (11, tu_i (((e : Nat) : Int) - 1)), (12, tu_i (tu_sm (fun q => if tu_co (tu_cb M) (M 7 q).toNat (ON q) < 1000000 then tu_co (tu_cb M) (M 7 q).toNat (ON q) else 0) NB)), (13, tu_i (tu_sm (fun q => if tu_co (tu_cb M) (M 7 q).toNat (ON q) < 1000000 then 0 else 1) NB)), (14, tu_i ((tu_gp (fun q => tu_co (tu_cb M) (M 7 q).toNat (ON q)) NB).2)), (15, tu_i ((tu_gp (fun q => tu_co (tu_cb M) (M 7 q).toNat (ON q)) NB).1)), (16, tu_i (tu_sm (fun q => M 5 (ON q)) NB)), (17, tu_i ((k9 : Nat) : Int))]) dL_whole_279 (by rw [hnl]; decide) rfl ?_
                          refine tu_iload 281 X 12 dL_whole_281 rfl ?_
                          refine tu_istore 283 X (lv' := [(10, tu_i (tu_sm (fun q => if tu_co (tu_cb M) (M 7 q).toNat (ON q) < 1000000 then tu_co (tu_cb M) (M 7 q).toNat (ON q) else 0) NB)), (9, tu_i (tu_sm (fun q => if tu_co (tu_cb M) (M 7 q).toNat (ON q) < 1000000 then 0 else 1) NB)), (8, tu_i (((e : Nat) : Int) - 1)), (0, tu_r 0), (1, tu_i x), (2, tu_r 90), (3, tu_r 86), (4, tu_r 87), (5, tu_r 88), (6, tu_r 89), (7, tu_r 91), (11, tu_i (((e : Nat) : Int) - 1)), (12, tu_i (tu_sm (fun q => if tu_co (tu_cb M) (M 7 q).toNat (ON q) < 1000000 then tu_co (tu_cb M) (M 7 q).toNat (ON q) else 0) NB)), (13, tu_i (tu_sm (fun q => if tu_co (tu_cb M) (M 7 q).toNat (ON q) < 1000000 then 0 else 1) NB)), (14, tu_i ((tu_gp (fun q => tu_co (tu_cb M) (M 7 q).toNat (ON q)) NB).2)), (15, tu_i ((tu_gp (fun q => tu_co (tu_cb M) (M 7 q).toNat (ON q)) NB).1)), (16, tu_i (tu_sm (fun q => M 5 (ON q)) NB)), (17, tu_i ((k9 : Nat) : Int))]) dL_whole_283 (by rw [hnl]; decide) rfl ?_
                          refine tu_iinc 285 X (lv' := [(11, tu_i ((((e : Nat) : Int) - 1) + 1)), (10, tu_i (tu_sm (fun q => if tu_co (tu_cb M) (M 7 q).toNat (ON q) < 1000000 then tu_co (tu_cb M) (M 7 q).toNat (ON q) else 0) NB)), (9, tu_i (tu_sm (fun q => if tu_co (tu_cb M) (M 7 q).toNat (ON q) < 1000000 then 0 else 1) NB)), (8, tu_i (((e : Nat) : Int) - 1)), (0, tu_r 0), (1, tu_i x), (2, tu_r 90), (3, tu_r 86), (4, tu_r 87), (5, tu_r 88), (6, tu_r 89), (7, tu_r 91), (12, tu_i (tu_sm (fun q => if tu_co (tu_cb M) (M 7 q).toNat (ON q) < 1000000 then tu_co (tu_cb M) (M 7 q).toNat (ON q) else 0) NB)), (13, tu_i (tu_sm (fun q => if tu_co (tu_cb M) (M 7 q).toNat (ON q) < 1000000 then 0 else 1) NB)), (14, tu_i ((tu_gp (fun q => tu_co (tu_cb M) (M 7 q).toNat (ON q)) NB).2)), (15, tu_i ((tu_gp (fun q => tu_co (tu_cb M) (M 7 q).toNat (ON q)) NB).1)), (16, tu_i (tu_sm (fun q => M 5 (ON q)) NB)), (17, tu_i ((k9 : Nat) : Int))]) 11 dL_whole_285 rfl (by rw [hnl]; decide) rfl ?_
                          refine tu_goto 288 X 13 dL_whole_288 (by decide) ?_
                          refine tu_jmp [4, 5, 6, 7, 8, 9, 10, 11, 3, 2, 1, 0] (lv' := [(0, tu_r 0), (1, tu_i x), (2, tu_r 90), (3, tu_r 86), (4, tu_r 87), (5, tu_r 88), (6, tu_r 89), (7, tu_r 91), (8, tu_i (((e : Nat) : Int) - 1)), (9, tu_i (tu_sm (fun q => if tu_co (tu_cb M) (M 7 q).toNat (ON q) < 1000000 then 0 else 1) NB)), (10, tu_i (tu_sm (fun q => if tu_co (tu_cb M) (M 7 q).toNat (ON q) < 1000000 then tu_co (tu_cb M) (M 7 q).toNat (ON q) else 0) NB)), (11, tu_i ((((e + 1) : Nat) : Int) - 1))]) ⟨rfl, rfl, rfl, rfl, rfl, rfl, rfl, rfl, rfl, rfl, rfl, tu_ei (by first | rfl | (omega)), trivial⟩ rfl (ih13 (e + 1) (((e : Nat) : Int) - 1) (tu_sm (fun q => if tu_co (tu_cb M) (M 7 q).toNat (ON q) < 1000000 then 0 else 1) NB) (tu_sm (fun q => if tu_co (tu_cb M) (M 7 q).toNat (ON q) < 1000000 then tu_co (tu_cb M) (M 7 q).toNat (ON q) else 0) NB) Mb (by omega) (by first | exact tz_b9_1 hb9 (by omega) | exact tz_b9_hit hb9 (by omega) hU hSq hUr (by omega) (by omega) | exact tz_b9_miss hb9 (by omega) hU hSq (by omega) (by omega)) (by exact hsc) (by omega))
                        ·
                          refine tu_goto 270 X 285 dL_whole_270 (by decide) ?_
                          refine tu_iinc 285 X (lv' := [(11, tu_i ((((e : Nat) : Int) - 1) + 1)), (0, tu_r 0), (1, tu_i x), (2, tu_r 90), (3, tu_r 86), (4, tu_r 87), (5, tu_r 88), (6, tu_r 89), (7, tu_r 91), (8, tu_i bs), (9, tu_i fw), (10, tu_i ls), (12, tu_i (tu_sm (fun q => if tu_co (tu_cb M) (M 7 q).toNat (ON q) < 1000000 then tu_co (tu_cb M) (M 7 q).toNat (ON q) else 0) NB)), (13, tu_i (tu_sm (fun q => if tu_co (tu_cb M) (M 7 q).toNat (ON q) < 1000000 then 0 else 1) NB)), (14, tu_i ((tu_gp (fun q => tu_co (tu_cb M) (M 7 q).toNat (ON q)) NB).2)), (15, tu_i ((tu_gp (fun q => tu_co (tu_cb M) (M 7 q).toNat (ON q)) NB).1)), (16, tu_i (tu_sm (fun q => M 5 (ON q)) NB)), (17, tu_i ((k9 : Nat) : Int))]) 11 dL_whole_285 rfl (by rw [hnl]; decide) rfl ?_
                          refine tu_goto 288 X 13 dL_whole_288 (by decide) ?_
                          refine tu_jmp [1, 2, 3, 4, 5, 6, 7, 8, 9, 10, 11, 0] (lv' := [(0, tu_r 0), (1, tu_i x), (2, tu_r 90), (3, tu_r 86), (4, tu_r 87), (5, tu_r 88), (6, tu_r 89), (7, tu_r 91), (8, tu_i bs), (9, tu_i fw), (10, tu_i ls), (11, tu_i ((((e + 1) : Nat) : Int) - 1))]) ⟨rfl, rfl, rfl, rfl, rfl, rfl, rfl, rfl, rfl, rfl, rfl, tu_ei (by first | rfl | (omega)), trivial⟩ rfl (ih13 (e + 1) bs fw ls Mb (by omega) (by first | exact tz_b9_1 hb9 (by omega) | exact tz_b9_hit hb9 (by omega) hU hSq hUr (by omega) (by omega) | exact tz_b9_miss hb9 (by omega) hU hSq (by omega) (by omega)) (by exact hsc) (by omega))
                ·
                  have he0 : e = 0 := by omega
                  have hNT1 := hNT he0
                  have hwk : (fun x9 => tu_wk (tu_cb M) x9) = (fun q => tu_co (tu_cb M) (M 7 q).toNat (ON q)) := by
                    funext q
                    rw [hON0 he0 q, show NT = (M 1 9).toNat by omega]
                    rfl
                  have eNB : (M 1 7).toNat = NB := by omega
                  have w1 : tu_sm (fun x9 => if tu_wk (tu_cb M) x9 < 1000000 then tu_wk (tu_cb M) x9 else 0) (M 1 7).toNat = tu_sm (fun q => if tu_co (tu_cb M) (M 7 q).toNat (ON q) < 1000000 then tu_co (tu_cb M) (M 7 q).toNat (ON q) else 0) NB := by
                    rw [eNB]
                    exact congrArg (fun (f : Nat → Int) => tu_sm (fun x9 => if f x9 < 1000000 then f x9 else 0) NB) hwk
                  have w2 : tu_sm (fun x9 => if tu_wk (tu_cb M) x9 < 1000000 then 0 else 1) (M 1 7).toNat = tu_sm (fun q => if tu_co (tu_cb M) (M 7 q).toNat (ON q) < 1000000 then 0 else 1) NB := by
                    rw [eNB]
                    exact congrArg (fun (f : Nat → Int) => tu_sm (fun x9 => if f x9 < 1000000 then 0 else 1) NB) hwk
                  have w3 : tu_gp (fun x9 => tu_wk (tu_cb M) x9) (M 1 7).toNat = tu_gp (fun q => tu_co (tu_cb M) (M 7 q).toNat (ON q)) NB := by rw [eNB, hwk]
                  have w4 : tu_sm (fun x9 => M 5 (M 8 (x9 % (M 1 9).toNat)).toNat) (M 1 7).toNat = tu_sm (fun q => M 5 (ON q)) NB := by
                    rw [eNB]
                    exact tz_sm_q (fun q hq => by rw [hON0 he0 q, show NT = (M 1 9).toNat by omega])
                  refine tu_aload_n 202 X 0 dL_whole_202 rfl ?_
                  refine tu_iconst 203 X dL_whole_203 ?_
                  refine tu_callVI 204 X (st := []) (as := [tu_i 0]) (c_X3_whole 0 (show tu_OK Mb from by exact tz_OK hsc hR.ok) (show tu_rg 0 from by first | assumption | omega | exact ⟨by omega, by omega⟩ | decide)) sv_RL_54 dL_whole_204 rfl (by decide) rfl rfl rfl (Nat.le_of_ble_eq_true rfl) ⟨by decide, by decide⟩ (fun z N204 h => ?_)
                  obtain ⟨y_204, h204_0, h204_1, hz204⟩ := h
                  refine tu_tp (b := y_204) hz204 ?_
                  have a204 := tz_q_whole hsc h204_1
                  simp only [Int.toNat_natCast] at a204
                  have b204 : y_204 = tu_sm (fun q => if tu_co (tu_cb M) (M 7 q).toNat (ON q) < 1000000 then tu_co (tu_cb M) (M 7 q).toNat (ON q) else 0) NB := by
                    omega
                  have hsc : tz_sc M N204 := hsc.sc h204_0
                  refine tu_iload 207 X 12 dL_whole_207 rfl ?_
                  refine tu_icmp_ne 209 X 242 dL_whole_209 (by decide) (show tu_rg y_204 from by first | assumption | exact ⟨by omega, by omega⟩) (show tu_rg (tu_sm (fun q => if tu_co (tu_cb M) (M 7 q).toNat (ON q) < 1000000 then tu_co (tu_cb M) (M 7 q).toNat (ON q) else 0) NB) from by first | assumption | exact ⟨by omega, by omega⟩) (fun br209 => ?_) (fun br209 => ?_)
                  ·
                    exfalso; omega
                  ·
                    refine tu_aload_n 212 X 0 dL_whole_212 rfl ?_
                    refine tu_iconst 213 X dL_whole_213 ?_
                    refine tu_callVI 214 X (st := []) (as := [tu_i 1]) (c_X3_whole 1 (show tu_OK N204 from by exact tz_OK hsc hR.ok) (show tu_rg 1 from by first | assumption | omega | exact ⟨by omega, by omega⟩ | decide)) sv_RL_54 dL_whole_214 rfl (by decide) rfl rfl rfl (Nat.le_of_ble_eq_true rfl) ⟨by decide, by decide⟩ (fun z N214 h => ?_)
                    obtain ⟨y_214, h214_0, h214_1, hz214⟩ := h
                    refine tu_tp (b := y_214) hz214 ?_
                    have a214 := tz_q_whole hsc h214_1
                    simp only [Int.toNat_natCast] at a214
                    have b214 : y_214 = tu_sm (fun q => if tu_co (tu_cb M) (M 7 q).toNat (ON q) < 1000000 then 0 else 1) NB := by
                      omega
                    have hsc : tz_sc M N214 := hsc.sc h214_0
                    refine tu_iload 217 X 13 dL_whole_217 rfl ?_
                    refine tu_icmp_ne 219 X 242 dL_whole_219 (by decide) (show tu_rg y_214 from by first | assumption | exact ⟨by omega, by omega⟩) (show tu_rg (tu_sm (fun q => if tu_co (tu_cb M) (M 7 q).toNat (ON q) < 1000000 then 0 else 1) NB) from by first | assumption | exact ⟨by omega, by omega⟩) (fun br219 => ?_) (fun br219 => ?_)
                    ·
                      exfalso; omega
                    ·
                      refine tu_aload_n 222 X 0 dL_whole_222 rfl ?_
                      refine tu_iconst 223 X dL_whole_223 ?_
                      refine tu_callVI 224 X (st := []) (as := [tu_i 2]) (c_X3_whole 2 (show tu_OK N214 from by exact tz_OK hsc hR.ok) (show tu_rg 2 from by first | assumption | omega | exact ⟨by omega, by omega⟩ | decide)) sv_RL_54 dL_whole_224 rfl (by decide) rfl rfl rfl (Nat.le_of_ble_eq_true rfl) ⟨by decide, by decide⟩ (fun z N224 h => ?_)
                      obtain ⟨y_224, h224_0, h224_1, hz224⟩ := h
                      refine tu_tp (b := y_224) hz224 ?_
                      have a224 := tz_q_whole hsc h224_1
                      simp only [Int.toNat_natCast] at a224
                      have b224 : y_224 = (tu_gp (fun q => tu_co (tu_cb M) (M 7 q).toNat (ON q)) NB).2 := by
                        rw [w3] at a224
                        omega
                      have hsc : tz_sc M N224 := hsc.sc h224_0
                      refine tu_iload 227 X 14 dL_whole_227 rfl ?_
                      refine tu_icmp_ne 229 X 242 dL_whole_229 (by decide) (show tu_rg y_224 from by first | assumption | exact ⟨by omega, by omega⟩) (show tu_rg ((tu_gp (fun q => tu_co (tu_cb M) (M 7 q).toNat (ON q)) NB).2) from by first | assumption | exact ⟨by omega, by omega⟩) (fun br229 => ?_) (fun br229 => ?_)
                      ·
                        exfalso; omega
                      ·
                        refine tu_aload_n 232 X 0 dL_whole_232 rfl ?_
                        refine tu_iconst 233 X dL_whole_233 ?_
                        refine tu_callVI 234 X (st := []) (as := [tu_i 3]) (c_X3_whole 3 (show tu_OK N224 from by exact tz_OK hsc hR.ok) (show tu_rg 3 from by first | assumption | omega | exact ⟨by omega, by omega⟩ | decide)) sv_RL_54 dL_whole_234 rfl (by decide) rfl rfl rfl (Nat.le_of_ble_eq_true rfl) ⟨by decide, by decide⟩ (fun z N234 h => ?_)
                        obtain ⟨y_234, h234_0, h234_1, hz234⟩ := h
                        refine tu_tp (b := y_234) hz234 ?_
                        have a234 := tz_q_whole hsc h234_1
                        simp only [Int.toNat_natCast] at a234
                        have b234 : y_234 = tu_sm (fun q => M 5 (ON q)) NB := by
                          omega
                        have hsc : tz_sc M N234 := hsc.sc h234_0
                        refine tu_iload 237 X 16 dL_whole_237 rfl ?_
                        refine tu_icmp_eq 239 X 285 dL_whole_239 (by decide) (show tu_rg y_234 from by first | assumption | exact ⟨by omega, by omega⟩) (show tu_rg (tu_sm (fun q => M 5 (ON q)) NB) from by first | assumption | exact ⟨by omega, by omega⟩) (fun br239 => ?_) (fun br239 => ?_)
                        ·
                          refine tu_iinc 285 X (lv' := [(11, tu_i ((((e : Nat) : Int) - 1) + 1)), (0, tu_r 0), (1, tu_i x), (2, tu_r 90), (3, tu_r 86), (4, tu_r 87), (5, tu_r 88), (6, tu_r 89), (7, tu_r 91), (8, tu_i bs), (9, tu_i fw), (10, tu_i ls), (12, tu_i (tu_sm (fun q => if tu_co (tu_cb M) (M 7 q).toNat (ON q) < 1000000 then tu_co (tu_cb M) (M 7 q).toNat (ON q) else 0) NB)), (13, tu_i (tu_sm (fun q => if tu_co (tu_cb M) (M 7 q).toNat (ON q) < 1000000 then 0 else 1) NB)), (14, tu_i ((tu_gp (fun q => tu_co (tu_cb M) (M 7 q).toNat (ON q)) NB).2)), (15, tu_i ((tu_gp (fun q => tu_co (tu_cb M) (M 7 q).toNat (ON q)) NB).1)), (16, tu_i (tu_sm (fun q => M 5 (ON q)) NB)), (17, tu_i ((k9 : Nat) : Int))]) 11 dL_whole_285 rfl (by rw [hnl]; decide) rfl ?_
                          refine tu_goto 288 X 13 dL_whole_288 (by decide) ?_
                          refine tu_jmp [1, 2, 3, 4, 5, 6, 7, 8, 9, 10, 11, 0] (lv' := [(0, tu_r 0), (1, tu_i x), (2, tu_r 90), (3, tu_r 86), (4, tu_r 87), (5, tu_r 88), (6, tu_r 89), (7, tu_r 91), (8, tu_i bs), (9, tu_i fw), (10, tu_i ls), (11, tu_i ((((e + 1) : Nat) : Int) - 1))]) ⟨rfl, rfl, rfl, rfl, rfl, rfl, rfl, rfl, rfl, rfl, rfl, tu_ei (by first | rfl | (omega)), trivial⟩ rfl (ih13 (e + 1) bs fw ls N234 (by omega) (by first | exact tz_b9_1 hb9 (by omega) | exact tz_b9_hit hb9 (by omega) hU hSq hUr (by omega) (by omega) | exact tz_b9_miss hb9 (by omega) hU hSq (by omega) (by omega)) (by exact hsc) (by omega))
                        ·
                          exfalso; omega
              ·
                have hbl := hB.bal k9 (by omega)
                have hlM : (((M 7 k9).toNat : Nat) : Int) < M 1 1 := by omega
                have hpM := hONl k9
                have hnl9 := hR.nl hlM
                have hnp9 := hR.np hpM
                have hli := hR.li _ hlM
                have hph := hR.ph _ hpM
                have hok := hR.lp hlM hpM
                have hc9 := hcr k9 (by omega)
                have s1 : tu_sm (fun q => if tu_co (tu_cb M) (M 7 q).toNat (ON q) < 1000000 then tu_co (tu_cb M) (M 7 q).toNat (ON q) else 0) (k9 + 1) = tu_sm (fun q => if tu_co (tu_cb M) (M 7 q).toNat (ON q) < 1000000 then tu_co (tu_cb M) (M 7 q).toNat (ON q) else 0) k9 + (if (tu_co (tu_cb M) (M 7 k9).toNat (ON k9)) < 1000000 then (tu_co (tu_cb M) (M 7 k9).toNat (ON k9)) else 0) := rfl
                have s2 : tu_sm (fun q => if tu_co (tu_cb M) (M 7 q).toNat (ON q) < 1000000 then 0 else 1) (k9 + 1) = tu_sm (fun q => if tu_co (tu_cb M) (M 7 q).toNat (ON q) < 1000000 then 0 else 1) k9 + (if (tu_co (tu_cb M) (M 7 k9).toNat (ON k9)) < 1000000 then 0 else 1) := rfl
                have s3 : tu_gp (fun q => tu_co (tu_cb M) (M 7 q).toNat (ON q)) (k9 + 1) = if (tu_co (tu_cb M) (M 7 k9).toNat (ON k9)) < 1000000 ∧ (tu_gp (fun q => tu_co (tu_cb M) (M 7 q).toNat (ON q)) k9).1 < (tu_co (tu_cb M) (M 7 k9).toNat (ON k9)) then ((tu_co (tu_cb M) (M 7 k9).toNat (ON k9)), (k9 : Int)) else tu_gp (fun q => tu_co (tu_cb M) (M 7 q).toNat (ON q)) k9 := rfl
                have s4 : tu_sm (fun q => M 5 (ON q)) (k9 + 1) = tu_sm (fun q => M 5 (ON q)) k9 + M 5 (ON k9) := rfl
                have ep9 := hR.ok.bts _ hpM
                have lp84 : tu_W T 84 [(0, tu_r 0), (1, tu_i x), (2, tu_r 90), (3, tu_r 86), (4, tu_r 87), (5, tu_r 88), (6, tu_r 89), (7, tu_r 91), (8, tu_i bs), (9, tu_i fw), (10, tu_i ls), (11, tu_i (((e : Nat) : Int) - 1)), (12, tu_i (tu_sm (fun q => if tu_co (tu_cb M) (M 7 q).toNat (ON q) < 1000000 then tu_co (tu_cb M) (M 7 q).toNat (ON q) else 0) k9)), (13, tu_i (tu_sm (fun q => if tu_co (tu_cb M) (M 7 q).toNat (ON q) < 1000000 then 0 else 1) k9)), (14, tu_i ((tu_gp (fun q => tu_co (tu_cb M) (M 7 q).toNat (ON q)) k9).2)), (15, tu_i ((tu_gp (fun q => tu_co (tu_cb M) (M 7 q).toNat (ON q)) k9).1)), (16, tu_i (tu_sm (fun q => M 5 (ON q)) k9)), (17, tu_i ((k9 : Nat) : Int))] [tu_i (((ON k9) : Nat) : Int)] Mb := by
                    refine tu_istore 84 X (lv' := [(18, tu_i (((ON k9) : Nat) : Int)), (0, tu_r 0), (1, tu_i x), (2, tu_r 90), (3, tu_r 86), (4, tu_r 87), (5, tu_r 88), (6, tu_r 89), (7, tu_r 91), (8, tu_i bs), (9, tu_i fw), (10, tu_i ls), (11, tu_i (((e : Nat) : Int) - 1)), (12, tu_i (tu_sm (fun q => if tu_co (tu_cb M) (M 7 q).toNat (ON q) < 1000000 then tu_co (tu_cb M) (M 7 q).toNat (ON q) else 0) k9)), (13, tu_i (tu_sm (fun q => if tu_co (tu_cb M) (M 7 q).toNat (ON q) < 1000000 then 0 else 1) k9)), (14, tu_i ((tu_gp (fun q => tu_co (tu_cb M) (M 7 q).toNat (ON q)) k9).2)), (15, tu_i ((tu_gp (fun q => tu_co (tu_cb M) (M 7 q).toNat (ON q)) k9).1)), (16, tu_i (tu_sm (fun q => M 5 (ON q)) k9)), (17, tu_i ((k9 : Nat) : Int))]) dL_whole_84 (by rw [hnl]; decide) rfl ?_
                    have ly := tz_lay hR hsc hlM hpM
                    refine tu_aload_n 86 X 4 dL_whole_86 rfl ?_
                    refine tu_iconst 87 X dL_whole_87 ?_
                    refine tu_aload 88 X 6 dL_whole_88 rfl ?_
                    refine tu_iload 90 X 18 dL_whole_90 rfl ?_
                    refine tu_iald 92 X (x := Mb 88 k9) k9 dL_whole_92 (by decide) rfl (by decide) (by omega) (by omega) rfl ?_
                    refine tu_tp (b := (M 88 k9)) (by rw [hsc 88 (by decide)]) ?_
                    refine tu_tp (b := (((M 7 k9).toNat : Nat) : Int)) (by rw [hR.ba k9 (by omega)]; omega) ?_
                    refine tu_imul 93 X dL_whole_93 ?_
                    refine tu_iald 94 X (x := Mb 86 (2 * ((M 7 k9).toNat))) (2 * ((M 7 k9).toNat)) dL_whole_94 (by decide) rfl (by decide) (by omega) (by omega) rfl ?_
                    refine tu_tp (b := (M 86 (2 * ((M 7 k9).toNat)))) (by rw [hsc 86 (by decide)]) ?_
                    refine tu_tp (b := ((tu_nl (tu_cb M) (M 7 k9).toNat : Nat) : Int)) (by rw [hli.2.1]; exact hnl9.1) ?_
                    refine tu_aload_n 95 X 4 dL_whole_95 rfl ?_
                    refine tu_iconst 96 X dL_whole_96 ?_
                    refine tu_aload 97 X 6 dL_whole_97 rfl ?_
                    refine tu_iload 99 X 18 dL_whole_99 rfl ?_
                    refine tu_iald 101 X (x := Mb 88 k9) k9 dL_whole_101 (by decide) rfl (by decide) (by omega) (by omega) rfl ?_
                    refine tu_tp (b := (M 88 k9)) (by rw [hsc 88 (by decide)]) ?_
                    refine tu_tp (b := (((M 7 k9).toNat : Nat) : Int)) (by rw [hR.ba k9 (by omega)]; omega) ?_
                    refine tu_imul 102 X dL_whole_102 ?_
                    refine tu_iconst 103 X dL_whole_103 ?_
                    refine tu_iadd 104 X dL_whole_104 ?_
                    refine tu_iald 105 X (x := Mb 86 ((2 * ((M 7 k9).toNat)) + 1)) ((2 * ((M 7 k9).toNat)) + 1) dL_whole_105 (by decide) rfl (by decide) (by omega) (by omega) rfl ?_
                    refine tu_tp (b := (M 86 ((2 * ((M 7 k9).toNat)) + 1))) (by rw [hsc 86 (by decide)]) ?_
                    refine tu_iload 106 X 0 dL_whole_106 rfl ?_
                    refine tu_aload_n 108 X 3 dL_whole_108 rfl ?_
                    refine tu_iconst 109 X dL_whole_109 ?_
                    refine tu_iald 110 X (x := Mb 90 0) 0 dL_whole_110 (by decide) rfl (by decide) rfl (by decide) rfl ?_
                    refine tu_tp (b := (M 90 0)) (by rw [hsc 90 (by decide)]) ?_
                    refine tu_tp (b := (((M 2 0).toNat : Nat) : Int)) (by rw [hqs 0 (by decide)]; have := hB.set; omega) ?_
                    refine tu_aload_n 111 X 3 dL_whole_111 rfl ?_
                    refine tu_aload 112 X 5 dL_whole_112 rfl ?_
                    refine tu_aload 114 X 8 dL_whole_114 rfl ?_
                    refine tu_st_eq (show _ = [tu_r 91, tu_r 87, tu_r 90, tu_i ((((M 2 0).toNat) : Nat) : Int), tu_i (((ON k9) : Nat) : Int), tu_i (M 86 ((2 * ((M 7 k9).toNat)) + 1)), tu_i (((tu_nl (tu_cb M) (M 7 k9).toNat) : Nat) : Int)] from by first | rfl | (simp only [List.cons.injEq, Sum.inl.injEq, and_true, true_and]; omega)) rfl ?_
                    refine tu_callSV 116 X (st := []) (as := [tu_i (((tu_nl (tu_cb M) (M 7 k9).toNat) : Nat) : Int), tu_i (M 86 ((2 * ((M 7 k9).toNat)) + 1)), tu_i (((ON k9) : Nat) : Int), tu_i ((((M 2 0).toNat) : Nat) : Int), tu_r 90, tu_r 87, tu_r 91]) (c_L_lay (tu_nl (tu_cb M) (M 7 k9).toNat) (tu_np (tu_cb M) (ON k9)) (ON k9) ((M 2 0).toNat) (M 86 ((2 * ((M 7 k9).toNat)) + 1)) (tu_cb M 1) (tu_al (tu_cb M) (M 7 k9).toNat) (tu_kp (tu_cb M) (ON k9)) (show 1 ≤ (tu_nl (tu_cb M) (M 7 k9).toNat) ∧ (tu_nl (tu_cb M) (M 7 k9).toNat) ≤ 5 from by exact ly.1) (show 1 ≤ ((M 2 0).toNat) ∧ ((M 2 0).toNat) ≤ 8 from by exact ly.2.1) (show (ON k9) < 4 from by exact ly.2.2.1) (show 1 ≤ (tu_np (tu_cb M) (ON k9)) ∧ (tu_np (tu_cb M) (ON k9)) ≤ 9 from by exact ly.2.2.2.1) (show Mb 87 (3 * (ON k9)) = (((tu_np (tu_cb M) (ON k9)) : Nat) : Int) from by exact ly.2.2.2.2.1) (show tu_mk (M 86 ((2 * ((M 7 k9).toNat)) + 1)) (tu_nl (tu_cb M) (M 7 k9).toNat) (tu_al (tu_cb M) (M 7 k9).toNat) from by exact ly.2.2.2.2.2.1) (show tu_mk (Mb 87 (3 * (ON k9) + 1)) (tu_np (tu_cb M) (ON k9)) (tz_k2 (tu_kp (tu_cb M) (ON k9))) from by exact ly.2.2.2.2.2.2.1) (show tu_mk (Mb 87 (3 * (ON k9) + 2)) (tu_np (tu_cb M) (ON k9)) (tz_k1 (tu_kp (tu_cb M) (ON k9))) from by exact ly.2.2.2.2.2.2.2.1) (show ∀ b, b < (tu_np (tu_cb M) (ON k9)) → 0 ≤ (tu_kp (tu_cb M) (ON k9)) b ∧ (tu_kp (tu_cb M) (ON k9)) b ≤ 2 from by exact ly.2.2.2.2.2.2.2.2.1) (show (tu_cb M 1) 0 = ((((M 2 0).toNat) : Nat) : Int) ∧ (tu_cb M 1) 1 = Mb 90 1 ∧ (tu_cb M 1) 2 = Mb 90 2 ∧ (tu_cb M 1) 3 = Mb 90 3 from by exact ly.2.2.2.2.2.2.2.2.2.1) (show (0 ≤ (tu_cb M 1) 1 ∧ (tu_cb M 1) 1 ≤ 9) ∧ (0 ≤ (tu_cb M 1) 2 ∧ (tu_cb M 1) 2 ≤ 9) ∧ (0 ≤ (tu_cb M 1) 3 ∧ (tu_cb M 1) 3 ≤ 20) from by exact ly.2.2.2.2.2.2.2.2.2.2)) ss_RL_16 dL_whole_116 rfl (Nat.le_of_ble_eq_true rfl) ⟨by decide, by decide⟩ (fun M' h => ?_)
                    obtain ⟨w_116, hM116, h116_0⟩ := h
                    refine tu_st_eq rfl (M' := tu_row Mb 91 w_116) hM116 ?_
                    have hW : tz_W (tu_cb M) (M 7 k9).toNat (ON k9) w_116 := h116_0
                    have hco := hW.co hok
                    have hr0 := hW.rg hok 0 (by decide)
                    refine tu_iload 119 X 17 dL_whole_119 rfl ?_
                    refine tu_aload 121 X 5 dL_whole_121 rfl ?_
                    refine tu_iconst 123 X dL_whole_123 ?_
                    refine tu_iload 124 X 0 dL_whole_124 rfl ?_
                    refine tu_imul 126 X dL_whole_126 ?_
                    refine tu_iald 127 X (x := Mb 87 (3 * (ON k9))) (3 * (ON k9)) dL_whole_127 (by decide) rfl (by decide) (by omega) (by omega) rfl ?_
                    refine tu_tp (b := (M 87 (3 * (ON k9)))) (by rw [hsc 87 (by decide)]) ?_
                    refine tu_tp (b := (M 5 (ON k9))) (by exact hph.2.1) ?_
                    refine tu_iadd 128 X dL_whole_128 ?_
                    refine tu_istore 129 X (lv' := [(16, tu_i (tu_sm (fun q => M 5 (ON q)) k9 + (M 5 (ON k9)))), (18, tu_i (((ON k9) : Nat) : Int)), (0, tu_r 0), (1, tu_i x), (2, tu_r 90), (3, tu_r 86), (4, tu_r 87), (5, tu_r 88), (6, tu_r 89), (7, tu_r 91), (8, tu_i bs), (9, tu_i fw), (10, tu_i ls), (11, tu_i (((e : Nat) : Int) - 1)), (12, tu_i (tu_sm (fun q => if tu_co (tu_cb M) (M 7 q).toNat (ON q) < 1000000 then tu_co (tu_cb M) (M 7 q).toNat (ON q) else 0) k9)), (13, tu_i (tu_sm (fun q => if tu_co (tu_cb M) (M 7 q).toNat (ON q) < 1000000 then 0 else 1) k9)), (14, tu_i ((tu_gp (fun q => tu_co (tu_cb M) (M 7 q).toNat (ON q)) k9).2)), (15, tu_i ((tu_gp (fun q => tu_co (tu_cb M) (M 7 q).toNat (ON q)) k9).1)), (17, tu_i ((k9 : Nat) : Int))]) dL_whole_129 (by rw [hnl]; decide) rfl ?_
                    refine tu_aload 131 X 9 dL_whole_131 rfl ?_
                    refine tu_iconst 133 X dL_whole_133 ?_
                    refine tu_iald 134 X (x := w_116 0) 0 dL_whole_134 (by decide) rfl (by decide) rfl (by decide) rfl ?_
                    refine tu_if_ge 135 X 144 dL_whole_135 (by decide) (show tu_rg (w_116 0) from by first | assumption | exact ⟨by omega, by omega⟩) (fun br135 => ?_) (fun br135 => ?_)
                    ·
                      rw [if_pos (show (tu_co (tu_cb M) (M 7 k9).toNat (ON k9)) < 1000000 from by omega)] at s1 s2
                      refine tu_iload 144 X 14 dL_whole_144 rfl ?_
                      refine tu_aload 146 X 9 dL_whole_146 rfl ?_
                      refine tu_iconst 148 X dL_whole_148 ?_
                      refine tu_iald 149 X (x := w_116 0) 0 dL_whole_149 (by decide) rfl (by decide) rfl (by decide) rfl ?_
                      refine tu_iadd 150 X dL_whole_150 ?_
                      refine tu_istore 151 X (lv' := [(12, tu_i (tu_sm (fun q => if tu_co (tu_cb M) (M 7 q).toNat (ON q) < 1000000 then tu_co (tu_cb M) (M 7 q).toNat (ON q) else 0) k9 + (w_116 0))), (16, tu_i (tu_sm (fun q => M 5 (ON q)) k9 + (M 5 (ON k9)))), (18, tu_i (((ON k9) : Nat) : Int)), (0, tu_r 0), (1, tu_i x), (2, tu_r 90), (3, tu_r 86), (4, tu_r 87), (5, tu_r 88), (6, tu_r 89), (7, tu_r 91), (8, tu_i bs), (9, tu_i fw), (10, tu_i ls), (11, tu_i (((e : Nat) : Int) - 1)), (13, tu_i (tu_sm (fun q => if tu_co (tu_cb M) (M 7 q).toNat (ON q) < 1000000 then 0 else 1) k9)), (14, tu_i ((tu_gp (fun q => tu_co (tu_cb M) (M 7 q).toNat (ON q)) k9).2)), (15, tu_i ((tu_gp (fun q => tu_co (tu_cb M) (M 7 q).toNat (ON q)) k9).1)), (17, tu_i ((k9 : Nat) : Int))]) dL_whole_151 (by rw [hnl]; decide) rfl ?_
                      refine tu_aload 153 X 10 dL_whole_153 rfl ?_
                      refine tu_iconst 155 X dL_whole_155 ?_
                      refine tu_iald 156 X (x := w_116 0) 0 dL_whole_156 (by decide) rfl (by decide) rfl (by decide) rfl ?_
                      refine tu_iload 157 X 17 dL_whole_157 rfl ?_
                      refine tu_icmp_le 159 X 167 dL_whole_159 (by decide) (show tu_rg (w_116 0) from by first | assumption | exact ⟨by omega, by omega⟩) (show tu_rg ((tu_gp (fun q => tu_co (tu_cb M) (M 7 q).toNat (ON q)) k9).1) from by first | assumption | exact ⟨by omega, by omega⟩) (fun br159 => ?_) (fun br159 => ?_)
                      ·
                        rw [if_neg (show ¬ ((tu_co (tu_cb M) (M 7 k9).toNat (ON k9)) < 1000000 ∧ (tu_gp (fun q => tu_co (tu_cb M) (M 7 q).toNat (ON q)) k9).1 < (tu_co (tu_cb M) (M 7 k9).toNat (ON k9))) from fun q => by omega)] at s3
                        refine tu_iload 167 X 16 dL_whole_167 rfl ?_
                        refine tu_istore 169 X (lv' := [(14, tu_i ((tu_gp (fun q => tu_co (tu_cb M) (M 7 q).toNat (ON q)) k9).2)), (12, tu_i (tu_sm (fun q => if tu_co (tu_cb M) (M 7 q).toNat (ON q) < 1000000 then tu_co (tu_cb M) (M 7 q).toNat (ON q) else 0) k9 + (w_116 0))), (16, tu_i (tu_sm (fun q => M 5 (ON q)) k9 + (M 5 (ON k9)))), (18, tu_i (((ON k9) : Nat) : Int)), (0, tu_r 0), (1, tu_i x), (2, tu_r 90), (3, tu_r 86), (4, tu_r 87), (5, tu_r 88), (6, tu_r 89), (7, tu_r 91), (8, tu_i bs), (9, tu_i fw), (10, tu_i ls), (11, tu_i (((e : Nat) : Int) - 1)), (13, tu_i (tu_sm (fun q => if tu_co (tu_cb M) (M 7 q).toNat (ON q) < 1000000 then 0 else 1) k9)), (15, tu_i ((tu_gp (fun q => tu_co (tu_cb M) (M 7 q).toNat (ON q)) k9).1)), (17, tu_i ((k9 : Nat) : Int))]) dL_whole_169 (by rw [hnl]; decide) rfl ?_
                        refine tu_aload 171 X 11 dL_whole_171 rfl ?_
                        refine tu_iconst 173 X dL_whole_173 ?_
                        refine tu_iald 174 X (x := w_116 0) 0 dL_whole_174 (by decide) rfl (by decide) rfl (by decide) rfl ?_
                        refine tu_iload 175 X 17 dL_whole_175 rfl ?_
                        refine tu_icmp_le 177 X 187 dL_whole_177 (by decide) (show tu_rg (w_116 0) from by first | assumption | exact ⟨by omega, by omega⟩) (show tu_rg ((tu_gp (fun q => tu_co (tu_cb M) (M 7 q).toNat (ON q)) k9).1) from by first | assumption | exact ⟨by omega, by omega⟩) (fun br177 => ?_) (fun br177 => ?_)
                        ·
                          refine tu_iload 187 X 17 dL_whole_187 rfl ?_
                          refine tu_istore 189 X (lv' := [(15, tu_i ((tu_gp (fun q => tu_co (tu_cb M) (M 7 q).toNat (ON q)) k9).1)), (14, tu_i ((tu_gp (fun q => tu_co (tu_cb M) (M 7 q).toNat (ON q)) k9).2)), (12, tu_i (tu_sm (fun q => if tu_co (tu_cb M) (M 7 q).toNat (ON q) < 1000000 then tu_co (tu_cb M) (M 7 q).toNat (ON q) else 0) k9 + (w_116 0))), (16, tu_i (tu_sm (fun q => M 5 (ON q)) k9 + (M 5 (ON k9)))), (18, tu_i (((ON k9) : Nat) : Int)), (0, tu_r 0), (1, tu_i x), (2, tu_r 90), (3, tu_r 86), (4, tu_r 87), (5, tu_r 88), (6, tu_r 89), (7, tu_r 91), (8, tu_i bs), (9, tu_i fw), (10, tu_i ls), (11, tu_i (((e : Nat) : Int) - 1)), (13, tu_i (tu_sm (fun q => if tu_co (tu_cb M) (M 7 q).toNat (ON q) < 1000000 then 0 else 1) k9)), (17, tu_i ((k9 : Nat) : Int))]) dL_whole_189 (by rw [hnl]; decide) rfl ?_
                          refine tu_iinc 191 X (lv' := [(17, tu_i (((k9 : Nat) : Int) + 1)), (15, tu_i ((tu_gp (fun q => tu_co (tu_cb M) (M 7 q).toNat (ON q)) k9).1)), (14, tu_i ((tu_gp (fun q => tu_co (tu_cb M) (M 7 q).toNat (ON q)) k9).2)), (12, tu_i (tu_sm (fun q => if tu_co (tu_cb M) (M 7 q).toNat (ON q) < 1000000 then tu_co (tu_cb M) (M 7 q).toNat (ON q) else 0) k9 + (w_116 0))), (16, tu_i (tu_sm (fun q => M 5 (ON q)) k9 + (M 5 (ON k9)))), (18, tu_i (((ON k9) : Nat) : Int)), (0, tu_r 0), (1, tu_i x), (2, tu_r 90), (3, tu_r 86), (4, tu_r 87), (5, tu_r 88), (6, tu_r 89), (7, tu_r 91), (8, tu_i bs), (9, tu_i fw), (10, tu_i ls), (11, tu_i (((e : Nat) : Int) - 1)), (13, tu_i (tu_sm (fun q => if tu_co (tu_cb M) (M 7 q).toNat (ON q) < 1000000 then 0 else 1) k9))]) 18 dL_whole_191 rfl (by rw [hnl]; decide) rfl ?_
                          refine tu_goto 194 X 55 dL_whole_194 (by decide) ?_
                          refine tu_jmp [6, 7, 8, 9, 10, 11, 12, 13, 14, 15, 16, 17, 3, 18, 2, 1, 4, 0] (lv' := [(0, tu_r 0), (1, tu_i x), (2, tu_r 90), (3, tu_r 86), (4, tu_r 87), (5, tu_r 88), (6, tu_r 89), (7, tu_r 91), (8, tu_i bs), (9, tu_i fw), (10, tu_i ls), (11, tu_i (((e : Nat) : Int) - 1)), (12, tu_i (tu_sm (fun q => if tu_co (tu_cb M) (M 7 q).toNat (ON q) < 1000000 then tu_co (tu_cb M) (M 7 q).toNat (ON q) else 0) (k9 + 1))), (13, tu_i (tu_sm (fun q => if tu_co (tu_cb M) (M 7 q).toNat (ON q) < 1000000 then 0 else 1) (k9 + 1))), (14, tu_i ((tu_gp (fun q => tu_co (tu_cb M) (M 7 q).toNat (ON q)) (k9 + 1)).2)), (15, tu_i ((tu_gp (fun q => tu_co (tu_cb M) (M 7 q).toNat (ON q)) (k9 + 1)).1)), (16, tu_i (tu_sm (fun q => M 5 (ON q)) (k9 + 1))), (17, tu_i (((k9 + 1) : Nat) : Int))]) ⟨rfl, rfl, rfl, rfl, rfl, rfl, rfl, rfl, rfl, rfl, rfl, rfl, tu_ei (by first | rfl | (first | (rw [s1]; done) | (rw [s1]; omega))), tu_ei (by first | rfl | (first | (rw [s2]; done) | (rw [s2]; omega))), tu_ei (by first | rfl | (rw [s3])), tu_ei (by first | rfl | (first | (rw [s3]; done) | (rw [s3]; show _ = (tu_co (tu_cb M) (M 7 k9).toNat (ON k9)); omega))), tu_ei (by first | rfl | (rw [s4])), tu_ei (by first | rfl | omega), trivial⟩ rfl (ih55 (k9 + 1) (tu_row Mb 91 w_116) (by omega) (by rw [s3]; first | omega | (show -1 ≤ (tu_co (tu_cb M) (M 7 k9).toNat (ON k9)) ∧ (tu_co (tu_cb M) (M 7 k9).toNat (ON k9)) ≤ 1000000; omega)) (by exact hsc.w _) (by omega))
                        ·
                          exfalso; omega
                      ·
                        rw [if_pos (show (tu_co (tu_cb M) (M 7 k9).toNat (ON k9)) < 1000000 ∧ (tu_gp (fun q => tu_co (tu_cb M) (M 7 q).toNat (ON q)) k9).1 < (tu_co (tu_cb M) (M 7 k9).toNat (ON k9)) from ⟨by omega, by omega⟩)] at s3
                        refine tu_iload 162 X 18 dL_whole_162 rfl ?_
                        refine tu_goto 164 X 169 dL_whole_164 (by decide) ?_
                        refine tu_istore 169 X (lv' := [(14, tu_i ((k9 : Nat) : Int)), (12, tu_i (tu_sm (fun q => if tu_co (tu_cb M) (M 7 q).toNat (ON q) < 1000000 then tu_co (tu_cb M) (M 7 q).toNat (ON q) else 0) k9 + (w_116 0))), (16, tu_i (tu_sm (fun q => M 5 (ON q)) k9 + (M 5 (ON k9)))), (18, tu_i (((ON k9) : Nat) : Int)), (0, tu_r 0), (1, tu_i x), (2, tu_r 90), (3, tu_r 86), (4, tu_r 87), (5, tu_r 88), (6, tu_r 89), (7, tu_r 91), (8, tu_i bs), (9, tu_i fw), (10, tu_i ls), (11, tu_i (((e : Nat) : Int) - 1)), (13, tu_i (tu_sm (fun q => if tu_co (tu_cb M) (M 7 q).toNat (ON q) < 1000000 then 0 else 1) k9)), (15, tu_i ((tu_gp (fun q => tu_co (tu_cb M) (M 7 q).toNat (ON q)) k9).1)), (17, tu_i ((k9 : Nat) : Int))]) dL_whole_169 (by rw [hnl]; decide) rfl ?_
                        refine tu_aload 171 X 11 dL_whole_171 rfl ?_
                        refine tu_iconst 173 X dL_whole_173 ?_
                        refine tu_iald 174 X (x := w_116 0) 0 dL_whole_174 (by decide) rfl (by decide) rfl (by decide) rfl ?_
                        refine tu_iload 175 X 17 dL_whole_175 rfl ?_
                        refine tu_icmp_le 177 X 187 dL_whole_177 (by decide) (show tu_rg (w_116 0) from by first | assumption | exact ⟨by omega, by omega⟩) (show tu_rg ((tu_gp (fun q => tu_co (tu_cb M) (M 7 q).toNat (ON q)) k9).1) from by first | assumption | exact ⟨by omega, by omega⟩) (fun br177 => ?_) (fun br177 => ?_)
                        ·
                          exfalso; omega
                        ·
                          refine tu_aload 180 X 11 dL_whole_180 rfl ?_
                          refine tu_iconst 182 X dL_whole_182 ?_
                          refine tu_iald 183 X (x := w_116 0) 0 dL_whole_183 (by decide) rfl (by decide) rfl (by decide) rfl ?_
                          refine tu_goto 184 X 189 dL_whole_184 (by decide) ?_
                          refine tu_istore 189 X (lv' := [(15, tu_i (w_116 0)), (14, tu_i ((k9 : Nat) : Int)), (12, tu_i (tu_sm (fun q => if tu_co (tu_cb M) (M 7 q).toNat (ON q) < 1000000 then tu_co (tu_cb M) (M 7 q).toNat (ON q) else 0) k9 + (w_116 0))), (16, tu_i (tu_sm (fun q => M 5 (ON q)) k9 + (M 5 (ON k9)))), (18, tu_i (((ON k9) : Nat) : Int)), (0, tu_r 0), (1, tu_i x), (2, tu_r 90), (3, tu_r 86), (4, tu_r 87), (5, tu_r 88), (6, tu_r 89), (7, tu_r 91), (8, tu_i bs), (9, tu_i fw), (10, tu_i ls), (11, tu_i (((e : Nat) : Int) - 1)), (13, tu_i (tu_sm (fun q => if tu_co (tu_cb M) (M 7 q).toNat (ON q) < 1000000 then 0 else 1) k9)), (17, tu_i ((k9 : Nat) : Int))]) dL_whole_189 (by rw [hnl]; decide) rfl ?_
                          refine tu_iinc 191 X (lv' := [(17, tu_i (((k9 : Nat) : Int) + 1)), (15, tu_i (w_116 0)), (14, tu_i ((k9 : Nat) : Int)), (12, tu_i (tu_sm (fun q => if tu_co (tu_cb M) (M 7 q).toNat (ON q) < 1000000 then tu_co (tu_cb M) (M 7 q).toNat (ON q) else 0) k9 + (w_116 0))), (16, tu_i (tu_sm (fun q => M 5 (ON q)) k9 + (M 5 (ON k9)))), (18, tu_i (((ON k9) : Nat) : Int)), (0, tu_r 0), (1, tu_i x), (2, tu_r 90), (3, tu_r 86), (4, tu_r 87), (5, tu_r 88), (6, tu_r 89), (7, tu_r 91), (8, tu_i bs), (9, tu_i fw), (10, tu_i ls), (11, tu_i (((e : Nat) : Int) - 1)), (13, tu_i (tu_sm (fun q => if tu_co (tu_cb M) (M 7 q).toNat (ON q) < 1000000 then 0 else 1) k9))]) 18 dL_whole_191 rfl (by rw [hnl]; decide) rfl ?_
                          refine tu_goto 194 X 55 dL_whole_194 (by decide) ?_
                          refine tu_jmp [6, 7, 8, 9, 10, 11, 12, 13, 14, 15, 16, 17, 3, 18, 2, 1, 4, 0] (lv' := [(0, tu_r 0), (1, tu_i x), (2, tu_r 90), (3, tu_r 86), (4, tu_r 87), (5, tu_r 88), (6, tu_r 89), (7, tu_r 91), (8, tu_i bs), (9, tu_i fw), (10, tu_i ls), (11, tu_i (((e : Nat) : Int) - 1)), (12, tu_i (tu_sm (fun q => if tu_co (tu_cb M) (M 7 q).toNat (ON q) < 1000000 then tu_co (tu_cb M) (M 7 q).toNat (ON q) else 0) (k9 + 1))), (13, tu_i (tu_sm (fun q => if tu_co (tu_cb M) (M 7 q).toNat (ON q) < 1000000 then 0 else 1) (k9 + 1))), (14, tu_i ((tu_gp (fun q => tu_co (tu_cb M) (M 7 q).toNat (ON q)) (k9 + 1)).2)), (15, tu_i ((tu_gp (fun q => tu_co (tu_cb M) (M 7 q).toNat (ON q)) (k9 + 1)).1)), (16, tu_i (tu_sm (fun q => M 5 (ON q)) (k9 + 1))), (17, tu_i (((k9 + 1) : Nat) : Int))]) ⟨rfl, rfl, rfl, rfl, rfl, rfl, rfl, rfl, rfl, rfl, rfl, rfl, tu_ei (by first | rfl | (first | (rw [s1]; done) | (rw [s1]; omega))), tu_ei (by first | rfl | (first | (rw [s2]; done) | (rw [s2]; omega))), tu_ei (by first | rfl | (rw [s3])), tu_ei (by first | rfl | (first | (rw [s3]; done) | (rw [s3]; show _ = (tu_co (tu_cb M) (M 7 k9).toNat (ON k9)); omega))), tu_ei (by first | rfl | (rw [s4])), tu_ei (by first | rfl | omega), trivial⟩ rfl (ih55 (k9 + 1) (tu_row Mb 91 w_116) (by omega) (by rw [s3]; first | omega | (show -1 ≤ (tu_co (tu_cb M) (M 7 k9).toNat (ON k9)) ∧ (tu_co (tu_cb M) (M 7 k9).toNat (ON k9)) ≤ 1000000; omega)) (by exact hsc.w _) (by omega))
                    ·
                      rw [if_neg (show ¬ (tu_co (tu_cb M) (M 7 k9).toNat (ON k9)) < 1000000 from by omega)] at s1 s2
                      rw [if_neg (show ¬ ((tu_co (tu_cb M) (M 7 k9).toNat (ON k9)) < 1000000 ∧ (tu_gp (fun q => tu_co (tu_cb M) (M 7 q).toNat (ON q)) k9).1 < (tu_co (tu_cb M) (M 7 k9).toNat (ON k9))) from fun q => by omega)] at s3
                      refine tu_iinc 138 X (lv' := [(13, tu_i (tu_sm (fun q => if tu_co (tu_cb M) (M 7 q).toNat (ON q) < 1000000 then 0 else 1) k9 + 1)), (16, tu_i (tu_sm (fun q => M 5 (ON q)) k9 + (M 5 (ON k9)))), (18, tu_i (((ON k9) : Nat) : Int)), (0, tu_r 0), (1, tu_i x), (2, tu_r 90), (3, tu_r 86), (4, tu_r 87), (5, tu_r 88), (6, tu_r 89), (7, tu_r 91), (8, tu_i bs), (9, tu_i fw), (10, tu_i ls), (11, tu_i (((e : Nat) : Int) - 1)), (12, tu_i (tu_sm (fun q => if tu_co (tu_cb M) (M 7 q).toNat (ON q) < 1000000 then tu_co (tu_cb M) (M 7 q).toNat (ON q) else 0) k9)), (14, tu_i ((tu_gp (fun q => tu_co (tu_cb M) (M 7 q).toNat (ON q)) k9).2)), (15, tu_i ((tu_gp (fun q => tu_co (tu_cb M) (M 7 q).toNat (ON q)) k9).1)), (17, tu_i ((k9 : Nat) : Int))]) 15 dL_whole_138 rfl (by rw [hnl]; decide) rfl ?_
                      refine tu_goto 141 X 191 dL_whole_141 (by decide) ?_
                      refine tu_iinc 191 X (lv' := [(17, tu_i (((k9 : Nat) : Int) + 1)), (13, tu_i (tu_sm (fun q => if tu_co (tu_cb M) (M 7 q).toNat (ON q) < 1000000 then 0 else 1) k9 + 1)), (16, tu_i (tu_sm (fun q => M 5 (ON q)) k9 + (M 5 (ON k9)))), (18, tu_i (((ON k9) : Nat) : Int)), (0, tu_r 0), (1, tu_i x), (2, tu_r 90), (3, tu_r 86), (4, tu_r 87), (5, tu_r 88), (6, tu_r 89), (7, tu_r 91), (8, tu_i bs), (9, tu_i fw), (10, tu_i ls), (11, tu_i (((e : Nat) : Int) - 1)), (12, tu_i (tu_sm (fun q => if tu_co (tu_cb M) (M 7 q).toNat (ON q) < 1000000 then tu_co (tu_cb M) (M 7 q).toNat (ON q) else 0) k9)), (14, tu_i ((tu_gp (fun q => tu_co (tu_cb M) (M 7 q).toNat (ON q)) k9).2)), (15, tu_i ((tu_gp (fun q => tu_co (tu_cb M) (M 7 q).toNat (ON q)) k9).1))]) 18 dL_whole_191 rfl (by rw [hnl]; decide) rfl ?_
                      refine tu_goto 194 X 55 dL_whole_194 (by decide) ?_
                      refine tu_jmp [4, 5, 6, 7, 8, 9, 10, 11, 12, 13, 14, 15, 16, 1, 17, 18, 2, 0] (lv' := [(0, tu_r 0), (1, tu_i x), (2, tu_r 90), (3, tu_r 86), (4, tu_r 87), (5, tu_r 88), (6, tu_r 89), (7, tu_r 91), (8, tu_i bs), (9, tu_i fw), (10, tu_i ls), (11, tu_i (((e : Nat) : Int) - 1)), (12, tu_i (tu_sm (fun q => if tu_co (tu_cb M) (M 7 q).toNat (ON q) < 1000000 then tu_co (tu_cb M) (M 7 q).toNat (ON q) else 0) (k9 + 1))), (13, tu_i (tu_sm (fun q => if tu_co (tu_cb M) (M 7 q).toNat (ON q) < 1000000 then 0 else 1) (k9 + 1))), (14, tu_i ((tu_gp (fun q => tu_co (tu_cb M) (M 7 q).toNat (ON q)) (k9 + 1)).2)), (15, tu_i ((tu_gp (fun q => tu_co (tu_cb M) (M 7 q).toNat (ON q)) (k9 + 1)).1)), (16, tu_i (tu_sm (fun q => M 5 (ON q)) (k9 + 1))), (17, tu_i (((k9 + 1) : Nat) : Int))]) ⟨rfl, rfl, rfl, rfl, rfl, rfl, rfl, rfl, rfl, rfl, rfl, rfl, tu_ei (by first | rfl | (first | (rw [s1]; done) | (rw [s1]; omega))), tu_ei (by first | rfl | (first | (rw [s2]; done) | (rw [s2]; omega))), tu_ei (by first | rfl | (rw [s3])), tu_ei (by first | rfl | (first | (rw [s3]; done) | (rw [s3]; show _ = (tu_co (tu_cb M) (M 7 k9).toNat (ON k9)); omega))), tu_ei (by first | rfl | (rw [s4])), tu_ei (by first | rfl | omega), trivial⟩ rfl (ih55 (k9 + 1) (tu_row Mb 91 w_116) (by omega) (by rw [s3]; first | omega | (show -1 ≤ (tu_co (tu_cb M) (M 7 k9).toNat (ON k9)) ∧ (tu_co (tu_cb M) (M 7 k9).toNat (ON k9)) ≤ 1000000; omega)) (by exact hsc.w _) (by omega))
                refine tu_iload 64 X 11 dL_whole_64 rfl ?_
                refine tu_if_ge 66 X 82 dL_whole_66 (by decide) (show tu_rg (((e : Nat) : Int) - 1) from by first | assumption | exact ⟨by omega, by omega⟩) (fun br66 => ?_) (fun br66 => ?_)
                ·
                  refine tu_iload 82 X 11 dL_whole_82 rfl ?_
                  refine tu_tp (b := ((ON k9 : Nat) : Int)) (by rw [hON1 (by omega) k9]; omega) ?_
                  refine tu_jmp [0, 1, 2, 3, 4, 5, 6, 7, 8, 9, 10, 11, 12, 13, 14, 15, 16, 17] (lv' := [(0, tu_r 0), (1, tu_i x), (2, tu_r 90), (3, tu_r 86), (4, tu_r 87), (5, tu_r 88), (6, tu_r 89), (7, tu_r 91), (8, tu_i bs), (9, tu_i fw), (10, tu_i ls), (11, tu_i (((e : Nat) : Int) - 1)), (12, tu_i (tu_sm (fun q => if tu_co (tu_cb M) (M 7 q).toNat (ON q) < 1000000 then tu_co (tu_cb M) (M 7 q).toNat (ON q) else 0) k9)), (13, tu_i (tu_sm (fun q => if tu_co (tu_cb M) (M 7 q).toNat (ON q) < 1000000 then 0 else 1) k9)), (14, tu_i ((tu_gp (fun q => tu_co (tu_cb M) (M 7 q).toNat (ON q)) k9).2)), (15, tu_i ((tu_gp (fun q => tu_co (tu_cb M) (M 7 q).toNat (ON q)) k9).1)), (16, tu_i (tu_sm (fun q => M 5 (ON q)) k9)), (17, tu_i ((k9 : Nat) : Int))]) ⟨rfl, rfl, rfl, rfl, rfl, rfl, rfl, rfl, rfl, rfl, rfl, rfl, rfl, rfl, rfl, rfl, rfl, rfl, trivial⟩ rfl (lp84 )
                ·
                  refine tu_aload 69 X 6 dL_whole_69 rfl ?_
                  refine tu_iload 71 X 17 dL_whole_71 rfl ?_
                  refine tu_aload_n 73 X 2 dL_whole_73 rfl ?_
                  refine tu_bipush 74 X dL_whole_74 (by decide) ?_
                  refine tu_iald 76 X (x := Mb 90 7) 7 dL_whole_76 (by decide) rfl (by decide) rfl (by decide) rfl ?_
                  refine tu_tp (b := (M 90 7)) (by rw [hsc 90 (by decide)]) ?_
                  refine tu_tp (b := ((NT : Nat) : Int)) (by rw [q4.2.2.2]; exact eT) ?_
                  refine tu_irem 77 X dL_whole_77 (show tu_rg ((NT : Nat) : Int) from by first | assumption | exact ⟨by omega, by omega⟩) (by have := hNT (by omega); omega) ?_
                  refine tu_tp (b := ((k9 % NT : Nat) : Int)) (by exact tu_rem_n (by omega) (hNT (by omega)) (by omega)) ?_
                  refine tu_iald 78 X (x := Mb 89 (k9 % NT)) (k9 % NT) dL_whole_78 (by decide) rfl (by decide) (by omega) (by have := Nat.mod_lt k9 (hNT (by omega)); omega) rfl ?_
                  refine tu_tp (b := (M 89 (k9 % NT))) (by rw [hsc 89 (by decide)]) ?_
                  refine tu_tp (b := ((ON k9 : Nat) : Int)) (by have z := Nat.mod_lt k9 (hNT (by omega)); rw [hON0 (by omega) k9, hR.tn (k9 % NT) (by omega)]; have := hB.tun (k9 % NT) (by omega); omega) ?_
                  refine tu_goto 79 X 84 dL_whole_79 (by decide) ?_
                  refine tu_jmp [0, 1, 2, 3, 4, 5, 6, 7, 8, 9, 10, 11, 12, 13, 14, 15, 16, 17] (lv' := [(0, tu_r 0), (1, tu_i x), (2, tu_r 90), (3, tu_r 86), (4, tu_r 87), (5, tu_r 88), (6, tu_r 89), (7, tu_r 91), (8, tu_i bs), (9, tu_i fw), (10, tu_i ls), (11, tu_i (((e : Nat) : Int) - 1)), (12, tu_i (tu_sm (fun q => if tu_co (tu_cb M) (M 7 q).toNat (ON q) < 1000000 then tu_co (tu_cb M) (M 7 q).toNat (ON q) else 0) k9)), (13, tu_i (tu_sm (fun q => if tu_co (tu_cb M) (M 7 q).toNat (ON q) < 1000000 then 0 else 1) k9)), (14, tu_i ((tu_gp (fun q => tu_co (tu_cb M) (M 7 q).toNat (ON q)) k9).2)), (15, tu_i ((tu_gp (fun q => tu_co (tu_cb M) (M 7 q).toNat (ON q)) k9).1)), (16, tu_i (tu_sm (fun q => M 5 (ON q)) k9)), (17, tu_i ((k9 : Nat) : Int))]) ⟨rfl, rfl, rfl, rfl, rfl, rfl, rfl, rfl, rfl, rfl, rfl, rfl, rfl, rfl, rfl, rfl, rfl, rfl, trivial⟩ rfl (lp84 )
          refine tu_jmp [6, 7, 8, 9, 10, 11, 12, 13, 14, 15, 16, 17, 5, 4, 3, 2, 1, 0] (lv' := [(0, tu_r 0), (1, tu_i x), (2, tu_r 90), (3, tu_r 86), (4, tu_r 87), (5, tu_r 88), (6, tu_r 89), (7, tu_r 91), (8, tu_i bs), (9, tu_i fw), (10, tu_i ls), (11, tu_i (((e : Nat) : Int) - 1)), (12, tu_i (tu_sm (fun q => if tu_co (tu_cb M) (M 7 q).toNat (ON q) < 1000000 then tu_co (tu_cb M) (M 7 q).toNat (ON q) else 0) 0)), (13, tu_i (tu_sm (fun q => if tu_co (tu_cb M) (M 7 q).toNat (ON q) < 1000000 then 0 else 1) 0)), (14, tu_i ((tu_gp (fun q => tu_co (tu_cb M) (M 7 q).toNat (ON q)) 0).2)), (15, tu_i ((tu_gp (fun q => tu_co (tu_cb M) (M 7 q).toNat (ON q)) 0).1)), (16, tu_i (tu_sm (fun q => M 5 (ON q)) 0)), (17, tu_i 0)]) ⟨rfl, rfl, rfl, rfl, rfl, rfl, rfl, rfl, rfl, rfl, rfl, rfl, tu_ei (by first | rfl | (first | (rw [s1]; done) | (rw [s1]; omega))), tu_ei (by first | rfl | (first | (rw [s2]; done) | (rw [s2]; omega))), tu_ei (by first | rfl | (rw [s3])), tu_ei (by first | rfl | (first | (rw [s3]; done) | (rw [s3]; show _ = (tu_co (tu_cb M) (M 7 k9).toNat (ON k9)); omega))), tu_ei (by first | rfl | (rw [s4])), rfl, trivial⟩ rfl (lp55 ((NB - 0) + 1) 0 Ma (by omega) (by exact ⟨Int.le_refl _, by show (-1 : Int) ≤ 1000000; decide⟩) (by exact hsc) (by omega))
        ·
          refine tu_aload_n 26 X 2 dL_whole_26 rfl ?_
          refine tu_bipush 27 X dL_whole_27 (by decide) ?_
          refine tu_iald 29 X (x := Ma 90 7) 7 dL_whole_29 (by decide) rfl (by decide) rfl (by decide) rfl ?_
          refine tu_tp (b := (M 90 7)) (by rw [hsc 90 (by decide)]) ?_
          refine tu_tp (b := ((NT : Nat) : Int)) (by rw [q4.2.2.2]; exact eT) ?_
          refine tu_if_ne 30 X 36 dL_whole_30 (by decide) (show tu_rg ((NT : Nat) : Int) from by first | assumption | exact ⟨by omega, by omega⟩) (fun br30 => ?_) (fun br30 => ?_)
          ·
            have hNT : e = 0 → 1 ≤ NT := fun q => by omega
            obtain ⟨ON, hON⟩ : ∃ ON : Nat → Nat, ON = fun k => if e = 0 then (M 8 (k % NT)).toNat else e - 1 := ⟨_, rfl⟩
            have hON0 : e = 0 → ∀ k, ON k = (M 8 (k % NT)).toNat := fun q k => by rw [hON]; exact if_pos q
            have hON1 : e ≠ 0 → ∀ k, ON k = e - 1 := fun q k => by rw [hON]; exact if_neg q
            have hONl : ∀ k, ((ON k : Nat) : Int) < M 1 4 := by
              intro k
              by_cases q : e = 0
              · rw [hON0 q k]
                have z := Nat.mod_lt k (hNT q)
                have := hB.tun (k % NT) (by omega)
                omega
              · rw [hON1 q k]; omega
            have hcr : ∀ q, q < NB → 0 ≤ tu_co (tu_cb M) (M 7 q).toNat (ON q) ∧ tu_co (tu_cb M) (M 7 q).toNat (ON q) ≤ 1000000 := by
              intro q hq
              have := hB.bal q (by omega)
              exact tz_co_rg (hR.lp (by omega) (hONl q))
            refine tu_iconst 36 X dL_whole_36 ?_
            refine tu_istore 37 X (lv' := [(12, tu_i 0), (0, tu_r 0), (1, tu_i x), (2, tu_r 90), (3, tu_r 86), (4, tu_r 87), (5, tu_r 88), (6, tu_r 89), (7, tu_r 91), (8, tu_i bs), (9, tu_i fw), (10, tu_i ls), (11, tu_i (((e : Nat) : Int) - 1))]) dL_whole_37 (by rw [hnl]; decide) rfl ?_
            refine tu_iconst 39 X dL_whole_39 ?_
            refine tu_istore 40 X (lv' := [(13, tu_i 0), (12, tu_i 0), (0, tu_r 0), (1, tu_i x), (2, tu_r 90), (3, tu_r 86), (4, tu_r 87), (5, tu_r 88), (6, tu_r 89), (7, tu_r 91), (8, tu_i bs), (9, tu_i fw), (10, tu_i ls), (11, tu_i (((e : Nat) : Int) - 1))]) dL_whole_40 (by rw [hnl]; decide) rfl ?_
            refine tu_bipush 42 X dL_whole_42 (by decide) ?_
            refine tu_istore 44 X (lv' := [(14, tu_i (-6)), (13, tu_i 0), (12, tu_i 0), (0, tu_r 0), (1, tu_i x), (2, tu_r 90), (3, tu_r 86), (4, tu_r 87), (5, tu_r 88), (6, tu_r 89), (7, tu_r 91), (8, tu_i bs), (9, tu_i fw), (10, tu_i ls), (11, tu_i (((e : Nat) : Int) - 1))]) dL_whole_44 (by rw [hnl]; decide) rfl ?_
            refine tu_iconst 46 X dL_whole_46 ?_
            refine tu_istore 47 X (lv' := [(15, tu_i (-1)), (14, tu_i (-6)), (13, tu_i 0), (12, tu_i 0), (0, tu_r 0), (1, tu_i x), (2, tu_r 90), (3, tu_r 86), (4, tu_r 87), (5, tu_r 88), (6, tu_r 89), (7, tu_r 91), (8, tu_i bs), (9, tu_i fw), (10, tu_i ls), (11, tu_i (((e : Nat) : Int) - 1))]) dL_whole_47 (by rw [hnl]; decide) rfl ?_
            refine tu_iconst 49 X dL_whole_49 ?_
            refine tu_istore 50 X (lv' := [(16, tu_i 0), (15, tu_i (-1)), (14, tu_i (-6)), (13, tu_i 0), (12, tu_i 0), (0, tu_r 0), (1, tu_i x), (2, tu_r 90), (3, tu_r 86), (4, tu_r 87), (5, tu_r 88), (6, tu_r 89), (7, tu_r 91), (8, tu_i bs), (9, tu_i fw), (10, tu_i ls), (11, tu_i (((e : Nat) : Int) - 1))]) dL_whole_50 (by rw [hnl]; decide) rfl ?_
            refine tu_iconst 52 X dL_whole_52 ?_
            refine tu_istore 53 X (lv' := [(17, tu_i 0), (16, tu_i 0), (15, tu_i (-1)), (14, tu_i (-6)), (13, tu_i 0), (12, tu_i 0), (0, tu_r 0), (1, tu_i x), (2, tu_r 90), (3, tu_r 86), (4, tu_r 87), (5, tu_r 88), (6, tu_r 89), (7, tu_r 91), (8, tu_i bs), (9, tu_i fw), (10, tu_i ls), (11, tu_i (((e : Nat) : Int) - 1))]) dL_whole_53 (by rw [hnl]; decide) rfl ?_
            have lp55 : ∀ (nq : Nat) (k9 : Nat) (Mb : tu_M), (k9 ≤ NB) → (-1 ≤ (tu_gp (fun q => tu_co (tu_cb M) (M 7 q).toNat (ON q)) k9).1 ∧ (tu_gp (fun q => tu_co (tu_cb M) (M 7 q).toNat (ON q)) k9).1 ≤ 1000000) → (tz_sc M Mb) → NB - k9 < nq → tu_W T 55 [(0, tu_r 0), (1, tu_i x), (2, tu_r 90), (3, tu_r 86), (4, tu_r 87), (5, tu_r 88), (6, tu_r 89), (7, tu_r 91), (8, tu_i bs), (9, tu_i fw), (10, tu_i ls), (11, tu_i (((e : Nat) : Int) - 1)), (12, tu_i (tu_sm (fun q => if tu_co (tu_cb M) (M 7 q).toNat (ON q) < 1000000 then tu_co (tu_cb M) (M 7 q).toNat (ON q) else 0) k9)), (13, tu_i (tu_sm (fun q => if tu_co (tu_cb M) (M 7 q).toNat (ON q) < 1000000 then 0 else 1) k9)), (14, tu_i ((tu_gp (fun q => tu_co (tu_cb M) (M 7 q).toNat (ON q)) k9).2)), (15, tu_i ((tu_gp (fun q => tu_co (tu_cb M) (M 7 q).toNat (ON q)) k9).1)), (16, tu_i (tu_sm (fun q => M 5 (ON q)) k9)), (17, tu_i ((k9 : Nat) : Int))] [] Mb := by
              intro nq
              induction nq with
              | zero => intros; omega
              | succ nq ih55 =>
                intro k9 Mb hk9 hgp hsc hn55
                refine tu_iload 55 X 17 dL_whole_55 rfl ?_
                refine tu_aload_n 57 X 2 dL_whole_57 rfl ?_
                refine tu_bipush 58 X dL_whole_58 (by decide) ?_
                refine tu_iald 60 X (x := Mb 90 6) 6 dL_whole_60 (by decide) rfl (by decide) rfl (by decide) rfl ?_
                refine tu_tp (b := (M 90 6)) (by rw [hsc 90 (by decide)]) ?_
                refine tu_tp (b := ((NB : Nat) : Int)) (by rw [q4.2.2.1]; exact eB) ?_
                refine tu_icmp_ge 61 X 197 dL_whole_61 (by decide) (show tu_rg ((k9 : Nat) : Int) from by first | assumption | exact ⟨by omega, by omega⟩) (show tu_rg ((NB : Nat) : Int) from by first | assumption | exact ⟨by omega, by omega⟩) (fun br61 => ?_) (fun br61 => ?_)
                ·
                  refine tu_jmp [0, 1, 2, 3, 4, 5, 6, 7, 8, 9, 10, 11, 12, 13, 14, 15, 16, 17] (lv' := [(0, tu_r 0), (1, tu_i x), (2, tu_r 90), (3, tu_r 86), (4, tu_r 87), (5, tu_r 88), (6, tu_r 89), (7, tu_r 91), (8, tu_i bs), (9, tu_i fw), (10, tu_i ls), (11, tu_i (((e : Nat) : Int) - 1)), (12, tu_i (tu_sm (fun q => if tu_co (tu_cb M) (M 7 q).toNat (ON q) < 1000000 then tu_co (tu_cb M) (M 7 q).toNat (ON q) else 0) NB)), (13, tu_i (tu_sm (fun q => if tu_co (tu_cb M) (M 7 q).toNat (ON q) < 1000000 then 0 else 1) NB)), (14, tu_i ((tu_gp (fun q => tu_co (tu_cb M) (M 7 q).toNat (ON q)) NB).2)), (15, tu_i ((tu_gp (fun q => tu_co (tu_cb M) (M 7 q).toNat (ON q)) NB).1)), (16, tu_i (tu_sm (fun q => M 5 (ON q)) NB)), (17, tu_i ((k9 : Nat) : Int))]) ⟨rfl, rfl, rfl, rfl, rfl, rfl, rfl, rfl, rfl, rfl, rfl, rfl, tu_ei (by rw [show NB = k9 from by omega]), tu_ei (by rw [show NB = k9 from by omega]), tu_ei (by rw [show NB = k9 from by omega]), tu_ei (by rw [show NB = k9 from by omega]), tu_ei (by rw [show NB = k9 from by omega]), rfl, trivial⟩ rfl ?_
                  have hek : k9 = NB := by omega
                  have hs1 : 0 ≤ tu_sm (fun q => if tu_co (tu_cb M) (M 7 q).toNat (ON q) < 1000000 then tu_co (tu_cb M) (M 7 q).toNat (ON q) else 0) NB ∧ tu_sm (fun q => if tu_co (tu_cb M) (M 7 q).toNat (ON q) < 1000000 then tu_co (tu_cb M) (M 7 q).toNat (ON q) else 0) NB ≤ 1000000 * (NB : Int) := tu_sm_bd (fun q hq => by have := hcr q hq; split <;> omega)
                  have hs2 : 0 ≤ tu_sm (fun q => if tu_co (tu_cb M) (M 7 q).toNat (ON q) < 1000000 then 0 else 1) NB ∧ tu_sm (fun q => if tu_co (tu_cb M) (M 7 q).toNat (ON q) < 1000000 then 0 else 1) NB ≤ 1 * (NB : Int) := tu_sm_bd (fun q hq => by split <;> omega)
                  have hs4 : 0 ≤ tu_sm (fun q => M 5 (ON q)) NB ∧ tu_sm (fun q => M 5 (ON q)) NB ≤ 24 * (NB : Int) := tu_sm_bd (fun q hq => by have := hB.bts _ (hONl q); omega)
                  have hgp2 : ∀ z : Nat, -6 ≤ (tu_gp (fun q => tu_co (tu_cb M) (M 7 q).toNat (ON q)) z).2 ∧ (tu_gp (fun q => tu_co (tu_cb M) (M 7 q).toNat (ON q)) z).2 ≤ z := by
                    intro z
                    induction z with
                    | zero => exact ⟨Int.le_refl _, by show (-6 : Int) ≤ 0; decide⟩
                    | succ z ih =>
                      show -6 ≤ (if _ then (_, (z : Int)) else tu_gp _ z).2 ∧ (if _ then (_, (z : Int)) else tu_gp _ z).2 ≤ ((z + 1 : Nat) : Int)
                      split
                      · show -6 ≤ (z : Int) ∧ (z : Int) ≤ _; omega
                      · omega
                  have hgp3 := hgp2 NB
                  refine tu_iload 197 X 11 dL_whole_197 rfl ?_
                  refine tu_if_ge 199 X 244 dL_whole_199 (by decide) (show tu_rg (((e : Nat) : Int) - 1) from by first | assumption | exact ⟨by omega, by omega⟩) (fun br199 => ?_) (fun br199 => ?_)
                  ·
                    have he1 : e ≠ 0 := by omega
                    have hbal9 : ∀ k, k < NB → 0 ≤ tu_cb M 6 k ∧ tu_cb M 6 k < (NL : Int) := fun k hk => by
                      have := hB.bal k (by omega)
                      exact ⟨this.1, by show M 7 k < _; omega⟩
                    have hU : tu_sm (fun q => if tu_co (tu_cb M) (M 7 q).toNat (ON q) < 1000000 then 0 else 1) NB = tu_uq (tu_cb M) (e - 1) NL := by
                      rw [← tz_uq (N := NB) eB hbal9]
                      exact tz_sm_q (fun q hq => by rw [hON1 he1 q]; rfl)
                    have hSq : tu_sm (fun q => if tu_co (tu_cb M) (M 7 q).toNat (ON q) < 1000000 then tu_co (tu_cb M) (M 7 q).toNat (ON q) else 0) NB = tu_sq2 (tu_cb M) (e - 1) NL := by
                      rw [← tz_sq (N := NB) eB hbal9]
                      exact tz_sm_q (fun q hq => by rw [hON1 he1 q]; rfl)
                    have hUr : (0 ≤ tu_sm (fun q => if tu_co (tu_cb M) (M 7 q).toNat (ON q) < 1000000 then 0 else 1) NB ∧ tu_sm (fun q => if tu_co (tu_cb M) (M 7 q).toNat (ON q) < 1000000 then 0 else 1) NB ≤ 40) ∧ (0 ≤ tu_sm (fun q => if tu_co (tu_cb M) (M 7 q).toNat (ON q) < 1000000 then tu_co (tu_cb M) (M 7 q).toNat (ON q) else 0) NB ∧ tu_sm (fun q => if tu_co (tu_cb M) (M 7 q).toNat (ON q) < 1000000 then tu_co (tu_cb M) (M 7 q).toNat (ON q) else 0) NB ≤ 40000000) := ⟨by omega, by omega⟩
                    refine tu_iload 244 X 8 dL_whole_244 rfl ?_
                    refine tu_if_lt 246 X 273 dL_whole_246 (by decide) (show tu_rg bs from by first | assumption | exact ⟨by omega, by omega⟩) (fun br246 => ?_) (fun br246 => ?_)
                    ·
                      refine tu_iload 273 X 11 dL_whole_273 rfl ?_
                      refine tu_istore 275 X (lv' := [(8, tu_i (((e : Nat) : Int) - 1)), (0, tu_r 0), (1, tu_i x), (2, tu_r 90), (3, tu_r 86), (4, tu_r 87), (5, tu_r 88), (6, tu_r 89), (7, tu_r 91), (9, tu_i fw), (10, tu_i ls), (11, tu_i (((e : Nat) : Int) - 1)), (12, tu_i (tu_sm (fun q => if tu_co (tu_cb M) (M 7 q).toNat (ON q) < 1000000 then tu_co (tu_cb M) (M 7 q).toNat (ON q) else 0) NB)), (13, tu_i (tu_sm (fun q => if tu_co (tu_cb M) (M 7 q).toNat (ON q) < 1000000 then 0 else 1) NB)), (14, tu_i ((tu_gp (fun q => tu_co (tu_cb M) (M 7 q).toNat (ON q)) NB).2)), (15, tu_i ((tu_gp (fun q => tu_co (tu_cb M) (M 7 q).toNat (ON q)) NB).1)), (16, tu_i (tu_sm (fun q => M 5 (ON q)) NB)), (17, tu_i ((k9 : Nat) : Int))]) dL_whole_275 (by rw [hnl]; decide) rfl ?_
                      refine tu_iload 277 X 13 dL_whole_277 rfl ?_
                      refine tu_istore 279 X (lv' := [(9, tu_i (tu_sm (fun q => if tu_co (tu_cb M) (M 7 q).toNat (ON q) < 1000000 then 0 else 1) NB)), (8, tu_i (((e : Nat) : Int) - 1)), (0, tu_r 0), (1, tu_i x), (2, tu_r 90), (3, tu_r 86), (4, tu_r 87), (5, tu_r 88), (6, tu_r 89), (7, tu_r 91), (10, tu_i ls), (11, tu_i (((e : Nat) : Int) - 1)), (12, tu_i (tu_sm (fun q => if tu_co (tu_cb M) (M 7 q).toNat (ON q) < 1000000 then tu_co (tu_cb M) (M 7 q).toNat (ON q) else 0) NB)), (13, tu_i (tu_sm (fun q => if tu_co (tu_cb M) (M 7 q).toNat (ON q) < 1000000 then 0 else 1) NB)), (14, tu_i ((tu_gp (fun q => tu_co (tu_cb M) (M 7 q).toNat (ON q)) NB).2)), (15, tu_i ((tu_gp (fun q => tu_co (tu_cb M) (M 7 q).toNat (ON q)) NB).1)), (16, tu_i (tu_sm (fun q => M 5 (ON q)) NB)), (17, tu_i ((k9 : Nat) : Int))]) dL_whole_279 (by rw [hnl]; decide) rfl ?_
                      refine tu_iload 281 X 12 dL_whole_281 rfl ?_
                      refine tu_istore 283 X (lv' := [(10, tu_i (tu_sm (fun q => if tu_co (tu_cb M) (M 7 q).toNat (ON q) < 1000000 then tu_co (tu_cb M) (M 7 q).toNat (ON q) else 0) NB)), (9, tu_i (tu_sm (fun q => if tu_co (tu_cb M) (M 7 q).toNat (ON q) < 1000000 then 0 else 1) NB)), (8, tu_i (((e : Nat) : Int) - 1)), (0, tu_r 0), (1, tu_i x), (2, tu_r 90), (3, tu_r 86), (4, tu_r 87), (5, tu_r 88), (6, tu_r 89), (7, tu_r 91), (11, tu_i (((e : Nat) : Int) - 1)), (12, tu_i (tu_sm (fun q => if tu_co (tu_cb M) (M 7 q).toNat (ON q) < 1000000 then tu_co (tu_cb M) (M 7 q).toNat (ON q) else 0) NB)), (13, tu_i (tu_sm (fun q => if tu_co (tu_cb M) (M 7 q).toNat (ON q) < 1000000 then 0 else 1) NB)), (14, tu_i ((tu_gp (fun q => tu_co (tu_cb M) (M 7 q).toNat (ON q)) NB).2)), (15, tu_i ((tu_gp (fun q => tu_co (tu_cb M) (M 7 q).toNat (ON q)) NB).1)), (16, tu_i (tu_sm (fun q => M 5 (ON q)) NB)), (17, tu_i ((k9 : Nat) : Int))]) dL_whole_283 (by rw [hnl]; decide) rfl ?_
                      refine tu_iinc 285 X (lv' := [(11, tu_i ((((e : Nat) : Int) - 1) + 1)), (10, tu_i (tu_sm (fun q => if tu_co (tu_cb M) (M 7 q).toNat (ON q) < 1000000 then tu_co (tu_cb M) (M 7 q).toNat (ON q) else 0) NB)), (9, tu_i (tu_sm (fun q => if tu_co (tu_cb M) (M 7 q).toNat (ON q) < 1000000 then 0 else 1) NB)), (8, tu_i (((e : Nat) : Int) - 1)), (0, tu_r 0), (1, tu_i x), (2, tu_r 90), (3, tu_r 86), (4, tu_r 87), (5, tu_r 88), (6, tu_r 89), (7, tu_r 91), (12, tu_i (tu_sm (fun q => if tu_co (tu_cb M) (M 7 q).toNat (ON q) < 1000000 then tu_co (tu_cb M) (M 7 q).toNat (ON q) else 0) NB)), (13, tu_i (tu_sm (fun q => if tu_co (tu_cb M) (M 7 q).toNat (ON q) < 1000000 then 0 else 1) NB)), (14, tu_i ((tu_gp (fun q => tu_co (tu_cb M) (M 7 q).toNat (ON q)) NB).2)), (15, tu_i ((tu_gp (fun q => tu_co (tu_cb M) (M 7 q).toNat (ON q)) NB).1)), (16, tu_i (tu_sm (fun q => M 5 (ON q)) NB)), (17, tu_i ((k9 : Nat) : Int))]) 11 dL_whole_285 rfl (by rw [hnl]; decide) rfl ?_
                      refine tu_goto 288 X 13 dL_whole_288 (by decide) ?_
                      refine tu_jmp [4, 5, 6, 7, 8, 9, 10, 11, 3, 2, 1, 0] (lv' := [(0, tu_r 0), (1, tu_i x), (2, tu_r 90), (3, tu_r 86), (4, tu_r 87), (5, tu_r 88), (6, tu_r 89), (7, tu_r 91), (8, tu_i (((e : Nat) : Int) - 1)), (9, tu_i (tu_sm (fun q => if tu_co (tu_cb M) (M 7 q).toNat (ON q) < 1000000 then 0 else 1) NB)), (10, tu_i (tu_sm (fun q => if tu_co (tu_cb M) (M 7 q).toNat (ON q) < 1000000 then tu_co (tu_cb M) (M 7 q).toNat (ON q) else 0) NB)), (11, tu_i ((((e + 1) : Nat) : Int) - 1))]) ⟨rfl, rfl, rfl, rfl, rfl, rfl, rfl, rfl, rfl, rfl, rfl, tu_ei (by first | rfl | (omega)), trivial⟩ rfl (ih13 (e + 1) (((e : Nat) : Int) - 1) (tu_sm (fun q => if tu_co (tu_cb M) (M 7 q).toNat (ON q) < 1000000 then 0 else 1) NB) (tu_sm (fun q => if tu_co (tu_cb M) (M 7 q).toNat (ON q) < 1000000 then tu_co (tu_cb M) (M 7 q).toNat (ON q) else 0) NB) Mb (by omega) (by first | exact tz_b9_1 hb9 (by omega) | exact tz_b9_hit hb9 (by omega) hU hSq hUr (by omega) (by omega) | exact tz_b9_miss hb9 (by omega) hU hSq (by omega) (by omega)) (by exact hsc) (by omega))
                    ·
                      refine tu_iload 249 X 13 dL_whole_249 rfl ?_
                      refine tu_iload 251 X 9 dL_whole_251 rfl ?_
                      refine tu_icmp_gt 253 X 285 dL_whole_253 (by decide) (show tu_rg (tu_sm (fun q => if tu_co (tu_cb M) (M 7 q).toNat (ON q) < 1000000 then 0 else 1) NB) from by first | assumption | exact ⟨by omega, by omega⟩) (show tu_rg fw from by first | assumption | exact ⟨by omega, by omega⟩) (fun br253 => ?_) (fun br253 => ?_)
                      ·
                        refine tu_iinc 285 X (lv' := [(11, tu_i ((((e : Nat) : Int) - 1) + 1)), (0, tu_r 0), (1, tu_i x), (2, tu_r 90), (3, tu_r 86), (4, tu_r 87), (5, tu_r 88), (6, tu_r 89), (7, tu_r 91), (8, tu_i bs), (9, tu_i fw), (10, tu_i ls), (12, tu_i (tu_sm (fun q => if tu_co (tu_cb M) (M 7 q).toNat (ON q) < 1000000 then tu_co (tu_cb M) (M 7 q).toNat (ON q) else 0) NB)), (13, tu_i (tu_sm (fun q => if tu_co (tu_cb M) (M 7 q).toNat (ON q) < 1000000 then 0 else 1) NB)), (14, tu_i ((tu_gp (fun q => tu_co (tu_cb M) (M 7 q).toNat (ON q)) NB).2)), (15, tu_i ((tu_gp (fun q => tu_co (tu_cb M) (M 7 q).toNat (ON q)) NB).1)), (16, tu_i (tu_sm (fun q => M 5 (ON q)) NB)), (17, tu_i ((k9 : Nat) : Int))]) 11 dL_whole_285 rfl (by rw [hnl]; decide) rfl ?_
                        refine tu_goto 288 X 13 dL_whole_288 (by decide) ?_
                        refine tu_jmp [1, 2, 3, 4, 5, 6, 7, 8, 9, 10, 11, 0] (lv' := [(0, tu_r 0), (1, tu_i x), (2, tu_r 90), (3, tu_r 86), (4, tu_r 87), (5, tu_r 88), (6, tu_r 89), (7, tu_r 91), (8, tu_i bs), (9, tu_i fw), (10, tu_i ls), (11, tu_i ((((e + 1) : Nat) : Int) - 1))]) ⟨rfl, rfl, rfl, rfl, rfl, rfl, rfl, rfl, rfl, rfl, rfl, tu_ei (by first | rfl | (omega)), trivial⟩ rfl (ih13 (e + 1) bs fw ls Mb (by omega) (by first | exact tz_b9_1 hb9 (by omega) | exact tz_b9_hit hb9 (by omega) hU hSq hUr (by omega) (by omega) | exact tz_b9_miss hb9 (by omega) hU hSq (by omega) (by omega)) (by exact hsc) (by omega))
                      ·
                        refine tu_iload 256 X 13 dL_whole_256 rfl ?_
                        refine tu_iload 258 X 9 dL_whole_258 rfl ?_
                        refine tu_icmp_ne 260 X 273 dL_whole_260 (by decide) (show tu_rg (tu_sm (fun q => if tu_co (tu_cb M) (M 7 q).toNat (ON q) < 1000000 then 0 else 1) NB) from by first | assumption | exact ⟨by omega, by omega⟩) (show tu_rg fw from by first | assumption | exact ⟨by omega, by omega⟩) (fun br260 => ?_) (fun br260 => ?_)
                        ·
                          refine tu_iload 273 X 11 dL_whole_273 rfl ?_
                          refine tu_istore 275 X (lv' := [(8, tu_i (((e : Nat) : Int) - 1)), (0, tu_r 0), (1, tu_i x), (2, tu_r 90), (3, tu_r 86), (4, tu_r 87), (5, tu_r 88), (6, tu_r 89), (7, tu_r 91), (9, tu_i fw), (10, tu_i ls), (11, tu_i (((e : Nat) : Int) - 1)), (12, tu_i (tu_sm (fun q => if tu_co (tu_cb M) (M 7 q).toNat (ON q) < 1000000 then tu_co (tu_cb M) (M 7 q).toNat (ON q) else 0) NB)), (13, tu_i (tu_sm (fun q => if tu_co (tu_cb M) (M 7 q).toNat (ON q) < 1000000 then 0 else 1) NB)), (14, tu_i ((tu_gp (fun q => tu_co (tu_cb M) (M 7 q).toNat (ON q)) NB).2)), (15, tu_i ((tu_gp (fun q => tu_co (tu_cb M) (M 7 q).toNat (ON q)) NB).1)), (16, tu_i (tu_sm (fun q => M 5 (ON q)) NB)), (17, tu_i ((k9 : Nat) : Int))]) dL_whole_275 (by rw [hnl]; decide) rfl ?_
                          refine tu_iload 277 X 13 dL_whole_277 rfl ?_
                          refine tu_istore 279 X (lv' := [(9, tu_i (tu_sm (fun q => if tu_co (tu_cb M) (M 7 q).toNat (ON q) < 1000000 then 0 else 1) NB)), (8, tu_i (((e : Nat) : Int) - 1)), (0, tu_r 0), (1, tu_i x), (2, tu_r 90), (3, tu_r 86), (4, tu_r 87), (5, tu_r 88), (6, tu_r 89), (7, tu_r 91), (10, tu_i ls), (11, tu_i (((e : Nat) : Int) - 1)), (12, tu_i (tu_sm (fun q => if tu_co (tu_cb M) (M 7 q).toNat (ON q) < 1000000 then tu_co (tu_cb M) (M 7 q).toNat (ON q) else 0) NB)), (13, tu_i (tu_sm (fun q => if tu_co (tu_cb M) (M 7 q).toNat (ON q) < 1000000 then 0 else 1) NB)), (14, tu_i ((tu_gp (fun q => tu_co (tu_cb M) (M 7 q).toNat (ON q)) NB).2)), (15, tu_i ((tu_gp (fun q => tu_co (tu_cb M) (M 7 q).toNat (ON q)) NB).1)), (16, tu_i (tu_sm (fun q => M 5 (ON q)) NB)), (17, tu_i ((k9 : Nat) : Int))]) dL_whole_279 (by rw [hnl]; decide) rfl ?_
                          refine tu_iload 281 X 12 dL_whole_281 rfl ?_
                          refine tu_istore 283 X (lv' := [(10, tu_i (tu_sm (fun q => if tu_co (tu_cb M) (M 7 q).toNat (ON q) < 1000000 then tu_co (tu_cb M) (M 7 q).toNat (ON q) else 0) NB)), (9, tu_i (tu_sm (fun q => if tu_co (tu_cb M) (M 7 q).toNat (ON q) < 1000000 then 0 else 1) NB)), (8, tu_i (((e : Nat) : Int) - 1)), (0, tu_r 0), (1, tu_i x), (2, tu_r 90), (3, tu_r 86), (4, tu_r 87), (5, tu_r 88), (6, tu_r 89), (7, tu_r 91), (11, tu_i (((e : Nat) : Int) - 1)), (12, tu_i (tu_sm (fun q => if tu_co (tu_cb M) (M 7 q).toNat (ON q) < 1000000 then tu_co (tu_cb M) (M 7 q).toNat (ON q) else 0) NB)), (13, tu_i (tu_sm (fun q => if tu_co (tu_cb M) (M 7 q).toNat (ON q) < 1000000 then 0 else 1) NB)), (14, tu_i ((tu_gp (fun q => tu_co (tu_cb M) (M 7 q).toNat (ON q)) NB).2)), (15, tu_i ((tu_gp (fun q => tu_co (tu_cb M) (M 7 q).toNat (ON q)) NB).1)), (16, tu_i (tu_sm (fun q => M 5 (ON q)) NB)), (17, tu_i ((k9 : Nat) : Int))]) dL_whole_283 (by rw [hnl]; decide) rfl ?_
                          refine tu_iinc 285 X (lv' := [(11, tu_i ((((e : Nat) : Int) - 1) + 1)), (10, tu_i (tu_sm (fun q => if tu_co (tu_cb M) (M 7 q).toNat (ON q) < 1000000 then tu_co (tu_cb M) (M 7 q).toNat (ON q) else 0) NB)), (9, tu_i (tu_sm (fun q => if tu_co (tu_cb M) (M 7 q).toNat (ON q) < 1000000 then 0 else 1) NB)), (8, tu_i (((e : Nat) : Int) - 1)), (0, tu_r 0), (1, tu_i x), (2, tu_r 90), (3, tu_r 86), (4, tu_r 87), (5, tu_r 88), (6, tu_r 89), (7, tu_r 91), (12, tu_i (tu_sm (fun q => if tu_co (tu_cb M) (M 7 q).toNat (ON q) < 1000000 then tu_co (tu_cb M) (M 7 q).toNat (ON q) else 0) NB)), (13, tu_i (tu_sm (fun q => if tu_co (tu_cb M) (M 7 q).toNat (ON q) < 1000000 then 0 else 1) NB)), (14, tu_i ((tu_gp (fun q => tu_co (tu_cb M) (M 7 q).toNat (ON q)) NB).2)), (15, tu_i ((tu_gp (fun q => tu_co (tu_cb M) (M 7 q).toNat (ON q)) NB).1)), (16, tu_i (tu_sm (fun q => M 5 (ON q)) NB)), (17, tu_i ((k9 : Nat) : Int))]) 11 dL_whole_285 rfl (by rw [hnl]; decide) rfl ?_
                          refine tu_goto 288 X 13 dL_whole_288 (by decide) ?_
                          refine tu_jmp [4, 5, 6, 7, 8, 9, 10, 11, 3, 2, 1, 0] (lv' := [(0, tu_r 0), (1, tu_i x), (2, tu_r 90), (3, tu_r 86), (4, tu_r 87), (5, tu_r 88), (6, tu_r 89), (7, tu_r 91), (8, tu_i (((e : Nat) : Int) - 1)), (9, tu_i (tu_sm (fun q => if tu_co (tu_cb M) (M 7 q).toNat (ON q) < 1000000 then 0 else 1) NB)), (10, tu_i (tu_sm (fun q => if tu_co (tu_cb M) (M 7 q).toNat (ON q) < 1000000 then tu_co (tu_cb M) (M 7 q).toNat (ON q) else 0) NB)), (11, tu_i ((((e + 1) : Nat) : Int) - 1))]) ⟨rfl, rfl, rfl, rfl, rfl, rfl, rfl, rfl, rfl, rfl, rfl, tu_ei (by first | rfl | (omega)), trivial⟩ rfl (ih13 (e + 1) (((e : Nat) : Int) - 1) (tu_sm (fun q => if tu_co (tu_cb M) (M 7 q).toNat (ON q) < 1000000 then 0 else 1) NB) (tu_sm (fun q => if tu_co (tu_cb M) (M 7 q).toNat (ON q) < 1000000 then tu_co (tu_cb M) (M 7 q).toNat (ON q) else 0) NB) Mb (by omega) (by first | exact tz_b9_1 hb9 (by omega) | exact tz_b9_hit hb9 (by omega) hU hSq hUr (by omega) (by omega) | exact tz_b9_miss hb9 (by omega) hU hSq (by omega) (by omega)) (by exact hsc) (by omega))
                        ·
                          refine tu_iload 263 X 12 dL_whole_263 rfl ?_
                          refine tu_iload 265 X 10 dL_whole_265 rfl ?_
                          refine tu_icmp_lt 267 X 273 dL_whole_267 (by decide) (show tu_rg (tu_sm (fun q => if tu_co (tu_cb M) (M 7 q).toNat (ON q) < 1000000 then tu_co (tu_cb M) (M 7 q).toNat (ON q) else 0) NB) from by first | assumption | exact ⟨by omega, by omega⟩) (show tu_rg ls from by first | assumption | exact ⟨by omega, by omega⟩) (fun br267 => ?_) (fun br267 => ?_)
                          ·
                            refine tu_iload 273 X 11 dL_whole_273 rfl ?_
                            refine tu_istore 275 X (lv' := [(8, tu_i (((e : Nat) : Int) - 1)), (0, tu_r 0), (1, tu_i x), (2, tu_r 90), (3, tu_r 86), (4, tu_r 87), (5, tu_r 88), (6, tu_r 89), (7, tu_r 91), (9, tu_i fw), (10, tu_i ls), (11, tu_i (((e : Nat) : Int) - 1)), (12, tu_i (tu_sm (fun q => if tu_co (tu_cb M) (M 7 q).toNat (ON q) < 1000000 then tu_co (tu_cb M) (M 7 q).toNat (ON q) else 0) NB)), (13, tu_i (tu_sm (fun q => if tu_co (tu_cb M) (M 7 q).toNat (ON q) < 1000000 then 0 else 1) NB)), (14, tu_i ((tu_gp (fun q => tu_co (tu_cb M) (M 7 q).toNat (ON q)) NB).2)), (15, tu_i ((tu_gp (fun q => tu_co (tu_cb M) (M 7 q).toNat (ON q)) NB).1)), (16, tu_i (tu_sm (fun q => M 5 (ON q)) NB)), (17, tu_i ((k9 : Nat) : Int))]) dL_whole_275 (by rw [hnl]; decide) rfl ?_
                            refine tu_iload 277 X 13 dL_whole_277 rfl ?_
                            refine tu_istore 279 X (lv' := [(9, tu_i (tu_sm (fun q => if tu_co (tu_cb M) (M 7 q).toNat (ON q) < 1000000 then 0 else 1) NB)), (8, tu_i (((e : Nat) : Int) - 1)), (0, tu_r 0), (1, tu_i x), (2, tu_r 90), (3, tu_r 86), (4, tu_r 87), (5, tu_r 88), (6, tu_r 89), (7, tu_r 91), (10, tu_i ls), (11, tu_i (((e : Nat) : Int) - 1)), (12, tu_i (tu_sm (fun q => if tu_co (tu_cb M) (M 7 q).toNat (ON q) < 1000000 then tu_co (tu_cb M) (M 7 q).toNat (ON q) else 0) NB)), (13, tu_i (tu_sm (fun q => if tu_co (tu_cb M) (M 7 q).toNat (ON q) < 1000000 then 0 else 1) NB)), (14, tu_i ((tu_gp (fun q => tu_co (tu_cb M) (M 7 q).toNat (ON q)) NB).2)), (15, tu_i ((tu_gp (fun q => tu_co (tu_cb M) (M 7 q).toNat (ON q)) NB).1)), (16, tu_i (tu_sm (fun q => M 5 (ON q)) NB)), (17, tu_i ((k9 : Nat) : Int))]) dL_whole_279 (by rw [hnl]; decide) rfl ?_
                            refine tu_iload 281 X 12 dL_whole_281 rfl ?_
                            refine tu_istore 283 X (lv' := [(10, tu_i (tu_sm (fun q => if tu_co (tu_cb M) (M 7 q).toNat (ON q) < 1000000 then tu_co (tu_cb M) (M 7 q).toNat (ON q) else 0) NB)), (9, tu_i (tu_sm (fun q => if tu_co (tu_cb M) (M 7 q).toNat (ON q) < 1000000 then 0 else 1) NB)), (8, tu_i (((e : Nat) : Int) - 1)), (0, tu_r 0), (1, tu_i x), (2, tu_r 90), (3, tu_r 86), (4, tu_r 87), (5, tu_r 88), (6, tu_r 89), (7, tu_r 91), (11, tu_i (((e : Nat) : Int) - 1)), (12, tu_i (tu_sm (fun q => if tu_co (tu_cb M) (M 7 q).toNat (ON q) < 1000000 then tu_co (tu_cb M) (M 7 q).toNat (ON q) else 0) NB)), (13, tu_i (tu_sm (fun q => if tu_co (tu_cb M) (M 7 q).toNat (ON q) < 1000000 then 0 else 1) NB)), (14, tu_i ((tu_gp (fun q => tu_co (tu_cb M) (M 7 q).toNat (ON q)) NB).2)), (15, tu_i ((tu_gp (fun q => tu_co (tu_cb M) (M 7 q).toNat (ON q)) NB).1)), (16, tu_i (tu_sm (fun q => M 5 (ON q)) NB)), (17, tu_i ((k9 : Nat) : Int))]) dL_whole_283 (by rw [hnl]; decide) rfl ?_
                            refine tu_iinc 285 X (lv' := [(11, tu_i ((((e : Nat) : Int) - 1) + 1)), (10, tu_i (tu_sm (fun q => if tu_co (tu_cb M) (M 7 q).toNat (ON q) < 1000000 then tu_co (tu_cb M) (M 7 q).toNat (ON q) else 0) NB)), (9, tu_i (tu_sm (fun q => if tu_co (tu_cb M) (M 7 q).toNat (ON q) < 1000000 then 0 else 1) NB)), (8, tu_i (((e : Nat) : Int) - 1)), (0, tu_r 0), (1, tu_i x), (2, tu_r 90), (3, tu_r 86), (4, tu_r 87), (5, tu_r 88), (6, tu_r 89), (7, tu_r 91), (12, tu_i (tu_sm (fun q => if tu_co (tu_cb M) (M 7 q).toNat (ON q) < 1000000 then tu_co (tu_cb M) (M 7 q).toNat (ON q) else 0) NB)), (13, tu_i (tu_sm (fun q => if tu_co (tu_cb M) (M 7 q).toNat (ON q) < 1000000 then 0 else 1) NB)), (14, tu_i ((tu_gp (fun q => tu_co (tu_cb M) (M 7 q).toNat (ON q)) NB).2)), (15, tu_i ((tu_gp (fun q => tu_co (tu_cb M) (M 7 q).toNat (ON q)) NB).1)), (16, tu_i (tu_sm (fun q => M 5 (ON q)) NB)), (17, tu_i ((k9 : Nat) : Int))]) 11 dL_whole_285 rfl (by rw [hnl]; decide) rfl ?_
                            refine tu_goto 288 X 13 dL_whole_288 (by decide) ?_
                            refine tu_jmp [4, 5, 6, 7, 8, 9, 10, 11, 3, 2, 1, 0] (lv' := [(0, tu_r 0), (1, tu_i x), (2, tu_r 90), (3, tu_r 86), (4, tu_r 87), (5, tu_r 88), (6, tu_r 89), (7, tu_r 91), (8, tu_i (((e : Nat) : Int) - 1)), (9, tu_i (tu_sm (fun q => if tu_co (tu_cb M) (M 7 q).toNat (ON q) < 1000000 then 0 else 1) NB)), (10, tu_i (tu_sm (fun q => if tu_co (tu_cb M) (M 7 q).toNat (ON q) < 1000000 then tu_co (tu_cb M) (M 7 q).toNat (ON q) else 0) NB)), (11, tu_i ((((e + 1) : Nat) : Int) - 1))]) ⟨rfl, rfl, rfl, rfl, rfl, rfl, rfl, rfl, rfl, rfl, rfl, tu_ei (by first | rfl | (omega)), trivial⟩ rfl (ih13 (e + 1) (((e : Nat) : Int) - 1) (tu_sm (fun q => if tu_co (tu_cb M) (M 7 q).toNat (ON q) < 1000000 then 0 else 1) NB) (tu_sm (fun q => if tu_co (tu_cb M) (M 7 q).toNat (ON q) < 1000000 then tu_co (tu_cb M) (M 7 q).toNat (ON q) else 0) NB) Mb (by omega) (by first | exact tz_b9_1 hb9 (by omega) | exact tz_b9_hit hb9 (by omega) hU hSq hUr (by omega) (by omega) | exact tz_b9_miss hb9 (by omega) hU hSq (by omega) (by omega)) (by exact hsc) (by omega))
                          ·
                            refine tu_goto 270 X 285 dL_whole_270 (by decide) ?_
                            refine tu_iinc 285 X (lv' := [(11, tu_i ((((e : Nat) : Int) - 1) + 1)), (0, tu_r 0), (1, tu_i x), (2, tu_r 90), (3, tu_r 86), (4, tu_r 87), (5, tu_r 88), (6, tu_r 89), (7, tu_r 91), (8, tu_i bs), (9, tu_i fw), (10, tu_i ls), (12, tu_i (tu_sm (fun q => if tu_co (tu_cb M) (M 7 q).toNat (ON q) < 1000000 then tu_co (tu_cb M) (M 7 q).toNat (ON q) else 0) NB)), (13, tu_i (tu_sm (fun q => if tu_co (tu_cb M) (M 7 q).toNat (ON q) < 1000000 then 0 else 1) NB)), (14, tu_i ((tu_gp (fun q => tu_co (tu_cb M) (M 7 q).toNat (ON q)) NB).2)), (15, tu_i ((tu_gp (fun q => tu_co (tu_cb M) (M 7 q).toNat (ON q)) NB).1)), (16, tu_i (tu_sm (fun q => M 5 (ON q)) NB)), (17, tu_i ((k9 : Nat) : Int))]) 11 dL_whole_285 rfl (by rw [hnl]; decide) rfl ?_
                            refine tu_goto 288 X 13 dL_whole_288 (by decide) ?_
                            refine tu_jmp [1, 2, 3, 4, 5, 6, 7, 8, 9, 10, 11, 0] (lv' := [(0, tu_r 0), (1, tu_i x), (2, tu_r 90), (3, tu_r 86), (4, tu_r 87), (5, tu_r 88), (6, tu_r 89), (7, tu_r 91), (8, tu_i bs), (9, tu_i fw), (10, tu_i ls), (11, tu_i ((((e + 1) : Nat) : Int) - 1))]) ⟨rfl, rfl, rfl, rfl, rfl, rfl, rfl, rfl, rfl, rfl, rfl, tu_ei (by first | rfl | (omega)), trivial⟩ rfl (ih13 (e + 1) bs fw ls Mb (by omega) (by first | exact tz_b9_1 hb9 (by omega) | exact tz_b9_hit hb9 (by omega) hU hSq hUr (by omega) (by omega) | exact tz_b9_miss hb9 (by omega) hU hSq (by omega) (by omega)) (by exact hsc) (by omega))
                  ·
                    have he0 : e = 0 := by omega
                    have hNT1 := hNT he0
                    have hwk : (fun x9 => tu_wk (tu_cb M) x9) = (fun q => tu_co (tu_cb M) (M 7 q).toNat (ON q)) := by
                      funext q
                      rw [hON0 he0 q, show NT = (M 1 9).toNat by omega]
                      rfl
                    have eNB : (M 1 7).toNat = NB := by omega
                    have w1 : tu_sm (fun x9 => if tu_wk (tu_cb M) x9 < 1000000 then tu_wk (tu_cb M) x9 else 0) (M 1 7).toNat = tu_sm (fun q => if tu_co (tu_cb M) (M 7 q).toNat (ON q) < 1000000 then tu_co (tu_cb M) (M 7 q).toNat (ON q) else 0) NB := by
                      rw [eNB]
                      exact congrArg (fun (f : Nat → Int) => tu_sm (fun x9 => if f x9 < 1000000 then f x9 else 0) NB) hwk
                    have w2 : tu_sm (fun x9 => if tu_wk (tu_cb M) x9 < 1000000 then 0 else 1) (M 1 7).toNat = tu_sm (fun q => if tu_co (tu_cb M) (M 7 q).toNat (ON q) < 1000000 then 0 else 1) NB := by
                      rw [eNB]
                      exact congrArg (fun (f : Nat → Int) => tu_sm (fun x9 => if f x9 < 1000000 then 0 else 1) NB) hwk
                    have w3 : tu_gp (fun x9 => tu_wk (tu_cb M) x9) (M 1 7).toNat = tu_gp (fun q => tu_co (tu_cb M) (M 7 q).toNat (ON q)) NB := by rw [eNB, hwk]
                    have w4 : tu_sm (fun x9 => M 5 (M 8 (x9 % (M 1 9).toNat)).toNat) (M 1 7).toNat = tu_sm (fun q => M 5 (ON q)) NB := by
                      rw [eNB]
                      exact tz_sm_q (fun q hq => by rw [hON0 he0 q, show NT = (M 1 9).toNat by omega])
                    refine tu_aload_n 202 X 0 dL_whole_202 rfl ?_
                    refine tu_iconst 203 X dL_whole_203 ?_
                    refine tu_callVI 204 X (st := []) (as := [tu_i 0]) (c_X3_whole 0 (show tu_OK Mb from by exact tz_OK hsc hR.ok) (show tu_rg 0 from by first | assumption | omega | exact ⟨by omega, by omega⟩ | decide)) sv_RL_54 dL_whole_204 rfl (by decide) rfl rfl rfl (Nat.le_of_ble_eq_true rfl) ⟨by decide, by decide⟩ (fun z N204 h => ?_)
                    obtain ⟨y_204, h204_0, h204_1, hz204⟩ := h
                    refine tu_tp (b := y_204) hz204 ?_
                    have a204 := tz_q_whole hsc h204_1
                    simp only [Int.toNat_natCast] at a204
                    have b204 : y_204 = tu_sm (fun q => if tu_co (tu_cb M) (M 7 q).toNat (ON q) < 1000000 then tu_co (tu_cb M) (M 7 q).toNat (ON q) else 0) NB := by
                      omega
                    have hsc : tz_sc M N204 := hsc.sc h204_0
                    refine tu_iload 207 X 12 dL_whole_207 rfl ?_
                    refine tu_icmp_ne 209 X 242 dL_whole_209 (by decide) (show tu_rg y_204 from by first | assumption | exact ⟨by omega, by omega⟩) (show tu_rg (tu_sm (fun q => if tu_co (tu_cb M) (M 7 q).toNat (ON q) < 1000000 then tu_co (tu_cb M) (M 7 q).toNat (ON q) else 0) NB) from by first | assumption | exact ⟨by omega, by omega⟩) (fun br209 => ?_) (fun br209 => ?_)
                    ·
                      exfalso; omega
                    ·
                      refine tu_aload_n 212 X 0 dL_whole_212 rfl ?_
                      refine tu_iconst 213 X dL_whole_213 ?_
                      refine tu_callVI 214 X (st := []) (as := [tu_i 1]) (c_X3_whole 1 (show tu_OK N204 from by exact tz_OK hsc hR.ok) (show tu_rg 1 from by first | assumption | omega | exact ⟨by omega, by omega⟩ | decide)) sv_RL_54 dL_whole_214 rfl (by decide) rfl rfl rfl (Nat.le_of_ble_eq_true rfl) ⟨by decide, by decide⟩ (fun z N214 h => ?_)
                      obtain ⟨y_214, h214_0, h214_1, hz214⟩ := h
                      refine tu_tp (b := y_214) hz214 ?_
                      have a214 := tz_q_whole hsc h214_1
                      simp only [Int.toNat_natCast] at a214
                      have b214 : y_214 = tu_sm (fun q => if tu_co (tu_cb M) (M 7 q).toNat (ON q) < 1000000 then 0 else 1) NB := by
                        omega
                      have hsc : tz_sc M N214 := hsc.sc h214_0
                      refine tu_iload 217 X 13 dL_whole_217 rfl ?_
                      refine tu_icmp_ne 219 X 242 dL_whole_219 (by decide) (show tu_rg y_214 from by first | assumption | exact ⟨by omega, by omega⟩) (show tu_rg (tu_sm (fun q => if tu_co (tu_cb M) (M 7 q).toNat (ON q) < 1000000 then 0 else 1) NB) from by first | assumption | exact ⟨by omega, by omega⟩) (fun br219 => ?_) (fun br219 => ?_)
                      ·
                        exfalso; omega
                      ·
                        refine tu_aload_n 222 X 0 dL_whole_222 rfl ?_
                        refine tu_iconst 223 X dL_whole_223 ?_
                        refine tu_callVI 224 X (st := []) (as := [tu_i 2]) (c_X3_whole 2 (show tu_OK N214 from by exact tz_OK hsc hR.ok) (show tu_rg 2 from by first | assumption | omega | exact ⟨by omega, by omega⟩ | decide)) sv_RL_54 dL_whole_224 rfl (by decide) rfl rfl rfl (Nat.le_of_ble_eq_true rfl) ⟨by decide, by decide⟩ (fun z N224 h => ?_)
                        obtain ⟨y_224, h224_0, h224_1, hz224⟩ := h
                        refine tu_tp (b := y_224) hz224 ?_
                        have a224 := tz_q_whole hsc h224_1
                        simp only [Int.toNat_natCast] at a224
                        have b224 : y_224 = (tu_gp (fun q => tu_co (tu_cb M) (M 7 q).toNat (ON q)) NB).2 := by
                          rw [w3] at a224
                          omega
                        have hsc : tz_sc M N224 := hsc.sc h224_0
                        refine tu_iload 227 X 14 dL_whole_227 rfl ?_
                        refine tu_icmp_ne 229 X 242 dL_whole_229 (by decide) (show tu_rg y_224 from by first | assumption | exact ⟨by omega, by omega⟩) (show tu_rg ((tu_gp (fun q => tu_co (tu_cb M) (M 7 q).toNat (ON q)) NB).2) from by first | assumption | exact ⟨by omega, by omega⟩) (fun br229 => ?_) (fun br229 => ?_)
                        ·
                          exfalso; omega
                        ·
                          refine tu_aload_n 232 X 0 dL_whole_232 rfl ?_
                          refine tu_iconst 233 X dL_whole_233 ?_
                          refine tu_callVI 234 X (st := []) (as := [tu_i 3]) (c_X3_whole 3 (show tu_OK N224 from by exact tz_OK hsc hR.ok) (show tu_rg 3 from by first | assumption | omega | exact ⟨by omega, by omega⟩ | decide)) sv_RL_54 dL_whole_234 rfl (by decide) rfl rfl rfl (Nat.le_of_ble_eq_true rfl) ⟨by decide, by decide⟩ (fun z N234 h => ?_)
                          obtain ⟨y_234, h234_0, h234_1, hz234⟩ := h
                          refine tu_tp (b := y_234) hz234 ?_
                          have a234 := tz_q_whole hsc h234_1
                          simp only [Int.toNat_natCast] at a234
                          have b234 : y_234 = tu_sm (fun q => M 5 (ON q)) NB := by
                            omega
                          have hsc : tz_sc M N234 := hsc.sc h234_0
                          refine tu_iload 237 X 16 dL_whole_237 rfl ?_
                          refine tu_icmp_eq 239 X 285 dL_whole_239 (by decide) (show tu_rg y_234 from by first | assumption | exact ⟨by omega, by omega⟩) (show tu_rg (tu_sm (fun q => M 5 (ON q)) NB) from by first | assumption | exact ⟨by omega, by omega⟩) (fun br239 => ?_) (fun br239 => ?_)
                          ·
                            refine tu_iinc 285 X (lv' := [(11, tu_i ((((e : Nat) : Int) - 1) + 1)), (0, tu_r 0), (1, tu_i x), (2, tu_r 90), (3, tu_r 86), (4, tu_r 87), (5, tu_r 88), (6, tu_r 89), (7, tu_r 91), (8, tu_i bs), (9, tu_i fw), (10, tu_i ls), (12, tu_i (tu_sm (fun q => if tu_co (tu_cb M) (M 7 q).toNat (ON q) < 1000000 then tu_co (tu_cb M) (M 7 q).toNat (ON q) else 0) NB)), (13, tu_i (tu_sm (fun q => if tu_co (tu_cb M) (M 7 q).toNat (ON q) < 1000000 then 0 else 1) NB)), (14, tu_i ((tu_gp (fun q => tu_co (tu_cb M) (M 7 q).toNat (ON q)) NB).2)), (15, tu_i ((tu_gp (fun q => tu_co (tu_cb M) (M 7 q).toNat (ON q)) NB).1)), (16, tu_i (tu_sm (fun q => M 5 (ON q)) NB)), (17, tu_i ((k9 : Nat) : Int))]) 11 dL_whole_285 rfl (by rw [hnl]; decide) rfl ?_
                            refine tu_goto 288 X 13 dL_whole_288 (by decide) ?_
                            refine tu_jmp [1, 2, 3, 4, 5, 6, 7, 8, 9, 10, 11, 0] (lv' := [(0, tu_r 0), (1, tu_i x), (2, tu_r 90), (3, tu_r 86), (4, tu_r 87), (5, tu_r 88), (6, tu_r 89), (7, tu_r 91), (8, tu_i bs), (9, tu_i fw), (10, tu_i ls), (11, tu_i ((((e + 1) : Nat) : Int) - 1))]) ⟨rfl, rfl, rfl, rfl, rfl, rfl, rfl, rfl, rfl, rfl, rfl, tu_ei (by first | rfl | (omega)), trivial⟩ rfl (ih13 (e + 1) bs fw ls N234 (by omega) (by first | exact tz_b9_1 hb9 (by omega) | exact tz_b9_hit hb9 (by omega) hU hSq hUr (by omega) (by omega) | exact tz_b9_miss hb9 (by omega) hU hSq (by omega) (by omega)) (by exact hsc) (by omega))
                          ·
                            exfalso; omega
                ·
                  have hbl := hB.bal k9 (by omega)
                  have hlM : (((M 7 k9).toNat : Nat) : Int) < M 1 1 := by omega
                  have hpM := hONl k9
                  have hnl9 := hR.nl hlM
                  have hnp9 := hR.np hpM
                  have hli := hR.li _ hlM
                  have hph := hR.ph _ hpM
                  have hok := hR.lp hlM hpM
                  have hc9 := hcr k9 (by omega)
                  have s1 : tu_sm (fun q => if tu_co (tu_cb M) (M 7 q).toNat (ON q) < 1000000 then tu_co (tu_cb M) (M 7 q).toNat (ON q) else 0) (k9 + 1) = tu_sm (fun q => if tu_co (tu_cb M) (M 7 q).toNat (ON q) < 1000000 then tu_co (tu_cb M) (M 7 q).toNat (ON q) else 0) k9 + (if (tu_co (tu_cb M) (M 7 k9).toNat (ON k9)) < 1000000 then (tu_co (tu_cb M) (M 7 k9).toNat (ON k9)) else 0) := rfl
                  have s2 : tu_sm (fun q => if tu_co (tu_cb M) (M 7 q).toNat (ON q) < 1000000 then 0 else 1) (k9 + 1) = tu_sm (fun q => if tu_co (tu_cb M) (M 7 q).toNat (ON q) < 1000000 then 0 else 1) k9 + (if (tu_co (tu_cb M) (M 7 k9).toNat (ON k9)) < 1000000 then 0 else 1) := rfl
                  have s3 : tu_gp (fun q => tu_co (tu_cb M) (M 7 q).toNat (ON q)) (k9 + 1) = if (tu_co (tu_cb M) (M 7 k9).toNat (ON k9)) < 1000000 ∧ (tu_gp (fun q => tu_co (tu_cb M) (M 7 q).toNat (ON q)) k9).1 < (tu_co (tu_cb M) (M 7 k9).toNat (ON k9)) then ((tu_co (tu_cb M) (M 7 k9).toNat (ON k9)), (k9 : Int)) else tu_gp (fun q => tu_co (tu_cb M) (M 7 q).toNat (ON q)) k9 := rfl
                  have s4 : tu_sm (fun q => M 5 (ON q)) (k9 + 1) = tu_sm (fun q => M 5 (ON q)) k9 + M 5 (ON k9) := rfl
                  have ep9 := hR.ok.bts _ hpM
                  have lp84 : tu_W T 84 [(0, tu_r 0), (1, tu_i x), (2, tu_r 90), (3, tu_r 86), (4, tu_r 87), (5, tu_r 88), (6, tu_r 89), (7, tu_r 91), (8, tu_i bs), (9, tu_i fw), (10, tu_i ls), (11, tu_i (((e : Nat) : Int) - 1)), (12, tu_i (tu_sm (fun q => if tu_co (tu_cb M) (M 7 q).toNat (ON q) < 1000000 then tu_co (tu_cb M) (M 7 q).toNat (ON q) else 0) k9)), (13, tu_i (tu_sm (fun q => if tu_co (tu_cb M) (M 7 q).toNat (ON q) < 1000000 then 0 else 1) k9)), (14, tu_i ((tu_gp (fun q => tu_co (tu_cb M) (M 7 q).toNat (ON q)) k9).2)), (15, tu_i ((tu_gp (fun q => tu_co (tu_cb M) (M 7 q).toNat (ON q)) k9).1)), (16, tu_i (tu_sm (fun q => M 5 (ON q)) k9)), (17, tu_i ((k9 : Nat) : Int))] [tu_i (((ON k9) : Nat) : Int)] Mb := by
                      refine tu_istore 84 X (lv' := [(18, tu_i (((ON k9) : Nat) : Int)), (0, tu_r 0), (1, tu_i x), (2, tu_r 90), (3, tu_r 86), (4, tu_r 87), (5, tu_r 88), (6, tu_r 89), (7, tu_r 91), (8, tu_i bs), (9, tu_i fw), (10, tu_i ls), (11, tu_i (((e : Nat) : Int) - 1)), (12, tu_i (tu_sm (fun q => if tu_co (tu_cb M) (M 7 q).toNat (ON q) < 1000000 then tu_co (tu_cb M) (M 7 q).toNat (ON q) else 0) k9)), (13, tu_i (tu_sm (fun q => if tu_co (tu_cb M) (M 7 q).toNat (ON q) < 1000000 then 0 else 1) k9)), (14, tu_i ((tu_gp (fun q => tu_co (tu_cb M) (M 7 q).toNat (ON q)) k9).2)), (15, tu_i ((tu_gp (fun q => tu_co (tu_cb M) (M 7 q).toNat (ON q)) k9).1)), (16, tu_i (tu_sm (fun q => M 5 (ON q)) k9)), (17, tu_i ((k9 : Nat) : Int))]) dL_whole_84 (by rw [hnl]; decide) rfl ?_
                      have ly := tz_lay hR hsc hlM hpM
                      refine tu_aload_n 86 X 4 dL_whole_86 rfl ?_
                      refine tu_iconst 87 X dL_whole_87 ?_
                      refine tu_aload 88 X 6 dL_whole_88 rfl ?_
                      refine tu_iload 90 X 18 dL_whole_90 rfl ?_
                      refine tu_iald 92 X (x := Mb 88 k9) k9 dL_whole_92 (by decide) rfl (by decide) (by omega) (by omega) rfl ?_
                      refine tu_tp (b := (M 88 k9)) (by rw [hsc 88 (by decide)]) ?_
                      refine tu_tp (b := (((M 7 k9).toNat : Nat) : Int)) (by rw [hR.ba k9 (by omega)]; omega) ?_
                      refine tu_imul 93 X dL_whole_93 ?_
                      refine tu_iald 94 X (x := Mb 86 (2 * ((M 7 k9).toNat))) (2 * ((M 7 k9).toNat)) dL_whole_94 (by decide) rfl (by decide) (by omega) (by omega) rfl ?_
                      refine tu_tp (b := (M 86 (2 * ((M 7 k9).toNat)))) (by rw [hsc 86 (by decide)]) ?_
                      refine tu_tp (b := ((tu_nl (tu_cb M) (M 7 k9).toNat : Nat) : Int)) (by rw [hli.2.1]; exact hnl9.1) ?_
                      refine tu_aload_n 95 X 4 dL_whole_95 rfl ?_
                      refine tu_iconst 96 X dL_whole_96 ?_
                      refine tu_aload 97 X 6 dL_whole_97 rfl ?_
                      refine tu_iload 99 X 18 dL_whole_99 rfl ?_
                      refine tu_iald 101 X (x := Mb 88 k9) k9 dL_whole_101 (by decide) rfl (by decide) (by omega) (by omega) rfl ?_
                      refine tu_tp (b := (M 88 k9)) (by rw [hsc 88 (by decide)]) ?_
                      refine tu_tp (b := (((M 7 k9).toNat : Nat) : Int)) (by rw [hR.ba k9 (by omega)]; omega) ?_
                      refine tu_imul 102 X dL_whole_102 ?_
                      refine tu_iconst 103 X dL_whole_103 ?_
                      refine tu_iadd 104 X dL_whole_104 ?_
                      refine tu_iald 105 X (x := Mb 86 ((2 * ((M 7 k9).toNat)) + 1)) ((2 * ((M 7 k9).toNat)) + 1) dL_whole_105 (by decide) rfl (by decide) (by omega) (by omega) rfl ?_
                      refine tu_tp (b := (M 86 ((2 * ((M 7 k9).toNat)) + 1))) (by rw [hsc 86 (by decide)]) ?_
                      refine tu_iload 106 X 0 dL_whole_106 rfl ?_
                      refine tu_aload_n 108 X 3 dL_whole_108 rfl ?_
                      refine tu_iconst 109 X dL_whole_109 ?_
                      refine tu_iald 110 X (x := Mb 90 0) 0 dL_whole_110 (by decide) rfl (by decide) rfl (by decide) rfl ?_
                      refine tu_tp (b := (M 90 0)) (by rw [hsc 90 (by decide)]) ?_
                      refine tu_tp (b := (((M 2 0).toNat : Nat) : Int)) (by rw [hqs 0 (by decide)]; have := hB.set; omega) ?_
                      refine tu_aload_n 111 X 3 dL_whole_111 rfl ?_
                      refine tu_aload 112 X 5 dL_whole_112 rfl ?_
                      refine tu_aload 114 X 8 dL_whole_114 rfl ?_
                      refine tu_st_eq (show _ = [tu_r 91, tu_r 87, tu_r 90, tu_i ((((M 2 0).toNat) : Nat) : Int), tu_i (((ON k9) : Nat) : Int), tu_i (M 86 ((2 * ((M 7 k9).toNat)) + 1)), tu_i (((tu_nl (tu_cb M) (M 7 k9).toNat) : Nat) : Int)] from by first | rfl | (simp only [List.cons.injEq, Sum.inl.injEq, and_true, true_and]; omega)) rfl ?_
                      refine tu_callSV 116 X (st := []) (as := [tu_i (((tu_nl (tu_cb M) (M 7 k9).toNat) : Nat) : Int), tu_i (M 86 ((2 * ((M 7 k9).toNat)) + 1)), tu_i (((ON k9) : Nat) : Int), tu_i ((((M 2 0).toNat) : Nat) : Int), tu_r 90, tu_r 87, tu_r 91]) (c_L_lay (tu_nl (tu_cb M) (M 7 k9).toNat) (tu_np (tu_cb M) (ON k9)) (ON k9) ((M 2 0).toNat) (M 86 ((2 * ((M 7 k9).toNat)) + 1)) (tu_cb M 1) (tu_al (tu_cb M) (M 7 k9).toNat) (tu_kp (tu_cb M) (ON k9)) (show 1 ≤ (tu_nl (tu_cb M) (M 7 k9).toNat) ∧ (tu_nl (tu_cb M) (M 7 k9).toNat) ≤ 5 from by exact ly.1) (show 1 ≤ ((M 2 0).toNat) ∧ ((M 2 0).toNat) ≤ 8 from by exact ly.2.1) (show (ON k9) < 4 from by exact ly.2.2.1) (show 1 ≤ (tu_np (tu_cb M) (ON k9)) ∧ (tu_np (tu_cb M) (ON k9)) ≤ 9 from by exact ly.2.2.2.1) (show Mb 87 (3 * (ON k9)) = (((tu_np (tu_cb M) (ON k9)) : Nat) : Int) from by exact ly.2.2.2.2.1) (show tu_mk (M 86 ((2 * ((M 7 k9).toNat)) + 1)) (tu_nl (tu_cb M) (M 7 k9).toNat) (tu_al (tu_cb M) (M 7 k9).toNat) from by exact ly.2.2.2.2.2.1) (show tu_mk (Mb 87 (3 * (ON k9) + 1)) (tu_np (tu_cb M) (ON k9)) (tz_k2 (tu_kp (tu_cb M) (ON k9))) from by exact ly.2.2.2.2.2.2.1) (show tu_mk (Mb 87 (3 * (ON k9) + 2)) (tu_np (tu_cb M) (ON k9)) (tz_k1 (tu_kp (tu_cb M) (ON k9))) from by exact ly.2.2.2.2.2.2.2.1) (show ∀ b, b < (tu_np (tu_cb M) (ON k9)) → 0 ≤ (tu_kp (tu_cb M) (ON k9)) b ∧ (tu_kp (tu_cb M) (ON k9)) b ≤ 2 from by exact ly.2.2.2.2.2.2.2.2.1) (show (tu_cb M 1) 0 = ((((M 2 0).toNat) : Nat) : Int) ∧ (tu_cb M 1) 1 = Mb 90 1 ∧ (tu_cb M 1) 2 = Mb 90 2 ∧ (tu_cb M 1) 3 = Mb 90 3 from by exact ly.2.2.2.2.2.2.2.2.2.1) (show (0 ≤ (tu_cb M 1) 1 ∧ (tu_cb M 1) 1 ≤ 9) ∧ (0 ≤ (tu_cb M 1) 2 ∧ (tu_cb M 1) 2 ≤ 9) ∧ (0 ≤ (tu_cb M 1) 3 ∧ (tu_cb M 1) 3 ≤ 20) from by exact ly.2.2.2.2.2.2.2.2.2.2)) ss_RL_16 dL_whole_116 rfl (Nat.le_of_ble_eq_true rfl) ⟨by decide, by decide⟩ (fun M' h => ?_)
                      obtain ⟨w_116, hM116, h116_0⟩ := h
                      refine tu_st_eq rfl (M' := tu_row Mb 91 w_116) hM116 ?_
                      have hW : tz_W (tu_cb M) (M 7 k9).toNat (ON k9) w_116 := h116_0
                      have hco := hW.co hok
                      have hr0 := hW.rg hok 0 (by decide)
                      refine tu_iload 119 X 17 dL_whole_119 rfl ?_
                      refine tu_aload 121 X 5 dL_whole_121 rfl ?_
                      refine tu_iconst 123 X dL_whole_123 ?_
                      refine tu_iload 124 X 0 dL_whole_124 rfl ?_
                      refine tu_imul 126 X dL_whole_126 ?_
                      refine tu_iald 127 X (x := Mb 87 (3 * (ON k9))) (3 * (ON k9)) dL_whole_127 (by decide) rfl (by decide) (by omega) (by omega) rfl ?_
                      refine tu_tp (b := (M 87 (3 * (ON k9)))) (by rw [hsc 87 (by decide)]) ?_
                      refine tu_tp (b := (M 5 (ON k9))) (by exact hph.2.1) ?_
                      refine tu_iadd 128 X dL_whole_128 ?_
                      refine tu_istore 129 X (lv' := [(16, tu_i (tu_sm (fun q => M 5 (ON q)) k9 + (M 5 (ON k9)))), (18, tu_i (((ON k9) : Nat) : Int)), (0, tu_r 0), (1, tu_i x), (2, tu_r 90), (3, tu_r 86), (4, tu_r 87), (5, tu_r 88), (6, tu_r 89), (7, tu_r 91), (8, tu_i bs), (9, tu_i fw), (10, tu_i ls), (11, tu_i (((e : Nat) : Int) - 1)), (12, tu_i (tu_sm (fun q => if tu_co (tu_cb M) (M 7 q).toNat (ON q) < 1000000 then tu_co (tu_cb M) (M 7 q).toNat (ON q) else 0) k9)), (13, tu_i (tu_sm (fun q => if tu_co (tu_cb M) (M 7 q).toNat (ON q) < 1000000 then 0 else 1) k9)), (14, tu_i ((tu_gp (fun q => tu_co (tu_cb M) (M 7 q).toNat (ON q)) k9).2)), (15, tu_i ((tu_gp (fun q => tu_co (tu_cb M) (M 7 q).toNat (ON q)) k9).1)), (17, tu_i ((k9 : Nat) : Int))]) dL_whole_129 (by rw [hnl]; decide) rfl ?_
                      refine tu_aload 131 X 9 dL_whole_131 rfl ?_
                      refine tu_iconst 133 X dL_whole_133 ?_
                      refine tu_iald 134 X (x := w_116 0) 0 dL_whole_134 (by decide) rfl (by decide) rfl (by decide) rfl ?_
                      refine tu_if_ge 135 X 144 dL_whole_135 (by decide) (show tu_rg (w_116 0) from by first | assumption | exact ⟨by omega, by omega⟩) (fun br135 => ?_) (fun br135 => ?_)
                      ·
                        rw [if_pos (show (tu_co (tu_cb M) (M 7 k9).toNat (ON k9)) < 1000000 from by omega)] at s1 s2
                        refine tu_iload 144 X 14 dL_whole_144 rfl ?_
                        refine tu_aload 146 X 9 dL_whole_146 rfl ?_
                        refine tu_iconst 148 X dL_whole_148 ?_
                        refine tu_iald 149 X (x := w_116 0) 0 dL_whole_149 (by decide) rfl (by decide) rfl (by decide) rfl ?_
                        refine tu_iadd 150 X dL_whole_150 ?_
                        refine tu_istore 151 X (lv' := [(12, tu_i (tu_sm (fun q => if tu_co (tu_cb M) (M 7 q).toNat (ON q) < 1000000 then tu_co (tu_cb M) (M 7 q).toNat (ON q) else 0) k9 + (w_116 0))), (16, tu_i (tu_sm (fun q => M 5 (ON q)) k9 + (M 5 (ON k9)))), (18, tu_i (((ON k9) : Nat) : Int)), (0, tu_r 0), (1, tu_i x), (2, tu_r 90), (3, tu_r 86), (4, tu_r 87), (5, tu_r 88), (6, tu_r 89), (7, tu_r 91), (8, tu_i bs), (9, tu_i fw), (10, tu_i ls), (11, tu_i (((e : Nat) : Int) - 1)), (13, tu_i (tu_sm (fun q => if tu_co (tu_cb M) (M 7 q).toNat (ON q) < 1000000 then 0 else 1) k9)), (14, tu_i ((tu_gp (fun q => tu_co (tu_cb M) (M 7 q).toNat (ON q)) k9).2)), (15, tu_i ((tu_gp (fun q => tu_co (tu_cb M) (M 7 q).toNat (ON q)) k9).1)), (17, tu_i ((k9 : Nat) : Int))]) dL_whole_151 (by rw [hnl]; decide) rfl ?_
                        refine tu_aload 153 X 10 dL_whole_153 rfl ?_
                        refine tu_iconst 155 X dL_whole_155 ?_
                        refine tu_iald 156 X (x := w_116 0) 0 dL_whole_156 (by decide) rfl (by decide) rfl (by decide) rfl ?_
                        refine tu_iload 157 X 17 dL_whole_157 rfl ?_
                        refine tu_icmp_le 159 X 167 dL_whole_159 (by decide) (show tu_rg (w_116 0) from by first | assumption | exact ⟨by omega, by omega⟩) (show tu_rg ((tu_gp (fun q => tu_co (tu_cb M) (M 7 q).toNat (ON q)) k9).1) from by first | assumption | exact ⟨by omega, by omega⟩) (fun br159 => ?_) (fun br159 => ?_)
                        ·
                          rw [if_neg (show ¬ ((tu_co (tu_cb M) (M 7 k9).toNat (ON k9)) < 1000000 ∧ (tu_gp (fun q => tu_co (tu_cb M) (M 7 q).toNat (ON q)) k9).1 < (tu_co (tu_cb M) (M 7 k9).toNat (ON k9))) from fun q => by omega)] at s3
                          refine tu_iload 167 X 16 dL_whole_167 rfl ?_
                          refine tu_istore 169 X (lv' := [(14, tu_i ((tu_gp (fun q => tu_co (tu_cb M) (M 7 q).toNat (ON q)) k9).2)), (12, tu_i (tu_sm (fun q => if tu_co (tu_cb M) (M 7 q).toNat (ON q) < 1000000 then tu_co (tu_cb M) (M 7 q).toNat (ON q) else 0) k9 + (w_116 0))), (16, tu_i (tu_sm (fun q => M 5 (ON q)) k9 + (M 5 (ON k9)))), (18, tu_i (((ON k9) : Nat) : Int)), (0, tu_r 0), (1, tu_i x), (2, tu_r 90), (3, tu_r 86), (4, tu_r 87), (5, tu_r 88), (6, tu_r 89), (7, tu_r 91), (8, tu_i bs), (9, tu_i fw), (10, tu_i ls), (11, tu_i (((e : Nat) : Int) - 1)), (13, tu_i (tu_sm (fun q => if tu_co (tu_cb M) (M 7 q).toNat (ON q) < 1000000 then 0 else 1) k9)), (15, tu_i ((tu_gp (fun q => tu_co (tu_cb M) (M 7 q).toNat (ON q)) k9).1)), (17, tu_i ((k9 : Nat) : Int))]) dL_whole_169 (by rw [hnl]; decide) rfl ?_
                          refine tu_aload 171 X 11 dL_whole_171 rfl ?_
                          refine tu_iconst 173 X dL_whole_173 ?_
                          refine tu_iald 174 X (x := w_116 0) 0 dL_whole_174 (by decide) rfl (by decide) rfl (by decide) rfl ?_
                          refine tu_iload 175 X 17 dL_whole_175 rfl ?_
                          refine tu_icmp_le 177 X 187 dL_whole_177 (by decide) (show tu_rg (w_116 0) from by first | assumption | exact ⟨by omega, by omega⟩) (show tu_rg ((tu_gp (fun q => tu_co (tu_cb M) (M 7 q).toNat (ON q)) k9).1) from by first | assumption | exact ⟨by omega, by omega⟩) (fun br177 => ?_) (fun br177 => ?_)
                          ·
                            refine tu_iload 187 X 17 dL_whole_187 rfl ?_
                            refine tu_istore 189 X (lv' := [(15, tu_i ((tu_gp (fun q => tu_co (tu_cb M) (M 7 q).toNat (ON q)) k9).1)), (14, tu_i ((tu_gp (fun q => tu_co (tu_cb M) (M 7 q).toNat (ON q)) k9).2)), (12, tu_i (tu_sm (fun q => if tu_co (tu_cb M) (M 7 q).toNat (ON q) < 1000000 then tu_co (tu_cb M) (M 7 q).toNat (ON q) else 0) k9 + (w_116 0))), (16, tu_i (tu_sm (fun q => M 5 (ON q)) k9 + (M 5 (ON k9)))), (18, tu_i (((ON k9) : Nat) : Int)), (0, tu_r 0), (1, tu_i x), (2, tu_r 90), (3, tu_r 86), (4, tu_r 87), (5, tu_r 88), (6, tu_r 89), (7, tu_r 91), (8, tu_i bs), (9, tu_i fw), (10, tu_i ls), (11, tu_i (((e : Nat) : Int) - 1)), (13, tu_i (tu_sm (fun q => if tu_co (tu_cb M) (M 7 q).toNat (ON q) < 1000000 then 0 else 1) k9)), (17, tu_i ((k9 : Nat) : Int))]) dL_whole_189 (by rw [hnl]; decide) rfl ?_
                            refine tu_iinc 191 X (lv' := [(17, tu_i (((k9 : Nat) : Int) + 1)), (15, tu_i ((tu_gp (fun q => tu_co (tu_cb M) (M 7 q).toNat (ON q)) k9).1)), (14, tu_i ((tu_gp (fun q => tu_co (tu_cb M) (M 7 q).toNat (ON q)) k9).2)), (12, tu_i (tu_sm (fun q => if tu_co (tu_cb M) (M 7 q).toNat (ON q) < 1000000 then tu_co (tu_cb M) (M 7 q).toNat (ON q) else 0) k9 + (w_116 0))), (16, tu_i (tu_sm (fun q => M 5 (ON q)) k9 + (M 5 (ON k9)))), (18, tu_i (((ON k9) : Nat) : Int)), (0, tu_r 0), (1, tu_i x), (2, tu_r 90), (3, tu_r 86), (4, tu_r 87), (5, tu_r 88), (6, tu_r 89), (7, tu_r 91), (8, tu_i bs), (9, tu_i fw), (10, tu_i ls), (11, tu_i (((e : Nat) : Int) - 1)), (13, tu_i (tu_sm (fun q => if tu_co (tu_cb M) (M 7 q).toNat (ON q) < 1000000 then 0 else 1) k9))]) 18 dL_whole_191 rfl (by rw [hnl]; decide) rfl ?_
                            refine tu_goto 194 X 55 dL_whole_194 (by decide) ?_
                            refine tu_jmp [6, 7, 8, 9, 10, 11, 12, 13, 14, 15, 16, 17, 3, 18, 2, 1, 4, 0] (lv' := [(0, tu_r 0), (1, tu_i x), (2, tu_r 90), (3, tu_r 86), (4, tu_r 87), (5, tu_r 88), (6, tu_r 89), (7, tu_r 91), (8, tu_i bs), (9, tu_i fw), (10, tu_i ls), (11, tu_i (((e : Nat) : Int) - 1)), (12, tu_i (tu_sm (fun q => if tu_co (tu_cb M) (M 7 q).toNat (ON q) < 1000000 then tu_co (tu_cb M) (M 7 q).toNat (ON q) else 0) (k9 + 1))), (13, tu_i (tu_sm (fun q => if tu_co (tu_cb M) (M 7 q).toNat (ON q) < 1000000 then 0 else 1) (k9 + 1))), (14, tu_i ((tu_gp (fun q => tu_co (tu_cb M) (M 7 q).toNat (ON q)) (k9 + 1)).2)), (15, tu_i ((tu_gp (fun q => tu_co (tu_cb M) (M 7 q).toNat (ON q)) (k9 + 1)).1)), (16, tu_i (tu_sm (fun q => M 5 (ON q)) (k9 + 1))), (17, tu_i (((k9 + 1) : Nat) : Int))]) ⟨rfl, rfl, rfl, rfl, rfl, rfl, rfl, rfl, rfl, rfl, rfl, rfl, tu_ei (by first | rfl | (first | (rw [s1]; done) | (rw [s1]; omega))), tu_ei (by first | rfl | (first | (rw [s2]; done) | (rw [s2]; omega))), tu_ei (by first | rfl | (rw [s3])), tu_ei (by first | rfl | (first | (rw [s3]; done) | (rw [s3]; show _ = (tu_co (tu_cb M) (M 7 k9).toNat (ON k9)); omega))), tu_ei (by first | rfl | (rw [s4])), tu_ei (by first | rfl | omega), trivial⟩ rfl (ih55 (k9 + 1) (tu_row Mb 91 w_116) (by omega) (by rw [s3]; first | omega | (show -1 ≤ (tu_co (tu_cb M) (M 7 k9).toNat (ON k9)) ∧ (tu_co (tu_cb M) (M 7 k9).toNat (ON k9)) ≤ 1000000; omega)) (by exact hsc.w _) (by omega))
                          ·
                            exfalso; omega
                        ·
                          rw [if_pos (show (tu_co (tu_cb M) (M 7 k9).toNat (ON k9)) < 1000000 ∧ (tu_gp (fun q => tu_co (tu_cb M) (M 7 q).toNat (ON q)) k9).1 < (tu_co (tu_cb M) (M 7 k9).toNat (ON k9)) from ⟨by omega, by omega⟩)] at s3
                          refine tu_iload 162 X 18 dL_whole_162 rfl ?_
                          refine tu_goto 164 X 169 dL_whole_164 (by decide) ?_
                          refine tu_istore 169 X (lv' := [(14, tu_i ((k9 : Nat) : Int)), (12, tu_i (tu_sm (fun q => if tu_co (tu_cb M) (M 7 q).toNat (ON q) < 1000000 then tu_co (tu_cb M) (M 7 q).toNat (ON q) else 0) k9 + (w_116 0))), (16, tu_i (tu_sm (fun q => M 5 (ON q)) k9 + (M 5 (ON k9)))), (18, tu_i (((ON k9) : Nat) : Int)), (0, tu_r 0), (1, tu_i x), (2, tu_r 90), (3, tu_r 86), (4, tu_r 87), (5, tu_r 88), (6, tu_r 89), (7, tu_r 91), (8, tu_i bs), (9, tu_i fw), (10, tu_i ls), (11, tu_i (((e : Nat) : Int) - 1)), (13, tu_i (tu_sm (fun q => if tu_co (tu_cb M) (M 7 q).toNat (ON q) < 1000000 then 0 else 1) k9)), (15, tu_i ((tu_gp (fun q => tu_co (tu_cb M) (M 7 q).toNat (ON q)) k9).1)), (17, tu_i ((k9 : Nat) : Int))]) dL_whole_169 (by rw [hnl]; decide) rfl ?_
                          refine tu_aload 171 X 11 dL_whole_171 rfl ?_
                          refine tu_iconst 173 X dL_whole_173 ?_
                          refine tu_iald 174 X (x := w_116 0) 0 dL_whole_174 (by decide) rfl (by decide) rfl (by decide) rfl ?_
                          refine tu_iload 175 X 17 dL_whole_175 rfl ?_
                          refine tu_icmp_le 177 X 187 dL_whole_177 (by decide) (show tu_rg (w_116 0) from by first | assumption | exact ⟨by omega, by omega⟩) (show tu_rg ((tu_gp (fun q => tu_co (tu_cb M) (M 7 q).toNat (ON q)) k9).1) from by first | assumption | exact ⟨by omega, by omega⟩) (fun br177 => ?_) (fun br177 => ?_)
                          ·
                            exfalso; omega
                          ·
                            refine tu_aload 180 X 11 dL_whole_180 rfl ?_
                            refine tu_iconst 182 X dL_whole_182 ?_
                            refine tu_iald 183 X (x := w_116 0) 0 dL_whole_183 (by decide) rfl (by decide) rfl (by decide) rfl ?_
                            refine tu_goto 184 X 189 dL_whole_184 (by decide) ?_
                            refine tu_istore 189 X (lv' := [(15, tu_i (w_116 0)), (14, tu_i ((k9 : Nat) : Int)), (12, tu_i (tu_sm (fun q => if tu_co (tu_cb M) (M 7 q).toNat (ON q) < 1000000 then tu_co (tu_cb M) (M 7 q).toNat (ON q) else 0) k9 + (w_116 0))), (16, tu_i (tu_sm (fun q => M 5 (ON q)) k9 + (M 5 (ON k9)))), (18, tu_i (((ON k9) : Nat) : Int)), (0, tu_r 0), (1, tu_i x), (2, tu_r 90), (3, tu_r 86), (4, tu_r 87), (5, tu_r 88), (6, tu_r 89), (7, tu_r 91), (8, tu_i bs), (9, tu_i fw), (10, tu_i ls), (11, tu_i (((e : Nat) : Int) - 1)), (13, tu_i (tu_sm (fun q => if tu_co (tu_cb M) (M 7 q).toNat (ON q) < 1000000 then 0 else 1) k9)), (17, tu_i ((k9 : Nat) : Int))]) dL_whole_189 (by rw [hnl]; decide) rfl ?_
                            refine tu_iinc 191 X (lv' := [(17, tu_i (((k9 : Nat) : Int) + 1)), (15, tu_i (w_116 0)), (14, tu_i ((k9 : Nat) : Int)), (12, tu_i (tu_sm (fun q => if tu_co (tu_cb M) (M 7 q).toNat (ON q) < 1000000 then tu_co (tu_cb M) (M 7 q).toNat (ON q) else 0) k9 + (w_116 0))), (16, tu_i (tu_sm (fun q => M 5 (ON q)) k9 + (M 5 (ON k9)))), (18, tu_i (((ON k9) : Nat) : Int)), (0, tu_r 0), (1, tu_i x), (2, tu_r 90), (3, tu_r 86), (4, tu_r 87), (5, tu_r 88), (6, tu_r 89), (7, tu_r 91), (8, tu_i bs), (9, tu_i fw), (10, tu_i ls), (11, tu_i (((e : Nat) : Int) - 1)), (13, tu_i (tu_sm (fun q => if tu_co (tu_cb M) (M 7 q).toNat (ON q) < 1000000 then 0 else 1) k9))]) 18 dL_whole_191 rfl (by rw [hnl]; decide) rfl ?_
                            refine tu_goto 194 X 55 dL_whole_194 (by decide) ?_
                            refine tu_jmp [6, 7, 8, 9, 10, 11, 12, 13, 14, 15, 16, 17, 3, 18, 2, 1, 4, 0] (lv' := [(0, tu_r 0), (1, tu_i x), (2, tu_r 90), (3, tu_r 86), (4, tu_r 87), (5, tu_r 88), (6, tu_r 89), (7, tu_r 91), (8, tu_i bs), (9, tu_i fw), (10, tu_i ls), (11, tu_i (((e : Nat) : Int) - 1)), (12, tu_i (tu_sm (fun q => if tu_co (tu_cb M) (M 7 q).toNat (ON q) < 1000000 then tu_co (tu_cb M) (M 7 q).toNat (ON q) else 0) (k9 + 1))), (13, tu_i (tu_sm (fun q => if tu_co (tu_cb M) (M 7 q).toNat (ON q) < 1000000 then 0 else 1) (k9 + 1))), (14, tu_i ((tu_gp (fun q => tu_co (tu_cb M) (M 7 q).toNat (ON q)) (k9 + 1)).2)), (15, tu_i ((tu_gp (fun q => tu_co (tu_cb M) (M 7 q).toNat (ON q)) (k9 + 1)).1)), (16, tu_i (tu_sm (fun q => M 5 (ON q)) (k9 + 1))), (17, tu_i (((k9 + 1) : Nat) : Int))]) ⟨rfl, rfl, rfl, rfl, rfl, rfl, rfl, rfl, rfl, rfl, rfl, rfl, tu_ei (by first | rfl | (first | (rw [s1]; done) | (rw [s1]; omega))), tu_ei (by first | rfl | (first | (rw [s2]; done) | (rw [s2]; omega))), tu_ei (by first | rfl | (rw [s3])), tu_ei (by first | rfl | (first | (rw [s3]; done) | (rw [s3]; show _ = (tu_co (tu_cb M) (M 7 k9).toNat (ON k9)); omega))), tu_ei (by first | rfl | (rw [s4])), tu_ei (by first | rfl | omega), trivial⟩ rfl (ih55 (k9 + 1) (tu_row Mb 91 w_116) (by omega) (by rw [s3]; first | omega | (show -1 ≤ (tu_co (tu_cb M) (M 7 k9).toNat (ON k9)) ∧ (tu_co (tu_cb M) (M 7 k9).toNat (ON k9)) ≤ 1000000; omega)) (by exact hsc.w _) (by omega))
                      ·
                        rw [if_neg (show ¬ (tu_co (tu_cb M) (M 7 k9).toNat (ON k9)) < 1000000 from by omega)] at s1 s2
                        rw [if_neg (show ¬ ((tu_co (tu_cb M) (M 7 k9).toNat (ON k9)) < 1000000 ∧ (tu_gp (fun q => tu_co (tu_cb M) (M 7 q).toNat (ON q)) k9).1 < (tu_co (tu_cb M) (M 7 k9).toNat (ON k9))) from fun q => by omega)] at s3
                        refine tu_iinc 138 X (lv' := [(13, tu_i (tu_sm (fun q => if tu_co (tu_cb M) (M 7 q).toNat (ON q) < 1000000 then 0 else 1) k9 + 1)), (16, tu_i (tu_sm (fun q => M 5 (ON q)) k9 + (M 5 (ON k9)))), (18, tu_i (((ON k9) : Nat) : Int)), (0, tu_r 0), (1, tu_i x), (2, tu_r 90), (3, tu_r 86), (4, tu_r 87), (5, tu_r 88), (6, tu_r 89), (7, tu_r 91), (8, tu_i bs), (9, tu_i fw), (10, tu_i ls), (11, tu_i (((e : Nat) : Int) - 1)), (12, tu_i (tu_sm (fun q => if tu_co (tu_cb M) (M 7 q).toNat (ON q) < 1000000 then tu_co (tu_cb M) (M 7 q).toNat (ON q) else 0) k9)), (14, tu_i ((tu_gp (fun q => tu_co (tu_cb M) (M 7 q).toNat (ON q)) k9).2)), (15, tu_i ((tu_gp (fun q => tu_co (tu_cb M) (M 7 q).toNat (ON q)) k9).1)), (17, tu_i ((k9 : Nat) : Int))]) 15 dL_whole_138 rfl (by rw [hnl]; decide) rfl ?_
                        refine tu_goto 141 X 191 dL_whole_141 (by decide) ?_
                        refine tu_iinc 191 X (lv' := [(17, tu_i (((k9 : Nat) : Int) + 1)), (13, tu_i (tu_sm (fun q => if tu_co (tu_cb M) (M 7 q).toNat (ON q) < 1000000 then 0 else 1) k9 + 1)), (16, tu_i (tu_sm (fun q => M 5 (ON q)) k9 + (M 5 (ON k9)))), (18, tu_i (((ON k9) : Nat) : Int)), (0, tu_r 0), (1, tu_i x), (2, tu_r 90), (3, tu_r 86), (4, tu_r 87), (5, tu_r 88), (6, tu_r 89), (7, tu_r 91), (8, tu_i bs), (9, tu_i fw), (10, tu_i ls), (11, tu_i (((e : Nat) : Int) - 1)), (12, tu_i (tu_sm (fun q => if tu_co (tu_cb M) (M 7 q).toNat (ON q) < 1000000 then tu_co (tu_cb M) (M 7 q).toNat (ON q) else 0) k9)), (14, tu_i ((tu_gp (fun q => tu_co (tu_cb M) (M 7 q).toNat (ON q)) k9).2)), (15, tu_i ((tu_gp (fun q => tu_co (tu_cb M) (M 7 q).toNat (ON q)) k9).1))]) 18 dL_whole_191 rfl (by rw [hnl]; decide) rfl ?_
                        refine tu_goto 194 X 55 dL_whole_194 (by decide) ?_
                        refine tu_jmp [4, 5, 6, 7, 8, 9, 10, 11, 12, 13, 14, 15, 16, 1, 17, 18, 2, 0] (lv' := [(0, tu_r 0), (1, tu_i x), (2, tu_r 90), (3, tu_r 86), (4, tu_r 87), (5, tu_r 88), (6, tu_r 89), (7, tu_r 91), (8, tu_i bs), (9, tu_i fw), (10, tu_i ls), (11, tu_i (((e : Nat) : Int) - 1)), (12, tu_i (tu_sm (fun q => if tu_co (tu_cb M) (M 7 q).toNat (ON q) < 1000000 then tu_co (tu_cb M) (M 7 q).toNat (ON q) else 0) (k9 + 1))), (13, tu_i (tu_sm (fun q => if tu_co (tu_cb M) (M 7 q).toNat (ON q) < 1000000 then 0 else 1) (k9 + 1))), (14, tu_i ((tu_gp (fun q => tu_co (tu_cb M) (M 7 q).toNat (ON q)) (k9 + 1)).2)), (15, tu_i ((tu_gp (fun q => tu_co (tu_cb M) (M 7 q).toNat (ON q)) (k9 + 1)).1)), (16, tu_i (tu_sm (fun q => M 5 (ON q)) (k9 + 1))), (17, tu_i (((k9 + 1) : Nat) : Int))]) ⟨rfl, rfl, rfl, rfl, rfl, rfl, rfl, rfl, rfl, rfl, rfl, rfl, tu_ei (by first | rfl | (first | (rw [s1]; done) | (rw [s1]; omega))), tu_ei (by first | rfl | (first | (rw [s2]; done) | (rw [s2]; omega))), tu_ei (by first | rfl | (rw [s3])), tu_ei (by first | rfl | (first | (rw [s3]; done) | (rw [s3]; show _ = (tu_co (tu_cb M) (M 7 k9).toNat (ON k9)); omega))), tu_ei (by first | rfl | (rw [s4])), tu_ei (by first | rfl | omega), trivial⟩ rfl (ih55 (k9 + 1) (tu_row Mb 91 w_116) (by omega) (by rw [s3]; first | omega | (show -1 ≤ (tu_co (tu_cb M) (M 7 k9).toNat (ON k9)) ∧ (tu_co (tu_cb M) (M 7 k9).toNat (ON k9)) ≤ 1000000; omega)) (by exact hsc.w _) (by omega))
                  refine tu_iload 64 X 11 dL_whole_64 rfl ?_
                  refine tu_if_ge 66 X 82 dL_whole_66 (by decide) (show tu_rg (((e : Nat) : Int) - 1) from by first | assumption | exact ⟨by omega, by omega⟩) (fun br66 => ?_) (fun br66 => ?_)
                  ·
                    refine tu_iload 82 X 11 dL_whole_82 rfl ?_
                    refine tu_tp (b := ((ON k9 : Nat) : Int)) (by rw [hON1 (by omega) k9]; omega) ?_
                    refine tu_jmp [0, 1, 2, 3, 4, 5, 6, 7, 8, 9, 10, 11, 12, 13, 14, 15, 16, 17] (lv' := [(0, tu_r 0), (1, tu_i x), (2, tu_r 90), (3, tu_r 86), (4, tu_r 87), (5, tu_r 88), (6, tu_r 89), (7, tu_r 91), (8, tu_i bs), (9, tu_i fw), (10, tu_i ls), (11, tu_i (((e : Nat) : Int) - 1)), (12, tu_i (tu_sm (fun q => if tu_co (tu_cb M) (M 7 q).toNat (ON q) < 1000000 then tu_co (tu_cb M) (M 7 q).toNat (ON q) else 0) k9)), (13, tu_i (tu_sm (fun q => if tu_co (tu_cb M) (M 7 q).toNat (ON q) < 1000000 then 0 else 1) k9)), (14, tu_i ((tu_gp (fun q => tu_co (tu_cb M) (M 7 q).toNat (ON q)) k9).2)), (15, tu_i ((tu_gp (fun q => tu_co (tu_cb M) (M 7 q).toNat (ON q)) k9).1)), (16, tu_i (tu_sm (fun q => M 5 (ON q)) k9)), (17, tu_i ((k9 : Nat) : Int))]) ⟨rfl, rfl, rfl, rfl, rfl, rfl, rfl, rfl, rfl, rfl, rfl, rfl, rfl, rfl, rfl, rfl, rfl, rfl, trivial⟩ rfl (lp84 )
                  ·
                    refine tu_aload 69 X 6 dL_whole_69 rfl ?_
                    refine tu_iload 71 X 17 dL_whole_71 rfl ?_
                    refine tu_aload_n 73 X 2 dL_whole_73 rfl ?_
                    refine tu_bipush 74 X dL_whole_74 (by decide) ?_
                    refine tu_iald 76 X (x := Mb 90 7) 7 dL_whole_76 (by decide) rfl (by decide) rfl (by decide) rfl ?_
                    refine tu_tp (b := (M 90 7)) (by rw [hsc 90 (by decide)]) ?_
                    refine tu_tp (b := ((NT : Nat) : Int)) (by rw [q4.2.2.2]; exact eT) ?_
                    refine tu_irem 77 X dL_whole_77 (show tu_rg ((NT : Nat) : Int) from by first | assumption | exact ⟨by omega, by omega⟩) (by have := hNT (by omega); omega) ?_
                    refine tu_tp (b := ((k9 % NT : Nat) : Int)) (by exact tu_rem_n (by omega) (hNT (by omega)) (by omega)) ?_
                    refine tu_iald 78 X (x := Mb 89 (k9 % NT)) (k9 % NT) dL_whole_78 (by decide) rfl (by decide) (by omega) (by have := Nat.mod_lt k9 (hNT (by omega)); omega) rfl ?_
                    refine tu_tp (b := (M 89 (k9 % NT))) (by rw [hsc 89 (by decide)]) ?_
                    refine tu_tp (b := ((ON k9 : Nat) : Int)) (by have z := Nat.mod_lt k9 (hNT (by omega)); rw [hON0 (by omega) k9, hR.tn (k9 % NT) (by omega)]; have := hB.tun (k9 % NT) (by omega); omega) ?_
                    refine tu_goto 79 X 84 dL_whole_79 (by decide) ?_
                    refine tu_jmp [0, 1, 2, 3, 4, 5, 6, 7, 8, 9, 10, 11, 12, 13, 14, 15, 16, 17] (lv' := [(0, tu_r 0), (1, tu_i x), (2, tu_r 90), (3, tu_r 86), (4, tu_r 87), (5, tu_r 88), (6, tu_r 89), (7, tu_r 91), (8, tu_i bs), (9, tu_i fw), (10, tu_i ls), (11, tu_i (((e : Nat) : Int) - 1)), (12, tu_i (tu_sm (fun q => if tu_co (tu_cb M) (M 7 q).toNat (ON q) < 1000000 then tu_co (tu_cb M) (M 7 q).toNat (ON q) else 0) k9)), (13, tu_i (tu_sm (fun q => if tu_co (tu_cb M) (M 7 q).toNat (ON q) < 1000000 then 0 else 1) k9)), (14, tu_i ((tu_gp (fun q => tu_co (tu_cb M) (M 7 q).toNat (ON q)) k9).2)), (15, tu_i ((tu_gp (fun q => tu_co (tu_cb M) (M 7 q).toNat (ON q)) k9).1)), (16, tu_i (tu_sm (fun q => M 5 (ON q)) k9)), (17, tu_i ((k9 : Nat) : Int))]) ⟨rfl, rfl, rfl, rfl, rfl, rfl, rfl, rfl, rfl, rfl, rfl, rfl, rfl, rfl, rfl, rfl, rfl, rfl, trivial⟩ rfl (lp84 )
            refine tu_jmp [6, 7, 8, 9, 10, 11, 12, 13, 14, 15, 16, 17, 5, 4, 3, 2, 1, 0] (lv' := [(0, tu_r 0), (1, tu_i x), (2, tu_r 90), (3, tu_r 86), (4, tu_r 87), (5, tu_r 88), (6, tu_r 89), (7, tu_r 91), (8, tu_i bs), (9, tu_i fw), (10, tu_i ls), (11, tu_i (((e : Nat) : Int) - 1)), (12, tu_i (tu_sm (fun q => if tu_co (tu_cb M) (M 7 q).toNat (ON q) < 1000000 then tu_co (tu_cb M) (M 7 q).toNat (ON q) else 0) 0)), (13, tu_i (tu_sm (fun q => if tu_co (tu_cb M) (M 7 q).toNat (ON q) < 1000000 then 0 else 1) 0)), (14, tu_i ((tu_gp (fun q => tu_co (tu_cb M) (M 7 q).toNat (ON q)) 0).2)), (15, tu_i ((tu_gp (fun q => tu_co (tu_cb M) (M 7 q).toNat (ON q)) 0).1)), (16, tu_i (tu_sm (fun q => M 5 (ON q)) 0)), (17, tu_i 0)]) ⟨rfl, rfl, rfl, rfl, rfl, rfl, rfl, rfl, rfl, rfl, rfl, rfl, tu_ei (by first | rfl | (first | (rw [s1]; done) | (rw [s1]; omega))), tu_ei (by first | rfl | (first | (rw [s2]; done) | (rw [s2]; omega))), tu_ei (by first | rfl | (rw [s3])), tu_ei (by first | rfl | (first | (rw [s3]; done) | (rw [s3]; show _ = (tu_co (tu_cb M) (M 7 k9).toNat (ON k9)); omega))), tu_ei (by first | rfl | (rw [s4])), rfl, trivial⟩ rfl (lp55 ((NB - 0) + 1) 0 Ma (by omega) (by exact ⟨Int.le_refl _, by show (-1 : Int) ≤ 1000000; decide⟩) (by exact hsc) (by omega))
          ·
            refine tu_goto 33 X 285 dL_whole_33 (by decide) ?_
            refine tu_iinc 285 X (lv' := [(11, tu_i ((((e : Nat) : Int) - 1) + 1)), (0, tu_r 0), (1, tu_i x), (2, tu_r 90), (3, tu_r 86), (4, tu_r 87), (5, tu_r 88), (6, tu_r 89), (7, tu_r 91), (8, tu_i bs), (9, tu_i fw), (10, tu_i ls)]) 11 dL_whole_285 rfl (by rw [hnl]; decide) rfl ?_
            refine tu_goto 288 X 13 dL_whole_288 (by decide) ?_
            refine tu_jmp [1, 2, 3, 4, 5, 6, 7, 8, 9, 10, 11, 0] (lv' := [(0, tu_r 0), (1, tu_i x), (2, tu_r 90), (3, tu_r 86), (4, tu_r 87), (5, tu_r 88), (6, tu_r 89), (7, tu_r 91), (8, tu_i bs), (9, tu_i fw), (10, tu_i ls), (11, tu_i ((((e + 1) : Nat) : Int) - 1))]) ⟨rfl, rfl, rfl, rfl, rfl, rfl, rfl, rfl, rfl, rfl, rfl, tu_ei (by first | rfl | (omega)), trivial⟩ rfl (ih13 (e + 1) bs fw ls Ma (by omega) (by first | exact tz_b9_1 hb9 (by omega) | exact tz_b9_hit hb9 (by omega) hU hSq hUr (by omega) (by omega) | exact tz_b9_miss hb9 (by omega) hU hSq (by omega) (by omega)) (by exact hsc) (by omega))
  refine tu_jmp [4, 5, 6, 7, 8, 9, 10, 11, 3, 2, 1, 0] (lv' := [(0, tu_r 0), (1, tu_i x), (2, tu_r 90), (3, tu_r 86), (4, tu_r 87), (5, tu_r 88), (6, tu_r 89), (7, tu_r 91), (8, tu_i (-6)), (9, tu_i 0), (10, tu_i 0), (11, tu_i (((0 : Nat) : Int) - 1))]) ⟨rfl, rfl, rfl, rfl, rfl, rfl, rfl, rfl, rfl, rfl, rfl, tu_ei (by first | rfl | (omega)), trivial⟩ rfl (lp13 ((NP + 1 - 0) + 1) 0 (-6) 0 0 M (by omega) (by exact tz_b9_0 _ _) (by exact hsc) (by omega))
