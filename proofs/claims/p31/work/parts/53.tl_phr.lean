set_option maxRecDepth 20000 in
set_option maxHeartbeats 1000000 in
theorem tl_phr {T : tu_T} (X : tu_X T cL_law RL 9 344) (hnl : T.2.2.2.2.2.2.2.2.2.2.1 = 18) {M : tu_M} (hJ : tz_J M) (hw0 : M 9 1 = 0) {i8 : Nat} {y8 : Int}  (hN4 : M 1 4 < 4) (lp1576 : ∀ (Mz : tu_M), (tz_J Mz) → tu_W T 1576 [(0, tu_r 100), (1, tu_r 0), (2, tu_r 86), (3, tu_r 87), (4, tu_r 88), (5, tu_r 89), (6, tu_r 90), (7, tu_r 91), (8, tu_i ((i8 : Nat) : Int)), (10, tu_i y8)] [] Mz) : tu_W T 322 [(0, tu_r 100), (1, tu_r 0), (2, tu_r 86), (3, tu_r 87), (4, tu_r 88), (5, tu_r 89), (6, tu_r 90), (7, tu_r 91), (8, tu_i ((i8 : Nat) : Int)), (10, tu_i y8)] [] M := by
  have hR := hJ.1
  have hB := hR.ok
  have cn := hB.cnt
  have hsm := hR.small
  have q4 := hR.q4
  have hqs := hR.qs
  obtain ⟨NL, eL⟩ : ∃ c : Nat, M 1 1 = (c : Int) := ⟨(M 1 1).toNat, by omega⟩
  obtain ⟨NP, eP⟩ : ∃ c : Nat, M 1 4 = (c : Int) := ⟨(M 1 4).toNat, by omega⟩
  obtain ⟨NB, eB⟩ : ∃ c : Nat, M 1 7 = (c : Int) := ⟨(M 1 7).toNat, by omega⟩
  obtain ⟨NT, eT⟩ : ∃ c : Nat, M 1 9 = (c : Int) := ⟨(M 1 9).toNat, by omega⟩
  refine tu_iconst 322 X dL_law_322 ?_
  refine tu_iload 323 X 9 dL_law_323 rfl ?_
  refine tu_bipush 325 X dL_law_325 (by decide) ?_
  refine tu_st_eq (show _ = [tu_i ((9 : Nat) : Int), tu_i y8, tu_i 1] from by first | rfl | (simp only [List.cons.injEq, Sum.inl.injEq, and_true, true_and]; omega)) rfl ?_
  refine tu_callSI 327 X (st := [tu_i 1]) (as := [tu_i y8, tu_i ((9 : Nat) : Int)]) (c_L_low y8 9 (show 0 < 9 ∧ 9 < 2147483648 from by first | assumption | omega | exact ⟨by omega, by omega⟩ | decide)) ss_RL_61 dL_law_327 rfl (Nat.le_of_ble_eq_true rfl) ⟨by decide, by decide⟩ (fun z M' h => ?_)
  obtain ⟨j_327, hM327, h327_0, hz327⟩ := h
  refine tu_st_eq rfl (M' := M) hM327 ?_
  refine tu_tp (b := ((j_327 : Nat) : Int)) hz327 ?_
  refine tu_iadd 330 X dL_law_330 ?_
  refine tu_istore 331 X (lv' := [(14, tu_i (1 + ((j_327 : Nat) : Int))), (0, tu_r 100), (1, tu_r 0), (2, tu_r 86), (3, tu_r 87), (4, tu_r 88), (5, tu_r 89), (6, tu_r 90), (7, tu_r 91), (8, tu_i ((i8 : Nat) : Int)), (10, tu_i y8)]) dL_law_331 (by rw [hnl]; decide) rfl ?_
  refine tu_iconst 333 X dL_law_333 ?_
  refine tu_aload 334 X 7 dL_law_334 rfl ?_
  refine tu_iconst 336 X dL_law_336 ?_
  refine tu_dup2 337 X dL_law_337 rfl rfl ?_
  refine tu_iald 338 X (x := M 90 5) 5 dL_law_338 (by decide) rfl (by decide) rfl (by decide) rfl ?_
  refine tu_tp (b := ((NP : Nat) : Int)) (by rw [q4.2.1]; exact eP) ?_
  refine tu_dup_x2 339 X dL_law_339 rfl rfl rfl ?_
  refine tu_iconst 340 X dL_law_340 ?_
  refine tu_iadd 341 X dL_law_341 ?_
  refine tu_iast 342 X (M' := tu_row M 90 (tu_u (M 90) 5 (((NP : Nat) : Int) + 1))) 5 dL_law_342 (by decide) rfl (by decide) rfl (by decide) rfl ?_
  refine tu_imul 343 X dL_law_343 ?_
  refine tu_istore 344 X (lv' := [(15, tu_i (3 * ((NP : Nat) : Int))), (14, tu_i (1 + ((j_327 : Nat) : Int))), (0, tu_r 100), (1, tu_r 0), (2, tu_r 86), (3, tu_r 87), (4, tu_r 88), (5, tu_r 89), (6, tu_r 90), (7, tu_r 91), (8, tu_i ((i8 : Nat) : Int)), (10, tu_i y8)]) dL_law_344 (by rw [hnl]; decide) rfl ?_
  have hm9 : 1 ≤ 1 + j_327 ∧ 1 + j_327 ≤ 9 := by omega
  refine tu_aload_n 346 X 5 dL_law_346 rfl ?_
  refine tu_iload 347 X 0 dL_law_347 rfl ?_
  refine tu_iload 349 X 1 dL_law_349 rfl ?_
  refine tu_iast 351 X (M' := tu_row (tu_row M 87 (tu_u (M 87) (3 * NP) (1 + ((j_327 : Nat) : Int)))) 90 (tu_u (M 90) 5 (((NP : Nat) : Int) + 1))) (3 * NP) dL_law_351 (by decide) rfl (by decide) (by omega) (by omega) (tu_rc M (tu_u (M 90) 5 (((NP : Nat) : Int) + 1)) (tu_u (M 87) (3 * NP) (1 + ((j_327 : Nat) : Int))) rfl) ?_
  refine tu_aload_n 352 X 5 dL_law_352 rfl ?_
  refine tu_iload 353 X 0 dL_law_353 rfl ?_
  refine tu_iconst 355 X dL_law_355 ?_
  refine tu_iadd 356 X dL_law_356 ?_
  refine tu_iconst 357 X dL_law_357 ?_
  refine tu_iast 358 X (M' := tu_row (tu_row M 87 (tu_u (tu_u (M 87) (3 * NP) (1 + ((j_327 : Nat) : Int))) ((3 * NP) + 1) 0)) 90 (tu_u (M 90) 5 (((NP : Nat) : Int) + 1))) ((3 * NP) + 1) dL_law_358 (by decide) rfl (by decide) (by omega) (by omega) ((tu_rc (tu_row M 87 (tu_u (M 87) (3 * NP) (1 + ((j_327 : Nat) : Int)))) (tu_u (M 90) 5 (((NP : Nat) : Int) + 1)) (tu_u (tu_u (M 87) (3 * NP) (1 + ((j_327 : Nat) : Int))) ((3 * NP) + 1) 0) rfl).trans (congrArg (fun m => tu_row m 90 (tu_u (M 90) 5 (((NP : Nat) : Int) + 1))) (tu_rr M 87 (tu_u (M 87) (3 * NP) (1 + ((j_327 : Nat) : Int))) (tu_u (tu_u (M 87) (3 * NP) (1 + ((j_327 : Nat) : Int))) ((3 * NP) + 1) 0)))) ?_
  refine tu_aload_n 359 X 5 dL_law_359 rfl ?_
  refine tu_iload 360 X 0 dL_law_360 rfl ?_
  refine tu_iconst 362 X dL_law_362 ?_
  refine tu_iadd 363 X dL_law_363 ?_
  refine tu_iconst 364 X dL_law_364 ?_
  refine tu_iast 365 X (M' := tu_row (tu_row M 87 (tu_u (tu_u (tu_u (M 87) (3 * NP) (1 + ((j_327 : Nat) : Int))) ((3 * NP) + 1) 0) ((3 * NP) + 2) 0)) 90 (tu_u (M 90) 5 (((NP : Nat) : Int) + 1))) ((3 * NP) + 2) dL_law_365 (by decide) rfl (by decide) (by omega) (by omega) ((tu_rc (tu_row M 87 (tu_u (tu_u (M 87) (3 * NP) (1 + ((j_327 : Nat) : Int))) ((3 * NP) + 1) 0)) (tu_u (M 90) 5 (((NP : Nat) : Int) + 1)) (tu_u (tu_u (tu_u (M 87) (3 * NP) (1 + ((j_327 : Nat) : Int))) ((3 * NP) + 1) 0) ((3 * NP) + 2) 0) rfl).trans (congrArg (fun m => tu_row m 90 (tu_u (M 90) 5 (((NP : Nat) : Int) + 1))) (tu_rr M 87 (tu_u (tu_u (M 87) (3 * NP) (1 + ((j_327 : Nat) : Int))) ((3 * NP) + 1) 0) (tu_u (tu_u (tu_u (M 87) (3 * NP) (1 + ((j_327 : Nat) : Int))) ((3 * NP) + 1) 0) ((3 * NP) + 2) 0)))) ?_
  obtain ⟨M9, hM9⟩ : ∃ m99 : tu_M, m99 = tu_row (tu_row M 87 (tu_u (tu_u (tu_u (M 87) (3 * NP) (1 + ((j_327 : Nat) : Int))) ((3 * NP) + 1) 0) ((3 * NP) + 2) 0)) 90 (tu_u (M 90) 5 (((NP : Nat) : Int) + 1)) := ⟨_, rfl⟩
  refine tu_st_eq rfl (M' := M9) hM9.symm ?_
  have hx9 : ∀ i, i < 86 → M9 i = M i := fun i hi => by rw [hM9, tu_row_n _ _ (by omega), tu_row_n _ _ (by omega)]
  have f91 : M9 9 1 = ((0 : Nat) : Int) := by rw [hx9 9 (by decide)]; exact hw0
  have f0 : M9 87 (3 * NP) = ((1 + j_327 : Nat) : Int) := by rw [hM9, tu_row_n _ _ (by decide), tu_row_s, tu_u_n _ _ (by omega), tu_u_n _ _ (by omega), tu_u_s]; omega
  have f1 : M9 87 (3 * NP + 1) = 0 := by rw [hM9, tu_row_n _ _ (by decide), tu_row_s, tu_u_n _ _ (by omega), tu_u_s]
  have f2 : M9 87 (3 * NP + 2) = 0 := by rw [hM9, tu_row_n _ _ (by decide), tu_row_s, tu_u_s]
  have f3 : ∀ i, i < 3 * NP → M9 87 i = M 87 i := fun i hi => by rw [hM9, tu_row_n _ _ (by decide), tu_row_s, tu_u_n _ _ (by omega), tu_u_n _ _ (by omega), tu_u_n _ _ (by omega)]
  refine tu_aload_n 366 X 3 dL_law_366 rfl ?_
  refine tu_ldc2 367 X (n := 124) dL_law_367 kw_RL_92 (by decide) ?_
  refine tu_callVI 370 X (st := []) (as := [tu_l 124]) (c_X3_put 124 (show 0 ≤ M9 9 1 ∧ M9 9 1 ≤ 60 from by rw [f91]; decide) (show 124 < 18446744073709551616 from by decide)) sv_RL_82 dL_law_370 rfl (by decide) rfl rfl rfl (Nat.le_of_ble_eq_true rfl) ⟨by decide, by decide⟩ (fun z N370 h => ?_)
  obtain ⟨y_370, h370_0, hz370⟩ := h
  refine tu_tp (b := y_370) hz370 ?_
  obtain ⟨hm3, hy0⟩ := tz_put (j := 0) (by decide) f91 (by decide) h370_0
  have hpp0 : tz_pp M9 N370 (3 * NP) 0 (fun _ => 0) := by
    subst hm3
    refine ⟨fun i a b c => by rw [tu_row_n _ _ b, tu_row_n _ _ a], rfl, rfl, fun j hj => absurd hj (Nat.not_lt_zero j), fun j hj => absurd hj (Nat.not_lt_zero j), ⟨⟨?_, ?_⟩, ?_, ?_⟩, fun i _ => rfl⟩
    · show tu_rg (M9 87 (3 * NP + 1)); rw [f1]; exact ⟨by decide, by decide⟩
    · show tu_mk (M9 87 (3 * NP + 1)) 0 _; rw [f1]; exact tu_mk_0
    · show tu_rg (M9 87 (3 * NP + 2)); rw [f2]; exact ⟨by decide, by decide⟩
    · show tu_mk (M9 87 (3 * NP + 2)) 0 _; rw [f2]; exact tu_mk_0
  refine tu_iconst 373 X dL_law_373 ?_
  refine tu_icmp_eq 374 X 379 dL_law_374 (by decide) (show tu_rg y_370 from by first | assumption | exact ⟨by omega, by omega⟩) ⟨by decide, by decide⟩ (fun br374 => ?_) (fun br374 => ?_)
  ·
    refine tu_iconst 379 X dL_law_379 ?_
    refine tu_istore 380 X (lv' := [(16, tu_i 0), (15, tu_i (3 * ((NP : Nat) : Int))), (14, tu_i (1 + ((j_327 : Nat) : Int))), (0, tu_r 100), (1, tu_r 0), (2, tu_r 86), (3, tu_r 87), (4, tu_r 88), (5, tu_r 89), (6, tu_r 90), (7, tu_r 91), (8, tu_i ((i8 : Nat) : Int)), (10, tu_i y8)]) dL_law_380 (by rw [hnl]; decide) rfl ?_
    have lp382 : ∀ (nq : Nat) (b9 : Nat) (kf : Nat → Int) (Mp : tu_M), (b9 ≤ 1 + j_327) → (tz_pp M9 Mp (3 * NP) b9 kf) → 1 + j_327 - b9 < nq → tu_W T 382 [(0, tu_r 100), (1, tu_r 0), (2, tu_r 86), (3, tu_r 87), (4, tu_r 88), (5, tu_r 89), (6, tu_r 90), (7, tu_r 91), (8, tu_i ((i8 : Nat) : Int)), (10, tu_i y8), (14, tu_i (1 + ((j_327 : Nat) : Int))), (15, tu_i (3 * ((NP : Nat) : Int))), (16, tu_i ((b9 : Nat) : Int))] [] Mp := by
      intro nq
      induction nq with
      | zero => intros; omega
      | succ nq ih382 =>
        intro b9 kf Mp hb9 hpp hn382
        refine tu_iload 382 X 12 dL_law_382 rfl ?_
        refine tu_iload 384 X 10 dL_law_384 rfl ?_
        refine tu_icmp_ge 386 X 494 dL_law_386 (by decide) (show tu_rg ((b9 : Nat) : Int) from by first | assumption | exact ⟨by omega, by omega⟩) (show tu_rg (1 + ((j_327 : Nat) : Int)) from by first | assumption | exact ⟨by omega, by omega⟩) (fun br386 => ?_) (fun br386 => ?_)
        ·
          have hb5 : b9 = 1 + j_327 := by omega
          have hx8 : ∀ i, i < 86 → i ≠ 9 → i ≠ 10 → Mp i = M i := fun i a b c => (hpp.1 i b c (by omega)).trans (hx9 i a)
          refine tu_aload_n 494 X 1 dL_law_494 rfl ?_
          refine tu_callVI 495 X (st := []) (as := []) (c_X3_write  (show tu_OK Mp from by exact tz_ok9 hx8 hB) (show tu_HS Mp from by exact tz_hs9 hx8 hJ.2) (show 0 ≤ Mp 9 1 ∧ Mp 9 1 ≤ 60 from by rw [hpp.2.1]; omega) (show ∀ k : Nat, (k : Int) < Mp 9 1 → tu_rg (Mp 10 k) from by exact hpp.rg)) sv_RL_89 dL_law_495 rfl (by decide) rfl rfl rfl (Nat.le_of_ble_eq_true rfl) ⟨by decide, by decide⟩ (fun z N495 h => ?_)
          obtain ⟨y_495, h495_0, hz495⟩ := h
          refine tu_tp (b := y_495) hz495 ?_
          obtain ⟨hJ2, hy1⟩ := tz_writeP hJ (fun i a b c => (hpp.1 i b c (by omega)).trans (hx9 i a)) (m := b9) (k := kf) eP (by omega) (by omega) hpp.2.1 hpp.2.2.1 hpp.2.2.2.2.1 hpp.2.2.2.1 h495_0 (by rw [hpp.2.2.2.2.2.2 _ (Nat.le_refl _), f0, hb5]) hpp.2.2.2.2.2.1.1 hpp.2.2.2.2.2.1.2 (fun i hi => by rw [hpp.2.2.2.2.2.2 i (by omega)]; exact f3 i hi) (by rw [hpp.1 86 (by decide) (by decide) (by decide), hM9]; rfl) (by rw [hpp.1 88 (by decide) (by decide) (by decide), hM9]; rfl) (by rw [hpp.1 89 (by decide) (by decide) (by decide), hM9]; rfl) (by rw [hpp.1 90 (by decide) (by decide) (by decide), hM9]; rfl)
          have e90 : N495 90 4 = ((NL : Nat) : Int) := by rw [hJ2.2, hpp.1 90 (by decide) (by decide) (by decide), hM9, tu_row_s, tu_u_n _ _ (by decide), q4.1]; exact eL
          refine tu_aload 498 X 6 dL_law_498 rfl ?_
          refine tu_iconst 500 X dL_law_500 ?_
          refine tu_iald 501 X (x := N495 90 4) 4 dL_law_501 (by decide) rfl (by decide) rfl (by decide) rfl ?_
          refine tu_tp (b := ((NL : Nat) : Int)) (by exact e90) ?_
          refine tu_icmp_eq 502 X 507 dL_law_502 (by decide) (show tu_rg y_495 from by first | assumption | exact ⟨by omega, by omega⟩) (show tu_rg ((NL : Nat) : Int) from by first | assumption | exact ⟨by omega, by omega⟩) (fun br502 => ?_) (fun br502 => ?_)
          ·
            refine tu_goto 507 X 1576 dL_law_507 (by decide) ?_
            refine tu_jmp [0, 1, 2, 3, 4, 5, 6, 7, 8, 9] (lv' := [(0, tu_r 100), (1, tu_r 0), (2, tu_r 86), (3, tu_r 87), (4, tu_r 88), (5, tu_r 89), (6, tu_r 90), (7, tu_r 91), (8, tu_i ((i8 : Nat) : Int)), (10, tu_i y8)]) ⟨rfl, rfl, rfl, rfl, rfl, rfl, rfl, rfl, rfl, rfl, trivial⟩ rfl (lp1576 N495 (by exact hJ2.1))
          ·
            exfalso; omega
        ·
          refine tu_iload 389 X 9 dL_law_389 rfl ?_
          refine tu_iconst 391 X dL_law_391 ?_
          refine tu_iload 392 X 12 dL_law_392 rfl ?_
          refine tu_imul 394 X dL_law_394 ?_
          refine tu_iconst 395 X dL_law_395 ?_
          refine tu_iadd 396 X dL_law_396 ?_
          refine tu_ishr 397 X dL_law_397 ?_
          refine tu_bipush 398 X dL_law_398 (by decide) ?_
          refine tu_st_eq (show _ = [tu_i ((7 : Nat) : Int), tu_i (tu_shr y8 ((2 * ((b9 : Nat) : Int)) + 3))] from by first | rfl | (simp only [List.cons.injEq, Sum.inl.injEq, and_true, true_and]; omega)) rfl ?_
          refine tu_callSI 400 X (st := []) (as := [tu_i (tu_shr y8 ((2 * ((b9 : Nat) : Int)) + 3)), tu_i ((7 : Nat) : Int)]) (c_L_low (tu_shr y8 ((2 * ((b9 : Nat) : Int)) + 3)) 7 (show 0 < 7 ∧ 7 < 2147483648 from by decide)) ss_RL_61 dL_law_400 rfl (Nat.le_of_ble_eq_true rfl) ⟨by decide, by decide⟩ (fun z M' h => ?_)
          obtain ⟨j_400, hM400, h400_0, hz400⟩ := h
          refine tu_st_eq rfl (M' := Mp) hM400 ?_
          refine tu_tp (b := ((j_400 : Nat) : Int)) hz400 ?_
          refine tu_istore 403 X (lv' := [(17, tu_i ((j_400 : Nat) : Int)), (0, tu_r 100), (1, tu_r 0), (2, tu_r 86), (3, tu_r 87), (4, tu_r 88), (5, tu_r 89), (6, tu_r 90), (7, tu_r 91), (8, tu_i ((i8 : Nat) : Int)), (10, tu_i y8), (14, tu_i (1 + ((j_327 : Nat) : Int))), (15, tu_i (3 * ((NP : Nat) : Int))), (16, tu_i ((b9 : Nat) : Int))]) dL_law_403 (by rw [hnl]; decide) rfl ?_
          refine tu_iload 405 X 0 dL_law_405 rfl ?_
          refine tu_iconst 407 X dL_law_407 ?_
          refine tu_icmp_ge 408 X 427 dL_law_408 (by decide) (show tu_rg ((j_400 : Nat) : Int) from by first | assumption | exact ⟨by omega, by omega⟩) ⟨by decide, by decide⟩ (fun br408 => ?_) (fun br408 => ?_)
          ·
            refine tu_iload 427 X 0 dL_law_427 rfl ?_
            refine tu_bipush 429 X dL_law_429 (by decide) ?_
            refine tu_icmp_ge 431 X 447 dL_law_431 (by decide) (show tu_rg ((j_400 : Nat) : Int) from by first | assumption | exact ⟨by omega, by omega⟩) ⟨by decide, by decide⟩ (fun br431 => ?_) (fun br431 => ?_)
            ·
              obtain ⟨Mq, hMq⟩ : ∃ m99 : tu_M, m99 = Mp := ⟨_, rfl⟩
              refine tu_st_eq rfl (M' := Mq) hMq.symm ?_
              skip
              have hpq : tz_pq M9 Mq (3 * NP) b9 kf 0 := tz_pp_0 hpp hMq
              refine tu_aload_n 447 X 2 dL_law_447 rfl ?_
              refine tu_iload 448 X 0 dL_law_448 rfl ?_
              refine tu_iconst 450 X dL_law_450 ?_
              refine tu_icmp_ge 451 X 460 dL_law_451 (by decide) (show tu_rg ((j_400 : Nat) : Int) from by first | assumption | exact ⟨by omega, by omega⟩) ⟨by decide, by decide⟩ (fun br451 => ?_) (fun br451 => ?_)
              ·
                refine tu_iload 460 X 0 dL_law_460 rfl ?_
                refine tu_bipush 462 X dL_law_462 (by decide) ?_
                refine tu_icmp_ge 464 X 473 dL_law_464 (by decide) (show tu_rg ((j_400 : Nat) : Int) from by first | assumption | exact ⟨by omega, by omega⟩) ⟨by decide, by decide⟩ (fun br464 => ?_) (fun br464 => ?_)
                ·
                  refine tu_ldc2 473 X (n := 46) dL_law_473 kw_RL_98 (by decide) ?_
                  refine tu_callVI 476 X (st := []) (as := [tu_l 46]) (c_X3_put 46 (show 0 ≤ Mq 9 1 ∧ Mq 9 1 ≤ 60 from by rw [hpq.2.1]; omega) (show 46 < 18446744073709551616 from by decide)) sv_RL_82 dL_law_476 rfl (by decide) rfl rfl rfl (Nat.le_of_ble_eq_true rfl) ⟨by decide, by decide⟩ (fun z N476 h => ?_)
                  obtain ⟨y_476, h476_0, hz476⟩ := h
                  refine tu_tp (b := y_476) hz476 ?_
                  obtain ⟨hm5, hy1⟩ := tz_put (j := b9 + 1) (by decide) (by rw [hpq.2.1]; rfl) (by omega) h476_0
                  have hpp2 := tz_pq_s hpq (by decide) hm5 (by decide)
                  refine tu_iload 479 X 13 dL_law_479 rfl ?_
                  refine tu_iconst 481 X dL_law_481 ?_
                  refine tu_iadd 482 X dL_law_482 ?_
                  refine tu_icmp_eq 483 X 488 dL_law_483 (by decide) (show tu_rg y_476 from by first | assumption | exact ⟨by omega, by omega⟩) (show tu_rg (((b9 : Nat) : Int) + 2) from by first | assumption | exact ⟨by omega, by omega⟩) (fun br483 => ?_) (fun br483 => ?_)
                  ·
                    refine tu_iinc 488 X (lv' := [(16, tu_i (((b9 : Nat) : Int) + 1)), (17, tu_i ((j_400 : Nat) : Int)), (0, tu_r 100), (1, tu_r 0), (2, tu_r 86), (3, tu_r 87), (4, tu_r 88), (5, tu_r 89), (6, tu_r 90), (7, tu_r 91), (8, tu_i ((i8 : Nat) : Int)), (10, tu_i y8), (14, tu_i (1 + ((j_327 : Nat) : Int))), (15, tu_i (3 * ((NP : Nat) : Int)))]) 13 dL_law_488 rfl (by rw [hnl]; decide) rfl ?_
                    refine tu_goto 491 X 382 dL_law_491 (by decide) ?_
                    refine tu_jmp [2, 3, 4, 5, 6, 7, 8, 9, 10, 11, 12, 13, 0] (lv' := [(0, tu_r 100), (1, tu_r 0), (2, tu_r 86), (3, tu_r 87), (4, tu_r 88), (5, tu_r 89), (6, tu_r 90), (7, tu_r 91), (8, tu_i ((i8 : Nat) : Int)), (10, tu_i y8), (14, tu_i (1 + ((j_327 : Nat) : Int))), (15, tu_i (3 * ((NP : Nat) : Int))), (16, tu_i (((b9 + 1) : Nat) : Int))]) ⟨rfl, rfl, rfl, rfl, rfl, rfl, rfl, rfl, rfl, rfl, rfl, rfl, tu_ei (by first | rfl | omega), trivial⟩ rfl (ih382 (b9 + 1) (tu_u kf b9 0) N476 (by omega) (by exact hpp2) (by omega))
                  ·
                    exfalso; omega
                ·
                  exfalso; omega
              ·
                exfalso; omega
            ·
              refine tu_aload_n 434 X 4 dL_law_434 rfl ?_
              refine tu_iload 435 X 12 dL_law_435 rfl ?_
              refine tu_iconst 437 X dL_law_437 ?_
              refine tu_iadd 438 X dL_law_438 ?_
              refine tu_dup2 439 X dL_law_439 rfl rfl ?_
              refine tu_iald 440 X (x := Mp 87 ((3 * NP) + 2)) ((3 * NP) + 2) dL_law_440 (by decide) rfl (by decide) (by omega) (by omega) rfl ?_
              refine tu_iconst 441 X dL_law_441 ?_
              refine tu_iload 442 X 13 dL_law_442 rfl ?_
              refine tu_ishl 444 X dL_law_444 ?_
              refine tu_ior 445 X dL_law_445 ?_
              refine tu_iast 446 X (M' := tu_row Mp 87 (tu_u (Mp 87) ((3 * NP) + 2) (tu_or (Mp 87 ((3 * NP) + 2)) (tu_shl 1 ((b9 : Nat) : Int))))) ((3 * NP) + 2) dL_law_446 (by decide) rfl (by decide) (by omega) (by omega) rfl ?_
              obtain ⟨Mq, hMq⟩ : ∃ m99 : tu_M, m99 = tu_row Mp 87 (tu_u (Mp 87) ((3 * NP) + 2) (tu_or (Mp 87 ((3 * NP) + 2)) (tu_shl 1 ((b9 : Nat) : Int)))) := ⟨_, rfl⟩
              refine tu_st_eq rfl (M' := Mq) hMq.symm ?_
              skip
              have hpq : tz_pq M9 Mq (3 * NP) b9 kf 1 := tz_pp_1 hpp (by omega) hMq
              refine tu_aload_n 447 X 2 dL_law_447 rfl ?_
              refine tu_iload 448 X 0 dL_law_448 rfl ?_
              refine tu_iconst 450 X dL_law_450 ?_
              refine tu_icmp_ge 451 X 460 dL_law_451 (by decide) (show tu_rg ((j_400 : Nat) : Int) from by first | assumption | exact ⟨by omega, by omega⟩) ⟨by decide, by decide⟩ (fun br451 => ?_) (fun br451 => ?_)
              ·
                refine tu_iload 460 X 0 dL_law_460 rfl ?_
                refine tu_bipush 462 X dL_law_462 (by decide) ?_
                refine tu_icmp_ge 464 X 473 dL_law_464 (by decide) (show tu_rg ((j_400 : Nat) : Int) from by first | assumption | exact ⟨by omega, by omega⟩) ⟨by decide, by decide⟩ (fun br464 => ?_) (fun br464 => ?_)
                ·
                  exfalso; omega
                ·
                  refine tu_ldc2 467 X (n := 119) dL_law_467 kw_RL_96 (by decide) ?_
                  refine tu_goto 470 X 476 dL_law_470 (by decide) ?_
                  refine tu_callVI 476 X (st := []) (as := [tu_l 119]) (c_X3_put 119 (show 0 ≤ Mq 9 1 ∧ Mq 9 1 ≤ 60 from by rw [hpq.2.1]; omega) (show 119 < 18446744073709551616 from by decide)) sv_RL_82 dL_law_476 rfl (by decide) rfl rfl rfl (Nat.le_of_ble_eq_true rfl) ⟨by decide, by decide⟩ (fun z N476 h => ?_)
                  obtain ⟨y_476, h476_0, hz476⟩ := h
                  refine tu_tp (b := y_476) hz476 ?_
                  obtain ⟨hm5, hy1⟩ := tz_put (j := b9 + 1) (by decide) (by rw [hpq.2.1]; rfl) (by omega) h476_0
                  have hpp2 := tz_pq_s hpq (by decide) hm5 (by decide)
                  refine tu_iload 479 X 13 dL_law_479 rfl ?_
                  refine tu_iconst 481 X dL_law_481 ?_
                  refine tu_iadd 482 X dL_law_482 ?_
                  refine tu_icmp_eq 483 X 488 dL_law_483 (by decide) (show tu_rg y_476 from by first | assumption | exact ⟨by omega, by omega⟩) (show tu_rg (((b9 : Nat) : Int) + 2) from by first | assumption | exact ⟨by omega, by omega⟩) (fun br483 => ?_) (fun br483 => ?_)
                  ·
                    refine tu_iinc 488 X (lv' := [(16, tu_i (((b9 : Nat) : Int) + 1)), (17, tu_i ((j_400 : Nat) : Int)), (0, tu_r 100), (1, tu_r 0), (2, tu_r 86), (3, tu_r 87), (4, tu_r 88), (5, tu_r 89), (6, tu_r 90), (7, tu_r 91), (8, tu_i ((i8 : Nat) : Int)), (10, tu_i y8), (14, tu_i (1 + ((j_327 : Nat) : Int))), (15, tu_i (3 * ((NP : Nat) : Int)))]) 13 dL_law_488 rfl (by rw [hnl]; decide) rfl ?_
                    refine tu_goto 491 X 382 dL_law_491 (by decide) ?_
                    refine tu_jmp [2, 3, 4, 5, 6, 7, 8, 9, 10, 11, 12, 13, 0] (lv' := [(0, tu_r 100), (1, tu_r 0), (2, tu_r 86), (3, tu_r 87), (4, tu_r 88), (5, tu_r 89), (6, tu_r 90), (7, tu_r 91), (8, tu_i ((i8 : Nat) : Int)), (10, tu_i y8), (14, tu_i (1 + ((j_327 : Nat) : Int))), (15, tu_i (3 * ((NP : Nat) : Int))), (16, tu_i (((b9 + 1) : Nat) : Int))]) ⟨rfl, rfl, rfl, rfl, rfl, rfl, rfl, rfl, rfl, rfl, rfl, rfl, tu_ei (by first | rfl | omega), trivial⟩ rfl (ih382 (b9 + 1) (tu_u kf b9 1) N476 (by omega) (by exact hpp2) (by omega))
                  ·
                    exfalso; omega
              ·
                exfalso; omega
          ·
            refine tu_aload_n 411 X 4 dL_law_411 rfl ?_
            refine tu_iload 412 X 12 dL_law_412 rfl ?_
            refine tu_iconst 414 X dL_law_414 ?_
            refine tu_iadd 415 X dL_law_415 ?_
            refine tu_dup2 416 X dL_law_416 rfl rfl ?_
            refine tu_iald 417 X (x := Mp 87 ((3 * NP) + 1)) ((3 * NP) + 1) dL_law_417 (by decide) rfl (by decide) (by omega) (by omega) rfl ?_
            refine tu_iconst 418 X dL_law_418 ?_
            refine tu_iload 419 X 13 dL_law_419 rfl ?_
            refine tu_ishl 421 X dL_law_421 ?_
            refine tu_ior 422 X dL_law_422 ?_
            refine tu_iast 423 X (M' := tu_row Mp 87 (tu_u (Mp 87) ((3 * NP) + 1) (tu_or (Mp 87 ((3 * NP) + 1)) (tu_shl 1 ((b9 : Nat) : Int))))) ((3 * NP) + 1) dL_law_423 (by decide) rfl (by decide) (by omega) (by omega) rfl ?_
            refine tu_goto 424 X 447 dL_law_424 (by decide) ?_
            obtain ⟨Mq, hMq⟩ : ∃ m99 : tu_M, m99 = tu_row Mp 87 (tu_u (Mp 87) ((3 * NP) + 1) (tu_or (Mp 87 ((3 * NP) + 1)) (tu_shl 1 ((b9 : Nat) : Int)))) := ⟨_, rfl⟩
            refine tu_st_eq rfl (M' := Mq) hMq.symm ?_
            skip
            have hpq : tz_pq M9 Mq (3 * NP) b9 kf 2 := tz_pp_2 hpp (by omega) hMq
            refine tu_aload_n 447 X 2 dL_law_447 rfl ?_
            refine tu_iload 448 X 0 dL_law_448 rfl ?_
            refine tu_iconst 450 X dL_law_450 ?_
            refine tu_icmp_ge 451 X 460 dL_law_451 (by decide) (show tu_rg ((j_400 : Nat) : Int) from by first | assumption | exact ⟨by omega, by omega⟩) ⟨by decide, by decide⟩ (fun br451 => ?_) (fun br451 => ?_)
            ·
              exfalso; omega
            ·
              refine tu_ldc2 454 X (n := 115) dL_law_454 kw_RL_94 (by decide) ?_
              refine tu_goto 457 X 476 dL_law_457 (by decide) ?_
              refine tu_callVI 476 X (st := []) (as := [tu_l 115]) (c_X3_put 115 (show 0 ≤ Mq 9 1 ∧ Mq 9 1 ≤ 60 from by rw [hpq.2.1]; omega) (show 115 < 18446744073709551616 from by decide)) sv_RL_82 dL_law_476 rfl (by decide) rfl rfl rfl (Nat.le_of_ble_eq_true rfl) ⟨by decide, by decide⟩ (fun z N476 h => ?_)
              obtain ⟨y_476, h476_0, hz476⟩ := h
              refine tu_tp (b := y_476) hz476 ?_
              obtain ⟨hm5, hy1⟩ := tz_put (j := b9 + 1) (by decide) (by rw [hpq.2.1]; rfl) (by omega) h476_0
              have hpp2 := tz_pq_s hpq (by decide) hm5 (by decide)
              refine tu_iload 479 X 13 dL_law_479 rfl ?_
              refine tu_iconst 481 X dL_law_481 ?_
              refine tu_iadd 482 X dL_law_482 ?_
              refine tu_icmp_eq 483 X 488 dL_law_483 (by decide) (show tu_rg y_476 from by first | assumption | exact ⟨by omega, by omega⟩) (show tu_rg (((b9 : Nat) : Int) + 2) from by first | assumption | exact ⟨by omega, by omega⟩) (fun br483 => ?_) (fun br483 => ?_)
              ·
                refine tu_iinc 488 X (lv' := [(16, tu_i (((b9 : Nat) : Int) + 1)), (17, tu_i ((j_400 : Nat) : Int)), (0, tu_r 100), (1, tu_r 0), (2, tu_r 86), (3, tu_r 87), (4, tu_r 88), (5, tu_r 89), (6, tu_r 90), (7, tu_r 91), (8, tu_i ((i8 : Nat) : Int)), (10, tu_i y8), (14, tu_i (1 + ((j_327 : Nat) : Int))), (15, tu_i (3 * ((NP : Nat) : Int)))]) 13 dL_law_488 rfl (by rw [hnl]; decide) rfl ?_
                refine tu_goto 491 X 382 dL_law_491 (by decide) ?_
                refine tu_jmp [2, 3, 4, 5, 6, 7, 8, 9, 10, 11, 12, 13, 0] (lv' := [(0, tu_r 100), (1, tu_r 0), (2, tu_r 86), (3, tu_r 87), (4, tu_r 88), (5, tu_r 89), (6, tu_r 90), (7, tu_r 91), (8, tu_i ((i8 : Nat) : Int)), (10, tu_i y8), (14, tu_i (1 + ((j_327 : Nat) : Int))), (15, tu_i (3 * ((NP : Nat) : Int))), (16, tu_i (((b9 + 1) : Nat) : Int))]) ⟨rfl, rfl, rfl, rfl, rfl, rfl, rfl, rfl, rfl, rfl, rfl, rfl, tu_ei (by first | rfl | omega), trivial⟩ rfl (ih382 (b9 + 1) (tu_u kf b9 2) N476 (by omega) (by exact hpp2) (by omega))
              ·
                exfalso; omega
    refine tu_jmp [3, 4, 5, 6, 7, 8, 9, 10, 11, 12, 2, 1, 0] (lv' := [(0, tu_r 100), (1, tu_r 0), (2, tu_r 86), (3, tu_r 87), (4, tu_r 88), (5, tu_r 89), (6, tu_r 90), (7, tu_r 91), (8, tu_i ((i8 : Nat) : Int)), (10, tu_i y8), (14, tu_i (1 + ((j_327 : Nat) : Int))), (15, tu_i (3 * ((NP : Nat) : Int))), (16, tu_i 0)]) ⟨rfl, rfl, rfl, rfl, rfl, rfl, rfl, rfl, rfl, rfl, rfl, rfl, rfl, trivial⟩ rfl (lp382 ((1 + j_327 - 0) + 1) 0 (fun _ => 0) N370 (by omega) (by exact hpp0) (by omega))
  ·
    exfalso; omega
