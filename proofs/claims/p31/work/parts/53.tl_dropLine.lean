set_option maxRecDepth 20000 in
set_option maxHeartbeats 1000000 in
theorem tl_dropLine {T : tu_T} (X : tu_X T cL_law RL 9 344) (hnl : T.2.2.2.2.2.2.2.2.2.2.1 = 18) {M : tu_M} (hJ : tz_J M) {i8 : Nat} {y8 : Int} {l9 : Nat} (hl : (l9 : Int) < M 1 1) (lp1576 : ∀ (Mz : tu_M), (tz_J Mz) → tu_W T 1576 [(0, tu_r 100), (1, tu_r 0), (2, tu_r 86), (3, tu_r 87), (4, tu_r 88), (5, tu_r 89), (6, tu_r 90), (7, tu_r 91), (8, tu_i ((i8 : Nat) : Int)), (10, tu_i y8)] [] Mz) : tu_W T 532 [(0, tu_r 100), (1, tu_r 0), (2, tu_r 86), (3, tu_r 87), (4, tu_r 88), (5, tu_r 89), (6, tu_r 90), (7, tu_r 91), (8, tu_i ((i8 : Nat) : Int)), (10, tu_i y8), (12, tu_i ((l9 : Nat) : Int))] [] M := by
  have hR := hJ.1
  have hB := hR.ok
  have cn := hB.cnt
  have hsm := hR.small
  have q4 := hR.q4
  have hqs := hR.qs
  obtain ⟨NL, eL⟩ : ∃ c : Nat, M 1 1 = (c : Int) := ⟨(M 1 1).toNat, by omega⟩
  obtain ⟨NP, eP⟩ : ∃ c : Nat, M 1 4 = (c : Int) := ⟨(M 1 4).toNat, by omega⟩
  obtain ⟨NB, eB⟩ : ∃ c : Nat, M 1 7 = (c : Int) := ⟨(M 1 7).toNat, by omega⟩
  obtain ⟨NT, eT⟩ : ∃ c : Nat, M 1 9 = (c : Int) := ⟨(M 1 9).toNat, by omega⟩
  refine tu_iconst 532 X dL_law_532 ?_
  refine tu_istore 533 X (lv' := [(14, tu_i 0), (0, tu_r 100), (1, tu_r 0), (2, tu_r 86), (3, tu_r 87), (4, tu_r 88), (5, tu_r 89), (6, tu_r 90), (7, tu_r 91), (8, tu_i ((i8 : Nat) : Int)), (10, tu_i y8), (12, tu_i ((l9 : Nat) : Int))]) dL_law_533 (by rw [hnl]; decide) rfl ?_
  refine tu_iconst 535 X dL_law_535 ?_
  refine tu_istore 536 X (lv' := [(15, tu_i 0), (14, tu_i 0), (0, tu_r 100), (1, tu_r 0), (2, tu_r 86), (3, tu_r 87), (4, tu_r 88), (5, tu_r 89), (6, tu_r 90), (7, tu_r 91), (8, tu_i ((i8 : Nat) : Int)), (10, tu_i y8), (12, tu_i ((l9 : Nat) : Int))]) dL_law_536 (by rw [hnl]; decide) rfl ?_
  refine tu_st_eq rfl (M' := tu_row M 88 (M 88)) ((tu_rx M 88).symm) ?_
  have lp538 : ∀ (nq : Nat) (k9 : Nat), (k9 ≤ NB) → NB - k9 < nq → tu_W T 538 [(0, tu_r 100), (1, tu_r 0), (2, tu_r 86), (3, tu_r 87), (4, tu_r 88), (5, tu_r 89), (6, tu_r 90), (7, tu_r 91), (8, tu_i ((i8 : Nat) : Int)), (10, tu_i y8), (12, tu_i ((l9 : Nat) : Int)), (14, tu_i ((tu_kc (M 88) 0 ((l9 : Nat) : Int) k9 : Nat) : Int)), (15, tu_i ((k9 : Nat) : Int))] [] (tu_row M 88 (tu_wr (M 88) 0 ((l9 : Nat) : Int) k9)) := by
    intro nq
    induction nq with
    | zero => intros; omega
    | succ nq ih538 =>
      intro k9 hk9 hn538
      have hkc0 := tu_kc_le (M 88) 0 ((l9 : Nat) : Int) k9
      refine tu_iload 538 X 12 dL_law_538 rfl ?_
      refine tu_aload 540 X 6 dL_law_540 rfl ?_
      refine tu_bipush 542 X dL_law_542 (by decide) ?_
      refine tu_iald 544 X (x := M 90 6) 6 dL_law_544 (by decide) rfl (by decide) rfl (by decide) rfl ?_
      refine tu_tp (b := ((NB : Nat) : Int)) (by rw [q4.2.2.1]; exact eB) ?_
      refine tu_icmp_ge 545 X 597 dL_law_545 (by decide) (show tu_rg ((k9 : Nat) : Int) from by first | assumption | exact ⟨by omega, by omega⟩) (show tu_rg ((NB : Nat) : Int) from by first | assumption | exact ⟨by omega, by omega⟩) (fun br545 => ?_) (fun br545 => ?_)
      ·
        refine tu_jmp [0, 1, 2, 3, 4, 5, 6, 7, 8, 9, 10, 11, 12] (lv' := [(0, tu_r 100), (1, tu_r 0), (2, tu_r 86), (3, tu_r 87), (4, tu_r 88), (5, tu_r 89), (6, tu_r 90), (7, tu_r 91), (8, tu_i ((i8 : Nat) : Int)), (10, tu_i y8), (12, tu_i ((l9 : Nat) : Int)), (14, tu_i ((tu_kc (M 88) 0 ((l9 : Nat) : Int) NB : Nat) : Int)), (15, tu_i ((k9 : Nat) : Int))]) ⟨rfl, rfl, rfl, rfl, rfl, rfl, rfl, rfl, rfl, rfl, rfl, tu_ei (by rw [show NB = k9 from by omega]), rfl, trivial⟩ rfl ?_
        refine tu_aload 597 X 6 dL_law_597 rfl ?_
        refine tu_bipush 599 X dL_law_599 (by decide) ?_
        refine tu_iload 601 X 11 dL_law_601 rfl ?_
        refine tu_iast 603 X (M' := tu_row (tu_row M 88 (tu_wr (M 88) 0 ((l9 : Nat) : Int) k9)) 90 (tu_u (M 90) 6 ((tu_kc (M 88) 0 ((l9 : Nat) : Int) NB : Nat) : Int))) 6 dL_law_603 (by decide) rfl (by decide) rfl (by decide) rfl ?_
        refine tu_aload 604 X 6 dL_law_604 rfl ?_
        refine tu_iconst 606 X dL_law_606 ?_
        refine tu_dup2 607 X dL_law_607 rfl rfl ?_
        refine tu_iald 608 X (x := (tu_u (M 90) 6 ((tu_kc (M 88) 0 ((l9 : Nat) : Int) NB : Nat) : Int)) 4) 4 dL_law_608 (by decide) rfl (by decide) rfl (by decide) rfl ?_
        refine tu_tp (b := ((NL : Nat) : Int)) (by rw [tu_u_n _ _ (by decide), q4.1]; exact eL) ?_
        refine tu_iconst 609 X dL_law_609 ?_
        refine tu_isub 610 X dL_law_610 ?_
        refine tu_iast 611 X (M' := tu_row (tu_row M 88 (tu_wr (M 88) 0 ((l9 : Nat) : Int) k9)) 90 (tu_u (tu_u (M 90) 6 ((tu_kc (M 88) 0 ((l9 : Nat) : Int) NB : Nat) : Int)) 4 (((NL : Nat) : Int) - 1))) 4 dL_law_611 (by decide) rfl (by decide) rfl (by decide) (tu_rr (tu_row M 88 (tu_wr (M 88) 0 ((l9 : Nat) : Int) k9)) 90 (tu_u (M 90) 6 ((tu_kc (M 88) 0 ((l9 : Nat) : Int) NB : Nat) : Int)) (tu_u (tu_u (M 90) 6 ((tu_kc (M 88) 0 ((l9 : Nat) : Int) NB : Nat) : Int)) 4 (((NL : Nat) : Int) - 1))) ?_
        refine tu_iconst 612 X dL_law_612 ?_
        refine tu_iload 613 X 10 dL_law_613 rfl ?_
        refine tu_imul 615 X dL_law_615 ?_
        refine tu_istore 616 X (lv' := [(15, tu_i (2 * ((l9 : Nat) : Int))), (0, tu_r 100), (1, tu_r 0), (2, tu_r 86), (3, tu_r 87), (4, tu_r 88), (5, tu_r 89), (6, tu_r 90), (7, tu_r 91), (8, tu_i ((i8 : Nat) : Int)), (10, tu_i y8), (12, tu_i ((l9 : Nat) : Int)), (14, tu_i ((tu_kc (M 88) 0 ((l9 : Nat) : Int) NB : Nat) : Int))]) dL_law_616 (by rw [hnl]; decide) rfl ?_
        refine tu_st_eq rfl (M' := tu_row (tu_row (tu_row M 86 (M 86)) 88 (tu_wr (M 88) 0 ((l9 : Nat) : Int) k9)) 90 (tu_u (tu_u (M 90) 6 ((tu_kc (M 88) 0 ((l9 : Nat) : Int) NB : Nat) : Int)) 4 (((NL : Nat) : Int) - 1))) ((congrArg (fun m => tu_row m 90 (tu_u (tu_u (M 90) 6 ((tu_kc (M 88) 0 ((l9 : Nat) : Int) NB : Nat) : Int)) 4 (((NL : Nat) : Int) - 1))) ((congrArg (fun m => tu_row m 88 (tu_wr (M 88) 0 ((l9 : Nat) : Int) k9)) ((tu_rx M 86).symm)).trans rfl)).trans rfl) ?_
        have lp618 : ∀ (nq : Nat) (k8 : Nat), (2 * l9 ≤ k8 ∧ k8 ≤ 2 * (NL - 1)) → 2 * (NL - 1) - k8 < nq → tu_W T 618 [(0, tu_r 100), (1, tu_r 0), (2, tu_r 86), (3, tu_r 87), (4, tu_r 88), (5, tu_r 89), (6, tu_r 90), (7, tu_r 91), (8, tu_i ((i8 : Nat) : Int)), (10, tu_i y8), (12, tu_i ((l9 : Nat) : Int)), (14, tu_i ((tu_kc (M 88) 0 ((l9 : Nat) : Int) NB : Nat) : Int)), (15, tu_i ((k8 : Nat) : Int))] [] (tu_row (tu_row (tu_row M 86 (tz_sh (M 86) (2 * l9) 2 k8)) 88 (tu_wr (M 88) 0 ((l9 : Nat) : Int) k9)) 90 (tu_u (tu_u (M 90) 6 ((tu_kc (M 88) 0 ((l9 : Nat) : Int) NB : Nat) : Int)) 4 (((NL : Nat) : Int) - 1))) := by
          intro nq
          induction nq with
          | zero => intros; omega
          | succ nq ih618 =>
            intro k8 hk8 hn618
            refine tu_iload 618 X 12 dL_law_618 rfl ?_
            refine tu_iconst 620 X dL_law_620 ?_
            refine tu_aload 621 X 6 dL_law_621 rfl ?_
            refine tu_iconst 623 X dL_law_623 ?_
            refine tu_iald 624 X (x := (tu_u (tu_u (M 90) 6 ((tu_kc (M 88) 0 ((l9 : Nat) : Int) NB : Nat) : Int)) 4 (((NL : Nat) : Int) - 1)) 4) 4 dL_law_624 (by decide) rfl (by decide) rfl (by decide) rfl ?_
            refine tu_tp (b := ((NL - 1 : Nat) : Int)) (by rw [tu_u_s]; omega) ?_
            refine tu_imul 625 X dL_law_625 ?_
            refine tu_icmp_ge 626 X 645 dL_law_626 (by decide) (show tu_rg ((k8 : Nat) : Int) from by first | assumption | exact ⟨by omega, by omega⟩) (show tu_rg (2 * ((NL - 1 : Nat) : Int)) from by first | assumption | exact ⟨by omega, by omega⟩) (fun br626 => ?_) (fun br626 => ?_)
            ·
              obtain ⟨Mx, hMx⟩ : ∃ m99 : tu_M, m99 = tu_row (tu_row (tu_row M 86 (tz_sh (M 86) (2 * l9) 2 k8)) 88 (tu_wr (M 88) 0 ((l9 : Nat) : Int) k9)) 90 (tu_u (tu_u (M 90) 6 ((tu_kc (M 88) 0 ((l9 : Nat) : Int) NB : Nat) : Int)) 4 (((NL : Nat) : Int) - 1)) := ⟨_, rfl⟩
              refine tu_st_eq rfl (M' := Mx) hMx.symm ?_
              have hx : tz_x M Mx := by
                rw [hMx]
                first | exact tz_x.rf _ | exact (tz_x.rf _).row _ (by decide) | exact ((tz_x.rf _).row _ (by decide)).row _ (by decide) | exact (((tz_x.rf _).row _ (by decide)).row _ (by decide)).row _ (by decide)
              have r87 : Mx 87 = M 87 := by first | (rw [hMx]; done) | (rw [hMx]; rfl)
              have r89 : Mx 89 = M 89 := by first | (rw [hMx]; done) | (rw [hMx]; rfl)
              have c1 : ∀ i, i < 12 → Mx 86 i = if 2 * l9 ≤ i ∧ i < 2 * (NL - 1) then M 86 (i + 2) else M 86 i := fun i hi => by
                rw [hMx, show 2 * (NL - 1) = k8 by omega]
                rfl
              have c2 : Mx 88 = tu_wr (M 88) 0 ((l9 : Nat) : Int) (M 1 7).toNat := by
                rw [hMx, show (M 1 7).toNat = k9 by omega]
                rfl
              have c3 : Mx 90 = tu_u (tu_u (M 90) 6 ((tu_kc (M 88) 0 ((l9 : Nat) : Int) (M 1 7).toNat : Nat) : Int)) 4 (((NL : Nat) : Int) - 1) := by
                rw [hMx, show (M 1 7).toNat = NB by omega]
                rfl
              refine tu_aload_n 645 X 1 dL_law_645 rfl ?_
              refine tu_iload 646 X 10 dL_law_646 rfl ?_
              refine tu_callVI 648 X (st := []) (as := [tu_i ((l9 : Nat) : Int)]) (c_X3_dropLine ((l9 : Nat) : Int) (show tu_OK Mx from by exact hx.ok hB) (show tu_HS Mx from by exact hx.hs hJ.2) (show tu_rg ((l9 : Nat) : Int) from by first | assumption | omega | exact ⟨by omega, by omega⟩ | decide)) sv_RL_100 dL_law_648 rfl (by decide) rfl rfl rfl (Nat.le_of_ble_eq_true rfl) ⟨by decide, by decide⟩ (fun z N648 h => ?_)
              obtain ⟨y_648, h648_0, hz648⟩ := h
              refine tu_tp (b := y_648) hz648 ?_
              obtain ⟨hJ2, hy1⟩ := tz_dropLine hJ hx (show l9 < NL by omega) eL h648_0 r87 r89 c1 c2 c3
              rw [show (M 1 7).toNat = NB by omega] at hy1
              have hkr := tu_kc_le (M 88) 0 ((l9 : Nat) : Int) NB
              refine tu_iload 651 X 11 dL_law_651 rfl ?_
              refine tu_icmp_eq 653 X 658 dL_law_653 (by decide) (show tu_rg y_648 from by first | assumption | exact ⟨by omega, by omega⟩) (show tu_rg ((tu_kc (M 88) 0 ((l9 : Nat) : Int) NB : Nat) : Int) from by first | assumption | exact ⟨by omega, by omega⟩) (fun br653 => ?_) (fun br653 => ?_)
              ·
                refine tu_goto 658 X 1576 dL_law_658 (by decide) ?_
                refine tu_jmp [0, 1, 2, 3, 4, 5, 6, 7, 8, 9] (lv' := [(0, tu_r 100), (1, tu_r 0), (2, tu_r 86), (3, tu_r 87), (4, tu_r 88), (5, tu_r 89), (6, tu_r 90), (7, tu_r 91), (8, tu_i ((i8 : Nat) : Int)), (10, tu_i y8)]) ⟨rfl, rfl, rfl, rfl, rfl, rfl, rfl, rfl, rfl, rfl, trivial⟩ rfl (lp1576 N648 (by exact hJ2))
              ·
                exfalso; omega
            ·
              refine tu_aload_n 629 X 2 dL_law_629 rfl ?_
              refine tu_iload 630 X 12 dL_law_630 rfl ?_
              refine tu_aload_n 632 X 2 dL_law_632 rfl ?_
              refine tu_iload 633 X 12 dL_law_633 rfl ?_
              refine tu_iconst 635 X dL_law_635 ?_
              refine tu_iadd 636 X dL_law_636 ?_
              refine tu_iald 637 X (x := (tz_sh (M 86) (2 * l9) 2 k8) (k8 + 2)) (k8 + 2) dL_law_637 (by decide) rfl (by decide) (by omega) (by omega) rfl ?_
              refine tu_tp (b := (M 86 (k8 + 2))) (by exact tz_sh_at (by omega)) ?_
              refine tu_iast 638 X (M' := tu_row (tu_row (tu_row M 86 (tu_u (tz_sh (M 86) (2 * l9) 2 k8) k8 (M 86 (k8 + 2)))) 88 (tu_wr (M 88) 0 ((l9 : Nat) : Int) k9)) 90 (tu_u (tu_u (M 90) 6 ((tu_kc (M 88) 0 ((l9 : Nat) : Int) NB : Nat) : Int)) 4 (((NL : Nat) : Int) - 1))) k8 dL_law_638 (by decide) rfl (by decide) (by omega) (by omega) ((tu_rc (tu_row (tu_row M 86 (tz_sh (M 86) (2 * l9) 2 k8)) 88 (tu_wr (M 88) 0 ((l9 : Nat) : Int) k9)) (tu_u (tu_u (M 90) 6 ((tu_kc (M 88) 0 ((l9 : Nat) : Int) NB : Nat) : Int)) 4 (((NL : Nat) : Int) - 1)) (tu_u (tz_sh (M 86) (2 * l9) 2 k8) k8 (M 86 (k8 + 2))) rfl).trans (congrArg (fun m => tu_row m 90 (tu_u (tu_u (M 90) 6 ((tu_kc (M 88) 0 ((l9 : Nat) : Int) NB : Nat) : Int)) 4 (((NL : Nat) : Int) - 1))) ((tu_rc (tu_row M 86 (tz_sh (M 86) (2 * l9) 2 k8)) (tu_wr (M 88) 0 ((l9 : Nat) : Int) k9) (tu_u (tz_sh (M 86) (2 * l9) 2 k8) k8 (M 86 (k8 + 2))) rfl).trans (congrArg (fun m => tu_row m 88 (tu_wr (M 88) 0 ((l9 : Nat) : Int) k9)) (tu_rr M 86 (tz_sh (M 86) (2 * l9) 2 k8) (tu_u (tz_sh (M 86) (2 * l9) 2 k8) k8 (M 86 (k8 + 2)))))))) ?_
              refine tu_iinc 639 X (lv' := [(15, tu_i (((k8 : Nat) : Int) + 1)), (0, tu_r 100), (1, tu_r 0), (2, tu_r 86), (3, tu_r 87), (4, tu_r 88), (5, tu_r 89), (6, tu_r 90), (7, tu_r 91), (8, tu_i ((i8 : Nat) : Int)), (10, tu_i y8), (12, tu_i ((l9 : Nat) : Int)), (14, tu_i ((tu_kc (M 88) 0 ((l9 : Nat) : Int) NB : Nat) : Int))]) 12 dL_law_639 rfl (by rw [hnl]; decide) rfl ?_
              refine tu_goto 642 X 618 dL_law_642 (by decide) ?_
              refine tu_jmp [1, 2, 3, 4, 5, 6, 7, 8, 9, 10, 11, 12, 0] (lv' := [(0, tu_r 100), (1, tu_r 0), (2, tu_r 86), (3, tu_r 87), (4, tu_r 88), (5, tu_r 89), (6, tu_r 90), (7, tu_r 91), (8, tu_i ((i8 : Nat) : Int)), (10, tu_i y8), (12, tu_i ((l9 : Nat) : Int)), (14, tu_i ((tu_kc (M 88) 0 ((l9 : Nat) : Int) NB : Nat) : Int)), (15, tu_i (((k8 + 1) : Nat) : Int))]) ⟨rfl, rfl, rfl, rfl, rfl, rfl, rfl, rfl, rfl, rfl, rfl, rfl, tu_ei (by first | rfl | omega), trivial⟩ (by first | rfl | (first | (rw [tz_sh_0]; done) | (rw [tz_sh_s (by omega)]))) (ih618 (k8 + 1) (by omega) (by omega))
        refine tu_jmp [1, 2, 3, 4, 5, 6, 7, 8, 9, 10, 11, 12, 0] (lv' := [(0, tu_r 100), (1, tu_r 0), (2, tu_r 86), (3, tu_r 87), (4, tu_r 88), (5, tu_r 89), (6, tu_r 90), (7, tu_r 91), (8, tu_i ((i8 : Nat) : Int)), (10, tu_i y8), (12, tu_i ((l9 : Nat) : Int)), (14, tu_i ((tu_kc (M 88) 0 ((l9 : Nat) : Int) NB : Nat) : Int)), (15, tu_i (((2 * l9) : Nat) : Int))]) ⟨rfl, rfl, rfl, rfl, rfl, rfl, rfl, rfl, rfl, rfl, rfl, rfl, tu_ei (by first | rfl | omega), trivial⟩ (by first | rfl | (first | (rw [tz_sh_0]; done) | (rw [tz_sh_s (by omega)]))) (lp618 ((2 * (NL - 1) - (2 * l9)) + 1) (2 * l9) (by omega) (by omega))
      ·
        have hbk := hB.bal k9 (by omega)
        have hba : (M 88) k9 = M 7 k9 := hR.ba k9 (by omega)
        have hkl := tu_kc_le (M 88) 0 ((l9 : Nat) : Int) k9
        have hwo : (tu_wr (M 88) 0 ((l9 : Nat) : Int) k9) k9 = (M 88) k9 := tu_wr_old (M 88) 0 ((l9 : Nat) : Int) k9 k9 (by omega)
        have hk1 : tu_kc (M 88) 0 ((l9 : Nat) : Int) (k9 + 1) = (tu_kc (M 88) 0 ((l9 : Nat) : Int) k9) + (if (M 88) (0 + k9) = ((l9 : Nat) : Int) then 0 else 1) := rfl
        have hw1 : tu_wr (M 88) 0 ((l9 : Nat) : Int) (k9 + 1) = if (M 88) (0 + k9) = ((l9 : Nat) : Int) then (tu_wr (M 88) 0 ((l9 : Nat) : Int) k9) else tu_u (tu_wr (M 88) 0 ((l9 : Nat) : Int) k9) (0 + (tu_kc (M 88) 0 ((l9 : Nat) : Int) k9)) (if ((l9 : Nat) : Int) < (M 88) (0 + k9) then (M 88) (0 + k9) - 1 else (M 88) (0 + k9)) := rfl
        rw [Nat.zero_add] at hk1 hw1
        refine tu_aload 548 X 4 dL_law_548 rfl ?_
        refine tu_iload 550 X 12 dL_law_550 rfl ?_
        refine tu_iald 552 X (x := (tu_wr (M 88) 0 ((l9 : Nat) : Int) k9) k9) k9 dL_law_552 (by decide) rfl (by decide) (by omega) (by omega) rfl ?_
        refine tu_tp (b := ((M 88) k9)) (by exact hwo) ?_
        refine tu_iload 553 X 10 dL_law_553 rfl ?_
        refine tu_icmp_eq 555 X 591 dL_law_555 (by decide) (show tu_rg ((M 88) k9) from by first | assumption | exact ⟨by omega, by omega⟩) (show tu_rg ((l9 : Nat) : Int) from by first | assumption | exact ⟨by omega, by omega⟩) (fun br555 => ?_) (fun br555 => ?_)
        ·
          rw [if_pos br555] at hk1 hw1
          refine tu_iinc 591 X (lv' := [(15, tu_i (((k9 : Nat) : Int) + 1)), (0, tu_r 100), (1, tu_r 0), (2, tu_r 86), (3, tu_r 87), (4, tu_r 88), (5, tu_r 89), (6, tu_r 90), (7, tu_r 91), (8, tu_i ((i8 : Nat) : Int)), (10, tu_i y8), (12, tu_i ((l9 : Nat) : Int)), (14, tu_i ((tu_kc (M 88) 0 ((l9 : Nat) : Int) k9 : Nat) : Int))]) 12 dL_law_591 rfl (by rw [hnl]; decide) rfl ?_
          refine tu_goto 594 X 538 dL_law_594 (by decide) ?_
          refine tu_jmp [1, 2, 3, 4, 5, 6, 7, 8, 9, 10, 11, 12, 0] (lv' := [(0, tu_r 100), (1, tu_r 0), (2, tu_r 86), (3, tu_r 87), (4, tu_r 88), (5, tu_r 89), (6, tu_r 90), (7, tu_r 91), (8, tu_i ((i8 : Nat) : Int)), (10, tu_i y8), (12, tu_i ((l9 : Nat) : Int)), (14, tu_i ((tu_kc (M 88) 0 ((l9 : Nat) : Int) (k9 + 1) : Nat) : Int)), (15, tu_i (((k9 + 1) : Nat) : Int))]) ⟨rfl, rfl, rfl, rfl, rfl, rfl, rfl, rfl, rfl, rfl, rfl, tu_ei (by first | rfl | (rw [hk1]; first | rfl | omega)), tu_ei (by first | rfl | omega), trivial⟩ (by first | rfl | (first | (rw [hw1]; done) | (rw [hw1, Nat.zero_add]))) (ih538 (k9 + 1) (by omega) (by omega))
        ·
          rw [if_neg br555] at hk1 hw1
          refine tu_aload 558 X 4 dL_law_558 rfl ?_
          refine tu_iload 560 X 11 dL_law_560 rfl ?_
          refine tu_iinc 562 X (lv' := [(14, tu_i (((tu_kc (M 88) 0 ((l9 : Nat) : Int) k9 : Nat) : Int) + 1)), (0, tu_r 100), (1, tu_r 0), (2, tu_r 86), (3, tu_r 87), (4, tu_r 88), (5, tu_r 89), (6, tu_r 90), (7, tu_r 91), (8, tu_i ((i8 : Nat) : Int)), (10, tu_i y8), (12, tu_i ((l9 : Nat) : Int)), (15, tu_i ((k9 : Nat) : Int))]) 11 dL_law_562 rfl (by rw [hnl]; decide) rfl ?_
          refine tu_aload 565 X 5 dL_law_565 rfl ?_
          refine tu_iload 567 X 12 dL_law_567 rfl ?_
          refine tu_iald 569 X (x := (tu_wr (M 88) 0 ((l9 : Nat) : Int) k9) k9) k9 dL_law_569 (by decide) rfl (by decide) (by omega) (by omega) rfl ?_
          refine tu_tp (b := ((M 88) k9)) (by exact hwo) ?_
          refine tu_iload 570 X 11 dL_law_570 rfl ?_
          refine tu_icmp_le 572 X 585 dL_law_572 (by decide) (show tu_rg ((M 88) k9) from by first | assumption | exact ⟨by omega, by omega⟩) (show tu_rg ((l9 : Nat) : Int) from by first | assumption | exact ⟨by omega, by omega⟩) (fun br572 => ?_) (fun br572 => ?_)
          ·
            rw [if_neg (show ¬ ((l9 : Nat) : Int) < (M 88) k9 from by omega)] at hw1
            refine tu_aload 585 X 5 dL_law_585 rfl ?_
            refine tu_iload 587 X 12 dL_law_587 rfl ?_
            refine tu_iald 589 X (x := (tu_wr (M 88) 0 ((l9 : Nat) : Int) k9) k9) k9 dL_law_589 (by decide) rfl (by decide) (by omega) (by omega) rfl ?_
            refine tu_tp (b := ((M 88) k9)) (by exact hwo) ?_
            refine tu_iast 590 X (M' := tu_row M 88 (tu_u (tu_wr (M 88) 0 ((l9 : Nat) : Int) k9) (tu_kc (M 88) 0 ((l9 : Nat) : Int) k9) ((M 88) k9))) (tu_kc (M 88) 0 ((l9 : Nat) : Int) k9) dL_law_590 (by decide) rfl (by decide) (by omega) (by omega) (tu_rr M 88 (tu_wr (M 88) 0 ((l9 : Nat) : Int) k9) (tu_u (tu_wr (M 88) 0 ((l9 : Nat) : Int) k9) (tu_kc (M 88) 0 ((l9 : Nat) : Int) k9) ((M 88) k9))) ?_
            refine tu_iinc 591 X (lv' := [(15, tu_i (((k9 : Nat) : Int) + 1)), (14, tu_i (((tu_kc (M 88) 0 ((l9 : Nat) : Int) k9 : Nat) : Int) + 1)), (0, tu_r 100), (1, tu_r 0), (2, tu_r 86), (3, tu_r 87), (4, tu_r 88), (5, tu_r 89), (6, tu_r 90), (7, tu_r 91), (8, tu_i ((i8 : Nat) : Int)), (10, tu_i y8), (12, tu_i ((l9 : Nat) : Int))]) 12 dL_law_591 rfl (by rw [hnl]; decide) rfl ?_
            refine tu_goto 594 X 538 dL_law_594 (by decide) ?_
            refine tu_jmp [2, 3, 4, 5, 6, 7, 8, 9, 10, 11, 12, 1, 0] (lv' := [(0, tu_r 100), (1, tu_r 0), (2, tu_r 86), (3, tu_r 87), (4, tu_r 88), (5, tu_r 89), (6, tu_r 90), (7, tu_r 91), (8, tu_i ((i8 : Nat) : Int)), (10, tu_i y8), (12, tu_i ((l9 : Nat) : Int)), (14, tu_i ((tu_kc (M 88) 0 ((l9 : Nat) : Int) (k9 + 1) : Nat) : Int)), (15, tu_i (((k9 + 1) : Nat) : Int))]) ⟨rfl, rfl, rfl, rfl, rfl, rfl, rfl, rfl, rfl, rfl, rfl, tu_ei (by first | rfl | (rw [hk1]; first | rfl | omega)), tu_ei (by first | rfl | omega), trivial⟩ (by first | rfl | (first | (rw [hw1]; done) | (rw [hw1, Nat.zero_add]))) (ih538 (k9 + 1) (by omega) (by omega))
          ·
            rw [if_pos (show ((l9 : Nat) : Int) < (M 88) k9 from by omega)] at hw1
            refine tu_aload 575 X 5 dL_law_575 rfl ?_
            refine tu_iload 577 X 12 dL_law_577 rfl ?_
            refine tu_iald 579 X (x := (tu_wr (M 88) 0 ((l9 : Nat) : Int) k9) k9) k9 dL_law_579 (by decide) rfl (by decide) (by omega) (by omega) rfl ?_
            refine tu_tp (b := ((M 88) k9)) (by exact hwo) ?_
            refine tu_iconst 580 X dL_law_580 ?_
            refine tu_isub 581 X dL_law_581 ?_
            refine tu_goto 582 X 590 dL_law_582 (by decide) ?_
            refine tu_iast 590 X (M' := tu_row M 88 (tu_u (tu_wr (M 88) 0 ((l9 : Nat) : Int) k9) (tu_kc (M 88) 0 ((l9 : Nat) : Int) k9) (((M 88) k9) - 1))) (tu_kc (M 88) 0 ((l9 : Nat) : Int) k9) dL_law_590 (by decide) rfl (by decide) (by omega) (by omega) (tu_rr M 88 (tu_wr (M 88) 0 ((l9 : Nat) : Int) k9) (tu_u (tu_wr (M 88) 0 ((l9 : Nat) : Int) k9) (tu_kc (M 88) 0 ((l9 : Nat) : Int) k9) (((M 88) k9) - 1))) ?_
            refine tu_iinc 591 X (lv' := [(15, tu_i (((k9 : Nat) : Int) + 1)), (14, tu_i (((tu_kc (M 88) 0 ((l9 : Nat) : Int) k9 : Nat) : Int) + 1)), (0, tu_r 100), (1, tu_r 0), (2, tu_r 86), (3, tu_r 87), (4, tu_r 88), (5, tu_r 89), (6, tu_r 90), (7, tu_r 91), (8, tu_i ((i8 : Nat) : Int)), (10, tu_i y8), (12, tu_i ((l9 : Nat) : Int))]) 12 dL_law_591 rfl (by rw [hnl]; decide) rfl ?_
            refine tu_goto 594 X 538 dL_law_594 (by decide) ?_
            refine tu_jmp [2, 3, 4, 5, 6, 7, 8, 9, 10, 11, 12, 1, 0] (lv' := [(0, tu_r 100), (1, tu_r 0), (2, tu_r 86), (3, tu_r 87), (4, tu_r 88), (5, tu_r 89), (6, tu_r 90), (7, tu_r 91), (8, tu_i ((i8 : Nat) : Int)), (10, tu_i y8), (12, tu_i ((l9 : Nat) : Int)), (14, tu_i ((tu_kc (M 88) 0 ((l9 : Nat) : Int) (k9 + 1) : Nat) : Int)), (15, tu_i (((k9 + 1) : Nat) : Int))]) ⟨rfl, rfl, rfl, rfl, rfl, rfl, rfl, rfl, rfl, rfl, rfl, tu_ei (by first | rfl | (rw [hk1]; first | rfl | omega)), tu_ei (by first | rfl | omega), trivial⟩ (by first | rfl | (first | (rw [hw1]; done) | (rw [hw1, Nat.zero_add]))) (ih538 (k9 + 1) (by omega) (by omega))
  refine tu_jmp [2, 3, 4, 5, 6, 7, 8, 9, 10, 11, 12, 1, 0] (lv' := [(0, tu_r 100), (1, tu_r 0), (2, tu_r 86), (3, tu_r 87), (4, tu_r 88), (5, tu_r 89), (6, tu_r 90), (7, tu_r 91), (8, tu_i ((i8 : Nat) : Int)), (10, tu_i y8), (12, tu_i ((l9 : Nat) : Int)), (14, tu_i ((tu_kc (M 88) 0 ((l9 : Nat) : Int) 0 : Nat) : Int)), (15, tu_i 0)]) ⟨rfl, rfl, rfl, rfl, rfl, rfl, rfl, rfl, rfl, rfl, rfl, tu_ei (by first | rfl | (rw [hk1]; first | rfl | omega)), rfl, trivial⟩ (by first | rfl | (first | (rw [hw1]; done) | (rw [hw1, Nat.zero_add]))) (lp538 ((NB - 0) + 1) 0 (by omega) (by omega))
