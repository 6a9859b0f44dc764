set_option maxRecDepth 20000 in
set_option maxHeartbeats 1000000 in
theorem tl_dropPhrase {T : tu_T} (X : tu_X T cL_law RL 9 344) (hnl : T.2.2.2.2.2.2.2.2.2.2.1 = 18) {M : tu_M} (hJ : tz_J M) {i8 : Nat} {y8 : Int} {p9 : Nat} (hp : (p9 : Int) < M 1 4) (lp1576 : ∀ (Mz : tu_M), (tz_J Mz) → tu_W T 1576 [(0, tu_r 100), (1, tu_r 0), (2, tu_r 86), (3, tu_r 87), (4, tu_r 88), (5, tu_r 89), (6, tu_r 90), (7, tu_r 91), (8, tu_i ((i8 : Nat) : Int)), (10, tu_i y8)] [] Mz) : tu_W T 683 [(0, tu_r 100), (1, tu_r 0), (2, tu_r 86), (3, tu_r 87), (4, tu_r 88), (5, tu_r 89), (6, tu_r 90), (7, tu_r 91), (8, tu_i ((i8 : Nat) : Int)), (10, tu_i y8), (13, tu_i ((p9 : Nat) : Int))] [] M := by
  have hR := hJ.1
  have hB := hR.ok
  have cn := hB.cnt
  have hsm := hR.small
  have q4 := hR.q4
  have hqs := hR.qs
  obtain ⟨NL, eL⟩ : ∃ c : Nat, M 1 1 = (c : Int) := ⟨(M 1 1).toNat, by omega⟩
  obtain ⟨NP, eP⟩ : ∃ c : Nat, M 1 4 = (c : Int) := ⟨(M 1 4).toNat, by omega⟩
  obtain ⟨NB, eB⟩ : ∃ c : Nat, M 1 7 = (c : Int) := ⟨(M 1 7).toNat, by omega⟩
  obtain ⟨NT, eT⟩ : ∃ c : Nat, M 1 9 = (c : Int) := ⟨(M 1 9).toNat, by omega⟩
  refine tu_iconst 683 X dL_law_683 ?_
  refine tu_istore 684 X (lv' := [(14, tu_i 0), (0, tu_r 100), (1, tu_r 0), (2, tu_r 86), (3, tu_r 87), (4, tu_r 88), (5, tu_r 89), (6, tu_r 90), (7, tu_r 91), (8, tu_i ((i8 : Nat) : Int)), (10, tu_i y8), (13, tu_i ((p9 : Nat) : Int))]) dL_law_684 (by rw [hnl]; decide) rfl ?_
  refine tu_iconst 686 X dL_law_686 ?_
  refine tu_istore 687 X (lv' := [(15, tu_i 0), (14, tu_i 0), (0, tu_r 100), (1, tu_r 0), (2, tu_r 86), (3, tu_r 87), (4, tu_r 88), (5, tu_r 89), (6, tu_r 90), (7, tu_r 91), (8, tu_i ((i8 : Nat) : Int)), (10, tu_i y8), (13, tu_i ((p9 : Nat) : Int))]) dL_law_687 (by rw [hnl]; decide) rfl ?_
  refine tu_st_eq rfl (M' := tu_row M 89 (M 89)) ((tu_rx M 89).symm) ?_
  have lp689 : ∀ (nq : Nat) (k9 : Nat), (k9 ≤ NT) → NT - k9 < nq → tu_W T 689 [(0, tu_r 100), (1, tu_r 0), (2, tu_r 86), (3, tu_r 87), (4, tu_r 88), (5, tu_r 89), (6, tu_r 90), (7, tu_r 91), (8, tu_i ((i8 : Nat) : Int)), (10, tu_i y8), (13, tu_i ((p9 : Nat) : Int)), (14, tu_i ((tu_kc (M 89) 0 ((p9 : Nat) : Int) k9 : Nat) : Int)), (15, tu_i ((k9 : Nat) : Int))] [] (tu_row M 89 (tu_wr (M 89) 0 ((p9 : Nat) : Int) k9)) := by
    intro nq
    induction nq with
    | zero => intros; omega
    | succ nq ih689 =>
      intro k9 hk9 hn689
      have hkc0 := tu_kc_le (M 89) 0 ((p9 : Nat) : Int) k9
      refine tu_iload 689 X 12 dL_law_689 rfl ?_
      refine tu_aload 691 X 6 dL_law_691 rfl ?_
      refine tu_bipush 693 X dL_law_693 (by decide) ?_
      refine tu_iald 695 X (x := M 90 7) 7 dL_law_695 (by decide) rfl (by decide) rfl (by decide) rfl ?_
      refine tu_tp (b := ((NT : Nat) : Int)) (by rw [q4.2.2.2]; exact eT) ?_
      refine tu_icmp_ge 696 X 748 dL_law_696 (by decide) (show tu_rg ((k9 : Nat) : Int) from by first | assumption | exact ⟨by omega, by omega⟩) (show tu_rg ((NT : Nat) : Int) from by first | assumption | exact ⟨by omega, by omega⟩) (fun br696 => ?_) (fun br696 => ?_)
      ·
        refine tu_jmp [0, 1, 2, 3, 4, 5, 6, 7, 8, 9, 10, 11, 12] (lv' := [(0, tu_r 100), (1, tu_r 0), (2, tu_r 86), (3, tu_r 87), (4, tu_r 88), (5, tu_r 89), (6, tu_r 90), (7, tu_r 91), (8, tu_i ((i8 : Nat) : Int)), (10, tu_i y8), (13, tu_i ((p9 : Nat) : Int)), (14, tu_i ((tu_kc (M 89) 0 ((p9 : Nat) : Int) NT : Nat) : Int)), (15, tu_i ((k9 : Nat) : Int))]) ⟨rfl, rfl, rfl, rfl, rfl, rfl, rfl, rfl, rfl, rfl, rfl, tu_ei (by rw [show NT = k9 from by omega]), rfl, trivial⟩ rfl ?_
        refine tu_aload 748 X 6 dL_law_748 rfl ?_
        refine tu_bipush 750 X dL_law_750 (by decide) ?_
        refine tu_iload 752 X 11 dL_law_752 rfl ?_
        refine tu_iast 754 X (M' := tu_row (tu_row M 89 (tu_wr (M 89) 0 ((p9 : Nat) : Int) k9)) 90 (tu_u (M 90) 7 ((tu_kc (M 89) 0 ((p9 : Nat) : Int) NT : Nat) : Int))) 7 dL_law_754 (by decide) rfl (by decide) rfl (by decide) rfl ?_
        refine tu_aload 755 X 6 dL_law_755 rfl ?_
        refine tu_iconst 757 X dL_law_757 ?_
        refine tu_dup2 758 X dL_law_758 rfl rfl ?_
        refine tu_iald 759 X (x := (tu_u (M 90) 7 ((tu_kc (M 89) 0 ((p9 : Nat) : Int) NT : Nat) : Int)) 5) 5 dL_law_759 (by decide) rfl (by decide) rfl (by decide) rfl ?_
        refine tu_tp (b := ((NP : Nat) : Int)) (by rw [tu_u_n _ _ (by decide), q4.2.1]; exact eP) ?_
        refine tu_iconst 760 X dL_law_760 ?_
        refine tu_isub 761 X dL_law_761 ?_
        refine tu_iast 762 X (M' := tu_row (tu_row M 89 (tu_wr (M 89) 0 ((p9 : Nat) : Int) k9)) 90 (tu_u (tu_u (M 90) 7 ((tu_kc (M 89) 0 ((p9 : Nat) : Int) NT : Nat) : Int)) 5 (((NP : Nat) : Int) - 1))) 5 dL_law_762 (by decide) rfl (by decide) rfl (by decide) (tu_rr (tu_row M 89 (tu_wr (M 89) 0 ((p9 : Nat) : Int) k9)) 90 (tu_u (M 90) 7 ((tu_kc (M 89) 0 ((p9 : Nat) : Int) NT : Nat) : Int)) (tu_u (tu_u (M 90) 7 ((tu_kc (M 89) 0 ((p9 : Nat) : Int) NT : Nat) : Int)) 5 (((NP : Nat) : Int) - 1))) ?_
        refine tu_iconst 763 X dL_law_763 ?_
        refine tu_iload 764 X 10 dL_law_764 rfl ?_
        refine tu_imul 766 X dL_law_766 ?_
        refine tu_istore 767 X (lv' := [(15, tu_i (3 * ((p9 : Nat) : Int))), (0, tu_r 100), (1, tu_r 0), (2, tu_r 86), (3, tu_r 87), (4, tu_r 88), (5, tu_r 89), (6, tu_r 90), (7, tu_r 91), (8, tu_i ((i8 : Nat) : Int)), (10, tu_i y8), (13, tu_i ((p9 : Nat) : Int)), (14, tu_i ((tu_kc (M 89) 0 ((p9 : Nat) : Int) NT : Nat) : Int))]) dL_law_767 (by rw [hnl]; decide) rfl ?_
        refine tu_st_eq rfl (M' := tu_row (tu_row (tu_row M 87 (M 87)) 89 (tu_wr (M 89) 0 ((p9 : Nat) : Int) k9)) 90 (tu_u (tu_u (M 90) 7 ((tu_kc (M 89) 0 ((p9 : Nat) : Int) NT : Nat) : Int)) 5 (((NP : Nat) : Int) - 1))) ((congrArg (fun m => tu_row m 90 (tu_u (tu_u (M 90) 7 ((tu_kc (M 89) 0 ((p9 : Nat) : Int) NT : Nat) : Int)) 5 (((NP : Nat) : Int) - 1))) ((congrArg (fun m => tu_row m 89 (tu_wr (M 89) 0 ((p9 : Nat) : Int) k9)) ((tu_rx M 87).symm)).trans rfl)).trans rfl) ?_
        have lp769 : ∀ (nq : Nat) (k8 : Nat), (3 * p9 ≤ k8 ∧ k8 ≤ 3 * (NP - 1)) → 3 * (NP - 1) - k8 < nq → tu_W T 769 [(0, tu_r 100), (1, tu_r 0), (2, tu_r 86), (3, tu_r 87), (4, tu_r 88), (5, tu_r 89), (6, tu_r 90), (7, tu_r 91), (8, tu_i ((i8 : Nat) : Int)), (10, tu_i y8), (13, tu_i ((p9 : Nat) : Int)), (14, tu_i ((tu_kc (M 89) 0 ((p9 : Nat) : Int) NT : Nat) : Int)), (15, tu_i ((k8 : Nat) : Int))] [] (tu_row (tu_row (tu_row M 87 (tz_sh (M 87) (3 * p9) 3 k8)) 89 (tu_wr (M 89) 0 ((p9 : Nat) : Int) k9)) 90 (tu_u (tu_u (M 90) 7 ((tu_kc (M 89) 0 ((p9 : Nat) : Int) NT : Nat) : Int)) 5 (((NP : Nat) : Int) - 1))) := by
          intro nq
          induction nq with
          | zero => intros; omega
          | succ nq ih769 =>
            intro k8 hk8 hn769
            refine tu_iload 769 X 12 dL_law_769 rfl ?_
            refine tu_iconst 771 X dL_law_771 ?_
            refine tu_aload 772 X 6 dL_law_772 rfl ?_
            refine tu_iconst 774 X dL_law_774 ?_
            refine tu_iald 775 X (x := (tu_u (tu_u (M 90) 7 ((tu_kc (M 89) 0 ((p9 : Nat) : Int) NT : Nat) : Int)) 5 (((NP : Nat) : Int) - 1)) 5) 5 dL_law_775 (by decide) rfl (by decide) rfl (by decide) rfl ?_
            refine tu_tp (b := ((NP - 1 : Nat) : Int)) (by rw [tu_u_s]; omega) ?_
            refine tu_imul 776 X dL_law_776 ?_
            refine tu_icmp_ge 777 X 796 dL_law_777 (by decide) (show tu_rg ((k8 : Nat) : Int) from by first | assumption | exact ⟨by omega, by omega⟩) (show tu_rg (3 * ((NP - 1 : Nat) : Int)) from by first | assumption | exact ⟨by omega, by omega⟩) (fun br777 => ?_) (fun br777 => ?_)
            ·
              obtain ⟨Mx, hMx⟩ : ∃ m99 : tu_M, m99 = tu_row (tu_row (tu_row M 87 (tz_sh (M 87) (3 * p9) 3 k8)) 89 (tu_wr (M 89) 0 ((p9 : Nat) : Int) k9)) 90 (tu_u (tu_u (M 90) 7 ((tu_kc (M 89) 0 ((p9 : Nat) : Int) NT : Nat) : Int)) 5 (((NP : Nat) : Int) - 1)) := ⟨_, rfl⟩
              refine tu_st_eq rfl (M' := Mx) hMx.symm ?_
              have hx : tz_x M Mx := by
                rw [hMx]
                first | exact tz_x.rf _ | exact (tz_x.rf _).row _ (by decide) | exact ((tz_x.rf _).row _ (by decide)).row _ (by decide) | exact (((tz_x.rf _).row _ (by decide)).row _ (by decide)).row _ (by decide)
              have r86 : Mx 86 = M 86 := by first | (rw [hMx]; done) | (rw [hMx]; rfl)
              have r88 : Mx 88 = M 88 := by first | (rw [hMx]; done) | (rw [hMx]; rfl)
              have c1 : ∀ i, i < 12 → Mx 87 i = if 3 * p9 ≤ i ∧ i < 3 * (NP - 1) then M 87 (i + 3) else M 87 i := fun i hi => by
                rw [hMx, show 3 * (NP - 1) = k8 by omega]
                rfl
              have c2 : Mx 89 = tu_wr (M 89) 0 ((p9 : Nat) : Int) (M 1 9).toNat := by
                rw [hMx, show (M 1 9).toNat = k9 by omega]
                rfl
              have c3 : Mx 90 = tu_u (tu_u (M 90) 7 ((tu_kc (M 89) 0 ((p9 : Nat) : Int) (M 1 9).toNat : Nat) : Int)) 5 (((NP : Nat) : Int) - 1) := by
                rw [hMx, show (M 1 9).toNat = NT by omega]
                rfl
              refine tu_aload_n 796 X 1 dL_law_796 rfl ?_
              refine tu_iload 797 X 10 dL_law_797 rfl ?_
              refine tu_callVI 799 X (st := []) (as := [tu_i ((p9 : Nat) : Int)]) (c_X3_dropPhrase ((p9 : Nat) : Int) (show tu_OK Mx from by exact hx.ok hB) (show tu_HS Mx from by exact hx.hs hJ.2) (show tu_rg ((p9 : Nat) : Int) from by first | assumption | omega | exact ⟨by omega, by omega⟩ | decide)) sv_RL_103 dL_law_799 rfl (by decide) rfl rfl rfl (Nat.le_of_ble_eq_true rfl) ⟨by decide, by decide⟩ (fun z N799 h => ?_)
              obtain ⟨y_799, h799_0, hz799⟩ := h
              refine tu_tp (b := y_799) hz799 ?_
              obtain ⟨hJ2, hy1⟩ := tz_dropPhrase hJ hx (show p9 < NP by omega) eP h799_0 r86 r88 c1 c2 c3
              rw [show (M 1 9).toNat = NT by omega] at hy1
              have hkr := tu_kc_le (M 89) 0 ((p9 : Nat) : Int) NT
              refine tu_iload 802 X 11 dL_law_802 rfl ?_
              refine tu_icmp_eq 804 X 809 dL_law_804 (by decide) (show tu_rg y_799 from by first | assumption | exact ⟨by omega, by omega⟩) (show tu_rg ((tu_kc (M 89) 0 ((p9 : Nat) : Int) NT : Nat) : Int) from by first | assumption | exact ⟨by omega, by omega⟩) (fun br804 => ?_) (fun br804 => ?_)
              ·
                refine tu_goto 809 X 1576 dL_law_809 (by decide) ?_
                refine tu_jmp [0, 1, 2, 3, 4, 5, 6, 7, 8, 9] (lv' := [(0, tu_r 100), (1, tu_r 0), (2, tu_r 86), (3, tu_r 87), (4, tu_r 88), (5, tu_r 89), (6, tu_r 90), (7, tu_r 91), (8, tu_i ((i8 : Nat) : Int)), (10, tu_i y8)]) ⟨rfl, rfl, rfl, rfl, rfl, rfl, rfl, rfl, rfl, rfl, trivial⟩ rfl (lp1576 N799 (by exact hJ2))
              ·
                exfalso; omega
            ·
              refine tu_aload_n 780 X 3 dL_law_780 rfl ?_
              refine tu_iload 781 X 12 dL_law_781 rfl ?_
              refine tu_aload_n 783 X 3 dL_law_783 rfl ?_
              refine tu_iload 784 X 12 dL_law_784 rfl ?_
              refine tu_iconst 786 X dL_law_786 ?_
              refine tu_iadd 787 X dL_law_787 ?_
              refine tu_iald 788 X (x := (tz_sh (M 87) (3 * p9) 3 k8) (k8 + 3)) (k8 + 3) dL_law_788 (by decide) rfl (by decide) (by omega) (by omega) rfl ?_
              refine tu_tp (b := (M 87 (k8 + 3))) (by exact tz_sh_at (by omega)) ?_
              refine tu_iast 789 X (M' := tu_row (tu_row (tu_row M 87 (tu_u (tz_sh (M 87) (3 * p9) 3 k8) k8 (M 87 (k8 + 3)))) 89 (tu_wr (M 89) 0 ((p9 : Nat) : Int) k9)) 90 (tu_u (tu_u (M 90) 7 ((tu_kc (M 89) 0 ((p9 : Nat) : Int) NT : Nat) : Int)) 5 (((NP : Nat) : Int) - 1))) k8 dL_law_789 (by decide) rfl (by decide) (by omega) (by omega) ((tu_rc (tu_row (tu_row M 87 (tz_sh (M 87) (3 * p9) 3 k8)) 89 (tu_wr (M 89) 0 ((p9 : Nat) : Int) k9)) (tu_u (tu_u (M 90) 7 ((tu_kc (M 89) 0 ((p9 : Nat) : Int) NT : Nat) : Int)) 5 (((NP : Nat) : Int) - 1)) (tu_u (tz_sh (M 87) (3 * p9) 3 k8) k8 (M 87 (k8 + 3))) rfl).trans (congrArg (fun m => tu_row m 90 (tu_u (tu_u (M 90) 7 ((tu_kc (M 89) 0 ((p9 : Nat) : Int) NT : Nat) : Int)) 5 (((NP : Nat) : Int) - 1))) ((tu_rc (tu_row M 87 (tz_sh (M 87) (3 * p9) 3 k8)) (tu_wr (M 89) 0 ((p9 : Nat) : Int) k9) (tu_u (tz_sh (M 87) (3 * p9) 3 k8) k8 (M 87 (k8 + 3))) rfl).trans (congrArg (fun m => tu_row m 89 (tu_wr (M 89) 0 ((p9 : Nat) : Int) k9)) (tu_rr M 87 (tz_sh (M 87) (3 * p9) 3 k8) (tu_u (tz_sh (M 87) (3 * p9) 3 k8) k8 (M 87 (k8 + 3)))))))) ?_
              refine tu_iinc 790 X (lv' := [(15, tu_i (((k8 : Nat) : Int) + 1)), (0, tu_r 100), (1, tu_r 0), (2, tu_r 86), (3, tu_r 87), (4, tu_r 88), (5, tu_r 89), (6, tu_r 90), (7, tu_r 91), (8, tu_i ((i8 : Nat) : Int)), (10, tu_i y8), (13, tu_i ((p9 : Nat) : Int)), (14, tu_i ((tu_kc (M 89) 0 ((p9 : Nat) : Int) NT : Nat) : Int))]) 12 dL_law_790 rfl (by rw [hnl]; decide) rfl ?_
              refine tu_goto 793 X 769 dL_law_793 (by decide) ?_
              refine tu_jmp [1, 2, 3, 4, 5, 6, 7, 8, 9, 10, 11, 12, 0] (lv' := [(0, tu_r 100), (1, tu_r 0), (2, tu_r 86), (3, tu_r 87), (4, tu_r 88), (5, tu_r 89), (6, tu_r 90), (7, tu_r 91), (8, tu_i ((i8 : Nat) : Int)), (10, tu_i y8), (13, tu_i ((p9 : Nat) : Int)), (14, tu_i ((tu_kc (M 89) 0 ((p9 : Nat) : Int) NT : Nat) : Int)), (15, tu_i (((k8 + 1) : Nat) : Int))]) ⟨rfl, rfl, rfl, rfl, rfl, rfl, rfl, rfl, rfl, rfl, rfl, rfl, tu_ei (by first | rfl | omega), trivial⟩ (by first | rfl | (first | (rw [tz_sh_0]; done) | (rw [tz_sh_s (by omega)]))) (ih769 (k8 + 1) (by omega) (by omega))
        refine tu_jmp [1, 2, 3, 4, 5, 6, 7, 8, 9, 10, 11, 12, 0] (lv' := [(0, tu_r 100), (1, tu_r 0), (2, tu_r 86), (3, tu_r 87), (4, tu_r 88), (5, tu_r 89), (6, tu_r 90), (7, tu_r 91), (8, tu_i ((i8 : Nat) : Int)), (10, tu_i y8), (13, tu_i ((p9 : Nat) : Int)), (14, tu_i ((tu_kc (M 89) 0 ((p9 : Nat) : Int) NT : Nat) : Int)), (15, tu_i (((3 * p9) : Nat) : Int))]) ⟨rfl, rfl, rfl, rfl, rfl, rfl, rfl, rfl, rfl, rfl, rfl, rfl, tu_ei (by first | rfl | omega), trivial⟩ (by first | rfl | (first | (rw [tz_sh_0]; done) | (rw [tz_sh_s (by omega)]))) (lp769 ((3 * (NP - 1) - (3 * p9)) + 1) (3 * p9) (by omega) (by omega))
      ·
        have hbk := hB.tun k9 (by omega)
        have hba : (M 89) k9 = M 8 k9 := hR.tn k9 (by omega)
        have hkl := tu_kc_le (M 89) 0 ((p9 : Nat) : Int) k9
        have hwo : (tu_wr (M 89) 0 ((p9 : Nat) : Int) k9) k9 = (M 89) k9 := tu_wr_old (M 89) 0 ((p9 : Nat) : Int) k9 k9 (by omega)
        have hk1 : tu_kc (M 89) 0 ((p9 : Nat) : Int) (k9 + 1) = (tu_kc (M 89) 0 ((p9 : Nat) : Int) k9) + (if (M 89) (0 + k9) = ((p9 : Nat) : Int) then 0 else 1) := rfl
        have hw1 : tu_wr (M 89) 0 ((p9 : Nat) : Int) (k9 + 1) = if (M 89) (0 + k9) = ((p9 : Nat) : Int) then (tu_wr (M 89) 0 ((p9 : Nat) : Int) k9) else tu_u (tu_wr (M 89) 0 ((p9 : Nat) : Int) k9) (0 + (tu_kc (M 89) 0 ((p9 : Nat) : Int) k9)) (if ((p9 : Nat) : Int) < (M 89) (0 + k9) then (M 89) (0 + k9) - 1 else (M 89) (0 + k9)) := rfl
        rw [Nat.zero_add] at hk1 hw1
        refine tu_aload 699 X 5 dL_law_699 rfl ?_
        refine tu_iload 701 X 12 dL_law_701 rfl ?_
        refine tu_iald 703 X (x := (tu_wr (M 89) 0 ((p9 : Nat) : Int) k9) k9) k9 dL_law_703 (by decide) rfl (by decide) (by omega) (by omega) rfl ?_
        refine tu_tp (b := ((M 89) k9)) (by exact hwo) ?_
        refine tu_iload 704 X 10 dL_law_704 rfl ?_
        refine tu_icmp_eq 706 X 742 dL_law_706 (by decide) (show tu_rg ((M 89) k9) from by first | assumption | exact ⟨by omega, by omega⟩) (show tu_rg ((p9 : Nat) : Int) from by first | assumption | exact ⟨by omega, by omega⟩) (fun br706 => ?_) (fun br706 => ?_)
        ·
          rw [if_pos br706] at hk1 hw1
          refine tu_iinc 742 X (lv' := [(15, tu_i (((k9 : Nat) : Int) + 1)), (0, tu_r 100), (1, tu_r 0), (2, tu_r 86), (3, tu_r 87), (4, tu_r 88), (5, tu_r 89), (6, tu_r 90), (7, tu_r 91), (8, tu_i ((i8 : Nat) : Int)), (10, tu_i y8), (13, tu_i ((p9 : Nat) : Int)), (14, tu_i ((tu_kc (M 89) 0 ((p9 : Nat) : Int) k9 : Nat) : Int))]) 12 dL_law_742 rfl (by rw [hnl]; decide) rfl ?_
          refine tu_goto 745 X 689 dL_law_745 (by decide) ?_
          refine tu_jmp [1, 2, 3, 4, 5, 6, 7, 8, 9, 10, 11, 12, 0] (lv' := [(0, tu_r 100), (1, tu_r 0), (2, tu_r 86), (3, tu_r 87), (4, tu_r 88), (5, tu_r 89), (6, tu_r 90), (7, tu_r 91), (8, tu_i ((i8 : Nat) : Int)), (10, tu_i y8), (13, tu_i ((p9 : Nat) : Int)), (14, tu_i ((tu_kc (M 89) 0 ((p9 : Nat) : Int) (k9 + 1) : Nat) : Int)), (15, tu_i (((k9 + 1) : Nat) : Int))]) ⟨rfl, rfl, rfl, rfl, rfl, rfl, rfl, rfl, rfl, rfl, rfl, tu_ei (by first | rfl | (rw [hk1]; first | rfl | omega)), tu_ei (by first | rfl | omega), trivial⟩ (by first | rfl | (first | (rw [hw1]; done) | (rw [hw1, Nat.zero_add]))) (ih689 (k9 + 1) (by omega) (by omega))
        ·
          rw [if_neg br706] at hk1 hw1
          refine tu_aload 709 X 5 dL_law_709 rfl ?_
          refine tu_iload 711 X 11 dL_law_711 rfl ?_
          refine tu_iinc 713 X (lv' := [(14, tu_i (((tu_kc (M 89) 0 ((p9 : Nat) : Int) k9 : Nat) : Int) + 1)), (0, tu_r 100), (1, tu_r 0), (2, tu_r 86), (3, tu_r 87), (4, tu_r 88), (5, tu_r 89), (6, tu_r 90), (7, tu_r 91), (8, tu_i ((i8 : Nat) : Int)), (10, tu_i y8), (13, tu_i ((p9 : Nat) : Int)), (15, tu_i ((k9 : Nat) : Int))]) 11 dL_law_713 rfl (by rw [hnl]; decide) rfl ?_
          refine tu_aload 716 X 6 dL_law_716 rfl ?_
          refine tu_iload 718 X 12 dL_law_718 rfl ?_
          refine tu_iald 720 X (x := (tu_wr (M 89) 0 ((p9 : Nat) : Int) k9) k9) k9 dL_law_720 (by decide) rfl (by decide) (by omega) (by omega) rfl ?_
          refine tu_tp (b := ((M 89) k9)) (by exact hwo) ?_
          refine tu_iload 721 X 11 dL_law_721 rfl ?_
          refine tu_icmp_le 723 X 736 dL_law_723 (by decide) (show tu_rg ((M 89) k9) from by first | assumption | exact ⟨by omega, by omega⟩) (show tu_rg ((p9 : Nat) : Int) from by first | assumption | exact ⟨by omega, by omega⟩) (fun br723 => ?_) (fun br723 => ?_)
          ·
            rw [if_neg (show ¬ ((p9 : Nat) : Int) < (M 89) k9 from by omega)] at hw1
            refine tu_aload 736 X 6 dL_law_736 rfl ?_
            refine tu_iload 738 X 12 dL_law_738 rfl ?_
            refine tu_iald 740 X (x := (tu_wr (M 89) 0 ((p9 : Nat) : Int) k9) k9) k9 dL_law_740 (by decide) rfl (by decide) (by omega) (by omega) rfl ?_
            refine tu_tp (b := ((M 89) k9)) (by exact hwo) ?_
            refine tu_iast 741 X (M' := tu_row M 89 (tu_u (tu_wr (M 89) 0 ((p9 : Nat) : Int) k9) (tu_kc (M 89) 0 ((p9 : Nat) : Int) k9) ((M 89) k9))) (tu_kc (M 89) 0 ((p9 : Nat) : Int) k9) dL_law_741 (by decide) rfl (by decide) (by omega) (by omega) (tu_rr M 89 (tu_wr (M 89) 0 ((p9 : Nat) : Int) k9) (tu_u (tu_wr (M 89) 0 ((p9 : Nat) : Int) k9) (tu_kc (M 89) 0 ((p9 : Nat) : Int) k9) ((M 89) k9))) ?_
            refine tu_iinc 742 X (lv' := [(15, tu_i (((k9 : Nat) : Int) + 1)), (14, tu_i (((tu_kc (M 89) 0 ((p9 : Nat) : Int) k9 : Nat) : Int) + 1)), (0, tu_r 100), (1, tu_r 0), (2, tu_r 86), (3, tu_r 87), (4, tu_r 88), (5, tu_r 89), (6, tu_r 90), (7, tu_r 91), (8, tu_i ((i8 : Nat) : Int)), (10, tu_i y8), (13, tu_i ((p9 : Nat) : Int))]) 12 dL_law_742 rfl (by rw [hnl]; decide) rfl ?_
            refine tu_goto 745 X 689 dL_law_745 (by decide) ?_
            refine tu_jmp [2, 3, 4, 5, 6, 7, 8, 9, 10, 11, 12, 1, 0] (lv' := [(0, tu_r 100), (1, tu_r 0), (2, tu_r 86), (3, tu_r 87), (4, tu_r 88), (5, tu_r 89), (6, tu_r 90), (7, tu_r 91), (8, tu_i ((i8 : Nat) : Int)), (10, tu_i y8), (13, tu_i ((p9 : Nat) : Int)), (14, tu_i ((tu_kc (M 89) 0 ((p9 : Nat) : Int) (k9 + 1) : Nat) : Int)), (15, tu_i (((k9 + 1) : Nat) : Int))]) ⟨rfl, rfl, rfl, rfl, rfl, rfl, rfl, rfl, rfl, rfl, rfl, tu_ei (by first | rfl | (rw [hk1]; first | rfl | omega)), tu_ei (by first | rfl | omega), trivial⟩ (by first | rfl | (first | (rw [hw1]; done) | (rw [hw1, Nat.zero_add]))) (ih689 (k9 + 1) (by omega) (by omega))
          ·
            rw [if_pos (show ((p9 : Nat) : Int) < (M 89) k9 from by omega)] at hw1
            refine tu_aload 726 X 6 dL_law_726 rfl ?_
            refine tu_iload 728 X 12 dL_law_728 rfl ?_
            refine tu_iald 730 X (x := (tu_wr (M 89) 0 ((p9 : Nat) : Int) k9) k9) k9 dL_law_730 (by decide) rfl (by decide) (by omega) (by omega) rfl ?_
            refine tu_tp (b := ((M 89) k9)) (by exact hwo) ?_
            refine tu_iconst 731 X dL_law_731 ?_
            refine tu_isub 732 X dL_law_732 ?_
            refine tu_goto 733 X 741 dL_law_733 (by decide) ?_
            refine tu_iast 741 X (M' := tu_row M 89 (tu_u (tu_wr (M 89) 0 ((p9 : Nat) : Int) k9) (tu_kc (M 89) 0 ((p9 : Nat) : Int) k9) (((M 89) k9) - 1))) (tu_kc (M 89) 0 ((p9 : Nat) : Int) k9) dL_law_741 (by decide) rfl (by decide) (by omega) (by omega) (tu_rr M 89 (tu_wr (M 89) 0 ((p9 : Nat) : Int) k9) (tu_u (tu_wr (M 89) 0 ((p9 : Nat) : Int) k9) (tu_kc (M 89) 0 ((p9 : Nat) : Int) k9) (((M 89) k9) - 1))) ?_
            refine tu_iinc 742 X (lv' := [(15, tu_i (((k9 : Nat) : Int) + 1)), (14, tu_i (((tu_kc (M 89) 0 ((p9 : Nat) : Int) k9 : Nat) : Int) + 1)), (0, tu_r 100), (1, tu_r 0), (2, tu_r 86), (3, tu_r 87), (4, tu_r 88), (5, tu_r 89), (6, tu_r 90), (7, tu_r 91), (8, tu_i ((i8 : Nat) : Int)), (10, tu_i y8), (13, tu_i ((p9 : Nat) : Int))]) 12 dL_law_742 rfl (by rw [hnl]; decide) rfl ?_
            refine tu_goto 745 X 689 dL_law_745 (by decide) ?_
            refine tu_jmp [2, 3, 4, 5, 6, 7, 8, 9, 10, 11, 12, 1, 0] (lv' := [(0, tu_r 100), (1, tu_r 0), (2, tu_r 86), (3, tu_r 87), (4, tu_r 88), (5, tu_r 89), (6, tu_r 90), (7, tu_r 91), (8, tu_i ((i8 : Nat) : Int)), (10, tu_i y8), (13, tu_i ((p9 : Nat) : Int)), (14, tu_i ((tu_kc (M 89) 0 ((p9 : Nat) : Int) (k9 + 1) : Nat) : Int)), (15, tu_i (((k9 + 1) : Nat) : Int))]) ⟨rfl, rfl, rfl, rfl, rfl, rfl, rfl, rfl, rfl, rfl, rfl, tu_ei (by first | rfl | (rw [hk1]; first | rfl | omega)), tu_ei (by first | rfl | omega), trivial⟩ (by first | rfl | (first | (rw [hw1]; done) | (rw [hw1, Nat.zero_add]))) (ih689 (k9 + 1) (by omega) (by omega))
  refine tu_jmp [2, 3, 4, 5, 6, 7, 8, 9, 10, 11, 12, 1, 0] (lv' := [(0, tu_r 100), (1, tu_r 0), (2, tu_r 86), (3, tu_r 87), (4, tu_r 88), (5, tu_r 89), (6, tu_r 90), (7, tu_r 91), (8, tu_i ((i8 : Nat) : Int)), (10, tu_i y8), (13, tu_i ((p9 : Nat) : Int)), (14, tu_i ((tu_kc (M 89) 0 ((p9 : Nat) : Int) 0 : Nat) : Int)), (15, tu_i 0)]) ⟨rfl, rfl, rfl, rfl, rfl, rfl, rfl, rfl, rfl, rfl, rfl, tu_ei (by first | rfl | (rw [hk1]; first | rfl | omega)), rfl, trivial⟩ (by first | rfl | (first | (rw [hw1]; done) | (rw [hw1, Nat.zero_add]))) (lp689 ((NT - 0) + 1) 0 (by omega) (by omega))
