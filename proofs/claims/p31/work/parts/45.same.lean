set_option maxRecDepth 20000 in
set_option maxHeartbeats 4000000 in
theorem c_L_same {M : tu_M}  (hR : tz_R M) : tu_MI tu_Y_L_same [tu_r 0, tu_r 90, tu_r 86, tu_r 87, tu_r 88, tu_r 89, tu_r 91] M (fun z M' => ∃ (y : Int), (tz_sc M M') ∧ (y = 1) ∧ z = y) := by
  have hB := hR.ok
  have cn := hB.cnt
  have hsm := hR.small
  have q4 := hR.q4
  have hqs := hR.qs
  obtain ⟨NL, eL⟩ : ∃ c : Nat, M 1 1 = (c : Int) := ⟨(M 1 1).toNat, by omega⟩
  obtain ⟨NP, eP⟩ : ∃ c : Nat, M 1 4 = (c : Int) := ⟨(M 1 4).toNat, by omega⟩
  obtain ⟨NB, eB⟩ : ∃ c : Nat, M 1 7 = (c : Int) := ⟨(M 1 7).toNat, by omega⟩
  obtain ⟨NT, eT⟩ : ∃ c : Nat, M 1 9 = (c : Int) := ⟨(M 1 9).toNat, by omega⟩
  have hsc := tz_sc.rf M
  refine tu_MI.of (ty := .boolean) (by decide) rfl (by first | exact Or.inl rfl | exact Or.inr rfl) (Nat.le_of_ble_eq_true rfl) (fun T (X : tu_X T cL_same RL 6 138) hnl hrt hret => ?_)
  have hret : tu_RI T cL_same (fun z M' => ∃ (y : Int), (tz_sc M M') ∧ (y = 1) ∧ z = y) := hret
  have hnl : T.2.2.2.2.2.2.2.2.2.2.1 = 15 := hnl
  show tu_W T 0 [(0, tu_r 0), (1, tu_r 90), (2, tu_r 86), (3, tu_r 87), (4, tu_r 88), (5, tu_r 89), (6, tu_r 91)] [] M
  refine tu_iconst 0 X dL_same_0 ?_
  refine tu_istore 1 X (lv' := [(7, tu_i 0), (0, tu_r 0), (1, tu_r 90), (2, tu_r 86), (3, tu_r 87), (4, tu_r 88), (5, tu_r 89), (6, tu_r 91)]) dL_same_1 (by rw [hnl]; decide) rfl ?_
  refine tu_iconst 3 X dL_same_3 ?_
  refine tu_istore 4 X (lv' := [(8, tu_i 0), (7, tu_i 0), (0, tu_r 0), (1, tu_r 90), (2, tu_r 86), (3, tu_r 87), (4, tu_r 88), (5, tu_r 89), (6, tu_r 91)]) dL_same_4 (by rw [hnl]; decide) rfl ?_
  have lp6 : ∀ (nq : Nat) (l9 : Nat) (Ma : tu_M), (l9 ≤ NL) → (tz_sc M Ma) → NL - l9 < nq → tu_W T 6 [(0, tu_r 0), (1, tu_r 90), (2, tu_r 86), (3, tu_r 87), (4, tu_r 88), (5, tu_r 89), (6, tu_r 91), (7, tu_i (tu_sm (fun l => if 2 ≤ tu_ti (M 7) ((l : Nat) : Int) (M 1 7).toNat then 1 else 0) l9)), (8, tu_i ((l9 : Nat) : Int))] [] Ma := by
    intro nq
    induction nq with
    | zero => intros; omega
    | succ nq ih6 =>
      intro l9 Ma hl9 hsc hn6
      refine tu_iload 6 X 8 dL_same_6 rfl ?_
      refine tu_aload_n 8 X 1 dL_same_8 rfl ?_
      refine tu_iconst 9 X dL_same_9 ?_
      refine tu_iald 10 X (x := Ma 90 4) 4 dL_same_10 (by decide) rfl (by decide) rfl (by decide) rfl ?_
      refine tu_tp (b := (M 90 4)) (by rw [hsc 90 (by decide)]) ?_
      refine tu_tp (b := ((NL : Nat) : Int)) (by rw [q4.1]; exact eL) ?_
      refine tu_icmp_ge 11 X 409 dL_same_11 (by decide) (show tu_rg ((l9 : Nat) : Int) from by first | assumption | exact ⟨by omega, by omega⟩) (show tu_rg ((NL : Nat) : Int) from by first | assumption | exact ⟨by omega, by omega⟩) (fun br11 => ?_) (fun br11 => ?_)
      ·
        refine tu_jmp [0, 1, 2, 3, 4, 5, 6, 7, 8] (lv' := [(0, tu_r 0), (1, tu_r 90), (2, tu_r 86), (3, tu_r 87), (4, tu_r 88), (5, tu_r 89), (6, tu_r 91), (7, tu_i (tu_sm (fun l => if 2 ≤ tu_ti (M 7) ((l : Nat) : Int) (M 1 7).toNat then 1 else 0) NL)), (8, tu_i ((l9 : Nat) : Int))]) ⟨rfl, rfl, rfl, rfl, rfl, rfl, rfl, tu_ei (by rw [show NL = l9 from by omega]), rfl, trivial⟩ rfl ?_
        refine tu_iconst 409 X dL_same_409 ?_
        refine tu_istore 410 X (lv' := [(8, tu_i 0), (0, tu_r 0), (1, tu_r 90), (2, tu_r 86), (3, tu_r 87), (4, tu_r 88), (5, tu_r 89), (6, tu_r 91), (7, tu_i (tu_sm (fun l => if 2 ≤ tu_ti (M 7) ((l : Nat) : Int) (M 1 7).toNat then 1 else 0) NL))]) dL_same_410 (by rw [hnl]; decide) rfl ?_
        have lp412 : ∀ (nq : Nat) (p9 : Nat), (p9 ≤ NP) → NP - p9 < nq → tu_W T 412 [(0, tu_r 0), (1, tu_r 90), (2, tu_r 86), (3, tu_r 87), (4, tu_r 88), (5, tu_r 89), (6, tu_r 91), (7, tu_i (tu_sm (fun l => if 2 ≤ tu_ti (M 7) ((l : Nat) : Int) (M 1 7).toNat then 1 else 0) NL)), (8, tu_i ((p9 : Nat) : Int))] [] Ma := by
          intro nq
          induction nq with
          | zero => intros; omega
          | succ nq ih412 =>
            intro p9 hp9 hn412
            refine tu_iload 412 X 8 dL_same_412 rfl ?_
            refine tu_aload_n 414 X 1 dL_same_414 rfl ?_
            refine tu_iconst 415 X dL_same_415 ?_
            refine tu_iald 416 X (x := Ma 90 5) 5 dL_same_416 (by decide) rfl (by decide) rfl (by decide) rfl ?_
            refine tu_tp (b := (M 90 5)) (by rw [hsc 90 (by decide)]) ?_
            refine tu_tp (b := ((NP : Nat) : Int)) (by rw [q4.2.1]; exact eP) ?_
            refine tu_icmp_ge 417 X 692 dL_same_417 (by decide) (show tu_rg ((p9 : Nat) : Int) from by first | assumption | exact ⟨by omega, by omega⟩) (show tu_rg ((NP : Nat) : Int) from by first | assumption | exact ⟨by omega, by omega⟩) (fun br417 => ?_) (fun br417 => ?_)
            ·
              refine tu_iconst 692 X dL_same_692 ?_
              refine tu_istore 693 X (lv' := [(8, tu_i 0), (0, tu_r 0), (1, tu_r 90), (2, tu_r 86), (3, tu_r 87), (4, tu_r 88), (5, tu_r 89), (6, tu_r 91), (7, tu_i (tu_sm (fun l => if 2 ≤ tu_ti (M 7) ((l : Nat) : Int) (M 1 7).toNat then 1 else 0) NL))]) dL_same_693 (by rw [hnl]; decide) rfl ?_
              have lp695 : ∀ (nq : Nat) (k9 : Nat), (k9 ≤ NB) → NB - k9 < nq → tu_W T 695 [(0, tu_r 0), (1, tu_r 90), (2, tu_r 86), (3, tu_r 87), (4, tu_r 88), (5, tu_r 89), (6, tu_r 91), (7, tu_i (tu_sm (fun l => if 2 ≤ tu_ti (M 7) ((l : Nat) : Int) (M 1 7).toNat then 1 else 0) NL)), (8, tu_i ((k9 : Nat) : Int))] [] Ma := by
                intro nq
                induction nq with
                | zero => intros; omega
                | succ nq ih695 =>
                  intro k9 hk9 hn695
                  refine tu_iload 695 X 8 dL_same_695 rfl ?_
                  refine tu_aload_n 697 X 1 dL_same_697 rfl ?_
                  refine tu_bipush 698 X dL_same_698 (by decide) ?_
                  refine tu_iald 700 X (x := Ma 90 6) 6 dL_same_700 (by decide) rfl (by decide) rfl (by decide) rfl ?_
                  refine tu_tp (b := (M 90 6)) (by rw [hsc 90 (by decide)]) ?_
                  refine tu_tp (b := ((NB : Nat) : Int)) (by rw [q4.2.2.1]; exact eB) ?_
                  refine tu_icmp_ge 701 X 727 dL_same_701 (by decide) (show tu_rg ((k9 : Nat) : Int) from by first | assumption | exact ⟨by omega, by omega⟩) (show tu_rg ((NB : Nat) : Int) from by first | assumption | exact ⟨by omega, by omega⟩) (fun br701 => ?_) (fun br701 => ?_)
                  ·
                    refine tu_iconst 727 X dL_same_727 ?_
                    refine tu_istore 728 X (lv' := [(8, tu_i 0), (0, tu_r 0), (1, tu_r 90), (2, tu_r 86), (3, tu_r 87), (4, tu_r 88), (5, tu_r 89), (6, tu_r 91), (7, tu_i (tu_sm (fun l => if 2 ≤ tu_ti (M 7) ((l : Nat) : Int) (M 1 7).toNat then 1 else 0) NL))]) dL_same_728 (by rw [hnl]; decide) rfl ?_
                    have lp730 : ∀ (nq : Nat) (k9 : Nat), (k9 ≤ NT) → NT - k9 < nq → tu_W T 730 [(0, tu_r 0), (1, tu_r 90), (2, tu_r 86), (3, tu_r 87), (4, tu_r 88), (5, tu_r 89), (6, tu_r 91), (7, tu_i (tu_sm (fun l => if 2 ≤ tu_ti (M 7) ((l : Nat) : Int) (M 1 7).toNat then 1 else 0) NL)), (8, tu_i ((k9 : Nat) : Int))] [] Ma := by
                      intro nq
                      induction nq with
                      | zero => intros; omega
                      | succ nq ih730 =>
                        intro k9 hk9 hn730
                        refine tu_iload 730 X 8 dL_same_730 rfl ?_
                        refine tu_aload_n 732 X 1 dL_same_732 rfl ?_
                        refine tu_bipush 733 X dL_same_733 (by decide) ?_
                        refine tu_iald 735 X (x := Ma 90 7) 7 dL_same_735 (by decide) rfl (by decide) rfl (by decide) rfl ?_
                        refine tu_tp (b := (M 90 7)) (by rw [hsc 90 (by decide)]) ?_
                        refine tu_tp (b := ((NT : Nat) : Int)) (by rw [q4.2.2.2]; exact eT) ?_
                        refine tu_icmp_ge 736 X 762 dL_same_736 (by decide) (show tu_rg ((k9 : Nat) : Int) from by first | assumption | exact ⟨by omega, by omega⟩) (show tu_rg ((NT : Nat) : Int) from by first | assumption | exact ⟨by omega, by omega⟩) (fun br736 => ?_) (fun br736 => ?_)
                        ·
                          refine tu_iconst 762 X dL_same_762 ?_
                          have hst := hB.set
                          refine tu_istore 763 X (lv' := [(8, tu_i 0), (0, tu_r 0), (1, tu_r 90), (2, tu_r 86), (3, tu_r 87), (4, tu_r 88), (5, tu_r 89), (6, tu_r 91), (7, tu_i (tu_sm (fun l => if 2 ≤ tu_ti (M 7) ((l : Nat) : Int) (M 1 7).toNat then 1 else 0) NL))]) dL_same_763 (by rw [hnl]; decide) rfl ?_
                          refine tu_iload 765 X 0 dL_same_765 rfl ?_
                          refine tu_iconst 767 X dL_same_767 ?_
                          refine tu_icmp_ge 768 X 809 dL_same_768 (by decide) ⟨by decide, by decide⟩ ⟨by decide, by decide⟩ (fun br768 => ?_) (fun br768 => ?_)
                          ·
                            exfalso; omega
                          ·
                            refine tu_aload_n 771 X 1 dL_same_771 rfl ?_
                            refine tu_iload 772 X 0 dL_same_772 rfl ?_
                            refine tu_callVI 774 X (st := []) (as := [tu_i 0]) (c_X3_count 0 (show tu_OK Ma from by exact tz_OK hsc hR.ok) (show tu_rg 0 from by first | assumption | omega | exact ⟨by omega, by omega⟩ | decide)) sv_RL_51 dL_same_774 rfl (by decide) rfl rfl rfl (Nat.le_of_ble_eq_true rfl) ⟨by decide, by decide⟩ (fun z M' h => ?_)
                            obtain ⟨y_774, hM774, h774_0, hz774⟩ := h
                            refine tu_st_eq rfl (M' := Ma) hM774 ?_
                            refine tu_tp (b := y_774) hz774 ?_
                            have a774 := tz_q_count hsc h774_0
                            simp only [Int.toNat_natCast] at a774
                            
                            refine tu_aload_n 777 X 2 dL_same_777 rfl ?_
                            refine tu_iconst 778 X dL_same_778 ?_
                            refine tu_iload 779 X 0 dL_same_779 rfl ?_
                            refine tu_iadd 781 X dL_same_781 ?_
                            refine tu_iald 782 X (x := Ma 90 4) 4 dL_same_782 (by decide) rfl (by decide) rfl (by decide) rfl ?_
                            refine tu_tp (b := (M 90 4)) (by rw [hsc 90 (by decide)]) ?_
                            refine tu_tp (b := ((NL : Nat) : Int)) (by rw [q4.1]; exact eL) ?_
                            refine tu_icmp_ne 783 X 801 dL_same_783 (by decide) (show tu_rg y_774 from by first | assumption | exact ⟨by omega, by omega⟩) (show tu_rg ((NL : Nat) : Int) from by first | assumption | exact ⟨by omega, by omega⟩) (fun br783 => ?_) (fun br783 => ?_)
                            ·
                              exfalso; omega
                            ·
                              refine tu_aload_n 786 X 1 dL_same_786 rfl ?_
                              refine tu_iconst 787 X dL_same_787 ?_
                              refine tu_iload 788 X 0 dL_same_788 rfl ?_
                              refine tu_iadd 790 X dL_same_790 ?_
                              refine tu_callVI 791 X (st := []) (as := [tu_i 5]) (c_X3_count 5 (show tu_OK Ma from by exact tz_OK hsc hR.ok) (show tu_rg 5 from by first | assumption | omega | exact ⟨by omega, by omega⟩ | decide)) sv_RL_51 dL_same_791 rfl (by decide) rfl rfl rfl (Nat.le_of_ble_eq_true rfl) ⟨by decide, by decide⟩ (fun z M' h => ?_)
                              obtain ⟨y_791, hM791, h791_0, hz791⟩ := h
                              refine tu_st_eq rfl (M' := Ma) hM791 ?_
                              refine tu_tp (b := y_791) hz791 ?_
                              have a791 := tz_q_count hsc h791_0
                              simp only [Int.toNat_natCast] at a791
                              
                              refine tu_aload_n 794 X 2 dL_same_794 rfl ?_
                              refine tu_iload 795 X 0 dL_same_795 rfl ?_
                              refine tu_iald 797 X (x := Ma 90 0) 0 dL_same_797 (by decide) rfl (by decide) rfl (by decide) rfl ?_
                              refine tu_tp (b := (M 90 0)) (by rw [hsc 90 (by decide)]) ?_
                              refine tu_tp (b := (M 2 0)) (by exact hqs 0 (by decide)) ?_
                              refine tu_icmp_eq 798 X 803 dL_same_798 (by decide) (show tu_rg y_791 from by first | assumption | exact ⟨by omega, by omega⟩) (show tu_rg (M 2 0) from by first | assumption | exact ⟨by omega, by omega⟩) (fun br798 => ?_) (fun br798 => ?_)
                              ·
                                refine tu_iinc 803 X (lv' := [(8, tu_i 1), (0, tu_r 0), (1, tu_r 90), (2, tu_r 86), (3, tu_r 87), (4, tu_r 88), (5, tu_r 89), (6, tu_r 91), (7, tu_i (tu_sm (fun l => if 2 ≤ tu_ti (M 7) ((l : Nat) : Int) (M 1 7).toNat then 1 else 0) NL))]) 0 dL_same_803 rfl (by rw [hnl]; decide) rfl ?_
                                refine tu_goto 806 X 765 dL_same_806 (by decide) ?_
                                refine tu_iload 765 X 0 dL_same_765 rfl ?_
                                refine tu_iconst 767 X dL_same_767 ?_
                                refine tu_icmp_ge 768 X 809 dL_same_768 (by decide) ⟨by decide, by decide⟩ ⟨by decide, by decide⟩ (fun br768 => ?_) (fun br768 => ?_)
                                ·
                                  exfalso; omega
                                ·
                                  refine tu_aload_n 771 X 1 dL_same_771 rfl ?_
                                  refine tu_iload 772 X 0 dL_same_772 rfl ?_
                                  refine tu_callVI 774 X (st := []) (as := [tu_i 1]) (c_X3_count 1 (show tu_OK Ma from by exact tz_OK hsc hR.ok) (show tu_rg 1 from by first | assumption | omega | exact ⟨by omega, by omega⟩ | decide)) sv_RL_51 dL_same_774 rfl (by decide) rfl rfl rfl (Nat.le_of_ble_eq_true rfl) ⟨by decide, by decide⟩ (fun z M' h => ?_)
                                  obtain ⟨y_774, hM774, h774_0, hz774⟩ := h
                                  refine tu_st_eq rfl (M' := Ma) hM774 ?_
                                  refine tu_tp (b := y_774) hz774 ?_
                                  have a774 := tz_q_count hsc h774_0
                                  simp only [Int.toNat_natCast] at a774
                                  
                                  refine tu_aload_n 777 X 2 dL_same_777 rfl ?_
                                  refine tu_iconst 778 X dL_same_778 ?_
                                  refine tu_iload 779 X 0 dL_same_779 rfl ?_
                                  refine tu_iadd 781 X dL_same_781 ?_
                                  refine tu_iald 782 X (x := Ma 90 5) 5 dL_same_782 (by decide) rfl (by decide) rfl (by decide) rfl ?_
                                  refine tu_tp (b := (M 90 5)) (by rw [hsc 90 (by decide)]) ?_
                                  refine tu_tp (b := ((NP : Nat) : Int)) (by rw [q4.2.1]; exact eP) ?_
                                  refine tu_icmp_ne 783 X 801 dL_same_783 (by decide) (show tu_rg y_774 from by first | assumption | exact ⟨by omega, by omega⟩) (show tu_rg ((NP : Nat) : Int) from by first | assumption | exact ⟨by omega, by omega⟩) (fun br783 => ?_) (fun br783 => ?_)
                                  ·
                                    exfalso; omega
                                  ·
                                    refine tu_aload_n 786 X 1 dL_same_786 rfl ?_
                                    refine tu_iconst 787 X dL_same_787 ?_
                                    refine tu_iload 788 X 0 dL_same_788 rfl ?_
                                    refine tu_iadd 790 X dL_same_790 ?_
                                    refine tu_callVI 791 X (st := []) (as := [tu_i 6]) (c_X3_count 6 (show tu_OK Ma from by exact tz_OK hsc hR.ok) (show tu_rg 6 from by first | assumption | omega | exact ⟨by omega, by omega⟩ | decide)) sv_RL_51 dL_same_791 rfl (by decide) rfl rfl rfl (Nat.le_of_ble_eq_true rfl) ⟨by decide, by decide⟩ (fun z M' h => ?_)
                                    obtain ⟨y_791, hM791, h791_0, hz791⟩ := h
                                    refine tu_st_eq rfl (M' := Ma) hM791 ?_
                                    refine tu_tp (b := y_791) hz791 ?_
                                    have a791 := tz_q_count hsc h791_0
                                    simp only [Int.toNat_natCast] at a791
                                    
                                    refine tu_aload_n 794 X 2 dL_same_794 rfl ?_
                                    refine tu_iload 795 X 0 dL_same_795 rfl ?_
                                    refine tu_iald 797 X (x := Ma 90 1) 1 dL_same_797 (by decide) rfl (by decide) rfl (by decide) rfl ?_
                                    refine tu_tp (b := (M 90 1)) (by rw [hsc 90 (by decide)]) ?_
                                    refine tu_tp (b := (M 2 1)) (by exact hqs 1 (by decide)) ?_
                                    refine tu_icmp_eq 798 X 803 dL_same_798 (by decide) (show tu_rg y_791 from by first | assumption | exact ⟨by omega, by omega⟩) (show tu_rg (M 2 1) from by first | assumption | exact ⟨by omega, by omega⟩) (fun br798 => ?_) (fun br798 => ?_)
                                    ·
                                      refine tu_iinc 803 X (lv' := [(8, tu_i 2), (0, tu_r 0), (1, tu_r 90), (2, tu_r 86), (3, tu_r 87), (4, tu_r 88), (5, tu_r 89), (6, tu_r 91), (7, tu_i (tu_sm (fun l => if 2 ≤ tu_ti (M 7) ((l : Nat) : Int) (M 1 7).toNat then 1 else 0) NL))]) 0 dL_same_803 rfl (by rw [hnl]; decide) rfl ?_
                                      refine tu_goto 806 X 765 dL_same_806 (by decide) ?_
                                      refine tu_iload 765 X 0 dL_same_765 rfl ?_
                                      refine tu_iconst 767 X dL_same_767 ?_
                                      refine tu_icmp_ge 768 X 809 dL_same_768 (by decide) ⟨by decide, by decide⟩ ⟨by decide, by decide⟩ (fun br768 => ?_) (fun br768 => ?_)
                                      ·
                                        exfalso; omega
                                      ·
                                        refine tu_aload_n 771 X 1 dL_same_771 rfl ?_
                                        refine tu_iload 772 X 0 dL_same_772 rfl ?_
                                        refine tu_callVI 774 X (st := []) (as := [tu_i 2]) (c_X3_count 2 (show tu_OK Ma from by exact tz_OK hsc hR.ok) (show tu_rg 2 from by first | assumption | omega | exact ⟨by omega, by omega⟩ | decide)) sv_RL_51 dL_same_774 rfl (by decide) rfl rfl rfl (Nat.le_of_ble_eq_true rfl) ⟨by decide, by decide⟩ (fun z M' h => ?_)
                                        obtain ⟨y_774, hM774, h774_0, hz774⟩ := h
                                        refine tu_st_eq rfl (M' := Ma) hM774 ?_
                                        refine tu_tp (b := y_774) hz774 ?_
                                        have a774 := tz_q_count hsc h774_0
                                        simp only [Int.toNat_natCast] at a774
                                        
                                        refine tu_aload_n 777 X 2 dL_same_777 rfl ?_
                                        refine tu_iconst 778 X dL_same_778 ?_
                                        refine tu_iload 779 X 0 dL_same_779 rfl ?_
                                        refine tu_iadd 781 X dL_same_781 ?_
                                        refine tu_iald 782 X (x := Ma 90 6) 6 dL_same_782 (by decide) rfl (by decide) rfl (by decide) rfl ?_
                                        refine tu_tp (b := (M 90 6)) (by rw [hsc 90 (by decide)]) ?_
                                        refine tu_tp (b := ((NB : Nat) : Int)) (by rw [q4.2.2.1]; exact eB) ?_
                                        refine tu_icmp_ne 783 X 801 dL_same_783 (by decide) (show tu_rg y_774 from by first | assumption | exact ⟨by omega, by omega⟩) (show tu_rg ((NB : Nat) : Int) from by first | assumption | exact ⟨by omega, by omega⟩) (fun br783 => ?_) (fun br783 => ?_)
                                        ·
                                          exfalso; omega
                                        ·
                                          refine tu_aload_n 786 X 1 dL_same_786 rfl ?_
                                          refine tu_iconst 787 X dL_same_787 ?_
                                          refine tu_iload 788 X 0 dL_same_788 rfl ?_
                                          refine tu_iadd 790 X dL_same_790 ?_
                                          refine tu_callVI 791 X (st := []) (as := [tu_i 7]) (c_X3_count 7 (show tu_OK Ma from by exact tz_OK hsc hR.ok) (show tu_rg 7 from by first | assumption | omega | exact ⟨by omega, by omega⟩ | decide)) sv_RL_51 dL_same_791 rfl (by decide) rfl rfl rfl (Nat.le_of_ble_eq_true rfl) ⟨by decide, by decide⟩ (fun z M' h => ?_)
                                          obtain ⟨y_791, hM791, h791_0, hz791⟩ := h
                                          refine tu_st_eq rfl (M' := Ma) hM791 ?_
                                          refine tu_tp (b := y_791) hz791 ?_
                                          have a791 := tz_q_count hsc h791_0
                                          simp only [Int.toNat_natCast] at a791
                                          
                                          refine tu_aload_n 794 X 2 dL_same_794 rfl ?_
                                          refine tu_iload 795 X 0 dL_same_795 rfl ?_
                                          refine tu_iald 797 X (x := Ma 90 2) 2 dL_same_797 (by decide) rfl (by decide) rfl (by decide) rfl ?_
                                          refine tu_tp (b := (M 90 2)) (by rw [hsc 90 (by decide)]) ?_
                                          refine tu_tp (b := (M 2 2)) (by exact hqs 2 (by decide)) ?_
                                          refine tu_icmp_eq 798 X 803 dL_same_798 (by decide) (show tu_rg y_791 from by first | assumption | exact ⟨by omega, by omega⟩) (show tu_rg (M 2 2) from by first | assumption | exact ⟨by omega, by omega⟩) (fun br798 => ?_) (fun br798 => ?_)
                                          ·
                                            refine tu_iinc 803 X (lv' := [(8, tu_i 3), (0, tu_r 0), (1, tu_r 90), (2, tu_r 86), (3, tu_r 87), (4, tu_r 88), (5, tu_r 89), (6, tu_r 91), (7, tu_i (tu_sm (fun l => if 2 ≤ tu_ti (M 7) ((l : Nat) : Int) (M 1 7).toNat then 1 else 0) NL))]) 0 dL_same_803 rfl (by rw [hnl]; decide) rfl ?_
                                            refine tu_goto 806 X 765 dL_same_806 (by decide) ?_
                                            refine tu_iload 765 X 0 dL_same_765 rfl ?_
                                            refine tu_iconst 767 X dL_same_767 ?_
                                            refine tu_icmp_ge 768 X 809 dL_same_768 (by decide) ⟨by decide, by decide⟩ ⟨by decide, by decide⟩ (fun br768 => ?_) (fun br768 => ?_)
                                            ·
                                              exfalso; omega
                                            ·
                                              refine tu_aload_n 771 X 1 dL_same_771 rfl ?_
                                              refine tu_iload 772 X 0 dL_same_772 rfl ?_
                                              refine tu_callVI 774 X (st := []) (as := [tu_i 3]) (c_X3_count 3 (show tu_OK Ma from by exact tz_OK hsc hR.ok) (show tu_rg 3 from by first | assumption | omega | exact ⟨by omega, by omega⟩ | decide)) sv_RL_51 dL_same_774 rfl (by decide) rfl rfl rfl (Nat.le_of_ble_eq_true rfl) ⟨by decide, by decide⟩ (fun z M' h => ?_)
                                              obtain ⟨y_774, hM774, h774_0, hz774⟩ := h
                                              refine tu_st_eq rfl (M' := Ma) hM774 ?_
                                              refine tu_tp (b := y_774) hz774 ?_
                                              have a774 := tz_q_count hsc h774_0
                                              simp only [Int.toNat_natCast] at a774
                                              
                                              refine tu_aload_n 777 X 2 dL_same_777 rfl ?_
                                              refine tu_iconst 778 X dL_same_778 ?_
                                              refine tu_iload 779 X 0 dL_same_779 rfl ?_
                                              refine tu_iadd 781 X dL_same_781 ?_
                                              refine tu_iald 782 X (x := Ma 90 7) 7 dL_same_782 (by decide) rfl (by decide) rfl (by decide) rfl ?_
                                              refine tu_tp (b := (M 90 7)) (by rw [hsc 90 (by decide)]) ?_
                                              refine tu_tp (b := ((NT : Nat) : Int)) (by rw [q4.2.2.2]; exact eT) ?_
                                              refine tu_icmp_ne 783 X 801 dL_same_783 (by decide) (show tu_rg y_774 from by first | assumption | exact ⟨by omega, by omega⟩) (show tu_rg ((NT : Nat) : Int) from by first | assumption | exact ⟨by omega, by omega⟩) (fun br783 => ?_) (fun br783 => ?_)
                                              ·
                                                exfalso; omega
                                              ·
                                                refine tu_aload_n 786 X 1 dL_same_786 rfl ?_
                                                refine tu_iconst 787 X dL_same_787 ?_
                                                refine tu_iload 788 X 0 dL_same_788 rfl ?_
                                                refine tu_iadd 790 X dL_same_790 ?_
                                                refine tu_callVI 791 X (st := []) (as := [tu_i 8]) (c_X3_count 8 (show tu_OK Ma from by exact tz_OK hsc hR.ok) (show tu_rg 8 from by first | assumption | omega | exact ⟨by omega, by omega⟩ | decide)) sv_RL_51 dL_same_791 rfl (by decide) rfl rfl rfl (Nat.le_of_ble_eq_true rfl) ⟨by decide, by decide⟩ (fun z M' h => ?_)
                                                obtain ⟨y_791, hM791, h791_0, hz791⟩ := h
                                                refine tu_st_eq rfl (M' := Ma) hM791 ?_
                                                refine tu_tp (b := y_791) hz791 ?_
                                                have a791 := tz_q_count hsc h791_0
                                                simp only [Int.toNat_natCast] at a791
                                                
                                                refine tu_aload_n 794 X 2 dL_same_794 rfl ?_
                                                refine tu_iload 795 X 0 dL_same_795 rfl ?_
                                                refine tu_iald 797 X (x := Ma 90 3) 3 dL_same_797 (by decide) rfl (by decide) rfl (by decide) rfl ?_
                                                refine tu_tp (b := (M 90 3)) (by rw [hsc 90 (by decide)]) ?_
                                                refine tu_tp (b := (M 2 3)) (by exact hqs 3 (by decide)) ?_
                                                refine tu_icmp_eq 798 X 803 dL_same_798 (by decide) (show tu_rg y_791 from by first | assumption | exact ⟨by omega, by omega⟩) (show tu_rg (M 2 3) from by first | assumption | exact ⟨by omega, by omega⟩) (fun br798 => ?_) (fun br798 => ?_)
                                                ·
                                                  refine tu_iinc 803 X (lv' := [(8, tu_i 4), (0, tu_r 0), (1, tu_r 90), (2, tu_r 86), (3, tu_r 87), (4, tu_r 88), (5, tu_r 89), (6, tu_r 91), (7, tu_i (tu_sm (fun l => if 2 ≤ tu_ti (M 7) ((l : Nat) : Int) (M 1 7).toNat then 1 else 0) NL))]) 0 dL_same_803 rfl (by rw [hnl]; decide) rfl ?_
                                                  refine tu_goto 806 X 765 dL_same_806 (by decide) ?_
                                                  refine tu_iload 765 X 0 dL_same_765 rfl ?_
                                                  refine tu_iconst 767 X dL_same_767 ?_
                                                  refine tu_icmp_ge 768 X 809 dL_same_768 (by decide) ⟨by decide, by decide⟩ ⟨by decide, by decide⟩ (fun br768 => ?_) (fun br768 => ?_)
                                                  ·
                                                    have hbu : 0 ≤ tu_sm (fun l => if 2 ≤ tu_ti (M 7) ((l : Nat) : Int) (M 1 7).toNat then 1 else 0) NL ∧ tu_sm (fun l => if 2 ≤ tu_ti (M 7) ((l : Nat) : Int) (M 1 7).toNat then 1 else 0) NL ≤ 1 * (NL : Int) := tu_sm_bd (fun q _ => by split <;> omega)
                                                    refine tu_aload_n 809 X 1 dL_same_809 rfl ?_
                                                    refine tu_iconst 810 X dL_same_810 ?_
                                                    refine tu_callVI 811 X (st := []) (as := [tu_i 4]) (c_X3_count 4 (show tu_OK Ma from by exact tz_OK hsc hR.ok) (show tu_rg 4 from by first | assumption | omega | exact ⟨by omega, by omega⟩ | decide)) sv_RL_51 dL_same_811 rfl (by decide) rfl rfl rfl (Nat.le_of_ble_eq_true rfl) ⟨by decide, by decide⟩ (fun z M' h => ?_)
                                                    obtain ⟨y_811, hM811, h811_0, hz811⟩ := h
                                                    refine tu_st_eq rfl (M' := Ma) hM811 ?_
                                                    refine tu_tp (b := y_811) hz811 ?_
                                                    have a811 := tz_q_count hsc h811_0
                                                    simp only [Int.toNat_natCast] at a811
                                                    have b811 : y_811 = tu_sm (fun l => if 2 ≤ tu_ti (M 7) ((l : Nat) : Int) (M 1 7).toNat then 1 else 0) NL := by
                                                      rw [show NL = (M 1 1).toNat from by omega]
                                                      omega
                                                    refine tu_iload 814 X 8 dL_same_814 rfl ?_
                                                    refine tu_icmp_ne 816 X 849 dL_same_816 (by decide) (show tu_rg y_811 from by first | assumption | exact ⟨by omega, by omega⟩) (show tu_rg (tu_sm (fun l => if 2 ≤ tu_ti (M 7) ((l : Nat) : Int) (M 1 7).toNat then 1 else 0) NL) from by first | assumption | exact ⟨by omega, by omega⟩) (fun br816 => ?_) (fun br816 => ?_)
                                                    ·
                                                      exfalso; omega
                                                    ·
                                                      refine tu_aload_n 819 X 1 dL_same_819 rfl ?_
                                                      refine tu_iconst 820 X dL_same_820 ?_
                                                      refine tu_aload_n 821 X 2 dL_same_821 rfl ?_
                                                      refine tu_bipush 822 X dL_same_822 (by decide) ?_
                                                      refine tu_iald 824 X (x := Ma 90 6) 6 dL_same_824 (by decide) rfl (by decide) rfl (by decide) rfl ?_
                                                      refine tu_tp (b := (M 90 6)) (by rw [hsc 90 (by decide)]) ?_
                                                      refine tu_tp (b := ((NB : Nat) : Int)) (by rw [q4.2.2.1]; exact eB) ?_
                                                      refine tu_callVI 825 X (st := []) (as := [tu_i 0, tu_i ((NB : Nat) : Int)]) (c_X3_at 0 ((NB : Nat) : Int) (show tu_OK Ma from by exact tz_OK hsc hR.ok) (show tu_rg 0 from by first | assumption | omega | exact ⟨by omega, by omega⟩ | decide) (show tu_rg ((NB : Nat) : Int) from by first | assumption | omega | exact ⟨by omega, by omega⟩ | decide) (show 0 = 0 ∨ 0 = 1 from by exact Or.inl rfl)) sv_RL_47 dL_same_825 rfl (by decide) rfl rfl rfl (Nat.le_of_ble_eq_true rfl) ⟨by decide, by decide⟩ (fun z M' h => ?_)
                                                      obtain ⟨y_825, hM825, h825_0, hz825⟩ := h
                                                      refine tu_st_eq rfl (M' := Ma) hM825 ?_
                                                      refine tu_tp (b := y_825) hz825 ?_
                                                      have a825 := tz_q_at hsc h825_0
                                                      simp only [Int.toNat_natCast] at a825
                                                      have b825 : y_825 = -1 := by omega
                                                      refine tu_iconst 828 X dL_same_828 ?_
                                                      refine tu_icmp_ne 829 X 849 dL_same_829 (by decide) (show tu_rg y_825 from by first | assumption | exact ⟨by omega, by omega⟩) ⟨by decide, by decide⟩ (fun br829 => ?_) (fun br829 => ?_)
                                                      ·
                                                        exfalso; omega
                                                      ·
                                                        refine tu_aload_n 832 X 1 dL_same_832 rfl ?_
                                                        refine tu_iconst 833 X dL_same_833 ?_
                                                        refine tu_aload_n 834 X 2 dL_same_834 rfl ?_
                                                        refine tu_bipush 835 X dL_same_835 (by decide) ?_
                                                        refine tu_iald 837 X (x := Ma 90 7) 7 dL_same_837 (by decide) rfl (by decide) rfl (by decide) rfl ?_
                                                        refine tu_tp (b := (M 90 7)) (by rw [hsc 90 (by decide)]) ?_
                                                        refine tu_tp (b := ((NT : Nat) : Int)) (by rw [q4.2.2.2]; exact eT) ?_
                                                        refine tu_callVI 838 X (st := []) (as := [tu_i 1, tu_i ((NT : Nat) : Int)]) (c_X3_at 1 ((NT : Nat) : Int) (show tu_OK Ma from by exact tz_OK hsc hR.ok) (show tu_rg 1 from by first | assumption | omega | exact ⟨by omega, by omega⟩ | decide) (show tu_rg ((NT : Nat) : Int) from by first | assumption | omega | exact ⟨by omega, by omega⟩ | decide) (show 1 = 0 ∨ 1 = 1 from by exact Or.inr rfl)) sv_RL_47 dL_same_838 rfl (by decide) rfl rfl rfl (Nat.le_of_ble_eq_true rfl) ⟨by decide, by decide⟩ (fun z M' h => ?_)
                                                        obtain ⟨y_838, hM838, h838_0, hz838⟩ := h
                                                        refine tu_st_eq rfl (M' := Ma) hM838 ?_
                                                        refine tu_tp (b := y_838) hz838 ?_
                                                        have a838 := tz_q_at hsc h838_0
                                                        simp only [Int.toNat_natCast] at a838
                                                        have b838 : y_838 = -1 := by omega
                                                        refine tu_iconst 841 X dL_same_841 ?_
                                                        refine tu_icmp_ne 842 X 849 dL_same_842 (by decide) (show tu_rg y_838 from by first | assumption | exact ⟨by omega, by omega⟩) ⟨by decide, by decide⟩ (fun br842 => ?_) (fun br842 => ?_)
                                                        ·
                                                          exfalso; omega
                                                        ·
                                                          refine tu_iconst 845 X dL_same_845 ?_
                                                          refine tu_goto 846 X 850 dL_same_846 (by decide) ?_
                                                          refine hret 850 _ _ 1 dL_same_850 (fun _ => Or.inr rfl) ?_
                                                          exact ⟨_, hsc, rfl, rfl⟩
                                                  ·
                                                    exfalso; omega
                                                ·
                                                  exfalso; omega
                                          ·
                                            exfalso; omega
                                    ·
                                      exfalso; omega
                              ·
                                exfalso; omega
                        ·
                          have htn := hB.tun k9 (by omega)
                          refine tu_aload_n 739 X 0 dL_same_739 rfl ?_
                          refine tu_iconst 740 X dL_same_740 ?_
                          refine tu_iload 741 X 8 dL_same_741 rfl ?_
                          refine tu_callVI 743 X (st := []) (as := [tu_i 1, tu_i ((k9 : Nat) : Int)]) (c_X3_at 1 ((k9 : Nat) : Int) (show tu_OK Ma from by exact tz_OK hsc hR.ok) (show tu_rg 1 from by first | assumption | omega | exact ⟨by omega, by omega⟩ | decide) (show tu_rg ((k9 : Nat) : Int) from by first | assumption | omega | exact ⟨by omega, by omega⟩ | decide) (show 1 = 0 ∨ 1 = 1 from by exact Or.inr rfl)) sv_RL_47 dL_same_743 rfl (by decide) rfl rfl rfl (Nat.le_of_ble_eq_true rfl) ⟨by decide, by decide⟩ (fun z M' h => ?_)
                          obtain ⟨y_743, hM743, h743_0, hz743⟩ := h
                          refine tu_st_eq rfl (M' := Ma) hM743 ?_
                          refine tu_tp (b := y_743) hz743 ?_
                          have a743 := tz_q_at hsc h743_0
                          simp only [Int.toNat_natCast] at a743
                          have b743 : y_743 = M 8 k9 := by omega
                          refine tu_aload 746 X 5 dL_same_746 rfl ?_
                          refine tu_iload 748 X 8 dL_same_748 rfl ?_
                          refine tu_iald 750 X (x := Ma 89 k9) k9 dL_same_750 (by decide) rfl (by decide) (by omega) (by omega) rfl ?_
                          refine tu_tp (b := (M 89 k9)) (by rw [hsc 89 (by decide)]) ?_
                          refine tu_tp (b := (M 8 k9)) (by exact hR.tn k9 (by omega)) ?_
                          refine tu_icmp_eq 751 X 756 dL_same_751 (by decide) (show tu_rg y_743 from by first | assumption | exact ⟨by omega, by omega⟩) (show tu_rg (M 8 k9) from by first | assumption | exact ⟨by omega, by omega⟩) (fun br751 => ?_) (fun br751 => ?_)
                          ·
                            refine tu_iinc 756 X (lv' := [(8, tu_i (((k9 : Nat) : Int) + 1)), (0, tu_r 0), (1, tu_r 90), (2, tu_r 86), (3, tu_r 87), (4, tu_r 88), (5, tu_r 89), (6, tu_r 91), (7, tu_i (tu_sm (fun l => if 2 ≤ tu_ti (M 7) ((l : Nat) : Int) (M 1 7).toNat then 1 else 0) NL))]) 8 dL_same_756 rfl (by rw [hnl]; decide) rfl ?_
                            refine tu_goto 759 X 730 dL_same_759 (by decide) ?_
                            refine tu_jmp [1, 2, 3, 4, 5, 6, 7, 8, 0] (lv' := [(0, tu_r 0), (1, tu_r 90), (2, tu_r 86), (3, tu_r 87), (4, tu_r 88), (5, tu_r 89), (6, tu_r 91), (7, tu_i (tu_sm (fun l => if 2 ≤ tu_ti (M 7) ((l : Nat) : Int) (M 1 7).toNat then 1 else 0) NL)), (8, tu_i (((k9 + 1) : Nat) : Int))]) ⟨rfl, rfl, rfl, rfl, rfl, rfl, rfl, rfl, tu_ei (by first | rfl | omega), trivial⟩ rfl (ih730 (k9 + 1) (by omega) (by omega))
                          ·
                            exfalso; omega
                    refine tu_jmp [1, 2, 3, 4, 5, 6, 7, 8, 0] (lv' := [(0, tu_r 0), (1, tu_r 90), (2, tu_r 86), (3, tu_r 87), (4, tu_r 88), (5, tu_r 89), (6, tu_r 91), (7, tu_i (tu_sm (fun l => if 2 ≤ tu_ti (M 7) ((l : Nat) : Int) (M 1 7).toNat then 1 else 0) NL)), (8, tu_i 0)]) ⟨rfl, rfl, rfl, rfl, rfl, rfl, rfl, rfl, rfl, trivial⟩ rfl (lp730 ((NT - 0) + 1) 0 (by omega) (by omega))
                  ·
                    have hba := hB.bal k9 (by omega)
                    refine tu_aload_n 704 X 0 dL_same_704 rfl ?_
                    refine tu_iconst 705 X dL_same_705 ?_
                    refine tu_iload 706 X 8 dL_same_706 rfl ?_
                    refine tu_callVI 708 X (st := []) (as := [tu_i 0, tu_i ((k9 : Nat) : Int)]) (c_X3_at 0 ((k9 : Nat) : Int) (show tu_OK Ma from by exact tz_OK hsc hR.ok) (show tu_rg 0 from by first | assumption | omega | exact ⟨by omega, by omega⟩ | decide) (show tu_rg ((k9 : Nat) : Int) from by first | assumption | omega | exact ⟨by omega, by omega⟩ | decide) (show 0 = 0 ∨ 0 = 1 from by exact Or.inl rfl)) sv_RL_47 dL_same_708 rfl (by decide) rfl rfl rfl (Nat.le_of_ble_eq_true rfl) ⟨by decide, by decide⟩ (fun z M' h => ?_)
                    obtain ⟨y_708, hM708, h708_0, hz708⟩ := h
                    refine tu_st_eq rfl (M' := Ma) hM708 ?_
                    refine tu_tp (b := y_708) hz708 ?_
                    have a708 := tz_q_at hsc h708_0
                    simp only [Int.toNat_natCast] at a708
                    have b708 : y_708 = M 7 k9 := by omega
                    refine tu_aload 711 X 4 dL_same_711 rfl ?_
                    refine tu_iload 713 X 8 dL_same_713 rfl ?_
                    refine tu_iald 715 X (x := Ma 88 k9) k9 dL_same_715 (by decide) rfl (by decide) (by omega) (by omega) rfl ?_
                    refine tu_tp (b := (M 88 k9)) (by rw [hsc 88 (by decide)]) ?_
                    refine tu_tp (b := (M 7 k9)) (by exact hR.ba k9 (by omega)) ?_
                    refine tu_icmp_eq 716 X 721 dL_same_716 (by decide) (show tu_rg y_708 from by first | assumption | exact ⟨by omega, by omega⟩) (show tu_rg (M 7 k9) from by first | assumption | exact ⟨by omega, by omega⟩) (fun br716 => ?_) (fun br716 => ?_)
                    ·
                      refine tu_iinc 721 X (lv' := [(8, tu_i (((k9 : Nat) : Int) + 1)), (0, tu_r 0), (1, tu_r 90), (2, tu_r 86), (3, tu_r 87), (4, tu_r 88), (5, tu_r 89), (6, tu_r 91), (7, tu_i (tu_sm (fun l => if 2 ≤ tu_ti (M 7) ((l : Nat) : Int) (M 1 7).toNat then 1 else 0) NL))]) 8 dL_same_721 rfl (by rw [hnl]; decide) rfl ?_
                      refine tu_goto 724 X 695 dL_same_724 (by decide) ?_
                      refine tu_jmp [1, 2, 3, 4, 5, 6, 7, 8, 0] (lv' := [(0, tu_r 0), (1, tu_r 90), (2, tu_r 86), (3, tu_r 87), (4, tu_r 88), (5, tu_r 89), (6, tu_r 91), (7, tu_i (tu_sm (fun l => if 2 ≤ tu_ti (M 7) ((l : Nat) : Int) (M 1 7).toNat then 1 else 0) NL)), (8, tu_i (((k9 + 1) : Nat) : Int))]) ⟨rfl, rfl, rfl, rfl, rfl, rfl, rfl, rfl, tu_ei (by first | rfl | omega), trivial⟩ rfl (ih695 (k9 + 1) (by omega) (by omega))
                    ·
                      exfalso; omega
              refine tu_jmp [1, 2, 3, 4, 5, 6, 7, 8, 0] (lv' := [(0, tu_r 0), (1, tu_r 90), (2, tu_r 86), (3, tu_r 87), (4, tu_r 88), (5, tu_r 89), (6, tu_r 91), (7, tu_i (tu_sm (fun l => if 2 ≤ tu_ti (M 7) ((l : Nat) : Int) (M 1 7).toNat then 1 else 0) NL)), (8, tu_i 0)]) ⟨rfl, rfl, rfl, rfl, rfl, rfl, rfl, rfl, rfl, trivial⟩ rfl (lp695 ((NB - 0) + 1) 0 (by omega) (by omega))
            ·
              have hpM : (p9 : Int) < M 1 4 := by omega
              have hnp9 := hR.np hpM
              have hph := hR.ph p9 hpM
              refine tu_aload_n 420 X 3 dL_same_420 rfl ?_
              refine tu_iconst 421 X dL_same_421 ?_
              refine tu_iload 422 X 8 dL_same_422 rfl ?_
              refine tu_imul 424 X dL_same_424 ?_
              refine tu_iald 425 X (x := Ma 87 (3 * p9)) (3 * p9) dL_same_425 (by decide) rfl (by decide) (by omega) (by omega) rfl ?_
              refine tu_tp (b := (M 87 (3 * p9))) (by rw [hsc 87 (by decide)]) ?_
              refine tu_tp (b := (((tu_np (tu_cb M) p9) : Nat) : Int)) (by rw [hph.2.1]; exact hnp9.1) ?_
              refine tu_istore 426 X (lv' := [(9, tu_i (((tu_np (tu_cb M) p9) : Nat) : Int)), (0, tu_r 0), (1, tu_r 90), (2, tu_r 86), (3, tu_r 87), (4, tu_r 88), (5, tu_r 89), (6, tu_r 91), (7, tu_i (tu_sm (fun l => if 2 ≤ tu_ti (M 7) ((l : Nat) : Int) (M 1 7).toNat then 1 else 0) NL)), (8, tu_i ((p9 : Nat) : Int))]) dL_same_426 (by rw [hnl]; decide) rfl ?_
              refine tu_iconst 428 X dL_same_428 ?_
              refine tu_istore 429 X (lv' := [(10, tu_i 0), (9, tu_i (((tu_np (tu_cb M) p9) : Nat) : Int)), (0, tu_r 0), (1, tu_r 90), (2, tu_r 86), (3, tu_r 87), (4, tu_r 88), (5, tu_r 89), (6, tu_r 91), (7, tu_i (tu_sm (fun l => if 2 ≤ tu_ti (M 7) ((l : Nat) : Int) (M 1 7).toNat then 1 else 0) NL)), (8, tu_i ((p9 : Nat) : Int))]) dL_same_429 (by rw [hnl]; decide) rfl ?_
              refine tu_iconst 431 X dL_same_431 ?_
              refine tu_istore 432 X (lv' := [(11, tu_i 0), (10, tu_i 0), (9, tu_i (((tu_np (tu_cb M) p9) : Nat) : Int)), (0, tu_r 0), (1, tu_r 90), (2, tu_r 86), (3, tu_r 87), (4, tu_r 88), (5, tu_r 89), (6, tu_r 91), (7, tu_i (tu_sm (fun l => if 2 ≤ tu_ti (M 7) ((l : Nat) : Int) (M 1 7).toNat then 1 else 0) NL)), (8, tu_i ((p9 : Nat) : Int))]) dL_same_432 (by rw [hnl]; decide) rfl ?_
              refine tu_iconst 434 X dL_same_434 ?_
              refine tu_istore 435 X (lv' := [(12, tu_i 0), (11, tu_i 0), (10, tu_i 0), (9, tu_i (((tu_np (tu_cb M) p9) : Nat) : Int)), (0, tu_r 0), (1, tu_r 90), (2, tu_r 86), (3, tu_r 87), (4, tu_r 88), (5, tu_r 89), (6, tu_r 91), (7, tu_i (tu_sm (fun l => if 2 ≤ tu_ti (M 7) ((l : Nat) : Int) (M 1 7).toNat then 1 else 0) NL)), (8, tu_i ((p9 : Nat) : Int))]) dL_same_435 (by rw [hnl]; decide) rfl ?_
              refine tu_iconst 437 X dL_same_437 ?_
              refine tu_istore 438 X (lv' := [(13, tu_i 0), (12, tu_i 0), (11, tu_i 0), (10, tu_i 0), (9, tu_i (((tu_np (tu_cb M) p9) : Nat) : Int)), (0, tu_r 0), (1, tu_r 90), (2, tu_r 86), (3, tu_r 87), (4, tu_r 88), (5, tu_r 89), (6, tu_r 91), (7, tu_i (tu_sm (fun l => if 2 ≤ tu_ti (M 7) ((l : Nat) : Int) (M 1 7).toNat then 1 else 0) NL)), (8, tu_i ((p9 : Nat) : Int))]) dL_same_438 (by rw [hnl]; decide) rfl ?_
              have lp440 : ∀ (nq : Nat) (b9 : Nat), (b9 ≤ (tu_np (tu_cb M) p9)) → (tu_np (tu_cb M) p9) - b9 < nq → tu_W T 440 [(0, tu_r 0), (1, tu_r 90), (2, tu_r 86), (3, tu_r 87), (4, tu_r 88), (5, tu_r 89), (6, tu_r 91), (7, tu_i (tu_sm (fun l => if 2 ≤ tu_ti (M 7) ((l : Nat) : Int) (M 1 7).toNat then 1 else 0) NL)), (8, tu_i ((p9 : Nat) : Int)), (9, tu_i (((tu_np (tu_cb M) p9) : Nat) : Int)), (10, tu_i (tu_rn (tu_kp (tu_cb M) p9) b9)), (11, tu_i (tu_lg (tu_kp (tu_cb M) p9) b9)), (12, tu_i 0), (13, tu_i ((b9 : Nat) : Int))] [] Ma := by
                intro nq
                induction nq with
                | zero => intros; omega
                | succ nq ih440 =>
                  intro b9 hb9 hn440
                  refine tu_iload 440 X 13 dL_same_440 rfl ?_
                  refine tu_iload 442 X 9 dL_same_442 rfl ?_
                  refine tu_icmp_ge 444 X 530 dL_same_444 (by decide) (show tu_rg ((b9 : Nat) : Int) from by first | assumption | exact ⟨by omega, by omega⟩) (show tu_rg (((tu_np (tu_cb M) p9) : Nat) : Int) from by first | assumption | exact ⟨by omega, by omega⟩) (fun br444 => ?_) (fun br444 => ?_)
                  ·
                    refine tu_iconst 530 X dL_same_530 ?_
                    refine tu_istore 531 X (lv' := [(13, tu_i 0), (0, tu_r 0), (1, tu_r 90), (2, tu_r 86), (3, tu_r 87), (4, tu_r 88), (5, tu_r 89), (6, tu_r 91), (7, tu_i (tu_sm (fun l => if 2 ≤ tu_ti (M 7) ((l : Nat) : Int) (M 1 7).toNat then 1 else 0) NL)), (8, tu_i ((p9 : Nat) : Int)), (9, tu_i (((tu_np (tu_cb M) p9) : Nat) : Int)), (10, tu_i (tu_rn (tu_kp (tu_cb M) p9) b9)), (11, tu_i (tu_lg (tu_kp (tu_cb M) p9) b9)), (12, tu_i 0)]) dL_same_531 (by rw [hnl]; decide) rfl ?_
                    have lp533 : ∀ (nq : Nat) (k9 : Nat), (k9 ≤ NT) → NT - k9 < nq → tu_W T 533 [(0, tu_r 0), (1, tu_r 90), (2, tu_r 86), (3, tu_r 87), (4, tu_r 88), (5, tu_r 89), (6, tu_r 91), (7, tu_i (tu_sm (fun l => if 2 ≤ tu_ti (M 7) ((l : Nat) : Int) (M 1 7).toNat then 1 else 0) NL)), (8, tu_i ((p9 : Nat) : Int)), (9, tu_i (((tu_np (tu_cb M) p9) : Nat) : Int)), (10, tu_i (tu_rn (tu_kp (tu_cb M) p9) b9)), (11, tu_i (tu_lg (tu_kp (tu_cb M) p9) b9)), (12, tu_i (tu_ti (M 8) ((p9 : Nat) : Int) k9)), (13, tu_i ((k9 : Nat) : Int))] [] Ma := by
                      intro nq
                      induction nq with
                      | zero => intros; omega
                      | succ nq ih533 =>
                        intro k9 hk9 hn533
                        refine tu_iload 533 X 13 dL_same_533 rfl ?_
                        refine tu_aload_n 535 X 1 dL_same_535 rfl ?_
                        refine tu_bipush 536 X dL_same_536 (by decide) ?_
                        refine tu_iald 538 X (x := Ma 90 7) 7 dL_same_538 (by decide) rfl (by decide) rfl (by decide) rfl ?_
                        refine tu_tp (b := (M 90 7)) (by rw [hsc 90 (by decide)]) ?_
                        refine tu_tp (b := ((NT : Nat) : Int)) (by rw [q4.2.2.2]; exact eT) ?_
                        refine tu_icmp_ge 539 X 568 dL_same_539 (by decide) (show tu_rg ((k9 : Nat) : Int) from by first | assumption | exact ⟨by omega, by omega⟩) (show tu_rg ((NT : Nat) : Int) from by first | assumption | exact ⟨by omega, by omega⟩) (fun br539 => ?_) (fun br539 => ?_)
                        ·
                          refine tu_jmp [0, 1, 2, 3, 4, 5, 6, 7, 8, 9, 10, 11, 12, 13] (lv' := [(0, tu_r 0), (1, tu_r 90), (2, tu_r 86), (3, tu_r 87), (4, tu_r 88), (5, tu_r 89), (6, tu_r 91), (7, tu_i (tu_sm (fun l => if 2 ≤ tu_ti (M 7) ((l : Nat) : Int) (M 1 7).toNat then 1 else 0) NL)), (8, tu_i ((p9 : Nat) : Int)), (9, tu_i (((tu_np (tu_cb M) p9) : Nat) : Int)), (10, tu_i (tu_rn (tu_kp (tu_cb M) p9) b9)), (11, tu_i (tu_lg (tu_kp (tu_cb M) p9) (tu_np (tu_cb M) p9))), (12, tu_i (tu_ti (M 8) ((p9 : Nat) : Int) (M 1 9).toNat)), (13, tu_i ((k9 : Nat) : Int))]) ⟨rfl, rfl, rfl, rfl, rfl, rfl, rfl, rfl, rfl, rfl, rfl, tu_ei (by rw [show (tu_np (tu_cb M) p9) = b9 from by omega]), tu_ei (by rw [show (M 1 9).toNat = k9 from by omega]), rfl, trivial⟩ rfl ?_
                          refine tu_aload_n 568 X 3 dL_same_568 rfl ?_
                          refine tu_iconst 569 X dL_same_569 ?_
                          refine tu_iload 570 X 8 dL_same_570 rfl ?_
                          refine tu_imul 572 X dL_same_572 ?_
                          refine tu_iconst 573 X dL_same_573 ?_
                          refine tu_iadd 574 X dL_same_574 ?_
                          refine tu_iald 575 X (x := Ma 87 ((3 * p9) + 1)) ((3 * p9) + 1) dL_same_575 (by decide) rfl (by decide) (by omega) (by omega) rfl ?_
                          refine tu_tp (b := (M 87 ((3 * p9) + 1))) (by rw [hsc 87 (by decide)]) ?_
                          refine tu_callSI 576 X (st := []) (as := [tu_i (M 87 ((3 * p9) + 1))]) (c_L_bits (M 87 ((3 * p9) + 1)) (tu_np (tu_cb M) p9) (tz_k2 (tu_kp (tu_cb M) p9)) (show tu_mk (M 87 ((3 * p9) + 1)) (tu_np (tu_cb M) p9) (tz_k2 (tu_kp (tu_cb M) p9)) from by exact hph.2.2.1.2) (show (tu_np (tu_cb M) p9) ≤ 9 from by omega) (show tu_rg (M 87 ((3 * p9) + 1)) from by exact hph.2.2.1.1)) ss_RL_37 dL_same_576 rfl (Nat.le_of_ble_eq_true rfl) ⟨by decide, by decide⟩ (fun z M' h => ?_)
                          obtain ⟨hM576, hz576⟩ := h
                          refine tu_st_eq rfl (M' := Ma) hM576 ?_
                          refine tu_tp (b := (tu_ti (tz_k2 (tu_kp (tu_cb M) p9)) 1 (tu_np (tu_cb M) p9))) hz576 ?_
                          refine tu_tp (b := (tu_ti (tu_kp (tu_cb M) p9) 2 (tu_np (tu_cb M) p9))) (by exact tz_ti_k2 _ _) ?_
                          refine tu_istore 579 X (lv' := [(13, tu_i (tu_ti (tu_kp (tu_cb M) p9) 2 (tu_np (tu_cb M) p9))), (0, tu_r 0), (1, tu_r 90), (2, tu_r 86), (3, tu_r 87), (4, tu_r 88), (5, tu_r 89), (6, tu_r 91), (7, tu_i (tu_sm (fun l => if 2 ≤ tu_ti (M 7) ((l : Nat) : Int) (M 1 7).toNat then 1 else 0) NL)), (8, tu_i ((p9 : Nat) : Int)), (9, tu_i (((tu_np (tu_cb M) p9) : Nat) : Int)), (10, tu_i (tu_rn (tu_kp (tu_cb M) p9) b9)), (11, tu_i (tu_lg (tu_kp (tu_cb M) p9) (tu_np (tu_cb M) p9))), (12, tu_i (tu_ti (M 8) ((p9 : Nat) : Int) (M 1 9).toNat))]) dL_same_579 (by rw [hnl]; decide) rfl ?_
                          refine tu_aload_n 581 X 4 dL_same_581 rfl ?_
                          refine tu_iconst 582 X dL_same_582 ?_
                          refine tu_iload 583 X 9 dL_same_583 rfl ?_
                          refine tu_imul 585 X dL_same_585 ?_
                          refine tu_iconst 586 X dL_same_586 ?_
                          refine tu_iadd 587 X dL_same_587 ?_
                          refine tu_iald 588 X (x := Ma 87 ((3 * p9) + 2)) ((3 * p9) + 2) dL_same_588 (by decide) rfl (by decide) (by omega) (by omega) rfl ?_
                          refine tu_tp (b := (M 87 ((3 * p9) + 2))) (by rw [hsc 87 (by decide)]) ?_
                          refine tu_callSI 589 X (st := []) (as := [tu_i (M 87 ((3 * p9) + 2))]) (c_L_bits (M 87 ((3 * p9) + 2)) (tu_np (tu_cb M) p9) (tz_k1 (tu_kp (tu_cb M) p9)) (show tu_mk (M 87 ((3 * p9) + 2)) (tu_np (tu_cb M) p9) (tz_k1 (tu_kp (tu_cb M) p9)) from by exact hph.2.2.2.2) (show (tu_np (tu_cb M) p9) ≤ 9 from by omega) (show tu_rg (M 87 ((3 * p9) + 2)) from by exact hph.2.2.2.1)) ss_RL_37 dL_same_589 rfl (Nat.le_of_ble_eq_true rfl) ⟨by decide, by decide⟩ (fun z M' h => ?_)
                          obtain ⟨hM589, hz589⟩ := h
                          refine tu_st_eq rfl (M' := Ma) hM589 ?_
                          refine tu_tp (b := (tu_ti (tz_k1 (tu_kp (tu_cb M) p9)) 1 (tu_np (tu_cb M) p9))) hz589 ?_
                          refine tu_tp (b := (tu_ti (tu_kp (tu_cb M) p9) 1 (tu_np (tu_cb M) p9))) (by exact tz_ti_k1 _ _) ?_
                          refine tu_istore 592 X (lv' := [(14, tu_i (tu_ti (tu_kp (tu_cb M) p9) 1 (tu_np (tu_cb M) p9))), (13, tu_i (tu_ti (tu_kp (tu_cb M) p9) 2 (tu_np (tu_cb M) p9))), (0, tu_r 0), (1, tu_r 90), (2, tu_r 86), (3, tu_r 87), (4, tu_r 88), (5, tu_r 89), (6, tu_r 91), (7, tu_i (tu_sm (fun l => if 2 ≤ tu_ti (M 7) ((l : Nat) : Int) (M 1 7).toNat then 1 else 0) NL)), (8, tu_i ((p9 : Nat) : Int)), (9, tu_i (((tu_np (tu_cb M) p9) : Nat) : Int)), (10, tu_i (tu_rn (tu_kp (tu_cb M) p9) b9)), (11, tu_i (tu_lg (tu_kp (tu_cb M) p9) (tu_np (tu_cb M) p9))), (12, tu_i (tu_ti (M 8) ((p9 : Nat) : Int) (M 1 9).toNat))]) dL_same_592 (by rw [hnl]; decide) rfl ?_
                          have t1 := tu_ti_01 (tu_kp (tu_cb M) p9) 2 (tu_np (tu_cb M) p9)
                          have t2 := tu_ti_01 (tu_kp (tu_cb M) p9) 1 (tu_np (tu_cb M) p9)
                          have t3 := tu_lg_le (tu_kp (tu_cb M) p9) (tu_np (tu_cb M) p9)
                          have t4 := tu_ti_01 (M 8) ((p9 : Nat) : Int) (M 1 9).toNat
                          have t5 := tz_ti_3 (k := (tu_kp (tu_cb M) p9)) (n := (tu_np (tu_cb M) p9)) (fun b hb => hB.knd p9 b hpM (by omega))
                          refine tu_aload_n 594 X 2 dL_same_594 rfl ?_
                          refine tu_iload 595 X 10 dL_same_595 rfl ?_
                          refine tu_iconst 597 X dL_same_597 ?_
                          refine tu_callVI 598 X (st := []) (as := [tu_i ((p9 : Nat) : Int), tu_i 0]) (c_X3_phrase ((p9 : Nat) : Int) 0 (show tu_OK Ma from by exact tz_OK hsc hR.ok) (show tu_rg ((p9 : Nat) : Int) from by first | assumption | omega | exact ⟨by omega, by omega⟩ | decide) (show tu_rg 0 from by first | assumption | omega | exact ⟨by omega, by omega⟩ | decide)) sv_RL_44 dL_same_598 rfl (by decide) rfl rfl rfl (Nat.le_of_ble_eq_true rfl) ⟨by decide, by decide⟩ (fun z M' h => ?_)
                          obtain ⟨y_598, hM598, h598_0, hz598⟩ := h
                          refine tu_st_eq rfl (M' := Ma) hM598 ?_
                          refine tu_tp (b := y_598) hz598 ?_
                          have a598 := tz_q_phrase hsc h598_0
                          simp only [Int.toNat_natCast] at a598
                          have b598 : y_598 = (((tu_np (tu_cb M) p9) : Nat) : Int) := by omega
                          refine tu_iload 601 X 11 dL_same_601 rfl ?_
                          refine tu_icmp_ne 603 X 684 dL_same_603 (by decide) (show tu_rg y_598 from by first | assumption | exact ⟨by omega, by omega⟩) (show tu_rg (((tu_np (tu_cb M) p9) : Nat) : Int) from by first | assumption | exact ⟨by omega, by omega⟩) (fun br603 => ?_) (fun br603 => ?_)
                          ·
                            exfalso; omega
                          ·
                            refine tu_aload_n 606 X 2 dL_same_606 rfl ?_
                            refine tu_iload 607 X 10 dL_same_607 rfl ?_
                            refine tu_iconst 609 X dL_same_609 ?_
                            refine tu_callVI 610 X (st := []) (as := [tu_i ((p9 : Nat) : Int), tu_i 1]) (c_X3_phrase ((p9 : Nat) : Int) 1 (show tu_OK Ma from by exact tz_OK hsc hR.ok) (show tu_rg ((p9 : Nat) : Int) from by first | assumption | omega | exact ⟨by omega, by omega⟩ | decide) (show tu_rg 1 from by first | assumption | omega | exact ⟨by omega, by omega⟩ | decide)) sv_RL_44 dL_same_610 rfl (by decide) rfl rfl rfl (Nat.le_of_ble_eq_true rfl) ⟨by decide, by decide⟩ (fun z M' h => ?_)
                            obtain ⟨y_610, hM610, h610_0, hz610⟩ := h
                            refine tu_st_eq rfl (M' := Ma) hM610 ?_
                            refine tu_tp (b := y_610) hz610 ?_
                            have a610 := tz_q_phrase hsc h610_0
                            simp only [Int.toNat_natCast] at a610
                            have b610 : y_610 = tu_ti (tu_kp (tu_cb M) p9) 2 (tu_np (tu_cb M) p9) := by
                              have e9 : tu_ti (fun q => M 6 (p9 * 24 + q)) 2 (M 5 p9).toNat = tu_ti (tu_kp (tu_cb M) p9) 2 (tu_np (tu_cb M) p9) := rfl
                              omega
                            refine tu_iload 613 X 1 dL_same_613 rfl ?_
                            refine tu_icmp_ne 615 X 684 dL_same_615 (by decide) (show tu_rg y_610 from by first | assumption | exact ⟨by omega, by omega⟩) (show tu_rg (tu_ti (tu_kp (tu_cb M) p9) 2 (tu_np (tu_cb M) p9)) from by first | assumption | exact ⟨by omega, by omega⟩) (fun br615 => ?_) (fun br615 => ?_)
                            ·
                              exfalso; omega
                            ·
                              refine tu_aload_n 618 X 2 dL_same_618 rfl ?_
                              refine tu_iload 619 X 10 dL_same_619 rfl ?_
                              refine tu_iconst 621 X dL_same_621 ?_
                              refine tu_callVI 622 X (st := []) (as := [tu_i ((p9 : Nat) : Int), tu_i 2]) (c_X3_phrase ((p9 : Nat) : Int) 2 (show tu_OK Ma from by exact tz_OK hsc hR.ok) (show tu_rg ((p9 : Nat) : Int) from by first | assumption | omega | exact ⟨by omega, by omega⟩ | decide) (show tu_rg 2 from by first | assumption | omega | exact ⟨by omega, by omega⟩ | decide)) sv_RL_44 dL_same_622 rfl (by decide) rfl rfl rfl (Nat.le_of_ble_eq_true rfl) ⟨by decide, by decide⟩ (fun z M' h => ?_)
                              obtain ⟨y_622, hM622, h622_0, hz622⟩ := h
                              refine tu_st_eq rfl (M' := Ma) hM622 ?_
                              refine tu_tp (b := y_622) hz622 ?_
                              have a622 := tz_q_phrase hsc h622_0
                              simp only [Int.toNat_natCast] at a622
                              have b622 : y_622 = tu_ti (tu_kp (tu_cb M) p9) 1 (tu_np (tu_cb M) p9) := by
                                have e9 : tu_ti (fun q => M 6 (p9 * 24 + q)) 1 (M 5 p9).toNat = tu_ti (tu_kp (tu_cb M) p9) 1 (tu_np (tu_cb M) p9) := rfl
                                omega
                              refine tu_iload 625 X 0 dL_same_625 rfl ?_
                              refine tu_icmp_ne 627 X 684 dL_same_627 (by decide) (show tu_rg y_622 from by first | assumption | exact ⟨by omega, by omega⟩) (show tu_rg (tu_ti (tu_kp (tu_cb M) p9) 1 (tu_np (tu_cb M) p9)) from by first | assumption | exact ⟨by omega, by omega⟩) (fun br627 => ?_) (fun br627 => ?_)
                              ·
                                exfalso; omega
                              ·
                                refine tu_aload_n 630 X 2 dL_same_630 rfl ?_
                                refine tu_iload 631 X 10 dL_same_631 rfl ?_
                                refine tu_iconst 633 X dL_same_633 ?_
                                refine tu_callVI 634 X (st := []) (as := [tu_i ((p9 : Nat) : Int), tu_i 3]) (c_X3_phrase ((p9 : Nat) : Int) 3 (show tu_OK Ma from by exact tz_OK hsc hR.ok) (show tu_rg ((p9 : Nat) : Int) from by first | assumption | omega | exact ⟨by omega, by omega⟩ | decide) (show tu_rg 3 from by first | assumption | omega | exact ⟨by omega, by omega⟩ | decide)) sv_RL_44 dL_same_634 rfl (by decide) rfl rfl rfl (Nat.le_of_ble_eq_true rfl) ⟨by decide, by decide⟩ (fun z M' h => ?_)
                                obtain ⟨y_634, hM634, h634_0, hz634⟩ := h
                                refine tu_st_eq rfl (M' := Ma) hM634 ?_
                                refine tu_tp (b := y_634) hz634 ?_
                                have a634 := tz_q_phrase hsc h634_0
                                simp only [Int.toNat_natCast] at a634
                                have b634 : y_634 = tu_ti (tu_kp (tu_cb M) p9) 0 (tu_np (tu_cb M) p9) := by
                                  have e9 : tu_ti (fun q => M 6 (p9 * 24 + q)) 0 (M 5 p9).toNat = tu_ti (tu_kp (tu_cb M) p9) 0 (tu_np (tu_cb M) p9) := rfl
                                  omega
                                refine tu_iload 637 X 11 dL_same_637 rfl ?_
                                refine tu_iload 639 X 1 dL_same_639 rfl ?_
                                refine tu_isub 641 X dL_same_641 ?_
                                refine tu_iload 642 X 0 dL_same_642 rfl ?_
                                refine tu_isub 644 X dL_same_644 ?_
                                refine tu_icmp_ne 645 X 684 dL_same_645 (by decide) (show tu_rg y_634 from by first | assumption | exact ⟨by omega, by omega⟩) (show tu_rg (((((tu_np (tu_cb M) p9) : Nat) : Int) - (tu_ti (tu_kp (tu_cb M) p9) 2 (tu_np (tu_cb M) p9))) - (tu_ti (tu_kp (tu_cb M) p9) 1 (tu_np (tu_cb M) p9))) from by first | assumption | exact ⟨by omega, by omega⟩) (fun br645 => ?_) (fun br645 => ?_)
                                ·
                                  exfalso; omega
                                ·
                                  refine tu_aload_n 648 X 2 dL_same_648 rfl ?_
                                  refine tu_iload 649 X 10 dL_same_649 rfl ?_
                                  refine tu_iconst 651 X dL_same_651 ?_
                                  refine tu_callVI 652 X (st := []) (as := [tu_i ((p9 : Nat) : Int), tu_i 4]) (c_X3_phrase ((p9 : Nat) : Int) 4 (show tu_OK Ma from by exact tz_OK hsc hR.ok) (show tu_rg ((p9 : Nat) : Int) from by first | assumption | omega | exact ⟨by omega, by omega⟩ | decide) (show tu_rg 4 from by first | assumption | omega | exact ⟨by omega, by omega⟩ | decide)) sv_RL_44 dL_same_652 rfl (by decide) rfl rfl rfl (Nat.le_of_ble_eq_true rfl) ⟨by decide, by decide⟩ (fun z M' h => ?_)
                                  obtain ⟨y_652, hM652, h652_0, hz652⟩ := h
                                  refine tu_st_eq rfl (M' := Ma) hM652 ?_
                                  refine tu_tp (b := y_652) hz652 ?_
                                  have a652 := tz_q_phrase hsc h652_0
                                  simp only [Int.toNat_natCast] at a652
                                  have b652 : y_652 = tu_ti (M 8) ((p9 : Nat) : Int) (M 1 9).toNat := by omega
                                  refine tu_iload 655 X 14 dL_same_655 rfl ?_
                                  refine tu_icmp_ne 657 X 684 dL_same_657 (by decide) (show tu_rg y_652 from by first | assumption | exact ⟨by omega, by omega⟩) (show tu_rg (tu_ti (M 8) ((p9 : Nat) : Int) (M 1 9).toNat) from by first | assumption | exact ⟨by omega, by omega⟩) (fun br657 => ?_) (fun br657 => ?_)
                                  ·
                                    exfalso; omega
                                  ·
                                    refine tu_aload_n 660 X 2 dL_same_660 rfl ?_
                                    refine tu_iload 661 X 10 dL_same_661 rfl ?_
                                    refine tu_iconst 663 X dL_same_663 ?_
                                    refine tu_callVI 664 X (st := []) (as := [tu_i ((p9 : Nat) : Int), tu_i 5]) (c_X3_phrase ((p9 : Nat) : Int) 5 (show tu_OK Ma from by exact tz_OK hsc hR.ok) (show tu_rg ((p9 : Nat) : Int) from by first | assumption | omega | exact ⟨by omega, by omega⟩ | decide) (show tu_rg 5 from by first | assumption | omega | exact ⟨by omega, by omega⟩ | decide)) sv_RL_44 dL_same_664 rfl (by decide) rfl rfl rfl (Nat.le_of_ble_eq_true rfl) ⟨by decide, by decide⟩ (fun z M' h => ?_)
                                    obtain ⟨y_664, hM664, h664_0, hz664⟩ := h
                                    refine tu_st_eq rfl (M' := Ma) hM664 ?_
                                    refine tu_tp (b := y_664) hz664 ?_
                                    have a664 := tz_q_phrase hsc h664_0
                                    simp only [Int.toNat_natCast] at a664
                                    have b664 : y_664 = tu_lg (tu_kp (tu_cb M) p9) (tu_np (tu_cb M) p9) := by
                                      have e9 : tu_lg (fun q => M 6 (p9 * 24 + q)) (M 5 p9).toNat = tu_lg (tu_kp (tu_cb M) p9) (tu_np (tu_cb M) p9) := rfl
                                      omega
                                    refine tu_iload 667 X 13 dL_same_667 rfl ?_
                                    refine tu_icmp_ne 669 X 684 dL_same_669 (by decide) (show tu_rg y_664 from by first | assumption | exact ⟨by omega, by omega⟩) (show tu_rg (tu_lg (tu_kp (tu_cb M) p9) (tu_np (tu_cb M) p9)) from by first | assumption | exact ⟨by omega, by omega⟩) (fun br669 => ?_) (fun br669 => ?_)
                                    ·
                                      exfalso; omega
                                    ·
                                      refine tu_aload_n 672 X 2 dL_same_672 rfl ?_
                                      refine tu_iload 673 X 10 dL_same_673 rfl ?_
                                      refine tu_iload 675 X 11 dL_same_675 rfl ?_
                                      refine tu_callVI 677 X (st := []) (as := [tu_i ((p9 : Nat) : Int), tu_i (((tu_np (tu_cb M) p9) : Nat) : Int)]) (c_X3_kindOf ((p9 : Nat) : Int) (((tu_np (tu_cb M) p9) : Nat) : Int) (show tu_OK Ma from by exact tz_OK hsc hR.ok) (show tu_rg ((p9 : Nat) : Int) from by first | assumption | omega | exact ⟨by omega, by omega⟩ | decide) (show tu_rg (((tu_np (tu_cb M) p9) : Nat) : Int) from by first | assumption | omega | exact ⟨by omega, by omega⟩ | decide)) sv_RL_41 dL_same_677 rfl (by decide) rfl rfl rfl (Nat.le_of_ble_eq_true rfl) ⟨by decide, by decide⟩ (fun z M' h => ?_)
                                      obtain ⟨y_677, hM677, h677_0, hz677⟩ := h
                                      refine tu_st_eq rfl (M' := Ma) hM677 ?_
                                      refine tu_tp (b := y_677) hz677 ?_
                                      have a677 := tz_q_kindOf hsc h677_0
                                      simp only [Int.toNat_natCast] at a677
                                      have b677 : y_677 = -1 := by omega
                                      refine tu_iconst 680 X dL_same_680 ?_
                                      refine tu_icmp_eq 681 X 686 dL_same_681 (by decide) (show tu_rg y_677 from by first | assumption | exact ⟨by omega, by omega⟩) ⟨by decide, by decide⟩ (fun br681 => ?_) (fun br681 => ?_)
                                      ·
                                        refine tu_iinc 686 X (lv' := [(8, tu_i (((p9 : Nat) : Int) + 1)), (14, tu_i (tu_ti (tu_kp (tu_cb M) p9) 1 (tu_np (tu_cb M) p9))), (13, tu_i (tu_ti (tu_kp (tu_cb M) p9) 2 (tu_np (tu_cb M) p9))), (0, tu_r 0), (1, tu_r 90), (2, tu_r 86), (3, tu_r 87), (4, tu_r 88), (5, tu_r 89), (6, tu_r 91), (7, tu_i (tu_sm (fun l => if 2 ≤ tu_ti (M 7) ((l : Nat) : Int) (M 1 7).toNat then 1 else 0) NL)), (9, tu_i (((tu_np (tu_cb M) p9) : Nat) : Int)), (10, tu_i (tu_rn (tu_kp (tu_cb M) p9) b9)), (11, tu_i (tu_lg (tu_kp (tu_cb M) p9) (tu_np (tu_cb M) p9))), (12, tu_i (tu_ti (M 8) ((p9 : Nat) : Int) (M 1 9).toNat))]) 10 dL_same_686 rfl (by rw [hnl]; decide) rfl ?_
                                        refine tu_goto 689 X 412 dL_same_689 (by decide) ?_
                                        refine tu_jmp [3, 4, 5, 6, 7, 8, 9, 10, 0] (lv' := [(0, tu_r 0), (1, tu_r 90), (2, tu_r 86), (3, tu_r 87), (4, tu_r 88), (5, tu_r 89), (6, tu_r 91), (7, tu_i (tu_sm (fun l => if 2 ≤ tu_ti (M 7) ((l : Nat) : Int) (M 1 7).toNat then 1 else 0) NL)), (8, tu_i (((p9 + 1) : Nat) : Int))]) ⟨rfl, rfl, rfl, rfl, rfl, rfl, rfl, rfl, tu_ei (by first | rfl | omega), trivial⟩ rfl (ih412 (p9 + 1) (by omega) (by omega))
                                      ·
                                        exfalso; omega
                        ·
                          have hti := tu_ti_01 (M 8) ((p9 : Nat) : Int) k9
                          have htn := hB.tun k9 (by omega)
                          refine tu_iload 542 X 12 dL_same_542 rfl ?_
                          refine tu_aload 544 X 5 dL_same_544 rfl ?_
                          refine tu_iload 546 X 13 dL_same_546 rfl ?_
                          refine tu_iald 548 X (x := Ma 89 k9) k9 dL_same_548 (by decide) rfl (by decide) (by omega) (by omega) rfl ?_
                          refine tu_tp (b := (M 89 k9)) (by rw [hsc 89 (by decide)]) ?_
                          refine tu_tp (b := (M 8 k9)) (by exact hR.tn k9 (by omega)) ?_
                          refine tu_iload 549 X 8 dL_same_549 rfl ?_
                          refine tu_icmp_ne 551 X 558 dL_same_551 (by decide) (show tu_rg (M 8 k9) from by first | assumption | exact ⟨by omega, by omega⟩) (show tu_rg ((p9 : Nat) : Int) from by first | assumption | exact ⟨by omega, by omega⟩) (fun br551 => ?_) (fun br551 => ?_)
                          ·
                            refine tu_iconst 558 X dL_same_558 ?_
                            refine tu_iadd 559 X dL_same_559 ?_
                            refine tu_istore 560 X (lv' := [(12, tu_i (tu_ti (M 8) ((p9 : Nat) : Int) k9 + 0)), (0, tu_r 0), (1, tu_r 90), (2, tu_r 86), (3, tu_r 87), (4, tu_r 88), (5, tu_r 89), (6, tu_r 91), (7, tu_i (tu_sm (fun l => if 2 ≤ tu_ti (M 7) ((l : Nat) : Int) (M 1 7).toNat then 1 else 0) NL)), (8, tu_i ((p9 : Nat) : Int)), (9, tu_i (((tu_np (tu_cb M) p9) : Nat) : Int)), (10, tu_i (tu_rn (tu_kp (tu_cb M) p9) b9)), (11, tu_i (tu_lg (tu_kp (tu_cb M) p9) b9)), (13, tu_i ((k9 : Nat) : Int))]) dL_same_560 (by rw [hnl]; decide) rfl ?_
                            refine tu_iinc 562 X (lv' := [(13, tu_i (((k9 : Nat) : Int) + 1)), (12, tu_i (tu_ti (M 8) ((p9 : Nat) : Int) k9 + 0)), (0, tu_r 0), (1, tu_r 90), (2, tu_r 86), (3, tu_r 87), (4, tu_r 88), (5, tu_r 89), (6, tu_r 91), (7, tu_i (tu_sm (fun l => if 2 ≤ tu_ti (M 7) ((l : Nat) : Int) (M 1 7).toNat then 1 else 0) NL)), (8, tu_i ((p9 : Nat) : Int)), (9, tu_i (((tu_np (tu_cb M) p9) : Nat) : Int)), (10, tu_i (tu_rn (tu_kp (tu_cb M) p9) b9)), (11, tu_i (tu_lg (tu_kp (tu_cb M) p9) b9))]) 13 dL_same_562 rfl (by rw [hnl]; decide) rfl ?_
                            refine tu_goto 565 X 533 dL_same_565 (by decide) ?_
                            refine tu_jmp [2, 3, 4, 5, 6, 7, 8, 9, 10, 11, 12, 13, 1, 0] (lv' := [(0, tu_r 0), (1, tu_r 90), (2, tu_r 86), (3, tu_r 87), (4, tu_r 88), (5, tu_r 89), (6, tu_r 91), (7, tu_i (tu_sm (fun l => if 2 ≤ tu_ti (M 7) ((l : Nat) : Int) (M 1 7).toNat then 1 else 0) NL)), (8, tu_i ((p9 : Nat) : Int)), (9, tu_i (((tu_np (tu_cb M) p9) : Nat) : Int)), (10, tu_i (tu_rn (tu_kp (tu_cb M) p9) b9)), (11, tu_i (tu_lg (tu_kp (tu_cb M) p9) b9)), (12, tu_i (tu_ti (M 8) ((p9 : Nat) : Int) (k9 + 1))), (13, tu_i (((k9 + 1) : Nat) : Int))]) ⟨rfl, rfl, rfl, rfl, rfl, rfl, rfl, rfl, rfl, rfl, rfl, rfl, tu_ei (by first | rfl | (simp only [tu_ti]; split <;> omega)), tu_ei (by first | rfl | omega), trivial⟩ rfl (ih533 (k9 + 1) (by omega) (by omega))
                          ·
                            refine tu_iconst 554 X dL_same_554 ?_
                            refine tu_goto 555 X 559 dL_same_555 (by decide) ?_
                            refine tu_iadd 559 X dL_same_559 ?_
                            refine tu_istore 560 X (lv' := [(12, tu_i (tu_ti (M 8) ((p9 : Nat) : Int) k9 + 1)), (0, tu_r 0), (1, tu_r 90), (2, tu_r 86), (3, tu_r 87), (4, tu_r 88), (5, tu_r 89), (6, tu_r 91), (7, tu_i (tu_sm (fun l => if 2 ≤ tu_ti (M 7) ((l : Nat) : Int) (M 1 7).toNat then 1 else 0) NL)), (8, tu_i ((p9 : Nat) : Int)), (9, tu_i (((tu_np (tu_cb M) p9) : Nat) : Int)), (10, tu_i (tu_rn (tu_kp (tu_cb M) p9) b9)), (11, tu_i (tu_lg (tu_kp (tu_cb M) p9) b9)), (13, tu_i ((k9 : Nat) : Int))]) dL_same_560 (by rw [hnl]; decide) rfl ?_
                            refine tu_iinc 562 X (lv' := [(13, tu_i (((k9 : Nat) : Int) + 1)), (12, tu_i (tu_ti (M 8) ((p9 : Nat) : Int) k9 + 1)), (0, tu_r 0), (1, tu_r 90), (2, tu_r 86), (3, tu_r 87), (4, tu_r 88), (5, tu_r 89), (6, tu_r 91), (7, tu_i (tu_sm (fun l => if 2 ≤ tu_ti (M 7) ((l : Nat) : Int) (M 1 7).toNat then 1 else 0) NL)), (8, tu_i ((p9 : Nat) : Int)), (9, tu_i (((tu_np (tu_cb M) p9) : Nat) : Int)), (10, tu_i (tu_rn (tu_kp (tu_cb M) p9) b9)), (11, tu_i (tu_lg (tu_kp (tu_cb M) p9) b9))]) 13 dL_same_562 rfl (by rw [hnl]; decide) rfl ?_
                            refine tu_goto 565 X 533 dL_same_565 (by decide) ?_
                            refine tu_jmp [2, 3, 4, 5, 6, 7, 8, 9, 10, 11, 12, 13, 1, 0] (lv' := [(0, tu_r 0), (1, tu_r 90), (2, tu_r 86), (3, tu_r 87), (4, tu_r 88), (5, tu_r 89), (6, tu_r 91), (7, tu_i (tu_sm (fun l => if 2 ≤ tu_ti (M 7) ((l : Nat) : Int) (M 1 7).toNat then 1 else 0) NL)), (8, tu_i ((p9 : Nat) : Int)), (9, tu_i (((tu_np (tu_cb M) p9) : Nat) : Int)), (10, tu_i (tu_rn (tu_kp (tu_cb M) p9) b9)), (11, tu_i (tu_lg (tu_kp (tu_cb M) p9) b9)), (12, tu_i (tu_ti (M 8) ((p9 : Nat) : Int) (k9 + 1))), (13, tu_i (((k9 + 1) : Nat) : Int))]) ⟨rfl, rfl, rfl, rfl, rfl, rfl, rfl, rfl, rfl, rfl, rfl, rfl, tu_ei (by first | rfl | (simp only [tu_ti]; split <;> omega)), tu_ei (by first | rfl | omega), trivial⟩ rfl (ih533 (k9 + 1) (by omega) (by omega))
                    refine tu_jmp [1, 2, 3, 4, 5, 6, 7, 8, 9, 10, 11, 12, 13, 0] (lv' := [(0, tu_r 0), (1, tu_r 90), (2, tu_r 86), (3, tu_r 87), (4, tu_r 88), (5, tu_r 89), (6, tu_r 91), (7, tu_i (tu_sm (fun l => if 2 ≤ tu_ti (M 7) ((l : Nat) : Int) (M 1 7).toNat then 1 else 0) NL)), (8, tu_i ((p9 : Nat) : Int)), (9, tu_i (((tu_np (tu_cb M) p9) : Nat) : Int)), (10, tu_i (tu_rn (tu_kp (tu_cb M) p9) b9)), (11, tu_i (tu_lg (tu_kp (tu_cb M) p9) b9)), (12, tu_i (tu_ti (M 8) ((p9 : Nat) : Int) 0)), (13, tu_i 0)]) ⟨rfl, rfl, rfl, rfl, rfl, rfl, rfl, rfl, rfl, rfl, rfl, rfl, tu_ei (by first | rfl | (simp only [tu_ti]; split <;> omega)), rfl, trivial⟩ rfl (lp533 ((NT - 0) + 1) 0 (by omega) (by omega))
                  ·
                    have hkk := hB.knd p9 b9 hpM (by omega)
                    have hk9 : 0 ≤ (tu_kp (tu_cb M) p9) b9 ∧ (tu_kp (tu_cb M) p9) b9 ≤ 2 := hkk
                    have hrn := tu_rn_le (tu_kp (tu_cb M) p9) b9
                    have hrn1 : tu_rn (tu_kp (tu_cb M) p9) (b9 + 1) = if (tu_kp (tu_cb M) p9) b9 = 0 then 0 else tu_rn (tu_kp (tu_cb M) p9) b9 + 1 := rfl
                    have hlg := tu_lg_le (tu_kp (tu_cb M) p9) b9
                    have hlg1 : tu_lg (tu_kp (tu_cb M) p9) (b9 + 1) = max (tu_lg (tu_kp (tu_cb M) p9) b9) (tu_rn (tu_kp (tu_cb M) p9) (b9 + 1)) := rfl
                    refine tu_aload_n 447 X 3 dL_same_447 rfl ?_
                    refine tu_iconst 448 X dL_same_448 ?_
                    refine tu_iload 449 X 8 dL_same_449 rfl ?_
                    refine tu_imul 451 X dL_same_451 ?_
                    refine tu_iconst 452 X dL_same_452 ?_
                    refine tu_iadd 453 X dL_same_453 ?_
                    refine tu_iald 454 X (x := Ma 87 ((3 * p9) + 1)) ((3 * p9) + 1) dL_same_454 (by decide) rfl (by decide) (by omega) (by omega) rfl ?_
                    refine tu_tp (b := (M 87 ((3 * p9) + 1))) (by rw [hsc 87 (by decide)]) ?_
                    refine tu_iload 455 X 13 dL_same_455 rfl ?_
                    refine tu_ishr 457 X dL_same_457 ?_
                    refine tu_iconst 458 X dL_same_458 ?_
                    refine tu_iand 459 X dL_same_459 ?_
                    refine tu_tp (b := (if (tu_kp (tu_cb M) p9) b9 = 2 then 1 else 0)) (by rw [tu_bit1 _ (by omega)]; exact tz_bi2 hph.2.2.1.2 (by omega) (by omega)) ?_
                    refine tu_iconst 460 X dL_same_460 ?_
                    refine tu_imul 461 X dL_same_461 ?_
                    refine tu_aload_n 462 X 3 dL_same_462 rfl ?_
                    refine tu_iconst 463 X dL_same_463 ?_
                    refine tu_iload 464 X 8 dL_same_464 rfl ?_
                    refine tu_imul 466 X dL_same_466 ?_
                    refine tu_iconst 467 X dL_same_467 ?_
                    refine tu_iadd 468 X dL_same_468 ?_
                    refine tu_iald 469 X (x := Ma 87 ((3 * p9) + 2)) ((3 * p9) + 2) dL_same_469 (by decide) rfl (by decide) (by omega) (by omega) rfl ?_
                    refine tu_tp (b := (M 87 ((3 * p9) + 2))) (by rw [hsc 87 (by decide)]) ?_
                    refine tu_iload 470 X 13 dL_same_470 rfl ?_
                    refine tu_ishr 472 X dL_same_472 ?_
                    refine tu_iconst 473 X dL_same_473 ?_
                    refine tu_iand 474 X dL_same_474 ?_
                    refine tu_tp (b := (if (tu_kp (tu_cb M) p9) b9 = 1 then 1 else 0)) (by rw [tu_bit1 _ (by omega)]; exact tz_bi1 hph.2.2.2.2 (by omega) (by omega)) ?_
                    refine tu_iadd 475 X dL_same_475 ?_
                    refine tu_tp (b := ((tu_kp (tu_cb M) p9) b9)) (by rcases (show (tu_kp (tu_cb M) p9) b9 = 0 ∨ (tu_kp (tu_cb M) p9) b9 = 1 ∨ (tu_kp (tu_cb M) p9) b9 = 2 by omega) with q | q | q <;> rw [q] <;> decide) ?_
                    refine tu_istore 476 X (lv' := [(14, tu_i ((tu_kp (tu_cb M) p9) b9)), (0, tu_r 0), (1, tu_r 90), (2, tu_r 86), (3, tu_r 87), (4, tu_r 88), (5, tu_r 89), (6, tu_r 91), (7, tu_i (tu_sm (fun l => if 2 ≤ tu_ti (M 7) ((l : Nat) : Int) (M 1 7).toNat then 1 else 0) NL)), (8, tu_i ((p9 : Nat) : Int)), (9, tu_i (((tu_np (tu_cb M) p9) : Nat) : Int)), (10, tu_i (tu_rn (tu_kp (tu_cb M) p9) b9)), (11, tu_i (tu_lg (tu_kp (tu_cb M) p9) b9)), (12, tu_i 0), (13, tu_i ((b9 : Nat) : Int))]) dL_same_476 (by rw [hnl]; decide) rfl ?_
                    refine tu_iload 478 X 0 dL_same_478 rfl ?_
                    refine tu_if_ne 480 X 487 dL_same_480 (by decide) (show tu_rg ((tu_kp (tu_cb M) p9) b9) from by first | assumption | exact ⟨by omega, by omega⟩) (fun br480 => ?_) (fun br480 => ?_)
                    ·
                      rw [if_neg br480] at hrn1
                      refine tu_iload 487 X 11 dL_same_487 rfl ?_
                      refine tu_iconst 489 X dL_same_489 ?_
                      refine tu_iadd 490 X dL_same_490 ?_
                      refine tu_istore 491 X (lv' := [(10, tu_i (tu_rn (tu_kp (tu_cb M) p9) b9 + 1)), (14, tu_i ((tu_kp (tu_cb M) p9) b9)), (0, tu_r 0), (1, tu_r 90), (2, tu_r 86), (3, tu_r 87), (4, tu_r 88), (5, tu_r 89), (6, tu_r 91), (7, tu_i (tu_sm (fun l => if 2 ≤ tu_ti (M 7) ((l : Nat) : Int) (M 1 7).toNat then 1 else 0) NL)), (8, tu_i ((p9 : Nat) : Int)), (9, tu_i (((tu_np (tu_cb M) p9) : Nat) : Int)), (11, tu_i (tu_lg (tu_kp (tu_cb M) p9) b9)), (12, tu_i 0), (13, tu_i ((b9 : Nat) : Int))]) dL_same_491 (by rw [hnl]; decide) rfl ?_
                      refine tu_iload 493 X 0 dL_same_493 rfl ?_
                      refine tu_iload 495 X 12 dL_same_495 rfl ?_
                      refine tu_icmp_le 497 X 505 dL_same_497 (by decide) (show tu_rg (tu_rn (tu_kp (tu_cb M) p9) b9 + 1) from by first | assumption | exact ⟨by omega, by omega⟩) (show tu_rg (tu_lg (tu_kp (tu_cb M) p9) b9) from by first | assumption | exact ⟨by omega, by omega⟩) (fun br497 => ?_) (fun br497 => ?_)
                      ·
                        refine tu_iload 505 X 12 dL_same_505 rfl ?_
                        refine tu_istore 507 X (lv' := [(11, tu_i (tu_lg (tu_kp (tu_cb M) p9) b9)), (10, tu_i (tu_rn (tu_kp (tu_cb M) p9) b9 + 1)), (14, tu_i ((tu_kp (tu_cb M) p9) b9)), (0, tu_r 0), (1, tu_r 90), (2, tu_r 86), (3, tu_r 87), (4, tu_r 88), (5, tu_r 89), (6, tu_r 91), (7, tu_i (tu_sm (fun l => if 2 ≤ tu_ti (M 7) ((l : Nat) : Int) (M 1 7).toNat then 1 else 0) NL)), (8, tu_i ((p9 : Nat) : Int)), (9, tu_i (((tu_np (tu_cb M) p9) : Nat) : Int)), (12, tu_i 0), (13, tu_i ((b9 : Nat) : Int))]) dL_same_507 (by rw [hnl]; decide) rfl ?_
                        refine tu_aload_n 509 X 3 dL_same_509 rfl ?_
                        refine tu_iload 510 X 11 dL_same_510 rfl ?_
                        refine tu_iload 512 X 14 dL_same_512 rfl ?_
                        refine tu_callVI 514 X (st := []) (as := [tu_i ((p9 : Nat) : Int), tu_i ((b9 : Nat) : Int)]) (c_X3_kindOf ((p9 : Nat) : Int) ((b9 : Nat) : Int) (show tu_OK Ma from by exact tz_OK hsc hR.ok) (show tu_rg ((p9 : Nat) : Int) from by first | assumption | omega | exact ⟨by omega, by omega⟩ | decide) (show tu_rg ((b9 : Nat) : Int) from by first | assumption | omega | exact ⟨by omega, by omega⟩ | decide)) sv_RL_41 dL_same_514 rfl (by decide) rfl rfl rfl (Nat.le_of_ble_eq_true rfl) ⟨by decide, by decide⟩ (fun z M' h => ?_)
                        obtain ⟨y_514, hM514, h514_0, hz514⟩ := h
                        refine tu_st_eq rfl (M' := Ma) hM514 ?_
                        refine tu_tp (b := y_514) hz514 ?_
                        have a514 := tz_q_kindOf hsc h514_0
                        simp only [Int.toNat_natCast] at a514
                        rw [show ((p9 : Int) * 24 + (b9 : Int)).toNat = p9 * 24 + b9 by omega] at a514
                        have b514 : y_514 = (tu_kp (tu_cb M) p9) b9 := by
                          show y_514 = M 6 (p9 * 24 + b9)
                          omega
                        refine tu_iload 517 X 2 dL_same_517 rfl ?_
                        refine tu_icmp_eq 519 X 524 dL_same_519 (by decide) (show tu_rg y_514 from by first | assumption | exact ⟨by omega, by omega⟩) (show tu_rg ((tu_kp (tu_cb M) p9) b9) from by first | assumption | exact ⟨by omega, by omega⟩) (fun br519 => ?_) (fun br519 => ?_)
                        ·
                          refine tu_iinc 524 X (lv' := [(13, tu_i (((b9 : Nat) : Int) + 1)), (11, tu_i (tu_lg (tu_kp (tu_cb M) p9) b9)), (10, tu_i (tu_rn (tu_kp (tu_cb M) p9) b9 + 1)), (14, tu_i ((tu_kp (tu_cb M) p9) b9)), (0, tu_r 0), (1, tu_r 90), (2, tu_r 86), (3, tu_r 87), (4, tu_r 88), (5, tu_r 89), (6, tu_r 91), (7, tu_i (tu_sm (fun l => if 2 ≤ tu_ti (M 7) ((l : Nat) : Int) (M 1 7).toNat then 1 else 0) NL)), (8, tu_i ((p9 : Nat) : Int)), (9, tu_i (((tu_np (tu_cb M) p9) : Nat) : Int)), (12, tu_i 0)]) 14 dL_same_524 rfl (by rw [hnl]; decide) rfl ?_
                          refine tu_goto 527 X 440 dL_same_527 (by decide) ?_
                          refine tu_jmp [4, 5, 6, 7, 8, 9, 10, 11, 12, 13, 2, 1, 14, 0] (lv' := [(0, tu_r 0), (1, tu_r 90), (2, tu_r 86), (3, tu_r 87), (4, tu_r 88), (5, tu_r 89), (6, tu_r 91), (7, tu_i (tu_sm (fun l => if 2 ≤ tu_ti (M 7) ((l : Nat) : Int) (M 1 7).toNat then 1 else 0) NL)), (8, tu_i ((p9 : Nat) : Int)), (9, tu_i (((tu_np (tu_cb M) p9) : Nat) : Int)), (10, tu_i (tu_rn (tu_kp (tu_cb M) p9) (b9 + 1))), (11, tu_i (tu_lg (tu_kp (tu_cb M) p9) (b9 + 1))), (12, tu_i 0), (13, tu_i (((b9 + 1) : Nat) : Int))]) ⟨rfl, rfl, rfl, rfl, rfl, rfl, rfl, rfl, rfl, rfl, tu_ei (by first | rfl | (first | rfl | omega)), tu_ei (by first | rfl | (first | rfl | omega)), rfl, tu_ei (by first | rfl | omega), trivial⟩ rfl (ih440 (b9 + 1) (by omega) (by omega))
                        ·
                          exfalso; omega
                      ·
                        refine tu_iload 500 X 0 dL_same_500 rfl ?_
                        refine tu_goto 502 X 507 dL_same_502 (by decide) ?_
                        refine tu_istore 507 X (lv' := [(11, tu_i (tu_rn (tu_kp (tu_cb M) p9) b9 + 1)), (10, tu_i (tu_rn (tu_kp (tu_cb M) p9) b9 + 1)), (14, tu_i ((tu_kp (tu_cb M) p9) b9)), (0, tu_r 0), (1, tu_r 90), (2, tu_r 86), (3, tu_r 87), (4, tu_r 88), (5, tu_r 89), (6, tu_r 91), (7, tu_i (tu_sm (fun l => if 2 ≤ tu_ti (M 7) ((l : Nat) : Int) (M 1 7).toNat then 1 else 0) NL)), (8, tu_i ((p9 : Nat) : Int)), (9, tu_i (((tu_np (tu_cb M) p9) : Nat) : Int)), (12, tu_i 0), (13, tu_i ((b9 : Nat) : Int))]) dL_same_507 (by rw [hnl]; decide) rfl ?_
                        refine tu_aload_n 509 X 3 dL_same_509 rfl ?_
                        refine tu_iload 510 X 11 dL_same_510 rfl ?_
                        refine tu_iload 512 X 14 dL_same_512 rfl ?_
                        refine tu_callVI 514 X (st := []) (as := [tu_i ((p9 : Nat) : Int), tu_i ((b9 : Nat) : Int)]) (c_X3_kindOf ((p9 : Nat) : Int) ((b9 : Nat) : Int) (show tu_OK Ma from by exact tz_OK hsc hR.ok) (show tu_rg ((p9 : Nat) : Int) from by first | assumption | omega | exact ⟨by omega, by omega⟩ | decide) (show tu_rg ((b9 : Nat) : Int) from by first | assumption | omega | exact ⟨by omega, by omega⟩ | decide)) sv_RL_41 dL_same_514 rfl (by decide) rfl rfl rfl (Nat.le_of_ble_eq_true rfl) ⟨by decide, by decide⟩ (fun z M' h => ?_)
                        obtain ⟨y_514, hM514, h514_0, hz514⟩ := h
                        refine tu_st_eq rfl (M' := Ma) hM514 ?_
                        refine tu_tp (b := y_514) hz514 ?_
                        have a514 := tz_q_kindOf hsc h514_0
                        simp only [Int.toNat_natCast] at a514
                        rw [show ((p9 : Int) * 24 + (b9 : Int)).toNat = p9 * 24 + b9 by omega] at a514
                        have b514 : y_514 = (tu_kp (tu_cb M) p9) b9 := by
                          show y_514 = M 6 (p9 * 24 + b9)
                          omega
                        refine tu_iload 517 X 2 dL_same_517 rfl ?_
                        refine tu_icmp_eq 519 X 524 dL_same_519 (by decide) (show tu_rg y_514 from by first | assumption | exact ⟨by omega, by omega⟩) (show tu_rg ((tu_kp (tu_cb M) p9) b9) from by first | assumption | exact ⟨by omega, by omega⟩) (fun br519 => ?_) (fun br519 => ?_)
                        ·
                          refine tu_iinc 524 X (lv' := [(13, tu_i (((b9 : Nat) : Int) + 1)), (11, tu_i (tu_rn (tu_kp (tu_cb M) p9) b9 + 1)), (10, tu_i (tu_rn (tu_kp (tu_cb M) p9) b9 + 1)), (14, tu_i ((tu_kp (tu_cb M) p9) b9)), (0, tu_r 0), (1, tu_r 90), (2, tu_r 86), (3, tu_r 87), (4, tu_r 88), (5, tu_r 89), (6, tu_r 91), (7, tu_i (tu_sm (fun l => if 2 ≤ tu_ti (M 7) ((l : Nat) : Int) (M 1 7).toNat then 1 else 0) NL)), (8, tu_i ((p9 : Nat) : Int)), (9, tu_i (((tu_np (tu_cb M) p9) : Nat) : Int)), (12, tu_i 0)]) 14 dL_same_524 rfl (by rw [hnl]; decide) rfl ?_
                          refine tu_goto 527 X 440 dL_same_527 (by decide) ?_
                          refine tu_jmp [4, 5, 6, 7, 8, 9, 10, 11, 12, 13, 2, 1, 14, 0] (lv' := [(0, tu_r 0), (1, tu_r 90), (2, tu_r 86), (3, tu_r 87), (4, tu_r 88), (5, tu_r 89), (6, tu_r 91), (7, tu_i (tu_sm (fun l => if 2 ≤ tu_ti (M 7) ((l : Nat) : Int) (M 1 7).toNat then 1 else 0) NL)), (8, tu_i ((p9 : Nat) : Int)), (9, tu_i (((tu_np (tu_cb M) p9) : Nat) : Int)), (10, tu_i (tu_rn (tu_kp (tu_cb M) p9) (b9 + 1))), (11, tu_i (tu_lg (tu_kp (tu_cb M) p9) (b9 + 1))), (12, tu_i 0), (13, tu_i (((b9 + 1) : Nat) : Int))]) ⟨rfl, rfl, rfl, rfl, rfl, rfl, rfl, rfl, rfl, rfl, tu_ei (by first | rfl | (first | rfl | omega)), tu_ei (by first | rfl | (first | rfl | omega)), rfl, tu_ei (by first | rfl | omega), trivial⟩ rfl (ih440 (b9 + 1) (by omega) (by omega))
                        ·
                          exfalso; omega
                    ·
                      rw [if_pos (by omega)] at hrn1
                      refine tu_iconst 483 X dL_same_483 ?_
                      refine tu_goto 484 X 491 dL_same_484 (by decide) ?_
                      refine tu_istore 491 X (lv' := [(10, tu_i 0), (14, tu_i ((tu_kp (tu_cb M) p9) b9)), (0, tu_r 0), (1, tu_r 90), (2, tu_r 86), (3, tu_r 87), (4, tu_r 88), (5, tu_r 89), (6, tu_r 91), (7, tu_i (tu_sm (fun l => if 2 ≤ tu_ti (M 7) ((l : Nat) : Int) (M 1 7).toNat then 1 else 0) NL)), (8, tu_i ((p9 : Nat) : Int)), (9, tu_i (((tu_np (tu_cb M) p9) : Nat) : Int)), (11, tu_i (tu_lg (tu_kp (tu_cb M) p9) b9)), (12, tu_i 0), (13, tu_i ((b9 : Nat) : Int))]) dL_same_491 (by rw [hnl]; decide) rfl ?_
                      refine tu_iload 493 X 0 dL_same_493 rfl ?_
                      refine tu_iload 495 X 12 dL_same_495 rfl ?_
                      refine tu_icmp_le 497 X 505 dL_same_497 (by decide) ⟨by decide, by decide⟩ (show tu_rg (tu_lg (tu_kp (tu_cb M) p9) b9) from by first | assumption | exact ⟨by omega, by omega⟩) (fun br497 => ?_) (fun br497 => ?_)
                      ·
                        refine tu_iload 505 X 12 dL_same_505 rfl ?_
                        refine tu_istore 507 X (lv' := [(11, tu_i (tu_lg (tu_kp (tu_cb M) p9) b9)), (10, tu_i 0), (14, tu_i ((tu_kp (tu_cb M) p9) b9)), (0, tu_r 0), (1, tu_r 90), (2, tu_r 86), (3, tu_r 87), (4, tu_r 88), (5, tu_r 89), (6, tu_r 91), (7, tu_i (tu_sm (fun l => if 2 ≤ tu_ti (M 7) ((l : Nat) : Int) (M 1 7).toNat then 1 else 0) NL)), (8, tu_i ((p9 : Nat) : Int)), (9, tu_i (((tu_np (tu_cb M) p9) : Nat) : Int)), (12, tu_i 0), (13, tu_i ((b9 : Nat) : Int))]) dL_same_507 (by rw [hnl]; decide) rfl ?_
                        refine tu_aload_n 509 X 3 dL_same_509 rfl ?_
                        refine tu_iload 510 X 11 dL_same_510 rfl ?_
                        refine tu_iload 512 X 14 dL_same_512 rfl ?_
                        refine tu_callVI 514 X (st := []) (as := [tu_i ((p9 : Nat) : Int), tu_i ((b9 : Nat) : Int)]) (c_X3_kindOf ((p9 : Nat) : Int) ((b9 : Nat) : Int) (show tu_OK Ma from by exact tz_OK hsc hR.ok) (show tu_rg ((p9 : Nat) : Int) from by first | assumption | omega | exact ⟨by omega, by omega⟩ | decide) (show tu_rg ((b9 : Nat) : Int) from by first | assumption | omega | exact ⟨by omega, by omega⟩ | decide)) sv_RL_41 dL_same_514 rfl (by decide) rfl rfl rfl (Nat.le_of_ble_eq_true rfl) ⟨by decide, by decide⟩ (fun z M' h => ?_)
                        obtain ⟨y_514, hM514, h514_0, hz514⟩ := h
                        refine tu_st_eq rfl (M' := Ma) hM514 ?_
                        refine tu_tp (b := y_514) hz514 ?_
                        have a514 := tz_q_kindOf hsc h514_0
                        simp only [Int.toNat_natCast] at a514
                        rw [show ((p9 : Int) * 24 + (b9 : Int)).toNat = p9 * 24 + b9 by omega] at a514
                        have b514 : y_514 = (tu_kp (tu_cb M) p9) b9 := by
                          show y_514 = M 6 (p9 * 24 + b9)
                          omega
                        refine tu_iload 517 X 2 dL_same_517 rfl ?_
                        refine tu_icmp_eq 519 X 524 dL_same_519 (by decide) (show tu_rg y_514 from by first | assumption | exact ⟨by omega, by omega⟩) (show tu_rg ((tu_kp (tu_cb M) p9) b9) from by first | assumption | exact ⟨by omega, by omega⟩) (fun br519 => ?_) (fun br519 => ?_)
                        ·
                          refine tu_iinc 524 X (lv' := [(13, tu_i (((b9 : Nat) : Int) + 1)), (11, tu_i (tu_lg (tu_kp (tu_cb M) p9) b9)), (10, tu_i 0), (14, tu_i ((tu_kp (tu_cb M) p9) b9)), (0, tu_r 0), (1, tu_r 90), (2, tu_r 86), (3, tu_r 87), (4, tu_r 88), (5, tu_r 89), (6, tu_r 91), (7, tu_i (tu_sm (fun l => if 2 ≤ tu_ti (M 7) ((l : Nat) : Int) (M 1 7).toNat then 1 else 0) NL)), (8, tu_i ((p9 : Nat) : Int)), (9, tu_i (((tu_np (tu_cb M) p9) : Nat) : Int)), (12, tu_i 0)]) 14 dL_same_524 rfl (by rw [hnl]; decide) rfl ?_
                          refine tu_goto 527 X 440 dL_same_527 (by decide) ?_
                          refine tu_jmp [4, 5, 6, 7, 8, 9, 10, 11, 12, 13, 2, 1, 14, 0] (lv' := [(0, tu_r 0), (1, tu_r 90), (2, tu_r 86), (3, tu_r 87), (4, tu_r 88), (5, tu_r 89), (6, tu_r 91), (7, tu_i (tu_sm (fun l => if 2 ≤ tu_ti (M 7) ((l : Nat) : Int) (M 1 7).toNat then 1 else 0) NL)), (8, tu_i ((p9 : Nat) : Int)), (9, tu_i (((tu_np (tu_cb M) p9) : Nat) : Int)), (10, tu_i (tu_rn (tu_kp (tu_cb M) p9) (b9 + 1))), (11, tu_i (tu_lg (tu_kp (tu_cb M) p9) (b9 + 1))), (12, tu_i 0), (13, tu_i (((b9 + 1) : Nat) : Int))]) ⟨rfl, rfl, rfl, rfl, rfl, rfl, rfl, rfl, rfl, rfl, tu_ei (by first | rfl | (first | rfl | omega)), tu_ei (by first | rfl | (first | rfl | omega)), rfl, tu_ei (by first | rfl | omega), trivial⟩ rfl (ih440 (b9 + 1) (by omega) (by omega))
                        ·
                          exfalso; omega
                      ·
                        refine tu_iload 500 X 0 dL_same_500 rfl ?_
                        refine tu_goto 502 X 507 dL_same_502 (by decide) ?_
                        refine tu_istore 507 X (lv' := [(11, tu_i 0), (10, tu_i 0), (14, tu_i ((tu_kp (tu_cb M) p9) b9)), (0, tu_r 0), (1, tu_r 90), (2, tu_r 86), (3, tu_r 87), (4, tu_r 88), (5, tu_r 89), (6, tu_r 91), (7, tu_i (tu_sm (fun l => if 2 ≤ tu_ti (M 7) ((l : Nat) : Int) (M 1 7).toNat then 1 else 0) NL)), (8, tu_i ((p9 : Nat) : Int)), (9, tu_i (((tu_np (tu_cb M) p9) : Nat) : Int)), (12, tu_i 0), (13, tu_i ((b9 : Nat) : Int))]) dL_same_507 (by rw [hnl]; decide) rfl ?_
                        refine tu_aload_n 509 X 3 dL_same_509 rfl ?_
                        refine tu_iload 510 X 11 dL_same_510 rfl ?_
                        refine tu_iload 512 X 14 dL_same_512 rfl ?_
                        refine tu_callVI 514 X (st := []) (as := [tu_i ((p9 : Nat) : Int), tu_i ((b9 : Nat) : Int)]) (c_X3_kindOf ((p9 : Nat) : Int) ((b9 : Nat) : Int) (show tu_OK Ma from by exact tz_OK hsc hR.ok) (show tu_rg ((p9 : Nat) : Int) from by first | assumption | omega | exact ⟨by omega, by omega⟩ | decide) (show tu_rg ((b9 : Nat) : Int) from by first | assumption | omega | exact ⟨by omega, by omega⟩ | decide)) sv_RL_41 dL_same_514 rfl (by decide) rfl rfl rfl (Nat.le_of_ble_eq_true rfl) ⟨by decide, by decide⟩ (fun z M' h => ?_)
                        obtain ⟨y_514, hM514, h514_0, hz514⟩ := h
                        refine tu_st_eq rfl (M' := Ma) hM514 ?_
                        refine tu_tp (b := y_514) hz514 ?_
                        have a514 := tz_q_kindOf hsc h514_0
                        simp only [Int.toNat_natCast] at a514
                        rw [show ((p9 : Int) * 24 + (b9 : Int)).toNat = p9 * 24 + b9 by omega] at a514
                        have b514 : y_514 = (tu_kp (tu_cb M) p9) b9 := by
                          show y_514 = M 6 (p9 * 24 + b9)
                          omega
                        refine tu_iload 517 X 2 dL_same_517 rfl ?_
                        refine tu_icmp_eq 519 X 524 dL_same_519 (by decide) (show tu_rg y_514 from by first | assumption | exact ⟨by omega, by omega⟩) (show tu_rg ((tu_kp (tu_cb M) p9) b9) from by first | assumption | exact ⟨by omega, by omega⟩) (fun br519 => ?_) (fun br519 => ?_)
                        ·
                          refine tu_iinc 524 X (lv' := [(13, tu_i (((b9 : Nat) : Int) + 1)), (11, tu_i 0), (10, tu_i 0), (14, tu_i ((tu_kp (tu_cb M) p9) b9)), (0, tu_r 0), (1, tu_r 90), (2, tu_r 86), (3, tu_r 87), (4, tu_r 88), (5, tu_r 89), (6, tu_r 91), (7, tu_i (tu_sm (fun l => if 2 ≤ tu_ti (M 7) ((l : Nat) : Int) (M 1 7).toNat then 1 else 0) NL)), (8, tu_i ((p9 : Nat) : Int)), (9, tu_i (((tu_np (tu_cb M) p9) : Nat) : Int)), (12, tu_i 0)]) 14 dL_same_524 rfl (by rw [hnl]; decide) rfl ?_
                          refine tu_goto 527 X 440 dL_same_527 (by decide) ?_
                          refine tu_jmp [4, 5, 6, 7, 8, 9, 10, 11, 12, 13, 2, 1, 14, 0] (lv' := [(0, tu_r 0), (1, tu_r 90), (2, tu_r 86), (3, tu_r 87), (4, tu_r 88), (5, tu_r 89), (6, tu_r 91), (7, tu_i (tu_sm (fun l => if 2 ≤ tu_ti (M 7) ((l : Nat) : Int) (M 1 7).toNat then 1 else 0) NL)), (8, tu_i ((p9 : Nat) : Int)), (9, tu_i (((tu_np (tu_cb M) p9) : Nat) : Int)), (10, tu_i (tu_rn (tu_kp (tu_cb M) p9) (b9 + 1))), (11, tu_i (tu_lg (tu_kp (tu_cb M) p9) (b9 + 1))), (12, tu_i 0), (13, tu_i (((b9 + 1) : Nat) : Int))]) ⟨rfl, rfl, rfl, rfl, rfl, rfl, rfl, rfl, rfl, rfl, tu_ei (by first | rfl | (first | rfl | omega)), tu_ei (by first | rfl | (first | rfl | omega)), rfl, tu_ei (by first | rfl | omega), trivial⟩ rfl (ih440 (b9 + 1) (by omega) (by omega))
                        ·
                          exfalso; omega
              refine tu_jmp [5, 6, 7, 8, 9, 10, 11, 12, 13, 4, 3, 2, 1, 0] (lv' := [(0, tu_r 0), (1, tu_r 90), (2, tu_r 86), (3, tu_r 87), (4, tu_r 88), (5, tu_r 89), (6, tu_r 91), (7, tu_i (tu_sm (fun l => if 2 ≤ tu_ti (M 7) ((l : Nat) : Int) (M 1 7).toNat then 1 else 0) NL)), (8, tu_i ((p9 : Nat) : Int)), (9, tu_i (((tu_np (tu_cb M) p9) : Nat) : Int)), (10, tu_i (tu_rn (tu_kp (tu_cb M) p9) 0)), (11, tu_i (tu_lg (tu_kp (tu_cb M) p9) 0)), (12, tu_i 0), (13, tu_i 0)]) ⟨rfl, rfl, rfl, rfl, rfl, rfl, rfl, rfl, rfl, rfl, tu_ei (by first | rfl | (first | rfl | omega)), tu_ei (by first | rfl | (first | rfl | omega)), rfl, rfl, trivial⟩ rfl (lp440 (((tu_np (tu_cb M) p9) - 0) + 1) 0 (by omega) (by omega))
        refine tu_jmp [1, 2, 3, 4, 5, 6, 7, 8, 0] (lv' := [(0, tu_r 0), (1, tu_r 90), (2, tu_r 86), (3, tu_r 87), (4, tu_r 88), (5, tu_r 89), (6, tu_r 91), (7, tu_i (tu_sm (fun l => if 2 ≤ tu_ti (M 7) ((l : Nat) : Int) (M 1 7).toNat then 1 else 0) NL)), (8, tu_i 0)]) ⟨rfl, rfl, rfl, rfl, rfl, rfl, rfl, rfl, rfl, trivial⟩ rfl (lp412 ((NP - 0) + 1) 0 (by omega) (by omega))
      ·
        have hlM : (l9 : Int) < M 1 1 := by omega
        have hnl9 := hR.nl hlM
        have hli := hR.li l9 hlM
        refine tu_bipush 14 X dL_same_14 (by decide) ?_
        refine tu_istore 16 X (lv' := [(9, tu_i (-6)), (0, tu_r 0), (1, tu_r 90), (2, tu_r 86), (3, tu_r 87), (4, tu_r 88), (5, tu_r 89), (6, tu_r 91), (7, tu_i (tu_sm (fun l => if 2 ≤ tu_ti (M 7) ((l : Nat) : Int) (M 1 7).toNat then 1 else 0) l9)), (8, tu_i ((l9 : Nat) : Int))]) dL_same_16 (by rw [hnl]; decide) rfl ?_
        refine tu_iconst 18 X dL_same_18 ?_
        refine tu_istore 19 X (lv' := [(10, tu_i 0), (9, tu_i (-6)), (0, tu_r 0), (1, tu_r 90), (2, tu_r 86), (3, tu_r 87), (4, tu_r 88), (5, tu_r 89), (6, tu_r 91), (7, tu_i (tu_sm (fun l => if 2 ≤ tu_ti (M 7) ((l : Nat) : Int) (M 1 7).toNat then 1 else 0) l9)), (8, tu_i ((l9 : Nat) : Int))]) dL_same_19 (by rw [hnl]; decide) rfl ?_
        refine tu_iload 21 X 10 dL_same_21 rfl ?_
        refine tu_aload_n 23 X 3 dL_same_23 rfl ?_
        refine tu_aload 24 X 6 dL_same_24 rfl ?_
        refine tu_callSI 26 X (st := []) (as := [tu_i ((l9 : Nat) : Int), tu_r 90, tu_r 88]) (c_L_sung ((l9 : Nat) : Int) (show tu_rg ((l9 : Nat) : Int) from by first | assumption | omega | exact ⟨by omega, by omega⟩ | decide) (show 0 ≤ Ma 90 6 ∧ Ma 90 6 ≤ 40 from by rw [hsc 90 (by decide), q4.2.2.1]; omega) (show ∀ k : Nat, (k : Int) < Ma 90 6 → tu_rg (Ma 88 k) from by intro k hk; rw [hsc 90 (by decide), q4.2.2.1] at hk; rw [hsc 88 (by decide), hR.ba k hk]; have := hB.bal k hk; exact ⟨by omega, by omega⟩)) ss_RL_10 dL_same_26 rfl (Nat.le_of_ble_eq_true rfl) ⟨by decide, by decide⟩ (fun z M' h => ?_)
        obtain ⟨hM26, hz26⟩ := h
        refine tu_st_eq rfl (M' := Ma) hM26 ?_
        refine tu_tp (b := (tu_ti (Ma 88) ((l9 : Nat) : Int) (Ma 90 6).toNat)) hz26 ?_
        refine tu_tp (b := (tu_ti (M 7) ((l9 : Nat) : Int) (M 1 7).toNat)) (by exact tz_sung hR hsc _) ?_
        refine tu_istore 29 X (lv' := [(11, tu_i (tu_ti (M 7) ((l9 : Nat) : Int) (M 1 7).toNat)), (10, tu_i 0), (9, tu_i (-6)), (0, tu_r 0), (1, tu_r 90), (2, tu_r 86), (3, tu_r 87), (4, tu_r 88), (5, tu_r 89), (6, tu_r 91), (7, tu_i (tu_sm (fun l => if 2 ≤ tu_ti (M 7) ((l : Nat) : Int) (M 1 7).toNat then 1 else 0) l9)), (8, tu_i ((l9 : Nat) : Int))]) dL_same_29 (by rw [hnl]; decide) rfl ?_
        have ti9 := tu_ti_01 (M 7) ((l9 : Nat) : Int) (M 1 7).toNat
        have lp44 : ∀ (bx : Int), (bx = if 2 ≤ (tu_ti (M 7) ((l9 : Nat) : Int) (M 1 7).toNat) then 1 else 0) → tu_W T 44 [(0, tu_r 0), (1, tu_r 90), (2, tu_r 86), (3, tu_r 87), (4, tu_r 88), (5, tu_r 89), (6, tu_r 91), (7, tu_i (tu_sm (fun l => if 2 ≤ tu_ti (M 7) ((l : Nat) : Int) (M 1 7).toNat then 1 else 0) l9)), (8, tu_i ((l9 : Nat) : Int)), (9, tu_i (-6)), (10, tu_i 0), (11, tu_i (tu_ti (M 7) ((l9 : Nat) : Int) (M 1 7).toNat))] [tu_i bx, tu_i (tu_sm (fun l => if 2 ≤ tu_ti (M 7) ((l : Nat) : Int) (M 1 7).toNat then 1 else 0) l9)] Ma := by
            intro bx hbx
            refine tu_iadd 44 X dL_same_44 ?_
            refine tu_istore 45 X (lv' := [(7, tu_i (tu_sm (fun l => if 2 ≤ tu_ti (M 7) ((l : Nat) : Int) (M 1 7).toNat then 1 else 0) l9 + bx)), (0, tu_r 0), (1, tu_r 90), (2, tu_r 86), (3, tu_r 87), (4, tu_r 88), (5, tu_r 89), (6, tu_r 91), (8, tu_i ((l9 : Nat) : Int)), (9, tu_i (-6)), (10, tu_i 0), (11, tu_i (tu_ti (M 7) ((l9 : Nat) : Int) (M 1 7).toNat))]) dL_same_45 (by rw [hnl]; decide) rfl ?_
            refine tu_iconst 47 X dL_same_47 ?_
            refine tu_istore 48 X (lv' := [(12, tu_i 0), (7, tu_i (tu_sm (fun l => if 2 ≤ tu_ti (M 7) ((l : Nat) : Int) (M 1 7).toNat then 1 else 0) l9 + bx)), (0, tu_r 0), (1, tu_r 90), (2, tu_r 86), (3, tu_r 87), (4, tu_r 88), (5, tu_r 89), (6, tu_r 91), (8, tu_i ((l9 : Nat) : Int)), (9, tu_i (-6)), (10, tu_i 0), (11, tu_i (tu_ti (M 7) ((l9 : Nat) : Int) (M 1 7).toNat))]) dL_same_48 (by rw [hnl]; decide) rfl ?_
            have lp50 : ∀ (nq : Nat) (p9 : Nat) (bs : Int) (ls : Int) (Mb : tu_M), (p9 ≤ NP) → (tz_bs (fun p => tu_co (tu_cb M) l9 p) p9 bs ls) → (tz_sc M Mb) → NP - p9 < nq → tu_W T 50 [(0, tu_r 0), (1, tu_r 90), (2, tu_r 86), (3, tu_r 87), (4, tu_r 88), (5, tu_r 89), (6, tu_r 91), (7, tu_i (tu_sm (fun l => if 2 ≤ tu_ti (M 7) ((l : Nat) : Int) (M 1 7).toNat then 1 else 0) l9 + bx)), (8, tu_i ((l9 : Nat) : Int)), (9, tu_i bs), (10, tu_i ls), (11, tu_i (tu_ti (M 7) ((l9 : Nat) : Int) (M 1 7).toNat)), (12, tu_i ((p9 : Nat) : Int))] [] Mb := by
              intro nq
              induction nq with
              | zero => intros; omega
              | succ nq ih50 =>
                intro p9 bs ls Mb hp9 hbs hsc hn50
                have hbsr : bs = -6 ∨ ((0 ≤ bs ∧ bs ≤ p9) ∧ 0 ≤ ls ∧ ls < 1000000) := by
                  obtain ⟨g1, g2⟩ := hbs
                  omega
                refine tu_iload 50 X 12 dL_same_50 rfl ?_
                refine tu_aload_n 52 X 1 dL_same_52 rfl ?_
                refine tu_iconst 53 X dL_same_53 ?_
                refine tu_iald 54 X (x := Mb 90 5) 5 dL_same_54 (by decide) rfl (by decide) rfl (by decide) rfl ?_
                refine tu_tp (b := (M 90 5)) (by rw [hsc 90 (by decide)]) ?_
                refine tu_tp (b := ((NP : Nat) : Int)) (by rw [q4.2.1]; exact eP) ?_
                refine tu_icmp_ge 55 X 257 dL_same_55 (by decide) (show tu_rg ((p9 : Nat) : Int) from by first | assumption | exact ⟨by omega, by omega⟩) (show tu_rg ((NP : Nat) : Int) from by first | assumption | exact ⟨by omega, by omega⟩) (fun br55 => ?_) (fun br55 => ?_)
                ·
                  refine tu_iconst 257 X dL_same_257 ?_
                  refine tu_istore 258 X (lv' := [(12, tu_i 0), (0, tu_r 0), (1, tu_r 90), (2, tu_r 86), (3, tu_r 87), (4, tu_r 88), (5, tu_r 89), (6, tu_r 91), (7, tu_i (tu_sm (fun l => if 2 ≤ tu_ti (M 7) ((l : Nat) : Int) (M 1 7).toNat then 1 else 0) l9 + bx)), (8, tu_i ((l9 : Nat) : Int)), (9, tu_i bs), (10, tu_i ls), (11, tu_i (tu_ti (M 7) ((l9 : Nat) : Int) (M 1 7).toNat))]) dL_same_258 (by rw [hnl]; decide) rfl ?_
                  have lp260 : ∀ (nq : Nat) (k7 : Nat), (k7 ≤ (tu_nl (tu_cb M) l9)) → (tu_nl (tu_cb M) l9) - k7 < nq → tu_W T 260 [(0, tu_r 0), (1, tu_r 90), (2, tu_r 86), (3, tu_r 87), (4, tu_r 88), (5, tu_r 89), (6, tu_r 91), (7, tu_i (tu_sm (fun l => if 2 ≤ tu_ti (M 7) ((l : Nat) : Int) (M 1 7).toNat then 1 else 0) l9 + bx)), (8, tu_i ((l9 : Nat) : Int)), (9, tu_i bs), (10, tu_i ls), (11, tu_i (tu_ti (M 7) ((l9 : Nat) : Int) (M 1 7).toNat)), (12, tu_i ((k7 : Nat) : Int))] [] Mb := by
                    intro nq
                    induction nq with
                    | zero => intros; omega
                    | succ nq ih260 =>
                      intro k7 hk7 hn260
                      refine tu_iload 260 X 12 dL_same_260 rfl ?_
                      refine tu_aload_n 262 X 2 dL_same_262 rfl ?_
                      refine tu_iconst 263 X dL_same_263 ?_
                      refine tu_iload 264 X 8 dL_same_264 rfl ?_
                      refine tu_imul 266 X dL_same_266 ?_
                      refine tu_iald 267 X (x := Mb 86 (2 * l9)) (2 * l9) dL_same_267 (by decide) rfl (by decide) (by omega) (by omega) rfl ?_
                      refine tu_tp (b := (M 86 (2 * l9))) (by rw [hsc 86 (by decide)]) ?_
                      refine tu_tp (b := (((tu_nl (tu_cb M) l9) : Nat) : Int)) (by rw [hli.2.1]; exact hnl9.1) ?_
                      refine tu_icmp_ge 268 X 303 dL_same_268 (by decide) (show tu_rg ((k7 : Nat) : Int) from by first | assumption | exact ⟨by omega, by omega⟩) (show tu_rg (((tu_nl (tu_cb M) l9) : Nat) : Int) from by first | assumption | exact ⟨by omega, by omega⟩) (fun br268 => ?_) (fun br268 => ?_)
                      ·
                        refine tu_aload_n 303 X 0 dL_same_303 rfl ?_
                        refine tu_iload 304 X 8 dL_same_304 rfl ?_
                        refine tu_iconst 306 X dL_same_306 ?_
                        refine tu_callVI 307 X (st := []) (as := [tu_i ((l9 : Nat) : Int), tu_i 0]) (c_X3_line ((l9 : Nat) : Int) 0 (show tu_OK Mb from by exact tz_OK hsc hR.ok) (show tu_rg ((l9 : Nat) : Int) from by first | assumption | omega | exact ⟨by omega, by omega⟩ | decide) (show tu_rg 0 from by first | assumption | omega | exact ⟨by omega, by omega⟩ | decide)) sv_RL_34 dL_same_307 rfl (by decide) rfl rfl rfl (Nat.le_of_ble_eq_true rfl) ⟨by decide, by decide⟩ (fun z N307 h => ?_)
                        obtain ⟨y_307, h307_0, h307_1, hz307⟩ := h
                        refine tu_tp (b := y_307) hz307 ?_
                        have a307 := tz_q_line hsc h307_1
                        simp only [Int.toNat_natCast] at a307
                        have b307 : y_307 = (((tu_nl (tu_cb M) l9) : Nat) : Int) := by omega
                        have hsc : tz_sc M N307 := hsc.sc h307_0
                        refine tu_aload_n 310 X 2 dL_same_310 rfl ?_
                        refine tu_iconst 311 X dL_same_311 ?_
                        refine tu_iload 312 X 8 dL_same_312 rfl ?_
                        refine tu_imul 314 X dL_same_314 ?_
                        refine tu_iald 315 X (x := N307 86 (2 * l9)) (2 * l9) dL_same_315 (by decide) rfl (by decide) (by omega) (by omega) rfl ?_
                        refine tu_tp (b := (M 86 (2 * l9))) (by rw [hsc 86 (by decide)]) ?_
                        refine tu_tp (b := (((tu_nl (tu_cb M) l9) : Nat) : Int)) (by rw [hli.2.1]; exact hnl9.1) ?_
                        refine tu_icmp_ne 316 X 401 dL_same_316 (by decide) (show tu_rg y_307 from by first | assumption | exact ⟨by omega, by omega⟩) (show tu_rg (((tu_nl (tu_cb M) l9) : Nat) : Int) from by first | assumption | exact ⟨by omega, by omega⟩) (fun br316 => ?_) (fun br316 => ?_)
                        ·
                          exfalso; omega
                        ·
                          refine tu_aload_n 319 X 0 dL_same_319 rfl ?_
                          refine tu_iload 320 X 8 dL_same_320 rfl ?_
                          refine tu_iconst 322 X dL_same_322 ?_
                          refine tu_callVI 323 X (st := []) (as := [tu_i ((l9 : Nat) : Int), tu_i 1]) (c_X3_line ((l9 : Nat) : Int) 1 (show tu_OK N307 from by exact tz_OK hsc hR.ok) (show tu_rg ((l9 : Nat) : Int) from by first | assumption | omega | exact ⟨by omega, by omega⟩ | decide) (show tu_rg 1 from by first | assumption | omega | exact ⟨by omega, by omega⟩ | decide)) sv_RL_34 dL_same_323 rfl (by decide) rfl rfl rfl (Nat.le_of_ble_eq_true rfl) ⟨by decide, by decide⟩ (fun z N323 h => ?_)
                          obtain ⟨y_323, h323_0, h323_1, hz323⟩ := h
                          refine tu_tp (b := y_323) hz323 ?_
                          have a323 := tz_q_line hsc h323_1
                          simp only [Int.toNat_natCast] at a323
                          have b323 : y_323 = tu_ti (tu_al (tu_cb M) l9) 1 (tu_nl (tu_cb M) l9) := by
                            have e8 : tu_sm (tu_al (tu_cb M) l9) (tu_nl (tu_cb M) l9) = tu_ti (tu_al (tu_cb M) l9) 1 (tu_nl (tu_cb M) l9) := tz_sm_ti (fun k hk => hB.str l9 k hlM (by omega))
                            rw [← e8]
                            have e9 : tu_sm (fun q => M 4 (l9 * 16 + q)) (M 3 l9).toNat = tu_sm (tu_al (tu_cb M) l9) (tu_nl (tu_cb M) l9) := rfl
                            omega
                          have t323 := tu_ti_01 (tu_al (tu_cb M) l9) 1 (tu_nl (tu_cb M) l9)
                          have hsc : tz_sc M N323 := hsc.sc h323_0
                          refine tu_aload_n 326 X 2 dL_same_326 rfl ?_
                          refine tu_iconst 327 X dL_same_327 ?_
                          refine tu_iload 328 X 8 dL_same_328 rfl ?_
                          refine tu_imul 330 X dL_same_330 ?_
                          refine tu_iconst 331 X dL_same_331 ?_
                          refine tu_iadd 332 X dL_same_332 ?_
                          refine tu_iald 333 X (x := N323 86 ((2 * l9) + 1)) ((2 * l9) + 1) dL_same_333 (by decide) rfl (by decide) (by omega) (by omega) rfl ?_
                          refine tu_tp (b := (M 86 ((2 * l9) + 1))) (by rw [hsc 86 (by decide)]) ?_
                          refine tu_callSI 334 X (st := [tu_i y_323]) (as := [tu_i (M 86 ((2 * l9) + 1))]) (c_L_bits (M 86 ((2 * l9) + 1)) (tu_nl (tu_cb M) l9) (tu_al (tu_cb M) l9) (show tu_mk (M 86 ((2 * l9) + 1)) (tu_nl (tu_cb M) l9) (tu_al (tu_cb M) l9) from by exact hli.2.2.2) (show (tu_nl (tu_cb M) l9) ≤ 9 from by omega) (show tu_rg (M 86 ((2 * l9) + 1)) from by exact hli.2.2.1)) ss_RL_37 dL_same_334 rfl (Nat.le_of_ble_eq_true rfl) ⟨by decide, by decide⟩ (fun z M' h => ?_)
                          obtain ⟨hM334, hz334⟩ := h
                          refine tu_st_eq rfl (M' := N323) hM334 ?_
                          refine tu_tp (b := (tu_ti (tu_al (tu_cb M) l9) 1 (tu_nl (tu_cb M) l9))) hz334 ?_
                          refine tu_icmp_ne 337 X 401 dL_same_337 (by decide) (show tu_rg y_323 from by first | assumption | exact ⟨by omega, by omega⟩) (show tu_rg (tu_ti (tu_al (tu_cb M) l9) 1 (tu_nl (tu_cb M) l9)) from by first | assumption | exact ⟨by omega, by omega⟩) (fun br337 => ?_) (fun br337 => ?_)
                          ·
                            exfalso; omega
                          ·
                            refine tu_aload_n 340 X 0 dL_same_340 rfl ?_
                            refine tu_iload 341 X 8 dL_same_341 rfl ?_
                            refine tu_iconst 343 X dL_same_343 ?_
                            refine tu_callVI 344 X (st := []) (as := [tu_i ((l9 : Nat) : Int), tu_i 2]) (c_X3_line ((l9 : Nat) : Int) 2 (show tu_OK N323 from by exact tz_OK hsc hR.ok) (show tu_rg ((l9 : Nat) : Int) from by first | assumption | omega | exact ⟨by omega, by omega⟩ | decide) (show tu_rg 2 from by first | assumption | omega | exact ⟨by omega, by omega⟩ | decide)) sv_RL_34 dL_same_344 rfl (by decide) rfl rfl rfl (Nat.le_of_ble_eq_true rfl) ⟨by decide, by decide⟩ (fun z N344 h => ?_)
                            obtain ⟨y_344, h344_0, h344_1, hz344⟩ := h
                            refine tu_tp (b := y_344) hz344 ?_
                            have a344 := tz_q_line hsc h344_1
                            simp only [Int.toNat_natCast] at a344
                            have b344 : y_344 = (tu_ti (M 7) ((l9 : Nat) : Int) (M 1 7).toNat) := by omega
                            have hsc : tz_sc M N344 := hsc.sc h344_0
                            refine tu_iload 347 X 11 dL_same_347 rfl ?_
                            refine tu_icmp_ne 349 X 401 dL_same_349 (by decide) (show tu_rg y_344 from by first | assumption | exact ⟨by omega, by omega⟩) (show tu_rg (tu_ti (M 7) ((l9 : Nat) : Int) (M 1 7).toNat) from by first | assumption | exact ⟨by omega, by omega⟩) (fun br349 => ?_) (fun br349 => ?_)
                            ·
                              exfalso; omega
                            ·
                              refine tu_aload_n 352 X 0 dL_same_352 rfl ?_
                              refine tu_iload 353 X 8 dL_same_353 rfl ?_
                              refine tu_iconst 355 X dL_same_355 ?_
                              refine tu_callVI 356 X (st := []) (as := [tu_i ((l9 : Nat) : Int), tu_i 3]) (c_X3_line ((l9 : Nat) : Int) 3 (show tu_OK N344 from by exact tz_OK hsc hR.ok) (show tu_rg ((l9 : Nat) : Int) from by first | assumption | omega | exact ⟨by omega, by omega⟩ | decide) (show tu_rg 3 from by first | assumption | omega | exact ⟨by omega, by omega⟩ | decide)) sv_RL_34 dL_same_356 rfl (by decide) rfl rfl rfl (Nat.le_of_ble_eq_true rfl) ⟨by decide, by decide⟩ (fun z N356 h => ?_)
                              obtain ⟨y_356, h356_0, h356_1, hz356⟩ := h
                              refine tu_tp (b := y_356) hz356 ?_
                              have a356 := tz_q_line hsc h356_1
                              simp only [Int.toNat_natCast] at a356
                              have b356 : y_356 = if 2 ≤ (tu_ti (M 7) ((l9 : Nat) : Int) (M 1 7).toNat) then 1 else 0 := by omega
                              have hsc : tz_sc M N356 := hsc.sc h356_0
                              refine tu_iload 359 X 11 dL_same_359 rfl ?_
                              refine tu_iconst 361 X dL_same_361 ?_
                              refine tu_icmp_le 362 X 369 dL_same_362 (by decide) (show tu_rg (tu_ti (M 7) ((l9 : Nat) : Int) (M 1 7).toNat) from by first | assumption | exact ⟨by omega, by omega⟩) ⟨by decide, by decide⟩ (fun br362 => ?_) (fun br362 => ?_)
                              ·
                                refine tu_iconst 369 X dL_same_369 ?_
                                refine tu_icmp_ne 370 X 401 dL_same_370 (by decide) (show tu_rg y_356 from by first | assumption | exact ⟨by omega, by omega⟩) ⟨by decide, by decide⟩ (fun br370 => ?_) (fun br370 => ?_)
                                ·
                                  exfalso; revert b356; split <;> omega
                                ·
                                  refine tu_aload_n 373 X 0 dL_same_373 rfl ?_
                                  refine tu_iload 374 X 8 dL_same_374 rfl ?_
                                  refine tu_iconst 376 X dL_same_376 ?_
                                  refine tu_callVI 377 X (st := []) (as := [tu_i ((l9 : Nat) : Int), tu_i 4]) (c_X3_line ((l9 : Nat) : Int) 4 (show tu_OK N356 from by exact tz_OK hsc hR.ok) (show tu_rg ((l9 : Nat) : Int) from by first | assumption | omega | exact ⟨by omega, by omega⟩ | decide) (show tu_rg 4 from by first | assumption | omega | exact ⟨by omega, by omega⟩ | decide)) sv_RL_34 dL_same_377 rfl (by decide) rfl rfl rfl (Nat.le_of_ble_eq_true rfl) ⟨by decide, by decide⟩ (fun z N377 h => ?_)
                                  obtain ⟨y_377, h377_0, h377_1, hz377⟩ := h
                                  refine tu_tp (b := y_377) hz377 ?_
                                  have a377 := tz_q_line hsc h377_1
                                  simp only [Int.toNat_natCast] at a377
                                  have b377 : y_377 = bs := by
                                    have e9 := hbs.1
                                    rw [show p9 = (M 1 4).toNat from by omega] at e9
                                    omega
                                  have hsc : tz_sc M N377 := hsc.sc h377_0
                                  refine tu_iload 380 X 9 dL_same_380 rfl ?_
                                  refine tu_icmp_ne 382 X 401 dL_same_382 (by decide) (show tu_rg y_377 from by first | assumption | exact ⟨by omega, by omega⟩) (show tu_rg bs from by first | assumption | exact ⟨by omega, by omega⟩) (fun br382 => ?_) (fun br382 => ?_)
                                  ·
                                    exfalso; omega
                                  ·
                                    refine tu_aload_n 385 X 0 dL_same_385 rfl ?_
                                    refine tu_iload 386 X 8 dL_same_386 rfl ?_
                                    refine tu_aload_n 388 X 2 dL_same_388 rfl ?_
                                    refine tu_iconst 389 X dL_same_389 ?_
                                    refine tu_iload 390 X 8 dL_same_390 rfl ?_
                                    refine tu_imul 392 X dL_same_392 ?_
                                    refine tu_iald 393 X (x := N377 86 (2 * l9)) (2 * l9) dL_same_393 (by decide) rfl (by decide) (by omega) (by omega) rfl ?_
                                    refine tu_tp (b := (M 86 (2 * l9))) (by rw [hsc 86 (by decide)]) ?_
                                    refine tu_tp (b := (((tu_nl (tu_cb M) l9) : Nat) : Int)) (by rw [hli.2.1]; exact hnl9.1) ?_
                                    refine tu_callVI 394 X (st := []) (as := [tu_i ((l9 : Nat) : Int), tu_i (((tu_nl (tu_cb M) l9) : Nat) : Int)]) (c_X3_isStressed ((l9 : Nat) : Int) (((tu_nl (tu_cb M) l9) : Nat) : Int) (show tu_OK N377 from by exact tz_OK hsc hR.ok) (show tu_rg ((l9 : Nat) : Int) from by first | assumption | omega | exact ⟨by omega, by omega⟩ | decide) (show tu_rg (((tu_nl (tu_cb M) l9) : Nat) : Int) from by first | assumption | omega | exact ⟨by omega, by omega⟩ | decide)) sv_RL_30 dL_same_394 rfl (by decide) rfl rfl rfl (Nat.le_of_ble_eq_true rfl) ⟨by decide, by decide⟩ (fun z M' h => ?_)
                                    obtain ⟨y_394, hM394, h394_0, hz394⟩ := h
                                    refine tu_st_eq rfl (M' := N377) hM394 ?_
                                    refine tu_tp (b := y_394) hz394 ?_
                                    have a394 := tz_q_isStressed hsc h394_0
                                    simp only [Int.toNat_natCast] at a394
                                    have b394 : y_394 = -1 := by omega
                                    refine tu_iconst 397 X dL_same_397 ?_
                                    refine tu_icmp_eq 398 X 403 dL_same_398 (by decide) (show tu_rg y_394 from by first | assumption | exact ⟨by omega, by omega⟩) ⟨by decide, by decide⟩ (fun br398 => ?_) (fun br398 => ?_)
                                    ·
                                      refine tu_iinc 403 X (lv' := [(8, tu_i (((l9 : Nat) : Int) + 1)), (0, tu_r 0), (1, tu_r 90), (2, tu_r 86), (3, tu_r 87), (4, tu_r 88), (5, tu_r 89), (6, tu_r 91), (7, tu_i (tu_sm (fun l => if 2 ≤ tu_ti (M 7) ((l : Nat) : Int) (M 1 7).toNat then 1 else 0) l9 + bx)), (9, tu_i bs), (10, tu_i ls), (11, tu_i (tu_ti (M 7) ((l9 : Nat) : Int) (M 1 7).toNat)), (12, tu_i ((k7 : Nat) : Int))]) 8 dL_same_403 rfl (by rw [hnl]; decide) rfl ?_
                                      refine tu_goto 406 X 6 dL_same_406 (by decide) ?_
                                      refine tu_jmp [1, 2, 3, 4, 5, 6, 7, 8, 0] (lv' := [(0, tu_r 0), (1, tu_r 90), (2, tu_r 86), (3, tu_r 87), (4, tu_r 88), (5, tu_r 89), (6, tu_r 91), (7, tu_i (tu_sm (fun l => if 2 ≤ tu_ti (M 7) ((l : Nat) : Int) (M 1 7).toNat then 1 else 0) (l9 + 1))), (8, tu_i (((l9 + 1) : Nat) : Int))]) ⟨rfl, rfl, rfl, rfl, rfl, rfl, rfl, tu_ei (by first | rfl | (rw [hbx]; rfl)), tu_ei (by first | rfl | omega), trivial⟩ rfl (ih6 (l9 + 1) N377 (by omega) (by exact hsc) (by omega))
                                    ·
                                      exfalso; omega
                              ·
                                refine tu_iconst 365 X dL_same_365 ?_
                                refine tu_goto 366 X 370 dL_same_366 (by decide) ?_
                                refine tu_icmp_ne 370 X 401 dL_same_370 (by decide) (show tu_rg y_356 from by first | assumption | exact ⟨by omega, by omega⟩) ⟨by decide, by decide⟩ (fun br370 => ?_) (fun br370 => ?_)
                                ·
                                  exfalso; revert b356; split <;> omega
                                ·
                                  refine tu_aload_n 373 X 0 dL_same_373 rfl ?_
                                  refine tu_iload 374 X 8 dL_same_374 rfl ?_
                                  refine tu_iconst 376 X dL_same_376 ?_
                                  refine tu_callVI 377 X (st := []) (as := [tu_i ((l9 : Nat) : Int), tu_i 4]) (c_X3_line ((l9 : Nat) : Int) 4 (show tu_OK N356 from by exact tz_OK hsc hR.ok) (show tu_rg ((l9 : Nat) : Int) from by first | assumption | omega | exact ⟨by omega, by omega⟩ | decide) (show tu_rg 4 from by first | assumption | omega | exact ⟨by omega, by omega⟩ | decide)) sv_RL_34 dL_same_377 rfl (by decide) rfl rfl rfl (Nat.le_of_ble_eq_true rfl) ⟨by decide, by decide⟩ (fun z N377 h => ?_)
                                  obtain ⟨y_377, h377_0, h377_1, hz377⟩ := h
                                  refine tu_tp (b := y_377) hz377 ?_
                                  have a377 := tz_q_line hsc h377_1
                                  simp only [Int.toNat_natCast] at a377
                                  have b377 : y_377 = bs := by
                                    have e9 := hbs.1
                                    rw [show p9 = (M 1 4).toNat from by omega] at e9
                                    omega
                                  have hsc : tz_sc M N377 := hsc.sc h377_0
                                  refine tu_iload 380 X 9 dL_same_380 rfl ?_
                                  refine tu_icmp_ne 382 X 401 dL_same_382 (by decide) (show tu_rg y_377 from by first | assumption | exact ⟨by omega, by omega⟩) (show tu_rg bs from by first | assumption | exact ⟨by omega, by omega⟩) (fun br382 => ?_) (fun br382 => ?_)
                                  ·
                                    exfalso; omega
                                  ·
                                    refine tu_aload_n 385 X 0 dL_same_385 rfl ?_
                                    refine tu_iload 386 X 8 dL_same_386 rfl ?_
                                    refine tu_aload_n 388 X 2 dL_same_388 rfl ?_
                                    refine tu_iconst 389 X dL_same_389 ?_
                                    refine tu_iload 390 X 8 dL_same_390 rfl ?_
                                    refine tu_imul 392 X dL_same_392 ?_
                                    refine tu_iald 393 X (x := N377 86 (2 * l9)) (2 * l9) dL_same_393 (by decide) rfl (by decide) (by omega) (by omega) rfl ?_
                                    refine tu_tp (b := (M 86 (2 * l9))) (by rw [hsc 86 (by decide)]) ?_
                                    refine tu_tp (b := (((tu_nl (tu_cb M) l9) : Nat) : Int)) (by rw [hli.2.1]; exact hnl9.1) ?_
                                    refine tu_callVI 394 X (st := []) (as := [tu_i ((l9 : Nat) : Int), tu_i (((tu_nl (tu_cb M) l9) : Nat) : Int)]) (c_X3_isStressed ((l9 : Nat) : Int) (((tu_nl (tu_cb M) l9) : Nat) : Int) (show tu_OK N377 from by exact tz_OK hsc hR.ok) (show tu_rg ((l9 : Nat) : Int) from by first | assumption | omega | exact ⟨by omega, by omega⟩ | decide) (show tu_rg (((tu_nl (tu_cb M) l9) : Nat) : Int) from by first | assumption | omega | exact ⟨by omega, by omega⟩ | decide)) sv_RL_30 dL_same_394 rfl (by decide) rfl rfl rfl (Nat.le_of_ble_eq_true rfl) ⟨by decide, by decide⟩ (fun z M' h => ?_)
                                    obtain ⟨y_394, hM394, h394_0, hz394⟩ := h
                                    refine tu_st_eq rfl (M' := N377) hM394 ?_
                                    refine tu_tp (b := y_394) hz394 ?_
                                    have a394 := tz_q_isStressed hsc h394_0
                                    simp only [Int.toNat_natCast] at a394
                                    have b394 : y_394 = -1 := by omega
                                    refine tu_iconst 397 X dL_same_397 ?_
                                    refine tu_icmp_eq 398 X 403 dL_same_398 (by decide) (show tu_rg y_394 from by first | assumption | exact ⟨by omega, by omega⟩) ⟨by decide, by decide⟩ (fun br398 => ?_) (fun br398 => ?_)
                                    ·
                                      refine tu_iinc 403 X (lv' := [(8, tu_i (((l9 : Nat) : Int) + 1)), (0, tu_r 0), (1, tu_r 90), (2, tu_r 86), (3, tu_r 87), (4, tu_r 88), (5, tu_r 89), (6, tu_r 91), (7, tu_i (tu_sm (fun l => if 2 ≤ tu_ti (M 7) ((l : Nat) : Int) (M 1 7).toNat then 1 else 0) l9 + bx)), (9, tu_i bs), (10, tu_i ls), (11, tu_i (tu_ti (M 7) ((l9 : Nat) : Int) (M 1 7).toNat)), (12, tu_i ((k7 : Nat) : Int))]) 8 dL_same_403 rfl (by rw [hnl]; decide) rfl ?_
                                      refine tu_goto 406 X 6 dL_same_406 (by decide) ?_
                                      refine tu_jmp [1, 2, 3, 4, 5, 6, 7, 8, 0] (lv' := [(0, tu_r 0), (1, tu_r 90), (2, tu_r 86), (3, tu_r 87), (4, tu_r 88), (5, tu_r 89), (6, tu_r 91), (7, tu_i (tu_sm (fun l => if 2 ≤ tu_ti (M 7) ((l : Nat) : Int) (M 1 7).toNat then 1 else 0) (l9 + 1))), (8, tu_i (((l9 + 1) : Nat) : Int))]) ⟨rfl, rfl, rfl, rfl, rfl, rfl, rfl, tu_ei (by first | rfl | (rw [hbx]; rfl)), tu_ei (by first | rfl | omega), trivial⟩ rfl (ih6 (l9 + 1) N377 (by omega) (by exact hsc) (by omega))
                                    ·
                                      exfalso; omega
                      ·
                        have hb01 := tu_bi_01 (M 86 (2 * l9 + 1)) k7
                        refine tu_aload_n 271 X 0 dL_same_271 rfl ?_
                        refine tu_iload 272 X 8 dL_same_272 rfl ?_
                        refine tu_iload 274 X 12 dL_same_274 rfl ?_
                        refine tu_callVI 276 X (st := []) (as := [tu_i ((l9 : Nat) : Int), tu_i ((k7 : Nat) : Int)]) (c_X3_isStressed ((l9 : Nat) : Int) ((k7 : Nat) : Int) (show tu_OK Mb from by exact tz_OK hsc hR.ok) (show tu_rg ((l9 : Nat) : Int) from by first | assumption | omega | exact ⟨by omega, by omega⟩ | decide) (show tu_rg ((k7 : Nat) : Int) from by first | assumption | omega | exact ⟨by omega, by omega⟩ | decide)) sv_RL_30 dL_same_276 rfl (by decide) rfl rfl rfl (Nat.le_of_ble_eq_true rfl) ⟨by decide, by decide⟩ (fun z M' h => ?_)
                        obtain ⟨y_276, hM276, h276_0, hz276⟩ := h
                        refine tu_st_eq rfl (M' := Mb) hM276 ?_
                        refine tu_tp (b := y_276) hz276 ?_
                        have a276 := tz_q_isStressed hsc h276_0
                        simp only [Int.toNat_natCast] at a276
                        rw [show ((l9 : Int) * 16 + (k7 : Int)).toNat = l9 * 16 + k7 by omega] at a276
                        have b276 : y_276 = tu_bi (M 86 (2 * l9 + 1)) k7 := by
                          have z := tz_bi hli.2.2.2 (show k7 < (M 3 l9).toNat by omega) (by omega)
                          have z2 := hB.str l9 k7 hlM (by omega)
                          rw [z]
                          show y_276 = if M 4 (l9 * 16 + k7) = 1 then 1 else 0
                          split <;> omega
                        refine tu_aload_n 279 X 2 dL_same_279 rfl ?_
                        refine tu_iconst 280 X dL_same_280 ?_
                        refine tu_iload 281 X 8 dL_same_281 rfl ?_
                        refine tu_imul 283 X dL_same_283 ?_
                        refine tu_iconst 284 X dL_same_284 ?_
                        refine tu_iadd 285 X dL_same_285 ?_
                        refine tu_iald 286 X (x := Mb 86 ((2 * l9) + 1)) ((2 * l9) + 1) dL_same_286 (by decide) rfl (by decide) (by omega) (by omega) rfl ?_
                        refine tu_tp (b := (M 86 ((2 * l9) + 1))) (by rw [hsc 86 (by decide)]) ?_
                        refine tu_iload 287 X 12 dL_same_287 rfl ?_
                        refine tu_ishr 289 X dL_same_289 ?_
                        refine tu_iconst 290 X dL_same_290 ?_
                        refine tu_iand 291 X dL_same_291 ?_
                        refine tu_tp (b := (tu_bi (M 86 (2 * l9 + 1)) k7)) (by exact tu_bit1 _ (by omega)) ?_
                        refine tu_icmp_eq 292 X 297 dL_same_292 (by decide) (show tu_rg y_276 from by first | assumption | exact ⟨by omega, by omega⟩) (show tu_rg (tu_bi (M 86 (2 * l9 + 1)) k7) from by first | assumption | exact ⟨by omega, by omega⟩) (fun br292 => ?_) (fun br292 => ?_)
                        ·
                          refine tu_iinc 297 X (lv' := [(12, tu_i (((k7 : Nat) : Int) + 1)), (0, tu_r 0), (1, tu_r 90), (2, tu_r 86), (3, tu_r 87), (4, tu_r 88), (5, tu_r 89), (6, tu_r 91), (7, tu_i (tu_sm (fun l => if 2 ≤ tu_ti (M 7) ((l : Nat) : Int) (M 1 7).toNat then 1 else 0) l9 + bx)), (8, tu_i ((l9 : Nat) : Int)), (9, tu_i bs), (10, tu_i ls), (11, tu_i (tu_ti (M 7) ((l9 : Nat) : Int) (M 1 7).toNat))]) 12 dL_same_297 rfl (by rw [hnl]; decide) rfl ?_
                          refine tu_goto 300 X 260 dL_same_300 (by decide) ?_
                          refine tu_jmp [1, 2, 3, 4, 5, 6, 7, 8, 9, 10, 11, 12, 0] (lv' := [(0, tu_r 0), (1, tu_r 90), (2, tu_r 86), (3, tu_r 87), (4, tu_r 88), (5, tu_r 89), (6, tu_r 91), (7, tu_i (tu_sm (fun l => if 2 ≤ tu_ti (M 7) ((l : Nat) : Int) (M 1 7).toNat then 1 else 0) l9 + bx)), (8, tu_i ((l9 : Nat) : Int)), (9, tu_i bs), (10, tu_i ls), (11, tu_i (tu_ti (M 7) ((l9 : Nat) : Int) (M 1 7).toNat)), (12, tu_i (((k7 + 1) : Nat) : Int))]) ⟨rfl, rfl, rfl, rfl, rfl, rfl, rfl, rfl, rfl, rfl, rfl, rfl, tu_ei (by first | rfl | omega), trivial⟩ rfl (ih260 (k7 + 1) (by omega) (by omega))
                        ·
                          exfalso; omega
                  refine tu_jmp [1, 2, 3, 4, 5, 6, 7, 8, 9, 10, 11, 12, 0] (lv' := [(0, tu_r 0), (1, tu_r 90), (2, tu_r 86), (3, tu_r 87), (4, tu_r 88), (5, tu_r 89), (6, tu_r 91), (7, tu_i (tu_sm (fun l => if 2 ≤ tu_ti (M 7) ((l : Nat) : Int) (M 1 7).toNat then 1 else 0) l9 + bx)), (8, tu_i ((l9 : Nat) : Int)), (9, tu_i bs), (10, tu_i ls), (11, tu_i (tu_ti (M 7) ((l9 : Nat) : Int) (M 1 7).toNat)), (12, tu_i 0)]) ⟨rfl, rfl, rfl, rfl, rfl, rfl, rfl, rfl, rfl, rfl, rfl, rfl, rfl, trivial⟩ rfl (lp260 (((tu_nl (tu_cb M) l9) - 0) + 1) 0 (by omega) (by omega))
                ·
                  have hpM : (p9 : Int) < M 1 4 := by omega
                  have hnp9 := hR.np hpM
                  have ly := tz_lay hR hsc hlM hpM
                  have hok := hR.lp hlM hpM
                  refine tu_aload_n 58 X 2 dL_same_58 rfl ?_
                  refine tu_iconst 59 X dL_same_59 ?_
                  refine tu_iload 60 X 8 dL_same_60 rfl ?_
                  refine tu_imul 62 X dL_same_62 ?_
                  refine tu_iald 63 X (x := Mb 86 (2 * l9)) (2 * l9) dL_same_63 (by decide) rfl (by decide) (by omega) (by omega) rfl ?_
                  refine tu_tp (b := (M 86 (2 * l9))) (by rw [hsc 86 (by decide)]) ?_
                  refine tu_tp (b := (((tu_nl (tu_cb M) l9) : Nat) : Int)) (by rw [hli.2.1]; exact hnl9.1) ?_
                  refine tu_aload_n 64 X 2 dL_same_64 rfl ?_
                  refine tu_iconst 65 X dL_same_65 ?_
                  refine tu_iload 66 X 8 dL_same_66 rfl ?_
                  refine tu_imul 68 X dL_same_68 ?_
                  refine tu_iconst 69 X dL_same_69 ?_
                  refine tu_iadd 70 X dL_same_70 ?_
                  refine tu_iald 71 X (x := Mb 86 ((2 * l9) + 1)) ((2 * l9) + 1) dL_same_71 (by decide) rfl (by decide) (by omega) (by omega) rfl ?_
                  refine tu_tp (b := (M 86 ((2 * l9) + 1))) (by rw [hsc 86 (by decide)]) ?_
                  refine tu_iload 72 X 12 dL_same_72 rfl ?_
                  refine tu_aload_n 74 X 1 dL_same_74 rfl ?_
                  refine tu_iconst 75 X dL_same_75 ?_
                  refine tu_iald 76 X (x := Mb 90 0) 0 dL_same_76 (by decide) rfl (by decide) rfl (by decide) rfl ?_
                  refine tu_tp (b := (M 90 0)) (by rw [hsc 90 (by decide)]) ?_
                  refine tu_tp (b := (((M 2 0).toNat : Nat) : Int)) (by rw [hqs 0 (by decide)]; have := hB.set; omega) ?_
                  refine tu_aload_n 77 X 1 dL_same_77 rfl ?_
                  refine tu_aload_n 78 X 3 dL_same_78 rfl ?_
                  refine tu_aload 79 X 6 dL_same_79 rfl ?_
                  refine tu_st_eq (show _ = [tu_r 91, tu_r 87, tu_r 90, tu_i ((((M 2 0).toNat) : Nat) : Int), tu_i ((p9 : Nat) : Int), tu_i (M 86 ((2 * l9) + 1)), tu_i (((tu_nl (tu_cb M) l9) : Nat) : Int)] from by first | rfl | (simp only [List.cons.injEq, Sum.inl.injEq, and_true, true_and]; omega)) rfl ?_
                  refine tu_callSV 81 X (st := []) (as := [tu_i (((tu_nl (tu_cb M) l9) : Nat) : Int), tu_i (M 86 ((2 * l9) + 1)), tu_i ((p9 : Nat) : Int), tu_i ((((M 2 0).toNat) : Nat) : Int), tu_r 90, tu_r 87, tu_r 91]) (c_L_lay (tu_nl (tu_cb M) l9) (tu_np (tu_cb M) p9) p9 ((M 2 0).toNat) (M 86 ((2 * l9) + 1)) (tu_cb M 1) (tu_al (tu_cb M) l9) (tu_kp (tu_cb M) p9) (show 1 ≤ (tu_nl (tu_cb M) l9) ∧ (tu_nl (tu_cb M) l9) ≤ 5 from by exact ly.1) (show 1 ≤ ((M 2 0).toNat) ∧ ((M 2 0).toNat) ≤ 8 from by exact ly.2.1) (show p9 < 4 from by exact ly.2.2.1) (show 1 ≤ (tu_np (tu_cb M) p9) ∧ (tu_np (tu_cb M) p9) ≤ 9 from by exact ly.2.2.2.1) (show Mb 87 (3 * p9) = (((tu_np (tu_cb M) p9) : Nat) : Int) from by exact ly.2.2.2.2.1) (show tu_mk (M 86 ((2 * l9) + 1)) (tu_nl (tu_cb M) l9) (tu_al (tu_cb M) l9) from by exact ly.2.2.2.2.2.1) (show tu_mk (Mb 87 (3 * p9 + 1)) (tu_np (tu_cb M) p9) (tz_k2 (tu_kp (tu_cb M) p9)) from by exact ly.2.2.2.2.2.2.1) (show tu_mk (Mb 87 (3 * p9 + 2)) (tu_np (tu_cb M) p9) (tz_k1 (tu_kp (tu_cb M) p9)) from by exact ly.2.2.2.2.2.2.2.1) (show ∀ b, b < (tu_np (tu_cb M) p9) → 0 ≤ (tu_kp (tu_cb M) p9) b ∧ (tu_kp (tu_cb M) p9) b ≤ 2 from by exact ly.2.2.2.2.2.2.2.2.1) (show (tu_cb M 1) 0 = ((((M 2 0).toNat) : Nat) : Int) ∧ (tu_cb M 1) 1 = Mb 90 1 ∧ (tu_cb M 1) 2 = Mb 90 2 ∧ (tu_cb M 1) 3 = Mb 90 3 from by exact ly.2.2.2.2.2.2.2.2.2.1) (show (0 ≤ (tu_cb M 1) 1 ∧ (tu_cb M 1) 1 ≤ 9) ∧ (0 ≤ (tu_cb M 1) 2 ∧ (tu_cb M 1) 2 ≤ 9) ∧ (0 ≤ (tu_cb M 1) 3 ∧ (tu_cb M 1) 3 ≤ 20) from by exact ly.2.2.2.2.2.2.2.2.2.2)) ss_RL_16 dL_same_81 rfl (Nat.le_of_ble_eq_true rfl) ⟨by decide, by decide⟩ (fun M' h => ?_)
                  obtain ⟨w_81, hM81, h81_0⟩ := h
                  refine tu_st_eq rfl (M' := tu_row Mb 91 w_81) hM81 ?_
                  obtain ⟨Mw, hMw⟩ : ∃ m99 : tu_M, m99 = tu_row Mb 91 w_81 := ⟨_, rfl⟩
                  refine tu_st_eq rfl (M' := Mw) hMw.symm ?_
                  have hw9 : Mw 91 = w_81 := by rw [hMw, tu_row_s]
                  have hsc : tz_sc M Mw := by rw [hMw]; exact hsc.w _
                  have hW : tz_W (tu_cb M) l9 p9 w_81 := h81_0
                  have hco := hW.co hok
                  have hr0 := hW.rg hok 0 (by decide)
                  refine tu_iconst 84 X dL_same_84 ?_
                  refine tu_istore 85 X (lv' := [(13, tu_i 0), (0, tu_r 0), (1, tu_r 90), (2, tu_r 86), (3, tu_r 87), (4, tu_r 88), (5, tu_r 89), (6, tu_r 91), (7, tu_i (tu_sm (fun l => if 2 ≤ tu_ti (M 7) ((l : Nat) : Int) (M 1 7).toNat then 1 else 0) l9 + bx)), (8, tu_i ((l9 : Nat) : Int)), (9, tu_i bs), (10, tu_i ls), (11, tu_i (tu_ti (M 7) ((l9 : Nat) : Int) (M 1 7).toNat)), (12, tu_i ((p9 : Nat) : Int))]) dL_same_85 (by rw [hnl]; decide) rfl ?_
                  have lp87 : ∀ (nq : Nat) (k9 : Nat) (Mc : tu_M), (k9 ≤ 5) → (Mc 91 = w_81) → (tz_sc M Mc) → 5 - k9 < nq → tu_W T 87 [(0, tu_r 0), (1, tu_r 90), (2, tu_r 86), (3, tu_r 87), (4, tu_r 88), (5, tu_r 89), (6, tu_r 91), (7, tu_i (tu_sm (fun l => if 2 ≤ tu_ti (M 7) ((l : Nat) : Int) (M 1 7).toNat then 1 else 0) l9 + bx)), (8, tu_i ((l9 : Nat) : Int)), (9, tu_i bs), (10, tu_i ls), (11, tu_i (tu_ti (M 7) ((l9 : Nat) : Int) (M 1 7).toNat)), (12, tu_i ((p9 : Nat) : Int)), (13, tu_i ((k9 : Nat) : Int))] [] Mc := by
                    intro nq
                    induction nq with
                    | zero => intros; omega
                    | succ nq ih87 =>
                      intro k9 Mc hk9 hw9 hsc hn87
                      refine tu_iload 87 X 13 dL_same_87 rfl ?_
                      refine tu_iconst 89 X dL_same_89 ?_
                      refine tu_icmp_ge 90 X 119 dL_same_90 (by decide) (show tu_rg ((k9 : Nat) : Int) from by first | assumption | exact ⟨by omega, by omega⟩) ⟨by decide, by decide⟩ (fun br90 => ?_) (fun br90 => ?_)
                      ·
                        refine tu_iconst 119 X dL_same_119 ?_
                        refine tu_istore 120 X (lv' := [(13, tu_i 0), (0, tu_r 0), (1, tu_r 90), (2, tu_r 86), (3, tu_r 87), (4, tu_r 88), (5, tu_r 89), (6, tu_r 91), (7, tu_i (tu_sm (fun l => if 2 ≤ tu_ti (M 7) ((l : Nat) : Int) (M 1 7).toNat then 1 else 0) l9 + bx)), (8, tu_i ((l9 : Nat) : Int)), (9, tu_i bs), (10, tu_i ls), (11, tu_i (tu_ti (M 7) ((l9 : Nat) : Int) (M 1 7).toNat)), (12, tu_i ((p9 : Nat) : Int))]) dL_same_120 (by rw [hnl]; decide) rfl ?_
                        have lp122 : ∀ (nq : Nat) (k8 : Nat) (Md : tu_M), (k8 ≤ (tu_nl (tu_cb M) l9)) → (Md 91 = w_81) → (tz_sc M Md) → (tu_nl (tu_cb M) l9) - k8 < nq → tu_W T 122 [(0, tu_r 0), (1, tu_r 90), (2, tu_r 86), (3, tu_r 87), (4, tu_r 88), (5, tu_r 89), (6, tu_r 91), (7, tu_i (tu_sm (fun l => if 2 ≤ tu_ti (M 7) ((l : Nat) : Int) (M 1 7).toNat then 1 else 0) l9 + bx)), (8, tu_i ((l9 : Nat) : Int)), (9, tu_i bs), (10, tu_i ls), (11, tu_i (tu_ti (M 7) ((l9 : Nat) : Int) (M 1 7).toNat)), (12, tu_i ((p9 : Nat) : Int)), (13, tu_i ((k8 : Nat) : Int))] [] Md := by
                          intro nq
                          induction nq with
                          | zero => intros; omega
                          | succ nq ih122 =>
                            intro k8 Md hk8 hw9 hsc hn122
                            refine tu_iload 122 X 13 dL_same_122 rfl ?_
                            refine tu_aload_n 124 X 2 dL_same_124 rfl ?_
                            refine tu_iconst 125 X dL_same_125 ?_
                            refine tu_iload 126 X 8 dL_same_126 rfl ?_
                            refine tu_imul 128 X dL_same_128 ?_
                            refine tu_iald 129 X (x := Md 86 (2 * l9)) (2 * l9) dL_same_129 (by decide) rfl (by decide) (by omega) (by omega) rfl ?_
                            refine tu_tp (b := (M 86 (2 * l9))) (by rw [hsc 86 (by decide)]) ?_
                            refine tu_tp (b := (((tu_nl (tu_cb M) l9) : Nat) : Int)) (by rw [hli.2.1]; exact hnl9.1) ?_
                            refine tu_icmp_ge 130 X 217 dL_same_130 (by decide) (show tu_rg ((k8 : Nat) : Int) from by first | assumption | exact ⟨by omega, by omega⟩) (show tu_rg (((tu_nl (tu_cb M) l9) : Nat) : Int) from by first | assumption | exact ⟨by omega, by omega⟩) (fun br130 => ?_) (fun br130 => ?_)
                            ·
                              refine tu_aload 217 X 6 dL_same_217 rfl ?_
                              refine tu_iconst 219 X dL_same_219 ?_
                              refine tu_iald 220 X (x := Md 91 0) 0 dL_same_220 (by decide) rfl (by decide) rfl (by decide) rfl ?_
                              refine tu_tp (b := (w_81 0)) (by rw [hw9]) ?_
                              refine tu_if_lt 221 X 251 dL_same_221 (by decide) (show tu_rg (w_81 0) from by first | assumption | exact ⟨by omega, by omega⟩) (fun br221 => ?_) (fun br221 => ?_)
                              ·
                                refine tu_iinc 251 X (lv' := [(12, tu_i (((p9 : Nat) : Int) + 1)), (0, tu_r 0), (1, tu_r 90), (2, tu_r 86), (3, tu_r 87), (4, tu_r 88), (5, tu_r 89), (6, tu_r 91), (7, tu_i (tu_sm (fun l => if 2 ≤ tu_ti (M 7) ((l : Nat) : Int) (M 1 7).toNat then 1 else 0) l9 + bx)), (8, tu_i ((l9 : Nat) : Int)), (9, tu_i bs), (10, tu_i ls), (11, tu_i (tu_ti (M 7) ((l9 : Nat) : Int) (M 1 7).toNat)), (13, tu_i ((k8 : Nat) : Int))]) 12 dL_same_251 rfl (by rw [hnl]; decide) rfl ?_
                                refine tu_goto 254 X 50 dL_same_254 (by decide) ?_
                                refine tu_jmp [1, 2, 3, 4, 5, 6, 7, 8, 9, 10, 11, 12, 0] (lv' := [(0, tu_r 0), (1, tu_r 90), (2, tu_r 86), (3, tu_r 87), (4, tu_r 88), (5, tu_r 89), (6, tu_r 91), (7, tu_i (tu_sm (fun l => if 2 ≤ tu_ti (M 7) ((l : Nat) : Int) (M 1 7).toNat then 1 else 0) l9 + bx)), (8, tu_i ((l9 : Nat) : Int)), (9, tu_i bs), (10, tu_i ls), (11, tu_i (tu_ti (M 7) ((l9 : Nat) : Int) (M 1 7).toNat)), (12, tu_i (((p9 + 1) : Nat) : Int))]) ⟨rfl, rfl, rfl, rfl, rfl, rfl, rfl, rfl, rfl, rfl, rfl, rfl, tu_ei (by first | rfl | omega), trivial⟩ rfl (ih50 (p9 + 1) bs ls Md (by omega) (by first | exact tz_bs_hit hbs (show w_81 0 = tu_co (tu_cb M) l9 p9 from by omega) (show 0 ≤ tu_co (tu_cb M) l9 p9 ∧ tu_co (tu_cb M) l9 p9 < 1000000 from by omega) (show bs < 0 ∨ tu_co (tu_cb M) l9 p9 < ls from by omega) | exact tz_bs_miss hbs (show tu_co (tu_cb M) l9 p9 = 1000000 ∨ (0 ≤ bs ∧ ls ≤ tu_co (tu_cb M) l9 p9) from by omega)) (by exact hsc) (by omega))
                              ·
                                refine tu_iload 224 X 9 dL_same_224 rfl ?_
                                refine tu_if_lt 226 X 241 dL_same_226 (by decide) (show tu_rg bs from by first | assumption | exact ⟨by omega, by omega⟩) (fun br226 => ?_) (fun br226 => ?_)
                                ·
                                  refine tu_iload 241 X 12 dL_same_241 rfl ?_
                                  refine tu_istore 243 X (lv' := [(9, tu_i ((p9 : Nat) : Int)), (0, tu_r 0), (1, tu_r 90), (2, tu_r 86), (3, tu_r 87), (4, tu_r 88), (5, tu_r 89), (6, tu_r 91), (7, tu_i (tu_sm (fun l => if 2 ≤ tu_ti (M 7) ((l : Nat) : Int) (M 1 7).toNat then 1 else 0) l9 + bx)), (8, tu_i ((l9 : Nat) : Int)), (10, tu_i ls), (11, tu_i (tu_ti (M 7) ((l9 : Nat) : Int) (M 1 7).toNat)), (12, tu_i ((p9 : Nat) : Int)), (13, tu_i ((k8 : Nat) : Int))]) dL_same_243 (by rw [hnl]; decide) rfl ?_
                                  refine tu_aload 245 X 7 dL_same_245 rfl ?_
                                  refine tu_iconst 247 X dL_same_247 ?_
                                  refine tu_iald 248 X (x := Md 91 0) 0 dL_same_248 (by decide) rfl (by decide) rfl (by decide) rfl ?_
                                  refine tu_tp (b := (w_81 0)) (by rw [hw9]) ?_
                                  refine tu_istore 249 X (lv' := [(10, tu_i (w_81 0)), (9, tu_i ((p9 : Nat) : Int)), (0, tu_r 0), (1, tu_r 90), (2, tu_r 86), (3, tu_r 87), (4, tu_r 88), (5, tu_r 89), (6, tu_r 91), (7, tu_i (tu_sm (fun l => if 2 ≤ tu_ti (M 7) ((l : Nat) : Int) (M 1 7).toNat then 1 else 0) l9 + bx)), (8, tu_i ((l9 : Nat) : Int)), (11, tu_i (tu_ti (M 7) ((l9 : Nat) : Int) (M 1 7).toNat)), (12, tu_i ((p9 : Nat) : Int)), (13, tu_i ((k8 : Nat) : Int))]) dL_same_249 (by rw [hnl]; decide) rfl ?_
                                  refine tu_iinc 251 X (lv' := [(12, tu_i (((p9 : Nat) : Int) + 1)), (10, tu_i (w_81 0)), (9, tu_i ((p9 : Nat) : Int)), (0, tu_r 0), (1, tu_r 90), (2, tu_r 86), (3, tu_r 87), (4, tu_r 88), (5, tu_r 89), (6, tu_r 91), (7, tu_i (tu_sm (fun l => if 2 ≤ tu_ti (M 7) ((l : Nat) : Int) (M 1 7).toNat then 1 else 0) l9 + bx)), (8, tu_i ((l9 : Nat) : Int)), (11, tu_i (tu_ti (M 7) ((l9 : Nat) : Int) (M 1 7).toNat)), (13, tu_i ((k8 : Nat) : Int))]) 12 dL_same_251 rfl (by rw [hnl]; decide) rfl ?_
                                  refine tu_goto 254 X 50 dL_same_254 (by decide) ?_
                                  refine tu_jmp [3, 4, 5, 6, 7, 8, 9, 10, 11, 2, 1, 12, 0] (lv' := [(0, tu_r 0), (1, tu_r 90), (2, tu_r 86), (3, tu_r 87), (4, tu_r 88), (5, tu_r 89), (6, tu_r 91), (7, tu_i (tu_sm (fun l => if 2 ≤ tu_ti (M 7) ((l : Nat) : Int) (M 1 7).toNat then 1 else 0) l9 + bx)), (8, tu_i ((l9 : Nat) : Int)), (9, tu_i ((p9 : Nat) : Int)), (10, tu_i (w_81 0)), (11, tu_i (tu_ti (M 7) ((l9 : Nat) : Int) (M 1 7).toNat)), (12, tu_i (((p9 + 1) : Nat) : Int))]) ⟨rfl, rfl, rfl, rfl, rfl, rfl, rfl, rfl, rfl, rfl, rfl, rfl, tu_ei (by first | rfl | omega), trivial⟩ rfl (ih50 (p9 + 1) ((p9 : Nat) : Int) (w_81 0) Md (by omega) (by first | exact tz_bs_hit hbs (show w_81 0 = tu_co (tu_cb M) l9 p9 from by omega) (show 0 ≤ tu_co (tu_cb M) l9 p9 ∧ tu_co (tu_cb M) l9 p9 < 1000000 from by omega) (show bs < 0 ∨ tu_co (tu_cb M) l9 p9 < ls from by omega) | exact tz_bs_miss hbs (show tu_co (tu_cb M) l9 p9 = 1000000 ∨ (0 ≤ bs ∧ ls ≤ tu_co (tu_cb M) l9 p9) from by omega)) (by exact hsc) (by omega))
                                ·
                                  refine tu_aload 229 X 6 dL_same_229 rfl ?_
                                  refine tu_iconst 231 X dL_same_231 ?_
                                  refine tu_iald 232 X (x := Md 91 0) 0 dL_same_232 (by decide) rfl (by decide) rfl (by decide) rfl ?_
                                  refine tu_tp (b := (w_81 0)) (by rw [hw9]) ?_
                                  refine tu_iload 233 X 10 dL_same_233 rfl ?_
                                  refine tu_icmp_lt 235 X 241 dL_same_235 (by decide) (show tu_rg (w_81 0) from by first | assumption | exact ⟨by omega, by omega⟩) (show tu_rg ls from by first | assumption | exact ⟨by omega, by omega⟩) (fun br235 => ?_) (fun br235 => ?_)
                                  ·
                                    refine tu_iload 241 X 12 dL_same_241 rfl ?_
                                    refine tu_istore 243 X (lv' := [(9, tu_i ((p9 : Nat) : Int)), (0, tu_r 0), (1, tu_r 90), (2, tu_r 86), (3, tu_r 87), (4, tu_r 88), (5, tu_r 89), (6, tu_r 91), (7, tu_i (tu_sm (fun l => if 2 ≤ tu_ti (M 7) ((l : Nat) : Int) (M 1 7).toNat then 1 else 0) l9 + bx)), (8, tu_i ((l9 : Nat) : Int)), (10, tu_i ls), (11, tu_i (tu_ti (M 7) ((l9 : Nat) : Int) (M 1 7).toNat)), (12, tu_i ((p9 : Nat) : Int)), (13, tu_i ((k8 : Nat) : Int))]) dL_same_243 (by rw [hnl]; decide) rfl ?_
                                    refine tu_aload 245 X 7 dL_same_245 rfl ?_
                                    refine tu_iconst 247 X dL_same_247 ?_
                                    refine tu_iald 248 X (x := Md 91 0) 0 dL_same_248 (by decide) rfl (by decide) rfl (by decide) rfl ?_
                                    refine tu_tp (b := (w_81 0)) (by rw [hw9]) ?_
                                    refine tu_istore 249 X (lv' := [(10, tu_i (w_81 0)), (9, tu_i ((p9 : Nat) : Int)), (0, tu_r 0), (1, tu_r 90), (2, tu_r 86), (3, tu_r 87), (4, tu_r 88), (5, tu_r 89), (6, tu_r 91), (7, tu_i (tu_sm (fun l => if 2 ≤ tu_ti (M 7) ((l : Nat) : Int) (M 1 7).toNat then 1 else 0) l9 + bx)), (8, tu_i ((l9 : Nat) : Int)), (11, tu_i (tu_ti (M 7) ((l9 : Nat) : Int) (M 1 7).toNat)), (12, tu_i ((p9 : Nat) : Int)), (13, tu_i ((k8 : Nat) : Int))]) dL_same_249 (by rw [hnl]; decide) rfl ?_
                                    refine tu_iinc 251 X (lv' := [(12, tu_i (((p9 : Nat) : Int) + 1)), (10, tu_i (w_81 0)), (9, tu_i ((p9 : Nat) : Int)), (0, tu_r 0), (1, tu_r 90), (2, tu_r 86), (3, tu_r 87), (4, tu_r 88), (5, tu_r 89), (6, tu_r 91), (7, tu_i (tu_sm (fun l => if 2 ≤ tu_ti (M 7) ((l : Nat) : Int) (M 1 7).toNat then 1 else 0) l9 + bx)), (8, tu_i ((l9 : Nat) : Int)), (11, tu_i (tu_ti (M 7) ((l9 : Nat) : Int) (M 1 7).toNat)), (13, tu_i ((k8 : Nat) : Int))]) 12 dL_same_251 rfl (by rw [hnl]; decide) rfl ?_
                                    refine tu_goto 254 X 50 dL_same_254 (by decide) ?_
                                    refine tu_jmp [3, 4, 5, 6, 7, 8, 9, 10, 11, 2, 1, 12, 0] (lv' := [(0, tu_r 0), (1, tu_r 90), (2, tu_r 86), (3, tu_r 87), (4, tu_r 88), (5, tu_r 89), (6, tu_r 91), (7, tu_i (tu_sm (fun l => if 2 ≤ tu_ti (M 7) ((l : Nat) : Int) (M 1 7).toNat then 1 else 0) l9 + bx)), (8, tu_i ((l9 : Nat) : Int)), (9, tu_i ((p9 : Nat) : Int)), (10, tu_i (w_81 0)), (11, tu_i (tu_ti (M 7) ((l9 : Nat) : Int) (M 1 7).toNat)), (12, tu_i (((p9 + 1) : Nat) : Int))]) ⟨rfl, rfl, rfl, rfl, rfl, rfl, rfl, rfl, rfl, rfl, rfl, rfl, tu_ei (by first | rfl | omega), trivial⟩ rfl (ih50 (p9 + 1) ((p9 : Nat) : Int) (w_81 0) Md (by omega) (by first | exact tz_bs_hit hbs (show w_81 0 = tu_co (tu_cb M) l9 p9 from by omega) (show 0 ≤ tu_co (tu_cb M) l9 p9 ∧ tu_co (tu_cb M) l9 p9 < 1000000 from by omega) (show bs < 0 ∨ tu_co (tu_cb M) l9 p9 < ls from by omega) | exact tz_bs_miss hbs (show tu_co (tu_cb M) l9 p9 = 1000000 ∨ (0 ≤ bs ∧ ls ≤ tu_co (tu_cb M) l9 p9) from by omega)) (by exact hsc) (by omega))
                                  ·
                                    refine tu_goto 238 X 251 dL_same_238 (by decide) ?_
                                    refine tu_iinc 251 X (lv' := [(12, tu_i (((p9 : Nat) : Int) + 1)), (0, tu_r 0), (1, tu_r 90), (2, tu_r 86), (3, tu_r 87), (4, tu_r 88), (5, tu_r 89), (6, tu_r 91), (7, tu_i (tu_sm (fun l => if 2 ≤ tu_ti (M 7) ((l : Nat) : Int) (M 1 7).toNat then 1 else 0) l9 + bx)), (8, tu_i ((l9 : Nat) : Int)), (9, tu_i bs), (10, tu_i ls), (11, tu_i (tu_ti (M 7) ((l9 : Nat) : Int) (M 1 7).toNat)), (13, tu_i ((k8 : Nat) : Int))]) 12 dL_same_251 rfl (by rw [hnl]; decide) rfl ?_
                                    refine tu_goto 254 X 50 dL_same_254 (by decide) ?_
                                    refine tu_jmp [1, 2, 3, 4, 5, 6, 7, 8, 9, 10, 11, 12, 0] (lv' := [(0, tu_r 0), (1, tu_r 90), (2, tu_r 86), (3, tu_r 87), (4, tu_r 88), (5, tu_r 89), (6, tu_r 91), (7, tu_i (tu_sm (fun l => if 2 ≤ tu_ti (M 7) ((l : Nat) : Int) (M 1 7).toNat then 1 else 0) l9 + bx)), (8, tu_i ((l9 : Nat) : Int)), (9, tu_i bs), (10, tu_i ls), (11, tu_i (tu_ti (M 7) ((l9 : Nat) : Int) (M 1 7).toNat)), (12, tu_i (((p9 + 1) : Nat) : Int))]) ⟨rfl, rfl, rfl, rfl, rfl, rfl, rfl, rfl, rfl, rfl, rfl, rfl, tu_ei (by first | rfl | omega), trivial⟩ rfl (ih50 (p9 + 1) bs ls Md (by omega) (by first | exact tz_bs_hit hbs (show w_81 0 = tu_co (tu_cb M) l9 p9 from by omega) (show 0 ≤ tu_co (tu_cb M) l9 p9 ∧ tu_co (tu_cb M) l9 p9 < 1000000 from by omega) (show bs < 0 ∨ tu_co (tu_cb M) l9 p9 < ls from by omega) | exact tz_bs_miss hbs (show tu_co (tu_cb M) l9 p9 = 1000000 ∨ (0 ≤ bs ∧ ls ≤ tu_co (tu_cb M) l9 p9) from by omega)) (by exact hsc) (by omega))
                            ·
                              refine tu_aload_n 133 X 0 dL_same_133 rfl ?_
                              refine tu_iload 134 X 8 dL_same_134 rfl ?_
                              refine tu_iload 136 X 12 dL_same_136 rfl ?_
                              refine tu_iload 138 X 13 dL_same_138 rfl ?_
                              refine tu_iconst 140 X dL_same_140 ?_
                              refine tu_callVI 141 X (st := []) (as := [tu_i ((l9 : Nat) : Int), tu_i ((p9 : Nat) : Int), tu_i ((k8 : Nat) : Int), tu_i 0]) (c_X3_lies ((l9 : Nat) : Int) ((p9 : Nat) : Int) ((k8 : Nat) : Int) 0 (show tu_OK Md from by exact tz_OK hsc hR.ok) (show tu_rg ((l9 : Nat) : Int) from by first | assumption | omega | exact ⟨by omega, by omega⟩ | decide) (show tu_rg ((p9 : Nat) : Int) from by first | assumption | omega | exact ⟨by omega, by omega⟩ | decide) (show tu_rg ((k8 : Nat) : Int) from by first | assumption | omega | exact ⟨by omega, by omega⟩ | decide) (show tu_rg 0 from by first | assumption | omega | exact ⟨by omega, by omega⟩ | decide)) sv_RL_26 dL_same_141 rfl (by decide) rfl rfl rfl (Nat.le_of_ble_eq_true rfl) ⟨by decide, by decide⟩ (fun z N141 h => ?_)
                              obtain ⟨y_141, h141_0, h141_1, hz141⟩ := h
                              refine tu_tp (b := y_141) hz141 ?_
                              have a141 := tz_q_lies hsc h141_1
                              simp only [Int.toNat_natCast] at a141
                              have b141 : (w_81 0 = -6 ∧ y_141 = -6) ∨ (0 ≤ w_81 0 ∧ ∃ F : Nat, F < 2147483648 ∧ w_81 (8 + k8) = ((F : Nat) : Int) ∧ y_141 = ((F / 8 : Nat) : Int)) := by
                                rcases a141 with q | q | q
                                · omega
                                · omega
                                · rcases tz_lie (w := w_81) hok hW (by omega) q.2 with q | ⟨q, F, f1, f2, f3⟩
                                  · exact Or.inl q
                                  · exact Or.inr ⟨q, F, f1, f2, by omega⟩
                              have hw9 : N141 91 = w_81 := (h141_0 91 (by decide)).trans hw9
                              have hsc : tz_sc M N141 := hsc.sc h141_0
                              refine tu_aload 144 X 6 dL_same_144 rfl ?_
                              refine tu_iconst 146 X dL_same_146 ?_
                              refine tu_iald 147 X (x := N141 91 0) 0 dL_same_147 (by decide) rfl (by decide) rfl (by decide) rfl ?_
                              refine tu_tp (b := (w_81 0)) (by rw [hw9]) ?_
                              refine tu_if_ge 148 X 156 dL_same_148 (by decide) (show tu_rg (w_81 0) from by first | assumption | exact ⟨by omega, by omega⟩) (fun br148 => ?_) (fun br148 => ?_)
                              ·
                                obtain ⟨q0, F9, f1, f2, f3⟩ := b141.resolve_left (fun q => by omega)
                                refine tu_aload 156 X 6 dL_same_156 rfl ?_
                                refine tu_bipush 158 X dL_same_158 (by decide) ?_
                                refine tu_iload 160 X 13 dL_same_160 rfl ?_
                                refine tu_iadd 162 X dL_same_162 ?_
                                refine tu_iald 163 X (x := N141 91 (8 + k8)) (8 + k8) dL_same_163 (by decide) rfl (by decide) (by omega) (by omega) rfl ?_
                                refine tu_tp (b := (w_81 (8 + k8))) (by rw [hw9]) ?_
                                refine tu_tp (b := ((F9 : Nat) : Int)) (by exact f2) ?_
                                refine tu_bipush 164 X dL_same_164 (by decide) ?_
                                refine tu_idiv 166 X dL_same_166 ⟨by decide, by decide⟩ (by decide) ?_
                                refine tu_tp (b := ((F9 / 8 : Nat) : Int)) (by exact tu_div_n f1 (by decide) (by decide)) ?_
                                refine tu_icmp_ne 167 X 209 dL_same_167 (by decide) (show tu_rg y_141 from by first | assumption | exact ⟨by omega, by omega⟩) (show tu_rg ((F9 / 8 : Nat) : Int) from by first | assumption | exact ⟨by omega, by omega⟩) (fun br167 => ?_) (fun br167 => ?_)
                                ·
                                  exfalso; omega
                                ·
                                  refine tu_aload_n 170 X 0 dL_same_170 rfl ?_
                                  refine tu_iload 171 X 8 dL_same_171 rfl ?_
                                  refine tu_iload 173 X 12 dL_same_173 rfl ?_
                                  refine tu_iload 175 X 13 dL_same_175 rfl ?_
                                  refine tu_iconst 177 X dL_same_177 ?_
                                  refine tu_callVI 178 X (st := []) (as := [tu_i ((l9 : Nat) : Int), tu_i ((p9 : Nat) : Int), tu_i ((k8 : Nat) : Int), tu_i 1]) (c_X3_lies ((l9 : Nat) : Int) ((p9 : Nat) : Int) ((k8 : Nat) : Int) 1 (show tu_OK N141 from by exact tz_OK hsc hR.ok) (show tu_rg ((l9 : Nat) : Int) from by first | assumption | omega | exact ⟨by omega, by omega⟩ | decide) (show tu_rg ((p9 : Nat) : Int) from by first | assumption | omega | exact ⟨by omega, by omega⟩ | decide) (show tu_rg ((k8 : Nat) : Int) from by first | assumption | omega | exact ⟨by omega, by omega⟩ | decide) (show tu_rg 1 from by first | assumption | omega | exact ⟨by omega, by omega⟩ | decide)) sv_RL_26 dL_same_178 rfl (by decide) rfl rfl rfl (Nat.le_of_ble_eq_true rfl) ⟨by decide, by decide⟩ (fun z N178 h => ?_)
                                  obtain ⟨y_178, h178_0, h178_1, hz178⟩ := h
                                  refine tu_tp (b := y_178) hz178 ?_
                                  have a178 := tz_q_lies hsc h178_1
                                  simp only [Int.toNat_natCast] at a178
                                  have b178 : (w_81 0 = -6 ∧ y_178 = -6) ∨ (0 ≤ w_81 0 ∧ ∃ F : Nat, F < 2147483648 ∧ w_81 (8 + k8) = ((F : Nat) : Int) ∧ y_178 = ((F % 8 + 1 : Nat) : Int)) := by
                                    rcases a178 with q | q | q
                                    · omega
                                    · omega
                                    · rcases tz_lie (w := w_81) hok hW (by omega) q.2 with q | ⟨q, F, f1, f2, f3⟩
                                      · exact Or.inl q
                                      · exact Or.inr ⟨q, F, f1, f2, by omega⟩
                                  have hw9 : N178 91 = w_81 := (h178_0 91 (by decide)).trans hw9
                                  have hsc : tz_sc M N178 := hsc.sc h178_0
                                  refine tu_aload 181 X 6 dL_same_181 rfl ?_
                                  refine tu_iconst 183 X dL_same_183 ?_
                                  refine tu_iald 184 X (x := N178 91 0) 0 dL_same_184 (by decide) rfl (by decide) rfl (by decide) rfl ?_
                                  refine tu_tp (b := (w_81 0)) (by rw [hw9]) ?_
                                  refine tu_if_ge 185 X 193 dL_same_185 (by decide) (show tu_rg (w_81 0) from by first | assumption | exact ⟨by omega, by omega⟩) (fun br185 => ?_) (fun br185 => ?_)
                                  ·
                                    obtain ⟨q0, F8, g1, g2, g3⟩ := b178.resolve_left (fun q => by omega)
                                    refine tu_aload 193 X 6 dL_same_193 rfl ?_
                                    refine tu_bipush 195 X dL_same_195 (by decide) ?_
                                    refine tu_iload 197 X 13 dL_same_197 rfl ?_
                                    refine tu_iadd 199 X dL_same_199 ?_
                                    refine tu_iald 200 X (x := N178 91 (8 + k8)) (8 + k8) dL_same_200 (by decide) rfl (by decide) (by omega) (by omega) rfl ?_
                                    refine tu_tp (b := (w_81 (8 + k8))) (by rw [hw9]) ?_
                                    refine tu_tp (b := ((F8 : Nat) : Int)) (by exact g2) ?_
                                    refine tu_bipush 201 X dL_same_201 (by decide) ?_
                                    refine tu_irem 203 X dL_same_203 ⟨by decide, by decide⟩ (by decide) ?_
                                    refine tu_tp (b := ((F8 % 8 : Nat) : Int)) (by exact tu_rem_n g1 (by decide) (by decide)) ?_
                                    refine tu_iconst 204 X dL_same_204 ?_
                                    refine tu_iadd 205 X dL_same_205 ?_
                                    refine tu_icmp_eq 206 X 211 dL_same_206 (by decide) (show tu_rg y_178 from by first | assumption | exact ⟨by omega, by omega⟩) (show tu_rg (((F8 % 8 : Nat) : Int) + 1) from by first | assumption | exact ⟨by omega, by omega⟩) (fun br206 => ?_) (fun br206 => ?_)
                                    ·
                                      refine tu_iinc 211 X (lv' := [(13, tu_i (((k8 : Nat) : Int) + 1)), (0, tu_r 0), (1, tu_r 90), (2, tu_r 86), (3, tu_r 87), (4, tu_r 88), (5, tu_r 89), (6, tu_r 91), (7, tu_i (tu_sm (fun l => if 2 ≤ tu_ti (M 7) ((l : Nat) : Int) (M 1 7).toNat then 1 else 0) l9 + bx)), (8, tu_i ((l9 : Nat) : Int)), (9, tu_i bs), (10, tu_i ls), (11, tu_i (tu_ti (M 7) ((l9 : Nat) : Int) (M 1 7).toNat)), (12, tu_i ((p9 : Nat) : Int))]) 13 dL_same_211 rfl (by rw [hnl]; decide) rfl ?_
                                      refine tu_goto 214 X 122 dL_same_214 (by decide) ?_
                                      refine tu_jmp [1, 2, 3, 4, 5, 6, 7, 8, 9, 10, 11, 12, 13, 0] (lv' := [(0, tu_r 0), (1, tu_r 90), (2, tu_r 86), (3, tu_r 87), (4, tu_r 88), (5, tu_r 89), (6, tu_r 91), (7, tu_i (tu_sm (fun l => if 2 ≤ tu_ti (M 7) ((l : Nat) : Int) (M 1 7).toNat then 1 else 0) l9 + bx)), (8, tu_i ((l9 : Nat) : Int)), (9, tu_i bs), (10, tu_i ls), (11, tu_i (tu_ti (M 7) ((l9 : Nat) : Int) (M 1 7).toNat)), (12, tu_i ((p9 : Nat) : Int)), (13, tu_i (((k8 + 1) : Nat) : Int))]) ⟨rfl, rfl, rfl, rfl, rfl, rfl, rfl, rfl, rfl, rfl, rfl, rfl, rfl, tu_ei (by first | rfl | omega), trivial⟩ rfl (ih122 (k8 + 1) N178 (by omega) (by exact hw9) (by exact hsc) (by omega))
                                    ·
                                      exfalso; omega
                                  ·
                                    exfalso; omega
                              ·
                                have y1 : y_141 = -6 := by
                                  rcases b141 with q | ⟨q, -⟩
                                  · exact q.2
                                  · omega
                                refine tu_bipush 151 X dL_same_151 (by decide) ?_
                                refine tu_goto 153 X 167 dL_same_153 (by decide) ?_
                                refine tu_icmp_ne 167 X 209 dL_same_167 (by decide) (show tu_rg y_141 from by first | assumption | exact ⟨by omega, by omega⟩) ⟨by decide, by decide⟩ (fun br167 => ?_) (fun br167 => ?_)
                                ·
                                  exfalso; omega
                                ·
                                  refine tu_aload_n 170 X 0 dL_same_170 rfl ?_
                                  refine tu_iload 171 X 8 dL_same_171 rfl ?_
                                  refine tu_iload 173 X 12 dL_same_173 rfl ?_
                                  refine tu_iload 175 X 13 dL_same_175 rfl ?_
                                  refine tu_iconst 177 X dL_same_177 ?_
                                  refine tu_callVI 178 X (st := []) (as := [tu_i ((l9 : Nat) : Int), tu_i ((p9 : Nat) : Int), tu_i ((k8 : Nat) : Int), tu_i 1]) (c_X3_lies ((l9 : Nat) : Int) ((p9 : Nat) : Int) ((k8 : Nat) : Int) 1 (show tu_OK N141 from by exact tz_OK hsc hR.ok) (show tu_rg ((l9 : Nat) : Int) from by first | assumption | omega | exact ⟨by omega, by omega⟩ | decide) (show tu_rg ((p9 : Nat) : Int) from by first | assumption | omega | exact ⟨by omega, by omega⟩ | decide) (show tu_rg ((k8 : Nat) : Int) from by first | assumption | omega | exact ⟨by omega, by omega⟩ | decide) (show tu_rg 1 from by first | assumption | omega | exact ⟨by omega, by omega⟩ | decide)) sv_RL_26 dL_same_178 rfl (by decide) rfl rfl rfl (Nat.le_of_ble_eq_true rfl) ⟨by decide, by decide⟩ (fun z N178 h => ?_)
                                  obtain ⟨y_178, h178_0, h178_1, hz178⟩ := h
                                  refine tu_tp (b := y_178) hz178 ?_
                                  have a178 := tz_q_lies hsc h178_1
                                  simp only [Int.toNat_natCast] at a178
                                  have b178 : (w_81 0 = -6 ∧ y_178 = -6) ∨ (0 ≤ w_81 0 ∧ ∃ F : Nat, F < 2147483648 ∧ w_81 (8 + k8) = ((F : Nat) : Int) ∧ y_178 = ((F % 8 + 1 : Nat) : Int)) := by
                                    rcases a178 with q | q | q
                                    · omega
                                    · omega
                                    · rcases tz_lie (w := w_81) hok hW (by omega) q.2 with q | ⟨q, F, f1, f2, f3⟩
                                      · exact Or.inl q
                                      · exact Or.inr ⟨q, F, f1, f2, by omega⟩
                                  have hw9 : N178 91 = w_81 := (h178_0 91 (by decide)).trans hw9
                                  have hsc : tz_sc M N178 := hsc.sc h178_0
                                  refine tu_aload 181 X 6 dL_same_181 rfl ?_
                                  refine tu_iconst 183 X dL_same_183 ?_
                                  refine tu_iald 184 X (x := N178 91 0) 0 dL_same_184 (by decide) rfl (by decide) rfl (by decide) rfl ?_
                                  refine tu_tp (b := (w_81 0)) (by rw [hw9]) ?_
                                  refine tu_if_ge 185 X 193 dL_same_185 (by decide) (show tu_rg (w_81 0) from by first | assumption | exact ⟨by omega, by omega⟩) (fun br185 => ?_) (fun br185 => ?_)
                                  ·
                                    exfalso; omega
                                  ·
                                    have y2 : y_178 = -6 := by
                                      rcases b178 with q | ⟨q, -⟩
                                      · exact q.2
                                      · omega
                                    refine tu_bipush 188 X dL_same_188 (by decide) ?_
                                    refine tu_goto 190 X 206 dL_same_190 (by decide) ?_
                                    refine tu_icmp_eq 206 X 211 dL_same_206 (by decide) (show tu_rg y_178 from by first | assumption | exact ⟨by omega, by omega⟩) ⟨by decide, by decide⟩ (fun br206 => ?_) (fun br206 => ?_)
                                    ·
                                      refine tu_iinc 211 X (lv' := [(13, tu_i (((k8 : Nat) : Int) + 1)), (0, tu_r 0), (1, tu_r 90), (2, tu_r 86), (3, tu_r 87), (4, tu_r 88), (5, tu_r 89), (6, tu_r 91), (7, tu_i (tu_sm (fun l => if 2 ≤ tu_ti (M 7) ((l : Nat) : Int) (M 1 7).toNat then 1 else 0) l9 + bx)), (8, tu_i ((l9 : Nat) : Int)), (9, tu_i bs), (10, tu_i ls), (11, tu_i (tu_ti (M 7) ((l9 : Nat) : Int) (M 1 7).toNat)), (12, tu_i ((p9 : Nat) : Int))]) 13 dL_same_211 rfl (by rw [hnl]; decide) rfl ?_
                                      refine tu_goto 214 X 122 dL_same_214 (by decide) ?_
                                      refine tu_jmp [1, 2, 3, 4, 5, 6, 7, 8, 9, 10, 11, 12, 13, 0] (lv' := [(0, tu_r 0), (1, tu_r 90), (2, tu_r 86), (3, tu_r 87), (4, tu_r 88), (5, tu_r 89), (6, tu_r 91), (7, tu_i (tu_sm (fun l => if 2 ≤ tu_ti (M 7) ((l : Nat) : Int) (M 1 7).toNat then 1 else 0) l9 + bx)), (8, tu_i ((l9 : Nat) : Int)), (9, tu_i bs), (10, tu_i ls), (11, tu_i (tu_ti (M 7) ((l9 : Nat) : Int) (M 1 7).toNat)), (12, tu_i ((p9 : Nat) : Int)), (13, tu_i (((k8 + 1) : Nat) : Int))]) ⟨rfl, rfl, rfl, rfl, rfl, rfl, rfl, rfl, rfl, rfl, rfl, rfl, rfl, tu_ei (by first | rfl | omega), trivial⟩ rfl (ih122 (k8 + 1) N178 (by omega) (by exact hw9) (by exact hsc) (by omega))
                                    ·
                                      exfalso; omega
                        refine tu_jmp [1, 2, 3, 4, 5, 6, 7, 8, 9, 10, 11, 12, 13, 0] (lv' := [(0, tu_r 0), (1, tu_r 90), (2, tu_r 86), (3, tu_r 87), (4, tu_r 88), (5, tu_r 89), (6, tu_r 91), (7, tu_i (tu_sm (fun l => if 2 ≤ tu_ti (M 7) ((l : Nat) : Int) (M 1 7).toNat then 1 else 0) l9 + bx)), (8, tu_i ((l9 : Nat) : Int)), (9, tu_i bs), (10, tu_i ls), (11, tu_i (tu_ti (M 7) ((l9 : Nat) : Int) (M 1 7).toNat)), (12, tu_i ((p9 : Nat) : Int)), (13, tu_i 0)]) ⟨rfl, rfl, rfl, rfl, rfl, rfl, rfl, rfl, rfl, rfl, rfl, rfl, rfl, rfl, trivial⟩ rfl (lp122 (((tu_nl (tu_cb M) l9) - 0) + 1) 0 Mc (by omega) (by exact hw9) (by exact hsc) (by omega))
                      ·
                        have hr9 := hW.rg hok k9 (by omega)
                        refine tu_aload_n 93 X 0 dL_same_93 rfl ?_
                        refine tu_iload 94 X 8 dL_same_94 rfl ?_
                        refine tu_iload 96 X 12 dL_same_96 rfl ?_
                        refine tu_iload 98 X 13 dL_same_98 rfl ?_
                        refine tu_callVI 100 X (st := []) (as := [tu_i ((l9 : Nat) : Int), tu_i ((p9 : Nat) : Int), tu_i ((k9 : Nat) : Int)]) (c_X3_fit ((l9 : Nat) : Int) ((p9 : Nat) : Int) ((k9 : Nat) : Int) (show tu_OK Mc from by exact tz_OK hsc hR.ok) (show tu_rg ((l9 : Nat) : Int) from by first | assumption | omega | exact ⟨by omega, by omega⟩ | decide) (show tu_rg ((p9 : Nat) : Int) from by first | assumption | omega | exact ⟨by omega, by omega⟩ | decide) (show tu_rg ((k9 : Nat) : Int) from by first | assumption | omega | exact ⟨by omega, by omega⟩ | decide)) sv_RL_20 dL_same_100 rfl (by decide) rfl rfl rfl (Nat.le_of_ble_eq_true rfl) ⟨by decide, by decide⟩ (fun z N100 h => ?_)
                        obtain ⟨y_100, h100_0, h100_1, hz100⟩ := h
                        refine tu_tp (b := y_100) hz100 ?_
                        have a100 := tz_q_fit hsc h100_1
                        simp only [Int.toNat_natCast] at a100
                        have b100 : y_100 = w_81 k9 := by
                          rcases a100 with q | q | q
                          · omega
                          · omega
                          · exact tz_fit (w := w_81) hok hW (by omega) q.2
                        have hw9 : N100 91 = w_81 := (h100_0 91 (by decide)).trans hw9
                        have hsc : tz_sc M N100 := hsc.sc h100_0
                        refine tu_aload 103 X 6 dL_same_103 rfl ?_
                        refine tu_iload 105 X 13 dL_same_105 rfl ?_
                        refine tu_iald 107 X (x := N100 91 k9) k9 dL_same_107 (by decide) rfl (by decide) (by omega) (by omega) rfl ?_
                        refine tu_tp (b := (w_81 k9)) (by rw [hw9]) ?_
                        refine tu_icmp_eq 108 X 113 dL_same_108 (by decide) (show tu_rg y_100 from by first | assumption | exact ⟨by omega, by omega⟩) (show tu_rg (w_81 k9) from by first | assumption | exact ⟨by omega, by omega⟩) (fun br108 => ?_) (fun br108 => ?_)
                        ·
                          refine tu_iinc 113 X (lv' := [(13, tu_i (((k9 : Nat) : Int) + 1)), (0, tu_r 0), (1, tu_r 90), (2, tu_r 86), (3, tu_r 87), (4, tu_r 88), (5, tu_r 89), (6, tu_r 91), (7, tu_i (tu_sm (fun l => if 2 ≤ tu_ti (M 7) ((l : Nat) : Int) (M 1 7).toNat then 1 else 0) l9 + bx)), (8, tu_i ((l9 : Nat) : Int)), (9, tu_i bs), (10, tu_i ls), (11, tu_i (tu_ti (M 7) ((l9 : Nat) : Int) (M 1 7).toNat)), (12, tu_i ((p9 : Nat) : Int))]) 13 dL_same_113 rfl (by rw [hnl]; decide) rfl ?_
                          refine tu_goto 116 X 87 dL_same_116 (by decide) ?_
                          refine tu_jmp [1, 2, 3, 4, 5, 6, 7, 8, 9, 10, 11, 12, 13, 0] (lv' := [(0, tu_r 0), (1, tu_r 90), (2, tu_r 86), (3, tu_r 87), (4, tu_r 88), (5, tu_r 89), (6, tu_r 91), (7, tu_i (tu_sm (fun l => if 2 ≤ tu_ti (M 7) ((l : Nat) : Int) (M 1 7).toNat then 1 else 0) l9 + bx)), (8, tu_i ((l9 : Nat) : Int)), (9, tu_i bs), (10, tu_i ls), (11, tu_i (tu_ti (M 7) ((l9 : Nat) : Int) (M 1 7).toNat)), (12, tu_i ((p9 : Nat) : Int)), (13, tu_i (((k9 + 1) : Nat) : Int))]) ⟨rfl, rfl, rfl, rfl, rfl, rfl, rfl, rfl, rfl, rfl, rfl, rfl, rfl, tu_ei (by first | rfl | omega), trivial⟩ rfl (ih87 (k9 + 1) N100 (by omega) (by exact hw9) (by exact hsc) (by omega))
                        ·
                          exfalso; omega
                  refine tu_jmp [1, 2, 3, 4, 5, 6, 7, 8, 9, 10, 11, 12, 13, 0] (lv' := [(0, tu_r 0), (1, tu_r 90), (2, tu_r 86), (3, tu_r 87), (4, tu_r 88), (5, tu_r 89), (6, tu_r 91), (7, tu_i (tu_sm (fun l => if 2 ≤ tu_ti (M 7) ((l : Nat) : Int) (M 1 7).toNat then 1 else 0) l9 + bx)), (8, tu_i ((l9 : Nat) : Int)), (9, tu_i bs), (10, tu_i ls), (11, tu_i (tu_ti (M 7) ((l9 : Nat) : Int) (M 1 7).toNat)), (12, tu_i ((p9 : Nat) : Int)), (13, tu_i 0)]) ⟨rfl, rfl, rfl, rfl, rfl, rfl, rfl, rfl, rfl, rfl, rfl, rfl, rfl, rfl, trivial⟩ rfl (lp87 ((5 - 0) + 1) 0 Mw (by omega) (by exact hw9) (by exact hsc) (by omega))
            refine tu_jmp [2, 3, 4, 5, 6, 7, 8, 1, 9, 10, 11, 12, 0] (lv' := [(0, tu_r 0), (1, tu_r 90), (2, tu_r 86), (3, tu_r 87), (4, tu_r 88), (5, tu_r 89), (6, tu_r 91), (7, tu_i (tu_sm (fun l => if 2 ≤ tu_ti (M 7) ((l : Nat) : Int) (M 1 7).toNat then 1 else 0) l9 + bx)), (8, tu_i ((l9 : Nat) : Int)), (9, tu_i (-6)), (10, tu_i 0), (11, tu_i (tu_ti (M 7) ((l9 : Nat) : Int) (M 1 7).toNat)), (12, tu_i 0)]) ⟨rfl, rfl, rfl, rfl, rfl, rfl, rfl, rfl, rfl, rfl, rfl, rfl, rfl, trivial⟩ rfl (lp50 ((NP - 0) + 1) 0 (-6) 0 Ma (by omega) (by exact tz_bs_0 _ _) (by exact hsc) (by omega))
        refine tu_iload 31 X 10 dL_same_31 rfl ?_
        refine tu_iload 33 X 0 dL_same_33 rfl ?_
        refine tu_iconst 35 X dL_same_35 ?_
        refine tu_icmp_le 36 X 43 dL_same_36 (by decide) (show tu_rg (tu_ti (M 7) ((l9 : Nat) : Int) (M 1 7).toNat) from by first | assumption | exact ⟨by omega, by omega⟩) ⟨by decide, by decide⟩ (fun br36 => ?_) (fun br36 => ?_)
        ·
          refine tu_iconst 43 X dL_same_43 ?_
          refine tu_jmp [3, 4, 5, 6, 7, 8, 9, 10, 11, 2, 1, 0] (lv' := [(0, tu_r 0), (1, tu_r 90), (2, tu_r 86), (3, tu_r 87), (4, tu_r 88), (5, tu_r 89), (6, tu_r 91), (7, tu_i (tu_sm (fun l => if 2 ≤ tu_ti (M 7) ((l : Nat) : Int) (M 1 7).toNat then 1 else 0) l9)), (8, tu_i ((l9 : Nat) : Int)), (9, tu_i (-6)), (10, tu_i 0), (11, tu_i (tu_ti (M 7) ((l9 : Nat) : Int) (M 1 7).toNat))]) ⟨rfl, rfl, rfl, rfl, rfl, rfl, rfl, rfl, rfl, rfl, rfl, rfl, trivial⟩ rfl (lp44 0 (by first | (rw [if_pos (by omega)]; done) | (rw [if_neg (by omega)]; done)))
        ·
          refine tu_iconst 39 X dL_same_39 ?_
          refine tu_goto 40 X 44 dL_same_40 (by decide) ?_
          refine tu_jmp [3, 4, 5, 6, 7, 8, 9, 10, 11, 2, 1, 0] (lv' := [(0, tu_r 0), (1, tu_r 90), (2, tu_r 86), (3, tu_r 87), (4, tu_r 88), (5, tu_r 89), (6, tu_r 91), (7, tu_i (tu_sm (fun l => if 2 ≤ tu_ti (M 7) ((l : Nat) : Int) (M 1 7).toNat then 1 else 0) l9)), (8, tu_i ((l9 : Nat) : Int)), (9, tu_i (-6)), (10, tu_i 0), (11, tu_i (tu_ti (M 7) ((l9 : Nat) : Int) (M 1 7).toNat))]) ⟨rfl, rfl, rfl, rfl, rfl, rfl, rfl, rfl, rfl, rfl, rfl, rfl, trivial⟩ rfl (lp44 1 (by first | (rw [if_pos (by omega)]; done) | (rw [if_neg (by omega)]; done)))
  refine tu_jmp [2, 3, 4, 5, 6, 7, 8, 1, 0] (lv' := [(0, tu_r 0), (1, tu_r 90), (2, tu_r 86), (3, tu_r 87), (4, tu_r 88), (5, tu_r 89), (6, tu_r 91), (7, tu_i (tu_sm (fun l => if 2 ≤ tu_ti (M 7) ((l : Nat) : Int) (M 1 7).toNat then 1 else 0) 0)), (8, tu_i 0)]) ⟨rfl, rfl, rfl, rfl, rfl, rfl, rfl, tu_ei (by first | rfl | (rw [hbx]; rfl)), rfl, trivial⟩ rfl (lp6 ((NL - 0) + 1) 0 M (by omega) (by exact hsc) (by omega))
