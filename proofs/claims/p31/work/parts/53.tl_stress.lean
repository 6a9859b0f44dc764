set_option maxRecDepth 20000 in
set_option maxHeartbeats 1000000 in
theorem tl_stress {T : tu_T} (X : tu_X T cL_law RL 9 344) (hnl : T.2.2.2.2.2.2.2.2.2.2.1 = 18) {M : tu_M} (hJ : tz_J M) {i8 : Nat} {y8 : Int} {l9 : Nat} (hl : (l9 : Int) < M 1 1) (lp1576 : ∀ (Mz : tu_M), (tz_J Mz) → tu_W T 1576 [(0, tu_r 100), (1, tu_r 0), (2, tu_r 86), (3, tu_r 87), (4, tu_r 88), (5, tu_r 89), (6, tu_r 90), (7, tu_r 91), (8, tu_i ((i8 : Nat) : Int)), (10, tu_i y8)] [] Mz) : tu_W T 825 [(0, tu_r 100), (1, tu_r 0), (2, tu_r 86), (3, tu_r 87), (4, tu_r 88), (5, tu_r 89), (6, tu_r 90), (7, tu_r 91), (8, tu_i ((i8 : Nat) : Int)), (10, tu_i y8), (12, tu_i ((l9 : Nat) : Int))] [] M := by
  have hR := hJ.1
  have hB := hR.ok
  have cn := hB.cnt
  have hsm := hR.small
  have q4 := hR.q4
  have hqs := hR.qs
  obtain ⟨NL, eL⟩ : ∃ c : Nat, M 1 1 = (c : Int) := ⟨(M 1 1).toNat, by omega⟩
  obtain ⟨NP, eP⟩ : ∃ c : Nat, M 1 4 = (c : Int) := ⟨(M 1 4).toNat, by omega⟩
  obtain ⟨NB, eB⟩ : ∃ c : Nat, M 1 7 = (c : Int) := ⟨(M 1 7).toNat, by omega⟩
  obtain ⟨NT, eT⟩ : ∃ c : Nat, M 1 9 = (c : Int) := ⟨(M 1 9).toNat, by omega⟩
  have hsl := hB.syl l9 hl
  have hli := hR.li l9 hl
  refine tu_iload 825 X 9 dL_law_825 rfl ?_
  refine tu_aload_n 827 X 2 dL_law_827 rfl ?_
  refine tu_iconst 828 X dL_law_828 ?_
  refine tu_iload 829 X 10 dL_law_829 rfl ?_
  refine tu_imul 831 X dL_law_831 ?_
  refine tu_iald 832 X (x := M 86 (2 * l9)) (2 * l9) dL_law_832 (by decide) rfl (by decide) (by omega) (by omega) rfl ?_
  refine tu_tp (b := (((M 3 l9).toNat : Nat) : Int)) (by rw [hli.2.1]; omega) ?_
  refine tu_st_eq (show _ = [tu_i ((((M 3 l9).toNat) : Nat) : Int), tu_i y8] from by first | rfl | (simp only [List.cons.injEq, Sum.inl.injEq, and_true, true_and]; omega)) rfl ?_
  refine tu_callSI 833 X (st := []) (as := [tu_i y8, tu_i ((((M 3 l9).toNat) : Nat) : Int)]) (c_L_low y8 ((M 3 l9).toNat) (show 0 < ((M 3 l9).toNat) ∧ ((M 3 l9).toNat) < 2147483648 from by first | assumption | omega | exact ⟨by omega, by omega⟩ | decide)) ss_RL_61 dL_law_833 rfl (Nat.le_of_ble_eq_true rfl) ⟨by decide, by decide⟩ (fun z M' h => ?_)
  obtain ⟨j_833, hM833, h833_0, hz833⟩ := h
  refine tu_st_eq rfl (M' := M) hM833 ?_
  refine tu_tp (b := ((j_833 : Nat) : Int)) hz833 ?_
  refine tu_istore 836 X (lv' := [(14, tu_i ((j_833 : Nat) : Int)), (0, tu_r 100), (1, tu_r 0), (2, tu_r 86), (3, tu_r 87), (4, tu_r 88), (5, tu_r 89), (6, tu_r 90), (7, tu_r 91), (8, tu_i ((i8 : Nat) : Int)), (10, tu_i y8), (12, tu_i ((l9 : Nat) : Int))]) dL_law_836 (by rw [hnl]; decide) rfl ?_
  refine tu_iload 838 X 10 dL_law_838 rfl ?_
  refine tu_iconst 840 X dL_law_840 ?_
  refine tu_ishr 841 X dL_law_841 ?_
  refine tu_iconst 842 X dL_law_842 ?_
  refine tu_st_eq (show _ = [tu_i ((2 : Nat) : Int), tu_i (tu_shr y8 4)] from by first | rfl | (simp only [List.cons.injEq, Sum.inl.injEq, and_true, true_and]; omega)) rfl ?_
  refine tu_callSI 843 X (st := []) (as := [tu_i (tu_shr y8 4), tu_i ((2 : Nat) : Int)]) (c_L_low (tu_shr y8 4) 2 (show 0 < 2 ∧ 2 < 2147483648 from by first | assumption | omega | exact ⟨by omega, by omega⟩ | decide)) ss_RL_61 dL_law_843 rfl (Nat.le_of_ble_eq_true rfl) ⟨by decide, by decide⟩ (fun z M' h => ?_)
  obtain ⟨j_843, hM843, h843_0, hz843⟩ := h
  refine tu_st_eq rfl (M' := M) hM843 ?_
  refine tu_tp (b := ((j_843 : Nat) : Int)) hz843 ?_
  refine tu_if_ne 846 X 853 dL_law_846 (by decide) (show tu_rg ((j_843 : Nat) : Int) from by first | assumption | exact ⟨by omega, by omega⟩) (fun br846 => ?_) (fun br846 => ?_)
  ·
    refine tu_iconst 853 X dL_law_853 ?_
    refine tu_istore 854 X (lv' := [(15, tu_i 0), (14, tu_i ((j_833 : Nat) : Int)), (0, tu_r 100), (1, tu_r 0), (2, tu_r 86), (3, tu_r 87), (4, tu_r 88), (5, tu_r 89), (6, tu_r 90), (7, tu_r 91), (8, tu_i ((i8 : Nat) : Int)), (10, tu_i y8), (12, tu_i ((l9 : Nat) : Int))]) dL_law_854 (by rw [hnl]; decide) rfl ?_
    refine tu_aload_n 856 X 3 dL_law_856 rfl ?_
    refine tu_iload 857 X 12 dL_law_857 rfl ?_
    refine tu_iload 859 X 1 dL_law_859 rfl ?_
    refine tu_iload 861 X 0 dL_law_861 rfl ?_
    refine tu_callVI 863 X (st := []) (as := [tu_i ((l9 : Nat) : Int), tu_i ((j_833 : Nat) : Int), tu_i 0]) (c_X3_stress ((l9 : Nat) : Int) ((j_833 : Nat) : Int) 0 (show tu_OK M from by exact hB) (show tu_HS M from by exact hJ.2) (show tu_rg ((l9 : Nat) : Int) from by first | assumption | omega | exact ⟨by omega, by omega⟩ | decide) (show tu_rg ((j_833 : Nat) : Int) from by first | assumption | omega | exact ⟨by omega, by omega⟩ | decide) (show tu_rg 0 from by first | assumption | omega | exact ⟨by omega, by omega⟩ | decide) (show 0 = 0 ∨ 0 = 1 from by first | exact Or.inl rfl | exact Or.inr rfl)) sv_RL_106 dL_law_863 rfl (by decide) rfl rfl rfl (Nat.le_of_ble_eq_true rfl) ⟨by decide, by decide⟩ (fun z N863 h => ?_)
    obtain ⟨y_863, h863_0, hz863⟩ := h
    refine tu_tp (b := y_863) hz863 ?_
    have hsy : ((j_833 : Nat) : Int) < M 3 l9 := by omega
    have hz : (∀ X : Int, (∀ i, i < 32 → tu_bi X i = if i = j_833 ∧ (0 : Int) = 1 then 1 else 0) → True) := fun _ _ => trivial
    have e8 : (y_863 = tu_bi (M 86 (2 * l9 + 1)) j_833) ∧ ∀ i, 86 ≤ i → N863 i = M i := by
      first
      | exact ⟨(tz_stress hJ hl hsy (Or.inr rfl) h863_0 (tz_hX1 (by omega) rfl)).1, (tz_stress hJ hl hsy (Or.inr rfl) h863_0 (tz_hX1 (by omega) rfl)).2.1⟩
      | exact ⟨(tz_stress hJ hl hsy (Or.inl rfl) h863_0 (tz_hX0 (by decide))).1, (tz_stress hJ hl hsy (Or.inl rfl) h863_0 (tz_hX0 (by decide))).2.1⟩
    obtain ⟨hy1, e8⟩ := e8
    have e86 := e8 86 (by decide)
    have b01 := tu_bi_01 (M 86 (2 * l9 + 1)) j_833
    refine tu_aload_n 866 X 4 dL_law_866 rfl ?_
    refine tu_iconst 867 X dL_law_867 ?_
    refine tu_iload 868 X 12 dL_law_868 rfl ?_
    refine tu_imul 870 X dL_law_870 ?_
    refine tu_iconst 871 X dL_law_871 ?_
    refine tu_iadd 872 X dL_law_872 ?_
    refine tu_iald 873 X (x := N863 86 ((2 * l9) + 1)) ((2 * l9) + 1) dL_law_873 (by decide) rfl (by decide) (by omega) (by omega) rfl ?_
    refine tu_tp (b := (M 86 (2 * l9 + 1))) (by rw [e86]) ?_
    refine tu_iload 874 X 1 dL_law_874 rfl ?_
    refine tu_ishr 876 X dL_law_876 ?_
    refine tu_iconst 877 X dL_law_877 ?_
    refine tu_iand 878 X dL_law_878 ?_
    refine tu_tp (b := (tu_bi (M 86 (2 * l9 + 1)) j_833)) (by exact tu_bit1 _ (by omega)) ?_
    refine tu_icmp_eq 879 X 884 dL_law_879 (by decide) (show tu_rg y_863 from by first | assumption | exact ⟨by omega, by omega⟩) (show tu_rg (tu_bi (M 86 (2 * l9 + 1)) j_833) from by first | assumption | exact ⟨by omega, by omega⟩) (fun br879 => ?_) (fun br879 => ?_)
    ·
      refine tu_aload_n 884 X 4 dL_law_884 rfl ?_
      refine tu_iconst 885 X dL_law_885 ?_
      refine tu_iload 886 X 12 dL_law_886 rfl ?_
      refine tu_imul 888 X dL_law_888 ?_
      refine tu_iconst 889 X dL_law_889 ?_
      refine tu_iadd 890 X dL_law_890 ?_
      refine tu_aload_n 891 X 4 dL_law_891 rfl ?_
      refine tu_iconst 892 X dL_law_892 ?_
      refine tu_iload 893 X 12 dL_law_893 rfl ?_
      refine tu_imul 895 X dL_law_895 ?_
      refine tu_iconst 896 X dL_law_896 ?_
      refine tu_iadd 897 X dL_law_897 ?_
      refine tu_iald 898 X (x := N863 86 ((2 * l9) + 1)) ((2 * l9) + 1) dL_law_898 (by decide) rfl (by decide) (by omega) (by omega) rfl ?_
      refine tu_tp (b := (M 86 (2 * l9 + 1))) (by rw [e86]) ?_
      refine tu_iconst 899 X dL_law_899 ?_
      refine tu_iload 900 X 1 dL_law_900 rfl ?_
      refine tu_ishl 902 X dL_law_902 ?_
      refine tu_iconst 903 X dL_law_903 ?_
      refine tu_ixor 904 X dL_law_904 ?_
      refine tu_iand 905 X dL_law_905 ?_
      refine tu_iload 906 X 0 dL_law_906 rfl ?_
      refine tu_if_eq 908 X 918 dL_law_908 (by decide) ⟨by decide, by decide⟩ (fun br908 => ?_) (fun br908 => ?_)
      ·
        refine tu_iconst 918 X dL_law_918 ?_
        refine tu_ior 919 X dL_law_919 ?_
        refine tu_iast 920 X (M' := tu_row N863 86 (tu_u (N863 86) ((2 * l9) + 1) (tu_or (tu_and (M 86 (2 * l9 + 1)) (tu_xor (tu_shl 1 ((j_833 : Nat) : Int)) (-1))) 0))) ((2 * l9) + 1) dL_law_920 (by decide) rfl (by decide) (by omega) (by omega) rfl ?_
        refine tu_goto 921 X 1576 dL_law_921 (by decide) ?_
        refine tu_jmp [2, 3, 4, 5, 6, 7, 8, 9, 10, 11] (lv' := [(0, tu_r 100), (1, tu_r 0), (2, tu_r 86), (3, tu_r 87), (4, tu_r 88), (5, tu_r 89), (6, tu_r 90), (7, tu_r 91), (8, tu_i ((i8 : Nat) : Int)), (10, tu_i y8)]) ⟨rfl, rfl, rfl, rfl, rfl, rfl, rfl, rfl, rfl, rfl, trivial⟩ rfl (lp1576 (tu_row N863 86 (tu_u (N863 86) ((2 * l9) + 1) (tu_or (tu_and (M 86 (2 * l9 + 1)) (tu_xor (tu_shl 1 ((j_833 : Nat) : Int)) (-1))) 0))) (by first | (rw [e86]; exact (tz_stress hJ hl hsy (Or.inr rfl) h863_0 (tz_hX1 (by omega) rfl)).2.2) | (rw [e86]; exact (tz_stress hJ hl hsy (Or.inl rfl) h863_0 (tz_hX0 (by decide))).2.2)))
      ·
        exfalso; omega
    ·
      exfalso; omega
  ·
    refine tu_iconst 849 X dL_law_849 ?_
    refine tu_goto 850 X 854 dL_law_850 (by decide) ?_
    refine tu_istore 854 X (lv' := [(15, tu_i 1), (14, tu_i ((j_833 : Nat) : Int)), (0, tu_r 100), (1, tu_r 0), (2, tu_r 86), (3, tu_r 87), (4, tu_r 88), (5, tu_r 89), (6, tu_r 90), (7, tu_r 91), (8, tu_i ((i8 : Nat) : Int)), (10, tu_i y8), (12, tu_i ((l9 : Nat) : Int))]) dL_law_854 (by rw [hnl]; decide) rfl ?_
    refine tu_aload_n 856 X 3 dL_law_856 rfl ?_
    refine tu_iload 857 X 12 dL_law_857 rfl ?_
    refine tu_iload 859 X 1 dL_law_859 rfl ?_
    refine tu_iload 861 X 0 dL_law_861 rfl ?_
    refine tu_callVI 863 X (st := []) (as := [tu_i ((l9 : Nat) : Int), tu_i ((j_833 : Nat) : Int), tu_i 1]) (c_X3_stress ((l9 : Nat) : Int) ((j_833 : Nat) : Int) 1 (show tu_OK M from by exact hB) (show tu_HS M from by exact hJ.2) (show tu_rg ((l9 : Nat) : Int) from by first | assumption | omega | exact ⟨by omega, by omega⟩ | decide) (show tu_rg ((j_833 : Nat) : Int) from by first | assumption | omega | exact ⟨by omega, by omega⟩ | decide) (show tu_rg 1 from by first | assumption | omega | exact ⟨by omega, by omega⟩ | decide) (show 1 = 0 ∨ 1 = 1 from by first | exact Or.inl rfl | exact Or.inr rfl)) sv_RL_106 dL_law_863 rfl (by decide) rfl rfl rfl (Nat.le_of_ble_eq_true rfl) ⟨by decide, by decide⟩ (fun z N863 h => ?_)
    obtain ⟨y_863, h863_0, hz863⟩ := h
    refine tu_tp (b := y_863) hz863 ?_
    have hsy : ((j_833 : Nat) : Int) < M 3 l9 := by omega
    have hz : (∀ X : Int, (∀ i, i < 32 → tu_bi X i = if i = j_833 ∧ (0 : Int) = 1 then 1 else 0) → True) := fun _ _ => trivial
    have e8 : (y_863 = tu_bi (M 86 (2 * l9 + 1)) j_833) ∧ ∀ i, 86 ≤ i → N863 i = M i := by
      first
      | exact ⟨(tz_stress hJ hl hsy (Or.inr rfl) h863_0 (tz_hX1 (by omega) rfl)).1, (tz_stress hJ hl hsy (Or.inr rfl) h863_0 (tz_hX1 (by omega) rfl)).2.1⟩
      | exact ⟨(tz_stress hJ hl hsy (Or.inl rfl) h863_0 (tz_hX0 (by decide))).1, (tz_stress hJ hl hsy (Or.inl rfl) h863_0 (tz_hX0 (by decide))).2.1⟩
    obtain ⟨hy1, e8⟩ := e8
    have e86 := e8 86 (by decide)
    have b01 := tu_bi_01 (M 86 (2 * l9 + 1)) j_833
    refine tu_aload_n 866 X 4 dL_law_866 rfl ?_
    refine tu_iconst 867 X dL_law_867 ?_
    refine tu_iload 868 X 12 dL_law_868 rfl ?_
    refine tu_imul 870 X dL_law_870 ?_
    refine tu_iconst 871 X dL_law_871 ?_
    refine tu_iadd 872 X dL_law_872 ?_
    refine tu_iald 873 X (x := N863 86 ((2 * l9) + 1)) ((2 * l9) + 1) dL_law_873 (by decide) rfl (by decide) (by omega) (by omega) rfl ?_
    refine tu_tp (b := (M 86 (2 * l9 + 1))) (by rw [e86]) ?_
    refine tu_iload 874 X 1 dL_law_874 rfl ?_
    refine tu_ishr 876 X dL_law_876 ?_
    refine tu_iconst 877 X dL_law_877 ?_
    refine tu_iand 878 X dL_law_878 ?_
    refine tu_tp (b := (tu_bi (M 86 (2 * l9 + 1)) j_833)) (by exact tu_bit1 _ (by omega)) ?_
    refine tu_icmp_eq 879 X 884 dL_law_879 (by decide) (show tu_rg y_863 from by first | assumption | exact ⟨by omega, by omega⟩) (show tu_rg (tu_bi (M 86 (2 * l9 + 1)) j_833) from by first | assumption | exact ⟨by omega, by omega⟩) (fun br879 => ?_) (fun br879 => ?_)
    ·
      refine tu_aload_n 884 X 4 dL_law_884 rfl ?_
      refine tu_iconst 885 X dL_law_885 ?_
      refine tu_iload 886 X 12 dL_law_886 rfl ?_
      refine tu_imul 888 X dL_law_888 ?_
      refine tu_iconst 889 X dL_law_889 ?_
      refine tu_iadd 890 X dL_law_890 ?_
      refine tu_aload_n 891 X 4 dL_law_891 rfl ?_
      refine tu_iconst 892 X dL_law_892 ?_
      refine tu_iload 893 X 12 dL_law_893 rfl ?_
      refine tu_imul 895 X dL_law_895 ?_
      refine tu_iconst 896 X dL_law_896 ?_
      refine tu_iadd 897 X dL_law_897 ?_
      refine tu_iald 898 X (x := N863 86 ((2 * l9) + 1)) ((2 * l9) + 1) dL_law_898 (by decide) rfl (by decide) (by omega) (by omega) rfl ?_
      refine tu_tp (b := (M 86 (2 * l9 + 1))) (by rw [e86]) ?_
      refine tu_iconst 899 X dL_law_899 ?_
      refine tu_iload 900 X 1 dL_law_900 rfl ?_
      refine tu_ishl 902 X dL_law_902 ?_
      refine tu_iconst 903 X dL_law_903 ?_
      refine tu_ixor 904 X dL_law_904 ?_
      refine tu_iand 905 X dL_law_905 ?_
      refine tu_iload 906 X 0 dL_law_906 rfl ?_
      refine tu_if_eq 908 X 918 dL_law_908 (by decide) ⟨by decide, by decide⟩ (fun br908 => ?_) (fun br908 => ?_)
      ·
        exfalso; omega
      ·
        refine tu_iconst 911 X dL_law_911 ?_
        refine tu_iload 912 X 1 dL_law_912 rfl ?_
        refine tu_ishl 914 X dL_law_914 ?_
        refine tu_goto 915 X 919 dL_law_915 (by decide) ?_
        refine tu_ior 919 X dL_law_919 ?_
        refine tu_iast 920 X (M' := tu_row N863 86 (tu_u (N863 86) ((2 * l9) + 1) (tu_or (tu_and (M 86 (2 * l9 + 1)) (tu_xor (tu_shl 1 ((j_833 : Nat) : Int)) (-1))) (tu_shl 1 ((j_833 : Nat) : Int))))) ((2 * l9) + 1) dL_law_920 (by decide) rfl (by decide) (by omega) (by omega) rfl ?_
        refine tu_goto 921 X 1576 dL_law_921 (by decide) ?_
        refine tu_jmp [2, 3, 4, 5, 6, 7, 8, 9, 10, 11] (lv' := [(0, tu_r 100), (1, tu_r 0), (2, tu_r 86), (3, tu_r 87), (4, tu_r 88), (5, tu_r 89), (6, tu_r 90), (7, tu_r 91), (8, tu_i ((i8 : Nat) : Int)), (10, tu_i y8)]) ⟨rfl, rfl, rfl, rfl, rfl, rfl, rfl, rfl, rfl, rfl, trivial⟩ rfl (lp1576 (tu_row N863 86 (tu_u (N863 86) ((2 * l9) + 1) (tu_or (tu_and (M 86 (2 * l9 + 1)) (tu_xor (tu_shl 1 ((j_833 : Nat) : Int)) (-1))) (tu_shl 1 ((j_833 : Nat) : Int))))) (by first | (rw [e86]; exact (tz_stress hJ hl hsy (Or.inr rfl) h863_0 (tz_hX1 (by omega) rfl)).2.2) | (rw [e86]; exact (tz_stress hJ hl hsy (Or.inl rfl) h863_0 (tz_hX0 (by decide))).2.2)))
    ·
      exfalso; omega
