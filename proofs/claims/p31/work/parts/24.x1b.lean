set_option maxRecDepth 20000 in
set_option maxHeartbeats 4000000 in
theorem c_X1_waysFrom {M : tu_M} (s b : Nat) (w : Int) (n m : Nat) (hK : tu_LK (M 11) (M 12) (M 13) (M 14) n m) (hT : tu_Tx (M 11) (M 12) (M 13) (M 14) n m (M 15)) (hw : w = 0 ∨ w = 1) (hs : s < n) (hb : b < m) (hv : tu_vd2 (M 16) m s b) : tu_MI tu_Y_X1_waysFrom [tu_r 11, tu_i ((s : Nat) : Int), tu_i ((b : Nat) : Int), tu_i w] M (fun z M' => M' = M ∧ z = tu_wf (M 11) (M 12) (M 13) (M 14) (M 15) (M 16) w s b) := by
  obtain ⟨hK1, hKn, hKm, hK0, hKd, hKl, hKh, hKk, hKa, hKr⟩ := id hK
  obtain ⟨hK4, hK5⟩ := hK1
  have g1 := hT.bd (s := s) (b := b) hKm.2 (by omega) (by omega)
  have g2 := hT.cf hK (s := s) (b := b) (by omega) hb
  have g3 := hv.1
  have gm := tu_mh_le hK hb
  refine tu_MI.of (ty := .int) (by decide) rfl (by first | exact Or.inl rfl | exact Or.inr rfl) (Nat.le_of_ble_eq_true rfl) (fun T (X : tu_X T cX1_waysFrom RX1 2 45) hnl hrt hret => ?_)
  have hret : tu_RI T cX1_waysFrom (fun z M' => M' = M ∧ z = tu_wf (M 11) (M 12) (M 13) (M 14) (M 15) (M 16) w s b) := hret
  have hnl : T.2.2.2.2.2.2.2.2.2.2.1 = 7 := hnl
  show tu_W T 0 [(0, tu_r 11), (1, tu_i ((s : Nat) : Int)), (2, tu_i ((b : Nat) : Int)), (3, tu_i w)] [] M
  refine tu_aload_n 0 X 0 dX1_waysFrom_0 rfl ?_
  refine tu_getR 1 X dX1_waysFrom_1 fl_RX1_40 (by decide) rfl rfl ?_
  refine tu_iload_n 4 X 1 dX1_waysFrom_4 rfl ?_
  refine tu_bipush 5 X dX1_waysFrom_5 (by decide) ?_
  refine tu_imul 7 X dX1_waysFrom_7 ?_
  refine tu_iload_n 8 X 2 dX1_waysFrom_8 rfl ?_
  refine tu_iadd 9 X dX1_waysFrom_9 ?_
  refine tu_iald 10 X (x := M 15 ((s * 25) + b)) ((s * 25) + b) dX1_waysFrom_10 (by decide) rfl (by decide) (by omega) (by omega) rfl ?_
  refine tu_istore 11 X (lv' := [(4, tu_i (M 15 ((s * 25) + b))), (0, tu_r 11), (1, tu_i ((s : Nat) : Int)), (2, tu_i ((b : Nat) : Int)), (3, tu_i w)]) dX1_waysFrom_11 (by rw [hnl]; decide) rfl ?_
  refine tu_iconst 13 X dX1_waysFrom_13 ?_
  refine tu_istore 14 X (lv' := [(5, tu_i 0), (4, tu_i (M 15 ((s * 25) + b))), (0, tu_r 11), (1, tu_i ((s : Nat) : Int)), (2, tu_i ((b : Nat) : Int)), (3, tu_i w)]) dX1_waysFrom_14 (by rw [hnl]; decide) rfl ?_
  have lp49 : (True) → tu_W T 49 [(0, tu_r 11), (1, tu_i ((s : Nat) : Int)), (2, tu_i ((b : Nat) : Int)), (3, tu_i w), (4, tu_i (M 15 ((s * 25) + b))), (5, tu_i (tu_sw (if w = 0 ∨ tu_cf (M 11) (M 13) (M 15) s b = M 15 (s * 25 + b) then M 16 (s * 25 + b + 1) else 0) (fun h => if w = 0 ∨ tu_ch (M 11) (M 12) (M 13) (M 15) s b h = M 15 (s * 25 + b) then M 16 ((s + 1) * 25 + b + h) else 0) 0))] [] M := by
      intro  h49
      refine tu_iconst 49 X dX1_waysFrom_49 ?_
      refine tu_istore 50 X (lv' := [(6, tu_i 1), (0, tu_r 11), (1, tu_i ((s : Nat) : Int)), (2, tu_i ((b : Nat) : Int)), (3, tu_i w), (4, tu_i (M 15 ((s * 25) + b))), (5, tu_i (tu_sw (if w = 0 ∨ tu_cf (M 11) (M 13) (M 15) s b = M 15 (s * 25 + b) then M 16 (s * 25 + b + 1) else 0) (fun h => if w = 0 ∨ tu_ch (M 11) (M 12) (M 13) (M 15) s b h = M 15 (s * 25 + b) then M 16 ((s + 1) * 25 + b + h) else 0) 0))]) dX1_waysFrom_50 (by rw [hnl]; decide) rfl ?_
      have lp52 : ∀ (nq : Nat) (k : Nat), (k ≤ tu_mh (M 11) (M 14) b) → tu_mh (M 11) (M 14) b - k < nq → tu_W T 52 [(0, tu_r 11), (1, tu_i ((s : Nat) : Int)), (2, tu_i ((b : Nat) : Int)), (3, tu_i w), (4, tu_i (M 15 ((s * 25) + b))), (5, tu_i (tu_sw (if w = 0 ∨ tu_cf (M 11) (M 13) (M 15) s b = M 15 (s * 25 + b) then M 16 (s * 25 + b + 1) else 0) (fun h => if w = 0 ∨ tu_ch (M 11) (M 12) (M 13) (M 15) s b h = M 15 (s * 25 + b) then M 16 ((s + 1) * 25 + b + h) else 0) k)), (6, tu_i (((k + 1) : Nat) : Int))] [] M := by
        intro nq
        induction nq with
        | zero => intros; omega
        | succ nq ih52 =>
          intro k hk hn52
          have g5 := tu_sw_bd (i := (if w = 0 ∨ tu_cf (M 11) (M 13) (M 15) s b = M 15 (s * 25 + b) then M 16 (s * 25 + b + 1) else 0)) (f := (fun h => if w = 0 ∨ tu_ch (M 11) (M 12) (M 13) (M 15) s b h = M 15 (s * 25 + b) then M 16 ((s + 1) * 25 + b + h) else 0)) (B := 1000000) (n := k) (tu_if_bd g3 (by decide)).1 (tu_if_bd g3 (by decide)).2 (fun q h1 h2 => by
            have := hv.2 (b + q) (by omega)
            rw [show (s + 1) * 25 + (b + q) = (s + 1) * 25 + b + q by omega] at this
            exact tu_if_bd this (by decide))
          refine tu_iload 52 X 6 dX1_waysFrom_52 rfl ?_
          refine tu_aload_n 54 X 0 dX1_waysFrom_54 rfl ?_
          refine tu_iload_n 55 X 2 dX1_waysFrom_55 rfl ?_
          refine tu_callVI 56 X (st := [tu_i (((k + 1) : Nat) : Int)]) (as := [tu_i ((b : Nat) : Int)]) (c_X1_mostHeld b n m (show tu_LK (M 11) (M 12) (M 13) (M 14) n m from by first | assumption | omega | exact ⟨by omega, by omega⟩ | decide) (show b < m from by first | assumption | omega | exact ⟨by omega, by omega⟩ | decide)) sv_RX1_76 dX1_waysFrom_56 rfl (by decide) rfl rfl rfl (Nat.le_of_ble_eq_true rfl) ⟨by decide, by decide⟩ (fun z M' h => ?_)
          obtain ⟨hM56, hz56⟩ := h
          refine tu_st_eq rfl (M' := M) hM56 ?_
          refine tu_tp (b := ((tu_mh (M 11) (M 14) b : Nat) : Int)) hz56 ?_
          refine tu_icmp_gt 59 X 106 dX1_waysFrom_59 (by decide) (show tu_rg (((k + 1) : Nat) : Int) from by first | assumption | exact ⟨by omega, by omega⟩) (show tu_rg ((tu_mh (M 11) (M 14) b : Nat) : Int) from by first | assumption | exact ⟨by omega, by omega⟩) (fun br59 => ?_) (fun br59 => ?_)
          ·
            refine tu_iload 106 X 5 dX1_waysFrom_106 rfl ?_
            refine tu_ldc 108 X (n := 1000000) dX1_waysFrom_108 kw_RX1_75 (by decide) ?_
            refine tu_mmin 110 X mn_RX1 dX1_waysFrom_110 (show tu_rg (tu_sw (if w = 0 ∨ tu_cf (M 11) (M 13) (M 15) s b = M 15 (s * 25 + b) then M 16 (s * 25 + b + 1) else 0) (fun h => if w = 0 ∨ tu_ch (M 11) (M 12) (M 13) (M 15) s b h = M 15 (s * 25 + b) then M 16 ((s + 1) * 25 + b + h) else 0) k) from by first | assumption | exact ⟨by omega, by omega⟩) ⟨by decide, by decide⟩ (Nat.le_of_ble_eq_true rfl) (by decide) (by decide) ?_
            refine hret 113 _ _ (min (tu_sw (if w = 0 ∨ tu_cf (M 11) (M 13) (M 15) s b = M 15 (s * 25 + b) then M 16 (s * 25 + b + 1) else 0) (fun h => if w = 0 ∨ tu_ch (M 11) (M 12) (M 13) (M 15) s b h = M 15 (s * 25 + b) then M 16 ((s + 1) * 25 + b + h) else 0) k) 1000000) dX1_waysFrom_113 (fun h => by rw [hrt] at h; cases h) ?_
            exact ⟨rfl, by unfold tu_wf; rw [show tu_mh (M 11) (M 14) b = k from by omega]⟩
          ·
            refine tu_iload_n 62 X 3 dX1_waysFrom_62 rfl ?_
            refine tu_if_eq 63 X 79 dX1_waysFrom_63 (by decide) (show tu_rg w from by first | assumption | exact ⟨by omega, by omega⟩) (fun br63 => ?_) (fun br63 => ?_)
            ·
              refine tu_iload 79 X 5 dX1_waysFrom_79 rfl ?_
              refine tu_aload_n 81 X 0 dX1_waysFrom_81 rfl ?_
              refine tu_getR 82 X dX1_waysFrom_82 fl_RX1_43 (by decide) rfl rfl ?_
              refine tu_iload_n 85 X 1 dX1_waysFrom_85 rfl ?_
              refine tu_iconst 86 X dX1_waysFrom_86 ?_
              refine tu_iadd 87 X dX1_waysFrom_87 ?_
              refine tu_bipush 88 X dX1_waysFrom_88 (by decide) ?_
              refine tu_imul 90 X dX1_waysFrom_90 ?_
              refine tu_iload_n 91 X 2 dX1_waysFrom_91 rfl ?_
              refine tu_iadd 92 X dX1_waysFrom_92 ?_
              refine tu_iload 93 X 6 dX1_waysFrom_93 rfl ?_
              refine tu_iadd 95 X dX1_waysFrom_95 ?_
              refine tu_iald 96 X (x := M 16 ((((s + 1) * 25) + b) + (k + 1))) ((((s + 1) * 25) + b) + (k + 1)) dX1_waysFrom_96 (by decide) rfl (by decide) (by omega) (by omega) rfl ?_
              refine tu_iadd 97 X dX1_waysFrom_97 ?_
              refine tu_istore 98 X (lv' := [(5, tu_i (tu_sw (if w = 0 ∨ tu_cf (M 11) (M 13) (M 15) s b = M 15 (s * 25 + b) then M 16 (s * 25 + b + 1) else 0) (fun h => if w = 0 ∨ tu_ch (M 11) (M 12) (M 13) (M 15) s b h = M 15 (s * 25 + b) then M 16 ((s + 1) * 25 + b + h) else 0) k + (M 16 ((((s + 1) * 25) + b) + (k + 1))))), (0, tu_r 11), (1, tu_i ((s : Nat) : Int)), (2, tu_i ((b : Nat) : Int)), (3, tu_i w), (4, tu_i (M 15 ((s * 25) + b))), (6, tu_i (((k + 1) : Nat) : Int))]) dX1_waysFrom_98 (by rw [hnl]; decide) rfl ?_
              refine tu_iinc 100 X (lv' := [(6, tu_i ((((k + 1) : Nat) : Int) + 1)), (5, tu_i (tu_sw (if w = 0 ∨ tu_cf (M 11) (M 13) (M 15) s b = M 15 (s * 25 + b) then M 16 (s * 25 + b + 1) else 0) (fun h => if w = 0 ∨ tu_ch (M 11) (M 12) (M 13) (M 15) s b h = M 15 (s * 25 + b) then M 16 ((s + 1) * 25 + b + h) else 0) k + (M 16 ((((s + 1) * 25) + b) + (k + 1))))), (0, tu_r 11), (1, tu_i ((s : Nat) : Int)), (2, tu_i ((b : Nat) : Int)), (3, tu_i w), (4, tu_i (M 15 ((s * 25) + b)))]) 6 dX1_waysFrom_100 rfl (by rw [hnl]; decide) rfl ?_
              refine tu_goto 103 X 52 dX1_waysFrom_103 (by decide) ?_
              refine tu_jmp [2, 3, 4, 5, 6, 1, 0] (lv' := [(0, tu_r 11), (1, tu_i ((s : Nat) : Int)), (2, tu_i ((b : Nat) : Int)), (3, tu_i w), (4, tu_i (M 15 ((s * 25) + b))), (5, tu_i (tu_sw (if w = 0 ∨ tu_cf (M 11) (M 13) (M 15) s b = M 15 (s * 25 + b) then M 16 (s * 25 + b + 1) else 0) (fun h => if w = 0 ∨ tu_ch (M 11) (M 12) (M 13) (M 15) s b h = M 15 (s * 25 + b) then M 16 ((s + 1) * 25 + b + h) else 0) (k + 1))), (6, tu_i ((((k + 1) + 1) : Nat) : Int))]) ⟨rfl, rfl, rfl, rfl, rfl, tu_ei (by first | rfl | (first | exact tu_sw_p (if_pos (by omega)) | exact tu_sw_z (if_neg (by omega)))), tu_ei (by first | rfl | omega), trivial⟩ rfl (ih52 (k + 1) (by omega) (by omega))
            ·
              refine tu_aload_n 66 X 0 dX1_waysFrom_66 rfl ?_
              refine tu_iload_n 67 X 1 dX1_waysFrom_67 rfl ?_
              refine tu_iload_n 68 X 2 dX1_waysFrom_68 rfl ?_
              refine tu_iload 69 X 6 dX1_waysFrom_69 rfl ?_
              refine tu_callVI 71 X (st := []) (as := [tu_i ((s : Nat) : Int), tu_i ((b : Nat) : Int), tu_i (((k + 1) : Nat) : Int)]) (c_X1_costOfHeld s b (k + 1) n m (show tu_LK (M 11) (M 12) (M 13) (M 14) n m from by first | assumption | omega | exact ⟨by omega, by omega⟩ | decide) (show s < n from by first | assumption | omega | exact ⟨by omega, by omega⟩ | decide) (show b < m from by first | assumption | omega | exact ⟨by omega, by omega⟩ | decide) (show b + (k + 1) ≤ m from by first | assumption | omega | exact ⟨by omega, by omega⟩ | decide)) sv_RX1_80 dX1_waysFrom_71 rfl (by decide) rfl rfl rfl (Nat.le_of_ble_eq_true rfl) ⟨by decide, by decide⟩ (fun z M' h => ?_)
              obtain ⟨hM71, hz71⟩ := h
              refine tu_st_eq rfl (M' := M) hM71 ?_
              refine tu_tp (b := (tu_ch (M 11) (M 12) (M 13) (M 15) s b (k + 1))) hz71 ?_
              have g6 := hT.ch hK (s := s) (b := b) (q := k + 1) hs hb (by omega) (by omega)
              refine tu_iload 74 X 4 dX1_waysFrom_74 rfl ?_
              refine tu_icmp_ne 76 X 100 dX1_waysFrom_76 (by decide) (show tu_rg (tu_ch (M 11) (M 12) (M 13) (M 15) s b (k + 1)) from by first | assumption | exact ⟨by omega, by omega⟩) (show tu_rg (M 15 ((s * 25) + b)) from by first | assumption | exact ⟨by omega, by omega⟩) (fun br76 => ?_) (fun br76 => ?_)
              ·
                refine tu_iinc 100 X (lv' := [(6, tu_i ((((k + 1) : Nat) : Int) + 1)), (0, tu_r 11), (1, tu_i ((s : Nat) : Int)), (2, tu_i ((b : Nat) : Int)), (3, tu_i w), (4, tu_i (M 15 ((s * 25) + b))), (5, tu_i (tu_sw (if w = 0 ∨ tu_cf (M 11) (M 13) (M 15) s b = M 15 (s * 25 + b) then M 16 (s * 25 + b + 1) else 0) (fun h => if w = 0 ∨ tu_ch (M 11) (M 12) (M 13) (M 15) s b h = M 15 (s * 25 + b) then M 16 ((s + 1) * 25 + b + h) else 0) k))]) 6 dX1_waysFrom_100 rfl (by rw [hnl]; decide) rfl ?_
                refine tu_goto 103 X 52 dX1_waysFrom_103 (by decide) ?_
                refine tu_jmp [1, 2, 3, 4, 5, 6, 0] (lv' := [(0, tu_r 11), (1, tu_i ((s : Nat) : Int)), (2, tu_i ((b : Nat) : Int)), (3, tu_i w), (4, tu_i (M 15 ((s * 25) + b))), (5, tu_i (tu_sw (if w = 0 ∨ tu_cf (M 11) (M 13) (M 15) s b = M 15 (s * 25 + b) then M 16 (s * 25 + b + 1) else 0) (fun h => if w = 0 ∨ tu_ch (M 11) (M 12) (M 13) (M 15) s b h = M 15 (s * 25 + b) then M 16 ((s + 1) * 25 + b + h) else 0) (k + 1))), (6, tu_i ((((k + 1) + 1) : Nat) : Int))]) ⟨rfl, rfl, rfl, rfl, rfl, tu_ei (by first | rfl | (first | exact tu_sw_p (if_pos (by omega)) | exact tu_sw_z (if_neg (by omega)))), tu_ei (by first | rfl | omega), trivial⟩ rfl (ih52 (k + 1) (by omega) (by omega))
              ·
                refine tu_iload 79 X 5 dX1_waysFrom_79 rfl ?_
                refine tu_aload_n 81 X 0 dX1_waysFrom_81 rfl ?_
                refine tu_getR 82 X dX1_waysFrom_82 fl_RX1_43 (by decide) rfl rfl ?_
                refine tu_iload_n 85 X 1 dX1_waysFrom_85 rfl ?_
                refine tu_iconst 86 X dX1_waysFrom_86 ?_
                refine tu_iadd 87 X dX1_waysFrom_87 ?_
                refine tu_bipush 88 X dX1_waysFrom_88 (by decide) ?_
                refine tu_imul 90 X dX1_waysFrom_90 ?_
                refine tu_iload_n 91 X 2 dX1_waysFrom_91 rfl ?_
                refine tu_iadd 92 X dX1_waysFrom_92 ?_
                refine tu_iload 93 X 6 dX1_waysFrom_93 rfl ?_
                refine tu_iadd 95 X dX1_waysFrom_95 ?_
                refine tu_iald 96 X (x := M 16 ((((s + 1) * 25) + b) + (k + 1))) ((((s + 1) * 25) + b) + (k + 1)) dX1_waysFrom_96 (by decide) rfl (by decide) (by omega) (by omega) rfl ?_
                refine tu_iadd 97 X dX1_waysFrom_97 ?_
                refine tu_istore 98 X (lv' := [(5, tu_i (tu_sw (if w = 0 ∨ tu_cf (M 11) (M 13) (M 15) s b = M 15 (s * 25 + b) then M 16 (s * 25 + b + 1) else 0) (fun h => if w = 0 ∨ tu_ch (M 11) (M 12) (M 13) (M 15) s b h = M 15 (s * 25 + b) then M 16 ((s + 1) * 25 + b + h) else 0) k + (M 16 ((((s + 1) * 25) + b) + (k + 1))))), (0, tu_r 11), (1, tu_i ((s : Nat) : Int)), (2, tu_i ((b : Nat) : Int)), (3, tu_i w), (4, tu_i (M 15 ((s * 25) + b))), (6, tu_i (((k + 1) : Nat) : Int))]) dX1_waysFrom_98 (by rw [hnl]; decide) rfl ?_
                refine tu_iinc 100 X (lv' := [(6, tu_i ((((k + 1) : Nat) : Int) + 1)), (5, tu_i (tu_sw (if w = 0 ∨ tu_cf (M 11) (M 13) (M 15) s b = M 15 (s * 25 + b) then M 16 (s * 25 + b + 1) else 0) (fun h => if w = 0 ∨ tu_ch (M 11) (M 12) (M 13) (M 15) s b h = M 15 (s * 25 + b) then M 16 ((s + 1) * 25 + b + h) else 0) k + (M 16 ((((s + 1) * 25) + b) + (k + 1))))), (0, tu_r 11), (1, tu_i ((s : Nat) : Int)), (2, tu_i ((b : Nat) : Int)), (3, tu_i w), (4, tu_i (M 15 ((s * 25) + b)))]) 6 dX1_waysFrom_100 rfl (by rw [hnl]; decide) rfl ?_
                refine tu_goto 103 X 52 dX1_waysFrom_103 (by decide) ?_
                refine tu_jmp [2, 3, 4, 5, 6, 1, 0] (lv' := [(0, tu_r 11), (1, tu_i ((s : Nat) : Int)), (2, tu_i ((b : Nat) : Int)), (3, tu_i w), (4, tu_i (M 15 ((s * 25) + b))), (5, tu_i (tu_sw (if w = 0 ∨ tu_cf (M 11) (M 13) (M 15) s b = M 15 (s * 25 + b) then M 16 (s * 25 + b + 1) else 0) (fun h => if w = 0 ∨ tu_ch (M 11) (M 12) (M 13) (M 15) s b h = M 15 (s * 25 + b) then M 16 ((s + 1) * 25 + b + h) else 0) (k + 1))), (6, tu_i ((((k + 1) + 1) : Nat) : Int))]) ⟨rfl, rfl, rfl, rfl, rfl, tu_ei (by first | rfl | (first | exact tu_sw_p (if_pos (by omega)) | exact tu_sw_z (if_neg (by omega)))), tu_ei (by first | rfl | omega), trivial⟩ rfl (ih52 (k + 1) (by omega) (by omega))
      refine tu_jmp [1, 2, 3, 4, 5, 6, 0] (lv' := [(0, tu_r 11), (1, tu_i ((s : Nat) : Int)), (2, tu_i ((b : Nat) : Int)), (3, tu_i w), (4, tu_i (M 15 ((s * 25) + b))), (5, tu_i (tu_sw (if w = 0 ∨ tu_cf (M 11) (M 13) (M 15) s b = M 15 (s * 25 + b) then M 16 (s * 25 + b + 1) else 0) (fun h => if w = 0 ∨ tu_ch (M 11) (M 12) (M 13) (M 15) s b h = M 15 (s * 25 + b) then M 16 ((s + 1) * 25 + b + h) else 0) 0)), (6, tu_i (((0 + 1) : Nat) : Int))]) ⟨rfl, rfl, rfl, rfl, rfl, rfl, tu_ei (by first | rfl | omega), trivial⟩ rfl (lp52 ((tu_mh (M 11) (M 14) b - 0) + 1) 0 (by omega) (by omega))
  refine tu_iload_n 16 X 5 dX1_waysFrom_16 rfl ?_
  refine tu_if_eq 17 X 31 dX1_waysFrom_17 (by decide) (show tu_rg w from by first | assumption | exact ⟨by omega, by omega⟩) (fun br17 => ?_) (fun br17 => ?_)
  ·
    refine tu_iload 31 X 0 dX1_waysFrom_31 rfl ?_
    refine tu_aload_n 33 X 2 dX1_waysFrom_33 rfl ?_
    refine tu_getR 34 X dX1_waysFrom_34 fl_RX1_43 (by decide) rfl rfl ?_
    refine tu_iload_n 37 X 3 dX1_waysFrom_37 rfl ?_
    refine tu_bipush 38 X dX1_waysFrom_38 (by decide) ?_
    refine tu_imul 40 X dX1_waysFrom_40 ?_
    refine tu_iload_n 41 X 4 dX1_waysFrom_41 rfl ?_
    refine tu_iadd 42 X dX1_waysFrom_42 ?_
    refine tu_iconst 43 X dX1_waysFrom_43 ?_
    refine tu_iadd 44 X dX1_waysFrom_44 ?_
    refine tu_iald 45 X (x := M 16 (((s * 25) + b) + 1)) (((s * 25) + b) + 1) dX1_waysFrom_45 (by decide) rfl (by decide) (by omega) (by omega) rfl ?_
    refine tu_iadd 46 X dX1_waysFrom_46 ?_
    refine tu_istore 47 X (lv' := [(5, tu_i (0 + (M 16 (((s * 25) + b) + 1)))), (4, tu_i (M 15 ((s * 25) + b))), (0, tu_r 11), (1, tu_i ((s : Nat) : Int)), (2, tu_i ((b : Nat) : Int)), (3, tu_i w)]) dX1_waysFrom_47 (by rw [hnl]; decide) rfl ?_
    refine tu_jmp [2, 3, 4, 5, 1, 0] (lv' := [(0, tu_r 11), (1, tu_i ((s : Nat) : Int)), (2, tu_i ((b : Nat) : Int)), (3, tu_i w), (4, tu_i (M 15 ((s * 25) + b))), (5, tu_i (tu_sw (if w = 0 ∨ tu_cf (M 11) (M 13) (M 15) s b = M 15 (s * 25 + b) then M 16 (s * 25 + b + 1) else 0) (fun h => if w = 0 ∨ tu_ch (M 11) (M 12) (M 13) (M 15) s b h = M 15 (s * 25 + b) then M 16 ((s + 1) * 25 + b + h) else 0) 0))]) ⟨rfl, rfl, rfl, rfl, rfl, tu_ei (by first | rfl | (first | exact tu_sw_0p (if_pos (by omega)) | exact tu_sw_0z (if_neg (by omega)))), trivial⟩ rfl (lp49 (by trivial))
  ·
    refine tu_aload_n 20 X 2 dX1_waysFrom_20 rfl ?_
    refine tu_iload_n 21 X 3 dX1_waysFrom_21 rfl ?_
    refine tu_iload_n 22 X 4 dX1_waysFrom_22 rfl ?_
    refine tu_callVI 23 X (st := []) (as := [tu_i ((s : Nat) : Int), tu_i ((b : Nat) : Int)]) (c_X1_costOfFree s b n m (show tu_LK (M 11) (M 12) (M 13) (M 14) n m from by first | assumption | omega | exact ⟨by omega, by omega⟩ | decide) (show s ≤ n from by first | assumption | omega | exact ⟨by omega, by omega⟩ | decide) (show b < m from by first | assumption | omega | exact ⟨by omega, by omega⟩ | decide)) sv_RX1_71 dX1_waysFrom_23 rfl (by decide) rfl rfl rfl (Nat.le_of_ble_eq_true rfl) ⟨by decide, by decide⟩ (fun z M' h => ?_)
    obtain ⟨hM23, hz23⟩ := h
    refine tu_st_eq rfl (M' := M) hM23 ?_
    refine tu_tp (b := (tu_cf (M 11) (M 13) (M 15) s b)) hz23 ?_
    refine tu_iload 26 X 1 dX1_waysFrom_26 rfl ?_
    refine tu_icmp_ne 28 X 49 dX1_waysFrom_28 (by decide) (show tu_rg (tu_cf (M 11) (M 13) (M 15) s b) from by first | assumption | exact ⟨by omega, by omega⟩) (show tu_rg (M 15 ((s * 25) + b)) from by first | assumption | exact ⟨by omega, by omega⟩) (fun br28 => ?_) (fun br28 => ?_)
    ·
      refine tu_jmp [2, 3, 4, 5, 1, 0] (lv' := [(0, tu_r 11), (1, tu_i ((s : Nat) : Int)), (2, tu_i ((b : Nat) : Int)), (3, tu_i w), (4, tu_i (M 15 ((s * 25) + b))), (5, tu_i (tu_sw (if w = 0 ∨ tu_cf (M 11) (M 13) (M 15) s b = M 15 (s * 25 + b) then M 16 (s * 25 + b + 1) else 0) (fun h => if w = 0 ∨ tu_ch (M 11) (M 12) (M 13) (M 15) s b h = M 15 (s * 25 + b) then M 16 ((s + 1) * 25 + b + h) else 0) 0))]) ⟨rfl, rfl, rfl, rfl, rfl, tu_ei (by first | rfl | (first | exact tu_sw_0p (if_pos (by omega)) | exact tu_sw_0z (if_neg (by omega)))), trivial⟩ rfl (lp49 (by trivial))
    ·
      refine tu_iload 31 X 0 dX1_waysFrom_31 rfl ?_
      refine tu_aload_n 33 X 2 dX1_waysFrom_33 rfl ?_
      refine tu_getR 34 X dX1_waysFrom_34 fl_RX1_43 (by decide) rfl rfl ?_
      refine tu_iload_n 37 X 3 dX1_waysFrom_37 rfl ?_
      refine tu_bipush 38 X dX1_waysFrom_38 (by decide) ?_
      refine tu_imul 40 X dX1_waysFrom_40 ?_
      refine tu_iload_n 41 X 4 dX1_waysFrom_41 rfl ?_
      refine tu_iadd 42 X dX1_waysFrom_42 ?_
      refine tu_iconst 43 X dX1_waysFrom_43 ?_
      refine tu_iadd 44 X dX1_waysFrom_44 ?_
      refine tu_iald 45 X (x := M 16 (((s * 25) + b) + 1)) (((s * 25) + b) + 1) dX1_waysFrom_45 (by decide) rfl (by decide) (by omega) (by omega) rfl ?_
      refine tu_iadd 46 X dX1_waysFrom_46 ?_
      refine tu_istore 47 X (lv' := [(5, tu_i (0 + (M 16 (((s * 25) + b) + 1)))), (4, tu_i (M 15 ((s * 25) + b))), (0, tu_r 11), (1, tu_i ((s : Nat) : Int)), (2, tu_i ((b : Nat) : Int)), (3, tu_i w)]) dX1_waysFrom_47 (by rw [hnl]; decide) rfl ?_
      refine tu_jmp [2, 3, 4, 5, 1, 0] (lv' := [(0, tu_r 11), (1, tu_i ((s : Nat) : Int)), (2, tu_i ((b : Nat) : Int)), (3, tu_i w), (4, tu_i (M 15 ((s * 25) + b))), (5, tu_i (tu_sw (if w = 0 ∨ tu_cf (M 11) (M 13) (M 15) s b = M 15 (s * 25 + b) then M 16 (s * 25 + b + 1) else 0) (fun h => if w = 0 ∨ tu_ch (M 11) (M 12) (M 13) (M 15) s b h = M 15 (s * 25 + b) then M 16 ((s + 1) * 25 + b + h) else 0) 0))]) ⟨rfl, rfl, rfl, rfl, rfl, tu_ei (by first | rfl | (first | exact tu_sw_0p (if_pos (by omega)) | exact tu_sw_0z (if_neg (by omega)))), trivial⟩ rfl (lp49 (by trivial))
set_option maxRecDepth 20000 in
set_option maxHeartbeats 4000000 in
theorem c_X1_countWays {M : tu_M} (w : Int) (n m : Nat) (hK : tu_LK (M 11) (M 12) (M 13) (M 14) n m) (hT : tu_Tx (M 11) (M 12) (M 13) (M 14) n m (M 15)) (hw : w = 0 ∨ w = 1) : tu_MI tu_Y_X1_countWays [tu_r 11, tu_i w] M (fun z M' => ∃ (v : Nat → Int), M' = tu_row M 16 v ∧ (tu_Vx (M 11) (M 12) (M 13) (M 14) (M 15) w n m v) ∧ z = v 0) := by
  obtain ⟨hK1, hKn, hKm, hK0, hKd, hKl, hKh, hKk, hKa, hKr⟩ := id hK
  obtain ⟨hK4, hK5⟩ := hK1
  refine tu_MI.of (ty := .int) (by decide) rfl (by first | exact Or.inl rfl | exact Or.inr rfl) (Nat.le_of_ble_eq_true rfl) (fun T (X : tu_X T cX1_countWays RX1 3 71) hnl hrt hret => ?_)
  have hret : tu_RI T cX1_countWays (fun z M' => ∃ (v : Nat → Int), M' = tu_row M 16 v ∧ (tu_Vx (M 11) (M 12) (M 13) (M 14) (M 15) w n m v) ∧ z = v 0) := hret
  have hnl : T.2.2.2.2.2.2.2.2.2.2.1 = 4 := hnl
  show tu_W T 0 [(0, tu_r 11), (1, tu_i w)] [] M
  refine tu_iconst 0 X dX1_countWays_0 ?_
  refine tu_istore_n 1 X (lv' := [(2, tu_i 0), (0, tu_r 11), (1, tu_i w)]) dX1_countWays_1 (by rw [hnl]; decide) rfl ?_
  refine tu_st_eq rfl (M' := tu_row M 16 (M 16)) ((tu_rx M 16).symm) ?_
  have lp2 : ∀ (nq : Nat) (k : Nat) (v : Nat → Int), (k ≤ m + 1) → (∀ b, b < k → v (n * 25 + b) = 1) → m + 1 - k < nq → tu_W T 2 [(0, tu_r 11), (1, tu_i w), (2, tu_i ((k : Nat) : Int))] [] (tu_row M 16 v) := by
    intro nq
    induction nq with
    | zero => intros; omega
    | succ nq ih2 =>
      intro k v hk hV hn2
      refine tu_iload_n 2 X 2 dX1_countWays_2 rfl ?_
      refine tu_aload_n 3 X 0 dX1_countWays_3 rfl ?_
      refine tu_getI 4 X (x := M 11 5) dX1_countWays_4 fl_RX1_27 (by decide) rfl rfl rfl ?_
      refine tu_tp (b := ((m : Nat) : Int)) (by exact hK.1.2) ?_
      refine tu_icmp_gt 7 X 31 dX1_countWays_7 (by decide) (show tu_rg ((k : Nat) : Int) from by first | assumption | exact ⟨by omega, by omega⟩) (show tu_rg ((m : Nat) : Int) from by first | assumption | exact ⟨by omega, by omega⟩) (fun br7 => ?_) (fun br7 => ?_)
      ·
        refine tu_aload_n 31 X 0 dX1_countWays_31 rfl ?_
        refine tu_getI 32 X (x := M 11 4) dX1_countWays_32 fl_RX1_24 (by decide) rfl rfl rfl ?_
        refine tu_tp (b := ((n : Nat) : Int)) (by exact hK.1.1) ?_
        refine tu_iconst 35 X dX1_countWays_35 ?_
        refine tu_isub 36 X dX1_countWays_36 ?_
        refine tu_istore_n 37 X (lv' := [(2, tu_i (((n : Nat) : Int) - 1)), (0, tu_r 11), (1, tu_i w)]) dX1_countWays_37 (by rw [hnl]; decide) rfl ?_
        have lp38 : ∀ (nq : Nat) (j : Nat) (v : Nat → Int), (j ≤ n) → (tu_V0 n m v) → (tu_VS (M 11) (M 12) (M 13) (M 14) (M 15) w n m j v) → j < nq → tu_W T 38 [(0, tu_r 11), (1, tu_i w), (2, tu_i (((j : Nat) : Int) - 1))] [] (tu_row M 16 v) := by
          intro nq
          induction nq with
          | zero => intros; omega
          | succ nq ih38 =>
            intro j v hj hV hS hn38
            refine tu_iload_n 38 X 2 dX1_countWays_38 rfl ?_
            refine tu_if_lt 39 X 98 dX1_countWays_39 (by decide) (show tu_rg (((j : Nat) : Int) - 1) from by first | assumption | exact ⟨by omega, by omega⟩) (fun br39 => ?_) (fun br39 => ?_)
            ·
              refine tu_aload_n 98 X 0 dX1_countWays_98 rfl ?_
              refine tu_getR 99 X dX1_countWays_99 fl_RX1_43 (by decide) rfl rfl ?_
              refine tu_iconst 102 X dX1_countWays_102 ?_
              refine tu_iald 103 X (x := v 0) 0 dX1_countWays_103 (by decide) rfl (by decide) rfl (by decide) rfl ?_
              refine hret 104 _ _ (v 0) dX1_countWays_104 (fun h => by rw [hrt] at h; cases h) ?_
              rw [show j = 0 from by omega] at hS
              exact ⟨_, rfl, ⟨hV, hS⟩, rfl⟩
            ·
              refine tu_jmp [0, 1, 2] (lv' := [(0, tu_r 11), (1, tu_i w), (2, tu_i (((j - 1 : Nat)) : Int))]) ⟨rfl, rfl, tu_ei (by omega), trivial⟩ rfl ?_
              refine tu_aload_n 42 X 0 dX1_countWays_42 rfl ?_
              refine tu_getR 43 X dX1_countWays_43 fl_RX1_43 (by decide) rfl rfl ?_
              refine tu_iload_n 46 X 2 dX1_countWays_46 rfl ?_
              refine tu_bipush 47 X dX1_countWays_47 (by decide) ?_
              refine tu_imul 49 X dX1_countWays_49 ?_
              refine tu_aload_n 50 X 0 dX1_countWays_50 rfl ?_
              refine tu_getI 51 X (x := M 11 5) dX1_countWays_51 fl_RX1_27 (by decide) rfl rfl rfl ?_
              refine tu_tp (b := ((m : Nat) : Int)) (by exact hK.1.2) ?_
              refine tu_iadd 54 X dX1_countWays_54 ?_
              refine tu_iconst 55 X dX1_countWays_55 ?_
              refine tu_iast 56 X (M' := tu_row M 16 (tu_u v (((j - 1) * 25) + m) 0)) (((j - 1) * 25) + m) dX1_countWays_56 (by decide) rfl (by decide) (by omega) (by omega) (tu_rr M 16 v (tu_u v (((j - 1) * 25) + m) 0)) ?_
              refine tu_aload_n 57 X 0 dX1_countWays_57 rfl ?_
              refine tu_getI 58 X (x := M 11 5) dX1_countWays_58 fl_RX1_27 (by decide) rfl rfl rfl ?_
              refine tu_tp (b := ((m : Nat) : Int)) (by exact hK.1.2) ?_
              refine tu_iconst 61 X dX1_countWays_61 ?_
              refine tu_isub 62 X dX1_countWays_62 ?_
              refine tu_istore_n 63 X (lv' := [(3, tu_i (((m : Nat) : Int) - 1)), (0, tu_r 11), (1, tu_i w), (2, tu_i (((j - 1 : Nat)) : Int))]) dX1_countWays_63 (by rw [hnl]; decide) rfl ?_
              have lp64 : ∀ (nq : Nat) (i : Nat) (v : Nat → Int), (i ≤ m) → (tu_V0 n m v) → (tu_VS (M 11) (M 12) (M 13) (M 14) (M 15) w n m j v) → (tu_VB (M 11) (M 12) (M 13) (M 14) (M 15) w m (j - 1) i v) → i < nq → tu_W T 64 [(0, tu_r 11), (1, tu_i w), (2, tu_i (((j - 1 : Nat)) : Int)), (3, tu_i (((i : Nat) : Int) - 1))] [] (tu_row M 16 v) := by
                intro nq
                induction nq with
                | zero => intros; omega
                | succ nq ih64 =>
                  intro i v hi hV hS hB hn64
                  refine tu_iload_n 64 X 3 dX1_countWays_64 rfl ?_
                  refine tu_if_lt 65 X 92 dX1_countWays_65 (by decide) (show tu_rg (((i : Nat) : Int) - 1) from by first | assumption | exact ⟨by omega, by omega⟩) (fun br65 => ?_) (fun br65 => ?_)
                  ·
                    refine tu_iinc 92 X (lv' := [(2, tu_i ((((j - 1 : Nat)) : Int) + (-1))), (0, tu_r 11), (1, tu_i w), (3, tu_i (((i : Nat) : Int) - 1))]) 2 dX1_countWays_92 rfl (by rw [hnl]; decide) rfl ?_
                    refine tu_goto 95 X 38 dX1_countWays_95 (by decide) ?_
                    refine tu_jmp [1, 2, 0] (lv' := [(0, tu_r 11), (1, tu_i w), (2, tu_i ((((j - 1) : Nat) : Int) - 1))]) ⟨rfl, rfl, tu_ei (by first | rfl | omega), trivial⟩ rfl (ih38 (j - 1) v (by omega) (by exact hV) (by exact tu_VS_s hS (by rw [show i = 0 from by omega] at hB; exact hB)) (by omega))
                  ·
                    refine tu_jmp [0, 1, 2, 3] (lv' := [(0, tu_r 11), (1, tu_i w), (2, tu_i (((j - 1 : Nat)) : Int)), (3, tu_i (((i - 1 : Nat)) : Int))]) ⟨rfl, rfl, rfl, tu_ei (by omega), trivial⟩ rfl ?_
                    refine tu_aload_n 68 X 0 dX1_countWays_68 rfl ?_
                    refine tu_getR 69 X dX1_countWays_69 fl_RX1_43 (by decide) rfl rfl ?_
                    refine tu_iload_n 72 X 2 dX1_countWays_72 rfl ?_
                    refine tu_bipush 73 X dX1_countWays_73 (by decide) ?_
                    refine tu_imul 75 X dX1_countWays_75 ?_
                    refine tu_iload_n 76 X 3 dX1_countWays_76 rfl ?_
                    refine tu_iadd 77 X dX1_countWays_77 ?_
                    refine tu_aload_n 78 X 0 dX1_countWays_78 rfl ?_
                    refine tu_iload_n 79 X 2 dX1_countWays_79 rfl ?_
                    refine tu_iload_n 80 X 3 dX1_countWays_80 rfl ?_
                    refine tu_iload_n 81 X 1 dX1_countWays_81 rfl ?_
                    refine tu_st_eq (show _ = [tu_i w, tu_i (((i - 1) : Nat) : Int), tu_i (((j - 1) : Nat) : Int), tu_r 11, tu_i (((((j - 1 : Nat)) : Int) * 25) + (((i - 1 : Nat)) : Int)), tu_r 16] from by first | rfl | (simp only [List.cons.injEq, Sum.inl.injEq, and_true, true_and]; omega)) rfl ?_
                    refine tu_callVI 82 X (st := [tu_i (((((j - 1 : Nat)) : Int) * 25) + (((i - 1 : Nat)) : Int)), tu_r 16]) (as := [tu_i (((j - 1) : Nat) : Int), tu_i (((i - 1) : Nat) : Int), tu_i w]) (c_X1_waysFrom (j - 1) (i - 1) w n m (show tu_LK (M 11) (M 12) (M 13) (M 14) n m from by first | assumption | omega | exact ⟨by omega, by omega⟩ | decide) (show tu_Tx (M 11) (M 12) (M 13) (M 14) n m (M 15) from by first | assumption | omega | exact ⟨by omega, by omega⟩ | decide) (show w = 0 ∨ w = 1 from by first | assumption | omega | exact ⟨by omega, by omega⟩ | decide) (show (j - 1) < n from by first | assumption | omega | exact ⟨by omega, by omega⟩ | decide) (show (i - 1) < m from by first | assumption | omega | exact ⟨by omega, by omega⟩ | decide) (show tu_vd2 (v) m (j - 1) (i - 1) from by exact ⟨by have g := hB.bd (Nat.le_refl _) hi; rw [show (j - 1) * 25 + (i - 1) + 1 = (j - 1) * 25 + i from by omega]; exact g, fun q hq => tu_nv_bd (s := j - 1) hV (by rw [show j - 1 + 1 = j from by omega]; exact hS) (by omega) hq⟩)) sv_RX1_93 dX1_countWays_82 rfl (by decide) rfl rfl rfl (Nat.le_of_ble_eq_true rfl) ⟨by decide, by decide⟩ (fun z M' h => ?_)
                    obtain ⟨hM82, hz82⟩ := h
                    refine tu_st_eq rfl (M' := tu_row M 16 v) hM82 ?_
                    refine tu_tp (b := (tu_wf (M 11) (M 12) (M 13) (M 14) (M 15) (v) w (j - 1) (i - 1))) hz82 ?_
                    refine tu_iast 85 X (M' := tu_row M 16 (tu_u v (((j - 1) * 25) + (i - 1)) (tu_wf (M 11) (M 12) (M 13) (M 14) (M 15) (v) w (j - 1) (i - 1)))) (((j - 1) * 25) + (i - 1)) dX1_countWays_85 (by decide) rfl (by decide) (by omega) (by omega) (tu_rr M 16 v (tu_u v (((j - 1) * 25) + (i - 1)) (tu_wf (M 11) (M 12) (M 13) (M 14) (M 15) (v) w (j - 1) (i - 1)))) ?_
                    refine tu_iinc 86 X (lv' := [(3, tu_i ((((i - 1 : Nat)) : Int) + (-1))), (0, tu_r 11), (1, tu_i w), (2, tu_i (((j - 1 : Nat)) : Int))]) 3 dX1_countWays_86 rfl (by rw [hnl]; decide) rfl ?_
                    refine tu_goto 89 X 64 dX1_countWays_89 (by decide) ?_
                    refine tu_jmp [1, 2, 3, 0] (lv' := [(0, tu_r 11), (1, tu_i w), (2, tu_i (((j - 1 : Nat)) : Int)), (3, tu_i ((((i - 1) : Nat) : Int) - 1))]) ⟨rfl, rfl, rfl, tu_ei (by first | rfl | omega), trivial⟩ rfl (ih64 (i - 1) (tu_u v (((j - 1) * 25) + (i - 1)) (tu_wf (M 11) (M 12) (M 13) (M 14) (M 15) (v) w (j - 1) (i - 1))) (by omega) (by exact hV.q (fun q hq => tu_u_n _ _ (by omega))) (by exact hS.q (fun q hq => tu_u_n _ _ (by omega))) (by exact tu_VB_s hK hB (by rw [show j - 1 + 1 = j from by omega]; exact hS) hV (by omega) (by omega) (by omega) rfl) (by omega))
              refine tu_jmp [1, 2, 3, 0] (lv' := [(0, tu_r 11), (1, tu_i w), (2, tu_i (((j - 1 : Nat)) : Int)), (3, tu_i (((m : Nat) : Int) - 1))]) ⟨rfl, rfl, rfl, rfl, trivial⟩ rfl (lp64 (m + 1) m (tu_u v (((j - 1) * 25) + m) 0) (by omega) (by exact hV.q (fun q hq => tu_u_n _ _ (by omega))) (by exact hS.q (fun q hq => tu_u_n _ _ (by omega))) (by exact ⟨tu_u_s _ _ _, fun b h1 h2 => by omega⟩) (by omega))
        refine tu_jmp [1, 2, 0] (lv' := [(0, tu_r 11), (1, tu_i w), (2, tu_i (((n : Nat) : Int) - 1))]) ⟨rfl, rfl, rfl, trivial⟩ rfl (lp38 (n + 1) n v (by omega) (by intro b hb; exact hV b (by omega)) (by intro t h1 h2; omega) (by omega))
      ·
        refine tu_aload_n 10 X 0 dX1_countWays_10 rfl ?_
        refine tu_getR 11 X dX1_countWays_11 fl_RX1_43 (by decide) rfl rfl ?_
        refine tu_aload_n 14 X 0 dX1_countWays_14 rfl ?_
        refine tu_getI 15 X (x := M 11 4) dX1_countWays_15 fl_RX1_24 (by decide) rfl rfl rfl ?_
        refine tu_tp (b := ((n : Nat) : Int)) (by exact hK.1.1) ?_
        refine tu_bipush 18 X dX1_countWays_18 (by decide) ?_
        refine tu_imul 20 X dX1_countWays_20 ?_
        refine tu_iload_n 21 X 2 dX1_countWays_21 rfl ?_
        refine tu_iadd 22 X dX1_countWays_22 ?_
        refine tu_iconst 23 X dX1_countWays_23 ?_
        refine tu_iast 24 X (M' := tu_row M 16 (tu_u v ((n * 25) + k) 1)) ((n * 25) + k) dX1_countWays_24 (by decide) rfl (by decide) (by omega) (by omega) (tu_rr M 16 v (tu_u v ((n * 25) + k) 1)) ?_
        refine tu_iinc 25 X (lv' := [(2, tu_i (((k : Nat) : Int) + 1)), (0, tu_r 11), (1, tu_i w)]) 2 dX1_countWays_25 rfl (by rw [hnl]; decide) rfl ?_
        refine tu_goto 28 X 2 dX1_countWays_28 (by decide) ?_
        refine tu_jmp [1, 2, 0] (lv' := [(0, tu_r 11), (1, tu_i w), (2, tu_i (((k + 1) : Nat) : Int))]) ⟨rfl, rfl, tu_ei (by first | rfl | omega), trivial⟩ rfl (ih2 (k + 1) (tu_u v ((n * 25) + k) 1) (by omega) (by intro b hb; rw [tu_u_if]; split <;> first | rfl | exact hV b (by omega)) (by omega))
  refine tu_jmp [1, 2, 0] (lv' := [(0, tu_r 11), (1, tu_i w), (2, tu_i 0)]) ⟨rfl, rfl, rfl, trivial⟩ rfl (lp2 ((m + 1 - 0) + 1) 0 (M 16) (by omega) (by intro b hb; omega) (by omega))
set_option maxRecDepth 20000 in
set_option maxHeartbeats 4000000 in
theorem c_X1_heldByBestWay {M : tu_M} (s b n m : Nat) (hK : tu_LK (M 11) (M 12) (M 13) (M 14) n m) (hT : tu_Tx (M 11) (M 12) (M 13) (M 14) n m (M 15)) (hs : s < n) (hb : b < m) : tu_MI tu_Y_X1_heldByBestWay [tu_r 11, tu_i ((s : Nat) : Int), tu_i ((b : Nat) : Int)] M (fun z M' => M' = M ∧ z = ((tu_hx (M 11) (M 12) (M 13) (M 14) (M 15) s b : Nat) : Int)) := by
  obtain ⟨hK1, hKn, hKm, hK0, hKd, hKl, hKh, hKk, hKa, hKr⟩ := id hK
  obtain ⟨hK4, hK5⟩ := hK1
  have g1 := hT.bd (s := s) (b := b) hKm.2 (by omega) (by omega)
  have gm := tu_mh_le hK hb
  refine tu_MI.of (ty := .int) (by decide) rfl (by first | exact Or.inl rfl | exact Or.inr rfl) (Nat.le_of_ble_eq_true rfl) (fun T (X : tu_X T cX1_heldByBestWay RX1 2 45) hnl hrt hret => ?_)
  have hret : tu_RI T cX1_heldByBestWay (fun z M' => M' = M ∧ z = ((tu_hx (M 11) (M 12) (M 13) (M 14) (M 15) s b : Nat) : Int)) := hret
  have hnl : T.2.2.2.2.2.2.2.2.2.2.1 = 4 := hnl
  show tu_W T 0 [(0, tu_r 11), (1, tu_i ((s : Nat) : Int)), (2, tu_i ((b : Nat) : Int))] [] M
  refine tu_iconst 0 X dX1_heldByBestWay_0 ?_
  refine tu_istore_n 1 X (lv' := [(3, tu_i 1), (0, tu_r 11), (1, tu_i ((s : Nat) : Int)), (2, tu_i ((b : Nat) : Int))]) dX1_heldByBestWay_1 (by rw [hnl]; decide) rfl ?_
  have lp2 : ∀ (nq : Nat) (k : Nat), (k ≤ tu_mh (M 11) (M 14) b) → (tu_fs (fun h => decide (tu_ch (M 11) (M 12) (M 13) (M 15) s b h = M 15 (s * 25 + b))) k = 0) → tu_mh (M 11) (M 14) b - k < nq → tu_W T 2 [(0, tu_r 11), (1, tu_i ((s : Nat) : Int)), (2, tu_i ((b : Nat) : Int)), (3, tu_i (((k + 1) : Nat) : Int))] [] M := by
    intro nq
    induction nq with
    | zero => intros; omega
    | succ nq ih2 =>
      intro k hk hf hn2
      refine tu_iload_n 2 X 3 dX1_heldByBestWay_2 rfl ?_
      refine tu_aload_n 3 X 0 dX1_heldByBestWay_3 rfl ?_
      refine tu_iload_n 4 X 2 dX1_heldByBestWay_4 rfl ?_
      refine tu_callVI 5 X (st := [tu_i (((k + 1) : Nat) : Int)]) (as := [tu_i ((b : Nat) : Int)]) (c_X1_mostHeld b n m (show tu_LK (M 11) (M 12) (M 13) (M 14) n m from by first | assumption | omega | exact ⟨by omega, by omega⟩ | decide) (show b < m from by first | assumption | omega | exact ⟨by omega, by omega⟩ | decide)) sv_RX1_76 dX1_heldByBestWay_5 rfl (by decide) rfl rfl rfl (Nat.le_of_ble_eq_true rfl) ⟨by decide, by decide⟩ (fun z M' h => ?_)
      obtain ⟨hM5, hz5⟩ := h
      refine tu_st_eq rfl (M' := M) hM5 ?_
      refine tu_tp (b := ((tu_mh (M 11) (M 14) b : Nat) : Int)) hz5 ?_
      refine tu_icmp_gt 8 X 40 dX1_heldByBestWay_8 (by decide) (show tu_rg (((k + 1) : Nat) : Int) from by first | assumption | exact ⟨by omega, by omega⟩) (show tu_rg ((tu_mh (M 11) (M 14) b : Nat) : Int) from by first | assumption | exact ⟨by omega, by omega⟩) (fun br8 => ?_) (fun br8 => ?_)
      ·
        refine tu_iconst 40 X dX1_heldByBestWay_40 ?_
        refine hret 41 _ _ 0 dX1_heldByBestWay_41 (fun h => by rw [hrt] at h; cases h) ?_
        refine ⟨rfl, ?_⟩
        show _ = ((tu_fs (fun h => decide (tu_ch (M 11) (M 12) (M 13) (M 15) s b h = M 15 (s * 25 + b))) (tu_mh (M 11) (M 14) b) : Nat) : Int)
        rw [show tu_mh (M 11) (M 14) b = k from by omega, hf]; rfl
      ·
        refine tu_aload_n 11 X 0 dX1_heldByBestWay_11 rfl ?_
        refine tu_iload_n 12 X 1 dX1_heldByBestWay_12 rfl ?_
        refine tu_iload_n 13 X 2 dX1_heldByBestWay_13 rfl ?_
        refine tu_iload_n 14 X 3 dX1_heldByBestWay_14 rfl ?_
        refine tu_callVI 15 X (st := []) (as := [tu_i ((s : Nat) : Int), tu_i ((b : Nat) : Int), tu_i (((k + 1) : Nat) : Int)]) (c_X1_costOfHeld s b (k + 1) n m (show tu_LK (M 11) (M 12) (M 13) (M 14) n m from by first | assumption | omega | exact ⟨by omega, by omega⟩ | decide) (show s < n from by first | assumption | omega | exact ⟨by omega, by omega⟩ | decide) (show b < m from by first | assumption | omega | exact ⟨by omega, by omega⟩ | decide) (show b + (k + 1) ≤ m from by first | assumption | omega | exact ⟨by omega, by omega⟩ | decide)) sv_RX1_80 dX1_heldByBestWay_15 rfl (by decide) rfl rfl rfl (Nat.le_of_ble_eq_true rfl) ⟨by decide, by decide⟩ (fun z M' h => ?_)
        obtain ⟨hM15, hz15⟩ := h
        refine tu_st_eq rfl (M' := M) hM15 ?_
        refine tu_tp (b := (tu_ch (M 11) (M 12) (M 13) (M 15) s b (k + 1))) hz15 ?_
        refine tu_aload_n 18 X 0 dX1_heldByBestWay_18 rfl ?_
        refine tu_getR 19 X dX1_heldByBestWay_19 fl_RX1_40 (by decide) rfl rfl ?_
        refine tu_iload_n 22 X 1 dX1_heldByBestWay_22 rfl ?_
        refine tu_bipush 23 X dX1_heldByBestWay_23 (by decide) ?_
        refine tu_imul 25 X dX1_heldByBestWay_25 ?_
        refine tu_iload_n 26 X 2 dX1_heldByBestWay_26 rfl ?_
        refine tu_iadd 27 X dX1_heldByBestWay_27 ?_
        refine tu_iald 28 X (x := M 15 ((s * 25) + b)) ((s * 25) + b) dX1_heldByBestWay_28 (by decide) rfl (by decide) (by omega) (by omega) rfl ?_
        have g6 := hT.ch hK (s := s) (b := b) (q := k + 1) hs hb (by omega) (by omega)
        refine tu_icmp_ne 29 X 34 dX1_heldByBestWay_29 (by decide) (show tu_rg (tu_ch (M 11) (M 12) (M 13) (M 15) s b (k + 1)) from by first | assumption | exact ⟨by omega, by omega⟩) (show tu_rg (M 15 ((s * 25) + b)) from by first | assumption | exact ⟨by omega, by omega⟩) (fun br29 => ?_) (fun br29 => ?_)
        ·
          refine tu_iinc 34 X (lv' := [(3, tu_i ((((k + 1) : Nat) : Int) + 1)), (0, tu_r 11), (1, tu_i ((s : Nat) : Int)), (2, tu_i ((b : Nat) : Int))]) 3 dX1_heldByBestWay_34 rfl (by rw [hnl]; decide) rfl ?_
          refine tu_goto 37 X 2 dX1_heldByBestWay_37 (by decide) ?_
          refine tu_jmp [1, 2, 3, 0] (lv' := [(0, tu_r 11), (1, tu_i ((s : Nat) : Int)), (2, tu_i ((b : Nat) : Int)), (3, tu_i ((((k + 1) + 1) : Nat) : Int))]) ⟨rfl, rfl, rfl, tu_ei (by first | rfl | omega), trivial⟩ rfl (ih2 (k + 1) (by omega) (by exact tu_fs_miss hf (by simpa using br29)) (by omega))
        ·
          refine tu_iload_n 32 X 3 dX1_heldByBestWay_32 rfl ?_
          refine hret 33 _ _ (((k + 1) : Nat) : Int) dX1_heldByBestWay_33 (fun h => by rw [hrt] at h; cases h) ?_
          refine ⟨rfl, ?_⟩
          show _ = ((tu_fs (fun h => decide (tu_ch (M 11) (M 12) (M 13) (M 15) s b h = M 15 (s * 25 + b))) (tu_mh (M 11) (M 14) b) : Nat) : Int)
          rw [tu_fs_hit hf (by simpa using br29) (by omega)]
  refine tu_jmp [1, 2, 3, 0] (lv' := [(0, tu_r 11), (1, tu_i ((s : Nat) : Int)), (2, tu_i ((b : Nat) : Int)), (3, tu_i (((0 + 1) : Nat) : Int))]) ⟨rfl, rfl, rfl, tu_ei (by first | rfl | omega), trivial⟩ rfl (lp2 ((tu_mh (M 11) (M 14) b - 0) + 1) 0 (by omega) (by rfl) (by omega))
set_option maxRecDepth 20000 in
set_option maxHeartbeats 4000000 in
theorem c_X1_findBestWay {M : tu_M} (n m : Nat) (hK : tu_LK (M 11) (M 12) (M 13) (M 14) n m) (hT : tu_Tx (M 11) (M 12) (M 13) (M 14) n m (M 15)) : tu_MV tu_Y_X1_findBestWay [tu_r 11] M (fun M' => ∃ (f : Nat → Int) (g : Nat → Int), M' = tu_row (tu_row M 17 f) 18 g ∧ (∀ t, t < n → f t = ((tu_wb (M 11) (M 12) (M 13) (M 14) (M 15) m t : Nat) : Int) ∧ g t = ((tu_wl (M 11) (M 12) (M 13) (M 14) (M 15) m t : Nat) : Int))) := by
  obtain ⟨hK1, hKn, hKm, hK0, hKd, hKl, hKh, hKk, hKa, hKr⟩ := id hK
  obtain ⟨hK4, hK5⟩ := hK1
  refine tu_MV.of (by decide) rfl (Nat.le_of_ble_eq_true rfl) (fun T (X : tu_X T cX1_findBestWay RX1 3 68) hnl hret => ?_)
  have hret : tu_RV T cX1_findBestWay (fun M' => ∃ (f : Nat → Int) (g : Nat → Int), M' = tu_row (tu_row M 17 f) 18 g ∧ (∀ t, t < n → f t = ((tu_wb (M 11) (M 12) (M 13) (M 14) (M 15) m t : Nat) : Int) ∧ g t = ((tu_wl (M 11) (M 12) (M 13) (M 14) (M 15) m t : Nat) : Int))) := hret
  have hnl : T.2.2.2.2.2.2.2.2.2.2.1 = 3 := hnl
  show tu_W T 0 [(0, tu_r 11)] [] M
  refine tu_iconst 0 X dX1_findBestWay_0 ?_
  refine tu_istore_n 1 X (lv' := [(1, tu_i 0), (0, tu_r 11)]) dX1_findBestWay_1 (by rw [hnl]; decide) rfl ?_
  refine tu_iconst 2 X dX1_findBestWay_2 ?_
  refine tu_istore_n 3 X (lv' := [(2, tu_i 0), (1, tu_i 0), (0, tu_r 11)]) dX1_findBestWay_3 (by rw [hnl]; decide) rfl ?_
  refine tu_st_eq rfl (M' := tu_row M 17 (M 17)) ((tu_rx M 17).symm) ?_
  refine tu_st_eq rfl (M' := tu_row (tu_row M 17 (M 17)) 18 (M 18)) ((congrArg (fun m => tu_row m 17 (M 17)) ((tu_rx M 18).symm)).trans (tu_rc M (M 18) (M 17) rfl)) ?_
  have lp4 : ∀ (nq : Nat) (s : Nat) (f : Nat → Int) (g : Nat → Int), (s ≤ n) → (∀ t, t < s → f t = ((tu_wb (M 11) (M 12) (M 13) (M 14) (M 15) m t : Nat) : Int) ∧ g t = ((tu_wl (M 11) (M 12) (M 13) (M 14) (M 15) m t : Nat) : Int)) → n - s < nq → tu_W T 4 [(0, tu_r 11), (1, tu_i (((tu_wp (M 11) (M 12) (M 13) (M 14) (M 15) m s) : Nat) : Int)), (2, tu_i ((s : Nat) : Int))] [] (tu_row (tu_row M 17 f) 18 g) := by
    intro nq
    induction nq with
    | zero => intros; omega
    | succ nq ih4 =>
      intro s f g hs hw hn4
      have gw := tu_wp_le (c := M 15) hK s
      refine tu_iload_n 4 X 2 dX1_findBestWay_4 rfl ?_
      refine tu_aload_n 5 X 0 dX1_findBestWay_5 rfl ?_
      refine tu_getI 6 X (x := M 11 4) dX1_findBestWay_6 fl_RX1_24 (by decide) rfl rfl rfl ?_
      refine tu_tp (b := ((n : Nat) : Int)) (by exact hK.1.1) ?_
      refine tu_icmp_ge 9 X 81 dX1_findBestWay_9 (by decide) (show tu_rg ((s : Nat) : Int) from by first | assumption | exact ⟨by omega, by omega⟩) (show tu_rg ((n : Nat) : Int) from by first | assumption | exact ⟨by omega, by omega⟩) (fun br9 => ?_) (fun br9 => ?_)
      ·
        refine hret 81 _ _ dX1_findBestWay_81 ?_
        exact ⟨_, _, rfl, fun t ht => hw t (by omega)⟩
      ·
        have lp12 : ∀ (nq : Nat) (q : Nat), (q ≤ m) → (tu_ff (tu_hx (M 11) (M 12) (M 13) (M 14) (M 15) s) q (m - q) = tu_wb (M 11) (M 12) (M 13) (M 14) (M 15) m s) → m - q < nq → tu_W T 12 [(0, tu_r 11), (1, tu_i ((q : Nat) : Int)), (2, tu_i ((s : Nat) : Int))] [] (tu_row (tu_row M 17 f) 18 g) := by
          intro nq
          induction nq with
          | zero => intros; omega
          | succ nq ih12 =>
            intro q hq hff hn12
            refine tu_iload_n 12 X 1 dX1_findBestWay_12 rfl ?_
            refine tu_aload_n 13 X 0 dX1_findBestWay_13 rfl ?_
            refine tu_getI 14 X (x := M 11 5) dX1_findBestWay_14 fl_RX1_27 (by decide) rfl rfl rfl ?_
            refine tu_tp (b := ((m : Nat) : Int)) (by exact hK.1.2) ?_
            refine tu_icmp_ge 17 X 35 dX1_findBestWay_17 (by decide) (show tu_rg ((q : Nat) : Int) from by first | assumption | exact ⟨by omega, by omega⟩) (show tu_rg ((m : Nat) : Int) from by first | assumption | exact ⟨by omega, by omega⟩) (fun br17 => ?_) (fun br17 => ?_)
            ·
              have hq2 : q = tu_wb (M 11) (M 12) (M 13) (M 14) (M 15) m s := by rw [← hff, show m - q = 0 from by omega]; rfl
              refine tu_aload_n 35 X 0 dX1_findBestWay_35 rfl ?_
              refine tu_getR 36 X dX1_findBestWay_36 fl_RX1_46 (by decide) rfl rfl ?_
              refine tu_iload_n 39 X 2 dX1_findBestWay_39 rfl ?_
              refine tu_iload_n 40 X 1 dX1_findBestWay_40 rfl ?_
              refine tu_iast 41 X (M' := tu_row (tu_row M 17 (tu_u f s ((q : Nat) : Int))) 18 g) s dX1_findBestWay_41 (by decide) rfl (by decide) (by omega) (by omega) ((tu_rc (tu_row M 17 f) g (tu_u f s ((q : Nat) : Int)) rfl).trans (congrArg (fun m => tu_row m 18 g) (tu_rr M 17 f (tu_u f s ((q : Nat) : Int))))) ?_
              refine tu_aload_n 42 X 0 dX1_findBestWay_42 rfl ?_
              refine tu_getR 43 X dX1_findBestWay_43 fl_RX1_49 (by decide) rfl rfl ?_
              refine tu_iload_n 46 X 2 dX1_findBestWay_46 rfl ?_
              refine tu_iload_n 47 X 1 dX1_findBestWay_47 rfl ?_
              refine tu_aload_n 48 X 0 dX1_findBestWay_48 rfl ?_
              refine tu_getI 49 X (x := M 11 5) dX1_findBestWay_49 fl_RX1_27 (by decide) rfl rfl rfl ?_
              refine tu_tp (b := ((m : Nat) : Int)) (by exact hK.1.2) ?_
              refine tu_icmp_ge 52 X 64 dX1_findBestWay_52 (by decide) (show tu_rg ((q : Nat) : Int) from by first | assumption | exact ⟨by omega, by omega⟩) (show tu_rg ((m : Nat) : Int) from by first | assumption | exact ⟨by omega, by omega⟩) (fun br52 => ?_) (fun br52 => ?_)
              ·
                refine tu_iconst 64 X dX1_findBestWay_64 ?_
                refine tu_tp (b := ((tu_wl (M 11) (M 12) (M 13) (M 14) (M 15) m s : Nat) : Int)) (by unfold tu_wl; rw [if_neg (by omega)]; rfl) ?_
                refine tu_iast 65 X (M' := tu_row (tu_row M 17 (tu_u f s ((q : Nat) : Int))) 18 (tu_u g s ((tu_wl (M 11) (M 12) (M 13) (M 14) (M 15) m s : Nat) : Int))) s dX1_findBestWay_65 (by decide) rfl (by decide) (by omega) (by omega) (tu_rr (tu_row M 17 (tu_u f s ((q : Nat) : Int))) 18 g (tu_u g s ((tu_wl (M 11) (M 12) (M 13) (M 14) (M 15) m s : Nat) : Int))) ?_
                refine tu_iload_n 66 X 1 dX1_findBestWay_66 rfl ?_
                refine tu_aload_n 67 X 0 dX1_findBestWay_67 rfl ?_
                refine tu_getR 68 X dX1_findBestWay_68 fl_RX1_49 (by decide) rfl rfl ?_
                refine tu_iload_n 71 X 2 dX1_findBestWay_71 rfl ?_
                refine tu_iald 72 X (x := (tu_u g s ((tu_wl (M 11) (M 12) (M 13) (M 14) (M 15) m s : Nat) : Int)) s) s dX1_findBestWay_72 (by decide) rfl (by decide) (by omega) (by omega) rfl ?_
                refine tu_tp (b := ((tu_wl (M 11) (M 12) (M 13) (M 14) (M 15) m s : Nat) : Int)) (by exact tu_u_s _ _ _) ?_
                refine tu_iadd 73 X dX1_findBestWay_73 ?_
                refine tu_istore_n 74 X (lv' := [(1, tu_i (((q : Nat) : Int) + ((tu_wl (M 11) (M 12) (M 13) (M 14) (M 15) m s : Nat) : Int))), (0, tu_r 11), (2, tu_i ((s : Nat) : Int))]) dX1_findBestWay_74 (by rw [hnl]; decide) rfl ?_
                refine tu_iinc 75 X (lv' := [(2, tu_i (((s : Nat) : Int) + 1)), (1, tu_i (((q : Nat) : Int) + ((tu_wl (M 11) (M 12) (M 13) (M 14) (M 15) m s : Nat) : Int))), (0, tu_r 11)]) 2 dX1_findBestWay_75 rfl (by rw [hnl]; decide) rfl ?_
                refine tu_goto 78 X 4 dX1_findBestWay_78 (by decide) ?_
                refine tu_jmp [2, 1, 0] (lv' := [(0, tu_r 11), (1, tu_i (((tu_wp (M 11) (M 12) (M 13) (M 14) (M 15) m (s + 1)) : Nat) : Int)), (2, tu_i (((s + 1) : Nat) : Int))]) ⟨rfl, tu_ei (by first | rfl | (rw [tu_wp_s, ← hq2]; omega)), tu_ei (by first | rfl | omega), trivial⟩ rfl (ih4 (s + 1) (tu_u f s ((q : Nat) : Int)) (tu_u g s ((tu_wl (M 11) (M 12) (M 13) (M 14) (M 15) m s : Nat) : Int)) (by omega) (by intro t ht; rcases Nat.lt_or_ge t s with q9 | q9; rw [tu_u_n _ _ (by omega), tu_u_n _ _ (by omega)]; exact hw t q9; rw [show t = s from by omega, tu_u_s, tu_u_s, ← hq2]; exact ⟨rfl, rfl⟩) (by omega))
              ·
                refine tu_aload_n 55 X 0 dX1_findBestWay_55 rfl ?_
                refine tu_iload_n 56 X 2 dX1_findBestWay_56 rfl ?_
                refine tu_iload_n 57 X 1 dX1_findBestWay_57 rfl ?_
                refine tu_callVI 58 X (st := [tu_i ((s : Nat) : Int), tu_r 18]) (as := [tu_i ((s : Nat) : Int), tu_i ((q : Nat) : Int)]) (c_X1_heldByBestWay s q n m (show tu_LK (M 11) (M 12) (M 13) (M 14) n m from by first | assumption | omega | exact ⟨by omega, by omega⟩ | decide) (show tu_Tx (M 11) (M 12) (M 13) (M 14) n m (M 15) from by first | assumption | omega | exact ⟨by omega, by omega⟩ | decide) (show s < n from by first | assumption | omega | exact ⟨by omega, by omega⟩ | decide) (show q < m from by first | assumption | omega | exact ⟨by omega, by omega⟩ | decide)) sv_RX1_97 dX1_findBestWay_58 rfl (by decide) rfl rfl rfl (Nat.le_of_ble_eq_true rfl) ⟨by decide, by decide⟩ (fun z M' h => ?_)
                obtain ⟨hM58, hz58⟩ := h
                refine tu_st_eq rfl (M' := tu_row (tu_row M 17 (tu_u f s ((q : Nat) : Int))) 18 g) hM58 ?_
                refine tu_tp (b := ((tu_hx (M 11) (M 12) (M 13) (M 14) (M 15) s q : Nat) : Int)) hz58 ?_
                refine tu_tp (b := ((tu_wl (M 11) (M 12) (M 13) (M 14) (M 15) m s : Nat) : Int)) (by unfold tu_wl; rw [if_pos (by omega), ← hq2]) ?_
                refine tu_goto 61 X 65 dX1_findBestWay_61 (by decide) ?_
                refine tu_iast 65 X (M' := tu_row (tu_row M 17 (tu_u f s ((q : Nat) : Int))) 18 (tu_u g s ((tu_wl (M 11) (M 12) (M 13) (M 14) (M 15) m s : Nat) : Int))) s dX1_findBestWay_65 (by decide) rfl (by decide) (by omega) (by omega) (tu_rr (tu_row M 17 (tu_u f s ((q : Nat) : Int))) 18 g (tu_u g s ((tu_wl (M 11) (M 12) (M 13) (M 14) (M 15) m s : Nat) : Int))) ?_
                refine tu_iload_n 66 X 1 dX1_findBestWay_66 rfl ?_
                refine tu_aload_n 67 X 0 dX1_findBestWay_67 rfl ?_
                refine tu_getR 68 X dX1_findBestWay_68 fl_RX1_49 (by decide) rfl rfl ?_
                refine tu_iload_n 71 X 2 dX1_findBestWay_71 rfl ?_
                refine tu_iald 72 X (x := (tu_u g s ((tu_wl (M 11) (M 12) (M 13) (M 14) (M 15) m s : Nat) : Int)) s) s dX1_findBestWay_72 (by decide) rfl (by decide) (by omega) (by omega) rfl ?_
                refine tu_tp (b := ((tu_wl (M 11) (M 12) (M 13) (M 14) (M 15) m s : Nat) : Int)) (by exact tu_u_s _ _ _) ?_
                refine tu_iadd 73 X dX1_findBestWay_73 ?_
                refine tu_istore_n 74 X (lv' := [(1, tu_i (((q : Nat) : Int) + ((tu_wl (M 11) (M 12) (M 13) (M 14) (M 15) m s : Nat) : Int))), (0, tu_r 11), (2, tu_i ((s : Nat) : Int))]) dX1_findBestWay_74 (by rw [hnl]; decide) rfl ?_
                refine tu_iinc 75 X (lv' := [(2, tu_i (((s : Nat) : Int) + 1)), (1, tu_i (((q : Nat) : Int) + ((tu_wl (M 11) (M 12) (M 13) (M 14) (M 15) m s : Nat) : Int))), (0, tu_r 11)]) 2 dX1_findBestWay_75 rfl (by rw [hnl]; decide) rfl ?_
                refine tu_goto 78 X 4 dX1_findBestWay_78 (by decide) ?_
                refine tu_jmp [2, 1, 0] (lv' := [(0, tu_r 11), (1, tu_i (((tu_wp (M 11) (M 12) (M 13) (M 14) (M 15) m (s + 1)) : Nat) : Int)), (2, tu_i (((s + 1) : Nat) : Int))]) ⟨rfl, tu_ei (by first | rfl | (rw [tu_wp_s, ← hq2]; omega)), tu_ei (by first | rfl | omega), trivial⟩ rfl (ih4 (s + 1) (tu_u f s ((q : Nat) : Int)) (tu_u g s ((tu_wl (M 11) (M 12) (M 13) (M 14) (M 15) m s : Nat) : Int)) (by omega) (by intro t ht; rcases Nat.lt_or_ge t s with q9 | q9; rw [tu_u_n _ _ (by omega), tu_u_n _ _ (by omega)]; exact hw t q9; rw [show t = s from by omega, tu_u_s, tu_u_s, ← hq2]; exact ⟨rfl, rfl⟩) (by omega))
            ·
              refine tu_aload_n 20 X 0 dX1_findBestWay_20 rfl ?_
              refine tu_iload_n 21 X 2 dX1_findBestWay_21 rfl ?_
              refine tu_iload_n 22 X 1 dX1_findBestWay_22 rfl ?_
              refine tu_callVI 23 X (st := []) (as := [tu_i ((s : Nat) : Int), tu_i ((q : Nat) : Int)]) (c_X1_heldByBestWay s q n m (show tu_LK (M 11) (M 12) (M 13) (M 14) n m from by first | assumption | omega | exact ⟨by omega, by omega⟩ | decide) (show tu_Tx (M 11) (M 12) (M 13) (M 14) n m (M 15) from by first | assumption | omega | exact ⟨by omega, by omega⟩ | decide) (show s < n from by first | assumption | omega | exact ⟨by omega, by omega⟩ | decide) (show q < m from by first | assumption | omega | exact ⟨by omega, by omega⟩ | decide)) sv_RX1_97 dX1_findBestWay_23 rfl (by decide) rfl rfl rfl (Nat.le_of_ble_eq_true rfl) ⟨by decide, by decide⟩ (fun z M' h => ?_)
              obtain ⟨hM23, hz23⟩ := h
              refine tu_st_eq rfl (M' := tu_row (tu_row M 17 f) 18 g) hM23 ?_
              refine tu_tp (b := ((tu_hx (M 11) (M 12) (M 13) (M 14) (M 15) s q : Nat) : Int)) hz23 ?_
              have ghx := tu_hx_le (c := M 15) hK s (show q < m from by omega)
              refine tu_if_ne 26 X 35 dX1_findBestWay_26 (by decide) (show tu_rg ((tu_hx (M 11) (M 12) (M 13) (M 14) (M 15) s q : Nat) : Int) from by first | assumption | exact ⟨by omega, by omega⟩) (fun br26 => ?_) (fun br26 => ?_)
              ·
                have hq2 : q = tu_wb (M 11) (M 12) (M 13) (M 14) (M 15) m s := by rw [← hff, show m - q = m - (q + 1) + 1 from by omega, tu_ff_h (by omega)]
                refine tu_aload_n 35 X 0 dX1_findBestWay_35 rfl ?_
                refine tu_getR 36 X dX1_findBestWay_36 fl_RX1_46 (by decide) rfl rfl ?_
                refine tu_iload_n 39 X 2 dX1_findBestWay_39 rfl ?_
                refine tu_iload_n 40 X 1 dX1_findBestWay_40 rfl ?_
                refine tu_iast 41 X (M' := tu_row (tu_row M 17 (tu_u f s ((q : Nat) : Int))) 18 g) s dX1_findBestWay_41 (by decide) rfl (by decide) (by omega) (by omega) ((tu_rc (tu_row M 17 f) g (tu_u f s ((q : Nat) : Int)) rfl).trans (congrArg (fun m => tu_row m 18 g) (tu_rr M 17 f (tu_u f s ((q : Nat) : Int))))) ?_
                refine tu_aload_n 42 X 0 dX1_findBestWay_42 rfl ?_
                refine tu_getR 43 X dX1_findBestWay_43 fl_RX1_49 (by decide) rfl rfl ?_
                refine tu_iload_n 46 X 2 dX1_findBestWay_46 rfl ?_
                refine tu_iload_n 47 X 1 dX1_findBestWay_47 rfl ?_
                refine tu_aload_n 48 X 0 dX1_findBestWay_48 rfl ?_
                refine tu_getI 49 X (x := M 11 5) dX1_findBestWay_49 fl_RX1_27 (by decide) rfl rfl rfl ?_
                refine tu_tp (b := ((m : Nat) : Int)) (by exact hK.1.2) ?_
                refine tu_icmp_ge 52 X 64 dX1_findBestWay_52 (by decide) (show tu_rg ((q : Nat) : Int) from by first | assumption | exact ⟨by omega, by omega⟩) (show tu_rg ((m : Nat) : Int) from by first | assumption | exact ⟨by omega, by omega⟩) (fun br52 => ?_) (fun br52 => ?_)
                ·
                  refine tu_iconst 64 X dX1_findBestWay_64 ?_
                  refine tu_tp (b := ((tu_wl (M 11) (M 12) (M 13) (M 14) (M 15) m s : Nat) : Int)) (by unfold tu_wl; rw [if_neg (by omega)]; rfl) ?_
                  refine tu_iast 65 X (M' := tu_row (tu_row M 17 (tu_u f s ((q : Nat) : Int))) 18 (tu_u g s ((tu_wl (M 11) (M 12) (M 13) (M 14) (M 15) m s : Nat) : Int))) s dX1_findBestWay_65 (by decide) rfl (by decide) (by omega) (by omega) (tu_rr (tu_row M 17 (tu_u f s ((q : Nat) : Int))) 18 g (tu_u g s ((tu_wl (M 11) (M 12) (M 13) (M 14) (M 15) m s : Nat) : Int))) ?_
                  refine tu_iload_n 66 X 1 dX1_findBestWay_66 rfl ?_
                  refine tu_aload_n 67 X 0 dX1_findBestWay_67 rfl ?_
                  refine tu_getR 68 X dX1_findBestWay_68 fl_RX1_49 (by decide) rfl rfl ?_
                  refine tu_iload_n 71 X 2 dX1_findBestWay_71 rfl ?_
                  refine tu_iald 72 X (x := (tu_u g s ((tu_wl (M 11) (M 12) (M 13) (M 14) (M 15) m s : Nat) : Int)) s) s dX1_findBestWay_72 (by decide) rfl (by decide) (by omega) (by omega) rfl ?_
                  refine tu_tp (b := ((tu_wl (M 11) (M 12) (M 13) (M 14) (M 15) m s : Nat) : Int)) (by exact tu_u_s _ _ _) ?_
                  refine tu_iadd 73 X dX1_findBestWay_73 ?_
                  refine tu_istore_n 74 X (lv' := [(1, tu_i (((q : Nat) : Int) + ((tu_wl (M 11) (M 12) (M 13) (M 14) (M 15) m s : Nat) : Int))), (0, tu_r 11), (2, tu_i ((s : Nat) : Int))]) dX1_findBestWay_74 (by rw [hnl]; decide) rfl ?_
                  refine tu_iinc 75 X (lv' := [(2, tu_i (((s : Nat) : Int) + 1)), (1, tu_i (((q : Nat) : Int) + ((tu_wl (M 11) (M 12) (M 13) (M 14) (M 15) m s : Nat) : Int))), (0, tu_r 11)]) 2 dX1_findBestWay_75 rfl (by rw [hnl]; decide) rfl ?_
                  refine tu_goto 78 X 4 dX1_findBestWay_78 (by decide) ?_
                  refine tu_jmp [2, 1, 0] (lv' := [(0, tu_r 11), (1, tu_i (((tu_wp (M 11) (M 12) (M 13) (M 14) (M 15) m (s + 1)) : Nat) : Int)), (2, tu_i (((s + 1) : Nat) : Int))]) ⟨rfl, tu_ei (by first | rfl | (rw [tu_wp_s, ← hq2]; omega)), tu_ei (by first | rfl | omega), trivial⟩ rfl (ih4 (s + 1) (tu_u f s ((q : Nat) : Int)) (tu_u g s ((tu_wl (M 11) (M 12) (M 13) (M 14) (M 15) m s : Nat) : Int)) (by omega) (by intro t ht; rcases Nat.lt_or_ge t s with q9 | q9; rw [tu_u_n _ _ (by omega), tu_u_n _ _ (by omega)]; exact hw t q9; rw [show t = s from by omega, tu_u_s, tu_u_s, ← hq2]; exact ⟨rfl, rfl⟩) (by omega))
                ·
                  refine tu_aload_n 55 X 0 dX1_findBestWay_55 rfl ?_
                  refine tu_iload_n 56 X 2 dX1_findBestWay_56 rfl ?_
                  refine tu_iload_n 57 X 1 dX1_findBestWay_57 rfl ?_
                  refine tu_callVI 58 X (st := [tu_i ((s : Nat) : Int), tu_r 18]) (as := [tu_i ((s : Nat) : Int), tu_i ((q : Nat) : Int)]) (c_X1_heldByBestWay s q n m (show tu_LK (M 11) (M 12) (M 13) (M 14) n m from by first | assumption | omega | exact ⟨by omega, by omega⟩ | decide) (show tu_Tx (M 11) (M 12) (M 13) (M 14) n m (M 15) from by first | assumption | omega | exact ⟨by omega, by omega⟩ | decide) (show s < n from by first | assumption | omega | exact ⟨by omega, by omega⟩ | decide) (show q < m from by first | assumption | omega | exact ⟨by omega, by omega⟩ | decide)) sv_RX1_97 dX1_findBestWay_58 rfl (by decide) rfl rfl rfl (Nat.le_of_ble_eq_true rfl) ⟨by decide, by decide⟩ (fun z M' h => ?_)
                  obtain ⟨hM58, hz58⟩ := h
                  refine tu_st_eq rfl (M' := tu_row (tu_row M 17 (tu_u f s ((q : Nat) : Int))) 18 g) hM58 ?_
                  refine tu_tp (b := ((tu_hx (M 11) (M 12) (M 13) (M 14) (M 15) s q : Nat) : Int)) hz58 ?_
                  refine tu_tp (b := ((tu_wl (M 11) (M 12) (M 13) (M 14) (M 15) m s : Nat) : Int)) (by unfold tu_wl; rw [if_pos (by omega), ← hq2]) ?_
                  refine tu_goto 61 X 65 dX1_findBestWay_61 (by decide) ?_
                  refine tu_iast 65 X (M' := tu_row (tu_row M 17 (tu_u f s ((q : Nat) : Int))) 18 (tu_u g s ((tu_wl (M 11) (M 12) (M 13) (M 14) (M 15) m s : Nat) : Int))) s dX1_findBestWay_65 (by decide) rfl (by decide) (by omega) (by omega) (tu_rr (tu_row M 17 (tu_u f s ((q : Nat) : Int))) 18 g (tu_u g s ((tu_wl (M 11) (M 12) (M 13) (M 14) (M 15) m s : Nat) : Int))) ?_
                  refine tu_iload_n 66 X 1 dX1_findBestWay_66 rfl ?_
                  refine tu_aload_n 67 X 0 dX1_findBestWay_67 rfl ?_
                  refine tu_getR 68 X dX1_findBestWay_68 fl_RX1_49 (by decide) rfl rfl ?_
                  refine tu_iload_n 71 X 2 dX1_findBestWay_71 rfl ?_
                  refine tu_iald 72 X (x := (tu_u g s ((tu_wl (M 11) (M 12) (M 13) (M 14) (M 15) m s : Nat) : Int)) s) s dX1_findBestWay_72 (by decide) rfl (by decide) (by omega) (by omega) rfl ?_
                  refine tu_tp (b := ((tu_wl (M 11) (M 12) (M 13) (M 14) (M 15) m s : Nat) : Int)) (by exact tu_u_s _ _ _) ?_
                  refine tu_iadd 73 X dX1_findBestWay_73 ?_
                  refine tu_istore_n 74 X (lv' := [(1, tu_i (((q : Nat) : Int) + ((tu_wl (M 11) (M 12) (M 13) (M 14) (M 15) m s : Nat) : Int))), (0, tu_r 11), (2, tu_i ((s : Nat) : Int))]) dX1_findBestWay_74 (by rw [hnl]; decide) rfl ?_
                  refine tu_iinc 75 X (lv' := [(2, tu_i (((s : Nat) : Int) + 1)), (1, tu_i (((q : Nat) : Int) + ((tu_wl (M 11) (M 12) (M 13) (M 14) (M 15) m s : Nat) : Int))), (0, tu_r 11)]) 2 dX1_findBestWay_75 rfl (by rw [hnl]; decide) rfl ?_
                  refine tu_goto 78 X 4 dX1_findBestWay_78 (by decide) ?_
                  refine tu_jmp [2, 1, 0] (lv' := [(0, tu_r 11), (1, tu_i (((tu_wp (M 11) (M 12) (M 13) (M 14) (M 15) m (s + 1)) : Nat) : Int)), (2, tu_i (((s + 1) : Nat) : Int))]) ⟨rfl, tu_ei (by first | rfl | (rw [tu_wp_s, ← hq2]; omega)), tu_ei (by first | rfl | omega), trivial⟩ rfl (ih4 (s + 1) (tu_u f s ((q : Nat) : Int)) (tu_u g s ((tu_wl (M 11) (M 12) (M 13) (M 14) (M 15) m s : Nat) : Int)) (by omega) (by intro t ht; rcases Nat.lt_or_ge t s with q9 | q9; rw [tu_u_n _ _ (by omega), tu_u_n _ _ (by omega)]; exact hw t q9; rw [show t = s from by omega, tu_u_s, tu_u_s, ← hq2]; exact ⟨rfl, rfl⟩) (by omega))
              ·
                refine tu_iinc 29 X (lv' := [(1, tu_i (((q : Nat) : Int) + 1)), (0, tu_r 11), (2, tu_i ((s : Nat) : Int))]) 1 dX1_findBestWay_29 rfl (by rw [hnl]; decide) rfl ?_
                refine tu_goto 32 X 12 dX1_findBestWay_32 (by decide) ?_
                refine tu_jmp [1, 0, 2] (lv' := [(0, tu_r 11), (1, tu_i (((q + 1) : Nat) : Int)), (2, tu_i ((s : Nat) : Int))]) ⟨rfl, tu_ei (by first | rfl | omega), rfl, trivial⟩ rfl (ih12 (q + 1) (by omega) (by rw [← hff, show m - q = m - (q + 1) + 1 from by omega, tu_ff_s (by omega)]) (by omega))
        refine tu_jmp [0, 1, 2] (lv' := [(0, tu_r 11), (1, tu_i (((tu_wp (M 11) (M 12) (M 13) (M 14) (M 15) m s) : Nat) : Int)), (2, tu_i ((s : Nat) : Int))]) ⟨rfl, rfl, rfl, trivial⟩ rfl (lp12 ((m - (tu_wp (M 11) (M 12) (M 13) (M 14) (M 15) m s)) + 1) (tu_wp (M 11) (M 12) (M 13) (M 14) (M 15) m s) (by omega) (by rfl) (by omega))
  refine tu_jmp [2, 1, 0] (lv' := [(0, tu_r 11), (1, tu_i (((tu_wp (M 11) (M 12) (M 13) (M 14) (M 15) m 0) : Nat) : Int)), (2, tu_i 0)]) ⟨rfl, tu_ei (by first | rfl | (rw [tu_wp_s, ← hq2]; omega)), rfl, trivial⟩ rfl (lp4 ((n - 0) + 1) 0 (M 17) (M 18) (by omega) (by intro t ht; omega) (by omega))
set_option maxRecDepth 20000 in
set_option maxHeartbeats 4000000 in
theorem c_X1_freeBeats {M : tu_M} (n m : Nat) (hK : tu_LK (M 11) (M 12) (M 13) (M 14) n m) (hT : tu_Tx (M 11) (M 12) (M 13) (M 14) n m (M 15)) : tu_MI tu_Y_X1_freeBeats [tu_r 11] M (fun z M' => ∃ (f : Nat → Int) (g : Nat → Int), M' = tu_row (tu_row M 17 f) 18 g ∧ z = tu_sm (fun q => if M 13 q = 0 then 0 else 1) m - tu_sm (fun t => ((tu_wl (M 11) (M 12) (M 13) (M 14) (M 15) m t : Nat) : Int)) n) := by
  obtain ⟨hK1, hKn, hKm, hK0, hKd, hKl, hKh, hKk, hKa, hKr⟩ := id hK
  obtain ⟨hK4, hK5⟩ := hK1
  refine tu_MI.of (ty := .int) (by decide) rfl (by first | exact Or.inl rfl | exact Or.inr rfl) (Nat.le_of_ble_eq_true rfl) (fun T (X : tu_X T cX1_freeBeats RX1 4 90) hnl hrt hret => ?_)
  have hret : tu_RI T cX1_freeBeats (fun z M' => ∃ (f : Nat → Int) (g : Nat → Int), M' = tu_row (tu_row M 17 f) 18 g ∧ z = tu_sm (fun q => if M 13 q = 0 then 0 else 1) m - tu_sm (fun t => ((tu_wl (M 11) (M 12) (M 13) (M 14) (M 15) m t : Nat) : Int)) n) := hret
  have hnl : T.2.2.2.2.2.2.2.2.2.2.1 = 3 := hnl
  show tu_W T 0 [(0, tu_r 11)] [] M
  refine tu_aload_n 0 X 0 dX1_freeBeats_0 rfl ?_
  refine tu_callVV 1 X (st := []) (as := []) (c_X1_findBestWay n m (show tu_LK (M 11) (M 12) (M 13) (M 14) n m from by first | assumption | omega | exact ⟨by omega, by omega⟩ | decide) (show tu_Tx (M 11) (M 12) (M 13) (M 14) n m (M 15) from by first | assumption | omega | exact ⟨by omega, by omega⟩ | decide)) sv_RX1_100 dX1_freeBeats_1 rfl (by decide) rfl rfl rfl (Nat.le_of_ble_eq_true rfl) ⟨by decide, by decide⟩ (fun M' h => ?_)
  obtain ⟨f_1, g_1, hM1, h1_0⟩ := h
  refine tu_st_eq rfl (M' := tu_row (tu_row M 17 f_1) 18 g_1) hM1 ?_
  refine tu_iconst 4 X dX1_freeBeats_4 ?_
  refine tu_istore_n 5 X (lv' := [(1, tu_i 0), (0, tu_r 11)]) dX1_freeBeats_5 (by rw [hnl]; decide) rfl ?_
  refine tu_iconst 6 X dX1_freeBeats_6 ?_
  refine tu_istore_n 7 X (lv' := [(2, tu_i 0), (1, tu_i 0), (0, tu_r 11)]) dX1_freeBeats_7 (by rw [hnl]; decide) rfl ?_
  have lp8 : ∀ (nq : Nat) (k : Nat), (k ≤ m) → m - k < nq → tu_W T 8 [(0, tu_r 11), (1, tu_i (tu_sm (fun q => if M 13 q = 0 then 0 else 1) k)), (2, tu_i ((k : Nat) : Int))] [] (tu_row (tu_row M 17 f_1) 18 g_1) := by
    intro nq
    induction nq with
    | zero => intros; omega
    | succ nq ih8 =>
      intro k hk hn8
      refine tu_iload_n 8 X 2 dX1_freeBeats_8 rfl ?_
      refine tu_aload_n 9 X 0 dX1_freeBeats_9 rfl ?_
      refine tu_getI 10 X (x := M 11 5) dX1_freeBeats_10 fl_RX1_27 (by decide) rfl rfl rfl ?_
      refine tu_tp (b := ((m : Nat) : Int)) (by exact hK.1.2) ?_
      refine tu_icmp_ge 13 X 34 dX1_freeBeats_13 (by decide) (show tu_rg ((k : Nat) : Int) from by first | assumption | exact ⟨by omega, by omega⟩) (show tu_rg ((m : Nat) : Int) from by first | assumption | exact ⟨by omega, by omega⟩) (fun br13 => ?_) (fun br13 => ?_)
      ·
        refine tu_iconst 34 X dX1_freeBeats_34 ?_
        refine tu_istore_n 35 X (lv' := [(2, tu_i 0), (0, tu_r 11), (1, tu_i (tu_sm (fun q => if M 13 q = 0 then 0 else 1) k))]) dX1_freeBeats_35 (by rw [hnl]; decide) rfl ?_
        have lp36 : ∀ (nq : Nat) (k : Nat), (k ≤ n) → n - k < nq → tu_W T 36 [(0, tu_r 11), (1, tu_i (tu_sm (fun q => if M 13 q = 0 then 0 else 1) m - tu_sm (fun t => ((tu_wl (M 11) (M 12) (M 13) (M 14) (M 15) m t : Nat) : Int)) k)), (2, tu_i ((k : Nat) : Int))] [] (tu_row (tu_row M 17 f_1) 18 g_1) := by
          intro nq
          induction nq with
          | zero => intros; omega
          | succ nq ih36 =>
            intro k hk hn36
            refine tu_iload_n 36 X 2 dX1_freeBeats_36 rfl ?_
            refine tu_aload_n 37 X 0 dX1_freeBeats_37 rfl ?_
            refine tu_getI 38 X (x := M 11 4) dX1_freeBeats_38 fl_RX1_24 (by decide) rfl rfl rfl ?_
            refine tu_tp (b := ((n : Nat) : Int)) (by exact hK.1.1) ?_
            refine tu_icmp_ge 41 X 59 dX1_freeBeats_41 (by decide) (show tu_rg ((k : Nat) : Int) from by first | assumption | exact ⟨by omega, by omega⟩) (show tu_rg ((n : Nat) : Int) from by first | assumption | exact ⟨by omega, by omega⟩) (fun br41 => ?_) (fun br41 => ?_)
            ·
              refine tu_iload_n 59 X 1 dX1_freeBeats_59 rfl ?_
              refine hret 60 _ _ (tu_sm (fun q => if M 13 q = 0 then 0 else 1) m - tu_sm (fun t => ((tu_wl (M 11) (M 12) (M 13) (M 14) (M 15) m t : Nat) : Int)) k) dX1_freeBeats_60 (fun h => by rw [hrt] at h; cases h) ?_
              refine ⟨_, _, rfl, ?_⟩
              rw [show n = k from by omega]
            ·
              refine tu_iload_n 44 X 1 dX1_freeBeats_44 rfl ?_
              refine tu_aload_n 45 X 0 dX1_freeBeats_45 rfl ?_
              refine tu_getR 46 X dX1_freeBeats_46 fl_RX1_49 (by decide) rfl rfl ?_
              refine tu_iload_n 49 X 2 dX1_freeBeats_49 rfl ?_
              refine tu_iald 50 X (x := g_1 k) k dX1_freeBeats_50 (by decide) rfl (by decide) (by omega) (by omega) rfl ?_
              refine tu_tp (b := ((tu_wl (M 11) (M 12) (M 13) (M 14) (M 15) m k : Nat) : Int)) (by exact (h1_0 k (by omega)).2) ?_
              refine tu_isub 51 X dX1_freeBeats_51 ?_
              refine tu_istore_n 52 X (lv' := [(1, tu_i ((tu_sm (fun q => if M 13 q = 0 then 0 else 1) m - tu_sm (fun t => ((tu_wl (M 11) (M 12) (M 13) (M 14) (M 15) m t : Nat) : Int)) k) - ((tu_wl (M 11) (M 12) (M 13) (M 14) (M 15) m k : Nat) : Int))), (0, tu_r 11), (2, tu_i ((k : Nat) : Int))]) dX1_freeBeats_52 (by rw [hnl]; decide) rfl ?_
              refine tu_iinc 53 X (lv' := [(2, tu_i (((k : Nat) : Int) + 1)), (1, tu_i ((tu_sm (fun q => if M 13 q = 0 then 0 else 1) m - tu_sm (fun t => ((tu_wl (M 11) (M 12) (M 13) (M 14) (M 15) m t : Nat) : Int)) k) - ((tu_wl (M 11) (M 12) (M 13) (M 14) (M 15) m k : Nat) : Int))), (0, tu_r 11)]) 2 dX1_freeBeats_53 rfl (by rw [hnl]; decide) rfl ?_
              refine tu_goto 56 X 36 dX1_freeBeats_56 (by decide) ?_
              refine tu_jmp [2, 1, 0] (lv' := [(0, tu_r 11), (1, tu_i (tu_sm (fun q => if M 13 q = 0 then 0 else 1) m - tu_sm (fun t => ((tu_wl (M 11) (M 12) (M 13) (M 14) (M 15) m t : Nat) : Int)) (k + 1))), (2, tu_i (((k + 1) : Nat) : Int))]) ⟨rfl, tu_ei (by first | rfl | (first | (rw [show m = k from by omega]; simp only [tu_sm]; omega) | (simp only [tu_sm]; omega))), tu_ei (by first | rfl | omega), trivial⟩ rfl (ih36 (k + 1) (by omega) (by omega))
        refine tu_jmp [1, 2, 0] (lv' := [(0, tu_r 11), (1, tu_i (tu_sm (fun q => if M 13 q = 0 then 0 else 1) m - tu_sm (fun t => ((tu_wl (M 11) (M 12) (M 13) (M 14) (M 15) m t : Nat) : Int)) 0)), (2, tu_i 0)]) ⟨rfl, tu_ei (by first | rfl | (first | (rw [show m = k from by omega]; simp only [tu_sm]; omega) | (simp only [tu_sm]; omega))), rfl, trivial⟩ rfl (lp36 ((n - 0) + 1) 0 (by omega) (by omega))
      ·
        refine tu_aload_n 16 X 0 dX1_freeBeats_16 rfl ?_
        refine tu_getR 17 X dX1_freeBeats_17 fl_RX1_34 (by decide) rfl rfl ?_
        refine tu_iload_n 20 X 2 dX1_freeBeats_20 rfl ?_
        refine tu_iald 21 X (x := M 13 k) k dX1_freeBeats_21 (by decide) rfl (by decide) (by omega) (by omega) rfl ?_
        have e2 := hKk k (by omega)
        refine tu_if_eq 22 X 28 dX1_freeBeats_22 (by decide) (show tu_rg (M 13 k) from by first | assumption | exact ⟨by omega, by omega⟩) (fun br22 => ?_) (fun br22 => ?_)
        ·
          refine tu_iinc 28 X (lv' := [(2, tu_i (((k : Nat) : Int) + 1)), (0, tu_r 11), (1, tu_i (tu_sm (fun q => if M 13 q = 0 then 0 else 1) k))]) 2 dX1_freeBeats_28 rfl (by rw [hnl]; decide) rfl ?_
          refine tu_goto 31 X 8 dX1_freeBeats_31 (by decide) ?_
          refine tu_jmp [1, 2, 0] (lv' := [(0, tu_r 11), (1, tu_i (tu_sm (fun q => if M 13 q = 0 then 0 else 1) (k + 1))), (2, tu_i (((k + 1) : Nat) : Int))]) ⟨rfl, tu_ei (by first | rfl | (simp only [tu_sm]; split <;> omega)), tu_ei (by first | rfl | omega), trivial⟩ rfl (ih8 (k + 1) (by omega) (by omega))
        ·
          refine tu_iinc 25 X (lv' := [(1, tu_i (tu_sm (fun q => if M 13 q = 0 then 0 else 1) k + 1)), (0, tu_r 11), (2, tu_i ((k : Nat) : Int))]) 1 dX1_freeBeats_25 rfl (by rw [hnl]; decide) rfl ?_
          refine tu_iinc 28 X (lv' := [(2, tu_i (((k : Nat) : Int) + 1)), (1, tu_i (tu_sm (fun q => if M 13 q = 0 then 0 else 1) k + 1)), (0, tu_r 11)]) 2 dX1_freeBeats_28 rfl (by rw [hnl]; decide) rfl ?_
          refine tu_goto 31 X 8 dX1_freeBeats_31 (by decide) ?_
          refine tu_jmp [2, 1, 0] (lv' := [(0, tu_r 11), (1, tu_i (tu_sm (fun q => if M 13 q = 0 then 0 else 1) (k + 1))), (2, tu_i (((k + 1) : Nat) : Int))]) ⟨rfl, tu_ei (by first | rfl | (simp only [tu_sm]; split <;> omega)), tu_ei (by first | rfl | omega), trivial⟩ rfl (ih8 (k + 1) (by omega) (by omega))
  refine tu_jmp [2, 1, 0] (lv' := [(0, tu_r 11), (1, tu_i (tu_sm (fun q => if M 13 q = 0 then 0 else 1) 0)), (2, tu_i 0)]) ⟨rfl, tu_ei (by first | rfl | (simp only [tu_sm]; split <;> omega)), rfl, trivial⟩ rfl (lp8 ((m - 0) + 1) 0 (by omega) (by omega))
set_option maxRecDepth 20000 in
set_option maxHeartbeats 4000000 in
theorem c_X1_hurtSyllables {M : tu_M} (n m : Nat) (hK : tu_LK (M 11) (M 12) (M 13) (M 14) n m) (hT : tu_Tx (M 11) (M 12) (M 13) (M 14) n m (M 15)) (hF : ∀ t, t < n → tu_wb (M 11) (M 12) (M 13) (M 14) (M 15) m t < m) : tu_MI tu_Y_X1_hurtSyllables [tu_r 11] M (fun z M' => ∃ (f : Nat → Int) (g : Nat → Int), M' = tu_row (tu_row M 17 f) 18 g ∧ z = tu_sm (fun t => if ¬ (M 12 t = 1 ↔ M 13 (tu_wb (M 11) (M 12) (M 13) (M 14) (M 15) m t) = 2) then 1 else 0) n) := by
  obtain ⟨hK1, hKn, hKm, hK0, hKd, hKl, hKh, hKk, hKa, hKr⟩ := id hK
  obtain ⟨hK4, hK5⟩ := hK1
  refine tu_MI.of (ty := .int) (by decide) rfl (by first | exact Or.inl rfl | exact Or.inr rfl) (Nat.le_of_ble_eq_true rfl) (fun T (X : tu_X T cX1_hurtSyllables RX1 4 90) hnl hrt hret => ?_)
  have hret : tu_RI T cX1_hurtSyllables (fun z M' => ∃ (f : Nat → Int) (g : Nat → Int), M' = tu_row (tu_row M 17 f) 18 g ∧ z = tu_sm (fun t => if ¬ (M 12 t = 1 ↔ M 13 (tu_wb (M 11) (M 12) (M 13) (M 14) (M 15) m t) = 2) then 1 else 0) n) := hret
  have hnl : T.2.2.2.2.2.2.2.2.2.2.1 = 3 := hnl
  show tu_W T 0 [(0, tu_r 11)] [] M
  refine tu_aload_n 0 X 0 dX1_hurtSyllables_0 rfl ?_
  refine tu_callVV 1 X (st := []) (as := []) (c_X1_findBestWay n m (show tu_LK (M 11) (M 12) (M 13) (M 14) n m from by first | assumption | omega | exact ⟨by omega, by omega⟩ | decide) (show tu_Tx (M 11) (M 12) (M 13) (M 14) n m (M 15) from by first | assumption | omega | exact ⟨by omega, by omega⟩ | decide)) sv_RX1_100 dX1_hurtSyllables_1 rfl (by decide) rfl rfl rfl (Nat.le_of_ble_eq_true rfl) ⟨by decide, by decide⟩ (fun M' h => ?_)
  obtain ⟨f_1, g_1, hM1, h1_0⟩ := h
  refine tu_st_eq rfl (M' := tu_row (tu_row M 17 f_1) 18 g_1) hM1 ?_
  refine tu_iconst 4 X dX1_hurtSyllables_4 ?_
  refine tu_istore_n 5 X (lv' := [(1, tu_i 0), (0, tu_r 11)]) dX1_hurtSyllables_5 (by rw [hnl]; decide) rfl ?_
  refine tu_iconst 6 X dX1_hurtSyllables_6 ?_
  refine tu_istore_n 7 X (lv' := [(2, tu_i 0), (1, tu_i 0), (0, tu_r 11)]) dX1_hurtSyllables_7 (by rw [hnl]; decide) rfl ?_
  have lp8 : ∀ (nq : Nat) (k : Nat), (k ≤ n) → n - k < nq → tu_W T 8 [(0, tu_r 11), (1, tu_i (tu_sm (fun t => if ¬ (M 12 t = 1 ↔ M 13 (tu_wb (M 11) (M 12) (M 13) (M 14) (M 15) m t) = 2) then 1 else 0) k)), (2, tu_i ((k : Nat) : Int))] [] (tu_row (tu_row M 17 f_1) 18 g_1) := by
    intro nq
    induction nq with
    | zero => intros; omega
    | succ nq ih8 =>
      intro k hk hn8
      refine tu_iload_n 8 X 2 dX1_hurtSyllables_8 rfl ?_
      refine tu_aload_n 9 X 0 dX1_hurtSyllables_9 rfl ?_
      refine tu_getI 10 X (x := M 11 4) dX1_hurtSyllables_10 fl_RX1_24 (by decide) rfl rfl rfl ?_
      refine tu_tp (b := ((n : Nat) : Int)) (by exact hK.1.1) ?_
      refine tu_icmp_ge 13 X 48 dX1_hurtSyllables_13 (by decide) (show tu_rg ((k : Nat) : Int) from by first | assumption | exact ⟨by omega, by omega⟩) (show tu_rg ((n : Nat) : Int) from by first | assumption | exact ⟨by omega, by omega⟩) (fun br13 => ?_) (fun br13 => ?_)
      ·
        refine tu_iload_n 48 X 1 dX1_hurtSyllables_48 rfl ?_
        refine hret 49 _ _ (tu_sm (fun t => if ¬ (M 12 t = 1 ↔ M 13 (tu_wb (M 11) (M 12) (M 13) (M 14) (M 15) m t) = 2) then 1 else 0) k) dX1_hurtSyllables_49 (fun h => by rw [hrt] at h; cases h) ?_
        refine ⟨_, _, rfl, ?_⟩
        rw [show n = k from by omega]
      ·
        refine tu_aload_n 16 X 0 dX1_hurtSyllables_16 rfl ?_
        refine tu_getR 17 X dX1_hurtSyllables_17 fl_RX1_49 (by decide) rfl rfl ?_
        refine tu_iload_n 20 X 2 dX1_hurtSyllables_20 rfl ?_
        refine tu_iald 21 X (x := g_1 k) k dX1_hurtSyllables_21 (by decide) rfl (by decide) (by omega) (by omega) rfl ?_
        refine tu_tp (b := ((tu_wl (M 11) (M 12) (M 13) (M 14) (M 15) m k : Nat) : Int)) (by exact (h1_0 k (by omega)).2) ?_
        have e3 := hF k (by omega)
        have e4 := tu_wl_pos hK (c := M 15) k e3
        have e5 := (tu_wp_le (c := M 15) hK k).2.2
        refine tu_if_le 22 X 42 dX1_hurtSyllables_22 (by decide) (show tu_rg ((tu_wl (M 11) (M 12) (M 13) (M 14) (M 15) m k : Nat) : Int) from by first | assumption | exact ⟨by omega, by omega⟩) (fun br22 => ?_) (fun br22 => ?_)
        ·
          exfalso; omega
        ·
          refine tu_aload_n 25 X 0 dX1_hurtSyllables_25 rfl ?_
          refine tu_iload_n 26 X 2 dX1_hurtSyllables_26 rfl ?_
          refine tu_aload_n 27 X 0 dX1_hurtSyllables_27 rfl ?_
          refine tu_getR 28 X dX1_hurtSyllables_28 fl_RX1_46 (by decide) rfl rfl ?_
          refine tu_iload_n 31 X 2 dX1_hurtSyllables_31 rfl ?_
          refine tu_iald 32 X (x := f_1 k) k dX1_hurtSyllables_32 (by decide) rfl (by decide) (by omega) (by omega) rfl ?_
          refine tu_tp (b := ((tu_wb (M 11) (M 12) (M 13) (M 14) (M 15) m k : Nat) : Int)) (by exact (h1_0 k (by omega)).1) ?_
          refine tu_st_eq (show _ = [tu_i (((tu_wb (M 11) (M 12) (M 13) (M 14) (M 15) m k) : Nat) : Int), tu_i ((k : Nat) : Int), tu_r 11] from by first | rfl | (simp only [List.cons.injEq, Sum.inl.injEq, and_true, true_and]; omega)) rfl ?_
          refine tu_callVI 33 X (st := []) (as := [tu_i ((k : Nat) : Int), tu_i (((tu_wb (M 11) (M 12) (M 13) (M 14) (M 15) m k) : Nat) : Int)]) (c_X1_hurts k (tu_wb (M 11) (M 12) (M 13) (M 14) (M 15) m k) n m (show tu_LK (M 11) (M 12) (M 13) (M 14) n m from by first | assumption | omega | exact ⟨by omega, by omega⟩ | decide) (show k < n from by first | assumption | omega | exact ⟨by omega, by omega⟩ | decide) (show (tu_wb (M 11) (M 12) (M 13) (M 14) (M 15) m k) < m from by first | assumption | omega | exact ⟨by omega, by omega⟩ | decide)) sv_RX1_89 dX1_hurtSyllables_33 rfl (by decide) rfl rfl rfl (Nat.le_of_ble_eq_true rfl) ⟨by decide, by decide⟩ (fun z M' h => ?_)
          obtain ⟨hM33, hz33⟩ := h
          refine tu_st_eq rfl (M' := tu_row (tu_row M 17 f_1) 18 g_1) hM33 ?_
          refine tu_tp (b := tu_b (¬ (M 12 k = 1 ↔ M 13 (tu_wb (M 11) (M 12) (M 13) (M 14) (M 15) m k) = 2))) hz33 ?_
          refine tu_if_eq 36 X 42 dX1_hurtSyllables_36 (by decide) tu_b_rg (fun br36 => ?_) (fun br36 => ?_)
          ·
            have br36 := tu_b_e0 br36
            refine tu_iinc 42 X (lv' := [(2, tu_i (((k : Nat) : Int) + 1)), (0, tu_r 11), (1, tu_i (tu_sm (fun t => if ¬ (M 12 t = 1 ↔ M 13 (tu_wb (M 11) (M 12) (M 13) (M 14) (M 15) m t) = 2) then 1 else 0) k))]) 2 dX1_hurtSyllables_42 rfl (by rw [hnl]; decide) rfl ?_
            refine tu_goto 45 X 8 dX1_hurtSyllables_45 (by decide) ?_
            refine tu_jmp [1, 2, 0] (lv' := [(0, tu_r 11), (1, tu_i (tu_sm (fun t => if ¬ (M 12 t = 1 ↔ M 13 (tu_wb (M 11) (M 12) (M 13) (M 14) (M 15) m t) = 2) then 1 else 0) (k + 1))), (2, tu_i (((k + 1) : Nat) : Int))]) ⟨rfl, tu_ei (by first | rfl | (first | exact tu_sm_p (if_pos (by assumption)) | exact tu_sm_z (if_neg (by assumption)))), tu_ei (by first | rfl | omega), trivial⟩ rfl (ih8 (k + 1) (by omega) (by omega))
          ·
            have br36 := tu_b_n0 br36
            refine tu_iinc 39 X (lv' := [(1, tu_i (tu_sm (fun t => if ¬ (M 12 t = 1 ↔ M 13 (tu_wb (M 11) (M 12) (M 13) (M 14) (M 15) m t) = 2) then 1 else 0) k + 1)), (0, tu_r 11), (2, tu_i ((k : Nat) : Int))]) 1 dX1_hurtSyllables_39 rfl (by rw [hnl]; decide) rfl ?_
            refine tu_iinc 42 X (lv' := [(2, tu_i (((k : Nat) : Int) + 1)), (1, tu_i (tu_sm (fun t => if ¬ (M 12 t = 1 ↔ M 13 (tu_wb (M 11) (M 12) (M 13) (M 14) (M 15) m t) = 2) then 1 else 0) k + 1)), (0, tu_r 11)]) 2 dX1_hurtSyllables_42 rfl (by rw [hnl]; decide) rfl ?_
            refine tu_goto 45 X 8 dX1_hurtSyllables_45 (by decide) ?_
            refine tu_jmp [2, 1, 0] (lv' := [(0, tu_r 11), (1, tu_i (tu_sm (fun t => if ¬ (M 12 t = 1 ↔ M 13 (tu_wb (M 11) (M 12) (M 13) (M 14) (M 15) m t) = 2) then 1 else 0) (k + 1))), (2, tu_i (((k + 1) : Nat) : Int))]) ⟨rfl, tu_ei (by first | rfl | (first | exact tu_sm_p (if_pos (by assumption)) | exact tu_sm_z (if_neg (by assumption)))), tu_ei (by first | rfl | omega), trivial⟩ rfl (ih8 (k + 1) (by omega) (by omega))
  refine tu_jmp [2, 1, 0] (lv' := [(0, tu_r 11), (1, tu_i (tu_sm (fun t => if ¬ (M 12 t = 1 ↔ M 13 (tu_wb (M 11) (M 12) (M 13) (M 14) (M 15) m t) = 2) then 1 else 0) 0)), (2, tu_i 0)]) ⟨rfl, tu_ei (by first | rfl | (first | exact tu_sm_p (if_pos (by assumption)) | exact tu_sm_z (if_neg (by assumption)))), rfl, trivial⟩ rfl (lp8 ((n - 0) + 1) 0 (by omega) (by omega))
