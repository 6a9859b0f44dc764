set_option maxRecDepth 20000 in
set_option maxHeartbeats 4000000 in
theorem c_X3_whole {M : tu_M} (w : Int) (hB : tu_OK M) (rw : tu_rg w) : tu_MI tu_Y_X3_whole [tu_r 0, tu_i w] M (fun z M' => ∃ (y : Int), (tu_sc M M') ∧ (((¬ (0 ≤ w ∧ w ≤ 3)) ∧ y = -2) ∨ (((0 ≤ w ∧ w ≤ 3) ∧ M 1 9 < 1) ∧ y = -5) ∨ ((w = 0 ∧ 1 ≤ M 1 9) ∧ y = tu_sm (fun x9 => if tu_wk (tu_cb M) x9 < 1000000 then tu_wk (tu_cb M) x9 else 0) (M 1 7).toNat) ∨ ((w = 1 ∧ 1 ≤ M 1 9) ∧ y = tu_sm (fun x9 => if tu_wk (tu_cb M) x9 < 1000000 then 0 else 1) (M 1 7).toNat) ∨ ((w = 2 ∧ 1 ≤ M 1 9) ∧ y = (tu_gp (fun x9 => tu_wk (tu_cb M) x9) (M 1 7).toNat).2) ∨ ((w = 3 ∧ 1 ≤ M 1 9) ∧ y = tu_sm (fun x9 => M 5 (M 8 (x9 % (M 1 9).toNat)).toNat) (M 1 7).toNat)) ∧ z = y) := by
  have cn := hB.cnt
  refine tu_MI.of (ty := .int) (by decide) rfl (by first | exact Or.inl rfl | exact Or.inr rfl) (Nat.le_of_ble_eq_true rfl) (fun T (X : tu_X T cX3_whole RX3 4 91) hnl hrt hret => ?_)
  have hret : tu_RI T cX3_whole (fun z M' => ∃ (y : Int), (tu_sc M M') ∧ (((¬ (0 ≤ w ∧ w ≤ 3)) ∧ y = -2) ∨ (((0 ≤ w ∧ w ≤ 3) ∧ M 1 9 < 1) ∧ y = -5) ∨ ((w = 0 ∧ 1 ≤ M 1 9) ∧ y = tu_sm (fun x9 => if tu_wk (tu_cb M) x9 < 1000000 then tu_wk (tu_cb M) x9 else 0) (M 1 7).toNat) ∨ ((w = 1 ∧ 1 ≤ M 1 9) ∧ y = tu_sm (fun x9 => if tu_wk (tu_cb M) x9 < 1000000 then 0 else 1) (M 1 7).toNat) ∨ ((w = 2 ∧ 1 ≤ M 1 9) ∧ y = (tu_gp (fun x9 => tu_wk (tu_cb M) x9) (M 1 7).toNat).2) ∨ ((w = 3 ∧ 1 ≤ M 1 9) ∧ y = tu_sm (fun x9 => M 5 (M 8 (x9 % (M 1 9).toNat)).toNat) (M 1 7).toNat)) ∧ z = y) := hret
  have hnl : T.2.2.2.2.2.2.2.2.2.2.1 = 10 := hnl
  show tu_W T 0 [(0, tu_r 0), (1, tu_i w)] [] M
  refine tu_iload_n 0 X 1 dX3_whole_0 rfl ?_
  refine tu_if_lt 1 X 9 dX3_whole_1 (by decide) (show tu_rg w from by first | assumption | exact ⟨by omega, by omega⟩) (fun br1 => ?_) (fun br1 => ?_)
  ·
    refine tu_bipush 9 X dX3_whole_9 (by decide) ?_
    refine hret 11 _ _ (-2) dX3_whole_11 (fun h => by rw [hrt] at h; cases h) ?_
    exact ⟨_, tu_sc.rf _, Or.inl (⟨by omega, rfl⟩), rfl⟩
  ·
    refine tu_iload_n 4 X 1 dX3_whole_4 rfl ?_
    refine tu_iconst 5 X dX3_whole_5 ?_
    refine tu_icmp_le 6 X 12 dX3_whole_6 (by decide) (show tu_rg w from by first | assumption | exact ⟨by omega, by omega⟩) ⟨by decide, by decide⟩ (fun br6 => ?_) (fun br6 => ?_)
    ·
      refine tu_aload_n 12 X 0 dX3_whole_12 rfl ?_
      refine tu_getR 13 X dX3_whole_13 fl_RX3_10 (by decide) rfl rfl ?_
      refine tu_getI 16 X (x := M 1 9) dX3_whole_16 fl_RX3_109 (by decide) rfl rfl rfl ?_
      refine tu_iconst 19 X dX3_whole_19 ?_
      refine tu_icmp_ge 20 X 26 dX3_whole_20 (by decide) (show tu_rg (M 1 9) from by first | assumption | exact ⟨by omega, by omega⟩) ⟨by decide, by decide⟩ (fun br20 => ?_) (fun br20 => ?_)
      ·
        refine tu_iconst 26 X dX3_whole_26 ?_
        refine tu_istore_n 27 X (lv' := [(2, tu_i 0), (0, tu_r 0), (1, tu_i w)]) dX3_whole_27 (by rw [hnl]; decide) rfl ?_
        refine tu_iconst 28 X dX3_whole_28 ?_
        refine tu_istore_n 29 X (lv' := [(3, tu_i 0), (2, tu_i 0), (0, tu_r 0), (1, tu_i w)]) dX3_whole_29 (by rw [hnl]; decide) rfl ?_
        refine tu_iconst 30 X dX3_whole_30 ?_
        refine tu_istore 31 X (lv' := [(4, tu_i 0), (3, tu_i 0), (2, tu_i 0), (0, tu_r 0), (1, tu_i w)]) dX3_whole_31 (by rw [hnl]; decide) rfl ?_
        refine tu_iconst 33 X dX3_whole_33 ?_
        refine tu_istore 34 X (lv' := [(5, tu_i (-1)), (4, tu_i 0), (3, tu_i 0), (2, tu_i 0), (0, tu_r 0), (1, tu_i w)]) dX3_whole_34 (by rw [hnl]; decide) rfl ?_
        refine tu_bipush 36 X dX3_whole_36 (by decide) ?_
        refine tu_istore 38 X (lv' := [(6, tu_i (-6)), (5, tu_i (-1)), (4, tu_i 0), (3, tu_i 0), (2, tu_i 0), (0, tu_r 0), (1, tu_i w)]) dX3_whole_38 (by rw [hnl]; decide) rfl ?_
        refine tu_iconst 40 X dX3_whole_40 ?_
        refine tu_istore 41 X (lv' := [(7, tu_i 0), (6, tu_i (-6)), (5, tu_i (-1)), (4, tu_i 0), (3, tu_i 0), (2, tu_i 0), (0, tu_r 0), (1, tu_i w)]) dX3_whole_41 (by rw [hnl]; decide) rfl ?_
        refine tu_st_eq rfl (M' := tu_row M 11 (M 11)) ((tu_rx M 11).symm) ?_
        refine tu_st_eq rfl (M' := tu_row (tu_row M 11 (M 11)) 12 (M 12)) ((congrArg (fun m => tu_row m 11 (M 11)) ((tu_rx M 12).symm)).trans (tu_rc M (M 12) (M 11) rfl)) ?_
        refine tu_st_eq rfl (M' := tu_row (tu_row (tu_row M 11 (M 11)) 12 (M 12)) 13 (M 13)) ((congrArg (fun m => tu_row m 12 (M 12)) ((congrArg (fun m => tu_row m 11 (M 11)) ((tu_rx M 13).symm)).trans (tu_rc M (M 13) (M 11) rfl))).trans (tu_rc (tu_row M 11 (M 11)) (M 13) (M 12) rfl)) ?_
        refine tu_st_eq rfl (M' := tu_row (tu_row (tu_row (tu_row M 11 (M 11)) 12 (M 12)) 13 (M 13)) 14 (M 14)) ((congrArg (fun m => tu_row m 13 (M 13)) ((congrArg (fun m => tu_row m 12 (M 12)) ((congrArg (fun m => tu_row m 11 (M 11)) ((tu_rx M 14).symm)).trans (tu_rc M (M 14) (M 11) rfl))).trans (tu_rc (tu_row M 11 (M 11)) (M 14) (M 12) rfl))).trans (tu_rc (tu_row (tu_row M 11 (M 11)) 12 (M 12)) (M 14) (M 13) rfl)) ?_
        refine tu_st_eq rfl (M' := tu_row (tu_row (tu_row (tu_row (tu_row M 11 (M 11)) 12 (M 12)) 13 (M 13)) 14 (M 14)) 15 (M 15)) ((congrArg (fun m => tu_row m 14 (M 14)) ((congrArg (fun m => tu_row m 13 (M 13)) ((congrArg (fun m => tu_row m 12 (M 12)) ((congrArg (fun m => tu_row m 11 (M 11)) ((tu_rx M 15).symm)).trans (tu_rc M (M 15) (M 11) rfl))).trans (tu_rc (tu_row M 11 (M 11)) (M 15) (M 12) rfl))).trans (tu_rc (tu_row (tu_row M 11 (M 11)) 12 (M 12)) (M 15) (M 13) rfl))).trans (tu_rc (tu_row (tu_row (tu_row M 11 (M 11)) 12 (M 12)) 13 (M 13)) (M 15) (M 14) rfl)) ?_
        have lp43 : ∀ (nq : Nat) (q : Nat) (L : Nat → Int) (a : Nat → Int) (k : Nat → Int) (r : Nat → Int) (c : Nat → Int), ((q : Int) ≤ M 1 7) → (-1 ≤ (tu_gp (fun x9 => tu_wk (tu_cb M) x9) q).1 ∧ (tu_gp (fun x9 => tu_wk (tu_cb M) x9) q).1 ≤ 1000000) → (M 1 7).toNat - q < nq → tu_W T 43 [(0, tu_r 0), (1, tu_i w), (2, tu_i (tu_sm (fun x9 => if tu_wk (tu_cb M) x9 < 1000000 then tu_wk (tu_cb M) x9 else 0) q)), (3, tu_i (tu_sm (fun x9 => if tu_wk (tu_cb M) x9 < 1000000 then 0 else 1) q)), (4, tu_i (tu_sm (fun x9 => M 5 (M 8 (x9 % (M 1 9).toNat)).toNat) q)), (5, tu_i ((tu_gp (fun x9 => tu_wk (tu_cb M) x9) q).1)), (6, tu_i ((tu_gp (fun x9 => tu_wk (tu_cb M) x9) q).2)), (7, tu_i ((q : Nat) : Int))] [] (tu_row (tu_row (tu_row (tu_row (tu_row M 11 L) 12 a) 13 k) 14 r) 15 c) := by
          intro nq
          induction nq with
          | zero => intros; omega
          | succ nq ih43 =>
            intro q L a k r c hq hg hn43
            refine tu_iload 43 X 7 dX3_whole_43 rfl ?_
            refine tu_aload_n 45 X 0 dX3_whole_45 rfl ?_
            refine tu_getR 46 X dX3_whole_46 fl_RX3_10 (by decide) rfl rfl ?_
            refine tu_getI 49 X (x := M 1 7) dX3_whole_49 fl_RX3_100 (by decide) rfl rfl rfl ?_
            refine tu_icmp_ge 52 X 147 dX3_whole_52 (by decide) (show tu_rg ((q : Nat) : Int) from by first | assumption | exact ⟨by omega, by omega⟩) (show tu_rg (M 1 7) from by first | assumption | exact ⟨by omega, by omega⟩) (fun br52 => ?_) (fun br52 => ?_)
            ·
              refine tu_iload_n 147 X 1 dX3_whole_147 rfl ?_
              rcases (show w = 0 ∨ w = 1 ∨ w = 2 ∨ (w < 0 ∨ 2 < w) from by omega) with br148 | br148 | br148 | br148
              ·
                refine tu_tabIn 148 X 176 dX3_whole_148 (show tu_rg w from by first | assumption | exact ⟨by omega, by omega⟩) (by omega) (by omega) (by rw [br148]; rfl) (by decide) ?_
                refine tu_iload_n 176 X 2 dX3_whole_176 rfl ?_
                refine hret 177 _ _ (tu_sm (fun x9 => if tu_wk (tu_cb M) x9 < 1000000 then tu_wk (tu_cb M) x9 else 0) q) dX3_whole_177 (fun h => by rw [hrt] at h; cases h) ?_
                have eq9 : (M 1 7).toNat = q := by omega
                refine ⟨_, ((((((tu_sc.rf _).row _ (by decide)).row _ (by decide)).row _ (by decide)).row _ (by decide)).row _ (by decide)), ?_, rfl⟩
                rw [eq9]
                exact Or.inr (Or.inr (Or.inl (⟨by omega, rfl⟩)))
              ·
                refine tu_tabIn 148 X 178 dX3_whole_148 (show tu_rg w from by first | assumption | exact ⟨by omega, by omega⟩) (by omega) (by omega) (by rw [br148]; rfl) (by decide) ?_
                refine tu_iload_n 178 X 3 dX3_whole_178 rfl ?_
                refine hret 179 _ _ (tu_sm (fun x9 => if tu_wk (tu_cb M) x9 < 1000000 then 0 else 1) q) dX3_whole_179 (fun h => by rw [hrt] at h; cases h) ?_
                have eq9 : (M 1 7).toNat = q := by omega
                refine ⟨_, ((((((tu_sc.rf _).row _ (by decide)).row _ (by decide)).row _ (by decide)).row _ (by decide)).row _ (by decide)), ?_, rfl⟩
                rw [eq9]
                exact Or.inr (Or.inr (Or.inr (Or.inl (⟨by omega, rfl⟩))))
              ·
                refine tu_tabIn 148 X 180 dX3_whole_148 (show tu_rg w from by first | assumption | exact ⟨by omega, by omega⟩) (by omega) (by omega) (by rw [br148]; rfl) (by decide) ?_
                refine tu_iload 180 X 6 dX3_whole_180 rfl ?_
                refine hret 182 _ _ ((tu_gp (fun x9 => tu_wk (tu_cb M) x9) q).2) dX3_whole_182 (fun h => by rw [hrt] at h; cases h) ?_
                have eq9 : (M 1 7).toNat = q := by omega
                refine ⟨_, ((((((tu_sc.rf _).row _ (by decide)).row _ (by decide)).row _ (by decide)).row _ (by decide)).row _ (by decide)), ?_, rfl⟩
                rw [eq9]
                exact Or.inr (Or.inr (Or.inr (Or.inr (Or.inl (⟨by omega, rfl⟩)))))
              ·
                refine tu_tabOut 148 X 183 dX3_whole_148 (show tu_rg w from by first | assumption | exact ⟨by omega, by omega⟩) br148 (by decide) ?_
                refine tu_iload 183 X 4 dX3_whole_183 rfl ?_
                refine hret 185 _ _ (tu_sm (fun x9 => M 5 (M 8 (x9 % (M 1 9).toNat)).toNat) q) dX3_whole_185 (fun h => by rw [hrt] at h; cases h) ?_
                have eq9 : (M 1 7).toNat = q := by omega
                refine ⟨_, ((((((tu_sc.rf _).row _ (by decide)).row _ (by decide)).row _ (by decide)).row _ (by decide)).row _ (by decide)), ?_, rfl⟩
                rw [eq9]
                exact Or.inr (Or.inr (Or.inr (Or.inr (Or.inr (⟨by omega, rfl⟩)))))
            ·
              refine tu_aload_n 55 X 0 dX3_whole_55 rfl ?_
              refine tu_getR 56 X dX3_whole_56 fl_RX3_10 (by decide) rfl rfl ?_
              refine tu_getR 59 X dX3_whole_59 fl_RX3_160 (by decide) rfl rfl ?_
              refine tu_iload 62 X 7 dX3_whole_62 rfl ?_
              refine tu_aload_n 64 X 0 dX3_whole_64 rfl ?_
              refine tu_getR 65 X dX3_whole_65 fl_RX3_10 (by decide) rfl rfl ?_
              refine tu_getI 68 X (x := M 1 9) dX3_whole_68 fl_RX3_109 (by decide) rfl rfl rfl ?_
              refine tu_irem 71 X dX3_whole_71 (show tu_rg (M 1 9) from by first | assumption | exact ⟨by omega, by omega⟩) (by omega) ?_
              refine tu_tp (b := ((q % (M 1 9).toNat : Nat) : Int)) (by rw [show M 1 9 = (((M 1 9).toNat : Nat) : Int) from by omega]; exact tu_rem_n (by omega) (by omega) (by omega)) ?_
              have hrm : q % (M 1 9).toNat < (M 1 9).toNat := Nat.mod_lt _ (by omega)
              have htu := hB.tun (q % (M 1 9).toNat) (by omega)
              have hba := hB.bal q (by omega)
              have hbt := hB.bts (M 8 (q % (M 1 9).toNat)).toNat (by omega)
              refine tu_iald 72 X (x := M 8 (q % (M 1 9).toNat)) (q % (M 1 9).toNat) dX3_whole_72 (by decide) rfl (by decide) (by omega) (by omega) rfl ?_
              refine tu_istore 73 X (lv' := [(8, tu_i (M 8 (q % (M 1 9).toNat))), (0, tu_r 0), (1, tu_i w), (2, tu_i (tu_sm (fun x9 => if tu_wk (tu_cb M) x9 < 1000000 then tu_wk (tu_cb M) x9 else 0) q)), (3, tu_i (tu_sm (fun x9 => if tu_wk (tu_cb M) x9 < 1000000 then 0 else 1) q)), (4, tu_i (tu_sm (fun x9 => M 5 (M 8 (x9 % (M 1 9).toNat)).toNat) q)), (5, tu_i ((tu_gp (fun x9 => tu_wk (tu_cb M) x9) q).1)), (6, tu_i ((tu_gp (fun x9 => tu_wk (tu_cb M) x9) q).2)), (7, tu_i ((q : Nat) : Int))]) dX3_whole_73 (by rw [hnl]; decide) rfl ?_
              refine tu_iload 75 X 5 dX3_whole_75 rfl ?_
              refine tu_aload_n 77 X 1 dX3_whole_77 rfl ?_
              refine tu_getR 78 X dX3_whole_78 fl_RX3_10 (by decide) rfl rfl ?_
              refine tu_getR 81 X dX3_whole_81 fl_RX3_144 (by decide) rfl rfl ?_
              refine tu_iload 84 X 0 dX3_whole_84 rfl ?_
              refine tu_iald 86 X (x := M 5 ((M 8 (q % (M 1 9).toNat)).toNat)) ((M 8 (q % (M 1 9).toNat)).toNat) dX3_whole_86 (by decide) rfl (by decide) (by omega) (by omega) rfl ?_
              refine tu_iadd 87 X dX3_whole_87 ?_
              refine tu_istore 88 X (lv' := [(4, tu_i (tu_sm (fun x9 => M 5 (M 8 (x9 % (M 1 9).toNat)).toNat) q + (M 5 ((M 8 (q % (M 1 9).toNat)).toNat)))), (8, tu_i (M 8 (q % (M 1 9).toNat))), (0, tu_r 0), (1, tu_i w), (2, tu_i (tu_sm (fun x9 => if tu_wk (tu_cb M) x9 < 1000000 then tu_wk (tu_cb M) x9 else 0) q)), (3, tu_i (tu_sm (fun x9 => if tu_wk (tu_cb M) x9 < 1000000 then 0 else 1) q)), (5, tu_i ((tu_gp (fun x9 => tu_wk (tu_cb M) x9) q).1)), (6, tu_i ((tu_gp (fun x9 => tu_wk (tu_cb M) x9) q).2)), (7, tu_i ((q : Nat) : Int))]) dX3_whole_88 (by rw [hnl]; decide) rfl ?_
              refine tu_aload_n 90 X 2 dX3_whole_90 rfl ?_
              refine tu_aload_n 91 X 2 dX3_whole_91 rfl ?_
              refine tu_getR 92 X dX3_whole_92 fl_RX3_10 (by decide) rfl rfl ?_
              refine tu_getR 95 X dX3_whole_95 fl_RX3_163 (by decide) rfl rfl ?_
              refine tu_iload 98 X 8 dX3_whole_98 rfl ?_
              refine tu_iald 100 X (x := M 7 q) q dX3_whole_100 (by decide) rfl (by decide) (by omega) (by omega) rfl ?_
              refine tu_iload 101 X 1 dX3_whole_101 rfl ?_
              refine tu_st_eq (show _ = [tu_i ((((M 8 (q % (M 1 9).toNat)).toNat) : Nat) : Int), tu_i ((((M 7 q).toNat) : Nat) : Int), tu_r 0] from by first | rfl | (simp only [List.cons.injEq, Sum.inl.injEq, and_true, true_and]; omega)) rfl ?_
              refine tu_callVI 103 X (st := []) (as := [tu_i ((((M 7 q).toNat) : Nat) : Int), tu_i ((((M 8 (q % (M 1 9).toNat)).toNat) : Nat) : Int)]) (c_X3_leastCostOf ((M 7 q).toNat) ((M 8 (q % (M 1 9).toNat)).toNat) (show tu_OK M from by first | assumption | omega | exact ⟨by omega, by omega⟩ | decide) (show (((M 7 q).toNat) : Int) < M 1 1 from by first | assumption | omega | exact ⟨by omega, by omega⟩ | decide) (show (((M 8 (q % (M 1 9).toNat)).toNat) : Int) < M 1 4 from by first | assumption | omega | exact ⟨by omega, by omega⟩ | decide)) sv_RX3_166 dX3_whole_103 rfl (by decide) rfl rfl rfl (Nat.le_of_ble_eq_true rfl) ⟨by decide, by decide⟩ (fun z M' h => ?_)
              obtain ⟨L_103, a_103, k_103, r_103, c_103, hM103, h103_0, h103_1, h103_2, h103_3, h103_4, hz103⟩ := h
              have h103_0 : tu_LK L_103 a_103 k_103 r_103 (tu_nl (tu_cb M) ((M 7 q).toNat)) (tu_np (tu_cb M) ((M 8 (q % (M 1 9).toNat)).toNat)) := h103_0
              have h103_1 : tu_TK (tu_cb M) ((M 7 q).toNat) ((M 8 (q % (M 1 9).toNat)).toNat) L_103 a_103 k_103 := h103_1
              have h103_2 : tu_Tx L_103 a_103 k_103 r_103 (tu_nl (tu_cb M) ((M 7 q).toNat)) (tu_np (tu_cb M) ((M 8 (q % (M 1 9).toNat)).toNat)) c_103 := h103_2
              have h103_3 : c_103 0 = tu_co (tu_cb M) ((M 7 q).toNat) ((M 8 (q % (M 1 9).toNat)).toNat) := h103_3
              have h103_4 : 0 ≤ tu_co (tu_cb M) ((M 7 q).toNat) ((M 8 (q % (M 1 9).toNat)).toNat) ∧ tu_co (tu_cb M) ((M 7 q).toNat) ((M 8 (q % (M 1 9).toNat)).toNat) ≤ 1000000 := h103_4
              refine tu_st_eq rfl (M' := tu_row (tu_row (tu_row (tu_row (tu_row M 11 L_103) 12 a_103) 13 k_103) 14 r_103) 15 c_103) (hM103.trans ((congrArg (fun m => tu_row m 15 c_103) ((congrArg (fun m => tu_row m 14 r_103) ((congrArg (fun m => tu_row m 13 k_103) ((congrArg (fun m => tu_row m 12 a_103) ((tu_rc (tu_row (tu_row (tu_row (tu_row M 11 L) 12 a) 13 k) 14 r) c L_103 rfl).trans (congrArg (fun m => tu_row m 15 c) ((tu_rc (tu_row (tu_row (tu_row M 11 L) 12 a) 13 k) r L_103 rfl).trans (congrArg (fun m => tu_row m 14 r) ((tu_rc (tu_row (tu_row M 11 L) 12 a) k L_103 rfl).trans (congrArg (fun m => tu_row m 13 k) ((tu_rc (tu_row M 11 L) a L_103 rfl).trans (congrArg (fun m => tu_row m 12 a) (tu_rr M 11 L L_103)))))))))).trans ((tu_rc (tu_row (tu_row (tu_row (tu_row M 11 L_103) 12 a) 13 k) 14 r) c a_103 rfl).trans (congrArg (fun m => tu_row m 15 c) ((tu_rc (tu_row (tu_row (tu_row M 11 L_103) 12 a) 13 k) r a_103 rfl).trans (congrArg (fun m => tu_row m 14 r) ((tu_rc (tu_row (tu_row M 11 L_103) 12 a) k a_103 rfl).trans (congrArg (fun m => tu_row m 13 k) (tu_rr (tu_row M 11 L_103) 12 a a_103))))))))).trans ((tu_rc (tu_row (tu_row (tu_row (tu_row M 11 L_103) 12 a_103) 13 k) 14 r) c k_103 rfl).trans (congrArg (fun m => tu_row m 15 c) ((tu_rc (tu_row (tu_row (tu_row M 11 L_103) 12 a_103) 13 k) r k_103 rfl).trans (congrArg (fun m => tu_row m 14 r) (tu_rr (tu_row (tu_row M 11 L_103) 12 a_103) 13 k k_103))))))).trans ((tu_rc (tu_row (tu_row (tu_row (tu_row M 11 L_103) 12 a_103) 13 k_103) 14 r) c r_103 rfl).trans (congrArg (fun m => tu_row m 15 c) (tu_rr (tu_row (tu_row (tu_row M 11 L_103) 12 a_103) 13 k_103) 14 r r_103))))).trans (tu_rr (tu_row (tu_row (tu_row (tu_row M 11 L_103) 12 a_103) 13 k_103) 14 r_103) 15 c c_103))) ?_
              refine tu_tp (b := (tu_co (tu_cb M) ((M 7 q).toNat) ((M 8 (q % (M 1 9).toNat)).toNat))) hz103 ?_
              have ewk : tu_wk (tu_cb M) q = tu_co (tu_cb M) (M 7 q).toNat (M 8 (q % (M 1 9).toNat)).toNat := rfl
              refine tu_istore 106 X (lv' := [(9, tu_i (tu_co (tu_cb M) ((M 7 q).toNat) ((M 8 (q % (M 1 9).toNat)).toNat))), (4, tu_i (tu_sm (fun x9 => M 5 (M 8 (x9 % (M 1 9).toNat)).toNat) q + (M 5 ((M 8 (q % (M 1 9).toNat)).toNat)))), (8, tu_i (M 8 (q % (M 1 9).toNat))), (0, tu_r 0), (1, tu_i w), (2, tu_i (tu_sm (fun x9 => if tu_wk (tu_cb M) x9 < 1000000 then tu_wk (tu_cb M) x9 else 0) q)), (3, tu_i (tu_sm (fun x9 => if tu_wk (tu_cb M) x9 < 1000000 then 0 else 1) q)), (5, tu_i ((tu_gp (fun x9 => tu_wk (tu_cb M) x9) q).1)), (6, tu_i ((tu_gp (fun x9 => tu_wk (tu_cb M) x9) q).2)), (7, tu_i ((q : Nat) : Int))]) dX3_whole_106 (by rw [hnl]; decide) rfl ?_
              refine tu_iload 108 X 0 dX3_whole_108 rfl ?_
              refine tu_ldc 110 X (n := 1000000) dX3_whole_110 kw_RX3_169 (by decide) ?_
              refine tu_icmp_lt 112 X 121 dX3_whole_112 (by decide) (show tu_rg (tu_co (tu_cb M) ((M 7 q).toNat) ((M 8 (q % (M 1 9).toNat)).toNat)) from by first | assumption | exact ⟨by omega, by omega⟩) ⟨by decide, by decide⟩ (fun br112 => ?_) (fun br112 => ?_)
              ·
                refine tu_iload_n 121 X 5 dX3_whole_121 rfl ?_
                refine tu_iload 122 X 0 dX3_whole_122 rfl ?_
                refine tu_iadd 124 X dX3_whole_124 ?_
                refine tu_istore_n 125 X (lv' := [(2, tu_i (tu_sm (fun x9 => if tu_wk (tu_cb M) x9 < 1000000 then tu_wk (tu_cb M) x9 else 0) q + (tu_co (tu_cb M) ((M 7 q).toNat) ((M 8 (q % (M 1 9).toNat)).toNat)))), (9, tu_i (tu_co (tu_cb M) ((M 7 q).toNat) ((M 8 (q % (M 1 9).toNat)).toNat))), (4, tu_i (tu_sm (fun x9 => M 5 (M 8 (x9 % (M 1 9).toNat)).toNat) q + (M 5 ((M 8 (q % (M 1 9).toNat)).toNat)))), (8, tu_i (M 8 (q % (M 1 9).toNat))), (0, tu_r 0), (1, tu_i w), (3, tu_i (tu_sm (fun x9 => if tu_wk (tu_cb M) x9 < 1000000 then 0 else 1) q)), (5, tu_i ((tu_gp (fun x9 => tu_wk (tu_cb M) x9) q).1)), (6, tu_i ((tu_gp (fun x9 => tu_wk (tu_cb M) x9) q).2)), (7, tu_i ((q : Nat) : Int))]) dX3_whole_125 (by rw [hnl]; decide) rfl ?_
                refine tu_iload 126 X 1 dX3_whole_126 rfl ?_
                refine tu_iload 128 X 7 dX3_whole_128 rfl ?_
                refine tu_icmp_le 130 X 141 dX3_whole_130 (by decide) (show tu_rg (tu_co (tu_cb M) ((M 7 q).toNat) ((M 8 (q % (M 1 9).toNat)).toNat)) from by first | assumption | exact ⟨by omega, by omega⟩) (show tu_rg ((tu_gp (fun x9 => tu_wk (tu_cb M) x9) q).1) from by first | assumption | exact ⟨by omega, by omega⟩) (fun br130 => ?_) (fun br130 => ?_)
                ·
                  refine tu_iinc 141 X (lv' := [(7, tu_i (((q : Nat) : Int) + 1)), (2, tu_i (tu_sm (fun x9 => if tu_wk (tu_cb M) x9 < 1000000 then tu_wk (tu_cb M) x9 else 0) q + (tu_co (tu_cb M) ((M 7 q).toNat) ((M 8 (q % (M 1 9).toNat)).toNat)))), (9, tu_i (tu_co (tu_cb M) ((M 7 q).toNat) ((M 8 (q % (M 1 9).toNat)).toNat))), (4, tu_i (tu_sm (fun x9 => M 5 (M 8 (x9 % (M 1 9).toNat)).toNat) q + (M 5 ((M 8 (q % (M 1 9).toNat)).toNat)))), (8, tu_i (M 8 (q % (M 1 9).toNat))), (0, tu_r 0), (1, tu_i w), (3, tu_i (tu_sm (fun x9 => if tu_wk (tu_cb M) x9 < 1000000 then 0 else 1) q)), (5, tu_i ((tu_gp (fun x9 => tu_wk (tu_cb M) x9) q).1)), (6, tu_i ((tu_gp (fun x9 => tu_wk (tu_cb M) x9) q).2))]) 9 dX3_whole_141 rfl (by rw [hnl]; decide) rfl ?_
                  refine tu_goto 144 X 43 dX3_whole_144 (by decide) ?_
                  refine tu_jmp [5, 6, 1, 7, 3, 8, 9, 0] (lv' := [(0, tu_r 0), (1, tu_i w), (2, tu_i (tu_sm (fun x9 => if tu_wk (tu_cb M) x9 < 1000000 then tu_wk (tu_cb M) x9 else 0) (q + 1))), (3, tu_i (tu_sm (fun x9 => if tu_wk (tu_cb M) x9 < 1000000 then 0 else 1) (q + 1))), (4, tu_i (tu_sm (fun x9 => M 5 (M 8 (x9 % (M 1 9).toNat)).toNat) (q + 1))), (5, tu_i ((tu_gp (fun x9 => tu_wk (tu_cb M) x9) (q + 1)).1)), (6, tu_i ((tu_gp (fun x9 => tu_wk (tu_cb M) x9) (q + 1)).2)), (7, tu_i (((q + 1) : Nat) : Int))]) ⟨rfl, rfl, tu_ei (by first | rfl | (first | exact tu_sm_p (if_pos (by omega)) | exact tu_sm_z (if_neg (by omega)))), tu_ei (by first | rfl | (first | exact tu_sm_p (if_neg (by omega)) | exact tu_sm_z (if_pos (by omega)))), tu_ei (by first | rfl | omega), tu_ei (by first | rfl | (simp only [tu_gp]; split <;> first | rfl | (exfalso; omega))), tu_ei (by first | rfl | (simp only [tu_gp]; split <;> first | rfl | (exfalso; omega))), tu_ei (by first | rfl | omega), trivial⟩ rfl (ih43 (q + 1) L_103 a_103 k_103 r_103 c_103 (by omega) (by simp only [tu_gp]; split <;> first | omega | (simp only []; omega)) (by omega))
                ·
                  refine tu_iload 133 X 1 dX3_whole_133 rfl ?_
                  refine tu_istore 135 X (lv' := [(5, tu_i (tu_co (tu_cb M) ((M 7 q).toNat) ((M 8 (q % (M 1 9).toNat)).toNat))), (2, tu_i (tu_sm (fun x9 => if tu_wk (tu_cb M) x9 < 1000000 then tu_wk (tu_cb M) x9 else 0) q + (tu_co (tu_cb M) ((M 7 q).toNat) ((M 8 (q % (M 1 9).toNat)).toNat)))), (9, tu_i (tu_co (tu_cb M) ((M 7 q).toNat) ((M 8 (q % (M 1 9).toNat)).toNat))), (4, tu_i (tu_sm (fun x9 => M 5 (M 8 (x9 % (M 1 9).toNat)).toNat) q + (M 5 ((M 8 (q % (M 1 9).toNat)).toNat)))), (8, tu_i (M 8 (q % (M 1 9).toNat))), (0, tu_r 0), (1, tu_i w), (3, tu_i (tu_sm (fun x9 => if tu_wk (tu_cb M) x9 < 1000000 then 0 else 1) q)), (6, tu_i ((tu_gp (fun x9 => tu_wk (tu_cb M) x9) q).2)), (7, tu_i ((q : Nat) : Int))]) dX3_whole_135 (by rw [hnl]; decide) rfl ?_
                  refine tu_iload 137 X 9 dX3_whole_137 rfl ?_
                  refine tu_istore 139 X (lv' := [(6, tu_i ((q : Nat) : Int)), (5, tu_i (tu_co (tu_cb M) ((M 7 q).toNat) ((M 8 (q % (M 1 9).toNat)).toNat))), (2, tu_i (tu_sm (fun x9 => if tu_wk (tu_cb M) x9 < 1000000 then tu_wk (tu_cb M) x9 else 0) q + (tu_co (tu_cb M) ((M 7 q).toNat) ((M 8 (q % (M 1 9).toNat)).toNat)))), (9, tu_i (tu_co (tu_cb M) ((M 7 q).toNat) ((M 8 (q % (M 1 9).toNat)).toNat))), (4, tu_i (tu_sm (fun x9 => M 5 (M 8 (x9 % (M 1 9).toNat)).toNat) q + (M 5 ((M 8 (q % (M 1 9).toNat)).toNat)))), (8, tu_i (M 8 (q % (M 1 9).toNat))), (0, tu_r 0), (1, tu_i w), (3, tu_i (tu_sm (fun x9 => if tu_wk (tu_cb M) x9 < 1000000 then 0 else 1) q)), (7, tu_i ((q : Nat) : Int))]) dX3_whole_139 (by rw [hnl]; decide) rfl ?_
                  refine tu_iinc 141 X (lv' := [(7, tu_i (((q : Nat) : Int) + 1)), (6, tu_i ((q : Nat) : Int)), (5, tu_i (tu_co (tu_cb M) ((M 7 q).toNat) ((M 8 (q % (M 1 9).toNat)).toNat))), (2, tu_i (tu_sm (fun x9 => if tu_wk (tu_cb M) x9 < 1000000 then tu_wk (tu_cb M) x9 else 0) q + (tu_co (tu_cb M) ((M 7 q).toNat) ((M 8 (q % (M 1 9).toNat)).toNat)))), (9, tu_i (tu_co (tu_cb M) ((M 7 q).toNat) ((M 8 (q % (M 1 9).toNat)).toNat))), (4, tu_i (tu_sm (fun x9 => M 5 (M 8 (x9 % (M 1 9).toNat)).toNat) q + (M 5 ((M 8 (q % (M 1 9).toNat)).toNat)))), (8, tu_i (M 8 (q % (M 1 9).toNat))), (0, tu_r 0), (1, tu_i w), (3, tu_i (tu_sm (fun x9 => if tu_wk (tu_cb M) x9 < 1000000 then 0 else 1) q))]) 9 dX3_whole_141 rfl (by rw [hnl]; decide) rfl ?_
                  refine tu_goto 144 X 43 dX3_whole_144 (by decide) ?_
                  refine tu_jmp [7, 8, 3, 9, 5, 2, 1, 0] (lv' := [(0, tu_r 0), (1, tu_i w), (2, tu_i (tu_sm (fun x9 => if tu_wk (tu_cb M) x9 < 1000000 then tu_wk (tu_cb M) x9 else 0) (q + 1))), (3, tu_i (tu_sm (fun x9 => if tu_wk (tu_cb M) x9 < 1000000 then 0 else 1) (q + 1))), (4, tu_i (tu_sm (fun x9 => M 5 (M 8 (x9 % (M 1 9).toNat)).toNat) (q + 1))), (5, tu_i ((tu_gp (fun x9 => tu_wk (tu_cb M) x9) (q + 1)).1)), (6, tu_i ((tu_gp (fun x9 => tu_wk (tu_cb M) x9) (q + 1)).2)), (7, tu_i (((q + 1) : Nat) : Int))]) ⟨rfl, rfl, tu_ei (by first | rfl | (first | exact tu_sm_p (if_pos (by omega)) | exact tu_sm_z (if_neg (by omega)))), tu_ei (by first | rfl | (first | exact tu_sm_p (if_neg (by omega)) | exact tu_sm_z (if_pos (by omega)))), tu_ei (by first | rfl | omega), tu_ei (by first | rfl | (simp only [tu_gp]; split <;> first | rfl | (exfalso; omega))), tu_ei (by first | rfl | (simp only [tu_gp]; split <;> first | rfl | (exfalso; omega))), tu_ei (by first | rfl | omega), trivial⟩ rfl (ih43 (q + 1) L_103 a_103 k_103 r_103 c_103 (by omega) (by simp only [tu_gp]; split <;> first | omega | (simp only []; omega)) (by omega))
              ·
                refine tu_iinc 115 X (lv' := [(3, tu_i (tu_sm (fun x9 => if tu_wk (tu_cb M) x9 < 1000000 then 0 else 1) q + 1)), (9, tu_i (tu_co (tu_cb M) ((M 7 q).toNat) ((M 8 (q % (M 1 9).toNat)).toNat))), (4, tu_i (tu_sm (fun x9 => M 5 (M 8 (x9 % (M 1 9).toNat)).toNat) q + (M 5 ((M 8 (q % (M 1 9).toNat)).toNat)))), (8, tu_i (M 8 (q % (M 1 9).toNat))), (0, tu_r 0), (1, tu_i w), (2, tu_i (tu_sm (fun x9 => if tu_wk (tu_cb M) x9 < 1000000 then tu_wk (tu_cb M) x9 else 0) q)), (5, tu_i ((tu_gp (fun x9 => tu_wk (tu_cb M) x9) q).1)), (6, tu_i ((tu_gp (fun x9 => tu_wk (tu_cb M) x9) q).2)), (7, tu_i ((q : Nat) : Int))]) 6 dX3_whole_115 rfl (by rw [hnl]; decide) rfl ?_
                refine tu_goto 118 X 141 dX3_whole_118 (by decide) ?_
                refine tu_iinc 141 X (lv' := [(7, tu_i (((q : Nat) : Int) + 1)), (3, tu_i (tu_sm (fun x9 => if tu_wk (tu_cb M) x9 < 1000000 then 0 else 1) q + 1)), (9, tu_i (tu_co (tu_cb M) ((M 7 q).toNat) ((M 8 (q % (M 1 9).toNat)).toNat))), (4, tu_i (tu_sm (fun x9 => M 5 (M 8 (x9 % (M 1 9).toNat)).toNat) q + (M 5 ((M 8 (q % (M 1 9).toNat)).toNat)))), (8, tu_i (M 8 (q % (M 1 9).toNat))), (0, tu_r 0), (1, tu_i w), (2, tu_i (tu_sm (fun x9 => if tu_wk (tu_cb M) x9 < 1000000 then tu_wk (tu_cb M) x9 else 0) q)), (5, tu_i ((tu_gp (fun x9 => tu_wk (tu_cb M) x9) q).1)), (6, tu_i ((tu_gp (fun x9 => tu_wk (tu_cb M) x9) q).2))]) 9 dX3_whole_141 rfl (by rw [hnl]; decide) rfl ?_
                refine tu_goto 144 X 43 dX3_whole_144 (by decide) ?_
                refine tu_jmp [5, 6, 7, 1, 3, 8, 9, 0] (lv' := [(0, tu_r 0), (1, tu_i w), (2, tu_i (tu_sm (fun x9 => if tu_wk (tu_cb M) x9 < 1000000 then tu_wk (tu_cb M) x9 else 0) (q + 1))), (3, tu_i (tu_sm (fun x9 => if tu_wk (tu_cb M) x9 < 1000000 then 0 else 1) (q + 1))), (4, tu_i (tu_sm (fun x9 => M 5 (M 8 (x9 % (M 1 9).toNat)).toNat) (q + 1))), (5, tu_i ((tu_gp (fun x9 => tu_wk (tu_cb M) x9) (q + 1)).1)), (6, tu_i ((tu_gp (fun x9 => tu_wk (tu_cb M) x9) (q + 1)).2)), (7, tu_i (((q + 1) : Nat) : Int))]) ⟨rfl, rfl, tu_ei (by first | rfl | (first | exact tu_sm_p (if_pos (by omega)) | exact tu_sm_z (if_neg (by omega)))), tu_ei (by first | rfl | (first | exact tu_sm_p (if_neg (by omega)) | exact tu_sm_z (if_pos (by omega)))), tu_ei (by first | rfl | omega), tu_ei (by first | rfl | (simp only [tu_gp]; split <;> first | rfl | (exfalso; omega))), tu_ei (by first | rfl | (simp only [tu_gp]; split <;> first | rfl | (exfalso; omega))), tu_ei (by first | rfl | omega), trivial⟩ rfl (ih43 (q + 1) L_103 a_103 k_103 r_103 c_103 (by omega) (by simp only [tu_gp]; split <;> first | omega | (simp only []; omega)) (by omega))
        refine tu_jmp [6, 7, 5, 4, 3, 2, 1, 0] (lv' := [(0, tu_r 0), (1, tu_i w), (2, tu_i (tu_sm (fun x9 => if tu_wk (tu_cb M) x9 < 1000000 then tu_wk (tu_cb M) x9 else 0) 0)), (3, tu_i (tu_sm (fun x9 => if tu_wk (tu_cb M) x9 < 1000000 then 0 else 1) 0)), (4, tu_i (tu_sm (fun x9 => M 5 (M 8 (x9 % (M 1 9).toNat)).toNat) 0)), (5, tu_i ((tu_gp (fun x9 => tu_wk (tu_cb M) x9) 0).1)), (6, tu_i ((tu_gp (fun x9 => tu_wk (tu_cb M) x9) 0).2)), (7, tu_i 0)]) ⟨rfl, rfl, tu_ei (by first | rfl | (first | exact tu_sm_p (if_pos (by omega)) | exact tu_sm_z (if_neg (by omega)))), tu_ei (by first | rfl | (first | exact tu_sm_p (if_neg (by omega)) | exact tu_sm_z (if_pos (by omega)))), tu_ei (by first | rfl | omega), tu_ei (by first | rfl | (simp only [tu_gp]; split <;> first | rfl | (exfalso; omega))), tu_ei (by first | rfl | (simp only [tu_gp]; split <;> first | rfl | (exfalso; omega))), rfl, trivial⟩ rfl (lp43 (((M 1 7).toNat - 0) + 1) 0 (M 11) (M 12) (M 13) (M 14) (M 15) (by omega) (by exact ⟨Int.le_refl _, by show (-1 : Int) ≤ 1000000; decide⟩) (by omega))
      ·
        refine tu_bipush 23 X dX3_whole_23 (by decide) ?_
        refine hret 25 _ _ (-5) dX3_whole_25 (fun h => by rw [hrt] at h; cases h) ?_
        exact ⟨_, tu_sc.rf _, Or.inr (Or.inl (⟨by omega, rfl⟩)), rfl⟩
    ·
      refine tu_bipush 9 X dX3_whole_9 (by decide) ?_
      refine hret 11 _ _ (-2) dX3_whole_11 (fun h => by rw [hrt] at h; cases h) ?_
      exact ⟨_, tu_sc.rf _, Or.inl (⟨by omega, rfl⟩), rfl⟩
set_option maxRecDepth 20000 in
set_option maxHeartbeats 4000000 in
theorem c_X3_bestPhrase {M : tu_M}  (hB : tu_OK M) : tu_MI tu_Y_X3_bestPhrase [tu_r 0] M (fun z M' => ∃ (y : Int), (tu_sc M M') ∧ (y = (tu_bq (tu_cb M) (M 1 1).toNat (M 1 4).toNat).1) ∧ z = y) := by
  have cn := hB.cnt
  refine tu_MI.of (ty := .int) (by decide) rfl (by first | exact Or.inl rfl | exact Or.inr rfl) (Nat.le_of_ble_eq_true rfl) (fun T (X : tu_X T cX3_bestPhrase RX3 4 91) hnl hrt hret => ?_)
  have hret : tu_RI T cX3_bestPhrase (fun z M' => ∃ (y : Int), (tu_sc M M') ∧ (y = (tu_bq (tu_cb M) (M 1 1).toNat (M 1 4).toNat).1) ∧ z = y) := hret
  have hnl : T.2.2.2.2.2.2.2.2.2.2.1 = 10 := hnl
  show tu_W T 0 [(0, tu_r 0)] [] M
  refine tu_bipush 0 X dX3_bestPhrase_0 (by decide) ?_
  refine tu_istore_n 2 X (lv' := [(1, tu_i (-6)), (0, tu_r 0)]) dX3_bestPhrase_2 (by rw [hnl]; decide) rfl ?_
  refine tu_iconst 3 X dX3_bestPhrase_3 ?_
  refine tu_istore_n 4 X (lv' := [(2, tu_i 0), (1, tu_i (-6)), (0, tu_r 0)]) dX3_bestPhrase_4 (by rw [hnl]; decide) rfl ?_
  refine tu_iconst 5 X dX3_bestPhrase_5 ?_
  refine tu_istore_n 6 X (lv' := [(3, tu_i 0), (2, tu_i 0), (1, tu_i (-6)), (0, tu_r 0)]) dX3_bestPhrase_6 (by rw [hnl]; decide) rfl ?_
  refine tu_iconst 7 X dX3_bestPhrase_7 ?_
  refine tu_istore 8 X (lv' := [(4, tu_i 0), (3, tu_i 0), (2, tu_i 0), (1, tu_i (-6)), (0, tu_r 0)]) dX3_bestPhrase_8 (by rw [hnl]; decide) rfl ?_
  refine tu_st_eq rfl (M' := tu_row M 11 (M 11)) ((tu_rx M 11).symm) ?_
  refine tu_st_eq rfl (M' := tu_row (tu_row M 11 (M 11)) 12 (M 12)) ((congrArg (fun m => tu_row m 11 (M 11)) ((tu_rx M 12).symm)).trans (tu_rc M (M 12) (M 11) rfl)) ?_
  refine tu_st_eq rfl (M' := tu_row (tu_row (tu_row M 11 (M 11)) 12 (M 12)) 13 (M 13)) ((congrArg (fun m => tu_row m 12 (M 12)) ((congrArg (fun m => tu_row m 11 (M 11)) ((tu_rx M 13).symm)).trans (tu_rc M (M 13) (M 11) rfl))).trans (tu_rc (tu_row M 11 (M 11)) (M 13) (M 12) rfl)) ?_
  refine tu_st_eq rfl (M' := tu_row (tu_row (tu_row (tu_row M 11 (M 11)) 12 (M 12)) 13 (M 13)) 14 (M 14)) ((congrArg (fun m => tu_row m 13 (M 13)) ((congrArg (fun m => tu_row m 12 (M 12)) ((congrArg (fun m => tu_row m 11 (M 11)) ((tu_rx M 14).symm)).trans (tu_rc M (M 14) (M 11) rfl))).trans (tu_rc (tu_row M 11 (M 11)) (M 14) (M 12) rfl))).trans (tu_rc (tu_row (tu_row M 11 (M 11)) 12 (M 12)) (M 14) (M 13) rfl)) ?_
  refine tu_st_eq rfl (M' := tu_row (tu_row (tu_row (tu_row (tu_row M 11 (M 11)) 12 (M 12)) 13 (M 13)) 14 (M 14)) 15 (M 15)) ((congrArg (fun m => tu_row m 14 (M 14)) ((congrArg (fun m => tu_row m 13 (M 13)) ((congrArg (fun m => tu_row m 12 (M 12)) ((congrArg (fun m => tu_row m 11 (M 11)) ((tu_rx M 15).symm)).trans (tu_rc M (M 15) (M 11) rfl))).trans (tu_rc (tu_row M 11 (M 11)) (M 15) (M 12) rfl))).trans (tu_rc (tu_row (tu_row M 11 (M 11)) 12 (M 12)) (M 15) (M 13) rfl))).trans (tu_rc (tu_row (tu_row (tu_row M 11 (M 11)) 12 (M 12)) 13 (M 13)) (M 15) (M 14) rfl)) ?_
  have lp10 : ∀ (nq : Nat) (q : Nat) (L : Nat → Int) (a : Nat → Int) (k : Nat → Int) (r : Nat → Int) (c : Nat → Int), ((q : Int) ≤ M 1 4) → ((-6 ≤ (tu_bq (tu_cb M) (M 1 1).toNat q).1 ∧ (tu_bq (tu_cb M) (M 1 1).toNat q).1 ≤ q) ∧ (0 ≤ (tu_bq (tu_cb M) (M 1 1).toNat q).2.1 ∧ (tu_bq (tu_cb M) (M 1 1).toNat q).2.1 ≤ 640) ∧ (0 ≤ (tu_bq (tu_cb M) (M 1 1).toNat q).2.2 ∧ (tu_bq (tu_cb M) (M 1 1).toNat q).2.2 ≤ 640000000)) → (M 1 4).toNat - q < nq → tu_W T 10 [(0, tu_r 0), (1, tu_i ((tu_bq (tu_cb M) (M 1 1).toNat q).1)), (2, tu_i ((tu_bq (tu_cb M) (M 1 1).toNat q).2.1)), (3, tu_i ((tu_bq (tu_cb M) (M 1 1).toNat q).2.2)), (4, tu_i ((q : Nat) : Int))] [] (tu_row (tu_row (tu_row (tu_row (tu_row M 11 L) 12 a) 13 k) 14 r) 15 c) := by
    intro nq
    induction nq with
    | zero => intros; omega
    | succ nq ih10 =>
      intro q L a k r c hq hg hn10
      refine tu_iload 10 X 4 dX3_bestPhrase_10 rfl ?_
      refine tu_aload_n 12 X 0 dX3_bestPhrase_12 rfl ?_
      refine tu_getR 13 X dX3_bestPhrase_13 fl_RX3_10 (by decide) rfl rfl ?_
      refine tu_getI 16 X (x := M 1 4) dX3_bestPhrase_16 fl_RX3_71 (by decide) rfl rfl rfl ?_
      refine tu_icmp_ge 19 X 145 dX3_bestPhrase_19 (by decide) (show tu_rg ((q : Nat) : Int) from by first | assumption | exact ⟨by omega, by omega⟩) (show tu_rg (M 1 4) from by first | assumption | exact ⟨by omega, by omega⟩) (fun br19 => ?_) (fun br19 => ?_)
      ·
        refine tu_iload_n 145 X 1 dX3_bestPhrase_145 rfl ?_
        refine hret 146 _ _ ((tu_bq (tu_cb M) (M 1 1).toNat q).1) dX3_bestPhrase_146 (fun h => by rw [hrt] at h; cases h) ?_
        exact ⟨_, ((((((tu_sc.rf _).row _ (by decide)).row _ (by decide)).row _ (by decide)).row _ (by decide)).row _ (by decide)), by rw [show (M 1 4).toNat = q from by omega], rfl⟩
      ·
        refine tu_iconst 22 X dX3_bestPhrase_22 ?_
        refine tu_istore 23 X (lv' := [(5, tu_i 0), (0, tu_r 0), (1, tu_i ((tu_bq (tu_cb M) (M 1 1).toNat q).1)), (2, tu_i ((tu_bq (tu_cb M) (M 1 1).toNat q).2.1)), (3, tu_i ((tu_bq (tu_cb M) (M 1 1).toNat q).2.2)), (4, tu_i ((q : Nat) : Int))]) dX3_bestPhrase_23 (by rw [hnl]; decide) rfl ?_
        refine tu_iconst 25 X dX3_bestPhrase_25 ?_
        refine tu_istore 26 X (lv' := [(6, tu_i 0), (5, tu_i 0), (0, tu_r 0), (1, tu_i ((tu_bq (tu_cb M) (M 1 1).toNat q).1)), (2, tu_i ((tu_bq (tu_cb M) (M 1 1).toNat q).2.1)), (3, tu_i ((tu_bq (tu_cb M) (M 1 1).toNat q).2.2)), (4, tu_i ((q : Nat) : Int))]) dX3_bestPhrase_26 (by rw [hnl]; decide) rfl ?_
        refine tu_iconst 28 X dX3_bestPhrase_28 ?_
        refine tu_istore 29 X (lv' := [(7, tu_i 0), (6, tu_i 0), (5, tu_i 0), (0, tu_r 0), (1, tu_i ((tu_bq (tu_cb M) (M 1 1).toNat q).1)), (2, tu_i ((tu_bq (tu_cb M) (M 1 1).toNat q).2.1)), (3, tu_i ((tu_bq (tu_cb M) (M 1 1).toNat q).2.2)), (4, tu_i ((q : Nat) : Int))]) dX3_bestPhrase_29 (by rw [hnl]; decide) rfl ?_
        have lp31 : ∀ (nq : Nat) (j : Nat) (L : Nat → Int) (a : Nat → Int) (k : Nat → Int) (r : Nat → Int) (c : Nat → Int), ((j : Int) ≤ M 1 1) → ((0 ≤ tu_uq (tu_cb M) q j ∧ tu_uq (tu_cb M) q j ≤ 40 * (j : Int)) ∧ (0 ≤ tu_sq2 (tu_cb M) q j ∧ tu_sq2 (tu_cb M) q j ≤ 40000000 * (j : Int))) → (M 1 1).toNat - j < nq → tu_W T 31 [(0, tu_r 0), (1, tu_i ((tu_bq (tu_cb M) (M 1 1).toNat q).1)), (2, tu_i ((tu_bq (tu_cb M) (M 1 1).toNat q).2.1)), (3, tu_i ((tu_bq (tu_cb M) (M 1 1).toNat q).2.2)), (4, tu_i ((q : Nat) : Int)), (5, tu_i (tu_uq (tu_cb M) q j)), (6, tu_i (tu_sq2 (tu_cb M) q j)), (7, tu_i ((j : Nat) : Int))] [] (tu_row (tu_row (tu_row (tu_row (tu_row M 11 L) 12 a) 13 k) 14 r) 15 c) := by
          intro nq
          induction nq with
          | zero => intros; omega
          | succ nq ih31 =>
            intro j L a k r c hj hu hn31
            refine tu_iload 31 X 7 dX3_bestPhrase_31 rfl ?_
            refine tu_aload_n 33 X 0 dX3_bestPhrase_33 rfl ?_
            refine tu_getR 34 X dX3_bestPhrase_34 fl_RX3_10 (by decide) rfl rfl ?_
            refine tu_getI 37 X (x := M 1 1) dX3_bestPhrase_37 fl_RX3_68 (by decide) rfl rfl rfl ?_
            refine tu_icmp_ge 40 X 106 dX3_bestPhrase_40 (by decide) (show tu_rg ((j : Nat) : Int) from by first | assumption | exact ⟨by omega, by omega⟩) (show tu_rg (M 1 1) from by first | assumption | exact ⟨by omega, by omega⟩) (fun br40 => ?_) (fun br40 => ?_)
            ·
              have ej : j = (M 1 1).toNat := by omega
              have eb := tu_bq_s (tu_cb M) (M 1 1).toNat q
              rw [show tu_uq (tu_cb M) q (M 1 1).toNat = tu_uq (tu_cb M) q j from by rw [ej], show tu_sq2 (tu_cb M) q (M 1 1).toNat = tu_sq2 (tu_cb M) q j from by rw [ej]] at eb
              refine tu_iload_n 106 X 1 dX3_bestPhrase_106 rfl ?_
              refine tu_bipush 107 X dX3_bestPhrase_107 (by decide) ?_
              refine tu_icmp_eq 109 X 130 dX3_bestPhrase_109 (by decide) (show tu_rg ((tu_bq (tu_cb M) (M 1 1).toNat q).1) from by first | assumption | exact ⟨by omega, by omega⟩) ⟨by decide, by decide⟩ (fun br109 => ?_) (fun br109 => ?_)
              ·
                refine tu_iload 130 X 4 dX3_bestPhrase_130 rfl ?_
                refine tu_istore_n 132 X (lv' := [(1, tu_i ((q : Nat) : Int)), (0, tu_r 0), (2, tu_i ((tu_bq (tu_cb M) (M 1 1).toNat q).2.1)), (3, tu_i ((tu_bq (tu_cb M) (M 1 1).toNat q).2.2)), (4, tu_i ((q : Nat) : Int)), (5, tu_i (tu_uq (tu_cb M) q j)), (6, tu_i (tu_sq2 (tu_cb M) q j)), (7, tu_i ((j : Nat) : Int))]) dX3_bestPhrase_132 (by rw [hnl]; decide) rfl ?_
                refine tu_iload 133 X 5 dX3_bestPhrase_133 rfl ?_
                refine tu_istore_n 135 X (lv' := [(2, tu_i (tu_uq (tu_cb M) q j)), (1, tu_i ((q : Nat) : Int)), (0, tu_r 0), (3, tu_i ((tu_bq (tu_cb M) (M 1 1).toNat q).2.2)), (4, tu_i ((q : Nat) : Int)), (5, tu_i (tu_uq (tu_cb M) q j)), (6, tu_i (tu_sq2 (tu_cb M) q j)), (7, tu_i ((j : Nat) : Int))]) dX3_bestPhrase_135 (by rw [hnl]; decide) rfl ?_
                refine tu_iload 136 X 6 dX3_bestPhrase_136 rfl ?_
                refine tu_istore_n 138 X (lv' := [(3, tu_i (tu_sq2 (tu_cb M) q j)), (2, tu_i (tu_uq (tu_cb M) q j)), (1, tu_i ((q : Nat) : Int)), (0, tu_r 0), (4, tu_i ((q : Nat) : Int)), (5, tu_i (tu_uq (tu_cb M) q j)), (6, tu_i (tu_sq2 (tu_cb M) q j)), (7, tu_i ((j : Nat) : Int))]) dX3_bestPhrase_138 (by rw [hnl]; decide) rfl ?_
                refine tu_iinc 139 X (lv' := [(4, tu_i (((q : Nat) : Int) + 1)), (3, tu_i (tu_sq2 (tu_cb M) q j)), (2, tu_i (tu_uq (tu_cb M) q j)), (1, tu_i ((q : Nat) : Int)), (0, tu_r 0), (5, tu_i (tu_uq (tu_cb M) q j)), (6, tu_i (tu_sq2 (tu_cb M) q j)), (7, tu_i ((j : Nat) : Int))]) 4 dX3_bestPhrase_139 rfl (by rw [hnl]; decide) rfl ?_
                refine tu_goto 142 X 10 dX3_bestPhrase_142 (by decide) ?_
                refine tu_jmp [4, 3, 2, 1, 0] (lv' := [(0, tu_r 0), (1, tu_i ((tu_bq (tu_cb M) (M 1 1).toNat (q + 1)).1)), (2, tu_i ((tu_bq (tu_cb M) (M 1 1).toNat (q + 1)).2.1)), (3, tu_i ((tu_bq (tu_cb M) (M 1 1).toNat (q + 1)).2.2)), (4, tu_i (((q + 1) : Nat) : Int))]) ⟨rfl, tu_ei (by first | rfl | (rw [eb]; split <;> first | rfl | omega)), tu_ei (by first | rfl | (rw [eb]; split <;> first | rfl | omega)), tu_ei (by first | rfl | (rw [eb]; split <;> first | rfl | omega)), tu_ei (by first | rfl | omega), trivial⟩ rfl (ih10 (q + 1) L a k r c (by omega) (by rw [eb]; split <;> first | omega | (simp only []; omega)) (by omega))
              ·
                refine tu_iload 112 X 5 dX3_bestPhrase_112 rfl ?_
                refine tu_iload_n 114 X 2 dX3_bestPhrase_114 rfl ?_
                refine tu_icmp_lt 115 X 130 dX3_bestPhrase_115 (by decide) (show tu_rg (tu_uq (tu_cb M) q j) from by first | assumption | exact ⟨by omega, by omega⟩) (show tu_rg ((tu_bq (tu_cb M) (M 1 1).toNat q).2.1) from by first | assumption | exact ⟨by omega, by omega⟩) (fun br115 => ?_) (fun br115 => ?_)
                ·
                  refine tu_iload 130 X 4 dX3_bestPhrase_130 rfl ?_
                  refine tu_istore_n 132 X (lv' := [(1, tu_i ((q : Nat) : Int)), (0, tu_r 0), (2, tu_i ((tu_bq (tu_cb M) (M 1 1).toNat q).2.1)), (3, tu_i ((tu_bq (tu_cb M) (M 1 1).toNat q).2.2)), (4, tu_i ((q : Nat) : Int)), (5, tu_i (tu_uq (tu_cb M) q j)), (6, tu_i (tu_sq2 (tu_cb M) q j)), (7, tu_i ((j : Nat) : Int))]) dX3_bestPhrase_132 (by rw [hnl]; decide) rfl ?_
                  refine tu_iload 133 X 5 dX3_bestPhrase_133 rfl ?_
                  refine tu_istore_n 135 X (lv' := [(2, tu_i (tu_uq (tu_cb M) q j)), (1, tu_i ((q : Nat) : Int)), (0, tu_r 0), (3, tu_i ((tu_bq (tu_cb M) (M 1 1).toNat q).2.2)), (4, tu_i ((q : Nat) : Int)), (5, tu_i (tu_uq (tu_cb M) q j)), (6, tu_i (tu_sq2 (tu_cb M) q j)), (7, tu_i ((j : Nat) : Int))]) dX3_bestPhrase_135 (by rw [hnl]; decide) rfl ?_
                  refine tu_iload 136 X 6 dX3_bestPhrase_136 rfl ?_
                  refine tu_istore_n 138 X (lv' := [(3, tu_i (tu_sq2 (tu_cb M) q j)), (2, tu_i (tu_uq (tu_cb M) q j)), (1, tu_i ((q : Nat) : Int)), (0, tu_r 0), (4, tu_i ((q : Nat) : Int)), (5, tu_i (tu_uq (tu_cb M) q j)), (6, tu_i (tu_sq2 (tu_cb M) q j)), (7, tu_i ((j : Nat) : Int))]) dX3_bestPhrase_138 (by rw [hnl]; decide) rfl ?_
                  refine tu_iinc 139 X (lv' := [(4, tu_i (((q : Nat) : Int) + 1)), (3, tu_i (tu_sq2 (tu_cb M) q j)), (2, tu_i (tu_uq (tu_cb M) q j)), (1, tu_i ((q : Nat) : Int)), (0, tu_r 0), (5, tu_i (tu_uq (tu_cb M) q j)), (6, tu_i (tu_sq2 (tu_cb M) q j)), (7, tu_i ((j : Nat) : Int))]) 4 dX3_bestPhrase_139 rfl (by rw [hnl]; decide) rfl ?_
                  refine tu_goto 142 X 10 dX3_bestPhrase_142 (by decide) ?_
                  refine tu_jmp [4, 3, 2, 1, 0] (lv' := [(0, tu_r 0), (1, tu_i ((tu_bq (tu_cb M) (M 1 1).toNat (q + 1)).1)), (2, tu_i ((tu_bq (tu_cb M) (M 1 1).toNat (q + 1)).2.1)), (3, tu_i ((tu_bq (tu_cb M) (M 1 1).toNat (q + 1)).2.2)), (4, tu_i (((q + 1) : Nat) : Int))]) ⟨rfl, tu_ei (by first | rfl | (rw [eb]; split <;> first | rfl | omega)), tu_ei (by first | rfl | (rw [eb]; split <;> first | rfl | omega)), tu_ei (by first | rfl | (rw [eb]; split <;> first | rfl | omega)), tu_ei (by first | rfl | omega), trivial⟩ rfl (ih10 (q + 1) L a k r c (by omega) (by rw [eb]; split <;> first | omega | (simp only []; omega)) (by omega))
                ·
                  refine tu_iload 118 X 5 dX3_bestPhrase_118 rfl ?_
                  refine tu_iload_n 120 X 2 dX3_bestPhrase_120 rfl ?_
                  refine tu_icmp_ne 121 X 139 dX3_bestPhrase_121 (by decide) (show tu_rg (tu_uq (tu_cb M) q j) from by first | assumption | exact ⟨by omega, by omega⟩) (show tu_rg ((tu_bq (tu_cb M) (M 1 1).toNat q).2.1) from by first | assumption | exact ⟨by omega, by omega⟩) (fun br121 => ?_) (fun br121 => ?_)
                  ·
                    refine tu_iinc 139 X (lv' := [(4, tu_i (((q : Nat) : Int) + 1)), (0, tu_r 0), (1, tu_i ((tu_bq (tu_cb M) (M 1 1).toNat q).1)), (2, tu_i ((tu_bq (tu_cb M) (M 1 1).toNat q).2.1)), (3, tu_i ((tu_bq (tu_cb M) (M 1 1).toNat q).2.2)), (5, tu_i (tu_uq (tu_cb M) q j)), (6, tu_i (tu_sq2 (tu_cb M) q j)), (7, tu_i ((j : Nat) : Int))]) 4 dX3_bestPhrase_139 rfl (by rw [hnl]; decide) rfl ?_
                    refine tu_goto 142 X 10 dX3_bestPhrase_142 (by decide) ?_
                    refine tu_jmp [1, 2, 3, 4, 0] (lv' := [(0, tu_r 0), (1, tu_i ((tu_bq (tu_cb M) (M 1 1).toNat (q + 1)).1)), (2, tu_i ((tu_bq (tu_cb M) (M 1 1).toNat (q + 1)).2.1)), (3, tu_i ((tu_bq (tu_cb M) (M 1 1).toNat (q + 1)).2.2)), (4, tu_i (((q + 1) : Nat) : Int))]) ⟨rfl, tu_ei (by first | rfl | (rw [eb]; split <;> first | rfl | omega)), tu_ei (by first | rfl | (rw [eb]; split <;> first | rfl | omega)), tu_ei (by first | rfl | (rw [eb]; split <;> first | rfl | omega)), tu_ei (by first | rfl | omega), trivial⟩ rfl (ih10 (q + 1) L a k r c (by omega) (by rw [eb]; split <;> first | omega | (simp only []; omega)) (by omega))
                  ·
                    refine tu_iload 124 X 6 dX3_bestPhrase_124 rfl ?_
                    refine tu_iload_n 126 X 3 dX3_bestPhrase_126 rfl ?_
                    refine tu_icmp_ge 127 X 139 dX3_bestPhrase_127 (by decide) (show tu_rg (tu_sq2 (tu_cb M) q j) from by first | assumption | exact ⟨by omega, by omega⟩) (show tu_rg ((tu_bq (tu_cb M) (M 1 1).toNat q).2.2) from by first | assumption | exact ⟨by omega, by omega⟩) (fun br127 => ?_) (fun br127 => ?_)
                    ·
                      refine tu_iinc 139 X (lv' := [(4, tu_i (((q : Nat) : Int) + 1)), (0, tu_r 0), (1, tu_i ((tu_bq (tu_cb M) (M 1 1).toNat q).1)), (2, tu_i ((tu_bq (tu_cb M) (M 1 1).toNat q).2.1)), (3, tu_i ((tu_bq (tu_cb M) (M 1 1).toNat q).2.2)), (5, tu_i (tu_uq (tu_cb M) q j)), (6, tu_i (tu_sq2 (tu_cb M) q j)), (7, tu_i ((j : Nat) : Int))]) 4 dX3_bestPhrase_139 rfl (by rw [hnl]; decide) rfl ?_
                      refine tu_goto 142 X 10 dX3_bestPhrase_142 (by decide) ?_
                      refine tu_jmp [1, 2, 3, 4, 0] (lv' := [(0, tu_r 0), (1, tu_i ((tu_bq (tu_cb M) (M 1 1).toNat (q + 1)).1)), (2, tu_i ((tu_bq (tu_cb M) (M 1 1).toNat (q + 1)).2.1)), (3, tu_i ((tu_bq (tu_cb M) (M 1 1).toNat (q + 1)).2.2)), (4, tu_i (((q + 1) : Nat) : Int))]) ⟨rfl, tu_ei (by first | rfl | (rw [eb]; split <;> first | rfl | omega)), tu_ei (by first | rfl | (rw [eb]; split <;> first | rfl | omega)), tu_ei (by first | rfl | (rw [eb]; split <;> first | rfl | omega)), tu_ei (by first | rfl | omega), trivial⟩ rfl (ih10 (q + 1) L a k r c (by omega) (by rw [eb]; split <;> first | omega | (simp only []; omega)) (by omega))
                    ·
                      refine tu_iload 130 X 4 dX3_bestPhrase_130 rfl ?_
                      refine tu_istore_n 132 X (lv' := [(1, tu_i ((q : Nat) : Int)), (0, tu_r 0), (2, tu_i ((tu_bq (tu_cb M) (M 1 1).toNat q).2.1)), (3, tu_i ((tu_bq (tu_cb M) (M 1 1).toNat q).2.2)), (4, tu_i ((q : Nat) : Int)), (5, tu_i (tu_uq (tu_cb M) q j)), (6, tu_i (tu_sq2 (tu_cb M) q j)), (7, tu_i ((j : Nat) : Int))]) dX3_bestPhrase_132 (by rw [hnl]; decide) rfl ?_
                      refine tu_iload 133 X 5 dX3_bestPhrase_133 rfl ?_
                      refine tu_istore_n 135 X (lv' := [(2, tu_i (tu_uq (tu_cb M) q j)), (1, tu_i ((q : Nat) : Int)), (0, tu_r 0), (3, tu_i ((tu_bq (tu_cb M) (M 1 1).toNat q).2.2)), (4, tu_i ((q : Nat) : Int)), (5, tu_i (tu_uq (tu_cb M) q j)), (6, tu_i (tu_sq2 (tu_cb M) q j)), (7, tu_i ((j : Nat) : Int))]) dX3_bestPhrase_135 (by rw [hnl]; decide) rfl ?_
                      refine tu_iload 136 X 6 dX3_bestPhrase_136 rfl ?_
                      refine tu_istore_n 138 X (lv' := [(3, tu_i (tu_sq2 (tu_cb M) q j)), (2, tu_i (tu_uq (tu_cb M) q j)), (1, tu_i ((q : Nat) : Int)), (0, tu_r 0), (4, tu_i ((q : Nat) : Int)), (5, tu_i (tu_uq (tu_cb M) q j)), (6, tu_i (tu_sq2 (tu_cb M) q j)), (7, tu_i ((j : Nat) : Int))]) dX3_bestPhrase_138 (by rw [hnl]; decide) rfl ?_
                      refine tu_iinc 139 X (lv' := [(4, tu_i (((q : Nat) : Int) + 1)), (3, tu_i (tu_sq2 (tu_cb M) q j)), (2, tu_i (tu_uq (tu_cb M) q j)), (1, tu_i ((q : Nat) : Int)), (0, tu_r 0), (5, tu_i (tu_uq (tu_cb M) q j)), (6, tu_i (tu_sq2 (tu_cb M) q j)), (7, tu_i ((j : Nat) : Int))]) 4 dX3_bestPhrase_139 rfl (by rw [hnl]; decide) rfl ?_
                      refine tu_goto 142 X 10 dX3_bestPhrase_142 (by decide) ?_
                      refine tu_jmp [4, 3, 2, 1, 0] (lv' := [(0, tu_r 0), (1, tu_i ((tu_bq (tu_cb M) (M 1 1).toNat (q + 1)).1)), (2, tu_i ((tu_bq (tu_cb M) (M 1 1).toNat (q + 1)).2.1)), (3, tu_i ((tu_bq (tu_cb M) (M 1 1).toNat (q + 1)).2.2)), (4, tu_i (((q + 1) : Nat) : Int))]) ⟨rfl, tu_ei (by first | rfl | (rw [eb]; split <;> first | rfl | omega)), tu_ei (by first | rfl | (rw [eb]; split <;> first | rfl | omega)), tu_ei (by first | rfl | (rw [eb]; split <;> first | rfl | omega)), tu_ei (by first | rfl | omega), trivial⟩ rfl (ih10 (q + 1) L a k r c (by omega) (by rw [eb]; split <;> first | omega | (simp only []; omega)) (by omega))
            ·
              refine tu_aload_n 43 X 0 dX3_bestPhrase_43 rfl ?_
              refine tu_getR 44 X dX3_bestPhrase_44 fl_RX3_10 (by decide) rfl rfl ?_
              refine tu_iload 47 X 7 dX3_bestPhrase_47 rfl ?_
              refine tu_callVI 49 X (st := []) (as := [tu_i ((j : Nat) : Int)]) (c_X0_timesSung ((j : Nat) : Int) (show tu_OK M from by first | assumption | omega | exact ⟨by omega, by omega⟩ | decide) (show tu_rg ((j : Nat) : Int) from by first | assumption | omega | exact ⟨by omega, by omega⟩ | decide)) sv_RX3_138 dX3_bestPhrase_49 rfl (by decide) rfl rfl rfl (Nat.le_of_ble_eq_true rfl) ⟨by decide, by decide⟩ (fun z M' h => ?_)
              obtain ⟨hM49, hz49⟩ := h
              refine tu_st_eq rfl (M' := tu_row (tu_row (tu_row (tu_row (tu_row M 11 L) 12 a) 13 k) 14 r) 15 c) hM49 ?_
              refine tu_tp (b := (tu_ti (M 7) ((j : Nat) : Int) (M 1 7).toNat)) hz49 ?_
              refine tu_istore 52 X (lv' := [(8, tu_i (tu_ti (M 7) ((j : Nat) : Int) (M 1 7).toNat)), (0, tu_r 0), (1, tu_i ((tu_bq (tu_cb M) (M 1 1).toNat q).1)), (2, tu_i ((tu_bq (tu_cb M) (M 1 1).toNat q).2.1)), (3, tu_i ((tu_bq (tu_cb M) (M 1 1).toNat q).2.2)), (4, tu_i ((q : Nat) : Int)), (5, tu_i (tu_uq (tu_cb M) q j)), (6, tu_i (tu_sq2 (tu_cb M) q j)), (7, tu_i ((j : Nat) : Int))]) dX3_bestPhrase_52 (by rw [hnl]; decide) rfl ?_
              refine tu_iload 54 X 0 dX3_bestPhrase_54 rfl ?_
              have hti : 0 ≤ tu_ti (M 7) ((j : Nat) : Int) (M 1 7).toNat ∧ tu_ti (M 7) ((j : Nat) : Int) (M 1 7).toNat ≤ 40 := by have := tu_ti_01 (M 7) ((j : Nat) : Int) (M 1 7).toNat; omega
              refine tu_if_ne 56 X 63 dX3_bestPhrase_56 (by decide) (show tu_rg (tu_ti (M 7) ((j : Nat) : Int) (M 1 7).toNat) from by first | assumption | exact ⟨by omega, by omega⟩) (fun br56 => ?_) (fun br56 => ?_)
              ·
                refine tu_aload_n 63 X 1 dX3_bestPhrase_63 rfl ?_
                refine tu_iload 64 X 8 dX3_bestPhrase_64 rfl ?_
                refine tu_iload 66 X 5 dX3_bestPhrase_66 rfl ?_
                refine tu_callVI 68 X (st := []) (as := [tu_i ((j : Nat) : Int), tu_i ((q : Nat) : Int)]) (c_X3_leastCostOf j q (show tu_OK M from by first | assumption | omega | exact ⟨by omega, by omega⟩ | decide) (show (j : Int) < M 1 1 from by first | assumption | omega | exact ⟨by omega, by omega⟩ | decide) (show (q : Int) < M 1 4 from by first | assumption | omega | exact ⟨by omega, by omega⟩ | decide)) sv_RX3_166 dX3_bestPhrase_68 rfl (by decide) rfl rfl rfl (Nat.le_of_ble_eq_true rfl) ⟨by decide, by decide⟩ (fun z M' h => ?_)
                obtain ⟨L_68, a_68, k_68, r_68, c_68, hM68, h68_0, h68_1, h68_2, h68_3, h68_4, hz68⟩ := h
                have h68_0 : tu_LK L_68 a_68 k_68 r_68 (tu_nl (tu_cb M) j) (tu_np (tu_cb M) q) := h68_0
                have h68_1 : tu_TK (tu_cb M) j q L_68 a_68 k_68 := h68_1
                have h68_2 : tu_Tx L_68 a_68 k_68 r_68 (tu_nl (tu_cb M) j) (tu_np (tu_cb M) q) c_68 := h68_2
                have h68_3 : c_68 0 = tu_co (tu_cb M) j q := h68_3
                have h68_4 : 0 ≤ tu_co (tu_cb M) j q ∧ tu_co (tu_cb M) j q ≤ 1000000 := h68_4
                refine tu_st_eq rfl (M' := tu_row (tu_row (tu_row (tu_row (tu_row M 11 L_68) 12 a_68) 13 k_68) 14 r_68) 15 c_68) (hM68.trans ((congrArg (fun m => tu_row m 15 c_68) ((congrArg (fun m => tu_row m 14 r_68) ((congrArg (fun m => tu_row m 13 k_68) ((congrArg (fun m => tu_row m 12 a_68) ((tu_rc (tu_row (tu_row (tu_row (tu_row M 11 L) 12 a) 13 k) 14 r) c L_68 rfl).trans (congrArg (fun m => tu_row m 15 c) ((tu_rc (tu_row (tu_row (tu_row M 11 L) 12 a) 13 k) r L_68 rfl).trans (congrArg (fun m => tu_row m 14 r) ((tu_rc (tu_row (tu_row M 11 L) 12 a) k L_68 rfl).trans (congrArg (fun m => tu_row m 13 k) ((tu_rc (tu_row M 11 L) a L_68 rfl).trans (congrArg (fun m => tu_row m 12 a) (tu_rr M 11 L L_68)))))))))).trans ((tu_rc (tu_row (tu_row (tu_row (tu_row M 11 L_68) 12 a) 13 k) 14 r) c a_68 rfl).trans (congrArg (fun m => tu_row m 15 c) ((tu_rc (tu_row (tu_row (tu_row M 11 L_68) 12 a) 13 k) r a_68 rfl).trans (congrArg (fun m => tu_row m 14 r) ((tu_rc (tu_row (tu_row M 11 L_68) 12 a) k a_68 rfl).trans (congrArg (fun m => tu_row m 13 k) (tu_rr (tu_row M 11 L_68) 12 a a_68))))))))).trans ((tu_rc (tu_row (tu_row (tu_row (tu_row M 11 L_68) 12 a_68) 13 k) 14 r) c k_68 rfl).trans (congrArg (fun m => tu_row m 15 c) ((tu_rc (tu_row (tu_row (tu_row M 11 L_68) 12 a_68) 13 k) r k_68 rfl).trans (congrArg (fun m => tu_row m 14 r) (tu_rr (tu_row (tu_row M 11 L_68) 12 a_68) 13 k k_68))))))).trans ((tu_rc (tu_row (tu_row (tu_row (tu_row M 11 L_68) 12 a_68) 13 k_68) 14 r) c r_68 rfl).trans (congrArg (fun m => tu_row m 15 c) (tu_rr (tu_row (tu_row (tu_row M 11 L_68) 12 a_68) 13 k_68) 14 r r_68))))).trans (tu_rr (tu_row (tu_row (tu_row (tu_row M 11 L_68) 12 a_68) 13 k_68) 14 r_68) 15 c c_68))) ?_
                refine tu_tp (b := (tu_co (tu_cb M) j q)) hz68 ?_
                have hpr := tu_prod hti h68_4
                refine tu_istore 71 X (lv' := [(9, tu_i (tu_co (tu_cb M) j q)), (8, tu_i (tu_ti (M 7) ((j : Nat) : Int) (M 1 7).toNat)), (0, tu_r 0), (1, tu_i ((tu_bq (tu_cb M) (M 1 1).toNat q).1)), (2, tu_i ((tu_bq (tu_cb M) (M 1 1).toNat q).2.1)), (3, tu_i ((tu_bq (tu_cb M) (M 1 1).toNat q).2.2)), (4, tu_i ((q : Nat) : Int)), (5, tu_i (tu_uq (tu_cb M) q j)), (6, tu_i (tu_sq2 (tu_cb M) q j)), (7, tu_i ((j : Nat) : Int))]) dX3_bestPhrase_71 (by rw [hnl]; decide) rfl ?_
                refine tu_iload 73 X 0 dX3_bestPhrase_73 rfl ?_
                refine tu_ldc 75 X (n := 1000000) dX3_bestPhrase_75 kw_RX3_169 (by decide) ?_
                refine tu_icmp_lt 77 X 90 dX3_bestPhrase_77 (by decide) (show tu_rg (tu_co (tu_cb M) j q) from by first | assumption | exact ⟨by omega, by omega⟩) ⟨by decide, by decide⟩ (fun br77 => ?_) (fun br77 => ?_)
                ·
                  refine tu_iload 90 X 8 dX3_bestPhrase_90 rfl ?_
                  refine tu_iload 92 X 1 dX3_bestPhrase_92 rfl ?_
                  refine tu_iload 94 X 0 dX3_bestPhrase_94 rfl ?_
                  refine tu_imul 96 X dX3_bestPhrase_96 ?_
                  refine tu_iadd 97 X dX3_bestPhrase_97 ?_
                  refine tu_istore 98 X (lv' := [(6, tu_i (tu_sq2 (tu_cb M) q j + ((tu_ti (M 7) ((j : Nat) : Int) (M 1 7).toNat) * (tu_co (tu_cb M) j q)))), (9, tu_i (tu_co (tu_cb M) j q)), (8, tu_i (tu_ti (M 7) ((j : Nat) : Int) (M 1 7).toNat)), (0, tu_r 0), (1, tu_i ((tu_bq (tu_cb M) (M 1 1).toNat q).1)), (2, tu_i ((tu_bq (tu_cb M) (M 1 1).toNat q).2.1)), (3, tu_i ((tu_bq (tu_cb M) (M 1 1).toNat q).2.2)), (4, tu_i ((q : Nat) : Int)), (5, tu_i (tu_uq (tu_cb M) q j)), (7, tu_i ((j : Nat) : Int))]) dX3_bestPhrase_98 (by rw [hnl]; decide) rfl ?_
                  have e1 : tu_uq (tu_cb M) q (j + 1) = tu_uq (tu_cb M) q j + (if tu_co (tu_cb M) j q < 1000000 then 0 else tu_ti (M 7) ((j : Nat) : Int) (M 1 7).toNat) := rfl
                  have e2 : tu_sq2 (tu_cb M) q (j + 1) = tu_sq2 (tu_cb M) q j + (if tu_co (tu_cb M) j q < 1000000 then tu_ti (M 7) ((j : Nat) : Int) (M 1 7).toNat * tu_co (tu_cb M) j q else 0) := rfl
                  refine tu_iinc 100 X (lv' := [(7, tu_i (((j : Nat) : Int) + 1)), (6, tu_i (tu_sq2 (tu_cb M) q j + ((tu_ti (M 7) ((j : Nat) : Int) (M 1 7).toNat) * (tu_co (tu_cb M) j q)))), (9, tu_i (tu_co (tu_cb M) j q)), (8, tu_i (tu_ti (M 7) ((j : Nat) : Int) (M 1 7).toNat)), (0, tu_r 0), (1, tu_i ((tu_bq (tu_cb M) (M 1 1).toNat q).1)), (2, tu_i ((tu_bq (tu_cb M) (M 1 1).toNat q).2.1)), (3, tu_i ((tu_bq (tu_cb M) (M 1 1).toNat q).2.2)), (4, tu_i ((q : Nat) : Int)), (5, tu_i (tu_uq (tu_cb M) q j))]) 9 dX3_bestPhrase_100 rfl (by rw [hnl]; decide) rfl ?_
                  refine tu_goto 103 X 31 dX3_bestPhrase_103 (by decide) ?_
                  refine tu_jmp [4, 5, 6, 7, 8, 9, 1, 0] (lv' := [(0, tu_r 0), (1, tu_i ((tu_bq (tu_cb M) (M 1 1).toNat q).1)), (2, tu_i ((tu_bq (tu_cb M) (M 1 1).toNat q).2.1)), (3, tu_i ((tu_bq (tu_cb M) (M 1 1).toNat q).2.2)), (4, tu_i ((q : Nat) : Int)), (5, tu_i (tu_uq (tu_cb M) q (j + 1))), (6, tu_i (tu_sq2 (tu_cb M) q (j + 1))), (7, tu_i (((j + 1) : Nat) : Int))]) ⟨rfl, rfl, rfl, rfl, rfl, tu_ei (by first | rfl | (rw [e1]; split <;> omega)), tu_ei (by first | rfl | (rw [e2]; first | (rw [if_pos (by omega)]; done) | (split <;> omega))), tu_ei (by first | rfl | omega), trivial⟩ rfl (ih31 (j + 1) L_68 a_68 k_68 r_68 c_68 (by omega) (by rw [e1, e2]; split <;> omega) (by omega))
                ·
                  refine tu_iload 80 X 7 dX3_bestPhrase_80 rfl ?_
                  refine tu_iload 82 X 1 dX3_bestPhrase_82 rfl ?_
                  refine tu_iadd 84 X dX3_bestPhrase_84 ?_
                  refine tu_istore 85 X (lv' := [(5, tu_i (tu_uq (tu_cb M) q j + (tu_ti (M 7) ((j : Nat) : Int) (M 1 7).toNat))), (9, tu_i (tu_co (tu_cb M) j q)), (8, tu_i (tu_ti (M 7) ((j : Nat) : Int) (M 1 7).toNat)), (0, tu_r 0), (1, tu_i ((tu_bq (tu_cb M) (M 1 1).toNat q).1)), (2, tu_i ((tu_bq (tu_cb M) (M 1 1).toNat q).2.1)), (3, tu_i ((tu_bq (tu_cb M) (M 1 1).toNat q).2.2)), (4, tu_i ((q : Nat) : Int)), (6, tu_i (tu_sq2 (tu_cb M) q j)), (7, tu_i ((j : Nat) : Int))]) dX3_bestPhrase_85 (by rw [hnl]; decide) rfl ?_
                  refine tu_goto 87 X 100 dX3_bestPhrase_87 (by decide) ?_
                  have e1 : tu_uq (tu_cb M) q (j + 1) = tu_uq (tu_cb M) q j + (if tu_co (tu_cb M) j q < 1000000 then 0 else tu_ti (M 7) ((j : Nat) : Int) (M 1 7).toNat) := rfl
                  have e2 : tu_sq2 (tu_cb M) q (j + 1) = tu_sq2 (tu_cb M) q j + (if tu_co (tu_cb M) j q < 1000000 then tu_ti (M 7) ((j : Nat) : Int) (M 1 7).toNat * tu_co (tu_cb M) j q else 0) := rfl
                  refine tu_iinc 100 X (lv' := [(7, tu_i (((j : Nat) : Int) + 1)), (5, tu_i (tu_uq (tu_cb M) q j + (tu_ti (M 7) ((j : Nat) : Int) (M 1 7).toNat))), (9, tu_i (tu_co (tu_cb M) j q)), (8, tu_i (tu_ti (M 7) ((j : Nat) : Int) (M 1 7).toNat)), (0, tu_r 0), (1, tu_i ((tu_bq (tu_cb M) (M 1 1).toNat q).1)), (2, tu_i ((tu_bq (tu_cb M) (M 1 1).toNat q).2.1)), (3, tu_i ((tu_bq (tu_cb M) (M 1 1).toNat q).2.2)), (4, tu_i ((q : Nat) : Int)), (6, tu_i (tu_sq2 (tu_cb M) q j))]) 9 dX3_bestPhrase_100 rfl (by rw [hnl]; decide) rfl ?_
                  refine tu_goto 103 X 31 dX3_bestPhrase_103 (by decide) ?_
                  refine tu_jmp [4, 5, 6, 7, 8, 1, 9, 0] (lv' := [(0, tu_r 0), (1, tu_i ((tu_bq (tu_cb M) (M 1 1).toNat q).1)), (2, tu_i ((tu_bq (tu_cb M) (M 1 1).toNat q).2.1)), (3, tu_i ((tu_bq (tu_cb M) (M 1 1).toNat q).2.2)), (4, tu_i ((q : Nat) : Int)), (5, tu_i (tu_uq (tu_cb M) q (j + 1))), (6, tu_i (tu_sq2 (tu_cb M) q (j + 1))), (7, tu_i (((j + 1) : Nat) : Int))]) ⟨rfl, rfl, rfl, rfl, rfl, tu_ei (by first | rfl | (rw [e1]; split <;> omega)), tu_ei (by first | rfl | (rw [e2]; first | (rw [if_pos (by omega)]; done) | (split <;> omega))), tu_ei (by first | rfl | omega), trivial⟩ rfl (ih31 (j + 1) L_68 a_68 k_68 r_68 c_68 (by omega) (by rw [e1, e2]; split <;> omega) (by omega))
              ·
                have hpr : tu_ti (M 7) ((j : Nat) : Int) (M 1 7).toNat * tu_co (tu_cb M) j q = 0 := by rw [br56, Int.zero_mul]
                refine tu_iconst 59 X dX3_bestPhrase_59 ?_
                refine tu_goto 60 X 71 dX3_bestPhrase_60 (by decide) ?_
                refine tu_istore 71 X (lv' := [(9, tu_i 0), (8, tu_i (tu_ti (M 7) ((j : Nat) : Int) (M 1 7).toNat)), (0, tu_r 0), (1, tu_i ((tu_bq (tu_cb M) (M 1 1).toNat q).1)), (2, tu_i ((tu_bq (tu_cb M) (M 1 1).toNat q).2.1)), (3, tu_i ((tu_bq (tu_cb M) (M 1 1).toNat q).2.2)), (4, tu_i ((q : Nat) : Int)), (5, tu_i (tu_uq (tu_cb M) q j)), (6, tu_i (tu_sq2 (tu_cb M) q j)), (7, tu_i ((j : Nat) : Int))]) dX3_bestPhrase_71 (by rw [hnl]; decide) rfl ?_
                refine tu_iload 73 X 0 dX3_bestPhrase_73 rfl ?_
                refine tu_ldc 75 X (n := 1000000) dX3_bestPhrase_75 kw_RX3_169 (by decide) ?_
                refine tu_icmp_lt 77 X 90 dX3_bestPhrase_77 (by decide) ⟨by decide, by decide⟩ ⟨by decide, by decide⟩ (fun br77 => ?_) (fun br77 => ?_)
                ·
                  refine tu_iload 90 X 8 dX3_bestPhrase_90 rfl ?_
                  refine tu_iload 92 X 1 dX3_bestPhrase_92 rfl ?_
                  refine tu_iload 94 X 0 dX3_bestPhrase_94 rfl ?_
                  refine tu_imul 96 X dX3_bestPhrase_96 ?_
                  refine tu_iadd 97 X dX3_bestPhrase_97 ?_
                  refine tu_istore 98 X (lv' := [(6, tu_i (tu_sq2 (tu_cb M) q j + ((tu_ti (M 7) ((j : Nat) : Int) (M 1 7).toNat) * 0))), (9, tu_i 0), (8, tu_i (tu_ti (M 7) ((j : Nat) : Int) (M 1 7).toNat)), (0, tu_r 0), (1, tu_i ((tu_bq (tu_cb M) (M 1 1).toNat q).1)), (2, tu_i ((tu_bq (tu_cb M) (M 1 1).toNat q).2.1)), (3, tu_i ((tu_bq (tu_cb M) (M 1 1).toNat q).2.2)), (4, tu_i ((q : Nat) : Int)), (5, tu_i (tu_uq (tu_cb M) q j)), (7, tu_i ((j : Nat) : Int))]) dX3_bestPhrase_98 (by rw [hnl]; decide) rfl ?_
                  have e1 : tu_uq (tu_cb M) q (j + 1) = tu_uq (tu_cb M) q j + (if tu_co (tu_cb M) j q < 1000000 then 0 else tu_ti (M 7) ((j : Nat) : Int) (M 1 7).toNat) := rfl
                  have e2 : tu_sq2 (tu_cb M) q (j + 1) = tu_sq2 (tu_cb M) q j + (if tu_co (tu_cb M) j q < 1000000 then tu_ti (M 7) ((j : Nat) : Int) (M 1 7).toNat * tu_co (tu_cb M) j q else 0) := rfl
                  refine tu_iinc 100 X (lv' := [(7, tu_i (((j : Nat) : Int) + 1)), (6, tu_i (tu_sq2 (tu_cb M) q j + ((tu_ti (M 7) ((j : Nat) : Int) (M 1 7).toNat) * 0))), (9, tu_i 0), (8, tu_i (tu_ti (M 7) ((j : Nat) : Int) (M 1 7).toNat)), (0, tu_r 0), (1, tu_i ((tu_bq (tu_cb M) (M 1 1).toNat q).1)), (2, tu_i ((tu_bq (tu_cb M) (M 1 1).toNat q).2.1)), (3, tu_i ((tu_bq (tu_cb M) (M 1 1).toNat q).2.2)), (4, tu_i ((q : Nat) : Int)), (5, tu_i (tu_uq (tu_cb M) q j))]) 9 dX3_bestPhrase_100 rfl (by rw [hnl]; decide) rfl ?_
                  refine tu_goto 103 X 31 dX3_bestPhrase_103 (by decide) ?_
                  refine tu_jmp [4, 5, 6, 7, 8, 9, 1, 0] (lv' := [(0, tu_r 0), (1, tu_i ((tu_bq (tu_cb M) (M 1 1).toNat q).1)), (2, tu_i ((tu_bq (tu_cb M) (M 1 1).toNat q).2.1)), (3, tu_i ((tu_bq (tu_cb M) (M 1 1).toNat q).2.2)), (4, tu_i ((q : Nat) : Int)), (5, tu_i (tu_uq (tu_cb M) q (j + 1))), (6, tu_i (tu_sq2 (tu_cb M) q (j + 1))), (7, tu_i (((j + 1) : Nat) : Int))]) ⟨rfl, rfl, rfl, rfl, rfl, tu_ei (by first | rfl | (rw [e1]; split <;> omega)), tu_ei (by first | rfl | (rw [e2]; first | (rw [if_pos (by omega)]; done) | (split <;> omega))), tu_ei (by first | rfl | omega), trivial⟩ rfl (ih31 (j + 1) L a k r c (by omega) (by rw [e1, e2]; split <;> omega) (by omega))
                ·
                  exfalso; omega
        refine tu_jmp [3, 4, 5, 6, 7, 2, 1, 0] (lv' := [(0, tu_r 0), (1, tu_i ((tu_bq (tu_cb M) (M 1 1).toNat q).1)), (2, tu_i ((tu_bq (tu_cb M) (M 1 1).toNat q).2.1)), (3, tu_i ((tu_bq (tu_cb M) (M 1 1).toNat q).2.2)), (4, tu_i ((q : Nat) : Int)), (5, tu_i (tu_uq (tu_cb M) q 0)), (6, tu_i (tu_sq2 (tu_cb M) q 0)), (7, tu_i 0)]) ⟨rfl, rfl, rfl, rfl, rfl, tu_ei (by first | rfl | (rw [e1]; split <;> omega)), tu_ei (by first | rfl | (rw [e2]; first | (rw [if_pos (by omega)]; done) | (split <;> omega))), rfl, trivial⟩ rfl (lp31 (((M 1 1).toNat - 0) + 1) 0 L a k r c (by omega) (by exact ⟨⟨Int.le_refl _, by show (0 : Int) ≤ 40 * 0; decide⟩, ⟨Int.le_refl _, by show (0 : Int) ≤ 40000000 * 0; decide⟩⟩) (by omega))
  refine tu_jmp [4, 3, 2, 1, 0] (lv' := [(0, tu_r 0), (1, tu_i ((tu_bq (tu_cb M) (M 1 1).toNat 0).1)), (2, tu_i ((tu_bq (tu_cb M) (M 1 1).toNat 0).2.1)), (3, tu_i ((tu_bq (tu_cb M) (M 1 1).toNat 0).2.2)), (4, tu_i 0)]) ⟨rfl, tu_ei (by first | rfl | (rw [eb]; split <;> first | rfl | omega)), tu_ei (by first | rfl | (rw [eb]; split <;> first | rfl | omega)), tu_ei (by first | rfl | (rw [eb]; split <;> first | rfl | omega)), rfl, trivial⟩ rfl (lp10 (((M 1 4).toNat - 0) + 1) 0 (M 11) (M 12) (M 13) (M 14) (M 15) (by omega) (by exact ⟨⟨Int.le_refl _, by show (-6 : Int) ≤ 0; decide⟩, ⟨Int.le_refl _, by show (0 : Int) ≤ 640; decide⟩, ⟨Int.le_refl _, by show (0 : Int) ≤ 640000000; decide⟩⟩) (by omega))
