theorem tu_f1_rg (k : Nat) : tu_rg (tu_f1 k) := by
  unfold tu_f1; split <;> exact ⟨by decide, by decide⟩
theorem tu_f2_rg (k : Nat) : tu_rg (tu_f2 k) := by
  unfold tu_f2; split <;> exact ⟨by decide, by decide⟩
set_option maxRecDepth 20000 in
set_option maxHeartbeats 4000000 in
theorem c_X3_set {M : tu_M} (a w : Int) (hH : tu_HS M) (ra : tu_rg a) (rw : tu_rg w) : tu_MI tu_Y_X3_set [tu_r 0, tu_i a, tu_i w] M (fun z M' => ∃ (y : Int), (((¬ (0 ≤ a ∧ a < 4 ∧ tu_f1 a.toNat ≤ w ∧ w ≤ tu_f2 a.toNat)) ∧ M' = M ∧ y = -2) ∨ ((0 ≤ a ∧ a < 4 ∧ tu_f1 a.toNat ≤ w ∧ w ≤ tu_f2 a.toNat) ∧ ∃ N : tu_M, tu_rec M N ∧ M' = tu_row N 2 (tu_u (M 2) a.toNat w) ∧ y = M 2 a.toNat)) ∧ z = y) := by
  refine tu_MI.of (ty := .int) (by decide) rfl (by first | exact Or.inl rfl | exact Or.inr rfl) (Nat.le_of_ble_eq_true rfl) (fun T (X : tu_X T cX3_set RX3 3 83) hnl hrt hret => ?_)
  have hret : tu_RI T cX3_set (fun z M' => ∃ (y : Int), (((¬ (0 ≤ a ∧ a < 4 ∧ tu_f1 a.toNat ≤ w ∧ w ≤ tu_f2 a.toNat)) ∧ M' = M ∧ y = -2) ∨ ((0 ≤ a ∧ a < 4 ∧ tu_f1 a.toNat ≤ w ∧ w ≤ tu_f2 a.toNat) ∧ ∃ N : tu_M, tu_rec M N ∧ M' = tu_row N 2 (tu_u (M 2) a.toNat w) ∧ y = M 2 a.toNat)) ∧ z = y) := hret
  have hnl : T.2.2.2.2.2.2.2.2.2.2.1 = 4 := hnl
  show tu_W T 0 [(0, tu_r 0), (1, tu_i a), (2, tu_i w)] [] M
  refine tu_iload_n 0 X 1 dX3_set_0 rfl ?_
  refine tu_if_lt 1 X 9 dX3_set_1 (by decide) (show tu_rg a from by first | assumption | exact ⟨by omega, by omega⟩) (fun br1 => ?_) (fun br1 => ?_)
  ·
    refine tu_bipush 9 X dX3_set_9 (by decide) ?_
    refine hret 11 _ _ (-2) dX3_set_11 (fun h => by rw [hrt] at h; cases h) ?_
    exact ⟨_, Or.inl (⟨by omega, rfl, rfl⟩), rfl⟩
  ·
    refine tu_iload_n 4 X 1 dX3_set_4 rfl ?_
    refine tu_iconst 5 X dX3_set_5 ?_
    refine tu_icmp_lt 6 X 12 dX3_set_6 (by decide) (show tu_rg a from by first | assumption | exact ⟨by omega, by omega⟩) ⟨by decide, by decide⟩ (fun br6 => ?_) (fun br6 => ?_)
    ·
      refine tu_iload_n 12 X 2 dX3_set_12 rfl ?_
      refine tu_gets1 13 X gs_1 dX3_set_13 ?_
      refine tu_iload_n 16 X 1 dX3_set_16 rfl ?_
      refine tu_tald1 17 X a.toNat dX3_set_17 (by omega) (by omega) ?_
      have f1 := tu_f1_rg a.toNat
      refine tu_icmp_lt 18 X 30 dX3_set_18 (by decide) (show tu_rg w from by first | assumption | exact ⟨by omega, by omega⟩) (show tu_rg (tu_f1 a.toNat) from by first | assumption | exact ⟨by omega, by omega⟩) (fun br18 => ?_) (fun br18 => ?_)
      ·
        refine tu_bipush 30 X dX3_set_30 (by decide) ?_
        refine hret 32 _ _ (-2) dX3_set_32 (fun h => by rw [hrt] at h; cases h) ?_
        exact ⟨_, Or.inl (⟨by omega, rfl, rfl⟩), rfl⟩
      ·
        refine tu_iload_n 21 X 2 dX3_set_21 rfl ?_
        refine tu_gets2 22 X gs_2 dX3_set_22 ?_
        refine tu_iload_n 25 X 1 dX3_set_25 rfl ?_
        refine tu_tald2 26 X a.toNat dX3_set_26 (by omega) (by omega) ?_
        have f2 := tu_f2_rg a.toNat
        refine tu_icmp_le 27 X 33 dX3_set_27 (by decide) (show tu_rg w from by first | assumption | exact ⟨by omega, by omega⟩) (show tu_rg (tu_f2 a.toNat) from by first | assumption | exact ⟨by omega, by omega⟩) (fun br27 => ?_) (fun br27 => ?_)
        ·
          refine tu_aload_n 33 X 0 dX3_set_33 rfl ?_
          refine tu_callVV 34 X (st := []) (as := []) (c_X3_record  (show tu_HS M from by first | assumption | omega | exact ⟨by omega, by omega⟩ | decide)) sv_RX3_52 dX3_set_34 rfl (by decide) rfl rfl rfl (Nat.le_of_ble_eq_true rfl) ⟨by decide, by decide⟩ (fun N34 h => ?_)
          have h34_0 := h
          have e34_2 : N34 2 = M 2 := h34_0.1 2 (by decide) (by decide) (by decide)
          refine tu_aload_n 37 X 0 dX3_set_37 rfl ?_
          refine tu_getR 38 X dX3_set_38 fl_RX3_10 (by decide) rfl rfl ?_
          refine tu_getR 41 X dX3_set_41 fl_RX3_55 (by decide) rfl rfl ?_
          refine tu_iload_n 44 X 1 dX3_set_44 rfl ?_
          refine tu_iald 45 X (x := N34 2 a.toNat) a.toNat dX3_set_45 (by decide) rfl (by decide) (by omega) (by omega) rfl ?_
          refine tu_tp (b := (M 2 a.toNat)) (by rw [e34_2]) ?_
          refine tu_istore_n 46 X (lv' := [(3, tu_i (M 2 a.toNat)), (0, tu_r 0), (1, tu_i a), (2, tu_i w)]) dX3_set_46 (by rw [hnl]; decide) rfl ?_
          refine tu_aload_n 47 X 1 dX3_set_47 rfl ?_
          refine tu_getR 48 X dX3_set_48 fl_RX3_10 (by decide) rfl rfl ?_
          refine tu_getR 51 X dX3_set_51 fl_RX3_55 (by decide) rfl rfl ?_
          refine tu_iload_n 54 X 2 dX3_set_54 rfl ?_
          refine tu_iload_n 55 X 3 dX3_set_55 rfl ?_
          refine tu_iast 56 X (M' := tu_row N34 2 (tu_u (M 2) a.toNat w)) a.toNat dX3_set_56 (by decide) rfl (by decide) (by omega) (by omega) (congrArg (fun q => tu_row N34 2 q) (show tu_u (N34 2) a.toNat w = tu_u (M 2) a.toNat w from by rw [e34_2])) ?_
          refine tu_iload_n 57 X 0 dX3_set_57 rfl ?_
          refine hret 58 _ _ (M 2 a.toNat) dX3_set_58 (fun h => by rw [hrt] at h; cases h) ?_
          exact ⟨_, Or.inr (⟨by omega, N34, h34_0, rfl, rfl⟩), rfl⟩
        ·
          refine tu_bipush 30 X dX3_set_30 (by decide) ?_
          refine hret 32 _ _ (-2) dX3_set_32 (fun h => by rw [hrt] at h; cases h) ?_
          exact ⟨_, Or.inl (⟨by omega, rfl, rfl⟩), rfl⟩
    ·
      refine tu_bipush 9 X dX3_set_9 (by decide) ?_
      refine hret 11 _ _ (-2) dX3_set_11 (fun h => by rw [hrt] at h; cases h) ?_
      exact ⟨_, Or.inl (⟨by omega, rfl, rfl⟩), rfl⟩
set_option maxRecDepth 20000 in
set_option maxHeartbeats 4000000 in
theorem c_X3_dropLine {M : tu_M} (l : Int) (hB : tu_OK M) (hH : tu_HS M) (rl : tu_rg l) : tu_MI tu_Y_X3_dropLine [tu_r 0, tu_i l] M (fun z M' => ∃ (y : Int), (((¬ (0 ≤ l ∧ l < M 1 1)) ∧ M' = M ∧ y = -1) ∨ ((0 ≤ l ∧ l < M 1 1) ∧ ∃ N : tu_M, tu_rec M N ∧ M' = tu_row (tu_row (tu_row (tu_row N 1 (tu_u (tu_u (M 1) 1 ((M 1 1) - 1)) 7 ((tu_kc (M 7) 0 ((l.toNat : Nat) : Int) (M 1 7).toNat : Nat) : Int))) 3 (va_cpy (M 3) (M 3) (l.toNat + 1) l.toNat ((M 1 1).toNat - l.toNat - 1))) 4 (va_cpy (M 4) (M 4) ((l.toNat + 1) * 16) (l.toNat * 16) (((M 1 1).toNat - l.toNat - 1) * 16))) 7 (tu_wr (M 7) 0 ((l.toNat : Nat) : Int) (M 1 7).toNat) ∧ y = ((tu_kc (M 7) 0 ((l.toNat : Nat) : Int) (M 1 7).toNat : Nat) : Int))) ∧ z = y) := by
  have cn := hB.cnt
  refine tu_MI.of (ty := .int) (by decide) rfl (by first | exact Or.inl rfl | exact Or.inr rfl) (Nat.le_of_ble_eq_true rfl) (fun T (X : tu_X T cX3_dropLine RX3 3 83) hnl hrt hret => ?_)
  have hret : tu_RI T cX3_dropLine (fun z M' => ∃ (y : Int), (((¬ (0 ≤ l ∧ l < M 1 1)) ∧ M' = M ∧ y = -1) ∨ ((0 ≤ l ∧ l < M 1 1) ∧ ∃ N : tu_M, tu_rec M N ∧ M' = tu_row (tu_row (tu_row (tu_row N 1 (tu_u (tu_u (M 1) 1 ((M 1 1) - 1)) 7 ((tu_kc (M 7) 0 ((l.toNat : Nat) : Int) (M 1 7).toNat : Nat) : Int))) 3 (va_cpy (M 3) (M 3) (l.toNat + 1) l.toNat ((M 1 1).toNat - l.toNat - 1))) 4 (va_cpy (M 4) (M 4) ((l.toNat + 1) * 16) (l.toNat * 16) (((M 1 1).toNat - l.toNat - 1) * 16))) 7 (tu_wr (M 7) 0 ((l.toNat : Nat) : Int) (M 1 7).toNat) ∧ y = ((tu_kc (M 7) 0 ((l.toNat : Nat) : Int) (M 1 7).toNat : Nat) : Int))) ∧ z = y) := hret
  have hnl : T.2.2.2.2.2.2.2.2.2.2.1 = 2 := hnl
  show tu_W T 0 [(0, tu_r 0), (1, tu_i l)] [] M
  refine tu_aload_n 0 X 0 dX3_dropLine_0 rfl ?_
  refine tu_getR 1 X dX3_dropLine_1 fl_RX3_10 (by decide) rfl rfl ?_
  refine tu_iload_n 4 X 1 dX3_dropLine_4 rfl ?_
  refine tu_callVI 5 X (st := []) (as := [tu_i l]) (c_X0_hasLine l (show tu_OK M from by first | assumption | omega | exact ⟨by omega, by omega⟩ | decide) (show tu_rg l from by first | assumption | omega | exact ⟨by omega, by omega⟩ | decide)) sv_RX3_93 dX3_dropLine_5 rfl (by decide) rfl rfl rfl (Nat.le_of_ble_eq_true rfl) ⟨by decide, by decide⟩ (fun z M' h => ?_)
  obtain ⟨hM5, hz5⟩ := h
  refine tu_st_eq rfl (M' := M) hM5 ?_
  refine tu_tp (b := tu_b (0 ≤ l ∧ l < M 1 1)) hz5 ?_
  refine tu_if_ne 8 X 13 dX3_dropLine_8 (by decide) tu_b_rg (fun br8 => ?_) (fun br8 => ?_)
  ·
    have br8 := tu_b_n0 br8
    refine tu_aload_n 13 X 0 dX3_dropLine_13 rfl ?_
    refine tu_callVV 14 X (st := []) (as := []) (c_X3_record  (show tu_HS M from by first | assumption | omega | exact ⟨by omega, by omega⟩ | decide)) sv_RX3_52 dX3_dropLine_14 rfl (by decide) rfl rfl rfl (Nat.le_of_ble_eq_true rfl) ⟨by decide, by decide⟩ (fun N14 h => ?_)
    have h14_0 := h
    have e14_1 : N14 1 = M 1 := h14_0.1 1 (by decide) (by decide) (by decide)
    have e14_3 : N14 3 = M 3 := h14_0.1 3 (by decide) (by decide) (by decide)
    have e14_4 : N14 4 = M 4 := h14_0.1 4 (by decide) (by decide) (by decide)
    have e14_7 : N14 7 = M 7 := h14_0.1 7 (by decide) (by decide) (by decide)
    refine tu_aload_n 17 X 0 dX3_dropLine_17 rfl ?_
    refine tu_getR 18 X dX3_dropLine_18 fl_RX3_10 (by decide) rfl rfl ?_
    refine tu_iload_n 21 X 1 dX3_dropLine_21 rfl ?_
    refine tu_st_eq (show _ = [tu_i ((l.toNat : Nat) : Int), tu_r 1] from by first | rfl | (simp only [List.cons.injEq, Sum.inl.injEq, and_true, true_and]; omega)) rfl ?_
    refine tu_callVV 22 X (st := []) (as := [tu_i ((l.toNat : Nat) : Int)]) (c_X0_removeLine l.toNat (show (0 ≤ N14 1 1 ∧ N14 1 1 ≤ 16) ∧ (0 ≤ N14 1 7 ∧ N14 1 7 ≤ 40) from by rw [e14_1]; exact ⟨by omega, by omega⟩) (show (l.toNat : Int) < N14 1 1 from by rw [e14_1]; omega) (show ∀ k : Nat, k < (N14 1 7).toNat → tu_rg (N14 7 k) from by rw [e14_1, e14_7]; intro k hk; have := hB.bal k (by omega); exact ⟨by omega, by omega⟩)) sv_RX3_96 dX3_dropLine_22 rfl (by decide) rfl rfl rfl (Nat.le_of_ble_eq_true rfl) ⟨by decide, by decide⟩ (fun M' h => ?_)
    have hM22 := h
    refine tu_st_eq rfl (M' := tu_row (tu_row (tu_row (tu_row N14 1 (tu_u (tu_u (N14 1) 1 ((N14 1 1) - 1)) 7 ((tu_kc (N14 7) 0 ((l.toNat : Nat) : Int) (N14 1 7).toNat : Nat) : Int))) 3 (va_cpy (N14 3) (N14 3) (l.toNat + 1) l.toNat ((N14 1 1).toNat - l.toNat - 1))) 4 (va_cpy (N14 4) (N14 4) ((l.toNat + 1) * 16) (l.toNat * 16) (((N14 1 1).toNat - l.toNat - 1) * 16))) 7 (tu_wr (N14 7) 0 ((l.toNat : Nat) : Int) (N14 1 7).toNat)) hM22 ?_
    refine tu_aload_n 25 X 0 dX3_dropLine_25 rfl ?_
    refine tu_getR 26 X dX3_dropLine_26 fl_RX3_10 (by decide) rfl rfl ?_
    refine tu_getI 29 X (x := (tu_u (tu_u (N14 1) 1 ((N14 1 1) - 1)) 7 ((tu_kc (N14 7) 0 ((l.toNat : Nat) : Int) (N14 1 7).toNat : Nat) : Int)) 7) dX3_dropLine_29 fl_RX3_100 (by decide) rfl rfl rfl ?_
    refine tu_tp (b := ((tu_kc (M 7) 0 ((l.toNat : Nat) : Int) (M 1 7).toNat : Nat) : Int)) (by rw [tu_u_s, e14_1, e14_7]) ?_
    refine hret 32 _ _ ((tu_kc (M 7) 0 ((l.toNat : Nat) : Int) (M 1 7).toNat : Nat) : Int) dX3_dropLine_32 (fun h => by rw [hrt] at h; cases h) ?_
    exact ⟨_, Or.inr (⟨by omega, N14, h14_0, by rw [e14_1, e14_3, e14_4, e14_7], rfl⟩), rfl⟩
  ·
    have br8 := tu_b_e0 br8
    refine tu_iconst 11 X dX3_dropLine_11 ?_
    refine hret 12 _ _ (-1) dX3_dropLine_12 (fun h => by rw [hrt] at h; cases h) ?_
    exact ⟨_, Or.inl (⟨by omega, rfl, rfl⟩), rfl⟩
set_option maxRecDepth 20000 in
set_option maxHeartbeats 4000000 in
theorem c_X3_dropPhrase {M : tu_M} (l : Int) (hB : tu_OK M) (hH : tu_HS M) (rl : tu_rg l) : tu_MI tu_Y_X3_dropPhrase [tu_r 0, tu_i l] M (fun z M' => ∃ (y : Int), (((¬ (0 ≤ l ∧ l < M 1 4)) ∧ M' = M ∧ y = -1) ∨ ((0 ≤ l ∧ l < M 1 4) ∧ ∃ N : tu_M, tu_rec M N ∧ M' = tu_row (tu_row (tu_row (tu_row N 1 (tu_u (tu_u (M 1) 4 ((M 1 4) - 1)) 9 ((tu_kc (M 8) 0 ((l.toNat : Nat) : Int) (M 1 9).toNat : Nat) : Int))) 5 (va_cpy (M 5) (M 5) (l.toNat + 1) l.toNat ((M 1 4).toNat - l.toNat - 1))) 6 (va_cpy (M 6) (M 6) ((l.toNat + 1) * 24) (l.toNat * 24) (((M 1 4).toNat - l.toNat - 1) * 24))) 8 (tu_wr (M 8) 0 ((l.toNat : Nat) : Int) (M 1 9).toNat) ∧ y = ((tu_kc (M 8) 0 ((l.toNat : Nat) : Int) (M 1 9).toNat : Nat) : Int))) ∧ z = y) := by
  have cn := hB.cnt
  refine tu_MI.of (ty := .int) (by decide) rfl (by first | exact Or.inl rfl | exact Or.inr rfl) (Nat.le_of_ble_eq_true rfl) (fun T (X : tu_X T cX3_dropPhrase RX3 3 83) hnl hrt hret => ?_)
  have hret : tu_RI T cX3_dropPhrase (fun z M' => ∃ (y : Int), (((¬ (0 ≤ l ∧ l < M 1 4)) ∧ M' = M ∧ y = -1) ∨ ((0 ≤ l ∧ l < M 1 4) ∧ ∃ N : tu_M, tu_rec M N ∧ M' = tu_row (tu_row (tu_row (tu_row N 1 (tu_u (tu_u (M 1) 4 ((M 1 4) - 1)) 9 ((tu_kc (M 8) 0 ((l.toNat : Nat) : Int) (M 1 9).toNat : Nat) : Int))) 5 (va_cpy (M 5) (M 5) (l.toNat + 1) l.toNat ((M 1 4).toNat - l.toNat - 1))) 6 (va_cpy (M 6) (M 6) ((l.toNat + 1) * 24) (l.toNat * 24) (((M 1 4).toNat - l.toNat - 1) * 24))) 8 (tu_wr (M 8) 0 ((l.toNat : Nat) : Int) (M 1 9).toNat) ∧ y = ((tu_kc (M 8) 0 ((l.toNat : Nat) : Int) (M 1 9).toNat : Nat) : Int))) ∧ z = y) := hret
  have hnl : T.2.2.2.2.2.2.2.2.2.2.1 = 2 := hnl
  show tu_W T 0 [(0, tu_r 0), (1, tu_i l)] [] M
  refine tu_aload_n 0 X 0 dX3_dropPhrase_0 rfl ?_
  refine tu_getR 1 X dX3_dropPhrase_1 fl_RX3_10 (by decide) rfl rfl ?_
  refine tu_iload_n 4 X 1 dX3_dropPhrase_4 rfl ?_
  refine tu_callVI 5 X (st := []) (as := [tu_i l]) (c_X0_hasPhrase l (show tu_OK M from by first | assumption | omega | exact ⟨by omega, by omega⟩ | decide) (show tu_rg l from by first | assumption | omega | exact ⟨by omega, by omega⟩ | decide)) sv_RX3_103 dX3_dropPhrase_5 rfl (by decide) rfl rfl rfl (Nat.le_of_ble_eq_true rfl) ⟨by decide, by decide⟩ (fun z M' h => ?_)
  obtain ⟨hM5, hz5⟩ := h
  refine tu_st_eq rfl (M' := M) hM5 ?_
  refine tu_tp (b := tu_b (0 ≤ l ∧ l < M 1 4)) hz5 ?_
  refine tu_if_ne 8 X 13 dX3_dropPhrase_8 (by decide) tu_b_rg (fun br8 => ?_) (fun br8 => ?_)
  ·
    have br8 := tu_b_n0 br8
    refine tu_aload_n 13 X 0 dX3_dropPhrase_13 rfl ?_
    refine tu_callVV 14 X (st := []) (as := []) (c_X3_record  (show tu_HS M from by first | assumption | omega | exact ⟨by omega, by omega⟩ | decide)) sv_RX3_52 dX3_dropPhrase_14 rfl (by decide) rfl rfl rfl (Nat.le_of_ble_eq_true rfl) ⟨by decide, by decide⟩ (fun N14 h => ?_)
    have h14_0 := h
    have e14_1 : N14 1 = M 1 := h14_0.1 1 (by decide) (by decide) (by decide)
    have e14_5 : N14 5 = M 5 := h14_0.1 5 (by decide) (by decide) (by decide)
    have e14_6 : N14 6 = M 6 := h14_0.1 6 (by decide) (by decide) (by decide)
    have e14_8 : N14 8 = M 8 := h14_0.1 8 (by decide) (by decide) (by decide)
    refine tu_aload_n 17 X 0 dX3_dropPhrase_17 rfl ?_
    refine tu_getR 18 X dX3_dropPhrase_18 fl_RX3_10 (by decide) rfl rfl ?_
    refine tu_iload_n 21 X 1 dX3_dropPhrase_21 rfl ?_
    refine tu_st_eq (show _ = [tu_i ((l.toNat : Nat) : Int), tu_r 1] from by first | rfl | (simp only [List.cons.injEq, Sum.inl.injEq, and_true, true_and]; omega)) rfl ?_
    refine tu_callVV 22 X (st := []) (as := [tu_i ((l.toNat : Nat) : Int)]) (c_X0_removePhrase l.toNat (show (0 ≤ N14 1 4 ∧ N14 1 4 ≤ 8) ∧ (0 ≤ N14 1 9 ∧ N14 1 9 ≤ 8) from by rw [e14_1]; exact ⟨by omega, by omega⟩) (show (l.toNat : Int) < N14 1 4 from by rw [e14_1]; omega) (show ∀ k : Nat, k < (N14 1 9).toNat → tu_rg (N14 8 k) from by rw [e14_1, e14_8]; intro k hk; have := hB.tun k (by omega); exact ⟨by omega, by omega⟩)) sv_RX3_106 dX3_dropPhrase_22 rfl (by decide) rfl rfl rfl (Nat.le_of_ble_eq_true rfl) ⟨by decide, by decide⟩ (fun M' h => ?_)
    have hM22 := h
    refine tu_st_eq rfl (M' := tu_row (tu_row (tu_row (tu_row N14 1 (tu_u (tu_u (N14 1) 4 ((N14 1 4) - 1)) 9 ((tu_kc (N14 8) 0 ((l.toNat : Nat) : Int) (N14 1 9).toNat : Nat) : Int))) 5 (va_cpy (N14 5) (N14 5) (l.toNat + 1) l.toNat ((N14 1 4).toNat - l.toNat - 1))) 6 (va_cpy (N14 6) (N14 6) ((l.toNat + 1) * 24) (l.toNat * 24) (((N14 1 4).toNat - l.toNat - 1) * 24))) 8 (tu_wr (N14 8) 0 ((l.toNat : Nat) : Int) (N14 1 9).toNat)) hM22 ?_
    refine tu_aload_n 25 X 0 dX3_dropPhrase_25 rfl ?_
    refine tu_getR 26 X dX3_dropPhrase_26 fl_RX3_10 (by decide) rfl rfl ?_
    refine tu_getI 29 X (x := (tu_u (tu_u (N14 1) 4 ((N14 1 4) - 1)) 9 ((tu_kc (N14 8) 0 ((l.toNat : Nat) : Int) (N14 1 9).toNat : Nat) : Int)) 9) dX3_dropPhrase_29 fl_RX3_109 (by decide) rfl rfl rfl ?_
    refine tu_tp (b := ((tu_kc (M 8) 0 ((l.toNat : Nat) : Int) (M 1 9).toNat : Nat) : Int)) (by rw [tu_u_s, e14_1, e14_8]) ?_
    refine hret 32 _ _ ((tu_kc (M 8) 0 ((l.toNat : Nat) : Int) (M 1 9).toNat : Nat) : Int) dX3_dropPhrase_32 (fun h => by rw [hrt] at h; cases h) ?_
    exact ⟨_, Or.inr (⟨by omega, N14, h14_0, by rw [e14_1, e14_5, e14_6, e14_8], rfl⟩), rfl⟩
  ·
    have br8 := tu_b_e0 br8
    refine tu_iconst 11 X dX3_dropPhrase_11 ?_
    refine hret 12 _ _ (-1) dX3_dropPhrase_12 (fun h => by rw [hrt] at h; cases h) ?_
    exact ⟨_, Or.inl (⟨by omega, rfl, rfl⟩), rfl⟩
set_option maxRecDepth 20000 in
set_option maxHeartbeats 4000000 in
theorem c_X3_stress {M : tu_M} (l s w : Int) (hB : tu_OK M) (hH : tu_HS M) (rl : tu_rg l) (rs : tu_rg s) (rw : tu_rg w) (hw : w = 0 ∨ w = 1) : tu_MI tu_Y_X3_stress [tu_r 0, tu_i l, tu_i s, tu_i w] M (fun z M' => ∃ (y : Int), (((¬ (0 ≤ l ∧ l < M 1 1 ∧ 0 ≤ s ∧ s < M 3 l.toNat)) ∧ M' = M ∧ y = -1) ∨ ((0 ≤ l ∧ l < M 1 1 ∧ 0 ≤ s ∧ s < M 3 l.toNat) ∧ ∃ N : tu_M, tu_rec M N ∧ M' = tu_row N 4 (tu_u (M 4) ((l * 16) + s).toNat w) ∧ y = M 4 ((l * 16) + s).toNat)) ∧ z = y) := by
  have cn := hB.cnt
  refine tu_MI.of (ty := .int) (by decide) rfl (by first | exact Or.inl rfl | exact Or.inr rfl) (Nat.le_of_ble_eq_true rfl) (fun T (X : tu_X T cX3_stress RX3 3 83) hnl hrt hret => ?_)
  have hret : tu_RI T cX3_stress (fun z M' => ∃ (y : Int), (((¬ (0 ≤ l ∧ l < M 1 1 ∧ 0 ≤ s ∧ s < M 3 l.toNat)) ∧ M' = M ∧ y = -1) ∨ ((0 ≤ l ∧ l < M 1 1 ∧ 0 ≤ s ∧ s < M 3 l.toNat) ∧ ∃ N : tu_M, tu_rec M N ∧ M' = tu_row N 4 (tu_u (M 4) ((l * 16) + s).toNat w) ∧ y = M 4 ((l * 16) + s).toNat)) ∧ z = y) := hret
  have hnl : T.2.2.2.2.2.2.2.2.2.2.1 = 6 := hnl
  show tu_W T 0 [(0, tu_r 0), (1, tu_i l), (2, tu_i s), (3, tu_i w)] [] M
  refine tu_aload_n 0 X 0 dX3_stress_0 rfl ?_
  refine tu_getR 1 X dX3_stress_1 fl_RX3_10 (by decide) rfl rfl ?_
  refine tu_iload_n 4 X 1 dX3_stress_4 rfl ?_
  refine tu_iload_n 5 X 2 dX3_stress_5 rfl ?_
  refine tu_callVI 6 X (st := []) (as := [tu_i l, tu_i s]) (c_X0_hasSyllable l s (show tu_OK M from by first | assumption | omega | exact ⟨by omega, by omega⟩ | decide) (show tu_rg l from by first | assumption | omega | exact ⟨by omega, by omega⟩ | decide) (show tu_rg s from by first | assumption | omega | exact ⟨by omega, by omega⟩ | decide)) sv_RX3_112 dX3_stress_6 rfl (by decide) rfl rfl rfl (Nat.le_of_ble_eq_true rfl) ⟨by decide, by decide⟩ (fun z M' h => ?_)
  obtain ⟨hM6, hz6⟩ := h
  refine tu_st_eq rfl (M' := M) hM6 ?_
  refine tu_tp (b := tu_b (0 ≤ l ∧ l < M 1 1 ∧ 0 ≤ s ∧ s < M 3 l.toNat)) hz6 ?_
  refine tu_if_ne 9 X 14 dX3_stress_9 (by decide) tu_b_rg (fun br9 => ?_) (fun br9 => ?_)
  ·
    have br9 := tu_b_n0 br9
    refine tu_aload_n 14 X 0 dX3_stress_14 rfl ?_
    refine tu_callVV 15 X (st := []) (as := []) (c_X3_record  (show tu_HS M from by first | assumption | omega | exact ⟨by omega, by omega⟩ | decide)) sv_RX3_52 dX3_stress_15 rfl (by decide) rfl rfl rfl (Nat.le_of_ble_eq_true rfl) ⟨by decide, by decide⟩ (fun N15 h => ?_)
    have h15_0 := h
    have e15_4 : N15 4 = M 4 := h15_0.1 4 (by decide) (by decide) (by decide)
    have hs9 := hB.syl l.toNat (by omega)
    refine tu_iload_n 18 X 1 dX3_stress_18 rfl ?_
    refine tu_bipush 19 X dX3_stress_19 (by decide) ?_
    refine tu_imul 21 X dX3_stress_21 ?_
    refine tu_iload_n 22 X 2 dX3_stress_22 rfl ?_
    refine tu_iadd 23 X dX3_stress_23 ?_
    refine tu_istore 24 X (lv' := [(4, tu_i ((l * 16) + s)), (0, tu_r 0), (1, tu_i l), (2, tu_i s), (3, tu_i w)]) dX3_stress_24 (by rw [hnl]; decide) rfl ?_
    refine tu_aload_n 26 X 1 dX3_stress_26 rfl ?_
    refine tu_getR 27 X dX3_stress_27 fl_RX3_10 (by decide) rfl rfl ?_
    refine tu_getR 30 X dX3_stress_30 fl_RX3_116 (by decide) rfl rfl ?_
    refine tu_iload 33 X 0 dX3_stress_33 rfl ?_
    refine tu_iald 35 X (x := N15 4 (((l * 16) + s).toNat)) (((l * 16) + s).toNat) dX3_stress_35 (by decide) rfl (by decide) (by omega) (by omega) rfl ?_
    refine tu_tp (b := (M 4 ((l * 16) + s).toNat)) (by rw [e15_4]) ?_
    refine tu_istore 36 X (lv' := [(5, tu_i (M 4 ((l * 16) + s).toNat)), (4, tu_i ((l * 16) + s)), (0, tu_r 0), (1, tu_i l), (2, tu_i s), (3, tu_i w)]) dX3_stress_36 (by rw [hnl]; decide) rfl ?_
    refine tu_aload_n 38 X 2 dX3_stress_38 rfl ?_
    refine tu_getR 39 X dX3_stress_39 fl_RX3_10 (by decide) rfl rfl ?_
    refine tu_getR 42 X dX3_stress_42 fl_RX3_116 (by decide) rfl rfl ?_
    refine tu_iload 45 X 1 dX3_stress_45 rfl ?_
    refine tu_iload_n 47 X 5 dX3_stress_47 rfl ?_
    refine tu_if_eq 48 X 55 dX3_stress_48 (by decide) (show tu_rg w from by first | assumption | exact ⟨by omega, by omega⟩) (fun br48 => ?_) (fun br48 => ?_)
    ·
      refine tu_iconst 55 X dX3_stress_55 ?_
      refine tu_iast 56 X (M' := tu_row N15 4 (tu_u (N15 4) (((l * 16) + s).toNat) 0)) (((l * 16) + s).toNat) dX3_stress_56 (by decide) rfl (by decide) (by omega) (by omega) rfl ?_
      refine tu_iload 57 X 0 dX3_stress_57 rfl ?_
      refine hret 59 _ _ (M 4 ((l * 16) + s).toNat) dX3_stress_59 (fun h => by rw [hrt] at h; cases h) ?_
      exact ⟨_, Or.inr (⟨by omega, N15, h15_0, by first | rw [e15_4, show w = 0 from by omega] | rw [e15_4, show w = 1 from by omega], rfl⟩), rfl⟩
    ·
      refine tu_iconst 51 X dX3_stress_51 ?_
      refine tu_goto 52 X 56 dX3_stress_52 (by decide) ?_
      refine tu_iast 56 X (M' := tu_row N15 4 (tu_u (N15 4) (((l * 16) + s).toNat) 1)) (((l * 16) + s).toNat) dX3_stress_56 (by decide) rfl (by decide) (by omega) (by omega) rfl ?_
      refine tu_iload 57 X 0 dX3_stress_57 rfl ?_
      refine hret 59 _ _ (M 4 ((l * 16) + s).toNat) dX3_stress_59 (fun h => by rw [hrt] at h; cases h) ?_
      exact ⟨_, Or.inr (⟨by omega, N15, h15_0, by first | rw [e15_4, show w = 0 from by omega] | rw [e15_4, show w = 1 from by omega], rfl⟩), rfl⟩
  ·
    have br9 := tu_b_e0 br9
    refine tu_iconst 12 X dX3_stress_12 ?_
    refine hret 13 _ _ (-1) dX3_stress_13 (fun h => by rw [hrt] at h; cases h) ?_
    exact ⟨_, Or.inl (⟨by omega, rfl, rfl⟩), rfl⟩
set_option maxRecDepth 20000 in
set_option maxHeartbeats 4000000 in
theorem c_X3_beat {M : tu_M} (l s w : Int) (hB : tu_OK M) (hH : tu_HS M) (rl : tu_rg l) (rs : tu_rg s) (rw : tu_rg w) : tu_MI tu_Y_X3_beat [tu_r 0, tu_i l, tu_i s, tu_i w] M (fun z M' => ∃ (y : Int), (((¬ (0 ≤ l ∧ l < M 1 4 ∧ 0 ≤ s ∧ s < M 5 l.toNat)) ∧ M' = M ∧ y = -1) ∨ (((0 ≤ l ∧ l < M 1 4 ∧ 0 ≤ s ∧ s < M 5 l.toNat) ∧ ¬ (0 ≤ w ∧ w ≤ 2)) ∧ M' = M ∧ y = -2) ∨ ((0 ≤ l ∧ l < M 1 4 ∧ 0 ≤ s ∧ s < M 5 l.toNat ∧ 0 ≤ w ∧ w ≤ 2) ∧ ∃ N : tu_M, tu_rec M N ∧ M' = tu_row N 6 (tu_u (M 6) ((l * 24) + s).toNat w) ∧ y = M 6 ((l * 24) + s).toNat)) ∧ z = y) := by
  have cn := hB.cnt
  refine tu_MI.of (ty := .int) (by decide) rfl (by first | exact Or.inl rfl | exact Or.inr rfl) (Nat.le_of_ble_eq_true rfl) (fun T (X : tu_X T cX3_beat RX3 3 83) hnl hrt hret => ?_)
  have hret : tu_RI T cX3_beat (fun z M' => ∃ (y : Int), (((¬ (0 ≤ l ∧ l < M 1 4 ∧ 0 ≤ s ∧ s < M 5 l.toNat)) ∧ M' = M ∧ y = -1) ∨ (((0 ≤ l ∧ l < M 1 4 ∧ 0 ≤ s ∧ s < M 5 l.toNat) ∧ ¬ (0 ≤ w ∧ w ≤ 2)) ∧ M' = M ∧ y = -2) ∨ ((0 ≤ l ∧ l < M 1 4 ∧ 0 ≤ s ∧ s < M 5 l.toNat ∧ 0 ≤ w ∧ w ≤ 2) ∧ ∃ N : tu_M, tu_rec M N ∧ M' = tu_row N 6 (tu_u (M 6) ((l * 24) + s).toNat w) ∧ y = M 6 ((l * 24) + s).toNat)) ∧ z = y) := hret
  have hnl : T.2.2.2.2.2.2.2.2.2.2.1 = 6 := hnl
  show tu_W T 0 [(0, tu_r 0), (1, tu_i l), (2, tu_i s), (3, tu_i w)] [] M
  refine tu_aload_n 0 X 0 dX3_beat_0 rfl ?_
  refine tu_getR 1 X dX3_beat_1 fl_RX3_10 (by decide) rfl rfl ?_
  refine tu_iload_n 4 X 1 dX3_beat_4 rfl ?_
  refine tu_iload_n 5 X 2 dX3_beat_5 rfl ?_
  refine tu_callVI 6 X (st := []) (as := [tu_i l, tu_i s]) (c_X0_hasBeat l s (show tu_OK M from by first | assumption | omega | exact ⟨by omega, by omega⟩ | decide) (show tu_rg l from by first | assumption | omega | exact ⟨by omega, by omega⟩ | decide) (show tu_rg s from by first | assumption | omega | exact ⟨by omega, by omega⟩ | decide)) sv_RX3_119 dX3_beat_6 rfl (by decide) rfl rfl rfl (Nat.le_of_ble_eq_true rfl) ⟨by decide, by decide⟩ (fun z M' h => ?_)
  obtain ⟨hM6, hz6⟩ := h
  refine tu_st_eq rfl (M' := M) hM6 ?_
  refine tu_tp (b := tu_b (0 ≤ l ∧ l < M 1 4 ∧ 0 ≤ s ∧ s < M 5 l.toNat)) hz6 ?_
  refine tu_if_ne 9 X 14 dX3_beat_9 (by decide) tu_b_rg (fun br9 => ?_) (fun br9 => ?_)
  ·
    have br9 := tu_b_n0 br9
    refine tu_iload_n 14 X 3 dX3_beat_14 rfl ?_
    refine tu_if_lt 15 X 23 dX3_beat_15 (by decide) (show tu_rg w from by first | assumption | exact ⟨by omega, by omega⟩) (fun br15 => ?_) (fun br15 => ?_)
    ·
      refine tu_bipush 23 X dX3_beat_23 (by decide) ?_
      refine hret 25 _ _ (-2) dX3_beat_25 (fun h => by rw [hrt] at h; cases h) ?_
      exact ⟨_, Or.inr (Or.inl (⟨by omega, rfl, rfl⟩)), rfl⟩
    ·
      refine tu_iload_n 18 X 3 dX3_beat_18 rfl ?_
      refine tu_iconst 19 X dX3_beat_19 ?_
      refine tu_icmp_le 20 X 26 dX3_beat_20 (by decide) (show tu_rg w from by first | assumption | exact ⟨by omega, by omega⟩) ⟨by decide, by decide⟩ (fun br20 => ?_) (fun br20 => ?_)
      ·
        refine tu_aload_n 26 X 0 dX3_beat_26 rfl ?_
        refine tu_callVV 27 X (st := []) (as := []) (c_X3_record  (show tu_HS M from by first | assumption | omega | exact ⟨by omega, by omega⟩ | decide)) sv_RX3_52 dX3_beat_27 rfl (by decide) rfl rfl rfl (Nat.le_of_ble_eq_true rfl) ⟨by decide, by decide⟩ (fun N27 h => ?_)
        have h27_0 := h
        have e27_6 : N27 6 = M 6 := h27_0.1 6 (by decide) (by decide) (by decide)
        have hs9 := hB.bts l.toNat (by omega)
        refine tu_iload_n 30 X 1 dX3_beat_30 rfl ?_
        refine tu_bipush 31 X dX3_beat_31 (by decide) ?_
        refine tu_imul 33 X dX3_beat_33 ?_
        refine tu_iload_n 34 X 2 dX3_beat_34 rfl ?_
        refine tu_iadd 35 X dX3_beat_35 ?_
        refine tu_istore 36 X (lv' := [(4, tu_i ((l * 24) + s)), (0, tu_r 0), (1, tu_i l), (2, tu_i s), (3, tu_i w)]) dX3_beat_36 (by rw [hnl]; decide) rfl ?_
        refine tu_aload_n 38 X 1 dX3_beat_38 rfl ?_
        refine tu_getR 39 X dX3_beat_39 fl_RX3_10 (by decide) rfl rfl ?_
        refine tu_getR 42 X dX3_beat_42 fl_RX3_122 (by decide) rfl rfl ?_
        refine tu_iload 45 X 0 dX3_beat_45 rfl ?_
        refine tu_iald 47 X (x := N27 6 (((l * 24) + s).toNat)) (((l * 24) + s).toNat) dX3_beat_47 (by decide) rfl (by decide) (by omega) (by omega) rfl ?_
        refine tu_tp (b := (M 6 ((l * 24) + s).toNat)) (by rw [e27_6]) ?_
        refine tu_istore 48 X (lv' := [(5, tu_i (M 6 ((l * 24) + s).toNat)), (4, tu_i ((l * 24) + s)), (0, tu_r 0), (1, tu_i l), (2, tu_i s), (3, tu_i w)]) dX3_beat_48 (by rw [hnl]; decide) rfl ?_
        refine tu_aload_n 50 X 2 dX3_beat_50 rfl ?_
        refine tu_getR 51 X dX3_beat_51 fl_RX3_10 (by decide) rfl rfl ?_
        refine tu_getR 54 X dX3_beat_54 fl_RX3_122 (by decide) rfl rfl ?_
        refine tu_iload 57 X 1 dX3_beat_57 rfl ?_
        refine tu_iload_n 59 X 5 dX3_beat_59 rfl ?_
        refine tu_iast 60 X (M' := tu_row N27 6 (tu_u (M 6) ((l * 24) + s).toNat w)) (((l * 24) + s).toNat) dX3_beat_60 (by decide) rfl (by decide) (by omega) (by omega) (congrArg (fun q => tu_row N27 6 q) (show tu_u (N27 6) (((l * 24) + s).toNat) w = tu_u (M 6) ((l * 24) + s).toNat w from by rw [e27_6])) ?_
        refine tu_iload 61 X 0 dX3_beat_61 rfl ?_
        refine hret 63 _ _ (M 6 ((l * 24) + s).toNat) dX3_beat_63 (fun h => by rw [hrt] at h; cases h) ?_
        exact ⟨_, Or.inr (Or.inr (⟨by omega, N27, h27_0, rfl, rfl⟩)), rfl⟩
      ·
        refine tu_bipush 23 X dX3_beat_23 (by decide) ?_
        refine hret 25 _ _ (-2) dX3_beat_25 (fun h => by rw [hrt] at h; cases h) ?_
        exact ⟨_, Or.inr (Or.inl (⟨by omega, rfl, rfl⟩)), rfl⟩
  ·
    have br9 := tu_b_e0 br9
    refine tu_iconst 12 X dX3_beat_12 ?_
    refine hret 13 _ _ (-1) dX3_beat_13 (fun h => by rw [hrt] at h; cases h) ?_
    exact ⟨_, Or.inl (⟨by omega, rfl, rfl⟩), rfl⟩
set_option maxRecDepth 20000 in
set_option maxHeartbeats 4000000 in
theorem c_X3_sing {M : tu_M} (l : Int) (hB : tu_OK M) (hH : tu_HS M) (rl : tu_rg l) : tu_MI tu_Y_X3_sing [tu_r 0, tu_i l] M (fun z M' => ∃ (y : Int), (((¬ (0 ≤ l ∧ l < M 1 1)) ∧ M' = M ∧ y = -1) ∨ (((0 ≤ l ∧ l < M 1 1) ∧ M 1 7 = 40) ∧ M' = M ∧ y = -4) ∨ ((0 ≤ l ∧ l < M 1 1 ∧ M 1 7 < 40) ∧ ∃ N : tu_M, tu_rec M N ∧ M' = tu_row (tu_row N 1 (tu_u (M 1) 7 ((M 1 7) + 1))) 7 (tu_u (M 7) (M 1 7).toNat l) ∧ y = M 1 7 + 1)) ∧ z = y) := by
  have cn := hB.cnt
  refine tu_MI.of (ty := .int) (by decide) rfl (by first | exact Or.inl rfl | exact Or.inr rfl) (Nat.le_of_ble_eq_true rfl) (fun T (X : tu_X T cX3_sing RX3 3 83) hnl hrt hret => ?_)
  have hret : tu_RI T cX3_sing (fun z M' => ∃ (y : Int), (((¬ (0 ≤ l ∧ l < M 1 1)) ∧ M' = M ∧ y = -1) ∨ (((0 ≤ l ∧ l < M 1 1) ∧ M 1 7 = 40) ∧ M' = M ∧ y = -4) ∨ ((0 ≤ l ∧ l < M 1 1 ∧ M 1 7 < 40) ∧ ∃ N : tu_M, tu_rec M N ∧ M' = tu_row (tu_row N 1 (tu_u (M 1) 7 ((M 1 7) + 1))) 7 (tu_u (M 7) (M 1 7).toNat l) ∧ y = M 1 7 + 1)) ∧ z = y) := hret
  have hnl : T.2.2.2.2.2.2.2.2.2.2.1 = 2 := hnl
  show tu_W T 0 [(0, tu_r 0), (1, tu_i l)] [] M
  refine tu_aload_n 0 X 0 dX3_sing_0 rfl ?_
  refine tu_getR 1 X dX3_sing_1 fl_RX3_10 (by decide) rfl rfl ?_
  refine tu_iload_n 4 X 1 dX3_sing_4 rfl ?_
  refine tu_callVI 5 X (st := []) (as := [tu_i l]) (c_X0_hasLine l (show tu_OK M from by first | assumption | omega | exact ⟨by omega, by omega⟩ | decide) (show tu_rg l from by first | assumption | omega | exact ⟨by omega, by omega⟩ | decide)) sv_RX3_93 dX3_sing_5 rfl (by decide) rfl rfl rfl (Nat.le_of_ble_eq_true rfl) ⟨by decide, by decide⟩ (fun z M' h => ?_)
  obtain ⟨hM5, hz5⟩ := h
  refine tu_st_eq rfl (M' := M) hM5 ?_
  refine tu_tp (b := tu_b (0 ≤ l ∧ l < M 1 1)) hz5 ?_
  refine tu_if_ne 8 X 13 dX3_sing_8 (by decide) tu_b_rg (fun br8 => ?_) (fun br8 => ?_)
  ·
    have br8 := tu_b_n0 br8
    refine tu_aload_n 13 X 0 dX3_sing_13 rfl ?_
    refine tu_getR 14 X dX3_sing_14 fl_RX3_10 (by decide) rfl rfl ?_
    refine tu_getI 17 X (x := M 1 7) dX3_sing_17 fl_RX3_100 (by decide) rfl rfl rfl ?_
    refine tu_bipush 20 X dX3_sing_20 (by decide) ?_
    refine tu_icmp_lt 22 X 28 dX3_sing_22 (by decide) (show tu_rg (M 1 7) from by first | assumption | exact ⟨by omega, by omega⟩) ⟨by decide, by decide⟩ (fun br22 => ?_) (fun br22 => ?_)
    ·
      refine tu_aload_n 28 X 0 dX3_sing_28 rfl ?_
      refine tu_callVV 29 X (st := []) (as := []) (c_X3_record  (show tu_HS M from by first | assumption | omega | exact ⟨by omega, by omega⟩ | decide)) sv_RX3_52 dX3_sing_29 rfl (by decide) rfl rfl rfl (Nat.le_of_ble_eq_true rfl) ⟨by decide, by decide⟩ (fun N29 h => ?_)
      have h29_0 := h
      have e29_1 : N29 1 = M 1 := h29_0.1 1 (by decide) (by decide) (by decide)
      have e29_7 : N29 7 = M 7 := h29_0.1 7 (by decide) (by decide) (by decide)
      refine tu_aload_n 32 X 0 dX3_sing_32 rfl ?_
      refine tu_getR 33 X dX3_sing_33 fl_RX3_10 (by decide) rfl rfl ?_
      refine tu_iload_n 36 X 1 dX3_sing_36 rfl ?_
      refine tu_callVV 37 X (st := []) (as := [tu_i l]) (c_X0_addToBallad l (show 0 ≤ N29 1 7 ∧ N29 1 7 < 40 from by rw [e29_1]; exact ⟨by omega, by omega⟩)) sv_RX3_125 dX3_sing_37 rfl (by decide) rfl rfl rfl (Nat.le_of_ble_eq_true rfl) ⟨by decide, by decide⟩ (fun M' h => ?_)
      have hM37 := h
      refine tu_st_eq rfl (M' := tu_row (tu_row N29 1 (tu_u (N29 1) 7 ((N29 1 7) + 1))) 7 (tu_u (N29 7) (N29 1 7).toNat l)) hM37 ?_
      refine tu_aload_n 40 X 0 dX3_sing_40 rfl ?_
      refine tu_getR 41 X dX3_sing_41 fl_RX3_10 (by decide) rfl rfl ?_
      refine tu_getI 44 X (x := (tu_u (N29 1) 7 ((N29 1 7) + 1)) 7) dX3_sing_44 fl_RX3_100 (by decide) rfl rfl rfl ?_
      refine tu_tp (b := (M 1 7 + 1)) (by rw [tu_u_s, e29_1]) ?_
      refine hret 47 _ _ (M 1 7 + 1) dX3_sing_47 (fun h => by rw [hrt] at h; cases h) ?_
      exact ⟨_, Or.inr (Or.inr (⟨by omega, N29, h29_0, by rw [e29_1, e29_7], rfl⟩)), rfl⟩
    ·
      refine tu_bipush 25 X dX3_sing_25 (by decide) ?_
      refine hret 27 _ _ (-4) dX3_sing_27 (fun h => by rw [hrt] at h; cases h) ?_
      exact ⟨_, Or.inr (Or.inl (⟨by omega, rfl, rfl⟩)), rfl⟩
  ·
    have br8 := tu_b_e0 br8
    refine tu_iconst 11 X dX3_sing_11 ?_
    refine hret 12 _ _ (-1) dX3_sing_12 (fun h => by rw [hrt] at h; cases h) ?_
    exact ⟨_, Or.inl (⟨by omega, rfl, rfl⟩), rfl⟩
set_option maxRecDepth 20000 in
set_option maxHeartbeats 4000000 in
theorem c_X3_play {M : tu_M} (l : Int) (hB : tu_OK M) (hH : tu_HS M) (rl : tu_rg l) : tu_MI tu_Y_X3_play [tu_r 0, tu_i l] M (fun z M' => ∃ (y : Int), (((¬ (0 ≤ l ∧ l < M 1 4)) ∧ M' = M ∧ y = -1) ∨ (((0 ≤ l ∧ l < M 1 4) ∧ M 1 9 = 8) ∧ M' = M ∧ y = -4) ∨ ((0 ≤ l ∧ l < M 1 4 ∧ M 1 9 < 8) ∧ ∃ N : tu_M, tu_rec M N ∧ M' = tu_row (tu_row N 1 (tu_u (M 1) 9 ((M 1 9) + 1))) 8 (tu_u (M 8) (M 1 9).toNat l) ∧ y = M 1 9 + 1)) ∧ z = y) := by
  have cn := hB.cnt
  refine tu_MI.of (ty := .int) (by decide) rfl (by first | exact Or.inl rfl | exact Or.inr rfl) (Nat.le_of_ble_eq_true rfl) (fun T (X : tu_X T cX3_play RX3 3 83) hnl hrt hret => ?_)
  have hret : tu_RI T cX3_play (fun z M' => ∃ (y : Int), (((¬ (0 ≤ l ∧ l < M 1 4)) ∧ M' = M ∧ y = -1) ∨ (((0 ≤ l ∧ l < M 1 4) ∧ M 1 9 = 8) ∧ M' = M ∧ y = -4) ∨ ((0 ≤ l ∧ l < M 1 4 ∧ M 1 9 < 8) ∧ ∃ N : tu_M, tu_rec M N ∧ M' = tu_row (tu_row N 1 (tu_u (M 1) 9 ((M 1 9) + 1))) 8 (tu_u (M 8) (M 1 9).toNat l) ∧ y = M 1 9 + 1)) ∧ z = y) := hret
  have hnl : T.2.2.2.2.2.2.2.2.2.2.1 = 2 := hnl
  show tu_W T 0 [(0, tu_r 0), (1, tu_i l)] [] M
  refine tu_aload_n 0 X 0 dX3_play_0 rfl ?_
  refine tu_getR 1 X dX3_play_1 fl_RX3_10 (by decide) rfl rfl ?_
  refine tu_iload_n 4 X 1 dX3_play_4 rfl ?_
  refine tu_callVI 5 X (st := []) (as := [tu_i l]) (c_X0_hasPhrase l (show tu_OK M from by first | assumption | omega | exact ⟨by omega, by omega⟩ | decide) (show tu_rg l from by first | assumption | omega | exact ⟨by omega, by omega⟩ | decide)) sv_RX3_103 dX3_play_5 rfl (by decide) rfl rfl rfl (Nat.le_of_ble_eq_true rfl) ⟨by decide, by decide⟩ (fun z M' h => ?_)
  obtain ⟨hM5, hz5⟩ := h
  refine tu_st_eq rfl (M' := M) hM5 ?_
  refine tu_tp (b := tu_b (0 ≤ l ∧ l < M 1 4)) hz5 ?_
  refine tu_if_ne 8 X 13 dX3_play_8 (by decide) tu_b_rg (fun br8 => ?_) (fun br8 => ?_)
  ·
    have br8 := tu_b_n0 br8
    refine tu_aload_n 13 X 0 dX3_play_13 rfl ?_
    refine tu_getR 14 X dX3_play_14 fl_RX3_10 (by decide) rfl rfl ?_
    refine tu_getI 17 X (x := M 1 9) dX3_play_17 fl_RX3_109 (by decide) rfl rfl rfl ?_
    refine tu_bipush 20 X dX3_play_20 (by decide) ?_
    refine tu_icmp_lt 22 X 28 dX3_play_22 (by decide) (show tu_rg (M 1 9) from by first | assumption | exact ⟨by omega, by omega⟩) ⟨by decide, by decide⟩ (fun br22 => ?_) (fun br22 => ?_)
    ·
      refine tu_aload_n 28 X 0 dX3_play_28 rfl ?_
      refine tu_callVV 29 X (st := []) (as := []) (c_X3_record  (show tu_HS M from by first | assumption | omega | exact ⟨by omega, by omega⟩ | decide)) sv_RX3_52 dX3_play_29 rfl (by decide) rfl rfl rfl (Nat.le_of_ble_eq_true rfl) ⟨by decide, by decide⟩ (fun N29 h => ?_)
      have h29_0 := h
      have e29_1 : N29 1 = M 1 := h29_0.1 1 (by decide) (by decide) (by decide)
      have e29_8 : N29 8 = M 8 := h29_0.1 8 (by decide) (by decide) (by decide)
      refine tu_aload_n 32 X 0 dX3_play_32 rfl ?_
      refine tu_getR 33 X dX3_play_33 fl_RX3_10 (by decide) rfl rfl ?_
      refine tu_iload_n 36 X 1 dX3_play_36 rfl ?_
      refine tu_callVV 37 X (st := []) (as := [tu_i l]) (c_X0_addToTune l (show 0 ≤ N29 1 9 ∧ N29 1 9 < 8 from by rw [e29_1]; exact ⟨by omega, by omega⟩)) sv_RX3_128 dX3_play_37 rfl (by decide) rfl rfl rfl (Nat.le_of_ble_eq_true rfl) ⟨by decide, by decide⟩ (fun M' h => ?_)
      have hM37 := h
      refine tu_st_eq rfl (M' := tu_row (tu_row N29 1 (tu_u (N29 1) 9 ((N29 1 9) + 1))) 8 (tu_u (N29 8) (N29 1 9).toNat l)) hM37 ?_
      refine tu_aload_n 40 X 0 dX3_play_40 rfl ?_
      refine tu_getR 41 X dX3_play_41 fl_RX3_10 (by decide) rfl rfl ?_
      refine tu_getI 44 X (x := (tu_u (N29 1) 9 ((N29 1 9) + 1)) 9) dX3_play_44 fl_RX3_109 (by decide) rfl rfl rfl ?_
      refine tu_tp (b := (M 1 9 + 1)) (by rw [tu_u_s, e29_1]) ?_
      refine hret 47 _ _ (M 1 9 + 1) dX3_play_47 (fun h => by rw [hrt] at h; cases h) ?_
      exact ⟨_, Or.inr (Or.inr (⟨by omega, N29, h29_0, by rw [e29_1, e29_8], rfl⟩)), rfl⟩
    ·
      refine tu_bipush 25 X dX3_play_25 (by decide) ?_
      refine hret 27 _ _ (-4) dX3_play_27 (fun h => by rw [hrt] at h; cases h) ?_
      exact ⟨_, Or.inr (Or.inl (⟨by omega, rfl, rfl⟩)), rfl⟩
  ·
    have br8 := tu_b_e0 br8
    refine tu_iconst 11 X dX3_play_11 ?_
    refine hret 12 _ _ (-1) dX3_play_12 (fun h => by rw [hrt] at h; cases h) ?_
    exact ⟨_, Or.inl (⟨by omega, rfl, rfl⟩), rfl⟩
set_option maxRecDepth 20000 in
set_option maxHeartbeats 4000000 in
theorem c_X3_clear {M : tu_M} (w : Int) (hH : tu_HS M) (hw : w = 0 ∨ w = 1) : tu_MI tu_Y_X3_clear [tu_r 0, tu_i w] M (fun z M' => ∃ (y : Int), ((w = 0 ∧ ∃ N : tu_M, tu_rec M N ∧ M' = tu_row N 1 (tu_u (M 1) 7 0) ∧ y = M 1 7) ∨ (w = 1 ∧ ∃ N : tu_M, tu_rec M N ∧ M' = tu_row N 1 (tu_u (M 1) 9 0) ∧ y = M 1 9)) ∧ z = y) := by
  refine tu_MI.of (ty := .int) (by decide) rfl (by first | exact Or.inl rfl | exact Or.inr rfl) (Nat.le_of_ble_eq_true rfl) (fun T (X : tu_X T cX3_clear RX3 3 83) hnl hrt hret => ?_)
  have hret : tu_RI T cX3_clear (fun z M' => ∃ (y : Int), ((w = 0 ∧ ∃ N : tu_M, tu_rec M N ∧ M' = tu_row N 1 (tu_u (M 1) 7 0) ∧ y = M 1 7) ∨ (w = 1 ∧ ∃ N : tu_M, tu_rec M N ∧ M' = tu_row N 1 (tu_u (M 1) 9 0) ∧ y = M 1 9)) ∧ z = y) := hret
  have hnl : T.2.2.2.2.2.2.2.2.2.2.1 = 3 := hnl
  show tu_W T 0 [(0, tu_r 0), (1, tu_i w)] [] M
  refine tu_aload_n 0 X 0 dX3_clear_0 rfl ?_
  refine tu_callVV 1 X (st := []) (as := []) (c_X3_record  (show tu_HS M from by first | assumption | omega | exact ⟨by omega, by omega⟩ | decide)) sv_RX3_52 dX3_clear_1 rfl (by decide) rfl rfl rfl (Nat.le_of_ble_eq_true rfl) ⟨by decide, by decide⟩ (fun N1 h => ?_)
  have h1_0 := h
  have e1_1 : N1 1 = M 1 := h1_0.1 1 (by decide) (by decide) (by decide)
  refine tu_iload_n 4 X 1 dX3_clear_4 rfl ?_
  refine tu_if_eq 5 X 18 dX3_clear_5 (by decide) (show tu_rg w from by first | assumption | exact ⟨by omega, by omega⟩) (fun br5 => ?_) (fun br5 => ?_)
  ·
    refine tu_aload_n 18 X 0 dX3_clear_18 rfl ?_
    refine tu_getR 19 X dX3_clear_19 fl_RX3_10 (by decide) rfl rfl ?_
    refine tu_getI 22 X (x := N1 1 7) dX3_clear_22 fl_RX3_100 (by decide) rfl rfl rfl ?_
    refine tu_tp (b := (M 1 7)) (by rw [e1_1]) ?_
    refine tu_istore_n 25 X (lv' := [(2, tu_i (M 1 7)), (0, tu_r 0), (1, tu_i w)]) dX3_clear_25 (by rw [hnl]; decide) rfl ?_
    refine tu_iload_n 26 X 2 dX3_clear_26 rfl ?_
    refine tu_if_eq 27 X 41 dX3_clear_27 (by decide) (show tu_rg w from by first | assumption | exact ⟨by omega, by omega⟩) (fun br27 => ?_) (fun br27 => ?_)
    ·
      refine tu_aload_n 41 X 1 dX3_clear_41 rfl ?_
      refine tu_getR 42 X dX3_clear_42 fl_RX3_10 (by decide) rfl rfl ?_
      refine tu_iconst 45 X dX3_clear_45 ?_
      refine tu_putI 46 X (M' := tu_row N1 1 (tu_u (M 1) 7 0)) dX3_clear_46 fp_RX3_100 (by decide) rfl rfl (congrArg (fun q => tu_row N1 1 q) (show tu_u (N1 1) 7 0 = tu_u (M 1) 7 0 from by rw [e1_1])) ?_
      refine tu_iload_n 49 X 0 dX3_clear_49 rfl ?_
      refine hret 50 _ _ (M 1 7) dX3_clear_50 (fun h => by rw [hrt] at h; cases h) ?_
      first | exact ⟨_, Or.inl ⟨by omega, N1, h1_0, rfl, rfl⟩, rfl⟩ | exact ⟨_, Or.inr ⟨by omega, N1, h1_0, rfl, rfl⟩, rfl⟩ | (exfalso; omega)
    ·
      refine tu_aload_n 30 X 1 dX3_clear_30 rfl ?_
      refine tu_getR 31 X dX3_clear_31 fl_RX3_10 (by decide) rfl rfl ?_
      refine tu_iconst 34 X dX3_clear_34 ?_
      refine tu_putI 35 X (M' := tu_row N1 1 (tu_u (M 1) 9 0)) dX3_clear_35 fp_RX3_109 (by decide) rfl rfl (congrArg (fun q => tu_row N1 1 q) (show tu_u (N1 1) 9 0 = tu_u (M 1) 9 0 from by rw [e1_1])) ?_
      refine tu_goto 38 X 49 dX3_clear_38 (by decide) ?_
      refine tu_iload_n 49 X 0 dX3_clear_49 rfl ?_
      refine hret 50 _ _ (M 1 7) dX3_clear_50 (fun h => by rw [hrt] at h; cases h) ?_
      first | exact ⟨_, Or.inl ⟨by omega, N1, h1_0, rfl, rfl⟩, rfl⟩ | exact ⟨_, Or.inr ⟨by omega, N1, h1_0, rfl, rfl⟩, rfl⟩ | (exfalso; omega)
  ·
    refine tu_aload_n 8 X 0 dX3_clear_8 rfl ?_
    refine tu_getR 9 X dX3_clear_9 fl_RX3_10 (by decide) rfl rfl ?_
    refine tu_getI 12 X (x := N1 1 9) dX3_clear_12 fl_RX3_109 (by decide) rfl rfl rfl ?_
    refine tu_tp (b := (M 1 9)) (by rw [e1_1]) ?_
    refine tu_goto 15 X 25 dX3_clear_15 (by decide) ?_
    refine tu_istore_n 25 X (lv' := [(2, tu_i (M 1 9)), (0, tu_r 0), (1, tu_i w)]) dX3_clear_25 (by rw [hnl]; decide) rfl ?_
    refine tu_iload_n 26 X 2 dX3_clear_26 rfl ?_
    refine tu_if_eq 27 X 41 dX3_clear_27 (by decide) (show tu_rg w from by first | assumption | exact ⟨by omega, by omega⟩) (fun br27 => ?_) (fun br27 => ?_)
    ·
      refine tu_aload_n 41 X 1 dX3_clear_41 rfl ?_
      refine tu_getR 42 X dX3_clear_42 fl_RX3_10 (by decide) rfl rfl ?_
      refine tu_iconst 45 X dX3_clear_45 ?_
      refine tu_putI 46 X (M' := tu_row N1 1 (tu_u (M 1) 7 0)) dX3_clear_46 fp_RX3_100 (by decide) rfl rfl (congrArg (fun q => tu_row N1 1 q) (show tu_u (N1 1) 7 0 = tu_u (M 1) 7 0 from by rw [e1_1])) ?_
      refine tu_iload_n 49 X 0 dX3_clear_49 rfl ?_
      refine hret 50 _ _ (M 1 9) dX3_clear_50 (fun h => by rw [hrt] at h; cases h) ?_
      first | exact ⟨_, Or.inl ⟨by omega, N1, h1_0, rfl, rfl⟩, rfl⟩ | exact ⟨_, Or.inr ⟨by omega, N1, h1_0, rfl, rfl⟩, rfl⟩ | (exfalso; omega)
    ·
      refine tu_aload_n 30 X 1 dX3_clear_30 rfl ?_
      refine tu_getR 31 X dX3_clear_31 fl_RX3_10 (by decide) rfl rfl ?_
      refine tu_iconst 34 X dX3_clear_34 ?_
      refine tu_putI 35 X (M' := tu_row N1 1 (tu_u (M 1) 9 0)) dX3_clear_35 fp_RX3_109 (by decide) rfl rfl (congrArg (fun q => tu_row N1 1 q) (show tu_u (N1 1) 9 0 = tu_u (M 1) 9 0 from by rw [e1_1])) ?_
      refine tu_goto 38 X 49 dX3_clear_38 (by decide) ?_
      refine tu_iload_n 49 X 0 dX3_clear_49 rfl ?_
      refine hret 50 _ _ (M 1 9) dX3_clear_50 (fun h => by rw [hrt] at h; cases h) ?_
      first | exact ⟨_, Or.inl ⟨by omega, N1, h1_0, rfl, rfl⟩, rfl⟩ | exact ⟨_, Or.inr ⟨by omega, N1, h1_0, rfl, rfl⟩, rfl⟩ | (exfalso; omega)
