set_option maxRecDepth 20000 in
set_option maxHeartbeats 4000000 in
theorem c_X4_isValue {M : tu_M} (a w : Int) (ra : tu_rg a) (rw : tu_rg w) : tu_MI tu_Y_X4_isValue [tu_i a, tu_i w] M (fun z M' => M' = M ∧ z = tu_b (0 ≤ a ∧ a < 4 ∧ tu_f1 a.toNat ≤ w ∧ w ≤ tu_f2 a.toNat)) := by
  refine tu_MI.of (ty := .boolean) (by decide) rfl (by first | exact Or.inl rfl | exact Or.inr rfl) (Nat.le_of_ble_eq_true rfl) (fun T (X : tu_X T cX4_isValue RX4 1 22) hnl hrt hret => ?_)
  have hret : tu_RI T cX4_isValue (fun z M' => M' = M ∧ z = tu_b (0 ≤ a ∧ a < 4 ∧ tu_f1 a.toNat ≤ w ∧ w ≤ tu_f2 a.toNat)) := hret
  have hnl : T.2.2.2.2.2.2.2.2.2.2.1 = 2 := hnl
  show tu_W T 0 [(0, tu_i a), (1, tu_i w)] [] M
  refine tu_iload_n 0 X 0 dX4_isValue_0 rfl ?_
  rcases (show a = 0 ∨ a = 1 ∨ a = 2 ∨ a = 3 ∨ (a < 0 ∨ 3 < a) from by omega) with br1 | br1 | br1 | br1 | br1
  ·
    refine tu_tabIn 1 X 32 dX4_isValue_1 (show tu_rg a from by first | assumption | exact ⟨by omega, by omega⟩) (by omega) (by omega) (by rw [br1]; rfl) (by decide) ?_
    have f1 : tu_f1 a.toNat = 1 := by rw [br1]; rfl
    have f2 : tu_f2 a.toNat = 8 := by rw [br1]; rfl
    refine tu_iload_n 32 X 1 dX4_isValue_32 rfl ?_
    refine tu_iconst 33 X dX4_isValue_33 ?_
    refine tu_bipush 34 X dX4_isValue_34 (by decide) ?_
    refine tu_callSI 36 X (st := []) (as := [tu_i w, tu_i 1, tu_i 8]) (c_X4_within w 1 8 (show tu_rg w from by first | assumption | omega | exact ⟨by omega, by omega⟩ | decide) (show tu_rg 1 from by first | assumption | omega | exact ⟨by omega, by omega⟩ | decide) (show tu_rg 8 from by first | assumption | omega | exact ⟨by omega, by omega⟩ | decide)) ss_RX4_48 dX4_isValue_36 rfl (Nat.le_of_ble_eq_true rfl) ⟨by decide, by decide⟩ (fun z M' h => ?_)
    obtain ⟨hM36, hz36⟩ := h
    refine tu_st_eq rfl (M' := M) hM36 ?_
    refine tu_tp (b := tu_b (1 ≤ w ∧ w ≤ 8)) hz36 ?_
    refine hret 39 _ _ (tu_b (1 ≤ w ∧ w ≤ 8)) dX4_isValue_39 (fun _ => tu_b_01) ?_
    exact ⟨rfl, tu_b_f (by omega)⟩
  ·
    refine tu_tabIn 1 X 40 dX4_isValue_1 (show tu_rg a from by first | assumption | exact ⟨by omega, by omega⟩) (by omega) (by omega) (by rw [br1]; rfl) (by decide) ?_
    have f1 : tu_f1 a.toNat = 0 := by rw [br1]; rfl
    have f2 : tu_f2 a.toNat = 9 := by rw [br1]; rfl
    refine tu_iload_n 40 X 1 dX4_isValue_40 rfl ?_
    refine tu_iconst 41 X dX4_isValue_41 ?_
    refine tu_bipush 42 X dX4_isValue_42 (by decide) ?_
    refine tu_callSI 44 X (st := []) (as := [tu_i w, tu_i 0, tu_i 9]) (c_X4_within w 0 9 (show tu_rg w from by first | assumption | omega | exact ⟨by omega, by omega⟩ | decide) (show tu_rg 0 from by first | assumption | omega | exact ⟨by omega, by omega⟩ | decide) (show tu_rg 9 from by first | assumption | omega | exact ⟨by omega, by omega⟩ | decide)) ss_RX4_48 dX4_isValue_44 rfl (Nat.le_of_ble_eq_true rfl) ⟨by decide, by decide⟩ (fun z M' h => ?_)
    obtain ⟨hM44, hz44⟩ := h
    refine tu_st_eq rfl (M' := M) hM44 ?_
    refine tu_tp (b := tu_b (0 ≤ w ∧ w ≤ 9)) hz44 ?_
    refine hret 47 _ _ (tu_b (0 ≤ w ∧ w ≤ 9)) dX4_isValue_47 (fun _ => tu_b_01) ?_
    exact ⟨rfl, tu_b_f (by omega)⟩
  ·
    refine tu_tabIn 1 X 40 dX4_isValue_1 (show tu_rg a from by first | assumption | exact ⟨by omega, by omega⟩) (by omega) (by omega) (by rw [br1]; rfl) (by decide) ?_
    have f1 : tu_f1 a.toNat = 0 := by rw [br1]; rfl
    have f2 : tu_f2 a.toNat = 9 := by rw [br1]; rfl
    refine tu_iload_n 40 X 1 dX4_isValue_40 rfl ?_
    refine tu_iconst 41 X dX4_isValue_41 ?_
    refine tu_bipush 42 X dX4_isValue_42 (by decide) ?_
    refine tu_callSI 44 X (st := []) (as := [tu_i w, tu_i 0, tu_i 9]) (c_X4_within w 0 9 (show tu_rg w from by first | assumption | omega | exact ⟨by omega, by omega⟩ | decide) (show tu_rg 0 from by first | assumption | omega | exact ⟨by omega, by omega⟩ | decide) (show tu_rg 9 from by first | assumption | omega | exact ⟨by omega, by omega⟩ | decide)) ss_RX4_48 dX4_isValue_44 rfl (Nat.le_of_ble_eq_true rfl) ⟨by decide, by decide⟩ (fun z M' h => ?_)
    obtain ⟨hM44, hz44⟩ := h
    refine tu_st_eq rfl (M' := M) hM44 ?_
    refine tu_tp (b := tu_b (0 ≤ w ∧ w ≤ 9)) hz44 ?_
    refine hret 47 _ _ (tu_b (0 ≤ w ∧ w ≤ 9)) dX4_isValue_47 (fun _ => tu_b_01) ?_
    exact ⟨rfl, tu_b_f (by omega)⟩
  ·
    refine tu_tabIn 1 X 48 dX4_isValue_1 (show tu_rg a from by first | assumption | exact ⟨by omega, by omega⟩) (by omega) (by omega) (by rw [br1]; rfl) (by decide) ?_
    have f1 : tu_f1 a.toNat = 0 := by rw [br1]; rfl
    have f2 : tu_f2 a.toNat = 20 := by rw [br1]; rfl
    refine tu_iload_n 48 X 1 dX4_isValue_48 rfl ?_
    refine tu_iconst 49 X dX4_isValue_49 ?_
    refine tu_bipush 50 X dX4_isValue_50 (by decide) ?_
    refine tu_callSI 52 X (st := []) (as := [tu_i w, tu_i 0, tu_i 20]) (c_X4_within w 0 20 (show tu_rg w from by first | assumption | omega | exact ⟨by omega, by omega⟩ | decide) (show tu_rg 0 from by first | assumption | omega | exact ⟨by omega, by omega⟩ | decide) (show tu_rg 20 from by first | assumption | omega | exact ⟨by omega, by omega⟩ | decide)) ss_RX4_48 dX4_isValue_52 rfl (Nat.le_of_ble_eq_true rfl) ⟨by decide, by decide⟩ (fun z M' h => ?_)
    obtain ⟨hM52, hz52⟩ := h
    refine tu_st_eq rfl (M' := M) hM52 ?_
    refine tu_tp (b := tu_b (0 ≤ w ∧ w ≤ 20)) hz52 ?_
    refine hret 55 _ _ (tu_b (0 ≤ w ∧ w ≤ 20)) dX4_isValue_55 (fun _ => tu_b_01) ?_
    exact ⟨rfl, tu_b_f (by omega)⟩
  ·
    refine tu_tabOut 1 X 56 dX4_isValue_1 (show tu_rg a from by first | assumption | exact ⟨by omega, by omega⟩) br1 (by decide) ?_
    refine tu_iconst 56 X dX4_isValue_56 ?_
    refine hret 57 _ _ 0 dX4_isValue_57 (fun _ => Or.inl rfl) ?_
    exact ⟨rfl, (tu_b0 (by omega)).symm⟩
set_option maxRecDepth 20000 in
set_option maxHeartbeats 4000000 in
theorem c_X4_kindAt {M : tu_M} (B : Nat → Nat → Int) (p s : Nat) (hO : tu_BO B) (hR : tu_MB B (M 87)) (hp : (p : Int) < B 0 4) (hs : (s : Int) < B 4 p) : tu_MI tu_Y_X4_kindAt [tu_r 86, tu_i ((p : Nat) : Int), tu_i ((s : Nat) : Int)] M (fun z M' => M' = M ∧ z = B 5 (p * 24 + s)) := by
  have cn := hO.1
  have c4 := hO.2.2.2.1 p hp
  have c5 := hO.2.2.2.2.1 p s hp hs
  have e2 := tu_MB.b2 hO hR hp hs
  have e1 := tu_MB.b1 hO hR hp hs
  refine tu_MI.of (ty := .int) (by decide) rfl (by first | exact Or.inl rfl | exact Or.inr rfl) (Nat.le_of_ble_eq_true rfl) (fun T (X : tu_X T cX4_kindAt RX4 1 21) hnl hrt hret => ?_)
  have hret : tu_RI T cX4_kindAt (fun z M' => M' = M ∧ z = B 5 (p * 24 + s)) := hret
  have hnl : T.2.2.2.2.2.2.2.2.2.2.1 = 3 := hnl
  show tu_W T 0 [(0, tu_r 86), (1, tu_i ((p : Nat) : Int)), (2, tu_i ((s : Nat) : Int))] [] M
  refine tu_aload_n 0 X 0 dX4_kindAt_0 rfl ?_
  refine tu_getR 1 X dX4_kindAt_1 fl_RX4_7 (by decide) rfl rfl ?_
  refine tu_bipush 4 X dX4_kindAt_4 (by decide) ?_
  refine tu_iconst 6 X dX4_kindAt_6 ?_
  refine tu_iload_n 7 X 1 dX4_kindAt_7 rfl ?_
  refine tu_imul 8 X dX4_kindAt_8 ?_
  refine tu_iadd 9 X dX4_kindAt_9 ?_
  refine tu_iconst 10 X dX4_kindAt_10 ?_
  refine tu_iadd 11 X dX4_kindAt_11 ?_
  refine tu_iald 12 X (x := M 87 ((40 + (3 * p)) + 1)) ((40 + (3 * p)) + 1) dX4_kindAt_12 (by decide) rfl (by decide) (by omega) (by omega) rfl ?_
  refine tu_iload_n 13 X 2 dX4_kindAt_13 rfl ?_
  refine tu_callSI 14 X (st := []) (as := [tu_i (M 87 ((40 + (3 * p)) + 1)), tu_i ((s : Nat) : Int)]) (c_X4_has (M 87 ((40 + (3 * p)) + 1)) s (show s < 32 from by first | assumption | omega | exact ⟨by omega, by omega⟩ | decide)) ss_RX4_84 dX4_kindAt_14 rfl (Nat.le_of_ble_eq_true rfl) ⟨by decide, by decide⟩ (fun z M' h => ?_)
  obtain ⟨hM14, hz14⟩ := h
  refine tu_st_eq rfl (M' := M) hM14 ?_
  refine tu_tp (b := tu_b (tu_bi (M 87 ((40 + (3 * p)) + 1)) s = 1)) hz14 ?_
  refine tu_if_eq 17 X 24 dX4_kindAt_17 (by decide) tu_b_rg (fun br17 => ?_) (fun br17 => ?_)
  ·
    have br17 := tu_b_e0 br17
    refine tu_aload_n 24 X 0 dX4_kindAt_24 rfl ?_
    refine tu_getR 25 X dX4_kindAt_25 fl_RX4_7 (by decide) rfl rfl ?_
    refine tu_bipush 28 X dX4_kindAt_28 (by decide) ?_
    refine tu_iconst 30 X dX4_kindAt_30 ?_
    refine tu_iload_n 31 X 1 dX4_kindAt_31 rfl ?_
    refine tu_imul 32 X dX4_kindAt_32 ?_
    refine tu_iadd 33 X dX4_kindAt_33 ?_
    refine tu_iconst 34 X dX4_kindAt_34 ?_
    refine tu_iadd 35 X dX4_kindAt_35 ?_
    refine tu_iald 36 X (x := M 87 ((40 + (3 * p)) + 2)) ((40 + (3 * p)) + 2) dX4_kindAt_36 (by decide) rfl (by decide) (by omega) (by omega) rfl ?_
    refine tu_iload_n 37 X 2 dX4_kindAt_37 rfl ?_
    refine tu_callSI 38 X (st := []) (as := [tu_i (M 87 ((40 + (3 * p)) + 2)), tu_i ((s : Nat) : Int)]) (c_X4_has (M 87 ((40 + (3 * p)) + 2)) s (show s < 32 from by first | assumption | omega | exact ⟨by omega, by omega⟩ | decide)) ss_RX4_84 dX4_kindAt_38 rfl (Nat.le_of_ble_eq_true rfl) ⟨by decide, by decide⟩ (fun z M' h => ?_)
    obtain ⟨hM38, hz38⟩ := h
    refine tu_st_eq rfl (M' := M) hM38 ?_
    refine tu_tp (b := tu_b (tu_bi (M 87 ((40 + (3 * p)) + 2)) s = 1)) hz38 ?_
    refine tu_if_eq 41 X 48 dX4_kindAt_41 (by decide) tu_b_rg (fun br41 => ?_) (fun br41 => ?_)
    ·
      have br41 := tu_b_e0 br41
      refine tu_iconst 48 X dX4_kindAt_48 ?_
      refine hret 49 _ _ 0 dX4_kindAt_49 (fun h => by rw [hrt] at h; cases h) ?_
      exact ⟨rfl, by omega⟩
    ·
      have br41 := tu_b_n0 br41
      refine tu_iconst 44 X dX4_kindAt_44 ?_
      refine tu_goto 45 X 49 dX4_kindAt_45 (by decide) ?_
      refine hret 49 _ _ 1 dX4_kindAt_49 (fun h => by rw [hrt] at h; cases h) ?_
      exact ⟨rfl, by omega⟩
  ·
    have br17 := tu_b_n0 br17
    refine tu_iconst 20 X dX4_kindAt_20 ?_
    refine tu_goto 21 X 49 dX4_kindAt_21 (by decide) ?_
    refine hret 49 _ _ 2 dX4_kindAt_49 (fun h => by rw [hrt] at h; cases h) ?_
    exact ⟨rfl, by omega⟩
set_option maxRecDepth 20000 in
set_option maxHeartbeats 4000000 in
theorem c_X4_burdens {M : tu_M} (B : Nat → Nat → Int)  (hO : tu_BO B) (hR : tu_MB B (M 87)) : tu_MI tu_Y_X4_burdens [tu_r 86] M (fun z M' => M' = M ∧ z = tu_sm (fun l => if 2 ≤ tu_ti (B 6) ((l : Nat) : Int) (B 0 7).toNat then 1 else 0) (B 0 1).toNat) := by
  have cn := hO.1
  refine tu_MI.of (ty := .int) (by decide) rfl (by first | exact Or.inl rfl | exact Or.inr rfl) (Nat.le_of_ble_eq_true rfl) (fun T (X : tu_X T cX4_burdens RX4 1 23) hnl hrt hret => ?_)
  have hret : tu_RI T cX4_burdens (fun z M' => M' = M ∧ z = tu_sm (fun l => if 2 ≤ tu_ti (B 6) ((l : Nat) : Int) (B 0 7).toNat then 1 else 0) (B 0 1).toNat) := hret
  have hnl : T.2.2.2.2.2.2.2.2.2.2.1 = 3 := hnl
  show tu_W T 0 [(0, tu_r 86)] [] M
  refine tu_iconst 0 X dX4_burdens_0 ?_
  refine tu_istore_n 1 X (lv' := [(1, tu_i 0), (0, tu_r 86)]) dX4_burdens_1 (by rw [hnl]; decide) rfl ?_
  refine tu_iconst 2 X dX4_burdens_2 ?_
  refine tu_istore_n 3 X (lv' := [(2, tu_i 0), (1, tu_i 0), (0, tu_r 86)]) dX4_burdens_3 (by rw [hnl]; decide) rfl ?_
  have lp4 : ∀ (nq : Nat) (k : Nat), ((k : Int) ≤ B 0 1) → (B 0 1).toNat - k < nq → tu_W T 4 [(0, tu_r 86), (1, tu_i (tu_sm (fun l => if 2 ≤ tu_ti (B 6) ((l : Nat) : Int) (B 0 7).toNat then 1 else 0) k)), (2, tu_i ((k : Nat) : Int))] [] M := by
    intro nq
    induction nq with
    | zero => intros; omega
    | succ nq ih4 =>
      intro k hk hn4
      refine tu_iload_n 4 X 2 dX4_burdens_4 rfl ?_
      refine tu_aload_n 5 X 0 dX4_burdens_5 rfl ?_
      refine tu_getR 6 X dX4_burdens_6 fl_RX4_7 (by decide) rfl rfl ?_
      refine tu_iconst 9 X dX4_burdens_9 ?_
      refine tu_iald 10 X (x := M 87 4) 4 dX4_burdens_10 (by decide) rfl (by decide) rfl (by decide) rfl ?_
      refine tu_tp (b := (B 0 1)) (by exact hR.n4) ?_
      refine tu_icmp_ge 11 X 37 dX4_burdens_11 (by decide) (show tu_rg ((k : Nat) : Int) from by first | assumption | exact ⟨by omega, by omega⟩) (show tu_rg (B 0 1) from by first | assumption | exact ⟨by omega, by omega⟩) (fun br11 => ?_) (fun br11 => ?_)
      ·
        refine tu_iload_n 37 X 1 dX4_burdens_37 rfl ?_
        refine hret 38 _ _ (tu_sm (fun l => if 2 ≤ tu_ti (B 6) ((l : Nat) : Int) (B 0 7).toNat then 1 else 0) k) dX4_burdens_38 (fun h => by rw [hrt] at h; cases h) ?_
        exact ⟨rfl, by rw [show (B 0 1).toNat = k from by omega]⟩
      ·
        refine tu_iload_n 14 X 1 dX4_burdens_14 rfl ?_
        refine tu_aload_n 15 X 0 dX4_burdens_15 rfl ?_
        refine tu_iload_n 16 X 2 dX4_burdens_16 rfl ?_
        refine tu_callVI 17 X (st := [tu_i (tu_sm (fun l => if 2 ≤ tu_ti (B 6) ((l : Nat) : Int) (B 0 7).toNat then 1 else 0) k)]) (as := [tu_i ((k : Nat) : Int)]) (c_X4_sungTimes B ((k : Nat) : Int) (show tu_BO B from by first | assumption | omega | exact ⟨by omega, by omega⟩ | decide) (show tu_MB B (M 87) from by first | assumption | omega | exact ⟨by omega, by omega⟩ | decide) (show tu_rg ((k : Nat) : Int) from by first | assumption | omega | exact ⟨by omega, by omega⟩ | decide)) sv_RX4_169 dX4_burdens_17 rfl (by decide) rfl rfl rfl (Nat.le_of_ble_eq_true rfl) ⟨by decide, by decide⟩ (fun z M' h => ?_)
        obtain ⟨hM17, hz17⟩ := h
        refine tu_st_eq rfl (M' := M) hM17 ?_
        refine tu_tp (b := (tu_ti (B 6) ((k : Nat) : Int) (B 0 7).toNat)) hz17 ?_
        have e1 := tu_ti_01 (B 6) ((k : Nat) : Int) (B 0 7).toNat
        refine tu_iconst 20 X dX4_burdens_20 ?_
        refine tu_icmp_le 21 X 28 dX4_burdens_21 (by decide) (show tu_rg (tu_ti (B 6) ((k : Nat) : Int) (B 0 7).toNat) from by first | assumption | exact ⟨by omega, by omega⟩) ⟨by decide, by decide⟩ (fun br21 => ?_) (fun br21 => ?_)
        ·
          refine tu_iconst 28 X dX4_burdens_28 ?_
          refine tu_iadd 29 X dX4_burdens_29 ?_
          refine tu_istore_n 30 X (lv' := [(1, tu_i (tu_sm (fun l => if 2 ≤ tu_ti (B 6) ((l : Nat) : Int) (B 0 7).toNat then 1 else 0) k + 0)), (0, tu_r 86), (2, tu_i ((k : Nat) : Int))]) dX4_burdens_30 (by rw [hnl]; decide) rfl ?_
          refine tu_iinc 31 X (lv' := [(2, tu_i (((k : Nat) : Int) + 1)), (1, tu_i (tu_sm (fun l => if 2 ≤ tu_ti (B 6) ((l : Nat) : Int) (B 0 7).toNat then 1 else 0) k + 0)), (0, tu_r 86)]) 2 dX4_burdens_31 rfl (by rw [hnl]; decide) rfl ?_
          refine tu_goto 34 X 4 dX4_burdens_34 (by decide) ?_
          refine tu_jmp [2, 1, 0] (lv' := [(0, tu_r 86), (1, tu_i (tu_sm (fun l => if 2 ≤ tu_ti (B 6) ((l : Nat) : Int) (B 0 7).toNat then 1 else 0) (k + 1))), (2, tu_i (((k + 1) : Nat) : Int))]) ⟨rfl, tu_ei (by first | rfl | (simp only [tu_sm]; split <;> omega)), tu_ei (by first | rfl | omega), trivial⟩ rfl (ih4 (k + 1) (by first | assumption | omega) (by omega))
        ·
          refine tu_iconst 24 X dX4_burdens_24 ?_
          refine tu_goto 25 X 29 dX4_burdens_25 (by decide) ?_
          refine tu_iadd 29 X dX4_burdens_29 ?_
          refine tu_istore_n 30 X (lv' := [(1, tu_i (tu_sm (fun l => if 2 ≤ tu_ti (B 6) ((l : Nat) : Int) (B 0 7).toNat then 1 else 0) k + 1)), (0, tu_r 86), (2, tu_i ((k : Nat) : Int))]) dX4_burdens_30 (by rw [hnl]; decide) rfl ?_
          refine tu_iinc 31 X (lv' := [(2, tu_i (((k : Nat) : Int) + 1)), (1, tu_i (tu_sm (fun l => if 2 ≤ tu_ti (B 6) ((l : Nat) : Int) (B 0 7).toNat then 1 else 0) k + 1)), (0, tu_r 86)]) 2 dX4_burdens_31 rfl (by rw [hnl]; decide) rfl ?_
          refine tu_goto 34 X 4 dX4_burdens_34 (by decide) ?_
          refine tu_jmp [2, 1, 0] (lv' := [(0, tu_r 86), (1, tu_i (tu_sm (fun l => if 2 ≤ tu_ti (B 6) ((l : Nat) : Int) (B 0 7).toNat then 1 else 0) (k + 1))), (2, tu_i (((k + 1) : Nat) : Int))]) ⟨rfl, tu_ei (by first | rfl | (simp only [tu_sm]; split <;> omega)), tu_ei (by first | rfl | omega), trivial⟩ rfl (ih4 (k + 1) (by first | assumption | omega) (by omega))
  refine tu_jmp [2, 1, 0] (lv' := [(0, tu_r 86), (1, tu_i (tu_sm (fun l => if 2 ≤ tu_ti (B 6) ((l : Nat) : Int) (B 0 7).toNat then 1 else 0) 0)), (2, tu_i 0)]) ⟨rfl, tu_ei (by first | rfl | (simp only [tu_sm]; split <;> omega)), rfl, trivial⟩ rfl (lp4 (((B 0 1).toNat - 0) + 1) 0 (by first | assumption | omega) (by omega))
set_option maxRecDepth 20000 in
set_option maxHeartbeats 4000000 in
theorem c_X4_count {M : tu_M} (B : Nat → Nat → Int) (w : Int) (hO : tu_BO B) (hR : tu_MB B (M 87)) (rw : tu_rg w) : tu_MI tu_Y_X4_count [tu_r 86, tu_i w] M (fun z M' => ∃ (y : Int), M' = M ∧ (((w = 0) ∧ y = B 0 1) ∨ ((w = 1) ∧ y = B 0 4) ∨ ((w = 2) ∧ y = B 0 7) ∨ ((w = 3) ∧ y = B 0 9) ∨ ((w = 4) ∧ y = tu_sm (fun l => if 2 ≤ tu_ti (B 6) ((l : Nat) : Int) (B 0 7).toNat then 1 else 0) (B 0 1).toNat) ∨ ((w = 5) ∧ y = B 1 0) ∨ ((w = 6) ∧ y = B 1 1) ∨ ((w = 7) ∧ y = B 1 2) ∨ ((w = 8) ∧ y = B 1 3) ∨ ((w = 9) ∧ y = M 86 6) ∨ ((w = 10) ∧ y = M 86 2) ∨ ((w < 0 ∨ 10 < w) ∧ y = -2)) ∧ z = y) := by
  have cn := hO.1
  refine tu_MI.of (ty := .int) (by decide) rfl (by first | exact Or.inl rfl | exact Or.inr rfl) (Nat.le_of_ble_eq_true rfl) (fun T (X : tu_X T cX4_count RX4 2 45) hnl hrt hret => ?_)
  have hret : tu_RI T cX4_count (fun z M' => ∃ (y : Int), M' = M ∧ (((w = 0) ∧ y = B 0 1) ∨ ((w = 1) ∧ y = B 0 4) ∨ ((w = 2) ∧ y = B 0 7) ∨ ((w = 3) ∧ y = B 0 9) ∨ ((w = 4) ∧ y = tu_sm (fun l => if 2 ≤ tu_ti (B 6) ((l : Nat) : Int) (B 0 7).toNat then 1 else 0) (B 0 1).toNat) ∨ ((w = 5) ∧ y = B 1 0) ∨ ((w = 6) ∧ y = B 1 1) ∨ ((w = 7) ∧ y = B 1 2) ∨ ((w = 8) ∧ y = B 1 3) ∨ ((w = 9) ∧ y = M 86 6) ∨ ((w = 10) ∧ y = M 86 2) ∨ ((w < 0 ∨ 10 < w) ∧ y = -2)) ∧ z = y) := hret
  have hnl : T.2.2.2.2.2.2.2.2.2.2.1 = 2 := hnl
  show tu_W T 0 [(0, tu_r 86), (1, tu_i w)] [] M
  refine tu_iload_n 0 X 1 dX4_count_0 rfl ?_
  rcases (show w = 0 ∨ w = 1 ∨ w = 2 ∨ w = 3 ∨ w = 4 ∨ w = 5 ∨ w = 6 ∨ w = 7 ∨ w = 8 ∨ w = 9 ∨ w = 10 ∨ (w < 0 ∨ 10 < w) from by omega) with br1 | br1 | br1 | br1 | br1 | br1 | br1 | br1 | br1 | br1 | br1 | br1
  ·
    refine tu_tabIn 1 X 60 dX4_count_1 (show tu_rg w from by first | assumption | exact ⟨by omega, by omega⟩) (by omega) (by omega) (by rw [br1]; rfl) (by decide) ?_
    refine tu_aload_n 60 X 0 dX4_count_60 rfl ?_
    refine tu_getR 61 X dX4_count_61 fl_RX4_7 (by decide) rfl rfl ?_
    refine tu_iconst 64 X dX4_count_64 ?_
    refine tu_iload_n 65 X 1 dX4_count_65 rfl ?_
    refine tu_iadd 66 X dX4_count_66 ?_
    refine tu_iald 67 X (x := M 87 ((4 + w).toNat)) ((4 + w).toNat) dX4_count_67 (by decide) rfl (by decide) (by omega) (by omega) rfl ?_
    refine hret 68 _ _ (M 87 ((4 + w).toNat)) dX4_count_68 (fun h => by rw [hrt] at h; cases h) ?_
    first | exact ⟨_, rfl, Or.inl (⟨by omega, by rw [show (4 + w).toNat = 4 from by omega]; exact hR.n4⟩), rfl⟩ | exact ⟨_, rfl, Or.inr (Or.inl (⟨by omega, by rw [show (4 + w).toNat = 5 from by omega]; exact hR.n5⟩)), rfl⟩ | exact ⟨_, rfl, Or.inr (Or.inr (Or.inl (⟨by omega, by rw [show (4 + w).toNat = 6 from by omega]; exact hR.n6⟩))), rfl⟩ | exact ⟨_, rfl, Or.inr (Or.inr (Or.inr (Or.inl (⟨by omega, by rw [show (4 + w).toNat = 7 from by omega]; exact hR.n7⟩)))), rfl⟩
  ·
    refine tu_tabIn 1 X 60 dX4_count_1 (show tu_rg w from by first | assumption | exact ⟨by omega, by omega⟩) (by omega) (by omega) (by rw [br1]; rfl) (by decide) ?_
    refine tu_aload_n 60 X 0 dX4_count_60 rfl ?_
    refine tu_getR 61 X dX4_count_61 fl_RX4_7 (by decide) rfl rfl ?_
    refine tu_iconst 64 X dX4_count_64 ?_
    refine tu_iload_n 65 X 1 dX4_count_65 rfl ?_
    refine tu_iadd 66 X dX4_count_66 ?_
    refine tu_iald 67 X (x := M 87 ((4 + w).toNat)) ((4 + w).toNat) dX4_count_67 (by decide) rfl (by decide) (by omega) (by omega) rfl ?_
    refine hret 68 _ _ (M 87 ((4 + w).toNat)) dX4_count_68 (fun h => by rw [hrt] at h; cases h) ?_
    first | exact ⟨_, rfl, Or.inl (⟨by omega, by rw [show (4 + w).toNat = 4 from by omega]; exact hR.n4⟩), rfl⟩ | exact ⟨_, rfl, Or.inr (Or.inl (⟨by omega, by rw [show (4 + w).toNat = 5 from by omega]; exact hR.n5⟩)), rfl⟩ | exact ⟨_, rfl, Or.inr (Or.inr (Or.inl (⟨by omega, by rw [show (4 + w).toNat = 6 from by omega]; exact hR.n6⟩))), rfl⟩ | exact ⟨_, rfl, Or.inr (Or.inr (Or.inr (Or.inl (⟨by omega, by rw [show (4 + w).toNat = 7 from by omega]; exact hR.n7⟩)))), rfl⟩
  ·
    refine tu_tabIn 1 X 60 dX4_count_1 (show tu_rg w from by first | assumption | exact ⟨by omega, by omega⟩) (by omega) (by omega) (by rw [br1]; rfl) (by decide) ?_
    refine tu_aload_n 60 X 0 dX4_count_60 rfl ?_
    refine tu_getR 61 X dX4_count_61 fl_RX4_7 (by decide) rfl rfl ?_
    refine tu_iconst 64 X dX4_count_64 ?_
    refine tu_iload_n 65 X 1 dX4_count_65 rfl ?_
    refine tu_iadd 66 X dX4_count_66 ?_
    refine tu_iald 67 X (x := M 87 ((4 + w).toNat)) ((4 + w).toNat) dX4_count_67 (by decide) rfl (by decide) (by omega) (by omega) rfl ?_
    refine hret 68 _ _ (M 87 ((4 + w).toNat)) dX4_count_68 (fun h => by rw [hrt] at h; cases h) ?_
    first | exact ⟨_, rfl, Or.inl (⟨by omega, by rw [show (4 + w).toNat = 4 from by omega]; exact hR.n4⟩), rfl⟩ | exact ⟨_, rfl, Or.inr (Or.inl (⟨by omega, by rw [show (4 + w).toNat = 5 from by omega]; exact hR.n5⟩)), rfl⟩ | exact ⟨_, rfl, Or.inr (Or.inr (Or.inl (⟨by omega, by rw [show (4 + w).toNat = 6 from by omega]; exact hR.n6⟩))), rfl⟩ | exact ⟨_, rfl, Or.inr (Or.inr (Or.inr (Or.inl (⟨by omega, by rw [show (4 + w).toNat = 7 from by omega]; exact hR.n7⟩)))), rfl⟩
  ·
    refine tu_tabIn 1 X 60 dX4_count_1 (show tu_rg w from by first | assumption | exact ⟨by omega, by omega⟩) (by omega) (by omega) (by rw [br1]; rfl) (by decide) ?_
    refine tu_aload_n 60 X 0 dX4_count_60 rfl ?_
    refine tu_getR 61 X dX4_count_61 fl_RX4_7 (by decide) rfl rfl ?_
    refine tu_iconst 64 X dX4_count_64 ?_
    refine tu_iload_n 65 X 1 dX4_count_65 rfl ?_
    refine tu_iadd 66 X dX4_count_66 ?_
    refine tu_iald 67 X (x := M 87 ((4 + w).toNat)) ((4 + w).toNat) dX4_count_67 (by decide) rfl (by decide) (by omega) (by omega) rfl ?_
    refine hret 68 _ _ (M 87 ((4 + w).toNat)) dX4_count_68 (fun h => by rw [hrt] at h; cases h) ?_
    first | exact ⟨_, rfl, Or.inl (⟨by omega, by rw [show (4 + w).toNat = 4 from by omega]; exact hR.n4⟩), rfl⟩ | exact ⟨_, rfl, Or.inr (Or.inl (⟨by omega, by rw [show (4 + w).toNat = 5 from by omega]; exact hR.n5⟩)), rfl⟩ | exact ⟨_, rfl, Or.inr (Or.inr (Or.inl (⟨by omega, by rw [show (4 + w).toNat = 6 from by omega]; exact hR.n6⟩))), rfl⟩ | exact ⟨_, rfl, Or.inr (Or.inr (Or.inr (Or.inl (⟨by omega, by rw [show (4 + w).toNat = 7 from by omega]; exact hR.n7⟩)))), rfl⟩
  ·
    refine tu_tabIn 1 X 69 dX4_count_1 (show tu_rg w from by first | assumption | exact ⟨by omega, by omega⟩) (by omega) (by omega) (by rw [br1]; rfl) (by decide) ?_
    refine tu_aload_n 69 X 0 dX4_count_69 rfl ?_
    refine tu_callVI 70 X (st := []) (as := []) (c_X4_burdens B (show tu_BO B from by first | assumption | omega | exact ⟨by omega, by omega⟩ | decide) (show tu_MB B (M 87) from by first | assumption | omega | exact ⟨by omega, by omega⟩ | decide)) sv_RX4_181 dX4_count_70 rfl (by decide) rfl rfl rfl (Nat.le_of_ble_eq_true rfl) ⟨by decide, by decide⟩ (fun z M' h => ?_)
    obtain ⟨hM70, hz70⟩ := h
    refine tu_st_eq rfl (M' := M) hM70 ?_
    refine tu_tp (b := (tu_sm (fun l => if 2 ≤ tu_ti (B 6) ((l : Nat) : Int) (B 0 7).toNat then 1 else 0) (B 0 1).toNat)) hz70 ?_
    refine hret 73 _ _ (tu_sm (fun l => if 2 ≤ tu_ti (B 6) ((l : Nat) : Int) (B 0 7).toNat then 1 else 0) (B 0 1).toNat) dX4_count_73 (fun h => by rw [hrt] at h; cases h) ?_
    exact ⟨_, rfl, Or.inr (Or.inr (Or.inr (Or.inr (Or.inl (⟨by omega, rfl⟩))))), rfl⟩
  ·
    refine tu_tabIn 1 X 74 dX4_count_1 (show tu_rg w from by first | assumption | exact ⟨by omega, by omega⟩) (by omega) (by omega) (by rw [br1]; rfl) (by decide) ?_
    refine tu_aload_n 74 X 0 dX4_count_74 rfl ?_
    refine tu_getR 75 X dX4_count_75 fl_RX4_7 (by decide) rfl rfl ?_
    refine tu_iload_n 78 X 1 dX4_count_78 rfl ?_
    refine tu_iconst 79 X dX4_count_79 ?_
    refine tu_isub 80 X dX4_count_80 ?_
    refine tu_iald 81 X (x := M 87 ((w - 5).toNat)) ((w - 5).toNat) dX4_count_81 (by decide) rfl (by decide) (by omega) (by omega) rfl ?_
    refine hret 82 _ _ (M 87 ((w - 5).toNat)) dX4_count_82 (fun h => by rw [hrt] at h; cases h) ?_
    first | exact ⟨_, rfl, Or.inr (Or.inr (Or.inr (Or.inr (Or.inr (Or.inl (⟨by omega, by rw [show (w - 5).toNat = 0 from by omega]; exact hR.set 0 (by decide)⟩)))))), rfl⟩ | exact ⟨_, rfl, Or.inr (Or.inr (Or.inr (Or.inr (Or.inr (Or.inr (Or.inl (⟨by omega, by rw [show (w - 5).toNat = 1 from by omega]; exact hR.set 1 (by decide)⟩))))))), rfl⟩ | exact ⟨_, rfl, Or.inr (Or.inr (Or.inr (Or.inr (Or.inr (Or.inr (Or.inr (Or.inl (⟨by omega, by rw [show (w - 5).toNat = 2 from by omega]; exact hR.set 2 (by decide)⟩)))))))), rfl⟩ | exact ⟨_, rfl, Or.inr (Or.inr (Or.inr (Or.inr (Or.inr (Or.inr (Or.inr (Or.inr (Or.inl (⟨by omega, by rw [show (w - 5).toNat = 3 from by omega]; exact hR.set 3 (by decide)⟩))))))))), rfl⟩
  ·
    refine tu_tabIn 1 X 74 dX4_count_1 (show tu_rg w from by first | assumption | exact ⟨by omega, by omega⟩) (by omega) (by omega) (by rw [br1]; rfl) (by decide) ?_
    refine tu_aload_n 74 X 0 dX4_count_74 rfl ?_
    refine tu_getR 75 X dX4_count_75 fl_RX4_7 (by decide) rfl rfl ?_
    refine tu_iload_n 78 X 1 dX4_count_78 rfl ?_
    refine tu_iconst 79 X dX4_count_79 ?_
    refine tu_isub 80 X dX4_count_80 ?_
    refine tu_iald 81 X (x := M 87 ((w - 5).toNat)) ((w - 5).toNat) dX4_count_81 (by decide) rfl (by decide) (by omega) (by omega) rfl ?_
    refine hret 82 _ _ (M 87 ((w - 5).toNat)) dX4_count_82 (fun h => by rw [hrt] at h; cases h) ?_
    first | exact ⟨_, rfl, Or.inr (Or.inr (Or.inr (Or.inr (Or.inr (Or.inl (⟨by omega, by rw [show (w - 5).toNat = 0 from by omega]; exact hR.set 0 (by decide)⟩)))))), rfl⟩ | exact ⟨_, rfl, Or.inr (Or.inr (Or.inr (Or.inr (Or.inr (Or.inr (Or.inl (⟨by omega, by rw [show (w - 5).toNat = 1 from by omega]; exact hR.set 1 (by decide)⟩))))))), rfl⟩ | exact ⟨_, rfl, Or.inr (Or.inr (Or.inr (Or.inr (Or.inr (Or.inr (Or.inr (Or.inl (⟨by omega, by rw [show (w - 5).toNat = 2 from by omega]; exact hR.set 2 (by decide)⟩)))))))), rfl⟩ | exact ⟨_, rfl, Or.inr (Or.inr (Or.inr (Or.inr (Or.inr (Or.inr (Or.inr (Or.inr (Or.inl (⟨by omega, by rw [show (w - 5).toNat = 3 from by omega]; exact hR.set 3 (by decide)⟩))))))))), rfl⟩
  ·
    refine tu_tabIn 1 X 74 dX4_count_1 (show tu_rg w from by first | assumption | exact ⟨by omega, by omega⟩) (by omega) (by omega) (by rw [br1]; rfl) (by decide) ?_
    refine tu_aload_n 74 X 0 dX4_count_74 rfl ?_
    refine tu_getR 75 X dX4_count_75 fl_RX4_7 (by decide) rfl rfl ?_
    refine tu_iload_n 78 X 1 dX4_count_78 rfl ?_
    refine tu_iconst 79 X dX4_count_79 ?_
    refine tu_isub 80 X dX4_count_80 ?_
    refine tu_iald 81 X (x := M 87 ((w - 5).toNat)) ((w - 5).toNat) dX4_count_81 (by decide) rfl (by decide) (by omega) (by omega) rfl ?_
    refine hret 82 _ _ (M 87 ((w - 5).toNat)) dX4_count_82 (fun h => by rw [hrt] at h; cases h) ?_
    first | exact ⟨_, rfl, Or.inr (Or.inr (Or.inr (Or.inr (Or.inr (Or.inl (⟨by omega, by rw [show (w - 5).toNat = 0 from by omega]; exact hR.set 0 (by decide)⟩)))))), rfl⟩ | exact ⟨_, rfl, Or.inr (Or.inr (Or.inr (Or.inr (Or.inr (Or.inr (Or.inl (⟨by omega, by rw [show (w - 5).toNat = 1 from by omega]; exact hR.set 1 (by decide)⟩))))))), rfl⟩ | exact ⟨_, rfl, Or.inr (Or.inr (Or.inr (Or.inr (Or.inr (Or.inr (Or.inr (Or.inl (⟨by omega, by rw [show (w - 5).toNat = 2 from by omega]; exact hR.set 2 (by decide)⟩)))))))), rfl⟩ | exact ⟨_, rfl, Or.inr (Or.inr (Or.inr (Or.inr (Or.inr (Or.inr (Or.inr (Or.inr (Or.inl (⟨by omega, by rw [show (w - 5).toNat = 3 from by omega]; exact hR.set 3 (by decide)⟩))))))))), rfl⟩
  ·
    refine tu_tabIn 1 X 74 dX4_count_1 (show tu_rg w from by first | assumption | exact ⟨by omega, by omega⟩) (by omega) (by omega) (by rw [br1]; rfl) (by decide) ?_
    refine tu_aload_n 74 X 0 dX4_count_74 rfl ?_
    refine tu_getR 75 X dX4_count_75 fl_RX4_7 (by decide) rfl rfl ?_
    refine tu_iload_n 78 X 1 dX4_count_78 rfl ?_
    refine tu_iconst 79 X dX4_count_79 ?_
    refine tu_isub 80 X dX4_count_80 ?_
    refine tu_iald 81 X (x := M 87 ((w - 5).toNat)) ((w - 5).toNat) dX4_count_81 (by decide) rfl (by decide) (by omega) (by omega) rfl ?_
    refine hret 82 _ _ (M 87 ((w - 5).toNat)) dX4_count_82 (fun h => by rw [hrt] at h; cases h) ?_
    first | exact ⟨_, rfl, Or.inr (Or.inr (Or.inr (Or.inr (Or.inr (Or.inl (⟨by omega, by rw [show (w - 5).toNat = 0 from by omega]; exact hR.set 0 (by decide)⟩)))))), rfl⟩ | exact ⟨_, rfl, Or.inr (Or.inr (Or.inr (Or.inr (Or.inr (Or.inr (Or.inl (⟨by omega, by rw [show (w - 5).toNat = 1 from by omega]; exact hR.set 1 (by decide)⟩))))))), rfl⟩ | exact ⟨_, rfl, Or.inr (Or.inr (Or.inr (Or.inr (Or.inr (Or.inr (Or.inr (Or.inl (⟨by omega, by rw [show (w - 5).toNat = 2 from by omega]; exact hR.set 2 (by decide)⟩)))))))), rfl⟩ | exact ⟨_, rfl, Or.inr (Or.inr (Or.inr (Or.inr (Or.inr (Or.inr (Or.inr (Or.inr (Or.inl (⟨by omega, by rw [show (w - 5).toNat = 3 from by omega]; exact hR.set 3 (by decide)⟩))))))))), rfl⟩
  ·
    refine tu_tabIn 1 X 83 dX4_count_1 (show tu_rg w from by first | assumption | exact ⟨by omega, by omega⟩) (by omega) (by omega) (by rw [br1]; rfl) (by decide) ?_
    refine tu_aload_n 83 X 0 dX4_count_83 rfl ?_
    refine tu_getI 84 X (x := M 86 6) dX4_count_84 fl_RX4_134 (by decide) rfl rfl rfl ?_
    refine hret 87 _ _ (M 86 6) dX4_count_87 (fun h => by rw [hrt] at h; cases h) ?_
    exact ⟨_, rfl, Or.inr (Or.inr (Or.inr (Or.inr (Or.inr (Or.inr (Or.inr (Or.inr (Or.inr (Or.inl (⟨by omega, rfl⟩)))))))))), rfl⟩
  ·
    refine tu_tabIn 1 X 88 dX4_count_1 (show tu_rg w from by first | assumption | exact ⟨by omega, by omega⟩) (by omega) (by omega) (by rw [br1]; rfl) (by decide) ?_
    refine tu_aload_n 88 X 0 dX4_count_88 rfl ?_
    refine tu_getI 89 X (x := M 86 2) dX4_count_89 fl_RX4_40 (by decide) rfl rfl rfl ?_
    refine hret 92 _ _ (M 86 2) dX4_count_92 (fun h => by rw [hrt] at h; cases h) ?_
    exact ⟨_, rfl, Or.inr (Or.inr (Or.inr (Or.inr (Or.inr (Or.inr (Or.inr (Or.inr (Or.inr (Or.inr (Or.inl (⟨by omega, rfl⟩))))))))))), rfl⟩
  ·
    refine tu_tabOut 1 X 93 dX4_count_1 (show tu_rg w from by first | assumption | exact ⟨by omega, by omega⟩) br1 (by decide) ?_
    refine tu_bipush 93 X dX4_count_93 (by decide) ?_
    refine hret 95 _ _ (-2) dX4_count_95 (fun h => by rw [hrt] at h; cases h) ?_
    exact ⟨_, rfl, Or.inr (Or.inr (Or.inr (Or.inr (Or.inr (Or.inr (Or.inr (Or.inr (Or.inr (Or.inr (Or.inr (⟨by omega, rfl⟩))))))))))), rfl⟩
set_option maxRecDepth 20000 in
set_option maxHeartbeats 4000000 in
theorem c_X4_at {M : tu_M} (B : Nat → Nat → Int) (w k : Int) (hO : tu_BO B) (hR : tu_MB B (M 87)) (rw : tu_rg w) (rk : tu_rg k) (hw : w = 0 ∨ w = 1) : tu_MI tu_Y_X4_at [tu_r 86, tu_i w, tu_i k] M (fun z M' => ∃ (y : Int), M' = M ∧ (((w = 0 ∧ ¬ (0 ≤ k ∧ k < B 0 7)) ∧ y = -1) ∨ ((w = 1 ∧ ¬ (0 ≤ k ∧ k < B 0 9)) ∧ y = -1) ∨ ((w = 0 ∧ 0 ≤ k ∧ k < B 0 7) ∧ y = B 6 k.toNat) ∨ ((w = 1 ∧ 0 ≤ k ∧ k < B 0 9) ∧ y = B 7 k.toNat)) ∧ z = y) := by
  have cn := hO.1
  refine tu_MI.of (ty := .int) (by decide) rfl (by first | exact Or.inl rfl | exact Or.inr rfl) (Nat.le_of_ble_eq_true rfl) (fun T (X : tu_X T cX4_at RX4 1 22) hnl hrt hret => ?_)
  have hret : tu_RI T cX4_at (fun z M' => ∃ (y : Int), M' = M ∧ (((w = 0 ∧ ¬ (0 ≤ k ∧ k < B 0 7)) ∧ y = -1) ∨ ((w = 1 ∧ ¬ (0 ≤ k ∧ k < B 0 9)) ∧ y = -1) ∨ ((w = 0 ∧ 0 ≤ k ∧ k < B 0 7) ∧ y = B 6 k.toNat) ∨ ((w = 1 ∧ 0 ≤ k ∧ k < B 0 9) ∧ y = B 7 k.toNat)) ∧ z = y) := hret
  have hnl : T.2.2.2.2.2.2.2.2.2.2.1 = 3 := hnl
  show tu_W T 0 [(0, tu_r 86), (1, tu_i w), (2, tu_i k)] [] M
  refine tu_iload_n 0 X 2 dX4_at_0 rfl ?_
  refine tu_iconst 1 X dX4_at_1 ?_
  refine tu_aload_n 2 X 0 dX4_at_2 rfl ?_
  refine tu_getR 3 X dX4_at_3 fl_RX4_7 (by decide) rfl rfl ?_
  refine tu_iload_n 6 X 1 dX4_at_6 rfl ?_
  refine tu_if_eq 7 X 15 dX4_at_7 (by decide) (show tu_rg w from by first | assumption | exact ⟨by omega, by omega⟩) (fun br7 => ?_) (fun br7 => ?_)
  ·
    refine tu_bipush 15 X dX4_at_15 (by decide) ?_
    refine tu_iald 17 X (x := M 87 6) 6 dX4_at_17 (by decide) rfl (by decide) rfl (by decide) rfl ?_
    refine tu_tp (b := (B 0 7)) (by exact hR.n6) ?_
    refine tu_iconst 18 X dX4_at_18 ?_
    refine tu_isub 19 X dX4_at_19 ?_
    refine tu_callSI 20 X (st := []) (as := [tu_i k, tu_i 0, tu_i ((B 0 7) - 1)]) (c_X4_within k 0 ((B 0 7) - 1) (show tu_rg k from by first | assumption | omega | exact ⟨by omega, by omega⟩ | decide) (show tu_rg 0 from by first | assumption | omega | exact ⟨by omega, by omega⟩ | decide) (show tu_rg ((B 0 7) - 1) from by first | assumption | omega | exact ⟨by omega, by omega⟩ | decide)) ss_RX4_48 dX4_at_20 rfl (Nat.le_of_ble_eq_true rfl) ⟨by decide, by decide⟩ (fun z M' h => ?_)
    obtain ⟨hM20, hz20⟩ := h
    refine tu_st_eq rfl (M' := M) hM20 ?_
    refine tu_tp (b := tu_b (0 ≤ k ∧ k ≤ ((B 0 7) - 1))) hz20 ?_
    refine tu_if_ne 23 X 28 dX4_at_23 (by decide) tu_b_rg (fun br23 => ?_) (fun br23 => ?_)
    ·
      have br23 := tu_b_n0 br23
      refine tu_aload_n 28 X 0 dX4_at_28 rfl ?_
      refine tu_getR 29 X dX4_at_29 fl_RX4_7 (by decide) rfl rfl ?_
      refine tu_iload_n 32 X 1 dX4_at_32 rfl ?_
      refine tu_if_eq 33 X 41 dX4_at_33 (by decide) (show tu_rg w from by first | assumption | exact ⟨by omega, by omega⟩) (fun br33 => ?_) (fun br33 => ?_)
      ·
        refine tu_bipush 41 X dX4_at_41 (by decide) ?_
        refine tu_iload_n 43 X 2 dX4_at_43 rfl ?_
        refine tu_iadd 44 X dX4_at_44 ?_
        refine tu_iald 45 X (x := M 87 ((64 + k).toNat)) ((64 + k).toNat) dX4_at_45 (by decide) rfl (by decide) (by omega) (by omega) rfl ?_
        refine hret 46 _ _ (M 87 ((64 + k).toNat)) dX4_at_46 (fun h => by rw [hrt] at h; cases h) ?_
        first | exact ⟨_, rfl, Or.inr (Or.inr (Or.inl (⟨by omega, by rw [show (64 + k).toNat = 64 + k.toNat from by omega]; exact hR.ba k.toNat (by omega)⟩))), rfl⟩ | exact ⟨_, rfl, Or.inr (Or.inr (Or.inr (⟨by omega, by rw [show (104 + k).toNat = 104 + k.toNat from by omega]; exact hR.tu k.toNat (by omega)⟩))), rfl⟩ | (exfalso; omega)
      ·
        refine tu_bipush 36 X dX4_at_36 (by decide) ?_
        refine tu_goto 38 X 43 dX4_at_38 (by decide) ?_
        refine tu_iload_n 43 X 2 dX4_at_43 rfl ?_
        refine tu_iadd 44 X dX4_at_44 ?_
        refine tu_iald 45 X (x := M 87 ((104 + k).toNat)) ((104 + k).toNat) dX4_at_45 (by decide) rfl (by decide) (by omega) (by omega) rfl ?_
        refine hret 46 _ _ (M 87 ((104 + k).toNat)) dX4_at_46 (fun h => by rw [hrt] at h; cases h) ?_
        first | exact ⟨_, rfl, Or.inr (Or.inr (Or.inl (⟨by omega, by rw [show (64 + k).toNat = 64 + k.toNat from by omega]; exact hR.ba k.toNat (by omega)⟩))), rfl⟩ | exact ⟨_, rfl, Or.inr (Or.inr (Or.inr (⟨by omega, by rw [show (104 + k).toNat = 104 + k.toNat from by omega]; exact hR.tu k.toNat (by omega)⟩))), rfl⟩ | (exfalso; omega)
    ·
      have br23 := tu_b_e0 br23
      refine tu_iconst 26 X dX4_at_26 ?_
      refine hret 27 _ _ (-1) dX4_at_27 (fun h => by rw [hrt] at h; cases h) ?_
      rcases hw with hw | hw
      · first | exact ⟨_, rfl, Or.inl (⟨by omega, rfl⟩), rfl⟩ | (exfalso; omega)
      · first | exact ⟨_, rfl, Or.inr (Or.inl (⟨by omega, rfl⟩)), rfl⟩ | (exfalso; omega)
  ·
    refine tu_bipush 10 X dX4_at_10 (by decide) ?_
    refine tu_goto 12 X 17 dX4_at_12 (by decide) ?_
    refine tu_iald 17 X (x := M 87 7) 7 dX4_at_17 (by decide) rfl (by decide) rfl (by decide) rfl ?_
    refine tu_tp (b := (B 0 9)) (by exact hR.n7) ?_
    refine tu_iconst 18 X dX4_at_18 ?_
    refine tu_isub 19 X dX4_at_19 ?_
    refine tu_callSI 20 X (st := []) (as := [tu_i k, tu_i 0, tu_i ((B 0 9) - 1)]) (c_X4_within k 0 ((B 0 9) - 1) (show tu_rg k from by first | assumption | omega | exact ⟨by omega, by omega⟩ | decide) (show tu_rg 0 from by first | assumption | omega | exact ⟨by omega, by omega⟩ | decide) (show tu_rg ((B 0 9) - 1) from by first | assumption | omega | exact ⟨by omega, by omega⟩ | decide)) ss_RX4_48 dX4_at_20 rfl (Nat.le_of_ble_eq_true rfl) ⟨by decide, by decide⟩ (fun z M' h => ?_)
    obtain ⟨hM20, hz20⟩ := h
    refine tu_st_eq rfl (M' := M) hM20 ?_
    refine tu_tp (b := tu_b (0 ≤ k ∧ k ≤ ((B 0 9) - 1))) hz20 ?_
    refine tu_if_ne 23 X 28 dX4_at_23 (by decide) tu_b_rg (fun br23 => ?_) (fun br23 => ?_)
    ·
      have br23 := tu_b_n0 br23
      refine tu_aload_n 28 X 0 dX4_at_28 rfl ?_
      refine tu_getR 29 X dX4_at_29 fl_RX4_7 (by decide) rfl rfl ?_
      refine tu_iload_n 32 X 1 dX4_at_32 rfl ?_
      refine tu_if_eq 33 X 41 dX4_at_33 (by decide) (show tu_rg w from by first | assumption | exact ⟨by omega, by omega⟩) (fun br33 => ?_) (fun br33 => ?_)
      ·
        refine tu_bipush 41 X dX4_at_41 (by decide) ?_
        refine tu_iload_n 43 X 2 dX4_at_43 rfl ?_
        refine tu_iadd 44 X dX4_at_44 ?_
        refine tu_iald 45 X (x := M 87 ((64 + k).toNat)) ((64 + k).toNat) dX4_at_45 (by decide) rfl (by decide) (by omega) (by omega) rfl ?_
        refine hret 46 _ _ (M 87 ((64 + k).toNat)) dX4_at_46 (fun h => by rw [hrt] at h; cases h) ?_
        first | exact ⟨_, rfl, Or.inr (Or.inr (Or.inl (⟨by omega, by rw [show (64 + k).toNat = 64 + k.toNat from by omega]; exact hR.ba k.toNat (by omega)⟩))), rfl⟩ | exact ⟨_, rfl, Or.inr (Or.inr (Or.inr (⟨by omega, by rw [show (104 + k).toNat = 104 + k.toNat from by omega]; exact hR.tu k.toNat (by omega)⟩))), rfl⟩ | (exfalso; omega)
      ·
        refine tu_bipush 36 X dX4_at_36 (by decide) ?_
        refine tu_goto 38 X 43 dX4_at_38 (by decide) ?_
        refine tu_iload_n 43 X 2 dX4_at_43 rfl ?_
        refine tu_iadd 44 X dX4_at_44 ?_
        refine tu_iald 45 X (x := M 87 ((104 + k).toNat)) ((104 + k).toNat) dX4_at_45 (by decide) rfl (by decide) (by omega) (by omega) rfl ?_
        refine hret 46 _ _ (M 87 ((104 + k).toNat)) dX4_at_46 (fun h => by rw [hrt] at h; cases h) ?_
        first | exact ⟨_, rfl, Or.inr (Or.inr (Or.inl (⟨by omega, by rw [show (64 + k).toNat = 64 + k.toNat from by omega]; exact hR.ba k.toNat (by omega)⟩))), rfl⟩ | exact ⟨_, rfl, Or.inr (Or.inr (Or.inr (⟨by omega, by rw [show (104 + k).toNat = 104 + k.toNat from by omega]; exact hR.tu k.toNat (by omega)⟩))), rfl⟩ | (exfalso; omega)
    ·
      have br23 := tu_b_e0 br23
      refine tu_iconst 26 X dX4_at_26 ?_
      refine hret 27 _ _ (-1) dX4_at_27 (fun h => by rw [hrt] at h; cases h) ?_
      rcases hw with hw | hw
      · first | exact ⟨_, rfl, Or.inl (⟨by omega, rfl⟩), rfl⟩ | (exfalso; omega)
      · first | exact ⟨_, rfl, Or.inr (Or.inl (⟨by omega, rfl⟩)), rfl⟩ | (exfalso; omega)
set_option maxRecDepth 20000 in
set_option maxHeartbeats 4000000 in
theorem c_X4_isStressed {M : tu_M} (B : Nat → Nat → Int) (l s : Int) (hO : tu_BO B) (hR : tu_MB B (M 87)) (rl : tu_rg l) (rs : tu_rg s) : tu_MI tu_Y_X4_isStressed [tu_r 86, tu_i l, tu_i s] M (fun z M' => ∃ (y : Int), M' = M ∧ (((¬ (0 ≤ l ∧ l < B 0 1 ∧ 0 ≤ s ∧ s < B 2 l.toNat)) ∧ y = -1) ∨ ((0 ≤ l ∧ l < B 0 1 ∧ 0 ≤ s ∧ s < B 2 l.toNat) ∧ y = B 3 ((l * 16) + s).toNat)) ∧ z = y) := by
  have cn := hO.1
  refine tu_MI.of (ty := .int) (by decide) rfl (by first | exact Or.inl rfl | exact Or.inr rfl) (Nat.le_of_ble_eq_true rfl) (fun T (X : tu_X T cX4_isStressed RX4 3 65) hnl hrt hret => ?_)
  have hret : tu_RI T cX4_isStressed (fun z M' => ∃ (y : Int), M' = M ∧ (((¬ (0 ≤ l ∧ l < B 0 1 ∧ 0 ≤ s ∧ s < B 2 l.toNat)) ∧ y = -1) ∨ ((0 ≤ l ∧ l < B 0 1 ∧ 0 ≤ s ∧ s < B 2 l.toNat) ∧ y = B 3 ((l * 16) + s).toNat)) ∧ z = y) := hret
  have hnl : T.2.2.2.2.2.2.2.2.2.2.1 = 3 := hnl
  show tu_W T 0 [(0, tu_r 86), (1, tu_i l), (2, tu_i s)] [] M
  refine tu_aload_n 0 X 0 dX4_isStressed_0 rfl ?_
  refine tu_iload_n 1 X 1 dX4_isStressed_1 rfl ?_
  refine tu_iload_n 2 X 2 dX4_isStressed_2 rfl ?_
  refine tu_callVI 3 X (st := []) (as := [tu_i l, tu_i s]) (c_X4_isSyllable B l s (show tu_BO B from by first | assumption | omega | exact ⟨by omega, by omega⟩ | decide) (show tu_MB B (M 87) from by first | assumption | omega | exact ⟨by omega, by omega⟩ | decide) (show tu_rg l from by first | assumption | omega | exact ⟨by omega, by omega⟩ | decide) (show tu_rg s from by first | assumption | omega | exact ⟨by omega, by omega⟩ | decide)) sv_RX4_153 dX4_isStressed_3 rfl (by decide) rfl rfl rfl (Nat.le_of_ble_eq_true rfl) ⟨by decide, by decide⟩ (fun z M' h => ?_)
  obtain ⟨hM3, hz3⟩ := h
  refine tu_st_eq rfl (M' := M) hM3 ?_
  refine tu_tp (b := tu_b (0 ≤ l ∧ l < B 0 1 ∧ 0 ≤ s ∧ s < B 2 l.toNat)) hz3 ?_
  refine tu_if_eq 6 X 29 dX4_isStressed_6 (by decide) tu_b_rg (fun br6 => ?_) (fun br6 => ?_)
  ·
    have br6 := tu_b_e0 br6
    refine tu_iconst 29 X dX4_isStressed_29 ?_
    refine hret 30 _ _ (-1) dX4_isStressed_30 (fun h => by rw [hrt] at h; cases h) ?_
    first | exact ⟨_, rfl, Or.inl (⟨by omega, rfl⟩), rfl⟩ | exact ⟨_, rfl, Or.inr (⟨by omega, rfl⟩), rfl⟩
  ·
    have br6 := tu_b_n0 br6
    have h9 := hO.2.1 l.toNat (by omega)
    refine tu_aload_n 9 X 0 dX4_isStressed_9 rfl ?_
    refine tu_getR 10 X dX4_isStressed_10 fl_RX4_7 (by decide) rfl rfl ?_
    refine tu_bipush 13 X dX4_isStressed_13 (by decide) ?_
    refine tu_iconst 15 X dX4_isStressed_15 ?_
    refine tu_iload_n 16 X 1 dX4_isStressed_16 rfl ?_
    refine tu_imul 17 X dX4_isStressed_17 ?_
    refine tu_iadd 18 X dX4_isStressed_18 ?_
    refine tu_iconst 19 X dX4_isStressed_19 ?_
    refine tu_iadd 20 X dX4_isStressed_20 ?_
    refine tu_iald 21 X (x := M 87 (((8 + (2 * l)) + 1).toNat)) (((8 + (2 * l)) + 1).toNat) dX4_isStressed_21 (by decide) rfl (by decide) (by omega) (by omega) rfl ?_
    refine tu_iload_n 22 X 2 dX4_isStressed_22 rfl ?_
    refine tu_ishr 23 X dX4_isStressed_23 ?_
    refine tu_iconst 24 X dX4_isStressed_24 ?_
    refine tu_iand 25 X dX4_isStressed_25 ?_
    refine tu_tp (b := (B 3 ((l * 16) + s).toNat)) (by exact tu_MB.bs hO hR (by omega) (by omega) (by omega) (by omega)) ?_
    refine tu_goto 26 X 30 dX4_isStressed_26 (by decide) ?_
    refine hret 30 _ _ (B 3 ((l * 16) + s).toNat) dX4_isStressed_30 (fun h => by rw [hrt] at h; cases h) ?_
    first | exact ⟨_, rfl, Or.inl (⟨by omega, rfl⟩), rfl⟩ | exact ⟨_, rfl, Or.inr (⟨by omega, rfl⟩), rfl⟩
set_option maxRecDepth 20000 in
set_option maxHeartbeats 4000000 in
theorem c_X4_kindOf {M : tu_M} (B : Nat → Nat → Int) (l s : Int) (hO : tu_BO B) (hR : tu_MB B (M 87)) (rl : tu_rg l) (rs : tu_rg s) : tu_MI tu_Y_X4_kindOf [tu_r 86, tu_i l, tu_i s] M (fun z M' => ∃ (y : Int), M' = M ∧ (((¬ (0 ≤ l ∧ l < B 0 4 ∧ 0 ≤ s ∧ s < B 4 l.toNat)) ∧ y = -1) ∨ ((0 ≤ l ∧ l < B 0 4 ∧ 0 ≤ s ∧ s < B 4 l.toNat) ∧ y = B 5 ((l * 24) + s).toNat)) ∧ z = y) := by
  have cn := hO.1
  refine tu_MI.of (ty := .int) (by decide) rfl (by first | exact Or.inl rfl | exact Or.inr rfl) (Nat.le_of_ble_eq_true rfl) (fun T (X : tu_X T cX4_kindOf RX4 3 65) hnl hrt hret => ?_)
  have hret : tu_RI T cX4_kindOf (fun z M' => ∃ (y : Int), M' = M ∧ (((¬ (0 ≤ l ∧ l < B 0 4 ∧ 0 ≤ s ∧ s < B 4 l.toNat)) ∧ y = -1) ∨ ((0 ≤ l ∧ l < B 0 4 ∧ 0 ≤ s ∧ s < B 4 l.toNat) ∧ y = B 5 ((l * 24) + s).toNat)) ∧ z = y) := hret
  have hnl : T.2.2.2.2.2.2.2.2.2.2.1 = 3 := hnl
  show tu_W T 0 [(0, tu_r 86), (1, tu_i l), (2, tu_i s)] [] M
  refine tu_aload_n 0 X 0 dX4_kindOf_0 rfl ?_
  refine tu_iload_n 1 X 1 dX4_kindOf_1 rfl ?_
  refine tu_iload_n 2 X 2 dX4_kindOf_2 rfl ?_
  refine tu_callVI 3 X (st := []) (as := [tu_i l, tu_i s]) (c_X4_isBeat B l s (show tu_BO B from by first | assumption | omega | exact ⟨by omega, by omega⟩ | decide) (show tu_MB B (M 87) from by first | assumption | omega | exact ⟨by omega, by omega⟩ | decide) (show tu_rg l from by first | assumption | omega | exact ⟨by omega, by omega⟩ | decide) (show tu_rg s from by first | assumption | omega | exact ⟨by omega, by omega⟩ | decide)) sv_RX4_156 dX4_kindOf_3 rfl (by decide) rfl rfl rfl (Nat.le_of_ble_eq_true rfl) ⟨by decide, by decide⟩ (fun z M' h => ?_)
  obtain ⟨hM3, hz3⟩ := h
  refine tu_st_eq rfl (M' := M) hM3 ?_
  refine tu_tp (b := tu_b (0 ≤ l ∧ l < B 0 4 ∧ 0 ≤ s ∧ s < B 4 l.toNat)) hz3 ?_
  refine tu_if_eq 6 X 18 dX4_kindOf_6 (by decide) tu_b_rg (fun br6 => ?_) (fun br6 => ?_)
  ·
    have br6 := tu_b_e0 br6
    refine tu_iconst 18 X dX4_kindOf_18 ?_
    refine hret 19 _ _ (-1) dX4_kindOf_19 (fun h => by rw [hrt] at h; cases h) ?_
    first | exact ⟨_, rfl, Or.inl (⟨by omega, rfl⟩), rfl⟩ | exact ⟨_, rfl, Or.inr (⟨by omega, by rw [show ((l * 24) + s).toNat = l.toNat * 24 + s.toNat from by omega]⟩), rfl⟩
  ·
    have br6 := tu_b_n0 br6
    have h9 := hO.2.2.2.1 l.toNat (by omega)
    refine tu_aload_n 9 X 0 dX4_kindOf_9 rfl ?_
    refine tu_iload_n 10 X 1 dX4_kindOf_10 rfl ?_
    refine tu_iload_n 11 X 2 dX4_kindOf_11 rfl ?_
    refine tu_st_eq (show _ = [tu_i ((s.toNat : Nat) : Int), tu_i ((l.toNat : Nat) : Int), tu_r 86] from by first | rfl | (simp only [List.cons.injEq, Sum.inl.injEq, and_true, true_and]; omega)) rfl ?_
    refine tu_callVI 12 X (st := []) (as := [tu_i ((l.toNat : Nat) : Int), tu_i ((s.toNat : Nat) : Int)]) (c_X4_kindAt B l.toNat s.toNat (show tu_BO B from by first | assumption | omega | exact ⟨by omega, by omega⟩ | decide) (show tu_MB B (M 87) from by first | assumption | omega | exact ⟨by omega, by omega⟩ | decide) (show (l.toNat : Int) < B 0 4 from by first | assumption | omega | exact ⟨by omega, by omega⟩ | decide) (show (s.toNat : Int) < B 4 l.toNat from by first | assumption | omega | exact ⟨by omega, by omega⟩ | decide)) sv_RX4_159 dX4_kindOf_12 rfl (by decide) rfl rfl rfl (Nat.le_of_ble_eq_true rfl) ⟨by decide, by decide⟩ (fun z M' h => ?_)
    obtain ⟨hM12, hz12⟩ := h
    refine tu_st_eq rfl (M' := M) hM12 ?_
    refine tu_tp (b := (B 5 (l.toNat * 24 + s.toNat))) hz12 ?_
    refine tu_goto 15 X 19 dX4_kindOf_15 (by decide) ?_
    refine hret 19 _ _ (B 5 (l.toNat * 24 + s.toNat)) dX4_kindOf_19 (fun h => by rw [hrt] at h; cases h) ?_
    first | exact ⟨_, rfl, Or.inl (⟨by omega, rfl⟩), rfl⟩ | exact ⟨_, rfl, Or.inr (⟨by omega, by rw [show ((l * 24) + s).toNat = l.toNat * 24 + s.toNat from by omega]⟩), rfl⟩
set_option maxRecDepth 20000 in
set_option maxHeartbeats 4000000 in
theorem c_X4_longestRow {M : tu_M} (B : Nat → Nat → Int) (p : Nat) (hO : tu_BO B) (hR : tu_MB B (M 87)) (hp : (p : Int) < B 0 4) : tu_MI tu_Y_X4_longestRow [tu_r 86, tu_i ((p : Nat) : Int)] M (fun z M' => M' = M ∧ z = tu_lg (fun q => B 5 (p * 24 + q)) (B 4 p).toNat) := by
  have cn := hO.1
  have h3 := hO.2.2.2.1 p hp
  refine tu_MI.of (ty := .int) (by decide) rfl (by first | exact Or.inl rfl | exact Or.inr rfl) (Nat.le_of_ble_eq_true rfl) (fun T (X : tu_X T cX4_longestRow RX4 2 43) hnl hrt hret => ?_)
  have hret : tu_RI T cX4_longestRow (fun z M' => M' = M ∧ z = tu_lg (fun q => B 5 (p * 24 + q)) (B 4 p).toNat) := hret
  have hnl : T.2.2.2.2.2.2.2.2.2.2.1 = 5 := hnl
  show tu_W T 0 [(0, tu_r 86), (1, tu_i ((p : Nat) : Int))] [] M
  refine tu_iconst 0 X dX4_longestRow_0 ?_
  refine tu_istore_n 1 X (lv' := [(2, tu_i 0), (0, tu_r 86), (1, tu_i ((p : Nat) : Int))]) dX4_longestRow_1 (by rw [hnl]; decide) rfl ?_
  refine tu_iconst 2 X dX4_longestRow_2 ?_
  refine tu_istore_n 3 X (lv' := [(3, tu_i 0), (2, tu_i 0), (0, tu_r 86), (1, tu_i ((p : Nat) : Int))]) dX4_longestRow_3 (by rw [hnl]; decide) rfl ?_
  refine tu_iconst 4 X dX4_longestRow_4 ?_
  refine tu_istore 5 X (lv' := [(4, tu_i 0), (3, tu_i 0), (2, tu_i 0), (0, tu_r 86), (1, tu_i ((p : Nat) : Int))]) dX4_longestRow_5 (by rw [hnl]; decide) rfl ?_
  have lp7 : ∀ (nq : Nat) (k : Nat), ((k : Int) ≤ B 4 p) → (B 4 p).toNat - k < nq → tu_W T 7 [(0, tu_r 86), (1, tu_i ((p : Nat) : Int)), (2, tu_i (tu_lg (fun q => B 5 (p * 24 + q)) k)), (3, tu_i (tu_rn (fun q => B 5 (p * 24 + q)) k)), (4, tu_i ((k : Nat) : Int))] [] M := by
    intro nq
    induction nq with
    | zero => intros; omega
    | succ nq ih7 =>
      intro k hk hn7
      have e3 := tu_lg_le (fun q => B 5 (p * 24 + q)) k
      have e4 := tu_rn_le (fun q => B 5 (p * 24 + q)) k
      refine tu_iload 7 X 4 dX4_longestRow_7 rfl ?_
      refine tu_aload_n 9 X 0 dX4_longestRow_9 rfl ?_
      refine tu_iload_n 10 X 1 dX4_longestRow_10 rfl ?_
      refine tu_callVI 11 X (st := [tu_i ((k : Nat) : Int)]) (as := [tu_i ((p : Nat) : Int)]) (c_X4_phraseLength B p (show tu_BO B from by first | assumption | omega | exact ⟨by omega, by omega⟩ | decide) (show tu_MB B (M 87) from by first | assumption | omega | exact ⟨by omega, by omega⟩ | decide) (show (p : Int) < B 0 4 from by first | assumption | omega | exact ⟨by omega, by omega⟩ | decide)) sv_RX4_63 dX4_longestRow_11 rfl (by decide) rfl rfl rfl (Nat.le_of_ble_eq_true rfl) ⟨by decide, by decide⟩ (fun z M' h => ?_)
      obtain ⟨hM11, hz11⟩ := h
      refine tu_st_eq rfl (M' := M) hM11 ?_
      refine tu_tp (b := (B 4 p)) hz11 ?_
      refine tu_icmp_ge 14 X 52 dX4_longestRow_14 (by decide) (show tu_rg ((k : Nat) : Int) from by first | assumption | exact ⟨by omega, by omega⟩) (show tu_rg (B 4 p) from by first | assumption | exact ⟨by omega, by omega⟩) (fun br14 => ?_) (fun br14 => ?_)
      ·
        refine tu_iload_n 52 X 2 dX4_longestRow_52 rfl ?_
        refine hret 53 _ _ (tu_lg (fun q => B 5 (p * 24 + q)) k) dX4_longestRow_53 (fun h => by rw [hrt] at h; cases h) ?_
        exact ⟨rfl, by rw [show (B 4 p).toNat = k from by omega]⟩
      ·
        have e2 := hO.2.2.2.2.1 p k hp (by omega)
        refine tu_aload_n 17 X 0 dX4_longestRow_17 rfl ?_
        refine tu_iload_n 18 X 1 dX4_longestRow_18 rfl ?_
        refine tu_iload 19 X 4 dX4_longestRow_19 rfl ?_
        refine tu_callVI 21 X (st := []) (as := [tu_i ((p : Nat) : Int), tu_i ((k : Nat) : Int)]) (c_X4_kindAt B p k (show tu_BO B from by first | assumption | omega | exact ⟨by omega, by omega⟩ | decide) (show tu_MB B (M 87) from by first | assumption | omega | exact ⟨by omega, by omega⟩ | decide) (show (p : Int) < B 0 4 from by first | assumption | omega | exact ⟨by omega, by omega⟩ | decide) (show (k : Int) < B 4 p from by first | assumption | omega | exact ⟨by omega, by omega⟩ | decide)) sv_RX4_159 dX4_longestRow_21 rfl (by decide) rfl rfl rfl (Nat.le_of_ble_eq_true rfl) ⟨by decide, by decide⟩ (fun z M' h => ?_)
        obtain ⟨hM21, hz21⟩ := h
        refine tu_st_eq rfl (M' := M) hM21 ?_
        refine tu_tp (b := (B 5 (p * 24 + k))) hz21 ?_
        refine tu_if_ne 24 X 31 dX4_longestRow_24 (by decide) (show tu_rg (B 5 (p * 24 + k)) from by first | assumption | exact ⟨by omega, by omega⟩) (fun br24 => ?_) (fun br24 => ?_)
        ·
          refine tu_iload_n 31 X 3 dX4_longestRow_31 rfl ?_
          refine tu_iconst 32 X dX4_longestRow_32 ?_
          refine tu_iadd 33 X dX4_longestRow_33 ?_
          refine tu_istore_n 34 X (lv' := [(3, tu_i (tu_rn (fun q => B 5 (p * 24 + q)) k + 1)), (0, tu_r 86), (1, tu_i ((p : Nat) : Int)), (2, tu_i (tu_lg (fun q => B 5 (p * 24 + q)) k)), (4, tu_i ((k : Nat) : Int))]) dX4_longestRow_34 (by rw [hnl]; decide) rfl ?_
          refine tu_iload_n 35 X 0 dX4_longestRow_35 rfl ?_
          refine tu_iload_n 36 X 3 dX4_longestRow_36 rfl ?_
          refine tu_icmp_le 37 X 44 dX4_longestRow_37 (by decide) (show tu_rg (tu_rn (fun q => B 5 (p * 24 + q)) k + 1) from by first | assumption | exact ⟨by omega, by omega⟩) (show tu_rg (tu_lg (fun q => B 5 (p * 24 + q)) k) from by first | assumption | exact ⟨by omega, by omega⟩) (fun br37 => ?_) (fun br37 => ?_)
          ·
            refine tu_iload_n 44 X 3 dX4_longestRow_44 rfl ?_
            refine tu_istore_n 45 X (lv' := [(2, tu_i (tu_lg (fun q => B 5 (p * 24 + q)) k)), (3, tu_i (tu_rn (fun q => B 5 (p * 24 + q)) k + 1)), (0, tu_r 86), (1, tu_i ((p : Nat) : Int)), (4, tu_i ((k : Nat) : Int))]) dX4_longestRow_45 (by rw [hnl]; decide) rfl ?_
            refine tu_iinc 46 X (lv' := [(4, tu_i (((k : Nat) : Int) + 1)), (2, tu_i (tu_lg (fun q => B 5 (p * 24 + q)) k)), (3, tu_i (tu_rn (fun q => B 5 (p * 24 + q)) k + 1)), (0, tu_r 86), (1, tu_i ((p : Nat) : Int))]) 4 dX4_longestRow_46 rfl (by rw [hnl]; decide) rfl ?_
            refine tu_goto 49 X 7 dX4_longestRow_49 (by decide) ?_
            refine tu_jmp [3, 4, 1, 2, 0] (lv' := [(0, tu_r 86), (1, tu_i ((p : Nat) : Int)), (2, tu_i (tu_lg (fun q => B 5 (p * 24 + q)) (k + 1))), (3, tu_i (tu_rn (fun q => B 5 (p * 24 + q)) (k + 1))), (4, tu_i (((k + 1) : Nat) : Int))]) ⟨rfl, rfl, tu_ei (by first | rfl | (simp only [tu_lg, tu_rn]; split <;> omega)), tu_ei (by first | rfl | (simp only [tu_rn]; split <;> omega)), tu_ei (by first | rfl | omega), trivial⟩ rfl (ih7 (k + 1) (by first | assumption | omega) (by omega))
          ·
            refine tu_iload_n 40 X 0 dX4_longestRow_40 rfl ?_
            refine tu_goto 41 X 45 dX4_longestRow_41 (by decide) ?_
            refine tu_istore_n 45 X (lv' := [(2, tu_i (tu_rn (fun q => B 5 (p * 24 + q)) k + 1)), (3, tu_i (tu_rn (fun q => B 5 (p * 24 + q)) k + 1)), (0, tu_r 86), (1, tu_i ((p : Nat) : Int)), (4, tu_i ((k : Nat) : Int))]) dX4_longestRow_45 (by rw [hnl]; decide) rfl ?_
            refine tu_iinc 46 X (lv' := [(4, tu_i (((k : Nat) : Int) + 1)), (2, tu_i (tu_rn (fun q => B 5 (p * 24 + q)) k + 1)), (3, tu_i (tu_rn (fun q => B 5 (p * 24 + q)) k + 1)), (0, tu_r 86), (1, tu_i ((p : Nat) : Int))]) 4 dX4_longestRow_46 rfl (by rw [hnl]; decide) rfl ?_
            refine tu_goto 49 X 7 dX4_longestRow_49 (by decide) ?_
            refine tu_jmp [3, 4, 1, 2, 0] (lv' := [(0, tu_r 86), (1, tu_i ((p : Nat) : Int)), (2, tu_i (tu_lg (fun q => B 5 (p * 24 + q)) (k + 1))), (3, tu_i (tu_rn (fun q => B 5 (p * 24 + q)) (k + 1))), (4, tu_i (((k + 1) : Nat) : Int))]) ⟨rfl, rfl, tu_ei (by first | rfl | (simp only [tu_lg, tu_rn]; split <;> omega)), tu_ei (by first | rfl | (simp only [tu_rn]; split <;> omega)), tu_ei (by first | rfl | omega), trivial⟩ rfl (ih7 (k + 1) (by first | assumption | omega) (by omega))
        ·
          refine tu_iconst 27 X dX4_longestRow_27 ?_
          refine tu_goto 28 X 34 dX4_longestRow_28 (by decide) ?_
          refine tu_istore_n 34 X (lv' := [(3, tu_i 0), (0, tu_r 86), (1, tu_i ((p : Nat) : Int)), (2, tu_i (tu_lg (fun q => B 5 (p * 24 + q)) k)), (4, tu_i ((k : Nat) : Int))]) dX4_longestRow_34 (by rw [hnl]; decide) rfl ?_
          refine tu_iload_n 35 X 0 dX4_longestRow_35 rfl ?_
          refine tu_iload_n 36 X 3 dX4_longestRow_36 rfl ?_
          refine tu_icmp_le 37 X 44 dX4_longestRow_37 (by decide) ⟨by decide, by decide⟩ (show tu_rg (tu_lg (fun q => B 5 (p * 24 + q)) k) from by first | assumption | exact ⟨by omega, by omega⟩) (fun br37 => ?_) (fun br37 => ?_)
          ·
            refine tu_iload_n 44 X 3 dX4_longestRow_44 rfl ?_
            refine tu_istore_n 45 X (lv' := [(2, tu_i (tu_lg (fun q => B 5 (p * 24 + q)) k)), (3, tu_i 0), (0, tu_r 86), (1, tu_i ((p : Nat) : Int)), (4, tu_i ((k : Nat) : Int))]) dX4_longestRow_45 (by rw [hnl]; decide) rfl ?_
            refine tu_iinc 46 X (lv' := [(4, tu_i (((k : Nat) : Int) + 1)), (2, tu_i (tu_lg (fun q => B 5 (p * 24 + q)) k)), (3, tu_i 0), (0, tu_r 86), (1, tu_i ((p : Nat) : Int))]) 4 dX4_longestRow_46 rfl (by rw [hnl]; decide) rfl ?_
            refine tu_goto 49 X 7 dX4_longestRow_49 (by decide) ?_
            refine tu_jmp [3, 4, 1, 2, 0] (lv' := [(0, tu_r 86), (1, tu_i ((p : Nat) : Int)), (2, tu_i (tu_lg (fun q => B 5 (p * 24 + q)) (k + 1))), (3, tu_i (tu_rn (fun q => B 5 (p * 24 + q)) (k + 1))), (4, tu_i (((k + 1) : Nat) : Int))]) ⟨rfl, rfl, tu_ei (by first | rfl | (simp only [tu_lg, tu_rn]; split <;> omega)), tu_ei (by first | rfl | (simp only [tu_rn]; split <;> omega)), tu_ei (by first | rfl | omega), trivial⟩ rfl (ih7 (k + 1) (by first | assumption | omega) (by omega))
          ·
            refine tu_iload_n 40 X 0 dX4_longestRow_40 rfl ?_
            refine tu_goto 41 X 45 dX4_longestRow_41 (by decide) ?_
            refine tu_istore_n 45 X (lv' := [(2, tu_i 0), (3, tu_i 0), (0, tu_r 86), (1, tu_i ((p : Nat) : Int)), (4, tu_i ((k : Nat) : Int))]) dX4_longestRow_45 (by rw [hnl]; decide) rfl ?_
            refine tu_iinc 46 X (lv' := [(4, tu_i (((k : Nat) : Int) + 1)), (2, tu_i 0), (3, tu_i 0), (0, tu_r 86), (1, tu_i ((p : Nat) : Int))]) 4 dX4_longestRow_46 rfl (by rw [hnl]; decide) rfl ?_
            refine tu_goto 49 X 7 dX4_longestRow_49 (by decide) ?_
            refine tu_jmp [3, 4, 1, 2, 0] (lv' := [(0, tu_r 86), (1, tu_i ((p : Nat) : Int)), (2, tu_i (tu_lg (fun q => B 5 (p * 24 + q)) (k + 1))), (3, tu_i (tu_rn (fun q => B 5 (p * 24 + q)) (k + 1))), (4, tu_i (((k + 1) : Nat) : Int))]) ⟨rfl, rfl, tu_ei (by first | rfl | (simp only [tu_lg, tu_rn]; split <;> omega)), tu_ei (by first | rfl | (simp only [tu_rn]; split <;> omega)), tu_ei (by first | rfl | omega), trivial⟩ rfl (ih7 (k + 1) (by first | assumption | omega) (by omega))
  refine tu_jmp [3, 4, 2, 1, 0] (lv' := [(0, tu_r 86), (1, tu_i ((p : Nat) : Int)), (2, tu_i (tu_lg (fun q => B 5 (p * 24 + q)) 0)), (3, tu_i (tu_rn (fun q => B 5 (p * 24 + q)) 0)), (4, tu_i 0)]) ⟨rfl, rfl, tu_ei (by first | rfl | (simp only [tu_lg, tu_rn]; split <;> omega)), tu_ei (by first | rfl | (simp only [tu_rn]; split <;> omega)), rfl, trivial⟩ rfl (lp7 (((B 4 p).toNat - 0) + 1) 0 (by first | assumption | omega) (by omega))
set_option maxRecDepth 20000 in
set_option maxHeartbeats 4000000 in
theorem c_X4_phrase {M : tu_M} (B : Nat → Nat → Int) (p w : Int) (hO : tu_BO B) (hR : tu_MB B (M 87)) (rp : tu_rg p) (rw : tu_rg w) : tu_MI tu_Y_X4_phrase [tu_r 86, tu_i p, tu_i w] M (fun z M' => ∃ (y : Int), M' = M ∧ (((¬ (0 ≤ p ∧ p < B 0 4)) ∧ y = -1) ∨ (((0 ≤ p ∧ p < B 0 4) ∧ w = 0) ∧ y = B 4 p.toNat) ∨ (((0 ≤ p ∧ p < B 0 4) ∧ w = 1) ∧ y = tu_ti (fun q => B 5 (p.toNat * 24 + q)) 2 (B 4 p.toNat).toNat) ∨ (((0 ≤ p ∧ p < B 0 4) ∧ w = 2) ∧ y = tu_ti (fun q => B 5 (p.toNat * 24 + q)) 1 (B 4 p.toNat).toNat) ∨ (((0 ≤ p ∧ p < B 0 4) ∧ w = 3) ∧ y = tu_ti (fun q => B 5 (p.toNat * 24 + q)) 0 (B 4 p.toNat).toNat) ∨ (((0 ≤ p ∧ p < B 0 4) ∧ w = 4) ∧ y = tu_ti (B 7) p (B 0 9).toNat) ∨ (((0 ≤ p ∧ p < B 0 4) ∧ w = 5) ∧ y = tu_lg (fun q => B 5 (p.toNat * 24 + q)) (B 4 p.toNat).toNat) ∨ (((0 ≤ p ∧ p < B 0 4) ∧ (w < 0 ∨ 5 < w)) ∧ y = -2)) ∧ z = y) := by
  have cn := hO.1
  refine tu_MI.of (ty := .int) (by decide) rfl (by first | exact Or.inl rfl | exact Or.inr rfl) (Nat.le_of_ble_eq_true rfl) (fun T (X : tu_X T cX4_phrase RX4 3 67) hnl hrt hret => ?_)
  have hret : tu_RI T cX4_phrase (fun z M' => ∃ (y : Int), M' = M ∧ (((¬ (0 ≤ p ∧ p < B 0 4)) ∧ y = -1) ∨ (((0 ≤ p ∧ p < B 0 4) ∧ w = 0) ∧ y = B 4 p.toNat) ∨ (((0 ≤ p ∧ p < B 0 4) ∧ w = 1) ∧ y = tu_ti (fun q => B 5 (p.toNat * 24 + q)) 2 (B 4 p.toNat).toNat) ∨ (((0 ≤ p ∧ p < B 0 4) ∧ w = 2) ∧ y = tu_ti (fun q => B 5 (p.toNat * 24 + q)) 1 (B 4 p.toNat).toNat) ∨ (((0 ≤ p ∧ p < B 0 4) ∧ w = 3) ∧ y = tu_ti (fun q => B 5 (p.toNat * 24 + q)) 0 (B 4 p.toNat).toNat) ∨ (((0 ≤ p ∧ p < B 0 4) ∧ w = 4) ∧ y = tu_ti (B 7) p (B 0 9).toNat) ∨ (((0 ≤ p ∧ p < B 0 4) ∧ w = 5) ∧ y = tu_lg (fun q => B 5 (p.toNat * 24 + q)) (B 4 p.toNat).toNat) ∨ (((0 ≤ p ∧ p < B 0 4) ∧ (w < 0 ∨ 5 < w)) ∧ y = -2)) ∧ z = y) := hret
  have hnl : T.2.2.2.2.2.2.2.2.2.2.1 = 5 := hnl
  show tu_W T 0 [(0, tu_r 86), (1, tu_i p), (2, tu_i w)] [] M
  refine tu_aload_n 0 X 0 dX4_phrase_0 rfl ?_
  refine tu_iload_n 1 X 1 dX4_phrase_1 rfl ?_
  refine tu_callVI 2 X (st := []) (as := [tu_i p]) (c_X4_isPhrase B p (show tu_BO B from by first | assumption | omega | exact ⟨by omega, by omega⟩ | decide) (show tu_MB B (M 87) from by first | assumption | omega | exact ⟨by omega, by omega⟩ | decide) (show tu_rg p from by first | assumption | omega | exact ⟨by omega, by omega⟩ | decide)) sv_RX4_60 dX4_phrase_2 rfl (by decide) rfl rfl rfl (Nat.le_of_ble_eq_true rfl) ⟨by decide, by decide⟩ (fun z M' h => ?_)
  obtain ⟨hM2, hz2⟩ := h
  refine tu_st_eq rfl (M' := M) hM2 ?_
  refine tu_tp (b := tu_b (0 ≤ p ∧ p < B 0 4)) hz2 ?_
  refine tu_if_ne 5 X 10 dX4_phrase_5 (by decide) tu_b_rg (fun br5 => ?_) (fun br5 => ?_)
  ·
    have br5 := tu_b_n0 br5
    have h3 := hO.2.2.2.1 p.toNat (by omega)
    have h5 := fun b hb => hO.2.2.2.2.1 p.toNat b (by omega) hb
    have k9 := tu_kinds (f := fun q => B 5 (p.toNat * 24 + q)) (B 4 p.toNat).toNat (fun b hb => h5 b (by omega))
    refine tu_aload_n 10 X 0 dX4_phrase_10 rfl ?_
    refine tu_getR 11 X dX4_phrase_11 fl_RX4_7 (by decide) rfl rfl ?_
    refine tu_bipush 14 X dX4_phrase_14 (by decide) ?_
    refine tu_iconst 16 X dX4_phrase_16 ?_
    refine tu_iload_n 17 X 1 dX4_phrase_17 rfl ?_
    refine tu_imul 18 X dX4_phrase_18 ?_
    refine tu_iadd 19 X dX4_phrase_19 ?_
    refine tu_iconst 20 X dX4_phrase_20 ?_
    refine tu_iadd 21 X dX4_phrase_21 ?_
    refine tu_iald 22 X (x := M 87 (((40 + (3 * p)) + 1).toNat)) (((40 + (3 * p)) + 1).toNat) dX4_phrase_22 (by decide) rfl (by decide) (by omega) (by omega) rfl ?_
    refine tu_callSI 23 X (st := []) (as := [tu_i (M 87 (((40 + (3 * p)) + 1).toNat))]) (c_X4_bits (M 87 (((40 + (3 * p)) + 1).toNat)) ) ss_RX4_125 dX4_phrase_23 rfl (Nat.le_of_ble_eq_true rfl) ⟨by decide, by decide⟩ (fun z M' h => ?_)
    obtain ⟨hM23, hz23⟩ := h
    refine tu_st_eq rfl (M' := M) hM23 ?_
    refine tu_tp (b := (tu_sm (fun i9 => tu_bi (M 87 (((40 + (3 * p)) + 1).toNat)) i9) 24)) hz23 ?_
    refine tu_tp (b := (tu_ti (fun q => B 5 (p.toNat * 24 + q)) 2 (B 4 p.toNat).toNat)) (by rw [show (((40 + (3 * p)) + 1)).toNat = 40 + 3 * p.toNat + 1 from by omega]; exact tu_bits_k (hR.k2 p.toNat (by omega)) (by omega)) ?_
    refine tu_istore_n 26 X (lv' := [(3, tu_i (tu_ti (fun q => B 5 (p.toNat * 24 + q)) 2 (B 4 p.toNat).toNat)), (0, tu_r 86), (1, tu_i p), (2, tu_i w)]) dX4_phrase_26 (by rw [hnl]; decide) rfl ?_
    refine tu_aload_n 27 X 1 dX4_phrase_27 rfl ?_
    refine tu_getR 28 X dX4_phrase_28 fl_RX4_7 (by decide) rfl rfl ?_
    refine tu_bipush 31 X dX4_phrase_31 (by decide) ?_
    refine tu_iconst 33 X dX4_phrase_33 ?_
    refine tu_iload_n 34 X 2 dX4_phrase_34 rfl ?_
    refine tu_imul 35 X dX4_phrase_35 ?_
    refine tu_iadd 36 X dX4_phrase_36 ?_
    refine tu_iconst 37 X dX4_phrase_37 ?_
    refine tu_iadd 38 X dX4_phrase_38 ?_
    refine tu_iald 39 X (x := M 87 (((40 + (3 * p)) + 2).toNat)) (((40 + (3 * p)) + 2).toNat) dX4_phrase_39 (by decide) rfl (by decide) (by omega) (by omega) rfl ?_
    refine tu_callSI 40 X (st := []) (as := [tu_i (M 87 (((40 + (3 * p)) + 2).toNat))]) (c_X4_bits (M 87 (((40 + (3 * p)) + 2).toNat)) ) ss_RX4_125 dX4_phrase_40 rfl (Nat.le_of_ble_eq_true rfl) ⟨by decide, by decide⟩ (fun z M' h => ?_)
    obtain ⟨hM40, hz40⟩ := h
    refine tu_st_eq rfl (M' := M) hM40 ?_
    refine tu_tp (b := (tu_sm (fun i9 => tu_bi (M 87 (((40 + (3 * p)) + 2).toNat)) i9) 24)) hz40 ?_
    refine tu_tp (b := (tu_ti (fun q => B 5 (p.toNat * 24 + q)) 1 (B 4 p.toNat).toNat)) (by rw [show (((40 + (3 * p)) + 2)).toNat = 40 + 3 * p.toNat + 2 from by omega]; exact tu_bits_k (hR.k1 p.toNat (by omega)) (by omega)) ?_
    refine tu_istore 43 X (lv' := [(4, tu_i (tu_ti (fun q => B 5 (p.toNat * 24 + q)) 1 (B 4 p.toNat).toNat)), (3, tu_i (tu_ti (fun q => B 5 (p.toNat * 24 + q)) 2 (B 4 p.toNat).toNat)), (0, tu_r 86), (1, tu_i p), (2, tu_i w)]) dX4_phrase_43 (by rw [hnl]; decide) rfl ?_
    refine tu_iload_n 45 X 4 dX4_phrase_45 rfl ?_
    rcases (show w = 0 ∨ w = 1 ∨ w = 2 ∨ w = 3 ∨ w = 4 ∨ w = 5 ∨ (w < 0 ∨ 5 < w) from by omega) with br46 | br46 | br46 | br46 | br46 | br46 | br46
    ·
      refine tu_tabIn 46 X 84 dX4_phrase_46 (show tu_rg w from by first | assumption | exact ⟨by omega, by omega⟩) (by omega) (by omega) (by rw [br46]; rfl) (by decide) ?_
      refine tu_aload_n 84 X 2 dX4_phrase_84 rfl ?_
      refine tu_iload_n 85 X 3 dX4_phrase_85 rfl ?_
      refine tu_st_eq (show _ = [tu_i ((p.toNat : Nat) : Int), tu_r 86] from by first | rfl | (simp only [List.cons.injEq, Sum.inl.injEq, and_true, true_and]; omega)) rfl ?_
      refine tu_callVI 86 X (st := []) (as := [tu_i ((p.toNat : Nat) : Int)]) (c_X4_phraseLength B p.toNat (show tu_BO B from by first | assumption | omega | exact ⟨by omega, by omega⟩ | decide) (show tu_MB B (M 87) from by first | assumption | omega | exact ⟨by omega, by omega⟩ | decide) (show (p.toNat : Int) < B 0 4 from by first | assumption | omega | exact ⟨by omega, by omega⟩ | decide)) sv_RX4_63 dX4_phrase_86 rfl (by decide) rfl rfl rfl (Nat.le_of_ble_eq_true rfl) ⟨by decide, by decide⟩ (fun z M' h => ?_)
      obtain ⟨hM86, hz86⟩ := h
      refine tu_st_eq rfl (M' := M) hM86 ?_
      refine tu_tp (b := (B 4 p.toNat)) hz86 ?_
      refine hret 89 _ _ (B 4 p.toNat) dX4_phrase_89 (fun h => by rw [hrt] at h; cases h) ?_
      exact ⟨_, rfl, Or.inr (Or.inl (⟨by omega, rfl⟩)), rfl⟩
    ·
      refine tu_tabIn 46 X 90 dX4_phrase_46 (show tu_rg w from by first | assumption | exact ⟨by omega, by omega⟩) (by omega) (by omega) (by rw [br46]; rfl) (by decide) ?_
      refine tu_iload_n 90 X 1 dX4_phrase_90 rfl ?_
      refine hret 91 _ _ (tu_ti (fun q => B 5 (p.toNat * 24 + q)) 2 (B 4 p.toNat).toNat) dX4_phrase_91 (fun h => by rw [hrt] at h; cases h) ?_
      exact ⟨_, rfl, Or.inr (Or.inr (Or.inl (⟨by omega, rfl⟩))), rfl⟩
    ·
      refine tu_tabIn 46 X 92 dX4_phrase_46 (show tu_rg w from by first | assumption | exact ⟨by omega, by omega⟩) (by omega) (by omega) (by rw [br46]; rfl) (by decide) ?_
      refine tu_iload 92 X 0 dX4_phrase_92 rfl ?_
      refine hret 94 _ _ (tu_ti (fun q => B 5 (p.toNat * 24 + q)) 1 (B 4 p.toNat).toNat) dX4_phrase_94 (fun h => by rw [hrt] at h; cases h) ?_
      exact ⟨_, rfl, Or.inr (Or.inr (Or.inr (Or.inl (⟨by omega, rfl⟩)))), rfl⟩
    ·
      refine tu_tabIn 46 X 95 dX4_phrase_46 (show tu_rg w from by first | assumption | exact ⟨by omega, by omega⟩) (by omega) (by omega) (by rw [br46]; rfl) (by decide) ?_
      refine tu_aload_n 95 X 2 dX4_phrase_95 rfl ?_
      refine tu_iload_n 96 X 3 dX4_phrase_96 rfl ?_
      refine tu_st_eq (show _ = [tu_i ((p.toNat : Nat) : Int), tu_r 86] from by first | rfl | (simp only [List.cons.injEq, Sum.inl.injEq, and_true, true_and]; omega)) rfl ?_
      refine tu_callVI 97 X (st := []) (as := [tu_i ((p.toNat : Nat) : Int)]) (c_X4_phraseLength B p.toNat (show tu_BO B from by first | assumption | omega | exact ⟨by omega, by omega⟩ | decide) (show tu_MB B (M 87) from by first | assumption | omega | exact ⟨by omega, by omega⟩ | decide) (show (p.toNat : Int) < B 0 4 from by first | assumption | omega | exact ⟨by omega, by omega⟩ | decide)) sv_RX4_63 dX4_phrase_97 rfl (by decide) rfl rfl rfl (Nat.le_of_ble_eq_true rfl) ⟨by decide, by decide⟩ (fun z M' h => ?_)
      obtain ⟨hM97, hz97⟩ := h
      refine tu_st_eq rfl (M' := M) hM97 ?_
      refine tu_tp (b := (B 4 p.toNat)) hz97 ?_
      refine tu_iload_n 100 X 1 dX4_phrase_100 rfl ?_
      refine tu_isub 101 X dX4_phrase_101 ?_
      refine tu_iload 102 X 0 dX4_phrase_102 rfl ?_
      refine tu_isub 104 X dX4_phrase_104 ?_
      refine hret 105 _ _ (((B 4 p.toNat) - (tu_ti (fun q => B 5 (p.toNat * 24 + q)) 2 (B 4 p.toNat).toNat)) - (tu_ti (fun q => B 5 (p.toNat * 24 + q)) 1 (B 4 p.toNat).toNat)) dX4_phrase_105 (fun h => by rw [hrt] at h; cases h) ?_
      exact ⟨_, rfl, Or.inr (Or.inr (Or.inr (Or.inr (Or.inl (⟨by omega, by omega⟩))))), rfl⟩
    ·
      refine tu_tabIn 46 X 106 dX4_phrase_46 (show tu_rg w from by first | assumption | exact ⟨by omega, by omega⟩) (by omega) (by omega) (by rw [br46]; rfl) (by decide) ?_
      refine tu_aload_n 106 X 2 dX4_phrase_106 rfl ?_
      refine tu_iload_n 107 X 3 dX4_phrase_107 rfl ?_
      refine tu_callVI 108 X (st := []) (as := [tu_i p]) (c_X4_playedTimes B p (show tu_BO B from by first | assumption | omega | exact ⟨by omega, by omega⟩ | decide) (show tu_MB B (M 87) from by first | assumption | omega | exact ⟨by omega, by omega⟩ | decide) (show tu_rg p from by first | assumption | omega | exact ⟨by omega, by omega⟩ | decide)) sv_RX4_175 dX4_phrase_108 rfl (by decide) rfl rfl rfl (Nat.le_of_ble_eq_true rfl) ⟨by decide, by decide⟩ (fun z M' h => ?_)
      obtain ⟨hM108, hz108⟩ := h
      refine tu_st_eq rfl (M' := M) hM108 ?_
      refine tu_tp (b := (tu_ti (B 7) p (B 0 9).toNat)) hz108 ?_
      refine hret 111 _ _ (tu_ti (B 7) p (B 0 9).toNat) dX4_phrase_111 (fun h => by rw [hrt] at h; cases h) ?_
      exact ⟨_, rfl, Or.inr (Or.inr (Or.inr (Or.inr (Or.inr (Or.inl (⟨by omega, rfl⟩)))))), rfl⟩
    ·
      refine tu_tabIn 46 X 112 dX4_phrase_46 (show tu_rg w from by first | assumption | exact ⟨by omega, by omega⟩) (by omega) (by omega) (by rw [br46]; rfl) (by decide) ?_
      refine tu_aload_n 112 X 2 dX4_phrase_112 rfl ?_
      refine tu_iload_n 113 X 3 dX4_phrase_113 rfl ?_
      refine tu_st_eq (show _ = [tu_i ((p.toNat : Nat) : Int), tu_r 86] from by first | rfl | (simp only [List.cons.injEq, Sum.inl.injEq, and_true, true_and]; omega)) rfl ?_
      refine tu_callVI 114 X (st := []) (as := [tu_i ((p.toNat : Nat) : Int)]) (c_X4_longestRow B p.toNat (show tu_BO B from by first | assumption | omega | exact ⟨by omega, by omega⟩ | decide) (show tu_MB B (M 87) from by first | assumption | omega | exact ⟨by omega, by omega⟩ | decide) (show (p.toNat : Int) < B 0 4 from by first | assumption | omega | exact ⟨by omega, by omega⟩ | decide)) sv_RX4_178 dX4_phrase_114 rfl (by decide) rfl rfl rfl (Nat.le_of_ble_eq_true rfl) ⟨by decide, by decide⟩ (fun z M' h => ?_)
      obtain ⟨hM114, hz114⟩ := h
      refine tu_st_eq rfl (M' := M) hM114 ?_
      refine tu_tp (b := (tu_lg (fun q => B 5 (p.toNat * 24 + q)) (B 4 p.toNat).toNat)) hz114 ?_
      refine hret 117 _ _ (tu_lg (fun q => B 5 (p.toNat * 24 + q)) (B 4 p.toNat).toNat) dX4_phrase_117 (fun h => by rw [hrt] at h; cases h) ?_
      exact ⟨_, rfl, Or.inr (Or.inr (Or.inr (Or.inr (Or.inr (Or.inr (Or.inl (⟨by omega, rfl⟩))))))), rfl⟩
    ·
      refine tu_tabOut 46 X 118 dX4_phrase_46 (show tu_rg w from by first | assumption | exact ⟨by omega, by omega⟩) br46 (by decide) ?_
      refine tu_bipush 118 X dX4_phrase_118 (by decide) ?_
      refine hret 120 _ _ (-2) dX4_phrase_120 (fun h => by rw [hrt] at h; cases h) ?_
      exact ⟨_, rfl, Or.inr (Or.inr (Or.inr (Or.inr (Or.inr (Or.inr (Or.inr (⟨by omega, rfl⟩))))))), rfl⟩
  ·
    have br5 := tu_b_e0 br5
    refine tu_iconst 8 X dX4_phrase_8 ?_
    refine hret 9 _ _ (-1) dX4_phrase_9 (fun h => by rw [hrt] at h; cases h) ?_
    exact ⟨_, rfl, Or.inl (⟨by omega, rfl⟩), rfl⟩
set_option maxRecDepth 20000 in
set_option maxHeartbeats 4000000 in
theorem c_X4_set {M : tu_M} (B : Nat → Nat → Int) (a w : Int) (hO : tu_BO B) (hR : tu_MB B (M 87)) (hh : 0 ≤ M 86 2 ∧ M 86 2 ≤ 6) (ra : tu_rg a) (rw : tu_rg w) : tu_MI tu_Y_X4_set [tu_r 86, tu_i a, tu_i w] M (fun z M' => ∃ (y : Int), (((¬ (0 ≤ a ∧ a < 4 ∧ tu_f1 a.toNat ≤ w ∧ w ≤ tu_f2 a.toNat)) ∧ M' = M ∧ y = -2) ∨ ((0 ≤ a ∧ a < 4 ∧ tu_f1 a.toNat ≤ w ∧ w ≤ tu_f2 a.toNat) ∧ ∃ S : Nat → Int, tu_MB (tu_row B 1 (tu_u (B 1) a.toNat w)) S ∧ M' = tu_mrec M S ∧ y = B 1 a.toNat)) ∧ z = y) := by
  refine tu_MI.of (ty := .int) (by decide) rfl (by first | exact Or.inl rfl | exact Or.inr rfl) (Nat.le_of_ble_eq_true rfl) (fun T (X : tu_X T cX4_set RX4 2 45) hnl hrt hret => ?_)
  have hret : tu_RI T cX4_set (fun z M' => ∃ (y : Int), (((¬ (0 ≤ a ∧ a < 4 ∧ tu_f1 a.toNat ≤ w ∧ w ≤ tu_f2 a.toNat)) ∧ M' = M ∧ y = -2) ∨ ((0 ≤ a ∧ a < 4 ∧ tu_f1 a.toNat ≤ w ∧ w ≤ tu_f2 a.toNat) ∧ ∃ S : Nat → Int, tu_MB (tu_row B 1 (tu_u (B 1) a.toNat w)) S ∧ M' = tu_mrec M S ∧ y = B 1 a.toNat)) ∧ z = y) := hret
  have hnl : T.2.2.2.2.2.2.2.2.2.2.1 = 4 := hnl
  show tu_W T 0 [(0, tu_r 86), (1, tu_i a), (2, tu_i w)] [] M
  refine tu_iload_n 0 X 1 dX4_set_0 rfl ?_
  refine tu_iload_n 1 X 2 dX4_set_1 rfl ?_
  refine tu_callSI 2 X (st := []) (as := [tu_i a, tu_i w]) (c_X4_isValue a w (show tu_rg a from by first | assumption | omega | exact ⟨by omega, by omega⟩ | decide) (show tu_rg w from by first | assumption | omega | exact ⟨by omega, by omega⟩ | decide)) ss_RX4_128 dX4_set_2 rfl (Nat.le_of_ble_eq_true rfl) ⟨by decide, by decide⟩ (fun z M' h => ?_)
  obtain ⟨hM2, hz2⟩ := h
  refine tu_st_eq rfl (M' := M) hM2 ?_
  refine tu_tp (b := tu_b (0 ≤ a ∧ a < 4 ∧ tu_f1 a.toNat ≤ w ∧ w ≤ tu_f2 a.toNat)) hz2 ?_
  refine tu_if_ne 5 X 11 dX4_set_5 (by decide) tu_b_rg (fun br5 => ?_) (fun br5 => ?_)
  ·
    have br5 := tu_b_n0 br5
    refine tu_aload_n 11 X 0 dX4_set_11 rfl ?_
    refine tu_callVV 12 X (st := []) (as := []) (c_X4_record  (show 0 ≤ M 86 2 ∧ M 86 2 ≤ 6 from by first | assumption | omega | exact ⟨by omega, by omega⟩ | decide)) sv_RX4_131 dX4_set_12 rfl (by decide) rfl rfl rfl (Nat.le_of_ble_eq_true rfl) ⟨by decide, by decide⟩ (fun M' h => ?_)
    have hM12 := h
    refine tu_st_eq rfl (M' := tu_row (tu_row M 86 (tu_u (M 86) 2 (tu_mw (M 86 2)))) 88 (tu_mq (M 88) (M 87) (M 86 2))) hM12 ?_
    refine tu_aload_n 15 X 0 dX4_set_15 rfl ?_
    refine tu_getR 16 X dX4_set_16 fl_RX4_7 (by decide) rfl rfl ?_
    refine tu_iload_n 19 X 1 dX4_set_19 rfl ?_
    refine tu_iald 20 X (x := M 87 a.toNat) a.toNat dX4_set_20 (by decide) rfl (by decide) (by omega) (by omega) rfl ?_
    refine tu_istore_n 21 X (lv' := [(3, tu_i (M 87 a.toNat)), (0, tu_r 86), (1, tu_i a), (2, tu_i w)]) dX4_set_21 (by rw [hnl]; decide) rfl ?_
    refine tu_aload_n 22 X 1 dX4_set_22 rfl ?_
    refine tu_getR 23 X dX4_set_23 fl_RX4_7 (by decide) rfl rfl ?_
    refine tu_iload_n 26 X 2 dX4_set_26 rfl ?_
    refine tu_iload_n 27 X 3 dX4_set_27 rfl ?_
    refine tu_iast 28 X (M' := tu_row (tu_row (tu_row M 86 (tu_u (M 86) 2 (tu_mw (M 86 2)))) 87 (tu_u (M 87) a.toNat w)) 88 (tu_mq (M 88) (M 87) (M 86 2))) a.toNat dX4_set_28 (by decide) rfl (by decide) (by omega) (by omega) (tu_rc (tu_row M 86 (tu_u (M 86) 2 (tu_mw (M 86 2)))) (tu_mq (M 88) (M 87) (M 86 2)) (tu_u (M 87) a.toNat w) rfl) ?_
    refine tu_iload_n 29 X 0 dX4_set_29 rfl ?_
    refine hret 30 _ _ (M 87 a.toNat) dX4_set_30 (fun h => by rw [hrt] at h; cases h) ?_
    refine ⟨_, Or.inr (⟨by omega, _, tu_MB.mset hR hO (by omega), rfl, hR.set a.toNat (by omega)⟩), rfl⟩
  ·
    have br5 := tu_b_e0 br5
    refine tu_bipush 8 X dX4_set_8 (by decide) ?_
    refine hret 10 _ _ (-2) dX4_set_10 (fun h => by rw [hrt] at h; cases h) ?_
    exact ⟨_, Or.inl (⟨by omega, rfl, rfl⟩), rfl⟩
set_option maxRecDepth 20000 in
set_option maxHeartbeats 4000000 in
theorem c_X4_stress {M : tu_M} (B : Nat → Nat → Int) (l s w : Int) (hO : tu_BO B) (hR : tu_MB B (M 87)) (hh : 0 ≤ M 86 2 ∧ M 86 2 ≤ 6) (rl : tu_rg l) (rs : tu_rg s) (rw : tu_rg w) (hw : w = 0 ∨ w = 1) : tu_MI tu_Y_X4_stress [tu_r 86, tu_i l, tu_i s, tu_i w] M (fun z M' => ∃ (y : Int), (((¬ (0 ≤ l ∧ l < B 0 1 ∧ 0 ≤ s ∧ s < B 2 l.toNat)) ∧ M' = M ∧ y = -1) ∨ ((0 ≤ l ∧ l < B 0 1 ∧ 0 ≤ s ∧ s < B 2 l.toNat) ∧ ∃ S : Nat → Int, tu_MB (tu_row B 3 (tu_u (B 3) ((l * 16) + s).toNat w)) S ∧ M' = tu_mrec M S ∧ y = B 3 ((l * 16) + s).toNat)) ∧ z = y) := by
  have cn := hO.1
  refine tu_MI.of (ty := .int) (by decide) rfl (by first | exact Or.inl rfl | exact Or.inr rfl) (Nat.le_of_ble_eq_true rfl) (fun T (X : tu_X T cX4_stress RX4 3 65) hnl hrt hret => ?_)
  have hret : tu_RI T cX4_stress (fun z M' => ∃ (y : Int), (((¬ (0 ≤ l ∧ l < B 0 1 ∧ 0 ≤ s ∧ s < B 2 l.toNat)) ∧ M' = M ∧ y = -1) ∨ ((0 ≤ l ∧ l < B 0 1 ∧ 0 ≤ s ∧ s < B 2 l.toNat) ∧ ∃ S : Nat → Int, tu_MB (tu_row B 3 (tu_u (B 3) ((l * 16) + s).toNat w)) S ∧ M' = tu_mrec M S ∧ y = B 3 ((l * 16) + s).toNat)) ∧ z = y) := hret
  have hnl : T.2.2.2.2.2.2.2.2.2.2.1 = 6 := hnl
  show tu_W T 0 [(0, tu_r 86), (1, tu_i l), (2, tu_i s), (3, tu_i w)] [] M
  refine tu_aload_n 0 X 0 dX4_stress_0 rfl ?_
  refine tu_iload_n 1 X 1 dX4_stress_1 rfl ?_
  refine tu_iload_n 2 X 2 dX4_stress_2 rfl ?_
  refine tu_callVI 3 X (st := []) (as := [tu_i l, tu_i s]) (c_X4_isSyllable B l s (show tu_BO B from by first | assumption | omega | exact ⟨by omega, by omega⟩ | decide) (show tu_MB B (M 87) from by first | assumption | omega | exact ⟨by omega, by omega⟩ | decide) (show tu_rg l from by first | assumption | omega | exact ⟨by omega, by omega⟩ | decide) (show tu_rg s from by first | assumption | omega | exact ⟨by omega, by omega⟩ | decide)) sv_RX4_153 dX4_stress_3 rfl (by decide) rfl rfl rfl (Nat.le_of_ble_eq_true rfl) ⟨by decide, by decide⟩ (fun z M' h => ?_)
  obtain ⟨hM3, hz3⟩ := h
  refine tu_st_eq rfl (M' := M) hM3 ?_
  refine tu_tp (b := tu_b (0 ≤ l ∧ l < B 0 1 ∧ 0 ≤ s ∧ s < B 2 l.toNat)) hz3 ?_
  refine tu_if_ne 6 X 11 dX4_stress_6 (by decide) tu_b_rg (fun br6 => ?_) (fun br6 => ?_)
  ·
    have br6 := tu_b_n0 br6
    have h9 := hO.2.1 l.toNat (by omega)
    refine tu_aload_n 11 X 0 dX4_stress_11 rfl ?_
    refine tu_callVV 12 X (st := []) (as := []) (c_X4_record  (show 0 ≤ M 86 2 ∧ M 86 2 ≤ 6 from by first | assumption | omega | exact ⟨by omega, by omega⟩ | decide)) sv_RX4_131 dX4_stress_12 rfl (by decide) rfl rfl rfl (Nat.le_of_ble_eq_true rfl) ⟨by decide, by decide⟩ (fun M' h => ?_)
    have hM12 := h
    refine tu_st_eq rfl (M' := tu_row (tu_row M 86 (tu_u (M 86) 2 (tu_mw (M 86 2)))) 88 (tu_mq (M 88) (M 87) (M 86 2))) hM12 ?_
    refine tu_bipush 15 X dX4_stress_15 (by decide) ?_
    refine tu_iconst 17 X dX4_stress_17 ?_
    refine tu_iload_n 18 X 1 dX4_stress_18 rfl ?_
    refine tu_imul 19 X dX4_stress_19 ?_
    refine tu_iadd 20 X dX4_stress_20 ?_
    refine tu_iconst 21 X dX4_stress_21 ?_
    refine tu_iadd 22 X dX4_stress_22 ?_
    refine tu_istore 23 X (lv' := [(4, tu_i ((8 + (2 * l)) + 1)), (0, tu_r 86), (1, tu_i l), (2, tu_i s), (3, tu_i w)]) dX4_stress_23 (by rw [hnl]; decide) rfl ?_
    refine tu_aload_n 25 X 1 dX4_stress_25 rfl ?_
    refine tu_getR 26 X dX4_stress_26 fl_RX4_7 (by decide) rfl rfl ?_
    refine tu_iload 29 X 0 dX4_stress_29 rfl ?_
    refine tu_iald 31 X (x := M 87 (((8 + (2 * l)) + 1).toNat)) (((8 + (2 * l)) + 1).toNat) dX4_stress_31 (by decide) rfl (by decide) (by omega) (by omega) rfl ?_
    refine tu_iload_n 32 X 3 dX4_stress_32 rfl ?_
    refine tu_ishr 33 X dX4_stress_33 ?_
    refine tu_iconst 34 X dX4_stress_34 ?_
    refine tu_iand 35 X dX4_stress_35 ?_
    refine tu_tp (b := (B 3 ((l * 16) + s).toNat)) (by exact tu_MB.bs hO hR (by omega) (by omega) (by omega) (by omega)) ?_
    refine tu_istore 36 X (lv' := [(5, tu_i (B 3 ((l * 16) + s).toNat)), (4, tu_i ((8 + (2 * l)) + 1)), (0, tu_r 86), (1, tu_i l), (2, tu_i s), (3, tu_i w)]) dX4_stress_36 (by rw [hnl]; decide) rfl ?_
    refine tu_aload_n 38 X 2 dX4_stress_38 rfl ?_
    refine tu_getR 39 X dX4_stress_39 fl_RX4_7 (by decide) rfl rfl ?_
    refine tu_iload 42 X 1 dX4_stress_42 rfl ?_
    refine tu_aload_n 44 X 2 dX4_stress_44 rfl ?_
    refine tu_getR 45 X dX4_stress_45 fl_RX4_7 (by decide) rfl rfl ?_
    refine tu_iload 48 X 1 dX4_stress_48 rfl ?_
    refine tu_iald 50 X (x := M 87 (((8 + (2 * l)) + 1).toNat)) (((8 + (2 * l)) + 1).toNat) dX4_stress_50 (by decide) rfl (by decide) (by omega) (by omega) rfl ?_
    refine tu_iconst 51 X dX4_stress_51 ?_
    refine tu_iload_n 52 X 4 dX4_stress_52 rfl ?_
    refine tu_ishl 53 X dX4_stress_53 ?_
    refine tu_iconst 54 X dX4_stress_54 ?_
    refine tu_ixor 55 X dX4_stress_55 ?_
    refine tu_iand 56 X dX4_stress_56 ?_
    refine tu_iload_n 57 X 5 dX4_stress_57 rfl ?_
    refine tu_if_eq 58 X 67 dX4_stress_58 (by decide) (show tu_rg w from by first | assumption | exact ⟨by omega, by omega⟩) (fun br58 => ?_) (fun br58 => ?_)
    ·
      refine tu_iconst 67 X dX4_stress_67 ?_
      refine tu_ior 68 X dX4_stress_68 ?_
      refine tu_iast 69 X (M' := tu_row (tu_row (tu_row M 86 (tu_u (M 86) 2 (tu_mw (M 86 2)))) 87 (tu_u (M 87) (((8 + (2 * l)) + 1).toNat) (tu_or (tu_and (M 87 (((8 + (2 * l)) + 1).toNat)) (tu_xor (tu_shl 1 s) (-1))) 0))) 88 (tu_mq (M 88) (M 87) (M 86 2))) (((8 + (2 * l)) + 1).toNat) dX4_stress_69 (by decide) rfl (by decide) (by omega) (by omega) (tu_rc (tu_row M 86 (tu_u (M 86) 2 (tu_mw (M 86 2)))) (tu_mq (M 88) (M 87) (M 86 2)) (tu_u (M 87) (((8 + (2 * l)) + 1).toNat) (tu_or (tu_and (M 87 (((8 + (2 * l)) + 1).toNat)) (tu_xor (tu_shl 1 s) (-1))) 0)) rfl) ?_
      refine tu_iload 70 X 0 dX4_stress_70 rfl ?_
      refine hret 72 _ _ (B 3 ((l * 16) + s).toNat) dX4_stress_72 (fun h => by rw [hrt] at h; cases h) ?_
      first | refine ⟨_, Or.inr (⟨by omega, _, tu_MB.mstress hR hO (by omega) (by omega) (by omega) (by omega) (Or.inl ⟨by omega, rfl⟩), rfl, rfl⟩), rfl⟩ | refine ⟨_, Or.inr (⟨by omega, _, tu_MB.mstress hR hO (by omega) (by omega) (by omega) (by omega) (Or.inr ⟨by omega, rfl⟩), rfl, rfl⟩), rfl⟩
    ·
      refine tu_iconst 61 X dX4_stress_61 ?_
      refine tu_iload_n 62 X 4 dX4_stress_62 rfl ?_
      refine tu_ishl 63 X dX4_stress_63 ?_
      refine tu_goto 64 X 68 dX4_stress_64 (by decide) ?_
      refine tu_ior 68 X dX4_stress_68 ?_
      refine tu_iast 69 X (M' := tu_row (tu_row (tu_row M 86 (tu_u (M 86) 2 (tu_mw (M 86 2)))) 87 (tu_u (M 87) (((8 + (2 * l)) + 1).toNat) (tu_or (tu_and (M 87 (((8 + (2 * l)) + 1).toNat)) (tu_xor (tu_shl 1 s) (-1))) (tu_shl 1 s)))) 88 (tu_mq (M 88) (M 87) (M 86 2))) (((8 + (2 * l)) + 1).toNat) dX4_stress_69 (by decide) rfl (by decide) (by omega) (by omega) (tu_rc (tu_row M 86 (tu_u (M 86) 2 (tu_mw (M 86 2)))) (tu_mq (M 88) (M 87) (M 86 2)) (tu_u (M 87) (((8 + (2 * l)) + 1).toNat) (tu_or (tu_and (M 87 (((8 + (2 * l)) + 1).toNat)) (tu_xor (tu_shl 1 s) (-1))) (tu_shl 1 s))) rfl) ?_
      refine tu_iload 70 X 0 dX4_stress_70 rfl ?_
      refine hret 72 _ _ (B 3 ((l * 16) + s).toNat) dX4_stress_72 (fun h => by rw [hrt] at h; cases h) ?_
      first | refine ⟨_, Or.inr (⟨by omega, _, tu_MB.mstress hR hO (by omega) (by omega) (by omega) (by omega) (Or.inl ⟨by omega, rfl⟩), rfl, rfl⟩), rfl⟩ | refine ⟨_, Or.inr (⟨by omega, _, tu_MB.mstress hR hO (by omega) (by omega) (by omega) (by omega) (Or.inr ⟨by omega, rfl⟩), rfl, rfl⟩), rfl⟩
  ·
    have br6 := tu_b_e0 br6
    refine tu_iconst 9 X dX4_stress_9 ?_
    refine hret 10 _ _ (-1) dX4_stress_10 (fun h => by rw [hrt] at h; cases h) ?_
    exact ⟨_, Or.inl (⟨by omega, rfl, rfl⟩), rfl⟩
set_option maxRecDepth 20000 in
set_option maxHeartbeats 4000000 in
theorem c_X4_sings {M : tu_M} (B : Nat → Nat → Int) (l : Int) (h6 : 0 ≤ M 87 6 ∧ M 87 6 < 40) : tu_MV tu_Y_X4_sings [tu_r 86, tu_i l] M (fun M' => M' = tu_row M 87 (tu_u (tu_u (M 87) (64 + (M 87 6)).toNat l) 6 (M 87 6 + 1))) := by
  refine tu_MV.of (by decide) rfl (Nat.le_of_ble_eq_true rfl) (fun T (X : tu_X T cX4_sings RX4 0 0) hnl hret => ?_)
  have hret : tu_RV T cX4_sings (fun M' => M' = tu_row M 87 (tu_u (tu_u (M 87) (64 + (M 87 6)).toNat l) 6 (M 87 6 + 1))) := hret
  have hnl : T.2.2.2.2.2.2.2.2.2.2.1 = 2 := hnl
  show tu_W T 0 [(0, tu_r 86), (1, tu_i l)] [] M
  refine tu_aload_n 0 X 0 dX4_sings_0 rfl ?_
  refine tu_getR 1 X dX4_sings_1 fl_RX4_7 (by decide) rfl rfl ?_
  refine tu_bipush 4 X dX4_sings_4 (by decide) ?_
  refine tu_aload_n 6 X 0 dX4_sings_6 rfl ?_
  refine tu_getR 7 X dX4_sings_7 fl_RX4_7 (by decide) rfl rfl ?_
  refine tu_bipush 10 X dX4_sings_10 (by decide) ?_
  refine tu_iald 12 X (x := M 87 6) 6 dX4_sings_12 (by decide) rfl (by decide) rfl (by decide) rfl ?_
  refine tu_iadd 13 X dX4_sings_13 ?_
  refine tu_iload_n 14 X 1 dX4_sings_14 rfl ?_
  refine tu_iast 15 X (M' := tu_row M 87 (tu_u (M 87) ((64 + (M 87 6)).toNat) l)) ((64 + (M 87 6)).toNat) dX4_sings_15 (by decide) rfl (by decide) (by omega) (by omega) rfl ?_
  refine tu_aload_n 16 X 0 dX4_sings_16 rfl ?_
  refine tu_getR 17 X dX4_sings_17 fl_RX4_7 (by decide) rfl rfl ?_
  refine tu_bipush 20 X dX4_sings_20 (by decide) ?_
  refine tu_dup2 22 X dX4_sings_22 rfl rfl ?_
  refine tu_iald 23 X (x := (tu_u (M 87) ((64 + (M 87 6)).toNat) l) 6) 6 dX4_sings_23 (by decide) rfl (by decide) rfl (by decide) rfl ?_
  refine tu_tp (b := (M 87 6)) (by rw [tu_u_n _ _ (by omega)]) ?_
  refine tu_iconst 24 X dX4_sings_24 ?_
  refine tu_iadd 25 X dX4_sings_25 ?_
  refine tu_iast 26 X (M' := tu_row M 87 (tu_u (tu_u (M 87) ((64 + (M 87 6)).toNat) l) 6 ((M 87 6) + 1))) 6 dX4_sings_26 (by decide) rfl (by decide) rfl (by decide) (tu_rr M 87 (tu_u (M 87) ((64 + (M 87 6)).toNat) l) (tu_u (tu_u (M 87) ((64 + (M 87 6)).toNat) l) 6 ((M 87 6) + 1))) ?_
  refine hret 27 _ _ dX4_sings_27 ?_
  exact rfl
set_option maxRecDepth 20000 in
set_option maxHeartbeats 4000000 in
theorem c_X4_sing {M : tu_M} (B : Nat → Nat → Int) (l : Int) (hO : tu_BO B) (hR : tu_MB B (M 87)) (hh : 0 ≤ M 86 2 ∧ M 86 2 ≤ 6) (rl : tu_rg l) : tu_MI tu_Y_X4_sing [tu_r 86, tu_i l] M (fun z M' => ∃ (y : Int), (((¬ (0 ≤ l ∧ l < B 0 1)) ∧ M' = M ∧ y = -1) ∨ (((0 ≤ l ∧ l < B 0 1) ∧ B 0 7 = 40) ∧ M' = M ∧ y = -4) ∨ ((0 ≤ l ∧ l < B 0 1 ∧ B 0 7 < 40) ∧ ∃ S : Nat → Int, tu_MB (tu_row (tu_row B 0 (tu_u (B 0) 7 (B 0 7 + 1))) 6 (tu_u (B 6) (B 0 7).toNat l)) S ∧ M' = tu_mrec M S ∧ y = B 0 7 + 1)) ∧ z = y) := by
  have cn := hO.1
  refine tu_MI.of (ty := .int) (by decide) rfl (by first | exact Or.inl rfl | exact Or.inr rfl) (Nat.le_of_ble_eq_true rfl) (fun T (X : tu_X T cX4_sing RX4 2 45) hnl hrt hret => ?_)
  have hret : tu_RI T cX4_sing (fun z M' => ∃ (y : Int), (((¬ (0 ≤ l ∧ l < B 0 1)) ∧ M' = M ∧ y = -1) ∨ (((0 ≤ l ∧ l < B 0 1) ∧ B 0 7 = 40) ∧ M' = M ∧ y = -4) ∨ ((0 ≤ l ∧ l < B 0 1 ∧ B 0 7 < 40) ∧ ∃ S : Nat → Int, tu_MB (tu_row (tu_row B 0 (tu_u (B 0) 7 (B 0 7 + 1))) 6 (tu_u (B 6) (B 0 7).toNat l)) S ∧ M' = tu_mrec M S ∧ y = B 0 7 + 1)) ∧ z = y) := hret
  have hnl : T.2.2.2.2.2.2.2.2.2.2.1 = 2 := hnl
  show tu_W T 0 [(0, tu_r 86), (1, tu_i l)] [] M
  refine tu_aload_n 0 X 0 dX4_sing_0 rfl ?_
  refine tu_iload_n 1 X 1 dX4_sing_1 rfl ?_
  refine tu_callVI 2 X (st := []) (as := [tu_i l]) (c_X4_isLine B l (show tu_BO B from by first | assumption | omega | exact ⟨by omega, by omega⟩ | decide) (show tu_MB B (M 87) from by first | assumption | omega | exact ⟨by omega, by omega⟩ | decide) (show tu_rg l from by first | assumption | omega | exact ⟨by omega, by omega⟩ | decide)) sv_RX4_52 dX4_sing_2 rfl (by decide) rfl rfl rfl (Nat.le_of_ble_eq_true rfl) ⟨by decide, by decide⟩ (fun z M' h => ?_)
  obtain ⟨hM2, hz2⟩ := h
  refine tu_st_eq rfl (M' := M) hM2 ?_
  refine tu_tp (b := tu_b (0 ≤ l ∧ l < B 0 1)) hz2 ?_
  refine tu_if_ne 5 X 10 dX4_sing_5 (by decide) tu_b_rg (fun br5 => ?_) (fun br5 => ?_)
  ·
    have br5 := tu_b_n0 br5
    refine tu_aload_n 10 X 0 dX4_sing_10 rfl ?_
    refine tu_getR 11 X dX4_sing_11 fl_RX4_7 (by decide) rfl rfl ?_
    refine tu_bipush 14 X dX4_sing_14 (by decide) ?_
    refine tu_iald 16 X (x := M 87 6) 6 dX4_sing_16 (by decide) rfl (by decide) rfl (by decide) rfl ?_
    refine tu_tp (b := (B 0 7)) (by exact hR.n6) ?_
    refine tu_bipush 17 X dX4_sing_17 (by decide) ?_
    refine tu_icmp_ne 19 X 25 dX4_sing_19 (by decide) (show tu_rg (B 0 7) from by first | assumption | exact ⟨by omega, by omega⟩) ⟨by decide, by decide⟩ (fun br19 => ?_) (fun br19 => ?_)
    ·
      refine tu_aload_n 25 X 0 dX4_sing_25 rfl ?_
      refine tu_callVV 26 X (st := []) (as := []) (c_X4_record  (show 0 ≤ M 86 2 ∧ M 86 2 ≤ 6 from by first | assumption | omega | exact ⟨by omega, by omega⟩ | decide)) sv_RX4_131 dX4_sing_26 rfl (by decide) rfl rfl rfl (Nat.le_of_ble_eq_true rfl) ⟨by decide, by decide⟩ (fun M' h => ?_)
      have hM26 := h
      refine tu_st_eq rfl (M' := tu_row (tu_row M 86 (tu_u (M 86) 2 (tu_mw (M 86 2)))) 88 (tu_mq (M 88) (M 87) (M 86 2))) hM26 ?_
      refine tu_aload_n 29 X 0 dX4_sing_29 rfl ?_
      refine tu_iload_n 30 X 1 dX4_sing_30 rfl ?_
      refine tu_callVV 31 X (st := []) (as := [tu_i l]) (c_X4_sings B l (show 0 ≤ M 87 6 ∧ M 87 6 < 40 from by rw [hR.n6]; omega)) sv_RX4_162 dX4_sing_31 rfl (by decide) rfl rfl rfl (Nat.le_of_ble_eq_true rfl) ⟨by decide, by decide⟩ (fun M' h => ?_)
      have hM31 := h
      refine tu_st_eq rfl (M' := tu_row (tu_row (tu_row M 86 (tu_u (M 86) 2 (tu_mw (M 86 2)))) 87 (tu_u (tu_u (M 87) (64 + (M 87 6)).toNat l) 6 (M 87 6 + 1))) 88 (tu_mq (M 88) (M 87) (M 86 2))) (hM31.trans (tu_rc (tu_row M 86 (tu_u (M 86) 2 (tu_mw (M 86 2)))) (tu_mq (M 88) (M 87) (M 86 2)) (tu_u (tu_u (M 87) (64 + (M 87 6)).toNat l) 6 (M 87 6 + 1)) rfl)) ?_
      refine tu_aload_n 34 X 0 dX4_sing_34 rfl ?_
      refine tu_getR 35 X dX4_sing_35 fl_RX4_7 (by decide) rfl rfl ?_
      refine tu_bipush 38 X dX4_sing_38 (by decide) ?_
      refine tu_iald 40 X (x := (tu_u (tu_u (M 87) (64 + (M 87 6)).toNat l) 6 (M 87 6 + 1)) 6) 6 dX4_sing_40 (by decide) rfl (by decide) rfl (by decide) rfl ?_
      refine tu_tp (b := (B 0 7 + 1)) (by rw [tu_u_s, hR.n6]) ?_
      refine hret 41 _ _ (B 0 7 + 1) dX4_sing_41 (fun h => by rw [hrt] at h; cases h) ?_
      refine ⟨_, Or.inr (Or.inr (⟨by omega, _, tu_MB.sing hR hO (by omega), rfl, rfl⟩)), rfl⟩
    ·
      refine tu_bipush 22 X dX4_sing_22 (by decide) ?_
      refine hret 24 _ _ (-4) dX4_sing_24 (fun h => by rw [hrt] at h; cases h) ?_
      exact ⟨_, Or.inr (Or.inl (⟨by omega, rfl, rfl⟩)), rfl⟩
  ·
    have br5 := tu_b_e0 br5
    refine tu_iconst 8 X dX4_sing_8 ?_
    refine hret 9 _ _ (-1) dX4_sing_9 (fun h => by rw [hrt] at h; cases h) ?_
    exact ⟨_, Or.inl (⟨by omega, rfl, rfl⟩), rfl⟩
set_option maxRecDepth 20000 in
set_option maxHeartbeats 4000000 in
theorem c_X4_play {M : tu_M} (B : Nat → Nat → Int) (l : Int) (hO : tu_BO B) (hR : tu_MB B (M 87)) (hh : 0 ≤ M 86 2 ∧ M 86 2 ≤ 6) (rl : tu_rg l) : tu_MI tu_Y_X4_play [tu_r 86, tu_i l] M (fun z M' => ∃ (y : Int), (((¬ (0 ≤ l ∧ l < B 0 4)) ∧ M' = M ∧ y = -1) ∨ (((0 ≤ l ∧ l < B 0 4) ∧ B 0 9 = 8) ∧ M' = M ∧ y = -4) ∨ ((0 ≤ l ∧ l < B 0 4 ∧ B 0 9 < 8) ∧ ∃ S : Nat → Int, tu_MB (tu_row (tu_row B 0 (tu_u (B 0) 9 (B 0 9 + 1))) 7 (tu_u (B 7) (B 0 9).toNat l)) S ∧ M' = tu_mrec M S ∧ y = B 0 9 + 1)) ∧ z = y) := by
  have cn := hO.1
  refine tu_MI.of (ty := .int) (by decide) rfl (by first | exact Or.inl rfl | exact Or.inr rfl) (Nat.le_of_ble_eq_true rfl) (fun T (X : tu_X T cX4_play RX4 2 45) hnl hrt hret => ?_)
  have hret : tu_RI T cX4_play (fun z M' => ∃ (y : Int), (((¬ (0 ≤ l ∧ l < B 0 4)) ∧ M' = M ∧ y = -1) ∨ (((0 ≤ l ∧ l < B 0 4) ∧ B 0 9 = 8) ∧ M' = M ∧ y = -4) ∨ ((0 ≤ l ∧ l < B 0 4 ∧ B 0 9 < 8) ∧ ∃ S : Nat → Int, tu_MB (tu_row (tu_row B 0 (tu_u (B 0) 9 (B 0 9 + 1))) 7 (tu_u (B 7) (B 0 9).toNat l)) S ∧ M' = tu_mrec M S ∧ y = B 0 9 + 1)) ∧ z = y) := hret
  have hnl : T.2.2.2.2.2.2.2.2.2.2.1 = 2 := hnl
  show tu_W T 0 [(0, tu_r 86), (1, tu_i l)] [] M
  refine tu_aload_n 0 X 0 dX4_play_0 rfl ?_
  refine tu_iload_n 1 X 1 dX4_play_1 rfl ?_
  refine tu_callVI 2 X (st := []) (as := [tu_i l]) (c_X4_isPhrase B l (show tu_BO B from by first | assumption | omega | exact ⟨by omega, by omega⟩ | decide) (show tu_MB B (M 87) from by first | assumption | omega | exact ⟨by omega, by omega⟩ | decide) (show tu_rg l from by first | assumption | omega | exact ⟨by omega, by omega⟩ | decide)) sv_RX4_60 dX4_play_2 rfl (by decide) rfl rfl rfl (Nat.le_of_ble_eq_true rfl) ⟨by decide, by decide⟩ (fun z M' h => ?_)
  obtain ⟨hM2, hz2⟩ := h
  refine tu_st_eq rfl (M' := M) hM2 ?_
  refine tu_tp (b := tu_b (0 ≤ l ∧ l < B 0 4)) hz2 ?_
  refine tu_if_ne 5 X 10 dX4_play_5 (by decide) tu_b_rg (fun br5 => ?_) (fun br5 => ?_)
  ·
    have br5 := tu_b_n0 br5
    refine tu_aload_n 10 X 0 dX4_play_10 rfl ?_
    have e7 := hR.n7
    refine tu_getR 11 X dX4_play_11 fl_RX4_7 (by decide) rfl rfl ?_
    refine tu_bipush 14 X dX4_play_14 (by decide) ?_
    refine tu_iald 16 X (x := M 87 7) 7 dX4_play_16 (by decide) rfl (by decide) rfl (by decide) rfl ?_
    refine tu_bipush 17 X dX4_play_17 (by decide) ?_
    refine tu_icmp_ne 19 X 25 dX4_play_19 (by decide) (show tu_rg (M 87 7) from by first | assumption | exact ⟨by omega, by omega⟩) ⟨by decide, by decide⟩ (fun br19 => ?_) (fun br19 => ?_)
    ·
      refine tu_aload_n 25 X 0 dX4_play_25 rfl ?_
      refine tu_callVV 26 X (st := []) (as := []) (c_X4_record  (show 0 ≤ M 86 2 ∧ M 86 2 ≤ 6 from by first | assumption | omega | exact ⟨by omega, by omega⟩ | decide)) sv_RX4_131 dX4_play_26 rfl (by decide) rfl rfl rfl (Nat.le_of_ble_eq_true rfl) ⟨by decide, by decide⟩ (fun M' h => ?_)
      have hM26 := h
      refine tu_st_eq rfl (M' := tu_row (tu_row M 86 (tu_u (M 86) 2 (tu_mw (M 86 2)))) 88 (tu_mq (M 88) (M 87) (M 86 2))) hM26 ?_
      refine tu_aload_n 29 X 0 dX4_play_29 rfl ?_
      refine tu_getR 30 X dX4_play_30 fl_RX4_7 (by decide) rfl rfl ?_
      refine tu_bipush 33 X dX4_play_33 (by decide) ?_
      refine tu_aload_n 35 X 0 dX4_play_35 rfl ?_
      refine tu_getR 36 X dX4_play_36 fl_RX4_7 (by decide) rfl rfl ?_
      refine tu_bipush 39 X dX4_play_39 (by decide) ?_
      refine tu_iald 41 X (x := M 87 7) 7 dX4_play_41 (by decide) rfl (by decide) rfl (by decide) rfl ?_
      refine tu_iadd 42 X dX4_play_42 ?_
      refine tu_iload_n 43 X 1 dX4_play_43 rfl ?_
      refine tu_iast 44 X (M' := tu_row (tu_row (tu_row M 86 (tu_u (M 86) 2 (tu_mw (M 86 2)))) 87 (tu_u (M 87) ((104 + (M 87 7)).toNat) l)) 88 (tu_mq (M 88) (M 87) (M 86 2))) ((104 + (M 87 7)).toNat) dX4_play_44 (by decide) rfl (by decide) (by omega) (by omega) (tu_rc (tu_row M 86 (tu_u (M 86) 2 (tu_mw (M 86 2)))) (tu_mq (M 88) (M 87) (M 86 2)) (tu_u (M 87) ((104 + (M 87 7)).toNat) l) rfl) ?_
      refine tu_aload_n 45 X 0 dX4_play_45 rfl ?_
      refine tu_getR 46 X dX4_play_46 fl_RX4_7 (by decide) rfl rfl ?_
      refine tu_bipush 49 X dX4_play_49 (by decide) ?_
      refine tu_dup2 51 X dX4_play_51 rfl rfl ?_
      refine tu_iald 52 X (x := (tu_u (M 87) ((104 + (M 87 7)).toNat) l) 7) 7 dX4_play_52 (by decide) rfl (by decide) rfl (by decide) rfl ?_
      refine tu_tp (b := (M 87 7)) (by rw [tu_u_n _ _ (by omega)]) ?_
      refine tu_iconst 53 X dX4_play_53 ?_
      refine tu_iadd 54 X dX4_play_54 ?_
      refine tu_iast 55 X (M' := tu_row (tu_row (tu_row M 86 (tu_u (M 86) 2 (tu_mw (M 86 2)))) 87 (tu_u (tu_u (M 87) ((104 + (M 87 7)).toNat) l) 7 ((M 87 7) + 1))) 88 (tu_mq (M 88) (M 87) (M 86 2))) 7 dX4_play_55 (by decide) rfl (by decide) rfl (by decide) ((tu_rc (tu_row (tu_row M 86 (tu_u (M 86) 2 (tu_mw (M 86 2)))) 87 (tu_u (M 87) ((104 + (M 87 7)).toNat) l)) (tu_mq (M 88) (M 87) (M 86 2)) (tu_u (tu_u (M 87) ((104 + (M 87 7)).toNat) l) 7 ((M 87 7) + 1)) rfl).trans (congrArg (fun m => tu_row m 88 (tu_mq (M 88) (M 87) (M 86 2))) (tu_rr (tu_row M 86 (tu_u (M 86) 2 (tu_mw (M 86 2)))) 87 (tu_u (M 87) ((104 + (M 87 7)).toNat) l) (tu_u (tu_u (M 87) ((104 + (M 87 7)).toNat) l) 7 ((M 87 7) + 1))))) ?_
      refine tu_aload_n 56 X 0 dX4_play_56 rfl ?_
      refine tu_getR 57 X dX4_play_57 fl_RX4_7 (by decide) rfl rfl ?_
      refine tu_bipush 60 X dX4_play_60 (by decide) ?_
      refine tu_iald 62 X (x := (tu_u (tu_u (M 87) ((104 + (M 87 7)).toNat) l) 7 ((M 87 7) + 1)) 7) 7 dX4_play_62 (by decide) rfl (by decide) rfl (by decide) rfl ?_
      refine tu_tp (b := (B 0 9 + 1)) (by rw [tu_u_s, e7]) ?_
      refine hret 63 _ _ (B 0 9 + 1) dX4_play_63 (fun h => by rw [hrt] at h; cases h) ?_
      refine ⟨_, Or.inr (Or.inr (⟨by omega, _, tu_MB.play hR hO (by omega), rfl, rfl⟩)), rfl⟩
    ·
      refine tu_bipush 22 X dX4_play_22 (by decide) ?_
      refine hret 24 _ _ (-4) dX4_play_24 (fun h => by rw [hrt] at h; cases h) ?_
      exact ⟨_, Or.inr (Or.inl (⟨by omega, rfl, rfl⟩)), rfl⟩
  ·
    have br5 := tu_b_e0 br5
    refine tu_iconst 8 X dX4_play_8 ?_
    refine hret 9 _ _ (-1) dX4_play_9 (fun h => by rw [hrt] at h; cases h) ?_
    exact ⟨_, Or.inl (⟨by omega, rfl, rfl⟩), rfl⟩
set_option maxRecDepth 20000 in
set_option maxHeartbeats 4000000 in
theorem c_X4_clear {M : tu_M} (B : Nat → Nat → Int) (w : Int) (hO : tu_BO B) (hR : tu_MB B (M 87)) (hh : 0 ≤ M 86 2 ∧ M 86 2 ≤ 6) (hw : w = 0 ∨ w = 1) : tu_MI tu_Y_X4_clear [tu_r 86, tu_i w] M (fun z M' => ∃ (y : Int), (((w = 0) ∧ ∃ S : Nat → Int, tu_MB (tu_row B 0 (tu_u (B 0) 7 0)) S ∧ M' = tu_mrec M S ∧ y = B 0 7) ∨ ((w = 1) ∧ ∃ S : Nat → Int, tu_MB (tu_row B 0 (tu_u (B 0) 9 0)) S ∧ M' = tu_mrec M S ∧ y = B 0 9)) ∧ z = y) := by
  refine tu_MI.of (ty := .int) (by decide) rfl (by first | exact Or.inl rfl | exact Or.inr rfl) (Nat.le_of_ble_eq_true rfl) (fun T (X : tu_X T cX4_clear RX4 2 45) hnl hrt hret => ?_)
  have hret : tu_RI T cX4_clear (fun z M' => ∃ (y : Int), (((w = 0) ∧ ∃ S : Nat → Int, tu_MB (tu_row B 0 (tu_u (B 0) 7 0)) S ∧ M' = tu_mrec M S ∧ y = B 0 7) ∨ ((w = 1) ∧ ∃ S : Nat → Int, tu_MB (tu_row B 0 (tu_u (B 0) 9 0)) S ∧ M' = tu_mrec M S ∧ y = B 0 9)) ∧ z = y) := hret
  have hnl : T.2.2.2.2.2.2.2.2.2.2.1 = 4 := hnl
  show tu_W T 0 [(0, tu_r 86), (1, tu_i w)] [] M
  refine tu_aload_n 0 X 0 dX4_clear_0 rfl ?_
  refine tu_callVV 1 X (st := []) (as := []) (c_X4_record  (show 0 ≤ M 86 2 ∧ M 86 2 ≤ 6 from by first | assumption | omega | exact ⟨by omega, by omega⟩ | decide)) sv_RX4_131 dX4_clear_1 rfl (by decide) rfl rfl rfl (Nat.le_of_ble_eq_true rfl) ⟨by decide, by decide⟩ (fun M' h => ?_)
  have hM1 := h
  refine tu_st_eq rfl (M' := tu_row (tu_row M 86 (tu_u (M 86) 2 (tu_mw (M 86 2)))) 88 (tu_mq (M 88) (M 87) (M 86 2))) hM1 ?_
  refine tu_iload_n 4 X 1 dX4_clear_4 rfl ?_
  refine tu_if_eq 5 X 13 dX4_clear_5 (by decide) (show tu_rg w from by first | assumption | exact ⟨by omega, by omega⟩) (fun br5 => ?_) (fun br5 => ?_)
  ·
    have rw9 : w = 0 := by omega
    refine tu_bipush 13 X dX4_clear_13 (by decide) ?_
    refine tu_istore_n 15 X (lv' := [(2, tu_i 6), (0, tu_r 86), (1, tu_i w)]) dX4_clear_15 (by rw [hnl]; decide) rfl ?_
    refine tu_aload_n 16 X 1 dX4_clear_16 rfl ?_
    refine tu_getR 17 X dX4_clear_17 fl_RX4_7 (by decide) rfl rfl ?_
    refine tu_iload_n 20 X 0 dX4_clear_20 rfl ?_
    refine tu_iald 21 X (x := M 87 6) 6 dX4_clear_21 (by decide) rfl (by decide) rfl (by decide) rfl ?_
    refine tu_istore_n 22 X (lv' := [(3, tu_i (M 87 6)), (2, tu_i 6), (0, tu_r 86), (1, tu_i w)]) dX4_clear_22 (by rw [hnl]; decide) rfl ?_
    refine tu_aload_n 23 X 2 dX4_clear_23 rfl ?_
    refine tu_getR 24 X dX4_clear_24 fl_RX4_7 (by decide) rfl rfl ?_
    refine tu_iload_n 27 X 1 dX4_clear_27 rfl ?_
    refine tu_iconst 28 X dX4_clear_28 ?_
    refine tu_iast 29 X (M' := tu_row (tu_row (tu_row M 86 (tu_u (M 86) 2 (tu_mw (M 86 2)))) 87 (tu_u (M 87) 6 0)) 88 (tu_mq (M 88) (M 87) (M 86 2))) 6 dX4_clear_29 (by decide) rfl (by decide) rfl (by decide) (tu_rc (tu_row M 86 (tu_u (M 86) 2 (tu_mw (M 86 2)))) (tu_mq (M 88) (M 87) (M 86 2)) (tu_u (M 87) 6 0) rfl) ?_
    refine tu_iload_n 30 X 0 dX4_clear_30 rfl ?_
    refine hret 31 _ _ (M 87 6) dX4_clear_31 (fun h => by rw [hrt] at h; cases h) ?_
    first | refine ⟨_, Or.inl (⟨by omega, _, tu_MB.clear7 hR, rfl, hR.n6⟩), rfl⟩ | refine ⟨_, Or.inr (⟨by omega, _, tu_MB.clear9 hR, rfl, hR.n7⟩), rfl⟩
  ·
    have rw9 : w = 1 := by omega
    refine tu_bipush 8 X dX4_clear_8 (by decide) ?_
    refine tu_goto 10 X 15 dX4_clear_10 (by decide) ?_
    refine tu_istore_n 15 X (lv' := [(2, tu_i 7), (0, tu_r 86), (1, tu_i w)]) dX4_clear_15 (by rw [hnl]; decide) rfl ?_
    refine tu_aload_n 16 X 1 dX4_clear_16 rfl ?_
    refine tu_getR 17 X dX4_clear_17 fl_RX4_7 (by decide) rfl rfl ?_
    refine tu_iload_n 20 X 0 dX4_clear_20 rfl ?_
    refine tu_iald 21 X (x := M 87 7) 7 dX4_clear_21 (by decide) rfl (by decide) rfl (by decide) rfl ?_
    refine tu_istore_n 22 X (lv' := [(3, tu_i (M 87 7)), (2, tu_i 7), (0, tu_r 86), (1, tu_i w)]) dX4_clear_22 (by rw [hnl]; decide) rfl ?_
    refine tu_aload_n 23 X 2 dX4_clear_23 rfl ?_
    refine tu_getR 24 X dX4_clear_24 fl_RX4_7 (by decide) rfl rfl ?_
    refine tu_iload_n 27 X 1 dX4_clear_27 rfl ?_
    refine tu_iconst 28 X dX4_clear_28 ?_
    refine tu_iast 29 X (M' := tu_row (tu_row (tu_row M 86 (tu_u (M 86) 2 (tu_mw (M 86 2)))) 87 (tu_u (M 87) 7 0)) 88 (tu_mq (M 88) (M 87) (M 86 2))) 7 dX4_clear_29 (by decide) rfl (by decide) rfl (by decide) (tu_rc (tu_row M 86 (tu_u (M 86) 2 (tu_mw (M 86 2)))) (tu_mq (M 88) (M 87) (M 86 2)) (tu_u (M 87) 7 0) rfl) ?_
    refine tu_iload_n 30 X 0 dX4_clear_30 rfl ?_
    refine hret 31 _ _ (M 87 7) dX4_clear_31 (fun h => by rw [hrt] at h; cases h) ?_
    first | refine ⟨_, Or.inl (⟨by omega, _, tu_MB.clear7 hR, rfl, hR.n6⟩), rfl⟩ | refine ⟨_, Or.inr (⟨by omega, _, tu_MB.clear9 hR, rfl, hR.n7⟩), rfl⟩
