set_option maxRecDepth 20000 in
set_option maxHeartbeats 4000000 in
theorem c_X0_hasLine {M : tu_M} (l : Int) (hB : tu_OK M) (hl : tu_rg l) : tu_MI tu_Y_X0_hasLine [tu_r 1, tu_i l] M (fun z M' => M' = M ∧ z = tu_b (0 ≤ l ∧ l < M 1 1)) := by
  have cn := hB.cnt
  refine tu_MI.of (ty := .boolean) (by decide) rfl (by first | exact Or.inl rfl | exact Or.inr rfl) (Nat.le_of_ble_eq_true rfl) (fun T (X : tu_X T cX0_hasLine RX0 0 0) hnl hrt hret => ?_)
  have hret : tu_RI T cX0_hasLine (fun z M' => M' = M ∧ z = tu_b (0 ≤ l ∧ l < M 1 1)) := hret
  have hnl : T.2.2.2.2.2.2.2.2.2.2.1 = 2 := hnl
  show tu_W T 0 [(0, tu_r 1), (1, tu_i l)] [] M
  refine tu_iload_n 0 X 1 dX0_hasLine_0 rfl ?_
  refine tu_if_lt 1 X 16 dX0_hasLine_1 (by decide) (show tu_rg l from by first | assumption | exact ⟨by omega, by omega⟩) (fun br1 => ?_) (fun br1 => ?_)
  ·
    refine tu_iconst 16 X dX0_hasLine_16 ?_
    refine hret 17 _ _ 0 dX0_hasLine_17 (fun _ => Or.inl rfl) ?_
    exact ⟨rfl, (tu_b0 (by omega)).symm⟩
  ·
    refine tu_iload_n 4 X 1 dX0_hasLine_4 rfl ?_
    refine tu_aload_n 5 X 0 dX0_hasLine_5 rfl ?_
    refine tu_getI 6 X (x := M 1 1) dX0_hasLine_6 fl_RX0_15 (by decide) rfl rfl rfl ?_
    refine tu_icmp_ge 9 X 16 dX0_hasLine_9 (by decide) (show tu_rg l from by first | assumption | exact ⟨by omega, by omega⟩) (show tu_rg (M 1 1) from by first | assumption | exact ⟨by omega, by omega⟩) (fun br9 => ?_) (fun br9 => ?_)
    ·
      refine tu_iconst 16 X dX0_hasLine_16 ?_
      refine hret 17 _ _ 0 dX0_hasLine_17 (fun _ => Or.inl rfl) ?_
      exact ⟨rfl, (tu_b0 (by omega)).symm⟩
    ·
      refine tu_iconst 12 X dX0_hasLine_12 ?_
      refine tu_goto 13 X 17 dX0_hasLine_13 (by decide) ?_
      refine hret 17 _ _ 1 dX0_hasLine_17 (fun _ => Or.inr rfl) ?_
      exact ⟨rfl, (tu_b1 (by omega)).symm⟩
set_option maxRecDepth 20000 in
set_option maxHeartbeats 4000000 in
theorem c_X0_hasPhrase {M : tu_M} (l : Int) (hB : tu_OK M) (hl : tu_rg l) : tu_MI tu_Y_X0_hasPhrase [tu_r 1, tu_i l] M (fun z M' => M' = M ∧ z = tu_b (0 ≤ l ∧ l < M 1 4)) := by
  have cn := hB.cnt
  refine tu_MI.of (ty := .boolean) (by decide) rfl (by first | exact Or.inl rfl | exact Or.inr rfl) (Nat.le_of_ble_eq_true rfl) (fun T (X : tu_X T cX0_hasPhrase RX0 0 0) hnl hrt hret => ?_)
  have hret : tu_RI T cX0_hasPhrase (fun z M' => M' = M ∧ z = tu_b (0 ≤ l ∧ l < M 1 4)) := hret
  have hnl : T.2.2.2.2.2.2.2.2.2.2.1 = 2 := hnl
  show tu_W T 0 [(0, tu_r 1), (1, tu_i l)] [] M
  refine tu_iload_n 0 X 1 dX0_hasPhrase_0 rfl ?_
  refine tu_if_lt 1 X 16 dX0_hasPhrase_1 (by decide) (show tu_rg l from by first | assumption | exact ⟨by omega, by omega⟩) (fun br1 => ?_) (fun br1 => ?_)
  ·
    refine tu_iconst 16 X dX0_hasPhrase_16 ?_
    refine hret 17 _ _ 0 dX0_hasPhrase_17 (fun _ => Or.inl rfl) ?_
    exact ⟨rfl, (tu_b0 (by omega)).symm⟩
  ·
    refine tu_iload_n 4 X 1 dX0_hasPhrase_4 rfl ?_
    refine tu_aload_n 5 X 0 dX0_hasPhrase_5 rfl ?_
    refine tu_getI 6 X (x := M 1 4) dX0_hasPhrase_6 fl_RX0_25 (by decide) rfl rfl rfl ?_
    refine tu_icmp_ge 9 X 16 dX0_hasPhrase_9 (by decide) (show tu_rg l from by first | assumption | exact ⟨by omega, by omega⟩) (show tu_rg (M 1 4) from by first | assumption | exact ⟨by omega, by omega⟩) (fun br9 => ?_) (fun br9 => ?_)
    ·
      refine tu_iconst 16 X dX0_hasPhrase_16 ?_
      refine hret 17 _ _ 0 dX0_hasPhrase_17 (fun _ => Or.inl rfl) ?_
      exact ⟨rfl, (tu_b0 (by omega)).symm⟩
    ·
      refine tu_iconst 12 X dX0_hasPhrase_12 ?_
      refine tu_goto 13 X 17 dX0_hasPhrase_13 (by decide) ?_
      refine hret 17 _ _ 1 dX0_hasPhrase_17 (fun _ => Or.inr rfl) ?_
      exact ⟨rfl, (tu_b1 (by omega)).symm⟩
set_option maxRecDepth 20000 in
set_option maxHeartbeats 4000000 in
theorem c_X0_hasSyllable {M : tu_M} (l s : Int) (hB : tu_OK M) (hl : tu_rg l) (hs : tu_rg s) : tu_MI tu_Y_X0_hasSyllable [tu_r 1, tu_i l, tu_i s] M (fun z M' => M' = M ∧ z = tu_b (0 ≤ l ∧ l < M 1 1 ∧ 0 ≤ s ∧ s < M 3 l.toNat)) := by
  have cn := hB.cnt
  refine tu_MI.of (ty := .boolean) (by decide) rfl (by first | exact Or.inl rfl | exact Or.inr rfl) (Nat.le_of_ble_eq_true rfl) (fun T (X : tu_X T cX0_hasSyllable RX0 1 21) hnl hrt hret => ?_)
  have hret : tu_RI T cX0_hasSyllable (fun z M' => M' = M ∧ z = tu_b (0 ≤ l ∧ l < M 1 1 ∧ 0 ≤ s ∧ s < M 3 l.toNat)) := hret
  have hnl : T.2.2.2.2.2.2.2.2.2.2.1 = 3 := hnl
  show tu_W T 0 [(0, tu_r 1), (1, tu_i l), (2, tu_i s)] [] M
  refine tu_aload_n 0 X 0 dX0_hasSyllable_0 rfl ?_
  refine tu_iload_n 1 X 1 dX0_hasSyllable_1 rfl ?_
  refine tu_callVI 2 X (st := []) (as := [tu_i l]) (c_X0_hasLine l (show tu_OK M from by first | assumption | omega | exact ⟨by omega, by omega⟩ | decide) (show tu_rg l from by first | assumption | omega | exact ⟨by omega, by omega⟩ | decide)) sv_RX0_55 dX0_hasSyllable_2 rfl (by decide) rfl rfl rfl (Nat.le_of_ble_eq_true rfl) ⟨by decide, by decide⟩ (fun z M' h => ?_)
  obtain ⟨hM2, hz2⟩ := h
  refine tu_st_eq rfl (M' := M) hM2 ?_
  refine tu_tp (b := tu_b (0 ≤ l ∧ l < M 1 1)) hz2 ?_
  refine tu_if_eq 5 X 26 dX0_hasSyllable_5 (by decide) tu_b_rg (fun br5 => ?_) (fun br5 => ?_)
  ·
    have br5 := tu_b_e0 br5
    refine tu_iconst 26 X dX0_hasSyllable_26 ?_
    refine hret 27 _ _ 0 dX0_hasSyllable_27 (fun _ => Or.inl rfl) ?_
    exact ⟨rfl, (tu_b0 (by omega)).symm⟩
  ·
    have br5 := tu_b_n0 br5
    refine tu_iload_n 8 X 2 dX0_hasSyllable_8 rfl ?_
    refine tu_if_lt 9 X 26 dX0_hasSyllable_9 (by decide) (show tu_rg s from by first | assumption | exact ⟨by omega, by omega⟩) (fun br9 => ?_) (fun br9 => ?_)
    ·
      refine tu_iconst 26 X dX0_hasSyllable_26 ?_
      refine hret 27 _ _ 0 dX0_hasSyllable_27 (fun _ => Or.inl rfl) ?_
      exact ⟨rfl, (tu_b0 (by omega)).symm⟩
    ·
      refine tu_iload_n 12 X 2 dX0_hasSyllable_12 rfl ?_
      refine tu_aload_n 13 X 0 dX0_hasSyllable_13 rfl ?_
      refine tu_getR 14 X dX0_hasSyllable_14 fl_RX0_19 (by decide) rfl rfl ?_
      refine tu_iload_n 17 X 1 dX0_hasSyllable_17 rfl ?_
      refine tu_iald 18 X (x := M 3 l.toNat) l.toNat dX0_hasSyllable_18 (by decide) rfl (by decide) (by omega) (by omega) rfl ?_
      have h3 := hB.syl l.toNat (by omega)
      refine tu_icmp_ge 19 X 26 dX0_hasSyllable_19 (by decide) (show tu_rg s from by first | assumption | exact ⟨by omega, by omega⟩) (show tu_rg (M 3 l.toNat) from by first | assumption | exact ⟨by omega, by omega⟩) (fun br19 => ?_) (fun br19 => ?_)
      ·
        refine tu_iconst 26 X dX0_hasSyllable_26 ?_
        refine hret 27 _ _ 0 dX0_hasSyllable_27 (fun _ => Or.inl rfl) ?_
        exact ⟨rfl, (tu_b0 (by omega)).symm⟩
      ·
        refine tu_iconst 22 X dX0_hasSyllable_22 ?_
        refine tu_goto 23 X 27 dX0_hasSyllable_23 (by decide) ?_
        refine hret 27 _ _ 1 dX0_hasSyllable_27 (fun _ => Or.inr rfl) ?_
        exact ⟨rfl, (tu_b1 (by omega)).symm⟩
set_option maxRecDepth 20000 in
set_option maxHeartbeats 4000000 in
theorem c_X0_hasBeat {M : tu_M} (l s : Int) (hB : tu_OK M) (hl : tu_rg l) (hs : tu_rg s) : tu_MI tu_Y_X0_hasBeat [tu_r 1, tu_i l, tu_i s] M (fun z M' => M' = M ∧ z = tu_b (0 ≤ l ∧ l < M 1 4 ∧ 0 ≤ s ∧ s < M 5 l.toNat)) := by
  have cn := hB.cnt
  refine tu_MI.of (ty := .boolean) (by decide) rfl (by first | exact Or.inl rfl | exact Or.inr rfl) (Nat.le_of_ble_eq_true rfl) (fun T (X : tu_X T cX0_hasBeat RX0 1 21) hnl hrt hret => ?_)
  have hret : tu_RI T cX0_hasBeat (fun z M' => M' = M ∧ z = tu_b (0 ≤ l ∧ l < M 1 4 ∧ 0 ≤ s ∧ s < M 5 l.toNat)) := hret
  have hnl : T.2.2.2.2.2.2.2.2.2.2.1 = 3 := hnl
  show tu_W T 0 [(0, tu_r 1), (1, tu_i l), (2, tu_i s)] [] M
  refine tu_aload_n 0 X 0 dX0_hasBeat_0 rfl ?_
  refine tu_iload_n 1 X 1 dX0_hasBeat_1 rfl ?_
  refine tu_callVI 2 X (st := []) (as := [tu_i l]) (c_X0_hasPhrase l (show tu_OK M from by first | assumption | omega | exact ⟨by omega, by omega⟩ | decide) (show tu_rg l from by first | assumption | omega | exact ⟨by omega, by omega⟩ | decide)) sv_RX0_59 dX0_hasBeat_2 rfl (by decide) rfl rfl rfl (Nat.le_of_ble_eq_true rfl) ⟨by decide, by decide⟩ (fun z M' h => ?_)
  obtain ⟨hM2, hz2⟩ := h
  refine tu_st_eq rfl (M' := M) hM2 ?_
  refine tu_tp (b := tu_b (0 ≤ l ∧ l < M 1 4)) hz2 ?_
  refine tu_if_eq 5 X 26 dX0_hasBeat_5 (by decide) tu_b_rg (fun br5 => ?_) (fun br5 => ?_)
  ·
    have br5 := tu_b_e0 br5
    refine tu_iconst 26 X dX0_hasBeat_26 ?_
    refine hret 27 _ _ 0 dX0_hasBeat_27 (fun _ => Or.inl rfl) ?_
    exact ⟨rfl, (tu_b0 (by omega)).symm⟩
  ·
    have br5 := tu_b_n0 br5
    refine tu_iload_n 8 X 2 dX0_hasBeat_8 rfl ?_
    refine tu_if_lt 9 X 26 dX0_hasBeat_9 (by decide) (show tu_rg s from by first | assumption | exact ⟨by omega, by omega⟩) (fun br9 => ?_) (fun br9 => ?_)
    ·
      refine tu_iconst 26 X dX0_hasBeat_26 ?_
      refine hret 27 _ _ 0 dX0_hasBeat_27 (fun _ => Or.inl rfl) ?_
      exact ⟨rfl, (tu_b0 (by omega)).symm⟩
    ·
      refine tu_iload_n 12 X 2 dX0_hasBeat_12 rfl ?_
      refine tu_aload_n 13 X 0 dX0_hasBeat_13 rfl ?_
      refine tu_getR 14 X dX0_hasBeat_14 fl_RX0_28 (by decide) rfl rfl ?_
      refine tu_iload_n 17 X 1 dX0_hasBeat_17 rfl ?_
      refine tu_iald 18 X (x := M 5 l.toNat) l.toNat dX0_hasBeat_18 (by decide) rfl (by decide) (by omega) (by omega) rfl ?_
      have h3 := hB.bts l.toNat (by omega)
      refine tu_icmp_ge 19 X 26 dX0_hasBeat_19 (by decide) (show tu_rg s from by first | assumption | exact ⟨by omega, by omega⟩) (show tu_rg (M 5 l.toNat) from by first | assumption | exact ⟨by omega, by omega⟩) (fun br19 => ?_) (fun br19 => ?_)
      ·
        refine tu_iconst 26 X dX0_hasBeat_26 ?_
        refine hret 27 _ _ 0 dX0_hasBeat_27 (fun _ => Or.inl rfl) ?_
        exact ⟨rfl, (tu_b0 (by omega)).symm⟩
      ·
        refine tu_iconst 22 X dX0_hasBeat_22 ?_
        refine tu_goto 23 X 27 dX0_hasBeat_23 (by decide) ?_
        refine hret 27 _ _ 1 dX0_hasBeat_27 (fun _ => Or.inr rfl) ?_
        exact ⟨rfl, (tu_b1 (by omega)).symm⟩
set_option maxRecDepth 20000 in
set_option maxHeartbeats 4000000 in
theorem c_X0_timesIn_7 {M : tu_M} (L : Nat) (w : Int) (hL : L ≤ 40) (hw : tu_rg w) (hr : ∀ k : Nat, k < L → tu_rg (M 7 k)) : tu_MI tu_Y_X0_timesIn [tu_r 7, tu_i ((L : Nat) : Int), tu_i w] M (fun z M' => M' = M ∧ z = tu_ti (M 7) w L) := by
  refine tu_MI.of (ty := .int) (by decide) rfl (by first | exact Or.inl rfl | exact Or.inr rfl) (Nat.le_of_ble_eq_true rfl) (fun T (X : tu_X T cX0_timesIn RX0 0 0) hnl hrt hret => ?_)
  have hret : tu_RI T cX0_timesIn (fun z M' => M' = M ∧ z = tu_ti (M 7) w L) := hret
  have hnl : T.2.2.2.2.2.2.2.2.2.2.1 = 5 := hnl
  show tu_W T 0 [(0, tu_r 7), (1, tu_i ((L : Nat) : Int)), (2, tu_i w)] [] M
  refine tu_iconst 0 X dX0_timesIn_0 ?_
  refine tu_istore_n 1 X (lv' := [(3, tu_i 0), (0, tu_r 7), (1, tu_i ((L : Nat) : Int)), (2, tu_i w)]) dX0_timesIn_1 (by rw [hnl]; decide) rfl ?_
  refine tu_iconst 2 X dX0_timesIn_2 ?_
  refine tu_istore 3 X (lv' := [(4, tu_i 0), (3, tu_i 0), (0, tu_r 7), (1, tu_i ((L : Nat) : Int)), (2, tu_i w)]) dX0_timesIn_3 (by rw [hnl]; decide) rfl ?_
  have lp5 : ∀ (nq : Nat) (k : Nat), (k ≤ L) → L - k < nq → tu_W T 5 [(0, tu_r 7), (1, tu_i ((L : Nat) : Int)), (2, tu_i w), (3, tu_i (tu_ti (M 7) w k)), (4, tu_i ((k : Nat) : Int))] [] M := by
    intro nq
    induction nq with
    | zero => intros; omega
    | succ nq ih5 =>
      intro k hk hn5
      have e1 := tu_ti_01 (M 7) w k
      refine tu_iload 5 X 4 dX0_timesIn_5 rfl ?_
      refine tu_iload_n 7 X 1 dX0_timesIn_7 rfl ?_
      refine tu_icmp_ge 8 X 28 dX0_timesIn_8 (by decide) (show tu_rg ((k : Nat) : Int) from by first | assumption | exact ⟨by omega, by omega⟩) (show tu_rg ((L : Nat) : Int) from by first | assumption | exact ⟨by omega, by omega⟩) (fun br8 => ?_) (fun br8 => ?_)
      ·
        refine tu_iload_n 28 X 3 dX0_timesIn_28 rfl ?_
        refine hret 29 _ _ (tu_ti (M 7) w k) dX0_timesIn_29 (fun h => by rw [hrt] at h; cases h) ?_
        exact ⟨rfl, by rw [show L = k from by omega]⟩
      ·
        refine tu_aload_n 11 X 0 dX0_timesIn_11 rfl ?_
        refine tu_iload 12 X 4 dX0_timesIn_12 rfl ?_
        refine tu_iald 14 X (x := M 7 k) k dX0_timesIn_14 (by decide) rfl (by decide) (by omega) (by omega) rfl ?_
        have e2 := hr k (by omega)
        refine tu_iload_n 15 X 2 dX0_timesIn_15 rfl ?_
        refine tu_icmp_ne 16 X 22 dX0_timesIn_16 (by decide) (show tu_rg (M 7 k) from by first | assumption | exact ⟨by omega, by omega⟩) (show tu_rg w from by first | assumption | exact ⟨by omega, by omega⟩) (fun br16 => ?_) (fun br16 => ?_)
        ·
          refine tu_iinc 22 X (lv' := [(4, tu_i (((k : Nat) : Int) + 1)), (0, tu_r 7), (1, tu_i ((L : Nat) : Int)), (2, tu_i w), (3, tu_i (tu_ti (M 7) w k))]) 4 dX0_timesIn_22 rfl (by rw [hnl]; decide) rfl ?_
          refine tu_goto 25 X 5 dX0_timesIn_25 (by decide) ?_
          refine tu_jmp [1, 2, 3, 4, 0] (lv' := [(0, tu_r 7), (1, tu_i ((L : Nat) : Int)), (2, tu_i w), (3, tu_i (tu_ti (M 7) w (k + 1))), (4, tu_i (((k + 1) : Nat) : Int))]) ⟨rfl, rfl, rfl, tu_ei (by first | rfl | (simp only [tu_ti]; split <;> omega)), tu_ei (by first | rfl | omega), trivial⟩ rfl (ih5 (k + 1) (by first | assumption | omega) (by omega))
        ·
          refine tu_iinc 19 X (lv' := [(3, tu_i (tu_ti (M 7) w k + 1)), (0, tu_r 7), (1, tu_i ((L : Nat) : Int)), (2, tu_i w), (4, tu_i ((k : Nat) : Int))]) 3 dX0_timesIn_19 rfl (by rw [hnl]; decide) rfl ?_
          refine tu_iinc 22 X (lv' := [(4, tu_i (((k : Nat) : Int) + 1)), (3, tu_i (tu_ti (M 7) w k + 1)), (0, tu_r 7), (1, tu_i ((L : Nat) : Int)), (2, tu_i w)]) 4 dX0_timesIn_22 rfl (by rw [hnl]; decide) rfl ?_
          refine tu_goto 25 X 5 dX0_timesIn_25 (by decide) ?_
          refine tu_jmp [2, 3, 4, 1, 0] (lv' := [(0, tu_r 7), (1, tu_i ((L : Nat) : Int)), (2, tu_i w), (3, tu_i (tu_ti (M 7) w (k + 1))), (4, tu_i (((k + 1) : Nat) : Int))]) ⟨rfl, rfl, rfl, tu_ei (by first | rfl | (simp only [tu_ti]; split <;> omega)), tu_ei (by first | rfl | omega), trivial⟩ rfl (ih5 (k + 1) (by first | assumption | omega) (by omega))
  refine tu_jmp [2, 3, 4, 1, 0] (lv' := [(0, tu_r 7), (1, tu_i ((L : Nat) : Int)), (2, tu_i w), (3, tu_i (tu_ti (M 7) w 0)), (4, tu_i 0)]) ⟨rfl, rfl, rfl, tu_ei (by first | rfl | (simp only [tu_ti]; split <;> omega)), rfl, trivial⟩ rfl (lp5 ((L - 0) + 1) 0 (by first | assumption | omega) (by omega))
set_option maxRecDepth 20000 in
set_option maxHeartbeats 4000000 in
theorem c_X0_timesIn_8 {M : tu_M} (L : Nat) (w : Int) (hL : L ≤ 8) (hw : tu_rg w) (hr : ∀ k : Nat, k < L → tu_rg (M 8 k)) : tu_MI tu_Y_X0_timesIn [tu_r 8, tu_i ((L : Nat) : Int), tu_i w] M (fun z M' => M' = M ∧ z = tu_ti (M 8) w L) := by
  refine tu_MI.of (ty := .int) (by decide) rfl (by first | exact Or.inl rfl | exact Or.inr rfl) (Nat.le_of_ble_eq_true rfl) (fun T (X : tu_X T cX0_timesIn RX0 0 0) hnl hrt hret => ?_)
  have hret : tu_RI T cX0_timesIn (fun z M' => M' = M ∧ z = tu_ti (M 8) w L) := hret
  have hnl : T.2.2.2.2.2.2.2.2.2.2.1 = 5 := hnl
  show tu_W T 0 [(0, tu_r 8), (1, tu_i ((L : Nat) : Int)), (2, tu_i w)] [] M
  refine tu_iconst 0 X dX0_timesIn_0 ?_
  refine tu_istore_n 1 X (lv' := [(3, tu_i 0), (0, tu_r 8), (1, tu_i ((L : Nat) : Int)), (2, tu_i w)]) dX0_timesIn_1 (by rw [hnl]; decide) rfl ?_
  refine tu_iconst 2 X dX0_timesIn_2 ?_
  refine tu_istore 3 X (lv' := [(4, tu_i 0), (3, tu_i 0), (0, tu_r 8), (1, tu_i ((L : Nat) : Int)), (2, tu_i w)]) dX0_timesIn_3 (by rw [hnl]; decide) rfl ?_
  have lp5 : ∀ (nq : Nat) (k : Nat), (k ≤ L) → L - k < nq → tu_W T 5 [(0, tu_r 8), (1, tu_i ((L : Nat) : Int)), (2, tu_i w), (3, tu_i (tu_ti (M 8) w k)), (4, tu_i ((k : Nat) : Int))] [] M := by
    intro nq
    induction nq with
    | zero => intros; omega
    | succ nq ih5 =>
      intro k hk hn5
      have e1 := tu_ti_01 (M 8) w k
      refine tu_iload 5 X 4 dX0_timesIn_5 rfl ?_
      refine tu_iload_n 7 X 1 dX0_timesIn_7 rfl ?_
      refine tu_icmp_ge 8 X 28 dX0_timesIn_8 (by decide) (show tu_rg ((k : Nat) : Int) from by first | assumption | exact ⟨by omega, by omega⟩) (show tu_rg ((L : Nat) : Int) from by first | assumption | exact ⟨by omega, by omega⟩) (fun br8 => ?_) (fun br8 => ?_)
      ·
        refine tu_iload_n 28 X 3 dX0_timesIn_28 rfl ?_
        refine hret 29 _ _ (tu_ti (M 8) w k) dX0_timesIn_29 (fun h => by rw [hrt] at h; cases h) ?_
        exact ⟨rfl, by rw [show L = k from by omega]⟩
      ·
        refine tu_aload_n 11 X 0 dX0_timesIn_11 rfl ?_
        refine tu_iload 12 X 4 dX0_timesIn_12 rfl ?_
        refine tu_iald 14 X (x := M 8 k) k dX0_timesIn_14 (by decide) rfl (by decide) (by omega) (by omega) rfl ?_
        have e2 := hr k (by omega)
        refine tu_iload_n 15 X 2 dX0_timesIn_15 rfl ?_
        refine tu_icmp_ne 16 X 22 dX0_timesIn_16 (by decide) (show tu_rg (M 8 k) from by first | assumption | exact ⟨by omega, by omega⟩) (show tu_rg w from by first | assumption | exact ⟨by omega, by omega⟩) (fun br16 => ?_) (fun br16 => ?_)
        ·
          refine tu_iinc 22 X (lv' := [(4, tu_i (((k : Nat) : Int) + 1)), (0, tu_r 8), (1, tu_i ((L : Nat) : Int)), (2, tu_i w), (3, tu_i (tu_ti (M 8) w k))]) 4 dX0_timesIn_22 rfl (by rw [hnl]; decide) rfl ?_
          refine tu_goto 25 X 5 dX0_timesIn_25 (by decide) ?_
          refine tu_jmp [1, 2, 3, 4, 0] (lv' := [(0, tu_r 8), (1, tu_i ((L : Nat) : Int)), (2, tu_i w), (3, tu_i (tu_ti (M 8) w (k + 1))), (4, tu_i (((k + 1) : Nat) : Int))]) ⟨rfl, rfl, rfl, tu_ei (by first | rfl | (simp only [tu_ti]; split <;> omega)), tu_ei (by first | rfl | omega), trivial⟩ rfl (ih5 (k + 1) (by first | assumption | omega) (by omega))
        ·
          refine tu_iinc 19 X (lv' := [(3, tu_i (tu_ti (M 8) w k + 1)), (0, tu_r 8), (1, tu_i ((L : Nat) : Int)), (2, tu_i w), (4, tu_i ((k : Nat) : Int))]) 3 dX0_timesIn_19 rfl (by rw [hnl]; decide) rfl ?_
          refine tu_iinc 22 X (lv' := [(4, tu_i (((k : Nat) : Int) + 1)), (3, tu_i (tu_ti (M 8) w k + 1)), (0, tu_r 8), (1, tu_i ((L : Nat) : Int)), (2, tu_i w)]) 4 dX0_timesIn_22 rfl (by rw [hnl]; decide) rfl ?_
          refine tu_goto 25 X 5 dX0_timesIn_25 (by decide) ?_
          refine tu_jmp [2, 3, 4, 1, 0] (lv' := [(0, tu_r 8), (1, tu_i ((L : Nat) : Int)), (2, tu_i w), (3, tu_i (tu_ti (M 8) w (k + 1))), (4, tu_i (((k + 1) : Nat) : Int))]) ⟨rfl, rfl, rfl, tu_ei (by first | rfl | (simp only [tu_ti]; split <;> omega)), tu_ei (by first | rfl | omega), trivial⟩ rfl (ih5 (k + 1) (by first | assumption | omega) (by omega))
  refine tu_jmp [2, 3, 4, 1, 0] (lv' := [(0, tu_r 8), (1, tu_i ((L : Nat) : Int)), (2, tu_i w), (3, tu_i (tu_ti (M 8) w 0)), (4, tu_i 0)]) ⟨rfl, rfl, rfl, tu_ei (by first | rfl | (simp only [tu_ti]; split <;> omega)), rfl, trivial⟩ rfl (lp5 ((L - 0) + 1) 0 (by first | assumption | omega) (by omega))
set_option maxRecDepth 20000 in
set_option maxHeartbeats 4000000 in
theorem c_X0_timesSung {M : tu_M} (w : Int) (hB : tu_OK M) (hw : tu_rg w) : tu_MI tu_Y_X0_timesSung [tu_r 1, tu_i w] M (fun z M' => M' = M ∧ z = tu_ti (M 7) w (M 1 7).toNat) := by
  have cn := hB.cnt
  refine tu_MI.of (ty := .int) (by decide) rfl (by first | exact Or.inl rfl | exact Or.inr rfl) (Nat.le_of_ble_eq_true rfl) (fun T (X : tu_X T cX0_timesSung RX0 1 24) hnl hrt hret => ?_)
  have hret : tu_RI T cX0_timesSung (fun z M' => M' = M ∧ z = tu_ti (M 7) w (M 1 7).toNat) := hret
  have hnl : T.2.2.2.2.2.2.2.2.2.2.1 = 2 := hnl
  show tu_W T 0 [(0, tu_r 1), (1, tu_i w)] [] M
  refine tu_aload_n 0 X 0 dX0_timesSung_0 rfl ?_
  refine tu_getR 1 X dX0_timesSung_1 fl_RX0_37 (by decide) rfl rfl ?_
  refine tu_aload_n 4 X 0 dX0_timesSung_4 rfl ?_
  refine tu_getI 5 X (x := M 1 7) dX0_timesSung_5 fl_RX0_34 (by decide) rfl rfl rfl ?_
  refine tu_iload_n 8 X 1 dX0_timesSung_8 rfl ?_
  refine tu_st_eq (show _ = [tu_i w, tu_i ((((M 1 7).toNat) : Nat) : Int), tu_r 7] from by first | rfl | (simp only [List.cons.injEq, Sum.inl.injEq, and_true, true_and]; omega)) rfl ?_
  refine tu_callSI 9 X (st := []) (as := [tu_r 7, tu_i ((((M 1 7).toNat) : Nat) : Int), tu_i w]) (c_X0_timesIn_7 ((M 1 7).toNat) w (show ((M 1 7).toNat) ≤ 40 from by first | assumption | omega | exact ⟨by omega, by omega⟩ | decide) (show tu_rg w from by first | assumption | omega | exact ⟨by omega, by omega⟩ | decide) (show ∀ k : Nat, k < ((M 1 7).toNat) → tu_rg (M 7 k) from by intro k hk; have := hB.bal k (by omega); omega)) ss_RX0_82 dX0_timesSung_9 rfl (Nat.le_of_ble_eq_true rfl) ⟨by decide, by decide⟩ (fun z M' h => ?_)
  obtain ⟨hM9, hz9⟩ := h
  refine tu_st_eq rfl (M' := M) hM9 ?_
  refine tu_tp (b := (tu_ti (M 7) w ((M 1 7).toNat))) hz9 ?_
  refine hret 12 _ _ (tu_ti (M 7) w ((M 1 7).toNat)) dX0_timesSung_12 (fun h => by rw [hrt] at h; cases h) ?_
  exact ⟨rfl, by first | rfl | omega⟩
set_option maxRecDepth 20000 in
set_option maxHeartbeats 4000000 in
theorem c_X0_timesPlayed {M : tu_M} (w : Int) (hB : tu_OK M) (hw : tu_rg w) : tu_MI tu_Y_X0_timesPlayed [tu_r 1, tu_i w] M (fun z M' => M' = M ∧ z = tu_ti (M 8) w (M 1 9).toNat) := by
  have cn := hB.cnt
  refine tu_MI.of (ty := .int) (by decide) rfl (by first | exact Or.inl rfl | exact Or.inr rfl) (Nat.le_of_ble_eq_true rfl) (fun T (X : tu_X T cX0_timesPlayed RX0 1 24) hnl hrt hret => ?_)
  have hret : tu_RI T cX0_timesPlayed (fun z M' => M' = M ∧ z = tu_ti (M 8) w (M 1 9).toNat) := hret
  have hnl : T.2.2.2.2.2.2.2.2.2.2.1 = 2 := hnl
  show tu_W T 0 [(0, tu_r 1), (1, tu_i w)] [] M
  refine tu_aload_n 0 X 0 dX0_timesPlayed_0 rfl ?_
  refine tu_getR 1 X dX0_timesPlayed_1 fl_RX0_43 (by decide) rfl rfl ?_
  refine tu_aload_n 4 X 0 dX0_timesPlayed_4 rfl ?_
  refine tu_getI 5 X (x := M 1 9) dX0_timesPlayed_5 fl_RX0_40 (by decide) rfl rfl rfl ?_
  refine tu_iload_n 8 X 1 dX0_timesPlayed_8 rfl ?_
  refine tu_st_eq (show _ = [tu_i w, tu_i ((((M 1 9).toNat) : Nat) : Int), tu_r 8] from by first | rfl | (simp only [List.cons.injEq, Sum.inl.injEq, and_true, true_and]; omega)) rfl ?_
  refine tu_callSI 9 X (st := []) (as := [tu_r 8, tu_i ((((M 1 9).toNat) : Nat) : Int), tu_i w]) (c_X0_timesIn_8 ((M 1 9).toNat) w (show ((M 1 9).toNat) ≤ 8 from by first | assumption | omega | exact ⟨by omega, by omega⟩ | decide) (show tu_rg w from by first | assumption | omega | exact ⟨by omega, by omega⟩ | decide) (show ∀ k : Nat, k < ((M 1 9).toNat) → tu_rg (M 8 k) from by intro k hk; have := hB.tun k (by omega); omega)) ss_RX0_82 dX0_timesPlayed_9 rfl (Nat.le_of_ble_eq_true rfl) ⟨by decide, by decide⟩ (fun z M' h => ?_)
  obtain ⟨hM9, hz9⟩ := h
  refine tu_st_eq rfl (M' := M) hM9 ?_
  refine tu_tp (b := (tu_ti (M 8) w ((M 1 9).toNat))) hz9 ?_
  refine hret 12 _ _ (tu_ti (M 8) w ((M 1 9).toNat)) dX0_timesPlayed_12 (fun h => by rw [hrt] at h; cases h) ?_
  exact ⟨rfl, by first | rfl | omega⟩
set_option maxRecDepth 20000 in
set_option maxHeartbeats 4000000 in
theorem c_X0_burdens {M : tu_M}  (hB : tu_OK M) : tu_MI tu_Y_X0_burdens [tu_r 1] M (fun z M' => M' = M ∧ z = tu_sm (fun l => if 2 ≤ tu_ti (M 7) ((l : Nat) : Int) (M 1 7).toNat then 1 else 0) (M 1 1).toNat) := by
  have cn := hB.cnt
  refine tu_MI.of (ty := .int) (by decide) rfl (by first | exact Or.inl rfl | exact Or.inr rfl) (Nat.le_of_ble_eq_true rfl) (fun T (X : tu_X T cX0_burdens RX0 2 45) hnl hrt hret => ?_)
  have hret : tu_RI T cX0_burdens (fun z M' => M' = M ∧ z = tu_sm (fun l => if 2 ≤ tu_ti (M 7) ((l : Nat) : Int) (M 1 7).toNat then 1 else 0) (M 1 1).toNat) := hret
  have hnl : T.2.2.2.2.2.2.2.2.2.2.1 = 3 := hnl
  show tu_W T 0 [(0, tu_r 1)] [] M
  refine tu_iconst 0 X dX0_burdens_0 ?_
  refine tu_istore_n 1 X (lv' := [(1, tu_i 0), (0, tu_r 1)]) dX0_burdens_1 (by rw [hnl]; decide) rfl ?_
  refine tu_iconst 2 X dX0_burdens_2 ?_
  refine tu_istore_n 3 X (lv' := [(2, tu_i 0), (1, tu_i 0), (0, tu_r 1)]) dX0_burdens_3 (by rw [hnl]; decide) rfl ?_
  have lp4 : ∀ (nq : Nat) (k : Nat), ((k : Int) ≤ M 1 1) → (M 1 1).toNat - k < nq → tu_W T 4 [(0, tu_r 1), (1, tu_i (tu_sm (fun l => if 2 ≤ tu_ti (M 7) ((l : Nat) : Int) (M 1 7).toNat then 1 else 0) k)), (2, tu_i ((k : Nat) : Int))] [] M := by
    intro nq
    induction nq with
    | zero => intros; omega
    | succ nq ih4 =>
      intro k hk hn4
      refine tu_iload_n 4 X 2 dX0_burdens_4 rfl ?_
      refine tu_aload_n 5 X 0 dX0_burdens_5 rfl ?_
      refine tu_getI 6 X (x := M 1 1) dX0_burdens_6 fl_RX0_15 (by decide) rfl rfl rfl ?_
      refine tu_icmp_ge 9 X 30 dX0_burdens_9 (by decide) (show tu_rg ((k : Nat) : Int) from by first | assumption | exact ⟨by omega, by omega⟩) (show tu_rg (M 1 1) from by first | assumption | exact ⟨by omega, by omega⟩) (fun br9 => ?_) (fun br9 => ?_)
      ·
        refine tu_iload_n 30 X 1 dX0_burdens_30 rfl ?_
        refine hret 31 _ _ (tu_sm (fun l => if 2 ≤ tu_ti (M 7) ((l : Nat) : Int) (M 1 7).toNat then 1 else 0) k) dX0_burdens_31 (fun h => by rw [hrt] at h; cases h) ?_
        exact ⟨rfl, by rw [show (M 1 1).toNat = k from by omega]⟩
      ·
        refine tu_aload_n 12 X 0 dX0_burdens_12 rfl ?_
        refine tu_iload_n 13 X 2 dX0_burdens_13 rfl ?_
        refine tu_callVI 14 X (st := []) (as := [tu_i ((k : Nat) : Int)]) (c_X0_timesSung ((k : Nat) : Int) (show tu_OK M from by first | assumption | omega | exact ⟨by omega, by omega⟩ | decide) (show tu_rg ((k : Nat) : Int) from by first | assumption | omega | exact ⟨by omega, by omega⟩ | decide)) sv_RX0_85 dX0_burdens_14 rfl (by decide) rfl rfl rfl (Nat.le_of_ble_eq_true rfl) ⟨by decide, by decide⟩ (fun z M' h => ?_)
        obtain ⟨hM14, hz14⟩ := h
        refine tu_st_eq rfl (M' := M) hM14 ?_
        refine tu_tp (b := (tu_ti (M 7) ((k : Nat) : Int) (M 1 7).toNat)) hz14 ?_
        refine tu_iconst 17 X dX0_burdens_17 ?_
        have e1 := tu_ti_01 (M 7) ((k : Nat) : Int) (M 1 7).toNat
        refine tu_icmp_lt 18 X 24 dX0_burdens_18 (by decide) (show tu_rg (tu_ti (M 7) ((k : Nat) : Int) (M 1 7).toNat) from by first | assumption | exact ⟨by omega, by omega⟩) ⟨by decide, by decide⟩ (fun br18 => ?_) (fun br18 => ?_)
        ·
          refine tu_iinc 24 X (lv' := [(2, tu_i (((k : Nat) : Int) + 1)), (0, tu_r 1), (1, tu_i (tu_sm (fun l => if 2 ≤ tu_ti (M 7) ((l : Nat) : Int) (M 1 7).toNat then 1 else 0) k))]) 2 dX0_burdens_24 rfl (by rw [hnl]; decide) rfl ?_
          refine tu_goto 27 X 4 dX0_burdens_27 (by decide) ?_
          refine tu_jmp [1, 2, 0] (lv' := [(0, tu_r 1), (1, tu_i (tu_sm (fun l => if 2 ≤ tu_ti (M 7) ((l : Nat) : Int) (M 1 7).toNat then 1 else 0) (k + 1))), (2, tu_i (((k + 1) : Nat) : Int))]) ⟨rfl, tu_ei (by first | rfl | (simp only [tu_sm]; split <;> omega)), tu_ei (by first | rfl | omega), trivial⟩ rfl (ih4 (k + 1) (by first | assumption | omega) (by omega))
        ·
          refine tu_iinc 21 X (lv' := [(1, tu_i (tu_sm (fun l => if 2 ≤ tu_ti (M 7) ((l : Nat) : Int) (M 1 7).toNat then 1 else 0) k + 1)), (0, tu_r 1), (2, tu_i ((k : Nat) : Int))]) 1 dX0_burdens_21 rfl (by rw [hnl]; decide) rfl ?_
          refine tu_iinc 24 X (lv' := [(2, tu_i (((k : Nat) : Int) + 1)), (1, tu_i (tu_sm (fun l => if 2 ≤ tu_ti (M 7) ((l : Nat) : Int) (M 1 7).toNat then 1 else 0) k + 1)), (0, tu_r 1)]) 2 dX0_burdens_24 rfl (by rw [hnl]; decide) rfl ?_
          refine tu_goto 27 X 4 dX0_burdens_27 (by decide) ?_
          refine tu_jmp [2, 1, 0] (lv' := [(0, tu_r 1), (1, tu_i (tu_sm (fun l => if 2 ≤ tu_ti (M 7) ((l : Nat) : Int) (M 1 7).toNat then 1 else 0) (k + 1))), (2, tu_i (((k + 1) : Nat) : Int))]) ⟨rfl, tu_ei (by first | rfl | (simp only [tu_sm]; split <;> omega)), tu_ei (by first | rfl | omega), trivial⟩ rfl (ih4 (k + 1) (by first | assumption | omega) (by omega))
  refine tu_jmp [2, 1, 0] (lv' := [(0, tu_r 1), (1, tu_i (tu_sm (fun l => if 2 ≤ tu_ti (M 7) ((l : Nat) : Int) (M 1 7).toNat then 1 else 0) 0)), (2, tu_i 0)]) ⟨rfl, tu_ei (by first | rfl | (simp only [tu_sm]; split <;> omega)), rfl, trivial⟩ rfl (lp4 (((M 1 1).toNat - 0) + 1) 0 (by first | assumption | omega) (by omega))
set_option maxRecDepth 20000 in
set_option maxHeartbeats 4000000 in
theorem c_X0_stressedOf {M : tu_M} (l : Nat) (hB : tu_OK M) (hl : (l : Int) < M 1 1) : tu_MI tu_Y_X0_stressedOf [tu_r 1, tu_i ((l : Nat) : Int)] M (fun z M' => M' = M ∧ z = tu_sm (fun q => M 4 (l * 16 + q)) (M 3 l).toNat) := by
  have cn := hB.cnt
  have h3 := hB.syl l hl
  refine tu_MI.of (ty := .int) (by decide) rfl (by first | exact Or.inl rfl | exact Or.inr rfl) (Nat.le_of_ble_eq_true rfl) (fun T (X : tu_X T cX0_stressedOf RX0 0 0) hnl hrt hret => ?_)
  have hret : tu_RI T cX0_stressedOf (fun z M' => M' = M ∧ z = tu_sm (fun q => M 4 (l * 16 + q)) (M 3 l).toNat) := hret
  have hnl : T.2.2.2.2.2.2.2.2.2.2.1 = 4 := hnl
  show tu_W T 0 [(0, tu_r 1), (1, tu_i ((l : Nat) : Int))] [] M
  refine tu_iconst 0 X dX0_stressedOf_0 ?_
  refine tu_istore_n 1 X (lv' := [(2, tu_i 0), (0, tu_r 1), (1, tu_i ((l : Nat) : Int))]) dX0_stressedOf_1 (by rw [hnl]; decide) rfl ?_
  refine tu_iconst 2 X dX0_stressedOf_2 ?_
  refine tu_istore_n 3 X (lv' := [(3, tu_i 0), (2, tu_i 0), (0, tu_r 1), (1, tu_i ((l : Nat) : Int))]) dX0_stressedOf_3 (by rw [hnl]; decide) rfl ?_
  have lp4 : ∀ (nq : Nat) (k : Nat), ((k : Int) ≤ M 3 l) → (M 3 l).toNat - k < nq → tu_W T 4 [(0, tu_r 1), (1, tu_i ((l : Nat) : Int)), (2, tu_i (tu_sm (fun q => M 4 (l * 16 + q)) k)), (3, tu_i ((k : Nat) : Int))] [] M := by
    intro nq
    induction nq with
    | zero => intros; omega
    | succ nq ih4 =>
      intro k hk hn4
      refine tu_iload_n 4 X 3 dX0_stressedOf_4 rfl ?_
      refine tu_aload_n 5 X 0 dX0_stressedOf_5 rfl ?_
      refine tu_getR 6 X dX0_stressedOf_6 fl_RX0_19 (by decide) rfl rfl ?_
      refine tu_iload_n 9 X 1 dX0_stressedOf_9 rfl ?_
      refine tu_iald 10 X (x := M 3 l) l dX0_stressedOf_10 (by decide) rfl (by decide) (by omega) (by omega) rfl ?_
      refine tu_icmp_ge 11 X 34 dX0_stressedOf_11 (by decide) (show tu_rg ((k : Nat) : Int) from by first | assumption | exact ⟨by omega, by omega⟩) (show tu_rg (M 3 l) from by first | assumption | exact ⟨by omega, by omega⟩) (fun br11 => ?_) (fun br11 => ?_)
      ·
        refine tu_iload_n 34 X 2 dX0_stressedOf_34 rfl ?_
        refine hret 35 _ _ (tu_sm (fun q => M 4 (l * 16 + q)) k) dX0_stressedOf_35 (fun h => by rw [hrt] at h; cases h) ?_
        exact ⟨rfl, by rw [show (M 3 l).toNat = k from by omega]⟩
      ·
        refine tu_iload_n 14 X 2 dX0_stressedOf_14 rfl ?_
        refine tu_aload_n 15 X 0 dX0_stressedOf_15 rfl ?_
        refine tu_getR 16 X dX0_stressedOf_16 fl_RX0_22 (by decide) rfl rfl ?_
        refine tu_iload_n 19 X 1 dX0_stressedOf_19 rfl ?_
        refine tu_bipush 20 X dX0_stressedOf_20 (by decide) ?_
        refine tu_imul 22 X dX0_stressedOf_22 ?_
        refine tu_iload_n 23 X 3 dX0_stressedOf_23 rfl ?_
        refine tu_iadd 24 X dX0_stressedOf_24 ?_
        refine tu_iald 25 X (x := M 4 ((l * 16) + k)) ((l * 16) + k) dX0_stressedOf_25 (by decide) rfl (by decide) (by omega) (by omega) rfl ?_
        refine tu_iadd 26 X dX0_stressedOf_26 ?_
        refine tu_istore_n 27 X (lv' := [(2, tu_i (tu_sm (fun q => M 4 (l * 16 + q)) k + (M 4 ((l * 16) + k)))), (0, tu_r 1), (1, tu_i ((l : Nat) : Int)), (3, tu_i ((k : Nat) : Int))]) dX0_stressedOf_27 (by rw [hnl]; decide) rfl ?_
        refine tu_iinc 28 X (lv' := [(3, tu_i (((k : Nat) : Int) + 1)), (2, tu_i (tu_sm (fun q => M 4 (l * 16 + q)) k + (M 4 ((l * 16) + k)))), (0, tu_r 1), (1, tu_i ((l : Nat) : Int))]) 3 dX0_stressedOf_28 rfl (by rw [hnl]; decide) rfl ?_
        refine tu_goto 31 X 4 dX0_stressedOf_31 (by decide) ?_
        refine tu_jmp [2, 3, 1, 0] (lv' := [(0, tu_r 1), (1, tu_i ((l : Nat) : Int)), (2, tu_i (tu_sm (fun q => M 4 (l * 16 + q)) (k + 1))), (3, tu_i (((k + 1) : Nat) : Int))]) ⟨rfl, rfl, tu_ei (by first | rfl | omega), tu_ei (by first | rfl | omega), trivial⟩ rfl (ih4 (k + 1) (by first | assumption | omega) (by omega))
  refine tu_jmp [2, 3, 1, 0] (lv' := [(0, tu_r 1), (1, tu_i ((l : Nat) : Int)), (2, tu_i (tu_sm (fun q => M 4 (l * 16 + q)) 0)), (3, tu_i 0)]) ⟨rfl, rfl, tu_ei (by first | rfl | omega), rfl, trivial⟩ rfl (lp4 (((M 3 l).toNat - 0) + 1) 0 (by first | assumption | omega) (by omega))
set_option maxRecDepth 20000 in
set_option maxHeartbeats 4000000 in
theorem c_X0_beatsOfKind {M : tu_M} (p : Nat) (w : Int) (hB : tu_OK M) (hp : (p : Int) < M 1 4) (hw : tu_rg w) : tu_MI tu_Y_X0_beatsOfKind [tu_r 1, tu_i ((p : Nat) : Int), tu_i w] M (fun z M' => M' = M ∧ z = tu_ti (fun q => M 6 (p * 24 + q)) w (M 5 p).toNat) := by
  have cn := hB.cnt
  have h3 := hB.bts p hp
  refine tu_MI.of (ty := .int) (by decide) rfl (by first | exact Or.inl rfl | exact Or.inr rfl) (Nat.le_of_ble_eq_true rfl) (fun T (X : tu_X T cX0_beatsOfKind RX0 0 0) hnl hrt hret => ?_)
  have hret : tu_RI T cX0_beatsOfKind (fun z M' => M' = M ∧ z = tu_ti (fun q => M 6 (p * 24 + q)) w (M 5 p).toNat) := hret
  have hnl : T.2.2.2.2.2.2.2.2.2.2.1 = 5 := hnl
  show tu_W T 0 [(0, tu_r 1), (1, tu_i ((p : Nat) : Int)), (2, tu_i w)] [] M
  refine tu_iconst 0 X dX0_beatsOfKind_0 ?_
  refine tu_istore_n 1 X (lv' := [(3, tu_i 0), (0, tu_r 1), (1, tu_i ((p : Nat) : Int)), (2, tu_i w)]) dX0_beatsOfKind_1 (by rw [hnl]; decide) rfl ?_
  refine tu_iconst 2 X dX0_beatsOfKind_2 ?_
  refine tu_istore 3 X (lv' := [(4, tu_i 0), (3, tu_i 0), (0, tu_r 1), (1, tu_i ((p : Nat) : Int)), (2, tu_i w)]) dX0_beatsOfKind_3 (by rw [hnl]; decide) rfl ?_
  have lp5 : ∀ (nq : Nat) (k : Nat), ((k : Int) ≤ M 5 p) → (M 5 p).toNat - k < nq → tu_W T 5 [(0, tu_r 1), (1, tu_i ((p : Nat) : Int)), (2, tu_i w), (3, tu_i (tu_ti (fun q => M 6 (p * 24 + q)) w k)), (4, tu_i ((k : Nat) : Int))] [] M := by
    intro nq
    induction nq with
    | zero => intros; omega
    | succ nq ih5 =>
      intro k hk hn5
      refine tu_iload 5 X 4 dX0_beatsOfKind_5 rfl ?_
      refine tu_aload_n 7 X 0 dX0_beatsOfKind_7 rfl ?_
      refine tu_getR 8 X dX0_beatsOfKind_8 fl_RX0_28 (by decide) rfl rfl ?_
      refine tu_iload_n 11 X 1 dX0_beatsOfKind_11 rfl ?_
      refine tu_iald 12 X (x := M 5 p) p dX0_beatsOfKind_12 (by decide) rfl (by decide) (by omega) (by omega) rfl ?_
      refine tu_icmp_ge 13 X 41 dX0_beatsOfKind_13 (by decide) (show tu_rg ((k : Nat) : Int) from by first | assumption | exact ⟨by omega, by omega⟩) (show tu_rg (M 5 p) from by first | assumption | exact ⟨by omega, by omega⟩) (fun br13 => ?_) (fun br13 => ?_)
      ·
        refine tu_iload_n 41 X 3 dX0_beatsOfKind_41 rfl ?_
        refine hret 42 _ _ (tu_ti (fun q => M 6 (p * 24 + q)) w k) dX0_beatsOfKind_42 (fun h => by rw [hrt] at h; cases h) ?_
        exact ⟨rfl, by rw [show (M 5 p).toNat = k from by omega]⟩
      ·
        refine tu_aload_n 16 X 0 dX0_beatsOfKind_16 rfl ?_
        refine tu_getR 17 X dX0_beatsOfKind_17 fl_RX0_31 (by decide) rfl rfl ?_
        refine tu_iload_n 20 X 1 dX0_beatsOfKind_20 rfl ?_
        refine tu_bipush 21 X dX0_beatsOfKind_21 (by decide) ?_
        refine tu_imul 23 X dX0_beatsOfKind_23 ?_
        refine tu_iload 24 X 4 dX0_beatsOfKind_24 rfl ?_
        refine tu_iadd 26 X dX0_beatsOfKind_26 ?_
        refine tu_iald 27 X (x := M 6 ((p * 24) + k)) ((p * 24) + k) dX0_beatsOfKind_27 (by decide) rfl (by decide) (by omega) (by omega) rfl ?_
        have e2 := hB.knd p k hp (by omega)
        refine tu_iload_n 28 X 2 dX0_beatsOfKind_28 rfl ?_
        refine tu_icmp_ne 29 X 35 dX0_beatsOfKind_29 (by decide) (show tu_rg (M 6 ((p * 24) + k)) from by first | assumption | exact ⟨by omega, by omega⟩) (show tu_rg w from by first | assumption | exact ⟨by omega, by omega⟩) (fun br29 => ?_) (fun br29 => ?_)
        ·
          refine tu_iinc 35 X (lv' := [(4, tu_i (((k : Nat) : Int) + 1)), (0, tu_r 1), (1, tu_i ((p : Nat) : Int)), (2, tu_i w), (3, tu_i (tu_ti (fun q => M 6 (p * 24 + q)) w k))]) 4 dX0_beatsOfKind_35 rfl (by rw [hnl]; decide) rfl ?_
          refine tu_goto 38 X 5 dX0_beatsOfKind_38 (by decide) ?_
          refine tu_jmp [1, 2, 3, 4, 0] (lv' := [(0, tu_r 1), (1, tu_i ((p : Nat) : Int)), (2, tu_i w), (3, tu_i (tu_ti (fun q => M 6 (p * 24 + q)) w (k + 1))), (4, tu_i (((k + 1) : Nat) : Int))]) ⟨rfl, rfl, rfl, tu_ei (by first | rfl | (simp only [tu_ti]; split <;> omega)), tu_ei (by first | rfl | omega), trivial⟩ rfl (ih5 (k + 1) (by first | assumption | omega) (by omega))
        ·
          refine tu_iinc 32 X (lv' := [(3, tu_i (tu_ti (fun q => M 6 (p * 24 + q)) w k + 1)), (0, tu_r 1), (1, tu_i ((p : Nat) : Int)), (2, tu_i w), (4, tu_i ((k : Nat) : Int))]) 3 dX0_beatsOfKind_32 rfl (by rw [hnl]; decide) rfl ?_
          refine tu_iinc 35 X (lv' := [(4, tu_i (((k : Nat) : Int) + 1)), (3, tu_i (tu_ti (fun q => M 6 (p * 24 + q)) w k + 1)), (0, tu_r 1), (1, tu_i ((p : Nat) : Int)), (2, tu_i w)]) 4 dX0_beatsOfKind_35 rfl (by rw [hnl]; decide) rfl ?_
          refine tu_goto 38 X 5 dX0_beatsOfKind_38 (by decide) ?_
          refine tu_jmp [2, 3, 4, 1, 0] (lv' := [(0, tu_r 1), (1, tu_i ((p : Nat) : Int)), (2, tu_i w), (3, tu_i (tu_ti (fun q => M 6 (p * 24 + q)) w (k + 1))), (4, tu_i (((k + 1) : Nat) : Int))]) ⟨rfl, rfl, rfl, tu_ei (by first | rfl | (simp only [tu_ti]; split <;> omega)), tu_ei (by first | rfl | omega), trivial⟩ rfl (ih5 (k + 1) (by first | assumption | omega) (by omega))
  refine tu_jmp [2, 3, 4, 1, 0] (lv' := [(0, tu_r 1), (1, tu_i ((p : Nat) : Int)), (2, tu_i w), (3, tu_i (tu_ti (fun q => M 6 (p * 24 + q)) w 0)), (4, tu_i 0)]) ⟨rfl, rfl, rfl, tu_ei (by first | rfl | (simp only [tu_ti]; split <;> omega)), rfl, trivial⟩ rfl (lp5 (((M 5 p).toNat - 0) + 1) 0 (by first | assumption | omega) (by omega))
set_option maxRecDepth 20000 in
set_option maxHeartbeats 4000000 in
theorem c_X0_longestRow {M : tu_M} (p : Nat) (hB : tu_OK M) (hp : (p : Int) < M 1 4) : tu_MI tu_Y_X0_longestRow [tu_r 1, tu_i ((p : Nat) : Int)] M (fun z M' => M' = M ∧ z = tu_lg (fun q => M 6 (p * 24 + q)) (M 5 p).toNat) := by
  have cn := hB.cnt
  have h3 := hB.bts p hp
  refine tu_MI.of (ty := .int) (by decide) rfl (by first | exact Or.inl rfl | exact Or.inr rfl) (Nat.le_of_ble_eq_true rfl) (fun T (X : tu_X T cX0_longestRow RX0 1 21) hnl hrt hret => ?_)
  have hret : tu_RI T cX0_longestRow (fun z M' => M' = M ∧ z = tu_lg (fun q => M 6 (p * 24 + q)) (M 5 p).toNat) := hret
  have hnl : T.2.2.2.2.2.2.2.2.2.2.1 = 5 := hnl
  show tu_W T 0 [(0, tu_r 1), (1, tu_i ((p : Nat) : Int))] [] M
  refine tu_iconst 0 X dX0_longestRow_0 ?_
  refine tu_istore_n 1 X (lv' := [(2, tu_i 0), (0, tu_r 1), (1, tu_i ((p : Nat) : Int))]) dX0_longestRow_1 (by rw [hnl]; decide) rfl ?_
  refine tu_iconst 2 X dX0_longestRow_2 ?_
  refine tu_istore_n 3 X (lv' := [(3, tu_i 0), (2, tu_i 0), (0, tu_r 1), (1, tu_i ((p : Nat) : Int))]) dX0_longestRow_3 (by rw [hnl]; decide) rfl ?_
  refine tu_iconst 4 X dX0_longestRow_4 ?_
  refine tu_istore 5 X (lv' := [(4, tu_i 0), (3, tu_i 0), (2, tu_i 0), (0, tu_r 1), (1, tu_i ((p : Nat) : Int))]) dX0_longestRow_5 (by rw [hnl]; decide) rfl ?_
  have lp7 : ∀ (nq : Nat) (k : Nat), ((k : Int) ≤ M 5 p) → (M 5 p).toNat - k < nq → tu_W T 7 [(0, tu_r 1), (1, tu_i ((p : Nat) : Int)), (2, tu_i (tu_lg (fun q => M 6 (p * 24 + q)) k)), (3, tu_i (tu_rn (fun q => M 6 (p * 24 + q)) k)), (4, tu_i ((k : Nat) : Int))] [] M := by
    intro nq
    induction nq with
    | zero => intros; omega
    | succ nq ih7 =>
      intro k hk hn7
      have e3 := tu_lg_le (fun q => M 6 (p * 24 + q)) k
      have e4 := tu_rn_le (fun q => M 6 (p * 24 + q)) k
      refine tu_iload 7 X 4 dX0_longestRow_7 rfl ?_
      refine tu_aload_n 9 X 0 dX0_longestRow_9 rfl ?_
      refine tu_getR 10 X dX0_longestRow_10 fl_RX0_28 (by decide) rfl rfl ?_
      refine tu_iload_n 13 X 1 dX0_longestRow_13 rfl ?_
      refine tu_iald 14 X (x := M 5 p) p dX0_longestRow_14 (by decide) rfl (by decide) (by omega) (by omega) rfl ?_
      refine tu_icmp_ge 15 X 53 dX0_longestRow_15 (by decide) (show tu_rg ((k : Nat) : Int) from by first | assumption | exact ⟨by omega, by omega⟩) (show tu_rg (M 5 p) from by first | assumption | exact ⟨by omega, by omega⟩) (fun br15 => ?_) (fun br15 => ?_)
      ·
        refine tu_iload_n 53 X 2 dX0_longestRow_53 rfl ?_
        refine hret 54 _ _ (tu_lg (fun q => M 6 (p * 24 + q)) k) dX0_longestRow_54 (fun h => by rw [hrt] at h; cases h) ?_
        exact ⟨rfl, by rw [show (M 5 p).toNat = k from by omega]⟩
      ·
        refine tu_aload_n 18 X 0 dX0_longestRow_18 rfl ?_
        refine tu_getR 19 X dX0_longestRow_19 fl_RX0_31 (by decide) rfl rfl ?_
        refine tu_iload_n 22 X 1 dX0_longestRow_22 rfl ?_
        refine tu_bipush 23 X dX0_longestRow_23 (by decide) ?_
        refine tu_imul 25 X dX0_longestRow_25 ?_
        refine tu_iload 26 X 4 dX0_longestRow_26 rfl ?_
        refine tu_iadd 28 X dX0_longestRow_28 ?_
        refine tu_iald 29 X (x := M 6 ((p * 24) + k)) ((p * 24) + k) dX0_longestRow_29 (by decide) rfl (by decide) (by omega) (by omega) rfl ?_
        have e2 := hB.knd p k hp (by omega)
        refine tu_if_ne 30 X 37 dX0_longestRow_30 (by decide) (show tu_rg (M 6 ((p * 24) + k)) from by first | assumption | exact ⟨by omega, by omega⟩) (fun br30 => ?_) (fun br30 => ?_)
        ·
          refine tu_iload_n 37 X 3 dX0_longestRow_37 rfl ?_
          refine tu_iconst 38 X dX0_longestRow_38 ?_
          refine tu_iadd 39 X dX0_longestRow_39 ?_
          refine tu_istore_n 40 X (lv' := [(3, tu_i (tu_rn (fun q => M 6 (p * 24 + q)) k + 1)), (0, tu_r 1), (1, tu_i ((p : Nat) : Int)), (2, tu_i (tu_lg (fun q => M 6 (p * 24 + q)) k)), (4, tu_i ((k : Nat) : Int))]) dX0_longestRow_40 (by rw [hnl]; decide) rfl ?_
          refine tu_iload_n 41 X 3 dX0_longestRow_41 rfl ?_
          refine tu_iload_n 42 X 0 dX0_longestRow_42 rfl ?_
          refine tu_mmax 43 X mx_RX0 dX0_longestRow_43 (show tu_rg (tu_lg (fun q => M 6 (p * 24 + q)) k) from by first | assumption | exact ⟨by omega, by omega⟩) (show tu_rg (tu_rn (fun q => M 6 (p * 24 + q)) k + 1) from by first | assumption | exact ⟨by omega, by omega⟩) (Nat.le_of_ble_eq_true rfl) (by decide) (by decide) ?_
          refine tu_istore_n 46 X (lv' := [(2, tu_i (max (tu_lg (fun q => M 6 (p * 24 + q)) k) (tu_rn (fun q => M 6 (p * 24 + q)) k + 1))), (3, tu_i (tu_rn (fun q => M 6 (p * 24 + q)) k + 1)), (0, tu_r 1), (1, tu_i ((p : Nat) : Int)), (4, tu_i ((k : Nat) : Int))]) dX0_longestRow_46 (by rw [hnl]; decide) rfl ?_
          refine tu_iinc 47 X (lv' := [(4, tu_i (((k : Nat) : Int) + 1)), (2, tu_i (max (tu_lg (fun q => M 6 (p * 24 + q)) k) (tu_rn (fun q => M 6 (p * 24 + q)) k + 1))), (3, tu_i (tu_rn (fun q => M 6 (p * 24 + q)) k + 1)), (0, tu_r 1), (1, tu_i ((p : Nat) : Int))]) 4 dX0_longestRow_47 rfl (by rw [hnl]; decide) rfl ?_
          refine tu_goto 50 X 7 dX0_longestRow_50 (by decide) ?_
          refine tu_jmp [3, 4, 1, 2, 0] (lv' := [(0, tu_r 1), (1, tu_i ((p : Nat) : Int)), (2, tu_i (tu_lg (fun q => M 6 (p * 24 + q)) (k + 1))), (3, tu_i (tu_rn (fun q => M 6 (p * 24 + q)) (k + 1))), (4, tu_i (((k + 1) : Nat) : Int))]) ⟨rfl, rfl, tu_ei (by first | rfl | (simp only [tu_lg, tu_rn]; split <;> omega)), tu_ei (by first | rfl | (simp only [tu_rn]; split <;> omega)), tu_ei (by first | rfl | omega), trivial⟩ rfl (ih7 (k + 1) (by first | assumption | omega) (by omega))
        ·
          refine tu_iconst 33 X dX0_longestRow_33 ?_
          refine tu_goto 34 X 40 dX0_longestRow_34 (by decide) ?_
          refine tu_istore_n 40 X (lv' := [(3, tu_i 0), (0, tu_r 1), (1, tu_i ((p : Nat) : Int)), (2, tu_i (tu_lg (fun q => M 6 (p * 24 + q)) k)), (4, tu_i ((k : Nat) : Int))]) dX0_longestRow_40 (by rw [hnl]; decide) rfl ?_
          refine tu_iload_n 41 X 3 dX0_longestRow_41 rfl ?_
          refine tu_iload_n 42 X 0 dX0_longestRow_42 rfl ?_
          refine tu_mmax 43 X mx_RX0 dX0_longestRow_43 (show tu_rg (tu_lg (fun q => M 6 (p * 24 + q)) k) from by first | assumption | exact ⟨by omega, by omega⟩) ⟨by decide, by decide⟩ (Nat.le_of_ble_eq_true rfl) (by decide) (by decide) ?_
          refine tu_istore_n 46 X (lv' := [(2, tu_i (max (tu_lg (fun q => M 6 (p * 24 + q)) k) 0)), (3, tu_i 0), (0, tu_r 1), (1, tu_i ((p : Nat) : Int)), (4, tu_i ((k : Nat) : Int))]) dX0_longestRow_46 (by rw [hnl]; decide) rfl ?_
          refine tu_iinc 47 X (lv' := [(4, tu_i (((k : Nat) : Int) + 1)), (2, tu_i (max (tu_lg (fun q => M 6 (p * 24 + q)) k) 0)), (3, tu_i 0), (0, tu_r 1), (1, tu_i ((p : Nat) : Int))]) 4 dX0_longestRow_47 rfl (by rw [hnl]; decide) rfl ?_
          refine tu_goto 50 X 7 dX0_longestRow_50 (by decide) ?_
          refine tu_jmp [3, 4, 1, 2, 0] (lv' := [(0, tu_r 1), (1, tu_i ((p : Nat) : Int)), (2, tu_i (tu_lg (fun q => M 6 (p * 24 + q)) (k + 1))), (3, tu_i (tu_rn (fun q => M 6 (p * 24 + q)) (k + 1))), (4, tu_i (((k + 1) : Nat) : Int))]) ⟨rfl, rfl, tu_ei (by first | rfl | (simp only [tu_lg, tu_rn]; split <;> omega)), tu_ei (by first | rfl | (simp only [tu_rn]; split <;> omega)), tu_ei (by first | rfl | omega), trivial⟩ rfl (ih7 (k + 1) (by first | assumption | omega) (by omega))
  refine tu_jmp [3, 4, 2, 1, 0] (lv' := [(0, tu_r 1), (1, tu_i ((p : Nat) : Int)), (2, tu_i (tu_lg (fun q => M 6 (p * 24 + q)) 0)), (3, tu_i (tu_rn (fun q => M 6 (p * 24 + q)) 0)), (4, tu_i 0)]) ⟨rfl, rfl, tu_ei (by first | rfl | (simp only [tu_lg, tu_rn]; split <;> omega)), tu_ei (by first | rfl | (simp only [tu_rn]; split <;> omega)), rfl, trivial⟩ rfl (lp7 (((M 5 p).toNat - 0) + 1) 0 (by first | assumption | omega) (by omega))
