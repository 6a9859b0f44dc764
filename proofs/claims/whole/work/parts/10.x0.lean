set_option maxRecDepth 20000 in
set_option maxHeartbeats 4000000 in
theorem c_X0_hasLine {M : tu_M} (l : Int) (hl : tu_rg l) (h1 : tu_rg (M 1 1)) : tu_MI tu_Y_X0_hasLine [tu_r 1, tu_i l] M (fun z M' => M' = M ∧ z = tu_b (0 ≤ l ∧ l < M 1 1)) := by
  refine tu_MI.of (ty := .boolean) (by decide) rfl (by first | exact Or.inl rfl | exact Or.inr rfl) (Nat.le_of_ble_eq_true rfl) (fun T (X : tu_X T cX0_hasLine RX0 0 0) hnl hrt hret => ?_)
  have hret : tu_RI T cX0_hasLine (fun z M' => M' = M ∧ z = tu_b (0 ≤ l ∧ l < M 1 1)) := hret
  have hnl : T.2.2.2.2.2.2.2.2.2.2.1 = 2 := hnl
  show tu_W T 0 [(0, tu_r 1), (1, tu_i l)] [] M
  refine tu_iload_n 0 X 1 dX0_hasLine_0 rfl ?_
  refine tu_if_lt 1 X 16 dX0_hasLine_1 (by decide) (show tu_rg l from by first | assumption | exact ⟨by omega, by omega⟩) (fun br1 => ?_) (fun br1 => ?_)
  ·
    refine tu_iconst 16 X dX0_hasLine_16 ?_
    refine hret 17 _ _ 0 dX0_hasLine_17 (fun _ => Or.inl rfl) ?_
    exact ⟨rfl, (tu_b0 (by omega)).symm⟩
  ·
    refine tu_iload_n 4 X 1 dX0_hasLine_4 rfl ?_
    refine tu_aload_n 5 X 0 dX0_hasLine_5 rfl ?_
    refine tu_getI 6 X (x := M 1 1) dX0_hasLine_6 fl_RX0_15 (by decide) rfl rfl rfl ?_
    refine tu_icmp_ge 9 X 16 dX0_hasLine_9 (by decide) (show tu_rg l from by first | assumption | exact ⟨by omega, by omega⟩) (show tu_rg (M 1 1) from by first | assumption | exact ⟨by omega, by omega⟩) (fun br9 => ?_) (fun br9 => ?_)
    ·
      refine tu_iconst 16 X dX0_hasLine_16 ?_
      refine hret 17 _ _ 0 dX0_hasLine_17 (fun _ => Or.inl rfl) ?_
      exact ⟨rfl, (tu_b0 (by omega)).symm⟩
    ·
      refine tu_iconst 12 X dX0_hasLine_12 ?_
      refine tu_goto 13 X 17 dX0_hasLine_13 (by decide) ?_
      refine hret 17 _ _ 1 dX0_hasLine_17 (fun _ => Or.inr rfl) ?_
      exact ⟨rfl, (tu_b1 (by omega)).symm⟩
set_option maxRecDepth 20000 in
set_option maxHeartbeats 4000000 in
theorem c_X0_hasPhrase {M : tu_M} (l : Int) (hl : tu_rg l) (h1 : tu_rg (M 1 4)) : tu_MI tu_Y_X0_hasPhrase [tu_r 1, tu_i l] M (fun z M' => M' = M ∧ z = tu_b (0 ≤ l ∧ l < M 1 4)) := by
  refine tu_MI.of (ty := .boolean) (by decide) rfl (by first | exact Or.inl rfl | exact Or.inr rfl) (Nat.le_of_ble_eq_true rfl) (fun T (X : tu_X T cX0_hasPhrase RX0 0 0) hnl hrt hret => ?_)
  have hret : tu_RI T cX0_hasPhrase (fun z M' => M' = M ∧ z = tu_b (0 ≤ l ∧ l < M 1 4)) := hret
  have hnl : T.2.2.2.2.2.2.2.2.2.2.1 = 2 := hnl
  show tu_W T 0 [(0, tu_r 1), (1, tu_i l)] [] M
  refine tu_iload_n 0 X 1 dX0_hasPhrase_0 rfl ?_
  refine tu_if_lt 1 X 16 dX0_hasPhrase_1 (by decide) (show tu_rg l from by first | assumption | exact ⟨by omega, by omega⟩) (fun br1 => ?_) (fun br1 => ?_)
  ·
    refine tu_iconst 16 X dX0_hasPhrase_16 ?_
    refine hret 17 _ _ 0 dX0_hasPhrase_17 (fun _ => Or.inl rfl) ?_
    exact ⟨rfl, (tu_b0 (by omega)).symm⟩
  ·
    refine tu_iload_n 4 X 1 dX0_hasPhrase_4 rfl ?_
    refine tu_aload_n 5 X 0 dX0_hasPhrase_5 rfl ?_
    refine tu_getI 6 X (x := M 1 4) dX0_hasPhrase_6 fl_RX0_25 (by decide) rfl rfl rfl ?_
    refine tu_icmp_ge 9 X 16 dX0_hasPhrase_9 (by decide) (show tu_rg l from by first | assumption | exact ⟨by omega, by omega⟩) (show tu_rg (M 1 4) from by first | assumption | exact ⟨by omega, by omega⟩) (fun br9 => ?_) (fun br9 => ?_)
    ·
      refine tu_iconst 16 X dX0_hasPhrase_16 ?_
      refine hret 17 _ _ 0 dX0_hasPhrase_17 (fun _ => Or.inl rfl) ?_
      exact ⟨rfl, (tu_b0 (by omega)).symm⟩
    ·
      refine tu_iconst 12 X dX0_hasPhrase_12 ?_
      refine tu_goto 13 X 17 dX0_hasPhrase_13 (by decide) ?_
      refine hret 17 _ _ 1 dX0_hasPhrase_17 (fun _ => Or.inr rfl) ?_
      exact ⟨rfl, (tu_b1 (by omega)).symm⟩
set_option maxRecDepth 20000 in
set_option maxHeartbeats 4000000 in
theorem c_X0_hasSyllable {M : tu_M} (l s : Int) (hl : tu_rg l) (hs : tu_rg s) (h1 : M 1 1 ≤ 16) (h1b : 0 ≤ M 1 1) (h2 : ∀ q : Nat, q < 16 → tu_rg (M 3 q)) : tu_MI tu_Y_X0_hasSyllable [tu_r 1, tu_i l, tu_i s] M (fun z M' => M' = M ∧ z = tu_b (0 ≤ l ∧ l < M 1 1 ∧ 0 ≤ s ∧ s < M 3 l.toNat)) := by
  refine tu_MI.of (ty := .boolean) (by decide) rfl (by first | exact Or.inl rfl | exact Or.inr rfl) (Nat.le_of_ble_eq_true rfl) (fun T (X : tu_X T cX0_hasSyllable RX0 1 21) hnl hrt hret => ?_)
  have hret : tu_RI T cX0_hasSyllable (fun z M' => M' = M ∧ z = tu_b (0 ≤ l ∧ l < M 1 1 ∧ 0 ≤ s ∧ s < M 3 l.toNat)) := hret
  have hnl : T.2.2.2.2.2.2.2.2.2.2.1 = 3 := hnl
  show tu_W T 0 [(0, tu_r 1), (1, tu_i l), (2, tu_i s)] [] M
  refine tu_aload_n 0 X 0 dX0_hasSyllable_0 rfl ?_
  refine tu_iload_n 1 X 1 dX0_hasSyllable_1 rfl ?_
  refine tu_callVI 2 X (st := []) (as := [tu_i l]) (c_X0_hasLine l (by first | assumption | omega | exact ⟨by omega, by omega⟩ | decide) (by exact ⟨by omega, by omega⟩)) sv_RX0_55 dX0_hasSyllable_2 rfl (by decide) rfl rfl rfl (by decide) ⟨by decide, by decide⟩ (fun z M' h => ?_)
  obtain ⟨hM2, hz2⟩ := h
  refine tu_st_eq rfl (M' := M) hM2 ?_
  refine tu_tp (b := tu_b (0 ≤ l ∧ l < M 1 1)) hz2 ?_
  refine tu_if_eq 5 X 26 dX0_hasSyllable_5 (by decide) tu_b_rg (fun br5 => ?_) (fun br5 => ?_)
  ·
    have br5 := tu_b_e0 br5
    refine tu_iconst 26 X dX0_hasSyllable_26 ?_
    refine hret 27 _ _ 0 dX0_hasSyllable_27 (fun _ => Or.inl rfl) ?_
    exact ⟨rfl, (tu_b0 (by omega)).symm⟩
  ·
    have br5 := tu_b_n0 br5
    refine tu_iload_n 8 X 2 dX0_hasSyllable_8 rfl ?_
    refine tu_if_lt 9 X 26 dX0_hasSyllable_9 (by decide) (show tu_rg s from by first | assumption | exact ⟨by omega, by omega⟩) (fun br9 => ?_) (fun br9 => ?_)
    ·
      refine tu_iconst 26 X dX0_hasSyllable_26 ?_
      refine hret 27 _ _ 0 dX0_hasSyllable_27 (fun _ => Or.inl rfl) ?_
      exact ⟨rfl, (tu_b0 (by omega)).symm⟩
    ·
      refine tu_iload_n 12 X 2 dX0_hasSyllable_12 rfl ?_
      refine tu_aload_n 13 X 0 dX0_hasSyllable_13 rfl ?_
      refine tu_getR 14 X dX0_hasSyllable_14 fl_RX0_19 (by decide) rfl rfl ?_
      refine tu_iload_n 17 X 1 dX0_hasSyllable_17 rfl ?_
      refine tu_iald 18 X (x := M 3 l.toNat) l.toNat dX0_hasSyllable_18 (by decide) rfl (by decide) (by omega) (by omega) rfl ?_
      have h3 := h2 l.toNat (by omega)
      refine tu_icmp_ge 19 X 26 dX0_hasSyllable_19 (by decide) (show tu_rg s from by first | assumption | exact ⟨by omega, by omega⟩) (show tu_rg (M 3 l.toNat) from by first | assumption | exact ⟨by omega, by omega⟩) (fun br19 => ?_) (fun br19 => ?_)
      ·
        refine tu_iconst 26 X dX0_hasSyllable_26 ?_
        refine hret 27 _ _ 0 dX0_hasSyllable_27 (fun _ => Or.inl rfl) ?_
        exact ⟨rfl, (tu_b0 (by omega)).symm⟩
      ·
        refine tu_iconst 22 X dX0_hasSyllable_22 ?_
        refine tu_goto 23 X 27 dX0_hasSyllable_23 (by decide) ?_
        refine hret 27 _ _ 1 dX0_hasSyllable_27 (fun _ => Or.inr rfl) ?_
        exact ⟨rfl, (tu_b1 (by omega)).symm⟩
