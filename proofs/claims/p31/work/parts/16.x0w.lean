set_option maxRecDepth 20000 in
set_option maxHeartbeats 4000000 in
theorem c_X0_beginPart_1 {M : tu_M}  (hB : (0 ≤ M 1 1 ∧ M 1 1 ≤ 16) ∧ (0 ≤ M 1 4 ∧ M 1 4 ≤ 8)) (hp : M 1 4 < 8) : tu_MV tu_Y_X0_beginPart [tu_r 1, tu_i 1] M (fun M' => M' = tu_row (tu_row M 1 (tu_u (M 1) 4 ((M 1 4) + 1))) 5 (tu_u (M 5) (M 1 4).toNat 0)) := by
  refine tu_MV.of (by decide) rfl (Nat.le_of_ble_eq_true rfl) (fun T (X : tu_X T cX0_beginPart RX0 0 0) hnl hret => ?_)
  have hret : tu_RV T cX0_beginPart (fun M' => M' = tu_row (tu_row M 1 (tu_u (M 1) 4 ((M 1 4) + 1))) 5 (tu_u (M 5) (M 1 4).toNat 0)) := hret
  have hnl : T.2.2.2.2.2.2.2.2.2.2.1 = 2 := hnl
  show tu_W T 0 [(0, tu_r 1), (1, tu_i 1)] [] M
  refine tu_iload_n 0 X 1 dX0_beginPart_0 rfl ?_
  refine tu_if_eq 1 X 36 dX0_beginPart_1 (by decide) ⟨by decide, by decide⟩ (fun br1 => ?_) (fun br1 => ?_)
  ·
    exfalso; omega
  ·
    refine tu_aload_n 4 X 0 dX0_beginPart_4 rfl ?_
    refine tu_getI 5 X (x := M 1 4) dX0_beginPart_5 fl_RX0_25 (by decide) rfl rfl rfl ?_
    refine tu_bipush 8 X dX0_beginPart_8 (by decide) ?_
    refine tu_icmp_ge 10 X 36 dX0_beginPart_10 (by decide) (show tu_rg (M 1 4) from by first | assumption | exact ⟨by omega, by omega⟩) ⟨by decide, by decide⟩ (fun br10 => ?_) (fun br10 => ?_)
    ·
      exfalso; omega
    ·
      refine tu_aload_n 13 X 0 dX0_beginPart_13 rfl ?_
      refine tu_getR 14 X dX0_beginPart_14 fl_RX0_28 (by decide) rfl rfl ?_
      refine tu_aload_n 17 X 0 dX0_beginPart_17 rfl ?_
      refine tu_getI 18 X (x := M 1 4) dX0_beginPart_18 fl_RX0_25 (by decide) rfl rfl rfl ?_
      refine tu_iconst 21 X dX0_beginPart_21 ?_
      refine tu_iast 22 X (M' := tu_row M 5 (tu_u (M 5) ((M 1 4).toNat) 0)) ((M 1 4).toNat) dX0_beginPart_22 (by decide) rfl (by decide) (by omega) (by omega) rfl ?_
      refine tu_aload_n 23 X 0 dX0_beginPart_23 rfl ?_
      refine tu_dup 24 X dX0_beginPart_24 rfl ?_
      refine tu_getI 25 X (x := M 1 4) dX0_beginPart_25 fl_RX0_25 (by decide) rfl rfl rfl ?_
      refine tu_iconst 28 X dX0_beginPart_28 ?_
      refine tu_iadd 29 X dX0_beginPart_29 ?_
      refine tu_putI 30 X (M' := tu_row (tu_row M 1 (tu_u (M 1) 4 ((M 1 4) + 1))) 5 (tu_u (M 5) ((M 1 4).toNat) 0)) dX0_beginPart_30 fp_RX0_25 (by decide) rfl rfl (tu_rc M (tu_u (M 5) ((M 1 4).toNat) 0) (tu_u (M 1) 4 ((M 1 4) + 1)) rfl) ?_
      refine tu_goto 33 X 69 dX0_beginPart_33 (by decide) ?_
      refine hret 69 _ _ dX0_beginPart_69 ?_
      exact rfl
set_option maxRecDepth 20000 in
set_option maxHeartbeats 4000000 in
theorem c_X0_beginPart_0 {M : tu_M}  (hB : (0 ≤ M 1 1 ∧ M 1 1 ≤ 16) ∧ (0 ≤ M 1 4 ∧ M 1 4 ≤ 8)) (hp : M 1 1 < 16) : tu_MV tu_Y_X0_beginPart [tu_r 1, tu_i 0] M (fun M' => M' = tu_row (tu_row M 1 (tu_u (M 1) 1 ((M 1 1) + 1))) 3 (tu_u (M 3) (M 1 1).toNat 0)) := by
  refine tu_MV.of (by decide) rfl (Nat.le_of_ble_eq_true rfl) (fun T (X : tu_X T cX0_beginPart RX0 0 0) hnl hret => ?_)
  have hret : tu_RV T cX0_beginPart (fun M' => M' = tu_row (tu_row M 1 (tu_u (M 1) 1 ((M 1 1) + 1))) 3 (tu_u (M 3) (M 1 1).toNat 0)) := hret
  have hnl : T.2.2.2.2.2.2.2.2.2.2.1 = 2 := hnl
  show tu_W T 0 [(0, tu_r 1), (1, tu_i 0)] [] M
  refine tu_iload_n 0 X 1 dX0_beginPart_0 rfl ?_
  refine tu_if_eq 1 X 36 dX0_beginPart_1 (by decide) ⟨by decide, by decide⟩ (fun br1 => ?_) (fun br1 => ?_)
  ·
    refine tu_iload_n 36 X 1 dX0_beginPart_36 rfl ?_
    refine tu_if_ne 37 X 69 dX0_beginPart_37 (by decide) ⟨by decide, by decide⟩ (fun br37 => ?_) (fun br37 => ?_)
    ·
      exfalso; omega
    ·
      refine tu_aload_n 40 X 0 dX0_beginPart_40 rfl ?_
      refine tu_getI 41 X (x := M 1 1) dX0_beginPart_41 fl_RX0_15 (by decide) rfl rfl rfl ?_
      refine tu_bipush 44 X dX0_beginPart_44 (by decide) ?_
      refine tu_icmp_ge 46 X 69 dX0_beginPart_46 (by decide) (show tu_rg (M 1 1) from by first | assumption | exact ⟨by omega, by omega⟩) ⟨by decide, by decide⟩ (fun br46 => ?_) (fun br46 => ?_)
      ·
        exfalso; omega
      ·
        refine tu_aload_n 49 X 0 dX0_beginPart_49 rfl ?_
        refine tu_getR 50 X dX0_beginPart_50 fl_RX0_19 (by decide) rfl rfl ?_
        refine tu_aload_n 53 X 0 dX0_beginPart_53 rfl ?_
        refine tu_getI 54 X (x := M 1 1) dX0_beginPart_54 fl_RX0_15 (by decide) rfl rfl rfl ?_
        refine tu_iconst 57 X dX0_beginPart_57 ?_
        refine tu_iast 58 X (M' := tu_row M 3 (tu_u (M 3) ((M 1 1).toNat) 0)) ((M 1 1).toNat) dX0_beginPart_58 (by decide) rfl (by decide) (by omega) (by omega) rfl ?_
        refine tu_aload_n 59 X 0 dX0_beginPart_59 rfl ?_
        refine tu_dup 60 X dX0_beginPart_60 rfl ?_
        refine tu_getI 61 X (x := M 1 1) dX0_beginPart_61 fl_RX0_15 (by decide) rfl rfl rfl ?_
        refine tu_iconst 64 X dX0_beginPart_64 ?_
        refine tu_iadd 65 X dX0_beginPart_65 ?_
        refine tu_putI 66 X (M' := tu_row (tu_row M 1 (tu_u (M 1) 1 ((M 1 1) + 1))) 3 (tu_u (M 3) ((M 1 1).toNat) 0)) dX0_beginPart_66 fp_RX0_15 (by decide) rfl rfl (tu_rc M (tu_u (M 3) ((M 1 1).toNat) 0) (tu_u (M 1) 1 ((M 1 1) + 1)) rfl) ?_
        refine hret 69 _ _ dX0_beginPart_69 ?_
        exact rfl
  ·
    exfalso; omega
set_option maxRecDepth 20000 in
set_option maxHeartbeats 4000000 in
theorem c_X0_addSyllable {M : tu_M} (ln sn : Nat) (w : Int) (hl : M 1 1 = (ln : Int) + 1) (h16 : ln < 16) (hs : M 3 ln = (sn : Int)) (hs16 : sn < 16) : tu_MV tu_Y_X0_addSyllable [tu_r 1, tu_i w] M (fun M' => M' = tu_row (tu_row M 3 (tu_u (M 3) ln (((sn : Nat) : Int) + 1))) 4 (tu_u (M 4) ((ln * 16) + sn) w)) := by
  refine tu_MV.of (by decide) rfl (Nat.le_of_ble_eq_true rfl) (fun T (X : tu_X T cX0_addSyllable RX0 0 0) hnl hret => ?_)
  have hret : tu_RV T cX0_addSyllable (fun M' => M' = tu_row (tu_row M 3 (tu_u (M 3) ln (((sn : Nat) : Int) + 1))) 4 (tu_u (M 4) ((ln * 16) + sn) w)) := hret
  have hnl : T.2.2.2.2.2.2.2.2.2.2.1 = 3 := hnl
  show tu_W T 0 [(0, tu_r 1), (1, tu_i w)] [] M
  refine tu_aload_n 0 X 0 dX0_addSyllable_0 rfl ?_
  refine tu_getI 1 X (x := M 1 1) dX0_addSyllable_1 fl_RX0_15 (by decide) rfl rfl rfl ?_
  refine tu_iconst 4 X dX0_addSyllable_4 ?_
  refine tu_isub 5 X dX0_addSyllable_5 ?_
  refine tu_tp (b := ((ln : Nat) : Int)) (by omega) ?_
  refine tu_istore_n 6 X (lv' := [(2, tu_i ((ln : Nat) : Int)), (0, tu_r 1), (1, tu_i w)]) dX0_addSyllable_6 (by rw [hnl]; decide) rfl ?_
  refine tu_iload_n 7 X 0 dX0_addSyllable_7 rfl ?_
  refine tu_if_lt 8 X 49 dX0_addSyllable_8 (by decide) (show tu_rg ((ln : Nat) : Int) from by first | assumption | exact ⟨by omega, by omega⟩) (fun br8 => ?_) (fun br8 => ?_)
  ·
    exfalso; omega
  ·
    refine tu_aload_n 11 X 1 dX0_addSyllable_11 rfl ?_
    refine tu_getR 12 X dX0_addSyllable_12 fl_RX0_19 (by decide) rfl rfl ?_
    refine tu_iload_n 15 X 0 dX0_addSyllable_15 rfl ?_
    refine tu_iald 16 X (x := M 3 ln) ln dX0_addSyllable_16 (by decide) rfl (by decide) (by omega) (by omega) rfl ?_
    refine tu_tp (b := ((sn : Nat) : Int)) (by omega) ?_
    refine tu_bipush 17 X dX0_addSyllable_17 (by decide) ?_
    refine tu_icmp_ge 19 X 49 dX0_addSyllable_19 (by decide) (show tu_rg ((sn : Nat) : Int) from by first | assumption | exact ⟨by omega, by omega⟩) ⟨by decide, by decide⟩ (fun br19 => ?_) (fun br19 => ?_)
    ·
      exfalso; omega
    ·
      refine tu_aload_n 22 X 1 dX0_addSyllable_22 rfl ?_
      refine tu_getR 23 X dX0_addSyllable_23 fl_RX0_22 (by decide) rfl rfl ?_
      refine tu_iload_n 26 X 0 dX0_addSyllable_26 rfl ?_
      refine tu_bipush 27 X dX0_addSyllable_27 (by decide) ?_
      refine tu_imul 29 X dX0_addSyllable_29 ?_
      refine tu_aload_n 30 X 1 dX0_addSyllable_30 rfl ?_
      refine tu_getR 31 X dX0_addSyllable_31 fl_RX0_19 (by decide) rfl rfl ?_
      refine tu_iload_n 34 X 0 dX0_addSyllable_34 rfl ?_
      refine tu_iald 35 X (x := M 3 ln) ln dX0_addSyllable_35 (by decide) rfl (by decide) (by omega) (by omega) rfl ?_
      refine tu_tp (b := ((sn : Nat) : Int)) (by omega) ?_
      refine tu_iadd 36 X dX0_addSyllable_36 ?_
      refine tu_iload_n 37 X 2 dX0_addSyllable_37 rfl ?_
      refine tu_iast 38 X (M' := tu_row M 4 (tu_u (M 4) ((ln * 16) + sn) w)) ((ln * 16) + sn) dX0_addSyllable_38 (by decide) rfl (by decide) (by omega) (by omega) rfl ?_
      refine tu_aload_n 39 X 1 dX0_addSyllable_39 rfl ?_
      refine tu_getR 40 X dX0_addSyllable_40 fl_RX0_19 (by decide) rfl rfl ?_
      refine tu_iload_n 43 X 0 dX0_addSyllable_43 rfl ?_
      refine tu_dup2 44 X dX0_addSyllable_44 rfl rfl ?_
      refine tu_iald 45 X (x := M 3 ln) ln dX0_addSyllable_45 (by decide) rfl (by decide) (by omega) (by omega) rfl ?_
      refine tu_tp (b := ((sn : Nat) : Int)) (by omega) ?_
      refine tu_iconst 46 X dX0_addSyllable_46 ?_
      refine tu_iadd 47 X dX0_addSyllable_47 ?_
      refine tu_iast 48 X (M' := tu_row (tu_row M 3 (tu_u (M 3) ln (((sn : Nat) : Int) + 1))) 4 (tu_u (M 4) ((ln * 16) + sn) w)) ln dX0_addSyllable_48 (by decide) rfl (by decide) (by omega) (by omega) (tu_rc M (tu_u (M 4) ((ln * 16) + sn) w) (tu_u (M 3) ln (((sn : Nat) : Int) + 1)) rfl) ?_
      refine hret 49 _ _ dX0_addSyllable_49 ?_
      exact rfl
set_option maxRecDepth 20000 in
set_option maxHeartbeats 4000000 in
theorem c_X0_addBeat {M : tu_M} (ln sn : Nat) (w : Int) (hl : M 1 4 = (ln : Int) + 1) (h16 : ln < 8) (hs : M 5 ln = (sn : Int)) (hs16 : sn < 24) : tu_MV tu_Y_X0_addBeat [tu_r 1, tu_i w] M (fun M' => M' = tu_row (tu_row M 5 (tu_u (M 5) ln (((sn : Nat) : Int) + 1))) 6 (tu_u (M 6) ((ln * 24) + sn) w)) := by
  refine tu_MV.of (by decide) rfl (Nat.le_of_ble_eq_true rfl) (fun T (X : tu_X T cX0_addBeat RX0 0 0) hnl hret => ?_)
  have hret : tu_RV T cX0_addBeat (fun M' => M' = tu_row (tu_row M 5 (tu_u (M 5) ln (((sn : Nat) : Int) + 1))) 6 (tu_u (M 6) ((ln * 24) + sn) w)) := hret
  have hnl : T.2.2.2.2.2.2.2.2.2.2.1 = 3 := hnl
  show tu_W T 0 [(0, tu_r 1), (1, tu_i w)] [] M
  refine tu_aload_n 0 X 0 dX0_addBeat_0 rfl ?_
  refine tu_getI 1 X (x := M 1 4) dX0_addBeat_1 fl_RX0_25 (by decide) rfl rfl rfl ?_
  refine tu_iconst 4 X dX0_addBeat_4 ?_
  refine tu_isub 5 X dX0_addBeat_5 ?_
  refine tu_tp (b := ((ln : Nat) : Int)) (by omega) ?_
  refine tu_istore_n 6 X (lv' := [(2, tu_i ((ln : Nat) : Int)), (0, tu_r 1), (1, tu_i w)]) dX0_addBeat_6 (by rw [hnl]; decide) rfl ?_
  refine tu_iload_n 7 X 0 dX0_addBeat_7 rfl ?_
  refine tu_if_lt 8 X 49 dX0_addBeat_8 (by decide) (show tu_rg ((ln : Nat) : Int) from by first | assumption | exact ⟨by omega, by omega⟩) (fun br8 => ?_) (fun br8 => ?_)
  ·
    exfalso; omega
  ·
    refine tu_aload_n 11 X 1 dX0_addBeat_11 rfl ?_
    refine tu_getR 12 X dX0_addBeat_12 fl_RX0_28 (by decide) rfl rfl ?_
    refine tu_iload_n 15 X 0 dX0_addBeat_15 rfl ?_
    refine tu_iald 16 X (x := M 5 ln) ln dX0_addBeat_16 (by decide) rfl (by decide) (by omega) (by omega) rfl ?_
    refine tu_tp (b := ((sn : Nat) : Int)) (by omega) ?_
    refine tu_bipush 17 X dX0_addBeat_17 (by decide) ?_
    refine tu_icmp_ge 19 X 49 dX0_addBeat_19 (by decide) (show tu_rg ((sn : Nat) : Int) from by first | assumption | exact ⟨by omega, by omega⟩) ⟨by decide, by decide⟩ (fun br19 => ?_) (fun br19 => ?_)
    ·
      exfalso; omega
    ·
      refine tu_aload_n 22 X 1 dX0_addBeat_22 rfl ?_
      refine tu_getR 23 X dX0_addBeat_23 fl_RX0_31 (by decide) rfl rfl ?_
      refine tu_iload_n 26 X 0 dX0_addBeat_26 rfl ?_
      refine tu_bipush 27 X dX0_addBeat_27 (by decide) ?_
      refine tu_imul 29 X dX0_addBeat_29 ?_
      refine tu_aload_n 30 X 1 dX0_addBeat_30 rfl ?_
      refine tu_getR 31 X dX0_addBeat_31 fl_RX0_28 (by decide) rfl rfl ?_
      refine tu_iload_n 34 X 0 dX0_addBeat_34 rfl ?_
      refine tu_iald 35 X (x := M 5 ln) ln dX0_addBeat_35 (by decide) rfl (by decide) (by omega) (by omega) rfl ?_
      refine tu_tp (b := ((sn : Nat) : Int)) (by omega) ?_
      refine tu_iadd 36 X dX0_addBeat_36 ?_
      refine tu_iload_n 37 X 2 dX0_addBeat_37 rfl ?_
      refine tu_iast 38 X (M' := tu_row M 6 (tu_u (M 6) ((ln * 24) + sn) w)) ((ln * 24) + sn) dX0_addBeat_38 (by decide) rfl (by decide) (by omega) (by omega) rfl ?_
      refine tu_aload_n 39 X 1 dX0_addBeat_39 rfl ?_
      refine tu_getR 40 X dX0_addBeat_40 fl_RX0_28 (by decide) rfl rfl ?_
      refine tu_iload_n 43 X 0 dX0_addBeat_43 rfl ?_
      refine tu_dup2 44 X dX0_addBeat_44 rfl rfl ?_
      refine tu_iald 45 X (x := M 5 ln) ln dX0_addBeat_45 (by decide) rfl (by decide) (by omega) (by omega) rfl ?_
      refine tu_tp (b := ((sn : Nat) : Int)) (by omega) ?_
      refine tu_iconst 46 X dX0_addBeat_46 ?_
      refine tu_iadd 47 X dX0_addBeat_47 ?_
      refine tu_iast 48 X (M' := tu_row (tu_row M 5 (tu_u (M 5) ln (((sn : Nat) : Int) + 1))) 6 (tu_u (M 6) ((ln * 24) + sn) w)) ln dX0_addBeat_48 (by decide) rfl (by decide) (by omega) (by omega) (tu_rc M (tu_u (M 6) ((ln * 24) + sn) w) (tu_u (M 5) ln (((sn : Nat) : Int) + 1)) rfl) ?_
      refine hret 49 _ _ dX0_addBeat_49 ?_
      exact rfl
set_option maxRecDepth 20000 in
set_option maxHeartbeats 4000000 in
theorem c_X0_addSign_s {M : tu_M} (ln sn : Nat) (c : Int) (hc : c = 120 ∨ c = 88) (hl : M 1 1 = (ln : Int) + 1) (h16 : ln < 16) (hs : M 3 ln = (sn : Int)) (hs16 : sn < 16) : tu_MV tu_Y_X0_addSign [tu_r 1, tu_i c] M (fun M' => M' = tu_row (tu_row M 3 (tu_u (M 3) ln (((sn : Nat) : Int) + 1))) 4 (tu_u (M 4) ((ln * 16) + sn) (if c = 88 then 1 else 0))) := by
  refine tu_MV.of (by decide) rfl (Nat.le_of_ble_eq_true rfl) (fun T (X : tu_X T cX0_addSign RX0 1 22) hnl hret => ?_)
  have hret : tu_RV T cX0_addSign (fun M' => M' = tu_row (tu_row M 3 (tu_u (M 3) ln (((sn : Nat) : Int) + 1))) 4 (tu_u (M 4) ((ln * 16) + sn) (if c = 88 then 1 else 0))) := hret
  have hnl : T.2.2.2.2.2.2.2.2.2.2.1 = 2 := hnl
  show tu_W T 0 [(0, tu_r 1), (1, tu_i c)] [] M
  refine tu_iload_n 0 X 1 dX0_addSign_0 rfl ?_
  refine tu_callSI 1 X (st := []) (as := [tu_i c]) (c_X2_isSyllable c (show tu_rg c from by first | assumption | omega | exact ⟨by omega, by omega⟩ | decide)) ss_RX0_62 dX0_addSign_1 rfl (Nat.le_of_ble_eq_true rfl) ⟨by decide, by decide⟩ (fun z M' h => ?_)
  obtain ⟨hM1, hz1⟩ := h
  refine tu_st_eq rfl (M' := M) hM1 ?_
  refine tu_tp (b := tu_b (c = 120 ∨ c = 88)) hz1 ?_
  refine tu_if_eq 4 X 25 dX0_addSign_4 (by decide) tu_b_rg (fun br4 => ?_) (fun br4 => ?_)
  ·
    have br4 := tu_b_e0 br4
    exfalso; omega
  ·
    have br4 := tu_b_n0 br4
    refine tu_aload_n 7 X 0 dX0_addSign_7 rfl ?_
    refine tu_iload_n 8 X 1 dX0_addSign_8 rfl ?_
    refine tu_bipush 9 X dX0_addSign_9 (by decide) ?_
    refine tu_icmp_ne 11 X 18 dX0_addSign_11 (by decide) (show tu_rg c from by first | assumption | exact ⟨by omega, by omega⟩) ⟨by decide, by decide⟩ (fun br11 => ?_) (fun br11 => ?_)
    ·
      refine tu_iconst 18 X dX0_addSign_18 ?_
      refine tu_callVV 19 X (st := []) (as := [tu_i 0]) (c_X0_addSyllable ln sn 0 (show M 1 1 = (ln : Int) + 1 from by first | assumption | omega | exact ⟨by omega, by omega⟩ | decide) (show ln < 16 from by first | assumption | omega | exact ⟨by omega, by omega⟩ | decide) (show M 3 ln = (sn : Int) from by first | assumption | omega | exact ⟨by omega, by omega⟩ | decide) (show sn < 16 from by first | assumption | omega | exact ⟨by omega, by omega⟩ | decide)) sv_RX0_68 dX0_addSign_19 rfl (by decide) rfl rfl rfl (Nat.le_of_ble_eq_true rfl) ⟨by decide, by decide⟩ (fun M' h => ?_)
      have hM19 := h
      refine tu_st_eq rfl (M' := tu_row (tu_row M 3 (tu_u (M 3) ln (((sn : Nat) : Int) + 1))) 4 (tu_u (M 4) ((ln * 16) + sn) 0)) hM19 ?_
      refine tu_goto 22 X 57 dX0_addSign_22 (by decide) ?_
      refine hret 57 _ _ dX0_addSign_57 ?_
      first | rw [if_pos (by omega)] | rw [if_neg (by omega)]
    ·
      refine tu_iconst 14 X dX0_addSign_14 ?_
      refine tu_goto 15 X 19 dX0_addSign_15 (by decide) ?_
      refine tu_callVV 19 X (st := []) (as := [tu_i 1]) (c_X0_addSyllable ln sn 1 (show M 1 1 = (ln : Int) + 1 from by first | assumption | omega | exact ⟨by omega, by omega⟩ | decide) (show ln < 16 from by first | assumption | omega | exact ⟨by omega, by omega⟩ | decide) (show M 3 ln = (sn : Int) from by first | assumption | omega | exact ⟨by omega, by omega⟩ | decide) (show sn < 16 from by first | assumption | omega | exact ⟨by omega, by omega⟩ | decide)) sv_RX0_68 dX0_addSign_19 rfl (by decide) rfl rfl rfl (Nat.le_of_ble_eq_true rfl) ⟨by decide, by decide⟩ (fun M' h => ?_)
      have hM19 := h
      refine tu_st_eq rfl (M' := tu_row (tu_row M 3 (tu_u (M 3) ln (((sn : Nat) : Int) + 1))) 4 (tu_u (M 4) ((ln * 16) + sn) 1)) hM19 ?_
      refine tu_goto 22 X 57 dX0_addSign_22 (by decide) ?_
      refine hret 57 _ _ dX0_addSign_57 ?_
      first | rw [if_pos (by omega)] | rw [if_neg (by omega)]
set_option maxRecDepth 20000 in
set_option maxHeartbeats 4000000 in
theorem c_X0_addSign_b {M : tu_M} (ln sn : Nat) (c : Int) (hc : c = 115 ∨ c = 119 ∨ c = 46) (hl : M 1 4 = (ln : Int) + 1) (h16 : ln < 8) (hs : M 5 ln = (sn : Int)) (hs16 : sn < 24) : tu_MV tu_Y_X0_addSign [tu_r 1, tu_i c] M (fun M' => M' = tu_row (tu_row M 5 (tu_u (M 5) ln (((sn : Nat) : Int) + 1))) 6 (tu_u (M 6) ((ln * 24) + sn) (if c = 115 then 2 else if c = 119 then 1 else 0))) := by
  refine tu_MV.of (by decide) rfl (Nat.le_of_ble_eq_true rfl) (fun T (X : tu_X T cX0_addSign RX0 1 22) hnl hret => ?_)
  have hret : tu_RV T cX0_addSign (fun M' => M' = tu_row (tu_row M 5 (tu_u (M 5) ln (((sn : Nat) : Int) + 1))) 6 (tu_u (M 6) ((ln * 24) + sn) (if c = 115 then 2 else if c = 119 then 1 else 0))) := hret
  have hnl : T.2.2.2.2.2.2.2.2.2.2.1 = 2 := hnl
  show tu_W T 0 [(0, tu_r 1), (1, tu_i c)] [] M
  refine tu_iload_n 0 X 1 dX0_addSign_0 rfl ?_
  refine tu_callSI 1 X (st := []) (as := [tu_i c]) (c_X2_isSyllable c (show tu_rg c from by first | assumption | omega | exact ⟨by omega, by omega⟩ | decide)) ss_RX0_62 dX0_addSign_1 rfl (Nat.le_of_ble_eq_true rfl) ⟨by decide, by decide⟩ (fun z M' h => ?_)
  obtain ⟨hM1, hz1⟩ := h
  refine tu_st_eq rfl (M' := M) hM1 ?_
  refine tu_tp (b := tu_b (c = 120 ∨ c = 88)) hz1 ?_
  refine tu_if_eq 4 X 25 dX0_addSign_4 (by decide) tu_b_rg (fun br4 => ?_) (fun br4 => ?_)
  ·
    have br4 := tu_b_e0 br4
    refine tu_iload_n 25 X 1 dX0_addSign_25 rfl ?_
    refine tu_callSI 26 X (st := []) (as := [tu_i c]) (c_X2_isBeat c (show tu_rg c from by first | assumption | omega | exact ⟨by omega, by omega⟩ | decide)) ss_RX0_72 dX0_addSign_26 rfl (Nat.le_of_ble_eq_true rfl) ⟨by decide, by decide⟩ (fun z M' h => ?_)
    obtain ⟨hM26, hz26⟩ := h
    refine tu_st_eq rfl (M' := M) hM26 ?_
    refine tu_tp (b := tu_b (c = 115 ∨ c = 119 ∨ c = 46)) hz26 ?_
    refine tu_if_eq 29 X 57 dX0_addSign_29 (by decide) tu_b_rg (fun br29 => ?_) (fun br29 => ?_)
    ·
      have br29 := tu_b_e0 br29
      exfalso; omega
    ·
      have br29 := tu_b_n0 br29
      refine tu_aload_n 32 X 0 dX0_addSign_32 rfl ?_
      refine tu_iload_n 33 X 1 dX0_addSign_33 rfl ?_
      refine tu_bipush 34 X dX0_addSign_34 (by decide) ?_
      refine tu_icmp_ne 36 X 43 dX0_addSign_36 (by decide) (show tu_rg c from by first | assumption | exact ⟨by omega, by omega⟩) ⟨by decide, by decide⟩ (fun br36 => ?_) (fun br36 => ?_)
      ·
        refine tu_iload_n 43 X 1 dX0_addSign_43 rfl ?_
        refine tu_bipush 44 X dX0_addSign_44 (by decide) ?_
        refine tu_icmp_ne 46 X 53 dX0_addSign_46 (by decide) (show tu_rg c from by first | assumption | exact ⟨by omega, by omega⟩) ⟨by decide, by decide⟩ (fun br46 => ?_) (fun br46 => ?_)
        ·
          refine tu_iconst 53 X dX0_addSign_53 ?_
          refine tu_callVV 54 X (st := []) (as := [tu_i 0]) (c_X0_addBeat ln sn 0 (show M 1 4 = (ln : Int) + 1 from by first | assumption | omega | exact ⟨by omega, by omega⟩ | decide) (show ln < 8 from by first | assumption | omega | exact ⟨by omega, by omega⟩ | decide) (show M 5 ln = (sn : Int) from by first | assumption | omega | exact ⟨by omega, by omega⟩ | decide) (show sn < 24 from by first | assumption | omega | exact ⟨by omega, by omega⟩ | decide)) sv_RX0_75 dX0_addSign_54 rfl (by decide) rfl rfl rfl (Nat.le_of_ble_eq_true rfl) ⟨by decide, by decide⟩ (fun M' h => ?_)
          have hM54 := h
          refine tu_st_eq rfl (M' := tu_row (tu_row M 5 (tu_u (M 5) ln (((sn : Nat) : Int) + 1))) 6 (tu_u (M 6) ((ln * 24) + sn) 0)) hM54 ?_
          refine hret 57 _ _ dX0_addSign_57 ?_
          first | rw [if_pos (by omega)] | rw [if_neg (by omega), if_pos (by omega)] | rw [if_neg (by omega), if_neg (by omega)]
        ·
          refine tu_iconst 49 X dX0_addSign_49 ?_
          refine tu_goto 50 X 54 dX0_addSign_50 (by decide) ?_
          refine tu_callVV 54 X (st := []) (as := [tu_i 1]) (c_X0_addBeat ln sn 1 (show M 1 4 = (ln : Int) + 1 from by first | assumption | omega | exact ⟨by omega, by omega⟩ | decide) (show ln < 8 from by first | assumption | omega | exact ⟨by omega, by omega⟩ | decide) (show M 5 ln = (sn : Int) from by first | assumption | omega | exact ⟨by omega, by omega⟩ | decide) (show sn < 24 from by first | assumption | omega | exact ⟨by omega, by omega⟩ | decide)) sv_RX0_75 dX0_addSign_54 rfl (by decide) rfl rfl rfl (Nat.le_of_ble_eq_true rfl) ⟨by decide, by decide⟩ (fun M' h => ?_)
          have hM54 := h
          refine tu_st_eq rfl (M' := tu_row (tu_row M 5 (tu_u (M 5) ln (((sn : Nat) : Int) + 1))) 6 (tu_u (M 6) ((ln * 24) + sn) 1)) hM54 ?_
          refine hret 57 _ _ dX0_addSign_57 ?_
          first | rw [if_pos (by omega)] | rw [if_neg (by omega), if_pos (by omega)] | rw [if_neg (by omega), if_neg (by omega)]
      ·
        refine tu_iconst 39 X dX0_addSign_39 ?_
        refine tu_goto 40 X 54 dX0_addSign_40 (by decide) ?_
        refine tu_callVV 54 X (st := []) (as := [tu_i 2]) (c_X0_addBeat ln sn 2 (show M 1 4 = (ln : Int) + 1 from by first | assumption | omega | exact ⟨by omega, by omega⟩ | decide) (show ln < 8 from by first | assumption | omega | exact ⟨by omega, by omega⟩ | decide) (show M 5 ln = (sn : Int) from by first | assumption | omega | exact ⟨by omega, by omega⟩ | decide) (show sn < 24 from by first | assumption | omega | exact ⟨by omega, by omega⟩ | decide)) sv_RX0_75 dX0_addSign_54 rfl (by decide) rfl rfl rfl (Nat.le_of_ble_eq_true rfl) ⟨by decide, by decide⟩ (fun M' h => ?_)
        have hM54 := h
        refine tu_st_eq rfl (M' := tu_row (tu_row M 5 (tu_u (M 5) ln (((sn : Nat) : Int) + 1))) 6 (tu_u (M 6) ((ln * 24) + sn) 2)) hM54 ?_
        refine hret 57 _ _ dX0_addSign_57 ?_
        first | rw [if_pos (by omega)] | rw [if_neg (by omega), if_pos (by omega)] | rw [if_neg (by omega), if_neg (by omega)]
  ·
    have br4 := tu_b_n0 br4
    exfalso; omega
set_option maxRecDepth 20000 in
set_option maxHeartbeats 4000000 in
theorem c_X0_addSign_n {M : tu_M} (c : Int) (hc : c = 59 ∨ c = 124) : tu_MV tu_Y_X0_addSign [tu_r 1, tu_i c] M (fun M' => M' = M) := by
  refine tu_MV.of (by decide) rfl (Nat.le_of_ble_eq_true rfl) (fun T (X : tu_X T cX0_addSign RX0 1 22) hnl hret => ?_)
  have hret : tu_RV T cX0_addSign (fun M' => M' = M) := hret
  have hnl : T.2.2.2.2.2.2.2.2.2.2.1 = 2 := hnl
  show tu_W T 0 [(0, tu_r 1), (1, tu_i c)] [] M
  refine tu_iload_n 0 X 1 dX0_addSign_0 rfl ?_
  refine tu_callSI 1 X (st := []) (as := [tu_i c]) (c_X2_isSyllable c (show tu_rg c from by first | assumption | omega | exact ⟨by omega, by omega⟩ | decide)) ss_RX0_62 dX0_addSign_1 rfl (Nat.le_of_ble_eq_true rfl) ⟨by decide, by decide⟩ (fun z M' h => ?_)
  obtain ⟨hM1, hz1⟩ := h
  refine tu_st_eq rfl (M' := M) hM1 ?_
  refine tu_tp (b := tu_b (c = 120 ∨ c = 88)) hz1 ?_
  refine tu_if_eq 4 X 25 dX0_addSign_4 (by decide) tu_b_rg (fun br4 => ?_) (fun br4 => ?_)
  ·
    have br4 := tu_b_e0 br4
    refine tu_iload_n 25 X 1 dX0_addSign_25 rfl ?_
    refine tu_callSI 26 X (st := []) (as := [tu_i c]) (c_X2_isBeat c (show tu_rg c from by first | assumption | omega | exact ⟨by omega, by omega⟩ | decide)) ss_RX0_72 dX0_addSign_26 rfl (Nat.le_of_ble_eq_true rfl) ⟨by decide, by decide⟩ (fun z M' h => ?_)
    obtain ⟨hM26, hz26⟩ := h
    refine tu_st_eq rfl (M' := M) hM26 ?_
    refine tu_tp (b := tu_b (c = 115 ∨ c = 119 ∨ c = 46)) hz26 ?_
    refine tu_if_eq 29 X 57 dX0_addSign_29 (by decide) tu_b_rg (fun br29 => ?_) (fun br29 => ?_)
    ·
      have br29 := tu_b_e0 br29
      refine hret 57 _ _ dX0_addSign_57 ?_
      exact rfl
    ·
      have br29 := tu_b_n0 br29
      exfalso; omega
  ·
    have br4 := tu_b_n0 br4
    exfalso; omega
set_option maxRecDepth 20000 in
set_option maxHeartbeats 4000000 in
theorem c_X0_withoutNumber_7 {M : tu_M} (L : Nat) (w : Int) (hL : L ≤ 40) (hw : tu_rg w) (hr : ∀ k : Nat, k < L → tu_rg (M 7 k)) : tu_MI tu_Y_X0_withoutNumber [tu_r 7, tu_i ((L : Nat) : Int), tu_i w] M (fun z M' => M' = tu_row M 7 (tu_wr (M 7) 0 w L) ∧ z = ((tu_kc (M 7) 0 w L : Nat) : Int)) := by
  refine tu_MI.of (ty := .int) (by decide) rfl (by first | exact Or.inl rfl | exact Or.inr rfl) (Nat.le_of_ble_eq_true rfl) (fun T (X : tu_X T cX0_withoutNumber RX0 0 0) hnl hrt hret => ?_)
  have hret : tu_RI T cX0_withoutNumber (fun z M' => M' = tu_row M 7 (tu_wr (M 7) 0 w L) ∧ z = ((tu_kc (M 7) 0 w L : Nat) : Int)) := hret
  have hnl : T.2.2.2.2.2.2.2.2.2.2.1 = 5 := hnl
  show tu_W T 0 [(0, tu_r 7), (1, tu_i ((L : Nat) : Int)), (2, tu_i w)] [] M
  refine tu_iconst 0 X dX0_withoutNumber_0 ?_
  refine tu_istore_n 1 X (lv' := [(3, tu_i 0), (0, tu_r 7), (1, tu_i ((L : Nat) : Int)), (2, tu_i w)]) dX0_withoutNumber_1 (by rw [hnl]; decide) rfl ?_
  refine tu_iconst 2 X dX0_withoutNumber_2 ?_
  refine tu_istore 3 X (lv' := [(4, tu_i 0), (3, tu_i 0), (0, tu_r 7), (1, tu_i ((L : Nat) : Int)), (2, tu_i w)]) dX0_withoutNumber_3 (by rw [hnl]; decide) rfl ?_
  refine tu_st_eq rfl (M' := tu_row M 7 (M 7)) ((tu_rx M 7).symm) ?_
  have lp5 : ∀ (nq : Nat) (k : Nat), (k ≤ L) → L - k < nq → tu_W T 5 [(0, tu_r 7), (1, tu_i ((L : Nat) : Int)), (2, tu_i w), (3, tu_i (((tu_kc (M 7) 0 w k) : Nat) : Int)), (4, tu_i ((k : Nat) : Int))] [] (tu_row M 7 (tu_wr (M 7) 0 w k)) := by
    intro nq
    induction nq with
    | zero => intros; omega
    | succ nq ih5 =>
      intro k hk hn5
      have e1 := tu_kc_le (M 7) 0 w k
      have e2 : tu_wr (M 7) 0 w k k = M 7 k := tu_wr_old _ _ _ _ _ (by omega)
      refine tu_iload 5 X 4 dX0_withoutNumber_5 rfl ?_
      refine tu_iload_n 7 X 1 dX0_withoutNumber_7 rfl ?_
      refine tu_icmp_ge 8 X 52 dX0_withoutNumber_8 (by decide) (show tu_rg ((k : Nat) : Int) from by first | assumption | exact ⟨by omega, by omega⟩) (show tu_rg ((L : Nat) : Int) from by first | assumption | exact ⟨by omega, by omega⟩) (fun br8 => ?_) (fun br8 => ?_)
      ·
        refine tu_iload_n 52 X 3 dX0_withoutNumber_52 rfl ?_
        refine hret 53 _ _ (((tu_kc (M 7) 0 w k) : Nat) : Int) dX0_withoutNumber_53 (fun h => by rw [hrt] at h; cases h) ?_
        rw [show L = k from by omega]
        exact ⟨rfl, rfl⟩
      ·
        refine tu_aload_n 11 X 0 dX0_withoutNumber_11 rfl ?_
        refine tu_iload 12 X 4 dX0_withoutNumber_12 rfl ?_
        refine tu_iald 14 X (x := (tu_wr (M 7) 0 w k) k) k dX0_withoutNumber_14 (by decide) rfl (by decide) (by omega) (by omega) rfl ?_
        refine tu_tp (b := (M 7 k)) (by exact e2) ?_
        have e3 := hr k (by omega)
        refine tu_iload_n 15 X 2 dX0_withoutNumber_15 rfl ?_
        refine tu_icmp_eq 16 X 46 dX0_withoutNumber_16 (by decide) (show tu_rg (M 7 k) from by first | assumption | exact ⟨by omega, by omega⟩) (show tu_rg w from by first | assumption | exact ⟨by omega, by omega⟩) (fun br16 => ?_) (fun br16 => ?_)
        ·
          refine tu_iinc 46 X (lv' := [(4, tu_i (((k : Nat) : Int) + 1)), (0, tu_r 7), (1, tu_i ((L : Nat) : Int)), (2, tu_i w), (3, tu_i (((tu_kc (M 7) 0 w k) : Nat) : Int))]) 4 dX0_withoutNumber_46 rfl (by rw [hnl]; decide) rfl ?_
          refine tu_goto 49 X 5 dX0_withoutNumber_49 (by decide) ?_
          refine tu_jmp [1, 2, 3, 4, 0] (lv' := [(0, tu_r 7), (1, tu_i ((L : Nat) : Int)), (2, tu_i w), (3, tu_i (((tu_kc (M 7) 0 w (k + 1)) : Nat) : Int)), (4, tu_i (((k + 1) : Nat) : Int))]) ⟨rfl, rfl, rfl, tu_ei (by first | rfl | (simp only [tu_kc, Nat.zero_add]; split <;> omega)), tu_ei (by first | rfl | omega), trivial⟩ (by first | rfl | (simp only [tu_wr, Nat.zero_add]; first | rw [if_pos (by omega)] | (rw [if_neg (by omega), if_pos (by omega)]) | (rw [if_neg (by omega), if_neg (by omega)]))) (ih5 (k + 1) (by first | assumption | omega) (by omega))
        ·
          refine tu_aload_n 19 X 0 dX0_withoutNumber_19 rfl ?_
          refine tu_iload_n 20 X 3 dX0_withoutNumber_20 rfl ?_
          refine tu_aload_n 21 X 0 dX0_withoutNumber_21 rfl ?_
          refine tu_iload 22 X 4 dX0_withoutNumber_22 rfl ?_
          refine tu_iald 24 X (x := (tu_wr (M 7) 0 w k) k) k dX0_withoutNumber_24 (by decide) rfl (by decide) (by omega) (by omega) rfl ?_
          refine tu_tp (b := (M 7 k)) (by exact e2) ?_
          refine tu_iload_n 25 X 2 dX0_withoutNumber_25 rfl ?_
          refine tu_icmp_le 26 X 38 dX0_withoutNumber_26 (by decide) (show tu_rg (M 7 k) from by first | assumption | exact ⟨by omega, by omega⟩) (show tu_rg w from by first | assumption | exact ⟨by omega, by omega⟩) (fun br26 => ?_) (fun br26 => ?_)
          ·
            refine tu_aload_n 38 X 0 dX0_withoutNumber_38 rfl ?_
            refine tu_iload 39 X 4 dX0_withoutNumber_39 rfl ?_
            refine tu_iald 41 X (x := (tu_wr (M 7) 0 w k) k) k dX0_withoutNumber_41 (by decide) rfl (by decide) (by omega) (by omega) rfl ?_
            refine tu_tp (b := (M 7 k)) (by exact e2) ?_
            refine tu_iast 42 X (M' := tu_row M 7 (tu_u (tu_wr (M 7) 0 w k) (tu_kc (M 7) 0 w k) (M 7 k))) (tu_kc (M 7) 0 w k) dX0_withoutNumber_42 (by decide) rfl (by decide) (by omega) (by omega) (tu_rr M 7 (tu_wr (M 7) 0 w k) (tu_u (tu_wr (M 7) 0 w k) (tu_kc (M 7) 0 w k) (M 7 k))) ?_
            refine tu_iinc 43 X (lv' := [(3, tu_i ((((tu_kc (M 7) 0 w k) : Nat) : Int) + 1)), (0, tu_r 7), (1, tu_i ((L : Nat) : Int)), (2, tu_i w), (4, tu_i ((k : Nat) : Int))]) 3 dX0_withoutNumber_43 rfl (by rw [hnl]; decide) rfl ?_
            refine tu_iinc 46 X (lv' := [(4, tu_i (((k : Nat) : Int) + 1)), (3, tu_i ((((tu_kc (M 7) 0 w k) : Nat) : Int) + 1)), (0, tu_r 7), (1, tu_i ((L : Nat) : Int)), (2, tu_i w)]) 4 dX0_withoutNumber_46 rfl (by rw [hnl]; decide) rfl ?_
            refine tu_goto 49 X 5 dX0_withoutNumber_49 (by decide) ?_
            refine tu_jmp [2, 3, 4, 1, 0] (lv' := [(0, tu_r 7), (1, tu_i ((L : Nat) : Int)), (2, tu_i w), (3, tu_i (((tu_kc (M 7) 0 w (k + 1)) : Nat) : Int)), (4, tu_i (((k + 1) : Nat) : Int))]) ⟨rfl, rfl, rfl, tu_ei (by first | rfl | (simp only [tu_kc, Nat.zero_add]; split <;> omega)), tu_ei (by first | rfl | omega), trivial⟩ (by first | rfl | (simp only [tu_wr, Nat.zero_add]; first | rw [if_pos (by omega)] | (rw [if_neg (by omega), if_pos (by omega)]) | (rw [if_neg (by omega), if_neg (by omega)]))) (ih5 (k + 1) (by first | assumption | omega) (by omega))
          ·
            refine tu_aload_n 29 X 0 dX0_withoutNumber_29 rfl ?_
            refine tu_iload 30 X 4 dX0_withoutNumber_30 rfl ?_
            refine tu_iald 32 X (x := (tu_wr (M 7) 0 w k) k) k dX0_withoutNumber_32 (by decide) rfl (by decide) (by omega) (by omega) rfl ?_
            refine tu_tp (b := (M 7 k)) (by exact e2) ?_
            refine tu_iconst 33 X dX0_withoutNumber_33 ?_
            refine tu_isub 34 X dX0_withoutNumber_34 ?_
            refine tu_goto 35 X 42 dX0_withoutNumber_35 (by decide) ?_
            refine tu_iast 42 X (M' := tu_row M 7 (tu_u (tu_wr (M 7) 0 w k) (tu_kc (M 7) 0 w k) ((M 7 k) - 1))) (tu_kc (M 7) 0 w k) dX0_withoutNumber_42 (by decide) rfl (by decide) (by omega) (by omega) (tu_rr M 7 (tu_wr (M 7) 0 w k) (tu_u (tu_wr (M 7) 0 w k) (tu_kc (M 7) 0 w k) ((M 7 k) - 1))) ?_
            refine tu_iinc 43 X (lv' := [(3, tu_i ((((tu_kc (M 7) 0 w k) : Nat) : Int) + 1)), (0, tu_r 7), (1, tu_i ((L : Nat) : Int)), (2, tu_i w), (4, tu_i ((k : Nat) : Int))]) 3 dX0_withoutNumber_43 rfl (by rw [hnl]; decide) rfl ?_
            refine tu_iinc 46 X (lv' := [(4, tu_i (((k : Nat) : Int) + 1)), (3, tu_i ((((tu_kc (M 7) 0 w k) : Nat) : Int) + 1)), (0, tu_r 7), (1, tu_i ((L : Nat) : Int)), (2, tu_i w)]) 4 dX0_withoutNumber_46 rfl (by rw [hnl]; decide) rfl ?_
            refine tu_goto 49 X 5 dX0_withoutNumber_49 (by decide) ?_
            refine tu_jmp [2, 3, 4, 1, 0] (lv' := [(0, tu_r 7), (1, tu_i ((L : Nat) : Int)), (2, tu_i w), (3, tu_i (((tu_kc (M 7) 0 w (k + 1)) : Nat) : Int)), (4, tu_i (((k + 1) : Nat) : Int))]) ⟨rfl, rfl, rfl, tu_ei (by first | rfl | (simp only [tu_kc, Nat.zero_add]; split <;> omega)), tu_ei (by first | rfl | omega), trivial⟩ (by first | rfl | (simp only [tu_wr, Nat.zero_add]; first | rw [if_pos (by omega)] | (rw [if_neg (by omega), if_pos (by omega)]) | (rw [if_neg (by omega), if_neg (by omega)]))) (ih5 (k + 1) (by first | assumption | omega) (by omega))
  refine tu_jmp [2, 3, 4, 1, 0] (lv' := [(0, tu_r 7), (1, tu_i ((L : Nat) : Int)), (2, tu_i w), (3, tu_i (((tu_kc (M 7) 0 w 0) : Nat) : Int)), (4, tu_i 0)]) ⟨rfl, rfl, rfl, tu_ei (by first | rfl | (simp only [tu_kc, Nat.zero_add]; split <;> omega)), rfl, trivial⟩ (by first | rfl | (simp only [tu_wr, Nat.zero_add]; first | rw [if_pos (by omega)] | (rw [if_neg (by omega), if_pos (by omega)]) | (rw [if_neg (by omega), if_neg (by omega)]))) (lp5 ((L - 0) + 1) 0 (by first | assumption | omega) (by omega))
set_option maxRecDepth 20000 in
set_option maxHeartbeats 4000000 in
theorem c_X0_withoutNumber_8 {M : tu_M} (L : Nat) (w : Int) (hL : L ≤ 8) (hw : tu_rg w) (hr : ∀ k : Nat, k < L → tu_rg (M 8 k)) : tu_MI tu_Y_X0_withoutNumber [tu_r 8, tu_i ((L : Nat) : Int), tu_i w] M (fun z M' => M' = tu_row M 8 (tu_wr (M 8) 0 w L) ∧ z = ((tu_kc (M 8) 0 w L : Nat) : Int)) := by
  refine tu_MI.of (ty := .int) (by decide) rfl (by first | exact Or.inl rfl | exact Or.inr rfl) (Nat.le_of_ble_eq_true rfl) (fun T (X : tu_X T cX0_withoutNumber RX0 0 0) hnl hrt hret => ?_)
  have hret : tu_RI T cX0_withoutNumber (fun z M' => M' = tu_row M 8 (tu_wr (M 8) 0 w L) ∧ z = ((tu_kc (M 8) 0 w L : Nat) : Int)) := hret
  have hnl : T.2.2.2.2.2.2.2.2.2.2.1 = 5 := hnl
  show tu_W T 0 [(0, tu_r 8), (1, tu_i ((L : Nat) : Int)), (2, tu_i w)] [] M
  refine tu_iconst 0 X dX0_withoutNumber_0 ?_
  refine tu_istore_n 1 X (lv' := [(3, tu_i 0), (0, tu_r 8), (1, tu_i ((L : Nat) : Int)), (2, tu_i w)]) dX0_withoutNumber_1 (by rw [hnl]; decide) rfl ?_
  refine tu_iconst 2 X dX0_withoutNumber_2 ?_
  refine tu_istore 3 X (lv' := [(4, tu_i 0), (3, tu_i 0), (0, tu_r 8), (1, tu_i ((L : Nat) : Int)), (2, tu_i w)]) dX0_withoutNumber_3 (by rw [hnl]; decide) rfl ?_
  refine tu_st_eq rfl (M' := tu_row M 8 (M 8)) ((tu_rx M 8).symm) ?_
  have lp5 : ∀ (nq : Nat) (k : Nat), (k ≤ L) → L - k < nq → tu_W T 5 [(0, tu_r 8), (1, tu_i ((L : Nat) : Int)), (2, tu_i w), (3, tu_i (((tu_kc (M 8) 0 w k) : Nat) : Int)), (4, tu_i ((k : Nat) : Int))] [] (tu_row M 8 (tu_wr (M 8) 0 w k)) := by
    intro nq
    induction nq with
    | zero => intros; omega
    | succ nq ih5 =>
      intro k hk hn5
      have e1 := tu_kc_le (M 8) 0 w k
      have e2 : tu_wr (M 8) 0 w k k = M 8 k := tu_wr_old _ _ _ _ _ (by omega)
      refine tu_iload 5 X 4 dX0_withoutNumber_5 rfl ?_
      refine tu_iload_n 7 X 1 dX0_withoutNumber_7 rfl ?_
      refine tu_icmp_ge 8 X 52 dX0_withoutNumber_8 (by decide) (show tu_rg ((k : Nat) : Int) from by first | assumption | exact ⟨by omega, by omega⟩) (show tu_rg ((L : Nat) : Int) from by first | assumption | exact ⟨by omega, by omega⟩) (fun br8 => ?_) (fun br8 => ?_)
      ·
        refine tu_iload_n 52 X 3 dX0_withoutNumber_52 rfl ?_
        refine hret 53 _ _ (((tu_kc (M 8) 0 w k) : Nat) : Int) dX0_withoutNumber_53 (fun h => by rw [hrt] at h; cases h) ?_
        rw [show L = k from by omega]
        exact ⟨rfl, rfl⟩
      ·
        refine tu_aload_n 11 X 0 dX0_withoutNumber_11 rfl ?_
        refine tu_iload 12 X 4 dX0_withoutNumber_12 rfl ?_
        refine tu_iald 14 X (x := (tu_wr (M 8) 0 w k) k) k dX0_withoutNumber_14 (by decide) rfl (by decide) (by omega) (by omega) rfl ?_
        refine tu_tp (b := (M 8 k)) (by exact e2) ?_
        have e3 := hr k (by omega)
        refine tu_iload_n 15 X 2 dX0_withoutNumber_15 rfl ?_
        refine tu_icmp_eq 16 X 46 dX0_withoutNumber_16 (by decide) (show tu_rg (M 8 k) from by first | assumption | exact ⟨by omega, by omega⟩) (show tu_rg w from by first | assumption | exact ⟨by omega, by omega⟩) (fun br16 => ?_) (fun br16 => ?_)
        ·
          refine tu_iinc 46 X (lv' := [(4, tu_i (((k : Nat) : Int) + 1)), (0, tu_r 8), (1, tu_i ((L : Nat) : Int)), (2, tu_i w), (3, tu_i (((tu_kc (M 8) 0 w k) : Nat) : Int))]) 4 dX0_withoutNumber_46 rfl (by rw [hnl]; decide) rfl ?_
          refine tu_goto 49 X 5 dX0_withoutNumber_49 (by decide) ?_
          refine tu_jmp [1, 2, 3, 4, 0] (lv' := [(0, tu_r 8), (1, tu_i ((L : Nat) : Int)), (2, tu_i w), (3, tu_i (((tu_kc (M 8) 0 w (k + 1)) : Nat) : Int)), (4, tu_i (((k + 1) : Nat) : Int))]) ⟨rfl, rfl, rfl, tu_ei (by first | rfl | (simp only [tu_kc, Nat.zero_add]; split <;> omega)), tu_ei (by first | rfl | omega), trivial⟩ (by first | rfl | (simp only [tu_wr, Nat.zero_add]; first | rw [if_pos (by omega)] | (rw [if_neg (by omega), if_pos (by omega)]) | (rw [if_neg (by omega), if_neg (by omega)]))) (ih5 (k + 1) (by first | assumption | omega) (by omega))
        ·
          refine tu_aload_n 19 X 0 dX0_withoutNumber_19 rfl ?_
          refine tu_iload_n 20 X 3 dX0_withoutNumber_20 rfl ?_
          refine tu_aload_n 21 X 0 dX0_withoutNumber_21 rfl ?_
          refine tu_iload 22 X 4 dX0_withoutNumber_22 rfl ?_
          refine tu_iald 24 X (x := (tu_wr (M 8) 0 w k) k) k dX0_withoutNumber_24 (by decide) rfl (by decide) (by omega) (by omega) rfl ?_
          refine tu_tp (b := (M 8 k)) (by exact e2) ?_
          refine tu_iload_n 25 X 2 dX0_withoutNumber_25 rfl ?_
          refine tu_icmp_le 26 X 38 dX0_withoutNumber_26 (by decide) (show tu_rg (M 8 k) from by first | assumption | exact ⟨by omega, by omega⟩) (show tu_rg w from by first | assumption | exact ⟨by omega, by omega⟩) (fun br26 => ?_) (fun br26 => ?_)
          ·
            refine tu_aload_n 38 X 0 dX0_withoutNumber_38 rfl ?_
            refine tu_iload 39 X 4 dX0_withoutNumber_39 rfl ?_
            refine tu_iald 41 X (x := (tu_wr (M 8) 0 w k) k) k dX0_withoutNumber_41 (by decide) rfl (by decide) (by omega) (by omega) rfl ?_
            refine tu_tp (b := (M 8 k)) (by exact e2) ?_
            refine tu_iast 42 X (M' := tu_row M 8 (tu_u (tu_wr (M 8) 0 w k) (tu_kc (M 8) 0 w k) (M 8 k))) (tu_kc (M 8) 0 w k) dX0_withoutNumber_42 (by decide) rfl (by decide) (by omega) (by omega) (tu_rr M 8 (tu_wr (M 8) 0 w k) (tu_u (tu_wr (M 8) 0 w k) (tu_kc (M 8) 0 w k) (M 8 k))) ?_
            refine tu_iinc 43 X (lv' := [(3, tu_i ((((tu_kc (M 8) 0 w k) : Nat) : Int) + 1)), (0, tu_r 8), (1, tu_i ((L : Nat) : Int)), (2, tu_i w), (4, tu_i ((k : Nat) : Int))]) 3 dX0_withoutNumber_43 rfl (by rw [hnl]; decide) rfl ?_
            refine tu_iinc 46 X (lv' := [(4, tu_i (((k : Nat) : Int) + 1)), (3, tu_i ((((tu_kc (M 8) 0 w k) : Nat) : Int) + 1)), (0, tu_r 8), (1, tu_i ((L : Nat) : Int)), (2, tu_i w)]) 4 dX0_withoutNumber_46 rfl (by rw [hnl]; decide) rfl ?_
            refine tu_goto 49 X 5 dX0_withoutNumber_49 (by decide) ?_
            refine tu_jmp [2, 3, 4, 1, 0] (lv' := [(0, tu_r 8), (1, tu_i ((L : Nat) : Int)), (2, tu_i w), (3, tu_i (((tu_kc (M 8) 0 w (k + 1)) : Nat) : Int)), (4, tu_i (((k + 1) : Nat) : Int))]) ⟨rfl, rfl, rfl, tu_ei (by first | rfl | (simp only [tu_kc, Nat.zero_add]; split <;> omega)), tu_ei (by first | rfl | omega), trivial⟩ (by first | rfl | (simp only [tu_wr, Nat.zero_add]; first | rw [if_pos (by omega)] | (rw [if_neg (by omega), if_pos (by omega)]) | (rw [if_neg (by omega), if_neg (by omega)]))) (ih5 (k + 1) (by first | assumption | omega) (by omega))
          ·
            refine tu_aload_n 29 X 0 dX0_withoutNumber_29 rfl ?_
            refine tu_iload 30 X 4 dX0_withoutNumber_30 rfl ?_
            refine tu_iald 32 X (x := (tu_wr (M 8) 0 w k) k) k dX0_withoutNumber_32 (by decide) rfl (by decide) (by omega) (by omega) rfl ?_
            refine tu_tp (b := (M 8 k)) (by exact e2) ?_
            refine tu_iconst 33 X dX0_withoutNumber_33 ?_
            refine tu_isub 34 X dX0_withoutNumber_34 ?_
            refine tu_goto 35 X 42 dX0_withoutNumber_35 (by decide) ?_
            refine tu_iast 42 X (M' := tu_row M 8 (tu_u (tu_wr (M 8) 0 w k) (tu_kc (M 8) 0 w k) ((M 8 k) - 1))) (tu_kc (M 8) 0 w k) dX0_withoutNumber_42 (by decide) rfl (by decide) (by omega) (by omega) (tu_rr M 8 (tu_wr (M 8) 0 w k) (tu_u (tu_wr (M 8) 0 w k) (tu_kc (M 8) 0 w k) ((M 8 k) - 1))) ?_
            refine tu_iinc 43 X (lv' := [(3, tu_i ((((tu_kc (M 8) 0 w k) : Nat) : Int) + 1)), (0, tu_r 8), (1, tu_i ((L : Nat) : Int)), (2, tu_i w), (4, tu_i ((k : Nat) : Int))]) 3 dX0_withoutNumber_43 rfl (by rw [hnl]; decide) rfl ?_
            refine tu_iinc 46 X (lv' := [(4, tu_i (((k : Nat) : Int) + 1)), (3, tu_i ((((tu_kc (M 8) 0 w k) : Nat) : Int) + 1)), (0, tu_r 8), (1, tu_i ((L : Nat) : Int)), (2, tu_i w)]) 4 dX0_withoutNumber_46 rfl (by rw [hnl]; decide) rfl ?_
            refine tu_goto 49 X 5 dX0_withoutNumber_49 (by decide) ?_
            refine tu_jmp [2, 3, 4, 1, 0] (lv' := [(0, tu_r 8), (1, tu_i ((L : Nat) : Int)), (2, tu_i w), (3, tu_i (((tu_kc (M 8) 0 w (k + 1)) : Nat) : Int)), (4, tu_i (((k + 1) : Nat) : Int))]) ⟨rfl, rfl, rfl, tu_ei (by first | rfl | (simp only [tu_kc, Nat.zero_add]; split <;> omega)), tu_ei (by first | rfl | omega), trivial⟩ (by first | rfl | (simp only [tu_wr, Nat.zero_add]; first | rw [if_pos (by omega)] | (rw [if_neg (by omega), if_pos (by omega)]) | (rw [if_neg (by omega), if_neg (by omega)]))) (ih5 (k + 1) (by first | assumption | omega) (by omega))
  refine tu_jmp [2, 3, 4, 1, 0] (lv' := [(0, tu_r 8), (1, tu_i ((L : Nat) : Int)), (2, tu_i w), (3, tu_i (((tu_kc (M 8) 0 w 0) : Nat) : Int)), (4, tu_i 0)]) ⟨rfl, rfl, rfl, tu_ei (by first | rfl | (simp only [tu_kc, Nat.zero_add]; split <;> omega)), rfl, trivial⟩ (by first | rfl | (simp only [tu_wr, Nat.zero_add]; first | rw [if_pos (by omega)] | (rw [if_neg (by omega), if_pos (by omega)]) | (rw [if_neg (by omega), if_neg (by omega)]))) (lp5 ((L - 0) + 1) 0 (by first | assumption | omega) (by omega))
set_option maxRecDepth 20000 in
set_option maxHeartbeats 4000000 in
theorem c_X0_removeLine {M : tu_M} (l : Nat) (hB : (0 ≤ M 1 1 ∧ M 1 1 ≤ 16) ∧ (0 ≤ M 1 7 ∧ M 1 7 ≤ 40)) (hl : (l : Int) < M 1 1) (hr : ∀ k : Nat, k < (M 1 7).toNat → tu_rg (M 7 k)) : tu_MV tu_Y_X0_removeLine [tu_r 1, tu_i ((l : Nat) : Int)] M (fun M' => M' = tu_row (tu_row (tu_row (tu_row M 1 (tu_u (tu_u (M 1) 1 ((M 1 1) - 1)) 7 ((tu_kc (M 7) 0 ((l : Nat) : Int) (M 1 7).toNat : Nat) : Int))) 3 (va_cpy (M 3) (M 3) (l + 1) l ((M 1 1).toNat - l - 1))) 4 (va_cpy (M 4) (M 4) ((l + 1) * 16) (l * 16) (((M 1 1).toNat - l - 1) * 16))) 7 (tu_wr (M 7) 0 ((l : Nat) : Int) (M 1 7).toNat)) := by
  refine tu_MV.of (by decide) rfl (Nat.le_of_ble_eq_true rfl) (fun T (X : tu_X T cX0_removeLine RX0 1 40) hnl hret => ?_)
  have hret : tu_RV T cX0_removeLine (fun M' => M' = tu_row (tu_row (tu_row (tu_row M 1 (tu_u (tu_u (M 1) 1 ((M 1 1) - 1)) 7 ((tu_kc (M 7) 0 ((l : Nat) : Int) (M 1 7).toNat : Nat) : Int))) 3 (va_cpy (M 3) (M 3) (l + 1) l ((M 1 1).toNat - l - 1))) 4 (va_cpy (M 4) (M 4) ((l + 1) * 16) (l * 16) (((M 1 1).toNat - l - 1) * 16))) 7 (tu_wr (M 7) 0 ((l : Nat) : Int) (M 1 7).toNat)) := hret
  have hnl : T.2.2.2.2.2.2.2.2.2.2.1 = 3 := hnl
  show tu_W T 0 [(0, tu_r 1), (1, tu_i ((l : Nat) : Int))] [] M
  refine tu_aload_n 0 X 0 dX0_removeLine_0 rfl ?_
  refine tu_getI 1 X (x := M 1 1) dX0_removeLine_1 fl_RX0_15 (by decide) rfl rfl rfl ?_
  refine tu_iload_n 4 X 1 dX0_removeLine_4 rfl ?_
  refine tu_isub 5 X dX0_removeLine_5 ?_
  refine tu_iconst 6 X dX0_removeLine_6 ?_
  refine tu_isub 7 X dX0_removeLine_7 ?_
  refine tu_tp (b := ((((M 1 1).toNat - l - 1) : Nat) : Int)) (by omega) ?_
  refine tu_istore_n 8 X (lv' := [(2, tu_i ((((M 1 1).toNat - l - 1) : Nat) : Int)), (0, tu_r 1), (1, tu_i ((l : Nat) : Int))]) dX0_removeLine_8 (by rw [hnl]; decide) rfl ?_
  refine tu_aload_n 9 X 1 dX0_removeLine_9 rfl ?_
  refine tu_getR 10 X dX0_removeLine_10 fl_RX0_19 (by decide) rfl rfl ?_
  refine tu_iload_n 13 X 2 dX0_removeLine_13 rfl ?_
  refine tu_iconst 14 X dX0_removeLine_14 ?_
  refine tu_iadd 15 X dX0_removeLine_15 ?_
  refine tu_aload_n 16 X 1 dX0_removeLine_16 rfl ?_
  refine tu_getR 17 X dX0_removeLine_17 fl_RX0_19 (by decide) rfl rfl ?_
  refine tu_iload_n 20 X 2 dX0_removeLine_20 rfl ?_
  refine tu_iload_n 21 X 0 dX0_removeLine_21 rfl ?_
  refine tu_copy 22 X (M' := tu_row M 3 (va_cpy (M 3) (M 3) (l + 1) l ((M 1 1).toNat - l - 1))) (l + 1) l ((M 1 1).toNat - l - 1) ac_RX0 dX0_removeLine_22 (by decide) (by decide) rfl rfl (by decide) (by decide) (by omega) (by omega) (by omega) (by omega) (by omega) rfl (Nat.le_of_ble_eq_true rfl) (by decide) (Nat.le_trans nf_le (by decide)) ?_
  refine tu_aload_n 25 X 1 dX0_removeLine_25 rfl ?_
  refine tu_getR 26 X dX0_removeLine_26 fl_RX0_22 (by decide) rfl rfl ?_
  refine tu_iload_n 29 X 2 dX0_removeLine_29 rfl ?_
  refine tu_iconst 30 X dX0_removeLine_30 ?_
  refine tu_iadd 31 X dX0_removeLine_31 ?_
  refine tu_bipush 32 X dX0_removeLine_32 (by decide) ?_
  refine tu_imul 34 X dX0_removeLine_34 ?_
  refine tu_aload_n 35 X 1 dX0_removeLine_35 rfl ?_
  refine tu_getR 36 X dX0_removeLine_36 fl_RX0_22 (by decide) rfl rfl ?_
  refine tu_iload_n 39 X 2 dX0_removeLine_39 rfl ?_
  refine tu_bipush 40 X dX0_removeLine_40 (by decide) ?_
  refine tu_imul 42 X dX0_removeLine_42 ?_
  refine tu_iload_n 43 X 0 dX0_removeLine_43 rfl ?_
  refine tu_bipush 44 X dX0_removeLine_44 (by decide) ?_
  refine tu_imul 46 X dX0_removeLine_46 ?_
  refine tu_copy 47 X (M' := tu_row (tu_row M 3 (va_cpy (M 3) (M 3) (l + 1) l ((M 1 1).toNat - l - 1))) 4 (va_cpy (M 4) (M 4) ((l + 1) * 16) (l * 16) (((M 1 1).toNat - l - 1) * 16))) ((l + 1) * 16) (l * 16) (((M 1 1).toNat - l - 1) * 16) ac_RX0 dX0_removeLine_47 (by decide) (by decide) rfl rfl (by decide) (by decide) (by omega) (by omega) (by omega) (by omega) (by omega) rfl (Nat.le_of_ble_eq_true rfl) (by decide) (Nat.le_trans nf_le (by decide)) ?_
  refine tu_aload_n 50 X 1 dX0_removeLine_50 rfl ?_
  refine tu_dup 51 X dX0_removeLine_51 rfl ?_
  refine tu_getI 52 X (x := M 1 1) dX0_removeLine_52 fl_RX0_15 (by decide) rfl rfl rfl ?_
  refine tu_iconst 55 X dX0_removeLine_55 ?_
  refine tu_isub 56 X dX0_removeLine_56 ?_
  refine tu_putI 57 X (M' := tu_row (tu_row (tu_row M 1 (tu_u (M 1) 1 ((M 1 1) - 1))) 3 (va_cpy (M 3) (M 3) (l + 1) l ((M 1 1).toNat - l - 1))) 4 (va_cpy (M 4) (M 4) ((l + 1) * 16) (l * 16) (((M 1 1).toNat - l - 1) * 16))) dX0_removeLine_57 fp_RX0_15 (by decide) rfl rfl ((tu_rc (tu_row M 3 (va_cpy (M 3) (M 3) (l + 1) l ((M 1 1).toNat - l - 1))) (va_cpy (M 4) (M 4) ((l + 1) * 16) (l * 16) (((M 1 1).toNat - l - 1) * 16)) (tu_u (M 1) 1 ((M 1 1) - 1)) rfl).trans (congrArg (fun m => tu_row m 4 (va_cpy (M 4) (M 4) ((l + 1) * 16) (l * 16) (((M 1 1).toNat - l - 1) * 16))) (tu_rc M (va_cpy (M 3) (M 3) (l + 1) l ((M 1 1).toNat - l - 1)) (tu_u (M 1) 1 ((M 1 1) - 1)) rfl))) ?_
  refine tu_aload_n 60 X 1 dX0_removeLine_60 rfl ?_
  refine tu_aload_n 61 X 1 dX0_removeLine_61 rfl ?_
  refine tu_getR 62 X dX0_removeLine_62 fl_RX0_37 (by decide) rfl rfl ?_
  refine tu_aload_n 65 X 1 dX0_removeLine_65 rfl ?_
  refine tu_getI 66 X (x := (tu_u (M 1) 1 ((M 1 1) - 1)) 7) dX0_removeLine_66 fl_RX0_34 (by decide) rfl rfl rfl ?_
  refine tu_tp (b := (M 1 7)) (by rfl) ?_
  refine tu_iload_n 69 X 2 dX0_removeLine_69 rfl ?_
  refine tu_st_eq (show _ = [tu_i ((l : Nat) : Int), tu_i ((((M 1 7).toNat) : Nat) : Int), tu_r 7, tu_r 1] from by first | rfl | (simp only [List.cons.injEq, Sum.inl.injEq, and_true, true_and]; omega)) rfl ?_
  refine tu_callSI 70 X (st := [tu_r 1]) (as := [tu_r 7, tu_i ((((M 1 7).toNat) : Nat) : Int), tu_i ((l : Nat) : Int)]) (c_X0_withoutNumber_7 ((M 1 7).toNat) ((l : Nat) : Int) (show ((M 1 7).toNat) ≤ 40 from by first | assumption | omega | exact ⟨by omega, by omega⟩ | decide) (show tu_rg ((l : Nat) : Int) from by first | assumption | omega | exact ⟨by omega, by omega⟩ | decide) (show ∀ k : Nat, k < ((M 1 7).toNat) → tu_rg (M 7 k) from by first | assumption | omega | exact ⟨by omega, by omega⟩ | decide)) ss_RX0_78 dX0_removeLine_70 rfl (Nat.le_of_ble_eq_true rfl) ⟨by decide, by decide⟩ (fun z M' h => ?_)
  obtain ⟨hM70, hz70⟩ := h
  refine tu_st_eq rfl (M' := tu_row (tu_row (tu_row (tu_row M 1 (tu_u (M 1) 1 ((M 1 1) - 1))) 3 (va_cpy (M 3) (M 3) (l + 1) l ((M 1 1).toNat - l - 1))) 4 (va_cpy (M 4) (M 4) ((l + 1) * 16) (l * 16) (((M 1 1).toNat - l - 1) * 16))) 7 (tu_wr (M 7) 0 ((l : Nat) : Int) ((M 1 7).toNat))) hM70 ?_
  refine tu_tp (b := ((tu_kc (M 7) 0 ((l : Nat) : Int) ((M 1 7).toNat) : Nat) : Int)) hz70 ?_
  refine tu_putI 73 X (M' := tu_row (tu_row (tu_row (tu_row M 1 (tu_u (tu_u (M 1) 1 ((M 1 1) - 1)) 7 ((tu_kc (M 7) 0 ((l : Nat) : Int) ((M 1 7).toNat) : Nat) : Int))) 3 (va_cpy (M 3) (M 3) (l + 1) l ((M 1 1).toNat - l - 1))) 4 (va_cpy (M 4) (M 4) ((l + 1) * 16) (l * 16) (((M 1 1).toNat - l - 1) * 16))) 7 (tu_wr (M 7) 0 ((l : Nat) : Int) ((M 1 7).toNat))) dX0_removeLine_73 fp_RX0_34 (by decide) rfl rfl ((tu_rc (tu_row (tu_row (tu_row M 1 (tu_u (M 1) 1 ((M 1 1) - 1))) 3 (va_cpy (M 3) (M 3) (l + 1) l ((M 1 1).toNat - l - 1))) 4 (va_cpy (M 4) (M 4) ((l + 1) * 16) (l * 16) (((M 1 1).toNat - l - 1) * 16))) (tu_wr (M 7) 0 ((l : Nat) : Int) ((M 1 7).toNat)) (tu_u (tu_u (M 1) 1 ((M 1 1) - 1)) 7 ((tu_kc (M 7) 0 ((l : Nat) : Int) ((M 1 7).toNat) : Nat) : Int)) rfl).trans (congrArg (fun m => tu_row m 7 (tu_wr (M 7) 0 ((l : Nat) : Int) ((M 1 7).toNat))) ((tu_rc (tu_row (tu_row M 1 (tu_u (M 1) 1 ((M 1 1) - 1))) 3 (va_cpy (M 3) (M 3) (l + 1) l ((M 1 1).toNat - l - 1))) (va_cpy (M 4) (M 4) ((l + 1) * 16) (l * 16) (((M 1 1).toNat - l - 1) * 16)) (tu_u (tu_u (M 1) 1 ((M 1 1) - 1)) 7 ((tu_kc (M 7) 0 ((l : Nat) : Int) ((M 1 7).toNat) : Nat) : Int)) rfl).trans (congrArg (fun m => tu_row m 4 (va_cpy (M 4) (M 4) ((l + 1) * 16) (l * 16) (((M 1 1).toNat - l - 1) * 16))) ((tu_rc (tu_row M 1 (tu_u (M 1) 1 ((M 1 1) - 1))) (va_cpy (M 3) (M 3) (l + 1) l ((M 1 1).toNat - l - 1)) (tu_u (tu_u (M 1) 1 ((M 1 1) - 1)) 7 ((tu_kc (M 7) 0 ((l : Nat) : Int) ((M 1 7).toNat) : Nat) : Int)) rfl).trans (congrArg (fun m => tu_row m 3 (va_cpy (M 3) (M 3) (l + 1) l ((M 1 1).toNat - l - 1))) (tu_rr M 1 (tu_u (M 1) 1 ((M 1 1) - 1)) (tu_u (tu_u (M 1) 1 ((M 1 1) - 1)) 7 ((tu_kc (M 7) 0 ((l : Nat) : Int) ((M 1 7).toNat) : Nat) : Int))))))))) ?_
  refine hret 76 _ _ dX0_removeLine_76 ?_
  exact rfl
set_option maxRecDepth 20000 in
set_option maxHeartbeats 4000000 in
theorem c_X0_removePhrase {M : tu_M} (l : Nat) (hB : (0 ≤ M 1 4 ∧ M 1 4 ≤ 8) ∧ (0 ≤ M 1 9 ∧ M 1 9 ≤ 8)) (hl : (l : Int) < M 1 4) (hr : ∀ k : Nat, k < (M 1 9).toNat → tu_rg (M 8 k)) : tu_MV tu_Y_X0_removePhrase [tu_r 1, tu_i ((l : Nat) : Int)] M (fun M' => M' = tu_row (tu_row (tu_row (tu_row M 1 (tu_u (tu_u (M 1) 4 ((M 1 4) - 1)) 9 ((tu_kc (M 8) 0 ((l : Nat) : Int) (M 1 9).toNat : Nat) : Int))) 5 (va_cpy (M 5) (M 5) (l + 1) l ((M 1 4).toNat - l - 1))) 6 (va_cpy (M 6) (M 6) ((l + 1) * 24) (l * 24) (((M 1 4).toNat - l - 1) * 24))) 8 (tu_wr (M 8) 0 ((l : Nat) : Int) (M 1 9).toNat)) := by
  refine tu_MV.of (by decide) rfl (Nat.le_of_ble_eq_true rfl) (fun T (X : tu_X T cX0_removePhrase RX0 1 40) hnl hret => ?_)
  have hret : tu_RV T cX0_removePhrase (fun M' => M' = tu_row (tu_row (tu_row (tu_row M 1 (tu_u (tu_u (M 1) 4 ((M 1 4) - 1)) 9 ((tu_kc (M 8) 0 ((l : Nat) : Int) (M 1 9).toNat : Nat) : Int))) 5 (va_cpy (M 5) (M 5) (l + 1) l ((M 1 4).toNat - l - 1))) 6 (va_cpy (M 6) (M 6) ((l + 1) * 24) (l * 24) (((M 1 4).toNat - l - 1) * 24))) 8 (tu_wr (M 8) 0 ((l : Nat) : Int) (M 1 9).toNat)) := hret
  have hnl : T.2.2.2.2.2.2.2.2.2.2.1 = 3 := hnl
  show tu_W T 0 [(0, tu_r 1), (1, tu_i ((l : Nat) : Int))] [] M
  refine tu_aload_n 0 X 0 dX0_removePhrase_0 rfl ?_
  refine tu_getI 1 X (x := M 1 4) dX0_removePhrase_1 fl_RX0_25 (by decide) rfl rfl rfl ?_
  refine tu_iload_n 4 X 1 dX0_removePhrase_4 rfl ?_
  refine tu_isub 5 X dX0_removePhrase_5 ?_
  refine tu_iconst 6 X dX0_removePhrase_6 ?_
  refine tu_isub 7 X dX0_removePhrase_7 ?_
  refine tu_tp (b := ((((M 1 4).toNat - l - 1) : Nat) : Int)) (by omega) ?_
  refine tu_istore_n 8 X (lv' := [(2, tu_i ((((M 1 4).toNat - l - 1) : Nat) : Int)), (0, tu_r 1), (1, tu_i ((l : Nat) : Int))]) dX0_removePhrase_8 (by rw [hnl]; decide) rfl ?_
  refine tu_aload_n 9 X 1 dX0_removePhrase_9 rfl ?_
  refine tu_getR 10 X dX0_removePhrase_10 fl_RX0_28 (by decide) rfl rfl ?_
  refine tu_iload_n 13 X 2 dX0_removePhrase_13 rfl ?_
  refine tu_iconst 14 X dX0_removePhrase_14 ?_
  refine tu_iadd 15 X dX0_removePhrase_15 ?_
  refine tu_aload_n 16 X 1 dX0_removePhrase_16 rfl ?_
  refine tu_getR 17 X dX0_removePhrase_17 fl_RX0_28 (by decide) rfl rfl ?_
  refine tu_iload_n 20 X 2 dX0_removePhrase_20 rfl ?_
  refine tu_iload_n 21 X 0 dX0_removePhrase_21 rfl ?_
  refine tu_copy 22 X (M' := tu_row M 5 (va_cpy (M 5) (M 5) (l + 1) l ((M 1 4).toNat - l - 1))) (l + 1) l ((M 1 4).toNat - l - 1) ac_RX0 dX0_removePhrase_22 (by decide) (by decide) rfl rfl (by decide) (by decide) (by omega) (by omega) (by omega) (by omega) (by omega) rfl (Nat.le_of_ble_eq_true rfl) (by decide) (Nat.le_trans nf_le (by decide)) ?_
  refine tu_aload_n 25 X 1 dX0_removePhrase_25 rfl ?_
  refine tu_getR 26 X dX0_removePhrase_26 fl_RX0_31 (by decide) rfl rfl ?_
  refine tu_iload_n 29 X 2 dX0_removePhrase_29 rfl ?_
  refine tu_iconst 30 X dX0_removePhrase_30 ?_
  refine tu_iadd 31 X dX0_removePhrase_31 ?_
  refine tu_bipush 32 X dX0_removePhrase_32 (by decide) ?_
  refine tu_imul 34 X dX0_removePhrase_34 ?_
  refine tu_aload_n 35 X 1 dX0_removePhrase_35 rfl ?_
  refine tu_getR 36 X dX0_removePhrase_36 fl_RX0_31 (by decide) rfl rfl ?_
  refine tu_iload_n 39 X 2 dX0_removePhrase_39 rfl ?_
  refine tu_bipush 40 X dX0_removePhrase_40 (by decide) ?_
  refine tu_imul 42 X dX0_removePhrase_42 ?_
  refine tu_iload_n 43 X 0 dX0_removePhrase_43 rfl ?_
  refine tu_bipush 44 X dX0_removePhrase_44 (by decide) ?_
  refine tu_imul 46 X dX0_removePhrase_46 ?_
  refine tu_copy 47 X (M' := tu_row (tu_row M 5 (va_cpy (M 5) (M 5) (l + 1) l ((M 1 4).toNat - l - 1))) 6 (va_cpy (M 6) (M 6) ((l + 1) * 24) (l * 24) (((M 1 4).toNat - l - 1) * 24))) ((l + 1) * 24) (l * 24) (((M 1 4).toNat - l - 1) * 24) ac_RX0 dX0_removePhrase_47 (by decide) (by decide) rfl rfl (by decide) (by decide) (by omega) (by omega) (by omega) (by omega) (by omega) rfl (Nat.le_of_ble_eq_true rfl) (by decide) (Nat.le_trans nf_le (by decide)) ?_
  refine tu_aload_n 50 X 1 dX0_removePhrase_50 rfl ?_
  refine tu_dup 51 X dX0_removePhrase_51 rfl ?_
  refine tu_getI 52 X (x := M 1 4) dX0_removePhrase_52 fl_RX0_25 (by decide) rfl rfl rfl ?_
  refine tu_iconst 55 X dX0_removePhrase_55 ?_
  refine tu_isub 56 X dX0_removePhrase_56 ?_
  refine tu_putI 57 X (M' := tu_row (tu_row (tu_row M 1 (tu_u (M 1) 4 ((M 1 4) - 1))) 5 (va_cpy (M 5) (M 5) (l + 1) l ((M 1 4).toNat - l - 1))) 6 (va_cpy (M 6) (M 6) ((l + 1) * 24) (l * 24) (((M 1 4).toNat - l - 1) * 24))) dX0_removePhrase_57 fp_RX0_25 (by decide) rfl rfl ((tu_rc (tu_row M 5 (va_cpy (M 5) (M 5) (l + 1) l ((M 1 4).toNat - l - 1))) (va_cpy (M 6) (M 6) ((l + 1) * 24) (l * 24) (((M 1 4).toNat - l - 1) * 24)) (tu_u (M 1) 4 ((M 1 4) - 1)) rfl).trans (congrArg (fun m => tu_row m 6 (va_cpy (M 6) (M 6) ((l + 1) * 24) (l * 24) (((M 1 4).toNat - l - 1) * 24))) (tu_rc M (va_cpy (M 5) (M 5) (l + 1) l ((M 1 4).toNat - l - 1)) (tu_u (M 1) 4 ((M 1 4) - 1)) rfl))) ?_
  refine tu_aload_n 60 X 1 dX0_removePhrase_60 rfl ?_
  refine tu_aload_n 61 X 1 dX0_removePhrase_61 rfl ?_
  refine tu_getR 62 X dX0_removePhrase_62 fl_RX0_43 (by decide) rfl rfl ?_
  refine tu_aload_n 65 X 1 dX0_removePhrase_65 rfl ?_
  refine tu_getI 66 X (x := (tu_u (M 1) 4 ((M 1 4) - 1)) 9) dX0_removePhrase_66 fl_RX0_40 (by decide) rfl rfl rfl ?_
  refine tu_tp (b := (M 1 9)) (by rfl) ?_
  refine tu_iload_n 69 X 2 dX0_removePhrase_69 rfl ?_
  refine tu_st_eq (show _ = [tu_i ((l : Nat) : Int), tu_i ((((M 1 9).toNat) : Nat) : Int), tu_r 8, tu_r 1] from by first | rfl | (simp only [List.cons.injEq, Sum.inl.injEq, and_true, true_and]; omega)) rfl ?_
  refine tu_callSI 70 X (st := [tu_r 1]) (as := [tu_r 8, tu_i ((((M 1 9).toNat) : Nat) : Int), tu_i ((l : Nat) : Int)]) (c_X0_withoutNumber_8 ((M 1 9).toNat) ((l : Nat) : Int) (show ((M 1 9).toNat) ≤ 8 from by first | assumption | omega | exact ⟨by omega, by omega⟩ | decide) (show tu_rg ((l : Nat) : Int) from by first | assumption | omega | exact ⟨by omega, by omega⟩ | decide) (show ∀ k : Nat, k < ((M 1 9).toNat) → tu_rg (M 8 k) from by first | assumption | omega | exact ⟨by omega, by omega⟩ | decide)) ss_RX0_78 dX0_removePhrase_70 rfl (Nat.le_of_ble_eq_true rfl) ⟨by decide, by decide⟩ (fun z M' h => ?_)
  obtain ⟨hM70, hz70⟩ := h
  refine tu_st_eq rfl (M' := tu_row (tu_row (tu_row (tu_row M 1 (tu_u (M 1) 4 ((M 1 4) - 1))) 5 (va_cpy (M 5) (M 5) (l + 1) l ((M 1 4).toNat - l - 1))) 6 (va_cpy (M 6) (M 6) ((l + 1) * 24) (l * 24) (((M 1 4).toNat - l - 1) * 24))) 8 (tu_wr (M 8) 0 ((l : Nat) : Int) ((M 1 9).toNat))) hM70 ?_
  refine tu_tp (b := ((tu_kc (M 8) 0 ((l : Nat) : Int) ((M 1 9).toNat) : Nat) : Int)) hz70 ?_
  refine tu_putI 73 X (M' := tu_row (tu_row (tu_row (tu_row M 1 (tu_u (tu_u (M 1) 4 ((M 1 4) - 1)) 9 ((tu_kc (M 8) 0 ((l : Nat) : Int) ((M 1 9).toNat) : Nat) : Int))) 5 (va_cpy (M 5) (M 5) (l + 1) l ((M 1 4).toNat - l - 1))) 6 (va_cpy (M 6) (M 6) ((l + 1) * 24) (l * 24) (((M 1 4).toNat - l - 1) * 24))) 8 (tu_wr (M 8) 0 ((l : Nat) : Int) ((M 1 9).toNat))) dX0_removePhrase_73 fp_RX0_40 (by decide) rfl rfl ((tu_rc (tu_row (tu_row (tu_row M 1 (tu_u (M 1) 4 ((M 1 4) - 1))) 5 (va_cpy (M 5) (M 5) (l + 1) l ((M 1 4).toNat - l - 1))) 6 (va_cpy (M 6) (M 6) ((l + 1) * 24) (l * 24) (((M 1 4).toNat - l - 1) * 24))) (tu_wr (M 8) 0 ((l : Nat) : Int) ((M 1 9).toNat)) (tu_u (tu_u (M 1) 4 ((M 1 4) - 1)) 9 ((tu_kc (M 8) 0 ((l : Nat) : Int) ((M 1 9).toNat) : Nat) : Int)) rfl).trans (congrArg (fun m => tu_row m 8 (tu_wr (M 8) 0 ((l : Nat) : Int) ((M 1 9).toNat))) ((tu_rc (tu_row (tu_row M 1 (tu_u (M 1) 4 ((M 1 4) - 1))) 5 (va_cpy (M 5) (M 5) (l + 1) l ((M 1 4).toNat - l - 1))) (va_cpy (M 6) (M 6) ((l + 1) * 24) (l * 24) (((M 1 4).toNat - l - 1) * 24)) (tu_u (tu_u (M 1) 4 ((M 1 4) - 1)) 9 ((tu_kc (M 8) 0 ((l : Nat) : Int) ((M 1 9).toNat) : Nat) : Int)) rfl).trans (congrArg (fun m => tu_row m 6 (va_cpy (M 6) (M 6) ((l + 1) * 24) (l * 24) (((M 1 4).toNat - l - 1) * 24))) ((tu_rc (tu_row M 1 (tu_u (M 1) 4 ((M 1 4) - 1))) (va_cpy (M 5) (M 5) (l + 1) l ((M 1 4).toNat - l - 1)) (tu_u (tu_u (M 1) 4 ((M 1 4) - 1)) 9 ((tu_kc (M 8) 0 ((l : Nat) : Int) ((M 1 9).toNat) : Nat) : Int)) rfl).trans (congrArg (fun m => tu_row m 5 (va_cpy (M 5) (M 5) (l + 1) l ((M 1 4).toNat - l - 1))) (tu_rr M 1 (tu_u (M 1) 4 ((M 1 4) - 1)) (tu_u (tu_u (M 1) 4 ((M 1 4) - 1)) 9 ((tu_kc (M 8) 0 ((l : Nat) : Int) ((M 1 9).toNat) : Nat) : Int))))))))) ?_
  refine hret 76 _ _ dX0_removePhrase_76 ?_
  exact rfl
set_option maxRecDepth 20000 in
set_option maxHeartbeats 4000000 in
theorem c_X0_addToBallad {M : tu_M} (w : Int) (hB : 0 ≤ M 1 7 ∧ M 1 7 < 40) : tu_MV tu_Y_X0_addToBallad [tu_r 1, tu_i w] M (fun M' => M' = tu_row (tu_row M 1 (tu_u (M 1) 7 ((M 1 7) + 1))) 7 (tu_u (M 7) (M 1 7).toNat w)) := by
  refine tu_MV.of (by decide) rfl (Nat.le_of_ble_eq_true rfl) (fun T (X : tu_X T cX0_addToBallad RX0 0 0) hnl hret => ?_)
  have hret : tu_RV T cX0_addToBallad (fun M' => M' = tu_row (tu_row M 1 (tu_u (M 1) 7 ((M 1 7) + 1))) 7 (tu_u (M 7) (M 1 7).toNat w)) := hret
  have hnl : T.2.2.2.2.2.2.2.2.2.2.1 = 2 := hnl
  show tu_W T 0 [(0, tu_r 1), (1, tu_i w)] [] M
  refine tu_aload_n 0 X 0 dX0_addToBallad_0 rfl ?_
  refine tu_getI 1 X (x := M 1 7) dX0_addToBallad_1 fl_RX0_34 (by decide) rfl rfl rfl ?_
  refine tu_bipush 4 X dX0_addToBallad_4 (by decide) ?_
  refine tu_icmp_ge 6 X 29 dX0_addToBallad_6 (by decide) (show tu_rg (M 1 7) from by first | assumption | exact ⟨by omega, by omega⟩) ⟨by decide, by decide⟩ (fun br6 => ?_) (fun br6 => ?_)
  ·
    exfalso; omega
  ·
    refine tu_aload_n 9 X 0 dX0_addToBallad_9 rfl ?_
    refine tu_getR 10 X dX0_addToBallad_10 fl_RX0_37 (by decide) rfl rfl ?_
    refine tu_aload_n 13 X 0 dX0_addToBallad_13 rfl ?_
    refine tu_getI 14 X (x := M 1 7) dX0_addToBallad_14 fl_RX0_34 (by decide) rfl rfl rfl ?_
    refine tu_iload_n 17 X 1 dX0_addToBallad_17 rfl ?_
    refine tu_iast 18 X (M' := tu_row M 7 (tu_u (M 7) ((M 1 7).toNat) w)) ((M 1 7).toNat) dX0_addToBallad_18 (by decide) rfl (by decide) (by omega) (by omega) rfl ?_
    refine tu_aload_n 19 X 0 dX0_addToBallad_19 rfl ?_
    refine tu_dup 20 X dX0_addToBallad_20 rfl ?_
    refine tu_getI 21 X (x := M 1 7) dX0_addToBallad_21 fl_RX0_34 (by decide) rfl rfl rfl ?_
    refine tu_iconst 24 X dX0_addToBallad_24 ?_
    refine tu_iadd 25 X dX0_addToBallad_25 ?_
    refine tu_putI 26 X (M' := tu_row (tu_row M 1 (tu_u (M 1) 7 ((M 1 7) + 1))) 7 (tu_u (M 7) ((M 1 7).toNat) w)) dX0_addToBallad_26 fp_RX0_34 (by decide) rfl rfl (tu_rc M (tu_u (M 7) ((M 1 7).toNat) w) (tu_u (M 1) 7 ((M 1 7) + 1)) rfl) ?_
    refine hret 29 _ _ dX0_addToBallad_29 ?_
    exact rfl
set_option maxRecDepth 20000 in
set_option maxHeartbeats 4000000 in
theorem c_X0_addToTune {M : tu_M} (w : Int) (hB : 0 ≤ M 1 9 ∧ M 1 9 < 8) : tu_MV tu_Y_X0_addToTune [tu_r 1, tu_i w] M (fun M' => M' = tu_row (tu_row M 1 (tu_u (M 1) 9 ((M 1 9) + 1))) 8 (tu_u (M 8) (M 1 9).toNat w)) := by
  refine tu_MV.of (by decide) rfl (Nat.le_of_ble_eq_true rfl) (fun T (X : tu_X T cX0_addToTune RX0 0 0) hnl hret => ?_)
  have hret : tu_RV T cX0_addToTune (fun M' => M' = tu_row (tu_row M 1 (tu_u (M 1) 9 ((M 1 9) + 1))) 8 (tu_u (M 8) (M 1 9).toNat w)) := hret
  have hnl : T.2.2.2.2.2.2.2.2.2.2.1 = 2 := hnl
  show tu_W T 0 [(0, tu_r 1), (1, tu_i w)] [] M
  refine tu_aload_n 0 X 0 dX0_addToTune_0 rfl ?_
  refine tu_getI 1 X (x := M 1 9) dX0_addToTune_1 fl_RX0_40 (by decide) rfl rfl rfl ?_
  refine tu_bipush 4 X dX0_addToTune_4 (by decide) ?_
  refine tu_icmp_ge 6 X 29 dX0_addToTune_6 (by decide) (show tu_rg (M 1 9) from by first | assumption | exact ⟨by omega, by omega⟩) ⟨by decide, by decide⟩ (fun br6 => ?_) (fun br6 => ?_)
  ·
    exfalso; omega
  ·
    refine tu_aload_n 9 X 0 dX0_addToTune_9 rfl ?_
    refine tu_getR 10 X dX0_addToTune_10 fl_RX0_43 (by decide) rfl rfl ?_
    refine tu_aload_n 13 X 0 dX0_addToTune_13 rfl ?_
    refine tu_getI 14 X (x := M 1 9) dX0_addToTune_14 fl_RX0_40 (by decide) rfl rfl rfl ?_
    refine tu_iload_n 17 X 1 dX0_addToTune_17 rfl ?_
    refine tu_iast 18 X (M' := tu_row M 8 (tu_u (M 8) ((M 1 9).toNat) w)) ((M 1 9).toNat) dX0_addToTune_18 (by decide) rfl (by decide) (by omega) (by omega) rfl ?_
    refine tu_aload_n 19 X 0 dX0_addToTune_19 rfl ?_
    refine tu_dup 20 X dX0_addToTune_20 rfl ?_
    refine tu_getI 21 X (x := M 1 9) dX0_addToTune_21 fl_RX0_40 (by decide) rfl rfl rfl ?_
    refine tu_iconst 24 X dX0_addToTune_24 ?_
    refine tu_iadd 25 X dX0_addToTune_25 ?_
    refine tu_putI 26 X (M' := tu_row (tu_row M 1 (tu_u (M 1) 9 ((M 1 9) + 1))) 8 (tu_u (M 8) ((M 1 9).toNat) w)) dX0_addToTune_26 fp_RX0_40 (by decide) rfl rfl (tu_rc M (tu_u (M 8) ((M 1 9).toNat) w) (tu_u (M 1) 9 ((M 1 9) + 1)) rfl) ?_
    refine hret 29 _ _ dX0_addToTune_29 ?_
    exact rfl
