set_option maxRecDepth 20000 in
set_option maxHeartbeats 4000000 in
theorem c_X0_init {M : tu_M} (b : Nat) (hB : tu_B b) : tv_MV tv_Y_X0 b (b + 1) (b + 8) M (fun M' => (∀ a, a < b → M' a = M a) ∧ tv_B M' b) := by
  have hb9 := tu_B_lt hB (f := 7) (by decide)
  refine tv_MV.of (by decide) rfl (by decide) (fun T (X : tv_X T cX0_init RX0 1 40 7 524) hnl hnm hret => ?_)
  have hret : tv_R T cX0_init (b + 8) 7 524 (fun M' => (∀ a, a < b → M' a = M a) ∧ tv_B M' b) := hret
  refine tv_aload_n 0 X 0 dX0_init_0 rfl ?_
  refine tv_obj 1 X oi_RX0 dX0_init_1 (by decide) (by decide) (by decide) ?_
  refine tv_aload_n 4 X 0 dX0_init_4 rfl ?_
  refine tv_iconst 5 X dX0_init_5 ?_
  refine tv_newI 6 X 4 dX0_init_6 rfl (by decide) (tu_sh_bk hB (f := 1) (by decide)) (by omega) (Nat.le_of_ble_eq_true rfl) (Nat.le_of_ble_eq_true rfl) (fun M1 h1 => ?_)
  refine tv_putR 8 X hnm dX0_init_8 fF_RX0_9 (by omega) (by omega) (tu_sh_bk hB (f := 0) (by decide)) rfl (fun M2 h2 => ?_)
  refine tv_aload_n 11 X 0 dX0_init_11 rfl ?_
  refine tv_iconst 12 X dX0_init_12 ?_
  refine tv_putI 13 X dX0_init_13 fp_RX0_15 (by omega) (by omega) (tu_sh_bk hB (f := 0) (by decide)) rfl (fun M3 h3 => ?_)
  refine tv_aload_n 16 X 0 dX0_init_16 rfl ?_
  refine tv_bipush 17 X dX0_init_17 (by decide) ?_
  refine tv_newI 19 X 16 dX0_init_19 rfl (by decide) (tu_sh_bk hB (f := 2) (by decide)) (by omega) (Nat.le_of_ble_eq_true rfl) (Nat.le_of_ble_eq_true rfl) (fun M4 h4 => ?_)
  refine tv_putR 21 X hnm dX0_init_21 fF_RX0_19 (by omega) (by omega) (tu_sh_bk hB (f := 0) (by decide)) rfl (fun M5 h5 => ?_)
  refine tv_aload_n 24 X 0 dX0_init_24 rfl ?_
  refine tv_sipush 25 X dX0_init_25 (by decide) ?_
  refine tv_newI 28 X 256 dX0_init_28 rfl (by decide) (tu_sh_bk hB (f := 3) (by decide)) (by omega) (Nat.le_of_ble_eq_true rfl) (Nat.le_of_ble_eq_true rfl) (fun M6 h6 => ?_)
  refine tv_putR 30 X hnm dX0_init_30 fF_RX0_22 (by omega) (by omega) (tu_sh_bk hB (f := 0) (by decide)) rfl (fun M7 h7 => ?_)
  refine tv_aload_n 33 X 0 dX0_init_33 rfl ?_
  refine tv_iconst 34 X dX0_init_34 ?_
  refine tv_putI 35 X dX0_init_35 fp_RX0_25 (by omega) (by omega) (tu_sh_bk hB (f := 0) (by decide)) rfl (fun M8 h8 => ?_)
  refine tv_aload_n 38 X 0 dX0_init_38 rfl ?_
  refine tv_bipush 39 X dX0_init_39 (by decide) ?_
  refine tv_newI 41 X 8 dX0_init_41 rfl (by decide) (tu_sh_bk hB (f := 4) (by decide)) (by omega) (Nat.le_of_ble_eq_true rfl) (Nat.le_of_ble_eq_true rfl) (fun M9 h9 => ?_)
  refine tv_putR 43 X hnm dX0_init_43 fF_RX0_28 (by omega) (by omega) (tu_sh_bk hB (f := 0) (by decide)) rfl (fun M10 h10 => ?_)
  refine tv_aload_n 46 X 0 dX0_init_46 rfl ?_
  refine tv_sipush 47 X dX0_init_47 (by decide) ?_
  refine tv_newI 50 X 192 dX0_init_50 rfl (by decide) (tu_sh_bk hB (f := 5) (by decide)) (by omega) (Nat.le_of_ble_eq_true rfl) (Nat.le_of_ble_eq_true rfl) (fun M11 h11 => ?_)
  refine tv_putR 52 X hnm dX0_init_52 fF_RX0_31 (by omega) (by omega) (tu_sh_bk hB (f := 0) (by decide)) rfl (fun M12 h12 => ?_)
  refine tv_aload_n 55 X 0 dX0_init_55 rfl ?_
  refine tv_iconst 56 X dX0_init_56 ?_
  refine tv_putI 57 X dX0_init_57 fp_RX0_34 (by omega) (by omega) (tu_sh_bk hB (f := 0) (by decide)) rfl (fun M13 h13 => ?_)
  refine tv_aload_n 60 X 0 dX0_init_60 rfl ?_
  refine tv_bipush 61 X dX0_init_61 (by decide) ?_
  refine tv_newI 63 X 40 dX0_init_63 rfl (by decide) (tu_sh_bk hB (f := 6) (by decide)) (by omega) (Nat.le_of_ble_eq_true rfl) (Nat.le_of_ble_eq_true rfl) (fun M14 h14 => ?_)
  refine tv_putR 65 X hnm dX0_init_65 fF_RX0_37 (by omega) (by omega) (tu_sh_bk hB (f := 0) (by decide)) rfl (fun M15 h15 => ?_)
  refine tv_aload_n 68 X 0 dX0_init_68 rfl ?_
  refine tv_iconst 69 X dX0_init_69 ?_
  refine tv_putI 70 X dX0_init_70 fp_RX0_40 (by omega) (by omega) (tu_sh_bk hB (f := 0) (by decide)) rfl (fun M16 h16 => ?_)
  refine tv_aload_n 73 X 0 dX0_init_73 rfl ?_
  refine tv_bipush 74 X dX0_init_74 (by decide) ?_
  refine tv_newI 76 X 8 dX0_init_76 rfl (by decide) (tu_sh_bk hB (f := 7) (by decide)) (by omega) (Nat.le_of_ble_eq_true rfl) (Nat.le_of_ble_eq_true rfl) (fun M17 h17 => ?_)
  refine tv_putR 78 X hnm dX0_init_78 fF_RX0_43 (by omega) (by omega) (tu_sh_bk hB (f := 0) (by decide)) rfl (fun M18 h18 => ?_)
  refine tv_gets0 81 X dX0_init_81 ?_
  refine tv_iconst 84 X dX0_init_84 ?_
  refine tv_aload_n 85 X 0 dX0_init_85 rfl ?_
  refine tv_getR 86 X dX0_init_86 fl_RX0_9 (by omega) (tu_sh_bk hB (f := 0) (by decide)) rfl (by rw [h18, tu_row_s, tu_u_n _ _ (by decide), h17, tu_row_n _ _ (by omega), h16, tu_row_s, tu_u_n _ _ (by decide), h15, tu_row_s, tu_u_n _ _ (by decide), h14, tu_row_n _ _ (by omega), h13, tu_row_s, tu_u_n _ _ (by decide), h12, tu_row_s, tu_u_n _ _ (by decide), h11, tu_row_n _ _ (by omega), h10, tu_row_s, tu_u_n _ _ (by decide), h9, tu_row_n _ _ (by omega), h8, tu_row_s, tu_u_n _ _ (by decide), h7, tu_row_s, tu_u_n _ _ (by decide), h6, tu_row_n _ _ (by omega), h5, tu_row_s, tu_u_n _ _ (by decide), h4, tu_row_n _ _ (by omega), h3, tu_row_s, tu_u_n _ _ (by decide), h2, tu_row_s, tu_u_s]; decide) ?_
  refine tv_iconst 89 X dX0_init_89 ?_
  refine tv_iconst 90 X dX0_init_90 ?_
  refine tv_copy0 91 X dX0_init_91 (by omega) (by omega) (tu_sh_bk hB (f := 1) (by decide)) (by decide) (by decide) (by decide) (by decide) (fun M19 h19 => ?_)
  refine hret _ _ 94 _ _ dX0_init_94 (Nat.le_of_ble_eq_true rfl) (Nat.le_of_ble_eq_true rfl) ?_
  refine ⟨fun a ha => by rw [h19, tu_row_n _ _ (by omega), h18, tu_row_n _ _ (by omega), h17, tu_row_n _ _ (by omega), h16, tu_row_n _ _ (by omega), h15, tu_row_n _ _ (by omega), h14, tu_row_n _ _ (by omega), h13, tu_row_n _ _ (by omega), h12, tu_row_n _ _ (by omega), h11, tu_row_n _ _ (by omega), h10, tu_row_n _ _ (by omega), h9, tu_row_n _ _ (by omega), h8, tu_row_n _ _ (by omega), h7, tu_row_n _ _ (by omega), h6, tu_row_n _ _ (by omega), h5, tu_row_n _ _ (by omega), h4, tu_row_n _ _ (by omega), h3, tu_row_n _ _ (by omega), h2, tu_row_n _ _ (by omega), h1, tu_row_n _ _ (by omega)], ⟨(by rw [h19, tu_row_n _ _ (by omega), h18, tu_row_s, tu_u_n _ _ (by decide), h17, tu_row_n _ _ (by omega), h16, tu_row_s, tu_u_n _ _ (by decide), h15, tu_row_s, tu_u_n _ _ (by decide), h14, tu_row_n _ _ (by omega), h13, tu_row_s, tu_u_n _ _ (by decide), h12, tu_row_s, tu_u_n _ _ (by decide), h11, tu_row_n _ _ (by omega), h10, tu_row_s, tu_u_n _ _ (by decide), h9, tu_row_n _ _ (by omega), h8, tu_row_s, tu_u_n _ _ (by decide), h7, tu_row_s, tu_u_n _ _ (by decide), h6, tu_row_n _ _ (by omega), h5, tu_row_s, tu_u_n _ _ (by decide), h4, tu_row_n _ _ (by omega), h3, tu_row_s, tu_u_n _ _ (by decide), h2, tu_row_s, tu_u_s]), (by rw [h19, tu_row_n _ _ (by omega), h18, tu_row_s, tu_u_n _ _ (by decide), h17, tu_row_n _ _ (by omega), h16, tu_row_s, tu_u_n _ _ (by decide), h15, tu_row_s, tu_u_n _ _ (by decide), h14, tu_row_n _ _ (by omega), h13, tu_row_s, tu_u_n _ _ (by decide), h12, tu_row_s, tu_u_n _ _ (by decide), h11, tu_row_n _ _ (by omega), h10, tu_row_s, tu_u_n _ _ (by decide), h9, tu_row_n _ _ (by omega), h8, tu_row_s, tu_u_n _ _ (by decide), h7, tu_row_s, tu_u_n _ _ (by decide), h6, tu_row_n _ _ (by omega), h5, tu_row_s, tu_u_s]), (by rw [h19, tu_row_n _ _ (by omega), h18, tu_row_s, tu_u_n _ _ (by decide), h17, tu_row_n _ _ (by omega), h16, tu_row_s, tu_u_n _ _ (by decide), h15, tu_row_s, tu_u_n _ _ (by decide), h14, tu_row_n _ _ (by omega), h13, tu_row_s, tu_u_n _ _ (by decide), h12, tu_row_s, tu_u_n _ _ (by decide), h11, tu_row_n _ _ (by omega), h10, tu_row_s, tu_u_n _ _ (by decide), h9, tu_row_n _ _ (by omega), h8, tu_row_s, tu_u_n _ _ (by decide), h7, tu_row_s, tu_u_s]), (by rw [h19, tu_row_n _ _ (by omega), h18, tu_row_s, tu_u_n _ _ (by decide), h17, tu_row_n _ _ (by omega), h16, tu_row_s, tu_u_n _ _ (by decide), h15, tu_row_s, tu_u_n _ _ (by decide), h14, tu_row_n _ _ (by omega), h13, tu_row_s, tu_u_n _ _ (by decide), h12, tu_row_s, tu_u_n _ _ (by decide), h11, tu_row_n _ _ (by omega), h10, tu_row_s, tu_u_s]), (by rw [h19, tu_row_n _ _ (by omega), h18, tu_row_s, tu_u_n _ _ (by decide), h17, tu_row_n _ _ (by omega), h16, tu_row_s, tu_u_n _ _ (by decide), h15, tu_row_s, tu_u_n _ _ (by decide), h14, tu_row_n _ _ (by omega), h13, tu_row_s, tu_u_n _ _ (by decide), h12, tu_row_s, tu_u_s]), (by rw [h19, tu_row_n _ _ (by omega), h18, tu_row_s, tu_u_n _ _ (by decide), h17, tu_row_n _ _ (by omega), h16, tu_row_s, tu_u_n _ _ (by decide), h15, tu_row_s, tu_u_s]), (by rw [h19, tu_row_n _ _ (by omega), h18, tu_row_s, tu_u_s])⟩, ⟨(by rw [h19, tu_row_n _ _ (by omega), h18, tu_row_s, tu_u_n _ _ (by decide), h17, tu_row_n _ _ (by omega), h16, tu_row_s, tu_u_n _ _ (by decide), h15, tu_row_s, tu_u_n _ _ (by decide), h14, tu_row_n _ _ (by omega), h13, tu_row_s, tu_u_n _ _ (by decide), h12, tu_row_s, tu_u_n _ _ (by decide), h11, tu_row_n _ _ (by omega), h10, tu_row_s, tu_u_n _ _ (by decide), h9, tu_row_n _ _ (by omega), h8, tu_row_s, tu_u_n _ _ (by decide), h7, tu_row_s, tu_u_n _ _ (by decide), h6, tu_row_n _ _ (by omega), h5, tu_row_s, tu_u_n _ _ (by decide), h4, tu_row_n _ _ (by omega), h3, tu_row_s, tu_u_s]), (by rw [h19, tu_row_n _ _ (by omega), h18, tu_row_s, tu_u_n _ _ (by decide), h17, tu_row_n _ _ (by omega), h16, tu_row_s, tu_u_n _ _ (by decide), h15, tu_row_s, tu_u_n _ _ (by decide), h14, tu_row_n _ _ (by omega), h13, tu_row_s, tu_u_n _ _ (by decide), h12, tu_row_s, tu_u_n _ _ (by decide), h11, tu_row_n _ _ (by omega), h10, tu_row_s, tu_u_n _ _ (by decide), h9, tu_row_n _ _ (by omega), h8, tu_row_s, tu_u_s]), (by rw [h19, tu_row_n _ _ (by omega), h18, tu_row_s, tu_u_n _ _ (by decide), h17, tu_row_n _ _ (by omega), h16, tu_row_s, tu_u_n _ _ (by decide), h15, tu_row_s, tu_u_n _ _ (by decide), h14, tu_row_n _ _ (by omega), h13, tu_row_s, tu_u_s]), (by rw [h19, tu_row_n _ _ (by omega), h18, tu_row_s, tu_u_n _ _ (by decide), h17, tu_row_n _ _ (by omega), h16, tu_row_s, tu_u_s])⟩, ?_⟩
  have hc : ∀ j, j < 4 → M19 (b + 1) j = tu_f0 j := fun j hj => by rw [h19, tu_row_s, va_cpy_in (by omega), show 0 + (j - 0) = j by omega]
  exact ⟨hc 0 (by decide), hc 1 (by decide), hc 2 (by decide), hc 3 (by decide)⟩
set_option maxRecDepth 20000 in
set_option maxHeartbeats 4000000 in
theorem c_X2_init {M : tu_M}  : tv_MV tv_Y_X2 9 10 11 M (fun M' => (∀ a, a < 9 → M' a = M a) ∧ M' 9 0 = 1 ∧ M' 9 1 = 0) := by
  refine tv_MV.of (by decide) rfl (by decide) (fun T (X : tv_X T cX2_init RX2 1 20 1 60) hnl hnm hret => ?_)
  have hret : tv_R T cX2_init 11 1 60 (fun M' => (∀ a, a < 9 → M' a = M a) ∧ M' 9 0 = 1 ∧ M' 9 1 = 0) := hret
  refine tv_aload_n 0 X 0 dX2_init_0 rfl ?_
  refine tv_obj 1 X oi_RX2 dX2_init_1 (by decide) (by decide) (by decide) ?_
  refine tv_aload_n 4 X 0 dX2_init_4 rfl ?_
  refine tv_bipush 5 X dX2_init_5 (by decide) ?_
  refine tv_newC 7 X 60 dX2_init_7 rfl (by decide) rfl (by decide) (Nat.le_of_ble_eq_true rfl) (Nat.le_of_ble_eq_true rfl) (fun M1 h1 => ?_)
  refine tv_putR 9 X hnm dX2_init_9 fF_RX2_9 (by decide) (by decide) rfl rfl (fun M2 h2 => ?_)
  refine tv_aload_n 12 X 0 dX2_init_12 rfl ?_
  refine tv_iconst 13 X dX2_init_13 ?_
  refine tv_putI 14 X dX2_init_14 fp_RX2_15 (by decide) (by decide) rfl rfl (fun M3 h3 => ?_)
  refine hret _ _ 17 _ _ dX2_init_17 (Nat.le_of_ble_eq_true rfl) (Nat.le_of_ble_eq_true rfl) ?_
  refine ⟨fun a ha => by rw [h3, tu_row_n _ _ (by omega), h2, tu_row_n _ _ (by omega), h1, tu_row_n _ _ (by omega)], (by rw [h3, tu_row_s, tu_u_n _ _ (by decide), h2, tu_row_s, tu_u_s]), (by rw [h3, tu_row_s, tu_u_s])⟩
set_option maxRecDepth 20000 in
set_option maxHeartbeats 4000000 in
theorem c_X1_init {M : tu_M}  : tv_MV tv_Y_X1 11 12 19 M (fun M' => (∀ a, a < 11 → M' a = M a) ∧ (M' 11 6 = 1 ∧ M' 11 7 = 1 ∧ M' 11 8 = 1 ∧ M' 11 9 = 1 ∧ M' 11 10 = 1 ∧ M' 11 11 = 1 ∧ M' 11 12 = 1)) := by
  refine tv_MV.of (by decide) rfl (by decide) (fun T (X : tv_X T cX1_init RX1 1 20 7 947) hnl hnm hret => ?_)
  have hret : tv_R T cX1_init 19 7 947 (fun M' => (∀ a, a < 11 → M' a = M a) ∧ (M' 11 6 = 1 ∧ M' 11 7 = 1 ∧ M' 11 8 = 1 ∧ M' 11 9 = 1 ∧ M' 11 10 = 1 ∧ M' 11 11 = 1 ∧ M' 11 12 = 1)) := hret
  refine tv_aload_n 0 X 0 dX1_init_0 rfl ?_
  refine tv_obj 1 X oi_RX1 dX1_init_1 (by decide) (by decide) (by decide) ?_
  refine tv_aload_n 4 X 0 dX1_init_4 rfl ?_
  refine tv_iconst 5 X dX1_init_5 ?_
  refine tv_putI 6 X dX1_init_6 fp_RX1_9 (by decide) (by decide) rfl rfl (fun M1 h1 => ?_)
  refine tv_aload_n 9 X 0 dX1_init_9 rfl ?_
  refine tv_iconst 10 X dX1_init_10 ?_
  refine tv_putI 11 X dX1_init_11 fp_RX1_15 (by decide) (by decide) rfl rfl (fun M2 h2 => ?_)
  refine tv_aload_n 14 X 0 dX1_init_14 rfl ?_
  refine tv_iconst 15 X dX1_init_15 ?_
  refine tv_putI 16 X dX1_init_16 fp_RX1_18 (by decide) (by decide) rfl rfl (fun M3 h3 => ?_)
  refine tv_aload_n 19 X 0 dX1_init_19 rfl ?_
  refine tv_iconst 20 X dX1_init_20 ?_
  refine tv_putI 21 X dX1_init_21 fp_RX1_21 (by decide) (by decide) rfl rfl (fun M4 h4 => ?_)
  refine tv_aload_n 24 X 0 dX1_init_24 rfl ?_
  refine tv_iconst 25 X dX1_init_25 ?_
  refine tv_putI 26 X dX1_init_26 fp_RX1_24 (by decide) (by decide) rfl rfl (fun M5 h5 => ?_)
  refine tv_aload_n 29 X 0 dX1_init_29 rfl ?_
  refine tv_iconst 30 X dX1_init_30 ?_
  refine tv_putI 31 X dX1_init_31 fp_RX1_27 (by decide) (by decide) rfl rfl (fun M6 h6 => ?_)
  refine tv_aload_n 34 X 0 dX1_init_34 rfl ?_
  refine tv_bipush 35 X dX1_init_35 (by decide) ?_
  refine tv_newI 37 X 16 dX1_init_37 rfl (by decide) rfl (by decide) (Nat.le_of_ble_eq_true rfl) (Nat.le_of_ble_eq_true rfl) (fun M7 h7 => ?_)
  refine tv_putR 39 X hnm dX1_init_39 fF_RX1_30 (by decide) (by decide) rfl rfl (fun M8 h8 => ?_)
  refine tv_aload_n 42 X 0 dX1_init_42 rfl ?_
  refine tv_bipush 43 X dX1_init_43 (by decide) ?_
  refine tv_newI 45 X 24 dX1_init_45 rfl (by decide) rfl (by decide) (Nat.le_of_ble_eq_true rfl) (Nat.le_of_ble_eq_true rfl) (fun M9 h9 => ?_)
  refine tv_putR 47 X hnm dX1_init_47 fF_RX1_34 (by decide) (by decide) rfl rfl (fun M10 h10 => ?_)
  refine tv_aload_n 50 X 0 dX1_init_50 rfl ?_
  refine tv_bipush 51 X dX1_init_51 (by decide) ?_
  refine tv_newI 53 X 25 dX1_init_53 rfl (by decide) rfl (by decide) (Nat.le_of_ble_eq_true rfl) (Nat.le_of_ble_eq_true rfl) (fun M11 h11 => ?_)
  refine tv_putR 55 X hnm dX1_init_55 fF_RX1_37 (by decide) (by decide) rfl rfl (fun M12 h12 => ?_)
  refine tv_aload_n 58 X 0 dX1_init_58 rfl ?_
  refine tv_sipush 59 X dX1_init_59 (by decide) ?_
  refine tv_newI 62 X 425 dX1_init_62 rfl (by decide) rfl (by decide) (Nat.le_of_ble_eq_true rfl) (Nat.le_of_ble_eq_true rfl) (fun M13 h13 => ?_)
  refine tv_putR 64 X hnm dX1_init_64 fF_RX1_40 (by decide) (by decide) rfl rfl (fun M14 h14 => ?_)
  refine tv_aload_n 67 X 0 dX1_init_67 rfl ?_
  refine tv_sipush 68 X dX1_init_68 (by decide) ?_
  refine tv_newI 71 X 425 dX1_init_71 rfl (by decide) rfl (by decide) (Nat.le_of_ble_eq_true rfl) (Nat.le_of_ble_eq_true rfl) (fun M15 h15 => ?_)
  refine tv_putR 73 X hnm dX1_init_73 fF_RX1_43 (by decide) (by decide) rfl rfl (fun M16 h16 => ?_)
  refine tv_aload_n 76 X 0 dX1_init_76 rfl ?_
  refine tv_bipush 77 X dX1_init_77 (by decide) ?_
  refine tv_newI 79 X 16 dX1_init_79 rfl (by decide) rfl (by decide) (Nat.le_of_ble_eq_true rfl) (Nat.le_of_ble_eq_true rfl) (fun M17 h17 => ?_)
  refine tv_putR 81 X hnm dX1_init_81 fF_RX1_46 (by decide) (by decide) rfl rfl (fun M18 h18 => ?_)
  refine tv_aload_n 84 X 0 dX1_init_84 rfl ?_
  refine tv_bipush 85 X dX1_init_85 (by decide) ?_
  refine tv_newI 87 X 16 dX1_init_87 rfl (by decide) rfl (by decide) (Nat.le_of_ble_eq_true rfl) (Nat.le_of_ble_eq_true rfl) (fun M19 h19 => ?_)
  refine tv_putR 89 X hnm dX1_init_89 fF_RX1_49 (by decide) (by decide) rfl rfl (fun M20 h20 => ?_)
  refine hret _ _ 92 _ _ dX1_init_92 (Nat.le_of_ble_eq_true rfl) (Nat.le_of_ble_eq_true rfl) ?_
  refine ⟨fun a ha => by rw [h20, tu_row_n _ _ (by omega), h19, tu_row_n _ _ (by omega), h18, tu_row_n _ _ (by omega), h17, tu_row_n _ _ (by omega), h16, tu_row_n _ _ (by omega), h15, tu_row_n _ _ (by omega), h14, tu_row_n _ _ (by omega), h13, tu_row_n _ _ (by omega), h12, tu_row_n _ _ (by omega), h11, tu_row_n _ _ (by omega), h10, tu_row_n _ _ (by omega), h9, tu_row_n _ _ (by omega), h8, tu_row_n _ _ (by omega), h7, tu_row_n _ _ (by omega), h6, tu_row_n _ _ (by omega), h5, tu_row_n _ _ (by omega), h4, tu_row_n _ _ (by omega), h3, tu_row_n _ _ (by omega), h2, tu_row_n _ _ (by omega), h1, tu_row_n _ _ (by omega)], (by rw [h20, tu_row_s, tu_u_n _ _ (by decide), h19, tu_row_n _ _ (by decide), h18, tu_row_s, tu_u_n _ _ (by decide), h17, tu_row_n _ _ (by decide), h16, tu_row_s, tu_u_n _ _ (by decide), h15, tu_row_n _ _ (by decide), h14, tu_row_s, tu_u_n _ _ (by decide), h13, tu_row_n _ _ (by decide), h12, tu_row_s, tu_u_n _ _ (by decide), h11, tu_row_n _ _ (by decide), h10, tu_row_s, tu_u_n _ _ (by decide), h9, tu_row_n _ _ (by decide), h8, tu_row_s, tu_u_s]), (by rw [h20, tu_row_s, tu_u_n _ _ (by decide), h19, tu_row_n _ _ (by decide), h18, tu_row_s, tu_u_n _ _ (by decide), h17, tu_row_n _ _ (by decide), h16, tu_row_s, tu_u_n _ _ (by decide), h15, tu_row_n _ _ (by decide), h14, tu_row_s, tu_u_n _ _ (by decide), h13, tu_row_n _ _ (by decide), h12, tu_row_s, tu_u_n _ _ (by decide), h11, tu_row_n _ _ (by decide), h10, tu_row_s, tu_u_s]), (by rw [h20, tu_row_s, tu_u_n _ _ (by decide), h19, tu_row_n _ _ (by decide), h18, tu_row_s, tu_u_n _ _ (by decide), h17, tu_row_n _ _ (by decide), h16, tu_row_s, tu_u_n _ _ (by decide), h15, tu_row_n _ _ (by decide), h14, tu_row_s, tu_u_n _ _ (by decide), h13, tu_row_n _ _ (by decide), h12, tu_row_s, tu_u_s]), (by rw [h20, tu_row_s, tu_u_n _ _ (by decide), h19, tu_row_n _ _ (by decide), h18, tu_row_s, tu_u_n _ _ (by decide), h17, tu_row_n _ _ (by decide), h16, tu_row_s, tu_u_n _ _ (by decide), h15, tu_row_n _ _ (by decide), h14, tu_row_s, tu_u_s]), (by rw [h20, tu_row_s, tu_u_n _ _ (by decide), h19, tu_row_n _ _ (by decide), h18, tu_row_s, tu_u_n _ _ (by decide), h17, tu_row_n _ _ (by decide), h16, tu_row_s, tu_u_s]), (by rw [h20, tu_row_s, tu_u_n _ _ (by decide), h19, tu_row_n _ _ (by decide), h18, tu_row_s, tu_u_s]), (by rw [h20, tu_row_s, tu_u_s])⟩
