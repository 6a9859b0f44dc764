set_option maxRecDepth 20000 in
set_option maxHeartbeats 4000000 in
theorem c_X0_takeOver_22_1 {M : tu_M}   : tu_MV tu_Y_X0_takeOver [tu_r 22, tu_r 1] M (fun M' => M' = tu_tk M 22 1) := by
  refine tu_MV.of (by decide) rfl (Nat.le_of_ble_eq_true rfl) (fun T (X : tu_X T cX0_takeOver RX0 1 40) hnl hret => ?_)
  have hret : tu_RV T cX0_takeOver (fun M' => M' = tu_tk M 22 1) := hret
  have hnl : T.2.2.2.2.2.2.2.2.2.2.1 = 2 := hnl
  show tu_W T 0 [(0, tu_r 22), (1, tu_r 1)] [] M
  refine tu_aload_n 0 X 1 dX0_takeOver_0 rfl ?_
  refine tu_getR 1 X dX0_takeOver_1 fl_RX0_9 (by decide) rfl rfl ?_
  refine tu_iconst 4 X dX0_takeOver_4 ?_
  refine tu_aload_n 5 X 0 dX0_takeOver_5 rfl ?_
  refine tu_getR 6 X dX0_takeOver_6 fl_RX0_9 (by decide) rfl rfl ?_
  refine tu_iconst 9 X dX0_takeOver_9 ?_
  refine tu_iconst 10 X dX0_takeOver_10 ?_
  refine tu_copy 11 X (M' := tu_row M 23 (va_cpy (M 2) (M 23) 0 0 4)) 0 0 4 ac_RX0 dX0_takeOver_11 (by decide) (by decide) rfl rfl (by decide) (by decide) rfl rfl rfl (by omega) (by omega) rfl (Nat.le_of_ble_eq_true rfl) (by decide) (Nat.le_trans nf_le (by decide)) ?_
  refine tu_aload_n 14 X 0 dX0_takeOver_14 rfl ?_
  refine tu_aload_n 15 X 1 dX0_takeOver_15 rfl ?_
  refine tu_getI 16 X (x := M 1 1) dX0_takeOver_16 fl_RX0_15 (by decide) rfl rfl rfl ?_
  refine tu_putI 19 X (M' := tu_row (tu_row M 22 (tu_u (M 22) 1 (M 1 1))) 23 (va_cpy (M 2) (M 23) 0 0 4)) dX0_takeOver_19 fp_RX0_15 (by decide) rfl rfl (tu_rc M (va_cpy (M 2) (M 23) 0 0 4) (tu_u (M 22) 1 (M 1 1)) rfl) ?_
  refine tu_aload_n 22 X 1 dX0_takeOver_22 rfl ?_
  refine tu_getR 23 X dX0_takeOver_23 fl_RX0_19 (by decide) rfl rfl ?_
  refine tu_iconst 26 X dX0_takeOver_26 ?_
  refine tu_aload_n 27 X 0 dX0_takeOver_27 rfl ?_
  refine tu_getR 28 X dX0_takeOver_28 fl_RX0_19 (by decide) rfl rfl ?_
  refine tu_iconst 31 X dX0_takeOver_31 ?_
  refine tu_bipush 32 X dX0_takeOver_32 (by decide) ?_
  refine tu_copy 34 X (M' := tu_row (tu_row (tu_row M 22 (tu_u (M 22) 1 (M 1 1))) 23 (va_cpy (M 2) (M 23) 0 0 4)) 24 (va_cpy (M 3) (M 24) 0 0 16)) 0 0 16 ac_RX0 dX0_takeOver_34 (by decide) (by decide) rfl rfl (by decide) (by decide) rfl rfl rfl (by omega) (by omega) rfl (Nat.le_of_ble_eq_true rfl) (by decide) (Nat.le_trans nf_le (by decide)) ?_
  refine tu_aload_n 37 X 1 dX0_takeOver_37 rfl ?_
  refine tu_getR 38 X dX0_takeOver_38 fl_RX0_22 (by decide) rfl rfl ?_
  refine tu_iconst 41 X dX0_takeOver_41 ?_
  refine tu_aload_n 42 X 0 dX0_takeOver_42 rfl ?_
  refine tu_getR 43 X dX0_takeOver_43 fl_RX0_22 (by decide) rfl rfl ?_
  refine tu_iconst 46 X dX0_takeOver_46 ?_
  refine tu_sipush 47 X dX0_takeOver_47 (by decide) ?_
  refine tu_copy 50 X (M' := tu_row (tu_row (tu_row (tu_row M 22 (tu_u (M 22) 1 (M 1 1))) 23 (va_cpy (M 2) (M 23) 0 0 4)) 24 (va_cpy (M 3) (M 24) 0 0 16)) 25 (va_cpy (M 4) (M 25) 0 0 256)) 0 0 256 ac_RX0 dX0_takeOver_50 (by decide) (by decide) rfl rfl (by decide) (by decide) rfl rfl rfl (by omega) (by omega) rfl (Nat.le_of_ble_eq_true rfl) (by decide) (Nat.le_trans nf_le (by decide)) ?_
  refine tu_aload_n 53 X 0 dX0_takeOver_53 rfl ?_
  refine tu_aload_n 54 X 1 dX0_takeOver_54 rfl ?_
  refine tu_getI 55 X (x := M 1 4) dX0_takeOver_55 fl_RX0_25 (by decide) rfl rfl rfl ?_
  refine tu_putI 58 X (M' := tu_row (tu_row (tu_row (tu_row M 22 (tu_u (tu_u (M 22) 1 (M 1 1)) 4 (M 1 4))) 23 (va_cpy (M 2) (M 23) 0 0 4)) 24 (va_cpy (M 3) (M 24) 0 0 16)) 25 (va_cpy (M 4) (M 25) 0 0 256)) dX0_takeOver_58 fp_RX0_25 (by decide) rfl rfl ((tu_rc (tu_row (tu_row (tu_row M 22 (tu_u (M 22) 1 (M 1 1))) 23 (va_cpy (M 2) (M 23) 0 0 4)) 24 (va_cpy (M 3) (M 24) 0 0 16)) (va_cpy (M 4) (M 25) 0 0 256) (tu_u (tu_u (M 22) 1 (M 1 1)) 4 (M 1 4)) rfl).trans (congrArg (fun m => tu_row m 25 (va_cpy (M 4) (M 25) 0 0 256)) ((tu_rc (tu_row (tu_row M 22 (tu_u (M 22) 1 (M 1 1))) 23 (va_cpy (M 2) (M 23) 0 0 4)) (va_cpy (M 3) (M 24) 0 0 16) (tu_u (tu_u (M 22) 1 (M 1 1)) 4 (M 1 4)) rfl).trans (congrArg (fun m => tu_row m 24 (va_cpy (M 3) (M 24) 0 0 16)) ((tu_rc (tu_row M 22 (tu_u (M 22) 1 (M 1 1))) (va_cpy (M 2) (M 23) 0 0 4) (tu_u (tu_u (M 22) 1 (M 1 1)) 4 (M 1 4)) rfl).trans (congrArg (fun m => tu_row m 23 (va_cpy (M 2) (M 23) 0 0 4)) (tu_rr M 22 (tu_u (M 22) 1 (M 1 1)) (tu_u (tu_u (M 22) 1 (M 1 1)) 4 (M 1 4))))))))) ?_
  refine tu_aload_n 61 X 1 dX0_takeOver_61 rfl ?_
  refine tu_getR 62 X dX0_takeOver_62 fl_RX0_28 (by decide) rfl rfl ?_
  refine tu_iconst 65 X dX0_takeOver_65 ?_
  refine tu_aload_n 66 X 0 dX0_takeOver_66 rfl ?_
  refine tu_getR 67 X dX0_takeOver_67 fl_RX0_28 (by decide) rfl rfl ?_
  refine tu_iconst 70 X dX0_takeOver_70 ?_
  refine tu_bipush 71 X dX0_takeOver_71 (by decide) ?_
  refine tu_copy 73 X (M' := tu_row (tu_row (tu_row (tu_row (tu_row M 22 (tu_u (tu_u (M 22) 1 (M 1 1)) 4 (M 1 4))) 23 (va_cpy (M 2) (M 23) 0 0 4)) 24 (va_cpy (M 3) (M 24) 0 0 16)) 25 (va_cpy (M 4) (M 25) 0 0 256)) 26 (va_cpy (M 5) (M 26) 0 0 8)) 0 0 8 ac_RX0 dX0_takeOver_73 (by decide) (by decide) rfl rfl (by decide) (by decide) rfl rfl rfl (by omega) (by omega) rfl (Nat.le_of_ble_eq_true rfl) (by decide) (Nat.le_trans nf_le (by decide)) ?_
  refine tu_aload_n 76 X 1 dX0_takeOver_76 rfl ?_
  refine tu_getR 77 X dX0_takeOver_77 fl_RX0_31 (by decide) rfl rfl ?_
  refine tu_iconst 80 X dX0_takeOver_80 ?_
  refine tu_aload_n 81 X 0 dX0_takeOver_81 rfl ?_
  refine tu_getR 82 X dX0_takeOver_82 fl_RX0_31 (by decide) rfl rfl ?_
  refine tu_iconst 85 X dX0_takeOver_85 ?_
  refine tu_sipush 86 X dX0_takeOver_86 (by decide) ?_
  refine tu_copy 89 X (M' := tu_row (tu_row (tu_row (tu_row (tu_row (tu_row M 22 (tu_u (tu_u (M 22) 1 (M 1 1)) 4 (M 1 4))) 23 (va_cpy (M 2) (M 23) 0 0 4)) 24 (va_cpy (M 3) (M 24) 0 0 16)) 25 (va_cpy (M 4) (M 25) 0 0 256)) 26 (va_cpy (M 5) (M 26) 0 0 8)) 27 (va_cpy (M 6) (M 27) 0 0 192)) 0 0 192 ac_RX0 dX0_takeOver_89 (by decide) (by decide) rfl rfl (by decide) (by decide) rfl rfl rfl (by omega) (by omega) rfl (Nat.le_of_ble_eq_true rfl) (by decide) (Nat.le_trans nf_le (by decide)) ?_
  refine tu_aload_n 92 X 0 dX0_takeOver_92 rfl ?_
  refine tu_aload_n 93 X 1 dX0_takeOver_93 rfl ?_
  refine tu_getI 94 X (x := M 1 7) dX0_takeOver_94 fl_RX0_34 (by decide) rfl rfl rfl ?_
  refine tu_putI 97 X (M' := tu_row (tu_row (tu_row (tu_row (tu_row (tu_row M 22 (tu_u (tu_u (tu_u (M 22) 1 (M 1 1)) 4 (M 1 4)) 7 (M 1 7))) 23 (va_cpy (M 2) (M 23) 0 0 4)) 24 (va_cpy (M 3) (M 24) 0 0 16)) 25 (va_cpy (M 4) (M 25) 0 0 256)) 26 (va_cpy (M 5) (M 26) 0 0 8)) 27 (va_cpy (M 6) (M 27) 0 0 192)) dX0_takeOver_97 fp_RX0_34 (by decide) rfl rfl ((tu_rc (tu_row (tu_row (tu_row (tu_row (tu_row M 22 (tu_u (tu_u (M 22) 1 (M 1 1)) 4 (M 1 4))) 23 (va_cpy (M 2) (M 23) 0 0 4)) 24 (va_cpy (M 3) (M 24) 0 0 16)) 25 (va_cpy (M 4) (M 25) 0 0 256)) 26 (va_cpy (M 5) (M 26) 0 0 8)) (va_cpy (M 6) (M 27) 0 0 192) (tu_u (tu_u (tu_u (M 22) 1 (M 1 1)) 4 (M 1 4)) 7 (M 1 7)) rfl).trans (congrArg (fun m => tu_row m 27 (va_cpy (M 6) (M 27) 0 0 192)) ((tu_rc (tu_row (tu_row (tu_row (tu_row M 22 (tu_u (tu_u (M 22) 1 (M 1 1)) 4 (M 1 4))) 23 (va_cpy (M 2) (M 23) 0 0 4)) 24 (va_cpy (M 3) (M 24) 0 0 16)) 25 (va_cpy (M 4) (M 25) 0 0 256)) (va_cpy (M 5) (M 26) 0 0 8) (tu_u (tu_u (tu_u (M 22) 1 (M 1 1)) 4 (M 1 4)) 7 (M 1 7)) rfl).trans (congrArg (fun m => tu_row m 26 (va_cpy (M 5) (M 26) 0 0 8)) ((tu_rc (tu_row (tu_row (tu_row M 22 (tu_u (tu_u (M 22) 1 (M 1 1)) 4 (M 1 4))) 23 (va_cpy (M 2) (M 23) 0 0 4)) 24 (va_cpy (M 3) (M 24) 0 0 16)) (va_cpy (M 4) (M 25) 0 0 256) (tu_u (tu_u (tu_u (M 22) 1 (M 1 1)) 4 (M 1 4)) 7 (M 1 7)) rfl).trans (congrArg (fun m => tu_row m 25 (va_cpy (M 4) (M 25) 0 0 256)) ((tu_rc (tu_row (tu_row M 22 (tu_u (tu_u (M 22) 1 (M 1 1)) 4 (M 1 4))) 23 (va_cpy (M 2) (M 23) 0 0 4)) (va_cpy (M 3) (M 24) 0 0 16) (tu_u (tu_u (tu_u (M 22) 1 (M 1 1)) 4 (M 1 4)) 7 (M 1 7)) rfl).trans (congrArg (fun m => tu_row m 24 (va_cpy (M 3) (M 24) 0 0 16)) ((tu_rc (tu_row M 22 (tu_u (tu_u (M 22) 1 (M 1 1)) 4 (M 1 4))) (va_cpy (M 2) (M 23) 0 0 4) (tu_u (tu_u (tu_u (M 22) 1 (M 1 1)) 4 (M 1 4)) 7 (M 1 7)) rfl).trans (congrArg (fun m => tu_row m 23 (va_cpy (M 2) (M 23) 0 0 4)) (tu_rr M 22 (tu_u (tu_u (M 22) 1 (M 1 1)) 4 (M 1 4)) (tu_u (tu_u (tu_u (M 22) 1 (M 1 1)) 4 (M 1 4)) 7 (M 1 7))))))))))))) ?_
  refine tu_aload_n 100 X 1 dX0_takeOver_100 rfl ?_
  refine tu_getR 101 X dX0_takeOver_101 fl_RX0_37 (by decide) rfl rfl ?_
  refine tu_iconst 104 X dX0_takeOver_104 ?_
  refine tu_aload_n 105 X 0 dX0_takeOver_105 rfl ?_
  refine tu_getR 106 X dX0_takeOver_106 fl_RX0_37 (by decide) rfl rfl ?_
  refine tu_iconst 109 X dX0_takeOver_109 ?_
  refine tu_bipush 110 X dX0_takeOver_110 (by decide) ?_
  refine tu_copy 112 X (M' := tu_row (tu_row (tu_row (tu_row (tu_row (tu_row (tu_row M 22 (tu_u (tu_u (tu_u (M 22) 1 (M 1 1)) 4 (M 1 4)) 7 (M 1 7))) 23 (va_cpy (M 2) (M 23) 0 0 4)) 24 (va_cpy (M 3) (M 24) 0 0 16)) 25 (va_cpy (M 4) (M 25) 0 0 256)) 26 (va_cpy (M 5) (M 26) 0 0 8)) 27 (va_cpy (M 6) (M 27) 0 0 192)) 28 (va_cpy (M 7) (M 28) 0 0 40)) 0 0 40 ac_RX0 dX0_takeOver_112 (by decide) (by decide) rfl rfl (by decide) (by decide) rfl rfl rfl (by omega) (by omega) rfl (Nat.le_of_ble_eq_true rfl) (by decide) (Nat.le_trans nf_le (by decide)) ?_
  refine tu_aload_n 115 X 0 dX0_takeOver_115 rfl ?_
  refine tu_aload_n 116 X 1 dX0_takeOver_116 rfl ?_
  refine tu_getI 117 X (x := M 1 9) dX0_takeOver_117 fl_RX0_40 (by decide) rfl rfl rfl ?_
  refine tu_putI 120 X (M' := tu_row (tu_row (tu_row (tu_row (tu_row (tu_row (tu_row M 22 (tu_u (tu_u (tu_u (tu_u (M 22) 1 (M 1 1)) 4 (M 1 4)) 7 (M 1 7)) 9 (M 1 9))) 23 (va_cpy (M 2) (M 23) 0 0 4)) 24 (va_cpy (M 3) (M 24) 0 0 16)) 25 (va_cpy (M 4) (M 25) 0 0 256)) 26 (va_cpy (M 5) (M 26) 0 0 8)) 27 (va_cpy (M 6) (M 27) 0 0 192)) 28 (va_cpy (M 7) (M 28) 0 0 40)) dX0_takeOver_120 fp_RX0_40 (by decide) rfl rfl ((tu_rc (tu_row (tu_row (tu_row (tu_row (tu_row (tu_row M 22 (tu_u (tu_u (tu_u (M 22) 1 (M 1 1)) 4 (M 1 4)) 7 (M 1 7))) 23 (va_cpy (M 2) (M 23) 0 0 4)) 24 (va_cpy (M 3) (M 24) 0 0 16)) 25 (va_cpy (M 4) (M 25) 0 0 256)) 26 (va_cpy (M 5) (M 26) 0 0 8)) 27 (va_cpy (M 6) (M 27) 0 0 192)) (va_cpy (M 7) (M 28) 0 0 40) (tu_u (tu_u (tu_u (tu_u (M 22) 1 (M 1 1)) 4 (M 1 4)) 7 (M 1 7)) 9 (M 1 9)) rfl).trans (congrArg (fun m => tu_row m 28 (va_cpy (M 7) (M 28) 0 0 40)) ((tu_rc (tu_row (tu_row (tu_row (tu_row (tu_row M 22 (tu_u (tu_u (tu_u (M 22) 1 (M 1 1)) 4 (M 1 4)) 7 (M 1 7))) 23 (va_cpy (M 2) (M 23) 0 0 4)) 24 (va_cpy (M 3) (M 24) 0 0 16)) 25 (va_cpy (M 4) (M 25) 0 0 256)) 26 (va_cpy (M 5) (M 26) 0 0 8)) (va_cpy (M 6) (M 27) 0 0 192) (tu_u (tu_u (tu_u (tu_u (M 22) 1 (M 1 1)) 4 (M 1 4)) 7 (M 1 7)) 9 (M 1 9)) rfl).trans (congrArg (fun m => tu_row m 27 (va_cpy (M 6) (M 27) 0 0 192)) ((tu_rc (tu_row (tu_row (tu_row (tu_row M 22 (tu_u (tu_u (tu_u (M 22) 1 (M 1 1)) 4 (M 1 4)) 7 (M 1 7))) 23 (va_cpy (M 2) (M 23) 0 0 4)) 24 (va_cpy (M 3) (M 24) 0 0 16)) 25 (va_cpy (M 4) (M 25) 0 0 256)) (va_cpy (M 5) (M 26) 0 0 8) (tu_u (tu_u (tu_u (tu_u (M 22) 1 (M 1 1)) 4 (M 1 4)) 7 (M 1 7)) 9 (M 1 9)) rfl).trans (congrArg (fun m => tu_row m 26 (va_cpy (M 5) (M 26) 0 0 8)) ((tu_rc (tu_row (tu_row (tu_row M 22 (tu_u (tu_u (tu_u (M 22) 1 (M 1 1)) 4 (M 1 4)) 7 (M 1 7))) 23 (va_cpy (M 2) (M 23) 0 0 4)) 24 (va_cpy (M 3) (M 24) 0 0 16)) (va_cpy (M 4) (M 25) 0 0 256) (tu_u (tu_u (tu_u (tu_u (M 22) 1 (M 1 1)) 4 (M 1 4)) 7 (M 1 7)) 9 (M 1 9)) rfl).trans (congrArg (fun m => tu_row m 25 (va_cpy (M 4) (M 25) 0 0 256)) ((tu_rc (tu_row (tu_row M 22 (tu_u (tu_u (tu_u (M 22) 1 (M 1 1)) 4 (M 1 4)) 7 (M 1 7))) 23 (va_cpy (M 2) (M 23) 0 0 4)) (va_cpy (M 3) (M 24) 0 0 16) (tu_u (tu_u (tu_u (tu_u (M 22) 1 (M 1 1)) 4 (M 1 4)) 7 (M 1 7)) 9 (M 1 9)) rfl).trans (congrArg (fun m => tu_row m 24 (va_cpy (M 3) (M 24) 0 0 16)) ((tu_rc (tu_row M 22 (tu_u (tu_u (tu_u (M 22) 1 (M 1 1)) 4 (M 1 4)) 7 (M 1 7))) (va_cpy (M 2) (M 23) 0 0 4) (tu_u (tu_u (tu_u (tu_u (M 22) 1 (M 1 1)) 4 (M 1 4)) 7 (M 1 7)) 9 (M 1 9)) rfl).trans (congrArg (fun m => tu_row m 23 (va_cpy (M 2) (M 23) 0 0 4)) (tu_rr M 22 (tu_u (tu_u (tu_u (M 22) 1 (M 1 1)) 4 (M 1 4)) 7 (M 1 7)) (tu_u (tu_u (tu_u (tu_u (M 22) 1 (M 1 1)) 4 (M 1 4)) 7 (M 1 7)) 9 (M 1 9))))))))))))))) ?_
  refine tu_aload_n 123 X 1 dX0_takeOver_123 rfl ?_
  refine tu_getR 124 X dX0_takeOver_124 fl_RX0_43 (by decide) rfl rfl ?_
  refine tu_iconst 127 X dX0_takeOver_127 ?_
  refine tu_aload_n 128 X 0 dX0_takeOver_128 rfl ?_
  refine tu_getR 129 X dX0_takeOver_129 fl_RX0_43 (by decide) rfl rfl ?_
  refine tu_iconst 132 X dX0_takeOver_132 ?_
  refine tu_bipush 133 X dX0_takeOver_133 (by decide) ?_
  refine tu_copy 135 X (M' := tu_row (tu_row (tu_row (tu_row (tu_row (tu_row (tu_row (tu_row M 22 (tu_u (tu_u (tu_u (tu_u (M 22) 1 (M 1 1)) 4 (M 1 4)) 7 (M 1 7)) 9 (M 1 9))) 23 (va_cpy (M 2) (M 23) 0 0 4)) 24 (va_cpy (M 3) (M 24) 0 0 16)) 25 (va_cpy (M 4) (M 25) 0 0 256)) 26 (va_cpy (M 5) (M 26) 0 0 8)) 27 (va_cpy (M 6) (M 27) 0 0 192)) 28 (va_cpy (M 7) (M 28) 0 0 40)) 29 (va_cpy (M 8) (M 29) 0 0 8)) 0 0 8 ac_RX0 dX0_takeOver_135 (by decide) (by decide) rfl rfl (by decide) (by decide) rfl rfl rfl (by omega) (by omega) rfl (Nat.le_of_ble_eq_true rfl) (by decide) (Nat.le_trans nf_le (by decide)) ?_
  refine tu_ext (N := tu_tk M 22 1) ?_ (hret 138 _ _ dX0_takeOver_138 rfl)
  refine tu_tk_q (Or.inr ⟨0, by decide, rfl⟩) (fun i hi => by rw [tu_row_n _ _ (by omega), tu_row_n _ _ (by omega), tu_row_n _ _ (by omega), tu_row_n _ _ (by omega), tu_row_n _ _ (by omega), tu_row_n _ _ (by omega), tu_row_n _ _ (by omega), tu_row_n _ _ (by omega)]) (fun j hj => tu_cp hj) (fun j hj => tu_cp hj) (fun j hj => tu_cp hj) (fun j hj => tu_cp hj) (fun j hj => tu_cp hj) (fun j hj => tu_cp hj) (fun j hj => tu_cp hj) rfl rfl rfl rfl
set_option maxRecDepth 20000 in
set_option maxHeartbeats 4000000 in
theorem c_X0_takeOver_1_22 {M : tu_M}   : tu_MV tu_Y_X0_takeOver [tu_r 1, tu_r 22] M (fun M' => M' = tu_tk M 1 22) := by
  refine tu_MV.of (by decide) rfl (Nat.le_of_ble_eq_true rfl) (fun T (X : tu_X T cX0_takeOver RX0 1 40) hnl hret => ?_)
  have hret : tu_RV T cX0_takeOver (fun M' => M' = tu_tk M 1 22) := hret
  have hnl : T.2.2.2.2.2.2.2.2.2.2.1 = 2 := hnl
  show tu_W T 0 [(0, tu_r 1), (1, tu_r 22)] [] M
  refine tu_aload_n 0 X 1 dX0_takeOver_0 rfl ?_
  refine tu_getR 1 X dX0_takeOver_1 fl_RX0_9 (by decide) rfl rfl ?_
  refine tu_iconst 4 X dX0_takeOver_4 ?_
  refine tu_aload_n 5 X 0 dX0_takeOver_5 rfl ?_
  refine tu_getR 6 X dX0_takeOver_6 fl_RX0_9 (by decide) rfl rfl ?_
  refine tu_iconst 9 X dX0_takeOver_9 ?_
  refine tu_iconst 10 X dX0_takeOver_10 ?_
  refine tu_copy 11 X (M' := tu_row M 2 (va_cpy (M 23) (M 2) 0 0 4)) 0 0 4 ac_RX0 dX0_takeOver_11 (by decide) (by decide) rfl rfl (by decide) (by decide) rfl rfl rfl (by omega) (by omega) rfl (Nat.le_of_ble_eq_true rfl) (by decide) (Nat.le_trans nf_le (by decide)) ?_
  refine tu_aload_n 14 X 0 dX0_takeOver_14 rfl ?_
  refine tu_aload_n 15 X 1 dX0_takeOver_15 rfl ?_
  refine tu_getI 16 X (x := M 22 1) dX0_takeOver_16 fl_RX0_15 (by decide) rfl rfl rfl ?_
  refine tu_putI 19 X (M' := tu_row (tu_row M 1 (tu_u (M 1) 1 (M 22 1))) 2 (va_cpy (M 23) (M 2) 0 0 4)) dX0_takeOver_19 fp_RX0_15 (by decide) rfl rfl (tu_rc M (va_cpy (M 23) (M 2) 0 0 4) (tu_u (M 1) 1 (M 22 1)) rfl) ?_
  refine tu_aload_n 22 X 1 dX0_takeOver_22 rfl ?_
  refine tu_getR 23 X dX0_takeOver_23 fl_RX0_19 (by decide) rfl rfl ?_
  refine tu_iconst 26 X dX0_takeOver_26 ?_
  refine tu_aload_n 27 X 0 dX0_takeOver_27 rfl ?_
  refine tu_getR 28 X dX0_takeOver_28 fl_RX0_19 (by decide) rfl rfl ?_
  refine tu_iconst 31 X dX0_takeOver_31 ?_
  refine tu_bipush 32 X dX0_takeOver_32 (by decide) ?_
  refine tu_copy 34 X (M' := tu_row (tu_row (tu_row M 1 (tu_u (M 1) 1 (M 22 1))) 2 (va_cpy (M 23) (M 2) 0 0 4)) 3 (va_cpy (M 24) (M 3) 0 0 16)) 0 0 16 ac_RX0 dX0_takeOver_34 (by decide) (by decide) rfl rfl (by decide) (by decide) rfl rfl rfl (by omega) (by omega) rfl (Nat.le_of_ble_eq_true rfl) (by decide) (Nat.le_trans nf_le (by decide)) ?_
  refine tu_aload_n 37 X 1 dX0_takeOver_37 rfl ?_
  refine tu_getR 38 X dX0_takeOver_38 fl_RX0_22 (by decide) rfl rfl ?_
  refine tu_iconst 41 X dX0_takeOver_41 ?_
  refine tu_aload_n 42 X 0 dX0_takeOver_42 rfl ?_
  refine tu_getR 43 X dX0_takeOver_43 fl_RX0_22 (by decide) rfl rfl ?_
  refine tu_iconst 46 X dX0_takeOver_46 ?_
  refine tu_sipush 47 X dX0_takeOver_47 (by decide) ?_
  refine tu_copy 50 X (M' := tu_row (tu_row (tu_row (tu_row M 1 (tu_u (M 1) 1 (M 22 1))) 2 (va_cpy (M 23) (M 2) 0 0 4)) 3 (va_cpy (M 24) (M 3) 0 0 16)) 4 (va_cpy (M 25) (M 4) 0 0 256)) 0 0 256 ac_RX0 dX0_takeOver_50 (by decide) (by decide) rfl rfl (by decide) (by decide) rfl rfl rfl (by omega) (by omega) rfl (Nat.le_of_ble_eq_true rfl) (by decide) (Nat.le_trans nf_le (by decide)) ?_
  refine tu_aload_n 53 X 0 dX0_takeOver_53 rfl ?_
  refine tu_aload_n 54 X 1 dX0_takeOver_54 rfl ?_
  refine tu_getI 55 X (x := M 22 4) dX0_takeOver_55 fl_RX0_25 (by decide) rfl rfl rfl ?_
  refine tu_putI 58 X (M' := tu_row (tu_row (tu_row (tu_row M 1 (tu_u (tu_u (M 1) 1 (M 22 1)) 4 (M 22 4))) 2 (va_cpy (M 23) (M 2) 0 0 4)) 3 (va_cpy (M 24) (M 3) 0 0 16)) 4 (va_cpy (M 25) (M 4) 0 0 256)) dX0_takeOver_58 fp_RX0_25 (by decide) rfl rfl ((tu_rc (tu_row (tu_row (tu_row M 1 (tu_u (M 1) 1 (M 22 1))) 2 (va_cpy (M 23) (M 2) 0 0 4)) 3 (va_cpy (M 24) (M 3) 0 0 16)) (va_cpy (M 25) (M 4) 0 0 256) (tu_u (tu_u (M 1) 1 (M 22 1)) 4 (M 22 4)) rfl).trans (congrArg (fun m => tu_row m 4 (va_cpy (M 25) (M 4) 0 0 256)) ((tu_rc (tu_row (tu_row M 1 (tu_u (M 1) 1 (M 22 1))) 2 (va_cpy (M 23) (M 2) 0 0 4)) (va_cpy (M 24) (M 3) 0 0 16) (tu_u (tu_u (M 1) 1 (M 22 1)) 4 (M 22 4)) rfl).trans (congrArg (fun m => tu_row m 3 (va_cpy (M 24) (M 3) 0 0 16)) ((tu_rc (tu_row M 1 (tu_u (M 1) 1 (M 22 1))) (va_cpy (M 23) (M 2) 0 0 4) (tu_u (tu_u (M 1) 1 (M 22 1)) 4 (M 22 4)) rfl).trans (congrArg (fun m => tu_row m 2 (va_cpy (M 23) (M 2) 0 0 4)) (tu_rr M 1 (tu_u (M 1) 1 (M 22 1)) (tu_u (tu_u (M 1) 1 (M 22 1)) 4 (M 22 4))))))))) ?_
  refine tu_aload_n 61 X 1 dX0_takeOver_61 rfl ?_
  refine tu_getR 62 X dX0_takeOver_62 fl_RX0_28 (by decide) rfl rfl ?_
  refine tu_iconst 65 X dX0_takeOver_65 ?_
  refine tu_aload_n 66 X 0 dX0_takeOver_66 rfl ?_
  refine tu_getR 67 X dX0_takeOver_67 fl_RX0_28 (by decide) rfl rfl ?_
  refine tu_iconst 70 X dX0_takeOver_70 ?_
  refine tu_bipush 71 X dX0_takeOver_71 (by decide) ?_
  refine tu_copy 73 X (M' := tu_row (tu_row (tu_row (tu_row (tu_row M 1 (tu_u (tu_u (M 1) 1 (M 22 1)) 4 (M 22 4))) 2 (va_cpy (M 23) (M 2) 0 0 4)) 3 (va_cpy (M 24) (M 3) 0 0 16)) 4 (va_cpy (M 25) (M 4) 0 0 256)) 5 (va_cpy (M 26) (M 5) 0 0 8)) 0 0 8 ac_RX0 dX0_takeOver_73 (by decide) (by decide) rfl rfl (by decide) (by decide) rfl rfl rfl (by omega) (by omega) rfl (Nat.le_of_ble_eq_true rfl) (by decide) (Nat.le_trans nf_le (by decide)) ?_
  refine tu_aload_n 76 X 1 dX0_takeOver_76 rfl ?_
  refine tu_getR 77 X dX0_takeOver_77 fl_RX0_31 (by decide) rfl rfl ?_
  refine tu_iconst 80 X dX0_takeOver_80 ?_
  refine tu_aload_n 81 X 0 dX0_takeOver_81 rfl ?_
  refine tu_getR 82 X dX0_takeOver_82 fl_RX0_31 (by decide) rfl rfl ?_
  refine tu_iconst 85 X dX0_takeOver_85 ?_
  refine tu_sipush 86 X dX0_takeOver_86 (by decide) ?_
  refine tu_copy 89 X (M' := tu_row (tu_row (tu_row (tu_row (tu_row (tu_row M 1 (tu_u (tu_u (M 1) 1 (M 22 1)) 4 (M 22 4))) 2 (va_cpy (M 23) (M 2) 0 0 4)) 3 (va_cpy (M 24) (M 3) 0 0 16)) 4 (va_cpy (M 25) (M 4) 0 0 256)) 5 (va_cpy (M 26) (M 5) 0 0 8)) 6 (va_cpy (M 27) (M 6) 0 0 192)) 0 0 192 ac_RX0 dX0_takeOver_89 (by decide) (by decide) rfl rfl (by decide) (by decide) rfl rfl rfl (by omega) (by omega) rfl (Nat.le_of_ble_eq_true rfl) (by decide) (Nat.le_trans nf_le (by decide)) ?_
  refine tu_aload_n 92 X 0 dX0_takeOver_92 rfl ?_
  refine tu_aload_n 93 X 1 dX0_takeOver_93 rfl ?_
  refine tu_getI 94 X (x := M 22 7) dX0_takeOver_94 fl_RX0_34 (by decide) rfl rfl rfl ?_
  refine tu_putI 97 X (M' := tu_row (tu_row (tu_row (tu_row (tu_row (tu_row M 1 (tu_u (tu_u (tu_u (M 1) 1 (M 22 1)) 4 (M 22 4)) 7 (M 22 7))) 2 (va_cpy (M 23) (M 2) 0 0 4)) 3 (va_cpy (M 24) (M 3) 0 0 16)) 4 (va_cpy (M 25) (M 4) 0 0 256)) 5 (va_cpy (M 26) (M 5) 0 0 8)) 6 (va_cpy (M 27) (M 6) 0 0 192)) dX0_takeOver_97 fp_RX0_34 (by decide) rfl rfl ((tu_rc (tu_row (tu_row (tu_row (tu_row (tu_row M 1 (tu_u (tu_u (M 1) 1 (M 22 1)) 4 (M 22 4))) 2 (va_cpy (M 23) (M 2) 0 0 4)) 3 (va_cpy (M 24) (M 3) 0 0 16)) 4 (va_cpy (M 25) (M 4) 0 0 256)) 5 (va_cpy (M 26) (M 5) 0 0 8)) (va_cpy (M 27) (M 6) 0 0 192) (tu_u (tu_u (tu_u (M 1) 1 (M 22 1)) 4 (M 22 4)) 7 (M 22 7)) rfl).trans (congrArg (fun m => tu_row m 6 (va_cpy (M 27) (M 6) 0 0 192)) ((tu_rc (tu_row (tu_row (tu_row (tu_row M 1 (tu_u (tu_u (M 1) 1 (M 22 1)) 4 (M 22 4))) 2 (va_cpy (M 23) (M 2) 0 0 4)) 3 (va_cpy (M 24) (M 3) 0 0 16)) 4 (va_cpy (M 25) (M 4) 0 0 256)) (va_cpy (M 26) (M 5) 0 0 8) (tu_u (tu_u (tu_u (M 1) 1 (M 22 1)) 4 (M 22 4)) 7 (M 22 7)) rfl).trans (congrArg (fun m => tu_row m 5 (va_cpy (M 26) (M 5) 0 0 8)) ((tu_rc (tu_row (tu_row (tu_row M 1 (tu_u (tu_u (M 1) 1 (M 22 1)) 4 (M 22 4))) 2 (va_cpy (M 23) (M 2) 0 0 4)) 3 (va_cpy (M 24) (M 3) 0 0 16)) (va_cpy (M 25) (M 4) 0 0 256) (tu_u (tu_u (tu_u (M 1) 1 (M 22 1)) 4 (M 22 4)) 7 (M 22 7)) rfl).trans (congrArg (fun m => tu_row m 4 (va_cpy (M 25) (M 4) 0 0 256)) ((tu_rc (tu_row (tu_row M 1 (tu_u (tu_u (M 1) 1 (M 22 1)) 4 (M 22 4))) 2 (va_cpy (M 23) (M 2) 0 0 4)) (va_cpy (M 24) (M 3) 0 0 16) (tu_u (tu_u (tu_u (M 1) 1 (M 22 1)) 4 (M 22 4)) 7 (M 22 7)) rfl).trans (congrArg (fun m => tu_row m 3 (va_cpy (M 24) (M 3) 0 0 16)) ((tu_rc (tu_row M 1 (tu_u (tu_u (M 1) 1 (M 22 1)) 4 (M 22 4))) (va_cpy (M 23) (M 2) 0 0 4) (tu_u (tu_u (tu_u (M 1) 1 (M 22 1)) 4 (M 22 4)) 7 (M 22 7)) rfl).trans (congrArg (fun m => tu_row m 2 (va_cpy (M 23) (M 2) 0 0 4)) (tu_rr M 1 (tu_u (tu_u (M 1) 1 (M 22 1)) 4 (M 22 4)) (tu_u (tu_u (tu_u (M 1) 1 (M 22 1)) 4 (M 22 4)) 7 (M 22 7))))))))))))) ?_
  refine tu_aload_n 100 X 1 dX0_takeOver_100 rfl ?_
  refine tu_getR 101 X dX0_takeOver_101 fl_RX0_37 (by decide) rfl rfl ?_
  refine tu_iconst 104 X dX0_takeOver_104 ?_
  refine tu_aload_n 105 X 0 dX0_takeOver_105 rfl ?_
  refine tu_getR 106 X dX0_takeOver_106 fl_RX0_37 (by decide) rfl rfl ?_
  refine tu_iconst 109 X dX0_takeOver_109 ?_
  refine tu_bipush 110 X dX0_takeOver_110 (by decide) ?_
  refine tu_copy 112 X (M' := tu_row (tu_row (tu_row (tu_row (tu_row (tu_row (tu_row M 1 (tu_u (tu_u (tu_u (M 1) 1 (M 22 1)) 4 (M 22 4)) 7 (M 22 7))) 2 (va_cpy (M 23) (M 2) 0 0 4)) 3 (va_cpy (M 24) (M 3) 0 0 16)) 4 (va_cpy (M 25) (M 4) 0 0 256)) 5 (va_cpy (M 26) (M 5) 0 0 8)) 6 (va_cpy (M 27) (M 6) 0 0 192)) 7 (va_cpy (M 28) (M 7) 0 0 40)) 0 0 40 ac_RX0 dX0_takeOver_112 (by decide) (by decide) rfl rfl (by decide) (by decide) rfl rfl rfl (by omega) (by omega) rfl (Nat.le_of_ble_eq_true rfl) (by decide) (Nat.le_trans nf_le (by decide)) ?_
  refine tu_aload_n 115 X 0 dX0_takeOver_115 rfl ?_
  refine tu_aload_n 116 X 1 dX0_takeOver_116 rfl ?_
  refine tu_getI 117 X (x := M 22 9) dX0_takeOver_117 fl_RX0_40 (by decide) rfl rfl rfl ?_
  refine tu_putI 120 X (M' := tu_row (tu_row (tu_row (tu_row (tu_row (tu_row (tu_row M 1 (tu_u (tu_u (tu_u (tu_u (M 1) 1 (M 22 1)) 4 (M 22 4)) 7 (M 22 7)) 9 (M 22 9))) 2 (va_cpy (M 23) (M 2) 0 0 4)) 3 (va_cpy (M 24) (M 3) 0 0 16)) 4 (va_cpy (M 25) (M 4) 0 0 256)) 5 (va_cpy (M 26) (M 5) 0 0 8)) 6 (va_cpy (M 27) (M 6) 0 0 192)) 7 (va_cpy (M 28) (M 7) 0 0 40)) dX0_takeOver_120 fp_RX0_40 (by decide) rfl rfl ((tu_rc (tu_row (tu_row (tu_row (tu_row (tu_row (tu_row M 1 (tu_u (tu_u (tu_u (M 1) 1 (M 22 1)) 4 (M 22 4)) 7 (M 22 7))) 2 (va_cpy (M 23) (M 2) 0 0 4)) 3 (va_cpy (M 24) (M 3) 0 0 16)) 4 (va_cpy (M 25) (M 4) 0 0 256)) 5 (va_cpy (M 26) (M 5) 0 0 8)) 6 (va_cpy (M 27) (M 6) 0 0 192)) (va_cpy (M 28) (M 7) 0 0 40) (tu_u (tu_u (tu_u (tu_u (M 1) 1 (M 22 1)) 4 (M 22 4)) 7 (M 22 7)) 9 (M 22 9)) rfl).trans (congrArg (fun m => tu_row m 7 (va_cpy (M 28) (M 7) 0 0 40)) ((tu_rc (tu_row (tu_row (tu_row (tu_row (tu_row M 1 (tu_u (tu_u (tu_u (M 1) 1 (M 22 1)) 4 (M 22 4)) 7 (M 22 7))) 2 (va_cpy (M 23) (M 2) 0 0 4)) 3 (va_cpy (M 24) (M 3) 0 0 16)) 4 (va_cpy (M 25) (M 4) 0 0 256)) 5 (va_cpy (M 26) (M 5) 0 0 8)) (va_cpy (M 27) (M 6) 0 0 192) (tu_u (tu_u (tu_u (tu_u (M 1) 1 (M 22 1)) 4 (M 22 4)) 7 (M 22 7)) 9 (M 22 9)) rfl).trans (congrArg (fun m => tu_row m 6 (va_cpy (M 27) (M 6) 0 0 192)) ((tu_rc (tu_row (tu_row (tu_row (tu_row M 1 (tu_u (tu_u (tu_u (M 1) 1 (M 22 1)) 4 (M 22 4)) 7 (M 22 7))) 2 (va_cpy (M 23) (M 2) 0 0 4)) 3 (va_cpy (M 24) (M 3) 0 0 16)) 4 (va_cpy (M 25) (M 4) 0 0 256)) (va_cpy (M 26) (M 5) 0 0 8) (tu_u (tu_u (tu_u (tu_u (M 1) 1 (M 22 1)) 4 (M 22 4)) 7 (M 22 7)) 9 (M 22 9)) rfl).trans (congrArg (fun m => tu_row m 5 (va_cpy (M 26) (M 5) 0 0 8)) ((tu_rc (tu_row (tu_row (tu_row M 1 (tu_u (tu_u (tu_u (M 1) 1 (M 22 1)) 4 (M 22 4)) 7 (M 22 7))) 2 (va_cpy (M 23) (M 2) 0 0 4)) 3 (va_cpy (M 24) (M 3) 0 0 16)) (va_cpy (M 25) (M 4) 0 0 256) (tu_u (tu_u (tu_u (tu_u (M 1) 1 (M 22 1)) 4 (M 22 4)) 7 (M 22 7)) 9 (M 22 9)) rfl).trans (congrArg (fun m => tu_row m 4 (va_cpy (M 25) (M 4) 0 0 256)) ((tu_rc (tu_row (tu_row M 1 (tu_u (tu_u (tu_u (M 1) 1 (M 22 1)) 4 (M 22 4)) 7 (M 22 7))) 2 (va_cpy (M 23) (M 2) 0 0 4)) (va_cpy (M 24) (M 3) 0 0 16) (tu_u (tu_u (tu_u (tu_u (M 1) 1 (M 22 1)) 4 (M 22 4)) 7 (M 22 7)) 9 (M 22 9)) rfl).trans (congrArg (fun m => tu_row m 3 (va_cpy (M 24) (M 3) 0 0 16)) ((tu_rc (tu_row M 1 (tu_u (tu_u (tu_u (M 1) 1 (M 22 1)) 4 (M 22 4)) 7 (M 22 7))) (va_cpy (M 23) (M 2) 0 0 4) (tu_u (tu_u (tu_u (tu_u (M 1) 1 (M 22 1)) 4 (M 22 4)) 7 (M 22 7)) 9 (M 22 9)) rfl).trans (congrArg (fun m => tu_row m 2 (va_cpy (M 23) (M 2) 0 0 4)) (tu_rr M 1 (tu_u (tu_u (tu_u (M 1) 1 (M 22 1)) 4 (M 22 4)) 7 (M 22 7)) (tu_u (tu_u (tu_u (tu_u (M 1) 1 (M 22 1)) 4 (M 22 4)) 7 (M 22 7)) 9 (M 22 9))))))))))))))) ?_
  refine tu_aload_n 123 X 1 dX0_takeOver_123 rfl ?_
  refine tu_getR 124 X dX0_takeOver_124 fl_RX0_43 (by decide) rfl rfl ?_
  refine tu_iconst 127 X dX0_takeOver_127 ?_
  refine tu_aload_n 128 X 0 dX0_takeOver_128 rfl ?_
  refine tu_getR 129 X dX0_takeOver_129 fl_RX0_43 (by decide) rfl rfl ?_
  refine tu_iconst 132 X dX0_takeOver_132 ?_
  refine tu_bipush 133 X dX0_takeOver_133 (by decide) ?_
  refine tu_copy 135 X (M' := tu_row (tu_row (tu_row (tu_row (tu_row (tu_row (tu_row (tu_row M 1 (tu_u (tu_u (tu_u (tu_u (M 1) 1 (M 22 1)) 4 (M 22 4)) 7 (M 22 7)) 9 (M 22 9))) 2 (va_cpy (M 23) (M 2) 0 0 4)) 3 (va_cpy (M 24) (M 3) 0 0 16)) 4 (va_cpy (M 25) (M 4) 0 0 256)) 5 (va_cpy (M 26) (M 5) 0 0 8)) 6 (va_cpy (M 27) (M 6) 0 0 192)) 7 (va_cpy (M 28) (M 7) 0 0 40)) 8 (va_cpy (M 29) (M 8) 0 0 8)) 0 0 8 ac_RX0 dX0_takeOver_135 (by decide) (by decide) rfl rfl (by decide) (by decide) rfl rfl rfl (by omega) (by omega) rfl (Nat.le_of_ble_eq_true rfl) (by decide) (Nat.le_trans nf_le (by decide)) ?_
  refine tu_ext (N := tu_tk M 1 22) ?_ (hret 138 _ _ dX0_takeOver_138 rfl)
  refine tu_tk_q (Or.inl rfl) (fun i hi => by rw [tu_row_n _ _ (by omega), tu_row_n _ _ (by omega), tu_row_n _ _ (by omega), tu_row_n _ _ (by omega), tu_row_n _ _ (by omega), tu_row_n _ _ (by omega), tu_row_n _ _ (by omega), tu_row_n _ _ (by omega)]) (fun j hj => tu_cp hj) (fun j hj => tu_cp hj) (fun j hj => tu_cp hj) (fun j hj => tu_cp hj) (fun j hj => tu_cp hj) (fun j hj => tu_cp hj) (fun j hj => tu_cp hj) rfl rfl rfl rfl
set_option maxRecDepth 20000 in
set_option maxHeartbeats 4000000 in
theorem c_X0_takeOver_30_1 {M : tu_M}   : tu_MV tu_Y_X0_takeOver [tu_r 30, tu_r 1] M (fun M' => M' = tu_tk M 30 1) := by
  refine tu_MV.of (by decide) rfl (Nat.le_of_ble_eq_true rfl) (fun T (X : tu_X T cX0_takeOver RX0 1 40) hnl hret => ?_)
  have hret : tu_RV T cX0_takeOver (fun M' => M' = tu_tk M 30 1) := hret
  have hnl : T.2.2.2.2.2.2.2.2.2.2.1 = 2 := hnl
  show tu_W T 0 [(0, tu_r 30), (1, tu_r 1)] [] M
  refine tu_aload_n 0 X 1 dX0_takeOver_0 rfl ?_
  refine tu_getR 1 X dX0_takeOver_1 fl_RX0_9 (by decide) rfl rfl ?_
  refine tu_iconst 4 X dX0_takeOver_4 ?_
  refine tu_aload_n 5 X 0 dX0_takeOver_5 rfl ?_
  refine tu_getR 6 X dX0_takeOver_6 fl_RX0_9 (by decide) rfl rfl ?_
  refine tu_iconst 9 X dX0_takeOver_9 ?_
  refine tu_iconst 10 X dX0_takeOver_10 ?_
  refine tu_copy 11 X (M' := tu_row M 31 (va_cpy (M 2) (M 31) 0 0 4)) 0 0 4 ac_RX0 dX0_takeOver_11 (by decide) (by decide) rfl rfl (by decide) (by decide) rfl rfl rfl (by omega) (by omega) rfl (Nat.le_of_ble_eq_true rfl) (by decide) (Nat.le_trans nf_le (by decide)) ?_
  refine tu_aload_n 14 X 0 dX0_takeOver_14 rfl ?_
  refine tu_aload_n 15 X 1 dX0_takeOver_15 rfl ?_
  refine tu_getI 16 X (x := M 1 1) dX0_takeOver_16 fl_RX0_15 (by decide) rfl rfl rfl ?_
  refine tu_putI 19 X (M' := tu_row (tu_row M 30 (tu_u (M 30) 1 (M 1 1))) 31 (va_cpy (M 2) (M 31) 0 0 4)) dX0_takeOver_19 fp_RX0_15 (by decide) rfl rfl (tu_rc M (va_cpy (M 2) (M 31) 0 0 4) (tu_u (M 30) 1 (M 1 1)) rfl) ?_
  refine tu_aload_n 22 X 1 dX0_takeOver_22 rfl ?_
  refine tu_getR 23 X dX0_takeOver_23 fl_RX0_19 (by decide) rfl rfl ?_
  refine tu_iconst 26 X dX0_takeOver_26 ?_
  refine tu_aload_n 27 X 0 dX0_takeOver_27 rfl ?_
  refine tu_getR 28 X dX0_takeOver_28 fl_RX0_19 (by decide) rfl rfl ?_
  refine tu_iconst 31 X dX0_takeOver_31 ?_
  refine tu_bipush 32 X dX0_takeOver_32 (by decide) ?_
  refine tu_copy 34 X (M' := tu_row (tu_row (tu_row M 30 (tu_u (M 30) 1 (M 1 1))) 31 (va_cpy (M 2) (M 31) 0 0 4)) 32 (va_cpy (M 3) (M 32) 0 0 16)) 0 0 16 ac_RX0 dX0_takeOver_34 (by decide) (by decide) rfl rfl (by decide) (by decide) rfl rfl rfl (by omega) (by omega) rfl (Nat.le_of_ble_eq_true rfl) (by decide) (Nat.le_trans nf_le (by decide)) ?_
  refine tu_aload_n 37 X 1 dX0_takeOver_37 rfl ?_
  refine tu_getR 38 X dX0_takeOver_38 fl_RX0_22 (by decide) rfl rfl ?_
  refine tu_iconst 41 X dX0_takeOver_41 ?_
  refine tu_aload_n 42 X 0 dX0_takeOver_42 rfl ?_
  refine tu_getR 43 X dX0_takeOver_43 fl_RX0_22 (by decide) rfl rfl ?_
  refine tu_iconst 46 X dX0_takeOver_46 ?_
  refine tu_sipush 47 X dX0_takeOver_47 (by decide) ?_
  refine tu_copy 50 X (M' := tu_row (tu_row (tu_row (tu_row M 30 (tu_u (M 30) 1 (M 1 1))) 31 (va_cpy (M 2) (M 31) 0 0 4)) 32 (va_cpy (M 3) (M 32) 0 0 16)) 33 (va_cpy (M 4) (M 33) 0 0 256)) 0 0 256 ac_RX0 dX0_takeOver_50 (by decide) (by decide) rfl rfl (by decide) (by decide) rfl rfl rfl (by omega) (by omega) rfl (Nat.le_of_ble_eq_true rfl) (by decide) (Nat.le_trans nf_le (by decide)) ?_
  refine tu_aload_n 53 X 0 dX0_takeOver_53 rfl ?_
  refine tu_aload_n 54 X 1 dX0_takeOver_54 rfl ?_
  refine tu_getI 55 X (x := M 1 4) dX0_takeOver_55 fl_RX0_25 (by decide) rfl rfl rfl ?_
  refine tu_putI 58 X (M' := tu_row (tu_row (tu_row (tu_row M 30 (tu_u (tu_u (M 30) 1 (M 1 1)) 4 (M 1 4))) 31 (va_cpy (M 2) (M 31) 0 0 4)) 32 (va_cpy (M 3) (M 32) 0 0 16)) 33 (va_cpy (M 4) (M 33) 0 0 256)) dX0_takeOver_58 fp_RX0_25 (by decide) rfl rfl ((tu_rc (tu_row (tu_row (tu_row M 30 (tu_u (M 30) 1 (M 1 1))) 31 (va_cpy (M 2) (M 31) 0 0 4)) 32 (va_cpy (M 3) (M 32) 0 0 16)) (va_cpy (M 4) (M 33) 0 0 256) (tu_u (tu_u (M 30) 1 (M 1 1)) 4 (M 1 4)) rfl).trans (congrArg (fun m => tu_row m 33 (va_cpy (M 4) (M 33) 0 0 256)) ((tu_rc (tu_row (tu_row M 30 (tu_u (M 30) 1 (M 1 1))) 31 (va_cpy (M 2) (M 31) 0 0 4)) (va_cpy (M 3) (M 32) 0 0 16) (tu_u (tu_u (M 30) 1 (M 1 1)) 4 (M 1 4)) rfl).trans (congrArg (fun m => tu_row m 32 (va_cpy (M 3) (M 32) 0 0 16)) ((tu_rc (tu_row M 30 (tu_u (M 30) 1 (M 1 1))) (va_cpy (M 2) (M 31) 0 0 4) (tu_u (tu_u (M 30) 1 (M 1 1)) 4 (M 1 4)) rfl).trans (congrArg (fun m => tu_row m 31 (va_cpy (M 2) (M 31) 0 0 4)) (tu_rr M 30 (tu_u (M 30) 1 (M 1 1)) (tu_u (tu_u (M 30) 1 (M 1 1)) 4 (M 1 4))))))))) ?_
  refine tu_aload_n 61 X 1 dX0_takeOver_61 rfl ?_
  refine tu_getR 62 X dX0_takeOver_62 fl_RX0_28 (by decide) rfl rfl ?_
  refine tu_iconst 65 X dX0_takeOver_65 ?_
  refine tu_aload_n 66 X 0 dX0_takeOver_66 rfl ?_
  refine tu_getR 67 X dX0_takeOver_67 fl_RX0_28 (by decide) rfl rfl ?_
  refine tu_iconst 70 X dX0_takeOver_70 ?_
  refine tu_bipush 71 X dX0_takeOver_71 (by decide) ?_
  refine tu_copy 73 X (M' := tu_row (tu_row (tu_row (tu_row (tu_row M 30 (tu_u (tu_u (M 30) 1 (M 1 1)) 4 (M 1 4))) 31 (va_cpy (M 2) (M 31) 0 0 4)) 32 (va_cpy (M 3) (M 32) 0 0 16)) 33 (va_cpy (M 4) (M 33) 0 0 256)) 34 (va_cpy (M 5) (M 34) 0 0 8)) 0 0 8 ac_RX0 dX0_takeOver_73 (by decide) (by decide) rfl rfl (by decide) (by decide) rfl rfl rfl (by omega) (by omega) rfl (Nat.le_of_ble_eq_true rfl) (by decide) (Nat.le_trans nf_le (by decide)) ?_
  refine tu_aload_n 76 X 1 dX0_takeOver_76 rfl ?_
  refine tu_getR 77 X dX0_takeOver_77 fl_RX0_31 (by decide) rfl rfl ?_
  refine tu_iconst 80 X dX0_takeOver_80 ?_
  refine tu_aload_n 81 X 0 dX0_takeOver_81 rfl ?_
  refine tu_getR 82 X dX0_takeOver_82 fl_RX0_31 (by decide) rfl rfl ?_
  refine tu_iconst 85 X dX0_takeOver_85 ?_
  refine tu_sipush 86 X dX0_takeOver_86 (by decide) ?_
  refine tu_copy 89 X (M' := tu_row (tu_row (tu_row (tu_row (tu_row (tu_row M 30 (tu_u (tu_u (M 30) 1 (M 1 1)) 4 (M 1 4))) 31 (va_cpy (M 2) (M 31) 0 0 4)) 32 (va_cpy (M 3) (M 32) 0 0 16)) 33 (va_cpy (M 4) (M 33) 0 0 256)) 34 (va_cpy (M 5) (M 34) 0 0 8)) 35 (va_cpy (M 6) (M 35) 0 0 192)) 0 0 192 ac_RX0 dX0_takeOver_89 (by decide) (by decide) rfl rfl (by decide) (by decide) rfl rfl rfl (by omega) (by omega) rfl (Nat.le_of_ble_eq_true rfl) (by decide) (Nat.le_trans nf_le (by decide)) ?_
  refine tu_aload_n 92 X 0 dX0_takeOver_92 rfl ?_
  refine tu_aload_n 93 X 1 dX0_takeOver_93 rfl ?_
  refine tu_getI 94 X (x := M 1 7) dX0_takeOver_94 fl_RX0_34 (by decide) rfl rfl rfl ?_
  refine tu_putI 97 X (M' := tu_row (tu_row (tu_row (tu_row (tu_row (tu_row M 30 (tu_u (tu_u (tu_u (M 30) 1 (M 1 1)) 4 (M 1 4)) 7 (M 1 7))) 31 (va_cpy (M 2) (M 31) 0 0 4)) 32 (va_cpy (M 3) (M 32) 0 0 16)) 33 (va_cpy (M 4) (M 33) 0 0 256)) 34 (va_cpy (M 5) (M 34) 0 0 8)) 35 (va_cpy (M 6) (M 35) 0 0 192)) dX0_takeOver_97 fp_RX0_34 (by decide) rfl rfl ((tu_rc (tu_row (tu_row (tu_row (tu_row (tu_row M 30 (tu_u (tu_u (M 30) 1 (M 1 1)) 4 (M 1 4))) 31 (va_cpy (M 2) (M 31) 0 0 4)) 32 (va_cpy (M 3) (M 32) 0 0 16)) 33 (va_cpy (M 4) (M 33) 0 0 256)) 34 (va_cpy (M 5) (M 34) 0 0 8)) (va_cpy (M 6) (M 35) 0 0 192) (tu_u (tu_u (tu_u (M 30) 1 (M 1 1)) 4 (M 1 4)) 7 (M 1 7)) rfl).trans (congrArg (fun m => tu_row m 35 (va_cpy (M 6) (M 35) 0 0 192)) ((tu_rc (tu_row (tu_row (tu_row (tu_row M 30 (tu_u (tu_u (M 30) 1 (M 1 1)) 4 (M 1 4))) 31 (va_cpy (M 2) (M 31) 0 0 4)) 32 (va_cpy (M 3) (M 32) 0 0 16)) 33 (va_cpy (M 4) (M 33) 0 0 256)) (va_cpy (M 5) (M 34) 0 0 8) (tu_u (tu_u (tu_u (M 30) 1 (M 1 1)) 4 (M 1 4)) 7 (M 1 7)) rfl).trans (congrArg (fun m => tu_row m 34 (va_cpy (M 5) (M 34) 0 0 8)) ((tu_rc (tu_row (tu_row (tu_row M 30 (tu_u (tu_u (M 30) 1 (M 1 1)) 4 (M 1 4))) 31 (va_cpy (M 2) (M 31) 0 0 4)) 32 (va_cpy (M 3) (M 32) 0 0 16)) (va_cpy (M 4) (M 33) 0 0 256) (tu_u (tu_u (tu_u (M 30) 1 (M 1 1)) 4 (M 1 4)) 7 (M 1 7)) rfl).trans (congrArg (fun m => tu_row m 33 (va_cpy (M 4) (M 33) 0 0 256)) ((tu_rc (tu_row (tu_row M 30 (tu_u (tu_u (M 30) 1 (M 1 1)) 4 (M 1 4))) 31 (va_cpy (M 2) (M 31) 0 0 4)) (va_cpy (M 3) (M 32) 0 0 16) (tu_u (tu_u (tu_u (M 30) 1 (M 1 1)) 4 (M 1 4)) 7 (M 1 7)) rfl).trans (congrArg (fun m => tu_row m 32 (va_cpy (M 3) (M 32) 0 0 16)) ((tu_rc (tu_row M 30 (tu_u (tu_u (M 30) 1 (M 1 1)) 4 (M 1 4))) (va_cpy (M 2) (M 31) 0 0 4) (tu_u (tu_u (tu_u (M 30) 1 (M 1 1)) 4 (M 1 4)) 7 (M 1 7)) rfl).trans (congrArg (fun m => tu_row m 31 (va_cpy (M 2) (M 31) 0 0 4)) (tu_rr M 30 (tu_u (tu_u (M 30) 1 (M 1 1)) 4 (M 1 4)) (tu_u (tu_u (tu_u (M 30) 1 (M 1 1)) 4 (M 1 4)) 7 (M 1 7))))))))))))) ?_
  refine tu_aload_n 100 X 1 dX0_takeOver_100 rfl ?_
  refine tu_getR 101 X dX0_takeOver_101 fl_RX0_37 (by decide) rfl rfl ?_
  refine tu_iconst 104 X dX0_takeOver_104 ?_
  refine tu_aload_n 105 X 0 dX0_takeOver_105 rfl ?_
  refine tu_getR 106 X dX0_takeOver_106 fl_RX0_37 (by decide) rfl rfl ?_
  refine tu_iconst 109 X dX0_takeOver_109 ?_
  refine tu_bipush 110 X dX0_takeOver_110 (by decide) ?_
  refine tu_copy 112 X (M' := tu_row (tu_row (tu_row (tu_row (tu_row (tu_row (tu_row M 30 (tu_u (tu_u (tu_u (M 30) 1 (M 1 1)) 4 (M 1 4)) 7 (M 1 7))) 31 (va_cpy (M 2) (M 31) 0 0 4)) 32 (va_cpy (M 3) (M 32) 0 0 16)) 33 (va_cpy (M 4) (M 33) 0 0 256)) 34 (va_cpy (M 5) (M 34) 0 0 8)) 35 (va_cpy (M 6) (M 35) 0 0 192)) 36 (va_cpy (M 7) (M 36) 0 0 40)) 0 0 40 ac_RX0 dX0_takeOver_112 (by decide) (by decide) rfl rfl (by decide) (by decide) rfl rfl rfl (by omega) (by omega) rfl (Nat.le_of_ble_eq_true rfl) (by decide) (Nat.le_trans nf_le (by decide)) ?_
  refine tu_aload_n 115 X 0 dX0_takeOver_115 rfl ?_
  refine tu_aload_n 116 X 1 dX0_takeOver_116 rfl ?_
  refine tu_getI 117 X (x := M 1 9) dX0_takeOver_117 fl_RX0_40 (by decide) rfl rfl rfl ?_
  refine tu_putI 120 X (M' := tu_row (tu_row (tu_row (tu_row (tu_row (tu_row (tu_row M 30 (tu_u (tu_u (tu_u (tu_u (M 30) 1 (M 1 1)) 4 (M 1 4)) 7 (M 1 7)) 9 (M 1 9))) 31 (va_cpy (M 2) (M 31) 0 0 4)) 32 (va_cpy (M 3) (M 32) 0 0 16)) 33 (va_cpy (M 4) (M 33) 0 0 256)) 34 (va_cpy (M 5) (M 34) 0 0 8)) 35 (va_cpy (M 6) (M 35) 0 0 192)) 36 (va_cpy (M 7) (M 36) 0 0 40)) dX0_takeOver_120 fp_RX0_40 (by decide) rfl rfl ((tu_rc (tu_row (tu_row (tu_row (tu_row (tu_row (tu_row M 30 (tu_u (tu_u (tu_u (M 30) 1 (M 1 1)) 4 (M 1 4)) 7 (M 1 7))) 31 (va_cpy (M 2) (M 31) 0 0 4)) 32 (va_cpy (M 3) (M 32) 0 0 16)) 33 (va_cpy (M 4) (M 33) 0 0 256)) 34 (va_cpy (M 5) (M 34) 0 0 8)) 35 (va_cpy (M 6) (M 35) 0 0 192)) (va_cpy (M 7) (M 36) 0 0 40) (tu_u (tu_u (tu_u (tu_u (M 30) 1 (M 1 1)) 4 (M 1 4)) 7 (M 1 7)) 9 (M 1 9)) rfl).trans (congrArg (fun m => tu_row m 36 (va_cpy (M 7) (M 36) 0 0 40)) ((tu_rc (tu_row (tu_row (tu_row (tu_row (tu_row M 30 (tu_u (tu_u (tu_u (M 30) 1 (M 1 1)) 4 (M 1 4)) 7 (M 1 7))) 31 (va_cpy (M 2) (M 31) 0 0 4)) 32 (va_cpy (M 3) (M 32) 0 0 16)) 33 (va_cpy (M 4) (M 33) 0 0 256)) 34 (va_cpy (M 5) (M 34) 0 0 8)) (va_cpy (M 6) (M 35) 0 0 192) (tu_u (tu_u (tu_u (tu_u (M 30) 1 (M 1 1)) 4 (M 1 4)) 7 (M 1 7)) 9 (M 1 9)) rfl).trans (congrArg (fun m => tu_row m 35 (va_cpy (M 6) (M 35) 0 0 192)) ((tu_rc (tu_row (tu_row (tu_row (tu_row M 30 (tu_u (tu_u (tu_u (M 30) 1 (M 1 1)) 4 (M 1 4)) 7 (M 1 7))) 31 (va_cpy (M 2) (M 31) 0 0 4)) 32 (va_cpy (M 3) (M 32) 0 0 16)) 33 (va_cpy (M 4) (M 33) 0 0 256)) (va_cpy (M 5) (M 34) 0 0 8) (tu_u (tu_u (tu_u (tu_u (M 30) 1 (M 1 1)) 4 (M 1 4)) 7 (M 1 7)) 9 (M 1 9)) rfl).trans (congrArg (fun m => tu_row m 34 (va_cpy (M 5) (M 34) 0 0 8)) ((tu_rc (tu_row (tu_row (tu_row M 30 (tu_u (tu_u (tu_u (M 30) 1 (M 1 1)) 4 (M 1 4)) 7 (M 1 7))) 31 (va_cpy (M 2) (M 31) 0 0 4)) 32 (va_cpy (M 3) (M 32) 0 0 16)) (va_cpy (M 4) (M 33) 0 0 256) (tu_u (tu_u (tu_u (tu_u (M 30) 1 (M 1 1)) 4 (M 1 4)) 7 (M 1 7)) 9 (M 1 9)) rfl).trans (congrArg (fun m => tu_row m 33 (va_cpy (M 4) (M 33) 0 0 256)) ((tu_rc (tu_row (tu_row M 30 (tu_u (tu_u (tu_u (M 30) 1 (M 1 1)) 4 (M 1 4)) 7 (M 1 7))) 31 (va_cpy (M 2) (M 31) 0 0 4)) (va_cpy (M 3) (M 32) 0 0 16) (tu_u (tu_u (tu_u (tu_u (M 30) 1 (M 1 1)) 4 (M 1 4)) 7 (M 1 7)) 9 (M 1 9)) rfl).trans (congrArg (fun m => tu_row m 32 (va_cpy (M 3) (M 32) 0 0 16)) ((tu_rc (tu_row M 30 (tu_u (tu_u (tu_u (M 30) 1 (M 1 1)) 4 (M 1 4)) 7 (M 1 7))) (va_cpy (M 2) (M 31) 0 0 4) (tu_u (tu_u (tu_u (tu_u (M 30) 1 (M 1 1)) 4 (M 1 4)) 7 (M 1 7)) 9 (M 1 9)) rfl).trans (congrArg (fun m => tu_row m 31 (va_cpy (M 2) (M 31) 0 0 4)) (tu_rr M 30 (tu_u (tu_u (tu_u (M 30) 1 (M 1 1)) 4 (M 1 4)) 7 (M 1 7)) (tu_u (tu_u (tu_u (tu_u (M 30) 1 (M 1 1)) 4 (M 1 4)) 7 (M 1 7)) 9 (M 1 9))))))))))))))) ?_
  refine tu_aload_n 123 X 1 dX0_takeOver_123 rfl ?_
  refine tu_getR 124 X dX0_takeOver_124 fl_RX0_43 (by decide) rfl rfl ?_
  refine tu_iconst 127 X dX0_takeOver_127 ?_
  refine tu_aload_n 128 X 0 dX0_takeOver_128 rfl ?_
  refine tu_getR 129 X dX0_takeOver_129 fl_RX0_43 (by decide) rfl rfl ?_
  refine tu_iconst 132 X dX0_takeOver_132 ?_
  refine tu_bipush 133 X dX0_takeOver_133 (by decide) ?_
  refine tu_copy 135 X (M' := tu_row (tu_row (tu_row (tu_row (tu_row (tu_row (tu_row (tu_row M 30 (tu_u (tu_u (tu_u (tu_u (M 30) 1 (M 1 1)) 4 (M 1 4)) 7 (M 1 7)) 9 (M 1 9))) 31 (va_cpy (M 2) (M 31) 0 0 4)) 32 (va_cpy (M 3) (M 32) 0 0 16)) 33 (va_cpy (M 4) (M 33) 0 0 256)) 34 (va_cpy (M 5) (M 34) 0 0 8)) 35 (va_cpy (M 6) (M 35) 0 0 192)) 36 (va_cpy (M 7) (M 36) 0 0 40)) 37 (va_cpy (M 8) (M 37) 0 0 8)) 0 0 8 ac_RX0 dX0_takeOver_135 (by decide) (by decide) rfl rfl (by decide) (by decide) rfl rfl rfl (by omega) (by omega) rfl (Nat.le_of_ble_eq_true rfl) (by decide) (Nat.le_trans nf_le (by decide)) ?_
  refine tu_ext (N := tu_tk M 30 1) ?_ (hret 138 _ _ dX0_takeOver_138 rfl)
  refine tu_tk_q (Or.inr ⟨1, by decide, rfl⟩) (fun i hi => by rw [tu_row_n _ _ (by omega), tu_row_n _ _ (by omega), tu_row_n _ _ (by omega), tu_row_n _ _ (by omega), tu_row_n _ _ (by omega), tu_row_n _ _ (by omega), tu_row_n _ _ (by omega), tu_row_n _ _ (by omega)]) (fun j hj => tu_cp hj) (fun j hj => tu_cp hj) (fun j hj => tu_cp hj) (fun j hj => tu_cp hj) (fun j hj => tu_cp hj) (fun j hj => tu_cp hj) (fun j hj => tu_cp hj) rfl rfl rfl rfl
set_option maxRecDepth 20000 in
set_option maxHeartbeats 4000000 in
theorem c_X0_takeOver_1_30 {M : tu_M}   : tu_MV tu_Y_X0_takeOver [tu_r 1, tu_r 30] M (fun M' => M' = tu_tk M 1 30) := by
  refine tu_MV.of (by decide) rfl (Nat.le_of_ble_eq_true rfl) (fun T (X : tu_X T cX0_takeOver RX0 1 40) hnl hret => ?_)
  have hret : tu_RV T cX0_takeOver (fun M' => M' = tu_tk M 1 30) := hret
  have hnl : T.2.2.2.2.2.2.2.2.2.2.1 = 2 := hnl
  show tu_W T 0 [(0, tu_r 1), (1, tu_r 30)] [] M
  refine tu_aload_n 0 X 1 dX0_takeOver_0 rfl ?_
  refine tu_getR 1 X dX0_takeOver_1 fl_RX0_9 (by decide) rfl rfl ?_
  refine tu_iconst 4 X dX0_takeOver_4 ?_
  refine tu_aload_n 5 X 0 dX0_takeOver_5 rfl ?_
  refine tu_getR 6 X dX0_takeOver_6 fl_RX0_9 (by decide) rfl rfl ?_
  refine tu_iconst 9 X dX0_takeOver_9 ?_
  refine tu_iconst 10 X dX0_takeOver_10 ?_
  refine tu_copy 11 X (M' := tu_row M 2 (va_cpy (M 31) (M 2) 0 0 4)) 0 0 4 ac_RX0 dX0_takeOver_11 (by decide) (by decide) rfl rfl (by decide) (by decide) rfl rfl rfl (by omega) (by omega) rfl (Nat.le_of_ble_eq_true rfl) (by decide) (Nat.le_trans nf_le (by decide)) ?_
  refine tu_aload_n 14 X 0 dX0_takeOver_14 rfl ?_
  refine tu_aload_n 15 X 1 dX0_takeOver_15 rfl ?_
  refine tu_getI 16 X (x := M 30 1) dX0_takeOver_16 fl_RX0_15 (by decide) rfl rfl rfl ?_
  refine tu_putI 19 X (M' := tu_row (tu_row M 1 (tu_u (M 1) 1 (M 30 1))) 2 (va_cpy (M 31) (M 2) 0 0 4)) dX0_takeOver_19 fp_RX0_15 (by decide) rfl rfl (tu_rc M (va_cpy (M 31) (M 2) 0 0 4) (tu_u (M 1) 1 (M 30 1)) rfl) ?_
  refine tu_aload_n 22 X 1 dX0_takeOver_22 rfl ?_
  refine tu_getR 23 X dX0_takeOver_23 fl_RX0_19 (by decide) rfl rfl ?_
  refine tu_iconst 26 X dX0_takeOver_26 ?_
  refine tu_aload_n 27 X 0 dX0_takeOver_27 rfl ?_
  refine tu_getR 28 X dX0_takeOver_28 fl_RX0_19 (by decide) rfl rfl ?_
  refine tu_iconst 31 X dX0_takeOver_31 ?_
  refine tu_bipush 32 X dX0_takeOver_32 (by decide) ?_
  refine tu_copy 34 X (M' := tu_row (tu_row (tu_row M 1 (tu_u (M 1) 1 (M 30 1))) 2 (va_cpy (M 31) (M 2) 0 0 4)) 3 (va_cpy (M 32) (M 3) 0 0 16)) 0 0 16 ac_RX0 dX0_takeOver_34 (by decide) (by decide) rfl rfl (by decide) (by decide) rfl rfl rfl (by omega) (by omega) rfl (Nat.le_of_ble_eq_true rfl) (by decide) (Nat.le_trans nf_le (by decide)) ?_
  refine tu_aload_n 37 X 1 dX0_takeOver_37 rfl ?_
  refine tu_getR 38 X dX0_takeOver_38 fl_RX0_22 (by decide) rfl rfl ?_
  refine tu_iconst 41 X dX0_takeOver_41 ?_
  refine tu_aload_n 42 X 0 dX0_takeOver_42 rfl ?_
  refine tu_getR 43 X dX0_takeOver_43 fl_RX0_22 (by decide) rfl rfl ?_
  refine tu_iconst 46 X dX0_takeOver_46 ?_
  refine tu_sipush 47 X dX0_takeOver_47 (by decide) ?_
  refine tu_copy 50 X (M' := tu_row (tu_row (tu_row (tu_row M 1 (tu_u (M 1) 1 (M 30 1))) 2 (va_cpy (M 31) (M 2) 0 0 4)) 3 (va_cpy (M 32) (M 3) 0 0 16)) 4 (va_cpy (M 33) (M 4) 0 0 256)) 0 0 256 ac_RX0 dX0_takeOver_50 (by decide) (by decide) rfl rfl (by decide) (by decide) rfl rfl rfl (by omega) (by omega) rfl (Nat.le_of_ble_eq_true rfl) (by decide) (Nat.le_trans nf_le (by decide)) ?_
  refine tu_aload_n 53 X 0 dX0_takeOver_53 rfl ?_
  refine tu_aload_n 54 X 1 dX0_takeOver_54 rfl ?_
  refine tu_getI 55 X (x := M 30 4) dX0_takeOver_55 fl_RX0_25 (by decide) rfl rfl rfl ?_
  refine tu_putI 58 X (M' := tu_row (tu_row (tu_row (tu_row M 1 (tu_u (tu_u (M 1) 1 (M 30 1)) 4 (M 30 4))) 2 (va_cpy (M 31) (M 2) 0 0 4)) 3 (va_cpy (M 32) (M 3) 0 0 16)) 4 (va_cpy (M 33) (M 4) 0 0 256)) dX0_takeOver_58 fp_RX0_25 (by decide) rfl rfl ((tu_rc (tu_row (tu_row (tu_row M 1 (tu_u (M 1) 1 (M 30 1))) 2 (va_cpy (M 31) (M 2) 0 0 4)) 3 (va_cpy (M 32) (M 3) 0 0 16)) (va_cpy (M 33) (M 4) 0 0 256) (tu_u (tu_u (M 1) 1 (M 30 1)) 4 (M 30 4)) rfl).trans (congrArg (fun m => tu_row m 4 (va_cpy (M 33) (M 4) 0 0 256)) ((tu_rc (tu_row (tu_row M 1 (tu_u (M 1) 1 (M 30 1))) 2 (va_cpy (M 31) (M 2) 0 0 4)) (va_cpy (M 32) (M 3) 0 0 16) (tu_u (tu_u (M 1) 1 (M 30 1)) 4 (M 30 4)) rfl).trans (congrArg (fun m => tu_row m 3 (va_cpy (M 32) (M 3) 0 0 16)) ((tu_rc (tu_row M 1 (tu_u (M 1) 1 (M 30 1))) (va_cpy (M 31) (M 2) 0 0 4) (tu_u (tu_u (M 1) 1 (M 30 1)) 4 (M 30 4)) rfl).trans (congrArg (fun m => tu_row m 2 (va_cpy (M 31) (M 2) 0 0 4)) (tu_rr M 1 (tu_u (M 1) 1 (M 30 1)) (tu_u (tu_u (M 1) 1 (M 30 1)) 4 (M 30 4))))))))) ?_
  refine tu_aload_n 61 X 1 dX0_takeOver_61 rfl ?_
  refine tu_getR 62 X dX0_takeOver_62 fl_RX0_28 (by decide) rfl rfl ?_
  refine tu_iconst 65 X dX0_takeOver_65 ?_
  refine tu_aload_n 66 X 0 dX0_takeOver_66 rfl ?_
  refine tu_getR 67 X dX0_takeOver_67 fl_RX0_28 (by decide) rfl rfl ?_
  refine tu_iconst 70 X dX0_takeOver_70 ?_
  refine tu_bipush 71 X dX0_takeOver_71 (by decide) ?_
  refine tu_copy 73 X (M' := tu_row (tu_row (tu_row (tu_row (tu_row M 1 (tu_u (tu_u (M 1) 1 (M 30 1)) 4 (M 30 4))) 2 (va_cpy (M 31) (M 2) 0 0 4)) 3 (va_cpy (M 32) (M 3) 0 0 16)) 4 (va_cpy (M 33) (M 4) 0 0 256)) 5 (va_cpy (M 34) (M 5) 0 0 8)) 0 0 8 ac_RX0 dX0_takeOver_73 (by decide) (by decide) rfl rfl (by decide) (by decide) rfl rfl rfl (by omega) (by omega) rfl (Nat.le_of_ble_eq_true rfl) (by decide) (Nat.le_trans nf_le (by decide)) ?_
  refine tu_aload_n 76 X 1 dX0_takeOver_76 rfl ?_
  refine tu_getR 77 X dX0_takeOver_77 fl_RX0_31 (by decide) rfl rfl ?_
  refine tu_iconst 80 X dX0_takeOver_80 ?_
  refine tu_aload_n 81 X 0 dX0_takeOver_81 rfl ?_
  refine tu_getR 82 X dX0_takeOver_82 fl_RX0_31 (by decide) rfl rfl ?_
  refine tu_iconst 85 X dX0_takeOver_85 ?_
  refine tu_sipush 86 X dX0_takeOver_86 (by decide) ?_
  refine tu_copy 89 X (M' := tu_row (tu_row (tu_row (tu_row (tu_row (tu_row M 1 (tu_u (tu_u (M 1) 1 (M 30 1)) 4 (M 30 4))) 2 (va_cpy (M 31) (M 2) 0 0 4)) 3 (va_cpy (M 32) (M 3) 0 0 16)) 4 (va_cpy (M 33) (M 4) 0 0 256)) 5 (va_cpy (M 34) (M 5) 0 0 8)) 6 (va_cpy (M 35) (M 6) 0 0 192)) 0 0 192 ac_RX0 dX0_takeOver_89 (by decide) (by decide) rfl rfl (by decide) (by decide) rfl rfl rfl (by omega) (by omega) rfl (Nat.le_of_ble_eq_true rfl) (by decide) (Nat.le_trans nf_le (by decide)) ?_
  refine tu_aload_n 92 X 0 dX0_takeOver_92 rfl ?_
  refine tu_aload_n 93 X 1 dX0_takeOver_93 rfl ?_
  refine tu_getI 94 X (x := M 30 7) dX0_takeOver_94 fl_RX0_34 (by decide) rfl rfl rfl ?_
  refine tu_putI 97 X (M' := tu_row (tu_row (tu_row (tu_row (tu_row (tu_row M 1 (tu_u (tu_u (tu_u (M 1) 1 (M 30 1)) 4 (M 30 4)) 7 (M 30 7))) 2 (va_cpy (M 31) (M 2) 0 0 4)) 3 (va_cpy (M 32) (M 3) 0 0 16)) 4 (va_cpy (M 33) (M 4) 0 0 256)) 5 (va_cpy (M 34) (M 5) 0 0 8)) 6 (va_cpy (M 35) (M 6) 0 0 192)) dX0_takeOver_97 fp_RX0_34 (by decide) rfl rfl ((tu_rc (tu_row (tu_row (tu_row (tu_row (tu_row M 1 (tu_u (tu_u (M 1) 1 (M 30 1)) 4 (M 30 4))) 2 (va_cpy (M 31) (M 2) 0 0 4)) 3 (va_cpy (M 32) (M 3) 0 0 16)) 4 (va_cpy (M 33) (M 4) 0 0 256)) 5 (va_cpy (M 34) (M 5) 0 0 8)) (va_cpy (M 35) (M 6) 0 0 192) (tu_u (tu_u (tu_u (M 1) 1 (M 30 1)) 4 (M 30 4)) 7 (M 30 7)) rfl).trans (congrArg (fun m => tu_row m 6 (va_cpy (M 35) (M 6) 0 0 192)) ((tu_rc (tu_row (tu_row (tu_row (tu_row M 1 (tu_u (tu_u (M 1) 1 (M 30 1)) 4 (M 30 4))) 2 (va_cpy (M 31) (M 2) 0 0 4)) 3 (va_cpy (M 32) (M 3) 0 0 16)) 4 (va_cpy (M 33) (M 4) 0 0 256)) (va_cpy (M 34) (M 5) 0 0 8) (tu_u (tu_u (tu_u (M 1) 1 (M 30 1)) 4 (M 30 4)) 7 (M 30 7)) rfl).trans (congrArg (fun m => tu_row m 5 (va_cpy (M 34) (M 5) 0 0 8)) ((tu_rc (tu_row (tu_row (tu_row M 1 (tu_u (tu_u (M 1) 1 (M 30 1)) 4 (M 30 4))) 2 (va_cpy (M 31) (M 2) 0 0 4)) 3 (va_cpy (M 32) (M 3) 0 0 16)) (va_cpy (M 33) (M 4) 0 0 256) (tu_u (tu_u (tu_u (M 1) 1 (M 30 1)) 4 (M 30 4)) 7 (M 30 7)) rfl).trans (congrArg (fun m => tu_row m 4 (va_cpy (M 33) (M 4) 0 0 256)) ((tu_rc (tu_row (tu_row M 1 (tu_u (tu_u (M 1) 1 (M 30 1)) 4 (M 30 4))) 2 (va_cpy (M 31) (M 2) 0 0 4)) (va_cpy (M 32) (M 3) 0 0 16) (tu_u (tu_u (tu_u (M 1) 1 (M 30 1)) 4 (M 30 4)) 7 (M 30 7)) rfl).trans (congrArg (fun m => tu_row m 3 (va_cpy (M 32) (M 3) 0 0 16)) ((tu_rc (tu_row M 1 (tu_u (tu_u (M 1) 1 (M 30 1)) 4 (M 30 4))) (va_cpy (M 31) (M 2) 0 0 4) (tu_u (tu_u (tu_u (M 1) 1 (M 30 1)) 4 (M 30 4)) 7 (M 30 7)) rfl).trans (congrArg (fun m => tu_row m 2 (va_cpy (M 31) (M 2) 0 0 4)) (tu_rr M 1 (tu_u (tu_u (M 1) 1 (M 30 1)) 4 (M 30 4)) (tu_u (tu_u (tu_u (M 1) 1 (M 30 1)) 4 (M 30 4)) 7 (M 30 7))))))))))))) ?_
  refine tu_aload_n 100 X 1 dX0_takeOver_100 rfl ?_
  refine tu_getR 101 X dX0_takeOver_101 fl_RX0_37 (by decide) rfl rfl ?_
  refine tu_iconst 104 X dX0_takeOver_104 ?_
  refine tu_aload_n 105 X 0 dX0_takeOver_105 rfl ?_
  refine tu_getR 106 X dX0_takeOver_106 fl_RX0_37 (by decide) rfl rfl ?_
  refine tu_iconst 109 X dX0_takeOver_109 ?_
  refine tu_bipush 110 X dX0_takeOver_110 (by decide) ?_
  refine tu_copy 112 X (M' := tu_row (tu_row (tu_row (tu_row (tu_row (tu_row (tu_row M 1 (tu_u (tu_u (tu_u (M 1) 1 (M 30 1)) 4 (M 30 4)) 7 (M 30 7))) 2 (va_cpy (M 31) (M 2) 0 0 4)) 3 (va_cpy (M 32) (M 3) 0 0 16)) 4 (va_cpy (M 33) (M 4) 0 0 256)) 5 (va_cpy (M 34) (M 5) 0 0 8)) 6 (va_cpy (M 35) (M 6) 0 0 192)) 7 (va_cpy (M 36) (M 7) 0 0 40)) 0 0 40 ac_RX0 dX0_takeOver_112 (by decide) (by decide) rfl rfl (by decide) (by decide) rfl rfl rfl (by omega) (by omega) rfl (Nat.le_of_ble_eq_true rfl) (by decide) (Nat.le_trans nf_le (by decide)) ?_
  refine tu_aload_n 115 X 0 dX0_takeOver_115 rfl ?_
  refine tu_aload_n 116 X 1 dX0_takeOver_116 rfl ?_
  refine tu_getI 117 X (x := M 30 9) dX0_takeOver_117 fl_RX0_40 (by decide) rfl rfl rfl ?_
  refine tu_putI 120 X (M' := tu_row (tu_row (tu_row (tu_row (tu_row (tu_row (tu_row M 1 (tu_u (tu_u (tu_u (tu_u (M 1) 1 (M 30 1)) 4 (M 30 4)) 7 (M 30 7)) 9 (M 30 9))) 2 (va_cpy (M 31) (M 2) 0 0 4)) 3 (va_cpy (M 32) (M 3) 0 0 16)) 4 (va_cpy (M 33) (M 4) 0 0 256)) 5 (va_cpy (M 34) (M 5) 0 0 8)) 6 (va_cpy (M 35) (M 6) 0 0 192)) 7 (va_cpy (M 36) (M 7) 0 0 40)) dX0_takeOver_120 fp_RX0_40 (by decide) rfl rfl ((tu_rc (tu_row (tu_row (tu_row (tu_row (tu_row (tu_row M 1 (tu_u (tu_u (tu_u (M 1) 1 (M 30 1)) 4 (M 30 4)) 7 (M 30 7))) 2 (va_cpy (M 31) (M 2) 0 0 4)) 3 (va_cpy (M 32) (M 3) 0 0 16)) 4 (va_cpy (M 33) (M 4) 0 0 256)) 5 (va_cpy (M 34) (M 5) 0 0 8)) 6 (va_cpy (M 35) (M 6) 0 0 192)) (va_cpy (M 36) (M 7) 0 0 40) (tu_u (tu_u (tu_u (tu_u (M 1) 1 (M 30 1)) 4 (M 30 4)) 7 (M 30 7)) 9 (M 30 9)) rfl).trans (congrArg (fun m => tu_row m 7 (va_cpy (M 36) (M 7) 0 0 40)) ((tu_rc (tu_row (tu_row (tu_row (tu_row (tu_row M 1 (tu_u (tu_u (tu_u (M 1) 1 (M 30 1)) 4 (M 30 4)) 7 (M 30 7))) 2 (va_cpy (M 31) (M 2) 0 0 4)) 3 (va_cpy (M 32) (M 3) 0 0 16)) 4 (va_cpy (M 33) (M 4) 0 0 256)) 5 (va_cpy (M 34) (M 5) 0 0 8)) (va_cpy (M 35) (M 6) 0 0 192) (tu_u (tu_u (tu_u (tu_u (M 1) 1 (M 30 1)) 4 (M 30 4)) 7 (M 30 7)) 9 (M 30 9)) rfl).trans (congrArg (fun m => tu_row m 6 (va_cpy (M 35) (M 6) 0 0 192)) ((tu_rc (tu_row (tu_row (tu_row (tu_row M 1 (tu_u (tu_u (tu_u (M 1) 1 (M 30 1)) 4 (M 30 4)) 7 (M 30 7))) 2 (va_cpy (M 31) (M 2) 0 0 4)) 3 (va_cpy (M 32) (M 3) 0 0 16)) 4 (va_cpy (M 33) (M 4) 0 0 256)) (va_cpy (M 34) (M 5) 0 0 8) (tu_u (tu_u (tu_u (tu_u (M 1) 1 (M 30 1)) 4 (M 30 4)) 7 (M 30 7)) 9 (M 30 9)) rfl).trans (congrArg (fun m => tu_row m 5 (va_cpy (M 34) (M 5) 0 0 8)) ((tu_rc (tu_row (tu_row (tu_row M 1 (tu_u (tu_u (tu_u (M 1) 1 (M 30 1)) 4 (M 30 4)) 7 (M 30 7))) 2 (va_cpy (M 31) (M 2) 0 0 4)) 3 (va_cpy (M 32) (M 3) 0 0 16)) (va_cpy (M 33) (M 4) 0 0 256) (tu_u (tu_u (tu_u (tu_u (M 1) 1 (M 30 1)) 4 (M 30 4)) 7 (M 30 7)) 9 (M 30 9)) rfl).trans (congrArg (fun m => tu_row m 4 (va_cpy (M 33) (M 4) 0 0 256)) ((tu_rc (tu_row (tu_row M 1 (tu_u (tu_u (tu_u (M 1) 1 (M 30 1)) 4 (M 30 4)) 7 (M 30 7))) 2 (va_cpy (M 31) (M 2) 0 0 4)) (va_cpy (M 32) (M 3) 0 0 16) (tu_u (tu_u (tu_u (tu_u (M 1) 1 (M 30 1)) 4 (M 30 4)) 7 (M 30 7)) 9 (M 30 9)) rfl).trans (congrArg (fun m => tu_row m 3 (va_cpy (M 32) (M 3) 0 0 16)) ((tu_rc (tu_row M 1 (tu_u (tu_u (tu_u (M 1) 1 (M 30 1)) 4 (M 30 4)) 7 (M 30 7))) (va_cpy (M 31) (M 2) 0 0 4) (tu_u (tu_u (tu_u (tu_u (M 1) 1 (M 30 1)) 4 (M 30 4)) 7 (M 30 7)) 9 (M 30 9)) rfl).trans (congrArg (fun m => tu_row m 2 (va_cpy (M 31) (M 2) 0 0 4)) (tu_rr M 1 (tu_u (tu_u (tu_u (M 1) 1 (M 30 1)) 4 (M 30 4)) 7 (M 30 7)) (tu_u (tu_u (tu_u (tu_u (M 1) 1 (M 30 1)) 4 (M 30 4)) 7 (M 30 7)) 9 (M 30 9))))))))))))))) ?_
  refine tu_aload_n 123 X 1 dX0_takeOver_123 rfl ?_
  refine tu_getR 124 X dX0_takeOver_124 fl_RX0_43 (by decide) rfl rfl ?_
  refine tu_iconst 127 X dX0_takeOver_127 ?_
  refine tu_aload_n 128 X 0 dX0_takeOver_128 rfl ?_
  refine tu_getR 129 X dX0_takeOver_129 fl_RX0_43 (by decide) rfl rfl ?_
  refine tu_iconst 132 X dX0_takeOver_132 ?_
  refine tu_bipush 133 X dX0_takeOver_133 (by decide) ?_
  refine tu_copy 135 X (M' := tu_row (tu_row (tu_row (tu_row (tu_row (tu_row (tu_row (tu_row M 1 (tu_u (tu_u (tu_u (tu_u (M 1) 1 (M 30 1)) 4 (M 30 4)) 7 (M 30 7)) 9 (M 30 9))) 2 (va_cpy (M 31) (M 2) 0 0 4)) 3 (va_cpy (M 32) (M 3) 0 0 16)) 4 (va_cpy (M 33) (M 4) 0 0 256)) 5 (va_cpy (M 34) (M 5) 0 0 8)) 6 (va_cpy (M 35) (M 6) 0 0 192)) 7 (va_cpy (M 36) (M 7) 0 0 40)) 8 (va_cpy (M 37) (M 8) 0 0 8)) 0 0 8 ac_RX0 dX0_takeOver_135 (by decide) (by decide) rfl rfl (by decide) (by decide) rfl rfl rfl (by omega) (by omega) rfl (Nat.le_of_ble_eq_true rfl) (by decide) (Nat.le_trans nf_le (by decide)) ?_
  refine tu_ext (N := tu_tk M 1 30) ?_ (hret 138 _ _ dX0_takeOver_138 rfl)
  refine tu_tk_q (Or.inl rfl) (fun i hi => by rw [tu_row_n _ _ (by omega), tu_row_n _ _ (by omega), tu_row_n _ _ (by omega), tu_row_n _ _ (by omega), tu_row_n _ _ (by omega), tu_row_n _ _ (by omega), tu_row_n _ _ (by omega), tu_row_n _ _ (by omega)]) (fun j hj => tu_cp hj) (fun j hj => tu_cp hj) (fun j hj => tu_cp hj) (fun j hj => tu_cp hj) (fun j hj => tu_cp hj) (fun j hj => tu_cp hj) (fun j hj => tu_cp hj) rfl rfl rfl rfl
set_option maxRecDepth 20000 in
set_option maxHeartbeats 4000000 in
theorem c_X0_takeOver_38_1 {M : tu_M}   : tu_MV tu_Y_X0_takeOver [tu_r 38, tu_r 1] M (fun M' => M' = tu_tk M 38 1) := by
  refine tu_MV.of (by decide) rfl (Nat.le_of_ble_eq_true rfl) (fun T (X : tu_X T cX0_takeOver RX0 1 40) hnl hret => ?_)
  have hret : tu_RV T cX0_takeOver (fun M' => M' = tu_tk M 38 1) := hret
  have hnl : T.2.2.2.2.2.2.2.2.2.2.1 = 2 := hnl
  show tu_W T 0 [(0, tu_r 38), (1, tu_r 1)] [] M
  refine tu_aload_n 0 X 1 dX0_takeOver_0 rfl ?_
  refine tu_getR 1 X dX0_takeOver_1 fl_RX0_9 (by decide) rfl rfl ?_
  refine tu_iconst 4 X dX0_takeOver_4 ?_
  refine tu_aload_n 5 X 0 dX0_takeOver_5 rfl ?_
  refine tu_getR 6 X dX0_takeOver_6 fl_RX0_9 (by decide) rfl rfl ?_
  refine tu_iconst 9 X dX0_takeOver_9 ?_
  refine tu_iconst 10 X dX0_takeOver_10 ?_
  refine tu_copy 11 X (M' := tu_row M 39 (va_cpy (M 2) (M 39) 0 0 4)) 0 0 4 ac_RX0 dX0_takeOver_11 (by decide) (by decide) rfl rfl (by decide) (by decide) rfl rfl rfl (by omega) (by omega) rfl (Nat.le_of_ble_eq_true rfl) (by decide) (Nat.le_trans nf_le (by decide)) ?_
  refine tu_aload_n 14 X 0 dX0_takeOver_14 rfl ?_
  refine tu_aload_n 15 X 1 dX0_takeOver_15 rfl ?_
  refine tu_getI 16 X (x := M 1 1) dX0_takeOver_16 fl_RX0_15 (by decide) rfl rfl rfl ?_
  refine tu_putI 19 X (M' := tu_row (tu_row M 38 (tu_u (M 38) 1 (M 1 1))) 39 (va_cpy (M 2) (M 39) 0 0 4)) dX0_takeOver_19 fp_RX0_15 (by decide) rfl rfl (tu_rc M (va_cpy (M 2) (M 39) 0 0 4) (tu_u (M 38) 1 (M 1 1)) rfl) ?_
  refine tu_aload_n 22 X 1 dX0_takeOver_22 rfl ?_
  refine tu_getR 23 X dX0_takeOver_23 fl_RX0_19 (by decide) rfl rfl ?_
  refine tu_iconst 26 X dX0_takeOver_26 ?_
  refine tu_aload_n 27 X 0 dX0_takeOver_27 rfl ?_
  refine tu_getR 28 X dX0_takeOver_28 fl_RX0_19 (by decide) rfl rfl ?_
  refine tu_iconst 31 X dX0_takeOver_31 ?_
  refine tu_bipush 32 X dX0_takeOver_32 (by decide) ?_
  refine tu_copy 34 X (M' := tu_row (tu_row (tu_row M 38 (tu_u (M 38) 1 (M 1 1))) 39 (va_cpy (M 2) (M 39) 0 0 4)) 40 (va_cpy (M 3) (M 40) 0 0 16)) 0 0 16 ac_RX0 dX0_takeOver_34 (by decide) (by decide) rfl rfl (by decide) (by decide) rfl rfl rfl (by omega) (by omega) rfl (Nat.le_of_ble_eq_true rfl) (by decide) (Nat.le_trans nf_le (by decide)) ?_
  refine tu_aload_n 37 X 1 dX0_takeOver_37 rfl ?_
  refine tu_getR 38 X dX0_takeOver_38 fl_RX0_22 (by decide) rfl rfl ?_
  refine tu_iconst 41 X dX0_takeOver_41 ?_
  refine tu_aload_n 42 X 0 dX0_takeOver_42 rfl ?_
  refine tu_getR 43 X dX0_takeOver_43 fl_RX0_22 (by decide) rfl rfl ?_
  refine tu_iconst 46 X dX0_takeOver_46 ?_
  refine tu_sipush 47 X dX0_takeOver_47 (by decide) ?_
  refine tu_copy 50 X (M' := tu_row (tu_row (tu_row (tu_row M 38 (tu_u (M 38) 1 (M 1 1))) 39 (va_cpy (M 2) (M 39) 0 0 4)) 40 (va_cpy (M 3) (M 40) 0 0 16)) 41 (va_cpy (M 4) (M 41) 0 0 256)) 0 0 256 ac_RX0 dX0_takeOver_50 (by decide) (by decide) rfl rfl (by decide) (by decide) rfl rfl rfl (by omega) (by omega) rfl (Nat.le_of_ble_eq_true rfl) (by decide) (Nat.le_trans nf_le (by decide)) ?_
  refine tu_aload_n 53 X 0 dX0_takeOver_53 rfl ?_
  refine tu_aload_n 54 X 1 dX0_takeOver_54 rfl ?_
  refine tu_getI 55 X (x := M 1 4) dX0_takeOver_55 fl_RX0_25 (by decide) rfl rfl rfl ?_
  refine tu_putI 58 X (M' := tu_row (tu_row (tu_row (tu_row M 38 (tu_u (tu_u (M 38) 1 (M 1 1)) 4 (M 1 4))) 39 (va_cpy (M 2) (M 39) 0 0 4)) 40 (va_cpy (M 3) (M 40) 0 0 16)) 41 (va_cpy (M 4) (M 41) 0 0 256)) dX0_takeOver_58 fp_RX0_25 (by decide) rfl rfl ((tu_rc (tu_row (tu_row (tu_row M 38 (tu_u (M 38) 1 (M 1 1))) 39 (va_cpy (M 2) (M 39) 0 0 4)) 40 (va_cpy (M 3) (M 40) 0 0 16)) (va_cpy (M 4) (M 41) 0 0 256) (tu_u (tu_u (M 38) 1 (M 1 1)) 4 (M 1 4)) rfl).trans (congrArg (fun m => tu_row m 41 (va_cpy (M 4) (M 41) 0 0 256)) ((tu_rc (tu_row (tu_row M 38 (tu_u (M 38) 1 (M 1 1))) 39 (va_cpy (M 2) (M 39) 0 0 4)) (va_cpy (M 3) (M 40) 0 0 16) (tu_u (tu_u (M 38) 1 (M 1 1)) 4 (M 1 4)) rfl).trans (congrArg (fun m => tu_row m 40 (va_cpy (M 3) (M 40) 0 0 16)) ((tu_rc (tu_row M 38 (tu_u (M 38) 1 (M 1 1))) (va_cpy (M 2) (M 39) 0 0 4) (tu_u (tu_u (M 38) 1 (M 1 1)) 4 (M 1 4)) rfl).trans (congrArg (fun m => tu_row m 39 (va_cpy (M 2) (M 39) 0 0 4)) (tu_rr M 38 (tu_u (M 38) 1 (M 1 1)) (tu_u (tu_u (M 38) 1 (M 1 1)) 4 (M 1 4))))))))) ?_
  refine tu_aload_n 61 X 1 dX0_takeOver_61 rfl ?_
  refine tu_getR 62 X dX0_takeOver_62 fl_RX0_28 (by decide) rfl rfl ?_
  refine tu_iconst 65 X dX0_takeOver_65 ?_
  refine tu_aload_n 66 X 0 dX0_takeOver_66 rfl ?_
  refine tu_getR 67 X dX0_takeOver_67 fl_RX0_28 (by decide) rfl rfl ?_
  refine tu_iconst 70 X dX0_takeOver_70 ?_
  refine tu_bipush 71 X dX0_takeOver_71 (by decide) ?_
  refine tu_copy 73 X (M' := tu_row (tu_row (tu_row (tu_row (tu_row M 38 (tu_u (tu_u (M 38) 1 (M 1 1)) 4 (M 1 4))) 39 (va_cpy (M 2) (M 39) 0 0 4)) 40 (va_cpy (M 3) (M 40) 0 0 16)) 41 (va_cpy (M 4) (M 41) 0 0 256)) 42 (va_cpy (M 5) (M 42) 0 0 8)) 0 0 8 ac_RX0 dX0_takeOver_73 (by decide) (by decide) rfl rfl (by decide) (by decide) rfl rfl rfl (by omega) (by omega) rfl (Nat.le_of_ble_eq_true rfl) (by decide) (Nat.le_trans nf_le (by decide)) ?_
  refine tu_aload_n 76 X 1 dX0_takeOver_76 rfl ?_
  refine tu_getR 77 X dX0_takeOver_77 fl_RX0_31 (by decide) rfl rfl ?_
  refine tu_iconst 80 X dX0_takeOver_80 ?_
  refine tu_aload_n 81 X 0 dX0_takeOver_81 rfl ?_
  refine tu_getR 82 X dX0_takeOver_82 fl_RX0_31 (by decide) rfl rfl ?_
  refine tu_iconst 85 X dX0_takeOver_85 ?_
  refine tu_sipush 86 X dX0_takeOver_86 (by decide) ?_
  refine tu_copy 89 X (M' := tu_row (tu_row (tu_row (tu_row (tu_row (tu_row M 38 (tu_u (tu_u (M 38) 1 (M 1 1)) 4 (M 1 4))) 39 (va_cpy (M 2) (M 39) 0 0 4)) 40 (va_cpy (M 3) (M 40) 0 0 16)) 41 (va_cpy (M 4) (M 41) 0 0 256)) 42 (va_cpy (M 5) (M 42) 0 0 8)) 43 (va_cpy (M 6) (M 43) 0 0 192)) 0 0 192 ac_RX0 dX0_takeOver_89 (by decide) (by decide) rfl rfl (by decide) (by decide) rfl rfl rfl (by omega) (by omega) rfl (Nat.le_of_ble_eq_true rfl) (by decide) (Nat.le_trans nf_le (by decide)) ?_
  refine tu_aload_n 92 X 0 dX0_takeOver_92 rfl ?_
  refine tu_aload_n 93 X 1 dX0_takeOver_93 rfl ?_
  refine tu_getI 94 X (x := M 1 7) dX0_takeOver_94 fl_RX0_34 (by decide) rfl rfl rfl ?_
  refine tu_putI 97 X (M' := tu_row (tu_row (tu_row (tu_row (tu_row (tu_row M 38 (tu_u (tu_u (tu_u (M 38) 1 (M 1 1)) 4 (M 1 4)) 7 (M 1 7))) 39 (va_cpy (M 2) (M 39) 0 0 4)) 40 (va_cpy (M 3) (M 40) 0 0 16)) 41 (va_cpy (M 4) (M 41) 0 0 256)) 42 (va_cpy (M 5) (M 42) 0 0 8)) 43 (va_cpy (M 6) (M 43) 0 0 192)) dX0_takeOver_97 fp_RX0_34 (by decide) rfl rfl ((tu_rc (tu_row (tu_row (tu_row (tu_row (tu_row M 38 (tu_u (tu_u (M 38) 1 (M 1 1)) 4 (M 1 4))) 39 (va_cpy (M 2) (M 39) 0 0 4)) 40 (va_cpy (M 3) (M 40) 0 0 16)) 41 (va_cpy (M 4) (M 41) 0 0 256)) 42 (va_cpy (M 5) (M 42) 0 0 8)) (va_cpy (M 6) (M 43) 0 0 192) (tu_u (tu_u (tu_u (M 38) 1 (M 1 1)) 4 (M 1 4)) 7 (M 1 7)) rfl).trans (congrArg (fun m => tu_row m 43 (va_cpy (M 6) (M 43) 0 0 192)) ((tu_rc (tu_row (tu_row (tu_row (tu_row M 38 (tu_u (tu_u (M 38) 1 (M 1 1)) 4 (M 1 4))) 39 (va_cpy (M 2) (M 39) 0 0 4)) 40 (va_cpy (M 3) (M 40) 0 0 16)) 41 (va_cpy (M 4) (M 41) 0 0 256)) (va_cpy (M 5) (M 42) 0 0 8) (tu_u (tu_u (tu_u (M 38) 1 (M 1 1)) 4 (M 1 4)) 7 (M 1 7)) rfl).trans (congrArg (fun m => tu_row m 42 (va_cpy (M 5) (M 42) 0 0 8)) ((tu_rc (tu_row (tu_row (tu_row M 38 (tu_u (tu_u (M 38) 1 (M 1 1)) 4 (M 1 4))) 39 (va_cpy (M 2) (M 39) 0 0 4)) 40 (va_cpy (M 3) (M 40) 0 0 16)) (va_cpy (M 4) (M 41) 0 0 256) (tu_u (tu_u (tu_u (M 38) 1 (M 1 1)) 4 (M 1 4)) 7 (M 1 7)) rfl).trans (congrArg (fun m => tu_row m 41 (va_cpy (M 4) (M 41) 0 0 256)) ((tu_rc (tu_row (tu_row M 38 (tu_u (tu_u (M 38) 1 (M 1 1)) 4 (M 1 4))) 39 (va_cpy (M 2) (M 39) 0 0 4)) (va_cpy (M 3) (M 40) 0 0 16) (tu_u (tu_u (tu_u (M 38) 1 (M 1 1)) 4 (M 1 4)) 7 (M 1 7)) rfl).trans (congrArg (fun m => tu_row m 40 (va_cpy (M 3) (M 40) 0 0 16)) ((tu_rc (tu_row M 38 (tu_u (tu_u (M 38) 1 (M 1 1)) 4 (M 1 4))) (va_cpy (M 2) (M 39) 0 0 4) (tu_u (tu_u (tu_u (M 38) 1 (M 1 1)) 4 (M 1 4)) 7 (M 1 7)) rfl).trans (congrArg (fun m => tu_row m 39 (va_cpy (M 2) (M 39) 0 0 4)) (tu_rr M 38 (tu_u (tu_u (M 38) 1 (M 1 1)) 4 (M 1 4)) (tu_u (tu_u (tu_u (M 38) 1 (M 1 1)) 4 (M 1 4)) 7 (M 1 7))))))))))))) ?_
  refine tu_aload_n 100 X 1 dX0_takeOver_100 rfl ?_
  refine tu_getR 101 X dX0_takeOver_101 fl_RX0_37 (by decide) rfl rfl ?_
  refine tu_iconst 104 X dX0_takeOver_104 ?_
  refine tu_aload_n 105 X 0 dX0_takeOver_105 rfl ?_
  refine tu_getR 106 X dX0_takeOver_106 fl_RX0_37 (by decide) rfl rfl ?_
  refine tu_iconst 109 X dX0_takeOver_109 ?_
  refine tu_bipush 110 X dX0_takeOver_110 (by decide) ?_
  refine tu_copy 112 X (M' := tu_row (tu_row (tu_row (tu_row (tu_row (tu_row (tu_row M 38 (tu_u (tu_u (tu_u (M 38) 1 (M 1 1)) 4 (M 1 4)) 7 (M 1 7))) 39 (va_cpy (M 2) (M 39) 0 0 4)) 40 (va_cpy (M 3) (M 40) 0 0 16)) 41 (va_cpy (M 4) (M 41) 0 0 256)) 42 (va_cpy (M 5) (M 42) 0 0 8)) 43 (va_cpy (M 6) (M 43) 0 0 192)) 44 (va_cpy (M 7) (M 44) 0 0 40)) 0 0 40 ac_RX0 dX0_takeOver_112 (by decide) (by decide) rfl rfl (by decide) (by decide) rfl rfl rfl (by omega) (by omega) rfl (Nat.le_of_ble_eq_true rfl) (by decide) (Nat.le_trans nf_le (by decide)) ?_
  refine tu_aload_n 115 X 0 dX0_takeOver_115 rfl ?_
  refine tu_aload_n 116 X 1 dX0_takeOver_116 rfl ?_
  refine tu_getI 117 X (x := M 1 9) dX0_takeOver_117 fl_RX0_40 (by decide) rfl rfl rfl ?_
  refine tu_putI 120 X (M' := tu_row (tu_row (tu_row (tu_row (tu_row (tu_row (tu_row M 38 (tu_u (tu_u (tu_u (tu_u (M 38) 1 (M 1 1)) 4 (M 1 4)) 7 (M 1 7)) 9 (M 1 9))) 39 (va_cpy (M 2) (M 39) 0 0 4)) 40 (va_cpy (M 3) (M 40) 0 0 16)) 41 (va_cpy (M 4) (M 41) 0 0 256)) 42 (va_cpy (M 5) (M 42) 0 0 8)) 43 (va_cpy (M 6) (M 43) 0 0 192)) 44 (va_cpy (M 7) (M 44) 0 0 40)) dX0_takeOver_120 fp_RX0_40 (by decide) rfl rfl ((tu_rc (tu_row (tu_row (tu_row (tu_row (tu_row (tu_row M 38 (tu_u (tu_u (tu_u (M 38) 1 (M 1 1)) 4 (M 1 4)) 7 (M 1 7))) 39 (va_cpy (M 2) (M 39) 0 0 4)) 40 (va_cpy (M 3) (M 40) 0 0 16)) 41 (va_cpy (M 4) (M 41) 0 0 256)) 42 (va_cpy (M 5) (M 42) 0 0 8)) 43 (va_cpy (M 6) (M 43) 0 0 192)) (va_cpy (M 7) (M 44) 0 0 40) (tu_u (tu_u (tu_u (tu_u (M 38) 1 (M 1 1)) 4 (M 1 4)) 7 (M 1 7)) 9 (M 1 9)) rfl).trans (congrArg (fun m => tu_row m 44 (va_cpy (M 7) (M 44) 0 0 40)) ((tu_rc (tu_row (tu_row (tu_row (tu_row (tu_row M 38 (tu_u (tu_u (tu_u (M 38) 1 (M 1 1)) 4 (M 1 4)) 7 (M 1 7))) 39 (va_cpy (M 2) (M 39) 0 0 4)) 40 (va_cpy (M 3) (M 40) 0 0 16)) 41 (va_cpy (M 4) (M 41) 0 0 256)) 42 (va_cpy (M 5) (M 42) 0 0 8)) (va_cpy (M 6) (M 43) 0 0 192) (tu_u (tu_u (tu_u (tu_u (M 38) 1 (M 1 1)) 4 (M 1 4)) 7 (M 1 7)) 9 (M 1 9)) rfl).trans (congrArg (fun m => tu_row m 43 (va_cpy (M 6) (M 43) 0 0 192)) ((tu_rc (tu_row (tu_row (tu_row (tu_row M 38 (tu_u (tu_u (tu_u (M 38) 1 (M 1 1)) 4 (M 1 4)) 7 (M 1 7))) 39 (va_cpy (M 2) (M 39) 0 0 4)) 40 (va_cpy (M 3) (M 40) 0 0 16)) 41 (va_cpy (M 4) (M 41) 0 0 256)) (va_cpy (M 5) (M 42) 0 0 8) (tu_u (tu_u (tu_u (tu_u (M 38) 1 (M 1 1)) 4 (M 1 4)) 7 (M 1 7)) 9 (M 1 9)) rfl).trans (congrArg (fun m => tu_row m 42 (va_cpy (M 5) (M 42) 0 0 8)) ((tu_rc (tu_row (tu_row (tu_row M 38 (tu_u (tu_u (tu_u (M 38) 1 (M 1 1)) 4 (M 1 4)) 7 (M 1 7))) 39 (va_cpy (M 2) (M 39) 0 0 4)) 40 (va_cpy (M 3) (M 40) 0 0 16)) (va_cpy (M 4) (M 41) 0 0 256) (tu_u (tu_u (tu_u (tu_u (M 38) 1 (M 1 1)) 4 (M 1 4)) 7 (M 1 7)) 9 (M 1 9)) rfl).trans (congrArg (fun m => tu_row m 41 (va_cpy (M 4) (M 41) 0 0 256)) ((tu_rc (tu_row (tu_row M 38 (tu_u (tu_u (tu_u (M 38) 1 (M 1 1)) 4 (M 1 4)) 7 (M 1 7))) 39 (va_cpy (M 2) (M 39) 0 0 4)) (va_cpy (M 3) (M 40) 0 0 16) (tu_u (tu_u (tu_u (tu_u (M 38) 1 (M 1 1)) 4 (M 1 4)) 7 (M 1 7)) 9 (M 1 9)) rfl).trans (congrArg (fun m => tu_row m 40 (va_cpy (M 3) (M 40) 0 0 16)) ((tu_rc (tu_row M 38 (tu_u (tu_u (tu_u (M 38) 1 (M 1 1)) 4 (M 1 4)) 7 (M 1 7))) (va_cpy (M 2) (M 39) 0 0 4) (tu_u (tu_u (tu_u (tu_u (M 38) 1 (M 1 1)) 4 (M 1 4)) 7 (M 1 7)) 9 (M 1 9)) rfl).trans (congrArg (fun m => tu_row m 39 (va_cpy (M 2) (M 39) 0 0 4)) (tu_rr M 38 (tu_u (tu_u (tu_u (M 38) 1 (M 1 1)) 4 (M 1 4)) 7 (M 1 7)) (tu_u (tu_u (tu_u (tu_u (M 38) 1 (M 1 1)) 4 (M 1 4)) 7 (M 1 7)) 9 (M 1 9))))))))))))))) ?_
  refine tu_aload_n 123 X 1 dX0_takeOver_123 rfl ?_
  refine tu_getR 124 X dX0_takeOver_124 fl_RX0_43 (by decide) rfl rfl ?_
  refine tu_iconst 127 X dX0_takeOver_127 ?_
  refine tu_aload_n 128 X 0 dX0_takeOver_128 rfl ?_
  refine tu_getR 129 X dX0_takeOver_129 fl_RX0_43 (by decide) rfl rfl ?_
  refine tu_iconst 132 X dX0_takeOver_132 ?_
  refine tu_bipush 133 X dX0_takeOver_133 (by decide) ?_
  refine tu_copy 135 X (M' := tu_row (tu_row (tu_row (tu_row (tu_row (tu_row (tu_row (tu_row M 38 (tu_u (tu_u (tu_u (tu_u (M 38) 1 (M 1 1)) 4 (M 1 4)) 7 (M 1 7)) 9 (M 1 9))) 39 (va_cpy (M 2) (M 39) 0 0 4)) 40 (va_cpy (M 3) (M 40) 0 0 16)) 41 (va_cpy (M 4) (M 41) 0 0 256)) 42 (va_cpy (M 5) (M 42) 0 0 8)) 43 (va_cpy (M 6) (M 43) 0 0 192)) 44 (va_cpy (M 7) (M 44) 0 0 40)) 45 (va_cpy (M 8) (M 45) 0 0 8)) 0 0 8 ac_RX0 dX0_takeOver_135 (by decide) (by decide) rfl rfl (by decide) (by decide) rfl rfl rfl (by omega) (by omega) rfl (Nat.le_of_ble_eq_true rfl) (by decide) (Nat.le_trans nf_le (by decide)) ?_
  refine tu_ext (N := tu_tk M 38 1) ?_ (hret 138 _ _ dX0_takeOver_138 rfl)
  refine tu_tk_q (Or.inr ⟨2, by decide, rfl⟩) (fun i hi => by rw [tu_row_n _ _ (by omega), tu_row_n _ _ (by omega), tu_row_n _ _ (by omega), tu_row_n _ _ (by omega), tu_row_n _ _ (by omega), tu_row_n _ _ (by omega), tu_row_n _ _ (by omega), tu_row_n _ _ (by omega)]) (fun j hj => tu_cp hj) (fun j hj => tu_cp hj) (fun j hj => tu_cp hj) (fun j hj => tu_cp hj) (fun j hj => tu_cp hj) (fun j hj => tu_cp hj) (fun j hj => tu_cp hj) rfl rfl rfl rfl
set_option maxRecDepth 20000 in
set_option maxHeartbeats 4000000 in
theorem c_X0_takeOver_1_38 {M : tu_M}   : tu_MV tu_Y_X0_takeOver [tu_r 1, tu_r 38] M (fun M' => M' = tu_tk M 1 38) := by
  refine tu_MV.of (by decide) rfl (Nat.le_of_ble_eq_true rfl) (fun T (X : tu_X T cX0_takeOver RX0 1 40) hnl hret => ?_)
  have hret : tu_RV T cX0_takeOver (fun M' => M' = tu_tk M 1 38) := hret
  have hnl : T.2.2.2.2.2.2.2.2.2.2.1 = 2 := hnl
  show tu_W T 0 [(0, tu_r 1), (1, tu_r 38)] [] M
  refine tu_aload_n 0 X 1 dX0_takeOver_0 rfl ?_
  refine tu_getR 1 X dX0_takeOver_1 fl_RX0_9 (by decide) rfl rfl ?_
  refine tu_iconst 4 X dX0_takeOver_4 ?_
  refine tu_aload_n 5 X 0 dX0_takeOver_5 rfl ?_
  refine tu_getR 6 X dX0_takeOver_6 fl_RX0_9 (by decide) rfl rfl ?_
  refine tu_iconst 9 X dX0_takeOver_9 ?_
  refine tu_iconst 10 X dX0_takeOver_10 ?_
  refine tu_copy 11 X (M' := tu_row M 2 (va_cpy (M 39) (M 2) 0 0 4)) 0 0 4 ac_RX0 dX0_takeOver_11 (by decide) (by decide) rfl rfl (by decide) (by decide) rfl rfl rfl (by omega) (by omega) rfl (Nat.le_of_ble_eq_true rfl) (by decide) (Nat.le_trans nf_le (by decide)) ?_
  refine tu_aload_n 14 X 0 dX0_takeOver_14 rfl ?_
  refine tu_aload_n 15 X 1 dX0_takeOver_15 rfl ?_
  refine tu_getI 16 X (x := M 38 1) dX0_takeOver_16 fl_RX0_15 (by decide) rfl rfl rfl ?_
  refine tu_putI 19 X (M' := tu_row (tu_row M 1 (tu_u (M 1) 1 (M 38 1))) 2 (va_cpy (M 39) (M 2) 0 0 4)) dX0_takeOver_19 fp_RX0_15 (by decide) rfl rfl (tu_rc M (va_cpy (M 39) (M 2) 0 0 4) (tu_u (M 1) 1 (M 38 1)) rfl) ?_
  refine tu_aload_n 22 X 1 dX0_takeOver_22 rfl ?_
  refine tu_getR 23 X dX0_takeOver_23 fl_RX0_19 (by decide) rfl rfl ?_
  refine tu_iconst 26 X dX0_takeOver_26 ?_
  refine tu_aload_n 27 X 0 dX0_takeOver_27 rfl ?_
  refine tu_getR 28 X dX0_takeOver_28 fl_RX0_19 (by decide) rfl rfl ?_
  refine tu_iconst 31 X dX0_takeOver_31 ?_
  refine tu_bipush 32 X dX0_takeOver_32 (by decide) ?_
  refine tu_copy 34 X (M' := tu_row (tu_row (tu_row M 1 (tu_u (M 1) 1 (M 38 1))) 2 (va_cpy (M 39) (M 2) 0 0 4)) 3 (va_cpy (M 40) (M 3) 0 0 16)) 0 0 16 ac_RX0 dX0_takeOver_34 (by decide) (by decide) rfl rfl (by decide) (by decide) rfl rfl rfl (by omega) (by omega) rfl (Nat.le_of_ble_eq_true rfl) (by decide) (Nat.le_trans nf_le (by decide)) ?_
  refine tu_aload_n 37 X 1 dX0_takeOver_37 rfl ?_
  refine tu_getR 38 X dX0_takeOver_38 fl_RX0_22 (by decide) rfl rfl ?_
  refine tu_iconst 41 X dX0_takeOver_41 ?_
  refine tu_aload_n 42 X 0 dX0_takeOver_42 rfl ?_
  refine tu_getR 43 X dX0_takeOver_43 fl_RX0_22 (by decide) rfl rfl ?_
  refine tu_iconst 46 X dX0_takeOver_46 ?_
  refine tu_sipush 47 X dX0_takeOver_47 (by decide) ?_
  refine tu_copy 50 X (M' := tu_row (tu_row (tu_row (tu_row M 1 (tu_u (M 1) 1 (M 38 1))) 2 (va_cpy (M 39) (M 2) 0 0 4)) 3 (va_cpy (M 40) (M 3) 0 0 16)) 4 (va_cpy (M 41) (M 4) 0 0 256)) 0 0 256 ac_RX0 dX0_takeOver_50 (by decide) (by decide) rfl rfl (by decide) (by decide) rfl rfl rfl (by omega) (by omega) rfl (Nat.le_of_ble_eq_true rfl) (by decide) (Nat.le_trans nf_le (by decide)) ?_
  refine tu_aload_n 53 X 0 dX0_takeOver_53 rfl ?_
  refine tu_aload_n 54 X 1 dX0_takeOver_54 rfl ?_
  refine tu_getI 55 X (x := M 38 4) dX0_takeOver_55 fl_RX0_25 (by decide) rfl rfl rfl ?_
  refine tu_putI 58 X (M' := tu_row (tu_row (tu_row (tu_row M 1 (tu_u (tu_u (M 1) 1 (M 38 1)) 4 (M 38 4))) 2 (va_cpy (M 39) (M 2) 0 0 4)) 3 (va_cpy (M 40) (M 3) 0 0 16)) 4 (va_cpy (M 41) (M 4) 0 0 256)) dX0_takeOver_58 fp_RX0_25 (by decide) rfl rfl ((tu_rc (tu_row (tu_row (tu_row M 1 (tu_u (M 1) 1 (M 38 1))) 2 (va_cpy (M 39) (M 2) 0 0 4)) 3 (va_cpy (M 40) (M 3) 0 0 16)) (va_cpy (M 41) (M 4) 0 0 256) (tu_u (tu_u (M 1) 1 (M 38 1)) 4 (M 38 4)) rfl).trans (congrArg (fun m => tu_row m 4 (va_cpy (M 41) (M 4) 0 0 256)) ((tu_rc (tu_row (tu_row M 1 (tu_u (M 1) 1 (M 38 1))) 2 (va_cpy (M 39) (M 2) 0 0 4)) (va_cpy (M 40) (M 3) 0 0 16) (tu_u (tu_u (M 1) 1 (M 38 1)) 4 (M 38 4)) rfl).trans (congrArg (fun m => tu_row m 3 (va_cpy (M 40) (M 3) 0 0 16)) ((tu_rc (tu_row M 1 (tu_u (M 1) 1 (M 38 1))) (va_cpy (M 39) (M 2) 0 0 4) (tu_u (tu_u (M 1) 1 (M 38 1)) 4 (M 38 4)) rfl).trans (congrArg (fun m => tu_row m 2 (va_cpy (M 39) (M 2) 0 0 4)) (tu_rr M 1 (tu_u (M 1) 1 (M 38 1)) (tu_u (tu_u (M 1) 1 (M 38 1)) 4 (M 38 4))))))))) ?_
  refine tu_aload_n 61 X 1 dX0_takeOver_61 rfl ?_
  refine tu_getR 62 X dX0_takeOver_62 fl_RX0_28 (by decide) rfl rfl ?_
  refine tu_iconst 65 X dX0_takeOver_65 ?_
  refine tu_aload_n 66 X 0 dX0_takeOver_66 rfl ?_
  refine tu_getR 67 X dX0_takeOver_67 fl_RX0_28 (by decide) rfl rfl ?_
  refine tu_iconst 70 X dX0_takeOver_70 ?_
  refine tu_bipush 71 X dX0_takeOver_71 (by decide) ?_
  refine tu_copy 73 X (M' := tu_row (tu_row (tu_row (tu_row (tu_row M 1 (tu_u (tu_u (M 1) 1 (M 38 1)) 4 (M 38 4))) 2 (va_cpy (M 39) (M 2) 0 0 4)) 3 (va_cpy (M 40) (M 3) 0 0 16)) 4 (va_cpy (M 41) (M 4) 0 0 256)) 5 (va_cpy (M 42) (M 5) 0 0 8)) 0 0 8 ac_RX0 dX0_takeOver_73 (by decide) (by decide) rfl rfl (by decide) (by decide) rfl rfl rfl (by omega) (by omega) rfl (Nat.le_of_ble_eq_true rfl) (by decide) (Nat.le_trans nf_le (by decide)) ?_
  refine tu_aload_n 76 X 1 dX0_takeOver_76 rfl ?_
  refine tu_getR 77 X dX0_takeOver_77 fl_RX0_31 (by decide) rfl rfl ?_
  refine tu_iconst 80 X dX0_takeOver_80 ?_
  refine tu_aload_n 81 X 0 dX0_takeOver_81 rfl ?_
  refine tu_getR 82 X dX0_takeOver_82 fl_RX0_31 (by decide) rfl rfl ?_
  refine tu_iconst 85 X dX0_takeOver_85 ?_
  refine tu_sipush 86 X dX0_takeOver_86 (by decide) ?_
  refine tu_copy 89 X (M' := tu_row (tu_row (tu_row (tu_row (tu_row (tu_row M 1 (tu_u (tu_u (M 1) 1 (M 38 1)) 4 (M 38 4))) 2 (va_cpy (M 39) (M 2) 0 0 4)) 3 (va_cpy (M 40) (M 3) 0 0 16)) 4 (va_cpy (M 41) (M 4) 0 0 256)) 5 (va_cpy (M 42) (M 5) 0 0 8)) 6 (va_cpy (M 43) (M 6) 0 0 192)) 0 0 192 ac_RX0 dX0_takeOver_89 (by decide) (by decide) rfl rfl (by decide) (by decide) rfl rfl rfl (by omega) (by omega) rfl (Nat.le_of_ble_eq_true rfl) (by decide) (Nat.le_trans nf_le (by decide)) ?_
  refine tu_aload_n 92 X 0 dX0_takeOver_92 rfl ?_
  refine tu_aload_n 93 X 1 dX0_takeOver_93 rfl ?_
  refine tu_getI 94 X (x := M 38 7) dX0_takeOver_94 fl_RX0_34 (by decide) rfl rfl rfl ?_
  refine tu_putI 97 X (M' := tu_row (tu_row (tu_row (tu_row (tu_row (tu_row M 1 (tu_u (tu_u (tu_u (M 1) 1 (M 38 1)) 4 (M 38 4)) 7 (M 38 7))) 2 (va_cpy (M 39) (M 2) 0 0 4)) 3 (va_cpy (M 40) (M 3) 0 0 16)) 4 (va_cpy (M 41) (M 4) 0 0 256)) 5 (va_cpy (M 42) (M 5) 0 0 8)) 6 (va_cpy (M 43) (M 6) 0 0 192)) dX0_takeOver_97 fp_RX0_34 (by decide) rfl rfl ((tu_rc (tu_row (tu_row (tu_row (tu_row (tu_row M 1 (tu_u (tu_u (M 1) 1 (M 38 1)) 4 (M 38 4))) 2 (va_cpy (M 39) (M 2) 0 0 4)) 3 (va_cpy (M 40) (M 3) 0 0 16)) 4 (va_cpy (M 41) (M 4) 0 0 256)) 5 (va_cpy (M 42) (M 5) 0 0 8)) (va_cpy (M 43) (M 6) 0 0 192) (tu_u (tu_u (tu_u (M 1) 1 (M 38 1)) 4 (M 38 4)) 7 (M 38 7)) rfl).trans (congrArg (fun m => tu_row m 6 (va_cpy (M 43) (M 6) 0 0 192)) ((tu_rc (tu_row (tu_row (tu_row (tu_row M 1 (tu_u (tu_u (M 1) 1 (M 38 1)) 4 (M 38 4))) 2 (va_cpy (M 39) (M 2) 0 0 4)) 3 (va_cpy (M 40) (M 3) 0 0 16)) 4 (va_cpy (M 41) (M 4) 0 0 256)) (va_cpy (M 42) (M 5) 0 0 8) (tu_u (tu_u (tu_u (M 1) 1 (M 38 1)) 4 (M 38 4)) 7 (M 38 7)) rfl).trans (congrArg (fun m => tu_row m 5 (va_cpy (M 42) (M 5) 0 0 8)) ((tu_rc (tu_row (tu_row (tu_row M 1 (tu_u (tu_u (M 1) 1 (M 38 1)) 4 (M 38 4))) 2 (va_cpy (M 39) (M 2) 0 0 4)) 3 (va_cpy (M 40) (M 3) 0 0 16)) (va_cpy (M 41) (M 4) 0 0 256) (tu_u (tu_u (tu_u (M 1) 1 (M 38 1)) 4 (M 38 4)) 7 (M 38 7)) rfl).trans (congrArg (fun m => tu_row m 4 (va_cpy (M 41) (M 4) 0 0 256)) ((tu_rc (tu_row (tu_row M 1 (tu_u (tu_u (M 1) 1 (M 38 1)) 4 (M 38 4))) 2 (va_cpy (M 39) (M 2) 0 0 4)) (va_cpy (M 40) (M 3) 0 0 16) (tu_u (tu_u (tu_u (M 1) 1 (M 38 1)) 4 (M 38 4)) 7 (M 38 7)) rfl).trans (congrArg (fun m => tu_row m 3 (va_cpy (M 40) (M 3) 0 0 16)) ((tu_rc (tu_row M 1 (tu_u (tu_u (M 1) 1 (M 38 1)) 4 (M 38 4))) (va_cpy (M 39) (M 2) 0 0 4) (tu_u (tu_u (tu_u (M 1) 1 (M 38 1)) 4 (M 38 4)) 7 (M 38 7)) rfl).trans (congrArg (fun m => tu_row m 2 (va_cpy (M 39) (M 2) 0 0 4)) (tu_rr M 1 (tu_u (tu_u (M 1) 1 (M 38 1)) 4 (M 38 4)) (tu_u (tu_u (tu_u (M 1) 1 (M 38 1)) 4 (M 38 4)) 7 (M 38 7))))))))))))) ?_
  refine tu_aload_n 100 X 1 dX0_takeOver_100 rfl ?_
  refine tu_getR 101 X dX0_takeOver_101 fl_RX0_37 (by decide) rfl rfl ?_
  refine tu_iconst 104 X dX0_takeOver_104 ?_
  refine tu_aload_n 105 X 0 dX0_takeOver_105 rfl ?_
  refine tu_getR 106 X dX0_takeOver_106 fl_RX0_37 (by decide) rfl rfl ?_
  refine tu_iconst 109 X dX0_takeOver_109 ?_
  refine tu_bipush 110 X dX0_takeOver_110 (by decide) ?_
  refine tu_copy 112 X (M' := tu_row (tu_row (tu_row (tu_row (tu_row (tu_row (tu_row M 1 (tu_u (tu_u (tu_u (M 1) 1 (M 38 1)) 4 (M 38 4)) 7 (M 38 7))) 2 (va_cpy (M 39) (M 2) 0 0 4)) 3 (va_cpy (M 40) (M 3) 0 0 16)) 4 (va_cpy (M 41) (M 4) 0 0 256)) 5 (va_cpy (M 42) (M 5) 0 0 8)) 6 (va_cpy (M 43) (M 6) 0 0 192)) 7 (va_cpy (M 44) (M 7) 0 0 40)) 0 0 40 ac_RX0 dX0_takeOver_112 (by decide) (by decide) rfl rfl (by decide) (by decide) rfl rfl rfl (by omega) (by omega) rfl (Nat.le_of_ble_eq_true rfl) (by decide) (Nat.le_trans nf_le (by decide)) ?_
  refine tu_aload_n 115 X 0 dX0_takeOver_115 rfl ?_
  refine tu_aload_n 116 X 1 dX0_takeOver_116 rfl ?_
  refine tu_getI 117 X (x := M 38 9) dX0_takeOver_117 fl_RX0_40 (by decide) rfl rfl rfl ?_
  refine tu_putI 120 X (M' := tu_row (tu_row (tu_row (tu_row (tu_row (tu_row (tu_row M 1 (tu_u (tu_u (tu_u (tu_u (M 1) 1 (M 38 1)) 4 (M 38 4)) 7 (M 38 7)) 9 (M 38 9))) 2 (va_cpy (M 39) (M 2) 0 0 4)) 3 (va_cpy (M 40) (M 3) 0 0 16)) 4 (va_cpy (M 41) (M 4) 0 0 256)) 5 (va_cpy (M 42) (M 5) 0 0 8)) 6 (va_cpy (M 43) (M 6) 0 0 192)) 7 (va_cpy (M 44) (M 7) 0 0 40)) dX0_takeOver_120 fp_RX0_40 (by decide) rfl rfl ((tu_rc (tu_row (tu_row (tu_row (tu_row (tu_row (tu_row M 1 (tu_u (tu_u (tu_u (M 1) 1 (M 38 1)) 4 (M 38 4)) 7 (M 38 7))) 2 (va_cpy (M 39) (M 2) 0 0 4)) 3 (va_cpy (M 40) (M 3) 0 0 16)) 4 (va_cpy (M 41) (M 4) 0 0 256)) 5 (va_cpy (M 42) (M 5) 0 0 8)) 6 (va_cpy (M 43) (M 6) 0 0 192)) (va_cpy (M 44) (M 7) 0 0 40) (tu_u (tu_u (tu_u (tu_u (M 1) 1 (M 38 1)) 4 (M 38 4)) 7 (M 38 7)) 9 (M 38 9)) rfl).trans (congrArg (fun m => tu_row m 7 (va_cpy (M 44) (M 7) 0 0 40)) ((tu_rc (tu_row (tu_row (tu_row (tu_row (tu_row M 1 (tu_u (tu_u (tu_u (M 1) 1 (M 38 1)) 4 (M 38 4)) 7 (M 38 7))) 2 (va_cpy (M 39) (M 2) 0 0 4)) 3 (va_cpy (M 40) (M 3) 0 0 16)) 4 (va_cpy (M 41) (M 4) 0 0 256)) 5 (va_cpy (M 42) (M 5) 0 0 8)) (va_cpy (M 43) (M 6) 0 0 192) (tu_u (tu_u (tu_u (tu_u (M 1) 1 (M 38 1)) 4 (M 38 4)) 7 (M 38 7)) 9 (M 38 9)) rfl).trans (congrArg (fun m => tu_row m 6 (va_cpy (M 43) (M 6) 0 0 192)) ((tu_rc (tu_row (tu_row (tu_row (tu_row M 1 (tu_u (tu_u (tu_u (M 1) 1 (M 38 1)) 4 (M 38 4)) 7 (M 38 7))) 2 (va_cpy (M 39) (M 2) 0 0 4)) 3 (va_cpy (M 40) (M 3) 0 0 16)) 4 (va_cpy (M 41) (M 4) 0 0 256)) (va_cpy (M 42) (M 5) 0 0 8) (tu_u (tu_u (tu_u (tu_u (M 1) 1 (M 38 1)) 4 (M 38 4)) 7 (M 38 7)) 9 (M 38 9)) rfl).trans (congrArg (fun m => tu_row m 5 (va_cpy (M 42) (M 5) 0 0 8)) ((tu_rc (tu_row (tu_row (tu_row M 1 (tu_u (tu_u (tu_u (M 1) 1 (M 38 1)) 4 (M 38 4)) 7 (M 38 7))) 2 (va_cpy (M 39) (M 2) 0 0 4)) 3 (va_cpy (M 40) (M 3) 0 0 16)) (va_cpy (M 41) (M 4) 0 0 256) (tu_u (tu_u (tu_u (tu_u (M 1) 1 (M 38 1)) 4 (M 38 4)) 7 (M 38 7)) 9 (M 38 9)) rfl).trans (congrArg (fun m => tu_row m 4 (va_cpy (M 41) (M 4) 0 0 256)) ((tu_rc (tu_row (tu_row M 1 (tu_u (tu_u (tu_u (M 1) 1 (M 38 1)) 4 (M 38 4)) 7 (M 38 7))) 2 (va_cpy (M 39) (M 2) 0 0 4)) (va_cpy (M 40) (M 3) 0 0 16) (tu_u (tu_u (tu_u (tu_u (M 1) 1 (M 38 1)) 4 (M 38 4)) 7 (M 38 7)) 9 (M 38 9)) rfl).trans (congrArg (fun m => tu_row m 3 (va_cpy (M 40) (M 3) 0 0 16)) ((tu_rc (tu_row M 1 (tu_u (tu_u (tu_u (M 1) 1 (M 38 1)) 4 (M 38 4)) 7 (M 38 7))) (va_cpy (M 39) (M 2) 0 0 4) (tu_u (tu_u (tu_u (tu_u (M 1) 1 (M 38 1)) 4 (M 38 4)) 7 (M 38 7)) 9 (M 38 9)) rfl).trans (congrArg (fun m => tu_row m 2 (va_cpy (M 39) (M 2) 0 0 4)) (tu_rr M 1 (tu_u (tu_u (tu_u (M 1) 1 (M 38 1)) 4 (M 38 4)) 7 (M 38 7)) (tu_u (tu_u (tu_u (tu_u (M 1) 1 (M 38 1)) 4 (M 38 4)) 7 (M 38 7)) 9 (M 38 9))))))))))))))) ?_
  refine tu_aload_n 123 X 1 dX0_takeOver_123 rfl ?_
  refine tu_getR 124 X dX0_takeOver_124 fl_RX0_43 (by decide) rfl rfl ?_
  refine tu_iconst 127 X dX0_takeOver_127 ?_
  refine tu_aload_n 128 X 0 dX0_takeOver_128 rfl ?_
  refine tu_getR 129 X dX0_takeOver_129 fl_RX0_43 (by decide) rfl rfl ?_
  refine tu_iconst 132 X dX0_takeOver_132 ?_
  refine tu_bipush 133 X dX0_takeOver_133 (by decide) ?_
  refine tu_copy 135 X (M' := tu_row (tu_row (tu_row (tu_row (tu_row (tu_row (tu_row (tu_row M 1 (tu_u (tu_u (tu_u (tu_u (M 1) 1 (M 38 1)) 4 (M 38 4)) 7 (M 38 7)) 9 (M 38 9))) 2 (va_cpy (M 39) (M 2) 0 0 4)) 3 (va_cpy (M 40) (M 3) 0 0 16)) 4 (va_cpy (M 41) (M 4) 0 0 256)) 5 (va_cpy (M 42) (M 5) 0 0 8)) 6 (va_cpy (M 43) (M 6) 0 0 192)) 7 (va_cpy (M 44) (M 7) 0 0 40)) 8 (va_cpy (M 45) (M 8) 0 0 8)) 0 0 8 ac_RX0 dX0_takeOver_135 (by decide) (by decide) rfl rfl (by decide) (by decide) rfl rfl rfl (by omega) (by omega) rfl (Nat.le_of_ble_eq_true rfl) (by decide) (Nat.le_trans nf_le (by decide)) ?_
  refine tu_ext (N := tu_tk M 1 38) ?_ (hret 138 _ _ dX0_takeOver_138 rfl)
  refine tu_tk_q (Or.inl rfl) (fun i hi => by rw [tu_row_n _ _ (by omega), tu_row_n _ _ (by omega), tu_row_n _ _ (by omega), tu_row_n _ _ (by omega), tu_row_n _ _ (by omega), tu_row_n _ _ (by omega), tu_row_n _ _ (by omega), tu_row_n _ _ (by omega)]) (fun j hj => tu_cp hj) (fun j hj => tu_cp hj) (fun j hj => tu_cp hj) (fun j hj => tu_cp hj) (fun j hj => tu_cp hj) (fun j hj => tu_cp hj) (fun j hj => tu_cp hj) rfl rfl rfl rfl
set_option maxRecDepth 20000 in
set_option maxHeartbeats 4000000 in
theorem c_X0_takeOver_46_1 {M : tu_M}   : tu_MV tu_Y_X0_takeOver [tu_r 46, tu_r 1] M (fun M' => M' = tu_tk M 46 1) := by
  refine tu_MV.of (by decide) rfl (Nat.le_of_ble_eq_true rfl) (fun T (X : tu_X T cX0_takeOver RX0 1 40) hnl hret => ?_)
  have hret : tu_RV T cX0_takeOver (fun M' => M' = tu_tk M 46 1) := hret
  have hnl : T.2.2.2.2.2.2.2.2.2.2.1 = 2 := hnl
  show tu_W T 0 [(0, tu_r 46), (1, tu_r 1)] [] M
  refine tu_aload_n 0 X 1 dX0_takeOver_0 rfl ?_
  refine tu_getR 1 X dX0_takeOver_1 fl_RX0_9 (by decide) rfl rfl ?_
  refine tu_iconst 4 X dX0_takeOver_4 ?_
  refine tu_aload_n 5 X 0 dX0_takeOver_5 rfl ?_
  refine tu_getR 6 X dX0_takeOver_6 fl_RX0_9 (by decide) rfl rfl ?_
  refine tu_iconst 9 X dX0_takeOver_9 ?_
  refine tu_iconst 10 X dX0_takeOver_10 ?_
  refine tu_copy 11 X (M' := tu_row M 47 (va_cpy (M 2) (M 47) 0 0 4)) 0 0 4 ac_RX0 dX0_takeOver_11 (by decide) (by decide) rfl rfl (by decide) (by decide) rfl rfl rfl (by omega) (by omega) rfl (Nat.le_of_ble_eq_true rfl) (by decide) (Nat.le_trans nf_le (by decide)) ?_
  refine tu_aload_n 14 X 0 dX0_takeOver_14 rfl ?_
  refine tu_aload_n 15 X 1 dX0_takeOver_15 rfl ?_
  refine tu_getI 16 X (x := M 1 1) dX0_takeOver_16 fl_RX0_15 (by decide) rfl rfl rfl ?_
  refine tu_putI 19 X (M' := tu_row (tu_row M 46 (tu_u (M 46) 1 (M 1 1))) 47 (va_cpy (M 2) (M 47) 0 0 4)) dX0_takeOver_19 fp_RX0_15 (by decide) rfl rfl (tu_rc M (va_cpy (M 2) (M 47) 0 0 4) (tu_u (M 46) 1 (M 1 1)) rfl) ?_
  refine tu_aload_n 22 X 1 dX0_takeOver_22 rfl ?_
  refine tu_getR 23 X dX0_takeOver_23 fl_RX0_19 (by decide) rfl rfl ?_
  refine tu_iconst 26 X dX0_takeOver_26 ?_
  refine tu_aload_n 27 X 0 dX0_takeOver_27 rfl ?_
  refine tu_getR 28 X dX0_takeOver_28 fl_RX0_19 (by decide) rfl rfl ?_
  refine tu_iconst 31 X dX0_takeOver_31 ?_
  refine tu_bipush 32 X dX0_takeOver_32 (by decide) ?_
  refine tu_copy 34 X (M' := tu_row (tu_row (tu_row M 46 (tu_u (M 46) 1 (M 1 1))) 47 (va_cpy (M 2) (M 47) 0 0 4)) 48 (va_cpy (M 3) (M 48) 0 0 16)) 0 0 16 ac_RX0 dX0_takeOver_34 (by decide) (by decide) rfl rfl (by decide) (by decide) rfl rfl rfl (by omega) (by omega) rfl (Nat.le_of_ble_eq_true rfl) (by decide) (Nat.le_trans nf_le (by decide)) ?_
  refine tu_aload_n 37 X 1 dX0_takeOver_37 rfl ?_
  refine tu_getR 38 X dX0_takeOver_38 fl_RX0_22 (by decide) rfl rfl ?_
  refine tu_iconst 41 X dX0_takeOver_41 ?_
  refine tu_aload_n 42 X 0 dX0_takeOver_42 rfl ?_
  refine tu_getR 43 X dX0_takeOver_43 fl_RX0_22 (by decide) rfl rfl ?_
  refine tu_iconst 46 X dX0_takeOver_46 ?_
  refine tu_sipush 47 X dX0_takeOver_47 (by decide) ?_
  refine tu_copy 50 X (M' := tu_row (tu_row (tu_row (tu_row M 46 (tu_u (M 46) 1 (M 1 1))) 47 (va_cpy (M 2) (M 47) 0 0 4)) 48 (va_cpy (M 3) (M 48) 0 0 16)) 49 (va_cpy (M 4) (M 49) 0 0 256)) 0 0 256 ac_RX0 dX0_takeOver_50 (by decide) (by decide) rfl rfl (by decide) (by decide) rfl rfl rfl (by omega) (by omega) rfl (Nat.le_of_ble_eq_true rfl) (by decide) (Nat.le_trans nf_le (by decide)) ?_
  refine tu_aload_n 53 X 0 dX0_takeOver_53 rfl ?_
  refine tu_aload_n 54 X 1 dX0_takeOver_54 rfl ?_
  refine tu_getI 55 X (x := M 1 4) dX0_takeOver_55 fl_RX0_25 (by decide) rfl rfl rfl ?_
  refine tu_putI 58 X (M' := tu_row (tu_row (tu_row (tu_row M 46 (tu_u (tu_u (M 46) 1 (M 1 1)) 4 (M 1 4))) 47 (va_cpy (M 2) (M 47) 0 0 4)) 48 (va_cpy (M 3) (M 48) 0 0 16)) 49 (va_cpy (M 4) (M 49) 0 0 256)) dX0_takeOver_58 fp_RX0_25 (by decide) rfl rfl ((tu_rc (tu_row (tu_row (tu_row M 46 (tu_u (M 46) 1 (M 1 1))) 47 (va_cpy (M 2) (M 47) 0 0 4)) 48 (va_cpy (M 3) (M 48) 0 0 16)) (va_cpy (M 4) (M 49) 0 0 256) (tu_u (tu_u (M 46) 1 (M 1 1)) 4 (M 1 4)) rfl).trans (congrArg (fun m => tu_row m 49 (va_cpy (M 4) (M 49) 0 0 256)) ((tu_rc (tu_row (tu_row M 46 (tu_u (M 46) 1 (M 1 1))) 47 (va_cpy (M 2) (M 47) 0 0 4)) (va_cpy (M 3) (M 48) 0 0 16) (tu_u (tu_u (M 46) 1 (M 1 1)) 4 (M 1 4)) rfl).trans (congrArg (fun m => tu_row m 48 (va_cpy (M 3) (M 48) 0 0 16)) ((tu_rc (tu_row M 46 (tu_u (M 46) 1 (M 1 1))) (va_cpy (M 2) (M 47) 0 0 4) (tu_u (tu_u (M 46) 1 (M 1 1)) 4 (M 1 4)) rfl).trans (congrArg (fun m => tu_row m 47 (va_cpy (M 2) (M 47) 0 0 4)) (tu_rr M 46 (tu_u (M 46) 1 (M 1 1)) (tu_u (tu_u (M 46) 1 (M 1 1)) 4 (M 1 4))))))))) ?_
  refine tu_aload_n 61 X 1 dX0_takeOver_61 rfl ?_
  refine tu_getR 62 X dX0_takeOver_62 fl_RX0_28 (by decide) rfl rfl ?_
  refine tu_iconst 65 X dX0_takeOver_65 ?_
  refine tu_aload_n 66 X 0 dX0_takeOver_66 rfl ?_
  refine tu_getR 67 X dX0_takeOver_67 fl_RX0_28 (by decide) rfl rfl ?_
  refine tu_iconst 70 X dX0_takeOver_70 ?_
  refine tu_bipush 71 X dX0_takeOver_71 (by decide) ?_
  refine tu_copy 73 X (M' := tu_row (tu_row (tu_row (tu_row (tu_row M 46 (tu_u (tu_u (M 46) 1 (M 1 1)) 4 (M 1 4))) 47 (va_cpy (M 2) (M 47) 0 0 4)) 48 (va_cpy (M 3) (M 48) 0 0 16)) 49 (va_cpy (M 4) (M 49) 0 0 256)) 50 (va_cpy (M 5) (M 50) 0 0 8)) 0 0 8 ac_RX0 dX0_takeOver_73 (by decide) (by decide) rfl rfl (by decide) (by decide) rfl rfl rfl (by omega) (by omega) rfl (Nat.le_of_ble_eq_true rfl) (by decide) (Nat.le_trans nf_le (by decide)) ?_
  refine tu_aload_n 76 X 1 dX0_takeOver_76 rfl ?_
  refine tu_getR 77 X dX0_takeOver_77 fl_RX0_31 (by decide) rfl rfl ?_
  refine tu_iconst 80 X dX0_takeOver_80 ?_
  refine tu_aload_n 81 X 0 dX0_takeOver_81 rfl ?_
  refine tu_getR 82 X dX0_takeOver_82 fl_RX0_31 (by decide) rfl rfl ?_
  refine tu_iconst 85 X dX0_takeOver_85 ?_
  refine tu_sipush 86 X dX0_takeOver_86 (by decide) ?_
  refine tu_copy 89 X (M' := tu_row (tu_row (tu_row (tu_row (tu_row (tu_row M 46 (tu_u (tu_u (M 46) 1 (M 1 1)) 4 (M 1 4))) 47 (va_cpy (M 2) (M 47) 0 0 4)) 48 (va_cpy (M 3) (M 48) 0 0 16)) 49 (va_cpy (M 4) (M 49) 0 0 256)) 50 (va_cpy (M 5) (M 50) 0 0 8)) 51 (va_cpy (M 6) (M 51) 0 0 192)) 0 0 192 ac_RX0 dX0_takeOver_89 (by decide) (by decide) rfl rfl (by decide) (by decide) rfl rfl rfl (by omega) (by omega) rfl (Nat.le_of_ble_eq_true rfl) (by decide) (Nat.le_trans nf_le (by decide)) ?_
  refine tu_aload_n 92 X 0 dX0_takeOver_92 rfl ?_
  refine tu_aload_n 93 X 1 dX0_takeOver_93 rfl ?_
  refine tu_getI 94 X (x := M 1 7) dX0_takeOver_94 fl_RX0_34 (by decide) rfl rfl rfl ?_
  refine tu_putI 97 X (M' := tu_row (tu_row (tu_row (tu_row (tu_row (tu_row M 46 (tu_u (tu_u (tu_u (M 46) 1 (M 1 1)) 4 (M 1 4)) 7 (M 1 7))) 47 (va_cpy (M 2) (M 47) 0 0 4)) 48 (va_cpy (M 3) (M 48) 0 0 16)) 49 (va_cpy (M 4) (M 49) 0 0 256)) 50 (va_cpy (M 5) (M 50) 0 0 8)) 51 (va_cpy (M 6) (M 51) 0 0 192)) dX0_takeOver_97 fp_RX0_34 (by decide) rfl rfl ((tu_rc (tu_row (tu_row (tu_row (tu_row (tu_row M 46 (tu_u (tu_u (M 46) 1 (M 1 1)) 4 (M 1 4))) 47 (va_cpy (M 2) (M 47) 0 0 4)) 48 (va_cpy (M 3) (M 48) 0 0 16)) 49 (va_cpy (M 4) (M 49) 0 0 256)) 50 (va_cpy (M 5) (M 50) 0 0 8)) (va_cpy (M 6) (M 51) 0 0 192) (tu_u (tu_u (tu_u (M 46) 1 (M 1 1)) 4 (M 1 4)) 7 (M 1 7)) rfl).trans (congrArg (fun m => tu_row m 51 (va_cpy (M 6) (M 51) 0 0 192)) ((tu_rc (tu_row (tu_row (tu_row (tu_row M 46 (tu_u (tu_u (M 46) 1 (M 1 1)) 4 (M 1 4))) 47 (va_cpy (M 2) (M 47) 0 0 4)) 48 (va_cpy (M 3) (M 48) 0 0 16)) 49 (va_cpy (M 4) (M 49) 0 0 256)) (va_cpy (M 5) (M 50) 0 0 8) (tu_u (tu_u (tu_u (M 46) 1 (M 1 1)) 4 (M 1 4)) 7 (M 1 7)) rfl).trans (congrArg (fun m => tu_row m 50 (va_cpy (M 5) (M 50) 0 0 8)) ((tu_rc (tu_row (tu_row (tu_row M 46 (tu_u (tu_u (M 46) 1 (M 1 1)) 4 (M 1 4))) 47 (va_cpy (M 2) (M 47) 0 0 4)) 48 (va_cpy (M 3) (M 48) 0 0 16)) (va_cpy (M 4) (M 49) 0 0 256) (tu_u (tu_u (tu_u (M 46) 1 (M 1 1)) 4 (M 1 4)) 7 (M 1 7)) rfl).trans (congrArg (fun m => tu_row m 49 (va_cpy (M 4) (M 49) 0 0 256)) ((tu_rc (tu_row (tu_row M 46 (tu_u (tu_u (M 46) 1 (M 1 1)) 4 (M 1 4))) 47 (va_cpy (M 2) (M 47) 0 0 4)) (va_cpy (M 3) (M 48) 0 0 16) (tu_u (tu_u (tu_u (M 46) 1 (M 1 1)) 4 (M 1 4)) 7 (M 1 7)) rfl).trans (congrArg (fun m => tu_row m 48 (va_cpy (M 3) (M 48) 0 0 16)) ((tu_rc (tu_row M 46 (tu_u (tu_u (M 46) 1 (M 1 1)) 4 (M 1 4))) (va_cpy (M 2) (M 47) 0 0 4) (tu_u (tu_u (tu_u (M 46) 1 (M 1 1)) 4 (M 1 4)) 7 (M 1 7)) rfl).trans (congrArg (fun m => tu_row m 47 (va_cpy (M 2) (M 47) 0 0 4)) (tu_rr M 46 (tu_u (tu_u (M 46) 1 (M 1 1)) 4 (M 1 4)) (tu_u (tu_u (tu_u (M 46) 1 (M 1 1)) 4 (M 1 4)) 7 (M 1 7))))))))))))) ?_
  refine tu_aload_n 100 X 1 dX0_takeOver_100 rfl ?_
  refine tu_getR 101 X dX0_takeOver_101 fl_RX0_37 (by decide) rfl rfl ?_
  refine tu_iconst 104 X dX0_takeOver_104 ?_
  refine tu_aload_n 105 X 0 dX0_takeOver_105 rfl ?_
  refine tu_getR 106 X dX0_takeOver_106 fl_RX0_37 (by decide) rfl rfl ?_
  refine tu_iconst 109 X dX0_takeOver_109 ?_
  refine tu_bipush 110 X dX0_takeOver_110 (by decide) ?_
  refine tu_copy 112 X (M' := tu_row (tu_row (tu_row (tu_row (tu_row (tu_row (tu_row M 46 (tu_u (tu_u (tu_u (M 46) 1 (M 1 1)) 4 (M 1 4)) 7 (M 1 7))) 47 (va_cpy (M 2) (M 47) 0 0 4)) 48 (va_cpy (M 3) (M 48) 0 0 16)) 49 (va_cpy (M 4) (M 49) 0 0 256)) 50 (va_cpy (M 5) (M 50) 0 0 8)) 51 (va_cpy (M 6) (M 51) 0 0 192)) 52 (va_cpy (M 7) (M 52) 0 0 40)) 0 0 40 ac_RX0 dX0_takeOver_112 (by decide) (by decide) rfl rfl (by decide) (by decide) rfl rfl rfl (by omega) (by omega) rfl (Nat.le_of_ble_eq_true rfl) (by decide) (Nat.le_trans nf_le (by decide)) ?_
  refine tu_aload_n 115 X 0 dX0_takeOver_115 rfl ?_
  refine tu_aload_n 116 X 1 dX0_takeOver_116 rfl ?_
  refine tu_getI 117 X (x := M 1 9) dX0_takeOver_117 fl_RX0_40 (by decide) rfl rfl rfl ?_
  refine tu_putI 120 X (M' := tu_row (tu_row (tu_row (tu_row (tu_row (tu_row (tu_row M 46 (tu_u (tu_u (tu_u (tu_u (M 46) 1 (M 1 1)) 4 (M 1 4)) 7 (M 1 7)) 9 (M 1 9))) 47 (va_cpy (M 2) (M 47) 0 0 4)) 48 (va_cpy (M 3) (M 48) 0 0 16)) 49 (va_cpy (M 4) (M 49) 0 0 256)) 50 (va_cpy (M 5) (M 50) 0 0 8)) 51 (va_cpy (M 6) (M 51) 0 0 192)) 52 (va_cpy (M 7) (M 52) 0 0 40)) dX0_takeOver_120 fp_RX0_40 (by decide) rfl rfl ((tu_rc (tu_row (tu_row (tu_row (tu_row (tu_row (tu_row M 46 (tu_u (tu_u (tu_u (M 46) 1 (M 1 1)) 4 (M 1 4)) 7 (M 1 7))) 47 (va_cpy (M 2) (M 47) 0 0 4)) 48 (va_cpy (M 3) (M 48) 0 0 16)) 49 (va_cpy (M 4) (M 49) 0 0 256)) 50 (va_cpy (M 5) (M 50) 0 0 8)) 51 (va_cpy (M 6) (M 51) 0 0 192)) (va_cpy (M 7) (M 52) 0 0 40) (tu_u (tu_u (tu_u (tu_u (M 46) 1 (M 1 1)) 4 (M 1 4)) 7 (M 1 7)) 9 (M 1 9)) rfl).trans (congrArg (fun m => tu_row m 52 (va_cpy (M 7) (M 52) 0 0 40)) ((tu_rc (tu_row (tu_row (tu_row (tu_row (tu_row M 46 (tu_u (tu_u (tu_u (M 46) 1 (M 1 1)) 4 (M 1 4)) 7 (M 1 7))) 47 (va_cpy (M 2) (M 47) 0 0 4)) 48 (va_cpy (M 3) (M 48) 0 0 16)) 49 (va_cpy (M 4) (M 49) 0 0 256)) 50 (va_cpy (M 5) (M 50) 0 0 8)) (va_cpy (M 6) (M 51) 0 0 192) (tu_u (tu_u (tu_u (tu_u (M 46) 1 (M 1 1)) 4 (M 1 4)) 7 (M 1 7)) 9 (M 1 9)) rfl).trans (congrArg (fun m => tu_row m 51 (va_cpy (M 6) (M 51) 0 0 192)) ((tu_rc (tu_row (tu_row (tu_row (tu_row M 46 (tu_u (tu_u (tu_u (M 46) 1 (M 1 1)) 4 (M 1 4)) 7 (M 1 7))) 47 (va_cpy (M 2) (M 47) 0 0 4)) 48 (va_cpy (M 3) (M 48) 0 0 16)) 49 (va_cpy (M 4) (M 49) 0 0 256)) (va_cpy (M 5) (M 50) 0 0 8) (tu_u (tu_u (tu_u (tu_u (M 46) 1 (M 1 1)) 4 (M 1 4)) 7 (M 1 7)) 9 (M 1 9)) rfl).trans (congrArg (fun m => tu_row m 50 (va_cpy (M 5) (M 50) 0 0 8)) ((tu_rc (tu_row (tu_row (tu_row M 46 (tu_u (tu_u (tu_u (M 46) 1 (M 1 1)) 4 (M 1 4)) 7 (M 1 7))) 47 (va_cpy (M 2) (M 47) 0 0 4)) 48 (va_cpy (M 3) (M 48) 0 0 16)) (va_cpy (M 4) (M 49) 0 0 256) (tu_u (tu_u (tu_u (tu_u (M 46) 1 (M 1 1)) 4 (M 1 4)) 7 (M 1 7)) 9 (M 1 9)) rfl).trans (congrArg (fun m => tu_row m 49 (va_cpy (M 4) (M 49) 0 0 256)) ((tu_rc (tu_row (tu_row M 46 (tu_u (tu_u (tu_u (M 46) 1 (M 1 1)) 4 (M 1 4)) 7 (M 1 7))) 47 (va_cpy (M 2) (M 47) 0 0 4)) (va_cpy (M 3) (M 48) 0 0 16) (tu_u (tu_u (tu_u (tu_u (M 46) 1 (M 1 1)) 4 (M 1 4)) 7 (M 1 7)) 9 (M 1 9)) rfl).trans (congrArg (fun m => tu_row m 48 (va_cpy (M 3) (M 48) 0 0 16)) ((tu_rc (tu_row M 46 (tu_u (tu_u (tu_u (M 46) 1 (M 1 1)) 4 (M 1 4)) 7 (M 1 7))) (va_cpy (M 2) (M 47) 0 0 4) (tu_u (tu_u (tu_u (tu_u (M 46) 1 (M 1 1)) 4 (M 1 4)) 7 (M 1 7)) 9 (M 1 9)) rfl).trans (congrArg (fun m => tu_row m 47 (va_cpy (M 2) (M 47) 0 0 4)) (tu_rr M 46 (tu_u (tu_u (tu_u (M 46) 1 (M 1 1)) 4 (M 1 4)) 7 (M 1 7)) (tu_u (tu_u (tu_u (tu_u (M 46) 1 (M 1 1)) 4 (M 1 4)) 7 (M 1 7)) 9 (M 1 9))))))))))))))) ?_
  refine tu_aload_n 123 X 1 dX0_takeOver_123 rfl ?_
  refine tu_getR 124 X dX0_takeOver_124 fl_RX0_43 (by decide) rfl rfl ?_
  refine tu_iconst 127 X dX0_takeOver_127 ?_
  refine tu_aload_n 128 X 0 dX0_takeOver_128 rfl ?_
  refine tu_getR 129 X dX0_takeOver_129 fl_RX0_43 (by decide) rfl rfl ?_
  refine tu_iconst 132 X dX0_takeOver_132 ?_
  refine tu_bipush 133 X dX0_takeOver_133 (by decide) ?_
  refine tu_copy 135 X (M' := tu_row (tu_row (tu_row (tu_row (tu_row (tu_row (tu_row (tu_row M 46 (tu_u (tu_u (tu_u (tu_u (M 46) 1 (M 1 1)) 4 (M 1 4)) 7 (M 1 7)) 9 (M 1 9))) 47 (va_cpy (M 2) (M 47) 0 0 4)) 48 (va_cpy (M 3) (M 48) 0 0 16)) 49 (va_cpy (M 4) (M 49) 0 0 256)) 50 (va_cpy (M 5) (M 50) 0 0 8)) 51 (va_cpy (M 6) (M 51) 0 0 192)) 52 (va_cpy (M 7) (M 52) 0 0 40)) 53 (va_cpy (M 8) (M 53) 0 0 8)) 0 0 8 ac_RX0 dX0_takeOver_135 (by decide) (by decide) rfl rfl (by decide) (by decide) rfl rfl rfl (by omega) (by omega) rfl (Nat.le_of_ble_eq_true rfl) (by decide) (Nat.le_trans nf_le (by decide)) ?_
  refine tu_ext (N := tu_tk M 46 1) ?_ (hret 138 _ _ dX0_takeOver_138 rfl)
  refine tu_tk_q (Or.inr ⟨3, by decide, rfl⟩) (fun i hi => by rw [tu_row_n _ _ (by omega), tu_row_n _ _ (by omega), tu_row_n _ _ (by omega), tu_row_n _ _ (by omega), tu_row_n _ _ (by omega), tu_row_n _ _ (by omega), tu_row_n _ _ (by omega), tu_row_n _ _ (by omega)]) (fun j hj => tu_cp hj) (fun j hj => tu_cp hj) (fun j hj => tu_cp hj) (fun j hj => tu_cp hj) (fun j hj => tu_cp hj) (fun j hj => tu_cp hj) (fun j hj => tu_cp hj) rfl rfl rfl rfl
set_option maxRecDepth 20000 in
set_option maxHeartbeats 4000000 in
theorem c_X0_takeOver_1_46 {M : tu_M}   : tu_MV tu_Y_X0_takeOver [tu_r 1, tu_r 46] M (fun M' => M' = tu_tk M 1 46) := by
  refine tu_MV.of (by decide) rfl (Nat.le_of_ble_eq_true rfl) (fun T (X : tu_X T cX0_takeOver RX0 1 40) hnl hret => ?_)
  have hret : tu_RV T cX0_takeOver (fun M' => M' = tu_tk M 1 46) := hret
  have hnl : T.2.2.2.2.2.2.2.2.2.2.1 = 2 := hnl
  show tu_W T 0 [(0, tu_r 1), (1, tu_r 46)] [] M
  refine tu_aload_n 0 X 1 dX0_takeOver_0 rfl ?_
  refine tu_getR 1 X dX0_takeOver_1 fl_RX0_9 (by decide) rfl rfl ?_
  refine tu_iconst 4 X dX0_takeOver_4 ?_
  refine tu_aload_n 5 X 0 dX0_takeOver_5 rfl ?_
  refine tu_getR 6 X dX0_takeOver_6 fl_RX0_9 (by decide) rfl rfl ?_
  refine tu_iconst 9 X dX0_takeOver_9 ?_
  refine tu_iconst 10 X dX0_takeOver_10 ?_
  refine tu_copy 11 X (M' := tu_row M 2 (va_cpy (M 47) (M 2) 0 0 4)) 0 0 4 ac_RX0 dX0_takeOver_11 (by decide) (by decide) rfl rfl (by decide) (by decide) rfl rfl rfl (by omega) (by omega) rfl (Nat.le_of_ble_eq_true rfl) (by decide) (Nat.le_trans nf_le (by decide)) ?_
  refine tu_aload_n 14 X 0 dX0_takeOver_14 rfl ?_
  refine tu_aload_n 15 X 1 dX0_takeOver_15 rfl ?_
  refine tu_getI 16 X (x := M 46 1) dX0_takeOver_16 fl_RX0_15 (by decide) rfl rfl rfl ?_
  refine tu_putI 19 X (M' := tu_row (tu_row M 1 (tu_u (M 1) 1 (M 46 1))) 2 (va_cpy (M 47) (M 2) 0 0 4)) dX0_takeOver_19 fp_RX0_15 (by decide) rfl rfl (tu_rc M (va_cpy (M 47) (M 2) 0 0 4) (tu_u (M 1) 1 (M 46 1)) rfl) ?_
  refine tu_aload_n 22 X 1 dX0_takeOver_22 rfl ?_
  refine tu_getR 23 X dX0_takeOver_23 fl_RX0_19 (by decide) rfl rfl ?_
  refine tu_iconst 26 X dX0_takeOver_26 ?_
  refine tu_aload_n 27 X 0 dX0_takeOver_27 rfl ?_
  refine tu_getR 28 X dX0_takeOver_28 fl_RX0_19 (by decide) rfl rfl ?_
  refine tu_iconst 31 X dX0_takeOver_31 ?_
  refine tu_bipush 32 X dX0_takeOver_32 (by decide) ?_
  refine tu_copy 34 X (M' := tu_row (tu_row (tu_row M 1 (tu_u (M 1) 1 (M 46 1))) 2 (va_cpy (M 47) (M 2) 0 0 4)) 3 (va_cpy (M 48) (M 3) 0 0 16)) 0 0 16 ac_RX0 dX0_takeOver_34 (by decide) (by decide) rfl rfl (by decide) (by decide) rfl rfl rfl (by omega) (by omega) rfl (Nat.le_of_ble_eq_true rfl) (by decide) (Nat.le_trans nf_le (by decide)) ?_
  refine tu_aload_n 37 X 1 dX0_takeOver_37 rfl ?_
  refine tu_getR 38 X dX0_takeOver_38 fl_RX0_22 (by decide) rfl rfl ?_
  refine tu_iconst 41 X dX0_takeOver_41 ?_
  refine tu_aload_n 42 X 0 dX0_takeOver_42 rfl ?_
  refine tu_getR 43 X dX0_takeOver_43 fl_RX0_22 (by decide) rfl rfl ?_
  refine tu_iconst 46 X dX0_takeOver_46 ?_
  refine tu_sipush 47 X dX0_takeOver_47 (by decide) ?_
  refine tu_copy 50 X (M' := tu_row (tu_row (tu_row (tu_row M 1 (tu_u (M 1) 1 (M 46 1))) 2 (va_cpy (M 47) (M 2) 0 0 4)) 3 (va_cpy (M 48) (M 3) 0 0 16)) 4 (va_cpy (M 49) (M 4) 0 0 256)) 0 0 256 ac_RX0 dX0_takeOver_50 (by decide) (by decide) rfl rfl (by decide) (by decide) rfl rfl rfl (by omega) (by omega) rfl (Nat.le_of_ble_eq_true rfl) (by decide) (Nat.le_trans nf_le (by decide)) ?_
  refine tu_aload_n 53 X 0 dX0_takeOver_53 rfl ?_
  refine tu_aload_n 54 X 1 dX0_takeOver_54 rfl ?_
  refine tu_getI 55 X (x := M 46 4) dX0_takeOver_55 fl_RX0_25 (by decide) rfl rfl rfl ?_
  refine tu_putI 58 X (M' := tu_row (tu_row (tu_row (tu_row M 1 (tu_u (tu_u (M 1) 1 (M 46 1)) 4 (M 46 4))) 2 (va_cpy (M 47) (M 2) 0 0 4)) 3 (va_cpy (M 48) (M 3) 0 0 16)) 4 (va_cpy (M 49) (M 4) 0 0 256)) dX0_takeOver_58 fp_RX0_25 (by decide) rfl rfl ((tu_rc (tu_row (tu_row (tu_row M 1 (tu_u (M 1) 1 (M 46 1))) 2 (va_cpy (M 47) (M 2) 0 0 4)) 3 (va_cpy (M 48) (M 3) 0 0 16)) (va_cpy (M 49) (M 4) 0 0 256) (tu_u (tu_u (M 1) 1 (M 46 1)) 4 (M 46 4)) rfl).trans (congrArg (fun m => tu_row m 4 (va_cpy (M 49) (M 4) 0 0 256)) ((tu_rc (tu_row (tu_row M 1 (tu_u (M 1) 1 (M 46 1))) 2 (va_cpy (M 47) (M 2) 0 0 4)) (va_cpy (M 48) (M 3) 0 0 16) (tu_u (tu_u (M 1) 1 (M 46 1)) 4 (M 46 4)) rfl).trans (congrArg (fun m => tu_row m 3 (va_cpy (M 48) (M 3) 0 0 16)) ((tu_rc (tu_row M 1 (tu_u (M 1) 1 (M 46 1))) (va_cpy (M 47) (M 2) 0 0 4) (tu_u (tu_u (M 1) 1 (M 46 1)) 4 (M 46 4)) rfl).trans (congrArg (fun m => tu_row m 2 (va_cpy (M 47) (M 2) 0 0 4)) (tu_rr M 1 (tu_u (M 1) 1 (M 46 1)) (tu_u (tu_u (M 1) 1 (M 46 1)) 4 (M 46 4))))))))) ?_
  refine tu_aload_n 61 X 1 dX0_takeOver_61 rfl ?_
  refine tu_getR 62 X dX0_takeOver_62 fl_RX0_28 (by decide) rfl rfl ?_
  refine tu_iconst 65 X dX0_takeOver_65 ?_
  refine tu_aload_n 66 X 0 dX0_takeOver_66 rfl ?_
  refine tu_getR 67 X dX0_takeOver_67 fl_RX0_28 (by decide) rfl rfl ?_
  refine tu_iconst 70 X dX0_takeOver_70 ?_
  refine tu_bipush 71 X dX0_takeOver_71 (by decide) ?_
  refine tu_copy 73 X (M' := tu_row (tu_row (tu_row (tu_row (tu_row M 1 (tu_u (tu_u (M 1) 1 (M 46 1)) 4 (M 46 4))) 2 (va_cpy (M 47) (M 2) 0 0 4)) 3 (va_cpy (M 48) (M 3) 0 0 16)) 4 (va_cpy (M 49) (M 4) 0 0 256)) 5 (va_cpy (M 50) (M 5) 0 0 8)) 0 0 8 ac_RX0 dX0_takeOver_73 (by decide) (by decide) rfl rfl (by decide) (by decide) rfl rfl rfl (by omega) (by omega) rfl (Nat.le_of_ble_eq_true rfl) (by decide) (Nat.le_trans nf_le (by decide)) ?_
  refine tu_aload_n 76 X 1 dX0_takeOver_76 rfl ?_
  refine tu_getR 77 X dX0_takeOver_77 fl_RX0_31 (by decide) rfl rfl ?_
  refine tu_iconst 80 X dX0_takeOver_80 ?_
  refine tu_aload_n 81 X 0 dX0_takeOver_81 rfl ?_
  refine tu_getR 82 X dX0_takeOver_82 fl_RX0_31 (by decide) rfl rfl ?_
  refine tu_iconst 85 X dX0_takeOver_85 ?_
  refine tu_sipush 86 X dX0_takeOver_86 (by decide) ?_
  refine tu_copy 89 X (M' := tu_row (tu_row (tu_row (tu_row (tu_row (tu_row M 1 (tu_u (tu_u (M 1) 1 (M 46 1)) 4 (M 46 4))) 2 (va_cpy (M 47) (M 2) 0 0 4)) 3 (va_cpy (M 48) (M 3) 0 0 16)) 4 (va_cpy (M 49) (M 4) 0 0 256)) 5 (va_cpy (M 50) (M 5) 0 0 8)) 6 (va_cpy (M 51) (M 6) 0 0 192)) 0 0 192 ac_RX0 dX0_takeOver_89 (by decide) (by decide) rfl rfl (by decide) (by decide) rfl rfl rfl (by omega) (by omega) rfl (Nat.le_of_ble_eq_true rfl) (by decide) (Nat.le_trans nf_le (by decide)) ?_
  refine tu_aload_n 92 X 0 dX0_takeOver_92 rfl ?_
  refine tu_aload_n 93 X 1 dX0_takeOver_93 rfl ?_
  refine tu_getI 94 X (x := M 46 7) dX0_takeOver_94 fl_RX0_34 (by decide) rfl rfl rfl ?_
  refine tu_putI 97 X (M' := tu_row (tu_row (tu_row (tu_row (tu_row (tu_row M 1 (tu_u (tu_u (tu_u (M 1) 1 (M 46 1)) 4 (M 46 4)) 7 (M 46 7))) 2 (va_cpy (M 47) (M 2) 0 0 4)) 3 (va_cpy (M 48) (M 3) 0 0 16)) 4 (va_cpy (M 49) (M 4) 0 0 256)) 5 (va_cpy (M 50) (M 5) 0 0 8)) 6 (va_cpy (M 51) (M 6) 0 0 192)) dX0_takeOver_97 fp_RX0_34 (by decide) rfl rfl ((tu_rc (tu_row (tu_row (tu_row (tu_row (tu_row M 1 (tu_u (tu_u (M 1) 1 (M 46 1)) 4 (M 46 4))) 2 (va_cpy (M 47) (M 2) 0 0 4)) 3 (va_cpy (M 48) (M 3) 0 0 16)) 4 (va_cpy (M 49) (M 4) 0 0 256)) 5 (va_cpy (M 50) (M 5) 0 0 8)) (va_cpy (M 51) (M 6) 0 0 192) (tu_u (tu_u (tu_u (M 1) 1 (M 46 1)) 4 (M 46 4)) 7 (M 46 7)) rfl).trans (congrArg (fun m => tu_row m 6 (va_cpy (M 51) (M 6) 0 0 192)) ((tu_rc (tu_row (tu_row (tu_row (tu_row M 1 (tu_u (tu_u (M 1) 1 (M 46 1)) 4 (M 46 4))) 2 (va_cpy (M 47) (M 2) 0 0 4)) 3 (va_cpy (M 48) (M 3) 0 0 16)) 4 (va_cpy (M 49) (M 4) 0 0 256)) (va_cpy (M 50) (M 5) 0 0 8) (tu_u (tu_u (tu_u (M 1) 1 (M 46 1)) 4 (M 46 4)) 7 (M 46 7)) rfl).trans (congrArg (fun m => tu_row m 5 (va_cpy (M 50) (M 5) 0 0 8)) ((tu_rc (tu_row (tu_row (tu_row M 1 (tu_u (tu_u (M 1) 1 (M 46 1)) 4 (M 46 4))) 2 (va_cpy (M 47) (M 2) 0 0 4)) 3 (va_cpy (M 48) (M 3) 0 0 16)) (va_cpy (M 49) (M 4) 0 0 256) (tu_u (tu_u (tu_u (M 1) 1 (M 46 1)) 4 (M 46 4)) 7 (M 46 7)) rfl).trans (congrArg (fun m => tu_row m 4 (va_cpy (M 49) (M 4) 0 0 256)) ((tu_rc (tu_row (tu_row M 1 (tu_u (tu_u (M 1) 1 (M 46 1)) 4 (M 46 4))) 2 (va_cpy (M 47) (M 2) 0 0 4)) (va_cpy (M 48) (M 3) 0 0 16) (tu_u (tu_u (tu_u (M 1) 1 (M 46 1)) 4 (M 46 4)) 7 (M 46 7)) rfl).trans (congrArg (fun m => tu_row m 3 (va_cpy (M 48) (M 3) 0 0 16)) ((tu_rc (tu_row M 1 (tu_u (tu_u (M 1) 1 (M 46 1)) 4 (M 46 4))) (va_cpy (M 47) (M 2) 0 0 4) (tu_u (tu_u (tu_u (M 1) 1 (M 46 1)) 4 (M 46 4)) 7 (M 46 7)) rfl).trans (congrArg (fun m => tu_row m 2 (va_cpy (M 47) (M 2) 0 0 4)) (tu_rr M 1 (tu_u (tu_u (M 1) 1 (M 46 1)) 4 (M 46 4)) (tu_u (tu_u (tu_u (M 1) 1 (M 46 1)) 4 (M 46 4)) 7 (M 46 7))))))))))))) ?_
  refine tu_aload_n 100 X 1 dX0_takeOver_100 rfl ?_
  refine tu_getR 101 X dX0_takeOver_101 fl_RX0_37 (by decide) rfl rfl ?_
  refine tu_iconst 104 X dX0_takeOver_104 ?_
  refine tu_aload_n 105 X 0 dX0_takeOver_105 rfl ?_
  refine tu_getR 106 X dX0_takeOver_106 fl_RX0_37 (by decide) rfl rfl ?_
  refine tu_iconst 109 X dX0_takeOver_109 ?_
  refine tu_bipush 110 X dX0_takeOver_110 (by decide) ?_
  refine tu_copy 112 X (M' := tu_row (tu_row (tu_row (tu_row (tu_row (tu_row (tu_row M 1 (tu_u (tu_u (tu_u (M 1) 1 (M 46 1)) 4 (M 46 4)) 7 (M 46 7))) 2 (va_cpy (M 47) (M 2) 0 0 4)) 3 (va_cpy (M 48) (M 3) 0 0 16)) 4 (va_cpy (M 49) (M 4) 0 0 256)) 5 (va_cpy (M 50) (M 5) 0 0 8)) 6 (va_cpy (M 51) (M 6) 0 0 192)) 7 (va_cpy (M 52) (M 7) 0 0 40)) 0 0 40 ac_RX0 dX0_takeOver_112 (by decide) (by decide) rfl rfl (by decide) (by decide) rfl rfl rfl (by omega) (by omega) rfl (Nat.le_of_ble_eq_true rfl) (by decide) (Nat.le_trans nf_le (by decide)) ?_
  refine tu_aload_n 115 X 0 dX0_takeOver_115 rfl ?_
  refine tu_aload_n 116 X 1 dX0_takeOver_116 rfl ?_
  refine tu_getI 117 X (x := M 46 9) dX0_takeOver_117 fl_RX0_40 (by decide) rfl rfl rfl ?_
  refine tu_putI 120 X (M' := tu_row (tu_row (tu_row (tu_row (tu_row (tu_row (tu_row M 1 (tu_u (tu_u (tu_u (tu_u (M 1) 1 (M 46 1)) 4 (M 46 4)) 7 (M 46 7)) 9 (M 46 9))) 2 (va_cpy (M 47) (M 2) 0 0 4)) 3 (va_cpy (M 48) (M 3) 0 0 16)) 4 (va_cpy (M 49) (M 4) 0 0 256)) 5 (va_cpy (M 50) (M 5) 0 0 8)) 6 (va_cpy (M 51) (M 6) 0 0 192)) 7 (va_cpy (M 52) (M 7) 0 0 40)) dX0_takeOver_120 fp_RX0_40 (by decide) rfl rfl ((tu_rc (tu_row (tu_row (tu_row (tu_row (tu_row (tu_row M 1 (tu_u (tu_u (tu_u (M 1) 1 (M 46 1)) 4 (M 46 4)) 7 (M 46 7))) 2 (va_cpy (M 47) (M 2) 0 0 4)) 3 (va_cpy (M 48) (M 3) 0 0 16)) 4 (va_cpy (M 49) (M 4) 0 0 256)) 5 (va_cpy (M 50) (M 5) 0 0 8)) 6 (va_cpy (M 51) (M 6) 0 0 192)) (va_cpy (M 52) (M 7) 0 0 40) (tu_u (tu_u (tu_u (tu_u (M 1) 1 (M 46 1)) 4 (M 46 4)) 7 (M 46 7)) 9 (M 46 9)) rfl).trans (congrArg (fun m => tu_row m 7 (va_cpy (M 52) (M 7) 0 0 40)) ((tu_rc (tu_row (tu_row (tu_row (tu_row (tu_row M 1 (tu_u (tu_u (tu_u (M 1) 1 (M 46 1)) 4 (M 46 4)) 7 (M 46 7))) 2 (va_cpy (M 47) (M 2) 0 0 4)) 3 (va_cpy (M 48) (M 3) 0 0 16)) 4 (va_cpy (M 49) (M 4) 0 0 256)) 5 (va_cpy (M 50) (M 5) 0 0 8)) (va_cpy (M 51) (M 6) 0 0 192) (tu_u (tu_u (tu_u (tu_u (M 1) 1 (M 46 1)) 4 (M 46 4)) 7 (M 46 7)) 9 (M 46 9)) rfl).trans (congrArg (fun m => tu_row m 6 (va_cpy (M 51) (M 6) 0 0 192)) ((tu_rc (tu_row (tu_row (tu_row (tu_row M 1 (tu_u (tu_u (tu_u (M 1) 1 (M 46 1)) 4 (M 46 4)) 7 (M 46 7))) 2 (va_cpy (M 47) (M 2) 0 0 4)) 3 (va_cpy (M 48) (M 3) 0 0 16)) 4 (va_cpy (M 49) (M 4) 0 0 256)) (va_cpy (M 50) (M 5) 0 0 8) (tu_u (tu_u (tu_u (tu_u (M 1) 1 (M 46 1)) 4 (M 46 4)) 7 (M 46 7)) 9 (M 46 9)) rfl).trans (congrArg (fun m => tu_row m 5 (va_cpy (M 50) (M 5) 0 0 8)) ((tu_rc (tu_row (tu_row (tu_row M 1 (tu_u (tu_u (tu_u (M 1) 1 (M 46 1)) 4 (M 46 4)) 7 (M 46 7))) 2 (va_cpy (M 47) (M 2) 0 0 4)) 3 (va_cpy (M 48) (M 3) 0 0 16)) (va_cpy (M 49) (M 4) 0 0 256) (tu_u (tu_u (tu_u (tu_u (M 1) 1 (M 46 1)) 4 (M 46 4)) 7 (M 46 7)) 9 (M 46 9)) rfl).trans (congrArg (fun m => tu_row m 4 (va_cpy (M 49) (M 4) 0 0 256)) ((tu_rc (tu_row (tu_row M 1 (tu_u (tu_u (tu_u (M 1) 1 (M 46 1)) 4 (M 46 4)) 7 (M 46 7))) 2 (va_cpy (M 47) (M 2) 0 0 4)) (va_cpy (M 48) (M 3) 0 0 16) (tu_u (tu_u (tu_u (tu_u (M 1) 1 (M 46 1)) 4 (M 46 4)) 7 (M 46 7)) 9 (M 46 9)) rfl).trans (congrArg (fun m => tu_row m 3 (va_cpy (M 48) (M 3) 0 0 16)) ((tu_rc (tu_row M 1 (tu_u (tu_u (tu_u (M 1) 1 (M 46 1)) 4 (M 46 4)) 7 (M 46 7))) (va_cpy (M 47) (M 2) 0 0 4) (tu_u (tu_u (tu_u (tu_u (M 1) 1 (M 46 1)) 4 (M 46 4)) 7 (M 46 7)) 9 (M 46 9)) rfl).trans (congrArg (fun m => tu_row m 2 (va_cpy (M 47) (M 2) 0 0 4)) (tu_rr M 1 (tu_u (tu_u (tu_u (M 1) 1 (M 46 1)) 4 (M 46 4)) 7 (M 46 7)) (tu_u (tu_u (tu_u (tu_u (M 1) 1 (M 46 1)) 4 (M 46 4)) 7 (M 46 7)) 9 (M 46 9))))))))))))))) ?_
  refine tu_aload_n 123 X 1 dX0_takeOver_123 rfl ?_
  refine tu_getR 124 X dX0_takeOver_124 fl_RX0_43 (by decide) rfl rfl ?_
  refine tu_iconst 127 X dX0_takeOver_127 ?_
  refine tu_aload_n 128 X 0 dX0_takeOver_128 rfl ?_
  refine tu_getR 129 X dX0_takeOver_129 fl_RX0_43 (by decide) rfl rfl ?_
  refine tu_iconst 132 X dX0_takeOver_132 ?_
  refine tu_bipush 133 X dX0_takeOver_133 (by decide) ?_
  refine tu_copy 135 X (M' := tu_row (tu_row (tu_row (tu_row (tu_row (tu_row (tu_row (tu_row M 1 (tu_u (tu_u (tu_u (tu_u (M 1) 1 (M 46 1)) 4 (M 46 4)) 7 (M 46 7)) 9 (M 46 9))) 2 (va_cpy (M 47) (M 2) 0 0 4)) 3 (va_cpy (M 48) (M 3) 0 0 16)) 4 (va_cpy (M 49) (M 4) 0 0 256)) 5 (va_cpy (M 50) (M 5) 0 0 8)) 6 (va_cpy (M 51) (M 6) 0 0 192)) 7 (va_cpy (M 52) (M 7) 0 0 40)) 8 (va_cpy (M 53) (M 8) 0 0 8)) 0 0 8 ac_RX0 dX0_takeOver_135 (by decide) (by decide) rfl rfl (by decide) (by decide) rfl rfl rfl (by omega) (by omega) rfl (Nat.le_of_ble_eq_true rfl) (by decide) (Nat.le_trans nf_le (by decide)) ?_
  refine tu_ext (N := tu_tk M 1 46) ?_ (hret 138 _ _ dX0_takeOver_138 rfl)
  refine tu_tk_q (Or.inl rfl) (fun i hi => by rw [tu_row_n _ _ (by omega), tu_row_n _ _ (by omega), tu_row_n _ _ (by omega), tu_row_n _ _ (by omega), tu_row_n _ _ (by omega), tu_row_n _ _ (by omega), tu_row_n _ _ (by omega), tu_row_n _ _ (by omega)]) (fun j hj => tu_cp hj) (fun j hj => tu_cp hj) (fun j hj => tu_cp hj) (fun j hj => tu_cp hj) (fun j hj => tu_cp hj) (fun j hj => tu_cp hj) (fun j hj => tu_cp hj) rfl rfl rfl rfl
set_option maxRecDepth 20000 in
set_option maxHeartbeats 4000000 in
theorem c_X0_takeOver_54_1 {M : tu_M}   : tu_MV tu_Y_X0_takeOver [tu_r 54, tu_r 1] M (fun M' => M' = tu_tk M 54 1) := by
  refine tu_MV.of (by decide) rfl (Nat.le_of_ble_eq_true rfl) (fun T (X : tu_X T cX0_takeOver RX0 1 40) hnl hret => ?_)
  have hret : tu_RV T cX0_takeOver (fun M' => M' = tu_tk M 54 1) := hret
  have hnl : T.2.2.2.2.2.2.2.2.2.2.1 = 2 := hnl
  show tu_W T 0 [(0, tu_r 54), (1, tu_r 1)] [] M
  refine tu_aload_n 0 X 1 dX0_takeOver_0 rfl ?_
  refine tu_getR 1 X dX0_takeOver_1 fl_RX0_9 (by decide) rfl rfl ?_
  refine tu_iconst 4 X dX0_takeOver_4 ?_
  refine tu_aload_n 5 X 0 dX0_takeOver_5 rfl ?_
  refine tu_getR 6 X dX0_takeOver_6 fl_RX0_9 (by decide) rfl rfl ?_
  refine tu_iconst 9 X dX0_takeOver_9 ?_
  refine tu_iconst 10 X dX0_takeOver_10 ?_
  refine tu_copy 11 X (M' := tu_row M 55 (va_cpy (M 2) (M 55) 0 0 4)) 0 0 4 ac_RX0 dX0_takeOver_11 (by decide) (by decide) rfl rfl (by decide) (by decide) rfl rfl rfl (by omega) (by omega) rfl (Nat.le_of_ble_eq_true rfl) (by decide) (Nat.le_trans nf_le (by decide)) ?_
  refine tu_aload_n 14 X 0 dX0_takeOver_14 rfl ?_
  refine tu_aload_n 15 X 1 dX0_takeOver_15 rfl ?_
  refine tu_getI 16 X (x := M 1 1) dX0_takeOver_16 fl_RX0_15 (by decide) rfl rfl rfl ?_
  refine tu_putI 19 X (M' := tu_row (tu_row M 54 (tu_u (M 54) 1 (M 1 1))) 55 (va_cpy (M 2) (M 55) 0 0 4)) dX0_takeOver_19 fp_RX0_15 (by decide) rfl rfl (tu_rc M (va_cpy (M 2) (M 55) 0 0 4) (tu_u (M 54) 1 (M 1 1)) rfl) ?_
  refine tu_aload_n 22 X 1 dX0_takeOver_22 rfl ?_
  refine tu_getR 23 X dX0_takeOver_23 fl_RX0_19 (by decide) rfl rfl ?_
  refine tu_iconst 26 X dX0_takeOver_26 ?_
  refine tu_aload_n 27 X 0 dX0_takeOver_27 rfl ?_
  refine tu_getR 28 X dX0_takeOver_28 fl_RX0_19 (by decide) rfl rfl ?_
  refine tu_iconst 31 X dX0_takeOver_31 ?_
  refine tu_bipush 32 X dX0_takeOver_32 (by decide) ?_
  refine tu_copy 34 X (M' := tu_row (tu_row (tu_row M 54 (tu_u (M 54) 1 (M 1 1))) 55 (va_cpy (M 2) (M 55) 0 0 4)) 56 (va_cpy (M 3) (M 56) 0 0 16)) 0 0 16 ac_RX0 dX0_takeOver_34 (by decide) (by decide) rfl rfl (by decide) (by decide) rfl rfl rfl (by omega) (by omega) rfl (Nat.le_of_ble_eq_true rfl) (by decide) (Nat.le_trans nf_le (by decide)) ?_
  refine tu_aload_n 37 X 1 dX0_takeOver_37 rfl ?_
  refine tu_getR 38 X dX0_takeOver_38 fl_RX0_22 (by decide) rfl rfl ?_
  refine tu_iconst 41 X dX0_takeOver_41 ?_
  refine tu_aload_n 42 X 0 dX0_takeOver_42 rfl ?_
  refine tu_getR 43 X dX0_takeOver_43 fl_RX0_22 (by decide) rfl rfl ?_
  refine tu_iconst 46 X dX0_takeOver_46 ?_
  refine tu_sipush 47 X dX0_takeOver_47 (by decide) ?_
  refine tu_copy 50 X (M' := tu_row (tu_row (tu_row (tu_row M 54 (tu_u (M 54) 1 (M 1 1))) 55 (va_cpy (M 2) (M 55) 0 0 4)) 56 (va_cpy (M 3) (M 56) 0 0 16)) 57 (va_cpy (M 4) (M 57) 0 0 256)) 0 0 256 ac_RX0 dX0_takeOver_50 (by decide) (by decide) rfl rfl (by decide) (by decide) rfl rfl rfl (by omega) (by omega) rfl (Nat.le_of_ble_eq_true rfl) (by decide) (Nat.le_trans nf_le (by decide)) ?_
  refine tu_aload_n 53 X 0 dX0_takeOver_53 rfl ?_
  refine tu_aload_n 54 X 1 dX0_takeOver_54 rfl ?_
  refine tu_getI 55 X (x := M 1 4) dX0_takeOver_55 fl_RX0_25 (by decide) rfl rfl rfl ?_
  refine tu_putI 58 X (M' := tu_row (tu_row (tu_row (tu_row M 54 (tu_u (tu_u (M 54) 1 (M 1 1)) 4 (M 1 4))) 55 (va_cpy (M 2) (M 55) 0 0 4)) 56 (va_cpy (M 3) (M 56) 0 0 16)) 57 (va_cpy (M 4) (M 57) 0 0 256)) dX0_takeOver_58 fp_RX0_25 (by decide) rfl rfl ((tu_rc (tu_row (tu_row (tu_row M 54 (tu_u (M 54) 1 (M 1 1))) 55 (va_cpy (M 2) (M 55) 0 0 4)) 56 (va_cpy (M 3) (M 56) 0 0 16)) (va_cpy (M 4) (M 57) 0 0 256) (tu_u (tu_u (M 54) 1 (M 1 1)) 4 (M 1 4)) rfl).trans (congrArg (fun m => tu_row m 57 (va_cpy (M 4) (M 57) 0 0 256)) ((tu_rc (tu_row (tu_row M 54 (tu_u (M 54) 1 (M 1 1))) 55 (va_cpy (M 2) (M 55) 0 0 4)) (va_cpy (M 3) (M 56) 0 0 16) (tu_u (tu_u (M 54) 1 (M 1 1)) 4 (M 1 4)) rfl).trans (congrArg (fun m => tu_row m 56 (va_cpy (M 3) (M 56) 0 0 16)) ((tu_rc (tu_row M 54 (tu_u (M 54) 1 (M 1 1))) (va_cpy (M 2) (M 55) 0 0 4) (tu_u (tu_u (M 54) 1 (M 1 1)) 4 (M 1 4)) rfl).trans (congrArg (fun m => tu_row m 55 (va_cpy (M 2) (M 55) 0 0 4)) (tu_rr M 54 (tu_u (M 54) 1 (M 1 1)) (tu_u (tu_u (M 54) 1 (M 1 1)) 4 (M 1 4))))))))) ?_
  refine tu_aload_n 61 X 1 dX0_takeOver_61 rfl ?_
  refine tu_getR 62 X dX0_takeOver_62 fl_RX0_28 (by decide) rfl rfl ?_
  refine tu_iconst 65 X dX0_takeOver_65 ?_
  refine tu_aload_n 66 X 0 dX0_takeOver_66 rfl ?_
  refine tu_getR 67 X dX0_takeOver_67 fl_RX0_28 (by decide) rfl rfl ?_
  refine tu_iconst 70 X dX0_takeOver_70 ?_
  refine tu_bipush 71 X dX0_takeOver_71 (by decide) ?_
  refine tu_copy 73 X (M' := tu_row (tu_row (tu_row (tu_row (tu_row M 54 (tu_u (tu_u (M 54) 1 (M 1 1)) 4 (M 1 4))) 55 (va_cpy (M 2) (M 55) 0 0 4)) 56 (va_cpy (M 3) (M 56) 0 0 16)) 57 (va_cpy (M 4) (M 57) 0 0 256)) 58 (va_cpy (M 5) (M 58) 0 0 8)) 0 0 8 ac_RX0 dX0_takeOver_73 (by decide) (by decide) rfl rfl (by decide) (by decide) rfl rfl rfl (by omega) (by omega) rfl (Nat.le_of_ble_eq_true rfl) (by decide) (Nat.le_trans nf_le (by decide)) ?_
  refine tu_aload_n 76 X 1 dX0_takeOver_76 rfl ?_
  refine tu_getR 77 X dX0_takeOver_77 fl_RX0_31 (by decide) rfl rfl ?_
  refine tu_iconst 80 X dX0_takeOver_80 ?_
  refine tu_aload_n 81 X 0 dX0_takeOver_81 rfl ?_
  refine tu_getR 82 X dX0_takeOver_82 fl_RX0_31 (by decide) rfl rfl ?_
  refine tu_iconst 85 X dX0_takeOver_85 ?_
  refine tu_sipush 86 X dX0_takeOver_86 (by decide) ?_
  refine tu_copy 89 X (M' := tu_row (tu_row (tu_row (tu_row (tu_row (tu_row M 54 (tu_u (tu_u (M 54) 1 (M 1 1)) 4 (M 1 4))) 55 (va_cpy (M 2) (M 55) 0 0 4)) 56 (va_cpy (M 3) (M 56) 0 0 16)) 57 (va_cpy (M 4) (M 57) 0 0 256)) 58 (va_cpy (M 5) (M 58) 0 0 8)) 59 (va_cpy (M 6) (M 59) 0 0 192)) 0 0 192 ac_RX0 dX0_takeOver_89 (by decide) (by decide) rfl rfl (by decide) (by decide) rfl rfl rfl (by omega) (by omega) rfl (Nat.le_of_ble_eq_true rfl) (by decide) (Nat.le_trans nf_le (by decide)) ?_
  refine tu_aload_n 92 X 0 dX0_takeOver_92 rfl ?_
  refine tu_aload_n 93 X 1 dX0_takeOver_93 rfl ?_
  refine tu_getI 94 X (x := M 1 7) dX0_takeOver_94 fl_RX0_34 (by decide) rfl rfl rfl ?_
  refine tu_putI 97 X (M' := tu_row (tu_row (tu_row (tu_row (tu_row (tu_row M 54 (tu_u (tu_u (tu_u (M 54) 1 (M 1 1)) 4 (M 1 4)) 7 (M 1 7))) 55 (va_cpy (M 2) (M 55) 0 0 4)) 56 (va_cpy (M 3) (M 56) 0 0 16)) 57 (va_cpy (M 4) (M 57) 0 0 256)) 58 (va_cpy (M 5) (M 58) 0 0 8)) 59 (va_cpy (M 6) (M 59) 0 0 192)) dX0_takeOver_97 fp_RX0_34 (by decide) rfl rfl ((tu_rc (tu_row (tu_row (tu_row (tu_row (tu_row M 54 (tu_u (tu_u (M 54) 1 (M 1 1)) 4 (M 1 4))) 55 (va_cpy (M 2) (M 55) 0 0 4)) 56 (va_cpy (M 3) (M 56) 0 0 16)) 57 (va_cpy (M 4) (M 57) 0 0 256)) 58 (va_cpy (M 5) (M 58) 0 0 8)) (va_cpy (M 6) (M 59) 0 0 192) (tu_u (tu_u (tu_u (M 54) 1 (M 1 1)) 4 (M 1 4)) 7 (M 1 7)) rfl).trans (congrArg (fun m => tu_row m 59 (va_cpy (M 6) (M 59) 0 0 192)) ((tu_rc (tu_row (tu_row (tu_row (tu_row M 54 (tu_u (tu_u (M 54) 1 (M 1 1)) 4 (M 1 4))) 55 (va_cpy (M 2) (M 55) 0 0 4)) 56 (va_cpy (M 3) (M 56) 0 0 16)) 57 (va_cpy (M 4) (M 57) 0 0 256)) (va_cpy (M 5) (M 58) 0 0 8) (tu_u (tu_u (tu_u (M 54) 1 (M 1 1)) 4 (M 1 4)) 7 (M 1 7)) rfl).trans (congrArg (fun m => tu_row m 58 (va_cpy (M 5) (M 58) 0 0 8)) ((tu_rc (tu_row (tu_row (tu_row M 54 (tu_u (tu_u (M 54) 1 (M 1 1)) 4 (M 1 4))) 55 (va_cpy (M 2) (M 55) 0 0 4)) 56 (va_cpy (M 3) (M 56) 0 0 16)) (va_cpy (M 4) (M 57) 0 0 256) (tu_u (tu_u (tu_u (M 54) 1 (M 1 1)) 4 (M 1 4)) 7 (M 1 7)) rfl).trans (congrArg (fun m => tu_row m 57 (va_cpy (M 4) (M 57) 0 0 256)) ((tu_rc (tu_row (tu_row M 54 (tu_u (tu_u (M 54) 1 (M 1 1)) 4 (M 1 4))) 55 (va_cpy (M 2) (M 55) 0 0 4)) (va_cpy (M 3) (M 56) 0 0 16) (tu_u (tu_u (tu_u (M 54) 1 (M 1 1)) 4 (M 1 4)) 7 (M 1 7)) rfl).trans (congrArg (fun m => tu_row m 56 (va_cpy (M 3) (M 56) 0 0 16)) ((tu_rc (tu_row M 54 (tu_u (tu_u (M 54) 1 (M 1 1)) 4 (M 1 4))) (va_cpy (M 2) (M 55) 0 0 4) (tu_u (tu_u (tu_u (M 54) 1 (M 1 1)) 4 (M 1 4)) 7 (M 1 7)) rfl).trans (congrArg (fun m => tu_row m 55 (va_cpy (M 2) (M 55) 0 0 4)) (tu_rr M 54 (tu_u (tu_u (M 54) 1 (M 1 1)) 4 (M 1 4)) (tu_u (tu_u (tu_u (M 54) 1 (M 1 1)) 4 (M 1 4)) 7 (M 1 7))))))))))))) ?_
  refine tu_aload_n 100 X 1 dX0_takeOver_100 rfl ?_
  refine tu_getR 101 X dX0_takeOver_101 fl_RX0_37 (by decide) rfl rfl ?_
  refine tu_iconst 104 X dX0_takeOver_104 ?_
  refine tu_aload_n 105 X 0 dX0_takeOver_105 rfl ?_
  refine tu_getR 106 X dX0_takeOver_106 fl_RX0_37 (by decide) rfl rfl ?_
  refine tu_iconst 109 X dX0_takeOver_109 ?_
  refine tu_bipush 110 X dX0_takeOver_110 (by decide) ?_
  refine tu_copy 112 X (M' := tu_row (tu_row (tu_row (tu_row (tu_row (tu_row (tu_row M 54 (tu_u (tu_u (tu_u (M 54) 1 (M 1 1)) 4 (M 1 4)) 7 (M 1 7))) 55 (va_cpy (M 2) (M 55) 0 0 4)) 56 (va_cpy (M 3) (M 56) 0 0 16)) 57 (va_cpy (M 4) (M 57) 0 0 256)) 58 (va_cpy (M 5) (M 58) 0 0 8)) 59 (va_cpy (M 6) (M 59) 0 0 192)) 60 (va_cpy (M 7) (M 60) 0 0 40)) 0 0 40 ac_RX0 dX0_takeOver_112 (by decide) (by decide) rfl rfl (by decide) (by decide) rfl rfl rfl (by omega) (by omega) rfl (Nat.le_of_ble_eq_true rfl) (by decide) (Nat.le_trans nf_le (by decide)) ?_
  refine tu_aload_n 115 X 0 dX0_takeOver_115 rfl ?_
  refine tu_aload_n 116 X 1 dX0_takeOver_116 rfl ?_
  refine tu_getI 117 X (x := M 1 9) dX0_takeOver_117 fl_RX0_40 (by decide) rfl rfl rfl ?_
  refine tu_putI 120 X (M' := tu_row (tu_row (tu_row (tu_row (tu_row (tu_row (tu_row M 54 (tu_u (tu_u (tu_u (tu_u (M 54) 1 (M 1 1)) 4 (M 1 4)) 7 (M 1 7)) 9 (M 1 9))) 55 (va_cpy (M 2) (M 55) 0 0 4)) 56 (va_cpy (M 3) (M 56) 0 0 16)) 57 (va_cpy (M 4) (M 57) 0 0 256)) 58 (va_cpy (M 5) (M 58) 0 0 8)) 59 (va_cpy (M 6) (M 59) 0 0 192)) 60 (va_cpy (M 7) (M 60) 0 0 40)) dX0_takeOver_120 fp_RX0_40 (by decide) rfl rfl ((tu_rc (tu_row (tu_row (tu_row (tu_row (tu_row (tu_row M 54 (tu_u (tu_u (tu_u (M 54) 1 (M 1 1)) 4 (M 1 4)) 7 (M 1 7))) 55 (va_cpy (M 2) (M 55) 0 0 4)) 56 (va_cpy (M 3) (M 56) 0 0 16)) 57 (va_cpy (M 4) (M 57) 0 0 256)) 58 (va_cpy (M 5) (M 58) 0 0 8)) 59 (va_cpy (M 6) (M 59) 0 0 192)) (va_cpy (M 7) (M 60) 0 0 40) (tu_u (tu_u (tu_u (tu_u (M 54) 1 (M 1 1)) 4 (M 1 4)) 7 (M 1 7)) 9 (M 1 9)) rfl).trans (congrArg (fun m => tu_row m 60 (va_cpy (M 7) (M 60) 0 0 40)) ((tu_rc (tu_row (tu_row (tu_row (tu_row (tu_row M 54 (tu_u (tu_u (tu_u (M 54) 1 (M 1 1)) 4 (M 1 4)) 7 (M 1 7))) 55 (va_cpy (M 2) (M 55) 0 0 4)) 56 (va_cpy (M 3) (M 56) 0 0 16)) 57 (va_cpy (M 4) (M 57) 0 0 256)) 58 (va_cpy (M 5) (M 58) 0 0 8)) (va_cpy (M 6) (M 59) 0 0 192) (tu_u (tu_u (tu_u (tu_u (M 54) 1 (M 1 1)) 4 (M 1 4)) 7 (M 1 7)) 9 (M 1 9)) rfl).trans (congrArg (fun m => tu_row m 59 (va_cpy (M 6) (M 59) 0 0 192)) ((tu_rc (tu_row (tu_row (tu_row (tu_row M 54 (tu_u (tu_u (tu_u (M 54) 1 (M 1 1)) 4 (M 1 4)) 7 (M 1 7))) 55 (va_cpy (M 2) (M 55) 0 0 4)) 56 (va_cpy (M 3) (M 56) 0 0 16)) 57 (va_cpy (M 4) (M 57) 0 0 256)) (va_cpy (M 5) (M 58) 0 0 8) (tu_u (tu_u (tu_u (tu_u (M 54) 1 (M 1 1)) 4 (M 1 4)) 7 (M 1 7)) 9 (M 1 9)) rfl).trans (congrArg (fun m => tu_row m 58 (va_cpy (M 5) (M 58) 0 0 8)) ((tu_rc (tu_row (tu_row (tu_row M 54 (tu_u (tu_u (tu_u (M 54) 1 (M 1 1)) 4 (M 1 4)) 7 (M 1 7))) 55 (va_cpy (M 2) (M 55) 0 0 4)) 56 (va_cpy (M 3) (M 56) 0 0 16)) (va_cpy (M 4) (M 57) 0 0 256) (tu_u (tu_u (tu_u (tu_u (M 54) 1 (M 1 1)) 4 (M 1 4)) 7 (M 1 7)) 9 (M 1 9)) rfl).trans (congrArg (fun m => tu_row m 57 (va_cpy (M 4) (M 57) 0 0 256)) ((tu_rc (tu_row (tu_row M 54 (tu_u (tu_u (tu_u (M 54) 1 (M 1 1)) 4 (M 1 4)) 7 (M 1 7))) 55 (va_cpy (M 2) (M 55) 0 0 4)) (va_cpy (M 3) (M 56) 0 0 16) (tu_u (tu_u (tu_u (tu_u (M 54) 1 (M 1 1)) 4 (M 1 4)) 7 (M 1 7)) 9 (M 1 9)) rfl).trans (congrArg (fun m => tu_row m 56 (va_cpy (M 3) (M 56) 0 0 16)) ((tu_rc (tu_row M 54 (tu_u (tu_u (tu_u (M 54) 1 (M 1 1)) 4 (M 1 4)) 7 (M 1 7))) (va_cpy (M 2) (M 55) 0 0 4) (tu_u (tu_u (tu_u (tu_u (M 54) 1 (M 1 1)) 4 (M 1 4)) 7 (M 1 7)) 9 (M 1 9)) rfl).trans (congrArg (fun m => tu_row m 55 (va_cpy (M 2) (M 55) 0 0 4)) (tu_rr M 54 (tu_u (tu_u (tu_u (M 54) 1 (M 1 1)) 4 (M 1 4)) 7 (M 1 7)) (tu_u (tu_u (tu_u (tu_u (M 54) 1 (M 1 1)) 4 (M 1 4)) 7 (M 1 7)) 9 (M 1 9))))))))))))))) ?_
  refine tu_aload_n 123 X 1 dX0_takeOver_123 rfl ?_
  refine tu_getR 124 X dX0_takeOver_124 fl_RX0_43 (by decide) rfl rfl ?_
  refine tu_iconst 127 X dX0_takeOver_127 ?_
  refine tu_aload_n 128 X 0 dX0_takeOver_128 rfl ?_
  refine tu_getR 129 X dX0_takeOver_129 fl_RX0_43 (by decide) rfl rfl ?_
  refine tu_iconst 132 X dX0_takeOver_132 ?_
  refine tu_bipush 133 X dX0_takeOver_133 (by decide) ?_
  refine tu_copy 135 X (M' := tu_row (tu_row (tu_row (tu_row (tu_row (tu_row (tu_row (tu_row M 54 (tu_u (tu_u (tu_u (tu_u (M 54) 1 (M 1 1)) 4 (M 1 4)) 7 (M 1 7)) 9 (M 1 9))) 55 (va_cpy (M 2) (M 55) 0 0 4)) 56 (va_cpy (M 3) (M 56) 0 0 16)) 57 (va_cpy (M 4) (M 57) 0 0 256)) 58 (va_cpy (M 5) (M 58) 0 0 8)) 59 (va_cpy (M 6) (M 59) 0 0 192)) 60 (va_cpy (M 7) (M 60) 0 0 40)) 61 (va_cpy (M 8) (M 61) 0 0 8)) 0 0 8 ac_RX0 dX0_takeOver_135 (by decide) (by decide) rfl rfl (by decide) (by decide) rfl rfl rfl (by omega) (by omega) rfl (Nat.le_of_ble_eq_true rfl) (by decide) (Nat.le_trans nf_le (by decide)) ?_
  refine tu_ext (N := tu_tk M 54 1) ?_ (hret 138 _ _ dX0_takeOver_138 rfl)
  refine tu_tk_q (Or.inr ⟨4, by decide, rfl⟩) (fun i hi => by rw [tu_row_n _ _ (by omega), tu_row_n _ _ (by omega), tu_row_n _ _ (by omega), tu_row_n _ _ (by omega), tu_row_n _ _ (by omega), tu_row_n _ _ (by omega), tu_row_n _ _ (by omega), tu_row_n _ _ (by omega)]) (fun j hj => tu_cp hj) (fun j hj => tu_cp hj) (fun j hj => tu_cp hj) (fun j hj => tu_cp hj) (fun j hj => tu_cp hj) (fun j hj => tu_cp hj) (fun j hj => tu_cp hj) rfl rfl rfl rfl
set_option maxRecDepth 20000 in
set_option maxHeartbeats 4000000 in
theorem c_X0_takeOver_1_54 {M : tu_M}   : tu_MV tu_Y_X0_takeOver [tu_r 1, tu_r 54] M (fun M' => M' = tu_tk M 1 54) := by
  refine tu_MV.of (by decide) rfl (Nat.le_of_ble_eq_true rfl) (fun T (X : tu_X T cX0_takeOver RX0 1 40) hnl hret => ?_)
  have hret : tu_RV T cX0_takeOver (fun M' => M' = tu_tk M 1 54) := hret
  have hnl : T.2.2.2.2.2.2.2.2.2.2.1 = 2 := hnl
  show tu_W T 0 [(0, tu_r 1), (1, tu_r 54)] [] M
  refine tu_aload_n 0 X 1 dX0_takeOver_0 rfl ?_
  refine tu_getR 1 X dX0_takeOver_1 fl_RX0_9 (by decide) rfl rfl ?_
  refine tu_iconst 4 X dX0_takeOver_4 ?_
  refine tu_aload_n 5 X 0 dX0_takeOver_5 rfl ?_
  refine tu_getR 6 X dX0_takeOver_6 fl_RX0_9 (by decide) rfl rfl ?_
  refine tu_iconst 9 X dX0_takeOver_9 ?_
  refine tu_iconst 10 X dX0_takeOver_10 ?_
  refine tu_copy 11 X (M' := tu_row M 2 (va_cpy (M 55) (M 2) 0 0 4)) 0 0 4 ac_RX0 dX0_takeOver_11 (by decide) (by decide) rfl rfl (by decide) (by decide) rfl rfl rfl (by omega) (by omega) rfl (Nat.le_of_ble_eq_true rfl) (by decide) (Nat.le_trans nf_le (by decide)) ?_
  refine tu_aload_n 14 X 0 dX0_takeOver_14 rfl ?_
  refine tu_aload_n 15 X 1 dX0_takeOver_15 rfl ?_
  refine tu_getI 16 X (x := M 54 1) dX0_takeOver_16 fl_RX0_15 (by decide) rfl rfl rfl ?_
  refine tu_putI 19 X (M' := tu_row (tu_row M 1 (tu_u (M 1) 1 (M 54 1))) 2 (va_cpy (M 55) (M 2) 0 0 4)) dX0_takeOver_19 fp_RX0_15 (by decide) rfl rfl (tu_rc M (va_cpy (M 55) (M 2) 0 0 4) (tu_u (M 1) 1 (M 54 1)) rfl) ?_
  refine tu_aload_n 22 X 1 dX0_takeOver_22 rfl ?_
  refine tu_getR 23 X dX0_takeOver_23 fl_RX0_19 (by decide) rfl rfl ?_
  refine tu_iconst 26 X dX0_takeOver_26 ?_
  refine tu_aload_n 27 X 0 dX0_takeOver_27 rfl ?_
  refine tu_getR 28 X dX0_takeOver_28 fl_RX0_19 (by decide) rfl rfl ?_
  refine tu_iconst 31 X dX0_takeOver_31 ?_
  refine tu_bipush 32 X dX0_takeOver_32 (by decide) ?_
  refine tu_copy 34 X (M' := tu_row (tu_row (tu_row M 1 (tu_u (M 1) 1 (M 54 1))) 2 (va_cpy (M 55) (M 2) 0 0 4)) 3 (va_cpy (M 56) (M 3) 0 0 16)) 0 0 16 ac_RX0 dX0_takeOver_34 (by decide) (by decide) rfl rfl (by decide) (by decide) rfl rfl rfl (by omega) (by omega) rfl (Nat.le_of_ble_eq_true rfl) (by decide) (Nat.le_trans nf_le (by decide)) ?_
  refine tu_aload_n 37 X 1 dX0_takeOver_37 rfl ?_
  refine tu_getR 38 X dX0_takeOver_38 fl_RX0_22 (by decide) rfl rfl ?_
  refine tu_iconst 41 X dX0_takeOver_41 ?_
  refine tu_aload_n 42 X 0 dX0_takeOver_42 rfl ?_
  refine tu_getR 43 X dX0_takeOver_43 fl_RX0_22 (by decide) rfl rfl ?_
  refine tu_iconst 46 X dX0_takeOver_46 ?_
  refine tu_sipush 47 X dX0_takeOver_47 (by decide) ?_
  refine tu_copy 50 X (M' := tu_row (tu_row (tu_row (tu_row M 1 (tu_u (M 1) 1 (M 54 1))) 2 (va_cpy (M 55) (M 2) 0 0 4)) 3 (va_cpy (M 56) (M 3) 0 0 16)) 4 (va_cpy (M 57) (M 4) 0 0 256)) 0 0 256 ac_RX0 dX0_takeOver_50 (by decide) (by decide) rfl rfl (by decide) (by decide) rfl rfl rfl (by omega) (by omega) rfl (Nat.le_of_ble_eq_true rfl) (by decide) (Nat.le_trans nf_le (by decide)) ?_
  refine tu_aload_n 53 X 0 dX0_takeOver_53 rfl ?_
  refine tu_aload_n 54 X 1 dX0_takeOver_54 rfl ?_
  refine tu_getI 55 X (x := M 54 4) dX0_takeOver_55 fl_RX0_25 (by decide) rfl rfl rfl ?_
  refine tu_putI 58 X (M' := tu_row (tu_row (tu_row (tu_row M 1 (tu_u (tu_u (M 1) 1 (M 54 1)) 4 (M 54 4))) 2 (va_cpy (M 55) (M 2) 0 0 4)) 3 (va_cpy (M 56) (M 3) 0 0 16)) 4 (va_cpy (M 57) (M 4) 0 0 256)) dX0_takeOver_58 fp_RX0_25 (by decide) rfl rfl ((tu_rc (tu_row (tu_row (tu_row M 1 (tu_u (M 1) 1 (M 54 1))) 2 (va_cpy (M 55) (M 2) 0 0 4)) 3 (va_cpy (M 56) (M 3) 0 0 16)) (va_cpy (M 57) (M 4) 0 0 256) (tu_u (tu_u (M 1) 1 (M 54 1)) 4 (M 54 4)) rfl).trans (congrArg (fun m => tu_row m 4 (va_cpy (M 57) (M 4) 0 0 256)) ((tu_rc (tu_row (tu_row M 1 (tu_u (M 1) 1 (M 54 1))) 2 (va_cpy (M 55) (M 2) 0 0 4)) (va_cpy (M 56) (M 3) 0 0 16) (tu_u (tu_u (M 1) 1 (M 54 1)) 4 (M 54 4)) rfl).trans (congrArg (fun m => tu_row m 3 (va_cpy (M 56) (M 3) 0 0 16)) ((tu_rc (tu_row M 1 (tu_u (M 1) 1 (M 54 1))) (va_cpy (M 55) (M 2) 0 0 4) (tu_u (tu_u (M 1) 1 (M 54 1)) 4 (M 54 4)) rfl).trans (congrArg (fun m => tu_row m 2 (va_cpy (M 55) (M 2) 0 0 4)) (tu_rr M 1 (tu_u (M 1) 1 (M 54 1)) (tu_u (tu_u (M 1) 1 (M 54 1)) 4 (M 54 4))))))))) ?_
  refine tu_aload_n 61 X 1 dX0_takeOver_61 rfl ?_
  refine tu_getR 62 X dX0_takeOver_62 fl_RX0_28 (by decide) rfl rfl ?_
  refine tu_iconst 65 X dX0_takeOver_65 ?_
  refine tu_aload_n 66 X 0 dX0_takeOver_66 rfl ?_
  refine tu_getR 67 X dX0_takeOver_67 fl_RX0_28 (by decide) rfl rfl ?_
  refine tu_iconst 70 X dX0_takeOver_70 ?_
  refine tu_bipush 71 X dX0_takeOver_71 (by decide) ?_
  refine tu_copy 73 X (M' := tu_row (tu_row (tu_row (tu_row (tu_row M 1 (tu_u (tu_u (M 1) 1 (M 54 1)) 4 (M 54 4))) 2 (va_cpy (M 55) (M 2) 0 0 4)) 3 (va_cpy (M 56) (M 3) 0 0 16)) 4 (va_cpy (M 57) (M 4) 0 0 256)) 5 (va_cpy (M 58) (M 5) 0 0 8)) 0 0 8 ac_RX0 dX0_takeOver_73 (by decide) (by decide) rfl rfl (by decide) (by decide) rfl rfl rfl (by omega) (by omega) rfl (Nat.le_of_ble_eq_true rfl) (by decide) (Nat.le_trans nf_le (by decide)) ?_
  refine tu_aload_n 76 X 1 dX0_takeOver_76 rfl ?_
  refine tu_getR 77 X dX0_takeOver_77 fl_RX0_31 (by decide) rfl rfl ?_
  refine tu_iconst 80 X dX0_takeOver_80 ?_
  refine tu_aload_n 81 X 0 dX0_takeOver_81 rfl ?_
  refine tu_getR 82 X dX0_takeOver_82 fl_RX0_31 (by decide) rfl rfl ?_
  refine tu_iconst 85 X dX0_takeOver_85 ?_
  refine tu_sipush 86 X dX0_takeOver_86 (by decide) ?_
  refine tu_copy 89 X (M' := tu_row (tu_row (tu_row (tu_row (tu_row (tu_row M 1 (tu_u (tu_u (M 1) 1 (M 54 1)) 4 (M 54 4))) 2 (va_cpy (M 55) (M 2) 0 0 4)) 3 (va_cpy (M 56) (M 3) 0 0 16)) 4 (va_cpy (M 57) (M 4) 0 0 256)) 5 (va_cpy (M 58) (M 5) 0 0 8)) 6 (va_cpy (M 59) (M 6) 0 0 192)) 0 0 192 ac_RX0 dX0_takeOver_89 (by decide) (by decide) rfl rfl (by decide) (by decide) rfl rfl rfl (by omega) (by omega) rfl (Nat.le_of_ble_eq_true rfl) (by decide) (Nat.le_trans nf_le (by decide)) ?_
  refine tu_aload_n 92 X 0 dX0_takeOver_92 rfl ?_
  refine tu_aload_n 93 X 1 dX0_takeOver_93 rfl ?_
  refine tu_getI 94 X (x := M 54 7) dX0_takeOver_94 fl_RX0_34 (by decide) rfl rfl rfl ?_
  refine tu_putI 97 X (M' := tu_row (tu_row (tu_row (tu_row (tu_row (tu_row M 1 (tu_u (tu_u (tu_u (M 1) 1 (M 54 1)) 4 (M 54 4)) 7 (M 54 7))) 2 (va_cpy (M 55) (M 2) 0 0 4)) 3 (va_cpy (M 56) (M 3) 0 0 16)) 4 (va_cpy (M 57) (M 4) 0 0 256)) 5 (va_cpy (M 58) (M 5) 0 0 8)) 6 (va_cpy (M 59) (M 6) 0 0 192)) dX0_takeOver_97 fp_RX0_34 (by decide) rfl rfl ((tu_rc (tu_row (tu_row (tu_row (tu_row (tu_row M 1 (tu_u (tu_u (M 1) 1 (M 54 1)) 4 (M 54 4))) 2 (va_cpy (M 55) (M 2) 0 0 4)) 3 (va_cpy (M 56) (M 3) 0 0 16)) 4 (va_cpy (M 57) (M 4) 0 0 256)) 5 (va_cpy (M 58) (M 5) 0 0 8)) (va_cpy (M 59) (M 6) 0 0 192) (tu_u (tu_u (tu_u (M 1) 1 (M 54 1)) 4 (M 54 4)) 7 (M 54 7)) rfl).trans (congrArg (fun m => tu_row m 6 (va_cpy (M 59) (M 6) 0 0 192)) ((tu_rc (tu_row (tu_row (tu_row (tu_row M 1 (tu_u (tu_u (M 1) 1 (M 54 1)) 4 (M 54 4))) 2 (va_cpy (M 55) (M 2) 0 0 4)) 3 (va_cpy (M 56) (M 3) 0 0 16)) 4 (va_cpy (M 57) (M 4) 0 0 256)) (va_cpy (M 58) (M 5) 0 0 8) (tu_u (tu_u (tu_u (M 1) 1 (M 54 1)) 4 (M 54 4)) 7 (M 54 7)) rfl).trans (congrArg (fun m => tu_row m 5 (va_cpy (M 58) (M 5) 0 0 8)) ((tu_rc (tu_row (tu_row (tu_row M 1 (tu_u (tu_u (M 1) 1 (M 54 1)) 4 (M 54 4))) 2 (va_cpy (M 55) (M 2) 0 0 4)) 3 (va_cpy (M 56) (M 3) 0 0 16)) (va_cpy (M 57) (M 4) 0 0 256) (tu_u (tu_u (tu_u (M 1) 1 (M 54 1)) 4 (M 54 4)) 7 (M 54 7)) rfl).trans (congrArg (fun m => tu_row m 4 (va_cpy (M 57) (M 4) 0 0 256)) ((tu_rc (tu_row (tu_row M 1 (tu_u (tu_u (M 1) 1 (M 54 1)) 4 (M 54 4))) 2 (va_cpy (M 55) (M 2) 0 0 4)) (va_cpy (M 56) (M 3) 0 0 16) (tu_u (tu_u (tu_u (M 1) 1 (M 54 1)) 4 (M 54 4)) 7 (M 54 7)) rfl).trans (congrArg (fun m => tu_row m 3 (va_cpy (M 56) (M 3) 0 0 16)) ((tu_rc (tu_row M 1 (tu_u (tu_u (M 1) 1 (M 54 1)) 4 (M 54 4))) (va_cpy (M 55) (M 2) 0 0 4) (tu_u (tu_u (tu_u (M 1) 1 (M 54 1)) 4 (M 54 4)) 7 (M 54 7)) rfl).trans (congrArg (fun m => tu_row m 2 (va_cpy (M 55) (M 2) 0 0 4)) (tu_rr M 1 (tu_u (tu_u (M 1) 1 (M 54 1)) 4 (M 54 4)) (tu_u (tu_u (tu_u (M 1) 1 (M 54 1)) 4 (M 54 4)) 7 (M 54 7))))))))))))) ?_
  refine tu_aload_n 100 X 1 dX0_takeOver_100 rfl ?_
  refine tu_getR 101 X dX0_takeOver_101 fl_RX0_37 (by decide) rfl rfl ?_
  refine tu_iconst 104 X dX0_takeOver_104 ?_
  refine tu_aload_n 105 X 0 dX0_takeOver_105 rfl ?_
  refine tu_getR 106 X dX0_takeOver_106 fl_RX0_37 (by decide) rfl rfl ?_
  refine tu_iconst 109 X dX0_takeOver_109 ?_
  refine tu_bipush 110 X dX0_takeOver_110 (by decide) ?_
  refine tu_copy 112 X (M' := tu_row (tu_row (tu_row (tu_row (tu_row (tu_row (tu_row M 1 (tu_u (tu_u (tu_u (M 1) 1 (M 54 1)) 4 (M 54 4)) 7 (M 54 7))) 2 (va_cpy (M 55) (M 2) 0 0 4)) 3 (va_cpy (M 56) (M 3) 0 0 16)) 4 (va_cpy (M 57) (M 4) 0 0 256)) 5 (va_cpy (M 58) (M 5) 0 0 8)) 6 (va_cpy (M 59) (M 6) 0 0 192)) 7 (va_cpy (M 60) (M 7) 0 0 40)) 0 0 40 ac_RX0 dX0_takeOver_112 (by decide) (by decide) rfl rfl (by decide) (by decide) rfl rfl rfl (by omega) (by omega) rfl (Nat.le_of_ble_eq_true rfl) (by decide) (Nat.le_trans nf_le (by decide)) ?_
  refine tu_aload_n 115 X 0 dX0_takeOver_115 rfl ?_
  refine tu_aload_n 116 X 1 dX0_takeOver_116 rfl ?_
  refine tu_getI 117 X (x := M 54 9) dX0_takeOver_117 fl_RX0_40 (by decide) rfl rfl rfl ?_
  refine tu_putI 120 X (M' := tu_row (tu_row (tu_row (tu_row (tu_row (tu_row (tu_row M 1 (tu_u (tu_u (tu_u (tu_u (M 1) 1 (M 54 1)) 4 (M 54 4)) 7 (M 54 7)) 9 (M 54 9))) 2 (va_cpy (M 55) (M 2) 0 0 4)) 3 (va_cpy (M 56) (M 3) 0 0 16)) 4 (va_cpy (M 57) (M 4) 0 0 256)) 5 (va_cpy (M 58) (M 5) 0 0 8)) 6 (va_cpy (M 59) (M 6) 0 0 192)) 7 (va_cpy (M 60) (M 7) 0 0 40)) dX0_takeOver_120 fp_RX0_40 (by decide) rfl rfl ((tu_rc (tu_row (tu_row (tu_row (tu_row (tu_row (tu_row M 1 (tu_u (tu_u (tu_u (M 1) 1 (M 54 1)) 4 (M 54 4)) 7 (M 54 7))) 2 (va_cpy (M 55) (M 2) 0 0 4)) 3 (va_cpy (M 56) (M 3) 0 0 16)) 4 (va_cpy (M 57) (M 4) 0 0 256)) 5 (va_cpy (M 58) (M 5) 0 0 8)) 6 (va_cpy (M 59) (M 6) 0 0 192)) (va_cpy (M 60) (M 7) 0 0 40) (tu_u (tu_u (tu_u (tu_u (M 1) 1 (M 54 1)) 4 (M 54 4)) 7 (M 54 7)) 9 (M 54 9)) rfl).trans (congrArg (fun m => tu_row m 7 (va_cpy (M 60) (M 7) 0 0 40)) ((tu_rc (tu_row (tu_row (tu_row (tu_row (tu_row M 1 (tu_u (tu_u (tu_u (M 1) 1 (M 54 1)) 4 (M 54 4)) 7 (M 54 7))) 2 (va_cpy (M 55) (M 2) 0 0 4)) 3 (va_cpy (M 56) (M 3) 0 0 16)) 4 (va_cpy (M 57) (M 4) 0 0 256)) 5 (va_cpy (M 58) (M 5) 0 0 8)) (va_cpy (M 59) (M 6) 0 0 192) (tu_u (tu_u (tu_u (tu_u (M 1) 1 (M 54 1)) 4 (M 54 4)) 7 (M 54 7)) 9 (M 54 9)) rfl).trans (congrArg (fun m => tu_row m 6 (va_cpy (M 59) (M 6) 0 0 192)) ((tu_rc (tu_row (tu_row (tu_row (tu_row M 1 (tu_u (tu_u (tu_u (M 1) 1 (M 54 1)) 4 (M 54 4)) 7 (M 54 7))) 2 (va_cpy (M 55) (M 2) 0 0 4)) 3 (va_cpy (M 56) (M 3) 0 0 16)) 4 (va_cpy (M 57) (M 4) 0 0 256)) (va_cpy (M 58) (M 5) 0 0 8) (tu_u (tu_u (tu_u (tu_u (M 1) 1 (M 54 1)) 4 (M 54 4)) 7 (M 54 7)) 9 (M 54 9)) rfl).trans (congrArg (fun m => tu_row m 5 (va_cpy (M 58) (M 5) 0 0 8)) ((tu_rc (tu_row (tu_row (tu_row M 1 (tu_u (tu_u (tu_u (M 1) 1 (M 54 1)) 4 (M 54 4)) 7 (M 54 7))) 2 (va_cpy (M 55) (M 2) 0 0 4)) 3 (va_cpy (M 56) (M 3) 0 0 16)) (va_cpy (M 57) (M 4) 0 0 256) (tu_u (tu_u (tu_u (tu_u (M 1) 1 (M 54 1)) 4 (M 54 4)) 7 (M 54 7)) 9 (M 54 9)) rfl).trans (congrArg (fun m => tu_row m 4 (va_cpy (M 57) (M 4) 0 0 256)) ((tu_rc (tu_row (tu_row M 1 (tu_u (tu_u (tu_u (M 1) 1 (M 54 1)) 4 (M 54 4)) 7 (M 54 7))) 2 (va_cpy (M 55) (M 2) 0 0 4)) (va_cpy (M 56) (M 3) 0 0 16) (tu_u (tu_u (tu_u (tu_u (M 1) 1 (M 54 1)) 4 (M 54 4)) 7 (M 54 7)) 9 (M 54 9)) rfl).trans (congrArg (fun m => tu_row m 3 (va_cpy (M 56) (M 3) 0 0 16)) ((tu_rc (tu_row M 1 (tu_u (tu_u (tu_u (M 1) 1 (M 54 1)) 4 (M 54 4)) 7 (M 54 7))) (va_cpy (M 55) (M 2) 0 0 4) (tu_u (tu_u (tu_u (tu_u (M 1) 1 (M 54 1)) 4 (M 54 4)) 7 (M 54 7)) 9 (M 54 9)) rfl).trans (congrArg (fun m => tu_row m 2 (va_cpy (M 55) (M 2) 0 0 4)) (tu_rr M 1 (tu_u (tu_u (tu_u (M 1) 1 (M 54 1)) 4 (M 54 4)) 7 (M 54 7)) (tu_u (tu_u (tu_u (tu_u (M 1) 1 (M 54 1)) 4 (M 54 4)) 7 (M 54 7)) 9 (M 54 9))))))))))))))) ?_
  refine tu_aload_n 123 X 1 dX0_takeOver_123 rfl ?_
  refine tu_getR 124 X dX0_takeOver_124 fl_RX0_43 (by decide) rfl rfl ?_
  refine tu_iconst 127 X dX0_takeOver_127 ?_
  refine tu_aload_n 128 X 0 dX0_takeOver_128 rfl ?_
  refine tu_getR 129 X dX0_takeOver_129 fl_RX0_43 (by decide) rfl rfl ?_
  refine tu_iconst 132 X dX0_takeOver_132 ?_
  refine tu_bipush 133 X dX0_takeOver_133 (by decide) ?_
  refine tu_copy 135 X (M' := tu_row (tu_row (tu_row (tu_row (tu_row (tu_row (tu_row (tu_row M 1 (tu_u (tu_u (tu_u (tu_u (M 1) 1 (M 54 1)) 4 (M 54 4)) 7 (M 54 7)) 9 (M 54 9))) 2 (va_cpy (M 55) (M 2) 0 0 4)) 3 (va_cpy (M 56) (M 3) 0 0 16)) 4 (va_cpy (M 57) (M 4) 0 0 256)) 5 (va_cpy (M 58) (M 5) 0 0 8)) 6 (va_cpy (M 59) (M 6) 0 0 192)) 7 (va_cpy (M 60) (M 7) 0 0 40)) 8 (va_cpy (M 61) (M 8) 0 0 8)) 0 0 8 ac_RX0 dX0_takeOver_135 (by decide) (by decide) rfl rfl (by decide) (by decide) rfl rfl rfl (by omega) (by omega) rfl (Nat.le_of_ble_eq_true rfl) (by decide) (Nat.le_trans nf_le (by decide)) ?_
  refine tu_ext (N := tu_tk M 1 54) ?_ (hret 138 _ _ dX0_takeOver_138 rfl)
  refine tu_tk_q (Or.inl rfl) (fun i hi => by rw [tu_row_n _ _ (by omega), tu_row_n _ _ (by omega), tu_row_n _ _ (by omega), tu_row_n _ _ (by omega), tu_row_n _ _ (by omega), tu_row_n _ _ (by omega), tu_row_n _ _ (by omega), tu_row_n _ _ (by omega)]) (fun j hj => tu_cp hj) (fun j hj => tu_cp hj) (fun j hj => tu_cp hj) (fun j hj => tu_cp hj) (fun j hj => tu_cp hj) (fun j hj => tu_cp hj) (fun j hj => tu_cp hj) rfl rfl rfl rfl
set_option maxRecDepth 20000 in
set_option maxHeartbeats 4000000 in
theorem c_X0_takeOver_62_1 {M : tu_M}   : tu_MV tu_Y_X0_takeOver [tu_r 62, tu_r 1] M (fun M' => M' = tu_tk M 62 1) := by
  refine tu_MV.of (by decide) rfl (Nat.le_of_ble_eq_true rfl) (fun T (X : tu_X T cX0_takeOver RX0 1 40) hnl hret => ?_)
  have hret : tu_RV T cX0_takeOver (fun M' => M' = tu_tk M 62 1) := hret
  have hnl : T.2.2.2.2.2.2.2.2.2.2.1 = 2 := hnl
  show tu_W T 0 [(0, tu_r 62), (1, tu_r 1)] [] M
  refine tu_aload_n 0 X 1 dX0_takeOver_0 rfl ?_
  refine tu_getR 1 X dX0_takeOver_1 fl_RX0_9 (by decide) rfl rfl ?_
  refine tu_iconst 4 X dX0_takeOver_4 ?_
  refine tu_aload_n 5 X 0 dX0_takeOver_5 rfl ?_
  refine tu_getR 6 X dX0_takeOver_6 fl_RX0_9 (by decide) rfl rfl ?_
  refine tu_iconst 9 X dX0_takeOver_9 ?_
  refine tu_iconst 10 X dX0_takeOver_10 ?_
  refine tu_copy 11 X (M' := tu_row M 63 (va_cpy (M 2) (M 63) 0 0 4)) 0 0 4 ac_RX0 dX0_takeOver_11 (by decide) (by decide) rfl rfl (by decide) (by decide) rfl rfl rfl (by omega) (by omega) rfl (Nat.le_of_ble_eq_true rfl) (by decide) (Nat.le_trans nf_le (by decide)) ?_
  refine tu_aload_n 14 X 0 dX0_takeOver_14 rfl ?_
  refine tu_aload_n 15 X 1 dX0_takeOver_15 rfl ?_
  refine tu_getI 16 X (x := M 1 1) dX0_takeOver_16 fl_RX0_15 (by decide) rfl rfl rfl ?_
  refine tu_putI 19 X (M' := tu_row (tu_row M 62 (tu_u (M 62) 1 (M 1 1))) 63 (va_cpy (M 2) (M 63) 0 0 4)) dX0_takeOver_19 fp_RX0_15 (by decide) rfl rfl (tu_rc M (va_cpy (M 2) (M 63) 0 0 4) (tu_u (M 62) 1 (M 1 1)) rfl) ?_
  refine tu_aload_n 22 X 1 dX0_takeOver_22 rfl ?_
  refine tu_getR 23 X dX0_takeOver_23 fl_RX0_19 (by decide) rfl rfl ?_
  refine tu_iconst 26 X dX0_takeOver_26 ?_
  refine tu_aload_n 27 X 0 dX0_takeOver_27 rfl ?_
  refine tu_getR 28 X dX0_takeOver_28 fl_RX0_19 (by decide) rfl rfl ?_
  refine tu_iconst 31 X dX0_takeOver_31 ?_
  refine tu_bipush 32 X dX0_takeOver_32 (by decide) ?_
  refine tu_copy 34 X (M' := tu_row (tu_row (tu_row M 62 (tu_u (M 62) 1 (M 1 1))) 63 (va_cpy (M 2) (M 63) 0 0 4)) 64 (va_cpy (M 3) (M 64) 0 0 16)) 0 0 16 ac_RX0 dX0_takeOver_34 (by decide) (by decide) rfl rfl (by decide) (by decide) rfl rfl rfl (by omega) (by omega) rfl (Nat.le_of_ble_eq_true rfl) (by decide) (Nat.le_trans nf_le (by decide)) ?_
  refine tu_aload_n 37 X 1 dX0_takeOver_37 rfl ?_
  refine tu_getR 38 X dX0_takeOver_38 fl_RX0_22 (by decide) rfl rfl ?_
  refine tu_iconst 41 X dX0_takeOver_41 ?_
  refine tu_aload_n 42 X 0 dX0_takeOver_42 rfl ?_
  refine tu_getR 43 X dX0_takeOver_43 fl_RX0_22 (by decide) rfl rfl ?_
  refine tu_iconst 46 X dX0_takeOver_46 ?_
  refine tu_sipush 47 X dX0_takeOver_47 (by decide) ?_
  refine tu_copy 50 X (M' := tu_row (tu_row (tu_row (tu_row M 62 (tu_u (M 62) 1 (M 1 1))) 63 (va_cpy (M 2) (M 63) 0 0 4)) 64 (va_cpy (M 3) (M 64) 0 0 16)) 65 (va_cpy (M 4) (M 65) 0 0 256)) 0 0 256 ac_RX0 dX0_takeOver_50 (by decide) (by decide) rfl rfl (by decide) (by decide) rfl rfl rfl (by omega) (by omega) rfl (Nat.le_of_ble_eq_true rfl) (by decide) (Nat.le_trans nf_le (by decide)) ?_
  refine tu_aload_n 53 X 0 dX0_takeOver_53 rfl ?_
  refine tu_aload_n 54 X 1 dX0_takeOver_54 rfl ?_
  refine tu_getI 55 X (x := M 1 4) dX0_takeOver_55 fl_RX0_25 (by decide) rfl rfl rfl ?_
  refine tu_putI 58 X (M' := tu_row (tu_row (tu_row (tu_row M 62 (tu_u (tu_u (M 62) 1 (M 1 1)) 4 (M 1 4))) 63 (va_cpy (M 2) (M 63) 0 0 4)) 64 (va_cpy (M 3) (M 64) 0 0 16)) 65 (va_cpy (M 4) (M 65) 0 0 256)) dX0_takeOver_58 fp_RX0_25 (by decide) rfl rfl ((tu_rc (tu_row (tu_row (tu_row M 62 (tu_u (M 62) 1 (M 1 1))) 63 (va_cpy (M 2) (M 63) 0 0 4)) 64 (va_cpy (M 3) (M 64) 0 0 16)) (va_cpy (M 4) (M 65) 0 0 256) (tu_u (tu_u (M 62) 1 (M 1 1)) 4 (M 1 4)) rfl).trans (congrArg (fun m => tu_row m 65 (va_cpy (M 4) (M 65) 0 0 256)) ((tu_rc (tu_row (tu_row M 62 (tu_u (M 62) 1 (M 1 1))) 63 (va_cpy (M 2) (M 63) 0 0 4)) (va_cpy (M 3) (M 64) 0 0 16) (tu_u (tu_u (M 62) 1 (M 1 1)) 4 (M 1 4)) rfl).trans (congrArg (fun m => tu_row m 64 (va_cpy (M 3) (M 64) 0 0 16)) ((tu_rc (tu_row M 62 (tu_u (M 62) 1 (M 1 1))) (va_cpy (M 2) (M 63) 0 0 4) (tu_u (tu_u (M 62) 1 (M 1 1)) 4 (M 1 4)) rfl).trans (congrArg (fun m => tu_row m 63 (va_cpy (M 2) (M 63) 0 0 4)) (tu_rr M 62 (tu_u (M 62) 1 (M 1 1)) (tu_u (tu_u (M 62) 1 (M 1 1)) 4 (M 1 4))))))))) ?_
  refine tu_aload_n 61 X 1 dX0_takeOver_61 rfl ?_
  refine tu_getR 62 X dX0_takeOver_62 fl_RX0_28 (by decide) rfl rfl ?_
  refine tu_iconst 65 X dX0_takeOver_65 ?_
  refine tu_aload_n 66 X 0 dX0_takeOver_66 rfl ?_
  refine tu_getR 67 X dX0_takeOver_67 fl_RX0_28 (by decide) rfl rfl ?_
  refine tu_iconst 70 X dX0_takeOver_70 ?_
  refine tu_bipush 71 X dX0_takeOver_71 (by decide) ?_
  refine tu_copy 73 X (M' := tu_row (tu_row (tu_row (tu_row (tu_row M 62 (tu_u (tu_u (M 62) 1 (M 1 1)) 4 (M 1 4))) 63 (va_cpy (M 2) (M 63) 0 0 4)) 64 (va_cpy (M 3) (M 64) 0 0 16)) 65 (va_cpy (M 4) (M 65) 0 0 256)) 66 (va_cpy (M 5) (M 66) 0 0 8)) 0 0 8 ac_RX0 dX0_takeOver_73 (by decide) (by decide) rfl rfl (by decide) (by decide) rfl rfl rfl (by omega) (by omega) rfl (Nat.le_of_ble_eq_true rfl) (by decide) (Nat.le_trans nf_le (by decide)) ?_
  refine tu_aload_n 76 X 1 dX0_takeOver_76 rfl ?_
  refine tu_getR 77 X dX0_takeOver_77 fl_RX0_31 (by decide) rfl rfl ?_
  refine tu_iconst 80 X dX0_takeOver_80 ?_
  refine tu_aload_n 81 X 0 dX0_takeOver_81 rfl ?_
  refine tu_getR 82 X dX0_takeOver_82 fl_RX0_31 (by decide) rfl rfl ?_
  refine tu_iconst 85 X dX0_takeOver_85 ?_
  refine tu_sipush 86 X dX0_takeOver_86 (by decide) ?_
  refine tu_copy 89 X (M' := tu_row (tu_row (tu_row (tu_row (tu_row (tu_row M 62 (tu_u (tu_u (M 62) 1 (M 1 1)) 4 (M 1 4))) 63 (va_cpy (M 2) (M 63) 0 0 4)) 64 (va_cpy (M 3) (M 64) 0 0 16)) 65 (va_cpy (M 4) (M 65) 0 0 256)) 66 (va_cpy (M 5) (M 66) 0 0 8)) 67 (va_cpy (M 6) (M 67) 0 0 192)) 0 0 192 ac_RX0 dX0_takeOver_89 (by decide) (by decide) rfl rfl (by decide) (by decide) rfl rfl rfl (by omega) (by omega) rfl (Nat.le_of_ble_eq_true rfl) (by decide) (Nat.le_trans nf_le (by decide)) ?_
  refine tu_aload_n 92 X 0 dX0_takeOver_92 rfl ?_
  refine tu_aload_n 93 X 1 dX0_takeOver_93 rfl ?_
  refine tu_getI 94 X (x := M 1 7) dX0_takeOver_94 fl_RX0_34 (by decide) rfl rfl rfl ?_
  refine tu_putI 97 X (M' := tu_row (tu_row (tu_row (tu_row (tu_row (tu_row M 62 (tu_u (tu_u (tu_u (M 62) 1 (M 1 1)) 4 (M 1 4)) 7 (M 1 7))) 63 (va_cpy (M 2) (M 63) 0 0 4)) 64 (va_cpy (M 3) (M 64) 0 0 16)) 65 (va_cpy (M 4) (M 65) 0 0 256)) 66 (va_cpy (M 5) (M 66) 0 0 8)) 67 (va_cpy (M 6) (M 67) 0 0 192)) dX0_takeOver_97 fp_RX0_34 (by decide) rfl rfl ((tu_rc (tu_row (tu_row (tu_row (tu_row (tu_row M 62 (tu_u (tu_u (M 62) 1 (M 1 1)) 4 (M 1 4))) 63 (va_cpy (M 2) (M 63) 0 0 4)) 64 (va_cpy (M 3) (M 64) 0 0 16)) 65 (va_cpy (M 4) (M 65) 0 0 256)) 66 (va_cpy (M 5) (M 66) 0 0 8)) (va_cpy (M 6) (M 67) 0 0 192) (tu_u (tu_u (tu_u (M 62) 1 (M 1 1)) 4 (M 1 4)) 7 (M 1 7)) rfl).trans (congrArg (fun m => tu_row m 67 (va_cpy (M 6) (M 67) 0 0 192)) ((tu_rc (tu_row (tu_row (tu_row (tu_row M 62 (tu_u (tu_u (M 62) 1 (M 1 1)) 4 (M 1 4))) 63 (va_cpy (M 2) (M 63) 0 0 4)) 64 (va_cpy (M 3) (M 64) 0 0 16)) 65 (va_cpy (M 4) (M 65) 0 0 256)) (va_cpy (M 5) (M 66) 0 0 8) (tu_u (tu_u (tu_u (M 62) 1 (M 1 1)) 4 (M 1 4)) 7 (M 1 7)) rfl).trans (congrArg (fun m => tu_row m 66 (va_cpy (M 5) (M 66) 0 0 8)) ((tu_rc (tu_row (tu_row (tu_row M 62 (tu_u (tu_u (M 62) 1 (M 1 1)) 4 (M 1 4))) 63 (va_cpy (M 2) (M 63) 0 0 4)) 64 (va_cpy (M 3) (M 64) 0 0 16)) (va_cpy (M 4) (M 65) 0 0 256) (tu_u (tu_u (tu_u (M 62) 1 (M 1 1)) 4 (M 1 4)) 7 (M 1 7)) rfl).trans (congrArg (fun m => tu_row m 65 (va_cpy (M 4) (M 65) 0 0 256)) ((tu_rc (tu_row (tu_row M 62 (tu_u (tu_u (M 62) 1 (M 1 1)) 4 (M 1 4))) 63 (va_cpy (M 2) (M 63) 0 0 4)) (va_cpy (M 3) (M 64) 0 0 16) (tu_u (tu_u (tu_u (M 62) 1 (M 1 1)) 4 (M 1 4)) 7 (M 1 7)) rfl).trans (congrArg (fun m => tu_row m 64 (va_cpy (M 3) (M 64) 0 0 16)) ((tu_rc (tu_row M 62 (tu_u (tu_u (M 62) 1 (M 1 1)) 4 (M 1 4))) (va_cpy (M 2) (M 63) 0 0 4) (tu_u (tu_u (tu_u (M 62) 1 (M 1 1)) 4 (M 1 4)) 7 (M 1 7)) rfl).trans (congrArg (fun m => tu_row m 63 (va_cpy (M 2) (M 63) 0 0 4)) (tu_rr M 62 (tu_u (tu_u (M 62) 1 (M 1 1)) 4 (M 1 4)) (tu_u (tu_u (tu_u (M 62) 1 (M 1 1)) 4 (M 1 4)) 7 (M 1 7))))))))))))) ?_
  refine tu_aload_n 100 X 1 dX0_takeOver_100 rfl ?_
  refine tu_getR 101 X dX0_takeOver_101 fl_RX0_37 (by decide) rfl rfl ?_
  refine tu_iconst 104 X dX0_takeOver_104 ?_
  refine tu_aload_n 105 X 0 dX0_takeOver_105 rfl ?_
  refine tu_getR 106 X dX0_takeOver_106 fl_RX0_37 (by decide) rfl rfl ?_
  refine tu_iconst 109 X dX0_takeOver_109 ?_
  refine tu_bipush 110 X dX0_takeOver_110 (by decide) ?_
  refine tu_copy 112 X (M' := tu_row (tu_row (tu_row (tu_row (tu_row (tu_row (tu_row M 62 (tu_u (tu_u (tu_u (M 62) 1 (M 1 1)) 4 (M 1 4)) 7 (M 1 7))) 63 (va_cpy (M 2) (M 63) 0 0 4)) 64 (va_cpy (M 3) (M 64) 0 0 16)) 65 (va_cpy (M 4) (M 65) 0 0 256)) 66 (va_cpy (M 5) (M 66) 0 0 8)) 67 (va_cpy (M 6) (M 67) 0 0 192)) 68 (va_cpy (M 7) (M 68) 0 0 40)) 0 0 40 ac_RX0 dX0_takeOver_112 (by decide) (by decide) rfl rfl (by decide) (by decide) rfl rfl rfl (by omega) (by omega) rfl (Nat.le_of_ble_eq_true rfl) (by decide) (Nat.le_trans nf_le (by decide)) ?_
  refine tu_aload_n 115 X 0 dX0_takeOver_115 rfl ?_
  refine tu_aload_n 116 X 1 dX0_takeOver_116 rfl ?_
  refine tu_getI 117 X (x := M 1 9) dX0_takeOver_117 fl_RX0_40 (by decide) rfl rfl rfl ?_
  refine tu_putI 120 X (M' := tu_row (tu_row (tu_row (tu_row (tu_row (tu_row (tu_row M 62 (tu_u (tu_u (tu_u (tu_u (M 62) 1 (M 1 1)) 4 (M 1 4)) 7 (M 1 7)) 9 (M 1 9))) 63 (va_cpy (M 2) (M 63) 0 0 4)) 64 (va_cpy (M 3) (M 64) 0 0 16)) 65 (va_cpy (M 4) (M 65) 0 0 256)) 66 (va_cpy (M 5) (M 66) 0 0 8)) 67 (va_cpy (M 6) (M 67) 0 0 192)) 68 (va_cpy (M 7) (M 68) 0 0 40)) dX0_takeOver_120 fp_RX0_40 (by decide) rfl rfl ((tu_rc (tu_row (tu_row (tu_row (tu_row (tu_row (tu_row M 62 (tu_u (tu_u (tu_u (M 62) 1 (M 1 1)) 4 (M 1 4)) 7 (M 1 7))) 63 (va_cpy (M 2) (M 63) 0 0 4)) 64 (va_cpy (M 3) (M 64) 0 0 16)) 65 (va_cpy (M 4) (M 65) 0 0 256)) 66 (va_cpy (M 5) (M 66) 0 0 8)) 67 (va_cpy (M 6) (M 67) 0 0 192)) (va_cpy (M 7) (M 68) 0 0 40) (tu_u (tu_u (tu_u (tu_u (M 62) 1 (M 1 1)) 4 (M 1 4)) 7 (M 1 7)) 9 (M 1 9)) rfl).trans (congrArg (fun m => tu_row m 68 (va_cpy (M 7) (M 68) 0 0 40)) ((tu_rc (tu_row (tu_row (tu_row (tu_row (tu_row M 62 (tu_u (tu_u (tu_u (M 62) 1 (M 1 1)) 4 (M 1 4)) 7 (M 1 7))) 63 (va_cpy (M 2) (M 63) 0 0 4)) 64 (va_cpy (M 3) (M 64) 0 0 16)) 65 (va_cpy (M 4) (M 65) 0 0 256)) 66 (va_cpy (M 5) (M 66) 0 0 8)) (va_cpy (M 6) (M 67) 0 0 192) (tu_u (tu_u (tu_u (tu_u (M 62) 1 (M 1 1)) 4 (M 1 4)) 7 (M 1 7)) 9 (M 1 9)) rfl).trans (congrArg (fun m => tu_row m 67 (va_cpy (M 6) (M 67) 0 0 192)) ((tu_rc (tu_row (tu_row (tu_row (tu_row M 62 (tu_u (tu_u (tu_u (M 62) 1 (M 1 1)) 4 (M 1 4)) 7 (M 1 7))) 63 (va_cpy (M 2) (M 63) 0 0 4)) 64 (va_cpy (M 3) (M 64) 0 0 16)) 65 (va_cpy (M 4) (M 65) 0 0 256)) (va_cpy (M 5) (M 66) 0 0 8) (tu_u (tu_u (tu_u (tu_u (M 62) 1 (M 1 1)) 4 (M 1 4)) 7 (M 1 7)) 9 (M 1 9)) rfl).trans (congrArg (fun m => tu_row m 66 (va_cpy (M 5) (M 66) 0 0 8)) ((tu_rc (tu_row (tu_row (tu_row M 62 (tu_u (tu_u (tu_u (M 62) 1 (M 1 1)) 4 (M 1 4)) 7 (M 1 7))) 63 (va_cpy (M 2) (M 63) 0 0 4)) 64 (va_cpy (M 3) (M 64) 0 0 16)) (va_cpy (M 4) (M 65) 0 0 256) (tu_u (tu_u (tu_u (tu_u (M 62) 1 (M 1 1)) 4 (M 1 4)) 7 (M 1 7)) 9 (M 1 9)) rfl).trans (congrArg (fun m => tu_row m 65 (va_cpy (M 4) (M 65) 0 0 256)) ((tu_rc (tu_row (tu_row M 62 (tu_u (tu_u (tu_u (M 62) 1 (M 1 1)) 4 (M 1 4)) 7 (M 1 7))) 63 (va_cpy (M 2) (M 63) 0 0 4)) (va_cpy (M 3) (M 64) 0 0 16) (tu_u (tu_u (tu_u (tu_u (M 62) 1 (M 1 1)) 4 (M 1 4)) 7 (M 1 7)) 9 (M 1 9)) rfl).trans (congrArg (fun m => tu_row m 64 (va_cpy (M 3) (M 64) 0 0 16)) ((tu_rc (tu_row M 62 (tu_u (tu_u (tu_u (M 62) 1 (M 1 1)) 4 (M 1 4)) 7 (M 1 7))) (va_cpy (M 2) (M 63) 0 0 4) (tu_u (tu_u (tu_u (tu_u (M 62) 1 (M 1 1)) 4 (M 1 4)) 7 (M 1 7)) 9 (M 1 9)) rfl).trans (congrArg (fun m => tu_row m 63 (va_cpy (M 2) (M 63) 0 0 4)) (tu_rr M 62 (tu_u (tu_u (tu_u (M 62) 1 (M 1 1)) 4 (M 1 4)) 7 (M 1 7)) (tu_u (tu_u (tu_u (tu_u (M 62) 1 (M 1 1)) 4 (M 1 4)) 7 (M 1 7)) 9 (M 1 9))))))))))))))) ?_
  refine tu_aload_n 123 X 1 dX0_takeOver_123 rfl ?_
  refine tu_getR 124 X dX0_takeOver_124 fl_RX0_43 (by decide) rfl rfl ?_
  refine tu_iconst 127 X dX0_takeOver_127 ?_
  refine tu_aload_n 128 X 0 dX0_takeOver_128 rfl ?_
  refine tu_getR 129 X dX0_takeOver_129 fl_RX0_43 (by decide) rfl rfl ?_
  refine tu_iconst 132 X dX0_takeOver_132 ?_
  refine tu_bipush 133 X dX0_takeOver_133 (by decide) ?_
  refine tu_copy 135 X (M' := tu_row (tu_row (tu_row (tu_row (tu_row (tu_row (tu_row (tu_row M 62 (tu_u (tu_u (tu_u (tu_u (M 62) 1 (M 1 1)) 4 (M 1 4)) 7 (M 1 7)) 9 (M 1 9))) 63 (va_cpy (M 2) (M 63) 0 0 4)) 64 (va_cpy (M 3) (M 64) 0 0 16)) 65 (va_cpy (M 4) (M 65) 0 0 256)) 66 (va_cpy (M 5) (M 66) 0 0 8)) 67 (va_cpy (M 6) (M 67) 0 0 192)) 68 (va_cpy (M 7) (M 68) 0 0 40)) 69 (va_cpy (M 8) (M 69) 0 0 8)) 0 0 8 ac_RX0 dX0_takeOver_135 (by decide) (by decide) rfl rfl (by decide) (by decide) rfl rfl rfl (by omega) (by omega) rfl (Nat.le_of_ble_eq_true rfl) (by decide) (Nat.le_trans nf_le (by decide)) ?_
  refine tu_ext (N := tu_tk M 62 1) ?_ (hret 138 _ _ dX0_takeOver_138 rfl)
  refine tu_tk_q (Or.inr ⟨5, by decide, rfl⟩) (fun i hi => by rw [tu_row_n _ _ (by omega), tu_row_n _ _ (by omega), tu_row_n _ _ (by omega), tu_row_n _ _ (by omega), tu_row_n _ _ (by omega), tu_row_n _ _ (by omega), tu_row_n _ _ (by omega), tu_row_n _ _ (by omega)]) (fun j hj => tu_cp hj) (fun j hj => tu_cp hj) (fun j hj => tu_cp hj) (fun j hj => tu_cp hj) (fun j hj => tu_cp hj) (fun j hj => tu_cp hj) (fun j hj => tu_cp hj) rfl rfl rfl rfl
set_option maxRecDepth 20000 in
set_option maxHeartbeats 4000000 in
theorem c_X0_takeOver_1_62 {M : tu_M}   : tu_MV tu_Y_X0_takeOver [tu_r 1, tu_r 62] M (fun M' => M' = tu_tk M 1 62) := by
  refine tu_MV.of (by decide) rfl (Nat.le_of_ble_eq_true rfl) (fun T (X : tu_X T cX0_takeOver RX0 1 40) hnl hret => ?_)
  have hret : tu_RV T cX0_takeOver (fun M' => M' = tu_tk M 1 62) := hret
  have hnl : T.2.2.2.2.2.2.2.2.2.2.1 = 2 := hnl
  show tu_W T 0 [(0, tu_r 1), (1, tu_r 62)] [] M
  refine tu_aload_n 0 X 1 dX0_takeOver_0 rfl ?_
  refine tu_getR 1 X dX0_takeOver_1 fl_RX0_9 (by decide) rfl rfl ?_
  refine tu_iconst 4 X dX0_takeOver_4 ?_
  refine tu_aload_n 5 X 0 dX0_takeOver_5 rfl ?_
  refine tu_getR 6 X dX0_takeOver_6 fl_RX0_9 (by decide) rfl rfl ?_
  refine tu_iconst 9 X dX0_takeOver_9 ?_
  refine tu_iconst 10 X dX0_takeOver_10 ?_
  refine tu_copy 11 X (M' := tu_row M 2 (va_cpy (M 63) (M 2) 0 0 4)) 0 0 4 ac_RX0 dX0_takeOver_11 (by decide) (by decide) rfl rfl (by decide) (by decide) rfl rfl rfl (by omega) (by omega) rfl (Nat.le_of_ble_eq_true rfl) (by decide) (Nat.le_trans nf_le (by decide)) ?_
  refine tu_aload_n 14 X 0 dX0_takeOver_14 rfl ?_
  refine tu_aload_n 15 X 1 dX0_takeOver_15 rfl ?_
  refine tu_getI 16 X (x := M 62 1) dX0_takeOver_16 fl_RX0_15 (by decide) rfl rfl rfl ?_
  refine tu_putI 19 X (M' := tu_row (tu_row M 1 (tu_u (M 1) 1 (M 62 1))) 2 (va_cpy (M 63) (M 2) 0 0 4)) dX0_takeOver_19 fp_RX0_15 (by decide) rfl rfl (tu_rc M (va_cpy (M 63) (M 2) 0 0 4) (tu_u (M 1) 1 (M 62 1)) rfl) ?_
  refine tu_aload_n 22 X 1 dX0_takeOver_22 rfl ?_
  refine tu_getR 23 X dX0_takeOver_23 fl_RX0_19 (by decide) rfl rfl ?_
  refine tu_iconst 26 X dX0_takeOver_26 ?_
  refine tu_aload_n 27 X 0 dX0_takeOver_27 rfl ?_
  refine tu_getR 28 X dX0_takeOver_28 fl_RX0_19 (by decide) rfl rfl ?_
  refine tu_iconst 31 X dX0_takeOver_31 ?_
  refine tu_bipush 32 X dX0_takeOver_32 (by decide) ?_
  refine tu_copy 34 X (M' := tu_row (tu_row (tu_row M 1 (tu_u (M 1) 1 (M 62 1))) 2 (va_cpy (M 63) (M 2) 0 0 4)) 3 (va_cpy (M 64) (M 3) 0 0 16)) 0 0 16 ac_RX0 dX0_takeOver_34 (by decide) (by decide) rfl rfl (by decide) (by decide) rfl rfl rfl (by omega) (by omega) rfl (Nat.le_of_ble_eq_true rfl) (by decide) (Nat.le_trans nf_le (by decide)) ?_
  refine tu_aload_n 37 X 1 dX0_takeOver_37 rfl ?_
  refine tu_getR 38 X dX0_takeOver_38 fl_RX0_22 (by decide) rfl rfl ?_
  refine tu_iconst 41 X dX0_takeOver_41 ?_
  refine tu_aload_n 42 X 0 dX0_takeOver_42 rfl ?_
  refine tu_getR 43 X dX0_takeOver_43 fl_RX0_22 (by decide) rfl rfl ?_
  refine tu_iconst 46 X dX0_takeOver_46 ?_
  refine tu_sipush 47 X dX0_takeOver_47 (by decide) ?_
  refine tu_copy 50 X (M' := tu_row (tu_row (tu_row (tu_row M 1 (tu_u (M 1) 1 (M 62 1))) 2 (va_cpy (M 63) (M 2) 0 0 4)) 3 (va_cpy (M 64) (M 3) 0 0 16)) 4 (va_cpy (M 65) (M 4) 0 0 256)) 0 0 256 ac_RX0 dX0_takeOver_50 (by decide) (by decide) rfl rfl (by decide) (by decide) rfl rfl rfl (by omega) (by omega) rfl (Nat.le_of_ble_eq_true rfl) (by decide) (Nat.le_trans nf_le (by decide)) ?_
  refine tu_aload_n 53 X 0 dX0_takeOver_53 rfl ?_
  refine tu_aload_n 54 X 1 dX0_takeOver_54 rfl ?_
  refine tu_getI 55 X (x := M 62 4) dX0_takeOver_55 fl_RX0_25 (by decide) rfl rfl rfl ?_
  refine tu_putI 58 X (M' := tu_row (tu_row (tu_row (tu_row M 1 (tu_u (tu_u (M 1) 1 (M 62 1)) 4 (M 62 4))) 2 (va_cpy (M 63) (M 2) 0 0 4)) 3 (va_cpy (M 64) (M 3) 0 0 16)) 4 (va_cpy (M 65) (M 4) 0 0 256)) dX0_takeOver_58 fp_RX0_25 (by decide) rfl rfl ((tu_rc (tu_row (tu_row (tu_row M 1 (tu_u (M 1) 1 (M 62 1))) 2 (va_cpy (M 63) (M 2) 0 0 4)) 3 (va_cpy (M 64) (M 3) 0 0 16)) (va_cpy (M 65) (M 4) 0 0 256) (tu_u (tu_u (M 1) 1 (M 62 1)) 4 (M 62 4)) rfl).trans (congrArg (fun m => tu_row m 4 (va_cpy (M 65) (M 4) 0 0 256)) ((tu_rc (tu_row (tu_row M 1 (tu_u (M 1) 1 (M 62 1))) 2 (va_cpy (M 63) (M 2) 0 0 4)) (va_cpy (M 64) (M 3) 0 0 16) (tu_u (tu_u (M 1) 1 (M 62 1)) 4 (M 62 4)) rfl).trans (congrArg (fun m => tu_row m 3 (va_cpy (M 64) (M 3) 0 0 16)) ((tu_rc (tu_row M 1 (tu_u (M 1) 1 (M 62 1))) (va_cpy (M 63) (M 2) 0 0 4) (tu_u (tu_u (M 1) 1 (M 62 1)) 4 (M 62 4)) rfl).trans (congrArg (fun m => tu_row m 2 (va_cpy (M 63) (M 2) 0 0 4)) (tu_rr M 1 (tu_u (M 1) 1 (M 62 1)) (tu_u (tu_u (M 1) 1 (M 62 1)) 4 (M 62 4))))))))) ?_
  refine tu_aload_n 61 X 1 dX0_takeOver_61 rfl ?_
  refine tu_getR 62 X dX0_takeOver_62 fl_RX0_28 (by decide) rfl rfl ?_
  refine tu_iconst 65 X dX0_takeOver_65 ?_
  refine tu_aload_n 66 X 0 dX0_takeOver_66 rfl ?_
  refine tu_getR 67 X dX0_takeOver_67 fl_RX0_28 (by decide) rfl rfl ?_
  refine tu_iconst 70 X dX0_takeOver_70 ?_
  refine tu_bipush 71 X dX0_takeOver_71 (by decide) ?_
  refine tu_copy 73 X (M' := tu_row (tu_row (tu_row (tu_row (tu_row M 1 (tu_u (tu_u (M 1) 1 (M 62 1)) 4 (M 62 4))) 2 (va_cpy (M 63) (M 2) 0 0 4)) 3 (va_cpy (M 64) (M 3) 0 0 16)) 4 (va_cpy (M 65) (M 4) 0 0 256)) 5 (va_cpy (M 66) (M 5) 0 0 8)) 0 0 8 ac_RX0 dX0_takeOver_73 (by decide) (by decide) rfl rfl (by decide) (by decide) rfl rfl rfl (by omega) (by omega) rfl (Nat.le_of_ble_eq_true rfl) (by decide) (Nat.le_trans nf_le (by decide)) ?_
  refine tu_aload_n 76 X 1 dX0_takeOver_76 rfl ?_
  refine tu_getR 77 X dX0_takeOver_77 fl_RX0_31 (by decide) rfl rfl ?_
  refine tu_iconst 80 X dX0_takeOver_80 ?_
  refine tu_aload_n 81 X 0 dX0_takeOver_81 rfl ?_
  refine tu_getR 82 X dX0_takeOver_82 fl_RX0_31 (by decide) rfl rfl ?_
  refine tu_iconst 85 X dX0_takeOver_85 ?_
  refine tu_sipush 86 X dX0_takeOver_86 (by decide) ?_
  refine tu_copy 89 X (M' := tu_row (tu_row (tu_row (tu_row (tu_row (tu_row M 1 (tu_u (tu_u (M 1) 1 (M 62 1)) 4 (M 62 4))) 2 (va_cpy (M 63) (M 2) 0 0 4)) 3 (va_cpy (M 64) (M 3) 0 0 16)) 4 (va_cpy (M 65) (M 4) 0 0 256)) 5 (va_cpy (M 66) (M 5) 0 0 8)) 6 (va_cpy (M 67) (M 6) 0 0 192)) 0 0 192 ac_RX0 dX0_takeOver_89 (by decide) (by decide) rfl rfl (by decide) (by decide) rfl rfl rfl (by omega) (by omega) rfl (Nat.le_of_ble_eq_true rfl) (by decide) (Nat.le_trans nf_le (by decide)) ?_
  refine tu_aload_n 92 X 0 dX0_takeOver_92 rfl ?_
  refine tu_aload_n 93 X 1 dX0_takeOver_93 rfl ?_
  refine tu_getI 94 X (x := M 62 7) dX0_takeOver_94 fl_RX0_34 (by decide) rfl rfl rfl ?_
  refine tu_putI 97 X (M' := tu_row (tu_row (tu_row (tu_row (tu_row (tu_row M 1 (tu_u (tu_u (tu_u (M 1) 1 (M 62 1)) 4 (M 62 4)) 7 (M 62 7))) 2 (va_cpy (M 63) (M 2) 0 0 4)) 3 (va_cpy (M 64) (M 3) 0 0 16)) 4 (va_cpy (M 65) (M 4) 0 0 256)) 5 (va_cpy (M 66) (M 5) 0 0 8)) 6 (va_cpy (M 67) (M 6) 0 0 192)) dX0_takeOver_97 fp_RX0_34 (by decide) rfl rfl ((tu_rc (tu_row (tu_row (tu_row (tu_row (tu_row M 1 (tu_u (tu_u (M 1) 1 (M 62 1)) 4 (M 62 4))) 2 (va_cpy (M 63) (M 2) 0 0 4)) 3 (va_cpy (M 64) (M 3) 0 0 16)) 4 (va_cpy (M 65) (M 4) 0 0 256)) 5 (va_cpy (M 66) (M 5) 0 0 8)) (va_cpy (M 67) (M 6) 0 0 192) (tu_u (tu_u (tu_u (M 1) 1 (M 62 1)) 4 (M 62 4)) 7 (M 62 7)) rfl).trans (congrArg (fun m => tu_row m 6 (va_cpy (M 67) (M 6) 0 0 192)) ((tu_rc (tu_row (tu_row (tu_row (tu_row M 1 (tu_u (tu_u (M 1) 1 (M 62 1)) 4 (M 62 4))) 2 (va_cpy (M 63) (M 2) 0 0 4)) 3 (va_cpy (M 64) (M 3) 0 0 16)) 4 (va_cpy (M 65) (M 4) 0 0 256)) (va_cpy (M 66) (M 5) 0 0 8) (tu_u (tu_u (tu_u (M 1) 1 (M 62 1)) 4 (M 62 4)) 7 (M 62 7)) rfl).trans (congrArg (fun m => tu_row m 5 (va_cpy (M 66) (M 5) 0 0 8)) ((tu_rc (tu_row (tu_row (tu_row M 1 (tu_u (tu_u (M 1) 1 (M 62 1)) 4 (M 62 4))) 2 (va_cpy (M 63) (M 2) 0 0 4)) 3 (va_cpy (M 64) (M 3) 0 0 16)) (va_cpy (M 65) (M 4) 0 0 256) (tu_u (tu_u (tu_u (M 1) 1 (M 62 1)) 4 (M 62 4)) 7 (M 62 7)) rfl).trans (congrArg (fun m => tu_row m 4 (va_cpy (M 65) (M 4) 0 0 256)) ((tu_rc (tu_row (tu_row M 1 (tu_u (tu_u (M 1) 1 (M 62 1)) 4 (M 62 4))) 2 (va_cpy (M 63) (M 2) 0 0 4)) (va_cpy (M 64) (M 3) 0 0 16) (tu_u (tu_u (tu_u (M 1) 1 (M 62 1)) 4 (M 62 4)) 7 (M 62 7)) rfl).trans (congrArg (fun m => tu_row m 3 (va_cpy (M 64) (M 3) 0 0 16)) ((tu_rc (tu_row M 1 (tu_u (tu_u (M 1) 1 (M 62 1)) 4 (M 62 4))) (va_cpy (M 63) (M 2) 0 0 4) (tu_u (tu_u (tu_u (M 1) 1 (M 62 1)) 4 (M 62 4)) 7 (M 62 7)) rfl).trans (congrArg (fun m => tu_row m 2 (va_cpy (M 63) (M 2) 0 0 4)) (tu_rr M 1 (tu_u (tu_u (M 1) 1 (M 62 1)) 4 (M 62 4)) (tu_u (tu_u (tu_u (M 1) 1 (M 62 1)) 4 (M 62 4)) 7 (M 62 7))))))))))))) ?_
  refine tu_aload_n 100 X 1 dX0_takeOver_100 rfl ?_
  refine tu_getR 101 X dX0_takeOver_101 fl_RX0_37 (by decide) rfl rfl ?_
  refine tu_iconst 104 X dX0_takeOver_104 ?_
  refine tu_aload_n 105 X 0 dX0_takeOver_105 rfl ?_
  refine tu_getR 106 X dX0_takeOver_106 fl_RX0_37 (by decide) rfl rfl ?_
  refine tu_iconst 109 X dX0_takeOver_109 ?_
  refine tu_bipush 110 X dX0_takeOver_110 (by decide) ?_
  refine tu_copy 112 X (M' := tu_row (tu_row (tu_row (tu_row (tu_row (tu_row (tu_row M 1 (tu_u (tu_u (tu_u (M 1) 1 (M 62 1)) 4 (M 62 4)) 7 (M 62 7))) 2 (va_cpy (M 63) (M 2) 0 0 4)) 3 (va_cpy (M 64) (M 3) 0 0 16)) 4 (va_cpy (M 65) (M 4) 0 0 256)) 5 (va_cpy (M 66) (M 5) 0 0 8)) 6 (va_cpy (M 67) (M 6) 0 0 192)) 7 (va_cpy (M 68) (M 7) 0 0 40)) 0 0 40 ac_RX0 dX0_takeOver_112 (by decide) (by decide) rfl rfl (by decide) (by decide) rfl rfl rfl (by omega) (by omega) rfl (Nat.le_of_ble_eq_true rfl) (by decide) (Nat.le_trans nf_le (by decide)) ?_
  refine tu_aload_n 115 X 0 dX0_takeOver_115 rfl ?_
  refine tu_aload_n 116 X 1 dX0_takeOver_116 rfl ?_
  refine tu_getI 117 X (x := M 62 9) dX0_takeOver_117 fl_RX0_40 (by decide) rfl rfl rfl ?_
  refine tu_putI 120 X (M' := tu_row (tu_row (tu_row (tu_row (tu_row (tu_row (tu_row M 1 (tu_u (tu_u (tu_u (tu_u (M 1) 1 (M 62 1)) 4 (M 62 4)) 7 (M 62 7)) 9 (M 62 9))) 2 (va_cpy (M 63) (M 2) 0 0 4)) 3 (va_cpy (M 64) (M 3) 0 0 16)) 4 (va_cpy (M 65) (M 4) 0 0 256)) 5 (va_cpy (M 66) (M 5) 0 0 8)) 6 (va_cpy (M 67) (M 6) 0 0 192)) 7 (va_cpy (M 68) (M 7) 0 0 40)) dX0_takeOver_120 fp_RX0_40 (by decide) rfl rfl ((tu_rc (tu_row (tu_row (tu_row (tu_row (tu_row (tu_row M 1 (tu_u (tu_u (tu_u (M 1) 1 (M 62 1)) 4 (M 62 4)) 7 (M 62 7))) 2 (va_cpy (M 63) (M 2) 0 0 4)) 3 (va_cpy (M 64) (M 3) 0 0 16)) 4 (va_cpy (M 65) (M 4) 0 0 256)) 5 (va_cpy (M 66) (M 5) 0 0 8)) 6 (va_cpy (M 67) (M 6) 0 0 192)) (va_cpy (M 68) (M 7) 0 0 40) (tu_u (tu_u (tu_u (tu_u (M 1) 1 (M 62 1)) 4 (M 62 4)) 7 (M 62 7)) 9 (M 62 9)) rfl).trans (congrArg (fun m => tu_row m 7 (va_cpy (M 68) (M 7) 0 0 40)) ((tu_rc (tu_row (tu_row (tu_row (tu_row (tu_row M 1 (tu_u (tu_u (tu_u (M 1) 1 (M 62 1)) 4 (M 62 4)) 7 (M 62 7))) 2 (va_cpy (M 63) (M 2) 0 0 4)) 3 (va_cpy (M 64) (M 3) 0 0 16)) 4 (va_cpy (M 65) (M 4) 0 0 256)) 5 (va_cpy (M 66) (M 5) 0 0 8)) (va_cpy (M 67) (M 6) 0 0 192) (tu_u (tu_u (tu_u (tu_u (M 1) 1 (M 62 1)) 4 (M 62 4)) 7 (M 62 7)) 9 (M 62 9)) rfl).trans (congrArg (fun m => tu_row m 6 (va_cpy (M 67) (M 6) 0 0 192)) ((tu_rc (tu_row (tu_row (tu_row (tu_row M 1 (tu_u (tu_u (tu_u (M 1) 1 (M 62 1)) 4 (M 62 4)) 7 (M 62 7))) 2 (va_cpy (M 63) (M 2) 0 0 4)) 3 (va_cpy (M 64) (M 3) 0 0 16)) 4 (va_cpy (M 65) (M 4) 0 0 256)) (va_cpy (M 66) (M 5) 0 0 8) (tu_u (tu_u (tu_u (tu_u (M 1) 1 (M 62 1)) 4 (M 62 4)) 7 (M 62 7)) 9 (M 62 9)) rfl).trans (congrArg (fun m => tu_row m 5 (va_cpy (M 66) (M 5) 0 0 8)) ((tu_rc (tu_row (tu_row (tu_row M 1 (tu_u (tu_u (tu_u (M 1) 1 (M 62 1)) 4 (M 62 4)) 7 (M 62 7))) 2 (va_cpy (M 63) (M 2) 0 0 4)) 3 (va_cpy (M 64) (M 3) 0 0 16)) (va_cpy (M 65) (M 4) 0 0 256) (tu_u (tu_u (tu_u (tu_u (M 1) 1 (M 62 1)) 4 (M 62 4)) 7 (M 62 7)) 9 (M 62 9)) rfl).trans (congrArg (fun m => tu_row m 4 (va_cpy (M 65) (M 4) 0 0 256)) ((tu_rc (tu_row (tu_row M 1 (tu_u (tu_u (tu_u (M 1) 1 (M 62 1)) 4 (M 62 4)) 7 (M 62 7))) 2 (va_cpy (M 63) (M 2) 0 0 4)) (va_cpy (M 64) (M 3) 0 0 16) (tu_u (tu_u (tu_u (tu_u (M 1) 1 (M 62 1)) 4 (M 62 4)) 7 (M 62 7)) 9 (M 62 9)) rfl).trans (congrArg (fun m => tu_row m 3 (va_cpy (M 64) (M 3) 0 0 16)) ((tu_rc (tu_row M 1 (tu_u (tu_u (tu_u (M 1) 1 (M 62 1)) 4 (M 62 4)) 7 (M 62 7))) (va_cpy (M 63) (M 2) 0 0 4) (tu_u (tu_u (tu_u (tu_u (M 1) 1 (M 62 1)) 4 (M 62 4)) 7 (M 62 7)) 9 (M 62 9)) rfl).trans (congrArg (fun m => tu_row m 2 (va_cpy (M 63) (M 2) 0 0 4)) (tu_rr M 1 (tu_u (tu_u (tu_u (M 1) 1 (M 62 1)) 4 (M 62 4)) 7 (M 62 7)) (tu_u (tu_u (tu_u (tu_u (M 1) 1 (M 62 1)) 4 (M 62 4)) 7 (M 62 7)) 9 (M 62 9))))))))))))))) ?_
  refine tu_aload_n 123 X 1 dX0_takeOver_123 rfl ?_
  refine tu_getR 124 X dX0_takeOver_124 fl_RX0_43 (by decide) rfl rfl ?_
  refine tu_iconst 127 X dX0_takeOver_127 ?_
  refine tu_aload_n 128 X 0 dX0_takeOver_128 rfl ?_
  refine tu_getR 129 X dX0_takeOver_129 fl_RX0_43 (by decide) rfl rfl ?_
  refine tu_iconst 132 X dX0_takeOver_132 ?_
  refine tu_bipush 133 X dX0_takeOver_133 (by decide) ?_
  refine tu_copy 135 X (M' := tu_row (tu_row (tu_row (tu_row (tu_row (tu_row (tu_row (tu_row M 1 (tu_u (tu_u (tu_u (tu_u (M 1) 1 (M 62 1)) 4 (M 62 4)) 7 (M 62 7)) 9 (M 62 9))) 2 (va_cpy (M 63) (M 2) 0 0 4)) 3 (va_cpy (M 64) (M 3) 0 0 16)) 4 (va_cpy (M 65) (M 4) 0 0 256)) 5 (va_cpy (M 66) (M 5) 0 0 8)) 6 (va_cpy (M 67) (M 6) 0 0 192)) 7 (va_cpy (M 68) (M 7) 0 0 40)) 8 (va_cpy (M 69) (M 8) 0 0 8)) 0 0 8 ac_RX0 dX0_takeOver_135 (by decide) (by decide) rfl rfl (by decide) (by decide) rfl rfl rfl (by omega) (by omega) rfl (Nat.le_of_ble_eq_true rfl) (by decide) (Nat.le_trans nf_le (by decide)) ?_
  refine tu_ext (N := tu_tk M 1 62) ?_ (hret 138 _ _ dX0_takeOver_138 rfl)
  refine tu_tk_q (Or.inl rfl) (fun i hi => by rw [tu_row_n _ _ (by omega), tu_row_n _ _ (by omega), tu_row_n _ _ (by omega), tu_row_n _ _ (by omega), tu_row_n _ _ (by omega), tu_row_n _ _ (by omega), tu_row_n _ _ (by omega), tu_row_n _ _ (by omega)]) (fun j hj => tu_cp hj) (fun j hj => tu_cp hj) (fun j hj => tu_cp hj) (fun j hj => tu_cp hj) (fun j hj => tu_cp hj) (fun j hj => tu_cp hj) (fun j hj => tu_cp hj) rfl rfl rfl rfl
set_option maxRecDepth 20000 in
set_option maxHeartbeats 4000000 in
theorem c_X0_takeOver_70_1 {M : tu_M}   : tu_MV tu_Y_X0_takeOver [tu_r 70, tu_r 1] M (fun M' => M' = tu_tk M 70 1) := by
  refine tu_MV.of (by decide) rfl (Nat.le_of_ble_eq_true rfl) (fun T (X : tu_X T cX0_takeOver RX0 1 40) hnl hret => ?_)
  have hret : tu_RV T cX0_takeOver (fun M' => M' = tu_tk M 70 1) := hret
  have hnl : T.2.2.2.2.2.2.2.2.2.2.1 = 2 := hnl
  show tu_W T 0 [(0, tu_r 70), (1, tu_r 1)] [] M
  refine tu_aload_n 0 X 1 dX0_takeOver_0 rfl ?_
  refine tu_getR 1 X dX0_takeOver_1 fl_RX0_9 (by decide) rfl rfl ?_
  refine tu_iconst 4 X dX0_takeOver_4 ?_
  refine tu_aload_n 5 X 0 dX0_takeOver_5 rfl ?_
  refine tu_getR 6 X dX0_takeOver_6 fl_RX0_9 (by decide) rfl rfl ?_
  refine tu_iconst 9 X dX0_takeOver_9 ?_
  refine tu_iconst 10 X dX0_takeOver_10 ?_
  refine tu_copy 11 X (M' := tu_row M 71 (va_cpy (M 2) (M 71) 0 0 4)) 0 0 4 ac_RX0 dX0_takeOver_11 (by decide) (by decide) rfl rfl (by decide) (by decide) rfl rfl rfl (by omega) (by omega) rfl (Nat.le_of_ble_eq_true rfl) (by decide) (Nat.le_trans nf_le (by decide)) ?_
  refine tu_aload_n 14 X 0 dX0_takeOver_14 rfl ?_
  refine tu_aload_n 15 X 1 dX0_takeOver_15 rfl ?_
  refine tu_getI 16 X (x := M 1 1) dX0_takeOver_16 fl_RX0_15 (by decide) rfl rfl rfl ?_
  refine tu_putI 19 X (M' := tu_row (tu_row M 70 (tu_u (M 70) 1 (M 1 1))) 71 (va_cpy (M 2) (M 71) 0 0 4)) dX0_takeOver_19 fp_RX0_15 (by decide) rfl rfl (tu_rc M (va_cpy (M 2) (M 71) 0 0 4) (tu_u (M 70) 1 (M 1 1)) rfl) ?_
  refine tu_aload_n 22 X 1 dX0_takeOver_22 rfl ?_
  refine tu_getR 23 X dX0_takeOver_23 fl_RX0_19 (by decide) rfl rfl ?_
  refine tu_iconst 26 X dX0_takeOver_26 ?_
  refine tu_aload_n 27 X 0 dX0_takeOver_27 rfl ?_
  refine tu_getR 28 X dX0_takeOver_28 fl_RX0_19 (by decide) rfl rfl ?_
  refine tu_iconst 31 X dX0_takeOver_31 ?_
  refine tu_bipush 32 X dX0_takeOver_32 (by decide) ?_
  refine tu_copy 34 X (M' := tu_row (tu_row (tu_row M 70 (tu_u (M 70) 1 (M 1 1))) 71 (va_cpy (M 2) (M 71) 0 0 4)) 72 (va_cpy (M 3) (M 72) 0 0 16)) 0 0 16 ac_RX0 dX0_takeOver_34 (by decide) (by decide) rfl rfl (by decide) (by decide) rfl rfl rfl (by omega) (by omega) rfl (Nat.le_of_ble_eq_true rfl) (by decide) (Nat.le_trans nf_le (by decide)) ?_
  refine tu_aload_n 37 X 1 dX0_takeOver_37 rfl ?_
  refine tu_getR 38 X dX0_takeOver_38 fl_RX0_22 (by decide) rfl rfl ?_
  refine tu_iconst 41 X dX0_takeOver_41 ?_
  refine tu_aload_n 42 X 0 dX0_takeOver_42 rfl ?_
  refine tu_getR 43 X dX0_takeOver_43 fl_RX0_22 (by decide) rfl rfl ?_
  refine tu_iconst 46 X dX0_takeOver_46 ?_
  refine tu_sipush 47 X dX0_takeOver_47 (by decide) ?_
  refine tu_copy 50 X (M' := tu_row (tu_row (tu_row (tu_row M 70 (tu_u (M 70) 1 (M 1 1))) 71 (va_cpy (M 2) (M 71) 0 0 4)) 72 (va_cpy (M 3) (M 72) 0 0 16)) 73 (va_cpy (M 4) (M 73) 0 0 256)) 0 0 256 ac_RX0 dX0_takeOver_50 (by decide) (by decide) rfl rfl (by decide) (by decide) rfl rfl rfl (by omega) (by omega) rfl (Nat.le_of_ble_eq_true rfl) (by decide) (Nat.le_trans nf_le (by decide)) ?_
  refine tu_aload_n 53 X 0 dX0_takeOver_53 rfl ?_
  refine tu_aload_n 54 X 1 dX0_takeOver_54 rfl ?_
  refine tu_getI 55 X (x := M 1 4) dX0_takeOver_55 fl_RX0_25 (by decide) rfl rfl rfl ?_
  refine tu_putI 58 X (M' := tu_row (tu_row (tu_row (tu_row M 70 (tu_u (tu_u (M 70) 1 (M 1 1)) 4 (M 1 4))) 71 (va_cpy (M 2) (M 71) 0 0 4)) 72 (va_cpy (M 3) (M 72) 0 0 16)) 73 (va_cpy (M 4) (M 73) 0 0 256)) dX0_takeOver_58 fp_RX0_25 (by decide) rfl rfl ((tu_rc (tu_row (tu_row (tu_row M 70 (tu_u (M 70) 1 (M 1 1))) 71 (va_cpy (M 2) (M 71) 0 0 4)) 72 (va_cpy (M 3) (M 72) 0 0 16)) (va_cpy (M 4) (M 73) 0 0 256) (tu_u (tu_u (M 70) 1 (M 1 1)) 4 (M 1 4)) rfl).trans (congrArg (fun m => tu_row m 73 (va_cpy (M 4) (M 73) 0 0 256)) ((tu_rc (tu_row (tu_row M 70 (tu_u (M 70) 1 (M 1 1))) 71 (va_cpy (M 2) (M 71) 0 0 4)) (va_cpy (M 3) (M 72) 0 0 16) (tu_u (tu_u (M 70) 1 (M 1 1)) 4 (M 1 4)) rfl).trans (congrArg (fun m => tu_row m 72 (va_cpy (M 3) (M 72) 0 0 16)) ((tu_rc (tu_row M 70 (tu_u (M 70) 1 (M 1 1))) (va_cpy (M 2) (M 71) 0 0 4) (tu_u (tu_u (M 70) 1 (M 1 1)) 4 (M 1 4)) rfl).trans (congrArg (fun m => tu_row m 71 (va_cpy (M 2) (M 71) 0 0 4)) (tu_rr M 70 (tu_u (M 70) 1 (M 1 1)) (tu_u (tu_u (M 70) 1 (M 1 1)) 4 (M 1 4))))))))) ?_
  refine tu_aload_n 61 X 1 dX0_takeOver_61 rfl ?_
  refine tu_getR 62 X dX0_takeOver_62 fl_RX0_28 (by decide) rfl rfl ?_
  refine tu_iconst 65 X dX0_takeOver_65 ?_
  refine tu_aload_n 66 X 0 dX0_takeOver_66 rfl ?_
  refine tu_getR 67 X dX0_takeOver_67 fl_RX0_28 (by decide) rfl rfl ?_
  refine tu_iconst 70 X dX0_takeOver_70 ?_
  refine tu_bipush 71 X dX0_takeOver_71 (by decide) ?_
  refine tu_copy 73 X (M' := tu_row (tu_row (tu_row (tu_row (tu_row M 70 (tu_u (tu_u (M 70) 1 (M 1 1)) 4 (M 1 4))) 71 (va_cpy (M 2) (M 71) 0 0 4)) 72 (va_cpy (M 3) (M 72) 0 0 16)) 73 (va_cpy (M 4) (M 73) 0 0 256)) 74 (va_cpy (M 5) (M 74) 0 0 8)) 0 0 8 ac_RX0 dX0_takeOver_73 (by decide) (by decide) rfl rfl (by decide) (by decide) rfl rfl rfl (by omega) (by omega) rfl (Nat.le_of_ble_eq_true rfl) (by decide) (Nat.le_trans nf_le (by decide)) ?_
  refine tu_aload_n 76 X 1 dX0_takeOver_76 rfl ?_
  refine tu_getR 77 X dX0_takeOver_77 fl_RX0_31 (by decide) rfl rfl ?_
  refine tu_iconst 80 X dX0_takeOver_80 ?_
  refine tu_aload_n 81 X 0 dX0_takeOver_81 rfl ?_
  refine tu_getR 82 X dX0_takeOver_82 fl_RX0_31 (by decide) rfl rfl ?_
  refine tu_iconst 85 X dX0_takeOver_85 ?_
  refine tu_sipush 86 X dX0_takeOver_86 (by decide) ?_
  refine tu_copy 89 X (M' := tu_row (tu_row (tu_row (tu_row (tu_row (tu_row M 70 (tu_u (tu_u (M 70) 1 (M 1 1)) 4 (M 1 4))) 71 (va_cpy (M 2) (M 71) 0 0 4)) 72 (va_cpy (M 3) (M 72) 0 0 16)) 73 (va_cpy (M 4) (M 73) 0 0 256)) 74 (va_cpy (M 5) (M 74) 0 0 8)) 75 (va_cpy (M 6) (M 75) 0 0 192)) 0 0 192 ac_RX0 dX0_takeOver_89 (by decide) (by decide) rfl rfl (by decide) (by decide) rfl rfl rfl (by omega) (by omega) rfl (Nat.le_of_ble_eq_true rfl) (by decide) (Nat.le_trans nf_le (by decide)) ?_
  refine tu_aload_n 92 X 0 dX0_takeOver_92 rfl ?_
  refine tu_aload_n 93 X 1 dX0_takeOver_93 rfl ?_
  refine tu_getI 94 X (x := M 1 7) dX0_takeOver_94 fl_RX0_34 (by decide) rfl rfl rfl ?_
  refine tu_putI 97 X (M' := tu_row (tu_row (tu_row (tu_row (tu_row (tu_row M 70 (tu_u (tu_u (tu_u (M 70) 1 (M 1 1)) 4 (M 1 4)) 7 (M 1 7))) 71 (va_cpy (M 2) (M 71) 0 0 4)) 72 (va_cpy (M 3) (M 72) 0 0 16)) 73 (va_cpy (M 4) (M 73) 0 0 256)) 74 (va_cpy (M 5) (M 74) 0 0 8)) 75 (va_cpy (M 6) (M 75) 0 0 192)) dX0_takeOver_97 fp_RX0_34 (by decide) rfl rfl ((tu_rc (tu_row (tu_row (tu_row (tu_row (tu_row M 70 (tu_u (tu_u (M 70) 1 (M 1 1)) 4 (M 1 4))) 71 (va_cpy (M 2) (M 71) 0 0 4)) 72 (va_cpy (M 3) (M 72) 0 0 16)) 73 (va_cpy (M 4) (M 73) 0 0 256)) 74 (va_cpy (M 5) (M 74) 0 0 8)) (va_cpy (M 6) (M 75) 0 0 192) (tu_u (tu_u (tu_u (M 70) 1 (M 1 1)) 4 (M 1 4)) 7 (M 1 7)) rfl).trans (congrArg (fun m => tu_row m 75 (va_cpy (M 6) (M 75) 0 0 192)) ((tu_rc (tu_row (tu_row (tu_row (tu_row M 70 (tu_u (tu_u (M 70) 1 (M 1 1)) 4 (M 1 4))) 71 (va_cpy (M 2) (M 71) 0 0 4)) 72 (va_cpy (M 3) (M 72) 0 0 16)) 73 (va_cpy (M 4) (M 73) 0 0 256)) (va_cpy (M 5) (M 74) 0 0 8) (tu_u (tu_u (tu_u (M 70) 1 (M 1 1)) 4 (M 1 4)) 7 (M 1 7)) rfl).trans (congrArg (fun m => tu_row m 74 (va_cpy (M 5) (M 74) 0 0 8)) ((tu_rc (tu_row (tu_row (tu_row M 70 (tu_u (tu_u (M 70) 1 (M 1 1)) 4 (M 1 4))) 71 (va_cpy (M 2) (M 71) 0 0 4)) 72 (va_cpy (M 3) (M 72) 0 0 16)) (va_cpy (M 4) (M 73) 0 0 256) (tu_u (tu_u (tu_u (M 70) 1 (M 1 1)) 4 (M 1 4)) 7 (M 1 7)) rfl).trans (congrArg (fun m => tu_row m 73 (va_cpy (M 4) (M 73) 0 0 256)) ((tu_rc (tu_row (tu_row M 70 (tu_u (tu_u (M 70) 1 (M 1 1)) 4 (M 1 4))) 71 (va_cpy (M 2) (M 71) 0 0 4)) (va_cpy (M 3) (M 72) 0 0 16) (tu_u (tu_u (tu_u (M 70) 1 (M 1 1)) 4 (M 1 4)) 7 (M 1 7)) rfl).trans (congrArg (fun m => tu_row m 72 (va_cpy (M 3) (M 72) 0 0 16)) ((tu_rc (tu_row M 70 (tu_u (tu_u (M 70) 1 (M 1 1)) 4 (M 1 4))) (va_cpy (M 2) (M 71) 0 0 4) (tu_u (tu_u (tu_u (M 70) 1 (M 1 1)) 4 (M 1 4)) 7 (M 1 7)) rfl).trans (congrArg (fun m => tu_row m 71 (va_cpy (M 2) (M 71) 0 0 4)) (tu_rr M 70 (tu_u (tu_u (M 70) 1 (M 1 1)) 4 (M 1 4)) (tu_u (tu_u (tu_u (M 70) 1 (M 1 1)) 4 (M 1 4)) 7 (M 1 7))))))))))))) ?_
  refine tu_aload_n 100 X 1 dX0_takeOver_100 rfl ?_
  refine tu_getR 101 X dX0_takeOver_101 fl_RX0_37 (by decide) rfl rfl ?_
  refine tu_iconst 104 X dX0_takeOver_104 ?_
  refine tu_aload_n 105 X 0 dX0_takeOver_105 rfl ?_
  refine tu_getR 106 X dX0_takeOver_106 fl_RX0_37 (by decide) rfl rfl ?_
  refine tu_iconst 109 X dX0_takeOver_109 ?_
  refine tu_bipush 110 X dX0_takeOver_110 (by decide) ?_
  refine tu_copy 112 X (M' := tu_row (tu_row (tu_row (tu_row (tu_row (tu_row (tu_row M 70 (tu_u (tu_u (tu_u (M 70) 1 (M 1 1)) 4 (M 1 4)) 7 (M 1 7))) 71 (va_cpy (M 2) (M 71) 0 0 4)) 72 (va_cpy (M 3) (M 72) 0 0 16)) 73 (va_cpy (M 4) (M 73) 0 0 256)) 74 (va_cpy (M 5) (M 74) 0 0 8)) 75 (va_cpy (M 6) (M 75) 0 0 192)) 76 (va_cpy (M 7) (M 76) 0 0 40)) 0 0 40 ac_RX0 dX0_takeOver_112 (by decide) (by decide) rfl rfl (by decide) (by decide) rfl rfl rfl (by omega) (by omega) rfl (Nat.le_of_ble_eq_true rfl) (by decide) (Nat.le_trans nf_le (by decide)) ?_
  refine tu_aload_n 115 X 0 dX0_takeOver_115 rfl ?_
  refine tu_aload_n 116 X 1 dX0_takeOver_116 rfl ?_
  refine tu_getI 117 X (x := M 1 9) dX0_takeOver_117 fl_RX0_40 (by decide) rfl rfl rfl ?_
  refine tu_putI 120 X (M' := tu_row (tu_row (tu_row (tu_row (tu_row (tu_row (tu_row M 70 (tu_u (tu_u (tu_u (tu_u (M 70) 1 (M 1 1)) 4 (M 1 4)) 7 (M 1 7)) 9 (M 1 9))) 71 (va_cpy (M 2) (M 71) 0 0 4)) 72 (va_cpy (M 3) (M 72) 0 0 16)) 73 (va_cpy (M 4) (M 73) 0 0 256)) 74 (va_cpy (M 5) (M 74) 0 0 8)) 75 (va_cpy (M 6) (M 75) 0 0 192)) 76 (va_cpy (M 7) (M 76) 0 0 40)) dX0_takeOver_120 fp_RX0_40 (by decide) rfl rfl ((tu_rc (tu_row (tu_row (tu_row (tu_row (tu_row (tu_row M 70 (tu_u (tu_u (tu_u (M 70) 1 (M 1 1)) 4 (M 1 4)) 7 (M 1 7))) 71 (va_cpy (M 2) (M 71) 0 0 4)) 72 (va_cpy (M 3) (M 72) 0 0 16)) 73 (va_cpy (M 4) (M 73) 0 0 256)) 74 (va_cpy (M 5) (M 74) 0 0 8)) 75 (va_cpy (M 6) (M 75) 0 0 192)) (va_cpy (M 7) (M 76) 0 0 40) (tu_u (tu_u (tu_u (tu_u (M 70) 1 (M 1 1)) 4 (M 1 4)) 7 (M 1 7)) 9 (M 1 9)) rfl).trans (congrArg (fun m => tu_row m 76 (va_cpy (M 7) (M 76) 0 0 40)) ((tu_rc (tu_row (tu_row (tu_row (tu_row (tu_row M 70 (tu_u (tu_u (tu_u (M 70) 1 (M 1 1)) 4 (M 1 4)) 7 (M 1 7))) 71 (va_cpy (M 2) (M 71) 0 0 4)) 72 (va_cpy (M 3) (M 72) 0 0 16)) 73 (va_cpy (M 4) (M 73) 0 0 256)) 74 (va_cpy (M 5) (M 74) 0 0 8)) (va_cpy (M 6) (M 75) 0 0 192) (tu_u (tu_u (tu_u (tu_u (M 70) 1 (M 1 1)) 4 (M 1 4)) 7 (M 1 7)) 9 (M 1 9)) rfl).trans (congrArg (fun m => tu_row m 75 (va_cpy (M 6) (M 75) 0 0 192)) ((tu_rc (tu_row (tu_row (tu_row (tu_row M 70 (tu_u (tu_u (tu_u (M 70) 1 (M 1 1)) 4 (M 1 4)) 7 (M 1 7))) 71 (va_cpy (M 2) (M 71) 0 0 4)) 72 (va_cpy (M 3) (M 72) 0 0 16)) 73 (va_cpy (M 4) (M 73) 0 0 256)) (va_cpy (M 5) (M 74) 0 0 8) (tu_u (tu_u (tu_u (tu_u (M 70) 1 (M 1 1)) 4 (M 1 4)) 7 (M 1 7)) 9 (M 1 9)) rfl).trans (congrArg (fun m => tu_row m 74 (va_cpy (M 5) (M 74) 0 0 8)) ((tu_rc (tu_row (tu_row (tu_row M 70 (tu_u (tu_u (tu_u (M 70) 1 (M 1 1)) 4 (M 1 4)) 7 (M 1 7))) 71 (va_cpy (M 2) (M 71) 0 0 4)) 72 (va_cpy (M 3) (M 72) 0 0 16)) (va_cpy (M 4) (M 73) 0 0 256) (tu_u (tu_u (tu_u (tu_u (M 70) 1 (M 1 1)) 4 (M 1 4)) 7 (M 1 7)) 9 (M 1 9)) rfl).trans (congrArg (fun m => tu_row m 73 (va_cpy (M 4) (M 73) 0 0 256)) ((tu_rc (tu_row (tu_row M 70 (tu_u (tu_u (tu_u (M 70) 1 (M 1 1)) 4 (M 1 4)) 7 (M 1 7))) 71 (va_cpy (M 2) (M 71) 0 0 4)) (va_cpy (M 3) (M 72) 0 0 16) (tu_u (tu_u (tu_u (tu_u (M 70) 1 (M 1 1)) 4 (M 1 4)) 7 (M 1 7)) 9 (M 1 9)) rfl).trans (congrArg (fun m => tu_row m 72 (va_cpy (M 3) (M 72) 0 0 16)) ((tu_rc (tu_row M 70 (tu_u (tu_u (tu_u (M 70) 1 (M 1 1)) 4 (M 1 4)) 7 (M 1 7))) (va_cpy (M 2) (M 71) 0 0 4) (tu_u (tu_u (tu_u (tu_u (M 70) 1 (M 1 1)) 4 (M 1 4)) 7 (M 1 7)) 9 (M 1 9)) rfl).trans (congrArg (fun m => tu_row m 71 (va_cpy (M 2) (M 71) 0 0 4)) (tu_rr M 70 (tu_u (tu_u (tu_u (M 70) 1 (M 1 1)) 4 (M 1 4)) 7 (M 1 7)) (tu_u (tu_u (tu_u (tu_u (M 70) 1 (M 1 1)) 4 (M 1 4)) 7 (M 1 7)) 9 (M 1 9))))))))))))))) ?_
  refine tu_aload_n 123 X 1 dX0_takeOver_123 rfl ?_
  refine tu_getR 124 X dX0_takeOver_124 fl_RX0_43 (by decide) rfl rfl ?_
  refine tu_iconst 127 X dX0_takeOver_127 ?_
  refine tu_aload_n 128 X 0 dX0_takeOver_128 rfl ?_
  refine tu_getR 129 X dX0_takeOver_129 fl_RX0_43 (by decide) rfl rfl ?_
  refine tu_iconst 132 X dX0_takeOver_132 ?_
  refine tu_bipush 133 X dX0_takeOver_133 (by decide) ?_
  refine tu_copy 135 X (M' := tu_row (tu_row (tu_row (tu_row (tu_row (tu_row (tu_row (tu_row M 70 (tu_u (tu_u (tu_u (tu_u (M 70) 1 (M 1 1)) 4 (M 1 4)) 7 (M 1 7)) 9 (M 1 9))) 71 (va_cpy (M 2) (M 71) 0 0 4)) 72 (va_cpy (M 3) (M 72) 0 0 16)) 73 (va_cpy (M 4) (M 73) 0 0 256)) 74 (va_cpy (M 5) (M 74) 0 0 8)) 75 (va_cpy (M 6) (M 75) 0 0 192)) 76 (va_cpy (M 7) (M 76) 0 0 40)) 77 (va_cpy (M 8) (M 77) 0 0 8)) 0 0 8 ac_RX0 dX0_takeOver_135 (by decide) (by decide) rfl rfl (by decide) (by decide) rfl rfl rfl (by omega) (by omega) rfl (Nat.le_of_ble_eq_true rfl) (by decide) (Nat.le_trans nf_le (by decide)) ?_
  refine tu_ext (N := tu_tk M 70 1) ?_ (hret 138 _ _ dX0_takeOver_138 rfl)
  refine tu_tk_q (Or.inr ⟨6, by decide, rfl⟩) (fun i hi => by rw [tu_row_n _ _ (by omega), tu_row_n _ _ (by omega), tu_row_n _ _ (by omega), tu_row_n _ _ (by omega), tu_row_n _ _ (by omega), tu_row_n _ _ (by omega), tu_row_n _ _ (by omega), tu_row_n _ _ (by omega)]) (fun j hj => tu_cp hj) (fun j hj => tu_cp hj) (fun j hj => tu_cp hj) (fun j hj => tu_cp hj) (fun j hj => tu_cp hj) (fun j hj => tu_cp hj) (fun j hj => tu_cp hj) rfl rfl rfl rfl
set_option maxRecDepth 20000 in
set_option maxHeartbeats 4000000 in
theorem c_X0_takeOver_1_70 {M : tu_M}   : tu_MV tu_Y_X0_takeOver [tu_r 1, tu_r 70] M (fun M' => M' = tu_tk M 1 70) := by
  refine tu_MV.of (by decide) rfl (Nat.le_of_ble_eq_true rfl) (fun T (X : tu_X T cX0_takeOver RX0 1 40) hnl hret => ?_)
  have hret : tu_RV T cX0_takeOver (fun M' => M' = tu_tk M 1 70) := hret
  have hnl : T.2.2.2.2.2.2.2.2.2.2.1 = 2 := hnl
  show tu_W T 0 [(0, tu_r 1), (1, tu_r 70)] [] M
  refine tu_aload_n 0 X 1 dX0_takeOver_0 rfl ?_
  refine tu_getR 1 X dX0_takeOver_1 fl_RX0_9 (by decide) rfl rfl ?_
  refine tu_iconst 4 X dX0_takeOver_4 ?_
  refine tu_aload_n 5 X 0 dX0_takeOver_5 rfl ?_
  refine tu_getR 6 X dX0_takeOver_6 fl_RX0_9 (by decide) rfl rfl ?_
  refine tu_iconst 9 X dX0_takeOver_9 ?_
  refine tu_iconst 10 X dX0_takeOver_10 ?_
  refine tu_copy 11 X (M' := tu_row M 2 (va_cpy (M 71) (M 2) 0 0 4)) 0 0 4 ac_RX0 dX0_takeOver_11 (by decide) (by decide) rfl rfl (by decide) (by decide) rfl rfl rfl (by omega) (by omega) rfl (Nat.le_of_ble_eq_true rfl) (by decide) (Nat.le_trans nf_le (by decide)) ?_
  refine tu_aload_n 14 X 0 dX0_takeOver_14 rfl ?_
  refine tu_aload_n 15 X 1 dX0_takeOver_15 rfl ?_
  refine tu_getI 16 X (x := M 70 1) dX0_takeOver_16 fl_RX0_15 (by decide) rfl rfl rfl ?_
  refine tu_putI 19 X (M' := tu_row (tu_row M 1 (tu_u (M 1) 1 (M 70 1))) 2 (va_cpy (M 71) (M 2) 0 0 4)) dX0_takeOver_19 fp_RX0_15 (by decide) rfl rfl (tu_rc M (va_cpy (M 71) (M 2) 0 0 4) (tu_u (M 1) 1 (M 70 1)) rfl) ?_
  refine tu_aload_n 22 X 1 dX0_takeOver_22 rfl ?_
  refine tu_getR 23 X dX0_takeOver_23 fl_RX0_19 (by decide) rfl rfl ?_
  refine tu_iconst 26 X dX0_takeOver_26 ?_
  refine tu_aload_n 27 X 0 dX0_takeOver_27 rfl ?_
  refine tu_getR 28 X dX0_takeOver_28 fl_RX0_19 (by decide) rfl rfl ?_
  refine tu_iconst 31 X dX0_takeOver_31 ?_
  refine tu_bipush 32 X dX0_takeOver_32 (by decide) ?_
  refine tu_copy 34 X (M' := tu_row (tu_row (tu_row M 1 (tu_u (M 1) 1 (M 70 1))) 2 (va_cpy (M 71) (M 2) 0 0 4)) 3 (va_cpy (M 72) (M 3) 0 0 16)) 0 0 16 ac_RX0 dX0_takeOver_34 (by decide) (by decide) rfl rfl (by decide) (by decide) rfl rfl rfl (by omega) (by omega) rfl (Nat.le_of_ble_eq_true rfl) (by decide) (Nat.le_trans nf_le (by decide)) ?_
  refine tu_aload_n 37 X 1 dX0_takeOver_37 rfl ?_
  refine tu_getR 38 X dX0_takeOver_38 fl_RX0_22 (by decide) rfl rfl ?_
  refine tu_iconst 41 X dX0_takeOver_41 ?_
  refine tu_aload_n 42 X 0 dX0_takeOver_42 rfl ?_
  refine tu_getR 43 X dX0_takeOver_43 fl_RX0_22 (by decide) rfl rfl ?_
  refine tu_iconst 46 X dX0_takeOver_46 ?_
  refine tu_sipush 47 X dX0_takeOver_47 (by decide) ?_
  refine tu_copy 50 X (M' := tu_row (tu_row (tu_row (tu_row M 1 (tu_u (M 1) 1 (M 70 1))) 2 (va_cpy (M 71) (M 2) 0 0 4)) 3 (va_cpy (M 72) (M 3) 0 0 16)) 4 (va_cpy (M 73) (M 4) 0 0 256)) 0 0 256 ac_RX0 dX0_takeOver_50 (by decide) (by decide) rfl rfl (by decide) (by decide) rfl rfl rfl (by omega) (by omega) rfl (Nat.le_of_ble_eq_true rfl) (by decide) (Nat.le_trans nf_le (by decide)) ?_
  refine tu_aload_n 53 X 0 dX0_takeOver_53 rfl ?_
  refine tu_aload_n 54 X 1 dX0_takeOver_54 rfl ?_
  refine tu_getI 55 X (x := M 70 4) dX0_takeOver_55 fl_RX0_25 (by decide) rfl rfl rfl ?_
  refine tu_putI 58 X (M' := tu_row (tu_row (tu_row (tu_row M 1 (tu_u (tu_u (M 1) 1 (M 70 1)) 4 (M 70 4))) 2 (va_cpy (M 71) (M 2) 0 0 4)) 3 (va_cpy (M 72) (M 3) 0 0 16)) 4 (va_cpy (M 73) (M 4) 0 0 256)) dX0_takeOver_58 fp_RX0_25 (by decide) rfl rfl ((tu_rc (tu_row (tu_row (tu_row M 1 (tu_u (M 1) 1 (M 70 1))) 2 (va_cpy (M 71) (M 2) 0 0 4)) 3 (va_cpy (M 72) (M 3) 0 0 16)) (va_cpy (M 73) (M 4) 0 0 256) (tu_u (tu_u (M 1) 1 (M 70 1)) 4 (M 70 4)) rfl).trans (congrArg (fun m => tu_row m 4 (va_cpy (M 73) (M 4) 0 0 256)) ((tu_rc (tu_row (tu_row M 1 (tu_u (M 1) 1 (M 70 1))) 2 (va_cpy (M 71) (M 2) 0 0 4)) (va_cpy (M 72) (M 3) 0 0 16) (tu_u (tu_u (M 1) 1 (M 70 1)) 4 (M 70 4)) rfl).trans (congrArg (fun m => tu_row m 3 (va_cpy (M 72) (M 3) 0 0 16)) ((tu_rc (tu_row M 1 (tu_u (M 1) 1 (M 70 1))) (va_cpy (M 71) (M 2) 0 0 4) (tu_u (tu_u (M 1) 1 (M 70 1)) 4 (M 70 4)) rfl).trans (congrArg (fun m => tu_row m 2 (va_cpy (M 71) (M 2) 0 0 4)) (tu_rr M 1 (tu_u (M 1) 1 (M 70 1)) (tu_u (tu_u (M 1) 1 (M 70 1)) 4 (M 70 4))))))))) ?_
  refine tu_aload_n 61 X 1 dX0_takeOver_61 rfl ?_
  refine tu_getR 62 X dX0_takeOver_62 fl_RX0_28 (by decide) rfl rfl ?_
  refine tu_iconst 65 X dX0_takeOver_65 ?_
  refine tu_aload_n 66 X 0 dX0_takeOver_66 rfl ?_
  refine tu_getR 67 X dX0_takeOver_67 fl_RX0_28 (by decide) rfl rfl ?_
  refine tu_iconst 70 X dX0_takeOver_70 ?_
  refine tu_bipush 71 X dX0_takeOver_71 (by decide) ?_
  refine tu_copy 73 X (M' := tu_row (tu_row (tu_row (tu_row (tu_row M 1 (tu_u (tu_u (M 1) 1 (M 70 1)) 4 (M 70 4))) 2 (va_cpy (M 71) (M 2) 0 0 4)) 3 (va_cpy (M 72) (M 3) 0 0 16)) 4 (va_cpy (M 73) (M 4) 0 0 256)) 5 (va_cpy (M 74) (M 5) 0 0 8)) 0 0 8 ac_RX0 dX0_takeOver_73 (by decide) (by decide) rfl rfl (by decide) (by decide) rfl rfl rfl (by omega) (by omega) rfl (Nat.le_of_ble_eq_true rfl) (by decide) (Nat.le_trans nf_le (by decide)) ?_
  refine tu_aload_n 76 X 1 dX0_takeOver_76 rfl ?_
  refine tu_getR 77 X dX0_takeOver_77 fl_RX0_31 (by decide) rfl rfl ?_
  refine tu_iconst 80 X dX0_takeOver_80 ?_
  refine tu_aload_n 81 X 0 dX0_takeOver_81 rfl ?_
  refine tu_getR 82 X dX0_takeOver_82 fl_RX0_31 (by decide) rfl rfl ?_
  refine tu_iconst 85 X dX0_takeOver_85 ?_
  refine tu_sipush 86 X dX0_takeOver_86 (by decide) ?_
  refine tu_copy 89 X (M' := tu_row (tu_row (tu_row (tu_row (tu_row (tu_row M 1 (tu_u (tu_u (M 1) 1 (M 70 1)) 4 (M 70 4))) 2 (va_cpy (M 71) (M 2) 0 0 4)) 3 (va_cpy (M 72) (M 3) 0 0 16)) 4 (va_cpy (M 73) (M 4) 0 0 256)) 5 (va_cpy (M 74) (M 5) 0 0 8)) 6 (va_cpy (M 75) (M 6) 0 0 192)) 0 0 192 ac_RX0 dX0_takeOver_89 (by decide) (by decide) rfl rfl (by decide) (by decide) rfl rfl rfl (by omega) (by omega) rfl (Nat.le_of_ble_eq_true rfl) (by decide) (Nat.le_trans nf_le (by decide)) ?_
  refine tu_aload_n 92 X 0 dX0_takeOver_92 rfl ?_
  refine tu_aload_n 93 X 1 dX0_takeOver_93 rfl ?_
  refine tu_getI 94 X (x := M 70 7) dX0_takeOver_94 fl_RX0_34 (by decide) rfl rfl rfl ?_
  refine tu_putI 97 X (M' := tu_row (tu_row (tu_row (tu_row (tu_row (tu_row M 1 (tu_u (tu_u (tu_u (M 1) 1 (M 70 1)) 4 (M 70 4)) 7 (M 70 7))) 2 (va_cpy (M 71) (M 2) 0 0 4)) 3 (va_cpy (M 72) (M 3) 0 0 16)) 4 (va_cpy (M 73) (M 4) 0 0 256)) 5 (va_cpy (M 74) (M 5) 0 0 8)) 6 (va_cpy (M 75) (M 6) 0 0 192)) dX0_takeOver_97 fp_RX0_34 (by decide) rfl rfl ((tu_rc (tu_row (tu_row (tu_row (tu_row (tu_row M 1 (tu_u (tu_u (M 1) 1 (M 70 1)) 4 (M 70 4))) 2 (va_cpy (M 71) (M 2) 0 0 4)) 3 (va_cpy (M 72) (M 3) 0 0 16)) 4 (va_cpy (M 73) (M 4) 0 0 256)) 5 (va_cpy (M 74) (M 5) 0 0 8)) (va_cpy (M 75) (M 6) 0 0 192) (tu_u (tu_u (tu_u (M 1) 1 (M 70 1)) 4 (M 70 4)) 7 (M 70 7)) rfl).trans (congrArg (fun m => tu_row m 6 (va_cpy (M 75) (M 6) 0 0 192)) ((tu_rc (tu_row (tu_row (tu_row (tu_row M 1 (tu_u (tu_u (M 1) 1 (M 70 1)) 4 (M 70 4))) 2 (va_cpy (M 71) (M 2) 0 0 4)) 3 (va_cpy (M 72) (M 3) 0 0 16)) 4 (va_cpy (M 73) (M 4) 0 0 256)) (va_cpy (M 74) (M 5) 0 0 8) (tu_u (tu_u (tu_u (M 1) 1 (M 70 1)) 4 (M 70 4)) 7 (M 70 7)) rfl).trans (congrArg (fun m => tu_row m 5 (va_cpy (M 74) (M 5) 0 0 8)) ((tu_rc (tu_row (tu_row (tu_row M 1 (tu_u (tu_u (M 1) 1 (M 70 1)) 4 (M 70 4))) 2 (va_cpy (M 71) (M 2) 0 0 4)) 3 (va_cpy (M 72) (M 3) 0 0 16)) (va_cpy (M 73) (M 4) 0 0 256) (tu_u (tu_u (tu_u (M 1) 1 (M 70 1)) 4 (M 70 4)) 7 (M 70 7)) rfl).trans (congrArg (fun m => tu_row m 4 (va_cpy (M 73) (M 4) 0 0 256)) ((tu_rc (tu_row (tu_row M 1 (tu_u (tu_u (M 1) 1 (M 70 1)) 4 (M 70 4))) 2 (va_cpy (M 71) (M 2) 0 0 4)) (va_cpy (M 72) (M 3) 0 0 16) (tu_u (tu_u (tu_u (M 1) 1 (M 70 1)) 4 (M 70 4)) 7 (M 70 7)) rfl).trans (congrArg (fun m => tu_row m 3 (va_cpy (M 72) (M 3) 0 0 16)) ((tu_rc (tu_row M 1 (tu_u (tu_u (M 1) 1 (M 70 1)) 4 (M 70 4))) (va_cpy (M 71) (M 2) 0 0 4) (tu_u (tu_u (tu_u (M 1) 1 (M 70 1)) 4 (M 70 4)) 7 (M 70 7)) rfl).trans (congrArg (fun m => tu_row m 2 (va_cpy (M 71) (M 2) 0 0 4)) (tu_rr M 1 (tu_u (tu_u (M 1) 1 (M 70 1)) 4 (M 70 4)) (tu_u (tu_u (tu_u (M 1) 1 (M 70 1)) 4 (M 70 4)) 7 (M 70 7))))))))))))) ?_
  refine tu_aload_n 100 X 1 dX0_takeOver_100 rfl ?_
  refine tu_getR 101 X dX0_takeOver_101 fl_RX0_37 (by decide) rfl rfl ?_
  refine tu_iconst 104 X dX0_takeOver_104 ?_
  refine tu_aload_n 105 X 0 dX0_takeOver_105 rfl ?_
  refine tu_getR 106 X dX0_takeOver_106 fl_RX0_37 (by decide) rfl rfl ?_
  refine tu_iconst 109 X dX0_takeOver_109 ?_
  refine tu_bipush 110 X dX0_takeOver_110 (by decide) ?_
  refine tu_copy 112 X (M' := tu_row (tu_row (tu_row (tu_row (tu_row (tu_row (tu_row M 1 (tu_u (tu_u (tu_u (M 1) 1 (M 70 1)) 4 (M 70 4)) 7 (M 70 7))) 2 (va_cpy (M 71) (M 2) 0 0 4)) 3 (va_cpy (M 72) (M 3) 0 0 16)) 4 (va_cpy (M 73) (M 4) 0 0 256)) 5 (va_cpy (M 74) (M 5) 0 0 8)) 6 (va_cpy (M 75) (M 6) 0 0 192)) 7 (va_cpy (M 76) (M 7) 0 0 40)) 0 0 40 ac_RX0 dX0_takeOver_112 (by decide) (by decide) rfl rfl (by decide) (by decide) rfl rfl rfl (by omega) (by omega) rfl (Nat.le_of_ble_eq_true rfl) (by decide) (Nat.le_trans nf_le (by decide)) ?_
  refine tu_aload_n 115 X 0 dX0_takeOver_115 rfl ?_
  refine tu_aload_n 116 X 1 dX0_takeOver_116 rfl ?_
  refine tu_getI 117 X (x := M 70 9) dX0_takeOver_117 fl_RX0_40 (by decide) rfl rfl rfl ?_
  refine tu_putI 120 X (M' := tu_row (tu_row (tu_row (tu_row (tu_row (tu_row (tu_row M 1 (tu_u (tu_u (tu_u (tu_u (M 1) 1 (M 70 1)) 4 (M 70 4)) 7 (M 70 7)) 9 (M 70 9))) 2 (va_cpy (M 71) (M 2) 0 0 4)) 3 (va_cpy (M 72) (M 3) 0 0 16)) 4 (va_cpy (M 73) (M 4) 0 0 256)) 5 (va_cpy (M 74) (M 5) 0 0 8)) 6 (va_cpy (M 75) (M 6) 0 0 192)) 7 (va_cpy (M 76) (M 7) 0 0 40)) dX0_takeOver_120 fp_RX0_40 (by decide) rfl rfl ((tu_rc (tu_row (tu_row (tu_row (tu_row (tu_row (tu_row M 1 (tu_u (tu_u (tu_u (M 1) 1 (M 70 1)) 4 (M 70 4)) 7 (M 70 7))) 2 (va_cpy (M 71) (M 2) 0 0 4)) 3 (va_cpy (M 72) (M 3) 0 0 16)) 4 (va_cpy (M 73) (M 4) 0 0 256)) 5 (va_cpy (M 74) (M 5) 0 0 8)) 6 (va_cpy (M 75) (M 6) 0 0 192)) (va_cpy (M 76) (M 7) 0 0 40) (tu_u (tu_u (tu_u (tu_u (M 1) 1 (M 70 1)) 4 (M 70 4)) 7 (M 70 7)) 9 (M 70 9)) rfl).trans (congrArg (fun m => tu_row m 7 (va_cpy (M 76) (M 7) 0 0 40)) ((tu_rc (tu_row (tu_row (tu_row (tu_row (tu_row M 1 (tu_u (tu_u (tu_u (M 1) 1 (M 70 1)) 4 (M 70 4)) 7 (M 70 7))) 2 (va_cpy (M 71) (M 2) 0 0 4)) 3 (va_cpy (M 72) (M 3) 0 0 16)) 4 (va_cpy (M 73) (M 4) 0 0 256)) 5 (va_cpy (M 74) (M 5) 0 0 8)) (va_cpy (M 75) (M 6) 0 0 192) (tu_u (tu_u (tu_u (tu_u (M 1) 1 (M 70 1)) 4 (M 70 4)) 7 (M 70 7)) 9 (M 70 9)) rfl).trans (congrArg (fun m => tu_row m 6 (va_cpy (M 75) (M 6) 0 0 192)) ((tu_rc (tu_row (tu_row (tu_row (tu_row M 1 (tu_u (tu_u (tu_u (M 1) 1 (M 70 1)) 4 (M 70 4)) 7 (M 70 7))) 2 (va_cpy (M 71) (M 2) 0 0 4)) 3 (va_cpy (M 72) (M 3) 0 0 16)) 4 (va_cpy (M 73) (M 4) 0 0 256)) (va_cpy (M 74) (M 5) 0 0 8) (tu_u (tu_u (tu_u (tu_u (M 1) 1 (M 70 1)) 4 (M 70 4)) 7 (M 70 7)) 9 (M 70 9)) rfl).trans (congrArg (fun m => tu_row m 5 (va_cpy (M 74) (M 5) 0 0 8)) ((tu_rc (tu_row (tu_row (tu_row M 1 (tu_u (tu_u (tu_u (M 1) 1 (M 70 1)) 4 (M 70 4)) 7 (M 70 7))) 2 (va_cpy (M 71) (M 2) 0 0 4)) 3 (va_cpy (M 72) (M 3) 0 0 16)) (va_cpy (M 73) (M 4) 0 0 256) (tu_u (tu_u (tu_u (tu_u (M 1) 1 (M 70 1)) 4 (M 70 4)) 7 (M 70 7)) 9 (M 70 9)) rfl).trans (congrArg (fun m => tu_row m 4 (va_cpy (M 73) (M 4) 0 0 256)) ((tu_rc (tu_row (tu_row M 1 (tu_u (tu_u (tu_u (M 1) 1 (M 70 1)) 4 (M 70 4)) 7 (M 70 7))) 2 (va_cpy (M 71) (M 2) 0 0 4)) (va_cpy (M 72) (M 3) 0 0 16) (tu_u (tu_u (tu_u (tu_u (M 1) 1 (M 70 1)) 4 (M 70 4)) 7 (M 70 7)) 9 (M 70 9)) rfl).trans (congrArg (fun m => tu_row m 3 (va_cpy (M 72) (M 3) 0 0 16)) ((tu_rc (tu_row M 1 (tu_u (tu_u (tu_u (M 1) 1 (M 70 1)) 4 (M 70 4)) 7 (M 70 7))) (va_cpy (M 71) (M 2) 0 0 4) (tu_u (tu_u (tu_u (tu_u (M 1) 1 (M 70 1)) 4 (M 70 4)) 7 (M 70 7)) 9 (M 70 9)) rfl).trans (congrArg (fun m => tu_row m 2 (va_cpy (M 71) (M 2) 0 0 4)) (tu_rr M 1 (tu_u (tu_u (tu_u (M 1) 1 (M 70 1)) 4 (M 70 4)) 7 (M 70 7)) (tu_u (tu_u (tu_u (tu_u (M 1) 1 (M 70 1)) 4 (M 70 4)) 7 (M 70 7)) 9 (M 70 9))))))))))))))) ?_
  refine tu_aload_n 123 X 1 dX0_takeOver_123 rfl ?_
  refine tu_getR 124 X dX0_takeOver_124 fl_RX0_43 (by decide) rfl rfl ?_
  refine tu_iconst 127 X dX0_takeOver_127 ?_
  refine tu_aload_n 128 X 0 dX0_takeOver_128 rfl ?_
  refine tu_getR 129 X dX0_takeOver_129 fl_RX0_43 (by decide) rfl rfl ?_
  refine tu_iconst 132 X dX0_takeOver_132 ?_
  refine tu_bipush 133 X dX0_takeOver_133 (by decide) ?_
  refine tu_copy 135 X (M' := tu_row (tu_row (tu_row (tu_row (tu_row (tu_row (tu_row (tu_row M 1 (tu_u (tu_u (tu_u (tu_u (M 1) 1 (M 70 1)) 4 (M 70 4)) 7 (M 70 7)) 9 (M 70 9))) 2 (va_cpy (M 71) (M 2) 0 0 4)) 3 (va_cpy (M 72) (M 3) 0 0 16)) 4 (va_cpy (M 73) (M 4) 0 0 256)) 5 (va_cpy (M 74) (M 5) 0 0 8)) 6 (va_cpy (M 75) (M 6) 0 0 192)) 7 (va_cpy (M 76) (M 7) 0 0 40)) 8 (va_cpy (M 77) (M 8) 0 0 8)) 0 0 8 ac_RX0 dX0_takeOver_135 (by decide) (by decide) rfl rfl (by decide) (by decide) rfl rfl rfl (by omega) (by omega) rfl (Nat.le_of_ble_eq_true rfl) (by decide) (Nat.le_trans nf_le (by decide)) ?_
  refine tu_ext (N := tu_tk M 1 70) ?_ (hret 138 _ _ dX0_takeOver_138 rfl)
  refine tu_tk_q (Or.inl rfl) (fun i hi => by rw [tu_row_n _ _ (by omega), tu_row_n _ _ (by omega), tu_row_n _ _ (by omega), tu_row_n _ _ (by omega), tu_row_n _ _ (by omega), tu_row_n _ _ (by omega), tu_row_n _ _ (by omega), tu_row_n _ _ (by omega)]) (fun j hj => tu_cp hj) (fun j hj => tu_cp hj) (fun j hj => tu_cp hj) (fun j hj => tu_cp hj) (fun j hj => tu_cp hj) (fun j hj => tu_cp hj) (fun j hj => tu_cp hj) rfl rfl rfl rfl
set_option maxRecDepth 20000 in
set_option maxHeartbeats 4000000 in
theorem c_X0_takeOver_78_1 {M : tu_M}   : tu_MV tu_Y_X0_takeOver [tu_r 78, tu_r 1] M (fun M' => M' = tu_tk M 78 1) := by
  refine tu_MV.of (by decide) rfl (Nat.le_of_ble_eq_true rfl) (fun T (X : tu_X T cX0_takeOver RX0 1 40) hnl hret => ?_)
  have hret : tu_RV T cX0_takeOver (fun M' => M' = tu_tk M 78 1) := hret
  have hnl : T.2.2.2.2.2.2.2.2.2.2.1 = 2 := hnl
  show tu_W T 0 [(0, tu_r 78), (1, tu_r 1)] [] M
  refine tu_aload_n 0 X 1 dX0_takeOver_0 rfl ?_
  refine tu_getR 1 X dX0_takeOver_1 fl_RX0_9 (by decide) rfl rfl ?_
  refine tu_iconst 4 X dX0_takeOver_4 ?_
  refine tu_aload_n 5 X 0 dX0_takeOver_5 rfl ?_
  refine tu_getR 6 X dX0_takeOver_6 fl_RX0_9 (by decide) rfl rfl ?_
  refine tu_iconst 9 X dX0_takeOver_9 ?_
  refine tu_iconst 10 X dX0_takeOver_10 ?_
  refine tu_copy 11 X (M' := tu_row M 79 (va_cpy (M 2) (M 79) 0 0 4)) 0 0 4 ac_RX0 dX0_takeOver_11 (by decide) (by decide) rfl rfl (by decide) (by decide) rfl rfl rfl (by omega) (by omega) rfl (Nat.le_of_ble_eq_true rfl) (by decide) (Nat.le_trans nf_le (by decide)) ?_
  refine tu_aload_n 14 X 0 dX0_takeOver_14 rfl ?_
  refine tu_aload_n 15 X 1 dX0_takeOver_15 rfl ?_
  refine tu_getI 16 X (x := M 1 1) dX0_takeOver_16 fl_RX0_15 (by decide) rfl rfl rfl ?_
  refine tu_putI 19 X (M' := tu_row (tu_row M 78 (tu_u (M 78) 1 (M 1 1))) 79 (va_cpy (M 2) (M 79) 0 0 4)) dX0_takeOver_19 fp_RX0_15 (by decide) rfl rfl (tu_rc M (va_cpy (M 2) (M 79) 0 0 4) (tu_u (M 78) 1 (M 1 1)) rfl) ?_
  refine tu_aload_n 22 X 1 dX0_takeOver_22 rfl ?_
  refine tu_getR 23 X dX0_takeOver_23 fl_RX0_19 (by decide) rfl rfl ?_
  refine tu_iconst 26 X dX0_takeOver_26 ?_
  refine tu_aload_n 27 X 0 dX0_takeOver_27 rfl ?_
  refine tu_getR 28 X dX0_takeOver_28 fl_RX0_19 (by decide) rfl rfl ?_
  refine tu_iconst 31 X dX0_takeOver_31 ?_
  refine tu_bipush 32 X dX0_takeOver_32 (by decide) ?_
  refine tu_copy 34 X (M' := tu_row (tu_row (tu_row M 78 (tu_u (M 78) 1 (M 1 1))) 79 (va_cpy (M 2) (M 79) 0 0 4)) 80 (va_cpy (M 3) (M 80) 0 0 16)) 0 0 16 ac_RX0 dX0_takeOver_34 (by decide) (by decide) rfl rfl (by decide) (by decide) rfl rfl rfl (by omega) (by omega) rfl (Nat.le_of_ble_eq_true rfl) (by decide) (Nat.le_trans nf_le (by decide)) ?_
  refine tu_aload_n 37 X 1 dX0_takeOver_37 rfl ?_
  refine tu_getR 38 X dX0_takeOver_38 fl_RX0_22 (by decide) rfl rfl ?_
  refine tu_iconst 41 X dX0_takeOver_41 ?_
  refine tu_aload_n 42 X 0 dX0_takeOver_42 rfl ?_
  refine tu_getR 43 X dX0_takeOver_43 fl_RX0_22 (by decide) rfl rfl ?_
  refine tu_iconst 46 X dX0_takeOver_46 ?_
  refine tu_sipush 47 X dX0_takeOver_47 (by decide) ?_
  refine tu_copy 50 X (M' := tu_row (tu_row (tu_row (tu_row M 78 (tu_u (M 78) 1 (M 1 1))) 79 (va_cpy (M 2) (M 79) 0 0 4)) 80 (va_cpy (M 3) (M 80) 0 0 16)) 81 (va_cpy (M 4) (M 81) 0 0 256)) 0 0 256 ac_RX0 dX0_takeOver_50 (by decide) (by decide) rfl rfl (by decide) (by decide) rfl rfl rfl (by omega) (by omega) rfl (Nat.le_of_ble_eq_true rfl) (by decide) (Nat.le_trans nf_le (by decide)) ?_
  refine tu_aload_n 53 X 0 dX0_takeOver_53 rfl ?_
  refine tu_aload_n 54 X 1 dX0_takeOver_54 rfl ?_
  refine tu_getI 55 X (x := M 1 4) dX0_takeOver_55 fl_RX0_25 (by decide) rfl rfl rfl ?_
  refine tu_putI 58 X (M' := tu_row (tu_row (tu_row (tu_row M 78 (tu_u (tu_u (M 78) 1 (M 1 1)) 4 (M 1 4))) 79 (va_cpy (M 2) (M 79) 0 0 4)) 80 (va_cpy (M 3) (M 80) 0 0 16)) 81 (va_cpy (M 4) (M 81) 0 0 256)) dX0_takeOver_58 fp_RX0_25 (by decide) rfl rfl ((tu_rc (tu_row (tu_row (tu_row M 78 (tu_u (M 78) 1 (M 1 1))) 79 (va_cpy (M 2) (M 79) 0 0 4)) 80 (va_cpy (M 3) (M 80) 0 0 16)) (va_cpy (M 4) (M 81) 0 0 256) (tu_u (tu_u (M 78) 1 (M 1 1)) 4 (M 1 4)) rfl).trans (congrArg (fun m => tu_row m 81 (va_cpy (M 4) (M 81) 0 0 256)) ((tu_rc (tu_row (tu_row M 78 (tu_u (M 78) 1 (M 1 1))) 79 (va_cpy (M 2) (M 79) 0 0 4)) (va_cpy (M 3) (M 80) 0 0 16) (tu_u (tu_u (M 78) 1 (M 1 1)) 4 (M 1 4)) rfl).trans (congrArg (fun m => tu_row m 80 (va_cpy (M 3) (M 80) 0 0 16)) ((tu_rc (tu_row M 78 (tu_u (M 78) 1 (M 1 1))) (va_cpy (M 2) (M 79) 0 0 4) (tu_u (tu_u (M 78) 1 (M 1 1)) 4 (M 1 4)) rfl).trans (congrArg (fun m => tu_row m 79 (va_cpy (M 2) (M 79) 0 0 4)) (tu_rr M 78 (tu_u (M 78) 1 (M 1 1)) (tu_u (tu_u (M 78) 1 (M 1 1)) 4 (M 1 4))))))))) ?_
  refine tu_aload_n 61 X 1 dX0_takeOver_61 rfl ?_
  refine tu_getR 62 X dX0_takeOver_62 fl_RX0_28 (by decide) rfl rfl ?_
  refine tu_iconst 65 X dX0_takeOver_65 ?_
  refine tu_aload_n 66 X 0 dX0_takeOver_66 rfl ?_
  refine tu_getR 67 X dX0_takeOver_67 fl_RX0_28 (by decide) rfl rfl ?_
  refine tu_iconst 70 X dX0_takeOver_70 ?_
  refine tu_bipush 71 X dX0_takeOver_71 (by decide) ?_
  refine tu_copy 73 X (M' := tu_row (tu_row (tu_row (tu_row (tu_row M 78 (tu_u (tu_u (M 78) 1 (M 1 1)) 4 (M 1 4))) 79 (va_cpy (M 2) (M 79) 0 0 4)) 80 (va_cpy (M 3) (M 80) 0 0 16)) 81 (va_cpy (M 4) (M 81) 0 0 256)) 82 (va_cpy (M 5) (M 82) 0 0 8)) 0 0 8 ac_RX0 dX0_takeOver_73 (by decide) (by decide) rfl rfl (by decide) (by decide) rfl rfl rfl (by omega) (by omega) rfl (Nat.le_of_ble_eq_true rfl) (by decide) (Nat.le_trans nf_le (by decide)) ?_
  refine tu_aload_n 76 X 1 dX0_takeOver_76 rfl ?_
  refine tu_getR 77 X dX0_takeOver_77 fl_RX0_31 (by decide) rfl rfl ?_
  refine tu_iconst 80 X dX0_takeOver_80 ?_
  refine tu_aload_n 81 X 0 dX0_takeOver_81 rfl ?_
  refine tu_getR 82 X dX0_takeOver_82 fl_RX0_31 (by decide) rfl rfl ?_
  refine tu_iconst 85 X dX0_takeOver_85 ?_
  refine tu_sipush 86 X dX0_takeOver_86 (by decide) ?_
  refine tu_copy 89 X (M' := tu_row (tu_row (tu_row (tu_row (tu_row (tu_row M 78 (tu_u (tu_u (M 78) 1 (M 1 1)) 4 (M 1 4))) 79 (va_cpy (M 2) (M 79) 0 0 4)) 80 (va_cpy (M 3) (M 80) 0 0 16)) 81 (va_cpy (M 4) (M 81) 0 0 256)) 82 (va_cpy (M 5) (M 82) 0 0 8)) 83 (va_cpy (M 6) (M 83) 0 0 192)) 0 0 192 ac_RX0 dX0_takeOver_89 (by decide) (by decide) rfl rfl (by decide) (by decide) rfl rfl rfl (by omega) (by omega) rfl (Nat.le_of_ble_eq_true rfl) (by decide) (Nat.le_trans nf_le (by decide)) ?_
  refine tu_aload_n 92 X 0 dX0_takeOver_92 rfl ?_
  refine tu_aload_n 93 X 1 dX0_takeOver_93 rfl ?_
  refine tu_getI 94 X (x := M 1 7) dX0_takeOver_94 fl_RX0_34 (by decide) rfl rfl rfl ?_
  refine tu_putI 97 X (M' := tu_row (tu_row (tu_row (tu_row (tu_row (tu_row M 78 (tu_u (tu_u (tu_u (M 78) 1 (M 1 1)) 4 (M 1 4)) 7 (M 1 7))) 79 (va_cpy (M 2) (M 79) 0 0 4)) 80 (va_cpy (M 3) (M 80) 0 0 16)) 81 (va_cpy (M 4) (M 81) 0 0 256)) 82 (va_cpy (M 5) (M 82) 0 0 8)) 83 (va_cpy (M 6) (M 83) 0 0 192)) dX0_takeOver_97 fp_RX0_34 (by decide) rfl rfl ((tu_rc (tu_row (tu_row (tu_row (tu_row (tu_row M 78 (tu_u (tu_u (M 78) 1 (M 1 1)) 4 (M 1 4))) 79 (va_cpy (M 2) (M 79) 0 0 4)) 80 (va_cpy (M 3) (M 80) 0 0 16)) 81 (va_cpy (M 4) (M 81) 0 0 256)) 82 (va_cpy (M 5) (M 82) 0 0 8)) (va_cpy (M 6) (M 83) 0 0 192) (tu_u (tu_u (tu_u (M 78) 1 (M 1 1)) 4 (M 1 4)) 7 (M 1 7)) rfl).trans (congrArg (fun m => tu_row m 83 (va_cpy (M 6) (M 83) 0 0 192)) ((tu_rc (tu_row (tu_row (tu_row (tu_row M 78 (tu_u (tu_u (M 78) 1 (M 1 1)) 4 (M 1 4))) 79 (va_cpy (M 2) (M 79) 0 0 4)) 80 (va_cpy (M 3) (M 80) 0 0 16)) 81 (va_cpy (M 4) (M 81) 0 0 256)) (va_cpy (M 5) (M 82) 0 0 8) (tu_u (tu_u (tu_u (M 78) 1 (M 1 1)) 4 (M 1 4)) 7 (M 1 7)) rfl).trans (congrArg (fun m => tu_row m 82 (va_cpy (M 5) (M 82) 0 0 8)) ((tu_rc (tu_row (tu_row (tu_row M 78 (tu_u (tu_u (M 78) 1 (M 1 1)) 4 (M 1 4))) 79 (va_cpy (M 2) (M 79) 0 0 4)) 80 (va_cpy (M 3) (M 80) 0 0 16)) (va_cpy (M 4) (M 81) 0 0 256) (tu_u (tu_u (tu_u (M 78) 1 (M 1 1)) 4 (M 1 4)) 7 (M 1 7)) rfl).trans (congrArg (fun m => tu_row m 81 (va_cpy (M 4) (M 81) 0 0 256)) ((tu_rc (tu_row (tu_row M 78 (tu_u (tu_u (M 78) 1 (M 1 1)) 4 (M 1 4))) 79 (va_cpy (M 2) (M 79) 0 0 4)) (va_cpy (M 3) (M 80) 0 0 16) (tu_u (tu_u (tu_u (M 78) 1 (M 1 1)) 4 (M 1 4)) 7 (M 1 7)) rfl).trans (congrArg (fun m => tu_row m 80 (va_cpy (M 3) (M 80) 0 0 16)) ((tu_rc (tu_row M 78 (tu_u (tu_u (M 78) 1 (M 1 1)) 4 (M 1 4))) (va_cpy (M 2) (M 79) 0 0 4) (tu_u (tu_u (tu_u (M 78) 1 (M 1 1)) 4 (M 1 4)) 7 (M 1 7)) rfl).trans (congrArg (fun m => tu_row m 79 (va_cpy (M 2) (M 79) 0 0 4)) (tu_rr M 78 (tu_u (tu_u (M 78) 1 (M 1 1)) 4 (M 1 4)) (tu_u (tu_u (tu_u (M 78) 1 (M 1 1)) 4 (M 1 4)) 7 (M 1 7))))))))))))) ?_
  refine tu_aload_n 100 X 1 dX0_takeOver_100 rfl ?_
  refine tu_getR 101 X dX0_takeOver_101 fl_RX0_37 (by decide) rfl rfl ?_
  refine tu_iconst 104 X dX0_takeOver_104 ?_
  refine tu_aload_n 105 X 0 dX0_takeOver_105 rfl ?_
  refine tu_getR 106 X dX0_takeOver_106 fl_RX0_37 (by decide) rfl rfl ?_
  refine tu_iconst 109 X dX0_takeOver_109 ?_
  refine tu_bipush 110 X dX0_takeOver_110 (by decide) ?_
  refine tu_copy 112 X (M' := tu_row (tu_row (tu_row (tu_row (tu_row (tu_row (tu_row M 78 (tu_u (tu_u (tu_u (M 78) 1 (M 1 1)) 4 (M 1 4)) 7 (M 1 7))) 79 (va_cpy (M 2) (M 79) 0 0 4)) 80 (va_cpy (M 3) (M 80) 0 0 16)) 81 (va_cpy (M 4) (M 81) 0 0 256)) 82 (va_cpy (M 5) (M 82) 0 0 8)) 83 (va_cpy (M 6) (M 83) 0 0 192)) 84 (va_cpy (M 7) (M 84) 0 0 40)) 0 0 40 ac_RX0 dX0_takeOver_112 (by decide) (by decide) rfl rfl (by decide) (by decide) rfl rfl rfl (by omega) (by omega) rfl (Nat.le_of_ble_eq_true rfl) (by decide) (Nat.le_trans nf_le (by decide)) ?_
  refine tu_aload_n 115 X 0 dX0_takeOver_115 rfl ?_
  refine tu_aload_n 116 X 1 dX0_takeOver_116 rfl ?_
  refine tu_getI 117 X (x := M 1 9) dX0_takeOver_117 fl_RX0_40 (by decide) rfl rfl rfl ?_
  refine tu_putI 120 X (M' := tu_row (tu_row (tu_row (tu_row (tu_row (tu_row (tu_row M 78 (tu_u (tu_u (tu_u (tu_u (M 78) 1 (M 1 1)) 4 (M 1 4)) 7 (M 1 7)) 9 (M 1 9))) 79 (va_cpy (M 2) (M 79) 0 0 4)) 80 (va_cpy (M 3) (M 80) 0 0 16)) 81 (va_cpy (M 4) (M 81) 0 0 256)) 82 (va_cpy (M 5) (M 82) 0 0 8)) 83 (va_cpy (M 6) (M 83) 0 0 192)) 84 (va_cpy (M 7) (M 84) 0 0 40)) dX0_takeOver_120 fp_RX0_40 (by decide) rfl rfl ((tu_rc (tu_row (tu_row (tu_row (tu_row (tu_row (tu_row M 78 (tu_u (tu_u (tu_u (M 78) 1 (M 1 1)) 4 (M 1 4)) 7 (M 1 7))) 79 (va_cpy (M 2) (M 79) 0 0 4)) 80 (va_cpy (M 3) (M 80) 0 0 16)) 81 (va_cpy (M 4) (M 81) 0 0 256)) 82 (va_cpy (M 5) (M 82) 0 0 8)) 83 (va_cpy (M 6) (M 83) 0 0 192)) (va_cpy (M 7) (M 84) 0 0 40) (tu_u (tu_u (tu_u (tu_u (M 78) 1 (M 1 1)) 4 (M 1 4)) 7 (M 1 7)) 9 (M 1 9)) rfl).trans (congrArg (fun m => tu_row m 84 (va_cpy (M 7) (M 84) 0 0 40)) ((tu_rc (tu_row (tu_row (tu_row (tu_row (tu_row M 78 (tu_u (tu_u (tu_u (M 78) 1 (M 1 1)) 4 (M 1 4)) 7 (M 1 7))) 79 (va_cpy (M 2) (M 79) 0 0 4)) 80 (va_cpy (M 3) (M 80) 0 0 16)) 81 (va_cpy (M 4) (M 81) 0 0 256)) 82 (va_cpy (M 5) (M 82) 0 0 8)) (va_cpy (M 6) (M 83) 0 0 192) (tu_u (tu_u (tu_u (tu_u (M 78) 1 (M 1 1)) 4 (M 1 4)) 7 (M 1 7)) 9 (M 1 9)) rfl).trans (congrArg (fun m => tu_row m 83 (va_cpy (M 6) (M 83) 0 0 192)) ((tu_rc (tu_row (tu_row (tu_row (tu_row M 78 (tu_u (tu_u (tu_u (M 78) 1 (M 1 1)) 4 (M 1 4)) 7 (M 1 7))) 79 (va_cpy (M 2) (M 79) 0 0 4)) 80 (va_cpy (M 3) (M 80) 0 0 16)) 81 (va_cpy (M 4) (M 81) 0 0 256)) (va_cpy (M 5) (M 82) 0 0 8) (tu_u (tu_u (tu_u (tu_u (M 78) 1 (M 1 1)) 4 (M 1 4)) 7 (M 1 7)) 9 (M 1 9)) rfl).trans (congrArg (fun m => tu_row m 82 (va_cpy (M 5) (M 82) 0 0 8)) ((tu_rc (tu_row (tu_row (tu_row M 78 (tu_u (tu_u (tu_u (M 78) 1 (M 1 1)) 4 (M 1 4)) 7 (M 1 7))) 79 (va_cpy (M 2) (M 79) 0 0 4)) 80 (va_cpy (M 3) (M 80) 0 0 16)) (va_cpy (M 4) (M 81) 0 0 256) (tu_u (tu_u (tu_u (tu_u (M 78) 1 (M 1 1)) 4 (M 1 4)) 7 (M 1 7)) 9 (M 1 9)) rfl).trans (congrArg (fun m => tu_row m 81 (va_cpy (M 4) (M 81) 0 0 256)) ((tu_rc (tu_row (tu_row M 78 (tu_u (tu_u (tu_u (M 78) 1 (M 1 1)) 4 (M 1 4)) 7 (M 1 7))) 79 (va_cpy (M 2) (M 79) 0 0 4)) (va_cpy (M 3) (M 80) 0 0 16) (tu_u (tu_u (tu_u (tu_u (M 78) 1 (M 1 1)) 4 (M 1 4)) 7 (M 1 7)) 9 (M 1 9)) rfl).trans (congrArg (fun m => tu_row m 80 (va_cpy (M 3) (M 80) 0 0 16)) ((tu_rc (tu_row M 78 (tu_u (tu_u (tu_u (M 78) 1 (M 1 1)) 4 (M 1 4)) 7 (M 1 7))) (va_cpy (M 2) (M 79) 0 0 4) (tu_u (tu_u (tu_u (tu_u (M 78) 1 (M 1 1)) 4 (M 1 4)) 7 (M 1 7)) 9 (M 1 9)) rfl).trans (congrArg (fun m => tu_row m 79 (va_cpy (M 2) (M 79) 0 0 4)) (tu_rr M 78 (tu_u (tu_u (tu_u (M 78) 1 (M 1 1)) 4 (M 1 4)) 7 (M 1 7)) (tu_u (tu_u (tu_u (tu_u (M 78) 1 (M 1 1)) 4 (M 1 4)) 7 (M 1 7)) 9 (M 1 9))))))))))))))) ?_
  refine tu_aload_n 123 X 1 dX0_takeOver_123 rfl ?_
  refine tu_getR 124 X dX0_takeOver_124 fl_RX0_43 (by decide) rfl rfl ?_
  refine tu_iconst 127 X dX0_takeOver_127 ?_
  refine tu_aload_n 128 X 0 dX0_takeOver_128 rfl ?_
  refine tu_getR 129 X dX0_takeOver_129 fl_RX0_43 (by decide) rfl rfl ?_
  refine tu_iconst 132 X dX0_takeOver_132 ?_
  refine tu_bipush 133 X dX0_takeOver_133 (by decide) ?_
  refine tu_copy 135 X (M' := tu_row (tu_row (tu_row (tu_row (tu_row (tu_row (tu_row (tu_row M 78 (tu_u (tu_u (tu_u (tu_u (M 78) 1 (M 1 1)) 4 (M 1 4)) 7 (M 1 7)) 9 (M 1 9))) 79 (va_cpy (M 2) (M 79) 0 0 4)) 80 (va_cpy (M 3) (M 80) 0 0 16)) 81 (va_cpy (M 4) (M 81) 0 0 256)) 82 (va_cpy (M 5) (M 82) 0 0 8)) 83 (va_cpy (M 6) (M 83) 0 0 192)) 84 (va_cpy (M 7) (M 84) 0 0 40)) 85 (va_cpy (M 8) (M 85) 0 0 8)) 0 0 8 ac_RX0 dX0_takeOver_135 (by decide) (by decide) rfl rfl (by decide) (by decide) rfl rfl rfl (by omega) (by omega) rfl (Nat.le_of_ble_eq_true rfl) (by decide) (Nat.le_trans nf_le (by decide)) ?_
  refine tu_ext (N := tu_tk M 78 1) ?_ (hret 138 _ _ dX0_takeOver_138 rfl)
  refine tu_tk_q (Or.inr ⟨7, by decide, rfl⟩) (fun i hi => by rw [tu_row_n _ _ (by omega), tu_row_n _ _ (by omega), tu_row_n _ _ (by omega), tu_row_n _ _ (by omega), tu_row_n _ _ (by omega), tu_row_n _ _ (by omega), tu_row_n _ _ (by omega), tu_row_n _ _ (by omega)]) (fun j hj => tu_cp hj) (fun j hj => tu_cp hj) (fun j hj => tu_cp hj) (fun j hj => tu_cp hj) (fun j hj => tu_cp hj) (fun j hj => tu_cp hj) (fun j hj => tu_cp hj) rfl rfl rfl rfl
set_option maxRecDepth 20000 in
set_option maxHeartbeats 4000000 in
theorem c_X0_takeOver_1_78 {M : tu_M}   : tu_MV tu_Y_X0_takeOver [tu_r 1, tu_r 78] M (fun M' => M' = tu_tk M 1 78) := by
  refine tu_MV.of (by decide) rfl (Nat.le_of_ble_eq_true rfl) (fun T (X : tu_X T cX0_takeOver RX0 1 40) hnl hret => ?_)
  have hret : tu_RV T cX0_takeOver (fun M' => M' = tu_tk M 1 78) := hret
  have hnl : T.2.2.2.2.2.2.2.2.2.2.1 = 2 := hnl
  show tu_W T 0 [(0, tu_r 1), (1, tu_r 78)] [] M
  refine tu_aload_n 0 X 1 dX0_takeOver_0 rfl ?_
  refine tu_getR 1 X dX0_takeOver_1 fl_RX0_9 (by decide) rfl rfl ?_
  refine tu_iconst 4 X dX0_takeOver_4 ?_
  refine tu_aload_n 5 X 0 dX0_takeOver_5 rfl ?_
  refine tu_getR 6 X dX0_takeOver_6 fl_RX0_9 (by decide) rfl rfl ?_
  refine tu_iconst 9 X dX0_takeOver_9 ?_
  refine tu_iconst 10 X dX0_takeOver_10 ?_
  refine tu_copy 11 X (M' := tu_row M 2 (va_cpy (M 79) (M 2) 0 0 4)) 0 0 4 ac_RX0 dX0_takeOver_11 (by decide) (by decide) rfl rfl (by decide) (by decide) rfl rfl rfl (by omega) (by omega) rfl (Nat.le_of_ble_eq_true rfl) (by decide) (Nat.le_trans nf_le (by decide)) ?_
  refine tu_aload_n 14 X 0 dX0_takeOver_14 rfl ?_
  refine tu_aload_n 15 X 1 dX0_takeOver_15 rfl ?_
  refine tu_getI 16 X (x := M 78 1) dX0_takeOver_16 fl_RX0_15 (by decide) rfl rfl rfl ?_
  refine tu_putI 19 X (M' := tu_row (tu_row M 1 (tu_u (M 1) 1 (M 78 1))) 2 (va_cpy (M 79) (M 2) 0 0 4)) dX0_takeOver_19 fp_RX0_15 (by decide) rfl rfl (tu_rc M (va_cpy (M 79) (M 2) 0 0 4) (tu_u (M 1) 1 (M 78 1)) rfl) ?_
  refine tu_aload_n 22 X 1 dX0_takeOver_22 rfl ?_
  refine tu_getR 23 X dX0_takeOver_23 fl_RX0_19 (by decide) rfl rfl ?_
  refine tu_iconst 26 X dX0_takeOver_26 ?_
  refine tu_aload_n 27 X 0 dX0_takeOver_27 rfl ?_
  refine tu_getR 28 X dX0_takeOver_28 fl_RX0_19 (by decide) rfl rfl ?_
  refine tu_iconst 31 X dX0_takeOver_31 ?_
  refine tu_bipush 32 X dX0_takeOver_32 (by decide) ?_
  refine tu_copy 34 X (M' := tu_row (tu_row (tu_row M 1 (tu_u (M 1) 1 (M 78 1))) 2 (va_cpy (M 79) (M 2) 0 0 4)) 3 (va_cpy (M 80) (M 3) 0 0 16)) 0 0 16 ac_RX0 dX0_takeOver_34 (by decide) (by decide) rfl rfl (by decide) (by decide) rfl rfl rfl (by omega) (by omega) rfl (Nat.le_of_ble_eq_true rfl) (by decide) (Nat.le_trans nf_le (by decide)) ?_
  refine tu_aload_n 37 X 1 dX0_takeOver_37 rfl ?_
  refine tu_getR 38 X dX0_takeOver_38 fl_RX0_22 (by decide) rfl rfl ?_
  refine tu_iconst 41 X dX0_takeOver_41 ?_
  refine tu_aload_n 42 X 0 dX0_takeOver_42 rfl ?_
  refine tu_getR 43 X dX0_takeOver_43 fl_RX0_22 (by decide) rfl rfl ?_
  refine tu_iconst 46 X dX0_takeOver_46 ?_
  refine tu_sipush 47 X dX0_takeOver_47 (by decide) ?_
  refine tu_copy 50 X (M' := tu_row (tu_row (tu_row (tu_row M 1 (tu_u (M 1) 1 (M 78 1))) 2 (va_cpy (M 79) (M 2) 0 0 4)) 3 (va_cpy (M 80) (M 3) 0 0 16)) 4 (va_cpy (M 81) (M 4) 0 0 256)) 0 0 256 ac_RX0 dX0_takeOver_50 (by decide) (by decide) rfl rfl (by decide) (by decide) rfl rfl rfl (by omega) (by omega) rfl (Nat.le_of_ble_eq_true rfl) (by decide) (Nat.le_trans nf_le (by decide)) ?_
  refine tu_aload_n 53 X 0 dX0_takeOver_53 rfl ?_
  refine tu_aload_n 54 X 1 dX0_takeOver_54 rfl ?_
  refine tu_getI 55 X (x := M 78 4) dX0_takeOver_55 fl_RX0_25 (by decide) rfl rfl rfl ?_
  refine tu_putI 58 X (M' := tu_row (tu_row (tu_row (tu_row M 1 (tu_u (tu_u (M 1) 1 (M 78 1)) 4 (M 78 4))) 2 (va_cpy (M 79) (M 2) 0 0 4)) 3 (va_cpy (M 80) (M 3) 0 0 16)) 4 (va_cpy (M 81) (M 4) 0 0 256)) dX0_takeOver_58 fp_RX0_25 (by decide) rfl rfl ((tu_rc (tu_row (tu_row (tu_row M 1 (tu_u (M 1) 1 (M 78 1))) 2 (va_cpy (M 79) (M 2) 0 0 4)) 3 (va_cpy (M 80) (M 3) 0 0 16)) (va_cpy (M 81) (M 4) 0 0 256) (tu_u (tu_u (M 1) 1 (M 78 1)) 4 (M 78 4)) rfl).trans (congrArg (fun m => tu_row m 4 (va_cpy (M 81) (M 4) 0 0 256)) ((tu_rc (tu_row (tu_row M 1 (tu_u (M 1) 1 (M 78 1))) 2 (va_cpy (M 79) (M 2) 0 0 4)) (va_cpy (M 80) (M 3) 0 0 16) (tu_u (tu_u (M 1) 1 (M 78 1)) 4 (M 78 4)) rfl).trans (congrArg (fun m => tu_row m 3 (va_cpy (M 80) (M 3) 0 0 16)) ((tu_rc (tu_row M 1 (tu_u (M 1) 1 (M 78 1))) (va_cpy (M 79) (M 2) 0 0 4) (tu_u (tu_u (M 1) 1 (M 78 1)) 4 (M 78 4)) rfl).trans (congrArg (fun m => tu_row m 2 (va_cpy (M 79) (M 2) 0 0 4)) (tu_rr M 1 (tu_u (M 1) 1 (M 78 1)) (tu_u (tu_u (M 1) 1 (M 78 1)) 4 (M 78 4))))))))) ?_
  refine tu_aload_n 61 X 1 dX0_takeOver_61 rfl ?_
  refine tu_getR 62 X dX0_takeOver_62 fl_RX0_28 (by decide) rfl rfl ?_
  refine tu_iconst 65 X dX0_takeOver_65 ?_
  refine tu_aload_n 66 X 0 dX0_takeOver_66 rfl ?_
  refine tu_getR 67 X dX0_takeOver_67 fl_RX0_28 (by decide) rfl rfl ?_
  refine tu_iconst 70 X dX0_takeOver_70 ?_
  refine tu_bipush 71 X dX0_takeOver_71 (by decide) ?_
  refine tu_copy 73 X (M' := tu_row (tu_row (tu_row (tu_row (tu_row M 1 (tu_u (tu_u (M 1) 1 (M 78 1)) 4 (M 78 4))) 2 (va_cpy (M 79) (M 2) 0 0 4)) 3 (va_cpy (M 80) (M 3) 0 0 16)) 4 (va_cpy (M 81) (M 4) 0 0 256)) 5 (va_cpy (M 82) (M 5) 0 0 8)) 0 0 8 ac_RX0 dX0_takeOver_73 (by decide) (by decide) rfl rfl (by decide) (by decide) rfl rfl rfl (by omega) (by omega) rfl (Nat.le_of_ble_eq_true rfl) (by decide) (Nat.le_trans nf_le (by decide)) ?_
  refine tu_aload_n 76 X 1 dX0_takeOver_76 rfl ?_
  refine tu_getR 77 X dX0_takeOver_77 fl_RX0_31 (by decide) rfl rfl ?_
  refine tu_iconst 80 X dX0_takeOver_80 ?_
  refine tu_aload_n 81 X 0 dX0_takeOver_81 rfl ?_
  refine tu_getR 82 X dX0_takeOver_82 fl_RX0_31 (by decide) rfl rfl ?_
  refine tu_iconst 85 X dX0_takeOver_85 ?_
  refine tu_sipush 86 X dX0_takeOver_86 (by decide) ?_
  refine tu_copy 89 X (M' := tu_row (tu_row (tu_row (tu_row (tu_row (tu_row M 1 (tu_u (tu_u (M 1) 1 (M 78 1)) 4 (M 78 4))) 2 (va_cpy (M 79) (M 2) 0 0 4)) 3 (va_cpy (M 80) (M 3) 0 0 16)) 4 (va_cpy (M 81) (M 4) 0 0 256)) 5 (va_cpy (M 82) (M 5) 0 0 8)) 6 (va_cpy (M 83) (M 6) 0 0 192)) 0 0 192 ac_RX0 dX0_takeOver_89 (by decide) (by decide) rfl rfl (by decide) (by decide) rfl rfl rfl (by omega) (by omega) rfl (Nat.le_of_ble_eq_true rfl) (by decide) (Nat.le_trans nf_le (by decide)) ?_
  refine tu_aload_n 92 X 0 dX0_takeOver_92 rfl ?_
  refine tu_aload_n 93 X 1 dX0_takeOver_93 rfl ?_
  refine tu_getI 94 X (x := M 78 7) dX0_takeOver_94 fl_RX0_34 (by decide) rfl rfl rfl ?_
  refine tu_putI 97 X (M' := tu_row (tu_row (tu_row (tu_row (tu_row (tu_row M 1 (tu_u (tu_u (tu_u (M 1) 1 (M 78 1)) 4 (M 78 4)) 7 (M 78 7))) 2 (va_cpy (M 79) (M 2) 0 0 4)) 3 (va_cpy (M 80) (M 3) 0 0 16)) 4 (va_cpy (M 81) (M 4) 0 0 256)) 5 (va_cpy (M 82) (M 5) 0 0 8)) 6 (va_cpy (M 83) (M 6) 0 0 192)) dX0_takeOver_97 fp_RX0_34 (by decide) rfl rfl ((tu_rc (tu_row (tu_row (tu_row (tu_row (tu_row M 1 (tu_u (tu_u (M 1) 1 (M 78 1)) 4 (M 78 4))) 2 (va_cpy (M 79) (M 2) 0 0 4)) 3 (va_cpy (M 80) (M 3) 0 0 16)) 4 (va_cpy (M 81) (M 4) 0 0 256)) 5 (va_cpy (M 82) (M 5) 0 0 8)) (va_cpy (M 83) (M 6) 0 0 192) (tu_u (tu_u (tu_u (M 1) 1 (M 78 1)) 4 (M 78 4)) 7 (M 78 7)) rfl).trans (congrArg (fun m => tu_row m 6 (va_cpy (M 83) (M 6) 0 0 192)) ((tu_rc (tu_row (tu_row (tu_row (tu_row M 1 (tu_u (tu_u (M 1) 1 (M 78 1)) 4 (M 78 4))) 2 (va_cpy (M 79) (M 2) 0 0 4)) 3 (va_cpy (M 80) (M 3) 0 0 16)) 4 (va_cpy (M 81) (M 4) 0 0 256)) (va_cpy (M 82) (M 5) 0 0 8) (tu_u (tu_u (tu_u (M 1) 1 (M 78 1)) 4 (M 78 4)) 7 (M 78 7)) rfl).trans (congrArg (fun m => tu_row m 5 (va_cpy (M 82) (M 5) 0 0 8)) ((tu_rc (tu_row (tu_row (tu_row M 1 (tu_u (tu_u (M 1) 1 (M 78 1)) 4 (M 78 4))) 2 (va_cpy (M 79) (M 2) 0 0 4)) 3 (va_cpy (M 80) (M 3) 0 0 16)) (va_cpy (M 81) (M 4) 0 0 256) (tu_u (tu_u (tu_u (M 1) 1 (M 78 1)) 4 (M 78 4)) 7 (M 78 7)) rfl).trans (congrArg (fun m => tu_row m 4 (va_cpy (M 81) (M 4) 0 0 256)) ((tu_rc (tu_row (tu_row M 1 (tu_u (tu_u (M 1) 1 (M 78 1)) 4 (M 78 4))) 2 (va_cpy (M 79) (M 2) 0 0 4)) (va_cpy (M 80) (M 3) 0 0 16) (tu_u (tu_u (tu_u (M 1) 1 (M 78 1)) 4 (M 78 4)) 7 (M 78 7)) rfl).trans (congrArg (fun m => tu_row m 3 (va_cpy (M 80) (M 3) 0 0 16)) ((tu_rc (tu_row M 1 (tu_u (tu_u (M 1) 1 (M 78 1)) 4 (M 78 4))) (va_cpy (M 79) (M 2) 0 0 4) (tu_u (tu_u (tu_u (M 1) 1 (M 78 1)) 4 (M 78 4)) 7 (M 78 7)) rfl).trans (congrArg (fun m => tu_row m 2 (va_cpy (M 79) (M 2) 0 0 4)) (tu_rr M 1 (tu_u (tu_u (M 1) 1 (M 78 1)) 4 (M 78 4)) (tu_u (tu_u (tu_u (M 1) 1 (M 78 1)) 4 (M 78 4)) 7 (M 78 7))))))))))))) ?_
  refine tu_aload_n 100 X 1 dX0_takeOver_100 rfl ?_
  refine tu_getR 101 X dX0_takeOver_101 fl_RX0_37 (by decide) rfl rfl ?_
  refine tu_iconst 104 X dX0_takeOver_104 ?_
  refine tu_aload_n 105 X 0 dX0_takeOver_105 rfl ?_
  refine tu_getR 106 X dX0_takeOver_106 fl_RX0_37 (by decide) rfl rfl ?_
  refine tu_iconst 109 X dX0_takeOver_109 ?_
  refine tu_bipush 110 X dX0_takeOver_110 (by decide) ?_
  refine tu_copy 112 X (M' := tu_row (tu_row (tu_row (tu_row (tu_row (tu_row (tu_row M 1 (tu_u (tu_u (tu_u (M 1) 1 (M 78 1)) 4 (M 78 4)) 7 (M 78 7))) 2 (va_cpy (M 79) (M 2) 0 0 4)) 3 (va_cpy (M 80) (M 3) 0 0 16)) 4 (va_cpy (M 81) (M 4) 0 0 256)) 5 (va_cpy (M 82) (M 5) 0 0 8)) 6 (va_cpy (M 83) (M 6) 0 0 192)) 7 (va_cpy (M 84) (M 7) 0 0 40)) 0 0 40 ac_RX0 dX0_takeOver_112 (by decide) (by decide) rfl rfl (by decide) (by decide) rfl rfl rfl (by omega) (by omega) rfl (Nat.le_of_ble_eq_true rfl) (by decide) (Nat.le_trans nf_le (by decide)) ?_
  refine tu_aload_n 115 X 0 dX0_takeOver_115 rfl ?_
  refine tu_aload_n 116 X 1 dX0_takeOver_116 rfl ?_
  refine tu_getI 117 X (x := M 78 9) dX0_takeOver_117 fl_RX0_40 (by decide) rfl rfl rfl ?_
  refine tu_putI 120 X (M' := tu_row (tu_row (tu_row (tu_row (tu_row (tu_row (tu_row M 1 (tu_u (tu_u (tu_u (tu_u (M 1) 1 (M 78 1)) 4 (M 78 4)) 7 (M 78 7)) 9 (M 78 9))) 2 (va_cpy (M 79) (M 2) 0 0 4)) 3 (va_cpy (M 80) (M 3) 0 0 16)) 4 (va_cpy (M 81) (M 4) 0 0 256)) 5 (va_cpy (M 82) (M 5) 0 0 8)) 6 (va_cpy (M 83) (M 6) 0 0 192)) 7 (va_cpy (M 84) (M 7) 0 0 40)) dX0_takeOver_120 fp_RX0_40 (by decide) rfl rfl ((tu_rc (tu_row (tu_row (tu_row (tu_row (tu_row (tu_row M 1 (tu_u (tu_u (tu_u (M 1) 1 (M 78 1)) 4 (M 78 4)) 7 (M 78 7))) 2 (va_cpy (M 79) (M 2) 0 0 4)) 3 (va_cpy (M 80) (M 3) 0 0 16)) 4 (va_cpy (M 81) (M 4) 0 0 256)) 5 (va_cpy (M 82) (M 5) 0 0 8)) 6 (va_cpy (M 83) (M 6) 0 0 192)) (va_cpy (M 84) (M 7) 0 0 40) (tu_u (tu_u (tu_u (tu_u (M 1) 1 (M 78 1)) 4 (M 78 4)) 7 (M 78 7)) 9 (M 78 9)) rfl).trans (congrArg (fun m => tu_row m 7 (va_cpy (M 84) (M 7) 0 0 40)) ((tu_rc (tu_row (tu_row (tu_row (tu_row (tu_row M 1 (tu_u (tu_u (tu_u (M 1) 1 (M 78 1)) 4 (M 78 4)) 7 (M 78 7))) 2 (va_cpy (M 79) (M 2) 0 0 4)) 3 (va_cpy (M 80) (M 3) 0 0 16)) 4 (va_cpy (M 81) (M 4) 0 0 256)) 5 (va_cpy (M 82) (M 5) 0 0 8)) (va_cpy (M 83) (M 6) 0 0 192) (tu_u (tu_u (tu_u (tu_u (M 1) 1 (M 78 1)) 4 (M 78 4)) 7 (M 78 7)) 9 (M 78 9)) rfl).trans (congrArg (fun m => tu_row m 6 (va_cpy (M 83) (M 6) 0 0 192)) ((tu_rc (tu_row (tu_row (tu_row (tu_row M 1 (tu_u (tu_u (tu_u (M 1) 1 (M 78 1)) 4 (M 78 4)) 7 (M 78 7))) 2 (va_cpy (M 79) (M 2) 0 0 4)) 3 (va_cpy (M 80) (M 3) 0 0 16)) 4 (va_cpy (M 81) (M 4) 0 0 256)) (va_cpy (M 82) (M 5) 0 0 8) (tu_u (tu_u (tu_u (tu_u (M 1) 1 (M 78 1)) 4 (M 78 4)) 7 (M 78 7)) 9 (M 78 9)) rfl).trans (congrArg (fun m => tu_row m 5 (va_cpy (M 82) (M 5) 0 0 8)) ((tu_rc (tu_row (tu_row (tu_row M 1 (tu_u (tu_u (tu_u (M 1) 1 (M 78 1)) 4 (M 78 4)) 7 (M 78 7))) 2 (va_cpy (M 79) (M 2) 0 0 4)) 3 (va_cpy (M 80) (M 3) 0 0 16)) (va_cpy (M 81) (M 4) 0 0 256) (tu_u (tu_u (tu_u (tu_u (M 1) 1 (M 78 1)) 4 (M 78 4)) 7 (M 78 7)) 9 (M 78 9)) rfl).trans (congrArg (fun m => tu_row m 4 (va_cpy (M 81) (M 4) 0 0 256)) ((tu_rc (tu_row (tu_row M 1 (tu_u (tu_u (tu_u (M 1) 1 (M 78 1)) 4 (M 78 4)) 7 (M 78 7))) 2 (va_cpy (M 79) (M 2) 0 0 4)) (va_cpy (M 80) (M 3) 0 0 16) (tu_u (tu_u (tu_u (tu_u (M 1) 1 (M 78 1)) 4 (M 78 4)) 7 (M 78 7)) 9 (M 78 9)) rfl).trans (congrArg (fun m => tu_row m 3 (va_cpy (M 80) (M 3) 0 0 16)) ((tu_rc (tu_row M 1 (tu_u (tu_u (tu_u (M 1) 1 (M 78 1)) 4 (M 78 4)) 7 (M 78 7))) (va_cpy (M 79) (M 2) 0 0 4) (tu_u (tu_u (tu_u (tu_u (M 1) 1 (M 78 1)) 4 (M 78 4)) 7 (M 78 7)) 9 (M 78 9)) rfl).trans (congrArg (fun m => tu_row m 2 (va_cpy (M 79) (M 2) 0 0 4)) (tu_rr M 1 (tu_u (tu_u (tu_u (M 1) 1 (M 78 1)) 4 (M 78 4)) 7 (M 78 7)) (tu_u (tu_u (tu_u (tu_u (M 1) 1 (M 78 1)) 4 (M 78 4)) 7 (M 78 7)) 9 (M 78 9))))))))))))))) ?_
  refine tu_aload_n 123 X 1 dX0_takeOver_123 rfl ?_
  refine tu_getR 124 X dX0_takeOver_124 fl_RX0_43 (by decide) rfl rfl ?_
  refine tu_iconst 127 X dX0_takeOver_127 ?_
  refine tu_aload_n 128 X 0 dX0_takeOver_128 rfl ?_
  refine tu_getR 129 X dX0_takeOver_129 fl_RX0_43 (by decide) rfl rfl ?_
  refine tu_iconst 132 X dX0_takeOver_132 ?_
  refine tu_bipush 133 X dX0_takeOver_133 (by decide) ?_
  refine tu_copy 135 X (M' := tu_row (tu_row (tu_row (tu_row (tu_row (tu_row (tu_row (tu_row M 1 (tu_u (tu_u (tu_u (tu_u (M 1) 1 (M 78 1)) 4 (M 78 4)) 7 (M 78 7)) 9 (M 78 9))) 2 (va_cpy (M 79) (M 2) 0 0 4)) 3 (va_cpy (M 80) (M 3) 0 0 16)) 4 (va_cpy (M 81) (M 4) 0 0 256)) 5 (va_cpy (M 82) (M 5) 0 0 8)) 6 (va_cpy (M 83) (M 6) 0 0 192)) 7 (va_cpy (M 84) (M 7) 0 0 40)) 8 (va_cpy (M 85) (M 8) 0 0 8)) 0 0 8 ac_RX0 dX0_takeOver_135 (by decide) (by decide) rfl rfl (by decide) (by decide) rfl rfl rfl (by omega) (by omega) rfl (Nat.le_of_ble_eq_true rfl) (by decide) (Nat.le_trans nf_le (by decide)) ?_
  refine tu_ext (N := tu_tk M 1 78) ?_ (hret 138 _ _ dX0_takeOver_138 rfl)
  refine tu_tk_q (Or.inl rfl) (fun i hi => by rw [tu_row_n _ _ (by omega), tu_row_n _ _ (by omega), tu_row_n _ _ (by omega), tu_row_n _ _ (by omega), tu_row_n _ _ (by omega), tu_row_n _ _ (by omega), tu_row_n _ _ (by omega), tu_row_n _ _ (by omega)]) (fun j hj => tu_cp hj) (fun j hj => tu_cp hj) (fun j hj => tu_cp hj) (fun j hj => tu_cp hj) (fun j hj => tu_cp hj) (fun j hj => tu_cp hj) (fun j hj => tu_cp hj) rfl rfl rfl rfl
theorem c_X0_takeOver {M : tu_M} (b o : Nat) (h : (b = 1 ∧ ∃ k, k < 8 ∧ o = 22 + 8 * k) ∨ (o = 1 ∧ ∃ k, k < 8 ∧ b = 22 + 8 * k)) : tu_MV tu_Y_X0_takeOver [tu_r b, tu_r o] M (fun M' => M' = tu_tk M b o) := by
  rcases h with ⟨rfl, k, hk, rfl⟩ | ⟨rfl, k, hk, rfl⟩
  · rcases (show k = 0 ∨ k = 1 ∨ k = 2 ∨ k = 3 ∨ k = 4 ∨ k = 5 ∨ k = 6 ∨ k = 7 by omega) with rfl | rfl | rfl | rfl | rfl | rfl | rfl | rfl
    · exact c_X0_takeOver_1_22
    · exact c_X0_takeOver_1_30
    · exact c_X0_takeOver_1_38
    · exact c_X0_takeOver_1_46
    · exact c_X0_takeOver_1_54
    · exact c_X0_takeOver_1_62
    · exact c_X0_takeOver_1_70
    · exact c_X0_takeOver_1_78
  · rcases (show k = 0 ∨ k = 1 ∨ k = 2 ∨ k = 3 ∨ k = 4 ∨ k = 5 ∨ k = 6 ∨ k = 7 by omega) with rfl | rfl | rfl | rfl | rfl | rfl | rfl | rfl
    · exact c_X0_takeOver_22_1
    · exact c_X0_takeOver_30_1
    · exact c_X0_takeOver_38_1
    · exact c_X0_takeOver_46_1
    · exact c_X0_takeOver_54_1
    · exact c_X0_takeOver_62_1
    · exact c_X0_takeOver_70_1
    · exact c_X0_takeOver_78_1
