set_option maxRecDepth 20000 in
theorem cl_RL_7 : tv_cl RL 7 3 7 [some 1, some 9, some 11, some 19, none, some 20, some 21] := ⟨RX3, TX3, tyX3, rfl, iw_X3, tyX3_ok, tu_tb_in 49 rfl rfl, tu_tb_in 50 rfl rfl, tu_tb_in 42 rfl rfl, fun ad j hj => by rcases (show j = 0 ∨ j = 1 ∨ j = 2 ∨ j = 3 ∨ j = 4 ∨ j = 5 ∨ j = 6 by omega) with rfl | rfl | rfl | rfl | rfl | rfl | rfl <;> rfl⟩
set_option maxRecDepth 20000 in
theorem cl_RL_10 : tv_cl RL 10 4 18 [some 87, some 88, none, some 89, some 90, some 91, none, some 92, some 93, some 94, none, none, none, none, none, none, some 95, some 96] := ⟨RX4, TX4, tyX4, rfl, iw_X4, tyX4_ok, tu_tb_in 518 rfl rfl, tu_tb_in 519 rfl rfl, tu_tb_in 47 rfl rfl, fun ad j hj => by rcases (show j = 0 ∨ j = 1 ∨ j = 2 ∨ j = 3 ∨ j = 4 ∨ j = 5 ∨ j = 6 ∨ j = 7 ∨ j = 8 ∨ j = 9 ∨ j = 10 ∨ j = 11 ∨ j = 12 ∨ j = 13 ∨ j = 14 ∨ j = 15 ∨ j = 16 ∨ j = 17 by omega) with rfl | rfl | rfl | rfl | rfl | rfl | rfl | rfl | rfl | rfl | rfl | rfl | rfl | rfl | rfl | rfl | rfl | rfl <;> rfl⟩
set_option maxRecDepth 20000 in
theorem cl_RX3_16 : tv_cl RX3 16 2 2 [some 10, none] := ⟨RX2, TX2, tyX2, rfl, iw_X2, tyX2_ok, tu_tb_in 119 rfl rfl, tu_tb_in 120 rfl rfl, tu_tb_in 45 rfl rfl, fun ad j hj => by rcases (show j = 0 ∨ j = 1 by omega) with rfl | rfl <;> rfl⟩
set_option maxRecDepth 20000 in
theorem cl_RX3_23 : tv_cl RX3 23 1 13 [none, none, none, none, none, none, some 12, some 13, some 14, some 15, some 16, some 17, some 18] := ⟨RX1, TX1, tyX1, rfl, iw_X1, tyX1_ok, tu_tb_in 135 rfl rfl, tu_tb_in 136 rfl rfl, tu_tb_in 46 rfl rfl, fun ad j hj => by rcases (show j = 0 ∨ j = 1 ∨ j = 2 ∨ j = 3 ∨ j = 4 ∨ j = 5 ∨ j = 6 ∨ j = 7 ∨ j = 8 ∨ j = 9 ∨ j = 10 ∨ j = 11 ∨ j = 12 by omega) with rfl | rfl | rfl | rfl | rfl | rfl | rfl | rfl | rfl | rfl | rfl | rfl | rfl <;> rfl⟩
set_option maxRecDepth 20000 in
theorem lk_RX3_7 : Cond.classLink RX3 7 RX0 ∈ tu_tb := tu_tb_in 57 rfl rfl
set_option maxRecDepth 20000 in
theorem cl_RX3_7 (b : Nat) : tv_cl RX3 7 0 11 [some (b+1), none, some (b+2), some (b+3), none, some (b+4), some (b+5), none, some (b+6), none, some (b+7)] := ⟨RX0, TX0, tyX0, rfl, iw_X0, tyX0_ok, lk_RX3_7, tu_tb_in 58 rfl rfl, tu_tb_in 43 rfl rfl, fun ad j hj => by rcases (show j = 0 ∨ j = 1 ∨ j = 2 ∨ j = 3 ∨ j = 4 ∨ j = 5 ∨ j = 6 ∨ j = 7 ∨ j = 8 ∨ j = 9 ∨ j = 10 by omega) with rfl | rfl | rfl | rfl | rfl | rfl | rfl | rfl | rfl | rfl | rfl <;> rfl⟩
set_option maxRecDepth 20000 in
theorem fF_RX0_9 : tv_fF RX0 9 0 0 := ⟨RX0, TX0, 11, tyX0 0, rfl, by decide, iw_X0, tu_tb_in 68 rfl rfl, rfl, rfl, by decide +kernel, fun _ => ⟨rfl, rfl⟩, ⟨tyX0, tyX0_ok⟩, nmX0⟩
set_option maxRecDepth 20000 in
theorem fF_RX0_19 : tv_fF RX0 19 0 2 := ⟨RX0, TX0, 11, tyX0 2, rfl, by decide, iw_X0, tu_tb_in 73 rfl rfl, rfl, rfl, by decide +kernel, fun _ => ⟨rfl, rfl⟩, ⟨tyX0, tyX0_ok⟩, nmX0⟩
set_option maxRecDepth 20000 in
theorem fF_RX0_22 : tv_fF RX0 22 0 3 := ⟨RX0, TX0, 11, tyX0 3, rfl, by decide, iw_X0, tu_tb_in 76 rfl rfl, rfl, rfl, by decide +kernel, fun _ => ⟨rfl, rfl⟩, ⟨tyX0, tyX0_ok⟩, nmX0⟩
set_option maxRecDepth 20000 in
theorem fF_RX0_28 : tv_fF RX0 28 0 5 := ⟨RX0, TX0, 11, tyX0 5, rfl, by decide, iw_X0, tu_tb_in 81 rfl rfl, rfl, rfl, by decide +kernel, fun _ => ⟨rfl, rfl⟩, ⟨tyX0, tyX0_ok⟩, nmX0⟩
set_option maxRecDepth 20000 in
theorem fF_RX0_31 : tv_fF RX0 31 0 6 := ⟨RX0, TX0, 11, tyX0 6, rfl, by decide, iw_X0, tu_tb_in 84 rfl rfl, rfl, rfl, by decide +kernel, fun _ => ⟨rfl, rfl⟩, ⟨tyX0, tyX0_ok⟩, nmX0⟩
set_option maxRecDepth 20000 in
theorem fF_RX0_37 : tv_fF RX0 37 0 8 := ⟨RX0, TX0, 11, tyX0 8, rfl, by decide, iw_X0, tu_tb_in 89 rfl rfl, rfl, rfl, by decide +kernel, fun _ => ⟨rfl, rfl⟩, ⟨tyX0, tyX0_ok⟩, nmX0⟩
set_option maxRecDepth 20000 in
theorem fF_RX0_43 : tv_fF RX0 43 0 10 := ⟨RX0, TX0, 11, tyX0 10, rfl, by decide, iw_X0, tu_tb_in 93 rfl rfl, rfl, rfl, by decide +kernel, fun _ => ⟨rfl, rfl⟩, ⟨tyX0, tyX0_ok⟩, nmX0⟩
set_option maxRecDepth 20000 in
theorem fF_RX1_30 : tv_fF RX1 30 1 6 := ⟨RX1, TX1, 13, tyX1 6, rfl, by decide, iw_X1, tu_tb_in 148 rfl rfl, rfl, rfl, by decide +kernel, fun _ => ⟨rfl, rfl⟩, ⟨tyX1, tyX1_ok⟩, nmX1⟩
set_option maxRecDepth 20000 in
theorem fF_RX1_34 : tv_fF RX1 34 1 7 := ⟨RX1, TX1, 13, tyX1 7, rfl, by decide, iw_X1, tu_tb_in 149 rfl rfl, rfl, rfl, by decide +kernel, fun _ => ⟨rfl, rfl⟩, ⟨tyX1, tyX1_ok⟩, nmX1⟩
set_option maxRecDepth 20000 in
theorem fF_RX1_37 : tv_fF RX1 37 1 8 := ⟨RX1, TX1, 13, tyX1 8, rfl, by decide, iw_X1, tu_tb_in 150 rfl rfl, rfl, rfl, by decide +kernel, fun _ => ⟨rfl, rfl⟩, ⟨tyX1, tyX1_ok⟩, nmX1⟩
set_option maxRecDepth 20000 in
theorem fF_RX1_40 : tv_fF RX1 40 1 9 := ⟨RX1, TX1, 13, tyX1 9, rfl, by decide, iw_X1, tu_tb_in 151 rfl rfl, rfl, rfl, by decide +kernel, fun _ => ⟨rfl, rfl⟩, ⟨tyX1, tyX1_ok⟩, nmX1⟩
set_option maxRecDepth 20000 in
theorem fF_RX1_43 : tv_fF RX1 43 1 10 := ⟨RX1, TX1, 13, tyX1 10, rfl, by decide, iw_X1, tu_tb_in 152 rfl rfl, rfl, rfl, by decide +kernel, fun _ => ⟨rfl, rfl⟩, ⟨tyX1, tyX1_ok⟩, nmX1⟩
set_option maxRecDepth 20000 in
theorem fF_RX1_46 : tv_fF RX1 46 1 11 := ⟨RX1, TX1, 13, tyX1 11, rfl, by decide, iw_X1, tu_tb_in 153 rfl rfl, rfl, rfl, by decide +kernel, fun _ => ⟨rfl, rfl⟩, ⟨tyX1, tyX1_ok⟩, nmX1⟩
set_option maxRecDepth 20000 in
theorem fF_RX1_49 : tv_fF RX1 49 1 12 := ⟨RX1, TX1, 13, tyX1 12, rfl, by decide, iw_X1, tu_tb_in 155 rfl rfl, rfl, rfl, by decide +kernel, fun _ => ⟨rfl, rfl⟩, ⟨tyX1, tyX1_ok⟩, nmX1⟩
set_option maxRecDepth 20000 in
theorem fF_RX2_9 : tv_fF RX2 9 2 0 := ⟨RX2, TX2, 2, tyX2 0, rfl, by decide, iw_X2, tu_tb_in 125 rfl rfl, rfl, rfl, by decide +kernel, fun _ => ⟨rfl, rfl⟩, ⟨tyX2, tyX2_ok⟩, nmX2⟩
set_option maxRecDepth 20000 in
theorem fF_RX3_10 : tv_fF RX3 10 3 0 := ⟨RX3, TX3, 7, tyX3 0, rfl, by decide, iw_X3, tu_tb_in 185 rfl rfl, rfl, rfl, by decide +kernel, fun _ => ⟨rfl, rfl⟩, ⟨tyX3, tyX3_ok⟩, nmX3⟩
set_option maxRecDepth 20000 in
theorem fF_RX3_19 : tv_fF RX3 19 3 1 := ⟨RX3, TX3, 7, tyX3 1, rfl, by decide, iw_X3, tu_tb_in 186 rfl rfl, rfl, rfl, by decide +kernel, fun _ => ⟨rfl, rfl⟩, ⟨tyX3, tyX3_ok⟩, nmX3⟩
set_option maxRecDepth 20000 in
theorem fF_RX3_26 : tv_fF RX3 26 3 2 := ⟨RX3, TX3, 7, tyX3 2, rfl, by decide, iw_X3, tu_tb_in 187 rfl rfl, rfl, rfl, by decide +kernel, fun _ => ⟨rfl, rfl⟩, ⟨tyX3, tyX3_ok⟩, nmX3⟩
set_option maxRecDepth 20000 in
theorem fF_RX3_30 : tv_fF RX3 30 3 3 := ⟨RX3, TX3, 7, tyX3 3, rfl, by decide, iw_X3, tu_tb_in 188 rfl rfl, rfl, rfl, by decide +kernel, fun _ => ⟨rfl, rfl⟩, ⟨tyX3, tyX3_ok⟩, nmX3⟩
set_option maxRecDepth 20000 in
theorem fF_RX3_38 : tv_fF RX3 38 3 5 := ⟨RX3, TX3, 7, tyX3 5, rfl, by decide, iw_X3, tu_tb_in 190 rfl rfl, rfl, rfl, by decide +kernel, fun _ => ⟨rfl, rfl⟩, ⟨tyX3, tyX3_ok⟩, nmX3⟩
set_option maxRecDepth 20000 in
theorem fF_RX3_41 : tv_fF RX3 41 3 6 := ⟨RX3, TX3, 7, tyX3 6, rfl, by decide, iw_X3, tu_tb_in 191 rfl rfl, rfl, rfl, by decide +kernel, fun _ => ⟨rfl, rfl⟩, ⟨tyX3, tyX3_ok⟩, nmX3⟩
set_option maxRecDepth 20000 in
theorem fF_RX4_7 : tv_fF RX4 7 4 0 := ⟨RX4, TX4, 18, tyX4 0, rfl, by decide, iw_X4, tu_tb_in 524 rfl rfl, rfl, rfl, by decide +kernel, fun _ => ⟨rfl, rfl⟩, ⟨tyX4, tyX4_ok⟩, nmX4⟩
set_option maxRecDepth 20000 in
theorem fF_RX4_13 : tv_fF RX4 13 4 1 := ⟨RX4, TX4, 18, tyX4 1, rfl, by decide, iw_X4, tu_tb_in 525 rfl rfl, rfl, rfl, by decide +kernel, fun _ => ⟨rfl, rfl⟩, ⟨tyX4, tyX4_ok⟩, nmX4⟩
set_option maxRecDepth 20000 in
theorem fF_RX4_16 : tv_fF RX4 16 4 3 := ⟨RX4, TX4, 18, tyX4 3, rfl, by decide, iw_X4, tu_tb_in 527 rfl rfl, rfl, rfl, by decide +kernel, fun _ => ⟨rfl, rfl⟩, ⟨tyX4, tyX4_ok⟩, nmX4⟩
set_option maxRecDepth 20000 in
theorem fF_RX4_19 : tv_fF RX4 19 4 4 := ⟨RX4, TX4, 18, tyX4 4, rfl, by decide, iw_X4, tu_tb_in 528 rfl rfl, rfl, rfl, by decide +kernel, fun _ => ⟨rfl, rfl⟩, ⟨tyX4, tyX4_ok⟩, nmX4⟩
set_option maxRecDepth 20000 in
theorem fF_RX4_22 : tv_fF RX4 22 4 5 := ⟨RX4, TX4, 18, tyX4 5, rfl, by decide, iw_X4, tu_tb_in 529 rfl rfl, rfl, rfl, by decide +kernel, fun _ => ⟨rfl, rfl⟩, ⟨tyX4, tyX4_ok⟩, nmX4⟩
set_option maxRecDepth 20000 in
theorem fF_RX4_25 : tv_fF RX4 25 4 7 := ⟨RX4, TX4, 18, tyX4 7, rfl, by decide, iw_X4, tu_tb_in 531 rfl rfl, rfl, rfl, by decide +kernel, fun _ => ⟨rfl, rfl⟩, ⟨tyX4, tyX4_ok⟩, nmX4⟩
set_option maxRecDepth 20000 in
theorem fF_RX4_28 : tv_fF RX4 28 4 8 := ⟨RX4, TX4, 18, tyX4 8, rfl, by decide, iw_X4, tu_tb_in 532 rfl rfl, rfl, rfl, by decide +kernel, fun _ => ⟨rfl, rfl⟩, ⟨tyX4, tyX4_ok⟩, nmX4⟩
set_option maxRecDepth 20000 in
theorem fF_RX4_31 : tv_fF RX4 31 4 9 := ⟨RX4, TX4, 18, tyX4 9, rfl, by decide, iw_X4, tu_tb_in 533 rfl rfl, rfl, rfl, by decide +kernel, fun _ => ⟨rfl, rfl⟩, ⟨tyX4, tyX4_ok⟩, nmX4⟩
set_option maxRecDepth 20000 in
theorem fF_RX4_34 : tv_fF RX4 34 4 16 := ⟨RX4, TX4, 18, tyX4 16, rfl, by decide, iw_X4, tu_tb_in 540 rfl rfl, rfl, rfl, by decide +kernel, fun _ => ⟨rfl, rfl⟩, ⟨tyX4, tyX4_ok⟩, nmX4⟩
set_option maxRecDepth 20000 in
theorem fF_RX4_37 : tv_fF RX4 37 4 17 := ⟨RX4, TX4, 18, tyX4 17, rfl, by decide, iw_X4, tu_tb_in 541 rfl rfl, rfl, rfl, by decide +kernel, fun _ => ⟨rfl, rfl⟩, ⟨tyX4, tyX4_ok⟩, nmX4⟩
def tv_Y_X0 : tv_Y := (yX0_init, cX0_init, 1, 1, 40, 7, 524)
set_option maxRecDepth 20000 in
theorem oi_RX0 : Cond.methodLink RX0 3 Lib.objectInit ∈ tu_tb := tu_tb_in 62 rfl rfl
set_option maxRecDepth 20000 in
theorem cy_X0 : Cond.instanceMethod tv_Y_X0.1 ∈ tu_tb ∧ Cond.initialized tv_Y_X0.1.cls ∈ tu_tb ∧ Cond.code tv_Y_X0.1 tv_Y_X0.2.1 tv_Y_X0.2.2.1 none ∈ tu_tb := ⟨tu_tb_in 60 rfl rfl, tu_tb_in 43 rfl rfl, tu_tb_in 61 rfl rfl⟩
theorem cn_X0 : tv_Y_X0.1.name = "<init>" ∧ tv_Y_X0.1.cls ≠ "java/lang/invoke/MethodHandle" ∧ tv_Y_X0.1.cls ≠ "java/lang/invoke/VarHandle" ∧ (parseMethodDescriptor tv_Y_X0.1.desc).map (fun d => d.parameters.length) = some 0 := ⟨rfl, by decide, by decide, by decide⟩
def tv_Y_X1 : tv_Y := (yX1_init, cX1_init, 1, 1, 20, 7, 947)
set_option maxRecDepth 20000 in
theorem oi_RX1 : Cond.methodLink RX1 3 Lib.objectInit ∈ tu_tb := tu_tb_in 140 rfl rfl
set_option maxRecDepth 20000 in
theorem cy_X1 : Cond.instanceMethod tv_Y_X1.1 ∈ tu_tb ∧ Cond.initialized tv_Y_X1.1.cls ∈ tu_tb ∧ Cond.code tv_Y_X1.1 tv_Y_X1.2.1 tv_Y_X1.2.2.1 none ∈ tu_tb := ⟨tu_tb_in 138 rfl rfl, tu_tb_in 46 rfl rfl, tu_tb_in 139 rfl rfl⟩
theorem cn_X1 : tv_Y_X1.1.name = "<init>" ∧ tv_Y_X1.1.cls ≠ "java/lang/invoke/MethodHandle" ∧ tv_Y_X1.1.cls ≠ "java/lang/invoke/VarHandle" ∧ (parseMethodDescriptor tv_Y_X1.1.desc).map (fun d => d.parameters.length) = some 0 := ⟨rfl, by decide, by decide, by decide⟩
def tv_Y_X2 : tv_Y := (yX2_init, cX2_init, 1, 1, 20, 1, 60)
set_option maxRecDepth 20000 in
theorem oi_RX2 : Cond.methodLink RX2 3 Lib.objectInit ∈ tu_tb := tu_tb_in 124 rfl rfl
set_option maxRecDepth 20000 in
theorem cy_X2 : Cond.instanceMethod tv_Y_X2.1 ∈ tu_tb ∧ Cond.initialized tv_Y_X2.1.cls ∈ tu_tb ∧ Cond.code tv_Y_X2.1 tv_Y_X2.2.1 tv_Y_X2.2.2.1 none ∈ tu_tb := ⟨tu_tb_in 122 rfl rfl, tu_tb_in 45 rfl rfl, tu_tb_in 123 rfl rfl⟩
theorem cn_X2 : tv_Y_X2.1.name = "<init>" ∧ tv_Y_X2.1.cls ≠ "java/lang/invoke/MethodHandle" ∧ tv_Y_X2.1.cls ≠ "java/lang/invoke/VarHandle" ∧ (parseMethodDescriptor tv_Y_X2.1.desc).map (fun d => d.parameters.length) = some 0 := ⟨rfl, by decide, by decide, by decide⟩
def tv_Y_X3 : tv_Y := (yX3_init, cX3_init, 2, 2, 60, 85, 5847)
set_option maxRecDepth 20000 in
theorem oi_RX3 : Cond.methodLink RX3 1 Lib.objectInit ∈ tu_tb := tu_tb_in 54 rfl rfl
set_option maxRecDepth 20000 in
theorem cy_X3 : Cond.instanceMethod tv_Y_X3.1 ∈ tu_tb ∧ Cond.initialized tv_Y_X3.1.cls ∈ tu_tb ∧ Cond.code tv_Y_X3.1 tv_Y_X3.2.1 tv_Y_X3.2.2.1 none ∈ tu_tb := ⟨tu_tb_in 52 rfl rfl, tu_tb_in 42 rfl rfl, tu_tb_in 53 rfl rfl⟩
theorem cn_X3 : tv_Y_X3.1.name = "<init>" ∧ tv_Y_X3.1.cls ≠ "java/lang/invoke/MethodHandle" ∧ tv_Y_X3.1.cls ≠ "java/lang/invoke/VarHandle" ∧ (parseMethodDescriptor tv_Y_X3.1.desc).map (fun d => d.parameters.length) = some 0 := ⟨rfl, by decide, by decide, by decide⟩
def tv_Y_X4 : tv_Y := (yX4_init, cX4_init, 1, 1, 20, 10, 2377)
set_option maxRecDepth 20000 in
theorem oi_RX4 : Cond.methodLink RX4 1 Lib.objectInit ∈ tu_tb := tu_tb_in 523 rfl rfl
set_option maxRecDepth 20000 in
theorem cy_X4 : Cond.instanceMethod tv_Y_X4.1 ∈ tu_tb ∧ Cond.initialized tv_Y_X4.1.cls ∈ tu_tb ∧ Cond.code tv_Y_X4.1 tv_Y_X4.2.1 tv_Y_X4.2.2.1 none ∈ tu_tb := ⟨tu_tb_in 521 rfl rfl, tu_tb_in 47 rfl rfl, tu_tb_in 522 rfl rfl⟩
theorem cn_X4 : tv_Y_X4.1.name = "<init>" ∧ tv_Y_X4.1.cls ≠ "java/lang/invoke/MethodHandle" ∧ tv_Y_X4.1.cls ≠ "java/lang/invoke/VarHandle" ∧ (parseMethodDescriptor tv_Y_X4.1.desc).map (fun d => d.parameters.length) = some 0 := ⟨rfl, by decide, by decide, by decide⟩
set_option maxRecDepth 20000 in
theorem ci_RX3_9 : Cond.methodLink RX3 9 tv_Y_X0.1 ∈ tu_tb ∧ Cond.instanceMethod tv_Y_X0.1 ∈ tu_tb ∧ Cond.initialized tv_Y_X0.1.cls ∈ tu_tb ∧ Cond.code tv_Y_X0.1 tv_Y_X0.2.1 tv_Y_X0.2.2.1 none ∈ tu_tb := ⟨tu_tb_in 59 rfl rfl, cy_X0.1, cy_X0.2.1, cy_X0.2.2⟩
set_option maxRecDepth 20000 in
theorem ci_RL_9 : Cond.methodLink RL 9 tv_Y_X3.1 ∈ tu_tb ∧ Cond.instanceMethod tv_Y_X3.1 ∈ tu_tb ∧ Cond.initialized tv_Y_X3.1.cls ∈ tu_tb ∧ Cond.code tv_Y_X3.1 tv_Y_X3.2.1 tv_Y_X3.2.2.1 none ∈ tu_tb := ⟨tu_tb_in 51 rfl rfl, cy_X3.1, cy_X3.2.1, cy_X3.2.2⟩
set_option maxRecDepth 20000 in
theorem ci_RL_12 : Cond.methodLink RL 12 tv_Y_X4.1 ∈ tu_tb ∧ Cond.instanceMethod tv_Y_X4.1 ∈ tu_tb ∧ Cond.initialized tv_Y_X4.1.cls ∈ tu_tb ∧ Cond.code tv_Y_X4.1 tv_Y_X4.2.1 tv_Y_X4.2.2.1 none ∈ tu_tb := ⟨tu_tb_in 520 rfl rfl, cy_X4.1, cy_X4.2.1, cy_X4.2.2⟩
/-- a book as it is made: its object is b, its settings lie in b + 1 -/
def tv_B (M : tu_M) (b : Nat) : Prop := (M b 0 = 1 ∧ M b 2 = 1 ∧ M b 3 = 1 ∧ M b 5 = 1 ∧ M b 6 = 1 ∧ M b 8 = 1 ∧ M b 10 = 1) ∧ (M b 1 = 0 ∧ M b 4 = 0 ∧ M b 7 = 0 ∧ M b 9 = 0) ∧ (M (b + 1) 0 = 3 ∧ M (b + 1) 1 = 1 ∧ M (b + 1) 2 = 3 ∧ M (b + 1) 3 = 7)
theorem tv_B.of {M M' : tu_M} {b : Nat} (h : tv_B M b) (h0 : M' b = M b) (h1 : M' (b + 1) = M (b + 1)) : tv_B M' b := by
  unfold tv_B
  rw [h0, h1]
  exact h
theorem tv_eq {T : tv_T} {n n' kc kc' ks ks' pc : Nat} {lv : List (Nat × tu_v)} {st : List tu_v} {M : tu_M} (hn : n = n') (h1 : kc = kc') (h2 : ks = ks') (kk : tv_W T n' kc' ks' pc lv st M) : tv_W T n kc ks pc lv st M := by subst hn; subst h1; subst h2; exact kk
theorem tv_lv {T : tv_T} {n kc ks pc : Nat} {lv lv' : List (Nat × tu_v)} {st : List tu_v} {M : tu_M} (ps : List Nat) (hp : tu_pk lv ps lv') (kk : tv_W T n kc ks pc lv' st M) : tv_W T n kc ks pc lv st M := by
  obtain ⟨p, l, e, R, s, m, args, below, meth, c, nL, g, ad, Q⟩ := T
  intro H locs ls hP hz hS hl
  refine kk H locs ls hP hz hS ⟨hl.1, hl.2.1, fun q hq => ?_⟩
  obtain ⟨a, ha, rfl⟩ := List.mem_map.mp hq
  exact hl.2.2 _ (List.mem_map.mpr ⟨a, tu_pk_in hp a ha, rfl⟩)
