set_option maxRecDepth 20000 in
theorem cl_RL_21 : tv_cl RL 21 3 7 [some 1, some 9, some 11, some 19, none, some 20, some 21] := ⟨RX3, TX3, tyX3, rfl, iw_X3, tyX3_ok, tu_tb_in 16 rfl rfl, tu_tb_in 17 rfl rfl, tu_tb_in 10 rfl rfl, fun ad j hj => by rcases (show j = 0 ∨ j = 1 ∨ j = 2 ∨ j = 3 ∨ j = 4 ∨ j = 5 ∨ j = 6 by omega) with rfl | rfl | rfl | rfl | rfl | rfl | rfl <;> rfl⟩
set_option maxRecDepth 20000 in
theorem cl_RX3_16 : tv_cl RX3 16 2 2 [some 10, none] := ⟨RX2, TX2, tyX2, rfl, iw_X2, tyX2_ok, tu_tb_in 86 rfl rfl, tu_tb_in 87 rfl rfl, tu_tb_in 13 rfl rfl, fun ad j hj => by rcases (show j = 0 ∨ j = 1 by omega) with rfl | rfl <;> rfl⟩
set_option maxRecDepth 20000 in
theorem cl_RX3_23 : tv_cl RX3 23 1 13 [none, none, none, none, none, none, some 12, some 13, some 14, some 15, some 16, some 17, some 18] := ⟨RX1, TX1, tyX1, rfl, iw_X1, tyX1_ok, tu_tb_in 102 rfl rfl, tu_tb_in 103 rfl rfl, tu_tb_in 14 rfl rfl, fun ad j hj => by rcases (show j = 0 ∨ j = 1 ∨ j = 2 ∨ j = 3 ∨ j = 4 ∨ j = 5 ∨ j = 6 ∨ j = 7 ∨ j = 8 ∨ j = 9 ∨ j = 10 ∨ j = 11 ∨ j = 12 by omega) with rfl | rfl | rfl | rfl | rfl | rfl | rfl | rfl | rfl | rfl | rfl | rfl | rfl <;> rfl⟩
set_option maxRecDepth 20000 in
theorem lk_RX3_7 : Cond.classLink RX3 7 RX0 ∈ tu_tb := tu_tb_in 24 rfl rfl
set_option maxRecDepth 20000 in
theorem cl_RX3_7 (b : Nat) : tv_cl RX3 7 0 11 [some (b+1), none, some (b+2), some (b+3), none, some (b+4), some (b+5), none, some (b+6), none, some (b+7)] := ⟨RX0, TX0, tyX0, rfl, iw_X0, tyX0_ok, lk_RX3_7, tu_tb_in 25 rfl rfl, tu_tb_in 11 rfl rfl, fun ad j hj => by rcases (show j = 0 ∨ j = 1 ∨ j = 2 ∨ j = 3 ∨ j = 4 ∨ j = 5 ∨ j = 6 ∨ j = 7 ∨ j = 8 ∨ j = 9 ∨ j = 10 by omega) with rfl | rfl | rfl | rfl | rfl | rfl | rfl | rfl | rfl | rfl | rfl <;> rfl⟩
set_option maxRecDepth 20000 in
theorem fF_RX0_9 : tv_fF RX0 9 0 0 := ⟨RX0, TX0, 11, tyX0 0, rfl, by decide, iw_X0, tu_tb_in 35 rfl rfl, rfl, rfl, by decide +kernel, fun _ => ⟨rfl, rfl⟩, ⟨tyX0, tyX0_ok⟩, nmX0⟩
set_option maxRecDepth 20000 in
theorem fF_RX0_19 : tv_fF RX0 19 0 2 := ⟨RX0, TX0, 11, tyX0 2, rfl, by decide, iw_X0, tu_tb_in 40 rfl rfl, rfl, rfl, by decide +kernel, fun _ => ⟨rfl, rfl⟩, ⟨tyX0, tyX0_ok⟩, nmX0⟩
set_option maxRecDepth 20000 in
theorem fF_RX0_22 : tv_fF RX0 22 0 3 := ⟨RX0, TX0, 11, tyX0 3, rfl, by decide, iw_X0, tu_tb_in 43 rfl rfl, rfl, rfl, by decide +kernel, fun _ => ⟨rfl, rfl⟩, ⟨tyX0, tyX0_ok⟩, nmX0⟩
set_option maxRecDepth 20000 in
theorem fF_RX0_28 : tv_fF RX0 28 0 5 := ⟨RX0, TX0, 11, tyX0 5, rfl, by decide, iw_X0, tu_tb_in 48 rfl rfl, rfl, rfl, by decide +kernel, fun _ => ⟨rfl, rfl⟩, ⟨tyX0, tyX0_ok⟩, nmX0⟩
set_option maxRecDepth 20000 in
theorem fF_RX0_31 : tv_fF RX0 31 0 6 := ⟨RX0, TX0, 11, tyX0 6, rfl, by decide, iw_X0, tu_tb_in 51 rfl rfl, rfl, rfl, by decide +kernel, fun _ => ⟨rfl, rfl⟩, ⟨tyX0, tyX0_ok⟩, nmX0⟩
set_option maxRecDepth 20000 in
theorem fF_RX0_37 : tv_fF RX0 37 0 8 := ⟨RX0, TX0, 11, tyX0 8, rfl, by decide, iw_X0, tu_tb_in 56 rfl rfl, rfl, rfl, by decide +kernel, fun _ => ⟨rfl, rfl⟩, ⟨tyX0, tyX0_ok⟩, nmX0⟩
set_option maxRecDepth 20000 in
theorem fF_RX0_43 : tv_fF RX0 43 0 10 := ⟨RX0, TX0, 11, tyX0 10, rfl, by decide, iw_X0, tu_tb_in 60 rfl rfl, rfl, rfl, by decide +kernel, fun _ => ⟨rfl, rfl⟩, ⟨tyX0, tyX0_ok⟩, nmX0⟩
set_option maxRecDepth 20000 in
theorem fF_RX1_30 : tv_fF RX1 30 1 6 := ⟨RX1, TX1, 13, tyX1 6, rfl, by decide, iw_X1, tu_tb_in 115 rfl rfl, rfl, rfl, by decide +kernel, fun _ => ⟨rfl, rfl⟩, ⟨tyX1, tyX1_ok⟩, nmX1⟩
set_option maxRecDepth 20000 in
theorem fF_RX1_34 : tv_fF RX1 34 1 7 := ⟨RX1, TX1, 13, tyX1 7, rfl, by decide, iw_X1, tu_tb_in 116 rfl rfl, rfl, rfl, by decide +kernel, fun _ => ⟨rfl, rfl⟩, ⟨tyX1, tyX1_ok⟩, nmX1⟩
set_option maxRecDepth 20000 in
theorem fF_RX1_37 : tv_fF RX1 37 1 8 := ⟨RX1, TX1, 13, tyX1 8, rfl, by decide, iw_X1, tu_tb_in 117 rfl rfl, rfl, rfl, by decide +kernel, fun _ => ⟨rfl, rfl⟩, ⟨tyX1, tyX1_ok⟩, nmX1⟩
set_option maxRecDepth 20000 in
theorem fF_RX1_40 : tv_fF RX1 40 1 9 := ⟨RX1, TX1, 13, tyX1 9, rfl, by decide, iw_X1, tu_tb_in 118 rfl rfl, rfl, rfl, by decide +kernel, fun _ => ⟨rfl, rfl⟩, ⟨tyX1, tyX1_ok⟩, nmX1⟩
set_option maxRecDepth 20000 in
theorem fF_RX1_43 : tv_fF RX1 43 1 10 := ⟨RX1, TX1, 13, tyX1 10, rfl, by decide, iw_X1, tu_tb_in 119 rfl rfl, rfl, rfl, by decide +kernel, fun _ => ⟨rfl, rfl⟩, ⟨tyX1, tyX1_ok⟩, nmX1⟩
set_option maxRecDepth 20000 in
theorem fF_RX1_46 : tv_fF RX1 46 1 11 := ⟨RX1, TX1, 13, tyX1 11, rfl, by decide, iw_X1, tu_tb_in 120 rfl rfl, rfl, rfl, by decide +kernel, fun _ => ⟨rfl, rfl⟩, ⟨tyX1, tyX1_ok⟩, nmX1⟩
set_option maxRecDepth 20000 in
theorem fF_RX1_49 : tv_fF RX1 49 1 12 := ⟨RX1, TX1, 13, tyX1 12, rfl, by decide, iw_X1, tu_tb_in 122 rfl rfl, rfl, rfl, by decide +kernel, fun _ => ⟨rfl, rfl⟩, ⟨tyX1, tyX1_ok⟩, nmX1⟩
set_option maxRecDepth 20000 in
theorem fF_RX2_9 : tv_fF RX2 9 2 0 := ⟨RX2, TX2, 2, tyX2 0, rfl, by decide, iw_X2, tu_tb_in 92 rfl rfl, rfl, rfl, by decide +kernel, fun _ => ⟨rfl, rfl⟩, ⟨tyX2, tyX2_ok⟩, nmX2⟩
set_option maxRecDepth 20000 in
theorem fF_RX3_10 : tv_fF RX3 10 3 0 := ⟨RX3, TX3, 7, tyX3 0, rfl, by decide, iw_X3, tu_tb_in 152 rfl rfl, rfl, rfl, by decide +kernel, fun _ => ⟨rfl, rfl⟩, ⟨tyX3, tyX3_ok⟩, nmX3⟩
set_option maxRecDepth 20000 in
theorem fF_RX3_19 : tv_fF RX3 19 3 1 := ⟨RX3, TX3, 7, tyX3 1, rfl, by decide, iw_X3, tu_tb_in 153 rfl rfl, rfl, rfl, by decide +kernel, fun _ => ⟨rfl, rfl⟩, ⟨tyX3, tyX3_ok⟩, nmX3⟩
set_option maxRecDepth 20000 in
theorem fF_RX3_26 : tv_fF RX3 26 3 2 := ⟨RX3, TX3, 7, tyX3 2, rfl, by decide, iw_X3, tu_tb_in 154 rfl rfl, rfl, rfl, by decide +kernel, fun _ => ⟨rfl, rfl⟩, ⟨tyX3, tyX3_ok⟩, nmX3⟩
set_option maxRecDepth 20000 in
theorem fF_RX3_30 : tv_fF RX3 30 3 3 := ⟨RX3, TX3, 7, tyX3 3, rfl, by decide, iw_X3, tu_tb_in 155 rfl rfl, rfl, rfl, by decide +kernel, fun _ => ⟨rfl, rfl⟩, ⟨tyX3, tyX3_ok⟩, nmX3⟩
set_option maxRecDepth 20000 in
theorem fF_RX3_38 : tv_fF RX3 38 3 5 := ⟨RX3, TX3, 7, tyX3 5, rfl, by decide, iw_X3, tu_tb_in 157 rfl rfl, rfl, rfl, by decide +kernel, fun _ => ⟨rfl, rfl⟩, ⟨tyX3, tyX3_ok⟩, nmX3⟩
set_option maxRecDepth 20000 in
theorem fF_RX3_41 : tv_fF RX3 41 3 6 := ⟨RX3, TX3, 7, tyX3 6, rfl, by decide, iw_X3, tu_tb_in 158 rfl rfl, rfl, rfl, by decide +kernel, fun _ => ⟨rfl, rfl⟩, ⟨tyX3, tyX3_ok⟩, nmX3⟩
set_option maxRecDepth 20000 in
theorem fl_RX3_38 : tu_fl RX3 38 3 5 := ⟨RX3, TX3, 7, rfl, by decide, iw_X3, tu_tb_in 157 rfl rfl⟩
def tv_Y_X0 : tv_Y := (yX0_init, cX0_init, 1, 1, 40, 7, 524)
set_option maxRecDepth 20000 in
theorem oi_RX0 : Cond.methodLink RX0 3 Lib.objectInit ∈ tu_tb := tu_tb_in 29 rfl rfl
set_option maxRecDepth 20000 in
theorem cy_X0 : Cond.instanceMethod tv_Y_X0.1 ∈ tu_tb ∧ Cond.initialized tv_Y_X0.1.cls ∈ tu_tb ∧ Cond.code tv_Y_X0.1 tv_Y_X0.2.1 tv_Y_X0.2.2.1 none ∈ tu_tb := ⟨tu_tb_in 27 rfl rfl, tu_tb_in 11 rfl rfl, tu_tb_in 28 rfl rfl⟩
theorem cn_X0 : tv_Y_X0.1.name = "<init>" ∧ tv_Y_X0.1.cls ≠ "java/lang/invoke/MethodHandle" ∧ tv_Y_X0.1.cls ≠ "java/lang/invoke/VarHandle" ∧ (parseMethodDescriptor tv_Y_X0.1.desc).map (fun d => d.parameters.length) = some 0 := ⟨rfl, by decide, by decide, by decide⟩
def tv_Y_X1 : tv_Y := (yX1_init, cX1_init, 1, 1, 20, 7, 947)
set_option maxRecDepth 20000 in
theorem oi_RX1 : Cond.methodLink RX1 3 Lib.objectInit ∈ tu_tb := tu_tb_in 107 rfl rfl
set_option maxRecDepth 20000 in
theorem cy_X1 : Cond.instanceMethod tv_Y_X1.1 ∈ tu_tb ∧ Cond.initialized tv_Y_X1.1.cls ∈ tu_tb ∧ Cond.code tv_Y_X1.1 tv_Y_X1.2.1 tv_Y_X1.2.2.1 none ∈ tu_tb := ⟨tu_tb_in 105 rfl rfl, tu_tb_in 14 rfl rfl, tu_tb_in 106 rfl rfl⟩
theorem cn_X1 : tv_Y_X1.1.name = "<init>" ∧ tv_Y_X1.1.cls ≠ "java/lang/invoke/MethodHandle" ∧ tv_Y_X1.1.cls ≠ "java/lang/invoke/VarHandle" ∧ (parseMethodDescriptor tv_Y_X1.1.desc).map (fun d => d.parameters.length) = some 0 := ⟨rfl, by decide, by decide, by decide⟩
def tv_Y_X2 : tv_Y := (yX2_init, cX2_init, 1, 1, 20, 1, 60)
set_option maxRecDepth 20000 in
theorem oi_RX2 : Cond.methodLink RX2 3 Lib.objectInit ∈ tu_tb := tu_tb_in 91 rfl rfl
set_option maxRecDepth 20000 in
theorem cy_X2 : Cond.instanceMethod tv_Y_X2.1 ∈ tu_tb ∧ Cond.initialized tv_Y_X2.1.cls ∈ tu_tb ∧ Cond.code tv_Y_X2.1 tv_Y_X2.2.1 tv_Y_X2.2.2.1 none ∈ tu_tb := ⟨tu_tb_in 89 rfl rfl, tu_tb_in 13 rfl rfl, tu_tb_in 90 rfl rfl⟩
theorem cn_X2 : tv_Y_X2.1.name = "<init>" ∧ tv_Y_X2.1.cls ≠ "java/lang/invoke/MethodHandle" ∧ tv_Y_X2.1.cls ≠ "java/lang/invoke/VarHandle" ∧ (parseMethodDescriptor tv_Y_X2.1.desc).map (fun d => d.parameters.length) = some 0 := ⟨rfl, by decide, by decide, by decide⟩
def tv_Y_X3 : tv_Y := (yX3_init, cX3_init, 2, 2, 60, 85, 5847)
set_option maxRecDepth 20000 in
theorem oi_RX3 : Cond.methodLink RX3 1 Lib.objectInit ∈ tu_tb := tu_tb_in 21 rfl rfl
set_option maxRecDepth 20000 in
theorem cy_X3 : Cond.instanceMethod tv_Y_X3.1 ∈ tu_tb ∧ Cond.initialized tv_Y_X3.1.cls ∈ tu_tb ∧ Cond.code tv_Y_X3.1 tv_Y_X3.2.1 tv_Y_X3.2.2.1 none ∈ tu_tb := ⟨tu_tb_in 19 rfl rfl, tu_tb_in 10 rfl rfl, tu_tb_in 20 rfl rfl⟩
theorem cn_X3 : tv_Y_X3.1.name = "<init>" ∧ tv_Y_X3.1.cls ≠ "java/lang/invoke/MethodHandle" ∧ tv_Y_X3.1.cls ≠ "java/lang/invoke/VarHandle" ∧ (parseMethodDescriptor tv_Y_X3.1.desc).map (fun d => d.parameters.length) = some 0 := ⟨rfl, by decide, by decide, by decide⟩
set_option maxRecDepth 20000 in
theorem ci_RX3_9 : Cond.methodLink RX3 9 tv_Y_X0.1 ∈ tu_tb ∧ Cond.instanceMethod tv_Y_X0.1 ∈ tu_tb ∧ Cond.initialized tv_Y_X0.1.cls ∈ tu_tb ∧ Cond.code tv_Y_X0.1 tv_Y_X0.2.1 tv_Y_X0.2.2.1 none ∈ tu_tb := ⟨tu_tb_in 26 rfl rfl, cy_X0.1, cy_X0.2.1, cy_X0.2.2⟩
set_option maxRecDepth 20000 in
theorem ci_RL_70 : Cond.methodLink RL 70 tv_Y_X3.1 ∈ tu_tb ∧ Cond.instanceMethod tv_Y_X3.1 ∈ tu_tb ∧ Cond.initialized tv_Y_X3.1.cls ∈ tu_tb ∧ Cond.code tv_Y_X3.1 tv_Y_X3.2.1 tv_Y_X3.2.2.1 none ∈ tu_tb := ⟨tu_tb_in 18 rfl rfl, cy_X3.1, cy_X3.2.1, cy_X3.2.2⟩
/-- a book as it is made: its object is b, its settings lie in b + 1 -/
def tv_B (M : tu_M) (b : Nat) : Prop := (M b 0 = 1 ∧ M b 2 = 1 ∧ M b 3 = 1 ∧ M b 5 = 1 ∧ M b 6 = 1 ∧ M b 8 = 1 ∧ M b 10 = 1) ∧ (M b 1 = 0 ∧ M b 4 = 0 ∧ M b 7 = 0 ∧ M b 9 = 0) ∧ (M (b + 1) 0 = 3 ∧ M (b + 1) 1 = 1 ∧ M (b + 1) 2 = 3 ∧ M (b + 1) 3 = 7)
theorem tv_B.of {M M' : tu_M} {b : Nat} (h : tv_B M b) (h0 : M' b = M b) (h1 : M' (b + 1) = M (b + 1)) : tv_B M' b := by
  unfold tv_B
  rw [h0, h1]
  exact h
theorem tv_eq {T : tv_T} {n n' kc kc' ks ks' pc : Nat} {lv : List (Nat × tu_v)} {st : List tu_v} {M : tu_M} (hn : n = n') (h1 : kc = kc') (h2 : ks = ks') (kk : tv_W T n' kc' ks' pc lv st M) : tv_W T n kc ks pc lv st M := by subst hn; subst h1; subst h2; exact kk
theorem tv_lv {T : tv_T} {n kc ks pc : Nat} {lv lv' : List (Nat × tu_v)} {st : List tu_v} {M : tu_M} (ps : List Nat) (hp : tu_pk lv ps lv') (kk : tv_W T n kc ks pc lv' st M) : tv_W T n kc ks pc lv st M := by
  obtain ⟨p, l, e, R, s, m, args, below, meth, c, nL, g, ad, Q⟩ := T
  intro H locs ls hP hz hS hl
  refine kk H locs ls hP hz hS ⟨hl.1, hl.2.1, fun q hq => ?_⟩
  obtain ⟨a, ha, rfl⟩ := List.mem_map.mp hq
  exact hl.2.2 _ (List.mem_map.mpr ⟨a, tu_pk_in hp a ha, rfl⟩)
