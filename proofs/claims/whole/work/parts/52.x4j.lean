theorem tu_mk.orr {z w : Int} {n : Nat} {f : Nat → Int} (h2 : tu_mk z n (fun b => if f b = 2 then 1 else 0)) (h1 : tu_mk w n (fun b => if f b = 1 then 1 else 0)) (hf : ∀ i, i < n → 0 ≤ f i ∧ f i ≤ 2) : tu_mk (tu_or z w) n (fun b => if f b = 0 then 0 else 1) := fun i hi => by
  rw [tu_bi_or, h2 i hi, h1 i hi]
  by_cases q : i < n
  · have := hf i q
    rcases (show f i = 0 ∨ f i = 1 ∨ f i = 2 by omega) with e | e | e <;> simp [q, e]
  · simp [q]
theorem tu_LM.tk {r : Nat → Int} {B : Nat → Nat → Int} {l p : Nat} {L a k : Nat → Int} (h : tu_LM r (tu_al B l) (tu_kp B p) (tu_nl B l) (tu_np B p) (B 1 0)) (hK : tu_TK B l p L a k) : tu_LM r a k (tu_nl B l) (tu_np B p) (L 0) := by
  refine ⟨⟨h.1.1, h.1.2.q (fun i hi => by rw [hK.2.1 i hi])⟩, ⟨h.2.1.1, h.2.1.2.1.q (fun i hi => by rw [hK.2.2 i hi]), h.2.1.2.2.q (fun i hi => by rw [hK.2.2 i hi])⟩, by rw [h.2.2, hK.1.1]⟩
set_option maxRecDepth 20000 in
set_option maxHeartbeats 4000000 in
theorem c_X4_look {M : tu_M} (B : Nat → Nat → Int) (l p : Nat) (hO : tu_BO B) (hR : tu_MB B (M 87)) (hl : (l : Int) < B 0 1) (hp : (p : Int) < B 0 4) : tu_MV tu_Y_X4_look [tu_r 86, tu_i ((l : Nat) : Int), tu_i ((p : Nat) : Int)] M (fun M' => ∃ (r9 : Nat → Int), M' = tu_row M 86 r9 ∧ (tu_LM r9 (tu_al B l) (tu_kp B p) (tu_nl B l) (tu_np B p) (B 1 0)) ∧ (r9 2 = M 86 2 ∧ r9 6 = M 86 6)) := by
  have cn := hO.1
  have hsy := hO.2.1 l hl
  have hbt := hO.2.2.2.1 p hp
  refine tu_MV.of (by decide) rfl (Nat.le_of_ble_eq_true rfl) (fun T (X : tu_X T cX4_look RX4 1 21) hnl hret => ?_)
  have hret : tu_RV T cX4_look (fun M' => ∃ (r9 : Nat → Int), M' = tu_row M 86 r9 ∧ (tu_LM r9 (tu_al B l) (tu_kp B p) (tu_nl B l) (tu_np B p) (B 1 0)) ∧ (r9 2 = M 86 2 ∧ r9 6 = M 86 6)) := hret
  have hnl : T.2.2.2.2.2.2.2.2.2.2.1 = 3 := hnl
  show tu_W T 0 [(0, tu_r 86), (1, tu_i ((l : Nat) : Int)), (2, tu_i ((p : Nat) : Int))] [] M
  refine tu_aload_n 0 X 0 dX4_look_0 rfl ?_
  refine tu_aload_n 1 X 0 dX4_look_1 rfl ?_
  refine tu_iload_n 2 X 1 dX4_look_2 rfl ?_
  refine tu_callVI 3 X (st := [tu_r 86]) (as := [tu_i ((l : Nat) : Int)]) (c_X4_lineLength B l (show tu_BO B from by first | assumption | omega | exact ⟨by omega, by omega⟩ | decide) (show tu_MB B (M 87) from by first | assumption | omega | exact ⟨by omega, by omega⟩ | decide) (show (l : Int) < B 0 1 from by first | assumption | omega | exact ⟨by omega, by omega⟩ | decide)) sv_RX4_56 dX4_look_3 rfl (by decide) rfl rfl rfl (Nat.le_of_ble_eq_true rfl) ⟨by decide, by decide⟩ (fun z M' h => ?_)
  obtain ⟨hM3, hz3⟩ := h
  refine tu_st_eq rfl (M' := M) hM3 ?_
  refine tu_tp (b := (B 2 l)) hz3 ?_
  refine tu_putI 6 X (M' := tu_row M 86 (tu_u (M 86) 10 (B 2 l))) dX4_look_6 fp_RX4_66 (by decide) rfl rfl rfl ?_
  refine tu_aload_n 9 X 0 dX4_look_9 rfl ?_
  refine tu_aload_n 10 X 0 dX4_look_10 rfl ?_
  refine tu_getR 11 X dX4_look_11 fl_RX4_7 (by decide) rfl rfl ?_
  refine tu_bipush 14 X dX4_look_14 (by decide) ?_
  refine tu_iconst 16 X dX4_look_16 ?_
  refine tu_iload_n 17 X 1 dX4_look_17 rfl ?_
  refine tu_imul 18 X dX4_look_18 ?_
  refine tu_iadd 19 X dX4_look_19 ?_
  refine tu_iconst 20 X dX4_look_20 ?_
  refine tu_iadd 21 X dX4_look_21 ?_
  refine tu_iald 22 X (x := M 87 ((8 + (2 * l)) + 1)) ((8 + (2 * l)) + 1) dX4_look_22 (by decide) rfl (by decide) (by omega) (by omega) rfl ?_
  refine tu_putI 23 X (M' := tu_row M 86 (tu_u (tu_u (M 86) 10 (B 2 l)) 11 (M 87 ((8 + (2 * l)) + 1)))) dX4_look_23 fp_RX4_69 (by decide) rfl rfl (tu_rr M 86 (tu_u (M 86) 10 (B 2 l)) (tu_u (tu_u (M 86) 10 (B 2 l)) 11 (M 87 ((8 + (2 * l)) + 1)))) ?_
  refine tu_aload_n 26 X 0 dX4_look_26 rfl ?_
  refine tu_aload_n 27 X 0 dX4_look_27 rfl ?_
  refine tu_iload_n 28 X 2 dX4_look_28 rfl ?_
  refine tu_callVI 29 X (st := [tu_r 86]) (as := [tu_i ((p : Nat) : Int)]) (c_X4_phraseLength B p (show tu_BO B from by first | assumption | omega | exact ⟨by omega, by omega⟩ | decide) (show tu_MB B (M 87) from by first | assumption | omega | exact ⟨by omega, by omega⟩ | decide) (show (p : Int) < B 0 4 from by first | assumption | omega | exact ⟨by omega, by omega⟩ | decide)) sv_RX4_63 dX4_look_29 rfl (by decide) rfl rfl rfl (Nat.le_of_ble_eq_true rfl) ⟨by decide, by decide⟩ (fun z M' h => ?_)
  obtain ⟨hM29, hz29⟩ := h
  refine tu_st_eq rfl (M' := tu_row M 86 (tu_u (tu_u (M 86) 10 (B 2 l)) 11 (M 87 ((8 + (2 * l)) + 1)))) hM29 ?_
  refine tu_tp (b := (B 4 p)) hz29 ?_
  refine tu_putI 32 X (M' := tu_row M 86 (tu_u (tu_u (tu_u (M 86) 10 (B 2 l)) 11 (M 87 ((8 + (2 * l)) + 1))) 12 (B 4 p))) dX4_look_32 fp_RX4_72 (by decide) rfl rfl (tu_rr M 86 (tu_u (tu_u (M 86) 10 (B 2 l)) 11 (M 87 ((8 + (2 * l)) + 1))) (tu_u (tu_u (tu_u (M 86) 10 (B 2 l)) 11 (M 87 ((8 + (2 * l)) + 1))) 12 (B 4 p))) ?_
  refine tu_aload_n 35 X 0 dX4_look_35 rfl ?_
  refine tu_aload_n 36 X 0 dX4_look_36 rfl ?_
  refine tu_getR 37 X dX4_look_37 fl_RX4_7 (by decide) rfl rfl ?_
  refine tu_bipush 40 X dX4_look_40 (by decide) ?_
  refine tu_iconst 42 X dX4_look_42 ?_
  refine tu_iload_n 43 X 2 dX4_look_43 rfl ?_
  refine tu_imul 44 X dX4_look_44 ?_
  refine tu_iadd 45 X dX4_look_45 ?_
  refine tu_iconst 46 X dX4_look_46 ?_
  refine tu_iadd 47 X dX4_look_47 ?_
  refine tu_iald 48 X (x := M 87 ((40 + (3 * p)) + 1)) ((40 + (3 * p)) + 1) dX4_look_48 (by decide) rfl (by decide) (by omega) (by omega) rfl ?_
  refine tu_putI 49 X (M' := tu_row M 86 (tu_u (tu_u (tu_u (tu_u (M 86) 10 (B 2 l)) 11 (M 87 ((8 + (2 * l)) + 1))) 12 (B 4 p)) 13 (M 87 ((40 + (3 * p)) + 1)))) dX4_look_49 fp_RX4_75 (by decide) rfl rfl (tu_rr M 86 (tu_u (tu_u (tu_u (M 86) 10 (B 2 l)) 11 (M 87 ((8 + (2 * l)) + 1))) 12 (B 4 p)) (tu_u (tu_u (tu_u (tu_u (M 86) 10 (B 2 l)) 11 (M 87 ((8 + (2 * l)) + 1))) 12 (B 4 p)) 13 (M 87 ((40 + (3 * p)) + 1)))) ?_
  refine tu_aload_n 52 X 0 dX4_look_52 rfl ?_
  refine tu_aload_n 53 X 0 dX4_look_53 rfl ?_
  refine tu_getI 54 X (x := (tu_u (tu_u (tu_u (tu_u (M 86) 10 (B 2 l)) 11 (M 87 ((8 + (2 * l)) + 1))) 12 (B 4 p)) 13 (M 87 ((40 + (3 * p)) + 1))) 13) dX4_look_54 fl_RX4_75 (by decide) rfl rfl rfl ?_
  refine tu_tp (b := (M 87 (((40 + (3 * p)) + 1)))) (by rw [tu_u_s]) ?_
  refine tu_aload_n 57 X 0 dX4_look_57 rfl ?_
  refine tu_getR 58 X dX4_look_58 fl_RX4_7 (by decide) rfl rfl ?_
  refine tu_bipush 61 X dX4_look_61 (by decide) ?_
  refine tu_iconst 63 X dX4_look_63 ?_
  refine tu_iload_n 64 X 2 dX4_look_64 rfl ?_
  refine tu_imul 65 X dX4_look_65 ?_
  refine tu_iadd 66 X dX4_look_66 ?_
  refine tu_iconst 67 X dX4_look_67 ?_
  refine tu_iadd 68 X dX4_look_68 ?_
  refine tu_iald 69 X (x := M 87 ((40 + (3 * p)) + 2)) ((40 + (3 * p)) + 2) dX4_look_69 (by decide) rfl (by decide) (by omega) (by omega) rfl ?_
  refine tu_ior 70 X dX4_look_70 ?_
  refine tu_putI 71 X (M' := tu_row M 86 (tu_u (tu_u (tu_u (tu_u (tu_u (M 86) 10 (B 2 l)) 11 (M 87 ((8 + (2 * l)) + 1))) 12 (B 4 p)) 13 (M 87 ((40 + (3 * p)) + 1))) 14 (tu_or (M 87 (((40 + (3 * p)) + 1))) (M 87 ((40 + (3 * p)) + 2))))) dX4_look_71 fp_RX4_78 (by decide) rfl rfl (tu_rr M 86 (tu_u (tu_u (tu_u (tu_u (M 86) 10 (B 2 l)) 11 (M 87 ((8 + (2 * l)) + 1))) 12 (B 4 p)) 13 (M 87 ((40 + (3 * p)) + 1))) (tu_u (tu_u (tu_u (tu_u (tu_u (M 86) 10 (B 2 l)) 11 (M 87 ((8 + (2 * l)) + 1))) 12 (B 4 p)) 13 (M 87 ((40 + (3 * p)) + 1))) 14 (tu_or (M 87 (((40 + (3 * p)) + 1))) (M 87 ((40 + (3 * p)) + 2))))) ?_
  refine tu_aload_n 74 X 0 dX4_look_74 rfl ?_
  refine tu_aload_n 75 X 0 dX4_look_75 rfl ?_
  refine tu_getR 76 X dX4_look_76 fl_RX4_7 (by decide) rfl rfl ?_
  refine tu_iconst 79 X dX4_look_79 ?_
  refine tu_iald 80 X (x := M 87 0) 0 dX4_look_80 (by decide) rfl (by decide) rfl (by decide) rfl ?_
  refine tu_tp (b := (B 1 0)) (by exact hR.set 0 (by decide)) ?_
  refine tu_putI 81 X (M' := tu_row M 86 (tu_u (tu_u (tu_u (tu_u (tu_u (tu_u (M 86) 10 (B 2 l)) 11 (M 87 ((8 + (2 * l)) + 1))) 12 (B 4 p)) 13 (M 87 ((40 + (3 * p)) + 1))) 14 (tu_or (M 87 (((40 + (3 * p)) + 1))) (M 87 ((40 + (3 * p)) + 2)))) 15 (B 1 0))) dX4_look_81 fp_RX4_81 (by decide) rfl rfl (tu_rr M 86 (tu_u (tu_u (tu_u (tu_u (tu_u (M 86) 10 (B 2 l)) 11 (M 87 ((8 + (2 * l)) + 1))) 12 (B 4 p)) 13 (M 87 ((40 + (3 * p)) + 1))) 14 (tu_or (M 87 (((40 + (3 * p)) + 1))) (M 87 ((40 + (3 * p)) + 2)))) (tu_u (tu_u (tu_u (tu_u (tu_u (tu_u (M 86) 10 (B 2 l)) 11 (M 87 ((8 + (2 * l)) + 1))) 12 (B 4 p)) 13 (M 87 ((40 + (3 * p)) + 1))) 14 (tu_or (M 87 (((40 + (3 * p)) + 1))) (M 87 ((40 + (3 * p)) + 2)))) 15 (B 1 0))) ?_
  refine hret 84 _ _ dX4_look_84 ?_
  refine ⟨_, rfl, ⟨⟨?_, ?_⟩, ⟨?_, ?_, ?_⟩, ?_⟩, rfl, rfl⟩
  · show B 2 l = ((tu_nl B l : Nat) : Int)
    unfold tu_nl; omega
  · show tu_mk (M 87 (8 + 2 * l + 1)) (tu_nl B l) (tu_al B l)
    exact hR.st l hl
  · show B 4 p = ((tu_np B p : Nat) : Int)
    unfold tu_np; omega
  · show tu_mk (M 87 (40 + 3 * p + 1)) (tu_np B p) (fun b => if tu_kp B p b = 2 then 1 else 0)
    exact hR.k2 p hp
  · show tu_mk (tu_or (M 87 (40 + 3 * p + 1)) (M 87 (40 + 3 * p + 2))) (tu_np B p) (fun b => if tu_kp B p b = 0 then 0 else 1)
    exact tu_mk.orr (hR.k2 p hp) (hR.k1 p hp) (fun i hi => hO.2.2.2.2.1 p i hp (by unfold tu_np at hi; omega))
  · rfl
set_option maxRecDepth 20000 in
set_option maxHeartbeats 400000 in
theorem c_X4_costOf {M : tu_M} (B : Nat → Nat → Int) (L a k r c : Nat → Int) (l p : Nat) (hO : tu_BO B) (hR : tu_MB B (M 87)) (hl : (l : Int) < B 0 1) (hp : (p : Int) < B 0 4) (hK : tu_LK L a k r (tu_nl B l) (tu_np B p)) (hTK : tu_TK B l p L a k) (hT : tu_Tx L a k r (tu_nl B l) (tu_np B p) c) : tu_MI tu_Y_X4_costOf [tu_r 86, tu_i ((l : Nat) : Int), tu_i ((p : Nat) : Int)] M (fun z M' => ∃ (r9 : Nat → Int) (C : Nat → Int) (W : Nat → Int) (U : Nat → Int), M' = tu_row (tu_row (tu_row (tu_row M 86 r9) 92 C) 93 W) 94 U ∧ (tu_LM r9 a k (tu_nl B l) (tu_np B p) (L 0)) ∧ (r9 2 = M 86 2 ∧ r9 6 = M 86 6) ∧ (tu_AD L a k r c (tu_nl B l) (tu_np B p) (tu_nl B l + 1) 0 C W U) ∧ z = tu_nv (c 0)) := by
  refine tu_MI.of (ty := .int) (by decide) rfl (by first | exact Or.inl rfl | exact Or.inr rfl) (Nat.le_of_ble_eq_true rfl) (fun T (X : tu_X T cX4_costOf RX4 5 113) hnl hrt hret => ?_)
  have hret : tu_RI T cX4_costOf (fun z M' => ∃ (r9 : Nat → Int) (C : Nat → Int) (W : Nat → Int) (U : Nat → Int), M' = tu_row (tu_row (tu_row (tu_row M 86 r9) 92 C) 93 W) 94 U ∧ (tu_LM r9 a k (tu_nl B l) (tu_np B p) (L 0)) ∧ (r9 2 = M 86 2 ∧ r9 6 = M 86 6) ∧ (tu_AD L a k r c (tu_nl B l) (tu_np B p) (tu_nl B l + 1) 0 C W U) ∧ z = tu_nv (c 0)) := hret
  have hnl : T.2.2.2.2.2.2.2.2.2.2.1 = 3 := hnl
  show tu_W T 0 [(0, tu_r 86), (1, tu_i ((l : Nat) : Int)), (2, tu_i ((p : Nat) : Int))] [] M
  refine tu_aload_n 0 X 0 dX4_costOf_0 rfl ?_
  refine tu_iload_n 1 X 1 dX4_costOf_1 rfl ?_
  refine tu_iload_n 2 X 2 dX4_costOf_2 rfl ?_
  refine tu_callVV 3 X (st := []) (as := [tu_i ((l : Nat) : Int), tu_i ((p : Nat) : Int)]) (c_X4_look B l p (show tu_BO B from by first | assumption | omega | exact ⟨by omega, by omega⟩ | decide) (show tu_MB B (M 87) from by first | assumption | omega | exact ⟨by omega, by omega⟩ | decide) (show (l : Int) < B 0 1 from by first | assumption | omega | exact ⟨by omega, by omega⟩ | decide) (show (p : Int) < B 0 4 from by first | assumption | omega | exact ⟨by omega, by omega⟩ | decide)) sv_RX4_115 dX4_costOf_3 rfl (by decide) rfl rfl rfl (Nat.le_of_ble_eq_true rfl) ⟨by decide, by decide⟩ (fun M' h => ?_)
  obtain ⟨r9_3, hM3, h3_0, h3_1⟩ := h
  refine tu_st_eq rfl (M' := tu_row M 86 r9_3) hM3 ?_
  have hLM := tu_LM.tk h3_0 hTK
  refine tu_aload_n 6 X 0 dX4_costOf_6 rfl ?_
  refine tu_callVI 7 X (st := []) (as := []) (c_X4_findCost L a k r (tu_nl B l) (tu_np B p) c (show tu_LM (r9_3) a k (tu_nl B l) (tu_np B p) (L 0) from by exact hLM) (show M 87 1 = L 1 ∧ M 87 2 = L 2 ∧ M 87 3 = L 3 from by exact ⟨(hR.set 1 (by decide)).trans hTK.1.2.1.symm, (hR.set 2 (by decide)).trans hTK.1.2.2.1.symm, (hR.set 3 (by decide)).trans hTK.1.2.2.2.symm⟩) (show tu_LK L a k r (tu_nl B l) (tu_np B p) from by first | assumption | omega | exact ⟨by omega, by omega⟩ | decide) (show tu_Tx L a k r (tu_nl B l) (tu_np B p) c from by first | assumption | omega | exact ⟨by omega, by omega⟩ | decide)) sv_RX4_118 dX4_costOf_7 rfl (by decide) rfl rfl rfl (Nat.le_of_ble_eq_true rfl) ⟨by decide, by decide⟩ (fun z M' h => ?_)
  obtain ⟨C_7, W_7, U_7, hM7, h7_0, hz7⟩ := h
  refine tu_st_eq rfl (M' := tu_row (tu_row (tu_row (tu_row M 86 r9_3) 92 C_7) 93 W_7) 94 U_7) hM7 ?_
  refine tu_tp (b := (tu_nv (c 0))) hz7 ?_
  refine hret 10 _ _ (tu_nv (c 0)) dX4_costOf_10 (fun h => by rw [hrt] at h; cases h) ?_
  exact ⟨_, _, _, _, rfl, hLM, h3_1, h7_0, rfl⟩
set_option maxRecDepth 20000 in
set_option maxHeartbeats 400000 in
theorem c_X4_beatsFrom {M : tu_M} (L a k r : Nat → Int) (n m : Nat) (c : Nat → Int) (s b : Nat) (hM : tu_LM (M 86) a k n m (L 0)) (hs : M 87 1 = L 1 ∧ M 87 2 = L 2 ∧ M 87 3 = L 3) (hK : tu_LK L a k r n m) (hT : tu_Tx L a k r n m c) (hA : tu_AD L a k r c n m (n + 1) 0 (M 92) (M 93) (M 94)) (hs9 : s < n) (hb9 : b < m) (hc9 : c (s * 25 + b) < 1000000) : tu_MI tu_Y_X4_beatsFrom [tu_r 86, tu_i ((s : Nat) : Int), tu_i ((b : Nat) : Int)] M (fun z M' => M' = M ∧ z = ((tu_hx L a k r c s b : Nat) : Int)) := by
  have kn := hK.2.1
  have km := hK.2.2.1
  have k0 := hK.2.2.2.1
  have k1 := hK.2.2.2.2.1
  have k2 := hK.2.2.2.2.2.1
  have k3 := hK.2.2.2.2.2.2.1
  have hmh := tu_mh_le hK hb9
  have b0 := (hA s b (by omega) (by omega) (Or.inl (by omega))).1
  rw [tu_nv_lo hc9] at b0
  have b1 := tu_small hK hT (show s ≤ n from by omega) (show b ≤ m from by omega) hc9
  refine tu_MI.of (ty := .int) (by decide) rfl (by first | exact Or.inl rfl | exact Or.inr rfl) (Nat.le_of_ble_eq_true rfl) (fun T (X : tu_X T cX4_beatsFrom RX4 3 67) hnl hrt hret => ?_)
  have hret : tu_RI T cX4_beatsFrom (fun z M' => M' = M ∧ z = ((tu_hx L a k r c s b : Nat) : Int)) := hret
  have hnl : T.2.2.2.2.2.2.2.2.2.2.1 = 4 := hnl
  show tu_W T 0 [(0, tu_r 86), (1, tu_i ((s : Nat) : Int)), (2, tu_i ((b : Nat) : Int))] [] M
  refine tu_iconst 0 X dX4_beatsFrom_0 ?_
  refine tu_istore_n 1 X (lv' := [(3, tu_i 1), (0, tu_r 86), (1, tu_i ((s : Nat) : Int)), (2, tu_i ((b : Nat) : Int))]) dX4_beatsFrom_1 (by rw [hnl]; decide) rfl ?_
  have lp2 : ∀ (nq : Nat) (e9 : Nat), (e9 ≤ tu_mh L r b) → (tu_fs (fun q => decide (tu_ch L a k c s b q = c (s * 25 + b))) e9 = 0) → 9 - e9 < nq → tu_W T 2 [(0, tu_r 86), (1, tu_i ((s : Nat) : Int)), (2, tu_i ((b : Nat) : Int)), (3, tu_i (((e9 : Nat) : Int) + 1))] [] M := by
    intro nq
    induction nq with
    | zero => intros; omega
    | succ nq ih2 =>
      intro e9 hi hf hn2
      have lp64 : (¬ (((e9 : Nat) : Int) + 1 ≤ L 0 ∧ b + (e9 + 1) ≤ m ∧ k (b + e9) ≠ 0)) → tu_W T 64 [(0, tu_r 86), (1, tu_i ((s : Nat) : Int)), (2, tu_i ((b : Nat) : Int)), (3, tu_i (((e9 : Nat) : Int) + 1))] [] M := by
          intro  jx
          refine tu_iconst 64 X dX4_beatsFrom_64 ?_
          refine hret 65 _ _ 0 dX4_beatsFrom_65 (fun h => by rw [hrt] at h; cases h) ?_
          refine ⟨rfl, ?_⟩
          have e : e9 = tu_mh L r b := by
            have := tu_mh_step hK hb9 hi
            by_cases z : e9 + 1 ≤ tu_mh L r b
            · exact absurd (this.mp z) (by intro w; exact jx ⟨by omega, w.2.1, w.2.2⟩)
            · omega
          unfold tu_hx
          rw [← e, hf]
          rfl
      refine tu_iload_n 2 X 3 dX4_beatsFrom_2 rfl ?_
      refine tu_aload_n 3 X 0 dX4_beatsFrom_3 rfl ?_
      refine tu_getI 4 X (x := M 86 15) dX4_beatsFrom_4 fl_RX4_81 (by decide) rfl rfl rfl ?_
      refine tu_tp (b := (L 0)) (by exact hM.2.2) ?_
      refine tu_icmp_gt 7 X 64 dX4_beatsFrom_7 (by decide) (show tu_rg (((e9 : Nat) : Int) + 1) from by first | assumption | exact ⟨by omega, by omega⟩) (show tu_rg (L 0) from by first | assumption | exact ⟨by omega, by omega⟩) (fun br7 => ?_) (fun br7 => ?_)
      ·
        refine tu_jmp [0, 1, 2, 3] (lv' := [(0, tu_r 86), (1, tu_i ((s : Nat) : Int)), (2, tu_i ((b : Nat) : Int)), (3, tu_i (((e9 : Nat) : Int) + 1))]) ⟨rfl, rfl, rfl, rfl, trivial⟩ rfl (lp64 (by first | omega | (intro z; exact br32 (e3.mpr z.2.2))))
      ·
        refine tu_iload_n 10 X 2 dX4_beatsFrom_10 rfl ?_
        refine tu_iload_n 11 X 3 dX4_beatsFrom_11 rfl ?_
        refine tu_iadd 12 X dX4_beatsFrom_12 ?_
        refine tu_aload_n 13 X 0 dX4_beatsFrom_13 rfl ?_
        refine tu_getI 14 X (x := M 86 12) dX4_beatsFrom_14 fl_RX4_72 (by decide) rfl rfl rfl ?_
        refine tu_tp (b := ((m : Nat) : Int)) (by exact hM.2.1.1) ?_
        refine tu_icmp_gt 17 X 64 dX4_beatsFrom_17 (by decide) (show tu_rg (((b : Nat) : Int) + (((e9 : Nat) : Int) + 1)) from by first | assumption | exact ⟨by omega, by omega⟩) (show tu_rg ((m : Nat) : Int) from by first | assumption | exact ⟨by omega, by omega⟩) (fun br17 => ?_) (fun br17 => ?_)
        ·
          refine tu_jmp [0, 1, 2, 3] (lv' := [(0, tu_r 86), (1, tu_i ((s : Nat) : Int)), (2, tu_i ((b : Nat) : Int)), (3, tu_i (((e9 : Nat) : Int) + 1))]) ⟨rfl, rfl, rfl, rfl, trivial⟩ rfl (lp64 (by first | omega | (intro z; exact br32 (e3.mpr z.2.2))))
        ·
          have e3 := hM.so (by omega) (show b + e9 < m from by omega)
          refine tu_aload_n 20 X 0 dX4_beatsFrom_20 rfl ?_
          refine tu_getI 21 X (x := M 86 14) dX4_beatsFrom_21 fl_RX4_78 (by decide) rfl rfl rfl ?_
          refine tu_iload_n 24 X 2 dX4_beatsFrom_24 rfl ?_
          refine tu_iload_n 25 X 3 dX4_beatsFrom_25 rfl ?_
          refine tu_iadd 26 X dX4_beatsFrom_26 ?_
          refine tu_iconst 27 X dX4_beatsFrom_27 ?_
          refine tu_isub 28 X dX4_beatsFrom_28 ?_
          refine tu_st_eq (show _ = [tu_i (((b + e9) : Nat) : Int), tu_i (M 86 14)] from by first | rfl | (simp only [List.cons.injEq, Sum.inl.injEq, and_true, true_and]; omega)) rfl ?_
          refine tu_callSI 29 X (st := []) (as := [tu_i (M 86 14), tu_i (((b + e9) : Nat) : Int)]) (c_X4_has (M 86 14) (b + e9) (show (b + e9) < 32 from by first | assumption | omega | exact ⟨by omega, by omega⟩ | decide)) ss_RX4_84 dX4_beatsFrom_29 rfl (Nat.le_of_ble_eq_true rfl) ⟨by decide, by decide⟩ (fun z M' h => ?_)
          obtain ⟨hM29, hz29⟩ := h
          refine tu_st_eq rfl (M' := M) hM29 ?_
          refine tu_tp (b := tu_b (tu_bi (M 86 14) (b + e9) = 1)) hz29 ?_
          refine tu_if_eq 32 X 64 dX4_beatsFrom_32 (by decide) tu_b_rg (fun br32 => ?_) (fun br32 => ?_)
          ·
            have br32 := tu_b_e0 br32
            refine tu_jmp [0, 1, 2, 3] (lv' := [(0, tu_r 86), (1, tu_i ((s : Nat) : Int)), (2, tu_i ((b : Nat) : Int)), (3, tu_i (((e9 : Nat) : Int) + 1))]) ⟨rfl, rfl, rfl, rfl, trivial⟩ rfl (lp64 (by first | omega | (intro z; exact br32 (e3.mpr z.2.2))))
          ·
            have br32 := tu_b_n0 br32
            have hl2 := (tu_mh_step hK hb9 hi).mpr ⟨by omega, by omega, e3.mp br32⟩
            have ah := (hA (s + 1) (b + (e9 + 1)) (by omega) (by omega) (Or.inl (by omega))).1
            have a1 : M 92 (25 * (s + 1) + b + (e9 + 1)) = tu_nv (c ((s + 1) * 25 + (b + (e9 + 1)))) := by rw [show (25 * (s + 1) + b + (e9 + 1)) = 25 * (s + 1) + (b + (e9 + 1)) from by omega]; exact ah
            have bz2 := tu_nv_rg (hT.bd hK.2.2.1.2 (show s + 1 ≤ n from by omega) (show b + (e9 + 1) ≤ m from by omega)).1
            have bz := tu_nv_rg (hT.ch hK hs9 hb9 (show 1 ≤ e9 + 1 from by omega) hl2).1
            refine tu_aload_n 35 X 0 dX4_beatsFrom_35 rfl ?_
            refine tu_iload_n 36 X 1 dX4_beatsFrom_36 rfl ?_
            refine tu_iload_n 37 X 2 dX4_beatsFrom_37 rfl ?_
            refine tu_iload_n 38 X 3 dX4_beatsFrom_38 rfl ?_
            refine tu_st_eq (show _ = [tu_i (((e9 + 1) : Nat) : Int), tu_i ((b : Nat) : Int), tu_i ((s : Nat) : Int), tu_r 86] from by first | rfl | (simp only [List.cons.injEq, Sum.inl.injEq, and_true, true_and]; omega)) rfl ?_
            refine tu_callVI 39 X (st := []) (as := [tu_i ((s : Nat) : Int), tu_i ((b : Nat) : Int), tu_i (((e9 + 1) : Nat) : Int)]) (c_X4_costOn L a k r n m s b (e9 + 1) (show tu_LM (M 86) a k n m (L 0) from by first | assumption | omega | exact ⟨by omega, by omega⟩ | decide) (show M 87 1 = L 1 ∧ M 87 2 = L 2 ∧ M 87 3 = L 3 from by first | assumption | omega | exact ⟨by omega, by omega⟩ | decide) (show tu_LK L a k r n m from by first | assumption | omega | exact ⟨by omega, by omega⟩ | decide) (show s < n from by first | assumption | omega | exact ⟨by omega, by omega⟩ | decide) (show b + (e9 + 1) ≤ m ∧ 1 ≤ (e9 + 1) from by first | assumption | omega | exact ⟨by omega, by omega⟩ | decide) (show tu_rg (M 92 (25 * (s + 1) + b + (e9 + 1))) from by rw [a1]; exact ⟨by omega, by omega⟩)) sv_RX4_104 dX4_beatsFrom_39 rfl (by decide) rfl rfl rfl (Nat.le_of_ble_eq_true rfl) ⟨by decide, by decide⟩ (fun z M' h => ?_)
            obtain ⟨hM39, hz39⟩ := h
            refine tu_st_eq rfl (M' := M) hM39 ?_
            refine tu_tp (b := (if M 92 (25 * (s + 1) + b + (e9 + 1)) = 1000000000 then 1000000000 else M 92 (25 * (s + 1) + b + (e9 + 1)) + L 1 * ((((e9 + 1) : Nat) : Int) - 1) + (if ¬ (a s = 1 ↔ k b = 2) then L 3 else 0))) hz39 ?_
            refine tu_tp (b := (tu_nv (tu_ch L a k c s b (e9 + 1)))) (by exact tu_nv_ch hK hT hs9 (by omega) (by omega) (by omega) a1) ?_
            refine tu_aload_n 42 X 0 dX4_beatsFrom_42 rfl ?_
            refine tu_getR 43 X dX4_beatsFrom_43 fl_RX4_25 (by decide) rfl rfl ?_
            refine tu_bipush 46 X dX4_beatsFrom_46 (by decide) ?_
            refine tu_iload_n 48 X 1 dX4_beatsFrom_48 rfl ?_
            refine tu_imul 49 X dX4_beatsFrom_49 ?_
            refine tu_iload_n 50 X 2 dX4_beatsFrom_50 rfl ?_
            refine tu_iadd 51 X dX4_beatsFrom_51 ?_
            refine tu_iald 52 X (x := M 92 ((25 * s) + b)) ((25 * s) + b) dX4_beatsFrom_52 (by decide) rfl (by decide) (by omega) (by omega) rfl ?_
            refine tu_tp (b := (c (s * 25 + b))) (by exact b0) ?_
            refine tu_icmp_ne 53 X 58 dX4_beatsFrom_53 (by decide) (show tu_rg (tu_nv (tu_ch L a k c s b (e9 + 1))) from by first | assumption | exact ⟨by omega, by omega⟩) (show tu_rg (c (s * 25 + b)) from by first | assumption | exact ⟨by omega, by omega⟩) (fun br53 => ?_) (fun br53 => ?_)
            ·
              refine tu_iinc 58 X (lv' := [(3, tu_i ((((e9 : Nat) : Int) + 1) + 1)), (0, tu_r 86), (1, tu_i ((s : Nat) : Int)), (2, tu_i ((b : Nat) : Int))]) 3 dX4_beatsFrom_58 rfl (by rw [hnl]; decide) rfl ?_
              refine tu_goto 61 X 2 dX4_beatsFrom_61 (by decide) ?_
              refine tu_jmp [1, 2, 3, 0] (lv' := [(0, tu_r 86), (1, tu_i ((s : Nat) : Int)), (2, tu_i ((b : Nat) : Int)), (3, tu_i ((((e9 + 1) : Nat) : Int) + 1))]) ⟨rfl, rfl, rfl, tu_ei (by first | rfl | omega), trivial⟩ rfl (ih2 (e9 + 1) (by omega) (by exact tu_fs_miss hf (by rw [decide_eq_true_eq]; exact fun z => br53 ((tu_nv_eq hc9).mpr z))) (by omega))
            ·
              refine tu_iload_n 56 X 3 dX4_beatsFrom_56 rfl ?_
              refine hret 57 _ _ (((e9 : Nat) : Int) + 1) dX4_beatsFrom_57 (fun h => by rw [hrt] at h; cases h) ?_
              refine ⟨rfl, ?_⟩
              have hit := tu_fs_hit hf (show (fun q => decide (tu_ch L a k c s b q = c (s * 25 + b))) (e9 + 1) = true from by show decide _ = true; rw [decide_eq_true_eq]; exact (tu_nv_eq hc9).mp (by omega)) hl2
              unfold tu_hx
              rw [hit]
              omega
  refine tu_jmp [1, 2, 3, 0] (lv' := [(0, tu_r 86), (1, tu_i ((s : Nat) : Int)), (2, tu_i ((b : Nat) : Int)), (3, tu_i (((0 : Nat) : Int) + 1))]) ⟨rfl, rfl, rfl, tu_ei (by first | rfl | omega), trivial⟩ rfl (lp2 ((9 - 0) + 1) 0 (by omega) (by rfl) (by omega))
