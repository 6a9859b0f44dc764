def tu_AD (L a k r c : Nat → Int) (n m j i : Nat) (C W U : Nat → Int) : Prop := ∀ t q, t ≤ n → q ≤ m → (n < t + j ∨ (t + j = n ∧ m < q + i)) → tu_AT1 L a k r c n m t q C W U
theorem tu_AD_0 {L a k r c : Nat → Int} {n m : Nat} {C W U : Nat → Int} : tu_AD L a k r c n m 0 0 C W U := fun t q h1 h2 h3 => absurd h3 (by omega)
theorem tu_AD.row {L a k r c : Nat → Int} {n m j i : Nat} {C W U : Nat → Int} (h : tu_AD L a k r c n m j i C W U) (hi : m < i) : tu_AD L a k r c n m (j + 1) 0 C W U := fun t q h1 h2 h3 => h t q h1 h2 (by omega)
theorem tu_AD.at {L a k r c : Nat → Int} {n m j i : Nat} {C W U : Nat → Int} (h : tu_AD L a k r c n m j i C W U) (hj : j ≤ n) (hi : i ≤ m) : tu_AT L a k r c n m (n - j) (m - i) C W U := fun t q h1 h2 h3 => h t q h1 h2 (by omega)
theorem tu_AD.next {L a k r c : Nat → Int} {n m j i : Nat} {C W U C' W' U' : Nat → Int} (h : tu_AD L a k r c n m j i C W U) (hm : m ≤ 24) (hj : j ≤ n ∧ i ≤ m) (e : ∀ x, x ≠ 25 * (n - j) + (m - i) → C' x = C x ∧ W' x = W x ∧ U' x = U x) (h1 : tu_AT1 L a k r c n m (n - j) (m - i) C' W' U') : tu_AD L a k r c n m j (i + 1) C' W' U' := fun t q t1 q1 w => by
  by_cases z : t = n - j ∧ q = m - i
  · rw [z.1, z.2]; exact h1
  · exact (h t q t1 q1 (by omega)).q (e _ (by omega))
theorem tu_AD.last {L a k r c : Nat → Int} {n m j i x y z : Nat} {C W U C' W' U' : Nat → Int} (h : tu_AD L a k r c n m j i C W U) (hT : tu_Tx L a k r n m c) (e : ∀ x, x ≠ 25 * (n - j) + (m - i) → C' x = C x ∧ W' x = W x ∧ U' x = U x) (hm : m ≤ 24) (hj : j = 0 ∧ i = 0) (hx : x = 25 * n + m ∧ y = x ∧ z = x) : tu_AD L a k r c n m j (i + 1) (tu_u C' x 0) (tu_u W' y 1) (tu_u U' z 1) := fun t q t1 q1 w => by
  obtain ⟨rfl, rfl⟩ := hj
  obtain ⟨rfl, rfl, rfl⟩ := hx
  have et : t = n ∧ q = m := by omega
  rw [et.1, et.2]
  unfold tu_AT1
  rw [tu_u_s, tu_u_s, tu_u_s, hT.1.1]
  exact ⟨rfl, ⟨by omega, by omega⟩, fun z => absurd z (by decide), fun v hv => (hv.1 m (Nat.le_refl _)).symm, fun v hv _ => (hv.1 m (Nat.le_refl _)).symm⟩
set_option maxRecDepth 20000 in
set_option maxHeartbeats 400000 in
theorem c_X4_findCost {M : tu_M} (L a k r : Nat → Int) (n m : Nat) (c : Nat → Int)  (hM : tu_LM (M 86) a k n m (L 0)) (hs : M 87 1 = L 1 ∧ M 87 2 = L 2 ∧ M 87 3 = L 3) (hK : tu_LK L a k r n m) (hT : tu_Tx L a k r n m c) : tu_MI tu_Y_X4_findCost [tu_r 86] M (fun z M' => ∃ (C : Nat → Int) (W : Nat → Int) (U : Nat → Int), M' = tu_row (tu_row (tu_row M 92 C) 93 W) 94 U ∧ (tu_AD L a k r c n m (n + 1) 0 C W U) ∧ z = tu_nv (c 0)) := by
  have kn := hK.2.1
  have km := hK.2.2.1
  have k0 := hK.2.2.2.1
  have k1 := hK.2.2.2.2.1
  have k2 := hK.2.2.2.2.2.1
  have k3 := hK.2.2.2.2.2.2.1
  refine tu_MI.of (ty := .int) (by decide) rfl (by first | exact Or.inl rfl | exact Or.inr rfl) (Nat.le_of_ble_eq_true rfl) (fun T (X : tu_X T cX4_findCost RX4 4 91) hnl hrt hret => ?_)
  have hret : tu_RI T cX4_findCost (fun z M' => ∃ (C : Nat → Int) (W : Nat → Int) (U : Nat → Int), M' = tu_row (tu_row (tu_row M 92 C) 93 W) 94 U ∧ (tu_AD L a k r c n m (n + 1) 0 C W U) ∧ z = tu_nv (c 0)) := hret
  have hnl : T.2.2.2.2.2.2.2.2.2.2.1 = 3 := hnl
  show tu_W T 0 [(0, tu_r 86)] [] M
  refine tu_aload_n 0 X 0 dX4_findCost_0 rfl ?_
  refine tu_getI 1 X (x := M 86 10) dX4_findCost_1 fl_RX4_66 (by decide) rfl rfl rfl ?_
  refine tu_tp (b := ((n : Nat) : Int)) (by exact hM.1.1) ?_
  refine tu_istore_n 4 X (lv' := [(1, tu_i ((n : Nat) : Int)), (0, tu_r 86)]) dX4_findCost_4 (by rw [hnl]; decide) rfl ?_
  refine tu_st_eq rfl (M' := tu_row M 92 (M 92)) ((tu_rx M 92).symm) ?_
  refine tu_st_eq rfl (M' := tu_row (tu_row M 92 (M 92)) 93 (M 93)) ((congrArg (fun m => tu_row m 92 (M 92)) ((tu_rx M 93).symm)).trans (tu_rc M (M 93) (M 92) rfl)) ?_
  refine tu_st_eq rfl (M' := tu_row (tu_row (tu_row M 92 (M 92)) 93 (M 93)) 94 (M 94)) ((congrArg (fun m => tu_row m 93 (M 93)) ((congrArg (fun m => tu_row m 92 (M 92)) ((tu_rx M 94).symm)).trans (tu_rc M (M 94) (M 92) rfl))).trans (tu_rc (tu_row M 92 (M 92)) (M 94) (M 93) rfl)) ?_
  have lp5 : ∀ (nq : Nat) (j : Nat) (C : Nat → Int) (W : Nat → Int) (U : Nat → Int), (j ≤ n + 1) → (tu_AD L a k r c n m j 0 C W U) → n + 1 - j < nq → tu_W T 5 [(0, tu_r 86), (1, tu_i (((n : Nat) : Int) - ((j : Nat) : Int)))] [] (tu_row (tu_row (tu_row M 92 C) 93 W) 94 U) := by
    intro nq
    induction nq with
    | zero => intros; omega
    | succ nq ih5 =>
      intro j C W U hj hB hn5
      refine tu_iload_n 5 X 1 dX4_findCost_5 rfl ?_
      refine tu_if_lt 6 X 88 dX4_findCost_6 (by decide) (show tu_rg (((n : Nat) : Int) - ((j : Nat) : Int)) from by first | assumption | exact ⟨by omega, by omega⟩) (fun br6 => ?_) (fun br6 => ?_)
      ·
        refine tu_aload_n 88 X 0 dX4_findCost_88 rfl ?_
        refine tu_getR 89 X dX4_findCost_89 fl_RX4_25 (by decide) rfl rfl ?_
        refine tu_iconst 92 X dX4_findCost_92 ?_
        refine tu_iald 93 X (x := C 0) 0 dX4_findCost_93 (by decide) rfl (by decide) rfl (by decide) rfl ?_
        refine tu_tp (b := (tu_nv (c 0))) (by exact (hB 0 0 (by omega) (by omega) (Or.inl (by omega))).1) ?_
        refine hret 94 _ _ (tu_nv (c 0)) dX4_findCost_94 (fun h => by rw [hrt] at h; cases h) ?_
        have ej : j = n + 1 := by omega
        subst ej
        exact ⟨C, W, U, rfl, hB, rfl⟩
      ·
        refine tu_aload_n 9 X 0 dX4_findCost_9 rfl ?_
        refine tu_getI 10 X (x := M 86 12) dX4_findCost_10 fl_RX4_72 (by decide) rfl rfl rfl ?_
        refine tu_tp (b := ((m : Nat) : Int)) (by exact hM.2.1.1) ?_
        refine tu_istore_n 13 X (lv' := [(2, tu_i ((m : Nat) : Int)), (0, tu_r 86), (1, tu_i (((n : Nat) : Int) - ((j : Nat) : Int)))]) dX4_findCost_13 (by rw [hnl]; decide) rfl ?_
        have lp14 : ∀ (nq : Nat) (i9 : Nat) (C : Nat → Int) (W : Nat → Int) (U : Nat → Int), (i9 ≤ m + 1) → (tu_AD L a k r c n m j i9 C W U) → m + 1 - i9 < nq → tu_W T 14 [(0, tu_r 86), (1, tu_i (((n : Nat) : Int) - ((j : Nat) : Int))), (2, tu_i (((m : Nat) : Int) - ((i9 : Nat) : Int)))] [] (tu_row (tu_row (tu_row M 92 C) 93 W) 94 U) := by
          intro nq
          induction nq with
          | zero => intros; omega
          | succ nq ih14 =>
            intro i9 C W U hi hD hn14
            refine tu_iload_n 14 X 2 dX4_findCost_14 rfl ?_
            refine tu_if_lt 15 X 82 dX4_findCost_15 (by decide) (show tu_rg (((m : Nat) : Int) - ((i9 : Nat) : Int)) from by first | assumption | exact ⟨by omega, by omega⟩) (fun br15 => ?_) (fun br15 => ?_)
            ·
              refine tu_iinc 82 X (lv' := [(1, tu_i ((((n : Nat) : Int) - ((j : Nat) : Int)) + (-1))), (0, tu_r 86), (2, tu_i (((m : Nat) : Int) - ((i9 : Nat) : Int)))]) 1 dX4_findCost_82 rfl (by rw [hnl]; decide) rfl ?_
              refine tu_goto 85 X 5 dX4_findCost_85 (by decide) ?_
              refine tu_jmp [1, 0] (lv' := [(0, tu_r 86), (1, tu_i (((n : Nat) : Int) - (((j + 1) : Nat) : Int)))]) ⟨rfl, tu_ei (by first | rfl | (omega)), trivial⟩ rfl (ih5 (j + 1) C W U (by omega) (by exact hD.row (by omega)) (by omega))
            ·
              have lp76 : ∀ (C : Nat → Int) (W : Nat → Int) (U : Nat → Int), (tu_AD L a k r c n m j (i9 + 1) C W U) → tu_W T 76 [(0, tu_r 86), (1, tu_i (((n : Nat) : Int) - ((j : Nat) : Int))), (2, tu_i (((m : Nat) : Int) - ((i9 : Nat) : Int)))] [] (tu_row (tu_row (tu_row M 92 C) 93 W) 94 U) := by
                  intro C W U hE
                  refine tu_iinc 76 X (lv' := [(2, tu_i ((((m : Nat) : Int) - ((i9 : Nat) : Int)) + (-1))), (0, tu_r 86), (1, tu_i (((n : Nat) : Int) - ((j : Nat) : Int)))]) 2 dX4_findCost_76 rfl (by rw [hnl]; decide) rfl ?_
                  refine tu_goto 79 X 14 dX4_findCost_79 (by decide) ?_
                  refine tu_jmp [1, 2, 0] (lv' := [(0, tu_r 86), (1, tu_i (((n : Nat) : Int) - ((j : Nat) : Int))), (2, tu_i (((m : Nat) : Int) - (((i9 + 1) : Nat) : Int)))]) ⟨rfl, rfl, tu_ei (by first | rfl | (omega)), trivial⟩ rfl (ih14 (i9 + 1) C W U (by omega) (by exact hE) (by omega))
              refine tu_aload_n 18 X 0 dX4_findCost_18 rfl ?_
              refine tu_iload_n 19 X 1 dX4_findCost_19 rfl ?_
              refine tu_iload_n 20 X 2 dX4_findCost_20 rfl ?_
              refine tu_st_eq (show _ = [tu_i (((m - i9) : Nat) : Int), tu_i (((n - j) : Nat) : Int), tu_r 86] from by first | rfl | (simp only [List.cons.injEq, Sum.inl.injEq, and_true, true_and]; omega)) rfl ?_
              refine tu_callVV 21 X (st := []) (as := [tu_i (((n - j) : Nat) : Int), tu_i (((m - i9) : Nat) : Int)]) (c_X4_findAt L a k r n m c (n - j) (m - i9) (show tu_LM (M 86) a k n m (L 0) from by first | assumption | omega | exact ⟨by omega, by omega⟩ | decide) (show M 87 1 = L 1 ∧ M 87 2 = L 2 ∧ M 87 3 = L 3 from by first | assumption | omega | exact ⟨by omega, by omega⟩ | decide) (show tu_LK L a k r n m from by first | assumption | omega | exact ⟨by omega, by omega⟩ | decide) (show tu_Tx L a k r n m c from by first | assumption | omega | exact ⟨by omega, by omega⟩ | decide) (show (n - j) ≤ n from by omega) (show (m - i9) ≤ m from by omega) (show tu_AT L a k r c n m (n - j) (m - i9) (C) (W) (U) from by exact hD.at (by omega) (by omega))) sv_RX4_108 dX4_findCost_21 rfl (by decide) rfl rfl rfl (Nat.le_of_ble_eq_true rfl) ⟨by decide, by decide⟩ (fun M' h => ?_)
              obtain ⟨C_21, W_21, U_21, hM21, h21_0, h21_1⟩ := h
              refine tu_st_eq rfl (M' := tu_row (tu_row (tu_row M 92 C_21) 93 W_21) 94 U_21) (hM21.trans ((congrArg (fun m => tu_row m 94 U_21) ((congrArg (fun m => tu_row m 93 W_21) ((tu_rc (tu_row (tu_row M 92 C) 93 W) U C_21 rfl).trans (congrArg (fun m => tu_row m 94 U) ((tu_rc (tu_row M 92 C) W C_21 rfl).trans (congrArg (fun m => tu_row m 93 W) (tu_rr M 92 C C_21)))))).trans ((tu_rc (tu_row (tu_row M 92 C_21) 93 W) U W_21 rfl).trans (congrArg (fun m => tu_row m 94 U) (tu_rr (tu_row M 92 C_21) 93 W W_21))))).trans (tu_rr (tu_row (tu_row M 92 C_21) 93 W_21) 94 U U_21))) ?_
              refine tu_iload_n 24 X 1 dX4_findCost_24 rfl ?_
              refine tu_aload_n 25 X 0 dX4_findCost_25 rfl ?_
              refine tu_getI 26 X (x := M 86 10) dX4_findCost_26 fl_RX4_66 (by decide) rfl rfl rfl ?_
              refine tu_tp (b := ((n : Nat) : Int)) (by exact hM.1.1) ?_
              refine tu_icmp_ne 29 X 76 dX4_findCost_29 (by decide) (show tu_rg (((n : Nat) : Int) - ((j : Nat) : Int)) from by first | assumption | exact ⟨by omega, by omega⟩) (show tu_rg ((n : Nat) : Int) from by first | assumption | exact ⟨by omega, by omega⟩) (fun br29 => ?_) (fun br29 => ?_)
              ·
                refine tu_jmp [0, 1, 2] (lv' := [(0, tu_r 86), (1, tu_i (((n : Nat) : Int) - ((j : Nat) : Int))), (2, tu_i (((m : Nat) : Int) - ((i9 : Nat) : Int)))]) ⟨rfl, rfl, rfl, trivial⟩ rfl (lp76 C_21 W_21 U_21 (by first | exact hD.next (by omega) (by omega) h21_0 (h21_1 (by omega)) | exact hD.last hT h21_0 (by omega) (by omega) (by omega)))
              ·
                refine tu_iload_n 32 X 2 dX4_findCost_32 rfl ?_
                refine tu_aload_n 33 X 0 dX4_findCost_33 rfl ?_
                refine tu_getI 34 X (x := M 86 12) dX4_findCost_34 fl_RX4_72 (by decide) rfl rfl rfl ?_
                refine tu_tp (b := ((m : Nat) : Int)) (by exact hM.2.1.1) ?_
                refine tu_icmp_ne 37 X 76 dX4_findCost_37 (by decide) (show tu_rg (((m : Nat) : Int) - ((i9 : Nat) : Int)) from by first | assumption | exact ⟨by omega, by omega⟩) (show tu_rg ((m : Nat) : Int) from by first | assumption | exact ⟨by omega, by omega⟩) (fun br37 => ?_) (fun br37 => ?_)
                ·
                  refine tu_jmp [0, 1, 2] (lv' := [(0, tu_r 86), (1, tu_i (((n : Nat) : Int) - ((j : Nat) : Int))), (2, tu_i (((m : Nat) : Int) - ((i9 : Nat) : Int)))]) ⟨rfl, rfl, rfl, trivial⟩ rfl (lp76 C_21 W_21 U_21 (by first | exact hD.next (by omega) (by omega) h21_0 (h21_1 (by omega)) | exact hD.last hT h21_0 (by omega) (by omega) (by omega)))
                ·
                  refine tu_aload_n 40 X 0 dX4_findCost_40 rfl ?_
                  refine tu_getR 41 X dX4_findCost_41 fl_RX4_25 (by decide) rfl rfl ?_
                  refine tu_bipush 44 X dX4_findCost_44 (by decide) ?_
                  refine tu_iload_n 46 X 1 dX4_findCost_46 rfl ?_
                  refine tu_imul 47 X dX4_findCost_47 ?_
                  refine tu_iload_n 48 X 2 dX4_findCost_48 rfl ?_
                  refine tu_iadd 49 X dX4_findCost_49 ?_
                  refine tu_iconst 50 X dX4_findCost_50 ?_
                  refine tu_iast 51 X (M' := tu_row (tu_row (tu_row M 92 (tu_u C_21 (((25 * (((n : Nat) : Int) - ((j : Nat) : Int))) + (((m : Nat) : Int) - ((i9 : Nat) : Int))).toNat) 0)) 93 W_21) 94 U_21) (((25 * (((n : Nat) : Int) - ((j : Nat) : Int))) + (((m : Nat) : Int) - ((i9 : Nat) : Int))).toNat) dX4_findCost_51 (by decide) rfl (by decide) (by omega) (by omega) ((tu_rc (tu_row (tu_row M 92 C_21) 93 W_21) U_21 (tu_u C_21 (((25 * (((n : Nat) : Int) - ((j : Nat) : Int))) + (((m : Nat) : Int) - ((i9 : Nat) : Int))).toNat) 0) rfl).trans (congrArg (fun m => tu_row m 94 U_21) ((tu_rc (tu_row M 92 C_21) W_21 (tu_u C_21 (((25 * (((n : Nat) : Int) - ((j : Nat) : Int))) + (((m : Nat) : Int) - ((i9 : Nat) : Int))).toNat) 0) rfl).trans (congrArg (fun m => tu_row m 93 W_21) (tu_rr M 92 C_21 (tu_u C_21 (((25 * (((n : Nat) : Int) - ((j : Nat) : Int))) + (((m : Nat) : Int) - ((i9 : Nat) : Int))).toNat) 0)))))) ?_
                  refine tu_aload_n 52 X 0 dX4_findCost_52 rfl ?_
                  refine tu_getR 53 X dX4_findCost_53 fl_RX4_28 (by decide) rfl rfl ?_
                  refine tu_bipush 56 X dX4_findCost_56 (by decide) ?_
                  refine tu_iload_n 58 X 1 dX4_findCost_58 rfl ?_
                  refine tu_imul 59 X dX4_findCost_59 ?_
                  refine tu_iload_n 60 X 2 dX4_findCost_60 rfl ?_
                  refine tu_iadd 61 X dX4_findCost_61 ?_
                  refine tu_iconst 62 X dX4_findCost_62 ?_
                  refine tu_iast 63 X (M' := tu_row (tu_row (tu_row M 92 (tu_u C_21 (((25 * (((n : Nat) : Int) - ((j : Nat) : Int))) + (((m : Nat) : Int) - ((i9 : Nat) : Int))).toNat) 0)) 93 (tu_u W_21 (((25 * (((n : Nat) : Int) - ((j : Nat) : Int))) + (((m : Nat) : Int) - ((i9 : Nat) : Int))).toNat) 1)) 94 U_21) (((25 * (((n : Nat) : Int) - ((j : Nat) : Int))) + (((m : Nat) : Int) - ((i9 : Nat) : Int))).toNat) dX4_findCost_63 (by decide) rfl (by decide) (by omega) (by omega) ((tu_rc (tu_row (tu_row M 92 (tu_u C_21 (((25 * (((n : Nat) : Int) - ((j : Nat) : Int))) + (((m : Nat) : Int) - ((i9 : Nat) : Int))).toNat) 0)) 93 W_21) U_21 (tu_u W_21 (((25 * (((n : Nat) : Int) - ((j : Nat) : Int))) + (((m : Nat) : Int) - ((i9 : Nat) : Int))).toNat) 1) rfl).trans (congrArg (fun m => tu_row m 94 U_21) (tu_rr (tu_row M 92 (tu_u C_21 (((25 * (((n : Nat) : Int) - ((j : Nat) : Int))) + (((m : Nat) : Int) - ((i9 : Nat) : Int))).toNat) 0)) 93 W_21 (tu_u W_21 (((25 * (((n : Nat) : Int) - ((j : Nat) : Int))) + (((m : Nat) : Int) - ((i9 : Nat) : Int))).toNat) 1)))) ?_
                  refine tu_aload_n 64 X 0 dX4_findCost_64 rfl ?_
                  refine tu_getR 65 X dX4_findCost_65 fl_RX4_31 (by decide) rfl rfl ?_
                  refine tu_bipush 68 X dX4_findCost_68 (by decide) ?_
                  refine tu_iload_n 70 X 1 dX4_findCost_70 rfl ?_
                  refine tu_imul 71 X dX4_findCost_71 ?_
                  refine tu_iload_n 72 X 2 dX4_findCost_72 rfl ?_
                  refine tu_iadd 73 X dX4_findCost_73 ?_
                  refine tu_iconst 74 X dX4_findCost_74 ?_
                  refine tu_iast 75 X (M' := tu_row (tu_row (tu_row M 92 (tu_u C_21 (((25 * (((n : Nat) : Int) - ((j : Nat) : Int))) + (((m : Nat) : Int) - ((i9 : Nat) : Int))).toNat) 0)) 93 (tu_u W_21 (((25 * (((n : Nat) : Int) - ((j : Nat) : Int))) + (((m : Nat) : Int) - ((i9 : Nat) : Int))).toNat) 1)) 94 (tu_u U_21 (((25 * (((n : Nat) : Int) - ((j : Nat) : Int))) + (((m : Nat) : Int) - ((i9 : Nat) : Int))).toNat) 1)) (((25 * (((n : Nat) : Int) - ((j : Nat) : Int))) + (((m : Nat) : Int) - ((i9 : Nat) : Int))).toNat) dX4_findCost_75 (by decide) rfl (by decide) (by omega) (by omega) (tu_rr (tu_row (tu_row M 92 (tu_u C_21 (((25 * (((n : Nat) : Int) - ((j : Nat) : Int))) + (((m : Nat) : Int) - ((i9 : Nat) : Int))).toNat) 0)) 93 (tu_u W_21 (((25 * (((n : Nat) : Int) - ((j : Nat) : Int))) + (((m : Nat) : Int) - ((i9 : Nat) : Int))).toNat) 1)) 94 U_21 (tu_u U_21 (((25 * (((n : Nat) : Int) - ((j : Nat) : Int))) + (((m : Nat) : Int) - ((i9 : Nat) : Int))).toNat) 1)) ?_
                  refine tu_jmp [0, 1, 2] (lv' := [(0, tu_r 86), (1, tu_i (((n : Nat) : Int) - ((j : Nat) : Int))), (2, tu_i (((m : Nat) : Int) - ((i9 : Nat) : Int)))]) ⟨rfl, rfl, rfl, trivial⟩ rfl (lp76 (tu_u C_21 (((25 * (((n : Nat) : Int) - ((j : Nat) : Int))) + (((m : Nat) : Int) - ((i9 : Nat) : Int))).toNat) 0) (tu_u W_21 (((25 * (((n : Nat) : Int) - ((j : Nat) : Int))) + (((m : Nat) : Int) - ((i9 : Nat) : Int))).toNat) 1) (tu_u U_21 (((25 * (((n : Nat) : Int) - ((j : Nat) : Int))) + (((m : Nat) : Int) - ((i9 : Nat) : Int))).toNat) 1) (by first | exact hD.next (by omega) (by omega) h21_0 (h21_1 (by omega)) | exact hD.last hT h21_0 (by omega) (by omega) (by omega)))
        refine tu_jmp [1, 2, 0] (lv' := [(0, tu_r 86), (1, tu_i (((n : Nat) : Int) - ((j : Nat) : Int))), (2, tu_i (((m : Nat) : Int) - ((0 : Nat) : Int)))]) ⟨rfl, rfl, tu_ei (by first | rfl | (omega)), trivial⟩ rfl (lp14 ((m + 1 - 0) + 1) 0 C W U (by omega) (by exact hB) (by omega))
  refine tu_jmp [1, 0] (lv' := [(0, tu_r 86), (1, tu_i (((n : Nat) : Int) - ((0 : Nat) : Int)))]) ⟨rfl, tu_ei (by first | rfl | (omega)), trivial⟩ rfl (lp5 ((n + 1 - 0) + 1) 0 (M 92) (M 93) (M 94) (by omega) (by exact tu_AD_0) (by omega))
