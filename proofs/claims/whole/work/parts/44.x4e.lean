set_option maxRecDepth 20000 in
set_option maxHeartbeats 4000000 in
theorem c_X4_parts_0 {M : tu_M}  (hp : 0 ≤ M 86 6 ∧ M 86 6 ≤ 60) (hr : ∀ k9 : Nat, (k9 : Int) < M 86 6 → tu_rg (M 91 k9)) (hff : ∀ j9, j9 < (M 86 6).toNat → tu_kd (tu_ps (M 91) j9) (M 91 j9) ≠ 0) : tu_MI tu_Y_X4_parts [tu_r 86, tu_i 0] M (fun z M' => M' = M ∧ z = (tu_PA (M 91) (M 86 6).toNat - tu_ti (M 91) 124 (M 86 6).toNat)) := by
  refine tu_MI.of (ty := .int) (by decide) rfl (by first | exact Or.inl rfl | exact Or.inr rfl) (Nat.le_of_ble_eq_true rfl) (fun T (X : tu_X T cX4_parts RX4 0 0) hnl hrt hret => ?_)
  have hret : tu_RI T cX4_parts (fun z M' => M' = M ∧ z = (tu_PA (M 91) (M 86 6).toNat - tu_ti (M 91) 124 (M 86 6).toNat)) := hret
  have hnl : T.2.2.2.2.2.2.2.2.2.2.1 = 5 := hnl
  show tu_W T 0 [(0, tu_r 86), (1, tu_i 0)] [] M
  refine tu_iconst 0 X dX4_parts_0 ?_
  refine tu_istore_n 1 X (lv' := [(2, tu_i 0), (0, tu_r 86), (1, tu_i 0)]) dX4_parts_1 (by rw [hnl]; decide) rfl ?_
  refine tu_iconst 2 X dX4_parts_2 ?_
  refine tu_istore_n 3 X (lv' := [(3, tu_i 0), (2, tu_i 0), (0, tu_r 86), (1, tu_i 0)]) dX4_parts_3 (by rw [hnl]; decide) rfl ?_
  have lp4 : ∀ (nq : Nat) (k : Nat), ((k : Int) ≤ M 86 6) → (M 86 6).toNat - k < nq → tu_W T 4 [(0, tu_r 86), (1, tu_i 0), (2, tu_i (tu_PA (M 91) k - tu_ti (M 91) 124 k)), (3, tu_i ((k : Nat) : Int))] [] M := by
    intro nq
    induction nq with
    | zero => intros; omega
    | succ nq ih4 =>
      intro k hk hn4
      refine tu_iload_n 4 X 3 dX4_parts_4 rfl ?_
      refine tu_aload_n 5 X 0 dX4_parts_5 rfl ?_
      refine tu_getI 6 X (x := M 86 6) dX4_parts_6 fl_RX4_134 (by decide) rfl rfl rfl ?_
      refine tu_icmp_ge 9 X 75 dX4_parts_9 (by decide) (show tu_rg ((k : Nat) : Int) from by first | assumption | exact ⟨by omega, by omega⟩) (show tu_rg (M 86 6) from by first | assumption | exact ⟨by omega, by omega⟩) (fun br9 => ?_) (fun br9 => ?_)
      ·
        refine tu_iload_n 75 X 2 dX4_parts_75 rfl ?_
        refine hret 76 _ _ (tu_PA (M 91) k - tu_ti (M 91) 124 k) dX4_parts_76 (fun h => by rw [hrt] at h; cases h) ?_
        exact ⟨rfl, by rw [show (M 86 6).toNat = k from by omega]⟩
      ·
        have hbg := tu_bg_i (f := M 91) (k := k) (fun j hj => hff j (by omega))
        have hcc := tu_kd_c (hff k (by omega))
        have hrk := hr k (by omega)
        refine tu_iload_n 12 X 3 dX4_parts_12 rfl ?_
        refine tu_if_eq 13 X 29 dX4_parts_13 (by decide) (show tu_rg ((k : Nat) : Int) from by first | assumption | exact ⟨by omega, by omega⟩) (fun br13 => ?_) (fun br13 => ?_)
        ·
          refine tu_iconst 29 X dX4_parts_29 ?_
          refine tu_goto 30 X 34 dX4_parts_30 (by decide) ?_
          refine tu_istore 34 X (lv' := [(4, tu_i 1), (0, tu_r 86), (1, tu_i 0), (2, tu_i (tu_PA (M 91) k - tu_ti (M 91) 124 k)), (3, tu_i ((k : Nat) : Int))]) dX4_parts_34 (by rw [hnl]; decide) rfl ?_
          refine tu_iload_n 36 X 3 dX4_parts_36 rfl ?_
          refine tu_iload 37 X 0 dX4_parts_37 rfl ?_
          refine tu_if_eq 39 X 66 dX4_parts_39 (by decide) ⟨by decide, by decide⟩ (fun br39 => ?_) (fun br39 => ?_)
          ·
            exfalso; omega
          ·
            refine tu_aload_n 42 X 1 dX4_parts_42 rfl ?_
            refine tu_getR 43 X dX4_parts_43 fl_RX4_22 (by decide) rfl rfl ?_
            refine tu_iload_n 46 X 4 dX4_parts_46 rfl ?_
            refine tu_iald 47 X (x := M 91 k) k dX4_parts_47 (by decide) rfl (by decide) (by omega) (by omega) rfl ?_
            refine tu_bipush 48 X dX4_parts_48 (by decide) ?_
            refine tu_icmp_ne 50 X 57 dX4_parts_50 (by decide) (show tu_rg (M 91 k) from by first | assumption | exact ⟨by omega, by omega⟩) ⟨by decide, by decide⟩ (fun br50 => ?_) (fun br50 => ?_)
            ·
              refine tu_iconst 57 X dX4_parts_57 ?_
              refine tu_iload_n 58 X 2 dX4_parts_58 rfl ?_
              refine tu_icmp_ne 59 X 66 dX4_parts_59 (by decide) ⟨by decide, by decide⟩ ⟨by decide, by decide⟩ (fun br59 => ?_) (fun br59 => ?_)
              ·
                exfalso; omega
              ·
                refine tu_iconst 62 X dX4_parts_62 ?_
                refine tu_goto 63 X 67 dX4_parts_63 (by decide) ?_
                refine tu_iadd 67 X dX4_parts_67 ?_
                refine tu_istore_n 68 X (lv' := [(2, tu_i ((tu_PA (M 91) k - tu_ti (M 91) 124 k) + 1)), (4, tu_i 1), (0, tu_r 86), (1, tu_i 0), (3, tu_i ((k : Nat) : Int))]) dX4_parts_68 (by rw [hnl]; decide) rfl ?_
                refine tu_iinc 69 X (lv' := [(3, tu_i (((k : Nat) : Int) + 1)), (2, tu_i ((tu_PA (M 91) k - tu_ti (M 91) 124 k) + 1)), (4, tu_i 1), (0, tu_r 86), (1, tu_i 0)]) 4 dX4_parts_69 rfl (by rw [hnl]; decide) rfl ?_
                refine tu_goto 72 X 4 dX4_parts_72 (by decide) ?_
                refine tu_jmp [3, 4, 1, 0] (lv' := [(0, tu_r 86), (1, tu_i 0), (2, tu_i (tu_PA (M 91) (k + 1) - tu_ti (M 91) 124 (k + 1))), (3, tu_i (((k + 1) : Nat) : Int))]) ⟨rfl, rfl, tu_ei (by first | rfl | (rw [tu_PA_s, tu_ti_s]; (repeat' split) <;> omega)), tu_ei (by first | rfl | omega), trivial⟩ rfl (ih4 (k + 1) (by first | assumption | omega) (by omega))
            ·
              refine tu_iconst 53 X dX4_parts_53 ?_
              refine tu_goto 54 X 58 dX4_parts_54 (by decide) ?_
              refine tu_iload_n 58 X 2 dX4_parts_58 rfl ?_
              refine tu_icmp_ne 59 X 66 dX4_parts_59 (by decide) ⟨by decide, by decide⟩ ⟨by decide, by decide⟩ (fun br59 => ?_) (fun br59 => ?_)
              ·
                refine tu_iconst 66 X dX4_parts_66 ?_
                refine tu_iadd 67 X dX4_parts_67 ?_
                refine tu_istore_n 68 X (lv' := [(2, tu_i ((tu_PA (M 91) k - tu_ti (M 91) 124 k) + 0)), (4, tu_i 1), (0, tu_r 86), (1, tu_i 0), (3, tu_i ((k : Nat) : Int))]) dX4_parts_68 (by rw [hnl]; decide) rfl ?_
                refine tu_iinc 69 X (lv' := [(3, tu_i (((k : Nat) : Int) + 1)), (2, tu_i ((tu_PA (M 91) k - tu_ti (M 91) 124 k) + 0)), (4, tu_i 1), (0, tu_r 86), (1, tu_i 0)]) 4 dX4_parts_69 rfl (by rw [hnl]; decide) rfl ?_
                refine tu_goto 72 X 4 dX4_parts_72 (by decide) ?_
                refine tu_jmp [3, 4, 1, 0] (lv' := [(0, tu_r 86), (1, tu_i 0), (2, tu_i (tu_PA (M 91) (k + 1) - tu_ti (M 91) 124 (k + 1))), (3, tu_i (((k + 1) : Nat) : Int))]) ⟨rfl, rfl, tu_ei (by first | rfl | (rw [tu_PA_s, tu_ti_s]; (repeat' split) <;> omega)), tu_ei (by first | rfl | omega), trivial⟩ rfl (ih4 (k + 1) (by first | assumption | omega) (by omega))
              ·
                exfalso; omega
        ·
          refine tu_aload_n 16 X 0 dX4_parts_16 rfl ?_
          refine tu_getR 17 X dX4_parts_17 fl_RX4_22 (by decide) rfl rfl ?_
          refine tu_iload_n 20 X 3 dX4_parts_20 rfl ?_
          refine tu_iconst 21 X dX4_parts_21 ?_
          refine tu_isub 22 X dX4_parts_22 ?_
          refine tu_tp (b := (((k - 1 : Nat)) : Int)) (by omega) ?_
          refine tu_iald 23 X (x := M 91 (k - 1)) (k - 1) dX4_parts_23 (by decide) rfl (by decide) (by omega) (by omega) rfl ?_
          have hr1 := hr (k - 1) (by omega)
          refine tu_bipush 24 X dX4_parts_24 (by decide) ?_
          refine tu_icmp_ne 26 X 33 dX4_parts_26 (by decide) (show tu_rg (M 91 (k - 1)) from by first | assumption | exact ⟨by omega, by omega⟩) ⟨by decide, by decide⟩ (fun br26 => ?_) (fun br26 => ?_)
          ·
            refine tu_iconst 33 X dX4_parts_33 ?_
            refine tu_istore 34 X (lv' := [(4, tu_i 0), (0, tu_r 86), (1, tu_i 0), (2, tu_i (tu_PA (M 91) k - tu_ti (M 91) 124 k)), (3, tu_i ((k : Nat) : Int))]) dX4_parts_34 (by rw [hnl]; decide) rfl ?_
            refine tu_iload_n 36 X 3 dX4_parts_36 rfl ?_
            refine tu_iload 37 X 0 dX4_parts_37 rfl ?_
            refine tu_if_eq 39 X 66 dX4_parts_39 (by decide) ⟨by decide, by decide⟩ (fun br39 => ?_) (fun br39 => ?_)
            ·
              refine tu_iconst 66 X dX4_parts_66 ?_
              refine tu_iadd 67 X dX4_parts_67 ?_
              refine tu_istore_n 68 X (lv' := [(2, tu_i ((tu_PA (M 91) k - tu_ti (M 91) 124 k) + 0)), (4, tu_i 0), (0, tu_r 86), (1, tu_i 0), (3, tu_i ((k : Nat) : Int))]) dX4_parts_68 (by rw [hnl]; decide) rfl ?_
              refine tu_iinc 69 X (lv' := [(3, tu_i (((k : Nat) : Int) + 1)), (2, tu_i ((tu_PA (M 91) k - tu_ti (M 91) 124 k) + 0)), (4, tu_i 0), (0, tu_r 86), (1, tu_i 0)]) 4 dX4_parts_69 rfl (by rw [hnl]; decide) rfl ?_
              refine tu_goto 72 X 4 dX4_parts_72 (by decide) ?_
              refine tu_jmp [3, 4, 1, 0] (lv' := [(0, tu_r 86), (1, tu_i 0), (2, tu_i (tu_PA (M 91) (k + 1) - tu_ti (M 91) 124 (k + 1))), (3, tu_i (((k + 1) : Nat) : Int))]) ⟨rfl, rfl, tu_ei (by first | rfl | (rw [tu_PA_s, tu_ti_s]; (repeat' split) <;> omega)), tu_ei (by first | rfl | omega), trivial⟩ rfl (ih4 (k + 1) (by first | assumption | omega) (by omega))
            ·
              exfalso; omega
          ·
            refine tu_iconst 29 X dX4_parts_29 ?_
            refine tu_goto 30 X 34 dX4_parts_30 (by decide) ?_
            refine tu_istore 34 X (lv' := [(4, tu_i 1), (0, tu_r 86), (1, tu_i 0), (2, tu_i (tu_PA (M 91) k - tu_ti (M 91) 124 k)), (3, tu_i ((k : Nat) : Int))]) dX4_parts_34 (by rw [hnl]; decide) rfl ?_
            refine tu_iload_n 36 X 3 dX4_parts_36 rfl ?_
            refine tu_iload 37 X 0 dX4_parts_37 rfl ?_
            refine tu_if_eq 39 X 66 dX4_parts_39 (by decide) ⟨by decide, by decide⟩ (fun br39 => ?_) (fun br39 => ?_)
            ·
              exfalso; omega
            ·
              refine tu_aload_n 42 X 1 dX4_parts_42 rfl ?_
              refine tu_getR 43 X dX4_parts_43 fl_RX4_22 (by decide) rfl rfl ?_
              refine tu_iload_n 46 X 4 dX4_parts_46 rfl ?_
              refine tu_iald 47 X (x := M 91 k) k dX4_parts_47 (by decide) rfl (by decide) (by omega) (by omega) rfl ?_
              refine tu_bipush 48 X dX4_parts_48 (by decide) ?_
              refine tu_icmp_ne 50 X 57 dX4_parts_50 (by decide) (show tu_rg (M 91 k) from by first | assumption | exact ⟨by omega, by omega⟩) ⟨by decide, by decide⟩ (fun br50 => ?_) (fun br50 => ?_)
              ·
                refine tu_iconst 57 X dX4_parts_57 ?_
                refine tu_iload_n 58 X 2 dX4_parts_58 rfl ?_
                refine tu_icmp_ne 59 X 66 dX4_parts_59 (by decide) ⟨by decide, by decide⟩ ⟨by decide, by decide⟩ (fun br59 => ?_) (fun br59 => ?_)
                ·
                  exfalso; omega
                ·
                  refine tu_iconst 62 X dX4_parts_62 ?_
                  refine tu_goto 63 X 67 dX4_parts_63 (by decide) ?_
                  refine tu_iadd 67 X dX4_parts_67 ?_
                  refine tu_istore_n 68 X (lv' := [(2, tu_i ((tu_PA (M 91) k - tu_ti (M 91) 124 k) + 1)), (4, tu_i 1), (0, tu_r 86), (1, tu_i 0), (3, tu_i ((k : Nat) : Int))]) dX4_parts_68 (by rw [hnl]; decide) rfl ?_
                  refine tu_iinc 69 X (lv' := [(3, tu_i (((k : Nat) : Int) + 1)), (2, tu_i ((tu_PA (M 91) k - tu_ti (M 91) 124 k) + 1)), (4, tu_i 1), (0, tu_r 86), (1, tu_i 0)]) 4 dX4_parts_69 rfl (by rw [hnl]; decide) rfl ?_
                  refine tu_goto 72 X 4 dX4_parts_72 (by decide) ?_
                  refine tu_jmp [3, 4, 1, 0] (lv' := [(0, tu_r 86), (1, tu_i 0), (2, tu_i (tu_PA (M 91) (k + 1) - tu_ti (M 91) 124 (k + 1))), (3, tu_i (((k + 1) : Nat) : Int))]) ⟨rfl, rfl, tu_ei (by first | rfl | (rw [tu_PA_s, tu_ti_s]; (repeat' split) <;> omega)), tu_ei (by first | rfl | omega), trivial⟩ rfl (ih4 (k + 1) (by first | assumption | omega) (by omega))
              ·
                refine tu_iconst 53 X dX4_parts_53 ?_
                refine tu_goto 54 X 58 dX4_parts_54 (by decide) ?_
                refine tu_iload_n 58 X 2 dX4_parts_58 rfl ?_
                refine tu_icmp_ne 59 X 66 dX4_parts_59 (by decide) ⟨by decide, by decide⟩ ⟨by decide, by decide⟩ (fun br59 => ?_) (fun br59 => ?_)
                ·
                  refine tu_iconst 66 X dX4_parts_66 ?_
                  refine tu_iadd 67 X dX4_parts_67 ?_
                  refine tu_istore_n 68 X (lv' := [(2, tu_i ((tu_PA (M 91) k - tu_ti (M 91) 124 k) + 0)), (4, tu_i 1), (0, tu_r 86), (1, tu_i 0), (3, tu_i ((k : Nat) : Int))]) dX4_parts_68 (by rw [hnl]; decide) rfl ?_
                  refine tu_iinc 69 X (lv' := [(3, tu_i (((k : Nat) : Int) + 1)), (2, tu_i ((tu_PA (M 91) k - tu_ti (M 91) 124 k) + 0)), (4, tu_i 1), (0, tu_r 86), (1, tu_i 0)]) 4 dX4_parts_69 rfl (by rw [hnl]; decide) rfl ?_
                  refine tu_goto 72 X 4 dX4_parts_72 (by decide) ?_
                  refine tu_jmp [3, 4, 1, 0] (lv' := [(0, tu_r 86), (1, tu_i 0), (2, tu_i (tu_PA (M 91) (k + 1) - tu_ti (M 91) 124 (k + 1))), (3, tu_i (((k + 1) : Nat) : Int))]) ⟨rfl, rfl, tu_ei (by first | rfl | (rw [tu_PA_s, tu_ti_s]; (repeat' split) <;> omega)), tu_ei (by first | rfl | omega), trivial⟩ rfl (ih4 (k + 1) (by first | assumption | omega) (by omega))
                ·
                  exfalso; omega
  refine tu_jmp [2, 3, 1, 0] (lv' := [(0, tu_r 86), (1, tu_i 0), (2, tu_i (tu_PA (M 91) 0 - tu_ti (M 91) 124 0)), (3, tu_i 0)]) ⟨rfl, rfl, tu_ei (by first | rfl | (rw [tu_PA_s, tu_ti_s]; (repeat' split) <;> omega)), rfl, trivial⟩ rfl (lp4 (((M 86 6).toNat - 0) + 1) 0 (by first | assumption | omega) (by omega))
set_option maxRecDepth 20000 in
set_option maxHeartbeats 4000000 in
theorem c_X4_parts_1 {M : tu_M}  (hp : 0 ≤ M 86 6 ∧ M 86 6 ≤ 60) (hr : ∀ k9 : Nat, (k9 : Int) < M 86 6 → tu_rg (M 91 k9)) (hff : ∀ j9, j9 < (M 86 6).toNat → tu_kd (tu_ps (M 91) j9) (M 91 j9) ≠ 0) : tu_MI tu_Y_X4_parts [tu_r 86, tu_i 1] M (fun z M' => M' = M ∧ z = (tu_ti (M 91) 124 (M 86 6).toNat)) := by
  refine tu_MI.of (ty := .int) (by decide) rfl (by first | exact Or.inl rfl | exact Or.inr rfl) (Nat.le_of_ble_eq_true rfl) (fun T (X : tu_X T cX4_parts RX4 0 0) hnl hrt hret => ?_)
  have hret : tu_RI T cX4_parts (fun z M' => M' = M ∧ z = (tu_ti (M 91) 124 (M 86 6).toNat)) := hret
  have hnl : T.2.2.2.2.2.2.2.2.2.2.1 = 5 := hnl
  show tu_W T 0 [(0, tu_r 86), (1, tu_i 1)] [] M
  refine tu_iconst 0 X dX4_parts_0 ?_
  refine tu_istore_n 1 X (lv' := [(2, tu_i 0), (0, tu_r 86), (1, tu_i 1)]) dX4_parts_1 (by rw [hnl]; decide) rfl ?_
  refine tu_iconst 2 X dX4_parts_2 ?_
  refine tu_istore_n 3 X (lv' := [(3, tu_i 0), (2, tu_i 0), (0, tu_r 86), (1, tu_i 1)]) dX4_parts_3 (by rw [hnl]; decide) rfl ?_
  have lp4 : ∀ (nq : Nat) (k : Nat), ((k : Int) ≤ M 86 6) → (M 86 6).toNat - k < nq → tu_W T 4 [(0, tu_r 86), (1, tu_i 1), (2, tu_i (tu_ti (M 91) 124 k)), (3, tu_i ((k : Nat) : Int))] [] M := by
    intro nq
    induction nq with
    | zero => intros; omega
    | succ nq ih4 =>
      intro k hk hn4
      refine tu_iload_n 4 X 3 dX4_parts_4 rfl ?_
      refine tu_aload_n 5 X 0 dX4_parts_5 rfl ?_
      refine tu_getI 6 X (x := M 86 6) dX4_parts_6 fl_RX4_134 (by decide) rfl rfl rfl ?_
      refine tu_icmp_ge 9 X 75 dX4_parts_9 (by decide) (show tu_rg ((k : Nat) : Int) from by first | assumption | exact ⟨by omega, by omega⟩) (show tu_rg (M 86 6) from by first | assumption | exact ⟨by omega, by omega⟩) (fun br9 => ?_) (fun br9 => ?_)
      ·
        refine tu_iload_n 75 X 2 dX4_parts_75 rfl ?_
        refine hret 76 _ _ (tu_ti (M 91) 124 k) dX4_parts_76 (fun h => by rw [hrt] at h; cases h) ?_
        exact ⟨rfl, by rw [show (M 86 6).toNat = k from by omega]⟩
      ·
        have hbg := tu_bg_i (f := M 91) (k := k) (fun j hj => hff j (by omega))
        have hcc := tu_kd_c (hff k (by omega))
        have hrk := hr k (by omega)
        refine tu_iload_n 12 X 3 dX4_parts_12 rfl ?_
        refine tu_if_eq 13 X 29 dX4_parts_13 (by decide) (show tu_rg ((k : Nat) : Int) from by first | assumption | exact ⟨by omega, by omega⟩) (fun br13 => ?_) (fun br13 => ?_)
        ·
          refine tu_iconst 29 X dX4_parts_29 ?_
          refine tu_goto 30 X 34 dX4_parts_30 (by decide) ?_
          refine tu_istore 34 X (lv' := [(4, tu_i 1), (0, tu_r 86), (1, tu_i 1), (2, tu_i (tu_ti (M 91) 124 k)), (3, tu_i ((k : Nat) : Int))]) dX4_parts_34 (by rw [hnl]; decide) rfl ?_
          refine tu_iload_n 36 X 3 dX4_parts_36 rfl ?_
          refine tu_iload 37 X 0 dX4_parts_37 rfl ?_
          refine tu_if_eq 39 X 66 dX4_parts_39 (by decide) ⟨by decide, by decide⟩ (fun br39 => ?_) (fun br39 => ?_)
          ·
            exfalso; omega
          ·
            refine tu_aload_n 42 X 1 dX4_parts_42 rfl ?_
            refine tu_getR 43 X dX4_parts_43 fl_RX4_22 (by decide) rfl rfl ?_
            refine tu_iload_n 46 X 4 dX4_parts_46 rfl ?_
            refine tu_iald 47 X (x := M 91 k) k dX4_parts_47 (by decide) rfl (by decide) (by omega) (by omega) rfl ?_
            refine tu_bipush 48 X dX4_parts_48 (by decide) ?_
            refine tu_icmp_ne 50 X 57 dX4_parts_50 (by decide) (show tu_rg (M 91 k) from by first | assumption | exact ⟨by omega, by omega⟩) ⟨by decide, by decide⟩ (fun br50 => ?_) (fun br50 => ?_)
            ·
              refine tu_iconst 57 X dX4_parts_57 ?_
              refine tu_iload_n 58 X 2 dX4_parts_58 rfl ?_
              refine tu_icmp_ne 59 X 66 dX4_parts_59 (by decide) ⟨by decide, by decide⟩ ⟨by decide, by decide⟩ (fun br59 => ?_) (fun br59 => ?_)
              ·
                refine tu_iconst 66 X dX4_parts_66 ?_
                refine tu_iadd 67 X dX4_parts_67 ?_
                refine tu_istore_n 68 X (lv' := [(2, tu_i ((tu_ti (M 91) 124 k) + 0)), (4, tu_i 1), (0, tu_r 86), (1, tu_i 1), (3, tu_i ((k : Nat) : Int))]) dX4_parts_68 (by rw [hnl]; decide) rfl ?_
                refine tu_iinc 69 X (lv' := [(3, tu_i (((k : Nat) : Int) + 1)), (2, tu_i ((tu_ti (M 91) 124 k) + 0)), (4, tu_i 1), (0, tu_r 86), (1, tu_i 1)]) 4 dX4_parts_69 rfl (by rw [hnl]; decide) rfl ?_
                refine tu_goto 72 X 4 dX4_parts_72 (by decide) ?_
                refine tu_jmp [3, 4, 1, 0] (lv' := [(0, tu_r 86), (1, tu_i 1), (2, tu_i (tu_ti (M 91) 124 (k + 1))), (3, tu_i (((k + 1) : Nat) : Int))]) ⟨rfl, rfl, tu_ei (by first | rfl | (rw [tu_ti_s]; (repeat' split) <;> omega)), tu_ei (by first | rfl | omega), trivial⟩ rfl (ih4 (k + 1) (by first | assumption | omega) (by omega))
              ·
                exfalso; omega
            ·
              refine tu_iconst 53 X dX4_parts_53 ?_
              refine tu_goto 54 X 58 dX4_parts_54 (by decide) ?_
              refine tu_iload_n 58 X 2 dX4_parts_58 rfl ?_
              refine tu_icmp_ne 59 X 66 dX4_parts_59 (by decide) ⟨by decide, by decide⟩ ⟨by decide, by decide⟩ (fun br59 => ?_) (fun br59 => ?_)
              ·
                exfalso; omega
              ·
                refine tu_iconst 62 X dX4_parts_62 ?_
                refine tu_goto 63 X 67 dX4_parts_63 (by decide) ?_
                refine tu_iadd 67 X dX4_parts_67 ?_
                refine tu_istore_n 68 X (lv' := [(2, tu_i ((tu_ti (M 91) 124 k) + 1)), (4, tu_i 1), (0, tu_r 86), (1, tu_i 1), (3, tu_i ((k : Nat) : Int))]) dX4_parts_68 (by rw [hnl]; decide) rfl ?_
                refine tu_iinc 69 X (lv' := [(3, tu_i (((k : Nat) : Int) + 1)), (2, tu_i ((tu_ti (M 91) 124 k) + 1)), (4, tu_i 1), (0, tu_r 86), (1, tu_i 1)]) 4 dX4_parts_69 rfl (by rw [hnl]; decide) rfl ?_
                refine tu_goto 72 X 4 dX4_parts_72 (by decide) ?_
                refine tu_jmp [3, 4, 1, 0] (lv' := [(0, tu_r 86), (1, tu_i 1), (2, tu_i (tu_ti (M 91) 124 (k + 1))), (3, tu_i (((k + 1) : Nat) : Int))]) ⟨rfl, rfl, tu_ei (by first | rfl | (rw [tu_ti_s]; (repeat' split) <;> omega)), tu_ei (by first | rfl | omega), trivial⟩ rfl (ih4 (k + 1) (by first | assumption | omega) (by omega))
        ·
          refine tu_aload_n 16 X 0 dX4_parts_16 rfl ?_
          refine tu_getR 17 X dX4_parts_17 fl_RX4_22 (by decide) rfl rfl ?_
          refine tu_iload_n 20 X 3 dX4_parts_20 rfl ?_
          refine tu_iconst 21 X dX4_parts_21 ?_
          refine tu_isub 22 X dX4_parts_22 ?_
          refine tu_tp (b := (((k - 1 : Nat)) : Int)) (by omega) ?_
          refine tu_iald 23 X (x := M 91 (k - 1)) (k - 1) dX4_parts_23 (by decide) rfl (by decide) (by omega) (by omega) rfl ?_
          have hr1 := hr (k - 1) (by omega)
          refine tu_bipush 24 X dX4_parts_24 (by decide) ?_
          refine tu_icmp_ne 26 X 33 dX4_parts_26 (by decide) (show tu_rg (M 91 (k - 1)) from by first | assumption | exact ⟨by omega, by omega⟩) ⟨by decide, by decide⟩ (fun br26 => ?_) (fun br26 => ?_)
          ·
            refine tu_iconst 33 X dX4_parts_33 ?_
            refine tu_istore 34 X (lv' := [(4, tu_i 0), (0, tu_r 86), (1, tu_i 1), (2, tu_i (tu_ti (M 91) 124 k)), (3, tu_i ((k : Nat) : Int))]) dX4_parts_34 (by rw [hnl]; decide) rfl ?_
            refine tu_iload_n 36 X 3 dX4_parts_36 rfl ?_
            refine tu_iload 37 X 0 dX4_parts_37 rfl ?_
            refine tu_if_eq 39 X 66 dX4_parts_39 (by decide) ⟨by decide, by decide⟩ (fun br39 => ?_) (fun br39 => ?_)
            ·
              refine tu_iconst 66 X dX4_parts_66 ?_
              refine tu_iadd 67 X dX4_parts_67 ?_
              refine tu_istore_n 68 X (lv' := [(2, tu_i ((tu_ti (M 91) 124 k) + 0)), (4, tu_i 0), (0, tu_r 86), (1, tu_i 1), (3, tu_i ((k : Nat) : Int))]) dX4_parts_68 (by rw [hnl]; decide) rfl ?_
              refine tu_iinc 69 X (lv' := [(3, tu_i (((k : Nat) : Int) + 1)), (2, tu_i ((tu_ti (M 91) 124 k) + 0)), (4, tu_i 0), (0, tu_r 86), (1, tu_i 1)]) 4 dX4_parts_69 rfl (by rw [hnl]; decide) rfl ?_
              refine tu_goto 72 X 4 dX4_parts_72 (by decide) ?_
              refine tu_jmp [3, 4, 1, 0] (lv' := [(0, tu_r 86), (1, tu_i 1), (2, tu_i (tu_ti (M 91) 124 (k + 1))), (3, tu_i (((k + 1) : Nat) : Int))]) ⟨rfl, rfl, tu_ei (by first | rfl | (rw [tu_ti_s]; (repeat' split) <;> omega)), tu_ei (by first | rfl | omega), trivial⟩ rfl (ih4 (k + 1) (by first | assumption | omega) (by omega))
            ·
              exfalso; omega
          ·
            refine tu_iconst 29 X dX4_parts_29 ?_
            refine tu_goto 30 X 34 dX4_parts_30 (by decide) ?_
            refine tu_istore 34 X (lv' := [(4, tu_i 1), (0, tu_r 86), (1, tu_i 1), (2, tu_i (tu_ti (M 91) 124 k)), (3, tu_i ((k : Nat) : Int))]) dX4_parts_34 (by rw [hnl]; decide) rfl ?_
            refine tu_iload_n 36 X 3 dX4_parts_36 rfl ?_
            refine tu_iload 37 X 0 dX4_parts_37 rfl ?_
            refine tu_if_eq 39 X 66 dX4_parts_39 (by decide) ⟨by decide, by decide⟩ (fun br39 => ?_) (fun br39 => ?_)
            ·
              exfalso; omega
            ·
              refine tu_aload_n 42 X 1 dX4_parts_42 rfl ?_
              refine tu_getR 43 X dX4_parts_43 fl_RX4_22 (by decide) rfl rfl ?_
              refine tu_iload_n 46 X 4 dX4_parts_46 rfl ?_
              refine tu_iald 47 X (x := M 91 k) k dX4_parts_47 (by decide) rfl (by decide) (by omega) (by omega) rfl ?_
              refine tu_bipush 48 X dX4_parts_48 (by decide) ?_
              refine tu_icmp_ne 50 X 57 dX4_parts_50 (by decide) (show tu_rg (M 91 k) from by first | assumption | exact ⟨by omega, by omega⟩) ⟨by decide, by decide⟩ (fun br50 => ?_) (fun br50 => ?_)
              ·
                refine tu_iconst 57 X dX4_parts_57 ?_
                refine tu_iload_n 58 X 2 dX4_parts_58 rfl ?_
                refine tu_icmp_ne 59 X 66 dX4_parts_59 (by decide) ⟨by decide, by decide⟩ ⟨by decide, by decide⟩ (fun br59 => ?_) (fun br59 => ?_)
                ·
                  refine tu_iconst 66 X dX4_parts_66 ?_
                  refine tu_iadd 67 X dX4_parts_67 ?_
                  refine tu_istore_n 68 X (lv' := [(2, tu_i ((tu_ti (M 91) 124 k) + 0)), (4, tu_i 1), (0, tu_r 86), (1, tu_i 1), (3, tu_i ((k : Nat) : Int))]) dX4_parts_68 (by rw [hnl]; decide) rfl ?_
                  refine tu_iinc 69 X (lv' := [(3, tu_i (((k : Nat) : Int) + 1)), (2, tu_i ((tu_ti (M 91) 124 k) + 0)), (4, tu_i 1), (0, tu_r 86), (1, tu_i 1)]) 4 dX4_parts_69 rfl (by rw [hnl]; decide) rfl ?_
                  refine tu_goto 72 X 4 dX4_parts_72 (by decide) ?_
                  refine tu_jmp [3, 4, 1, 0] (lv' := [(0, tu_r 86), (1, tu_i 1), (2, tu_i (tu_ti (M 91) 124 (k + 1))), (3, tu_i (((k + 1) : Nat) : Int))]) ⟨rfl, rfl, tu_ei (by first | rfl | (rw [tu_ti_s]; (repeat' split) <;> omega)), tu_ei (by first | rfl | omega), trivial⟩ rfl (ih4 (k + 1) (by first | assumption | omega) (by omega))
                ·
                  exfalso; omega
              ·
                refine tu_iconst 53 X dX4_parts_53 ?_
                refine tu_goto 54 X 58 dX4_parts_54 (by decide) ?_
                refine tu_iload_n 58 X 2 dX4_parts_58 rfl ?_
                refine tu_icmp_ne 59 X 66 dX4_parts_59 (by decide) ⟨by decide, by decide⟩ ⟨by decide, by decide⟩ (fun br59 => ?_) (fun br59 => ?_)
                ·
                  exfalso; omega
                ·
                  refine tu_iconst 62 X dX4_parts_62 ?_
                  refine tu_goto 63 X 67 dX4_parts_63 (by decide) ?_
                  refine tu_iadd 67 X dX4_parts_67 ?_
                  refine tu_istore_n 68 X (lv' := [(2, tu_i ((tu_ti (M 91) 124 k) + 1)), (4, tu_i 1), (0, tu_r 86), (1, tu_i 1), (3, tu_i ((k : Nat) : Int))]) dX4_parts_68 (by rw [hnl]; decide) rfl ?_
                  refine tu_iinc 69 X (lv' := [(3, tu_i (((k : Nat) : Int) + 1)), (2, tu_i ((tu_ti (M 91) 124 k) + 1)), (4, tu_i 1), (0, tu_r 86), (1, tu_i 1)]) 4 dX4_parts_69 rfl (by rw [hnl]; decide) rfl ?_
                  refine tu_goto 72 X 4 dX4_parts_72 (by decide) ?_
                  refine tu_jmp [3, 4, 1, 0] (lv' := [(0, tu_r 86), (1, tu_i 1), (2, tu_i (tu_ti (M 91) 124 (k + 1))), (3, tu_i (((k + 1) : Nat) : Int))]) ⟨rfl, rfl, tu_ei (by first | rfl | (rw [tu_ti_s]; (repeat' split) <;> omega)), tu_ei (by first | rfl | omega), trivial⟩ rfl (ih4 (k + 1) (by first | assumption | omega) (by omega))
  refine tu_jmp [2, 3, 1, 0] (lv' := [(0, tu_r 86), (1, tu_i 1), (2, tu_i (tu_ti (M 91) 124 0)), (3, tu_i 0)]) ⟨rfl, rfl, tu_ei (by first | rfl | (rw [tu_ti_s]; (repeat' split) <;> omega)), rfl, trivial⟩ rfl (lp4 (((M 86 6).toNat - 0) + 1) 0 (by first | assumption | omega) (by omega))
set_option maxRecDepth 20000 in
set_option maxHeartbeats 4000000 in
theorem c_X4_writeLine {M : tu_M} (B : Nat → Nat → Int) (k0 : Nat) (hO : tu_BO B) (hp : 0 ≤ M 86 6 ∧ M 86 6 ≤ 60) (hr : ∀ k9 : Nat, (k9 : Int) < M 86 6 → tu_rg (M 91 k9)) (hff : ∀ j9, j9 < (M 86 6).toNat → tu_kd (tu_ps (M 91) j9) (M 91 j9) ≠ 0) (hk0 : k0 < (M 86 6).toNat) (hP0 : tu_ps (M 91) k0 = (0, 0)) (hR : tu_MB (tu_qs B (M 91) k0) (M 87)) (hcw : (0 ≤ tu_qs B (M 91) k0 0 1 ∧ tu_qs B (M 91) k0 0 1 ≤ 16) ∧ (0 ≤ tu_qs B (M 91) k0 0 4 ∧ tu_qs B (M 91) k0 0 4 ≤ 8) ∧ (0 ≤ tu_qs B (M 91) k0 0 7 ∧ tu_qs B (M 91) k0 0 7 ≤ 40) ∧ (0 ≤ tu_qs B (M 91) k0 0 9 ∧ tu_qs B (M 91) k0 0 9 ≤ 8)) (hc0 : M 91 k0 ≠ 124) (hcl : tu_qs B (M 91) k0 0 1 < 16) : tu_MI tu_Y_X4_writeLine [tu_r 86, tu_i ((k0 : Nat) : Int)] M (fun z M' => ∃ (S : Nat → Int) (k1 : Nat), M' = tu_row M 87 S ∧ ((k0 < k1 ∧ k1 ≤ (M 86 6).toNat) ∧ (k1 = (M 86 6).toNat ∨ M 91 k1 = 59)) ∧ (tu_MB (tu_qs B (M 91) k1) S) ∧ z = ((k1 : Nat) : Int)) := by
  obtain ⟨q, hq⟩ : ∃ q : Nat, tu_qs B (M 91) k0 0 1 = (q : Int) := ⟨(tu_qs B (M 91) k0 0 1).toNat, by omega⟩
  have hq2 : (tu_qs B (M 91) k0 0 1).toNat = q := by omega
  have hBQ := (tu_BQ_all hO hff k0 (by omega)).1
  have hkc := hff k0 hk0
  have f59 : M 91 k0 ≠ 59 := fun z => by rcases tu_kd_c hkc with ⟨e, a, b⟩ | ⟨e, a, b, c⟩ | ⟨e, a, b, c⟩ | ⟨e, a, b, c⟩ <;> (rw [hP0] at a; first | exact absurd a (by decide) | omega)
  refine tu_MI.of (ty := .int) (by decide) rfl (by first | exact Or.inl rfl | exact Or.inr rfl) (Nat.le_of_ble_eq_true rfl) (fun T (X : tu_X T cX4_writeLine RX4 0 0) hnl hrt hret => ?_)
  have hret : tu_RI T cX4_writeLine (fun z M' => ∃ (S : Nat → Int) (k1 : Nat), M' = tu_row M 87 S ∧ ((k0 < k1 ∧ k1 ≤ (M 86 6).toNat) ∧ (k1 = (M 86 6).toNat ∨ M 91 k1 = 59)) ∧ (tu_MB (tu_qs B (M 91) k1) S) ∧ z = ((k1 : Nat) : Int)) := hret
  have hnl : T.2.2.2.2.2.2.2.2.2.2.1 = 4 := hnl
  show tu_W T 0 [(0, tu_r 86), (1, tu_i ((k0 : Nat) : Int))] [] M
  refine tu_bipush 0 X dX4_writeLine_0 (by decide) ?_
  refine tu_iconst 2 X dX4_writeLine_2 ?_
  refine tu_aload_n 3 X 0 dX4_writeLine_3 rfl ?_
  refine tu_getR 4 X dX4_writeLine_4 fl_RX4_7 (by decide) rfl rfl ?_
  refine tu_iconst 7 X dX4_writeLine_7 ?_
  refine tu_iald 8 X (x := M 87 4) 4 dX4_writeLine_8 (by decide) rfl (by decide) rfl (by decide) rfl ?_
  refine tu_tp (b := ((q : Nat) : Int)) (by rw [hR.n4]; omega) ?_
  refine tu_imul 9 X dX4_writeLine_9 ?_
  refine tu_iadd 10 X dX4_writeLine_10 ?_
  refine tu_istore_n 11 X (lv' := [(2, tu_i (8 + (2 * ((q : Nat) : Int)))), (0, tu_r 86), (1, tu_i ((k0 : Nat) : Int))]) dX4_writeLine_11 (by rw [hnl]; decide) rfl ?_
  refine tu_iload_n 12 X 2 dX4_writeLine_12 rfl ?_
  refine tu_istore_n 13 X (lv' := [(3, tu_i ((k0 : Nat) : Int)), (2, tu_i (8 + (2 * ((q : Nat) : Int)))), (0, tu_r 86), (1, tu_i ((k0 : Nat) : Int))]) dX4_writeLine_13 (by rw [hnl]; decide) rfl ?_
  refine tu_aload_n 14 X 2 dX4_writeLine_14 rfl ?_
  refine tu_getR 15 X dX4_writeLine_15 fl_RX4_7 (by decide) rfl rfl ?_
  refine tu_iload_n 18 X 1 dX4_writeLine_18 rfl ?_
  refine tu_iconst 19 X dX4_writeLine_19 ?_
  refine tu_iast 20 X (M' := tu_row M 87 (tu_u (M 87) (8 + (2 * q)) 0)) (8 + (2 * q)) dX4_writeLine_20 (by decide) rfl (by decide) (by omega) (by omega) rfl ?_
  refine tu_aload_n 21 X 2 dX4_writeLine_21 rfl ?_
  refine tu_getR 22 X dX4_writeLine_22 fl_RX4_7 (by decide) rfl rfl ?_
  refine tu_iload_n 25 X 1 dX4_writeLine_25 rfl ?_
  refine tu_iconst 26 X dX4_writeLine_26 ?_
  refine tu_iadd 27 X dX4_writeLine_27 ?_
  refine tu_iconst 28 X dX4_writeLine_28 ?_
  refine tu_iast 29 X (M' := tu_row M 87 (tu_u (tu_u (M 87) (8 + (2 * q)) 0) ((8 + (2 * q)) + 1) 0)) ((8 + (2 * q)) + 1) dX4_writeLine_29 (by decide) rfl (by decide) (by omega) (by omega) (tu_rr M 87 (tu_u (M 87) (8 + (2 * q)) 0) (tu_u (tu_u (M 87) (8 + (2 * q)) 0) ((8 + (2 * q)) + 1) 0)) ?_
  have lp30 : ∀ (nq : Nat) (j : Nat) (S : Nat → Int), (k0 + j ≤ (M 86 6).toNat) → (S (8 + 2 * q) = ((j : Nat) : Int)) → (tu_mk (S (8 + 2 * q + 1)) j (fun s => if M 91 (k0 + s) = 88 then 1 else 0)) → (∀ p, p ≠ 8 + 2 * q → p ≠ 8 + 2 * q + 1 → S p = M 87 p) → (tu_ps (M 91) (k0 + j) = (0, ((j : Nat) : Int))) → (j = 0 ∨ tu_lj (tu_qs B (M 91) k0) (tu_qs B (M 91) (k0 + j)) (M 91) k0 j) → (M 86 6).toNat - j < nq → tu_W T 30 [(0, tu_r 86), (1, tu_i ((k0 : Nat) : Int)), (2, tu_i (8 + (2 * ((q : Nat) : Int)))), (3, tu_i (((k0 + j) : Nat) : Int))] [] (tu_row M 87 S) := by
    intro nq
    induction nq with
    | zero => intros; omega
    | succ nq ih30 =>
      intro j S hj hS0 hS1 hSo hP hV hn30
      have e0 : j = 0 → M 91 (k0 + j) = M 91 k0 := fun z => by rw [z]; rfl
      refine tu_iload_n 30 X 3 dX4_writeLine_30 rfl ?_
      refine tu_aload_n 31 X 0 dX4_writeLine_31 rfl ?_
      refine tu_getI 32 X (x := M 86 6) dX4_writeLine_32 fl_RX4_134 (by decide) rfl rfl rfl ?_
      refine tu_icmp_ge 35 X 99 dX4_writeLine_35 (by decide) (show tu_rg (((k0 + j) : Nat) : Int) from by first | assumption | exact ⟨by omega, by omega⟩) (show tu_rg (M 86 6) from by first | assumption | exact ⟨by omega, by omega⟩) (fun br35 => ?_) (fun br35 => ?_)
      ·
        refine tu_aload_n 99 X 0 dX4_writeLine_99 rfl ?_
        refine tu_getR 100 X dX4_writeLine_100 fl_RX4_7 (by decide) rfl rfl ?_
        refine tu_iconst 103 X dX4_writeLine_103 ?_
        refine tu_dup2 104 X dX4_writeLine_104 rfl rfl ?_
        refine tu_iald 105 X (x := S 4) 4 dX4_writeLine_105 (by decide) rfl (by decide) rfl (by decide) rfl ?_
        refine tu_iconst 106 X dX4_writeLine_106 ?_
        refine tu_iadd 107 X dX4_writeLine_107 ?_
        refine tu_iast 108 X (M' := tu_row M 87 (tu_u S 4 ((S 4) + 1))) 4 dX4_writeLine_108 (by decide) rfl (by decide) rfl (by decide) (tu_rr M 87 S (tu_u S 4 ((S 4) + 1))) ?_
        refine tu_iload_n 109 X 3 dX4_writeLine_109 rfl ?_
        refine hret 110 _ _ (((k0 + j) : Nat) : Int) dX4_writeLine_110 (fun h => by rw [hrt] at h; cases h) ?_
        rcases hV with z | z
        · exfalso; have := e0 z; omega
        · exact ⟨_, k0 + j, rfl, ⟨⟨by omega, by omega⟩, by omega⟩, z.MB hR ⟨⟨by omega, hcl⟩, hcw.2.1, hcw.2.2.1, hcw.2.2.2⟩ (fun l hl => (hBQ.1 l hl).2) (by rw [hq2]; exact hS0) (by rw [hq2]; exact hS1) (by rw [hq2]; exact hSo), rfl⟩
      ·
        have hrk := hr (k0 + j) (by omega)
        refine tu_aload_n 38 X 0 dX4_writeLine_38 rfl ?_
        refine tu_getR 39 X dX4_writeLine_39 fl_RX4_22 (by decide) rfl rfl ?_
        refine tu_iload_n 42 X 3 dX4_writeLine_42 rfl ?_
        refine tu_iald 43 X (x := M 91 (k0 + j)) (k0 + j) dX4_writeLine_43 (by decide) rfl (by decide) (by omega) (by omega) rfl ?_
        refine tu_bipush 44 X dX4_writeLine_44 (by decide) ?_
        refine tu_icmp_eq 46 X 99 dX4_writeLine_46 (by decide) (show tu_rg (M 91 (k0 + j)) from by first | assumption | exact ⟨by omega, by omega⟩) ⟨by decide, by decide⟩ (fun br46 => ?_) (fun br46 => ?_)
        ·
          refine tu_aload_n 99 X 0 dX4_writeLine_99 rfl ?_
          refine tu_getR 100 X dX4_writeLine_100 fl_RX4_7 (by decide) rfl rfl ?_
          refine tu_iconst 103 X dX4_writeLine_103 ?_
          refine tu_dup2 104 X dX4_writeLine_104 rfl rfl ?_
          refine tu_iald 105 X (x := S 4) 4 dX4_writeLine_105 (by decide) rfl (by decide) rfl (by decide) rfl ?_
          refine tu_iconst 106 X dX4_writeLine_106 ?_
          refine tu_iadd 107 X dX4_writeLine_107 ?_
          refine tu_iast 108 X (M' := tu_row M 87 (tu_u S 4 ((S 4) + 1))) 4 dX4_writeLine_108 (by decide) rfl (by decide) rfl (by decide) (tu_rr M 87 S (tu_u S 4 ((S 4) + 1))) ?_
          refine tu_iload_n 109 X 3 dX4_writeLine_109 rfl ?_
          refine hret 110 _ _ (((k0 + j) : Nat) : Int) dX4_writeLine_110 (fun h => by rw [hrt] at h; cases h) ?_
          rcases hV with z | z
          · exfalso; have := e0 z; omega
          · exact ⟨_, k0 + j, rfl, ⟨⟨by omega, by omega⟩, by omega⟩, z.MB hR ⟨⟨by omega, hcl⟩, hcw.2.1, hcw.2.2.1, hcw.2.2.2⟩ (fun l hl => (hBQ.1 l hl).2) (by rw [hq2]; exact hS0) (by rw [hq2]; exact hS1) (by rw [hq2]; exact hSo), rfl⟩
        ·
          have hk2 := tu_kd2 (hff (k0 + j) (by omega)) hP (by omega) (fun z => by rw [e0 z]; exact hc0)
          refine tu_aload_n 49 X 0 dX4_writeLine_49 rfl ?_
          refine tu_getR 50 X dX4_writeLine_50 fl_RX4_7 (by decide) rfl rfl ?_
          refine tu_iload_n 53 X 2 dX4_writeLine_53 rfl ?_
          refine tu_iconst 54 X dX4_writeLine_54 ?_
          refine tu_iadd 55 X dX4_writeLine_55 ?_
          refine tu_dup2 56 X dX4_writeLine_56 rfl rfl ?_
          refine tu_iald 57 X (x := S ((8 + (2 * q)) + 1)) ((8 + (2 * q)) + 1) dX4_writeLine_57 (by decide) rfl (by decide) (by omega) (by omega) rfl ?_
          refine tu_aload_n 58 X 0 dX4_writeLine_58 rfl ?_
          refine tu_getR 59 X dX4_writeLine_59 fl_RX4_22 (by decide) rfl rfl ?_
          refine tu_iload_n 62 X 3 dX4_writeLine_62 rfl ?_
          refine tu_iald 63 X (x := M 91 (k0 + j)) (k0 + j) dX4_writeLine_63 (by decide) rfl (by decide) (by omega) (by omega) rfl ?_
          refine tu_bipush 64 X dX4_writeLine_64 (by decide) ?_
          refine tu_icmp_ne 66 X 80 dX4_writeLine_66 (by decide) (show tu_rg (M 91 (k0 + j)) from by first | assumption | exact ⟨by omega, by omega⟩) ⟨by decide, by decide⟩ (fun br66 => ?_) (fun br66 => ?_)
          ·
            refine tu_iconst 80 X dX4_writeLine_80 ?_
            refine tu_ior 81 X dX4_writeLine_81 ?_
            refine tu_iast 82 X (M' := tu_row M 87 (tu_u S ((8 + (2 * q)) + 1) (tu_or (S ((8 + (2 * q)) + 1)) 0))) ((8 + (2 * q)) + 1) dX4_writeLine_82 (by decide) rfl (by decide) (by omega) (by omega) (tu_rr M 87 S (tu_u S ((8 + (2 * q)) + 1) (tu_or (S ((8 + (2 * q)) + 1)) 0))) ?_
            refine tu_aload_n 83 X 0 dX4_writeLine_83 rfl ?_
            refine tu_getR 84 X dX4_writeLine_84 fl_RX4_7 (by decide) rfl rfl ?_
            refine tu_iload_n 87 X 2 dX4_writeLine_87 rfl ?_
            refine tu_dup2 88 X dX4_writeLine_88 rfl rfl ?_
            refine tu_iald 89 X (x := (tu_u S ((8 + (2 * q)) + 1) (tu_or (S ((8 + (2 * q)) + 1)) 0)) (8 + (2 * q))) (8 + (2 * q)) dX4_writeLine_89 (by decide) rfl (by decide) (by omega) (by omega) rfl ?_
            refine tu_tp (b := ((j : Nat) : Int)) (by rw [tu_u_n _ _ (by omega)]; exact hS0) ?_
            refine tu_iconst 90 X dX4_writeLine_90 ?_
            refine tu_iadd 91 X dX4_writeLine_91 ?_
            refine tu_iast 92 X (M' := tu_row M 87 (tu_u (tu_u S ((8 + (2 * q)) + 1) (tu_or (S ((8 + (2 * q)) + 1)) 0)) (8 + (2 * q)) (((j : Nat) : Int) + 1))) (8 + (2 * q)) dX4_writeLine_92 (by decide) rfl (by decide) (by omega) (by omega) (tu_rr M 87 (tu_u S ((8 + (2 * q)) + 1) (tu_or (S ((8 + (2 * q)) + 1)) 0)) (tu_u (tu_u S ((8 + (2 * q)) + 1) (tu_or (S ((8 + (2 * q)) + 1)) 0)) (8 + (2 * q)) (((j : Nat) : Int) + 1))) ?_
            refine tu_iinc 93 X (lv' := [(3, tu_i ((((k0 + j) : Nat) : Int) + 1)), (0, tu_r 86), (1, tu_i ((k0 : Nat) : Int)), (2, tu_i (8 + (2 * ((q : Nat) : Int))))]) 3 dX4_writeLine_93 rfl (by rw [hnl]; decide) rfl ?_
            refine tu_goto 96 X 30 dX4_writeLine_96 (by decide) ?_
            refine tu_jmp [1, 2, 3, 0] (lv' := [(0, tu_r 86), (1, tu_i ((k0 : Nat) : Int)), (2, tu_i (8 + (2 * ((q : Nat) : Int)))), (3, tu_i (((k0 + (j + 1)) : Nat) : Int))]) ⟨rfl, rfl, rfl, tu_ei (by first | rfl | omega), trivial⟩ rfl (ih30 (j + 1) (tu_u (tu_u S ((8 + (2 * q)) + 1) (tu_or (S ((8 + (2 * q)) + 1)) 0)) (8 + (2 * q)) (((j : Nat) : Int) + 1)) (by omega) (by rw [tu_u_s]; omega) (by rw [tu_u_n _ _ (by omega), tu_u_s]; first | exact hS1.add (by omega) (show (if M 91 (k0 + j) = 88 then (1 : Int) else 0) = 1 from if_pos (by omega)) | exact hS1.add0 (show (if M 91 (k0 + j) = 88 then (1 : Int) else 0) ≠ 1 from by rw [if_neg (by omega)]; decide)) (by intro p a1 a2; rw [tu_u_n _ _ a1, tu_u_n _ _ a2]; exact hSo p a1 a2) (by rw [show tu_ps (M 91) (k0 + (j + 1)) = tu_ps (M 91) (k0 + j + 1) from rfl, tu_ps_23 (Or.inl hk2.1), hP]; exact Prod.ext rfl (show ((j : Nat) : Int) + 1 = _ from by omega)) (by exact Or.inr (tu_lj_next hk2.1 hP (by omega) (by omega) hV)) (by omega))
          ·
            refine tu_iconst 69 X dX4_writeLine_69 ?_
            refine tu_aload_n 70 X 0 dX4_writeLine_70 rfl ?_
            refine tu_getR 71 X dX4_writeLine_71 fl_RX4_7 (by decide) rfl rfl ?_
            refine tu_iload_n 74 X 2 dX4_writeLine_74 rfl ?_
            refine tu_iald 75 X (x := S (8 + (2 * q))) (8 + (2 * q)) dX4_writeLine_75 (by decide) rfl (by decide) (by omega) (by omega) rfl ?_
            refine tu_tp (b := ((j : Nat) : Int)) (by exact hS0) ?_
            refine tu_ishl 76 X dX4_writeLine_76 ?_
            refine tu_goto 77 X 81 dX4_writeLine_77 (by decide) ?_
            refine tu_ior 81 X dX4_writeLine_81 ?_
            refine tu_iast 82 X (M' := tu_row M 87 (tu_u S ((8 + (2 * q)) + 1) (tu_or (S ((8 + (2 * q)) + 1)) (tu_shl 1 ((j : Nat) : Int))))) ((8 + (2 * q)) + 1) dX4_writeLine_82 (by decide) rfl (by decide) (by omega) (by omega) (tu_rr M 87 S (tu_u S ((8 + (2 * q)) + 1) (tu_or (S ((8 + (2 * q)) + 1)) (tu_shl 1 ((j : Nat) : Int))))) ?_
            refine tu_aload_n 83 X 0 dX4_writeLine_83 rfl ?_
            refine tu_getR 84 X dX4_writeLine_84 fl_RX4_7 (by decide) rfl rfl ?_
            refine tu_iload_n 87 X 2 dX4_writeLine_87 rfl ?_
            refine tu_dup2 88 X dX4_writeLine_88 rfl rfl ?_
            refine tu_iald 89 X (x := (tu_u S ((8 + (2 * q)) + 1) (tu_or (S ((8 + (2 * q)) + 1)) (tu_shl 1 ((j : Nat) : Int)))) (8 + (2 * q))) (8 + (2 * q)) dX4_writeLine_89 (by decide) rfl (by decide) (by omega) (by omega) rfl ?_
            refine tu_tp (b := ((j : Nat) : Int)) (by rw [tu_u_n _ _ (by omega)]; exact hS0) ?_
            refine tu_iconst 90 X dX4_writeLine_90 ?_
            refine tu_iadd 91 X dX4_writeLine_91 ?_
            refine tu_iast 92 X (M' := tu_row M 87 (tu_u (tu_u S ((8 + (2 * q)) + 1) (tu_or (S ((8 + (2 * q)) + 1)) (tu_shl 1 ((j : Nat) : Int)))) (8 + (2 * q)) (((j : Nat) : Int) + 1))) (8 + (2 * q)) dX4_writeLine_92 (by decide) rfl (by decide) (by omega) (by omega) (tu_rr M 87 (tu_u S ((8 + (2 * q)) + 1) (tu_or (S ((8 + (2 * q)) + 1)) (tu_shl 1 ((j : Nat) : Int)))) (tu_u (tu_u S ((8 + (2 * q)) + 1) (tu_or (S ((8 + (2 * q)) + 1)) (tu_shl 1 ((j : Nat) : Int)))) (8 + (2 * q)) (((j : Nat) : Int) + 1))) ?_
            refine tu_iinc 93 X (lv' := [(3, tu_i ((((k0 + j) : Nat) : Int) + 1)), (0, tu_r 86), (1, tu_i ((k0 : Nat) : Int)), (2, tu_i (8 + (2 * ((q : Nat) : Int))))]) 3 dX4_writeLine_93 rfl (by rw [hnl]; decide) rfl ?_
            refine tu_goto 96 X 30 dX4_writeLine_96 (by decide) ?_
            refine tu_jmp [1, 2, 3, 0] (lv' := [(0, tu_r 86), (1, tu_i ((k0 : Nat) : Int)), (2, tu_i (8 + (2 * ((q : Nat) : Int)))), (3, tu_i (((k0 + (j + 1)) : Nat) : Int))]) ⟨rfl, rfl, rfl, tu_ei (by first | rfl | omega), trivial⟩ rfl (ih30 (j + 1) (tu_u (tu_u S ((8 + (2 * q)) + 1) (tu_or (S ((8 + (2 * q)) + 1)) (tu_shl 1 ((j : Nat) : Int)))) (8 + (2 * q)) (((j : Nat) : Int) + 1)) (by omega) (by rw [tu_u_s]; omega) (by rw [tu_u_n _ _ (by omega), tu_u_s]; first | exact hS1.add (by omega) (show (if M 91 (k0 + j) = 88 then (1 : Int) else 0) = 1 from if_pos (by omega)) | exact hS1.add0 (show (if M 91 (k0 + j) = 88 then (1 : Int) else 0) ≠ 1 from by rw [if_neg (by omega)]; decide)) (by intro p a1 a2; rw [tu_u_n _ _ a1, tu_u_n _ _ a2]; exact hSo p a1 a2) (by rw [show tu_ps (M 91) (k0 + (j + 1)) = tu_ps (M 91) (k0 + j + 1) from rfl, tu_ps_23 (Or.inl hk2.1), hP]; exact Prod.ext rfl (show ((j : Nat) : Int) + 1 = _ from by omega)) (by exact Or.inr (tu_lj_next hk2.1 hP (by omega) (by omega) hV)) (by omega))
  refine tu_jmp [2, 3, 1, 0] (lv' := [(0, tu_r 86), (1, tu_i ((k0 : Nat) : Int)), (2, tu_i (8 + (2 * ((q : Nat) : Int)))), (3, tu_i (((k0 + 0) : Nat) : Int))]) ⟨rfl, rfl, rfl, tu_ei (by first | rfl | omega), trivial⟩ rfl (lp30 (((M 86 6).toNat - 0) + 1) 0 (tu_u (tu_u (M 87) (8 + (2 * q)) 0) ((8 + (2 * q)) + 1) 0) (by omega) (by first | (rw [tu_u_n _ _ (by omega), tu_u_s]; rfl) | (rw [tu_u_n _ _ (by omega), tu_u_n _ _ (by omega), tu_u_s]; rfl)) (by rw [tu_u_s]; exact tu_mk_0) (by intro p a1 a2; rw [tu_u_n _ _ a2, tu_u_n _ _ a1]) (by exact hP0) (by exact Or.inl rfl) (by omega))
set_option maxRecDepth 20000 in
set_option maxHeartbeats 4000000 in
theorem c_X4_writePhrase {M : tu_M} (B : Nat → Nat → Int) (k0 : Nat) (hO : tu_BO B) (hp : 0 ≤ M 86 6 ∧ M 86 6 ≤ 60) (hr : ∀ k9 : Nat, (k9 : Int) < M 86 6 → tu_rg (M 91 k9)) (hff : ∀ j9, j9 < (M 86 6).toNat → tu_kd (tu_ps (M 91) j9) (M 91 j9) ≠ 0) (hk0 : k0 < (M 86 6).toNat) (hP0 : tu_ps (M 91) k0 = (0, 0)) (hR : tu_MB (tu_qs B (M 91) k0) (M 87)) (hcw : (0 ≤ tu_qs B (M 91) k0 0 1 ∧ tu_qs B (M 91) k0 0 1 ≤ 16) ∧ (0 ≤ tu_qs B (M 91) k0 0 4 ∧ tu_qs B (M 91) k0 0 4 ≤ 8) ∧ (0 ≤ tu_qs B (M 91) k0 0 7 ∧ tu_qs B (M 91) k0 0 7 ≤ 40) ∧ (0 ≤ tu_qs B (M 91) k0 0 9 ∧ tu_qs B (M 91) k0 0 9 ≤ 8)) (hc0 : M 91 k0 = 124) (hcl : tu_qs B (M 91) k0 0 4 < 8) : tu_MI tu_Y_X4_writePhrase [tu_r 86, tu_i ((k0 : Nat) : Int)] M (fun z M' => ∃ (S : Nat → Int) (k1 : Nat), M' = tu_row M 87 S ∧ ((k0 < k1 ∧ k1 ≤ (M 86 6).toNat) ∧ (k1 = (M 86 6).toNat ∨ M 91 k1 = 59)) ∧ (tu_MB (tu_qs B (M 91) k1) S) ∧ z = ((k1 : Nat) : Int)) := by
  obtain ⟨q, hq⟩ : ∃ q : Nat, tu_qs B (M 91) k0 0 4 = (q : Int) := ⟨(tu_qs B (M 91) k0 0 4).toNat, by omega⟩
  have hq2 : (tu_qs B (M 91) k0 0 4).toNat = q := by omega
  have hBQ := (tu_BQ_all hO hff k0 (by omega)).1
  have hkc := hff k0 hk0
  have hk9 := tu_kd1 hkc hc0
  refine tu_MI.of (ty := .int) (by decide) rfl (by first | exact Or.inl rfl | exact Or.inr rfl) (Nat.le_of_ble_eq_true rfl) (fun T (X : tu_X T cX4_writePhrase RX4 0 0) hnl hrt hret => ?_)
  have hret : tu_RI T cX4_writePhrase (fun z M' => ∃ (S : Nat → Int) (k1 : Nat), M' = tu_row M 87 S ∧ ((k0 < k1 ∧ k1 ≤ (M 86 6).toNat) ∧ (k1 = (M 86 6).toNat ∨ M 91 k1 = 59)) ∧ (tu_MB (tu_qs B (M 91) k1) S) ∧ z = ((k1 : Nat) : Int)) := hret
  have hnl : T.2.2.2.2.2.2.2.2.2.2.1 = 4 := hnl
  show tu_W T 0 [(0, tu_r 86), (1, tu_i ((k0 : Nat) : Int))] [] M
  refine tu_bipush 0 X dX4_writePhrase_0 (by decide) ?_
  refine tu_iconst 2 X dX4_writePhrase_2 ?_
  refine tu_aload_n 3 X 0 dX4_writePhrase_3 rfl ?_
  refine tu_getR 4 X dX4_writePhrase_4 fl_RX4_7 (by decide) rfl rfl ?_
  refine tu_iconst 7 X dX4_writePhrase_7 ?_
  refine tu_iald 8 X (x := M 87 5) 5 dX4_writePhrase_8 (by decide) rfl (by decide) rfl (by decide) rfl ?_
  refine tu_tp (b := ((q : Nat) : Int)) (by rw [hR.n5]; omega) ?_
  refine tu_imul 9 X dX4_writePhrase_9 ?_
  refine tu_iadd 10 X dX4_writePhrase_10 ?_
  refine tu_istore_n 11 X (lv' := [(2, tu_i (40 + (3 * ((q : Nat) : Int)))), (0, tu_r 86), (1, tu_i ((k0 : Nat) : Int))]) dX4_writePhrase_11 (by rw [hnl]; decide) rfl ?_
  refine tu_iload_n 12 X 2 dX4_writePhrase_12 rfl ?_
  refine tu_iconst 13 X dX4_writePhrase_13 ?_
  refine tu_iadd 14 X dX4_writePhrase_14 ?_
  refine tu_istore_n 15 X (lv' := [(3, tu_i (((k0 : Nat) : Int) + 1)), (2, tu_i (40 + (3 * ((q : Nat) : Int)))), (0, tu_r 86), (1, tu_i ((k0 : Nat) : Int))]) dX4_writePhrase_15 (by rw [hnl]; decide) rfl ?_
  refine tu_aload_n 16 X 2 dX4_writePhrase_16 rfl ?_
  refine tu_getR 17 X dX4_writePhrase_17 fl_RX4_7 (by decide) rfl rfl ?_
  refine tu_iload_n 20 X 1 dX4_writePhrase_20 rfl ?_
  refine tu_iconst 21 X dX4_writePhrase_21 ?_
  refine tu_iast 22 X (M' := tu_row M 87 (tu_u (M 87) (40 + (3 * q)) 0)) (40 + (3 * q)) dX4_writePhrase_22 (by decide) rfl (by decide) (by omega) (by omega) rfl ?_
  refine tu_aload_n 23 X 2 dX4_writePhrase_23 rfl ?_
  refine tu_getR 24 X dX4_writePhrase_24 fl_RX4_7 (by decide) rfl rfl ?_
  refine tu_iload_n 27 X 1 dX4_writePhrase_27 rfl ?_
  refine tu_iconst 28 X dX4_writePhrase_28 ?_
  refine tu_iadd 29 X dX4_writePhrase_29 ?_
  refine tu_iconst 30 X dX4_writePhrase_30 ?_
  refine tu_iast 31 X (M' := tu_row M 87 (tu_u (tu_u (M 87) (40 + (3 * q)) 0) ((40 + (3 * q)) + 1) 0)) ((40 + (3 * q)) + 1) dX4_writePhrase_31 (by decide) rfl (by decide) (by omega) (by omega) (tu_rr M 87 (tu_u (M 87) (40 + (3 * q)) 0) (tu_u (tu_u (M 87) (40 + (3 * q)) 0) ((40 + (3 * q)) + 1) 0)) ?_
  refine tu_aload_n 32 X 2 dX4_writePhrase_32 rfl ?_
  refine tu_getR 33 X dX4_writePhrase_33 fl_RX4_7 (by decide) rfl rfl ?_
  refine tu_iload_n 36 X 1 dX4_writePhrase_36 rfl ?_
  refine tu_iconst 37 X dX4_writePhrase_37 ?_
  refine tu_iadd 38 X dX4_writePhrase_38 ?_
  refine tu_iconst 39 X dX4_writePhrase_39 ?_
  refine tu_iast 40 X (M' := tu_row M 87 (tu_u (tu_u (tu_u (M 87) (40 + (3 * q)) 0) ((40 + (3 * q)) + 1) 0) ((40 + (3 * q)) + 2) 0)) ((40 + (3 * q)) + 2) dX4_writePhrase_40 (by decide) rfl (by decide) (by omega) (by omega) (tu_rr M 87 (tu_u (tu_u (M 87) (40 + (3 * q)) 0) ((40 + (3 * q)) + 1) 0) (tu_u (tu_u (tu_u (M 87) (40 + (3 * q)) 0) ((40 + (3 * q)) + 1) 0) ((40 + (3 * q)) + 2) 0)) ?_
  have lp41 : ∀ (nq : Nat) (j : Nat) (S : Nat → Int), (k0 + 1 + j ≤ (M 86 6).toNat) → (S (40 + 3 * q) = ((j : Nat) : Int)) → (tu_mk (S (40 + 3 * q + 1)) j (fun s => if M 91 (k0 + 1 + s) = 115 then 1 else 0)) → (tu_mk (S (40 + 3 * q + 2)) j (fun s => if M 91 (k0 + 1 + s) = 119 then 1 else 0)) → (∀ p, p ≠ 40 + 3 * q → p ≠ 40 + 3 * q + 1 → p ≠ 40 + 3 * q + 2 → S p = M 87 p) → (tu_ps (M 91) (k0 + 1 + j) = (1, ((j : Nat) : Int))) → (tu_pj (tu_qs B (M 91) k0) (tu_qs B (M 91) (k0 + 1 + j)) (M 91) k0 j) → (M 86 6).toNat - j < nq → tu_W T 41 [(0, tu_r 86), (1, tu_i ((k0 : Nat) : Int)), (2, tu_i (40 + (3 * ((q : Nat) : Int)))), (3, tu_i (((k0 + 1 + j) : Nat) : Int))] [] (tu_row M 87 S) := by
    intro nq
    induction nq with
    | zero => intros; omega
    | succ nq ih41 =>
      intro j S hj hS0 hS1 hS2 hSo hP hV hn41
      refine tu_iload_n 41 X 3 dX4_writePhrase_41 rfl ?_
      refine tu_aload_n 42 X 0 dX4_writePhrase_42 rfl ?_
      refine tu_getI 43 X (x := M 86 6) dX4_writePhrase_43 fl_RX4_134 (by decide) rfl rfl rfl ?_
      refine tu_icmp_ge 46 X 144 dX4_writePhrase_46 (by decide) (show tu_rg (((k0 + 1 + j) : Nat) : Int) from by first | assumption | exact ⟨by omega, by omega⟩) (show tu_rg (M 86 6) from by first | assumption | exact ⟨by omega, by omega⟩) (fun br46 => ?_) (fun br46 => ?_)
      ·
        refine tu_aload_n 144 X 0 dX4_writePhrase_144 rfl ?_
        refine tu_getR 145 X dX4_writePhrase_145 fl_RX4_7 (by decide) rfl rfl ?_
        refine tu_iconst 148 X dX4_writePhrase_148 ?_
        refine tu_dup2 149 X dX4_writePhrase_149 rfl rfl ?_
        refine tu_iald 150 X (x := S 5) 5 dX4_writePhrase_150 (by decide) rfl (by decide) rfl (by decide) rfl ?_
        refine tu_iconst 151 X dX4_writePhrase_151 ?_
        refine tu_iadd 152 X dX4_writePhrase_152 ?_
        refine tu_iast 153 X (M' := tu_row M 87 (tu_u S 5 ((S 5) + 1))) 5 dX4_writePhrase_153 (by decide) rfl (by decide) rfl (by decide) (tu_rr M 87 S (tu_u S 5 ((S 5) + 1))) ?_
        refine tu_iload_n 154 X 3 dX4_writePhrase_154 rfl ?_
        refine hret 155 _ _ (((k0 + 1 + j) : Nat) : Int) dX4_writePhrase_155 (fun h => by rw [hrt] at h; cases h) ?_
        exact ⟨_, k0 + 1 + j, rfl, ⟨⟨by omega, by omega⟩, by omega⟩, hV.MB hR ⟨hcw.1, ⟨by omega, hcl⟩, hcw.2.2.1, hcw.2.2.2⟩ (fun p hp => (hBQ.2.2.1 p hp).1.2) (by rw [hq2]; exact hS0) (by rw [hq2]; exact hS1) (by rw [hq2]; exact hS2) (by rw [hq2]; exact hSo), rfl⟩
      ·
        have hrk := hr (k0 + 1 + j) (by omega)
        refine tu_aload_n 49 X 0 dX4_writePhrase_49 rfl ?_
        refine tu_getR 50 X dX4_writePhrase_50 fl_RX4_22 (by decide) rfl rfl ?_
        refine tu_iload_n 53 X 3 dX4_writePhrase_53 rfl ?_
        refine tu_iald 54 X (x := M 91 (k0 + 1 + j)) (k0 + 1 + j) dX4_writePhrase_54 (by decide) rfl (by decide) (by omega) (by omega) rfl ?_
        refine tu_bipush 55 X dX4_writePhrase_55 (by decide) ?_
        refine tu_icmp_eq 57 X 144 dX4_writePhrase_57 (by decide) (show tu_rg (M 91 (k0 + 1 + j)) from by first | assumption | exact ⟨by omega, by omega⟩) ⟨by decide, by decide⟩ (fun br57 => ?_) (fun br57 => ?_)
        ·
          refine tu_aload_n 144 X 0 dX4_writePhrase_144 rfl ?_
          refine tu_getR 145 X dX4_writePhrase_145 fl_RX4_7 (by decide) rfl rfl ?_
          refine tu_iconst 148 X dX4_writePhrase_148 ?_
          refine tu_dup2 149 X dX4_writePhrase_149 rfl rfl ?_
          refine tu_iald 150 X (x := S 5) 5 dX4_writePhrase_150 (by decide) rfl (by decide) rfl (by decide) rfl ?_
          refine tu_iconst 151 X dX4_writePhrase_151 ?_
          refine tu_iadd 152 X dX4_writePhrase_152 ?_
          refine tu_iast 153 X (M' := tu_row M 87 (tu_u S 5 ((S 5) + 1))) 5 dX4_writePhrase_153 (by decide) rfl (by decide) rfl (by decide) (tu_rr M 87 S (tu_u S 5 ((S 5) + 1))) ?_
          refine tu_iload_n 154 X 3 dX4_writePhrase_154 rfl ?_
          refine hret 155 _ _ (((k0 + 1 + j) : Nat) : Int) dX4_writePhrase_155 (fun h => by rw [hrt] at h; cases h) ?_
          exact ⟨_, k0 + 1 + j, rfl, ⟨⟨by omega, by omega⟩, by omega⟩, hV.MB hR ⟨hcw.1, ⟨by omega, hcl⟩, hcw.2.2.1, hcw.2.2.2⟩ (fun p hp => (hBQ.2.2.1 p hp).1.2) (by rw [hq2]; exact hS0) (by rw [hq2]; exact hS1) (by rw [hq2]; exact hS2) (by rw [hq2]; exact hSo), rfl⟩
        ·
          have hk2 := tu_kd3 (hff (k0 + 1 + j) (by omega)) hP (by omega)
          refine tu_aload_n 60 X 0 dX4_writePhrase_60 rfl ?_
          refine tu_getR 61 X dX4_writePhrase_61 fl_RX4_7 (by decide) rfl rfl ?_
          refine tu_iload_n 64 X 2 dX4_writePhrase_64 rfl ?_
          refine tu_iconst 65 X dX4_writePhrase_65 ?_
          refine tu_iadd 66 X dX4_writePhrase_66 ?_
          refine tu_dup2 67 X dX4_writePhrase_67 rfl rfl ?_
          refine tu_iald 68 X (x := S ((40 + (3 * q)) + 1)) ((40 + (3 * q)) + 1) dX4_writePhrase_68 (by decide) rfl (by decide) (by omega) (by omega) rfl ?_
          refine tu_aload_n 69 X 0 dX4_writePhrase_69 rfl ?_
          refine tu_getR 70 X dX4_writePhrase_70 fl_RX4_22 (by decide) rfl rfl ?_
          refine tu_iload_n 73 X 3 dX4_writePhrase_73 rfl ?_
          refine tu_iald 74 X (x := M 91 (k0 + 1 + j)) (k0 + 1 + j) dX4_writePhrase_74 (by decide) rfl (by decide) (by omega) (by omega) rfl ?_
          refine tu_bipush 75 X dX4_writePhrase_75 (by decide) ?_
          refine tu_icmp_ne 77 X 91 dX4_writePhrase_77 (by decide) (show tu_rg (M 91 (k0 + 1 + j)) from by first | assumption | exact ⟨by omega, by omega⟩) ⟨by decide, by decide⟩ (fun br77 => ?_) (fun br77 => ?_)
          ·
            refine tu_iconst 91 X dX4_writePhrase_91 ?_
            refine tu_ior 92 X dX4_writePhrase_92 ?_
            refine tu_iast 93 X (M' := tu_row M 87 (tu_u S ((40 + (3 * q)) + 1) (tu_or (S ((40 + (3 * q)) + 1)) 0))) ((40 + (3 * q)) + 1) dX4_writePhrase_93 (by decide) rfl (by decide) (by omega) (by omega) (tu_rr M 87 S (tu_u S ((40 + (3 * q)) + 1) (tu_or (S ((40 + (3 * q)) + 1)) 0))) ?_
            refine tu_aload_n 94 X 0 dX4_writePhrase_94 rfl ?_
            refine tu_getR 95 X dX4_writePhrase_95 fl_RX4_7 (by decide) rfl rfl ?_
            refine tu_iload_n 98 X 2 dX4_writePhrase_98 rfl ?_
            refine tu_iconst 99 X dX4_writePhrase_99 ?_
            refine tu_iadd 100 X dX4_writePhrase_100 ?_
            refine tu_dup2 101 X dX4_writePhrase_101 rfl rfl ?_
            refine tu_iald 102 X (x := (tu_u S ((40 + (3 * q)) + 1) (tu_or (S ((40 + (3 * q)) + 1)) 0)) ((40 + (3 * q)) + 2)) ((40 + (3 * q)) + 2) dX4_writePhrase_102 (by decide) rfl (by decide) (by omega) (by omega) rfl ?_
            refine tu_tp (b := (S (40 + 3 * q + 2))) (by rw [tu_u_n _ _ (by omega)]) ?_
            refine tu_aload_n 103 X 0 dX4_writePhrase_103 rfl ?_
            refine tu_getR 104 X dX4_writePhrase_104 fl_RX4_22 (by decide) rfl rfl ?_
            refine tu_iload_n 107 X 3 dX4_writePhrase_107 rfl ?_
            refine tu_iald 108 X (x := M 91 (k0 + 1 + j)) (k0 + 1 + j) dX4_writePhrase_108 (by decide) rfl (by decide) (by omega) (by omega) rfl ?_
            refine tu_bipush 109 X dX4_writePhrase_109 (by decide) ?_
            refine tu_icmp_ne 111 X 125 dX4_writePhrase_111 (by decide) (show tu_rg (M 91 (k0 + 1 + j)) from by first | assumption | exact ⟨by omega, by omega⟩) ⟨by decide, by decide⟩ (fun br111 => ?_) (fun br111 => ?_)
            ·
              refine tu_iconst 125 X dX4_writePhrase_125 ?_
              refine tu_ior 126 X dX4_writePhrase_126 ?_
              refine tu_iast 127 X (M' := tu_row M 87 (tu_u (tu_u S ((40 + (3 * q)) + 1) (tu_or (S ((40 + (3 * q)) + 1)) 0)) ((40 + (3 * q)) + 2) (tu_or (S (40 + 3 * q + 2)) 0))) ((40 + (3 * q)) + 2) dX4_writePhrase_127 (by decide) rfl (by decide) (by omega) (by omega) (tu_rr M 87 (tu_u S ((40 + (3 * q)) + 1) (tu_or (S ((40 + (3 * q)) + 1)) 0)) (tu_u (tu_u S ((40 + (3 * q)) + 1) (tu_or (S ((40 + (3 * q)) + 1)) 0)) ((40 + (3 * q)) + 2) (tu_or (S (40 + 3 * q + 2)) 0))) ?_
              refine tu_aload_n 128 X 0 dX4_writePhrase_128 rfl ?_
              refine tu_getR 129 X dX4_writePhrase_129 fl_RX4_7 (by decide) rfl rfl ?_
              refine tu_iload_n 132 X 2 dX4_writePhrase_132 rfl ?_
              refine tu_dup2 133 X dX4_writePhrase_133 rfl rfl ?_
              refine tu_iald 134 X (x := (tu_u (tu_u S ((40 + (3 * q)) + 1) (tu_or (S ((40 + (3 * q)) + 1)) 0)) ((40 + (3 * q)) + 2) (tu_or (S (40 + 3 * q + 2)) 0)) (40 + (3 * q))) (40 + (3 * q)) dX4_writePhrase_134 (by decide) rfl (by decide) (by omega) (by omega) rfl ?_
              refine tu_tp (b := ((j : Nat) : Int)) (by rw [tu_u_n _ _ (by omega), tu_u_n _ _ (by omega)]; exact hS0) ?_
              refine tu_iconst 135 X dX4_writePhrase_135 ?_
              refine tu_iadd 136 X dX4_writePhrase_136 ?_
              refine tu_iast 137 X (M' := tu_row M 87 (tu_u (tu_u (tu_u S ((40 + (3 * q)) + 1) (tu_or (S ((40 + (3 * q)) + 1)) 0)) ((40 + (3 * q)) + 2) (tu_or (S (40 + 3 * q + 2)) 0)) (40 + (3 * q)) (((j : Nat) : Int) + 1))) (40 + (3 * q)) dX4_writePhrase_137 (by decide) rfl (by decide) (by omega) (by omega) (tu_rr M 87 (tu_u (tu_u S ((40 + (3 * q)) + 1) (tu_or (S ((40 + (3 * q)) + 1)) 0)) ((40 + (3 * q)) + 2) (tu_or (S (40 + 3 * q + 2)) 0)) (tu_u (tu_u (tu_u S ((40 + (3 * q)) + 1) (tu_or (S ((40 + (3 * q)) + 1)) 0)) ((40 + (3 * q)) + 2) (tu_or (S (40 + 3 * q + 2)) 0)) (40 + (3 * q)) (((j : Nat) : Int) + 1))) ?_
              refine tu_iinc 138 X (lv' := [(3, tu_i ((((k0 + 1 + j) : Nat) : Int) + 1)), (0, tu_r 86), (1, tu_i ((k0 : Nat) : Int)), (2, tu_i (40 + (3 * ((q : Nat) : Int))))]) 3 dX4_writePhrase_138 rfl (by rw [hnl]; decide) rfl ?_
              refine tu_goto 141 X 41 dX4_writePhrase_141 (by decide) ?_
              refine tu_jmp [1, 2, 3, 0] (lv' := [(0, tu_r 86), (1, tu_i ((k0 : Nat) : Int)), (2, tu_i (40 + (3 * ((q : Nat) : Int)))), (3, tu_i (((k0 + 1 + (j + 1)) : Nat) : Int))]) ⟨rfl, rfl, rfl, tu_ei (by first | rfl | omega), trivial⟩ rfl (ih41 (j + 1) (tu_u (tu_u (tu_u S ((40 + (3 * q)) + 1) (tu_or (S ((40 + (3 * q)) + 1)) 0)) ((40 + (3 * q)) + 2) (tu_or (S (40 + 3 * q + 2)) 0)) (40 + (3 * q)) (((j : Nat) : Int) + 1)) (by omega) (by rw [tu_u_s]; omega) (by rw [tu_u_n _ _ (by omega), tu_u_n _ _ (by omega), tu_u_s]; first | exact hS1.add (by omega) (show (if M 91 (k0 + 1 + j) = 115 then (1 : Int) else 0) = 1 from if_pos (by omega)) | exact hS1.add0 (show (if M 91 (k0 + 1 + j) = 115 then (1 : Int) else 0) ≠ 1 from by rw [if_neg (by omega)]; decide)) (by rw [tu_u_n _ _ (by omega), tu_u_s]; first | exact hS2.add (by omega) (show (if M 91 (k0 + 1 + j) = 119 then (1 : Int) else 0) = 1 from if_pos (by omega)) | exact hS2.add0 (show (if M 91 (k0 + 1 + j) = 119 then (1 : Int) else 0) ≠ 1 from by rw [if_neg (by omega)]; decide)) (by intro p a1 a2 a3; rw [tu_u_n _ _ a1, tu_u_n _ _ a3, tu_u_n _ _ a2]; exact hSo p a1 a2 a3) (by rw [show tu_ps (M 91) (k0 + 1 + (j + 1)) = tu_ps (M 91) (k0 + 1 + j + 1) from rfl, tu_ps_23 (Or.inr hk2.1), hP]; exact Prod.ext rfl (show ((j : Nat) : Int) + 1 = _ from by omega)) (by exact tu_pj_next hk2.1 hP (by omega) (by omega) hV) (by omega))
            ·
              refine tu_iconst 114 X dX4_writePhrase_114 ?_
              refine tu_aload_n 115 X 0 dX4_writePhrase_115 rfl ?_
              refine tu_getR 116 X dX4_writePhrase_116 fl_RX4_7 (by decide) rfl rfl ?_
              refine tu_iload_n 119 X 2 dX4_writePhrase_119 rfl ?_
              refine tu_iald 120 X (x := (tu_u S ((40 + (3 * q)) + 1) (tu_or (S ((40 + (3 * q)) + 1)) 0)) (40 + (3 * q))) (40 + (3 * q)) dX4_writePhrase_120 (by decide) rfl (by decide) (by omega) (by omega) rfl ?_
              refine tu_tp (b := ((j : Nat) : Int)) (by rw [tu_u_n _ _ (by omega)]; exact hS0) ?_
              refine tu_ishl 121 X dX4_writePhrase_121 ?_
              refine tu_goto 122 X 126 dX4_writePhrase_122 (by decide) ?_
              refine tu_ior 126 X dX4_writePhrase_126 ?_
              refine tu_iast 127 X (M' := tu_row M 87 (tu_u (tu_u S ((40 + (3 * q)) + 1) (tu_or (S ((40 + (3 * q)) + 1)) 0)) ((40 + (3 * q)) + 2) (tu_or (S (40 + 3 * q + 2)) (tu_shl 1 ((j : Nat) : Int))))) ((40 + (3 * q)) + 2) dX4_writePhrase_127 (by decide) rfl (by decide) (by omega) (by omega) (tu_rr M 87 (tu_u S ((40 + (3 * q)) + 1) (tu_or (S ((40 + (3 * q)) + 1)) 0)) (tu_u (tu_u S ((40 + (3 * q)) + 1) (tu_or (S ((40 + (3 * q)) + 1)) 0)) ((40 + (3 * q)) + 2) (tu_or (S (40 + 3 * q + 2)) (tu_shl 1 ((j : Nat) : Int))))) ?_
              refine tu_aload_n 128 X 0 dX4_writePhrase_128 rfl ?_
              refine tu_getR 129 X dX4_writePhrase_129 fl_RX4_7 (by decide) rfl rfl ?_
              refine tu_iload_n 132 X 2 dX4_writePhrase_132 rfl ?_
              refine tu_dup2 133 X dX4_writePhrase_133 rfl rfl ?_
              refine tu_iald 134 X (x := (tu_u (tu_u S ((40 + (3 * q)) + 1) (tu_or (S ((40 + (3 * q)) + 1)) 0)) ((40 + (3 * q)) + 2) (tu_or (S (40 + 3 * q + 2)) (tu_shl 1 ((j : Nat) : Int)))) (40 + (3 * q))) (40 + (3 * q)) dX4_writePhrase_134 (by decide) rfl (by decide) (by omega) (by omega) rfl ?_
              refine tu_tp (b := ((j : Nat) : Int)) (by rw [tu_u_n _ _ (by omega), tu_u_n _ _ (by omega)]; exact hS0) ?_
              refine tu_iconst 135 X dX4_writePhrase_135 ?_
              refine tu_iadd 136 X dX4_writePhrase_136 ?_
              refine tu_iast 137 X (M' := tu_row M 87 (tu_u (tu_u (tu_u S ((40 + (3 * q)) + 1) (tu_or (S ((40 + (3 * q)) + 1)) 0)) ((40 + (3 * q)) + 2) (tu_or (S (40 + 3 * q + 2)) (tu_shl 1 ((j : Nat) : Int)))) (40 + (3 * q)) (((j : Nat) : Int) + 1))) (40 + (3 * q)) dX4_writePhrase_137 (by decide) rfl (by decide) (by omega) (by omega) (tu_rr M 87 (tu_u (tu_u S ((40 + (3 * q)) + 1) (tu_or (S ((40 + (3 * q)) + 1)) 0)) ((40 + (3 * q)) + 2) (tu_or (S (40 + 3 * q + 2)) (tu_shl 1 ((j : Nat) : Int)))) (tu_u (tu_u (tu_u S ((40 + (3 * q)) + 1) (tu_or (S ((40 + (3 * q)) + 1)) 0)) ((40 + (3 * q)) + 2) (tu_or (S (40 + 3 * q + 2)) (tu_shl 1 ((j : Nat) : Int)))) (40 + (3 * q)) (((j : Nat) : Int) + 1))) ?_
              refine tu_iinc 138 X (lv' := [(3, tu_i ((((k0 + 1 + j) : Nat) : Int) + 1)), (0, tu_r 86), (1, tu_i ((k0 : Nat) : Int)), (2, tu_i (40 + (3 * ((q : Nat) : Int))))]) 3 dX4_writePhrase_138 rfl (by rw [hnl]; decide) rfl ?_
              refine tu_goto 141 X 41 dX4_writePhrase_141 (by decide) ?_
              refine tu_jmp [1, 2, 3, 0] (lv' := [(0, tu_r 86), (1, tu_i ((k0 : Nat) : Int)), (2, tu_i (40 + (3 * ((q : Nat) : Int)))), (3, tu_i (((k0 + 1 + (j + 1)) : Nat) : Int))]) ⟨rfl, rfl, rfl, tu_ei (by first | rfl | omega), trivial⟩ rfl (ih41 (j + 1) (tu_u (tu_u (tu_u S ((40 + (3 * q)) + 1) (tu_or (S ((40 + (3 * q)) + 1)) 0)) ((40 + (3 * q)) + 2) (tu_or (S (40 + 3 * q + 2)) (tu_shl 1 ((j : Nat) : Int)))) (40 + (3 * q)) (((j : Nat) : Int) + 1)) (by omega) (by rw [tu_u_s]; omega) (by rw [tu_u_n _ _ (by omega), tu_u_n _ _ (by omega), tu_u_s]; first | exact hS1.add (by omega) (show (if M 91 (k0 + 1 + j) = 115 then (1 : Int) else 0) = 1 from if_pos (by omega)) | exact hS1.add0 (show (if M 91 (k0 + 1 + j) = 115 then (1 : Int) else 0) ≠ 1 from by rw [if_neg (by omega)]; decide)) (by rw [tu_u_n _ _ (by omega), tu_u_s]; first | exact hS2.add (by omega) (show (if M 91 (k0 + 1 + j) = 119 then (1 : Int) else 0) = 1 from if_pos (by omega)) | exact hS2.add0 (show (if M 91 (k0 + 1 + j) = 119 then (1 : Int) else 0) ≠ 1 from by rw [if_neg (by omega)]; decide)) (by intro p a1 a2 a3; rw [tu_u_n _ _ a1, tu_u_n _ _ a3, tu_u_n _ _ a2]; exact hSo p a1 a2 a3) (by rw [show tu_ps (M 91) (k0 + 1 + (j + 1)) = tu_ps (M 91) (k0 + 1 + j + 1) from rfl, tu_ps_23 (Or.inr hk2.1), hP]; exact Prod.ext rfl (show ((j : Nat) : Int) + 1 = _ from by omega)) (by exact tu_pj_next hk2.1 hP (by omega) (by omega) hV) (by omega))
          ·
            refine tu_iconst 80 X dX4_writePhrase_80 ?_
            refine tu_aload_n 81 X 0 dX4_writePhrase_81 rfl ?_
            refine tu_getR 82 X dX4_writePhrase_82 fl_RX4_7 (by decide) rfl rfl ?_
            refine tu_iload_n 85 X 2 dX4_writePhrase_85 rfl ?_
            refine tu_iald 86 X (x := S (40 + (3 * q))) (40 + (3 * q)) dX4_writePhrase_86 (by decide) rfl (by decide) (by omega) (by omega) rfl ?_
            refine tu_tp (b := ((j : Nat) : Int)) (by exact hS0) ?_
            refine tu_ishl 87 X dX4_writePhrase_87 ?_
            refine tu_goto 88 X 92 dX4_writePhrase_88 (by decide) ?_
            refine tu_ior 92 X dX4_writePhrase_92 ?_
            refine tu_iast 93 X (M' := tu_row M 87 (tu_u S ((40 + (3 * q)) + 1) (tu_or (S ((40 + (3 * q)) + 1)) (tu_shl 1 ((j : Nat) : Int))))) ((40 + (3 * q)) + 1) dX4_writePhrase_93 (by decide) rfl (by decide) (by omega) (by omega) (tu_rr M 87 S (tu_u S ((40 + (3 * q)) + 1) (tu_or (S ((40 + (3 * q)) + 1)) (tu_shl 1 ((j : Nat) : Int))))) ?_
            refine tu_aload_n 94 X 0 dX4_writePhrase_94 rfl ?_
            refine tu_getR 95 X dX4_writePhrase_95 fl_RX4_7 (by decide) rfl rfl ?_
            refine tu_iload_n 98 X 2 dX4_writePhrase_98 rfl ?_
            refine tu_iconst 99 X dX4_writePhrase_99 ?_
            refine tu_iadd 100 X dX4_writePhrase_100 ?_
            refine tu_dup2 101 X dX4_writePhrase_101 rfl rfl ?_
            refine tu_iald 102 X (x := (tu_u S ((40 + (3 * q)) + 1) (tu_or (S ((40 + (3 * q)) + 1)) (tu_shl 1 ((j : Nat) : Int)))) ((40 + (3 * q)) + 2)) ((40 + (3 * q)) + 2) dX4_writePhrase_102 (by decide) rfl (by decide) (by omega) (by omega) rfl ?_
            refine tu_tp (b := (S (40 + 3 * q + 2))) (by rw [tu_u_n _ _ (by omega)]) ?_
            refine tu_aload_n 103 X 0 dX4_writePhrase_103 rfl ?_
            refine tu_getR 104 X dX4_writePhrase_104 fl_RX4_22 (by decide) rfl rfl ?_
            refine tu_iload_n 107 X 3 dX4_writePhrase_107 rfl ?_
            refine tu_iald 108 X (x := M 91 (k0 + 1 + j)) (k0 + 1 + j) dX4_writePhrase_108 (by decide) rfl (by decide) (by omega) (by omega) rfl ?_
            refine tu_bipush 109 X dX4_writePhrase_109 (by decide) ?_
            refine tu_icmp_ne 111 X 125 dX4_writePhrase_111 (by decide) (show tu_rg (M 91 (k0 + 1 + j)) from by first | assumption | exact ⟨by omega, by omega⟩) ⟨by decide, by decide⟩ (fun br111 => ?_) (fun br111 => ?_)
            ·
              refine tu_iconst 125 X dX4_writePhrase_125 ?_
              refine tu_ior 126 X dX4_writePhrase_126 ?_
              refine tu_iast 127 X (M' := tu_row M 87 (tu_u (tu_u S ((40 + (3 * q)) + 1) (tu_or (S ((40 + (3 * q)) + 1)) (tu_shl 1 ((j : Nat) : Int)))) ((40 + (3 * q)) + 2) (tu_or (S (40 + 3 * q + 2)) 0))) ((40 + (3 * q)) + 2) dX4_writePhrase_127 (by decide) rfl (by decide) (by omega) (by omega) (tu_rr M 87 (tu_u S ((40 + (3 * q)) + 1) (tu_or (S ((40 + (3 * q)) + 1)) (tu_shl 1 ((j : Nat) : Int)))) (tu_u (tu_u S ((40 + (3 * q)) + 1) (tu_or (S ((40 + (3 * q)) + 1)) (tu_shl 1 ((j : Nat) : Int)))) ((40 + (3 * q)) + 2) (tu_or (S (40 + 3 * q + 2)) 0))) ?_
              refine tu_aload_n 128 X 0 dX4_writePhrase_128 rfl ?_
              refine tu_getR 129 X dX4_writePhrase_129 fl_RX4_7 (by decide) rfl rfl ?_
              refine tu_iload_n 132 X 2 dX4_writePhrase_132 rfl ?_
              refine tu_dup2 133 X dX4_writePhrase_133 rfl rfl ?_
              refine tu_iald 134 X (x := (tu_u (tu_u S ((40 + (3 * q)) + 1) (tu_or (S ((40 + (3 * q)) + 1)) (tu_shl 1 ((j : Nat) : Int)))) ((40 + (3 * q)) + 2) (tu_or (S (40 + 3 * q + 2)) 0)) (40 + (3 * q))) (40 + (3 * q)) dX4_writePhrase_134 (by decide) rfl (by decide) (by omega) (by omega) rfl ?_
              refine tu_tp (b := ((j : Nat) : Int)) (by rw [tu_u_n _ _ (by omega), tu_u_n _ _ (by omega)]; exact hS0) ?_
              refine tu_iconst 135 X dX4_writePhrase_135 ?_
              refine tu_iadd 136 X dX4_writePhrase_136 ?_
              refine tu_iast 137 X (M' := tu_row M 87 (tu_u (tu_u (tu_u S ((40 + (3 * q)) + 1) (tu_or (S ((40 + (3 * q)) + 1)) (tu_shl 1 ((j : Nat) : Int)))) ((40 + (3 * q)) + 2) (tu_or (S (40 + 3 * q + 2)) 0)) (40 + (3 * q)) (((j : Nat) : Int) + 1))) (40 + (3 * q)) dX4_writePhrase_137 (by decide) rfl (by decide) (by omega) (by omega) (tu_rr M 87 (tu_u (tu_u S ((40 + (3 * q)) + 1) (tu_or (S ((40 + (3 * q)) + 1)) (tu_shl 1 ((j : Nat) : Int)))) ((40 + (3 * q)) + 2) (tu_or (S (40 + 3 * q + 2)) 0)) (tu_u (tu_u (tu_u S ((40 + (3 * q)) + 1) (tu_or (S ((40 + (3 * q)) + 1)) (tu_shl 1 ((j : Nat) : Int)))) ((40 + (3 * q)) + 2) (tu_or (S (40 + 3 * q + 2)) 0)) (40 + (3 * q)) (((j : Nat) : Int) + 1))) ?_
              refine tu_iinc 138 X (lv' := [(3, tu_i ((((k0 + 1 + j) : Nat) : Int) + 1)), (0, tu_r 86), (1, tu_i ((k0 : Nat) : Int)), (2, tu_i (40 + (3 * ((q : Nat) : Int))))]) 3 dX4_writePhrase_138 rfl (by rw [hnl]; decide) rfl ?_
              refine tu_goto 141 X 41 dX4_writePhrase_141 (by decide) ?_
              refine tu_jmp [1, 2, 3, 0] (lv' := [(0, tu_r 86), (1, tu_i ((k0 : Nat) : Int)), (2, tu_i (40 + (3 * ((q : Nat) : Int)))), (3, tu_i (((k0 + 1 + (j + 1)) : Nat) : Int))]) ⟨rfl, rfl, rfl, tu_ei (by first | rfl | omega), trivial⟩ rfl (ih41 (j + 1) (tu_u (tu_u (tu_u S ((40 + (3 * q)) + 1) (tu_or (S ((40 + (3 * q)) + 1)) (tu_shl 1 ((j : Nat) : Int)))) ((40 + (3 * q)) + 2) (tu_or (S (40 + 3 * q + 2)) 0)) (40 + (3 * q)) (((j : Nat) : Int) + 1)) (by omega) (by rw [tu_u_s]; omega) (by rw [tu_u_n _ _ (by omega), tu_u_n _ _ (by omega), tu_u_s]; first | exact hS1.add (by omega) (show (if M 91 (k0 + 1 + j) = 115 then (1 : Int) else 0) = 1 from if_pos (by omega)) | exact hS1.add0 (show (if M 91 (k0 + 1 + j) = 115 then (1 : Int) else 0) ≠ 1 from by rw [if_neg (by omega)]; decide)) (by rw [tu_u_n _ _ (by omega), tu_u_s]; first | exact hS2.add (by omega) (show (if M 91 (k0 + 1 + j) = 119 then (1 : Int) else 0) = 1 from if_pos (by omega)) | exact hS2.add0 (show (if M 91 (k0 + 1 + j) = 119 then (1 : Int) else 0) ≠ 1 from by rw [if_neg (by omega)]; decide)) (by intro p a1 a2 a3; rw [tu_u_n _ _ a1, tu_u_n _ _ a3, tu_u_n _ _ a2]; exact hSo p a1 a2 a3) (by rw [show tu_ps (M 91) (k0 + 1 + (j + 1)) = tu_ps (M 91) (k0 + 1 + j + 1) from rfl, tu_ps_23 (Or.inr hk2.1), hP]; exact Prod.ext rfl (show ((j : Nat) : Int) + 1 = _ from by omega)) (by exact tu_pj_next hk2.1 hP (by omega) (by omega) hV) (by omega))
            ·
              refine tu_iconst 114 X dX4_writePhrase_114 ?_
              refine tu_aload_n 115 X 0 dX4_writePhrase_115 rfl ?_
              refine tu_getR 116 X dX4_writePhrase_116 fl_RX4_7 (by decide) rfl rfl ?_
              refine tu_iload_n 119 X 2 dX4_writePhrase_119 rfl ?_
              refine tu_iald 120 X (x := (tu_u S ((40 + (3 * q)) + 1) (tu_or (S ((40 + (3 * q)) + 1)) (tu_shl 1 ((j : Nat) : Int)))) (40 + (3 * q))) (40 + (3 * q)) dX4_writePhrase_120 (by decide) rfl (by decide) (by omega) (by omega) rfl ?_
              refine tu_tp (b := ((j : Nat) : Int)) (by rw [tu_u_n _ _ (by omega)]; exact hS0) ?_
              refine tu_ishl 121 X dX4_writePhrase_121 ?_
              refine tu_goto 122 X 126 dX4_writePhrase_122 (by decide) ?_
              refine tu_ior 126 X dX4_writePhrase_126 ?_
              refine tu_iast 127 X (M' := tu_row M 87 (tu_u (tu_u S ((40 + (3 * q)) + 1) (tu_or (S ((40 + (3 * q)) + 1)) (tu_shl 1 ((j : Nat) : Int)))) ((40 + (3 * q)) + 2) (tu_or (S (40 + 3 * q + 2)) (tu_shl 1 ((j : Nat) : Int))))) ((40 + (3 * q)) + 2) dX4_writePhrase_127 (by decide) rfl (by decide) (by omega) (by omega) (tu_rr M 87 (tu_u S ((40 + (3 * q)) + 1) (tu_or (S ((40 + (3 * q)) + 1)) (tu_shl 1 ((j : Nat) : Int)))) (tu_u (tu_u S ((40 + (3 * q)) + 1) (tu_or (S ((40 + (3 * q)) + 1)) (tu_shl 1 ((j : Nat) : Int)))) ((40 + (3 * q)) + 2) (tu_or (S (40 + 3 * q + 2)) (tu_shl 1 ((j : Nat) : Int))))) ?_
              refine tu_aload_n 128 X 0 dX4_writePhrase_128 rfl ?_
              refine tu_getR 129 X dX4_writePhrase_129 fl_RX4_7 (by decide) rfl rfl ?_
              refine tu_iload_n 132 X 2 dX4_writePhrase_132 rfl ?_
              refine tu_dup2 133 X dX4_writePhrase_133 rfl rfl ?_
              refine tu_iald 134 X (x := (tu_u (tu_u S ((40 + (3 * q)) + 1) (tu_or (S ((40 + (3 * q)) + 1)) (tu_shl 1 ((j : Nat) : Int)))) ((40 + (3 * q)) + 2) (tu_or (S (40 + 3 * q + 2)) (tu_shl 1 ((j : Nat) : Int)))) (40 + (3 * q))) (40 + (3 * q)) dX4_writePhrase_134 (by decide) rfl (by decide) (by omega) (by omega) rfl ?_
              refine tu_tp (b := ((j : Nat) : Int)) (by rw [tu_u_n _ _ (by omega), tu_u_n _ _ (by omega)]; exact hS0) ?_
              refine tu_iconst 135 X dX4_writePhrase_135 ?_
              refine tu_iadd 136 X dX4_writePhrase_136 ?_
              refine tu_iast 137 X (M' := tu_row M 87 (tu_u (tu_u (tu_u S ((40 + (3 * q)) + 1) (tu_or (S ((40 + (3 * q)) + 1)) (tu_shl 1 ((j : Nat) : Int)))) ((40 + (3 * q)) + 2) (tu_or (S (40 + 3 * q + 2)) (tu_shl 1 ((j : Nat) : Int)))) (40 + (3 * q)) (((j : Nat) : Int) + 1))) (40 + (3 * q)) dX4_writePhrase_137 (by decide) rfl (by decide) (by omega) (by omega) (tu_rr M 87 (tu_u (tu_u S ((40 + (3 * q)) + 1) (tu_or (S ((40 + (3 * q)) + 1)) (tu_shl 1 ((j : Nat) : Int)))) ((40 + (3 * q)) + 2) (tu_or (S (40 + 3 * q + 2)) (tu_shl 1 ((j : Nat) : Int)))) (tu_u (tu_u (tu_u S ((40 + (3 * q)) + 1) (tu_or (S ((40 + (3 * q)) + 1)) (tu_shl 1 ((j : Nat) : Int)))) ((40 + (3 * q)) + 2) (tu_or (S (40 + 3 * q + 2)) (tu_shl 1 ((j : Nat) : Int)))) (40 + (3 * q)) (((j : Nat) : Int) + 1))) ?_
              refine tu_iinc 138 X (lv' := [(3, tu_i ((((k0 + 1 + j) : Nat) : Int) + 1)), (0, tu_r 86), (1, tu_i ((k0 : Nat) : Int)), (2, tu_i (40 + (3 * ((q : Nat) : Int))))]) 3 dX4_writePhrase_138 rfl (by rw [hnl]; decide) rfl ?_
              refine tu_goto 141 X 41 dX4_writePhrase_141 (by decide) ?_
              refine tu_jmp [1, 2, 3, 0] (lv' := [(0, tu_r 86), (1, tu_i ((k0 : Nat) : Int)), (2, tu_i (40 + (3 * ((q : Nat) : Int)))), (3, tu_i (((k0 + 1 + (j + 1)) : Nat) : Int))]) ⟨rfl, rfl, rfl, tu_ei (by first | rfl | omega), trivial⟩ rfl (ih41 (j + 1) (tu_u (tu_u (tu_u S ((40 + (3 * q)) + 1) (tu_or (S ((40 + (3 * q)) + 1)) (tu_shl 1 ((j : Nat) : Int)))) ((40 + (3 * q)) + 2) (tu_or (S (40 + 3 * q + 2)) (tu_shl 1 ((j : Nat) : Int)))) (40 + (3 * q)) (((j : Nat) : Int) + 1)) (by omega) (by rw [tu_u_s]; omega) (by rw [tu_u_n _ _ (by omega), tu_u_n _ _ (by omega), tu_u_s]; first | exact hS1.add (by omega) (show (if M 91 (k0 + 1 + j) = 115 then (1 : Int) else 0) = 1 from if_pos (by omega)) | exact hS1.add0 (show (if M 91 (k0 + 1 + j) = 115 then (1 : Int) else 0) ≠ 1 from by rw [if_neg (by omega)]; decide)) (by rw [tu_u_n _ _ (by omega), tu_u_s]; first | exact hS2.add (by omega) (show (if M 91 (k0 + 1 + j) = 119 then (1 : Int) else 0) = 1 from if_pos (by omega)) | exact hS2.add0 (show (if M 91 (k0 + 1 + j) = 119 then (1 : Int) else 0) ≠ 1 from by rw [if_neg (by omega)]; decide)) (by intro p a1 a2 a3; rw [tu_u_n _ _ a1, tu_u_n _ _ a3, tu_u_n _ _ a2]; exact hSo p a1 a2 a3) (by rw [show tu_ps (M 91) (k0 + 1 + (j + 1)) = tu_ps (M 91) (k0 + 1 + j + 1) from rfl, tu_ps_23 (Or.inr hk2.1), hP]; exact Prod.ext rfl (show ((j : Nat) : Int) + 1 = _ from by omega)) (by exact tu_pj_next hk2.1 hP (by omega) (by omega) hV) (by omega))
  refine tu_jmp [2, 3, 1, 0] (lv' := [(0, tu_r 86), (1, tu_i ((k0 : Nat) : Int)), (2, tu_i (40 + (3 * ((q : Nat) : Int)))), (3, tu_i (((k0 + 1 + 0) : Nat) : Int))]) ⟨rfl, rfl, rfl, tu_ei (by first | rfl | omega), trivial⟩ rfl (lp41 (((M 86 6).toNat - 0) + 1) 0 (tu_u (tu_u (tu_u (M 87) (40 + (3 * q)) 0) ((40 + (3 * q)) + 1) 0) ((40 + (3 * q)) + 2) 0) (by omega) (by first | (rw [tu_u_n _ _ (by omega), tu_u_s]; rfl) | (rw [tu_u_n _ _ (by omega), tu_u_n _ _ (by omega), tu_u_s]; rfl)) (by rw [tu_u_n _ _ (by omega), tu_u_s]; exact tu_mk_0) (by rw [tu_u_s]; exact tu_mk_0) (by intro p a1 a2 a3; rw [tu_u_n _ _ a3, tu_u_n _ _ a2, tu_u_n _ _ a1]) (by exact tu_ps_1 hk9) (by exact tu_pj_first hk9) (by omega))
