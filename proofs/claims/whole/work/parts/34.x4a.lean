set_option maxRecDepth 20000 in
set_option maxHeartbeats 4000000 in
theorem c_X4_within {M : tu_M} (a b c : Int) (ra : tu_rg a) (rb : tu_rg b) (rc : tu_rg c) : tu_MI tu_Y_X4_within [tu_i a, tu_i b, tu_i c] M (fun z M' => M' = M ∧ z = tu_b (b ≤ a ∧ a ≤ c)) := by
  refine tu_MI.of (ty := .boolean) (by decide) rfl (by first | exact Or.inl rfl | exact Or.inr rfl) (Nat.le_of_ble_eq_true rfl) (fun T (X : tu_X T cX4_within RX4 0 0) hnl hrt hret => ?_)
  have hret : tu_RI T cX4_within (fun z M' => M' = M ∧ z = tu_b (b ≤ a ∧ a ≤ c)) := hret
  have hnl : T.2.2.2.2.2.2.2.2.2.2.1 = 3 := hnl
  show tu_W T 0 [(0, tu_i a), (1, tu_i b), (2, tu_i c)] [] M
  refine tu_iload_n 0 X 0 dX4_within_0 rfl ?_
  refine tu_iload_n 1 X 1 dX4_within_1 rfl ?_
  refine tu_icmp_lt 2 X 14 dX4_within_2 (by decide) (show tu_rg a from by first | assumption | exact ⟨by omega, by omega⟩) (show tu_rg b from by first | assumption | exact ⟨by omega, by omega⟩) (fun br2 => ?_) (fun br2 => ?_)
  ·
    refine tu_iconst 14 X dX4_within_14 ?_
    refine hret 15 _ _ 0 dX4_within_15 (fun _ => Or.inl rfl) ?_
    exact ⟨rfl, (tu_b0 (by omega)).symm⟩
  ·
    refine tu_iload_n 5 X 0 dX4_within_5 rfl ?_
    refine tu_iload_n 6 X 2 dX4_within_6 rfl ?_
    refine tu_icmp_gt 7 X 14 dX4_within_7 (by decide) (show tu_rg a from by first | assumption | exact ⟨by omega, by omega⟩) (show tu_rg c from by first | assumption | exact ⟨by omega, by omega⟩) (fun br7 => ?_) (fun br7 => ?_)
    ·
      refine tu_iconst 14 X dX4_within_14 ?_
      refine hret 15 _ _ 0 dX4_within_15 (fun _ => Or.inl rfl) ?_
      exact ⟨rfl, (tu_b0 (by omega)).symm⟩
    ·
      refine tu_iconst 10 X dX4_within_10 ?_
      refine tu_goto 11 X 15 dX4_within_11 (by decide) ?_
      refine hret 15 _ _ 1 dX4_within_15 (fun _ => Or.inr rfl) ?_
      exact ⟨rfl, (tu_b1 (by omega)).symm⟩
set_option maxRecDepth 20000 in
set_option maxHeartbeats 4000000 in
theorem c_X4_has {M : tu_M} (c : Int) (s : Nat) (hs : s < 32) : tu_MI tu_Y_X4_has [tu_i c, tu_i ((s : Nat) : Int)] M (fun z M' => M' = M ∧ z = tu_b (tu_bi c s = 1)) := by
  have hb := tu_bi_01 c s
  refine tu_MI.of (ty := .boolean) (by decide) rfl (by first | exact Or.inl rfl | exact Or.inr rfl) (Nat.le_of_ble_eq_true rfl) (fun T (X : tu_X T cX4_has RX4 0 0) hnl hrt hret => ?_)
  have hret : tu_RI T cX4_has (fun z M' => M' = M ∧ z = tu_b (tu_bi c s = 1)) := hret
  have hnl : T.2.2.2.2.2.2.2.2.2.2.1 = 2 := hnl
  show tu_W T 0 [(0, tu_i c), (1, tu_i ((s : Nat) : Int))] [] M
  refine tu_iload_n 0 X 0 dX4_has_0 rfl ?_
  refine tu_iload_n 1 X 1 dX4_has_1 rfl ?_
  refine tu_ishr 2 X dX4_has_2 ?_
  refine tu_iconst 3 X dX4_has_3 ?_
  refine tu_iand 4 X dX4_has_4 ?_
  refine tu_tp (b := (tu_bi c s)) (by exact tu_bit1 _ hs) ?_
  refine tu_iconst 5 X dX4_has_5 ?_
  refine tu_icmp_ne 6 X 13 dX4_has_6 (by decide) (show tu_rg (tu_bi c s) from by first | assumption | exact ⟨by omega, by omega⟩) ⟨by decide, by decide⟩ (fun br6 => ?_) (fun br6 => ?_)
  ·
    refine tu_iconst 13 X dX4_has_13 ?_
    refine hret 14 _ _ 0 dX4_has_14 (fun _ => Or.inl rfl) ?_
    exact ⟨rfl, (tu_b0 (by omega)).symm⟩
  ·
    refine tu_iconst 9 X dX4_has_9 ?_
    refine tu_goto 10 X 14 dX4_has_10 (by decide) ?_
    refine hret 14 _ _ 1 dX4_has_14 (fun _ => Or.inr rfl) ?_
    exact ⟨rfl, (tu_b1 (by omega)).symm⟩
set_option maxRecDepth 20000 in
set_option maxHeartbeats 4000000 in
theorem c_X4_bits {M : tu_M} (c : Int)  : tu_MI tu_Y_X4_bits [tu_i c] M (fun z M' => M' = M ∧ z = tu_sm (fun i9 => tu_bi c i9) 24) := by
  refine tu_MI.of (ty := .int) (by decide) rfl (by first | exact Or.inl rfl | exact Or.inr rfl) (Nat.le_of_ble_eq_true rfl) (fun T (X : tu_X T cX4_bits RX4 0 0) hnl hrt hret => ?_)
  have hret : tu_RI T cX4_bits (fun z M' => M' = M ∧ z = tu_sm (fun i9 => tu_bi c i9) 24) := hret
  have hnl : T.2.2.2.2.2.2.2.2.2.2.1 = 3 := hnl
  show tu_W T 0 [(0, tu_i c)] [] M
  refine tu_iconst 0 X dX4_bits_0 ?_
  refine tu_istore_n 1 X (lv' := [(1, tu_i 0), (0, tu_i c)]) dX4_bits_1 (by rw [hnl]; decide) rfl ?_
  refine tu_iconst 2 X dX4_bits_2 ?_
  refine tu_istore_n 3 X (lv' := [(2, tu_i 0), (1, tu_i 0), (0, tu_i c)]) dX4_bits_3 (by rw [hnl]; decide) rfl ?_
  have lp4 : ∀ (nq : Nat) (k : Nat), (k ≤ 24) → 24 - k < nq → tu_W T 4 [(0, tu_i c), (1, tu_i (tu_sm (fun i9 => tu_bi c i9) k)), (2, tu_i ((k : Nat) : Int))] [] M := by
    intro nq
    induction nq with
    | zero => intros; omega
    | succ nq ih4 =>
      intro k hk hn4
      refine tu_iload_n 4 X 2 dX4_bits_4 rfl ?_
      refine tu_bipush 5 X dX4_bits_5 (by decide) ?_
      refine tu_icmp_ge 7 X 24 dX4_bits_7 (by decide) (show tu_rg ((k : Nat) : Int) from by first | assumption | exact ⟨by omega, by omega⟩) ⟨by decide, by decide⟩ (fun br7 => ?_) (fun br7 => ?_)
      ·
        refine tu_iload_n 24 X 1 dX4_bits_24 rfl ?_
        refine hret 25 _ _ (tu_sm (fun i9 => tu_bi c i9) k) dX4_bits_25 (fun h => by rw [hrt] at h; cases h) ?_
        have ek : k = 24 := by omega
        subst ek
        exact ⟨rfl, rfl⟩
      ·
        refine tu_iload_n 10 X 1 dX4_bits_10 rfl ?_
        refine tu_iload_n 11 X 0 dX4_bits_11 rfl ?_
        refine tu_iload_n 12 X 2 dX4_bits_12 rfl ?_
        refine tu_ishr 13 X dX4_bits_13 ?_
        refine tu_iconst 14 X dX4_bits_14 ?_
        refine tu_iand 15 X dX4_bits_15 ?_
        refine tu_tp (b := (tu_bi c k)) (by exact tu_bit1 _ (by omega)) ?_
        refine tu_iadd 16 X dX4_bits_16 ?_
        refine tu_istore_n 17 X (lv' := [(1, tu_i (tu_sm (fun i9 => tu_bi c i9) k + (tu_bi c k))), (0, tu_i c), (2, tu_i ((k : Nat) : Int))]) dX4_bits_17 (by rw [hnl]; decide) rfl ?_
        refine tu_iinc 18 X (lv' := [(2, tu_i (((k : Nat) : Int) + 1)), (1, tu_i (tu_sm (fun i9 => tu_bi c i9) k + (tu_bi c k))), (0, tu_i c)]) 2 dX4_bits_18 rfl (by rw [hnl]; decide) rfl ?_
        refine tu_goto 21 X 4 dX4_bits_21 (by decide) ?_
        refine tu_jmp [2, 1, 0] (lv' := [(0, tu_i c), (1, tu_i (tu_sm (fun i9 => tu_bi c i9) (k + 1))), (2, tu_i (((k + 1) : Nat) : Int))]) ⟨rfl, tu_ei (by first | rfl | omega), tu_ei (by first | rfl | omega), trivial⟩ rfl (ih4 (k + 1) (by first | assumption | omega) (by omega))
  refine tu_jmp [2, 1, 0] (lv' := [(0, tu_i c), (1, tu_i (tu_sm (fun i9 => tu_bi c i9) 0)), (2, tu_i 0)]) ⟨rfl, tu_ei (by first | rfl | omega), rfl, trivial⟩ rfl (lp4 ((24 - 0) + 1) 0 (by first | assumption | omega) (by omega))
set_option maxRecDepth 20000 in
set_option maxHeartbeats 4000000 in
theorem c_X4_moves_87_88 {M : tu_M} (u v : Nat) (hu : u + 112 ≤ 112) (hv : v + 112 ≤ 672) : tu_MV tu_Y_X4_moves [tu_r 87, tu_i ((u : Nat) : Int), tu_r 88, tu_i ((v : Nat) : Int)] M (fun M' => M' = tu_row M 88 (tu_ml (M 87) (M 88) u v 112)) := by
  refine tu_MV.of (by decide) rfl (Nat.le_of_ble_eq_true rfl) (fun T (X : tu_X T cX4_moves RX4 0 0) hnl hret => ?_)
  have hret : tu_RV T cX4_moves (fun M' => M' = tu_row M 88 (tu_ml (M 87) (M 88) u v 112)) := hret
  have hnl : T.2.2.2.2.2.2.2.2.2.2.1 = 5 := hnl
  show tu_W T 0 [(0, tu_r 87), (1, tu_i ((u : Nat) : Int)), (2, tu_r 88), (3, tu_i ((v : Nat) : Int))] [] M
  refine tu_iconst 0 X dX4_moves_0 ?_
  refine tu_istore 1 X (lv' := [(4, tu_i 0), (0, tu_r 87), (1, tu_i ((u : Nat) : Int)), (2, tu_r 88), (3, tu_i ((v : Nat) : Int))]) dX4_moves_1 (by rw [hnl]; decide) rfl ?_
  refine tu_st_eq rfl (M' := tu_row M 88 (M 88)) ((tu_rx M 88).symm) ?_
  have lp3 : ∀ (nq : Nat) (k : Nat), (k ≤ 112) → 112 - k < nq → tu_W T 3 [(0, tu_r 87), (1, tu_i ((u : Nat) : Int)), (2, tu_r 88), (3, tu_i ((v : Nat) : Int)), (4, tu_i ((k : Nat) : Int))] [] (tu_row M 88 (tu_ml (M 87) (M 88) u v k)) := by
    intro nq
    induction nq with
    | zero => intros; omega
    | succ nq ih3 =>
      intro k hk hn3
      refine tu_iload 3 X 4 dX4_moves_3 rfl ?_
      refine tu_bipush 5 X dX4_moves_5 (by decide) ?_
      refine tu_icmp_ge 7 X 28 dX4_moves_7 (by decide) (show tu_rg ((k : Nat) : Int) from by first | assumption | exact ⟨by omega, by omega⟩) ⟨by decide, by decide⟩ (fun br7 => ?_) (fun br7 => ?_)
      ·
        refine hret 28 _ _ dX4_moves_28 ?_
        have ek : k = 112 := by omega
        subst ek
        exact rfl
      ·
        refine tu_aload_n 10 X 2 dX4_moves_10 rfl ?_
        refine tu_iload_n 11 X 3 dX4_moves_11 rfl ?_
        refine tu_iload 12 X 4 dX4_moves_12 rfl ?_
        refine tu_iadd 14 X dX4_moves_14 ?_
        refine tu_aload_n 15 X 0 dX4_moves_15 rfl ?_
        refine tu_iload_n 16 X 1 dX4_moves_16 rfl ?_
        refine tu_iload 17 X 4 dX4_moves_17 rfl ?_
        refine tu_iadd 19 X dX4_moves_19 ?_
        refine tu_iald 20 X (x := M 87 (u + k)) (u + k) dX4_moves_20 (by decide) rfl (by decide) (by omega) (by omega) rfl ?_
        refine tu_iast 21 X (M' := tu_row M 88 (tu_u (tu_ml (M 87) (M 88) u v k) (v + k) (M 87 (u + k)))) (v + k) dX4_moves_21 (by decide) rfl (by decide) (by omega) (by omega) (tu_rr M 88 (tu_ml (M 87) (M 88) u v k) (tu_u (tu_ml (M 87) (M 88) u v k) (v + k) (M 87 (u + k)))) ?_
        refine tu_iinc 22 X (lv' := [(4, tu_i (((k : Nat) : Int) + 1)), (0, tu_r 87), (1, tu_i ((u : Nat) : Int)), (2, tu_r 88), (3, tu_i ((v : Nat) : Int))]) 4 dX4_moves_22 rfl (by rw [hnl]; decide) rfl ?_
        refine tu_goto 25 X 3 dX4_moves_25 (by decide) ?_
        refine tu_jmp [1, 2, 3, 4, 0] (lv' := [(0, tu_r 87), (1, tu_i ((u : Nat) : Int)), (2, tu_r 88), (3, tu_i ((v : Nat) : Int)), (4, tu_i (((k + 1) : Nat) : Int))]) ⟨rfl, rfl, rfl, rfl, tu_ei (by first | rfl | omega), trivial⟩ rfl (ih3 (k + 1) (by first | assumption | omega) (by omega))
  refine tu_jmp [1, 2, 3, 4, 0] (lv' := [(0, tu_r 87), (1, tu_i ((u : Nat) : Int)), (2, tu_r 88), (3, tu_i ((v : Nat) : Int)), (4, tu_i 0)]) ⟨rfl, rfl, rfl, rfl, rfl, trivial⟩ rfl (lp3 ((112 - 0) + 1) 0 (by first | assumption | omega) (by omega))
set_option maxRecDepth 20000 in
set_option maxHeartbeats 4000000 in
theorem c_X4_moves_88_87 {M : tu_M} (u v : Nat) (hu : u + 112 ≤ 672) (hv : v + 112 ≤ 112) : tu_MV tu_Y_X4_moves [tu_r 88, tu_i ((u : Nat) : Int), tu_r 87, tu_i ((v : Nat) : Int)] M (fun M' => M' = tu_row M 87 (tu_ml (M 88) (M 87) u v 112)) := by
  refine tu_MV.of (by decide) rfl (Nat.le_of_ble_eq_true rfl) (fun T (X : tu_X T cX4_moves RX4 0 0) hnl hret => ?_)
  have hret : tu_RV T cX4_moves (fun M' => M' = tu_row M 87 (tu_ml (M 88) (M 87) u v 112)) := hret
  have hnl : T.2.2.2.2.2.2.2.2.2.2.1 = 5 := hnl
  show tu_W T 0 [(0, tu_r 88), (1, tu_i ((u : Nat) : Int)), (2, tu_r 87), (3, tu_i ((v : Nat) : Int))] [] M
  refine tu_iconst 0 X dX4_moves_0 ?_
  refine tu_istore 1 X (lv' := [(4, tu_i 0), (0, tu_r 88), (1, tu_i ((u : Nat) : Int)), (2, tu_r 87), (3, tu_i ((v : Nat) : Int))]) dX4_moves_1 (by rw [hnl]; decide) rfl ?_
  refine tu_st_eq rfl (M' := tu_row M 87 (M 87)) ((tu_rx M 87).symm) ?_
  have lp3 : ∀ (nq : Nat) (k : Nat), (k ≤ 112) → 112 - k < nq → tu_W T 3 [(0, tu_r 88), (1, tu_i ((u : Nat) : Int)), (2, tu_r 87), (3, tu_i ((v : Nat) : Int)), (4, tu_i ((k : Nat) : Int))] [] (tu_row M 87 (tu_ml (M 88) (M 87) u v k)) := by
    intro nq
    induction nq with
    | zero => intros; omega
    | succ nq ih3 =>
      intro k hk hn3
      refine tu_iload 3 X 4 dX4_moves_3 rfl ?_
      refine tu_bipush 5 X dX4_moves_5 (by decide) ?_
      refine tu_icmp_ge 7 X 28 dX4_moves_7 (by decide) (show tu_rg ((k : Nat) : Int) from by first | assumption | exact ⟨by omega, by omega⟩) ⟨by decide, by decide⟩ (fun br7 => ?_) (fun br7 => ?_)
      ·
        refine hret 28 _ _ dX4_moves_28 ?_
        have ek : k = 112 := by omega
        subst ek
        exact rfl
      ·
        refine tu_aload_n 10 X 2 dX4_moves_10 rfl ?_
        refine tu_iload_n 11 X 3 dX4_moves_11 rfl ?_
        refine tu_iload 12 X 4 dX4_moves_12 rfl ?_
        refine tu_iadd 14 X dX4_moves_14 ?_
        refine tu_aload_n 15 X 0 dX4_moves_15 rfl ?_
        refine tu_iload_n 16 X 1 dX4_moves_16 rfl ?_
        refine tu_iload 17 X 4 dX4_moves_17 rfl ?_
        refine tu_iadd 19 X dX4_moves_19 ?_
        refine tu_iald 20 X (x := M 88 (u + k)) (u + k) dX4_moves_20 (by decide) rfl (by decide) (by omega) (by omega) rfl ?_
        refine tu_iast 21 X (M' := tu_row M 87 (tu_u (tu_ml (M 88) (M 87) u v k) (v + k) (M 88 (u + k)))) (v + k) dX4_moves_21 (by decide) rfl (by decide) (by omega) (by omega) (tu_rr M 87 (tu_ml (M 88) (M 87) u v k) (tu_u (tu_ml (M 88) (M 87) u v k) (v + k) (M 88 (u + k)))) ?_
        refine tu_iinc 22 X (lv' := [(4, tu_i (((k : Nat) : Int) + 1)), (0, tu_r 88), (1, tu_i ((u : Nat) : Int)), (2, tu_r 87), (3, tu_i ((v : Nat) : Int))]) 4 dX4_moves_22 rfl (by rw [hnl]; decide) rfl ?_
        refine tu_goto 25 X 3 dX4_moves_25 (by decide) ?_
        refine tu_jmp [1, 2, 3, 4, 0] (lv' := [(0, tu_r 88), (1, tu_i ((u : Nat) : Int)), (2, tu_r 87), (3, tu_i ((v : Nat) : Int)), (4, tu_i (((k + 1) : Nat) : Int))]) ⟨rfl, rfl, rfl, rfl, tu_ei (by first | rfl | omega), trivial⟩ rfl (ih3 (k + 1) (by first | assumption | omega) (by omega))
  refine tu_jmp [1, 2, 3, 4, 0] (lv' := [(0, tu_r 88), (1, tu_i ((u : Nat) : Int)), (2, tu_r 87), (3, tu_i ((v : Nat) : Int)), (4, tu_i 0)]) ⟨rfl, rfl, rfl, rfl, rfl, trivial⟩ rfl (lp3 ((112 - 0) + 1) 0 (by first | assumption | omega) (by omega))
set_option maxRecDepth 20000 in
set_option maxHeartbeats 4000000 in
theorem c_X4_moves_87_89 {M : tu_M} (u v : Nat) (hu : u + 112 ≤ 112) (hv : v + 112 ≤ 224) : tu_MV tu_Y_X4_moves [tu_r 87, tu_i ((u : Nat) : Int), tu_r 89, tu_i ((v : Nat) : Int)] M (fun M' => M' = tu_row M 89 (tu_ml (M 87) (M 89) u v 112)) := by
  refine tu_MV.of (by decide) rfl (Nat.le_of_ble_eq_true rfl) (fun T (X : tu_X T cX4_moves RX4 0 0) hnl hret => ?_)
  have hret : tu_RV T cX4_moves (fun M' => M' = tu_row M 89 (tu_ml (M 87) (M 89) u v 112)) := hret
  have hnl : T.2.2.2.2.2.2.2.2.2.2.1 = 5 := hnl
  show tu_W T 0 [(0, tu_r 87), (1, tu_i ((u : Nat) : Int)), (2, tu_r 89), (3, tu_i ((v : Nat) : Int))] [] M
  refine tu_iconst 0 X dX4_moves_0 ?_
  refine tu_istore 1 X (lv' := [(4, tu_i 0), (0, tu_r 87), (1, tu_i ((u : Nat) : Int)), (2, tu_r 89), (3, tu_i ((v : Nat) : Int))]) dX4_moves_1 (by rw [hnl]; decide) rfl ?_
  refine tu_st_eq rfl (M' := tu_row M 89 (M 89)) ((tu_rx M 89).symm) ?_
  have lp3 : ∀ (nq : Nat) (k : Nat), (k ≤ 112) → 112 - k < nq → tu_W T 3 [(0, tu_r 87), (1, tu_i ((u : Nat) : Int)), (2, tu_r 89), (3, tu_i ((v : Nat) : Int)), (4, tu_i ((k : Nat) : Int))] [] (tu_row M 89 (tu_ml (M 87) (M 89) u v k)) := by
    intro nq
    induction nq with
    | zero => intros; omega
    | succ nq ih3 =>
      intro k hk hn3
      refine tu_iload 3 X 4 dX4_moves_3 rfl ?_
      refine tu_bipush 5 X dX4_moves_5 (by decide) ?_
      refine tu_icmp_ge 7 X 28 dX4_moves_7 (by decide) (show tu_rg ((k : Nat) : Int) from by first | assumption | exact ⟨by omega, by omega⟩) ⟨by decide, by decide⟩ (fun br7 => ?_) (fun br7 => ?_)
      ·
        refine hret 28 _ _ dX4_moves_28 ?_
        have ek : k = 112 := by omega
        subst ek
        exact rfl
      ·
        refine tu_aload_n 10 X 2 dX4_moves_10 rfl ?_
        refine tu_iload_n 11 X 3 dX4_moves_11 rfl ?_
        refine tu_iload 12 X 4 dX4_moves_12 rfl ?_
        refine tu_iadd 14 X dX4_moves_14 ?_
        refine tu_aload_n 15 X 0 dX4_moves_15 rfl ?_
        refine tu_iload_n 16 X 1 dX4_moves_16 rfl ?_
        refine tu_iload 17 X 4 dX4_moves_17 rfl ?_
        refine tu_iadd 19 X dX4_moves_19 ?_
        refine tu_iald 20 X (x := M 87 (u + k)) (u + k) dX4_moves_20 (by decide) rfl (by decide) (by omega) (by omega) rfl ?_
        refine tu_iast 21 X (M' := tu_row M 89 (tu_u (tu_ml (M 87) (M 89) u v k) (v + k) (M 87 (u + k)))) (v + k) dX4_moves_21 (by decide) rfl (by decide) (by omega) (by omega) (tu_rr M 89 (tu_ml (M 87) (M 89) u v k) (tu_u (tu_ml (M 87) (M 89) u v k) (v + k) (M 87 (u + k)))) ?_
        refine tu_iinc 22 X (lv' := [(4, tu_i (((k : Nat) : Int) + 1)), (0, tu_r 87), (1, tu_i ((u : Nat) : Int)), (2, tu_r 89), (3, tu_i ((v : Nat) : Int))]) 4 dX4_moves_22 rfl (by rw [hnl]; decide) rfl ?_
        refine tu_goto 25 X 3 dX4_moves_25 (by decide) ?_
        refine tu_jmp [1, 2, 3, 4, 0] (lv' := [(0, tu_r 87), (1, tu_i ((u : Nat) : Int)), (2, tu_r 89), (3, tu_i ((v : Nat) : Int)), (4, tu_i (((k + 1) : Nat) : Int))]) ⟨rfl, rfl, rfl, rfl, tu_ei (by first | rfl | omega), trivial⟩ rfl (ih3 (k + 1) (by first | assumption | omega) (by omega))
  refine tu_jmp [1, 2, 3, 4, 0] (lv' := [(0, tu_r 87), (1, tu_i ((u : Nat) : Int)), (2, tu_r 89), (3, tu_i ((v : Nat) : Int)), (4, tu_i 0)]) ⟨rfl, rfl, rfl, rfl, rfl, trivial⟩ rfl (lp3 ((112 - 0) + 1) 0 (by first | assumption | omega) (by omega))
set_option maxRecDepth 20000 in
set_option maxHeartbeats 4000000 in
theorem c_X4_moves_89_87 {M : tu_M} (u v : Nat) (hu : u + 112 ≤ 224) (hv : v + 112 ≤ 112) : tu_MV tu_Y_X4_moves [tu_r 89, tu_i ((u : Nat) : Int), tu_r 87, tu_i ((v : Nat) : Int)] M (fun M' => M' = tu_row M 87 (tu_ml (M 89) (M 87) u v 112)) := by
  refine tu_MV.of (by decide) rfl (Nat.le_of_ble_eq_true rfl) (fun T (X : tu_X T cX4_moves RX4 0 0) hnl hret => ?_)
  have hret : tu_RV T cX4_moves (fun M' => M' = tu_row M 87 (tu_ml (M 89) (M 87) u v 112)) := hret
  have hnl : T.2.2.2.2.2.2.2.2.2.2.1 = 5 := hnl
  show tu_W T 0 [(0, tu_r 89), (1, tu_i ((u : Nat) : Int)), (2, tu_r 87), (3, tu_i ((v : Nat) : Int))] [] M
  refine tu_iconst 0 X dX4_moves_0 ?_
  refine tu_istore 1 X (lv' := [(4, tu_i 0), (0, tu_r 89), (1, tu_i ((u : Nat) : Int)), (2, tu_r 87), (3, tu_i ((v : Nat) : Int))]) dX4_moves_1 (by rw [hnl]; decide) rfl ?_
  refine tu_st_eq rfl (M' := tu_row M 87 (M 87)) ((tu_rx M 87).symm) ?_
  have lp3 : ∀ (nq : Nat) (k : Nat), (k ≤ 112) → 112 - k < nq → tu_W T 3 [(0, tu_r 89), (1, tu_i ((u : Nat) : Int)), (2, tu_r 87), (3, tu_i ((v : Nat) : Int)), (4, tu_i ((k : Nat) : Int))] [] (tu_row M 87 (tu_ml (M 89) (M 87) u v k)) := by
    intro nq
    induction nq with
    | zero => intros; omega
    | succ nq ih3 =>
      intro k hk hn3
      refine tu_iload 3 X 4 dX4_moves_3 rfl ?_
      refine tu_bipush 5 X dX4_moves_5 (by decide) ?_
      refine tu_icmp_ge 7 X 28 dX4_moves_7 (by decide) (show tu_rg ((k : Nat) : Int) from by first | assumption | exact ⟨by omega, by omega⟩) ⟨by decide, by decide⟩ (fun br7 => ?_) (fun br7 => ?_)
      ·
        refine hret 28 _ _ dX4_moves_28 ?_
        have ek : k = 112 := by omega
        subst ek
        exact rfl
      ·
        refine tu_aload_n 10 X 2 dX4_moves_10 rfl ?_
        refine tu_iload_n 11 X 3 dX4_moves_11 rfl ?_
        refine tu_iload 12 X 4 dX4_moves_12 rfl ?_
        refine tu_iadd 14 X dX4_moves_14 ?_
        refine tu_aload_n 15 X 0 dX4_moves_15 rfl ?_
        refine tu_iload_n 16 X 1 dX4_moves_16 rfl ?_
        refine tu_iload 17 X 4 dX4_moves_17 rfl ?_
        refine tu_iadd 19 X dX4_moves_19 ?_
        refine tu_iald 20 X (x := M 89 (u + k)) (u + k) dX4_moves_20 (by decide) rfl (by decide) (by omega) (by omega) rfl ?_
        refine tu_iast 21 X (M' := tu_row M 87 (tu_u (tu_ml (M 89) (M 87) u v k) (v + k) (M 89 (u + k)))) (v + k) dX4_moves_21 (by decide) rfl (by decide) (by omega) (by omega) (tu_rr M 87 (tu_ml (M 89) (M 87) u v k) (tu_u (tu_ml (M 89) (M 87) u v k) (v + k) (M 89 (u + k)))) ?_
        refine tu_iinc 22 X (lv' := [(4, tu_i (((k : Nat) : Int) + 1)), (0, tu_r 89), (1, tu_i ((u : Nat) : Int)), (2, tu_r 87), (3, tu_i ((v : Nat) : Int))]) 4 dX4_moves_22 rfl (by rw [hnl]; decide) rfl ?_
        refine tu_goto 25 X 3 dX4_moves_25 (by decide) ?_
        refine tu_jmp [1, 2, 3, 4, 0] (lv' := [(0, tu_r 89), (1, tu_i ((u : Nat) : Int)), (2, tu_r 87), (3, tu_i ((v : Nat) : Int)), (4, tu_i (((k + 1) : Nat) : Int))]) ⟨rfl, rfl, rfl, rfl, tu_ei (by first | rfl | omega), trivial⟩ rfl (ih3 (k + 1) (by first | assumption | omega) (by omega))
  refine tu_jmp [1, 2, 3, 4, 0] (lv' := [(0, tu_r 89), (1, tu_i ((u : Nat) : Int)), (2, tu_r 87), (3, tu_i ((v : Nat) : Int)), (4, tu_i 0)]) ⟨rfl, rfl, rfl, rfl, rfl, trivial⟩ rfl (lp3 ((112 - 0) + 1) 0 (by first | assumption | omega) (by omega))
set_option maxRecDepth 20000 in
set_option maxHeartbeats 4000000 in
theorem c_X4_record {M : tu_M}  (hh : 0 ≤ M 86 2 ∧ M 86 2 ≤ 6) : tu_MV tu_Y_X4_record [tu_r 86] M (fun M' => M' = tu_row (tu_row M 86 (tu_u (M 86) 2 (tu_mw (M 86 2)))) 88 (tu_mq (M 88) (M 87) (M 86 2))) := by
  refine tu_MV.of (by decide) rfl (Nat.le_of_ble_eq_true rfl) (fun T (X : tu_X T cX4_record RX4 1 24) hnl hret => ?_)
  have hret : tu_RV T cX4_record (fun M' => M' = tu_row (tu_row M 86 (tu_u (M 86) 2 (tu_mw (M 86 2)))) 88 (tu_mq (M 88) (M 87) (M 86 2))) := hret
  have hnl : T.2.2.2.2.2.2.2.2.2.2.1 = 2 := hnl
  show tu_W T 0 [(0, tu_r 86)] [] M
  refine tu_st_eq rfl (M' := tu_row M 86 (M 86)) ((tu_rx M 86).symm) ?_
  refine tu_st_eq rfl (M' := tu_row (tu_row M 86 (M 86)) 88 (M 88)) ((congrArg (fun m => tu_row m 86 (M 86)) ((tu_rx M 88).symm)).trans (tu_rc M (M 88) (M 86) rfl)) ?_
  have lp49 : ∀ (h9 : Nat) (f9 : Nat → Int), ((M 86 2 = 6 ∧ h9 = 5 ∧ f9 = tu_ml (M 88) (M 88) 112 0 560) ∨ (M 86 2 < 6 ∧ M 86 2 = ((h9 : Nat) : Int) ∧ f9 = M 88)) → tu_W T 49 [(0, tu_r 86)] [] (tu_row (tu_row M 86 (tu_u (M 86) 2 ((h9 : Nat) : Int))) 88 f9) := by
      intro h9 f9 jc
      refine tu_aload_n 49 X 0 dX4_record_49 rfl ?_
      refine tu_getR 50 X dX4_record_50 fl_RX4_7 (by decide) rfl rfl ?_
      refine tu_iconst 53 X dX4_record_53 ?_
      refine tu_aload_n 54 X 0 dX4_record_54 rfl ?_
      refine tu_getR 55 X dX4_record_55 fl_RX4_13 (by decide) rfl rfl ?_
      refine tu_aload_n 58 X 0 dX4_record_58 rfl ?_
      refine tu_getI 59 X (x := (tu_u (M 86) 2 ((h9 : Nat) : Int)) 2) dX4_record_59 fl_RX4_40 (by decide) rfl rfl rfl ?_
      refine tu_tp (b := ((h9 : Nat) : Int)) (by rw [tu_u_s]) ?_
      refine tu_bipush 62 X dX4_record_62 (by decide) ?_
      refine tu_imul 64 X dX4_record_64 ?_
      refine tu_st_eq (show _ = [tu_i (((h9 * 112) : Nat) : Int), tu_r 88, tu_i ((0 : Nat) : Int), tu_r 87] from by first | rfl | (simp only [List.cons.injEq, Sum.inl.injEq, and_true, true_and]; omega)) rfl ?_
      refine tu_callSV 65 X (st := []) (as := [tu_r 87, tu_i ((0 : Nat) : Int), tu_r 88, tu_i (((h9 * 112) : Nat) : Int)]) (c_X4_moves_87_88 0 (h9 * 112) (show 0 + 112 ≤ 112 from by first | assumption | omega | exact ⟨by omega, by omega⟩ | decide) (show (h9 * 112) + 112 ≤ 672 from by first | assumption | omega | exact ⟨by omega, by omega⟩ | decide)) ss_RX4_44 dX4_record_65 rfl (Nat.le_of_ble_eq_true rfl) ⟨by decide, by decide⟩ (fun M' h => ?_)
      have hM65 := h
      refine tu_st_eq rfl (M' := tu_row (tu_row M 86 (tu_u (M 86) 2 ((h9 : Nat) : Int))) 88 (tu_ml (M 87) (f9) 0 (h9 * 112) 112)) (hM65.trans (tu_rr (tu_row M 86 (tu_u (M 86) 2 ((h9 : Nat) : Int))) 88 f9 (tu_ml (M 87) (f9) 0 (h9 * 112) 112))) ?_
      refine tu_aload_n 68 X 0 dX4_record_68 rfl ?_
      refine tu_dup 69 X dX4_record_69 rfl ?_
      refine tu_getI 70 X (x := (tu_u (M 86) 2 ((h9 : Nat) : Int)) 2) dX4_record_70 fl_RX4_40 (by decide) rfl rfl rfl ?_
      refine tu_tp (b := ((h9 : Nat) : Int)) (by rw [tu_u_s]) ?_
      refine tu_iconst 73 X dX4_record_73 ?_
      refine tu_iadd 74 X dX4_record_74 ?_
      refine tu_putI 75 X (M' := tu_row (tu_row M 86 (tu_u (tu_u (M 86) 2 ((h9 : Nat) : Int)) 2 (((h9 : Nat) : Int) + 1))) 88 (tu_ml (M 87) (f9) 0 (h9 * 112) 112)) dX4_record_75 fp_RX4_40 (by decide) rfl rfl ((tu_rc (tu_row M 86 (tu_u (M 86) 2 ((h9 : Nat) : Int))) (tu_ml (M 87) (f9) 0 (h9 * 112) 112) (tu_u (tu_u (M 86) 2 ((h9 : Nat) : Int)) 2 (((h9 : Nat) : Int) + 1)) rfl).trans (congrArg (fun m => tu_row m 88 (tu_ml (M 87) (f9) 0 (h9 * 112) 112)) (tu_rr M 86 (tu_u (M 86) 2 ((h9 : Nat) : Int)) (tu_u (tu_u (M 86) 2 ((h9 : Nat) : Int)) 2 (((h9 : Nat) : Int) + 1))))) ?_
      refine hret 78 _ _ dX4_record_78 ?_
      show tu_row _ _ _ = _
      rcases jc with ⟨j1, j2, j3⟩ | ⟨j1, j2, j3⟩
      · subst j2; subst j3; rw [tu_uu]; unfold tu_mq tu_mw; rw [if_pos j1, if_pos j1]; rfl
      · subst j3; rw [tu_uu]; unfold tu_mq tu_mw; rw [if_neg (by omega), if_neg (by omega), show (M 86 2).toNat = h9 from by omega, j2]
  refine tu_aload_n 0 X 0 dX4_record_0 rfl ?_
  refine tu_getI 1 X (x := (M 86) 2) dX4_record_1 fl_RX4_40 (by decide) rfl rfl rfl ?_
  refine tu_bipush 4 X dX4_record_4 (by decide) ?_
  refine tu_icmp_ne 6 X 49 dX4_record_6 (by decide) (show tu_rg ((M 86) 2) from by first | assumption | exact ⟨by omega, by omega⟩) ⟨by decide, by decide⟩ (fun br6 => ?_) (fun br6 => ?_)
  ·
    refine tu_jmp [0] (lv' := [(0, tu_r 86)]) ⟨rfl, trivial⟩ (by first | rfl | (first | (rw [show ((5 : Nat) : Int) = M 86 2 - 1 from by omega]) | (rw [tu_u_x (by omega)]))) (lp49 ((M 86 2).toNat) (M 88) (by first | exact Or.inr ⟨by omega, by omega, rfl⟩ | exact Or.inl ⟨by omega, rfl, by rw [show k = 560 from by omega]⟩))
  ·
    refine tu_iconst 9 X dX4_record_9 ?_
    refine tu_istore_n 10 X (lv' := [(1, tu_i 0), (0, tu_r 86)]) dX4_record_10 (by rw [hnl]; decide) rfl ?_
    have lp11 : ∀ (nq : Nat) (k : Nat), (k ≤ 560) → 560 - k < nq → tu_W T 11 [(0, tu_r 86), (1, tu_i ((k : Nat) : Int))] [] (tu_row (tu_row M 86 (M 86)) 88 (tu_ml (M 88) (M 88) 112 0 k)) := by
      intro nq
      induction nq with
      | zero => intros; omega
      | succ nq ih11 =>
        intro k hk hn11
        refine tu_iload_n 11 X 1 dX4_record_11 rfl ?_
        refine tu_sipush 12 X dX4_record_12 (by decide) ?_
        refine tu_icmp_ge 15 X 39 dX4_record_15 (by decide) (show tu_rg ((k : Nat) : Int) from by first | assumption | exact ⟨by omega, by omega⟩) ⟨by decide, by decide⟩ (fun br15 => ?_) (fun br15 => ?_)
        ·
          refine tu_aload_n 39 X 0 dX4_record_39 rfl ?_
          refine tu_dup 40 X dX4_record_40 rfl ?_
          refine tu_getI 41 X (x := (M 86) 2) dX4_record_41 fl_RX4_40 (by decide) rfl rfl rfl ?_
          refine tu_iconst 44 X dX4_record_44 ?_
          refine tu_isub 45 X dX4_record_45 ?_
          refine tu_putI 46 X (M' := tu_row (tu_row M 86 (tu_u (M 86) 2 (((M 86) 2) - 1))) 88 (tu_ml (M 88) (M 88) 112 0 k)) dX4_record_46 fp_RX4_40 (by decide) rfl rfl ((tu_rc (tu_row M 86 (M 86)) (tu_ml (M 88) (M 88) 112 0 k) (tu_u (M 86) 2 (((M 86) 2) - 1)) rfl).trans (congrArg (fun m => tu_row m 88 (tu_ml (M 88) (M 88) 112 0 k)) (tu_rr M 86 (M 86) (tu_u (M 86) 2 (((M 86) 2) - 1))))) ?_
          refine tu_jmp [0] (lv' := [(0, tu_r 86)]) ⟨rfl, trivial⟩ (by first | rfl | (first | (rw [show ((5 : Nat) : Int) = M 86 2 - 1 from by omega]) | (rw [tu_u_x (by omega)]))) (lp49 5 (tu_ml (M 88) (M 88) 112 0 k) (by first | exact Or.inr ⟨by omega, by omega, rfl⟩ | exact Or.inl ⟨by omega, rfl, by rw [show k = 560 from by omega]⟩))
        ·
          refine tu_aload_n 18 X 0 dX4_record_18 rfl ?_
          refine tu_getR 19 X dX4_record_19 fl_RX4_13 (by decide) rfl rfl ?_
          refine tu_iload_n 22 X 1 dX4_record_22 rfl ?_
          refine tu_aload_n 23 X 0 dX4_record_23 rfl ?_
          refine tu_getR 24 X dX4_record_24 fl_RX4_13 (by decide) rfl rfl ?_
          refine tu_iload_n 27 X 1 dX4_record_27 rfl ?_
          refine tu_bipush 28 X dX4_record_28 (by decide) ?_
          refine tu_iadd 30 X dX4_record_30 ?_
          refine tu_iald 31 X (x := (tu_ml (M 88) (M 88) 112 0 k) (k + 112)) (k + 112) dX4_record_31 (by decide) rfl (by decide) (by omega) (by omega) rfl ?_
          refine tu_tp (b := (M 88 (112 + k))) (by rw [tu_ml_at, if_neg (by omega), Nat.add_comm]) ?_
          refine tu_iast 32 X (M' := tu_row (tu_row M 86 (M 86)) 88 (tu_ml (M 88) (M 88) 112 0 (k + 1))) k dX4_record_32 (by decide) rfl (by decide) (by omega) (by omega) ((tu_rr (tu_row M 86 (M 86)) 88 (tu_ml (M 88) (M 88) 112 0 k) (tu_u (tu_ml (M 88) (M 88) 112 0 k) k (M 88 (112 + k)))).trans (congrArg (fun q => tu_row (tu_row M 86 (M 86)) 88 q) (show tu_u (tu_ml (M 88) (M 88) 112 0 k) k (M 88 (112 + k)) = tu_ml (M 88) (M 88) 112 0 (k + 1) from by show _ = tu_u _ (0 + k) _; rw [Nat.zero_add]))) ?_
          refine tu_iinc 33 X (lv' := [(1, tu_i (((k : Nat) : Int) + 1)), (0, tu_r 86)]) 1 dX4_record_33 rfl (by rw [hnl]; decide) rfl ?_
          refine tu_goto 36 X 11 dX4_record_36 (by decide) ?_
          refine tu_jmp [1, 0] (lv' := [(0, tu_r 86), (1, tu_i (((k + 1) : Nat) : Int))]) ⟨rfl, tu_ei (by first | rfl | omega), trivial⟩ rfl (ih11 (k + 1) (by first | assumption | omega) (by omega))
    refine tu_jmp [1, 0] (lv' := [(0, tu_r 86), (1, tu_i 0)]) ⟨rfl, rfl, trivial⟩ rfl (lp11 ((560 - 0) + 1) 0 (by first | assumption | omega) (by omega))
set_option maxRecDepth 20000 in
set_option maxHeartbeats 4000000 in
theorem c_X4_isLine {M : tu_M} (B : Nat → Nat → Int) (l : Int) (hO : tu_BO B) (hR : tu_MB B (M 87)) (rl : tu_rg l) : tu_MI tu_Y_X4_isLine [tu_r 86, tu_i l] M (fun z M' => M' = M ∧ z = tu_b (0 ≤ l ∧ l < B 0 1)) := by
  have cn := hO.1
  refine tu_MI.of (ty := .boolean) (by decide) rfl (by first | exact Or.inl rfl | exact Or.inr rfl) (Nat.le_of_ble_eq_true rfl) (fun T (X : tu_X T cX4_isLine RX4 1 22) hnl hrt hret => ?_)
  have hret : tu_RI T cX4_isLine (fun z M' => M' = M ∧ z = tu_b (0 ≤ l ∧ l < B 0 1)) := hret
  have hnl : T.2.2.2.2.2.2.2.2.2.2.1 = 2 := hnl
  show tu_W T 0 [(0, tu_r 86), (1, tu_i l)] [] M
  refine tu_iload_n 0 X 1 dX4_isLine_0 rfl ?_
  refine tu_iconst 1 X dX4_isLine_1 ?_
  refine tu_aload_n 2 X 0 dX4_isLine_2 rfl ?_
  refine tu_getR 3 X dX4_isLine_3 fl_RX4_7 (by decide) rfl rfl ?_
  refine tu_iconst 6 X dX4_isLine_6 ?_
  refine tu_iald 7 X (x := M 87 4) 4 dX4_isLine_7 (by decide) rfl (by decide) rfl (by decide) rfl ?_
  refine tu_tp (b := (B 0 1)) (by exact hR.n4) ?_
  refine tu_iconst 8 X dX4_isLine_8 ?_
  refine tu_isub 9 X dX4_isLine_9 ?_
  refine tu_callSI 10 X (st := []) (as := [tu_i l, tu_i 0, tu_i ((B 0 1) - 1)]) (c_X4_within l 0 ((B 0 1) - 1) (show tu_rg l from by first | assumption | omega | exact ⟨by omega, by omega⟩ | decide) (show tu_rg 0 from by first | assumption | omega | exact ⟨by omega, by omega⟩ | decide) (show tu_rg ((B 0 1) - 1) from by first | assumption | omega | exact ⟨by omega, by omega⟩ | decide)) ss_RX4_48 dX4_isLine_10 rfl (Nat.le_of_ble_eq_true rfl) ⟨by decide, by decide⟩ (fun z M' h => ?_)
  obtain ⟨hM10, hz10⟩ := h
  refine tu_st_eq rfl (M' := M) hM10 ?_
  refine tu_tp (b := tu_b (0 ≤ l ∧ l ≤ ((B 0 1) - 1))) hz10 ?_
  refine hret 13 _ _ (tu_b (0 ≤ l ∧ l ≤ ((B 0 1) - 1))) dX4_isLine_13 (fun _ => tu_b_01) ?_
  exact ⟨rfl, tu_b_f (by omega)⟩
set_option maxRecDepth 20000 in
set_option maxHeartbeats 4000000 in
theorem c_X4_isPhrase {M : tu_M} (B : Nat → Nat → Int) (l : Int) (hO : tu_BO B) (hR : tu_MB B (M 87)) (rl : tu_rg l) : tu_MI tu_Y_X4_isPhrase [tu_r 86, tu_i l] M (fun z M' => M' = M ∧ z = tu_b (0 ≤ l ∧ l < B 0 4)) := by
  have cn := hO.1
  refine tu_MI.of (ty := .boolean) (by decide) rfl (by first | exact Or.inl rfl | exact Or.inr rfl) (Nat.le_of_ble_eq_true rfl) (fun T (X : tu_X T cX4_isPhrase RX4 1 22) hnl hrt hret => ?_)
  have hret : tu_RI T cX4_isPhrase (fun z M' => M' = M ∧ z = tu_b (0 ≤ l ∧ l < B 0 4)) := hret
  have hnl : T.2.2.2.2.2.2.2.2.2.2.1 = 2 := hnl
  show tu_W T 0 [(0, tu_r 86), (1, tu_i l)] [] M
  refine tu_iload_n 0 X 1 dX4_isPhrase_0 rfl ?_
  refine tu_iconst 1 X dX4_isPhrase_1 ?_
  refine tu_aload_n 2 X 0 dX4_isPhrase_2 rfl ?_
  refine tu_getR 3 X dX4_isPhrase_3 fl_RX4_7 (by decide) rfl rfl ?_
  refine tu_iconst 6 X dX4_isPhrase_6 ?_
  refine tu_iald 7 X (x := M 87 5) 5 dX4_isPhrase_7 (by decide) rfl (by decide) rfl (by decide) rfl ?_
  refine tu_tp (b := (B 0 4)) (by exact hR.n5) ?_
  refine tu_iconst 8 X dX4_isPhrase_8 ?_
  refine tu_isub 9 X dX4_isPhrase_9 ?_
  refine tu_callSI 10 X (st := []) (as := [tu_i l, tu_i 0, tu_i ((B 0 4) - 1)]) (c_X4_within l 0 ((B 0 4) - 1) (show tu_rg l from by first | assumption | omega | exact ⟨by omega, by omega⟩ | decide) (show tu_rg 0 from by first | assumption | omega | exact ⟨by omega, by omega⟩ | decide) (show tu_rg ((B 0 4) - 1) from by first | assumption | omega | exact ⟨by omega, by omega⟩ | decide)) ss_RX4_48 dX4_isPhrase_10 rfl (Nat.le_of_ble_eq_true rfl) ⟨by decide, by decide⟩ (fun z M' h => ?_)
  obtain ⟨hM10, hz10⟩ := h
  refine tu_st_eq rfl (M' := M) hM10 ?_
  refine tu_tp (b := tu_b (0 ≤ l ∧ l ≤ ((B 0 4) - 1))) hz10 ?_
  refine hret 13 _ _ (tu_b (0 ≤ l ∧ l ≤ ((B 0 4) - 1))) dX4_isPhrase_13 (fun _ => tu_b_01) ?_
  exact ⟨rfl, tu_b_f (by omega)⟩
set_option maxRecDepth 20000 in
set_option maxHeartbeats 4000000 in
theorem c_X4_lineLength {M : tu_M} (B : Nat → Nat → Int) (l : Nat) (hO : tu_BO B) (hR : tu_MB B (M 87)) (hl : (l : Int) < B 0 1) : tu_MI tu_Y_X4_lineLength [tu_r 86, tu_i ((l : Nat) : Int)] M (fun z M' => M' = M ∧ z = B 2 l) := by
  have cn := hO.1
  refine tu_MI.of (ty := .int) (by decide) rfl (by first | exact Or.inl rfl | exact Or.inr rfl) (Nat.le_of_ble_eq_true rfl) (fun T (X : tu_X T cX4_lineLength RX4 0 0) hnl hrt hret => ?_)
  have hret : tu_RI T cX4_lineLength (fun z M' => M' = M ∧ z = B 2 l) := hret
  have hnl : T.2.2.2.2.2.2.2.2.2.2.1 = 2 := hnl
  show tu_W T 0 [(0, tu_r 86), (1, tu_i ((l : Nat) : Int))] [] M
  refine tu_aload_n 0 X 0 dX4_lineLength_0 rfl ?_
  refine tu_getR 1 X dX4_lineLength_1 fl_RX4_7 (by decide) rfl rfl ?_
  refine tu_bipush 4 X dX4_lineLength_4 (by decide) ?_
  refine tu_iconst 6 X dX4_lineLength_6 ?_
  refine tu_iload_n 7 X 1 dX4_lineLength_7 rfl ?_
  refine tu_imul 8 X dX4_lineLength_8 ?_
  refine tu_iadd 9 X dX4_lineLength_9 ?_
  refine tu_iald 10 X (x := M 87 (8 + (2 * l))) (8 + (2 * l)) dX4_lineLength_10 (by decide) rfl (by decide) (by omega) (by omega) rfl ?_
  refine tu_tp (b := (B 2 l)) (by exact hR.ln l hl) ?_
  refine hret 11 _ _ (B 2 l) dX4_lineLength_11 (fun h => by rw [hrt] at h; cases h) ?_
  exact ⟨rfl, by first | rfl | omega⟩
set_option maxRecDepth 20000 in
set_option maxHeartbeats 4000000 in
theorem c_X4_phraseLength {M : tu_M} (B : Nat → Nat → Int) (p : Nat) (hO : tu_BO B) (hR : tu_MB B (M 87)) (hp : (p : Int) < B 0 4) : tu_MI tu_Y_X4_phraseLength [tu_r 86, tu_i ((p : Nat) : Int)] M (fun z M' => M' = M ∧ z = B 4 p) := by
  have cn := hO.1
  refine tu_MI.of (ty := .int) (by decide) rfl (by first | exact Or.inl rfl | exact Or.inr rfl) (Nat.le_of_ble_eq_true rfl) (fun T (X : tu_X T cX4_phraseLength RX4 0 0) hnl hrt hret => ?_)
  have hret : tu_RI T cX4_phraseLength (fun z M' => M' = M ∧ z = B 4 p) := hret
  have hnl : T.2.2.2.2.2.2.2.2.2.2.1 = 2 := hnl
  show tu_W T 0 [(0, tu_r 86), (1, tu_i ((p : Nat) : Int))] [] M
  refine tu_aload_n 0 X 0 dX4_phraseLength_0 rfl ?_
  refine tu_getR 1 X dX4_phraseLength_1 fl_RX4_7 (by decide) rfl rfl ?_
  refine tu_bipush 4 X dX4_phraseLength_4 (by decide) ?_
  refine tu_iconst 6 X dX4_phraseLength_6 ?_
  refine tu_iload_n 7 X 1 dX4_phraseLength_7 rfl ?_
  refine tu_imul 8 X dX4_phraseLength_8 ?_
  refine tu_iadd 9 X dX4_phraseLength_9 ?_
  refine tu_iald 10 X (x := M 87 (40 + (3 * p))) (40 + (3 * p)) dX4_phraseLength_10 (by decide) rfl (by decide) (by omega) (by omega) rfl ?_
  refine tu_tp (b := (B 4 p)) (by exact hR.ph p hp) ?_
  refine hret 11 _ _ (B 4 p) dX4_phraseLength_11 (fun h => by rw [hrt] at h; cases h) ?_
  exact ⟨rfl, by first | rfl | omega⟩
set_option maxRecDepth 20000 in
set_option maxHeartbeats 4000000 in
theorem c_X4_isSyllable {M : tu_M} (B : Nat → Nat → Int) (l s : Int) (hO : tu_BO B) (hR : tu_MB B (M 87)) (rl : tu_rg l) (rs : tu_rg s) : tu_MI tu_Y_X4_isSyllable [tu_r 86, tu_i l, tu_i s] M (fun z M' => M' = M ∧ z = tu_b (0 ≤ l ∧ l < B 0 1 ∧ 0 ≤ s ∧ s < B 2 l.toNat)) := by
  have cn := hO.1
  refine tu_MI.of (ty := .boolean) (by decide) rfl (by first | exact Or.inl rfl | exact Or.inr rfl) (Nat.le_of_ble_eq_true rfl) (fun T (X : tu_X T cX4_isSyllable RX4 2 43) hnl hrt hret => ?_)
  have hret : tu_RI T cX4_isSyllable (fun z M' => M' = M ∧ z = tu_b (0 ≤ l ∧ l < B 0 1 ∧ 0 ≤ s ∧ s < B 2 l.toNat)) := hret
  have hnl : T.2.2.2.2.2.2.2.2.2.2.1 = 3 := hnl
  show tu_W T 0 [(0, tu_r 86), (1, tu_i l), (2, tu_i s)] [] M
  refine tu_aload_n 0 X 0 dX4_isSyllable_0 rfl ?_
  refine tu_iload_n 1 X 1 dX4_isSyllable_1 rfl ?_
  refine tu_callVI 2 X (st := []) (as := [tu_i l]) (c_X4_isLine B l (show tu_BO B from by first | assumption | omega | exact ⟨by omega, by omega⟩ | decide) (show tu_MB B (M 87) from by first | assumption | omega | exact ⟨by omega, by omega⟩ | decide) (show tu_rg l from by first | assumption | omega | exact ⟨by omega, by omega⟩ | decide)) sv_RX4_52 dX4_isSyllable_2 rfl (by decide) rfl rfl rfl (Nat.le_of_ble_eq_true rfl) ⟨by decide, by decide⟩ (fun z M' h => ?_)
  obtain ⟨hM2, hz2⟩ := h
  refine tu_st_eq rfl (M' := M) hM2 ?_
  refine tu_tp (b := tu_b (0 ≤ l ∧ l < B 0 1)) hz2 ?_
  refine tu_if_eq 5 X 27 dX4_isSyllable_5 (by decide) tu_b_rg (fun br5 => ?_) (fun br5 => ?_)
  ·
    have br5 := tu_b_e0 br5
    refine tu_iconst 27 X dX4_isSyllable_27 ?_
    refine hret 28 _ _ 0 dX4_isSyllable_28 (fun _ => Or.inl rfl) ?_
    exact ⟨rfl, (tu_b0 (by omega)).symm⟩
  ·
    have br5 := tu_b_n0 br5
    have h9 := hO.2.1 l.toNat (by omega)
    refine tu_iload_n 8 X 2 dX4_isSyllable_8 rfl ?_
    refine tu_iconst 9 X dX4_isSyllable_9 ?_
    refine tu_aload_n 10 X 0 dX4_isSyllable_10 rfl ?_
    refine tu_iload_n 11 X 1 dX4_isSyllable_11 rfl ?_
    refine tu_st_eq (show _ = [tu_i ((l.toNat : Nat) : Int), tu_r 86, tu_i 0, tu_i s] from by first | rfl | (simp only [List.cons.injEq, Sum.inl.injEq, and_true, true_and]; omega)) rfl ?_
    refine tu_callVI 12 X (st := [tu_i 0, tu_i s]) (as := [tu_i ((l.toNat : Nat) : Int)]) (c_X4_lineLength B l.toNat (show tu_BO B from by first | assumption | omega | exact ⟨by omega, by omega⟩ | decide) (show tu_MB B (M 87) from by first | assumption | omega | exact ⟨by omega, by omega⟩ | decide) (show (l.toNat : Int) < B 0 1 from by first | assumption | omega | exact ⟨by omega, by omega⟩ | decide)) sv_RX4_56 dX4_isSyllable_12 rfl (by decide) rfl rfl rfl (Nat.le_of_ble_eq_true rfl) ⟨by decide, by decide⟩ (fun z M' h => ?_)
    obtain ⟨hM12, hz12⟩ := h
    refine tu_st_eq rfl (M' := M) hM12 ?_
    refine tu_tp (b := (B 2 l.toNat)) hz12 ?_
    refine tu_iconst 15 X dX4_isSyllable_15 ?_
    refine tu_isub 16 X dX4_isSyllable_16 ?_
    refine tu_callSI 17 X (st := []) (as := [tu_i s, tu_i 0, tu_i ((B 2 l.toNat) - 1)]) (c_X4_within s 0 ((B 2 l.toNat) - 1) (show tu_rg s from by first | assumption | omega | exact ⟨by omega, by omega⟩ | decide) (show tu_rg 0 from by first | assumption | omega | exact ⟨by omega, by omega⟩ | decide) (show tu_rg ((B 2 l.toNat) - 1) from by first | assumption | omega | exact ⟨by omega, by omega⟩ | decide)) ss_RX4_48 dX4_isSyllable_17 rfl (Nat.le_of_ble_eq_true rfl) ⟨by decide, by decide⟩ (fun z M' h => ?_)
    obtain ⟨hM17, hz17⟩ := h
    refine tu_st_eq rfl (M' := M) hM17 ?_
    refine tu_tp (b := tu_b (0 ≤ s ∧ s ≤ ((B 2 l.toNat) - 1))) hz17 ?_
    refine tu_if_eq 20 X 27 dX4_isSyllable_20 (by decide) tu_b_rg (fun br20 => ?_) (fun br20 => ?_)
    ·
      have br20 := tu_b_e0 br20
      refine tu_iconst 27 X dX4_isSyllable_27 ?_
      refine hret 28 _ _ 0 dX4_isSyllable_28 (fun _ => Or.inl rfl) ?_
      exact ⟨rfl, (tu_b0 (by omega)).symm⟩
    ·
      have br20 := tu_b_n0 br20
      refine tu_iconst 23 X dX4_isSyllable_23 ?_
      refine tu_goto 24 X 28 dX4_isSyllable_24 (by decide) ?_
      refine hret 28 _ _ 1 dX4_isSyllable_28 (fun _ => Or.inr rfl) ?_
      exact ⟨rfl, (tu_b1 (by omega)).symm⟩
set_option maxRecDepth 20000 in
set_option maxHeartbeats 4000000 in
theorem c_X4_isBeat {M : tu_M} (B : Nat → Nat → Int) (l s : Int) (hO : tu_BO B) (hR : tu_MB B (M 87)) (rl : tu_rg l) (rs : tu_rg s) : tu_MI tu_Y_X4_isBeat [tu_r 86, tu_i l, tu_i s] M (fun z M' => M' = M ∧ z = tu_b (0 ≤ l ∧ l < B 0 4 ∧ 0 ≤ s ∧ s < B 4 l.toNat)) := by
  have cn := hO.1
  refine tu_MI.of (ty := .boolean) (by decide) rfl (by first | exact Or.inl rfl | exact Or.inr rfl) (Nat.le_of_ble_eq_true rfl) (fun T (X : tu_X T cX4_isBeat RX4 2 43) hnl hrt hret => ?_)
  have hret : tu_RI T cX4_isBeat (fun z M' => M' = M ∧ z = tu_b (0 ≤ l ∧ l < B 0 4 ∧ 0 ≤ s ∧ s < B 4 l.toNat)) := hret
  have hnl : T.2.2.2.2.2.2.2.2.2.2.1 = 3 := hnl
  show tu_W T 0 [(0, tu_r 86), (1, tu_i l), (2, tu_i s)] [] M
  refine tu_aload_n 0 X 0 dX4_isBeat_0 rfl ?_
  refine tu_iload_n 1 X 1 dX4_isBeat_1 rfl ?_
  refine tu_callVI 2 X (st := []) (as := [tu_i l]) (c_X4_isPhrase B l (show tu_BO B from by first | assumption | omega | exact ⟨by omega, by omega⟩ | decide) (show tu_MB B (M 87) from by first | assumption | omega | exact ⟨by omega, by omega⟩ | decide) (show tu_rg l from by first | assumption | omega | exact ⟨by omega, by omega⟩ | decide)) sv_RX4_60 dX4_isBeat_2 rfl (by decide) rfl rfl rfl (Nat.le_of_ble_eq_true rfl) ⟨by decide, by decide⟩ (fun z M' h => ?_)
  obtain ⟨hM2, hz2⟩ := h
  refine tu_st_eq rfl (M' := M) hM2 ?_
  refine tu_tp (b := tu_b (0 ≤ l ∧ l < B 0 4)) hz2 ?_
  refine tu_if_eq 5 X 27 dX4_isBeat_5 (by decide) tu_b_rg (fun br5 => ?_) (fun br5 => ?_)
  ·
    have br5 := tu_b_e0 br5
    refine tu_iconst 27 X dX4_isBeat_27 ?_
    refine hret 28 _ _ 0 dX4_isBeat_28 (fun _ => Or.inl rfl) ?_
    exact ⟨rfl, (tu_b0 (by omega)).symm⟩
  ·
    have br5 := tu_b_n0 br5
    have h9 := hO.2.2.2.1 l.toNat (by omega)
    refine tu_iload_n 8 X 2 dX4_isBeat_8 rfl ?_
    refine tu_iconst 9 X dX4_isBeat_9 ?_
    refine tu_aload_n 10 X 0 dX4_isBeat_10 rfl ?_
    refine tu_iload_n 11 X 1 dX4_isBeat_11 rfl ?_
    refine tu_st_eq (show _ = [tu_i ((l.toNat : Nat) : Int), tu_r 86, tu_i 0, tu_i s] from by first | rfl | (simp only [List.cons.injEq, Sum.inl.injEq, and_true, true_and]; omega)) rfl ?_
    refine tu_callVI 12 X (st := [tu_i 0, tu_i s]) (as := [tu_i ((l.toNat : Nat) : Int)]) (c_X4_phraseLength B l.toNat (show tu_BO B from by first | assumption | omega | exact ⟨by omega, by omega⟩ | decide) (show tu_MB B (M 87) from by first | assumption | omega | exact ⟨by omega, by omega⟩ | decide) (show (l.toNat : Int) < B 0 4 from by first | assumption | omega | exact ⟨by omega, by omega⟩ | decide)) sv_RX4_63 dX4_isBeat_12 rfl (by decide) rfl rfl rfl (Nat.le_of_ble_eq_true rfl) ⟨by decide, by decide⟩ (fun z M' h => ?_)
    obtain ⟨hM12, hz12⟩ := h
    refine tu_st_eq rfl (M' := M) hM12 ?_
    refine tu_tp (b := (B 4 l.toNat)) hz12 ?_
    refine tu_iconst 15 X dX4_isBeat_15 ?_
    refine tu_isub 16 X dX4_isBeat_16 ?_
    refine tu_callSI 17 X (st := []) (as := [tu_i s, tu_i 0, tu_i ((B 4 l.toNat) - 1)]) (c_X4_within s 0 ((B 4 l.toNat) - 1) (show tu_rg s from by first | assumption | omega | exact ⟨by omega, by omega⟩ | decide) (show tu_rg 0 from by first | assumption | omega | exact ⟨by omega, by omega⟩ | decide) (show tu_rg ((B 4 l.toNat) - 1) from by first | assumption | omega | exact ⟨by omega, by omega⟩ | decide)) ss_RX4_48 dX4_isBeat_17 rfl (Nat.le_of_ble_eq_true rfl) ⟨by decide, by decide⟩ (fun z M' h => ?_)
    obtain ⟨hM17, hz17⟩ := h
    refine tu_st_eq rfl (M' := M) hM17 ?_
    refine tu_tp (b := tu_b (0 ≤ s ∧ s ≤ ((B 4 l.toNat) - 1))) hz17 ?_
    refine tu_if_eq 20 X 27 dX4_isBeat_20 (by decide) tu_b_rg (fun br20 => ?_) (fun br20 => ?_)
    ·
      have br20 := tu_b_e0 br20
      refine tu_iconst 27 X dX4_isBeat_27 ?_
      refine hret 28 _ _ 0 dX4_isBeat_28 (fun _ => Or.inl rfl) ?_
      exact ⟨rfl, (tu_b0 (by omega)).symm⟩
    ·
      have br20 := tu_b_n0 br20
      refine tu_iconst 23 X dX4_isBeat_23 ?_
      refine tu_goto 24 X 28 dX4_isBeat_24 (by decide) ?_
      refine hret 28 _ _ 1 dX4_isBeat_28 (fun _ => Or.inr rfl) ?_
      exact ⟨rfl, (tu_b1 (by omega)).symm⟩
set_option maxRecDepth 20000 in
set_option maxHeartbeats 4000000 in
theorem c_X4_sungTimes {M : tu_M} (B : Nat → Nat → Int) (l : Int) (hO : tu_BO B) (hR : tu_MB B (M 87)) (rl : tu_rg l) : tu_MI tu_Y_X4_sungTimes [tu_r 86, tu_i l] M (fun z M' => M' = M ∧ z = tu_ti (B 6) l (B 0 7).toNat) := by
  have cn := hO.1
  refine tu_MI.of (ty := .int) (by decide) rfl (by first | exact Or.inl rfl | exact Or.inr rfl) (Nat.le_of_ble_eq_true rfl) (fun T (X : tu_X T cX4_sungTimes RX4 0 0) hnl hrt hret => ?_)
  have hret : tu_RI T cX4_sungTimes (fun z M' => M' = M ∧ z = tu_ti (B 6) l (B 0 7).toNat) := hret
  have hnl : T.2.2.2.2.2.2.2.2.2.2.1 = 4 := hnl
  show tu_W T 0 [(0, tu_r 86), (1, tu_i l)] [] M
  refine tu_iconst 0 X dX4_sungTimes_0 ?_
  refine tu_istore_n 1 X (lv' := [(2, tu_i 0), (0, tu_r 86), (1, tu_i l)]) dX4_sungTimes_1 (by rw [hnl]; decide) rfl ?_
  refine tu_iconst 2 X dX4_sungTimes_2 ?_
  refine tu_istore_n 3 X (lv' := [(3, tu_i 0), (2, tu_i 0), (0, tu_r 86), (1, tu_i l)]) dX4_sungTimes_3 (by rw [hnl]; decide) rfl ?_
  have lp4 : ∀ (nq : Nat) (k : Nat), ((k : Int) ≤ B 0 7) → (B 0 7).toNat - k < nq → tu_W T 4 [(0, tu_r 86), (1, tu_i l), (2, tu_i (tu_ti (B 6) l k)), (3, tu_i ((k : Nat) : Int))] [] M := by
    intro nq
    induction nq with
    | zero => intros; omega
    | succ nq ih4 =>
      intro k hk hn4
      refine tu_iload_n 4 X 3 dX4_sungTimes_4 rfl ?_
      refine tu_aload_n 5 X 0 dX4_sungTimes_5 rfl ?_
      refine tu_getR 6 X dX4_sungTimes_6 fl_RX4_7 (by decide) rfl rfl ?_
      refine tu_bipush 9 X dX4_sungTimes_9 (by decide) ?_
      refine tu_iald 11 X (x := M 87 6) 6 dX4_sungTimes_11 (by decide) rfl (by decide) rfl (by decide) rfl ?_
      refine tu_tp (b := (B 0 7)) (by exact hR.n6) ?_
      refine tu_icmp_ge 12 X 42 dX4_sungTimes_12 (by decide) (show tu_rg ((k : Nat) : Int) from by first | assumption | exact ⟨by omega, by omega⟩) (show tu_rg (B 0 7) from by first | assumption | exact ⟨by omega, by omega⟩) (fun br12 => ?_) (fun br12 => ?_)
      ·
        refine tu_iload_n 42 X 2 dX4_sungTimes_42 rfl ?_
        refine hret 43 _ _ (tu_ti (B 6) l k) dX4_sungTimes_43 (fun h => by rw [hrt] at h; cases h) ?_
        exact ⟨rfl, by rw [show (B 0 7).toNat = k from by omega]⟩
      ·
        have h9 := hO.2.2.2.2.2.1 k (by omega)
        refine tu_iload_n 15 X 2 dX4_sungTimes_15 rfl ?_
        refine tu_aload_n 16 X 0 dX4_sungTimes_16 rfl ?_
        refine tu_getR 17 X dX4_sungTimes_17 fl_RX4_7 (by decide) rfl rfl ?_
        refine tu_bipush 20 X dX4_sungTimes_20 (by decide) ?_
        refine tu_iload_n 22 X 3 dX4_sungTimes_22 rfl ?_
        refine tu_iadd 23 X dX4_sungTimes_23 ?_
        refine tu_iald 24 X (x := M 87 (64 + k)) (64 + k) dX4_sungTimes_24 (by decide) rfl (by decide) (by omega) (by omega) rfl ?_
        refine tu_tp (b := (B 6 k)) (by exact hR.ba k (by omega)) ?_
        refine tu_iload_n 25 X 1 dX4_sungTimes_25 rfl ?_
        refine tu_icmp_ne 26 X 33 dX4_sungTimes_26 (by decide) (show tu_rg (B 6 k) from by first | assumption | exact ⟨by omega, by omega⟩) (show tu_rg l from by first | assumption | exact ⟨by omega, by omega⟩) (fun br26 => ?_) (fun br26 => ?_)
        ·
          refine tu_iconst 33 X dX4_sungTimes_33 ?_
          refine tu_iadd 34 X dX4_sungTimes_34 ?_
          refine tu_istore_n 35 X (lv' := [(2, tu_i (tu_ti (B 6) l k + 0)), (0, tu_r 86), (1, tu_i l), (3, tu_i ((k : Nat) : Int))]) dX4_sungTimes_35 (by rw [hnl]; decide) rfl ?_
          refine tu_iinc 36 X (lv' := [(3, tu_i (((k : Nat) : Int) + 1)), (2, tu_i (tu_ti (B 6) l k + 0)), (0, tu_r 86), (1, tu_i l)]) 3 dX4_sungTimes_36 rfl (by rw [hnl]; decide) rfl ?_
          refine tu_goto 39 X 4 dX4_sungTimes_39 (by decide) ?_
          refine tu_jmp [2, 3, 1, 0] (lv' := [(0, tu_r 86), (1, tu_i l), (2, tu_i (tu_ti (B 6) l (k + 1))), (3, tu_i (((k + 1) : Nat) : Int))]) ⟨rfl, rfl, tu_ei (by first | rfl | (simp only [tu_ti]; split <;> omega)), tu_ei (by first | rfl | omega), trivial⟩ rfl (ih4 (k + 1) (by first | assumption | omega) (by omega))
        ·
          refine tu_iconst 29 X dX4_sungTimes_29 ?_
          refine tu_goto 30 X 34 dX4_sungTimes_30 (by decide) ?_
          refine tu_iadd 34 X dX4_sungTimes_34 ?_
          refine tu_istore_n 35 X (lv' := [(2, tu_i (tu_ti (B 6) l k + 1)), (0, tu_r 86), (1, tu_i l), (3, tu_i ((k : Nat) : Int))]) dX4_sungTimes_35 (by rw [hnl]; decide) rfl ?_
          refine tu_iinc 36 X (lv' := [(3, tu_i (((k : Nat) : Int) + 1)), (2, tu_i (tu_ti (B 6) l k + 1)), (0, tu_r 86), (1, tu_i l)]) 3 dX4_sungTimes_36 rfl (by rw [hnl]; decide) rfl ?_
          refine tu_goto 39 X 4 dX4_sungTimes_39 (by decide) ?_
          refine tu_jmp [2, 3, 1, 0] (lv' := [(0, tu_r 86), (1, tu_i l), (2, tu_i (tu_ti (B 6) l (k + 1))), (3, tu_i (((k + 1) : Nat) : Int))]) ⟨rfl, rfl, tu_ei (by first | rfl | (simp only [tu_ti]; split <;> omega)), tu_ei (by first | rfl | omega), trivial⟩ rfl (ih4 (k + 1) (by first | assumption | omega) (by omega))
  refine tu_jmp [2, 3, 1, 0] (lv' := [(0, tu_r 86), (1, tu_i l), (2, tu_i (tu_ti (B 6) l 0)), (3, tu_i 0)]) ⟨rfl, rfl, tu_ei (by first | rfl | (simp only [tu_ti]; split <;> omega)), rfl, trivial⟩ rfl (lp4 (((B 0 7).toNat - 0) + 1) 0 (by first | assumption | omega) (by omega))
set_option maxRecDepth 20000 in
set_option maxHeartbeats 4000000 in
theorem c_X4_playedTimes {M : tu_M} (B : Nat → Nat → Int) (l : Int) (hO : tu_BO B) (hR : tu_MB B (M 87)) (rl : tu_rg l) : tu_MI tu_Y_X4_playedTimes [tu_r 86, tu_i l] M (fun z M' => M' = M ∧ z = tu_ti (B 7) l (B 0 9).toNat) := by
  have cn := hO.1
  refine tu_MI.of (ty := .int) (by decide) rfl (by first | exact Or.inl rfl | exact Or.inr rfl) (Nat.le_of_ble_eq_true rfl) (fun T (X : tu_X T cX4_playedTimes RX4 0 0) hnl hrt hret => ?_)
  have hret : tu_RI T cX4_playedTimes (fun z M' => M' = M ∧ z = tu_ti (B 7) l (B 0 9).toNat) := hret
  have hnl : T.2.2.2.2.2.2.2.2.2.2.1 = 4 := hnl
  show tu_W T 0 [(0, tu_r 86), (1, tu_i l)] [] M
  refine tu_iconst 0 X dX4_playedTimes_0 ?_
  refine tu_istore_n 1 X (lv' := [(2, tu_i 0), (0, tu_r 86), (1, tu_i l)]) dX4_playedTimes_1 (by rw [hnl]; decide) rfl ?_
  refine tu_iconst 2 X dX4_playedTimes_2 ?_
  refine tu_istore_n 3 X (lv' := [(3, tu_i 0), (2, tu_i 0), (0, tu_r 86), (1, tu_i l)]) dX4_playedTimes_3 (by rw [hnl]; decide) rfl ?_
  have lp4 : ∀ (nq : Nat) (k : Nat), ((k : Int) ≤ B 0 9) → (B 0 9).toNat - k < nq → tu_W T 4 [(0, tu_r 86), (1, tu_i l), (2, tu_i (tu_ti (B 7) l k)), (3, tu_i ((k : Nat) : Int))] [] M := by
    intro nq
    induction nq with
    | zero => intros; omega
    | succ nq ih4 =>
      intro k hk hn4
      refine tu_iload_n 4 X 3 dX4_playedTimes_4 rfl ?_
      refine tu_aload_n 5 X 0 dX4_playedTimes_5 rfl ?_
      refine tu_getR 6 X dX4_playedTimes_6 fl_RX4_7 (by decide) rfl rfl ?_
      refine tu_bipush 9 X dX4_playedTimes_9 (by decide) ?_
      refine tu_iald 11 X (x := M 87 7) 7 dX4_playedTimes_11 (by decide) rfl (by decide) rfl (by decide) rfl ?_
      refine tu_tp (b := (B 0 9)) (by exact hR.n7) ?_
      refine tu_icmp_ge 12 X 42 dX4_playedTimes_12 (by decide) (show tu_rg ((k : Nat) : Int) from by first | assumption | exact ⟨by omega, by omega⟩) (show tu_rg (B 0 9) from by first | assumption | exact ⟨by omega, by omega⟩) (fun br12 => ?_) (fun br12 => ?_)
      ·
        refine tu_iload_n 42 X 2 dX4_playedTimes_42 rfl ?_
        refine hret 43 _ _ (tu_ti (B 7) l k) dX4_playedTimes_43 (fun h => by rw [hrt] at h; cases h) ?_
        exact ⟨rfl, by rw [show (B 0 9).toNat = k from by omega]⟩
      ·
        have h9 := hO.2.2.2.2.2.2.1 k (by omega)
        refine tu_iload_n 15 X 2 dX4_playedTimes_15 rfl ?_
        refine tu_aload_n 16 X 0 dX4_playedTimes_16 rfl ?_
        refine tu_getR 17 X dX4_playedTimes_17 fl_RX4_7 (by decide) rfl rfl ?_
        refine tu_bipush 20 X dX4_playedTimes_20 (by decide) ?_
        refine tu_iload_n 22 X 3 dX4_playedTimes_22 rfl ?_
        refine tu_iadd 23 X dX4_playedTimes_23 ?_
        refine tu_iald 24 X (x := M 87 (104 + k)) (104 + k) dX4_playedTimes_24 (by decide) rfl (by decide) (by omega) (by omega) rfl ?_
        refine tu_tp (b := (B 7 k)) (by exact hR.tu k (by omega)) ?_
        refine tu_iload_n 25 X 1 dX4_playedTimes_25 rfl ?_
        refine tu_icmp_ne 26 X 33 dX4_playedTimes_26 (by decide) (show tu_rg (B 7 k) from by first | assumption | exact ⟨by omega, by omega⟩) (show tu_rg l from by first | assumption | exact ⟨by omega, by omega⟩) (fun br26 => ?_) (fun br26 => ?_)
        ·
          refine tu_iconst 33 X dX4_playedTimes_33 ?_
          refine tu_iadd 34 X dX4_playedTimes_34 ?_
          refine tu_istore_n 35 X (lv' := [(2, tu_i (tu_ti (B 7) l k + 0)), (0, tu_r 86), (1, tu_i l), (3, tu_i ((k : Nat) : Int))]) dX4_playedTimes_35 (by rw [hnl]; decide) rfl ?_
          refine tu_iinc 36 X (lv' := [(3, tu_i (((k : Nat) : Int) + 1)), (2, tu_i (tu_ti (B 7) l k + 0)), (0, tu_r 86), (1, tu_i l)]) 3 dX4_playedTimes_36 rfl (by rw [hnl]; decide) rfl ?_
          refine tu_goto 39 X 4 dX4_playedTimes_39 (by decide) ?_
          refine tu_jmp [2, 3, 1, 0] (lv' := [(0, tu_r 86), (1, tu_i l), (2, tu_i (tu_ti (B 7) l (k + 1))), (3, tu_i (((k + 1) : Nat) : Int))]) ⟨rfl, rfl, tu_ei (by first | rfl | (simp only [tu_ti]; split <;> omega)), tu_ei (by first | rfl | omega), trivial⟩ rfl (ih4 (k + 1) (by first | assumption | omega) (by omega))
        ·
          refine tu_iconst 29 X dX4_playedTimes_29 ?_
          refine tu_goto 30 X 34 dX4_playedTimes_30 (by decide) ?_
          refine tu_iadd 34 X dX4_playedTimes_34 ?_
          refine tu_istore_n 35 X (lv' := [(2, tu_i (tu_ti (B 7) l k + 1)), (0, tu_r 86), (1, tu_i l), (3, tu_i ((k : Nat) : Int))]) dX4_playedTimes_35 (by rw [hnl]; decide) rfl ?_
          refine tu_iinc 36 X (lv' := [(3, tu_i (((k : Nat) : Int) + 1)), (2, tu_i (tu_ti (B 7) l k + 1)), (0, tu_r 86), (1, tu_i l)]) 3 dX4_playedTimes_36 rfl (by rw [hnl]; decide) rfl ?_
          refine tu_goto 39 X 4 dX4_playedTimes_39 (by decide) ?_
          refine tu_jmp [2, 3, 1, 0] (lv' := [(0, tu_r 86), (1, tu_i l), (2, tu_i (tu_ti (B 7) l (k + 1))), (3, tu_i (((k + 1) : Nat) : Int))]) ⟨rfl, rfl, tu_ei (by first | rfl | (simp only [tu_ti]; split <;> omega)), tu_ei (by first | rfl | omega), trivial⟩ rfl (ih4 (k + 1) (by first | assumption | omega) (by omega))
  refine tu_jmp [2, 3, 1, 0] (lv' := [(0, tu_r 86), (1, tu_i l), (2, tu_i (tu_ti (B 7) l 0)), (3, tu_i 0)]) ⟨rfl, rfl, tu_ei (by first | rfl | (simp only [tu_ti]; split <;> omega)), rfl, trivial⟩ rfl (lp4 (((B 0 9).toNat - 0) + 1) 0 (by first | assumption | omega) (by omega))
