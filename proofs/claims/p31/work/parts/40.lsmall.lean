/-- how many bits a small number has -/
def tz_pb (u : Nat) : Int := tu_sm (fun i => tu_bi ((u : Nat) : Int) i) 24
theorem tz_pb_0 : tz_pb 0 = 0 := by decide +kernel
set_option maxRecDepth 100000 in
theorem tz_pb_1 : ∀ u, u < 512 → u ≠ 0 → tu_and ((u : Nat) : Int) (((u : Nat) : Int) - 1) = ((u &&& (u - 1) : Nat) : Int) ∧ (u &&& (u - 1)) < u ∧ tz_pb (u &&& (u - 1)) + 1 = tz_pb u := by decide +kernel
theorem tz_mk_n {v : Int} {n : Nat} {f : Nat → Int} (h : tu_mk v n f) (hn : n ≤ 9) (hv : tu_rg v) : ∃ U : Nat, U < 512 ∧ v = ((U : Nat) : Int) ∧ tz_pb U = tu_ti f 1 n := by
  have hb : ∀ i, 9 ≤ i → (tu_J v).toBitVec.toNat.testBit i = false := by
    intro i hi
    by_cases h32 : i < 32
    · have g := h i h32
      rw [if_neg (by omega)] at g
      unfold tu_bi tu_bb at g
      split at g
      · exact absurd g (by decide)
      · next q =>
        simp only [BitVec.getLsbD, Bool.not_eq_true] at q
        exact q
    · exact Nat.testBit_lt_two_pow (Nat.lt_of_lt_of_le (tu_J v).toBitVec.isLt (Nat.pow_le_pow_right (by decide) (by omega)))
  have hlt : (tu_J v).toBitVec.toNat < 2 ^ 9 := Nat.lt_pow_two_of_testBit _ (fun i hi => hb i hi)
  have e : v = (((tu_J v).toBitVec.toNat : Nat) : Int) := by
    have e1 : (tu_J v).toInt = v := tu_J_i hv
    rw [← e1]
    show (tu_J v).toBitVec.toInt = _
    rw [e1]
    exact BitVec.toInt_eq_toNat_of_lt (by omega)
  refine ⟨_, hlt, e, ?_⟩
  unfold tz_pb
  rw [← e]
  exact h.cnt (by omega)

set_option maxRecDepth 20000 in
set_option maxHeartbeats 4000000 in
theorem c_L_cell {M : tu_M} (k : Int) (hk : 0 ≤ k ∧ k ≤ 1000) : tu_MI tu_Y_L_cell [tu_r 100, tu_i k] M (fun z M' => ∃ (y : Int), M' = M ∧ z = y) := by
  refine tu_MI.of (ty := .int) (by decide) rfl (by first | exact Or.inl rfl | exact Or.inr rfl) (Nat.le_of_ble_eq_true rfl) (fun T (X : tu_X T cL_cell RL 0 0) hnl hrt hret => ?_)
  have hret : tu_RI T cL_cell (fun z M' => ∃ (y : Int), M' = M ∧ z = y) := hret
  have hnl : T.2.2.2.2.2.2.2.2.2.2.1 = 2 := hnl
  show tu_W T 0 [(0, tu_r 100), (1, tu_i k)] [] M
  refine tu_iload_n 0 X 1 dL_cell_0 rfl ?_
  refine tu_aload_n 1 X 0 dL_cell_1 rfl ?_
  refine tw_slen 2 X dL_cell_2 (fun L9 xs9 hX9 hL9 => ?_)
  refine tu_icmp_ge 3 X 12 dL_cell_3 (by decide) (show tu_rg k from by first | assumption | exact ⟨by omega, by omega⟩) (show tu_rg ((L9 : Nat) : Int) from by first | assumption | exact ⟨by omega, by omega⟩) (fun br3 => ?_) (fun br3 => ?_)
  ·
    refine tu_ldc 12 X (n := 1000308061) dL_cell_12 kw_RL_7 (by decide) ?_
    refine tu_iload_n 14 X 1 dL_cell_14 rfl ?_
    refine tu_iconst 15 X dL_cell_15 ?_
    refine tu_iadd 16 X dL_cell_16 ?_
    refine tu_imul 17 X dL_cell_17 ?_
    refine tu_ldc 18 X (n := 784901875) dL_cell_18 kw_RL_8 (by decide) ?_
    refine tu_iadd 20 X dL_cell_20 ?_
    refine hret 21 _ _ ((1000308061 * (k + 1)) + 784901875) dL_cell_21 (fun h => by rw [hrt] at h; cases h) ?_
    exact ⟨_, rfl, rfl⟩
  ·
    refine tu_aload_n 6 X 0 dL_cell_6 rfl ?_
    refine tu_iload_n 7 X 1 dL_cell_7 rfl ?_
    refine tw_sld 8 X hX9 k.toNat dL_cell_8 (by omega) (by omega) hL9 ?_
    refine tu_goto 9 X 21 dL_cell_9 (by decide) ?_
    refine hret 21 _ _ ((xs9 k.toNat).toInt) dL_cell_21 (fun h => by rw [hrt] at h; cases h) ?_
    exact ⟨_, rfl, rfl⟩
set_option maxRecDepth 20000 in
set_option maxHeartbeats 4000000 in
theorem c_L_low {M : tu_M} (v : Int) (n : Nat) (hn : 0 < n ∧ n < 2147483648) : tu_MI tu_Y_L_low [tu_i v, tu_i ((n : Nat) : Int)] M (fun z M' => ∃ (j : Nat), M' = M ∧ (j < n) ∧ z = ((j : Nat) : Int)) := by
  obtain ⟨k9, hk9, ek9⟩ := tu_low v
  refine tu_MI.of (ty := .int) (by decide) rfl (by first | exact Or.inl rfl | exact Or.inr rfl) (Nat.le_of_ble_eq_true rfl) (fun T (X : tu_X T cL_low RL 0 0) hnl hrt hret => ?_)
  have hret : tu_RI T cL_low (fun z M' => ∃ (j : Nat), M' = M ∧ (j < n) ∧ z = ((j : Nat) : Int)) := hret
  have hnl : T.2.2.2.2.2.2.2.2.2.2.1 = 2 := hnl
  show tu_W T 0 [(0, tu_i v), (1, tu_i ((n : Nat) : Int))] [] M
  refine tu_iload_n 0 X 0 dL_low_0 rfl ?_
  refine tu_ldc 1 X (n := 2147483647) dL_low_1 kw_RL_9 (by decide) ?_
  refine tu_iand 3 X dL_low_3 ?_
  refine tu_tp (b := ((k9 : Nat) : Int)) (by exact ek9) ?_
  refine tu_iload_n 4 X 1 dL_low_4 rfl ?_
  refine tu_irem 5 X dL_low_5 (show tu_rg ((n : Nat) : Int) from by first | assumption | exact ⟨by omega, by omega⟩) (by omega) ?_
  refine tu_tp (b := ((k9 % n : Nat) : Int)) (by exact tu_rem_n hk9 hn.1 hn.2) ?_
  refine hret 6 _ _ ((k9 % n : Nat) : Int) dL_low_6 (fun h => by rw [hrt] at h; cases h) ?_
  exact ⟨k9 % n, rfl, Nat.mod_lt _ hn.1, rfl⟩
set_option maxRecDepth 20000 in
set_option maxHeartbeats 4000000 in
theorem c_L_bits {M : tu_M} (v : Int) (n : Nat) (f : Nat → Int) (hf : tu_mk v n f) (hn : n ≤ 9) (hv : tu_rg v) : tu_MI tu_Y_L_bits [tu_i v] M (fun z M' => M' = M ∧ z = tu_ti f 1 n) := by
  obtain ⟨U, hU, eU, pU⟩ := tz_mk_n hf hn hv
  refine tu_MI.of (ty := .int) (by decide) rfl (by first | exact Or.inl rfl | exact Or.inr rfl) (Nat.le_of_ble_eq_true rfl) (fun T (X : tu_X T cL_bits RL 0 0) hnl hrt hret => ?_)
  have hret : tu_RI T cL_bits (fun z M' => M' = M ∧ z = tu_ti f 1 n) := hret
  have hnl : T.2.2.2.2.2.2.2.2.2.2.1 = 3 := hnl
  show tu_W T 0 [(0, tu_i v)] [] M
  refine tu_iconst 0 X dL_bits_0 ?_
  refine tu_istore_n 1 X (lv' := [(1, tu_i 0), (0, tu_i v)]) dL_bits_1 (by rw [hnl]; decide) rfl ?_
  refine tu_iload_n 2 X 1 dL_bits_2 rfl ?_
  refine tu_tp (b := ((U : Nat) : Int)) (by exact eU) ?_
  refine tu_istore_n 3 X (lv' := [(2, tu_i ((U : Nat) : Int)), (1, tu_i 0), (0, tu_i v)]) dL_bits_3 (by rw [hnl]; decide) rfl ?_
  have lp4 : ∀ (nq : Nat) (u : Nat), (u < 512) → u < nq → tu_W T 4 [(0, tu_i v), (1, tu_i (tz_pb U - tz_pb u)), (2, tu_i ((u : Nat) : Int))] [] M := by
    intro nq
    induction nq with
    | zero => intros; omega
    | succ nq ih4 =>
      intro u hu hn4
      have hu9 := tz_pb_1 u hu
      refine tu_iload_n 4 X 2 dL_bits_4 rfl ?_
      refine tu_if_eq 5 X 20 dL_bits_5 (by decide) (show tu_rg ((u : Nat) : Int) from by first | assumption | exact ⟨by omega, by omega⟩) (fun br5 => ?_) (fun br5 => ?_)
      ·
        refine tu_iload_n 20 X 1 dL_bits_20 rfl ?_
        refine hret 21 _ _ (tz_pb U - tz_pb u) dL_bits_21 (fun h => by rw [hrt] at h; cases h) ?_
        exact ⟨rfl, by rw [show u = 0 from by omega, tz_pb_0, ← pU]; omega⟩
      ·
        have hu8 := hu9 (by omega)
        refine tu_iinc 8 X (lv' := [(1, tu_i ((tz_pb U - tz_pb u) + 1)), (0, tu_i v), (2, tu_i ((u : Nat) : Int))]) 1 dL_bits_8 rfl (by rw [hnl]; decide) rfl ?_
        refine tu_iload_n 11 X 2 dL_bits_11 rfl ?_
        refine tu_iload_n 12 X 2 dL_bits_12 rfl ?_
        refine tu_iconst 13 X dL_bits_13 ?_
        refine tu_isub 14 X dL_bits_14 ?_
        refine tu_iand 15 X dL_bits_15 ?_
        refine tu_tp (b := ((u &&& (u - 1) : Nat) : Int)) (by exact hu8.1) ?_
        refine tu_istore_n 16 X (lv' := [(2, tu_i ((u &&& (u - 1) : Nat) : Int)), (1, tu_i ((tz_pb U - tz_pb u) + 1)), (0, tu_i v)]) dL_bits_16 (by rw [hnl]; decide) rfl ?_
        refine tu_goto 17 X 4 dL_bits_17 (by decide) ?_
        refine tu_jmp [2, 1, 0] (lv' := [(0, tu_i v), (1, tu_i (tz_pb U - tz_pb (u &&& (u - 1)))), (2, tu_i (((u &&& (u - 1)) : Nat) : Int))]) ⟨rfl, tu_ei (by first | rfl | (omega)), tu_ei (by first | rfl | omega), trivial⟩ rfl (ih4 (u &&& (u - 1)) (by omega) (by omega))
  refine tu_jmp [2, 1, 0] (lv' := [(0, tu_i v), (1, tu_i (tz_pb U - tz_pb U)), (2, tu_i ((U : Nat) : Int))]) ⟨rfl, tu_ei (by first | rfl | (omega)), rfl, trivial⟩ rfl (lp4 (U + 1) U (by exact hU) (by omega))
set_option maxRecDepth 20000 in
set_option maxHeartbeats 4000000 in
theorem c_L_sung {M : tu_M} (l : Int) (hl : tu_rg l) (hq : 0 ≤ M 90 6 ∧ M 90 6 ≤ 40) (hr : ∀ k : Nat, (k : Int) < M 90 6 → tu_rg (M 88 k)) : tu_MI tu_Y_L_sung [tu_i l, tu_r 90, tu_r 88] M (fun z M' => M' = M ∧ z = tu_ti (M 88) l (M 90 6).toNat) := by
  refine tu_MI.of (ty := .int) (by decide) rfl (by first | exact Or.inl rfl | exact Or.inr rfl) (Nat.le_of_ble_eq_true rfl) (fun T (X : tu_X T cL_sung RL 0 0) hnl hrt hret => ?_)
  have hret : tu_RI T cL_sung (fun z M' => M' = M ∧ z = tu_ti (M 88) l (M 90 6).toNat) := hret
  have hnl : T.2.2.2.2.2.2.2.2.2.2.1 = 5 := hnl
  show tu_W T 0 [(0, tu_i l), (1, tu_r 90), (2, tu_r 88)] [] M
  refine tu_iconst 0 X dL_sung_0 ?_
  refine tu_istore_n 1 X (lv' := [(3, tu_i 0), (0, tu_i l), (1, tu_r 90), (2, tu_r 88)]) dL_sung_1 (by rw [hnl]; decide) rfl ?_
  refine tu_iconst 2 X dL_sung_2 ?_
  refine tu_istore 3 X (lv' := [(4, tu_i 0), (3, tu_i 0), (0, tu_i l), (1, tu_r 90), (2, tu_r 88)]) dL_sung_3 (by rw [hnl]; decide) rfl ?_
  have lp5 : ∀ (nq : Nat) (k : Nat), ((k : Int) ≤ M 90 6) → (M 90 6).toNat - k < nq → tu_W T 5 [(0, tu_i l), (1, tu_r 90), (2, tu_r 88), (3, tu_i (tu_ti (M 88) l k)), (4, tu_i ((k : Nat) : Int))] [] M := by
    intro nq
    induction nq with
    | zero => intros; omega
    | succ nq ih5 =>
      intro k hk hn5
      have e1 := tu_ti_01 (M 88) l k
      refine tu_iload 5 X 4 dL_sung_5 rfl ?_
      refine tu_aload_n 7 X 1 dL_sung_7 rfl ?_
      refine tu_bipush 8 X dL_sung_8 (by decide) ?_
      refine tu_iald 10 X (x := M 90 6) 6 dL_sung_10 (by decide) rfl (by decide) rfl (by decide) rfl ?_
      refine tu_icmp_ge 11 X 36 dL_sung_11 (by decide) (show tu_rg ((k : Nat) : Int) from by first | assumption | exact ⟨by omega, by omega⟩) (show tu_rg (M 90 6) from by first | assumption | exact ⟨by omega, by omega⟩) (fun br11 => ?_) (fun br11 => ?_)
      ·
        refine tu_iload_n 36 X 3 dL_sung_36 rfl ?_
        refine hret 37 _ _ (tu_ti (M 88) l k) dL_sung_37 (fun h => by rw [hrt] at h; cases h) ?_
        exact ⟨rfl, by rw [show (M 90 6).toNat = k from by omega]⟩
      ·
        refine tu_iload_n 14 X 3 dL_sung_14 rfl ?_
        refine tu_aload_n 15 X 2 dL_sung_15 rfl ?_
        refine tu_iload 16 X 4 dL_sung_16 rfl ?_
        have e2 := hr k (by omega)
        refine tu_iald 18 X (x := M 88 k) k dL_sung_18 (by decide) rfl (by decide) (by omega) (by omega) rfl ?_
        refine tu_iload_n 19 X 0 dL_sung_19 rfl ?_
        refine tu_icmp_ne 20 X 27 dL_sung_20 (by decide) (show tu_rg (M 88 k) from by first | assumption | exact ⟨by omega, by omega⟩) (show tu_rg l from by first | assumption | exact ⟨by omega, by omega⟩) (fun br20 => ?_) (fun br20 => ?_)
        ·
          refine tu_iconst 27 X dL_sung_27 ?_
          refine tu_iadd 28 X dL_sung_28 ?_
          refine tu_istore_n 29 X (lv' := [(3, tu_i (tu_ti (M 88) l k + 0)), (0, tu_i l), (1, tu_r 90), (2, tu_r 88), (4, tu_i ((k : Nat) : Int))]) dL_sung_29 (by rw [hnl]; decide) rfl ?_
          refine tu_iinc 30 X (lv' := [(4, tu_i (((k : Nat) : Int) + 1)), (3, tu_i (tu_ti (M 88) l k + 0)), (0, tu_i l), (1, tu_r 90), (2, tu_r 88)]) 4 dL_sung_30 rfl (by rw [hnl]; decide) rfl ?_
          refine tu_goto 33 X 5 dL_sung_33 (by decide) ?_
          refine tu_jmp [2, 3, 4, 1, 0] (lv' := [(0, tu_i l), (1, tu_r 90), (2, tu_r 88), (3, tu_i (tu_ti (M 88) l (k + 1))), (4, tu_i (((k + 1) : Nat) : Int))]) ⟨rfl, rfl, rfl, tu_ei (by first | rfl | (simp only [tu_ti]; split <;> omega)), tu_ei (by first | rfl | omega), trivial⟩ rfl (ih5 (k + 1) (by first | assumption | omega) (by omega))
        ·
          refine tu_iconst 23 X dL_sung_23 ?_
          refine tu_goto 24 X 28 dL_sung_24 (by decide) ?_
          refine tu_iadd 28 X dL_sung_28 ?_
          refine tu_istore_n 29 X (lv' := [(3, tu_i (tu_ti (M 88) l k + 1)), (0, tu_i l), (1, tu_r 90), (2, tu_r 88), (4, tu_i ((k : Nat) : Int))]) dL_sung_29 (by rw [hnl]; decide) rfl ?_
          refine tu_iinc 30 X (lv' := [(4, tu_i (((k : Nat) : Int) + 1)), (3, tu_i (tu_ti (M 88) l k + 1)), (0, tu_i l), (1, tu_r 90), (2, tu_r 88)]) 4 dL_sung_30 rfl (by rw [hnl]; decide) rfl ?_
          refine tu_goto 33 X 5 dL_sung_33 (by decide) ?_
          refine tu_jmp [2, 3, 4, 1, 0] (lv' := [(0, tu_i l), (1, tu_r 90), (2, tu_r 88), (3, tu_i (tu_ti (M 88) l (k + 1))), (4, tu_i (((k + 1) : Nat) : Int))]) ⟨rfl, rfl, rfl, tu_ei (by first | rfl | (simp only [tu_ti]; split <;> omega)), tu_ei (by first | rfl | omega), trivial⟩ rfl (ih5 (k + 1) (by first | assumption | omega) (by omega))
  refine tu_jmp [2, 3, 4, 1, 0] (lv' := [(0, tu_i l), (1, tu_r 90), (2, tu_r 88), (3, tu_i (tu_ti (M 88) l 0)), (4, tu_i 0)]) ⟨rfl, rfl, rfl, tu_ei (by first | rfl | (simp only [tu_ti]; split <;> omega)), rfl, trivial⟩ rfl (lp5 (((M 90 6).toNat - 0) + 1) 0 (by first | assumption | omega) (by omega))
