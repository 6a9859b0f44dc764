theorem tu_ps_v2 {f : Nat → Int} {k : Nat} (h : tu_kd (tu_ps f k) (f k) ≠ 0) : (tu_ps f (k + 1)).2 = if 0 < (tu_ps f k).2 ∧ f k = 59 then 0 else if (tu_ps f k).2 = 0 ∧ (tu_ps f k).1 = 0 ∧ f k = 124 then 0 else (tu_ps f k).2 + 1 := by
  rcases tu_kd_c h with ⟨e, a, b⟩ | ⟨e, a, b, c⟩ | ⟨e, a, b, c⟩ | ⟨e, a, b, c⟩
  · rw [tu_ps_4 e, if_pos ⟨a, b⟩]
  · rw [tu_ps_1 e, if_neg (by omega), if_pos ⟨a, b, c⟩]
  · rw [tu_ps_23 (Or.inl e), if_neg (by omega), if_neg (by omega)]
  · rw [tu_ps_23 (Or.inr e), if_neg (by omega), if_neg (by omega)]
theorem tu_ps_v1 {f : Nat → Int} {k : Nat} (h : tu_kd (tu_ps f k) (f k) ≠ 0) : (tu_ps f (k + 1)).1 = if 0 < (tu_ps f k).2 ∧ f k = 59 then 0 else if (tu_ps f k).2 = 0 ∧ (tu_ps f k).1 = 0 ∧ f k = 124 then 1 else (tu_ps f k).1 := by
  rcases tu_kd_c h with ⟨e, a, b⟩ | ⟨e, a, b, c⟩ | ⟨e, a, b, c⟩ | ⟨e, a, b, c⟩
  · rw [tu_ps_4 e, if_pos ⟨a, b⟩]
  · rw [tu_ps_1 e, if_neg (by omega), if_pos ⟨a, b, c⟩]
  · rw [tu_ps_23 (Or.inl e), if_neg (by omega), if_neg (by omega)]
  · rw [tu_ps_23 (Or.inr e), if_neg (by omega), if_neg (by omega)]
set_option maxRecDepth 20000 in
set_option maxHeartbeats 4000000 in
theorem c_X4_findFault {M : tu_M}  (hp : 0 ≤ M 86 6 ∧ M 86 6 ≤ 60) (hr : ∀ k9 : Nat, (k9 : Int) < M 86 6 → tu_rg (M 91 k9)) : tu_MI tu_Y_X4_findFault [tu_r 86] M (fun z M' => ∃ (w : Int), M' = M ∧ (tu_ft (M 91) (M 86 6).toNat w) ∧ z = w) := by
  refine tu_MI.of (ty := .int) (by decide) rfl (by first | exact Or.inl rfl | exact Or.inr rfl) (Nat.le_of_ble_eq_true rfl) (fun T (X : tu_X T cX4_findFault RX4 0 0) hnl hrt hret => ?_)
  have hret : tu_RI T cX4_findFault (fun z M' => ∃ (w : Int), M' = M ∧ (tu_ft (M 91) (M 86 6).toNat w) ∧ z = w) := hret
  have hnl : T.2.2.2.2.2.2.2.2.2.2.1 = 9 := hnl
  show tu_W T 0 [(0, tu_r 86)] [] M
  refine tu_iconst 0 X dX4_findFault_0 ?_
  refine tu_istore_n 1 X (lv' := [(1, tu_i 0), (0, tu_r 86)]) dX4_findFault_1 (by rw [hnl]; decide) rfl ?_
  refine tu_iconst 2 X dX4_findFault_2 ?_
  refine tu_istore_n 3 X (lv' := [(2, tu_i 0), (1, tu_i 0), (0, tu_r 86)]) dX4_findFault_3 (by rw [hnl]; decide) rfl ?_
  refine tu_iconst 4 X dX4_findFault_4 ?_
  refine tu_istore_n 5 X (lv' := [(3, tu_i 0), (2, tu_i 0), (1, tu_i 0), (0, tu_r 86)]) dX4_findFault_5 (by rw [hnl]; decide) rfl ?_
  have lp6 : ∀ (nq : Nat) (k : Nat), ((k : Int) ≤ M 86 6) → (∀ j, j < k → tu_kd (tu_ps (M 91) j) (M 91 j) ≠ 0) → (M 86 6).toNat - k < nq → tu_W T 6 [(0, tu_r 86), (1, tu_i ((tu_ps (M 91) k).2)), (2, tu_i ((tu_ps (M 91) k).1)), (3, tu_i ((k : Nat) : Int))] [] M := by
    intro nq
    induction nq with
    | zero => intros; omega
    | succ nq ih6 =>
      intro k hk hg hn6
      have e1 := tu_ps_in (M 91) k
      refine tu_iload_n 6 X 3 dX4_findFault_6 rfl ?_
      refine tu_aload_n 7 X 0 dX4_findFault_7 rfl ?_
      refine tu_getI 8 X (x := M 86 6) dX4_findFault_8 fl_RX4_134 (by decide) rfl rfl rfl ?_
      refine tu_icmp_ge 11 X 201 dX4_findFault_11 (by decide) (show tu_rg ((k : Nat) : Int) from by first | assumption | exact ⟨by omega, by omega⟩) (show tu_rg (M 86 6) from by first | assumption | exact ⟨by omega, by omega⟩) (fun br11 => ?_) (fun br11 => ?_)
      ·
        refine tu_iload_n 201 X 1 dX4_findFault_201 rfl ?_
        refine tu_if_le 202 X 210 dX4_findFault_202 (by decide) (show tu_rg ((tu_ps (M 91) k).2) from by first | assumption | exact ⟨by omega, by omega⟩) (fun br202 => ?_) (fun br202 => ?_)
        ·
          refine tu_aload_n 210 X 0 dX4_findFault_210 rfl ?_
          refine tu_getI 211 X (x := M 86 6) dX4_findFault_211 fl_RX4_134 (by decide) rfl rfl rfl ?_
          refine hret 214 _ _ (M 86 6) dX4_findFault_214 (fun h => by rw [hrt] at h; cases h) ?_
          refine ⟨_, rfl, Or.inr ⟨by rw [show (M 86 6).toNat = k from by omega]; exact hg, ?_⟩, rfl⟩
          rw [show (M 86 6).toNat = k from by omega]
          first | (rw [if_pos (by omega)]; done) | (rw [if_neg (by omega)]; omega)
        ·
          refine tu_bipush 205 X dX4_findFault_205 (by decide) ?_
          refine tu_goto 207 X 214 dX4_findFault_207 (by decide) ?_
          refine hret 214 _ _ (-6) dX4_findFault_214 (fun h => by rw [hrt] at h; cases h) ?_
          refine ⟨_, rfl, Or.inr ⟨by rw [show (M 86 6).toNat = k from by omega]; exact hg, ?_⟩, rfl⟩
          rw [show (M 86 6).toNat = k from by omega]
          first | (rw [if_pos (by omega)]; done) | (rw [if_neg (by omega)]; omega)
      ·
        have e4 := hr k (by omega)
        refine tu_aload_n 14 X 0 dX4_findFault_14 rfl ?_
        refine tu_getR 15 X dX4_findFault_15 fl_RX4_22 (by decide) rfl rfl ?_
        refine tu_iload_n 18 X 3 dX4_findFault_18 rfl ?_
        refine tu_iald 19 X (x := M 91 k) k dX4_findFault_19 (by decide) rfl (by decide) (by omega) (by omega) rfl ?_
        refine tu_istore 20 X (lv' := [(4, tu_i (M 91 k)), (0, tu_r 86), (1, tu_i ((tu_ps (M 91) k).2)), (2, tu_i ((tu_ps (M 91) k).1)), (3, tu_i ((k : Nat) : Int))]) dX4_findFault_20 (by rw [hnl]; decide) rfl ?_
        have lp42 : tu_W T 42 [(0, tu_r 86), (1, tu_i ((tu_ps (M 91) k).2)), (2, tu_i ((tu_ps (M 91) k).1)), (3, tu_i ((k : Nat) : Int)), (4, tu_i (M 91 k))] [tu_i (tu_b ((tu_ps (M 91) k).2 = 0 ∧ (tu_ps (M 91) k).1 = 0 ∧ M 91 k = 124))] M := by
            refine tu_istore 42 X (lv' := [(5, tu_i (tu_b ((tu_ps (M 91) k).2 = 0 ∧ (tu_ps (M 91) k).1 = 0 ∧ M 91 k = 124))), (0, tu_r 86), (1, tu_i ((tu_ps (M 91) k).2)), (2, tu_i ((tu_ps (M 91) k).1)), (3, tu_i ((k : Nat) : Int)), (4, tu_i (M 91 k))]) dX4_findFault_42 (by rw [hnl]; decide) rfl ?_
            have lp73 : tu_W T 73 [(0, tu_r 86), (1, tu_i ((tu_ps (M 91) k).2)), (2, tu_i ((tu_ps (M 91) k).1)), (3, tu_i ((k : Nat) : Int)), (4, tu_i (M 91 k)), (5, tu_i (tu_b ((tu_ps (M 91) k).2 = 0 ∧ (tu_ps (M 91) k).1 = 0 ∧ M 91 k = 124)))] [tu_i (tu_b ((tu_ps (M 91) k).1 = 0 ∧ (tu_ps (M 91) k).2 < 16 ∧ (M 91 k = 120 ∨ M 91 k = 88)))] M := by
                refine tu_istore 73 X (lv' := [(6, tu_i (tu_b ((tu_ps (M 91) k).1 = 0 ∧ (tu_ps (M 91) k).2 < 16 ∧ (M 91 k = 120 ∨ M 91 k = 88)))), (0, tu_r 86), (1, tu_i ((tu_ps (M 91) k).2)), (2, tu_i ((tu_ps (M 91) k).1)), (3, tu_i ((k : Nat) : Int)), (4, tu_i (M 91 k)), (5, tu_i (tu_b ((tu_ps (M 91) k).2 = 0 ∧ (tu_ps (M 91) k).1 = 0 ∧ M 91 k = 124)))]) dX4_findFault_73 (by rw [hnl]; decide) rfl ?_
                have lp111 : tu_W T 111 [(0, tu_r 86), (1, tu_i ((tu_ps (M 91) k).2)), (2, tu_i ((tu_ps (M 91) k).1)), (3, tu_i ((k : Nat) : Int)), (4, tu_i (M 91 k)), (5, tu_i (tu_b ((tu_ps (M 91) k).2 = 0 ∧ (tu_ps (M 91) k).1 = 0 ∧ M 91 k = 124))), (6, tu_i (tu_b ((tu_ps (M 91) k).1 = 0 ∧ (tu_ps (M 91) k).2 < 16 ∧ (M 91 k = 120 ∨ M 91 k = 88))))] [tu_i (tu_b ((tu_ps (M 91) k).1 = 1 ∧ (tu_ps (M 91) k).2 < 24 ∧ (M 91 k = 115 ∨ M 91 k = 119 ∨ M 91 k = 46)))] M := by
                    refine tu_istore 111 X (lv' := [(7, tu_i (tu_b ((tu_ps (M 91) k).1 = 1 ∧ (tu_ps (M 91) k).2 < 24 ∧ (M 91 k = 115 ∨ M 91 k = 119 ∨ M 91 k = 46)))), (0, tu_r 86), (1, tu_i ((tu_ps (M 91) k).2)), (2, tu_i ((tu_ps (M 91) k).1)), (3, tu_i ((k : Nat) : Int)), (4, tu_i (M 91 k)), (5, tu_i (tu_b ((tu_ps (M 91) k).2 = 0 ∧ (tu_ps (M 91) k).1 = 0 ∧ M 91 k = 124))), (6, tu_i (tu_b ((tu_ps (M 91) k).1 = 0 ∧ (tu_ps (M 91) k).2 < 16 ∧ (M 91 k = 120 ∨ M 91 k = 88))))]) dX4_findFault_111 (by rw [hnl]; decide) rfl ?_
                    have lp129 : tu_W T 129 [(0, tu_r 86), (1, tu_i ((tu_ps (M 91) k).2)), (2, tu_i ((tu_ps (M 91) k).1)), (3, tu_i ((k : Nat) : Int)), (4, tu_i (M 91 k)), (5, tu_i (tu_b ((tu_ps (M 91) k).2 = 0 ∧ (tu_ps (M 91) k).1 = 0 ∧ M 91 k = 124))), (6, tu_i (tu_b ((tu_ps (M 91) k).1 = 0 ∧ (tu_ps (M 91) k).2 < 16 ∧ (M 91 k = 120 ∨ M 91 k = 88)))), (7, tu_i (tu_b ((tu_ps (M 91) k).1 = 1 ∧ (tu_ps (M 91) k).2 < 24 ∧ (M 91 k = 115 ∨ M 91 k = 119 ∨ M 91 k = 46))))] [tu_i (tu_b (0 < (tu_ps (M 91) k).2 ∧ M 91 k = 59))] M := by
                        refine tu_istore 129 X (lv' := [(8, tu_i (tu_b (0 < (tu_ps (M 91) k).2 ∧ M 91 k = 59))), (0, tu_r 86), (1, tu_i ((tu_ps (M 91) k).2)), (2, tu_i ((tu_ps (M 91) k).1)), (3, tu_i ((k : Nat) : Int)), (4, tu_i (M 91 k)), (5, tu_i (tu_b ((tu_ps (M 91) k).2 = 0 ∧ (tu_ps (M 91) k).1 = 0 ∧ M 91 k = 124))), (6, tu_i (tu_b ((tu_ps (M 91) k).1 = 0 ∧ (tu_ps (M 91) k).2 < 16 ∧ (M 91 k = 120 ∨ M 91 k = 88)))), (7, tu_i (tu_b ((tu_ps (M 91) k).1 = 1 ∧ (tu_ps (M 91) k).2 < 24 ∧ (M 91 k = 115 ∨ M 91 k = 119 ∨ M 91 k = 46))))]) dX4_findFault_129 (by rw [hnl]; decide) rfl ?_
                        have lp153 : (tu_kd (tu_ps (M 91) k) (M 91 k) ≠ 0) → tu_W T 153 [(0, tu_r 86), (1, tu_i ((tu_ps (M 91) k).2)), (2, tu_i ((tu_ps (M 91) k).1)), (3, tu_i ((k : Nat) : Int)), (4, tu_i (M 91 k)), (5, tu_i (tu_b ((tu_ps (M 91) k).2 = 0 ∧ (tu_ps (M 91) k).1 = 0 ∧ M 91 k = 124))), (6, tu_i (tu_b ((tu_ps (M 91) k).1 = 0 ∧ (tu_ps (M 91) k).2 < 16 ∧ (M 91 k = 120 ∨ M 91 k = 88)))), (7, tu_i (tu_b ((tu_ps (M 91) k).1 = 1 ∧ (tu_ps (M 91) k).2 < 24 ∧ (M 91 k = 115 ∨ M 91 k = 119 ∨ M 91 k = 46)))), (8, tu_i (tu_b (0 < (tu_ps (M 91) k).2 ∧ M 91 k = 59)))] [] M := by
                            intro  kz
                            refine tu_iload 153 X 8 dX4_findFault_153 rfl ?_
                            refine tu_if_eq 155 X 162 dX4_findFault_155 (by decide) tu_b_rg (fun br155 => ?_) (fun br155 => ?_)
                            ·
                              have br155 := tu_b_e0 br155
                              refine tu_iload 162 X 5 dX4_findFault_162 rfl ?_
                              refine tu_if_eq 164 X 171 dX4_findFault_164 (by decide) tu_b_rg (fun br164 => ?_) (fun br164 => ?_)
                              ·
                                have br164 := tu_b_e0 br164
                                refine tu_iload_n 171 X 1 dX4_findFault_171 rfl ?_
                                refine tu_iconst 172 X dX4_findFault_172 ?_
                                refine tu_iadd 173 X dX4_findFault_173 ?_
                                refine tu_istore_n 174 X (lv' := [(1, tu_i ((tu_ps (M 91) k).2 + 1)), (0, tu_r 86), (2, tu_i ((tu_ps (M 91) k).1)), (3, tu_i ((k : Nat) : Int)), (4, tu_i (M 91 k)), (5, tu_i (tu_b ((tu_ps (M 91) k).2 = 0 ∧ (tu_ps (M 91) k).1 = 0 ∧ M 91 k = 124))), (6, tu_i (tu_b ((tu_ps (M 91) k).1 = 0 ∧ (tu_ps (M 91) k).2 < 16 ∧ (M 91 k = 120 ∨ M 91 k = 88)))), (7, tu_i (tu_b ((tu_ps (M 91) k).1 = 1 ∧ (tu_ps (M 91) k).2 < 24 ∧ (M 91 k = 115 ∨ M 91 k = 119 ∨ M 91 k = 46)))), (8, tu_i (tu_b (0 < (tu_ps (M 91) k).2 ∧ M 91 k = 59)))]) dX4_findFault_174 (by rw [hnl]; decide) rfl ?_
                                refine tu_iload 175 X 5 dX4_findFault_175 rfl ?_
                                refine tu_if_ne 177 X 189 dX4_findFault_177 (by decide) tu_b_rg (fun br177 => ?_) (fun br177 => ?_)
                                ·
                                  have br177 := tu_b_n0 br177
                                  refine tu_iconst 189 X dX4_findFault_189 ?_
                                  refine tu_goto 190 X 194 dX4_findFault_190 (by decide) ?_
                                  refine tu_istore_n 194 X (lv' := [(2, tu_i 1), (1, tu_i ((tu_ps (M 91) k).2 + 1)), (0, tu_r 86), (3, tu_i ((k : Nat) : Int)), (4, tu_i (M 91 k)), (5, tu_i (tu_b ((tu_ps (M 91) k).2 = 0 ∧ (tu_ps (M 91) k).1 = 0 ∧ M 91 k = 124))), (6, tu_i (tu_b ((tu_ps (M 91) k).1 = 0 ∧ (tu_ps (M 91) k).2 < 16 ∧ (M 91 k = 120 ∨ M 91 k = 88)))), (7, tu_i (tu_b ((tu_ps (M 91) k).1 = 1 ∧ (tu_ps (M 91) k).2 < 24 ∧ (M 91 k = 115 ∨ M 91 k = 119 ∨ M 91 k = 46)))), (8, tu_i (tu_b (0 < (tu_ps (M 91) k).2 ∧ M 91 k = 59)))]) dX4_findFault_194 (by rw [hnl]; decide) rfl ?_
                                  refine tu_iinc 195 X (lv' := [(3, tu_i (((k : Nat) : Int) + 1)), (2, tu_i 1), (1, tu_i ((tu_ps (M 91) k).2 + 1)), (0, tu_r 86), (4, tu_i (M 91 k)), (5, tu_i (tu_b ((tu_ps (M 91) k).2 = 0 ∧ (tu_ps (M 91) k).1 = 0 ∧ M 91 k = 124))), (6, tu_i (tu_b ((tu_ps (M 91) k).1 = 0 ∧ (tu_ps (M 91) k).2 < 16 ∧ (M 91 k = 120 ∨ M 91 k = 88)))), (7, tu_i (tu_b ((tu_ps (M 91) k).1 = 1 ∧ (tu_ps (M 91) k).2 < 24 ∧ (M 91 k = 115 ∨ M 91 k = 119 ∨ M 91 k = 46)))), (8, tu_i (tu_b (0 < (tu_ps (M 91) k).2 ∧ M 91 k = 59)))]) 3 dX4_findFault_195 rfl (by rw [hnl]; decide) rfl ?_
                                  refine tu_goto 198 X 6 dX4_findFault_198 (by decide) ?_
                                  refine tu_jmp [3, 2, 1, 0] (lv' := [(0, tu_r 86), (1, tu_i ((tu_ps (M 91) (k + 1)).2)), (2, tu_i ((tu_ps (M 91) (k + 1)).1)), (3, tu_i (((k + 1) : Nat) : Int))]) ⟨rfl, tu_ei (by first | rfl | (first | (have e9 := tu_ps_v2 kz; (repeat' split at e9) <;> omega) | omega)), tu_ei (by first | rfl | (first | (have e9 := tu_ps_v1 kz; (repeat' split at e9) <;> omega) | omega)), tu_ei (by first | rfl | omega), trivial⟩ rfl (ih6 (k + 1) (by first | assumption | omega) (by intro j hj; rcases Nat.lt_or_ge j k with q | q; exact hg j q; rw [show j = k from by omega]; exact kz) (by omega))
                                ·
                                  have br177 := tu_b_e0 br177
                                  refine tu_iload_n 180 X 2 dX4_findFault_180 rfl ?_
                                  refine tu_if_eq 181 X 193 dX4_findFault_181 (by decide) (show tu_rg ((tu_ps (M 91) k).1) from by first | assumption | exact ⟨by omega, by omega⟩) (fun br181 => ?_) (fun br181 => ?_)
                                  ·
                                    refine tu_iconst 193 X dX4_findFault_193 ?_
                                    refine tu_istore_n 194 X (lv' := [(2, tu_i 0), (1, tu_i ((tu_ps (M 91) k).2 + 1)), (0, tu_r 86), (3, tu_i ((k : Nat) : Int)), (4, tu_i (M 91 k)), (5, tu_i (tu_b ((tu_ps (M 91) k).2 = 0 ∧ (tu_ps (M 91) k).1 = 0 ∧ M 91 k = 124))), (6, tu_i (tu_b ((tu_ps (M 91) k).1 = 0 ∧ (tu_ps (M 91) k).2 < 16 ∧ (M 91 k = 120 ∨ M 91 k = 88)))), (7, tu_i (tu_b ((tu_ps (M 91) k).1 = 1 ∧ (tu_ps (M 91) k).2 < 24 ∧ (M 91 k = 115 ∨ M 91 k = 119 ∨ M 91 k = 46)))), (8, tu_i (tu_b (0 < (tu_ps (M 91) k).2 ∧ M 91 k = 59)))]) dX4_findFault_194 (by rw [hnl]; decide) rfl ?_
                                    refine tu_iinc 195 X (lv' := [(3, tu_i (((k : Nat) : Int) + 1)), (2, tu_i 0), (1, tu_i ((tu_ps (M 91) k).2 + 1)), (0, tu_r 86), (4, tu_i (M 91 k)), (5, tu_i (tu_b ((tu_ps (M 91) k).2 = 0 ∧ (tu_ps (M 91) k).1 = 0 ∧ M 91 k = 124))), (6, tu_i (tu_b ((tu_ps (M 91) k).1 = 0 ∧ (tu_ps (M 91) k).2 < 16 ∧ (M 91 k = 120 ∨ M 91 k = 88)))), (7, tu_i (tu_b ((tu_ps (M 91) k).1 = 1 ∧ (tu_ps (M 91) k).2 < 24 ∧ (M 91 k = 115 ∨ M 91 k = 119 ∨ M 91 k = 46)))), (8, tu_i (tu_b (0 < (tu_ps (M 91) k).2 ∧ M 91 k = 59)))]) 3 dX4_findFault_195 rfl (by rw [hnl]; decide) rfl ?_
                                    refine tu_goto 198 X 6 dX4_findFault_198 (by decide) ?_
                                    refine tu_jmp [3, 2, 1, 0] (lv' := [(0, tu_r 86), (1, tu_i ((tu_ps (M 91) (k + 1)).2)), (2, tu_i ((tu_ps (M 91) (k + 1)).1)), (3, tu_i (((k + 1) : Nat) : Int))]) ⟨rfl, tu_ei (by first | rfl | (first | (have e9 := tu_ps_v2 kz; (repeat' split at e9) <;> omega) | omega)), tu_ei (by first | rfl | (first | (have e9 := tu_ps_v1 kz; (repeat' split at e9) <;> omega) | omega)), tu_ei (by first | rfl | omega), trivial⟩ rfl (ih6 (k + 1) (by first | assumption | omega) (by intro j hj; rcases Nat.lt_or_ge j k with q | q; exact hg j q; rw [show j = k from by omega]; exact kz) (by omega))
                                  ·
                                    refine tu_iload 184 X 8 dX4_findFault_184 rfl ?_
                                    refine tu_if_ne 186 X 193 dX4_findFault_186 (by decide) tu_b_rg (fun br186 => ?_) (fun br186 => ?_)
                                    ·
                                      have br186 := tu_b_n0 br186
                                      refine tu_iconst 193 X dX4_findFault_193 ?_
                                      refine tu_istore_n 194 X (lv' := [(2, tu_i 0), (1, tu_i ((tu_ps (M 91) k).2 + 1)), (0, tu_r 86), (3, tu_i ((k : Nat) : Int)), (4, tu_i (M 91 k)), (5, tu_i (tu_b ((tu_ps (M 91) k).2 = 0 ∧ (tu_ps (M 91) k).1 = 0 ∧ M 91 k = 124))), (6, tu_i (tu_b ((tu_ps (M 91) k).1 = 0 ∧ (tu_ps (M 91) k).2 < 16 ∧ (M 91 k = 120 ∨ M 91 k = 88)))), (7, tu_i (tu_b ((tu_ps (M 91) k).1 = 1 ∧ (tu_ps (M 91) k).2 < 24 ∧ (M 91 k = 115 ∨ M 91 k = 119 ∨ M 91 k = 46)))), (8, tu_i (tu_b (0 < (tu_ps (M 91) k).2 ∧ M 91 k = 59)))]) dX4_findFault_194 (by rw [hnl]; decide) rfl ?_
                                      refine tu_iinc 195 X (lv' := [(3, tu_i (((k : Nat) : Int) + 1)), (2, tu_i 0), (1, tu_i ((tu_ps (M 91) k).2 + 1)), (0, tu_r 86), (4, tu_i (M 91 k)), (5, tu_i (tu_b ((tu_ps (M 91) k).2 = 0 ∧ (tu_ps (M 91) k).1 = 0 ∧ M 91 k = 124))), (6, tu_i (tu_b ((tu_ps (M 91) k).1 = 0 ∧ (tu_ps (M 91) k).2 < 16 ∧ (M 91 k = 120 ∨ M 91 k = 88)))), (7, tu_i (tu_b ((tu_ps (M 91) k).1 = 1 ∧ (tu_ps (M 91) k).2 < 24 ∧ (M 91 k = 115 ∨ M 91 k = 119 ∨ M 91 k = 46)))), (8, tu_i (tu_b (0 < (tu_ps (M 91) k).2 ∧ M 91 k = 59)))]) 3 dX4_findFault_195 rfl (by rw [hnl]; decide) rfl ?_
                                      refine tu_goto 198 X 6 dX4_findFault_198 (by decide) ?_
                                      refine tu_jmp [3, 2, 1, 0] (lv' := [(0, tu_r 86), (1, tu_i ((tu_ps (M 91) (k + 1)).2)), (2, tu_i ((tu_ps (M 91) (k + 1)).1)), (3, tu_i (((k + 1) : Nat) : Int))]) ⟨rfl, tu_ei (by first | rfl | (first | (have e9 := tu_ps_v2 kz; (repeat' split at e9) <;> omega) | omega)), tu_ei (by first | rfl | (first | (have e9 := tu_ps_v1 kz; (repeat' split at e9) <;> omega) | omega)), tu_ei (by first | rfl | omega), trivial⟩ rfl (ih6 (k + 1) (by first | assumption | omega) (by intro j hj; rcases Nat.lt_or_ge j k with q | q; exact hg j q; rw [show j = k from by omega]; exact kz) (by omega))
                                    ·
                                      have br186 := tu_b_e0 br186
                                      refine tu_iconst 189 X dX4_findFault_189 ?_
                                      refine tu_goto 190 X 194 dX4_findFault_190 (by decide) ?_
                                      refine tu_istore_n 194 X (lv' := [(2, tu_i 1), (1, tu_i ((tu_ps (M 91) k).2 + 1)), (0, tu_r 86), (3, tu_i ((k : Nat) : Int)), (4, tu_i (M 91 k)), (5, tu_i (tu_b ((tu_ps (M 91) k).2 = 0 ∧ (tu_ps (M 91) k).1 = 0 ∧ M 91 k = 124))), (6, tu_i (tu_b ((tu_ps (M 91) k).1 = 0 ∧ (tu_ps (M 91) k).2 < 16 ∧ (M 91 k = 120 ∨ M 91 k = 88)))), (7, tu_i (tu_b ((tu_ps (M 91) k).1 = 1 ∧ (tu_ps (M 91) k).2 < 24 ∧ (M 91 k = 115 ∨ M 91 k = 119 ∨ M 91 k = 46)))), (8, tu_i (tu_b (0 < (tu_ps (M 91) k).2 ∧ M 91 k = 59)))]) dX4_findFault_194 (by rw [hnl]; decide) rfl ?_
                                      refine tu_iinc 195 X (lv' := [(3, tu_i (((k : Nat) : Int) + 1)), (2, tu_i 1), (1, tu_i ((tu_ps (M 91) k).2 + 1)), (0, tu_r 86), (4, tu_i (M 91 k)), (5, tu_i (tu_b ((tu_ps (M 91) k).2 = 0 ∧ (tu_ps (M 91) k).1 = 0 ∧ M 91 k = 124))), (6, tu_i (tu_b ((tu_ps (M 91) k).1 = 0 ∧ (tu_ps (M 91) k).2 < 16 ∧ (M 91 k = 120 ∨ M 91 k = 88)))), (7, tu_i (tu_b ((tu_ps (M 91) k).1 = 1 ∧ (tu_ps (M 91) k).2 < 24 ∧ (M 91 k = 115 ∨ M 91 k = 119 ∨ M 91 k = 46)))), (8, tu_i (tu_b (0 < (tu_ps (M 91) k).2 ∧ M 91 k = 59)))]) 3 dX4_findFault_195 rfl (by rw [hnl]; decide) rfl ?_
                                      refine tu_goto 198 X 6 dX4_findFault_198 (by decide) ?_
                                      refine tu_jmp [3, 2, 1, 0] (lv' := [(0, tu_r 86), (1, tu_i ((tu_ps (M 91) (k + 1)).2)), (2, tu_i ((tu_ps (M 91) (k + 1)).1)), (3, tu_i (((k + 1) : Nat) : Int))]) ⟨rfl, tu_ei (by first | rfl | (first | (have e9 := tu_ps_v2 kz; (repeat' split at e9) <;> omega) | omega)), tu_ei (by first | rfl | (first | (have e9 := tu_ps_v1 kz; (repeat' split at e9) <;> omega) | omega)), tu_ei (by first | rfl | omega), trivial⟩ rfl (ih6 (k + 1) (by first | assumption | omega) (by intro j hj; rcases Nat.lt_or_ge j k with q | q; exact hg j q; rw [show j = k from by omega]; exact kz) (by omega))
                              ·
                                have br164 := tu_b_n0 br164
                                refine tu_iconst 167 X dX4_findFault_167 ?_
                                refine tu_goto 168 X 174 dX4_findFault_168 (by decide) ?_
                                refine tu_istore_n 174 X (lv' := [(1, tu_i 0), (0, tu_r 86), (2, tu_i ((tu_ps (M 91) k).1)), (3, tu_i ((k : Nat) : Int)), (4, tu_i (M 91 k)), (5, tu_i (tu_b ((tu_ps (M 91) k).2 = 0 ∧ (tu_ps (M 91) k).1 = 0 ∧ M 91 k = 124))), (6, tu_i (tu_b ((tu_ps (M 91) k).1 = 0 ∧ (tu_ps (M 91) k).2 < 16 ∧ (M 91 k = 120 ∨ M 91 k = 88)))), (7, tu_i (tu_b ((tu_ps (M 91) k).1 = 1 ∧ (tu_ps (M 91) k).2 < 24 ∧ (M 91 k = 115 ∨ M 91 k = 119 ∨ M 91 k = 46)))), (8, tu_i (tu_b (0 < (tu_ps (M 91) k).2 ∧ M 91 k = 59)))]) dX4_findFault_174 (by rw [hnl]; decide) rfl ?_
                                refine tu_iload 175 X 5 dX4_findFault_175 rfl ?_
                                refine tu_if_ne 177 X 189 dX4_findFault_177 (by decide) tu_b_rg (fun br177 => ?_) (fun br177 => ?_)
                                ·
                                  have br177 := tu_b_n0 br177
                                  refine tu_iconst 189 X dX4_findFault_189 ?_
                                  refine tu_goto 190 X 194 dX4_findFault_190 (by decide) ?_
                                  refine tu_istore_n 194 X (lv' := [(2, tu_i 1), (1, tu_i 0), (0, tu_r 86), (3, tu_i ((k : Nat) : Int)), (4, tu_i (M 91 k)), (5, tu_i (tu_b ((tu_ps (M 91) k).2 = 0 ∧ (tu_ps (M 91) k).1 = 0 ∧ M 91 k = 124))), (6, tu_i (tu_b ((tu_ps (M 91) k).1 = 0 ∧ (tu_ps (M 91) k).2 < 16 ∧ (M 91 k = 120 ∨ M 91 k = 88)))), (7, tu_i (tu_b ((tu_ps (M 91) k).1 = 1 ∧ (tu_ps (M 91) k).2 < 24 ∧ (M 91 k = 115 ∨ M 91 k = 119 ∨ M 91 k = 46)))), (8, tu_i (tu_b (0 < (tu_ps (M 91) k).2 ∧ M 91 k = 59)))]) dX4_findFault_194 (by rw [hnl]; decide) rfl ?_
                                  refine tu_iinc 195 X (lv' := [(3, tu_i (((k : Nat) : Int) + 1)), (2, tu_i 1), (1, tu_i 0), (0, tu_r 86), (4, tu_i (M 91 k)), (5, tu_i (tu_b ((tu_ps (M 91) k).2 = 0 ∧ (tu_ps (M 91) k).1 = 0 ∧ M 91 k = 124))), (6, tu_i (tu_b ((tu_ps (M 91) k).1 = 0 ∧ (tu_ps (M 91) k).2 < 16 ∧ (M 91 k = 120 ∨ M 91 k = 88)))), (7, tu_i (tu_b ((tu_ps (M 91) k).1 = 1 ∧ (tu_ps (M 91) k).2 < 24 ∧ (M 91 k = 115 ∨ M 91 k = 119 ∨ M 91 k = 46)))), (8, tu_i (tu_b (0 < (tu_ps (M 91) k).2 ∧ M 91 k = 59)))]) 3 dX4_findFault_195 rfl (by rw [hnl]; decide) rfl ?_
                                  refine tu_goto 198 X 6 dX4_findFault_198 (by decide) ?_
                                  refine tu_jmp [3, 2, 1, 0] (lv' := [(0, tu_r 86), (1, tu_i ((tu_ps (M 91) (k + 1)).2)), (2, tu_i ((tu_ps (M 91) (k + 1)).1)), (3, tu_i (((k + 1) : Nat) : Int))]) ⟨rfl, tu_ei (by first | rfl | (first | (have e9 := tu_ps_v2 kz; (repeat' split at e9) <;> omega) | omega)), tu_ei (by first | rfl | (first | (have e9 := tu_ps_v1 kz; (repeat' split at e9) <;> omega) | omega)), tu_ei (by first | rfl | omega), trivial⟩ rfl (ih6 (k + 1) (by first | assumption | omega) (by intro j hj; rcases Nat.lt_or_ge j k with q | q; exact hg j q; rw [show j = k from by omega]; exact kz) (by omega))
                                ·
                                  have br177 := tu_b_e0 br177
                                  refine tu_iload_n 180 X 2 dX4_findFault_180 rfl ?_
                                  refine tu_if_eq 181 X 193 dX4_findFault_181 (by decide) (show tu_rg ((tu_ps (M 91) k).1) from by first | assumption | exact ⟨by omega, by omega⟩) (fun br181 => ?_) (fun br181 => ?_)
                                  ·
                                    refine tu_iconst 193 X dX4_findFault_193 ?_
                                    refine tu_istore_n 194 X (lv' := [(2, tu_i 0), (1, tu_i 0), (0, tu_r 86), (3, tu_i ((k : Nat) : Int)), (4, tu_i (M 91 k)), (5, tu_i (tu_b ((tu_ps (M 91) k).2 = 0 ∧ (tu_ps (M 91) k).1 = 0 ∧ M 91 k = 124))), (6, tu_i (tu_b ((tu_ps (M 91) k).1 = 0 ∧ (tu_ps (M 91) k).2 < 16 ∧ (M 91 k = 120 ∨ M 91 k = 88)))), (7, tu_i (tu_b ((tu_ps (M 91) k).1 = 1 ∧ (tu_ps (M 91) k).2 < 24 ∧ (M 91 k = 115 ∨ M 91 k = 119 ∨ M 91 k = 46)))), (8, tu_i (tu_b (0 < (tu_ps (M 91) k).2 ∧ M 91 k = 59)))]) dX4_findFault_194 (by rw [hnl]; decide) rfl ?_
                                    refine tu_iinc 195 X (lv' := [(3, tu_i (((k : Nat) : Int) + 1)), (2, tu_i 0), (1, tu_i 0), (0, tu_r 86), (4, tu_i (M 91 k)), (5, tu_i (tu_b ((tu_ps (M 91) k).2 = 0 ∧ (tu_ps (M 91) k).1 = 0 ∧ M 91 k = 124))), (6, tu_i (tu_b ((tu_ps (M 91) k).1 = 0 ∧ (tu_ps (M 91) k).2 < 16 ∧ (M 91 k = 120 ∨ M 91 k = 88)))), (7, tu_i (tu_b ((tu_ps (M 91) k).1 = 1 ∧ (tu_ps (M 91) k).2 < 24 ∧ (M 91 k = 115 ∨ M 91 k = 119 ∨ M 91 k = 46)))), (8, tu_i (tu_b (0 < (tu_ps (M 91) k).2 ∧ M 91 k = 59)))]) 3 dX4_findFault_195 rfl (by rw [hnl]; decide) rfl ?_
                                    refine tu_goto 198 X 6 dX4_findFault_198 (by decide) ?_
                                    refine tu_jmp [3, 2, 1, 0] (lv' := [(0, tu_r 86), (1, tu_i ((tu_ps (M 91) (k + 1)).2)), (2, tu_i ((tu_ps (M 91) (k + 1)).1)), (3, tu_i (((k + 1) : Nat) : Int))]) ⟨rfl, tu_ei (by first | rfl | (first | (have e9 := tu_ps_v2 kz; (repeat' split at e9) <;> omega) | omega)), tu_ei (by first | rfl | (first | (have e9 := tu_ps_v1 kz; (repeat' split at e9) <;> omega) | omega)), tu_ei (by first | rfl | omega), trivial⟩ rfl (ih6 (k + 1) (by first | assumption | omega) (by intro j hj; rcases Nat.lt_or_ge j k with q | q; exact hg j q; rw [show j = k from by omega]; exact kz) (by omega))
                                  ·
                                    refine tu_iload 184 X 8 dX4_findFault_184 rfl ?_
                                    refine tu_if_ne 186 X 193 dX4_findFault_186 (by decide) tu_b_rg (fun br186 => ?_) (fun br186 => ?_)
                                    ·
                                      have br186 := tu_b_n0 br186
                                      refine tu_iconst 193 X dX4_findFault_193 ?_
                                      refine tu_istore_n 194 X (lv' := [(2, tu_i 0), (1, tu_i 0), (0, tu_r 86), (3, tu_i ((k : Nat) : Int)), (4, tu_i (M 91 k)), (5, tu_i (tu_b ((tu_ps (M 91) k).2 = 0 ∧ (tu_ps (M 91) k).1 = 0 ∧ M 91 k = 124))), (6, tu_i (tu_b ((tu_ps (M 91) k).1 = 0 ∧ (tu_ps (M 91) k).2 < 16 ∧ (M 91 k = 120 ∨ M 91 k = 88)))), (7, tu_i (tu_b ((tu_ps (M 91) k).1 = 1 ∧ (tu_ps (M 91) k).2 < 24 ∧ (M 91 k = 115 ∨ M 91 k = 119 ∨ M 91 k = 46)))), (8, tu_i (tu_b (0 < (tu_ps (M 91) k).2 ∧ M 91 k = 59)))]) dX4_findFault_194 (by rw [hnl]; decide) rfl ?_
                                      refine tu_iinc 195 X (lv' := [(3, tu_i (((k : Nat) : Int) + 1)), (2, tu_i 0), (1, tu_i 0), (0, tu_r 86), (4, tu_i (M 91 k)), (5, tu_i (tu_b ((tu_ps (M 91) k).2 = 0 ∧ (tu_ps (M 91) k).1 = 0 ∧ M 91 k = 124))), (6, tu_i (tu_b ((tu_ps (M 91) k).1 = 0 ∧ (tu_ps (M 91) k).2 < 16 ∧ (M 91 k = 120 ∨ M 91 k = 88)))), (7, tu_i (tu_b ((tu_ps (M 91) k).1 = 1 ∧ (tu_ps (M 91) k).2 < 24 ∧ (M 91 k = 115 ∨ M 91 k = 119 ∨ M 91 k = 46)))), (8, tu_i (tu_b (0 < (tu_ps (M 91) k).2 ∧ M 91 k = 59)))]) 3 dX4_findFault_195 rfl (by rw [hnl]; decide) rfl ?_
                                      refine tu_goto 198 X 6 dX4_findFault_198 (by decide) ?_
                                      refine tu_jmp [3, 2, 1, 0] (lv' := [(0, tu_r 86), (1, tu_i ((tu_ps (M 91) (k + 1)).2)), (2, tu_i ((tu_ps (M 91) (k + 1)).1)), (3, tu_i (((k + 1) : Nat) : Int))]) ⟨rfl, tu_ei (by first | rfl | (first | (have e9 := tu_ps_v2 kz; (repeat' split at e9) <;> omega) | omega)), tu_ei (by first | rfl | (first | (have e9 := tu_ps_v1 kz; (repeat' split at e9) <;> omega) | omega)), tu_ei (by first | rfl | omega), trivial⟩ rfl (ih6 (k + 1) (by first | assumption | omega) (by intro j hj; rcases Nat.lt_or_ge j k with q | q; exact hg j q; rw [show j = k from by omega]; exact kz) (by omega))
                                    ·
                                      have br186 := tu_b_e0 br186
                                      refine tu_iconst 189 X dX4_findFault_189 ?_
                                      refine tu_goto 190 X 194 dX4_findFault_190 (by decide) ?_
                                      refine tu_istore_n 194 X (lv' := [(2, tu_i 1), (1, tu_i 0), (0, tu_r 86), (3, tu_i ((k : Nat) : Int)), (4, tu_i (M 91 k)), (5, tu_i (tu_b ((tu_ps (M 91) k).2 = 0 ∧ (tu_ps (M 91) k).1 = 0 ∧ M 91 k = 124))), (6, tu_i (tu_b ((tu_ps (M 91) k).1 = 0 ∧ (tu_ps (M 91) k).2 < 16 ∧ (M 91 k = 120 ∨ M 91 k = 88)))), (7, tu_i (tu_b ((tu_ps (M 91) k).1 = 1 ∧ (tu_ps (M 91) k).2 < 24 ∧ (M 91 k = 115 ∨ M 91 k = 119 ∨ M 91 k = 46)))), (8, tu_i (tu_b (0 < (tu_ps (M 91) k).2 ∧ M 91 k = 59)))]) dX4_findFault_194 (by rw [hnl]; decide) rfl ?_
                                      refine tu_iinc 195 X (lv' := [(3, tu_i (((k : Nat) : Int) + 1)), (2, tu_i 1), (1, tu_i 0), (0, tu_r 86), (4, tu_i (M 91 k)), (5, tu_i (tu_b ((tu_ps (M 91) k).2 = 0 ∧ (tu_ps (M 91) k).1 = 0 ∧ M 91 k = 124))), (6, tu_i (tu_b ((tu_ps (M 91) k).1 = 0 ∧ (tu_ps (M 91) k).2 < 16 ∧ (M 91 k = 120 ∨ M 91 k = 88)))), (7, tu_i (tu_b ((tu_ps (M 91) k).1 = 1 ∧ (tu_ps (M 91) k).2 < 24 ∧ (M 91 k = 115 ∨ M 91 k = 119 ∨ M 91 k = 46)))), (8, tu_i (tu_b (0 < (tu_ps (M 91) k).2 ∧ M 91 k = 59)))]) 3 dX4_findFault_195 rfl (by rw [hnl]; decide) rfl ?_
                                      refine tu_goto 198 X 6 dX4_findFault_198 (by decide) ?_
                                      refine tu_jmp [3, 2, 1, 0] (lv' := [(0, tu_r 86), (1, tu_i ((tu_ps (M 91) (k + 1)).2)), (2, tu_i ((tu_ps (M 91) (k + 1)).1)), (3, tu_i (((k + 1) : Nat) : Int))]) ⟨rfl, tu_ei (by first | rfl | (first | (have e9 := tu_ps_v2 kz; (repeat' split at e9) <;> omega) | omega)), tu_ei (by first | rfl | (first | (have e9 := tu_ps_v1 kz; (repeat' split at e9) <;> omega) | omega)), tu_ei (by first | rfl | omega), trivial⟩ rfl (ih6 (k + 1) (by first | assumption | omega) (by intro j hj; rcases Nat.lt_or_ge j k with q | q; exact hg j q; rw [show j = k from by omega]; exact kz) (by omega))
                            ·
                              have br155 := tu_b_n0 br155
                              refine tu_iconst 158 X dX4_findFault_158 ?_
                              refine tu_goto 159 X 174 dX4_findFault_159 (by decide) ?_
                              refine tu_istore_n 174 X (lv' := [(1, tu_i 0), (0, tu_r 86), (2, tu_i ((tu_ps (M 91) k).1)), (3, tu_i ((k : Nat) : Int)), (4, tu_i (M 91 k)), (5, tu_i (tu_b ((tu_ps (M 91) k).2 = 0 ∧ (tu_ps (M 91) k).1 = 0 ∧ M 91 k = 124))), (6, tu_i (tu_b ((tu_ps (M 91) k).1 = 0 ∧ (tu_ps (M 91) k).2 < 16 ∧ (M 91 k = 120 ∨ M 91 k = 88)))), (7, tu_i (tu_b ((tu_ps (M 91) k).1 = 1 ∧ (tu_ps (M 91) k).2 < 24 ∧ (M 91 k = 115 ∨ M 91 k = 119 ∨ M 91 k = 46)))), (8, tu_i (tu_b (0 < (tu_ps (M 91) k).2 ∧ M 91 k = 59)))]) dX4_findFault_174 (by rw [hnl]; decide) rfl ?_
                              refine tu_iload 175 X 5 dX4_findFault_175 rfl ?_
                              refine tu_if_ne 177 X 189 dX4_findFault_177 (by decide) tu_b_rg (fun br177 => ?_) (fun br177 => ?_)
                              ·
                                have br177 := tu_b_n0 br177
                                refine tu_iconst 189 X dX4_findFault_189 ?_
                                refine tu_goto 190 X 194 dX4_findFault_190 (by decide) ?_
                                refine tu_istore_n 194 X (lv' := [(2, tu_i 1), (1, tu_i 0), (0, tu_r 86), (3, tu_i ((k : Nat) : Int)), (4, tu_i (M 91 k)), (5, tu_i (tu_b ((tu_ps (M 91) k).2 = 0 ∧ (tu_ps (M 91) k).1 = 0 ∧ M 91 k = 124))), (6, tu_i (tu_b ((tu_ps (M 91) k).1 = 0 ∧ (tu_ps (M 91) k).2 < 16 ∧ (M 91 k = 120 ∨ M 91 k = 88)))), (7, tu_i (tu_b ((tu_ps (M 91) k).1 = 1 ∧ (tu_ps (M 91) k).2 < 24 ∧ (M 91 k = 115 ∨ M 91 k = 119 ∨ M 91 k = 46)))), (8, tu_i (tu_b (0 < (tu_ps (M 91) k).2 ∧ M 91 k = 59)))]) dX4_findFault_194 (by rw [hnl]; decide) rfl ?_
                                refine tu_iinc 195 X (lv' := [(3, tu_i (((k : Nat) : Int) + 1)), (2, tu_i 1), (1, tu_i 0), (0, tu_r 86), (4, tu_i (M 91 k)), (5, tu_i (tu_b ((tu_ps (M 91) k).2 = 0 ∧ (tu_ps (M 91) k).1 = 0 ∧ M 91 k = 124))), (6, tu_i (tu_b ((tu_ps (M 91) k).1 = 0 ∧ (tu_ps (M 91) k).2 < 16 ∧ (M 91 k = 120 ∨ M 91 k = 88)))), (7, tu_i (tu_b ((tu_ps (M 91) k).1 = 1 ∧ (tu_ps (M 91) k).2 < 24 ∧ (M 91 k = 115 ∨ M 91 k = 119 ∨ M 91 k = 46)))), (8, tu_i (tu_b (0 < (tu_ps (M 91) k).2 ∧ M 91 k = 59)))]) 3 dX4_findFault_195 rfl (by rw [hnl]; decide) rfl ?_
                                refine tu_goto 198 X 6 dX4_findFault_198 (by decide) ?_
                                refine tu_jmp [3, 2, 1, 0] (lv' := [(0, tu_r 86), (1, tu_i ((tu_ps (M 91) (k + 1)).2)), (2, tu_i ((tu_ps (M 91) (k + 1)).1)), (3, tu_i (((k + 1) : Nat) : Int))]) ⟨rfl, tu_ei (by first | rfl | (first | (have e9 := tu_ps_v2 kz; (repeat' split at e9) <;> omega) | omega)), tu_ei (by first | rfl | (first | (have e9 := tu_ps_v1 kz; (repeat' split at e9) <;> omega) | omega)), tu_ei (by first | rfl | omega), trivial⟩ rfl (ih6 (k + 1) (by first | assumption | omega) (by intro j hj; rcases Nat.lt_or_ge j k with q | q; exact hg j q; rw [show j = k from by omega]; exact kz) (by omega))
                              ·
                                have br177 := tu_b_e0 br177
                                refine tu_iload_n 180 X 2 dX4_findFault_180 rfl ?_
                                refine tu_if_eq 181 X 193 dX4_findFault_181 (by decide) (show tu_rg ((tu_ps (M 91) k).1) from by first | assumption | exact ⟨by omega, by omega⟩) (fun br181 => ?_) (fun br181 => ?_)
                                ·
                                  refine tu_iconst 193 X dX4_findFault_193 ?_
                                  refine tu_istore_n 194 X (lv' := [(2, tu_i 0), (1, tu_i 0), (0, tu_r 86), (3, tu_i ((k : Nat) : Int)), (4, tu_i (M 91 k)), (5, tu_i (tu_b ((tu_ps (M 91) k).2 = 0 ∧ (tu_ps (M 91) k).1 = 0 ∧ M 91 k = 124))), (6, tu_i (tu_b ((tu_ps (M 91) k).1 = 0 ∧ (tu_ps (M 91) k).2 < 16 ∧ (M 91 k = 120 ∨ M 91 k = 88)))), (7, tu_i (tu_b ((tu_ps (M 91) k).1 = 1 ∧ (tu_ps (M 91) k).2 < 24 ∧ (M 91 k = 115 ∨ M 91 k = 119 ∨ M 91 k = 46)))), (8, tu_i (tu_b (0 < (tu_ps (M 91) k).2 ∧ M 91 k = 59)))]) dX4_findFault_194 (by rw [hnl]; decide) rfl ?_
                                  refine tu_iinc 195 X (lv' := [(3, tu_i (((k : Nat) : Int) + 1)), (2, tu_i 0), (1, tu_i 0), (0, tu_r 86), (4, tu_i (M 91 k)), (5, tu_i (tu_b ((tu_ps (M 91) k).2 = 0 ∧ (tu_ps (M 91) k).1 = 0 ∧ M 91 k = 124))), (6, tu_i (tu_b ((tu_ps (M 91) k).1 = 0 ∧ (tu_ps (M 91) k).2 < 16 ∧ (M 91 k = 120 ∨ M 91 k = 88)))), (7, tu_i (tu_b ((tu_ps (M 91) k).1 = 1 ∧ (tu_ps (M 91) k).2 < 24 ∧ (M 91 k = 115 ∨ M 91 k = 119 ∨ M 91 k = 46)))), (8, tu_i (tu_b (0 < (tu_ps (M 91) k).2 ∧ M 91 k = 59)))]) 3 dX4_findFault_195 rfl (by rw [hnl]; decide) rfl ?_
                                  refine tu_goto 198 X 6 dX4_findFault_198 (by decide) ?_
                                  refine tu_jmp [3, 2, 1, 0] (lv' := [(0, tu_r 86), (1, tu_i ((tu_ps (M 91) (k + 1)).2)), (2, tu_i ((tu_ps (M 91) (k + 1)).1)), (3, tu_i (((k + 1) : Nat) : Int))]) ⟨rfl, tu_ei (by first | rfl | (first | (have e9 := tu_ps_v2 kz; (repeat' split at e9) <;> omega) | omega)), tu_ei (by first | rfl | (first | (have e9 := tu_ps_v1 kz; (repeat' split at e9) <;> omega) | omega)), tu_ei (by first | rfl | omega), trivial⟩ rfl (ih6 (k + 1) (by first | assumption | omega) (by intro j hj; rcases Nat.lt_or_ge j k with q | q; exact hg j q; rw [show j = k from by omega]; exact kz) (by omega))
                                ·
                                  refine tu_iload 184 X 8 dX4_findFault_184 rfl ?_
                                  refine tu_if_ne 186 X 193 dX4_findFault_186 (by decide) tu_b_rg (fun br186 => ?_) (fun br186 => ?_)
                                  ·
                                    have br186 := tu_b_n0 br186
                                    refine tu_iconst 193 X dX4_findFault_193 ?_
                                    refine tu_istore_n 194 X (lv' := [(2, tu_i 0), (1, tu_i 0), (0, tu_r 86), (3, tu_i ((k : Nat) : Int)), (4, tu_i (M 91 k)), (5, tu_i (tu_b ((tu_ps (M 91) k).2 = 0 ∧ (tu_ps (M 91) k).1 = 0 ∧ M 91 k = 124))), (6, tu_i (tu_b ((tu_ps (M 91) k).1 = 0 ∧ (tu_ps (M 91) k).2 < 16 ∧ (M 91 k = 120 ∨ M 91 k = 88)))), (7, tu_i (tu_b ((tu_ps (M 91) k).1 = 1 ∧ (tu_ps (M 91) k).2 < 24 ∧ (M 91 k = 115 ∨ M 91 k = 119 ∨ M 91 k = 46)))), (8, tu_i (tu_b (0 < (tu_ps (M 91) k).2 ∧ M 91 k = 59)))]) dX4_findFault_194 (by rw [hnl]; decide) rfl ?_
                                    refine tu_iinc 195 X (lv' := [(3, tu_i (((k : Nat) : Int) + 1)), (2, tu_i 0), (1, tu_i 0), (0, tu_r 86), (4, tu_i (M 91 k)), (5, tu_i (tu_b ((tu_ps (M 91) k).2 = 0 ∧ (tu_ps (M 91) k).1 = 0 ∧ M 91 k = 124))), (6, tu_i (tu_b ((tu_ps (M 91) k).1 = 0 ∧ (tu_ps (M 91) k).2 < 16 ∧ (M 91 k = 120 ∨ M 91 k = 88)))), (7, tu_i (tu_b ((tu_ps (M 91) k).1 = 1 ∧ (tu_ps (M 91) k).2 < 24 ∧ (M 91 k = 115 ∨ M 91 k = 119 ∨ M 91 k = 46)))), (8, tu_i (tu_b (0 < (tu_ps (M 91) k).2 ∧ M 91 k = 59)))]) 3 dX4_findFault_195 rfl (by rw [hnl]; decide) rfl ?_
                                    refine tu_goto 198 X 6 dX4_findFault_198 (by decide) ?_
                                    refine tu_jmp [3, 2, 1, 0] (lv' := [(0, tu_r 86), (1, tu_i ((tu_ps (M 91) (k + 1)).2)), (2, tu_i ((tu_ps (M 91) (k + 1)).1)), (3, tu_i (((k + 1) : Nat) : Int))]) ⟨rfl, tu_ei (by first | rfl | (first | (have e9 := tu_ps_v2 kz; (repeat' split at e9) <;> omega) | omega)), tu_ei (by first | rfl | (first | (have e9 := tu_ps_v1 kz; (repeat' split at e9) <;> omega) | omega)), tu_ei (by first | rfl | omega), trivial⟩ rfl (ih6 (k + 1) (by first | assumption | omega) (by intro j hj; rcases Nat.lt_or_ge j k with q | q; exact hg j q; rw [show j = k from by omega]; exact kz) (by omega))
                                  ·
                                    have br186 := tu_b_e0 br186
                                    refine tu_iconst 189 X dX4_findFault_189 ?_
                                    refine tu_goto 190 X 194 dX4_findFault_190 (by decide) ?_
                                    refine tu_istore_n 194 X (lv' := [(2, tu_i 1), (1, tu_i 0), (0, tu_r 86), (3, tu_i ((k : Nat) : Int)), (4, tu_i (M 91 k)), (5, tu_i (tu_b ((tu_ps (M 91) k).2 = 0 ∧ (tu_ps (M 91) k).1 = 0 ∧ M 91 k = 124))), (6, tu_i (tu_b ((tu_ps (M 91) k).1 = 0 ∧ (tu_ps (M 91) k).2 < 16 ∧ (M 91 k = 120 ∨ M 91 k = 88)))), (7, tu_i (tu_b ((tu_ps (M 91) k).1 = 1 ∧ (tu_ps (M 91) k).2 < 24 ∧ (M 91 k = 115 ∨ M 91 k = 119 ∨ M 91 k = 46)))), (8, tu_i (tu_b (0 < (tu_ps (M 91) k).2 ∧ M 91 k = 59)))]) dX4_findFault_194 (by rw [hnl]; decide) rfl ?_
                                    refine tu_iinc 195 X (lv' := [(3, tu_i (((k : Nat) : Int) + 1)), (2, tu_i 1), (1, tu_i 0), (0, tu_r 86), (4, tu_i (M 91 k)), (5, tu_i (tu_b ((tu_ps (M 91) k).2 = 0 ∧ (tu_ps (M 91) k).1 = 0 ∧ M 91 k = 124))), (6, tu_i (tu_b ((tu_ps (M 91) k).1 = 0 ∧ (tu_ps (M 91) k).2 < 16 ∧ (M 91 k = 120 ∨ M 91 k = 88)))), (7, tu_i (tu_b ((tu_ps (M 91) k).1 = 1 ∧ (tu_ps (M 91) k).2 < 24 ∧ (M 91 k = 115 ∨ M 91 k = 119 ∨ M 91 k = 46)))), (8, tu_i (tu_b (0 < (tu_ps (M 91) k).2 ∧ M 91 k = 59)))]) 3 dX4_findFault_195 rfl (by rw [hnl]; decide) rfl ?_
                                    refine tu_goto 198 X 6 dX4_findFault_198 (by decide) ?_
                                    refine tu_jmp [3, 2, 1, 0] (lv' := [(0, tu_r 86), (1, tu_i ((tu_ps (M 91) (k + 1)).2)), (2, tu_i ((tu_ps (M 91) (k + 1)).1)), (3, tu_i (((k + 1) : Nat) : Int))]) ⟨rfl, tu_ei (by first | rfl | (first | (have e9 := tu_ps_v2 kz; (repeat' split at e9) <;> omega) | omega)), tu_ei (by first | rfl | (first | (have e9 := tu_ps_v1 kz; (repeat' split at e9) <;> omega) | omega)), tu_ei (by first | rfl | omega), trivial⟩ rfl (ih6 (k + 1) (by first | assumption | omega) (by intro j hj; rcases Nat.lt_or_ge j k with q | q; exact hg j q; rw [show j = k from by omega]; exact kz) (by omega))
                        refine tu_iload 131 X 6 dX4_findFault_131 rfl ?_
                        refine tu_if_ne 133 X 153 dX4_findFault_133 (by decide) tu_b_rg (fun br133 => ?_) (fun br133 => ?_)
                        ·
                          have br133 := tu_b_n0 br133
                          refine tu_jmp [1, 2, 3, 4, 5, 6, 7, 8, 0] (lv' := [(0, tu_r 86), (1, tu_i ((tu_ps (M 91) k).2)), (2, tu_i ((tu_ps (M 91) k).1)), (3, tu_i ((k : Nat) : Int)), (4, tu_i (M 91 k)), (5, tu_i (tu_b ((tu_ps (M 91) k).2 = 0 ∧ (tu_ps (M 91) k).1 = 0 ∧ M 91 k = 124))), (6, tu_i (tu_b ((tu_ps (M 91) k).1 = 0 ∧ (tu_ps (M 91) k).2 < 16 ∧ (M 91 k = 120 ∨ M 91 k = 88)))), (7, tu_i (tu_b ((tu_ps (M 91) k).1 = 1 ∧ (tu_ps (M 91) k).2 < 24 ∧ (M 91 k = 115 ∨ M 91 k = 119 ∨ M 91 k = 46)))), (8, tu_i (tu_b (0 < (tu_ps (M 91) k).2 ∧ M 91 k = 59)))]) ⟨rfl, rfl, rfl, rfl, rfl, rfl, rfl, rfl, rfl, trivial⟩ rfl (lp153 (by unfold tu_kd; (repeat' split) <;> omega))
                        ·
                          have br133 := tu_b_e0 br133
                          refine tu_iload 136 X 7 dX4_findFault_136 rfl ?_
                          refine tu_if_ne 138 X 153 dX4_findFault_138 (by decide) tu_b_rg (fun br138 => ?_) (fun br138 => ?_)
                          ·
                            have br138 := tu_b_n0 br138
                            refine tu_jmp [1, 2, 3, 4, 5, 6, 7, 8, 0] (lv' := [(0, tu_r 86), (1, tu_i ((tu_ps (M 91) k).2)), (2, tu_i ((tu_ps (M 91) k).1)), (3, tu_i ((k : Nat) : Int)), (4, tu_i (M 91 k)), (5, tu_i (tu_b ((tu_ps (M 91) k).2 = 0 ∧ (tu_ps (M 91) k).1 = 0 ∧ M 91 k = 124))), (6, tu_i (tu_b ((tu_ps (M 91) k).1 = 0 ∧ (tu_ps (M 91) k).2 < 16 ∧ (M 91 k = 120 ∨ M 91 k = 88)))), (7, tu_i (tu_b ((tu_ps (M 91) k).1 = 1 ∧ (tu_ps (M 91) k).2 < 24 ∧ (M 91 k = 115 ∨ M 91 k = 119 ∨ M 91 k = 46)))), (8, tu_i (tu_b (0 < (tu_ps (M 91) k).2 ∧ M 91 k = 59)))]) ⟨rfl, rfl, rfl, rfl, rfl, rfl, rfl, rfl, rfl, trivial⟩ rfl (lp153 (by unfold tu_kd; (repeat' split) <;> omega))
                          ·
                            have br138 := tu_b_e0 br138
                            refine tu_iload 141 X 8 dX4_findFault_141 rfl ?_
                            refine tu_if_ne 143 X 153 dX4_findFault_143 (by decide) tu_b_rg (fun br143 => ?_) (fun br143 => ?_)
                            ·
                              have br143 := tu_b_n0 br143
                              refine tu_jmp [1, 2, 3, 4, 5, 6, 7, 8, 0] (lv' := [(0, tu_r 86), (1, tu_i ((tu_ps (M 91) k).2)), (2, tu_i ((tu_ps (M 91) k).1)), (3, tu_i ((k : Nat) : Int)), (4, tu_i (M 91 k)), (5, tu_i (tu_b ((tu_ps (M 91) k).2 = 0 ∧ (tu_ps (M 91) k).1 = 0 ∧ M 91 k = 124))), (6, tu_i (tu_b ((tu_ps (M 91) k).1 = 0 ∧ (tu_ps (M 91) k).2 < 16 ∧ (M 91 k = 120 ∨ M 91 k = 88)))), (7, tu_i (tu_b ((tu_ps (M 91) k).1 = 1 ∧ (tu_ps (M 91) k).2 < 24 ∧ (M 91 k = 115 ∨ M 91 k = 119 ∨ M 91 k = 46)))), (8, tu_i (tu_b (0 < (tu_ps (M 91) k).2 ∧ M 91 k = 59)))]) ⟨rfl, rfl, rfl, rfl, rfl, rfl, rfl, rfl, rfl, trivial⟩ rfl (lp153 (by unfold tu_kd; (repeat' split) <;> omega))
                            ·
                              have br143 := tu_b_e0 br143
                              refine tu_iload 146 X 0 dX4_findFault_146 rfl ?_
                              refine tu_if_ne 148 X 153 dX4_findFault_148 (by decide) tu_b_rg (fun br148 => ?_) (fun br148 => ?_)
                              ·
                                have br148 := tu_b_n0 br148
                                refine tu_jmp [1, 2, 3, 4, 5, 6, 7, 8, 0] (lv' := [(0, tu_r 86), (1, tu_i ((tu_ps (M 91) k).2)), (2, tu_i ((tu_ps (M 91) k).1)), (3, tu_i ((k : Nat) : Int)), (4, tu_i (M 91 k)), (5, tu_i (tu_b ((tu_ps (M 91) k).2 = 0 ∧ (tu_ps (M 91) k).1 = 0 ∧ M 91 k = 124))), (6, tu_i (tu_b ((tu_ps (M 91) k).1 = 0 ∧ (tu_ps (M 91) k).2 < 16 ∧ (M 91 k = 120 ∨ M 91 k = 88)))), (7, tu_i (tu_b ((tu_ps (M 91) k).1 = 1 ∧ (tu_ps (M 91) k).2 < 24 ∧ (M 91 k = 115 ∨ M 91 k = 119 ∨ M 91 k = 46)))), (8, tu_i (tu_b (0 < (tu_ps (M 91) k).2 ∧ M 91 k = 59)))]) ⟨rfl, rfl, rfl, rfl, rfl, rfl, rfl, rfl, rfl, trivial⟩ rfl (lp153 (by unfold tu_kd; (repeat' split) <;> omega))
                              ·
                                have br148 := tu_b_e0 br148
                                refine tu_iload_n 151 X 4 dX4_findFault_151 rfl ?_
                                refine hret 152 _ _ ((k : Nat) : Int) dX4_findFault_152 (fun h => by rw [hrt] at h; cases h) ?_
                                exact ⟨_, rfl, Or.inl ⟨k, by omega, rfl, by unfold tu_kd; (repeat' split) <;> omega, hg⟩, rfl⟩
                    refine tu_iload_n 113 X 2 dX4_findFault_113 rfl ?_
                    refine tu_if_le 114 X 128 dX4_findFault_114 (by decide) (show tu_rg ((tu_ps (M 91) k).2) from by first | assumption | exact ⟨by omega, by omega⟩) (fun br114 => ?_) (fun br114 => ?_)
                    ·
                      refine tu_iconst 128 X dX4_findFault_128 ?_
                      refine tu_tp (b := tu_b (0 < (tu_ps (M 91) k).2 ∧ M 91 k = 59)) (by exact (tu_b0 (by omega)).symm) ?_
                      refine tu_jmp [1, 2, 3, 4, 5, 6, 7, 0] (lv' := [(0, tu_r 86), (1, tu_i ((tu_ps (M 91) k).2)), (2, tu_i ((tu_ps (M 91) k).1)), (3, tu_i ((k : Nat) : Int)), (4, tu_i (M 91 k)), (5, tu_i (tu_b ((tu_ps (M 91) k).2 = 0 ∧ (tu_ps (M 91) k).1 = 0 ∧ M 91 k = 124))), (6, tu_i (tu_b ((tu_ps (M 91) k).1 = 0 ∧ (tu_ps (M 91) k).2 < 16 ∧ (M 91 k = 120 ∨ M 91 k = 88)))), (7, tu_i (tu_b ((tu_ps (M 91) k).1 = 1 ∧ (tu_ps (M 91) k).2 < 24 ∧ (M 91 k = 115 ∨ M 91 k = 119 ∨ M 91 k = 46))))]) ⟨rfl, rfl, rfl, rfl, rfl, rfl, rfl, rfl, trivial⟩ rfl (lp129 )
                    ·
                      refine tu_iload 117 X 5 dX4_findFault_117 rfl ?_
                      refine tu_bipush 119 X dX4_findFault_119 (by decide) ?_
                      refine tu_icmp_ne 121 X 128 dX4_findFault_121 (by decide) (show tu_rg (M 91 k) from by first | assumption | exact ⟨by omega, by omega⟩) ⟨by decide, by decide⟩ (fun br121 => ?_) (fun br121 => ?_)
                      ·
                        refine tu_iconst 128 X dX4_findFault_128 ?_
                        refine tu_tp (b := tu_b (0 < (tu_ps (M 91) k).2 ∧ M 91 k = 59)) (by exact (tu_b0 (by omega)).symm) ?_
                        refine tu_jmp [1, 2, 3, 4, 5, 6, 7, 0] (lv' := [(0, tu_r 86), (1, tu_i ((tu_ps (M 91) k).2)), (2, tu_i ((tu_ps (M 91) k).1)), (3, tu_i ((k : Nat) : Int)), (4, tu_i (M 91 k)), (5, tu_i (tu_b ((tu_ps (M 91) k).2 = 0 ∧ (tu_ps (M 91) k).1 = 0 ∧ M 91 k = 124))), (6, tu_i (tu_b ((tu_ps (M 91) k).1 = 0 ∧ (tu_ps (M 91) k).2 < 16 ∧ (M 91 k = 120 ∨ M 91 k = 88)))), (7, tu_i (tu_b ((tu_ps (M 91) k).1 = 1 ∧ (tu_ps (M 91) k).2 < 24 ∧ (M 91 k = 115 ∨ M 91 k = 119 ∨ M 91 k = 46))))]) ⟨rfl, rfl, rfl, rfl, rfl, rfl, rfl, rfl, trivial⟩ rfl (lp129 )
                      ·
                        refine tu_iconst 124 X dX4_findFault_124 ?_
                        refine tu_tp (b := tu_b (0 < (tu_ps (M 91) k).2 ∧ M 91 k = 59)) (by exact (tu_b1 (by omega)).symm) ?_
                        refine tu_goto 125 X 129 dX4_findFault_125 (by decide) ?_
                        refine tu_jmp [1, 2, 3, 4, 5, 6, 7, 0] (lv' := [(0, tu_r 86), (1, tu_i ((tu_ps (M 91) k).2)), (2, tu_i ((tu_ps (M 91) k).1)), (3, tu_i ((k : Nat) : Int)), (4, tu_i (M 91 k)), (5, tu_i (tu_b ((tu_ps (M 91) k).2 = 0 ∧ (tu_ps (M 91) k).1 = 0 ∧ M 91 k = 124))), (6, tu_i (tu_b ((tu_ps (M 91) k).1 = 0 ∧ (tu_ps (M 91) k).2 < 16 ∧ (M 91 k = 120 ∨ M 91 k = 88)))), (7, tu_i (tu_b ((tu_ps (M 91) k).1 = 1 ∧ (tu_ps (M 91) k).2 < 24 ∧ (M 91 k = 115 ∨ M 91 k = 119 ∨ M 91 k = 46))))]) ⟨rfl, rfl, rfl, rfl, rfl, rfl, rfl, rfl, trivial⟩ rfl (lp129 )
                refine tu_iload_n 75 X 3 dX4_findFault_75 rfl ?_
                refine tu_if_eq 76 X 110 dX4_findFault_76 (by decide) (show tu_rg ((tu_ps (M 91) k).1) from by first | assumption | exact ⟨by omega, by omega⟩) (fun br76 => ?_) (fun br76 => ?_)
                ·
                  refine tu_iconst 110 X dX4_findFault_110 ?_
                  refine tu_tp (b := tu_b ((tu_ps (M 91) k).1 = 1 ∧ (tu_ps (M 91) k).2 < 24 ∧ (M 91 k = 115 ∨ M 91 k = 119 ∨ M 91 k = 46))) (by exact (tu_b0 (by omega)).symm) ?_
                  refine tu_jmp [1, 2, 3, 4, 5, 6, 0] (lv' := [(0, tu_r 86), (1, tu_i ((tu_ps (M 91) k).2)), (2, tu_i ((tu_ps (M 91) k).1)), (3, tu_i ((k : Nat) : Int)), (4, tu_i (M 91 k)), (5, tu_i (tu_b ((tu_ps (M 91) k).2 = 0 ∧ (tu_ps (M 91) k).1 = 0 ∧ M 91 k = 124))), (6, tu_i (tu_b ((tu_ps (M 91) k).1 = 0 ∧ (tu_ps (M 91) k).2 < 16 ∧ (M 91 k = 120 ∨ M 91 k = 88))))]) ⟨rfl, rfl, rfl, rfl, rfl, rfl, rfl, trivial⟩ rfl (lp111 )
                ·
                  refine tu_iload_n 79 X 2 dX4_findFault_79 rfl ?_
                  refine tu_bipush 80 X dX4_findFault_80 (by decide) ?_
                  refine tu_icmp_ge 82 X 110 dX4_findFault_82 (by decide) (show tu_rg ((tu_ps (M 91) k).2) from by first | assumption | exact ⟨by omega, by omega⟩) ⟨by decide, by decide⟩ (fun br82 => ?_) (fun br82 => ?_)
                  ·
                    refine tu_iconst 110 X dX4_findFault_110 ?_
                    refine tu_tp (b := tu_b ((tu_ps (M 91) k).1 = 1 ∧ (tu_ps (M 91) k).2 < 24 ∧ (M 91 k = 115 ∨ M 91 k = 119 ∨ M 91 k = 46))) (by exact (tu_b0 (by omega)).symm) ?_
                    refine tu_jmp [1, 2, 3, 4, 5, 6, 0] (lv' := [(0, tu_r 86), (1, tu_i ((tu_ps (M 91) k).2)), (2, tu_i ((tu_ps (M 91) k).1)), (3, tu_i ((k : Nat) : Int)), (4, tu_i (M 91 k)), (5, tu_i (tu_b ((tu_ps (M 91) k).2 = 0 ∧ (tu_ps (M 91) k).1 = 0 ∧ M 91 k = 124))), (6, tu_i (tu_b ((tu_ps (M 91) k).1 = 0 ∧ (tu_ps (M 91) k).2 < 16 ∧ (M 91 k = 120 ∨ M 91 k = 88))))]) ⟨rfl, rfl, rfl, rfl, rfl, rfl, rfl, trivial⟩ rfl (lp111 )
                  ·
                    refine tu_iload 85 X 5 dX4_findFault_85 rfl ?_
                    refine tu_bipush 87 X dX4_findFault_87 (by decide) ?_
                    refine tu_icmp_eq 89 X 106 dX4_findFault_89 (by decide) (show tu_rg (M 91 k) from by first | assumption | exact ⟨by omega, by omega⟩) ⟨by decide, by decide⟩ (fun br89 => ?_) (fun br89 => ?_)
                    ·
                      refine tu_iconst 106 X dX4_findFault_106 ?_
                      refine tu_tp (b := tu_b ((tu_ps (M 91) k).1 = 1 ∧ (tu_ps (M 91) k).2 < 24 ∧ (M 91 k = 115 ∨ M 91 k = 119 ∨ M 91 k = 46))) (by exact (tu_b1 (by omega)).symm) ?_
                      refine tu_goto 107 X 111 dX4_findFault_107 (by decide) ?_
                      refine tu_jmp [1, 2, 3, 4, 5, 6, 0] (lv' := [(0, tu_r 86), (1, tu_i ((tu_ps (M 91) k).2)), (2, tu_i ((tu_ps (M 91) k).1)), (3, tu_i ((k : Nat) : Int)), (4, tu_i (M 91 k)), (5, tu_i (tu_b ((tu_ps (M 91) k).2 = 0 ∧ (tu_ps (M 91) k).1 = 0 ∧ M 91 k = 124))), (6, tu_i (tu_b ((tu_ps (M 91) k).1 = 0 ∧ (tu_ps (M 91) k).2 < 16 ∧ (M 91 k = 120 ∨ M 91 k = 88))))]) ⟨rfl, rfl, rfl, rfl, rfl, rfl, rfl, trivial⟩ rfl (lp111 )
                    ·
                      refine tu_iload 92 X 5 dX4_findFault_92 rfl ?_
                      refine tu_bipush 94 X dX4_findFault_94 (by decide) ?_
                      refine tu_icmp_eq 96 X 106 dX4_findFault_96 (by decide) (show tu_rg (M 91 k) from by first | assumption | exact ⟨by omega, by omega⟩) ⟨by decide, by decide⟩ (fun br96 => ?_) (fun br96 => ?_)
                      ·
                        refine tu_iconst 106 X dX4_findFault_106 ?_
                        refine tu_tp (b := tu_b ((tu_ps (M 91) k).1 = 1 ∧ (tu_ps (M 91) k).2 < 24 ∧ (M 91 k = 115 ∨ M 91 k = 119 ∨ M 91 k = 46))) (by exact (tu_b1 (by omega)).symm) ?_
                        refine tu_goto 107 X 111 dX4_findFault_107 (by decide) ?_
                        refine tu_jmp [1, 2, 3, 4, 5, 6, 0] (lv' := [(0, tu_r 86), (1, tu_i ((tu_ps (M 91) k).2)), (2, tu_i ((tu_ps (M 91) k).1)), (3, tu_i ((k : Nat) : Int)), (4, tu_i (M 91 k)), (5, tu_i (tu_b ((tu_ps (M 91) k).2 = 0 ∧ (tu_ps (M 91) k).1 = 0 ∧ M 91 k = 124))), (6, tu_i (tu_b ((tu_ps (M 91) k).1 = 0 ∧ (tu_ps (M 91) k).2 < 16 ∧ (M 91 k = 120 ∨ M 91 k = 88))))]) ⟨rfl, rfl, rfl, rfl, rfl, rfl, rfl, trivial⟩ rfl (lp111 )
                      ·
                        refine tu_iload 99 X 5 dX4_findFault_99 rfl ?_
                        refine tu_bipush 101 X dX4_findFault_101 (by decide) ?_
                        refine tu_icmp_ne 103 X 110 dX4_findFault_103 (by decide) (show tu_rg (M 91 k) from by first | assumption | exact ⟨by omega, by omega⟩) ⟨by decide, by decide⟩ (fun br103 => ?_) (fun br103 => ?_)
                        ·
                          refine tu_iconst 110 X dX4_findFault_110 ?_
                          refine tu_tp (b := tu_b ((tu_ps (M 91) k).1 = 1 ∧ (tu_ps (M 91) k).2 < 24 ∧ (M 91 k = 115 ∨ M 91 k = 119 ∨ M 91 k = 46))) (by exact (tu_b0 (by omega)).symm) ?_
                          refine tu_jmp [1, 2, 3, 4, 5, 6, 0] (lv' := [(0, tu_r 86), (1, tu_i ((tu_ps (M 91) k).2)), (2, tu_i ((tu_ps (M 91) k).1)), (3, tu_i ((k : Nat) : Int)), (4, tu_i (M 91 k)), (5, tu_i (tu_b ((tu_ps (M 91) k).2 = 0 ∧ (tu_ps (M 91) k).1 = 0 ∧ M 91 k = 124))), (6, tu_i (tu_b ((tu_ps (M 91) k).1 = 0 ∧ (tu_ps (M 91) k).2 < 16 ∧ (M 91 k = 120 ∨ M 91 k = 88))))]) ⟨rfl, rfl, rfl, rfl, rfl, rfl, rfl, trivial⟩ rfl (lp111 )
                        ·
                          refine tu_iconst 106 X dX4_findFault_106 ?_
                          refine tu_tp (b := tu_b ((tu_ps (M 91) k).1 = 1 ∧ (tu_ps (M 91) k).2 < 24 ∧ (M 91 k = 115 ∨ M 91 k = 119 ∨ M 91 k = 46))) (by exact (tu_b1 (by omega)).symm) ?_
                          refine tu_goto 107 X 111 dX4_findFault_107 (by decide) ?_
                          refine tu_jmp [1, 2, 3, 4, 5, 6, 0] (lv' := [(0, tu_r 86), (1, tu_i ((tu_ps (M 91) k).2)), (2, tu_i ((tu_ps (M 91) k).1)), (3, tu_i ((k : Nat) : Int)), (4, tu_i (M 91 k)), (5, tu_i (tu_b ((tu_ps (M 91) k).2 = 0 ∧ (tu_ps (M 91) k).1 = 0 ∧ M 91 k = 124))), (6, tu_i (tu_b ((tu_ps (M 91) k).1 = 0 ∧ (tu_ps (M 91) k).2 < 16 ∧ (M 91 k = 120 ∨ M 91 k = 88))))]) ⟨rfl, rfl, rfl, rfl, rfl, rfl, rfl, trivial⟩ rfl (lp111 )
            refine tu_iload_n 44 X 3 dX4_findFault_44 rfl ?_
            refine tu_if_ne 45 X 72 dX4_findFault_45 (by decide) (show tu_rg ((tu_ps (M 91) k).1) from by first | assumption | exact ⟨by omega, by omega⟩) (fun br45 => ?_) (fun br45 => ?_)
            ·
              refine tu_iconst 72 X dX4_findFault_72 ?_
              refine tu_tp (b := tu_b ((tu_ps (M 91) k).1 = 0 ∧ (tu_ps (M 91) k).2 < 16 ∧ (M 91 k = 120 ∨ M 91 k = 88))) (by exact (tu_b0 (by omega)).symm) ?_
              refine tu_jmp [1, 2, 3, 4, 5, 0] (lv' := [(0, tu_r 86), (1, tu_i ((tu_ps (M 91) k).2)), (2, tu_i ((tu_ps (M 91) k).1)), (3, tu_i ((k : Nat) : Int)), (4, tu_i (M 91 k)), (5, tu_i (tu_b ((tu_ps (M 91) k).2 = 0 ∧ (tu_ps (M 91) k).1 = 0 ∧ M 91 k = 124)))]) ⟨rfl, rfl, rfl, rfl, rfl, rfl, trivial⟩ rfl (lp73 )
            ·
              refine tu_iload_n 48 X 2 dX4_findFault_48 rfl ?_
              refine tu_bipush 49 X dX4_findFault_49 (by decide) ?_
              refine tu_icmp_ge 51 X 72 dX4_findFault_51 (by decide) (show tu_rg ((tu_ps (M 91) k).2) from by first | assumption | exact ⟨by omega, by omega⟩) ⟨by decide, by decide⟩ (fun br51 => ?_) (fun br51 => ?_)
              ·
                refine tu_iconst 72 X dX4_findFault_72 ?_
                refine tu_tp (b := tu_b ((tu_ps (M 91) k).1 = 0 ∧ (tu_ps (M 91) k).2 < 16 ∧ (M 91 k = 120 ∨ M 91 k = 88))) (by exact (tu_b0 (by omega)).symm) ?_
                refine tu_jmp [1, 2, 3, 4, 5, 0] (lv' := [(0, tu_r 86), (1, tu_i ((tu_ps (M 91) k).2)), (2, tu_i ((tu_ps (M 91) k).1)), (3, tu_i ((k : Nat) : Int)), (4, tu_i (M 91 k)), (5, tu_i (tu_b ((tu_ps (M 91) k).2 = 0 ∧ (tu_ps (M 91) k).1 = 0 ∧ M 91 k = 124)))]) ⟨rfl, rfl, rfl, rfl, rfl, rfl, trivial⟩ rfl (lp73 )
              ·
                refine tu_iload 54 X 5 dX4_findFault_54 rfl ?_
                refine tu_bipush 56 X dX4_findFault_56 (by decide) ?_
                refine tu_icmp_eq 58 X 68 dX4_findFault_58 (by decide) (show tu_rg (M 91 k) from by first | assumption | exact ⟨by omega, by omega⟩) ⟨by decide, by decide⟩ (fun br58 => ?_) (fun br58 => ?_)
                ·
                  refine tu_iconst 68 X dX4_findFault_68 ?_
                  refine tu_tp (b := tu_b ((tu_ps (M 91) k).1 = 0 ∧ (tu_ps (M 91) k).2 < 16 ∧ (M 91 k = 120 ∨ M 91 k = 88))) (by exact (tu_b1 (by omega)).symm) ?_
                  refine tu_goto 69 X 73 dX4_findFault_69 (by decide) ?_
                  refine tu_jmp [1, 2, 3, 4, 5, 0] (lv' := [(0, tu_r 86), (1, tu_i ((tu_ps (M 91) k).2)), (2, tu_i ((tu_ps (M 91) k).1)), (3, tu_i ((k : Nat) : Int)), (4, tu_i (M 91 k)), (5, tu_i (tu_b ((tu_ps (M 91) k).2 = 0 ∧ (tu_ps (M 91) k).1 = 0 ∧ M 91 k = 124)))]) ⟨rfl, rfl, rfl, rfl, rfl, rfl, trivial⟩ rfl (lp73 )
                ·
                  refine tu_iload 61 X 5 dX4_findFault_61 rfl ?_
                  refine tu_bipush 63 X dX4_findFault_63 (by decide) ?_
                  refine tu_icmp_ne 65 X 72 dX4_findFault_65 (by decide) (show tu_rg (M 91 k) from by first | assumption | exact ⟨by omega, by omega⟩) ⟨by decide, by decide⟩ (fun br65 => ?_) (fun br65 => ?_)
                  ·
                    refine tu_iconst 72 X dX4_findFault_72 ?_
                    refine tu_tp (b := tu_b ((tu_ps (M 91) k).1 = 0 ∧ (tu_ps (M 91) k).2 < 16 ∧ (M 91 k = 120 ∨ M 91 k = 88))) (by exact (tu_b0 (by omega)).symm) ?_
                    refine tu_jmp [1, 2, 3, 4, 5, 0] (lv' := [(0, tu_r 86), (1, tu_i ((tu_ps (M 91) k).2)), (2, tu_i ((tu_ps (M 91) k).1)), (3, tu_i ((k : Nat) : Int)), (4, tu_i (M 91 k)), (5, tu_i (tu_b ((tu_ps (M 91) k).2 = 0 ∧ (tu_ps (M 91) k).1 = 0 ∧ M 91 k = 124)))]) ⟨rfl, rfl, rfl, rfl, rfl, rfl, trivial⟩ rfl (lp73 )
                  ·
                    refine tu_iconst 68 X dX4_findFault_68 ?_
                    refine tu_tp (b := tu_b ((tu_ps (M 91) k).1 = 0 ∧ (tu_ps (M 91) k).2 < 16 ∧ (M 91 k = 120 ∨ M 91 k = 88))) (by exact (tu_b1 (by omega)).symm) ?_
                    refine tu_goto 69 X 73 dX4_findFault_69 (by decide) ?_
                    refine tu_jmp [1, 2, 3, 4, 5, 0] (lv' := [(0, tu_r 86), (1, tu_i ((tu_ps (M 91) k).2)), (2, tu_i ((tu_ps (M 91) k).1)), (3, tu_i ((k : Nat) : Int)), (4, tu_i (M 91 k)), (5, tu_i (tu_b ((tu_ps (M 91) k).2 = 0 ∧ (tu_ps (M 91) k).1 = 0 ∧ M 91 k = 124)))]) ⟨rfl, rfl, rfl, rfl, rfl, rfl, trivial⟩ rfl (lp73 )
        refine tu_iload_n 22 X 2 dX4_findFault_22 rfl ?_
        refine tu_if_ne 23 X 41 dX4_findFault_23 (by decide) (show tu_rg ((tu_ps (M 91) k).2) from by first | assumption | exact ⟨by omega, by omega⟩) (fun br23 => ?_) (fun br23 => ?_)
        ·
          refine tu_iconst 41 X dX4_findFault_41 ?_
          refine tu_tp (b := tu_b ((tu_ps (M 91) k).2 = 0 ∧ (tu_ps (M 91) k).1 = 0 ∧ M 91 k = 124)) (by exact (tu_b0 (by omega)).symm) ?_
          refine tu_jmp [1, 2, 3, 4, 0] (lv' := [(0, tu_r 86), (1, tu_i ((tu_ps (M 91) k).2)), (2, tu_i ((tu_ps (M 91) k).1)), (3, tu_i ((k : Nat) : Int)), (4, tu_i (M 91 k))]) ⟨rfl, rfl, rfl, rfl, rfl, trivial⟩ rfl (lp42 )
        ·
          refine tu_iload_n 26 X 3 dX4_findFault_26 rfl ?_
          refine tu_if_ne 27 X 41 dX4_findFault_27 (by decide) (show tu_rg ((tu_ps (M 91) k).1) from by first | assumption | exact ⟨by omega, by omega⟩) (fun br27 => ?_) (fun br27 => ?_)
          ·
            refine tu_iconst 41 X dX4_findFault_41 ?_
            refine tu_tp (b := tu_b ((tu_ps (M 91) k).2 = 0 ∧ (tu_ps (M 91) k).1 = 0 ∧ M 91 k = 124)) (by exact (tu_b0 (by omega)).symm) ?_
            refine tu_jmp [1, 2, 3, 4, 0] (lv' := [(0, tu_r 86), (1, tu_i ((tu_ps (M 91) k).2)), (2, tu_i ((tu_ps (M 91) k).1)), (3, tu_i ((k : Nat) : Int)), (4, tu_i (M 91 k))]) ⟨rfl, rfl, rfl, rfl, rfl, trivial⟩ rfl (lp42 )
          ·
            refine tu_iload 30 X 0 dX4_findFault_30 rfl ?_
            refine tu_bipush 32 X dX4_findFault_32 (by decide) ?_
            refine tu_icmp_ne 34 X 41 dX4_findFault_34 (by decide) (show tu_rg (M 91 k) from by first | assumption | exact ⟨by omega, by omega⟩) ⟨by decide, by decide⟩ (fun br34 => ?_) (fun br34 => ?_)
            ·
              refine tu_iconst 41 X dX4_findFault_41 ?_
              refine tu_tp (b := tu_b ((tu_ps (M 91) k).2 = 0 ∧ (tu_ps (M 91) k).1 = 0 ∧ M 91 k = 124)) (by exact (tu_b0 (by omega)).symm) ?_
              refine tu_jmp [1, 2, 3, 4, 0] (lv' := [(0, tu_r 86), (1, tu_i ((tu_ps (M 91) k).2)), (2, tu_i ((tu_ps (M 91) k).1)), (3, tu_i ((k : Nat) : Int)), (4, tu_i (M 91 k))]) ⟨rfl, rfl, rfl, rfl, rfl, trivial⟩ rfl (lp42 )
            ·
              refine tu_iconst 37 X dX4_findFault_37 ?_
              refine tu_tp (b := tu_b ((tu_ps (M 91) k).2 = 0 ∧ (tu_ps (M 91) k).1 = 0 ∧ M 91 k = 124)) (by exact (tu_b1 (by omega)).symm) ?_
              refine tu_goto 38 X 42 dX4_findFault_38 (by decide) ?_
              refine tu_jmp [1, 2, 3, 4, 0] (lv' := [(0, tu_r 86), (1, tu_i ((tu_ps (M 91) k).2)), (2, tu_i ((tu_ps (M 91) k).1)), (3, tu_i ((k : Nat) : Int)), (4, tu_i (M 91 k))]) ⟨rfl, rfl, rfl, rfl, rfl, trivial⟩ rfl (lp42 )
  refine tu_jmp [3, 2, 1, 0] (lv' := [(0, tu_r 86), (1, tu_i ((tu_ps (M 91) 0).2)), (2, tu_i ((tu_ps (M 91) 0).1)), (3, tu_i 0)]) ⟨rfl, tu_ei (by first | rfl | (first | (have e9 := tu_ps_v2 kz; (repeat' split at e9) <;> omega) | omega)), tu_ei (by first | rfl | (first | (have e9 := tu_ps_v1 kz; (repeat' split at e9) <;> omega) | omega)), rfl, trivial⟩ rfl (lp6 (((M 86 6).toNat - 0) + 1) 0 (by first | assumption | omega) (by intro j hj; omega) (by omega))
set_option maxRecDepth 20000 in
set_option maxHeartbeats 4000000 in
theorem c_X4_fault {M : tu_M}  (hp : 0 ≤ M 86 6 ∧ M 86 6 ≤ 60) (hr : ∀ k9 : Nat, (k9 : Int) < M 86 6 → tu_rg (M 91 k9)) : tu_MI tu_Y_X4_fault [tu_r 86] M (fun z M' => ∃ (w : Int), M' = M ∧ (tu_ft (M 91) (M 86 6).toNat w) ∧ z = w) := by
  refine tu_MI.of (ty := .int) (by decide) rfl (by first | exact Or.inl rfl | exact Or.inr rfl) (Nat.le_of_ble_eq_true rfl) (fun T (X : tu_X T cX4_fault RX4 1 28) hnl hrt hret => ?_)
  have hret : tu_RI T cX4_fault (fun z M' => ∃ (w : Int), M' = M ∧ (tu_ft (M 91) (M 86 6).toNat w) ∧ z = w) := hret
  have hnl : T.2.2.2.2.2.2.2.2.2.2.1 = 1 := hnl
  show tu_W T 0 [(0, tu_r 86)] [] M
  refine tu_aload_n 0 X 0 dX4_fault_0 rfl ?_
  refine tu_callVI 1 X (st := []) (as := []) (c_X4_findFault  (show 0 ≤ M 86 6 ∧ M 86 6 ≤ 60 from by first | assumption | omega | exact ⟨by omega, by omega⟩ | decide) (show ∀ k9 : Nat, (k9 : Int) < M 86 6 → tu_rg (M 91 k9) from by first | assumption | omega | exact ⟨by omega, by omega⟩ | decide)) sv_RX4_137 dX4_fault_1 rfl (by decide) rfl rfl rfl (Nat.le_of_ble_eq_true rfl) ⟨by decide, by decide⟩ (fun z M' h => ?_)
  obtain ⟨w_1, hM1, h1_0, hz1⟩ := h
  refine tu_st_eq rfl (M' := M) hM1 ?_
  refine tu_tp (b := w_1) hz1 ?_
  refine hret 4 _ _ w_1 dX4_fault_4 (fun h => by rw [hrt] at h; cases h) ?_
  exact ⟨_, rfl, h1_0, rfl⟩
set_option maxRecDepth 20000 in
set_option maxHeartbeats 4000000 in
theorem c_X4_put {M : tu_M} (u : Nat) (hp : 0 ≤ M 86 6 ∧ M 86 6 ≤ 60) (hu : u < 18446744073709551616) : tu_MI tu_Y_X4_put [tu_r 86, tu_l u] M (fun z M' => ∃ (y : Int), (((∀ c, ¬ tu_vd u c) ∧ M' = M ∧ y = -2) ∨ ((∃ c : Nat, tu_vd u c ∧ 60 < M 86 6 + (c : Int)) ∧ M' = M ∧ y = -4) ∨ (∃ c : Nat, (tu_vd u c ∧ M 86 6 + (c : Int) ≤ 60) ∧ M' = tu_row (tu_row M 86 (tu_u (M 86) 6 (M 86 6 + ((c : Nat) : Int)))) 91 (tu_ap (M 91) (M 86 6).toNat u c c) ∧ y = M 86 6 + ((c : Nat) : Int))) ∧ z = y) := by
  refine tu_MI.of (ty := .int) (by decide) rfl (by first | exact Or.inl rfl | exact Or.inr rfl) (Nat.le_of_ble_eq_true rfl) (fun T (X : tu_X T cX4_put RX4 1 22) hnl hrt hret => ?_)
  have hret : tu_RI T cX4_put (fun z M' => ∃ (y : Int), (((∀ c, ¬ tu_vd u c) ∧ M' = M ∧ y = -2) ∨ ((∃ c : Nat, tu_vd u c ∧ 60 < M 86 6 + (c : Int)) ∧ M' = M ∧ y = -4) ∨ (∃ c : Nat, (tu_vd u c ∧ M 86 6 + (c : Int) ≤ 60) ∧ M' = tu_row (tu_row M 86 (tu_u (M 86) 6 (M 86 6 + ((c : Nat) : Int)))) 91 (tu_ap (M 91) (M 86 6).toNat u c c) ∧ y = M 86 6 + ((c : Nat) : Int))) ∧ z = y) := hret
  have hnl : T.2.2.2.2.2.2.2.2.2.2.1 = 8 := hnl
  show tu_W T 0 [(0, tu_r 86), (1, tu_l u)] [] M
  refine tu_iconst 0 X dX4_put_0 ?_
  refine tu_istore_n 1 X (lv' := [(3, tu_i 0), (0, tu_r 86), (1, tu_l u)]) dX4_put_1 (by rw [hnl]; decide) rfl ?_
  refine tu_lload_n 2 X 2 dX4_put_2 rfl ?_
  refine tu_lstore 3 X (lv' := [(4, tu_l u), (3, tu_i 0), (0, tu_r 86), (1, tu_l u)]) dX4_put_3 (by rw [hnl]; decide) rfl ?_
  refine tu_iconst 5 X dX4_put_5 ?_
  refine tu_istore 6 X (lv' := [(6, tu_i 1), (4, tu_l u), (3, tu_i 0), (0, tu_r 86), (1, tu_l u)]) dX4_put_6 (by rw [hnl]; decide) rfl ?_
  have lp8 : ∀ (nq : Nat) (c : Nat) (o : Int), (c ≤ 8) → ((o = 1 ∧ ∀ j, j < c → 33 ≤ tu_by u j ∧ tu_by u j ≤ 126) ∨ (o = 0 ∧ ∃ j, j < c ∧ ¬ (33 ≤ tu_by u j ∧ tu_by u j ≤ 126))) → (∀ j, j < c → tu_by u j ≠ 0) → 8 - c < nq → tu_W T 8 [(0, tu_r 86), (1, tu_l u), (3, tu_i ((c : Nat) : Int)), (4, tu_l (u / 256 ^ c)), (6, tu_i o)] [] M := by
    intro nq
    induction nq with
    | zero => intros; omega
    | succ nq ih8 =>
      intro c o hc ho hn hn8
      have e1 : u / 256 ^ c < 18446744073709551616 := Nat.lt_of_le_of_lt (Nat.div_le_self _ _) hu
      have e0 : tu_rg o := by rcases ho with ⟨q, -⟩ | ⟨q, -⟩ <;> exact ⟨by omega, by omega⟩
      have lp67 : (u / 256 ^ c % 256 = 0 ∨ c = 8) → tu_W T 67 [(0, tu_r 86), (1, tu_l u), (3, tu_i ((c : Nat) : Int)), (4, tu_l (u / 256 ^ c)), (6, tu_i o)] [] M := by
          intro  jq
          have e2 : c = 8 → u / 256 ^ c = 0 := fun q => by rw [q]; exact Nat.div_eq_of_lt (by omega)
          refine tu_iload_n 67 X 2 dX4_put_67 rfl ?_
          refine tu_if_eq 68 X 83 dX4_put_68 (by decide) (show tu_rg ((c : Nat) : Int) from by first | assumption | exact ⟨by omega, by omega⟩) (fun br68 => ?_) (fun br68 => ?_)
          ·
            refine tu_bipush 83 X dX4_put_83 (by decide) ?_
            refine hret 85 _ _ (-2) dX4_put_85 (fun h => by rw [hrt] at h; cases h) ?_
            refine ⟨_, Or.inl ⟨?_, rfl, rfl⟩, rfl⟩
            rcases Nat.eq_zero_or_pos c with q | q
            · subst q
              intro c2 h2
              have := (h2.2.1 0 (by have := h2.1.1; omega)).1
              unfold tu_by at this
              omega
            · rcases ho with ⟨o1, o2⟩ | ⟨o1, j, o2, o3⟩
              · have q2 : ¬ u / 256 ^ c = 0 := by first | assumption | (exfalso; omega)
                exact tu_vd_bad q2 (by unfold tu_by; omega)
              · exact tu_vd_bad (fun z => hn j o2 (by unfold tu_by; rw [z])) o3
          ·
            refine tu_iload 71 X 4 dX4_put_71 rfl ?_
            refine tu_if_eq 73 X 83 dX4_put_73 (by decide) (show tu_rg o from by first | assumption | exact ⟨by omega, by omega⟩) (fun br73 => ?_) (fun br73 => ?_)
            ·
              refine tu_bipush 83 X dX4_put_83 (by decide) ?_
              refine hret 85 _ _ (-2) dX4_put_85 (fun h => by rw [hrt] at h; cases h) ?_
              refine ⟨_, Or.inl ⟨?_, rfl, rfl⟩, rfl⟩
              rcases Nat.eq_zero_or_pos c with q | q
              · subst q
                intro c2 h2
                have := (h2.2.1 0 (by have := h2.1.1; omega)).1
                unfold tu_by at this
                omega
              · rcases ho with ⟨o1, o2⟩ | ⟨o1, j, o2, o3⟩
                · have q2 : ¬ u / 256 ^ c = 0 := by first | assumption | (exfalso; omega)
                  exact tu_vd_bad q2 (by unfold tu_by; omega)
                · exact tu_vd_bad (fun z => hn j o2 (by unfold tu_by; rw [z])) o3
            ·
              refine tu_lload 76 X 3 dX4_put_76 rfl ?_
              refine tu_lconst 78 X dX4_put_78 ?_
              refine tu_lcmp 79 X dX4_put_79 ?_
              refine tu_if_eq 80 X 86 dX4_put_80 (by decide) (tu_lc_rg _ _) (fun br80 => ?_) (fun br80 => ?_)
              ·
                have br80 : u / 256 ^ c = 0 := (tu_lc_0 e1 (by decide)).mp br80
                have hvd : tu_vd u c := ⟨⟨by omega, hc⟩, by rcases ho with ⟨-, q⟩ | ⟨q, -⟩; exact q; omega, br80⟩
                refine tu_aload_n 86 X 0 dX4_put_86 rfl ?_
                refine tu_getI 87 X (x := M 86 6) dX4_put_87 fl_RX4_134 (by decide) rfl rfl rfl ?_
                refine tu_iload_n 90 X 2 dX4_put_90 rfl ?_
                refine tu_iadd 91 X dX4_put_91 ?_
                refine tu_bipush 92 X dX4_put_92 (by decide) ?_
                refine tu_icmp_le 94 X 100 dX4_put_94 (by decide) (show tu_rg ((M 86 6) + ((c : Nat) : Int)) from by first | assumption | exact ⟨by omega, by omega⟩) ⟨by decide, by decide⟩ (fun br94 => ?_) (fun br94 => ?_)
                ·
                  refine tu_iload_n 100 X 2 dX4_put_100 rfl ?_
                  refine tu_iconst 101 X dX4_put_101 ?_
                  refine tu_isub 102 X dX4_put_102 ?_
                  refine tu_istore 103 X (lv' := [(7, tu_i (((c : Nat) : Int) - 1)), (0, tu_r 86), (1, tu_l u), (3, tu_i ((c : Nat) : Int)), (4, tu_l (u / 256 ^ c)), (6, tu_i o)]) dX4_put_103 (by rw [hnl]; decide) rfl ?_
                  refine tu_st_eq rfl (M' := tu_row M 86 (M 86)) ((tu_rx M 86).symm) ?_
                  refine tu_st_eq rfl (M' := tu_row (tu_row M 86 (M 86)) 91 (M 91)) ((congrArg (fun m => tu_row m 86 (M 86)) ((tu_rx M 91).symm)).trans (tu_rc M (M 91) (M 86) rfl)) ?_
                  have lp105 : ∀ (nq : Nat) (j : Nat) (y9 : Int), (j ≤ c) → (y9 = (c : Int) - 1 - (j : Int)) → c - j < nq → tu_W T 105 [(0, tu_r 86), (1, tu_l u), (3, tu_i ((c : Nat) : Int)), (4, tu_l (u / 256 ^ c)), (6, tu_i o), (7, tu_i y9)] [] (tu_row (tu_row M 86 (tu_u (M 86) 6 (M 86 6 + ((j : Nat) : Int)))) 91 (tu_ap (M 91) (M 86 6).toNat u c j)) := by
                    intro nq
                    induction nq with
                    | zero => intros; omega
                    | succ nq ih105 =>
                      intro j y9 hj hy hn105
                      refine tu_iload 105 X 5 dX4_put_105 rfl ?_
                      refine tu_if_lt 107 X 147 dX4_put_107 (by decide) (show tu_rg y9 from by first | assumption | exact ⟨by omega, by omega⟩) (fun br107 => ?_) (fun br107 => ?_)
                      ·
                        refine tu_aload_n 147 X 0 dX4_put_147 rfl ?_
                        refine tu_getI 148 X (x := (tu_u (M 86) 6 (M 86 6 + ((j : Nat) : Int))) 6) dX4_put_148 fl_RX4_134 (by decide) rfl rfl rfl ?_
                        refine tu_tp (b := (M 86 6 + ((j : Nat) : Int))) (by rw [tu_u_s]) ?_
                        refine hret 151 _ _ (M 86 6 + ((j : Nat) : Int)) dX4_put_151 (fun h => by rw [hrt] at h; cases h) ?_
                        have ej : j = c := by omega
                        subst ej
                        exact ⟨_, Or.inr (Or.inr ⟨j, ⟨hvd, by omega⟩, rfl, rfl⟩), rfl⟩
                      ·
                        refine tu_aload_n 110 X 0 dX4_put_110 rfl ?_
                        refine tu_getR 111 X dX4_put_111 fl_RX4_22 (by decide) rfl rfl ?_
                        refine tu_aload_n 114 X 0 dX4_put_114 rfl ?_
                        refine tu_getI 115 X (x := (tu_u (M 86) 6 (M 86 6 + ((j : Nat) : Int))) 6) dX4_put_115 fl_RX4_134 (by decide) rfl rfl rfl ?_
                        refine tu_tp (b := ((((M 86 6).toNat + j : Nat)) : Int)) (by rw [tu_u_s]; omega) ?_
                        refine tu_lload_n 118 X 1 dX4_put_118 rfl ?_
                        refine tu_bipush 119 X dX4_put_119 (by decide) ?_
                        refine tu_iload 121 X 5 dX4_put_121 rfl ?_
                        refine tu_tp (b := (((c - 1 - j : Nat)) : Int)) (by omega) ?_
                        refine tu_imul 123 X dX4_put_123 ?_
                        refine tu_lushr 124 X (8 * (c - 1 - j)) dX4_put_124 (by omega) (by omega) (by omega) ?_
                        refine tu_ldc2 125 X (n := 255) dX4_put_125 kw_RX4_193 (by decide) ?_
                        refine tu_land255 128 X dX4_put_128 ?_
                        refine tu_l2i 129 X dX4_put_129 ?_
                        refine tu_tp (b := ((tu_by u (c - 1 - j) : Nat) : Int)) (by rw [tu_by, show (256 : Nat) ^ (c - 1 - j) = 2 ^ (8 * (c - 1 - j)) from (Nat.pow_mul 2 8 _).symm]) ?_
                        refine tu_iast 130 X (M' := tu_row (tu_row M 86 (tu_u (M 86) 6 (M 86 6 + ((j : Nat) : Int)))) 91 (tu_ap (M 91) (M 86 6).toNat u c (j + 1))) ((M 86 6).toNat + j) dX4_put_130 (by decide) rfl (by decide) (by omega) (by omega) ((tu_rr (tu_row M 86 (tu_u (M 86) 6 (M 86 6 + ((j : Nat) : Int)))) 91 (tu_ap (M 91) (M 86 6).toNat u c j) (tu_u (tu_ap (M 91) (M 86 6).toNat u c j) ((M 86 6).toNat + j) ((tu_by u (c - 1 - j) : Nat) : Int))).trans (congrArg (fun q => tu_row (tu_row M 86 (tu_u (M 86) 6 (M 86 6 + ((j : Nat) : Int)))) 91 q) (show tu_u (tu_ap (M 91) (M 86 6).toNat u c j) ((M 86 6).toNat + j) ((tu_by u (c - 1 - j) : Nat) : Int) = tu_ap (M 91) (M 86 6).toNat u c (j + 1) from by rfl))) ?_
                        refine tu_aload_n 131 X 0 dX4_put_131 rfl ?_
                        refine tu_dup 132 X dX4_put_132 rfl ?_
                        refine tu_getI 133 X (x := (tu_u (M 86) 6 (M 86 6 + ((j : Nat) : Int))) 6) dX4_put_133 fl_RX4_134 (by decide) rfl rfl rfl ?_
                        refine tu_tp (b := ((((M 86 6).toNat + j : Nat)) : Int)) (by rw [tu_u_s]; omega) ?_
                        refine tu_iconst 136 X dX4_put_136 ?_
                        refine tu_iadd 137 X dX4_put_137 ?_
                        refine tu_putI 138 X (M' := tu_row (tu_row M 86 (tu_u (M 86) 6 (M 86 6 + (((j + 1) : Nat) : Int)))) 91 (tu_ap (M 91) (M 86 6).toNat u c (j + 1))) dX4_put_138 fp_RX4_134 (by decide) rfl rfl (((tu_rc (tu_row M 86 (tu_u (M 86) 6 (M 86 6 + ((j : Nat) : Int)))) (tu_ap (M 91) (M 86 6).toNat u c (j + 1)) (tu_u (tu_u (M 86) 6 (M 86 6 + ((j : Nat) : Int))) 6 (((((M 86 6).toNat + j : Nat)) : Int) + 1)) rfl).trans (congrArg (fun m => tu_row m 91 (tu_ap (M 91) (M 86 6).toNat u c (j + 1))) (tu_rr M 86 (tu_u (M 86) 6 (M 86 6 + ((j : Nat) : Int))) (tu_u (tu_u (M 86) 6 (M 86 6 + ((j : Nat) : Int))) 6 (((((M 86 6).toNat + j : Nat)) : Int) + 1))))).trans (congrArg (fun m => tu_row m 91 (tu_ap (M 91) (M 86 6).toNat u c (j + 1))) (congrArg (fun q => tu_row M 86 q) (show tu_u (tu_u (M 86) 6 (M 86 6 + ((j : Nat) : Int))) 6 (((((M 86 6).toNat + j : Nat)) : Int) + 1) = tu_u (M 86) 6 (M 86 6 + (((j + 1) : Nat) : Int)) from by rw [tu_uu]; congr 1; omega)))) ?_
                        refine tu_iinc 141 X (lv' := [(7, tu_i (y9 + (-1))), (0, tu_r 86), (1, tu_l u), (3, tu_i ((c : Nat) : Int)), (4, tu_l (u / 256 ^ c)), (6, tu_i o)]) 5 dX4_put_141 rfl (by rw [hnl]; decide) rfl ?_
                        refine tu_goto 144 X 105 dX4_put_144 (by decide) ?_
                        refine tu_jmp [1, 2, 3, 4, 5, 0] (lv' := [(0, tu_r 86), (1, tu_l u), (3, tu_i ((c : Nat) : Int)), (4, tu_l (u / 256 ^ c)), (6, tu_i o), (7, tu_i (y9 + (-1)))]) ⟨rfl, rfl, rfl, rfl, rfl, rfl, trivial⟩ rfl (ih105 (j + 1) (y9 + (-1)) (by first | assumption | omega) (by first | assumption | omega) (by omega))
                  refine tu_jmp [1, 2, 3, 4, 5, 0] (lv' := [(0, tu_r 86), (1, tu_l u), (3, tu_i ((c : Nat) : Int)), (4, tu_l (u / 256 ^ c)), (6, tu_i o), (7, tu_i (((c : Nat) : Int) - 1))]) ⟨rfl, rfl, rfl, rfl, rfl, rfl, trivial⟩ (by first | rfl | (rw [show tu_u (M 86) 6 (M 86 6 + ((0 : Nat) : Int)) = M 86 from tu_u_x (by omega)]; rfl)) (lp105 ((c - 0) + 1) 0 (((c : Nat) : Int) - 1) (by first | assumption | omega) (by first | assumption | omega) (by omega))
                ·
                  refine tu_bipush 97 X dX4_put_97 (by decide) ?_
                  refine hret 99 _ _ (-4) dX4_put_99 (fun h => by rw [hrt] at h; cases h) ?_
                  exact ⟨_, Or.inr (Or.inl ⟨⟨c, hvd, by omega⟩, rfl, rfl⟩), rfl⟩
              ·
                have br80 : ¬ u / 256 ^ c = 0 := fun z => br80 ((tu_lc_0 e1 (by decide)).mpr z)
                refine tu_bipush 83 X dX4_put_83 (by decide) ?_
                refine hret 85 _ _ (-2) dX4_put_85 (fun h => by rw [hrt] at h; cases h) ?_
                refine ⟨_, Or.inl ⟨?_, rfl, rfl⟩, rfl⟩
                rcases Nat.eq_zero_or_pos c with q | q
                · subst q
                  intro c2 h2
                  have := (h2.2.1 0 (by have := h2.1.1; omega)).1
                  unfold tu_by at this
                  omega
                · rcases ho with ⟨o1, o2⟩ | ⟨o1, j, o2, o3⟩
                  · have q2 : ¬ u / 256 ^ c = 0 := by first | assumption | (exfalso; omega)
                    exact tu_vd_bad q2 (by unfold tu_by; omega)
                  · exact tu_vd_bad (fun z => hn j o2 (by unfold tu_by; rw [z])) o3
      refine tu_iload_n 8 X 2 dX4_put_8 rfl ?_
      refine tu_bipush 9 X dX4_put_9 (by decide) ?_
      refine tu_icmp_ge 11 X 67 dX4_put_11 (by decide) (show tu_rg ((c : Nat) : Int) from by first | assumption | exact ⟨by omega, by omega⟩) ⟨by decide, by decide⟩ (fun br11 => ?_) (fun br11 => ?_)
      ·
        refine tu_jmp [0, 1, 2, 3, 4] (lv' := [(0, tu_r 86), (1, tu_l u), (3, tu_i ((c : Nat) : Int)), (4, tu_l (u / 256 ^ c)), (6, tu_i o)]) ⟨rfl, rfl, rfl, rfl, rfl, trivial⟩ rfl (lp67 (by omega))
      ·
        refine tu_lload 14 X 3 dX4_put_14 rfl ?_
        refine tu_ldc2 16 X (n := 255) dX4_put_16 kw_RX4_193 (by decide) ?_
        refine tu_land255 19 X dX4_put_19 ?_
        refine tu_lconst 20 X dX4_put_20 ?_
        refine tu_lcmp 21 X dX4_put_21 ?_
        refine tu_if_eq 22 X 67 dX4_put_22 (by decide) (tu_lc_rg _ _) (fun br22 => ?_) (fun br22 => ?_)
        ·
          have br22 : u / 256 ^ c % 256 = 0 := (tu_lc_0 (by omega) (by decide)).mp br22
          refine tu_jmp [0, 1, 2, 3, 4] (lv' := [(0, tu_r 86), (1, tu_l u), (3, tu_i ((c : Nat) : Int)), (4, tu_l (u / 256 ^ c)), (6, tu_i o)]) ⟨rfl, rfl, rfl, rfl, rfl, trivial⟩ rfl (lp67 (by omega))
        ·
          have br22 : ¬ u / 256 ^ c % 256 = 0 := fun z => br22 ((tu_lc_0 (by omega) (by decide)).mpr z)
          refine tu_iload 25 X 4 dX4_put_25 rfl ?_
          refine tu_if_eq 27 X 51 dX4_put_27 (by decide) (show tu_rg o from by first | assumption | exact ⟨by omega, by omega⟩) (fun br27 => ?_) (fun br27 => ?_)
          ·
            refine tu_iconst 51 X dX4_put_51 ?_
            refine tu_istore 52 X (lv' := [(6, tu_i 0), (0, tu_r 86), (1, tu_l u), (3, tu_i ((c : Nat) : Int)), (4, tu_l (u / 256 ^ c))]) dX4_put_52 (by rw [hnl]; decide) rfl ?_
            refine tu_lload 54 X 4 dX4_put_54 rfl ?_
            refine tu_bipush 56 X dX4_put_56 (by decide) ?_
            refine tu_lushr8 58 X dX4_put_58 (by omega) ?_
            refine tu_lstore 59 X (lv' := [(4, tu_l ((u / 256 ^ c) / 256)), (6, tu_i 0), (0, tu_r 86), (1, tu_l u), (3, tu_i ((c : Nat) : Int))]) dX4_put_59 (by rw [hnl]; decide) rfl ?_
            refine tu_iinc 61 X (lv' := [(3, tu_i (((c : Nat) : Int) + 1)), (4, tu_l ((u / 256 ^ c) / 256)), (6, tu_i 0), (0, tu_r 86), (1, tu_l u)]) 4 dX4_put_61 rfl (by rw [hnl]; decide) rfl ?_
            refine tu_goto 64 X 8 dX4_put_64 (by decide) ?_
            refine tu_jmp [3, 4, 0, 1, 2] (lv' := [(0, tu_r 86), (1, tu_l u), (3, tu_i (((c + 1) : Nat) : Int)), (4, tu_l (u / 256 ^ (c + 1))), (6, tu_i 0)]) ⟨rfl, rfl, tu_ei (by first | rfl | omega), tu_el (by first | (simp; done) | rw [Nat.pow_succ, Nat.div_div_eq_div_mul]), rfl, trivial⟩ rfl (ih8 (c + 1) 0 (by first | assumption | omega) (by first | (rcases ho with ⟨o1, o2⟩ | ⟨o1, o2⟩; exact Or.inl ⟨rfl, fun j hj => by rcases Nat.lt_or_ge j c with q | q; exact o2 j q; rw [show j = c from by omega]; unfold tu_by; omega⟩; omega) | (rcases ho with ⟨o1, o2⟩ | ⟨o1, j, o2, o3⟩; exact Or.inr ⟨rfl, c, by omega, by unfold tu_by; omega⟩; exact Or.inr ⟨rfl, j, by omega, o3⟩)) (by intro j hj; rcases Nat.lt_or_ge j c with q | q; exact hn j q; rw [show j = c from by omega]; unfold tu_by; omega) (by omega))
          ·
            refine tu_lload 30 X 3 dX4_put_30 rfl ?_
            refine tu_ldc2 32 X (n := 255) dX4_put_32 kw_RX4_193 (by decide) ?_
            refine tu_land255 35 X dX4_put_35 ?_
            refine tu_l2i 36 X dX4_put_36 ?_
            refine tu_bipush 37 X dX4_put_37 (by decide) ?_
            refine tu_bipush 39 X dX4_put_39 (by decide) ?_
            refine tu_callSI 41 X (st := []) (as := [tu_i ((((u / 256 ^ c) % 256) : Nat) : Int), tu_i 33, tu_i 126]) (c_X4_within ((((u / 256 ^ c) % 256) : Nat) : Int) 33 126 (show tu_rg ((((u / 256 ^ c) % 256) : Nat) : Int) from by first | assumption | omega | exact ⟨by omega, by omega⟩ | decide) (show tu_rg 33 from by first | assumption | omega | exact ⟨by omega, by omega⟩ | decide) (show tu_rg 126 from by first | assumption | omega | exact ⟨by omega, by omega⟩ | decide)) ss_RX4_48 dX4_put_41 rfl (Nat.le_of_ble_eq_true rfl) ⟨by decide, by decide⟩ (fun z M' h => ?_)
            obtain ⟨hM41, hz41⟩ := h
            refine tu_st_eq rfl (M' := M) hM41 ?_
            refine tu_tp (b := tu_b (33 ≤ ((((u / 256 ^ c) % 256) : Nat) : Int) ∧ ((((u / 256 ^ c) % 256) : Nat) : Int) ≤ 126)) hz41 ?_
            refine tu_if_eq 44 X 51 dX4_put_44 (by decide) tu_b_rg (fun br44 => ?_) (fun br44 => ?_)
            ·
              have br44 := tu_b_e0 br44
              refine tu_iconst 51 X dX4_put_51 ?_
              refine tu_istore 52 X (lv' := [(6, tu_i 0), (0, tu_r 86), (1, tu_l u), (3, tu_i ((c : Nat) : Int)), (4, tu_l (u / 256 ^ c))]) dX4_put_52 (by rw [hnl]; decide) rfl ?_
              refine tu_lload 54 X 4 dX4_put_54 rfl ?_
              refine tu_bipush 56 X dX4_put_56 (by decide) ?_
              refine tu_lushr8 58 X dX4_put_58 (by omega) ?_
              refine tu_lstore 59 X (lv' := [(4, tu_l ((u / 256 ^ c) / 256)), (6, tu_i 0), (0, tu_r 86), (1, tu_l u), (3, tu_i ((c : Nat) : Int))]) dX4_put_59 (by rw [hnl]; decide) rfl ?_
              refine tu_iinc 61 X (lv' := [(3, tu_i (((c : Nat) : Int) + 1)), (4, tu_l ((u / 256 ^ c) / 256)), (6, tu_i 0), (0, tu_r 86), (1, tu_l u)]) 4 dX4_put_61 rfl (by rw [hnl]; decide) rfl ?_
              refine tu_goto 64 X 8 dX4_put_64 (by decide) ?_
              refine tu_jmp [3, 4, 0, 1, 2] (lv' := [(0, tu_r 86), (1, tu_l u), (3, tu_i (((c + 1) : Nat) : Int)), (4, tu_l (u / 256 ^ (c + 1))), (6, tu_i 0)]) ⟨rfl, rfl, tu_ei (by first | rfl | omega), tu_el (by first | (simp; done) | rw [Nat.pow_succ, Nat.div_div_eq_div_mul]), rfl, trivial⟩ rfl (ih8 (c + 1) 0 (by first | assumption | omega) (by first | (rcases ho with ⟨o1, o2⟩ | ⟨o1, o2⟩; exact Or.inl ⟨rfl, fun j hj => by rcases Nat.lt_or_ge j c with q | q; exact o2 j q; rw [show j = c from by omega]; unfold tu_by; omega⟩; omega) | (rcases ho with ⟨o1, o2⟩ | ⟨o1, j, o2, o3⟩; exact Or.inr ⟨rfl, c, by omega, by unfold tu_by; omega⟩; exact Or.inr ⟨rfl, j, by omega, o3⟩)) (by intro j hj; rcases Nat.lt_or_ge j c with q | q; exact hn j q; rw [show j = c from by omega]; unfold tu_by; omega) (by omega))
            ·
              have br44 := tu_b_n0 br44
              refine tu_iconst 47 X dX4_put_47 ?_
              refine tu_goto 48 X 52 dX4_put_48 (by decide) ?_
              refine tu_istore 52 X (lv' := [(6, tu_i 1), (0, tu_r 86), (1, tu_l u), (3, tu_i ((c : Nat) : Int)), (4, tu_l (u / 256 ^ c))]) dX4_put_52 (by rw [hnl]; decide) rfl ?_
              refine tu_lload 54 X 4 dX4_put_54 rfl ?_
              refine tu_bipush 56 X dX4_put_56 (by decide) ?_
              refine tu_lushr8 58 X dX4_put_58 (by omega) ?_
              refine tu_lstore 59 X (lv' := [(4, tu_l ((u / 256 ^ c) / 256)), (6, tu_i 1), (0, tu_r 86), (1, tu_l u), (3, tu_i ((c : Nat) : Int))]) dX4_put_59 (by rw [hnl]; decide) rfl ?_
              refine tu_iinc 61 X (lv' := [(3, tu_i (((c : Nat) : Int) + 1)), (4, tu_l ((u / 256 ^ c) / 256)), (6, tu_i 1), (0, tu_r 86), (1, tu_l u)]) 4 dX4_put_61 rfl (by rw [hnl]; decide) rfl ?_
              refine tu_goto 64 X 8 dX4_put_64 (by decide) ?_
              refine tu_jmp [3, 4, 0, 1, 2] (lv' := [(0, tu_r 86), (1, tu_l u), (3, tu_i (((c + 1) : Nat) : Int)), (4, tu_l (u / 256 ^ (c + 1))), (6, tu_i 1)]) ⟨rfl, rfl, tu_ei (by first | rfl | omega), tu_el (by first | (simp; done) | rw [Nat.pow_succ, Nat.div_div_eq_div_mul]), rfl, trivial⟩ rfl (ih8 (c + 1) 1 (by first | assumption | omega) (by first | (rcases ho with ⟨o1, o2⟩ | ⟨o1, o2⟩; exact Or.inl ⟨rfl, fun j hj => by rcases Nat.lt_or_ge j c with q | q; exact o2 j q; rw [show j = c from by omega]; unfold tu_by; omega⟩; omega) | (rcases ho with ⟨o1, o2⟩ | ⟨o1, j, o2, o3⟩; exact Or.inr ⟨rfl, c, by omega, by unfold tu_by; omega⟩; exact Or.inr ⟨rfl, j, by omega, o3⟩)) (by intro j hj; rcases Nat.lt_or_ge j c with q | q; exact hn j q; rw [show j = c from by omega]; unfold tu_by; omega) (by omega))
  refine tu_jmp [3, 4, 2, 1, 0] (lv' := [(0, tu_r 86), (1, tu_l u), (3, tu_i 0), (4, tu_l (u / 256 ^ 0)), (6, tu_i 1)]) ⟨rfl, rfl, rfl, tu_el (by first | (simp; done) | rw [Nat.pow_succ, Nat.div_div_eq_div_mul]), rfl, trivial⟩ rfl (lp8 ((8 - 0) + 1) 0 1 (by first | assumption | omega) (by exact Or.inl ⟨rfl, fun j hj => absurd hj (by omega)⟩) (by intro j hj; omega) (by omega))
