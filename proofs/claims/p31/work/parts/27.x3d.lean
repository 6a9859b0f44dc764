set_option maxRecDepth 20000 in
set_option maxHeartbeats 4000000 in
theorem c_X3_leastCostOf {M : tu_M} (l p : Nat) (hB : tu_OK M) (hl : (l : Int) < M 1 1) (hp : (p : Int) < M 1 4) : tu_MI tu_Y_X3_leastCostOf [tu_r 0, tu_i ((l : Nat) : Int), tu_i ((p : Nat) : Int)] M (fun z M' => ∃ (L : Nat → Int) (a : Nat → Int) (k : Nat → Int) (r : Nat → Int) (c : Nat → Int), M' = tu_row (tu_row (tu_row (tu_row (tu_row M 11 L) 12 a) 13 k) 14 r) 15 c ∧ (tu_LK L a k r (tu_nl (tu_cb M) l) (tu_np (tu_cb M) p)) ∧ (tu_TK (tu_cb M) l p L a k) ∧ (tu_Tx L a k r (tu_nl (tu_cb M) l) (tu_np (tu_cb M) p) c) ∧ (c 0 = tu_co (tu_cb M) l p) ∧ (0 ≤ tu_co (tu_cb M) l p ∧ tu_co (tu_cb M) l p ≤ 1000000) ∧ z = tu_co (tu_cb M) l p) := by
  have cn := hB.cnt
  refine tu_MI.of (ty := .int) (by decide) rfl (by first | exact Or.inl rfl | exact Or.inr rfl) (Nat.le_of_ble_eq_true rfl) (fun T (X : tu_X T cX3_leastCostOf RX3 3 69) hnl hrt hret => ?_)
  have hret : tu_RI T cX3_leastCostOf (fun z M' => ∃ (L : Nat → Int) (a : Nat → Int) (k : Nat → Int) (r : Nat → Int) (c : Nat → Int), M' = tu_row (tu_row (tu_row (tu_row (tu_row M 11 L) 12 a) 13 k) 14 r) 15 c ∧ (tu_LK L a k r (tu_nl (tu_cb M) l) (tu_np (tu_cb M) p)) ∧ (tu_TK (tu_cb M) l p L a k) ∧ (tu_Tx L a k r (tu_nl (tu_cb M) l) (tu_np (tu_cb M) p) c) ∧ (c 0 = tu_co (tu_cb M) l p) ∧ (0 ≤ tu_co (tu_cb M) l p ∧ tu_co (tu_cb M) l p ≤ 1000000) ∧ z = tu_co (tu_cb M) l p) := hret
  have hnl : T.2.2.2.2.2.2.2.2.2.2.1 = 3 := hnl
  show tu_W T 0 [(0, tu_r 0), (1, tu_i ((l : Nat) : Int)), (2, tu_i ((p : Nat) : Int))] [] M
  refine tu_aload_n 0 X 0 dX3_leastCostOf_0 rfl ?_
  refine tu_getR 1 X dX3_leastCostOf_1 fl_RX3_26 (by decide) rfl rfl ?_
  refine tu_aload_n 4 X 0 dX3_leastCostOf_4 rfl ?_
  refine tu_getR 5 X dX3_leastCostOf_5 fl_RX3_10 (by decide) rfl rfl ?_
  refine tu_iload_n 8 X 1 dX3_leastCostOf_8 rfl ?_
  refine tu_iload_n 9 X 2 dX3_leastCostOf_9 rfl ?_
  refine tu_callVV 10 X (st := []) (as := [tu_r 1, tu_i ((l : Nat) : Int), tu_i ((p : Nat) : Int)]) (c_X1_take l p (show tu_OK M from by first | assumption | omega | exact ⟨by omega, by omega⟩ | decide) (show (l : Int) < M 1 1 from by first | assumption | omega | exact ⟨by omega, by omega⟩ | decide) (show (p : Int) < M 1 4 from by first | assumption | omega | exact ⟨by omega, by omega⟩ | decide)) sv_RX3_189 dX3_leastCostOf_10 rfl (by decide) rfl rfl rfl (Nat.le_of_ble_eq_true rfl) ⟨by decide, by decide⟩ (fun M' h => ?_)
  obtain ⟨L_10, a_10, k_10, r_10, hM10, h10_0, h10_1⟩ := h
  refine tu_st_eq rfl (M' := tu_row (tu_row (tu_row (tu_row M 11 L_10) 12 a_10) 13 k_10) 14 r_10) hM10 ?_
  refine tu_aload_n 13 X 0 dX3_leastCostOf_13 rfl ?_
  refine tu_getR 14 X dX3_leastCostOf_14 fl_RX3_26 (by decide) rfl rfl ?_
  refine tu_callVI 17 X (st := []) (as := []) (c_X1_leastCost ((M 3 l).toNat) ((M 5 p).toNat) (show tu_LK (L_10) (a_10) (k_10) (r_10) ((M 3 l).toNat) ((M 5 p).toNat) from by exact h10_0)) sv_RX3_196 dX3_leastCostOf_17 rfl (by decide) rfl rfl rfl (Nat.le_of_ble_eq_true rfl) ⟨by decide, by decide⟩ (fun z M' h => ?_)
  obtain ⟨c_17, hM17, h17_0, hz17⟩ := h
  refine tu_st_eq rfl (M' := tu_row (tu_row (tu_row (tu_row (tu_row M 11 L_10) 12 a_10) 13 k_10) 14 r_10) 15 c_17) hM17 ?_
  refine tu_tp (b := (c_17 0)) hz17 ?_
  refine hret 20 _ _ (c_17 0) dX3_leastCostOf_20 (fun h => by rw [hrt] at h; cases h) ?_
  have e9 : tu_TK (tu_cb M) l p L_10 a_10 k_10 := h10_1
  have e8 := e9.co h10_0 h17_0
  have e7 := h17_0.rg h10_0
  exact ⟨L_10, a_10, k_10, r_10, c_17, rfl, h10_0, e9, h17_0, e8, by rw [← e8]; exact e7, e8⟩
set_option maxRecDepth 20000 in
set_option maxHeartbeats 4000000 in
theorem c_X3_cheapestPhrase {M : tu_M} (l : Nat) (hB : tu_OK M) (hl : (l : Int) < M 1 1) : tu_MI tu_Y_X3_cheapestPhrase [tu_r 0, tu_i ((l : Nat) : Int)] M (fun z M' => ∃ (L : Nat → Int) (a : Nat → Int) (k : Nat → Int) (r : Nat → Int) (c : Nat → Int), M' = tu_row (tu_row (tu_row (tu_row (tu_row M 11 L) 12 a) 13 k) 14 r) 15 c ∧ z = (tu_bp 1000000 (fun p => tu_co (tu_cb M) l p) (M 1 4).toNat).1) := by
  have cn := hB.cnt
  refine tu_MI.of (ty := .int) (by decide) rfl (by first | exact Or.inl rfl | exact Or.inr rfl) (Nat.le_of_ble_eq_true rfl) (fun T (X : tu_X T cX3_cheapestPhrase RX3 4 91) hnl hrt hret => ?_)
  have hret : tu_RI T cX3_cheapestPhrase (fun z M' => ∃ (L : Nat → Int) (a : Nat → Int) (k : Nat → Int) (r : Nat → Int) (c : Nat → Int), M' = tu_row (tu_row (tu_row (tu_row (tu_row M 11 L) 12 a) 13 k) 14 r) 15 c ∧ z = (tu_bp 1000000 (fun p => tu_co (tu_cb M) l p) (M 1 4).toNat).1) := hret
  have hnl : T.2.2.2.2.2.2.2.2.2.2.1 = 6 := hnl
  show tu_W T 0 [(0, tu_r 0), (1, tu_i ((l : Nat) : Int))] [] M
  refine tu_bipush 0 X dX3_cheapestPhrase_0 (by decide) ?_
  refine tu_istore_n 2 X (lv' := [(2, tu_i (-6)), (0, tu_r 0), (1, tu_i ((l : Nat) : Int))]) dX3_cheapestPhrase_2 (by rw [hnl]; decide) rfl ?_
  refine tu_ldc 3 X (n := 1000000) dX3_cheapestPhrase_3 kw_RX3_169 (by decide) ?_
  refine tu_istore_n 5 X (lv' := [(3, tu_i 1000000), (2, tu_i (-6)), (0, tu_r 0), (1, tu_i ((l : Nat) : Int))]) dX3_cheapestPhrase_5 (by rw [hnl]; decide) rfl ?_
  refine tu_iconst 6 X dX3_cheapestPhrase_6 ?_
  refine tu_istore 7 X (lv' := [(4, tu_i 0), (3, tu_i 1000000), (2, tu_i (-6)), (0, tu_r 0), (1, tu_i ((l : Nat) : Int))]) dX3_cheapestPhrase_7 (by rw [hnl]; decide) rfl ?_
  refine tu_st_eq rfl (M' := tu_row M 11 (M 11)) ((tu_rx M 11).symm) ?_
  refine tu_st_eq rfl (M' := tu_row (tu_row M 11 (M 11)) 12 (M 12)) ((congrArg (fun m => tu_row m 11 (M 11)) ((tu_rx M 12).symm)).trans (tu_rc M (M 12) (M 11) rfl)) ?_
  refine tu_st_eq rfl (M' := tu_row (tu_row (tu_row M 11 (M 11)) 12 (M 12)) 13 (M 13)) ((congrArg (fun m => tu_row m 12 (M 12)) ((congrArg (fun m => tu_row m 11 (M 11)) ((tu_rx M 13).symm)).trans (tu_rc M (M 13) (M 11) rfl))).trans (tu_rc (tu_row M 11 (M 11)) (M 13) (M 12) rfl)) ?_
  refine tu_st_eq rfl (M' := tu_row (tu_row (tu_row (tu_row M 11 (M 11)) 12 (M 12)) 13 (M 13)) 14 (M 14)) ((congrArg (fun m => tu_row m 13 (M 13)) ((congrArg (fun m => tu_row m 12 (M 12)) ((congrArg (fun m => tu_row m 11 (M 11)) ((tu_rx M 14).symm)).trans (tu_rc M (M 14) (M 11) rfl))).trans (tu_rc (tu_row M 11 (M 11)) (M 14) (M 12) rfl))).trans (tu_rc (tu_row (tu_row M 11 (M 11)) 12 (M 12)) (M 14) (M 13) rfl)) ?_
  refine tu_st_eq rfl (M' := tu_row (tu_row (tu_row (tu_row (tu_row M 11 (M 11)) 12 (M 12)) 13 (M 13)) 14 (M 14)) 15 (M 15)) ((congrArg (fun m => tu_row m 14 (M 14)) ((congrArg (fun m => tu_row m 13 (M 13)) ((congrArg (fun m => tu_row m 12 (M 12)) ((congrArg (fun m => tu_row m 11 (M 11)) ((tu_rx M 15).symm)).trans (tu_rc M (M 15) (M 11) rfl))).trans (tu_rc (tu_row M 11 (M 11)) (M 15) (M 12) rfl))).trans (tu_rc (tu_row (tu_row M 11 (M 11)) 12 (M 12)) (M 15) (M 13) rfl))).trans (tu_rc (tu_row (tu_row (tu_row M 11 (M 11)) 12 (M 12)) 13 (M 13)) (M 15) (M 14) rfl)) ?_
  have lp9 : ∀ (nq : Nat) (q : Nat) (L : Nat → Int) (a : Nat → Int) (k : Nat → Int) (r : Nat → Int) (c : Nat → Int), ((q : Int) ≤ M 1 4) → (0 ≤ (tu_bp 1000000 (fun p => tu_co (tu_cb M) l p) q).2 ∧ (tu_bp 1000000 (fun p => tu_co (tu_cb M) l p) q).2 ≤ 1000000) → (M 1 4).toNat - q < nq → tu_W T 9 [(0, tu_r 0), (1, tu_i ((l : Nat) : Int)), (2, tu_i ((tu_bp 1000000 (fun p => tu_co (tu_cb M) l p) q).1)), (3, tu_i ((tu_bp 1000000 (fun p => tu_co (tu_cb M) l p) q).2)), (4, tu_i ((q : Nat) : Int))] [] (tu_row (tu_row (tu_row (tu_row (tu_row M 11 L) 12 a) 13 k) 14 r) 15 c) := by
    intro nq
    induction nq with
    | zero => intros; omega
    | succ nq ih9 =>
      intro q L a k r c hq hb hn9
      refine tu_iload 9 X 4 dX3_cheapestPhrase_9 rfl ?_
      refine tu_aload_n 11 X 0 dX3_cheapestPhrase_11 rfl ?_
      refine tu_getR 12 X dX3_cheapestPhrase_12 fl_RX3_10 (by decide) rfl rfl ?_
      refine tu_getI 15 X (x := M 1 4) dX3_cheapestPhrase_15 fl_RX3_71 (by decide) rfl rfl rfl ?_
      refine tu_icmp_ge 18 X 48 dX3_cheapestPhrase_18 (by decide) (show tu_rg ((q : Nat) : Int) from by first | assumption | exact ⟨by omega, by omega⟩) (show tu_rg (M 1 4) from by first | assumption | exact ⟨by omega, by omega⟩) (fun br18 => ?_) (fun br18 => ?_)
      ·
        refine tu_iload_n 48 X 2 dX3_cheapestPhrase_48 rfl ?_
        refine hret 49 _ _ ((tu_bp 1000000 (fun p => tu_co (tu_cb M) l p) q).1) dX3_cheapestPhrase_49 (fun h => by rw [hrt] at h; cases h) ?_
        refine ⟨_, _, _, _, _, rfl, ?_⟩
        rw [show (M 1 4).toNat = q from by omega]
      ·
        refine tu_aload_n 21 X 0 dX3_cheapestPhrase_21 rfl ?_
        refine tu_iload_n 22 X 1 dX3_cheapestPhrase_22 rfl ?_
        refine tu_iload 23 X 4 dX3_cheapestPhrase_23 rfl ?_
        refine tu_callVI 25 X (st := []) (as := [tu_i ((l : Nat) : Int), tu_i ((q : Nat) : Int)]) (c_X3_leastCostOf l q (show tu_OK M from by first | assumption | omega | exact ⟨by omega, by omega⟩ | decide) (show (l : Int) < M 1 1 from by first | assumption | omega | exact ⟨by omega, by omega⟩ | decide) (show (q : Int) < M 1 4 from by first | assumption | omega | exact ⟨by omega, by omega⟩ | decide)) sv_RX3_166 dX3_cheapestPhrase_25 rfl (by decide) rfl rfl rfl (Nat.le_of_ble_eq_true rfl) ⟨by decide, by decide⟩ (fun z M' h => ?_)
        obtain ⟨L_25, a_25, k_25, r_25, c_25, hM25, h25_0, h25_1, h25_2, h25_3, h25_4, hz25⟩ := h
        have h25_0 : tu_LK L_25 a_25 k_25 r_25 (tu_nl (tu_cb M) l) (tu_np (tu_cb M) q) := h25_0
        have h25_1 : tu_TK (tu_cb M) l q L_25 a_25 k_25 := h25_1
        have h25_2 : tu_Tx L_25 a_25 k_25 r_25 (tu_nl (tu_cb M) l) (tu_np (tu_cb M) q) c_25 := h25_2
        have h25_3 : c_25 0 = tu_co (tu_cb M) l q := h25_3
        have h25_4 : 0 ≤ tu_co (tu_cb M) l q ∧ tu_co (tu_cb M) l q ≤ 1000000 := h25_4
        refine tu_st_eq rfl (M' := tu_row (tu_row (tu_row (tu_row (tu_row M 11 L_25) 12 a_25) 13 k_25) 14 r_25) 15 c_25) (hM25.trans ((congrArg (fun m => tu_row m 15 c_25) ((congrArg (fun m => tu_row m 14 r_25) ((congrArg (fun m => tu_row m 13 k_25) ((congrArg (fun m => tu_row m 12 a_25) ((tu_rc (tu_row (tu_row (tu_row (tu_row M 11 L) 12 a) 13 k) 14 r) c L_25 rfl).trans (congrArg (fun m => tu_row m 15 c) ((tu_rc (tu_row (tu_row (tu_row M 11 L) 12 a) 13 k) r L_25 rfl).trans (congrArg (fun m => tu_row m 14 r) ((tu_rc (tu_row (tu_row M 11 L) 12 a) k L_25 rfl).trans (congrArg (fun m => tu_row m 13 k) ((tu_rc (tu_row M 11 L) a L_25 rfl).trans (congrArg (fun m => tu_row m 12 a) (tu_rr M 11 L L_25)))))))))).trans ((tu_rc (tu_row (tu_row (tu_row (tu_row M 11 L_25) 12 a) 13 k) 14 r) c a_25 rfl).trans (congrArg (fun m => tu_row m 15 c) ((tu_rc (tu_row (tu_row (tu_row M 11 L_25) 12 a) 13 k) r a_25 rfl).trans (congrArg (fun m => tu_row m 14 r) ((tu_rc (tu_row (tu_row M 11 L_25) 12 a) k a_25 rfl).trans (congrArg (fun m => tu_row m 13 k) (tu_rr (tu_row M 11 L_25) 12 a a_25))))))))).trans ((tu_rc (tu_row (tu_row (tu_row (tu_row M 11 L_25) 12 a_25) 13 k) 14 r) c k_25 rfl).trans (congrArg (fun m => tu_row m 15 c) ((tu_rc (tu_row (tu_row (tu_row M 11 L_25) 12 a_25) 13 k) r k_25 rfl).trans (congrArg (fun m => tu_row m 14 r) (tu_rr (tu_row (tu_row M 11 L_25) 12 a_25) 13 k k_25))))))).trans ((tu_rc (tu_row (tu_row (tu_row (tu_row M 11 L_25) 12 a_25) 13 k_25) 14 r) c r_25 rfl).trans (congrArg (fun m => tu_row m 15 c) (tu_rr (tu_row (tu_row (tu_row M 11 L_25) 12 a_25) 13 k_25) 14 r r_25))))).trans (tu_rr (tu_row (tu_row (tu_row (tu_row M 11 L_25) 12 a_25) 13 k_25) 14 r_25) 15 c c_25))) ?_
        refine tu_tp (b := (tu_co (tu_cb M) l q)) hz25 ?_
        refine tu_istore 28 X (lv' := [(5, tu_i (tu_co (tu_cb M) l q)), (0, tu_r 0), (1, tu_i ((l : Nat) : Int)), (2, tu_i ((tu_bp 1000000 (fun p => tu_co (tu_cb M) l p) q).1)), (3, tu_i ((tu_bp 1000000 (fun p => tu_co (tu_cb M) l p) q).2)), (4, tu_i ((q : Nat) : Int))]) dX3_cheapestPhrase_28 (by rw [hnl]; decide) rfl ?_
        refine tu_iload 30 X 0 dX3_cheapestPhrase_30 rfl ?_
        refine tu_iload_n 32 X 4 dX3_cheapestPhrase_32 rfl ?_
        refine tu_icmp_ge 33 X 42 dX3_cheapestPhrase_33 (by decide) (show tu_rg (tu_co (tu_cb M) l q) from by first | assumption | exact ⟨by omega, by omega⟩) (show tu_rg ((tu_bp 1000000 (fun p => tu_co (tu_cb M) l p) q).2) from by first | assumption | exact ⟨by omega, by omega⟩) (fun br33 => ?_) (fun br33 => ?_)
        ·
          refine tu_iinc 42 X (lv' := [(4, tu_i (((q : Nat) : Int) + 1)), (5, tu_i (tu_co (tu_cb M) l q)), (0, tu_r 0), (1, tu_i ((l : Nat) : Int)), (2, tu_i ((tu_bp 1000000 (fun p => tu_co (tu_cb M) l p) q).1)), (3, tu_i ((tu_bp 1000000 (fun p => tu_co (tu_cb M) l p) q).2))]) 5 dX3_cheapestPhrase_42 rfl (by rw [hnl]; decide) rfl ?_
          refine tu_goto 45 X 9 dX3_cheapestPhrase_45 (by decide) ?_
          refine tu_jmp [2, 3, 4, 5, 0] (lv' := [(0, tu_r 0), (1, tu_i ((l : Nat) : Int)), (2, tu_i ((tu_bp 1000000 (fun p => tu_co (tu_cb M) l p) (q + 1)).1)), (3, tu_i ((tu_bp 1000000 (fun p => tu_co (tu_cb M) l p) (q + 1)).2)), (4, tu_i (((q + 1) : Nat) : Int))]) ⟨rfl, rfl, tu_ei (by first | rfl | (simp only [tu_bp]; split <;> first | rfl | (exfalso; omega))), tu_ei (by first | rfl | (simp only [tu_bp]; split <;> first | rfl | (exfalso; omega))), tu_ei (by first | rfl | omega), trivial⟩ rfl (ih9 (q + 1) L_25 a_25 k_25 r_25 c_25 (by omega) (by simp only [tu_bp]; split <;> omega) (by omega))
        ·
          refine tu_iload 36 X 0 dX3_cheapestPhrase_36 rfl ?_
          refine tu_istore_n 38 X (lv' := [(3, tu_i (tu_co (tu_cb M) l q)), (5, tu_i (tu_co (tu_cb M) l q)), (0, tu_r 0), (1, tu_i ((l : Nat) : Int)), (2, tu_i ((tu_bp 1000000 (fun p => tu_co (tu_cb M) l p) q).1)), (4, tu_i ((q : Nat) : Int))]) dX3_cheapestPhrase_38 (by rw [hnl]; decide) rfl ?_
          refine tu_iload 39 X 5 dX3_cheapestPhrase_39 rfl ?_
          refine tu_istore_n 41 X (lv' := [(2, tu_i ((q : Nat) : Int)), (3, tu_i (tu_co (tu_cb M) l q)), (5, tu_i (tu_co (tu_cb M) l q)), (0, tu_r 0), (1, tu_i ((l : Nat) : Int)), (4, tu_i ((q : Nat) : Int))]) dX3_cheapestPhrase_41 (by rw [hnl]; decide) rfl ?_
          refine tu_iinc 42 X (lv' := [(4, tu_i (((q : Nat) : Int) + 1)), (2, tu_i ((q : Nat) : Int)), (3, tu_i (tu_co (tu_cb M) l q)), (5, tu_i (tu_co (tu_cb M) l q)), (0, tu_r 0), (1, tu_i ((l : Nat) : Int))]) 5 dX3_cheapestPhrase_42 rfl (by rw [hnl]; decide) rfl ?_
          refine tu_goto 45 X 9 dX3_cheapestPhrase_45 (by decide) ?_
          refine tu_jmp [4, 5, 1, 2, 0] (lv' := [(0, tu_r 0), (1, tu_i ((l : Nat) : Int)), (2, tu_i ((tu_bp 1000000 (fun p => tu_co (tu_cb M) l p) (q + 1)).1)), (3, tu_i ((tu_bp 1000000 (fun p => tu_co (tu_cb M) l p) (q + 1)).2)), (4, tu_i (((q + 1) : Nat) : Int))]) ⟨rfl, rfl, tu_ei (by first | rfl | (simp only [tu_bp]; split <;> first | rfl | (exfalso; omega))), tu_ei (by first | rfl | (simp only [tu_bp]; split <;> first | rfl | (exfalso; omega))), tu_ei (by first | rfl | omega), trivial⟩ rfl (ih9 (q + 1) L_25 a_25 k_25 r_25 c_25 (by omega) (by simp only [tu_bp]; split <;> omega) (by omega))
  refine tu_jmp [3, 4, 2, 1, 0] (lv' := [(0, tu_r 0), (1, tu_i ((l : Nat) : Int)), (2, tu_i ((tu_bp 1000000 (fun p => tu_co (tu_cb M) l p) 0).1)), (3, tu_i ((tu_bp 1000000 (fun p => tu_co (tu_cb M) l p) 0).2)), (4, tu_i 0)]) ⟨rfl, rfl, tu_ei (by first | rfl | (simp only [tu_bp]; split <;> first | rfl | (exfalso; omega))), tu_ei (by first | rfl | (simp only [tu_bp]; split <;> first | rfl | (exfalso; omega))), rfl, trivial⟩ rfl (lp9 (((M 1 4).toNat - 0) + 1) 0 (M 11) (M 12) (M 13) (M 14) (M 15) (by omega) (by exact ⟨by show (0 : Int) ≤ 1000000; decide, Int.le_refl _⟩) (by omega))
set_option maxRecDepth 20000 in
set_option maxHeartbeats 4000000 in
theorem c_X3_line {M : tu_M} (l w : Int) (hB : tu_OK M) (rl : tu_rg l) (rw : tu_rg w) : tu_MI tu_Y_X3_line [tu_r 0, tu_i l, tu_i w] M (fun z M' => ∃ (y : Int), (tu_sc M M') ∧ (((¬ (0 ≤ l ∧ l < M 1 1)) ∧ y = -1) ∨ (((0 ≤ l ∧ l < M 1 1) ∧ w = 0) ∧ y = M 3 l.toNat) ∨ (((0 ≤ l ∧ l < M 1 1) ∧ w = 1) ∧ y = tu_sm (fun q => M 4 (l.toNat * 16 + q)) (M 3 l.toNat).toNat) ∨ (((0 ≤ l ∧ l < M 1 1) ∧ w = 2) ∧ y = tu_ti (M 7) l (M 1 7).toNat) ∨ (((0 ≤ l ∧ l < M 1 1) ∧ w = 3 ∧ 2 ≤ tu_ti (M 7) l (M 1 7).toNat) ∧ y = 1) ∨ (((0 ≤ l ∧ l < M 1 1) ∧ w = 3 ∧ tu_ti (M 7) l (M 1 7).toNat < 2) ∧ y = 0) ∨ (((0 ≤ l ∧ l < M 1 1) ∧ w = 4) ∧ y = (tu_bp 1000000 (fun p => tu_co (tu_cb M) l.toNat p) (M 1 4).toNat).1) ∨ (((0 ≤ l ∧ l < M 1 1) ∧ (w < 0 ∨ 4 < w)) ∧ y = -2)) ∧ z = y) := by
  have cn := hB.cnt
  refine tu_MI.of (ty := .int) (by decide) rfl (by first | exact Or.inl rfl | exact Or.inr rfl) (Nat.le_of_ble_eq_true rfl) (fun T (X : tu_X T cX3_line RX3 5 116) hnl hrt hret => ?_)
  have hret : tu_RI T cX3_line (fun z M' => ∃ (y : Int), (tu_sc M M') ∧ (((¬ (0 ≤ l ∧ l < M 1 1)) ∧ y = -1) ∨ (((0 ≤ l ∧ l < M 1 1) ∧ w = 0) ∧ y = M 3 l.toNat) ∨ (((0 ≤ l ∧ l < M 1 1) ∧ w = 1) ∧ y = tu_sm (fun q => M 4 (l.toNat * 16 + q)) (M 3 l.toNat).toNat) ∨ (((0 ≤ l ∧ l < M 1 1) ∧ w = 2) ∧ y = tu_ti (M 7) l (M 1 7).toNat) ∨ (((0 ≤ l ∧ l < M 1 1) ∧ w = 3 ∧ 2 ≤ tu_ti (M 7) l (M 1 7).toNat) ∧ y = 1) ∨ (((0 ≤ l ∧ l < M 1 1) ∧ w = 3 ∧ tu_ti (M 7) l (M 1 7).toNat < 2) ∧ y = 0) ∨ (((0 ≤ l ∧ l < M 1 1) ∧ w = 4) ∧ y = (tu_bp 1000000 (fun p => tu_co (tu_cb M) l.toNat p) (M 1 4).toNat).1) ∨ (((0 ≤ l ∧ l < M 1 1) ∧ (w < 0 ∨ 4 < w)) ∧ y = -2)) ∧ z = y) := hret
  have hnl : T.2.2.2.2.2.2.2.2.2.2.1 = 3 := hnl
  show tu_W T 0 [(0, tu_r 0), (1, tu_i l), (2, tu_i w)] [] M
  refine tu_aload_n 0 X 0 dX3_line_0 rfl ?_
  refine tu_getR 1 X dX3_line_1 fl_RX3_10 (by decide) rfl rfl ?_
  refine tu_iload_n 4 X 1 dX3_line_4 rfl ?_
  refine tu_callVI 5 X (st := []) (as := [tu_i l]) (c_X0_hasLine l (show tu_OK M from by first | assumption | omega | exact ⟨by omega, by omega⟩ | decide) (show tu_rg l from by first | assumption | omega | exact ⟨by omega, by omega⟩ | decide)) sv_RX3_93 dX3_line_5 rfl (by decide) rfl rfl rfl (Nat.le_of_ble_eq_true rfl) ⟨by decide, by decide⟩ (fun z M' h => ?_)
  obtain ⟨hM5, hz5⟩ := h
  refine tu_st_eq rfl (M' := M) hM5 ?_
  refine tu_tp (b := tu_b (0 ≤ l ∧ l < M 1 1)) hz5 ?_
  refine tu_if_ne 8 X 13 dX3_line_8 (by decide) tu_b_rg (fun br8 => ?_) (fun br8 => ?_)
  ·
    have br8 := tu_b_n0 br8
    refine tu_iload_n 13 X 2 dX3_line_13 rfl ?_
    rcases (show w = 0 ∨ w = 1 ∨ w = 2 ∨ w = 3 ∨ w = 4 ∨ (w < 0 ∨ 4 < w) from by omega) with br14 | br14 | br14 | br14 | br14 | br14
    ·
      refine tu_tabIn 14 X 48 dX3_line_14 (show tu_rg w from by first | assumption | exact ⟨by omega, by omega⟩) (by omega) (by omega) (by rw [br14]; rfl) (by decide) ?_
      refine tu_aload_n 48 X 0 dX3_line_48 rfl ?_
      refine tu_getR 49 X dX3_line_49 fl_RX3_10 (by decide) rfl rfl ?_
      refine tu_getR 52 X dX3_line_52 fl_RX3_131 (by decide) rfl rfl ?_
      refine tu_iload_n 55 X 1 dX3_line_55 rfl ?_
      refine tu_iald 56 X (x := M 3 l.toNat) l.toNat dX3_line_56 (by decide) rfl (by decide) (by omega) (by omega) rfl ?_
      refine hret 57 _ _ (M 3 l.toNat) dX3_line_57 (fun h => by rw [hrt] at h; cases h) ?_
      exact ⟨_, tu_sc.rf _, Or.inr (Or.inl (⟨by omega, rfl⟩)), rfl⟩
    ·
      refine tu_tabIn 14 X 58 dX3_line_14 (show tu_rg w from by first | assumption | exact ⟨by omega, by omega⟩) (by omega) (by omega) (by rw [br14]; rfl) (by decide) ?_
      refine tu_aload_n 58 X 0 dX3_line_58 rfl ?_
      refine tu_getR 59 X dX3_line_59 fl_RX3_10 (by decide) rfl rfl ?_
      refine tu_iload_n 62 X 1 dX3_line_62 rfl ?_
      refine tu_st_eq (show _ = [tu_i ((l.toNat : Nat) : Int), tu_r 1] from by first | rfl | (simp only [List.cons.injEq, Sum.inl.injEq, and_true, true_and]; omega)) rfl ?_
      refine tu_callVI 63 X (st := []) (as := [tu_i ((l.toNat : Nat) : Int)]) (c_X0_stressedOf l.toNat (show tu_OK M from by first | assumption | omega | exact ⟨by omega, by omega⟩ | decide) (show (l.toNat : Int) < M 1 1 from by first | assumption | omega | exact ⟨by omega, by omega⟩ | decide)) sv_RX3_134 dX3_line_63 rfl (by decide) rfl rfl rfl (Nat.le_of_ble_eq_true rfl) ⟨by decide, by decide⟩ (fun z M' h => ?_)
      obtain ⟨hM63, hz63⟩ := h
      refine tu_st_eq rfl (M' := M) hM63 ?_
      refine tu_tp (b := (tu_sm (fun q => M 4 (l.toNat * 16 + q)) (M 3 l.toNat).toNat)) hz63 ?_
      refine hret 66 _ _ (tu_sm (fun q => M 4 (l.toNat * 16 + q)) (M 3 l.toNat).toNat) dX3_line_66 (fun h => by rw [hrt] at h; cases h) ?_
      exact ⟨_, tu_sc.rf _, Or.inr (Or.inr (Or.inl (⟨by omega, rfl⟩))), rfl⟩
    ·
      refine tu_tabIn 14 X 67 dX3_line_14 (show tu_rg w from by first | assumption | exact ⟨by omega, by omega⟩) (by omega) (by omega) (by rw [br14]; rfl) (by decide) ?_
      refine tu_aload_n 67 X 0 dX3_line_67 rfl ?_
      refine tu_getR 68 X dX3_line_68 fl_RX3_10 (by decide) rfl rfl ?_
      refine tu_iload_n 71 X 1 dX3_line_71 rfl ?_
      refine tu_callVI 72 X (st := []) (as := [tu_i l]) (c_X0_timesSung l (show tu_OK M from by first | assumption | omega | exact ⟨by omega, by omega⟩ | decide) (show tu_rg l from by first | assumption | omega | exact ⟨by omega, by omega⟩ | decide)) sv_RX3_138 dX3_line_72 rfl (by decide) rfl rfl rfl (Nat.le_of_ble_eq_true rfl) ⟨by decide, by decide⟩ (fun z M' h => ?_)
      obtain ⟨hM72, hz72⟩ := h
      refine tu_st_eq rfl (M' := M) hM72 ?_
      refine tu_tp (b := (tu_ti (M 7) l (M 1 7).toNat)) hz72 ?_
      refine hret 75 _ _ (tu_ti (M 7) l (M 1 7).toNat) dX3_line_75 (fun h => by rw [hrt] at h; cases h) ?_
      exact ⟨_, tu_sc.rf _, Or.inr (Or.inr (Or.inr (Or.inl (⟨by omega, rfl⟩)))), rfl⟩
    ·
      refine tu_tabIn 14 X 76 dX3_line_14 (show tu_rg w from by first | assumption | exact ⟨by omega, by omega⟩) (by omega) (by omega) (by rw [br14]; rfl) (by decide) ?_
      refine tu_aload_n 76 X 0 dX3_line_76 rfl ?_
      refine tu_getR 77 X dX3_line_77 fl_RX3_10 (by decide) rfl rfl ?_
      refine tu_iload_n 80 X 1 dX3_line_80 rfl ?_
      refine tu_callVI 81 X (st := []) (as := [tu_i l]) (c_X0_timesSung l (show tu_OK M from by first | assumption | omega | exact ⟨by omega, by omega⟩ | decide) (show tu_rg l from by first | assumption | omega | exact ⟨by omega, by omega⟩ | decide)) sv_RX3_138 dX3_line_81 rfl (by decide) rfl rfl rfl (Nat.le_of_ble_eq_true rfl) ⟨by decide, by decide⟩ (fun z M' h => ?_)
      obtain ⟨hM81, hz81⟩ := h
      refine tu_st_eq rfl (M' := M) hM81 ?_
      refine tu_tp (b := (tu_ti (M 7) l (M 1 7).toNat)) hz81 ?_
      have gti := tu_ti_01 (M 7) l (M 1 7).toNat
      refine tu_iconst 84 X dX3_line_84 ?_
      refine tu_icmp_lt 85 X 92 dX3_line_85 (by decide) (show tu_rg (tu_ti (M 7) l (M 1 7).toNat) from by first | assumption | exact ⟨by omega, by omega⟩) ⟨by decide, by decide⟩ (fun br85 => ?_) (fun br85 => ?_)
      ·
        refine tu_iconst 92 X dX3_line_92 ?_
        refine hret 93 _ _ 0 dX3_line_93 (fun h => by rw [hrt] at h; cases h) ?_
        first | exact ⟨_, tu_sc.rf _, Or.inr (Or.inr (Or.inr (Or.inr (Or.inl (⟨by omega, rfl⟩))))), rfl⟩ | exact ⟨_, tu_sc.rf _, Or.inr (Or.inr (Or.inr (Or.inr (Or.inr (Or.inl (⟨by omega, rfl⟩)))))), rfl⟩
      ·
        refine tu_iconst 88 X dX3_line_88 ?_
        refine tu_goto 89 X 93 dX3_line_89 (by decide) ?_
        refine hret 93 _ _ 1 dX3_line_93 (fun h => by rw [hrt] at h; cases h) ?_
        first | exact ⟨_, tu_sc.rf _, Or.inr (Or.inr (Or.inr (Or.inr (Or.inl (⟨by omega, rfl⟩))))), rfl⟩ | exact ⟨_, tu_sc.rf _, Or.inr (Or.inr (Or.inr (Or.inr (Or.inr (Or.inl (⟨by omega, rfl⟩)))))), rfl⟩
    ·
      refine tu_tabIn 14 X 94 dX3_line_14 (show tu_rg w from by first | assumption | exact ⟨by omega, by omega⟩) (by omega) (by omega) (by rw [br14]; rfl) (by decide) ?_
      refine tu_aload_n 94 X 0 dX3_line_94 rfl ?_
      refine tu_iload_n 95 X 1 dX3_line_95 rfl ?_
      refine tu_st_eq (show _ = [tu_i ((l.toNat : Nat) : Int), tu_r 0] from by first | rfl | (simp only [List.cons.injEq, Sum.inl.injEq, and_true, true_and]; omega)) rfl ?_
      refine tu_callVI 96 X (st := []) (as := [tu_i ((l.toNat : Nat) : Int)]) (c_X3_cheapestPhrase l.toNat (show tu_OK M from by first | assumption | omega | exact ⟨by omega, by omega⟩ | decide) (show (l.toNat : Int) < M 1 1 from by first | assumption | omega | exact ⟨by omega, by omega⟩ | decide)) sv_RX3_141 dX3_line_96 rfl (by decide) rfl rfl rfl (Nat.le_of_ble_eq_true rfl) ⟨by decide, by decide⟩ (fun z M' h => ?_)
      obtain ⟨L_96, a_96, k_96, r_96, c_96, hM96, hz96⟩ := h
      refine tu_st_eq rfl (M' := tu_row (tu_row (tu_row (tu_row (tu_row M 11 L_96) 12 a_96) 13 k_96) 14 r_96) 15 c_96) hM96 ?_
      refine tu_tp (b := ((tu_bp 1000000 (fun p => tu_co (tu_cb M) l.toNat p) (M 1 4).toNat).1)) hz96 ?_
      refine hret 99 _ _ ((tu_bp 1000000 (fun p => tu_co (tu_cb M) l.toNat p) (M 1 4).toNat).1) dX3_line_99 (fun h => by rw [hrt] at h; cases h) ?_
      exact ⟨_, (tu_sc.row (tu_sc.row (tu_sc.row (tu_sc.row (tu_sc.row (tu_sc.rf _) _ (by decide)) _ (by decide)) _ (by decide)) _ (by decide)) _ (by decide)), Or.inr (Or.inr (Or.inr (Or.inr (Or.inr (Or.inr (Or.inl (⟨by omega, rfl⟩))))))), rfl⟩
    ·
      refine tu_tabOut 14 X 100 dX3_line_14 (show tu_rg w from by first | assumption | exact ⟨by omega, by omega⟩) br14 (by decide) ?_
      refine tu_bipush 100 X dX3_line_100 (by decide) ?_
      refine hret 102 _ _ (-2) dX3_line_102 (fun h => by rw [hrt] at h; cases h) ?_
      exact ⟨_, tu_sc.rf _, Or.inr (Or.inr (Or.inr (Or.inr (Or.inr (Or.inr (Or.inr (⟨by omega, rfl⟩))))))), rfl⟩
  ·
    have br8 := tu_b_e0 br8
    refine tu_iconst 11 X dX3_line_11 ?_
    refine hret 12 _ _ (-1) dX3_line_12 (fun h => by rw [hrt] at h; cases h) ?_
    exact ⟨_, tu_sc.rf _, Or.inl (⟨by omega, rfl⟩), rfl⟩
set_option maxRecDepth 20000 in
set_option maxHeartbeats 4000000 in
theorem c_X3_fit {M : tu_M} (l p w : Int) (hB : tu_OK M) (rl : tu_rg l) (rp : tu_rg p) (rw : tu_rg w) : tu_MI tu_Y_X3_fit [tu_r 0, tu_i l, tu_i p, tu_i w] M (fun z M' => ∃ (y : Int), (tu_sc M M') ∧ (((¬ ((0 ≤ l ∧ l < M 1 1) ∧ 0 ≤ p ∧ p < M 1 4)) ∧ y = -1) ∨ ((((0 ≤ l ∧ l < M 1 1) ∧ 0 ≤ p ∧ p < M 1 4) ∧ ¬ (0 ≤ w ∧ w ≤ 4)) ∧ y = -2) ∨ ((((0 ≤ l ∧ l < M 1 1) ∧ 0 ≤ p ∧ p < M 1 4) ∧ 0 ≤ w ∧ w ≤ 4) ∧ tu_FX (tu_cb M) l.toNat p.toNat w y)) ∧ z = y) := by
  have cn := hB.cnt
  refine tu_MI.of (ty := .int) (by decide) rfl (by first | exact Or.inl rfl | exact Or.inr rfl) (Nat.le_of_ble_eq_true rfl) (fun T (X : tu_X T cX3_fit RX3 5 112) hnl hrt hret => ?_)
  have hret : tu_RI T cX3_fit (fun z M' => ∃ (y : Int), (tu_sc M M') ∧ (((¬ ((0 ≤ l ∧ l < M 1 1) ∧ 0 ≤ p ∧ p < M 1 4)) ∧ y = -1) ∨ ((((0 ≤ l ∧ l < M 1 1) ∧ 0 ≤ p ∧ p < M 1 4) ∧ ¬ (0 ≤ w ∧ w ≤ 4)) ∧ y = -2) ∨ ((((0 ≤ l ∧ l < M 1 1) ∧ 0 ≤ p ∧ p < M 1 4) ∧ 0 ≤ w ∧ w ≤ 4) ∧ tu_FX (tu_cb M) l.toNat p.toNat w y)) ∧ z = y) := hret
  have hnl : T.2.2.2.2.2.2.2.2.2.2.1 = 5 := hnl
  show tu_W T 0 [(0, tu_r 0), (1, tu_i l), (2, tu_i p), (3, tu_i w)] [] M
  refine tu_aload_n 0 X 0 dX3_fit_0 rfl ?_
  refine tu_getR 1 X dX3_fit_1 fl_RX3_10 (by decide) rfl rfl ?_
  refine tu_iload_n 4 X 1 dX3_fit_4 rfl ?_
  refine tu_callVI 5 X (st := []) (as := [tu_i l]) (c_X0_hasLine l (show tu_OK M from by first | assumption | omega | exact ⟨by omega, by omega⟩ | decide) (show tu_rg l from by first | assumption | omega | exact ⟨by omega, by omega⟩ | decide)) sv_RX3_93 dX3_fit_5 rfl (by decide) rfl rfl rfl (Nat.le_of_ble_eq_true rfl) ⟨by decide, by decide⟩ (fun z M' h => ?_)
  obtain ⟨hM5, hz5⟩ := h
  refine tu_st_eq rfl (M' := M) hM5 ?_
  refine tu_tp (b := tu_b (0 ≤ l ∧ l < M 1 1)) hz5 ?_
  refine tu_if_eq 8 X 22 dX3_fit_8 (by decide) tu_b_rg (fun br8 => ?_) (fun br8 => ?_)
  ·
    have br8 := tu_b_e0 br8
    refine tu_iconst 22 X dX3_fit_22 ?_
    refine hret 23 _ _ (-1) dX3_fit_23 (fun h => by rw [hrt] at h; cases h) ?_
    exact ⟨_, tu_sc.rf _, Or.inl (⟨by omega, rfl⟩), rfl⟩
  ·
    have br8 := tu_b_n0 br8
    refine tu_aload_n 11 X 0 dX3_fit_11 rfl ?_
    refine tu_getR 12 X dX3_fit_12 fl_RX3_10 (by decide) rfl rfl ?_
    refine tu_iload_n 15 X 2 dX3_fit_15 rfl ?_
    refine tu_callVI 16 X (st := []) (as := [tu_i p]) (c_X0_hasPhrase p (show tu_OK M from by first | assumption | omega | exact ⟨by omega, by omega⟩ | decide) (show tu_rg p from by first | assumption | omega | exact ⟨by omega, by omega⟩ | decide)) sv_RX3_103 dX3_fit_16 rfl (by decide) rfl rfl rfl (Nat.le_of_ble_eq_true rfl) ⟨by decide, by decide⟩ (fun z M' h => ?_)
    obtain ⟨hM16, hz16⟩ := h
    refine tu_st_eq rfl (M' := M) hM16 ?_
    refine tu_tp (b := tu_b (0 ≤ p ∧ p < M 1 4)) hz16 ?_
    refine tu_if_ne 19 X 24 dX3_fit_19 (by decide) tu_b_rg (fun br19 => ?_) (fun br19 => ?_)
    ·
      have br19 := tu_b_n0 br19
      refine tu_iload_n 24 X 3 dX3_fit_24 rfl ?_
      refine tu_if_lt 25 X 33 dX3_fit_25 (by decide) (show tu_rg w from by first | assumption | exact ⟨by omega, by omega⟩) (fun br25 => ?_) (fun br25 => ?_)
      ·
        refine tu_bipush 33 X dX3_fit_33 (by decide) ?_
        refine hret 35 _ _ (-2) dX3_fit_35 (fun h => by rw [hrt] at h; cases h) ?_
        exact ⟨_, tu_sc.rf _, Or.inr (Or.inl (⟨by omega, rfl⟩)), rfl⟩
      ·
        refine tu_iload_n 28 X 3 dX3_fit_28 rfl ?_
        refine tu_iconst 29 X dX3_fit_29 ?_
        refine tu_icmp_le 30 X 36 dX3_fit_30 (by decide) (show tu_rg w from by first | assumption | exact ⟨by omega, by omega⟩) ⟨by decide, by decide⟩ (fun br30 => ?_) (fun br30 => ?_)
        ·
          refine tu_aload_n 36 X 0 dX3_fit_36 rfl ?_
          refine tu_iload_n 37 X 1 dX3_fit_37 rfl ?_
          refine tu_iload_n 38 X 2 dX3_fit_38 rfl ?_
          refine tu_st_eq (show _ = [tu_i ((p.toNat : Nat) : Int), tu_i ((l.toNat : Nat) : Int), tu_r 0] from by first | rfl | (simp only [List.cons.injEq, Sum.inl.injEq, and_true, true_and]; omega)) rfl ?_
          refine tu_callVI 39 X (st := []) (as := [tu_i ((l.toNat : Nat) : Int), tu_i ((p.toNat : Nat) : Int)]) (c_X3_leastCostOf l.toNat p.toNat (show tu_OK M from by first | assumption | omega | exact ⟨by omega, by omega⟩ | decide) (show (l.toNat : Int) < M 1 1 from by first | assumption | omega | exact ⟨by omega, by omega⟩ | decide) (show (p.toNat : Int) < M 1 4 from by first | assumption | omega | exact ⟨by omega, by omega⟩ | decide)) sv_RX3_166 dX3_fit_39 rfl (by decide) rfl rfl rfl (Nat.le_of_ble_eq_true rfl) ⟨by decide, by decide⟩ (fun z M' h => ?_)
          obtain ⟨L_39, a_39, k_39, r_39, c_39, hM39, h39_0, h39_1, h39_2, h39_3, h39_4, hz39⟩ := h
          refine tu_st_eq rfl (M' := tu_row (tu_row (tu_row (tu_row (tu_row M 11 L_39) 12 a_39) 13 k_39) 14 r_39) 15 c_39) hM39 ?_
          refine tu_tp (b := (tu_co (tu_cb M) l.toNat p.toNat)) hz39 ?_
          refine tu_istore 42 X (lv' := [(4, tu_i (tu_co (tu_cb M) l.toNat p.toNat)), (0, tu_r 0), (1, tu_i l), (2, tu_i p), (3, tu_i w)]) dX3_fit_42 (by rw [hnl]; decide) rfl ?_
          refine tu_iload 44 X 0 dX3_fit_44 rfl ?_
          refine tu_ldc 46 X (n := 1000000) dX3_fit_46 kw_RX3_169 (by decide) ?_
          refine tu_icmp_lt 48 X 68 dX3_fit_48 (by decide) (show tu_rg (tu_co (tu_cb M) l.toNat p.toNat) from by first | assumption | exact ⟨by omega, by omega⟩) ⟨by decide, by decide⟩ (fun br48 => ?_) (fun br48 => ?_)
          ·
            refine tu_iload_n 68 X 4 dX3_fit_68 rfl ?_
            rcases (show w = 1 ∨ w = 2 ∨ w = 3 ∨ w = 4 ∨ (w < 1 ∨ 4 < w) from by omega) with br69 | br69 | br69 | br69 | br69
            ·
              refine tu_tabIn 69 X 100 dX3_fit_69 (show tu_rg w from by first | assumption | exact ⟨by omega, by omega⟩) (by omega) (by omega) (by rw [br69]; rfl) (by decide) ?_
              refine tu_aload_n 100 X 1 dX3_fit_100 rfl ?_
              refine tu_getR 101 X dX3_fit_101 fl_RX3_26 (by decide) rfl rfl ?_
              refine tu_iconst 104 X dX3_fit_104 ?_
              refine tu_callVI 105 X (st := []) (as := [tu_i 0]) (c_X1_countWays 0 (tu_nl (tu_cb M) l.toNat) (tu_np (tu_cb M) p.toNat) (show tu_LK (L_39) (a_39) (k_39) (r_39) (tu_nl (tu_cb M) l.toNat) (tu_np (tu_cb M) p.toNat) from by exact h39_0) (show tu_Tx (L_39) (a_39) (k_39) (r_39) (tu_nl (tu_cb M) l.toNat) (tu_np (tu_cb M) p.toNat) (c_39) from by exact h39_2) (show 0 = 0 ∨ 0 = 1 from by first | assumption | omega | exact ⟨by omega, by omega⟩ | decide)) sv_RX3_170 dX3_fit_105 rfl (by decide) rfl rfl rfl (Nat.le_of_ble_eq_true rfl) ⟨by decide, by decide⟩ (fun z M' h => ?_)
              obtain ⟨v_105, hM105, h105_0, hz105⟩ := h
              refine tu_st_eq rfl (M' := tu_row (tu_row (tu_row (tu_row (tu_row (tu_row M 11 L_39) 12 a_39) 13 k_39) 14 r_39) 15 c_39) 16 v_105) hM105 ?_
              refine tu_tp (b := (v_105 0)) hz105 ?_
              refine hret 108 _ _ (v_105 0) dX3_fit_108 (fun h => by rw [hrt] at h; cases h) ?_
              refine ⟨_, (((((((tu_sc.rf _).row _ (by decide)).row _ (by decide)).row _ (by decide)).row _ (by decide)).row _ (by decide)).row _ (by decide)), Or.inr (Or.inr ⟨by omega, L_39, a_39, k_39, r_39, c_39, h39_0, h39_1, h39_2, ?_⟩), rfl⟩
              exact Or.inr ⟨by omega, Or.inr (Or.inl ⟨by omega, v_105, h105_0, rfl⟩)⟩
            ·
              refine tu_tabIn 69 X 109 dX3_fit_69 (show tu_rg w from by first | assumption | exact ⟨by omega, by omega⟩) (by omega) (by omega) (by rw [br69]; rfl) (by decide) ?_
              refine tu_aload_n 109 X 1 dX3_fit_109 rfl ?_
              refine tu_getR 110 X dX3_fit_110 fl_RX3_26 (by decide) rfl rfl ?_
              refine tu_iconst 113 X dX3_fit_113 ?_
              refine tu_callVI 114 X (st := []) (as := [tu_i 1]) (c_X1_countWays 1 (tu_nl (tu_cb M) l.toNat) (tu_np (tu_cb M) p.toNat) (show tu_LK (L_39) (a_39) (k_39) (r_39) (tu_nl (tu_cb M) l.toNat) (tu_np (tu_cb M) p.toNat) from by exact h39_0) (show tu_Tx (L_39) (a_39) (k_39) (r_39) (tu_nl (tu_cb M) l.toNat) (tu_np (tu_cb M) p.toNat) (c_39) from by exact h39_2) (show 1 = 0 ∨ 1 = 1 from by first | assumption | omega | exact ⟨by omega, by omega⟩ | decide)) sv_RX3_170 dX3_fit_114 rfl (by decide) rfl rfl rfl (Nat.le_of_ble_eq_true rfl) ⟨by decide, by decide⟩ (fun z M' h => ?_)
              obtain ⟨v_114, hM114, h114_0, hz114⟩ := h
              refine tu_st_eq rfl (M' := tu_row (tu_row (tu_row (tu_row (tu_row (tu_row M 11 L_39) 12 a_39) 13 k_39) 14 r_39) 15 c_39) 16 v_114) hM114 ?_
              refine tu_tp (b := (v_114 0)) hz114 ?_
              refine hret 117 _ _ (v_114 0) dX3_fit_117 (fun h => by rw [hrt] at h; cases h) ?_
              refine ⟨_, (((((((tu_sc.rf _).row _ (by decide)).row _ (by decide)).row _ (by decide)).row _ (by decide)).row _ (by decide)).row _ (by decide)), Or.inr (Or.inr ⟨by omega, L_39, a_39, k_39, r_39, c_39, h39_0, h39_1, h39_2, ?_⟩), rfl⟩
              exact Or.inr ⟨by omega, Or.inr (Or.inr (Or.inl ⟨by omega, v_114, h114_0, rfl⟩))⟩
            ·
              refine tu_tabIn 69 X 118 dX3_fit_69 (show tu_rg w from by first | assumption | exact ⟨by omega, by omega⟩) (by omega) (by omega) (by rw [br69]; rfl) (by decide) ?_
              refine tu_aload_n 118 X 1 dX3_fit_118 rfl ?_
              refine tu_getR 119 X dX3_fit_119 fl_RX3_26 (by decide) rfl rfl ?_
              refine tu_callVI 122 X (st := []) (as := []) (c_X1_freeBeats (tu_nl (tu_cb M) l.toNat) (tu_np (tu_cb M) p.toNat) (show tu_LK (L_39) (a_39) (k_39) (r_39) (tu_nl (tu_cb M) l.toNat) (tu_np (tu_cb M) p.toNat) from by exact h39_0) (show tu_Tx (L_39) (a_39) (k_39) (r_39) (tu_nl (tu_cb M) l.toNat) (tu_np (tu_cb M) p.toNat) (c_39) from by exact h39_2)) sv_RX3_174 dX3_fit_122 rfl (by decide) rfl rfl rfl (Nat.le_of_ble_eq_true rfl) ⟨by decide, by decide⟩ (fun z M' h => ?_)
              obtain ⟨f_122, g_122, hM122, hz122⟩ := h
              refine tu_st_eq rfl (M' := tu_row (tu_row (tu_row (tu_row (tu_row (tu_row (tu_row M 11 L_39) 12 a_39) 13 k_39) 14 r_39) 15 c_39) 17 f_122) 18 g_122) hM122 ?_
              refine tu_tp (b := (tu_sm (fun q => if k_39 q = 0 then 0 else 1) (tu_np (tu_cb M) p.toNat) - tu_sm (fun t => ((tu_wl (L_39) (a_39) (k_39) (r_39) (c_39) (tu_np (tu_cb M) p.toNat) t : Nat) : Int)) (tu_nl (tu_cb M) l.toNat))) hz122 ?_
              refine hret 125 _ _ (tu_sm (fun q => if k_39 q = 0 then 0 else 1) (tu_np (tu_cb M) p.toNat) - tu_sm (fun t => ((tu_wl (L_39) (a_39) (k_39) (r_39) (c_39) (tu_np (tu_cb M) p.toNat) t : Nat) : Int)) (tu_nl (tu_cb M) l.toNat)) dX3_fit_125 (fun h => by rw [hrt] at h; cases h) ?_
              refine ⟨_, ((((((((tu_sc.rf _).row _ (by decide)).row _ (by decide)).row _ (by decide)).row _ (by decide)).row _ (by decide)).row _ (by decide)).row _ (by decide)), Or.inr (Or.inr ⟨by omega, L_39, a_39, k_39, r_39, c_39, h39_0, h39_1, h39_2, ?_⟩), rfl⟩
              exact Or.inr ⟨by omega, Or.inr (Or.inr (Or.inr (Or.inl ⟨by omega, rfl⟩)))⟩
            ·
              refine tu_tabIn 69 X 126 dX3_fit_69 (show tu_rg w from by first | assumption | exact ⟨by omega, by omega⟩) (by omega) (by omega) (by rw [br69]; rfl) (by decide) ?_
              refine tu_aload_n 126 X 1 dX3_fit_126 rfl ?_
              refine tu_getR 127 X dX3_fit_127 fl_RX3_26 (by decide) rfl rfl ?_
              refine tu_callVI 130 X (st := []) (as := []) (c_X1_hurtSyllables (tu_nl (tu_cb M) l.toNat) (tu_np (tu_cb M) p.toNat) (show tu_LK (L_39) (a_39) (k_39) (r_39) (tu_nl (tu_cb M) l.toNat) (tu_np (tu_cb M) p.toNat) from by exact h39_0) (show tu_Tx (L_39) (a_39) (k_39) (r_39) (tu_nl (tu_cb M) l.toNat) (tu_np (tu_cb M) p.toNat) (c_39) from by exact h39_2) (show ∀ t, t < (tu_nl (tu_cb M) l.toNat) → tu_wb (L_39) (a_39) (k_39) (r_39) (c_39) (tu_np (tu_cb M) p.toNat) t < (tu_np (tu_cb M) p.toNat) from by intro t ht; exact ((tu_way h39_0 h39_2 (by omega) t (by omega)).2 ht).1)) sv_RX3_177 dX3_fit_130 rfl (by decide) rfl rfl rfl (Nat.le_of_ble_eq_true rfl) ⟨by decide, by decide⟩ (fun z M' h => ?_)
              obtain ⟨f_130, g_130, hM130, hz130⟩ := h
              refine tu_st_eq rfl (M' := tu_row (tu_row (tu_row (tu_row (tu_row (tu_row (tu_row M 11 L_39) 12 a_39) 13 k_39) 14 r_39) 15 c_39) 17 f_130) 18 g_130) hM130 ?_
              refine tu_tp (b := (tu_sm (fun t => if ¬ (a_39 t = 1 ↔ k_39 (tu_wb (L_39) (a_39) (k_39) (r_39) (c_39) (tu_np (tu_cb M) p.toNat) t) = 2) then 1 else 0) (tu_nl (tu_cb M) l.toNat))) hz130 ?_
              refine hret 133 _ _ (tu_sm (fun t => if ¬ (a_39 t = 1 ↔ k_39 (tu_wb (L_39) (a_39) (k_39) (r_39) (c_39) (tu_np (tu_cb M) p.toNat) t) = 2) then 1 else 0) (tu_nl (tu_cb M) l.toNat)) dX3_fit_133 (fun h => by rw [hrt] at h; cases h) ?_
              refine ⟨_, ((((((((tu_sc.rf _).row _ (by decide)).row _ (by decide)).row _ (by decide)).row _ (by decide)).row _ (by decide)).row _ (by decide)).row _ (by decide)), Or.inr (Or.inr ⟨by omega, L_39, a_39, k_39, r_39, c_39, h39_0, h39_1, h39_2, ?_⟩), rfl⟩
              exact Or.inr ⟨by omega, Or.inr (Or.inr (Or.inr (Or.inr ⟨by omega, rfl⟩)))⟩
            ·
              refine tu_tabOut 69 X 134 dX3_fit_69 (show tu_rg w from by first | assumption | exact ⟨by omega, by omega⟩) br69 (by decide) ?_
              refine tu_iload 134 X 0 dX3_fit_134 rfl ?_
              refine hret 136 _ _ (tu_co (tu_cb M) l.toNat p.toNat) dX3_fit_136 (fun h => by rw [hrt] at h; cases h) ?_
              refine ⟨_, ((((((tu_sc.rf _).row _ (by decide)).row _ (by decide)).row _ (by decide)).row _ (by decide)).row _ (by decide)), Or.inr (Or.inr ⟨by omega, L_39, a_39, k_39, r_39, c_39, h39_0, h39_1, h39_2, ?_⟩), rfl⟩
              exact Or.inr ⟨by omega, Or.inl ⟨by omega, by omega⟩⟩
          ·
            refine tu_iload_n 51 X 4 dX3_fit_51 rfl ?_
            refine tu_iconst 52 X dX3_fit_52 ?_
            refine tu_icmp_eq 53 X 61 dX3_fit_53 (by decide) (show tu_rg w from by first | assumption | exact ⟨by omega, by omega⟩) ⟨by decide, by decide⟩ (fun br53 => ?_) (fun br53 => ?_)
            ·
              refine tu_iconst 61 X dX3_fit_61 ?_
              refine tu_goto 62 X 67 dX3_fit_62 (by decide) ?_
              refine hret 67 _ _ 0 dX3_fit_67 (fun h => by rw [hrt] at h; cases h) ?_
              refine ⟨_, ((((((tu_sc.rf _).row _ (by decide)).row _ (by decide)).row _ (by decide)).row _ (by decide)).row _ (by decide)), Or.inr (Or.inr ⟨by omega, L_39, a_39, k_39, r_39, c_39, h39_0, h39_1, h39_2, ?_⟩), rfl⟩
              exact Or.inl ⟨by omega, by omega⟩
            ·
              refine tu_iload_n 56 X 4 dX3_fit_56 rfl ?_
              refine tu_iconst 57 X dX3_fit_57 ?_
              refine tu_icmp_ne 58 X 65 dX3_fit_58 (by decide) (show tu_rg w from by first | assumption | exact ⟨by omega, by omega⟩) ⟨by decide, by decide⟩ (fun br58 => ?_) (fun br58 => ?_)
              ·
                refine tu_bipush 65 X dX3_fit_65 (by decide) ?_
                refine hret 67 _ _ (-6) dX3_fit_67 (fun h => by rw [hrt] at h; cases h) ?_
                refine ⟨_, ((((((tu_sc.rf _).row _ (by decide)).row _ (by decide)).row _ (by decide)).row _ (by decide)).row _ (by decide)), Or.inr (Or.inr ⟨by omega, L_39, a_39, k_39, r_39, c_39, h39_0, h39_1, h39_2, ?_⟩), rfl⟩
                exact Or.inl ⟨by omega, by omega⟩
              ·
                refine tu_iconst 61 X dX3_fit_61 ?_
                refine tu_goto 62 X 67 dX3_fit_62 (by decide) ?_
                refine hret 67 _ _ 0 dX3_fit_67 (fun h => by rw [hrt] at h; cases h) ?_
                refine ⟨_, ((((((tu_sc.rf _).row _ (by decide)).row _ (by decide)).row _ (by decide)).row _ (by decide)).row _ (by decide)), Or.inr (Or.inr ⟨by omega, L_39, a_39, k_39, r_39, c_39, h39_0, h39_1, h39_2, ?_⟩), rfl⟩
                exact Or.inl ⟨by omega, by omega⟩
        ·
          refine tu_bipush 33 X dX3_fit_33 (by decide) ?_
          refine hret 35 _ _ (-2) dX3_fit_35 (fun h => by rw [hrt] at h; cases h) ?_
          exact ⟨_, tu_sc.rf _, Or.inr (Or.inl (⟨by omega, rfl⟩)), rfl⟩
    ·
      have br19 := tu_b_e0 br19
      refine tu_iconst 22 X dX3_fit_22 ?_
      refine hret 23 _ _ (-1) dX3_fit_23 (fun h => by rw [hrt] at h; cases h) ?_
      exact ⟨_, tu_sc.rf _, Or.inl (⟨by omega, rfl⟩), rfl⟩
set_option maxRecDepth 20000 in
set_option maxHeartbeats 4000000 in
theorem c_X3_lies {M : tu_M} (l p s w : Int) (hB : tu_OK M) (rl : tu_rg l) (rp : tu_rg p) (rs : tu_rg s) (rw : tu_rg w) : tu_MI tu_Y_X3_lies [tu_r 0, tu_i l, tu_i p, tu_i s, tu_i w] M (fun z M' => ∃ (y : Int), (tu_sc M M') ∧ (((¬ (((0 ≤ l ∧ l < M 1 1) ∧ 0 ≤ s ∧ s < M 3 l.toNat) ∧ 0 ≤ p ∧ p < M 1 4)) ∧ y = -1) ∨ (((((0 ≤ l ∧ l < M 1 1) ∧ 0 ≤ s ∧ s < M 3 l.toNat) ∧ 0 ≤ p ∧ p < M 1 4) ∧ ¬ (0 ≤ w ∧ w ≤ 1)) ∧ y = -2) ∨ (((((0 ≤ l ∧ l < M 1 1) ∧ 0 ≤ s ∧ s < M 3 l.toNat) ∧ 0 ≤ p ∧ p < M 1 4) ∧ 0 ≤ w ∧ w ≤ 1) ∧ tu_LX (tu_cb M) l.toNat p.toNat s.toNat w y)) ∧ z = y) := by
  have cn := hB.cnt
  refine tu_MI.of (ty := .int) (by decide) rfl (by first | exact Or.inl rfl | exact Or.inr rfl) (Nat.le_of_ble_eq_true rfl) (fun T (X : tu_X T cX3_lies RX3 4 91) hnl hrt hret => ?_)
  have hret : tu_RI T cX3_lies (fun z M' => ∃ (y : Int), (tu_sc M M') ∧ (((¬ (((0 ≤ l ∧ l < M 1 1) ∧ 0 ≤ s ∧ s < M 3 l.toNat) ∧ 0 ≤ p ∧ p < M 1 4)) ∧ y = -1) ∨ (((((0 ≤ l ∧ l < M 1 1) ∧ 0 ≤ s ∧ s < M 3 l.toNat) ∧ 0 ≤ p ∧ p < M 1 4) ∧ ¬ (0 ≤ w ∧ w ≤ 1)) ∧ y = -2) ∨ (((((0 ≤ l ∧ l < M 1 1) ∧ 0 ≤ s ∧ s < M 3 l.toNat) ∧ 0 ≤ p ∧ p < M 1 4) ∧ 0 ≤ w ∧ w ≤ 1) ∧ tu_LX (tu_cb M) l.toNat p.toNat s.toNat w y)) ∧ z = y) := hret
  have hnl : T.2.2.2.2.2.2.2.2.2.2.1 = 5 := hnl
  show tu_W T 0 [(0, tu_r 0), (1, tu_i l), (2, tu_i p), (3, tu_i s), (4, tu_i w)] [] M
  refine tu_aload_n 0 X 0 dX3_lies_0 rfl ?_
  refine tu_getR 1 X dX3_lies_1 fl_RX3_10 (by decide) rfl rfl ?_
  refine tu_iload_n 4 X 1 dX3_lies_4 rfl ?_
  refine tu_iload_n 5 X 3 dX3_lies_5 rfl ?_
  refine tu_callVI 6 X (st := []) (as := [tu_i l, tu_i s]) (c_X0_hasSyllable l s (show tu_OK M from by first | assumption | omega | exact ⟨by omega, by omega⟩ | decide) (show tu_rg l from by first | assumption | omega | exact ⟨by omega, by omega⟩ | decide) (show tu_rg s from by first | assumption | omega | exact ⟨by omega, by omega⟩ | decide)) sv_RX3_112 dX3_lies_6 rfl (by decide) rfl rfl rfl (Nat.le_of_ble_eq_true rfl) ⟨by decide, by decide⟩ (fun z M' h => ?_)
  obtain ⟨hM6, hz6⟩ := h
  refine tu_st_eq rfl (M' := M) hM6 ?_
  refine tu_tp (b := tu_b (0 ≤ l ∧ l < M 1 1 ∧ 0 ≤ s ∧ s < M 3 l.toNat)) hz6 ?_
  refine tu_if_eq 9 X 23 dX3_lies_9 (by decide) tu_b_rg (fun br9 => ?_) (fun br9 => ?_)
  ·
    have br9 := tu_b_e0 br9
    refine tu_iconst 23 X dX3_lies_23 ?_
    refine hret 24 _ _ (-1) dX3_lies_24 (fun h => by rw [hrt] at h; cases h) ?_
    exact ⟨_, tu_sc.rf _, Or.inl (⟨by omega, rfl⟩), rfl⟩
  ·
    have br9 := tu_b_n0 br9
    refine tu_aload_n 12 X 0 dX3_lies_12 rfl ?_
    refine tu_getR 13 X dX3_lies_13 fl_RX3_10 (by decide) rfl rfl ?_
    refine tu_iload_n 16 X 2 dX3_lies_16 rfl ?_
    refine tu_callVI 17 X (st := []) (as := [tu_i p]) (c_X0_hasPhrase p (show tu_OK M from by first | assumption | omega | exact ⟨by omega, by omega⟩ | decide) (show tu_rg p from by first | assumption | omega | exact ⟨by omega, by omega⟩ | decide)) sv_RX3_103 dX3_lies_17 rfl (by decide) rfl rfl rfl (Nat.le_of_ble_eq_true rfl) ⟨by decide, by decide⟩ (fun z M' h => ?_)
    obtain ⟨hM17, hz17⟩ := h
    refine tu_st_eq rfl (M' := M) hM17 ?_
    refine tu_tp (b := tu_b (0 ≤ p ∧ p < M 1 4)) hz17 ?_
    refine tu_if_ne 20 X 25 dX3_lies_20 (by decide) tu_b_rg (fun br20 => ?_) (fun br20 => ?_)
    ·
      have br20 := tu_b_n0 br20
      refine tu_iload 25 X 4 dX3_lies_25 rfl ?_
      refine tu_if_lt 27 X 36 dX3_lies_27 (by decide) (show tu_rg w from by first | assumption | exact ⟨by omega, by omega⟩) (fun br27 => ?_) (fun br27 => ?_)
      ·
        refine tu_bipush 36 X dX3_lies_36 (by decide) ?_
        refine hret 38 _ _ (-2) dX3_lies_38 (fun h => by rw [hrt] at h; cases h) ?_
        exact ⟨_, tu_sc.rf _, Or.inr (Or.inl (⟨by omega, rfl⟩)), rfl⟩
      ·
        refine tu_iload 30 X 4 dX3_lies_30 rfl ?_
        refine tu_iconst 32 X dX3_lies_32 ?_
        refine tu_icmp_le 33 X 39 dX3_lies_33 (by decide) (show tu_rg w from by first | assumption | exact ⟨by omega, by omega⟩) ⟨by decide, by decide⟩ (fun br33 => ?_) (fun br33 => ?_)
        ·
          refine tu_aload_n 39 X 0 dX3_lies_39 rfl ?_
          refine tu_iload_n 40 X 1 dX3_lies_40 rfl ?_
          refine tu_iload_n 41 X 2 dX3_lies_41 rfl ?_
          refine tu_st_eq (show _ = [tu_i ((p.toNat : Nat) : Int), tu_i ((l.toNat : Nat) : Int), tu_r 0] from by first | rfl | (simp only [List.cons.injEq, Sum.inl.injEq, and_true, true_and]; omega)) rfl ?_
          refine tu_callVI 42 X (st := []) (as := [tu_i ((l.toNat : Nat) : Int), tu_i ((p.toNat : Nat) : Int)]) (c_X3_leastCostOf l.toNat p.toNat (show tu_OK M from by first | assumption | omega | exact ⟨by omega, by omega⟩ | decide) (show (l.toNat : Int) < M 1 1 from by first | assumption | omega | exact ⟨by omega, by omega⟩ | decide) (show (p.toNat : Int) < M 1 4 from by first | assumption | omega | exact ⟨by omega, by omega⟩ | decide)) sv_RX3_166 dX3_lies_42 rfl (by decide) rfl rfl rfl (Nat.le_of_ble_eq_true rfl) ⟨by decide, by decide⟩ (fun z M' h => ?_)
          obtain ⟨L_42, a_42, k_42, r_42, c_42, hM42, h42_0, h42_1, h42_2, h42_3, h42_4, hz42⟩ := h
          refine tu_st_eq rfl (M' := tu_row (tu_row (tu_row (tu_row (tu_row M 11 L_42) 12 a_42) 13 k_42) 14 r_42) 15 c_42) hM42 ?_
          refine tu_tp (b := (tu_co (tu_cb M) l.toNat p.toNat)) hz42 ?_
          refine tu_ldc 45 X (n := 1000000) dX3_lies_45 kw_RX3_169 (by decide) ?_
          refine tu_icmp_lt 47 X 53 dX3_lies_47 (by decide) (show tu_rg (tu_co (tu_cb M) l.toNat p.toNat) from by first | assumption | exact ⟨by omega, by omega⟩) ⟨by decide, by decide⟩ (fun br47 => ?_) (fun br47 => ?_)
          ·
            refine tu_aload_n 53 X 0 dX3_lies_53 rfl ?_
            refine tu_getR 54 X dX3_lies_54 fl_RX3_26 (by decide) rfl rfl ?_
            refine tu_callVV 57 X (st := []) (as := []) (c_X1_findBestWay (tu_nl (tu_cb M) l.toNat) (tu_np (tu_cb M) p.toNat) (show tu_LK (L_42) (a_42) (k_42) (r_42) (tu_nl (tu_cb M) l.toNat) (tu_np (tu_cb M) p.toNat) from by exact h42_0) (show tu_Tx (L_42) (a_42) (k_42) (r_42) (tu_nl (tu_cb M) l.toNat) (tu_np (tu_cb M) p.toNat) (c_42) from by exact h42_2)) sv_RX3_180 dX3_lies_57 rfl (by decide) rfl rfl rfl (Nat.le_of_ble_eq_true rfl) ⟨by decide, by decide⟩ (fun M' h => ?_)
            obtain ⟨f_57, g_57, hM57, h57_0⟩ := h
            refine tu_st_eq rfl (M' := tu_row (tu_row (tu_row (tu_row (tu_row (tu_row (tu_row M 11 L_42) 12 a_42) 13 k_42) 14 r_42) 15 c_42) 17 f_57) 18 g_57) hM57 ?_
            have hsy := hB.syl l.toNat (by omega)
            have enl : (tu_nl (tu_cb M) l.toNat : Nat) = (M 3 l.toNat).toNat := rfl
            have h57_2 := h57_0 s.toNat (by omega)
            refine tu_iload 60 X 4 dX3_lies_60 rfl ?_
            refine tu_if_ne 62 X 77 dX3_lies_62 (by decide) (show tu_rg w from by first | assumption | exact ⟨by omega, by omega⟩) (fun br62 => ?_) (fun br62 => ?_)
            ·
              refine tu_aload_n 77 X 0 dX3_lies_77 rfl ?_
              refine tu_getR 78 X dX3_lies_78 fl_RX3_26 (by decide) rfl rfl ?_
              refine tu_getR 81 X dX3_lies_81 fl_RX3_186 (by decide) rfl rfl ?_
              refine tu_iload_n 84 X 3 dX3_lies_84 rfl ?_
              refine tu_iald 85 X (x := g_57 s.toNat) s.toNat dX3_lies_85 (by decide) rfl (by decide) (by omega) (by omega) rfl ?_
              refine hret 86 _ _ (g_57 s.toNat) dX3_lies_86 (fun h => by rw [hrt] at h; cases h) ?_
              first
              | (refine ⟨_, ((((((((tu_sc.rf _).row _ (by decide)).row _ (by decide)).row _ (by decide)).row _ (by decide)).row _ (by decide)).row _ (by decide)).row _ (by decide)), Or.inr (Or.inr ⟨by omega, L_42, a_42, k_42, r_42, c_42, h42_0, h42_1, h42_2, Or.inr ⟨by omega, Or.inl ⟨by omega, h57_2.1⟩⟩⟩), rfl⟩)
              | (refine ⟨_, ((((((((tu_sc.rf _).row _ (by decide)).row _ (by decide)).row _ (by decide)).row _ (by decide)).row _ (by decide)).row _ (by decide)).row _ (by decide)), Or.inr (Or.inr ⟨by omega, L_42, a_42, k_42, r_42, c_42, h42_0, h42_1, h42_2, Or.inr ⟨by omega, Or.inr ⟨by omega, h57_2.2⟩⟩⟩), rfl⟩)
            ·
              refine tu_aload_n 65 X 0 dX3_lies_65 rfl ?_
              refine tu_getR 66 X dX3_lies_66 fl_RX3_26 (by decide) rfl rfl ?_
              refine tu_getR 69 X dX3_lies_69 fl_RX3_183 (by decide) rfl rfl ?_
              refine tu_iload_n 72 X 3 dX3_lies_72 rfl ?_
              refine tu_iald 73 X (x := f_57 s.toNat) s.toNat dX3_lies_73 (by decide) rfl (by decide) (by omega) (by omega) rfl ?_
              refine tu_goto 74 X 86 dX3_lies_74 (by decide) ?_
              refine hret 86 _ _ (f_57 s.toNat) dX3_lies_86 (fun h => by rw [hrt] at h; cases h) ?_
              first
              | (refine ⟨_, ((((((((tu_sc.rf _).row _ (by decide)).row _ (by decide)).row _ (by decide)).row _ (by decide)).row _ (by decide)).row _ (by decide)).row _ (by decide)), Or.inr (Or.inr ⟨by omega, L_42, a_42, k_42, r_42, c_42, h42_0, h42_1, h42_2, Or.inr ⟨by omega, Or.inl ⟨by omega, h57_2.1⟩⟩⟩), rfl⟩)
              | (refine ⟨_, ((((((((tu_sc.rf _).row _ (by decide)).row _ (by decide)).row _ (by decide)).row _ (by decide)).row _ (by decide)).row _ (by decide)).row _ (by decide)), Or.inr (Or.inr ⟨by omega, L_42, a_42, k_42, r_42, c_42, h42_0, h42_1, h42_2, Or.inr ⟨by omega, Or.inr ⟨by omega, h57_2.2⟩⟩⟩), rfl⟩)
          ·
            refine tu_bipush 50 X dX3_lies_50 (by decide) ?_
            refine hret 52 _ _ (-6) dX3_lies_52 (fun h => by rw [hrt] at h; cases h) ?_
            refine ⟨_, ((((((tu_sc.rf _).row _ (by decide)).row _ (by decide)).row _ (by decide)).row _ (by decide)).row _ (by decide)), Or.inr (Or.inr ⟨by omega, L_42, a_42, k_42, r_42, c_42, h42_0, h42_1, h42_2, ?_⟩), rfl⟩
            exact Or.inl ⟨by omega, rfl⟩
        ·
          refine tu_bipush 36 X dX3_lies_36 (by decide) ?_
          refine hret 38 _ _ (-2) dX3_lies_38 (fun h => by rw [hrt] at h; cases h) ?_
          exact ⟨_, tu_sc.rf _, Or.inr (Or.inl (⟨by omega, rfl⟩)), rfl⟩
    ·
      have br20 := tu_b_e0 br20
      refine tu_iconst 23 X dX3_lies_23 ?_
      refine hret 24 _ _ (-1) dX3_lies_24 (fun h => by rw [hrt] at h; cases h) ?_
      exact ⟨_, tu_sc.rf _, Or.inl (⟨by omega, rfl⟩), rfl⟩
