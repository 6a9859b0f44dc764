set_option maxRecDepth 20000 in
set_option maxHeartbeats 4000000 in
theorem c_X3_bestChange {M : tu_M} (l p w : Int) (hB : tu_OK M) (rl : tu_rg l) (rp : tu_rg p) (rw : tu_rg w) : tu_MI tu_Y_X3_bestChange [tu_r 0, tu_i l, tu_i p, tu_i w] M (fun z M' => ∃ (y : Int), (tu_sc M M') ∧ (((¬ ((0 ≤ l ∧ l < M 1 1) ∧ 0 ≤ p ∧ p < M 1 4)) ∧ y = -1) ∨ ((((0 ≤ l ∧ l < M 1 1) ∧ 0 ≤ p ∧ p < M 1 4) ∧ ¬ (0 ≤ w ∧ w ≤ 1)) ∧ y = -2) ∨ ((((0 ≤ l ∧ l < M 1 1) ∧ 0 ≤ p ∧ p < M 1 4) ∧ 0 ≤ w ∧ w ≤ 1) ∧ y = if w = 0 ∨ (tu_bp 1000000 (fun x9 => tu_bc (tu_cb M) l.toNat p.toNat x9) (M 3 l.toNat).toNat).1 = -6 then (tu_bp 1000000 (fun x9 => tu_bc (tu_cb M) l.toNat p.toNat x9) (M 3 l.toNat).toNat).1 else (tu_bp 1000000 (fun x9 => tu_bc (tu_cb M) l.toNat p.toNat x9) (M 3 l.toNat).toNat).2)) ∧ z = y) := by
  have cn := hB.cnt
  refine tu_MI.of (ty := .int) (by decide) rfl (by first | exact Or.inl rfl | exact Or.inr rfl) (Nat.le_of_ble_eq_true rfl) (fun T (X : tu_X T cX3_bestChange RX3 3 69) hnl hrt hret => ?_)
  have hret : tu_RI T cX3_bestChange (fun z M' => ∃ (y : Int), (tu_sc M M') ∧ (((¬ ((0 ≤ l ∧ l < M 1 1) ∧ 0 ≤ p ∧ p < M 1 4)) ∧ y = -1) ∨ ((((0 ≤ l ∧ l < M 1 1) ∧ 0 ≤ p ∧ p < M 1 4) ∧ ¬ (0 ≤ w ∧ w ≤ 1)) ∧ y = -2) ∨ ((((0 ≤ l ∧ l < M 1 1) ∧ 0 ≤ p ∧ p < M 1 4) ∧ 0 ≤ w ∧ w ≤ 1) ∧ y = if w = 0 ∨ (tu_bp 1000000 (fun x9 => tu_bc (tu_cb M) l.toNat p.toNat x9) (M 3 l.toNat).toNat).1 = -6 then (tu_bp 1000000 (fun x9 => tu_bc (tu_cb M) l.toNat p.toNat x9) (M 3 l.toNat).toNat).1 else (tu_bp 1000000 (fun x9 => tu_bc (tu_cb M) l.toNat p.toNat x9) (M 3 l.toNat).toNat).2)) ∧ z = y) := hret
  have hnl : T.2.2.2.2.2.2.2.2.2.2.1 = 8 := hnl
  show tu_W T 0 [(0, tu_r 0), (1, tu_i l), (2, tu_i p), (3, tu_i w)] [] M
  refine tu_aload_n 0 X 0 dX3_bestChange_0 rfl ?_
  refine tu_getR 1 X dX3_bestChange_1 fl_RX3_10 (by decide) rfl rfl ?_
  refine tu_iload_n 4 X 1 dX3_bestChange_4 rfl ?_
  refine tu_callVI 5 X (st := []) (as := [tu_i l]) (c_X0_hasLine l (show tu_OK M from by first | assumption | omega | exact ⟨by omega, by omega⟩ | decide) (show tu_rg l from by first | assumption | omega | exact ⟨by omega, by omega⟩ | decide)) sv_RX3_93 dX3_bestChange_5 rfl (by decide) rfl rfl rfl (Nat.le_of_ble_eq_true rfl) ⟨by decide, by decide⟩ (fun z M' h => ?_)
  obtain ⟨hM5, hz5⟩ := h
  refine tu_st_eq rfl (M' := M) hM5 ?_
  refine tu_tp (b := tu_b (0 ≤ l ∧ l < M 1 1)) hz5 ?_
  refine tu_if_eq 8 X 22 dX3_bestChange_8 (by decide) tu_b_rg (fun br8 => ?_) (fun br8 => ?_)
  ·
    have br8 := tu_b_e0 br8
    refine tu_iconst 22 X dX3_bestChange_22 ?_
    refine hret 23 _ _ (-1) dX3_bestChange_23 (fun h => by rw [hrt] at h; cases h) ?_
    exact ⟨_, tu_sc.rf _, Or.inl (⟨by omega, rfl⟩), rfl⟩
  ·
    have br8 := tu_b_n0 br8
    refine tu_aload_n 11 X 0 dX3_bestChange_11 rfl ?_
    refine tu_getR 12 X dX3_bestChange_12 fl_RX3_10 (by decide) rfl rfl ?_
    refine tu_iload_n 15 X 2 dX3_bestChange_15 rfl ?_
    refine tu_callVI 16 X (st := []) (as := [tu_i p]) (c_X0_hasPhrase p (show tu_OK M from by first | assumption | omega | exact ⟨by omega, by omega⟩ | decide) (show tu_rg p from by first | assumption | omega | exact ⟨by omega, by omega⟩ | decide)) sv_RX3_103 dX3_bestChange_16 rfl (by decide) rfl rfl rfl (Nat.le_of_ble_eq_true rfl) ⟨by decide, by decide⟩ (fun z M' h => ?_)
    obtain ⟨hM16, hz16⟩ := h
    refine tu_st_eq rfl (M' := M) hM16 ?_
    refine tu_tp (b := tu_b (0 ≤ p ∧ p < M 1 4)) hz16 ?_
    refine tu_if_ne 19 X 24 dX3_bestChange_19 (by decide) tu_b_rg (fun br19 => ?_) (fun br19 => ?_)
    ·
      have br19 := tu_b_n0 br19
      refine tu_iload_n 24 X 3 dX3_bestChange_24 rfl ?_
      refine tu_if_lt 25 X 33 dX3_bestChange_25 (by decide) (show tu_rg w from by first | assumption | exact ⟨by omega, by omega⟩) (fun br25 => ?_) (fun br25 => ?_)
      ·
        refine tu_bipush 33 X dX3_bestChange_33 (by decide) ?_
        refine hret 35 _ _ (-2) dX3_bestChange_35 (fun h => by rw [hrt] at h; cases h) ?_
        exact ⟨_, tu_sc.rf _, Or.inr (Or.inl (⟨by omega, rfl⟩)), rfl⟩
      ·
        refine tu_iload_n 28 X 3 dX3_bestChange_28 rfl ?_
        refine tu_iconst 29 X dX3_bestChange_29 ?_
        refine tu_icmp_le 30 X 36 dX3_bestChange_30 (by decide) (show tu_rg w from by first | assumption | exact ⟨by omega, by omega⟩) ⟨by decide, by decide⟩ (fun br30 => ?_) (fun br30 => ?_)
        ·
          refine tu_aload_n 36 X 0 dX3_bestChange_36 rfl ?_
          refine tu_getR 37 X dX3_bestChange_37 fl_RX3_26 (by decide) rfl rfl ?_
          refine tu_aload_n 40 X 0 dX3_bestChange_40 rfl ?_
          refine tu_getR 41 X dX3_bestChange_41 fl_RX3_10 (by decide) rfl rfl ?_
          refine tu_iload_n 44 X 1 dX3_bestChange_44 rfl ?_
          refine tu_iload_n 45 X 2 dX3_bestChange_45 rfl ?_
          refine tu_st_eq (show _ = [tu_i ((p.toNat : Nat) : Int), tu_i ((l.toNat : Nat) : Int), tu_r 1, tu_r 11] from by first | rfl | (simp only [List.cons.injEq, Sum.inl.injEq, and_true, true_and]; omega)) rfl ?_
          refine tu_callVV 46 X (st := []) (as := [tu_r 1, tu_i ((l.toNat : Nat) : Int), tu_i ((p.toNat : Nat) : Int)]) (c_X1_take l.toNat p.toNat (show tu_OK M from by first | assumption | omega | exact ⟨by omega, by omega⟩ | decide) (show (l.toNat : Int) < M 1 1 from by first | assumption | omega | exact ⟨by omega, by omega⟩ | decide) (show (p.toNat : Int) < M 1 4 from by first | assumption | omega | exact ⟨by omega, by omega⟩ | decide)) sv_RX3_189 dX3_bestChange_46 rfl (by decide) rfl rfl rfl (Nat.le_of_ble_eq_true rfl) ⟨by decide, by decide⟩ (fun M' h => ?_)
          obtain ⟨L_46, a_46, k_46, r_46, hM46, h46_0, h46_1⟩ := h
          refine tu_st_eq rfl (M' := tu_row (tu_row (tu_row (tu_row M 11 L_46) 12 a_46) 13 k_46) 14 r_46) hM46 ?_
          refine tu_bipush 49 X dX3_bestChange_49 (by decide) ?_
          refine tu_istore 51 X (lv' := [(4, tu_i (-6)), (0, tu_r 0), (1, tu_i l), (2, tu_i p), (3, tu_i w)]) dX3_bestChange_51 (by rw [hnl]; decide) rfl ?_
          refine tu_ldc 53 X (n := 1000000) dX3_bestChange_53 kw_RX3_169 (by decide) ?_
          refine tu_istore 55 X (lv' := [(5, tu_i 1000000), (4, tu_i (-6)), (0, tu_r 0), (1, tu_i l), (2, tu_i p), (3, tu_i w)]) dX3_bestChange_55 (by rw [hnl]; decide) rfl ?_
          have hsy := hB.syl l.toNat (by omega)
          refine tu_iconst 57 X dX3_bestChange_57 ?_
          refine tu_istore 58 X (lv' := [(6, tu_i 0), (5, tu_i 1000000), (4, tu_i (-6)), (0, tu_r 0), (1, tu_i l), (2, tu_i p), (3, tu_i w)]) dX3_bestChange_58 (by rw [hnl]; decide) rfl ?_
          refine tu_st_eq rfl (M' := tu_row (tu_row (tu_row (tu_row (tu_row M 11 L_46) 12 a_46) 13 k_46) 14 r_46) 15 (M 15)) ((congrArg (fun m => tu_row m 14 r_46) ((congrArg (fun m => tu_row m 13 k_46) ((congrArg (fun m => tu_row m 12 a_46) ((congrArg (fun m => tu_row m 11 L_46) ((tu_rx M 15).symm)).trans (tu_rc M (M 15) L_46 rfl))).trans (tu_rc (tu_row M 11 L_46) (M 15) a_46 rfl))).trans (tu_rc (tu_row (tu_row M 11 L_46) 12 a_46) (M 15) k_46 rfl))).trans (tu_rc (tu_row (tu_row (tu_row M 11 L_46) 12 a_46) 13 k_46) (M 15) r_46 rfl)) ?_
          have lp60 : ∀ (nq : Nat) (s : Nat) (c : Nat → Int), ((s : Int) ≤ M 3 l.toNat) → ((-6 ≤ (tu_bp 1000000 (fun x9 => tu_bc (tu_cb M) l.toNat p.toNat x9) s).1 ∧ (tu_bp 1000000 (fun x9 => tu_bc (tu_cb M) l.toNat p.toNat x9) s).1 ≤ 16) ∧ (0 ≤ (tu_bp 1000000 (fun x9 => tu_bc (tu_cb M) l.toNat p.toNat x9) s).2 ∧ (tu_bp 1000000 (fun x9 => tu_bc (tu_cb M) l.toNat p.toNat x9) s).2 ≤ 1000000)) → (M 3 l.toNat).toNat - s < nq → tu_W T 60 [(0, tu_r 0), (1, tu_i l), (2, tu_i p), (3, tu_i w), (4, tu_i ((tu_bp 1000000 (fun x9 => tu_bc (tu_cb M) l.toNat p.toNat x9) s).1)), (5, tu_i ((tu_bp 1000000 (fun x9 => tu_bc (tu_cb M) l.toNat p.toNat x9) s).2)), (6, tu_i ((s : Nat) : Int))] [] (tu_row (tu_row (tu_row (tu_row (tu_row M 11 L_46) 12 a_46) 13 k_46) 14 r_46) 15 c) := by
            intro nq
            induction nq with
            | zero => intros; omega
            | succ nq ih60 =>
              intro s c hs hb hn60
              refine tu_iload 60 X 6 dX3_bestChange_60 rfl ?_
              refine tu_aload_n 62 X 0 dX3_bestChange_62 rfl ?_
              refine tu_getR 63 X dX3_bestChange_63 fl_RX3_10 (by decide) rfl rfl ?_
              refine tu_getR 66 X dX3_bestChange_66 fl_RX3_131 (by decide) rfl rfl ?_
              refine tu_iload_n 69 X 1 dX3_bestChange_69 rfl ?_
              refine tu_iald 70 X (x := M 3 l.toNat) l.toNat dX3_bestChange_70 (by decide) rfl (by decide) (by omega) (by omega) rfl ?_
              refine tu_icmp_ge 71 X 122 dX3_bestChange_71 (by decide) (show tu_rg ((s : Nat) : Int) from by first | assumption | exact ⟨by omega, by omega⟩) (show tu_rg (M 3 l.toNat) from by first | assumption | exact ⟨by omega, by omega⟩) (fun br71 => ?_) (fun br71 => ?_)
              ·
                refine tu_iload_n 122 X 3 dX3_bestChange_122 rfl ?_
                refine tu_if_eq 123 X 133 dX3_bestChange_123 (by decide) (show tu_rg w from by first | assumption | exact ⟨by omega, by omega⟩) (fun br123 => ?_) (fun br123 => ?_)
                ·
                  refine tu_iload 133 X 4 dX3_bestChange_133 rfl ?_
                  refine tu_goto 135 X 140 dX3_bestChange_135 (by decide) ?_
                  refine hret 140 _ _ ((tu_bp 1000000 (fun x9 => tu_bc (tu_cb M) l.toNat p.toNat x9) s).1) dX3_bestChange_140 (fun h => by rw [hrt] at h; cases h) ?_
                  have es : (M 3 l.toNat).toNat = s := by omega
                  refine ⟨_, (((((((tu_sc.rf _).row _ (by decide)).row _ (by decide)).row _ (by decide)).row _ (by decide)).row _ (by decide))), Or.inr (Or.inr ⟨by omega, ?_⟩), rfl⟩
                  rw [es]
                  first | (rw [if_pos (by omega)]; done) | (rw [if_neg (by omega)]; done)
                ·
                  refine tu_iload 126 X 4 dX3_bestChange_126 rfl ?_
                  refine tu_bipush 128 X dX3_bestChange_128 (by decide) ?_
                  refine tu_icmp_ne 130 X 138 dX3_bestChange_130 (by decide) (show tu_rg ((tu_bp 1000000 (fun x9 => tu_bc (tu_cb M) l.toNat p.toNat x9) s).1) from by first | assumption | exact ⟨by omega, by omega⟩) ⟨by decide, by decide⟩ (fun br130 => ?_) (fun br130 => ?_)
                  ·
                    refine tu_iload 138 X 5 dX3_bestChange_138 rfl ?_
                    refine hret 140 _ _ ((tu_bp 1000000 (fun x9 => tu_bc (tu_cb M) l.toNat p.toNat x9) s).2) dX3_bestChange_140 (fun h => by rw [hrt] at h; cases h) ?_
                    have es : (M 3 l.toNat).toNat = s := by omega
                    refine ⟨_, (((((((tu_sc.rf _).row _ (by decide)).row _ (by decide)).row _ (by decide)).row _ (by decide)).row _ (by decide))), Or.inr (Or.inr ⟨by omega, ?_⟩), rfl⟩
                    rw [es]
                    first | (rw [if_pos (by omega)]; done) | (rw [if_neg (by omega)]; done)
                  ·
                    refine tu_iload 133 X 4 dX3_bestChange_133 rfl ?_
                    refine tu_goto 135 X 140 dX3_bestChange_135 (by decide) ?_
                    refine hret 140 _ _ ((tu_bp 1000000 (fun x9 => tu_bc (tu_cb M) l.toNat p.toNat x9) s).1) dX3_bestChange_140 (fun h => by rw [hrt] at h; cases h) ?_
                    have es : (M 3 l.toNat).toNat = s := by omega
                    refine ⟨_, (((((((tu_sc.rf _).row _ (by decide)).row _ (by decide)).row _ (by decide)).row _ (by decide)).row _ (by decide))), Or.inr (Or.inr ⟨by omega, ?_⟩), rfl⟩
                    rw [es]
                    first | (rw [if_pos (by omega)]; done) | (rw [if_neg (by omega)]; done)
              ·
                refine tu_aload_n 74 X 0 dX3_bestChange_74 rfl ?_
                refine tu_getR 75 X dX3_bestChange_75 fl_RX3_26 (by decide) rfl rfl ?_
                refine tu_iload 78 X 6 dX3_bestChange_78 rfl ?_
                refine tu_callVV 80 X (st := []) (as := [tu_i ((s : Nat) : Int)]) (c_X1_turnStress s (show s < 16 from by first | assumption | omega | exact ⟨by omega, by omega⟩ | decide)) sv_RX3_193 dX3_bestChange_80 rfl (by decide) rfl rfl rfl (Nat.le_of_ble_eq_true rfl) ⟨by decide, by decide⟩ (fun M' h => ?_)
                have hM80 := h
                refine tu_st_eq rfl (M' := tu_row (tu_row (tu_row (tu_row (tu_row M 11 L_46) 12 (tu_u (a_46) s (1 - (a_46 s)))) 13 k_46) 14 r_46) 15 c) (hM80.trans ((tu_rc (tu_row (tu_row (tu_row (tu_row M 11 L_46) 12 a_46) 13 k_46) 14 r_46) c (tu_u (a_46) s (1 - (a_46 s))) rfl).trans (congrArg (fun m => tu_row m 15 c) ((tu_rc (tu_row (tu_row (tu_row M 11 L_46) 12 a_46) 13 k_46) r_46 (tu_u (a_46) s (1 - (a_46 s))) rfl).trans (congrArg (fun m => tu_row m 14 r_46) ((tu_rc (tu_row (tu_row M 11 L_46) 12 a_46) k_46 (tu_u (a_46) s (1 - (a_46 s))) rfl).trans (congrArg (fun m => tu_row m 13 k_46) (tu_rr (tu_row M 11 L_46) 12 a_46 (tu_u (a_46) s (1 - (a_46 s))))))))))) ?_
                refine tu_aload_n 83 X 0 dX3_bestChange_83 rfl ?_
                refine tu_getR 84 X dX3_bestChange_84 fl_RX3_26 (by decide) rfl rfl ?_
                refine tu_callVI 87 X (st := []) (as := []) (c_X1_leastCost (tu_nl (tu_cb M) l.toNat) (tu_np (tu_cb M) p.toNat) (show tu_LK (L_46) ((tu_u (a_46) s (1 - (a_46 s)))) (k_46) (r_46) (tu_nl (tu_cb M) l.toNat) (tu_np (tu_cb M) p.toNat) from by exact tu_LK_turn h46_0 (show s < (M 3 l.toNat).toNat from by omega))) sv_RX3_196 dX3_bestChange_87 rfl (by decide) rfl rfl rfl (Nat.le_of_ble_eq_true rfl) ⟨by decide, by decide⟩ (fun z M' h => ?_)
                obtain ⟨c_87, hM87, h87_0, hz87⟩ := h
                refine tu_st_eq rfl (M' := tu_row (tu_row (tu_row (tu_row (tu_row M 11 L_46) 12 (tu_u (a_46) s (1 - (a_46 s)))) 13 k_46) 14 r_46) 15 c_87) (hM87.trans (tu_rr (tu_row (tu_row (tu_row (tu_row M 11 L_46) 12 (tu_u (a_46) s (1 - (a_46 s)))) 13 k_46) 14 r_46) 15 c c_87)) ?_
                refine tu_tp (b := (c_87 0)) hz87 ?_
                have ecx := tu_TK.bc (B := tu_cb M) (l := l.toNat) (p := p.toNat) h46_1 h46_0 (show s < (M 3 l.toNat).toNat from by omega) h87_0
                have erg := h87_0.rg (tu_LK_turn h46_0 (show s < (M 3 l.toNat).toNat from by omega))
                rw [ecx] at erg
                refine tu_tp (b := tu_bc (tu_cb M) l.toNat p.toNat s) (by exact ecx) ?_
                refine tu_istore 90 X (lv' := [(7, tu_i (tu_bc (tu_cb M) l.toNat p.toNat s)), (0, tu_r 0), (1, tu_i l), (2, tu_i p), (3, tu_i w), (4, tu_i ((tu_bp 1000000 (fun x9 => tu_bc (tu_cb M) l.toNat p.toNat x9) s).1)), (5, tu_i ((tu_bp 1000000 (fun x9 => tu_bc (tu_cb M) l.toNat p.toNat x9) s).2)), (6, tu_i ((s : Nat) : Int))]) dX3_bestChange_90 (by rw [hnl]; decide) rfl ?_
                refine tu_aload_n 92 X 1 dX3_bestChange_92 rfl ?_
                refine tu_getR 93 X dX3_bestChange_93 fl_RX3_26 (by decide) rfl rfl ?_
                refine tu_iload 96 X 7 dX3_bestChange_96 rfl ?_
                refine tu_callVV 98 X (st := []) (as := [tu_i ((s : Nat) : Int)]) (c_X1_turnStress s (show s < 16 from by first | assumption | omega | exact ⟨by omega, by omega⟩ | decide)) sv_RX3_193 dX3_bestChange_98 rfl (by decide) rfl rfl rfl (Nat.le_of_ble_eq_true rfl) ⟨by decide, by decide⟩ (fun M' h => ?_)
                have hM98 := h
                refine tu_st_eq rfl (M' := tu_row (tu_row (tu_row (tu_row (tu_row M 11 L_46) 12 (tu_u ((tu_u (a_46) s (1 - (a_46 s)))) s (1 - ((tu_u (a_46) s (1 - (a_46 s))) s)))) 13 k_46) 14 r_46) 15 c_87) (hM98.trans ((tu_rc (tu_row (tu_row (tu_row (tu_row M 11 L_46) 12 (tu_u (a_46) s (1 - (a_46 s)))) 13 k_46) 14 r_46) c_87 (tu_u ((tu_u (a_46) s (1 - (a_46 s)))) s (1 - ((tu_u (a_46) s (1 - (a_46 s))) s))) rfl).trans (congrArg (fun m => tu_row m 15 c_87) ((tu_rc (tu_row (tu_row (tu_row M 11 L_46) 12 (tu_u (a_46) s (1 - (a_46 s)))) 13 k_46) r_46 (tu_u ((tu_u (a_46) s (1 - (a_46 s)))) s (1 - ((tu_u (a_46) s (1 - (a_46 s))) s))) rfl).trans (congrArg (fun m => tu_row m 14 r_46) ((tu_rc (tu_row (tu_row M 11 L_46) 12 (tu_u (a_46) s (1 - (a_46 s)))) k_46 (tu_u ((tu_u (a_46) s (1 - (a_46 s)))) s (1 - ((tu_u (a_46) s (1 - (a_46 s))) s))) rfl).trans (congrArg (fun m => tu_row m 13 k_46) (tu_rr (tu_row M 11 L_46) 12 (tu_u (a_46) s (1 - (a_46 s))) (tu_u ((tu_u (a_46) s (1 - (a_46 s)))) s (1 - ((tu_u (a_46) s (1 - (a_46 s))) s))))))))))) ?_
                refine tu_st_eq rfl (M' := tu_row (tu_row (tu_row (tu_row (tu_row M 11 L_46) 12 a_46) 13 k_46) 14 r_46) 15 c_87) (congrArg (fun m => tu_row m 15 c_87) (congrArg (fun m => tu_row m 14 r_46) (congrArg (fun m => tu_row m 13 k_46) (congrArg (fun q => tu_row (tu_row M 11 L_46) 12 q) (show tu_u ((tu_u (a_46) s (1 - (a_46 s)))) s (1 - ((tu_u (a_46) s (1 - (a_46 s))) s)) = a_46 from by rw [tu_u_s, tu_uu, tu_u_x (by omega)]))))) ?_
                refine tu_iload 101 X 0 dX3_bestChange_101 rfl ?_
                refine tu_iload 103 X 6 dX3_bestChange_103 rfl ?_
                refine tu_icmp_ge 105 X 116 dX3_bestChange_105 (by decide) (show tu_rg (tu_bc (tu_cb M) l.toNat p.toNat s) from by first | assumption | exact ⟨by omega, by omega⟩) (show tu_rg ((tu_bp 1000000 (fun x9 => tu_bc (tu_cb M) l.toNat p.toNat x9) s).2) from by first | assumption | exact ⟨by omega, by omega⟩) (fun br105 => ?_) (fun br105 => ?_)
                ·
                  refine tu_iinc 116 X (lv' := [(6, tu_i (((s : Nat) : Int) + 1)), (7, tu_i (tu_bc (tu_cb M) l.toNat p.toNat s)), (0, tu_r 0), (1, tu_i l), (2, tu_i p), (3, tu_i w), (4, tu_i ((tu_bp 1000000 (fun x9 => tu_bc (tu_cb M) l.toNat p.toNat x9) s).1)), (5, tu_i ((tu_bp 1000000 (fun x9 => tu_bc (tu_cb M) l.toNat p.toNat x9) s).2))]) 7 dX3_bestChange_116 rfl (by rw [hnl]; decide) rfl ?_
                  refine tu_goto 119 X 60 dX3_bestChange_119 (by decide) ?_
                  refine tu_jmp [2, 3, 4, 5, 6, 7, 0] (lv' := [(0, tu_r 0), (1, tu_i l), (2, tu_i p), (3, tu_i w), (4, tu_i ((tu_bp 1000000 (fun x9 => tu_bc (tu_cb M) l.toNat p.toNat x9) (s + 1)).1)), (5, tu_i ((tu_bp 1000000 (fun x9 => tu_bc (tu_cb M) l.toNat p.toNat x9) (s + 1)).2)), (6, tu_i (((s + 1) : Nat) : Int))]) ⟨rfl, rfl, rfl, rfl, tu_ei (by first | rfl | (simp only [tu_bp]; split <;> first | rfl | omega)), tu_ei (by first | rfl | (simp only [tu_bp]; split <;> first | rfl | omega)), tu_ei (by first | rfl | omega), trivial⟩ rfl (ih60 (s + 1) c_87 (by omega) (by simp only [tu_bp]; split <;> first | omega | (simp only []; omega)) (by omega))
                ·
                  refine tu_iload 108 X 0 dX3_bestChange_108 rfl ?_
                  refine tu_istore 110 X (lv' := [(5, tu_i (tu_bc (tu_cb M) l.toNat p.toNat s)), (7, tu_i (tu_bc (tu_cb M) l.toNat p.toNat s)), (0, tu_r 0), (1, tu_i l), (2, tu_i p), (3, tu_i w), (4, tu_i ((tu_bp 1000000 (fun x9 => tu_bc (tu_cb M) l.toNat p.toNat x9) s).1)), (6, tu_i ((s : Nat) : Int))]) dX3_bestChange_110 (by rw [hnl]; decide) rfl ?_
                  refine tu_iload 112 X 7 dX3_bestChange_112 rfl ?_
                  refine tu_istore 114 X (lv' := [(4, tu_i ((s : Nat) : Int)), (5, tu_i (tu_bc (tu_cb M) l.toNat p.toNat s)), (7, tu_i (tu_bc (tu_cb M) l.toNat p.toNat s)), (0, tu_r 0), (1, tu_i l), (2, tu_i p), (3, tu_i w), (6, tu_i ((s : Nat) : Int))]) dX3_bestChange_114 (by rw [hnl]; decide) rfl ?_
                  refine tu_iinc 116 X (lv' := [(6, tu_i (((s : Nat) : Int) + 1)), (4, tu_i ((s : Nat) : Int)), (5, tu_i (tu_bc (tu_cb M) l.toNat p.toNat s)), (7, tu_i (tu_bc (tu_cb M) l.toNat p.toNat s)), (0, tu_r 0), (1, tu_i l), (2, tu_i p), (3, tu_i w)]) 7 dX3_bestChange_116 rfl (by rw [hnl]; decide) rfl ?_
                  refine tu_goto 119 X 60 dX3_bestChange_119 (by decide) ?_
                  refine tu_jmp [4, 5, 6, 7, 1, 2, 0] (lv' := [(0, tu_r 0), (1, tu_i l), (2, tu_i p), (3, tu_i w), (4, tu_i ((tu_bp 1000000 (fun x9 => tu_bc (tu_cb M) l.toNat p.toNat x9) (s + 1)).1)), (5, tu_i ((tu_bp 1000000 (fun x9 => tu_bc (tu_cb M) l.toNat p.toNat x9) (s + 1)).2)), (6, tu_i (((s + 1) : Nat) : Int))]) ⟨rfl, rfl, rfl, rfl, tu_ei (by first | rfl | (simp only [tu_bp]; split <;> first | rfl | omega)), tu_ei (by first | rfl | (simp only [tu_bp]; split <;> first | rfl | omega)), tu_ei (by first | rfl | omega), trivial⟩ rfl (ih60 (s + 1) c_87 (by omega) (by simp only [tu_bp]; split <;> first | omega | (simp only []; omega)) (by omega))
          refine tu_jmp [3, 4, 5, 6, 2, 1, 0] (lv' := [(0, tu_r 0), (1, tu_i l), (2, tu_i p), (3, tu_i w), (4, tu_i ((tu_bp 1000000 (fun x9 => tu_bc (tu_cb M) l.toNat p.toNat x9) 0).1)), (5, tu_i ((tu_bp 1000000 (fun x9 => tu_bc (tu_cb M) l.toNat p.toNat x9) 0).2)), (6, tu_i 0)]) ⟨rfl, rfl, rfl, rfl, tu_ei (by first | rfl | (simp only [tu_bp]; split <;> first | rfl | omega)), tu_ei (by first | rfl | (simp only [tu_bp]; split <;> first | rfl | omega)), rfl, trivial⟩ rfl (lp60 (((M 3 l.toNat).toNat - 0) + 1) 0 (M 15) (by omega) (by exact ⟨⟨Int.le_refl _, by show (-6 : Int) ≤ 16; decide⟩, by show (0 : Int) ≤ 1000000; decide, Int.le_refl _⟩) (by omega))
        ·
          refine tu_bipush 33 X dX3_bestChange_33 (by decide) ?_
          refine hret 35 _ _ (-2) dX3_bestChange_35 (fun h => by rw [hrt] at h; cases h) ?_
          exact ⟨_, tu_sc.rf _, Or.inr (Or.inl (⟨by omega, rfl⟩)), rfl⟩
    ·
      have br19 := tu_b_e0 br19
      refine tu_iconst 22 X dX3_bestChange_22 ?_
      refine hret 23 _ _ (-1) dX3_bestChange_23 (fun h => by rw [hrt] at h; cases h) ?_
      exact ⟨_, tu_sc.rf _, Or.inl (⟨by omega, rfl⟩), rfl⟩
set_option maxRecDepth 20000 in
set_option maxHeartbeats 4000000 in
theorem c_X3_enoughBreath {M : tu_M} (l p : Int) (hB : tu_OK M) (rl : tu_rg l) (rp : tu_rg p) : tu_MI tu_Y_X3_enoughBreath [tu_r 0, tu_i l, tu_i p] M (fun z M' => ∃ (y : Int), (tu_sc M M') ∧ (((¬ ((0 ≤ l ∧ l < M 1 1) ∧ 0 ≤ p ∧ p < M 1 4)) ∧ y = -1) ∨ (((0 ≤ l ∧ l < M 1 1) ∧ 0 ≤ p ∧ p < M 1 4) ∧ y = tu_b1' 1000000 (fun x9 => tu_eb (tu_cb M) l.toNat p.toNat x9) 8)) ∧ z = y) := by
  have cn := hB.cnt
  refine tu_MI.of (ty := .int) (by decide) rfl (by first | exact Or.inl rfl | exact Or.inr rfl) (Nat.le_of_ble_eq_true rfl) (fun T (X : tu_X T cX3_enoughBreath RX3 3 69) hnl hrt hret => ?_)
  have hret : tu_RI T cX3_enoughBreath (fun z M' => ∃ (y : Int), (tu_sc M M') ∧ (((¬ ((0 ≤ l ∧ l < M 1 1) ∧ 0 ≤ p ∧ p < M 1 4)) ∧ y = -1) ∨ (((0 ≤ l ∧ l < M 1 1) ∧ 0 ≤ p ∧ p < M 1 4) ∧ y = tu_b1' 1000000 (fun x9 => tu_eb (tu_cb M) l.toNat p.toNat x9) 8)) ∧ z = y) := hret
  have hnl : T.2.2.2.2.2.2.2.2.2.2.1 = 7 := hnl
  show tu_W T 0 [(0, tu_r 0), (1, tu_i l), (2, tu_i p)] [] M
  refine tu_aload_n 0 X 0 dX3_enoughBreath_0 rfl ?_
  refine tu_getR 1 X dX3_enoughBreath_1 fl_RX3_10 (by decide) rfl rfl ?_
  refine tu_iload_n 4 X 1 dX3_enoughBreath_4 rfl ?_
  refine tu_callVI 5 X (st := []) (as := [tu_i l]) (c_X0_hasLine l (show tu_OK M from by first | assumption | omega | exact ⟨by omega, by omega⟩ | decide) (show tu_rg l from by first | assumption | omega | exact ⟨by omega, by omega⟩ | decide)) sv_RX3_93 dX3_enoughBreath_5 rfl (by decide) rfl rfl rfl (Nat.le_of_ble_eq_true rfl) ⟨by decide, by decide⟩ (fun z M' h => ?_)
  obtain ⟨hM5, hz5⟩ := h
  refine tu_st_eq rfl (M' := M) hM5 ?_
  refine tu_tp (b := tu_b (0 ≤ l ∧ l < M 1 1)) hz5 ?_
  refine tu_if_eq 8 X 22 dX3_enoughBreath_8 (by decide) tu_b_rg (fun br8 => ?_) (fun br8 => ?_)
  ·
    have br8 := tu_b_e0 br8
    refine tu_iconst 22 X dX3_enoughBreath_22 ?_
    refine hret 23 _ _ (-1) dX3_enoughBreath_23 (fun h => by rw [hrt] at h; cases h) ?_
    exact ⟨_, tu_sc.rf _, Or.inl (⟨by omega, rfl⟩), rfl⟩
  ·
    have br8 := tu_b_n0 br8
    refine tu_aload_n 11 X 0 dX3_enoughBreath_11 rfl ?_
    refine tu_getR 12 X dX3_enoughBreath_12 fl_RX3_10 (by decide) rfl rfl ?_
    refine tu_iload_n 15 X 2 dX3_enoughBreath_15 rfl ?_
    refine tu_callVI 16 X (st := []) (as := [tu_i p]) (c_X0_hasPhrase p (show tu_OK M from by first | assumption | omega | exact ⟨by omega, by omega⟩ | decide) (show tu_rg p from by first | assumption | omega | exact ⟨by omega, by omega⟩ | decide)) sv_RX3_103 dX3_enoughBreath_16 rfl (by decide) rfl rfl rfl (Nat.le_of_ble_eq_true rfl) ⟨by decide, by decide⟩ (fun z M' h => ?_)
    obtain ⟨hM16, hz16⟩ := h
    refine tu_st_eq rfl (M' := M) hM16 ?_
    refine tu_tp (b := tu_b (0 ≤ p ∧ p < M 1 4)) hz16 ?_
    refine tu_if_ne 19 X 24 dX3_enoughBreath_19 (by decide) tu_b_rg (fun br19 => ?_) (fun br19 => ?_)
    ·
      have br19 := tu_b_n0 br19
      refine tu_aload_n 24 X 0 dX3_enoughBreath_24 rfl ?_
      refine tu_getR 25 X dX3_enoughBreath_25 fl_RX3_26 (by decide) rfl rfl ?_
      refine tu_aload_n 28 X 0 dX3_enoughBreath_28 rfl ?_
      refine tu_getR 29 X dX3_enoughBreath_29 fl_RX3_10 (by decide) rfl rfl ?_
      refine tu_iload_n 32 X 1 dX3_enoughBreath_32 rfl ?_
      refine tu_iload_n 33 X 2 dX3_enoughBreath_33 rfl ?_
      refine tu_st_eq (show _ = [tu_i ((p.toNat : Nat) : Int), tu_i ((l.toNat : Nat) : Int), tu_r 1, tu_r 11] from by first | rfl | (simp only [List.cons.injEq, Sum.inl.injEq, and_true, true_and]; omega)) rfl ?_
      refine tu_callVV 34 X (st := []) (as := [tu_r 1, tu_i ((l.toNat : Nat) : Int), tu_i ((p.toNat : Nat) : Int)]) (c_X1_take l.toNat p.toNat (show tu_OK M from by first | assumption | omega | exact ⟨by omega, by omega⟩ | decide) (show (l.toNat : Int) < M 1 1 from by first | assumption | omega | exact ⟨by omega, by omega⟩ | decide) (show (p.toNat : Int) < M 1 4 from by first | assumption | omega | exact ⟨by omega, by omega⟩ | decide)) sv_RX3_189 dX3_enoughBreath_34 rfl (by decide) rfl rfl rfl (Nat.le_of_ble_eq_true rfl) ⟨by decide, by decide⟩ (fun M' h => ?_)
      obtain ⟨L_34, a_34, k_34, r_34, hM34, h34_0, h34_1⟩ := h
      refine tu_st_eq rfl (M' := tu_row (tu_row (tu_row (tu_row M 11 L_34) 12 a_34) 13 k_34) 14 r_34) hM34 ?_
      refine tu_bipush 37 X dX3_enoughBreath_37 (by decide) ?_
      refine tu_istore_n 39 X (lv' := [(3, tu_i (-6)), (0, tu_r 0), (1, tu_i l), (2, tu_i p)]) dX3_enoughBreath_39 (by rw [hnl]; decide) rfl ?_
      refine tu_ldc 40 X (n := 1000000) dX3_enoughBreath_40 kw_RX3_169 (by decide) ?_
      refine tu_istore 42 X (lv' := [(4, tu_i 1000000), (3, tu_i (-6)), (0, tu_r 0), (1, tu_i l), (2, tu_i p)]) dX3_enoughBreath_42 (by rw [hnl]; decide) rfl ?_
      refine tu_iconst 44 X dX3_enoughBreath_44 ?_
      refine tu_istore 45 X (lv' := [(5, tu_i 1), (4, tu_i 1000000), (3, tu_i (-6)), (0, tu_r 0), (1, tu_i l), (2, tu_i p)]) dX3_enoughBreath_45 (by rw [hnl]; decide) rfl ?_
      refine tu_st_eq rfl (M' := tu_row (tu_row (tu_row (tu_row (tu_row M 11 L_34) 12 a_34) 13 k_34) 14 r_34) 15 (M 15)) ((congrArg (fun m => tu_row m 14 r_34) ((congrArg (fun m => tu_row m 13 k_34) ((congrArg (fun m => tu_row m 12 a_34) ((congrArg (fun m => tu_row m 11 L_34) ((tu_rx M 15).symm)).trans (tu_rc M (M 15) L_34 rfl))).trans (tu_rc (tu_row M 11 L_34) (M 15) a_34 rfl))).trans (tu_rc (tu_row (tu_row M 11 L_34) 12 a_34) (M 15) k_34 rfl))).trans (tu_rc (tu_row (tu_row (tu_row M 11 L_34) 12 a_34) 13 k_34) (M 15) r_34 rfl)) ?_
      have lp47 : ∀ (nq : Nat) (q : Nat) (L : Nat → Int) (c : Nat → Int), (q ≤ 8) → (∀ i, i ≠ 0 → L i = L_34 i) → ((-6 = (tu_bp 1000000 (fun x9 => tu_eb (tu_cb M) l.toNat p.toNat x9) q).1 ∨ 0 ≤ (tu_bp 1000000 (fun x9 => tu_eb (tu_cb M) l.toNat p.toNat x9) q).1) ∧ (0 ≤ (tu_bp 1000000 (fun x9 => tu_eb (tu_cb M) l.toNat p.toNat x9) q).2 ∧ (tu_bp 1000000 (fun x9 => tu_eb (tu_cb M) l.toNat p.toNat x9) q).2 ≤ 1000000)) → 8 - q < nq → tu_W T 47 [(0, tu_r 0), (1, tu_i l), (2, tu_i p), (3, tu_i (tu_b1' 1000000 (fun x9 => tu_eb (tu_cb M) l.toNat p.toNat x9) q)), (4, tu_i ((tu_bp 1000000 (fun x9 => tu_eb (tu_cb M) l.toNat p.toNat x9) q).2)), (5, tu_i (((q + 1) : Nat) : Int))] [] (tu_row (tu_row (tu_row (tu_row (tu_row M 11 L) 12 a_34) 13 k_34) 14 r_34) 15 c) := by
        intro nq
        induction nq with
        | zero => intros; omega
        | succ nq ih47 =>
          intro q L c hq hL hb hn47
          refine tu_iload 47 X 5 dX3_enoughBreath_47 rfl ?_
          refine tu_bipush 49 X dX3_enoughBreath_49 (by decide) ?_
          refine tu_icmp_gt 51 X 92 dX3_enoughBreath_51 (by decide) (show tu_rg (((q + 1) : Nat) : Int) from by first | assumption | exact ⟨by omega, by omega⟩) ⟨by decide, by decide⟩ (fun br51 => ?_) (fun br51 => ?_)
          ·
            refine tu_iload_n 92 X 3 dX3_enoughBreath_92 rfl ?_
            refine hret 93 _ _ (tu_b1' 1000000 (fun x9 => tu_eb (tu_cb M) l.toNat p.toNat x9) q) dX3_enoughBreath_93 (fun h => by rw [hrt] at h; cases h) ?_
            refine ⟨_, (((((((tu_sc.rf _).row _ (by decide)).row _ (by decide)).row _ (by decide)).row _ (by decide)).row _ (by decide))), Or.inr ⟨by omega, ?_⟩, rfl⟩
            rw [show q = 8 from by omega]
          ·
            refine tu_aload_n 54 X 0 dX3_enoughBreath_54 rfl ?_
            refine tu_getR 55 X dX3_enoughBreath_55 fl_RX3_26 (by decide) rfl rfl ?_
            refine tu_iload 58 X 5 dX3_enoughBreath_58 rfl ?_
            refine tu_putI 60 X (M' := tu_row (tu_row (tu_row (tu_row (tu_row M 11 (tu_u L 0 (((q + 1) : Nat) : Int))) 12 a_34) 13 k_34) 14 r_34) 15 c) dX3_enoughBreath_60 fp_RX3_199 (by decide) rfl rfl ((tu_rc (tu_row (tu_row (tu_row (tu_row M 11 L) 12 a_34) 13 k_34) 14 r_34) c (tu_u L 0 (((q + 1) : Nat) : Int)) rfl).trans (congrArg (fun m => tu_row m 15 c) ((tu_rc (tu_row (tu_row (tu_row M 11 L) 12 a_34) 13 k_34) r_34 (tu_u L 0 (((q + 1) : Nat) : Int)) rfl).trans (congrArg (fun m => tu_row m 14 r_34) ((tu_rc (tu_row (tu_row M 11 L) 12 a_34) k_34 (tu_u L 0 (((q + 1) : Nat) : Int)) rfl).trans (congrArg (fun m => tu_row m 13 k_34) ((tu_rc (tu_row M 11 L) a_34 (tu_u L 0 (((q + 1) : Nat) : Int)) rfl).trans (congrArg (fun m => tu_row m 12 a_34) (tu_rr M 11 L (tu_u L 0 (((q + 1) : Nat) : Int))))))))))) ?_
            refine tu_aload_n 63 X 0 dX3_enoughBreath_63 rfl ?_
            refine tu_getR 64 X dX3_enoughBreath_64 fl_RX3_26 (by decide) rfl rfl ?_
            refine tu_callVI 67 X (st := []) (as := []) (c_X1_leastCost (tu_nl (tu_cb M) l.toNat) (tu_np (tu_cb M) p.toNat) (show tu_LK ((tu_u L 0 (((q + 1) : Nat) : Int))) (a_34) (k_34) (r_34) (tu_nl (tu_cb M) l.toNat) (tu_np (tu_cb M) p.toNat) from by exact tu_LK_br h34_0 hL (by omega))) sv_RX3_196 dX3_enoughBreath_67 rfl (by decide) rfl rfl rfl (Nat.le_of_ble_eq_true rfl) ⟨by decide, by decide⟩ (fun z M' h => ?_)
            obtain ⟨c_67, hM67, h67_0, hz67⟩ := h
            refine tu_st_eq rfl (M' := tu_row (tu_row (tu_row (tu_row (tu_row M 11 (tu_u L 0 (((q + 1) : Nat) : Int))) 12 a_34) 13 k_34) 14 r_34) 15 c_67) (hM67.trans (tu_rr (tu_row (tu_row (tu_row (tu_row M 11 (tu_u L 0 (((q + 1) : Nat) : Int))) 12 a_34) 13 k_34) 14 r_34) 15 c c_67)) ?_
            refine tu_tp (b := (c_67 0)) hz67 ?_
            have ecx := tu_TK.eb (B := tu_cb M) (l := l.toNat) (p := p.toNat) h34_1 h34_0 hL (by omega) h67_0
            have erg := h67_0.rg (tu_LK_br h34_0 hL (by omega))
            rw [ecx] at erg
            refine tu_tp (b := tu_eb (tu_cb M) l.toNat p.toNat q) (by exact ecx) ?_
            refine tu_istore 70 X (lv' := [(6, tu_i (tu_eb (tu_cb M) l.toNat p.toNat q)), (0, tu_r 0), (1, tu_i l), (2, tu_i p), (3, tu_i (tu_b1' 1000000 (fun x9 => tu_eb (tu_cb M) l.toNat p.toNat x9) q)), (4, tu_i ((tu_bp 1000000 (fun x9 => tu_eb (tu_cb M) l.toNat p.toNat x9) q).2)), (5, tu_i (((q + 1) : Nat) : Int))]) dX3_enoughBreath_70 (by rw [hnl]; decide) rfl ?_
            refine tu_iload 72 X 0 dX3_enoughBreath_72 rfl ?_
            refine tu_iload 74 X 5 dX3_enoughBreath_74 rfl ?_
            refine tu_icmp_ge 76 X 86 dX3_enoughBreath_76 (by decide) (show tu_rg (tu_eb (tu_cb M) l.toNat p.toNat q) from by first | assumption | exact ⟨by omega, by omega⟩) (show tu_rg ((tu_bp 1000000 (fun x9 => tu_eb (tu_cb M) l.toNat p.toNat x9) q).2) from by first | assumption | exact ⟨by omega, by omega⟩) (fun br76 => ?_) (fun br76 => ?_)
            ·
              refine tu_iinc 86 X (lv' := [(5, tu_i ((((q + 1) : Nat) : Int) + 1)), (6, tu_i (tu_eb (tu_cb M) l.toNat p.toNat q)), (0, tu_r 0), (1, tu_i l), (2, tu_i p), (3, tu_i (tu_b1' 1000000 (fun x9 => tu_eb (tu_cb M) l.toNat p.toNat x9) q)), (4, tu_i ((tu_bp 1000000 (fun x9 => tu_eb (tu_cb M) l.toNat p.toNat x9) q).2))]) 6 dX3_enoughBreath_86 rfl (by rw [hnl]; decide) rfl ?_
              refine tu_goto 89 X 47 dX3_enoughBreath_89 (by decide) ?_
              refine tu_jmp [2, 3, 4, 5, 6, 0] (lv' := [(0, tu_r 0), (1, tu_i l), (2, tu_i p), (3, tu_i (tu_b1' 1000000 (fun x9 => tu_eb (tu_cb M) l.toNat p.toNat x9) (q + 1))), (4, tu_i ((tu_bp 1000000 (fun x9 => tu_eb (tu_cb M) l.toNat p.toNat x9) (q + 1)).2)), (5, tu_i ((((q + 1) + 1) : Nat) : Int))]) ⟨rfl, rfl, rfl, tu_ei (by first | rfl | (first | (rw [tu_b1_miss (by omega)]; done) | (rw [tu_b1_hit (by omega)]; omega))), tu_ei (by first | rfl | (simp only [tu_bp]; split <;> first | rfl | omega)), tu_ei (by first | rfl | omega), trivial⟩ rfl (ih47 (q + 1) (tu_u L 0 (((q + 1) : Nat) : Int)) c_67 (by omega) (by intro i hi; rw [tu_u_n _ _ hi]; exact hL i hi) (by simp only [tu_bp]; split <;> first | omega | (simp only []; omega)) (by omega))
            ·
              refine tu_iload 79 X 0 dX3_enoughBreath_79 rfl ?_
              refine tu_istore 81 X (lv' := [(4, tu_i (tu_eb (tu_cb M) l.toNat p.toNat q)), (6, tu_i (tu_eb (tu_cb M) l.toNat p.toNat q)), (0, tu_r 0), (1, tu_i l), (2, tu_i p), (3, tu_i (tu_b1' 1000000 (fun x9 => tu_eb (tu_cb M) l.toNat p.toNat x9) q)), (5, tu_i (((q + 1) : Nat) : Int))]) dX3_enoughBreath_81 (by rw [hnl]; decide) rfl ?_
              refine tu_iload 83 X 6 dX3_enoughBreath_83 rfl ?_
              refine tu_istore_n 85 X (lv' := [(3, tu_i (((q + 1) : Nat) : Int)), (4, tu_i (tu_eb (tu_cb M) l.toNat p.toNat q)), (6, tu_i (tu_eb (tu_cb M) l.toNat p.toNat q)), (0, tu_r 0), (1, tu_i l), (2, tu_i p), (5, tu_i (((q + 1) : Nat) : Int))]) dX3_enoughBreath_85 (by rw [hnl]; decide) rfl ?_
              refine tu_iinc 86 X (lv' := [(5, tu_i ((((q + 1) : Nat) : Int) + 1)), (3, tu_i (((q + 1) : Nat) : Int)), (4, tu_i (tu_eb (tu_cb M) l.toNat p.toNat q)), (6, tu_i (tu_eb (tu_cb M) l.toNat p.toNat q)), (0, tu_r 0), (1, tu_i l), (2, tu_i p)]) 6 dX3_enoughBreath_86 rfl (by rw [hnl]; decide) rfl ?_
              refine tu_goto 89 X 47 dX3_enoughBreath_89 (by decide) ?_
              refine tu_jmp [4, 5, 6, 1, 2, 0] (lv' := [(0, tu_r 0), (1, tu_i l), (2, tu_i p), (3, tu_i (tu_b1' 1000000 (fun x9 => tu_eb (tu_cb M) l.toNat p.toNat x9) (q + 1))), (4, tu_i ((tu_bp 1000000 (fun x9 => tu_eb (tu_cb M) l.toNat p.toNat x9) (q + 1)).2)), (5, tu_i ((((q + 1) + 1) : Nat) : Int))]) ⟨rfl, rfl, rfl, tu_ei (by first | rfl | (first | (rw [tu_b1_miss (by omega)]; done) | (rw [tu_b1_hit (by omega)]; omega))), tu_ei (by first | rfl | (simp only [tu_bp]; split <;> first | rfl | omega)), tu_ei (by first | rfl | omega), trivial⟩ rfl (ih47 (q + 1) (tu_u L 0 (((q + 1) : Nat) : Int)) c_67 (by omega) (by intro i hi; rw [tu_u_n _ _ hi]; exact hL i hi) (by simp only [tu_bp]; split <;> first | omega | (simp only []; omega)) (by omega))
      refine tu_jmp [3, 4, 5, 2, 1, 0] (lv' := [(0, tu_r 0), (1, tu_i l), (2, tu_i p), (3, tu_i (tu_b1' 1000000 (fun x9 => tu_eb (tu_cb M) l.toNat p.toNat x9) 0)), (4, tu_i ((tu_bp 1000000 (fun x9 => tu_eb (tu_cb M) l.toNat p.toNat x9) 0).2)), (5, tu_i (((0 + 1) : Nat) : Int))]) ⟨rfl, rfl, rfl, tu_ei (by first | rfl | (first | (rw [tu_b1_miss (by omega)]; done) | (rw [tu_b1_hit (by omega)]; omega))), tu_ei (by first | rfl | (simp only [tu_bp]; split <;> first | rfl | omega)), tu_ei (by first | rfl | omega), trivial⟩ rfl (lp47 ((8 - 0) + 1) 0 L_34 (M 15) (by omega) (by intro i hi; rfl) (by exact ⟨Or.inl rfl, by show (0 : Int) ≤ 1000000; decide, Int.le_refl _⟩) (by omega))
    ·
      have br19 := tu_b_e0 br19
      refine tu_iconst 22 X dX3_enoughBreath_22 ?_
      refine hret 23 _ _ (-1) dX3_enoughBreath_23 (fun h => by rw [hrt] at h; cases h) ?_
      exact ⟨_, tu_sc.rf _, Or.inl (⟨by omega, rfl⟩), rfl⟩
