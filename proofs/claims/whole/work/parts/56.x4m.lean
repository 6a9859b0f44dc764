set_option maxRecDepth 20000 in
set_option maxHeartbeats 400000 in
theorem c_X4_line {M : tu_M} (B : Nat → Nat → Int) (l w : Int) (hO : tu_BO B) (hR : tu_MB B (M 87)) (rl : tu_rg l) (rw : tu_rg w) : tu_MI tu_Y_X4_line [tu_r 86, tu_i l, tu_i w] M (fun z M' => ∃ (y : Int), (tu_sd M M') ∧ (((¬ (0 ≤ l ∧ l < B 0 1)) ∧ y = -1) ∨ (((0 ≤ l ∧ l < B 0 1) ∧ w = 0) ∧ y = B 2 l.toNat) ∨ (((0 ≤ l ∧ l < B 0 1) ∧ w = 1) ∧ y = tu_sm (fun q => B 3 (l.toNat * 16 + q)) (B 2 l.toNat).toNat) ∨ (((0 ≤ l ∧ l < B 0 1) ∧ w = 2) ∧ y = tu_ti (B 6) l (B 0 7).toNat) ∨ (((0 ≤ l ∧ l < B 0 1) ∧ w = 3 ∧ 2 ≤ tu_ti (B 6) l (B 0 7).toNat) ∧ y = 1) ∨ (((0 ≤ l ∧ l < B 0 1) ∧ w = 3 ∧ tu_ti (B 6) l (B 0 7).toNat < 2) ∧ y = 0) ∨ (((0 ≤ l ∧ l < B 0 1) ∧ w = 4) ∧ y = (tu_bp 1000000 (fun p => tu_co B l.toNat p) (B 0 4).toNat).1) ∨ (((0 ≤ l ∧ l < B 0 1) ∧ (w < 0 ∨ 4 < w)) ∧ y = -2)) ∧ z = y) := by
  have cn := hO.1
  refine tu_MI.of (ty := .int) (by decide) rfl (by first | exact Or.inl rfl | exact Or.inr rfl) (Nat.le_of_ble_eq_true rfl) (fun T (X : tu_X T cX4_line RX4 7 160) hnl hrt hret => ?_)
  have hret : tu_RI T cX4_line (fun z M' => ∃ (y : Int), (tu_sd M M') ∧ (((¬ (0 ≤ l ∧ l < B 0 1)) ∧ y = -1) ∨ (((0 ≤ l ∧ l < B 0 1) ∧ w = 0) ∧ y = B 2 l.toNat) ∨ (((0 ≤ l ∧ l < B 0 1) ∧ w = 1) ∧ y = tu_sm (fun q => B 3 (l.toNat * 16 + q)) (B 2 l.toNat).toNat) ∨ (((0 ≤ l ∧ l < B 0 1) ∧ w = 2) ∧ y = tu_ti (B 6) l (B 0 7).toNat) ∨ (((0 ≤ l ∧ l < B 0 1) ∧ w = 3 ∧ 2 ≤ tu_ti (B 6) l (B 0 7).toNat) ∧ y = 1) ∨ (((0 ≤ l ∧ l < B 0 1) ∧ w = 3 ∧ tu_ti (B 6) l (B 0 7).toNat < 2) ∧ y = 0) ∨ (((0 ≤ l ∧ l < B 0 1) ∧ w = 4) ∧ y = (tu_bp 1000000 (fun p => tu_co B l.toNat p) (B 0 4).toNat).1) ∨ (((0 ≤ l ∧ l < B 0 1) ∧ (w < 0 ∨ 4 < w)) ∧ y = -2)) ∧ z = y) := hret
  have hnl : T.2.2.2.2.2.2.2.2.2.2.1 = 3 := hnl
  show tu_W T 0 [(0, tu_r 86), (1, tu_i l), (2, tu_i w)] [] M
  refine tu_aload_n 0 X 0 dX4_line_0 rfl ?_
  refine tu_iload_n 1 X 1 dX4_line_1 rfl ?_
  refine tu_callVI 2 X (st := []) (as := [tu_i l]) (c_X4_isLine B l (show tu_BO B from by first | assumption | omega | exact ⟨by omega, by omega⟩ | decide) (show tu_MB B (M 87) from by first | assumption | omega | exact ⟨by omega, by omega⟩ | decide) (show tu_rg l from by first | assumption | omega | exact ⟨by omega, by omega⟩ | decide)) sv_RX4_52 dX4_line_2 rfl (by decide) rfl rfl rfl (Nat.le_of_ble_eq_true rfl) ⟨by decide, by decide⟩ (fun z M' h => ?_)
  obtain ⟨hM2, hz2⟩ := h
  refine tu_st_eq rfl (M' := M) hM2 ?_
  refine tu_tp (b := tu_b (0 ≤ l ∧ l < B 0 1)) hz2 ?_
  refine tu_if_ne 5 X 10 dX4_line_5 (by decide) tu_b_rg (fun br5 => ?_) (fun br5 => ?_)
  ·
    have br5 := tu_b_n0 br5
    have hl2 := hO.2.1 l.toNat (by omega)
    have hti := tu_ti_01 (B 6) l (B 0 7).toNat
    refine tu_iload_n 10 X 2 dX4_line_10 rfl ?_
    rcases (show w = 0 ∨ w = 1 ∨ w = 2 ∨ w = 3 ∨ w = 4 ∨ (w < 0 ∨ 4 < w) from by omega) with br11 | br11 | br11 | br11 | br11 | br11
    ·
      refine tu_tabIn 11 X 44 dX4_line_11 (show tu_rg w from by first | assumption | exact ⟨by omega, by omega⟩) (by omega) (by omega) (by rw [br11]; rfl) (by decide) ?_
      refine tu_aload_n 44 X 0 dX4_line_44 rfl ?_
      refine tu_iload_n 45 X 1 dX4_line_45 rfl ?_
      refine tu_st_eq (show _ = [tu_i ((l.toNat : Nat) : Int), tu_r 86] from by first | rfl | (simp only [List.cons.injEq, Sum.inl.injEq, and_true, true_and]; omega)) rfl ?_
      refine tu_callVI 46 X (st := []) (as := [tu_i ((l.toNat : Nat) : Int)]) (c_X4_lineLength B l.toNat (show tu_BO B from by first | assumption | omega | exact ⟨by omega, by omega⟩ | decide) (show tu_MB B (M 87) from by first | assumption | omega | exact ⟨by omega, by omega⟩ | decide) (show (l.toNat : Int) < B 0 1 from by first | assumption | omega | exact ⟨by omega, by omega⟩ | decide)) sv_RX4_56 dX4_line_46 rfl (by decide) rfl rfl rfl (Nat.le_of_ble_eq_true rfl) ⟨by decide, by decide⟩ (fun z M' h => ?_)
      obtain ⟨hM46, hz46⟩ := h
      refine tu_st_eq rfl (M' := M) hM46 ?_
      refine tu_tp (b := (B 2 l.toNat)) hz46 ?_
      refine hret 49 _ _ (B 2 l.toNat) dX4_line_49 (fun h => by rw [hrt] at h; cases h) ?_
      exact ⟨_, tu_sd.rf _, Or.inr (Or.inl (⟨by omega, rfl⟩)), rfl⟩
    ·
      refine tu_tabIn 11 X 50 dX4_line_11 (show tu_rg w from by first | assumption | exact ⟨by omega, by omega⟩) (by omega) (by omega) (by rw [br11]; rfl) (by decide) ?_
      refine tu_aload_n 50 X 0 dX4_line_50 rfl ?_
      refine tu_getR 51 X dX4_line_51 fl_RX4_7 (by decide) rfl rfl ?_
      refine tu_bipush 54 X dX4_line_54 (by decide) ?_
      refine tu_iconst 56 X dX4_line_56 ?_
      refine tu_iload_n 57 X 1 dX4_line_57 rfl ?_
      refine tu_imul 58 X dX4_line_58 ?_
      refine tu_iadd 59 X dX4_line_59 ?_
      refine tu_iconst 60 X dX4_line_60 ?_
      refine tu_iadd 61 X dX4_line_61 ?_
      refine tu_iald 62 X (x := M 87 (((8 + (2 * l)) + 1).toNat)) (((8 + (2 * l)) + 1).toNat) dX4_line_62 (by decide) rfl (by decide) (by omega) (by omega) rfl ?_
      refine tu_callSI 63 X (st := []) (as := [tu_i (M 87 (((8 + (2 * l)) + 1).toNat))]) (c_X4_bits (M 87 (((8 + (2 * l)) + 1).toNat)) ) ss_RX4_125 dX4_line_63 rfl (Nat.le_of_ble_eq_true rfl) ⟨by decide, by decide⟩ (fun z M' h => ?_)
      obtain ⟨hM63, hz63⟩ := h
      refine tu_st_eq rfl (M' := M) hM63 ?_
      refine tu_tp (b := (tu_sm (fun i9 => tu_bi (M 87 (((8 + (2 * l)) + 1).toNat)) i9) 24)) hz63 ?_
      refine tu_tp (b := (tu_sm (fun q => B 3 (l.toNat * 16 + q)) (B 2 l.toNat).toNat)) (by rw [show (((8 + (2 * l)) + 1)).toNat = 8 + 2 * l.toNat + 1 from by omega]; exact tu_bits_s (hR.st l.toNat (by omega)) (by omega) (fun i hi => hO.2.2.1 l.toNat i (by omega) (by omega))) ?_
      refine hret 66 _ _ (tu_sm (fun q => B 3 (l.toNat * 16 + q)) (B 2 l.toNat).toNat) dX4_line_66 (fun h => by rw [hrt] at h; cases h) ?_
      exact ⟨_, tu_sd.rf _, Or.inr (Or.inr (Or.inl (⟨by omega, rfl⟩))), rfl⟩
    ·
      refine tu_tabIn 11 X 67 dX4_line_11 (show tu_rg w from by first | assumption | exact ⟨by omega, by omega⟩) (by omega) (by omega) (by rw [br11]; rfl) (by decide) ?_
      refine tu_aload_n 67 X 0 dX4_line_67 rfl ?_
      refine tu_iload_n 68 X 1 dX4_line_68 rfl ?_
      refine tu_callVI 69 X (st := []) (as := [tu_i l]) (c_X4_sungTimes B l (show tu_BO B from by first | assumption | omega | exact ⟨by omega, by omega⟩ | decide) (show tu_MB B (M 87) from by first | assumption | omega | exact ⟨by omega, by omega⟩ | decide) (show tu_rg l from by first | assumption | omega | exact ⟨by omega, by omega⟩ | decide)) sv_RX4_169 dX4_line_69 rfl (by decide) rfl rfl rfl (Nat.le_of_ble_eq_true rfl) ⟨by decide, by decide⟩ (fun z M' h => ?_)
      obtain ⟨hM69, hz69⟩ := h
      refine tu_st_eq rfl (M' := M) hM69 ?_
      refine tu_tp (b := (tu_ti (B 6) l (B 0 7).toNat)) hz69 ?_
      refine hret 72 _ _ (tu_ti (B 6) l (B 0 7).toNat) dX4_line_72 (fun h => by rw [hrt] at h; cases h) ?_
      exact ⟨_, tu_sd.rf _, Or.inr (Or.inr (Or.inr (Or.inl (⟨by omega, rfl⟩)))), rfl⟩
    ·
      refine tu_tabIn 11 X 73 dX4_line_11 (show tu_rg w from by first | assumption | exact ⟨by omega, by omega⟩) (by omega) (by omega) (by rw [br11]; rfl) (by decide) ?_
      refine tu_aload_n 73 X 0 dX4_line_73 rfl ?_
      refine tu_iload_n 74 X 1 dX4_line_74 rfl ?_
      refine tu_callVI 75 X (st := []) (as := [tu_i l]) (c_X4_sungTimes B l (show tu_BO B from by first | assumption | omega | exact ⟨by omega, by omega⟩ | decide) (show tu_MB B (M 87) from by first | assumption | omega | exact ⟨by omega, by omega⟩ | decide) (show tu_rg l from by first | assumption | omega | exact ⟨by omega, by omega⟩ | decide)) sv_RX4_169 dX4_line_75 rfl (by decide) rfl rfl rfl (Nat.le_of_ble_eq_true rfl) ⟨by decide, by decide⟩ (fun z M' h => ?_)
      obtain ⟨hM75, hz75⟩ := h
      refine tu_st_eq rfl (M' := M) hM75 ?_
      refine tu_tp (b := (tu_ti (B 6) l (B 0 7).toNat)) hz75 ?_
      refine tu_iconst 78 X dX4_line_78 ?_
      refine tu_icmp_le 79 X 86 dX4_line_79 (by decide) (show tu_rg (tu_ti (B 6) l (B 0 7).toNat) from by first | assumption | exact ⟨by omega, by omega⟩) ⟨by decide, by decide⟩ (fun br79 => ?_) (fun br79 => ?_)
      ·
        refine tu_iconst 86 X dX4_line_86 ?_
        refine hret 87 _ _ 0 dX4_line_87 (fun h => by rw [hrt] at h; cases h) ?_
        first | exact ⟨_, tu_sd.rf _, Or.inr (Or.inr (Or.inr (Or.inr (Or.inl (⟨by omega, rfl⟩))))), rfl⟩ | exact ⟨_, tu_sd.rf _, Or.inr (Or.inr (Or.inr (Or.inr (Or.inr (Or.inl (⟨by omega, rfl⟩)))))), rfl⟩
      ·
        refine tu_iconst 82 X dX4_line_82 ?_
        refine tu_goto 83 X 87 dX4_line_83 (by decide) ?_
        refine hret 87 _ _ 1 dX4_line_87 (fun h => by rw [hrt] at h; cases h) ?_
        first | exact ⟨_, tu_sd.rf _, Or.inr (Or.inr (Or.inr (Or.inr (Or.inl (⟨by omega, rfl⟩))))), rfl⟩ | exact ⟨_, tu_sd.rf _, Or.inr (Or.inr (Or.inr (Or.inr (Or.inr (Or.inl (⟨by omega, rfl⟩)))))), rfl⟩
    ·
      refine tu_tabIn 11 X 88 dX4_line_11 (show tu_rg w from by first | assumption | exact ⟨by omega, by omega⟩) (by omega) (by omega) (by rw [br11]; rfl) (by decide) ?_
      refine tu_aload_n 88 X 0 dX4_line_88 rfl ?_
      refine tu_iload_n 89 X 1 dX4_line_89 rfl ?_
      refine tu_st_eq (show _ = [tu_i ((l.toNat : Nat) : Int), tu_r 86] from by first | rfl | (simp only [List.cons.injEq, Sum.inl.injEq, and_true, true_and]; omega)) rfl ?_
      refine tu_callVI 90 X (st := []) (as := [tu_i ((l.toNat : Nat) : Int)]) (c_X4_cheapestPhrase B l.toNat (show tu_BO B from by first | assumption | omega | exact ⟨by omega, by omega⟩ | decide) (show tu_MB B (M 87) from by first | assumption | omega | exact ⟨by omega, by omega⟩ | decide) (show (l.toNat : Int) < B 0 1 from by first | assumption | omega | exact ⟨by omega, by omega⟩ | decide)) sv_RX4_172 dX4_line_90 rfl (by decide) rfl rfl rfl (Nat.le_of_ble_eq_true rfl) ⟨by decide, by decide⟩ (fun z M' h => ?_)
      obtain ⟨r9_90, C_90, W_90, U_90, hM90, h90_0, hz90⟩ := h
      refine tu_st_eq rfl (M' := tu_row (tu_row (tu_row (tu_row M 86 r9_90) 92 C_90) 93 W_90) 94 U_90) hM90 ?_
      refine tu_tp (b := ((tu_bp 1000000 (fun p => tu_co B l.toNat p) (B 0 4).toNat).1)) hz90 ?_
      refine hret 93 _ _ ((tu_bp 1000000 (fun p => tu_co B l.toNat p) (B 0 4).toNat).1) dX4_line_93 (fun h => by rw [hrt] at h; cases h) ?_
      exact ⟨_, ((((tu_sd.rf _).r86 h90_0).row _ (by decide)).row _ (by decide)).row _ (by decide), Or.inr (Or.inr (Or.inr (Or.inr (Or.inr (Or.inr (Or.inl (⟨by omega, rfl⟩))))))), rfl⟩
    ·
      refine tu_tabOut 11 X 94 dX4_line_11 (show tu_rg w from by first | assumption | exact ⟨by omega, by omega⟩) br11 (by decide) ?_
      refine tu_bipush 94 X dX4_line_94 (by decide) ?_
      refine hret 96 _ _ (-2) dX4_line_96 (fun h => by rw [hrt] at h; cases h) ?_
      exact ⟨_, tu_sd.rf _, Or.inr (Or.inr (Or.inr (Or.inr (Or.inr (Or.inr (Or.inr (⟨by omega, rfl⟩))))))), rfl⟩
  ·
    have br5 := tu_b_e0 br5
    refine tu_iconst 8 X dX4_line_8 ?_
    refine hret 9 _ _ (-1) dX4_line_9 (fun h => by rw [hrt] at h; cases h) ?_
    exact ⟨_, tu_sd.rf _, Or.inl (⟨by omega, rfl⟩), rfl⟩
