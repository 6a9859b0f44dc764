theorem tu_nv_big {x : Int} : tu_nv x = 1000000000 ↔ 1000000 ≤ x := by unfold tu_nv; split <;> omega
theorem tu_fit_use {L a k r c C W U : Nat → Int} {n m : Nat} {w y : Int} (h : tu_AT1 L a k r c n m 0 0 C W U) (hy : (c 0 = 1000000 ∧ (((w = 1 ∨ w = 2) ∧ y = 0) ∨ ((w = 0 ∨ w = 3 ∨ w = 4) ∧ y = -6))) ∨ (c 0 < 1000000 ∧ ((w = 0 ∧ y = c 0) ∨ (w = 1 ∧ ∃ v, tu_Vx L a k r c 0 n m v ∧ y = v 0) ∨ (w = 2 ∧ ∃ v, tu_Vx L a k r c 1 n m v ∧ y = v 0) ∨ (w = 3 ∧ y = tu_fb L a k r c n m) ∨ (w = 4 ∧ y = tu_hs L a k r c n m)))) :
    (1000000 ≤ c 0 ∧ ((w = 0 → y = -6) ∧ (w = 1 → y = W 0) ∧ (w = 2 → y = U 0) ∧ (w = 3 → y = -6) ∧ (w = 4 → y = -6))) ∨ (c 0 < 1000000 ∧ ((w = 0 → y = c 0) ∧ (w = 1 → y = W 0) ∧ (w = 2 → y = U 0) ∧ (w = 3 → y = tu_fb L a k r c n m) ∧ (w = 4 → y = tu_hs L a k r c n m))) := by
  obtain ⟨-, -, hz, hw, hu⟩ := h
  rcases hy with ⟨y1, y2⟩ | ⟨y1, y2⟩
  · have z := hz (show 1000000 ≤ c 0 by omega)
    have z1 : W 0 = 0 := z.1
    have z2 : U 0 = 0 := z.2
    left
    omega
  · right
    rcases y2 with ⟨y2, y3⟩ | ⟨y2, v, hv, y3⟩ | ⟨y2, v, hv, y3⟩ | ⟨y2, y3⟩ | ⟨y2, y3⟩
    · omega
    · have z : W 0 = v 0 := hw v hv
      omega
    · have z : U 0 = v 0 := hu v hv y1
      omega
    · omega
    · omega
set_option maxRecDepth 20000 in
set_option maxHeartbeats 400000 in
theorem c_X4_line {M : tu_M} (B : Nat → Nat → Int) (l w : Int) (hO : tu_BO B) (hR : tu_MB B (M 87)) (rl : tu_rg l) (rw : tu_rg w) : tu_MI tu_Y_X4_line [tu_r 86, tu_i l, tu_i w] M (fun z M' => ∃ (y : Int), (tu_sd M M') ∧ (((¬ (0 ≤ l ∧ l < B 0 1)) ∧ y = -1) ∨ (((0 ≤ l ∧ l < B 0 1) ∧ w = 0) ∧ y = B 2 l.toNat) ∨ (((0 ≤ l ∧ l < B 0 1) ∧ w = 1) ∧ y = tu_sm (fun q => B 3 (l.toNat * 16 + q)) (B 2 l.toNat).toNat) ∨ (((0 ≤ l ∧ l < B 0 1) ∧ w = 2) ∧ y = tu_ti (B 6) l (B 0 7).toNat) ∨ (((0 ≤ l ∧ l < B 0 1) ∧ w = 3 ∧ 2 ≤ tu_ti (B 6) l (B 0 7).toNat) ∧ y = 1) ∨ (((0 ≤ l ∧ l < B 0 1) ∧ w = 3 ∧ tu_ti (B 6) l (B 0 7).toNat < 2) ∧ y = 0) ∨ (((0 ≤ l ∧ l < B 0 1) ∧ w = 4) ∧ y = (tu_bp 1000000 (fun p => tu_co B l.toNat p) (B 0 4).toNat).1) ∨ (((0 ≤ l ∧ l < B 0 1) ∧ (w < 0 ∨ 4 < w)) ∧ y = -2)) ∧ z = y) := by
  have cn := hO.1
  refine tu_MI.of (ty := .int) (by decide) rfl (by first | exact Or.inl rfl | exact Or.inr rfl) (Nat.le_of_ble_eq_true rfl) (fun T (X : tu_X T cX4_line RX4 7 160) hnl hrt hret => ?_)
  have hret : tu_RI T cX4_line (fun z M' => ∃ (y : Int), (tu_sd M M') ∧ (((¬ (0 ≤ l ∧ l < B 0 1)) ∧ y = -1) ∨ (((0 ≤ l ∧ l < B 0 1) ∧ w = 0) ∧ y = B 2 l.toNat) ∨ (((0 ≤ l ∧ l < B 0 1) ∧ w = 1) ∧ y = tu_sm (fun q => B 3 (l.toNat * 16 + q)) (B 2 l.toNat).toNat) ∨ (((0 ≤ l ∧ l < B 0 1) ∧ w = 2) ∧ y = tu_ti (B 6) l (B 0 7).toNat) ∨ (((0 ≤ l ∧ l < B 0 1) ∧ w = 3 ∧ 2 ≤ tu_ti (B 6) l (B 0 7).toNat) ∧ y = 1) ∨ (((0 ≤ l ∧ l < B 0 1) ∧ w = 3 ∧ tu_ti (B 6) l (B 0 7).toNat < 2) ∧ y = 0) ∨ (((0 ≤ l ∧ l < B 0 1) ∧ w = 4) ∧ y = (tu_bp 1000000 (fun p => tu_co B l.toNat p) (B 0 4).toNat).1) ∨ (((0 ≤ l ∧ l < B 0 1) ∧ (w < 0 ∨ 4 < w)) ∧ y = -2)) ∧ z = y) := hret
  have hnl : T.2.2.2.2.2.2.2.2.2.2.1 = 3 := hnl
  show tu_W T 0 [(0, tu_r 86), (1, tu_i l), (2, tu_i w)] [] M
  refine tu_aload_n 0 X 0 dX4_line_0 rfl ?_
  refine tu_iload_n 1 X 1 dX4_line_1 rfl ?_
  refine tu_callVI 2 X (st := []) (as := [tu_i l]) (c_X4_isLine B l (show tu_BO B from by first | assumption | omega | exact ⟨by omega, by omega⟩ | decide) (show tu_MB B (M 87) from by first | assumption | omega | exact ⟨by omega, by omega⟩ | decide) (show tu_rg l from by first | assumption | omega | exact ⟨by omega, by omega⟩ | decide)) sv_RX4_52 dX4_line_2 rfl (by decide) rfl rfl rfl (Nat.le_of_ble_eq_true rfl) ⟨by decide, by decide⟩ (fun z M' h => ?_)
  obtain ⟨hM2, hz2⟩ := h
  refine tu_st_eq rfl (M' := M) hM2 ?_
  refine tu_tp (b := tu_b (0 ≤ l ∧ l < B 0 1)) hz2 ?_
  refine tu_if_ne 5 X 10 dX4_line_5 (by decide) tu_b_rg (fun br5 => ?_) (fun br5 => ?_)
  ·
    have br5 := tu_b_n0 br5
    have hl2 := hO.2.1 l.toNat (by omega)
    have hti := tu_ti_01 (B 6) l (B 0 7).toNat
    refine tu_iload_n 10 X 2 dX4_line_10 rfl ?_
    rcases (show w = 0 ∨ w = 1 ∨ w = 2 ∨ w = 3 ∨ w = 4 ∨ (w < 0 ∨ 4 < w) from by omega) with br11 | br11 | br11 | br11 | br11 | br11
    ·
      refine tu_tabIn 11 X 44 dX4_line_11 (show tu_rg w from by first | assumption | exact ⟨by omega, by omega⟩) (by omega) (by omega) (by rw [br11]; rfl) (by decide) ?_
      refine tu_aload_n 44 X 0 dX4_line_44 rfl ?_
      refine tu_iload_n 45 X 1 dX4_line_45 rfl ?_
      refine tu_st_eq (show _ = [tu_i ((l.toNat : Nat) : Int), tu_r 86] from by first | rfl | (simp only [List.cons.injEq, Sum.inl.injEq, and_true, true_and]; omega)) rfl ?_
      refine tu_callVI 46 X (st := []) (as := [tu_i ((l.toNat : Nat) : Int)]) (c_X4_lineLength B l.toNat (show tu_BO B from by first | assumption | omega | exact ⟨by omega, by omega⟩ | decide) (show tu_MB B (M 87) from by first | assumption | omega | exact ⟨by omega, by omega⟩ | decide) (show (l.toNat : Int) < B 0 1 from by first | assumption | omega | exact ⟨by omega, by omega⟩ | decide)) sv_RX4_56 dX4_line_46 rfl (by decide) rfl rfl rfl (Nat.le_of_ble_eq_true rfl) ⟨by decide, by decide⟩ (fun z M' h => ?_)
      obtain ⟨hM46, hz46⟩ := h
      refine tu_st_eq rfl (M' := M) hM46 ?_
      refine tu_tp (b := (B 2 l.toNat)) hz46 ?_
      refine hret 49 _ _ (B 2 l.toNat) dX4_line_49 (fun h => by rw [hrt] at h; cases h) ?_
      exact ⟨_, tu_sd.rf _, Or.inr (Or.inl (⟨by omega, rfl⟩)), rfl⟩
    ·
      refine tu_tabIn 11 X 50 dX4_line_11 (show tu_rg w from by first | assumption | exact ⟨by omega, by omega⟩) (by omega) (by omega) (by rw [br11]; rfl) (by decide) ?_
      refine tu_aload_n 50 X 0 dX4_line_50 rfl ?_
      refine tu_getR 51 X dX4_line_51 fl_RX4_7 (by decide) rfl rfl ?_
      refine tu_bipush 54 X dX4_line_54 (by decide) ?_
      refine tu_iconst 56 X dX4_line_56 ?_
      refine tu_iload_n 57 X 1 dX4_line_57 rfl ?_
      refine tu_imul 58 X dX4_line_58 ?_
      refine tu_iadd 59 X dX4_line_59 ?_
      refine tu_iconst 60 X dX4_line_60 ?_
      refine tu_iadd 61 X dX4_line_61 ?_
      refine tu_iald 62 X (x := M 87 (((8 + (2 * l)) + 1).toNat)) (((8 + (2 * l)) + 1).toNat) dX4_line_62 (by decide) rfl (by decide) (by omega) (by omega) rfl ?_
      refine tu_callSI 63 X (st := []) (as := [tu_i (M 87 (((8 + (2 * l)) + 1).toNat))]) (c_X4_bits (M 87 (((8 + (2 * l)) + 1).toNat)) ) ss_RX4_125 dX4_line_63 rfl (Nat.le_of_ble_eq_true rfl) ⟨by decide, by decide⟩ (fun z M' h => ?_)
      obtain ⟨hM63, hz63⟩ := h
      refine tu_st_eq rfl (M' := M) hM63 ?_
      refine tu_tp (b := (tu_sm (fun i9 => tu_bi (M 87 (((8 + (2 * l)) + 1).toNat)) i9) 24)) hz63 ?_
      refine tu_tp (b := (tu_sm (fun q => B 3 (l.toNat * 16 + q)) (B 2 l.toNat).toNat)) (by rw [show (((8 + (2 * l)) + 1)).toNat = 8 + 2 * l.toNat + 1 from by omega]; exact tu_bits_s (hR.st l.toNat (by omega)) (by omega) (fun i hi => hO.2.2.1 l.toNat i (by omega) (by omega))) ?_
      refine hret 66 _ _ (tu_sm (fun q => B 3 (l.toNat * 16 + q)) (B 2 l.toNat).toNat) dX4_line_66 (fun h => by rw [hrt] at h; cases h) ?_
      exact ⟨_, tu_sd.rf _, Or.inr (Or.inr (Or.inl (⟨by omega, rfl⟩))), rfl⟩
    ·
      refine tu_tabIn 11 X 67 dX4_line_11 (show tu_rg w from by first | assumption | exact ⟨by omega, by omega⟩) (by omega) (by omega) (by rw [br11]; rfl) (by decide) ?_
      refine tu_aload_n 67 X 0 dX4_line_67 rfl ?_
      refine tu_iload_n 68 X 1 dX4_line_68 rfl ?_
      refine tu_callVI 69 X (st := []) (as := [tu_i l]) (c_X4_sungTimes B l (show tu_BO B from by first | assumption | omega | exact ⟨by omega, by omega⟩ | decide) (show tu_MB B (M 87) from by first | assumption | omega | exact ⟨by omega, by omega⟩ | decide) (show tu_rg l from by first | assumption | omega | exact ⟨by omega, by omega⟩ | decide)) sv_RX4_169 dX4_line_69 rfl (by decide) rfl rfl rfl (Nat.le_of_ble_eq_true rfl) ⟨by decide, by decide⟩ (fun z M' h => ?_)
      obtain ⟨hM69, hz69⟩ := h
      refine tu_st_eq rfl (M' := M) hM69 ?_
      refine tu_tp (b := (tu_ti (B 6) l (B 0 7).toNat)) hz69 ?_
      refine hret 72 _ _ (tu_ti (B 6) l (B 0 7).toNat) dX4_line_72 (fun h => by rw [hrt] at h; cases h) ?_
      exact ⟨_, tu_sd.rf _, Or.inr (Or.inr (Or.inr (Or.inl (⟨by omega, rfl⟩)))), rfl⟩
    ·
      refine tu_tabIn 11 X 73 dX4_line_11 (show tu_rg w from by first | assumption | exact ⟨by omega, by omega⟩) (by omega) (by omega) (by rw [br11]; rfl) (by decide) ?_
      refine tu_aload_n 73 X 0 dX4_line_73 rfl ?_
      refine tu_iload_n 74 X 1 dX4_line_74 rfl ?_
      refine tu_callVI 75 X (st := []) (as := [tu_i l]) (c_X4_sungTimes B l (show tu_BO B from by first | assumption | omega | exact ⟨by omega, by omega⟩ | decide) (show tu_MB B (M 87) from by first | assumption | omega | exact ⟨by omega, by omega⟩ | decide) (show tu_rg l from by first | assumption | omega | exact ⟨by omega, by omega⟩ | decide)) sv_RX4_169 dX4_line_75 rfl (by decide) rfl rfl rfl (Nat.le_of_ble_eq_true rfl) ⟨by decide, by decide⟩ (fun z M' h => ?_)
      obtain ⟨hM75, hz75⟩ := h
      refine tu_st_eq rfl (M' := M) hM75 ?_
      refine tu_tp (b := (tu_ti (B 6) l (B 0 7).toNat)) hz75 ?_
      refine tu_iconst 78 X dX4_line_78 ?_
      refine tu_icmp_le 79 X 86 dX4_line_79 (by decide) (show tu_rg (tu_ti (B 6) l (B 0 7).toNat) from by first | assumption | exact ⟨by omega, by omega⟩) ⟨by decide, by decide⟩ (fun br79 => ?_) (fun br79 => ?_)
      ·
        refine tu_iconst 86 X dX4_line_86 ?_
        refine hret 87 _ _ 0 dX4_line_87 (fun h => by rw [hrt] at h; cases h) ?_
        first | exact ⟨_, tu_sd.rf _, Or.inr (Or.inr (Or.inr (Or.inr (Or.inl (⟨by omega, rfl⟩))))), rfl⟩ | exact ⟨_, tu_sd.rf _, Or.inr (Or.inr (Or.inr (Or.inr (Or.inr (Or.inl (⟨by omega, rfl⟩)))))), rfl⟩
      ·
        refine tu_iconst 82 X dX4_line_82 ?_
        refine tu_goto 83 X 87 dX4_line_83 (by decide) ?_
        refine hret 87 _ _ 1 dX4_line_87 (fun h => by rw [hrt] at h; cases h) ?_
        first | exact ⟨_, tu_sd.rf _, Or.inr (Or.inr (Or.inr (Or.inr (Or.inl (⟨by omega, rfl⟩))))), rfl⟩ | exact ⟨_, tu_sd.rf _, Or.inr (Or.inr (Or.inr (Or.inr (Or.inr (Or.inl (⟨by omega, rfl⟩)))))), rfl⟩
    ·
      refine tu_tabIn 11 X 88 dX4_line_11 (show tu_rg w from by first | assumption | exact ⟨by omega, by omega⟩) (by omega) (by omega) (by rw [br11]; rfl) (by decide) ?_
      refine tu_aload_n 88 X 0 dX4_line_88 rfl ?_
      refine tu_iload_n 89 X 1 dX4_line_89 rfl ?_
      refine tu_st_eq (show _ = [tu_i ((l.toNat : Nat) : Int), tu_r 86] from by first | rfl | (simp only [List.cons.injEq, Sum.inl.injEq, and_true, true_and]; omega)) rfl ?_
      refine tu_callVI 90 X (st := []) (as := [tu_i ((l.toNat : Nat) : Int)]) (c_X4_cheapestPhrase B l.toNat (show tu_BO B from by first | assumption | omega | exact ⟨by omega, by omega⟩ | decide) (show tu_MB B (M 87) from by first | assumption | omega | exact ⟨by omega, by omega⟩ | decide) (show (l.toNat : Int) < B 0 1 from by first | assumption | omega | exact ⟨by omega, by omega⟩ | decide)) sv_RX4_172 dX4_line_90 rfl (by decide) rfl rfl rfl (Nat.le_of_ble_eq_true rfl) ⟨by decide, by decide⟩ (fun z M' h => ?_)
      obtain ⟨r9_90, C_90, W_90, U_90, hM90, h90_0, hz90⟩ := h
      refine tu_st_eq rfl (M' := tu_row (tu_row (tu_row (tu_row M 86 r9_90) 92 C_90) 93 W_90) 94 U_90) hM90 ?_
      refine tu_tp (b := ((tu_bp 1000000 (fun p => tu_co B l.toNat p) (B 0 4).toNat).1)) hz90 ?_
      refine hret 93 _ _ ((tu_bp 1000000 (fun p => tu_co B l.toNat p) (B 0 4).toNat).1) dX4_line_93 (fun h => by rw [hrt] at h; cases h) ?_
      exact ⟨_, ((((tu_sd.rf _).r86 h90_0).row _ (by decide)).row _ (by decide)).row _ (by decide), Or.inr (Or.inr (Or.inr (Or.inr (Or.inr (Or.inr (Or.inl (⟨by omega, rfl⟩))))))), rfl⟩
    ·
      refine tu_tabOut 11 X 94 dX4_line_11 (show tu_rg w from by first | assumption | exact ⟨by omega, by omega⟩) br11 (by decide) ?_
      refine tu_bipush 94 X dX4_line_94 (by decide) ?_
      refine hret 96 _ _ (-2) dX4_line_96 (fun h => by rw [hrt] at h; cases h) ?_
      exact ⟨_, tu_sd.rf _, Or.inr (Or.inr (Or.inr (Or.inr (Or.inr (Or.inr (Or.inr (⟨by omega, rfl⟩))))))), rfl⟩
  ·
    have br5 := tu_b_e0 br5
    refine tu_iconst 8 X dX4_line_8 ?_
    refine hret 9 _ _ (-1) dX4_line_9 (fun h => by rw [hrt] at h; cases h) ?_
    exact ⟨_, tu_sd.rf _, Or.inl (⟨by omega, rfl⟩), rfl⟩
set_option maxRecDepth 20000 in
set_option maxHeartbeats 400000 in
theorem c_X4_fit {M : tu_M} (B : Nat → Nat → Int) (l p w y9 : Int) (hO : tu_BO B) (hR : tu_MB B (M 87)) (rl : tu_rg l) (rp : tu_rg p) (rw : tu_rg w) (hF : (((0 ≤ l ∧ l < B 0 1) ∧ 0 ≤ p ∧ p < B 0 4) ∧ 0 ≤ w ∧ w ≤ 4) → tu_FX B l.toNat p.toNat w y9) : tu_MI tu_Y_X4_fit [tu_r 86, tu_i l, tu_i p, tu_i w] M (fun z M' => ∃ (y : Int), (tu_sd M M') ∧ (((¬ ((0 ≤ l ∧ l < B 0 1) ∧ 0 ≤ p ∧ p < B 0 4)) ∧ y = -1) ∨ ((((0 ≤ l ∧ l < B 0 1) ∧ 0 ≤ p ∧ p < B 0 4) ∧ ¬ (0 ≤ w ∧ w ≤ 4)) ∧ y = -2) ∨ ((((0 ≤ l ∧ l < B 0 1) ∧ 0 ≤ p ∧ p < B 0 4) ∧ 0 ≤ w ∧ w ≤ 4) ∧ y = y9)) ∧ z = y) := by
  have cn := hO.1
  refine tu_MI.of (ty := .int) (by decide) rfl (by first | exact Or.inl rfl | exact Or.inr rfl) (Nat.le_of_ble_eq_true rfl) (fun T (X : tu_X T cX4_fit RX4 6 135) hnl hrt hret => ?_)
  have hret : tu_RI T cX4_fit (fun z M' => ∃ (y : Int), (tu_sd M M') ∧ (((¬ ((0 ≤ l ∧ l < B 0 1) ∧ 0 ≤ p ∧ p < B 0 4)) ∧ y = -1) ∨ ((((0 ≤ l ∧ l < B 0 1) ∧ 0 ≤ p ∧ p < B 0 4) ∧ ¬ (0 ≤ w ∧ w ≤ 4)) ∧ y = -2) ∨ ((((0 ≤ l ∧ l < B 0 1) ∧ 0 ≤ p ∧ p < B 0 4) ∧ 0 ≤ w ∧ w ≤ 4) ∧ y = y9)) ∧ z = y) := hret
  have hnl : T.2.2.2.2.2.2.2.2.2.2.1 = 5 := hnl
  show tu_W T 0 [(0, tu_r 86), (1, tu_i l), (2, tu_i p), (3, tu_i w)] [] M
  refine tu_aload_n 0 X 0 dX4_fit_0 rfl ?_
  refine tu_iload_n 1 X 1 dX4_fit_1 rfl ?_
  refine tu_callVI 2 X (st := []) (as := [tu_i l]) (c_X4_isLine B l (show tu_BO B from by first | assumption | omega | exact ⟨by omega, by omega⟩ | decide) (show tu_MB B (M 87) from by first | assumption | omega | exact ⟨by omega, by omega⟩ | decide) (show tu_rg l from by first | assumption | omega | exact ⟨by omega, by omega⟩ | decide)) sv_RX4_52 dX4_fit_2 rfl (by decide) rfl rfl rfl (Nat.le_of_ble_eq_true rfl) ⟨by decide, by decide⟩ (fun z M' h => ?_)
  obtain ⟨hM2, hz2⟩ := h
  refine tu_st_eq rfl (M' := M) hM2 ?_
  refine tu_tp (b := tu_b (0 ≤ l ∧ l < B 0 1)) hz2 ?_
  refine tu_if_eq 5 X 16 dX4_fit_5 (by decide) tu_b_rg (fun br5 => ?_) (fun br5 => ?_)
  ·
    have br5 := tu_b_e0 br5
    refine tu_iconst 16 X dX4_fit_16 ?_
    refine hret 17 _ _ (-1) dX4_fit_17 (fun h => by rw [hrt] at h; cases h) ?_
    exact ⟨_, tu_sd.rf _, Or.inl (⟨by omega, rfl⟩), rfl⟩
  ·
    have br5 := tu_b_n0 br5
    refine tu_aload_n 8 X 0 dX4_fit_8 rfl ?_
    refine tu_iload_n 9 X 2 dX4_fit_9 rfl ?_
    refine tu_callVI 10 X (st := []) (as := [tu_i p]) (c_X4_isPhrase B p (show tu_BO B from by first | assumption | omega | exact ⟨by omega, by omega⟩ | decide) (show tu_MB B (M 87) from by first | assumption | omega | exact ⟨by omega, by omega⟩ | decide) (show tu_rg p from by first | assumption | omega | exact ⟨by omega, by omega⟩ | decide)) sv_RX4_60 dX4_fit_10 rfl (by decide) rfl rfl rfl (Nat.le_of_ble_eq_true rfl) ⟨by decide, by decide⟩ (fun z M' h => ?_)
    obtain ⟨hM10, hz10⟩ := h
    refine tu_st_eq rfl (M' := M) hM10 ?_
    refine tu_tp (b := tu_b (0 ≤ p ∧ p < B 0 4)) hz10 ?_
    refine tu_if_ne 13 X 18 dX4_fit_13 (by decide) tu_b_rg (fun br13 => ?_) (fun br13 => ?_)
    ·
      have br13 := tu_b_n0 br13
      refine tu_iload_n 18 X 3 dX4_fit_18 rfl ?_
      refine tu_iconst 19 X dX4_fit_19 ?_
      refine tu_iconst 20 X dX4_fit_20 ?_
      refine tu_callSI 21 X (st := []) (as := [tu_i w, tu_i 0, tu_i 4]) (c_X4_within w 0 4 (show tu_rg w from by first | assumption | omega | exact ⟨by omega, by omega⟩ | decide) (show tu_rg 0 from by first | assumption | omega | exact ⟨by omega, by omega⟩ | decide) (show tu_rg 4 from by first | assumption | omega | exact ⟨by omega, by omega⟩ | decide)) ss_RX4_48 dX4_fit_21 rfl (Nat.le_of_ble_eq_true rfl) ⟨by decide, by decide⟩ (fun z M' h => ?_)
      obtain ⟨hM21, hz21⟩ := h
      refine tu_st_eq rfl (M' := M) hM21 ?_
      refine tu_tp (b := tu_b (0 ≤ w ∧ w ≤ 4)) hz21 ?_
      refine tu_if_ne 24 X 30 dX4_fit_24 (by decide) tu_b_rg (fun br24 => ?_) (fun br24 => ?_)
      ·
        have br24 := tu_b_n0 br24
        obtain ⟨L, a, k, r, c, hK, hTK, hT, hy⟩ := hF ⟨by omega, by omega⟩
        have ecr := hT.rg hK
        have bz := tu_nv_rg ecr.1
        have hst : M 87 1 = L 1 ∧ M 87 2 = L 2 ∧ M 87 3 = L 3 := ⟨(hR.set 1 (by decide)).trans hTK.1.2.1.symm, (hR.set 2 (by decide)).trans hTK.1.2.2.1.symm, (hR.set 3 (by decide)).trans hTK.1.2.2.2.symm⟩
        refine tu_aload_n 30 X 0 dX4_fit_30 rfl ?_
        refine tu_iload_n 31 X 1 dX4_fit_31 rfl ?_
        refine tu_iload_n 32 X 2 dX4_fit_32 rfl ?_
        refine tu_st_eq (show _ = [tu_i ((p.toNat : Nat) : Int), tu_i ((l.toNat : Nat) : Int), tu_r 86] from by first | rfl | (simp only [List.cons.injEq, Sum.inl.injEq, and_true, true_and]; omega)) rfl ?_
        refine tu_callVI 33 X (st := []) (as := [tu_i ((l.toNat : Nat) : Int), tu_i ((p.toNat : Nat) : Int)]) (c_X4_costOf B L a k r c l.toNat p.toNat (show tu_BO B from by first | assumption | omega | exact ⟨by omega, by omega⟩ | decide) (show tu_MB B (M 87) from by first | assumption | omega | exact ⟨by omega, by omega⟩ | decide) (show (l.toNat : Int) < B 0 1 from by first | assumption | omega | exact ⟨by omega, by omega⟩ | decide) (show (p.toNat : Int) < B 0 4 from by first | assumption | omega | exact ⟨by omega, by omega⟩ | decide) (show tu_LK L a k r (tu_nl B l.toNat) (tu_np B p.toNat) from by first | assumption | omega | exact ⟨by omega, by omega⟩ | decide) (show tu_TK B l.toNat p.toNat L a k from by first | assumption | omega | exact ⟨by omega, by omega⟩ | decide) (show tu_Tx L a k r (tu_nl B l.toNat) (tu_np B p.toNat) c from by first | assumption | omega | exact ⟨by omega, by omega⟩ | decide)) sv_RX4_166 dX4_fit_33 rfl (by decide) rfl rfl rfl (Nat.le_of_ble_eq_true rfl) ⟨by decide, by decide⟩ (fun z M' h => ?_)
        obtain ⟨r9_33, C_33, W_33, U_33, hM33, h33_0, h33_1, h33_2, hz33⟩ := h
        refine tu_st_eq rfl (M' := tu_row (tu_row (tu_row (tu_row M 86 r9_33) 92 C_33) 93 W_33) 94 U_33) hM33 ?_
        refine tu_tp (b := (tu_nv (c 0))) hz33 ?_
        have h00 := h33_2 0 0 (Nat.zero_le _) (Nat.zero_le _) (Or.inl (by omega))
        have hyy := tu_fit_use h00 hy
        have e0 : C_33 0 = tu_nv (c 0) := h00.1
        have hnv : tu_nv (c 0) = 1000000000 ↔ 1000000 ≤ c 0 := tu_nv_big
        have hnv2 : c 0 < 1000000 → tu_nv (c 0) = c 0 := tu_nv_lo
        refine tu_ldc 36 X (n := 1000000000) dX4_fit_36 kw_RX4_88 (by decide) ?_
        refine tu_icmp_eq 38 X 45 dX4_fit_38 (by decide) (show tu_rg (tu_nv (c 0)) from by first | assumption | exact ⟨by omega, by omega⟩) ⟨by decide, by decide⟩ (fun br38 => ?_) (fun br38 => ?_)
        ·
          refine tu_iconst 45 X dX4_fit_45 ?_
          refine tu_istore 46 X (lv' := [(4, tu_i 0), (0, tu_r 86), (1, tu_i l), (2, tu_i p), (3, tu_i w)]) dX4_fit_46 (by rw [hnl]; decide) rfl ?_
          refine tu_iload_n 48 X 4 dX4_fit_48 rfl ?_
          rcases (show w = 0 ∨ w = 1 ∨ w = 2 ∨ w = 3 ∨ (w < 0 ∨ 3 < w) from by omega) with br49 | br49 | br49 | br49 | br49
          ·
            refine tu_tabIn 49 X 80 dX4_fit_49 (show tu_rg w from by first | assumption | exact ⟨by omega, by omega⟩) (by omega) (by omega) (by rw [br49]; rfl) (by decide) ?_
            refine tu_iload 80 X 0 dX4_fit_80 rfl ?_
            refine tu_if_eq 82 X 94 dX4_fit_82 (by decide) ⟨by decide, by decide⟩ (fun br82 => ?_) (fun br82 => ?_)
            ·
              refine tu_bipush 94 X dX4_fit_94 (by decide) ?_
              refine hret 96 _ _ (-6) dX4_fit_96 (fun h => by rw [hrt] at h; cases h) ?_
              first | exact ⟨_, ((((tu_sd.rf _).r86 h33_1).row _ (by decide)).row _ (by decide)).row _ (by decide), Or.inr (Or.inr (⟨by omega, by omega⟩)), rfl⟩
            ·
              exfalso; omega
          ·
            refine tu_tabIn 49 X 97 dX4_fit_49 (show tu_rg w from by first | assumption | exact ⟨by omega, by omega⟩) (by omega) (by omega) (by rw [br49]; rfl) (by decide) ?_
            refine tu_aload_n 97 X 1 dX4_fit_97 rfl ?_
            refine tu_getR 98 X dX4_fit_98 fl_RX4_28 (by decide) rfl rfl ?_
            refine tu_iconst 101 X dX4_fit_101 ?_
            refine tu_iald 102 X (x := W_33 0) 0 dX4_fit_102 (by decide) rfl (by decide) rfl (by decide) rfl ?_
            refine hret 103 _ _ (W_33 0) dX4_fit_103 (fun h => by rw [hrt] at h; cases h) ?_
            exact ⟨_, ((((tu_sd.rf _).r86 h33_1).row _ (by decide)).row _ (by decide)).row _ (by decide), Or.inr (Or.inr (⟨by omega, by omega⟩)), rfl⟩
          ·
            refine tu_tabIn 49 X 104 dX4_fit_49 (show tu_rg w from by first | assumption | exact ⟨by omega, by omega⟩) (by omega) (by omega) (by rw [br49]; rfl) (by decide) ?_
            refine tu_aload_n 104 X 1 dX4_fit_104 rfl ?_
            refine tu_getR 105 X dX4_fit_105 fl_RX4_31 (by decide) rfl rfl ?_
            refine tu_iconst 108 X dX4_fit_108 ?_
            refine tu_iald 109 X (x := U_33 0) 0 dX4_fit_109 (by decide) rfl (by decide) rfl (by decide) rfl ?_
            refine hret 110 _ _ (U_33 0) dX4_fit_110 (fun h => by rw [hrt] at h; cases h) ?_
            exact ⟨_, ((((tu_sd.rf _).r86 h33_1).row _ (by decide)).row _ (by decide)).row _ (by decide), Or.inr (Or.inr (⟨by omega, by omega⟩)), rfl⟩
          ·
            refine tu_tabIn 49 X 111 dX4_fit_49 (show tu_rg w from by first | assumption | exact ⟨by omega, by omega⟩) (by omega) (by omega) (by rw [br49]; rfl) (by decide) ?_
            refine tu_iload 111 X 0 dX4_fit_111 rfl ?_
            refine tu_if_eq 113 X 123 dX4_fit_113 (by decide) ⟨by decide, by decide⟩ (fun br113 => ?_) (fun br113 => ?_)
            ·
              refine tu_bipush 123 X dX4_fit_123 (by decide) ?_
              refine hret 125 _ _ (-6) dX4_fit_125 (fun h => by rw [hrt] at h; cases h) ?_
              first | exact ⟨_, ((((tu_sd.rf _).r86 h33_1).row _ (by decide)).row _ (by decide)).row _ (by decide), Or.inr (Or.inr (⟨by omega, by omega⟩)), rfl⟩ | exact ⟨_, ((((((tu_sd.rf _).r86 h33_1).row _ (by decide)).row _ (by decide)).row _ (by decide)).row _ (by decide)).row _ (by decide), Or.inr (Or.inr (⟨by omega, by omega⟩)), rfl⟩
            ·
              exfalso; omega
          ·
            refine tu_tabOut 49 X 126 dX4_fit_49 (show tu_rg w from by first | assumption | exact ⟨by omega, by omega⟩) br49 (by decide) ?_
            refine tu_iload 126 X 0 dX4_fit_126 rfl ?_
            refine tu_if_eq 128 X 138 dX4_fit_128 (by decide) ⟨by decide, by decide⟩ (fun br128 => ?_) (fun br128 => ?_)
            ·
              refine tu_bipush 138 X dX4_fit_138 (by decide) ?_
              refine hret 140 _ _ (-6) dX4_fit_140 (fun h => by rw [hrt] at h; cases h) ?_
              first | exact ⟨_, ((((tu_sd.rf _).r86 h33_1).row _ (by decide)).row _ (by decide)).row _ (by decide), Or.inr (Or.inr (⟨by omega, by omega⟩)), rfl⟩ | exact ⟨_, ((((((tu_sd.rf _).r86 h33_1).row _ (by decide)).row _ (by decide)).row _ (by decide)).row _ (by decide)).row _ (by decide), Or.inr (Or.inr (⟨by omega, by omega⟩)), rfl⟩
            ·
              exfalso; omega
        ·
          refine tu_iconst 41 X dX4_fit_41 ?_
          refine tu_goto 42 X 46 dX4_fit_42 (by decide) ?_
          refine tu_istore 46 X (lv' := [(4, tu_i 1), (0, tu_r 86), (1, tu_i l), (2, tu_i p), (3, tu_i w)]) dX4_fit_46 (by rw [hnl]; decide) rfl ?_
          refine tu_iload_n 48 X 4 dX4_fit_48 rfl ?_
          rcases (show w = 0 ∨ w = 1 ∨ w = 2 ∨ w = 3 ∨ (w < 0 ∨ 3 < w) from by omega) with br49 | br49 | br49 | br49 | br49
          ·
            refine tu_tabIn 49 X 80 dX4_fit_49 (show tu_rg w from by first | assumption | exact ⟨by omega, by omega⟩) (by omega) (by omega) (by rw [br49]; rfl) (by decide) ?_
            refine tu_iload 80 X 0 dX4_fit_80 rfl ?_
            refine tu_if_eq 82 X 94 dX4_fit_82 (by decide) ⟨by decide, by decide⟩ (fun br82 => ?_) (fun br82 => ?_)
            ·
              exfalso; omega
            ·
              refine tu_aload_n 85 X 1 dX4_fit_85 rfl ?_
              refine tu_getR 86 X dX4_fit_86 fl_RX4_25 (by decide) rfl rfl ?_
              refine tu_iconst 89 X dX4_fit_89 ?_
              refine tu_iald 90 X (x := C_33 0) 0 dX4_fit_90 (by decide) rfl (by decide) rfl (by decide) rfl ?_
              refine tu_goto 91 X 96 dX4_fit_91 (by decide) ?_
              refine hret 96 _ _ (C_33 0) dX4_fit_96 (fun h => by rw [hrt] at h; cases h) ?_
              first | exact ⟨_, ((((tu_sd.rf _).r86 h33_1).row _ (by decide)).row _ (by decide)).row _ (by decide), Or.inr (Or.inr (⟨by omega, by omega⟩)), rfl⟩
          ·
            refine tu_tabIn 49 X 97 dX4_fit_49 (show tu_rg w from by first | assumption | exact ⟨by omega, by omega⟩) (by omega) (by omega) (by rw [br49]; rfl) (by decide) ?_
            refine tu_aload_n 97 X 1 dX4_fit_97 rfl ?_
            refine tu_getR 98 X dX4_fit_98 fl_RX4_28 (by decide) rfl rfl ?_
            refine tu_iconst 101 X dX4_fit_101 ?_
            refine tu_iald 102 X (x := W_33 0) 0 dX4_fit_102 (by decide) rfl (by decide) rfl (by decide) rfl ?_
            refine hret 103 _ _ (W_33 0) dX4_fit_103 (fun h => by rw [hrt] at h; cases h) ?_
            exact ⟨_, ((((tu_sd.rf _).r86 h33_1).row _ (by decide)).row _ (by decide)).row _ (by decide), Or.inr (Or.inr (⟨by omega, by omega⟩)), rfl⟩
          ·
            refine tu_tabIn 49 X 104 dX4_fit_49 (show tu_rg w from by first | assumption | exact ⟨by omega, by omega⟩) (by omega) (by omega) (by rw [br49]; rfl) (by decide) ?_
            refine tu_aload_n 104 X 1 dX4_fit_104 rfl ?_
            refine tu_getR 105 X dX4_fit_105 fl_RX4_31 (by decide) rfl rfl ?_
            refine tu_iconst 108 X dX4_fit_108 ?_
            refine tu_iald 109 X (x := U_33 0) 0 dX4_fit_109 (by decide) rfl (by decide) rfl (by decide) rfl ?_
            refine hret 110 _ _ (U_33 0) dX4_fit_110 (fun h => by rw [hrt] at h; cases h) ?_
            exact ⟨_, ((((tu_sd.rf _).r86 h33_1).row _ (by decide)).row _ (by decide)).row _ (by decide), Or.inr (Or.inr (⟨by omega, by omega⟩)), rfl⟩
          ·
            refine tu_tabIn 49 X 111 dX4_fit_49 (show tu_rg w from by first | assumption | exact ⟨by omega, by omega⟩) (by omega) (by omega) (by rw [br49]; rfl) (by decide) ?_
            refine tu_iload 111 X 0 dX4_fit_111 rfl ?_
            refine tu_if_eq 113 X 123 dX4_fit_113 (by decide) ⟨by decide, by decide⟩ (fun br113 => ?_) (fun br113 => ?_)
            ·
              exfalso; omega
            ·
              refine tu_aload_n 116 X 1 dX4_fit_116 rfl ?_
              refine tu_callVI 117 X (st := []) (as := []) (c_X4_freeBeats L a k r (tu_nl B l.toNat) (tu_np B p.toNat) c (show tu_LM (r9_33) a k (tu_nl B l.toNat) (tu_np B p.toNat) (L 0) from by exact h33_0) (show M 87 1 = L 1 ∧ M 87 2 = L 2 ∧ M 87 3 = L 3 from by exact hst) (show tu_LK L a k r (tu_nl B l.toNat) (tu_np B p.toNat) from by exact hK) (show tu_Tx L a k r (tu_nl B l.toNat) (tu_np B p.toNat) c from by exact hT) (show tu_AD L a k r c (tu_nl B l.toNat) (tu_np B p.toNat) ((tu_nl B l.toNat) + 1) 0 (C_33) (W_33) (U_33) from by exact h33_2) (show c 0 < 1000000 from by omega)) sv_RX4_184 dX4_fit_117 rfl (by decide) rfl rfl rfl (Nat.le_of_ble_eq_true rfl) ⟨by decide, by decide⟩ (fun z M' h => ?_)
              obtain ⟨E_117, F_117, hM117, hz117⟩ := h
              refine tu_st_eq rfl (M' := tu_row (tu_row (tu_row (tu_row (tu_row (tu_row M 86 r9_33) 92 C_33) 93 W_33) 94 U_33) 95 E_117) 96 F_117) hM117 ?_
              refine tu_tp (b := (tu_fb L a k r c (tu_nl B l.toNat) (tu_np B p.toNat))) hz117 ?_
              refine tu_goto 120 X 125 dX4_fit_120 (by decide) ?_
              refine hret 125 _ _ (tu_fb L a k r c (tu_nl B l.toNat) (tu_np B p.toNat)) dX4_fit_125 (fun h => by rw [hrt] at h; cases h) ?_
              first | exact ⟨_, ((((tu_sd.rf _).r86 h33_1).row _ (by decide)).row _ (by decide)).row _ (by decide), Or.inr (Or.inr (⟨by omega, by omega⟩)), rfl⟩ | exact ⟨_, ((((((tu_sd.rf _).r86 h33_1).row _ (by decide)).row _ (by decide)).row _ (by decide)).row _ (by decide)).row _ (by decide), Or.inr (Or.inr (⟨by omega, by omega⟩)), rfl⟩
          ·
            refine tu_tabOut 49 X 126 dX4_fit_49 (show tu_rg w from by first | assumption | exact ⟨by omega, by omega⟩) br49 (by decide) ?_
            refine tu_iload 126 X 0 dX4_fit_126 rfl ?_
            refine tu_if_eq 128 X 138 dX4_fit_128 (by decide) ⟨by decide, by decide⟩ (fun br128 => ?_) (fun br128 => ?_)
            ·
              exfalso; omega
            ·
              refine tu_aload_n 131 X 1 dX4_fit_131 rfl ?_
              refine tu_callVI 132 X (st := []) (as := []) (c_X4_hurting L a k r (tu_nl B l.toNat) (tu_np B p.toNat) c (show tu_LM (r9_33) a k (tu_nl B l.toNat) (tu_np B p.toNat) (L 0) from by exact h33_0) (show M 87 1 = L 1 ∧ M 87 2 = L 2 ∧ M 87 3 = L 3 from by exact hst) (show tu_LK L a k r (tu_nl B l.toNat) (tu_np B p.toNat) from by exact hK) (show tu_Tx L a k r (tu_nl B l.toNat) (tu_np B p.toNat) c from by exact hT) (show tu_AD L a k r c (tu_nl B l.toNat) (tu_np B p.toNat) ((tu_nl B l.toNat) + 1) 0 (C_33) (W_33) (U_33) from by exact h33_2) (show c 0 < 1000000 from by omega)) sv_RX4_187 dX4_fit_132 rfl (by decide) rfl rfl rfl (Nat.le_of_ble_eq_true rfl) ⟨by decide, by decide⟩ (fun z M' h => ?_)
              obtain ⟨E_132, F_132, hM132, hz132⟩ := h
              refine tu_st_eq rfl (M' := tu_row (tu_row (tu_row (tu_row (tu_row (tu_row M 86 r9_33) 92 C_33) 93 W_33) 94 U_33) 95 E_132) 96 F_132) hM132 ?_
              refine tu_tp (b := (tu_hs L a k r c (tu_nl B l.toNat) (tu_np B p.toNat))) hz132 ?_
              refine tu_goto 135 X 140 dX4_fit_135 (by decide) ?_
              refine hret 140 _ _ (tu_hs L a k r c (tu_nl B l.toNat) (tu_np B p.toNat)) dX4_fit_140 (fun h => by rw [hrt] at h; cases h) ?_
              first | exact ⟨_, ((((tu_sd.rf _).r86 h33_1).row _ (by decide)).row _ (by decide)).row _ (by decide), Or.inr (Or.inr (⟨by omega, by omega⟩)), rfl⟩ | exact ⟨_, ((((((tu_sd.rf _).r86 h33_1).row _ (by decide)).row _ (by decide)).row _ (by decide)).row _ (by decide)).row _ (by decide), Or.inr (Or.inr (⟨by omega, by omega⟩)), rfl⟩
      ·
        have br24 := tu_b_e0 br24
        refine tu_bipush 27 X dX4_fit_27 (by decide) ?_
        refine hret 29 _ _ (-2) dX4_fit_29 (fun h => by rw [hrt] at h; cases h) ?_
        exact ⟨_, tu_sd.rf _, Or.inr (Or.inl (⟨by omega, rfl⟩)), rfl⟩
    ·
      have br13 := tu_b_e0 br13
      refine tu_iconst 16 X dX4_fit_16 ?_
      refine hret 17 _ _ (-1) dX4_fit_17 (fun h => by rw [hrt] at h; cases h) ?_
      exact ⟨_, tu_sd.rf _, Or.inl (⟨by omega, rfl⟩), rfl⟩
set_option maxRecDepth 20000 in
set_option maxHeartbeats 400000 in
theorem c_X4_lies {M : tu_M} (B : Nat → Nat → Int) (l p s w y9 : Int) (hO : tu_BO B) (hR : tu_MB B (M 87)) (rl : tu_rg l) (rp : tu_rg p) (rs : tu_rg s) (rw : tu_rg w) (hF : ((((0 ≤ l ∧ l < B 0 1) ∧ 0 ≤ s ∧ s < B 2 l.toNat) ∧ 0 ≤ p ∧ p < B 0 4) ∧ 0 ≤ w ∧ w ≤ 1) → tu_LX B l.toNat p.toNat s.toNat w y9) : tu_MI tu_Y_X4_lies [tu_r 86, tu_i l, tu_i p, tu_i s, tu_i w] M (fun z M' => ∃ (y : Int), (tu_sd M M') ∧ (((¬ (((0 ≤ l ∧ l < B 0 1) ∧ 0 ≤ s ∧ s < B 2 l.toNat) ∧ 0 ≤ p ∧ p < B 0 4)) ∧ y = -1) ∨ (((((0 ≤ l ∧ l < B 0 1) ∧ 0 ≤ s ∧ s < B 2 l.toNat) ∧ 0 ≤ p ∧ p < B 0 4) ∧ ¬ (0 ≤ w ∧ w ≤ 1)) ∧ y = -2) ∨ (((((0 ≤ l ∧ l < B 0 1) ∧ 0 ≤ s ∧ s < B 2 l.toNat) ∧ 0 ≤ p ∧ p < B 0 4) ∧ 0 ≤ w ∧ w ≤ 1) ∧ y = y9)) ∧ z = y) := by
  have cn := hO.1
  refine tu_MI.of (ty := .int) (by decide) rfl (by first | exact Or.inl rfl | exact Or.inr rfl) (Nat.le_of_ble_eq_true rfl) (fun T (X : tu_X T cX4_lies RX4 6 135) hnl hrt hret => ?_)
  have hret : tu_RI T cX4_lies (fun z M' => ∃ (y : Int), (tu_sd M M') ∧ (((¬ (((0 ≤ l ∧ l < B 0 1) ∧ 0 ≤ s ∧ s < B 2 l.toNat) ∧ 0 ≤ p ∧ p < B 0 4)) ∧ y = -1) ∨ (((((0 ≤ l ∧ l < B 0 1) ∧ 0 ≤ s ∧ s < B 2 l.toNat) ∧ 0 ≤ p ∧ p < B 0 4) ∧ ¬ (0 ≤ w ∧ w ≤ 1)) ∧ y = -2) ∨ (((((0 ≤ l ∧ l < B 0 1) ∧ 0 ≤ s ∧ s < B 2 l.toNat) ∧ 0 ≤ p ∧ p < B 0 4) ∧ 0 ≤ w ∧ w ≤ 1) ∧ y = y9)) ∧ z = y) := hret
  have hnl : T.2.2.2.2.2.2.2.2.2.2.1 = 5 := hnl
  show tu_W T 0 [(0, tu_r 86), (1, tu_i l), (2, tu_i p), (3, tu_i s), (4, tu_i w)] [] M
  refine tu_aload_n 0 X 0 dX4_lies_0 rfl ?_
  refine tu_iload_n 1 X 1 dX4_lies_1 rfl ?_
  refine tu_iload_n 2 X 3 dX4_lies_2 rfl ?_
  refine tu_callVI 3 X (st := []) (as := [tu_i l, tu_i s]) (c_X4_isSyllable B l s (show tu_BO B from by first | assumption | omega | exact ⟨by omega, by omega⟩ | decide) (show tu_MB B (M 87) from by first | assumption | omega | exact ⟨by omega, by omega⟩ | decide) (show tu_rg l from by first | assumption | omega | exact ⟨by omega, by omega⟩ | decide) (show tu_rg s from by first | assumption | omega | exact ⟨by omega, by omega⟩ | decide)) sv_RX4_153 dX4_lies_3 rfl (by decide) rfl rfl rfl (Nat.le_of_ble_eq_true rfl) ⟨by decide, by decide⟩ (fun z M' h => ?_)
  obtain ⟨hM3, hz3⟩ := h
  refine tu_st_eq rfl (M' := M) hM3 ?_
  refine tu_tp (b := tu_b (0 ≤ l ∧ l < B 0 1 ∧ 0 ≤ s ∧ s < B 2 l.toNat)) hz3 ?_
  refine tu_if_eq 6 X 17 dX4_lies_6 (by decide) tu_b_rg (fun br6 => ?_) (fun br6 => ?_)
  ·
    have br6 := tu_b_e0 br6
    refine tu_iconst 17 X dX4_lies_17 ?_
    refine hret 18 _ _ (-1) dX4_lies_18 (fun h => by rw [hrt] at h; cases h) ?_
    exact ⟨_, tu_sd.rf _, Or.inl (⟨by omega, rfl⟩), rfl⟩
  ·
    have br6 := tu_b_n0 br6
    refine tu_aload_n 9 X 0 dX4_lies_9 rfl ?_
    refine tu_iload_n 10 X 2 dX4_lies_10 rfl ?_
    refine tu_callVI 11 X (st := []) (as := [tu_i p]) (c_X4_isPhrase B p (show tu_BO B from by first | assumption | omega | exact ⟨by omega, by omega⟩ | decide) (show tu_MB B (M 87) from by first | assumption | omega | exact ⟨by omega, by omega⟩ | decide) (show tu_rg p from by first | assumption | omega | exact ⟨by omega, by omega⟩ | decide)) sv_RX4_60 dX4_lies_11 rfl (by decide) rfl rfl rfl (Nat.le_of_ble_eq_true rfl) ⟨by decide, by decide⟩ (fun z M' h => ?_)
    obtain ⟨hM11, hz11⟩ := h
    refine tu_st_eq rfl (M' := M) hM11 ?_
    refine tu_tp (b := tu_b (0 ≤ p ∧ p < B 0 4)) hz11 ?_
    refine tu_if_ne 14 X 19 dX4_lies_14 (by decide) tu_b_rg (fun br14 => ?_) (fun br14 => ?_)
    ·
      have br14 := tu_b_n0 br14
      refine tu_iload 19 X 4 dX4_lies_19 rfl ?_
      refine tu_iconst 21 X dX4_lies_21 ?_
      refine tu_iconst 22 X dX4_lies_22 ?_
      refine tu_callSI 23 X (st := []) (as := [tu_i w, tu_i 0, tu_i 1]) (c_X4_within w 0 1 (show tu_rg w from by first | assumption | omega | exact ⟨by omega, by omega⟩ | decide) (show tu_rg 0 from by first | assumption | omega | exact ⟨by omega, by omega⟩ | decide) (show tu_rg 1 from by first | assumption | omega | exact ⟨by omega, by omega⟩ | decide)) ss_RX4_48 dX4_lies_23 rfl (Nat.le_of_ble_eq_true rfl) ⟨by decide, by decide⟩ (fun z M' h => ?_)
      obtain ⟨hM23, hz23⟩ := h
      refine tu_st_eq rfl (M' := M) hM23 ?_
      refine tu_tp (b := tu_b (0 ≤ w ∧ w ≤ 1)) hz23 ?_
      refine tu_if_ne 26 X 32 dX4_lies_26 (by decide) tu_b_rg (fun br26 => ?_) (fun br26 => ?_)
      ·
        have br26 := tu_b_n0 br26
        obtain ⟨L, a, k, r, c, hK, hTK, hT, hy⟩ := hF ⟨by omega, by omega⟩
        have hsl := hO.2.1 l.toNat (by omega)
        have ecr := hT.rg hK
        have bz := tu_nv_rg ecr.1
        have hst : M 87 1 = L 1 ∧ M 87 2 = L 2 ∧ M 87 3 = L 3 := ⟨(hR.set 1 (by decide)).trans hTK.1.2.1.symm, (hR.set 2 (by decide)).trans hTK.1.2.2.1.symm, (hR.set 3 (by decide)).trans hTK.1.2.2.2.symm⟩
        refine tu_aload_n 32 X 0 dX4_lies_32 rfl ?_
        refine tu_iload_n 33 X 1 dX4_lies_33 rfl ?_
        refine tu_iload_n 34 X 2 dX4_lies_34 rfl ?_
        refine tu_st_eq (show _ = [tu_i ((p.toNat : Nat) : Int), tu_i ((l.toNat : Nat) : Int), tu_r 86] from by first | rfl | (simp only [List.cons.injEq, Sum.inl.injEq, and_true, true_and]; omega)) rfl ?_
        refine tu_callVI 35 X (st := []) (as := [tu_i ((l.toNat : Nat) : Int), tu_i ((p.toNat : Nat) : Int)]) (c_X4_costOf B L a k r c l.toNat p.toNat (show tu_BO B from by first | assumption | omega | exact ⟨by omega, by omega⟩ | decide) (show tu_MB B (M 87) from by first | assumption | omega | exact ⟨by omega, by omega⟩ | decide) (show (l.toNat : Int) < B 0 1 from by first | assumption | omega | exact ⟨by omega, by omega⟩ | decide) (show (p.toNat : Int) < B 0 4 from by first | assumption | omega | exact ⟨by omega, by omega⟩ | decide) (show tu_LK L a k r (tu_nl B l.toNat) (tu_np B p.toNat) from by first | assumption | omega | exact ⟨by omega, by omega⟩ | decide) (show tu_TK B l.toNat p.toNat L a k from by first | assumption | omega | exact ⟨by omega, by omega⟩ | decide) (show tu_Tx L a k r (tu_nl B l.toNat) (tu_np B p.toNat) c from by first | assumption | omega | exact ⟨by omega, by omega⟩ | decide)) sv_RX4_166 dX4_lies_35 rfl (by decide) rfl rfl rfl (Nat.le_of_ble_eq_true rfl) ⟨by decide, by decide⟩ (fun z M' h => ?_)
        obtain ⟨r9_35, C_35, W_35, U_35, hM35, h35_0, h35_1, h35_2, hz35⟩ := h
        refine tu_st_eq rfl (M' := tu_row (tu_row (tu_row (tu_row M 86 r9_35) 92 C_35) 93 W_35) 94 U_35) hM35 ?_
        refine tu_tp (b := (tu_nv (c 0))) hz35 ?_
        have hnv : tu_nv (c 0) = 1000000000 ↔ 1000000 ≤ c 0 := tu_nv_big
        refine tu_ldc 38 X (n := 1000000000) dX4_lies_38 kw_RX4_88 (by decide) ?_
        refine tu_icmp_ne 40 X 46 dX4_lies_40 (by decide) (show tu_rg (tu_nv (c 0)) from by first | assumption | exact ⟨by omega, by omega⟩) ⟨by decide, by decide⟩ (fun br40 => ?_) (fun br40 => ?_)
        ·
          refine tu_aload_n 46 X 0 dX4_lies_46 rfl ?_
          refine tu_callVV 47 X (st := []) (as := []) (c_X4_findWay L a k r (tu_nl B l.toNat) (tu_np B p.toNat) c (show tu_LM (r9_35) a k (tu_nl B l.toNat) (tu_np B p.toNat) (L 0) from by exact h35_0) (show M 87 1 = L 1 ∧ M 87 2 = L 2 ∧ M 87 3 = L 3 from by exact hst) (show tu_LK L a k r (tu_nl B l.toNat) (tu_np B p.toNat) from by exact hK) (show tu_Tx L a k r (tu_nl B l.toNat) (tu_np B p.toNat) c from by exact hT) (show tu_AD L a k r c (tu_nl B l.toNat) (tu_np B p.toNat) ((tu_nl B l.toNat) + 1) 0 (C_35) (W_35) (U_35) from by exact h35_2) (show c 0 < 1000000 from by omega)) sv_RX4_122 dX4_lies_47 rfl (by decide) rfl rfl rfl (Nat.le_of_ble_eq_true rfl) ⟨by decide, by decide⟩ (fun M' h => ?_)
          obtain ⟨E_47, F_47, hM47, h47_0⟩ := h
          refine tu_st_eq rfl (M' := tu_row (tu_row (tu_row (tu_row (tu_row (tu_row M 86 r9_35) 92 C_35) 93 W_35) 94 U_35) 95 E_47) 96 F_47) hM47 ?_
          have hEF := h47_0 s.toNat (by unfold tu_nl; omega)
          refine tu_iload 50 X 4 dX4_lies_50 rfl ?_
          refine tu_if_ne 52 X 64 dX4_lies_52 (by decide) (show tu_rg w from by first | assumption | exact ⟨by omega, by omega⟩) (fun br52 => ?_) (fun br52 => ?_)
          ·
            refine tu_aload_n 64 X 0 dX4_lies_64 rfl ?_
            refine tu_getR 65 X dX4_lies_65 fl_RX4_37 (by decide) rfl rfl ?_
            refine tu_iload_n 68 X 3 dX4_lies_68 rfl ?_
            refine tu_iald 69 X (x := F_47 s.toNat) s.toNat dX4_lies_69 (by decide) rfl (by decide) (by omega) (by omega) rfl ?_
            refine hret 70 _ _ (F_47 s.toNat) dX4_lies_70 (fun h => by rw [hrt] at h; cases h) ?_
            exact ⟨_, ((((((tu_sd.rf _).r86 h35_1).row _ (by decide)).row _ (by decide)).row _ (by decide)).row _ (by decide)).row _ (by decide), Or.inr (Or.inr (⟨by omega, by omega⟩)), rfl⟩
          ·
            refine tu_aload_n 55 X 0 dX4_lies_55 rfl ?_
            refine tu_getR 56 X dX4_lies_56 fl_RX4_34 (by decide) rfl rfl ?_
            refine tu_iload_n 59 X 3 dX4_lies_59 rfl ?_
            refine tu_iald 60 X (x := E_47 s.toNat) s.toNat dX4_lies_60 (by decide) rfl (by decide) (by omega) (by omega) rfl ?_
            refine tu_goto 61 X 70 dX4_lies_61 (by decide) ?_
            refine hret 70 _ _ (E_47 s.toNat) dX4_lies_70 (fun h => by rw [hrt] at h; cases h) ?_
            exact ⟨_, ((((((tu_sd.rf _).r86 h35_1).row _ (by decide)).row _ (by decide)).row _ (by decide)).row _ (by decide)).row _ (by decide), Or.inr (Or.inr (⟨by omega, by omega⟩)), rfl⟩
        ·
          refine tu_bipush 43 X dX4_lies_43 (by decide) ?_
          refine hret 45 _ _ (-6) dX4_lies_45 (fun h => by rw [hrt] at h; cases h) ?_
          exact ⟨_, ((((tu_sd.rf _).r86 h35_1).row _ (by decide)).row _ (by decide)).row _ (by decide), Or.inr (Or.inr (⟨by omega, by omega⟩)), rfl⟩
      ·
        have br26 := tu_b_e0 br26
        refine tu_bipush 29 X dX4_lies_29 (by decide) ?_
        refine hret 31 _ _ (-2) dX4_lies_31 (fun h => by rw [hrt] at h; cases h) ?_
        exact ⟨_, tu_sd.rf _, Or.inr (Or.inl (⟨by omega, rfl⟩)), rfl⟩
    ·
      have br14 := tu_b_e0 br14
      refine tu_iconst 17 X dX4_lies_17 ?_
      refine hret 18 _ _ (-1) dX4_lies_18 (fun h => by rw [hrt] at h; cases h) ?_
      exact ⟨_, tu_sd.rf _, Or.inl (⟨by omega, rfl⟩), rfl⟩
