theorem tu_rem_i {a : Nat} {b : Int} (ha : a < 2147483648) (hb : 0 < b ∧ b < 2147483648) : tu_rem (a : Int) b = ((a % b.toNat : Nat) : Int) := by
  obtain ⟨c, rfl⟩ := Int.eq_ofNat_of_zero_le (show 0 ≤ b by omega)
  exact tu_rem_n ha (by omega) (by omega)
set_option maxRecDepth 20000 in
set_option maxHeartbeats 4000000 in
theorem c_X4_phraseFor {M : tu_M} (B : Nat → Nat → Int) (x9 : Nat) (hO : tu_BO B) (hR : tu_MB B (M 87)) (hx : (x9 : Int) < B 0 7) (h9 : 1 ≤ B 0 9) : tu_MI tu_Y_X4_phraseFor [tu_r 86, tu_i ((x9 : Nat) : Int)] M (fun z M' => M' = M ∧ z = B 7 (x9 % (B 0 9).toNat)) := by
  have cn := hO.1
  have hmod := Nat.mod_lt x9 (show 0 < (B 0 9).toNat from by omega)
  refine tu_MI.of (ty := .int) (by decide) rfl (by first | exact Or.inl rfl | exact Or.inr rfl) (Nat.le_of_ble_eq_true rfl) (fun T (X : tu_X T cX4_phraseFor RX4 0 0) hnl hrt hret => ?_)
  have hret : tu_RI T cX4_phraseFor (fun z M' => M' = M ∧ z = B 7 (x9 % (B 0 9).toNat)) := hret
  have hnl : T.2.2.2.2.2.2.2.2.2.2.1 = 2 := hnl
  show tu_W T 0 [(0, tu_r 86), (1, tu_i ((x9 : Nat) : Int))] [] M
  refine tu_aload_n 0 X 0 dX4_phraseFor_0 rfl ?_
  refine tu_getR 1 X dX4_phraseFor_1 fl_RX4_7 (by decide) rfl rfl ?_
  refine tu_bipush 4 X dX4_phraseFor_4 (by decide) ?_
  refine tu_iload_n 6 X 1 dX4_phraseFor_6 rfl ?_
  refine tu_aload_n 7 X 0 dX4_phraseFor_7 rfl ?_
  refine tu_getR 8 X dX4_phraseFor_8 fl_RX4_7 (by decide) rfl rfl ?_
  refine tu_bipush 11 X dX4_phraseFor_11 (by decide) ?_
  refine tu_iald 13 X (x := M 87 7) 7 dX4_phraseFor_13 (by decide) rfl (by decide) rfl (by decide) rfl ?_
  refine tu_tp (b := (B 0 9)) (by exact hR.n7) ?_
  refine tu_irem 14 X dX4_phraseFor_14 (show tu_rg (B 0 9) from by first | assumption | exact ⟨by omega, by omega⟩) (by omega) ?_
  refine tu_tp (b := (((x9 % (B 0 9).toNat : Nat)) : Int)) (by exact tu_rem_i (by omega) (by omega)) ?_
  refine tu_iadd 15 X dX4_phraseFor_15 ?_
  refine tu_iald 16 X (x := M 87 (104 + (x9 % (B 0 9).toNat))) (104 + (x9 % (B 0 9).toNat)) dX4_phraseFor_16 (by decide) rfl (by decide) (by omega) (by omega) rfl ?_
  refine tu_tp (b := (B 7 (x9 % (B 0 9).toNat))) (by exact hR.tu (x9 % (B 0 9).toNat) (by omega)) ?_
  refine hret 17 _ _ (B 7 (x9 % (B 0 9).toNat)) dX4_phraseFor_17 (fun h => by rw [hrt] at h; cases h) ?_
  exact ⟨rfl, by first | rfl | omega⟩
set_option maxRecDepth 20000 in
set_option maxHeartbeats 400000 in
theorem c_X4_whole {M : tu_M} (B : Nat → Nat → Int) (w : Int) (hO : tu_BO B) (hR : tu_MB B (M 87)) (rw : tu_rg w) : tu_MI tu_Y_X4_whole [tu_r 86, tu_i w] M (fun z M' => ∃ (y : Int), (tu_sd M M') ∧ (((¬ (0 ≤ w ∧ w ≤ 3)) ∧ y = -2) ∨ (((0 ≤ w ∧ w ≤ 3) ∧ B 0 9 < 1) ∧ y = -5) ∨ ((w = 0 ∧ 1 ≤ B 0 9) ∧ y = tu_sm (fun x9 => if tu_wk B x9 < 1000000 then tu_wk B x9 else 0) (B 0 7).toNat) ∨ ((w = 1 ∧ 1 ≤ B 0 9) ∧ y = tu_sm (fun x9 => if tu_wk B x9 < 1000000 then 0 else 1) (B 0 7).toNat) ∨ ((w = 2 ∧ 1 ≤ B 0 9) ∧ y = (tu_gp (fun x9 => tu_wk B x9) (B 0 7).toNat).2) ∨ ((w = 3 ∧ 1 ≤ B 0 9) ∧ y = tu_sm (fun x9 => B 4 (B 7 (x9 % (B 0 9).toNat)).toNat) (B 0 7).toNat)) ∧ z = y) := by
  have cn := hO.1
  refine tu_MI.of (ty := .int) (by decide) rfl (by first | exact Or.inl rfl | exact Or.inr rfl) (Nat.le_of_ble_eq_true rfl) (fun T (X : tu_X T cX4_whole RX4 6 135) hnl hrt hret => ?_)
  have hret : tu_RI T cX4_whole (fun z M' => ∃ (y : Int), (tu_sd M M') ∧ (((¬ (0 ≤ w ∧ w ≤ 3)) ∧ y = -2) ∨ (((0 ≤ w ∧ w ≤ 3) ∧ B 0 9 < 1) ∧ y = -5) ∨ ((w = 0 ∧ 1 ≤ B 0 9) ∧ y = tu_sm (fun x9 => if tu_wk B x9 < 1000000 then tu_wk B x9 else 0) (B 0 7).toNat) ∨ ((w = 1 ∧ 1 ≤ B 0 9) ∧ y = tu_sm (fun x9 => if tu_wk B x9 < 1000000 then 0 else 1) (B 0 7).toNat) ∨ ((w = 2 ∧ 1 ≤ B 0 9) ∧ y = (tu_gp (fun x9 => tu_wk B x9) (B 0 7).toNat).2) ∨ ((w = 3 ∧ 1 ≤ B 0 9) ∧ y = tu_sm (fun x9 => B 4 (B 7 (x9 % (B 0 9).toNat)).toNat) (B 0 7).toNat)) ∧ z = y) := hret
  have hnl : T.2.2.2.2.2.2.2.2.2.2.1 = 10 := hnl
  show tu_W T 0 [(0, tu_r 86), (1, tu_i w)] [] M
  refine tu_iload_n 0 X 1 dX4_whole_0 rfl ?_
  refine tu_iconst 1 X dX4_whole_1 ?_
  refine tu_iconst 2 X dX4_whole_2 ?_
  refine tu_callSI 3 X (st := []) (as := [tu_i w, tu_i 0, tu_i 3]) (c_X4_within w 0 3 (show tu_rg w from by first | assumption | omega | exact ⟨by omega, by omega⟩ | decide) (show tu_rg 0 from by first | assumption | omega | exact ⟨by omega, by omega⟩ | decide) (show tu_rg 3 from by first | assumption | omega | exact ⟨by omega, by omega⟩ | decide)) ss_RX4_48 dX4_whole_3 rfl (Nat.le_of_ble_eq_true rfl) ⟨by decide, by decide⟩ (fun z M' h => ?_)
  obtain ⟨hM3, hz3⟩ := h
  refine tu_st_eq rfl (M' := M) hM3 ?_
  refine tu_tp (b := tu_b (0 ≤ w ∧ w ≤ 3)) hz3 ?_
  refine tu_if_ne 6 X 12 dX4_whole_6 (by decide) tu_b_rg (fun br6 => ?_) (fun br6 => ?_)
  ·
    have br6 := tu_b_n0 br6
    refine tu_aload_n 12 X 0 dX4_whole_12 rfl ?_
    refine tu_getR 13 X dX4_whole_13 fl_RX4_7 (by decide) rfl rfl ?_
    refine tu_bipush 16 X dX4_whole_16 (by decide) ?_
    refine tu_iald 18 X (x := M 87 7) 7 dX4_whole_18 (by decide) rfl (by decide) rfl (by decide) rfl ?_
    refine tu_tp (b := (B 0 9)) (by exact hR.n7) ?_
    refine tu_if_ne 19 X 25 dX4_whole_19 (by decide) (show tu_rg (B 0 9) from by first | assumption | exact ⟨by omega, by omega⟩) (fun br19 => ?_) (fun br19 => ?_)
    ·
      refine tu_iconst 25 X dX4_whole_25 ?_
      refine tu_istore_n 26 X (lv' := [(2, tu_i 0), (0, tu_r 86), (1, tu_i w)]) dX4_whole_26 (by rw [hnl]; decide) rfl ?_
      refine tu_iconst 27 X dX4_whole_27 ?_
      refine tu_istore_n 28 X (lv' := [(3, tu_i 0), (2, tu_i 0), (0, tu_r 86), (1, tu_i w)]) dX4_whole_28 (by rw [hnl]; decide) rfl ?_
      refine tu_bipush 29 X dX4_whole_29 (by decide) ?_
      refine tu_istore 31 X (lv' := [(4, tu_i (-6)), (3, tu_i 0), (2, tu_i 0), (0, tu_r 86), (1, tu_i w)]) dX4_whole_31 (by rw [hnl]; decide) rfl ?_
      refine tu_iconst 33 X dX4_whole_33 ?_
      refine tu_istore 34 X (lv' := [(5, tu_i (-1)), (4, tu_i (-6)), (3, tu_i 0), (2, tu_i 0), (0, tu_r 86), (1, tu_i w)]) dX4_whole_34 (by rw [hnl]; decide) rfl ?_
      refine tu_iconst 36 X dX4_whole_36 ?_
      refine tu_istore 37 X (lv' := [(6, tu_i 0), (5, tu_i (-1)), (4, tu_i (-6)), (3, tu_i 0), (2, tu_i 0), (0, tu_r 86), (1, tu_i w)]) dX4_whole_37 (by rw [hnl]; decide) rfl ?_
      refine tu_iconst 39 X dX4_whole_39 ?_
      refine tu_istore 40 X (lv' := [(7, tu_i 0), (6, tu_i 0), (5, tu_i (-1)), (4, tu_i (-6)), (3, tu_i 0), (2, tu_i 0), (0, tu_r 86), (1, tu_i w)]) dX4_whole_40 (by rw [hnl]; decide) rfl ?_
      refine tu_st_eq rfl (M' := tu_row M 86 (M 86)) ((tu_rx M 86).symm) ?_
      refine tu_st_eq rfl (M' := tu_row (tu_row M 86 (M 86)) 92 (M 92)) ((congrArg (fun m => tu_row m 86 (M 86)) ((tu_rx M 92).symm)).trans (tu_rc M (M 92) (M 86) rfl)) ?_
      refine tu_st_eq rfl (M' := tu_row (tu_row (tu_row M 86 (M 86)) 92 (M 92)) 93 (M 93)) ((congrArg (fun m => tu_row m 92 (M 92)) ((congrArg (fun m => tu_row m 86 (M 86)) ((tu_rx M 93).symm)).trans (tu_rc M (M 93) (M 86) rfl))).trans (tu_rc (tu_row M 86 (M 86)) (M 93) (M 92) rfl)) ?_
      refine tu_st_eq rfl (M' := tu_row (tu_row (tu_row (tu_row M 86 (M 86)) 92 (M 92)) 93 (M 93)) 94 (M 94)) ((congrArg (fun m => tu_row m 93 (M 93)) ((congrArg (fun m => tu_row m 92 (M 92)) ((congrArg (fun m => tu_row m 86 (M 86)) ((tu_rx M 94).symm)).trans (tu_rc M (M 94) (M 86) rfl))).trans (tu_rc (tu_row M 86 (M 86)) (M 94) (M 92) rfl))).trans (tu_rc (tu_row (tu_row M 86 (M 86)) 92 (M 92)) (M 94) (M 93) rfl)) ?_
      have lp42 : ∀ (nq : Nat) (q : Nat) (r9 : Nat → Int) (C : Nat → Int) (W : Nat → Int) (U : Nat → Int), ((q : Int) ≤ B 0 7) → (r9 2 = M 86 2 ∧ r9 6 = M 86 6) → (-1 ≤ (tu_gp (fun x9 => tu_wk B x9) q).1 ∧ (tu_gp (fun x9 => tu_wk B x9) q).1 ≤ 1000000) → (B 0 7).toNat - q < nq → tu_W T 42 [(0, tu_r 86), (1, tu_i w), (2, tu_i (tu_sm (fun x9 => if tu_wk B x9 < 1000000 then tu_wk B x9 else 0) q)), (3, tu_i (tu_sm (fun x9 => if tu_wk B x9 < 1000000 then 0 else 1) q)), (4, tu_i ((tu_gp (fun x9 => tu_wk B x9) q).2)), (5, tu_i ((tu_gp (fun x9 => tu_wk B x9) q).1)), (6, tu_i (tu_sm (fun x9 => B 4 (B 7 (x9 % (B 0 9).toNat)).toNat) q)), (7, tu_i ((q : Nat) : Int))] [] (tu_row (tu_row (tu_row (tu_row M 86 r9) 92 C) 93 W) 94 U) := by
        intro nq
        induction nq with
        | zero => intros; omega
        | succ nq ih42 =>
          intro q r9 C W U hq h9 hb hn42
          refine tu_iload 42 X 7 dX4_whole_42 rfl ?_
          refine tu_aload_n 44 X 0 dX4_whole_44 rfl ?_
          refine tu_getR 45 X dX4_whole_45 fl_RX4_7 (by decide) rfl rfl ?_
          refine tu_bipush 48 X dX4_whole_48 (by decide) ?_
          refine tu_iald 50 X (x := M 87 6) 6 dX4_whole_50 (by decide) rfl (by decide) rfl (by decide) rfl ?_
          refine tu_tp (b := (B 0 7)) (by exact hR.n6) ?_
          refine tu_icmp_ge 51 X 180 dX4_whole_51 (by decide) (show tu_rg ((q : Nat) : Int) from by first | assumption | exact ⟨by omega, by omega⟩) (show tu_rg (B 0 7) from by first | assumption | exact ⟨by omega, by omega⟩) (fun br51 => ?_) (fun br51 => ?_)
          ·
            refine tu_iload_n 180 X 1 dX4_whole_180 rfl ?_
            refine tu_if_ne 181 X 188 dX4_whole_181 (by decide) (show tu_rg w from by first | assumption | exact ⟨by omega, by omega⟩) (fun br181 => ?_) (fun br181 => ?_)
            ·
              refine tu_iload_n 188 X 1 dX4_whole_188 rfl ?_
              refine tu_iconst 189 X dX4_whole_189 ?_
              refine tu_icmp_ne 190 X 197 dX4_whole_190 (by decide) (show tu_rg w from by first | assumption | exact ⟨by omega, by omega⟩) ⟨by decide, by decide⟩ (fun br190 => ?_) (fun br190 => ?_)
              ·
                refine tu_iload_n 197 X 1 dX4_whole_197 rfl ?_
                refine tu_iconst 198 X dX4_whole_198 ?_
                refine tu_icmp_ne 199 X 207 dX4_whole_199 (by decide) (show tu_rg w from by first | assumption | exact ⟨by omega, by omega⟩) ⟨by decide, by decide⟩ (fun br199 => ?_) (fun br199 => ?_)
                ·
                  refine tu_iload 207 X 6 dX4_whole_207 rfl ?_
                  refine hret 209 _ _ (tu_sm (fun x9 => B 4 (B 7 (x9 % (B 0 9).toNat)).toNat) q) dX4_whole_209 (fun h => by rw [hrt] at h; cases h) ?_
                  have en : (B 0 7).toNat = q := by omega
                  first | exact ⟨_, ((((tu_sd.rf _).r86 h9).row _ (by decide)).row _ (by decide)).row _ (by decide), Or.inr (Or.inr (Or.inl (⟨by omega, by rw [en]⟩))), rfl⟩ | exact ⟨_, ((((tu_sd.rf _).r86 h9).row _ (by decide)).row _ (by decide)).row _ (by decide), Or.inr (Or.inr (Or.inr (Or.inl (⟨by omega, by rw [en]⟩)))), rfl⟩ | exact ⟨_, ((((tu_sd.rf _).r86 h9).row _ (by decide)).row _ (by decide)).row _ (by decide), Or.inr (Or.inr (Or.inr (Or.inr (Or.inl (⟨by omega, by rw [en]⟩))))), rfl⟩ | exact ⟨_, ((((tu_sd.rf _).r86 h9).row _ (by decide)).row _ (by decide)).row _ (by decide), Or.inr (Or.inr (Or.inr (Or.inr (Or.inr (⟨by omega, by rw [en]⟩))))), rfl⟩
                ·
                  refine tu_iload 202 X 4 dX4_whole_202 rfl ?_
                  refine tu_goto 204 X 209 dX4_whole_204 (by decide) ?_
                  refine hret 209 _ _ ((tu_gp (fun x9 => tu_wk B x9) q).2) dX4_whole_209 (fun h => by rw [hrt] at h; cases h) ?_
                  have en : (B 0 7).toNat = q := by omega
                  first | exact ⟨_, ((((tu_sd.rf _).r86 h9).row _ (by decide)).row _ (by decide)).row _ (by decide), Or.inr (Or.inr (Or.inl (⟨by omega, by rw [en]⟩))), rfl⟩ | exact ⟨_, ((((tu_sd.rf _).r86 h9).row _ (by decide)).row _ (by decide)).row _ (by decide), Or.inr (Or.inr (Or.inr (Or.inl (⟨by omega, by rw [en]⟩)))), rfl⟩ | exact ⟨_, ((((tu_sd.rf _).r86 h9).row _ (by decide)).row _ (by decide)).row _ (by decide), Or.inr (Or.inr (Or.inr (Or.inr (Or.inl (⟨by omega, by rw [en]⟩))))), rfl⟩ | exact ⟨_, ((((tu_sd.rf _).r86 h9).row _ (by decide)).row _ (by decide)).row _ (by decide), Or.inr (Or.inr (Or.inr (Or.inr (Or.inr (⟨by omega, by rw [en]⟩))))), rfl⟩
              ·
                refine tu_iload_n 193 X 3 dX4_whole_193 rfl ?_
                refine tu_goto 194 X 209 dX4_whole_194 (by decide) ?_
                refine hret 209 _ _ (tu_sm (fun x9 => if tu_wk B x9 < 1000000 then 0 else 1) q) dX4_whole_209 (fun h => by rw [hrt] at h; cases h) ?_
                have en : (B 0 7).toNat = q := by omega
                first | exact ⟨_, ((((tu_sd.rf _).r86 h9).row _ (by decide)).row _ (by decide)).row _ (by decide), Or.inr (Or.inr (Or.inl (⟨by omega, by rw [en]⟩))), rfl⟩ | exact ⟨_, ((((tu_sd.rf _).r86 h9).row _ (by decide)).row _ (by decide)).row _ (by decide), Or.inr (Or.inr (Or.inr (Or.inl (⟨by omega, by rw [en]⟩)))), rfl⟩ | exact ⟨_, ((((tu_sd.rf _).r86 h9).row _ (by decide)).row _ (by decide)).row _ (by decide), Or.inr (Or.inr (Or.inr (Or.inr (Or.inl (⟨by omega, by rw [en]⟩))))), rfl⟩ | exact ⟨_, ((((tu_sd.rf _).r86 h9).row _ (by decide)).row _ (by decide)).row _ (by decide), Or.inr (Or.inr (Or.inr (Or.inr (Or.inr (⟨by omega, by rw [en]⟩))))), rfl⟩
            ·
              refine tu_iload_n 184 X 2 dX4_whole_184 rfl ?_
              refine tu_goto 185 X 209 dX4_whole_185 (by decide) ?_
              refine hret 209 _ _ (tu_sm (fun x9 => if tu_wk B x9 < 1000000 then tu_wk B x9 else 0) q) dX4_whole_209 (fun h => by rw [hrt] at h; cases h) ?_
              have en : (B 0 7).toNat = q := by omega
              first | exact ⟨_, ((((tu_sd.rf _).r86 h9).row _ (by decide)).row _ (by decide)).row _ (by decide), Or.inr (Or.inr (Or.inl (⟨by omega, by rw [en]⟩))), rfl⟩ | exact ⟨_, ((((tu_sd.rf _).r86 h9).row _ (by decide)).row _ (by decide)).row _ (by decide), Or.inr (Or.inr (Or.inr (Or.inl (⟨by omega, by rw [en]⟩)))), rfl⟩ | exact ⟨_, ((((tu_sd.rf _).r86 h9).row _ (by decide)).row _ (by decide)).row _ (by decide), Or.inr (Or.inr (Or.inr (Or.inr (Or.inl (⟨by omega, by rw [en]⟩))))), rfl⟩ | exact ⟨_, ((((tu_sd.rf _).r86 h9).row _ (by decide)).row _ (by decide)).row _ (by decide), Or.inr (Or.inr (Or.inr (Or.inr (Or.inr (⟨by omega, by rw [en]⟩))))), rfl⟩
          ·
            have h7q := hO.2.2.2.2.2.1 q (by omega)
            have hmod := Nat.mod_lt q (show 0 < (B 0 9).toNat from by omega)
            have h9q := hO.2.2.2.2.2.2.1 (q % (B 0 9).toNat) (by omega)
            have ewk : tu_co B (B 6 q).toNat (B 7 (q % (B 0 9).toNat)).toNat = tu_wk B q := rfl
            obtain ⟨L, a, k, r, c, hK, hTK, hT⟩ := tu_exB hO (l := (B 6 q).toNat) (p := (B 7 (q % (B 0 9).toNat)).toNat) (by omega) (by omega)
            have ec := hTK.co hK hT
            have ecr := hT.rg hK
            have bz := tu_nv_rg ecr.1
            rw [ec] at bz
            rw [ewk] at ec bz
            rw [ec] at ecr
            have hnv : tu_nv (tu_wk B q) = 1000000000 ↔ 1000000 ≤ tu_wk B q := tu_nv_big
            have hnv2 : tu_wk B q < 1000000 → tu_nv (tu_wk B q) = tu_wk B q := tu_nv_lo
            have hbt := hO.2.2.2.1 (B 7 (q % (B 0 9).toNat)).toNat (by omega)
            refine tu_aload_n 54 X 0 dX4_whole_54 rfl ?_
            refine tu_aload_n 55 X 0 dX4_whole_55 rfl ?_
            refine tu_getR 56 X dX4_whole_56 fl_RX4_7 (by decide) rfl rfl ?_
            refine tu_bipush 59 X dX4_whole_59 (by decide) ?_
            refine tu_iload 61 X 7 dX4_whole_61 rfl ?_
            refine tu_iadd 63 X dX4_whole_63 ?_
            refine tu_iald 64 X (x := M 87 (64 + q)) (64 + q) dX4_whole_64 (by decide) rfl (by decide) (by omega) (by omega) rfl ?_
            refine tu_tp (b := (B 6 q)) (by exact hR.ba q (by omega)) ?_
            refine tu_aload_n 65 X 0 dX4_whole_65 rfl ?_
            refine tu_iload 66 X 7 dX4_whole_66 rfl ?_
            refine tu_callVI 68 X (st := [tu_i (B 6 q), tu_r 86]) (as := [tu_i ((q : Nat) : Int)]) (c_X4_phraseFor B q (show tu_BO B from by first | assumption | omega | exact ⟨by omega, by omega⟩ | decide) (show tu_MB B (M 87) from by first | assumption | omega | exact ⟨by omega, by omega⟩ | decide) (show (q : Int) < B 0 7 from by first | assumption | omega | exact ⟨by omega, by omega⟩ | decide) (show 1 ≤ B 0 9 from by first | assumption | omega | exact ⟨by omega, by omega⟩ | decide)) sv_RX4_190 dX4_whole_68 rfl (by decide) rfl rfl rfl (Nat.le_of_ble_eq_true rfl) ⟨by decide, by decide⟩ (fun z M' h => ?_)
            obtain ⟨hM68, hz68⟩ := h
            refine tu_st_eq rfl (M' := tu_row (tu_row (tu_row (tu_row M 86 r9) 92 C) 93 W) 94 U) hM68 ?_
            refine tu_tp (b := (B 7 (q % (B 0 9).toNat))) hz68 ?_
            refine tu_st_eq (show _ = [tu_i ((((B 7 (q % (B 0 9).toNat)).toNat) : Nat) : Int), tu_i ((((B 6 q).toNat) : Nat) : Int), tu_r 86] from by first | rfl | (simp only [List.cons.injEq, Sum.inl.injEq, and_true, true_and]; omega)) rfl ?_
            refine tu_callVI 71 X (st := []) (as := [tu_i ((((B 6 q).toNat) : Nat) : Int), tu_i ((((B 7 (q % (B 0 9).toNat)).toNat) : Nat) : Int)]) (c_X4_costOf B L a k r c ((B 6 q).toNat) ((B 7 (q % (B 0 9).toNat)).toNat) (show tu_BO B from by first | assumption | omega | exact ⟨by omega, by omega⟩ | decide) (show tu_MB B (M 87) from by first | assumption | omega | exact ⟨by omega, by omega⟩ | decide) (show (((B 6 q).toNat) : Int) < B 0 1 from by first | assumption | omega | exact ⟨by omega, by omega⟩ | decide) (show (((B 7 (q % (B 0 9).toNat)).toNat) : Int) < B 0 4 from by first | assumption | omega | exact ⟨by omega, by omega⟩ | decide) (show tu_LK L a k r (tu_nl B ((B 6 q).toNat)) (tu_np B ((B 7 (q % (B 0 9).toNat)).toNat)) from by first | assumption | omega | exact ⟨by omega, by omega⟩ | decide) (show tu_TK B ((B 6 q).toNat) ((B 7 (q % (B 0 9).toNat)).toNat) L a k from by first | assumption | omega | exact ⟨by omega, by omega⟩ | decide) (show tu_Tx L a k r (tu_nl B ((B 6 q).toNat)) (tu_np B ((B 7 (q % (B 0 9).toNat)).toNat)) c from by first | assumption | omega | exact ⟨by omega, by omega⟩ | decide)) sv_RX4_166 dX4_whole_71 rfl (by decide) rfl rfl rfl (Nat.le_of_ble_eq_true rfl) ⟨by decide, by decide⟩ (fun z M' h => ?_)
            obtain ⟨r9_71, C_71, W_71, U_71, hM71, h71_0, h71_1, h71_2, hz71⟩ := h
            refine tu_st_eq rfl (M' := tu_row (tu_row (tu_row (tu_row M 86 r9_71) 92 C_71) 93 W_71) 94 U_71) (hM71.trans ((congrArg (fun m => tu_row m 94 U_71) ((congrArg (fun m => tu_row m 93 W_71) ((congrArg (fun m => tu_row m 92 C_71) ((tu_rc (tu_row (tu_row (tu_row M 86 r9) 92 C) 93 W) U r9_71 rfl).trans (congrArg (fun m => tu_row m 94 U) ((tu_rc (tu_row (tu_row M 86 r9) 92 C) W r9_71 rfl).trans (congrArg (fun m => tu_row m 93 W) ((tu_rc (tu_row M 86 r9) C r9_71 rfl).trans (congrArg (fun m => tu_row m 92 C) (tu_rr M 86 r9 r9_71)))))))).trans ((tu_rc (tu_row (tu_row (tu_row M 86 r9_71) 92 C) 93 W) U C_71 rfl).trans (congrArg (fun m => tu_row m 94 U) ((tu_rc (tu_row (tu_row M 86 r9_71) 92 C) W C_71 rfl).trans (congrArg (fun m => tu_row m 93 W) (tu_rr (tu_row M 86 r9_71) 92 C C_71))))))).trans ((tu_rc (tu_row (tu_row (tu_row M 86 r9_71) 92 C_71) 93 W) U W_71 rfl).trans (congrArg (fun m => tu_row m 94 U) (tu_rr (tu_row (tu_row M 86 r9_71) 92 C_71) 93 W W_71))))).trans (tu_rr (tu_row (tu_row (tu_row M 86 r9_71) 92 C_71) 93 W_71) 94 U U_71))) ?_
            refine tu_tp (b := (tu_nv (c 0))) hz71 ?_
            refine tu_tp (b := (tu_nv (tu_wk B q))) (by rw [ec]) ?_
            refine tu_istore 74 X (lv' := [(8, tu_i (tu_nv (tu_wk B q))), (0, tu_r 86), (1, tu_i w), (2, tu_i (tu_sm (fun x9 => if tu_wk B x9 < 1000000 then tu_wk B x9 else 0) q)), (3, tu_i (tu_sm (fun x9 => if tu_wk B x9 < 1000000 then 0 else 1) q)), (4, tu_i ((tu_gp (fun x9 => tu_wk B x9) q).2)), (5, tu_i ((tu_gp (fun x9 => tu_wk B x9) q).1)), (6, tu_i (tu_sm (fun x9 => B 4 (B 7 (x9 % (B 0 9).toNat)).toNat) q)), (7, tu_i ((q : Nat) : Int))]) dX4_whole_74 (by rw [hnl]; decide) rfl ?_
            refine tu_iload 76 X 0 dX4_whole_76 rfl ?_
            refine tu_ldc 78 X (n := 1000000000) dX4_whole_78 kw_RX4_88 (by decide) ?_
            refine tu_icmp_eq 80 X 87 dX4_whole_80 (by decide) (show tu_rg (tu_nv (tu_wk B q)) from by first | assumption | exact ⟨by omega, by omega⟩) ⟨by decide, by decide⟩ (fun br80 => ?_) (fun br80 => ?_)
            ·
              refine tu_iconst 87 X dX4_whole_87 ?_
              refine tu_istore 88 X (lv' := [(9, tu_i 0), (8, tu_i (tu_nv (tu_wk B q))), (0, tu_r 86), (1, tu_i w), (2, tu_i (tu_sm (fun x9 => if tu_wk B x9 < 1000000 then tu_wk B x9 else 0) q)), (3, tu_i (tu_sm (fun x9 => if tu_wk B x9 < 1000000 then 0 else 1) q)), (4, tu_i ((tu_gp (fun x9 => tu_wk B x9) q).2)), (5, tu_i ((tu_gp (fun x9 => tu_wk B x9) q).1)), (6, tu_i (tu_sm (fun x9 => B 4 (B 7 (x9 % (B 0 9).toNat)).toNat) q)), (7, tu_i ((q : Nat) : Int))]) dX4_whole_88 (by rw [hnl]; decide) rfl ?_
              refine tu_iload_n 90 X 4 dX4_whole_90 rfl ?_
              refine tu_iload 91 X 0 dX4_whole_91 rfl ?_
              refine tu_if_eq 93 X 101 dX4_whole_93 (by decide) ⟨by decide, by decide⟩ (fun br93 => ?_) (fun br93 => ?_)
              ·
                refine tu_iconst 101 X dX4_whole_101 ?_
                refine tu_iadd 102 X dX4_whole_102 ?_
                refine tu_istore_n 103 X (lv' := [(2, tu_i ((tu_sm (fun x9 => if tu_wk B x9 < 1000000 then tu_wk B x9 else 0) q) + 0)), (9, tu_i 0), (8, tu_i (tu_nv (tu_wk B q))), (0, tu_r 86), (1, tu_i w), (3, tu_i (tu_sm (fun x9 => if tu_wk B x9 < 1000000 then 0 else 1) q)), (4, tu_i ((tu_gp (fun x9 => tu_wk B x9) q).2)), (5, tu_i ((tu_gp (fun x9 => tu_wk B x9) q).1)), (6, tu_i (tu_sm (fun x9 => B 4 (B 7 (x9 % (B 0 9).toNat)).toNat) q)), (7, tu_i ((q : Nat) : Int))]) dX4_whole_103 (by rw [hnl]; decide) rfl ?_
                refine tu_iload_n 104 X 5 dX4_whole_104 rfl ?_
                refine tu_iload 105 X 1 dX4_whole_105 rfl ?_
                refine tu_if_eq 107 X 114 dX4_whole_107 (by decide) ⟨by decide, by decide⟩ (fun br107 => ?_) (fun br107 => ?_)
                ·
                  refine tu_iconst 114 X dX4_whole_114 ?_
                  refine tu_iadd 115 X dX4_whole_115 ?_
                  refine tu_istore_n 116 X (lv' := [(3, tu_i ((tu_sm (fun x9 => if tu_wk B x9 < 1000000 then 0 else 1) q) + 1)), (2, tu_i ((tu_sm (fun x9 => if tu_wk B x9 < 1000000 then tu_wk B x9 else 0) q) + 0)), (9, tu_i 0), (8, tu_i (tu_nv (tu_wk B q))), (0, tu_r 86), (1, tu_i w), (4, tu_i ((tu_gp (fun x9 => tu_wk B x9) q).2)), (5, tu_i ((tu_gp (fun x9 => tu_wk B x9) q).1)), (6, tu_i (tu_sm (fun x9 => B 4 (B 7 (x9 % (B 0 9).toNat)).toNat) q)), (7, tu_i ((q : Nat) : Int))]) dX4_whole_116 (by rw [hnl]; decide) rfl ?_
                  refine tu_iload 117 X 2 dX4_whole_117 rfl ?_
                  refine tu_if_eq 119 X 134 dX4_whole_119 (by decide) ⟨by decide, by decide⟩ (fun br119 => ?_) (fun br119 => ?_)
                  ·
                    refine tu_iload 134 X 6 dX4_whole_134 rfl ?_
                    refine tu_istore 136 X (lv' := [(4, tu_i ((tu_gp (fun x9 => tu_wk B x9) q).2)), (3, tu_i ((tu_sm (fun x9 => if tu_wk B x9 < 1000000 then 0 else 1) q) + 1)), (2, tu_i ((tu_sm (fun x9 => if tu_wk B x9 < 1000000 then tu_wk B x9 else 0) q) + 0)), (9, tu_i 0), (8, tu_i (tu_nv (tu_wk B q))), (0, tu_r 86), (1, tu_i w), (5, tu_i ((tu_gp (fun x9 => tu_wk B x9) q).1)), (6, tu_i (tu_sm (fun x9 => B 4 (B 7 (x9 % (B 0 9).toNat)).toNat) q)), (7, tu_i ((q : Nat) : Int))]) dX4_whole_136 (by rw [hnl]; decide) rfl ?_
                    refine tu_iload 138 X 3 dX4_whole_138 rfl ?_
                    refine tu_if_eq 140 X 155 dX4_whole_140 (by decide) ⟨by decide, by decide⟩ (fun br140 => ?_) (fun br140 => ?_)
                    ·
                      refine tu_iload 155 X 7 dX4_whole_155 rfl ?_
                      refine tu_istore 157 X (lv' := [(5, tu_i ((tu_gp (fun x9 => tu_wk B x9) q).1)), (4, tu_i ((tu_gp (fun x9 => tu_wk B x9) q).2)), (3, tu_i ((tu_sm (fun x9 => if tu_wk B x9 < 1000000 then 0 else 1) q) + 1)), (2, tu_i ((tu_sm (fun x9 => if tu_wk B x9 < 1000000 then tu_wk B x9 else 0) q) + 0)), (9, tu_i 0), (8, tu_i (tu_nv (tu_wk B q))), (0, tu_r 86), (1, tu_i w), (6, tu_i (tu_sm (fun x9 => B 4 (B 7 (x9 % (B 0 9).toNat)).toNat) q)), (7, tu_i ((q : Nat) : Int))]) dX4_whole_157 (by rw [hnl]; decide) rfl ?_
                      refine tu_iload 159 X 8 dX4_whole_159 rfl ?_
                      refine tu_aload_n 161 X 6 dX4_whole_161 rfl ?_
                      refine tu_aload_n 162 X 6 dX4_whole_162 rfl ?_
                      refine tu_iload 163 X 9 dX4_whole_163 rfl ?_
                      refine tu_callVI 165 X (st := [tu_r 86, tu_i (tu_sm (fun x9 => B 4 (B 7 (x9 % (B 0 9).toNat)).toNat) q)]) (as := [tu_i ((q : Nat) : Int)]) (c_X4_phraseFor B q (show tu_BO B from by first | assumption | omega | exact ⟨by omega, by omega⟩ | decide) (show tu_MB B (M 87) from by first | assumption | omega | exact ⟨by omega, by omega⟩ | decide) (show (q : Int) < B 0 7 from by first | assumption | omega | exact ⟨by omega, by omega⟩ | decide) (show 1 ≤ B 0 9 from by first | assumption | omega | exact ⟨by omega, by omega⟩ | decide)) sv_RX4_190 dX4_whole_165 rfl (by decide) rfl rfl rfl (Nat.le_of_ble_eq_true rfl) ⟨by decide, by decide⟩ (fun z M' h => ?_)
                      obtain ⟨hM165, hz165⟩ := h
                      refine tu_st_eq rfl (M' := tu_row (tu_row (tu_row (tu_row M 86 r9_71) 92 C_71) 93 W_71) 94 U_71) hM165 ?_
                      refine tu_tp (b := (B 7 (q % (B 0 9).toNat))) hz165 ?_
                      refine tu_st_eq (show _ = [tu_i ((((B 7 (q % (B 0 9).toNat)).toNat) : Nat) : Int), tu_r 86, tu_i (tu_sm (fun x9 => B 4 (B 7 (x9 % (B 0 9).toNat)).toNat) q)] from by first | rfl | (simp only [List.cons.injEq, Sum.inl.injEq, and_true, true_and]; omega)) rfl ?_
                      refine tu_callVI 168 X (st := [tu_i (tu_sm (fun x9 => B 4 (B 7 (x9 % (B 0 9).toNat)).toNat) q)]) (as := [tu_i ((((B 7 (q % (B 0 9).toNat)).toNat) : Nat) : Int)]) (c_X4_phraseLength B ((B 7 (q % (B 0 9).toNat)).toNat) (show tu_BO B from by first | assumption | omega | exact ⟨by omega, by omega⟩ | decide) (show tu_MB B (M 87) from by first | assumption | omega | exact ⟨by omega, by omega⟩ | decide) (show (((B 7 (q % (B 0 9).toNat)).toNat) : Int) < B 0 4 from by first | assumption | omega | exact ⟨by omega, by omega⟩ | decide)) sv_RX4_63 dX4_whole_168 rfl (by decide) rfl rfl rfl (Nat.le_of_ble_eq_true rfl) ⟨by decide, by decide⟩ (fun z M' h => ?_)
                      obtain ⟨hM168, hz168⟩ := h
                      refine tu_st_eq rfl (M' := tu_row (tu_row (tu_row (tu_row M 86 r9_71) 92 C_71) 93 W_71) 94 U_71) hM168 ?_
                      refine tu_tp (b := (B 4 ((B 7 (q % (B 0 9).toNat)).toNat))) hz168 ?_
                      refine tu_iadd 171 X dX4_whole_171 ?_
                      refine tu_istore 172 X (lv' := [(6, tu_i ((tu_sm (fun x9 => B 4 (B 7 (x9 % (B 0 9).toNat)).toNat) q) + (B 4 ((B 7 (q % (B 0 9).toNat)).toNat)))), (5, tu_i ((tu_gp (fun x9 => tu_wk B x9) q).1)), (4, tu_i ((tu_gp (fun x9 => tu_wk B x9) q).2)), (3, tu_i ((tu_sm (fun x9 => if tu_wk B x9 < 1000000 then 0 else 1) q) + 1)), (2, tu_i ((tu_sm (fun x9 => if tu_wk B x9 < 1000000 then tu_wk B x9 else 0) q) + 0)), (9, tu_i 0), (8, tu_i (tu_nv (tu_wk B q))), (0, tu_r 86), (1, tu_i w), (7, tu_i ((q : Nat) : Int))]) dX4_whole_172 (by rw [hnl]; decide) rfl ?_
                      refine tu_iinc 174 X (lv' := [(7, tu_i (((q : Nat) : Int) + 1)), (6, tu_i ((tu_sm (fun x9 => B 4 (B 7 (x9 % (B 0 9).toNat)).toNat) q) + (B 4 ((B 7 (q % (B 0 9).toNat)).toNat)))), (5, tu_i ((tu_gp (fun x9 => tu_wk B x9) q).1)), (4, tu_i ((tu_gp (fun x9 => tu_wk B x9) q).2)), (3, tu_i ((tu_sm (fun x9 => if tu_wk B x9 < 1000000 then 0 else 1) q) + 1)), (2, tu_i ((tu_sm (fun x9 => if tu_wk B x9 < 1000000 then tu_wk B x9 else 0) q) + 0)), (9, tu_i 0), (8, tu_i (tu_nv (tu_wk B q))), (0, tu_r 86), (1, tu_i w)]) 9 dX4_whole_174 rfl (by rw [hnl]; decide) rfl ?_
                      refine tu_goto 177 X 42 dX4_whole_177 (by decide) ?_
                      refine tu_jmp [8, 9, 5, 4, 3, 2, 1, 0] (lv' := [(0, tu_r 86), (1, tu_i w), (2, tu_i (tu_sm (fun x9 => if tu_wk B x9 < 1000000 then tu_wk B x9 else 0) (q + 1))), (3, tu_i (tu_sm (fun x9 => if tu_wk B x9 < 1000000 then 0 else 1) (q + 1))), (4, tu_i ((tu_gp (fun x9 => tu_wk B x9) (q + 1)).2)), (5, tu_i ((tu_gp (fun x9 => tu_wk B x9) (q + 1)).1)), (6, tu_i (tu_sm (fun x9 => B 4 (B 7 (x9 % (B 0 9).toNat)).toNat) (q + 1))), (7, tu_i (((q + 1) : Nat) : Int))]) ⟨rfl, rfl, tu_ei (by first | rfl | (simp only [tu_sm]; split <;> omega)), tu_ei (by first | rfl | (simp only [tu_sm]; split <;> omega)), tu_ei (by first | rfl | (simp only [tu_gp]; split <;> first | rfl | (exfalso; omega))), tu_ei (by first | rfl | (simp only [tu_gp]; split <;> first | rfl | omega)), tu_ei (by first | rfl | (rfl)), tu_ei (by first | rfl | omega), trivial⟩ rfl (ih42 (q + 1) r9_71 C_71 W_71 U_71 (by omega) (by exact ⟨h71_1.1.trans h9.1, h71_1.2.trans h9.2⟩) (by simp only [tu_gp]; split <;> omega) (by omega))
                    ·
                      exfalso; omega
                  ·
                    exfalso; omega
                ·
                  exfalso; omega
              ·
                exfalso; omega
            ·
              refine tu_iconst 83 X dX4_whole_83 ?_
              refine tu_goto 84 X 88 dX4_whole_84 (by decide) ?_
              refine tu_istore 88 X (lv' := [(9, tu_i 1), (8, tu_i (tu_nv (tu_wk B q))), (0, tu_r 86), (1, tu_i w), (2, tu_i (tu_sm (fun x9 => if tu_wk B x9 < 1000000 then tu_wk B x9 else 0) q)), (3, tu_i (tu_sm (fun x9 => if tu_wk B x9 < 1000000 then 0 else 1) q)), (4, tu_i ((tu_gp (fun x9 => tu_wk B x9) q).2)), (5, tu_i ((tu_gp (fun x9 => tu_wk B x9) q).1)), (6, tu_i (tu_sm (fun x9 => B 4 (B 7 (x9 % (B 0 9).toNat)).toNat) q)), (7, tu_i ((q : Nat) : Int))]) dX4_whole_88 (by rw [hnl]; decide) rfl ?_
              refine tu_iload_n 90 X 4 dX4_whole_90 rfl ?_
              refine tu_iload 91 X 0 dX4_whole_91 rfl ?_
              refine tu_if_eq 93 X 101 dX4_whole_93 (by decide) ⟨by decide, by decide⟩ (fun br93 => ?_) (fun br93 => ?_)
              ·
                exfalso; omega
              ·
                refine tu_iload 96 X 1 dX4_whole_96 rfl ?_
                refine tu_goto 98 X 102 dX4_whole_98 (by decide) ?_
                refine tu_iadd 102 X dX4_whole_102 ?_
                refine tu_istore_n 103 X (lv' := [(2, tu_i ((tu_sm (fun x9 => if tu_wk B x9 < 1000000 then tu_wk B x9 else 0) q) + (tu_nv (tu_wk B q)))), (9, tu_i 1), (8, tu_i (tu_nv (tu_wk B q))), (0, tu_r 86), (1, tu_i w), (3, tu_i (tu_sm (fun x9 => if tu_wk B x9 < 1000000 then 0 else 1) q)), (4, tu_i ((tu_gp (fun x9 => tu_wk B x9) q).2)), (5, tu_i ((tu_gp (fun x9 => tu_wk B x9) q).1)), (6, tu_i (tu_sm (fun x9 => B 4 (B 7 (x9 % (B 0 9).toNat)).toNat) q)), (7, tu_i ((q : Nat) : Int))]) dX4_whole_103 (by rw [hnl]; decide) rfl ?_
                refine tu_iload_n 104 X 5 dX4_whole_104 rfl ?_
                refine tu_iload 105 X 1 dX4_whole_105 rfl ?_
                refine tu_if_eq 107 X 114 dX4_whole_107 (by decide) ⟨by decide, by decide⟩ (fun br107 => ?_) (fun br107 => ?_)
                ·
                  exfalso; omega
                ·
                  refine tu_iconst 110 X dX4_whole_110 ?_
                  refine tu_goto 111 X 115 dX4_whole_111 (by decide) ?_
                  refine tu_iadd 115 X dX4_whole_115 ?_
                  refine tu_istore_n 116 X (lv' := [(3, tu_i ((tu_sm (fun x9 => if tu_wk B x9 < 1000000 then 0 else 1) q) + 0)), (2, tu_i ((tu_sm (fun x9 => if tu_wk B x9 < 1000000 then tu_wk B x9 else 0) q) + (tu_nv (tu_wk B q)))), (9, tu_i 1), (8, tu_i (tu_nv (tu_wk B q))), (0, tu_r 86), (1, tu_i w), (4, tu_i ((tu_gp (fun x9 => tu_wk B x9) q).2)), (5, tu_i ((tu_gp (fun x9 => tu_wk B x9) q).1)), (6, tu_i (tu_sm (fun x9 => B 4 (B 7 (x9 % (B 0 9).toNat)).toNat) q)), (7, tu_i ((q : Nat) : Int))]) dX4_whole_116 (by rw [hnl]; decide) rfl ?_
                  refine tu_iload 117 X 2 dX4_whole_117 rfl ?_
                  refine tu_if_eq 119 X 134 dX4_whole_119 (by decide) ⟨by decide, by decide⟩ (fun br119 => ?_) (fun br119 => ?_)
                  ·
                    exfalso; omega
                  ·
                    refine tu_iload 122 X 3 dX4_whole_122 rfl ?_
                    refine tu_iload 124 X 7 dX4_whole_124 rfl ?_
                    refine tu_icmp_le 126 X 134 dX4_whole_126 (by decide) (show tu_rg (tu_nv (tu_wk B q)) from by first | assumption | exact ⟨by omega, by omega⟩) (show tu_rg ((tu_gp (fun x9 => tu_wk B x9) q).1) from by first | assumption | exact ⟨by omega, by omega⟩) (fun br126 => ?_) (fun br126 => ?_)
                    ·
                      refine tu_iload 134 X 6 dX4_whole_134 rfl ?_
                      refine tu_istore 136 X (lv' := [(4, tu_i ((tu_gp (fun x9 => tu_wk B x9) q).2)), (3, tu_i ((tu_sm (fun x9 => if tu_wk B x9 < 1000000 then 0 else 1) q) + 0)), (2, tu_i ((tu_sm (fun x9 => if tu_wk B x9 < 1000000 then tu_wk B x9 else 0) q) + (tu_nv (tu_wk B q)))), (9, tu_i 1), (8, tu_i (tu_nv (tu_wk B q))), (0, tu_r 86), (1, tu_i w), (5, tu_i ((tu_gp (fun x9 => tu_wk B x9) q).1)), (6, tu_i (tu_sm (fun x9 => B 4 (B 7 (x9 % (B 0 9).toNat)).toNat) q)), (7, tu_i ((q : Nat) : Int))]) dX4_whole_136 (by rw [hnl]; decide) rfl ?_
                      refine tu_iload 138 X 3 dX4_whole_138 rfl ?_
                      refine tu_if_eq 140 X 155 dX4_whole_140 (by decide) ⟨by decide, by decide⟩ (fun br140 => ?_) (fun br140 => ?_)
                      ·
                        exfalso; omega
                      ·
                        refine tu_iload 143 X 4 dX4_whole_143 rfl ?_
                        refine tu_iload 145 X 7 dX4_whole_145 rfl ?_
                        refine tu_icmp_le 147 X 155 dX4_whole_147 (by decide) (show tu_rg (tu_nv (tu_wk B q)) from by first | assumption | exact ⟨by omega, by omega⟩) (show tu_rg ((tu_gp (fun x9 => tu_wk B x9) q).1) from by first | assumption | exact ⟨by omega, by omega⟩) (fun br147 => ?_) (fun br147 => ?_)
                        ·
                          refine tu_iload 155 X 7 dX4_whole_155 rfl ?_
                          refine tu_istore 157 X (lv' := [(5, tu_i ((tu_gp (fun x9 => tu_wk B x9) q).1)), (4, tu_i ((tu_gp (fun x9 => tu_wk B x9) q).2)), (3, tu_i ((tu_sm (fun x9 => if tu_wk B x9 < 1000000 then 0 else 1) q) + 0)), (2, tu_i ((tu_sm (fun x9 => if tu_wk B x9 < 1000000 then tu_wk B x9 else 0) q) + (tu_nv (tu_wk B q)))), (9, tu_i 1), (8, tu_i (tu_nv (tu_wk B q))), (0, tu_r 86), (1, tu_i w), (6, tu_i (tu_sm (fun x9 => B 4 (B 7 (x9 % (B 0 9).toNat)).toNat) q)), (7, tu_i ((q : Nat) : Int))]) dX4_whole_157 (by rw [hnl]; decide) rfl ?_
                          refine tu_iload 159 X 8 dX4_whole_159 rfl ?_
                          refine tu_aload_n 161 X 6 dX4_whole_161 rfl ?_
                          refine tu_aload_n 162 X 6 dX4_whole_162 rfl ?_
                          refine tu_iload 163 X 9 dX4_whole_163 rfl ?_
                          refine tu_callVI 165 X (st := [tu_r 86, tu_i (tu_sm (fun x9 => B 4 (B 7 (x9 % (B 0 9).toNat)).toNat) q)]) (as := [tu_i ((q : Nat) : Int)]) (c_X4_phraseFor B q (show tu_BO B from by first | assumption | omega | exact ⟨by omega, by omega⟩ | decide) (show tu_MB B (M 87) from by first | assumption | omega | exact ⟨by omega, by omega⟩ | decide) (show (q : Int) < B 0 7 from by first | assumption | omega | exact ⟨by omega, by omega⟩ | decide) (show 1 ≤ B 0 9 from by first | assumption | omega | exact ⟨by omega, by omega⟩ | decide)) sv_RX4_190 dX4_whole_165 rfl (by decide) rfl rfl rfl (Nat.le_of_ble_eq_true rfl) ⟨by decide, by decide⟩ (fun z M' h => ?_)
                          obtain ⟨hM165, hz165⟩ := h
                          refine tu_st_eq rfl (M' := tu_row (tu_row (tu_row (tu_row M 86 r9_71) 92 C_71) 93 W_71) 94 U_71) hM165 ?_
                          refine tu_tp (b := (B 7 (q % (B 0 9).toNat))) hz165 ?_
                          refine tu_st_eq (show _ = [tu_i ((((B 7 (q % (B 0 9).toNat)).toNat) : Nat) : Int), tu_r 86, tu_i (tu_sm (fun x9 => B 4 (B 7 (x9 % (B 0 9).toNat)).toNat) q)] from by first | rfl | (simp only [List.cons.injEq, Sum.inl.injEq, and_true, true_and]; omega)) rfl ?_
                          refine tu_callVI 168 X (st := [tu_i (tu_sm (fun x9 => B 4 (B 7 (x9 % (B 0 9).toNat)).toNat) q)]) (as := [tu_i ((((B 7 (q % (B 0 9).toNat)).toNat) : Nat) : Int)]) (c_X4_phraseLength B ((B 7 (q % (B 0 9).toNat)).toNat) (show tu_BO B from by first | assumption | omega | exact ⟨by omega, by omega⟩ | decide) (show tu_MB B (M 87) from by first | assumption | omega | exact ⟨by omega, by omega⟩ | decide) (show (((B 7 (q % (B 0 9).toNat)).toNat) : Int) < B 0 4 from by first | assumption | omega | exact ⟨by omega, by omega⟩ | decide)) sv_RX4_63 dX4_whole_168 rfl (by decide) rfl rfl rfl (Nat.le_of_ble_eq_true rfl) ⟨by decide, by decide⟩ (fun z M' h => ?_)
                          obtain ⟨hM168, hz168⟩ := h
                          refine tu_st_eq rfl (M' := tu_row (tu_row (tu_row (tu_row M 86 r9_71) 92 C_71) 93 W_71) 94 U_71) hM168 ?_
                          refine tu_tp (b := (B 4 ((B 7 (q % (B 0 9).toNat)).toNat))) hz168 ?_
                          refine tu_iadd 171 X dX4_whole_171 ?_
                          refine tu_istore 172 X (lv' := [(6, tu_i ((tu_sm (fun x9 => B 4 (B 7 (x9 % (B 0 9).toNat)).toNat) q) + (B 4 ((B 7 (q % (B 0 9).toNat)).toNat)))), (5, tu_i ((tu_gp (fun x9 => tu_wk B x9) q).1)), (4, tu_i ((tu_gp (fun x9 => tu_wk B x9) q).2)), (3, tu_i ((tu_sm (fun x9 => if tu_wk B x9 < 1000000 then 0 else 1) q) + 0)), (2, tu_i ((tu_sm (fun x9 => if tu_wk B x9 < 1000000 then tu_wk B x9 else 0) q) + (tu_nv (tu_wk B q)))), (9, tu_i 1), (8, tu_i (tu_nv (tu_wk B q))), (0, tu_r 86), (1, tu_i w), (7, tu_i ((q : Nat) : Int))]) dX4_whole_172 (by rw [hnl]; decide) rfl ?_
                          refine tu_iinc 174 X (lv' := [(7, tu_i (((q : Nat) : Int) + 1)), (6, tu_i ((tu_sm (fun x9 => B 4 (B 7 (x9 % (B 0 9).toNat)).toNat) q) + (B 4 ((B 7 (q % (B 0 9).toNat)).toNat)))), (5, tu_i ((tu_gp (fun x9 => tu_wk B x9) q).1)), (4, tu_i ((tu_gp (fun x9 => tu_wk B x9) q).2)), (3, tu_i ((tu_sm (fun x9 => if tu_wk B x9 < 1000000 then 0 else 1) q) + 0)), (2, tu_i ((tu_sm (fun x9 => if tu_wk B x9 < 1000000 then tu_wk B x9 else 0) q) + (tu_nv (tu_wk B q)))), (9, tu_i 1), (8, tu_i (tu_nv (tu_wk B q))), (0, tu_r 86), (1, tu_i w)]) 9 dX4_whole_174 rfl (by rw [hnl]; decide) rfl ?_
                          refine tu_goto 177 X 42 dX4_whole_177 (by decide) ?_
                          refine tu_jmp [8, 9, 5, 4, 3, 2, 1, 0] (lv' := [(0, tu_r 86), (1, tu_i w), (2, tu_i (tu_sm (fun x9 => if tu_wk B x9 < 1000000 then tu_wk B x9 else 0) (q + 1))), (3, tu_i (tu_sm (fun x9 => if tu_wk B x9 < 1000000 then 0 else 1) (q + 1))), (4, tu_i ((tu_gp (fun x9 => tu_wk B x9) (q + 1)).2)), (5, tu_i ((tu_gp (fun x9 => tu_wk B x9) (q + 1)).1)), (6, tu_i (tu_sm (fun x9 => B 4 (B 7 (x9 % (B 0 9).toNat)).toNat) (q + 1))), (7, tu_i (((q + 1) : Nat) : Int))]) ⟨rfl, rfl, tu_ei (by first | rfl | (simp only [tu_sm]; split <;> omega)), tu_ei (by first | rfl | (simp only [tu_sm]; split <;> omega)), tu_ei (by first | rfl | (simp only [tu_gp]; split <;> first | rfl | (exfalso; omega))), tu_ei (by first | rfl | (simp only [tu_gp]; split <;> first | rfl | omega)), tu_ei (by first | rfl | (rfl)), tu_ei (by first | rfl | omega), trivial⟩ rfl (ih42 (q + 1) r9_71 C_71 W_71 U_71 (by omega) (by exact ⟨h71_1.1.trans h9.1, h71_1.2.trans h9.2⟩) (by simp only [tu_gp]; split <;> omega) (by omega))
                        ·
                          refine tu_iload 150 X 4 dX4_whole_150 rfl ?_
                          refine tu_goto 152 X 157 dX4_whole_152 (by decide) ?_
                          refine tu_istore 157 X (lv' := [(5, tu_i (tu_nv (tu_wk B q))), (4, tu_i ((tu_gp (fun x9 => tu_wk B x9) q).2)), (3, tu_i ((tu_sm (fun x9 => if tu_wk B x9 < 1000000 then 0 else 1) q) + 0)), (2, tu_i ((tu_sm (fun x9 => if tu_wk B x9 < 1000000 then tu_wk B x9 else 0) q) + (tu_nv (tu_wk B q)))), (9, tu_i 1), (8, tu_i (tu_nv (tu_wk B q))), (0, tu_r 86), (1, tu_i w), (6, tu_i (tu_sm (fun x9 => B 4 (B 7 (x9 % (B 0 9).toNat)).toNat) q)), (7, tu_i ((q : Nat) : Int))]) dX4_whole_157 (by rw [hnl]; decide) rfl ?_
                          refine tu_iload 159 X 8 dX4_whole_159 rfl ?_
                          refine tu_aload_n 161 X 6 dX4_whole_161 rfl ?_
                          refine tu_aload_n 162 X 6 dX4_whole_162 rfl ?_
                          refine tu_iload 163 X 9 dX4_whole_163 rfl ?_
                          refine tu_callVI 165 X (st := [tu_r 86, tu_i (tu_sm (fun x9 => B 4 (B 7 (x9 % (B 0 9).toNat)).toNat) q)]) (as := [tu_i ((q : Nat) : Int)]) (c_X4_phraseFor B q (show tu_BO B from by first | assumption | omega | exact ⟨by omega, by omega⟩ | decide) (show tu_MB B (M 87) from by first | assumption | omega | exact ⟨by omega, by omega⟩ | decide) (show (q : Int) < B 0 7 from by first | assumption | omega | exact ⟨by omega, by omega⟩ | decide) (show 1 ≤ B 0 9 from by first | assumption | omega | exact ⟨by omega, by omega⟩ | decide)) sv_RX4_190 dX4_whole_165 rfl (by decide) rfl rfl rfl (Nat.le_of_ble_eq_true rfl) ⟨by decide, by decide⟩ (fun z M' h => ?_)
                          obtain ⟨hM165, hz165⟩ := h
                          refine tu_st_eq rfl (M' := tu_row (tu_row (tu_row (tu_row M 86 r9_71) 92 C_71) 93 W_71) 94 U_71) hM165 ?_
                          refine tu_tp (b := (B 7 (q % (B 0 9).toNat))) hz165 ?_
                          refine tu_st_eq (show _ = [tu_i ((((B 7 (q % (B 0 9).toNat)).toNat) : Nat) : Int), tu_r 86, tu_i (tu_sm (fun x9 => B 4 (B 7 (x9 % (B 0 9).toNat)).toNat) q)] from by first | rfl | (simp only [List.cons.injEq, Sum.inl.injEq, and_true, true_and]; omega)) rfl ?_
                          refine tu_callVI 168 X (st := [tu_i (tu_sm (fun x9 => B 4 (B 7 (x9 % (B 0 9).toNat)).toNat) q)]) (as := [tu_i ((((B 7 (q % (B 0 9).toNat)).toNat) : Nat) : Int)]) (c_X4_phraseLength B ((B 7 (q % (B 0 9).toNat)).toNat) (show tu_BO B from by first | assumption | omega | exact ⟨by omega, by omega⟩ | decide) (show tu_MB B (M 87) from by first | assumption | omega | exact ⟨by omega, by omega⟩ | decide) (show (((B 7 (q % (B 0 9).toNat)).toNat) : Int) < B 0 4 from by first | assumption | omega | exact ⟨by omega, by omega⟩ | decide)) sv_RX4_63 dX4_whole_168 rfl (by decide) rfl rfl rfl (Nat.le_of_ble_eq_true rfl) ⟨by decide, by decide⟩ (fun z M' h => ?_)
                          obtain ⟨hM168, hz168⟩ := h
                          refine tu_st_eq rfl (M' := tu_row (tu_row (tu_row (tu_row M 86 r9_71) 92 C_71) 93 W_71) 94 U_71) hM168 ?_
                          refine tu_tp (b := (B 4 ((B 7 (q % (B 0 9).toNat)).toNat))) hz168 ?_
                          refine tu_iadd 171 X dX4_whole_171 ?_
                          refine tu_istore 172 X (lv' := [(6, tu_i ((tu_sm (fun x9 => B 4 (B 7 (x9 % (B 0 9).toNat)).toNat) q) + (B 4 ((B 7 (q % (B 0 9).toNat)).toNat)))), (5, tu_i (tu_nv (tu_wk B q))), (4, tu_i ((tu_gp (fun x9 => tu_wk B x9) q).2)), (3, tu_i ((tu_sm (fun x9 => if tu_wk B x9 < 1000000 then 0 else 1) q) + 0)), (2, tu_i ((tu_sm (fun x9 => if tu_wk B x9 < 1000000 then tu_wk B x9 else 0) q) + (tu_nv (tu_wk B q)))), (9, tu_i 1), (8, tu_i (tu_nv (tu_wk B q))), (0, tu_r 86), (1, tu_i w), (7, tu_i ((q : Nat) : Int))]) dX4_whole_172 (by rw [hnl]; decide) rfl ?_
                          refine tu_iinc 174 X (lv' := [(7, tu_i (((q : Nat) : Int) + 1)), (6, tu_i ((tu_sm (fun x9 => B 4 (B 7 (x9 % (B 0 9).toNat)).toNat) q) + (B 4 ((B 7 (q % (B 0 9).toNat)).toNat)))), (5, tu_i (tu_nv (tu_wk B q))), (4, tu_i ((tu_gp (fun x9 => tu_wk B x9) q).2)), (3, tu_i ((tu_sm (fun x9 => if tu_wk B x9 < 1000000 then 0 else 1) q) + 0)), (2, tu_i ((tu_sm (fun x9 => if tu_wk B x9 < 1000000 then tu_wk B x9 else 0) q) + (tu_nv (tu_wk B q)))), (9, tu_i 1), (8, tu_i (tu_nv (tu_wk B q))), (0, tu_r 86), (1, tu_i w)]) 9 dX4_whole_174 rfl (by rw [hnl]; decide) rfl ?_
                          refine tu_goto 177 X 42 dX4_whole_177 (by decide) ?_
                          refine tu_jmp [8, 9, 5, 4, 3, 2, 1, 0] (lv' := [(0, tu_r 86), (1, tu_i w), (2, tu_i (tu_sm (fun x9 => if tu_wk B x9 < 1000000 then tu_wk B x9 else 0) (q + 1))), (3, tu_i (tu_sm (fun x9 => if tu_wk B x9 < 1000000 then 0 else 1) (q + 1))), (4, tu_i ((tu_gp (fun x9 => tu_wk B x9) (q + 1)).2)), (5, tu_i ((tu_gp (fun x9 => tu_wk B x9) (q + 1)).1)), (6, tu_i (tu_sm (fun x9 => B 4 (B 7 (x9 % (B 0 9).toNat)).toNat) (q + 1))), (7, tu_i (((q + 1) : Nat) : Int))]) ⟨rfl, rfl, tu_ei (by first | rfl | (simp only [tu_sm]; split <;> omega)), tu_ei (by first | rfl | (simp only [tu_sm]; split <;> omega)), tu_ei (by first | rfl | (simp only [tu_gp]; split <;> first | rfl | (exfalso; omega))), tu_ei (by first | rfl | (simp only [tu_gp]; split <;> first | rfl | omega)), tu_ei (by first | rfl | (rfl)), tu_ei (by first | rfl | omega), trivial⟩ rfl (ih42 (q + 1) r9_71 C_71 W_71 U_71 (by omega) (by exact ⟨h71_1.1.trans h9.1, h71_1.2.trans h9.2⟩) (by simp only [tu_gp]; split <;> omega) (by omega))
                    ·
                      refine tu_iload 129 X 9 dX4_whole_129 rfl ?_
                      refine tu_goto 131 X 136 dX4_whole_131 (by decide) ?_
                      refine tu_istore 136 X (lv' := [(4, tu_i ((q : Nat) : Int)), (3, tu_i ((tu_sm (fun x9 => if tu_wk B x9 < 1000000 then 0 else 1) q) + 0)), (2, tu_i ((tu_sm (fun x9 => if tu_wk B x9 < 1000000 then tu_wk B x9 else 0) q) + (tu_nv (tu_wk B q)))), (9, tu_i 1), (8, tu_i (tu_nv (tu_wk B q))), (0, tu_r 86), (1, tu_i w), (5, tu_i ((tu_gp (fun x9 => tu_wk B x9) q).1)), (6, tu_i (tu_sm (fun x9 => B 4 (B 7 (x9 % (B 0 9).toNat)).toNat) q)), (7, tu_i ((q : Nat) : Int))]) dX4_whole_136 (by rw [hnl]; decide) rfl ?_
                      refine tu_iload 138 X 3 dX4_whole_138 rfl ?_
                      refine tu_if_eq 140 X 155 dX4_whole_140 (by decide) ⟨by decide, by decide⟩ (fun br140 => ?_) (fun br140 => ?_)
                      ·
                        exfalso; omega
                      ·
                        refine tu_iload 143 X 4 dX4_whole_143 rfl ?_
                        refine tu_iload 145 X 7 dX4_whole_145 rfl ?_
                        refine tu_icmp_le 147 X 155 dX4_whole_147 (by decide) (show tu_rg (tu_nv (tu_wk B q)) from by first | assumption | exact ⟨by omega, by omega⟩) (show tu_rg ((tu_gp (fun x9 => tu_wk B x9) q).1) from by first | assumption | exact ⟨by omega, by omega⟩) (fun br147 => ?_) (fun br147 => ?_)
                        ·
                          refine tu_iload 155 X 7 dX4_whole_155 rfl ?_
                          refine tu_istore 157 X (lv' := [(5, tu_i ((tu_gp (fun x9 => tu_wk B x9) q).1)), (4, tu_i ((q : Nat) : Int)), (3, tu_i ((tu_sm (fun x9 => if tu_wk B x9 < 1000000 then 0 else 1) q) + 0)), (2, tu_i ((tu_sm (fun x9 => if tu_wk B x9 < 1000000 then tu_wk B x9 else 0) q) + (tu_nv (tu_wk B q)))), (9, tu_i 1), (8, tu_i (tu_nv (tu_wk B q))), (0, tu_r 86), (1, tu_i w), (6, tu_i (tu_sm (fun x9 => B 4 (B 7 (x9 % (B 0 9).toNat)).toNat) q)), (7, tu_i ((q : Nat) : Int))]) dX4_whole_157 (by rw [hnl]; decide) rfl ?_
                          refine tu_iload 159 X 8 dX4_whole_159 rfl ?_
                          refine tu_aload_n 161 X 6 dX4_whole_161 rfl ?_
                          refine tu_aload_n 162 X 6 dX4_whole_162 rfl ?_
                          refine tu_iload 163 X 9 dX4_whole_163 rfl ?_
                          refine tu_callVI 165 X (st := [tu_r 86, tu_i (tu_sm (fun x9 => B 4 (B 7 (x9 % (B 0 9).toNat)).toNat) q)]) (as := [tu_i ((q : Nat) : Int)]) (c_X4_phraseFor B q (show tu_BO B from by first | assumption | omega | exact ⟨by omega, by omega⟩ | decide) (show tu_MB B (M 87) from by first | assumption | omega | exact ⟨by omega, by omega⟩ | decide) (show (q : Int) < B 0 7 from by first | assumption | omega | exact ⟨by omega, by omega⟩ | decide) (show 1 ≤ B 0 9 from by first | assumption | omega | exact ⟨by omega, by omega⟩ | decide)) sv_RX4_190 dX4_whole_165 rfl (by decide) rfl rfl rfl (Nat.le_of_ble_eq_true rfl) ⟨by decide, by decide⟩ (fun z M' h => ?_)
                          obtain ⟨hM165, hz165⟩ := h
                          refine tu_st_eq rfl (M' := tu_row (tu_row (tu_row (tu_row M 86 r9_71) 92 C_71) 93 W_71) 94 U_71) hM165 ?_
                          refine tu_tp (b := (B 7 (q % (B 0 9).toNat))) hz165 ?_
                          refine tu_st_eq (show _ = [tu_i ((((B 7 (q % (B 0 9).toNat)).toNat) : Nat) : Int), tu_r 86, tu_i (tu_sm (fun x9 => B 4 (B 7 (x9 % (B 0 9).toNat)).toNat) q)] from by first | rfl | (simp only [List.cons.injEq, Sum.inl.injEq, and_true, true_and]; omega)) rfl ?_
                          refine tu_callVI 168 X (st := [tu_i (tu_sm (fun x9 => B 4 (B 7 (x9 % (B 0 9).toNat)).toNat) q)]) (as := [tu_i ((((B 7 (q % (B 0 9).toNat)).toNat) : Nat) : Int)]) (c_X4_phraseLength B ((B 7 (q % (B 0 9).toNat)).toNat) (show tu_BO B from by first | assumption | omega | exact ⟨by omega, by omega⟩ | decide) (show tu_MB B (M 87) from by first | assumption | omega | exact ⟨by omega, by omega⟩ | decide) (show (((B 7 (q % (B 0 9).toNat)).toNat) : Int) < B 0 4 from by first | assumption | omega | exact ⟨by omega, by omega⟩ | decide)) sv_RX4_63 dX4_whole_168 rfl (by decide) rfl rfl rfl (Nat.le_of_ble_eq_true rfl) ⟨by decide, by decide⟩ (fun z M' h => ?_)
                          obtain ⟨hM168, hz168⟩ := h
                          refine tu_st_eq rfl (M' := tu_row (tu_row (tu_row (tu_row M 86 r9_71) 92 C_71) 93 W_71) 94 U_71) hM168 ?_
                          refine tu_tp (b := (B 4 ((B 7 (q % (B 0 9).toNat)).toNat))) hz168 ?_
                          refine tu_iadd 171 X dX4_whole_171 ?_
                          refine tu_istore 172 X (lv' := [(6, tu_i ((tu_sm (fun x9 => B 4 (B 7 (x9 % (B 0 9).toNat)).toNat) q) + (B 4 ((B 7 (q % (B 0 9).toNat)).toNat)))), (5, tu_i ((tu_gp (fun x9 => tu_wk B x9) q).1)), (4, tu_i ((q : Nat) : Int)), (3, tu_i ((tu_sm (fun x9 => if tu_wk B x9 < 1000000 then 0 else 1) q) + 0)), (2, tu_i ((tu_sm (fun x9 => if tu_wk B x9 < 1000000 then tu_wk B x9 else 0) q) + (tu_nv (tu_wk B q)))), (9, tu_i 1), (8, tu_i (tu_nv (tu_wk B q))), (0, tu_r 86), (1, tu_i w), (7, tu_i ((q : Nat) : Int))]) dX4_whole_172 (by rw [hnl]; decide) rfl ?_
                          refine tu_iinc 174 X (lv' := [(7, tu_i (((q : Nat) : Int) + 1)), (6, tu_i ((tu_sm (fun x9 => B 4 (B 7 (x9 % (B 0 9).toNat)).toNat) q) + (B 4 ((B 7 (q % (B 0 9).toNat)).toNat)))), (5, tu_i ((tu_gp (fun x9 => tu_wk B x9) q).1)), (4, tu_i ((q : Nat) : Int)), (3, tu_i ((tu_sm (fun x9 => if tu_wk B x9 < 1000000 then 0 else 1) q) + 0)), (2, tu_i ((tu_sm (fun x9 => if tu_wk B x9 < 1000000 then tu_wk B x9 else 0) q) + (tu_nv (tu_wk B q)))), (9, tu_i 1), (8, tu_i (tu_nv (tu_wk B q))), (0, tu_r 86), (1, tu_i w)]) 9 dX4_whole_174 rfl (by rw [hnl]; decide) rfl ?_
                          refine tu_goto 177 X 42 dX4_whole_177 (by decide) ?_
                          refine tu_jmp [8, 9, 5, 4, 3, 2, 1, 0] (lv' := [(0, tu_r 86), (1, tu_i w), (2, tu_i (tu_sm (fun x9 => if tu_wk B x9 < 1000000 then tu_wk B x9 else 0) (q + 1))), (3, tu_i (tu_sm (fun x9 => if tu_wk B x9 < 1000000 then 0 else 1) (q + 1))), (4, tu_i ((tu_gp (fun x9 => tu_wk B x9) (q + 1)).2)), (5, tu_i ((tu_gp (fun x9 => tu_wk B x9) (q + 1)).1)), (6, tu_i (tu_sm (fun x9 => B 4 (B 7 (x9 % (B 0 9).toNat)).toNat) (q + 1))), (7, tu_i (((q + 1) : Nat) : Int))]) ⟨rfl, rfl, tu_ei (by first | rfl | (simp only [tu_sm]; split <;> omega)), tu_ei (by first | rfl | (simp only [tu_sm]; split <;> omega)), tu_ei (by first | rfl | (simp only [tu_gp]; split <;> first | rfl | (exfalso; omega))), tu_ei (by first | rfl | (simp only [tu_gp]; split <;> first | rfl | omega)), tu_ei (by first | rfl | (rfl)), tu_ei (by first | rfl | omega), trivial⟩ rfl (ih42 (q + 1) r9_71 C_71 W_71 U_71 (by omega) (by exact ⟨h71_1.1.trans h9.1, h71_1.2.trans h9.2⟩) (by simp only [tu_gp]; split <;> omega) (by omega))
                        ·
                          refine tu_iload 150 X 4 dX4_whole_150 rfl ?_
                          refine tu_goto 152 X 157 dX4_whole_152 (by decide) ?_
                          refine tu_istore 157 X (lv' := [(5, tu_i (tu_nv (tu_wk B q))), (4, tu_i ((q : Nat) : Int)), (3, tu_i ((tu_sm (fun x9 => if tu_wk B x9 < 1000000 then 0 else 1) q) + 0)), (2, tu_i ((tu_sm (fun x9 => if tu_wk B x9 < 1000000 then tu_wk B x9 else 0) q) + (tu_nv (tu_wk B q)))), (9, tu_i 1), (8, tu_i (tu_nv (tu_wk B q))), (0, tu_r 86), (1, tu_i w), (6, tu_i (tu_sm (fun x9 => B 4 (B 7 (x9 % (B 0 9).toNat)).toNat) q)), (7, tu_i ((q : Nat) : Int))]) dX4_whole_157 (by rw [hnl]; decide) rfl ?_
                          refine tu_iload 159 X 8 dX4_whole_159 rfl ?_
                          refine tu_aload_n 161 X 6 dX4_whole_161 rfl ?_
                          refine tu_aload_n 162 X 6 dX4_whole_162 rfl ?_
                          refine tu_iload 163 X 9 dX4_whole_163 rfl ?_
                          refine tu_callVI 165 X (st := [tu_r 86, tu_i (tu_sm (fun x9 => B 4 (B 7 (x9 % (B 0 9).toNat)).toNat) q)]) (as := [tu_i ((q : Nat) : Int)]) (c_X4_phraseFor B q (show tu_BO B from by first | assumption | omega | exact ⟨by omega, by omega⟩ | decide) (show tu_MB B (M 87) from by first | assumption | omega | exact ⟨by omega, by omega⟩ | decide) (show (q : Int) < B 0 7 from by first | assumption | omega | exact ⟨by omega, by omega⟩ | decide) (show 1 ≤ B 0 9 from by first | assumption | omega | exact ⟨by omega, by omega⟩ | decide)) sv_RX4_190 dX4_whole_165 rfl (by decide) rfl rfl rfl (Nat.le_of_ble_eq_true rfl) ⟨by decide, by decide⟩ (fun z M' h => ?_)
                          obtain ⟨hM165, hz165⟩ := h
                          refine tu_st_eq rfl (M' := tu_row (tu_row (tu_row (tu_row M 86 r9_71) 92 C_71) 93 W_71) 94 U_71) hM165 ?_
                          refine tu_tp (b := (B 7 (q % (B 0 9).toNat))) hz165 ?_
                          refine tu_st_eq (show _ = [tu_i ((((B 7 (q % (B 0 9).toNat)).toNat) : Nat) : Int), tu_r 86, tu_i (tu_sm (fun x9 => B 4 (B 7 (x9 % (B 0 9).toNat)).toNat) q)] from by first | rfl | (simp only [List.cons.injEq, Sum.inl.injEq, and_true, true_and]; omega)) rfl ?_
                          refine tu_callVI 168 X (st := [tu_i (tu_sm (fun x9 => B 4 (B 7 (x9 % (B 0 9).toNat)).toNat) q)]) (as := [tu_i ((((B 7 (q % (B 0 9).toNat)).toNat) : Nat) : Int)]) (c_X4_phraseLength B ((B 7 (q % (B 0 9).toNat)).toNat) (show tu_BO B from by first | assumption | omega | exact ⟨by omega, by omega⟩ | decide) (show tu_MB B (M 87) from by first | assumption | omega | exact ⟨by omega, by omega⟩ | decide) (show (((B 7 (q % (B 0 9).toNat)).toNat) : Int) < B 0 4 from by first | assumption | omega | exact ⟨by omega, by omega⟩ | decide)) sv_RX4_63 dX4_whole_168 rfl (by decide) rfl rfl rfl (Nat.le_of_ble_eq_true rfl) ⟨by decide, by decide⟩ (fun z M' h => ?_)
                          obtain ⟨hM168, hz168⟩ := h
                          refine tu_st_eq rfl (M' := tu_row (tu_row (tu_row (tu_row M 86 r9_71) 92 C_71) 93 W_71) 94 U_71) hM168 ?_
                          refine tu_tp (b := (B 4 ((B 7 (q % (B 0 9).toNat)).toNat))) hz168 ?_
                          refine tu_iadd 171 X dX4_whole_171 ?_
                          refine tu_istore 172 X (lv' := [(6, tu_i ((tu_sm (fun x9 => B 4 (B 7 (x9 % (B 0 9).toNat)).toNat) q) + (B 4 ((B 7 (q % (B 0 9).toNat)).toNat)))), (5, tu_i (tu_nv (tu_wk B q))), (4, tu_i ((q : Nat) : Int)), (3, tu_i ((tu_sm (fun x9 => if tu_wk B x9 < 1000000 then 0 else 1) q) + 0)), (2, tu_i ((tu_sm (fun x9 => if tu_wk B x9 < 1000000 then tu_wk B x9 else 0) q) + (tu_nv (tu_wk B q)))), (9, tu_i 1), (8, tu_i (tu_nv (tu_wk B q))), (0, tu_r 86), (1, tu_i w), (7, tu_i ((q : Nat) : Int))]) dX4_whole_172 (by rw [hnl]; decide) rfl ?_
                          refine tu_iinc 174 X (lv' := [(7, tu_i (((q : Nat) : Int) + 1)), (6, tu_i ((tu_sm (fun x9 => B 4 (B 7 (x9 % (B 0 9).toNat)).toNat) q) + (B 4 ((B 7 (q % (B 0 9).toNat)).toNat)))), (5, tu_i (tu_nv (tu_wk B q))), (4, tu_i ((q : Nat) : Int)), (3, tu_i ((tu_sm (fun x9 => if tu_wk B x9 < 1000000 then 0 else 1) q) + 0)), (2, tu_i ((tu_sm (fun x9 => if tu_wk B x9 < 1000000 then tu_wk B x9 else 0) q) + (tu_nv (tu_wk B q)))), (9, tu_i 1), (8, tu_i (tu_nv (tu_wk B q))), (0, tu_r 86), (1, tu_i w)]) 9 dX4_whole_174 rfl (by rw [hnl]; decide) rfl ?_
                          refine tu_goto 177 X 42 dX4_whole_177 (by decide) ?_
                          refine tu_jmp [8, 9, 5, 4, 3, 2, 1, 0] (lv' := [(0, tu_r 86), (1, tu_i w), (2, tu_i (tu_sm (fun x9 => if tu_wk B x9 < 1000000 then tu_wk B x9 else 0) (q + 1))), (3, tu_i (tu_sm (fun x9 => if tu_wk B x9 < 1000000 then 0 else 1) (q + 1))), (4, tu_i ((tu_gp (fun x9 => tu_wk B x9) (q + 1)).2)), (5, tu_i ((tu_gp (fun x9 => tu_wk B x9) (q + 1)).1)), (6, tu_i (tu_sm (fun x9 => B 4 (B 7 (x9 % (B 0 9).toNat)).toNat) (q + 1))), (7, tu_i (((q + 1) : Nat) : Int))]) ⟨rfl, rfl, tu_ei (by first | rfl | (simp only [tu_sm]; split <;> omega)), tu_ei (by first | rfl | (simp only [tu_sm]; split <;> omega)), tu_ei (by first | rfl | (simp only [tu_gp]; split <;> first | rfl | (exfalso; omega))), tu_ei (by first | rfl | (simp only [tu_gp]; split <;> first | rfl | omega)), tu_ei (by first | rfl | (rfl)), tu_ei (by first | rfl | omega), trivial⟩ rfl (ih42 (q + 1) r9_71 C_71 W_71 U_71 (by omega) (by exact ⟨h71_1.1.trans h9.1, h71_1.2.trans h9.2⟩) (by simp only [tu_gp]; split <;> omega) (by omega))
      refine tu_jmp [6, 7, 5, 4, 3, 2, 1, 0] (lv' := [(0, tu_r 86), (1, tu_i w), (2, tu_i (tu_sm (fun x9 => if tu_wk B x9 < 1000000 then tu_wk B x9 else 0) 0)), (3, tu_i (tu_sm (fun x9 => if tu_wk B x9 < 1000000 then 0 else 1) 0)), (4, tu_i ((tu_gp (fun x9 => tu_wk B x9) 0).2)), (5, tu_i ((tu_gp (fun x9 => tu_wk B x9) 0).1)), (6, tu_i (tu_sm (fun x9 => B 4 (B 7 (x9 % (B 0 9).toNat)).toNat) 0)), (7, tu_i 0)]) ⟨rfl, rfl, tu_ei (by first | rfl | (simp only [tu_sm]; split <;> omega)), tu_ei (by first | rfl | (simp only [tu_sm]; split <;> omega)), tu_ei (by first | rfl | (simp only [tu_gp]; split <;> first | rfl | (exfalso; omega))), tu_ei (by first | rfl | (simp only [tu_gp]; split <;> first | rfl | omega)), tu_ei (by first | rfl | (rfl)), rfl, trivial⟩ rfl (lp42 (((B 0 7).toNat - 0) + 1) 0 (M 86) (M 92) (M 93) (M 94) (by omega) (by exact ⟨rfl, rfl⟩) (by exact ⟨by show (-1 : Int) ≤ -1; decide, by show (-1 : Int) ≤ 1000000; decide⟩) (by omega))
    ·
      refine tu_bipush 22 X dX4_whole_22 (by decide) ?_
      refine hret 24 _ _ (-5) dX4_whole_24 (fun h => by rw [hrt] at h; cases h) ?_
      exact ⟨_, tu_sd.rf _, Or.inr (Or.inl (⟨by omega, rfl⟩)), rfl⟩
  ·
    have br6 := tu_b_e0 br6
    refine tu_bipush 9 X dX4_whole_9 (by decide) ?_
    refine hret 11 _ _ (-2) dX4_whole_11 (fun h => by rw [hrt] at h; cases h) ?_
    exact ⟨_, tu_sd.rf _, Or.inl (⟨by omega, rfl⟩), rfl⟩
