set_option maxRecDepth 20000 in
set_option maxHeartbeats 400000 in
theorem c_X4_findWay {M : tu_M} (L a k r : Nat → Int) (n m : Nat) (c : Nat → Int)  (hM : tu_LM (M 86) a k n m (L 0)) (hs : M 87 1 = L 1 ∧ M 87 2 = L 2 ∧ M 87 3 = L 3) (hK : tu_LK L a k r n m) (hT : tu_Tx L a k r n m c) (hA : tu_AD L a k r c n m (n + 1) 0 (M 92) (M 93) (M 94)) (h0 : c 0 < 1000000) : tu_MV tu_Y_X4_findWay [tu_r 86] M (fun M' => ∃ (E : Nat → Int) (F : Nat → Int), M' = tu_row (tu_row M 95 E) 96 F ∧ (∀ t, t < n → E t = ((tu_wb L a k r c m t : Nat) : Int) ∧ F t = ((tu_wl L a k r c m t : Nat) : Int))) := by
  have kn := hK.2.1
  have km := hK.2.2.1
  have k0 := hK.2.2.2.1
  have k1 := hK.2.2.2.2.1
  have k2 := hK.2.2.2.2.2.1
  have k3 := hK.2.2.2.2.2.2.1
  refine tu_MV.of (by decide) rfl (Nat.le_of_ble_eq_true rfl) (fun T (X : tu_X T cX4_findWay RX4 4 90) hnl hret => ?_)
  have hret : tu_RV T cX4_findWay (fun M' => ∃ (E : Nat → Int) (F : Nat → Int), M' = tu_row (tu_row M 95 E) 96 F ∧ (∀ t, t < n → E t = ((tu_wb L a k r c m t : Nat) : Int) ∧ F t = ((tu_wl L a k r c m t : Nat) : Int))) := hret
  have hnl : T.2.2.2.2.2.2.2.2.2.2.1 = 3 := hnl
  show tu_W T 0 [(0, tu_r 86)] [] M
  refine tu_iconst 0 X dX4_findWay_0 ?_
  refine tu_istore_n 1 X (lv' := [(1, tu_i 0), (0, tu_r 86)]) dX4_findWay_1 (by rw [hnl]; decide) rfl ?_
  refine tu_iconst 2 X dX4_findWay_2 ?_
  refine tu_istore_n 3 X (lv' := [(2, tu_i 0), (1, tu_i 0), (0, tu_r 86)]) dX4_findWay_3 (by rw [hnl]; decide) rfl ?_
  refine tu_st_eq rfl (M' := tu_row M 95 (M 95)) ((tu_rx M 95).symm) ?_
  refine tu_st_eq rfl (M' := tu_row (tu_row M 95 (M 95)) 96 (M 96)) ((congrArg (fun m => tu_row m 95 (M 95)) ((tu_rx M 96).symm)).trans (tu_rc M (M 96) (M 95) rfl)) ?_
  have lp4 : ∀ (nq : Nat) (s : Nat) (E : Nat → Int) (F : Nat → Int), (s ≤ n) → (∀ t, t < s → E t = ((tu_wb L a k r c m t : Nat) : Int) ∧ F t = ((tu_wl L a k r c m t : Nat) : Int)) → n - s < nq → tu_W T 4 [(0, tu_r 86), (1, tu_i (((tu_wp L a k r c m s) : Nat) : Int)), (2, tu_i ((s : Nat) : Int))] [] (tu_row (tu_row M 95 E) 96 F) := by
    intro nq
    induction nq with
    | zero => intros; omega
    | succ nq ih4 =>
      intro s E F hsn hE hn4
      have hw := tu_way hK hT h0 s hsn
      have hle := tu_wp_le hK s (c := c)
      refine tu_iload_n 4 X 2 dX4_findWay_4 rfl ?_
      refine tu_aload_n 5 X 0 dX4_findWay_5 rfl ?_
      refine tu_getI 6 X (x := M 86 10) dX4_findWay_6 fl_RX4_66 (by decide) rfl rfl rfl ?_
      refine tu_tp (b := ((n : Nat) : Int)) (by exact hM.1.1) ?_
      refine tu_icmp_ge 9 X 61 dX4_findWay_9 (by decide) (show tu_rg ((s : Nat) : Int) from by first | assumption | exact ⟨by omega, by omega⟩) (show tu_rg ((n : Nat) : Int) from by first | assumption | exact ⟨by omega, by omega⟩) (fun br9 => ?_) (fun br9 => ?_)
      ·
        refine hret 61 _ _ dX4_findWay_61 ?_
        have en : s = n := by omega
        subst en
        exact ⟨E, F, rfl, hE⟩
      ·
        have lp12 : ∀ (nq : Nat) (b : Nat), (b ≤ m) → (c (s * 25 + b) < 1000000) → (tu_ff (tu_hx L a k r c s) b (m - b) = tu_wb L a k r c m s) → m - b < nq → tu_W T 12 [(0, tu_r 86), (1, tu_i ((b : Nat) : Int)), (2, tu_i ((s : Nat) : Int))] [] (tu_row (tu_row M 95 E) 96 F) := by
          intro nq
          induction nq with
          | zero => intros; omega
          | succ nq ih12 =>
            intro b hb hcb hff hn12
            have hbm : b < m := by
              rcases Nat.lt_or_ge b m with q | q
              · exact q
              · have := (hT.2 s (Nat.zero_le _) (by omega)).1
                rw [show b = m from by omega] at hcb
                omega
            refine tu_aload_n 12 X 0 dX4_findWay_12 rfl ?_
            refine tu_iload_n 13 X 2 dX4_findWay_13 rfl ?_
            refine tu_iload_n 14 X 1 dX4_findWay_14 rfl ?_
            have hxl := tu_hx_le (c := c) hK s hbm
            refine tu_callVI 15 X (st := []) (as := [tu_i ((s : Nat) : Int), tu_i ((b : Nat) : Int)]) (c_X4_beatsFrom L a k r n m c s b (show tu_LM (M 86) a k n m (L 0) from by first | assumption | omega | exact ⟨by omega, by omega⟩ | decide) (show M 87 1 = L 1 ∧ M 87 2 = L 2 ∧ M 87 3 = L 3 from by first | assumption | omega | exact ⟨by omega, by omega⟩ | decide) (show tu_LK L a k r n m from by first | assumption | omega | exact ⟨by omega, by omega⟩ | decide) (show tu_Tx L a k r n m c from by first | assumption | omega | exact ⟨by omega, by omega⟩ | decide) (show tu_AD L a k r c n m (n + 1) 0 (M 92) (M 93) (M 94) from by first | assumption | omega | exact ⟨by omega, by omega⟩ | decide) (show s < n from by first | assumption | omega | exact ⟨by omega, by omega⟩ | decide) (show b < m from by first | assumption | omega | exact ⟨by omega, by omega⟩ | decide) (show c (s * 25 + b) < 1000000 from by first | assumption | omega | exact ⟨by omega, by omega⟩ | decide)) sv_RX4_112 dX4_findWay_15 rfl (by decide) rfl rfl rfl (Nat.le_of_ble_eq_true rfl) ⟨by decide, by decide⟩ (fun z M' h => ?_)
            obtain ⟨hM15, hz15⟩ := h
            refine tu_st_eq rfl (M' := tu_row (tu_row M 95 E) 96 F) hM15 ?_
            refine tu_tp (b := ((tu_hx L a k r c s b : Nat) : Int)) hz15 ?_
            refine tu_if_ne 18 X 27 dX4_findWay_18 (by decide) (show tu_rg ((tu_hx L a k r c s b : Nat) : Int) from by first | assumption | exact ⟨by omega, by omega⟩) (fun br18 => ?_) (fun br18 => ?_)
            ·
              have eb : tu_wb L a k r c m s = b := by rw [← hff, show m - b = (m - (b + 1)) + 1 from by omega, tu_ff_h (by omega)]
              have el : tu_wl L a k r c m s = tu_hx L a k r c s b := by unfold tu_wl; rw [eb, if_pos hbm]
              refine tu_aload_n 27 X 0 dX4_findWay_27 rfl ?_
              refine tu_getR 28 X dX4_findWay_28 fl_RX4_34 (by decide) rfl rfl ?_
              refine tu_iload_n 31 X 2 dX4_findWay_31 rfl ?_
              refine tu_iload_n 32 X 1 dX4_findWay_32 rfl ?_
              refine tu_iast 33 X (M' := tu_row (tu_row M 95 (tu_u E s ((b : Nat) : Int))) 96 F) s dX4_findWay_33 (by decide) rfl (by decide) (by omega) (by omega) ((tu_rc (tu_row M 95 E) F (tu_u E s ((b : Nat) : Int)) rfl).trans (congrArg (fun m => tu_row m 96 F) (tu_rr M 95 E (tu_u E s ((b : Nat) : Int))))) ?_
              refine tu_aload_n 34 X 0 dX4_findWay_34 rfl ?_
              refine tu_getR 35 X dX4_findWay_35 fl_RX4_37 (by decide) rfl rfl ?_
              refine tu_iload_n 38 X 2 dX4_findWay_38 rfl ?_
              refine tu_aload_n 39 X 0 dX4_findWay_39 rfl ?_
              refine tu_iload_n 40 X 2 dX4_findWay_40 rfl ?_
              refine tu_iload_n 41 X 1 dX4_findWay_41 rfl ?_
              refine tu_callVI 42 X (st := [tu_i ((s : Nat) : Int), tu_r 96]) (as := [tu_i ((s : Nat) : Int), tu_i ((b : Nat) : Int)]) (c_X4_beatsFrom L a k r n m c s b (show tu_LM (M 86) a k n m (L 0) from by first | assumption | omega | exact ⟨by omega, by omega⟩ | decide) (show M 87 1 = L 1 ∧ M 87 2 = L 2 ∧ M 87 3 = L 3 from by first | assumption | omega | exact ⟨by omega, by omega⟩ | decide) (show tu_LK L a k r n m from by first | assumption | omega | exact ⟨by omega, by omega⟩ | decide) (show tu_Tx L a k r n m c from by first | assumption | omega | exact ⟨by omega, by omega⟩ | decide) (show tu_AD L a k r c n m (n + 1) 0 (M 92) (M 93) (M 94) from by first | assumption | omega | exact ⟨by omega, by omega⟩ | decide) (show s < n from by first | assumption | omega | exact ⟨by omega, by omega⟩ | decide) (show b < m from by first | assumption | omega | exact ⟨by omega, by omega⟩ | decide) (show c (s * 25 + b) < 1000000 from by first | assumption | omega | exact ⟨by omega, by omega⟩ | decide)) sv_RX4_112 dX4_findWay_42 rfl (by decide) rfl rfl rfl (Nat.le_of_ble_eq_true rfl) ⟨by decide, by decide⟩ (fun z M' h => ?_)
              obtain ⟨hM42, hz42⟩ := h
              refine tu_st_eq rfl (M' := tu_row (tu_row M 95 (tu_u E s ((b : Nat) : Int))) 96 F) hM42 ?_
              refine tu_tp (b := ((tu_hx L a k r c s b : Nat) : Int)) hz42 ?_
              refine tu_iast 45 X (M' := tu_row (tu_row M 95 (tu_u E s ((b : Nat) : Int))) 96 (tu_u F s ((tu_hx L a k r c s b : Nat) : Int))) s dX4_findWay_45 (by decide) rfl (by decide) (by omega) (by omega) (tu_rr (tu_row M 95 (tu_u E s ((b : Nat) : Int))) 96 F (tu_u F s ((tu_hx L a k r c s b : Nat) : Int))) ?_
              refine tu_iload_n 46 X 1 dX4_findWay_46 rfl ?_
              refine tu_aload_n 47 X 0 dX4_findWay_47 rfl ?_
              refine tu_getR 48 X dX4_findWay_48 fl_RX4_37 (by decide) rfl rfl ?_
              refine tu_iload_n 51 X 2 dX4_findWay_51 rfl ?_
              refine tu_iald 52 X (x := (tu_u F s ((tu_hx L a k r c s b : Nat) : Int)) s) s dX4_findWay_52 (by decide) rfl (by decide) (by omega) (by omega) rfl ?_
              refine tu_tp (b := ((tu_hx L a k r c s b : Nat) : Int)) (by rw [tu_u_s]) ?_
              refine tu_iadd 53 X dX4_findWay_53 ?_
              refine tu_istore_n 54 X (lv' := [(1, tu_i (((b : Nat) : Int) + ((tu_hx L a k r c s b : Nat) : Int))), (0, tu_r 86), (2, tu_i ((s : Nat) : Int))]) dX4_findWay_54 (by rw [hnl]; decide) rfl ?_
              refine tu_iinc 55 X (lv' := [(2, tu_i (((s : Nat) : Int) + 1)), (1, tu_i (((b : Nat) : Int) + ((tu_hx L a k r c s b : Nat) : Int))), (0, tu_r 86)]) 2 dX4_findWay_55 rfl (by rw [hnl]; decide) rfl ?_
              refine tu_goto 58 X 4 dX4_findWay_58 (by decide) ?_
              refine tu_jmp [2, 1, 0] (lv' := [(0, tu_r 86), (1, tu_i (((tu_wp L a k r c m (s + 1)) : Nat) : Int)), (2, tu_i (((s + 1) : Nat) : Int))]) ⟨rfl, tu_ei (by first | rfl | (rw [tu_wp_s, eb, el]; omega)), tu_ei (by first | rfl | omega), trivial⟩ rfl (ih4 (s + 1) (tu_u E s ((b : Nat) : Int)) (tu_u F s ((tu_hx L a k r c s b : Nat) : Int)) (by omega) (by intro t ht; rw [tu_u_if, tu_u_if]; by_cases q : t = s; rw [if_pos q, if_pos q, q, eb, el]; exact ⟨rfl, rfl⟩; rw [if_neg q, if_neg q]; exact hE t (by omega)) (by omega))
            ·
              refine tu_iinc 21 X (lv' := [(1, tu_i (((b : Nat) : Int) + 1)), (0, tu_r 86), (2, tu_i ((s : Nat) : Int))]) 1 dX4_findWay_21 rfl (by rw [hnl]; decide) rfl ?_
              refine tu_goto 24 X 12 dX4_findWay_24 (by decide) ?_
              refine tu_jmp [1, 0, 2] (lv' := [(0, tu_r 86), (1, tu_i (((b + 1) : Nat) : Int)), (2, tu_i ((s : Nat) : Int))]) ⟨rfl, tu_ei (by first | rfl | omega), rfl, trivial⟩ rfl (ih12 (b + 1) (by omega) (by have := (tu_free hK hT (by omega) hbm hcb (by omega)).2; omega) (by have e := hff; rw [show m - b = (m - (b + 1)) + 1 from by omega, tu_ff_s (by omega)] at e; exact e) (by omega))
        refine tu_jmp [0, 1, 2] (lv' := [(0, tu_r 86), (1, tu_i (((tu_wp L a k r c m s) : Nat) : Int)), (2, tu_i ((s : Nat) : Int))]) ⟨rfl, rfl, rfl, trivial⟩ rfl (lp12 ((m - (tu_wp L a k r c m s)) + 1) (tu_wp L a k r c m s) (by omega) (by exact hw.1) (by rfl) (by omega))
  refine tu_jmp [2, 1, 0] (lv' := [(0, tu_r 86), (1, tu_i (((tu_wp L a k r c m 0) : Nat) : Int)), (2, tu_i 0)]) ⟨rfl, tu_ei (by first | rfl | (rw [tu_wp_s, eb, el]; omega)), rfl, trivial⟩ rfl (lp4 ((n - 0) + 1) 0 (M 95) (M 96) (by omega) (by intro t ht; omega) (by omega))
set_option maxRecDepth 20000 in
set_option maxHeartbeats 400000 in
theorem c_X4_freeBeats {M : tu_M} (L a k r : Nat → Int) (n m : Nat) (c : Nat → Int)  (hM : tu_LM (M 86) a k n m (L 0)) (hs : M 87 1 = L 1 ∧ M 87 2 = L 2 ∧ M 87 3 = L 3) (hK : tu_LK L a k r n m) (hT : tu_Tx L a k r n m c) (hA : tu_AD L a k r c n m (n + 1) 0 (M 92) (M 93) (M 94)) (h0 : c 0 < 1000000) : tu_MI tu_Y_X4_freeBeats [tu_r 86] M (fun z M' => ∃ (E : Nat → Int) (F : Nat → Int), M' = tu_row (tu_row M 95 E) 96 F ∧ z = tu_fb L a k r c n m) := by
  have kn := hK.2.1
  have km := hK.2.2.1
  have k0 := hK.2.2.2.1
  have k1 := hK.2.2.2.2.1
  have k2 := hK.2.2.2.2.2.1
  have k3 := hK.2.2.2.2.2.2.1
  refine tu_MI.of (ty := .int) (by decide) rfl (by first | exact Or.inl rfl | exact Or.inr rfl) (Nat.le_of_ble_eq_true rfl) (fun T (X : tu_X T cX4_freeBeats RX4 5 112) hnl hrt hret => ?_)
  have hret : tu_RI T cX4_freeBeats (fun z M' => ∃ (E : Nat → Int) (F : Nat → Int), M' = tu_row (tu_row M 95 E) 96 F ∧ z = tu_fb L a k r c n m) := hret
  have hnl : T.2.2.2.2.2.2.2.2.2.2.1 = 3 := hnl
  show tu_W T 0 [(0, tu_r 86)] [] M
  refine tu_aload_n 0 X 0 dX4_freeBeats_0 rfl ?_
  refine tu_callVV 1 X (st := []) (as := []) (c_X4_findWay L a k r n m c (show tu_LM (M 86) a k n m (L 0) from by first | assumption | omega | exact ⟨by omega, by omega⟩ | decide) (show M 87 1 = L 1 ∧ M 87 2 = L 2 ∧ M 87 3 = L 3 from by first | assumption | omega | exact ⟨by omega, by omega⟩ | decide) (show tu_LK L a k r n m from by first | assumption | omega | exact ⟨by omega, by omega⟩ | decide) (show tu_Tx L a k r n m c from by first | assumption | omega | exact ⟨by omega, by omega⟩ | decide) (show tu_AD L a k r c n m (n + 1) 0 (M 92) (M 93) (M 94) from by first | assumption | omega | exact ⟨by omega, by omega⟩ | decide) (show c 0 < 1000000 from by first | assumption | omega | exact ⟨by omega, by omega⟩ | decide)) sv_RX4_122 dX4_freeBeats_1 rfl (by decide) rfl rfl rfl (Nat.le_of_ble_eq_true rfl) ⟨by decide, by decide⟩ (fun M' h => ?_)
  obtain ⟨E_1, F_1, hM1, h1_0⟩ := h
  refine tu_st_eq rfl (M' := tu_row (tu_row M 95 E_1) 96 F_1) hM1 ?_
  refine tu_aload_n 4 X 0 dX4_freeBeats_4 rfl ?_
  refine tu_getI 5 X (x := M 86 14) dX4_freeBeats_5 fl_RX4_78 (by decide) rfl rfl rfl ?_
  refine tu_callSI 8 X (st := []) (as := [tu_i (M 86 14)]) (c_X4_bits (M 86 14) ) ss_RX4_125 dX4_freeBeats_8 rfl (Nat.le_of_ble_eq_true rfl) ⟨by decide, by decide⟩ (fun z M' h => ?_)
  obtain ⟨hM8, hz8⟩ := h
  refine tu_st_eq rfl (M' := tu_row (tu_row M 95 E_1) 96 F_1) hM8 ?_
  refine tu_tp (b := (tu_sm (fun i9 => tu_bi (M 86 14) i9) 24)) hz8 ?_
  refine tu_tp (b := (tu_sm (fun q => if k q = 0 then 0 else 1) m)) (by exact tu_bits_s hM.2.1.2.2 (by omega) (fun i hi => by show (if k i = 0 then (0 : Int) else 1) = 0 ∨ (if k i = 0 then (0 : Int) else 1) = 1; split; exact Or.inl rfl; exact Or.inr rfl)) ?_
  refine tu_istore_n 11 X (lv' := [(1, tu_i (tu_sm (fun q => if k q = 0 then 0 else 1) m)), (0, tu_r 86)]) dX4_freeBeats_11 (by rw [hnl]; decide) rfl ?_
  refine tu_iconst 12 X dX4_freeBeats_12 ?_
  refine tu_istore_n 13 X (lv' := [(2, tu_i 0), (1, tu_i (tu_sm (fun q => if k q = 0 then 0 else 1) m)), (0, tu_r 86)]) dX4_freeBeats_13 (by rw [hnl]; decide) rfl ?_
  have lp14 : ∀ (nq : Nat) (j : Nat), (j ≤ n) → n - j < nq → tu_W T 14 [(0, tu_r 86), (1, tu_i (tu_sm (fun q => if k q = 0 then 0 else 1) m - tu_sm (fun t => ((tu_wl L a k r c m t : Nat) : Int)) j)), (2, tu_i ((j : Nat) : Int))] [] (tu_row (tu_row M 95 E_1) 96 F_1) := by
    intro nq
    induction nq with
    | zero => intros; omega
    | succ nq ih14 =>
      intro j hj hn14
      refine tu_iload_n 14 X 2 dX4_freeBeats_14 rfl ?_
      refine tu_aload_n 15 X 0 dX4_freeBeats_15 rfl ?_
      refine tu_getI 16 X (x := M 86 10) dX4_freeBeats_16 fl_RX4_66 (by decide) rfl rfl rfl ?_
      refine tu_tp (b := ((n : Nat) : Int)) (by exact hM.1.1) ?_
      refine tu_icmp_ge 19 X 37 dX4_freeBeats_19 (by decide) (show tu_rg ((j : Nat) : Int) from by first | assumption | exact ⟨by omega, by omega⟩) (show tu_rg ((n : Nat) : Int) from by first | assumption | exact ⟨by omega, by omega⟩) (fun br19 => ?_) (fun br19 => ?_)
      ·
        refine tu_iload_n 37 X 1 dX4_freeBeats_37 rfl ?_
        refine hret 38 _ _ (tu_sm (fun q => if k q = 0 then 0 else 1) m - tu_sm (fun t => ((tu_wl L a k r c m t : Nat) : Int)) j) dX4_freeBeats_38 (fun h => by rw [hrt] at h; cases h) ?_
        have en : j = n := by omega
        subst en
        exact ⟨_, _, rfl, rfl⟩
      ·
        refine tu_iload_n 22 X 1 dX4_freeBeats_22 rfl ?_
        refine tu_aload_n 23 X 0 dX4_freeBeats_23 rfl ?_
        refine tu_getR 24 X dX4_freeBeats_24 fl_RX4_37 (by decide) rfl rfl ?_
        refine tu_iload_n 27 X 2 dX4_freeBeats_27 rfl ?_
        refine tu_iald 28 X (x := F_1 j) j dX4_freeBeats_28 (by decide) rfl (by decide) (by omega) (by omega) rfl ?_
        refine tu_tp (b := ((tu_wl L a k r c m j : Nat) : Int)) (by exact (h1_0 j (by omega)).2) ?_
        refine tu_isub 29 X dX4_freeBeats_29 ?_
        refine tu_istore_n 30 X (lv' := [(1, tu_i ((tu_sm (fun q => if k q = 0 then 0 else 1) m - tu_sm (fun t => ((tu_wl L a k r c m t : Nat) : Int)) j) - ((tu_wl L a k r c m j : Nat) : Int))), (0, tu_r 86), (2, tu_i ((j : Nat) : Int))]) dX4_freeBeats_30 (by rw [hnl]; decide) rfl ?_
        refine tu_iinc 31 X (lv' := [(2, tu_i (((j : Nat) : Int) + 1)), (1, tu_i ((tu_sm (fun q => if k q = 0 then 0 else 1) m - tu_sm (fun t => ((tu_wl L a k r c m t : Nat) : Int)) j) - ((tu_wl L a k r c m j : Nat) : Int))), (0, tu_r 86)]) 2 dX4_freeBeats_31 rfl (by rw [hnl]; decide) rfl ?_
        refine tu_goto 34 X 14 dX4_freeBeats_34 (by decide) ?_
        refine tu_jmp [2, 1, 0] (lv' := [(0, tu_r 86), (1, tu_i (tu_sm (fun q => if k q = 0 then 0 else 1) m - tu_sm (fun t => ((tu_wl L a k r c m t : Nat) : Int)) (j + 1))), (2, tu_i (((j + 1) : Nat) : Int))]) ⟨rfl, tu_ei (by first | rfl | (simp only [tu_sm]; omega)), tu_ei (by first | rfl | omega), trivial⟩ rfl (ih14 (j + 1) (by omega) (by omega))
  refine tu_jmp [2, 1, 0] (lv' := [(0, tu_r 86), (1, tu_i (tu_sm (fun q => if k q = 0 then 0 else 1) m - tu_sm (fun t => ((tu_wl L a k r c m t : Nat) : Int)) 0)), (2, tu_i 0)]) ⟨rfl, tu_ei (by first | rfl | (simp only [tu_sm]; omega)), rfl, trivial⟩ rfl (lp14 ((n - 0) + 1) 0 (by omega) (by omega))
set_option maxRecDepth 20000 in
set_option maxHeartbeats 400000 in
theorem c_X4_hurting {M : tu_M} (L a k r : Nat → Int) (n m : Nat) (c : Nat → Int)  (hM : tu_LM (M 86) a k n m (L 0)) (hs : M 87 1 = L 1 ∧ M 87 2 = L 2 ∧ M 87 3 = L 3) (hK : tu_LK L a k r n m) (hT : tu_Tx L a k r n m c) (hA : tu_AD L a k r c n m (n + 1) 0 (M 92) (M 93) (M 94)) (h0 : c 0 < 1000000) : tu_MI tu_Y_X4_hurting [tu_r 86] M (fun z M' => ∃ (E : Nat → Int) (F : Nat → Int), M' = tu_row (tu_row M 95 E) 96 F ∧ z = tu_hs L a k r c n m) := by
  have kn := hK.2.1
  have km := hK.2.2.1
  have k0 := hK.2.2.2.1
  have k1 := hK.2.2.2.2.1
  have k2 := hK.2.2.2.2.2.1
  have k3 := hK.2.2.2.2.2.2.1
  refine tu_MI.of (ty := .int) (by decide) rfl (by first | exact Or.inl rfl | exact Or.inr rfl) (Nat.le_of_ble_eq_true rfl) (fun T (X : tu_X T cX4_hurting RX4 5 112) hnl hrt hret => ?_)
  have hret : tu_RI T cX4_hurting (fun z M' => ∃ (E : Nat → Int) (F : Nat → Int), M' = tu_row (tu_row M 95 E) 96 F ∧ z = tu_hs L a k r c n m) := hret
  have hnl : T.2.2.2.2.2.2.2.2.2.2.1 = 3 := hnl
  show tu_W T 0 [(0, tu_r 86)] [] M
  refine tu_aload_n 0 X 0 dX4_hurting_0 rfl ?_
  refine tu_callVV 1 X (st := []) (as := []) (c_X4_findWay L a k r n m c (show tu_LM (M 86) a k n m (L 0) from by first | assumption | omega | exact ⟨by omega, by omega⟩ | decide) (show M 87 1 = L 1 ∧ M 87 2 = L 2 ∧ M 87 3 = L 3 from by first | assumption | omega | exact ⟨by omega, by omega⟩ | decide) (show tu_LK L a k r n m from by first | assumption | omega | exact ⟨by omega, by omega⟩ | decide) (show tu_Tx L a k r n m c from by first | assumption | omega | exact ⟨by omega, by omega⟩ | decide) (show tu_AD L a k r c n m (n + 1) 0 (M 92) (M 93) (M 94) from by first | assumption | omega | exact ⟨by omega, by omega⟩ | decide) (show c 0 < 1000000 from by first | assumption | omega | exact ⟨by omega, by omega⟩ | decide)) sv_RX4_122 dX4_hurting_1 rfl (by decide) rfl rfl rfl (Nat.le_of_ble_eq_true rfl) ⟨by decide, by decide⟩ (fun M' h => ?_)
  obtain ⟨E_1, F_1, hM1, h1_0⟩ := h
  refine tu_st_eq rfl (M' := tu_row (tu_row M 95 E_1) 96 F_1) hM1 ?_
  refine tu_iconst 4 X dX4_hurting_4 ?_
  refine tu_istore_n 5 X (lv' := [(1, tu_i 0), (0, tu_r 86)]) dX4_hurting_5 (by rw [hnl]; decide) rfl ?_
  refine tu_iconst 6 X dX4_hurting_6 ?_
  refine tu_istore_n 7 X (lv' := [(2, tu_i 0), (1, tu_i 0), (0, tu_r 86)]) dX4_hurting_7 (by rw [hnl]; decide) rfl ?_
  have lp8 : ∀ (nq : Nat) (j : Nat), (j ≤ n) → n - j < nq → tu_W T 8 [(0, tu_r 86), (1, tu_i (tu_sm (fun t => if ¬ (a t = 1 ↔ k (tu_wb L a k r c m t) = 2) then 1 else 0) j)), (2, tu_i ((j : Nat) : Int))] [] (tu_row (tu_row M 95 E_1) 96 F_1) := by
    intro nq
    induction nq with
    | zero => intros; omega
    | succ nq ih8 =>
      intro j hj hn8
      refine tu_iload_n 8 X 2 dX4_hurting_8 rfl ?_
      refine tu_aload_n 9 X 0 dX4_hurting_9 rfl ?_
      refine tu_getI 10 X (x := M 86 10) dX4_hurting_10 fl_RX4_66 (by decide) rfl rfl rfl ?_
      refine tu_tp (b := ((n : Nat) : Int)) (by exact hM.1.1) ?_
      refine tu_icmp_ge 13 X 44 dX4_hurting_13 (by decide) (show tu_rg ((j : Nat) : Int) from by first | assumption | exact ⟨by omega, by omega⟩) (show tu_rg ((n : Nat) : Int) from by first | assumption | exact ⟨by omega, by omega⟩) (fun br13 => ?_) (fun br13 => ?_)
      ·
        refine tu_iload_n 44 X 1 dX4_hurting_44 rfl ?_
        refine hret 45 _ _ (tu_sm (fun t => if ¬ (a t = 1 ↔ k (tu_wb L a k r c m t) = 2) then 1 else 0) j) dX4_hurting_45 (fun h => by rw [hrt] at h; cases h) ?_
        have en : j = n := by omega
        subst en
        exact ⟨_, _, rfl, rfl⟩
      ·
        have hw := (tu_way hK hT h0 j (by omega)).2 (by omega)
        refine tu_iload_n 16 X 1 dX4_hurting_16 rfl ?_
        refine tu_aload_n 17 X 0 dX4_hurting_17 rfl ?_
        refine tu_iload_n 18 X 2 dX4_hurting_18 rfl ?_
        refine tu_aload_n 19 X 0 dX4_hurting_19 rfl ?_
        refine tu_getR 20 X dX4_hurting_20 fl_RX4_34 (by decide) rfl rfl ?_
        refine tu_iload_n 23 X 2 dX4_hurting_23 rfl ?_
        refine tu_iald 24 X (x := E_1 j) j dX4_hurting_24 (by decide) rfl (by decide) (by omega) (by omega) rfl ?_
        refine tu_tp (b := ((tu_wb L a k r c m j : Nat) : Int)) (by exact (h1_0 j (by omega)).1) ?_
        refine tu_st_eq (show _ = [tu_i (((tu_wb L a k r c m j) : Nat) : Int), tu_i ((j : Nat) : Int), tu_r 86, tu_i (tu_sm (fun t => if ¬ (a t = 1 ↔ k (tu_wb L a k r c m t) = 2) then 1 else 0) j)] from by first | rfl | (simp only [List.cons.injEq, Sum.inl.injEq, and_true, true_and]; omega)) rfl ?_
        refine tu_callVI 25 X (st := [tu_i (tu_sm (fun t => if ¬ (a t = 1 ↔ k (tu_wb L a k r c m t) = 2) then 1 else 0) j)]) (as := [tu_i ((j : Nat) : Int), tu_i (((tu_wb L a k r c m j) : Nat) : Int)]) (c_X4_hurts L a k r n m j (tu_wb L a k r c m j) (show tu_LM (M 86) a k n m (L 0) from by first | assumption | omega | exact ⟨by omega, by omega⟩ | decide) (show M 87 1 = L 1 ∧ M 87 2 = L 2 ∧ M 87 3 = L 3 from by first | assumption | omega | exact ⟨by omega, by omega⟩ | decide) (show tu_LK L a k r n m from by first | assumption | omega | exact ⟨by omega, by omega⟩ | decide) (show j < n from by omega) (show (tu_wb L a k r c m j) < m from by exact hw.1)) sv_RX4_89 dX4_hurting_25 rfl (by decide) rfl rfl rfl (Nat.le_of_ble_eq_true rfl) ⟨by decide, by decide⟩ (fun z M' h => ?_)
        obtain ⟨hM25, hz25⟩ := h
        refine tu_st_eq rfl (M' := tu_row (tu_row M 95 E_1) 96 F_1) hM25 ?_
        refine tu_tp (b := tu_b (¬ (a j = 1 ↔ k (tu_wb L a k r c m j) = 2))) hz25 ?_
        refine tu_if_eq 28 X 35 dX4_hurting_28 (by decide) tu_b_rg (fun br28 => ?_) (fun br28 => ?_)
        ·
          have br28 := tu_b_e0 br28
          refine tu_iconst 35 X dX4_hurting_35 ?_
          refine tu_iadd 36 X dX4_hurting_36 ?_
          refine tu_istore_n 37 X (lv' := [(1, tu_i (tu_sm (fun t => if ¬ (a t = 1 ↔ k (tu_wb L a k r c m t) = 2) then 1 else 0) j + 0)), (0, tu_r 86), (2, tu_i ((j : Nat) : Int))]) dX4_hurting_37 (by rw [hnl]; decide) rfl ?_
          refine tu_iinc 38 X (lv' := [(2, tu_i (((j : Nat) : Int) + 1)), (1, tu_i (tu_sm (fun t => if ¬ (a t = 1 ↔ k (tu_wb L a k r c m t) = 2) then 1 else 0) j + 0)), (0, tu_r 86)]) 2 dX4_hurting_38 rfl (by rw [hnl]; decide) rfl ?_
          refine tu_goto 41 X 8 dX4_hurting_41 (by decide) ?_
          refine tu_jmp [2, 1, 0] (lv' := [(0, tu_r 86), (1, tu_i (tu_sm (fun t => if ¬ (a t = 1 ↔ k (tu_wb L a k r c m t) = 2) then 1 else 0) (j + 1))), (2, tu_i (((j + 1) : Nat) : Int))]) ⟨rfl, tu_ei (by first | rfl | (show _ + _ = _ + (if ¬ (a j = 1 ↔ k (tu_wb L a k r c m j) = 2) then (1 : Int) else 0); first | rw [if_pos br28] | rw [if_neg br28])), tu_ei (by first | rfl | omega), trivial⟩ rfl (ih8 (j + 1) (by omega) (by omega))
        ·
          have br28 := tu_b_n0 br28
          refine tu_iconst 31 X dX4_hurting_31 ?_
          refine tu_goto 32 X 36 dX4_hurting_32 (by decide) ?_
          refine tu_iadd 36 X dX4_hurting_36 ?_
          refine tu_istore_n 37 X (lv' := [(1, tu_i (tu_sm (fun t => if ¬ (a t = 1 ↔ k (tu_wb L a k r c m t) = 2) then 1 else 0) j + 1)), (0, tu_r 86), (2, tu_i ((j : Nat) : Int))]) dX4_hurting_37 (by rw [hnl]; decide) rfl ?_
          refine tu_iinc 38 X (lv' := [(2, tu_i (((j : Nat) : Int) + 1)), (1, tu_i (tu_sm (fun t => if ¬ (a t = 1 ↔ k (tu_wb L a k r c m t) = 2) then 1 else 0) j + 1)), (0, tu_r 86)]) 2 dX4_hurting_38 rfl (by rw [hnl]; decide) rfl ?_
          refine tu_goto 41 X 8 dX4_hurting_41 (by decide) ?_
          refine tu_jmp [2, 1, 0] (lv' := [(0, tu_r 86), (1, tu_i (tu_sm (fun t => if ¬ (a t = 1 ↔ k (tu_wb L a k r c m t) = 2) then 1 else 0) (j + 1))), (2, tu_i (((j + 1) : Nat) : Int))]) ⟨rfl, tu_ei (by first | rfl | (show _ + _ = _ + (if ¬ (a j = 1 ↔ k (tu_wb L a k r c m j) = 2) then (1 : Int) else 0); first | rw [if_pos br28] | rw [if_neg br28])), tu_ei (by first | rfl | omega), trivial⟩ rfl (ih8 (j + 1) (by omega) (by omega))
  refine tu_jmp [2, 1, 0] (lv' := [(0, tu_r 86), (1, tu_i (tu_sm (fun t => if ¬ (a t = 1 ↔ k (tu_wb L a k r c m t) = 2) then 1 else 0) 0)), (2, tu_i 0)]) ⟨rfl, tu_ei (by first | rfl | (show _ + _ = _ + (if ¬ (a j = 1 ↔ k (tu_wb L a k r c m j) = 2) then (1 : Int) else 0); first | rw [if_pos br28] | rw [if_neg br28])), rfl, trivial⟩ rfl (lp8 ((n - 0) + 1) 0 (by omega) (by omega))
