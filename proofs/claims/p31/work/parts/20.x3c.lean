theorem tu_vs_e {f : Nat → Int} {o j p r : Nat} {a b : Int} (hp : p = o + 2 * j) (hr : r = o + 2 * j + 1) : tu_u (tu_u (tu_vs f o a b j) p (a + (j : Int))) r b = tu_vs f o a b (j + 1) := by
  subst hp; subst hr; rfl
set_option maxRecDepth 20000 in
set_option maxHeartbeats 4000000 in
theorem c_X3_phrase {M : tu_M} (p w : Int) (hB : tu_OK M) (rp : tu_rg p) (rw : tu_rg w) : tu_MI tu_Y_X3_phrase [tu_r 0, tu_i p, tu_i w] M (fun z M' => ∃ (y : Int), M' = M ∧ (((¬ (0 ≤ p ∧ p < M 1 4)) ∧ y = -1) ∨ (((0 ≤ p ∧ p < M 1 4) ∧ w = 0) ∧ y = M 5 p.toNat) ∨ (((0 ≤ p ∧ p < M 1 4) ∧ w = 1) ∧ y = tu_ti (fun q => M 6 (p.toNat * 24 + q)) 2 (M 5 p.toNat).toNat) ∨ (((0 ≤ p ∧ p < M 1 4) ∧ w = 2) ∧ y = tu_ti (fun q => M 6 (p.toNat * 24 + q)) 1 (M 5 p.toNat).toNat) ∨ (((0 ≤ p ∧ p < M 1 4) ∧ w = 3) ∧ y = tu_ti (fun q => M 6 (p.toNat * 24 + q)) 0 (M 5 p.toNat).toNat) ∨ (((0 ≤ p ∧ p < M 1 4) ∧ w = 4) ∧ y = tu_ti (M 8) p (M 1 9).toNat) ∨ (((0 ≤ p ∧ p < M 1 4) ∧ w = 5) ∧ y = tu_lg (fun q => M 6 (p.toNat * 24 + q)) (M 5 p.toNat).toNat) ∨ (((0 ≤ p ∧ p < M 1 4) ∧ (w < 0 ∨ 5 < w)) ∧ y = -2)) ∧ z = y) := by
  have cn := hB.cnt
  refine tu_MI.of (ty := .int) (by decide) rfl (by first | exact Or.inl rfl | exact Or.inr rfl) (Nat.le_of_ble_eq_true rfl) (fun T (X : tu_X T cX3_phrase RX3 2 45) hnl hrt hret => ?_)
  have hret : tu_RI T cX3_phrase (fun z M' => ∃ (y : Int), M' = M ∧ (((¬ (0 ≤ p ∧ p < M 1 4)) ∧ y = -1) ∨ (((0 ≤ p ∧ p < M 1 4) ∧ w = 0) ∧ y = M 5 p.toNat) ∨ (((0 ≤ p ∧ p < M 1 4) ∧ w = 1) ∧ y = tu_ti (fun q => M 6 (p.toNat * 24 + q)) 2 (M 5 p.toNat).toNat) ∨ (((0 ≤ p ∧ p < M 1 4) ∧ w = 2) ∧ y = tu_ti (fun q => M 6 (p.toNat * 24 + q)) 1 (M 5 p.toNat).toNat) ∨ (((0 ≤ p ∧ p < M 1 4) ∧ w = 3) ∧ y = tu_ti (fun q => M 6 (p.toNat * 24 + q)) 0 (M 5 p.toNat).toNat) ∨ (((0 ≤ p ∧ p < M 1 4) ∧ w = 4) ∧ y = tu_ti (M 8) p (M 1 9).toNat) ∨ (((0 ≤ p ∧ p < M 1 4) ∧ w = 5) ∧ y = tu_lg (fun q => M 6 (p.toNat * 24 + q)) (M 5 p.toNat).toNat) ∨ (((0 ≤ p ∧ p < M 1 4) ∧ (w < 0 ∨ 5 < w)) ∧ y = -2)) ∧ z = y) := hret
  have hnl : T.2.2.2.2.2.2.2.2.2.2.1 = 3 := hnl
  show tu_W T 0 [(0, tu_r 0), (1, tu_i p), (2, tu_i w)] [] M
  refine tu_aload_n 0 X 0 dX3_phrase_0 rfl ?_
  refine tu_getR 1 X dX3_phrase_1 fl_RX3_10 (by decide) rfl rfl ?_
  refine tu_iload_n 4 X 1 dX3_phrase_4 rfl ?_
  refine tu_callVI 5 X (st := []) (as := [tu_i p]) (c_X0_hasPhrase p (show tu_OK M from by first | assumption | omega | exact ⟨by omega, by omega⟩ | decide) (show tu_rg p from by first | assumption | omega | exact ⟨by omega, by omega⟩ | decide)) sv_RX3_103 dX3_phrase_5 rfl (by decide) rfl rfl rfl (Nat.le_of_ble_eq_true rfl) ⟨by decide, by decide⟩ (fun z M' h => ?_)
  obtain ⟨hM5, hz5⟩ := h
  refine tu_st_eq rfl (M' := M) hM5 ?_
  refine tu_tp (b := tu_b (0 ≤ p ∧ p < M 1 4)) hz5 ?_
  refine tu_if_ne 8 X 13 dX3_phrase_8 (by decide) tu_b_rg (fun br8 => ?_) (fun br8 => ?_)
  ·
    have br8 := tu_b_n0 br8
    refine tu_iload_n 13 X 2 dX3_phrase_13 rfl ?_
    rcases (show w = 0 ∨ w = 1 ∨ w = 2 ∨ w = 3 ∨ w = 4 ∨ w = 5 ∨ (w < 0 ∨ 5 < w) from by omega) with br14 | br14 | br14 | br14 | br14 | br14 | br14
    ·
      refine tu_tabIn 14 X 52 dX3_phrase_14 (show tu_rg w from by first | assumption | exact ⟨by omega, by omega⟩) (by omega) (by omega) (by rw [br14]; rfl) (by decide) ?_
      refine tu_aload_n 52 X 0 dX3_phrase_52 rfl ?_
      refine tu_getR 53 X dX3_phrase_53 fl_RX3_10 (by decide) rfl rfl ?_
      refine tu_getR 56 X dX3_phrase_56 fl_RX3_144 (by decide) rfl rfl ?_
      refine tu_iload_n 59 X 1 dX3_phrase_59 rfl ?_
      refine tu_iald 60 X (x := M 5 p.toNat) p.toNat dX3_phrase_60 (by decide) rfl (by decide) (by omega) (by omega) rfl ?_
      refine hret 61 _ _ (M 5 p.toNat) dX3_phrase_61 (fun h => by rw [hrt] at h; cases h) ?_
      exact ⟨_, rfl, Or.inr (Or.inl (⟨by omega, rfl⟩)), rfl⟩
    ·
      refine tu_tabIn 14 X 62 dX3_phrase_14 (show tu_rg w from by first | assumption | exact ⟨by omega, by omega⟩) (by omega) (by omega) (by rw [br14]; rfl) (by decide) ?_
      refine tu_aload_n 62 X 0 dX3_phrase_62 rfl ?_
      refine tu_getR 63 X dX3_phrase_63 fl_RX3_10 (by decide) rfl rfl ?_
      refine tu_iload_n 66 X 1 dX3_phrase_66 rfl ?_
      refine tu_iconst 67 X dX3_phrase_67 ?_
      refine tu_st_eq (show _ = [tu_i 2, tu_i ((p.toNat : Nat) : Int), tu_r 1] from by first | rfl | (simp only [List.cons.injEq, Sum.inl.injEq, and_true, true_and]; omega)) rfl ?_
      refine tu_callVI 68 X (st := []) (as := [tu_i ((p.toNat : Nat) : Int), tu_i 2]) (c_X0_beatsOfKind p.toNat 2 (show tu_OK M from by first | assumption | omega | exact ⟨by omega, by omega⟩ | decide) (show (p.toNat : Int) < M 1 4 from by first | assumption | omega | exact ⟨by omega, by omega⟩ | decide) (show tu_rg 2 from by first | assumption | omega | exact ⟨by omega, by omega⟩ | decide)) sv_RX3_147 dX3_phrase_68 rfl (by decide) rfl rfl rfl (Nat.le_of_ble_eq_true rfl) ⟨by decide, by decide⟩ (fun z M' h => ?_)
      obtain ⟨hM68, hz68⟩ := h
      refine tu_st_eq rfl (M' := M) hM68 ?_
      refine tu_tp (b := (tu_ti (fun q => M 6 (p.toNat * 24 + q)) 2 (M 5 p.toNat).toNat)) hz68 ?_
      refine hret 71 _ _ (tu_ti (fun q => M 6 (p.toNat * 24 + q)) 2 (M 5 p.toNat).toNat) dX3_phrase_71 (fun h => by rw [hrt] at h; cases h) ?_
      exact ⟨_, rfl, Or.inr (Or.inr (Or.inl (⟨by omega, rfl⟩))), rfl⟩
    ·
      refine tu_tabIn 14 X 72 dX3_phrase_14 (show tu_rg w from by first | assumption | exact ⟨by omega, by omega⟩) (by omega) (by omega) (by rw [br14]; rfl) (by decide) ?_
      refine tu_aload_n 72 X 0 dX3_phrase_72 rfl ?_
      refine tu_getR 73 X dX3_phrase_73 fl_RX3_10 (by decide) rfl rfl ?_
      refine tu_iload_n 76 X 1 dX3_phrase_76 rfl ?_
      refine tu_iconst 77 X dX3_phrase_77 ?_
      refine tu_st_eq (show _ = [tu_i 1, tu_i ((p.toNat : Nat) : Int), tu_r 1] from by first | rfl | (simp only [List.cons.injEq, Sum.inl.injEq, and_true, true_and]; omega)) rfl ?_
      refine tu_callVI 78 X (st := []) (as := [tu_i ((p.toNat : Nat) : Int), tu_i 1]) (c_X0_beatsOfKind p.toNat 1 (show tu_OK M from by first | assumption | omega | exact ⟨by omega, by omega⟩ | decide) (show (p.toNat : Int) < M 1 4 from by first | assumption | omega | exact ⟨by omega, by omega⟩ | decide) (show tu_rg 1 from by first | assumption | omega | exact ⟨by omega, by omega⟩ | decide)) sv_RX3_147 dX3_phrase_78 rfl (by decide) rfl rfl rfl (Nat.le_of_ble_eq_true rfl) ⟨by decide, by decide⟩ (fun z M' h => ?_)
      obtain ⟨hM78, hz78⟩ := h
      refine tu_st_eq rfl (M' := M) hM78 ?_
      refine tu_tp (b := (tu_ti (fun q => M 6 (p.toNat * 24 + q)) 1 (M 5 p.toNat).toNat)) hz78 ?_
      refine hret 81 _ _ (tu_ti (fun q => M 6 (p.toNat * 24 + q)) 1 (M 5 p.toNat).toNat) dX3_phrase_81 (fun h => by rw [hrt] at h; cases h) ?_
      exact ⟨_, rfl, Or.inr (Or.inr (Or.inr (Or.inl (⟨by omega, rfl⟩)))), rfl⟩
    ·
      refine tu_tabIn 14 X 82 dX3_phrase_14 (show tu_rg w from by first | assumption | exact ⟨by omega, by omega⟩) (by omega) (by omega) (by rw [br14]; rfl) (by decide) ?_
      refine tu_aload_n 82 X 0 dX3_phrase_82 rfl ?_
      refine tu_getR 83 X dX3_phrase_83 fl_RX3_10 (by decide) rfl rfl ?_
      refine tu_iload_n 86 X 1 dX3_phrase_86 rfl ?_
      refine tu_iconst 87 X dX3_phrase_87 ?_
      refine tu_st_eq (show _ = [tu_i 0, tu_i ((p.toNat : Nat) : Int), tu_r 1] from by first | rfl | (simp only [List.cons.injEq, Sum.inl.injEq, and_true, true_and]; omega)) rfl ?_
      refine tu_callVI 88 X (st := []) (as := [tu_i ((p.toNat : Nat) : Int), tu_i 0]) (c_X0_beatsOfKind p.toNat 0 (show tu_OK M from by first | assumption | omega | exact ⟨by omega, by omega⟩ | decide) (show (p.toNat : Int) < M 1 4 from by first | assumption | omega | exact ⟨by omega, by omega⟩ | decide) (show tu_rg 0 from by first | assumption | omega | exact ⟨by omega, by omega⟩ | decide)) sv_RX3_147 dX3_phrase_88 rfl (by decide) rfl rfl rfl (Nat.le_of_ble_eq_true rfl) ⟨by decide, by decide⟩ (fun z M' h => ?_)
      obtain ⟨hM88, hz88⟩ := h
      refine tu_st_eq rfl (M' := M) hM88 ?_
      refine tu_tp (b := (tu_ti (fun q => M 6 (p.toNat * 24 + q)) 0 (M 5 p.toNat).toNat)) hz88 ?_
      refine hret 91 _ _ (tu_ti (fun q => M 6 (p.toNat * 24 + q)) 0 (M 5 p.toNat).toNat) dX3_phrase_91 (fun h => by rw [hrt] at h; cases h) ?_
      exact ⟨_, rfl, Or.inr (Or.inr (Or.inr (Or.inr (Or.inl (⟨by omega, rfl⟩))))), rfl⟩
    ·
      refine tu_tabIn 14 X 92 dX3_phrase_14 (show tu_rg w from by first | assumption | exact ⟨by omega, by omega⟩) (by omega) (by omega) (by rw [br14]; rfl) (by decide) ?_
      refine tu_aload_n 92 X 0 dX3_phrase_92 rfl ?_
      refine tu_getR 93 X dX3_phrase_93 fl_RX3_10 (by decide) rfl rfl ?_
      refine tu_iload_n 96 X 1 dX3_phrase_96 rfl ?_
      refine tu_callVI 97 X (st := []) (as := [tu_i p]) (c_X0_timesPlayed p (show tu_OK M from by first | assumption | omega | exact ⟨by omega, by omega⟩ | decide) (show tu_rg p from by first | assumption | omega | exact ⟨by omega, by omega⟩ | decide)) sv_RX3_151 dX3_phrase_97 rfl (by decide) rfl rfl rfl (Nat.le_of_ble_eq_true rfl) ⟨by decide, by decide⟩ (fun z M' h => ?_)
      obtain ⟨hM97, hz97⟩ := h
      refine tu_st_eq rfl (M' := M) hM97 ?_
      refine tu_tp (b := (tu_ti (M 8) p (M 1 9).toNat)) hz97 ?_
      refine hret 100 _ _ (tu_ti (M 8) p (M 1 9).toNat) dX3_phrase_100 (fun h => by rw [hrt] at h; cases h) ?_
      exact ⟨_, rfl, Or.inr (Or.inr (Or.inr (Or.inr (Or.inr (Or.inl (⟨by omega, rfl⟩)))))), rfl⟩
    ·
      refine tu_tabIn 14 X 101 dX3_phrase_14 (show tu_rg w from by first | assumption | exact ⟨by omega, by omega⟩) (by omega) (by omega) (by rw [br14]; rfl) (by decide) ?_
      refine tu_aload_n 101 X 0 dX3_phrase_101 rfl ?_
      refine tu_getR 102 X dX3_phrase_102 fl_RX3_10 (by decide) rfl rfl ?_
      refine tu_iload_n 105 X 1 dX3_phrase_105 rfl ?_
      refine tu_st_eq (show _ = [tu_i ((p.toNat : Nat) : Int), tu_r 1] from by first | rfl | (simp only [List.cons.injEq, Sum.inl.injEq, and_true, true_and]; omega)) rfl ?_
      refine tu_callVI 106 X (st := []) (as := [tu_i ((p.toNat : Nat) : Int)]) (c_X0_longestRow p.toNat (show tu_OK M from by first | assumption | omega | exact ⟨by omega, by omega⟩ | decide) (show (p.toNat : Int) < M 1 4 from by first | assumption | omega | exact ⟨by omega, by omega⟩ | decide)) sv_RX3_154 dX3_phrase_106 rfl (by decide) rfl rfl rfl (Nat.le_of_ble_eq_true rfl) ⟨by decide, by decide⟩ (fun z M' h => ?_)
      obtain ⟨hM106, hz106⟩ := h
      refine tu_st_eq rfl (M' := M) hM106 ?_
      refine tu_tp (b := (tu_lg (fun q => M 6 (p.toNat * 24 + q)) (M 5 p.toNat).toNat)) hz106 ?_
      refine hret 109 _ _ (tu_lg (fun q => M 6 (p.toNat * 24 + q)) (M 5 p.toNat).toNat) dX3_phrase_109 (fun h => by rw [hrt] at h; cases h) ?_
      exact ⟨_, rfl, Or.inr (Or.inr (Or.inr (Or.inr (Or.inr (Or.inr (Or.inl (⟨by omega, rfl⟩))))))), rfl⟩
    ·
      refine tu_tabOut 14 X 110 dX3_phrase_14 (show tu_rg w from by first | assumption | exact ⟨by omega, by omega⟩) br14 (by decide) ?_
      refine tu_bipush 110 X dX3_phrase_110 (by decide) ?_
      refine hret 112 _ _ (-2) dX3_phrase_112 (fun h => by rw [hrt] at h; cases h) ?_
      exact ⟨_, rfl, Or.inr (Or.inr (Or.inr (Or.inr (Or.inr (Or.inr (Or.inr (⟨by omega, rfl⟩))))))), rfl⟩
  ·
    have br8 := tu_b_e0 br8
    refine tu_iconst 11 X dX3_phrase_11 ?_
    refine hret 12 _ _ (-1) dX3_phrase_12 (fun h => by rw [hrt] at h; cases h) ?_
    exact ⟨_, rfl, Or.inl (⟨by omega, rfl⟩), rfl⟩
set_option maxRecDepth 20000 in
set_option maxHeartbeats 4000000 in
theorem c_X3_isStressed {M : tu_M} (l s : Int) (hB : tu_OK M) (rl : tu_rg l) (rs : tu_rg s) : tu_MI tu_Y_X3_isStressed [tu_r 0, tu_i l, tu_i s] M (fun z M' => ∃ (y : Int), M' = M ∧ (((¬ (0 ≤ l ∧ l < M 1 1 ∧ 0 ≤ s ∧ s < M 3 l.toNat)) ∧ y = -1) ∨ ((0 ≤ l ∧ l < M 1 1 ∧ 0 ≤ s ∧ s < M 3 l.toNat) ∧ y = M 4 ((l * 16) + s).toNat)) ∧ z = y) := by
  have cn := hB.cnt
  refine tu_MI.of (ty := .int) (by decide) rfl (by first | exact Or.inl rfl | exact Or.inr rfl) (Nat.le_of_ble_eq_true rfl) (fun T (X : tu_X T cX3_isStressed RX3 2 43) hnl hrt hret => ?_)
  have hret : tu_RI T cX3_isStressed (fun z M' => ∃ (y : Int), M' = M ∧ (((¬ (0 ≤ l ∧ l < M 1 1 ∧ 0 ≤ s ∧ s < M 3 l.toNat)) ∧ y = -1) ∨ ((0 ≤ l ∧ l < M 1 1 ∧ 0 ≤ s ∧ s < M 3 l.toNat) ∧ y = M 4 ((l * 16) + s).toNat)) ∧ z = y) := hret
  have hnl : T.2.2.2.2.2.2.2.2.2.2.1 = 3 := hnl
  show tu_W T 0 [(0, tu_r 0), (1, tu_i l), (2, tu_i s)] [] M
  refine tu_aload_n 0 X 0 dX3_isStressed_0 rfl ?_
  refine tu_getR 1 X dX3_isStressed_1 fl_RX3_10 (by decide) rfl rfl ?_
  refine tu_iload_n 4 X 1 dX3_isStressed_4 rfl ?_
  refine tu_iload_n 5 X 2 dX3_isStressed_5 rfl ?_
  refine tu_callVI 6 X (st := []) (as := [tu_i l, tu_i s]) (c_X0_hasSyllable l s (show tu_OK M from by first | assumption | omega | exact ⟨by omega, by omega⟩ | decide) (show tu_rg l from by first | assumption | omega | exact ⟨by omega, by omega⟩ | decide) (show tu_rg s from by first | assumption | omega | exact ⟨by omega, by omega⟩ | decide)) sv_RX3_112 dX3_isStressed_6 rfl (by decide) rfl rfl rfl (Nat.le_of_ble_eq_true rfl) ⟨by decide, by decide⟩ (fun z M' h => ?_)
  obtain ⟨hM6, hz6⟩ := h
  refine tu_st_eq rfl (M' := M) hM6 ?_
  refine tu_tp (b := tu_b (0 ≤ l ∧ l < M 1 1 ∧ 0 ≤ s ∧ s < M 3 l.toNat)) hz6 ?_
  refine tu_if_ne 9 X 14 dX3_isStressed_9 (by decide) tu_b_rg (fun br9 => ?_) (fun br9 => ?_)
  ·
    have br9 := tu_b_n0 br9
    refine tu_aload_n 14 X 0 dX3_isStressed_14 rfl ?_
    refine tu_getR 15 X dX3_isStressed_15 fl_RX3_10 (by decide) rfl rfl ?_
    refine tu_getR 18 X dX3_isStressed_18 fl_RX3_116 (by decide) rfl rfl ?_
    refine tu_iload_n 21 X 1 dX3_isStressed_21 rfl ?_
    refine tu_bipush 22 X dX3_isStressed_22 (by decide) ?_
    refine tu_imul 24 X dX3_isStressed_24 ?_
    refine tu_iload_n 25 X 2 dX3_isStressed_25 rfl ?_
    refine tu_iadd 26 X dX3_isStressed_26 ?_
    have hs9 := hB.syl l.toNat (by omega)
    refine tu_iald 27 X (x := M 4 (((l * 16) + s).toNat)) (((l * 16) + s).toNat) dX3_isStressed_27 (by decide) rfl (by decide) (by omega) (by omega) rfl ?_
    refine hret 28 _ _ (M 4 (((l * 16) + s).toNat)) dX3_isStressed_28 (fun h => by rw [hrt] at h; cases h) ?_
    exact ⟨_, rfl, Or.inr (⟨by omega, rfl⟩), rfl⟩
  ·
    have br9 := tu_b_e0 br9
    refine tu_iconst 12 X dX3_isStressed_12 ?_
    refine hret 13 _ _ (-1) dX3_isStressed_13 (fun h => by rw [hrt] at h; cases h) ?_
    exact ⟨_, rfl, Or.inl (⟨by omega, rfl⟩), rfl⟩
set_option maxRecDepth 20000 in
set_option maxHeartbeats 4000000 in
theorem c_X3_kindOf {M : tu_M} (l s : Int) (hB : tu_OK M) (rl : tu_rg l) (rs : tu_rg s) : tu_MI tu_Y_X3_kindOf [tu_r 0, tu_i l, tu_i s] M (fun z M' => ∃ (y : Int), M' = M ∧ (((¬ (0 ≤ l ∧ l < M 1 4 ∧ 0 ≤ s ∧ s < M 5 l.toNat)) ∧ y = -1) ∨ ((0 ≤ l ∧ l < M 1 4 ∧ 0 ≤ s ∧ s < M 5 l.toNat) ∧ y = M 6 ((l * 24) + s).toNat)) ∧ z = y) := by
  have cn := hB.cnt
  refine tu_MI.of (ty := .int) (by decide) rfl (by first | exact Or.inl rfl | exact Or.inr rfl) (Nat.le_of_ble_eq_true rfl) (fun T (X : tu_X T cX3_kindOf RX3 2 43) hnl hrt hret => ?_)
  have hret : tu_RI T cX3_kindOf (fun z M' => ∃ (y : Int), M' = M ∧ (((¬ (0 ≤ l ∧ l < M 1 4 ∧ 0 ≤ s ∧ s < M 5 l.toNat)) ∧ y = -1) ∨ ((0 ≤ l ∧ l < M 1 4 ∧ 0 ≤ s ∧ s < M 5 l.toNat) ∧ y = M 6 ((l * 24) + s).toNat)) ∧ z = y) := hret
  have hnl : T.2.2.2.2.2.2.2.2.2.2.1 = 3 := hnl
  show tu_W T 0 [(0, tu_r 0), (1, tu_i l), (2, tu_i s)] [] M
  refine tu_aload_n 0 X 0 dX3_kindOf_0 rfl ?_
  refine tu_getR 1 X dX3_kindOf_1 fl_RX3_10 (by decide) rfl rfl ?_
  refine tu_iload_n 4 X 1 dX3_kindOf_4 rfl ?_
  refine tu_iload_n 5 X 2 dX3_kindOf_5 rfl ?_
  refine tu_callVI 6 X (st := []) (as := [tu_i l, tu_i s]) (c_X0_hasBeat l s (show tu_OK M from by first | assumption | omega | exact ⟨by omega, by omega⟩ | decide) (show tu_rg l from by first | assumption | omega | exact ⟨by omega, by omega⟩ | decide) (show tu_rg s from by first | assumption | omega | exact ⟨by omega, by omega⟩ | decide)) sv_RX3_119 dX3_kindOf_6 rfl (by decide) rfl rfl rfl (Nat.le_of_ble_eq_true rfl) ⟨by decide, by decide⟩ (fun z M' h => ?_)
  obtain ⟨hM6, hz6⟩ := h
  refine tu_st_eq rfl (M' := M) hM6 ?_
  refine tu_tp (b := tu_b (0 ≤ l ∧ l < M 1 4 ∧ 0 ≤ s ∧ s < M 5 l.toNat)) hz6 ?_
  refine tu_if_ne 9 X 14 dX3_kindOf_9 (by decide) tu_b_rg (fun br9 => ?_) (fun br9 => ?_)
  ·
    have br9 := tu_b_n0 br9
    refine tu_aload_n 14 X 0 dX3_kindOf_14 rfl ?_
    refine tu_getR 15 X dX3_kindOf_15 fl_RX3_10 (by decide) rfl rfl ?_
    refine tu_getR 18 X dX3_kindOf_18 fl_RX3_122 (by decide) rfl rfl ?_
    refine tu_iload_n 21 X 1 dX3_kindOf_21 rfl ?_
    refine tu_bipush 22 X dX3_kindOf_22 (by decide) ?_
    refine tu_imul 24 X dX3_kindOf_24 ?_
    refine tu_iload_n 25 X 2 dX3_kindOf_25 rfl ?_
    refine tu_iadd 26 X dX3_kindOf_26 ?_
    have hs9 := hB.bts l.toNat (by omega)
    refine tu_iald 27 X (x := M 6 (((l * 24) + s).toNat)) (((l * 24) + s).toNat) dX3_kindOf_27 (by decide) rfl (by decide) (by omega) (by omega) rfl ?_
    refine hret 28 _ _ (M 6 (((l * 24) + s).toNat)) dX3_kindOf_28 (fun h => by rw [hrt] at h; cases h) ?_
    exact ⟨_, rfl, Or.inr (⟨by omega, rfl⟩), rfl⟩
  ·
    have br9 := tu_b_e0 br9
    refine tu_iconst 12 X dX3_kindOf_12 ?_
    refine hret 13 _ _ (-1) dX3_kindOf_13 (fun h => by rw [hrt] at h; cases h) ?_
    exact ⟨_, rfl, Or.inl (⟨by omega, rfl⟩), rfl⟩
set_option maxRecDepth 20000 in
set_option maxHeartbeats 4000000 in
theorem c_X3_count {M : tu_M} (w : Int) (hB : tu_OK M) (rw : tu_rg w) : tu_MI tu_Y_X3_count [tu_r 0, tu_i w] M (fun z M' => ∃ (y : Int), M' = M ∧ (((w = 0) ∧ y = M 1 1) ∨ ((w = 1) ∧ y = M 1 4) ∨ ((w = 2) ∧ y = M 1 7) ∨ ((w = 3) ∧ y = M 1 9) ∨ ((w = 4) ∧ y = tu_sm (fun l => if 2 ≤ tu_ti (M 7) ((l : Nat) : Int) (M 1 7).toNat then 1 else 0) (M 1 1).toNat) ∨ ((w = 5) ∧ y = M 2 0) ∨ ((w = 6) ∧ y = M 2 1) ∨ ((w = 7) ∧ y = M 2 2) ∨ ((w = 8) ∧ y = M 2 3) ∨ ((w = 9) ∧ y = M 9 1) ∨ ((w = 10) ∧ y = M 0 4) ∨ ((w < 0 ∨ 10 < w) ∧ y = -2)) ∧ z = y) := by
  have cn := hB.cnt
  refine tu_MI.of (ty := .int) (by decide) rfl (by first | exact Or.inl rfl | exact Or.inr rfl) (Nat.le_of_ble_eq_true rfl) (fun T (X : tu_X T cX3_count RX3 3 67) hnl hrt hret => ?_)
  have hret : tu_RI T cX3_count (fun z M' => ∃ (y : Int), M' = M ∧ (((w = 0) ∧ y = M 1 1) ∨ ((w = 1) ∧ y = M 1 4) ∨ ((w = 2) ∧ y = M 1 7) ∨ ((w = 3) ∧ y = M 1 9) ∨ ((w = 4) ∧ y = tu_sm (fun l => if 2 ≤ tu_ti (M 7) ((l : Nat) : Int) (M 1 7).toNat then 1 else 0) (M 1 1).toNat) ∨ ((w = 5) ∧ y = M 2 0) ∨ ((w = 6) ∧ y = M 2 1) ∨ ((w = 7) ∧ y = M 2 2) ∨ ((w = 8) ∧ y = M 2 3) ∨ ((w = 9) ∧ y = M 9 1) ∨ ((w = 10) ∧ y = M 0 4) ∨ ((w < 0 ∨ 10 < w) ∧ y = -2)) ∧ z = y) := hret
  have hnl : T.2.2.2.2.2.2.2.2.2.2.1 = 2 := hnl
  show tu_W T 0 [(0, tu_r 0), (1, tu_i w)] [] M
  refine tu_iload_n 0 X 1 dX3_count_0 rfl ?_
  rcases (show w = 0 ∨ w = 1 ∨ w = 2 ∨ w = 3 ∨ w = 4 ∨ w = 5 ∨ w = 6 ∨ w = 7 ∨ w = 8 ∨ w = 9 ∨ w = 10 ∨ (w < 0 ∨ 10 < w) from by omega) with br1 | br1 | br1 | br1 | br1 | br1 | br1 | br1 | br1 | br1 | br1 | br1
  ·
    refine tu_tabIn 1 X 60 dX3_count_1 (show tu_rg w from by first | assumption | exact ⟨by omega, by omega⟩) (by omega) (by omega) (by rw [br1]; rfl) (by decide) ?_
    refine tu_aload_n 60 X 0 dX3_count_60 rfl ?_
    refine tu_getR 61 X dX3_count_61 fl_RX3_10 (by decide) rfl rfl ?_
    refine tu_getI 64 X (x := M 1 1) dX3_count_64 fl_RX3_68 (by decide) rfl rfl rfl ?_
    refine hret 67 _ _ (M 1 1) dX3_count_67 (fun h => by rw [hrt] at h; cases h) ?_
    exact ⟨_, rfl, Or.inl (⟨by omega, rfl⟩), rfl⟩
  ·
    refine tu_tabIn 1 X 68 dX3_count_1 (show tu_rg w from by first | assumption | exact ⟨by omega, by omega⟩) (by omega) (by omega) (by rw [br1]; rfl) (by decide) ?_
    refine tu_aload_n 68 X 0 dX3_count_68 rfl ?_
    refine tu_getR 69 X dX3_count_69 fl_RX3_10 (by decide) rfl rfl ?_
    refine tu_getI 72 X (x := M 1 4) dX3_count_72 fl_RX3_71 (by decide) rfl rfl rfl ?_
    refine hret 75 _ _ (M 1 4) dX3_count_75 (fun h => by rw [hrt] at h; cases h) ?_
    exact ⟨_, rfl, Or.inr (Or.inl (⟨by omega, rfl⟩)), rfl⟩
  ·
    refine tu_tabIn 1 X 76 dX3_count_1 (show tu_rg w from by first | assumption | exact ⟨by omega, by omega⟩) (by omega) (by omega) (by rw [br1]; rfl) (by decide) ?_
    refine tu_aload_n 76 X 0 dX3_count_76 rfl ?_
    refine tu_getR 77 X dX3_count_77 fl_RX3_10 (by decide) rfl rfl ?_
    refine tu_getI 80 X (x := M 1 7) dX3_count_80 fl_RX3_100 (by decide) rfl rfl rfl ?_
    refine hret 83 _ _ (M 1 7) dX3_count_83 (fun h => by rw [hrt] at h; cases h) ?_
    exact ⟨_, rfl, Or.inr (Or.inr (Or.inl (⟨by omega, rfl⟩))), rfl⟩
  ·
    refine tu_tabIn 1 X 84 dX3_count_1 (show tu_rg w from by first | assumption | exact ⟨by omega, by omega⟩) (by omega) (by omega) (by rw [br1]; rfl) (by decide) ?_
    refine tu_aload_n 84 X 0 dX3_count_84 rfl ?_
    refine tu_getR 85 X dX3_count_85 fl_RX3_10 (by decide) rfl rfl ?_
    refine tu_getI 88 X (x := M 1 9) dX3_count_88 fl_RX3_109 (by decide) rfl rfl rfl ?_
    refine hret 91 _ _ (M 1 9) dX3_count_91 (fun h => by rw [hrt] at h; cases h) ?_
    exact ⟨_, rfl, Or.inr (Or.inr (Or.inr (Or.inl (⟨by omega, rfl⟩)))), rfl⟩
  ·
    refine tu_tabIn 1 X 92 dX3_count_1 (show tu_rg w from by first | assumption | exact ⟨by omega, by omega⟩) (by omega) (by omega) (by rw [br1]; rfl) (by decide) ?_
    refine tu_aload_n 92 X 0 dX3_count_92 rfl ?_
    refine tu_getR 93 X dX3_count_93 fl_RX3_10 (by decide) rfl rfl ?_
    refine tu_callVI 96 X (st := []) (as := []) (c_X0_burdens  (show tu_OK M from by first | assumption | omega | exact ⟨by omega, by omega⟩ | decide)) sv_RX3_157 dX3_count_96 rfl (by decide) rfl rfl rfl (Nat.le_of_ble_eq_true rfl) ⟨by decide, by decide⟩ (fun z M' h => ?_)
    obtain ⟨hM96, hz96⟩ := h
    refine tu_st_eq rfl (M' := M) hM96 ?_
    refine tu_tp (b := (tu_sm (fun l => if 2 ≤ tu_ti (M 7) ((l : Nat) : Int) (M 1 7).toNat then 1 else 0) (M 1 1).toNat)) hz96 ?_
    refine hret 99 _ _ (tu_sm (fun l => if 2 ≤ tu_ti (M 7) ((l : Nat) : Int) (M 1 7).toNat then 1 else 0) (M 1 1).toNat) dX3_count_99 (fun h => by rw [hrt] at h; cases h) ?_
    exact ⟨_, rfl, Or.inr (Or.inr (Or.inr (Or.inr (Or.inl (⟨by omega, rfl⟩))))), rfl⟩
  ·
    refine tu_tabIn 1 X 100 dX3_count_1 (show tu_rg w from by first | assumption | exact ⟨by omega, by omega⟩) (by omega) (by omega) (by rw [br1]; rfl) (by decide) ?_
    refine tu_aload_n 100 X 0 dX3_count_100 rfl ?_
    refine tu_getR 101 X dX3_count_101 fl_RX3_10 (by decide) rfl rfl ?_
    refine tu_getR 104 X dX3_count_104 fl_RX3_55 (by decide) rfl rfl ?_
    refine tu_iconst 107 X dX3_count_107 ?_
    refine tu_iald 108 X (x := M 2 0) 0 dX3_count_108 (by decide) rfl (by decide) rfl (by decide) rfl ?_
    refine hret 109 _ _ (M 2 0) dX3_count_109 (fun h => by rw [hrt] at h; cases h) ?_
    exact ⟨_, rfl, Or.inr (Or.inr (Or.inr (Or.inr (Or.inr (Or.inl (⟨by omega, rfl⟩)))))), rfl⟩
  ·
    refine tu_tabIn 1 X 110 dX3_count_1 (show tu_rg w from by first | assumption | exact ⟨by omega, by omega⟩) (by omega) (by omega) (by rw [br1]; rfl) (by decide) ?_
    refine tu_aload_n 110 X 0 dX3_count_110 rfl ?_
    refine tu_getR 111 X dX3_count_111 fl_RX3_10 (by decide) rfl rfl ?_
    refine tu_getR 114 X dX3_count_114 fl_RX3_55 (by decide) rfl rfl ?_
    refine tu_iconst 117 X dX3_count_117 ?_
    refine tu_iald 118 X (x := M 2 1) 1 dX3_count_118 (by decide) rfl (by decide) rfl (by decide) rfl ?_
    refine hret 119 _ _ (M 2 1) dX3_count_119 (fun h => by rw [hrt] at h; cases h) ?_
    exact ⟨_, rfl, Or.inr (Or.inr (Or.inr (Or.inr (Or.inr (Or.inr (Or.inl (⟨by omega, rfl⟩))))))), rfl⟩
  ·
    refine tu_tabIn 1 X 120 dX3_count_1 (show tu_rg w from by first | assumption | exact ⟨by omega, by omega⟩) (by omega) (by omega) (by rw [br1]; rfl) (by decide) ?_
    refine tu_aload_n 120 X 0 dX3_count_120 rfl ?_
    refine tu_getR 121 X dX3_count_121 fl_RX3_10 (by decide) rfl rfl ?_
    refine tu_getR 124 X dX3_count_124 fl_RX3_55 (by decide) rfl rfl ?_
    refine tu_iconst 127 X dX3_count_127 ?_
    refine tu_iald 128 X (x := M 2 2) 2 dX3_count_128 (by decide) rfl (by decide) rfl (by decide) rfl ?_
    refine hret 129 _ _ (M 2 2) dX3_count_129 (fun h => by rw [hrt] at h; cases h) ?_
    exact ⟨_, rfl, Or.inr (Or.inr (Or.inr (Or.inr (Or.inr (Or.inr (Or.inr (Or.inl (⟨by omega, rfl⟩)))))))), rfl⟩
  ·
    refine tu_tabIn 1 X 130 dX3_count_1 (show tu_rg w from by first | assumption | exact ⟨by omega, by omega⟩) (by omega) (by omega) (by rw [br1]; rfl) (by decide) ?_
    refine tu_aload_n 130 X 0 dX3_count_130 rfl ?_
    refine tu_getR 131 X dX3_count_131 fl_RX3_10 (by decide) rfl rfl ?_
    refine tu_getR 134 X dX3_count_134 fl_RX3_55 (by decide) rfl rfl ?_
    refine tu_iconst 137 X dX3_count_137 ?_
    refine tu_iald 138 X (x := M 2 3) 3 dX3_count_138 (by decide) rfl (by decide) rfl (by decide) rfl ?_
    refine hret 139 _ _ (M 2 3) dX3_count_139 (fun h => by rw [hrt] at h; cases h) ?_
    exact ⟨_, rfl, Or.inr (Or.inr (Or.inr (Or.inr (Or.inr (Or.inr (Or.inr (Or.inr (Or.inl (⟨by omega, rfl⟩))))))))), rfl⟩
  ·
    refine tu_tabIn 1 X 140 dX3_count_1 (show tu_rg w from by first | assumption | exact ⟨by omega, by omega⟩) (by omega) (by omega) (by rw [br1]; rfl) (by decide) ?_
    refine tu_aload_n 140 X 0 dX3_count_140 rfl ?_
    refine tu_getR 141 X dX3_count_141 fl_RX3_19 (by decide) rfl rfl ?_
    refine tu_getI 144 X (x := M 9 1) dX3_count_144 fl_RX3_74 (by decide) rfl rfl rfl ?_
    refine hret 147 _ _ (M 9 1) dX3_count_147 (fun h => by rw [hrt] at h; cases h) ?_
    exact ⟨_, rfl, Or.inr (Or.inr (Or.inr (Or.inr (Or.inr (Or.inr (Or.inr (Or.inr (Or.inr (Or.inl (⟨by omega, rfl⟩)))))))))), rfl⟩
  ·
    refine tu_tabIn 1 X 148 dX3_count_1 (show tu_rg w from by first | assumption | exact ⟨by omega, by omega⟩) (by omega) (by omega) (by rw [br1]; rfl) (by decide) ?_
    refine tu_aload_n 148 X 0 dX3_count_148 rfl ?_
    refine tu_getI 149 X (x := M 0 4) dX3_count_149 fl_RX3_34 (by decide) rfl rfl rfl ?_
    refine hret 152 _ _ (M 0 4) dX3_count_152 (fun h => by rw [hrt] at h; cases h) ?_
    exact ⟨_, rfl, Or.inr (Or.inr (Or.inr (Or.inr (Or.inr (Or.inr (Or.inr (Or.inr (Or.inr (Or.inr (Or.inl (⟨by omega, rfl⟩))))))))))), rfl⟩
  ·
    refine tu_tabOut 1 X 153 dX3_count_1 (show tu_rg w from by first | assumption | exact ⟨by omega, by omega⟩) br1 (by decide) ?_
    refine tu_bipush 153 X dX3_count_153 (by decide) ?_
    refine hret 155 _ _ (-2) dX3_count_155 (fun h => by rw [hrt] at h; cases h) ?_
    exact ⟨_, rfl, Or.inr (Or.inr (Or.inr (Or.inr (Or.inr (Or.inr (Or.inr (Or.inr (Or.inr (Or.inr (Or.inr (⟨by omega, rfl⟩))))))))))), rfl⟩
set_option maxRecDepth 20000 in
set_option maxHeartbeats 4000000 in
theorem c_X3_at {M : tu_M} (w k : Int) (hB : tu_OK M) (rw : tu_rg w) (rk : tu_rg k) (hw : w = 0 ∨ w = 1) : tu_MI tu_Y_X3_at [tu_r 0, tu_i w, tu_i k] M (fun z M' => ∃ (y : Int), M' = M ∧ (((w = 0 ∧ ¬ (0 ≤ k ∧ k < M 1 7)) ∧ y = -1) ∨ ((w = 1 ∧ ¬ (0 ≤ k ∧ k < M 1 9)) ∧ y = -1) ∨ ((w = 0 ∧ 0 ≤ k ∧ k < M 1 7) ∧ y = M 7 k.toNat) ∨ ((w = 1 ∧ 0 ≤ k ∧ k < M 1 9) ∧ y = M 8 k.toNat)) ∧ z = y) := by
  have cn := hB.cnt
  refine tu_MI.of (ty := .int) (by decide) rfl (by first | exact Or.inl rfl | exact Or.inr rfl) (Nat.le_of_ble_eq_true rfl) (fun T (X : tu_X T cX3_at RX3 0 0) hnl hrt hret => ?_)
  have hret : tu_RI T cX3_at (fun z M' => ∃ (y : Int), M' = M ∧ (((w = 0 ∧ ¬ (0 ≤ k ∧ k < M 1 7)) ∧ y = -1) ∨ ((w = 1 ∧ ¬ (0 ≤ k ∧ k < M 1 9)) ∧ y = -1) ∨ ((w = 0 ∧ 0 ≤ k ∧ k < M 1 7) ∧ y = M 7 k.toNat) ∨ ((w = 1 ∧ 0 ≤ k ∧ k < M 1 9) ∧ y = M 8 k.toNat)) ∧ z = y) := hret
  have hnl : T.2.2.2.2.2.2.2.2.2.2.1 = 3 := hnl
  show tu_W T 0 [(0, tu_r 0), (1, tu_i w), (2, tu_i k)] [] M
  refine tu_iload_n 0 X 2 dX3_at_0 rfl ?_
  refine tu_if_lt 1 X 29 dX3_at_1 (by decide) (show tu_rg k from by first | assumption | exact ⟨by omega, by omega⟩) (fun br1 => ?_) (fun br1 => ?_)
  ·
    refine tu_iconst 29 X dX3_at_29 ?_
    refine hret 30 _ _ (-1) dX3_at_30 (fun h => by rw [hrt] at h; cases h) ?_
    rcases hw with hw | hw
    · exact ⟨_, rfl, Or.inl (⟨by omega, rfl⟩), rfl⟩
    · exact ⟨_, rfl, Or.inr (Or.inl (⟨by omega, rfl⟩)), rfl⟩
  ·
    refine tu_iload_n 4 X 2 dX3_at_4 rfl ?_
    refine tu_iload_n 5 X 1 dX3_at_5 rfl ?_
    refine tu_if_eq 6 X 19 dX3_at_6 (by decide) (show tu_rg w from by first | assumption | exact ⟨by omega, by omega⟩) (fun br6 => ?_) (fun br6 => ?_)
    ·
      have hw6 : w = 0 := by omega
      refine tu_aload_n 19 X 0 dX3_at_19 rfl ?_
      refine tu_getR 20 X dX3_at_20 fl_RX3_10 (by decide) rfl rfl ?_
      refine tu_getI 23 X (x := M 1 7) dX3_at_23 fl_RX3_100 (by decide) rfl rfl rfl ?_
      refine tu_icmp_lt 26 X 31 dX3_at_26 (by decide) (show tu_rg k from by first | assumption | exact ⟨by omega, by omega⟩) (show tu_rg (M 1 7) from by first | assumption | exact ⟨by omega, by omega⟩) (fun br26 => ?_) (fun br26 => ?_)
      ·
        refine tu_iload_n 31 X 1 dX3_at_31 rfl ?_
        refine tu_if_eq 32 X 47 dX3_at_32 (by decide) (show tu_rg w from by first | assumption | exact ⟨by omega, by omega⟩) (fun br32 => ?_) (fun br32 => ?_)
        ·
          have hw0 : w = 0 := by omega
          refine tu_aload_n 47 X 0 dX3_at_47 rfl ?_
          refine tu_getR 48 X dX3_at_48 fl_RX3_10 (by decide) rfl rfl ?_
          refine tu_getR 51 X dX3_at_51 fl_RX3_163 (by decide) rfl rfl ?_
          refine tu_iload_n 54 X 2 dX3_at_54 rfl ?_
          refine tu_iald 55 X (x := M 7 k.toNat) k.toNat dX3_at_55 (by decide) rfl (by decide) (by omega) (by omega) rfl ?_
          refine hret 56 _ _ (M 7 k.toNat) dX3_at_56 (fun h => by rw [hrt] at h; cases h) ?_
          first | exact ⟨_, rfl, Or.inr (Or.inr (Or.inl (⟨by omega, rfl⟩))), rfl⟩ | exact ⟨_, rfl, Or.inr (Or.inr (Or.inr (⟨by omega, rfl⟩))), rfl⟩ | (exfalso; omega)
        ·
          have hw0 : w = 1 := by omega
          refine tu_aload_n 35 X 0 dX3_at_35 rfl ?_
          refine tu_getR 36 X dX3_at_36 fl_RX3_10 (by decide) rfl rfl ?_
          refine tu_getR 39 X dX3_at_39 fl_RX3_160 (by decide) rfl rfl ?_
          refine tu_iload_n 42 X 2 dX3_at_42 rfl ?_
          refine tu_iald 43 X (x := M 8 k.toNat) k.toNat dX3_at_43 (by decide) rfl (by decide) (by omega) (by omega) rfl ?_
          refine tu_goto 44 X 56 dX3_at_44 (by decide) ?_
          refine hret 56 _ _ (M 8 k.toNat) dX3_at_56 (fun h => by rw [hrt] at h; cases h) ?_
          first | exact ⟨_, rfl, Or.inr (Or.inr (Or.inl (⟨by omega, rfl⟩))), rfl⟩ | exact ⟨_, rfl, Or.inr (Or.inr (Or.inr (⟨by omega, rfl⟩))), rfl⟩ | (exfalso; omega)
      ·
        refine tu_iconst 29 X dX3_at_29 ?_
        refine hret 30 _ _ (-1) dX3_at_30 (fun h => by rw [hrt] at h; cases h) ?_
        rcases hw with hw | hw
        · exact ⟨_, rfl, Or.inl (⟨by omega, rfl⟩), rfl⟩
        · exact ⟨_, rfl, Or.inr (Or.inl (⟨by omega, rfl⟩)), rfl⟩
    ·
      have hw6 : w = 1 := by omega
      refine tu_aload_n 9 X 0 dX3_at_9 rfl ?_
      refine tu_getR 10 X dX3_at_10 fl_RX3_10 (by decide) rfl rfl ?_
      refine tu_getI 13 X (x := M 1 9) dX3_at_13 fl_RX3_109 (by decide) rfl rfl rfl ?_
      refine tu_goto 16 X 26 dX3_at_16 (by decide) ?_
      refine tu_icmp_lt 26 X 31 dX3_at_26 (by decide) (show tu_rg k from by first | assumption | exact ⟨by omega, by omega⟩) (show tu_rg (M 1 9) from by first | assumption | exact ⟨by omega, by omega⟩) (fun br26 => ?_) (fun br26 => ?_)
      ·
        refine tu_iload_n 31 X 1 dX3_at_31 rfl ?_
        refine tu_if_eq 32 X 47 dX3_at_32 (by decide) (show tu_rg w from by first | assumption | exact ⟨by omega, by omega⟩) (fun br32 => ?_) (fun br32 => ?_)
        ·
          have hw0 : w = 0 := by omega
          refine tu_aload_n 47 X 0 dX3_at_47 rfl ?_
          refine tu_getR 48 X dX3_at_48 fl_RX3_10 (by decide) rfl rfl ?_
          refine tu_getR 51 X dX3_at_51 fl_RX3_163 (by decide) rfl rfl ?_
          refine tu_iload_n 54 X 2 dX3_at_54 rfl ?_
          refine tu_iald 55 X (x := M 7 k.toNat) k.toNat dX3_at_55 (by decide) rfl (by decide) (by omega) (by omega) rfl ?_
          refine hret 56 _ _ (M 7 k.toNat) dX3_at_56 (fun h => by rw [hrt] at h; cases h) ?_
          first | exact ⟨_, rfl, Or.inr (Or.inr (Or.inl (⟨by omega, rfl⟩))), rfl⟩ | exact ⟨_, rfl, Or.inr (Or.inr (Or.inr (⟨by omega, rfl⟩))), rfl⟩ | (exfalso; omega)
        ·
          have hw0 : w = 1 := by omega
          refine tu_aload_n 35 X 0 dX3_at_35 rfl ?_
          refine tu_getR 36 X dX3_at_36 fl_RX3_10 (by decide) rfl rfl ?_
          refine tu_getR 39 X dX3_at_39 fl_RX3_160 (by decide) rfl rfl ?_
          refine tu_iload_n 42 X 2 dX3_at_42 rfl ?_
          refine tu_iald 43 X (x := M 8 k.toNat) k.toNat dX3_at_43 (by decide) rfl (by decide) (by omega) (by omega) rfl ?_
          refine tu_goto 44 X 56 dX3_at_44 (by decide) ?_
          refine hret 56 _ _ (M 8 k.toNat) dX3_at_56 (fun h => by rw [hrt] at h; cases h) ?_
          first | exact ⟨_, rfl, Or.inr (Or.inr (Or.inl (⟨by omega, rfl⟩))), rfl⟩ | exact ⟨_, rfl, Or.inr (Or.inr (Or.inr (⟨by omega, rfl⟩))), rfl⟩ | (exfalso; omega)
      ·
        refine tu_iconst 29 X dX3_at_29 ?_
        refine hret 30 _ _ (-1) dX3_at_30 (fun h => by rw [hrt] at h; cases h) ?_
        rcases hw with hw | hw
        · exact ⟨_, rfl, Or.inl (⟨by omega, rfl⟩), rfl⟩
        · exact ⟨_, rfl, Or.inr (Or.inl (⟨by omega, rfl⟩)), rfl⟩
set_option maxRecDepth 20000 in
set_option maxHeartbeats 4000000 in
theorem c_X3_put {M : tu_M} (u : Nat) (hp : 0 ≤ M 9 1 ∧ M 9 1 ≤ 60) (hu : u < 18446744073709551616) : tu_MI tu_Y_X3_put [tu_r 0, tu_l u] M (fun z M' => ∃ (y : Int), (((∀ c, ¬ tu_vd u c) ∧ M' = M ∧ y = -2) ∨ ((∃ c : Nat, tu_vd u c ∧ 60 < M 9 1 + (c : Int)) ∧ M' = M ∧ y = -4) ∨ (∃ c : Nat, (tu_vd u c ∧ M 9 1 + (c : Int) ≤ 60) ∧ M' = tu_row (tu_row M 9 (tu_u (M 9) 1 (M 9 1 + ((c : Nat) : Int)))) 10 (tu_ap (M 10) (M 9 1).toNat u c c) ∧ y = M 9 1 + ((c : Nat) : Int))) ∧ z = y) := by
  refine tu_MI.of (ty := .int) (by decide) rfl (by first | exact Or.inl rfl | exact Or.inr rfl) (Nat.le_of_ble_eq_true rfl) (fun T (X : tu_X T cX3_put RX3 1 26) hnl hrt hret => ?_)
  have hret : tu_RI T cX3_put (fun z M' => ∃ (y : Int), (((∀ c, ¬ tu_vd u c) ∧ M' = M ∧ y = -2) ∨ ((∃ c : Nat, tu_vd u c ∧ 60 < M 9 1 + (c : Int)) ∧ M' = M ∧ y = -4) ∨ (∃ c : Nat, (tu_vd u c ∧ M 9 1 + (c : Int) ≤ 60) ∧ M' = tu_row (tu_row M 9 (tu_u (M 9) 1 (M 9 1 + ((c : Nat) : Int)))) 10 (tu_ap (M 10) (M 9 1).toNat u c c) ∧ y = M 9 1 + ((c : Nat) : Int))) ∧ z = y) := hret
  have hnl : T.2.2.2.2.2.2.2.2.2.2.1 = 4 := hnl
  show tu_W T 0 [(0, tu_r 0), (1, tu_l u)] [] M
  refine tu_lload_n 0 X 1 dX3_put_0 rfl ?_
  refine tu_callSI 1 X (st := []) (as := [tu_l u]) (c_X2_signsIn u (show u < 18446744073709551616 from by first | assumption | omega | exact ⟨by omega, by omega⟩ | decide)) ss_RX3_202 dX3_put_1 rfl (Nat.le_of_ble_eq_true rfl) ⟨by decide, by decide⟩ (fun z M' h => ?_)
  obtain ⟨w_1, hM1, h1_0, h1_1, hz1⟩ := h
  refine tu_st_eq rfl (M' := M) hM1 ?_
  refine tu_tp (b := w_1) hz1 ?_
  refine tu_istore_n 4 X (lv' := [(3, tu_i w_1), (0, tu_r 0), (1, tu_l u)]) dX3_put_4 (by rw [hnl]; decide) rfl ?_
  refine tu_iload_n 5 X 0 dX3_put_5 rfl ?_
  refine tu_iconst 6 X dX3_put_6 ?_
  refine tu_icmp_ge 7 X 13 dX3_put_7 (by decide) (show tu_rg w_1 from by first | assumption | exact ⟨by omega, by omega⟩) ⟨by decide, by decide⟩ (fun br7 => ?_) (fun br7 => ?_)
  ·
    obtain ⟨c, hwc, hvd⟩ : ∃ c : Nat, w_1 = (c : Int) ∧ tu_vd u c := by
      rcases h1_0 with h | ⟨h, -⟩
      · exact h
      · omega
    refine tu_aload_n 13 X 1 dX3_put_13 rfl ?_
    refine tu_getR 14 X dX3_put_14 fl_RX3_19 (by decide) rfl rfl ?_
    refine tu_getI 17 X (x := M 9 1) dX3_put_17 fl_RX3_74 (by decide) rfl rfl rfl ?_
    refine tu_iload_n 20 X 0 dX3_put_20 rfl ?_
    refine tu_iadd 21 X dX3_put_21 ?_
    refine tu_bipush 22 X dX3_put_22 (by decide) ?_
    refine tu_icmp_le 24 X 30 dX3_put_24 (by decide) (show tu_rg ((M 9 1) + w_1) from by first | assumption | exact ⟨by omega, by omega⟩) ⟨by decide, by decide⟩ (fun br24 => ?_) (fun br24 => ?_)
    ·
      refine tu_aload_n 30 X 1 dX3_put_30 rfl ?_
      refine tu_getR 31 X dX3_put_31 fl_RX3_19 (by decide) rfl rfl ?_
      refine tu_lload_n 34 X 2 dX3_put_34 rfl ?_
      refine tu_iload_n 35 X 0 dX3_put_35 rfl ?_
      refine tu_st_eq (show _ = [tu_i ((c : Nat) : Int), tu_l u, tu_r 9] from by first | rfl | (simp only [List.cons.injEq, Sum.inl.injEq, and_true, true_and]; omega)) rfl ?_
      refine tu_callVV 36 X (st := []) (as := [tu_l u, tu_i ((c : Nat) : Int)]) (c_X2_append u c (show 0 ≤ M 9 1 ∧ M 9 1 ≤ 60 from by first | assumption | omega | exact ⟨by omega, by omega⟩ | decide) (show u < 18446744073709551616 from by first | assumption | omega | exact ⟨by omega, by omega⟩ | decide) (show c ≤ 8 from by first | assumption | omega | exact ⟨by omega, by omega⟩ | decide) (show M 9 1 + c ≤ 60 from by first | assumption | omega | exact ⟨by omega, by omega⟩ | decide)) sv_RX3_206 dX3_put_36 rfl (by decide) rfl rfl rfl (Nat.le_of_ble_eq_true rfl) ⟨by decide, by decide⟩ (fun M' h => ?_)
      have hM36 := h
      refine tu_st_eq rfl (M' := tu_row (tu_row M 9 (tu_u (M 9) 1 (M 9 1 + ((c : Nat) : Int)))) 10 (tu_ap (M 10) (M 9 1).toNat u c c)) hM36 ?_
      refine tu_aload_n 39 X 1 dX3_put_39 rfl ?_
      refine tu_getR 40 X dX3_put_40 fl_RX3_19 (by decide) rfl rfl ?_
      refine tu_getI 43 X (x := (tu_u (M 9) 1 (M 9 1 + ((c : Nat) : Int))) 1) dX3_put_43 fl_RX3_74 (by decide) rfl rfl rfl ?_
      refine tu_tp (b := (M 9 1 + ((c : Nat) : Int))) (by rw [tu_u_s]) ?_
      refine hret 46 _ _ (M 9 1 + ((c : Nat) : Int)) dX3_put_46 (fun h => by rw [hrt] at h; cases h) ?_
      exact ⟨_, Or.inr (Or.inr ⟨c, ⟨hvd, by omega⟩, rfl, rfl⟩), rfl⟩
    ·
      refine tu_bipush 27 X dX3_put_27 (by decide) ?_
      refine hret 29 _ _ (-4) dX3_put_29 (fun h => by rw [hrt] at h; cases h) ?_
      exact ⟨_, Or.inr (Or.inl ⟨⟨c, hvd, by omega⟩, rfl, rfl⟩), rfl⟩
  ·
    refine tu_bipush 10 X dX3_put_10 (by decide) ?_
    refine hret 12 _ _ (-2) dX3_put_12 (fun h => by rw [hrt] at h; cases h) ?_
    exact ⟨_, Or.inl ⟨by rcases h1_0 with ⟨c, hc, hv⟩ | ⟨-, h⟩; exact absurd hv.1.1 (by omega); exact h, rfl, rfl⟩, rfl⟩
set_option maxRecDepth 20000 in
set_option maxHeartbeats 4000000 in
theorem c_X3_wipe {M : tu_M}   : tu_MI tu_Y_X3_wipe [tu_r 0] M (fun z M' => M' = tu_row M 9 (tu_u (M 9) 1 0) ∧ z = M 9 1) := by
  refine tu_MI.of (ty := .int) (by decide) rfl (by first | exact Or.inl rfl | exact Or.inr rfl) (Nat.le_of_ble_eq_true rfl) (fun T (X : tu_X T cX3_wipe RX3 0 0) hnl hrt hret => ?_)
  have hret : tu_RI T cX3_wipe (fun z M' => M' = tu_row M 9 (tu_u (M 9) 1 0) ∧ z = M 9 1) := hret
  have hnl : T.2.2.2.2.2.2.2.2.2.2.1 = 2 := hnl
  show tu_W T 0 [(0, tu_r 0)] [] M
  refine tu_aload_n 0 X 0 dX3_wipe_0 rfl ?_
  refine tu_getR 1 X dX3_wipe_1 fl_RX3_19 (by decide) rfl rfl ?_
  refine tu_getI 4 X (x := M 9 1) dX3_wipe_4 fl_RX3_74 (by decide) rfl rfl rfl ?_
  refine tu_istore_n 7 X (lv' := [(1, tu_i (M 9 1)), (0, tu_r 0)]) dX3_wipe_7 (by rw [hnl]; decide) rfl ?_
  refine tu_aload_n 8 X 1 dX3_wipe_8 rfl ?_
  refine tu_getR 9 X dX3_wipe_9 fl_RX3_19 (by decide) rfl rfl ?_
  refine tu_iconst 12 X dX3_wipe_12 ?_
  refine tu_putI 13 X (M' := tu_row M 9 (tu_u (M 9) 1 0)) dX3_wipe_13 fp_RX3_74 (by decide) rfl rfl rfl ?_
  refine tu_iload_n 16 X 0 dX3_wipe_16 rfl ?_
  refine hret 17 _ _ (M 9 1) dX3_wipe_17 (fun h => by rw [hrt] at h; cases h) ?_
  exact ⟨rfl, by first | rfl | omega⟩
set_option maxRecDepth 20000 in
set_option maxHeartbeats 4000000 in
theorem c_X3_fault {M : tu_M}  (hp : 0 ≤ M 9 1 ∧ M 9 1 ≤ 60) (hr : ∀ k : Nat, (k : Int) < M 9 1 → tu_rg (M 10 k)) : tu_MI tu_Y_X3_fault [tu_r 0] M (fun z M' => ∃ (w : Int), M' = M ∧ (tu_ft (M 10) (M 9 1).toNat w) ∧ z = w) := by
  refine tu_MI.of (ty := .int) (by decide) rfl (by first | exact Or.inl rfl | exact Or.inr rfl) (Nat.le_of_ble_eq_true rfl) (fun T (X : tu_X T cX3_fault RX3 2 44) hnl hrt hret => ?_)
  have hret : tu_RI T cX3_fault (fun z M' => ∃ (w : Int), M' = M ∧ (tu_ft (M 10) (M 9 1).toNat w) ∧ z = w) := hret
  have hnl : T.2.2.2.2.2.2.2.2.2.2.1 = 1 := hnl
  show tu_W T 0 [(0, tu_r 0)] [] M
  refine tu_aload_n 0 X 0 dX3_fault_0 rfl ?_
  refine tu_getR 1 X dX3_fault_1 fl_RX3_19 (by decide) rfl rfl ?_
  refine tu_callVI 4 X (st := []) (as := []) (c_X2_faultPlace  (show 0 ≤ M 9 1 ∧ M 9 1 ≤ 60 from by first | assumption | omega | exact ⟨by omega, by omega⟩ | decide) (show ∀ k : Nat, (k : Int) < M 9 1 → tu_rg (M 10 k) from by first | assumption | omega | exact ⟨by omega, by omega⟩ | decide)) sv_RX3_58 dX3_fault_4 rfl (by decide) rfl rfl rfl (Nat.le_of_ble_eq_true rfl) ⟨by decide, by decide⟩ (fun z M' h => ?_)
  obtain ⟨w_4, hM4, h4_0, hz4⟩ := h
  refine tu_st_eq rfl (M' := M) hM4 ?_
  refine tu_tp (b := w_4) hz4 ?_
  refine hret 7 _ _ w_4 dX3_fault_7 (fun h => by rw [hrt] at h; cases h) ?_
  exact ⟨_, rfl, h4_0, rfl⟩
set_option maxRecDepth 20000 in
set_option maxHeartbeats 4000000 in
theorem c_X3_verse {M : tu_M} (a d b : Int) (hB : tu_OK M) (hH : tu_HS M) (ra : tu_rg a) (rd : tu_rg d) (rb : tu_rg b) : tu_MI tu_Y_X3_verse [tu_r 0, tu_i a, tu_i d, tu_i b] M (fun z M' => ∃ (y : Int), (((¬ ((0 ≤ a ∧ a < M 1 1) ∧ (0 ≤ d ∧ d < M 1 1) ∧ (0 ≤ b ∧ b < M 1 1))) ∧ M' = M ∧ y = -1) ∨ ((((0 ≤ a ∧ a < M 1 1) ∧ (0 ≤ d ∧ d < M 1 1) ∧ (0 ≤ b ∧ b < M 1 1)) ∧ d < a) ∧ M' = M ∧ y = -2) ∨ ((((0 ≤ a ∧ a < M 1 1) ∧ (0 ≤ d ∧ d < M 1 1) ∧ (0 ≤ b ∧ b < M 1 1)) ∧ a ≤ d ∧ 40 < M 1 7 + 2 * (d - a + 1)) ∧ M' = M ∧ y = -4) ∨ ((((0 ≤ a ∧ a < M 1 1) ∧ (0 ≤ d ∧ d < M 1 1) ∧ (0 ≤ b ∧ b < M 1 1)) ∧ a ≤ d ∧ M 1 7 + 2 * (d - a + 1) ≤ 40) ∧ ∃ N : tu_M, tu_rec M N ∧ M' = tu_row (tu_row N 1 (tu_u (M 1) 7 (M 1 7 + 2 * (d - a + 1)))) 7 (tu_vs (M 7) (M 1 7).toNat a b (d - a + 1).toNat) ∧ y = M 1 7 + 2 * (d - a + 1))) ∧ z = y) := by
  have cn := hB.cnt
  refine tu_MI.of (ty := .int) (by decide) rfl (by first | exact Or.inl rfl | exact Or.inr rfl) (Nat.le_of_ble_eq_true rfl) (fun T (X : tu_X T cX3_verse RX3 3 83) hnl hrt hret => ?_)
  have hret : tu_RI T cX3_verse (fun z M' => ∃ (y : Int), (((¬ ((0 ≤ a ∧ a < M 1 1) ∧ (0 ≤ d ∧ d < M 1 1) ∧ (0 ≤ b ∧ b < M 1 1))) ∧ M' = M ∧ y = -1) ∨ ((((0 ≤ a ∧ a < M 1 1) ∧ (0 ≤ d ∧ d < M 1 1) ∧ (0 ≤ b ∧ b < M 1 1)) ∧ d < a) ∧ M' = M ∧ y = -2) ∨ ((((0 ≤ a ∧ a < M 1 1) ∧ (0 ≤ d ∧ d < M 1 1) ∧ (0 ≤ b ∧ b < M 1 1)) ∧ a ≤ d ∧ 40 < M 1 7 + 2 * (d - a + 1)) ∧ M' = M ∧ y = -4) ∨ ((((0 ≤ a ∧ a < M 1 1) ∧ (0 ≤ d ∧ d < M 1 1) ∧ (0 ≤ b ∧ b < M 1 1)) ∧ a ≤ d ∧ M 1 7 + 2 * (d - a + 1) ≤ 40) ∧ ∃ N : tu_M, tu_rec M N ∧ M' = tu_row (tu_row N 1 (tu_u (M 1) 7 (M 1 7 + 2 * (d - a + 1)))) 7 (tu_vs (M 7) (M 1 7).toNat a b (d - a + 1).toNat) ∧ y = M 1 7 + 2 * (d - a + 1))) ∧ z = y) := hret
  have hnl : T.2.2.2.2.2.2.2.2.2.2.1 = 5 := hnl
  show tu_W T 0 [(0, tu_r 0), (1, tu_i a), (2, tu_i d), (3, tu_i b)] [] M
  refine tu_aload_n 0 X 0 dX3_verse_0 rfl ?_
  refine tu_getR 1 X dX3_verse_1 fl_RX3_10 (by decide) rfl rfl ?_
  refine tu_iload_n 4 X 1 dX3_verse_4 rfl ?_
  refine tu_callVI 5 X (st := []) (as := [tu_i a]) (c_X0_hasLine a (show tu_OK M from by first | assumption | omega | exact ⟨by omega, by omega⟩ | decide) (show tu_rg a from by first | assumption | omega | exact ⟨by omega, by omega⟩ | decide)) sv_RX3_93 dX3_verse_5 rfl (by decide) rfl rfl rfl (Nat.le_of_ble_eq_true rfl) ⟨by decide, by decide⟩ (fun z M' h => ?_)
  obtain ⟨hM5, hz5⟩ := h
  refine tu_st_eq rfl (M' := M) hM5 ?_
  refine tu_tp (b := tu_b (0 ≤ a ∧ a < M 1 1)) hz5 ?_
  refine tu_if_eq 8 X 33 dX3_verse_8 (by decide) tu_b_rg (fun br8 => ?_) (fun br8 => ?_)
  ·
    have br8 := tu_b_e0 br8
    refine tu_iconst 33 X dX3_verse_33 ?_
    refine hret 34 _ _ (-1) dX3_verse_34 (fun h => by rw [hrt] at h; cases h) ?_
    exact ⟨_, Or.inl (⟨by omega, rfl, rfl⟩), rfl⟩
  ·
    have br8 := tu_b_n0 br8
    refine tu_aload_n 11 X 0 dX3_verse_11 rfl ?_
    refine tu_getR 12 X dX3_verse_12 fl_RX3_10 (by decide) rfl rfl ?_
    refine tu_iload_n 15 X 2 dX3_verse_15 rfl ?_
    refine tu_callVI 16 X (st := []) (as := [tu_i d]) (c_X0_hasLine d (show tu_OK M from by first | assumption | omega | exact ⟨by omega, by omega⟩ | decide) (show tu_rg d from by first | assumption | omega | exact ⟨by omega, by omega⟩ | decide)) sv_RX3_93 dX3_verse_16 rfl (by decide) rfl rfl rfl (Nat.le_of_ble_eq_true rfl) ⟨by decide, by decide⟩ (fun z M' h => ?_)
    obtain ⟨hM16, hz16⟩ := h
    refine tu_st_eq rfl (M' := M) hM16 ?_
    refine tu_tp (b := tu_b (0 ≤ d ∧ d < M 1 1)) hz16 ?_
    refine tu_if_eq 19 X 33 dX3_verse_19 (by decide) tu_b_rg (fun br19 => ?_) (fun br19 => ?_)
    ·
      have br19 := tu_b_e0 br19
      refine tu_iconst 33 X dX3_verse_33 ?_
      refine hret 34 _ _ (-1) dX3_verse_34 (fun h => by rw [hrt] at h; cases h) ?_
      exact ⟨_, Or.inl (⟨by omega, rfl, rfl⟩), rfl⟩
    ·
      have br19 := tu_b_n0 br19
      refine tu_aload_n 22 X 0 dX3_verse_22 rfl ?_
      refine tu_getR 23 X dX3_verse_23 fl_RX3_10 (by decide) rfl rfl ?_
      refine tu_iload_n 26 X 3 dX3_verse_26 rfl ?_
      refine tu_callVI 27 X (st := []) (as := [tu_i b]) (c_X0_hasLine b (show tu_OK M from by first | assumption | omega | exact ⟨by omega, by omega⟩ | decide) (show tu_rg b from by first | assumption | omega | exact ⟨by omega, by omega⟩ | decide)) sv_RX3_93 dX3_verse_27 rfl (by decide) rfl rfl rfl (Nat.le_of_ble_eq_true rfl) ⟨by decide, by decide⟩ (fun z M' h => ?_)
      obtain ⟨hM27, hz27⟩ := h
      refine tu_st_eq rfl (M' := M) hM27 ?_
      refine tu_tp (b := tu_b (0 ≤ b ∧ b < M 1 1)) hz27 ?_
      refine tu_if_ne 30 X 35 dX3_verse_30 (by decide) tu_b_rg (fun br30 => ?_) (fun br30 => ?_)
      ·
        have br30 := tu_b_n0 br30
        refine tu_iload_n 35 X 2 dX3_verse_35 rfl ?_
        refine tu_iload_n 36 X 1 dX3_verse_36 rfl ?_
        refine tu_icmp_ge 37 X 43 dX3_verse_37 (by decide) (show tu_rg d from by first | assumption | exact ⟨by omega, by omega⟩) (show tu_rg a from by first | assumption | exact ⟨by omega, by omega⟩) (fun br37 => ?_) (fun br37 => ?_)
        ·
          refine tu_aload_n 43 X 0 dX3_verse_43 rfl ?_
          refine tu_getR 44 X dX3_verse_44 fl_RX3_10 (by decide) rfl rfl ?_
          refine tu_getI 47 X (x := M 1 7) dX3_verse_47 fl_RX3_100 (by decide) rfl rfl rfl ?_
          refine tu_iconst 50 X dX3_verse_50 ?_
          refine tu_iload_n 51 X 2 dX3_verse_51 rfl ?_
          refine tu_iload_n 52 X 1 dX3_verse_52 rfl ?_
          refine tu_isub 53 X dX3_verse_53 ?_
          refine tu_iconst 54 X dX3_verse_54 ?_
          refine tu_iadd 55 X dX3_verse_55 ?_
          refine tu_imul 56 X dX3_verse_56 ?_
          refine tu_iadd 57 X dX3_verse_57 ?_
          refine tu_bipush 58 X dX3_verse_58 (by decide) ?_
          refine tu_icmp_le 60 X 66 dX3_verse_60 (by decide) (show tu_rg ((M 1 7) + (2 * ((d - a) + 1))) from by first | assumption | exact ⟨by omega, by omega⟩) ⟨by decide, by decide⟩ (fun br60 => ?_) (fun br60 => ?_)
          ·
            refine tu_aload_n 66 X 0 dX3_verse_66 rfl ?_
            refine tu_callVV 67 X (st := []) (as := []) (c_X3_record  (show tu_HS M from by first | assumption | omega | exact ⟨by omega, by omega⟩ | decide)) sv_RX3_52 dX3_verse_67 rfl (by decide) rfl rfl rfl (Nat.le_of_ble_eq_true rfl) ⟨by decide, by decide⟩ (fun N67 h => ?_)
            have h67_0 := h
            have e67_1 : N67 1 = M 1 := h67_0.1 1 (by decide) (by decide) (by decide)
            have e67_7 : N67 7 = M 7 := h67_0.1 7 (by decide) (by decide) (by decide)
            refine tu_iload_n 70 X 1 dX3_verse_70 rfl ?_
            refine tu_istore 71 X (lv' := [(4, tu_i a), (0, tu_r 0), (1, tu_i a), (2, tu_i d), (3, tu_i b)]) dX3_verse_71 (by rw [hnl]; decide) rfl ?_
            refine tu_st_eq rfl (M' := tu_row N67 1 (N67 1)) ((tu_rx N67 1).symm) ?_
            refine tu_st_eq rfl (M' := tu_row (tu_row N67 1 (N67 1)) 7 (N67 7)) ((congrArg (fun m => tu_row m 1 (N67 1)) ((tu_rx N67 7).symm)).trans (tu_rc N67 (N67 7) (N67 1) rfl)) ?_
            have lp73 : ∀ (nq : Nat) (j : Nat), (a + (j : Int) ≤ d + 1) → (d + 1 - a).toNat - j < nq → tu_W T 73 [(0, tu_r 0), (1, tu_i a), (2, tu_i d), (3, tu_i b), (4, tu_i (a + ((j : Nat) : Int)))] [] (tu_row (tu_row N67 1 (tu_u (M 1) 7 (M 1 7 + 2 * ((j : Nat) : Int)))) 7 (tu_vs (M 7) (M 1 7).toNat a b j)) := by
              intro nq
              induction nq with
              | zero => intros; omega
              | succ nq ih73 =>
                intro j hj hn73
                refine tu_iload 73 X 4 dX3_verse_73 rfl ?_
                refine tu_iload_n 75 X 2 dX3_verse_75 rfl ?_
                refine tu_icmp_gt 76 X 102 dX3_verse_76 (by decide) (show tu_rg (a + ((j : Nat) : Int)) from by first | assumption | exact ⟨by omega, by omega⟩) (show tu_rg d from by first | assumption | exact ⟨by omega, by omega⟩) (fun br76 => ?_) (fun br76 => ?_)
                ·
                  refine tu_aload_n 102 X 0 dX3_verse_102 rfl ?_
                  refine tu_getR 103 X dX3_verse_103 fl_RX3_10 (by decide) rfl rfl ?_
                  refine tu_getI 106 X (x := (tu_u (M 1) 7 (M 1 7 + 2 * ((j : Nat) : Int))) 7) dX3_verse_106 fl_RX3_100 (by decide) rfl rfl rfl ?_
                  refine tu_tp (b := (M 1 7 + 2 * ((j : Nat) : Int))) (by rw [tu_u_s]) ?_
                  refine hret 109 _ _ (M 1 7 + 2 * ((j : Nat) : Int)) dX3_verse_109 (fun h => by rw [hrt] at h; cases h) ?_
                  have ej : ((j : Nat) : Int) = d - a + 1 := by omega
                  refine ⟨_, Or.inr (Or.inr (Or.inr ⟨by omega, N67, h67_0, ?_, by rw [ej]⟩)), rfl⟩
                  rw [ej, show j = (d - a + 1).toNat from by omega]
                ·
                  refine tu_aload_n 79 X 0 dX3_verse_79 rfl ?_
                  refine tu_getR 80 X dX3_verse_80 fl_RX3_10 (by decide) rfl rfl ?_
                  refine tu_iload 83 X 4 dX3_verse_83 rfl ?_
                  refine tu_callVV 85 X (st := []) (as := [tu_i (a + ((j : Nat) : Int))]) (c_X0_addToBallad (a + ((j : Nat) : Int)) (show 0 ≤ (tu_u (M 1) 7 (M 1 7 + 2 * ((j : Nat) : Int))) 7 ∧ (tu_u (M 1) 7 (M 1 7 + 2 * ((j : Nat) : Int))) 7 < 40 from by rw [tu_u_s]; omega)) sv_RX3_125 dX3_verse_85 rfl (by decide) rfl rfl rfl (Nat.le_of_ble_eq_true rfl) ⟨by decide, by decide⟩ (fun M' h => ?_)
                  have hM85 := h
                  refine tu_st_eq rfl (M' := tu_row (tu_row N67 1 (tu_u ((tu_u (M 1) 7 (M 1 7 + 2 * ((j : Nat) : Int)))) 7 (((tu_u (M 1) 7 (M 1 7 + 2 * ((j : Nat) : Int))) 7) + 1))) 7 (tu_u ((tu_vs (M 7) (M 1 7).toNat a b j)) ((tu_u (M 1) 7 (M 1 7 + 2 * ((j : Nat) : Int))) 7).toNat (a + ((j : Nat) : Int)))) (hM85.trans ((congrArg (fun m => tu_row m 7 (tu_u ((tu_vs (M 7) (M 1 7).toNat a b j)) ((tu_u (M 1) 7 (M 1 7 + 2 * ((j : Nat) : Int))) 7).toNat (a + ((j : Nat) : Int)))) ((tu_rc (tu_row N67 1 (tu_u (M 1) 7 (M 1 7 + 2 * ((j : Nat) : Int)))) (tu_vs (M 7) (M 1 7).toNat a b j) (tu_u ((tu_u (M 1) 7 (M 1 7 + 2 * ((j : Nat) : Int)))) 7 (((tu_u (M 1) 7 (M 1 7 + 2 * ((j : Nat) : Int))) 7) + 1)) rfl).trans (congrArg (fun m => tu_row m 7 (tu_vs (M 7) (M 1 7).toNat a b j)) (tu_rr N67 1 (tu_u (M 1) 7 (M 1 7 + 2 * ((j : Nat) : Int))) (tu_u ((tu_u (M 1) 7 (M 1 7 + 2 * ((j : Nat) : Int)))) 7 (((tu_u (M 1) 7 (M 1 7 + 2 * ((j : Nat) : Int))) 7) + 1)))))).trans (tu_rr (tu_row N67 1 (tu_u ((tu_u (M 1) 7 (M 1 7 + 2 * ((j : Nat) : Int)))) 7 (((tu_u (M 1) 7 (M 1 7 + 2 * ((j : Nat) : Int))) 7) + 1))) 7 (tu_vs (M 7) (M 1 7).toNat a b j) (tu_u ((tu_vs (M 7) (M 1 7).toNat a b j)) ((tu_u (M 1) 7 (M 1 7 + 2 * ((j : Nat) : Int))) 7).toNat (a + ((j : Nat) : Int)))))) ?_
                  refine tu_st_eq rfl (M' := tu_row (tu_row N67 1 (tu_u (M 1) 7 (M 1 7 + 2 * ((j : Nat) : Int) + 1))) 7 (tu_u ((tu_vs (M 7) (M 1 7).toNat a b j)) ((tu_u (M 1) 7 (M 1 7 + 2 * ((j : Nat) : Int))) 7).toNat (a + ((j : Nat) : Int)))) (congrArg (fun m => tu_row m 7 (tu_u ((tu_vs (M 7) (M 1 7).toNat a b j)) ((tu_u (M 1) 7 (M 1 7 + 2 * ((j : Nat) : Int))) 7).toNat (a + ((j : Nat) : Int)))) (congrArg (fun q => tu_row N67 1 q) (show tu_u ((tu_u (M 1) 7 (M 1 7 + 2 * ((j : Nat) : Int)))) 7 (((tu_u (M 1) 7 (M 1 7 + 2 * ((j : Nat) : Int))) 7) + 1) = tu_u (M 1) 7 (M 1 7 + 2 * ((j : Nat) : Int) + 1) from by rw [tu_u_s, tu_uu]))) ?_
                  refine tu_st_eq rfl (M' := tu_row (tu_row N67 1 (tu_u (M 1) 7 (M 1 7 + 2 * ((j : Nat) : Int) + 1))) 7 (tu_u (tu_vs (M 7) (M 1 7).toNat a b j) ((M 1 7).toNat + 2 * j) (a + ((j : Nat) : Int)))) (congrArg (fun q => tu_row (tu_row N67 1 (tu_u (M 1) 7 (M 1 7 + 2 * ((j : Nat) : Int) + 1))) 7 q) (show tu_u ((tu_vs (M 7) (M 1 7).toNat a b j)) ((tu_u (M 1) 7 (M 1 7 + 2 * ((j : Nat) : Int))) 7).toNat (a + ((j : Nat) : Int)) = tu_u (tu_vs (M 7) (M 1 7).toNat a b j) ((M 1 7).toNat + 2 * j) (a + ((j : Nat) : Int)) from by rw [tu_u_s, show (M 1 7 + 2 * ((j : Nat) : Int)).toNat = (M 1 7).toNat + 2 * j from by omega])) ?_
                  refine tu_aload_n 88 X 0 dX3_verse_88 rfl ?_
                  refine tu_getR 89 X dX3_verse_89 fl_RX3_10 (by decide) rfl rfl ?_
                  refine tu_iload_n 92 X 3 dX3_verse_92 rfl ?_
                  refine tu_callVV 93 X (st := []) (as := [tu_i b]) (c_X0_addToBallad b (show 0 ≤ (tu_u (M 1) 7 (M 1 7 + 2 * ((j : Nat) : Int) + 1)) 7 ∧ (tu_u (M 1) 7 (M 1 7 + 2 * ((j : Nat) : Int) + 1)) 7 < 40 from by rw [tu_u_s]; omega)) sv_RX3_125 dX3_verse_93 rfl (by decide) rfl rfl rfl (Nat.le_of_ble_eq_true rfl) ⟨by decide, by decide⟩ (fun M' h => ?_)
                  have hM93 := h
                  refine tu_st_eq rfl (M' := tu_row (tu_row N67 1 (tu_u ((tu_u (M 1) 7 (M 1 7 + 2 * ((j : Nat) : Int) + 1))) 7 (((tu_u (M 1) 7 (M 1 7 + 2 * ((j : Nat) : Int) + 1)) 7) + 1))) 7 (tu_u ((tu_u (tu_vs (M 7) (M 1 7).toNat a b j) ((M 1 7).toNat + 2 * j) (a + ((j : Nat) : Int)))) ((tu_u (M 1) 7 (M 1 7 + 2 * ((j : Nat) : Int) + 1)) 7).toNat b)) (hM93.trans ((congrArg (fun m => tu_row m 7 (tu_u ((tu_u (tu_vs (M 7) (M 1 7).toNat a b j) ((M 1 7).toNat + 2 * j) (a + ((j : Nat) : Int)))) ((tu_u (M 1) 7 (M 1 7 + 2 * ((j : Nat) : Int) + 1)) 7).toNat b)) ((tu_rc (tu_row N67 1 (tu_u (M 1) 7 (M 1 7 + 2 * ((j : Nat) : Int) + 1))) (tu_u (tu_vs (M 7) (M 1 7).toNat a b j) ((M 1 7).toNat + 2 * j) (a + ((j : Nat) : Int))) (tu_u ((tu_u (M 1) 7 (M 1 7 + 2 * ((j : Nat) : Int) + 1))) 7 (((tu_u (M 1) 7 (M 1 7 + 2 * ((j : Nat) : Int) + 1)) 7) + 1)) rfl).trans (congrArg (fun m => tu_row m 7 (tu_u (tu_vs (M 7) (M 1 7).toNat a b j) ((M 1 7).toNat + 2 * j) (a + ((j : Nat) : Int)))) (tu_rr N67 1 (tu_u (M 1) 7 (M 1 7 + 2 * ((j : Nat) : Int) + 1)) (tu_u ((tu_u (M 1) 7 (M 1 7 + 2 * ((j : Nat) : Int) + 1))) 7 (((tu_u (M 1) 7 (M 1 7 + 2 * ((j : Nat) : Int) + 1)) 7) + 1)))))).trans (tu_rr (tu_row N67 1 (tu_u ((tu_u (M 1) 7 (M 1 7 + 2 * ((j : Nat) : Int) + 1))) 7 (((tu_u (M 1) 7 (M 1 7 + 2 * ((j : Nat) : Int) + 1)) 7) + 1))) 7 (tu_u (tu_vs (M 7) (M 1 7).toNat a b j) ((M 1 7).toNat + 2 * j) (a + ((j : Nat) : Int))) (tu_u ((tu_u (tu_vs (M 7) (M 1 7).toNat a b j) ((M 1 7).toNat + 2 * j) (a + ((j : Nat) : Int)))) ((tu_u (M 1) 7 (M 1 7 + 2 * ((j : Nat) : Int) + 1)) 7).toNat b)))) ?_
                  refine tu_st_eq rfl (M' := tu_row (tu_row N67 1 (tu_u (M 1) 7 (M 1 7 + 2 * (((j + 1) : Nat) : Int)))) 7 (tu_u ((tu_u (tu_vs (M 7) (M 1 7).toNat a b j) ((M 1 7).toNat + 2 * j) (a + ((j : Nat) : Int)))) ((tu_u (M 1) 7 (M 1 7 + 2 * ((j : Nat) : Int) + 1)) 7).toNat b)) (congrArg (fun m => tu_row m 7 (tu_u ((tu_u (tu_vs (M 7) (M 1 7).toNat a b j) ((M 1 7).toNat + 2 * j) (a + ((j : Nat) : Int)))) ((tu_u (M 1) 7 (M 1 7 + 2 * ((j : Nat) : Int) + 1)) 7).toNat b)) (congrArg (fun q => tu_row N67 1 q) (show tu_u ((tu_u (M 1) 7 (M 1 7 + 2 * ((j : Nat) : Int) + 1))) 7 (((tu_u (M 1) 7 (M 1 7 + 2 * ((j : Nat) : Int) + 1)) 7) + 1) = tu_u (M 1) 7 (M 1 7 + 2 * (((j + 1) : Nat) : Int)) from by rw [tu_u_s, tu_uu, show M 1 7 + 2 * ((j : Nat) : Int) + 1 + 1 = M 1 7 + 2 * (((j + 1) : Nat) : Int) from by omega]))) ?_
                  refine tu_st_eq rfl (M' := tu_row (tu_row N67 1 (tu_u (M 1) 7 (M 1 7 + 2 * (((j + 1) : Nat) : Int)))) 7 (tu_vs (M 7) (M 1 7).toNat a b (j + 1))) (congrArg (fun q => tu_row (tu_row N67 1 (tu_u (M 1) 7 (M 1 7 + 2 * (((j + 1) : Nat) : Int)))) 7 q) (show tu_u ((tu_u (tu_vs (M 7) (M 1 7).toNat a b j) ((M 1 7).toNat + 2 * j) (a + ((j : Nat) : Int)))) ((tu_u (M 1) 7 (M 1 7 + 2 * ((j : Nat) : Int) + 1)) 7).toNat b = tu_vs (M 7) (M 1 7).toNat a b (j + 1) from by rw [tu_u_s, show (M 1 7 + 2 * ((j : Nat) : Int) + 1).toNat = (M 1 7).toNat + 2 * j + 1 from by omega]; rfl)) ?_
                  refine tu_iinc 96 X (lv' := [(4, tu_i ((a + ((j : Nat) : Int)) + 1)), (0, tu_r 0), (1, tu_i a), (2, tu_i d), (3, tu_i b)]) 4 dX3_verse_96 rfl (by rw [hnl]; decide) rfl ?_
                  refine tu_goto 99 X 73 dX3_verse_99 (by decide) ?_
                  refine tu_jmp [1, 2, 3, 4, 0] (lv' := [(0, tu_r 0), (1, tu_i a), (2, tu_i d), (3, tu_i b), (4, tu_i (a + (((j + 1) : Nat) : Int)))]) ⟨rfl, rfl, rfl, rfl, tu_ei (by first | rfl | (omega)), trivial⟩ rfl (ih73 (j + 1) (by omega) (by omega))
            refine tu_jmp [1, 2, 3, 4, 0] (lv' := [(0, tu_r 0), (1, tu_i a), (2, tu_i d), (3, tu_i b), (4, tu_i (a + ((0 : Nat) : Int)))]) ⟨rfl, rfl, rfl, rfl, tu_ei (by first | rfl | (omega)), trivial⟩ (by first | rfl | (rw [e67_1, e67_7, tu_u_x (f := M 1) (by omega)]; rfl)) (lp73 (((d + 1 - a).toNat - 0) + 1) 0 (by omega) (by omega))
          ·
            refine tu_bipush 63 X dX3_verse_63 (by decide) ?_
            refine hret 65 _ _ (-4) dX3_verse_65 (fun h => by rw [hrt] at h; cases h) ?_
            exact ⟨_, Or.inr (Or.inr (Or.inl (⟨by omega, rfl, rfl⟩))), rfl⟩
        ·
          refine tu_bipush 40 X dX3_verse_40 (by decide) ?_
          refine hret 42 _ _ (-2) dX3_verse_42 (fun h => by rw [hrt] at h; cases h) ?_
          exact ⟨_, Or.inr (Or.inl (⟨by omega, rfl, rfl⟩)), rfl⟩
      ·
        have br30 := tu_b_e0 br30
        refine tu_iconst 33 X dX3_verse_33 ?_
        refine hret 34 _ _ (-1) dX3_verse_34 (fun h => by rw [hrt] at h; cases h) ?_
        exact ⟨_, Or.inl (⟨by omega, rfl, rfl⟩), rfl⟩
