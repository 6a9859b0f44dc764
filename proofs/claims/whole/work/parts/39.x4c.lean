set_option maxRecDepth 20000 in
set_option maxHeartbeats 4000000 in
theorem c_X4_beat {M : tu_M} (B : Nat → Nat → Int) (l s w : Int) (hO : tu_BO B) (hR : tu_MB B (M 87)) (hh : 0 ≤ M 86 2 ∧ M 86 2 ≤ 6) (rl : tu_rg l) (rs : tu_rg s) (rw : tu_rg w) : tu_MI tu_Y_X4_beat [tu_r 86, tu_i l, tu_i s, tu_i w] M (fun z M' => ∃ (y : Int), (((¬ (0 ≤ l ∧ l < B 0 4 ∧ 0 ≤ s ∧ s < B 4 l.toNat)) ∧ M' = M ∧ y = -1) ∨ (((0 ≤ l ∧ l < B 0 4 ∧ 0 ≤ s ∧ s < B 4 l.toNat) ∧ ¬ (0 ≤ w ∧ w ≤ 2)) ∧ M' = M ∧ y = -2) ∨ ((0 ≤ l ∧ l < B 0 4 ∧ 0 ≤ s ∧ s < B 4 l.toNat ∧ 0 ≤ w ∧ w ≤ 2) ∧ ∃ S : Nat → Int, tu_MB (tu_row B 5 (tu_u (B 5) ((l * 24) + s).toNat w)) S ∧ M' = tu_mrec M S ∧ y = B 5 ((l * 24) + s).toNat)) ∧ z = y) := by
  have cn := hO.1
  refine tu_MI.of (ty := .int) (by decide) rfl (by first | exact Or.inl rfl | exact Or.inr rfl) (Nat.le_of_ble_eq_true rfl) (fun T (X : tu_X T cX4_beat RX4 3 65) hnl hrt hret => ?_)
  have hret : tu_RI T cX4_beat (fun z M' => ∃ (y : Int), (((¬ (0 ≤ l ∧ l < B 0 4 ∧ 0 ≤ s ∧ s < B 4 l.toNat)) ∧ M' = M ∧ y = -1) ∨ (((0 ≤ l ∧ l < B 0 4 ∧ 0 ≤ s ∧ s < B 4 l.toNat) ∧ ¬ (0 ≤ w ∧ w ≤ 2)) ∧ M' = M ∧ y = -2) ∨ ((0 ≤ l ∧ l < B 0 4 ∧ 0 ≤ s ∧ s < B 4 l.toNat ∧ 0 ≤ w ∧ w ≤ 2) ∧ ∃ S : Nat → Int, tu_MB (tu_row B 5 (tu_u (B 5) ((l * 24) + s).toNat w)) S ∧ M' = tu_mrec M S ∧ y = B 5 ((l * 24) + s).toNat)) ∧ z = y) := hret
  have hnl : T.2.2.2.2.2.2.2.2.2.2.1 = 7 := hnl
  show tu_W T 0 [(0, tu_r 86), (1, tu_i l), (2, tu_i s), (3, tu_i w)] [] M
  refine tu_aload_n 0 X 0 dX4_beat_0 rfl ?_
  refine tu_iload_n 1 X 1 dX4_beat_1 rfl ?_
  refine tu_iload_n 2 X 2 dX4_beat_2 rfl ?_
  refine tu_callVI 3 X (st := []) (as := [tu_i l, tu_i s]) (c_X4_isBeat B l s (show tu_BO B from by first | assumption | omega | exact ⟨by omega, by omega⟩ | decide) (show tu_MB B (M 87) from by first | assumption | omega | exact ⟨by omega, by omega⟩ | decide) (show tu_rg l from by first | assumption | omega | exact ⟨by omega, by omega⟩ | decide) (show tu_rg s from by first | assumption | omega | exact ⟨by omega, by omega⟩ | decide)) sv_RX4_156 dX4_beat_3 rfl (by decide) rfl rfl rfl (Nat.le_of_ble_eq_true rfl) ⟨by decide, by decide⟩ (fun z M' h => ?_)
  obtain ⟨hM3, hz3⟩ := h
  refine tu_st_eq rfl (M' := M) hM3 ?_
  refine tu_tp (b := tu_b (0 ≤ l ∧ l < B 0 4 ∧ 0 ≤ s ∧ s < B 4 l.toNat)) hz3 ?_
  refine tu_if_ne 6 X 11 dX4_beat_6 (by decide) tu_b_rg (fun br6 => ?_) (fun br6 => ?_)
  ·
    have br6 := tu_b_n0 br6
    have h9 := hO.2.2.2.1 l.toNat (by omega)
    refine tu_iload_n 11 X 3 dX4_beat_11 rfl ?_
    refine tu_iconst 12 X dX4_beat_12 ?_
    refine tu_iconst 13 X dX4_beat_13 ?_
    refine tu_callSI 14 X (st := []) (as := [tu_i w, tu_i 0, tu_i 2]) (c_X4_within w 0 2 (show tu_rg w from by first | assumption | omega | exact ⟨by omega, by omega⟩ | decide) (show tu_rg 0 from by first | assumption | omega | exact ⟨by omega, by omega⟩ | decide) (show tu_rg 2 from by first | assumption | omega | exact ⟨by omega, by omega⟩ | decide)) ss_RX4_48 dX4_beat_14 rfl (Nat.le_of_ble_eq_true rfl) ⟨by decide, by decide⟩ (fun z M' h => ?_)
    obtain ⟨hM14, hz14⟩ := h
    refine tu_st_eq rfl (M' := M) hM14 ?_
    refine tu_tp (b := tu_b (0 ≤ w ∧ w ≤ 2)) hz14 ?_
    refine tu_if_ne 17 X 23 dX4_beat_17 (by decide) tu_b_rg (fun br17 => ?_) (fun br17 => ?_)
    ·
      have br17 := tu_b_n0 br17
      refine tu_aload_n 23 X 0 dX4_beat_23 rfl ?_
      refine tu_callVV 24 X (st := []) (as := []) (c_X4_record  (show 0 ≤ M 86 2 ∧ M 86 2 ≤ 6 from by first | assumption | omega | exact ⟨by omega, by omega⟩ | decide)) sv_RX4_131 dX4_beat_24 rfl (by decide) rfl rfl rfl (Nat.le_of_ble_eq_true rfl) ⟨by decide, by decide⟩ (fun M' h => ?_)
      have hM24 := h
      refine tu_st_eq rfl (M' := tu_row (tu_row M 86 (tu_u (M 86) 2 (tu_mw (M 86 2)))) 88 (tu_mq (M 88) (M 87) (M 86 2))) hM24 ?_
      refine tu_aload_n 27 X 0 dX4_beat_27 rfl ?_
      refine tu_iload_n 28 X 1 dX4_beat_28 rfl ?_
      refine tu_iload_n 29 X 2 dX4_beat_29 rfl ?_
      refine tu_st_eq (show _ = [tu_i ((s.toNat : Nat) : Int), tu_i ((l.toNat : Nat) : Int), tu_r 86] from by first | rfl | (simp only [List.cons.injEq, Sum.inl.injEq, and_true, true_and]; omega)) rfl ?_
      refine tu_callVI 30 X (st := []) (as := [tu_i ((l.toNat : Nat) : Int), tu_i ((s.toNat : Nat) : Int)]) (c_X4_kindAt B l.toNat s.toNat (show tu_BO B from by first | assumption | omega | exact ⟨by omega, by omega⟩ | decide) (show tu_MB B (M 87) from by first | assumption | omega | exact ⟨by omega, by omega⟩ | decide) (show (l.toNat : Int) < B 0 4 from by first | assumption | omega | exact ⟨by omega, by omega⟩ | decide) (show (s.toNat : Int) < B 4 l.toNat from by first | assumption | omega | exact ⟨by omega, by omega⟩ | decide)) sv_RX4_159 dX4_beat_30 rfl (by decide) rfl rfl rfl (Nat.le_of_ble_eq_true rfl) ⟨by decide, by decide⟩ (fun z M' h => ?_)
      obtain ⟨hM30, hz30⟩ := h
      refine tu_st_eq rfl (M' := tu_row (tu_row M 86 (tu_u (M 86) 2 (tu_mw (M 86 2)))) 88 (tu_mq (M 88) (M 87) (M 86 2))) hM30 ?_
      refine tu_tp (b := (B 5 (l.toNat * 24 + s.toNat))) hz30 ?_
      refine tu_istore 33 X (lv' := [(4, tu_i (B 5 (l.toNat * 24 + s.toNat))), (0, tu_r 86), (1, tu_i l), (2, tu_i s), (3, tu_i w)]) dX4_beat_33 (by rw [hnl]; decide) rfl ?_
      refine tu_iconst 35 X dX4_beat_35 ?_
      refine tu_istore 36 X (lv' := [(5, tu_i 1), (4, tu_i (B 5 (l.toNat * 24 + s.toNat))), (0, tu_r 86), (1, tu_i l), (2, tu_i s), (3, tu_i w)]) dX4_beat_36 (by rw [hnl]; decide) rfl ?_
      refine tu_st_eq rfl (M' := tu_row (tu_row (tu_row M 86 (tu_u (M 86) 2 (tu_mw (M 86 2)))) 87 (M 87)) 88 (tu_mq (M 88) (M 87) (M 86 2))) ((congrArg (fun m => tu_row m 88 (tu_mq (M 88) (M 87) (M 86 2))) ((congrArg (fun m => tu_row m 86 (tu_u (M 86) 2 (tu_mw (M 86 2)))) ((tu_rx M 87).symm)).trans (tu_rc M (M 87) (tu_u (M 86) 2 (tu_mw (M 86 2))) rfl))).trans rfl) ?_
      have lp38 : ∀ (nq : Nat) (k : Nat), (k ≤ 2) → 2 - k < nq → tu_W T 38 [(0, tu_r 86), (1, tu_i l), (2, tu_i s), (3, tu_i w), (4, tu_i (B 5 (l.toNat * 24 + s.toNat))), (5, tu_i (((k : Nat) : Int) + 1))] [] (tu_row (tu_row (tu_row M 86 (tu_u (M 86) 2 (tu_mw (M 86 2)))) 87 (tu_bm (M 87) l s w k)) 88 (tu_mq (M 88) (M 87) (M 86 2))) := by
        intro nq
        induction nq with
        | zero => intros; omega
        | succ nq ih38 =>
          intro k hk hn38
          refine tu_iload 38 X 5 dX4_beat_38 rfl ?_
          refine tu_iconst 40 X dX4_beat_40 ?_
          refine tu_icmp_gt 41 X 97 dX4_beat_41 (by decide) (show tu_rg (((k : Nat) : Int) + 1) from by first | assumption | exact ⟨by omega, by omega⟩) ⟨by decide, by decide⟩ (fun br41 => ?_) (fun br41 => ?_)
          ·
            refine tu_iload 97 X 4 dX4_beat_97 rfl ?_
            refine hret 99 _ _ (B 5 (l.toNat * 24 + s.toNat)) dX4_beat_99 (fun h => by rw [hrt] at h; cases h) ?_
            have ek : k = 2 := by omega
            subst ek
            refine ⟨_, Or.inr (Or.inr (⟨by omega, _, tu_MB.mbeat hR hO (by omega) (by omega) (by omega) (by omega), rfl, by rw [show ((l * 24) + s).toNat = l.toNat * 24 + s.toNat from by omega]⟩)), rfl⟩
          ·
            refine tu_bipush 44 X dX4_beat_44 (by decide) ?_
            refine tu_iconst 46 X dX4_beat_46 ?_
            refine tu_iload_n 47 X 1 dX4_beat_47 rfl ?_
            refine tu_imul 48 X dX4_beat_48 ?_
            refine tu_iadd 49 X dX4_beat_49 ?_
            refine tu_iconst 50 X dX4_beat_50 ?_
            refine tu_iadd 51 X dX4_beat_51 ?_
            refine tu_iload 52 X 5 dX4_beat_52 rfl ?_
            refine tu_isub 54 X dX4_beat_54 ?_
            refine tu_istore 55 X (lv' := [(6, tu_i (((40 + (3 * l)) + 3) - (((k : Nat) : Int) + 1))), (0, tu_r 86), (1, tu_i l), (2, tu_i s), (3, tu_i w), (4, tu_i (B 5 (l.toNat * 24 + s.toNat))), (5, tu_i (((k : Nat) : Int) + 1))]) dX4_beat_55 (by rw [hnl]; decide) rfl ?_
            refine tu_aload_n 57 X 1 dX4_beat_57 rfl ?_
            refine tu_getR 58 X dX4_beat_58 fl_RX4_7 (by decide) rfl rfl ?_
            refine tu_iload 61 X 0 dX4_beat_61 rfl ?_
            refine tu_aload_n 63 X 1 dX4_beat_63 rfl ?_
            refine tu_getR 64 X dX4_beat_64 fl_RX4_7 (by decide) rfl rfl ?_
            refine tu_iload 67 X 0 dX4_beat_67 rfl ?_
            refine tu_iald 69 X (x := (tu_bm (M 87) l s w k) ((((40 + (3 * l)) + 3) - (((k : Nat) : Int) + 1)).toNat)) ((((40 + (3 * l)) + 3) - (((k : Nat) : Int) + 1)).toNat) dX4_beat_69 (by decide) rfl (by decide) (by omega) (by omega) rfl ?_
            refine tu_iconst 70 X dX4_beat_70 ?_
            refine tu_iload_n 71 X 3 dX4_beat_71 rfl ?_
            refine tu_ishl 72 X dX4_beat_72 ?_
            refine tu_iconst 73 X dX4_beat_73 ?_
            refine tu_ixor 74 X dX4_beat_74 ?_
            refine tu_iand 75 X dX4_beat_75 ?_
            refine tu_iload_n 76 X 4 dX4_beat_76 rfl ?_
            refine tu_iload 77 X 6 dX4_beat_77 rfl ?_
            refine tu_icmp_ne 79 X 88 dX4_beat_79 (by decide) (show tu_rg w from by first | assumption | exact ⟨by omega, by omega⟩) (show tu_rg (((k : Nat) : Int) + 1) from by first | assumption | exact ⟨by omega, by omega⟩) (fun br79 => ?_) (fun br79 => ?_)
            ·
              refine tu_iconst 88 X dX4_beat_88 ?_
              refine tu_ior 89 X dX4_beat_89 ?_
              refine tu_iast 90 X (M' := tu_row (tu_row (tu_row M 86 (tu_u (M 86) 2 (tu_mw (M 86 2)))) 87 (tu_bm (M 87) l s w (k + 1))) 88 (tu_mq (M 88) (M 87) (M 86 2))) ((((40 + (3 * l)) + 3) - (((k : Nat) : Int) + 1)).toNat) dX4_beat_90 (by decide) rfl (by decide) (by omega) (by omega) (((tu_rc (tu_row (tu_row M 86 (tu_u (M 86) 2 (tu_mw (M 86 2)))) 87 (tu_bm (M 87) l s w k)) (tu_mq (M 88) (M 87) (M 86 2)) (tu_u (tu_bm (M 87) l s w k) ((((40 + (3 * l)) + 3) - (((k : Nat) : Int) + 1)).toNat) (tu_or (tu_and ((tu_bm (M 87) l s w k) ((((40 + (3 * l)) + 3) - (((k : Nat) : Int) + 1)).toNat)) (tu_xor (tu_shl 1 s) (-1))) 0)) rfl).trans (congrArg (fun m => tu_row m 88 (tu_mq (M 88) (M 87) (M 86 2))) (tu_rr (tu_row M 86 (tu_u (M 86) 2 (tu_mw (M 86 2)))) 87 (tu_bm (M 87) l s w k) (tu_u (tu_bm (M 87) l s w k) ((((40 + (3 * l)) + 3) - (((k : Nat) : Int) + 1)).toNat) (tu_or (tu_and ((tu_bm (M 87) l s w k) ((((40 + (3 * l)) + 3) - (((k : Nat) : Int) + 1)).toNat)) (tu_xor (tu_shl 1 s) (-1))) 0))))).trans (congrArg (fun m => tu_row m 88 (tu_mq (M 88) (M 87) (M 86 2))) (congrArg (fun q => tu_row (tu_row M 86 (tu_u (M 86) 2 (tu_mw (M 86 2)))) 87 q) (show tu_u (tu_bm (M 87) l s w k) ((((40 + (3 * l)) + 3) - (((k : Nat) : Int) + 1)).toNat) (tu_or (tu_and ((tu_bm (M 87) l s w k) ((((40 + (3 * l)) + 3) - (((k : Nat) : Int) + 1)).toNat)) (tu_xor (tu_shl 1 s) (-1))) 0) = tu_bm (M 87) l s w (k + 1) from by first | exact tu_bm_e (Or.inl ⟨by omega, rfl⟩) | exact tu_bm_e (Or.inr ⟨by omega, rfl⟩))))) ?_
              refine tu_iinc 91 X (lv' := [(5, tu_i ((((k : Nat) : Int) + 1) + 1)), (6, tu_i (((40 + (3 * l)) + 3) - (((k : Nat) : Int) + 1))), (0, tu_r 86), (1, tu_i l), (2, tu_i s), (3, tu_i w), (4, tu_i (B 5 (l.toNat * 24 + s.toNat)))]) 6 dX4_beat_91 rfl (by rw [hnl]; decide) rfl ?_
              refine tu_goto 94 X 38 dX4_beat_94 (by decide) ?_
              refine tu_jmp [2, 3, 4, 5, 6, 0] (lv' := [(0, tu_r 86), (1, tu_i l), (2, tu_i s), (3, tu_i w), (4, tu_i (B 5 (l.toNat * 24 + s.toNat))), (5, tu_i ((((k + 1) : Nat) : Int) + 1))]) ⟨rfl, rfl, rfl, rfl, rfl, tu_ei (by first | rfl | (omega)), trivial⟩ rfl (ih38 (k + 1) (by omega) (by omega))
            ·
              refine tu_iconst 82 X dX4_beat_82 ?_
              refine tu_iload_n 83 X 3 dX4_beat_83 rfl ?_
              refine tu_ishl 84 X dX4_beat_84 ?_
              refine tu_goto 85 X 89 dX4_beat_85 (by decide) ?_
              refine tu_ior 89 X dX4_beat_89 ?_
              refine tu_iast 90 X (M' := tu_row (tu_row (tu_row M 86 (tu_u (M 86) 2 (tu_mw (M 86 2)))) 87 (tu_bm (M 87) l s w (k + 1))) 88 (tu_mq (M 88) (M 87) (M 86 2))) ((((40 + (3 * l)) + 3) - (((k : Nat) : Int) + 1)).toNat) dX4_beat_90 (by decide) rfl (by decide) (by omega) (by omega) (((tu_rc (tu_row (tu_row M 86 (tu_u (M 86) 2 (tu_mw (M 86 2)))) 87 (tu_bm (M 87) l s w k)) (tu_mq (M 88) (M 87) (M 86 2)) (tu_u (tu_bm (M 87) l s w k) ((((40 + (3 * l)) + 3) - (((k : Nat) : Int) + 1)).toNat) (tu_or (tu_and ((tu_bm (M 87) l s w k) ((((40 + (3 * l)) + 3) - (((k : Nat) : Int) + 1)).toNat)) (tu_xor (tu_shl 1 s) (-1))) (tu_shl 1 s))) rfl).trans (congrArg (fun m => tu_row m 88 (tu_mq (M 88) (M 87) (M 86 2))) (tu_rr (tu_row M 86 (tu_u (M 86) 2 (tu_mw (M 86 2)))) 87 (tu_bm (M 87) l s w k) (tu_u (tu_bm (M 87) l s w k) ((((40 + (3 * l)) + 3) - (((k : Nat) : Int) + 1)).toNat) (tu_or (tu_and ((tu_bm (M 87) l s w k) ((((40 + (3 * l)) + 3) - (((k : Nat) : Int) + 1)).toNat)) (tu_xor (tu_shl 1 s) (-1))) (tu_shl 1 s)))))).trans (congrArg (fun m => tu_row m 88 (tu_mq (M 88) (M 87) (M 86 2))) (congrArg (fun q => tu_row (tu_row M 86 (tu_u (M 86) 2 (tu_mw (M 86 2)))) 87 q) (show tu_u (tu_bm (M 87) l s w k) ((((40 + (3 * l)) + 3) - (((k : Nat) : Int) + 1)).toNat) (tu_or (tu_and ((tu_bm (M 87) l s w k) ((((40 + (3 * l)) + 3) - (((k : Nat) : Int) + 1)).toNat)) (tu_xor (tu_shl 1 s) (-1))) (tu_shl 1 s)) = tu_bm (M 87) l s w (k + 1) from by first | exact tu_bm_e (Or.inl ⟨by omega, rfl⟩) | exact tu_bm_e (Or.inr ⟨by omega, rfl⟩))))) ?_
              refine tu_iinc 91 X (lv' := [(5, tu_i ((((k : Nat) : Int) + 1) + 1)), (6, tu_i (((40 + (3 * l)) + 3) - (((k : Nat) : Int) + 1))), (0, tu_r 86), (1, tu_i l), (2, tu_i s), (3, tu_i w), (4, tu_i (B 5 (l.toNat * 24 + s.toNat)))]) 6 dX4_beat_91 rfl (by rw [hnl]; decide) rfl ?_
              refine tu_goto 94 X 38 dX4_beat_94 (by decide) ?_
              refine tu_jmp [2, 3, 4, 5, 6, 0] (lv' := [(0, tu_r 86), (1, tu_i l), (2, tu_i s), (3, tu_i w), (4, tu_i (B 5 (l.toNat * 24 + s.toNat))), (5, tu_i ((((k + 1) : Nat) : Int) + 1))]) ⟨rfl, rfl, rfl, rfl, rfl, tu_ei (by first | rfl | (omega)), trivial⟩ rfl (ih38 (k + 1) (by omega) (by omega))
      refine tu_jmp [2, 3, 4, 5, 1, 0] (lv' := [(0, tu_r 86), (1, tu_i l), (2, tu_i s), (3, tu_i w), (4, tu_i (B 5 (l.toNat * 24 + s.toNat))), (5, tu_i (((0 : Nat) : Int) + 1))]) ⟨rfl, rfl, rfl, rfl, rfl, tu_ei (by first | rfl | (omega)), trivial⟩ rfl (lp38 ((2 - 0) + 1) 0 (by omega) (by omega))
    ·
      have br17 := tu_b_e0 br17
      refine tu_bipush 20 X dX4_beat_20 (by decide) ?_
      refine hret 22 _ _ (-2) dX4_beat_22 (fun h => by rw [hrt] at h; cases h) ?_
      exact ⟨_, Or.inr (Or.inl (⟨by omega, rfl, rfl⟩)), rfl⟩
  ·
    have br6 := tu_b_e0 br6
    refine tu_iconst 9 X dX4_beat_9 ?_
    refine hret 10 _ _ (-1) dX4_beat_10 (fun h => by rw [hrt] at h; cases h) ?_
    exact ⟨_, Or.inl (⟨by omega, rfl, rfl⟩), rfl⟩
set_option maxRecDepth 20000 in
set_option maxHeartbeats 4000000 in
theorem c_X4_verse {M : tu_M} (B : Nat → Nat → Int) (a d b : Int) (hO : tu_BO B) (hR : tu_MB B (M 87)) (hh : 0 ≤ M 86 2 ∧ M 86 2 ≤ 6) (ra : tu_rg a) (rd : tu_rg d) (rb : tu_rg b) : tu_MI tu_Y_X4_verse [tu_r 86, tu_i a, tu_i d, tu_i b] M (fun z M' => ∃ (y : Int), (((¬ ((0 ≤ a ∧ a < B 0 1) ∧ (0 ≤ d ∧ d < B 0 1) ∧ (0 ≤ b ∧ b < B 0 1))) ∧ M' = M ∧ y = -1) ∨ ((((0 ≤ a ∧ a < B 0 1) ∧ (0 ≤ d ∧ d < B 0 1) ∧ (0 ≤ b ∧ b < B 0 1)) ∧ d < a) ∧ M' = M ∧ y = -2) ∨ ((((0 ≤ a ∧ a < B 0 1) ∧ (0 ≤ d ∧ d < B 0 1) ∧ (0 ≤ b ∧ b < B 0 1)) ∧ a ≤ d ∧ 40 < B 0 7 + 2 * (d - a + 1)) ∧ M' = M ∧ y = -4) ∨ ((((0 ≤ a ∧ a < B 0 1) ∧ (0 ≤ d ∧ d < B 0 1) ∧ (0 ≤ b ∧ b < B 0 1)) ∧ a ≤ d ∧ B 0 7 + 2 * (d - a + 1) ≤ 40) ∧ ∃ S : Nat → Int, tu_MB (tu_row (tu_row B 0 (tu_u (B 0) 7 (B 0 7 + 2 * (d - a + 1)))) 6 (tu_vs (B 6) (B 0 7).toNat a b (d - a + 1).toNat)) S ∧ M' = tu_mrec M S ∧ y = B 0 7 + 2 * (d - a + 1))) ∧ z = y) := by
  have cn := hO.1
  refine tu_MI.of (ty := .int) (by decide) rfl (by first | exact Or.inl rfl | exact Or.inr rfl) (Nat.le_of_ble_eq_true rfl) (fun T (X : tu_X T cX4_verse RX4 2 45) hnl hrt hret => ?_)
  have hret : tu_RI T cX4_verse (fun z M' => ∃ (y : Int), (((¬ ((0 ≤ a ∧ a < B 0 1) ∧ (0 ≤ d ∧ d < B 0 1) ∧ (0 ≤ b ∧ b < B 0 1))) ∧ M' = M ∧ y = -1) ∨ ((((0 ≤ a ∧ a < B 0 1) ∧ (0 ≤ d ∧ d < B 0 1) ∧ (0 ≤ b ∧ b < B 0 1)) ∧ d < a) ∧ M' = M ∧ y = -2) ∨ ((((0 ≤ a ∧ a < B 0 1) ∧ (0 ≤ d ∧ d < B 0 1) ∧ (0 ≤ b ∧ b < B 0 1)) ∧ a ≤ d ∧ 40 < B 0 7 + 2 * (d - a + 1)) ∧ M' = M ∧ y = -4) ∨ ((((0 ≤ a ∧ a < B 0 1) ∧ (0 ≤ d ∧ d < B 0 1) ∧ (0 ≤ b ∧ b < B 0 1)) ∧ a ≤ d ∧ B 0 7 + 2 * (d - a + 1) ≤ 40) ∧ ∃ S : Nat → Int, tu_MB (tu_row (tu_row B 0 (tu_u (B 0) 7 (B 0 7 + 2 * (d - a + 1)))) 6 (tu_vs (B 6) (B 0 7).toNat a b (d - a + 1).toNat)) S ∧ M' = tu_mrec M S ∧ y = B 0 7 + 2 * (d - a + 1))) ∧ z = y) := hret
  have hnl : T.2.2.2.2.2.2.2.2.2.2.1 = 5 := hnl
  show tu_W T 0 [(0, tu_r 86), (1, tu_i a), (2, tu_i d), (3, tu_i b)] [] M
  refine tu_aload_n 0 X 0 dX4_verse_0 rfl ?_
  refine tu_iload_n 1 X 1 dX4_verse_1 rfl ?_
  refine tu_callVI 2 X (st := []) (as := [tu_i a]) (c_X4_isLine B a (show tu_BO B from by first | assumption | omega | exact ⟨by omega, by omega⟩ | decide) (show tu_MB B (M 87) from by first | assumption | omega | exact ⟨by omega, by omega⟩ | decide) (show tu_rg a from by first | assumption | omega | exact ⟨by omega, by omega⟩ | decide)) sv_RX4_52 dX4_verse_2 rfl (by decide) rfl rfl rfl (Nat.le_of_ble_eq_true rfl) ⟨by decide, by decide⟩ (fun z M' h => ?_)
  obtain ⟨hM2, hz2⟩ := h
  refine tu_st_eq rfl (M' := M) hM2 ?_
  refine tu_tp (b := tu_b (0 ≤ a ∧ a < B 0 1)) hz2 ?_
  refine tu_if_eq 5 X 24 dX4_verse_5 (by decide) tu_b_rg (fun br5 => ?_) (fun br5 => ?_)
  ·
    have br5 := tu_b_e0 br5
    refine tu_iconst 24 X dX4_verse_24 ?_
    refine hret 25 _ _ (-1) dX4_verse_25 (fun h => by rw [hrt] at h; cases h) ?_
    exact ⟨_, Or.inl (⟨by omega, rfl, rfl⟩), rfl⟩
  ·
    have br5 := tu_b_n0 br5
    refine tu_aload_n 8 X 0 dX4_verse_8 rfl ?_
    refine tu_iload_n 9 X 2 dX4_verse_9 rfl ?_
    refine tu_callVI 10 X (st := []) (as := [tu_i d]) (c_X4_isLine B d (show tu_BO B from by first | assumption | omega | exact ⟨by omega, by omega⟩ | decide) (show tu_MB B (M 87) from by first | assumption | omega | exact ⟨by omega, by omega⟩ | decide) (show tu_rg d from by first | assumption | omega | exact ⟨by omega, by omega⟩ | decide)) sv_RX4_52 dX4_verse_10 rfl (by decide) rfl rfl rfl (Nat.le_of_ble_eq_true rfl) ⟨by decide, by decide⟩ (fun z M' h => ?_)
    obtain ⟨hM10, hz10⟩ := h
    refine tu_st_eq rfl (M' := M) hM10 ?_
    refine tu_tp (b := tu_b (0 ≤ d ∧ d < B 0 1)) hz10 ?_
    refine tu_if_eq 13 X 24 dX4_verse_13 (by decide) tu_b_rg (fun br13 => ?_) (fun br13 => ?_)
    ·
      have br13 := tu_b_e0 br13
      refine tu_iconst 24 X dX4_verse_24 ?_
      refine hret 25 _ _ (-1) dX4_verse_25 (fun h => by rw [hrt] at h; cases h) ?_
      exact ⟨_, Or.inl (⟨by omega, rfl, rfl⟩), rfl⟩
    ·
      have br13 := tu_b_n0 br13
      refine tu_aload_n 16 X 0 dX4_verse_16 rfl ?_
      refine tu_iload_n 17 X 3 dX4_verse_17 rfl ?_
      refine tu_callVI 18 X (st := []) (as := [tu_i b]) (c_X4_isLine B b (show tu_BO B from by first | assumption | omega | exact ⟨by omega, by omega⟩ | decide) (show tu_MB B (M 87) from by first | assumption | omega | exact ⟨by omega, by omega⟩ | decide) (show tu_rg b from by first | assumption | omega | exact ⟨by omega, by omega⟩ | decide)) sv_RX4_52 dX4_verse_18 rfl (by decide) rfl rfl rfl (Nat.le_of_ble_eq_true rfl) ⟨by decide, by decide⟩ (fun z M' h => ?_)
      obtain ⟨hM18, hz18⟩ := h
      refine tu_st_eq rfl (M' := M) hM18 ?_
      refine tu_tp (b := tu_b (0 ≤ b ∧ b < B 0 1)) hz18 ?_
      refine tu_if_ne 21 X 26 dX4_verse_21 (by decide) tu_b_rg (fun br21 => ?_) (fun br21 => ?_)
      ·
        have br21 := tu_b_n0 br21
        refine tu_iload_n 26 X 2 dX4_verse_26 rfl ?_
        refine tu_iload_n 27 X 1 dX4_verse_27 rfl ?_
        refine tu_icmp_ge 28 X 34 dX4_verse_28 (by decide) (show tu_rg d from by first | assumption | exact ⟨by omega, by omega⟩) (show tu_rg a from by first | assumption | exact ⟨by omega, by omega⟩) (fun br28 => ?_) (fun br28 => ?_)
        ·
          refine tu_aload_n 34 X 0 dX4_verse_34 rfl ?_
          refine tu_getR 35 X dX4_verse_35 fl_RX4_7 (by decide) rfl rfl ?_
          refine tu_bipush 38 X dX4_verse_38 (by decide) ?_
          refine tu_iald 40 X (x := M 87 6) 6 dX4_verse_40 (by decide) rfl (by decide) rfl (by decide) rfl ?_
          refine tu_tp (b := (B 0 7)) (by exact hR.n6) ?_
          refine tu_iconst 41 X dX4_verse_41 ?_
          refine tu_iload_n 42 X 2 dX4_verse_42 rfl ?_
          refine tu_iload_n 43 X 1 dX4_verse_43 rfl ?_
          refine tu_isub 44 X dX4_verse_44 ?_
          refine tu_iconst 45 X dX4_verse_45 ?_
          refine tu_iadd 46 X dX4_verse_46 ?_
          refine tu_imul 47 X dX4_verse_47 ?_
          refine tu_iadd 48 X dX4_verse_48 ?_
          refine tu_bipush 49 X dX4_verse_49 (by decide) ?_
          refine tu_icmp_le 51 X 57 dX4_verse_51 (by decide) (show tu_rg ((B 0 7) + (2 * ((d - a) + 1))) from by first | assumption | exact ⟨by omega, by omega⟩) ⟨by decide, by decide⟩ (fun br51 => ?_) (fun br51 => ?_)
          ·
            refine tu_aload_n 57 X 0 dX4_verse_57 rfl ?_
            refine tu_callVV 58 X (st := []) (as := []) (c_X4_record  (show 0 ≤ M 86 2 ∧ M 86 2 ≤ 6 from by first | assumption | omega | exact ⟨by omega, by omega⟩ | decide)) sv_RX4_131 dX4_verse_58 rfl (by decide) rfl rfl rfl (Nat.le_of_ble_eq_true rfl) ⟨by decide, by decide⟩ (fun M' h => ?_)
            have hM58 := h
            refine tu_st_eq rfl (M' := tu_row (tu_row M 86 (tu_u (M 86) 2 (tu_mw (M 86 2)))) 88 (tu_mq (M 88) (M 87) (M 86 2))) hM58 ?_
            refine tu_iload_n 61 X 1 dX4_verse_61 rfl ?_
            refine tu_istore 62 X (lv' := [(4, tu_i a), (0, tu_r 86), (1, tu_i a), (2, tu_i d), (3, tu_i b)]) dX4_verse_62 (by rw [hnl]; decide) rfl ?_
            refine tu_st_eq rfl (M' := tu_row (tu_row (tu_row M 86 (tu_u (M 86) 2 (tu_mw (M 86 2)))) 87 (M 87)) 88 (tu_mq (M 88) (M 87) (M 86 2))) ((congrArg (fun m => tu_row m 88 (tu_mq (M 88) (M 87) (M 86 2))) ((congrArg (fun m => tu_row m 86 (tu_u (M 86) 2 (tu_mw (M 86 2)))) ((tu_rx M 87).symm)).trans (tu_rc M (M 87) (tu_u (M 86) 2 (tu_mw (M 86 2))) rfl))).trans rfl) ?_
            have lp64 : ∀ (nq : Nat) (j : Nat) (S : Nat → Int), (a + (j : Int) ≤ d + 1) → (tu_MB (tu_vB B a b j) S) → (d + 1 - a).toNat - j < nq → tu_W T 64 [(0, tu_r 86), (1, tu_i a), (2, tu_i d), (3, tu_i b), (4, tu_i (a + ((j : Nat) : Int)))] [] (tu_row (tu_row (tu_row M 86 (tu_u (M 86) 2 (tu_mw (M 86 2)))) 87 S) 88 (tu_mq (M 88) (M 87) (M 86 2))) := by
              intro nq
              induction nq with
              | zero => intros; omega
              | succ nq ih64 =>
                intro j S hj hS hn64
                have hS6 : S 6 = B 0 7 + 2 * (j : Int) := hS.n6.trans (by show tu_u (B 0) 7 (B 0 7 + 2 * (j : Int)) 7 = _; rw [tu_u_s])
                refine tu_iload 64 X 4 dX4_verse_64 rfl ?_
                refine tu_iload_n 66 X 2 dX4_verse_66 rfl ?_
                refine tu_icmp_gt 67 X 87 dX4_verse_67 (by decide) (show tu_rg (a + ((j : Nat) : Int)) from by first | assumption | exact ⟨by omega, by omega⟩) (show tu_rg d from by first | assumption | exact ⟨by omega, by omega⟩) (fun br67 => ?_) (fun br67 => ?_)
                ·
                  refine tu_aload_n 87 X 0 dX4_verse_87 rfl ?_
                  refine tu_getR 88 X dX4_verse_88 fl_RX4_7 (by decide) rfl rfl ?_
                  refine tu_bipush 91 X dX4_verse_91 (by decide) ?_
                  refine tu_iald 93 X (x := S 6) 6 dX4_verse_93 (by decide) rfl (by decide) rfl (by decide) rfl ?_
                  refine tu_tp (b := (B 0 7 + 2 * (d - a + 1))) (by omega) ?_
                  refine hret 94 _ _ (B 0 7 + 2 * (d - a + 1)) dX4_verse_94 (fun h => by rw [hrt] at h; cases h) ?_
                  have ej : ((j : Nat) : Int) = d - a + 1 := by omega
                  refine ⟨_, Or.inr (Or.inr (Or.inr (⟨by omega, _, by have e := hS; unfold tu_vB at e; rw [ej, show j = (d - a + 1).toNat from by omega] at e; exact e, rfl, rfl⟩))), rfl⟩
                ·
                  refine tu_aload_n 70 X 0 dX4_verse_70 rfl ?_
                  refine tu_iload 71 X 4 dX4_verse_71 rfl ?_
                  refine tu_callVV 73 X (st := []) (as := [tu_i (a + ((j : Nat) : Int))]) (c_X4_sings B (a + ((j : Nat) : Int)) (show 0 ≤ S 6 ∧ S 6 < 40 from by omega)) sv_RX4_162 dX4_verse_73 rfl (by decide) rfl rfl rfl (Nat.le_of_ble_eq_true rfl) ⟨by decide, by decide⟩ (fun M' h => ?_)
                  have hM73 := h
                  refine tu_st_eq rfl (M' := tu_row (tu_row (tu_row M 86 (tu_u (M 86) 2 (tu_mw (M 86 2)))) 87 (tu_u (tu_u (S) (64 + (S 6)).toNat (a + ((j : Nat) : Int))) 6 (S 6 + 1))) 88 (tu_mq (M 88) (M 87) (M 86 2))) (hM73.trans ((tu_rc (tu_row (tu_row M 86 (tu_u (M 86) 2 (tu_mw (M 86 2)))) 87 S) (tu_mq (M 88) (M 87) (M 86 2)) (tu_u (tu_u (S) (64 + (S 6)).toNat (a + ((j : Nat) : Int))) 6 (S 6 + 1)) rfl).trans (congrArg (fun m => tu_row m 88 (tu_mq (M 88) (M 87) (M 86 2))) (tu_rr (tu_row M 86 (tu_u (M 86) 2 (tu_mw (M 86 2)))) 87 S (tu_u (tu_u (S) (64 + (S 6)).toNat (a + ((j : Nat) : Int))) 6 (S 6 + 1)))))) ?_
                  refine tu_aload_n 76 X 0 dX4_verse_76 rfl ?_
                  refine tu_iload_n 77 X 3 dX4_verse_77 rfl ?_
                  refine tu_callVV 78 X (st := []) (as := [tu_i b]) (c_X4_sings B b (show 0 ≤ (tu_u (tu_u (S) (64 + (S 6)).toNat (a + ((j : Nat) : Int))) 6 (S 6 + 1)) 6 ∧ (tu_u (tu_u (S) (64 + (S 6)).toNat (a + ((j : Nat) : Int))) 6 (S 6 + 1)) 6 < 40 from by rw [tu_u_s]; omega)) sv_RX4_162 dX4_verse_78 rfl (by decide) rfl rfl rfl (Nat.le_of_ble_eq_true rfl) ⟨by decide, by decide⟩ (fun M' h => ?_)
                  have hM78 := h
                  refine tu_st_eq rfl (M' := tu_row (tu_row (tu_row M 86 (tu_u (M 86) 2 (tu_mw (M 86 2)))) 87 (tu_u (tu_u ((tu_u (tu_u (S) (64 + (S 6)).toNat (a + ((j : Nat) : Int))) 6 (S 6 + 1))) (64 + ((tu_u (tu_u (S) (64 + (S 6)).toNat (a + ((j : Nat) : Int))) 6 (S 6 + 1)) 6)).toNat b) 6 ((tu_u (tu_u (S) (64 + (S 6)).toNat (a + ((j : Nat) : Int))) 6 (S 6 + 1)) 6 + 1))) 88 (tu_mq (M 88) (M 87) (M 86 2))) (hM78.trans ((tu_rc (tu_row (tu_row M 86 (tu_u (M 86) 2 (tu_mw (M 86 2)))) 87 (tu_u (tu_u (S) (64 + (S 6)).toNat (a + ((j : Nat) : Int))) 6 (S 6 + 1))) (tu_mq (M 88) (M 87) (M 86 2)) (tu_u (tu_u ((tu_u (tu_u (S) (64 + (S 6)).toNat (a + ((j : Nat) : Int))) 6 (S 6 + 1))) (64 + ((tu_u (tu_u (S) (64 + (S 6)).toNat (a + ((j : Nat) : Int))) 6 (S 6 + 1)) 6)).toNat b) 6 ((tu_u (tu_u (S) (64 + (S 6)).toNat (a + ((j : Nat) : Int))) 6 (S 6 + 1)) 6 + 1)) rfl).trans (congrArg (fun m => tu_row m 88 (tu_mq (M 88) (M 87) (M 86 2))) (tu_rr (tu_row M 86 (tu_u (M 86) 2 (tu_mw (M 86 2)))) 87 (tu_u (tu_u (S) (64 + (S 6)).toNat (a + ((j : Nat) : Int))) 6 (S 6 + 1)) (tu_u (tu_u ((tu_u (tu_u (S) (64 + (S 6)).toNat (a + ((j : Nat) : Int))) 6 (S 6 + 1))) (64 + ((tu_u (tu_u (S) (64 + (S 6)).toNat (a + ((j : Nat) : Int))) 6 (S 6 + 1)) 6)).toNat b) 6 ((tu_u (tu_u (S) (64 + (S 6)).toNat (a + ((j : Nat) : Int))) 6 (S 6 + 1)) 6 + 1)))))) ?_
                  refine tu_iinc 81 X (lv' := [(4, tu_i ((a + ((j : Nat) : Int)) + 1)), (0, tu_r 86), (1, tu_i a), (2, tu_i d), (3, tu_i b)]) 4 dX4_verse_81 rfl (by rw [hnl]; decide) rfl ?_
                  refine tu_goto 84 X 64 dX4_verse_84 (by decide) ?_
                  refine tu_jmp [1, 2, 3, 4, 0] (lv' := [(0, tu_r 86), (1, tu_i a), (2, tu_i d), (3, tu_i b), (4, tu_i (a + (((j + 1) : Nat) : Int)))]) ⟨rfl, rfl, rfl, rfl, tu_ei (by first | rfl | (omega)), trivial⟩ rfl (ih64 (j + 1) (tu_u (tu_u ((tu_u (tu_u (S) (64 + (S 6)).toNat (a + ((j : Nat) : Int))) 6 (S 6 + 1))) (64 + ((tu_u (tu_u (S) (64 + (S 6)).toNat (a + ((j : Nat) : Int))) 6 (S 6 + 1)) 6)).toNat b) 6 ((tu_u (tu_u (S) (64 + (S 6)).toNat (a + ((j : Nat) : Int))) 6 (S 6 + 1)) 6 + 1)) (by omega) (by exact tu_MB.verse hS hO (by omega)) (by omega))
            refine tu_jmp [1, 2, 3, 4, 0] (lv' := [(0, tu_r 86), (1, tu_i a), (2, tu_i d), (3, tu_i b), (4, tu_i (a + ((0 : Nat) : Int)))]) ⟨rfl, rfl, rfl, rfl, tu_ei (by first | rfl | (omega)), trivial⟩ rfl (lp64 (((d + 1 - a).toNat - 0) + 1) 0 (M 87) (by omega) (by rw [tu_vB_0]; exact hR) (by omega))
          ·
            refine tu_bipush 54 X dX4_verse_54 (by decide) ?_
            refine hret 56 _ _ (-4) dX4_verse_56 (fun h => by rw [hrt] at h; cases h) ?_
            exact ⟨_, Or.inr (Or.inr (Or.inl (⟨by omega, rfl, rfl⟩))), rfl⟩
        ·
          refine tu_bipush 31 X dX4_verse_31 (by decide) ?_
          refine hret 33 _ _ (-2) dX4_verse_33 (fun h => by rw [hrt] at h; cases h) ?_
          exact ⟨_, Or.inr (Or.inl (⟨by omega, rfl, rfl⟩)), rfl⟩
      ·
        have br21 := tu_b_e0 br21
        refine tu_iconst 24 X dX4_verse_24 ?_
        refine hret 25 _ _ (-1) dX4_verse_25 (fun h => by rw [hrt] at h; cases h) ?_
        exact ⟨_, Or.inl (⟨by omega, rfl, rfl⟩), rfl⟩
set_option maxRecDepth 20000 in
set_option maxHeartbeats 4000000 in
theorem c_X4_goes {M : tu_M} (w : Int) (o L : Nat) (hL : o + L ≤ 112) (hw : tu_rg w) (hr : ∀ k9 : Nat, k9 < L → tu_rg (M 87 (o + k9))) : tu_MI tu_Y_X4_goes [tu_r 86, tu_i w, tu_i ((o : Nat) : Int), tu_i ((L : Nat) : Int)] M (fun z M' => M' = tu_row M 87 (tu_wr (M 87) o w L) ∧ z = ((tu_kc (M 87) o w L : Nat) : Int)) := by
  refine tu_MI.of (ty := .int) (by decide) rfl (by first | exact Or.inl rfl | exact Or.inr rfl) (Nat.le_of_ble_eq_true rfl) (fun T (X : tu_X T cX4_goes RX4 0 0) hnl hrt hret => ?_)
  have hret : tu_RI T cX4_goes (fun z M' => M' = tu_row M 87 (tu_wr (M 87) o w L) ∧ z = ((tu_kc (M 87) o w L : Nat) : Int)) := hret
  have hnl : T.2.2.2.2.2.2.2.2.2.2.1 = 7 := hnl
  show tu_W T 0 [(0, tu_r 86), (1, tu_i w), (2, tu_i ((o : Nat) : Int)), (3, tu_i ((L : Nat) : Int))] [] M
  refine tu_iconst 0 X dX4_goes_0 ?_
  refine tu_istore 1 X (lv' := [(4, tu_i 0), (0, tu_r 86), (1, tu_i w), (2, tu_i ((o : Nat) : Int)), (3, tu_i ((L : Nat) : Int))]) dX4_goes_1 (by rw [hnl]; decide) rfl ?_
  refine tu_iconst 3 X dX4_goes_3 ?_
  refine tu_istore 4 X (lv' := [(5, tu_i 0), (4, tu_i 0), (0, tu_r 86), (1, tu_i w), (2, tu_i ((o : Nat) : Int)), (3, tu_i ((L : Nat) : Int))]) dX4_goes_4 (by rw [hnl]; decide) rfl ?_
  refine tu_st_eq rfl (M' := tu_row M 87 (M 87)) ((tu_rx M 87).symm) ?_
  have lp6 : ∀ (nq : Nat) (k : Nat), (k ≤ L) → L - k < nq → tu_W T 6 [(0, tu_r 86), (1, tu_i w), (2, tu_i ((o : Nat) : Int)), (3, tu_i ((L : Nat) : Int)), (4, tu_i (((tu_kc (M 87) o w k) : Nat) : Int)), (5, tu_i ((k : Nat) : Int))] [] (tu_row M 87 (tu_wr (M 87) o w k)) := by
    intro nq
    induction nq with
    | zero => intros; omega
    | succ nq ih6 =>
      intro k hk hn6
      have e1 := tu_kc_le (M 87) o w k
      have e2 : tu_wr (M 87) o w k (o + k) = M 87 (o + k) := tu_wr_old _ _ _ _ _ (by omega)
      refine tu_iload 6 X 5 dX4_goes_6 rfl ?_
      refine tu_iload_n 8 X 3 dX4_goes_8 rfl ?_
      refine tu_icmp_ge 9 X 62 dX4_goes_9 (by decide) (show tu_rg ((k : Nat) : Int) from by first | assumption | exact ⟨by omega, by omega⟩) (show tu_rg ((L : Nat) : Int) from by first | assumption | exact ⟨by omega, by omega⟩) (fun br9 => ?_) (fun br9 => ?_)
      ·
        refine tu_iload 62 X 4 dX4_goes_62 rfl ?_
        refine hret 64 _ _ (((tu_kc (M 87) o w k) : Nat) : Int) dX4_goes_64 (fun h => by rw [hrt] at h; cases h) ?_
        have ek : k = L := by omega
        subst ek
        exact ⟨rfl, rfl⟩
      ·
        refine tu_aload_n 12 X 0 dX4_goes_12 rfl ?_
        refine tu_getR 13 X dX4_goes_13 fl_RX4_7 (by decide) rfl rfl ?_
        refine tu_iload_n 16 X 2 dX4_goes_16 rfl ?_
        refine tu_iload 17 X 5 dX4_goes_17 rfl ?_
        refine tu_iadd 19 X dX4_goes_19 ?_
        refine tu_iald 20 X (x := (tu_wr (M 87) o w k) (o + k)) (o + k) dX4_goes_20 (by decide) rfl (by decide) (by omega) (by omega) rfl ?_
        refine tu_tp (b := (M 87 (o + k))) (by exact e2) ?_
        refine tu_istore 21 X (lv' := [(6, tu_i (M 87 (o + k))), (0, tu_r 86), (1, tu_i w), (2, tu_i ((o : Nat) : Int)), (3, tu_i ((L : Nat) : Int)), (4, tu_i (((tu_kc (M 87) o w k) : Nat) : Int)), (5, tu_i ((k : Nat) : Int))]) dX4_goes_21 (by rw [hnl]; decide) rfl ?_
        have e3 := hr k (by omega)
        refine tu_iload 23 X 0 dX4_goes_23 rfl ?_
        refine tu_iload_n 25 X 2 dX4_goes_25 rfl ?_
        refine tu_icmp_eq 26 X 56 dX4_goes_26 (by decide) (show tu_rg (M 87 (o + k)) from by first | assumption | exact ⟨by omega, by omega⟩) (show tu_rg w from by first | assumption | exact ⟨by omega, by omega⟩) (fun br26 => ?_) (fun br26 => ?_)
        ·
          refine tu_iinc 56 X (lv' := [(5, tu_i (((k : Nat) : Int) + 1)), (6, tu_i (M 87 (o + k))), (0, tu_r 86), (1, tu_i w), (2, tu_i ((o : Nat) : Int)), (3, tu_i ((L : Nat) : Int)), (4, tu_i (((tu_kc (M 87) o w k) : Nat) : Int))]) 6 dX4_goes_56 rfl (by rw [hnl]; decide) rfl ?_
          refine tu_goto 59 X 6 dX4_goes_59 (by decide) ?_
          refine tu_jmp [2, 3, 4, 5, 6, 0] (lv' := [(0, tu_r 86), (1, tu_i w), (2, tu_i ((o : Nat) : Int)), (3, tu_i ((L : Nat) : Int)), (4, tu_i (((tu_kc (M 87) o w (k + 1)) : Nat) : Int)), (5, tu_i (((k + 1) : Nat) : Int))]) ⟨rfl, rfl, rfl, rfl, tu_ei (by first | rfl | (simp only [tu_kc]; split <;> omega)), tu_ei (by first | rfl | omega), trivial⟩ (by first | rfl | (simp only [tu_wr]; first | rw [if_pos (by omega)] | (rw [if_neg (by omega), if_pos (by omega)]) | (rw [if_neg (by omega), if_neg (by omega)]))) (ih6 (k + 1) (by first | assumption | omega) (by omega))
        ·
          refine tu_aload_n 29 X 1 dX4_goes_29 rfl ?_
          refine tu_getR 30 X dX4_goes_30 fl_RX4_7 (by decide) rfl rfl ?_
          refine tu_iload_n 33 X 3 dX4_goes_33 rfl ?_
          refine tu_iload 34 X 5 dX4_goes_34 rfl ?_
          refine tu_iadd 36 X dX4_goes_36 ?_
          refine tu_iload 37 X 0 dX4_goes_37 rfl ?_
          refine tu_iload_n 39 X 2 dX4_goes_39 rfl ?_
          refine tu_icmp_le 40 X 50 dX4_goes_40 (by decide) (show tu_rg (M 87 (o + k)) from by first | assumption | exact ⟨by omega, by omega⟩) (show tu_rg w from by first | assumption | exact ⟨by omega, by omega⟩) (fun br40 => ?_) (fun br40 => ?_)
          ·
            refine tu_iload 50 X 0 dX4_goes_50 rfl ?_
            refine tu_iast 52 X (M' := tu_row M 87 (tu_u (tu_wr (M 87) o w k) (o + (tu_kc (M 87) o w k)) (M 87 (o + k)))) (o + (tu_kc (M 87) o w k)) dX4_goes_52 (by decide) rfl (by decide) (by omega) (by omega) (tu_rr M 87 (tu_wr (M 87) o w k) (tu_u (tu_wr (M 87) o w k) (o + (tu_kc (M 87) o w k)) (M 87 (o + k)))) ?_
            refine tu_iinc 53 X (lv' := [(4, tu_i ((((tu_kc (M 87) o w k) : Nat) : Int) + 1)), (6, tu_i (M 87 (o + k))), (0, tu_r 86), (1, tu_i w), (2, tu_i ((o : Nat) : Int)), (3, tu_i ((L : Nat) : Int)), (5, tu_i ((k : Nat) : Int))]) 5 dX4_goes_53 rfl (by rw [hnl]; decide) rfl ?_
            refine tu_iinc 56 X (lv' := [(5, tu_i (((k : Nat) : Int) + 1)), (4, tu_i ((((tu_kc (M 87) o w k) : Nat) : Int) + 1)), (6, tu_i (M 87 (o + k))), (0, tu_r 86), (1, tu_i w), (2, tu_i ((o : Nat) : Int)), (3, tu_i ((L : Nat) : Int))]) 6 dX4_goes_56 rfl (by rw [hnl]; decide) rfl ?_
            refine tu_goto 59 X 6 dX4_goes_59 (by decide) ?_
            refine tu_jmp [3, 4, 5, 6, 1, 0] (lv' := [(0, tu_r 86), (1, tu_i w), (2, tu_i ((o : Nat) : Int)), (3, tu_i ((L : Nat) : Int)), (4, tu_i (((tu_kc (M 87) o w (k + 1)) : Nat) : Int)), (5, tu_i (((k + 1) : Nat) : Int))]) ⟨rfl, rfl, rfl, rfl, tu_ei (by first | rfl | (simp only [tu_kc]; split <;> omega)), tu_ei (by first | rfl | omega), trivial⟩ (by first | rfl | (simp only [tu_wr]; first | rw [if_pos (by omega)] | (rw [if_neg (by omega), if_pos (by omega)]) | (rw [if_neg (by omega), if_neg (by omega)]))) (ih6 (k + 1) (by first | assumption | omega) (by omega))
          ·
            refine tu_iload 43 X 0 dX4_goes_43 rfl ?_
            refine tu_iconst 45 X dX4_goes_45 ?_
            refine tu_isub 46 X dX4_goes_46 ?_
            refine tu_goto 47 X 52 dX4_goes_47 (by decide) ?_
            refine tu_iast 52 X (M' := tu_row M 87 (tu_u (tu_wr (M 87) o w k) (o + (tu_kc (M 87) o w k)) ((M 87 (o + k)) - 1))) (o + (tu_kc (M 87) o w k)) dX4_goes_52 (by decide) rfl (by decide) (by omega) (by omega) (tu_rr M 87 (tu_wr (M 87) o w k) (tu_u (tu_wr (M 87) o w k) (o + (tu_kc (M 87) o w k)) ((M 87 (o + k)) - 1))) ?_
            refine tu_iinc 53 X (lv' := [(4, tu_i ((((tu_kc (M 87) o w k) : Nat) : Int) + 1)), (6, tu_i (M 87 (o + k))), (0, tu_r 86), (1, tu_i w), (2, tu_i ((o : Nat) : Int)), (3, tu_i ((L : Nat) : Int)), (5, tu_i ((k : Nat) : Int))]) 5 dX4_goes_53 rfl (by rw [hnl]; decide) rfl ?_
            refine tu_iinc 56 X (lv' := [(5, tu_i (((k : Nat) : Int) + 1)), (4, tu_i ((((tu_kc (M 87) o w k) : Nat) : Int) + 1)), (6, tu_i (M 87 (o + k))), (0, tu_r 86), (1, tu_i w), (2, tu_i ((o : Nat) : Int)), (3, tu_i ((L : Nat) : Int))]) 6 dX4_goes_56 rfl (by rw [hnl]; decide) rfl ?_
            refine tu_goto 59 X 6 dX4_goes_59 (by decide) ?_
            refine tu_jmp [3, 4, 5, 6, 1, 0] (lv' := [(0, tu_r 86), (1, tu_i w), (2, tu_i ((o : Nat) : Int)), (3, tu_i ((L : Nat) : Int)), (4, tu_i (((tu_kc (M 87) o w (k + 1)) : Nat) : Int)), (5, tu_i (((k + 1) : Nat) : Int))]) ⟨rfl, rfl, rfl, rfl, tu_ei (by first | rfl | (simp only [tu_kc]; split <;> omega)), tu_ei (by first | rfl | omega), trivial⟩ (by first | rfl | (simp only [tu_wr]; first | rw [if_pos (by omega)] | (rw [if_neg (by omega), if_pos (by omega)]) | (rw [if_neg (by omega), if_neg (by omega)]))) (ih6 (k + 1) (by first | assumption | omega) (by omega))
  refine tu_jmp [2, 3, 4, 5, 1, 0] (lv' := [(0, tu_r 86), (1, tu_i w), (2, tu_i ((o : Nat) : Int)), (3, tu_i ((L : Nat) : Int)), (4, tu_i (((tu_kc (M 87) o w 0) : Nat) : Int)), (5, tu_i 0)]) ⟨rfl, rfl, rfl, rfl, tu_ei (by first | rfl | (simp only [tu_kc]; split <;> omega)), rfl, trivial⟩ (by first | rfl | (simp only [tu_wr]; first | rw [if_pos (by omega)] | (rw [if_neg (by omega), if_pos (by omega)]) | (rw [if_neg (by omega), if_neg (by omega)]))) (lp6 ((L - 0) + 1) 0 (by first | assumption | omega) (by omega))
set_option maxRecDepth 20000 in
set_option maxHeartbeats 4000000 in
theorem c_X4_dropLine {M : tu_M} (B : Nat → Nat → Int) (l : Int) (hO : tu_BO B) (hR : tu_MB B (M 87)) (hh : 0 ≤ M 86 2 ∧ M 86 2 ≤ 6) (rl : tu_rg l) : tu_MI tu_Y_X4_dropLine [tu_r 86, tu_i l] M (fun z M' => ∃ (y : Int), (((¬ (0 ≤ l ∧ l < B 0 1)) ∧ M' = M ∧ y = -1) ∨ ((0 ≤ l ∧ l < B 0 1) ∧ ∃ S : Nat → Int, tu_MB (tu_row (tu_row (tu_row (tu_row B 0 (tu_u (tu_u (B 0) 1 (B 0 1 - 1)) 7 ((tu_kc (B 6) 0 ((l.toNat : Nat) : Int) (B 0 7).toNat : Nat) : Int))) 2 (va_cpy (B 2) (B 2) (l.toNat + 1) l.toNat ((B 0 1).toNat - l.toNat - 1))) 3 (va_cpy (B 3) (B 3) ((l.toNat + 1) * 16) (l.toNat * 16) (((B 0 1).toNat - l.toNat - 1) * 16))) 6 (tu_wr (B 6) 0 ((l.toNat : Nat) : Int) (B 0 7).toNat)) S ∧ M' = tu_mrec M S ∧ y = ((tu_kc (B 6) 0 ((l.toNat : Nat) : Int) (B 0 7).toNat : Nat) : Int))) ∧ z = y) := by
  have cn := hO.1
  refine tu_MI.of (ty := .int) (by decide) rfl (by first | exact Or.inl rfl | exact Or.inr rfl) (Nat.le_of_ble_eq_true rfl) (fun T (X : tu_X T cX4_dropLine RX4 2 45) hnl hrt hret => ?_)
  have hret : tu_RI T cX4_dropLine (fun z M' => ∃ (y : Int), (((¬ (0 ≤ l ∧ l < B 0 1)) ∧ M' = M ∧ y = -1) ∨ ((0 ≤ l ∧ l < B 0 1) ∧ ∃ S : Nat → Int, tu_MB (tu_row (tu_row (tu_row (tu_row B 0 (tu_u (tu_u (B 0) 1 (B 0 1 - 1)) 7 ((tu_kc (B 6) 0 ((l.toNat : Nat) : Int) (B 0 7).toNat : Nat) : Int))) 2 (va_cpy (B 2) (B 2) (l.toNat + 1) l.toNat ((B 0 1).toNat - l.toNat - 1))) 3 (va_cpy (B 3) (B 3) ((l.toNat + 1) * 16) (l.toNat * 16) (((B 0 1).toNat - l.toNat - 1) * 16))) 6 (tu_wr (B 6) 0 ((l.toNat : Nat) : Int) (B 0 7).toNat)) S ∧ M' = tu_mrec M S ∧ y = ((tu_kc (B 6) 0 ((l.toNat : Nat) : Int) (B 0 7).toNat : Nat) : Int))) ∧ z = y) := hret
  have hnl : T.2.2.2.2.2.2.2.2.2.2.1 = 3 := hnl
  show tu_W T 0 [(0, tu_r 86), (1, tu_i l)] [] M
  refine tu_aload_n 0 X 0 dX4_dropLine_0 rfl ?_
  refine tu_iload_n 1 X 1 dX4_dropLine_1 rfl ?_
  refine tu_callVI 2 X (st := []) (as := [tu_i l]) (c_X4_isLine B l (show tu_BO B from by first | assumption | omega | exact ⟨by omega, by omega⟩ | decide) (show tu_MB B (M 87) from by first | assumption | omega | exact ⟨by omega, by omega⟩ | decide) (show tu_rg l from by first | assumption | omega | exact ⟨by omega, by omega⟩ | decide)) sv_RX4_52 dX4_dropLine_2 rfl (by decide) rfl rfl rfl (Nat.le_of_ble_eq_true rfl) ⟨by decide, by decide⟩ (fun z M' h => ?_)
  obtain ⟨hM2, hz2⟩ := h
  refine tu_st_eq rfl (M' := M) hM2 ?_
  refine tu_tp (b := tu_b (0 ≤ l ∧ l < B 0 1)) hz2 ?_
  refine tu_if_ne 5 X 10 dX4_dropLine_5 (by decide) tu_b_rg (fun br5 => ?_) (fun br5 => ?_)
  ·
    have br5 := tu_b_n0 br5
    refine tu_aload_n 10 X 0 dX4_dropLine_10 rfl ?_
    refine tu_callVV 11 X (st := []) (as := []) (c_X4_record  (show 0 ≤ M 86 2 ∧ M 86 2 ≤ 6 from by first | assumption | omega | exact ⟨by omega, by omega⟩ | decide)) sv_RX4_131 dX4_dropLine_11 rfl (by decide) rfl rfl rfl (Nat.le_of_ble_eq_true rfl) ⟨by decide, by decide⟩ (fun M' h => ?_)
    have hM11 := h
    refine tu_st_eq rfl (M' := tu_row (tu_row M 86 (tu_u (M 86) 2 (tu_mw (M 86 2)))) 88 (tu_mq (M 88) (M 87) (M 86 2))) hM11 ?_
    have c4 := hR.n4
    have c5 := hR.n5
    refine tu_aload_n 14 X 0 dX4_dropLine_14 rfl ?_
    refine tu_getR 15 X dX4_dropLine_15 fl_RX4_7 (by decide) rfl rfl ?_
    refine tu_iconst 18 X dX4_dropLine_18 ?_
    refine tu_dup2 19 X dX4_dropLine_19 rfl rfl ?_
    refine tu_iald 20 X (x := M 87 4) 4 dX4_dropLine_20 (by decide) rfl (by decide) rfl (by decide) rfl ?_
    refine tu_iconst 21 X dX4_dropLine_21 ?_
    refine tu_isub 22 X dX4_dropLine_22 ?_
    refine tu_iast 23 X (M' := tu_row (tu_row (tu_row M 86 (tu_u (M 86) 2 (tu_mw (M 86 2)))) 87 (tu_u (M 87) 4 ((M 87 4) - 1))) 88 (tu_mq (M 88) (M 87) (M 86 2))) 4 dX4_dropLine_23 (by decide) rfl (by decide) rfl (by decide) (tu_rc (tu_row M 86 (tu_u (M 86) 2 (tu_mw (M 86 2)))) (tu_mq (M 88) (M 87) (M 86 2)) (tu_u (M 87) 4 ((M 87 4) - 1)) rfl) ?_
    refine tu_bipush 24 X dX4_dropLine_24 (by decide) ?_
    refine tu_iconst 26 X dX4_dropLine_26 ?_
    refine tu_iload_n 27 X 1 dX4_dropLine_27 rfl ?_
    refine tu_imul 28 X dX4_dropLine_28 ?_
    refine tu_iadd 29 X dX4_dropLine_29 ?_
    refine tu_istore_n 30 X (lv' := [(2, tu_i (8 + (2 * l))), (0, tu_r 86), (1, tu_i l)]) dX4_dropLine_30 (by rw [hnl]; decide) rfl ?_
    have lp31 : ∀ (nq : Nat) (k : Nat), (k ≤ 2 * ((B 0 1).toNat - l.toNat - 1)) → 2 * ((B 0 1).toNat - l.toNat - 1) - k < nq → tu_W T 31 [(0, tu_r 86), (1, tu_i l), (2, tu_i (8 + (2 * l) + ((k : Nat) : Int)))] [] (tu_row (tu_row (tu_row M 86 (tu_u (M 86) 2 (tu_mw (M 86 2)))) 87 (tu_ml (tu_u (M 87) 4 (M 87 4 - 1)) (tu_u (M 87) 4 (M 87 4 - 1)) (8 + 2 * l.toNat + 2) (8 + 2 * l.toNat) k)) 88 (tu_mq (M 88) (M 87) (M 86 2))) := by
      intro nq
      induction nq with
      | zero => intros; omega
      | succ nq ih31 =>
        intro k hk hn31
        have x4 : tu_ml (tu_u (M 87) 4 (M 87 4 - 1)) (tu_u (M 87) 4 (M 87 4 - 1)) (8 + 2 * l.toNat + 2) (8 + 2 * l.toNat) k 4 = B 0 1 - 1 := by rw [tu_ml_at, if_neg (by omega), tu_u_s]; omega
        have xc : tu_ml (tu_u (M 87) 4 (M 87 4 - 1)) (tu_u (M 87) 4 (M 87 4 - 1)) (8 + 2 * l.toNat + 2) (8 + 2 * l.toNat) k 6 = B 0 7 := by rw [tu_ml_at, if_neg (by omega), tu_u_n _ _ (by decide)]; exact hR.n6
        have xb : ∀ j : Nat, j < (B 0 7).toNat → tu_ml (tu_u (M 87) 4 (M 87 4 - 1)) (tu_u (M 87) 4 (M 87 4 - 1)) (8 + 2 * l.toNat + 2) (8 + 2 * l.toNat) k (64 + j) = B 6 j := fun j hj => by rw [tu_ml_at, if_neg (by omega), tu_u_n _ _ (by omega)]; exact hR.ba j (by omega)
        refine tu_iload_n 31 X 2 dX4_dropLine_31 rfl ?_
        refine tu_bipush 32 X dX4_dropLine_32 (by decide) ?_
        refine tu_iconst 34 X dX4_dropLine_34 ?_
        refine tu_aload_n 35 X 0 dX4_dropLine_35 rfl ?_
        refine tu_getR 36 X dX4_dropLine_36 fl_RX4_7 (by decide) rfl rfl ?_
        refine tu_iconst 39 X dX4_dropLine_39 ?_
        refine tu_iald 40 X (x := (tu_ml (tu_u (M 87) 4 (M 87 4 - 1)) (tu_u (M 87) 4 (M 87 4 - 1)) (8 + 2 * l.toNat + 2) (8 + 2 * l.toNat) k) 4) 4 dX4_dropLine_40 (by decide) rfl (by decide) rfl (by decide) rfl ?_
        refine tu_tp (b := (B 0 1 - 1)) (by exact x4) ?_
        refine tu_imul 41 X dX4_dropLine_41 ?_
        refine tu_iadd 42 X dX4_dropLine_42 ?_
        refine tu_icmp_ge 43 X 66 dX4_dropLine_43 (by decide) (show tu_rg (8 + (2 * l) + ((k : Nat) : Int)) from by first | assumption | exact ⟨by omega, by omega⟩) (show tu_rg (8 + (2 * (B 0 1 - 1))) from by first | assumption | exact ⟨by omega, by omega⟩) (fun br43 => ?_) (fun br43 => ?_)
        ·
          refine tu_aload_n 66 X 0 dX4_dropLine_66 rfl ?_
          refine tu_getR 67 X dX4_dropLine_67 fl_RX4_7 (by decide) rfl rfl ?_
          refine tu_bipush 70 X dX4_dropLine_70 (by decide) ?_
          refine tu_aload_n 72 X 0 dX4_dropLine_72 rfl ?_
          refine tu_iload_n 73 X 1 dX4_dropLine_73 rfl ?_
          refine tu_bipush 74 X dX4_dropLine_74 (by decide) ?_
          refine tu_aload_n 76 X 0 dX4_dropLine_76 rfl ?_
          refine tu_getR 77 X dX4_dropLine_77 fl_RX4_7 (by decide) rfl rfl ?_
          refine tu_bipush 80 X dX4_dropLine_80 (by decide) ?_
          refine tu_iald 82 X (x := (tu_ml (tu_u (M 87) 4 (M 87 4 - 1)) (tu_u (M 87) 4 (M 87 4 - 1)) (8 + 2 * l.toNat + 2) (8 + 2 * l.toNat) k) 6) 6 dX4_dropLine_82 (by decide) rfl (by decide) rfl (by decide) rfl ?_
          refine tu_tp (b := (((B 0 7).toNat : Nat) : Int)) (by rw [xc]; omega) ?_
          refine tu_st_eq (show _ = [tu_i ((((B 0 7).toNat) : Nat) : Int), tu_i ((64 : Nat) : Int), tu_i ((l.toNat : Nat) : Int), tu_r 86, tu_i 6, tu_r 87] from by first | rfl | (simp only [List.cons.injEq, Sum.inl.injEq, and_true, true_and]; omega)) rfl ?_
          refine tu_callVI 83 X (st := [tu_i 6, tu_r 87]) (as := [tu_i ((l.toNat : Nat) : Int), tu_i ((64 : Nat) : Int), tu_i ((((B 0 7).toNat) : Nat) : Int)]) (c_X4_goes ((l.toNat : Nat) : Int) 64 ((B 0 7).toNat) (show 64 + ((B 0 7).toNat) ≤ 112 from by omega) (show tu_rg ((l.toNat : Nat) : Int) from by exact ⟨by omega, by omega⟩) (show ∀ k9 : Nat, k9 < ((B 0 7).toNat) → tu_rg ((tu_ml (tu_u (M 87) 4 (M 87 4 - 1)) (tu_u (M 87) 4 (M 87 4 - 1)) (8 + 2 * l.toNat + 2) (8 + 2 * l.toNat) k) (64 + k9)) from by intro j hj; rw [xb j hj]; have := hO.2.2.2.2.2.1 j (by omega); exact ⟨by omega, by omega⟩)) sv_RX4_150 dX4_dropLine_83 rfl (by decide) rfl rfl rfl (Nat.le_of_ble_eq_true rfl) ⟨by decide, by decide⟩ (fun z M' h => ?_)
          obtain ⟨hM83, hz83⟩ := h
          refine tu_st_eq rfl (M' := tu_row (tu_row (tu_row M 86 (tu_u (M 86) 2 (tu_mw (M 86 2)))) 87 (tu_wr ((tu_ml (tu_u (M 87) 4 (M 87 4 - 1)) (tu_u (M 87) 4 (M 87 4 - 1)) (8 + 2 * l.toNat + 2) (8 + 2 * l.toNat) k)) 64 ((l.toNat : Nat) : Int) ((B 0 7).toNat))) 88 (tu_mq (M 88) (M 87) (M 86 2))) (hM83.trans ((tu_rc (tu_row (tu_row M 86 (tu_u (M 86) 2 (tu_mw (M 86 2)))) 87 (tu_ml (tu_u (M 87) 4 (M 87 4 - 1)) (tu_u (M 87) 4 (M 87 4 - 1)) (8 + 2 * l.toNat + 2) (8 + 2 * l.toNat) k)) (tu_mq (M 88) (M 87) (M 86 2)) (tu_wr ((tu_ml (tu_u (M 87) 4 (M 87 4 - 1)) (tu_u (M 87) 4 (M 87 4 - 1)) (8 + 2 * l.toNat + 2) (8 + 2 * l.toNat) k)) 64 ((l.toNat : Nat) : Int) ((B 0 7).toNat)) rfl).trans (congrArg (fun m => tu_row m 88 (tu_mq (M 88) (M 87) (M 86 2))) (tu_rr (tu_row M 86 (tu_u (M 86) 2 (tu_mw (M 86 2)))) 87 (tu_ml (tu_u (M 87) 4 (M 87 4 - 1)) (tu_u (M 87) 4 (M 87 4 - 1)) (8 + 2 * l.toNat + 2) (8 + 2 * l.toNat) k) (tu_wr ((tu_ml (tu_u (M 87) 4 (M 87 4 - 1)) (tu_u (M 87) 4 (M 87 4 - 1)) (8 + 2 * l.toNat + 2) (8 + 2 * l.toNat) k)) 64 ((l.toNat : Nat) : Int) ((B 0 7).toNat)))))) ?_
          refine tu_tp (b := ((tu_kc ((tu_ml (tu_u (M 87) 4 (M 87 4 - 1)) (tu_u (M 87) 4 (M 87 4 - 1)) (8 + 2 * l.toNat + 2) (8 + 2 * l.toNat) k)) 64 ((l.toNat : Nat) : Int) ((B 0 7).toNat) : Nat) : Int)) hz83 ?_
          refine tu_iast 86 X (M' := tu_row (tu_row (tu_row M 86 (tu_u (M 86) 2 (tu_mw (M 86 2)))) 87 (tu_u (tu_wr ((tu_ml (tu_u (M 87) 4 (M 87 4 - 1)) (tu_u (M 87) 4 (M 87 4 - 1)) (8 + 2 * l.toNat + 2) (8 + 2 * l.toNat) k)) 64 ((l.toNat : Nat) : Int) ((B 0 7).toNat)) 6 ((tu_kc ((tu_ml (tu_u (M 87) 4 (M 87 4 - 1)) (tu_u (M 87) 4 (M 87 4 - 1)) (8 + 2 * l.toNat + 2) (8 + 2 * l.toNat) k)) 64 ((l.toNat : Nat) : Int) ((B 0 7).toNat) : Nat) : Int))) 88 (tu_mq (M 88) (M 87) (M 86 2))) 6 dX4_dropLine_86 (by decide) rfl (by decide) rfl (by decide) ((tu_rc (tu_row (tu_row M 86 (tu_u (M 86) 2 (tu_mw (M 86 2)))) 87 (tu_wr ((tu_ml (tu_u (M 87) 4 (M 87 4 - 1)) (tu_u (M 87) 4 (M 87 4 - 1)) (8 + 2 * l.toNat + 2) (8 + 2 * l.toNat) k)) 64 ((l.toNat : Nat) : Int) ((B 0 7).toNat))) (tu_mq (M 88) (M 87) (M 86 2)) (tu_u (tu_wr ((tu_ml (tu_u (M 87) 4 (M 87 4 - 1)) (tu_u (M 87) 4 (M 87 4 - 1)) (8 + 2 * l.toNat + 2) (8 + 2 * l.toNat) k)) 64 ((l.toNat : Nat) : Int) ((B 0 7).toNat)) 6 ((tu_kc ((tu_ml (tu_u (M 87) 4 (M 87 4 - 1)) (tu_u (M 87) 4 (M 87 4 - 1)) (8 + 2 * l.toNat + 2) (8 + 2 * l.toNat) k)) 64 ((l.toNat : Nat) : Int) ((B 0 7).toNat) : Nat) : Int)) rfl).trans (congrArg (fun m => tu_row m 88 (tu_mq (M 88) (M 87) (M 86 2))) (tu_rr (tu_row M 86 (tu_u (M 86) 2 (tu_mw (M 86 2)))) 87 (tu_wr ((tu_ml (tu_u (M 87) 4 (M 87 4 - 1)) (tu_u (M 87) 4 (M 87 4 - 1)) (8 + 2 * l.toNat + 2) (8 + 2 * l.toNat) k)) 64 ((l.toNat : Nat) : Int) ((B 0 7).toNat)) (tu_u (tu_wr ((tu_ml (tu_u (M 87) 4 (M 87 4 - 1)) (tu_u (M 87) 4 (M 87 4 - 1)) (8 + 2 * l.toNat + 2) (8 + 2 * l.toNat) k)) 64 ((l.toNat : Nat) : Int) ((B 0 7).toNat)) 6 ((tu_kc ((tu_ml (tu_u (M 87) 4 (M 87 4 - 1)) (tu_u (M 87) 4 (M 87 4 - 1)) (8 + 2 * l.toNat + 2) (8 + 2 * l.toNat) k)) 64 ((l.toNat : Nat) : Int) ((B 0 7).toNat) : Nat) : Int))))) ?_
          refine tu_aload_n 87 X 0 dX4_dropLine_87 rfl ?_
          refine tu_getR 88 X dX4_dropLine_88 fl_RX4_7 (by decide) rfl rfl ?_
          refine tu_bipush 91 X dX4_dropLine_91 (by decide) ?_
          refine tu_iald 93 X (x := (tu_u (tu_wr ((tu_ml (tu_u (M 87) 4 (M 87 4 - 1)) (tu_u (M 87) 4 (M 87 4 - 1)) (8 + 2 * l.toNat + 2) (8 + 2 * l.toNat) k)) 64 ((l.toNat : Nat) : Int) ((B 0 7).toNat)) 6 ((tu_kc ((tu_ml (tu_u (M 87) 4 (M 87 4 - 1)) (tu_u (M 87) 4 (M 87 4 - 1)) (8 + 2 * l.toNat + 2) (8 + 2 * l.toNat) k)) 64 ((l.toNat : Nat) : Int) ((B 0 7).toNat) : Nat) : Int)) 6) 6 dX4_dropLine_93 (by decide) rfl (by decide) rfl (by decide) rfl ?_
          refine tu_tp (b := ((tu_kc (B 6) 0 ((l.toNat : Nat) : Int) (B 0 7).toNat : Nat) : Int)) (by rw [tu_u_s, tu_kc_sh _ xb]) ?_
          refine hret 94 _ _ ((tu_kc (B 6) 0 ((l.toNat : Nat) : Int) (B 0 7).toNat : Nat) : Int) dX4_dropLine_94 (fun h => by rw [hrt] at h; cases h) ?_
          have ek : k = 2 * ((B 0 1).toNat - l.toNat - 1) := by omega
          refine ⟨_, Or.inr (⟨by omega, _, tu_MB.mdropLine hR hO (by omega) ek, rfl, rfl⟩), rfl⟩
        ·
          refine tu_aload_n 46 X 0 dX4_dropLine_46 rfl ?_
          refine tu_getR 47 X dX4_dropLine_47 fl_RX4_7 (by decide) rfl rfl ?_
          refine tu_iload_n 50 X 2 dX4_dropLine_50 rfl ?_
          refine tu_aload_n 51 X 0 dX4_dropLine_51 rfl ?_
          refine tu_getR 52 X dX4_dropLine_52 fl_RX4_7 (by decide) rfl rfl ?_
          refine tu_iload_n 55 X 2 dX4_dropLine_55 rfl ?_
          refine tu_iconst 56 X dX4_dropLine_56 ?_
          refine tu_iadd 57 X dX4_dropLine_57 ?_
          refine tu_iald 58 X (x := (tu_ml (tu_u (M 87) 4 (M 87 4 - 1)) (tu_u (M 87) 4 (M 87 4 - 1)) (8 + 2 * l.toNat + 2) (8 + 2 * l.toNat) k) (((8 + (2 * l) + ((k : Nat) : Int)) + 2).toNat)) (((8 + (2 * l) + ((k : Nat) : Int)) + 2).toNat) dX4_dropLine_58 (by decide) rfl (by decide) (by omega) (by omega) rfl ?_
          refine tu_tp (b := (M 87 (8 + 2 * l.toNat + 2 + k))) (by rw [tu_ml_at, if_neg (by omega), show ((8 + (2 * l) + ((k : Nat) : Int)) + 2).toNat = 8 + 2 * l.toNat + 2 + k from by omega, tu_u_n _ _ (by omega)]) ?_
          refine tu_iast 59 X (M' := tu_row (tu_row (tu_row M 86 (tu_u (M 86) 2 (tu_mw (M 86 2)))) 87 (tu_ml (tu_u (M 87) 4 (M 87 4 - 1)) (tu_u (M 87) 4 (M 87 4 - 1)) (8 + 2 * l.toNat + 2) (8 + 2 * l.toNat) (k + 1))) 88 (tu_mq (M 88) (M 87) (M 86 2))) ((8 + (2 * l) + ((k : Nat) : Int)).toNat) dX4_dropLine_59 (by decide) rfl (by decide) (by omega) (by omega) (((tu_rc (tu_row (tu_row M 86 (tu_u (M 86) 2 (tu_mw (M 86 2)))) 87 (tu_ml (tu_u (M 87) 4 (M 87 4 - 1)) (tu_u (M 87) 4 (M 87 4 - 1)) (8 + 2 * l.toNat + 2) (8 + 2 * l.toNat) k)) (tu_mq (M 88) (M 87) (M 86 2)) (tu_u (tu_ml (tu_u (M 87) 4 (M 87 4 - 1)) (tu_u (M 87) 4 (M 87 4 - 1)) (8 + 2 * l.toNat + 2) (8 + 2 * l.toNat) k) ((8 + (2 * l) + ((k : Nat) : Int)).toNat) (M 87 (8 + 2 * l.toNat + 2 + k))) rfl).trans (congrArg (fun m => tu_row m 88 (tu_mq (M 88) (M 87) (M 86 2))) (tu_rr (tu_row M 86 (tu_u (M 86) 2 (tu_mw (M 86 2)))) 87 (tu_ml (tu_u (M 87) 4 (M 87 4 - 1)) (tu_u (M 87) 4 (M 87 4 - 1)) (8 + 2 * l.toNat + 2) (8 + 2 * l.toNat) k) (tu_u (tu_ml (tu_u (M 87) 4 (M 87 4 - 1)) (tu_u (M 87) 4 (M 87 4 - 1)) (8 + 2 * l.toNat + 2) (8 + 2 * l.toNat) k) ((8 + (2 * l) + ((k : Nat) : Int)).toNat) (M 87 (8 + 2 * l.toNat + 2 + k)))))).trans (congrArg (fun m => tu_row m 88 (tu_mq (M 88) (M 87) (M 86 2))) (congrArg (fun q => tu_row (tu_row M 86 (tu_u (M 86) 2 (tu_mw (M 86 2)))) 87 q) (show tu_u (tu_ml (tu_u (M 87) 4 (M 87 4 - 1)) (tu_u (M 87) 4 (M 87 4 - 1)) (8 + 2 * l.toNat + 2) (8 + 2 * l.toNat) k) ((8 + (2 * l) + ((k : Nat) : Int)).toNat) (M 87 (8 + 2 * l.toNat + 2 + k)) = tu_ml (tu_u (M 87) 4 (M 87 4 - 1)) (tu_u (M 87) 4 (M 87 4 - 1)) (8 + 2 * l.toNat + 2) (8 + 2 * l.toNat) (k + 1) from by show _ = tu_u _ (8 + 2 * l.toNat + k) (tu_u _ _ _ _); rw [tu_u_n _ _ (show 8 + 2 * l.toNat + 2 + k ≠ 4 from by omega), show (8 + (2 * l) + ((k : Nat) : Int)).toNat = 8 + 2 * l.toNat + k from by omega])))) ?_
          refine tu_iinc 60 X (lv' := [(2, tu_i ((8 + (2 * l) + ((k : Nat) : Int)) + 1)), (0, tu_r 86), (1, tu_i l)]) 2 dX4_dropLine_60 rfl (by rw [hnl]; decide) rfl ?_
          refine tu_goto 63 X 31 dX4_dropLine_63 (by decide) ?_
          refine tu_jmp [1, 2, 0] (lv' := [(0, tu_r 86), (1, tu_i l), (2, tu_i (8 + (2 * l) + (((k + 1) : Nat) : Int)))]) ⟨rfl, rfl, tu_ei (by first | rfl | (omega)), trivial⟩ rfl (ih31 (k + 1) (by omega) (by omega))
    refine tu_jmp [1, 2, 0] (lv' := [(0, tu_r 86), (1, tu_i l), (2, tu_i (8 + (2 * l) + ((0 : Nat) : Int)))]) ⟨rfl, rfl, tu_ei (by first | rfl | (omega)), trivial⟩ rfl (lp31 ((2 * ((B 0 1).toNat - l.toNat - 1) - 0) + 1) 0 (by omega) (by omega))
  ·
    have br5 := tu_b_e0 br5
    refine tu_iconst 8 X dX4_dropLine_8 ?_
    refine hret 9 _ _ (-1) dX4_dropLine_9 (fun h => by rw [hrt] at h; cases h) ?_
    exact ⟨_, Or.inl (⟨by omega, rfl, rfl⟩), rfl⟩
set_option maxRecDepth 20000 in
set_option maxHeartbeats 4000000 in
theorem c_X4_dropPhrase {M : tu_M} (B : Nat → Nat → Int) (l : Int) (hO : tu_BO B) (hR : tu_MB B (M 87)) (hh : 0 ≤ M 86 2 ∧ M 86 2 ≤ 6) (rl : tu_rg l) : tu_MI tu_Y_X4_dropPhrase [tu_r 86, tu_i l] M (fun z M' => ∃ (y : Int), (((¬ (0 ≤ l ∧ l < B 0 4)) ∧ M' = M ∧ y = -1) ∨ ((0 ≤ l ∧ l < B 0 4) ∧ ∃ S : Nat → Int, tu_MB (tu_row (tu_row (tu_row (tu_row B 0 (tu_u (tu_u (B 0) 4 (B 0 4 - 1)) 9 ((tu_kc (B 7) 0 ((l.toNat : Nat) : Int) (B 0 9).toNat : Nat) : Int))) 4 (va_cpy (B 4) (B 4) (l.toNat + 1) l.toNat ((B 0 4).toNat - l.toNat - 1))) 5 (va_cpy (B 5) (B 5) ((l.toNat + 1) * 24) (l.toNat * 24) (((B 0 4).toNat - l.toNat - 1) * 24))) 7 (tu_wr (B 7) 0 ((l.toNat : Nat) : Int) (B 0 9).toNat)) S ∧ M' = tu_mrec M S ∧ y = ((tu_kc (B 7) 0 ((l.toNat : Nat) : Int) (B 0 9).toNat : Nat) : Int))) ∧ z = y) := by
  have cn := hO.1
  refine tu_MI.of (ty := .int) (by decide) rfl (by first | exact Or.inl rfl | exact Or.inr rfl) (Nat.le_of_ble_eq_true rfl) (fun T (X : tu_X T cX4_dropPhrase RX4 2 45) hnl hrt hret => ?_)
  have hret : tu_RI T cX4_dropPhrase (fun z M' => ∃ (y : Int), (((¬ (0 ≤ l ∧ l < B 0 4)) ∧ M' = M ∧ y = -1) ∨ ((0 ≤ l ∧ l < B 0 4) ∧ ∃ S : Nat → Int, tu_MB (tu_row (tu_row (tu_row (tu_row B 0 (tu_u (tu_u (B 0) 4 (B 0 4 - 1)) 9 ((tu_kc (B 7) 0 ((l.toNat : Nat) : Int) (B 0 9).toNat : Nat) : Int))) 4 (va_cpy (B 4) (B 4) (l.toNat + 1) l.toNat ((B 0 4).toNat - l.toNat - 1))) 5 (va_cpy (B 5) (B 5) ((l.toNat + 1) * 24) (l.toNat * 24) (((B 0 4).toNat - l.toNat - 1) * 24))) 7 (tu_wr (B 7) 0 ((l.toNat : Nat) : Int) (B 0 9).toNat)) S ∧ M' = tu_mrec M S ∧ y = ((tu_kc (B 7) 0 ((l.toNat : Nat) : Int) (B 0 9).toNat : Nat) : Int))) ∧ z = y) := hret
  have hnl : T.2.2.2.2.2.2.2.2.2.2.1 = 3 := hnl
  show tu_W T 0 [(0, tu_r 86), (1, tu_i l)] [] M
  refine tu_aload_n 0 X 0 dX4_dropPhrase_0 rfl ?_
  refine tu_iload_n 1 X 1 dX4_dropPhrase_1 rfl ?_
  refine tu_callVI 2 X (st := []) (as := [tu_i l]) (c_X4_isPhrase B l (show tu_BO B from by first | assumption | omega | exact ⟨by omega, by omega⟩ | decide) (show tu_MB B (M 87) from by first | assumption | omega | exact ⟨by omega, by omega⟩ | decide) (show tu_rg l from by first | assumption | omega | exact ⟨by omega, by omega⟩ | decide)) sv_RX4_60 dX4_dropPhrase_2 rfl (by decide) rfl rfl rfl (Nat.le_of_ble_eq_true rfl) ⟨by decide, by decide⟩ (fun z M' h => ?_)
  obtain ⟨hM2, hz2⟩ := h
  refine tu_st_eq rfl (M' := M) hM2 ?_
  refine tu_tp (b := tu_b (0 ≤ l ∧ l < B 0 4)) hz2 ?_
  refine tu_if_ne 5 X 10 dX4_dropPhrase_5 (by decide) tu_b_rg (fun br5 => ?_) (fun br5 => ?_)
  ·
    have br5 := tu_b_n0 br5
    refine tu_aload_n 10 X 0 dX4_dropPhrase_10 rfl ?_
    refine tu_callVV 11 X (st := []) (as := []) (c_X4_record  (show 0 ≤ M 86 2 ∧ M 86 2 ≤ 6 from by first | assumption | omega | exact ⟨by omega, by omega⟩ | decide)) sv_RX4_131 dX4_dropPhrase_11 rfl (by decide) rfl rfl rfl (Nat.le_of_ble_eq_true rfl) ⟨by decide, by decide⟩ (fun M' h => ?_)
    have hM11 := h
    refine tu_st_eq rfl (M' := tu_row (tu_row M 86 (tu_u (M 86) 2 (tu_mw (M 86 2)))) 88 (tu_mq (M 88) (M 87) (M 86 2))) hM11 ?_
    have c4 := hR.n4
    have c5 := hR.n5
    refine tu_aload_n 14 X 0 dX4_dropPhrase_14 rfl ?_
    refine tu_getR 15 X dX4_dropPhrase_15 fl_RX4_7 (by decide) rfl rfl ?_
    refine tu_iconst 18 X dX4_dropPhrase_18 ?_
    refine tu_dup2 19 X dX4_dropPhrase_19 rfl rfl ?_
    refine tu_iald 20 X (x := M 87 5) 5 dX4_dropPhrase_20 (by decide) rfl (by decide) rfl (by decide) rfl ?_
    refine tu_iconst 21 X dX4_dropPhrase_21 ?_
    refine tu_isub 22 X dX4_dropPhrase_22 ?_
    refine tu_iast 23 X (M' := tu_row (tu_row (tu_row M 86 (tu_u (M 86) 2 (tu_mw (M 86 2)))) 87 (tu_u (M 87) 5 ((M 87 5) - 1))) 88 (tu_mq (M 88) (M 87) (M 86 2))) 5 dX4_dropPhrase_23 (by decide) rfl (by decide) rfl (by decide) (tu_rc (tu_row M 86 (tu_u (M 86) 2 (tu_mw (M 86 2)))) (tu_mq (M 88) (M 87) (M 86 2)) (tu_u (M 87) 5 ((M 87 5) - 1)) rfl) ?_
    refine tu_bipush 24 X dX4_dropPhrase_24 (by decide) ?_
    refine tu_iconst 26 X dX4_dropPhrase_26 ?_
    refine tu_iload_n 27 X 1 dX4_dropPhrase_27 rfl ?_
    refine tu_imul 28 X dX4_dropPhrase_28 ?_
    refine tu_iadd 29 X dX4_dropPhrase_29 ?_
    refine tu_istore_n 30 X (lv' := [(2, tu_i (40 + (3 * l))), (0, tu_r 86), (1, tu_i l)]) dX4_dropPhrase_30 (by rw [hnl]; decide) rfl ?_
    have lp31 : ∀ (nq : Nat) (k : Nat), (k ≤ 3 * ((B 0 4).toNat - l.toNat - 1)) → 3 * ((B 0 4).toNat - l.toNat - 1) - k < nq → tu_W T 31 [(0, tu_r 86), (1, tu_i l), (2, tu_i (40 + (3 * l) + ((k : Nat) : Int)))] [] (tu_row (tu_row (tu_row M 86 (tu_u (M 86) 2 (tu_mw (M 86 2)))) 87 (tu_ml (tu_u (M 87) 5 (M 87 5 - 1)) (tu_u (M 87) 5 (M 87 5 - 1)) (40 + 3 * l.toNat + 3) (40 + 3 * l.toNat) k)) 88 (tu_mq (M 88) (M 87) (M 86 2))) := by
      intro nq
      induction nq with
      | zero => intros; omega
      | succ nq ih31 =>
        intro k hk hn31
        have x4 : tu_ml (tu_u (M 87) 5 (M 87 5 - 1)) (tu_u (M 87) 5 (M 87 5 - 1)) (40 + 3 * l.toNat + 3) (40 + 3 * l.toNat) k 5 = B 0 4 - 1 := by rw [tu_ml_at, if_neg (by omega), tu_u_s]; omega
        have xc : tu_ml (tu_u (M 87) 5 (M 87 5 - 1)) (tu_u (M 87) 5 (M 87 5 - 1)) (40 + 3 * l.toNat + 3) (40 + 3 * l.toNat) k 7 = B 0 9 := by rw [tu_ml_at, if_neg (by omega), tu_u_n _ _ (by decide)]; exact hR.n7
        have xb : ∀ j : Nat, j < (B 0 9).toNat → tu_ml (tu_u (M 87) 5 (M 87 5 - 1)) (tu_u (M 87) 5 (M 87 5 - 1)) (40 + 3 * l.toNat + 3) (40 + 3 * l.toNat) k (104 + j) = B 7 j := fun j hj => by rw [tu_ml_at, if_neg (by omega), tu_u_n _ _ (by omega)]; exact hR.tu j (by omega)
        refine tu_iload_n 31 X 2 dX4_dropPhrase_31 rfl ?_
        refine tu_bipush 32 X dX4_dropPhrase_32 (by decide) ?_
        refine tu_iconst 34 X dX4_dropPhrase_34 ?_
        refine tu_aload_n 35 X 0 dX4_dropPhrase_35 rfl ?_
        refine tu_getR 36 X dX4_dropPhrase_36 fl_RX4_7 (by decide) rfl rfl ?_
        refine tu_iconst 39 X dX4_dropPhrase_39 ?_
        refine tu_iald 40 X (x := (tu_ml (tu_u (M 87) 5 (M 87 5 - 1)) (tu_u (M 87) 5 (M 87 5 - 1)) (40 + 3 * l.toNat + 3) (40 + 3 * l.toNat) k) 5) 5 dX4_dropPhrase_40 (by decide) rfl (by decide) rfl (by decide) rfl ?_
        refine tu_tp (b := (B 0 4 - 1)) (by exact x4) ?_
        refine tu_imul 41 X dX4_dropPhrase_41 ?_
        refine tu_iadd 42 X dX4_dropPhrase_42 ?_
        refine tu_icmp_ge 43 X 66 dX4_dropPhrase_43 (by decide) (show tu_rg (40 + (3 * l) + ((k : Nat) : Int)) from by first | assumption | exact ⟨by omega, by omega⟩) (show tu_rg (40 + (3 * (B 0 4 - 1))) from by first | assumption | exact ⟨by omega, by omega⟩) (fun br43 => ?_) (fun br43 => ?_)
        ·
          refine tu_aload_n 66 X 0 dX4_dropPhrase_66 rfl ?_
          refine tu_getR 67 X dX4_dropPhrase_67 fl_RX4_7 (by decide) rfl rfl ?_
          refine tu_bipush 70 X dX4_dropPhrase_70 (by decide) ?_
          refine tu_aload_n 72 X 0 dX4_dropPhrase_72 rfl ?_
          refine tu_iload_n 73 X 1 dX4_dropPhrase_73 rfl ?_
          refine tu_bipush 74 X dX4_dropPhrase_74 (by decide) ?_
          refine tu_aload_n 76 X 0 dX4_dropPhrase_76 rfl ?_
          refine tu_getR 77 X dX4_dropPhrase_77 fl_RX4_7 (by decide) rfl rfl ?_
          refine tu_bipush 80 X dX4_dropPhrase_80 (by decide) ?_
          refine tu_iald 82 X (x := (tu_ml (tu_u (M 87) 5 (M 87 5 - 1)) (tu_u (M 87) 5 (M 87 5 - 1)) (40 + 3 * l.toNat + 3) (40 + 3 * l.toNat) k) 7) 7 dX4_dropPhrase_82 (by decide) rfl (by decide) rfl (by decide) rfl ?_
          refine tu_tp (b := (((B 0 9).toNat : Nat) : Int)) (by rw [xc]; omega) ?_
          refine tu_st_eq (show _ = [tu_i ((((B 0 9).toNat) : Nat) : Int), tu_i ((104 : Nat) : Int), tu_i ((l.toNat : Nat) : Int), tu_r 86, tu_i 7, tu_r 87] from by first | rfl | (simp only [List.cons.injEq, Sum.inl.injEq, and_true, true_and]; omega)) rfl ?_
          refine tu_callVI 83 X (st := [tu_i 7, tu_r 87]) (as := [tu_i ((l.toNat : Nat) : Int), tu_i ((104 : Nat) : Int), tu_i ((((B 0 9).toNat) : Nat) : Int)]) (c_X4_goes ((l.toNat : Nat) : Int) 104 ((B 0 9).toNat) (show 104 + ((B 0 9).toNat) ≤ 112 from by omega) (show tu_rg ((l.toNat : Nat) : Int) from by exact ⟨by omega, by omega⟩) (show ∀ k9 : Nat, k9 < ((B 0 9).toNat) → tu_rg ((tu_ml (tu_u (M 87) 5 (M 87 5 - 1)) (tu_u (M 87) 5 (M 87 5 - 1)) (40 + 3 * l.toNat + 3) (40 + 3 * l.toNat) k) (104 + k9)) from by intro j hj; rw [xb j hj]; have := hO.2.2.2.2.2.2.1 j (by omega); exact ⟨by omega, by omega⟩)) sv_RX4_150 dX4_dropPhrase_83 rfl (by decide) rfl rfl rfl (Nat.le_of_ble_eq_true rfl) ⟨by decide, by decide⟩ (fun z M' h => ?_)
          obtain ⟨hM83, hz83⟩ := h
          refine tu_st_eq rfl (M' := tu_row (tu_row (tu_row M 86 (tu_u (M 86) 2 (tu_mw (M 86 2)))) 87 (tu_wr ((tu_ml (tu_u (M 87) 5 (M 87 5 - 1)) (tu_u (M 87) 5 (M 87 5 - 1)) (40 + 3 * l.toNat + 3) (40 + 3 * l.toNat) k)) 104 ((l.toNat : Nat) : Int) ((B 0 9).toNat))) 88 (tu_mq (M 88) (M 87) (M 86 2))) (hM83.trans ((tu_rc (tu_row (tu_row M 86 (tu_u (M 86) 2 (tu_mw (M 86 2)))) 87 (tu_ml (tu_u (M 87) 5 (M 87 5 - 1)) (tu_u (M 87) 5 (M 87 5 - 1)) (40 + 3 * l.toNat + 3) (40 + 3 * l.toNat) k)) (tu_mq (M 88) (M 87) (M 86 2)) (tu_wr ((tu_ml (tu_u (M 87) 5 (M 87 5 - 1)) (tu_u (M 87) 5 (M 87 5 - 1)) (40 + 3 * l.toNat + 3) (40 + 3 * l.toNat) k)) 104 ((l.toNat : Nat) : Int) ((B 0 9).toNat)) rfl).trans (congrArg (fun m => tu_row m 88 (tu_mq (M 88) (M 87) (M 86 2))) (tu_rr (tu_row M 86 (tu_u (M 86) 2 (tu_mw (M 86 2)))) 87 (tu_ml (tu_u (M 87) 5 (M 87 5 - 1)) (tu_u (M 87) 5 (M 87 5 - 1)) (40 + 3 * l.toNat + 3) (40 + 3 * l.toNat) k) (tu_wr ((tu_ml (tu_u (M 87) 5 (M 87 5 - 1)) (tu_u (M 87) 5 (M 87 5 - 1)) (40 + 3 * l.toNat + 3) (40 + 3 * l.toNat) k)) 104 ((l.toNat : Nat) : Int) ((B 0 9).toNat)))))) ?_
          refine tu_tp (b := ((tu_kc ((tu_ml (tu_u (M 87) 5 (M 87 5 - 1)) (tu_u (M 87) 5 (M 87 5 - 1)) (40 + 3 * l.toNat + 3) (40 + 3 * l.toNat) k)) 104 ((l.toNat : Nat) : Int) ((B 0 9).toNat) : Nat) : Int)) hz83 ?_
          refine tu_iast 86 X (M' := tu_row (tu_row (tu_row M 86 (tu_u (M 86) 2 (tu_mw (M 86 2)))) 87 (tu_u (tu_wr ((tu_ml (tu_u (M 87) 5 (M 87 5 - 1)) (tu_u (M 87) 5 (M 87 5 - 1)) (40 + 3 * l.toNat + 3) (40 + 3 * l.toNat) k)) 104 ((l.toNat : Nat) : Int) ((B 0 9).toNat)) 7 ((tu_kc ((tu_ml (tu_u (M 87) 5 (M 87 5 - 1)) (tu_u (M 87) 5 (M 87 5 - 1)) (40 + 3 * l.toNat + 3) (40 + 3 * l.toNat) k)) 104 ((l.toNat : Nat) : Int) ((B 0 9).toNat) : Nat) : Int))) 88 (tu_mq (M 88) (M 87) (M 86 2))) 7 dX4_dropPhrase_86 (by decide) rfl (by decide) rfl (by decide) ((tu_rc (tu_row (tu_row M 86 (tu_u (M 86) 2 (tu_mw (M 86 2)))) 87 (tu_wr ((tu_ml (tu_u (M 87) 5 (M 87 5 - 1)) (tu_u (M 87) 5 (M 87 5 - 1)) (40 + 3 * l.toNat + 3) (40 + 3 * l.toNat) k)) 104 ((l.toNat : Nat) : Int) ((B 0 9).toNat))) (tu_mq (M 88) (M 87) (M 86 2)) (tu_u (tu_wr ((tu_ml (tu_u (M 87) 5 (M 87 5 - 1)) (tu_u (M 87) 5 (M 87 5 - 1)) (40 + 3 * l.toNat + 3) (40 + 3 * l.toNat) k)) 104 ((l.toNat : Nat) : Int) ((B 0 9).toNat)) 7 ((tu_kc ((tu_ml (tu_u (M 87) 5 (M 87 5 - 1)) (tu_u (M 87) 5 (M 87 5 - 1)) (40 + 3 * l.toNat + 3) (40 + 3 * l.toNat) k)) 104 ((l.toNat : Nat) : Int) ((B 0 9).toNat) : Nat) : Int)) rfl).trans (congrArg (fun m => tu_row m 88 (tu_mq (M 88) (M 87) (M 86 2))) (tu_rr (tu_row M 86 (tu_u (M 86) 2 (tu_mw (M 86 2)))) 87 (tu_wr ((tu_ml (tu_u (M 87) 5 (M 87 5 - 1)) (tu_u (M 87) 5 (M 87 5 - 1)) (40 + 3 * l.toNat + 3) (40 + 3 * l.toNat) k)) 104 ((l.toNat : Nat) : Int) ((B 0 9).toNat)) (tu_u (tu_wr ((tu_ml (tu_u (M 87) 5 (M 87 5 - 1)) (tu_u (M 87) 5 (M 87 5 - 1)) (40 + 3 * l.toNat + 3) (40 + 3 * l.toNat) k)) 104 ((l.toNat : Nat) : Int) ((B 0 9).toNat)) 7 ((tu_kc ((tu_ml (tu_u (M 87) 5 (M 87 5 - 1)) (tu_u (M 87) 5 (M 87 5 - 1)) (40 + 3 * l.toNat + 3) (40 + 3 * l.toNat) k)) 104 ((l.toNat : Nat) : Int) ((B 0 9).toNat) : Nat) : Int))))) ?_
          refine tu_aload_n 87 X 0 dX4_dropPhrase_87 rfl ?_
          refine tu_getR 88 X dX4_dropPhrase_88 fl_RX4_7 (by decide) rfl rfl ?_
          refine tu_bipush 91 X dX4_dropPhrase_91 (by decide) ?_
          refine tu_iald 93 X (x := (tu_u (tu_wr ((tu_ml (tu_u (M 87) 5 (M 87 5 - 1)) (tu_u (M 87) 5 (M 87 5 - 1)) (40 + 3 * l.toNat + 3) (40 + 3 * l.toNat) k)) 104 ((l.toNat : Nat) : Int) ((B 0 9).toNat)) 7 ((tu_kc ((tu_ml (tu_u (M 87) 5 (M 87 5 - 1)) (tu_u (M 87) 5 (M 87 5 - 1)) (40 + 3 * l.toNat + 3) (40 + 3 * l.toNat) k)) 104 ((l.toNat : Nat) : Int) ((B 0 9).toNat) : Nat) : Int)) 7) 7 dX4_dropPhrase_93 (by decide) rfl (by decide) rfl (by decide) rfl ?_
          refine tu_tp (b := ((tu_kc (B 7) 0 ((l.toNat : Nat) : Int) (B 0 9).toNat : Nat) : Int)) (by rw [tu_u_s, tu_kc_sh _ xb]) ?_
          refine hret 94 _ _ ((tu_kc (B 7) 0 ((l.toNat : Nat) : Int) (B 0 9).toNat : Nat) : Int) dX4_dropPhrase_94 (fun h => by rw [hrt] at h; cases h) ?_
          have ek : k = 3 * ((B 0 4).toNat - l.toNat - 1) := by omega
          refine ⟨_, Or.inr (⟨by omega, _, tu_MB.mdropPhrase hR hO (by omega) ek, rfl, rfl⟩), rfl⟩
        ·
          refine tu_aload_n 46 X 0 dX4_dropPhrase_46 rfl ?_
          refine tu_getR 47 X dX4_dropPhrase_47 fl_RX4_7 (by decide) rfl rfl ?_
          refine tu_iload_n 50 X 2 dX4_dropPhrase_50 rfl ?_
          refine tu_aload_n 51 X 0 dX4_dropPhrase_51 rfl ?_
          refine tu_getR 52 X dX4_dropPhrase_52 fl_RX4_7 (by decide) rfl rfl ?_
          refine tu_iload_n 55 X 2 dX4_dropPhrase_55 rfl ?_
          refine tu_iconst 56 X dX4_dropPhrase_56 ?_
          refine tu_iadd 57 X dX4_dropPhrase_57 ?_
          refine tu_iald 58 X (x := (tu_ml (tu_u (M 87) 5 (M 87 5 - 1)) (tu_u (M 87) 5 (M 87 5 - 1)) (40 + 3 * l.toNat + 3) (40 + 3 * l.toNat) k) (((40 + (3 * l) + ((k : Nat) : Int)) + 3).toNat)) (((40 + (3 * l) + ((k : Nat) : Int)) + 3).toNat) dX4_dropPhrase_58 (by decide) rfl (by decide) (by omega) (by omega) rfl ?_
          refine tu_tp (b := (M 87 (40 + 3 * l.toNat + 3 + k))) (by rw [tu_ml_at, if_neg (by omega), show ((40 + (3 * l) + ((k : Nat) : Int)) + 3).toNat = 40 + 3 * l.toNat + 3 + k from by omega, tu_u_n _ _ (by omega)]) ?_
          refine tu_iast 59 X (M' := tu_row (tu_row (tu_row M 86 (tu_u (M 86) 2 (tu_mw (M 86 2)))) 87 (tu_ml (tu_u (M 87) 5 (M 87 5 - 1)) (tu_u (M 87) 5 (M 87 5 - 1)) (40 + 3 * l.toNat + 3) (40 + 3 * l.toNat) (k + 1))) 88 (tu_mq (M 88) (M 87) (M 86 2))) ((40 + (3 * l) + ((k : Nat) : Int)).toNat) dX4_dropPhrase_59 (by decide) rfl (by decide) (by omega) (by omega) (((tu_rc (tu_row (tu_row M 86 (tu_u (M 86) 2 (tu_mw (M 86 2)))) 87 (tu_ml (tu_u (M 87) 5 (M 87 5 - 1)) (tu_u (M 87) 5 (M 87 5 - 1)) (40 + 3 * l.toNat + 3) (40 + 3 * l.toNat) k)) (tu_mq (M 88) (M 87) (M 86 2)) (tu_u (tu_ml (tu_u (M 87) 5 (M 87 5 - 1)) (tu_u (M 87) 5 (M 87 5 - 1)) (40 + 3 * l.toNat + 3) (40 + 3 * l.toNat) k) ((40 + (3 * l) + ((k : Nat) : Int)).toNat) (M 87 (40 + 3 * l.toNat + 3 + k))) rfl).trans (congrArg (fun m => tu_row m 88 (tu_mq (M 88) (M 87) (M 86 2))) (tu_rr (tu_row M 86 (tu_u (M 86) 2 (tu_mw (M 86 2)))) 87 (tu_ml (tu_u (M 87) 5 (M 87 5 - 1)) (tu_u (M 87) 5 (M 87 5 - 1)) (40 + 3 * l.toNat + 3) (40 + 3 * l.toNat) k) (tu_u (tu_ml (tu_u (M 87) 5 (M 87 5 - 1)) (tu_u (M 87) 5 (M 87 5 - 1)) (40 + 3 * l.toNat + 3) (40 + 3 * l.toNat) k) ((40 + (3 * l) + ((k : Nat) : Int)).toNat) (M 87 (40 + 3 * l.toNat + 3 + k)))))).trans (congrArg (fun m => tu_row m 88 (tu_mq (M 88) (M 87) (M 86 2))) (congrArg (fun q => tu_row (tu_row M 86 (tu_u (M 86) 2 (tu_mw (M 86 2)))) 87 q) (show tu_u (tu_ml (tu_u (M 87) 5 (M 87 5 - 1)) (tu_u (M 87) 5 (M 87 5 - 1)) (40 + 3 * l.toNat + 3) (40 + 3 * l.toNat) k) ((40 + (3 * l) + ((k : Nat) : Int)).toNat) (M 87 (40 + 3 * l.toNat + 3 + k)) = tu_ml (tu_u (M 87) 5 (M 87 5 - 1)) (tu_u (M 87) 5 (M 87 5 - 1)) (40 + 3 * l.toNat + 3) (40 + 3 * l.toNat) (k + 1) from by show _ = tu_u _ (40 + 3 * l.toNat + k) (tu_u _ _ _ _); rw [tu_u_n _ _ (show 40 + 3 * l.toNat + 3 + k ≠ 5 from by omega), show (40 + (3 * l) + ((k : Nat) : Int)).toNat = 40 + 3 * l.toNat + k from by omega])))) ?_
          refine tu_iinc 60 X (lv' := [(2, tu_i ((40 + (3 * l) + ((k : Nat) : Int)) + 1)), (0, tu_r 86), (1, tu_i l)]) 2 dX4_dropPhrase_60 rfl (by rw [hnl]; decide) rfl ?_
          refine tu_goto 63 X 31 dX4_dropPhrase_63 (by decide) ?_
          refine tu_jmp [1, 2, 0] (lv' := [(0, tu_r 86), (1, tu_i l), (2, tu_i (40 + (3 * l) + (((k + 1) : Nat) : Int)))]) ⟨rfl, rfl, tu_ei (by first | rfl | (omega)), trivial⟩ rfl (ih31 (k + 1) (by omega) (by omega))
    refine tu_jmp [1, 2, 0] (lv' := [(0, tu_r 86), (1, tu_i l), (2, tu_i (40 + (3 * l) + ((0 : Nat) : Int)))]) ⟨rfl, rfl, tu_ei (by first | rfl | (omega)), trivial⟩ rfl (lp31 ((3 * ((B 0 4).toNat - l.toNat - 1) - 0) + 1) 0 (by omega) (by omega))
  ·
    have br5 := tu_b_e0 br5
    refine tu_iconst 8 X dX4_dropPhrase_8 ?_
    refine hret 9 _ _ (-1) dX4_dropPhrase_9 (fun h => by rw [hrt] at h; cases h) ?_
    exact ⟨_, Or.inl (⟨by omega, rfl, rfl⟩), rfl⟩
set_option maxRecDepth 20000 in
set_option maxHeartbeats 4000000 in
theorem c_X4_undo {M : tu_M}  (hh : 0 ≤ M 86 2 ∧ M 86 2 ≤ 6) : tu_MI tu_Y_X4_undo [tu_r 86] M (fun z M' => ∃ (y : Int), (((M 86 2 < 1) ∧ M' = M ∧ y = -5) ∨ ((1 ≤ M 86 2) ∧ M' = tu_row (tu_row M 86 (tu_u (M 86) 2 (M 86 2 - 1))) 87 (tu_ml (M 88) (M 87) ((M 86 2 - 1).toNat * 112) 0 112) ∧ y = M 86 2 - 1)) ∧ z = y) := by
  refine tu_MI.of (ty := .int) (by decide) rfl (by first | exact Or.inl rfl | exact Or.inr rfl) (Nat.le_of_ble_eq_true rfl) (fun T (X : tu_X T cX4_undo RX4 1 24) hnl hrt hret => ?_)
  have hret : tu_RI T cX4_undo (fun z M' => ∃ (y : Int), (((M 86 2 < 1) ∧ M' = M ∧ y = -5) ∨ ((1 ≤ M 86 2) ∧ M' = tu_row (tu_row M 86 (tu_u (M 86) 2 (M 86 2 - 1))) 87 (tu_ml (M 88) (M 87) ((M 86 2 - 1).toNat * 112) 0 112) ∧ y = M 86 2 - 1)) ∧ z = y) := hret
  have hnl : T.2.2.2.2.2.2.2.2.2.2.1 = 1 := hnl
  show tu_W T 0 [(0, tu_r 86)] [] M
  refine tu_aload_n 0 X 0 dX4_undo_0 rfl ?_
  refine tu_getI 1 X (x := M 86 2) dX4_undo_1 fl_RX4_40 (by decide) rfl rfl rfl ?_
  refine tu_if_ne 4 X 10 dX4_undo_4 (by decide) (show tu_rg (M 86 2) from by first | assumption | exact ⟨by omega, by omega⟩) (fun br4 => ?_) (fun br4 => ?_)
  ·
    refine tu_aload_n 10 X 0 dX4_undo_10 rfl ?_
    refine tu_dup 11 X dX4_undo_11 rfl ?_
    refine tu_getI 12 X (x := M 86 2) dX4_undo_12 fl_RX4_40 (by decide) rfl rfl rfl ?_
    refine tu_iconst 15 X dX4_undo_15 ?_
    refine tu_isub 16 X dX4_undo_16 ?_
    refine tu_putI 17 X (M' := tu_row M 86 (tu_u (M 86) 2 ((M 86 2) - 1))) dX4_undo_17 fp_RX4_40 (by decide) rfl rfl rfl ?_
    refine tu_aload_n 20 X 0 dX4_undo_20 rfl ?_
    refine tu_getR 21 X dX4_undo_21 fl_RX4_13 (by decide) rfl rfl ?_
    refine tu_aload_n 24 X 0 dX4_undo_24 rfl ?_
    refine tu_getI 25 X (x := (tu_u (M 86) 2 ((M 86 2) - 1)) 2) dX4_undo_25 fl_RX4_40 (by decide) rfl rfl rfl ?_
    refine tu_tp (b := (((M 86 2 - 1).toNat : Nat) : Int)) (by rw [tu_u_s]; omega) ?_
    refine tu_bipush 28 X dX4_undo_28 (by decide) ?_
    refine tu_imul 30 X dX4_undo_30 ?_
    refine tu_aload_n 31 X 0 dX4_undo_31 rfl ?_
    refine tu_getR 32 X dX4_undo_32 fl_RX4_7 (by decide) rfl rfl ?_
    refine tu_iconst 35 X dX4_undo_35 ?_
    refine tu_st_eq (show _ = [tu_i ((0 : Nat) : Int), tu_r 87, tu_i ((((M 86 2 - 1).toNat * 112) : Nat) : Int), tu_r 88] from by first | rfl | (simp only [List.cons.injEq, Sum.inl.injEq, and_true, true_and]; omega)) rfl ?_
    refine tu_callSV 36 X (st := []) (as := [tu_r 88, tu_i ((((M 86 2 - 1).toNat * 112) : Nat) : Int), tu_r 87, tu_i ((0 : Nat) : Int)]) (c_X4_moves_88_87 ((M 86 2 - 1).toNat * 112) 0 (show ((M 86 2 - 1).toNat * 112) + 112 ≤ 672 from by first | assumption | omega | exact ⟨by omega, by omega⟩ | decide) (show 0 + 112 ≤ 112 from by first | assumption | omega | exact ⟨by omega, by omega⟩ | decide)) ss_RX4_44 dX4_undo_36 rfl (Nat.le_of_ble_eq_true rfl) ⟨by decide, by decide⟩ (fun M' h => ?_)
    have hM36 := h
    refine tu_st_eq rfl (M' := tu_row (tu_row M 86 (tu_u (M 86) 2 ((M 86 2) - 1))) 87 (tu_ml (M 88) (M 87) ((M 86 2 - 1).toNat * 112) 0 112)) hM36 ?_
    refine tu_aload_n 39 X 0 dX4_undo_39 rfl ?_
    refine tu_getI 40 X (x := (tu_u (M 86) 2 ((M 86 2) - 1)) 2) dX4_undo_40 fl_RX4_40 (by decide) rfl rfl rfl ?_
    refine tu_tp (b := (M 86 2 - 1)) (by rw [tu_u_s]) ?_
    refine hret 43 _ _ (M 86 2 - 1) dX4_undo_43 (fun h => by rw [hrt] at h; cases h) ?_
    exact ⟨_, Or.inr ⟨by omega, rfl, rfl⟩, rfl⟩
  ·
    refine tu_bipush 7 X dX4_undo_7 (by decide) ?_
    refine hret 9 _ _ (-5) dX4_undo_9 (fun h => by rw [hrt] at h; cases h) ?_
    exact ⟨_, Or.inl ⟨by omega, rfl, rfl⟩, rfl⟩
set_option maxRecDepth 20000 in
set_option maxHeartbeats 4000000 in
theorem c_X4_save {M : tu_M} (w : Int) (hw : tu_rg w) : tu_MI tu_Y_X4_save [tu_r 86, tu_i w] M (fun z M' => ∃ (y : Int), (((w < 0 ∨ 1 < w) ∧ M' = M ∧ y = -2) ∨ ((0 ≤ w ∧ w ≤ 1) ∧ M' = tu_row (tu_row M 89 (tu_ml (M 87) (M 89) 0 (112 * w.toNat) 112)) 90 (tu_u (M 90) w.toNat 1) ∧ y = M 87 4)) ∧ z = y) := by
  refine tu_MI.of (ty := .int) (by decide) rfl (by first | exact Or.inl rfl | exact Or.inr rfl) (Nat.le_of_ble_eq_true rfl) (fun T (X : tu_X T cX4_save RX4 1 24) hnl hrt hret => ?_)
  have hret : tu_RI T cX4_save (fun z M' => ∃ (y : Int), (((w < 0 ∨ 1 < w) ∧ M' = M ∧ y = -2) ∨ ((0 ≤ w ∧ w ≤ 1) ∧ M' = tu_row (tu_row M 89 (tu_ml (M 87) (M 89) 0 (112 * w.toNat) 112)) 90 (tu_u (M 90) w.toNat 1) ∧ y = M 87 4)) ∧ z = y) := hret
  have hnl : T.2.2.2.2.2.2.2.2.2.2.1 = 2 := hnl
  show tu_W T 0 [(0, tu_r 86), (1, tu_i w)] [] M
  refine tu_iload_n 0 X 1 dX4_save_0 rfl ?_
  refine tu_iconst 1 X dX4_save_1 ?_
  refine tu_iconst 2 X dX4_save_2 ?_
  refine tu_callSI 3 X (st := []) (as := [tu_i w, tu_i 0, tu_i 1]) (c_X4_within w 0 1 (show tu_rg w from by first | assumption | omega | exact ⟨by omega, by omega⟩ | decide) (show tu_rg 0 from by first | assumption | omega | exact ⟨by omega, by omega⟩ | decide) (show tu_rg 1 from by first | assumption | omega | exact ⟨by omega, by omega⟩ | decide)) ss_RX4_48 dX4_save_3 rfl (Nat.le_of_ble_eq_true rfl) ⟨by decide, by decide⟩ (fun z M' h => ?_)
  obtain ⟨hM3, hz3⟩ := h
  refine tu_st_eq rfl (M' := M) hM3 ?_
  refine tu_tp (b := tu_b (0 ≤ w ∧ w ≤ 1)) hz3 ?_
  refine tu_if_ne 6 X 12 dX4_save_6 (by decide) tu_b_rg (fun br6 => ?_) (fun br6 => ?_)
  ·
    have br6 := tu_b_n0 br6
    refine tu_aload_n 12 X 0 dX4_save_12 rfl ?_
    refine tu_getR 13 X dX4_save_13 fl_RX4_7 (by decide) rfl rfl ?_
    refine tu_iconst 16 X dX4_save_16 ?_
    refine tu_aload_n 17 X 0 dX4_save_17 rfl ?_
    refine tu_getR 18 X dX4_save_18 fl_RX4_16 (by decide) rfl rfl ?_
    refine tu_bipush 21 X dX4_save_21 (by decide) ?_
    refine tu_iload_n 23 X 1 dX4_save_23 rfl ?_
    refine tu_imul 24 X dX4_save_24 ?_
    refine tu_tp (b := (((112 * w.toNat) : Nat) : Int)) (by omega) ?_
    refine tu_st_eq (show _ = [tu_i (((112 * w.toNat) : Nat) : Int), tu_r 89, tu_i ((0 : Nat) : Int), tu_r 87] from by first | rfl | (simp only [List.cons.injEq, Sum.inl.injEq, and_true, true_and]; omega)) rfl ?_
    refine tu_callSV 25 X (st := []) (as := [tu_r 87, tu_i ((0 : Nat) : Int), tu_r 89, tu_i (((112 * w.toNat) : Nat) : Int)]) (c_X4_moves_87_89 0 (112 * w.toNat) (show 0 + 112 ≤ 112 from by first | assumption | omega | exact ⟨by omega, by omega⟩ | decide) (show (112 * w.toNat) + 112 ≤ 224 from by first | assumption | omega | exact ⟨by omega, by omega⟩ | decide)) ss_RX4_44 dX4_save_25 rfl (Nat.le_of_ble_eq_true rfl) ⟨by decide, by decide⟩ (fun M' h => ?_)
    have hM25 := h
    refine tu_st_eq rfl (M' := tu_row M 89 (tu_ml (M 87) (M 89) 0 (112 * w.toNat) 112)) hM25 ?_
    refine tu_aload_n 28 X 0 dX4_save_28 rfl ?_
    refine tu_getR 29 X dX4_save_29 fl_RX4_19 (by decide) rfl rfl ?_
    refine tu_iload_n 32 X 1 dX4_save_32 rfl ?_
    refine tu_iconst 33 X dX4_save_33 ?_
    refine tu_iast 34 X (M' := tu_row (tu_row M 89 (tu_ml (M 87) (M 89) 0 (112 * w.toNat) 112)) 90 (tu_u (M 90) w.toNat 1)) w.toNat dX4_save_34 (by decide) rfl (by decide) (by omega) (by omega) rfl ?_
    refine tu_aload_n 35 X 0 dX4_save_35 rfl ?_
    refine tu_getR 36 X dX4_save_36 fl_RX4_7 (by decide) rfl rfl ?_
    refine tu_iconst 39 X dX4_save_39 ?_
    refine tu_iald 40 X (x := M 87 4) 4 dX4_save_40 (by decide) rfl (by decide) rfl (by decide) rfl ?_
    refine hret 41 _ _ (M 87 4) dX4_save_41 (fun h => by rw [hrt] at h; cases h) ?_
    exact ⟨_, Or.inr ⟨by omega, rfl, rfl⟩, rfl⟩
  ·
    have br6 := tu_b_e0 br6
    refine tu_bipush 9 X dX4_save_9 (by decide) ?_
    refine hret 11 _ _ (-2) dX4_save_11 (fun h => by rw [hrt] at h; cases h) ?_
    exact ⟨_, Or.inl ⟨by omega, rfl, rfl⟩, rfl⟩
set_option maxRecDepth 20000 in
set_option maxHeartbeats 4000000 in
theorem c_X4_restore {M : tu_M} (w : Int) (hh : 0 ≤ M 86 2 ∧ M 86 2 ≤ 6) (hw : tu_rg w) (hz : ∀ k, k < 2 → M 90 k = 0 ∨ M 90 k = 1) : tu_MI tu_Y_X4_restore [tu_r 86, tu_i w] M (fun z M' => ∃ (y : Int), (((w < 0 ∨ 1 < w) ∧ M' = M ∧ y = -2) ∨ (((0 ≤ w ∧ w ≤ 1) ∧ M 90 w.toNat = 0) ∧ M' = M ∧ y = -5) ∨ (((0 ≤ w ∧ w ≤ 1) ∧ M 90 w.toNat = 1) ∧ M' = tu_mrec M (tu_ml (M 89) (M 87) (112 * w.toNat) 0 112) ∧ y = M 89 (112 * w.toNat + 4))) ∧ z = y) := by
  refine tu_MI.of (ty := .int) (by decide) rfl (by first | exact Or.inl rfl | exact Or.inr rfl) (Nat.le_of_ble_eq_true rfl) (fun T (X : tu_X T cX4_restore RX4 2 45) hnl hrt hret => ?_)
  have hret : tu_RI T cX4_restore (fun z M' => ∃ (y : Int), (((w < 0 ∨ 1 < w) ∧ M' = M ∧ y = -2) ∨ (((0 ≤ w ∧ w ≤ 1) ∧ M 90 w.toNat = 0) ∧ M' = M ∧ y = -5) ∨ (((0 ≤ w ∧ w ≤ 1) ∧ M 90 w.toNat = 1) ∧ M' = tu_mrec M (tu_ml (M 89) (M 87) (112 * w.toNat) 0 112) ∧ y = M 89 (112 * w.toNat + 4))) ∧ z = y) := hret
  have hnl : T.2.2.2.2.2.2.2.2.2.2.1 = 2 := hnl
  show tu_W T 0 [(0, tu_r 86), (1, tu_i w)] [] M
  refine tu_iload_n 0 X 1 dX4_restore_0 rfl ?_
  refine tu_iconst 1 X dX4_restore_1 ?_
  refine tu_iconst 2 X dX4_restore_2 ?_
  refine tu_callSI 3 X (st := []) (as := [tu_i w, tu_i 0, tu_i 1]) (c_X4_within w 0 1 (show tu_rg w from by first | assumption | omega | exact ⟨by omega, by omega⟩ | decide) (show tu_rg 0 from by first | assumption | omega | exact ⟨by omega, by omega⟩ | decide) (show tu_rg 1 from by first | assumption | omega | exact ⟨by omega, by omega⟩ | decide)) ss_RX4_48 dX4_restore_3 rfl (Nat.le_of_ble_eq_true rfl) ⟨by decide, by decide⟩ (fun z M' h => ?_)
  obtain ⟨hM3, hz3⟩ := h
  refine tu_st_eq rfl (M' := M) hM3 ?_
  refine tu_tp (b := tu_b (0 ≤ w ∧ w ≤ 1)) hz3 ?_
  refine tu_if_ne 6 X 12 dX4_restore_6 (by decide) tu_b_rg (fun br6 => ?_) (fun br6 => ?_)
  ·
    have br6 := tu_b_n0 br6
    have hz2 := hz w.toNat (by omega)
    refine tu_aload_n 12 X 0 dX4_restore_12 rfl ?_
    refine tu_getR 13 X dX4_restore_13 fl_RX4_19 (by decide) rfl rfl ?_
    refine tu_iload_n 16 X 1 dX4_restore_16 rfl ?_
    refine tu_iald 17 X (x := M 90 w.toNat) w.toNat dX4_restore_17 (by decide) rfl (by decide) (by omega) (by omega) rfl ?_
    refine tu_if_ne 18 X 24 dX4_restore_18 (by decide) (show tu_rg (M 90 w.toNat) from by first | assumption | exact ⟨by omega, by omega⟩) (fun br18 => ?_) (fun br18 => ?_)
    ·
      refine tu_aload_n 24 X 0 dX4_restore_24 rfl ?_
      refine tu_callVV 25 X (st := []) (as := []) (c_X4_record  (show 0 ≤ M 86 2 ∧ M 86 2 ≤ 6 from by first | assumption | omega | exact ⟨by omega, by omega⟩ | decide)) sv_RX4_131 dX4_restore_25 rfl (by decide) rfl rfl rfl (Nat.le_of_ble_eq_true rfl) ⟨by decide, by decide⟩ (fun M' h => ?_)
      have hM25 := h
      refine tu_st_eq rfl (M' := tu_row (tu_row M 86 (tu_u (M 86) 2 (tu_mw (M 86 2)))) 88 (tu_mq (M 88) (M 87) (M 86 2))) hM25 ?_
      refine tu_aload_n 28 X 0 dX4_restore_28 rfl ?_
      refine tu_getR 29 X dX4_restore_29 fl_RX4_16 (by decide) rfl rfl ?_
      refine tu_bipush 32 X dX4_restore_32 (by decide) ?_
      refine tu_iload_n 34 X 1 dX4_restore_34 rfl ?_
      refine tu_imul 35 X dX4_restore_35 ?_
      refine tu_tp (b := (((112 * w.toNat) : Nat) : Int)) (by omega) ?_
      refine tu_aload_n 36 X 0 dX4_restore_36 rfl ?_
      refine tu_getR 37 X dX4_restore_37 fl_RX4_7 (by decide) rfl rfl ?_
      refine tu_iconst 40 X dX4_restore_40 ?_
      refine tu_st_eq (show _ = [tu_i ((0 : Nat) : Int), tu_r 87, tu_i (((112 * w.toNat) : Nat) : Int), tu_r 89] from by first | rfl | (simp only [List.cons.injEq, Sum.inl.injEq, and_true, true_and]; omega)) rfl ?_
      refine tu_callSV 41 X (st := []) (as := [tu_r 89, tu_i (((112 * w.toNat) : Nat) : Int), tu_r 87, tu_i ((0 : Nat) : Int)]) (c_X4_moves_89_87 (112 * w.toNat) 0 (show (112 * w.toNat) + 112 ≤ 224 from by first | assumption | omega | exact ⟨by omega, by omega⟩ | decide) (show 0 + 112 ≤ 112 from by first | assumption | omega | exact ⟨by omega, by omega⟩ | decide)) ss_RX4_44 dX4_restore_41 rfl (Nat.le_of_ble_eq_true rfl) ⟨by decide, by decide⟩ (fun M' h => ?_)
      have hM41 := h
      refine tu_st_eq rfl (M' := tu_row (tu_row (tu_row M 86 (tu_u (M 86) 2 (tu_mw (M 86 2)))) 87 (tu_ml (M 89) (M 87) (112 * w.toNat) 0 112)) 88 (tu_mq (M 88) (M 87) (M 86 2))) (hM41.trans (tu_rc (tu_row M 86 (tu_u (M 86) 2 (tu_mw (M 86 2)))) (tu_mq (M 88) (M 87) (M 86 2)) (tu_ml (M 89) (M 87) (112 * w.toNat) 0 112) rfl)) ?_
      refine tu_aload_n 44 X 0 dX4_restore_44 rfl ?_
      refine tu_getR 45 X dX4_restore_45 fl_RX4_7 (by decide) rfl rfl ?_
      refine tu_iconst 48 X dX4_restore_48 ?_
      refine tu_iald 49 X (x := (tu_ml (M 89) (M 87) (112 * w.toNat) 0 112) 4) 4 dX4_restore_49 (by decide) rfl (by decide) rfl (by decide) rfl ?_
      refine tu_tp (b := (M 89 (112 * w.toNat + 4))) (by rw [tu_ml_at, if_pos (by omega)]) ?_
      refine hret 50 _ _ (M 89 (112 * w.toNat + 4)) dX4_restore_50 (fun h => by rw [hrt] at h; cases h) ?_
      exact ⟨_, Or.inr (Or.inr ⟨by omega, rfl, rfl⟩), rfl⟩
    ·
      refine tu_bipush 21 X dX4_restore_21 (by decide) ?_
      refine hret 23 _ _ (-5) dX4_restore_23 (fun h => by rw [hrt] at h; cases h) ?_
      exact ⟨_, Or.inr (Or.inl ⟨by omega, rfl, rfl⟩), rfl⟩
  ·
    have br6 := tu_b_e0 br6
    refine tu_bipush 9 X dX4_restore_9 (by decide) ?_
    refine hret 11 _ _ (-2) dX4_restore_11 (fun h => by rw [hrt] at h; cases h) ?_
    exact ⟨_, Or.inl ⟨by omega, rfl, rfl⟩, rfl⟩
set_option maxRecDepth 20000 in
set_option maxHeartbeats 4000000 in
theorem c_X4_wipe {M : tu_M}   : tu_MI tu_Y_X4_wipe [tu_r 86] M (fun z M' => M' = tu_row M 86 (tu_u (M 86) 6 0) ∧ z = M 86 6) := by
  refine tu_MI.of (ty := .int) (by decide) rfl (by first | exact Or.inl rfl | exact Or.inr rfl) (Nat.le_of_ble_eq_true rfl) (fun T (X : tu_X T cX4_wipe RX4 0 0) hnl hrt hret => ?_)
  have hret : tu_RI T cX4_wipe (fun z M' => M' = tu_row M 86 (tu_u (M 86) 6 0) ∧ z = M 86 6) := hret
  have hnl : T.2.2.2.2.2.2.2.2.2.2.1 = 2 := hnl
  show tu_W T 0 [(0, tu_r 86)] [] M
  refine tu_aload_n 0 X 0 dX4_wipe_0 rfl ?_
  refine tu_getI 1 X (x := M 86 6) dX4_wipe_1 fl_RX4_134 (by decide) rfl rfl rfl ?_
  refine tu_istore_n 4 X (lv' := [(1, tu_i (M 86 6)), (0, tu_r 86)]) dX4_wipe_4 (by rw [hnl]; decide) rfl ?_
  refine tu_aload_n 5 X 1 dX4_wipe_5 rfl ?_
  refine tu_iconst 6 X dX4_wipe_6 ?_
  refine tu_putI 7 X (M' := tu_row M 86 (tu_u (M 86) 6 0)) dX4_wipe_7 fp_RX4_134 (by decide) rfl rfl rfl ?_
  refine tu_iload_n 10 X 0 dX4_wipe_10 rfl ?_
  refine hret 11 _ _ (M 86 6) dX4_wipe_11 (fun h => by rw [hrt] at h; cases h) ?_
  exact ⟨rfl, by first | rfl | omega⟩
