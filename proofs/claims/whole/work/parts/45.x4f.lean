theorem tu_wnext {B : Nat → Nat → Int} {f S : Nat → Int} {n k k1 : Nat} (hff : ∀ j, j < n → tu_kd (tu_ps f j) (f j) ≠ 0) (hend : 0 < (tu_ps f n).2) (h1 : k < k1 ∧ k1 ≤ n) (h2 : k1 = n ∨ f k1 = 59) (hM : tu_MB (tu_qs B f k1) S) : (k1 + 1 < n ∧ tu_ps f (k1 + 1) = (0, 0) ∧ tu_MB (tu_qs B f (k1 + 1)) S) ∨ (k1 + 1 = n + 1 ∧ tu_MB (tu_qs B f n) S) := by
  by_cases e : k1 = n
  · subst e; exact Or.inr ⟨rfl, hM⟩
  · have e4 := tu_kd4 (hff k1 (by omega)) (by omega)
    have ep := tu_ps_4 e4
    have eq : tu_qs B f (k1 + 1) = tu_qs B f k1 := tu_q1_4 e4
    left
    refine ⟨?_, ep, by rw [eq]; exact hM⟩
    by_cases z : k1 + 1 = n
    · rw [← z, ep] at hend; exact absurd hend (by decide)
    · omega
set_option maxRecDepth 20000 in
set_option maxHeartbeats 4000000 in
theorem c_X4_write {M : tu_M} (B : Nat → Nat → Int)  (hO : tu_BO B) (hR : tu_MB B (M 87)) (hh : 0 ≤ M 86 2 ∧ M 86 2 ≤ 6) (hp : 0 ≤ M 86 6 ∧ M 86 6 ≤ 60) (hr : ∀ k9 : Nat, (k9 : Int) < M 86 6 → tu_rg (M 91 k9)) : tu_MI tu_Y_X4_write [tu_r 86] M (fun z M' => ∃ (y : Int), (((∃ w, tu_ft (M 91) (M 86 6).toNat w ∧ w ≠ -6) ∧ M' = M ∧ y = -3) ∨ ((((∀ j, j < (M 86 6).toNat → tu_kd (tu_ps (M 91) j) (M 91 j) ≠ 0) ∧ 0 < (tu_ps (M 91) (M 86 6).toNat).2) ∧ (16 < B 0 1 + (tu_PA (M 91) (M 86 6).toNat - tu_ti (M 91) 124 (M 86 6).toNat) ∨ 8 < B 0 4 + tu_ti (M 91) 124 (M 86 6).toNat)) ∧ M' = M ∧ y = -4) ∨ ((((∀ j, j < (M 86 6).toNat → tu_kd (tu_ps (M 91) j) (M 91 j) ≠ 0) ∧ 0 < (tu_ps (M 91) (M 86 6).toNat).2) ∧ B 0 1 + (tu_PA (M 91) (M 86 6).toNat - tu_ti (M 91) 124 (M 86 6).toNat) ≤ 16 ∧ B 0 4 + tu_ti (M 91) 124 (M 86 6).toNat ≤ 8) ∧ ∃ S : Nat → Int, tu_MB (tu_qs B (M 91) (M 86 6).toNat) S ∧ M' = tu_row (tu_row (tu_row M 86 (tu_u (tu_u (M 86) 2 (tu_mw (M 86 2))) 6 0)) 87 S) 88 (tu_mq (M 88) (M 87) (M 86 2)) ∧ y = tu_qs B (M 91) (M 86 6).toNat 0 1)) ∧ z = y) := by
  have cn := hO.1
  refine tu_MI.of (ty := .int) (by decide) rfl (by first | exact Or.inl rfl | exact Or.inr rfl) (Nat.le_of_ble_eq_true rfl) (fun T (X : tu_X T cX4_write RX4 2 45) hnl hrt hret => ?_)
  have hret : tu_RI T cX4_write (fun z M' => ∃ (y : Int), (((∃ w, tu_ft (M 91) (M 86 6).toNat w ∧ w ≠ -6) ∧ M' = M ∧ y = -3) ∨ ((((∀ j, j < (M 86 6).toNat → tu_kd (tu_ps (M 91) j) (M 91 j) ≠ 0) ∧ 0 < (tu_ps (M 91) (M 86 6).toNat).2) ∧ (16 < B 0 1 + (tu_PA (M 91) (M 86 6).toNat - tu_ti (M 91) 124 (M 86 6).toNat) ∨ 8 < B 0 4 + tu_ti (M 91) 124 (M 86 6).toNat)) ∧ M' = M ∧ y = -4) ∨ ((((∀ j, j < (M 86 6).toNat → tu_kd (tu_ps (M 91) j) (M 91 j) ≠ 0) ∧ 0 < (tu_ps (M 91) (M 86 6).toNat).2) ∧ B 0 1 + (tu_PA (M 91) (M 86 6).toNat - tu_ti (M 91) 124 (M 86 6).toNat) ≤ 16 ∧ B 0 4 + tu_ti (M 91) 124 (M 86 6).toNat ≤ 8) ∧ ∃ S : Nat → Int, tu_MB (tu_qs B (M 91) (M 86 6).toNat) S ∧ M' = tu_row (tu_row (tu_row M 86 (tu_u (tu_u (M 86) 2 (tu_mw (M 86 2))) 6 0)) 87 S) 88 (tu_mq (M 88) (M 87) (M 86 2)) ∧ y = tu_qs B (M 91) (M 86 6).toNat 0 1)) ∧ z = y) := hret
  have hnl : T.2.2.2.2.2.2.2.2.2.2.1 = 2 := hnl
  show tu_W T 0 [(0, tu_r 86)] [] M
  refine tu_aload_n 0 X 0 dX4_write_0 rfl ?_
  refine tu_callVI 1 X (st := []) (as := []) (c_X4_findFault  (show 0 ≤ M 86 6 ∧ M 86 6 ≤ 60 from by first | assumption | omega | exact ⟨by omega, by omega⟩ | decide) (show ∀ k9 : Nat, (k9 : Int) < M 86 6 → tu_rg (M 91 k9) from by first | assumption | omega | exact ⟨by omega, by omega⟩ | decide)) sv_RX4_137 dX4_write_1 rfl (by decide) rfl rfl rfl (Nat.le_of_ble_eq_true rfl) ⟨by decide, by decide⟩ (fun z M' h => ?_)
  obtain ⟨w_1, hM1, h1_0, hz1⟩ := h
  refine tu_st_eq rfl (M' := M) hM1 ?_
  refine tu_tp (b := w_1) hz1 ?_
  have w1rg := tu_ft_rg h1_0
  refine tu_bipush 4 X dX4_write_4 (by decide) ?_
  refine tu_icmp_eq 6 X 12 dX4_write_6 (by decide) (show tu_rg w_1 from by first | assumption | exact ⟨by omega, by omega⟩) ⟨by decide, by decide⟩ (fun br6 => ?_) (fun br6 => ?_)
  ·
    have hff2 : (∀ j9, j9 < (M 86 6).toNat → tu_kd (tu_ps (M 91) j9) (M 91 j9) ≠ 0) ∧ 0 < (tu_ps (M 91) (M 86 6).toNat).2 := by
      rcases h1_0 with ⟨q, hq, hw, -⟩ | ⟨hq, hw⟩
      · omega
      · refine ⟨hq, ?_⟩
        split at hw <;> omega
    obtain ⟨hff, hend⟩ := hff2
    have hmo0 := tu_PA_mono hff (M 86 6).toNat 0 (by omega)
    have epa : tu_PA (M 91) 0 = 0 := rfl
    have eti : tu_ti (M 91) 124 0 = 0 := rfl
    rw [epa, eti] at hmo0
    have hti9 := tu_ti_01 (M 91) 124 (M 86 6).toNat
    have hpa9 : 0 ≤ tu_PA (M 91) (M 86 6).toNat ∧ tu_PA (M 91) (M 86 6).toNat ≤ 1 * ((M 86 6).toNat : Int) := tu_sm_bd (fun q hq => by split <;> omega)
    have hn0 : 0 < (M 86 6).toNat := by
      rcases Nat.eq_zero_or_pos (M 86 6).toNat with z | z
      · rw [z] at hend; exact absurd (show (0 : Int) < 0 from hend) (by decide)
      · exact z
    refine tu_aload_n 12 X 0 dX4_write_12 rfl ?_
    refine tu_getR 13 X dX4_write_13 fl_RX4_7 (by decide) rfl rfl ?_
    refine tu_iconst 16 X dX4_write_16 ?_
    refine tu_iald 17 X (x := M 87 4) 4 dX4_write_17 (by decide) rfl (by decide) rfl (by decide) rfl ?_
    refine tu_tp (b := (B 0 1)) (by exact hR.n4) ?_
    refine tu_aload_n 18 X 0 dX4_write_18 rfl ?_
    refine tu_iconst 19 X dX4_write_19 ?_
    refine tu_callVI 20 X (st := [tu_i (B 0 1)]) (as := [tu_i 0]) (c_X4_parts_0  (show 0 ≤ M 86 6 ∧ M 86 6 ≤ 60 from by first | assumption | omega | exact ⟨by omega, by omega⟩ | decide) (show ∀ k9 : Nat, (k9 : Int) < M 86 6 → tu_rg (M 91 k9) from by first | assumption | omega | exact ⟨by omega, by omega⟩ | decide) (show ∀ j9, j9 < (M 86 6).toNat → tu_kd (tu_ps (M 91) j9) (M 91 j9) ≠ 0 from by first | assumption | omega | exact ⟨by omega, by omega⟩ | decide)) sv_RX4_140 dX4_write_20 rfl (by decide) rfl rfl rfl (Nat.le_of_ble_eq_true rfl) ⟨by decide, by decide⟩ (fun z M' h => ?_)
    obtain ⟨hM20, hz20⟩ := h
    refine tu_st_eq rfl (M' := M) hM20 ?_
    refine tu_tp (b := (tu_PA (M 91) (M 86 6).toNat - tu_ti (M 91) 124 (M 86 6).toNat)) hz20 ?_
    refine tu_iadd 23 X dX4_write_23 ?_
    refine tu_bipush 24 X dX4_write_24 (by decide) ?_
    refine tu_icmp_gt 26 X 46 dX4_write_26 (by decide) (show tu_rg ((B 0 1) + (tu_PA (M 91) (M 86 6).toNat - tu_ti (M 91) 124 (M 86 6).toNat)) from by first | assumption | exact ⟨by omega, by omega⟩) ⟨by decide, by decide⟩ (fun br26 => ?_) (fun br26 => ?_)
    ·
      refine tu_bipush 46 X dX4_write_46 (by decide) ?_
      refine hret 48 _ _ (-4) dX4_write_48 (fun h => by rw [hrt] at h; cases h) ?_
      exact ⟨_, Or.inr (Or.inl ⟨⟨⟨hff, hend⟩, by omega⟩, rfl, rfl⟩), rfl⟩
    ·
      refine tu_aload_n 29 X 0 dX4_write_29 rfl ?_
      refine tu_getR 30 X dX4_write_30 fl_RX4_7 (by decide) rfl rfl ?_
      refine tu_iconst 33 X dX4_write_33 ?_
      refine tu_iald 34 X (x := M 87 5) 5 dX4_write_34 (by decide) rfl (by decide) rfl (by decide) rfl ?_
      refine tu_tp (b := (B 0 4)) (by exact hR.n5) ?_
      refine tu_aload_n 35 X 0 dX4_write_35 rfl ?_
      refine tu_iconst 36 X dX4_write_36 ?_
      refine tu_callVI 37 X (st := [tu_i (B 0 4)]) (as := [tu_i 1]) (c_X4_parts_1  (show 0 ≤ M 86 6 ∧ M 86 6 ≤ 60 from by first | assumption | omega | exact ⟨by omega, by omega⟩ | decide) (show ∀ k9 : Nat, (k9 : Int) < M 86 6 → tu_rg (M 91 k9) from by first | assumption | omega | exact ⟨by omega, by omega⟩ | decide) (show ∀ j9, j9 < (M 86 6).toNat → tu_kd (tu_ps (M 91) j9) (M 91 j9) ≠ 0 from by first | assumption | omega | exact ⟨by omega, by omega⟩ | decide)) sv_RX4_140 dX4_write_37 rfl (by decide) rfl rfl rfl (Nat.le_of_ble_eq_true rfl) ⟨by decide, by decide⟩ (fun z M' h => ?_)
      obtain ⟨hM37, hz37⟩ := h
      refine tu_st_eq rfl (M' := M) hM37 ?_
      refine tu_tp (b := (tu_ti (M 91) 124 (M 86 6).toNat)) hz37 ?_
      refine tu_iadd 40 X dX4_write_40 ?_
      refine tu_bipush 41 X dX4_write_41 (by decide) ?_
      refine tu_icmp_le 43 X 49 dX4_write_43 (by decide) (show tu_rg ((B 0 4) + (tu_ti (M 91) 124 (M 86 6).toNat)) from by first | assumption | exact ⟨by omega, by omega⟩) ⟨by decide, by decide⟩ (fun br43 => ?_) (fun br43 => ?_)
      ·
        refine tu_aload_n 49 X 0 dX4_write_49 rfl ?_
        refine tu_callVV 50 X (st := []) (as := []) (c_X4_record  (show 0 ≤ M 86 2 ∧ M 86 2 ≤ 6 from by first | assumption | omega | exact ⟨by omega, by omega⟩ | decide)) sv_RX4_131 dX4_write_50 rfl (by decide) rfl rfl rfl (Nat.le_of_ble_eq_true rfl) ⟨by decide, by decide⟩ (fun M' h => ?_)
        have hM50 := h
        refine tu_st_eq rfl (M' := tu_row (tu_row M 86 (tu_u (M 86) 2 (tu_mw (M 86 2)))) 88 (tu_mq (M 88) (M 87) (M 86 2))) hM50 ?_
        refine tu_iconst 53 X dX4_write_53 ?_
        refine tu_istore_n 54 X (lv' := [(1, tu_i 0), (0, tu_r 86)]) dX4_write_54 (by rw [hnl]; decide) rfl ?_
        refine tu_st_eq rfl (M' := tu_row (tu_row (tu_row M 86 (tu_u (M 86) 2 (tu_mw (M 86 2)))) 87 (M 87)) 88 (tu_mq (M 88) (M 87) (M 86 2))) ((congrArg (fun m => tu_row m 88 (tu_mq (M 88) (M 87) (M 86 2))) ((congrArg (fun m => tu_row m 86 (tu_u (M 86) 2 (tu_mw (M 86 2)))) ((tu_rx M 87).symm)).trans (tu_rc M (M 87) (tu_u (M 86) 2 (tu_mw (M 86 2))) rfl))).trans rfl) ?_
        have lp55 : ∀ (nq : Nat) (k : Nat) (S : Nat → Int), ((k < (M 86 6).toNat ∧ tu_ps (M 91) k = (0, 0) ∧ tu_MB (tu_qs B (M 91) k) S) ∨ (k = (M 86 6).toNat + 1 ∧ tu_MB (tu_qs B (M 91) (M 86 6).toNat) S)) → (M 86 6).toNat + 1 - k < nq → tu_W T 55 [(0, tu_r 86), (1, tu_i ((k : Nat) : Int))] [] (tu_row (tu_row (tu_row M 86 (tu_u (M 86) 2 (tu_mw (M 86 2)))) 87 S) 88 (tu_mq (M 88) (M 87) (M 86 2))) := by
          intro nq
          induction nq with
          | zero => intros; omega
          | succ nq ih55 =>
            intro k S hq hn55
            refine tu_iload_n 55 X 1 dX4_write_55 rfl ?_
            refine tu_aload_n 56 X 0 dX4_write_56 rfl ?_
            refine tu_getI 57 X (x := (tu_u (M 86) 2 (tu_mw (M 86 2))) 6) dX4_write_57 fl_RX4_134 (by decide) rfl rfl rfl ?_
            refine tu_tp (b := (((M 86 6).toNat : Nat) : Int)) (by rw [tu_u_n _ _ (by decide)]; omega) ?_
            refine tu_icmp_ge 60 X 94 dX4_write_60 (by decide) (show tu_rg ((k : Nat) : Int) from by first | assumption | exact ⟨by omega, by omega⟩) (show tu_rg (((M 86 6).toNat : Nat) : Int) from by first | assumption | exact ⟨by omega, by omega⟩) (fun br60 => ?_) (fun br60 => ?_)
            ·
              refine tu_aload_n 94 X 0 dX4_write_94 rfl ?_
              refine tu_iconst 95 X dX4_write_95 ?_
              refine tu_putI 96 X (M' := tu_row (tu_row (tu_row M 86 (tu_u (tu_u (M 86) 2 (tu_mw (M 86 2))) 6 0)) 87 S) 88 (tu_mq (M 88) (M 87) (M 86 2))) dX4_write_96 fp_RX4_134 (by decide) rfl rfl ((tu_rc (tu_row (tu_row M 86 (tu_u (M 86) 2 (tu_mw (M 86 2)))) 87 S) (tu_mq (M 88) (M 87) (M 86 2)) (tu_u (tu_u (M 86) 2 (tu_mw (M 86 2))) 6 0) rfl).trans (congrArg (fun m => tu_row m 88 (tu_mq (M 88) (M 87) (M 86 2))) ((tu_rc (tu_row M 86 (tu_u (M 86) 2 (tu_mw (M 86 2)))) S (tu_u (tu_u (M 86) 2 (tu_mw (M 86 2))) 6 0) rfl).trans (congrArg (fun m => tu_row m 87 S) (tu_rr M 86 (tu_u (M 86) 2 (tu_mw (M 86 2))) (tu_u (tu_u (M 86) 2 (tu_mw (M 86 2))) 6 0)))))) ?_
              refine tu_aload_n 99 X 0 dX4_write_99 rfl ?_
              refine tu_getR 100 X dX4_write_100 fl_RX4_7 (by decide) rfl rfl ?_
              refine tu_iconst 103 X dX4_write_103 ?_
              refine tu_iald 104 X (x := S 4) 4 dX4_write_104 (by decide) rfl (by decide) rfl (by decide) rfl ?_
              refine hret 105 _ _ (S 4) dX4_write_105 (fun h => by rw [hrt] at h; cases h) ?_
              have hkq : tu_MB (tu_qs B (M 91) (M 86 6).toNat) S := by
                rcases hq with z | z
                · omega
                · exact z.2
              exact ⟨_, Or.inr (Or.inr ⟨⟨⟨hff, hend⟩, by omega, by omega⟩, _, hkq, rfl, hkq.n4⟩), rfl⟩
            ·
              have hkq : k < (M 86 6).toNat ∧ tu_ps (M 91) k = (0, 0) ∧ tu_MB (tu_qs B (M 91) k) S := by
                rcases hq with z | z
                · exact z
                · omega
              obtain ⟨hkn, hPk, hMk⟩ := hkq
              have hwc := tu_wc hO hff (by omega) (by omega) hkn hPk
              have hrk := hr k (by omega)
              refine tu_aload_n 63 X 0 dX4_write_63 rfl ?_
              refine tu_getR 64 X dX4_write_64 fl_RX4_22 (by decide) rfl rfl ?_
              refine tu_iload_n 67 X 1 dX4_write_67 rfl ?_
              refine tu_iald 68 X (x := M 91 k) k dX4_write_68 (by decide) rfl (by decide) (by omega) (by omega) rfl ?_
              refine tu_bipush 69 X dX4_write_69 (by decide) ?_
              refine tu_icmp_ne 71 X 82 dX4_write_71 (by decide) (show tu_rg (M 91 k) from by first | assumption | exact ⟨by omega, by omega⟩) ⟨by decide, by decide⟩ (fun br71 => ?_) (fun br71 => ?_)
              ·
                refine tu_aload_n 82 X 0 dX4_write_82 rfl ?_
                refine tu_iload_n 83 X 1 dX4_write_83 rfl ?_
                refine tu_callVI 84 X (st := []) (as := [tu_i ((k : Nat) : Int)]) (c_X4_writeLine B k (show tu_BO B from by first | assumption | (rw [tu_u_n _ _ (by decide)]; assumption)) (show 0 ≤ (tu_u (M 86) 2 (tu_mw (M 86 2))) 6 ∧ (tu_u (M 86) 2 (tu_mw (M 86 2))) 6 ≤ 60 from by first | assumption | (rw [tu_u_n _ _ (by decide)]; assumption)) (show ∀ k9 : Nat, (k9 : Int) < (tu_u (M 86) 2 (tu_mw (M 86 2))) 6 → tu_rg (M 91 k9) from by first | assumption | (rw [tu_u_n _ _ (by decide)]; assumption)) (show ∀ j9, j9 < ((tu_u (M 86) 2 (tu_mw (M 86 2))) 6).toNat → tu_kd (tu_ps (M 91) j9) (M 91 j9) ≠ 0 from by first | assumption | (rw [tu_u_n _ _ (by decide)]; assumption)) (show k < ((tu_u (M 86) 2 (tu_mw (M 86 2))) 6).toNat from by first | assumption | (rw [tu_u_n _ _ (by decide)]; assumption)) (show tu_ps (M 91) k = (0, 0) from by exact hPk) (show tu_MB (tu_qs B (M 91) k) (S) from by exact hMk) (show (0 ≤ tu_qs B (M 91) k 0 1 ∧ tu_qs B (M 91) k 0 1 ≤ 16) ∧ (0 ≤ tu_qs B (M 91) k 0 4 ∧ tu_qs B (M 91) k 0 4 ≤ 8) ∧ (0 ≤ tu_qs B (M 91) k 0 7 ∧ tu_qs B (M 91) k 0 7 ≤ 40) ∧ (0 ≤ tu_qs B (M 91) k 0 9 ∧ tu_qs B (M 91) k 0 9 ≤ 8) from by exact hwc.1) (show M 91 k ≠ 124 from by omega) (show tu_qs B (M 91) k 0 1 < 16 from by exact hwc.2.1 (by omega))) sv_RX4_147 dX4_write_84 rfl (by decide) rfl rfl rfl (Nat.le_of_ble_eq_true rfl) ⟨by decide, by decide⟩ (fun z M' h => ?_)
                obtain ⟨S_84, k1_84, hM84, h84_0, h84_1, hz84⟩ := h
                refine tu_st_eq rfl (M' := tu_row (tu_row (tu_row M 86 (tu_u (M 86) 2 (tu_mw (M 86 2)))) 87 S_84) 88 (tu_mq (M 88) (M 87) (M 86 2))) (hM84.trans ((tu_rc (tu_row (tu_row M 86 (tu_u (M 86) 2 (tu_mw (M 86 2)))) 87 S) (tu_mq (M 88) (M 87) (M 86 2)) S_84 rfl).trans (congrArg (fun m => tu_row m 88 (tu_mq (M 88) (M 87) (M 86 2))) (tu_rr (tu_row M 86 (tu_u (M 86) 2 (tu_mw (M 86 2)))) 87 S S_84)))) ?_
                refine tu_tp (b := ((k1_84 : Nat) : Int)) hz84 ?_
                have h84_0 : (k < k1_84 ∧ k1_84 ≤ (tu_u (M 86) 2 (tu_mw (M 86 2)) 6).toNat) ∧ (k1_84 = (tu_u (M 86) 2 (tu_mw (M 86 2)) 6).toNat ∨ M 91 k1_84 = 59) := h84_0
                have h84_1 : tu_MB (tu_qs B (M 91) k1_84) S_84 := h84_1
                rw [tu_u_n _ _ (by decide)] at h84_0
                refine tu_istore_n 87 X (lv' := [(1, tu_i ((k1_84 : Nat) : Int)), (0, tu_r 86)]) dX4_write_87 (by rw [hnl]; decide) rfl ?_
                refine tu_iinc 88 X (lv' := [(1, tu_i (((k1_84 : Nat) : Int) + 1)), (0, tu_r 86)]) 0 dX4_write_88 rfl (by rw [hnl]; decide) rfl ?_
                refine tu_goto 91 X 55 dX4_write_91 (by decide) ?_
                refine tu_jmp [1, 0] (lv' := [(0, tu_r 86), (1, tu_i (((k1_84 + 1) : Nat) : Int))]) ⟨rfl, tu_ei (by first | rfl | omega), trivial⟩ rfl (ih55 (k1_84 + 1) S_84 (by first | exact tu_wnext hff hend h84_0.1 h84_0.2 h84_1 | exact tu_wnext hff hend h76_0.1 h76_0.2 h76_1) (by omega))
              ·
                refine tu_aload_n 74 X 0 dX4_write_74 rfl ?_
                refine tu_iload_n 75 X 1 dX4_write_75 rfl ?_
                refine tu_callVI 76 X (st := []) (as := [tu_i ((k : Nat) : Int)]) (c_X4_writePhrase B k (show tu_BO B from by first | assumption | (rw [tu_u_n _ _ (by decide)]; assumption)) (show 0 ≤ (tu_u (M 86) 2 (tu_mw (M 86 2))) 6 ∧ (tu_u (M 86) 2 (tu_mw (M 86 2))) 6 ≤ 60 from by first | assumption | (rw [tu_u_n _ _ (by decide)]; assumption)) (show ∀ k9 : Nat, (k9 : Int) < (tu_u (M 86) 2 (tu_mw (M 86 2))) 6 → tu_rg (M 91 k9) from by first | assumption | (rw [tu_u_n _ _ (by decide)]; assumption)) (show ∀ j9, j9 < ((tu_u (M 86) 2 (tu_mw (M 86 2))) 6).toNat → tu_kd (tu_ps (M 91) j9) (M 91 j9) ≠ 0 from by first | assumption | (rw [tu_u_n _ _ (by decide)]; assumption)) (show k < ((tu_u (M 86) 2 (tu_mw (M 86 2))) 6).toNat from by first | assumption | (rw [tu_u_n _ _ (by decide)]; assumption)) (show tu_ps (M 91) k = (0, 0) from by exact hPk) (show tu_MB (tu_qs B (M 91) k) (S) from by exact hMk) (show (0 ≤ tu_qs B (M 91) k 0 1 ∧ tu_qs B (M 91) k 0 1 ≤ 16) ∧ (0 ≤ tu_qs B (M 91) k 0 4 ∧ tu_qs B (M 91) k 0 4 ≤ 8) ∧ (0 ≤ tu_qs B (M 91) k 0 7 ∧ tu_qs B (M 91) k 0 7 ≤ 40) ∧ (0 ≤ tu_qs B (M 91) k 0 9 ∧ tu_qs B (M 91) k 0 9 ≤ 8) from by exact hwc.1) (show M 91 k = 124 from by omega) (show tu_qs B (M 91) k 0 4 < 8 from by exact hwc.2.2 (by omega))) sv_RX4_144 dX4_write_76 rfl (by decide) rfl rfl rfl (Nat.le_of_ble_eq_true rfl) ⟨by decide, by decide⟩ (fun z M' h => ?_)
                obtain ⟨S_76, k1_76, hM76, h76_0, h76_1, hz76⟩ := h
                refine tu_st_eq rfl (M' := tu_row (tu_row (tu_row M 86 (tu_u (M 86) 2 (tu_mw (M 86 2)))) 87 S_76) 88 (tu_mq (M 88) (M 87) (M 86 2))) (hM76.trans ((tu_rc (tu_row (tu_row M 86 (tu_u (M 86) 2 (tu_mw (M 86 2)))) 87 S) (tu_mq (M 88) (M 87) (M 86 2)) S_76 rfl).trans (congrArg (fun m => tu_row m 88 (tu_mq (M 88) (M 87) (M 86 2))) (tu_rr (tu_row M 86 (tu_u (M 86) 2 (tu_mw (M 86 2)))) 87 S S_76)))) ?_
                refine tu_tp (b := ((k1_76 : Nat) : Int)) hz76 ?_
                have h76_0 : (k < k1_76 ∧ k1_76 ≤ (tu_u (M 86) 2 (tu_mw (M 86 2)) 6).toNat) ∧ (k1_76 = (tu_u (M 86) 2 (tu_mw (M 86 2)) 6).toNat ∨ M 91 k1_76 = 59) := h76_0
                have h76_1 : tu_MB (tu_qs B (M 91) k1_76) S_76 := h76_1
                rw [tu_u_n _ _ (by decide)] at h76_0
                refine tu_goto 79 X 87 dX4_write_79 (by decide) ?_
                refine tu_istore_n 87 X (lv' := [(1, tu_i ((k1_76 : Nat) : Int)), (0, tu_r 86)]) dX4_write_87 (by rw [hnl]; decide) rfl ?_
                refine tu_iinc 88 X (lv' := [(1, tu_i (((k1_76 : Nat) : Int) + 1)), (0, tu_r 86)]) 0 dX4_write_88 rfl (by rw [hnl]; decide) rfl ?_
                refine tu_goto 91 X 55 dX4_write_91 (by decide) ?_
                refine tu_jmp [1, 0] (lv' := [(0, tu_r 86), (1, tu_i (((k1_76 + 1) : Nat) : Int))]) ⟨rfl, tu_ei (by first | rfl | omega), trivial⟩ rfl (ih55 (k1_76 + 1) S_76 (by first | exact tu_wnext hff hend h84_0.1 h84_0.2 h84_1 | exact tu_wnext hff hend h76_0.1 h76_0.2 h76_1) (by omega))
        refine tu_jmp [1, 0] (lv' := [(0, tu_r 86), (1, tu_i 0)]) ⟨rfl, rfl, trivial⟩ rfl (lp55 (((M 86 6).toNat + 1 - 0) + 1) 0 (M 87) (by exact Or.inl ⟨hn0, rfl, hR⟩) (by omega))
      ·
        refine tu_bipush 46 X dX4_write_46 (by decide) ?_
        refine hret 48 _ _ (-4) dX4_write_48 (fun h => by rw [hrt] at h; cases h) ?_
        exact ⟨_, Or.inr (Or.inl ⟨⟨⟨hff, hend⟩, by omega⟩, rfl, rfl⟩), rfl⟩
  ·
    refine tu_bipush 9 X dX4_write_9 (by decide) ?_
    refine hret 11 _ _ (-3) dX4_write_11 (fun h => by rw [hrt] at h; cases h) ?_
    exact ⟨_, Or.inl ⟨⟨_, h1_0, br6⟩, rfl, rfl⟩, rfl⟩
