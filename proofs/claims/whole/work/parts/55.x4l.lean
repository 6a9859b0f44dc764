theorem tu_nv_lt {x y : Int} (hx : x ≤ 1000000) (hy : y ≤ 1000000) : tu_nv x < tu_nv y ↔ x < y := by
  unfold tu_nv
  split <;> split <;> omega
/-- what laying leaves in the model -/
def tu_sd (M N : tu_M) : Prop := (∀ i, i ≠ 86 → (i < 92 ∨ 96 < i) → N i = M i) ∧ N 86 2 = M 86 2 ∧ N 86 6 = M 86 6
theorem tu_sd.rf (M : tu_M) : tu_sd M M := ⟨fun _ _ _ => rfl, rfl, rfl⟩
theorem tu_sd.row {M N : tu_M} (h : tu_sd M N) {j : Nat} (f : Nat → Int) (hj : 92 ≤ j ∧ j ≤ 96) : tu_sd M (tu_row N j f) := ⟨fun i a b => by rw [tu_row_n _ _ (by omega)]; exact h.1 i a b, by rw [tu_row_n _ _ (by omega)]; exact h.2.1, by rw [tu_row_n _ _ (by omega)]; exact h.2.2⟩
theorem tu_sd.r86 {M N : tu_M} (h : tu_sd M N) {r9 : Nat → Int} (e : r9 2 = M 86 2 ∧ r9 6 = M 86 6) : tu_sd M (tu_row N 86 r9) := ⟨fun i a b => by rw [tu_row_n _ _ a]; exact h.1 i a b, by rw [tu_row_s]; exact e.1, by rw [tu_row_s]; exact e.2⟩
set_option maxRecDepth 20000 in
set_option maxHeartbeats 400000 in
theorem c_X4_cheapestPhrase {M : tu_M} (B : Nat → Nat → Int) (l : Nat) (hO : tu_BO B) (hR : tu_MB B (M 87)) (hl : (l : Int) < B 0 1) : tu_MI tu_Y_X4_cheapestPhrase [tu_r 86, tu_i ((l : Nat) : Int)] M (fun z M' => ∃ (r9 : Nat → Int) (C : Nat → Int) (W : Nat → Int) (U : Nat → Int), M' = tu_row (tu_row (tu_row (tu_row M 86 r9) 92 C) 93 W) 94 U ∧ (r9 2 = M 86 2 ∧ r9 6 = M 86 6) ∧ z = (tu_bp 1000000 (fun p => tu_co B l p) (B 0 4).toNat).1) := by
  have cn := hO.1
  refine tu_MI.of (ty := .int) (by decide) rfl (by first | exact Or.inl rfl | exact Or.inr rfl) (Nat.le_of_ble_eq_true rfl) (fun T (X : tu_X T cX4_cheapestPhrase RX4 6 135) hnl hrt hret => ?_)
  have hret : tu_RI T cX4_cheapestPhrase (fun z M' => ∃ (r9 : Nat → Int) (C : Nat → Int) (W : Nat → Int) (U : Nat → Int), M' = tu_row (tu_row (tu_row (tu_row M 86 r9) 92 C) 93 W) 94 U ∧ (r9 2 = M 86 2 ∧ r9 6 = M 86 6) ∧ z = (tu_bp 1000000 (fun p => tu_co B l p) (B 0 4).toNat).1) := hret
  have hnl : T.2.2.2.2.2.2.2.2.2.2.1 = 6 := hnl
  show tu_W T 0 [(0, tu_r 86), (1, tu_i ((l : Nat) : Int))] [] M
  refine tu_bipush 0 X dX4_cheapestPhrase_0 (by decide) ?_
  refine tu_istore_n 2 X (lv' := [(2, tu_i (-6)), (0, tu_r 86), (1, tu_i ((l : Nat) : Int))]) dX4_cheapestPhrase_2 (by rw [hnl]; decide) rfl ?_
  refine tu_ldc 3 X (n := 1000000000) dX4_cheapestPhrase_3 kw_RX4_88 (by decide) ?_
  refine tu_istore_n 5 X (lv' := [(3, tu_i 1000000000), (2, tu_i (-6)), (0, tu_r 86), (1, tu_i ((l : Nat) : Int))]) dX4_cheapestPhrase_5 (by rw [hnl]; decide) rfl ?_
  refine tu_iconst 6 X dX4_cheapestPhrase_6 ?_
  refine tu_istore 7 X (lv' := [(4, tu_i 0), (3, tu_i 1000000000), (2, tu_i (-6)), (0, tu_r 86), (1, tu_i ((l : Nat) : Int))]) dX4_cheapestPhrase_7 (by rw [hnl]; decide) rfl ?_
  refine tu_st_eq rfl (M' := tu_row M 86 (M 86)) ((tu_rx M 86).symm) ?_
  refine tu_st_eq rfl (M' := tu_row (tu_row M 86 (M 86)) 92 (M 92)) ((congrArg (fun m => tu_row m 86 (M 86)) ((tu_rx M 92).symm)).trans (tu_rc M (M 92) (M 86) rfl)) ?_
  refine tu_st_eq rfl (M' := tu_row (tu_row (tu_row M 86 (M 86)) 92 (M 92)) 93 (M 93)) ((congrArg (fun m => tu_row m 92 (M 92)) ((congrArg (fun m => tu_row m 86 (M 86)) ((tu_rx M 93).symm)).trans (tu_rc M (M 93) (M 86) rfl))).trans (tu_rc (tu_row M 86 (M 86)) (M 93) (M 92) rfl)) ?_
  refine tu_st_eq rfl (M' := tu_row (tu_row (tu_row (tu_row M 86 (M 86)) 92 (M 92)) 93 (M 93)) 94 (M 94)) ((congrArg (fun m => tu_row m 93 (M 93)) ((congrArg (fun m => tu_row m 92 (M 92)) ((congrArg (fun m => tu_row m 86 (M 86)) ((tu_rx M 94).symm)).trans (tu_rc M (M 94) (M 86) rfl))).trans (tu_rc (tu_row M 86 (M 86)) (M 94) (M 92) rfl))).trans (tu_rc (tu_row (tu_row M 86 (M 86)) 92 (M 92)) (M 94) (M 93) rfl)) ?_
  have lp9 : ∀ (nq : Nat) (q : Nat) (r9 : Nat → Int) (C : Nat → Int) (W : Nat → Int) (U : Nat → Int), ((q : Int) ≤ B 0 4) → (r9 2 = M 86 2 ∧ r9 6 = M 86 6) → (0 ≤ (tu_bp 1000000 (fun p => tu_co B l p) q).2 ∧ (tu_bp 1000000 (fun p => tu_co B l p) q).2 ≤ 1000000) → (B 0 4).toNat - q < nq → tu_W T 9 [(0, tu_r 86), (1, tu_i ((l : Nat) : Int)), (2, tu_i ((tu_bp 1000000 (fun p => tu_co B l p) q).1)), (3, tu_i (tu_nv (tu_bp 1000000 (fun p => tu_co B l p) q).2)), (4, tu_i ((q : Nat) : Int))] [] (tu_row (tu_row (tu_row (tu_row M 86 r9) 92 C) 93 W) 94 U) := by
    intro nq
    induction nq with
    | zero => intros; omega
    | succ nq ih9 =>
      intro q r9 C W U hq h9 hb hn9
      refine tu_iload 9 X 4 dX4_cheapestPhrase_9 rfl ?_
      refine tu_aload_n 11 X 0 dX4_cheapestPhrase_11 rfl ?_
      refine tu_getR 12 X dX4_cheapestPhrase_12 fl_RX4_7 (by decide) rfl rfl ?_
      refine tu_iconst 15 X dX4_cheapestPhrase_15 ?_
      refine tu_iald 16 X (x := M 87 5) 5 dX4_cheapestPhrase_16 (by decide) rfl (by decide) rfl (by decide) rfl ?_
      refine tu_tp (b := (B 0 4)) (by exact hR.n5) ?_
      refine tu_icmp_ge 17 X 61 dX4_cheapestPhrase_17 (by decide) (show tu_rg ((q : Nat) : Int) from by first | assumption | exact ⟨by omega, by omega⟩) (show tu_rg (B 0 4) from by first | assumption | exact ⟨by omega, by omega⟩) (fun br17 => ?_) (fun br17 => ?_)
      ·
        refine tu_iload_n 61 X 2 dX4_cheapestPhrase_61 rfl ?_
        refine hret 62 _ _ ((tu_bp 1000000 (fun p => tu_co B l p) q).1) dX4_cheapestPhrase_62 (fun h => by rw [hrt] at h; cases h) ?_
        exact ⟨r9, C, W, U, rfl, h9, by rw [show (B 0 4).toNat = q from by omega]⟩
      ·
        obtain ⟨L, a, k, r, c, hK, hTK, hT⟩ := tu_exB hO (l := l) (p := q) (by omega) (by omega)
        have ec := hTK.co hK hT
        have ecr := hT.rg hK
        have bz := tu_nv_rg ecr.1
        rw [ec] at bz
        refine tu_aload_n 20 X 0 dX4_cheapestPhrase_20 rfl ?_
        refine tu_iload_n 21 X 1 dX4_cheapestPhrase_21 rfl ?_
        refine tu_iload 22 X 4 dX4_cheapestPhrase_22 rfl ?_
        refine tu_callVI 24 X (st := []) (as := [tu_i ((l : Nat) : Int), tu_i ((q : Nat) : Int)]) (c_X4_costOf B L a k r c l q (show tu_BO B from by first | assumption | omega | exact ⟨by omega, by omega⟩ | decide) (show tu_MB B (M 87) from by first | assumption | omega | exact ⟨by omega, by omega⟩ | decide) (show (l : Int) < B 0 1 from by first | assumption | omega | exact ⟨by omega, by omega⟩ | decide) (show (q : Int) < B 0 4 from by first | assumption | omega | exact ⟨by omega, by omega⟩ | decide) (show tu_LK L a k r (tu_nl B l) (tu_np B q) from by first | assumption | omega | exact ⟨by omega, by omega⟩ | decide) (show tu_TK B l q L a k from by first | assumption | omega | exact ⟨by omega, by omega⟩ | decide) (show tu_Tx L a k r (tu_nl B l) (tu_np B q) c from by first | assumption | omega | exact ⟨by omega, by omega⟩ | decide)) sv_RX4_166 dX4_cheapestPhrase_24 rfl (by decide) rfl rfl rfl (Nat.le_of_ble_eq_true rfl) ⟨by decide, by decide⟩ (fun z M' h => ?_)
        obtain ⟨r9_24, C_24, W_24, U_24, hM24, h24_0, h24_1, h24_2, hz24⟩ := h
        refine tu_st_eq rfl (M' := tu_row (tu_row (tu_row (tu_row M 86 r9_24) 92 C_24) 93 W_24) 94 U_24) (hM24.trans ((congrArg (fun m => tu_row m 94 U_24) ((congrArg (fun m => tu_row m 93 W_24) ((congrArg (fun m => tu_row m 92 C_24) ((tu_rc (tu_row (tu_row (tu_row M 86 r9) 92 C) 93 W) U r9_24 rfl).trans (congrArg (fun m => tu_row m 94 U) ((tu_rc (tu_row (tu_row M 86 r9) 92 C) W r9_24 rfl).trans (congrArg (fun m => tu_row m 93 W) ((tu_rc (tu_row M 86 r9) C r9_24 rfl).trans (congrArg (fun m => tu_row m 92 C) (tu_rr M 86 r9 r9_24)))))))).trans ((tu_rc (tu_row (tu_row (tu_row M 86 r9_24) 92 C) 93 W) U C_24 rfl).trans (congrArg (fun m => tu_row m 94 U) ((tu_rc (tu_row (tu_row M 86 r9_24) 92 C) W C_24 rfl).trans (congrArg (fun m => tu_row m 93 W) (tu_rr (tu_row M 86 r9_24) 92 C C_24))))))).trans ((tu_rc (tu_row (tu_row (tu_row M 86 r9_24) 92 C_24) 93 W) U W_24 rfl).trans (congrArg (fun m => tu_row m 94 U) (tu_rr (tu_row (tu_row M 86 r9_24) 92 C_24) 93 W W_24))))).trans (tu_rr (tu_row (tu_row (tu_row M 86 r9_24) 92 C_24) 93 W_24) 94 U U_24))) ?_
        refine tu_tp (b := (tu_nv (c 0))) hz24 ?_
        refine tu_tp (b := (tu_nv (tu_co B l q))) (by rw [ec]) ?_
        refine tu_istore 27 X (lv' := [(5, tu_i (tu_nv (tu_co B l q))), (0, tu_r 86), (1, tu_i ((l : Nat) : Int)), (2, tu_i ((tu_bp 1000000 (fun p => tu_co B l p) q).1)), (3, tu_i (tu_nv (tu_bp 1000000 (fun p => tu_co B l p) q).2)), (4, tu_i ((q : Nat) : Int))]) dX4_cheapestPhrase_27 (by rw [hnl]; decide) rfl ?_
        have hlt := tu_nv_lt (x := tu_co B l q) (y := (tu_bp 1000000 (fun p => tu_co B l p) q).2) (by omega) hb.2
        have bz4 := tu_nv_rg hb.1
        refine tu_iload 29 X 0 dX4_cheapestPhrase_29 rfl ?_
        refine tu_iload_n 31 X 4 dX4_cheapestPhrase_31 rfl ?_
        refine tu_icmp_ge 32 X 40 dX4_cheapestPhrase_32 (by decide) (show tu_rg (tu_nv (tu_co B l q)) from by first | assumption | exact ⟨by omega, by omega⟩) (show tu_rg (tu_nv (tu_bp 1000000 (fun p => tu_co B l p) q).2) from by first | assumption | exact ⟨by omega, by omega⟩) (fun br32 => ?_) (fun br32 => ?_)
        ·
          refine tu_iload_n 40 X 3 dX4_cheapestPhrase_40 rfl ?_
          refine tu_istore_n 41 X (lv' := [(2, tu_i ((tu_bp 1000000 (fun p => tu_co B l p) q).1)), (5, tu_i (tu_nv (tu_co B l q))), (0, tu_r 86), (1, tu_i ((l : Nat) : Int)), (3, tu_i (tu_nv (tu_bp 1000000 (fun p => tu_co B l p) q).2)), (4, tu_i ((q : Nat) : Int))]) dX4_cheapestPhrase_41 (by rw [hnl]; decide) rfl ?_
          refine tu_iload 42 X 1 dX4_cheapestPhrase_42 rfl ?_
          refine tu_iload_n 44 X 4 dX4_cheapestPhrase_44 rfl ?_
          refine tu_icmp_ge 45 X 53 dX4_cheapestPhrase_45 (by decide) (show tu_rg (tu_nv (tu_co B l q)) from by first | assumption | exact ⟨by omega, by omega⟩) (show tu_rg (tu_nv (tu_bp 1000000 (fun p => tu_co B l p) q).2) from by first | assumption | exact ⟨by omega, by omega⟩) (fun br45 => ?_) (fun br45 => ?_)
          ·
            refine tu_iload_n 53 X 4 dX4_cheapestPhrase_53 rfl ?_
            refine tu_istore_n 54 X (lv' := [(3, tu_i (tu_nv (tu_bp 1000000 (fun p => tu_co B l p) q).2)), (2, tu_i ((tu_bp 1000000 (fun p => tu_co B l p) q).1)), (5, tu_i (tu_nv (tu_co B l q))), (0, tu_r 86), (1, tu_i ((l : Nat) : Int)), (4, tu_i ((q : Nat) : Int))]) dX4_cheapestPhrase_54 (by rw [hnl]; decide) rfl ?_
            refine tu_iinc 55 X (lv' := [(4, tu_i (((q : Nat) : Int) + 1)), (3, tu_i (tu_nv (tu_bp 1000000 (fun p => tu_co B l p) q).2)), (2, tu_i ((tu_bp 1000000 (fun p => tu_co B l p) q).1)), (5, tu_i (tu_nv (tu_co B l q))), (0, tu_r 86), (1, tu_i ((l : Nat) : Int))]) 5 dX4_cheapestPhrase_55 rfl (by rw [hnl]; decide) rfl ?_
            refine tu_goto 58 X 9 dX4_cheapestPhrase_58 (by decide) ?_
            refine tu_jmp [4, 5, 2, 1, 0] (lv' := [(0, tu_r 86), (1, tu_i ((l : Nat) : Int)), (2, tu_i ((tu_bp 1000000 (fun p => tu_co B l p) (q + 1)).1)), (3, tu_i (tu_nv (tu_bp 1000000 (fun p => tu_co B l p) (q + 1)).2)), (4, tu_i (((q + 1) : Nat) : Int))]) ⟨rfl, rfl, tu_ei (by first | rfl | (simp only [tu_bp]; split <;> first | rfl | (exfalso; omega))), tu_ei (by first | rfl | (simp only [tu_bp]; split <;> first | rfl | (exfalso; omega))), tu_ei (by first | rfl | omega), trivial⟩ rfl (ih9 (q + 1) r9_24 C_24 W_24 U_24 (by omega) (by exact ⟨h24_1.1.trans h9.1, h24_1.2.trans h9.2⟩) (by simp only [tu_bp]; split <;> omega) (by omega))
          ·
            refine tu_iload 48 X 1 dX4_cheapestPhrase_48 rfl ?_
            refine tu_goto 50 X 54 dX4_cheapestPhrase_50 (by decide) ?_
            refine tu_istore_n 54 X (lv' := [(3, tu_i (tu_nv (tu_co B l q))), (2, tu_i ((tu_bp 1000000 (fun p => tu_co B l p) q).1)), (5, tu_i (tu_nv (tu_co B l q))), (0, tu_r 86), (1, tu_i ((l : Nat) : Int)), (4, tu_i ((q : Nat) : Int))]) dX4_cheapestPhrase_54 (by rw [hnl]; decide) rfl ?_
            refine tu_iinc 55 X (lv' := [(4, tu_i (((q : Nat) : Int) + 1)), (3, tu_i (tu_nv (tu_co B l q))), (2, tu_i ((tu_bp 1000000 (fun p => tu_co B l p) q).1)), (5, tu_i (tu_nv (tu_co B l q))), (0, tu_r 86), (1, tu_i ((l : Nat) : Int))]) 5 dX4_cheapestPhrase_55 rfl (by rw [hnl]; decide) rfl ?_
            refine tu_goto 58 X 9 dX4_cheapestPhrase_58 (by decide) ?_
            refine tu_jmp [4, 5, 2, 1, 0] (lv' := [(0, tu_r 86), (1, tu_i ((l : Nat) : Int)), (2, tu_i ((tu_bp 1000000 (fun p => tu_co B l p) (q + 1)).1)), (3, tu_i (tu_nv (tu_bp 1000000 (fun p => tu_co B l p) (q + 1)).2)), (4, tu_i (((q + 1) : Nat) : Int))]) ⟨rfl, rfl, tu_ei (by first | rfl | (simp only [tu_bp]; split <;> first | rfl | (exfalso; omega))), tu_ei (by first | rfl | (simp only [tu_bp]; split <;> first | rfl | (exfalso; omega))), tu_ei (by first | rfl | omega), trivial⟩ rfl (ih9 (q + 1) r9_24 C_24 W_24 U_24 (by omega) (by exact ⟨h24_1.1.trans h9.1, h24_1.2.trans h9.2⟩) (by simp only [tu_bp]; split <;> omega) (by omega))
        ·
          refine tu_iload 35 X 5 dX4_cheapestPhrase_35 rfl ?_
          refine tu_goto 37 X 41 dX4_cheapestPhrase_37 (by decide) ?_
          refine tu_istore_n 41 X (lv' := [(2, tu_i ((q : Nat) : Int)), (5, tu_i (tu_nv (tu_co B l q))), (0, tu_r 86), (1, tu_i ((l : Nat) : Int)), (3, tu_i (tu_nv (tu_bp 1000000 (fun p => tu_co B l p) q).2)), (4, tu_i ((q : Nat) : Int))]) dX4_cheapestPhrase_41 (by rw [hnl]; decide) rfl ?_
          refine tu_iload 42 X 1 dX4_cheapestPhrase_42 rfl ?_
          refine tu_iload_n 44 X 4 dX4_cheapestPhrase_44 rfl ?_
          refine tu_icmp_ge 45 X 53 dX4_cheapestPhrase_45 (by decide) (show tu_rg (tu_nv (tu_co B l q)) from by first | assumption | exact ⟨by omega, by omega⟩) (show tu_rg (tu_nv (tu_bp 1000000 (fun p => tu_co B l p) q).2) from by first | assumption | exact ⟨by omega, by omega⟩) (fun br45 => ?_) (fun br45 => ?_)
          ·
            refine tu_iload_n 53 X 4 dX4_cheapestPhrase_53 rfl ?_
            refine tu_istore_n 54 X (lv' := [(3, tu_i (tu_nv (tu_bp 1000000 (fun p => tu_co B l p) q).2)), (2, tu_i ((q : Nat) : Int)), (5, tu_i (tu_nv (tu_co B l q))), (0, tu_r 86), (1, tu_i ((l : Nat) : Int)), (4, tu_i ((q : Nat) : Int))]) dX4_cheapestPhrase_54 (by rw [hnl]; decide) rfl ?_
            refine tu_iinc 55 X (lv' := [(4, tu_i (((q : Nat) : Int) + 1)), (3, tu_i (tu_nv (tu_bp 1000000 (fun p => tu_co B l p) q).2)), (2, tu_i ((q : Nat) : Int)), (5, tu_i (tu_nv (tu_co B l q))), (0, tu_r 86), (1, tu_i ((l : Nat) : Int))]) 5 dX4_cheapestPhrase_55 rfl (by rw [hnl]; decide) rfl ?_
            refine tu_goto 58 X 9 dX4_cheapestPhrase_58 (by decide) ?_
            refine tu_jmp [4, 5, 2, 1, 0] (lv' := [(0, tu_r 86), (1, tu_i ((l : Nat) : Int)), (2, tu_i ((tu_bp 1000000 (fun p => tu_co B l p) (q + 1)).1)), (3, tu_i (tu_nv (tu_bp 1000000 (fun p => tu_co B l p) (q + 1)).2)), (4, tu_i (((q + 1) : Nat) : Int))]) ⟨rfl, rfl, tu_ei (by first | rfl | (simp only [tu_bp]; split <;> first | rfl | (exfalso; omega))), tu_ei (by first | rfl | (simp only [tu_bp]; split <;> first | rfl | (exfalso; omega))), tu_ei (by first | rfl | omega), trivial⟩ rfl (ih9 (q + 1) r9_24 C_24 W_24 U_24 (by omega) (by exact ⟨h24_1.1.trans h9.1, h24_1.2.trans h9.2⟩) (by simp only [tu_bp]; split <;> omega) (by omega))
          ·
            refine tu_iload 48 X 1 dX4_cheapestPhrase_48 rfl ?_
            refine tu_goto 50 X 54 dX4_cheapestPhrase_50 (by decide) ?_
            refine tu_istore_n 54 X (lv' := [(3, tu_i (tu_nv (tu_co B l q))), (2, tu_i ((q : Nat) : Int)), (5, tu_i (tu_nv (tu_co B l q))), (0, tu_r 86), (1, tu_i ((l : Nat) : Int)), (4, tu_i ((q : Nat) : Int))]) dX4_cheapestPhrase_54 (by rw [hnl]; decide) rfl ?_
            refine tu_iinc 55 X (lv' := [(4, tu_i (((q : Nat) : Int) + 1)), (3, tu_i (tu_nv (tu_co B l q))), (2, tu_i ((q : Nat) : Int)), (5, tu_i (tu_nv (tu_co B l q))), (0, tu_r 86), (1, tu_i ((l : Nat) : Int))]) 5 dX4_cheapestPhrase_55 rfl (by rw [hnl]; decide) rfl ?_
            refine tu_goto 58 X 9 dX4_cheapestPhrase_58 (by decide) ?_
            refine tu_jmp [4, 5, 2, 1, 0] (lv' := [(0, tu_r 86), (1, tu_i ((l : Nat) : Int)), (2, tu_i ((tu_bp 1000000 (fun p => tu_co B l p) (q + 1)).1)), (3, tu_i (tu_nv (tu_bp 1000000 (fun p => tu_co B l p) (q + 1)).2)), (4, tu_i (((q + 1) : Nat) : Int))]) ⟨rfl, rfl, tu_ei (by first | rfl | (simp only [tu_bp]; split <;> first | rfl | (exfalso; omega))), tu_ei (by first | rfl | (simp only [tu_bp]; split <;> first | rfl | (exfalso; omega))), tu_ei (by first | rfl | omega), trivial⟩ rfl (ih9 (q + 1) r9_24 C_24 W_24 U_24 (by omega) (by exact ⟨h24_1.1.trans h9.1, h24_1.2.trans h9.2⟩) (by simp only [tu_bp]; split <;> omega) (by omega))
  refine tu_jmp [3, 4, 2, 1, 0] (lv' := [(0, tu_r 86), (1, tu_i ((l : Nat) : Int)), (2, tu_i ((tu_bp 1000000 (fun p => tu_co B l p) 0).1)), (3, tu_i (tu_nv (tu_bp 1000000 (fun p => tu_co B l p) 0).2)), (4, tu_i 0)]) ⟨rfl, rfl, tu_ei (by first | rfl | (simp only [tu_bp]; split <;> first | rfl | (exfalso; omega))), tu_ei (by first | rfl | (simp only [tu_bp]; split <;> first | rfl | (exfalso; omega))), rfl, trivial⟩ rfl (lp9 (((B 0 4).toNat - 0) + 1) 0 (M 86) (M 92) (M 93) (M 94) (by omega) (by exact ⟨rfl, rfl⟩) (by exact ⟨by show (0 : Int) ≤ 1000000; decide, Int.le_refl _⟩) (by omega))
