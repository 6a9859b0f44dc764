theorem tu_LM.turn {r0 a k : Nat → Int} {n m q : Nat} {br L0 : Int} (h : tu_LM r0 a k n m br) (hq : q < n) (hn : n ≤ 32) (ha : a q = 0 ∨ a q = 1) (e : L0 = br) : tu_LM (tu_u r0 11 (tu_xor (r0 11) (tu_shl 1 ((q : Nat) : Int)))) (tu_u a q (1 - a q)) k n m L0 :=
  ⟨⟨(tu_u_n _ _ (by decide)).trans h.1.1, by rw [tu_u_s]; exact h.1.2.flip hq hn ha⟩, ⟨(tu_u_n _ _ (by decide)).trans h.2.1.1, by rw [tu_u_n _ _ (by decide)]; exact h.2.1.2.1, by rw [tu_u_n _ _ (by decide)]; exact h.2.1.2.2⟩, (tu_u_n _ _ (by decide)).trans (h.2.2.trans e.symm)⟩
theorem tu_LM.back {r0 a k : Nat → Int} {n m q : Nat} {br : Int} (h : tu_LM r0 a k n m br) (hq : q < n) (hn : n ≤ 32) (ha : a q = 0 ∨ a q = 1) : tu_LM (tu_u (tu_u r0 11 (tu_xor (r0 11) (tu_shl 1 ((q : Nat) : Int)))) 11 (tu_xor (tu_u r0 11 (tu_xor (r0 11) (tu_shl 1 ((q : Nat) : Int))) 11) (tu_shl 1 ((q : Nat) : Int)))) a k n m br := by
  have h2 := (h.turn hq hn ha rfl).turn hq hn (by rw [tu_u_s]; omega) rfl
  refine ⟨⟨h2.1.1, h2.1.2.q (fun i hi => ?_)⟩, h2.2.1, h2.2.2⟩
  by_cases e : i = q
  · subst e; rw [tu_u_s, tu_u_s]; omega
  · rw [tu_u_n _ _ e, tu_u_n _ _ e]
theorem tu_exC {B : Nat → Nat → Int} {l p s : Nat} (hO : tu_BO B) (hl : (l : Int) < B 0 1) (hp : (p : Int) < B 0 4) (hs : s < tu_nl B l) : ∃ L r c : Nat → Int, L 0 = B 1 0 ∧ (L 1 = B 1 1 ∧ L 2 = B 1 2 ∧ L 3 = B 1 3) ∧ tu_LK L (tu_u (tu_al B l) s (1 - tu_al B l s)) (tu_kp B p) r (tu_nl B l) (tu_np B p) ∧ tu_Tx L (tu_u (tu_al B l) s (1 - tu_al B l s)) (tu_kp B p) r (tu_nl B l) (tu_np B p) c ∧ c 0 = tu_bc B l p s := by
  have h1 := hO.2.1 l hl
  have h2 := hO.2.2.2.1 p hp
  obtain ⟨s0, s1, s2, s3⟩ := hO.2.2.2.2.2.2.2
  have e1 : ((tu_nl B l : Nat) : Int) = B 2 l := by unfold tu_nl; omega
  have e2 : ((tu_np B p : Nat) : Int) = B 4 p := by unfold tu_np; omega
  have hal : ∀ t, t < tu_nl B l → tu_al B l t = 0 ∨ tu_al B l t = 1 := fun t ht => hO.2.2.1 l t hl (by omega)
  obtain ⟨r, c, hK, hT⟩ := tu_ex (L := fun i => if i = 4 then ((tu_nl B l : Nat) : Int) else if i = 5 then ((tu_np B p : Nat) : Int) else B 1 i) (a := tu_u (tu_al B l) s (1 - tu_al B l s)) (k := tu_kp B p) (n := tu_nl B l) (m := tu_np B p)
    ⟨⟨rfl, rfl⟩, by omega, by omega, s0, s1, s2, s3, fun b hb => hO.2.2.2.2.1 p b hp (by omega), fun t ht => by
      rw [tu_u_if]
      split
      · have := hal s hs; omega
      · exact hal t ht⟩
  exact ⟨fun i => if i = 4 then ((tu_nl B l : Nat) : Int) else if i = 5 then ((tu_np B p : Nat) : Int) else B 1 i, r, c, rfl, ⟨rfl, rfl, rfl⟩, hK, hT, by rw [hT.cx hK]; exact tu_cx_q rfl rfl rfl rfl (fun _ _ => rfl) (fun _ _ => rfl)⟩
theorem tu_exE {B : Nat → Nat → Int} {l p q : Nat} (hO : tu_BO B) (hl : (l : Int) < B 0 1) (hp : (p : Int) < B 0 4) (hq : q < 8) : ∃ L r c : Nat → Int, L 0 = (q : Int) + 1 ∧ (L 1 = B 1 1 ∧ L 2 = B 1 2 ∧ L 3 = B 1 3) ∧ tu_LK L (tu_al B l) (tu_kp B p) r (tu_nl B l) (tu_np B p) ∧ tu_Tx L (tu_al B l) (tu_kp B p) r (tu_nl B l) (tu_np B p) c ∧ c 0 = tu_eb B l p q := by
  have h1 := hO.2.1 l hl
  have h2 := hO.2.2.2.1 p hp
  obtain ⟨s0, s1, s2, s3⟩ := hO.2.2.2.2.2.2.2
  have e1 : ((tu_nl B l : Nat) : Int) = B 2 l := by unfold tu_nl; omega
  have e2 : ((tu_np B p : Nat) : Int) = B 4 p := by unfold tu_np; omega
  obtain ⟨r, c, hK, hT⟩ := tu_ex (L := fun i => if i = 4 then ((tu_nl B l : Nat) : Int) else if i = 5 then ((tu_np B p : Nat) : Int) else if i = 0 then (q : Int) + 1 else B 1 i) (a := tu_al B l) (k := tu_kp B p) (n := tu_nl B l) (m := tu_np B p)
    ⟨⟨rfl, rfl⟩, by omega, by omega, (show 1 ≤ (q : Int) + 1 ∧ (q : Int) + 1 ≤ 8 by omega), s1, s2, s3, fun b hb => hO.2.2.2.2.1 p b hp (by omega), fun t ht => hO.2.2.1 l t hl (by omega)⟩
  exact ⟨fun i => if i = 4 then ((tu_nl B l : Nat) : Int) else if i = 5 then ((tu_np B p : Nat) : Int) else if i = 0 then (q : Int) + 1 else B 1 i, r, c, rfl, ⟨rfl, rfl, rfl⟩, hK, hT, by rw [hT.cx hK]; exact tu_cx_q rfl rfl rfl rfl (fun _ _ => rfl) (fun _ _ => rfl)⟩
theorem tu_LM.br {r0 a k : Nat → Int} {n m : Nat} {br x y : Int} (h : tu_LM r0 a k n m br) (e : x = y) : tu_LM (tu_u r0 15 x) a k n m y :=
  ⟨⟨(tu_u_n _ _ (by decide)).trans h.1.1, by rw [tu_u_n _ _ (by decide)]; exact h.1.2⟩, ⟨(tu_u_n _ _ (by decide)).trans h.2.1.1, by rw [tu_u_n _ _ (by decide)]; exact h.2.1.2.1, by rw [tu_u_n _ _ (by decide)]; exact h.2.1.2.2⟩, by rw [tu_u_s]; exact e⟩
set_option maxRecDepth 20000 in
set_option maxHeartbeats 400000 in
theorem c_X4_bestChange {M : tu_M} (B : Nat → Nat → Int) (l p w : Int) (hO : tu_BO B) (hR : tu_MB B (M 87)) (rl : tu_rg l) (rp : tu_rg p) (rw : tu_rg w) : tu_MI tu_Y_X4_bestChange [tu_r 86, tu_i l, tu_i p, tu_i w] M (fun z M' => ∃ (y : Int), (tu_sd M M') ∧ (((¬ ((0 ≤ l ∧ l < B 0 1) ∧ 0 ≤ p ∧ p < B 0 4)) ∧ y = -1) ∨ ((((0 ≤ l ∧ l < B 0 1) ∧ 0 ≤ p ∧ p < B 0 4) ∧ ¬ (0 ≤ w ∧ w ≤ 1)) ∧ y = -2) ∨ ((((0 ≤ l ∧ l < B 0 1) ∧ 0 ≤ p ∧ p < B 0 4) ∧ 0 ≤ w ∧ w ≤ 1) ∧ y = if w = 0 ∨ (tu_bp 1000000 (fun x9 => tu_bc B l.toNat p.toNat x9) (B 2 l.toNat).toNat).1 = -6 then (tu_bp 1000000 (fun x9 => tu_bc B l.toNat p.toNat x9) (B 2 l.toNat).toNat).1 else (tu_bp 1000000 (fun x9 => tu_bc B l.toNat p.toNat x9) (B 2 l.toNat).toNat).2)) ∧ z = y) := by
  have cn := hO.1
  refine tu_MI.of (ty := .int) (by decide) rfl (by first | exact Or.inl rfl | exact Or.inr rfl) (Nat.le_of_ble_eq_true rfl) (fun T (X : tu_X T cX4_bestChange RX4 5 113) hnl hrt hret => ?_)
  have hret : tu_RI T cX4_bestChange (fun z M' => ∃ (y : Int), (tu_sd M M') ∧ (((¬ ((0 ≤ l ∧ l < B 0 1) ∧ 0 ≤ p ∧ p < B 0 4)) ∧ y = -1) ∨ ((((0 ≤ l ∧ l < B 0 1) ∧ 0 ≤ p ∧ p < B 0 4) ∧ ¬ (0 ≤ w ∧ w ≤ 1)) ∧ y = -2) ∨ ((((0 ≤ l ∧ l < B 0 1) ∧ 0 ≤ p ∧ p < B 0 4) ∧ 0 ≤ w ∧ w ≤ 1) ∧ y = if w = 0 ∨ (tu_bp 1000000 (fun x9 => tu_bc B l.toNat p.toNat x9) (B 2 l.toNat).toNat).1 = -6 then (tu_bp 1000000 (fun x9 => tu_bc B l.toNat p.toNat x9) (B 2 l.toNat).toNat).1 else (tu_bp 1000000 (fun x9 => tu_bc B l.toNat p.toNat x9) (B 2 l.toNat).toNat).2)) ∧ z = y) := hret
  have hnl : T.2.2.2.2.2.2.2.2.2.2.1 = 8 := hnl
  show tu_W T 0 [(0, tu_r 86), (1, tu_i l), (2, tu_i p), (3, tu_i w)] [] M
  refine tu_aload_n 0 X 0 dX4_bestChange_0 rfl ?_
  refine tu_iload_n 1 X 1 dX4_bestChange_1 rfl ?_
  refine tu_callVI 2 X (st := []) (as := [tu_i l]) (c_X4_isLine B l (show tu_BO B from by first | assumption | omega | exact ⟨by omega, by omega⟩ | decide) (show tu_MB B (M 87) from by first | assumption | omega | exact ⟨by omega, by omega⟩ | decide) (show tu_rg l from by first | assumption | omega | exact ⟨by omega, by omega⟩ | decide)) sv_RX4_52 dX4_bestChange_2 rfl (by decide) rfl rfl rfl (Nat.le_of_ble_eq_true rfl) ⟨by decide, by decide⟩ (fun z M' h => ?_)
  obtain ⟨hM2, hz2⟩ := h
  refine tu_st_eq rfl (M' := M) hM2 ?_
  refine tu_tp (b := tu_b (0 ≤ l ∧ l < B 0 1)) hz2 ?_
  refine tu_if_eq 5 X 16 dX4_bestChange_5 (by decide) tu_b_rg (fun br5 => ?_) (fun br5 => ?_)
  ·
    have br5 := tu_b_e0 br5
    refine tu_iconst 16 X dX4_bestChange_16 ?_
    refine hret 17 _ _ (-1) dX4_bestChange_17 (fun h => by rw [hrt] at h; cases h) ?_
    exact ⟨_, tu_sd.rf _, Or.inl (⟨by omega, rfl⟩), rfl⟩
  ·
    have br5 := tu_b_n0 br5
    refine tu_aload_n 8 X 0 dX4_bestChange_8 rfl ?_
    refine tu_iload_n 9 X 2 dX4_bestChange_9 rfl ?_
    refine tu_callVI 10 X (st := []) (as := [tu_i p]) (c_X4_isPhrase B p (show tu_BO B from by first | assumption | omega | exact ⟨by omega, by omega⟩ | decide) (show tu_MB B (M 87) from by first | assumption | omega | exact ⟨by omega, by omega⟩ | decide) (show tu_rg p from by first | assumption | omega | exact ⟨by omega, by omega⟩ | decide)) sv_RX4_60 dX4_bestChange_10 rfl (by decide) rfl rfl rfl (Nat.le_of_ble_eq_true rfl) ⟨by decide, by decide⟩ (fun z M' h => ?_)
    obtain ⟨hM10, hz10⟩ := h
    refine tu_st_eq rfl (M' := M) hM10 ?_
    refine tu_tp (b := tu_b (0 ≤ p ∧ p < B 0 4)) hz10 ?_
    refine tu_if_ne 13 X 18 dX4_bestChange_13 (by decide) tu_b_rg (fun br13 => ?_) (fun br13 => ?_)
    ·
      have br13 := tu_b_n0 br13
      refine tu_iload_n 18 X 3 dX4_bestChange_18 rfl ?_
      refine tu_iconst 19 X dX4_bestChange_19 ?_
      refine tu_iconst 20 X dX4_bestChange_20 ?_
      refine tu_callSI 21 X (st := []) (as := [tu_i w, tu_i 0, tu_i 1]) (c_X4_within w 0 1 (show tu_rg w from by first | assumption | omega | exact ⟨by omega, by omega⟩ | decide) (show tu_rg 0 from by first | assumption | omega | exact ⟨by omega, by omega⟩ | decide) (show tu_rg 1 from by first | assumption | omega | exact ⟨by omega, by omega⟩ | decide)) ss_RX4_48 dX4_bestChange_21 rfl (Nat.le_of_ble_eq_true rfl) ⟨by decide, by decide⟩ (fun z M' h => ?_)
      obtain ⟨hM21, hz21⟩ := h
      refine tu_st_eq rfl (M' := M) hM21 ?_
      refine tu_tp (b := tu_b (0 ≤ w ∧ w ≤ 1)) hz21 ?_
      refine tu_if_ne 24 X 30 dX4_bestChange_24 (by decide) tu_b_rg (fun br24 => ?_) (fun br24 => ?_)
      ·
        have br24 := tu_b_n0 br24
        have hnx := hO.2.1 l.toNat (by omega)
        have enl : (((tu_nl B l.toNat) : Nat) : Int) = B 2 l.toNat := by unfold tu_nl; omega
        refine tu_aload_n 30 X 0 dX4_bestChange_30 rfl ?_
        refine tu_iload_n 31 X 1 dX4_bestChange_31 rfl ?_
        refine tu_iload_n 32 X 2 dX4_bestChange_32 rfl ?_
        refine tu_st_eq (show _ = [tu_i ((p.toNat : Nat) : Int), tu_i ((l.toNat : Nat) : Int), tu_r 86] from by first | rfl | (simp only [List.cons.injEq, Sum.inl.injEq, and_true, true_and]; omega)) rfl ?_
        refine tu_callVV 33 X (st := []) (as := [tu_i ((l.toNat : Nat) : Int), tu_i ((p.toNat : Nat) : Int)]) (c_X4_look B l.toNat p.toNat (show tu_BO B from by first | assumption | omega | exact ⟨by omega, by omega⟩ | decide) (show tu_MB B (M 87) from by first | assumption | omega | exact ⟨by omega, by omega⟩ | decide) (show (l.toNat : Int) < B 0 1 from by first | assumption | omega | exact ⟨by omega, by omega⟩ | decide) (show (p.toNat : Int) < B 0 4 from by first | assumption | omega | exact ⟨by omega, by omega⟩ | decide)) sv_RX4_115 dX4_bestChange_33 rfl (by decide) rfl rfl rfl (Nat.le_of_ble_eq_true rfl) ⟨by decide, by decide⟩ (fun M' h => ?_)
        obtain ⟨r9_33, hM33, h33_0, h33_1⟩ := h
        refine tu_st_eq rfl (M' := tu_row M 86 r9_33) hM33 ?_
        refine tu_bipush 36 X dX4_bestChange_36 (by decide) ?_
        refine tu_istore 38 X (lv' := [(4, tu_i (-6)), (0, tu_r 86), (1, tu_i l), (2, tu_i p), (3, tu_i w)]) dX4_bestChange_38 (by rw [hnl]; decide) rfl ?_
        refine tu_ldc 40 X (n := 1000000000) dX4_bestChange_40 kw_RX4_88 (by decide) ?_
        refine tu_istore 42 X (lv' := [(5, tu_i 1000000000), (4, tu_i (-6)), (0, tu_r 86), (1, tu_i l), (2, tu_i p), (3, tu_i w)]) dX4_bestChange_42 (by rw [hnl]; decide) rfl ?_
        refine tu_iconst 44 X dX4_bestChange_44 ?_
        refine tu_istore 45 X (lv' := [(6, tu_i 0), (5, tu_i 1000000000), (4, tu_i (-6)), (0, tu_r 86), (1, tu_i l), (2, tu_i p), (3, tu_i w)]) dX4_bestChange_45 (by rw [hnl]; decide) rfl ?_
        refine tu_st_eq rfl (M' := tu_row (tu_row M 86 r9_33) 92 (M 92)) ((congrArg (fun m => tu_row m 86 r9_33) ((tu_rx M 92).symm)).trans (tu_rc M (M 92) r9_33 rfl)) ?_
        refine tu_st_eq rfl (M' := tu_row (tu_row (tu_row M 86 r9_33) 92 (M 92)) 93 (M 93)) ((congrArg (fun m => tu_row m 92 (M 92)) ((congrArg (fun m => tu_row m 86 r9_33) ((tu_rx M 93).symm)).trans (tu_rc M (M 93) r9_33 rfl))).trans (tu_rc (tu_row M 86 r9_33) (M 93) (M 92) rfl)) ?_
        refine tu_st_eq rfl (M' := tu_row (tu_row (tu_row (tu_row M 86 r9_33) 92 (M 92)) 93 (M 93)) 94 (M 94)) ((congrArg (fun m => tu_row m 93 (M 93)) ((congrArg (fun m => tu_row m 92 (M 92)) ((congrArg (fun m => tu_row m 86 r9_33) ((tu_rx M 94).symm)).trans (tu_rc M (M 94) r9_33 rfl))).trans (tu_rc (tu_row M 86 r9_33) (M 94) (M 92) rfl))).trans (tu_rc (tu_row (tu_row M 86 r9_33) 92 (M 92)) (M 94) (M 93) rfl)) ?_
        have lp47 : ∀ (nq : Nat) (q : Nat) (r9 : Nat → Int) (C : Nat → Int) (W : Nat → Int) (U : Nat → Int), (q ≤ (tu_nl B l.toNat)) → (tu_LM r9 (tu_al B l.toNat) (tu_kp B p.toNat) (tu_nl B l.toNat) (tu_np B p.toNat) (B 1 0)) → (r9 2 = M 86 2 ∧ r9 6 = M 86 6) → (0 ≤ (tu_bp 1000000 (fun x9 => tu_bc B l.toNat p.toNat x9) q).2 ∧ (tu_bp 1000000 (fun x9 => tu_bc B l.toNat p.toNat x9) q).2 ≤ 1000000) → (-6 ≤ (tu_bp 1000000 (fun x9 => tu_bc B l.toNat p.toNat x9) q).1 ∧ (tu_bp 1000000 (fun x9 => tu_bc B l.toNat p.toNat x9) q).1 ≤ q ∧ ((tu_bp 1000000 (fun x9 => tu_bc B l.toNat p.toNat x9) q).1 ≠ -6 → (tu_bp 1000000 (fun x9 => tu_bc B l.toNat p.toNat x9) q).2 < 1000000)) → (tu_nl B l.toNat) - q < nq → tu_W T 47 [(0, tu_r 86), (1, tu_i l), (2, tu_i p), (3, tu_i w), (4, tu_i ((tu_bp 1000000 (fun x9 => tu_bc B l.toNat p.toNat x9) q).1)), (5, tu_i (tu_nv (tu_bp 1000000 (fun x9 => tu_bc B l.toNat p.toNat x9) q).2)), (6, tu_i ((q : Nat) : Int))] [] (tu_row (tu_row (tu_row (tu_row M 86 r9) 92 C) 93 W) 94 U) := by
          intro nq
          induction nq with
          | zero => intros; omega
          | succ nq ih47 =>
            intro q r9 C W U hq hM9 h9 hb hb1 hn47
            refine tu_iload 47 X 6 dX4_bestChange_47 rfl ?_
            refine tu_aload_n 49 X 0 dX4_bestChange_49 rfl ?_
            refine tu_getI 50 X (x := r9 10) dX4_bestChange_50 fl_RX4_66 (by decide) rfl rfl rfl ?_
            refine tu_tp (b := (((tu_nl B l.toNat) : Nat) : Int)) (by exact hM9.1.1) ?_
            refine tu_icmp_ge 53 X 126 dX4_bestChange_53 (by decide) (show tu_rg ((q : Nat) : Int) from by first | assumption | exact ⟨by omega, by omega⟩) (show tu_rg (((tu_nl B l.toNat) : Nat) : Int) from by first | assumption | exact ⟨by omega, by omega⟩) (fun br53 => ?_) (fun br53 => ?_)
            ·
              refine tu_iload 126 X 4 dX4_bestChange_126 rfl ?_
              refine tu_bipush 128 X dX4_bestChange_128 (by decide) ?_
              refine tu_icmp_eq 130 X 137 dX4_bestChange_130 (by decide) (show tu_rg ((tu_bp 1000000 (fun x9 => tu_bc B l.toNat p.toNat x9) q).1) from by first | assumption | exact ⟨by omega, by omega⟩) ⟨by decide, by decide⟩ (fun br130 => ?_) (fun br130 => ?_)
              ·
                refine tu_iload 137 X 4 dX4_bestChange_137 rfl ?_
                refine tu_goto 139 X 144 dX4_bestChange_139 (by decide) ?_
                refine hret 144 _ _ ((tu_bp 1000000 (fun x9 => tu_bc B l.toNat p.toNat x9) q).1) dX4_bestChange_144 (fun h => by rw [hrt] at h; cases h) ?_
                have eq2 : (B 2 l.toNat).toNat = q := by have e : tu_nl B l.toNat = (B 2 l.toNat).toNat := rfl; omega
                refine ⟨_, ((((tu_sd.rf _).r86 h9).row _ (by decide)).row _ (by decide)).row _ (by decide), Or.inr (Or.inr ⟨by omega, ?_⟩), rfl⟩
                rw [eq2]
                first | (rw [if_pos (by omega)]; done) | (rw [if_neg (by omega)]; exact tu_nv_lo (by omega))
              ·
                refine tu_iload_n 133 X 3 dX4_bestChange_133 rfl ?_
                refine tu_if_ne 134 X 142 dX4_bestChange_134 (by decide) (show tu_rg w from by first | assumption | exact ⟨by omega, by omega⟩) (fun br134 => ?_) (fun br134 => ?_)
                ·
                  refine tu_iload 142 X 5 dX4_bestChange_142 rfl ?_
                  refine hret 144 _ _ (tu_nv (tu_bp 1000000 (fun x9 => tu_bc B l.toNat p.toNat x9) q).2) dX4_bestChange_144 (fun h => by rw [hrt] at h; cases h) ?_
                  have eq2 : (B 2 l.toNat).toNat = q := by have e : tu_nl B l.toNat = (B 2 l.toNat).toNat := rfl; omega
                  refine ⟨_, ((((tu_sd.rf _).r86 h9).row _ (by decide)).row _ (by decide)).row _ (by decide), Or.inr (Or.inr ⟨by omega, ?_⟩), rfl⟩
                  rw [eq2]
                  first | (rw [if_pos (by omega)]; done) | (rw [if_neg (by omega)]; exact tu_nv_lo (by omega))
                ·
                  refine tu_iload 137 X 4 dX4_bestChange_137 rfl ?_
                  refine tu_goto 139 X 144 dX4_bestChange_139 (by decide) ?_
                  refine hret 144 _ _ ((tu_bp 1000000 (fun x9 => tu_bc B l.toNat p.toNat x9) q).1) dX4_bestChange_144 (fun h => by rw [hrt] at h; cases h) ?_
                  have eq2 : (B 2 l.toNat).toNat = q := by have e : tu_nl B l.toNat = (B 2 l.toNat).toNat := rfl; omega
                  refine ⟨_, ((((tu_sd.rf _).r86 h9).row _ (by decide)).row _ (by decide)).row _ (by decide), Or.inr (Or.inr ⟨by omega, ?_⟩), rfl⟩
                  rw [eq2]
                  first | (rw [if_pos (by omega)]; done) | (rw [if_neg (by omega)]; exact tu_nv_lo (by omega))
            ·
              have hq9 : q < (tu_nl B l.toNat) := by omega
              have haq := hO.2.2.1 l.toNat q (by omega) (by omega)
              obtain ⟨L, r, c, hL0, hst0, hK, hT, ec⟩ := tu_exC hO (l := l.toNat) (p := p.toNat) (by omega) (by omega) hq9
              have ecr := hT.rg hK
              rw [ec] at ecr
              have bz := tu_nv_rg ecr.1
              have hlt := tu_nv_lt (x := tu_bc B l.toNat p.toNat q) (y := (tu_bp 1000000 (fun x9 => tu_bc B l.toNat p.toNat x9) q).2) ecr.2 hb.2
              have bz4 := tu_nv_rg hb.1
              have hst : M 87 1 = L 1 ∧ M 87 2 = L 2 ∧ M 87 3 = L 3 := ⟨(hR.set 1 (by decide)).trans hst0.1.symm, (hR.set 2 (by decide)).trans hst0.2.1.symm, (hR.set 3 (by decide)).trans hst0.2.2.symm⟩
              refine tu_aload_n 56 X 0 dX4_bestChange_56 rfl ?_
              refine tu_dup 57 X dX4_bestChange_57 rfl ?_
              refine tu_getI 58 X (x := r9 11) dX4_bestChange_58 fl_RX4_69 (by decide) rfl rfl rfl ?_
              refine tu_iconst 61 X dX4_bestChange_61 ?_
              refine tu_iload 62 X 6 dX4_bestChange_62 rfl ?_
              refine tu_ishl 64 X dX4_bestChange_64 ?_
              refine tu_ixor 65 X dX4_bestChange_65 ?_
              refine tu_putI 66 X (M' := tu_row (tu_row (tu_row (tu_row M 86 (tu_u r9 11 (tu_xor (r9 11) (tu_shl 1 ((q : Nat) : Int))))) 92 C) 93 W) 94 U) dX4_bestChange_66 fp_RX4_69 (by decide) rfl rfl ((tu_rc (tu_row (tu_row (tu_row M 86 r9) 92 C) 93 W) U (tu_u r9 11 (tu_xor (r9 11) (tu_shl 1 ((q : Nat) : Int)))) rfl).trans (congrArg (fun m => tu_row m 94 U) ((tu_rc (tu_row (tu_row M 86 r9) 92 C) W (tu_u r9 11 (tu_xor (r9 11) (tu_shl 1 ((q : Nat) : Int)))) rfl).trans (congrArg (fun m => tu_row m 93 W) ((tu_rc (tu_row M 86 r9) C (tu_u r9 11 (tu_xor (r9 11) (tu_shl 1 ((q : Nat) : Int)))) rfl).trans (congrArg (fun m => tu_row m 92 C) (tu_rr M 86 r9 (tu_u r9 11 (tu_xor (r9 11) (tu_shl 1 ((q : Nat) : Int))))))))))) ?_
              refine tu_aload_n 69 X 0 dX4_bestChange_69 rfl ?_
              refine tu_callVI 70 X (st := []) (as := []) (c_X4_findCost L (tu_u (tu_al B l.toNat) q (1 - tu_al B l.toNat q)) (tu_kp B p.toNat) r (tu_nl B l.toNat) (tu_np B p.toNat) c (show tu_LM ((tu_u r9 11 (tu_xor (r9 11) (tu_shl 1 ((q : Nat) : Int))))) (tu_u (tu_al B l.toNat) q (1 - tu_al B l.toNat q)) (tu_kp B p.toNat) (tu_nl B l.toNat) (tu_np B p.toNat) (L 0) from by exact tu_LM.turn hM9 hq9 (by omega) haq hL0) (show M 87 1 = L 1 ∧ M 87 2 = L 2 ∧ M 87 3 = L 3 from by exact hst) (show tu_LK L (tu_u (tu_al B l.toNat) q (1 - tu_al B l.toNat q)) (tu_kp B p.toNat) r (tu_nl B l.toNat) (tu_np B p.toNat) from by exact hK) (show tu_Tx L (tu_u (tu_al B l.toNat) q (1 - tu_al B l.toNat q)) (tu_kp B p.toNat) r (tu_nl B l.toNat) (tu_np B p.toNat) c from by exact hT)) sv_RX4_118 dX4_bestChange_70 rfl (by decide) rfl rfl rfl (Nat.le_of_ble_eq_true rfl) ⟨by decide, by decide⟩ (fun z M' h => ?_)
              obtain ⟨C_70, W_70, U_70, hM70, h70_0, hz70⟩ := h
              refine tu_st_eq rfl (M' := tu_row (tu_row (tu_row (tu_row M 86 (tu_u r9 11 (tu_xor (r9 11) (tu_shl 1 ((q : Nat) : Int))))) 92 C_70) 93 W_70) 94 U_70) (hM70.trans ((congrArg (fun m => tu_row m 94 U_70) ((congrArg (fun m => tu_row m 93 W_70) ((tu_rc (tu_row (tu_row (tu_row M 86 (tu_u r9 11 (tu_xor (r9 11) (tu_shl 1 ((q : Nat) : Int))))) 92 C) 93 W) U C_70 rfl).trans (congrArg (fun m => tu_row m 94 U) ((tu_rc (tu_row (tu_row M 86 (tu_u r9 11 (tu_xor (r9 11) (tu_shl 1 ((q : Nat) : Int))))) 92 C) W C_70 rfl).trans (congrArg (fun m => tu_row m 93 W) (tu_rr (tu_row M 86 (tu_u r9 11 (tu_xor (r9 11) (tu_shl 1 ((q : Nat) : Int))))) 92 C C_70)))))).trans ((tu_rc (tu_row (tu_row (tu_row M 86 (tu_u r9 11 (tu_xor (r9 11) (tu_shl 1 ((q : Nat) : Int))))) 92 C_70) 93 W) U W_70 rfl).trans (congrArg (fun m => tu_row m 94 U) (tu_rr (tu_row (tu_row M 86 (tu_u r9 11 (tu_xor (r9 11) (tu_shl 1 ((q : Nat) : Int))))) 92 C_70) 93 W W_70))))).trans (tu_rr (tu_row (tu_row (tu_row M 86 (tu_u r9 11 (tu_xor (r9 11) (tu_shl 1 ((q : Nat) : Int))))) 92 C_70) 93 W_70) 94 U U_70))) ?_
              refine tu_tp (b := (tu_nv (c 0))) hz70 ?_
              refine tu_tp (b := (tu_nv (tu_bc B l.toNat p.toNat q))) (by rw [ec]) ?_
              refine tu_istore 73 X (lv' := [(7, tu_i (tu_nv (tu_bc B l.toNat p.toNat q))), (0, tu_r 86), (1, tu_i l), (2, tu_i p), (3, tu_i w), (4, tu_i ((tu_bp 1000000 (fun x9 => tu_bc B l.toNat p.toNat x9) q).1)), (5, tu_i (tu_nv (tu_bp 1000000 (fun x9 => tu_bc B l.toNat p.toNat x9) q).2)), (6, tu_i ((q : Nat) : Int))]) dX4_bestChange_73 (by rw [hnl]; decide) rfl ?_
              refine tu_aload_n 75 X 1 dX4_bestChange_75 rfl ?_
              refine tu_dup 76 X dX4_bestChange_76 rfl ?_
              refine tu_getI 77 X (x := (tu_u r9 11 (tu_xor (r9 11) (tu_shl 1 ((q : Nat) : Int)))) 11) dX4_bestChange_77 fl_RX4_69 (by decide) rfl rfl rfl ?_
              refine tu_iconst 80 X dX4_bestChange_80 ?_
              refine tu_iload 81 X 7 dX4_bestChange_81 rfl ?_
              refine tu_ishl 83 X dX4_bestChange_83 ?_
              refine tu_ixor 84 X dX4_bestChange_84 ?_
              refine tu_putI 85 X (M' := tu_row (tu_row (tu_row (tu_row M 86 (tu_u (tu_u r9 11 (tu_xor (r9 11) (tu_shl 1 ((q : Nat) : Int)))) 11 (tu_xor ((tu_u r9 11 (tu_xor (r9 11) (tu_shl 1 ((q : Nat) : Int)))) 11) (tu_shl 1 ((q : Nat) : Int))))) 92 C_70) 93 W_70) 94 U_70) dX4_bestChange_85 fp_RX4_69 (by decide) rfl rfl ((tu_rc (tu_row (tu_row (tu_row M 86 (tu_u r9 11 (tu_xor (r9 11) (tu_shl 1 ((q : Nat) : Int))))) 92 C_70) 93 W_70) U_70 (tu_u (tu_u r9 11 (tu_xor (r9 11) (tu_shl 1 ((q : Nat) : Int)))) 11 (tu_xor ((tu_u r9 11 (tu_xor (r9 11) (tu_shl 1 ((q : Nat) : Int)))) 11) (tu_shl 1 ((q : Nat) : Int)))) rfl).trans (congrArg (fun m => tu_row m 94 U_70) ((tu_rc (tu_row (tu_row M 86 (tu_u r9 11 (tu_xor (r9 11) (tu_shl 1 ((q : Nat) : Int))))) 92 C_70) W_70 (tu_u (tu_u r9 11 (tu_xor (r9 11) (tu_shl 1 ((q : Nat) : Int)))) 11 (tu_xor ((tu_u r9 11 (tu_xor (r9 11) (tu_shl 1 ((q : Nat) : Int)))) 11) (tu_shl 1 ((q : Nat) : Int)))) rfl).trans (congrArg (fun m => tu_row m 93 W_70) ((tu_rc (tu_row M 86 (tu_u r9 11 (tu_xor (r9 11) (tu_shl 1 ((q : Nat) : Int))))) C_70 (tu_u (tu_u r9 11 (tu_xor (r9 11) (tu_shl 1 ((q : Nat) : Int)))) 11 (tu_xor ((tu_u r9 11 (tu_xor (r9 11) (tu_shl 1 ((q : Nat) : Int)))) 11) (tu_shl 1 ((q : Nat) : Int)))) rfl).trans (congrArg (fun m => tu_row m 92 C_70) (tu_rr M 86 (tu_u r9 11 (tu_xor (r9 11) (tu_shl 1 ((q : Nat) : Int)))) (tu_u (tu_u r9 11 (tu_xor (r9 11) (tu_shl 1 ((q : Nat) : Int)))) 11 (tu_xor ((tu_u r9 11 (tu_xor (r9 11) (tu_shl 1 ((q : Nat) : Int)))) 11) (tu_shl 1 ((q : Nat) : Int))))))))))) ?_
              refine tu_iload 88 X 0 dX4_bestChange_88 rfl ?_
              refine tu_iload 90 X 6 dX4_bestChange_90 rfl ?_
              refine tu_icmp_ge 92 X 100 dX4_bestChange_92 (by decide) (show tu_rg (tu_nv (tu_bc B l.toNat p.toNat q)) from by first | assumption | exact ⟨by omega, by omega⟩) (show tu_rg (tu_nv (tu_bp 1000000 (fun x9 => tu_bc B l.toNat p.toNat x9) q).2) from by first | assumption | exact ⟨by omega, by omega⟩) (fun br92 => ?_) (fun br92 => ?_)
              ·
                refine tu_iload 100 X 5 dX4_bestChange_100 rfl ?_
                refine tu_istore 102 X (lv' := [(4, tu_i ((tu_bp 1000000 (fun x9 => tu_bc B l.toNat p.toNat x9) q).1)), (7, tu_i (tu_nv (tu_bc B l.toNat p.toNat q))), (0, tu_r 86), (1, tu_i l), (2, tu_i p), (3, tu_i w), (5, tu_i (tu_nv (tu_bp 1000000 (fun x9 => tu_bc B l.toNat p.toNat x9) q).2)), (6, tu_i ((q : Nat) : Int))]) dX4_bestChange_102 (by rw [hnl]; decide) rfl ?_
                refine tu_iload 104 X 1 dX4_bestChange_104 rfl ?_
                refine tu_iload 106 X 6 dX4_bestChange_106 rfl ?_
                refine tu_icmp_ge 108 X 116 dX4_bestChange_108 (by decide) (show tu_rg (tu_nv (tu_bc B l.toNat p.toNat q)) from by first | assumption | exact ⟨by omega, by omega⟩) (show tu_rg (tu_nv (tu_bp 1000000 (fun x9 => tu_bc B l.toNat p.toNat x9) q).2) from by first | assumption | exact ⟨by omega, by omega⟩) (fun br108 => ?_) (fun br108 => ?_)
                ·
                  refine tu_iload 116 X 6 dX4_bestChange_116 rfl ?_
                  refine tu_istore 118 X (lv' := [(5, tu_i (tu_nv (tu_bp 1000000 (fun x9 => tu_bc B l.toNat p.toNat x9) q).2)), (4, tu_i ((tu_bp 1000000 (fun x9 => tu_bc B l.toNat p.toNat x9) q).1)), (7, tu_i (tu_nv (tu_bc B l.toNat p.toNat q))), (0, tu_r 86), (1, tu_i l), (2, tu_i p), (3, tu_i w), (6, tu_i ((q : Nat) : Int))]) dX4_bestChange_118 (by rw [hnl]; decide) rfl ?_
                  refine tu_iinc 120 X (lv' := [(6, tu_i (((q : Nat) : Int) + 1)), (5, tu_i (tu_nv (tu_bp 1000000 (fun x9 => tu_bc B l.toNat p.toNat x9) q).2)), (4, tu_i ((tu_bp 1000000 (fun x9 => tu_bc B l.toNat p.toNat x9) q).1)), (7, tu_i (tu_nv (tu_bc B l.toNat p.toNat q))), (0, tu_r 86), (1, tu_i l), (2, tu_i p), (3, tu_i w)]) 7 dX4_bestChange_120 rfl (by rw [hnl]; decide) rfl ?_
                  refine tu_goto 123 X 47 dX4_bestChange_123 (by decide) ?_
                  refine tu_jmp [4, 5, 6, 7, 2, 1, 0] (lv' := [(0, tu_r 86), (1, tu_i l), (2, tu_i p), (3, tu_i w), (4, tu_i ((tu_bp 1000000 (fun x9 => tu_bc B l.toNat p.toNat x9) (q + 1)).1)), (5, tu_i (tu_nv (tu_bp 1000000 (fun x9 => tu_bc B l.toNat p.toNat x9) (q + 1)).2)), (6, tu_i (((q + 1) : Nat) : Int))]) ⟨rfl, rfl, rfl, rfl, tu_ei (by first | rfl | (simp only [tu_bp]; split <;> first | rfl | (exfalso; omega))), tu_ei (by first | rfl | (simp only [tu_bp]; split <;> first | rfl | (exfalso; omega))), tu_ei (by first | rfl | omega), trivial⟩ rfl (ih47 (q + 1) (tu_u (tu_u r9 11 (tu_xor (r9 11) (tu_shl 1 ((q : Nat) : Int)))) 11 (tu_xor ((tu_u r9 11 (tu_xor (r9 11) (tu_shl 1 ((q : Nat) : Int)))) 11) (tu_shl 1 ((q : Nat) : Int)))) C_70 W_70 U_70 (by omega) (by exact tu_LM.back hM9 hq9 (by omega) haq) (by exact ⟨(tu_u_n _ _ (by decide)).trans ((tu_u_n _ _ (by decide)).trans h9.1), (tu_u_n _ _ (by decide)).trans ((tu_u_n _ _ (by decide)).trans h9.2)⟩) (by simp only [tu_bp]; split <;> omega) (by simp only [tu_bp]; split <;> omega) (by omega))
                ·
                  refine tu_iload 111 X 1 dX4_bestChange_111 rfl ?_
                  refine tu_goto 113 X 118 dX4_bestChange_113 (by decide) ?_
                  refine tu_istore 118 X (lv' := [(5, tu_i (tu_nv (tu_bc B l.toNat p.toNat q))), (4, tu_i ((tu_bp 1000000 (fun x9 => tu_bc B l.toNat p.toNat x9) q).1)), (7, tu_i (tu_nv (tu_bc B l.toNat p.toNat q))), (0, tu_r 86), (1, tu_i l), (2, tu_i p), (3, tu_i w), (6, tu_i ((q : Nat) : Int))]) dX4_bestChange_118 (by rw [hnl]; decide) rfl ?_
                  refine tu_iinc 120 X (lv' := [(6, tu_i (((q : Nat) : Int) + 1)), (5, tu_i (tu_nv (tu_bc B l.toNat p.toNat q))), (4, tu_i ((tu_bp 1000000 (fun x9 => tu_bc B l.toNat p.toNat x9) q).1)), (7, tu_i (tu_nv (tu_bc B l.toNat p.toNat q))), (0, tu_r 86), (1, tu_i l), (2, tu_i p), (3, tu_i w)]) 7 dX4_bestChange_120 rfl (by rw [hnl]; decide) rfl ?_
                  refine tu_goto 123 X 47 dX4_bestChange_123 (by decide) ?_
                  refine tu_jmp [4, 5, 6, 7, 2, 1, 0] (lv' := [(0, tu_r 86), (1, tu_i l), (2, tu_i p), (3, tu_i w), (4, tu_i ((tu_bp 1000000 (fun x9 => tu_bc B l.toNat p.toNat x9) (q + 1)).1)), (5, tu_i (tu_nv (tu_bp 1000000 (fun x9 => tu_bc B l.toNat p.toNat x9) (q + 1)).2)), (6, tu_i (((q + 1) : Nat) : Int))]) ⟨rfl, rfl, rfl, rfl, tu_ei (by first | rfl | (simp only [tu_bp]; split <;> first | rfl | (exfalso; omega))), tu_ei (by first | rfl | (simp only [tu_bp]; split <;> first | rfl | (exfalso; omega))), tu_ei (by first | rfl | omega), trivial⟩ rfl (ih47 (q + 1) (tu_u (tu_u r9 11 (tu_xor (r9 11) (tu_shl 1 ((q : Nat) : Int)))) 11 (tu_xor ((tu_u r9 11 (tu_xor (r9 11) (tu_shl 1 ((q : Nat) : Int)))) 11) (tu_shl 1 ((q : Nat) : Int)))) C_70 W_70 U_70 (by omega) (by exact tu_LM.back hM9 hq9 (by omega) haq) (by exact ⟨(tu_u_n _ _ (by decide)).trans ((tu_u_n _ _ (by decide)).trans h9.1), (tu_u_n _ _ (by decide)).trans ((tu_u_n _ _ (by decide)).trans h9.2)⟩) (by simp only [tu_bp]; split <;> omega) (by simp only [tu_bp]; split <;> omega) (by omega))
              ·
                refine tu_iload 95 X 7 dX4_bestChange_95 rfl ?_
                refine tu_goto 97 X 102 dX4_bestChange_97 (by decide) ?_
                refine tu_istore 102 X (lv' := [(4, tu_i ((q : Nat) : Int)), (7, tu_i (tu_nv (tu_bc B l.toNat p.toNat q))), (0, tu_r 86), (1, tu_i l), (2, tu_i p), (3, tu_i w), (5, tu_i (tu_nv (tu_bp 1000000 (fun x9 => tu_bc B l.toNat p.toNat x9) q).2)), (6, tu_i ((q : Nat) : Int))]) dX4_bestChange_102 (by rw [hnl]; decide) rfl ?_
                refine tu_iload 104 X 1 dX4_bestChange_104 rfl ?_
                refine tu_iload 106 X 6 dX4_bestChange_106 rfl ?_
                refine tu_icmp_ge 108 X 116 dX4_bestChange_108 (by decide) (show tu_rg (tu_nv (tu_bc B l.toNat p.toNat q)) from by first | assumption | exact ⟨by omega, by omega⟩) (show tu_rg (tu_nv (tu_bp 1000000 (fun x9 => tu_bc B l.toNat p.toNat x9) q).2) from by first | assumption | exact ⟨by omega, by omega⟩) (fun br108 => ?_) (fun br108 => ?_)
                ·
                  refine tu_iload 116 X 6 dX4_bestChange_116 rfl ?_
                  refine tu_istore 118 X (lv' := [(5, tu_i (tu_nv (tu_bp 1000000 (fun x9 => tu_bc B l.toNat p.toNat x9) q).2)), (4, tu_i ((q : Nat) : Int)), (7, tu_i (tu_nv (tu_bc B l.toNat p.toNat q))), (0, tu_r 86), (1, tu_i l), (2, tu_i p), (3, tu_i w), (6, tu_i ((q : Nat) : Int))]) dX4_bestChange_118 (by rw [hnl]; decide) rfl ?_
                  refine tu_iinc 120 X (lv' := [(6, tu_i (((q : Nat) : Int) + 1)), (5, tu_i (tu_nv (tu_bp 1000000 (fun x9 => tu_bc B l.toNat p.toNat x9) q).2)), (4, tu_i ((q : Nat) : Int)), (7, tu_i (tu_nv (tu_bc B l.toNat p.toNat q))), (0, tu_r 86), (1, tu_i l), (2, tu_i p), (3, tu_i w)]) 7 dX4_bestChange_120 rfl (by rw [hnl]; decide) rfl ?_
                  refine tu_goto 123 X 47 dX4_bestChange_123 (by decide) ?_
                  refine tu_jmp [4, 5, 6, 7, 2, 1, 0] (lv' := [(0, tu_r 86), (1, tu_i l), (2, tu_i p), (3, tu_i w), (4, tu_i ((tu_bp 1000000 (fun x9 => tu_bc B l.toNat p.toNat x9) (q + 1)).1)), (5, tu_i (tu_nv (tu_bp 1000000 (fun x9 => tu_bc B l.toNat p.toNat x9) (q + 1)).2)), (6, tu_i (((q + 1) : Nat) : Int))]) ⟨rfl, rfl, rfl, rfl, tu_ei (by first | rfl | (simp only [tu_bp]; split <;> first | rfl | (exfalso; omega))), tu_ei (by first | rfl | (simp only [tu_bp]; split <;> first | rfl | (exfalso; omega))), tu_ei (by first | rfl | omega), trivial⟩ rfl (ih47 (q + 1) (tu_u (tu_u r9 11 (tu_xor (r9 11) (tu_shl 1 ((q : Nat) : Int)))) 11 (tu_xor ((tu_u r9 11 (tu_xor (r9 11) (tu_shl 1 ((q : Nat) : Int)))) 11) (tu_shl 1 ((q : Nat) : Int)))) C_70 W_70 U_70 (by omega) (by exact tu_LM.back hM9 hq9 (by omega) haq) (by exact ⟨(tu_u_n _ _ (by decide)).trans ((tu_u_n _ _ (by decide)).trans h9.1), (tu_u_n _ _ (by decide)).trans ((tu_u_n _ _ (by decide)).trans h9.2)⟩) (by simp only [tu_bp]; split <;> omega) (by simp only [tu_bp]; split <;> omega) (by omega))
                ·
                  refine tu_iload 111 X 1 dX4_bestChange_111 rfl ?_
                  refine tu_goto 113 X 118 dX4_bestChange_113 (by decide) ?_
                  refine tu_istore 118 X (lv' := [(5, tu_i (tu_nv (tu_bc B l.toNat p.toNat q))), (4, tu_i ((q : Nat) : Int)), (7, tu_i (tu_nv (tu_bc B l.toNat p.toNat q))), (0, tu_r 86), (1, tu_i l), (2, tu_i p), (3, tu_i w), (6, tu_i ((q : Nat) : Int))]) dX4_bestChange_118 (by rw [hnl]; decide) rfl ?_
                  refine tu_iinc 120 X (lv' := [(6, tu_i (((q : Nat) : Int) + 1)), (5, tu_i (tu_nv (tu_bc B l.toNat p.toNat q))), (4, tu_i ((q : Nat) : Int)), (7, tu_i (tu_nv (tu_bc B l.toNat p.toNat q))), (0, tu_r 86), (1, tu_i l), (2, tu_i p), (3, tu_i w)]) 7 dX4_bestChange_120 rfl (by rw [hnl]; decide) rfl ?_
                  refine tu_goto 123 X 47 dX4_bestChange_123 (by decide) ?_
                  refine tu_jmp [4, 5, 6, 7, 2, 1, 0] (lv' := [(0, tu_r 86), (1, tu_i l), (2, tu_i p), (3, tu_i w), (4, tu_i ((tu_bp 1000000 (fun x9 => tu_bc B l.toNat p.toNat x9) (q + 1)).1)), (5, tu_i (tu_nv (tu_bp 1000000 (fun x9 => tu_bc B l.toNat p.toNat x9) (q + 1)).2)), (6, tu_i (((q + 1) : Nat) : Int))]) ⟨rfl, rfl, rfl, rfl, tu_ei (by first | rfl | (simp only [tu_bp]; split <;> first | rfl | (exfalso; omega))), tu_ei (by first | rfl | (simp only [tu_bp]; split <;> first | rfl | (exfalso; omega))), tu_ei (by first | rfl | omega), trivial⟩ rfl (ih47 (q + 1) (tu_u (tu_u r9 11 (tu_xor (r9 11) (tu_shl 1 ((q : Nat) : Int)))) 11 (tu_xor ((tu_u r9 11 (tu_xor (r9 11) (tu_shl 1 ((q : Nat) : Int)))) 11) (tu_shl 1 ((q : Nat) : Int)))) C_70 W_70 U_70 (by omega) (by exact tu_LM.back hM9 hq9 (by omega) haq) (by exact ⟨(tu_u_n _ _ (by decide)).trans ((tu_u_n _ _ (by decide)).trans h9.1), (tu_u_n _ _ (by decide)).trans ((tu_u_n _ _ (by decide)).trans h9.2)⟩) (by simp only [tu_bp]; split <;> omega) (by simp only [tu_bp]; split <;> omega) (by omega))
        refine tu_jmp [3, 4, 5, 6, 2, 1, 0] (lv' := [(0, tu_r 86), (1, tu_i l), (2, tu_i p), (3, tu_i w), (4, tu_i ((tu_bp 1000000 (fun x9 => tu_bc B l.toNat p.toNat x9) 0).1)), (5, tu_i (tu_nv (tu_bp 1000000 (fun x9 => tu_bc B l.toNat p.toNat x9) 0).2)), (6, tu_i 0)]) ⟨rfl, rfl, rfl, rfl, tu_ei (by first | rfl | (simp only [tu_bp]; split <;> first | rfl | (exfalso; omega))), tu_ei (by first | rfl | (simp only [tu_bp]; split <;> first | rfl | (exfalso; omega))), rfl, trivial⟩ rfl (lp47 (((tu_nl B l.toNat) - 0) + 1) 0 r9_33 (M 92) (M 93) (M 94) (by omega) (by exact h33_0) (by exact h33_1) (by exact ⟨by show (0 : Int) ≤ 1000000; decide, Int.le_refl _⟩) (by exact ⟨by show (-6 : Int) ≤ -6; decide, by show (-6 : Int) ≤ 0; decide, fun z => absurd rfl z⟩) (by omega))
      ·
        have br24 := tu_b_e0 br24
        refine tu_bipush 27 X dX4_bestChange_27 (by decide) ?_
        refine hret 29 _ _ (-2) dX4_bestChange_29 (fun h => by rw [hrt] at h; cases h) ?_
        exact ⟨_, tu_sd.rf _, Or.inr (Or.inl (⟨by omega, rfl⟩)), rfl⟩
    ·
      have br13 := tu_b_e0 br13
      refine tu_iconst 16 X dX4_bestChange_16 ?_
      refine hret 17 _ _ (-1) dX4_bestChange_17 (fun h => by rw [hrt] at h; cases h) ?_
      exact ⟨_, tu_sd.rf _, Or.inl (⟨by omega, rfl⟩), rfl⟩
set_option maxRecDepth 20000 in
set_option maxHeartbeats 400000 in
theorem c_X4_enoughBreath {M : tu_M} (B : Nat → Nat → Int) (l p : Int) (hO : tu_BO B) (hR : tu_MB B (M 87)) (rl : tu_rg l) (rp : tu_rg p) : tu_MI tu_Y_X4_enoughBreath [tu_r 86, tu_i l, tu_i p] M (fun z M' => ∃ (y : Int), (tu_sd M M') ∧ (((¬ ((0 ≤ l ∧ l < B 0 1) ∧ 0 ≤ p ∧ p < B 0 4)) ∧ y = -1) ∨ ((((0 ≤ l ∧ l < B 0 1) ∧ 0 ≤ p ∧ p < B 0 4)) ∧ y = tu_b1' 1000000 (fun x9 => tu_eb B l.toNat p.toNat x9) 8)) ∧ z = y) := by
  have cn := hO.1
  refine tu_MI.of (ty := .int) (by decide) rfl (by first | exact Or.inl rfl | exact Or.inr rfl) (Nat.le_of_ble_eq_true rfl) (fun T (X : tu_X T cX4_enoughBreath RX4 5 113) hnl hrt hret => ?_)
  have hret : tu_RI T cX4_enoughBreath (fun z M' => ∃ (y : Int), (tu_sd M M') ∧ (((¬ ((0 ≤ l ∧ l < B 0 1) ∧ 0 ≤ p ∧ p < B 0 4)) ∧ y = -1) ∨ ((((0 ≤ l ∧ l < B 0 1) ∧ 0 ≤ p ∧ p < B 0 4)) ∧ y = tu_b1' 1000000 (fun x9 => tu_eb B l.toNat p.toNat x9) 8)) ∧ z = y) := hret
  have hnl : T.2.2.2.2.2.2.2.2.2.2.1 = 7 := hnl
  show tu_W T 0 [(0, tu_r 86), (1, tu_i l), (2, tu_i p)] [] M
  refine tu_aload_n 0 X 0 dX4_enoughBreath_0 rfl ?_
  refine tu_iload_n 1 X 1 dX4_enoughBreath_1 rfl ?_
  refine tu_callVI 2 X (st := []) (as := [tu_i l]) (c_X4_isLine B l (show tu_BO B from by first | assumption | omega | exact ⟨by omega, by omega⟩ | decide) (show tu_MB B (M 87) from by first | assumption | omega | exact ⟨by omega, by omega⟩ | decide) (show tu_rg l from by first | assumption | omega | exact ⟨by omega, by omega⟩ | decide)) sv_RX4_52 dX4_enoughBreath_2 rfl (by decide) rfl rfl rfl (Nat.le_of_ble_eq_true rfl) ⟨by decide, by decide⟩ (fun z M' h => ?_)
  obtain ⟨hM2, hz2⟩ := h
  refine tu_st_eq rfl (M' := M) hM2 ?_
  refine tu_tp (b := tu_b (0 ≤ l ∧ l < B 0 1)) hz2 ?_
  refine tu_if_eq 5 X 16 dX4_enoughBreath_5 (by decide) tu_b_rg (fun br5 => ?_) (fun br5 => ?_)
  ·
    have br5 := tu_b_e0 br5
    refine tu_iconst 16 X dX4_enoughBreath_16 ?_
    refine hret 17 _ _ (-1) dX4_enoughBreath_17 (fun h => by rw [hrt] at h; cases h) ?_
    exact ⟨_, tu_sd.rf _, Or.inl (⟨by omega, rfl⟩), rfl⟩
  ·
    have br5 := tu_b_n0 br5
    refine tu_aload_n 8 X 0 dX4_enoughBreath_8 rfl ?_
    refine tu_iload_n 9 X 2 dX4_enoughBreath_9 rfl ?_
    refine tu_callVI 10 X (st := []) (as := [tu_i p]) (c_X4_isPhrase B p (show tu_BO B from by first | assumption | omega | exact ⟨by omega, by omega⟩ | decide) (show tu_MB B (M 87) from by first | assumption | omega | exact ⟨by omega, by omega⟩ | decide) (show tu_rg p from by first | assumption | omega | exact ⟨by omega, by omega⟩ | decide)) sv_RX4_60 dX4_enoughBreath_10 rfl (by decide) rfl rfl rfl (Nat.le_of_ble_eq_true rfl) ⟨by decide, by decide⟩ (fun z M' h => ?_)
    obtain ⟨hM10, hz10⟩ := h
    refine tu_st_eq rfl (M' := M) hM10 ?_
    refine tu_tp (b := tu_b (0 ≤ p ∧ p < B 0 4)) hz10 ?_
    refine tu_if_ne 13 X 18 dX4_enoughBreath_13 (by decide) tu_b_rg (fun br13 => ?_) (fun br13 => ?_)
    ·
      have br13 := tu_b_n0 br13
      refine tu_aload_n 18 X 0 dX4_enoughBreath_18 rfl ?_
      refine tu_iload_n 19 X 1 dX4_enoughBreath_19 rfl ?_
      refine tu_iload_n 20 X 2 dX4_enoughBreath_20 rfl ?_
      refine tu_st_eq (show _ = [tu_i ((p.toNat : Nat) : Int), tu_i ((l.toNat : Nat) : Int), tu_r 86] from by first | rfl | (simp only [List.cons.injEq, Sum.inl.injEq, and_true, true_and]; omega)) rfl ?_
      refine tu_callVV 21 X (st := []) (as := [tu_i ((l.toNat : Nat) : Int), tu_i ((p.toNat : Nat) : Int)]) (c_X4_look B l.toNat p.toNat (show tu_BO B from by first | assumption | omega | exact ⟨by omega, by omega⟩ | decide) (show tu_MB B (M 87) from by first | assumption | omega | exact ⟨by omega, by omega⟩ | decide) (show (l.toNat : Int) < B 0 1 from by first | assumption | omega | exact ⟨by omega, by omega⟩ | decide) (show (p.toNat : Int) < B 0 4 from by first | assumption | omega | exact ⟨by omega, by omega⟩ | decide)) sv_RX4_115 dX4_enoughBreath_21 rfl (by decide) rfl rfl rfl (Nat.le_of_ble_eq_true rfl) ⟨by decide, by decide⟩ (fun M' h => ?_)
      obtain ⟨r9_21, hM21, h21_0, h21_1⟩ := h
      refine tu_st_eq rfl (M' := tu_row M 86 r9_21) hM21 ?_
      refine tu_bipush 24 X dX4_enoughBreath_24 (by decide) ?_
      refine tu_istore_n 26 X (lv' := [(3, tu_i (-6)), (0, tu_r 86), (1, tu_i l), (2, tu_i p)]) dX4_enoughBreath_26 (by rw [hnl]; decide) rfl ?_
      refine tu_ldc 27 X (n := 1000000000) dX4_enoughBreath_27 kw_RX4_88 (by decide) ?_
      refine tu_istore 29 X (lv' := [(4, tu_i 1000000000), (3, tu_i (-6)), (0, tu_r 86), (1, tu_i l), (2, tu_i p)]) dX4_enoughBreath_29 (by rw [hnl]; decide) rfl ?_
      refine tu_iconst 31 X dX4_enoughBreath_31 ?_
      refine tu_istore 32 X (lv' := [(5, tu_i 1), (4, tu_i 1000000000), (3, tu_i (-6)), (0, tu_r 86), (1, tu_i l), (2, tu_i p)]) dX4_enoughBreath_32 (by rw [hnl]; decide) rfl ?_
      refine tu_st_eq rfl (M' := tu_row (tu_row M 86 r9_21) 92 (M 92)) ((congrArg (fun m => tu_row m 86 r9_21) ((tu_rx M 92).symm)).trans (tu_rc M (M 92) r9_21 rfl)) ?_
      refine tu_st_eq rfl (M' := tu_row (tu_row (tu_row M 86 r9_21) 92 (M 92)) 93 (M 93)) ((congrArg (fun m => tu_row m 92 (M 92)) ((congrArg (fun m => tu_row m 86 r9_21) ((tu_rx M 93).symm)).trans (tu_rc M (M 93) r9_21 rfl))).trans (tu_rc (tu_row M 86 r9_21) (M 93) (M 92) rfl)) ?_
      refine tu_st_eq rfl (M' := tu_row (tu_row (tu_row (tu_row M 86 r9_21) 92 (M 92)) 93 (M 93)) 94 (M 94)) ((congrArg (fun m => tu_row m 93 (M 93)) ((congrArg (fun m => tu_row m 92 (M 92)) ((congrArg (fun m => tu_row m 86 r9_21) ((tu_rx M 94).symm)).trans (tu_rc M (M 94) r9_21 rfl))).trans (tu_rc (tu_row M 86 r9_21) (M 94) (M 92) rfl))).trans (tu_rc (tu_row (tu_row M 86 r9_21) 92 (M 92)) (M 94) (M 93) rfl)) ?_
      have lp34 : ∀ (nq : Nat) (q : Nat) (br : Int) (r9 : Nat → Int) (C : Nat → Int) (W : Nat → Int) (U : Nat → Int), (q ≤ 8) → (tu_LM r9 (tu_al B l.toNat) (tu_kp B p.toNat) (tu_nl B l.toNat) (tu_np B p.toNat) br) → (r9 2 = M 86 2 ∧ r9 6 = M 86 6) → (0 ≤ (tu_bp 1000000 (fun x9 => tu_eb B l.toNat p.toNat x9) q).2 ∧ (tu_bp 1000000 (fun x9 => tu_eb B l.toNat p.toNat x9) q).2 ≤ 1000000) → 8 - q < nq → tu_W T 34 [(0, tu_r 86), (1, tu_i l), (2, tu_i p), (3, tu_i (tu_b1' 1000000 (fun x9 => tu_eb B l.toNat p.toNat x9) q)), (4, tu_i (tu_nv (tu_bp 1000000 (fun x9 => tu_eb B l.toNat p.toNat x9) q).2)), (5, tu_i (((q : Nat) : Int) + 1))] [] (tu_row (tu_row (tu_row (tu_row M 86 r9) 92 C) 93 W) 94 U) := by
        intro nq
        induction nq with
        | zero => intros; omega
        | succ nq ih34 =>
          intro q br r9 C W U hq hM9 h9 hb hn34
          refine tu_iload 34 X 5 dX4_enoughBreath_34 rfl ?_
          refine tu_bipush 36 X dX4_enoughBreath_36 (by decide) ?_
          refine tu_icmp_gt 38 X 89 dX4_enoughBreath_38 (by decide) (show tu_rg (((q : Nat) : Int) + 1) from by first | assumption | exact ⟨by omega, by omega⟩) ⟨by decide, by decide⟩ (fun br38 => ?_) (fun br38 => ?_)
          ·
            refine tu_iload_n 89 X 3 dX4_enoughBreath_89 rfl ?_
            refine hret 90 _ _ (tu_b1' 1000000 (fun x9 => tu_eb B l.toNat p.toNat x9) q) dX4_enoughBreath_90 (fun h => by rw [hrt] at h; cases h) ?_
            have eq2 : q = 8 := by omega
            subst eq2
            exact ⟨_, ((((tu_sd.rf _).r86 h9).row _ (by decide)).row _ (by decide)).row _ (by decide), Or.inr ⟨by omega, rfl⟩, rfl⟩
          ·
            have hq9 : q < 8 := by omega
            obtain ⟨L, r, c, hL0, hst0, hK, hT, ec⟩ := tu_exE hO (l := l.toNat) (p := p.toNat) (by omega) (by omega) hq9
            have ecr := hT.rg hK
            rw [ec] at ecr
            have bz := tu_nv_rg ecr.1
            have hlt := tu_nv_lt (x := tu_eb B l.toNat p.toNat q) (y := (tu_bp 1000000 (fun x9 => tu_eb B l.toNat p.toNat x9) q).2) ecr.2 hb.2
            have bz4 := tu_nv_rg hb.1
            have hst : M 87 1 = L 1 ∧ M 87 2 = L 2 ∧ M 87 3 = L 3 := ⟨(hR.set 1 (by decide)).trans hst0.1.symm, (hR.set 2 (by decide)).trans hst0.2.1.symm, (hR.set 3 (by decide)).trans hst0.2.2.symm⟩
            refine tu_aload_n 41 X 0 dX4_enoughBreath_41 rfl ?_
            refine tu_iload 42 X 5 dX4_enoughBreath_42 rfl ?_
            refine tu_putI 44 X (M' := tu_row (tu_row (tu_row (tu_row M 86 (tu_u r9 15 (((q : Nat) : Int) + 1))) 92 C) 93 W) 94 U) dX4_enoughBreath_44 fp_RX4_81 (by decide) rfl rfl ((tu_rc (tu_row (tu_row (tu_row M 86 r9) 92 C) 93 W) U (tu_u r9 15 (((q : Nat) : Int) + 1)) rfl).trans (congrArg (fun m => tu_row m 94 U) ((tu_rc (tu_row (tu_row M 86 r9) 92 C) W (tu_u r9 15 (((q : Nat) : Int) + 1)) rfl).trans (congrArg (fun m => tu_row m 93 W) ((tu_rc (tu_row M 86 r9) C (tu_u r9 15 (((q : Nat) : Int) + 1)) rfl).trans (congrArg (fun m => tu_row m 92 C) (tu_rr M 86 r9 (tu_u r9 15 (((q : Nat) : Int) + 1))))))))) ?_
            refine tu_aload_n 47 X 0 dX4_enoughBreath_47 rfl ?_
            refine tu_callVI 48 X (st := []) (as := []) (c_X4_findCost L (tu_al B l.toNat) (tu_kp B p.toNat) r (tu_nl B l.toNat) (tu_np B p.toNat) c (show tu_LM ((tu_u r9 15 (((q : Nat) : Int) + 1))) (tu_al B l.toNat) (tu_kp B p.toNat) (tu_nl B l.toNat) (tu_np B p.toNat) (L 0) from by exact tu_LM.br hM9 (by omega)) (show M 87 1 = L 1 ∧ M 87 2 = L 2 ∧ M 87 3 = L 3 from by exact hst) (show tu_LK L (tu_al B l.toNat) (tu_kp B p.toNat) r (tu_nl B l.toNat) (tu_np B p.toNat) from by exact hK) (show tu_Tx L (tu_al B l.toNat) (tu_kp B p.toNat) r (tu_nl B l.toNat) (tu_np B p.toNat) c from by exact hT)) sv_RX4_118 dX4_enoughBreath_48 rfl (by decide) rfl rfl rfl (Nat.le_of_ble_eq_true rfl) ⟨by decide, by decide⟩ (fun z M' h => ?_)
            obtain ⟨C_48, W_48, U_48, hM48, h48_0, hz48⟩ := h
            refine tu_st_eq rfl (M' := tu_row (tu_row (tu_row (tu_row M 86 (tu_u r9 15 (((q : Nat) : Int) + 1))) 92 C_48) 93 W_48) 94 U_48) (hM48.trans ((congrArg (fun m => tu_row m 94 U_48) ((congrArg (fun m => tu_row m 93 W_48) ((tu_rc (tu_row (tu_row (tu_row M 86 (tu_u r9 15 (((q : Nat) : Int) + 1))) 92 C) 93 W) U C_48 rfl).trans (congrArg (fun m => tu_row m 94 U) ((tu_rc (tu_row (tu_row M 86 (tu_u r9 15 (((q : Nat) : Int) + 1))) 92 C) W C_48 rfl).trans (congrArg (fun m => tu_row m 93 W) (tu_rr (tu_row M 86 (tu_u r9 15 (((q : Nat) : Int) + 1))) 92 C C_48)))))).trans ((tu_rc (tu_row (tu_row (tu_row M 86 (tu_u r9 15 (((q : Nat) : Int) + 1))) 92 C_48) 93 W) U W_48 rfl).trans (congrArg (fun m => tu_row m 94 U) (tu_rr (tu_row (tu_row M 86 (tu_u r9 15 (((q : Nat) : Int) + 1))) 92 C_48) 93 W W_48))))).trans (tu_rr (tu_row (tu_row (tu_row M 86 (tu_u r9 15 (((q : Nat) : Int) + 1))) 92 C_48) 93 W_48) 94 U U_48))) ?_
            refine tu_tp (b := (tu_nv (c 0))) hz48 ?_
            refine tu_tp (b := (tu_nv (tu_eb B l.toNat p.toNat q))) (by rw [ec]) ?_
            refine tu_istore 51 X (lv' := [(6, tu_i (tu_nv (tu_eb B l.toNat p.toNat q))), (0, tu_r 86), (1, tu_i l), (2, tu_i p), (3, tu_i (tu_b1' 1000000 (fun x9 => tu_eb B l.toNat p.toNat x9) q)), (4, tu_i (tu_nv (tu_bp 1000000 (fun x9 => tu_eb B l.toNat p.toNat x9) q).2)), (5, tu_i (((q : Nat) : Int) + 1))]) dX4_enoughBreath_51 (by rw [hnl]; decide) rfl ?_
            refine tu_iload 53 X 0 dX4_enoughBreath_53 rfl ?_
            refine tu_iload 55 X 5 dX4_enoughBreath_55 rfl ?_
            refine tu_icmp_ge 57 X 65 dX4_enoughBreath_57 (by decide) (show tu_rg (tu_nv (tu_eb B l.toNat p.toNat q)) from by first | assumption | exact ⟨by omega, by omega⟩) (show tu_rg (tu_nv (tu_bp 1000000 (fun x9 => tu_eb B l.toNat p.toNat x9) q).2) from by first | assumption | exact ⟨by omega, by omega⟩) (fun br57 => ?_) (fun br57 => ?_)
            ·
              refine tu_iload_n 65 X 4 dX4_enoughBreath_65 rfl ?_
              refine tu_istore_n 66 X (lv' := [(3, tu_i (tu_b1' 1000000 (fun x9 => tu_eb B l.toNat p.toNat x9) q)), (6, tu_i (tu_nv (tu_eb B l.toNat p.toNat q))), (0, tu_r 86), (1, tu_i l), (2, tu_i p), (4, tu_i (tu_nv (tu_bp 1000000 (fun x9 => tu_eb B l.toNat p.toNat x9) q).2)), (5, tu_i (((q : Nat) : Int) + 1))]) dX4_enoughBreath_66 (by rw [hnl]; decide) rfl ?_
              refine tu_iload 67 X 1 dX4_enoughBreath_67 rfl ?_
              refine tu_iload 69 X 5 dX4_enoughBreath_69 rfl ?_
              refine tu_icmp_ge 71 X 79 dX4_enoughBreath_71 (by decide) (show tu_rg (tu_nv (tu_eb B l.toNat p.toNat q)) from by first | assumption | exact ⟨by omega, by omega⟩) (show tu_rg (tu_nv (tu_bp 1000000 (fun x9 => tu_eb B l.toNat p.toNat x9) q).2) from by first | assumption | exact ⟨by omega, by omega⟩) (fun br71 => ?_) (fun br71 => ?_)
              ·
                refine tu_iload 79 X 5 dX4_enoughBreath_79 rfl ?_
                refine tu_istore 81 X (lv' := [(4, tu_i (tu_nv (tu_bp 1000000 (fun x9 => tu_eb B l.toNat p.toNat x9) q).2)), (3, tu_i (tu_b1' 1000000 (fun x9 => tu_eb B l.toNat p.toNat x9) q)), (6, tu_i (tu_nv (tu_eb B l.toNat p.toNat q))), (0, tu_r 86), (1, tu_i l), (2, tu_i p), (5, tu_i (((q : Nat) : Int) + 1))]) dX4_enoughBreath_81 (by rw [hnl]; decide) rfl ?_
                refine tu_iinc 83 X (lv' := [(5, tu_i ((((q : Nat) : Int) + 1) + 1)), (4, tu_i (tu_nv (tu_bp 1000000 (fun x9 => tu_eb B l.toNat p.toNat x9) q).2)), (3, tu_i (tu_b1' 1000000 (fun x9 => tu_eb B l.toNat p.toNat x9) q)), (6, tu_i (tu_nv (tu_eb B l.toNat p.toNat q))), (0, tu_r 86), (1, tu_i l), (2, tu_i p)]) 6 dX4_enoughBreath_83 rfl (by rw [hnl]; decide) rfl ?_
                refine tu_goto 86 X 34 dX4_enoughBreath_86 (by decide) ?_
                refine tu_jmp [4, 5, 6, 2, 1, 0] (lv' := [(0, tu_r 86), (1, tu_i l), (2, tu_i p), (3, tu_i (tu_b1' 1000000 (fun x9 => tu_eb B l.toNat p.toNat x9) (q + 1))), (4, tu_i (tu_nv (tu_bp 1000000 (fun x9 => tu_eb B l.toNat p.toNat x9) (q + 1)).2)), (5, tu_i ((((q + 1) : Nat) : Int) + 1))]) ⟨rfl, rfl, rfl, tu_ei (by first | rfl | (first | exact (tu_b1_hit (by omega)).symm | exact (tu_b1_miss (by omega)).symm)), tu_ei (by first | rfl | (simp only [tu_bp]; split <;> first | rfl | (exfalso; omega))), tu_ei (by first | rfl | (omega)), trivial⟩ rfl (ih34 (q + 1) (((q : Nat) : Int) + 1) (tu_u r9 15 (((q : Nat) : Int) + 1)) C_48 W_48 U_48 (by omega) (by exact tu_LM.br hM9 rfl) (by exact ⟨(tu_u_n _ _ (by decide)).trans h9.1, (tu_u_n _ _ (by decide)).trans h9.2⟩) (by simp only [tu_bp]; split <;> omega) (by omega))
              ·
                refine tu_iload 74 X 1 dX4_enoughBreath_74 rfl ?_
                refine tu_goto 76 X 81 dX4_enoughBreath_76 (by decide) ?_
                refine tu_istore 81 X (lv' := [(4, tu_i (tu_nv (tu_eb B l.toNat p.toNat q))), (3, tu_i (tu_b1' 1000000 (fun x9 => tu_eb B l.toNat p.toNat x9) q)), (6, tu_i (tu_nv (tu_eb B l.toNat p.toNat q))), (0, tu_r 86), (1, tu_i l), (2, tu_i p), (5, tu_i (((q : Nat) : Int) + 1))]) dX4_enoughBreath_81 (by rw [hnl]; decide) rfl ?_
                refine tu_iinc 83 X (lv' := [(5, tu_i ((((q : Nat) : Int) + 1) + 1)), (4, tu_i (tu_nv (tu_eb B l.toNat p.toNat q))), (3, tu_i (tu_b1' 1000000 (fun x9 => tu_eb B l.toNat p.toNat x9) q)), (6, tu_i (tu_nv (tu_eb B l.toNat p.toNat q))), (0, tu_r 86), (1, tu_i l), (2, tu_i p)]) 6 dX4_enoughBreath_83 rfl (by rw [hnl]; decide) rfl ?_
                refine tu_goto 86 X 34 dX4_enoughBreath_86 (by decide) ?_
                refine tu_jmp [4, 5, 6, 2, 1, 0] (lv' := [(0, tu_r 86), (1, tu_i l), (2, tu_i p), (3, tu_i (tu_b1' 1000000 (fun x9 => tu_eb B l.toNat p.toNat x9) (q + 1))), (4, tu_i (tu_nv (tu_bp 1000000 (fun x9 => tu_eb B l.toNat p.toNat x9) (q + 1)).2)), (5, tu_i ((((q + 1) : Nat) : Int) + 1))]) ⟨rfl, rfl, rfl, tu_ei (by first | rfl | (first | exact (tu_b1_hit (by omega)).symm | exact (tu_b1_miss (by omega)).symm)), tu_ei (by first | rfl | (simp only [tu_bp]; split <;> first | rfl | (exfalso; omega))), tu_ei (by first | rfl | (omega)), trivial⟩ rfl (ih34 (q + 1) (((q : Nat) : Int) + 1) (tu_u r9 15 (((q : Nat) : Int) + 1)) C_48 W_48 U_48 (by omega) (by exact tu_LM.br hM9 rfl) (by exact ⟨(tu_u_n _ _ (by decide)).trans h9.1, (tu_u_n _ _ (by decide)).trans h9.2⟩) (by simp only [tu_bp]; split <;> omega) (by omega))
            ·
              refine tu_iload 60 X 6 dX4_enoughBreath_60 rfl ?_
              refine tu_goto 62 X 66 dX4_enoughBreath_62 (by decide) ?_
              refine tu_istore_n 66 X (lv' := [(3, tu_i (((q : Nat) : Int) + 1)), (6, tu_i (tu_nv (tu_eb B l.toNat p.toNat q))), (0, tu_r 86), (1, tu_i l), (2, tu_i p), (4, tu_i (tu_nv (tu_bp 1000000 (fun x9 => tu_eb B l.toNat p.toNat x9) q).2)), (5, tu_i (((q : Nat) : Int) + 1))]) dX4_enoughBreath_66 (by rw [hnl]; decide) rfl ?_
              refine tu_iload 67 X 1 dX4_enoughBreath_67 rfl ?_
              refine tu_iload 69 X 5 dX4_enoughBreath_69 rfl ?_
              refine tu_icmp_ge 71 X 79 dX4_enoughBreath_71 (by decide) (show tu_rg (tu_nv (tu_eb B l.toNat p.toNat q)) from by first | assumption | exact ⟨by omega, by omega⟩) (show tu_rg (tu_nv (tu_bp 1000000 (fun x9 => tu_eb B l.toNat p.toNat x9) q).2) from by first | assumption | exact ⟨by omega, by omega⟩) (fun br71 => ?_) (fun br71 => ?_)
              ·
                refine tu_iload 79 X 5 dX4_enoughBreath_79 rfl ?_
                refine tu_istore 81 X (lv' := [(4, tu_i (tu_nv (tu_bp 1000000 (fun x9 => tu_eb B l.toNat p.toNat x9) q).2)), (3, tu_i (((q : Nat) : Int) + 1)), (6, tu_i (tu_nv (tu_eb B l.toNat p.toNat q))), (0, tu_r 86), (1, tu_i l), (2, tu_i p), (5, tu_i (((q : Nat) : Int) + 1))]) dX4_enoughBreath_81 (by rw [hnl]; decide) rfl ?_
                refine tu_iinc 83 X (lv' := [(5, tu_i ((((q : Nat) : Int) + 1) + 1)), (4, tu_i (tu_nv (tu_bp 1000000 (fun x9 => tu_eb B l.toNat p.toNat x9) q).2)), (3, tu_i (((q : Nat) : Int) + 1)), (6, tu_i (tu_nv (tu_eb B l.toNat p.toNat q))), (0, tu_r 86), (1, tu_i l), (2, tu_i p)]) 6 dX4_enoughBreath_83 rfl (by rw [hnl]; decide) rfl ?_
                refine tu_goto 86 X 34 dX4_enoughBreath_86 (by decide) ?_
                refine tu_jmp [4, 5, 6, 2, 1, 0] (lv' := [(0, tu_r 86), (1, tu_i l), (2, tu_i p), (3, tu_i (tu_b1' 1000000 (fun x9 => tu_eb B l.toNat p.toNat x9) (q + 1))), (4, tu_i (tu_nv (tu_bp 1000000 (fun x9 => tu_eb B l.toNat p.toNat x9) (q + 1)).2)), (5, tu_i ((((q + 1) : Nat) : Int) + 1))]) ⟨rfl, rfl, rfl, tu_ei (by first | rfl | (first | exact (tu_b1_hit (by omega)).symm | exact (tu_b1_miss (by omega)).symm)), tu_ei (by first | rfl | (simp only [tu_bp]; split <;> first | rfl | (exfalso; omega))), tu_ei (by first | rfl | (omega)), trivial⟩ rfl (ih34 (q + 1) (((q : Nat) : Int) + 1) (tu_u r9 15 (((q : Nat) : Int) + 1)) C_48 W_48 U_48 (by omega) (by exact tu_LM.br hM9 rfl) (by exact ⟨(tu_u_n _ _ (by decide)).trans h9.1, (tu_u_n _ _ (by decide)).trans h9.2⟩) (by simp only [tu_bp]; split <;> omega) (by omega))
              ·
                refine tu_iload 74 X 1 dX4_enoughBreath_74 rfl ?_
                refine tu_goto 76 X 81 dX4_enoughBreath_76 (by decide) ?_
                refine tu_istore 81 X (lv' := [(4, tu_i (tu_nv (tu_eb B l.toNat p.toNat q))), (3, tu_i (((q : Nat) : Int) + 1)), (6, tu_i (tu_nv (tu_eb B l.toNat p.toNat q))), (0, tu_r 86), (1, tu_i l), (2, tu_i p), (5, tu_i (((q : Nat) : Int) + 1))]) dX4_enoughBreath_81 (by rw [hnl]; decide) rfl ?_
                refine tu_iinc 83 X (lv' := [(5, tu_i ((((q : Nat) : Int) + 1) + 1)), (4, tu_i (tu_nv (tu_eb B l.toNat p.toNat q))), (3, tu_i (((q : Nat) : Int) + 1)), (6, tu_i (tu_nv (tu_eb B l.toNat p.toNat q))), (0, tu_r 86), (1, tu_i l), (2, tu_i p)]) 6 dX4_enoughBreath_83 rfl (by rw [hnl]; decide) rfl ?_
                refine tu_goto 86 X 34 dX4_enoughBreath_86 (by decide) ?_
                refine tu_jmp [4, 5, 6, 2, 1, 0] (lv' := [(0, tu_r 86), (1, tu_i l), (2, tu_i p), (3, tu_i (tu_b1' 1000000 (fun x9 => tu_eb B l.toNat p.toNat x9) (q + 1))), (4, tu_i (tu_nv (tu_bp 1000000 (fun x9 => tu_eb B l.toNat p.toNat x9) (q + 1)).2)), (5, tu_i ((((q + 1) : Nat) : Int) + 1))]) ⟨rfl, rfl, rfl, tu_ei (by first | rfl | (first | exact (tu_b1_hit (by omega)).symm | exact (tu_b1_miss (by omega)).symm)), tu_ei (by first | rfl | (simp only [tu_bp]; split <;> first | rfl | (exfalso; omega))), tu_ei (by first | rfl | (omega)), trivial⟩ rfl (ih34 (q + 1) (((q : Nat) : Int) + 1) (tu_u r9 15 (((q : Nat) : Int) + 1)) C_48 W_48 U_48 (by omega) (by exact tu_LM.br hM9 rfl) (by exact ⟨(tu_u_n _ _ (by decide)).trans h9.1, (tu_u_n _ _ (by decide)).trans h9.2⟩) (by simp only [tu_bp]; split <;> omega) (by omega))
      refine tu_jmp [3, 4, 5, 2, 1, 0] (lv' := [(0, tu_r 86), (1, tu_i l), (2, tu_i p), (3, tu_i (tu_b1' 1000000 (fun x9 => tu_eb B l.toNat p.toNat x9) 0)), (4, tu_i (tu_nv (tu_bp 1000000 (fun x9 => tu_eb B l.toNat p.toNat x9) 0).2)), (5, tu_i (((0 : Nat) : Int) + 1))]) ⟨rfl, rfl, rfl, tu_ei (by first | rfl | (first | exact (tu_b1_hit (by omega)).symm | exact (tu_b1_miss (by omega)).symm)), tu_ei (by first | rfl | (simp only [tu_bp]; split <;> first | rfl | (exfalso; omega))), tu_ei (by first | rfl | (omega)), trivial⟩ rfl (lp34 ((8 - 0) + 1) 0 (B 1 0) r9_21 (M 92) (M 93) (M 94) (by omega) (by exact h21_0) (by exact h21_1) (by exact ⟨by show (0 : Int) ≤ 1000000; decide, Int.le_refl _⟩) (by omega))
    ·
      have br13 := tu_b_e0 br13
      refine tu_iconst 16 X dX4_enoughBreath_16 ?_
      refine hret 17 _ _ (-1) dX4_enoughBreath_17 (fun h => by rw [hrt] at h; cases h) ?_
      exact ⟨_, tu_sd.rf _, Or.inl (⟨by omega, rfl⟩), rfl⟩
