theorem tu_nv_rg {x : Int} (h : 0 ≤ x) : 0 ≤ tu_nv x ∧ tu_nv x ≤ 1000000000 := by unfold tu_nv; split <;> omega
theorem tu_FS.rg {C0 W0 U0 L a k c C W U : Nat → Int} {m s b h : Nat} (hF : tu_FS C0 W0 U0 L a k c m s b h C W U) (hZ : 0 ≤ tu_zf L k c m s b ∧ ∀ q, 1 ≤ q → q ≤ h → 0 ≤ tu_zh L a k c s b q)
    (hW : 0 ≤ tu_yf W0 m s b ∧ ∀ q, 1 ≤ q → q ≤ h → 0 ≤ tu_yh W0 s b q) (hU : 0 ≤ tu_yf U0 m s b ∧ ∀ q, 1 ≤ q → q ≤ h → 0 ≤ tu_yh U0 s b q) :
    (0 ≤ C (25 * s + b) ∧ C (25 * s + b) ≤ 1000000000) ∧ (0 ≤ W (25 * s + b) ∧ W (25 * s + b) ≤ 1000000) ∧ (0 ≤ U (25 * s + b) ∧ U (25 * s + b) ≤ 1000000) := by
  obtain ⟨-, h2, h3, h4⟩ := hF
  have ha := tu_mn_bd (i := tu_zf L k c m s b) (f := tu_zh L a k c s b) (B := 1000000000) (n := h) hZ.1 (tu_zf_le _ _ _ _ _ _) (fun q h1 h2 => hZ.2 q h1 h2)
  have w := tu_sw_n (i := tu_yf W0 m s b) (f := tu_yh W0 s b) h hW.1 hW.2
  refine ⟨by rw [h2]; exact ha, by rw [h3]; omega, ?_⟩
  rw [h4]
  unfold tu_ul
  split
  · omega
  · next z =>
    generalize tu_mn (tu_zf L k c m s b) (tu_zh L a k c s b) h = X at z ⊢
    have := tu_sw_n (i := if tu_zf L k c m s b = X then tu_yf U0 m s b else 0) (f := fun q => if tu_zh L a k c s b q = X then tu_yh U0 s b q else 0) h (by split <;> omega) (fun q h1 h2 => by
      show 0 ≤ if tu_zh L a k c s b q = X then tu_yh U0 s b q else 0
      have := hU.2 q h1 h2
      split <;> omega)
    omega
theorem tu_AT.nn {L a k r c : Nat → Int} {n m s b h : Nat} {C0 W0 U0 : Nat → Int} (hK : tu_LK L a k r n m) (hT : tu_Tx L a k r n m c) (hs : s ≤ n) (hA : tu_AT L a k r c n m s b C0 W0 U0) (hi : h = 0 ∨ (s < n ∧ b < m ∧ h ≤ tu_mh L r b)) :
    (0 ≤ tu_zf L k c m s b ∧ ∀ q, 1 ≤ q → q ≤ h → 0 ≤ tu_zh L a k c s b q) ∧ (0 ≤ tu_yf W0 m s b ∧ ∀ q, 1 ≤ q → q ≤ h → 0 ≤ tu_yh W0 s b q) ∧ (0 ≤ tu_yf U0 m s b ∧ ∀ q, 1 ≤ q → q ≤ h → 0 ≤ tu_yh U0 s b q) := by
  have key : ∀ q, 1 ≤ q → q ≤ h → s < n ∧ b < m ∧ b + q ≤ m ∧ q ≤ tu_mh L r b := fun q h1 h2 => by
    rcases hi with z | ⟨z1, z2, z3⟩
    · omega
    · have := tu_mh_le hK z2; omega
  refine ⟨⟨?_, fun q h1 h2 => ?_⟩, ⟨?_, fun q h1 h2 => ?_⟩, ⟨?_, fun q h1 h2 => ?_⟩⟩
  · unfold tu_zf; split
    · next z => exact (tu_nv_rg (hT.cf hK hs z).1).1
    · decide
  · have := key q h1 h2
    exact (tu_nv_rg (hT.ch hK this.1 this.2.1 h1 this.2.2.2).1).1
  · unfold tu_yf; split
    · next z => exact (hA s (b + 1) hs z (Or.inr ⟨rfl, by omega⟩)).2.1.1.1
    · exact Int.le_refl _
  · have := key q h1 h2
    unfold tu_yh; rw [Nat.add_assoc]
    exact (hA (s + 1) (b + q) this.1 this.2.2.1 (Or.inl (by omega))).2.1.1.1
  · unfold tu_yf; split
    · next z => exact (hA s (b + 1) hs z (Or.inr ⟨rfl, by omega⟩)).2.1.2.1
    · exact Int.le_refl _
  · have := key q h1 h2
    unfold tu_yh; rw [Nat.add_assoc]
    exact (hA (s + 1) (b + q) this.1 this.2.2.1 (Or.inl (by omega))).2.1.2.1
set_option maxRecDepth 20000 in
set_option maxHeartbeats 400000 in
theorem c_X4_findAt {M : tu_M} (L a k r : Nat → Int) (n m : Nat) (c : Nat → Int) (s b : Nat) (hM : tu_LM (M 86) a k n m (L 0)) (hs : M 87 1 = L 1 ∧ M 87 2 = L 2 ∧ M 87 3 = L 3) (hK : tu_LK L a k r n m) (hT : tu_Tx L a k r n m c) (hs9 : s ≤ n) (hb9 : b ≤ m) (hA : tu_AT L a k r c n m s b (M 92) (M 93) (M 94)) : tu_MV tu_Y_X4_findAt [tu_r 86, tu_i ((s : Nat) : Int), tu_i ((b : Nat) : Int)] M (fun M' => ∃ (C : Nat → Int) (W : Nat → Int) (U : Nat → Int), M' = tu_row (tu_row (tu_row M 92 C) 93 W) 94 U ∧ (∀ i, i ≠ 25 * s + b → C i = M 92 i ∧ W i = M 93 i ∧ U i = M 94 i) ∧ (¬ (s = n ∧ b = m) → tu_AT1 L a k r c n m s b C W U)) := by
  have kn := hK.2.1
  have km := hK.2.2.1
  have k0 := hK.2.2.2.1
  have k1 := hK.2.2.2.2.1
  have k2 := hK.2.2.2.2.2.1
  have k3 := hK.2.2.2.2.2.2.1
  refine tu_MV.of (by decide) rfl (Nat.le_of_ble_eq_true rfl) (fun T (X : tu_X T cX4_findAt RX4 3 67) hnl hret => ?_)
  have hret : tu_RV T cX4_findAt (fun M' => ∃ (C : Nat → Int) (W : Nat → Int) (U : Nat → Int), M' = tu_row (tu_row (tu_row M 92 C) 93 W) 94 U ∧ (∀ i, i ≠ 25 * s + b → C i = M 92 i ∧ W i = M 93 i ∧ U i = M 94 i) ∧ (¬ (s = n ∧ b = m) → tu_AT1 L a k r c n m s b C W U)) := hret
  have hnl : T.2.2.2.2.2.2.2.2.2.2.1 = 5 := hnl
  show tu_W T 0 [(0, tu_r 86), (1, tu_i ((s : Nat) : Int)), (2, tu_i ((b : Nat) : Int))] [] M
  refine tu_bipush 0 X dX4_findAt_0 (by decide) ?_
  refine tu_iload_n 2 X 1 dX4_findAt_2 rfl ?_
  refine tu_imul 3 X dX4_findAt_3 ?_
  refine tu_iload_n 4 X 2 dX4_findAt_4 rfl ?_
  refine tu_iadd 5 X dX4_findAt_5 ?_
  refine tu_istore_n 6 X (lv' := [(3, tu_i ((25 * ((s : Nat) : Int)) + ((b : Nat) : Int))), (0, tu_r 86), (1, tu_i ((s : Nat) : Int)), (2, tu_i ((b : Nat) : Int))]) dX4_findAt_6 (by rw [hnl]; decide) rfl ?_
  refine tu_aload_n 7 X 1 dX4_findAt_7 rfl ?_
  refine tu_getR 8 X dX4_findAt_8 fl_RX4_25 (by decide) rfl rfl ?_
  refine tu_iload_n 11 X 0 dX4_findAt_11 rfl ?_
  refine tu_ldc 12 X (n := 1000000000) dX4_findAt_12 kw_RX4_88 (by decide) ?_
  refine tu_iast 14 X (M' := tu_row M 92 (tu_u (M 92) ((25 * s) + b) 1000000000)) ((25 * s) + b) dX4_findAt_14 (by decide) rfl (by decide) (by omega) (by omega) rfl ?_
  refine tu_aload_n 15 X 1 dX4_findAt_15 rfl ?_
  refine tu_getR 16 X dX4_findAt_16 fl_RX4_28 (by decide) rfl rfl ?_
  refine tu_iload_n 19 X 0 dX4_findAt_19 rfl ?_
  refine tu_iconst 20 X dX4_findAt_20 ?_
  refine tu_iast 21 X (M' := tu_row (tu_row M 92 (tu_u (M 92) ((25 * s) + b) 1000000000)) 93 (tu_u (M 93) ((25 * s) + b) 0)) ((25 * s) + b) dX4_findAt_21 (by decide) rfl (by decide) (by omega) (by omega) rfl ?_
  refine tu_aload_n 22 X 1 dX4_findAt_22 rfl ?_
  refine tu_getR 23 X dX4_findAt_23 fl_RX4_31 (by decide) rfl rfl ?_
  refine tu_iload_n 26 X 0 dX4_findAt_26 rfl ?_
  refine tu_iconst 27 X dX4_findAt_27 ?_
  refine tu_iast 28 X (M' := tu_row (tu_row (tu_row M 92 (tu_u (M 92) ((25 * s) + b) 1000000000)) 93 (tu_u (M 93) ((25 * s) + b) 0)) 94 (tu_u (M 94) ((25 * s) + b) 0)) ((25 * s) + b) dX4_findAt_28 (by decide) rfl (by decide) (by omega) (by omega) rfl ?_
  have lp51 : ∀ (C : Nat → Int) (W : Nat → Int) (U : Nat → Int), (tu_FS (M 92) (M 93) (M 94) L a k c m s b 0 C W U) → tu_W T 51 [(0, tu_r 86), (1, tu_i ((s : Nat) : Int)), (2, tu_i ((b : Nat) : Int)), (3, tu_i ((25 * ((s : Nat) : Int)) + ((b : Nat) : Int)))] [] (tu_row (tu_row (tu_row M 92 C) 93 W) 94 U) := by
      intro C W U hF0
      refine tu_iconst 51 X dX4_findAt_51 ?_
      refine tu_istore 52 X (lv' := [(4, tu_i 1), (0, tu_r 86), (1, tu_i ((s : Nat) : Int)), (2, tu_i ((b : Nat) : Int)), (3, tu_i ((25 * ((s : Nat) : Int)) + ((b : Nat) : Int)))]) dX4_findAt_52 (by rw [hnl]; decide) rfl ?_
      have lp54 : ∀ (nq : Nat) (e9 : Nat) (C : Nat → Int) (W : Nat → Int) (U : Nat → Int), (e9 = 0 ∨ (s < n ∧ b < m ∧ e9 ≤ tu_mh L r b)) → (tu_FS (M 92) (M 93) (M 94) L a k c m s b e9 C W U) → 9 - e9 < nq → tu_W T 54 [(0, tu_r 86), (1, tu_i ((s : Nat) : Int)), (2, tu_i ((b : Nat) : Int)), (3, tu_i ((25 * ((s : Nat) : Int)) + ((b : Nat) : Int))), (4, tu_i (((e9 : Nat) : Int) + 1))] [] (tu_row (tu_row (tu_row M 92 C) 93 W) 94 U) := by
        intro nq
        induction nq with
        | zero => intros; omega
        | succ nq ih54 =>
          intro e9 C W U hi hF hn54
          have hm8 : e9 ≤ 8 ∧ (b < m → e9 ≤ tu_mh L r b ∧ b + tu_mh L r b ≤ m ∧ tu_mh L r b ≤ 8) := by
            by_cases z : b < m
            · have := tu_mh_le hK z; omega
            · omega
          have lp128 : (¬ (s < n ∧ ((e9 : Nat) : Int) + 1 ≤ L 0 ∧ b + (e9 + 1) ≤ m ∧ k (b + e9) ≠ 0)) → tu_W T 128 [(0, tu_r 86), (1, tu_i ((s : Nat) : Int)), (2, tu_i ((b : Nat) : Int)), (3, tu_i ((25 * ((s : Nat) : Int)) + ((b : Nat) : Int))), (4, tu_i (((e9 : Nat) : Int) + 1))] [] (tu_row (tu_row (tu_row M 92 C) 93 W) 94 U) := by
              intro  jx
              refine hret 128 _ _ dX4_findAt_128 ?_
              exact ⟨C, W, U, rfl, hF.1, fun hne => tu_AT1_of hK hT hs9 hb9 hne hA hF hi jx⟩
          refine tu_iload_n 54 X 1 dX4_findAt_54 rfl ?_
          refine tu_aload_n 55 X 0 dX4_findAt_55 rfl ?_
          refine tu_getI 56 X (x := M 86 10) dX4_findAt_56 fl_RX4_66 (by decide) rfl rfl rfl ?_
          refine tu_tp (b := ((n : Nat) : Int)) (by exact hM.1.1) ?_
          refine tu_icmp_ge 59 X 128 dX4_findAt_59 (by decide) (show tu_rg ((s : Nat) : Int) from by first | assumption | exact ⟨by omega, by omega⟩) (show tu_rg ((n : Nat) : Int) from by first | assumption | exact ⟨by omega, by omega⟩) (fun br59 => ?_) (fun br59 => ?_)
          ·
            refine tu_jmp [0, 1, 2, 3, 4] (lv' := [(0, tu_r 86), (1, tu_i ((s : Nat) : Int)), (2, tu_i ((b : Nat) : Int)), (3, tu_i ((25 * ((s : Nat) : Int)) + ((b : Nat) : Int))), (4, tu_i (((e9 : Nat) : Int) + 1))]) ⟨rfl, rfl, rfl, rfl, rfl, trivial⟩ rfl (lp128 (by first | omega | (intro z; exact br95 (e3.mpr z.2.2.2))))
          ·
            refine tu_iload 62 X 4 dX4_findAt_62 rfl ?_
            refine tu_aload_n 64 X 0 dX4_findAt_64 rfl ?_
            refine tu_getI 65 X (x := M 86 15) dX4_findAt_65 fl_RX4_81 (by decide) rfl rfl rfl ?_
            refine tu_tp (b := (L 0)) (by exact hM.2.2) ?_
            refine tu_icmp_gt 68 X 128 dX4_findAt_68 (by decide) (show tu_rg (((e9 : Nat) : Int) + 1) from by first | assumption | exact ⟨by omega, by omega⟩) (show tu_rg (L 0) from by first | assumption | exact ⟨by omega, by omega⟩) (fun br68 => ?_) (fun br68 => ?_)
            ·
              refine tu_jmp [0, 1, 2, 3, 4] (lv' := [(0, tu_r 86), (1, tu_i ((s : Nat) : Int)), (2, tu_i ((b : Nat) : Int)), (3, tu_i ((25 * ((s : Nat) : Int)) + ((b : Nat) : Int))), (4, tu_i (((e9 : Nat) : Int) + 1))]) ⟨rfl, rfl, rfl, rfl, rfl, trivial⟩ rfl (lp128 (by first | omega | (intro z; exact br95 (e3.mpr z.2.2.2))))
            ·
              refine tu_iload_n 71 X 2 dX4_findAt_71 rfl ?_
              refine tu_iload 72 X 4 dX4_findAt_72 rfl ?_
              refine tu_iadd 74 X dX4_findAt_74 ?_
              refine tu_aload_n 75 X 0 dX4_findAt_75 rfl ?_
              refine tu_getI 76 X (x := M 86 12) dX4_findAt_76 fl_RX4_72 (by decide) rfl rfl rfl ?_
              refine tu_tp (b := ((m : Nat) : Int)) (by exact hM.2.1.1) ?_
              refine tu_icmp_gt 79 X 128 dX4_findAt_79 (by decide) (show tu_rg (((b : Nat) : Int) + (((e9 : Nat) : Int) + 1)) from by first | assumption | exact ⟨by omega, by omega⟩) (show tu_rg ((m : Nat) : Int) from by first | assumption | exact ⟨by omega, by omega⟩) (fun br79 => ?_) (fun br79 => ?_)
              ·
                refine tu_jmp [0, 1, 2, 3, 4] (lv' := [(0, tu_r 86), (1, tu_i ((s : Nat) : Int)), (2, tu_i ((b : Nat) : Int)), (3, tu_i ((25 * ((s : Nat) : Int)) + ((b : Nat) : Int))), (4, tu_i (((e9 : Nat) : Int) + 1))]) ⟨rfl, rfl, rfl, rfl, rfl, trivial⟩ rfl (lp128 (by first | omega | (intro z; exact br95 (e3.mpr z.2.2.2))))
              ·
                have e3 := hM.so (by omega) (show b + e9 < m from by omega)
                refine tu_aload_n 82 X 0 dX4_findAt_82 rfl ?_
                refine tu_getI 83 X (x := M 86 14) dX4_findAt_83 fl_RX4_78 (by decide) rfl rfl rfl ?_
                refine tu_iload_n 86 X 2 dX4_findAt_86 rfl ?_
                refine tu_iload 87 X 4 dX4_findAt_87 rfl ?_
                refine tu_iadd 89 X dX4_findAt_89 ?_
                refine tu_iconst 90 X dX4_findAt_90 ?_
                refine tu_isub 91 X dX4_findAt_91 ?_
                refine tu_st_eq (show _ = [tu_i (((b + e9) : Nat) : Int), tu_i (M 86 14)] from by first | rfl | (simp only [List.cons.injEq, Sum.inl.injEq, and_true, true_and]; omega)) rfl ?_
                refine tu_callSI 92 X (st := []) (as := [tu_i (M 86 14), tu_i (((b + e9) : Nat) : Int)]) (c_X4_has (M 86 14) (b + e9) (show (b + e9) < 32 from by first | assumption | omega | exact ⟨by omega, by omega⟩ | decide)) ss_RX4_84 dX4_findAt_92 rfl (Nat.le_of_ble_eq_true rfl) ⟨by decide, by decide⟩ (fun z M' h => ?_)
                obtain ⟨hM92, hz92⟩ := h
                refine tu_st_eq rfl (M' := tu_row (tu_row (tu_row M 92 C) 93 W) 94 U) hM92 ?_
                refine tu_tp (b := tu_b (tu_bi (M 86 14) (b + e9) = 1)) hz92 ?_
                refine tu_if_eq 95 X 128 dX4_findAt_95 (by decide) tu_b_rg (fun br95 => ?_) (fun br95 => ?_)
                ·
                  have br95 := tu_b_e0 br95
                  refine tu_jmp [0, 1, 2, 3, 4] (lv' := [(0, tu_r 86), (1, tu_i ((s : Nat) : Int)), (2, tu_i ((b : Nat) : Int)), (3, tu_i ((25 * ((s : Nat) : Int)) + ((b : Nat) : Int))), (4, tu_i (((e9 : Nat) : Int) + 1))]) ⟨rfl, rfl, rfl, rfl, rfl, trivial⟩ rfl (lp128 (by first | omega | (intro z; exact br95 (e3.mpr z.2.2.2))))
                ·
                  have br95 := tu_b_n0 br95
                  have hl2 := (tu_mh_step hK (show b < m from by omega) (show e9 ≤ tu_mh L r b from by omega)).mpr ⟨by omega, by omega, e3.mp br95⟩
                  have nn := tu_AT.nn hK hT hs9 hA (Or.inr ⟨by omega, by omega, hl2⟩)
                  have rgs := hF.rg ⟨nn.1.1, fun q q1 q2 => nn.1.2 q q1 (by omega)⟩ ⟨nn.2.1.1, fun q q1 q2 => nn.2.1.2 q q1 (by omega)⟩ ⟨nn.2.2.1, fun q q1 q2 => nn.2.2.2 q q1 (by omega)⟩
                  have ah := hA (s + 1) (b + (e9 + 1)) (by omega) (by omega) (Or.inl (by omega))
                  have g1 := hF.1 (25 * (s + 1) + b + (e9 + 1)) (by omega)
                  have bz2 := tu_nv_rg (hT.bd hK.2.2.1.2 (show s + 1 ≤ n from by omega) (show b + (e9 + 1) ≤ m from by omega)).1
                  have a1 : M 92 (25 * (s + 1) + b + (e9 + 1)) = tu_nv (c ((s + 1) * 25 + (b + (e9 + 1)))) := by rw [show (25 * (s + 1) + b + (e9 + 1)) = 25 * (s + 1) + (b + (e9 + 1)) from by omega]; exact ah.1
                  have a2 : (0 ≤ M 93 (25 * (s + 1) + b + (e9 + 1)) ∧ M 93 (25 * (s + 1) + b + (e9 + 1)) ≤ 1000000) ∧ 0 ≤ M 94 (25 * (s + 1) + b + (e9 + 1)) ∧ M 94 (25 * (s + 1) + b + (e9 + 1)) ≤ 1000000 := by rw [show (25 * (s + 1) + b + (e9 + 1)) = 25 * (s + 1) + (b + (e9 + 1)) from by omega]; exact ah.2.1
                  have bz := nn.1.2 (e9 + 1) (by omega) (Nat.le_refl _)
                  have bz3 : tu_zh L a k c s b (e9 + 1) ≤ 1000000000 := tu_nv_le _
                  refine tu_aload_n 98 X 0 dX4_findAt_98 rfl ?_
                  refine tu_iload_n 99 X 3 dX4_findAt_99 rfl ?_
                  refine tu_aload_n 100 X 0 dX4_findAt_100 rfl ?_
                  refine tu_iload_n 101 X 1 dX4_findAt_101 rfl ?_
                  refine tu_iload_n 102 X 2 dX4_findAt_102 rfl ?_
                  refine tu_iload 103 X 4 dX4_findAt_103 rfl ?_
                  refine tu_st_eq (show _ = [tu_i (((e9 + 1) : Nat) : Int), tu_i ((b : Nat) : Int), tu_i ((s : Nat) : Int), tu_r 86, tu_i ((25 * ((s : Nat) : Int)) + ((b : Nat) : Int)), tu_r 86] from by first | rfl | (simp only [List.cons.injEq, Sum.inl.injEq, and_true, true_and]; omega)) rfl ?_
                  refine tu_callVI 105 X (st := [tu_i ((25 * ((s : Nat) : Int)) + ((b : Nat) : Int)), tu_r 86]) (as := [tu_i ((s : Nat) : Int), tu_i ((b : Nat) : Int), tu_i (((e9 + 1) : Nat) : Int)]) (c_X4_costOn L a k r n m s b (e9 + 1) (show tu_LM (M 86) a k n m (L 0) from by first | assumption | omega | exact ⟨by omega, by omega⟩ | decide) (show M 87 1 = L 1 ∧ M 87 2 = L 2 ∧ M 87 3 = L 3 from by first | assumption | omega | exact ⟨by omega, by omega⟩ | decide) (show tu_LK L a k r n m from by first | assumption | omega | exact ⟨by omega, by omega⟩ | decide) (show s < n from by first | assumption | omega | exact ⟨by omega, by omega⟩ | decide) (show b + (e9 + 1) ≤ m ∧ 1 ≤ (e9 + 1) from by first | assumption | omega | exact ⟨by omega, by omega⟩ | decide) (show tu_rg (C (25 * (s + 1) + b + (e9 + 1))) from by rw [g1.1, a1]; exact ⟨by omega, by omega⟩)) sv_RX4_104 dX4_findAt_105 rfl (by decide) rfl rfl rfl (Nat.le_of_ble_eq_true rfl) ⟨by decide, by decide⟩ (fun z M' h => ?_)
                  obtain ⟨hM105, hz105⟩ := h
                  refine tu_st_eq rfl (M' := tu_row (tu_row (tu_row M 92 C) 93 W) 94 U) hM105 ?_
                  refine tu_tp (b := (if C (25 * (s + 1) + b + (e9 + 1)) = 1000000000 then 1000000000 else C (25 * (s + 1) + b + (e9 + 1)) + L 1 * ((((e9 + 1) : Nat) : Int) - 1) + (if ¬ (a s = 1 ↔ k b = 2) then L 3 else 0))) hz105 ?_
                  refine tu_tp (b := (tu_zh L a k c s b (e9 + 1))) (by exact tu_nv_ch hK hT (by omega) (by omega) (by omega) (by omega) (by rw [g1.1]; exact a1)) ?_
                  refine tu_bipush 108 X dX4_findAt_108 (by decide) ?_
                  refine tu_iload_n 110 X 1 dX4_findAt_110 rfl ?_
                  refine tu_iconst 111 X dX4_findAt_111 ?_
                  refine tu_iadd 112 X dX4_findAt_112 ?_
                  refine tu_imul 113 X dX4_findAt_113 ?_
                  refine tu_iload_n 114 X 2 dX4_findAt_114 rfl ?_
                  refine tu_iadd 115 X dX4_findAt_115 ?_
                  refine tu_iload 116 X 4 dX4_findAt_116 rfl ?_
                  refine tu_iadd 118 X dX4_findAt_118 ?_
                  refine tu_st_eq (show _ = [tu_i (((25 * (s + 1) + b + (e9 + 1)) : Nat) : Int), tu_i (tu_zh L a k c s b (e9 + 1)), tu_i ((((25 * s) + b) : Nat) : Int), tu_r 86] from by first | rfl | (simp only [List.cons.injEq, Sum.inl.injEq, and_true, true_and]; omega)) rfl ?_
                  refine tu_callVV 119 X (st := []) (as := [tu_i ((((25 * s) + b) : Nat) : Int), tu_i (tu_zh L a k c s b (e9 + 1)), tu_i (((25 * (s + 1) + b + (e9 + 1)) : Nat) : Int)]) (c_X4_takesIn ((25 * s) + b) (tu_zh L a k c s b (e9 + 1)) (25 * (s + 1) + b + (e9 + 1)) (show ((25 * s) + b) < 425 from by omega) (show (25 * (s + 1) + b + (e9 + 1)) < 425 ∧ (25 * (s + 1) + b + (e9 + 1)) ≠ ((25 * s) + b) from by omega) (show tu_rg (tu_zh L a k c s b (e9 + 1)) from by exact ⟨by omega, by omega⟩) (show tu_rg (C ((25 * s) + b)) from by exact ⟨by omega, by omega⟩) (show (0 ≤ W ((25 * s) + b) ∧ W ((25 * s) + b) ≤ 1000000) ∧ 0 ≤ W (25 * (s + 1) + b + (e9 + 1)) ∧ W (25 * (s + 1) + b + (e9 + 1)) ≤ 1000000 from by rw [g1.2.1]; exact ⟨rgs.2.1, a2.1⟩) (show (0 ≤ U ((25 * s) + b) ∧ U ((25 * s) + b) ≤ 1000000) ∧ 0 ≤ U (25 * (s + 1) + b + (e9 + 1)) ∧ U (25 * (s + 1) + b + (e9 + 1)) ≤ 1000000 from by rw [g1.2.2]; exact ⟨rgs.2.2, a2.2⟩)) sv_RX4_100 dX4_findAt_119 rfl (by decide) rfl rfl rfl (Nat.le_of_ble_eq_true rfl) ⟨by decide, by decide⟩ (fun M' h => ?_)
                  have hM119 := h
                  refine tu_st_eq rfl (M' := tu_row (tu_row (tu_row M 92 (tu_u (C) ((25 * s) + b) (min (tu_zh L a k c s b (e9 + 1)) (C ((25 * s) + b))))) 93 (tu_u (W) ((25 * s) + b) (min (W ((25 * s) + b) + W (25 * (s + 1) + b + (e9 + 1))) 1000000))) 94 (tu_u (U) ((25 * s) + b) (tu_tu (tu_zh L a k c s b (e9 + 1)) (C ((25 * s) + b)) (U ((25 * s) + b)) (U (25 * (s + 1) + b + (e9 + 1)))))) (hM119.trans ((congrArg (fun m => tu_row m 94 (tu_u (U) ((25 * s) + b) (tu_tu (tu_zh L a k c s b (e9 + 1)) (C ((25 * s) + b)) (U ((25 * s) + b)) (U (25 * (s + 1) + b + (e9 + 1)))))) ((congrArg (fun m => tu_row m 93 (tu_u (W) ((25 * s) + b) (min (W ((25 * s) + b) + W (25 * (s + 1) + b + (e9 + 1))) 1000000))) ((tu_rc (tu_row (tu_row M 92 C) 93 W) U (tu_u (C) ((25 * s) + b) (min (tu_zh L a k c s b (e9 + 1)) (C ((25 * s) + b)))) rfl).trans (congrArg (fun m => tu_row m 94 U) ((tu_rc (tu_row M 92 C) W (tu_u (C) ((25 * s) + b) (min (tu_zh L a k c s b (e9 + 1)) (C ((25 * s) + b)))) rfl).trans (congrArg (fun m => tu_row m 93 W) (tu_rr M 92 C (tu_u (C) ((25 * s) + b) (min (tu_zh L a k c s b (e9 + 1)) (C ((25 * s) + b)))))))))).trans ((tu_rc (tu_row (tu_row M 92 (tu_u (C) ((25 * s) + b) (min (tu_zh L a k c s b (e9 + 1)) (C ((25 * s) + b))))) 93 W) U (tu_u (W) ((25 * s) + b) (min (W ((25 * s) + b) + W (25 * (s + 1) + b + (e9 + 1))) 1000000)) rfl).trans (congrArg (fun m => tu_row m 94 U) (tu_rr (tu_row M 92 (tu_u (C) ((25 * s) + b) (min (tu_zh L a k c s b (e9 + 1)) (C ((25 * s) + b))))) 93 W (tu_u (W) ((25 * s) + b) (min (W ((25 * s) + b) + W (25 * (s + 1) + b + (e9 + 1))) 1000000))))))).trans (tu_rr (tu_row (tu_row M 92 (tu_u (C) ((25 * s) + b) (min (tu_zh L a k c s b (e9 + 1)) (C ((25 * s) + b))))) 93 (tu_u (W) ((25 * s) + b) (min (W ((25 * s) + b) + W (25 * (s + 1) + b + (e9 + 1))) 1000000))) 94 U (tu_u (U) ((25 * s) + b) (tu_tu (tu_zh L a k c s b (e9 + 1)) (C ((25 * s) + b)) (U ((25 * s) + b)) (U (25 * (s + 1) + b + (e9 + 1)))))))) ?_
                  refine tu_iinc 122 X (lv' := [(4, tu_i ((((e9 : Nat) : Int) + 1) + 1)), (0, tu_r 86), (1, tu_i ((s : Nat) : Int)), (2, tu_i ((b : Nat) : Int)), (3, tu_i ((25 * ((s : Nat) : Int)) + ((b : Nat) : Int)))]) 4 dX4_findAt_122 rfl (by rw [hnl]; decide) rfl ?_
                  refine tu_goto 125 X 54 dX4_findAt_125 (by decide) ?_
                  refine tu_jmp [1, 2, 3, 4, 0] (lv' := [(0, tu_r 86), (1, tu_i ((s : Nat) : Int)), (2, tu_i ((b : Nat) : Int)), (3, tu_i ((25 * ((s : Nat) : Int)) + ((b : Nat) : Int))), (4, tu_i ((((e9 + 1) : Nat) : Int) + 1))]) ⟨rfl, rfl, rfl, rfl, tu_ei (by first | rfl | omega), trivial⟩ rfl (ih54 (e9 + 1) (tu_u (C) ((25 * s) + b) (min (tu_zh L a k c s b (e9 + 1)) (C ((25 * s) + b)))) (tu_u (W) ((25 * s) + b) (min (W ((25 * s) + b) + W (25 * (s + 1) + b + (e9 + 1))) 1000000)) (tu_u (U) ((25 * s) + b) (tu_tu (tu_zh L a k c s b (e9 + 1)) (C ((25 * s) + b)) (U ((25 * s) + b)) (U (25 * (s + 1) + b + (e9 + 1))))) (by omega) (by exact hF.step rfl ⟨nn.2.1.1, nn.2.1.2⟩ ⟨nn.2.2.1, nn.2.2.2⟩) (by omega))
      refine tu_jmp [1, 2, 3, 4, 0] (lv' := [(0, tu_r 86), (1, tu_i ((s : Nat) : Int)), (2, tu_i ((b : Nat) : Int)), (3, tu_i ((25 * ((s : Nat) : Int)) + ((b : Nat) : Int))), (4, tu_i (((0 : Nat) : Int) + 1))]) ⟨rfl, rfl, rfl, rfl, tu_ei (by first | rfl | omega), trivial⟩ rfl (lp54 ((9 - 0) + 1) 0 C W U (by omega) (by exact hF0) (by omega))
  refine tu_iload_n 29 X 3 dX4_findAt_29 rfl ?_
  refine tu_aload_n 30 X 1 dX4_findAt_30 rfl ?_
  refine tu_getI 31 X (x := M 86 12) dX4_findAt_31 fl_RX4_72 (by decide) rfl rfl rfl ?_
  refine tu_tp (b := ((m : Nat) : Int)) (by exact hM.2.1.1) ?_
  refine tu_icmp_ge 34 X 51 dX4_findAt_34 (by decide) (show tu_rg ((b : Nat) : Int) from by first | assumption | exact ⟨by omega, by omega⟩) (show tu_rg ((m : Nat) : Int) from by first | assumption | exact ⟨by omega, by omega⟩) (fun br34 => ?_) (fun br34 => ?_)
  ·
    refine tu_jmp [1, 2, 3, 0] (lv' := [(0, tu_r 86), (1, tu_i ((s : Nat) : Int)), (2, tu_i ((b : Nat) : Int)), (3, tu_i ((25 * ((s : Nat) : Int)) + ((b : Nat) : Int)))]) ⟨rfl, rfl, rfl, rfl, trivial⟩ rfl (lp51 (tu_u (M 92) ((25 * s) + b) 1000000000) (tu_u (M 93) ((25 * s) + b) 0) (tu_u (M 94) ((25 * s) + b) 0) (by first | exact tu_FS_none (by omega) | exact tu_FS_free (by omega) rfl))
  ·
    have af := hA s (b + 1) hs9 (by omega) (Or.inr ⟨rfl, by omega⟩)
    have bz := tu_nv_rg (hT.cf hK hs9 (show b < m from by omega)).1
    have bz2 := tu_nv_rg (hT.bd hK.2.2.1.2 hs9 (show b + 1 ≤ m from by omega)).1
    have a1 : M 92 (25 * s + b + 1) = tu_nv (c (s * 25 + (b + 1))) := af.1
    have a2 : (0 ≤ M 93 (25 * s + b + 1) ∧ M 93 (25 * s + b + 1) ≤ 1000000) ∧ 0 ≤ M 94 (25 * s + b + 1) ∧ M 94 (25 * s + b + 1) ≤ 1000000 := af.2.1
    refine tu_aload_n 37 X 1 dX4_findAt_37 rfl ?_
    refine tu_iload_n 38 X 0 dX4_findAt_38 rfl ?_
    refine tu_aload_n 39 X 1 dX4_findAt_39 rfl ?_
    refine tu_iload_n 40 X 2 dX4_findAt_40 rfl ?_
    refine tu_iload_n 41 X 3 dX4_findAt_41 rfl ?_
    refine tu_callVI 42 X (st := [tu_i ((25 * ((s : Nat) : Int)) + ((b : Nat) : Int)), tu_r 86]) (as := [tu_i ((s : Nat) : Int), tu_i ((b : Nat) : Int)]) (c_X4_costFree L a k r n m s b (show tu_LM (M 86) a k n m (L 0) from by first | assumption | omega | exact ⟨by omega, by omega⟩ | decide) (show M 87 1 = L 1 ∧ M 87 2 = L 2 ∧ M 87 3 = L 3 from by first | assumption | omega | exact ⟨by omega, by omega⟩ | decide) (show tu_LK L a k r n m from by first | assumption | omega | exact ⟨by omega, by omega⟩ | decide) (show s ≤ n from by first | assumption | omega | exact ⟨by omega, by omega⟩ | decide) (show b < m from by first | assumption | omega | exact ⟨by omega, by omega⟩ | decide) (show tu_rg ((tu_u (M 92) ((25 * s) + b) 1000000000) (25 * s + b + 1)) from by rw [tu_u_n _ _ (by omega), a1]; exact ⟨by omega, by omega⟩)) sv_RX4_96 dX4_findAt_42 rfl (by decide) rfl rfl rfl (Nat.le_of_ble_eq_true rfl) ⟨by decide, by decide⟩ (fun z M' h => ?_)
    obtain ⟨hM42, hz42⟩ := h
    refine tu_st_eq rfl (M' := tu_row (tu_row (tu_row M 92 (tu_u (M 92) ((25 * s) + b) 1000000000)) 93 (tu_u (M 93) ((25 * s) + b) 0)) 94 (tu_u (M 94) ((25 * s) + b) 0)) hM42 ?_
    refine tu_tp (b := (if (tu_u (M 92) ((25 * s) + b) 1000000000) (25 * s + b + 1) = 1000000000 then 1000000000 else (tu_u (M 92) ((25 * s) + b) 1000000000) (25 * s + b + 1) + (if k b = 0 then 0 else L 2))) hz42 ?_
    refine tu_tp (b := (tu_nv (tu_cf L k c s b))) (by exact tu_nv_cf hK hT hs9 (by omega) (by rw [tu_u_n _ _ (by omega)]; exact a1)) ?_
    refine tu_iload_n 45 X 0 dX4_findAt_45 rfl ?_
    refine tu_iconst 46 X dX4_findAt_46 ?_
    refine tu_iadd 47 X dX4_findAt_47 ?_
    refine tu_st_eq (show _ = [tu_i (((((25 * s) + b) + 1) : Nat) : Int), tu_i (tu_nv (tu_cf L k c s b)), tu_i ((((25 * s) + b) : Nat) : Int), tu_r 86] from by first | rfl | (simp only [List.cons.injEq, Sum.inl.injEq, and_true, true_and]; omega)) rfl ?_
    refine tu_callVV 48 X (st := []) (as := [tu_i ((((25 * s) + b) : Nat) : Int), tu_i (tu_nv (tu_cf L k c s b)), tu_i (((((25 * s) + b) + 1) : Nat) : Int)]) (c_X4_takesIn ((25 * s) + b) (tu_nv (tu_cf L k c s b)) (((25 * s) + b) + 1) (show ((25 * s) + b) < 425 from by omega) (show (((25 * s) + b) + 1) < 425 ∧ (((25 * s) + b) + 1) ≠ ((25 * s) + b) from by omega) (show tu_rg (tu_nv (tu_cf L k c s b)) from by exact ⟨by omega, by omega⟩) (show tu_rg ((tu_u (M 92) ((25 * s) + b) 1000000000) ((25 * s) + b)) from by rw [tu_u_s]; exact ⟨by decide, by decide⟩) (show (0 ≤ (tu_u (M 93) ((25 * s) + b) 0) ((25 * s) + b) ∧ (tu_u (M 93) ((25 * s) + b) 0) ((25 * s) + b) ≤ 1000000) ∧ 0 ≤ (tu_u (M 93) ((25 * s) + b) 0) (((25 * s) + b) + 1) ∧ (tu_u (M 93) ((25 * s) + b) 0) (((25 * s) + b) + 1) ≤ 1000000 from by rw [tu_u_s, tu_u_n _ _ (by omega)]; exact ⟨⟨by decide, by decide⟩, a2.1⟩) (show (0 ≤ (tu_u (M 94) ((25 * s) + b) 0) ((25 * s) + b) ∧ (tu_u (M 94) ((25 * s) + b) 0) ((25 * s) + b) ≤ 1000000) ∧ 0 ≤ (tu_u (M 94) ((25 * s) + b) 0) (((25 * s) + b) + 1) ∧ (tu_u (M 94) ((25 * s) + b) 0) (((25 * s) + b) + 1) ≤ 1000000 from by rw [tu_u_s, tu_u_n _ _ (by omega)]; exact ⟨⟨by decide, by decide⟩, a2.2⟩)) sv_RX4_100 dX4_findAt_48 rfl (by decide) rfl rfl rfl (Nat.le_of_ble_eq_true rfl) ⟨by decide, by decide⟩ (fun M' h => ?_)
    have hM48 := h
    refine tu_st_eq rfl (M' := tu_row (tu_row (tu_row M 92 (tu_u ((tu_u (M 92) ((25 * s) + b) 1000000000)) ((25 * s) + b) (min (tu_nv (tu_cf L k c s b)) ((tu_u (M 92) ((25 * s) + b) 1000000000) ((25 * s) + b))))) 93 (tu_u ((tu_u (M 93) ((25 * s) + b) 0)) ((25 * s) + b) (min ((tu_u (M 93) ((25 * s) + b) 0) ((25 * s) + b) + (tu_u (M 93) ((25 * s) + b) 0) (((25 * s) + b) + 1)) 1000000))) 94 (tu_u ((tu_u (M 94) ((25 * s) + b) 0)) ((25 * s) + b) (tu_tu (tu_nv (tu_cf L k c s b)) ((tu_u (M 92) ((25 * s) + b) 1000000000) ((25 * s) + b)) ((tu_u (M 94) ((25 * s) + b) 0) ((25 * s) + b)) ((tu_u (M 94) ((25 * s) + b) 0) (((25 * s) + b) + 1))))) (hM48.trans ((congrArg (fun m => tu_row m 94 (tu_u ((tu_u (M 94) ((25 * s) + b) 0)) ((25 * s) + b) (tu_tu (tu_nv (tu_cf L k c s b)) ((tu_u (M 92) ((25 * s) + b) 1000000000) ((25 * s) + b)) ((tu_u (M 94) ((25 * s) + b) 0) ((25 * s) + b)) ((tu_u (M 94) ((25 * s) + b) 0) (((25 * s) + b) + 1))))) ((congrArg (fun m => tu_row m 93 (tu_u ((tu_u (M 93) ((25 * s) + b) 0)) ((25 * s) + b) (min ((tu_u (M 93) ((25 * s) + b) 0) ((25 * s) + b) + (tu_u (M 93) ((25 * s) + b) 0) (((25 * s) + b) + 1)) 1000000))) ((tu_rc (tu_row (tu_row M 92 (tu_u (M 92) ((25 * s) + b) 1000000000)) 93 (tu_u (M 93) ((25 * s) + b) 0)) (tu_u (M 94) ((25 * s) + b) 0) (tu_u ((tu_u (M 92) ((25 * s) + b) 1000000000)) ((25 * s) + b) (min (tu_nv (tu_cf L k c s b)) ((tu_u (M 92) ((25 * s) + b) 1000000000) ((25 * s) + b)))) rfl).trans (congrArg (fun m => tu_row m 94 (tu_u (M 94) ((25 * s) + b) 0)) ((tu_rc (tu_row M 92 (tu_u (M 92) ((25 * s) + b) 1000000000)) (tu_u (M 93) ((25 * s) + b) 0) (tu_u ((tu_u (M 92) ((25 * s) + b) 1000000000)) ((25 * s) + b) (min (tu_nv (tu_cf L k c s b)) ((tu_u (M 92) ((25 * s) + b) 1000000000) ((25 * s) + b)))) rfl).trans (congrArg (fun m => tu_row m 93 (tu_u (M 93) ((25 * s) + b) 0)) (tu_rr M 92 (tu_u (M 92) ((25 * s) + b) 1000000000) (tu_u ((tu_u (M 92) ((25 * s) + b) 1000000000)) ((25 * s) + b) (min (tu_nv (tu_cf L k c s b)) ((tu_u (M 92) ((25 * s) + b) 1000000000) ((25 * s) + b)))))))))).trans ((tu_rc (tu_row (tu_row M 92 (tu_u ((tu_u (M 92) ((25 * s) + b) 1000000000)) ((25 * s) + b) (min (tu_nv (tu_cf L k c s b)) ((tu_u (M 92) ((25 * s) + b) 1000000000) ((25 * s) + b))))) 93 (tu_u (M 93) ((25 * s) + b) 0)) (tu_u (M 94) ((25 * s) + b) 0) (tu_u ((tu_u (M 93) ((25 * s) + b) 0)) ((25 * s) + b) (min ((tu_u (M 93) ((25 * s) + b) 0) ((25 * s) + b) + (tu_u (M 93) ((25 * s) + b) 0) (((25 * s) + b) + 1)) 1000000)) rfl).trans (congrArg (fun m => tu_row m 94 (tu_u (M 94) ((25 * s) + b) 0)) (tu_rr (tu_row M 92 (tu_u ((tu_u (M 92) ((25 * s) + b) 1000000000)) ((25 * s) + b) (min (tu_nv (tu_cf L k c s b)) ((tu_u (M 92) ((25 * s) + b) 1000000000) ((25 * s) + b))))) 93 (tu_u (M 93) ((25 * s) + b) 0) (tu_u ((tu_u (M 93) ((25 * s) + b) 0)) ((25 * s) + b) (min ((tu_u (M 93) ((25 * s) + b) 0) ((25 * s) + b) + (tu_u (M 93) ((25 * s) + b) 0) (((25 * s) + b) + 1)) 1000000))))))).trans (tu_rr (tu_row (tu_row M 92 (tu_u ((tu_u (M 92) ((25 * s) + b) 1000000000)) ((25 * s) + b) (min (tu_nv (tu_cf L k c s b)) ((tu_u (M 92) ((25 * s) + b) 1000000000) ((25 * s) + b))))) 93 (tu_u ((tu_u (M 93) ((25 * s) + b) 0)) ((25 * s) + b) (min ((tu_u (M 93) ((25 * s) + b) 0) ((25 * s) + b) + (tu_u (M 93) ((25 * s) + b) 0) (((25 * s) + b) + 1)) 1000000))) 94 (tu_u (M 94) ((25 * s) + b) 0) (tu_u ((tu_u (M 94) ((25 * s) + b) 0)) ((25 * s) + b) (tu_tu (tu_nv (tu_cf L k c s b)) ((tu_u (M 92) ((25 * s) + b) 1000000000) ((25 * s) + b)) ((tu_u (M 94) ((25 * s) + b) 0) ((25 * s) + b)) ((tu_u (M 94) ((25 * s) + b) 0) (((25 * s) + b) + 1))))))) ?_
    refine tu_jmp [1, 2, 3, 0] (lv' := [(0, tu_r 86), (1, tu_i ((s : Nat) : Int)), (2, tu_i ((b : Nat) : Int)), (3, tu_i ((25 * ((s : Nat) : Int)) + ((b : Nat) : Int)))]) ⟨rfl, rfl, rfl, rfl, trivial⟩ rfl (lp51 (tu_u ((tu_u (M 92) ((25 * s) + b) 1000000000)) ((25 * s) + b) (min (tu_nv (tu_cf L k c s b)) ((tu_u (M 92) ((25 * s) + b) 1000000000) ((25 * s) + b)))) (tu_u ((tu_u (M 93) ((25 * s) + b) 0)) ((25 * s) + b) (min ((tu_u (M 93) ((25 * s) + b) 0) ((25 * s) + b) + (tu_u (M 93) ((25 * s) + b) 0) (((25 * s) + b) + 1)) 1000000)) (tu_u ((tu_u (M 94) ((25 * s) + b) 0)) ((25 * s) + b) (tu_tu (tu_nv (tu_cf L k c s b)) ((tu_u (M 92) ((25 * s) + b) 1000000000) ((25 * s) + b)) ((tu_u (M 94) ((25 * s) + b) 0) ((25 * s) + b)) ((tu_u (M 94) ((25 * s) + b) 0) (((25 * s) + b) + 1)))) (by first | exact tu_FS_none (by omega) | exact tu_FS_free (by omega) rfl))
