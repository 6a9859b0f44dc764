theorem tu_cp0 {f g : Nat → Int} {a n j : Nat} (h : j < n) : va_cpy f g a 0 n j = f (a + j) := by
  unfold va_cpy
  rw [if_pos ⟨by omega, by omega⟩]
  congr 1
theorem tu_R0_s {L k c : Nat → Int} {n m j : Nat} (h : tu_R0 L k n m j c) (hj : 1 ≤ j) (hm : j ≤ m) (_h : j - 1 < m) (hl : 0 ≤ L 2 ∧ L 2 ≤ 9) (hm2 : m ≤ 24) : tu_R0 L k n m (j - 1) (tu_u c (n * 25 + (j - 1)) (tu_cf L k c n (j - 1))) := by
  have e : ∀ i, n * 25 + j ≤ i → tu_u c (n * 25 + (j - 1)) (tu_cf L k c n (j - 1)) i = c i := fun i hi => tu_u_n _ _ (by omega)
  have h2 := h.q e hm
  refine ⟨h2.1, fun b h1 hb => ?_⟩
  rcases Nat.eq_or_lt_of_le h1 with q | q
  · subst q
    rw [tu_u_s, tu_cf_q (e _ (by omega))]
    have hv : 0 ≤ c (n * 25 + (j - 1) + 1) ∧ c (n * 25 + (j - 1) + 1) ≤ 9 * ((m : Int) - (j : Int)) := by
      rw [show n * 25 + (j - 1) + 1 = n * 25 + j by omega]
      rcases Nat.lt_or_ge j m with q | q
      · exact (h.2 j (Nat.le_refl _) q).2
      · rw [show j = m by omega, h.1]; omega
    refine ⟨rfl, ?_⟩
    unfold tu_cf
    split <;> omega
  · exact h2.2 b (by omega) hb
theorem tu_RS_s {L a k r c : Nat → Int} {n m j : Nat} (h : tu_RS L a k r n m j c) (hB : tu_RB L a k r m (j - 1) 0 c) (_hj : 1 ≤ j) : tu_RS L a k r n m (j - 1) c := by
  intro t h1 h2
  rcases Nat.eq_or_lt_of_le h1 with q | q
  · rw [← q]; exact hB
  · exact h t (by omega) h2
theorem tu_cf_bd {L a k r c : Nat → Int} {n m s i b : Nat} (hK : tu_LK L a k r n m) (_hR : tu_R0 L k n m 0 c) (_hS : tu_RS L a k r n m (s + 1) c) (hB : tu_RB L a k r m s i c) (_hs : s < n) (hb : b + 1 = i) (hi : i ≤ m) : 0 ≤ tu_cf L k c s b ∧ tu_cf L k c s b ≤ 1000009 := by
  have h := hB.bd (b := i) (Nat.le_refl _) hi
  have hl := hK.2.2.2.2.2.1
  unfold tu_cf
  rw [show s * 25 + b + 1 = s * 25 + i by omega]
  split <;> omega
theorem tu_RB_s {L a k r c : Nat → Int} {n m s i v : Nat} {w : Int} (hK : tu_LK L a k r n m) (hR : tu_R0 L k n m 0 c) (hS : tu_RS L a k r n m (s + 1) c) (hB : tu_RB L a k r m s i c) (hi : 1 ≤ i) (hs : s < n) (hw : w = min (tu_mn (tu_cf L k c s (i - 1)) (tu_ch L a k c s (i - 1)) (tu_mh L r (i - 1))) 1000000) (hm : i ≤ m := by omega) (hv : v = s * 25 + (i - 1) := by rfl) : tu_RB L a k r m s (i - 1) (tu_u c v w) := by
  subst hv
  have e : ∀ q, s * 25 + i ≤ q → tu_u c (s * 25 + (i - 1)) w q = c q := fun q hq => tu_u_n _ _ (by omega)
  have hM : ∀ b, b < m → b + tu_mh L r b ≤ m := fun b hb => (tu_mh_le hK hb).1
  have h2 := hB.q hM e hm
  refine ⟨h2.1, fun b h1 hb => ?_⟩
  rcases Nat.eq_or_lt_of_le h1 with q | q
  · subst q
    have hMb := hM (i - 1) (by omega)
    rw [tu_u_s, tu_cf_q (e _ (by omega)), tu_mn_q (g := tu_ch L a k c s (i - 1)) (fun q h1 h2 => tu_ch_q (e _ (by omega)))]
    refine ⟨hw, ?_⟩
    have g1 := tu_cf_bd (b := i - 1) hK hR hS hB hs (by omega) hm
    have g2 := tu_mn_bd (n := tu_mh L r (i - 1)) (f := tu_ch L a k c s (i - 1)) g1.1 g1.2 (fun q h1 h2 => (tu_ch_bd hK hR hS hs (by omega) h1 h2).1)
    omega
  · exact h2.2 b (by omega) hb
theorem tu_rr_s {k r : Nat → Int} {m j : Nat} {v : Int} (hr : ∀ b, j ≤ b → b < m → r b = if k b = 0 then 0 else r (b + 1) + 1) (hj : 1 ≤ j) (hv : v = if k (j - 1) = 0 then 0 else r j + 1) : ∀ b, j - 1 ≤ b → b < m → tu_u r (j - 1) v b = if k b = 0 then 0 else tu_u r (j - 1) v (b + 1) + 1 := by
  intro b h1 h2
  rcases Nat.eq_or_lt_of_le h1 with q | q
  · subst q
    rw [tu_u_s, tu_u_n _ _ (by omega), hv, show j - 1 + 1 = j by omega]
  · rw [tu_u_n _ _ (by omega), tu_u_n _ _ (by omega)]
    exact hr b (by omega) h2

set_option maxRecDepth 20000 in
set_option maxHeartbeats 4000000 in
theorem c_X1_take {M : tu_M} (l p : Nat) (hB : tu_OK M) (hl : (l : Int) < M 1 1) (hp : (p : Int) < M 1 4) : tu_MV tu_Y_X1_take [tu_r 11, tu_r 1, tu_i ((l : Nat) : Int), tu_i ((p : Nat) : Int)] M (fun M' => ∃ (L : Nat → Int) (a : Nat → Int) (k : Nat → Int) (r : Nat → Int), M' = tu_row (tu_row (tu_row (tu_row M 11 L) 12 a) 13 k) 14 r ∧ (tu_LK L a k r (M 3 l).toNat (M 5 p).toNat) ∧ ((L 0 = M 2 0 ∧ L 1 = M 2 1 ∧ L 2 = M 2 2 ∧ L 3 = M 2 3) ∧ (∀ s, s < (M 3 l).toNat → a s = M 4 (l * 16 + s)) ∧ (∀ b, b < (M 5 p).toNat → k b = M 6 (p * 24 + b)))) := by
  have cn := hB.cnt
  have hs := hB.syl l hl
  have hb := hB.bts p hp
  have hse := hB.set
  obtain ⟨n, hn⟩ : ∃ n : Nat, M 3 l = (n : Int) := ⟨(M 3 l).toNat, by omega⟩
  obtain ⟨m, hm⟩ : ∃ m : Nat, M 5 p = (m : Int) := ⟨(M 5 p).toNat, by omega⟩
  refine tu_MV.of (by decide) rfl (Nat.le_of_ble_eq_true rfl) (fun T (X : tu_X T cX1_take RX1 1 40) hnl hret => ?_)
  have hret : tu_RV T cX1_take (fun M' => ∃ (L : Nat → Int) (a : Nat → Int) (k : Nat → Int) (r : Nat → Int), M' = tu_row (tu_row (tu_row (tu_row M 11 L) 12 a) 13 k) 14 r ∧ (tu_LK L a k r (M 3 l).toNat (M 5 p).toNat) ∧ ((L 0 = M 2 0 ∧ L 1 = M 2 1 ∧ L 2 = M 2 2 ∧ L 3 = M 2 3) ∧ (∀ s, s < (M 3 l).toNat → a s = M 4 (l * 16 + s)) ∧ (∀ b, b < (M 5 p).toNat → k b = M 6 (p * 24 + b)))) := hret
  have hnl : T.2.2.2.2.2.2.2.2.2.2.1 = 5 := hnl
  show tu_W T 0 [(0, tu_r 11), (1, tu_r 1), (2, tu_i ((l : Nat) : Int)), (3, tu_i ((p : Nat) : Int))] [] M
  refine tu_aload_n 0 X 0 dX1_take_0 rfl ?_
  refine tu_aload_n 1 X 1 dX1_take_1 rfl ?_
  refine tu_getR 2 X dX1_take_2 fl_RX1_52 (by decide) rfl rfl ?_
  refine tu_iconst 5 X dX1_take_5 ?_
  refine tu_iald 6 X (x := M 2 0) 0 dX1_take_6 (by decide) rfl (by decide) rfl (by decide) rfl ?_
  refine tu_putI 7 X (M' := tu_row M 11 (tu_u (M 11) 0 (M 2 0))) dX1_take_7 fp_RX1_9 (by decide) rfl rfl rfl ?_
  refine tu_aload_n 10 X 0 dX1_take_10 rfl ?_
  refine tu_aload_n 11 X 1 dX1_take_11 rfl ?_
  refine tu_getR 12 X dX1_take_12 fl_RX1_52 (by decide) rfl rfl ?_
  refine tu_iconst 15 X dX1_take_15 ?_
  refine tu_iald 16 X (x := M 2 1) 1 dX1_take_16 (by decide) rfl (by decide) rfl (by decide) rfl ?_
  refine tu_putI 17 X (M' := tu_row M 11 (tu_u (tu_u (M 11) 0 (M 2 0)) 1 (M 2 1))) dX1_take_17 fp_RX1_15 (by decide) rfl rfl (tu_rr M 11 (tu_u (M 11) 0 (M 2 0)) (tu_u (tu_u (M 11) 0 (M 2 0)) 1 (M 2 1))) ?_
  refine tu_aload_n 20 X 0 dX1_take_20 rfl ?_
  refine tu_aload_n 21 X 1 dX1_take_21 rfl ?_
  refine tu_getR 22 X dX1_take_22 fl_RX1_52 (by decide) rfl rfl ?_
  refine tu_iconst 25 X dX1_take_25 ?_
  refine tu_iald 26 X (x := M 2 2) 2 dX1_take_26 (by decide) rfl (by decide) rfl (by decide) rfl ?_
  refine tu_putI 27 X (M' := tu_row M 11 (tu_u (tu_u (tu_u (M 11) 0 (M 2 0)) 1 (M 2 1)) 2 (M 2 2))) dX1_take_27 fp_RX1_18 (by decide) rfl rfl (tu_rr M 11 (tu_u (tu_u (M 11) 0 (M 2 0)) 1 (M 2 1)) (tu_u (tu_u (tu_u (M 11) 0 (M 2 0)) 1 (M 2 1)) 2 (M 2 2))) ?_
  refine tu_aload_n 30 X 0 dX1_take_30 rfl ?_
  refine tu_aload_n 31 X 1 dX1_take_31 rfl ?_
  refine tu_getR 32 X dX1_take_32 fl_RX1_52 (by decide) rfl rfl ?_
  refine tu_iconst 35 X dX1_take_35 ?_
  refine tu_iald 36 X (x := M 2 3) 3 dX1_take_36 (by decide) rfl (by decide) rfl (by decide) rfl ?_
  refine tu_putI 37 X (M' := tu_row M 11 (tu_u (tu_u (tu_u (tu_u (M 11) 0 (M 2 0)) 1 (M 2 1)) 2 (M 2 2)) 3 (M 2 3))) dX1_take_37 fp_RX1_21 (by decide) rfl rfl (tu_rr M 11 (tu_u (tu_u (tu_u (M 11) 0 (M 2 0)) 1 (M 2 1)) 2 (M 2 2)) (tu_u (tu_u (tu_u (tu_u (M 11) 0 (M 2 0)) 1 (M 2 1)) 2 (M 2 2)) 3 (M 2 3))) ?_
  refine tu_aload_n 40 X 0 dX1_take_40 rfl ?_
  refine tu_aload_n 41 X 1 dX1_take_41 rfl ?_
  refine tu_getR 42 X dX1_take_42 fl_RX1_57 (by decide) rfl rfl ?_
  refine tu_iload_n 45 X 2 dX1_take_45 rfl ?_
  refine tu_iald 46 X (x := M 3 l) l dX1_take_46 (by decide) rfl (by decide) (by omega) (by omega) rfl ?_
  refine tu_tp (b := ((n : Nat) : Int)) (by exact hn) ?_
  refine tu_putI 47 X (M' := tu_row M 11 (tu_u (tu_u (tu_u (tu_u (tu_u (M 11) 0 (M 2 0)) 1 (M 2 1)) 2 (M 2 2)) 3 (M 2 3)) 4 ((n : Nat) : Int))) dX1_take_47 fp_RX1_24 (by decide) rfl rfl (tu_rr M 11 (tu_u (tu_u (tu_u (tu_u (M 11) 0 (M 2 0)) 1 (M 2 1)) 2 (M 2 2)) 3 (M 2 3)) (tu_u (tu_u (tu_u (tu_u (tu_u (M 11) 0 (M 2 0)) 1 (M 2 1)) 2 (M 2 2)) 3 (M 2 3)) 4 ((n : Nat) : Int))) ?_
  refine tu_aload_n 50 X 0 dX1_take_50 rfl ?_
  refine tu_aload_n 51 X 1 dX1_take_51 rfl ?_
  refine tu_getR 52 X dX1_take_52 fl_RX1_60 (by decide) rfl rfl ?_
  refine tu_iload_n 55 X 3 dX1_take_55 rfl ?_
  refine tu_iald 56 X (x := M 5 p) p dX1_take_56 (by decide) rfl (by decide) (by omega) (by omega) rfl ?_
  refine tu_tp (b := ((m : Nat) : Int)) (by exact hm) ?_
  refine tu_putI 57 X (M' := tu_row M 11 (tu_u (tu_u (tu_u (tu_u (tu_u (tu_u (M 11) 0 (M 2 0)) 1 (M 2 1)) 2 (M 2 2)) 3 (M 2 3)) 4 ((n : Nat) : Int)) 5 ((m : Nat) : Int))) dX1_take_57 fp_RX1_27 (by decide) rfl rfl (tu_rr M 11 (tu_u (tu_u (tu_u (tu_u (tu_u (M 11) 0 (M 2 0)) 1 (M 2 1)) 2 (M 2 2)) 3 (M 2 3)) 4 ((n : Nat) : Int)) (tu_u (tu_u (tu_u (tu_u (tu_u (tu_u (M 11) 0 (M 2 0)) 1 (M 2 1)) 2 (M 2 2)) 3 (M 2 3)) 4 ((n : Nat) : Int)) 5 ((m : Nat) : Int))) ?_
  refine tu_aload_n 60 X 1 dX1_take_60 rfl ?_
  refine tu_getR 61 X dX1_take_61 fl_RX1_63 (by decide) rfl rfl ?_
  refine tu_iload_n 64 X 2 dX1_take_64 rfl ?_
  refine tu_bipush 65 X dX1_take_65 (by decide) ?_
  refine tu_imul 67 X dX1_take_67 ?_
  refine tu_aload_n 68 X 0 dX1_take_68 rfl ?_
  refine tu_getR 69 X dX1_take_69 fl_RX1_30 (by decide) rfl rfl ?_
  refine tu_iconst 72 X dX1_take_72 ?_
  refine tu_aload_n 73 X 0 dX1_take_73 rfl ?_
  refine tu_getI 74 X (x := (tu_u (tu_u (tu_u (tu_u (tu_u (tu_u (M 11) 0 (M 2 0)) 1 (M 2 1)) 2 (M 2 2)) 3 (M 2 3)) 4 ((n : Nat) : Int)) 5 ((m : Nat) : Int)) 4) dX1_take_74 fl_RX1_24 (by decide) rfl rfl rfl ?_
  refine tu_tp (b := ((n : Nat) : Int)) (by rfl) ?_
  refine tu_copy 77 X (M' := tu_row (tu_row M 11 (tu_u (tu_u (tu_u (tu_u (tu_u (tu_u (M 11) 0 (M 2 0)) 1 (M 2 1)) 2 (M 2 2)) 3 (M 2 3)) 4 ((n : Nat) : Int)) 5 ((m : Nat) : Int))) 12 (va_cpy (M 4) (M 12) (l * 16) 0 n)) (l * 16) 0 n ac_RX1 dX1_take_77 (by decide) (by decide) rfl rfl (by decide) (by decide) (by omega) rfl (by omega) (by omega) (by omega) rfl (Nat.le_of_ble_eq_true rfl) (by decide) (Nat.le_trans nf_le (by decide)) ?_
  refine tu_aload_n 80 X 1 dX1_take_80 rfl ?_
  refine tu_getR 81 X dX1_take_81 fl_RX1_70 (by decide) rfl rfl ?_
  refine tu_iload_n 84 X 3 dX1_take_84 rfl ?_
  refine tu_bipush 85 X dX1_take_85 (by decide) ?_
  refine tu_imul 87 X dX1_take_87 ?_
  refine tu_aload_n 88 X 0 dX1_take_88 rfl ?_
  refine tu_getR 89 X dX1_take_89 fl_RX1_34 (by decide) rfl rfl ?_
  refine tu_iconst 92 X dX1_take_92 ?_
  refine tu_aload_n 93 X 0 dX1_take_93 rfl ?_
  refine tu_getI 94 X (x := (tu_u (tu_u (tu_u (tu_u (tu_u (tu_u (M 11) 0 (M 2 0)) 1 (M 2 1)) 2 (M 2 2)) 3 (M 2 3)) 4 ((n : Nat) : Int)) 5 ((m : Nat) : Int)) 5) dX1_take_94 fl_RX1_27 (by decide) rfl rfl rfl ?_
  refine tu_tp (b := ((m : Nat) : Int)) (by rfl) ?_
  refine tu_copy 97 X (M' := tu_row (tu_row (tu_row M 11 (tu_u (tu_u (tu_u (tu_u (tu_u (tu_u (M 11) 0 (M 2 0)) 1 (M 2 1)) 2 (M 2 2)) 3 (M 2 3)) 4 ((n : Nat) : Int)) 5 ((m : Nat) : Int))) 12 (va_cpy (M 4) (M 12) (l * 16) 0 n)) 13 (va_cpy (M 6) (M 13) (p * 24) 0 m)) (p * 24) 0 m ac_RX1 dX1_take_97 (by decide) (by decide) rfl rfl (by decide) (by decide) (by omega) rfl (by omega) (by omega) (by omega) rfl (Nat.le_of_ble_eq_true rfl) (by decide) (Nat.le_trans nf_le (by decide)) ?_
  obtain ⟨L, hL⟩ : ∃ f : Nat → Int, f = tu_u (tu_u (tu_u (tu_u (tu_u (tu_u (M 11) 0 (M 2 0)) 1 (M 2 1)) 2 (M 2 2)) 3 (M 2 3)) 4 ((n : Nat) : Int)) 5 ((m : Nat) : Int) := ⟨_, rfl⟩
  refine tu_st_eq rfl (M' := tu_row (tu_row (tu_row M 11 L) 12 (va_cpy (M 4) (M 12) (l * 16) 0 n)) 13 (va_cpy (M 6) (M 13) (p * 24) 0 m)) (by rw [hL]) ?_
  obtain ⟨a, ha⟩ : ∃ f : Nat → Int, f = va_cpy (M 4) (M 12) (l * 16) 0 n := ⟨_, rfl⟩
  refine tu_st_eq rfl (M' := tu_row (tu_row (tu_row M 11 L) 12 a) 13 (va_cpy (M 6) (M 13) (p * 24) 0 m)) (by rw [ha]) ?_
  obtain ⟨k, hk⟩ : ∃ f : Nat → Int, f = va_cpy (M 6) (M 13) (p * 24) 0 m := ⟨_, rfl⟩
  refine tu_st_eq rfl (M' := tu_row (tu_row (tu_row M 11 L) 12 a) 13 k) (by rw [hk]) ?_
  refine tu_aload_n 100 X 0 dX1_take_100 rfl ?_
  refine tu_getR 101 X dX1_take_101 fl_RX1_37 (by decide) rfl rfl ?_
  refine tu_aload_n 104 X 0 dX1_take_104 rfl ?_
  refine tu_getI 105 X (x := L 5) dX1_take_105 fl_RX1_27 (by decide) rfl rfl rfl ?_
  refine tu_tp (b := ((m : Nat) : Int)) (by rw [hL]; rfl) ?_
  refine tu_iconst 108 X dX1_take_108 ?_
  refine tu_iast 109 X (M' := tu_row (tu_row (tu_row (tu_row M 11 L) 12 a) 13 k) 14 (tu_u (M 14) m 0)) m dX1_take_109 (by decide) rfl (by decide) (by omega) (by omega) rfl ?_
  refine tu_aload_n 110 X 0 dX1_take_110 rfl ?_
  refine tu_getI 111 X (x := L 5) dX1_take_111 fl_RX1_27 (by decide) rfl rfl rfl ?_
  refine tu_tp (b := ((m : Nat) : Int)) (by rw [hL]; rfl) ?_
  refine tu_iconst 114 X dX1_take_114 ?_
  refine tu_isub 115 X dX1_take_115 ?_
  refine tu_istore 116 X (lv' := [(4, tu_i (((m : Nat) : Int) - 1)), (0, tu_r 11), (1, tu_r 1), (2, tu_i ((l : Nat) : Int)), (3, tu_i ((p : Nat) : Int))]) dX1_take_116 (by rw [hnl]; decide) rfl ?_
  have lp118 : ∀ (nq : Nat) (j : Nat) (r : Nat → Int), (j ≤ m) → (r m = 0) → (∀ b, j ≤ b → b < m → r b = if k b = 0 then 0 else r (b + 1) + 1) → j < nq → tu_W T 118 [(0, tu_r 11), (1, tu_r 1), (2, tu_i ((l : Nat) : Int)), (3, tu_i ((p : Nat) : Int)), (4, tu_i (((j : Nat) : Int) - 1))] [] (tu_row (tu_row (tu_row (tu_row M 11 L) 12 a) 13 k) 14 r) := by
    intro nq
    induction nq with
    | zero => intros; omega
    | succ nq ih118 =>
      intro j r hj h0 hr hn118
      refine tu_iload 118 X 4 dX1_take_118 rfl ?_
      refine tu_if_lt 120 X 161 dX1_take_120 (by decide) (show tu_rg (((j : Nat) : Int) - 1) from by first | assumption | exact ⟨by omega, by omega⟩) (fun br120 => ?_) (fun br120 => ?_)
      ·
        refine hret 161 _ _ dX1_take_161 ?_
        refine ⟨L, a, k, r, rfl, ?_, ?_⟩
        · rw [show (M 3 l).toNat = n from by omega, show (M 5 p).toNat = m from by omega]
          have ej : j = 0 := by omega
          subst ej
          refine ⟨⟨by rw [hL]; rfl, by rw [hL]; rfl⟩, by omega, by omega, ?_, ?_, ?_, ?_, ?_, ?_, h0, fun b hb9 => hr b (Nat.zero_le _) hb9⟩
          · have e : L 0 = M 2 0 := by rw [hL]; rfl
            omega
          · have e : L 1 = M 2 1 := by rw [hL]; rfl
            omega
          · have e : L 2 = M 2 2 := by rw [hL]; rfl
            omega
          · have e : L 3 = M 2 3 := by rw [hL]; rfl
            omega
          · intro b hb9
            rw [hk, tu_cp0 hb9]; exact hB.knd p b hp (by omega)
          · intro s hs9
            rw [ha, tu_cp0 hs9]; exact hB.str l s hl (by omega)
        · rw [show (M 3 l).toNat = n from by omega, show (M 5 p).toNat = m from by omega]
          exact ⟨⟨by rw [hL]; rfl, by rw [hL]; rfl, by rw [hL]; rfl, by rw [hL]; rfl⟩, fun s hs9 => by rw [ha, tu_cp0 hs9], fun b hb9 => by rw [hk, tu_cp0 hb9]⟩
      ·
        refine tu_jmp [0, 1, 2, 3, 4] (lv' := [(0, tu_r 11), (1, tu_r 1), (2, tu_i ((l : Nat) : Int)), (3, tu_i ((p : Nat) : Int)), (4, tu_i (((j - 1 : Nat)) : Int))]) ⟨rfl, rfl, rfl, rfl, tu_ei (by omega), trivial⟩ rfl ?_
        refine tu_aload_n 123 X 0 dX1_take_123 rfl ?_
        refine tu_getR 124 X dX1_take_124 fl_RX1_37 (by decide) rfl rfl ?_
        refine tu_iload 127 X 4 dX1_take_127 rfl ?_
        refine tu_aload_n 129 X 0 dX1_take_129 rfl ?_
        refine tu_getR 130 X dX1_take_130 fl_RX1_34 (by decide) rfl rfl ?_
        refine tu_iload 133 X 4 dX1_take_133 rfl ?_
        refine tu_iald 135 X (x := k (j - 1)) (j - 1) dX1_take_135 (by decide) rfl (by decide) (by omega) (by omega) rfl ?_
        have hkr : 0 ≤ k (j - 1) ∧ k (j - 1) ≤ 2 := by rw [hk, tu_cp0 (by omega)]; exact hB.knd p (j - 1) hp (by omega)
        refine tu_if_ne 136 X 143 dX1_take_136 (by decide) (show tu_rg (k (j - 1)) from by first | assumption | exact ⟨by omega, by omega⟩) (fun br136 => ?_) (fun br136 => ?_)
        ·
          have hk0 : k (j - 1) ≠ 0 := br136
          refine tu_aload_n 143 X 0 dX1_take_143 rfl ?_
          refine tu_getR 144 X dX1_take_144 fl_RX1_37 (by decide) rfl rfl ?_
          refine tu_iload 147 X 4 dX1_take_147 rfl ?_
          refine tu_iconst 149 X dX1_take_149 ?_
          refine tu_iadd 150 X dX1_take_150 ?_
          refine tu_iald 151 X (x := r ((j - 1) + 1)) ((j - 1) + 1) dX1_take_151 (by decide) rfl (by decide) (by omega) (by omega) rfl ?_
          refine tu_iconst 152 X dX1_take_152 ?_
          refine tu_iadd 153 X dX1_take_153 ?_
          refine tu_iast 154 X (M' := tu_row (tu_row (tu_row (tu_row M 11 L) 12 a) 13 k) 14 (tu_u r (j - 1) ((r ((j - 1) + 1)) + 1))) (j - 1) dX1_take_154 (by decide) rfl (by decide) (by omega) (by omega) (tu_rr (tu_row (tu_row (tu_row M 11 L) 12 a) 13 k) 14 r (tu_u r (j - 1) ((r ((j - 1) + 1)) + 1))) ?_
          refine tu_iinc 155 X (lv' := [(4, tu_i ((((j - 1 : Nat)) : Int) + (-1))), (0, tu_r 11), (1, tu_r 1), (2, tu_i ((l : Nat) : Int)), (3, tu_i ((p : Nat) : Int))]) 4 dX1_take_155 rfl (by rw [hnl]; decide) rfl ?_
          refine tu_goto 158 X 118 dX1_take_158 (by decide) ?_
          refine tu_jmp [1, 2, 3, 4, 0] (lv' := [(0, tu_r 11), (1, tu_r 1), (2, tu_i ((l : Nat) : Int)), (3, tu_i ((p : Nat) : Int)), (4, tu_i ((((j - 1) : Nat) : Int) - 1))]) ⟨rfl, rfl, rfl, rfl, tu_ei (by first | rfl | (omega)), trivial⟩ rfl (ih118 (j - 1) (tu_u r (j - 1) ((r ((j - 1) + 1)) + 1)) (by omega) (by rw [tu_u_n _ _ (by omega)]; exact h0) (by exact tu_rr_s hr (by omega) (by first | (rw [if_pos hk0]; done) | (rw [if_neg hk0, show j - 1 + 1 = j from by omega]; done))) (by omega))
        ·
          have hk0 : k (j - 1) = 0 := br136
          refine tu_iconst 139 X dX1_take_139 ?_
          refine tu_goto 140 X 154 dX1_take_140 (by decide) ?_
          refine tu_iast 154 X (M' := tu_row (tu_row (tu_row (tu_row M 11 L) 12 a) 13 k) 14 (tu_u r (j - 1) 0)) (j - 1) dX1_take_154 (by decide) rfl (by decide) (by omega) (by omega) (tu_rr (tu_row (tu_row (tu_row M 11 L) 12 a) 13 k) 14 r (tu_u r (j - 1) 0)) ?_
          refine tu_iinc 155 X (lv' := [(4, tu_i ((((j - 1 : Nat)) : Int) + (-1))), (0, tu_r 11), (1, tu_r 1), (2, tu_i ((l : Nat) : Int)), (3, tu_i ((p : Nat) : Int))]) 4 dX1_take_155 rfl (by rw [hnl]; decide) rfl ?_
          refine tu_goto 158 X 118 dX1_take_158 (by decide) ?_
          refine tu_jmp [1, 2, 3, 4, 0] (lv' := [(0, tu_r 11), (1, tu_r 1), (2, tu_i ((l : Nat) : Int)), (3, tu_i ((p : Nat) : Int)), (4, tu_i ((((j - 1) : Nat) : Int) - 1))]) ⟨rfl, rfl, rfl, rfl, tu_ei (by first | rfl | (omega)), trivial⟩ rfl (ih118 (j - 1) (tu_u r (j - 1) 0) (by omega) (by rw [tu_u_n _ _ (by omega)]; exact h0) (by exact tu_rr_s hr (by omega) (by first | (rw [if_pos hk0]; done) | (rw [if_neg hk0, show j - 1 + 1 = j from by omega]; done))) (by omega))
  refine tu_jmp [1, 2, 3, 4, 0] (lv' := [(0, tu_r 11), (1, tu_r 1), (2, tu_i ((l : Nat) : Int)), (3, tu_i ((p : Nat) : Int)), (4, tu_i (((m : Nat) : Int) - 1))]) ⟨rfl, rfl, rfl, rfl, rfl, trivial⟩ rfl (lp118 (m + 1) m (tu_u (M 14) m 0) (by omega) (by exact tu_u_s _ _ _) (by intro b h1 h2; omega) (by omega))
set_option maxRecDepth 20000 in
set_option maxHeartbeats 4000000 in
theorem c_X1_turnStress {M : tu_M} (s : Nat) (hs : s < 16) : tu_MV tu_Y_X1_turnStress [tu_r 11, tu_i ((s : Nat) : Int)] M (fun M' => M' = tu_row M 12 (tu_u (M 12) s (1 - (M 12 s)))) := by
  refine tu_MV.of (by decide) rfl (Nat.le_of_ble_eq_true rfl) (fun T (X : tu_X T cX1_turnStress RX1 0 0) hnl hret => ?_)
  have hret : tu_RV T cX1_turnStress (fun M' => M' = tu_row M 12 (tu_u (M 12) s (1 - (M 12 s)))) := hret
  have hnl : T.2.2.2.2.2.2.2.2.2.2.1 = 2 := hnl
  show tu_W T 0 [(0, tu_r 11), (1, tu_i ((s : Nat) : Int))] [] M
  refine tu_aload_n 0 X 0 dX1_turnStress_0 rfl ?_
  refine tu_getR 1 X dX1_turnStress_1 fl_RX1_30 (by decide) rfl rfl ?_
  refine tu_iload_n 4 X 1 dX1_turnStress_4 rfl ?_
  refine tu_iconst 5 X dX1_turnStress_5 ?_
  refine tu_aload_n 6 X 0 dX1_turnStress_6 rfl ?_
  refine tu_getR 7 X dX1_turnStress_7 fl_RX1_30 (by decide) rfl rfl ?_
  refine tu_iload_n 10 X 1 dX1_turnStress_10 rfl ?_
  refine tu_iald 11 X (x := M 12 s) s dX1_turnStress_11 (by decide) rfl (by decide) (by omega) (by omega) rfl ?_
  refine tu_isub 12 X dX1_turnStress_12 ?_
  refine tu_iast 13 X (M' := tu_row M 12 (tu_u (M 12) s (1 - (M 12 s)))) s dX1_turnStress_13 (by decide) rfl (by decide) (by omega) (by omega) rfl ?_
  refine hret 14 _ _ dX1_turnStress_14 ?_
  exact rfl
set_option maxRecDepth 20000 in
set_option maxHeartbeats 4000000 in
theorem c_X1_mostHeld {M : tu_M} (b n m : Nat) (hK : tu_LK (M 11) (M 12) (M 13) (M 14) n m) (hb : b < m) : tu_MI tu_Y_X1_mostHeld [tu_r 11, tu_i ((b : Nat) : Int)] M (fun z M' => M' = M ∧ z = ((tu_mh (M 11) (M 14) b : Nat) : Int)) := by
  obtain ⟨hK1, hKn, hKm, hK0, hKd, hKl, hKh, hKk, hKa, hKr⟩ := id hK
  obtain ⟨hK4, hK5⟩ := hK1
  have hr1 := hKr.le (m - b) b (by omega)
  refine tu_MI.of (ty := .int) (by decide) rfl (by first | exact Or.inl rfl | exact Or.inr rfl) (Nat.le_of_ble_eq_true rfl) (fun T (X : tu_X T cX1_mostHeld RX1 1 21) hnl hrt hret => ?_)
  have hret : tu_RI T cX1_mostHeld (fun z M' => M' = M ∧ z = ((tu_mh (M 11) (M 14) b : Nat) : Int)) := hret
  have hnl : T.2.2.2.2.2.2.2.2.2.2.1 = 2 := hnl
  show tu_W T 0 [(0, tu_r 11), (1, tu_i ((b : Nat) : Int))] [] M
  refine tu_aload_n 0 X 0 dX1_mostHeld_0 rfl ?_
  refine tu_getI 1 X (x := M 11 0) dX1_mostHeld_1 fl_RX1_9 (by decide) rfl rfl rfl ?_
  refine tu_aload_n 4 X 0 dX1_mostHeld_4 rfl ?_
  refine tu_getR 5 X dX1_mostHeld_5 fl_RX1_37 (by decide) rfl rfl ?_
  refine tu_iload_n 8 X 1 dX1_mostHeld_8 rfl ?_
  refine tu_iald 9 X (x := M 14 b) b dX1_mostHeld_9 (by decide) rfl (by decide) (by omega) (by omega) rfl ?_
  refine tu_mmin 10 X mn_RX1 dX1_mostHeld_10 (show tu_rg (M 11 0) from by first | assumption | exact ⟨by omega, by omega⟩) (show tu_rg (M 14 b) from by first | assumption | exact ⟨by omega, by omega⟩) (Nat.le_of_ble_eq_true rfl) (by decide) (by decide) ?_
  refine hret 13 _ _ (min (M 11 0) (M 14 b)) dX1_mostHeld_13 (fun h => by rw [hrt] at h; cases h) ?_
  exact ⟨rfl, by unfold tu_mh; omega⟩
set_option maxRecDepth 20000 in
set_option maxHeartbeats 4000000 in
theorem c_X1_hurts {M : tu_M} (s b n m : Nat) (hK : tu_LK (M 11) (M 12) (M 13) (M 14) n m) (hs : s < n) (hb : b < m) : tu_MI tu_Y_X1_hurts [tu_r 11, tu_i ((s : Nat) : Int), tu_i ((b : Nat) : Int)] M (fun z M' => M' = M ∧ z = tu_b (¬ (M 12 s = 1 ↔ M 13 b = 2))) := by
  obtain ⟨hK1, hKn, hKm, hK0, hKd, hKl, hKh, hKk, hKa, hKr⟩ := id hK
  obtain ⟨hK4, hK5⟩ := hK1
  refine tu_MI.of (ty := .boolean) (by decide) rfl (by first | exact Or.inl rfl | exact Or.inr rfl) (Nat.le_of_ble_eq_true rfl) (fun T (X : tu_X T cX1_hurts RX1 0 0) hnl hrt hret => ?_)
  have hret : tu_RI T cX1_hurts (fun z M' => M' = M ∧ z = tu_b (¬ (M 12 s = 1 ↔ M 13 b = 2))) := hret
  have hnl : T.2.2.2.2.2.2.2.2.2.2.1 = 3 := hnl
  show tu_W T 0 [(0, tu_r 11), (1, tu_i ((s : Nat) : Int)), (2, tu_i ((b : Nat) : Int))] [] M
  refine tu_aload_n 0 X 0 dX1_hurts_0 rfl ?_
  refine tu_getR 1 X dX1_hurts_1 fl_RX1_30 (by decide) rfl rfl ?_
  refine tu_iload_n 4 X 1 dX1_hurts_4 rfl ?_
  refine tu_iald 5 X (x := M 12 s) s dX1_hurts_5 (by decide) rfl (by decide) (by omega) (by omega) rfl ?_
  refine tu_iconst 6 X dX1_hurts_6 ?_
  have g1 := hKa s hs
  refine tu_icmp_ne 7 X 14 dX1_hurts_7 (by decide) (show tu_rg (M 12 s) from by first | assumption | exact ⟨by omega, by omega⟩) ⟨by decide, by decide⟩ (fun br7 => ?_) (fun br7 => ?_)
  ·
    refine tu_iconst 14 X dX1_hurts_14 ?_
    refine tu_aload_n 15 X 0 dX1_hurts_15 rfl ?_
    refine tu_getR 16 X dX1_hurts_16 fl_RX1_34 (by decide) rfl rfl ?_
    refine tu_iload_n 19 X 2 dX1_hurts_19 rfl ?_
    refine tu_iald 20 X (x := M 13 b) b dX1_hurts_20 (by decide) rfl (by decide) (by omega) (by omega) rfl ?_
    refine tu_iconst 21 X dX1_hurts_21 ?_
    have g2 := hKk b hb
    refine tu_icmp_ne 22 X 29 dX1_hurts_22 (by decide) (show tu_rg (M 13 b) from by first | assumption | exact ⟨by omega, by omega⟩) ⟨by decide, by decide⟩ (fun br22 => ?_) (fun br22 => ?_)
    ·
      refine tu_iconst 29 X dX1_hurts_29 ?_
      refine tu_icmp_eq 30 X 37 dX1_hurts_30 (by decide) ⟨by decide, by decide⟩ ⟨by decide, by decide⟩ (fun br30 => ?_) (fun br30 => ?_)
      ·
        refine tu_iconst 37 X dX1_hurts_37 ?_
        refine hret 38 _ _ 0 dX1_hurts_38 (fun _ => Or.inl rfl) ?_
        exact ⟨rfl, (tu_b0 (by omega)).symm⟩
      ·
        exfalso; omega
    ·
      refine tu_iconst 25 X dX1_hurts_25 ?_
      refine tu_goto 26 X 30 dX1_hurts_26 (by decide) ?_
      refine tu_icmp_eq 30 X 37 dX1_hurts_30 (by decide) ⟨by decide, by decide⟩ ⟨by decide, by decide⟩ (fun br30 => ?_) (fun br30 => ?_)
      ·
        exfalso; omega
      ·
        refine tu_iconst 33 X dX1_hurts_33 ?_
        refine tu_goto 34 X 38 dX1_hurts_34 (by decide) ?_
        refine hret 38 _ _ 1 dX1_hurts_38 (fun _ => Or.inr rfl) ?_
        exact ⟨rfl, (tu_b1 (by omega)).symm⟩
  ·
    refine tu_iconst 10 X dX1_hurts_10 ?_
    refine tu_goto 11 X 15 dX1_hurts_11 (by decide) ?_
    refine tu_aload_n 15 X 0 dX1_hurts_15 rfl ?_
    refine tu_getR 16 X dX1_hurts_16 fl_RX1_34 (by decide) rfl rfl ?_
    refine tu_iload_n 19 X 2 dX1_hurts_19 rfl ?_
    refine tu_iald 20 X (x := M 13 b) b dX1_hurts_20 (by decide) rfl (by decide) (by omega) (by omega) rfl ?_
    refine tu_iconst 21 X dX1_hurts_21 ?_
    have g2 := hKk b hb
    refine tu_icmp_ne 22 X 29 dX1_hurts_22 (by decide) (show tu_rg (M 13 b) from by first | assumption | exact ⟨by omega, by omega⟩) ⟨by decide, by decide⟩ (fun br22 => ?_) (fun br22 => ?_)
    ·
      refine tu_iconst 29 X dX1_hurts_29 ?_
      refine tu_icmp_eq 30 X 37 dX1_hurts_30 (by decide) ⟨by decide, by decide⟩ ⟨by decide, by decide⟩ (fun br30 => ?_) (fun br30 => ?_)
      ·
        exfalso; omega
      ·
        refine tu_iconst 33 X dX1_hurts_33 ?_
        refine tu_goto 34 X 38 dX1_hurts_34 (by decide) ?_
        refine hret 38 _ _ 1 dX1_hurts_38 (fun _ => Or.inr rfl) ?_
        exact ⟨rfl, (tu_b1 (by omega)).symm⟩
    ·
      refine tu_iconst 25 X dX1_hurts_25 ?_
      refine tu_goto 26 X 30 dX1_hurts_26 (by decide) ?_
      refine tu_icmp_eq 30 X 37 dX1_hurts_30 (by decide) ⟨by decide, by decide⟩ ⟨by decide, by decide⟩ (fun br30 => ?_) (fun br30 => ?_)
      ·
        refine tu_iconst 37 X dX1_hurts_37 ?_
        refine hret 38 _ _ 0 dX1_hurts_38 (fun _ => Or.inl rfl) ?_
        exact ⟨rfl, (tu_b0 (by omega)).symm⟩
      ·
        exfalso; omega
set_option maxRecDepth 20000 in
set_option maxHeartbeats 4000000 in
theorem c_X1_costOfFree {M : tu_M} (s b n m : Nat) (hK : tu_LK (M 11) (M 12) (M 13) (M 14) n m) (hs : s ≤ n) (hb : b < m) : tu_MI tu_Y_X1_costOfFree [tu_r 11, tu_i ((s : Nat) : Int), tu_i ((b : Nat) : Int)] M (fun z M' => M' = M ∧ z = tu_cf (M 11) (M 13) (M 15) s b) := by
  obtain ⟨hK1, hKn, hKm, hK0, hKd, hKl, hKh, hKk, hKa, hKr⟩ := id hK
  obtain ⟨hK4, hK5⟩ := hK1
  refine tu_MI.of (ty := .int) (by decide) rfl (by first | exact Or.inl rfl | exact Or.inr rfl) (Nat.le_of_ble_eq_true rfl) (fun T (X : tu_X T cX1_costOfFree RX1 0 0) hnl hrt hret => ?_)
  have hret : tu_RI T cX1_costOfFree (fun z M' => M' = M ∧ z = tu_cf (M 11) (M 13) (M 15) s b) := hret
  have hnl : T.2.2.2.2.2.2.2.2.2.2.1 = 3 := hnl
  show tu_W T 0 [(0, tu_r 11), (1, tu_i ((s : Nat) : Int)), (2, tu_i ((b : Nat) : Int))] [] M
  refine tu_aload_n 0 X 0 dX1_costOfFree_0 rfl ?_
  refine tu_getR 1 X dX1_costOfFree_1 fl_RX1_40 (by decide) rfl rfl ?_
  refine tu_iload_n 4 X 1 dX1_costOfFree_4 rfl ?_
  refine tu_bipush 5 X dX1_costOfFree_5 (by decide) ?_
  refine tu_imul 7 X dX1_costOfFree_7 ?_
  refine tu_iload_n 8 X 2 dX1_costOfFree_8 rfl ?_
  refine tu_iadd 9 X dX1_costOfFree_9 ?_
  refine tu_iconst 10 X dX1_costOfFree_10 ?_
  refine tu_iadd 11 X dX1_costOfFree_11 ?_
  refine tu_iald 12 X (x := M 15 (((s * 25) + b) + 1)) (((s * 25) + b) + 1) dX1_costOfFree_12 (by decide) rfl (by decide) (by omega) (by omega) rfl ?_
  refine tu_aload_n 13 X 0 dX1_costOfFree_13 rfl ?_
  refine tu_getR 14 X dX1_costOfFree_14 fl_RX1_34 (by decide) rfl rfl ?_
  refine tu_iload_n 17 X 2 dX1_costOfFree_17 rfl ?_
  refine tu_iald 18 X (x := M 13 b) b dX1_costOfFree_18 (by decide) rfl (by decide) (by omega) (by omega) rfl ?_
  have g2 := hKk b hb
  refine tu_if_ne 19 X 26 dX1_costOfFree_19 (by decide) (show tu_rg (M 13 b) from by first | assumption | exact ⟨by omega, by omega⟩) (fun br19 => ?_) (fun br19 => ?_)
  ·
    refine tu_aload_n 26 X 0 dX1_costOfFree_26 rfl ?_
    refine tu_getI 27 X (x := M 11 2) dX1_costOfFree_27 fl_RX1_18 (by decide) rfl rfl rfl ?_
    refine tu_iadd 30 X dX1_costOfFree_30 ?_
    refine hret 31 _ _ ((M 15 (((s * 25) + b) + 1)) + (M 11 2)) dX1_costOfFree_31 (fun h => by rw [hrt] at h; cases h) ?_
    refine ⟨rfl, ?_⟩
    unfold tu_cf
    first | (rw [if_pos br19]; done) | (rw [if_neg br19]; done)
  ·
    refine tu_iconst 22 X dX1_costOfFree_22 ?_
    refine tu_goto 23 X 30 dX1_costOfFree_23 (by decide) ?_
    refine tu_iadd 30 X dX1_costOfFree_30 ?_
    refine hret 31 _ _ ((M 15 (((s * 25) + b) + 1)) + 0) dX1_costOfFree_31 (fun h => by rw [hrt] at h; cases h) ?_
    refine ⟨rfl, ?_⟩
    unfold tu_cf
    first | (rw [if_pos br19]; done) | (rw [if_neg br19]; done)
set_option maxRecDepth 20000 in
set_option maxHeartbeats 4000000 in
theorem c_X1_costOfHeld {M : tu_M} (s b h n m : Nat) (hK : tu_LK (M 11) (M 12) (M 13) (M 14) n m) (hs : s < n) (hb : b < m) (hh : b + h ≤ m) : tu_MI tu_Y_X1_costOfHeld [tu_r 11, tu_i ((s : Nat) : Int), tu_i ((b : Nat) : Int), tu_i ((h : Nat) : Int)] M (fun z M' => M' = M ∧ z = tu_ch (M 11) (M 12) (M 13) (M 15) s b h) := by
  obtain ⟨hK1, hKn, hKm, hK0, hKd, hKl, hKh, hKk, hKa, hKr⟩ := id hK
  obtain ⟨hK4, hK5⟩ := hK1
  refine tu_MI.of (ty := .int) (by decide) rfl (by first | exact Or.inl rfl | exact Or.inr rfl) (Nat.le_of_ble_eq_true rfl) (fun T (X : tu_X T cX1_costOfHeld RX1 1 22) hnl hrt hret => ?_)
  have hret : tu_RI T cX1_costOfHeld (fun z M' => M' = M ∧ z = tu_ch (M 11) (M 12) (M 13) (M 15) s b h) := hret
  have hnl : T.2.2.2.2.2.2.2.2.2.2.1 = 4 := hnl
  show tu_W T 0 [(0, tu_r 11), (1, tu_i ((s : Nat) : Int)), (2, tu_i ((b : Nat) : Int)), (3, tu_i ((h : Nat) : Int))] [] M
  refine tu_aload_n 0 X 0 dX1_costOfHeld_0 rfl ?_
  refine tu_getR 1 X dX1_costOfHeld_1 fl_RX1_40 (by decide) rfl rfl ?_
  refine tu_iload_n 4 X 1 dX1_costOfHeld_4 rfl ?_
  refine tu_iconst 5 X dX1_costOfHeld_5 ?_
  refine tu_iadd 6 X dX1_costOfHeld_6 ?_
  refine tu_bipush 7 X dX1_costOfHeld_7 (by decide) ?_
  refine tu_imul 9 X dX1_costOfHeld_9 ?_
  refine tu_iload_n 10 X 2 dX1_costOfHeld_10 rfl ?_
  refine tu_iadd 11 X dX1_costOfHeld_11 ?_
  refine tu_iload_n 12 X 3 dX1_costOfHeld_12 rfl ?_
  refine tu_iadd 13 X dX1_costOfHeld_13 ?_
  refine tu_iald 14 X (x := M 15 ((((s + 1) * 25) + b) + h)) ((((s + 1) * 25) + b) + h) dX1_costOfHeld_14 (by decide) rfl (by decide) (by omega) (by omega) rfl ?_
  refine tu_aload_n 15 X 0 dX1_costOfHeld_15 rfl ?_
  refine tu_getI 16 X (x := M 11 1) dX1_costOfHeld_16 fl_RX1_15 (by decide) rfl rfl rfl ?_
  refine tu_iload_n 19 X 3 dX1_costOfHeld_19 rfl ?_
  refine tu_iconst 20 X dX1_costOfHeld_20 ?_
  refine tu_isub 21 X dX1_costOfHeld_21 ?_
  refine tu_imul 22 X dX1_costOfHeld_22 ?_
  refine tu_iadd 23 X dX1_costOfHeld_23 ?_
  refine tu_aload_n 24 X 0 dX1_costOfHeld_24 rfl ?_
  refine tu_iload_n 25 X 1 dX1_costOfHeld_25 rfl ?_
  refine tu_iload_n 26 X 2 dX1_costOfHeld_26 rfl ?_
  refine tu_callVI 27 X (st := [tu_i ((M 15 ((((s + 1) * 25) + b) + h)) + ((M 11 1) * (((h : Nat) : Int) - 1)))]) (as := [tu_i ((s : Nat) : Int), tu_i ((b : Nat) : Int)]) (c_X1_hurts s b n m (show tu_LK (M 11) (M 12) (M 13) (M 14) n m from by first | assumption | omega | exact ⟨by omega, by omega⟩ | decide) (show s < n from by first | assumption | omega | exact ⟨by omega, by omega⟩ | decide) (show b < m from by first | assumption | omega | exact ⟨by omega, by omega⟩ | decide)) sv_RX1_89 dX1_costOfHeld_27 rfl (by decide) rfl rfl rfl (Nat.le_of_ble_eq_true rfl) ⟨by decide, by decide⟩ (fun z M' h => ?_)
  obtain ⟨hM27, hz27⟩ := h
  refine tu_st_eq rfl (M' := M) hM27 ?_
  refine tu_tp (b := tu_b (¬ (M 12 s = 1 ↔ M 13 b = 2))) hz27 ?_
  refine tu_if_eq 30 X 40 dX1_costOfHeld_30 (by decide) tu_b_rg (fun br30 => ?_) (fun br30 => ?_)
  ·
    have br30 := tu_b_e0 br30
    refine tu_iconst 40 X dX1_costOfHeld_40 ?_
    refine tu_iadd 41 X dX1_costOfHeld_41 ?_
    refine hret 42 _ _ (((M 15 ((((s + 1) * 25) + b) + h)) + ((M 11 1) * (((h : Nat) : Int) - 1))) + 0) dX1_costOfHeld_42 (fun h => by rw [hrt] at h; cases h) ?_
    refine ⟨rfl, ?_⟩
    unfold tu_ch
    first | (rw [if_pos br30]; done) | (rw [if_neg br30]; done)
  ·
    have br30 := tu_b_n0 br30
    refine tu_aload_n 33 X 0 dX1_costOfHeld_33 rfl ?_
    refine tu_getI 34 X (x := M 11 3) dX1_costOfHeld_34 fl_RX1_21 (by decide) rfl rfl rfl ?_
    refine tu_goto 37 X 41 dX1_costOfHeld_37 (by decide) ?_
    refine tu_iadd 41 X dX1_costOfHeld_41 ?_
    refine hret 42 _ _ (((M 15 ((((s + 1) * 25) + b) + h)) + ((M 11 1) * (((h : Nat) : Int) - 1))) + (M 11 3)) dX1_costOfHeld_42 (fun h => by rw [hrt] at h; cases h) ?_
    refine ⟨rfl, ?_⟩
    unfold tu_ch
    first | (rw [if_pos br30]; done) | (rw [if_neg br30]; done)
set_option maxRecDepth 20000 in
set_option maxHeartbeats 4000000 in
theorem c_X1_leastCost {M : tu_M} (n m : Nat) (hK : tu_LK (M 11) (M 12) (M 13) (M 14) n m) : tu_MI tu_Y_X1_leastCost [tu_r 11] M (fun z M' => ∃ (c : Nat → Int), M' = tu_row M 15 c ∧ (tu_Tx (M 11) (M 12) (M 13) (M 14) n m c) ∧ z = c 0) := by
  obtain ⟨hK1, hKn, hKm, hK0, hKd, hKl, hKh, hKk, hKa, hKr⟩ := id hK
  obtain ⟨hK4, hK5⟩ := hK1
  have hM : ∀ b, b < m → b + tu_mh (M 11) (M 14) b ≤ m := fun b hb => (tu_mh_le hK hb).1
  refine tu_MI.of (ty := .int) (by decide) rfl (by first | exact Or.inl rfl | exact Or.inr rfl) (Nat.le_of_ble_eq_true rfl) (fun T (X : tu_X T cX1_leastCost RX1 2 45) hnl hrt hret => ?_)
  have hret : tu_RI T cX1_leastCost (fun z M' => ∃ (c : Nat → Int), M' = tu_row M 15 c ∧ (tu_Tx (M 11) (M 12) (M 13) (M 14) n m c) ∧ z = c 0) := hret
  have hnl : T.2.2.2.2.2.2.2.2.2.2.1 = 5 := hnl
  show tu_W T 0 [(0, tu_r 11)] [] M
  refine tu_aload_n 0 X 0 dX1_leastCost_0 rfl ?_
  refine tu_getR 1 X dX1_leastCost_1 fl_RX1_40 (by decide) rfl rfl ?_
  refine tu_aload_n 4 X 0 dX1_leastCost_4 rfl ?_
  refine tu_getI 5 X (x := M 11 4) dX1_leastCost_5 fl_RX1_24 (by decide) rfl rfl rfl ?_
  refine tu_tp (b := ((n : Nat) : Int)) (by exact hK.1.1) ?_
  refine tu_bipush 8 X dX1_leastCost_8 (by decide) ?_
  refine tu_imul 10 X dX1_leastCost_10 ?_
  refine tu_aload_n 11 X 0 dX1_leastCost_11 rfl ?_
  refine tu_getI 12 X (x := M 11 5) dX1_leastCost_12 fl_RX1_27 (by decide) rfl rfl rfl ?_
  refine tu_tp (b := ((m : Nat) : Int)) (by exact hK.1.2) ?_
  refine tu_iadd 15 X dX1_leastCost_15 ?_
  refine tu_iconst 16 X dX1_leastCost_16 ?_
  refine tu_iast 17 X (M' := tu_row M 15 (tu_u (M 15) ((n * 25) + m) 0)) ((n * 25) + m) dX1_leastCost_17 (by decide) rfl (by decide) (by omega) (by omega) rfl ?_
  refine tu_aload_n 18 X 0 dX1_leastCost_18 rfl ?_
  refine tu_getI 19 X (x := M 11 5) dX1_leastCost_19 fl_RX1_27 (by decide) rfl rfl rfl ?_
  refine tu_tp (b := ((m : Nat) : Int)) (by exact hK.1.2) ?_
  refine tu_iconst 22 X dX1_leastCost_22 ?_
  refine tu_isub 23 X dX1_leastCost_23 ?_
  refine tu_istore_n 24 X (lv' := [(1, tu_i (((m : Nat) : Int) - 1)), (0, tu_r 11)]) dX1_leastCost_24 (by rw [hnl]; decide) rfl ?_
  have lp25 : ∀ (nq : Nat) (j : Nat) (c : Nat → Int), (j ≤ m) → (tu_R0 (M 11) (M 13) n m j c) → j < nq → tu_W T 25 [(0, tu_r 11), (1, tu_i (((j : Nat) : Int) - 1))] [] (tu_row M 15 c) := by
    intro nq
    induction nq with
    | zero => intros; omega
    | succ nq ih25 =>
      intro j c hj hR hn25
      refine tu_iload_n 25 X 1 dX1_leastCost_25 rfl ?_
      refine tu_if_lt 26 X 58 dX1_leastCost_26 (by decide) (show tu_rg (((j : Nat) : Int) - 1) from by first | assumption | exact ⟨by omega, by omega⟩) (fun br26 => ?_) (fun br26 => ?_)
      ·
        refine tu_aload_n 58 X 0 dX1_leastCost_58 rfl ?_
        refine tu_getI 59 X (x := M 11 4) dX1_leastCost_59 fl_RX1_24 (by decide) rfl rfl rfl ?_
        refine tu_tp (b := ((n : Nat) : Int)) (by exact hK.1.1) ?_
        refine tu_iconst 62 X dX1_leastCost_62 ?_
        refine tu_isub 63 X dX1_leastCost_63 ?_
        refine tu_istore_n 64 X (lv' := [(1, tu_i (((n : Nat) : Int) - 1)), (0, tu_r 11)]) dX1_leastCost_64 (by rw [hnl]; decide) rfl ?_
        have lp65 : ∀ (nq : Nat) (j : Nat) (c : Nat → Int), (j ≤ n) → (tu_R0 (M 11) (M 13) n m 0 c) → (tu_RS (M 11) (M 12) (M 13) (M 14) n m j c) → j < nq → tu_W T 65 [(0, tu_r 11), (1, tu_i (((j : Nat) : Int) - 1))] [] (tu_row M 15 c) := by
          intro nq
          induction nq with
          | zero => intros; omega
          | succ nq ih65 =>
            intro j c hj hR hS hn65
            refine tu_iload_n 65 X 1 dX1_leastCost_65 rfl ?_
            refine tu_if_lt 66 X 164 dX1_leastCost_66 (by decide) (show tu_rg (((j : Nat) : Int) - 1) from by first | assumption | exact ⟨by omega, by omega⟩) (fun br66 => ?_) (fun br66 => ?_)
            ·
              refine tu_aload_n 164 X 0 dX1_leastCost_164 rfl ?_
              refine tu_getR 165 X dX1_leastCost_165 fl_RX1_40 (by decide) rfl rfl ?_
              refine tu_iconst 168 X dX1_leastCost_168 ?_
              refine tu_iald 169 X (x := c 0) 0 dX1_leastCost_169 (by decide) rfl (by decide) rfl (by decide) rfl ?_
              refine hret 170 _ _ (c 0) dX1_leastCost_170 (fun h => by rw [hrt] at h; cases h) ?_
              rw [show j = 0 from by omega] at hS
              exact ⟨_, rfl, ⟨hR, hS⟩, rfl⟩
            ·
              refine tu_jmp [0, 1] (lv' := [(0, tu_r 11), (1, tu_i (((j - 1 : Nat)) : Int))]) ⟨rfl, tu_ei (by omega), trivial⟩ rfl ?_
              refine tu_aload_n 69 X 0 dX1_leastCost_69 rfl ?_
              refine tu_getR 70 X dX1_leastCost_70 fl_RX1_40 (by decide) rfl rfl ?_
              refine tu_iload_n 73 X 1 dX1_leastCost_73 rfl ?_
              refine tu_bipush 74 X dX1_leastCost_74 (by decide) ?_
              refine tu_imul 76 X dX1_leastCost_76 ?_
              refine tu_aload_n 77 X 0 dX1_leastCost_77 rfl ?_
              refine tu_getI 78 X (x := M 11 5) dX1_leastCost_78 fl_RX1_27 (by decide) rfl rfl rfl ?_
              refine tu_tp (b := ((m : Nat) : Int)) (by exact hK.1.2) ?_
              refine tu_iadd 81 X dX1_leastCost_81 ?_
              refine tu_ldc 82 X (n := 1000000) dX1_leastCost_82 kw_RX1_75 (by decide) ?_
              refine tu_iast 84 X (M' := tu_row M 15 (tu_u c (((j - 1) * 25) + m) 1000000)) (((j - 1) * 25) + m) dX1_leastCost_84 (by decide) rfl (by decide) (by omega) (by omega) (tu_rr M 15 c (tu_u c (((j - 1) * 25) + m) 1000000)) ?_
              refine tu_aload_n 85 X 0 dX1_leastCost_85 rfl ?_
              refine tu_getI 86 X (x := M 11 5) dX1_leastCost_86 fl_RX1_27 (by decide) rfl rfl rfl ?_
              refine tu_tp (b := ((m : Nat) : Int)) (by exact hK.1.2) ?_
              refine tu_iconst 89 X dX1_leastCost_89 ?_
              refine tu_isub 90 X dX1_leastCost_90 ?_
              refine tu_istore_n 91 X (lv' := [(2, tu_i (((m : Nat) : Int) - 1)), (0, tu_r 11), (1, tu_i (((j - 1 : Nat)) : Int))]) dX1_leastCost_91 (by rw [hnl]; decide) rfl ?_
              have lp92 : ∀ (nq : Nat) (i : Nat) (c : Nat → Int), (i ≤ m) → (tu_R0 (M 11) (M 13) n m 0 c) → (tu_RS (M 11) (M 12) (M 13) (M 14) n m j c) → (tu_RB (M 11) (M 12) (M 13) (M 14) m (j - 1) i c) → i < nq → tu_W T 92 [(0, tu_r 11), (1, tu_i (((j - 1 : Nat)) : Int)), (2, tu_i (((i : Nat) : Int) - 1))] [] (tu_row M 15 c) := by
                intro nq
                induction nq with
                | zero => intros; omega
                | succ nq ih92 =>
                  intro i c hi hR hS hB hn92
                  refine tu_iload_n 92 X 2 dX1_leastCost_92 rfl ?_
                  refine tu_if_lt 93 X 158 dX1_leastCost_93 (by decide) (show tu_rg (((i : Nat) : Int) - 1) from by first | assumption | exact ⟨by omega, by omega⟩) (fun br93 => ?_) (fun br93 => ?_)
                  ·
                    refine tu_iinc 158 X (lv' := [(1, tu_i ((((j - 1 : Nat)) : Int) + (-1))), (0, tu_r 11), (2, tu_i (((i : Nat) : Int) - 1))]) 1 dX1_leastCost_158 rfl (by rw [hnl]; decide) rfl ?_
                    refine tu_goto 161 X 65 dX1_leastCost_161 (by decide) ?_
                    refine tu_jmp [1, 0] (lv' := [(0, tu_r 11), (1, tu_i ((((j - 1) : Nat) : Int) - 1))]) ⟨rfl, tu_ei (by first | rfl | omega), trivial⟩ rfl (ih65 (j - 1) c (by omega) (by exact hR) (by exact tu_RS_s hS (by rw [show i = 0 from by omega] at hB; exact hB) (by omega)) (by omega))
                  ·
                    refine tu_jmp [0, 1, 2] (lv' := [(0, tu_r 11), (1, tu_i (((j - 1 : Nat)) : Int)), (2, tu_i (((i - 1 : Nat)) : Int))]) ⟨rfl, rfl, tu_ei (by omega), trivial⟩ rfl ?_
                    refine tu_aload_n 96 X 0 dX1_leastCost_96 rfl ?_
                    refine tu_iload_n 97 X 1 dX1_leastCost_97 rfl ?_
                    refine tu_iload_n 98 X 2 dX1_leastCost_98 rfl ?_
                    refine tu_st_eq (show _ = [tu_i (((i - 1) : Nat) : Int), tu_i (((j - 1) : Nat) : Int), tu_r 11] from by first | rfl | (simp only [List.cons.injEq, Sum.inl.injEq, and_true, true_and]; omega)) rfl ?_
                    refine tu_callVI 99 X (st := []) (as := [tu_i (((j - 1) : Nat) : Int), tu_i (((i - 1) : Nat) : Int)]) (c_X1_costOfFree (j - 1) (i - 1) n m (show tu_LK (M 11) (M 12) (M 13) (M 14) n m from by first | assumption | omega | exact ⟨by omega, by omega⟩ | decide) (show (j - 1) ≤ n from by first | assumption | omega | exact ⟨by omega, by omega⟩ | decide) (show (i - 1) < m from by first | assumption | omega | exact ⟨by omega, by omega⟩ | decide)) sv_RX1_71 dX1_leastCost_99 rfl (by decide) rfl rfl rfl (Nat.le_of_ble_eq_true rfl) ⟨by decide, by decide⟩ (fun z M' h => ?_)
                    obtain ⟨hM99, hz99⟩ := h
                    refine tu_st_eq rfl (M' := tu_row M 15 c) hM99 ?_
                    refine tu_tp (b := (tu_cf (M 11) (M 13) (c) (j - 1) (i - 1))) hz99 ?_
                    refine tu_istore_n 102 X (lv' := [(3, tu_i (tu_cf (M 11) (M 13) (c) (j - 1) (i - 1))), (0, tu_r 11), (1, tu_i (((j - 1 : Nat)) : Int)), (2, tu_i (((i - 1 : Nat)) : Int))]) dX1_leastCost_102 (by rw [hnl]; decide) rfl ?_
                    refine tu_iconst 103 X dX1_leastCost_103 ?_
                    refine tu_istore 104 X (lv' := [(4, tu_i 1), (3, tu_i (tu_cf (M 11) (M 13) (c) (j - 1) (i - 1))), (0, tu_r 11), (1, tu_i (((j - 1 : Nat)) : Int)), (2, tu_i (((i - 1 : Nat)) : Int))]) dX1_leastCost_104 (by rw [hnl]; decide) rfl ?_
                    have lp106 : ∀ (nq : Nat) (k : Nat), (k ≤ tu_mh (M 11) (M 14) (i - 1)) → tu_mh (M 11) (M 14) (i - 1) - k < nq → tu_W T 106 [(0, tu_r 11), (1, tu_i (((j - 1 : Nat)) : Int)), (2, tu_i (((i - 1 : Nat)) : Int)), (3, tu_i (tu_mn (tu_cf (M 11) (M 13) c (j - 1) (i - 1)) (tu_ch (M 11) (M 12) (M 13) c (j - 1) (i - 1)) k)), (4, tu_i (((k + 1) : Nat) : Int))] [] (tu_row M 15 c) := by
                      intro nq
                      induction nq with
                      | zero => intros; omega
                      | succ nq ih106 =>
                        intro k hk hn106
                        have hmh := tu_mh_le hK (show i - 1 < m from by omega)
                        have e1 := tu_cf_bd (b := i - 1) hK hR (by rw [show j - 1 + 1 = j from by omega]; exact hS) hB (show j - 1 < n from by omega) (by omega) (by omega)
                        have e2 := tu_mn_bd (i := tu_cf (M 11) (M 13) c (j - 1) (i - 1)) (f := tu_ch (M 11) (M 12) (M 13) c (j - 1) (i - 1)) (B := 1000009) (n := k) (by omega) (by omega) (fun q h1 h2 => (tu_ch_bd hK hR (by rw [show j - 1 + 1 = j from by omega]; exact hS) (by omega) (by omega) h1 (by omega)).1)
                        refine tu_iload 106 X 4 dX1_leastCost_106 rfl ?_
                        refine tu_aload_n 108 X 0 dX1_leastCost_108 rfl ?_
                        refine tu_iload_n 109 X 2 dX1_leastCost_109 rfl ?_
                        refine tu_st_eq (show _ = [tu_i (((i - 1) : Nat) : Int), tu_r 11, tu_i (((k + 1) : Nat) : Int)] from by first | rfl | (simp only [List.cons.injEq, Sum.inl.injEq, and_true, true_and]; omega)) rfl ?_
                        refine tu_callVI 110 X (st := [tu_i (((k + 1) : Nat) : Int)]) (as := [tu_i (((i - 1) : Nat) : Int)]) (c_X1_mostHeld (i - 1) n m (show tu_LK (M 11) (M 12) (M 13) (M 14) n m from by first | assumption | omega | exact ⟨by omega, by omega⟩ | decide) (show (i - 1) < m from by first | assumption | omega | exact ⟨by omega, by omega⟩ | decide)) sv_RX1_76 dX1_leastCost_110 rfl (by decide) rfl rfl rfl (Nat.le_of_ble_eq_true rfl) ⟨by decide, by decide⟩ (fun z M' h => ?_)
                        obtain ⟨hM110, hz110⟩ := h
                        refine tu_st_eq rfl (M' := tu_row M 15 c) hM110 ?_
                        refine tu_tp (b := ((tu_mh (M 11) (M 14) (i - 1) : Nat) : Int)) hz110 ?_
                        refine tu_icmp_gt 113 X 135 dX1_leastCost_113 (by decide) (show tu_rg (((k + 1) : Nat) : Int) from by first | assumption | exact ⟨by omega, by omega⟩) (show tu_rg ((tu_mh (M 11) (M 14) (i - 1) : Nat) : Int) from by first | assumption | exact ⟨by omega, by omega⟩) (fun br113 => ?_) (fun br113 => ?_)
                        ·
                          refine tu_aload_n 135 X 0 dX1_leastCost_135 rfl ?_
                          refine tu_getR 136 X dX1_leastCost_136 fl_RX1_40 (by decide) rfl rfl ?_
                          refine tu_iload_n 139 X 1 dX1_leastCost_139 rfl ?_
                          refine tu_bipush 140 X dX1_leastCost_140 (by decide) ?_
                          refine tu_imul 142 X dX1_leastCost_142 ?_
                          refine tu_iload_n 143 X 2 dX1_leastCost_143 rfl ?_
                          refine tu_iadd 144 X dX1_leastCost_144 ?_
                          refine tu_iload_n 145 X 3 dX1_leastCost_145 rfl ?_
                          refine tu_ldc 146 X (n := 1000000) dX1_leastCost_146 kw_RX1_75 (by decide) ?_
                          refine tu_mmin 148 X mn_RX1 dX1_leastCost_148 (show tu_rg (tu_mn (tu_cf (M 11) (M 13) c (j - 1) (i - 1)) (tu_ch (M 11) (M 12) (M 13) c (j - 1) (i - 1)) k) from by first | assumption | exact ⟨by omega, by omega⟩) ⟨by decide, by decide⟩ (Nat.le_of_ble_eq_true rfl) (by decide) (by decide) ?_
                          refine tu_iast 151 X (M' := tu_row M 15 (tu_u c (((j - 1) * 25) + (i - 1)) (min (tu_mn (tu_cf (M 11) (M 13) c (j - 1) (i - 1)) (tu_ch (M 11) (M 12) (M 13) c (j - 1) (i - 1)) k) 1000000))) (((j - 1) * 25) + (i - 1)) dX1_leastCost_151 (by decide) rfl (by decide) (by omega) (by omega) (tu_rr M 15 c (tu_u c (((j - 1) * 25) + (i - 1)) (min (tu_mn (tu_cf (M 11) (M 13) c (j - 1) (i - 1)) (tu_ch (M 11) (M 12) (M 13) c (j - 1) (i - 1)) k) 1000000))) ?_
                          refine tu_iinc 152 X (lv' := [(2, tu_i ((((i - 1 : Nat)) : Int) + (-1))), (0, tu_r 11), (1, tu_i (((j - 1 : Nat)) : Int)), (3, tu_i (tu_mn (tu_cf (M 11) (M 13) c (j - 1) (i - 1)) (tu_ch (M 11) (M 12) (M 13) c (j - 1) (i - 1)) k)), (4, tu_i (((k + 1) : Nat) : Int))]) 2 dX1_leastCost_152 rfl (by rw [hnl]; decide) rfl ?_
                          refine tu_goto 155 X 92 dX1_leastCost_155 (by decide) ?_
                          refine tu_jmp [1, 2, 0] (lv' := [(0, tu_r 11), (1, tu_i (((j - 1 : Nat)) : Int)), (2, tu_i ((((i - 1) : Nat) : Int) - 1))]) ⟨rfl, rfl, tu_ei (by first | rfl | omega), trivial⟩ rfl (ih92 (i - 1) (tu_u c (((j - 1) * 25) + (i - 1)) (min (tu_mn (tu_cf (M 11) (M 13) c (j - 1) (i - 1)) (tu_ch (M 11) (M 12) (M 13) c (j - 1) (i - 1)) k) 1000000)) (by omega) (by exact hR.q (fun q hq => tu_u_n _ _ (by omega)) (Nat.zero_le _)) (by exact hS.q hM (fun q hq => tu_u_n _ _ (by omega))) (by exact tu_RB_s hK hR (by rw [show j - 1 + 1 = j from by omega]; exact hS) hB (by omega) (by omega) (by rw [show tu_mh (M 11) (M 14) (i - 1) = k from by omega])) (by omega))
                        ·
                          refine tu_iload_n 116 X 3 dX1_leastCost_116 rfl ?_
                          refine tu_aload_n 117 X 0 dX1_leastCost_117 rfl ?_
                          refine tu_iload_n 118 X 1 dX1_leastCost_118 rfl ?_
                          refine tu_iload_n 119 X 2 dX1_leastCost_119 rfl ?_
                          refine tu_iload 120 X 4 dX1_leastCost_120 rfl ?_
                          refine tu_st_eq (show _ = [tu_i (((k + 1) : Nat) : Int), tu_i (((i - 1) : Nat) : Int), tu_i (((j - 1) : Nat) : Int), tu_r 11, tu_i (tu_mn (tu_cf (M 11) (M 13) c (j - 1) (i - 1)) (tu_ch (M 11) (M 12) (M 13) c (j - 1) (i - 1)) k)] from by first | rfl | (simp only [List.cons.injEq, Sum.inl.injEq, and_true, true_and]; omega)) rfl ?_
                          refine tu_callVI 122 X (st := [tu_i (tu_mn (tu_cf (M 11) (M 13) c (j - 1) (i - 1)) (tu_ch (M 11) (M 12) (M 13) c (j - 1) (i - 1)) k)]) (as := [tu_i (((j - 1) : Nat) : Int), tu_i (((i - 1) : Nat) : Int), tu_i (((k + 1) : Nat) : Int)]) (c_X1_costOfHeld (j - 1) (i - 1) (k + 1) n m (show tu_LK (M 11) (M 12) (M 13) (M 14) n m from by first | assumption | omega | exact ⟨by omega, by omega⟩ | decide) (show (j - 1) < n from by first | assumption | omega | exact ⟨by omega, by omega⟩ | decide) (show (i - 1) < m from by first | assumption | omega | exact ⟨by omega, by omega⟩ | decide) (show (i - 1) + (k + 1) ≤ m from by first | assumption | omega | exact ⟨by omega, by omega⟩ | decide)) sv_RX1_80 dX1_leastCost_122 rfl (by decide) rfl rfl rfl (Nat.le_of_ble_eq_true rfl) ⟨by decide, by decide⟩ (fun z M' h => ?_)
                          obtain ⟨hM122, hz122⟩ := h
                          refine tu_st_eq rfl (M' := tu_row M 15 c) hM122 ?_
                          refine tu_tp (b := (tu_ch (M 11) (M 12) (M 13) (c) (j - 1) (i - 1) (k + 1))) hz122 ?_
                          have e3 := tu_ch_bd (h := k + 1) hK hR (show tu_RS (M 11) (M 12) (M 13) (M 14) n m (j - 1 + 1) c from by rw [show j - 1 + 1 = j from by omega]; exact hS) (by omega) (show i - 1 < m from by omega) (by omega) (by omega)
                          refine tu_mmin 125 X mn_RX1 dX1_leastCost_125 (show tu_rg (tu_mn (tu_cf (M 11) (M 13) c (j - 1) (i - 1)) (tu_ch (M 11) (M 12) (M 13) c (j - 1) (i - 1)) k) from by first | assumption | exact ⟨by omega, by omega⟩) (show tu_rg (tu_ch (M 11) (M 12) (M 13) (c) (j - 1) (i - 1) (k + 1)) from by first | assumption | exact ⟨by omega, by omega⟩) (Nat.le_of_ble_eq_true rfl) (by decide) (by decide) ?_
                          refine tu_istore_n 128 X (lv' := [(3, tu_i (min (tu_mn (tu_cf (M 11) (M 13) c (j - 1) (i - 1)) (tu_ch (M 11) (M 12) (M 13) c (j - 1) (i - 1)) k) (tu_ch (M 11) (M 12) (M 13) (c) (j - 1) (i - 1) (k + 1)))), (0, tu_r 11), (1, tu_i (((j - 1 : Nat)) : Int)), (2, tu_i (((i - 1 : Nat)) : Int)), (4, tu_i (((k + 1) : Nat) : Int))]) dX1_leastCost_128 (by rw [hnl]; decide) rfl ?_
                          refine tu_iinc 129 X (lv' := [(4, tu_i ((((k + 1) : Nat) : Int) + 1)), (3, tu_i (min (tu_mn (tu_cf (M 11) (M 13) c (j - 1) (i - 1)) (tu_ch (M 11) (M 12) (M 13) c (j - 1) (i - 1)) k) (tu_ch (M 11) (M 12) (M 13) (c) (j - 1) (i - 1) (k + 1)))), (0, tu_r 11), (1, tu_i (((j - 1 : Nat)) : Int)), (2, tu_i (((i - 1 : Nat)) : Int))]) 4 dX1_leastCost_129 rfl (by rw [hnl]; decide) rfl ?_
                          refine tu_goto 132 X 106 dX1_leastCost_132 (by decide) ?_
                          refine tu_jmp [2, 3, 4, 1, 0] (lv' := [(0, tu_r 11), (1, tu_i (((j - 1 : Nat)) : Int)), (2, tu_i (((i - 1 : Nat)) : Int)), (3, tu_i (tu_mn (tu_cf (M 11) (M 13) c (j - 1) (i - 1)) (tu_ch (M 11) (M 12) (M 13) c (j - 1) (i - 1)) (k + 1))), (4, tu_i ((((k + 1) + 1) : Nat) : Int))]) ⟨rfl, rfl, rfl, tu_ei (by first | rfl | omega), tu_ei (by first | rfl | omega), trivial⟩ rfl (ih106 (k + 1) (by omega) (by omega))
                    refine tu_jmp [2, 3, 4, 1, 0] (lv' := [(0, tu_r 11), (1, tu_i (((j - 1 : Nat)) : Int)), (2, tu_i (((i - 1 : Nat)) : Int)), (3, tu_i (tu_mn (tu_cf (M 11) (M 13) c (j - 1) (i - 1)) (tu_ch (M 11) (M 12) (M 13) c (j - 1) (i - 1)) 0)), (4, tu_i (((0 + 1) : Nat) : Int))]) ⟨rfl, rfl, rfl, tu_ei (by first | rfl | omega), tu_ei (by first | rfl | omega), trivial⟩ rfl (lp106 ((tu_mh (M 11) (M 14) (i - 1) - 0) + 1) 0 (by omega) (by omega))
              refine tu_jmp [1, 2, 0] (lv' := [(0, tu_r 11), (1, tu_i (((j - 1 : Nat)) : Int)), (2, tu_i (((m : Nat) : Int) - 1))]) ⟨rfl, rfl, rfl, trivial⟩ rfl (lp92 (m + 1) m (tu_u c (((j - 1) * 25) + m) 1000000) (by omega) (by exact hR.q (fun q hq => tu_u_n _ _ (by omega)) (Nat.zero_le _)) (by exact hS.q hM (fun q hq => tu_u_n _ _ (by omega))) (by exact ⟨tu_u_s _ _ _, fun b h1 h2 => by omega⟩) (by omega))
        refine tu_jmp [1, 0] (lv' := [(0, tu_r 11), (1, tu_i (((n : Nat) : Int) - 1))]) ⟨rfl, rfl, trivial⟩ rfl (lp65 (n + 1) n c (by omega) (by rw [show j = 0 from by omega] at hR; exact hR) (by intro t h1 h2; omega) (by omega))
      ·
        refine tu_jmp [0, 1] (lv' := [(0, tu_r 11), (1, tu_i (((j - 1 : Nat)) : Int))]) ⟨rfl, tu_ei (by omega), trivial⟩ rfl ?_
        refine tu_aload_n 29 X 0 dX1_leastCost_29 rfl ?_
        refine tu_getR 30 X dX1_leastCost_30 fl_RX1_40 (by decide) rfl rfl ?_
        refine tu_aload_n 33 X 0 dX1_leastCost_33 rfl ?_
        refine tu_getI 34 X (x := M 11 4) dX1_leastCost_34 fl_RX1_24 (by decide) rfl rfl rfl ?_
        refine tu_tp (b := ((n : Nat) : Int)) (by exact hK.1.1) ?_
        refine tu_bipush 37 X dX1_leastCost_37 (by decide) ?_
        refine tu_imul 39 X dX1_leastCost_39 ?_
        refine tu_iload_n 40 X 1 dX1_leastCost_40 rfl ?_
        refine tu_iadd 41 X dX1_leastCost_41 ?_
        refine tu_aload_n 42 X 0 dX1_leastCost_42 rfl ?_
        refine tu_aload_n 43 X 0 dX1_leastCost_43 rfl ?_
        refine tu_getI 44 X (x := M 11 4) dX1_leastCost_44 fl_RX1_24 (by decide) rfl rfl rfl ?_
        refine tu_tp (b := ((n : Nat) : Int)) (by exact hK.1.1) ?_
        refine tu_iload_n 47 X 1 dX1_leastCost_47 rfl ?_
        refine tu_st_eq (show _ = [tu_i (((j - 1) : Nat) : Int), tu_i ((n : Nat) : Int), tu_r 11, tu_i ((((n : Nat) : Int) * 25) + (((j - 1 : Nat)) : Int)), tu_r 15] from by first | rfl | (simp only [List.cons.injEq, Sum.inl.injEq, and_true, true_and]; omega)) rfl ?_
        refine tu_callVI 48 X (st := [tu_i ((((n : Nat) : Int) * 25) + (((j - 1 : Nat)) : Int)), tu_r 15]) (as := [tu_i ((n : Nat) : Int), tu_i (((j - 1) : Nat) : Int)]) (c_X1_costOfFree n (j - 1) n m (show tu_LK (M 11) (M 12) (M 13) (M 14) n m from by first | assumption | omega | exact ⟨by omega, by omega⟩ | decide) (show n ≤ n from by first | assumption | omega | exact ⟨by omega, by omega⟩ | decide) (show (j - 1) < m from by first | assumption | omega | exact ⟨by omega, by omega⟩ | decide)) sv_RX1_71 dX1_leastCost_48 rfl (by decide) rfl rfl rfl (Nat.le_of_ble_eq_true rfl) ⟨by decide, by decide⟩ (fun z M' h => ?_)
        obtain ⟨hM48, hz48⟩ := h
        refine tu_st_eq rfl (M' := tu_row M 15 c) hM48 ?_
        refine tu_tp (b := (tu_cf (M 11) (M 13) (c) n (j - 1))) hz48 ?_
        refine tu_iast 51 X (M' := tu_row M 15 (tu_u c ((n * 25) + (j - 1)) (tu_cf (M 11) (M 13) (c) n (j - 1)))) ((n * 25) + (j - 1)) dX1_leastCost_51 (by decide) rfl (by decide) (by omega) (by omega) (tu_rr M 15 c (tu_u c ((n * 25) + (j - 1)) (tu_cf (M 11) (M 13) (c) n (j - 1)))) ?_
        refine tu_iinc 52 X (lv' := [(1, tu_i ((((j - 1 : Nat)) : Int) + (-1))), (0, tu_r 11)]) 1 dX1_leastCost_52 rfl (by rw [hnl]; decide) rfl ?_
        refine tu_goto 55 X 25 dX1_leastCost_55 (by decide) ?_
        refine tu_jmp [1, 0] (lv' := [(0, tu_r 11), (1, tu_i ((((j - 1) : Nat) : Int) - 1))]) ⟨rfl, tu_ei (by first | rfl | omega), trivial⟩ rfl (ih25 (j - 1) (tu_u c ((n * 25) + (j - 1)) (tu_cf (M 11) (M 13) (c) n (j - 1))) (by omega) (by exact tu_R0_s hR (by omega) (by omega) (by omega) hKl hKm.2) (by omega))
  refine tu_jmp [1, 0] (lv' := [(0, tu_r 11), (1, tu_i (((m : Nat) : Int) - 1))]) ⟨rfl, rfl, trivial⟩ rfl (lp25 (m + 1) m (tu_u (M 15) ((n * 25) + m) 0) (by omega) (by exact ⟨tu_u_s _ _ _, fun b h1 h2 => by omega⟩) (by omega))
