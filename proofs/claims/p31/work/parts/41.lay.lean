theorem tz_ext {k : Nat → Int} {b i : Nat} (h : ∀ j, j < i → k (b + j) ≠ 0) (hi : k (b + i) ≠ 0) : ∀ j, j < i + 1 → k (b + j) ≠ 0 := by
  intro j hj
  rcases Nat.lt_or_ge j i with q | q
  · exact h j q
  · rw [show j = i by omega]; exact hi
theorem tz_I0 {L a k : Nat → Int} {n m : Nat} {w : Nat → Int} (hn : 1 ≤ n) (h0 : w 0 = -6) (h1 : w 1 = 0) (h2 : w 2 = 0) (h3 : w 3 = -6) (h4 : w 4 = -6) (h16 : w 16 = -1) : tz_I L a k (tu_qm (L 0) k m) n m (tz_ad tz_no (tz_Z L a k n m)) 1 (fun _ => 0) tz_no w :=
  ⟨hn, ⟨h1, h2, Or.inl ⟨rfl, h0, h3, h4⟩⟩, fun t ht => by rw [show t = 0 by omega]; exact h16, fun t ht => Nat.zero_le _, fun t ht => by omega, rfl⟩
/-- the codes of a whole way -/
theorem tz_leafG {L a k : Nat → Int} {mh : Nat → Nat} {n m : Nat} {Z : tz_Q} {f : Nat} {y : Nat → Nat} {A : tz_Q} {w : Nat → Int} (h : tz_I L a k mh n m Z (f + 1) y A w) (hn : f + 1 = n) (hy : y f < 8 * m) (hfit : y f % 8 + 1 ≤ mh (y f / 8)) :
    ∃ G : Nat → Nat, (∀ t, t < n → tz_n1 y f t = G t + 1) ∧ (∀ t, t < n → tu_u w (16 + f) ((y f : Nat) : Int) (16 + t) = ((G t : Nat) : Int)) ∧ (∀ t, t < n → G t < 8 * m ∧ G t % 8 + 1 ≤ mh (G t / 8)) ∧ (∀ t, t + 1 < n → 8 * (G t / 8 + (G t % 8 + 1)) ≤ G (t + 1)) := by
  obtain ⟨h1, h2, h3, h4, h5, h6⟩ := h
  have e0 : ∀ t, t < f → tz_n1 y f t = y t := fun t ht => if_neg (by omega)
  have e1 : tz_n1 y f f = y f + 1 := if_pos rfl
  have hG : ∀ t, t < n → tz_n1 y f t = (tz_n1 y f t - 1) + 1 := by
    intro t ht
    rcases Nat.lt_or_ge t f with q | q
    · have g := (h5 t (by omega)).1.1
      rw [e0 t q]; omega
    · rw [show t = f by omega, e1]; rfl
  refine ⟨fun t => tz_n1 y f t - 1, hG, fun t ht => ?_, fun t ht => ?_, fun t ht => ?_⟩
  · rw [tz_n1_w h3 t (by omega)]
    have := hG t ht
    show ((tz_n1 y f t : Nat) : Int) - 1 = ((tz_n1 y f t - 1 : Nat) : Int)
    omega
  · show tz_n1 y f t - 1 < 8 * m ∧ (tz_n1 y f t - 1) % 8 + 1 ≤ mh ((tz_n1 y f t - 1) / 8)
    rcases Nat.lt_or_ge t f with q | q
    · have g := (h5 t (by omega)).1
      have g4 := h4 t (by omega)
      have g1 := g.1
      rw [e0 t q]
      exact ⟨by omega, g.2.1⟩
    · rw [show t = f by omega, e1, Nat.add_sub_cancel]
      exact ⟨hy, hfit⟩
  · show 8 * ((tz_n1 y f t - 1) / 8 + ((tz_n1 y f t - 1) % 8 + 1)) ≤ tz_n1 y f (t + 1) - 1
    obtain ⟨g, g9⟩ := h5 t (by omega)
    rw [e0 t (by omega)]
    rcases Nat.lt_or_ge (t + 1) f with q | q
    · have g8 : 8 * ((y t - 1) / 8 + ((y t - 1) % 8 + 1)) + 1 ≤ y (t + 1) := g9 (by omega)
      rw [e0 (t + 1) q]
      omega
    · have e9 : t + 1 = f := by omega
      rw [e9, e1, Nat.add_sub_cancel, ← e9]
      exact g.2.2.2

set_option maxRecDepth 20000 in
set_option maxHeartbeats 4000000 in
theorem c_L_lay {M : tu_M} (n m p br : Nat) (S : Int) (L a k : Nat → Int) (hn : 1 ≤ n ∧ n ≤ 5) (hbr : 1 ≤ br ∧ br ≤ 8) (hp : p < 4) (hm : 1 ≤ m ∧ m ≤ 9) (hm3 : M 87 (3 * p) = ((m : Nat) : Int)) (hS : tu_mk S n a) (hs : tu_mk (M 87 (3 * p + 1)) m (tz_k2 k)) (hv : tu_mk (M 87 (3 * p + 2)) m (tz_k1 k)) (hk : ∀ b, b < m → 0 ≤ k b ∧ k b ≤ 2) (hL : L 0 = ((br : Nat) : Int) ∧ L 1 = M 90 1 ∧ L 2 = M 90 2 ∧ L 3 = M 90 3) (hLr : (0 ≤ L 1 ∧ L 1 ≤ 9) ∧ (0 ≤ L 2 ∧ L 2 ≤ 9) ∧ (0 ≤ L 3 ∧ L 3 ≤ 20)) : tu_MV tu_Y_L_lay [tu_i ((n : Nat) : Int), tu_i S, tu_i ((p : Nat) : Int), tu_i ((br : Nat) : Int), tu_r 90, tu_r 87, tu_r 91] M (fun M' => ∃ (w : Nat → Int), M' = tu_row M 91 w ∧ (tz_A L a k n m (tz_Z L a k n m) w)) := by
  refine tu_MV.of (by decide) rfl (Nat.le_of_ble_eq_true rfl) (fun T (X : tu_X T cL_lay RL 0 0) hnl hret => ?_)
  have hret : tu_RV T cL_lay (fun M' => ∃ (w : Nat → Int), M' = tu_row M 91 w ∧ (tz_A L a k n m (tz_Z L a k n m) w)) := hret
  have hnl : T.2.2.2.2.2.2.2.2.2.2.1 = 20 := hnl
  show tu_W T 0 [(0, tu_i ((n : Nat) : Int)), (1, tu_i S), (2, tu_i ((p : Nat) : Int)), (3, tu_i ((br : Nat) : Int)), (4, tu_r 90), (5, tu_r 87), (6, tu_r 91)] [] M
  refine tu_aload 0 X 5 dL_lay_0 rfl ?_
  refine tu_iconst 2 X dL_lay_2 ?_
  refine tu_iload_n 3 X 2 dL_lay_3 rfl ?_
  refine tu_imul 4 X dL_lay_4 ?_
  refine tu_iald 5 X (x := M 87 (3 * p)) (3 * p) dL_lay_5 (by decide) rfl (by decide) (by omega) (by omega) rfl ?_
  refine tu_tp (b := ((m : Nat) : Int)) (by exact hm3) ?_
  refine tu_istore 6 X (lv' := [(7, tu_i ((m : Nat) : Int)), (0, tu_i ((n : Nat) : Int)), (1, tu_i S), (2, tu_i ((p : Nat) : Int)), (3, tu_i ((br : Nat) : Int)), (4, tu_r 90), (5, tu_r 87), (6, tu_r 91)]) dL_lay_6 (by rw [hnl]; decide) rfl ?_
  refine tu_aload 8 X 6 dL_lay_8 rfl ?_
  refine tu_iconst 10 X dL_lay_10 ?_
  refine tu_iload_n 11 X 3 dL_lay_11 rfl ?_
  refine tu_imul 12 X dL_lay_12 ?_
  refine tu_iconst 13 X dL_lay_13 ?_
  refine tu_iadd 14 X dL_lay_14 ?_
  refine tu_iald 15 X (x := M 87 ((3 * p) + 1)) ((3 * p) + 1) dL_lay_15 (by decide) rfl (by decide) (by omega) (by omega) rfl ?_
  refine tu_istore 16 X (lv' := [(8, tu_i (M 87 ((3 * p) + 1))), (7, tu_i ((m : Nat) : Int)), (0, tu_i ((n : Nat) : Int)), (1, tu_i S), (2, tu_i ((p : Nat) : Int)), (3, tu_i ((br : Nat) : Int)), (4, tu_r 90), (5, tu_r 87), (6, tu_r 91)]) dL_lay_16 (by rw [hnl]; decide) rfl ?_
  refine tu_iload 18 X 0 dL_lay_18 rfl ?_
  refine tu_aload 20 X 7 dL_lay_20 rfl ?_
  refine tu_iconst 22 X dL_lay_22 ?_
  refine tu_iload_n 23 X 4 dL_lay_23 rfl ?_
  refine tu_imul 24 X dL_lay_24 ?_
  refine tu_iconst 25 X dL_lay_25 ?_
  refine tu_iadd 26 X dL_lay_26 ?_
  refine tu_iald 27 X (x := M 87 ((3 * p) + 2)) ((3 * p) + 2) dL_lay_27 (by decide) rfl (by decide) (by omega) (by omega) rfl ?_
  refine tu_ior 28 X dL_lay_28 ?_
  refine tu_istore 29 X (lv' := [(9, tu_i (tu_or (M 87 ((3 * p) + 1)) (M 87 ((3 * p) + 2)))), (8, tu_i (M 87 ((3 * p) + 1))), (7, tu_i ((m : Nat) : Int)), (0, tu_i ((n : Nat) : Int)), (1, tu_i S), (2, tu_i ((p : Nat) : Int)), (3, tu_i ((br : Nat) : Int)), (4, tu_r 90), (5, tu_r 87), (6, tu_r 91)]) dL_lay_29 (by rw [hnl]; decide) rfl ?_
  refine tu_iconst 31 X dL_lay_31 ?_
  refine tu_istore 32 X (lv' := [(10, tu_i 0), (9, tu_i (tu_or (M 87 ((3 * p) + 1)) (M 87 ((3 * p) + 2)))), (8, tu_i (M 87 ((3 * p) + 1))), (7, tu_i ((m : Nat) : Int)), (0, tu_i ((n : Nat) : Int)), (1, tu_i S), (2, tu_i ((p : Nat) : Int)), (3, tu_i ((br : Nat) : Int)), (4, tu_r 90), (5, tu_r 87), (6, tu_r 91)]) dL_lay_32 (by rw [hnl]; decide) rfl ?_
  refine tu_iconst 34 X dL_lay_34 ?_
  refine tu_istore 35 X (lv' := [(11, tu_i 0), (10, tu_i 0), (9, tu_i (tu_or (M 87 ((3 * p) + 1)) (M 87 ((3 * p) + 2)))), (8, tu_i (M 87 ((3 * p) + 1))), (7, tu_i ((m : Nat) : Int)), (0, tu_i ((n : Nat) : Int)), (1, tu_i S), (2, tu_i ((p : Nat) : Int)), (3, tu_i ((br : Nat) : Int)), (4, tu_r 90), (5, tu_r 87), (6, tu_r 91)]) dL_lay_35 (by rw [hnl]; decide) rfl ?_
  have lp37 : ∀ (nq : Nat) (b9 : Nat), (b9 ≤ m) → m - b9 < nq → tu_W T 37 [(0, tu_i ((n : Nat) : Int)), (1, tu_i S), (2, tu_i ((p : Nat) : Int)), (3, tu_i ((br : Nat) : Int)), (4, tu_r 90), (5, tu_r 87), (6, tu_r 91), (7, tu_i ((m : Nat) : Int)), (8, tu_i (M 87 ((3 * p) + 1))), (9, tu_i (tu_or (M 87 ((3 * p) + 1)) (M 87 ((3 * p) + 2)))), (10, tu_i (tu_sm (fun q => if k q = 0 then 0 else 1) b9)), (11, tu_i ((b9 : Nat) : Int))] [] M := by
    intro nq
    induction nq with
    | zero => intros; omega
    | succ nq ih37 =>
      intro b9 hb9 hn37
      refine tu_iload 37 X 11 dL_lay_37 rfl ?_
      refine tu_iload 39 X 7 dL_lay_39 rfl ?_
      refine tu_icmp_ge 41 X 62 dL_lay_41 (by decide) (show tu_rg ((b9 : Nat) : Int) from by first | assumption | exact ⟨by omega, by omega⟩) (show tu_rg ((m : Nat) : Int) from by first | assumption | exact ⟨by omega, by omega⟩) (fun br41 => ?_) (fun br41 => ?_)
      ·
        refine tu_jmp [0, 1, 2, 3, 4, 5, 6, 7, 8, 9, 10, 11] (lv' := [(0, tu_i ((n : Nat) : Int)), (1, tu_i S), (2, tu_i ((p : Nat) : Int)), (3, tu_i ((br : Nat) : Int)), (4, tu_r 90), (5, tu_r 87), (6, tu_r 91), (7, tu_i ((m : Nat) : Int)), (8, tu_i (M 87 ((3 * p) + 1))), (9, tu_i (tu_or (M 87 ((3 * p) + 1)) (M 87 ((3 * p) + 2)))), (10, tu_i (tu_sm (fun q => if k q = 0 then 0 else 1) m)), (11, tu_i ((b9 : Nat) : Int))]) ⟨rfl, rfl, rfl, rfl, rfl, rfl, rfl, rfl, rfl, rfl, tu_ei (by rw [show m = b9 from by omega]), rfl, trivial⟩ rfl ?_
        refine tu_iconst 62 X dL_lay_62 ?_
        refine tu_istore 63 X (lv' := [(11, tu_i 0), (0, tu_i ((n : Nat) : Int)), (1, tu_i S), (2, tu_i ((p : Nat) : Int)), (3, tu_i ((br : Nat) : Int)), (4, tu_r 90), (5, tu_r 87), (6, tu_r 91), (7, tu_i ((m : Nat) : Int)), (8, tu_i (M 87 ((3 * p) + 1))), (9, tu_i (tu_or (M 87 ((3 * p) + 1)) (M 87 ((3 * p) + 2)))), (10, tu_i (tu_sm (fun q => if k q = 0 then 0 else 1) m))]) dL_lay_63 (by rw [hnl]; decide) rfl ?_
        refine tu_iload 65 X 0 dL_lay_65 rfl ?_
        refine tu_iconst 67 X dL_lay_67 ?_
        refine tu_icmp_ge 68 X 100 dL_lay_68 (by decide) ⟨by decide, by decide⟩ ⟨by decide, by decide⟩ (fun br68 => ?_) (fun br68 => ?_)
        ·
          exfalso; omega
        ·
          refine tu_aload 71 X 7 dL_lay_71 rfl ?_
          refine tu_iload 73 X 0 dL_lay_73 rfl ?_
          refine tu_iload 75 X 0 dL_lay_75 rfl ?_
          refine tu_iconst 77 X dL_lay_77 ?_
          refine tu_icmp_eq 78 X 87 dL_lay_78 (by decide) ⟨by decide, by decide⟩ ⟨by decide, by decide⟩ (fun br78 => ?_) (fun br78 => ?_)
          ·
            exfalso; omega
          ·
            refine tu_iload 81 X 0 dL_lay_81 rfl ?_
            refine tu_iconst 83 X dL_lay_83 ?_
            refine tu_icmp_ne 84 X 91 dL_lay_84 (by decide) ⟨by decide, by decide⟩ ⟨by decide, by decide⟩ (fun br84 => ?_) (fun br84 => ?_)
            ·
              refine tu_bipush 91 X dL_lay_91 (by decide) ?_
              refine tu_iast 93 X (M' := tu_row M 91 (tu_u (M 91) 0 (-6))) 0 dL_lay_93 (by decide) rfl (by decide) rfl (by decide) rfl ?_
              refine tu_iinc 94 X (lv' := [(11, tu_i 1), (0, tu_i ((n : Nat) : Int)), (1, tu_i S), (2, tu_i ((p : Nat) : Int)), (3, tu_i ((br : Nat) : Int)), (4, tu_r 90), (5, tu_r 87), (6, tu_r 91), (7, tu_i ((m : Nat) : Int)), (8, tu_i (M 87 ((3 * p) + 1))), (9, tu_i (tu_or (M 87 ((3 * p) + 1)) (M 87 ((3 * p) + 2)))), (10, tu_i (tu_sm (fun q => if k q = 0 then 0 else 1) m))]) 0 dL_lay_94 rfl (by rw [hnl]; decide) rfl ?_
              refine tu_goto 97 X 65 dL_lay_97 (by decide) ?_
              refine tu_iload 65 X 0 dL_lay_65 rfl ?_
              refine tu_iconst 67 X dL_lay_67 ?_
              refine tu_icmp_ge 68 X 100 dL_lay_68 (by decide) ⟨by decide, by decide⟩ ⟨by decide, by decide⟩ (fun br68 => ?_) (fun br68 => ?_)
              ·
                exfalso; omega
              ·
                refine tu_aload 71 X 7 dL_lay_71 rfl ?_
                refine tu_iload 73 X 0 dL_lay_73 rfl ?_
                refine tu_iload 75 X 0 dL_lay_75 rfl ?_
                refine tu_iconst 77 X dL_lay_77 ?_
                refine tu_icmp_eq 78 X 87 dL_lay_78 (by decide) ⟨by decide, by decide⟩ ⟨by decide, by decide⟩ (fun br78 => ?_) (fun br78 => ?_)
                ·
                  refine tu_iconst 87 X dL_lay_87 ?_
                  refine tu_goto 88 X 93 dL_lay_88 (by decide) ?_
                  refine tu_iast 93 X (M' := tu_row M 91 (tu_u (tu_u (M 91) 0 (-6)) 1 0)) 1 dL_lay_93 (by decide) rfl (by decide) rfl (by decide) (tu_rr M 91 (tu_u (M 91) 0 (-6)) (tu_u (tu_u (M 91) 0 (-6)) 1 0)) ?_
                  refine tu_iinc 94 X (lv' := [(11, tu_i 2), (0, tu_i ((n : Nat) : Int)), (1, tu_i S), (2, tu_i ((p : Nat) : Int)), (3, tu_i ((br : Nat) : Int)), (4, tu_r 90), (5, tu_r 87), (6, tu_r 91), (7, tu_i ((m : Nat) : Int)), (8, tu_i (M 87 ((3 * p) + 1))), (9, tu_i (tu_or (M 87 ((3 * p) + 1)) (M 87 ((3 * p) + 2)))), (10, tu_i (tu_sm (fun q => if k q = 0 then 0 else 1) m))]) 0 dL_lay_94 rfl (by rw [hnl]; decide) rfl ?_
                  refine tu_goto 97 X 65 dL_lay_97 (by decide) ?_
                  refine tu_iload 65 X 0 dL_lay_65 rfl ?_
                  refine tu_iconst 67 X dL_lay_67 ?_
                  refine tu_icmp_ge 68 X 100 dL_lay_68 (by decide) ⟨by decide, by decide⟩ ⟨by decide, by decide⟩ (fun br68 => ?_) (fun br68 => ?_)
                  ·
                    exfalso; omega
                  ·
                    refine tu_aload 71 X 7 dL_lay_71 rfl ?_
                    refine tu_iload 73 X 0 dL_lay_73 rfl ?_
                    refine tu_iload 75 X 0 dL_lay_75 rfl ?_
                    refine tu_iconst 77 X dL_lay_77 ?_
                    refine tu_icmp_eq 78 X 87 dL_lay_78 (by decide) ⟨by decide, by decide⟩ ⟨by decide, by decide⟩ (fun br78 => ?_) (fun br78 => ?_)
                    ·
                      exfalso; omega
                    ·
                      refine tu_iload 81 X 0 dL_lay_81 rfl ?_
                      refine tu_iconst 83 X dL_lay_83 ?_
                      refine tu_icmp_ne 84 X 91 dL_lay_84 (by decide) ⟨by decide, by decide⟩ ⟨by decide, by decide⟩ (fun br84 => ?_) (fun br84 => ?_)
                      ·
                        exfalso; omega
                      ·
                        refine tu_iconst 87 X dL_lay_87 ?_
                        refine tu_goto 88 X 93 dL_lay_88 (by decide) ?_
                        refine tu_iast 93 X (M' := tu_row M 91 (tu_u (tu_u (tu_u (M 91) 0 (-6)) 1 0) 2 0)) 2 dL_lay_93 (by decide) rfl (by decide) rfl (by decide) (tu_rr M 91 (tu_u (tu_u (M 91) 0 (-6)) 1 0) (tu_u (tu_u (tu_u (M 91) 0 (-6)) 1 0) 2 0)) ?_
                        refine tu_iinc 94 X (lv' := [(11, tu_i 3), (0, tu_i ((n : Nat) : Int)), (1, tu_i S), (2, tu_i ((p : Nat) : Int)), (3, tu_i ((br : Nat) : Int)), (4, tu_r 90), (5, tu_r 87), (6, tu_r 91), (7, tu_i ((m : Nat) : Int)), (8, tu_i (M 87 ((3 * p) + 1))), (9, tu_i (tu_or (M 87 ((3 * p) + 1)) (M 87 ((3 * p) + 2)))), (10, tu_i (tu_sm (fun q => if k q = 0 then 0 else 1) m))]) 0 dL_lay_94 rfl (by rw [hnl]; decide) rfl ?_
                        refine tu_goto 97 X 65 dL_lay_97 (by decide) ?_
                        refine tu_iload 65 X 0 dL_lay_65 rfl ?_
                        refine tu_iconst 67 X dL_lay_67 ?_
                        refine tu_icmp_ge 68 X 100 dL_lay_68 (by decide) ⟨by decide, by decide⟩ ⟨by decide, by decide⟩ (fun br68 => ?_) (fun br68 => ?_)
                        ·
                          exfalso; omega
                        ·
                          refine tu_aload 71 X 7 dL_lay_71 rfl ?_
                          refine tu_iload 73 X 0 dL_lay_73 rfl ?_
                          refine tu_iload 75 X 0 dL_lay_75 rfl ?_
                          refine tu_iconst 77 X dL_lay_77 ?_
                          refine tu_icmp_eq 78 X 87 dL_lay_78 (by decide) ⟨by decide, by decide⟩ ⟨by decide, by decide⟩ (fun br78 => ?_) (fun br78 => ?_)
                          ·
                            exfalso; omega
                          ·
                            refine tu_iload 81 X 0 dL_lay_81 rfl ?_
                            refine tu_iconst 83 X dL_lay_83 ?_
                            refine tu_icmp_ne 84 X 91 dL_lay_84 (by decide) ⟨by decide, by decide⟩ ⟨by decide, by decide⟩ (fun br84 => ?_) (fun br84 => ?_)
                            ·
                              refine tu_bipush 91 X dL_lay_91 (by decide) ?_
                              refine tu_iast 93 X (M' := tu_row M 91 (tu_u (tu_u (tu_u (tu_u (M 91) 0 (-6)) 1 0) 2 0) 3 (-6))) 3 dL_lay_93 (by decide) rfl (by decide) rfl (by decide) (tu_rr M 91 (tu_u (tu_u (tu_u (M 91) 0 (-6)) 1 0) 2 0) (tu_u (tu_u (tu_u (tu_u (M 91) 0 (-6)) 1 0) 2 0) 3 (-6))) ?_
                              refine tu_iinc 94 X (lv' := [(11, tu_i 4), (0, tu_i ((n : Nat) : Int)), (1, tu_i S), (2, tu_i ((p : Nat) : Int)), (3, tu_i ((br : Nat) : Int)), (4, tu_r 90), (5, tu_r 87), (6, tu_r 91), (7, tu_i ((m : Nat) : Int)), (8, tu_i (M 87 ((3 * p) + 1))), (9, tu_i (tu_or (M 87 ((3 * p) + 1)) (M 87 ((3 * p) + 2)))), (10, tu_i (tu_sm (fun q => if k q = 0 then 0 else 1) m))]) 0 dL_lay_94 rfl (by rw [hnl]; decide) rfl ?_
                              refine tu_goto 97 X 65 dL_lay_97 (by decide) ?_
                              refine tu_iload 65 X 0 dL_lay_65 rfl ?_
                              refine tu_iconst 67 X dL_lay_67 ?_
                              refine tu_icmp_ge 68 X 100 dL_lay_68 (by decide) ⟨by decide, by decide⟩ ⟨by decide, by decide⟩ (fun br68 => ?_) (fun br68 => ?_)
                              ·
                                exfalso; omega
                              ·
                                refine tu_aload 71 X 7 dL_lay_71 rfl ?_
                                refine tu_iload 73 X 0 dL_lay_73 rfl ?_
                                refine tu_iload 75 X 0 dL_lay_75 rfl ?_
                                refine tu_iconst 77 X dL_lay_77 ?_
                                refine tu_icmp_eq 78 X 87 dL_lay_78 (by decide) ⟨by decide, by decide⟩ ⟨by decide, by decide⟩ (fun br78 => ?_) (fun br78 => ?_)
                                ·
                                  exfalso; omega
                                ·
                                  refine tu_iload 81 X 0 dL_lay_81 rfl ?_
                                  refine tu_iconst 83 X dL_lay_83 ?_
                                  refine tu_icmp_ne 84 X 91 dL_lay_84 (by decide) ⟨by decide, by decide⟩ ⟨by decide, by decide⟩ (fun br84 => ?_) (fun br84 => ?_)
                                  ·
                                    refine tu_bipush 91 X dL_lay_91 (by decide) ?_
                                    refine tu_iast 93 X (M' := tu_row M 91 (tu_u (tu_u (tu_u (tu_u (tu_u (M 91) 0 (-6)) 1 0) 2 0) 3 (-6)) 4 (-6))) 4 dL_lay_93 (by decide) rfl (by decide) rfl (by decide) (tu_rr M 91 (tu_u (tu_u (tu_u (tu_u (M 91) 0 (-6)) 1 0) 2 0) 3 (-6)) (tu_u (tu_u (tu_u (tu_u (tu_u (M 91) 0 (-6)) 1 0) 2 0) 3 (-6)) 4 (-6))) ?_
                                    refine tu_iinc 94 X (lv' := [(11, tu_i 5), (0, tu_i ((n : Nat) : Int)), (1, tu_i S), (2, tu_i ((p : Nat) : Int)), (3, tu_i ((br : Nat) : Int)), (4, tu_r 90), (5, tu_r 87), (6, tu_r 91), (7, tu_i ((m : Nat) : Int)), (8, tu_i (M 87 ((3 * p) + 1))), (9, tu_i (tu_or (M 87 ((3 * p) + 1)) (M 87 ((3 * p) + 2)))), (10, tu_i (tu_sm (fun q => if k q = 0 then 0 else 1) m))]) 0 dL_lay_94 rfl (by rw [hnl]; decide) rfl ?_
                                    refine tu_goto 97 X 65 dL_lay_97 (by decide) ?_
                                    refine tu_iload 65 X 0 dL_lay_65 rfl ?_
                                    refine tu_iconst 67 X dL_lay_67 ?_
                                    refine tu_icmp_ge 68 X 100 dL_lay_68 (by decide) ⟨by decide, by decide⟩ ⟨by decide, by decide⟩ (fun br68 => ?_) (fun br68 => ?_)
                                    ·
                                      refine tu_iconst 100 X dL_lay_100 ?_
                                      refine tu_istore 101 X (lv' := [(11, tu_i 0), (0, tu_i ((n : Nat) : Int)), (1, tu_i S), (2, tu_i ((p : Nat) : Int)), (3, tu_i ((br : Nat) : Int)), (4, tu_r 90), (5, tu_r 87), (6, tu_r 91), (7, tu_i ((m : Nat) : Int)), (8, tu_i (M 87 ((3 * p) + 1))), (9, tu_i (tu_or (M 87 ((3 * p) + 1)) (M 87 ((3 * p) + 2)))), (10, tu_i (tu_sm (fun q => if k q = 0 then 0 else 1) m))]) dL_lay_101 (by rw [hnl]; decide) rfl ?_
                                      refine tu_aload 103 X 7 dL_lay_103 rfl ?_
                                      refine tu_bipush 105 X dL_lay_105 (by decide) ?_
                                      refine tu_iconst 107 X dL_lay_107 ?_
                                      refine tu_iast 108 X (M' := tu_row M 91 (tu_u (tu_u (tu_u (tu_u (tu_u (tu_u (M 91) 0 (-6)) 1 0) 2 0) 3 (-6)) 4 (-6)) 16 (-1))) 16 dL_lay_108 (by decide) rfl (by decide) rfl (by decide) (tu_rr M 91 (tu_u (tu_u (tu_u (tu_u (tu_u (M 91) 0 (-6)) 1 0) 2 0) 3 (-6)) 4 (-6)) (tu_u (tu_u (tu_u (tu_u (tu_u (tu_u (M 91) 0 (-6)) 1 0) 2 0) 3 (-6)) 4 (-6)) 16 (-1))) ?_
                                      have lp109 : ∀ (nq : Nat) (e : Nat) (y : Nat → Nat) (A : tz_Q) (wv : Nat → Int), (tz_I L a k (tu_qm (L 0) k m) n m (tz_ad tz_no (tz_Z L a k n m)) e y A wv) → tz_mu n m y e < nq → tu_W T 109 [(0, tu_i ((n : Nat) : Int)), (1, tu_i S), (2, tu_i ((p : Nat) : Int)), (3, tu_i ((br : Nat) : Int)), (4, tu_r 90), (5, tu_r 87), (6, tu_r 91), (7, tu_i ((m : Nat) : Int)), (8, tu_i (M 87 ((3 * p) + 1))), (9, tu_i (tu_or (M 87 ((3 * p) + 1)) (M 87 ((3 * p) + 2)))), (10, tu_i (tu_sm (fun q => if k q = 0 then 0 else 1) m)), (11, tu_i (((e : Nat) : Int) - 1))] [] (tu_row M 91 wv) := by
                                        intro nq
                                        induction nq with
                                        | zero => intros; omega
                                        | succ nq ih109 =>
                                          intro e y A wv hI hn109
                                          have hen : e ≤ n := hI.1
                                          refine tu_iload 109 X 11 dL_lay_109 rfl ?_
                                          refine tu_if_lt 111 X 497 dL_lay_111 (by decide) (show tu_rg (((e : Nat) : Int) - 1) from by first | assumption | exact ⟨by omega, by omega⟩) (fun br111 => ?_) (fun br111 => ?_)
                                          ·
                                            refine hret 497 _ _ dL_lay_497 ?_
                                            have hI0 := hI
                                            rw [show e = 0 from by omega] at hI0
                                            refine ⟨wv, rfl, tz_A_Z hn.1 ?_⟩
                                            have hF : A = _ := hI0.2.2.2.2.2
                                            rw [← hF]
                                            exact hI0.2.1
                                          ·
                                            obtain ⟨f, hf⟩ : ∃ f, e = f + 1 := ⟨e - 1, by omega⟩
                                            have hI9 : tz_I L a k (tu_qm (L 0) k m) n m (tz_ad tz_no (tz_Z L a k n m))  (f + 1) y A wv := by rw [← hf]; exact hI
                                            have hfn : f + 1 ≤ n := hI9.1
                                            have hyf : y f ≤ 8 * m := hI9.2.2.2.1 f (Nat.lt_succ_self f)
                                            have hwf : wv (16 + f) = ((y f : Nat) : Int) - 1 := hI9.2.2.1 f (Nat.lt_succ_self f)
                                            refine tu_aload 114 X 6 dL_lay_114 rfl ?_
                                            refine tu_bipush 116 X dL_lay_116 (by decide) ?_
                                            refine tu_iload 118 X 11 dL_lay_118 rfl ?_
                                            refine tu_iadd 120 X dL_lay_120 ?_
                                            refine tu_tp (b := ((16 + f : Nat) : Int)) (by omega) ?_
                                            refine tu_dup2 121 X dL_lay_121 rfl rfl ?_
                                            refine tu_iald 122 X (x := wv (16 + f)) (16 + f) dL_lay_122 (by decide) rfl (by decide) (by omega) (by omega) rfl ?_
                                            refine tu_tp (b := (((y f : Nat) : Int) - 1)) (by exact hwf) ?_
                                            refine tu_iconst 123 X dL_lay_123 ?_
                                            refine tu_iadd 124 X dL_lay_124 ?_
                                            refine tu_tp (b := ((y f : Nat) : Int)) (by omega) ?_
                                            refine tu_dup_x2 125 X dL_lay_125 rfl rfl rfl ?_
                                            refine tu_iast 126 X (M' := tu_row M 91 (tu_u wv (16 + f) ((y f : Nat) : Int))) (16 + f) dL_lay_126 (by decide) rfl (by decide) (by omega) (by omega) (tu_rr M 91 wv (tu_u wv (16 + f) ((y f : Nat) : Int))) ?_
                                            refine tu_istore 127 X (lv' := [(12, tu_i ((y f : Nat) : Int)), (0, tu_i ((n : Nat) : Int)), (1, tu_i S), (2, tu_i ((p : Nat) : Int)), (3, tu_i ((br : Nat) : Int)), (4, tu_r 90), (5, tu_r 87), (6, tu_r 91), (7, tu_i ((m : Nat) : Int)), (8, tu_i (M 87 ((3 * p) + 1))), (9, tu_i (tu_or (M 87 ((3 * p) + 1)) (M 87 ((3 * p) + 2)))), (10, tu_i (tu_sm (fun q => if k q = 0 then 0 else 1) m)), (11, tu_i (((e : Nat) : Int) - 1))]) dL_lay_127 (by rw [hnl]; decide) rfl ?_
                                            refine tu_iload 129 X 0 dL_lay_129 rfl ?_
                                            refine tu_bipush 131 X dL_lay_131 (by decide) ?_
                                            refine tu_iload 133 X 8 dL_lay_133 rfl ?_
                                            refine tu_imul 135 X dL_lay_135 ?_
                                            refine tu_icmp_lt 136 X 145 dL_lay_136 (by decide) (show tu_rg ((y f : Nat) : Int) from by first | assumption | exact ⟨by omega, by omega⟩) (show tu_rg (8 * ((m : Nat) : Int)) from by first | assumption | exact ⟨by omega, by omega⟩) (fun br136 => ?_) (fun br136 => ?_)
                                            ·
                                              have hyl : y f < 8 * m := by omega
                                              have hyb : y f / 8 < m := by omega
                                              have hL0 := hL.1
                                              refine tu_iload 145 X 0 dL_lay_145 rfl ?_
                                              refine tu_bipush 147 X dL_lay_147 (by decide) ?_
                                              refine tu_idiv 149 X dL_lay_149 ⟨by decide, by decide⟩ (by decide) ?_
                                              refine tu_tp (b := ((y f / 8 : Nat) : Int)) (by exact tu_div_n (by omega) (by decide) (by decide)) ?_
                                              refine tu_istore 150 X (lv' := [(13, tu_i ((y f / 8 : Nat) : Int)), (12, tu_i ((y f : Nat) : Int)), (0, tu_i ((n : Nat) : Int)), (1, tu_i S), (2, tu_i ((p : Nat) : Int)), (3, tu_i ((br : Nat) : Int)), (4, tu_r 90), (5, tu_r 87), (6, tu_r 91), (7, tu_i ((m : Nat) : Int)), (8, tu_i (M 87 ((3 * p) + 1))), (9, tu_i (tu_or (M 87 ((3 * p) + 1)) (M 87 ((3 * p) + 2)))), (10, tu_i (tu_sm (fun q => if k q = 0 then 0 else 1) m)), (11, tu_i (((e : Nat) : Int) - 1))]) dL_lay_150 (by rw [hnl]; decide) rfl ?_
                                              refine tu_iload 152 X 1 dL_lay_152 rfl ?_
                                              refine tu_bipush 154 X dL_lay_154 (by decide) ?_
                                              refine tu_irem 156 X dL_lay_156 ⟨by decide, by decide⟩ (by decide) ?_
                                              refine tu_tp (b := ((y f % 8 : Nat) : Int)) (by exact tu_rem_n (by omega) (by decide) (by decide)) ?_
                                              refine tu_iconst 157 X dL_lay_157 ?_
                                              refine tu_iadd 158 X dL_lay_158 ?_
                                              refine tu_tp (b := ((y f % 8 + 1 : Nat) : Int)) (by omega) ?_
                                              refine tu_istore 159 X (lv' := [(14, tu_i ((y f % 8 + 1 : Nat) : Int)), (13, tu_i ((y f / 8 : Nat) : Int)), (12, tu_i ((y f : Nat) : Int)), (0, tu_i ((n : Nat) : Int)), (1, tu_i S), (2, tu_i ((p : Nat) : Int)), (3, tu_i ((br : Nat) : Int)), (4, tu_r 90), (5, tu_r 87), (6, tu_r 91), (7, tu_i ((m : Nat) : Int)), (8, tu_i (M 87 ((3 * p) + 1))), (9, tu_i (tu_or (M 87 ((3 * p) + 1)) (M 87 ((3 * p) + 2)))), (10, tu_i (tu_sm (fun q => if k q = 0 then 0 else 1) m)), (11, tu_i (((e : Nat) : Int) - 1))]) dL_lay_159 (by rw [hnl]; decide) rfl ?_
                                              have lp182 : ∀ (ft : Int), ((ft = 1 ∧ y f % 8 + 1 ≤ br ∧ y f / 8 + (y f % 8 + 1) ≤ m) ∨ (ft = 0 ∧ ¬ (y f % 8 + 1 ≤ (tu_qm (L 0) k m) (y f / 8)))) → tu_W T 182 [(0, tu_i ((n : Nat) : Int)), (1, tu_i S), (2, tu_i ((p : Nat) : Int)), (3, tu_i ((br : Nat) : Int)), (4, tu_r 90), (5, tu_r 87), (6, tu_r 91), (7, tu_i ((m : Nat) : Int)), (8, tu_i (M 87 ((3 * p) + 1))), (9, tu_i (tu_or (M 87 ((3 * p) + 1)) (M 87 ((3 * p) + 2)))), (10, tu_i (tu_sm (fun q => if k q = 0 then 0 else 1) m)), (11, tu_i (((e : Nat) : Int) - 1)), (12, tu_i ((y f : Nat) : Int)), (13, tu_i ((y f / 8 : Nat) : Int)), (14, tu_i ((y f % 8 + 1 : Nat) : Int))] [tu_i ft] (tu_row M 91 (tu_u wv (16 + f) ((y f : Nat) : Int))) := by
                                                  intro ft hft0
                                                  refine tu_istore 182 X (lv' := [(15, tu_i ft), (0, tu_i ((n : Nat) : Int)), (1, tu_i S), (2, tu_i ((p : Nat) : Int)), (3, tu_i ((br : Nat) : Int)), (4, tu_r 90), (5, tu_r 87), (6, tu_r 91), (7, tu_i ((m : Nat) : Int)), (8, tu_i (M 87 ((3 * p) + 1))), (9, tu_i (tu_or (M 87 ((3 * p) + 1)) (M 87 ((3 * p) + 2)))), (10, tu_i (tu_sm (fun q => if k q = 0 then 0 else 1) m)), (11, tu_i (((e : Nat) : Int) - 1)), (12, tu_i ((y f : Nat) : Int)), (13, tu_i ((y f / 8 : Nat) : Int)), (14, tu_i ((y f % 8 + 1 : Nat) : Int))]) dL_lay_182 (by rw [hnl]; decide) rfl ?_
                                                  refine tu_iload 184 X 14 dL_lay_184 rfl ?_
                                                  refine tu_istore 186 X (lv' := [(16, tu_i ((y f / 8 : Nat) : Int)), (15, tu_i ft), (0, tu_i ((n : Nat) : Int)), (1, tu_i S), (2, tu_i ((p : Nat) : Int)), (3, tu_i ((br : Nat) : Int)), (4, tu_r 90), (5, tu_r 87), (6, tu_r 91), (7, tu_i ((m : Nat) : Int)), (8, tu_i (M 87 ((3 * p) + 1))), (9, tu_i (tu_or (M 87 ((3 * p) + 1)) (M 87 ((3 * p) + 2)))), (10, tu_i (tu_sm (fun q => if k q = 0 then 0 else 1) m)), (11, tu_i (((e : Nat) : Int) - 1)), (12, tu_i ((y f : Nat) : Int)), (13, tu_i ((y f / 8 : Nat) : Int)), (14, tu_i ((y f % 8 + 1 : Nat) : Int))]) dL_lay_186 (by rw [hnl]; decide) rfl ?_
                                                  have lp188 : ∀ (nq : Nat) (i9 : Nat) (fu : Int), ((fu = 1 ∧ i9 ≤ y f % 8 + 1 ∧ y f % 8 + 1 ≤ br ∧ y f / 8 + (y f % 8 + 1) ≤ m ∧ ∀ j, j < i9 → k (y f / 8 + j) ≠ 0) ∨ (fu = 0 ∧ ¬ (y f % 8 + 1 ≤ (tu_qm (L 0) k m) (y f / 8)))) → 20 - i9 < nq → tu_W T 188 [(0, tu_i ((n : Nat) : Int)), (1, tu_i S), (2, tu_i ((p : Nat) : Int)), (3, tu_i ((br : Nat) : Int)), (4, tu_r 90), (5, tu_r 87), (6, tu_r 91), (7, tu_i ((m : Nat) : Int)), (8, tu_i (M 87 ((3 * p) + 1))), (9, tu_i (tu_or (M 87 ((3 * p) + 1)) (M 87 ((3 * p) + 2)))), (10, tu_i (tu_sm (fun q => if k q = 0 then 0 else 1) m)), (11, tu_i (((e : Nat) : Int) - 1)), (12, tu_i ((y f : Nat) : Int)), (13, tu_i ((y f / 8 : Nat) : Int)), (14, tu_i ((y f % 8 + 1 : Nat) : Int)), (15, tu_i fu), (16, tu_i (((y f / 8 + i9) : Nat) : Int))] [] (tu_row M 91 (tu_u wv (16 + f) ((y f : Nat) : Int))) := by
                                                    intro nq
                                                    induction nq with
                                                    | zero => intros; omega
                                                    | succ nq ih188 =>
                                                      intro i9 fu hft hn188
                                                      have hfu : fu = 0 ∨ fu = 1 := by
                                                        rcases hft with q | q
                                                        · exact Or.inr q.1
                                                        · exact Or.inl q.1
                                                      refine tu_iload 188 X 15 dL_lay_188 rfl ?_
                                                      refine tu_if_eq 190 X 227 dL_lay_190 (by decide) (show tu_rg fu from by first | assumption | exact ⟨by omega, by omega⟩) (fun br190 => ?_) (fun br190 => ?_)
                                                      ·
                                                        refine tu_iload 227 X 15 dL_lay_227 rfl ?_
                                                        refine tu_if_ne 229 X 235 dL_lay_229 (by decide) (show tu_rg fu from by first | assumption | exact ⟨by omega, by omega⟩) (fun br229 => ?_) (fun br229 => ?_)
                                                        ·
                                                          exfalso; omega
                                                        ·
                                                          have hnf : ¬ (y f % 8 + 1 ≤ (tu_qm (L 0) k m) (y f / 8)) := by
                                                            rcases hft with q | q
                                                            · exact absurd q.1 (by omega)
                                                            · exact q.2
                                                          obtain ⟨e2, y2, A2, he2, hI2, hmu2⟩ : ∃ (e2 : Nat) (y2 : Nat → Nat) (A2 : tz_Q), e2 = f + 1 ∧ tz_I L a k (tu_qm (L 0) k m) n m (tz_ad tz_no (tz_Z L a k n m))  e2 y2 A2 (tu_u wv (16 + f) ((y f : Nat) : Int)) ∧ tz_mu n m y2 e2 < tz_mu n m y e := ⟨f + 1, tz_n1 y f, A, rfl, (tz_miss hI9 (by omega) hyl hnf).1, by rw [hf]; exact (tz_miss hI9 (by omega) hyl hnf).2⟩
                                                          refine tu_goto 232 X 109 dL_lay_232 (by decide) ?_
                                                          refine tu_jmp [0, 1, 2, 3, 4, 5, 6, 7, 8, 9, 10, 11] (lv' := [(0, tu_i ((n : Nat) : Int)), (1, tu_i S), (2, tu_i ((p : Nat) : Int)), (3, tu_i ((br : Nat) : Int)), (4, tu_r 90), (5, tu_r 87), (6, tu_r 91), (7, tu_i ((m : Nat) : Int)), (8, tu_i (M 87 ((3 * p) + 1))), (9, tu_i (tu_or (M 87 ((3 * p) + 1)) (M 87 ((3 * p) + 2)))), (10, tu_i (tu_sm (fun q => if k q = 0 then 0 else 1) m)), (11, tu_i (((e2 : Nat) : Int) - 1))]) ⟨rfl, rfl, rfl, rfl, rfl, rfl, rfl, rfl, rfl, rfl, rfl, tu_ei (by first | rfl | omega), trivial⟩ rfl (ih109 e2 y2 A2 (tu_u wv (16 + f) ((y f : Nat) : Int)) (by exact hI2) (by omega))
                                                      ·
                                                        obtain ⟨hf1a, hf1b, hf1c, hf1d, hf1e⟩ := hft.resolve_right (fun q => br190 q.1)
                                                        refine tu_iload 193 X 16 dL_lay_193 rfl ?_
                                                        refine tu_iload 195 X 13 dL_lay_195 rfl ?_
                                                        refine tu_iload 197 X 14 dL_lay_197 rfl ?_
                                                        refine tu_iadd 199 X dL_lay_199 ?_
                                                        refine tu_icmp_ge 200 X 227 dL_lay_200 (by decide) (show tu_rg (((y f / 8 + i9) : Nat) : Int) from by first | assumption | exact ⟨by omega, by omega⟩) (show tu_rg (((y f / 8 : Nat) : Int) + ((y f % 8 + 1 : Nat) : Int)) from by first | assumption | exact ⟨by omega, by omega⟩) (fun br200 => ?_) (fun br200 => ?_)
                                                        ·
                                                          have hfit : (y f % 8 + 1 ≤ (tu_qm (L 0) k m) (y f / 8)) := (tz_qm hyb (by omega)).mpr ⟨by omega, hf1d, fun j hj => hf1e j (by omega)⟩
                                                          refine tu_iload 227 X 15 dL_lay_227 rfl ?_
                                                          refine tu_if_ne 229 X 235 dL_lay_229 (by decide) (show tu_rg fu from by first | assumption | exact ⟨by omega, by omega⟩) (fun br229 => ?_) (fun br229 => ?_)
                                                          ·
                                                            refine tu_iload 235 X 11 dL_lay_235 rfl ?_
                                                            refine tu_iconst 237 X dL_lay_237 ?_
                                                            refine tu_iadd 238 X dL_lay_238 ?_
                                                            refine tu_iload_n 239 X 0 dL_lay_239 rfl ?_
                                                            refine tu_icmp_ge 240 X 267 dL_lay_240 (by decide) (show tu_rg ((((e : Nat) : Int) - 1) + 1) from by first | assumption | exact ⟨by omega, by omega⟩) (show tu_rg ((n : Nat) : Int) from by first | assumption | exact ⟨by omega, by omega⟩) (fun br240 => ?_) (fun br240 => ?_)
                                                            ·
                                                              have hfn2 : f + 1 = n := by omega
                                                              obtain ⟨G, hGn, hGw, hG8, hGx⟩ := tz_leafG hI9 hfn2 hyl hfit
                                                              have hfr := tz_fr_nn hG8 hGx
                                                              have hct := tz_ct_rg (L := L) (a := a) hLr.1 hLr.2.1 hLr.2.2 hn.2 hm.2 hfr
                                                              have gq := tz_g_q (L := L) (a := a) (k := k) (n := n) (m := m) (G := G)
                                                              have hgg : tz_g n (fun t => tz_n1 y f t - 1) = tz_g n G := by
                                                                funext t
                                                                unfold tz_g
                                                                split
                                                                · next q => show tz_n1 y f t - 1 = G t; rw [hGn t q]; rfl
                                                                · rfl
                                                              refine tu_iconst 267 X dL_lay_267 ?_
                                                              refine tu_istore 268 X (lv' := [(16, tu_i 0), (0, tu_i ((n : Nat) : Int)), (1, tu_i S), (2, tu_i ((p : Nat) : Int)), (3, tu_i ((br : Nat) : Int)), (4, tu_r 90), (5, tu_r 87), (6, tu_r 91), (7, tu_i ((m : Nat) : Int)), (8, tu_i (M 87 ((3 * p) + 1))), (9, tu_i (tu_or (M 87 ((3 * p) + 1)) (M 87 ((3 * p) + 2)))), (10, tu_i (tu_sm (fun q => if k q = 0 then 0 else 1) m)), (11, tu_i (((e : Nat) : Int) - 1)), (12, tu_i ((y f : Nat) : Int)), (13, tu_i ((y f / 8 : Nat) : Int)), (14, tu_i ((y f % 8 + 1 : Nat) : Int)), (15, tu_i fu)]) dL_lay_268 (by rw [hnl]; decide) rfl ?_
                                                              refine tu_iload 270 X 11 dL_lay_270 rfl ?_
                                                              refine tu_istore 272 X (lv' := [(17, tu_i (tu_sm (fun q => if k q = 0 then 0 else 1) m)), (16, tu_i 0), (0, tu_i ((n : Nat) : Int)), (1, tu_i S), (2, tu_i ((p : Nat) : Int)), (3, tu_i ((br : Nat) : Int)), (4, tu_r 90), (5, tu_r 87), (6, tu_r 91), (7, tu_i ((m : Nat) : Int)), (8, tu_i (M 87 ((3 * p) + 1))), (9, tu_i (tu_or (M 87 ((3 * p) + 1)) (M 87 ((3 * p) + 2)))), (10, tu_i (tu_sm (fun q => if k q = 0 then 0 else 1) m)), (11, tu_i (((e : Nat) : Int) - 1)), (12, tu_i ((y f : Nat) : Int)), (13, tu_i ((y f / 8 : Nat) : Int)), (14, tu_i ((y f % 8 + 1 : Nat) : Int)), (15, tu_i fu)]) dL_lay_272 (by rw [hnl]; decide) rfl ?_
                                                              refine tu_iconst 274 X dL_lay_274 ?_
                                                              refine tu_istore 275 X (lv' := [(18, tu_i 0), (17, tu_i (tu_sm (fun q => if k q = 0 then 0 else 1) m)), (16, tu_i 0), (0, tu_i ((n : Nat) : Int)), (1, tu_i S), (2, tu_i ((p : Nat) : Int)), (3, tu_i ((br : Nat) : Int)), (4, tu_r 90), (5, tu_r 87), (6, tu_r 91), (7, tu_i ((m : Nat) : Int)), (8, tu_i (M 87 ((3 * p) + 1))), (9, tu_i (tu_or (M 87 ((3 * p) + 1)) (M 87 ((3 * p) + 2)))), (10, tu_i (tu_sm (fun q => if k q = 0 then 0 else 1) m)), (11, tu_i (((e : Nat) : Int) - 1)), (12, tu_i ((y f : Nat) : Int)), (13, tu_i ((y f / 8 : Nat) : Int)), (14, tu_i ((y f % 8 + 1 : Nat) : Int)), (15, tu_i fu)]) dL_lay_275 (by rw [hnl]; decide) rfl ?_
                                                              refine tu_iconst 277 X dL_lay_277 ?_
                                                              refine tu_istore 278 X (lv' := [(19, tu_i 0), (18, tu_i 0), (17, tu_i (tu_sm (fun q => if k q = 0 then 0 else 1) m)), (16, tu_i 0), (0, tu_i ((n : Nat) : Int)), (1, tu_i S), (2, tu_i ((p : Nat) : Int)), (3, tu_i ((br : Nat) : Int)), (4, tu_r 90), (5, tu_r 87), (6, tu_r 91), (7, tu_i ((m : Nat) : Int)), (8, tu_i (M 87 ((3 * p) + 1))), (9, tu_i (tu_or (M 87 ((3 * p) + 1)) (M 87 ((3 * p) + 2)))), (10, tu_i (tu_sm (fun q => if k q = 0 then 0 else 1) m)), (11, tu_i (((e : Nat) : Int) - 1)), (12, tu_i ((y f : Nat) : Int)), (13, tu_i ((y f / 8 : Nat) : Int)), (14, tu_i ((y f % 8 + 1 : Nat) : Int)), (15, tu_i fu)]) dL_lay_278 (by rw [hnl]; decide) rfl ?_
                                                              have lp280 : ∀ (nq : Nat) (i8 : Nat), (i8 ≤ n) → n - i8 < nq → tu_W T 280 [(0, tu_i ((n : Nat) : Int)), (1, tu_i S), (2, tu_i ((p : Nat) : Int)), (3, tu_i ((br : Nat) : Int)), (4, tu_r 90), (5, tu_r 87), (6, tu_r 91), (7, tu_i ((m : Nat) : Int)), (8, tu_i (M 87 ((3 * p) + 1))), (9, tu_i (tu_or (M 87 ((3 * p) + 1)) (M 87 ((3 * p) + 2)))), (10, tu_i (tu_sm (fun q => if k q = 0 then 0 else 1) m)), (11, tu_i (((e : Nat) : Int) - 1)), (12, tu_i ((y f : Nat) : Int)), (13, tu_i ((y f / 8 : Nat) : Int)), (14, tu_i ((y f % 8 + 1 : Nat) : Int)), (15, tu_i fu), (16, tu_i (tz_dr L i8 G)), (17, tu_i (tu_sm (fun q => if k q = 0 then 0 else 1) m - tu_sm (fun t => ((G t % 8 + 1 : Nat) : Int)) i8)), (18, tu_i (tz_hs a k i8 G)), (19, tu_i ((i8 : Nat) : Int))] [] (tu_row M 91 (tu_u wv (16 + f) ((y f : Nat) : Int))) := by
                                                                intro nq
                                                                induction nq with
                                                                | zero => intros; omega
                                                                | succ nq ih280 =>
                                                                  intro i8 hi8 hn280
                                                                  refine tu_iload 280 X 19 dL_lay_280 rfl ?_
                                                                  refine tu_iload_n 282 X 0 dL_lay_282 rfl ?_
                                                                  refine tu_icmp_ge 283 X 366 dL_lay_283 (by decide) (show tu_rg ((i8 : Nat) : Int) from by first | assumption | exact ⟨by omega, by omega⟩) (show tu_rg ((n : Nat) : Int) from by first | assumption | exact ⟨by omega, by omega⟩) (fun br283 => ?_) (fun br283 => ?_)
                                                                  ·
                                                                    refine tu_iload 366 X 16 dL_lay_366 rfl ?_
                                                                    refine tu_aload 368 X 4 dL_lay_368 rfl ?_
                                                                    refine tu_iconst 370 X dL_lay_370 ?_
                                                                    refine tu_iald 371 X (x := M 90 2) 2 dL_lay_371 (by decide) rfl (by decide) rfl (by decide) rfl ?_
                                                                    refine tu_tp (b := (L 2)) (by exact hL.2.2.1.symm) ?_
                                                                    refine tu_iload 372 X 17 dL_lay_372 rfl ?_
                                                                    refine tu_imul 374 X dL_lay_374 ?_
                                                                    refine tu_aload 375 X 4 dL_lay_375 rfl ?_
                                                                    refine tu_iconst 377 X dL_lay_377 ?_
                                                                    refine tu_iald 378 X (x := M 90 3) 3 dL_lay_378 (by decide) rfl (by decide) rfl (by decide) rfl ?_
                                                                    refine tu_tp (b := (L 3)) (by exact hL.2.2.2.symm) ?_
                                                                    refine tu_iload 379 X 18 dL_lay_379 rfl ?_
                                                                    refine tu_imul 381 X dL_lay_381 ?_
                                                                    refine tu_iadd 382 X dL_lay_382 ?_
                                                                    refine tu_iadd 383 X dL_lay_383 ?_
                                                                    refine tu_tp (b := (tz_ct L a k n m G)) (by rw [show n = i8 from by omega]; rfl) ?_
                                                                    refine tu_istore 384 X (lv' := [(16, tu_i (tz_ct L a k n m G)), (0, tu_i ((n : Nat) : Int)), (1, tu_i S), (2, tu_i ((p : Nat) : Int)), (3, tu_i ((br : Nat) : Int)), (4, tu_r 90), (5, tu_r 87), (6, tu_r 91), (7, tu_i ((m : Nat) : Int)), (8, tu_i (M 87 ((3 * p) + 1))), (9, tu_i (tu_or (M 87 ((3 * p) + 1)) (M 87 ((3 * p) + 2)))), (10, tu_i (tu_sm (fun q => if k q = 0 then 0 else 1) m)), (11, tu_i (((e : Nat) : Int) - 1)), (12, tu_i ((y f : Nat) : Int)), (13, tu_i ((y f / 8 : Nat) : Int)), (14, tu_i ((y f % 8 + 1 : Nat) : Int)), (15, tu_i fu), (17, tu_i (tu_sm (fun q => if k q = 0 then 0 else 1) m - tu_sm (fun t => ((G t % 8 + 1 : Nat) : Int)) i8)), (18, tu_i (tz_hs a k i8 G)), (19, tu_i ((i8 : Nat) : Int))]) dL_lay_384 (by rw [hnl]; decide) rfl ?_
                                                                    refine tu_jmp [0, 1, 2, 3, 4, 5, 6, 7, 8, 9, 10, 11, 12, 13, 14, 15, 16, 17, 18, 19] (lv' := [(16, tu_i (tz_ct L a k n m G)), (0, tu_i ((n : Nat) : Int)), (1, tu_i S), (2, tu_i ((p : Nat) : Int)), (3, tu_i ((br : Nat) : Int)), (4, tu_r 90), (5, tu_r 87), (6, tu_r 91), (7, tu_i ((m : Nat) : Int)), (8, tu_i (M 87 ((3 * p) + 1))), (9, tu_i (tu_or (M 87 ((3 * p) + 1)) (M 87 ((3 * p) + 2)))), (10, tu_i (tu_sm (fun q => if k q = 0 then 0 else 1) m)), (11, tu_i (((e : Nat) : Int) - 1)), (12, tu_i ((y f : Nat) : Int)), (13, tu_i ((y f / 8 : Nat) : Int)), (14, tu_i ((y f % 8 + 1 : Nat) : Int)), (15, tu_i fu), (17, tu_i (tz_fr k n m G)), (18, tu_i (tz_hs a k n G)), (19, tu_i ((i8 : Nat) : Int))]) ⟨rfl, rfl, rfl, rfl, rfl, rfl, rfl, rfl, rfl, rfl, rfl, rfl, rfl, rfl, rfl, rfl, rfl, tu_ei (by rw [show n = i8 from by omega]; rfl), tu_ei (by rw [show n = i8 from by omega]), rfl, trivial⟩ rfl ?_
                                                                    refine tu_aload 386 X 7 dL_lay_386 rfl ?_
                                                                    refine tu_iconst 388 X dL_lay_388 ?_
                                                                    refine tu_dup2 389 X dL_lay_389 rfl rfl ?_
                                                                    refine tu_iald 390 X (x := (tu_u wv (16 + f) ((y f : Nat) : Int)) 1) 1 dL_lay_390 (by decide) rfl (by decide) rfl (by decide) rfl ?_
                                                                    refine tu_iconst 391 X dL_lay_391 ?_
                                                                    refine tu_iadd 392 X dL_lay_392 ?_
                                                                    refine tu_iast 393 X (M' := tu_row M 91 (tu_u (tu_u wv (16 + f) ((y f : Nat) : Int)) 1 (((tu_u wv (16 + f) ((y f : Nat) : Int)) 1) + 1))) 1 dL_lay_393 (by decide) rfl (by decide) rfl (by decide) (tu_rr M 91 (tu_u wv (16 + f) ((y f : Nat) : Int)) (tu_u (tu_u wv (16 + f) ((y f : Nat) : Int)) 1 (((tu_u wv (16 + f) ((y f : Nat) : Int)) 1) + 1))) ?_
                                                                    obtain ⟨W1, hW1⟩ : ∃ f99 : Nat → Int, f99 = tu_u (tu_u wv (16 + f) ((y f : Nat) : Int)) 1 (((tu_u wv (16 + f) ((y f : Nat) : Int)) 1) + 1) := ⟨_, rfl⟩
                                                                    refine tu_st_eq rfl (M' := tu_row M 91 W1) (by rw [hW1]) ?_
                                                                    have w1a : ∀ t, t < 16 → t ≠ 1 → W1 t = wv t := fun t h1 h2 => by rw [hW1, tu_u_n _ _ h2, tu_u_n _ _ (by omega)]
                                                                    have w1b : W1 1 = wv 1 + 1 := by rw [hW1, tu_u_s, tu_u_n _ _ (by omega)]
                                                                    have hdig : ∀ t, t < n → W1 (16 + t) = ((G t : Nat) : Int) := fun t ht => by rw [hW1, tu_u_n _ _ (by omega)]; exact hGw t ht
                                                                    have w10 := w1a 0 (by decide) (by decide)
                                                                    have hw0r : -6 ≤ wv 0 ∧ wv 0 < 1000000 := by
                                                                      rcases hI9.2.1.2.2 with q | q <;> omega
                                                                    have lp440 : (W1 0 < 0 ∨ tz_ct L a k n m G < W1 0) → tu_W T 440 [(0, tu_i ((n : Nat) : Int)), (1, tu_i S), (2, tu_i ((p : Nat) : Int)), (3, tu_i ((br : Nat) : Int)), (4, tu_r 90), (5, tu_r 87), (6, tu_r 91), (7, tu_i ((m : Nat) : Int)), (8, tu_i (M 87 ((3 * p) + 1))), (9, tu_i (tu_or (M 87 ((3 * p) + 1)) (M 87 ((3 * p) + 2)))), (10, tu_i (tu_sm (fun q => if k q = 0 then 0 else 1) m)), (11, tu_i (((e : Nat) : Int) - 1)), (12, tu_i ((y f : Nat) : Int)), (13, tu_i ((y f / 8 : Nat) : Int)), (14, tu_i ((y f % 8 + 1 : Nat) : Int)), (15, tu_i fu), (16, tu_i (tz_ct L a k n m G)), (17, tu_i (tz_fr k n m G)), (18, tu_i (tz_hs a k n G)), (19, tu_i ((i8 : Nat) : Int))] [] (tu_row M 91 W1) := by
                                                                        intro  h440
                                                                        refine tu_aload 440 X 6 dL_lay_440 rfl ?_
                                                                        refine tu_iconst 442 X dL_lay_442 ?_
                                                                        refine tu_iload 443 X 16 dL_lay_443 rfl ?_
                                                                        refine tu_iast 445 X (M' := tu_row M 91 (tu_u W1 0 (tz_ct L a k n m G))) 0 dL_lay_445 (by decide) rfl (by decide) rfl (by decide) (tu_rr M 91 W1 (tu_u W1 0 (tz_ct L a k n m G))) ?_
                                                                        refine tu_aload 446 X 6 dL_lay_446 rfl ?_
                                                                        refine tu_iconst 448 X dL_lay_448 ?_
                                                                        refine tu_iconst 449 X dL_lay_449 ?_
                                                                        refine tu_iast 450 X (M' := tu_row M 91 (tu_u (tu_u W1 0 (tz_ct L a k n m G)) 2 1)) 2 dL_lay_450 (by decide) rfl (by decide) rfl (by decide) (tu_rr M 91 (tu_u W1 0 (tz_ct L a k n m G)) (tu_u (tu_u W1 0 (tz_ct L a k n m G)) 2 1)) ?_
                                                                        refine tu_aload 451 X 6 dL_lay_451 rfl ?_
                                                                        refine tu_iconst 453 X dL_lay_453 ?_
                                                                        refine tu_iload 454 X 17 dL_lay_454 rfl ?_
                                                                        refine tu_iast 456 X (M' := tu_row M 91 (tu_u (tu_u (tu_u W1 0 (tz_ct L a k n m G)) 2 1) 3 (tz_fr k n m G))) 3 dL_lay_456 (by decide) rfl (by decide) rfl (by decide) (tu_rr M 91 (tu_u (tu_u W1 0 (tz_ct L a k n m G)) 2 1) (tu_u (tu_u (tu_u W1 0 (tz_ct L a k n m G)) 2 1) 3 (tz_fr k n m G))) ?_
                                                                        refine tu_aload 457 X 6 dL_lay_457 rfl ?_
                                                                        refine tu_iconst 459 X dL_lay_459 ?_
                                                                        refine tu_iload 460 X 18 dL_lay_460 rfl ?_
                                                                        refine tu_iast 462 X (M' := tu_row M 91 (tu_u (tu_u (tu_u (tu_u W1 0 (tz_ct L a k n m G)) 2 1) 3 (tz_fr k n m G)) 4 (tz_hs a k n G))) 4 dL_lay_462 (by decide) rfl (by decide) rfl (by decide) (tu_rr M 91 (tu_u (tu_u (tu_u W1 0 (tz_ct L a k n m G)) 2 1) 3 (tz_fr k n m G)) (tu_u (tu_u (tu_u (tu_u W1 0 (tz_ct L a k n m G)) 2 1) 3 (tz_fr k n m G)) 4 (tz_hs a k n G))) ?_
                                                                        obtain ⟨W2, hW2⟩ : ∃ f99 : Nat → Int, f99 = tu_u (tu_u (tu_u (tu_u W1 0 (tz_ct L a k n m G)) 2 1) 3 (tz_fr k n m G)) 4 (tz_hs a k n G) := ⟨_, rfl⟩
                                                                        refine tu_st_eq rfl (M' := tu_row M 91 W2) (by rw [hW2]) ?_
                                                                        have w2g : ∀ t, t < n → W2 (16 + t) = ((G t : Nat) : Int) := fun t ht => by rw [hW2, tu_u_n _ _ (by omega), tu_u_n _ _ (by omega), tu_u_n _ _ (by omega), tu_u_n _ _ (by omega)]; exact hdig t ht
                                                                        have w20 : W2 0 = tz_ct L a k n m G := by rw [hW2]; rfl
                                                                        have w21 : W2 1 = wv 1 + 1 := by rw [hW2]; exact w1b
                                                                        have w22 : W2 2 = 1 := by rw [hW2]; rfl
                                                                        have w23 : W2 3 = tz_fr k n m G := by rw [hW2]; rfl
                                                                        have w24 : W2 4 = tz_hs a k n G := by rw [hW2]; rfl
                                                                        refine tu_iconst 463 X dL_lay_463 ?_
                                                                        refine tu_istore 464 X (lv' := [(19, tu_i 0), (0, tu_i ((n : Nat) : Int)), (1, tu_i S), (2, tu_i ((p : Nat) : Int)), (3, tu_i ((br : Nat) : Int)), (4, tu_r 90), (5, tu_r 87), (6, tu_r 91), (7, tu_i ((m : Nat) : Int)), (8, tu_i (M 87 ((3 * p) + 1))), (9, tu_i (tu_or (M 87 ((3 * p) + 1)) (M 87 ((3 * p) + 2)))), (10, tu_i (tu_sm (fun q => if k q = 0 then 0 else 1) m)), (11, tu_i (((e : Nat) : Int) - 1)), (12, tu_i ((y f : Nat) : Int)), (13, tu_i ((y f / 8 : Nat) : Int)), (14, tu_i ((y f % 8 + 1 : Nat) : Int)), (15, tu_i fu), (16, tu_i (tz_ct L a k n m G)), (17, tu_i (tz_fr k n m G)), (18, tu_i (tz_hs a k n G))]) dL_lay_464 (by rw [hnl]; decide) rfl ?_
                                                                        have lp466 : ∀ (nq : Nat) (i7 : Nat) (wq : Nat → Int), (i7 ≤ n) → ((∀ t, t < i7 → wq (8 + t) = ((G t : Nat) : Int)) ∧ (∀ t, (t < 8 ∨ 16 ≤ t) → wq t = W2 t)) → n - i7 < nq → tu_W T 466 [(0, tu_i ((n : Nat) : Int)), (1, tu_i S), (2, tu_i ((p : Nat) : Int)), (3, tu_i ((br : Nat) : Int)), (4, tu_r 90), (5, tu_r 87), (6, tu_r 91), (7, tu_i ((m : Nat) : Int)), (8, tu_i (M 87 ((3 * p) + 1))), (9, tu_i (tu_or (M 87 ((3 * p) + 1)) (M 87 ((3 * p) + 2)))), (10, tu_i (tu_sm (fun q => if k q = 0 then 0 else 1) m)), (11, tu_i (((e : Nat) : Int) - 1)), (12, tu_i ((y f : Nat) : Int)), (13, tu_i ((y f / 8 : Nat) : Int)), (14, tu_i ((y f % 8 + 1 : Nat) : Int)), (15, tu_i fu), (16, tu_i (tz_ct L a k n m G)), (17, tu_i (tz_fr k n m G)), (18, tu_i (tz_hs a k n G)), (19, tu_i ((i7 : Nat) : Int))] [] (tu_row M 91 wq) := by
                                                                          intro nq
                                                                          induction nq with
                                                                          | zero => intros; omega
                                                                          | succ nq ih466 =>
                                                                            intro i7 wq hi7 hwq hn466
                                                                            refine tu_iload 466 X 19 dL_lay_466 rfl ?_
                                                                            refine tu_iload_n 468 X 0 dL_lay_468 rfl ?_
                                                                            refine tu_icmp_ge 469 X 494 dL_lay_469 (by decide) (show tu_rg ((i7 : Nat) : Int) from by first | assumption | exact ⟨by omega, by omega⟩) (show tu_rg ((n : Nat) : Int) from by first | assumption | exact ⟨by omega, by omega⟩) (fun br469 => ?_) (fun br469 => ?_)
                                                                            ·
                                                                              have hdig : ∀ t, t < n → wq (16 + t) = ((G t : Nat) : Int) := fun t ht => by rw [hwq.2 _ (Or.inr (by omega))]; exact w2g t ht
                                                                              obtain ⟨e2, y2, A2, he2, hI2, hmu2⟩ : ∃ (e2 : Nat) (y2 : Nat → Nat) (A2 : tz_Q), e2 = f + 1 ∧ tz_I L a k (tu_qm (L 0) k m) n m (tz_ad tz_no (tz_Z L a k n m))  e2 y2 A2 (wq) ∧ tz_mu n m y2 e2 < tz_mu n m y e := by
                                                                                obtain ⟨A2, q1, q2⟩ := tz_leaf (w' := wq) hI9 (by omega) hfit (by omega) (fun t ht => by rw [hdig t (by omega), hGn t (by omega)]; omega) (by rw [hgg]; exact tz_A_lt (G := tz_g n G) hI9.2.1 (by rw [gq.1]; exact ⟨hct.1, hct.2.1⟩) (by rw [hwq.2 1 (Or.inl (by decide))]; exact w21) (by rw [hwq.2 2 (Or.inl (by decide))]; exact w22) (by rw [hwq.2 0 (Or.inl (by decide)), gq.1]; exact w20) (by rw [hwq.2 3 (Or.inl (by decide)), gq.2.1]; exact w23) (by rw [hwq.2 4 (Or.inl (by decide)), gq.2.2]; exact w24) (fun t ht => by rw [show tz_g n G t = G t from if_pos ht]; exact hwq.1 t (by omega)) (by rw [gq.1]; omega))
                                                                                exact ⟨f + 1, tz_n1 y f, A2, rfl, q1, by rw [hf]; exact q2⟩
                                                                              refine tu_goto 494 X 109 dL_lay_494 (by decide) ?_
                                                                              refine tu_jmp [0, 1, 2, 3, 4, 5, 6, 7, 8, 9, 10, 11] (lv' := [(0, tu_i ((n : Nat) : Int)), (1, tu_i S), (2, tu_i ((p : Nat) : Int)), (3, tu_i ((br : Nat) : Int)), (4, tu_r 90), (5, tu_r 87), (6, tu_r 91), (7, tu_i ((m : Nat) : Int)), (8, tu_i (M 87 ((3 * p) + 1))), (9, tu_i (tu_or (M 87 ((3 * p) + 1)) (M 87 ((3 * p) + 2)))), (10, tu_i (tu_sm (fun q => if k q = 0 then 0 else 1) m)), (11, tu_i (((e2 : Nat) : Int) - 1))]) ⟨rfl, rfl, rfl, rfl, rfl, rfl, rfl, rfl, rfl, rfl, rfl, tu_ei (by first | rfl | omega), trivial⟩ rfl (ih109 e2 y2 A2 wq (by exact hI2) (by omega))
                                                                            ·
                                                                              refine tu_aload 472 X 6 dL_lay_472 rfl ?_
                                                                              refine tu_bipush 474 X dL_lay_474 (by decide) ?_
                                                                              refine tu_iload 476 X 19 dL_lay_476 rfl ?_
                                                                              refine tu_iadd 478 X dL_lay_478 ?_
                                                                              refine tu_aload 479 X 6 dL_lay_479 rfl ?_
                                                                              refine tu_bipush 481 X dL_lay_481 (by decide) ?_
                                                                              refine tu_iload 483 X 19 dL_lay_483 rfl ?_
                                                                              refine tu_iadd 485 X dL_lay_485 ?_
                                                                              refine tu_iald 486 X (x := wq (16 + i7)) (16 + i7) dL_lay_486 (by decide) rfl (by decide) (by omega) (by omega) rfl ?_
                                                                              refine tu_tp (b := ((G i7 : Nat) : Int)) (by rw [hwq.2 _ (Or.inr (by omega))]; exact w2g i7 (by omega)) ?_
                                                                              refine tu_iast 487 X (M' := tu_row M 91 (tu_u wq (8 + i7) ((G i7 : Nat) : Int))) (8 + i7) dL_lay_487 (by decide) rfl (by decide) (by omega) (by omega) (tu_rr M 91 wq (tu_u wq (8 + i7) ((G i7 : Nat) : Int))) ?_
                                                                              refine tu_iinc 488 X (lv' := [(19, tu_i (((i7 : Nat) : Int) + 1)), (0, tu_i ((n : Nat) : Int)), (1, tu_i S), (2, tu_i ((p : Nat) : Int)), (3, tu_i ((br : Nat) : Int)), (4, tu_r 90), (5, tu_r 87), (6, tu_r 91), (7, tu_i ((m : Nat) : Int)), (8, tu_i (M 87 ((3 * p) + 1))), (9, tu_i (tu_or (M 87 ((3 * p) + 1)) (M 87 ((3 * p) + 2)))), (10, tu_i (tu_sm (fun q => if k q = 0 then 0 else 1) m)), (11, tu_i (((e : Nat) : Int) - 1)), (12, tu_i ((y f : Nat) : Int)), (13, tu_i ((y f / 8 : Nat) : Int)), (14, tu_i ((y f % 8 + 1 : Nat) : Int)), (15, tu_i fu), (16, tu_i (tz_ct L a k n m G)), (17, tu_i (tz_fr k n m G)), (18, tu_i (tz_hs a k n G))]) 19 dL_lay_488 rfl (by rw [hnl]; decide) rfl ?_
                                                                              refine tu_goto 491 X 466 dL_lay_491 (by decide) ?_
                                                                              refine tu_jmp [1, 2, 3, 4, 5, 6, 7, 8, 9, 10, 11, 12, 13, 14, 15, 16, 17, 18, 19, 0] (lv' := [(0, tu_i ((n : Nat) : Int)), (1, tu_i S), (2, tu_i ((p : Nat) : Int)), (3, tu_i ((br : Nat) : Int)), (4, tu_r 90), (5, tu_r 87), (6, tu_r 91), (7, tu_i ((m : Nat) : Int)), (8, tu_i (M 87 ((3 * p) + 1))), (9, tu_i (tu_or (M 87 ((3 * p) + 1)) (M 87 ((3 * p) + 2)))), (10, tu_i (tu_sm (fun q => if k q = 0 then 0 else 1) m)), (11, tu_i (((e : Nat) : Int) - 1)), (12, tu_i ((y f : Nat) : Int)), (13, tu_i ((y f / 8 : Nat) : Int)), (14, tu_i ((y f % 8 + 1 : Nat) : Int)), (15, tu_i fu), (16, tu_i (tz_ct L a k n m G)), (17, tu_i (tz_fr k n m G)), (18, tu_i (tz_hs a k n G)), (19, tu_i (((i7 + 1) : Nat) : Int))]) ⟨rfl, rfl, rfl, rfl, rfl, rfl, rfl, rfl, rfl, rfl, rfl, rfl, rfl, rfl, rfl, rfl, rfl, rfl, rfl, tu_ei (by first | rfl | omega), trivial⟩ rfl (ih466 (i7 + 1) (tu_u wq (8 + i7) ((G i7 : Nat) : Int)) (by omega) (by exact ⟨fun t ht => by rw [tu_u_if]; split <;> first | (rw [show t = i7 from by omega]; done) | exact hwq.1 t (by omega), fun t ht => by rw [tu_u_n _ _ (by omega)]; exact hwq.2 t ht⟩) (by omega))
                                                                        refine tu_jmp [1, 2, 3, 4, 5, 6, 7, 8, 9, 10, 11, 12, 13, 14, 15, 16, 17, 18, 19, 0] (lv' := [(0, tu_i ((n : Nat) : Int)), (1, tu_i S), (2, tu_i ((p : Nat) : Int)), (3, tu_i ((br : Nat) : Int)), (4, tu_r 90), (5, tu_r 87), (6, tu_r 91), (7, tu_i ((m : Nat) : Int)), (8, tu_i (M 87 ((3 * p) + 1))), (9, tu_i (tu_or (M 87 ((3 * p) + 1)) (M 87 ((3 * p) + 2)))), (10, tu_i (tu_sm (fun q => if k q = 0 then 0 else 1) m)), (11, tu_i (((e : Nat) : Int) - 1)), (12, tu_i ((y f : Nat) : Int)), (13, tu_i ((y f / 8 : Nat) : Int)), (14, tu_i ((y f % 8 + 1 : Nat) : Int)), (15, tu_i fu), (16, tu_i (tz_ct L a k n m G)), (17, tu_i (tz_fr k n m G)), (18, tu_i (tz_hs a k n G)), (19, tu_i 0)]) ⟨rfl, rfl, rfl, rfl, rfl, rfl, rfl, rfl, rfl, rfl, rfl, rfl, rfl, rfl, rfl, rfl, rfl, rfl, rfl, rfl, trivial⟩ rfl (lp466 ((n - 0) + 1) 0 W2 (by omega) (by exact ⟨fun t ht => absurd ht (Nat.not_lt_zero t), fun t _ => rfl⟩) (by omega))
                                                                    refine tu_aload 394 X 7 dL_lay_394 rfl ?_
                                                                    refine tu_iconst 396 X dL_lay_396 ?_
                                                                    refine tu_iald 397 X (x := W1 0) 0 dL_lay_397 (by decide) rfl (by decide) rfl (by decide) rfl ?_
                                                                    refine tu_if_lt 398 X 413 dL_lay_398 (by decide) (show tu_rg (W1 0) from by first | assumption | exact ⟨by omega, by omega⟩) (fun br398 => ?_) (fun br398 => ?_)
                                                                    ·
                                                                      refine tu_aload 413 X 7 dL_lay_413 rfl ?_
                                                                      refine tu_iconst 415 X dL_lay_415 ?_
                                                                      refine tu_iald 416 X (x := W1 0) 0 dL_lay_416 (by decide) rfl (by decide) rfl (by decide) rfl ?_
                                                                      refine tu_if_lt 417 X 440 dL_lay_417 (by decide) (show tu_rg (W1 0) from by first | assumption | exact ⟨by omega, by omega⟩) (fun br417 => ?_) (fun br417 => ?_)
                                                                      ·
                                                                        refine tu_jmp [1, 2, 3, 4, 5, 6, 7, 8, 9, 10, 11, 12, 13, 14, 15, 16, 0, 17, 18, 19] (lv' := [(0, tu_i ((n : Nat) : Int)), (1, tu_i S), (2, tu_i ((p : Nat) : Int)), (3, tu_i ((br : Nat) : Int)), (4, tu_r 90), (5, tu_r 87), (6, tu_r 91), (7, tu_i ((m : Nat) : Int)), (8, tu_i (M 87 ((3 * p) + 1))), (9, tu_i (tu_or (M 87 ((3 * p) + 1)) (M 87 ((3 * p) + 2)))), (10, tu_i (tu_sm (fun q => if k q = 0 then 0 else 1) m)), (11, tu_i (((e : Nat) : Int) - 1)), (12, tu_i ((y f : Nat) : Int)), (13, tu_i ((y f / 8 : Nat) : Int)), (14, tu_i ((y f % 8 + 1 : Nat) : Int)), (15, tu_i fu), (16, tu_i (tz_ct L a k n m G)), (17, tu_i (tz_fr k n m G)), (18, tu_i (tz_hs a k n G)), (19, tu_i ((i8 : Nat) : Int))]) ⟨rfl, rfl, rfl, rfl, rfl, rfl, rfl, rfl, rfl, rfl, rfl, rfl, rfl, rfl, rfl, rfl, rfl, rfl, rfl, rfl, trivial⟩ rfl (lp440 (by omega))
                                                                      ·
                                                                        exfalso; omega
                                                                    ·
                                                                      refine tu_iload 401 X 0 dL_lay_401 rfl ?_
                                                                      refine tu_aload 403 X 7 dL_lay_403 rfl ?_
                                                                      refine tu_iconst 405 X dL_lay_405 ?_
                                                                      refine tu_iald 406 X (x := W1 0) 0 dL_lay_406 (by decide) rfl (by decide) rfl (by decide) rfl ?_
                                                                      refine tu_icmp_le 407 X 413 dL_lay_407 (by decide) (show tu_rg (tz_ct L a k n m G) from by first | assumption | exact ⟨by omega, by omega⟩) (show tu_rg (W1 0) from by first | assumption | exact ⟨by omega, by omega⟩) (fun br407 => ?_) (fun br407 => ?_)
                                                                      ·
                                                                        refine tu_aload 413 X 7 dL_lay_413 rfl ?_
                                                                        refine tu_iconst 415 X dL_lay_415 ?_
                                                                        refine tu_iald 416 X (x := W1 0) 0 dL_lay_416 (by decide) rfl (by decide) rfl (by decide) rfl ?_
                                                                        refine tu_if_lt 417 X 440 dL_lay_417 (by decide) (show tu_rg (W1 0) from by first | assumption | exact ⟨by omega, by omega⟩) (fun br417 => ?_) (fun br417 => ?_)
                                                                        ·
                                                                          exfalso; omega
                                                                        ·
                                                                          refine tu_iload 420 X 0 dL_lay_420 rfl ?_
                                                                          refine tu_aload 422 X 7 dL_lay_422 rfl ?_
                                                                          refine tu_iconst 424 X dL_lay_424 ?_
                                                                          refine tu_iald 425 X (x := W1 0) 0 dL_lay_425 (by decide) rfl (by decide) rfl (by decide) rfl ?_
                                                                          refine tu_icmp_ne 426 X 440 dL_lay_426 (by decide) (show tu_rg (tz_ct L a k n m G) from by first | assumption | exact ⟨by omega, by omega⟩) (show tu_rg (W1 0) from by first | assumption | exact ⟨by omega, by omega⟩) (fun br426 => ?_) (fun br426 => ?_)
                                                                          ·
                                                                            refine tu_jmp [1, 2, 3, 4, 5, 6, 7, 8, 9, 10, 11, 12, 13, 14, 15, 16, 0, 17, 18, 19] (lv' := [(0, tu_i ((n : Nat) : Int)), (1, tu_i S), (2, tu_i ((p : Nat) : Int)), (3, tu_i ((br : Nat) : Int)), (4, tu_r 90), (5, tu_r 87), (6, tu_r 91), (7, tu_i ((m : Nat) : Int)), (8, tu_i (M 87 ((3 * p) + 1))), (9, tu_i (tu_or (M 87 ((3 * p) + 1)) (M 87 ((3 * p) + 2)))), (10, tu_i (tu_sm (fun q => if k q = 0 then 0 else 1) m)), (11, tu_i (((e : Nat) : Int) - 1)), (12, tu_i ((y f : Nat) : Int)), (13, tu_i ((y f / 8 : Nat) : Int)), (14, tu_i ((y f % 8 + 1 : Nat) : Int)), (15, tu_i fu), (16, tu_i (tz_ct L a k n m G)), (17, tu_i (tz_fr k n m G)), (18, tu_i (tz_hs a k n G)), (19, tu_i ((i8 : Nat) : Int))]) ⟨rfl, rfl, rfl, rfl, rfl, rfl, rfl, rfl, rfl, rfl, rfl, rfl, rfl, rfl, rfl, rfl, rfl, rfl, rfl, rfl, trivial⟩ rfl (lp440 (by omega))
                                                                          ·
                                                                            refine tu_aload 429 X 7 dL_lay_429 rfl ?_
                                                                            refine tu_iconst 431 X dL_lay_431 ?_
                                                                            refine tu_dup2 432 X dL_lay_432 rfl rfl ?_
                                                                            refine tu_iald 433 X (x := W1 2) 2 dL_lay_433 (by decide) rfl (by decide) rfl (by decide) rfl ?_
                                                                            refine tu_iconst 434 X dL_lay_434 ?_
                                                                            refine tu_iadd 435 X dL_lay_435 ?_
                                                                            refine tu_iast 436 X (M' := tu_row M 91 (tu_u W1 2 ((W1 2) + 1))) 2 dL_lay_436 (by decide) rfl (by decide) rfl (by decide) (tu_rr M 91 W1 (tu_u W1 2 ((W1 2) + 1))) ?_
                                                                            have w2a : ∀ t, t < 16 → t ≠ 1 → t ≠ 2 → tu_u W1 2 (W1 2 + 1) t = wv t := fun t h1 h2 h3 => by rw [tu_u_n _ _ h3]; exact w1a t h1 h2
                                                                            have hdig : ∀ t, t < n → tu_u W1 2 (W1 2 + 1) (16 + t) = ((G t : Nat) : Int) := fun t ht => by rw [tu_u_n _ _ (by omega)]; exact hdig t ht
                                                                            obtain ⟨e2, y2, A2, he2, hI2, hmu2⟩ : ∃ (e2 : Nat) (y2 : Nat → Nat) (A2 : tz_Q), e2 = f + 1 ∧ tz_I L a k (tu_qm (L 0) k m) n m (tz_ad tz_no (tz_Z L a k n m))  e2 y2 A2 (tu_u W1 2 (W1 2 + 1)) ∧ tz_mu n m y2 e2 < tz_mu n m y e := by
                                                                              obtain ⟨A2, q1, q2⟩ := tz_leaf (w' := tu_u W1 2 (W1 2 + 1)) hI9 (by omega) hfit (by omega) (fun t ht => by rw [hdig t (by omega), hGn t (by omega)]; omega) (by rw [hgg]; exact tz_A_eq hI9.2.1 ⟨rfl, rfl⟩ (by rw [tu_u_n _ _ (by decide)]; exact w1b) (by rw [tu_u_s, w1a 2 (by decide) (by decide)]) w2a (by omega) (by show 0 ≤ wv 0 ∧ wv 0 = tz_ct L a k n m (tz_g n G); rw [gq.1]; omega))
                                                                              exact ⟨f + 1, tz_n1 y f, A2, rfl, q1, by rw [hf]; exact q2⟩
                                                                            refine tu_goto 437 X 109 dL_lay_437 (by decide) ?_
                                                                            refine tu_jmp [1, 2, 3, 4, 5, 6, 7, 8, 9, 10, 11, 12] (lv' := [(0, tu_i ((n : Nat) : Int)), (1, tu_i S), (2, tu_i ((p : Nat) : Int)), (3, tu_i ((br : Nat) : Int)), (4, tu_r 90), (5, tu_r 87), (6, tu_r 91), (7, tu_i ((m : Nat) : Int)), (8, tu_i (M 87 ((3 * p) + 1))), (9, tu_i (tu_or (M 87 ((3 * p) + 1)) (M 87 ((3 * p) + 2)))), (10, tu_i (tu_sm (fun q => if k q = 0 then 0 else 1) m)), (11, tu_i (((e2 : Nat) : Int) - 1))]) ⟨rfl, rfl, rfl, rfl, rfl, rfl, rfl, rfl, rfl, rfl, rfl, tu_ei (by first | rfl | omega), trivial⟩ rfl (ih109 e2 y2 A2 (tu_u W1 2 ((W1 2) + 1)) (by exact hI2) (by omega))
                                                                      ·
                                                                        obtain ⟨e2, y2, A2, he2, hI2, hmu2⟩ : ∃ (e2 : Nat) (y2 : Nat → Nat) (A2 : tz_Q), e2 = f + 1 ∧ tz_I L a k (tu_qm (L 0) k m) n m (tz_ad tz_no (tz_Z L a k n m))  e2 y2 A2 (W1) ∧ tz_mu n m y2 e2 < tz_mu n m y e := by
                                                                          obtain ⟨A2, q1, q2⟩ := tz_leaf (w' := W1) hI9 (by omega) hfit (by omega) (fun t ht => by rw [hdig t (by omega), hGn t (by omega)]; omega) (by rw [hgg]; exact tz_A_gt hI9.2.1 rfl w1b w1a (by omega) (by show 0 ≤ wv 0 ∧ wv 0 < tz_ct L a k n m (tz_g n G); rw [gq.1]; omega))
                                                                          exact ⟨f + 1, tz_n1 y f, A2, rfl, q1, by rw [hf]; exact q2⟩
                                                                        refine tu_goto 410 X 109 dL_lay_410 (by decide) ?_
                                                                        refine tu_jmp [1, 2, 3, 4, 5, 6, 7, 8, 9, 10, 11, 12] (lv' := [(0, tu_i ((n : Nat) : Int)), (1, tu_i S), (2, tu_i ((p : Nat) : Int)), (3, tu_i ((br : Nat) : Int)), (4, tu_r 90), (5, tu_r 87), (6, tu_r 91), (7, tu_i ((m : Nat) : Int)), (8, tu_i (M 87 ((3 * p) + 1))), (9, tu_i (tu_or (M 87 ((3 * p) + 1)) (M 87 ((3 * p) + 2)))), (10, tu_i (tu_sm (fun q => if k q = 0 then 0 else 1) m)), (11, tu_i (((e2 : Nat) : Int) - 1))]) ⟨rfl, rfl, rfl, rfl, rfl, rfl, rfl, rfl, rfl, rfl, rfl, tu_ei (by first | rfl | omega), trivial⟩ rfl (ih109 e2 y2 A2 W1 (by exact hI2) (by omega))
                                                                  ·
                                                                    have hG9 := hG8 i8 (by omega)
                                                                    have b01 := tu_bi_01 S i8
                                                                    have b02 := tu_bi_01 (M 87 (3 * p + 1)) (G i8 / 8)
                                                                    refine tu_iload 286 X 17 dL_lay_286 rfl ?_
                                                                    refine tu_aload 288 X 6 dL_lay_288 rfl ?_
                                                                    refine tu_bipush 290 X dL_lay_290 (by decide) ?_
                                                                    refine tu_iload 292 X 19 dL_lay_292 rfl ?_
                                                                    refine tu_iadd 294 X dL_lay_294 ?_
                                                                    refine tu_iald 295 X (x := (tu_u wv (16 + f) ((y f : Nat) : Int)) (16 + i8)) (16 + i8) dL_lay_295 (by decide) rfl (by decide) (by omega) (by omega) rfl ?_
                                                                    refine tu_tp (b := ((G i8 : Nat) : Int)) (by exact hGw i8 (by omega)) ?_
                                                                    refine tu_bipush 296 X dL_lay_296 (by decide) ?_
                                                                    refine tu_irem 298 X dL_lay_298 ⟨by decide, by decide⟩ (by decide) ?_
                                                                    refine tu_tp (b := ((G i8 % 8 : Nat) : Int)) (by exact tu_rem_n (by omega) (by decide) (by decide)) ?_
                                                                    refine tu_iconst 299 X dL_lay_299 ?_
                                                                    refine tu_iadd 300 X dL_lay_300 ?_
                                                                    refine tu_tp (b := ((G i8 % 8 + 1 : Nat) : Int)) (by omega) ?_
                                                                    refine tu_isub 301 X dL_lay_301 ?_
                                                                    refine tu_istore 302 X (lv' := [(17, tu_i ((tu_sm (fun q => if k q = 0 then 0 else 1) m - tu_sm (fun t => ((G t % 8 + 1 : Nat) : Int)) i8) - ((G i8 % 8 + 1 : Nat) : Int))), (0, tu_i ((n : Nat) : Int)), (1, tu_i S), (2, tu_i ((p : Nat) : Int)), (3, tu_i ((br : Nat) : Int)), (4, tu_r 90), (5, tu_r 87), (6, tu_r 91), (7, tu_i ((m : Nat) : Int)), (8, tu_i (M 87 ((3 * p) + 1))), (9, tu_i (tu_or (M 87 ((3 * p) + 1)) (M 87 ((3 * p) + 2)))), (10, tu_i (tu_sm (fun q => if k q = 0 then 0 else 1) m)), (11, tu_i (((e : Nat) : Int) - 1)), (12, tu_i ((y f : Nat) : Int)), (13, tu_i ((y f / 8 : Nat) : Int)), (14, tu_i ((y f % 8 + 1 : Nat) : Int)), (15, tu_i fu), (16, tu_i (tz_dr L i8 G)), (18, tu_i (tz_hs a k i8 G)), (19, tu_i ((i8 : Nat) : Int))]) dL_lay_302 (by rw [hnl]; decide) rfl ?_
                                                                    refine tu_iload 304 X 17 dL_lay_304 rfl ?_
                                                                    refine tu_aload 306 X 5 dL_lay_306 rfl ?_
                                                                    refine tu_iconst 308 X dL_lay_308 ?_
                                                                    refine tu_iald 309 X (x := M 90 1) 1 dL_lay_309 (by decide) rfl (by decide) rfl (by decide) rfl ?_
                                                                    refine tu_tp (b := (L 1)) (by exact hL.2.1.symm) ?_
                                                                    refine tu_aload 310 X 7 dL_lay_310 rfl ?_
                                                                    refine tu_bipush 312 X dL_lay_312 (by decide) ?_
                                                                    refine tu_iload 314 X 19 dL_lay_314 rfl ?_
                                                                    refine tu_iadd 316 X dL_lay_316 ?_
                                                                    refine tu_iald 317 X (x := (tu_u wv (16 + f) ((y f : Nat) : Int)) (16 + i8)) (16 + i8) dL_lay_317 (by decide) rfl (by decide) (by omega) (by omega) rfl ?_
                                                                    refine tu_tp (b := ((G i8 : Nat) : Int)) (by exact hGw i8 (by omega)) ?_
                                                                    refine tu_bipush 318 X dL_lay_318 (by decide) ?_
                                                                    refine tu_irem 320 X dL_lay_320 ⟨by decide, by decide⟩ (by decide) ?_
                                                                    refine tu_tp (b := ((G i8 % 8 : Nat) : Int)) (by exact tu_rem_n (by omega) (by decide) (by decide)) ?_
                                                                    refine tu_imul 321 X dL_lay_321 ?_
                                                                    refine tu_iadd 322 X dL_lay_322 ?_
                                                                    refine tu_istore 323 X (lv' := [(16, tu_i (tz_dr L i8 G + ((L 1) * ((G i8 % 8 : Nat) : Int)))), (17, tu_i ((tu_sm (fun q => if k q = 0 then 0 else 1) m - tu_sm (fun t => ((G t % 8 + 1 : Nat) : Int)) i8) - ((G i8 % 8 + 1 : Nat) : Int))), (0, tu_i ((n : Nat) : Int)), (1, tu_i S), (2, tu_i ((p : Nat) : Int)), (3, tu_i ((br : Nat) : Int)), (4, tu_r 90), (5, tu_r 87), (6, tu_r 91), (7, tu_i ((m : Nat) : Int)), (8, tu_i (M 87 ((3 * p) + 1))), (9, tu_i (tu_or (M 87 ((3 * p) + 1)) (M 87 ((3 * p) + 2)))), (10, tu_i (tu_sm (fun q => if k q = 0 then 0 else 1) m)), (11, tu_i (((e : Nat) : Int) - 1)), (12, tu_i ((y f : Nat) : Int)), (13, tu_i ((y f / 8 : Nat) : Int)), (14, tu_i ((y f % 8 + 1 : Nat) : Int)), (15, tu_i fu), (18, tu_i (tz_hs a k i8 G)), (19, tu_i ((i8 : Nat) : Int))]) dL_lay_323 (by rw [hnl]; decide) rfl ?_
                                                                    refine tu_iload 325 X 18 dL_lay_325 rfl ?_
                                                                    refine tu_iload_n 327 X 3 dL_lay_327 rfl ?_
                                                                    refine tu_iload 328 X 19 dL_lay_328 rfl ?_
                                                                    refine tu_ishr 330 X dL_lay_330 ?_
                                                                    refine tu_iconst 331 X dL_lay_331 ?_
                                                                    refine tu_iand 332 X dL_lay_332 ?_
                                                                    refine tu_tp (b := (tu_bi S i8)) (by exact tu_bit1 _ (by omega)) ?_
                                                                    refine tu_iload 333 X 10 dL_lay_333 rfl ?_
                                                                    refine tu_aload 335 X 8 dL_lay_335 rfl ?_
                                                                    refine tu_bipush 337 X dL_lay_337 (by decide) ?_
                                                                    refine tu_iload 339 X 19 dL_lay_339 rfl ?_
                                                                    refine tu_iadd 341 X dL_lay_341 ?_
                                                                    refine tu_iald 342 X (x := (tu_u wv (16 + f) ((y f : Nat) : Int)) (16 + i8)) (16 + i8) dL_lay_342 (by decide) rfl (by decide) (by omega) (by omega) rfl ?_
                                                                    refine tu_tp (b := ((G i8 : Nat) : Int)) (by exact hGw i8 (by omega)) ?_
                                                                    refine tu_bipush 343 X dL_lay_343 (by decide) ?_
                                                                    refine tu_idiv 345 X dL_lay_345 ⟨by decide, by decide⟩ (by decide) ?_
                                                                    refine tu_tp (b := ((G i8 / 8 : Nat) : Int)) (by exact tu_div_n (by omega) (by decide) (by decide)) ?_
                                                                    refine tu_ishr 346 X dL_lay_346 ?_
                                                                    refine tu_iconst 347 X dL_lay_347 ?_
                                                                    refine tu_iand 348 X dL_lay_348 ?_
                                                                    refine tu_tp (b := (tu_bi (M 87 (3 * p + 1)) (G i8 / 8))) (by exact tu_bit1 _ (by omega)) ?_
                                                                    refine tu_icmp_eq 349 X 356 dL_lay_349 (by decide) (show tu_rg (tu_bi S i8) from by first | assumption | exact ⟨by omega, by omega⟩) (show tu_rg (tu_bi (M 87 (3 * p + 1)) (G i8 / 8)) from by first | assumption | exact ⟨by omega, by omega⟩) (fun br349 => ?_) (fun br349 => ?_)
                                                                    ·
                                                                      have hh9 : ¬ ¬ (a i8 = 1 ↔ k (G i8 / 8) = 2) := fun q => q ((tz_hu hS hs (by omega) (by omega) (by omega) (by omega)).mp br349)
                                                                      refine tu_iconst 356 X dL_lay_356 ?_
                                                                      refine tu_iadd 357 X dL_lay_357 ?_
                                                                      refine tu_istore 358 X (lv' := [(18, tu_i (tz_hs a k i8 G + 0)), (16, tu_i (tz_dr L i8 G + ((L 1) * ((G i8 % 8 : Nat) : Int)))), (17, tu_i ((tu_sm (fun q => if k q = 0 then 0 else 1) m - tu_sm (fun t => ((G t % 8 + 1 : Nat) : Int)) i8) - ((G i8 % 8 + 1 : Nat) : Int))), (0, tu_i ((n : Nat) : Int)), (1, tu_i S), (2, tu_i ((p : Nat) : Int)), (3, tu_i ((br : Nat) : Int)), (4, tu_r 90), (5, tu_r 87), (6, tu_r 91), (7, tu_i ((m : Nat) : Int)), (8, tu_i (M 87 ((3 * p) + 1))), (9, tu_i (tu_or (M 87 ((3 * p) + 1)) (M 87 ((3 * p) + 2)))), (10, tu_i (tu_sm (fun q => if k q = 0 then 0 else 1) m)), (11, tu_i (((e : Nat) : Int) - 1)), (12, tu_i ((y f : Nat) : Int)), (13, tu_i ((y f / 8 : Nat) : Int)), (14, tu_i ((y f % 8 + 1 : Nat) : Int)), (15, tu_i fu), (19, tu_i ((i8 : Nat) : Int))]) dL_lay_358 (by rw [hnl]; decide) rfl ?_
                                                                      refine tu_iinc 360 X (lv' := [(19, tu_i (((i8 : Nat) : Int) + 1)), (18, tu_i (tz_hs a k i8 G + 0)), (16, tu_i (tz_dr L i8 G + ((L 1) * ((G i8 % 8 : Nat) : Int)))), (17, tu_i ((tu_sm (fun q => if k q = 0 then 0 else 1) m - tu_sm (fun t => ((G t % 8 + 1 : Nat) : Int)) i8) - ((G i8 % 8 + 1 : Nat) : Int))), (0, tu_i ((n : Nat) : Int)), (1, tu_i S), (2, tu_i ((p : Nat) : Int)), (3, tu_i ((br : Nat) : Int)), (4, tu_r 90), (5, tu_r 87), (6, tu_r 91), (7, tu_i ((m : Nat) : Int)), (8, tu_i (M 87 ((3 * p) + 1))), (9, tu_i (tu_or (M 87 ((3 * p) + 1)) (M 87 ((3 * p) + 2)))), (10, tu_i (tu_sm (fun q => if k q = 0 then 0 else 1) m)), (11, tu_i (((e : Nat) : Int) - 1)), (12, tu_i ((y f : Nat) : Int)), (13, tu_i ((y f / 8 : Nat) : Int)), (14, tu_i ((y f % 8 + 1 : Nat) : Int)), (15, tu_i fu)]) 19 dL_lay_360 rfl (by rw [hnl]; decide) rfl ?_
                                                                      refine tu_goto 363 X 280 dL_lay_363 (by decide) ?_
                                                                      refine tu_jmp [4, 5, 6, 7, 8, 9, 10, 11, 12, 13, 14, 15, 16, 17, 18, 19, 2, 3, 1, 0] (lv' := [(0, tu_i ((n : Nat) : Int)), (1, tu_i S), (2, tu_i ((p : Nat) : Int)), (3, tu_i ((br : Nat) : Int)), (4, tu_r 90), (5, tu_r 87), (6, tu_r 91), (7, tu_i ((m : Nat) : Int)), (8, tu_i (M 87 ((3 * p) + 1))), (9, tu_i (tu_or (M 87 ((3 * p) + 1)) (M 87 ((3 * p) + 2)))), (10, tu_i (tu_sm (fun q => if k q = 0 then 0 else 1) m)), (11, tu_i (((e : Nat) : Int) - 1)), (12, tu_i ((y f : Nat) : Int)), (13, tu_i ((y f / 8 : Nat) : Int)), (14, tu_i ((y f % 8 + 1 : Nat) : Int)), (15, tu_i fu), (16, tu_i (tz_dr L (i8 + 1) G)), (17, tu_i (tu_sm (fun q => if k q = 0 then 0 else 1) m - tu_sm (fun t => ((G t % 8 + 1 : Nat) : Int)) (i8 + 1))), (18, tu_i (tz_hs a k (i8 + 1) G)), (19, tu_i (((i8 + 1) : Nat) : Int))]) ⟨rfl, rfl, rfl, rfl, rfl, rfl, rfl, rfl, rfl, rfl, rfl, rfl, rfl, rfl, rfl, rfl, tu_ei (by first | rfl | omega), tu_ei (by first | rfl | (first | (show _ = _ - (0 : Int); omega) | (simp only [tu_sm]; omega))), tu_ei (by first | rfl | (first | (unfold tz_hs; exact tu_sm_p (if_pos (by assumption))) | (rw [Int.add_zero]; unfold tz_hs; exact tu_sm_z (if_neg (by assumption))))), tu_ei (by first | rfl | omega), trivial⟩ rfl (ih280 (i8 + 1) (by omega) (by omega))
                                                                    ·
                                                                      have hh9 : ¬ (a i8 = 1 ↔ k (G i8 / 8) = 2) := fun q => br349 ((tz_hu hS hs (by omega) (by omega) (by omega) (by omega)).mpr q)
                                                                      refine tu_iconst 352 X dL_lay_352 ?_
                                                                      refine tu_goto 353 X 357 dL_lay_353 (by decide) ?_
                                                                      refine tu_iadd 357 X dL_lay_357 ?_
                                                                      refine tu_istore 358 X (lv' := [(18, tu_i (tz_hs a k i8 G + 1)), (16, tu_i (tz_dr L i8 G + ((L 1) * ((G i8 % 8 : Nat) : Int)))), (17, tu_i ((tu_sm (fun q => if k q = 0 then 0 else 1) m - tu_sm (fun t => ((G t % 8 + 1 : Nat) : Int)) i8) - ((G i8 % 8 + 1 : Nat) : Int))), (0, tu_i ((n : Nat) : Int)), (1, tu_i S), (2, tu_i ((p : Nat) : Int)), (3, tu_i ((br : Nat) : Int)), (4, tu_r 90), (5, tu_r 87), (6, tu_r 91), (7, tu_i ((m : Nat) : Int)), (8, tu_i (M 87 ((3 * p) + 1))), (9, tu_i (tu_or (M 87 ((3 * p) + 1)) (M 87 ((3 * p) + 2)))), (10, tu_i (tu_sm (fun q => if k q = 0 then 0 else 1) m)), (11, tu_i (((e : Nat) : Int) - 1)), (12, tu_i ((y f : Nat) : Int)), (13, tu_i ((y f / 8 : Nat) : Int)), (14, tu_i ((y f % 8 + 1 : Nat) : Int)), (15, tu_i fu), (19, tu_i ((i8 : Nat) : Int))]) dL_lay_358 (by rw [hnl]; decide) rfl ?_
                                                                      refine tu_iinc 360 X (lv' := [(19, tu_i (((i8 : Nat) : Int) + 1)), (18, tu_i (tz_hs a k i8 G + 1)), (16, tu_i (tz_dr L i8 G + ((L 1) * ((G i8 % 8 : Nat) : Int)))), (17, tu_i ((tu_sm (fun q => if k q = 0 then 0 else 1) m - tu_sm (fun t => ((G t % 8 + 1 : Nat) : Int)) i8) - ((G i8 % 8 + 1 : Nat) : Int))), (0, tu_i ((n : Nat) : Int)), (1, tu_i S), (2, tu_i ((p : Nat) : Int)), (3, tu_i ((br : Nat) : Int)), (4, tu_r 90), (5, tu_r 87), (6, tu_r 91), (7, tu_i ((m : Nat) : Int)), (8, tu_i (M 87 ((3 * p) + 1))), (9, tu_i (tu_or (M 87 ((3 * p) + 1)) (M 87 ((3 * p) + 2)))), (10, tu_i (tu_sm (fun q => if k q = 0 then 0 else 1) m)), (11, tu_i (((e : Nat) : Int) - 1)), (12, tu_i ((y f : Nat) : Int)), (13, tu_i ((y f / 8 : Nat) : Int)), (14, tu_i ((y f % 8 + 1 : Nat) : Int)), (15, tu_i fu)]) 19 dL_lay_360 rfl (by rw [hnl]; decide) rfl ?_
                                                                      refine tu_goto 363 X 280 dL_lay_363 (by decide) ?_
                                                                      refine tu_jmp [4, 5, 6, 7, 8, 9, 10, 11, 12, 13, 14, 15, 16, 17, 18, 19, 2, 3, 1, 0] (lv' := [(0, tu_i ((n : Nat) : Int)), (1, tu_i S), (2, tu_i ((p : Nat) : Int)), (3, tu_i ((br : Nat) : Int)), (4, tu_r 90), (5, tu_r 87), (6, tu_r 91), (7, tu_i ((m : Nat) : Int)), (8, tu_i (M 87 ((3 * p) + 1))), (9, tu_i (tu_or (M 87 ((3 * p) + 1)) (M 87 ((3 * p) + 2)))), (10, tu_i (tu_sm (fun q => if k q = 0 then 0 else 1) m)), (11, tu_i (((e : Nat) : Int) - 1)), (12, tu_i ((y f : Nat) : Int)), (13, tu_i ((y f / 8 : Nat) : Int)), (14, tu_i ((y f % 8 + 1 : Nat) : Int)), (15, tu_i fu), (16, tu_i (tz_dr L (i8 + 1) G)), (17, tu_i (tu_sm (fun q => if k q = 0 then 0 else 1) m - tu_sm (fun t => ((G t % 8 + 1 : Nat) : Int)) (i8 + 1))), (18, tu_i (tz_hs a k (i8 + 1) G)), (19, tu_i (((i8 + 1) : Nat) : Int))]) ⟨rfl, rfl, rfl, rfl, rfl, rfl, rfl, rfl, rfl, rfl, rfl, rfl, rfl, rfl, rfl, rfl, tu_ei (by first | rfl | omega), tu_ei (by first | rfl | (first | (show _ = _ - (0 : Int); omega) | (simp only [tu_sm]; omega))), tu_ei (by first | rfl | (first | (unfold tz_hs; exact tu_sm_p (if_pos (by assumption))) | (rw [Int.add_zero]; unfold tz_hs; exact tu_sm_z (if_neg (by assumption))))), tu_ei (by first | rfl | omega), trivial⟩ rfl (ih280 (i8 + 1) (by omega) (by omega))
                                                              refine tu_jmp [4, 5, 6, 7, 8, 9, 10, 11, 12, 13, 14, 15, 16, 17, 18, 19, 3, 2, 1, 0] (lv' := [(0, tu_i ((n : Nat) : Int)), (1, tu_i S), (2, tu_i ((p : Nat) : Int)), (3, tu_i ((br : Nat) : Int)), (4, tu_r 90), (5, tu_r 87), (6, tu_r 91), (7, tu_i ((m : Nat) : Int)), (8, tu_i (M 87 ((3 * p) + 1))), (9, tu_i (tu_or (M 87 ((3 * p) + 1)) (M 87 ((3 * p) + 2)))), (10, tu_i (tu_sm (fun q => if k q = 0 then 0 else 1) m)), (11, tu_i (((e : Nat) : Int) - 1)), (12, tu_i ((y f : Nat) : Int)), (13, tu_i ((y f / 8 : Nat) : Int)), (14, tu_i ((y f % 8 + 1 : Nat) : Int)), (15, tu_i fu), (16, tu_i (tz_dr L 0 G)), (17, tu_i (tu_sm (fun q => if k q = 0 then 0 else 1) m - tu_sm (fun t => ((G t % 8 + 1 : Nat) : Int)) 0)), (18, tu_i (tz_hs a k 0 G)), (19, tu_i 0)]) ⟨rfl, rfl, rfl, rfl, rfl, rfl, rfl, rfl, rfl, rfl, rfl, rfl, rfl, rfl, rfl, rfl, tu_ei (by first | rfl | omega), tu_ei (by first | rfl | (first | (show _ = _ - (0 : Int); omega) | (simp only [tu_sm]; omega))), tu_ei (by first | rfl | (first | (unfold tz_hs; exact tu_sm_p (if_pos (by assumption))) | (rw [Int.add_zero]; unfold tz_hs; exact tu_sm_z (if_neg (by assumption))))), rfl, trivial⟩ rfl (lp280 ((n - 0) + 1) 0 (by omega) (by omega))
                                                            ·
                                                              refine tu_iinc 243 X (lv' := [(11, tu_i ((((e : Nat) : Int) - 1) + 1)), (0, tu_i ((n : Nat) : Int)), (1, tu_i S), (2, tu_i ((p : Nat) : Int)), (3, tu_i ((br : Nat) : Int)), (4, tu_r 90), (5, tu_r 87), (6, tu_r 91), (7, tu_i ((m : Nat) : Int)), (8, tu_i (M 87 ((3 * p) + 1))), (9, tu_i (tu_or (M 87 ((3 * p) + 1)) (M 87 ((3 * p) + 2)))), (10, tu_i (tu_sm (fun q => if k q = 0 then 0 else 1) m)), (12, tu_i ((y f : Nat) : Int)), (13, tu_i ((y f / 8 : Nat) : Int)), (14, tu_i ((y f % 8 + 1 : Nat) : Int)), (15, tu_i fu), (16, tu_i (((y f / 8 + i9) : Nat) : Int))]) 11 dL_lay_243 rfl (by rw [hnl]; decide) rfl ?_
                                                              refine tu_aload 246 X 7 dL_lay_246 rfl ?_
                                                              refine tu_bipush 248 X dL_lay_248 (by decide) ?_
                                                              refine tu_iload 250 X 0 dL_lay_250 rfl ?_
                                                              refine tu_iadd 252 X dL_lay_252 ?_
                                                              refine tu_tp (b := ((16 + (f + 1) : Nat) : Int)) (by omega) ?_
                                                              refine tu_bipush 253 X dL_lay_253 (by decide) ?_
                                                              refine tu_iload 255 X 13 dL_lay_255 rfl ?_
                                                              refine tu_iload 257 X 14 dL_lay_257 rfl ?_
                                                              refine tu_iadd 259 X dL_lay_259 ?_
                                                              refine tu_imul 260 X dL_lay_260 ?_
                                                              refine tu_iconst 261 X dL_lay_261 ?_
                                                              refine tu_isub 262 X dL_lay_262 ?_
                                                              refine tu_tp (b := (8 * ((y f / 8 + (y f % 8 + 1) : Nat) : Int) - 1)) (by omega) ?_
                                                              refine tu_iast 263 X (M' := tu_row M 91 (tu_u (tu_u wv (16 + f) ((y f : Nat) : Int)) (16 + (f + 1)) (8 * ((y f / 8 + (y f % 8 + 1) : Nat) : Int) - 1))) (16 + (f + 1)) dL_lay_263 (by decide) rfl (by decide) (by omega) (by omega) (tu_rr M 91 (tu_u wv (16 + f) ((y f : Nat) : Int)) (tu_u (tu_u wv (16 + f) ((y f : Nat) : Int)) (16 + (f + 1)) (8 * ((y f / 8 + (y f % 8 + 1) : Nat) : Int) - 1))) ?_
                                                              obtain ⟨e2, y2, A2, he2, hI2, hmu2⟩ : ∃ (e2 : Nat) (y2 : Nat → Nat) (A2 : tz_Q), e2 = f + 2 ∧ tz_I L a k (tu_qm (L 0) k m) n m (tz_ad tz_no (tz_Z L a k n m))  e2 y2 A2 (tu_u (tu_u wv (16 + f) ((y f : Nat) : Int)) (16 + (f + 1)) (8 * ((y f / 8 + (y f % 8 + 1) : Nat) : Int) - 1)) ∧ tz_mu n m y2 e2 < tz_mu n m y e := by
                                                                obtain ⟨y2, q1, q2⟩ := tz_push hI9 (by omega) (by omega) hyl hfit hf1d (by omega)
                                                                exact ⟨f + 2, y2, A, rfl, q1, by rw [hf]; exact q2⟩
                                                              refine tu_goto 264 X 109 dL_lay_264 (by decide) ?_
                                                              refine tu_jmp [1, 2, 3, 4, 5, 6, 7, 8, 9, 10, 11, 0] (lv' := [(0, tu_i ((n : Nat) : Int)), (1, tu_i S), (2, tu_i ((p : Nat) : Int)), (3, tu_i ((br : Nat) : Int)), (4, tu_r 90), (5, tu_r 87), (6, tu_r 91), (7, tu_i ((m : Nat) : Int)), (8, tu_i (M 87 ((3 * p) + 1))), (9, tu_i (tu_or (M 87 ((3 * p) + 1)) (M 87 ((3 * p) + 2)))), (10, tu_i (tu_sm (fun q => if k q = 0 then 0 else 1) m)), (11, tu_i (((e2 : Nat) : Int) - 1))]) ⟨rfl, rfl, rfl, rfl, rfl, rfl, rfl, rfl, rfl, rfl, rfl, tu_ei (by first | rfl | omega), trivial⟩ rfl (ih109 e2 y2 A2 (tu_u (tu_u wv (16 + f) ((y f : Nat) : Int)) (16 + (f + 1)) (8 * ((y f / 8 + (y f % 8 + 1) : Nat) : Int) - 1)) (by exact hI2) (by omega))
                                                          ·
                                                            exfalso; omega
                                                        ·
                                                          refine tu_iload 203 X 9 dL_lay_203 rfl ?_
                                                          refine tu_iload 205 X 16 dL_lay_205 rfl ?_
                                                          refine tu_ishr 207 X dL_lay_207 ?_
                                                          refine tu_iconst 208 X dL_lay_208 ?_
                                                          refine tu_iand 209 X dL_lay_209 ?_
                                                          refine tu_tp (b := (if k (y f / 8 + i9) = 0 then 0 else 1)) (by rw [tu_bit1 _ (by omega)]; exact tz_snd hs hv (by omega) (by omega) (hk _ (by omega))) ?_
                                                          obtain ⟨sb, hsb⟩ : ∃ z : Int, (if k (y f / 8 + i9) = 0 then 0 else 1) = z := ⟨_, rfl⟩
                                                          refine tu_tp hsb ?_
                                                          have hsb1 : (k (y f / 8 + i9) = 0 ∧ sb = 0) ∨ (k (y f / 8 + i9) ≠ 0 ∧ sb = 1) := by
                                                            rw [← hsb]
                                                            split
                                                            · next q => exact Or.inl ⟨q, rfl⟩
                                                            · next q => exact Or.inr ⟨q, rfl⟩
                                                          refine tu_iconst 210 X dL_lay_210 ?_
                                                          refine tu_icmp_ne 211 X 218 dL_lay_211 (by decide) (show tu_rg sb from by first | assumption | exact ⟨by omega, by omega⟩) ⟨by decide, by decide⟩ (fun br211 => ?_) (fun br211 => ?_)
                                                          ·
                                                            refine tu_iconst 218 X dL_lay_218 ?_
                                                            refine tu_istore 219 X (lv' := [(15, tu_i 0), (0, tu_i ((n : Nat) : Int)), (1, tu_i S), (2, tu_i ((p : Nat) : Int)), (3, tu_i ((br : Nat) : Int)), (4, tu_r 90), (5, tu_r 87), (6, tu_r 91), (7, tu_i ((m : Nat) : Int)), (8, tu_i (M 87 ((3 * p) + 1))), (9, tu_i (tu_or (M 87 ((3 * p) + 1)) (M 87 ((3 * p) + 2)))), (10, tu_i (tu_sm (fun q => if k q = 0 then 0 else 1) m)), (11, tu_i (((e : Nat) : Int) - 1)), (12, tu_i ((y f : Nat) : Int)), (13, tu_i ((y f / 8 : Nat) : Int)), (14, tu_i ((y f % 8 + 1 : Nat) : Int)), (16, tu_i (((y f / 8 + i9) : Nat) : Int))]) dL_lay_219 (by rw [hnl]; decide) rfl ?_
                                                            refine tu_iinc 221 X (lv' := [(16, tu_i ((((y f / 8 + i9) : Nat) : Int) + 1)), (15, tu_i 0), (0, tu_i ((n : Nat) : Int)), (1, tu_i S), (2, tu_i ((p : Nat) : Int)), (3, tu_i ((br : Nat) : Int)), (4, tu_r 90), (5, tu_r 87), (6, tu_r 91), (7, tu_i ((m : Nat) : Int)), (8, tu_i (M 87 ((3 * p) + 1))), (9, tu_i (tu_or (M 87 ((3 * p) + 1)) (M 87 ((3 * p) + 2)))), (10, tu_i (tu_sm (fun q => if k q = 0 then 0 else 1) m)), (11, tu_i (((e : Nat) : Int) - 1)), (12, tu_i ((y f : Nat) : Int)), (13, tu_i ((y f / 8 : Nat) : Int)), (14, tu_i ((y f % 8 + 1 : Nat) : Int))]) 16 dL_lay_221 rfl (by rw [hnl]; decide) rfl ?_
                                                            refine tu_goto 224 X 188 dL_lay_224 (by decide) ?_
                                                            refine tu_jmp [2, 3, 4, 5, 6, 7, 8, 9, 10, 11, 12, 13, 14, 15, 16, 1, 0] (lv' := [(0, tu_i ((n : Nat) : Int)), (1, tu_i S), (2, tu_i ((p : Nat) : Int)), (3, tu_i ((br : Nat) : Int)), (4, tu_r 90), (5, tu_r 87), (6, tu_r 91), (7, tu_i ((m : Nat) : Int)), (8, tu_i (M 87 ((3 * p) + 1))), (9, tu_i (tu_or (M 87 ((3 * p) + 1)) (M 87 ((3 * p) + 2)))), (10, tu_i (tu_sm (fun q => if k q = 0 then 0 else 1) m)), (11, tu_i (((e : Nat) : Int) - 1)), (12, tu_i ((y f : Nat) : Int)), (13, tu_i ((y f / 8 : Nat) : Int)), (14, tu_i ((y f % 8 + 1 : Nat) : Int)), (15, tu_i 0), (16, tu_i (((y f / 8 + (i9 + 1)) : Nat) : Int))]) ⟨rfl, rfl, rfl, rfl, rfl, rfl, rfl, rfl, rfl, rfl, rfl, rfl, rfl, rfl, rfl, rfl, tu_ei (by first | rfl | omega), trivial⟩ rfl (ih188 (i9 + 1) 0 (by first | exact Or.inl ⟨rfl, by omega, by omega, by omega, tz_ext hf1e (by omega)⟩ | exact Or.inr ⟨rfl, fun q => ((tz_qm hyb (by omega)).mp q).2.2 i9 (by omega) (by omega)⟩) (by omega))
                                                          ·
                                                            refine tu_iconst 214 X dL_lay_214 ?_
                                                            refine tu_goto 215 X 219 dL_lay_215 (by decide) ?_
                                                            refine tu_istore 219 X (lv' := [(15, tu_i 1), (0, tu_i ((n : Nat) : Int)), (1, tu_i S), (2, tu_i ((p : Nat) : Int)), (3, tu_i ((br : Nat) : Int)), (4, tu_r 90), (5, tu_r 87), (6, tu_r 91), (7, tu_i ((m : Nat) : Int)), (8, tu_i (M 87 ((3 * p) + 1))), (9, tu_i (tu_or (M 87 ((3 * p) + 1)) (M 87 ((3 * p) + 2)))), (10, tu_i (tu_sm (fun q => if k q = 0 then 0 else 1) m)), (11, tu_i (((e : Nat) : Int) - 1)), (12, tu_i ((y f : Nat) : Int)), (13, tu_i ((y f / 8 : Nat) : Int)), (14, tu_i ((y f % 8 + 1 : Nat) : Int)), (16, tu_i (((y f / 8 + i9) : Nat) : Int))]) dL_lay_219 (by rw [hnl]; decide) rfl ?_
                                                            refine tu_iinc 221 X (lv' := [(16, tu_i ((((y f / 8 + i9) : Nat) : Int) + 1)), (15, tu_i 1), (0, tu_i ((n : Nat) : Int)), (1, tu_i S), (2, tu_i ((p : Nat) : Int)), (3, tu_i ((br : Nat) : Int)), (4, tu_r 90), (5, tu_r 87), (6, tu_r 91), (7, tu_i ((m : Nat) : Int)), (8, tu_i (M 87 ((3 * p) + 1))), (9, tu_i (tu_or (M 87 ((3 * p) + 1)) (M 87 ((3 * p) + 2)))), (10, tu_i (tu_sm (fun q => if k q = 0 then 0 else 1) m)), (11, tu_i (((e : Nat) : Int) - 1)), (12, tu_i ((y f : Nat) : Int)), (13, tu_i ((y f / 8 : Nat) : Int)), (14, tu_i ((y f % 8 + 1 : Nat) : Int))]) 16 dL_lay_221 rfl (by rw [hnl]; decide) rfl ?_
                                                            refine tu_goto 224 X 188 dL_lay_224 (by decide) ?_
                                                            refine tu_jmp [2, 3, 4, 5, 6, 7, 8, 9, 10, 11, 12, 13, 14, 15, 16, 1, 0] (lv' := [(0, tu_i ((n : Nat) : Int)), (1, tu_i S), (2, tu_i ((p : Nat) : Int)), (3, tu_i ((br : Nat) : Int)), (4, tu_r 90), (5, tu_r 87), (6, tu_r 91), (7, tu_i ((m : Nat) : Int)), (8, tu_i (M 87 ((3 * p) + 1))), (9, tu_i (tu_or (M 87 ((3 * p) + 1)) (M 87 ((3 * p) + 2)))), (10, tu_i (tu_sm (fun q => if k q = 0 then 0 else 1) m)), (11, tu_i (((e : Nat) : Int) - 1)), (12, tu_i ((y f : Nat) : Int)), (13, tu_i ((y f / 8 : Nat) : Int)), (14, tu_i ((y f % 8 + 1 : Nat) : Int)), (15, tu_i 1), (16, tu_i (((y f / 8 + (i9 + 1)) : Nat) : Int))]) ⟨rfl, rfl, rfl, rfl, rfl, rfl, rfl, rfl, rfl, rfl, rfl, rfl, rfl, rfl, rfl, rfl, tu_ei (by first | rfl | omega), trivial⟩ rfl (ih188 (i9 + 1) 1 (by first | exact Or.inl ⟨rfl, by omega, by omega, by omega, tz_ext hf1e (by omega)⟩ | exact Or.inr ⟨rfl, fun q => ((tz_qm hyb (by omega)).mp q).2.2 i9 (by omega) (by omega)⟩) (by omega))
                                                  refine tu_jmp [2, 3, 4, 5, 6, 7, 8, 9, 10, 11, 12, 13, 14, 15, 16, 1, 0] (lv' := [(0, tu_i ((n : Nat) : Int)), (1, tu_i S), (2, tu_i ((p : Nat) : Int)), (3, tu_i ((br : Nat) : Int)), (4, tu_r 90), (5, tu_r 87), (6, tu_r 91), (7, tu_i ((m : Nat) : Int)), (8, tu_i (M 87 ((3 * p) + 1))), (9, tu_i (tu_or (M 87 ((3 * p) + 1)) (M 87 ((3 * p) + 2)))), (10, tu_i (tu_sm (fun q => if k q = 0 then 0 else 1) m)), (11, tu_i (((e : Nat) : Int) - 1)), (12, tu_i ((y f : Nat) : Int)), (13, tu_i ((y f / 8 : Nat) : Int)), (14, tu_i ((y f % 8 + 1 : Nat) : Int)), (15, tu_i ft), (16, tu_i (((y f / 8 + 0) : Nat) : Int))]) ⟨rfl, rfl, rfl, rfl, rfl, rfl, rfl, rfl, rfl, rfl, rfl, rfl, rfl, rfl, rfl, rfl, tu_ei (by first | rfl | omega), trivial⟩ rfl (lp188 ((20 - 0) + 1) 0 ft (by rcases hft0 with q | q; exact Or.inl ⟨q.1, Nat.zero_le _, q.2.1, q.2.2, fun j hj => absurd hj (Nat.not_lt_zero j)⟩; exact Or.inr q) (by omega))
                                              refine tu_iload 161 X 0 dL_lay_161 rfl ?_
                                              refine tu_iload_n 163 X 6 dL_lay_163 rfl ?_
                                              refine tu_icmp_gt 164 X 181 dL_lay_164 (by decide) (show tu_rg ((y f % 8 + 1 : Nat) : Int) from by first | assumption | exact ⟨by omega, by omega⟩) (show tu_rg ((br : Nat) : Int) from by first | assumption | exact ⟨by omega, by omega⟩) (fun br164 => ?_) (fun br164 => ?_)
                                              ·
                                                refine tu_iconst 181 X dL_lay_181 ?_
                                                refine tu_jmp [3, 4, 5, 6, 7, 8, 9, 10, 11, 12, 13, 14, 2, 1, 0] (lv' := [(0, tu_i ((n : Nat) : Int)), (1, tu_i S), (2, tu_i ((p : Nat) : Int)), (3, tu_i ((br : Nat) : Int)), (4, tu_r 90), (5, tu_r 87), (6, tu_r 91), (7, tu_i ((m : Nat) : Int)), (8, tu_i (M 87 ((3 * p) + 1))), (9, tu_i (tu_or (M 87 ((3 * p) + 1)) (M 87 ((3 * p) + 2)))), (10, tu_i (tu_sm (fun q => if k q = 0 then 0 else 1) m)), (11, tu_i (((e : Nat) : Int) - 1)), (12, tu_i ((y f : Nat) : Int)), (13, tu_i ((y f / 8 : Nat) : Int)), (14, tu_i ((y f % 8 + 1 : Nat) : Int))]) ⟨rfl, rfl, rfl, rfl, rfl, rfl, rfl, rfl, rfl, rfl, rfl, rfl, rfl, rfl, rfl, trivial⟩ rfl (lp182 0 (by first | exact Or.inl ⟨rfl, by omega, by omega⟩ | exact Or.inr ⟨rfl, fun q => by have q := (tz_qm hyb (by omega)).mp q; omega⟩))
                                              ·
                                                refine tu_iload 167 X 1 dL_lay_167 rfl ?_
                                                refine tu_iload 169 X 0 dL_lay_169 rfl ?_
                                                refine tu_iadd 171 X dL_lay_171 ?_
                                                refine tu_iload 172 X 10 dL_lay_172 rfl ?_
                                                refine tu_icmp_gt 174 X 181 dL_lay_174 (by decide) (show tu_rg (((y f / 8 : Nat) : Int) + ((y f % 8 + 1 : Nat) : Int)) from by first | assumption | exact ⟨by omega, by omega⟩) (show tu_rg ((m : Nat) : Int) from by first | assumption | exact ⟨by omega, by omega⟩) (fun br174 => ?_) (fun br174 => ?_)
                                                ·
                                                  refine tu_iconst 181 X dL_lay_181 ?_
                                                  refine tu_jmp [3, 4, 5, 6, 7, 8, 9, 10, 11, 12, 13, 14, 2, 1, 0] (lv' := [(0, tu_i ((n : Nat) : Int)), (1, tu_i S), (2, tu_i ((p : Nat) : Int)), (3, tu_i ((br : Nat) : Int)), (4, tu_r 90), (5, tu_r 87), (6, tu_r 91), (7, tu_i ((m : Nat) : Int)), (8, tu_i (M 87 ((3 * p) + 1))), (9, tu_i (tu_or (M 87 ((3 * p) + 1)) (M 87 ((3 * p) + 2)))), (10, tu_i (tu_sm (fun q => if k q = 0 then 0 else 1) m)), (11, tu_i (((e : Nat) : Int) - 1)), (12, tu_i ((y f : Nat) : Int)), (13, tu_i ((y f / 8 : Nat) : Int)), (14, tu_i ((y f % 8 + 1 : Nat) : Int))]) ⟨rfl, rfl, rfl, rfl, rfl, rfl, rfl, rfl, rfl, rfl, rfl, rfl, rfl, rfl, rfl, trivial⟩ rfl (lp182 0 (by first | exact Or.inl ⟨rfl, by omega, by omega⟩ | exact Or.inr ⟨rfl, fun q => by have q := (tz_qm hyb (by omega)).mp q; omega⟩))
                                                ·
                                                  refine tu_iconst 177 X dL_lay_177 ?_
                                                  refine tu_goto 178 X 182 dL_lay_178 (by decide) ?_
                                                  refine tu_jmp [3, 4, 5, 6, 7, 8, 9, 10, 11, 12, 13, 14, 2, 1, 0] (lv' := [(0, tu_i ((n : Nat) : Int)), (1, tu_i S), (2, tu_i ((p : Nat) : Int)), (3, tu_i ((br : Nat) : Int)), (4, tu_r 90), (5, tu_r 87), (6, tu_r 91), (7, tu_i ((m : Nat) : Int)), (8, tu_i (M 87 ((3 * p) + 1))), (9, tu_i (tu_or (M 87 ((3 * p) + 1)) (M 87 ((3 * p) + 2)))), (10, tu_i (tu_sm (fun q => if k q = 0 then 0 else 1) m)), (11, tu_i (((e : Nat) : Int) - 1)), (12, tu_i ((y f : Nat) : Int)), (13, tu_i ((y f / 8 : Nat) : Int)), (14, tu_i ((y f % 8 + 1 : Nat) : Int))]) ⟨rfl, rfl, rfl, rfl, rfl, rfl, rfl, rfl, rfl, rfl, rfl, rfl, rfl, rfl, rfl, trivial⟩ rfl (lp182 1 (by first | exact Or.inl ⟨rfl, by omega, by omega⟩ | exact Or.inr ⟨rfl, fun q => by have q := (tz_qm hyb (by omega)).mp q; omega⟩))
                                            ·
                                              obtain ⟨e2, y2, A2, he2, hI2, hmu2⟩ : ∃ (e2 : Nat) (y2 : Nat → Nat) (A2 : tz_Q), e2 = f ∧ tz_I L a k (tu_qm (L 0) k m) n m (tz_ad tz_no (tz_Z L a k n m))  e2 y2 A2 (tu_u wv (16 + f) ((y f : Nat) : Int)) ∧ tz_mu n m y2 e2 < tz_mu n m y e := ⟨f, y, A, rfl, (tz_pop hI9 (by omega) (by omega) _).1, by rw [hf]; exact (tz_pop hI9 (by omega) (by omega) (0 : Int)).2⟩
                                              refine tu_iinc 139 X (lv' := [(11, tu_i ((((e : Nat) : Int) - 1) + (-1))), (12, tu_i ((y f : Nat) : Int)), (0, tu_i ((n : Nat) : Int)), (1, tu_i S), (2, tu_i ((p : Nat) : Int)), (3, tu_i ((br : Nat) : Int)), (4, tu_r 90), (5, tu_r 87), (6, tu_r 91), (7, tu_i ((m : Nat) : Int)), (8, tu_i (M 87 ((3 * p) + 1))), (9, tu_i (tu_or (M 87 ((3 * p) + 1)) (M 87 ((3 * p) + 2)))), (10, tu_i (tu_sm (fun q => if k q = 0 then 0 else 1) m))]) 12 dL_lay_139 rfl (by rw [hnl]; decide) rfl ?_
                                              refine tu_goto 142 X 109 dL_lay_142 (by decide) ?_
                                              refine tu_jmp [2, 3, 4, 5, 6, 7, 8, 9, 10, 11, 12, 0] (lv' := [(0, tu_i ((n : Nat) : Int)), (1, tu_i S), (2, tu_i ((p : Nat) : Int)), (3, tu_i ((br : Nat) : Int)), (4, tu_r 90), (5, tu_r 87), (6, tu_r 91), (7, tu_i ((m : Nat) : Int)), (8, tu_i (M 87 ((3 * p) + 1))), (9, tu_i (tu_or (M 87 ((3 * p) + 1)) (M 87 ((3 * p) + 2)))), (10, tu_i (tu_sm (fun q => if k q = 0 then 0 else 1) m)), (11, tu_i (((e2 : Nat) : Int) - 1))]) ⟨rfl, rfl, rfl, rfl, rfl, rfl, rfl, rfl, rfl, rfl, rfl, tu_ei (by first | rfl | omega), trivial⟩ rfl (ih109 e2 y2 A2 (tu_u wv (16 + f) ((y f : Nat) : Int)) (by exact hI2) (by omega))
                                      refine tu_jmp [1, 2, 3, 4, 5, 6, 7, 8, 9, 10, 11, 0] (lv' := [(0, tu_i ((n : Nat) : Int)), (1, tu_i S), (2, tu_i ((p : Nat) : Int)), (3, tu_i ((br : Nat) : Int)), (4, tu_r 90), (5, tu_r 87), (6, tu_r 91), (7, tu_i ((m : Nat) : Int)), (8, tu_i (M 87 ((3 * p) + 1))), (9, tu_i (tu_or (M 87 ((3 * p) + 1)) (M 87 ((3 * p) + 2)))), (10, tu_i (tu_sm (fun q => if k q = 0 then 0 else 1) m)), (11, tu_i (((1 : Nat) : Int) - 1))]) ⟨rfl, rfl, rfl, rfl, rfl, rfl, rfl, rfl, rfl, rfl, rfl, tu_ei (by first | rfl | omega), trivial⟩ rfl (lp109 ((tz_mu n m (fun _ => 0) 1) + 1) 1 (fun _ => 0) tz_no (tu_u (tu_u (tu_u (tu_u (tu_u (tu_u (M 91) 0 (-6)) 1 0) 2 0) 3 (-6)) 4 (-6)) 16 (-1)) (by exact tz_I0 hn.1 rfl rfl rfl rfl rfl rfl) (by omega))
                                    ·
                                      exfalso; omega
                                  ·
                                    exfalso; omega
                            ·
                              exfalso; omega
                ·
                  exfalso; omega
            ·
              exfalso; omega
      ·
        refine tu_iload 44 X 10 dL_lay_44 rfl ?_
        refine tu_iload 46 X 9 dL_lay_46 rfl ?_
        refine tu_iload 48 X 11 dL_lay_48 rfl ?_
        refine tu_ishr 50 X dL_lay_50 ?_
        refine tu_iconst 51 X dL_lay_51 ?_
        refine tu_iand 52 X dL_lay_52 ?_
        refine tu_tp (b := (if k b9 = 0 then 0 else 1)) (by rw [tu_bit1 _ (by omega)]; exact tz_snd hs hv (by omega) (by omega) (hk b9 (by omega))) ?_
        refine tu_iadd 53 X dL_lay_53 ?_
        refine tu_istore 54 X (lv' := [(10, tu_i (tu_sm (fun q => if k q = 0 then 0 else 1) b9 + (if k b9 = 0 then 0 else 1))), (0, tu_i ((n : Nat) : Int)), (1, tu_i S), (2, tu_i ((p : Nat) : Int)), (3, tu_i ((br : Nat) : Int)), (4, tu_r 90), (5, tu_r 87), (6, tu_r 91), (7, tu_i ((m : Nat) : Int)), (8, tu_i (M 87 ((3 * p) + 1))), (9, tu_i (tu_or (M 87 ((3 * p) + 1)) (M 87 ((3 * p) + 2)))), (11, tu_i ((b9 : Nat) : Int))]) dL_lay_54 (by rw [hnl]; decide) rfl ?_
        refine tu_iinc 56 X (lv' := [(11, tu_i (((b9 : Nat) : Int) + 1)), (10, tu_i (tu_sm (fun q => if k q = 0 then 0 else 1) b9 + (if k b9 = 0 then 0 else 1))), (0, tu_i ((n : Nat) : Int)), (1, tu_i S), (2, tu_i ((p : Nat) : Int)), (3, tu_i ((br : Nat) : Int)), (4, tu_r 90), (5, tu_r 87), (6, tu_r 91), (7, tu_i ((m : Nat) : Int)), (8, tu_i (M 87 ((3 * p) + 1))), (9, tu_i (tu_or (M 87 ((3 * p) + 1)) (M 87 ((3 * p) + 2))))]) 11 dL_lay_56 rfl (by rw [hnl]; decide) rfl ?_
        refine tu_goto 59 X 37 dL_lay_59 (by decide) ?_
        refine tu_jmp [2, 3, 4, 5, 6, 7, 8, 9, 10, 11, 1, 0] (lv' := [(0, tu_i ((n : Nat) : Int)), (1, tu_i S), (2, tu_i ((p : Nat) : Int)), (3, tu_i ((br : Nat) : Int)), (4, tu_r 90), (5, tu_r 87), (6, tu_r 91), (7, tu_i ((m : Nat) : Int)), (8, tu_i (M 87 ((3 * p) + 1))), (9, tu_i (tu_or (M 87 ((3 * p) + 1)) (M 87 ((3 * p) + 2)))), (10, tu_i (tu_sm (fun q => if k q = 0 then 0 else 1) (b9 + 1))), (11, tu_i (((b9 + 1) : Nat) : Int))]) ⟨rfl, rfl, rfl, rfl, rfl, rfl, rfl, rfl, rfl, rfl, tu_ei (by first | rfl | omega), tu_ei (by first | rfl | omega), trivial⟩ rfl (ih37 (b9 + 1) (by omega) (by omega))
  refine tu_jmp [5, 6, 7, 8, 9, 10, 11, 4, 3, 2, 1, 0] (lv' := [(0, tu_i ((n : Nat) : Int)), (1, tu_i S), (2, tu_i ((p : Nat) : Int)), (3, tu_i ((br : Nat) : Int)), (4, tu_r 90), (5, tu_r 87), (6, tu_r 91), (7, tu_i ((m : Nat) : Int)), (8, tu_i (M 87 ((3 * p) + 1))), (9, tu_i (tu_or (M 87 ((3 * p) + 1)) (M 87 ((3 * p) + 2)))), (10, tu_i (tu_sm (fun q => if k q = 0 then 0 else 1) 0)), (11, tu_i 0)]) ⟨rfl, rfl, rfl, rfl, rfl, rfl, rfl, rfl, rfl, rfl, tu_ei (by first | rfl | omega), rfl, trivial⟩ rfl (lp37 ((m - 0) + 1) 0 (by omega) (by omega))
