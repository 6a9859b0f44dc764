theorem tu_b_iff (p q : Prop) [Decidable p] [Decidable q] : tu_b p = tu_b q ↔ (p ↔ q) := by
  refine ⟨fun h => ?_, fun h => tu_b_f h⟩
  by_cases hp : p
  · rw [tu_b1 hp] at h
    by_cases hq : q
    · exact ⟨fun _ => hq, fun _ => hp⟩
    · rw [tu_b0 hq] at h; exact absurd h (by decide)
  · rw [tu_b0 hp] at h
    by_cases hq : q
    · rw [tu_b1 hq] at h; exact absurd h (by decide)
    · exact ⟨fun z => absurd z hp, fun z => absurd z hq⟩
theorem tu_mk.one {z : Int} {n i : Nat} {f : Nat → Int} (h : tu_mk z n f) (hn : n ≤ 32) (hi : i < n) : tu_bi z i = 1 ↔ f i = 1 := by
  rw [h i (by omega)]
  by_cases q : f i = 1
  · rw [if_pos ⟨hi, q⟩]; exact ⟨fun _ => q, fun _ => rfl⟩
  · rw [if_neg (fun z => q z.2)]; exact ⟨fun z => absurd z (by decide), fun z => absurd z q⟩
theorem tu_LM.st {r a k : Nat → Int} {n m s : Nat} {br : Int} (h : tu_LM r a k n m br) (hn : n ≤ 32) (hs : s < n) : tu_bi (r 11) s = 1 ↔ a s = 1 := h.1.2.one hn hs
theorem tu_LM.sg {r a k : Nat → Int} {n m b : Nat} {br : Int} (h : tu_LM r a k n m br) (hm : m ≤ 32) (hb : b < m) : tu_bi (r 13) b = 1 ↔ k b = 2 := by
  rw [h.2.1.2.1.one hm hb]
  show (if k b = 2 then (1 : Int) else 0) = 1 ↔ _
  by_cases q : k b = 2
  · rw [if_pos q]; exact ⟨fun _ => q, fun _ => rfl⟩
  · rw [if_neg q]; exact ⟨fun z => absurd z (by decide), fun z => absurd z q⟩
theorem tu_LM.so {r a k : Nat → Int} {n m b : Nat} {br : Int} (h : tu_LM r a k n m br) (hm : m ≤ 32) (hb : b < m) : tu_bi (r 14) b = 1 ↔ k b ≠ 0 := by
  rw [h.2.1.2.2.one hm hb]
  show (if k b = 0 then (0 : Int) else 1) = 1 ↔ _
  by_cases q : k b = 0
  · rw [if_pos q]; exact ⟨fun z => absurd z (by decide), fun z => absurd q z⟩
  · rw [if_neg q]; exact ⟨fun _ => q, fun _ => rfl⟩
/-- the least ways when one more step is taken in -/
def tu_tu (c ci ui uj : Int) : Int := if c ≤ ci ∧ c ≠ 1000000000 then min ((if c < ci then 0 else ui) + uj) 1000000 else (if c < ci then 0 else ui)
set_option maxRecDepth 20000 in
set_option maxHeartbeats 4000000 in
theorem c_X4_hurts {M : tu_M} (L a k r : Nat → Int) (n m : Nat) (s b : Nat) (hM : tu_LM (M 86) a k n m (L 0)) (hs : M 87 1 = L 1 ∧ M 87 2 = L 2 ∧ M 87 3 = L 3) (hK : tu_LK L a k r n m) (hs9 : s < n) (hb9 : b < m) : tu_MI tu_Y_X4_hurts [tu_r 86, tu_i ((s : Nat) : Int), tu_i ((b : Nat) : Int)] M (fun z M' => M' = M ∧ z = tu_b (¬ (a s = 1 ↔ k b = 2))) := by
  have kn := hK.2.1
  have km := hK.2.2.1
  have k0 := hK.2.2.2.1
  have k1 := hK.2.2.2.2.1
  have k2 := hK.2.2.2.2.2.1
  have k3 := hK.2.2.2.2.2.2.1
  have e1 := hM.st (by omega) hs9
  have e2 := hM.sg (by omega) hb9
  refine tu_MI.of (ty := .boolean) (by decide) rfl (by first | exact Or.inl rfl | exact Or.inr rfl) (Nat.le_of_ble_eq_true rfl) (fun T (X : tu_X T cX4_hurts RX4 1 21) hnl hrt hret => ?_)
  have hret : tu_RI T cX4_hurts (fun z M' => M' = M ∧ z = tu_b (¬ (a s = 1 ↔ k b = 2))) := hret
  have hnl : T.2.2.2.2.2.2.2.2.2.2.1 = 3 := hnl
  show tu_W T 0 [(0, tu_r 86), (1, tu_i ((s : Nat) : Int)), (2, tu_i ((b : Nat) : Int))] [] M
  refine tu_aload_n 0 X 0 dX4_hurts_0 rfl ?_
  refine tu_getI 1 X (x := M 86 11) dX4_hurts_1 fl_RX4_69 (by decide) rfl rfl rfl ?_
  refine tu_iload_n 4 X 1 dX4_hurts_4 rfl ?_
  refine tu_callSI 5 X (st := []) (as := [tu_i (M 86 11), tu_i ((s : Nat) : Int)]) (c_X4_has (M 86 11) s (show s < 32 from by first | assumption | omega | exact ⟨by omega, by omega⟩ | decide)) ss_RX4_84 dX4_hurts_5 rfl (Nat.le_of_ble_eq_true rfl) ⟨by decide, by decide⟩ (fun z M' h => ?_)
  obtain ⟨hM5, hz5⟩ := h
  refine tu_st_eq rfl (M' := M) hM5 ?_
  refine tu_tp (b := tu_b (tu_bi (M 86 11) s = 1)) hz5 ?_
  refine tu_aload_n 8 X 0 dX4_hurts_8 rfl ?_
  refine tu_getI 9 X (x := M 86 13) dX4_hurts_9 fl_RX4_75 (by decide) rfl rfl rfl ?_
  refine tu_iload_n 12 X 2 dX4_hurts_12 rfl ?_
  refine tu_callSI 13 X (st := [tu_i (tu_b (tu_bi (M 86 11) s = 1))]) (as := [tu_i (M 86 13), tu_i ((b : Nat) : Int)]) (c_X4_has (M 86 13) b (show b < 32 from by first | assumption | omega | exact ⟨by omega, by omega⟩ | decide)) ss_RX4_84 dX4_hurts_13 rfl (Nat.le_of_ble_eq_true rfl) ⟨by decide, by decide⟩ (fun z M' h => ?_)
  obtain ⟨hM13, hz13⟩ := h
  refine tu_st_eq rfl (M' := M) hM13 ?_
  refine tu_tp (b := tu_b (tu_bi (M 86 13) b = 1)) hz13 ?_
  refine tu_icmp_eq 16 X 23 dX4_hurts_16 (by decide) tu_b_rg tu_b_rg (fun br16 => ?_) (fun br16 => ?_)
  ·
    have br16 := (tu_b_iff _ _).mp br16
    refine tu_iconst 23 X dX4_hurts_23 ?_
    refine hret 24 _ _ 0 dX4_hurts_24 (fun _ => Or.inl rfl) ?_
    exact ⟨rfl, (tu_b0 (by omega)).symm⟩
  ·
    have br16 : ¬ (tu_bi (M 86 11) s = 1 ↔ tu_bi (M 86 13) b = 1) := fun z => br16 ((tu_b_iff _ _).mpr z)
    refine tu_iconst 19 X dX4_hurts_19 ?_
    refine tu_goto 20 X 24 dX4_hurts_20 (by decide) ?_
    refine hret 24 _ _ 1 dX4_hurts_24 (fun _ => Or.inr rfl) ?_
    exact ⟨rfl, (tu_b1 (by omega)).symm⟩
set_option maxRecDepth 20000 in
set_option maxHeartbeats 4000000 in
theorem c_X4_costOn {M : tu_M} (L a k r : Nat → Int) (n m : Nat) (s b h : Nat) (hM : tu_LM (M 86) a k n m (L 0)) (hs : M 87 1 = L 1 ∧ M 87 2 = L 2 ∧ M 87 3 = L 3) (hK : tu_LK L a k r n m) (hs9 : s < n) (hb9 : b + h ≤ m ∧ 1 ≤ h) (hg : tu_rg (M 92 (25 * (s + 1) + b + h))) : tu_MI tu_Y_X4_costOn [tu_r 86, tu_i ((s : Nat) : Int), tu_i ((b : Nat) : Int), tu_i ((h : Nat) : Int)] M (fun z M' => M' = M ∧ z = if M 92 (25 * (s + 1) + b + h) = 1000000000 then 1000000000 else M 92 (25 * (s + 1) + b + h) + L 1 * (((h : Nat) : Int) - 1) + (if ¬ (a s = 1 ↔ k b = 2) then L 3 else 0)) := by
  have kn := hK.2.1
  have km := hK.2.2.1
  have k0 := hK.2.2.2.1
  have k1 := hK.2.2.2.2.1
  have k2 := hK.2.2.2.2.2.1
  have k3 := hK.2.2.2.2.2.2.1
  refine tu_MI.of (ty := .int) (by decide) rfl (by first | exact Or.inl rfl | exact Or.inr rfl) (Nat.le_of_ble_eq_true rfl) (fun T (X : tu_X T cX4_costOn RX4 2 43) hnl hrt hret => ?_)
  have hret : tu_RI T cX4_costOn (fun z M' => M' = M ∧ z = if M 92 (25 * (s + 1) + b + h) = 1000000000 then 1000000000 else M 92 (25 * (s + 1) + b + h) + L 1 * (((h : Nat) : Int) - 1) + (if ¬ (a s = 1 ↔ k b = 2) then L 3 else 0)) := hret
  have hnl : T.2.2.2.2.2.2.2.2.2.2.1 = 5 := hnl
  show tu_W T 0 [(0, tu_r 86), (1, tu_i ((s : Nat) : Int)), (2, tu_i ((b : Nat) : Int)), (3, tu_i ((h : Nat) : Int))] [] M
  refine tu_aload_n 0 X 0 dX4_costOn_0 rfl ?_
  refine tu_getR 1 X dX4_costOn_1 fl_RX4_25 (by decide) rfl rfl ?_
  refine tu_bipush 4 X dX4_costOn_4 (by decide) ?_
  refine tu_iload_n 6 X 1 dX4_costOn_6 rfl ?_
  refine tu_iconst 7 X dX4_costOn_7 ?_
  refine tu_iadd 8 X dX4_costOn_8 ?_
  refine tu_imul 9 X dX4_costOn_9 ?_
  refine tu_iload_n 10 X 2 dX4_costOn_10 rfl ?_
  refine tu_iadd 11 X dX4_costOn_11 ?_
  refine tu_iload_n 12 X 3 dX4_costOn_12 rfl ?_
  refine tu_iadd 13 X dX4_costOn_13 ?_
  refine tu_iald 14 X (x := M 92 (((25 * (s + 1)) + b) + h)) (((25 * (s + 1)) + b) + h) dX4_costOn_14 (by decide) rfl (by decide) (by omega) (by omega) rfl ?_
  refine tu_tp (b := (M 92 (25 * (s + 1) + b + h))) (by rfl) ?_
  refine tu_istore 15 X (lv' := [(4, tu_i (M 92 (25 * (s + 1) + b + h))), (0, tu_r 86), (1, tu_i ((s : Nat) : Int)), (2, tu_i ((b : Nat) : Int)), (3, tu_i ((h : Nat) : Int))]) dX4_costOn_15 (by rw [hnl]; decide) rfl ?_
  refine tu_iload 17 X 0 dX4_costOn_17 rfl ?_
  refine tu_ldc 19 X (n := 1000000000) dX4_costOn_19 kw_RX4_88 (by decide) ?_
  refine tu_icmp_ne 21 X 29 dX4_costOn_21 (by decide) (show tu_rg (M 92 (25 * (s + 1) + b + h)) from by first | assumption | exact ⟨by omega, by omega⟩) ⟨by decide, by decide⟩ (fun br21 => ?_) (fun br21 => ?_)
  ·
    refine tu_iload 29 X 0 dX4_costOn_29 rfl ?_
    refine tu_aload_n 31 X 1 dX4_costOn_31 rfl ?_
    refine tu_getR 32 X dX4_costOn_32 fl_RX4_7 (by decide) rfl rfl ?_
    refine tu_iconst 35 X dX4_costOn_35 ?_
    refine tu_iald 36 X (x := M 87 1) 1 dX4_costOn_36 (by decide) rfl (by decide) rfl (by decide) rfl ?_
    refine tu_tp (b := (L 1)) (by exact hs.1) ?_
    refine tu_iload_n 37 X 4 dX4_costOn_37 rfl ?_
    refine tu_iconst 38 X dX4_costOn_38 ?_
    refine tu_isub 39 X dX4_costOn_39 ?_
    refine tu_imul 40 X dX4_costOn_40 ?_
    refine tu_iadd 41 X dX4_costOn_41 ?_
    refine tu_aload_n 42 X 1 dX4_costOn_42 rfl ?_
    refine tu_iload_n 43 X 2 dX4_costOn_43 rfl ?_
    refine tu_iload_n 44 X 3 dX4_costOn_44 rfl ?_
    refine tu_callVI 45 X (st := [tu_i ((M 92 (25 * (s + 1) + b + h)) + ((L 1) * (((h : Nat) : Int) - 1)))]) (as := [tu_i ((s : Nat) : Int), tu_i ((b : Nat) : Int)]) (c_X4_hurts L a k r n m s b (show tu_LM (M 86) a k n m (L 0) from by first | assumption | omega | exact ⟨by omega, by omega⟩ | decide) (show M 87 1 = L 1 ∧ M 87 2 = L 2 ∧ M 87 3 = L 3 from by first | assumption | omega | exact ⟨by omega, by omega⟩ | decide) (show tu_LK L a k r n m from by first | assumption | omega | exact ⟨by omega, by omega⟩ | decide) (show s < n from by first | assumption | omega | exact ⟨by omega, by omega⟩ | decide) (show b < m from by first | assumption | omega | exact ⟨by omega, by omega⟩ | decide)) sv_RX4_89 dX4_costOn_45 rfl (by decide) rfl rfl rfl (Nat.le_of_ble_eq_true rfl) ⟨by decide, by decide⟩ (fun z M' h => ?_)
    obtain ⟨hM45, hz45⟩ := h
    refine tu_st_eq rfl (M' := M) hM45 ?_
    refine tu_tp (b := tu_b (¬ (a s = 1 ↔ k b = 2))) hz45 ?_
    refine tu_if_eq 48 X 60 dX4_costOn_48 (by decide) tu_b_rg (fun br48 => ?_) (fun br48 => ?_)
    ·
      have br48 := tu_b_e0 br48
      refine tu_iconst 60 X dX4_costOn_60 ?_
      refine tu_iadd 61 X dX4_costOn_61 ?_
      refine hret 62 _ _ (((M 92 (25 * (s + 1) + b + h)) + ((L 1) * (((h : Nat) : Int) - 1))) + 0) dX4_costOn_62 (fun h => by rw [hrt] at h; cases h) ?_
      exact ⟨rfl, by first | rw [if_pos (by omega)] | (rw [if_neg (by omega), if_pos (by assumption)]) | (rw [if_neg (by omega), if_neg (by assumption)])⟩
    ·
      have br48 := tu_b_n0 br48
      refine tu_aload_n 51 X 1 dX4_costOn_51 rfl ?_
      refine tu_getR 52 X dX4_costOn_52 fl_RX4_7 (by decide) rfl rfl ?_
      refine tu_iconst 55 X dX4_costOn_55 ?_
      refine tu_iald 56 X (x := M 87 3) 3 dX4_costOn_56 (by decide) rfl (by decide) rfl (by decide) rfl ?_
      refine tu_tp (b := (L 3)) (by exact hs.2.2) ?_
      refine tu_goto 57 X 61 dX4_costOn_57 (by decide) ?_
      refine tu_iadd 61 X dX4_costOn_61 ?_
      refine hret 62 _ _ (((M 92 (25 * (s + 1) + b + h)) + ((L 1) * (((h : Nat) : Int) - 1))) + (L 3)) dX4_costOn_62 (fun h => by rw [hrt] at h; cases h) ?_
      exact ⟨rfl, by first | rw [if_pos (by omega)] | (rw [if_neg (by omega), if_pos (by assumption)]) | (rw [if_neg (by omega), if_neg (by assumption)])⟩
  ·
    refine tu_ldc 24 X (n := 1000000000) dX4_costOn_24 kw_RX4_88 (by decide) ?_
    refine tu_goto 26 X 62 dX4_costOn_26 (by decide) ?_
    refine hret 62 _ _ 1000000000 dX4_costOn_62 (fun h => by rw [hrt] at h; cases h) ?_
    exact ⟨rfl, by first | rw [if_pos (by omega)] | (rw [if_neg (by omega), if_pos (by assumption)]) | (rw [if_neg (by omega), if_neg (by assumption)])⟩
set_option maxRecDepth 20000 in
set_option maxHeartbeats 4000000 in
theorem c_X4_costFree {M : tu_M} (L a k r : Nat → Int) (n m : Nat) (s b : Nat) (hM : tu_LM (M 86) a k n m (L 0)) (hs : M 87 1 = L 1 ∧ M 87 2 = L 2 ∧ M 87 3 = L 3) (hK : tu_LK L a k r n m) (hs9 : s ≤ n) (hb9 : b < m) (hg : tu_rg (M 92 (25 * s + b + 1))) : tu_MI tu_Y_X4_costFree [tu_r 86, tu_i ((s : Nat) : Int), tu_i ((b : Nat) : Int)] M (fun z M' => M' = M ∧ z = if M 92 (25 * s + b + 1) = 1000000000 then 1000000000 else M 92 (25 * s + b + 1) + (if k b = 0 then 0 else L 2)) := by
  have kn := hK.2.1
  have km := hK.2.2.1
  have k0 := hK.2.2.2.1
  have k1 := hK.2.2.2.2.1
  have k2 := hK.2.2.2.2.2.1
  have k3 := hK.2.2.2.2.2.2.1
  have e2 := hM.so (by omega) hb9
  refine tu_MI.of (ty := .int) (by decide) rfl (by first | exact Or.inl rfl | exact Or.inr rfl) (Nat.le_of_ble_eq_true rfl) (fun T (X : tu_X T cX4_costFree RX4 1 21) hnl hrt hret => ?_)
  have hret : tu_RI T cX4_costFree (fun z M' => M' = M ∧ z = if M 92 (25 * s + b + 1) = 1000000000 then 1000000000 else M 92 (25 * s + b + 1) + (if k b = 0 then 0 else L 2)) := hret
  have hnl : T.2.2.2.2.2.2.2.2.2.2.1 = 4 := hnl
  show tu_W T 0 [(0, tu_r 86), (1, tu_i ((s : Nat) : Int)), (2, tu_i ((b : Nat) : Int))] [] M
  refine tu_aload_n 0 X 0 dX4_costFree_0 rfl ?_
  refine tu_getR 1 X dX4_costFree_1 fl_RX4_25 (by decide) rfl rfl ?_
  refine tu_bipush 4 X dX4_costFree_4 (by decide) ?_
  refine tu_iload_n 6 X 1 dX4_costFree_6 rfl ?_
  refine tu_imul 7 X dX4_costFree_7 ?_
  refine tu_iload_n 8 X 2 dX4_costFree_8 rfl ?_
  refine tu_iadd 9 X dX4_costFree_9 ?_
  refine tu_iconst 10 X dX4_costFree_10 ?_
  refine tu_iadd 11 X dX4_costFree_11 ?_
  refine tu_iald 12 X (x := M 92 (((25 * s) + b) + 1)) (((25 * s) + b) + 1) dX4_costFree_12 (by decide) rfl (by decide) (by omega) (by omega) rfl ?_
  refine tu_tp (b := (M 92 (25 * s + b + 1))) (by rfl) ?_
  refine tu_istore_n 13 X (lv' := [(3, tu_i (M 92 (25 * s + b + 1))), (0, tu_r 86), (1, tu_i ((s : Nat) : Int)), (2, tu_i ((b : Nat) : Int))]) dX4_costFree_13 (by rw [hnl]; decide) rfl ?_
  refine tu_iload_n 14 X 0 dX4_costFree_14 rfl ?_
  refine tu_ldc 15 X (n := 1000000000) dX4_costFree_15 kw_RX4_88 (by decide) ?_
  refine tu_icmp_ne 17 X 25 dX4_costFree_17 (by decide) (show tu_rg (M 92 (25 * s + b + 1)) from by first | assumption | exact ⟨by omega, by omega⟩) ⟨by decide, by decide⟩ (fun br17 => ?_) (fun br17 => ?_)
  ·
    refine tu_iload_n 25 X 0 dX4_costFree_25 rfl ?_
    refine tu_aload_n 26 X 1 dX4_costFree_26 rfl ?_
    refine tu_getI 27 X (x := M 86 14) dX4_costFree_27 fl_RX4_78 (by decide) rfl rfl rfl ?_
    refine tu_iload_n 30 X 3 dX4_costFree_30 rfl ?_
    refine tu_callSI 31 X (st := [tu_i (M 92 (25 * s + b + 1))]) (as := [tu_i (M 86 14), tu_i ((b : Nat) : Int)]) (c_X4_has (M 86 14) b (show b < 32 from by first | assumption | omega | exact ⟨by omega, by omega⟩ | decide)) ss_RX4_84 dX4_costFree_31 rfl (Nat.le_of_ble_eq_true rfl) ⟨by decide, by decide⟩ (fun z M' h => ?_)
    obtain ⟨hM31, hz31⟩ := h
    refine tu_st_eq rfl (M' := M) hM31 ?_
    refine tu_tp (b := tu_b (tu_bi (M 86 14) b = 1)) hz31 ?_
    refine tu_if_eq 34 X 46 dX4_costFree_34 (by decide) tu_b_rg (fun br34 => ?_) (fun br34 => ?_)
    ·
      have br34 := tu_b_e0 br34
      refine tu_iconst 46 X dX4_costFree_46 ?_
      refine tu_iadd 47 X dX4_costFree_47 ?_
      refine hret 48 _ _ ((M 92 (25 * s + b + 1)) + 0) dX4_costFree_48 (fun h => by rw [hrt] at h; cases h) ?_
      exact ⟨rfl, by first | rw [if_pos (by omega)] | (rw [if_neg (by omega), if_pos (by omega)]) | (rw [if_neg (by omega), if_neg (by omega)])⟩
    ·
      have br34 := tu_b_n0 br34
      refine tu_aload_n 37 X 1 dX4_costFree_37 rfl ?_
      refine tu_getR 38 X dX4_costFree_38 fl_RX4_7 (by decide) rfl rfl ?_
      refine tu_iconst 41 X dX4_costFree_41 ?_
      refine tu_iald 42 X (x := M 87 2) 2 dX4_costFree_42 (by decide) rfl (by decide) rfl (by decide) rfl ?_
      refine tu_tp (b := (L 2)) (by exact hs.2.1) ?_
      refine tu_goto 43 X 47 dX4_costFree_43 (by decide) ?_
      refine tu_iadd 47 X dX4_costFree_47 ?_
      refine hret 48 _ _ ((M 92 (25 * s + b + 1)) + (L 2)) dX4_costFree_48 (fun h => by rw [hrt] at h; cases h) ?_
      exact ⟨rfl, by first | rw [if_pos (by omega)] | (rw [if_neg (by omega), if_pos (by omega)]) | (rw [if_neg (by omega), if_neg (by omega)])⟩
  ·
    refine tu_ldc 20 X (n := 1000000000) dX4_costFree_20 kw_RX4_88 (by decide) ?_
    refine tu_goto 22 X 48 dX4_costFree_22 (by decide) ?_
    refine hret 48 _ _ 1000000000 dX4_costFree_48 (fun h => by rw [hrt] at h; cases h) ?_
    exact ⟨rfl, by first | rw [if_pos (by omega)] | (rw [if_neg (by omega), if_pos (by omega)]) | (rw [if_neg (by omega), if_neg (by omega)])⟩
set_option maxRecDepth 20000 in
set_option maxHeartbeats 4000000 in
theorem c_X4_capped {M : tu_M} (c : Int) (rc : tu_rg c) : tu_MI tu_Y_X4_capped [tu_i c] M (fun z M' => M' = M ∧ z = min c 1000000) := by
  refine tu_MI.of (ty := .int) (by decide) rfl (by first | exact Or.inl rfl | exact Or.inr rfl) (Nat.le_of_ble_eq_true rfl) (fun T (X : tu_X T cX4_capped RX4 0 0) hnl hrt hret => ?_)
  have hret : tu_RI T cX4_capped (fun z M' => M' = M ∧ z = min c 1000000) := hret
  have hnl : T.2.2.2.2.2.2.2.2.2.2.1 = 1 := hnl
  show tu_W T 0 [(0, tu_i c)] [] M
  refine tu_iload_n 0 X 0 dX4_capped_0 rfl ?_
  refine tu_ldc 1 X (n := 1000000) dX4_capped_1 kw_RX4_92 (by decide) ?_
  refine tu_icmp_le 3 X 11 dX4_capped_3 (by decide) (show tu_rg c from by first | assumption | exact ⟨by omega, by omega⟩) ⟨by decide, by decide⟩ (fun br3 => ?_) (fun br3 => ?_)
  ·
    refine tu_iload_n 11 X 0 dX4_capped_11 rfl ?_
    refine hret 12 _ _ c dX4_capped_12 (fun h => by rw [hrt] at h; cases h) ?_
    exact ⟨rfl, by omega⟩
  ·
    refine tu_ldc 6 X (n := 1000000) dX4_capped_6 kw_RX4_92 (by decide) ?_
    refine tu_goto 8 X 12 dX4_capped_8 (by decide) ?_
    refine hret 12 _ _ 1000000 dX4_capped_12 (fun h => by rw [hrt] at h; cases h) ?_
    exact ⟨rfl, by omega⟩
set_option maxRecDepth 20000 in
set_option maxHeartbeats 4000000 in
theorem c_X4_takesIn {M : tu_M} (i9 : Nat) (c : Int) (j9 : Nat) (hi : i9 < 425) (hj : j9 < 425 ∧ j9 ≠ i9) (rc : tu_rg c) (r2 : tu_rg (M 92 i9)) (r3 : (0 ≤ M 93 i9 ∧ M 93 i9 ≤ 1000000) ∧ 0 ≤ M 93 j9 ∧ M 93 j9 ≤ 1000000) (r4 : (0 ≤ M 94 i9 ∧ M 94 i9 ≤ 1000000) ∧ 0 ≤ M 94 j9 ∧ M 94 j9 ≤ 1000000) : tu_MV tu_Y_X4_takesIn [tu_r 86, tu_i ((i9 : Nat) : Int), tu_i c, tu_i ((j9 : Nat) : Int)] M (fun M' => M' = tu_row (tu_row (tu_row M 92 (tu_u (M 92) i9 (min c (M 92 i9)))) 93 (tu_u (M 93) i9 (min (M 93 i9 + M 93 j9) 1000000))) 94 (tu_u (M 94) i9 (tu_tu c (M 92 i9) (M 94 i9) (M 94 j9)))) := by
  refine tu_MV.of (by decide) rfl (Nat.le_of_ble_eq_true rfl) (fun T (X : tu_X T cX4_takesIn RX4 1 20) hnl hret => ?_)
  have hret : tu_RV T cX4_takesIn (fun M' => M' = tu_row (tu_row (tu_row M 92 (tu_u (M 92) i9 (min c (M 92 i9)))) 93 (tu_u (M 93) i9 (min (M 93 i9 + M 93 j9) 1000000))) 94 (tu_u (M 94) i9 (tu_tu c (M 92 i9) (M 94 i9) (M 94 j9)))) := hret
  have hnl : T.2.2.2.2.2.2.2.2.2.2.1 = 4 := hnl
  show tu_W T 0 [(0, tu_r 86), (1, tu_i ((i9 : Nat) : Int)), (2, tu_i c), (3, tu_i ((j9 : Nat) : Int))] [] M
  refine tu_st_eq rfl (M' := tu_row M 92 (M 92)) ((tu_rx M 92).symm) ?_
  refine tu_st_eq rfl (M' := tu_row (tu_row M 92 (M 92)) 94 (M 94)) ((congrArg (fun m => tu_row m 92 (M 92)) ((tu_rx M 94).symm)).trans (tu_rc M (M 94) (M 92) rfl)) ?_
  have lp24 : ∀ (f2 : Nat → Int) (f4 : Nat → Int), (f2 = tu_u (M 92) i9 (min c (M 92 i9))) → (f4 = tu_u (M 94) i9 (if c < M 92 i9 then 0 else M 94 i9)) → tu_W T 24 [(0, tu_r 86), (1, tu_i ((i9 : Nat) : Int)), (2, tu_i c), (3, tu_i ((j9 : Nat) : Int))] [] (tu_row (tu_row M 92 f2) 94 f4) := by
      intro f2 f4 g2 g4
      have v2 : f2 i9 = min c (M 92 i9) := by rw [g2, tu_u_s]
      have v4 : f4 i9 = if c < M 92 i9 then 0 else M 94 i9 := by rw [g4, tu_u_s]
      have v4j : f4 j9 = M 94 j9 := by rw [g4, tu_u_n _ _ (by omega)]
      have v4r : 0 ≤ f4 i9 ∧ f4 i9 ≤ 1000000 := by rw [v4]; split <;> omega
      have lp62 : ∀ (f5 : Nat → Int), (f5 = tu_u (M 94) i9 (tu_tu c (M 92 i9) (M 94 i9) (M 94 j9))) → tu_W T 62 [(0, tu_r 86), (1, tu_i ((i9 : Nat) : Int)), (2, tu_i c), (3, tu_i ((j9 : Nat) : Int))] [] (tu_row (tu_row M 92 f2) 94 f5) := by
          intro f5 g5
          refine tu_aload_n 62 X 0 dX4_takesIn_62 rfl ?_
          refine tu_getR 63 X dX4_takesIn_63 fl_RX4_28 (by decide) rfl rfl ?_
          refine tu_iload_n 66 X 1 dX4_takesIn_66 rfl ?_
          refine tu_aload_n 67 X 0 dX4_takesIn_67 rfl ?_
          refine tu_getR 68 X dX4_takesIn_68 fl_RX4_28 (by decide) rfl rfl ?_
          refine tu_iload_n 71 X 1 dX4_takesIn_71 rfl ?_
          refine tu_iald 72 X (x := M 93 i9) i9 dX4_takesIn_72 (by decide) rfl (by decide) (by omega) (by omega) rfl ?_
          refine tu_aload_n 73 X 0 dX4_takesIn_73 rfl ?_
          refine tu_getR 74 X dX4_takesIn_74 fl_RX4_28 (by decide) rfl rfl ?_
          refine tu_iload_n 77 X 3 dX4_takesIn_77 rfl ?_
          refine tu_iald 78 X (x := M 93 j9) j9 dX4_takesIn_78 (by decide) rfl (by decide) (by omega) (by omega) rfl ?_
          refine tu_iadd 79 X dX4_takesIn_79 ?_
          refine tu_callSI 80 X (st := [tu_i ((i9 : Nat) : Int), tu_r 93]) (as := [tu_i ((M 93 i9) + (M 93 j9))]) (c_X4_capped ((M 93 i9) + (M 93 j9)) (show tu_rg ((M 93 i9) + (M 93 j9)) from by first | assumption | omega | exact ⟨by omega, by omega⟩ | decide)) ss_RX4_93 dX4_takesIn_80 rfl (Nat.le_of_ble_eq_true rfl) ⟨by decide, by decide⟩ (fun z M' h => ?_)
          obtain ⟨hM80, hz80⟩ := h
          refine tu_st_eq rfl (M' := tu_row (tu_row M 92 f2) 94 f5) hM80 ?_
          refine tu_tp (b := (min ((M 93 i9) + (M 93 j9)) 1000000)) hz80 ?_
          refine tu_iast 83 X (M' := tu_row (tu_row (tu_row M 92 f2) 93 (tu_u (M 93) i9 (min ((M 93 i9) + (M 93 j9)) 1000000))) 94 f5) i9 dX4_takesIn_83 (by decide) rfl (by decide) (by omega) (by omega) (tu_rc (tu_row M 92 f2) f5 (tu_u (M 93) i9 (min ((M 93 i9) + (M 93 j9)) 1000000)) rfl) ?_
          refine hret 84 _ _ dX4_takesIn_84 ?_
          show _ = tu_row (tu_row (tu_row _ _ _) _ _) _ _
          rw [g2, g5]
      refine tu_iload_n 24 X 2 dX4_takesIn_24 rfl ?_
      refine tu_aload_n 25 X 0 dX4_takesIn_25 rfl ?_
      refine tu_getR 26 X dX4_takesIn_26 fl_RX4_25 (by decide) rfl rfl ?_
      refine tu_iload_n 29 X 1 dX4_takesIn_29 rfl ?_
      refine tu_iald 30 X (x := f2 i9) i9 dX4_takesIn_30 (by decide) rfl (by decide) (by omega) (by omega) rfl ?_
      refine tu_tp (b := (min c (M 92 i9))) (by exact v2) ?_
      refine tu_icmp_ne 31 X 62 dX4_takesIn_31 (by decide) (show tu_rg c from by first | assumption | exact ⟨by omega, by omega⟩) (show tu_rg (min c (M 92 i9)) from by first | assumption | exact ⟨by omega, by omega⟩) (fun br31 => ?_) (fun br31 => ?_)
      ·
        refine tu_jmp [0, 1, 2, 3] (lv' := [(0, tu_r 86), (1, tu_i ((i9 : Nat) : Int)), (2, tu_i c), (3, tu_i ((j9 : Nat) : Int))]) ⟨rfl, rfl, rfl, rfl, trivial⟩ rfl (lp62 f4 (by first | (rw [g4, tu_uu, show tu_tu c (M 92 i9) (M 94 i9) (M 94 j9) = min (f4 i9 + M 94 j9) 1000000 from by unfold tu_tu; rw [if_pos (by omega), v4]]; rw [g4]) | (rw [g4, show tu_tu c (M 92 i9) (M 94 i9) (M 94 j9) = (if c < M 92 i9 then 0 else M 94 i9) from by unfold tu_tu; rw [if_neg (by omega)]])))
      ·
        refine tu_iload_n 34 X 2 dX4_takesIn_34 rfl ?_
        refine tu_ldc 35 X (n := 1000000000) dX4_takesIn_35 kw_RX4_88 (by decide) ?_
        refine tu_icmp_eq 37 X 62 dX4_takesIn_37 (by decide) (show tu_rg c from by first | assumption | exact ⟨by omega, by omega⟩) ⟨by decide, by decide⟩ (fun br37 => ?_) (fun br37 => ?_)
        ·
          refine tu_jmp [0, 1, 2, 3] (lv' := [(0, tu_r 86), (1, tu_i ((i9 : Nat) : Int)), (2, tu_i c), (3, tu_i ((j9 : Nat) : Int))]) ⟨rfl, rfl, rfl, rfl, trivial⟩ rfl (lp62 f4 (by first | (rw [g4, tu_uu, show tu_tu c (M 92 i9) (M 94 i9) (M 94 j9) = min (f4 i9 + M 94 j9) 1000000 from by unfold tu_tu; rw [if_pos (by omega), v4]]; rw [g4]) | (rw [g4, show tu_tu c (M 92 i9) (M 94 i9) (M 94 j9) = (if c < M 92 i9 then 0 else M 94 i9) from by unfold tu_tu; rw [if_neg (by omega)]])))
        ·
          refine tu_aload_n 40 X 0 dX4_takesIn_40 rfl ?_
          refine tu_getR 41 X dX4_takesIn_41 fl_RX4_31 (by decide) rfl rfl ?_
          refine tu_iload_n 44 X 1 dX4_takesIn_44 rfl ?_
          refine tu_aload_n 45 X 0 dX4_takesIn_45 rfl ?_
          refine tu_getR 46 X dX4_takesIn_46 fl_RX4_31 (by decide) rfl rfl ?_
          refine tu_iload_n 49 X 1 dX4_takesIn_49 rfl ?_
          refine tu_iald 50 X (x := f4 i9) i9 dX4_takesIn_50 (by decide) rfl (by decide) (by omega) (by omega) rfl ?_
          refine tu_aload_n 51 X 0 dX4_takesIn_51 rfl ?_
          refine tu_getR 52 X dX4_takesIn_52 fl_RX4_31 (by decide) rfl rfl ?_
          refine tu_iload_n 55 X 3 dX4_takesIn_55 rfl ?_
          refine tu_iald 56 X (x := f4 j9) j9 dX4_takesIn_56 (by decide) rfl (by decide) (by omega) (by omega) rfl ?_
          refine tu_tp (b := (M 94 j9)) (by exact v4j) ?_
          refine tu_iadd 57 X dX4_takesIn_57 ?_
          refine tu_callSI 58 X (st := [tu_i ((i9 : Nat) : Int), tu_r 94]) (as := [tu_i ((f4 i9) + (M 94 j9))]) (c_X4_capped ((f4 i9) + (M 94 j9)) (show tu_rg ((f4 i9) + (M 94 j9)) from by first | assumption | omega | exact ⟨by omega, by omega⟩ | decide)) ss_RX4_93 dX4_takesIn_58 rfl (Nat.le_of_ble_eq_true rfl) ⟨by decide, by decide⟩ (fun z M' h => ?_)
          obtain ⟨hM58, hz58⟩ := h
          refine tu_st_eq rfl (M' := tu_row (tu_row M 92 f2) 94 f4) hM58 ?_
          refine tu_tp (b := (min ((f4 i9) + (M 94 j9)) 1000000)) hz58 ?_
          refine tu_iast 61 X (M' := tu_row (tu_row M 92 f2) 94 (tu_u f4 i9 (min ((f4 i9) + (M 94 j9)) 1000000))) i9 dX4_takesIn_61 (by decide) rfl (by decide) (by omega) (by omega) (tu_rr (tu_row M 92 f2) 94 f4 (tu_u f4 i9 (min ((f4 i9) + (M 94 j9)) 1000000))) ?_
          refine tu_jmp [0, 1, 2, 3] (lv' := [(0, tu_r 86), (1, tu_i ((i9 : Nat) : Int)), (2, tu_i c), (3, tu_i ((j9 : Nat) : Int))]) ⟨rfl, rfl, rfl, rfl, trivial⟩ rfl (lp62 (tu_u f4 i9 (min ((f4 i9) + (M 94 j9)) 1000000)) (by first | (rw [g4, tu_uu, show tu_tu c (M 92 i9) (M 94 i9) (M 94 j9) = min (f4 i9 + M 94 j9) 1000000 from by unfold tu_tu; rw [if_pos (by omega), v4]]; rw [g4]) | (rw [g4, show tu_tu c (M 92 i9) (M 94 i9) (M 94 j9) = (if c < M 92 i9 then 0 else M 94 i9) from by unfold tu_tu; rw [if_neg (by omega)]])))
  refine tu_iload_n 0 X 2 dX4_takesIn_0 rfl ?_
  refine tu_aload_n 1 X 0 dX4_takesIn_1 rfl ?_
  refine tu_getR 2 X dX4_takesIn_2 fl_RX4_25 (by decide) rfl rfl ?_
  refine tu_iload_n 5 X 1 dX4_takesIn_5 rfl ?_
  refine tu_iald 6 X (x := (M 92) i9) i9 dX4_takesIn_6 (by decide) rfl (by decide) (by omega) (by omega) rfl ?_
  refine tu_icmp_ge 7 X 24 dX4_takesIn_7 (by decide) (show tu_rg c from by first | assumption | exact ⟨by omega, by omega⟩) (show tu_rg ((M 92) i9) from by first | assumption | exact ⟨by omega, by omega⟩) (fun br7 => ?_) (fun br7 => ?_)
  ·
    refine tu_jmp [0, 1, 2, 3] (lv' := [(0, tu_r 86), (1, tu_i ((i9 : Nat) : Int)), (2, tu_i c), (3, tu_i ((j9 : Nat) : Int))]) ⟨rfl, rfl, rfl, rfl, trivial⟩ rfl (lp24 (M 92) (M 94) (by first | rw [tu_u_x (show min c (M 92 i9) = M 92 i9 from by omega)] | rw [show min c (M 92 i9) = c from by omega]) (by first | rw [if_pos (by omega)] | rw [if_neg (by omega), tu_u_x rfl]))
  ·
    refine tu_aload_n 10 X 0 dX4_takesIn_10 rfl ?_
    refine tu_getR 11 X dX4_takesIn_11 fl_RX4_25 (by decide) rfl rfl ?_
    refine tu_iload_n 14 X 1 dX4_takesIn_14 rfl ?_
    refine tu_iload_n 15 X 2 dX4_takesIn_15 rfl ?_
    refine tu_iast 16 X (M' := tu_row (tu_row M 92 (tu_u (M 92) i9 c)) 94 (M 94)) i9 dX4_takesIn_16 (by decide) rfl (by decide) (by omega) (by omega) ((tu_rc (tu_row M 92 (M 92)) (M 94) (tu_u (M 92) i9 c) rfl).trans (congrArg (fun m => tu_row m 94 (M 94)) (tu_rr M 92 (M 92) (tu_u (M 92) i9 c)))) ?_
    refine tu_aload_n 17 X 0 dX4_takesIn_17 rfl ?_
    refine tu_getR 18 X dX4_takesIn_18 fl_RX4_31 (by decide) rfl rfl ?_
    refine tu_iload_n 21 X 1 dX4_takesIn_21 rfl ?_
    refine tu_iconst 22 X dX4_takesIn_22 ?_
    refine tu_iast 23 X (M' := tu_row (tu_row M 92 (tu_u (M 92) i9 c)) 94 (tu_u (M 94) i9 0)) i9 dX4_takesIn_23 (by decide) rfl (by decide) (by omega) (by omega) (tu_rr (tu_row M 92 (tu_u (M 92) i9 c)) 94 (M 94) (tu_u (M 94) i9 0)) ?_
    refine tu_jmp [0, 1, 2, 3] (lv' := [(0, tu_r 86), (1, tu_i ((i9 : Nat) : Int)), (2, tu_i c), (3, tu_i ((j9 : Nat) : Int))]) ⟨rfl, rfl, rfl, rfl, trivial⟩ rfl (lp24 (tu_u (M 92) i9 c) (tu_u (M 94) i9 0) (by first | rw [tu_u_x (show min c (M 92 i9) = M 92 i9 from by omega)] | rw [show min c (M 92 i9) = c from by omega]) (by first | rw [if_pos (by omega)] | rw [if_neg (by omega), tu_u_x rfl]))
