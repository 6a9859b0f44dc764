set_option maxRecDepth 20000 in
set_option maxHeartbeats 4000000 in
/-- the loop over the script -/
theorem tl_loop {T : tu_T} (X : tu_X T cL_law RL 10 364) (hnl : T.2.2.2.2.2.2.2.2.2.2.1 = 4) {L : Nat} {xs : Nat → Int32} (hX : tw_SC T L xs) (hL : L ≤ 2560) (hfin : ∀ (lv : List (Nat × tu_v)) (N : tu_M), tu_W T 1039 lv [tu_i 1] N) : ∀ (d i : Nat) (M : tu_M), L ≤ i + d → i ≤ L → tw_I M → tu_W T 18 (tw_lv i) [] M := by
  intro d
  induction d with
  | zero =>
    intro i M hd hi0 hI
    refine tu_iload_n 18 X 0 dL_law_18 rfl ?_
    refine tu_aload_n 19 X 3 dL_law_19 rfl ?_
    refine tw_slen 20 X hX dL_law_20 ?_
    refine tu_iconst 21 X dL_law_21 ?_
    refine tu_isub 22 X dL_law_22 ?_
    refine tu_icmp_gt 23 X 1038 dL_law_23 (by decide) ⟨by omega, by omega⟩ ⟨by omega, by omega⟩ (fun br => ?_) (fun br => ?_)
    · refine tu_iconst 1038 X dL_law_1038 ?_
      exact hfin _ _
    · exfalso; omega
  | succ d ih =>
    intro i M hd hi0 hI
    refine tu_iload_n 18 X 0 dL_law_18 rfl ?_
    refine tu_aload_n 19 X 3 dL_law_19 rfl ?_
    refine tw_slen 20 X hX dL_law_20 ?_
    refine tu_iconst 21 X dL_law_21 ?_
    refine tu_isub 22 X dL_law_22 ?_
    refine tu_icmp_gt 23 X 1038 dL_law_23 (by decide) ⟨by omega, by omega⟩ ⟨by omega, by omega⟩ (fun br => ?_) (fun br => ?_)
    · refine tu_iconst 1038 X dL_law_1038 ?_
      exact hfin _ _
    · have hi : i + 5 ≤ L := by omega
      have next : ∀ N, tw_I N → tu_W T 1032 (tw_lv i) [] N := fun N hN => by
        refine tu_iinc 1032 X 0 dL_law_1032 rfl (by rw [hnl]; decide) rfl ?_
        refine tu_goto 1035 X 18 dL_law_1035 (by decide) ?_
        exact tu_jmp (lv' := tw_lv (i + 5)) [0, 1, 2, 3] ⟨tu_ei (by omega), rfl, rfl, rfl, trivial⟩ rfl (ih (i + 5) N (by omega) hi hN)
      refine tu_aload_n 26 X 3 dL_law_26 rfl ?_
      refine tu_iload_n 27 X 0 dL_law_27 rfl ?_
      refine tw_sld 28 X hX i dL_law_28 rfl (by omega) hL ?_
      refine tu_bipush 29 X dL_law_29 (by decide) ?_
      refine tu_iand 31 X dL_law_31 ?_
      have hz : tu_rg (tu_and (xs i).toInt 31) := tu_rg_t _
      generalize tu_and (xs i).toInt 31 = z at hz ⊢
      rcases (show z = 0 ∨ z = 1 ∨ z = 2 ∨ z = 3 ∨ z = 4 ∨ z = 5 ∨ z = 6 ∨ z = 7 ∨ z = 8 ∨ z = 9 ∨ z = 10 ∨ z = 11 ∨ z = 12 ∨ z = 13 ∨ z = 14 ∨ z = 15 ∨ z = 16 ∨ z = 17 ∨ z = 18 ∨ z = 19 ∨ z = 20 ∨ z = 21 ∨ z = 22 ∨ z = 23 ∨ z = 24 ∨ z = 25 ∨ z = 26 ∨ z = 27 ∨ (z < 0 ∨ 27 < z) by omega) with br | br | br | br | br | br | br | br | br | br | br | br | br | br | br | br | br | br | br | br | br | br | br | br | br | br | br | br | br
      · refine tu_tabIn 32 X 160 dL_law_32 hz (by omega) (by omega) (by rw [br]; rfl) (by decide) ?_
        exact tl_0 X hX hi hL hI next
      · refine tu_tabIn 32 X 193 dL_law_32 hz (by omega) (by omega) (by rw [br]; rfl) (by decide) ?_
        exact tl_1 X hX hi hL hI next
      · refine tu_tabIn 32 X 206 dL_law_32 hz (by omega) (by omega) (by rw [br]; rfl) (by decide) ?_
        exact tl_2 X hX hi hL hI next
      · refine tu_tabIn 32 X 229 dL_law_32 hz (by omega) (by omega) (by rw [br]; rfl) (by decide) ?_
        exact tl_3 X hX hi hL hI next
      · refine tu_tabIn 32 X 252 dL_law_32 hz (by omega) (by omega) (by rw [br]; rfl) (by decide) ?_
        exact tl_4 X hX hi hL hI next
      · refine tu_tabIn 32 X 311 dL_law_32 hz (by omega) (by omega) (by rw [br]; rfl) (by decide) ?_
        exact tl_5 X hX hi hL hI next
      · refine tu_tabIn 32 X 354 dL_law_32 hz (by omega) (by omega) (by rw [br]; rfl) (by decide) ?_
        exact tl_6 X hX hi hL hI next
      · refine tu_tabIn 32 X 377 dL_law_32 hz (by omega) (by omega) (by rw [br]; rfl) (by decide) ?_
        exact tl_7 X hX hi hL hI next
      · refine tu_tabIn 32 X 400 dL_law_32 hz (by omega) (by omega) (by rw [br]; rfl) (by decide) ?_
        exact tl_8 X hX hi hL hI next
      · refine tu_tabIn 32 X 443 dL_law_32 hz (by omega) (by omega) (by rw [br]; rfl) (by decide) ?_
        exact tl_9 X hX hi hL hI next
      · refine tu_tabIn 32 X 482 dL_law_32 hz (by omega) (by omega) (by rw [br]; rfl) (by decide) ?_
        exact tl_10 X hX hi hL hI next
      · refine tu_tabIn 32 X 515 dL_law_32 hz (by omega) (by omega) (by rw [br]; rfl) (by decide) ?_
        exact tl_11 X hX hi hL hI next
      · refine tu_tabIn 32 X 548 dL_law_32 hz (by omega) (by omega) (by rw [br]; rfl) (by decide) ?_
        exact tl_12 X hX hi hL hI next
      · refine tu_tabIn 32 X 581 dL_law_32 hz (by omega) (by omega) (by rw [br]; rfl) (by decide) ?_
        exact tl_13 X hX hi hL hI next
      · refine tu_tabIn 32 X 614 dL_law_32 hz (by omega) (by omega) (by rw [br]; rfl) (by decide) ?_
        exact tl_14 X hX hi hL hI next
      · refine tu_tabIn 32 X 637 dL_law_32 hz (by omega) (by omega) (by rw [br]; rfl) (by decide) ?_
        exact tl_15 X hX hi hL hI next
      · refine tu_tabIn 32 X 686 dL_law_32 hz (by omega) (by omega) (by rw [br]; rfl) (by decide) ?_
        exact tl_16 X hX hi hL hI next
      · refine tu_tabIn 32 X 729 dL_law_32 hz (by omega) (by omega) (by rw [br]; rfl) (by decide) ?_
        exact tl_17 X hX hi hL hI next
      · refine tu_tabIn 32 X 782 dL_law_32 hz (by omega) (by omega) (by rw [br]; rfl) (by decide) ?_
        exact tl_18 X hX hi hL hI next
      · refine tu_tabIn 32 X 805 dL_law_32 hz (by omega) (by omega) (by rw [br]; rfl) (by decide) ?_
        exact tl_19 X hX hi hL hI next
      · refine tu_tabIn 32 X 818 dL_law_32 hz (by omega) (by omega) (by rw [br]; rfl) (by decide) ?_
        exact tl_20 X hX hi hL hI next
      · refine tu_tabIn 32 X 861 dL_law_32 hz (by omega) (by omega) (by rw [br]; rfl) (by decide) ?_
        exact tl_21 X hX hi hL hI next
      · refine tu_tabIn 32 X 894 dL_law_32 hz (by omega) (by omega) (by rw [br]; rfl) (by decide) ?_
        exact tl_22 X hX hi hL hI next
      · refine tu_tabIn 32 X 947 dL_law_32 hz (by omega) (by omega) (by rw [br]; rfl) (by decide) ?_
        exact tl_23 X hX hi hL hI next
      · refine tu_tabIn 32 X 960 dL_law_32 hz (by omega) (by omega) (by rw [br]; rfl) (by decide) ?_
        exact tl_24 X hX hi hL hI next
      · refine tu_tabIn 32 X 973 dL_law_32 hz (by omega) (by omega) (by rw [br]; rfl) (by decide) ?_
        exact tl_25 X hX hi hL hI next
      · refine tu_tabIn 32 X 986 dL_law_32 hz (by omega) (by omega) (by rw [br]; rfl) (by decide) ?_
        exact tl_26 X hX hi hL hI next
      · refine tu_tabIn 32 X 1009 dL_law_32 hz (by omega) (by omega) (by rw [br]; rfl) (by decide) ?_
        exact tl_27 X hX hi hL hI next
      · refine tu_tabOut 32 X 1032 dL_law_32 hz br (by decide) ?_
        exact next M hI
