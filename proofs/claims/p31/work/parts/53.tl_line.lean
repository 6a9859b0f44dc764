set_option maxRecDepth 20000 in
set_option maxHeartbeats 1000000 in
theorem tl_line {T : tu_T} (X : tu_X T cL_law RL 9 344) (hnl : T.2.2.2.2.2.2.2.2.2.2.1 = 18) {M : tu_M} (hJ : tz_J M) (hw0 : M 9 1 = 0) {i8 : Nat} {y8 : Int}  (hN6 : M 1 1 < 6) (lp1576 : ∀ (Mz : tu_M), (tz_J Mz) → tu_W T 1576 [(0, tu_r 100), (1, tu_r 0), (2, tu_r 86), (3, tu_r 87), (4, tu_r 88), (5, tu_r 89), (6, tu_r 90), (7, tu_r 91), (8, tu_i ((i8 : Nat) : Int)), (10, tu_i y8)] [] Mz) : tu_W T 184 [(0, tu_r 100), (1, tu_r 0), (2, tu_r 86), (3, tu_r 87), (4, tu_r 88), (5, tu_r 89), (6, tu_r 90), (7, tu_r 91), (8, tu_i ((i8 : Nat) : Int)), (10, tu_i y8)] [] M := by
  have hR := hJ.1
  have hB := hR.ok
  have cn := hB.cnt
  have hsm := hR.small
  have q4 := hR.q4
  have hqs := hR.qs
  obtain ⟨NL, eL⟩ : ∃ c : Nat, M 1 1 = (c : Int) := ⟨(M 1 1).toNat, by omega⟩
  obtain ⟨NP, eP⟩ : ∃ c : Nat, M 1 4 = (c : Int) := ⟨(M 1 4).toNat, by omega⟩
  obtain ⟨NB, eB⟩ : ∃ c : Nat, M 1 7 = (c : Int) := ⟨(M 1 7).toNat, by omega⟩
  obtain ⟨NT, eT⟩ : ∃ c : Nat, M 1 9 = (c : Int) := ⟨(M 1 9).toNat, by omega⟩
  refine tu_iconst 184 X dL_law_184 ?_
  refine tu_iload 185 X 9 dL_law_185 rfl ?_
  refine tu_iconst 187 X dL_law_187 ?_
  refine tu_st_eq (show _ = [tu_i ((5 : Nat) : Int), tu_i y8, tu_i 1] from by first | rfl | (simp only [List.cons.injEq, Sum.inl.injEq, and_true, true_and]; omega)) rfl ?_
  refine tu_callSI 188 X (st := [tu_i 1]) (as := [tu_i y8, tu_i ((5 : Nat) : Int)]) (c_L_low y8 5 (show 0 < 5 ∧ 5 < 2147483648 from by first | assumption | omega | exact ⟨by omega, by omega⟩ | decide)) ss_RL_61 dL_law_188 rfl (Nat.le_of_ble_eq_true rfl) ⟨by decide, by decide⟩ (fun z M' h => ?_)
  obtain ⟨j_188, hM188, h188_0, hz188⟩ := h
  refine tu_st_eq rfl (M' := M) hM188 ?_
  refine tu_tp (b := ((j_188 : Nat) : Int)) hz188 ?_
  refine tu_iadd 191 X dL_law_191 ?_
  refine tu_istore 192 X (lv' := [(14, tu_i (1 + ((j_188 : Nat) : Int))), (0, tu_r 100), (1, tu_r 0), (2, tu_r 86), (3, tu_r 87), (4, tu_r 88), (5, tu_r 89), (6, tu_r 90), (7, tu_r 91), (8, tu_i ((i8 : Nat) : Int)), (10, tu_i y8)]) dL_law_192 (by rw [hnl]; decide) rfl ?_
  refine tu_iconst 194 X dL_law_194 ?_
  refine tu_aload 195 X 7 dL_law_195 rfl ?_
  refine tu_iconst 197 X dL_law_197 ?_
  refine tu_dup2 198 X dL_law_198 rfl rfl ?_
  refine tu_iald 199 X (x := M 90 4) 4 dL_law_199 (by decide) rfl (by decide) rfl (by decide) rfl ?_
  refine tu_tp (b := ((NL : Nat) : Int)) (by rw [q4.1]; exact eL) ?_
  refine tu_dup_x2 200 X dL_law_200 rfl rfl rfl ?_
  refine tu_iconst 201 X dL_law_201 ?_
  refine tu_iadd 202 X dL_law_202 ?_
  refine tu_iast 203 X (M' := tu_row M 90 (tu_u (M 90) 4 (((NL : Nat) : Int) + 1))) 4 dL_law_203 (by decide) rfl (by decide) rfl (by decide) rfl ?_
  refine tu_imul 204 X dL_law_204 ?_
  refine tu_istore 205 X (lv' := [(15, tu_i (2 * ((NL : Nat) : Int))), (14, tu_i (1 + ((j_188 : Nat) : Int))), (0, tu_r 100), (1, tu_r 0), (2, tu_r 86), (3, tu_r 87), (4, tu_r 88), (5, tu_r 89), (6, tu_r 90), (7, tu_r 91), (8, tu_i ((i8 : Nat) : Int)), (10, tu_i y8)]) dL_law_205 (by rw [hnl]; decide) rfl ?_
  have hn5 : 1 ≤ 1 + j_188 ∧ 1 + j_188 ≤ 5 := by omega
  have hp5 := tz_shl1 (1 + j_188) hn5.2
  refine tu_aload_n 207 X 4 dL_law_207 rfl ?_
  refine tu_iload 208 X 0 dL_law_208 rfl ?_
  refine tu_iload 210 X 1 dL_law_210 rfl ?_
  refine tu_iast 212 X (M' := tu_row (tu_row M 86 (tu_u (M 86) (2 * NL) (1 + ((j_188 : Nat) : Int)))) 90 (tu_u (M 90) 4 (((NL : Nat) : Int) + 1))) (2 * NL) dL_law_212 (by decide) rfl (by decide) (by omega) (by omega) (tu_rc M (tu_u (M 90) 4 (((NL : Nat) : Int) + 1)) (tu_u (M 86) (2 * NL) (1 + ((j_188 : Nat) : Int))) rfl) ?_
  refine tu_aload_n 213 X 4 dL_law_213 rfl ?_
  refine tu_iload 214 X 0 dL_law_214 rfl ?_
  refine tu_iconst 216 X dL_law_216 ?_
  refine tu_iadd 217 X dL_law_217 ?_
  refine tu_iload 218 X 11 dL_law_218 rfl ?_
  refine tu_iconst 220 X dL_law_220 ?_
  refine tu_ishr 221 X dL_law_221 ?_
  refine tu_iconst 222 X dL_law_222 ?_
  refine tu_iload 223 X 1 dL_law_223 rfl ?_
  refine tu_ishl 225 X dL_law_225 ?_
  refine tu_tp (b := ((2 ^ (1 + j_188) : Nat) : Int)) (by exact hp5.1) ?_
  refine tu_st_eq (show _ = [tu_i (((2 ^ (1 + j_188)) : Nat) : Int), tu_i (tu_shr y8 4), tu_i ((2 * ((NL : Nat) : Int)) + 1), tu_r 86] from by first | rfl | (simp only [List.cons.injEq, Sum.inl.injEq, and_true, true_and]; omega)) rfl ?_
  refine tu_callSI 226 X (st := [tu_i ((2 * ((NL : Nat) : Int)) + 1), tu_r 86]) (as := [tu_i (tu_shr y8 4), tu_i (((2 ^ (1 + j_188)) : Nat) : Int)]) (c_L_low (tu_shr y8 4) (2 ^ (1 + j_188)) (show 0 < (2 ^ (1 + j_188)) ∧ (2 ^ (1 + j_188)) < 2147483648 from by omega)) ss_RL_61 dL_law_226 rfl (Nat.le_of_ble_eq_true rfl) ⟨by decide, by decide⟩ (fun z M' h => ?_)
  obtain ⟨j_226, hM226, h226_0, hz226⟩ := h
  refine tu_st_eq rfl (M' := tu_row (tu_row M 86 (tu_u (M 86) (2 * NL) (1 + ((j_188 : Nat) : Int)))) 90 (tu_u (M 90) 4 (((NL : Nat) : Int) + 1))) hM226 ?_
  refine tu_tp (b := ((j_226 : Nat) : Int)) hz226 ?_
  refine tu_iast 229 X (M' := tu_row (tu_row M 86 (tu_u (tu_u (M 86) (2 * NL) (1 + ((j_188 : Nat) : Int))) ((2 * NL) + 1) ((j_226 : Nat) : Int))) 90 (tu_u (M 90) 4 (((NL : Nat) : Int) + 1))) ((2 * NL) + 1) dL_law_229 (by decide) rfl (by decide) (by omega) (by omega) ((tu_rc (tu_row M 86 (tu_u (M 86) (2 * NL) (1 + ((j_188 : Nat) : Int)))) (tu_u (M 90) 4 (((NL : Nat) : Int) + 1)) (tu_u (tu_u (M 86) (2 * NL) (1 + ((j_188 : Nat) : Int))) ((2 * NL) + 1) ((j_226 : Nat) : Int)) rfl).trans (congrArg (fun m => tu_row m 90 (tu_u (M 90) 4 (((NL : Nat) : Int) + 1))) (tu_rr M 86 (tu_u (M 86) (2 * NL) (1 + ((j_188 : Nat) : Int))) (tu_u (tu_u (M 86) (2 * NL) (1 + ((j_188 : Nat) : Int))) ((2 * NL) + 1) ((j_226 : Nat) : Int))))) ?_
  obtain ⟨M9, hM9⟩ : ∃ m99 : tu_M, m99 = tu_row (tu_row M 86 (tu_u (tu_u (M 86) (2 * NL) (1 + ((j_188 : Nat) : Int))) ((2 * NL) + 1) ((j_226 : Nat) : Int))) 90 (tu_u (M 90) 4 (((NL : Nat) : Int) + 1)) := ⟨_, rfl⟩
  refine tu_st_eq rfl (M' := M9) hM9.symm ?_
  have e91 : M9 9 1 = 0 := by rw [hM9, tu_row_n _ _ (by decide), tu_row_n _ _ (by decide)]; exact hw0
  refine tu_iconst 230 X dL_law_230 ?_
  refine tu_istore 231 X (lv' := [(16, tu_i 0), (15, tu_i (2 * ((NL : Nat) : Int))), (14, tu_i (1 + ((j_188 : Nat) : Int))), (0, tu_r 100), (1, tu_r 0), (2, tu_r 86), (3, tu_r 87), (4, tu_r 88), (5, tu_r 89), (6, tu_r 90), (7, tu_r 91), (8, tu_i ((i8 : Nat) : Int)), (10, tu_i y8)]) dL_law_231 (by rw [hnl]; decide) rfl ?_
  have lp233 : ∀ (nq : Nat) (k9 : Nat) (Mp : tu_M), (k9 ≤ 1 + j_188) → (tz_pl M9 Mp ((j_226 : Nat) : Int) k9) → 1 + j_188 - k9 < nq → tu_W T 233 [(0, tu_r 100), (1, tu_r 0), (2, tu_r 86), (3, tu_r 87), (4, tu_r 88), (5, tu_r 89), (6, tu_r 90), (7, tu_r 91), (8, tu_i ((i8 : Nat) : Int)), (10, tu_i y8), (14, tu_i (1 + ((j_188 : Nat) : Int))), (15, tu_i (2 * ((NL : Nat) : Int))), (16, tu_i ((k9 : Nat) : Int))] [] Mp := by
    intro nq
    induction nq with
    | zero => intros; omega
    | succ nq ih233 =>
      intro k9 Mp hk9 hpl hn233
      refine tu_iload 233 X 12 dL_law_233 rfl ?_
      refine tu_iload 235 X 10 dL_law_235 rfl ?_
      refine tu_icmp_ge 237 X 283 dL_law_237 (by decide) (show tu_rg ((k9 : Nat) : Int) from by first | assumption | exact ⟨by omega, by omega⟩) (show tu_rg (1 + ((j_188 : Nat) : Int)) from by first | assumption | exact ⟨by omega, by omega⟩) (fun br237 => ?_) (fun br237 => ?_)
      ·
        have hk5 : k9 = 1 + j_188 := by omega
        have hx9 : ∀ i, i < 86 → i ≠ 9 → i ≠ 10 → Mp i = M i := fun i a b c => (hpl.1 i b c).trans (by rw [hM9, tu_row_n _ _ (by omega), tu_row_n _ _ (by omega)])
        refine tu_aload_n 283 X 1 dL_law_283 rfl ?_
        refine tu_callVI 284 X (st := []) (as := []) (c_X3_fault  (show 0 ≤ Mp 9 1 ∧ Mp 9 1 ≤ 60 from by rw [hpl.2.1]; omega) (show ∀ k : Nat, (k : Int) < Mp 9 1 → tu_rg (Mp 10 k) from by exact hpl.rg)) sv_RL_86 dL_law_284 rfl (by decide) rfl rfl rfl (Nat.le_of_ble_eq_true rfl) ⟨by decide, by decide⟩ (fun z M' h => ?_)
        obtain ⟨w_284, hM284, h284_0, hz284⟩ := h
        refine tu_st_eq rfl (M' := Mp) hM284 ?_
        refine tu_tp (b := w_284) hz284 ?_
        have f284 : w_284 = -6 := by
          rw [hpl.2.1, Int.toNat_natCast] at h284_0
          refine tz_lx_ft (n := k9) (by omega) (fun j hj => ?_) h284_0
          rw [hpl.2.2 j hj]
          split
          · exact Or.inl rfl
          · exact Or.inr rfl
        refine tu_bipush 287 X dL_law_287 (by decide) ?_
        refine tu_icmp_ne 289 X 303 dL_law_289 (by decide) (show tu_rg w_284 from by first | assumption | exact ⟨by omega, by omega⟩) ⟨by decide, by decide⟩ (fun br289 => ?_) (fun br289 => ?_)
        ·
          exfalso; omega
        ·
          refine tu_aload_n 292 X 1 dL_law_292 rfl ?_
          refine tu_callVI 293 X (st := []) (as := []) (c_X3_write  (show tu_OK Mp from by exact tz_ok9 hx9 hB) (show tu_HS Mp from by exact tz_hs9 hx9 hJ.2) (show 0 ≤ Mp 9 1 ∧ Mp 9 1 ≤ 60 from by rw [hpl.2.1]; omega) (show ∀ k : Nat, (k : Int) < Mp 9 1 → tu_rg (Mp 10 k) from by exact hpl.rg)) sv_RL_89 dL_law_293 rfl (by decide) rfl rfl rfl (Nat.le_of_ble_eq_true rfl) ⟨by decide, by decide⟩ (fun z N293 h => ?_)
          obtain ⟨y_293, h293_0, hz293⟩ := h
          refine tu_tp (b := y_293) hz293 ?_
          obtain ⟨hJ2, hy1⟩ := tz_writeL hJ hx9 (n := k9) (S := ((j_226 : Nat) : Int)) eL (by omega) (by omega) hpl.2.1 hpl.2.2 ⟨by omega, by omega⟩ (by rw [hk5]; exact tz_mk_S hn5.2 h226_0) h293_0 (by rw [hpl.1 86 (by decide) (by decide), hM9, hk5]; rfl) (by rw [hpl.1 87 (by decide) (by decide), hM9]; rfl) (by rw [hpl.1 88 (by decide) (by decide), hM9]; rfl) (by rw [hpl.1 89 (by decide) (by decide), hM9]; rfl) (by rw [hpl.1 90 (by decide) (by decide), hM9]; rfl)
          have e90 : N293 90 4 = ((NL : Nat) : Int) + 1 := by rw [hJ2.2, hpl.1 90 (by decide) (by decide), hM9, tu_row_s, tu_u_s]
          refine tu_aload 296 X 6 dL_law_296 rfl ?_
          refine tu_iconst 298 X dL_law_298 ?_
          refine tu_iald 299 X (x := N293 90 4) 4 dL_law_299 (by decide) rfl (by decide) rfl (by decide) rfl ?_
          refine tu_tp (b := (((NL : Nat) : Int) + 1)) (by exact e90) ?_
          refine tu_icmp_eq 300 X 305 dL_law_300 (by decide) (show tu_rg y_293 from by first | assumption | exact ⟨by omega, by omega⟩) (show tu_rg (((NL : Nat) : Int) + 1) from by first | assumption | exact ⟨by omega, by omega⟩) (fun br300 => ?_) (fun br300 => ?_)
          ·
            refine tu_goto 305 X 1576 dL_law_305 (by decide) ?_
            refine tu_jmp [0, 1, 2, 3, 4, 5, 6, 7, 8, 9] (lv' := [(0, tu_r 100), (1, tu_r 0), (2, tu_r 86), (3, tu_r 87), (4, tu_r 88), (5, tu_r 89), (6, tu_r 90), (7, tu_r 91), (8, tu_i ((i8 : Nat) : Int)), (10, tu_i y8)]) ⟨rfl, rfl, rfl, rfl, rfl, rfl, rfl, rfl, rfl, rfl, trivial⟩ rfl (lp1576 N293 (by exact hJ2.1))
          ·
            exfalso; omega
      ·
        have b01 := tu_bi_01 ((j_226 : Nat) : Int) k9
        refine tu_aload_n 240 X 1 dL_law_240 rfl ?_
        refine tu_aload_n 241 X 2 dL_law_241 rfl ?_
        refine tu_iload 242 X 11 dL_law_242 rfl ?_
        refine tu_iconst 244 X dL_law_244 ?_
        refine tu_iadd 245 X dL_law_245 ?_
        refine tu_iald 246 X (x := Mp 86 ((2 * NL) + 1)) ((2 * NL) + 1) dL_law_246 (by decide) rfl (by decide) (by omega) (by omega) rfl ?_
        refine tu_tp (b := ((j_226 : Nat) : Int)) (by rw [hpl.1 86 (by decide) (by decide), hM9]; exact tu_u_s _ _ _) ?_
        refine tu_iload 247 X 12 dL_law_247 rfl ?_
        refine tu_ishr 249 X dL_law_249 ?_
        refine tu_iconst 250 X dL_law_250 ?_
        refine tu_iand 251 X dL_law_251 ?_
        refine tu_tp (b := (tu_bi ((j_226 : Nat) : Int) k9)) (by exact tu_bit1 _ (by omega)) ?_
        refine tu_iconst 252 X dL_law_252 ?_
        refine tu_icmp_ne 253 X 262 dL_law_253 (by decide) (show tu_rg (tu_bi ((j_226 : Nat) : Int) k9) from by first | assumption | exact ⟨by omega, by omega⟩) ⟨by decide, by decide⟩ (fun br253 => ?_) (fun br253 => ?_)
        ·
          refine tu_ldc2 262 X (n := 120) dL_law_262 kw_RL_80 (by decide) ?_
          refine tu_callVI 265 X (st := []) (as := [tu_l 120]) (c_X3_put 120 (show 0 ≤ Mp 9 1 ∧ Mp 9 1 ≤ 60 from by rw [hpl.2.1]; omega) (show 120 < 18446744073709551616 from by decide)) sv_RL_82 dL_law_265 rfl (by decide) rfl rfl rfl (Nat.le_of_ble_eq_true rfl) ⟨by decide, by decide⟩ (fun z N265 h => ?_)
          obtain ⟨y_265, h265_0, hz265⟩ := h
          refine tu_tp (b := y_265) hz265 ?_
          obtain ⟨hm5, hy1⟩ := tz_put (by decide) hpl.2.1 (by omega) h265_0
          have hpl := tz_pl_s hpl hm5 (by first | (rw [if_pos (by omega)]; rfl) | (rw [if_neg (by omega)]; rfl))
          refine tu_iload 268 X 12 dL_law_268 rfl ?_
          refine tu_iconst 270 X dL_law_270 ?_
          refine tu_iadd 271 X dL_law_271 ?_
          refine tu_icmp_eq 272 X 277 dL_law_272 (by decide) (show tu_rg y_265 from by first | assumption | exact ⟨by omega, by omega⟩) (show tu_rg (((k9 : Nat) : Int) + 1) from by first | assumption | exact ⟨by omega, by omega⟩) (fun br272 => ?_) (fun br272 => ?_)
          ·
            refine tu_iinc 277 X (lv' := [(16, tu_i (((k9 : Nat) : Int) + 1)), (0, tu_r 100), (1, tu_r 0), (2, tu_r 86), (3, tu_r 87), (4, tu_r 88), (5, tu_r 89), (6, tu_r 90), (7, tu_r 91), (8, tu_i ((i8 : Nat) : Int)), (10, tu_i y8), (14, tu_i (1 + ((j_188 : Nat) : Int))), (15, tu_i (2 * ((NL : Nat) : Int)))]) 12 dL_law_277 rfl (by rw [hnl]; decide) rfl ?_
            refine tu_goto 280 X 233 dL_law_280 (by decide) ?_
            refine tu_jmp [1, 2, 3, 4, 5, 6, 7, 8, 9, 10, 11, 12, 0] (lv' := [(0, tu_r 100), (1, tu_r 0), (2, tu_r 86), (3, tu_r 87), (4, tu_r 88), (5, tu_r 89), (6, tu_r 90), (7, tu_r 91), (8, tu_i ((i8 : Nat) : Int)), (10, tu_i y8), (14, tu_i (1 + ((j_188 : Nat) : Int))), (15, tu_i (2 * ((NL : Nat) : Int))), (16, tu_i (((k9 + 1) : Nat) : Int))]) ⟨rfl, rfl, rfl, rfl, rfl, rfl, rfl, rfl, rfl, rfl, rfl, rfl, tu_ei (by first | rfl | omega), trivial⟩ rfl (ih233 (k9 + 1) N265 (by omega) (by exact hpl) (by omega))
          ·
            exfalso; omega
        ·
          refine tu_ldc2 256 X (n := 88) dL_law_256 kw_RL_78 (by decide) ?_
          refine tu_goto 259 X 265 dL_law_259 (by decide) ?_
          refine tu_callVI 265 X (st := []) (as := [tu_l 88]) (c_X3_put 88 (show 0 ≤ Mp 9 1 ∧ Mp 9 1 ≤ 60 from by rw [hpl.2.1]; omega) (show 88 < 18446744073709551616 from by decide)) sv_RL_82 dL_law_265 rfl (by decide) rfl rfl rfl (Nat.le_of_ble_eq_true rfl) ⟨by decide, by decide⟩ (fun z N265 h => ?_)
          obtain ⟨y_265, h265_0, hz265⟩ := h
          refine tu_tp (b := y_265) hz265 ?_
          obtain ⟨hm5, hy1⟩ := tz_put (by decide) hpl.2.1 (by omega) h265_0
          have hpl := tz_pl_s hpl hm5 (by first | (rw [if_pos (by omega)]; rfl) | (rw [if_neg (by omega)]; rfl))
          refine tu_iload 268 X 12 dL_law_268 rfl ?_
          refine tu_iconst 270 X dL_law_270 ?_
          refine tu_iadd 271 X dL_law_271 ?_
          refine tu_icmp_eq 272 X 277 dL_law_272 (by decide) (show tu_rg y_265 from by first | assumption | exact ⟨by omega, by omega⟩) (show tu_rg (((k9 : Nat) : Int) + 1) from by first | assumption | exact ⟨by omega, by omega⟩) (fun br272 => ?_) (fun br272 => ?_)
          ·
            refine tu_iinc 277 X (lv' := [(16, tu_i (((k9 : Nat) : Int) + 1)), (0, tu_r 100), (1, tu_r 0), (2, tu_r 86), (3, tu_r 87), (4, tu_r 88), (5, tu_r 89), (6, tu_r 90), (7, tu_r 91), (8, tu_i ((i8 : Nat) : Int)), (10, tu_i y8), (14, tu_i (1 + ((j_188 : Nat) : Int))), (15, tu_i (2 * ((NL : Nat) : Int)))]) 12 dL_law_277 rfl (by rw [hnl]; decide) rfl ?_
            refine tu_goto 280 X 233 dL_law_280 (by decide) ?_
            refine tu_jmp [1, 2, 3, 4, 5, 6, 7, 8, 9, 10, 11, 12, 0] (lv' := [(0, tu_r 100), (1, tu_r 0), (2, tu_r 86), (3, tu_r 87), (4, tu_r 88), (5, tu_r 89), (6, tu_r 90), (7, tu_r 91), (8, tu_i ((i8 : Nat) : Int)), (10, tu_i y8), (14, tu_i (1 + ((j_188 : Nat) : Int))), (15, tu_i (2 * ((NL : Nat) : Int))), (16, tu_i (((k9 + 1) : Nat) : Int))]) ⟨rfl, rfl, rfl, rfl, rfl, rfl, rfl, rfl, rfl, rfl, rfl, rfl, tu_ei (by first | rfl | omega), trivial⟩ rfl (ih233 (k9 + 1) N265 (by omega) (by exact hpl) (by omega))
          ·
            exfalso; omega
  refine tu_jmp [3, 4, 5, 6, 7, 8, 9, 10, 11, 12, 2, 1, 0] (lv' := [(0, tu_r 100), (1, tu_r 0), (2, tu_r 86), (3, tu_r 87), (4, tu_r 88), (5, tu_r 89), (6, tu_r 90), (7, tu_r 91), (8, tu_i ((i8 : Nat) : Int)), (10, tu_i y8), (14, tu_i (1 + ((j_188 : Nat) : Int))), (15, tu_i (2 * ((NL : Nat) : Int))), (16, tu_i 0)]) ⟨rfl, rfl, rfl, rfl, rfl, rfl, rfl, rfl, rfl, rfl, rfl, rfl, rfl, trivial⟩ rfl (lp233 ((1 + j_188 - 0) + 1) 0 M9 (by omega) (by exact ⟨fun _ _ _ => rfl, e91, fun j hj => absurd hj (Nat.not_lt_zero j)⟩) (by omega))
