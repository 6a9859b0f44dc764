/-! THE LAW: the script is the cell 100, outside of the world -/
def tw_SC (T : tu_T) (L : Nat) (xs : Nat → Int32) : Prop := match T with
  | (_, _, _, _, s, _, _, _, _, _, _, _, ad, _, _, _) => va_X (ad 100) L xs s s.heap ∧ ad 100 < s.heap.size ∧ ¬ tu_A ad (ad 100)
abbrev tw_lv (i : Nat) : List (Nat × tu_v) := [(3, tu_i ((i : Nat) : Int)), (2, tu_r 86), (1, tu_r 0), (0, tu_r 100)]
section TWL
variable {T : tu_T} {cc : ByteArray} {own : String} {fr lo : Nat} {lv : List (Nat × tu_v)} {st : List tu_v} {M : tu_M}
theorem tw_sld (pc : Nat) (X : tu_X T cc own fr lo) {L : Nat} {xs : Nat → Int32} (hX : tw_SC T L xs) {j : Int} (q : Nat) (hd : decode cc pc = .ok (.iaload, 1)) (hj : j = (q : Int)) (hq : q < L) (hL : L ≤ 2560)
    (kk : tu_W T (pc + 1) lv (tu_i (xs q).toInt :: st) M) : tu_W T pc lv (tu_i j :: tu_r 100 :: st) M := by
  obtain ⟨p, l, e, R, s, m, args, below, meth, c, nL, g, ad, kc, ks, Q⟩ := T
  obtain ⟨hx, hb, hml, hown, hts, hK, hI, hst, hfr, hlo, hkc, hks⟩ := X
  intro H locs ls hP hS hl
  have h := kk H locs ls hP hS hl
  rw [show (tu_i (xs q).toInt :: st).map (tu_vl ad) = _ from tu_raw] at h
  refine va_sld (b := ad 100) hx hb hX.1 hX.2.1 hX.2.2 hS (tu_in hj hq (by omega)) hd ?_
  rw [tu_cl hj hq (by omega)]
  exact h
theorem tw_slen (pc : Nat) (X : tu_X T cc own fr lo) {L : Nat} {xs : Nat → Int32} (hX : tw_SC T L xs) (hd : decode cc pc = .ok (.arraylength, 1))
    (kk : tu_W T (pc + 1) lv (tu_i (L : Int) :: st) M) : tu_W T pc lv (tu_r 100 :: st) M := by
  obtain ⟨p, l, e, R, s, m, args, below, meth, c, nL, g, ad, kc, ks, Q⟩ := T
  obtain ⟨hx, hb, hml, hown, hts, hK, hI, hst, hfr, hlo, hkc, hks⟩ := X
  intro H locs ls hP hS hl
  have h := kk H locs ls hP hS hl
  refine va_slen (b := ad 100) hx hb hX.1 hX.2.1 hX.2.2 hS hd ?_
  have e9 : Int32.ofNat L = tu_J (L : Int) := by rw [tu_J_n]; rfl
  rw [e9]
  exact h
theorem tw_ieq (pc : Nat) (X : tu_X T cc own fr lo) {a b : Int} {off : Int} (tgt : Nat) (hd : decode cc pc = .ok (.if_icmp .eq off, 3)) (ht : (pc : Int) + off = (tgt : Int)) (hab : a = b)
    (kk : tu_W T tgt lv st M) : tu_W T pc lv (tu_i b :: tu_i a :: st) M := by
  obtain ⟨p, l, e, R, s, m, args, below, meth, c, nL, g, ad, kc, ks, Q⟩ := T
  obtain ⟨hx, hb, hml, hown, hts, hK, hI, hst, hfr, hlo, hkc, hks⟩ := X
  intro H locs ls hP hS hl
  subst hab
  exact lv_icmp_eq (tgt := tgt) hx hb hd ht (fun _ => kk H locs ls hP hS hl) (fun hc => absurd rfl hc)
def tw_sl (a : Nat) (b : Int) : Nat := tu_n64 (tu_K a <<< ((tu_J b).toInt64 &&& 63))
def tw_or (a b : Nat) : Nat := tu_n64 (tu_K a ||| tu_K b)
theorem tw_lshl (pc : Nat) (X : tu_X T cc own fr lo) {a : Nat} {b : Int} (hd : decode cc pc = .ok (.lshl, 1)) (kk : tu_W T (pc + 1) lv (tu_l (tw_sl a b) :: st) M) : tu_W T pc lv (tu_i b :: tu_l a :: st) M := by
  obtain ⟨p, l, e, R, s, m, args, below, meth, c, nL, g, ad, kc, ks, Q⟩ := T
  obtain ⟨hx, hb, hml, hown, hts, hK, hI, hst, hfr, hlo, hkc, hks⟩ := X
  intro H locs ls hP hS hl
  have h := kk H locs ls hP hS hl
  rw [show (tu_l (tw_sl a b) :: st).map (tu_vl ad) = _ from tu_rawL] at h
  exact lv_lshl hx hb hd rfl h
theorem tw_lor (pc : Nat) (X : tu_X T cc own fr lo) {a b : Nat} (hd : decode cc pc = .ok (.lor, 1)) (kk : tu_W T (pc + 1) lv (tu_l (tw_or a b) :: st) M) : tu_W T pc lv (tu_l b :: tu_l a :: st) M := by
  obtain ⟨p, l, e, R, s, m, args, below, meth, c, nL, g, ad, kc, ks, Q⟩ := T
  obtain ⟨hx, hb, hml, hown, hts, hK, hI, hst, hfr, hlo, hkc, hks⟩ := X
  intro H locs ls hP hS hl
  have h := kk H locs ls hP hS hl
  rw [show (tu_l (tw_or a b) :: st).map (tu_vl ad) = _ from tu_rawL] at h
  exact lv_lor hx hb hd h
end TWL
set_option maxRecDepth 20000 in
set_option maxHeartbeats 4000000 in
theorem tl_0 {T : tu_T} (X : tu_X T cL_law RL 10 364) {L : Nat} {xs : Nat → Int32} (hX : tw_SC T L xs) {i : Nat} (hi : i + 5 ≤ L) (hL : L ≤ 2560) {M : tu_M} (hI : tw_I M) (next : ∀ N, tw_I N → tu_W T 1032 (tw_lv i) [] N) : tu_W T 160 (tw_lv i) [] M := by
  refine tu_aload_n 160 X 2 dL_law_160 rfl ?_
  refine tu_aload_n 161 X 3 dL_law_161 rfl ?_
  refine tu_iload_n 162 X 0 dL_law_162 rfl ?_
  refine tu_iconst 163 X dL_law_163 ?_
  refine tu_iadd 164 X dL_law_164 ?_
  refine tw_sld 165 X hX (i + 1) dL_law_165 (by omega) (by omega) hL ?_
  refine tu_aload_n 166 X 3 dL_law_166 rfl ?_
  refine tu_iload_n 167 X 0 dL_law_167 rfl ?_
  refine tu_iconst 168 X dL_law_168 ?_
  refine tu_iadd 169 X dL_law_169 ?_
  refine tw_sld 170 X hX (i + 2) dL_law_170 (by omega) (by omega) hL ?_
  refine tu_callVI 171 X (st := []) (as := [tu_i ((xs (i + 1)).toInt), tu_i ((xs (i + 2)).toInt)]) (c_X3_set ((xs (i + 1)).toInt) ((xs (i + 2)).toInt) hI.hs (tu_rg_t _) (tu_rg_t _)) sv_RL_13 dL_law_171 rfl (by decide) rfl rfl rfl (Nat.le_of_ble_eq_true rfl) ⟨by decide, by decide⟩ (fun z1 M1 h1 => ?_)
  have h1 : tp_set M ((xs (i + 1)).toInt) ((xs (i + 2)).toInt) z1 M1 := h1
  have f := tf_set h1
  have hR : tu_MB (tu_cb M) (M1 87) := by rw [f 87 (by decide)]; exact hI.mb
  have hh : 0 ≤ M1 86 2 ∧ M1 86 2 ≤ 6 := by rw [f 86 (by decide), hI.e2]; exact hI.hs.2.1
  refine tu_aload_n 174 X 1 dL_law_174 rfl ?_
  refine tu_aload_n 175 X 3 dL_law_175 rfl ?_
  refine tu_iload_n 176 X 0 dL_law_176 rfl ?_
  refine tu_iconst 177 X dL_law_177 ?_
  refine tu_iadd 178 X dL_law_178 ?_
  refine tw_sld 179 X hX (i + 1) dL_law_179 (by omega) (by omega) hL ?_
  refine tu_aload_n 180 X 3 dL_law_180 rfl ?_
  refine tu_iload_n 181 X 0 dL_law_181 rfl ?_
  refine tu_iconst 182 X dL_law_182 ?_
  refine tu_iadd 183 X dL_law_183 ?_
  refine tw_sld 184 X hX (i + 2) dL_law_184 (by omega) (by omega) hL ?_
  refine tu_callVI 185 X (st := [tu_i z1]) (as := [tu_i ((xs (i + 1)).toInt), tu_i ((xs (i + 2)).toInt)]) (c_X4_set (tu_cb M) ((xs (i + 1)).toInt) ((xs (i + 2)).toInt) hI.ok hR hh (tu_rg_t _) (tu_rg_t _)) sv_RL_17 dL_law_185 rfl (by decide) rfl rfl rfl (Nat.le_of_ble_eq_true rfl) ⟨by decide, by decide⟩ (fun z2 M2 h2 => ?_)
  have h2 : tq_set M M1 ((xs (i + 1)).toInt) ((xs (i + 2)).toInt) z2 M2 := h2
  obtain ⟨e9, hI2⟩ := tw_set hI h1 h2
  refine tw_ieq 188 X 1032 dL_law_188 (by decide) e9 ?_
  exact next M2 hI2
set_option maxRecDepth 20000 in
set_option maxHeartbeats 4000000 in
theorem tl_1 {T : tu_T} (X : tu_X T cL_law RL 10 364) {L : Nat} {xs : Nat → Int32} (hX : tw_SC T L xs) {i : Nat} (hi : i + 5 ≤ L) (hL : L ≤ 2560) {M : tu_M} (hI : tw_I M) (next : ∀ N, tw_I N → tu_W T 1032 (tw_lv i) [] N) : tu_W T 193 (tw_lv i) [] M := by
  refine tu_aload_n 193 X 2 dL_law_193 rfl ?_
  refine tu_callVI 194 X (st := []) (as := []) (c_X3_write hI.ok hI.hs hI.pd.1 hI.pd.2.1) sv_RL_18 dL_law_194 rfl (by decide) rfl rfl rfl (Nat.le_of_ble_eq_true rfl) ⟨by decide, by decide⟩ (fun z1 M1 h1 => ?_)
  have h1 : tp_write M  z1 M1 := h1
  have f := tf_write h1
  have hR : tu_MB (tu_cb M) (M1 87) := by rw [f 87 (by decide)]; exact hI.mb
  have hh : 0 ≤ M1 86 2 ∧ M1 86 2 ≤ 6 := by rw [f 86 (by decide), hI.e2]; exact hI.hs.2.1
  have hp : 0 ≤ M1 86 6 ∧ M1 86 6 ≤ 60 := by rw [f 86 (by decide), hI.pd.2.2.1]; exact hI.pd.1
  have hr : ∀ k9 : Nat, (k9 : Int) < M1 86 6 → tu_rg (M1 91 k9) := fun k9 hk9 => by
    rw [f 86 (by decide), hI.pd.2.2.1] at hk9
    rw [f 91 (by decide), hI.pd.2.2.2 k9 hk9]
    exact hI.pd.2.1 k9 hk9
  refine tu_aload_n 197 X 1 dL_law_197 rfl ?_
  refine tu_callVI 198 X (st := [tu_i z1]) (as := []) (c_X4_write (tu_cb M) hI.ok hR hh hp hr) sv_RL_22 dL_law_198 rfl (by decide) rfl rfl rfl (Nat.le_of_ble_eq_true rfl) ⟨by decide, by decide⟩ (fun z2 M2 h2 => ?_)
  have h2 : tq_write M M1  z2 M2 := h2
  obtain ⟨e9, hI2⟩ := tw_write hI h1 h2
  refine tw_ieq 201 X 1032 dL_law_201 (by decide) e9 ?_
  exact next M2 hI2
set_option maxRecDepth 20000 in
set_option maxHeartbeats 4000000 in
theorem tl_2 {T : tu_T} (X : tu_X T cL_law RL 10 364) {L : Nat} {xs : Nat → Int32} (hX : tw_SC T L xs) {i : Nat} (hi : i + 5 ≤ L) (hL : L ≤ 2560) {M : tu_M} (hI : tw_I M) (next : ∀ N, tw_I N → tu_W T 1032 (tw_lv i) [] N) : tu_W T 206 (tw_lv i) [] M := by
  refine tu_aload_n 206 X 2 dL_law_206 rfl ?_
  refine tu_aload_n 207 X 3 dL_law_207 rfl ?_
  refine tu_iload_n 208 X 0 dL_law_208 rfl ?_
  refine tu_iconst 209 X dL_law_209 ?_
  refine tu_iadd 210 X dL_law_210 ?_
  refine tw_sld 211 X hX (i + 1) dL_law_211 (by omega) (by omega) hL ?_
  refine tu_callVI 212 X (st := []) (as := [tu_i ((xs (i + 1)).toInt)]) (c_X3_dropLine ((xs (i + 1)).toInt) hI.ok hI.hs (tu_rg_t _)) sv_RL_23 dL_law_212 rfl (by decide) rfl rfl rfl (Nat.le_of_ble_eq_true rfl) ⟨by decide, by decide⟩ (fun z1 M1 h1 => ?_)
  have h1 : tp_dropLine M ((xs (i + 1)).toInt) z1 M1 := h1
  have f := tf_dropLine h1
  have hR : tu_MB (tu_cb M) (M1 87) := by rw [f 87 (by decide)]; exact hI.mb
  have hh : 0 ≤ M1 86 2 ∧ M1 86 2 ≤ 6 := by rw [f 86 (by decide), hI.e2]; exact hI.hs.2.1
  refine tu_aload_n 215 X 1 dL_law_215 rfl ?_
  refine tu_aload_n 216 X 3 dL_law_216 rfl ?_
  refine tu_iload_n 217 X 0 dL_law_217 rfl ?_
  refine tu_iconst 218 X dL_law_218 ?_
  refine tu_iadd 219 X dL_law_219 ?_
  refine tw_sld 220 X hX (i + 1) dL_law_220 (by omega) (by omega) hL ?_
  refine tu_callVI 221 X (st := [tu_i z1]) (as := [tu_i ((xs (i + 1)).toInt)]) (c_X4_dropLine (tu_cb M) ((xs (i + 1)).toInt) hI.ok hR hh (tu_rg_t _)) sv_RL_27 dL_law_221 rfl (by decide) rfl rfl rfl (Nat.le_of_ble_eq_true rfl) ⟨by decide, by decide⟩ (fun z2 M2 h2 => ?_)
  have h2 : tq_dropLine M M1 ((xs (i + 1)).toInt) z2 M2 := h2
  obtain ⟨e9, hI2⟩ := tw_dropLine hI h1 h2
  refine tw_ieq 224 X 1032 dL_law_224 (by decide) e9 ?_
  exact next M2 hI2
set_option maxRecDepth 20000 in
set_option maxHeartbeats 4000000 in
theorem tl_3 {T : tu_T} (X : tu_X T cL_law RL 10 364) {L : Nat} {xs : Nat → Int32} (hX : tw_SC T L xs) {i : Nat} (hi : i + 5 ≤ L) (hL : L ≤ 2560) {M : tu_M} (hI : tw_I M) (next : ∀ N, tw_I N → tu_W T 1032 (tw_lv i) [] N) : tu_W T 229 (tw_lv i) [] M := by
  refine tu_aload_n 229 X 2 dL_law_229 rfl ?_
  refine tu_aload_n 230 X 3 dL_law_230 rfl ?_
  refine tu_iload_n 231 X 0 dL_law_231 rfl ?_
  refine tu_iconst 232 X dL_law_232 ?_
  refine tu_iadd 233 X dL_law_233 ?_
  refine tw_sld 234 X hX (i + 1) dL_law_234 (by omega) (by omega) hL ?_
  refine tu_callVI 235 X (st := []) (as := [tu_i ((xs (i + 1)).toInt)]) (c_X3_dropPhrase ((xs (i + 1)).toInt) hI.ok hI.hs (tu_rg_t _)) sv_RL_28 dL_law_235 rfl (by decide) rfl rfl rfl (Nat.le_of_ble_eq_true rfl) ⟨by decide, by decide⟩ (fun z1 M1 h1 => ?_)
  have h1 : tp_dropPhrase M ((xs (i + 1)).toInt) z1 M1 := h1
  have f := tf_dropPhrase h1
  have hR : tu_MB (tu_cb M) (M1 87) := by rw [f 87 (by decide)]; exact hI.mb
  have hh : 0 ≤ M1 86 2 ∧ M1 86 2 ≤ 6 := by rw [f 86 (by decide), hI.e2]; exact hI.hs.2.1
  refine tu_aload_n 238 X 1 dL_law_238 rfl ?_
  refine tu_aload_n 239 X 3 dL_law_239 rfl ?_
  refine tu_iload_n 240 X 0 dL_law_240 rfl ?_
  refine tu_iconst 241 X dL_law_241 ?_
  refine tu_iadd 242 X dL_law_242 ?_
  refine tw_sld 243 X hX (i + 1) dL_law_243 (by omega) (by omega) hL ?_
  refine tu_callVI 244 X (st := [tu_i z1]) (as := [tu_i ((xs (i + 1)).toInt)]) (c_X4_dropPhrase (tu_cb M) ((xs (i + 1)).toInt) hI.ok hR hh (tu_rg_t _)) sv_RL_31 dL_law_244 rfl (by decide) rfl rfl rfl (Nat.le_of_ble_eq_true rfl) ⟨by decide, by decide⟩ (fun z2 M2 h2 => ?_)
  have h2 : tq_dropPhrase M M1 ((xs (i + 1)).toInt) z2 M2 := h2
  obtain ⟨e9, hI2⟩ := tw_dropPhrase hI h1 h2
  refine tw_ieq 247 X 1032 dL_law_247 (by decide) e9 ?_
  exact next M2 hI2
set_option maxRecDepth 20000 in
set_option maxHeartbeats 4000000 in
theorem tl_4 {T : tu_T} (X : tu_X T cL_law RL 10 364) {L : Nat} {xs : Nat → Int32} (hX : tw_SC T L xs) {i : Nat} (hi : i + 5 ≤ L) (hL : L ≤ 2560) {M : tu_M} (hI : tw_I M) (next : ∀ N, tw_I N → tu_W T 1032 (tw_lv i) [] N) : tu_W T 252 (tw_lv i) [] M := by
  by_cases hz : (xs (i + 3)).toInt = 0
  ·
    refine tu_aload_n 252 X 2 dL_law_252 rfl ?_
    refine tu_aload_n 253 X 3 dL_law_253 rfl ?_
    refine tu_iload_n 254 X 0 dL_law_254 rfl ?_
    refine tu_iconst 255 X dL_law_255 ?_
    refine tu_iadd 256 X dL_law_256 ?_
    refine tw_sld 257 X hX (i + 1) dL_law_257 (by omega) (by omega) hL ?_
    refine tu_aload_n 258 X 3 dL_law_258 rfl ?_
    refine tu_iload_n 259 X 0 dL_law_259 rfl ?_
    refine tu_iconst 260 X dL_law_260 ?_
    refine tu_iadd 261 X dL_law_261 ?_
    refine tw_sld 262 X hX (i + 2) dL_law_262 (by omega) (by omega) hL ?_
    refine tu_aload_n 263 X 3 dL_law_263 rfl ?_
    refine tu_iload_n 264 X 0 dL_law_264 rfl ?_
    refine tu_iconst 265 X dL_law_265 ?_
    refine tu_iadd 266 X dL_law_266 ?_
    refine tw_sld 267 X hX (i + 3) dL_law_267 (by omega) (by omega) hL ?_
    refine tu_if_eq 268 X 275 dL_law_268 (by decide) (tu_rg_t _) (fun _ => ?_) (fun br => absurd hz br)
    refine tu_iconst 275 X dL_law_275 ?_
    refine tu_callVI 276 X (st := []) (as := [tu_i ((xs (i + 1)).toInt), tu_i ((xs (i + 2)).toInt), tu_i 0]) (c_X3_stress ((xs (i + 1)).toInt) ((xs (i + 2)).toInt) 0 hI.ok hI.hs (tu_rg_t _) (tu_rg_t _) ⟨by decide, by decide⟩ (Or.inl rfl)) sv_RL_32 dL_law_276 rfl (by decide) rfl rfl rfl (Nat.le_of_ble_eq_true rfl) ⟨by decide, by decide⟩ (fun z1 M1 h1 => ?_)
    have h1 : tp_stress M ((xs (i + 1)).toInt) ((xs (i + 2)).toInt) 0 z1 M1 := h1
    have f := tf_stress h1
    have hR : tu_MB (tu_cb M) (M1 87) := by rw [f 87 (by decide)]; exact hI.mb
    have hh : 0 ≤ M1 86 2 ∧ M1 86 2 ≤ 6 := by rw [f 86 (by decide), hI.e2]; exact hI.hs.2.1
    refine tu_aload_n 279 X 1 dL_law_279 rfl ?_
    refine tu_aload_n 280 X 3 dL_law_280 rfl ?_
    refine tu_iload_n 281 X 0 dL_law_281 rfl ?_
    refine tu_iconst 282 X dL_law_282 ?_
    refine tu_iadd 283 X dL_law_283 ?_
    refine tw_sld 284 X hX (i + 1) dL_law_284 (by omega) (by omega) hL ?_
    refine tu_aload_n 285 X 3 dL_law_285 rfl ?_
    refine tu_iload_n 286 X 0 dL_law_286 rfl ?_
    refine tu_iconst 287 X dL_law_287 ?_
    refine tu_iadd 288 X dL_law_288 ?_
    refine tw_sld 289 X hX (i + 2) dL_law_289 (by omega) (by omega) hL ?_
    refine tu_aload_n 290 X 3 dL_law_290 rfl ?_
    refine tu_iload_n 291 X 0 dL_law_291 rfl ?_
    refine tu_iconst 292 X dL_law_292 ?_
    refine tu_iadd 293 X dL_law_293 ?_
    refine tw_sld 294 X hX (i + 3) dL_law_294 (by omega) (by omega) hL ?_
    refine tu_if_eq 295 X 302 dL_law_295 (by decide) (tu_rg_t _) (fun _ => ?_) (fun br => absurd hz br)
    refine tu_iconst 302 X dL_law_302 ?_
    refine tu_callVI 303 X (st := [tu_i z1]) (as := [tu_i ((xs (i + 1)).toInt), tu_i ((xs (i + 2)).toInt), tu_i 0]) (c_X4_stress (tu_cb M) ((xs (i + 1)).toInt) ((xs (i + 2)).toInt) 0 hI.ok hR hh (tu_rg_t _) (tu_rg_t _) ⟨by decide, by decide⟩ (Or.inl rfl)) sv_RL_36 dL_law_303 rfl (by decide) rfl rfl rfl (Nat.le_of_ble_eq_true rfl) ⟨by decide, by decide⟩ (fun z2 M2 h2 => ?_)
    have h2 : tq_stress M M1 ((xs (i + 1)).toInt) ((xs (i + 2)).toInt) 0 z2 M2 := h2
    obtain ⟨e9, hI2⟩ := tw_stress (Or.inl rfl) hI h1 h2
    refine tw_ieq 306 X 1032 dL_law_306 (by decide) e9 ?_
    exact next M2 hI2
  ·
    refine tu_aload_n 252 X 2 dL_law_252 rfl ?_
    refine tu_aload_n 253 X 3 dL_law_253 rfl ?_
    refine tu_iload_n 254 X 0 dL_law_254 rfl ?_
    refine tu_iconst 255 X dL_law_255 ?_
    refine tu_iadd 256 X dL_law_256 ?_
    refine tw_sld 257 X hX (i + 1) dL_law_257 (by omega) (by omega) hL ?_
    refine tu_aload_n 258 X 3 dL_law_258 rfl ?_
    refine tu_iload_n 259 X 0 dL_law_259 rfl ?_
    refine tu_iconst 260 X dL_law_260 ?_
    refine tu_iadd 261 X dL_law_261 ?_
    refine tw_sld 262 X hX (i + 2) dL_law_262 (by omega) (by omega) hL ?_
    refine tu_aload_n 263 X 3 dL_law_263 rfl ?_
    refine tu_iload_n 264 X 0 dL_law_264 rfl ?_
    refine tu_iconst 265 X dL_law_265 ?_
    refine tu_iadd 266 X dL_law_266 ?_
    refine tw_sld 267 X hX (i + 3) dL_law_267 (by omega) (by omega) hL ?_
    refine tu_if_eq 268 X 275 dL_law_268 (by decide) (tu_rg_t _) (fun br => absurd br hz) (fun _ => ?_)
    refine tu_iconst 271 X dL_law_271 ?_
    refine tu_goto 272 X 276 dL_law_272 (by decide) ?_
    refine tu_callVI 276 X (st := []) (as := [tu_i ((xs (i + 1)).toInt), tu_i ((xs (i + 2)).toInt), tu_i 1]) (c_X3_stress ((xs (i + 1)).toInt) ((xs (i + 2)).toInt) 1 hI.ok hI.hs (tu_rg_t _) (tu_rg_t _) ⟨by decide, by decide⟩ (Or.inr rfl)) sv_RL_32 dL_law_276 rfl (by decide) rfl rfl rfl (Nat.le_of_ble_eq_true rfl) ⟨by decide, by decide⟩ (fun z1 M1 h1 => ?_)
    have h1 : tp_stress M ((xs (i + 1)).toInt) ((xs (i + 2)).toInt) 1 z1 M1 := h1
    have f := tf_stress h1
    have hR : tu_MB (tu_cb M) (M1 87) := by rw [f 87 (by decide)]; exact hI.mb
    have hh : 0 ≤ M1 86 2 ∧ M1 86 2 ≤ 6 := by rw [f 86 (by decide), hI.e2]; exact hI.hs.2.1
    refine tu_aload_n 279 X 1 dL_law_279 rfl ?_
    refine tu_aload_n 280 X 3 dL_law_280 rfl ?_
    refine tu_iload_n 281 X 0 dL_law_281 rfl ?_
    refine tu_iconst 282 X dL_law_282 ?_
    refine tu_iadd 283 X dL_law_283 ?_
    refine tw_sld 284 X hX (i + 1) dL_law_284 (by omega) (by omega) hL ?_
    refine tu_aload_n 285 X 3 dL_law_285 rfl ?_
    refine tu_iload_n 286 X 0 dL_law_286 rfl ?_
    refine tu_iconst 287 X dL_law_287 ?_
    refine tu_iadd 288 X dL_law_288 ?_
    refine tw_sld 289 X hX (i + 2) dL_law_289 (by omega) (by omega) hL ?_
    refine tu_aload_n 290 X 3 dL_law_290 rfl ?_
    refine tu_iload_n 291 X 0 dL_law_291 rfl ?_
    refine tu_iconst 292 X dL_law_292 ?_
    refine tu_iadd 293 X dL_law_293 ?_
    refine tw_sld 294 X hX (i + 3) dL_law_294 (by omega) (by omega) hL ?_
    refine tu_if_eq 295 X 302 dL_law_295 (by decide) (tu_rg_t _) (fun br => absurd br hz) (fun _ => ?_)
    refine tu_iconst 298 X dL_law_298 ?_
    refine tu_goto 299 X 303 dL_law_299 (by decide) ?_
    refine tu_callVI 303 X (st := [tu_i z1]) (as := [tu_i ((xs (i + 1)).toInt), tu_i ((xs (i + 2)).toInt), tu_i 1]) (c_X4_stress (tu_cb M) ((xs (i + 1)).toInt) ((xs (i + 2)).toInt) 1 hI.ok hR hh (tu_rg_t _) (tu_rg_t _) ⟨by decide, by decide⟩ (Or.inr rfl)) sv_RL_36 dL_law_303 rfl (by decide) rfl rfl rfl (Nat.le_of_ble_eq_true rfl) ⟨by decide, by decide⟩ (fun z2 M2 h2 => ?_)
    have h2 : tq_stress M M1 ((xs (i + 1)).toInt) ((xs (i + 2)).toInt) 1 z2 M2 := h2
    obtain ⟨e9, hI2⟩ := tw_stress (Or.inr rfl) hI h1 h2
    refine tw_ieq 306 X 1032 dL_law_306 (by decide) e9 ?_
    exact next M2 hI2
set_option maxRecDepth 20000 in
set_option maxHeartbeats 4000000 in
theorem tl_5 {T : tu_T} (X : tu_X T cL_law RL 10 364) {L : Nat} {xs : Nat → Int32} (hX : tw_SC T L xs) {i : Nat} (hi : i + 5 ≤ L) (hL : L ≤ 2560) {M : tu_M} (hI : tw_I M) (next : ∀ N, tw_I N → tu_W T 1032 (tw_lv i) [] N) : tu_W T 311 (tw_lv i) [] M := by
  refine tu_aload_n 311 X 2 dL_law_311 rfl ?_
  refine tu_aload_n 312 X 3 dL_law_312 rfl ?_
  refine tu_iload_n 313 X 0 dL_law_313 rfl ?_
  refine tu_iconst 314 X dL_law_314 ?_
  refine tu_iadd 315 X dL_law_315 ?_
  refine tw_sld 316 X hX (i + 1) dL_law_316 (by omega) (by omega) hL ?_
  refine tu_aload_n 317 X 3 dL_law_317 rfl ?_
  refine tu_iload_n 318 X 0 dL_law_318 rfl ?_
  refine tu_iconst 319 X dL_law_319 ?_
  refine tu_iadd 320 X dL_law_320 ?_
  refine tw_sld 321 X hX (i + 2) dL_law_321 (by omega) (by omega) hL ?_
  refine tu_aload_n 322 X 3 dL_law_322 rfl ?_
  refine tu_iload_n 323 X 0 dL_law_323 rfl ?_
  refine tu_iconst 324 X dL_law_324 ?_
  refine tu_iadd 325 X dL_law_325 ?_
  refine tw_sld 326 X hX (i + 3) dL_law_326 (by omega) (by omega) hL ?_
  refine tu_callVI 327 X (st := []) (as := [tu_i ((xs (i + 1)).toInt), tu_i ((xs (i + 2)).toInt), tu_i ((xs (i + 3)).toInt)]) (c_X3_beat ((xs (i + 1)).toInt) ((xs (i + 2)).toInt) ((xs (i + 3)).toInt) hI.ok hI.hs (tu_rg_t _) (tu_rg_t _) (tu_rg_t _)) sv_RL_37 dL_law_327 rfl (by decide) rfl rfl rfl (Nat.le_of_ble_eq_true rfl) ⟨by decide, by decide⟩ (fun z1 M1 h1 => ?_)
  have h1 : tp_beat M ((xs (i + 1)).toInt) ((xs (i + 2)).toInt) ((xs (i + 3)).toInt) z1 M1 := h1
  have f := tf_beat h1
  have hR : tu_MB (tu_cb M) (M1 87) := by rw [f 87 (by decide)]; exact hI.mb
  have hh : 0 ≤ M1 86 2 ∧ M1 86 2 ≤ 6 := by rw [f 86 (by decide), hI.e2]; exact hI.hs.2.1
  refine tu_aload_n 330 X 1 dL_law_330 rfl ?_
  refine tu_aload_n 331 X 3 dL_law_331 rfl ?_
  refine tu_iload_n 332 X 0 dL_law_332 rfl ?_
  refine tu_iconst 333 X dL_law_333 ?_
  refine tu_iadd 334 X dL_law_334 ?_
  refine tw_sld 335 X hX (i + 1) dL_law_335 (by omega) (by omega) hL ?_
  refine tu_aload_n 336 X 3 dL_law_336 rfl ?_
  refine tu_iload_n 337 X 0 dL_law_337 rfl ?_
  refine tu_iconst 338 X dL_law_338 ?_
  refine tu_iadd 339 X dL_law_339 ?_
  refine tw_sld 340 X hX (i + 2) dL_law_340 (by omega) (by omega) hL ?_
  refine tu_aload_n 341 X 3 dL_law_341 rfl ?_
  refine tu_iload_n 342 X 0 dL_law_342 rfl ?_
  refine tu_iconst 343 X dL_law_343 ?_
  refine tu_iadd 344 X dL_law_344 ?_
  refine tw_sld 345 X hX (i + 3) dL_law_345 (by omega) (by omega) hL ?_
  refine tu_callVI 346 X (st := [tu_i z1]) (as := [tu_i ((xs (i + 1)).toInt), tu_i ((xs (i + 2)).toInt), tu_i ((xs (i + 3)).toInt)]) (c_X4_beat (tu_cb M) ((xs (i + 1)).toInt) ((xs (i + 2)).toInt) ((xs (i + 3)).toInt) hI.ok hR hh (tu_rg_t _) (tu_rg_t _) (tu_rg_t _)) sv_RL_41 dL_law_346 rfl (by decide) rfl rfl rfl (Nat.le_of_ble_eq_true rfl) ⟨by decide, by decide⟩ (fun z2 M2 h2 => ?_)
  have h2 : tq_beat M M1 ((xs (i + 1)).toInt) ((xs (i + 2)).toInt) ((xs (i + 3)).toInt) z2 M2 := h2
  obtain ⟨e9, hI2⟩ := tw_beat hI h1 h2
  refine tw_ieq 349 X 1032 dL_law_349 (by decide) e9 ?_
  exact next M2 hI2
set_option maxRecDepth 20000 in
set_option maxHeartbeats 4000000 in
theorem tl_6 {T : tu_T} (X : tu_X T cL_law RL 10 364) {L : Nat} {xs : Nat → Int32} (hX : tw_SC T L xs) {i : Nat} (hi : i + 5 ≤ L) (hL : L ≤ 2560) {M : tu_M} (hI : tw_I M) (next : ∀ N, tw_I N → tu_W T 1032 (tw_lv i) [] N) : tu_W T 354 (tw_lv i) [] M := by
  refine tu_aload_n 354 X 2 dL_law_354 rfl ?_
  refine tu_aload_n 355 X 3 dL_law_355 rfl ?_
  refine tu_iload_n 356 X 0 dL_law_356 rfl ?_
  refine tu_iconst 357 X dL_law_357 ?_
  refine tu_iadd 358 X dL_law_358 ?_
  refine tw_sld 359 X hX (i + 1) dL_law_359 (by omega) (by omega) hL ?_
  refine tu_callVI 360 X (st := []) (as := [tu_i ((xs (i + 1)).toInt)]) (c_X3_sing ((xs (i + 1)).toInt) hI.ok hI.hs (tu_rg_t _)) sv_RL_42 dL_law_360 rfl (by decide) rfl rfl rfl (Nat.le_of_ble_eq_true rfl) ⟨by decide, by decide⟩ (fun z1 M1 h1 => ?_)
  have h1 : tp_sing M ((xs (i + 1)).toInt) z1 M1 := h1
  have f := tf_sing h1
  have hR : tu_MB (tu_cb M) (M1 87) := by rw [f 87 (by decide)]; exact hI.mb
  have hh : 0 ≤ M1 86 2 ∧ M1 86 2 ≤ 6 := by rw [f 86 (by decide), hI.e2]; exact hI.hs.2.1
  refine tu_aload_n 363 X 1 dL_law_363 rfl ?_
  refine tu_aload_n 364 X 3 dL_law_364 rfl ?_
  refine tu_iload_n 365 X 0 dL_law_365 rfl ?_
  refine tu_iconst 366 X dL_law_366 ?_
  refine tu_iadd 367 X dL_law_367 ?_
  refine tw_sld 368 X hX (i + 1) dL_law_368 (by omega) (by omega) hL ?_
  refine tu_callVI 369 X (st := [tu_i z1]) (as := [tu_i ((xs (i + 1)).toInt)]) (c_X4_sing (tu_cb M) ((xs (i + 1)).toInt) hI.ok hR hh (tu_rg_t _)) sv_RL_45 dL_law_369 rfl (by decide) rfl rfl rfl (Nat.le_of_ble_eq_true rfl) ⟨by decide, by decide⟩ (fun z2 M2 h2 => ?_)
  have h2 : tq_sing M M1 ((xs (i + 1)).toInt) z2 M2 := h2
  obtain ⟨e9, hI2⟩ := tw_sing hI h1 h2
  refine tw_ieq 372 X 1032 dL_law_372 (by decide) e9 ?_
  exact next M2 hI2
set_option maxRecDepth 20000 in
set_option maxHeartbeats 4000000 in
theorem tl_7 {T : tu_T} (X : tu_X T cL_law RL 10 364) {L : Nat} {xs : Nat → Int32} (hX : tw_SC T L xs) {i : Nat} (hi : i + 5 ≤ L) (hL : L ≤ 2560) {M : tu_M} (hI : tw_I M) (next : ∀ N, tw_I N → tu_W T 1032 (tw_lv i) [] N) : tu_W T 377 (tw_lv i) [] M := by
  refine tu_aload_n 377 X 2 dL_law_377 rfl ?_
  refine tu_aload_n 378 X 3 dL_law_378 rfl ?_
  refine tu_iload_n 379 X 0 dL_law_379 rfl ?_
  refine tu_iconst 380 X dL_law_380 ?_
  refine tu_iadd 381 X dL_law_381 ?_
  refine tw_sld 382 X hX (i + 1) dL_law_382 (by omega) (by omega) hL ?_
  refine tu_callVI 383 X (st := []) (as := [tu_i ((xs (i + 1)).toInt)]) (c_X3_play ((xs (i + 1)).toInt) hI.ok hI.hs (tu_rg_t _)) sv_RL_46 dL_law_383 rfl (by decide) rfl rfl rfl (Nat.le_of_ble_eq_true rfl) ⟨by decide, by decide⟩ (fun z1 M1 h1 => ?_)
  have h1 : tp_play M ((xs (i + 1)).toInt) z1 M1 := h1
  have f := tf_play h1
  have hR : tu_MB (tu_cb M) (M1 87) := by rw [f 87 (by decide)]; exact hI.mb
  have hh : 0 ≤ M1 86 2 ∧ M1 86 2 ≤ 6 := by rw [f 86 (by decide), hI.e2]; exact hI.hs.2.1
  refine tu_aload_n 386 X 1 dL_law_386 rfl ?_
  refine tu_aload_n 387 X 3 dL_law_387 rfl ?_
  refine tu_iload_n 388 X 0 dL_law_388 rfl ?_
  refine tu_iconst 389 X dL_law_389 ?_
  refine tu_iadd 390 X dL_law_390 ?_
  refine tw_sld 391 X hX (i + 1) dL_law_391 (by omega) (by omega) hL ?_
  refine tu_callVI 392 X (st := [tu_i z1]) (as := [tu_i ((xs (i + 1)).toInt)]) (c_X4_play (tu_cb M) ((xs (i + 1)).toInt) hI.ok hR hh (tu_rg_t _)) sv_RL_49 dL_law_392 rfl (by decide) rfl rfl rfl (Nat.le_of_ble_eq_true rfl) ⟨by decide, by decide⟩ (fun z2 M2 h2 => ?_)
  have h2 : tq_play M M1 ((xs (i + 1)).toInt) z2 M2 := h2
  obtain ⟨e9, hI2⟩ := tw_play hI h1 h2
  refine tw_ieq 395 X 1032 dL_law_395 (by decide) e9 ?_
  exact next M2 hI2
set_option maxRecDepth 20000 in
set_option maxHeartbeats 4000000 in
theorem tl_8 {T : tu_T} (X : tu_X T cL_law RL 10 364) {L : Nat} {xs : Nat → Int32} (hX : tw_SC T L xs) {i : Nat} (hi : i + 5 ≤ L) (hL : L ≤ 2560) {M : tu_M} (hI : tw_I M) (next : ∀ N, tw_I N → tu_W T 1032 (tw_lv i) [] N) : tu_W T 400 (tw_lv i) [] M := by
  refine tu_aload_n 400 X 2 dL_law_400 rfl ?_
  refine tu_aload_n 401 X 3 dL_law_401 rfl ?_
  refine tu_iload_n 402 X 0 dL_law_402 rfl ?_
  refine tu_iconst 403 X dL_law_403 ?_
  refine tu_iadd 404 X dL_law_404 ?_
  refine tw_sld 405 X hX (i + 1) dL_law_405 (by omega) (by omega) hL ?_
  refine tu_aload_n 406 X 3 dL_law_406 rfl ?_
  refine tu_iload_n 407 X 0 dL_law_407 rfl ?_
  refine tu_iconst 408 X dL_law_408 ?_
  refine tu_iadd 409 X dL_law_409 ?_
  refine tw_sld 410 X hX (i + 2) dL_law_410 (by omega) (by omega) hL ?_
  refine tu_aload_n 411 X 3 dL_law_411 rfl ?_
  refine tu_iload_n 412 X 0 dL_law_412 rfl ?_
  refine tu_iconst 413 X dL_law_413 ?_
  refine tu_iadd 414 X dL_law_414 ?_
  refine tw_sld 415 X hX (i + 3) dL_law_415 (by omega) (by omega) hL ?_
  refine tu_callVI 416 X (st := []) (as := [tu_i ((xs (i + 1)).toInt), tu_i ((xs (i + 2)).toInt), tu_i ((xs (i + 3)).toInt)]) (c_X3_verse ((xs (i + 1)).toInt) ((xs (i + 2)).toInt) ((xs (i + 3)).toInt) hI.ok hI.hs (tu_rg_t _) (tu_rg_t _) (tu_rg_t _)) sv_RL_50 dL_law_416 rfl (by decide) rfl rfl rfl (Nat.le_of_ble_eq_true rfl) ⟨by decide, by decide⟩ (fun z1 M1 h1 => ?_)
  have h1 : tp_verse M ((xs (i + 1)).toInt) ((xs (i + 2)).toInt) ((xs (i + 3)).toInt) z1 M1 := h1
  have f := tf_verse h1
  have hR : tu_MB (tu_cb M) (M1 87) := by rw [f 87 (by decide)]; exact hI.mb
  have hh : 0 ≤ M1 86 2 ∧ M1 86 2 ≤ 6 := by rw [f 86 (by decide), hI.e2]; exact hI.hs.2.1
  refine tu_aload_n 419 X 1 dL_law_419 rfl ?_
  refine tu_aload_n 420 X 3 dL_law_420 rfl ?_
  refine tu_iload_n 421 X 0 dL_law_421 rfl ?_
  refine tu_iconst 422 X dL_law_422 ?_
  refine tu_iadd 423 X dL_law_423 ?_
  refine tw_sld 424 X hX (i + 1) dL_law_424 (by omega) (by omega) hL ?_
  refine tu_aload_n 425 X 3 dL_law_425 rfl ?_
  refine tu_iload_n 426 X 0 dL_law_426 rfl ?_
  refine tu_iconst 427 X dL_law_427 ?_
  refine tu_iadd 428 X dL_law_428 ?_
  refine tw_sld 429 X hX (i + 2) dL_law_429 (by omega) (by omega) hL ?_
  refine tu_aload_n 430 X 3 dL_law_430 rfl ?_
  refine tu_iload_n 431 X 0 dL_law_431 rfl ?_
  refine tu_iconst 432 X dL_law_432 ?_
  refine tu_iadd 433 X dL_law_433 ?_
  refine tw_sld 434 X hX (i + 3) dL_law_434 (by omega) (by omega) hL ?_
  refine tu_callVI 435 X (st := [tu_i z1]) (as := [tu_i ((xs (i + 1)).toInt), tu_i ((xs (i + 2)).toInt), tu_i ((xs (i + 3)).toInt)]) (c_X4_verse (tu_cb M) ((xs (i + 1)).toInt) ((xs (i + 2)).toInt) ((xs (i + 3)).toInt) hI.ok hR hh (tu_rg_t _) (tu_rg_t _) (tu_rg_t _)) sv_RL_53 dL_law_435 rfl (by decide) rfl rfl rfl (Nat.le_of_ble_eq_true rfl) ⟨by decide, by decide⟩ (fun z2 M2 h2 => ?_)
  have h2 : tq_verse M M1 ((xs (i + 1)).toInt) ((xs (i + 2)).toInt) ((xs (i + 3)).toInt) z2 M2 := h2
  obtain ⟨e9, hI2⟩ := tw_verse hI h1 h2
  refine tw_ieq 438 X 1032 dL_law_438 (by decide) e9 ?_
  exact next M2 hI2
set_option maxRecDepth 20000 in
set_option maxHeartbeats 4000000 in
theorem tl_9 {T : tu_T} (X : tu_X T cL_law RL 10 364) {L : Nat} {xs : Nat → Int32} (hX : tw_SC T L xs) {i : Nat} (hi : i + 5 ≤ L) (hL : L ≤ 2560) {M : tu_M} (hI : tw_I M) (next : ∀ N, tw_I N → tu_W T 1032 (tw_lv i) [] N) : tu_W T 443 (tw_lv i) [] M := by
  by_cases hz : (xs (i + 1)).toInt = 0
  ·
    refine tu_aload_n 443 X 2 dL_law_443 rfl ?_
    refine tu_aload_n 444 X 3 dL_law_444 rfl ?_
    refine tu_iload_n 445 X 0 dL_law_445 rfl ?_
    refine tu_iconst 446 X dL_law_446 ?_
    refine tu_iadd 447 X dL_law_447 ?_
    refine tw_sld 448 X hX (i + 1) dL_law_448 (by omega) (by omega) hL ?_
    refine tu_if_eq 449 X 456 dL_law_449 (by decide) (tu_rg_t _) (fun _ => ?_) (fun br => absurd hz br)
    refine tu_iconst 456 X dL_law_456 ?_
    refine tu_callVI 457 X (st := []) (as := [tu_i 0]) (c_X3_clear 0 hI.hs (Or.inl rfl)) sv_RL_54 dL_law_457 rfl (by decide) rfl rfl rfl (Nat.le_of_ble_eq_true rfl) ⟨by decide, by decide⟩ (fun z1 M1 h1 => ?_)
    have h1 : tp_clear M 0 z1 M1 := h1
    have f := tf_clear h1
    have hR : tu_MB (tu_cb M) (M1 87) := by rw [f 87 (by decide)]; exact hI.mb
    have hh : 0 ≤ M1 86 2 ∧ M1 86 2 ≤ 6 := by rw [f 86 (by decide), hI.e2]; exact hI.hs.2.1
    refine tu_aload_n 460 X 1 dL_law_460 rfl ?_
    refine tu_aload_n 461 X 3 dL_law_461 rfl ?_
    refine tu_iload_n 462 X 0 dL_law_462 rfl ?_
    refine tu_iconst 463 X dL_law_463 ?_
    refine tu_iadd 464 X dL_law_464 ?_
    refine tw_sld 465 X hX (i + 1) dL_law_465 (by omega) (by omega) hL ?_
    refine tu_if_eq 466 X 473 dL_law_466 (by decide) (tu_rg_t _) (fun _ => ?_) (fun br => absurd hz br)
    refine tu_iconst 473 X dL_law_473 ?_
    refine tu_callVI 474 X (st := [tu_i z1]) (as := [tu_i 0]) (c_X4_clear (tu_cb M) 0 hI.ok hR hh (Or.inl rfl)) sv_RL_58 dL_law_474 rfl (by decide) rfl rfl rfl (Nat.le_of_ble_eq_true rfl) ⟨by decide, by decide⟩ (fun z2 M2 h2 => ?_)
    have h2 : tq_clear M M1 0 z2 M2 := h2
    obtain ⟨e9, hI2⟩ := tw_clear hI h1 h2
    refine tw_ieq 477 X 1032 dL_law_477 (by decide) e9 ?_
    exact next M2 hI2
  ·
    refine tu_aload_n 443 X 2 dL_law_443 rfl ?_
    refine tu_aload_n 444 X 3 dL_law_444 rfl ?_
    refine tu_iload_n 445 X 0 dL_law_445 rfl ?_
    refine tu_iconst 446 X dL_law_446 ?_
    refine tu_iadd 447 X dL_law_447 ?_
    refine tw_sld 448 X hX (i + 1) dL_law_448 (by omega) (by omega) hL ?_
    refine tu_if_eq 449 X 456 dL_law_449 (by decide) (tu_rg_t _) (fun br => absurd br hz) (fun _ => ?_)
    refine tu_iconst 452 X dL_law_452 ?_
    refine tu_goto 453 X 457 dL_law_453 (by decide) ?_
    refine tu_callVI 457 X (st := []) (as := [tu_i 1]) (c_X3_clear 1 hI.hs (Or.inr rfl)) sv_RL_54 dL_law_457 rfl (by decide) rfl rfl rfl (Nat.le_of_ble_eq_true rfl) ⟨by decide, by decide⟩ (fun z1 M1 h1 => ?_)
    have h1 : tp_clear M 1 z1 M1 := h1
    have f := tf_clear h1
    have hR : tu_MB (tu_cb M) (M1 87) := by rw [f 87 (by decide)]; exact hI.mb
    have hh : 0 ≤ M1 86 2 ∧ M1 86 2 ≤ 6 := by rw [f 86 (by decide), hI.e2]; exact hI.hs.2.1
    refine tu_aload_n 460 X 1 dL_law_460 rfl ?_
    refine tu_aload_n 461 X 3 dL_law_461 rfl ?_
    refine tu_iload_n 462 X 0 dL_law_462 rfl ?_
    refine tu_iconst 463 X dL_law_463 ?_
    refine tu_iadd 464 X dL_law_464 ?_
    refine tw_sld 465 X hX (i + 1) dL_law_465 (by omega) (by omega) hL ?_
    refine tu_if_eq 466 X 473 dL_law_466 (by decide) (tu_rg_t _) (fun br => absurd br hz) (fun _ => ?_)
    refine tu_iconst 469 X dL_law_469 ?_
    refine tu_goto 470 X 474 dL_law_470 (by decide) ?_
    refine tu_callVI 474 X (st := [tu_i z1]) (as := [tu_i 1]) (c_X4_clear (tu_cb M) 1 hI.ok hR hh (Or.inr rfl)) sv_RL_58 dL_law_474 rfl (by decide) rfl rfl rfl (Nat.le_of_ble_eq_true rfl) ⟨by decide, by decide⟩ (fun z2 M2 h2 => ?_)
    have h2 : tq_clear M M1 1 z2 M2 := h2
    obtain ⟨e9, hI2⟩ := tw_clear hI h1 h2
    refine tw_ieq 477 X 1032 dL_law_477 (by decide) e9 ?_
    exact next M2 hI2
set_option maxRecDepth 20000 in
set_option maxHeartbeats 4000000 in
theorem tl_10 {T : tu_T} (X : tu_X T cL_law RL 10 364) {L : Nat} {xs : Nat → Int32} (hX : tw_SC T L xs) {i : Nat} (hi : i + 5 ≤ L) (hL : L ≤ 2560) {M : tu_M} (hI : tw_I M) (next : ∀ N, tw_I N → tu_W T 1032 (tw_lv i) [] N) : tu_W T 482 (tw_lv i) [] M := by
  refine tu_aload_n 482 X 2 dL_law_482 rfl ?_
  refine tu_aload_n 483 X 3 dL_law_483 rfl ?_
  refine tu_iload_n 484 X 0 dL_law_484 rfl ?_
  refine tu_iconst 485 X dL_law_485 ?_
  refine tu_iadd 486 X dL_law_486 ?_
  refine tw_sld 487 X hX (i + 1) dL_law_487 (by omega) (by omega) hL ?_
  refine tu_aload_n 488 X 3 dL_law_488 rfl ?_
  refine tu_iload_n 489 X 0 dL_law_489 rfl ?_
  refine tu_iconst 490 X dL_law_490 ?_
  refine tu_iadd 491 X dL_law_491 ?_
  refine tw_sld 492 X hX (i + 2) dL_law_492 (by omega) (by omega) hL ?_
  refine tu_callVI 493 X (st := []) (as := [tu_i ((xs (i + 1)).toInt), tu_i ((xs (i + 2)).toInt)]) (c_X3_line ((xs (i + 1)).toInt) ((xs (i + 2)).toInt) hI.ok (tu_rg_t _) (tu_rg_t _)) sv_RL_59 dL_law_493 rfl (by decide) rfl rfl rfl (Nat.le_of_ble_eq_true rfl) ⟨by decide, by decide⟩ (fun z1 M1 h1 => ?_)
  have h1 : tp_line M ((xs (i + 1)).toInt) ((xs (i + 2)).toInt) z1 M1 := h1
  have f := tf_line h1
  have hR : tu_MB (tu_cb M) (M1 87) := by rw [f 87 (by decide)]; exact hI.mb
  refine tu_aload_n 496 X 1 dL_law_496 rfl ?_
  refine tu_aload_n 497 X 3 dL_law_497 rfl ?_
  refine tu_iload_n 498 X 0 dL_law_498 rfl ?_
  refine tu_iconst 499 X dL_law_499 ?_
  refine tu_iadd 500 X dL_law_500 ?_
  refine tw_sld 501 X hX (i + 1) dL_law_501 (by omega) (by omega) hL ?_
  refine tu_aload_n 502 X 3 dL_law_502 rfl ?_
  refine tu_iload_n 503 X 0 dL_law_503 rfl ?_
  refine tu_iconst 504 X dL_law_504 ?_
  refine tu_iadd 505 X dL_law_505 ?_
  refine tw_sld 506 X hX (i + 2) dL_law_506 (by omega) (by omega) hL ?_
  refine tu_callVI 507 X (st := [tu_i z1]) (as := [tu_i ((xs (i + 1)).toInt), tu_i ((xs (i + 2)).toInt)]) (c_X4_line (tu_cb M) ((xs (i + 1)).toInt) ((xs (i + 2)).toInt) hI.ok hR (tu_rg_t _) (tu_rg_t _)) sv_RL_62 dL_law_507 rfl (by decide) rfl rfl rfl (Nat.le_of_ble_eq_true rfl) ⟨by decide, by decide⟩ (fun z2 M2 h2 => ?_)
  have h2 : tq_line M M1 ((xs (i + 1)).toInt) ((xs (i + 2)).toInt) z2 M2 := h2
  obtain ⟨e9, hI2⟩ := tw_line hI h1 h2
  refine tw_ieq 510 X 1032 dL_law_510 (by decide) e9 ?_
  exact next M2 hI2
set_option maxRecDepth 20000 in
set_option maxHeartbeats 4000000 in
theorem tl_11 {T : tu_T} (X : tu_X T cL_law RL 10 364) {L : Nat} {xs : Nat → Int32} (hX : tw_SC T L xs) {i : Nat} (hi : i + 5 ≤ L) (hL : L ≤ 2560) {M : tu_M} (hI : tw_I M) (next : ∀ N, tw_I N → tu_W T 1032 (tw_lv i) [] N) : tu_W T 515 (tw_lv i) [] M := by
  refine tu_aload_n 515 X 2 dL_law_515 rfl ?_
  refine tu_aload_n 516 X 3 dL_law_516 rfl ?_
  refine tu_iload_n 517 X 0 dL_law_517 rfl ?_
  refine tu_iconst 518 X dL_law_518 ?_
  refine tu_iadd 519 X dL_law_519 ?_
  refine tw_sld 520 X hX (i + 1) dL_law_520 (by omega) (by omega) hL ?_
  refine tu_aload_n 521 X 3 dL_law_521 rfl ?_
  refine tu_iload_n 522 X 0 dL_law_522 rfl ?_
  refine tu_iconst 523 X dL_law_523 ?_
  refine tu_iadd 524 X dL_law_524 ?_
  refine tw_sld 525 X hX (i + 2) dL_law_525 (by omega) (by omega) hL ?_
  refine tu_callVI 526 X (st := []) (as := [tu_i ((xs (i + 1)).toInt), tu_i ((xs (i + 2)).toInt)]) (c_X3_phrase ((xs (i + 1)).toInt) ((xs (i + 2)).toInt) hI.ok (tu_rg_t _) (tu_rg_t _)) sv_RL_63 dL_law_526 rfl (by decide) rfl rfl rfl (Nat.le_of_ble_eq_true rfl) ⟨by decide, by decide⟩ (fun z1 M1 h1 => ?_)
  have h1 : tp_phrase M ((xs (i + 1)).toInt) ((xs (i + 2)).toInt) z1 M1 := h1
  have f := tf_phrase h1
  have hR : tu_MB (tu_cb M) (M1 87) := by rw [f 87 (by decide)]; exact hI.mb
  refine tu_aload_n 529 X 1 dL_law_529 rfl ?_
  refine tu_aload_n 530 X 3 dL_law_530 rfl ?_
  refine tu_iload_n 531 X 0 dL_law_531 rfl ?_
  refine tu_iconst 532 X dL_law_532 ?_
  refine tu_iadd 533 X dL_law_533 ?_
  refine tw_sld 534 X hX (i + 1) dL_law_534 (by omega) (by omega) hL ?_
  refine tu_aload_n 535 X 3 dL_law_535 rfl ?_
  refine tu_iload_n 536 X 0 dL_law_536 rfl ?_
  refine tu_iconst 537 X dL_law_537 ?_
  refine tu_iadd 538 X dL_law_538 ?_
  refine tw_sld 539 X hX (i + 2) dL_law_539 (by omega) (by omega) hL ?_
  refine tu_callVI 540 X (st := [tu_i z1]) (as := [tu_i ((xs (i + 1)).toInt), tu_i ((xs (i + 2)).toInt)]) (c_X4_phrase (tu_cb M) ((xs (i + 1)).toInt) ((xs (i + 2)).toInt) hI.ok hR (tu_rg_t _) (tu_rg_t _)) sv_RL_66 dL_law_540 rfl (by decide) rfl rfl rfl (Nat.le_of_ble_eq_true rfl) ⟨by decide, by decide⟩ (fun z2 M2 h2 => ?_)
  have h2 : tq_phrase M M1 ((xs (i + 1)).toInt) ((xs (i + 2)).toInt) z2 M2 := h2
  obtain ⟨e9, hI2⟩ := tw_phrase hI h1 h2
  refine tw_ieq 543 X 1032 dL_law_543 (by decide) e9 ?_
  exact next M2 hI2
set_option maxRecDepth 20000 in
set_option maxHeartbeats 4000000 in
theorem tl_12 {T : tu_T} (X : tu_X T cL_law RL 10 364) {L : Nat} {xs : Nat → Int32} (hX : tw_SC T L xs) {i : Nat} (hi : i + 5 ≤ L) (hL : L ≤ 2560) {M : tu_M} (hI : tw_I M) (next : ∀ N, tw_I N → tu_W T 1032 (tw_lv i) [] N) : tu_W T 548 (tw_lv i) [] M := by
  refine tu_aload_n 548 X 2 dL_law_548 rfl ?_
  refine tu_aload_n 549 X 3 dL_law_549 rfl ?_
  refine tu_iload_n 550 X 0 dL_law_550 rfl ?_
  refine tu_iconst 551 X dL_law_551 ?_
  refine tu_iadd 552 X dL_law_552 ?_
  refine tw_sld 553 X hX (i + 1) dL_law_553 (by omega) (by omega) hL ?_
  refine tu_aload_n 554 X 3 dL_law_554 rfl ?_
  refine tu_iload_n 555 X 0 dL_law_555 rfl ?_
  refine tu_iconst 556 X dL_law_556 ?_
  refine tu_iadd 557 X dL_law_557 ?_
  refine tw_sld 558 X hX (i + 2) dL_law_558 (by omega) (by omega) hL ?_
  refine tu_callVI 559 X (st := []) (as := [tu_i ((xs (i + 1)).toInt), tu_i ((xs (i + 2)).toInt)]) (c_X3_isStressed ((xs (i + 1)).toInt) ((xs (i + 2)).toInt) hI.ok (tu_rg_t _) (tu_rg_t _)) sv_RL_67 dL_law_559 rfl (by decide) rfl rfl rfl (Nat.le_of_ble_eq_true rfl) ⟨by decide, by decide⟩ (fun z1 M1 h1 => ?_)
  have h1 : tp_isStressed M ((xs (i + 1)).toInt) ((xs (i + 2)).toInt) z1 M1 := h1
  have f := tf_isStressed h1
  have hR : tu_MB (tu_cb M) (M1 87) := by rw [f 87 (by decide)]; exact hI.mb
  refine tu_aload_n 562 X 1 dL_law_562 rfl ?_
  refine tu_aload_n 563 X 3 dL_law_563 rfl ?_
  refine tu_iload_n 564 X 0 dL_law_564 rfl ?_
  refine tu_iconst 565 X dL_law_565 ?_
  refine tu_iadd 566 X dL_law_566 ?_
  refine tw_sld 567 X hX (i + 1) dL_law_567 (by omega) (by omega) hL ?_
  refine tu_aload_n 568 X 3 dL_law_568 rfl ?_
  refine tu_iload_n 569 X 0 dL_law_569 rfl ?_
  refine tu_iconst 570 X dL_law_570 ?_
  refine tu_iadd 571 X dL_law_571 ?_
  refine tw_sld 572 X hX (i + 2) dL_law_572 (by omega) (by omega) hL ?_
  refine tu_callVI 573 X (st := [tu_i z1]) (as := [tu_i ((xs (i + 1)).toInt), tu_i ((xs (i + 2)).toInt)]) (c_X4_isStressed (tu_cb M) ((xs (i + 1)).toInt) ((xs (i + 2)).toInt) hI.ok hR (tu_rg_t _) (tu_rg_t _)) sv_RL_70 dL_law_573 rfl (by decide) rfl rfl rfl (Nat.le_of_ble_eq_true rfl) ⟨by decide, by decide⟩ (fun z2 M2 h2 => ?_)
  have h2 : tq_isStressed M M1 ((xs (i + 1)).toInt) ((xs (i + 2)).toInt) z2 M2 := h2
  obtain ⟨e9, hI2⟩ := tw_isStressed hI h1 h2
  refine tw_ieq 576 X 1032 dL_law_576 (by decide) e9 ?_
  exact next M2 hI2
set_option maxRecDepth 20000 in
set_option maxHeartbeats 4000000 in
theorem tl_13 {T : tu_T} (X : tu_X T cL_law RL 10 364) {L : Nat} {xs : Nat → Int32} (hX : tw_SC T L xs) {i : Nat} (hi : i + 5 ≤ L) (hL : L ≤ 2560) {M : tu_M} (hI : tw_I M) (next : ∀ N, tw_I N → tu_W T 1032 (tw_lv i) [] N) : tu_W T 581 (tw_lv i) [] M := by
  refine tu_aload_n 581 X 2 dL_law_581 rfl ?_
  refine tu_aload_n 582 X 3 dL_law_582 rfl ?_
  refine tu_iload_n 583 X 0 dL_law_583 rfl ?_
  refine tu_iconst 584 X dL_law_584 ?_
  refine tu_iadd 585 X dL_law_585 ?_
  refine tw_sld 586 X hX (i + 1) dL_law_586 (by omega) (by omega) hL ?_
  refine tu_aload_n 587 X 3 dL_law_587 rfl ?_
  refine tu_iload_n 588 X 0 dL_law_588 rfl ?_
  refine tu_iconst 589 X dL_law_589 ?_
  refine tu_iadd 590 X dL_law_590 ?_
  refine tw_sld 591 X hX (i + 2) dL_law_591 (by omega) (by omega) hL ?_
  refine tu_callVI 592 X (st := []) (as := [tu_i ((xs (i + 1)).toInt), tu_i ((xs (i + 2)).toInt)]) (c_X3_kindOf ((xs (i + 1)).toInt) ((xs (i + 2)).toInt) hI.ok (tu_rg_t _) (tu_rg_t _)) sv_RL_71 dL_law_592 rfl (by decide) rfl rfl rfl (Nat.le_of_ble_eq_true rfl) ⟨by decide, by decide⟩ (fun z1 M1 h1 => ?_)
  have h1 : tp_kindOf M ((xs (i + 1)).toInt) ((xs (i + 2)).toInt) z1 M1 := h1
  have f := tf_kindOf h1
  have hR : tu_MB (tu_cb M) (M1 87) := by rw [f 87 (by decide)]; exact hI.mb
  refine tu_aload_n 595 X 1 dL_law_595 rfl ?_
  refine tu_aload_n 596 X 3 dL_law_596 rfl ?_
  refine tu_iload_n 597 X 0 dL_law_597 rfl ?_
  refine tu_iconst 598 X dL_law_598 ?_
  refine tu_iadd 599 X dL_law_599 ?_
  refine tw_sld 600 X hX (i + 1) dL_law_600 (by omega) (by omega) hL ?_
  refine tu_aload_n 601 X 3 dL_law_601 rfl ?_
  refine tu_iload_n 602 X 0 dL_law_602 rfl ?_
  refine tu_iconst 603 X dL_law_603 ?_
  refine tu_iadd 604 X dL_law_604 ?_
  refine tw_sld 605 X hX (i + 2) dL_law_605 (by omega) (by omega) hL ?_
  refine tu_callVI 606 X (st := [tu_i z1]) (as := [tu_i ((xs (i + 1)).toInt), tu_i ((xs (i + 2)).toInt)]) (c_X4_kindOf (tu_cb M) ((xs (i + 1)).toInt) ((xs (i + 2)).toInt) hI.ok hR (tu_rg_t _) (tu_rg_t _)) sv_RL_74 dL_law_606 rfl (by decide) rfl rfl rfl (Nat.le_of_ble_eq_true rfl) ⟨by decide, by decide⟩ (fun z2 M2 h2 => ?_)
  have h2 : tq_kindOf M M1 ((xs (i + 1)).toInt) ((xs (i + 2)).toInt) z2 M2 := h2
  obtain ⟨e9, hI2⟩ := tw_kindOf hI h1 h2
  refine tw_ieq 609 X 1032 dL_law_609 (by decide) e9 ?_
  exact next M2 hI2
set_option maxRecDepth 20000 in
set_option maxHeartbeats 4000000 in
theorem tl_14 {T : tu_T} (X : tu_X T cL_law RL 10 364) {L : Nat} {xs : Nat → Int32} (hX : tw_SC T L xs) {i : Nat} (hi : i + 5 ≤ L) (hL : L ≤ 2560) {M : tu_M} (hI : tw_I M) (next : ∀ N, tw_I N → tu_W T 1032 (tw_lv i) [] N) : tu_W T 614 (tw_lv i) [] M := by
  refine tu_aload_n 614 X 2 dL_law_614 rfl ?_
  refine tu_aload_n 615 X 3 dL_law_615 rfl ?_
  refine tu_iload_n 616 X 0 dL_law_616 rfl ?_
  refine tu_iconst 617 X dL_law_617 ?_
  refine tu_iadd 618 X dL_law_618 ?_
  refine tw_sld 619 X hX (i + 1) dL_law_619 (by omega) (by omega) hL ?_
  refine tu_callVI 620 X (st := []) (as := [tu_i ((xs (i + 1)).toInt)]) (c_X3_count ((xs (i + 1)).toInt) hI.ok (tu_rg_t _)) sv_RL_75 dL_law_620 rfl (by decide) rfl rfl rfl (Nat.le_of_ble_eq_true rfl) ⟨by decide, by decide⟩ (fun z1 M1 h1 => ?_)
  have h1 : tp_count M ((xs (i + 1)).toInt) z1 M1 := h1
  have f := tf_count h1
  have hR : tu_MB (tu_cb M) (M1 87) := by rw [f 87 (by decide)]; exact hI.mb
  refine tu_aload_n 623 X 1 dL_law_623 rfl ?_
  refine tu_aload_n 624 X 3 dL_law_624 rfl ?_
  refine tu_iload_n 625 X 0 dL_law_625 rfl ?_
  refine tu_iconst 626 X dL_law_626 ?_
  refine tu_iadd 627 X dL_law_627 ?_
  refine tw_sld 628 X hX (i + 1) dL_law_628 (by omega) (by omega) hL ?_
  refine tu_callVI 629 X (st := [tu_i z1]) (as := [tu_i ((xs (i + 1)).toInt)]) (c_X4_count (tu_cb M) ((xs (i + 1)).toInt) hI.ok hR (tu_rg_t _)) sv_RL_78 dL_law_629 rfl (by decide) rfl rfl rfl (Nat.le_of_ble_eq_true rfl) ⟨by decide, by decide⟩ (fun z2 M2 h2 => ?_)
  have h2 : tq_count M M1 ((xs (i + 1)).toInt) z2 M2 := h2
  obtain ⟨e9, hI2⟩ := tw_count hI h1 h2
  refine tw_ieq 632 X 1032 dL_law_632 (by decide) e9 ?_
  exact next M2 hI2
set_option maxRecDepth 20000 in
set_option maxHeartbeats 4000000 in
theorem tl_15 {T : tu_T} (X : tu_X T cL_law RL 10 364) {L : Nat} {xs : Nat → Int32} (hX : tw_SC T L xs) {i : Nat} (hi : i + 5 ≤ L) (hL : L ≤ 2560) {M : tu_M} (hI : tw_I M) (next : ∀ N, tw_I N → tu_W T 1032 (tw_lv i) [] N) : tu_W T 637 (tw_lv i) [] M := by
  by_cases hz : (xs (i + 1)).toInt = 0
  ·
    refine tu_aload_n 637 X 2 dL_law_637 rfl ?_
    refine tu_aload_n 638 X 3 dL_law_638 rfl ?_
    refine tu_iload_n 639 X 0 dL_law_639 rfl ?_
    refine tu_iconst 640 X dL_law_640 ?_
    refine tu_iadd 641 X dL_law_641 ?_
    refine tw_sld 642 X hX (i + 1) dL_law_642 (by omega) (by omega) hL ?_
    refine tu_if_eq 643 X 650 dL_law_643 (by decide) (tu_rg_t _) (fun _ => ?_) (fun br => absurd hz br)
    refine tu_iconst 650 X dL_law_650 ?_
    refine tu_aload_n 651 X 3 dL_law_651 rfl ?_
    refine tu_iload_n 652 X 0 dL_law_652 rfl ?_
    refine tu_iconst 653 X dL_law_653 ?_
    refine tu_iadd 654 X dL_law_654 ?_
    refine tw_sld 655 X hX (i + 2) dL_law_655 (by omega) (by omega) hL ?_
    refine tu_callVI 656 X (st := []) (as := [tu_i 0, tu_i ((xs (i + 2)).toInt)]) (c_X3_at 0 ((xs (i + 2)).toInt) hI.ok ⟨by decide, by decide⟩ (tu_rg_t _) (Or.inl rfl)) sv_RL_79 dL_law_656 rfl (by decide) rfl rfl rfl (Nat.le_of_ble_eq_true rfl) ⟨by decide, by decide⟩ (fun z1 M1 h1 => ?_)
    have h1 : tp_at M 0 ((xs (i + 2)).toInt) z1 M1 := h1
    have f := tf_at h1
    have hR : tu_MB (tu_cb M) (M1 87) := by rw [f 87 (by decide)]; exact hI.mb
    refine tu_aload_n 659 X 1 dL_law_659 rfl ?_
    refine tu_aload_n 660 X 3 dL_law_660 rfl ?_
    refine tu_iload_n 661 X 0 dL_law_661 rfl ?_
    refine tu_iconst 662 X dL_law_662 ?_
    refine tu_iadd 663 X dL_law_663 ?_
    refine tw_sld 664 X hX (i + 1) dL_law_664 (by omega) (by omega) hL ?_
    refine tu_if_eq 665 X 672 dL_law_665 (by decide) (tu_rg_t _) (fun _ => ?_) (fun br => absurd hz br)
    refine tu_iconst 672 X dL_law_672 ?_
    refine tu_aload_n 673 X 3 dL_law_673 rfl ?_
    refine tu_iload_n 674 X 0 dL_law_674 rfl ?_
    refine tu_iconst 675 X dL_law_675 ?_
    refine tu_iadd 676 X dL_law_676 ?_
    refine tw_sld 677 X hX (i + 2) dL_law_677 (by omega) (by omega) hL ?_
    refine tu_callVI 678 X (st := [tu_i z1]) (as := [tu_i 0, tu_i ((xs (i + 2)).toInt)]) (c_X4_at (tu_cb M) 0 ((xs (i + 2)).toInt) hI.ok hR ⟨by decide, by decide⟩ (tu_rg_t _) (Or.inl rfl)) sv_RL_83 dL_law_678 rfl (by decide) rfl rfl rfl (Nat.le_of_ble_eq_true rfl) ⟨by decide, by decide⟩ (fun z2 M2 h2 => ?_)
    have h2 : tq_at M M1 0 ((xs (i + 2)).toInt) z2 M2 := h2
    obtain ⟨e9, hI2⟩ := tw_at hI h1 h2
    refine tw_ieq 681 X 1032 dL_law_681 (by decide) e9 ?_
    exact next M2 hI2
  ·
    refine tu_aload_n 637 X 2 dL_law_637 rfl ?_
    refine tu_aload_n 638 X 3 dL_law_638 rfl ?_
    refine tu_iload_n 639 X 0 dL_law_639 rfl ?_
    refine tu_iconst 640 X dL_law_640 ?_
    refine tu_iadd 641 X dL_law_641 ?_
    refine tw_sld 642 X hX (i + 1) dL_law_642 (by omega) (by omega) hL ?_
    refine tu_if_eq 643 X 650 dL_law_643 (by decide) (tu_rg_t _) (fun br => absurd br hz) (fun _ => ?_)
    refine tu_iconst 646 X dL_law_646 ?_
    refine tu_goto 647 X 651 dL_law_647 (by decide) ?_
    refine tu_aload_n 651 X 3 dL_law_651 rfl ?_
    refine tu_iload_n 652 X 0 dL_law_652 rfl ?_
    refine tu_iconst 653 X dL_law_653 ?_
    refine tu_iadd 654 X dL_law_654 ?_
    refine tw_sld 655 X hX (i + 2) dL_law_655 (by omega) (by omega) hL ?_
    refine tu_callVI 656 X (st := []) (as := [tu_i 1, tu_i ((xs (i + 2)).toInt)]) (c_X3_at 1 ((xs (i + 2)).toInt) hI.ok ⟨by decide, by decide⟩ (tu_rg_t _) (Or.inr rfl)) sv_RL_79 dL_law_656 rfl (by decide) rfl rfl rfl (Nat.le_of_ble_eq_true rfl) ⟨by decide, by decide⟩ (fun z1 M1 h1 => ?_)
    have h1 : tp_at M 1 ((xs (i + 2)).toInt) z1 M1 := h1
    have f := tf_at h1
    have hR : tu_MB (tu_cb M) (M1 87) := by rw [f 87 (by decide)]; exact hI.mb
    refine tu_aload_n 659 X 1 dL_law_659 rfl ?_
    refine tu_aload_n 660 X 3 dL_law_660 rfl ?_
    refine tu_iload_n 661 X 0 dL_law_661 rfl ?_
    refine tu_iconst 662 X dL_law_662 ?_
    refine tu_iadd 663 X dL_law_663 ?_
    refine tw_sld 664 X hX (i + 1) dL_law_664 (by omega) (by omega) hL ?_
    refine tu_if_eq 665 X 672 dL_law_665 (by decide) (tu_rg_t _) (fun br => absurd br hz) (fun _ => ?_)
    refine tu_iconst 668 X dL_law_668 ?_
    refine tu_goto 669 X 673 dL_law_669 (by decide) ?_
    refine tu_aload_n 673 X 3 dL_law_673 rfl ?_
    refine tu_iload_n 674 X 0 dL_law_674 rfl ?_
    refine tu_iconst 675 X dL_law_675 ?_
    refine tu_iadd 676 X dL_law_676 ?_
    refine tw_sld 677 X hX (i + 2) dL_law_677 (by omega) (by omega) hL ?_
    refine tu_callVI 678 X (st := [tu_i z1]) (as := [tu_i 1, tu_i ((xs (i + 2)).toInt)]) (c_X4_at (tu_cb M) 1 ((xs (i + 2)).toInt) hI.ok hR ⟨by decide, by decide⟩ (tu_rg_t _) (Or.inr rfl)) sv_RL_83 dL_law_678 rfl (by decide) rfl rfl rfl (Nat.le_of_ble_eq_true rfl) ⟨by decide, by decide⟩ (fun z2 M2 h2 => ?_)
    have h2 : tq_at M M1 1 ((xs (i + 2)).toInt) z2 M2 := h2
    obtain ⟨e9, hI2⟩ := tw_at hI h1 h2
    refine tw_ieq 681 X 1032 dL_law_681 (by decide) e9 ?_
    exact next M2 hI2
set_option maxRecDepth 20000 in
set_option maxHeartbeats 4000000 in
theorem tl_16 {T : tu_T} (X : tu_X T cL_law RL 10 364) {L : Nat} {xs : Nat → Int32} (hX : tw_SC T L xs) {i : Nat} (hi : i + 5 ≤ L) (hL : L ≤ 2560) {M : tu_M} (hI : tw_I M) (next : ∀ N, tw_I N → tu_W T 1032 (tw_lv i) [] N) : tu_W T 686 (tw_lv i) [] M := by
  refine tu_aload_n 686 X 2 dL_law_686 rfl ?_
  refine tu_aload_n 687 X 3 dL_law_687 rfl ?_
  refine tu_iload_n 688 X 0 dL_law_688 rfl ?_
  refine tu_iconst 689 X dL_law_689 ?_
  refine tu_iadd 690 X dL_law_690 ?_
  refine tw_sld 691 X hX (i + 1) dL_law_691 (by omega) (by omega) hL ?_
  refine tu_aload_n 692 X 3 dL_law_692 rfl ?_
  refine tu_iload_n 693 X 0 dL_law_693 rfl ?_
  refine tu_iconst 694 X dL_law_694 ?_
  refine tu_iadd 695 X dL_law_695 ?_
  refine tw_sld 696 X hX (i + 2) dL_law_696 (by omega) (by omega) hL ?_
  refine tu_aload_n 697 X 3 dL_law_697 rfl ?_
  refine tu_iload_n 698 X 0 dL_law_698 rfl ?_
  refine tu_iconst 699 X dL_law_699 ?_
  refine tu_iadd 700 X dL_law_700 ?_
  refine tw_sld 701 X hX (i + 3) dL_law_701 (by omega) (by omega) hL ?_
  refine tu_callVI 702 X (st := []) (as := [tu_i ((xs (i + 1)).toInt), tu_i ((xs (i + 2)).toInt), tu_i ((xs (i + 3)).toInt)]) (c_X3_fit ((xs (i + 1)).toInt) ((xs (i + 2)).toInt) ((xs (i + 3)).toInt) hI.ok (tu_rg_t _) (tu_rg_t _) (tu_rg_t _)) sv_RL_84 dL_law_702 rfl (by decide) rfl rfl rfl (Nat.le_of_ble_eq_true rfl) ⟨by decide, by decide⟩ (fun z1 M1 h1 => ?_)
  have h1 : tp_fit M ((xs (i + 1)).toInt) ((xs (i + 2)).toInt) ((xs (i + 3)).toInt) z1 M1 := h1
  have f := tf_fit h1
  have hR : tu_MB (tu_cb M) (M1 87) := by rw [f 87 (by decide)]; exact hI.mb
  refine tu_aload_n 705 X 1 dL_law_705 rfl ?_
  refine tu_aload_n 706 X 3 dL_law_706 rfl ?_
  refine tu_iload_n 707 X 0 dL_law_707 rfl ?_
  refine tu_iconst 708 X dL_law_708 ?_
  refine tu_iadd 709 X dL_law_709 ?_
  refine tw_sld 710 X hX (i + 1) dL_law_710 (by omega) (by omega) hL ?_
  refine tu_aload_n 711 X 3 dL_law_711 rfl ?_
  refine tu_iload_n 712 X 0 dL_law_712 rfl ?_
  refine tu_iconst 713 X dL_law_713 ?_
  refine tu_iadd 714 X dL_law_714 ?_
  refine tw_sld 715 X hX (i + 2) dL_law_715 (by omega) (by omega) hL ?_
  refine tu_aload_n 716 X 3 dL_law_716 rfl ?_
  refine tu_iload_n 717 X 0 dL_law_717 rfl ?_
  refine tu_iconst 718 X dL_law_718 ?_
  refine tu_iadd 719 X dL_law_719 ?_
  refine tw_sld 720 X hX (i + 3) dL_law_720 (by omega) (by omega) hL ?_
  refine tu_callVI 721 X (st := [tu_i z1]) (as := [tu_i ((xs (i + 1)).toInt), tu_i ((xs (i + 2)).toInt), tu_i ((xs (i + 3)).toInt)]) (c_X4_fit (tu_cb M) ((xs (i + 1)).toInt) ((xs (i + 2)).toInt) ((xs (i + 3)).toInt) z1 hI.ok hR (tu_rg_t _) (tu_rg_t _) (tu_rg_t _) (fun hg => tw_fitF h1 hg)) sv_RL_87 dL_law_721 rfl (by decide) rfl rfl rfl (Nat.le_of_ble_eq_true rfl) ⟨by decide, by decide⟩ (fun z2 M2 h2 => ?_)
  have h2 : tq_fit M M1 ((xs (i + 1)).toInt) ((xs (i + 2)).toInt) ((xs (i + 3)).toInt) z1 z2 M2 := h2
  obtain ⟨e9, hI2⟩ := tw_fit hI h1 h2
  refine tw_ieq 724 X 1032 dL_law_724 (by decide) e9 ?_
  exact next M2 hI2
set_option maxRecDepth 20000 in
set_option maxHeartbeats 4000000 in
theorem tl_17 {T : tu_T} (X : tu_X T cL_law RL 10 364) {L : Nat} {xs : Nat → Int32} (hX : tw_SC T L xs) {i : Nat} (hi : i + 5 ≤ L) (hL : L ≤ 2560) {M : tu_M} (hI : tw_I M) (next : ∀ N, tw_I N → tu_W T 1032 (tw_lv i) [] N) : tu_W T 729 (tw_lv i) [] M := by
  refine tu_aload_n 729 X 2 dL_law_729 rfl ?_
  refine tu_aload_n 730 X 3 dL_law_730 rfl ?_
  refine tu_iload_n 731 X 0 dL_law_731 rfl ?_
  refine tu_iconst 732 X dL_law_732 ?_
  refine tu_iadd 733 X dL_law_733 ?_
  refine tw_sld 734 X hX (i + 1) dL_law_734 (by omega) (by omega) hL ?_
  refine tu_aload_n 735 X 3 dL_law_735 rfl ?_
  refine tu_iload_n 736 X 0 dL_law_736 rfl ?_
  refine tu_iconst 737 X dL_law_737 ?_
  refine tu_iadd 738 X dL_law_738 ?_
  refine tw_sld 739 X hX (i + 2) dL_law_739 (by omega) (by omega) hL ?_
  refine tu_aload_n 740 X 3 dL_law_740 rfl ?_
  refine tu_iload_n 741 X 0 dL_law_741 rfl ?_
  refine tu_iconst 742 X dL_law_742 ?_
  refine tu_iadd 743 X dL_law_743 ?_
  refine tw_sld 744 X hX (i + 3) dL_law_744 (by omega) (by omega) hL ?_
  refine tu_aload_n 745 X 3 dL_law_745 rfl ?_
  refine tu_iload_n 746 X 0 dL_law_746 rfl ?_
  refine tu_iconst 747 X dL_law_747 ?_
  refine tu_iadd 748 X dL_law_748 ?_
  refine tw_sld 749 X hX (i + 4) dL_law_749 (by omega) (by omega) hL ?_
  refine tu_callVI 750 X (st := []) (as := [tu_i ((xs (i + 1)).toInt), tu_i ((xs (i + 2)).toInt), tu_i ((xs (i + 3)).toInt), tu_i ((xs (i + 4)).toInt)]) (c_X3_lies ((xs (i + 1)).toInt) ((xs (i + 2)).toInt) ((xs (i + 3)).toInt) ((xs (i + 4)).toInt) hI.ok (tu_rg_t _) (tu_rg_t _) (tu_rg_t _) (tu_rg_t _)) sv_RL_88 dL_law_750 rfl (by decide) rfl rfl rfl (Nat.le_of_ble_eq_true rfl) ⟨by decide, by decide⟩ (fun z1 M1 h1 => ?_)
  have h1 : tp_lies M ((xs (i + 1)).toInt) ((xs (i + 2)).toInt) ((xs (i + 3)).toInt) ((xs (i + 4)).toInt) z1 M1 := h1
  have f := tf_lies h1
  have hR : tu_MB (tu_cb M) (M1 87) := by rw [f 87 (by decide)]; exact hI.mb
  refine tu_aload_n 753 X 1 dL_law_753 rfl ?_
  refine tu_aload_n 754 X 3 dL_law_754 rfl ?_
  refine tu_iload_n 755 X 0 dL_law_755 rfl ?_
  refine tu_iconst 756 X dL_law_756 ?_
  refine tu_iadd 757 X dL_law_757 ?_
  refine tw_sld 758 X hX (i + 1) dL_law_758 (by omega) (by omega) hL ?_
  refine tu_aload_n 759 X 3 dL_law_759 rfl ?_
  refine tu_iload_n 760 X 0 dL_law_760 rfl ?_
  refine tu_iconst 761 X dL_law_761 ?_
  refine tu_iadd 762 X dL_law_762 ?_
  refine tw_sld 763 X hX (i + 2) dL_law_763 (by omega) (by omega) hL ?_
  refine tu_aload_n 764 X 3 dL_law_764 rfl ?_
  refine tu_iload_n 765 X 0 dL_law_765 rfl ?_
  refine tu_iconst 766 X dL_law_766 ?_
  refine tu_iadd 767 X dL_law_767 ?_
  refine tw_sld 768 X hX (i + 3) dL_law_768 (by omega) (by omega) hL ?_
  refine tu_aload_n 769 X 3 dL_law_769 rfl ?_
  refine tu_iload_n 770 X 0 dL_law_770 rfl ?_
  refine tu_iconst 771 X dL_law_771 ?_
  refine tu_iadd 772 X dL_law_772 ?_
  refine tw_sld 773 X hX (i + 4) dL_law_773 (by omega) (by omega) hL ?_
  refine tu_callVI 774 X (st := [tu_i z1]) (as := [tu_i ((xs (i + 1)).toInt), tu_i ((xs (i + 2)).toInt), tu_i ((xs (i + 3)).toInt), tu_i ((xs (i + 4)).toInt)]) (c_X4_lies (tu_cb M) ((xs (i + 1)).toInt) ((xs (i + 2)).toInt) ((xs (i + 3)).toInt) ((xs (i + 4)).toInt) z1 hI.ok hR (tu_rg_t _) (tu_rg_t _) (tu_rg_t _) (tu_rg_t _) (fun hg => tw_liesF h1 hg)) sv_RL_92 dL_law_774 rfl (by decide) rfl rfl rfl (Nat.le_of_ble_eq_true rfl) ⟨by decide, by decide⟩ (fun z2 M2 h2 => ?_)
  have h2 : tq_lies M M1 ((xs (i + 1)).toInt) ((xs (i + 2)).toInt) ((xs (i + 3)).toInt) ((xs (i + 4)).toInt) z1 z2 M2 := h2
  obtain ⟨e9, hI2⟩ := tw_lies hI h1 h2
  refine tw_ieq 777 X 1032 dL_law_777 (by decide) e9 ?_
  exact next M2 hI2
set_option maxRecDepth 20000 in
set_option maxHeartbeats 4000000 in
theorem tl_18 {T : tu_T} (X : tu_X T cL_law RL 10 364) {L : Nat} {xs : Nat → Int32} (hX : tw_SC T L xs) {i : Nat} (hi : i + 5 ≤ L) (hL : L ≤ 2560) {M : tu_M} (hI : tw_I M) (next : ∀ N, tw_I N → tu_W T 1032 (tw_lv i) [] N) : tu_W T 782 (tw_lv i) [] M := by
  refine tu_aload_n 782 X 2 dL_law_782 rfl ?_
  refine tu_aload_n 783 X 3 dL_law_783 rfl ?_
  refine tu_iload_n 784 X 0 dL_law_784 rfl ?_
  refine tu_iconst 785 X dL_law_785 ?_
  refine tu_iadd 786 X dL_law_786 ?_
  refine tw_sld 787 X hX (i + 1) dL_law_787 (by omega) (by omega) hL ?_
  refine tu_callVI 788 X (st := []) (as := [tu_i ((xs (i + 1)).toInt)]) (c_X3_whole ((xs (i + 1)).toInt) hI.ok (tu_rg_t _)) sv_RL_93 dL_law_788 rfl (by decide) rfl rfl rfl (Nat.le_of_ble_eq_true rfl) ⟨by decide, by decide⟩ (fun z1 M1 h1 => ?_)
  have h1 : tp_whole M ((xs (i + 1)).toInt) z1 M1 := h1
  have f := tf_whole h1
  have hR : tu_MB (tu_cb M) (M1 87) := by rw [f 87 (by decide)]; exact hI.mb
  refine tu_aload_n 791 X 1 dL_law_791 rfl ?_
  refine tu_aload_n 792 X 3 dL_law_792 rfl ?_
  refine tu_iload_n 793 X 0 dL_law_793 rfl ?_
  refine tu_iconst 794 X dL_law_794 ?_
  refine tu_iadd 795 X dL_law_795 ?_
  refine tw_sld 796 X hX (i + 1) dL_law_796 (by omega) (by omega) hL ?_
  refine tu_callVI 797 X (st := [tu_i z1]) (as := [tu_i ((xs (i + 1)).toInt)]) (c_X4_whole (tu_cb M) ((xs (i + 1)).toInt) hI.ok hR (tu_rg_t _)) sv_RL_96 dL_law_797 rfl (by decide) rfl rfl rfl (Nat.le_of_ble_eq_true rfl) ⟨by decide, by decide⟩ (fun z2 M2 h2 => ?_)
  have h2 : tq_whole M M1 ((xs (i + 1)).toInt) z2 M2 := h2
  obtain ⟨e9, hI2⟩ := tw_whole hI h1 h2
  refine tw_ieq 800 X 1032 dL_law_800 (by decide) e9 ?_
  exact next M2 hI2
set_option maxRecDepth 20000 in
set_option maxHeartbeats 4000000 in
theorem tl_19 {T : tu_T} (X : tu_X T cL_law RL 10 364) {L : Nat} {xs : Nat → Int32} (hX : tw_SC T L xs) {i : Nat} (hi : i + 5 ≤ L) (hL : L ≤ 2560) {M : tu_M} (hI : tw_I M) (next : ∀ N, tw_I N → tu_W T 1032 (tw_lv i) [] N) : tu_W T 805 (tw_lv i) [] M := by
  refine tu_aload_n 805 X 2 dL_law_805 rfl ?_
  refine tu_callVI 806 X (st := []) (as := []) (c_X3_bestPhrase hI.ok) sv_RL_97 dL_law_806 rfl (by decide) rfl rfl rfl (Nat.le_of_ble_eq_true rfl) ⟨by decide, by decide⟩ (fun z1 M1 h1 => ?_)
  have h1 : tp_bestPhrase M  z1 M1 := h1
  have f := tf_bestPhrase h1
  have hR : tu_MB (tu_cb M) (M1 87) := by rw [f 87 (by decide)]; exact hI.mb
  refine tu_aload_n 809 X 1 dL_law_809 rfl ?_
  refine tu_callVI 810 X (st := [tu_i z1]) (as := []) (c_X4_bestPhrase (tu_cb M) hI.ok hR) sv_RL_100 dL_law_810 rfl (by decide) rfl rfl rfl (Nat.le_of_ble_eq_true rfl) ⟨by decide, by decide⟩ (fun z2 M2 h2 => ?_)
  have h2 : tq_bestPhrase M M1  z2 M2 := h2
  obtain ⟨e9, hI2⟩ := tw_bestPhrase hI h1 h2
  refine tw_ieq 813 X 1032 dL_law_813 (by decide) e9 ?_
  exact next M2 hI2
set_option maxRecDepth 20000 in
set_option maxHeartbeats 4000000 in
theorem tl_20 {T : tu_T} (X : tu_X T cL_law RL 10 364) {L : Nat} {xs : Nat → Int32} (hX : tw_SC T L xs) {i : Nat} (hi : i + 5 ≤ L) (hL : L ≤ 2560) {M : tu_M} (hI : tw_I M) (next : ∀ N, tw_I N → tu_W T 1032 (tw_lv i) [] N) : tu_W T 818 (tw_lv i) [] M := by
  refine tu_aload_n 818 X 2 dL_law_818 rfl ?_
  refine tu_aload_n 819 X 3 dL_law_819 rfl ?_
  refine tu_iload_n 820 X 0 dL_law_820 rfl ?_
  refine tu_iconst 821 X dL_law_821 ?_
  refine tu_iadd 822 X dL_law_822 ?_
  refine tw_sld 823 X hX (i + 1) dL_law_823 (by omega) (by omega) hL ?_
  refine tu_aload_n 824 X 3 dL_law_824 rfl ?_
  refine tu_iload_n 825 X 0 dL_law_825 rfl ?_
  refine tu_iconst 826 X dL_law_826 ?_
  refine tu_iadd 827 X dL_law_827 ?_
  refine tw_sld 828 X hX (i + 2) dL_law_828 (by omega) (by omega) hL ?_
  refine tu_aload_n 829 X 3 dL_law_829 rfl ?_
  refine tu_iload_n 830 X 0 dL_law_830 rfl ?_
  refine tu_iconst 831 X dL_law_831 ?_
  refine tu_iadd 832 X dL_law_832 ?_
  refine tw_sld 833 X hX (i + 3) dL_law_833 (by omega) (by omega) hL ?_
  refine tu_callVI 834 X (st := []) (as := [tu_i ((xs (i + 1)).toInt), tu_i ((xs (i + 2)).toInt), tu_i ((xs (i + 3)).toInt)]) (c_X3_bestChange ((xs (i + 1)).toInt) ((xs (i + 2)).toInt) ((xs (i + 3)).toInt) hI.ok (tu_rg_t _) (tu_rg_t _) (tu_rg_t _)) sv_RL_101 dL_law_834 rfl (by decide) rfl rfl rfl (Nat.le_of_ble_eq_true rfl) ⟨by decide, by decide⟩ (fun z1 M1 h1 => ?_)
  have h1 : tp_bestChange M ((xs (i + 1)).toInt) ((xs (i + 2)).toInt) ((xs (i + 3)).toInt) z1 M1 := h1
  have f := tf_bestChange h1
  have hR : tu_MB (tu_cb M) (M1 87) := by rw [f 87 (by decide)]; exact hI.mb
  refine tu_aload_n 837 X 1 dL_law_837 rfl ?_
  refine tu_aload_n 838 X 3 dL_law_838 rfl ?_
  refine tu_iload_n 839 X 0 dL_law_839 rfl ?_
  refine tu_iconst 840 X dL_law_840 ?_
  refine tu_iadd 841 X dL_law_841 ?_
  refine tw_sld 842 X hX (i + 1) dL_law_842 (by omega) (by omega) hL ?_
  refine tu_aload_n 843 X 3 dL_law_843 rfl ?_
  refine tu_iload_n 844 X 0 dL_law_844 rfl ?_
  refine tu_iconst 845 X dL_law_845 ?_
  refine tu_iadd 846 X dL_law_846 ?_
  refine tw_sld 847 X hX (i + 2) dL_law_847 (by omega) (by omega) hL ?_
  refine tu_aload_n 848 X 3 dL_law_848 rfl ?_
  refine tu_iload_n 849 X 0 dL_law_849 rfl ?_
  refine tu_iconst 850 X dL_law_850 ?_
  refine tu_iadd 851 X dL_law_851 ?_
  refine tw_sld 852 X hX (i + 3) dL_law_852 (by omega) (by omega) hL ?_
  refine tu_callVI 853 X (st := [tu_i z1]) (as := [tu_i ((xs (i + 1)).toInt), tu_i ((xs (i + 2)).toInt), tu_i ((xs (i + 3)).toInt)]) (c_X4_bestChange (tu_cb M) ((xs (i + 1)).toInt) ((xs (i + 2)).toInt) ((xs (i + 3)).toInt) hI.ok hR (tu_rg_t _) (tu_rg_t _) (tu_rg_t _)) sv_RL_104 dL_law_853 rfl (by decide) rfl rfl rfl (Nat.le_of_ble_eq_true rfl) ⟨by decide, by decide⟩ (fun z2 M2 h2 => ?_)
  have h2 : tq_bestChange M M1 ((xs (i + 1)).toInt) ((xs (i + 2)).toInt) ((xs (i + 3)).toInt) z2 M2 := h2
  obtain ⟨e9, hI2⟩ := tw_bestChange hI h1 h2
  refine tw_ieq 856 X 1032 dL_law_856 (by decide) e9 ?_
  exact next M2 hI2
set_option maxRecDepth 20000 in
set_option maxHeartbeats 4000000 in
theorem tl_21 {T : tu_T} (X : tu_X T cL_law RL 10 364) {L : Nat} {xs : Nat → Int32} (hX : tw_SC T L xs) {i : Nat} (hi : i + 5 ≤ L) (hL : L ≤ 2560) {M : tu_M} (hI : tw_I M) (next : ∀ N, tw_I N → tu_W T 1032 (tw_lv i) [] N) : tu_W T 861 (tw_lv i) [] M := by
  refine tu_aload_n 861 X 2 dL_law_861 rfl ?_
  refine tu_aload_n 862 X 3 dL_law_862 rfl ?_
  refine tu_iload_n 863 X 0 dL_law_863 rfl ?_
  refine tu_iconst 864 X dL_law_864 ?_
  refine tu_iadd 865 X dL_law_865 ?_
  refine tw_sld 866 X hX (i + 1) dL_law_866 (by omega) (by omega) hL ?_
  refine tu_aload_n 867 X 3 dL_law_867 rfl ?_
  refine tu_iload_n 868 X 0 dL_law_868 rfl ?_
  refine tu_iconst 869 X dL_law_869 ?_
  refine tu_iadd 870 X dL_law_870 ?_
  refine tw_sld 871 X hX (i + 2) dL_law_871 (by omega) (by omega) hL ?_
  refine tu_callVI 872 X (st := []) (as := [tu_i ((xs (i + 1)).toInt), tu_i ((xs (i + 2)).toInt)]) (c_X3_enoughBreath ((xs (i + 1)).toInt) ((xs (i + 2)).toInt) hI.ok (tu_rg_t _) (tu_rg_t _)) sv_RL_105 dL_law_872 rfl (by decide) rfl rfl rfl (Nat.le_of_ble_eq_true rfl) ⟨by decide, by decide⟩ (fun z1 M1 h1 => ?_)
  have h1 : tp_enoughBreath M ((xs (i + 1)).toInt) ((xs (i + 2)).toInt) z1 M1 := h1
  have f := tf_enoughBreath h1
  have hR : tu_MB (tu_cb M) (M1 87) := by rw [f 87 (by decide)]; exact hI.mb
  refine tu_aload_n 875 X 1 dL_law_875 rfl ?_
  refine tu_aload_n 876 X 3 dL_law_876 rfl ?_
  refine tu_iload_n 877 X 0 dL_law_877 rfl ?_
  refine tu_iconst 878 X dL_law_878 ?_
  refine tu_iadd 879 X dL_law_879 ?_
  refine tw_sld 880 X hX (i + 1) dL_law_880 (by omega) (by omega) hL ?_
  refine tu_aload_n 881 X 3 dL_law_881 rfl ?_
  refine tu_iload_n 882 X 0 dL_law_882 rfl ?_
  refine tu_iconst 883 X dL_law_883 ?_
  refine tu_iadd 884 X dL_law_884 ?_
  refine tw_sld 885 X hX (i + 2) dL_law_885 (by omega) (by omega) hL ?_
  refine tu_callVI 886 X (st := [tu_i z1]) (as := [tu_i ((xs (i + 1)).toInt), tu_i ((xs (i + 2)).toInt)]) (c_X4_enoughBreath (tu_cb M) ((xs (i + 1)).toInt) ((xs (i + 2)).toInt) hI.ok hR (tu_rg_t _) (tu_rg_t _)) sv_RL_108 dL_law_886 rfl (by decide) rfl rfl rfl (Nat.le_of_ble_eq_true rfl) ⟨by decide, by decide⟩ (fun z2 M2 h2 => ?_)
  have h2 : tq_enoughBreath M M1 ((xs (i + 1)).toInt) ((xs (i + 2)).toInt) z2 M2 := h2
  obtain ⟨e9, hI2⟩ := tw_enoughBreath hI h1 h2
  refine tw_ieq 889 X 1032 dL_law_889 (by decide) e9 ?_
  exact next M2 hI2
set_option maxRecDepth 20000 in
set_option maxHeartbeats 4000000 in
theorem tl_22 {T : tu_T} (X : tu_X T cL_law RL 10 364) {L : Nat} {xs : Nat → Int32} (hX : tw_SC T L xs) {i : Nat} (hi : i + 5 ≤ L) (hL : L ≤ 2560) {M : tu_M} (hI : tw_I M) (next : ∀ N, tw_I N → tu_W T 1032 (tw_lv i) [] N) : tu_W T 894 (tw_lv i) [] M := by
  refine tu_aload_n 894 X 2 dL_law_894 rfl ?_
  refine tu_aload_n 895 X 3 dL_law_895 rfl ?_
  refine tu_iload_n 896 X 0 dL_law_896 rfl ?_
  refine tu_iconst 897 X dL_law_897 ?_
  refine tu_iadd 898 X dL_law_898 ?_
  refine tw_sld 899 X hX (i + 1) dL_law_899 (by omega) (by omega) hL ?_
  refine tu_i2l 900 X dL_law_900 ?_
  refine tu_bipush 901 X dL_law_901 (by decide) ?_
  refine tw_lshl 903 X dL_law_903 ?_
  refine tu_aload_n 904 X 3 dL_law_904 rfl ?_
  refine tu_iload_n 905 X 0 dL_law_905 rfl ?_
  refine tu_iconst 906 X dL_law_906 ?_
  refine tu_iadd 907 X dL_law_907 ?_
  refine tw_sld 908 X hX (i + 2) dL_law_908 (by omega) (by omega) hL ?_
  refine tu_i2l 909 X dL_law_909 ?_
  refine tu_ldc2 910 X dL_law_910 kw_RL_109 rfl ?_
  refine tu_land 913 X dL_law_913 ?_
  refine tw_lor 914 X dL_law_914 ?_
  refine tu_callVI 915 X (st := []) (as := [tu_l (tw_or (tw_sl (tu_n64 (tu_J ((xs (i + 1)).toInt)).toInt64) 32) ((tu_n64 (tu_J ((xs (i + 2)).toInt)).toInt64) &&& 4294967295))]) (c_X3_put (tw_or (tw_sl (tu_n64 (tu_J ((xs (i + 1)).toInt)).toInt64) 32) ((tu_n64 (tu_J ((xs (i + 2)).toInt)).toInt64) &&& 4294967295)) hI.pd.1 (tu_n64_lt _)) sv_RL_111 dL_law_915 rfl (by decide) rfl rfl rfl (Nat.le_of_ble_eq_true rfl) ⟨by decide, by decide⟩ (fun z1 M1 h1 => ?_)
  have h1 : tp_put M (tw_or (tw_sl (tu_n64 (tu_J ((xs (i + 1)).toInt)).toInt64) 32) ((tu_n64 (tu_J ((xs (i + 2)).toInt)).toInt64) &&& 4294967295)) z1 M1 := h1
  have f := tf_put h1
  have hp : 0 ≤ M1 86 6 ∧ M1 86 6 ≤ 60 := by rw [f 86 (by decide), hI.pd.2.2.1]; exact hI.pd.1
  refine tu_aload_n 918 X 1 dL_law_918 rfl ?_
  refine tu_aload_n 919 X 3 dL_law_919 rfl ?_
  refine tu_iload_n 920 X 0 dL_law_920 rfl ?_
  refine tu_iconst 921 X dL_law_921 ?_
  refine tu_iadd 922 X dL_law_922 ?_
  refine tw_sld 923 X hX (i + 1) dL_law_923 (by omega) (by omega) hL ?_
  refine tu_i2l 924 X dL_law_924 ?_
  refine tu_bipush 925 X dL_law_925 (by decide) ?_
  refine tw_lshl 927 X dL_law_927 ?_
  refine tu_aload_n 928 X 3 dL_law_928 rfl ?_
  refine tu_iload_n 929 X 0 dL_law_929 rfl ?_
  refine tu_iconst 930 X dL_law_930 ?_
  refine tu_iadd 931 X dL_law_931 ?_
  refine tw_sld 932 X hX (i + 2) dL_law_932 (by omega) (by omega) hL ?_
  refine tu_i2l 933 X dL_law_933 ?_
  refine tu_ldc2 934 X dL_law_934 kw_RL_109 rfl ?_
  refine tu_land 937 X dL_law_937 ?_
  refine tw_lor 938 X dL_law_938 ?_
  refine tu_callVI 939 X (st := [tu_i z1]) (as := [tu_l (tw_or (tw_sl (tu_n64 (tu_J ((xs (i + 1)).toInt)).toInt64) 32) ((tu_n64 (tu_J ((xs (i + 2)).toInt)).toInt64) &&& 4294967295))]) (c_X4_put (tw_or (tw_sl (tu_n64 (tu_J ((xs (i + 1)).toInt)).toInt64) 32) ((tu_n64 (tu_J ((xs (i + 2)).toInt)).toInt64) &&& 4294967295)) hp (tu_n64_lt _)) sv_RL_115 dL_law_939 rfl (by decide) rfl rfl rfl (Nat.le_of_ble_eq_true rfl) ⟨by decide, by decide⟩ (fun z2 M2 h2 => ?_)
  have h2 : tq_put M M1 (tw_or (tw_sl (tu_n64 (tu_J ((xs (i + 1)).toInt)).toInt64) 32) ((tu_n64 (tu_J ((xs (i + 2)).toInt)).toInt64) &&& 4294967295)) z2 M2 := h2
  obtain ⟨e9, hI2⟩ := tw_put hI h1 h2
  refine tw_ieq 942 X 1032 dL_law_942 (by decide) e9 ?_
  exact next M2 hI2
set_option maxRecDepth 20000 in
set_option maxHeartbeats 4000000 in
theorem tl_23 {T : tu_T} (X : tu_X T cL_law RL 10 364) {L : Nat} {xs : Nat → Int32} (hX : tw_SC T L xs) {i : Nat} (hi : i + 5 ≤ L) (hL : L ≤ 2560) {M : tu_M} (hI : tw_I M) (next : ∀ N, tw_I N → tu_W T 1032 (tw_lv i) [] N) : tu_W T 947 (tw_lv i) [] M := by
  refine tu_aload_n 947 X 2 dL_law_947 rfl ?_
  refine tu_callVI 948 X (st := []) (as := []) c_X3_wipe sv_RL_116 dL_law_948 rfl (by decide) rfl rfl rfl (Nat.le_of_ble_eq_true rfl) ⟨by decide, by decide⟩ (fun z1 M1 h1 => ?_)
  have h1 : tp_wipe M  z1 M1 := h1
  have f := tf_wipe h1
  refine tu_aload_n 951 X 1 dL_law_951 rfl ?_
  refine tu_callVI 952 X (st := [tu_i z1]) (as := []) c_X4_wipe sv_RL_119 dL_law_952 rfl (by decide) rfl rfl rfl (Nat.le_of_ble_eq_true rfl) ⟨by decide, by decide⟩ (fun z2 M2 h2 => ?_)
  have h2 : tq_wipe M M1  z2 M2 := h2
  obtain ⟨e9, hI2⟩ := tw_wipe hI h1 h2
  refine tw_ieq 955 X 1032 dL_law_955 (by decide) e9 ?_
  exact next M2 hI2
set_option maxRecDepth 20000 in
set_option maxHeartbeats 4000000 in
theorem tl_24 {T : tu_T} (X : tu_X T cL_law RL 10 364) {L : Nat} {xs : Nat → Int32} (hX : tw_SC T L xs) {i : Nat} (hi : i + 5 ≤ L) (hL : L ≤ 2560) {M : tu_M} (hI : tw_I M) (next : ∀ N, tw_I N → tu_W T 1032 (tw_lv i) [] N) : tu_W T 960 (tw_lv i) [] M := by
  refine tu_aload_n 960 X 2 dL_law_960 rfl ?_
  refine tu_callVI 961 X (st := []) (as := []) (c_X3_fault hI.pd.1 hI.pd.2.1) sv_RL_120 dL_law_961 rfl (by decide) rfl rfl rfl (Nat.le_of_ble_eq_true rfl) ⟨by decide, by decide⟩ (fun z1 M1 h1 => ?_)
  have h1 : tp_fault M  z1 M1 := h1
  have f := tf_fault h1
  have hp : 0 ≤ M1 86 6 ∧ M1 86 6 ≤ 60 := by rw [f 86 (by decide), hI.pd.2.2.1]; exact hI.pd.1
  have hr : ∀ k9 : Nat, (k9 : Int) < M1 86 6 → tu_rg (M1 91 k9) := fun k9 hk9 => by
    rw [f 86 (by decide), hI.pd.2.2.1] at hk9
    rw [f 91 (by decide), hI.pd.2.2.2 k9 hk9]
    exact hI.pd.2.1 k9 hk9
  refine tu_aload_n 964 X 1 dL_law_964 rfl ?_
  refine tu_callVI 965 X (st := [tu_i z1]) (as := []) (c_X4_fault hp hr) sv_RL_123 dL_law_965 rfl (by decide) rfl rfl rfl (Nat.le_of_ble_eq_true rfl) ⟨by decide, by decide⟩ (fun z2 M2 h2 => ?_)
  have h2 : tq_fault M M1  z2 M2 := h2
  obtain ⟨e9, hI2⟩ := tw_fault hI h1 h2
  refine tw_ieq 968 X 1032 dL_law_968 (by decide) e9 ?_
  exact next M2 hI2
set_option maxRecDepth 20000 in
set_option maxHeartbeats 4000000 in
theorem tl_25 {T : tu_T} (X : tu_X T cL_law RL 10 364) {L : Nat} {xs : Nat → Int32} (hX : tw_SC T L xs) {i : Nat} (hi : i + 5 ≤ L) (hL : L ≤ 2560) {M : tu_M} (hI : tw_I M) (next : ∀ N, tw_I N → tu_W T 1032 (tw_lv i) [] N) : tu_W T 973 (tw_lv i) [] M := by
  refine tu_aload_n 973 X 2 dL_law_973 rfl ?_
  refine tu_callVI 974 X (st := []) (as := []) (c_X3_undo hI.hs) sv_RL_124 dL_law_974 rfl (by decide) rfl rfl rfl (Nat.le_of_ble_eq_true rfl) ⟨by decide, by decide⟩ (fun z1 M1 h1 => ?_)
  have h1 : tp_undo M  z1 M1 := h1
  have f := tf_undo h1
  have hh : 0 ≤ M1 86 2 ∧ M1 86 2 ≤ 6 := by rw [f 86 (by decide), hI.e2]; exact hI.hs.2.1
  refine tu_aload_n 977 X 1 dL_law_977 rfl ?_
  refine tu_callVI 978 X (st := [tu_i z1]) (as := []) (c_X4_undo hh) sv_RL_127 dL_law_978 rfl (by decide) rfl rfl rfl (Nat.le_of_ble_eq_true rfl) ⟨by decide, by decide⟩ (fun z2 M2 h2 => ?_)
  have h2 : tq_undo M M1  z2 M2 := h2
  obtain ⟨e9, hI2⟩ := tw_undo hI h1 h2
  refine tw_ieq 981 X 1032 dL_law_981 (by decide) e9 ?_
  exact next M2 hI2
set_option maxRecDepth 20000 in
set_option maxHeartbeats 4000000 in
theorem tl_26 {T : tu_T} (X : tu_X T cL_law RL 10 364) {L : Nat} {xs : Nat → Int32} (hX : tw_SC T L xs) {i : Nat} (hi : i + 5 ≤ L) (hL : L ≤ 2560) {M : tu_M} (hI : tw_I M) (next : ∀ N, tw_I N → tu_W T 1032 (tw_lv i) [] N) : tu_W T 986 (tw_lv i) [] M := by
  refine tu_aload_n 986 X 2 dL_law_986 rfl ?_
  refine tu_aload_n 987 X 3 dL_law_987 rfl ?_
  refine tu_iload_n 988 X 0 dL_law_988 rfl ?_
  refine tu_iconst 989 X dL_law_989 ?_
  refine tu_iadd 990 X dL_law_990 ?_
  refine tw_sld 991 X hX (i + 1) dL_law_991 (by omega) (by omega) hL ?_
  refine tu_callVI 992 X (st := []) (as := [tu_i ((xs (i + 1)).toInt)]) (c_X3_save ((xs (i + 1)).toInt) hI.hs (tu_rg_t _)) sv_RL_128 dL_law_992 rfl (by decide) rfl rfl rfl (Nat.le_of_ble_eq_true rfl) ⟨by decide, by decide⟩ (fun z1 M1 h1 => ?_)
  have h1 : tp_save M ((xs (i + 1)).toInt) z1 M1 := h1
  have f := tf_save h1
  refine tu_aload_n 995 X 1 dL_law_995 rfl ?_
  refine tu_aload_n 996 X 3 dL_law_996 rfl ?_
  refine tu_iload_n 997 X 0 dL_law_997 rfl ?_
  refine tu_iconst 998 X dL_law_998 ?_
  refine tu_iadd 999 X dL_law_999 ?_
  refine tw_sld 1000 X hX (i + 1) dL_law_1000 (by omega) (by omega) hL ?_
  refine tu_callVI 1001 X (st := [tu_i z1]) (as := [tu_i ((xs (i + 1)).toInt)]) (c_X4_save ((xs (i + 1)).toInt) (tu_rg_t _)) sv_RL_131 dL_law_1001 rfl (by decide) rfl rfl rfl (Nat.le_of_ble_eq_true rfl) ⟨by decide, by decide⟩ (fun z2 M2 h2 => ?_)
  have h2 : tq_save M M1 ((xs (i + 1)).toInt) z2 M2 := h2
  obtain ⟨e9, hI2⟩ := tw_save hI h1 h2
  refine tw_ieq 1004 X 1032 dL_law_1004 (by decide) e9 ?_
  exact next M2 hI2
set_option maxRecDepth 20000 in
set_option maxHeartbeats 4000000 in
theorem tl_27 {T : tu_T} (X : tu_X T cL_law RL 10 364) {L : Nat} {xs : Nat → Int32} (hX : tw_SC T L xs) {i : Nat} (hi : i + 5 ≤ L) (hL : L ≤ 2560) {M : tu_M} (hI : tw_I M) (next : ∀ N, tw_I N → tu_W T 1032 (tw_lv i) [] N) : tu_W T 1009 (tw_lv i) [] M := by
  refine tu_aload_n 1009 X 2 dL_law_1009 rfl ?_
  refine tu_aload_n 1010 X 3 dL_law_1010 rfl ?_
  refine tu_iload_n 1011 X 0 dL_law_1011 rfl ?_
  refine tu_iconst 1012 X dL_law_1012 ?_
  refine tu_iadd 1013 X dL_law_1013 ?_
  refine tw_sld 1014 X hX (i + 1) dL_law_1014 (by omega) (by omega) hL ?_
  refine tu_callVI 1015 X (st := []) (as := [tu_i ((xs (i + 1)).toInt)]) (c_X3_restore ((xs (i + 1)).toInt) hI.hs (tu_rg_t _)) sv_RL_132 dL_law_1015 rfl (by decide) rfl rfl rfl (Nat.le_of_ble_eq_true rfl) ⟨by decide, by decide⟩ (fun z1 M1 h1 => ?_)
  have h1 : tp_restore M ((xs (i + 1)).toInt) z1 M1 := h1
  have f := tf_restore hI.hs h1
  have hh : 0 ≤ M1 86 2 ∧ M1 86 2 ≤ 6 := by rw [f 86 (by decide), hI.e2]; exact hI.hs.2.1
  have hz9 : ∀ k, k < 2 → M1 90 k = 0 ∨ M1 90 k = 1 := fun k hk => by rw [f 90 (by decide), hI.sl.1 k hk]; exact hI.hs.2.2.2 k hk
  refine tu_aload_n 1018 X 1 dL_law_1018 rfl ?_
  refine tu_aload_n 1019 X 3 dL_law_1019 rfl ?_
  refine tu_iload_n 1020 X 0 dL_law_1020 rfl ?_
  refine tu_iconst 1021 X dL_law_1021 ?_
  refine tu_iadd 1022 X dL_law_1022 ?_
  refine tw_sld 1023 X hX (i + 1) dL_law_1023 (by omega) (by omega) hL ?_
  refine tu_callVI 1024 X (st := [tu_i z1]) (as := [tu_i ((xs (i + 1)).toInt)]) (c_X4_restore ((xs (i + 1)).toInt) hh (tu_rg_t _) hz9) sv_RL_135 dL_law_1024 rfl (by decide) rfl rfl rfl (Nat.le_of_ble_eq_true rfl) ⟨by decide, by decide⟩ (fun z2 M2 h2 => ?_)
  have h2 : tq_restore M M1 ((xs (i + 1)).toInt) z2 M2 := h2
  obtain ⟨e9, hI2⟩ := tw_restore hI h1 h2
  refine tw_ieq 1027 X 1032 dL_law_1027 (by decide) e9 ?_
  exact next M2 hI2
