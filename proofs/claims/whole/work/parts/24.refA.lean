/-! THE REFERENCE: does, step, run -/
def neM (τ : MS) (w : Int32) : Int32 := τ.1 8 + sgM w 9 &&& 65535
noncomputable def mds (τ : MS) (w at0 : Int32) : MS :=
  if w >>> ((12 : Int32) &&& 31) = 0 then (if w >>> ((9 : Int32) &&& 31) &&& 7 &&& τ.1 9 = 0 then τ else sG τ 8 (neM τ w))
  else if w >>> ((12 : Int32) &&& 31) = 1 then mcm τ (drS w) (raS τ w + secM τ w)
  else if w >>> ((12 : Int32) &&& 31) = 2 then mcm (mrd τ (neM τ w)) (drS w) (mrv τ (neM τ w))
  else if w >>> ((12 : Int32) &&& 31) = 3 then mwr τ (neM τ w) (τ.1 (drS w).toNatClampNeg)
  else if w >>> ((12 : Int32) &&& 31) = 4 then sG (sG τ 7 (τ.1 8)) 8 (if w >>> ((11 : Int32) &&& 31) &&& 1 = 1 then (sG τ 7 (τ.1 8)).1 8 + sgM w 11 &&& 65535 else raS τ w)
  else if w >>> ((12 : Int32) &&& 31) = 5 then mcm τ (drS w) (raS τ w &&& secM τ w)
  else if w >>> ((12 : Int32) &&& 31) = 6 then mcm (mrd τ (raS τ w + sgM w 6)) (drS w) (mrv τ (raS τ w + sgM w 6))
  else if w >>> ((12 : Int32) &&& 31) = 7 then mwr τ (raS τ w + sgM w 6) (τ.1 (drS w).toNatClampNeg)
  else if w >>> ((12 : Int32) &&& 31) = 8 then mcb τ
  else if w >>> ((12 : Int32) &&& 31) = 9 then mcm τ (drS w) (raS τ w ^^^ (-1))
  else if w >>> ((12 : Int32) &&& 31) = 10 then mcm (mrd (mrd τ (neM τ w)) (mrv τ (neM τ w))) (drS w) (mrv (mrd τ (neM τ w)) (mrv τ (neM τ w)))
  else if w >>> ((12 : Int32) &&& 31) = 11 then mwr (mrd τ (neM τ w)) (mrv τ (neM τ w)) ((mrd τ (neM τ w)).1 (drS w).toNatClampNeg)
  else if w >>> ((12 : Int32) &&& 31) = 12 then sG τ 8 (raS τ w)
  else if w >>> ((12 : Int32) &&& 31) = 13 then mex τ 1
  else if w >>> ((12 : Int32) &&& 31) = 14 then sG τ (drS w).toNatClampNeg (neM τ w)
  else if w >>> ((12 : Int32) &&& 31) = 15 then mtr τ (w &&& 255) at0
  else mex τ 1
set_option maxRecDepth 20000 in
set_option maxHeartbeats 4000000 in
/-- does(w, at) -/
theorem T_mdoes {X : Nat × (Nat → Int32)} {h0 h : PH} {τ : MS} {Q : Option Value → PH → Prop} {w at0 : Int32} (h0r : vp_in (τ.1 0) 65536) (f : FR h0 h) (q : RM h τ) (k : ∀ h', FR h0 h' → RM h' (mds τ w at0) → Q none h') : WP X mX11_does 5 108 0 (en 7 [.ref 25, .int w, .int at0]) [] h Q := by
  refine w_iload_n dX11_does_0 rfl rfl ?_
  refine w_bipush dX11_does_1 (v := 9) (by decide) ?_
  refine w_ishr dX11_does_3 ?_
  refine w_bipush dX11_does_4 (v := 7) (by decide) ?_
  refine w_iand dX11_does_6 ?_
  refine w_istore_n dX11_does_7 rfl (by decide) ?_
  refine w_aload_n dX11_does_8 rfl rfl ?_
  refine w_gs (b := 27) q.1 dX11_does_9 fX11_14 (by decide) rfl rfl (by decide) ?_
  refine w_iload_n dX11_does_12 rfl rfl ?_
  refine w_bipush dX11_does_13 (v := 6) (by decide) ?_
  refine w_ishr dX11_does_15 ?_
  refine w_bipush dX11_does_16 (v := 7) (by decide) ?_
  refine w_iand dX11_does_18 ?_
  refine g_get q dX11_does_19 rfl (in3 _) ?_
  refine w_istore dX11_does_20 (by decide) ?_
  refine w_aload_n dX11_does_22 rfl rfl ?_
  refine y_get (j := 8) q dX11_does_23 fX11_57 (by decide) rfl ?_
  refine w_iload_n dX11_does_26 rfl rfl ?_
  refine w_bipush dX11_does_27 (v := 9) (by decide) ?_
  refine w_s2 (d2 := 0) (L2 := 0) dX11_does_29 vX11_154 rfl rfl (by decide) (Nat.le_of_ble_eq_true rfl) (by decide) (by decide) ?_
  refine T_sgM ?_
  refine k_i rfl ?_
  refine w_iadd dX11_does_32 ?_
  refine w_s1 (d2 := 0) (L2 := 0) dX11_does_33 vX11_93 rfl (by decide) (Nat.le_of_ble_eq_true rfl) (by decide) (by decide) ?_
  refine T_cut ?_
  refine k_i rfl ?_
  refine w_istore dX11_does_36 (by decide) ?_
  refine w_iconst dX11_does_38 (v := 0) (by decide) ?_
  refine w_istore dX11_does_39 (by decide) ?_
  refine w_iload_n dX11_does_41 rfl rfl ?_
  refine w_bipush dX11_does_42 (v := 12) (by decide) ?_
  refine w_ishr dX11_does_44 ?_
  by_cases s_0 : w >>> ((12 : Int32) &&& 31) = 0
  · refine w_tbE (off := 79) (tgt := 124) s_0 dX11_does_45 (by decide) (by decide) (by decide) (by decide) ?_
    refine w_iload_n dX11_does_124 rfl rfl ?_
    refine w_bipush dX11_does_125 (v := 9) (by decide) ?_
    refine w_ishr dX11_does_127 ?_
    refine w_bipush dX11_does_128 (v := 7) (by decide) ?_
    refine w_iand dX11_does_130 ?_
    refine w_aload_n dX11_does_131 rfl rfl ?_
    refine y_get (j := 9) q dX11_does_132 fX11_64 (by decide) rfl ?_
    refine w_iand dX11_does_135 ?_
    refine w_if_eq (tgt := 401) dX11_does_136 (by decide) (fun c_136 => ?_) (fun c_136 => ?_)
    · refine w_vret dX11_does_401 ?_
      rw [mds] at k; simp only [if_pos s_0, if_pos c_136] at k; exact k _ f q
    · refine w_aload_n dX11_does_139 rfl rfl ?_
      refine w_iload dX11_does_140 rfl ?_
      refine y_put (j := 8) f q dX11_does_142 fX11_57 (by decide) rfl (fun h1 f1 q1 => ?_)
      refine w_goto (tgt := 401) dX11_does_145 (by decide) ?_
      refine w_vret dX11_does_401 ?_
      rw [mds] at k; simp only [if_pos s_0, if_neg c_136] at k; exact k _ f1 q1
  by_cases s_1 : w >>> ((12 : Int32) &&& 31) = 1
  · refine w_tbE (off := 103) (tgt := 148) s_1 dX11_does_45 (by decide) (by decide) (by decide) (by decide) ?_
    refine w_aload_n dX11_does_148 rfl rfl ?_
    refine w_iload_n dX11_does_149 rfl rfl ?_
    refine w_iload dX11_does_150 rfl ?_
    refine w_aload_n dX11_does_152 rfl rfl ?_
    refine w_iload_n dX11_does_153 rfl rfl ?_
    refine w_v1 (d2 := 1) (L2 := 22) dX11_does_154 vX11_158 rfl (q.1.lt (by decide)) rfl (by decide) (Nat.le_of_ble_eq_true rfl) (by decide) (by decide) ?_
    refine T_msec q ?_
    refine k_i rfl ?_
    refine w_iadd dX11_does_157 ?_
    refine w_v2 (d2 := 1) (L2 := 20) dX11_does_158 vX11_161 rfl (q.1.lt (by decide)) rfl rfl (by decide) (Nat.le_of_ble_eq_true rfl) (by decide) (by decide) ?_
    refine T_comes (in3 _) f q (fun h2 f2 q2 => ?_)
    refine k_v rfl ?_
    refine w_goto (tgt := 401) dX11_does_161 (by decide) ?_
    refine w_vret dX11_does_401 ?_
    rw [mds] at k; simp only [if_neg s_0, if_pos s_1] at k; exact k _ f2 q2
  by_cases s_2 : w >>> ((12 : Int32) &&& 31) = 2
  · refine w_tbE (off := 119) (tgt := 164) s_2 dX11_does_45 (by decide) (by decide) (by decide) (by decide) ?_
    refine w_aload_n dX11_does_164 rfl rfl ?_
    refine w_iload_n dX11_does_165 rfl rfl ?_
    refine w_aload_n dX11_does_166 rfl rfl ?_
    refine w_iload dX11_does_167 rfl ?_
    refine w_v1 (d2 := 2) (L2 := 45) dX11_does_169 vX11_145 rfl (q.1.lt (by decide)) rfl (by decide) (Nat.le_of_ble_eq_true rfl) (by decide) (by decide) ?_
    refine T_mread f q (fun h3 f3 q3 => ?_)
    refine k_i rfl ?_
    refine w_v2 (d2 := 1) (L2 := 20) dX11_does_172 vX11_161 rfl (q3.1.lt (by decide)) rfl rfl (by decide) (Nat.le_of_ble_eq_true rfl) (by decide) (by decide) ?_
    refine T_comes (in3 _) f3 q3 (fun h4 f4 q4 => ?_)
    refine k_v rfl ?_
    refine w_goto (tgt := 401) dX11_does_175 (by decide) ?_
    refine w_vret dX11_does_401 ?_
    rw [mds] at k; simp only [if_neg s_0, if_neg s_1, if_pos s_2] at k; exact k _ f4 q4
  by_cases s_3 : w >>> ((12 : Int32) &&& 31) = 3
  · refine w_tbE (off := 133) (tgt := 178) s_3 dX11_does_45 (by decide) (by decide) (by decide) (by decide) ?_
    refine w_aload_n dX11_does_178 rfl rfl ?_
    refine w_iload dX11_does_179 rfl ?_
    refine w_aload_n dX11_does_181 rfl rfl ?_
    refine w_gs (b := 27) q.1 dX11_does_182 fX11_14 (by decide) rfl rfl (by decide) ?_
    refine w_iload_n dX11_does_185 rfl rfl ?_
    refine g_get q dX11_does_186 rfl (in3 _) ?_
    refine w_v2 (d2 := 2) (L2 := 44) dX11_does_187 vX11_164 rfl (q.1.lt (by decide)) rfl rfl (by decide) (Nat.le_of_ble_eq_true rfl) (by decide) (by decide) ?_
    refine T_mwrites f q (fun h5 f5 q5 => ?_)
    refine k_v rfl ?_
    refine w_goto (tgt := 401) dX11_does_190 (by decide) ?_
    refine w_vret dX11_does_401 ?_
    rw [mds] at k; simp only [if_neg s_0, if_neg s_1, if_neg s_2, if_pos s_3] at k; exact k _ f5 q5
  by_cases s_4 : w >>> ((12 : Int32) &&& 31) = 4
  · refine w_tbE (off := 148) (tgt := 193) s_4 dX11_does_45 (by decide) (by decide) (by decide) (by decide) ?_
    refine w_aload_n dX11_does_193 rfl rfl ?_
    refine w_gs (b := 27) q.1 dX11_does_194 fX11_14 (by decide) rfl rfl (by decide) ?_
    refine w_bipush dX11_does_197 (v := 7) (by decide) ?_
    refine w_aload_n dX11_does_199 rfl rfl ?_
    refine y_get (j := 8) q dX11_does_200 fX11_57 (by decide) rfl ?_
    refine g_put (k := 7) f q dX11_does_203 (by decide) (vin (by decide)) (fun h6 f6 q6 => ?_)
    refine w_aload_n dX11_does_204 rfl rfl ?_
    refine w_iload_n dX11_does_205 rfl rfl ?_
    refine w_bipush dX11_does_206 (v := 11) (by decide) ?_
    refine w_ishr dX11_does_208 ?_
    refine w_iconst dX11_does_209 (v := 1) (by decide) ?_
    refine w_iand dX11_does_210 ?_
    refine w_iconst dX11_does_211 (v := 1) (by decide) ?_
    refine w_icmp_ne (tgt := 232) dX11_does_212 (by decide) (fun c_212 => ?_) (fun c_212 => ?_)
    · refine w_iload dX11_does_232 rfl ?_
      refine y_put (j := 8) f6 q6 dX11_does_234 fX11_57 (by decide) rfl (fun h7 f7 q7 => ?_)
      refine w_goto (tgt := 401) dX11_does_237 (by decide) ?_
      refine w_vret dX11_does_401 ?_
      rw [mds] at k; simp only [if_neg s_0, if_neg s_1, if_neg s_2, if_neg s_3, if_pos s_4, if_neg c_212] at k; exact k _ f7 q7
    · refine w_aload_n dX11_does_215 rfl rfl ?_
      refine y_get (j := 8) q6 dX11_does_216 fX11_57 (by decide) rfl ?_
      refine w_iload_n dX11_does_219 rfl rfl ?_
      refine w_bipush dX11_does_220 (v := 11) (by decide) ?_
      refine w_s2 (d2 := 0) (L2 := 0) dX11_does_222 vX11_154 rfl rfl (by decide) (Nat.le_of_ble_eq_true rfl) (by decide) (by decide) ?_
      refine T_sgM ?_
      refine k_i rfl ?_
      refine w_iadd dX11_does_225 ?_
      refine w_s1 (d2 := 0) (L2 := 0) dX11_does_226 vX11_93 rfl (by decide) (Nat.le_of_ble_eq_true rfl) (by decide) (by decide) ?_
      refine T_cut ?_
      refine k_i rfl ?_
      refine w_goto (tgt := 234) dX11_does_229 (by decide) ?_
      refine y_put (j := 8) f6 q6 dX11_does_234 fX11_57 (by decide) rfl (fun h8 f8 q8 => ?_)
      refine w_goto (tgt := 401) dX11_does_237 (by decide) ?_
      refine w_vret dX11_does_401 ?_
      rw [mds] at k; simp only [if_neg s_0, if_neg s_1, if_neg s_2, if_neg s_3, if_pos s_4, if_pos c_212] at k; exact k _ f8 q8
  by_cases s_5 : w >>> ((12 : Int32) &&& 31) = 5
  · refine w_tbE (off := 195) (tgt := 240) s_5 dX11_does_45 (by decide) (by decide) (by decide) (by decide) ?_
    refine w_aload_n dX11_does_240 rfl rfl ?_
    refine w_iload_n dX11_does_241 rfl rfl ?_
    refine w_iload dX11_does_242 rfl ?_
    refine w_aload_n dX11_does_244 rfl rfl ?_
    refine w_iload_n dX11_does_245 rfl rfl ?_
    refine w_v1 (d2 := 1) (L2 := 22) dX11_does_246 vX11_158 rfl (q.1.lt (by decide)) rfl (by decide) (Nat.le_of_ble_eq_true rfl) (by decide) (by decide) ?_
    refine T_msec q ?_
    refine k_i rfl ?_
    refine w_iand dX11_does_249 ?_
    refine w_v2 (d2 := 1) (L2 := 20) dX11_does_250 vX11_161 rfl (q.1.lt (by decide)) rfl rfl (by decide) (Nat.le_of_ble_eq_true rfl) (by decide) (by decide) ?_
    refine T_comes (in3 _) f q (fun h9 f9 q9 => ?_)
    refine k_v rfl ?_
    refine w_goto (tgt := 401) dX11_does_253 (by decide) ?_
    refine w_vret dX11_does_401 ?_
    rw [mds] at k; simp only [if_neg s_0, if_neg s_1, if_neg s_2, if_neg s_3, if_neg s_4, if_pos s_5] at k; exact k _ f9 q9
  by_cases s_6 : w >>> ((12 : Int32) &&& 31) = 6
  · refine w_tbE (off := 211) (tgt := 256) s_6 dX11_does_45 (by decide) (by decide) (by decide) (by decide) ?_
    refine w_aload_n dX11_does_256 rfl rfl ?_
    refine w_iload_n dX11_does_257 rfl rfl ?_
    refine w_aload_n dX11_does_258 rfl rfl ?_
    refine w_iload dX11_does_259 rfl ?_
    refine w_iload_n dX11_does_261 rfl rfl ?_
    refine w_bipush dX11_does_262 (v := 6) (by decide) ?_
    refine w_s2 (d2 := 0) (L2 := 0) dX11_does_264 vX11_154 rfl rfl (by decide) (Nat.le_of_ble_eq_true rfl) (by decide) (by decide) ?_
    refine T_sgM ?_
    refine k_i rfl ?_
    refine w_iadd dX11_does_267 ?_
    refine w_v1 (d2 := 2) (L2 := 45) dX11_does_268 vX11_145 rfl (q.1.lt (by decide)) rfl (by decide) (Nat.le_of_ble_eq_true rfl) (by decide) (by decide) ?_
    refine T_mread f q (fun h10 f10 q10 => ?_)
    refine k_i rfl ?_
    refine w_v2 (d2 := 1) (L2 := 20) dX11_does_271 vX11_161 rfl (q10.1.lt (by decide)) rfl rfl (by decide) (Nat.le_of_ble_eq_true rfl) (by decide) (by decide) ?_
    refine T_comes (in3 _) f10 q10 (fun h11 f11 q11 => ?_)
    refine k_v rfl ?_
    refine w_goto (tgt := 401) dX11_does_274 (by decide) ?_
    refine w_vret dX11_does_401 ?_
    rw [mds] at k; simp only [if_neg s_0, if_neg s_1, if_neg s_2, if_neg s_3, if_neg s_4, if_neg s_5, if_pos s_6] at k; exact k _ f11 q11
  by_cases s_7 : w >>> ((12 : Int32) &&& 31) = 7
  · refine w_tbE (off := 232) (tgt := 277) s_7 dX11_does_45 (by decide) (by decide) (by decide) (by decide) ?_
    refine w_aload_n dX11_does_277 rfl rfl ?_
    refine w_iload dX11_does_278 rfl ?_
    refine w_iload_n dX11_does_280 rfl rfl ?_
    refine w_bipush dX11_does_281 (v := 6) (by decide) ?_
    refine w_s2 (d2 := 0) (L2 := 0) dX11_does_283 vX11_154 rfl rfl (by decide) (Nat.le_of_ble_eq_true rfl) (by decide) (by decide) ?_
    refine T_sgM ?_
    refine k_i rfl ?_
    refine w_iadd dX11_does_286 ?_
    refine w_aload_n dX11_does_287 rfl rfl ?_
    refine w_gs (b := 27) q.1 dX11_does_288 fX11_14 (by decide) rfl rfl (by decide) ?_
    refine w_iload_n dX11_does_291 rfl rfl ?_
    refine g_get q dX11_does_292 rfl (in3 _) ?_
    refine w_v2 (d2 := 2) (L2 := 44) dX11_does_293 vX11_164 rfl (q.1.lt (by decide)) rfl rfl (by decide) (Nat.le_of_ble_eq_true rfl) (by decide) (by decide) ?_
    refine T_mwrites f q (fun h12 f12 q12 => ?_)
    refine k_v rfl ?_
    refine w_goto (tgt := 401) dX11_does_296 (by decide) ?_
    refine w_vret dX11_does_401 ?_
    rw [mds] at k; simp only [if_neg s_0, if_neg s_1, if_neg s_2, if_neg s_3, if_neg s_4, if_neg s_5, if_neg s_6, if_pos s_7] at k; exact k _ f12 q12
  by_cases s_8 : w >>> ((12 : Int32) &&& 31) = 8
  · refine w_tbE (off := 254) (tgt := 299) s_8 dX11_does_45 (by decide) (by decide) (by decide) (by decide) ?_
    refine w_aload_n dX11_does_299 rfl rfl ?_
    refine w_v0 (d2 := 4) (L2 := 86) dX11_does_300 vX11_167 rfl (q.1.lt (by decide)) (by decide) (Nat.le_of_ble_eq_true rfl) (by decide) (by decide) ?_
    refine T_mcb f q (fun h13 f13 q13 => ?_)
    refine k_v rfl ?_
    refine w_goto (tgt := 401) dX11_does_303 (by decide) ?_
    refine w_vret dX11_does_401 ?_
    rw [mds] at k; simp only [if_neg s_0, if_neg s_1, if_neg s_2, if_neg s_3, if_neg s_4, if_neg s_5, if_neg s_6, if_neg s_7, if_pos s_8] at k; exact k _ f13 q13
  by_cases s_9 : w >>> ((12 : Int32) &&& 31) = 9
  · refine w_tbE (off := 261) (tgt := 306) s_9 dX11_does_45 (by decide) (by decide) (by decide) (by decide) ?_
    refine w_aload_n dX11_does_306 rfl rfl ?_
    refine w_iload_n dX11_does_307 rfl rfl ?_
    refine w_iload dX11_does_308 rfl ?_
    refine w_iconst dX11_does_310 (v := (-1)) (by decide) ?_
    refine w_ixor dX11_does_311 ?_
    refine w_v2 (d2 := 1) (L2 := 20) dX11_does_312 vX11_161 rfl (q.1.lt (by decide)) rfl rfl (by decide) (Nat.le_of_ble_eq_true rfl) (by decide) (by decide) ?_
    refine T_comes (in3 _) f q (fun h14 f14 q14 => ?_)
    refine k_v rfl ?_
    refine w_goto (tgt := 401) dX11_does_315 (by decide) ?_
    refine w_vret dX11_does_401 ?_
    rw [mds] at k; simp only [if_neg s_0, if_neg s_1, if_neg s_2, if_neg s_3, if_neg s_4, if_neg s_5, if_neg s_6, if_neg s_7, if_neg s_8, if_pos s_9] at k; exact k _ f14 q14
  by_cases s_10 : w >>> ((12 : Int32) &&& 31) = 10
  · refine w_tbE (off := 273) (tgt := 318) s_10 dX11_does_45 (by decide) (by decide) (by decide) (by decide) ?_
    refine w_aload_n dX11_does_318 rfl rfl ?_
    refine w_iload dX11_does_319 rfl ?_
    refine w_v1 (d2 := 2) (L2 := 45) dX11_does_321 vX11_145 rfl (q.1.lt (by decide)) rfl (by decide) (Nat.le_of_ble_eq_true rfl) (by decide) (by decide) ?_
    refine T_mread f q (fun h15 f15 q15 => ?_)
    refine k_i rfl ?_
    refine w_istore dX11_does_324 (by decide) ?_
    refine w_aload_n dX11_does_326 rfl rfl ?_
    refine w_iload_n dX11_does_327 rfl rfl ?_
    refine w_aload_n dX11_does_328 rfl rfl ?_
    refine w_iload dX11_does_329 rfl ?_
    refine w_v1 (d2 := 2) (L2 := 45) dX11_does_331 vX11_145 rfl (q15.1.lt (by decide)) rfl (by decide) (Nat.le_of_ble_eq_true rfl) (by decide) (by decide) ?_
    refine T_mread f15 q15 (fun h16 f16 q16 => ?_)
    refine k_i rfl ?_
    refine w_v2 (d2 := 1) (L2 := 20) dX11_does_334 vX11_161 rfl (q16.1.lt (by decide)) rfl rfl (by decide) (Nat.le_of_ble_eq_true rfl) (by decide) (by decide) ?_
    refine T_comes (in3 _) f16 q16 (fun h17 f17 q17 => ?_)
    refine k_v rfl ?_
    refine w_goto (tgt := 401) dX11_does_337 (by decide) ?_
    refine w_vret dX11_does_401 ?_
    rw [mds] at k; simp only [if_neg s_0, if_neg s_1, if_neg s_2, if_neg s_3, if_neg s_4, if_neg s_5, if_neg s_6, if_neg s_7, if_neg s_8, if_neg s_9, if_pos s_10] at k; exact k _ f17 q17
  by_cases s_11 : w >>> ((12 : Int32) &&& 31) = 11
  · refine w_tbE (off := 295) (tgt := 340) s_11 dX11_does_45 (by decide) (by decide) (by decide) (by decide) ?_
    refine w_aload_n dX11_does_340 rfl rfl ?_
    refine w_iload dX11_does_341 rfl ?_
    refine w_v1 (d2 := 2) (L2 := 45) dX11_does_343 vX11_145 rfl (q.1.lt (by decide)) rfl (by decide) (Nat.le_of_ble_eq_true rfl) (by decide) (by decide) ?_
    refine T_mread f q (fun h18 f18 q18 => ?_)
    refine k_i rfl ?_
    refine w_istore dX11_does_346 (by decide) ?_
    refine w_aload_n dX11_does_348 rfl rfl ?_
    refine w_iload dX11_does_349 rfl ?_
    refine w_aload_n dX11_does_351 rfl rfl ?_
    refine w_gs (b := 27) q18.1 dX11_does_352 fX11_14 (by decide) rfl rfl (by decide) ?_
    refine w_iload_n dX11_does_355 rfl rfl ?_
    refine g_get q18 dX11_does_356 rfl (in3 _) ?_
    refine w_v2 (d2 := 2) (L2 := 44) dX11_does_357 vX11_164 rfl (q18.1.lt (by decide)) rfl rfl (by decide) (Nat.le_of_ble_eq_true rfl) (by decide) (by decide) ?_
    refine T_mwrites f18 q18 (fun h19 f19 q19 => ?_)
    refine k_v rfl ?_
    refine w_goto (tgt := 401) dX11_does_360 (by decide) ?_
    refine w_vret dX11_does_401 ?_
    rw [mds] at k; simp only [if_neg s_0, if_neg s_1, if_neg s_2, if_neg s_3, if_neg s_4, if_neg s_5, if_neg s_6, if_neg s_7, if_neg s_8, if_neg s_9, if_neg s_10, if_pos s_11] at k; exact k _ f19 q19
  by_cases s_12 : w >>> ((12 : Int32) &&& 31) = 12
  · refine w_tbE (off := 318) (tgt := 363) s_12 dX11_does_45 (by decide) (by decide) (by decide) (by decide) ?_
    refine w_aload_n dX11_does_363 rfl rfl ?_
    refine w_iload dX11_does_364 rfl ?_
    refine y_put (j := 8) f q dX11_does_366 fX11_57 (by decide) rfl (fun h20 f20 q20 => ?_)
    refine w_goto (tgt := 401) dX11_does_369 (by decide) ?_
    refine w_vret dX11_does_401 ?_
    rw [mds] at k; simp only [if_neg s_0, if_neg s_1, if_neg s_2, if_neg s_3, if_neg s_4, if_neg s_5, if_neg s_6, if_neg s_7, if_neg s_8, if_neg s_9, if_neg s_10, if_neg s_11, if_pos s_12] at k; exact k _ f20 q20
  by_cases s_13 : w >>> ((12 : Int32) &&& 31) = 13
  · refine w_tbE (off := 351) (tgt := 396) s_13 dX11_does_45 (by decide) (by decide) (by decide) (by decide) ?_
    refine w_aload_n dX11_does_396 rfl rfl ?_
    refine w_iconst dX11_does_397 (v := 1) (by decide) ?_
    refine w_v1 (d2 := 3) (L2 := 65) dX11_does_398 vX11_151 rfl (q.1.lt (by decide)) rfl (by decide) (Nat.le_of_ble_eq_true rfl) (by decide) (by decide) ?_
    refine T_mex f q (fun h21 f21 q21 => ?_)
    refine k_v rfl ?_
    refine w_vret dX11_does_401 ?_
    rw [mds] at k; simp only [if_neg s_0, if_neg s_1, if_neg s_2, if_neg s_3, if_neg s_4, if_neg s_5, if_neg s_6, if_neg s_7, if_neg s_8, if_neg s_9, if_neg s_10, if_neg s_11, if_neg s_12, if_pos s_13] at k; exact k _ f21 q21
  by_cases s_14 : w >>> ((12 : Int32) &&& 31) = 14
  · refine w_tbE (off := 327) (tgt := 372) s_14 dX11_does_45 (by decide) (by decide) (by decide) (by decide) ?_
    refine w_aload_n dX11_does_372 rfl rfl ?_
    refine w_gs (b := 27) q.1 dX11_does_373 fX11_14 (by decide) rfl rfl (by decide) ?_
    refine w_iload_n dX11_does_376 rfl rfl ?_
    refine w_iload dX11_does_377 rfl ?_
    refine g_put f q dX11_does_379 rfl (in3 _) (fun h22 f22 q22 => ?_)
    refine w_goto (tgt := 401) dX11_does_380 (by decide) ?_
    refine w_vret dX11_does_401 ?_
    rw [mds] at k; simp only [if_neg s_0, if_neg s_1, if_neg s_2, if_neg s_3, if_neg s_4, if_neg s_5, if_neg s_6, if_neg s_7, if_neg s_8, if_neg s_9, if_neg s_10, if_neg s_11, if_neg s_12, if_neg s_13, if_pos s_14] at k; exact k _ f22 q22
  by_cases s_15 : w >>> ((12 : Int32) &&& 31) = 15
  · refine w_tbE (off := 338) (tgt := 383) s_15 dX11_does_45 (by decide) (by decide) (by decide) (by decide) ?_
    refine w_aload_n dX11_does_383 rfl rfl ?_
    refine w_iload_n dX11_does_384 rfl rfl ?_
    refine w_sipush dX11_does_385 (v := 255) (by decide) ?_
    refine w_iand dX11_does_388 ?_
    refine w_iload_n dX11_does_389 rfl rfl ?_
    refine w_v2 (d2 := 4) (L2 := 86) dX11_does_390 vX11_170 rfl (q.1.lt (by decide)) rfl rfl (by decide) (Nat.le_of_ble_eq_true rfl) (by decide) (by decide) ?_
    refine T_mtr (fun z => (pk_andIn w (m := 255) 8 (by decide) (by decide)) (z.imp id (fun y => Nat.le_trans (by decide) y))) h0r f q (fun h23 f23 q23 => ?_)
    refine k_v rfl ?_
    refine w_goto (tgt := 401) dX11_does_393 (by decide) ?_
    refine w_vret dX11_does_401 ?_
    rw [mds] at k; simp only [if_neg s_0, if_neg s_1, if_neg s_2, if_neg s_3, if_neg s_4, if_neg s_5, if_neg s_6, if_neg s_7, if_neg s_8, if_neg s_9, if_neg s_10, if_neg s_11, if_neg s_12, if_neg s_13, if_neg s_14, if_pos s_15] at k; exact k _ f23 q23
  refine w_tableOut (tgt := 396) dX11_does_45 (by have t_0 := ne_toInt s_0 (n := 0) (by decide); have t_1 := ne_toInt s_1 (n := 1) (by decide); have t_2 := ne_toInt s_2 (n := 2) (by decide); have t_3 := ne_toInt s_3 (n := 3) (by decide); have t_4 := ne_toInt s_4 (n := 4) (by decide); have t_5 := ne_toInt s_5 (n := 5) (by decide); have t_6 := ne_toInt s_6 (n := 6) (by decide); have t_7 := ne_toInt s_7 (n := 7) (by decide); have t_8 := ne_toInt s_8 (n := 8) (by decide); have t_9 := ne_toInt s_9 (n := 9) (by decide); have t_10 := ne_toInt s_10 (n := 10) (by decide); have t_11 := ne_toInt s_11 (n := 11) (by decide); have t_12 := ne_toInt s_12 (n := 12) (by decide); have t_13 := ne_toInt s_13 (n := 13) (by decide); have t_14 := ne_toInt s_14 (n := 14) (by decide); have t_15 := ne_toInt s_15 (n := 15) (by decide); omega) (by decide) ?_
  refine w_aload_n dX11_does_396 rfl rfl ?_
  refine w_iconst dX11_does_397 (v := 1) (by decide) ?_
  refine w_v1 (d2 := 3) (L2 := 65) dX11_does_398 vX11_151 rfl (q.1.lt (by decide)) rfl (by decide) (Nat.le_of_ble_eq_true rfl) (by decide) (by decide) ?_
  refine T_mex f q (fun h24 f24 q24 => ?_)
  refine k_v rfl ?_
  refine w_vret dX11_does_401 ?_
  rw [mds] at k; simp only [if_neg s_0, if_neg s_1, if_neg s_2, if_neg s_3, if_neg s_4, if_neg s_5, if_neg s_6, if_neg s_7, if_neg s_8, if_neg s_9, if_neg s_10, if_neg s_11, if_neg s_12, if_neg s_13, if_neg s_14, if_neg s_15] at k; exact k _ f24 q24

