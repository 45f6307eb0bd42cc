/-! THE LAW: rules for the script, and the 34 cases of its switch -/
theorem lg_cmp_rf (x : Int64) : lg_cmp x x = 0 := (lg_cmp_eq x x).mpr rfl
theorem Hi.repR {s : Sg} {M M' : j_M} (h : Hi M M') (hR : RepR s M) : RepR s M' := by
  have g : ∀ b, 79 ≤ b → M' b = M b := h
  obtain ⟨a1, a2, a3, a4, a5, a6, a7⟩ := hR
  refine ⟨?_, fun d t hd ht => ?_, fun k hk => ?_, ?_, ?_, fun q hq => ?_, ?_⟩
  · rw [g 79 (by omega), g 80 (by omega)]; exact a1
  · rw [g 82 (by omega)]; exact a2 d t hd ht
  · rw [g 79 (by omega)]; exact a3 k hk
  · rw [g 79 (by omega), g 83 (by omega), g 84 (by omega), g 85 (by omega)]; exact a4
  · rw [g 79 (by omega), g 95 (by omega), g 96 (by omega)]; exact a5
  · rw [g 99 (by omega), g 100 (by omega), g 101 (by omega), g 102 (by omega)]; exact a6 q hq
  · rw [g 79 (by omega)]; exact a7
theorem Lo.repC {s : Sg} {M M' : j_M} (h : Lo M M') (hR : RepC s M) : RepC s M' := by
  have g : ∀ b, b < 79 → M' b = M b := h
  obtain ⟨a1, a2, a3, a4, a5, a6⟩ := hR
  refine ⟨?_, fun d t hd ht => ?_, fun k hk => ?_, ?_, ?_, ?_⟩
  · unfold HeC at *; rw [g 1 (by omega), g 2 (by omega), g 3 (by omega)]; exact a1
  · rw [g (12 + d) (by omega)]; exact a2 d t hd ht
  · rw [g 10 (by omega)]; exact a3 k hk
  · unfold ViC at *; rw [g 4 (by omega), g 5 (by omega), g 6 (by omega), g 7 (by omega), g 8 (by omega), g 9 (by omega)]; exact a4
  · unfold SeenC at *; rw [g 17 (by omega), g 18 (by omega)]; exact a5
  · unfold ShC at *
    refine ⟨fun q hq => ?_, ?_⟩
    · rw [g 24 (by omega), g 25 (by omega), g (27 + q) (by omega)]; exact a6.1 q hq
    · rw [g 23 (by omega)]; exact a6.2
/-- the script of N ints, at 106 -/
def l_Scr (X : j_X) (N : Nat) (xs : Nat → Int32) : Prop := match X with
  | ((_, _, _, _, s), _, (w, A, _, _, _)) => va_X (w.2.2 106) N xs s s.heap ∧ w.2.2 106 < s.heap.size ∧ ¬ A (w.2.2 106)
section LRules
variable {d : Nat} {I : j_I} {X : j_X} {pc : Nat} {L : List (Option Value)} {st : List Value} {M : j_M} {N : Nat} {xs : Nat → Int32}
theorem jx_slen (hsc : l_Scr X N xs) (hd : decode I.2.1 pc = .ok (.arraylength, 1)) (kk : j_W d I X (pc + 1) L (.int (nI N) :: st) M) : j_W d I X pc L (.ref 106 :: st) M := by
  obtain ⟨⟨p, l, e, R, s⟩, ⟨m, args, below, meth, c⟩, ⟨w, A, cells, slots, Q⟩⟩ := X
  intro hG H locs ls hP hS hl
  obtain ⟨hx, hb, hml, hown, hts, hK, hZ, hD, hA, hfr, hlo, hce, hsl⟩ := id hG
  exact va_slen hx hb hsc.1 hsc.2.1 hsc.2.2 hS hd (kk hG H locs ls hP hS hl)
theorem jx_sld (hsc : l_Scr X N xs) {i : Int32} (hd : decode I.2.1 pc = .ok (.iaload, 1)) (hi : vp_in i N) (kk : j_W d I X (pc + 1) L (.int (xs i.toNatClampNeg) :: st) M) : j_W d I X pc L (.int i :: .ref 106 :: st) M := by
  obtain ⟨⟨p, l, e, R, s⟩, ⟨m, args, below, meth, c⟩, ⟨w, A, cells, slots, Q⟩⟩ := X
  intro hG H locs ls hP hS hl
  obtain ⟨hx, hb, hml, hown, hts, hK, hZ, hD, hA, hfr, hlo, hce, hsl⟩ := id hG
  exact va_sld hx hb hsc.1 hsc.2.1 hsc.2.2 hS hi hd (kk hG H locs ls hP hS hl)
end LRules
abbrev l_L (x : Int32) : List (Option Value) := [some (.ref 106), some (.ref 0), some (.ref 79), some (.int x)]
section LCases
variable {X : j_X} {M : j_M} {N : Nat} {xs : Nat → Int32} {x : Int32} {s : Sg}

theorem lc_type (hsc : l_Scr X N xs) (hv1 : vp_in (x + 1) N) (hv2 : vp_in (x + 2) N) (hv3 : vp_in (x + 3) N) (hv4 : vp_in (x + 4) N) (hv5 : vp_in (x + 5) N) (hw : WF s) (hC : RepC s M) (hR : RepR s M) (k : ∀ s2 M2, WF s2 → RepC s2 M2 → RepR s2 M2 → j_W 60 I_L_law X 1259 (l_L x) [] M2) : j_W 60 I_L_law X 184 (l_L x) [] M := by
  show j_W 60 I_L_law X 184 [some (.ref 106), some (.ref 0), some (.ref 79), some (.int x)] [] M
  refine jx_aload1 (pc := 184) d_L_law_184 ?_
  refine jx_aload0 (pc := 185) d_L_law_185 ?_
  refine jx_iload3 (pc := 186) d_L_law_186 ?_
  refine jx_iconst (pc := 187) (v := 1) d_L_law_187 (by decide) ?_
  refine jx_iadd (pc := 188) d_L_law_188 ?_
  refine jx_sld (pc := 189) hsc d_L_law_189 hv1 ?_
  refine jx_callV1 (pc := 190) (d' := 59) vo_J_type lk_L_13 d_L_law_190 ad_0 sh_0 rfl (by omega) (Nat.le_of_ble_eq_true rfl) ?_
  refine c_J_type (d := 57) hw hC (fun M1 a1 h1 => ?_)
  refine jx_r1 ?_
  refine jx_aload2 (pc := 193) d_L_law_193 ?_
  refine jx_aload0 (pc := 194) d_L_law_194 ?_
  refine jx_iload3 (pc := 195) d_L_law_195 ?_
  refine jx_iconst (pc := 196) (v := 1) d_L_law_196 (by decide) ?_
  refine jx_iadd (pc := 197) d_L_law_197 ?_
  refine jx_sld (pc := 198) hsc d_L_law_198 hv1 ?_
  refine jx_callV1 (pc := 199) (d' := 59) vo_R_type lk_L_17 d_L_law_199 ad_79 sh_79 rfl (by omega) (Nat.le_of_ble_eq_true rfl) ?_
  refine c_R_type (d := 58) hw (h1.repR hR) (fun M2 a2 h2 => ?_)
  refine jx_r1 ?_
  refine jx_icmp_eq (pc := 202) 1259 d_L_law_202 (by decide) (fun c202 => ?_) (fun c202 => absurd c202 (fun q => q rfl))
  exact k _ _ (hw.type _) (h2.repC a1) a2
theorem lc_wipe (hsc : l_Scr X N xs) (hv1 : vp_in (x + 1) N) (hv2 : vp_in (x + 2) N) (hv3 : vp_in (x + 3) N) (hv4 : vp_in (x + 4) N) (hv5 : vp_in (x + 5) N) (hw : WF s) (hC : RepC s M) (hR : RepR s M) (k : ∀ s2 M2, WF s2 → RepC s2 M2 → RepR s2 M2 → j_W 60 I_L_law X 1259 (l_L x) [] M2) : j_W 60 I_L_law X 207 (l_L x) [] M := by
  show j_W 60 I_L_law X 207 [some (.ref 106), some (.ref 0), some (.ref 79), some (.int x)] [] M
  refine jx_aload1 (pc := 207) d_L_law_207 ?_
  refine jx_callV0 (pc := 208) (d' := 59) vo_J_wipe lk_L_18 d_L_law_208 ad_0 sh_0 rfl (by omega) (Nat.le_of_ble_eq_true rfl) ?_
  refine c_J_wipe (d := 57) hw hC (fun M1 a1 h1 => ?_)
  refine jx_r1 ?_
  refine jx_aload2 (pc := 211) d_L_law_211 ?_
  refine jx_callV0 (pc := 212) (d' := 59) vo_R_wipe lk_L_22 d_L_law_212 ad_79 sh_79 rfl (by omega) (Nat.le_of_ble_eq_true rfl) ?_
  refine c_R_wipe (d := 59) (h1.repR hR) (fun M2 a2 h2 => ?_)
  refine jx_r1 ?_
  refine jx_icmp_eq (pc := 215) 1259 d_L_law_215 (by decide) (fun c215 => ?_) (fun c215 => absurd c215 (fun q => q rfl))
  exact k _ _ hw.wipe (h2.repC a1) a2
theorem lc_undo (hsc : l_Scr X N xs) (hv1 : vp_in (x + 1) N) (hv2 : vp_in (x + 2) N) (hv3 : vp_in (x + 3) N) (hv4 : vp_in (x + 4) N) (hv5 : vp_in (x + 5) N) (hw : WF s) (hC : RepC s M) (hR : RepR s M) (k : ∀ s2 M2, WF s2 → RepC s2 M2 → RepR s2 M2 → j_W 60 I_L_law X 1259 (l_L x) [] M2) : j_W 60 I_L_law X 220 (l_L x) [] M := by
  show j_W 60 I_L_law X 220 [some (.ref 106), some (.ref 0), some (.ref 79), some (.int x)] [] M
  refine jx_aload1 (pc := 220) d_L_law_220 ?_
  refine jx_callV0 (pc := 221) (d' := 59) vo_J_undo lk_L_23 d_L_law_221 ad_0 sh_0 rfl (by omega) (Nat.le_of_ble_eq_true rfl) ?_
  refine c_J_undo (d := 57) hw hC (fun M1 a1 h1 => ?_)
  refine jx_r1 ?_
  refine jx_aload2 (pc := 224) d_L_law_224 ?_
  refine jx_callV0 (pc := 225) (d' := 59) vo_R_undo lk_L_26 d_L_law_225 ad_79 sh_79 rfl (by omega) (Nat.le_of_ble_eq_true rfl) ?_
  refine c_R_undo (d := 59) hw (h1.repR hR) (fun M2 a2 h2 => ?_)
  refine jx_r1 ?_
  refine jx_icmp_eq (pc := 228) 1259 d_L_law_228 (by decide) (fun c228 => ?_) (fun c228 => absurd c228 (fun q => q rfl))
  exact k _ _ hw.undo (h2.repC a1) a2
theorem lc_fault (hsc : l_Scr X N xs) (hv1 : vp_in (x + 1) N) (hv2 : vp_in (x + 2) N) (hv3 : vp_in (x + 3) N) (hv4 : vp_in (x + 4) N) (hv5 : vp_in (x + 5) N) (hw : WF s) (hC : RepC s M) (hR : RepR s M) (k : ∀ s2 M2, WF s2 → RepC s2 M2 → RepR s2 M2 → j_W 60 I_L_law X 1259 (l_L x) [] M2) : j_W 60 I_L_law X 233 (l_L x) [] M := by
  show j_W 60 I_L_law X 233 [some (.ref 106), some (.ref 0), some (.ref 79), some (.int x)] [] M
  refine jx_aload1 (pc := 233) d_L_law_233 ?_
  refine jx_callV0 (pc := 234) (d' := 59) vo_J_fault lk_L_27 d_L_law_234 ad_0 sh_0 rfl (by omega) (Nat.le_of_ble_eq_true rfl) ?_
  refine c_J_fault (d := 59) hC ?_
  refine jx_r1 ?_
  refine jx_aload2 (pc := 237) d_L_law_237 ?_
  refine jx_callV0 (pc := 238) (d' := 59) vo_R_fault lk_L_30 d_L_law_238 ad_79 sh_79 rfl (by omega) (Nat.le_of_ble_eq_true rfl) ?_
  refine c_R_fault (d := 57) hw ((show Hi M M from fun _ _ => rfl).repR hR) (fun M2 s2 => ?_)
  refine jx_r1 ?_
  refine jx_icmp_eq (pc := 241) 1259 d_L_law_241 (by decide) (fun c241 => ?_) (fun c241 => absurd c241 (fun q => q rfl))
  exact k _ _ hw (s2.lo.repC hC) (s2.rep ((show Hi M M from fun _ _ => rfl).repR hR))
theorem lc_good (hsc : l_Scr X N xs) (hv1 : vp_in (x + 1) N) (hv2 : vp_in (x + 2) N) (hv3 : vp_in (x + 3) N) (hv4 : vp_in (x + 4) N) (hv5 : vp_in (x + 5) N) (hw : WF s) (hC : RepC s M) (hR : RepR s M) (k : ∀ s2 M2, WF s2 → RepC s2 M2 → RepR s2 M2 → j_W 60 I_L_law X 1259 (l_L x) [] M2) : j_W 60 I_L_law X 246 (l_L x) [] M := by
  show j_W 60 I_L_law X 246 [some (.ref 106), some (.ref 0), some (.ref 79), some (.int x)] [] M
  refine jx_aload1 (pc := 246) d_L_law_246 ?_
  refine jx_aload0 (pc := 247) d_L_law_247 ?_
  refine jx_iload3 (pc := 248) d_L_law_248 ?_
  refine jx_iconst (pc := 249) (v := 1) d_L_law_249 (by decide) ?_
  refine jx_iadd (pc := 250) d_L_law_250 ?_
  refine jx_sld (pc := 251) hsc d_L_law_251 hv1 ?_
  refine jx_aload0 (pc := 252) d_L_law_252 ?_
  refine jx_iload3 (pc := 253) d_L_law_253 ?_
  refine jx_iconst (pc := 254) (v := 2) d_L_law_254 (by decide) ?_
  refine jx_iadd (pc := 255) d_L_law_255 ?_
  refine jx_sld (pc := 256) hsc d_L_law_256 hv2 ?_
  refine jx_callV2 (pc := 257) (d' := 59) vo_J_good lk_L_31 d_L_law_257 ad_0 sh_0 rfl (by omega) (Nat.le_of_ble_eq_true rfl) ?_
  refine c_J_good (d := 58) hw hC ?_
  refine jx_r1 ?_
  refine jx_aload2 (pc := 260) d_L_law_260 ?_
  refine jx_aload0 (pc := 261) d_L_law_261 ?_
  refine jx_iload3 (pc := 262) d_L_law_262 ?_
  refine jx_iconst (pc := 263) (v := 1) d_L_law_263 (by decide) ?_
  refine jx_iadd (pc := 264) d_L_law_264 ?_
  refine jx_sld (pc := 265) hsc d_L_law_265 hv1 ?_
  refine jx_aload0 (pc := 266) d_L_law_266 ?_
  refine jx_iload3 (pc := 267) d_L_law_267 ?_
  refine jx_iconst (pc := 268) (v := 2) d_L_law_268 (by decide) ?_
  refine jx_iadd (pc := 269) d_L_law_269 ?_
  refine jx_sld (pc := 270) hsc d_L_law_270 hv2 ?_
  refine jx_callV2 (pc := 271) (d' := 59) vo_R_good lk_L_35 d_L_law_271 ad_79 sh_79 rfl (by omega) (Nat.le_of_ble_eq_true rfl) ?_
  refine c_R_good (d := 55) hw ((show Hi M M from fun _ _ => rfl).repR hR) (fun M2 s2 => ?_)
  refine jx_r1 ?_
  refine jx_icmp_eq (pc := 274) 1259 d_L_law_274 (by decide) (fun c274 => ?_) (fun c274 => absurd c274 (fun q => q rfl))
  exact k _ _ hw (s2.lo.repC hC) (s2.rep ((show Hi M M from fun _ _ => rfl).repR hR))
theorem lc_taste (hsc : l_Scr X N xs) (hv1 : vp_in (x + 1) N) (hv2 : vp_in (x + 2) N) (hv3 : vp_in (x + 3) N) (hv4 : vp_in (x + 4) N) (hv5 : vp_in (x + 5) N) (hw : WF s) (hC : RepC s M) (hR : RepR s M) (k : ∀ s2 M2, WF s2 → RepC s2 M2 → RepR s2 M2 → j_W 60 I_L_law X 1259 (l_L x) [] M2) : j_W 60 I_L_law X 279 (l_L x) [] M := by
  show j_W 60 I_L_law X 279 [some (.ref 106), some (.ref 0), some (.ref 79), some (.int x)] [] M
  refine jx_aload1 (pc := 279) d_L_law_279 ?_
  refine jx_aload0 (pc := 280) d_L_law_280 ?_
  refine jx_iload3 (pc := 281) d_L_law_281 ?_
  refine jx_iconst (pc := 282) (v := 1) d_L_law_282 (by decide) ?_
  refine jx_iadd (pc := 283) d_L_law_283 ?_
  refine jx_sld (pc := 284) hsc d_L_law_284 hv1 ?_
  refine jx_aload0 (pc := 285) d_L_law_285 ?_
  refine jx_iload3 (pc := 286) d_L_law_286 ?_
  refine jx_iconst (pc := 287) (v := 2) d_L_law_287 (by decide) ?_
  refine jx_iadd (pc := 288) d_L_law_288 ?_
  refine jx_sld (pc := 289) hsc d_L_law_289 hv2 ?_
  refine jx_aload0 (pc := 290) d_L_law_290 ?_
  refine jx_iload3 (pc := 291) d_L_law_291 ?_
  refine jx_iconst (pc := 292) (v := 3) d_L_law_292 (by decide) ?_
  refine jx_iadd (pc := 293) d_L_law_293 ?_
  refine jx_sld (pc := 294) hsc d_L_law_294 hv3 ?_
  refine jx_callV3 (pc := 295) (d' := 59) vo_J_taste lk_L_36 d_L_law_295 ad_0 sh_0 rfl (by omega) (Nat.le_of_ble_eq_true rfl) ?_
  refine c_J_taste (d := 58) hC (fun M1 a1 h1 => ?_)
  refine jx_r1 ?_
  refine jx_aload2 (pc := 298) d_L_law_298 ?_
  refine jx_aload0 (pc := 299) d_L_law_299 ?_
  refine jx_iload3 (pc := 300) d_L_law_300 ?_
  refine jx_iconst (pc := 301) (v := 1) d_L_law_301 (by decide) ?_
  refine jx_iadd (pc := 302) d_L_law_302 ?_
  refine jx_sld (pc := 303) hsc d_L_law_303 hv1 ?_
  refine jx_aload0 (pc := 304) d_L_law_304 ?_
  refine jx_iload3 (pc := 305) d_L_law_305 ?_
  refine jx_iconst (pc := 306) (v := 2) d_L_law_306 (by decide) ?_
  refine jx_iadd (pc := 307) d_L_law_307 ?_
  refine jx_sld (pc := 308) hsc d_L_law_308 hv2 ?_
  refine jx_aload0 (pc := 309) d_L_law_309 ?_
  refine jx_iload3 (pc := 310) d_L_law_310 ?_
  refine jx_iconst (pc := 311) (v := 3) d_L_law_311 (by decide) ?_
  refine jx_iadd (pc := 312) d_L_law_312 ?_
  refine jx_sld (pc := 313) hsc d_L_law_313 hv3 ?_
  refine jx_callV3 (pc := 314) (d' := 59) vo_R_taste lk_L_40 d_L_law_314 ad_79 sh_79 rfl (by omega) (Nat.le_of_ble_eq_true rfl) ?_
  refine c_R_taste (d := 57) (h1.repR hR) (fun M2 a2 h2 => ?_)
  refine jx_r1 ?_
  refine jx_icmp_eq (pc := 317) 1259 d_L_law_317 (by decide) (fun c317 => ?_) (fun c317 => absurd c317 (fun q => q rfl))
  exact k _ _ (hw.taste _ _ _) (h2.repC a1) a2
theorem lc_set (hsc : l_Scr X N xs) (hv1 : vp_in (x + 1) N) (hv2 : vp_in (x + 2) N) (hv3 : vp_in (x + 3) N) (hv4 : vp_in (x + 4) N) (hv5 : vp_in (x + 5) N) (hw : WF s) (hC : RepC s M) (hR : RepR s M) (k : ∀ s2 M2, WF s2 → RepC s2 M2 → RepR s2 M2 → j_W 60 I_L_law X 1259 (l_L x) [] M2) : j_W 60 I_L_law X 322 (l_L x) [] M := by
  show j_W 60 I_L_law X 322 [some (.ref 106), some (.ref 0), some (.ref 79), some (.int x)] [] M
  refine jx_aload1 (pc := 322) d_L_law_322 ?_
  refine jx_aload0 (pc := 323) d_L_law_323 ?_
  refine jx_iload3 (pc := 324) d_L_law_324 ?_
  refine jx_iconst (pc := 325) (v := 1) d_L_law_325 (by decide) ?_
  refine jx_iadd (pc := 326) d_L_law_326 ?_
  refine jx_sld (pc := 327) hsc d_L_law_327 hv1 ?_
  refine jx_aload0 (pc := 328) d_L_law_328 ?_
  refine jx_iload3 (pc := 329) d_L_law_329 ?_
  refine jx_iconst (pc := 330) (v := 2) d_L_law_330 (by decide) ?_
  refine jx_iadd (pc := 331) d_L_law_331 ?_
  refine jx_sld (pc := 332) hsc d_L_law_332 hv2 ?_
  refine jx_callV2 (pc := 333) (d' := 59) vo_J_set lk_L_41 d_L_law_333 ad_0 sh_0 rfl (by omega) (Nat.le_of_ble_eq_true rfl) ?_
  refine c_J_set (d := 59) hC (fun M1 a1 h1 => ?_)
  refine jx_r1 ?_
  refine jx_aload2 (pc := 336) d_L_law_336 ?_
  refine jx_aload0 (pc := 337) d_L_law_337 ?_
  refine jx_iload3 (pc := 338) d_L_law_338 ?_
  refine jx_iconst (pc := 339) (v := 1) d_L_law_339 (by decide) ?_
  refine jx_iadd (pc := 340) d_L_law_340 ?_
  refine jx_sld (pc := 341) hsc d_L_law_341 hv1 ?_
  refine jx_aload0 (pc := 342) d_L_law_342 ?_
  refine jx_iload3 (pc := 343) d_L_law_343 ?_
  refine jx_iconst (pc := 344) (v := 2) d_L_law_344 (by decide) ?_
  refine jx_iadd (pc := 345) d_L_law_345 ?_
  refine jx_sld (pc := 346) hsc d_L_law_346 hv2 ?_
  refine jx_callV2 (pc := 347) (d' := 59) vo_R_set lk_L_44 d_L_law_347 ad_79 sh_79 rfl (by omega) (Nat.le_of_ble_eq_true rfl) ?_
  refine c_R_set (d := 58) (h1.repR hR) (fun M2 a2 h2 => ?_)
  refine jx_r1 ?_
  refine jx_icmp_eq (pc := 350) 1259 d_L_law_350 (by decide) (fun c350 => ?_) (fun c350 => absurd c350 (fun q => q rfl))
  exact k _ _ (hw.set _ _) (h2.repC a1) a2
theorem lc_visit (hsc : l_Scr X N xs) (hv1 : vp_in (x + 1) N) (hv2 : vp_in (x + 2) N) (hv3 : vp_in (x + 3) N) (hv4 : vp_in (x + 4) N) (hv5 : vp_in (x + 5) N) (hw : WF s) (hC : RepC s M) (hR : RepR s M) (k : ∀ s2 M2, WF s2 → RepC s2 M2 → RepR s2 M2 → j_W 60 I_L_law X 1259 (l_L x) [] M2) : j_W 60 I_L_law X 355 (l_L x) [] M := by
  show j_W 60 I_L_law X 355 [some (.ref 106), some (.ref 0), some (.ref 79), some (.int x)] [] M
  refine jx_aload1 (pc := 355) d_L_law_355 ?_
  refine jx_aload0 (pc := 356) d_L_law_356 ?_
  refine jx_iload3 (pc := 357) d_L_law_357 ?_
  refine jx_iconst (pc := 358) (v := 1) d_L_law_358 (by decide) ?_
  refine jx_iadd (pc := 359) d_L_law_359 ?_
  refine jx_sld (pc := 360) hsc d_L_law_360 hv1 ?_
  refine jx_aload0 (pc := 361) d_L_law_361 ?_
  refine jx_iload3 (pc := 362) d_L_law_362 ?_
  refine jx_iconst (pc := 363) (v := 2) d_L_law_363 (by decide) ?_
  refine jx_iadd (pc := 364) d_L_law_364 ?_
  refine jx_sld (pc := 365) hsc d_L_law_365 hv2 ?_
  refine jx_aload0 (pc := 366) d_L_law_366 ?_
  refine jx_iload3 (pc := 367) d_L_law_367 ?_
  refine jx_iconst (pc := 368) (v := 3) d_L_law_368 (by decide) ?_
  refine jx_iadd (pc := 369) d_L_law_369 ?_
  refine jx_sld (pc := 370) hsc d_L_law_370 hv3 ?_
  refine jx_callV3 (pc := 371) (d' := 59) vo_J_visit lk_L_45 d_L_law_371 ad_0 sh_0 rfl (by omega) (Nat.le_of_ble_eq_true rfl) ?_
  refine c_J_visit (d := 58) hw hC (fun M1 a1 h1 => ?_)
  refine jx_r1 ?_
  refine jx_aload2 (pc := 374) d_L_law_374 ?_
  refine jx_aload0 (pc := 375) d_L_law_375 ?_
  refine jx_iload3 (pc := 376) d_L_law_376 ?_
  refine jx_iconst (pc := 377) (v := 1) d_L_law_377 (by decide) ?_
  refine jx_iadd (pc := 378) d_L_law_378 ?_
  refine jx_sld (pc := 379) hsc d_L_law_379 hv1 ?_
  refine jx_aload0 (pc := 380) d_L_law_380 ?_
  refine jx_iload3 (pc := 381) d_L_law_381 ?_
  refine jx_iconst (pc := 382) (v := 2) d_L_law_382 (by decide) ?_
  refine jx_iadd (pc := 383) d_L_law_383 ?_
  refine jx_sld (pc := 384) hsc d_L_law_384 hv2 ?_
  refine jx_aload0 (pc := 385) d_L_law_385 ?_
  refine jx_iload3 (pc := 386) d_L_law_386 ?_
  refine jx_iconst (pc := 387) (v := 3) d_L_law_387 (by decide) ?_
  refine jx_iadd (pc := 388) d_L_law_388 ?_
  refine jx_sld (pc := 389) hsc d_L_law_389 hv3 ?_
  refine jx_callV3 (pc := 390) (d' := 59) vo_R_visit lk_L_48 d_L_law_390 ad_79 sh_79 rfl (by omega) (Nat.le_of_ble_eq_true rfl) ?_
  refine c_R_visit (d := 57) hw (h1.repR hR) (fun M2 a2 h2 => ?_)
  refine jx_r1 ?_
  refine jx_icmp_eq (pc := 393) 1259 d_L_law_393 (by decide) (fun c393 => ?_) (fun c393 => absurd c393 (fun q => q rfl))
  exact k _ _ (hw.visit _ _ _) (h2.repC a1) a2
theorem lc_back (hsc : l_Scr X N xs) (hv1 : vp_in (x + 1) N) (hv2 : vp_in (x + 2) N) (hv3 : vp_in (x + 3) N) (hv4 : vp_in (x + 4) N) (hv5 : vp_in (x + 5) N) (hw : WF s) (hC : RepC s M) (hR : RepR s M) (k : ∀ s2 M2, WF s2 → RepC s2 M2 → RepR s2 M2 → j_W 60 I_L_law X 1259 (l_L x) [] M2) : j_W 60 I_L_law X 398 (l_L x) [] M := by
  show j_W 60 I_L_law X 398 [some (.ref 106), some (.ref 0), some (.ref 79), some (.int x)] [] M
  refine jx_aload1 (pc := 398) d_L_law_398 ?_
  refine jx_callV0 (pc := 399) (d' := 59) vo_J_back lk_L_49 d_L_law_399 ad_0 sh_0 rfl (by omega) (Nat.le_of_ble_eq_true rfl) ?_
  refine c_J_back (d := 58) hw hC (fun M1 a1 h1 => ?_)
  refine jx_r1 ?_
  refine jx_aload2 (pc := 402) d_L_law_402 ?_
  refine jx_callV0 (pc := 403) (d' := 59) vo_R_back lk_L_52 d_L_law_403 ad_79 sh_79 rfl (by omega) (Nat.le_of_ble_eq_true rfl) ?_
  refine c_R_back (d := 59) hw (h1.repR hR) (fun M2 a2 h2 => ?_)
  refine jx_r1 ?_
  refine jx_icmp_eq (pc := 406) 1259 d_L_law_406 (by decide) (fun c406 => ?_) (fun c406 => absurd c406 (fun q => q rfl))
  exact k _ _ hw.back (h2.repC a1) a2
theorem lc_read (hsc : l_Scr X N xs) (hv1 : vp_in (x + 1) N) (hv2 : vp_in (x + 2) N) (hv3 : vp_in (x + 3) N) (hv4 : vp_in (x + 4) N) (hv5 : vp_in (x + 5) N) (hw : WF s) (hC : RepC s M) (hR : RepR s M) (k : ∀ s2 M2, WF s2 → RepC s2 M2 → RepR s2 M2 → j_W 60 I_L_law X 1259 (l_L x) [] M2) : j_W 60 I_L_law X 411 (l_L x) [] M := by
  show j_W 60 I_L_law X 411 [some (.ref 106), some (.ref 0), some (.ref 79), some (.int x)] [] M
  refine jx_aload1 (pc := 411) d_L_law_411 ?_
  refine jx_aload0 (pc := 412) d_L_law_412 ?_
  refine jx_iload3 (pc := 413) d_L_law_413 ?_
  refine jx_iconst (pc := 414) (v := 1) d_L_law_414 (by decide) ?_
  refine jx_iadd (pc := 415) d_L_law_415 ?_
  refine jx_sld (pc := 416) hsc d_L_law_416 hv1 ?_
  refine jx_callV1 (pc := 417) (d' := 59) vo_J_read lk_L_53 d_L_law_417 ad_0 sh_0 rfl (by omega) (Nat.le_of_ble_eq_true rfl) ?_
  refine c_J_read (d := 57) hw hC (fun M1 a1 w1 h1 => ?_)
  refine jx_r1 ?_
  refine jx_aload2 (pc := 420) d_L_law_420 ?_
  refine jx_aload0 (pc := 421) d_L_law_421 ?_
  refine jx_iload3 (pc := 422) d_L_law_422 ?_
  refine jx_iconst (pc := 423) (v := 1) d_L_law_423 (by decide) ?_
  refine jx_iadd (pc := 424) d_L_law_424 ?_
  refine jx_sld (pc := 425) hsc d_L_law_425 hv1 ?_
  refine jx_callV1 (pc := 426) (d' := 59) vo_R_read lk_L_56 d_L_law_426 ad_79 sh_79 rfl (by omega) (Nat.le_of_ble_eq_true rfl) ?_
  refine c_R_read (d := 56) hw (h1.repR hR) (fun M2 a2 w2 h2 => ?_)
  refine jx_r1 ?_
  refine jx_icmp_eq (pc := 429) 1259 d_L_law_429 (by decide) (fun c429 => ?_) (fun c429 => absurd c429 (fun q => q rfl))
  exact k _ _ w1 (h2.repC a1) a2
theorem lc_liking (hsc : l_Scr X N xs) (hv1 : vp_in (x + 1) N) (hv2 : vp_in (x + 2) N) (hv3 : vp_in (x + 3) N) (hv4 : vp_in (x + 4) N) (hv5 : vp_in (x + 5) N) (hw : WF s) (hC : RepC s M) (hR : RepR s M) (k : ∀ s2 M2, WF s2 → RepC s2 M2 → RepR s2 M2 → j_W 60 I_L_law X 1259 (l_L x) [] M2) : j_W 60 I_L_law X 434 (l_L x) [] M := by
  show j_W 60 I_L_law X 434 [some (.ref 106), some (.ref 0), some (.ref 79), some (.int x)] [] M
  refine jx_aload1 (pc := 434) d_L_law_434 ?_
  refine jx_aload0 (pc := 435) d_L_law_435 ?_
  refine jx_iload3 (pc := 436) d_L_law_436 ?_
  refine jx_iconst (pc := 437) (v := 1) d_L_law_437 (by decide) ?_
  refine jx_iadd (pc := 438) d_L_law_438 ?_
  refine jx_sld (pc := 439) hsc d_L_law_439 hv1 ?_
  refine jx_aload0 (pc := 440) d_L_law_440 ?_
  refine jx_iload3 (pc := 441) d_L_law_441 ?_
  refine jx_iconst (pc := 442) (v := 2) d_L_law_442 (by decide) ?_
  refine jx_iadd (pc := 443) d_L_law_443 ?_
  refine jx_sld (pc := 444) hsc d_L_law_444 hv2 ?_
  refine jx_aload0 (pc := 445) d_L_law_445 ?_
  refine jx_iload3 (pc := 446) d_L_law_446 ?_
  refine jx_iconst (pc := 447) (v := 3) d_L_law_447 (by decide) ?_
  refine jx_iadd (pc := 448) d_L_law_448 ?_
  refine jx_sld (pc := 449) hsc d_L_law_449 hv3 ?_
  refine jx_callV3 (pc := 450) (d' := 59) vo_J_liking lk_L_57 d_L_law_450 ad_0 sh_0 rfl (by omega) (Nat.le_of_ble_eq_true rfl) ?_
  refine c_J_liking (d := 55) hw hC (fun M1 s1 => ?_)
  refine jx_r1 ?_
  refine jx_aload2 (pc := 453) d_L_law_453 ?_
  refine jx_aload0 (pc := 454) d_L_law_454 ?_
  refine jx_iload3 (pc := 455) d_L_law_455 ?_
  refine jx_iconst (pc := 456) (v := 1) d_L_law_456 (by decide) ?_
  refine jx_iadd (pc := 457) d_L_law_457 ?_
  refine jx_sld (pc := 458) hsc d_L_law_458 hv1 ?_
  refine jx_aload0 (pc := 459) d_L_law_459 ?_
  refine jx_iload3 (pc := 460) d_L_law_460 ?_
  refine jx_iconst (pc := 461) (v := 2) d_L_law_461 (by decide) ?_
  refine jx_iadd (pc := 462) d_L_law_462 ?_
  refine jx_sld (pc := 463) hsc d_L_law_463 hv2 ?_
  refine jx_aload0 (pc := 464) d_L_law_464 ?_
  refine jx_iload3 (pc := 465) d_L_law_465 ?_
  refine jx_iconst (pc := 466) (v := 3) d_L_law_466 (by decide) ?_
  refine jx_iadd (pc := 467) d_L_law_467 ?_
  refine jx_sld (pc := 468) hsc d_L_law_468 hv3 ?_
  refine jx_callV3 (pc := 469) (d' := 59) vo_R_liking lk_L_60 d_L_law_469 ad_79 sh_79 rfl (by omega) (Nat.le_of_ble_eq_true rfl) ?_
  refine c_R_liking (d := 54) hw (s1.hi.repR hR) (fun M2 s2 => ?_)
  refine jx_r1 ?_
  refine jx_icmp_eq (pc := 472) 1259 d_L_law_472 (by decide) (fun c472 => ?_) (fun c472 => absurd c472 (fun q => q rfl))
  exact k _ _ hw (s2.lo.repC (s1.rep hC)) (s2.rep (s1.hi.repR hR))
theorem lc_found (hsc : l_Scr X N xs) (hv1 : vp_in (x + 1) N) (hv2 : vp_in (x + 2) N) (hv3 : vp_in (x + 3) N) (hv4 : vp_in (x + 4) N) (hv5 : vp_in (x + 5) N) (hw : WF s) (hC : RepC s M) (hR : RepR s M) (k : ∀ s2 M2, WF s2 → RepC s2 M2 → RepR s2 M2 → j_W 60 I_L_law X 1259 (l_L x) [] M2) : j_W 60 I_L_law X 477 (l_L x) [] M := by
  show j_W 60 I_L_law X 477 [some (.ref 106), some (.ref 0), some (.ref 79), some (.int x)] [] M
  refine jx_aload1 (pc := 477) d_L_law_477 ?_
  refine jx_aload0 (pc := 478) d_L_law_478 ?_
  refine jx_iload3 (pc := 479) d_L_law_479 ?_
  refine jx_iconst (pc := 480) (v := 1) d_L_law_480 (by decide) ?_
  refine jx_iadd (pc := 481) d_L_law_481 ?_
  refine jx_sld (pc := 482) hsc d_L_law_482 hv1 ?_
  refine jx_aload0 (pc := 483) d_L_law_483 ?_
  refine jx_iload3 (pc := 484) d_L_law_484 ?_
  refine jx_iconst (pc := 485) (v := 2) d_L_law_485 (by decide) ?_
  refine jx_iadd (pc := 486) d_L_law_486 ?_
  refine jx_sld (pc := 487) hsc d_L_law_487 hv2 ?_
  refine jx_callV2 (pc := 488) (d' := 59) vo_J_found lk_L_61 d_L_law_488 ad_0 sh_0 rfl (by omega) (Nat.le_of_ble_eq_true rfl) ?_
  refine c_J_found (d := 55) hw hC (fun M1 s1 => ?_)
  refine jx_r1 ?_
  refine jx_aload2 (pc := 491) d_L_law_491 ?_
  refine jx_aload0 (pc := 492) d_L_law_492 ?_
  refine jx_iload3 (pc := 493) d_L_law_493 ?_
  refine jx_iconst (pc := 494) (v := 1) d_L_law_494 (by decide) ?_
  refine jx_iadd (pc := 495) d_L_law_495 ?_
  refine jx_sld (pc := 496) hsc d_L_law_496 hv1 ?_
  refine jx_aload0 (pc := 497) d_L_law_497 ?_
  refine jx_iload3 (pc := 498) d_L_law_498 ?_
  refine jx_iconst (pc := 499) (v := 2) d_L_law_499 (by decide) ?_
  refine jx_iadd (pc := 500) d_L_law_500 ?_
  refine jx_sld (pc := 501) hsc d_L_law_501 hv2 ?_
  refine jx_callV2 (pc := 502) (d' := 59) vo_R_found lk_L_64 d_L_law_502 ad_79 sh_79 rfl (by omega) (Nat.le_of_ble_eq_true rfl) ?_
  refine c_R_found (d := 54) hw (s1.hi.repR hR) (fun M2 s2 => ?_)
  refine jx_r1 ?_
  refine jx_icmp_eq (pc := 505) 1259 d_L_law_505 (by decide) (fun c505 => ?_) (fun c505 => absurd c505 (fun q => q rfl))
  exact k _ _ hw (s2.lo.repC (s1.rep hC)) (s2.rep (s1.hi.repR hR))
theorem lc_share (hsc : l_Scr X N xs) (hv1 : vp_in (x + 1) N) (hv2 : vp_in (x + 2) N) (hv3 : vp_in (x + 3) N) (hv4 : vp_in (x + 4) N) (hv5 : vp_in (x + 5) N) (hw : WF s) (hC : RepC s M) (hR : RepR s M) (k : ∀ s2 M2, WF s2 → RepC s2 M2 → RepR s2 M2 → j_W 60 I_L_law X 1259 (l_L x) [] M2) : j_W 60 I_L_law X 510 (l_L x) [] M := by
  show j_W 60 I_L_law X 510 [some (.ref 106), some (.ref 0), some (.ref 79), some (.int x)] [] M
  refine jx_aload1 (pc := 510) d_L_law_510 ?_
  refine jx_aload0 (pc := 511) d_L_law_511 ?_
  refine jx_iload3 (pc := 512) d_L_law_512 ?_
  refine jx_iconst (pc := 513) (v := 1) d_L_law_513 (by decide) ?_
  refine jx_iadd (pc := 514) d_L_law_514 ?_
  refine jx_sld (pc := 515) hsc d_L_law_515 hv1 ?_
  refine jx_aload0 (pc := 516) d_L_law_516 ?_
  refine jx_iload3 (pc := 517) d_L_law_517 ?_
  refine jx_iconst (pc := 518) (v := 2) d_L_law_518 (by decide) ?_
  refine jx_iadd (pc := 519) d_L_law_519 ?_
  refine jx_sld (pc := 520) hsc d_L_law_520 hv2 ?_
  refine jx_aload0 (pc := 521) d_L_law_521 ?_
  refine jx_iload3 (pc := 522) d_L_law_522 ?_
  refine jx_iconst (pc := 523) (v := 3) d_L_law_523 (by decide) ?_
  refine jx_iadd (pc := 524) d_L_law_524 ?_
  refine jx_sld (pc := 525) hsc d_L_law_525 hv3 ?_
  refine jx_callV3 (pc := 526) (d' := 59) vo_J_share lk_L_65 d_L_law_526 ad_0 sh_0 rfl (by omega) (Nat.le_of_ble_eq_true rfl) ?_
  refine c_J_share (d := 55) hw hC (fun M1 s1 => ?_)
  refine jx_r1 ?_
  refine jx_aload2 (pc := 529) d_L_law_529 ?_
  refine jx_aload0 (pc := 530) d_L_law_530 ?_
  refine jx_iload3 (pc := 531) d_L_law_531 ?_
  refine jx_iconst (pc := 532) (v := 1) d_L_law_532 (by decide) ?_
  refine jx_iadd (pc := 533) d_L_law_533 ?_
  refine jx_sld (pc := 534) hsc d_L_law_534 hv1 ?_
  refine jx_aload0 (pc := 535) d_L_law_535 ?_
  refine jx_iload3 (pc := 536) d_L_law_536 ?_
  refine jx_iconst (pc := 537) (v := 2) d_L_law_537 (by decide) ?_
  refine jx_iadd (pc := 538) d_L_law_538 ?_
  refine jx_sld (pc := 539) hsc d_L_law_539 hv2 ?_
  refine jx_aload0 (pc := 540) d_L_law_540 ?_
  refine jx_iload3 (pc := 541) d_L_law_541 ?_
  refine jx_iconst (pc := 542) (v := 3) d_L_law_542 (by decide) ?_
  refine jx_iadd (pc := 543) d_L_law_543 ?_
  refine jx_sld (pc := 544) hsc d_L_law_544 hv3 ?_
  refine jx_callV3 (pc := 545) (d' := 59) vo_R_share lk_L_69 d_L_law_545 ad_79 sh_79 rfl (by omega) (Nat.le_of_ble_eq_true rfl) ?_
  refine c_R_share (d := 54) hw (s1.hi.repR hR) (fun M2 s2 => ?_)
  refine jx_r1 ?_
  refine jx_lcmp (pc := 548) d_L_law_548 ?_
  refine jx_if_eq (pc := 549) 1259 d_L_law_549 (by decide) (fun c549 => ?_) (fun c549 => absurd c549 (fun q => q (lg_cmp_rf _)))
  exact k _ _ hw (s2.lo.repC (s1.rep hC)) (s2.rep (s1.hi.repR hR))
theorem lc_quarrel (hsc : l_Scr X N xs) (hv1 : vp_in (x + 1) N) (hv2 : vp_in (x + 2) N) (hv3 : vp_in (x + 3) N) (hv4 : vp_in (x + 4) N) (hv5 : vp_in (x + 5) N) (hw : WF s) (hC : RepC s M) (hR : RepR s M) (k : ∀ s2 M2, WF s2 → RepC s2 M2 → RepR s2 M2 → j_W 60 I_L_law X 1259 (l_L x) [] M2) : j_W 60 I_L_law X 554 (l_L x) [] M := by
  show j_W 60 I_L_law X 554 [some (.ref 106), some (.ref 0), some (.ref 79), some (.int x)] [] M
  refine jx_aload1 (pc := 554) d_L_law_554 ?_
  refine jx_aload0 (pc := 555) d_L_law_555 ?_
  refine jx_iload3 (pc := 556) d_L_law_556 ?_
  refine jx_iconst (pc := 557) (v := 1) d_L_law_557 (by decide) ?_
  refine jx_iadd (pc := 558) d_L_law_558 ?_
  refine jx_sld (pc := 559) hsc d_L_law_559 hv1 ?_
  refine jx_callV1 (pc := 560) (d' := 59) vo_J_quarrel lk_L_70 d_L_law_560 ad_0 sh_0 rfl (by omega) (Nat.le_of_ble_eq_true rfl) ?_
  refine c_J_quarrel (d := 55) hw hC (fun M1 s1 => ?_)
  refine jx_r1 ?_
  refine jx_aload2 (pc := 563) d_L_law_563 ?_
  refine jx_aload0 (pc := 564) d_L_law_564 ?_
  refine jx_iload3 (pc := 565) d_L_law_565 ?_
  refine jx_iconst (pc := 566) (v := 1) d_L_law_566 (by decide) ?_
  refine jx_iadd (pc := 567) d_L_law_567 ?_
  refine jx_sld (pc := 568) hsc d_L_law_568 hv1 ?_
  refine jx_callV1 (pc := 569) (d' := 59) vo_R_quarrel lk_L_73 d_L_law_569 ad_79 sh_79 rfl (by omega) (Nat.le_of_ble_eq_true rfl) ?_
  refine c_R_quarrel (d := 54) hw (s1.hi.repR hR) (fun M2 s2 => ?_)
  refine jx_r1 ?_
  refine jx_icmp_eq (pc := 572) 1259 d_L_law_572 (by decide) (fun c572 => ?_) (fun c572 => absurd c572 (fun q => q rfl))
  exact k _ _ hw (s2.lo.repC (s1.rep hC)) (s2.rep (s1.hi.repR hR))
theorem lc_dissent (hsc : l_Scr X N xs) (hv1 : vp_in (x + 1) N) (hv2 : vp_in (x + 2) N) (hv3 : vp_in (x + 3) N) (hv4 : vp_in (x + 4) N) (hv5 : vp_in (x + 5) N) (hw : WF s) (hC : RepC s M) (hR : RepR s M) (k : ∀ s2 M2, WF s2 → RepC s2 M2 → RepR s2 M2 → j_W 60 I_L_law X 1259 (l_L x) [] M2) : j_W 60 I_L_law X 577 (l_L x) [] M := by
  show j_W 60 I_L_law X 577 [some (.ref 106), some (.ref 0), some (.ref 79), some (.int x)] [] M
  refine jx_aload1 (pc := 577) d_L_law_577 ?_
  refine jx_callV0 (pc := 578) (d' := 59) vo_J_dissent lk_L_74 d_L_law_578 ad_0 sh_0 rfl (by omega) (Nat.le_of_ble_eq_true rfl) ?_
  refine c_J_dissent (d := 55) hw hC (fun M1 s1 => ?_)
  refine jx_r1 ?_
  refine jx_aload2 (pc := 581) d_L_law_581 ?_
  refine jx_callV0 (pc := 582) (d' := 59) vo_R_dissent lk_L_77 d_L_law_582 ad_79 sh_79 rfl (by omega) (Nat.le_of_ble_eq_true rfl) ?_
  refine c_R_dissent (d := 54) hw (s1.hi.repR hR) (fun M2 s2 => ?_)
  refine jx_r1 ?_
  refine jx_icmp_eq (pc := 585) 1259 d_L_law_585 (by decide) (fun c585 => ?_) (fun c585 => absurd c585 (fun q => q rfl))
  exact k _ _ hw (s2.lo.repC (s1.rep hC)) (s2.rep (s1.hi.repR hR))
theorem lc_changes (hsc : l_Scr X N xs) (hv1 : vp_in (x + 1) N) (hv2 : vp_in (x + 2) N) (hv3 : vp_in (x + 3) N) (hv4 : vp_in (x + 4) N) (hv5 : vp_in (x + 5) N) (hw : WF s) (hC : RepC s M) (hR : RepR s M) (k : ∀ s2 M2, WF s2 → RepC s2 M2 → RepR s2 M2 → j_W 60 I_L_law X 1259 (l_L x) [] M2) : j_W 60 I_L_law X 590 (l_L x) [] M := by
  show j_W 60 I_L_law X 590 [some (.ref 106), some (.ref 0), some (.ref 79), some (.int x)] [] M
  refine jx_aload1 (pc := 590) d_L_law_590 ?_
  refine jx_callV0 (pc := 591) (d' := 59) vo_J_changes lk_L_78 d_L_law_591 ad_0 sh_0 rfl (by omega) (Nat.le_of_ble_eq_true rfl) ?_
  refine c_J_changes (d := 55) hw hC (fun M1 s1 => ?_)
  refine jx_r1 ?_
  refine jx_aload2 (pc := 594) d_L_law_594 ?_
  refine jx_callV0 (pc := 595) (d' := 59) vo_R_changes lk_L_81 d_L_law_595 ad_79 sh_79 rfl (by omega) (Nat.le_of_ble_eq_true rfl) ?_
  refine c_R_changes (d := 54) hw (s1.hi.repR hR) (fun M2 s2 => ?_)
  refine jx_r1 ?_
  refine jx_icmp_eq (pc := 598) 1259 d_L_law_598 (by decide) (fun c598 => ?_) (fun c598 => absurd c598 (fun q => q rfl))
  exact k _ _ hw (s2.lo.repC (s1.rep hC)) (s2.rep (s1.hi.repR hR))
theorem lc_suit (hsc : l_Scr X N xs) (hv1 : vp_in (x + 1) N) (hv2 : vp_in (x + 2) N) (hv3 : vp_in (x + 3) N) (hv4 : vp_in (x + 4) N) (hv5 : vp_in (x + 5) N) (hw : WF s) (hC : RepC s M) (hR : RepR s M) (k : ∀ s2 M2, WF s2 → RepC s2 M2 → RepR s2 M2 → j_W 60 I_L_law X 1259 (l_L x) [] M2) : j_W 60 I_L_law X 603 (l_L x) [] M := by
  show j_W 60 I_L_law X 603 [some (.ref 106), some (.ref 0), some (.ref 79), some (.int x)] [] M
  refine jx_aload1 (pc := 603) d_L_law_603 ?_
  refine jx_aload0 (pc := 604) d_L_law_604 ?_
  refine jx_iload3 (pc := 605) d_L_law_605 ?_
  refine jx_iconst (pc := 606) (v := 1) d_L_law_606 (by decide) ?_
  refine jx_iadd (pc := 607) d_L_law_607 ?_
  refine jx_sld (pc := 608) hsc d_L_law_608 hv1 ?_
  refine jx_aload0 (pc := 609) d_L_law_609 ?_
  refine jx_iload3 (pc := 610) d_L_law_610 ?_
  refine jx_iconst (pc := 611) (v := 2) d_L_law_611 (by decide) ?_
  refine jx_iadd (pc := 612) d_L_law_612 ?_
  refine jx_sld (pc := 613) hsc d_L_law_613 hv2 ?_
  refine jx_aload0 (pc := 614) d_L_law_614 ?_
  refine jx_iload3 (pc := 615) d_L_law_615 ?_
  refine jx_iconst (pc := 616) (v := 3) d_L_law_616 (by decide) ?_
  refine jx_iadd (pc := 617) d_L_law_617 ?_
  refine jx_sld (pc := 618) hsc d_L_law_618 hv3 ?_
  refine jx_callV3 (pc := 619) (d' := 59) vo_J_suit lk_L_82 d_L_law_619 ad_0 sh_0 rfl (by omega) (Nat.le_of_ble_eq_true rfl) ?_
  refine c_J_suit (d := 50) hw hC (fun M1 s1 => ?_)
  refine jx_r1 ?_
  refine jx_aload2 (pc := 622) d_L_law_622 ?_
  refine jx_aload0 (pc := 623) d_L_law_623 ?_
  refine jx_iload3 (pc := 624) d_L_law_624 ?_
  refine jx_iconst (pc := 625) (v := 1) d_L_law_625 (by decide) ?_
  refine jx_iadd (pc := 626) d_L_law_626 ?_
  refine jx_sld (pc := 627) hsc d_L_law_627 hv1 ?_
  refine jx_aload0 (pc := 628) d_L_law_628 ?_
  refine jx_iload3 (pc := 629) d_L_law_629 ?_
  refine jx_iconst (pc := 630) (v := 2) d_L_law_630 (by decide) ?_
  refine jx_iadd (pc := 631) d_L_law_631 ?_
  refine jx_sld (pc := 632) hsc d_L_law_632 hv2 ?_
  refine jx_aload0 (pc := 633) d_L_law_633 ?_
  refine jx_iload3 (pc := 634) d_L_law_634 ?_
  refine jx_iconst (pc := 635) (v := 3) d_L_law_635 (by decide) ?_
  refine jx_iadd (pc := 636) d_L_law_636 ?_
  refine jx_sld (pc := 637) hsc d_L_law_637 hv3 ?_
  refine jx_callV3 (pc := 638) (d' := 59) vo_R_suit lk_L_85 d_L_law_638 ad_79 sh_79 rfl (by omega) (Nat.le_of_ble_eq_true rfl) ?_
  refine c_R_suit (d := 53) hw (s1.hi.repR hR) (fun M2 s2 => ?_)
  refine jx_r1 ?_
  refine jx_icmp_eq (pc := 641) 1259 d_L_law_641 (by decide) (fun c641 => ?_) (fun c641 => absurd c641 (fun q => q rfl))
  exact k _ _ hw (s2.lo.repC (s1.rep hC)) (s2.rep (s1.hi.repR hR))
theorem lc_replies (hsc : l_Scr X N xs) (hv1 : vp_in (x + 1) N) (hv2 : vp_in (x + 2) N) (hv3 : vp_in (x + 3) N) (hv4 : vp_in (x + 4) N) (hv5 : vp_in (x + 5) N) (hw : WF s) (hC : RepC s M) (hR : RepR s M) (k : ∀ s2 M2, WF s2 → RepC s2 M2 → RepR s2 M2 → j_W 60 I_L_law X 1259 (l_L x) [] M2) : j_W 60 I_L_law X 646 (l_L x) [] M := by
  show j_W 60 I_L_law X 646 [some (.ref 106), some (.ref 0), some (.ref 79), some (.int x)] [] M
  refine jx_aload1 (pc := 646) d_L_law_646 ?_
  refine jx_aload0 (pc := 647) d_L_law_647 ?_
  refine jx_iload3 (pc := 648) d_L_law_648 ?_
  refine jx_iconst (pc := 649) (v := 1) d_L_law_649 (by decide) ?_
  refine jx_iadd (pc := 650) d_L_law_650 ?_
  refine jx_sld (pc := 651) hsc d_L_law_651 hv1 ?_
  refine jx_aload0 (pc := 652) d_L_law_652 ?_
  refine jx_iload3 (pc := 653) d_L_law_653 ?_
  refine jx_iconst (pc := 654) (v := 2) d_L_law_654 (by decide) ?_
  refine jx_iadd (pc := 655) d_L_law_655 ?_
  refine jx_sld (pc := 656) hsc d_L_law_656 hv2 ?_
  refine jx_aload0 (pc := 657) d_L_law_657 ?_
  refine jx_iload3 (pc := 658) d_L_law_658 ?_
  refine jx_iconst (pc := 659) (v := 3) d_L_law_659 (by decide) ?_
  refine jx_iadd (pc := 660) d_L_law_660 ?_
  refine jx_sld (pc := 661) hsc d_L_law_661 hv3 ?_
  refine jx_aload0 (pc := 662) d_L_law_662 ?_
  refine jx_iload3 (pc := 663) d_L_law_663 ?_
  refine jx_iconst (pc := 664) (v := 4) d_L_law_664 (by decide) ?_
  refine jx_iadd (pc := 665) d_L_law_665 ?_
  refine jx_sld (pc := 666) hsc d_L_law_666 hv4 ?_
  refine jx_callV4 (pc := 667) (d' := 59) vo_J_replies lk_L_86 d_L_law_667 ad_0 sh_0 rfl (by omega) (Nat.le_of_ble_eq_true rfl) ?_
  refine c_J_replies (d := 48) hw hC (fun M1 s1 => ?_)
  refine jx_r1 ?_
  refine jx_aload2 (pc := 670) d_L_law_670 ?_
  refine jx_aload0 (pc := 671) d_L_law_671 ?_
  refine jx_iload3 (pc := 672) d_L_law_672 ?_
  refine jx_iconst (pc := 673) (v := 1) d_L_law_673 (by decide) ?_
  refine jx_iadd (pc := 674) d_L_law_674 ?_
  refine jx_sld (pc := 675) hsc d_L_law_675 hv1 ?_
  refine jx_aload0 (pc := 676) d_L_law_676 ?_
  refine jx_iload3 (pc := 677) d_L_law_677 ?_
  refine jx_iconst (pc := 678) (v := 2) d_L_law_678 (by decide) ?_
  refine jx_iadd (pc := 679) d_L_law_679 ?_
  refine jx_sld (pc := 680) hsc d_L_law_680 hv2 ?_
  refine jx_aload0 (pc := 681) d_L_law_681 ?_
  refine jx_iload3 (pc := 682) d_L_law_682 ?_
  refine jx_iconst (pc := 683) (v := 3) d_L_law_683 (by decide) ?_
  refine jx_iadd (pc := 684) d_L_law_684 ?_
  refine jx_sld (pc := 685) hsc d_L_law_685 hv3 ?_
  refine jx_aload0 (pc := 686) d_L_law_686 ?_
  refine jx_iload3 (pc := 687) d_L_law_687 ?_
  refine jx_iconst (pc := 688) (v := 4) d_L_law_688 (by decide) ?_
  refine jx_iadd (pc := 689) d_L_law_689 ?_
  refine jx_sld (pc := 690) hsc d_L_law_690 hv4 ?_
  refine jx_callV4 (pc := 691) (d' := 59) vo_R_replies lk_L_90 d_L_law_691 ad_79 sh_79 rfl (by omega) (Nat.le_of_ble_eq_true rfl) ?_
  refine c_R_replies (d := 54) hw (s1.hi.repR hR) (fun M2 s2 => ?_)
  refine jx_r1 ?_
  refine jx_icmp_eq (pc := 694) 1259 d_L_law_694 (by decide) (fun c694 => ?_) (fun c694 => absurd c694 (fun q => q rfl))
  exact k _ _ hw (s2.lo.repC (s1.rep hC)) (s2.rep (s1.hi.repR hR))
theorem lc_seen (hsc : l_Scr X N xs) (hv1 : vp_in (x + 1) N) (hv2 : vp_in (x + 2) N) (hv3 : vp_in (x + 3) N) (hv4 : vp_in (x + 4) N) (hv5 : vp_in (x + 5) N) (hw : WF s) (hC : RepC s M) (hR : RepR s M) (k : ∀ s2 M2, WF s2 → RepC s2 M2 → RepR s2 M2 → j_W 60 I_L_law X 1259 (l_L x) [] M2) : j_W 60 I_L_law X 699 (l_L x) [] M := by
  show j_W 60 I_L_law X 699 [some (.ref 106), some (.ref 0), some (.ref 79), some (.int x)] [] M
  refine jx_aload1 (pc := 699) d_L_law_699 ?_
  refine jx_aload0 (pc := 700) d_L_law_700 ?_
  refine jx_iload3 (pc := 701) d_L_law_701 ?_
  refine jx_iconst (pc := 702) (v := 1) d_L_law_702 (by decide) ?_
  refine jx_iadd (pc := 703) d_L_law_703 ?_
  refine jx_sld (pc := 704) hsc d_L_law_704 hv1 ?_
  refine jx_aload0 (pc := 705) d_L_law_705 ?_
  refine jx_iload3 (pc := 706) d_L_law_706 ?_
  refine jx_iconst (pc := 707) (v := 2) d_L_law_707 (by decide) ?_
  refine jx_iadd (pc := 708) d_L_law_708 ?_
  refine jx_sld (pc := 709) hsc d_L_law_709 hv2 ?_
  refine jx_callV2 (pc := 710) (d' := 59) vo_J_seen lk_L_91 d_L_law_710 ad_0 sh_0 rfl (by omega) (Nat.le_of_ble_eq_true rfl) ?_
  refine c_J_seen (d := 57) hw hC (fun M1 a1 h1 => ?_)
  refine jx_r1 ?_
  refine jx_aload2 (pc := 713) d_L_law_713 ?_
  refine jx_aload0 (pc := 714) d_L_law_714 ?_
  refine jx_iload3 (pc := 715) d_L_law_715 ?_
  refine jx_iconst (pc := 716) (v := 1) d_L_law_716 (by decide) ?_
  refine jx_iadd (pc := 717) d_L_law_717 ?_
  refine jx_sld (pc := 718) hsc d_L_law_718 hv1 ?_
  refine jx_aload0 (pc := 719) d_L_law_719 ?_
  refine jx_iload3 (pc := 720) d_L_law_720 ?_
  refine jx_iconst (pc := 721) (v := 2) d_L_law_721 (by decide) ?_
  refine jx_iadd (pc := 722) d_L_law_722 ?_
  refine jx_sld (pc := 723) hsc d_L_law_723 hv2 ?_
  refine jx_callV2 (pc := 724) (d' := 59) vo_R_seen lk_L_94 d_L_law_724 ad_79 sh_79 rfl (by omega) (Nat.le_of_ble_eq_true rfl) ?_
  refine c_R_seen (d := 57) hw (h1.repR hR) (fun M2 a2 h2 => ?_)
  refine jx_r1 ?_
  refine jx_icmp_eq (pc := 727) 1259 d_L_law_727 (by decide) (fun c727 => ?_) (fun c727 => absurd c727 (fun q => q rfl))
  exact k _ _ (hw.seen _ _) (h2.repC a1) a2
theorem lc_forget (hsc : l_Scr X N xs) (hv1 : vp_in (x + 1) N) (hv2 : vp_in (x + 2) N) (hv3 : vp_in (x + 3) N) (hv4 : vp_in (x + 4) N) (hv5 : vp_in (x + 5) N) (hw : WF s) (hC : RepC s M) (hR : RepR s M) (k : ∀ s2 M2, WF s2 → RepC s2 M2 → RepR s2 M2 → j_W 60 I_L_law X 1259 (l_L x) [] M2) : j_W 60 I_L_law X 732 (l_L x) [] M := by
  show j_W 60 I_L_law X 732 [some (.ref 106), some (.ref 0), some (.ref 79), some (.int x)] [] M
  refine jx_aload1 (pc := 732) d_L_law_732 ?_
  refine jx_callV0 (pc := 733) (d' := 59) vo_J_forget lk_L_95 d_L_law_733 ad_0 sh_0 rfl (by omega) (Nat.le_of_ble_eq_true rfl) ?_
  refine c_J_forget (d := 58) hC (fun M1 a1 h1 => ?_)
  refine jx_r1 ?_
  refine jx_aload2 (pc := 736) d_L_law_736 ?_
  refine jx_callV0 (pc := 737) (d' := 59) vo_R_forget lk_L_98 d_L_law_737 ad_79 sh_79 rfl (by omega) (Nat.le_of_ble_eq_true rfl) ?_
  refine c_R_forget (d := 59) (h1.repR hR) (fun M2 a2 h2 => ?_)
  refine jx_r1 ?_
  refine jx_icmp_eq (pc := 740) 1259 d_L_law_740 (by decide) (fun c740 => ?_) (fun c740 => absurd c740 (fun q => q rfl))
  exact k _ _ hw.forget (h2.repC a1) a2
theorem lc_tastes (hsc : l_Scr X N xs) (hv1 : vp_in (x + 1) N) (hv2 : vp_in (x + 2) N) (hv3 : vp_in (x + 3) N) (hv4 : vp_in (x + 4) N) (hv5 : vp_in (x + 5) N) (hw : WF s) (hC : RepC s M) (hR : RepR s M) (k : ∀ s2 M2, WF s2 → RepC s2 M2 → RepR s2 M2 → j_W 60 I_L_law X 1259 (l_L x) [] M2) : j_W 60 I_L_law X 745 (l_L x) [] M := by
  show j_W 60 I_L_law X 745 [some (.ref 106), some (.ref 0), some (.ref 79), some (.int x)] [] M
  refine jx_aload1 (pc := 745) d_L_law_745 ?_
  refine jx_aload0 (pc := 746) d_L_law_746 ?_
  refine jx_iload3 (pc := 747) d_L_law_747 ?_
  refine jx_iconst (pc := 748) (v := 1) d_L_law_748 (by decide) ?_
  refine jx_iadd (pc := 749) d_L_law_749 ?_
  refine jx_sld (pc := 750) hsc d_L_law_750 hv1 ?_
  refine jx_callV1 (pc := 751) (d' := 59) vo_J_tastes lk_L_99 d_L_law_751 ad_0 sh_0 rfl (by omega) (Nat.le_of_ble_eq_true rfl) ?_
  refine c_J_tastes (d := 54) hw hC (fun M1 s1 => ?_)
  refine jx_r1 ?_
  refine jx_aload2 (pc := 754) d_L_law_754 ?_
  refine jx_aload0 (pc := 755) d_L_law_755 ?_
  refine jx_iload3 (pc := 756) d_L_law_756 ?_
  refine jx_iconst (pc := 757) (v := 1) d_L_law_757 (by decide) ?_
  refine jx_iadd (pc := 758) d_L_law_758 ?_
  refine jx_sld (pc := 759) hsc d_L_law_759 hv1 ?_
  refine jx_callV1 (pc := 760) (d' := 59) vo_R_tastes lk_L_102 d_L_law_760 ad_79 sh_79 rfl (by omega) (Nat.le_of_ble_eq_true rfl) ?_
  refine c_R_tastes (d := 54) hw (s1.hi.repR hR) (fun M2 s2 => ?_)
  refine jx_r1 ?_
  refine jx_icmp_eq (pc := 763) 1259 d_L_law_763 (by decide) (fun c763 => ?_) (fun c763 => absurd c763 (fun q => q rfl))
  exact k _ _ hw (s2.lo.repC (s1.rep hC)) (s2.rep (s1.hi.repR hR))
theorem lc_tells (hsc : l_Scr X N xs) (hv1 : vp_in (x + 1) N) (hv2 : vp_in (x + 2) N) (hv3 : vp_in (x + 3) N) (hv4 : vp_in (x + 4) N) (hv5 : vp_in (x + 5) N) (hw : WF s) (hC : RepC s M) (hR : RepR s M) (k : ∀ s2 M2, WF s2 → RepC s2 M2 → RepR s2 M2 → j_W 60 I_L_law X 1259 (l_L x) [] M2) : j_W 60 I_L_law X 768 (l_L x) [] M := by
  show j_W 60 I_L_law X 768 [some (.ref 106), some (.ref 0), some (.ref 79), some (.int x)] [] M
  refine jx_aload1 (pc := 768) d_L_law_768 ?_
  refine jx_aload0 (pc := 769) d_L_law_769 ?_
  refine jx_iload3 (pc := 770) d_L_law_770 ?_
  refine jx_iconst (pc := 771) (v := 1) d_L_law_771 (by decide) ?_
  refine jx_iadd (pc := 772) d_L_law_772 ?_
  refine jx_sld (pc := 773) hsc d_L_law_773 hv1 ?_
  refine jx_aload0 (pc := 774) d_L_law_774 ?_
  refine jx_iload3 (pc := 775) d_L_law_775 ?_
  refine jx_iconst (pc := 776) (v := 2) d_L_law_776 (by decide) ?_
  refine jx_iadd (pc := 777) d_L_law_777 ?_
  refine jx_sld (pc := 778) hsc d_L_law_778 hv2 ?_
  refine jx_callV2 (pc := 779) (d' := 59) vo_J_tells lk_L_103 d_L_law_779 ad_0 sh_0 rfl (by omega) (Nat.le_of_ble_eq_true rfl) ?_
  refine c_J_tells (d := 54) hw hC (fun M1 s1 => ?_)
  refine jx_r1 ?_
  refine jx_aload2 (pc := 782) d_L_law_782 ?_
  refine jx_aload0 (pc := 783) d_L_law_783 ?_
  refine jx_iload3 (pc := 784) d_L_law_784 ?_
  refine jx_iconst (pc := 785) (v := 1) d_L_law_785 (by decide) ?_
  refine jx_iadd (pc := 786) d_L_law_786 ?_
  refine jx_sld (pc := 787) hsc d_L_law_787 hv1 ?_
  refine jx_aload0 (pc := 788) d_L_law_788 ?_
  refine jx_iload3 (pc := 789) d_L_law_789 ?_
  refine jx_iconst (pc := 790) (v := 2) d_L_law_790 (by decide) ?_
  refine jx_iadd (pc := 791) d_L_law_791 ?_
  refine jx_sld (pc := 792) hsc d_L_law_792 hv2 ?_
  refine jx_callV2 (pc := 793) (d' := 59) vo_R_tells lk_L_106 d_L_law_793 ad_79 sh_79 rfl (by omega) (Nat.le_of_ble_eq_true rfl) ?_
  refine c_R_tells (d := 54) hw (s1.hi.repR hR) (fun M2 s2 => ?_)
  refine jx_r1 ?_
  refine jx_icmp_eq (pc := 796) 1259 d_L_law_796 (by decide) (fun c796 => ?_) (fun c796 => absurd c796 (fun q => q rfl))
  exact k _ _ hw (s2.lo.repC (s1.rep hC)) (s2.rep (s1.hi.repR hR))
theorem lc_trainer (hsc : l_Scr X N xs) (hv1 : vp_in (x + 1) N) (hv2 : vp_in (x + 2) N) (hv3 : vp_in (x + 3) N) (hv4 : vp_in (x + 4) N) (hv5 : vp_in (x + 5) N) (hw : WF s) (hC : RepC s M) (hR : RepR s M) (k : ∀ s2 M2, WF s2 → RepC s2 M2 → RepR s2 M2 → j_W 60 I_L_law X 1259 (l_L x) [] M2) : j_W 60 I_L_law X 801 (l_L x) [] M := by
  show j_W 60 I_L_law X 801 [some (.ref 106), some (.ref 0), some (.ref 79), some (.int x)] [] M
  refine jx_aload1 (pc := 801) d_L_law_801 ?_
  refine jx_callV0 (pc := 802) (d' := 59) vo_J_trainer lk_L_107 d_L_law_802 ad_0 sh_0 rfl (by omega) (Nat.le_of_ble_eq_true rfl) ?_
  refine c_J_trainer (d := 55) hw hC (fun M1 s1 => ?_)
  refine jx_r1 ?_
  refine jx_aload2 (pc := 805) d_L_law_805 ?_
  refine jx_callV0 (pc := 806) (d' := 59) vo_R_trainer lk_L_110 d_L_law_806 ad_79 sh_79 rfl (by omega) (Nat.le_of_ble_eq_true rfl) ?_
  refine c_R_trainer (d := 55) hw (s1.hi.repR hR) (fun M2 s2 => ?_)
  refine jx_r1 ?_
  refine jx_icmp_eq (pc := 809) 1259 d_L_law_809 (by decide) (fun c809 => ?_) (fun c809 => absurd c809 (fun q => q rfl))
  exact k _ _ hw (s2.lo.repC (s1.rep hC)) (s2.rep (s1.hi.repR hR))
theorem lc_chance (hsc : l_Scr X N xs) (hv1 : vp_in (x + 1) N) (hv2 : vp_in (x + 2) N) (hv3 : vp_in (x + 3) N) (hv4 : vp_in (x + 4) N) (hv5 : vp_in (x + 5) N) (hw : WF s) (hC : RepC s M) (hR : RepR s M) (k : ∀ s2 M2, WF s2 → RepC s2 M2 → RepR s2 M2 → j_W 60 I_L_law X 1259 (l_L x) [] M2) : j_W 60 I_L_law X 814 (l_L x) [] M := by
  show j_W 60 I_L_law X 814 [some (.ref 106), some (.ref 0), some (.ref 79), some (.int x)] [] M
  refine jx_aload1 (pc := 814) d_L_law_814 ?_
  refine jx_aload0 (pc := 815) d_L_law_815 ?_
  refine jx_iload3 (pc := 816) d_L_law_816 ?_
  refine jx_iconst (pc := 817) (v := 1) d_L_law_817 (by decide) ?_
  refine jx_iadd (pc := 818) d_L_law_818 ?_
  refine jx_sld (pc := 819) hsc d_L_law_819 hv1 ?_
  refine jx_aload0 (pc := 820) d_L_law_820 ?_
  refine jx_iload3 (pc := 821) d_L_law_821 ?_
  refine jx_iconst (pc := 822) (v := 2) d_L_law_822 (by decide) ?_
  refine jx_iadd (pc := 823) d_L_law_823 ?_
  refine jx_sld (pc := 824) hsc d_L_law_824 hv2 ?_
  refine jx_aload0 (pc := 825) d_L_law_825 ?_
  refine jx_iload3 (pc := 826) d_L_law_826 ?_
  refine jx_iconst (pc := 827) (v := 3) d_L_law_827 (by decide) ?_
  refine jx_iadd (pc := 828) d_L_law_828 ?_
  refine jx_sld (pc := 829) hsc d_L_law_829 hv3 ?_
  refine jx_aload0 (pc := 830) d_L_law_830 ?_
  refine jx_iload3 (pc := 831) d_L_law_831 ?_
  refine jx_iconst (pc := 832) (v := 4) d_L_law_832 (by decide) ?_
  refine jx_iadd (pc := 833) d_L_law_833 ?_
  refine jx_sld (pc := 834) hsc d_L_law_834 hv4 ?_
  refine jx_callV4 (pc := 835) (d' := 59) vo_J_chance lk_L_111 d_L_law_835 ad_0 sh_0 rfl (by omega) (Nat.le_of_ble_eq_true rfl) ?_
  refine c_J_chance (d := 38) hw hC (fun M1 s1 => ?_)
  refine jx_r1 ?_
  refine jx_aload2 (pc := 838) d_L_law_838 ?_
  refine jx_aload0 (pc := 839) d_L_law_839 ?_
  refine jx_iload3 (pc := 840) d_L_law_840 ?_
  refine jx_iconst (pc := 841) (v := 1) d_L_law_841 (by decide) ?_
  refine jx_iadd (pc := 842) d_L_law_842 ?_
  refine jx_sld (pc := 843) hsc d_L_law_843 hv1 ?_
  refine jx_aload0 (pc := 844) d_L_law_844 ?_
  refine jx_iload3 (pc := 845) d_L_law_845 ?_
  refine jx_iconst (pc := 846) (v := 2) d_L_law_846 (by decide) ?_
  refine jx_iadd (pc := 847) d_L_law_847 ?_
  refine jx_sld (pc := 848) hsc d_L_law_848 hv2 ?_
  refine jx_aload0 (pc := 849) d_L_law_849 ?_
  refine jx_iload3 (pc := 850) d_L_law_850 ?_
  refine jx_iconst (pc := 851) (v := 3) d_L_law_851 (by decide) ?_
  refine jx_iadd (pc := 852) d_L_law_852 ?_
  refine jx_sld (pc := 853) hsc d_L_law_853 hv3 ?_
  refine jx_aload0 (pc := 854) d_L_law_854 ?_
  refine jx_iload3 (pc := 855) d_L_law_855 ?_
  refine jx_iconst (pc := 856) (v := 4) d_L_law_856 (by decide) ?_
  refine jx_iadd (pc := 857) d_L_law_857 ?_
  refine jx_sld (pc := 858) hsc d_L_law_858 hv4 ?_
  refine jx_callV4 (pc := 859) (d' := 59) vo_R_chance lk_L_115 d_L_law_859 ad_79 sh_79 rfl (by omega) (Nat.le_of_ble_eq_true rfl) ?_
  refine c_R_chance (d := 54) hw (s1.hi.repR hR) (fun M2 s2 => ?_)
  refine jx_r1 ?_
  refine jx_lcmp (pc := 862) d_L_law_862 ?_
  refine jx_if_eq (pc := 863) 1259 d_L_law_863 (by decide) (fun c863 => ?_) (fun c863 => absurd c863 (fun q => q (lg_cmp_rf _)))
  exact k _ _ hw (s2.lo.repC (s1.rep hC)) (s2.rep (s1.hi.repR hR))
theorem lc_heard (hsc : l_Scr X N xs) (hv1 : vp_in (x + 1) N) (hv2 : vp_in (x + 2) N) (hv3 : vp_in (x + 3) N) (hv4 : vp_in (x + 4) N) (hv5 : vp_in (x + 5) N) (hw : WF s) (hC : RepC s M) (hR : RepR s M) (k : ∀ s2 M2, WF s2 → RepC s2 M2 → RepR s2 M2 → j_W 60 I_L_law X 1259 (l_L x) [] M2) : j_W 60 I_L_law X 868 (l_L x) [] M := by
  show j_W 60 I_L_law X 868 [some (.ref 106), some (.ref 0), some (.ref 79), some (.int x)] [] M
  refine jx_aload1 (pc := 868) d_L_law_868 ?_
  refine jx_aload0 (pc := 869) d_L_law_869 ?_
  refine jx_iload3 (pc := 870) d_L_law_870 ?_
  refine jx_iconst (pc := 871) (v := 1) d_L_law_871 (by decide) ?_
  refine jx_iadd (pc := 872) d_L_law_872 ?_
  refine jx_sld (pc := 873) hsc d_L_law_873 hv1 ?_
  refine jx_aload0 (pc := 874) d_L_law_874 ?_
  refine jx_iload3 (pc := 875) d_L_law_875 ?_
  refine jx_iconst (pc := 876) (v := 2) d_L_law_876 (by decide) ?_
  refine jx_iadd (pc := 877) d_L_law_877 ?_
  refine jx_sld (pc := 878) hsc d_L_law_878 hv2 ?_
  refine jx_aload0 (pc := 879) d_L_law_879 ?_
  refine jx_iload3 (pc := 880) d_L_law_880 ?_
  refine jx_iconst (pc := 881) (v := 3) d_L_law_881 (by decide) ?_
  refine jx_iadd (pc := 882) d_L_law_882 ?_
  refine jx_sld (pc := 883) hsc d_L_law_883 hv3 ?_
  refine jx_aload0 (pc := 884) d_L_law_884 ?_
  refine jx_iload3 (pc := 885) d_L_law_885 ?_
  refine jx_iconst (pc := 886) (v := 4) d_L_law_886 (by decide) ?_
  refine jx_iadd (pc := 887) d_L_law_887 ?_
  refine jx_sld (pc := 888) hsc d_L_law_888 hv4 ?_
  refine jx_callV4 (pc := 889) (d' := 59) vo_J_heard lk_L_116 d_L_law_889 ad_0 sh_0 rfl (by omega) (Nat.le_of_ble_eq_true rfl) ?_
  refine c_J_heard (d := 38) hw hC (fun M1 s1 => ?_)
  refine jx_r1 ?_
  refine jx_aload2 (pc := 892) d_L_law_892 ?_
  refine jx_aload0 (pc := 893) d_L_law_893 ?_
  refine jx_iload3 (pc := 894) d_L_law_894 ?_
  refine jx_iconst (pc := 895) (v := 1) d_L_law_895 (by decide) ?_
  refine jx_iadd (pc := 896) d_L_law_896 ?_
  refine jx_sld (pc := 897) hsc d_L_law_897 hv1 ?_
  refine jx_aload0 (pc := 898) d_L_law_898 ?_
  refine jx_iload3 (pc := 899) d_L_law_899 ?_
  refine jx_iconst (pc := 900) (v := 2) d_L_law_900 (by decide) ?_
  refine jx_iadd (pc := 901) d_L_law_901 ?_
  refine jx_sld (pc := 902) hsc d_L_law_902 hv2 ?_
  refine jx_aload0 (pc := 903) d_L_law_903 ?_
  refine jx_iload3 (pc := 904) d_L_law_904 ?_
  refine jx_iconst (pc := 905) (v := 3) d_L_law_905 (by decide) ?_
  refine jx_iadd (pc := 906) d_L_law_906 ?_
  refine jx_sld (pc := 907) hsc d_L_law_907 hv3 ?_
  refine jx_aload0 (pc := 908) d_L_law_908 ?_
  refine jx_iload3 (pc := 909) d_L_law_909 ?_
  refine jx_iconst (pc := 910) (v := 4) d_L_law_910 (by decide) ?_
  refine jx_iadd (pc := 911) d_L_law_911 ?_
  refine jx_sld (pc := 912) hsc d_L_law_912 hv4 ?_
  refine jx_callV4 (pc := 913) (d' := 59) vo_R_heard lk_L_119 d_L_law_913 ad_79 sh_79 rfl (by omega) (Nat.le_of_ble_eq_true rfl) ?_
  refine c_R_heard (d := 54) hw (s1.hi.repR hR) (fun M2 s2 => ?_)
  refine jx_r1 ?_
  refine jx_icmp_eq (pc := 916) 1259 d_L_law_916 (by decide) (fun c916 => ?_) (fun c916 => absurd c916 (fun q => q rfl))
  exact k _ _ hw (s2.lo.repC (s1.rep hC)) (s2.rep (s1.hi.repR hR))
theorem lc_weeks (hsc : l_Scr X N xs) (hv1 : vp_in (x + 1) N) (hv2 : vp_in (x + 2) N) (hv3 : vp_in (x + 3) N) (hv4 : vp_in (x + 4) N) (hv5 : vp_in (x + 5) N) (hw : WF s) (hC : RepC s M) (hR : RepR s M) (k : ∀ s2 M2, WF s2 → RepC s2 M2 → RepR s2 M2 → j_W 60 I_L_law X 1259 (l_L x) [] M2) : j_W 60 I_L_law X 921 (l_L x) [] M := by
  show j_W 60 I_L_law X 921 [some (.ref 106), some (.ref 0), some (.ref 79), some (.int x)] [] M
  refine jx_aload1 (pc := 921) d_L_law_921 ?_
  refine jx_aload0 (pc := 922) d_L_law_922 ?_
  refine jx_iload3 (pc := 923) d_L_law_923 ?_
  refine jx_iconst (pc := 924) (v := 1) d_L_law_924 (by decide) ?_
  refine jx_iadd (pc := 925) d_L_law_925 ?_
  refine jx_sld (pc := 926) hsc d_L_law_926 hv1 ?_
  refine jx_aload0 (pc := 927) d_L_law_927 ?_
  refine jx_iload3 (pc := 928) d_L_law_928 ?_
  refine jx_iconst (pc := 929) (v := 2) d_L_law_929 (by decide) ?_
  refine jx_iadd (pc := 930) d_L_law_930 ?_
  refine jx_sld (pc := 931) hsc d_L_law_931 hv2 ?_
  refine jx_aload0 (pc := 932) d_L_law_932 ?_
  refine jx_iload3 (pc := 933) d_L_law_933 ?_
  refine jx_iconst (pc := 934) (v := 3) d_L_law_934 (by decide) ?_
  refine jx_iadd (pc := 935) d_L_law_935 ?_
  refine jx_sld (pc := 936) hsc d_L_law_936 hv3 ?_
  refine jx_callV3 (pc := 937) (d' := 59) vo_J_weeks lk_L_120 d_L_law_937 ad_0 sh_0 rfl (by omega) (Nat.le_of_ble_eq_true rfl) ?_
  refine c_J_weeks (d := 56) hw hC (fun M1 s1 => ?_)
  refine jx_r1 ?_
  refine jx_aload2 (pc := 940) d_L_law_940 ?_
  refine jx_aload0 (pc := 941) d_L_law_941 ?_
  refine jx_iload3 (pc := 942) d_L_law_942 ?_
  refine jx_iconst (pc := 943) (v := 1) d_L_law_943 (by decide) ?_
  refine jx_iadd (pc := 944) d_L_law_944 ?_
  refine jx_sld (pc := 945) hsc d_L_law_945 hv1 ?_
  refine jx_aload0 (pc := 946) d_L_law_946 ?_
  refine jx_iload3 (pc := 947) d_L_law_947 ?_
  refine jx_iconst (pc := 948) (v := 2) d_L_law_948 (by decide) ?_
  refine jx_iadd (pc := 949) d_L_law_949 ?_
  refine jx_sld (pc := 950) hsc d_L_law_950 hv2 ?_
  refine jx_aload0 (pc := 951) d_L_law_951 ?_
  refine jx_iload3 (pc := 952) d_L_law_952 ?_
  refine jx_iconst (pc := 953) (v := 3) d_L_law_953 (by decide) ?_
  refine jx_iadd (pc := 954) d_L_law_954 ?_
  refine jx_sld (pc := 955) hsc d_L_law_955 hv3 ?_
  refine jx_callV3 (pc := 956) (d' := 59) vo_R_weeks lk_L_123 d_L_law_956 ad_79 sh_79 rfl (by omega) (Nat.le_of_ble_eq_true rfl) ?_
  refine c_R_weeks (d := 55) hw (s1.hi.repR hR) (fun M2 s2 => ?_)
  refine jx_r1 ?_
  refine jx_icmp_eq (pc := 959) 1259 d_L_law_959 (by decide) (fun c959 => ?_) (fun c959 => absurd c959 (fun q => q rfl))
  exact k _ _ hw (s2.lo.repC (s1.rep hC)) (s2.rep (s1.hi.repR hR))
theorem lc_sheet (hsc : l_Scr X N xs) (hv1 : vp_in (x + 1) N) (hv2 : vp_in (x + 2) N) (hv3 : vp_in (x + 3) N) (hv4 : vp_in (x + 4) N) (hv5 : vp_in (x + 5) N) (hw : WF s) (hC : RepC s M) (hR : RepR s M) (k : ∀ s2 M2, WF s2 → RepC s2 M2 → RepR s2 M2 → j_W 60 I_L_law X 1259 (l_L x) [] M2) : j_W 60 I_L_law X 964 (l_L x) [] M := by
  show j_W 60 I_L_law X 964 [some (.ref 106), some (.ref 0), some (.ref 79), some (.int x)] [] M
  refine jx_aload1 (pc := 964) d_L_law_964 ?_
  refine jx_aload0 (pc := 965) d_L_law_965 ?_
  refine jx_iload3 (pc := 966) d_L_law_966 ?_
  refine jx_iconst (pc := 967) (v := 1) d_L_law_967 (by decide) ?_
  refine jx_iadd (pc := 968) d_L_law_968 ?_
  refine jx_sld (pc := 969) hsc d_L_law_969 hv1 ?_
  refine jx_aload0 (pc := 970) d_L_law_970 ?_
  refine jx_iload3 (pc := 971) d_L_law_971 ?_
  refine jx_iconst (pc := 972) (v := 2) d_L_law_972 (by decide) ?_
  refine jx_iadd (pc := 973) d_L_law_973 ?_
  refine jx_sld (pc := 974) hsc d_L_law_974 hv2 ?_
  refine jx_aload0 (pc := 975) d_L_law_975 ?_
  refine jx_iload3 (pc := 976) d_L_law_976 ?_
  refine jx_iconst (pc := 977) (v := 3) d_L_law_977 (by decide) ?_
  refine jx_iadd (pc := 978) d_L_law_978 ?_
  refine jx_sld (pc := 979) hsc d_L_law_979 hv3 ?_
  refine jx_callV3 (pc := 980) (d' := 59) vo_J_sheet lk_L_124 d_L_law_980 ad_0 sh_0 rfl (by omega) (Nat.le_of_ble_eq_true rfl) ?_
  refine c_J_sheet (d := 58) hC (fun M1 a1 h1 => ?_)
  refine jx_r1 ?_
  refine jx_aload2 (pc := 983) d_L_law_983 ?_
  refine jx_aload0 (pc := 984) d_L_law_984 ?_
  refine jx_iload3 (pc := 985) d_L_law_985 ?_
  refine jx_iconst (pc := 986) (v := 1) d_L_law_986 (by decide) ?_
  refine jx_iadd (pc := 987) d_L_law_987 ?_
  refine jx_sld (pc := 988) hsc d_L_law_988 hv1 ?_
  refine jx_aload0 (pc := 989) d_L_law_989 ?_
  refine jx_iload3 (pc := 990) d_L_law_990 ?_
  refine jx_iconst (pc := 991) (v := 2) d_L_law_991 (by decide) ?_
  refine jx_iadd (pc := 992) d_L_law_992 ?_
  refine jx_sld (pc := 993) hsc d_L_law_993 hv2 ?_
  refine jx_aload0 (pc := 994) d_L_law_994 ?_
  refine jx_iload3 (pc := 995) d_L_law_995 ?_
  refine jx_iconst (pc := 996) (v := 3) d_L_law_996 (by decide) ?_
  refine jx_iadd (pc := 997) d_L_law_997 ?_
  refine jx_sld (pc := 998) hsc d_L_law_998 hv3 ?_
  refine jx_callV3 (pc := 999) (d' := 59) vo_R_sheet lk_L_127 d_L_law_999 ad_79 sh_79 rfl (by omega) (Nat.le_of_ble_eq_true rfl) ?_
  refine c_R_sheet (d := 57) (h1.repR hR) (fun M2 a2 h2 => ?_)
  refine jx_r1 ?_
  refine jx_icmp_eq (pc := 1002) 1259 d_L_law_1002 (by decide) (fun c1002 => ?_) (fun c1002 => absurd c1002 (fun q => q rfl))
  exact k _ _ (hw.sheet _ _ _) (h2.repC a1) a2
theorem lc_lose (hsc : l_Scr X N xs) (hv1 : vp_in (x + 1) N) (hv2 : vp_in (x + 2) N) (hv3 : vp_in (x + 3) N) (hv4 : vp_in (x + 4) N) (hv5 : vp_in (x + 5) N) (hw : WF s) (hC : RepC s M) (hR : RepR s M) (k : ∀ s2 M2, WF s2 → RepC s2 M2 → RepR s2 M2 → j_W 60 I_L_law X 1259 (l_L x) [] M2) : j_W 60 I_L_law X 1007 (l_L x) [] M := by
  show j_W 60 I_L_law X 1007 [some (.ref 106), some (.ref 0), some (.ref 79), some (.int x)] [] M
  refine jx_aload1 (pc := 1007) d_L_law_1007 ?_
  refine jx_aload0 (pc := 1008) d_L_law_1008 ?_
  refine jx_iload3 (pc := 1009) d_L_law_1009 ?_
  refine jx_iconst (pc := 1010) (v := 1) d_L_law_1010 (by decide) ?_
  refine jx_iadd (pc := 1011) d_L_law_1011 ?_
  refine jx_sld (pc := 1012) hsc d_L_law_1012 hv1 ?_
  refine jx_callV1 (pc := 1013) (d' := 59) vo_J_lose lk_L_128 d_L_law_1013 ad_0 sh_0 rfl (by omega) (Nat.le_of_ble_eq_true rfl) ?_
  refine c_J_lose (d := 58) hw hC (fun M1 a1 h1 => ?_)
  refine jx_r1 ?_
  refine jx_aload2 (pc := 1016) d_L_law_1016 ?_
  refine jx_aload0 (pc := 1017) d_L_law_1017 ?_
  refine jx_iload3 (pc := 1018) d_L_law_1018 ?_
  refine jx_iconst (pc := 1019) (v := 1) d_L_law_1019 (by decide) ?_
  refine jx_iadd (pc := 1020) d_L_law_1020 ?_
  refine jx_sld (pc := 1021) hsc d_L_law_1021 hv1 ?_
  refine jx_callV1 (pc := 1022) (d' := 59) vo_R_lose lk_L_131 d_L_law_1022 ad_79 sh_79 rfl (by omega) (Nat.le_of_ble_eq_true rfl) ?_
  refine c_R_lose (d := 57) (h1.repR hR) (fun M2 a2 h2 => ?_)
  refine jx_r1 ?_
  refine jx_icmp_eq (pc := 1025) 1259 d_L_law_1025 (by decide) (fun c1025 => ?_) (fun c1025 => absurd c1025 (fun q => q rfl))
  exact k _ _ (hw.lose _) (h2.repC a1) a2
theorem lc_put (hsc : l_Scr X N xs) (hv1 : vp_in (x + 1) N) (hv2 : vp_in (x + 2) N) (hv3 : vp_in (x + 3) N) (hv4 : vp_in (x + 4) N) (hv5 : vp_in (x + 5) N) (hw : WF s) (hC : RepC s M) (hR : RepR s M) (k : ∀ s2 M2, WF s2 → RepC s2 M2 → RepR s2 M2 → j_W 60 I_L_law X 1259 (l_L x) [] M2) : j_W 60 I_L_law X 1030 (l_L x) [] M := by
  show j_W 60 I_L_law X 1030 [some (.ref 106), some (.ref 0), some (.ref 79), some (.int x)] [] M
  refine jx_aload1 (pc := 1030) d_L_law_1030 ?_
  refine jx_aload0 (pc := 1031) d_L_law_1031 ?_
  refine jx_iload3 (pc := 1032) d_L_law_1032 ?_
  refine jx_iconst (pc := 1033) (v := 1) d_L_law_1033 (by decide) ?_
  refine jx_iadd (pc := 1034) d_L_law_1034 ?_
  refine jx_sld (pc := 1035) hsc d_L_law_1035 hv1 ?_
  refine jx_aload0 (pc := 1036) d_L_law_1036 ?_
  refine jx_iload3 (pc := 1037) d_L_law_1037 ?_
  refine jx_iconst (pc := 1038) (v := 2) d_L_law_1038 (by decide) ?_
  refine jx_iadd (pc := 1039) d_L_law_1039 ?_
  refine jx_sld (pc := 1040) hsc d_L_law_1040 hv2 ?_
  refine jx_aload0 (pc := 1041) d_L_law_1041 ?_
  refine jx_iload3 (pc := 1042) d_L_law_1042 ?_
  refine jx_iconst (pc := 1043) (v := 3) d_L_law_1043 (by decide) ?_
  refine jx_iadd (pc := 1044) d_L_law_1044 ?_
  refine jx_sld (pc := 1045) hsc d_L_law_1045 hv3 ?_
  refine jx_aload0 (pc := 1046) d_L_law_1046 ?_
  refine jx_iload3 (pc := 1047) d_L_law_1047 ?_
  refine jx_iconst (pc := 1048) (v := 4) d_L_law_1048 (by decide) ?_
  refine jx_iadd (pc := 1049) d_L_law_1049 ?_
  refine jx_sld (pc := 1050) hsc d_L_law_1050 hv4 ?_
  refine jx_callV4 (pc := 1051) (d' := 59) vo_J_put lk_L_132 d_L_law_1051 ad_0 sh_0 rfl (by omega) (Nat.le_of_ble_eq_true rfl) ?_
  refine c_J_put (d := 57) hw hC (fun M1 a1 h1 => ?_)
  refine jx_r1 ?_
  refine jx_aload2 (pc := 1054) d_L_law_1054 ?_
  refine jx_aload0 (pc := 1055) d_L_law_1055 ?_
  refine jx_iload3 (pc := 1056) d_L_law_1056 ?_
  refine jx_iconst (pc := 1057) (v := 1) d_L_law_1057 (by decide) ?_
  refine jx_iadd (pc := 1058) d_L_law_1058 ?_
  refine jx_sld (pc := 1059) hsc d_L_law_1059 hv1 ?_
  refine jx_aload0 (pc := 1060) d_L_law_1060 ?_
  refine jx_iload3 (pc := 1061) d_L_law_1061 ?_
  refine jx_iconst (pc := 1062) (v := 2) d_L_law_1062 (by decide) ?_
  refine jx_iadd (pc := 1063) d_L_law_1063 ?_
  refine jx_sld (pc := 1064) hsc d_L_law_1064 hv2 ?_
  refine jx_aload0 (pc := 1065) d_L_law_1065 ?_
  refine jx_iload3 (pc := 1066) d_L_law_1066 ?_
  refine jx_iconst (pc := 1067) (v := 3) d_L_law_1067 (by decide) ?_
  refine jx_iadd (pc := 1068) d_L_law_1068 ?_
  refine jx_sld (pc := 1069) hsc d_L_law_1069 hv3 ?_
  refine jx_aload0 (pc := 1070) d_L_law_1070 ?_
  refine jx_iload3 (pc := 1071) d_L_law_1071 ?_
  refine jx_iconst (pc := 1072) (v := 4) d_L_law_1072 (by decide) ?_
  refine jx_iadd (pc := 1073) d_L_law_1073 ?_
  refine jx_sld (pc := 1074) hsc d_L_law_1074 hv4 ?_
  refine jx_callV4 (pc := 1075) (d' := 59) vo_R_put lk_L_135 d_L_law_1075 ad_79 sh_79 rfl (by omega) (Nat.le_of_ble_eq_true rfl) ?_
  refine c_R_put (d := 57) hw (h1.repR hR) (fun M2 a2 h2 => ?_)
  refine jx_r1 ?_
  refine jx_icmp_eq (pc := 1078) 1259 d_L_law_1078 (by decide) (fun c1078 => ?_) (fun c1078 => absurd c1078 (fun q => q rfl))
  exact k _ _ (hw.put _ _ _ _) (h2.repC a1) a2
theorem lc_get (hsc : l_Scr X N xs) (hv1 : vp_in (x + 1) N) (hv2 : vp_in (x + 2) N) (hv3 : vp_in (x + 3) N) (hv4 : vp_in (x + 4) N) (hv5 : vp_in (x + 5) N) (hw : WF s) (hC : RepC s M) (hR : RepR s M) (k : ∀ s2 M2, WF s2 → RepC s2 M2 → RepR s2 M2 → j_W 60 I_L_law X 1259 (l_L x) [] M2) : j_W 60 I_L_law X 1083 (l_L x) [] M := by
  show j_W 60 I_L_law X 1083 [some (.ref 106), some (.ref 0), some (.ref 79), some (.int x)] [] M
  refine jx_aload1 (pc := 1083) d_L_law_1083 ?_
  refine jx_aload0 (pc := 1084) d_L_law_1084 ?_
  refine jx_iload3 (pc := 1085) d_L_law_1085 ?_
  refine jx_iconst (pc := 1086) (v := 1) d_L_law_1086 (by decide) ?_
  refine jx_iadd (pc := 1087) d_L_law_1087 ?_
  refine jx_sld (pc := 1088) hsc d_L_law_1088 hv1 ?_
  refine jx_aload0 (pc := 1089) d_L_law_1089 ?_
  refine jx_iload3 (pc := 1090) d_L_law_1090 ?_
  refine jx_iconst (pc := 1091) (v := 2) d_L_law_1091 (by decide) ?_
  refine jx_iadd (pc := 1092) d_L_law_1092 ?_
  refine jx_sld (pc := 1093) hsc d_L_law_1093 hv2 ?_
  refine jx_aload0 (pc := 1094) d_L_law_1094 ?_
  refine jx_iload3 (pc := 1095) d_L_law_1095 ?_
  refine jx_iconst (pc := 1096) (v := 3) d_L_law_1096 (by decide) ?_
  refine jx_iadd (pc := 1097) d_L_law_1097 ?_
  refine jx_sld (pc := 1098) hsc d_L_law_1098 hv3 ?_
  refine jx_callV3 (pc := 1099) (d' := 59) vo_J_get lk_L_136 d_L_law_1099 ad_0 sh_0 rfl (by omega) (Nat.le_of_ble_eq_true rfl) ?_
  refine c_J_get (d := 57) hw hC (fun M1 a1 h1 => ?_)
  refine jx_r1 ?_
  refine jx_aload2 (pc := 1102) d_L_law_1102 ?_
  refine jx_aload0 (pc := 1103) d_L_law_1103 ?_
  refine jx_iload3 (pc := 1104) d_L_law_1104 ?_
  refine jx_iconst (pc := 1105) (v := 1) d_L_law_1105 (by decide) ?_
  refine jx_iadd (pc := 1106) d_L_law_1106 ?_
  refine jx_sld (pc := 1107) hsc d_L_law_1107 hv1 ?_
  refine jx_aload0 (pc := 1108) d_L_law_1108 ?_
  refine jx_iload3 (pc := 1109) d_L_law_1109 ?_
  refine jx_iconst (pc := 1110) (v := 2) d_L_law_1110 (by decide) ?_
  refine jx_iadd (pc := 1111) d_L_law_1111 ?_
  refine jx_sld (pc := 1112) hsc d_L_law_1112 hv2 ?_
  refine jx_aload0 (pc := 1113) d_L_law_1113 ?_
  refine jx_iload3 (pc := 1114) d_L_law_1114 ?_
  refine jx_iconst (pc := 1115) (v := 3) d_L_law_1115 (by decide) ?_
  refine jx_iadd (pc := 1116) d_L_law_1116 ?_
  refine jx_sld (pc := 1117) hsc d_L_law_1117 hv3 ?_
  refine jx_callV3 (pc := 1118) (d' := 59) vo_R_get lk_L_139 d_L_law_1118 ad_79 sh_79 rfl (by omega) (Nat.le_of_ble_eq_true rfl) ?_
  refine c_R_get (d := 57) hw (h1.repR hR) (fun M2 a2 h2 => ?_)
  refine jx_r1 ?_
  refine jx_icmp_eq (pc := 1121) 1259 d_L_law_1121 (by decide) (fun c1121 => ?_) (fun c1121 => absurd c1121 (fun q => q rfl))
  exact k _ _ (hw.get _ _ _) (h2.repC a1) a2
theorem lc_copy (hsc : l_Scr X N xs) (hv1 : vp_in (x + 1) N) (hv2 : vp_in (x + 2) N) (hv3 : vp_in (x + 3) N) (hv4 : vp_in (x + 4) N) (hv5 : vp_in (x + 5) N) (hw : WF s) (hC : RepC s M) (hR : RepR s M) (k : ∀ s2 M2, WF s2 → RepC s2 M2 → RepR s2 M2 → j_W 60 I_L_law X 1259 (l_L x) [] M2) : j_W 60 I_L_law X 1126 (l_L x) [] M := by
  show j_W 60 I_L_law X 1126 [some (.ref 106), some (.ref 0), some (.ref 79), some (.int x)] [] M
  refine jx_aload1 (pc := 1126) d_L_law_1126 ?_
  refine jx_aload0 (pc := 1127) d_L_law_1127 ?_
  refine jx_iload3 (pc := 1128) d_L_law_1128 ?_
  refine jx_iconst (pc := 1129) (v := 1) d_L_law_1129 (by decide) ?_
  refine jx_iadd (pc := 1130) d_L_law_1130 ?_
  refine jx_sld (pc := 1131) hsc d_L_law_1131 hv1 ?_
  refine jx_aload0 (pc := 1132) d_L_law_1132 ?_
  refine jx_iload3 (pc := 1133) d_L_law_1133 ?_
  refine jx_iconst (pc := 1134) (v := 2) d_L_law_1134 (by decide) ?_
  refine jx_iadd (pc := 1135) d_L_law_1135 ?_
  refine jx_sld (pc := 1136) hsc d_L_law_1136 hv2 ?_
  refine jx_aload0 (pc := 1137) d_L_law_1137 ?_
  refine jx_iload3 (pc := 1138) d_L_law_1138 ?_
  refine jx_iconst (pc := 1139) (v := 3) d_L_law_1139 (by decide) ?_
  refine jx_iadd (pc := 1140) d_L_law_1140 ?_
  refine jx_sld (pc := 1141) hsc d_L_law_1141 hv3 ?_
  refine jx_aload0 (pc := 1142) d_L_law_1142 ?_
  refine jx_iload3 (pc := 1143) d_L_law_1143 ?_
  refine jx_iconst (pc := 1144) (v := 4) d_L_law_1144 (by decide) ?_
  refine jx_iadd (pc := 1145) d_L_law_1145 ?_
  refine jx_sld (pc := 1146) hsc d_L_law_1146 hv4 ?_
  refine jx_aload0 (pc := 1147) d_L_law_1147 ?_
  refine jx_iload3 (pc := 1148) d_L_law_1148 ?_
  refine jx_iconst (pc := 1149) (v := 5) d_L_law_1149 (by decide) ?_
  refine jx_iadd (pc := 1150) d_L_law_1150 ?_
  refine jx_sld (pc := 1151) hsc d_L_law_1151 hv5 ?_
  refine jx_callV5 (pc := 1152) (d' := 59) vo_J_copy lk_L_140 d_L_law_1152 ad_0 sh_0 rfl (by omega) (Nat.le_of_ble_eq_true rfl) ?_
  refine c_J_copy (d := 57) hw hC (fun M1 a1 h1 => ?_)
  refine jx_r1 ?_
  refine jx_aload2 (pc := 1155) d_L_law_1155 ?_
  refine jx_aload0 (pc := 1156) d_L_law_1156 ?_
  refine jx_iload3 (pc := 1157) d_L_law_1157 ?_
  refine jx_iconst (pc := 1158) (v := 1) d_L_law_1158 (by decide) ?_
  refine jx_iadd (pc := 1159) d_L_law_1159 ?_
  refine jx_sld (pc := 1160) hsc d_L_law_1160 hv1 ?_
  refine jx_aload0 (pc := 1161) d_L_law_1161 ?_
  refine jx_iload3 (pc := 1162) d_L_law_1162 ?_
  refine jx_iconst (pc := 1163) (v := 2) d_L_law_1163 (by decide) ?_
  refine jx_iadd (pc := 1164) d_L_law_1164 ?_
  refine jx_sld (pc := 1165) hsc d_L_law_1165 hv2 ?_
  refine jx_aload0 (pc := 1166) d_L_law_1166 ?_
  refine jx_iload3 (pc := 1167) d_L_law_1167 ?_
  refine jx_iconst (pc := 1168) (v := 3) d_L_law_1168 (by decide) ?_
  refine jx_iadd (pc := 1169) d_L_law_1169 ?_
  refine jx_sld (pc := 1170) hsc d_L_law_1170 hv3 ?_
  refine jx_aload0 (pc := 1171) d_L_law_1171 ?_
  refine jx_iload3 (pc := 1172) d_L_law_1172 ?_
  refine jx_iconst (pc := 1173) (v := 4) d_L_law_1173 (by decide) ?_
  refine jx_iadd (pc := 1174) d_L_law_1174 ?_
  refine jx_sld (pc := 1175) hsc d_L_law_1175 hv4 ?_
  refine jx_aload0 (pc := 1176) d_L_law_1176 ?_
  refine jx_iload3 (pc := 1177) d_L_law_1177 ?_
  refine jx_iconst (pc := 1178) (v := 5) d_L_law_1178 (by decide) ?_
  refine jx_iadd (pc := 1179) d_L_law_1179 ?_
  refine jx_sld (pc := 1180) hsc d_L_law_1180 hv5 ?_
  refine jx_callV5 (pc := 1181) (d' := 59) vo_R_copy lk_L_144 d_L_law_1181 ad_79 sh_79 rfl (by omega) (Nat.le_of_ble_eq_true rfl) ?_
  refine c_R_copy (d := 57) hw (h1.repR hR) (fun M2 a2 h2 => ?_)
  refine jx_r1 ?_
  refine jx_icmp_eq (pc := 1184) 1259 d_L_law_1184 (by decide) (fun c1184 => ?_) (fun c1184 => absurd c1184 (fun q => q rfl))
  exact k _ _ (hw.copy _ _ _ _ _) (h2.repC a1) a2
theorem lc_write (hsc : l_Scr X N xs) (hv1 : vp_in (x + 1) N) (hv2 : vp_in (x + 2) N) (hv3 : vp_in (x + 3) N) (hv4 : vp_in (x + 4) N) (hv5 : vp_in (x + 5) N) (hw : WF s) (hC : RepC s M) (hR : RepR s M) (k : ∀ s2 M2, WF s2 → RepC s2 M2 → RepR s2 M2 → j_W 60 I_L_law X 1259 (l_L x) [] M2) : j_W 60 I_L_law X 1189 (l_L x) [] M := by
  show j_W 60 I_L_law X 1189 [some (.ref 106), some (.ref 0), some (.ref 79), some (.int x)] [] M
  refine jx_aload1 (pc := 1189) d_L_law_1189 ?_
  refine jx_aload0 (pc := 1190) d_L_law_1190 ?_
  refine jx_iload3 (pc := 1191) d_L_law_1191 ?_
  refine jx_iconst (pc := 1192) (v := 1) d_L_law_1192 (by decide) ?_
  refine jx_iadd (pc := 1193) d_L_law_1193 ?_
  refine jx_sld (pc := 1194) hsc d_L_law_1194 hv1 ?_
  refine jx_aload0 (pc := 1195) d_L_law_1195 ?_
  refine jx_iload3 (pc := 1196) d_L_law_1196 ?_
  refine jx_iconst (pc := 1197) (v := 2) d_L_law_1197 (by decide) ?_
  refine jx_iadd (pc := 1198) d_L_law_1198 ?_
  refine jx_sld (pc := 1199) hsc d_L_law_1199 hv2 ?_
  refine jx_callV2 (pc := 1200) (d' := 59) vo_J_write lk_L_145 d_L_law_1200 ad_0 sh_0 rfl (by omega) (Nat.le_of_ble_eq_true rfl) ?_
  refine c_J_write (d := 55) hw hC (fun M1 a1 h1 => ?_)
  refine jx_r1 ?_
  refine jx_aload2 (pc := 1203) d_L_law_1203 ?_
  refine jx_aload0 (pc := 1204) d_L_law_1204 ?_
  refine jx_iload3 (pc := 1205) d_L_law_1205 ?_
  refine jx_iconst (pc := 1206) (v := 1) d_L_law_1206 (by decide) ?_
  refine jx_iadd (pc := 1207) d_L_law_1207 ?_
  refine jx_sld (pc := 1208) hsc d_L_law_1208 hv1 ?_
  refine jx_aload0 (pc := 1209) d_L_law_1209 ?_
  refine jx_iload3 (pc := 1210) d_L_law_1210 ?_
  refine jx_iconst (pc := 1211) (v := 2) d_L_law_1211 (by decide) ?_
  refine jx_iadd (pc := 1212) d_L_law_1212 ?_
  refine jx_sld (pc := 1213) hsc d_L_law_1213 hv2 ?_
  refine jx_callV2 (pc := 1214) (d' := 59) vo_R_write lk_L_148 d_L_law_1214 ad_79 sh_79 rfl (by omega) (Nat.le_of_ble_eq_true rfl) ?_
  refine c_R_write (d := 55) hw (h1.repR hR) (fun M2 a2 h2 => ?_)
  refine jx_r1 ?_
  refine jx_icmp_eq (pc := 1217) 1259 d_L_law_1217 (by decide) (fun c1217 => ?_) (fun c1217 => absurd c1217 (fun q => q rfl))
  exact k _ _ (hw.write _ _) (h2.repC a1) a2
theorem lc_count (hsc : l_Scr X N xs) (hv1 : vp_in (x + 1) N) (hv2 : vp_in (x + 2) N) (hv3 : vp_in (x + 3) N) (hv4 : vp_in (x + 4) N) (hv5 : vp_in (x + 5) N) (hw : WF s) (hC : RepC s M) (hR : RepR s M) (k : ∀ s2 M2, WF s2 → RepC s2 M2 → RepR s2 M2 → j_W 60 I_L_law X 1259 (l_L x) [] M2) : j_W 60 I_L_law X 1222 (l_L x) [] M := by
  show j_W 60 I_L_law X 1222 [some (.ref 106), some (.ref 0), some (.ref 79), some (.int x)] [] M
  refine jx_aload1 (pc := 1222) d_L_law_1222 ?_
  refine jx_aload0 (pc := 1223) d_L_law_1223 ?_
  refine jx_iload3 (pc := 1224) d_L_law_1224 ?_
  refine jx_iconst (pc := 1225) (v := 1) d_L_law_1225 (by decide) ?_
  refine jx_iadd (pc := 1226) d_L_law_1226 ?_
  refine jx_sld (pc := 1227) hsc d_L_law_1227 hv1 ?_
  refine jx_callV1 (pc := 1228) (d' := 59) vo_J_count lk_L_149 d_L_law_1228 ad_0 sh_0 rfl (by omega) (Nat.le_of_ble_eq_true rfl) ?_
  refine c_J_count (d := 56) hw hC ?_
  refine jx_r1 ?_
  refine jx_aload2 (pc := 1231) d_L_law_1231 ?_
  refine jx_aload0 (pc := 1232) d_L_law_1232 ?_
  refine jx_iload3 (pc := 1233) d_L_law_1233 ?_
  refine jx_iconst (pc := 1234) (v := 1) d_L_law_1234 (by decide) ?_
  refine jx_iadd (pc := 1235) d_L_law_1235 ?_
  refine jx_sld (pc := 1236) hsc d_L_law_1236 hv1 ?_
  refine jx_callV1 (pc := 1237) (d' := 59) vo_R_count lk_L_152 d_L_law_1237 ad_79 sh_79 rfl (by omega) (Nat.le_of_ble_eq_true rfl) ?_
  refine c_R_count (d := 55) hw ((show Hi M M from fun _ _ => rfl).repR hR) (fun M2 s2 => ?_)
  refine jx_r1 ?_
  refine jx_icmp_eq (pc := 1240) 1259 d_L_law_1240 (by decide) (fun c1240 => ?_) (fun c1240 => absurd c1240 (fun q => q rfl))
  exact k _ _ hw (s2.lo.repC hC) (s2.rep ((show Hi M M from fun _ _ => rfl).repR hR))
theorem lc_digest (hsc : l_Scr X N xs) (hv1 : vp_in (x + 1) N) (hv2 : vp_in (x + 2) N) (hv3 : vp_in (x + 3) N) (hv4 : vp_in (x + 4) N) (hv5 : vp_in (x + 5) N) (hw : WF s) (hC : RepC s M) (hR : RepR s M) (k : ∀ s2 M2, WF s2 → RepC s2 M2 → RepR s2 M2 → j_W 60 I_L_law X 1259 (l_L x) [] M2) : j_W 60 I_L_law X 1245 (l_L x) [] M := by
  show j_W 60 I_L_law X 1245 [some (.ref 106), some (.ref 0), some (.ref 79), some (.int x)] [] M
  refine jx_aload1 (pc := 1245) d_L_law_1245 ?_
  refine jx_callV0 (pc := 1246) (d' := 59) vo_J_digest lk_L_153 d_L_law_1246 ad_0 sh_0 rfl (by omega) (Nat.le_of_ble_eq_true rfl) ?_
  refine c_J_digest (d := 37) hw hC (fun M1 s1 => ?_)
  refine jx_r1 ?_
  refine jx_aload2 (pc := 1249) d_L_law_1249 ?_
  refine jx_callV0 (pc := 1250) (d' := 59) vo_R_digest lk_L_157 d_L_law_1250 ad_79 sh_79 rfl (by omega) (Nat.le_of_ble_eq_true rfl) ?_
  refine c_R_digest (d := 52) hw (s1.hi.repR hR) (fun M2 s2 => ?_)
  refine jx_r1 ?_
  refine jx_lcmp (pc := 1253) d_L_law_1253 ?_
  refine jx_if_eq (pc := 1254) 1259 d_L_law_1254 (by decide) (fun c1254 => ?_) (fun c1254 => absurd c1254 (fun q => q (lg_cmp_rf _)))
  exact k _ _ hw (s2.lo.repC (s1.rep hC)) (s2.rep (s1.hi.repR hR))
end LCases
