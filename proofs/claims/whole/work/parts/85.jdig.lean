/-! THE DIGEST of the component -/
def dgC (s : Sg) : Nat → Int64
  | 0 => 17
  | n + 1 => mixL (dgC s n) (r_count s (nI n)).toInt64
def dgG (s : Sg) (i : Nat) (h : Int64) : Nat → Int64
  | 0 => h
  | t + 1 => mixL (dgG s i h t) (r_good s (nI i) (nI t)).toInt64
def dgHl (s : Sg) (i : Nat) : List Int64 := [(r_liking s 0 9 (nI i)).toInt64, (r_liking s 1 29 (nI i)).toInt64, r_share s 5 (nI i) 0, r_share s 5 (nI i) 1, (r_suit s (nI i) 4 (-1)).toInt64, (r_suit s (nI i) 4 0).toInt64, r_chance s 4 (nI i) 5 0, r_chance s 4 (nI i) 5 1, (r_weeks s 7 9 (nI i)).toInt64]
def dgH (s : Sg) (i : Nat) (h : Int64) : Int64 := (dgHl s i).foldl mixL (dgG s i h 3)
def dgHs (s : Sg) (h : Int64) : Nat → Int64
  | 0 => h
  | n + 1 => dgH s n (dgHs s h n)
def dgD (s : Sg) (d : Int32) (h : Int64) : Int64 := mixL (mixL h (r_found s 0 d).toInt64) (r_found s 1 d).toInt64
def dgDs (s : Sg) (h : Int64) : Nat → Int64
  | 0 => h
  | n + 1 => dgD s (j_dd n) (dgDs s h n)
def dgT (s : Sg) : List Int64 := [(r_quarrel s 0).toInt64, (r_quarrel s 1).toInt64, (nI (disB s 30)).toInt64, (nI (chgB s 30)).toInt64, (r_replies s 0 1 3 0).toInt64, (r_replies s 0 1 3 1).toInt64, (r_tastes s 0).toInt64, (r_tastes s 1).toInt64, (r_tells s 3 0).toInt64, (r_trainer s).toInt64, (r_heard s 4 0 0 4).toInt64, (r_weeks s 7 9 (-1)).toInt64]
def r_digest (s : Sg) : Int64 := (dgT s).foldl mixL (dgDs s (dgHs s (mixL (dgC s 8) (fl99 (fltB (g_nb s) (g_tx s))).toInt64) (g_hn s)) 4)
theorem c_J_digest {d : Nat} {s : Sg} {M : j_M} {Q : Option Value → j_M → Prop} (hw : WF s) (hR : RepC s M) (k : ∀ M', Scr M M' → Q (some (.long (r_digest s))) M') : j_Ct (d + 22) I_J_digest [.ref 0] M Q := by
  refine j_met (by decide +kernel) co_J_digest (Nat.le_of_ble_eq_true rfl) (fun X hX => ?_)
  show j_W (d + 22) I_J_digest X 0 [some (.ref 0), none, none, none, none, none, none] [] M
  have hn6 : g_hn s ≤ 6 := hnB_le hw.1
  -- what is told of all
  have tail : ∀ (h : Int64) (M1 : j_M) (e3 e4 e5 e6 : Option Value), Scr M M1 → (∀ M', Scr M M' → Q (some (.long ((dgT s).foldl mixL h))) M') → j_W (d + 22) I_J_digest X 251 [some (.ref 0), some (.long h), none, e3, e4, e5, e6] [] M1 := by
    intro h M1 e3 e4 e5 e6 hS kk
    refine jx_lload1 (pc := 251) d_J_digest_251 ?_
    refine jx_aload0 (pc := 252) d_J_digest_252 ?_
    refine jx_iconst (pc := 253) (v := 0) d_J_digest_253 (by decide) ?_
    refine jx_callV1 (pc := 254) (d' := d + 4) vo_J_quarrel lk_J_340 d_J_digest_254 ad_0 sh_0 rfl (by omega) (Nat.le_of_ble_eq_true rfl) ?_
    refine c_J_quarrel hw (hS.rep hR) (fun M254 hx254 => ?_)
    have hS254 : Scr M M254 := hS.tr hx254
    refine jx_r1 ?_
    refine jx_i2l (pc := 257) d_J_digest_257 ?_
    refine jx_callS2 (pc := 258) (d' := 0) so_J_mix lk_J_309 d_J_digest_258 (by omega) (Nat.le_of_ble_eq_true rfl) ?_
    refine c_J_mix ?_
    refine jx_r1 ?_
    refine jx_aload0 (pc := 261) d_J_digest_261 ?_
    refine jx_iconst (pc := 262) (v := 1) d_J_digest_262 (by decide) ?_
    refine jx_callV1 (pc := 263) (d' := d + 4) vo_J_quarrel lk_J_340 d_J_digest_263 ad_0 sh_0 rfl (by omega) (Nat.le_of_ble_eq_true rfl) ?_
    refine c_J_quarrel hw (hS254.rep hR) (fun M263 hx263 => ?_)
    have hS263 : Scr M M263 := hS254.tr hx263
    refine jx_r1 ?_
    refine jx_i2l (pc := 266) d_J_digest_266 ?_
    refine jx_callS2 (pc := 267) (d' := 0) so_J_mix lk_J_309 d_J_digest_267 (by omega) (Nat.le_of_ble_eq_true rfl) ?_
    refine c_J_mix ?_
    refine jx_r1 ?_
    refine jx_lstore1 (pc := 270) d_J_digest_270 rfl (Nat.le_of_ble_eq_true rfl) ?_
    refine jx_lload1 (pc := 271) d_J_digest_271 ?_
    refine jx_aload0 (pc := 272) d_J_digest_272 ?_
    refine jx_callV0 (pc := 273) (d' := d + 4) vo_J_dissent lk_J_343 d_J_digest_273 ad_0 sh_0 rfl (by omega) (Nat.le_of_ble_eq_true rfl) ?_
    refine c_J_dissent hw (hS263.rep hR) (fun M273 hx273 => ?_)
    have hS273 : Scr M M273 := hS263.tr hx273
    refine jx_r1 ?_
    refine jx_i2l (pc := 276) d_J_digest_276 ?_
    refine jx_callS2 (pc := 277) (d' := 0) so_J_mix lk_J_309 d_J_digest_277 (by omega) (Nat.le_of_ble_eq_true rfl) ?_
    refine c_J_mix ?_
    refine jx_r1 ?_
    refine jx_aload0 (pc := 280) d_J_digest_280 ?_
    refine jx_callV0 (pc := 281) (d' := d + 4) vo_J_changes lk_J_346 d_J_digest_281 ad_0 sh_0 rfl (by omega) (Nat.le_of_ble_eq_true rfl) ?_
    refine c_J_changes hw (hS273.rep hR) (fun M281 hx281 => ?_)
    have hS281 : Scr M M281 := hS273.tr hx281
    refine jx_r1 ?_
    refine jx_i2l (pc := 284) d_J_digest_284 ?_
    refine jx_callS2 (pc := 285) (d' := 0) so_J_mix lk_J_309 d_J_digest_285 (by omega) (Nat.le_of_ble_eq_true rfl) ?_
    refine c_J_mix ?_
    refine jx_r1 ?_
    refine jx_lstore1 (pc := 288) d_J_digest_288 rfl (Nat.le_of_ble_eq_true rfl) ?_
    refine jx_lload1 (pc := 289) d_J_digest_289 ?_
    refine jx_aload0 (pc := 290) d_J_digest_290 ?_
    refine jx_iconst (pc := 291) (v := 0) d_J_digest_291 (by decide) ?_
    refine jx_iconst (pc := 292) (v := 1) d_J_digest_292 (by decide) ?_
    refine jx_iconst (pc := 293) (v := 3) d_J_digest_293 (by decide) ?_
    refine jx_iconst (pc := 294) (v := 0) d_J_digest_294 (by decide) ?_
    refine jx_callV4 (pc := 295) (d' := d + 11) vo_J_replies lk_J_349 d_J_digest_295 ad_0 sh_0 rfl (by omega) (Nat.le_of_ble_eq_true rfl) ?_
    refine c_J_replies hw (hS281.rep hR) (fun M295 hx295 => ?_)
    have hS295 : Scr M M295 := hS281.tr hx295
    refine jx_r1 ?_
    refine jx_i2l (pc := 298) d_J_digest_298 ?_
    refine jx_callS2 (pc := 299) (d' := 0) so_J_mix lk_J_309 d_J_digest_299 (by omega) (Nat.le_of_ble_eq_true rfl) ?_
    refine c_J_mix ?_
    refine jx_r1 ?_
    refine jx_aload0 (pc := 302) d_J_digest_302 ?_
    refine jx_iconst (pc := 303) (v := 0) d_J_digest_303 (by decide) ?_
    refine jx_iconst (pc := 304) (v := 1) d_J_digest_304 (by decide) ?_
    refine jx_iconst (pc := 305) (v := 3) d_J_digest_305 (by decide) ?_
    refine jx_iconst (pc := 306) (v := 1) d_J_digest_306 (by decide) ?_
    refine jx_callV4 (pc := 307) (d' := d + 11) vo_J_replies lk_J_349 d_J_digest_307 ad_0 sh_0 rfl (by omega) (Nat.le_of_ble_eq_true rfl) ?_
    refine c_J_replies hw (hS295.rep hR) (fun M307 hx307 => ?_)
    have hS307 : Scr M M307 := hS295.tr hx307
    refine jx_r1 ?_
    refine jx_i2l (pc := 310) d_J_digest_310 ?_
    refine jx_callS2 (pc := 311) (d' := 0) so_J_mix lk_J_309 d_J_digest_311 (by omega) (Nat.le_of_ble_eq_true rfl) ?_
    refine c_J_mix ?_
    refine jx_r1 ?_
    refine jx_lstore1 (pc := 314) d_J_digest_314 rfl (Nat.le_of_ble_eq_true rfl) ?_
    refine jx_lload1 (pc := 315) d_J_digest_315 ?_
    refine jx_aload0 (pc := 316) d_J_digest_316 ?_
    refine jx_iconst (pc := 317) (v := 0) d_J_digest_317 (by decide) ?_
    refine jx_callV1 (pc := 318) (d' := d + 5) vo_J_tastes lk_J_353 d_J_digest_318 ad_0 sh_0 rfl (by omega) (Nat.le_of_ble_eq_true rfl) ?_
    refine c_J_tastes hw (hS307.rep hR) (fun M318 hx318 => ?_)
    have hS318 : Scr M M318 := hS307.tr hx318
    refine jx_r1 ?_
    refine jx_i2l (pc := 321) d_J_digest_321 ?_
    refine jx_callS2 (pc := 322) (d' := 0) so_J_mix lk_J_309 d_J_digest_322 (by omega) (Nat.le_of_ble_eq_true rfl) ?_
    refine c_J_mix ?_
    refine jx_r1 ?_
    refine jx_aload0 (pc := 325) d_J_digest_325 ?_
    refine jx_iconst (pc := 326) (v := 1) d_J_digest_326 (by decide) ?_
    refine jx_callV1 (pc := 327) (d' := d + 5) vo_J_tastes lk_J_353 d_J_digest_327 ad_0 sh_0 rfl (by omega) (Nat.le_of_ble_eq_true rfl) ?_
    refine c_J_tastes hw (hS318.rep hR) (fun M327 hx327 => ?_)
    have hS327 : Scr M M327 := hS318.tr hx327
    refine jx_r1 ?_
    refine jx_i2l (pc := 330) d_J_digest_330 ?_
    refine jx_callS2 (pc := 331) (d' := 0) so_J_mix lk_J_309 d_J_digest_331 (by omega) (Nat.le_of_ble_eq_true rfl) ?_
    refine c_J_mix ?_
    refine jx_r1 ?_
    refine jx_lstore1 (pc := 334) d_J_digest_334 rfl (Nat.le_of_ble_eq_true rfl) ?_
    refine jx_lload1 (pc := 335) d_J_digest_335 ?_
    refine jx_aload0 (pc := 336) d_J_digest_336 ?_
    refine jx_iconst (pc := 337) (v := 3) d_J_digest_337 (by decide) ?_
    refine jx_iconst (pc := 338) (v := 0) d_J_digest_338 (by decide) ?_
    refine jx_callV2 (pc := 339) (d' := d + 5) vo_J_tells lk_J_355 d_J_digest_339 ad_0 sh_0 rfl (by omega) (Nat.le_of_ble_eq_true rfl) ?_
    refine c_J_tells hw (hS327.rep hR) (fun M339 hx339 => ?_)
    have hS339 : Scr M M339 := hS327.tr hx339
    refine jx_r1 ?_
    refine jx_i2l (pc := 342) d_J_digest_342 ?_
    refine jx_callS2 (pc := 343) (d' := 0) so_J_mix lk_J_309 d_J_digest_343 (by omega) (Nat.le_of_ble_eq_true rfl) ?_
    refine c_J_mix ?_
    refine jx_r1 ?_
    refine jx_aload0 (pc := 346) d_J_digest_346 ?_
    refine jx_callV0 (pc := 347) (d' := d + 4) vo_J_trainer lk_J_358 d_J_digest_347 ad_0 sh_0 rfl (by omega) (Nat.le_of_ble_eq_true rfl) ?_
    refine c_J_trainer hw (hS339.rep hR) (fun M347 hx347 => ?_)
    have hS347 : Scr M M347 := hS339.tr hx347
    refine jx_r1 ?_
    refine jx_i2l (pc := 350) d_J_digest_350 ?_
    refine jx_callS2 (pc := 351) (d' := 0) so_J_mix lk_J_309 d_J_digest_351 (by omega) (Nat.le_of_ble_eq_true rfl) ?_
    refine c_J_mix ?_
    refine jx_r1 ?_
    refine jx_lstore1 (pc := 354) d_J_digest_354 rfl (Nat.le_of_ble_eq_true rfl) ?_
    refine jx_lload1 (pc := 355) d_J_digest_355 ?_
    refine jx_aload0 (pc := 356) d_J_digest_356 ?_
    refine jx_iconst (pc := 357) (v := 4) d_J_digest_357 (by decide) ?_
    refine jx_iconst (pc := 358) (v := 0) d_J_digest_358 (by decide) ?_
    refine jx_iconst (pc := 359) (v := 0) d_J_digest_359 (by decide) ?_
    refine jx_iconst (pc := 360) (v := 4) d_J_digest_360 (by decide) ?_
    refine jx_callV4 (pc := 361) (d' := d + 21) vo_J_heard lk_J_361 d_J_digest_361 ad_0 sh_0 rfl (by omega) (Nat.le_of_ble_eq_true rfl) ?_
    refine c_J_heard hw (hS347.rep hR) (fun M361 hx361 => ?_)
    have hS361 : Scr M M361 := hS347.tr hx361
    refine jx_r1 ?_
    refine jx_i2l (pc := 364) d_J_digest_364 ?_
    refine jx_callS2 (pc := 365) (d' := 0) so_J_mix lk_J_309 d_J_digest_365 (by omega) (Nat.le_of_ble_eq_true rfl) ?_
    refine c_J_mix ?_
    refine jx_r1 ?_
    refine jx_aload0 (pc := 368) d_J_digest_368 ?_
    refine jx_bipush (pc := 369) (v := 7) d_J_digest_369 (by decide) ?_
    refine jx_bipush (pc := 371) (v := 9) d_J_digest_371 (by decide) ?_
    refine jx_iconst (pc := 373) (v := (-1)) d_J_digest_373 (by decide) ?_
    refine jx_callV3 (pc := 374) (d' := d + 3) vo_J_weeks lk_J_332 d_J_digest_374 ad_0 sh_0 rfl (by omega) (Nat.le_of_ble_eq_true rfl) ?_
    refine c_J_weeks hw (hS361.rep hR) (fun M374 hx374 => ?_)
    have hS374 : Scr M M374 := hS361.tr hx374
    refine jx_r1 ?_
    refine jx_i2l (pc := 377) d_J_digest_377 ?_
    refine jx_callS2 (pc := 378) (d' := 0) so_J_mix lk_J_309 d_J_digest_378 (by omega) (Nat.le_of_ble_eq_true rfl) ?_
    refine c_J_mix ?_
    refine jx_r1 ?_
    refine jx_lstore1 (pc := 381) d_J_digest_381 rfl (Nat.le_of_ble_eq_true rfl) ?_
    refine jx_lload1 (pc := 382) d_J_digest_382 ?_
    refine jx_lret (pc := 383) hX rfl d_J_digest_383 ?_
    rotate_left
    exact kk M374 hS374
  -- days
  have days : ∀ (r i : Nat) (h0 : Int64) (M1 : j_M) (e6 : Option Value), i + r = 4 → Scr M M1 → (∀ M', Scr M M' → Q (some (.long ((dgT s).foldl mixL (dgDs s h0 4)))) M') → j_W (d + 22) I_J_digest X 208 [some (.ref 0), some (.long (dgDs s h0 i)), none, some (.ref (j_NA + 1)), some (.int 4), some (.int (nI i)), e6] [] M1 := by
    intro r
    induction r with
    | zero =>
      intro i h0 M1 e6 hi hS kk
      have hi' : i = 4 := by omega
      subst hi'
      refine jx_iload5 (pc := 208) d_J_digest_208 ?_
      refine jx_iload4 (pc := 210) d_J_digest_210 ?_
      refine jx_icmp_ge (pc := 212) 251 d_J_digest_212 (by decide) (fun c212 => ?_) (fun c212 => absurd c212 (fun z => z (show nI 4 ≤ nI 4 from Int32.le_refl _)))
      rotate_left
      exact tail _ M1 _ _ _ _ hS kk
    | succ r ih =>
      intro i h0 M1 e6 hi hS kk
      have ei : (nI i).toNatClampNeg = i := nI_cl (by omega)
      refine jx_iload5 (pc := 208) d_J_digest_208 ?_
      refine jx_iload4 (pc := 210) d_J_digest_210 ?_
      refine jx_icmp_ge (pc := 212) 251 d_J_digest_212 (by decide) (fun c212 => absurd c212 (show ¬ nI 4 ≤ nI i from nI_ge (by omega) (by omega))) (fun c212 => ?_)
      refine jx_aload3 (pc := 215) d_J_digest_215 ?_
      refine jx_iload5 (pc := 216) d_J_digest_216 ?_
      refine jx_ialdD (pc := 218) d_J_digest_218 (vp_in_nI (show i < 4 by omega) (by omega)) ?_
      refine jx_istore6 (pc := 219) d_J_digest_219 rfl (Nat.le_of_ble_eq_true rfl) ?_
      refine jx_lload1 (pc := 221) d_J_digest_221 ?_
      refine jx_aload0 (pc := 222) d_J_digest_222 ?_
      refine jx_iconst (pc := 223) (v := 0) d_J_digest_223 (by decide) ?_
      refine jx_iload6 (pc := 224) d_J_digest_224 ?_
      refine jx_callV2 (pc := 226) (d' := d + 4) vo_J_found lk_J_338 d_J_digest_226 ad_0 sh_0 rfl (by omega) (Nat.le_of_ble_eq_true rfl) ?_
      refine c_J_found hw (hS.rep hR) (fun M226 hx226 => ?_)
      have hS226 : Scr M M226 := hS.tr hx226
      refine jx_r1 ?_
      refine jx_i2l (pc := 229) d_J_digest_229 ?_
      refine jx_callS2 (pc := 230) (d' := 0) so_J_mix lk_J_309 d_J_digest_230 (by omega) (Nat.le_of_ble_eq_true rfl) ?_
      refine c_J_mix ?_
      refine jx_r1 ?_
      refine jx_aload0 (pc := 233) d_J_digest_233 ?_
      refine jx_iconst (pc := 234) (v := 1) d_J_digest_234 (by decide) ?_
      refine jx_iload6 (pc := 235) d_J_digest_235 ?_
      refine jx_callV2 (pc := 237) (d' := d + 4) vo_J_found lk_J_338 d_J_digest_237 ad_0 sh_0 rfl (by omega) (Nat.le_of_ble_eq_true rfl) ?_
      refine c_J_found hw (hS226.rep hR) (fun M237 hx237 => ?_)
      have hS237 : Scr M M237 := hS226.tr hx237
      refine jx_r1 ?_
      refine jx_i2l (pc := 240) d_J_digest_240 ?_
      refine jx_callS2 (pc := 241) (d' := 0) so_J_mix lk_J_309 d_J_digest_241 (by omega) (Nat.le_of_ble_eq_true rfl) ?_
      refine c_J_mix ?_
      refine jx_r1 ?_
      refine jx_lstore1 (pc := 244) d_J_digest_244 rfl (Nat.le_of_ble_eq_true rfl) ?_
      refine jx_iinc5 (pc := 245) d_J_digest_245 rfl (Nat.le_of_ble_eq_true rfl) ?_
      refine jx_goto (pc := 248) 208 d_J_digest_248 (by decide) ?_
      rotate_left
      rw [nI_add1, ei]
      exact ih (i + 1) h0 M237 _ (by omega) hS237 kk
  have heirs : ∀ (r i : Nat) (h0 : Int64) (M1 : j_M) (e4 : Option Value), i + r = g_hn s → Scr M M1 → (∀ M', Scr M M' → Q (some (.long ((dgT s).foldl mixL (dgDs s (dgHs s h0 (g_hn s)) 4)))) M') → j_W (d + 22) I_J_digest X 41 [some (.ref 0), some (.long (dgHs s h0 i)), none, some (.int (nI i)), e4, none, none] [] M1 := by
    intro r
    induction r with
    | zero =>
      intro i h0 M1 e4 hi hS kk
      have hi' : i = g_hn s := by omega
      subst hi'
      have h13 : M1 1 3 = nI (g_hn s) := (hS.rep hR).1.2.1
      refine jx_iload3 (pc := 41) d_J_digest_41 ?_
      refine jx_aload0 (pc := 42) d_J_digest_42 ?_
      refine jx_getR (pc := 43) gf_J_12 d_J_digest_43 ad_0 sh_0 rfl ?_
      refine jx_getI (pc := 46) gf_J_169 d_J_digest_46 ad_1 sh_1 rfl ?_
      refine jx_icmp_ge (pc := 49) 197 d_J_digest_49 (by decide) (fun c49 => ?_) (fun c49 => absurd c49 (fun z => z (by rw [h13]; exact Int32.le_refl _)))
      refine jx_getsD (pc := 197) ls_J_335 d_J_digest_197 ?_
      refine jx_astore3 (pc := 200) d_J_digest_200 rfl (Nat.le_of_ble_eq_true rfl) ?_
      refine jx_aload3 (pc := 201) d_J_digest_201 ?_
      refine jx_alenD (pc := 202) d_J_digest_202 ?_
      refine jx_istore4 (pc := 203) d_J_digest_203 rfl (Nat.le_of_ble_eq_true rfl) ?_
      refine jx_iconst (pc := 205) (v := 0) d_J_digest_205 (by decide) ?_
      refine jx_istore5 (pc := 206) d_J_digest_206 rfl (Nat.le_of_ble_eq_true rfl) ?_
      rotate_left
      exact days 4 0 _ M1 _ (by omega) hS kk
    | succ r ih =>
      intro i h0 M1 e4 hi hS kk
      have h13 : M1 1 3 = nI (g_hn s) := (hS.rep hR).1.2.1
      have goods : ∀ (q t : Nat), t + q = 3 → j_W (d + 22) I_J_digest X 55 [some (.ref 0), some (.long (dgG s i (dgHs s h0 i) t)), none, some (.int (nI i)), some (.int (nI t)), none, none] [] M1 := by
        intro q
        induction q with
        | zero =>
          intro t ht
          have ht' : t = 3 := by omega
          subst ht'
          refine jx_iload4 (pc := 55) d_J_digest_55 ?_
          refine jx_iconst (pc := 57) (v := 3) d_J_digest_57 (by decide) ?_
          refine jx_icmp_ge (pc := 58) 80 d_J_digest_58 (by decide) (fun c58 => ?_) (fun c58 => absurd c58 (fun z => z (show nI 3 ≤ nI 3 from Int32.le_refl _)))
          refine jx_lload1 (pc := 80) d_J_digest_80 ?_
          refine jx_aload0 (pc := 81) d_J_digest_81 ?_
          refine jx_iconst (pc := 82) (v := 0) d_J_digest_82 (by decide) ?_
          refine jx_bipush (pc := 83) (v := 9) d_J_digest_83 (by decide) ?_
          refine jx_iload3 (pc := 85) d_J_digest_85 ?_
          refine jx_callV3 (pc := 86) (d' := d + 4) vo_J_liking lk_J_319 d_J_digest_86 ad_0 sh_0 rfl (by omega) (Nat.le_of_ble_eq_true rfl) ?_
          refine c_J_liking hw (hS.rep hR) (fun M86 hx86 => ?_)
          have hS86 : Scr M M86 := hS.tr hx86
          refine jx_r1 ?_
          refine jx_i2l (pc := 89) d_J_digest_89 ?_
          refine jx_callS2 (pc := 90) (d' := 0) so_J_mix lk_J_309 d_J_digest_90 (by omega) (Nat.le_of_ble_eq_true rfl) ?_
          refine c_J_mix ?_
          refine jx_r1 ?_
          refine jx_aload0 (pc := 93) d_J_digest_93 ?_
          refine jx_iconst (pc := 94) (v := 1) d_J_digest_94 (by decide) ?_
          refine jx_bipush (pc := 95) (v := 29) d_J_digest_95 (by decide) ?_
          refine jx_iload3 (pc := 97) d_J_digest_97 ?_
          refine jx_callV3 (pc := 98) (d' := d + 4) vo_J_liking lk_J_319 d_J_digest_98 ad_0 sh_0 rfl (by omega) (Nat.le_of_ble_eq_true rfl) ?_
          refine c_J_liking hw (hS86.rep hR) (fun M98 hx98 => ?_)
          have hS98 : Scr M M98 := hS86.tr hx98
          refine jx_r1 ?_
          refine jx_i2l (pc := 101) d_J_digest_101 ?_
          refine jx_callS2 (pc := 102) (d' := 0) so_J_mix lk_J_309 d_J_digest_102 (by omega) (Nat.le_of_ble_eq_true rfl) ?_
          refine c_J_mix ?_
          refine jx_r1 ?_
          refine jx_lstore1 (pc := 105) d_J_digest_105 rfl (Nat.le_of_ble_eq_true rfl) ?_
          refine jx_lload1 (pc := 106) d_J_digest_106 ?_
          refine jx_aload0 (pc := 107) d_J_digest_107 ?_
          refine jx_iconst (pc := 108) (v := 5) d_J_digest_108 (by decide) ?_
          refine jx_iload3 (pc := 109) d_J_digest_109 ?_
          refine jx_iconst (pc := 110) (v := 0) d_J_digest_110 (by decide) ?_
          refine jx_callV3 (pc := 111) (d' := d + 4) vo_J_share lk_J_321 d_J_digest_111 ad_0 sh_0 rfl (by omega) (Nat.le_of_ble_eq_true rfl) ?_
          refine c_J_share hw (hS98.rep hR) (fun M111 hx111 => ?_)
          have hS111 : Scr M M111 := hS98.tr hx111
          refine jx_r1 ?_
          refine jx_callS2 (pc := 114) (d' := 0) so_J_mix lk_J_309 d_J_digest_114 (by omega) (Nat.le_of_ble_eq_true rfl) ?_
          refine c_J_mix ?_
          refine jx_r1 ?_
          refine jx_aload0 (pc := 117) d_J_digest_117 ?_
          refine jx_iconst (pc := 118) (v := 5) d_J_digest_118 (by decide) ?_
          refine jx_iload3 (pc := 119) d_J_digest_119 ?_
          refine jx_iconst (pc := 120) (v := 1) d_J_digest_120 (by decide) ?_
          refine jx_callV3 (pc := 121) (d' := d + 4) vo_J_share lk_J_321 d_J_digest_121 ad_0 sh_0 rfl (by omega) (Nat.le_of_ble_eq_true rfl) ?_
          refine c_J_share hw (hS111.rep hR) (fun M121 hx121 => ?_)
          have hS121 : Scr M M121 := hS111.tr hx121
          refine jx_r1 ?_
          refine jx_callS2 (pc := 124) (d' := 0) so_J_mix lk_J_309 d_J_digest_124 (by omega) (Nat.le_of_ble_eq_true rfl) ?_
          refine c_J_mix ?_
          refine jx_r1 ?_
          refine jx_lstore1 (pc := 127) d_J_digest_127 rfl (Nat.le_of_ble_eq_true rfl) ?_
          refine jx_lload1 (pc := 128) d_J_digest_128 ?_
          refine jx_aload0 (pc := 129) d_J_digest_129 ?_
          refine jx_iload3 (pc := 130) d_J_digest_130 ?_
          refine jx_iconst (pc := 131) (v := 4) d_J_digest_131 (by decide) ?_
          refine jx_iconst (pc := 132) (v := (-1)) d_J_digest_132 (by decide) ?_
          refine jx_callV3 (pc := 133) (d' := d + 9) vo_J_suit lk_J_325 d_J_digest_133 ad_0 sh_0 rfl (by omega) (Nat.le_of_ble_eq_true rfl) ?_
          refine c_J_suit hw (hS121.rep hR) (fun M133 hx133 => ?_)
          have hS133 : Scr M M133 := hS121.tr hx133
          refine jx_r1 ?_
          refine jx_i2l (pc := 136) d_J_digest_136 ?_
          refine jx_callS2 (pc := 137) (d' := 0) so_J_mix lk_J_309 d_J_digest_137 (by omega) (Nat.le_of_ble_eq_true rfl) ?_
          refine c_J_mix ?_
          refine jx_r1 ?_
          refine jx_aload0 (pc := 140) d_J_digest_140 ?_
          refine jx_iload3 (pc := 141) d_J_digest_141 ?_
          refine jx_iconst (pc := 142) (v := 4) d_J_digest_142 (by decide) ?_
          refine jx_iconst (pc := 143) (v := 0) d_J_digest_143 (by decide) ?_
          refine jx_callV3 (pc := 144) (d' := d + 9) vo_J_suit lk_J_325 d_J_digest_144 ad_0 sh_0 rfl (by omega) (Nat.le_of_ble_eq_true rfl) ?_
          refine c_J_suit hw (hS133.rep hR) (fun M144 hx144 => ?_)
          have hS144 : Scr M M144 := hS133.tr hx144
          refine jx_r1 ?_
          refine jx_i2l (pc := 147) d_J_digest_147 ?_
          refine jx_callS2 (pc := 148) (d' := 0) so_J_mix lk_J_309 d_J_digest_148 (by omega) (Nat.le_of_ble_eq_true rfl) ?_
          refine c_J_mix ?_
          refine jx_r1 ?_
          refine jx_lstore1 (pc := 151) d_J_digest_151 rfl (Nat.le_of_ble_eq_true rfl) ?_
          refine jx_lload1 (pc := 152) d_J_digest_152 ?_
          refine jx_aload0 (pc := 153) d_J_digest_153 ?_
          refine jx_iconst (pc := 154) (v := 4) d_J_digest_154 (by decide) ?_
          refine jx_iload3 (pc := 155) d_J_digest_155 ?_
          refine jx_iconst (pc := 156) (v := 5) d_J_digest_156 (by decide) ?_
          refine jx_iconst (pc := 157) (v := 0) d_J_digest_157 (by decide) ?_
          refine jx_callV4 (pc := 158) (d' := d + 21) vo_J_chance lk_J_328 d_J_digest_158 ad_0 sh_0 rfl (by omega) (Nat.le_of_ble_eq_true rfl) ?_
          refine c_J_chance hw (hS144.rep hR) (fun M158 hx158 => ?_)
          have hS158 : Scr M M158 := hS144.tr hx158
          refine jx_r1 ?_
          refine jx_callS2 (pc := 161) (d' := 0) so_J_mix lk_J_309 d_J_digest_161 (by omega) (Nat.le_of_ble_eq_true rfl) ?_
          refine c_J_mix ?_
          refine jx_r1 ?_
          refine jx_aload0 (pc := 164) d_J_digest_164 ?_
          refine jx_iconst (pc := 165) (v := 4) d_J_digest_165 (by decide) ?_
          refine jx_iload3 (pc := 166) d_J_digest_166 ?_
          refine jx_iconst (pc := 167) (v := 5) d_J_digest_167 (by decide) ?_
          refine jx_iconst (pc := 168) (v := 1) d_J_digest_168 (by decide) ?_
          refine jx_callV4 (pc := 169) (d' := d + 21) vo_J_chance lk_J_328 d_J_digest_169 ad_0 sh_0 rfl (by omega) (Nat.le_of_ble_eq_true rfl) ?_
          refine c_J_chance hw (hS158.rep hR) (fun M169 hx169 => ?_)
          have hS169 : Scr M M169 := hS158.tr hx169
          refine jx_r1 ?_
          refine jx_callS2 (pc := 172) (d' := 0) so_J_mix lk_J_309 d_J_digest_172 (by omega) (Nat.le_of_ble_eq_true rfl) ?_
          refine c_J_mix ?_
          refine jx_r1 ?_
          refine jx_lstore1 (pc := 175) d_J_digest_175 rfl (Nat.le_of_ble_eq_true rfl) ?_
          refine jx_lload1 (pc := 176) d_J_digest_176 ?_
          refine jx_aload0 (pc := 177) d_J_digest_177 ?_
          refine jx_bipush (pc := 178) (v := 7) d_J_digest_178 (by decide) ?_
          refine jx_bipush (pc := 180) (v := 9) d_J_digest_180 (by decide) ?_
          refine jx_iload3 (pc := 182) d_J_digest_182 ?_
          refine jx_callV3 (pc := 183) (d' := d + 3) vo_J_weeks lk_J_332 d_J_digest_183 ad_0 sh_0 rfl (by omega) (Nat.le_of_ble_eq_true rfl) ?_
          refine c_J_weeks hw (hS169.rep hR) (fun M183 hx183 => ?_)
          have hS183 : Scr M M183 := hS169.tr hx183
          refine jx_r1 ?_
          refine jx_i2l (pc := 186) d_J_digest_186 ?_
          refine jx_callS2 (pc := 187) (d' := 0) so_J_mix lk_J_309 d_J_digest_187 (by omega) (Nat.le_of_ble_eq_true rfl) ?_
          refine c_J_mix ?_
          refine jx_r1 ?_
          refine jx_lstore1 (pc := 190) d_J_digest_190 rfl (Nat.le_of_ble_eq_true rfl) ?_
          refine jx_iinc3 (pc := 191) d_J_digest_191 rfl (Nat.le_of_ble_eq_true rfl) ?_
          refine jx_goto (pc := 194) 41 d_J_digest_194 (by decide) ?_
          rotate_left
          rw [nI_add1]
          exact ih (i + 1) h0 M183 _ (by omega) hS183 kk
        | succ q ihq =>
          intro t ht
          refine jx_iload4 (pc := 55) d_J_digest_55 ?_
          refine jx_iconst (pc := 57) (v := 3) d_J_digest_57 (by decide) ?_
          refine jx_icmp_ge (pc := 58) 80 d_J_digest_58 (by decide) (fun c58 => absurd c58 (show ¬ nI 3 ≤ nI t from nI_ge (by omega) (by omega))) (fun c58 => ?_)
          refine jx_lload1 (pc := 61) d_J_digest_61 ?_
          refine jx_aload0 (pc := 62) d_J_digest_62 ?_
          refine jx_iload3 (pc := 63) d_J_digest_63 ?_
          refine jx_iload4 (pc := 64) d_J_digest_64 ?_
          refine jx_callV2 (pc := 66) (d' := d + 1) vo_J_good lk_J_316 d_J_digest_66 ad_0 sh_0 rfl (by omega) (Nat.le_of_ble_eq_true rfl) ?_
          refine c_J_good hw (hS.rep hR) ?_
          refine jx_r1 ?_
          refine jx_i2l (pc := 69) d_J_digest_69 ?_
          refine jx_callS2 (pc := 70) (d' := 0) so_J_mix lk_J_309 d_J_digest_70 (by omega) (Nat.le_of_ble_eq_true rfl) ?_
          refine c_J_mix ?_
          refine jx_r1 ?_
          refine jx_lstore1 (pc := 73) d_J_digest_73 rfl (Nat.le_of_ble_eq_true rfl) ?_
          refine jx_iinc4 (pc := 74) d_J_digest_74 rfl (Nat.le_of_ble_eq_true rfl) ?_
          refine jx_goto (pc := 77) 55 d_J_digest_77 (by decide) ?_
          rotate_left
          rw [nI_add1]
          exact ihq (t + 1) (by omega)
      refine jx_iload3 (pc := 41) d_J_digest_41 ?_
      refine jx_aload0 (pc := 42) d_J_digest_42 ?_
      refine jx_getR (pc := 43) gf_J_12 d_J_digest_43 ad_0 sh_0 rfl ?_
      refine jx_getI (pc := 46) gf_J_169 d_J_digest_46 ad_1 sh_1 rfl ?_
      refine jx_icmp_ge (pc := 49) 197 d_J_digest_49 (by decide) (fun c49 => absurd c49 (by rw [h13]; exact nI_ge (by omega) (by omega))) (fun c49 => ?_)
      refine jx_iconst (pc := 52) (v := 0) d_J_digest_52 (by decide) ?_
      refine jx_istore4 (pc := 53) d_J_digest_53 rfl (Nat.le_of_ble_eq_true rfl) ?_
      rotate_left
      exact goods 3 0 (by omega)
  have counts : ∀ (r i : Nat), i + r = 8 → j_W (d + 22) I_J_digest X 6 [some (.ref 0), some (.long (dgC s i)), none, some (.int (nI i)), none, none, none] [] M := by
    intro r
    induction r with
    | zero =>
      intro i hi
      have hi' : i = 8 := by omega
      subst hi'
      refine jx_iload3 (pc := 6) d_J_digest_6 ?_
      refine jx_bipush (pc := 7) (v := 7) d_J_digest_7 (by decide) ?_
      refine jx_icmp_gt (pc := 9) 29 d_J_digest_9 (by decide) (fun c9 => ?_) (fun c9 => absurd c9 (fun z => z (show nI 7 < nI 8 from nI_lt (by omega) (by omega))))
      refine jx_lload1 (pc := 29) d_J_digest_29 ?_
      refine jx_aload0 (pc := 30) d_J_digest_30 ?_
      refine jx_callV0 (pc := 31) (d' := d) vo_J_fault lk_J_313 d_J_digest_31 ad_0 sh_0 rfl (by omega) (Nat.le_of_ble_eq_true rfl) ?_
      refine c_J_fault hR ?_
      refine jx_r1 ?_
      refine jx_i2l (pc := 34) d_J_digest_34 ?_
      refine jx_callS2 (pc := 35) (d' := 0) so_J_mix lk_J_309 d_J_digest_35 (by omega) (Nat.le_of_ble_eq_true rfl) ?_
      refine c_J_mix ?_
      refine jx_r1 ?_
      refine jx_lstore1 (pc := 38) d_J_digest_38 rfl (Nat.le_of_ble_eq_true rfl) ?_
      refine jx_iconst (pc := 39) (v := 0) d_J_digest_39 (by decide) ?_
      refine jx_istore3 (pc := 40) d_J_digest_40 rfl (Nat.le_of_ble_eq_true rfl) ?_
      rotate_left
      exact heirs (g_hn s) 0 _ M _ (by omega) Scr.rf k
    | succ r ih =>
      intro i hi
      refine jx_iload3 (pc := 6) d_J_digest_6 ?_
      refine jx_bipush (pc := 7) (v := 7) d_J_digest_7 (by decide) ?_
      refine jx_icmp_gt (pc := 9) 29 d_J_digest_9 (by decide) (fun c9 => absurd c9 (show ¬ nI 7 < nI i from nI_nlt (by omega) (by omega))) (fun c9 => ?_)
      refine jx_lload1 (pc := 12) d_J_digest_12 ?_
      refine jx_aload0 (pc := 13) d_J_digest_13 ?_
      refine jx_iload3 (pc := 14) d_J_digest_14 ?_
      refine jx_callV1 (pc := 15) (d' := d + 3) vo_J_count lk_J_306 d_J_digest_15 ad_0 sh_0 rfl (by omega) (Nat.le_of_ble_eq_true rfl) ?_
      refine c_J_count hw hR ?_
      refine jx_r1 ?_
      refine jx_i2l (pc := 18) d_J_digest_18 ?_
      refine jx_callS2 (pc := 19) (d' := 0) so_J_mix lk_J_309 d_J_digest_19 (by omega) (Nat.le_of_ble_eq_true rfl) ?_
      refine c_J_mix ?_
      refine jx_r1 ?_
      refine jx_lstore1 (pc := 22) d_J_digest_22 rfl (Nat.le_of_ble_eq_true rfl) ?_
      refine jx_iinc3 (pc := 23) d_J_digest_23 rfl (Nat.le_of_ble_eq_true rfl) ?_
      refine jx_goto (pc := 26) 6 d_J_digest_26 (by decide) ?_
      rotate_left
      rw [nI_add1]
      exact ih (i + 1) (by omega)
  refine jx_ldc2 (pc := 0) d_J_digest_0 lc_J_304 ?_
  refine jx_lstore1 (pc := 3) d_J_digest_3 rfl (Nat.le_of_ble_eq_true rfl) ?_
  refine jx_iconst (pc := 4) (v := 0) d_J_digest_4 (by decide) ?_
  refine jx_istore3 (pc := 5) d_J_digest_5 rfl (Nat.le_of_ble_eq_true rfl) ?_
  rotate_left
  exact counts 8 0 (by omega)
