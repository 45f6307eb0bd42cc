/-! THE DIGEST of the reference -/
theorem v_good {s : Sg} {i t : Nat} (hw : WF s) (hi : i < g_hn s) (ht : t < 3) : r_good s (nI i) (nI t) = nI (gdB (g_nb s) (g_tx s) i t) := by
  have hn6 : g_hn s ≤ 6 := hnB_le hw.1
  unfold r_good
  rw [if_pos ⟨⟨nI_le (a := 0) (by omega) (by omega), nI_lt hi (by omega)⟩, ⟨nI_le (a := 0) (by omega) (by omega), (show nI t < nI 3 from nI_lt ht (by omega))⟩⟩, show cl (nI i) = i from nI_cl (by omega), show cl (nI t) = t from nI_cl (by omega)]
theorem v_lik {s : Sg} {a b i : Nat} (hw : WF s) (ha : a < 2) (hb : b < 30) (hi : i < g_hn s) : r_liking s (nI a) (nI b) (nI i) = nI (lkA s a b i) := by
  have hn6 : g_hn s ≤ 6 := hnB_le hw.1
  unfold r_liking
  rw [if_pos ⟨⟨nI_le (a := 0) (by omega) (by omega), (show nI a < nI 2 from nI_lt ha (by omega))⟩, ⟨nI_le (a := 0) (by omega) (by omega), (show nI b < nI 30 from nI_lt hb (by omega))⟩, ⟨nI_le (a := 0) (by omega) (by omega), nI_lt hi (by omega)⟩⟩, show cl (nI a) = a from nI_cl (by omega), show cl (nI b) = b from nI_cl (by omega), show cl (nI i) = i from nI_cl (by omega)]
theorem v_fou {s : Sg} {a b : Nat} (ha : a < 2) (hb : b < 30) : r_found s (nI a) (nI b) = em (fdD s a b) := by
  unfold r_found
  rw [if_pos ⟨⟨nI_le (a := 0) (by omega) (by omega), (show nI a < nI 2 from nI_lt ha (by omega))⟩, ⟨nI_le (a := 0) (by omega) (by omega), (show nI b < nI 30 from nI_lt hb (by omega))⟩⟩, show cl (nI a) = a from nI_cl (by omega), show cl (nI b) = b from nI_cl (by omega)]
theorem v_sha {s : Sg} {i w : Nat} (hw : WF s) (hi : i < g_hn s) (hw2 : w < 2) : r_share s 5 (nI i) (nI w) = if allN s 5 = 0 then refL (-3) else lN (frcN (lkA s 0 5 i) (allN s 5) (nI w)) := by
  have hn6 : g_hn s ≤ 6 := hnB_le hw.1
  unfold r_share
  rw [if_pos ⟨⟨(by decide : (0 : Int32) ≤ 5), (by decide : (5 : Int32) < 30)⟩, ⟨nI_le (a := 0) (by omega) (by omega), nI_lt hi (by omega)⟩, ⟨nI_le (a := 0) (by omega) (by omega), (show nI w < nI 2 from nI_lt hw2 (by omega))⟩⟩, show cl (5 : Int32) = 5 from nI_cl (n := 5) (by omega), show cl (nI i) = i from nI_cl (by omega)]
theorem v_sui {s : Sg} {i : Nat} {q : Int32} (hw : WF s) (hi : i < g_hn s) (hq : -1 ≤ q ∧ q < 3) : r_suit s (nI i) 4 q = suN (suB s i 4) q := by
  have hn6 : g_hn s ≤ 6 := hnB_le hw.1
  unfold r_suit
  rw [if_pos ⟨⟨nI_le (a := 0) (by omega) (by omega), nI_lt hi (by omega)⟩, ⟨(by decide : (0 : Int32) ≤ 4), (by decide : (4 : Int32) < 10)⟩, hq⟩, show cl (4 : Int32) = 4 from nI_cl (n := 4) (by omega), show cl (nI i) = i from nI_cl (by omega)]
theorem v_cha {s : Sg} {i w : Nat} (hw : WF s) (hi : i < g_hn s) (hw2 : w < 2) : r_chance s 4 (nI i) 5 (nI w) = lN (frcN (wgF s 4 i 99 0 (5 + 1) 0 mo0) (16 ^ (5 + 1)) (nI w)) := by
  have hn6 : g_hn s ≤ 6 := hnB_le hw.1
  unfold r_chance
  rw [if_pos ⟨⟨(by decide : (0 : Int32) ≤ 4), (by decide : (4 : Int32) ≤ 16)⟩, ⟨nI_le (a := 0) (by omega) (by omega), nI_lt hi (by omega)⟩, ⟨(by decide : (0 : Int32) ≤ 5), (by decide : (5 : Int32) < 10)⟩, ⟨nI_le (a := 0) (by omega) (by omega), (show nI w < nI 2 from nI_lt hw2 (by omega))⟩⟩, show cl (5 : Int32) = 5 from nI_cl (n := 5) (by omega), show cl (nI i) = i from nI_cl (by omega), show cl (4 : Int32) = 4 from nI_cl (n := 4) (by omega)]
theorem v_wee {s : Sg} {h : Int32} (hb : h = -1 ∨ (0 ≤ h ∧ h < nI (g_hn s))) : r_weeks s 7 9 h = if h = -1 then em (fdW s 7 (9 - 1)) else nI (cnW s 7 (unem h) 9) := by
  unfold r_weeks
  rw [if_pos ⟨⟨(by decide : (1 : Int32) ≤ 9), (by decide : (9 : Int32) ≤ 30)⟩, hb⟩, show cl (9 : Int32) = 9 from nI_cl (n := 9) (by omega)]
  by_cases hm : h = -1
  · rw [if_pos hm, if_pos hm]
  · rw [if_neg hm, if_neg hm, show unem h = cl h by unfold unem; rw [if_neg hm]]
theorem v_une {s : Sg} {h : Int32} (hw : WF s) (hb : h = -1 ∨ (0 ≤ h ∧ h < nI (g_hn s))) : h = em (unem h) ∧ unem h < 10 := by
  have hn6 : g_hn s ≤ 6 := hnB_le hw.1
  unfold unem
  by_cases hm : h = -1
  · rw [if_pos hm]; exact ⟨hm, by omega⟩
  · rw [if_neg hm]
    obtain ⟨j, hj, rfl, ej⟩ := okd h _ (by omega) (hb.resolve_left hm)
    rw [ej]
    exact ⟨(em_lt (by omega)).symm, by omega⟩
theorem c_R_heirDigest {d i : Nat} {h : Int64} {s : Sg} {M : j_M} {Q : Option Value → j_M → Prop} (hw : WF s) (hR : RepR s M) (hr : RdR s M) (hi : i < g_hn s) (k : ∀ M', ScrR M M' → RdR s M' → Q (some (.long (dgH s i h))) M') : j_Ct (d + 6) I_R_heirDigest [.ref 79, .long h, .int (nI i)] M Q := by
  refine j_met (by decide +kernel) co_R_heirDigest (Nat.le_of_ble_eq_true rfl) (fun X hX => ?_)
  show j_W (d + 6) I_R_heirDigest X 0 [some (.ref 79), some (.long h), none, some (.int (nI i)), none, none, none] [] M
  have hn6 : g_hn s ≤ 6 := hnB_le hw.1
  have hio : 0 ≤ nI i ∧ nI i < nI (g_hn s) := ⟨nI_le (a := 0) (by omega) (by omega), nI_lt hi (by omega)⟩
  have goods : ∀ (q t : Nat), t + q = 3 → j_W (d + 6) I_R_heirDigest X 6 [some (.ref 79), some (.long h), none, some (.int (nI i)), some (.long (dgG s i h t)), none, some (.int (nI t))] [] M := by
    intro q
    induction q with
    | zero =>
      intro t ht
      have ht' : t = 3 := by omega
      subst ht'
      have hu := v_une (s := s) (h := nI i) hw (Or.inr hio)
      have kk : ∀ M', ScrR M M' → RdR s M' → Q (some (.long (dgH s i h))) M' := k
      unfold dgH dgHl at kk
      simp only [List.foldl_cons, List.foldl_nil] at kk
      rw [show r_liking s 0 9 (nI i) = nI (lkA s 0 9 i) from v_lik (a := 0) (b := 9) hw (by omega) (by omega) hi, show r_liking s 1 29 (nI i) = nI (lkA s 1 29 i) from v_lik (a := 1) (b := 29) hw (by omega) (by omega) hi, show r_share s 5 (nI i) 0 = _ from v_sha (w := 0) hw hi (by omega), show r_share s 5 (nI i) 1 = _ from v_sha (w := 1) hw hi (by omega), v_sui hw hi (by decide), v_sui hw hi (by decide), show r_chance s 4 (nI i) 5 0 = _ from v_cha (w := 0) hw hi (by omega), show r_chance s 4 (nI i) 5 1 = _ from v_cha (w := 1) hw hi (by omega), v_wee (Or.inr hio)] at kk
      cases hB : suB s i 4 with
      | none =>
        rw [hB] at kk
        rw [suN_n, suN_n] at kk
        refine jx_iload6 (pc := 6) d_R_heirDigest_6 ?_
        refine jx_iconst (pc := 8) (v := 3) d_R_heirDigest_8 (by decide) ?_
        refine jx_icmp_ge (pc := 9) 39 d_R_heirDigest_9 (by decide) (fun c9 => ?_) (fun c9 => absurd c9 (fun z => z (show nI 3 ≤ nI 3 from Int32.le_refl _)))
        refine jx_ldc2 (pc := 39) d_R_heirDigest_39 lc_R_302 ?_
        refine jx_lload4 (pc := 42) d_R_heirDigest_42 ?_
        refine jx_lmul (pc := 44) d_R_heirDigest_44 ?_
        refine jx_aload0 (pc := 45) d_R_heirDigest_45 ?_
        refine jx_iconst (pc := 46) (v := 0) d_R_heirDigest_46 (by decide) ?_
        refine jx_bipush (pc := 47) (v := 9) d_R_heirDigest_47 (by decide) ?_
        refine jx_iload3 (pc := 49) d_R_heirDigest_49 ?_
        refine jx_callV3 (pc := 50) (d' := d + 4) vo_R_likingOf lk_R_182 d_R_heirDigest_50 ad_79 sh_79 rfl (by omega) (Nat.le_of_ble_eq_true rfl) ?_
        refine c_R_likingOf (dog := 0) (day := 9) hw ((ScrR.rf (M := M)).rep hR) (by omega) (by omega) (by omega) (fun M50 hx50 hr50 => ?_)
        have hS50 : ScrR M M50 := (ScrR.rf (M := M)).tr hx50
        refine jx_r1 ?_
        refine jx_i2l (pc := 53) d_R_heirDigest_53 ?_
        refine jx_ladd (pc := 54) d_R_heirDigest_54 ?_
        refine jx_lstore4 (pc := 55) d_R_heirDigest_55 rfl (Nat.le_of_ble_eq_true rfl) ?_
        refine jx_ldc2 (pc := 57) d_R_heirDigest_57 lc_R_302 ?_
        refine jx_lload4 (pc := 60) d_R_heirDigest_60 ?_
        refine jx_lmul (pc := 62) d_R_heirDigest_62 ?_
        refine jx_aload0 (pc := 63) d_R_heirDigest_63 ?_
        refine jx_iconst (pc := 64) (v := 1) d_R_heirDigest_64 (by decide) ?_
        refine jx_bipush (pc := 65) (v := 29) d_R_heirDigest_65 (by decide) ?_
        refine jx_iload3 (pc := 67) d_R_heirDigest_67 ?_
        refine jx_callV3 (pc := 68) (d' := d + 4) vo_R_likingOf lk_R_182 d_R_heirDigest_68 ad_79 sh_79 rfl (by omega) (Nat.le_of_ble_eq_true rfl) ?_
        refine c_R_likingOf (dog := 1) (day := 29) hw (hS50.rep hR) (by omega) (by omega) (by omega) (fun M68 hx68 hr68 => ?_)
        have hS68 : ScrR M M68 := hS50.tr hx68
        refine jx_r1 ?_
        refine jx_i2l (pc := 71) d_R_heirDigest_71 ?_
        refine jx_ladd (pc := 72) d_R_heirDigest_72 ?_
        refine jx_lstore4 (pc := 73) d_R_heirDigest_73 rfl (Nat.le_of_ble_eq_true rfl) ?_
        refine jx_ldc2 (pc := 75) d_R_heirDigest_75 lc_R_302 ?_
        refine jx_lload4 (pc := 78) d_R_heirDigest_78 ?_
        refine jx_lmul (pc := 80) d_R_heirDigest_80 ?_
        refine jx_aload0 (pc := 81) d_R_heirDigest_81 ?_
        refine jx_iconst (pc := 82) (v := 5) d_R_heirDigest_82 (by decide) ?_
        refine jx_iload3 (pc := 83) d_R_heirDigest_83 ?_
        refine jx_iconst (pc := 84) (v := 0) d_R_heirDigest_84 (by decide) ?_
        refine jx_callV3 (pc := 85) (d' := d + 4) vo_R_shareOf lk_R_197 d_R_heirDigest_85 ad_79 sh_79 rfl (by omega) (Nat.le_of_ble_eq_true rfl) ?_
        refine c_R_shareOf (a := 5) hw (hS68.rep hR) (by omega) hi (fun M85 hx85 hr85 => ?_)
        have hS85 : ScrR M M85 := hS68.tr hx85
        refine jx_r1 ?_
        refine jx_ladd (pc := 88) d_R_heirDigest_88 ?_
        refine jx_lstore4 (pc := 89) d_R_heirDigest_89 rfl (Nat.le_of_ble_eq_true rfl) ?_
        refine jx_ldc2 (pc := 91) d_R_heirDigest_91 lc_R_302 ?_
        refine jx_lload4 (pc := 94) d_R_heirDigest_94 ?_
        refine jx_lmul (pc := 96) d_R_heirDigest_96 ?_
        refine jx_aload0 (pc := 97) d_R_heirDigest_97 ?_
        refine jx_iconst (pc := 98) (v := 5) d_R_heirDigest_98 (by decide) ?_
        refine jx_iload3 (pc := 99) d_R_heirDigest_99 ?_
        refine jx_iconst (pc := 100) (v := 1) d_R_heirDigest_100 (by decide) ?_
        refine jx_callV3 (pc := 101) (d' := d + 4) vo_R_shareOf lk_R_197 d_R_heirDigest_101 ad_79 sh_79 rfl (by omega) (Nat.le_of_ble_eq_true rfl) ?_
        refine c_R_shareOf (a := 5) hw (hS85.rep hR) (by omega) hi (fun M101 hx101 hr101 => ?_)
        have hS101 : ScrR M M101 := hS85.tr hx101
        refine jx_r1 ?_
        refine jx_ladd (pc := 104) d_R_heirDigest_104 ?_
        refine jx_lstore4 (pc := 105) d_R_heirDigest_105 rfl (Nat.le_of_ble_eq_true rfl) ?_
        refine jx_aload0 (pc := 107) d_R_heirDigest_107 ?_
        refine jx_iload3 (pc := 108) d_R_heirDigest_108 ?_
        refine jx_iconst (pc := 109) (v := 4) d_R_heirDigest_109 (by decide) ?_
        refine jx_iconst (pc := 110) (v := (-1)) d_R_heirDigest_110 (by decide) ?_
        refine jx_callV3 (pc := 111) (d' := d + 5) vo_R_suitOf lk_R_227 d_R_heirDigest_111 ad_79 sh_79 rfl (by omega) (Nat.le_of_ble_eq_true rfl) ?_
        refine c_R_suitOf (last := 4) hw (hS101.rep hR) hi (by omega) (by decide) (fun M111 hx111 hr111 hrow => ?_)
        have hS111 : ScrR M M111 := hS101.tr hx111
        refine jx_r1 ?_
        refine jx_istore6 (pc := 114) d_R_heirDigest_114 rfl (Nat.le_of_ble_eq_true rfl) ?_
        refine jx_ldc2 (pc := 116) d_R_heirDigest_116 lc_R_302 ?_
        refine jx_lload4 (pc := 119) d_R_heirDigest_119 ?_
        refine jx_lmul (pc := 121) d_R_heirDigest_121 ?_
        refine jx_iload6 (pc := 122) d_R_heirDigest_122 ?_
        refine jx_i2l (pc := 124) d_R_heirDigest_124 ?_
        refine jx_ladd (pc := 125) d_R_heirDigest_125 ?_
        refine jx_lstore4 (pc := 126) d_R_heirDigest_126 rfl (Nat.le_of_ble_eq_true rfl) ?_
        refine jx_ldc2 (pc := 128) d_R_heirDigest_128 lc_R_302 ?_
        refine jx_lload4 (pc := 131) d_R_heirDigest_131 ?_
        refine jx_lmul (pc := 133) d_R_heirDigest_133 ?_
        refine jx_iload6 (pc := 134) d_R_heirDigest_134 ?_
        refine jx_if_le (pc := 136) 148 d_R_heirDigest_136 (by decide) (fun c136 => ?_) (fun c136 => absurd c136 (fun z => z (by rw [hB, suN_n]; decide)))
        refine jx_iconst (pc := 148) (v := (-1)) d_R_heirDigest_148 (by decide) ?_
        refine jx_i2l (pc := 149) d_R_heirDigest_149 ?_
        refine jx_ladd (pc := 150) d_R_heirDigest_150 ?_
        refine jx_lstore4 (pc := 151) d_R_heirDigest_151 rfl (Nat.le_of_ble_eq_true rfl) ?_
        refine jx_ldc2 (pc := 153) d_R_heirDigest_153 lc_R_302 ?_
        refine jx_lload4 (pc := 156) d_R_heirDigest_156 ?_
        refine jx_lmul (pc := 158) d_R_heirDigest_158 ?_
        refine jx_aload0 (pc := 159) d_R_heirDigest_159 ?_
        refine jx_iconst (pc := 160) (v := 4) d_R_heirDigest_160 (by decide) ?_
        refine jx_iload3 (pc := 161) d_R_heirDigest_161 ?_
        refine jx_iconst (pc := 162) (v := 5) d_R_heirDigest_162 (by decide) ?_
        refine jx_iconst (pc := 163) (v := 0) d_R_heirDigest_163 (by decide) ?_
        refine jx_callV4 (pc := 164) (d' := d + 4) vo_R_chanceOf lk_R_278 d_R_heirDigest_164 ad_79 sh_79 rfl (by omega) (Nat.le_of_ble_eq_true rfl) ?_
        refine c_R_chanceOf (c := 4) (last := 5) hw (hS111.rep hR) (by omega) hi (by omega) (fun M164 hx164 hr164 => ?_)
        have hS164 : ScrR M M164 := hS111.tr hx164
        refine jx_r1 ?_
        refine jx_ladd (pc := 167) d_R_heirDigest_167 ?_
        refine jx_lstore4 (pc := 168) d_R_heirDigest_168 rfl (Nat.le_of_ble_eq_true rfl) ?_
        refine jx_ldc2 (pc := 170) d_R_heirDigest_170 lc_R_302 ?_
        refine jx_lload4 (pc := 173) d_R_heirDigest_173 ?_
        refine jx_lmul (pc := 175) d_R_heirDigest_175 ?_
        refine jx_aload0 (pc := 176) d_R_heirDigest_176 ?_
        refine jx_iconst (pc := 177) (v := 4) d_R_heirDigest_177 (by decide) ?_
        refine jx_iload3 (pc := 178) d_R_heirDigest_178 ?_
        refine jx_iconst (pc := 179) (v := 5) d_R_heirDigest_179 (by decide) ?_
        refine jx_iconst (pc := 180) (v := 1) d_R_heirDigest_180 (by decide) ?_
        refine jx_callV4 (pc := 181) (d' := d + 4) vo_R_chanceOf lk_R_278 d_R_heirDigest_181 ad_79 sh_79 rfl (by omega) (Nat.le_of_ble_eq_true rfl) ?_
        refine c_R_chanceOf (c := 4) (last := 5) hw (hS164.rep hR) (by omega) hi (by omega) (fun M181 hx181 hr181 => ?_)
        have hS181 : ScrR M M181 := hS164.tr hx181
        refine jx_r1 ?_
        refine jx_ladd (pc := 184) d_R_heirDigest_184 ?_
        refine jx_lstore4 (pc := 185) d_R_heirDigest_185 rfl (Nat.le_of_ble_eq_true rfl) ?_
        refine jx_ldc2 (pc := 187) d_R_heirDigest_187 lc_R_302 ?_
        refine jx_lload4 (pc := 190) d_R_heirDigest_190 ?_
        refine jx_lmul (pc := 192) d_R_heirDigest_192 ?_
        refine jx_aload0 (pc := 193) d_R_heirDigest_193 ?_
        refine jx_bipush (pc := 194) (v := 7) d_R_heirDigest_194 (by decide) ?_
        refine jx_bipush (pc := 196) (v := 9) d_R_heirDigest_196 (by decide) ?_
        refine jx_iload3 (pc := 198) d_R_heirDigest_198 ?_
        refine jx_callV3 (pc := 199) (d' := d + 3) vo_R_weeksOf lk_R_286 d_R_heirDigest_199 ad_79 sh_79 rfl (by omega) (Nat.le_of_ble_eq_true rfl) ?_
        refine c_R_weeksOf (c := 9) hw (hS181.rep hR) (by omega) (by omega) hu (fun M199 hx199 hr199 => ?_)
        have hS199 : ScrR M M199 := hS181.tr hx199
        refine jx_r1 ?_
        refine jx_i2l (pc := 202) d_R_heirDigest_202 ?_
        refine jx_ladd (pc := 203) d_R_heirDigest_203 ?_
        refine jx_lret (pc := 204) hX rfl d_R_heirDigest_204 ?_
        rotate_left
        rw [hB, suN_n]
        exact kk M199 hS199 hr199
      | some r =>
        have hlen := suB_len hB
        rw [hB] at kk
        by_cases hr0 : 0 < r.length
        · have hpos : ¬ suN (suB s i 4) (-1) ≤ 0 := by rw [hB, suN_s, if_pos rfl]; exact nI_ge (a := 0) (by omega) (by omega)
          have hv0 : suN (some r) 0 = nI (r.getD 0 0) := by rw [suN_s, if_neg (by decide), if_pos (show (0 : Int32) < nI r.length from nI_lt (a := 0) hr0 (by omega))]; rfl
          rw [hv0] at kk
          refine jx_iload6 (pc := 6) d_R_heirDigest_6 ?_
          refine jx_iconst (pc := 8) (v := 3) d_R_heirDigest_8 (by decide) ?_
          refine jx_icmp_ge (pc := 9) 39 d_R_heirDigest_9 (by decide) (fun c9 => ?_) (fun c9 => absurd c9 (fun z => z (show nI 3 ≤ nI 3 from Int32.le_refl _)))
          refine jx_ldc2 (pc := 39) d_R_heirDigest_39 lc_R_302 ?_
          refine jx_lload4 (pc := 42) d_R_heirDigest_42 ?_
          refine jx_lmul (pc := 44) d_R_heirDigest_44 ?_
          refine jx_aload0 (pc := 45) d_R_heirDigest_45 ?_
          refine jx_iconst (pc := 46) (v := 0) d_R_heirDigest_46 (by decide) ?_
          refine jx_bipush (pc := 47) (v := 9) d_R_heirDigest_47 (by decide) ?_
          refine jx_iload3 (pc := 49) d_R_heirDigest_49 ?_
          refine jx_callV3 (pc := 50) (d' := d + 4) vo_R_likingOf lk_R_182 d_R_heirDigest_50 ad_79 sh_79 rfl (by omega) (Nat.le_of_ble_eq_true rfl) ?_
          refine c_R_likingOf (dog := 0) (day := 9) hw ((ScrR.rf (M := M)).rep hR) (by omega) (by omega) (by omega) (fun M50 hx50 hr50 => ?_)
          have hS50 : ScrR M M50 := (ScrR.rf (M := M)).tr hx50
          refine jx_r1 ?_
          refine jx_i2l (pc := 53) d_R_heirDigest_53 ?_
          refine jx_ladd (pc := 54) d_R_heirDigest_54 ?_
          refine jx_lstore4 (pc := 55) d_R_heirDigest_55 rfl (Nat.le_of_ble_eq_true rfl) ?_
          refine jx_ldc2 (pc := 57) d_R_heirDigest_57 lc_R_302 ?_
          refine jx_lload4 (pc := 60) d_R_heirDigest_60 ?_
          refine jx_lmul (pc := 62) d_R_heirDigest_62 ?_
          refine jx_aload0 (pc := 63) d_R_heirDigest_63 ?_
          refine jx_iconst (pc := 64) (v := 1) d_R_heirDigest_64 (by decide) ?_
          refine jx_bipush (pc := 65) (v := 29) d_R_heirDigest_65 (by decide) ?_
          refine jx_iload3 (pc := 67) d_R_heirDigest_67 ?_
          refine jx_callV3 (pc := 68) (d' := d + 4) vo_R_likingOf lk_R_182 d_R_heirDigest_68 ad_79 sh_79 rfl (by omega) (Nat.le_of_ble_eq_true rfl) ?_
          refine c_R_likingOf (dog := 1) (day := 29) hw (hS50.rep hR) (by omega) (by omega) (by omega) (fun M68 hx68 hr68 => ?_)
          have hS68 : ScrR M M68 := hS50.tr hx68
          refine jx_r1 ?_
          refine jx_i2l (pc := 71) d_R_heirDigest_71 ?_
          refine jx_ladd (pc := 72) d_R_heirDigest_72 ?_
          refine jx_lstore4 (pc := 73) d_R_heirDigest_73 rfl (Nat.le_of_ble_eq_true rfl) ?_
          refine jx_ldc2 (pc := 75) d_R_heirDigest_75 lc_R_302 ?_
          refine jx_lload4 (pc := 78) d_R_heirDigest_78 ?_
          refine jx_lmul (pc := 80) d_R_heirDigest_80 ?_
          refine jx_aload0 (pc := 81) d_R_heirDigest_81 ?_
          refine jx_iconst (pc := 82) (v := 5) d_R_heirDigest_82 (by decide) ?_
          refine jx_iload3 (pc := 83) d_R_heirDigest_83 ?_
          refine jx_iconst (pc := 84) (v := 0) d_R_heirDigest_84 (by decide) ?_
          refine jx_callV3 (pc := 85) (d' := d + 4) vo_R_shareOf lk_R_197 d_R_heirDigest_85 ad_79 sh_79 rfl (by omega) (Nat.le_of_ble_eq_true rfl) ?_
          refine c_R_shareOf (a := 5) hw (hS68.rep hR) (by omega) hi (fun M85 hx85 hr85 => ?_)
          have hS85 : ScrR M M85 := hS68.tr hx85
          refine jx_r1 ?_
          refine jx_ladd (pc := 88) d_R_heirDigest_88 ?_
          refine jx_lstore4 (pc := 89) d_R_heirDigest_89 rfl (Nat.le_of_ble_eq_true rfl) ?_
          refine jx_ldc2 (pc := 91) d_R_heirDigest_91 lc_R_302 ?_
          refine jx_lload4 (pc := 94) d_R_heirDigest_94 ?_
          refine jx_lmul (pc := 96) d_R_heirDigest_96 ?_
          refine jx_aload0 (pc := 97) d_R_heirDigest_97 ?_
          refine jx_iconst (pc := 98) (v := 5) d_R_heirDigest_98 (by decide) ?_
          refine jx_iload3 (pc := 99) d_R_heirDigest_99 ?_
          refine jx_iconst (pc := 100) (v := 1) d_R_heirDigest_100 (by decide) ?_
          refine jx_callV3 (pc := 101) (d' := d + 4) vo_R_shareOf lk_R_197 d_R_heirDigest_101 ad_79 sh_79 rfl (by omega) (Nat.le_of_ble_eq_true rfl) ?_
          refine c_R_shareOf (a := 5) hw (hS85.rep hR) (by omega) hi (fun M101 hx101 hr101 => ?_)
          have hS101 : ScrR M M101 := hS85.tr hx101
          refine jx_r1 ?_
          refine jx_ladd (pc := 104) d_R_heirDigest_104 ?_
          refine jx_lstore4 (pc := 105) d_R_heirDigest_105 rfl (Nat.le_of_ble_eq_true rfl) ?_
          refine jx_aload0 (pc := 107) d_R_heirDigest_107 ?_
          refine jx_iload3 (pc := 108) d_R_heirDigest_108 ?_
          refine jx_iconst (pc := 109) (v := 4) d_R_heirDigest_109 (by decide) ?_
          refine jx_iconst (pc := 110) (v := (-1)) d_R_heirDigest_110 (by decide) ?_
          refine jx_callV3 (pc := 111) (d' := d + 5) vo_R_suitOf lk_R_227 d_R_heirDigest_111 ad_79 sh_79 rfl (by omega) (Nat.le_of_ble_eq_true rfl) ?_
          refine c_R_suitOf (last := 4) hw (hS101.rep hR) hi (by omega) (by decide) (fun M111 hx111 hr111 hrow => ?_)
          have hS111 : ScrR M M111 := hS101.tr hx111
          refine jx_r1 ?_
          refine jx_istore6 (pc := 114) d_R_heirDigest_114 rfl (Nat.le_of_ble_eq_true rfl) ?_
          refine jx_ldc2 (pc := 116) d_R_heirDigest_116 lc_R_302 ?_
          refine jx_lload4 (pc := 119) d_R_heirDigest_119 ?_
          refine jx_lmul (pc := 121) d_R_heirDigest_121 ?_
          refine jx_iload6 (pc := 122) d_R_heirDigest_122 ?_
          refine jx_i2l (pc := 124) d_R_heirDigest_124 ?_
          refine jx_ladd (pc := 125) d_R_heirDigest_125 ?_
          refine jx_lstore4 (pc := 126) d_R_heirDigest_126 rfl (Nat.le_of_ble_eq_true rfl) ?_
          refine jx_ldc2 (pc := 128) d_R_heirDigest_128 lc_R_302 ?_
          refine jx_lload4 (pc := 131) d_R_heirDigest_131 ?_
          refine jx_lmul (pc := 133) d_R_heirDigest_133 ?_
          refine jx_iload6 (pc := 134) d_R_heirDigest_134 ?_
          refine jx_if_le (pc := 136) 148 d_R_heirDigest_136 (by decide) (fun c136 => absurd c136 hpos) (fun c136 => ?_)
          refine jx_aload0 (pc := 139) d_R_heirDigest_139 ?_
          refine jx_getR (pc := 140) gf_R_49 d_R_heirDigest_140 ad_79 sh_79 rfl ?_
          refine jx_iconst (pc := 143) (v := 0) d_R_heirDigest_143 (by decide) ?_
          refine jx_ialdK (pc := 144) 0 d_R_heirDigest_144 ad_93 sh_93 (by decide) (by unfold vp_in; decide) ?_
          refine jx_goto (pc := 145) 149 d_R_heirDigest_145 (by decide) ?_
          refine jx_i2l (pc := 149) d_R_heirDigest_149 ?_
          refine jx_ladd (pc := 150) d_R_heirDigest_150 ?_
          refine jx_lstore4 (pc := 151) d_R_heirDigest_151 rfl (Nat.le_of_ble_eq_true rfl) ?_
          refine jx_ldc2 (pc := 153) d_R_heirDigest_153 lc_R_302 ?_
          refine jx_lload4 (pc := 156) d_R_heirDigest_156 ?_
          refine jx_lmul (pc := 158) d_R_heirDigest_158 ?_
          refine jx_aload0 (pc := 159) d_R_heirDigest_159 ?_
          refine jx_iconst (pc := 160) (v := 4) d_R_heirDigest_160 (by decide) ?_
          refine jx_iload3 (pc := 161) d_R_heirDigest_161 ?_
          refine jx_iconst (pc := 162) (v := 5) d_R_heirDigest_162 (by decide) ?_
          refine jx_iconst (pc := 163) (v := 0) d_R_heirDigest_163 (by decide) ?_
          refine jx_callV4 (pc := 164) (d' := d + 4) vo_R_chanceOf lk_R_278 d_R_heirDigest_164 ad_79 sh_79 rfl (by omega) (Nat.le_of_ble_eq_true rfl) ?_
          refine c_R_chanceOf (c := 4) (last := 5) hw (hS111.rep hR) (by omega) hi (by omega) (fun M164 hx164 hr164 => ?_)
          have hS164 : ScrR M M164 := hS111.tr hx164
          refine jx_r1 ?_
          refine jx_ladd (pc := 167) d_R_heirDigest_167 ?_
          refine jx_lstore4 (pc := 168) d_R_heirDigest_168 rfl (Nat.le_of_ble_eq_true rfl) ?_
          refine jx_ldc2 (pc := 170) d_R_heirDigest_170 lc_R_302 ?_
          refine jx_lload4 (pc := 173) d_R_heirDigest_173 ?_
          refine jx_lmul (pc := 175) d_R_heirDigest_175 ?_
          refine jx_aload0 (pc := 176) d_R_heirDigest_176 ?_
          refine jx_iconst (pc := 177) (v := 4) d_R_heirDigest_177 (by decide) ?_
          refine jx_iload3 (pc := 178) d_R_heirDigest_178 ?_
          refine jx_iconst (pc := 179) (v := 5) d_R_heirDigest_179 (by decide) ?_
          refine jx_iconst (pc := 180) (v := 1) d_R_heirDigest_180 (by decide) ?_
          refine jx_callV4 (pc := 181) (d' := d + 4) vo_R_chanceOf lk_R_278 d_R_heirDigest_181 ad_79 sh_79 rfl (by omega) (Nat.le_of_ble_eq_true rfl) ?_
          refine c_R_chanceOf (c := 4) (last := 5) hw (hS164.rep hR) (by omega) hi (by omega) (fun M181 hx181 hr181 => ?_)
          have hS181 : ScrR M M181 := hS164.tr hx181
          refine jx_r1 ?_
          refine jx_ladd (pc := 184) d_R_heirDigest_184 ?_
          refine jx_lstore4 (pc := 185) d_R_heirDigest_185 rfl (Nat.le_of_ble_eq_true rfl) ?_
          refine jx_ldc2 (pc := 187) d_R_heirDigest_187 lc_R_302 ?_
          refine jx_lload4 (pc := 190) d_R_heirDigest_190 ?_
          refine jx_lmul (pc := 192) d_R_heirDigest_192 ?_
          refine jx_aload0 (pc := 193) d_R_heirDigest_193 ?_
          refine jx_bipush (pc := 194) (v := 7) d_R_heirDigest_194 (by decide) ?_
          refine jx_bipush (pc := 196) (v := 9) d_R_heirDigest_196 (by decide) ?_
          refine jx_iload3 (pc := 198) d_R_heirDigest_198 ?_
          refine jx_callV3 (pc := 199) (d' := d + 3) vo_R_weeksOf lk_R_286 d_R_heirDigest_199 ad_79 sh_79 rfl (by omega) (Nat.le_of_ble_eq_true rfl) ?_
          refine c_R_weeksOf (c := 9) hw (hS181.rep hR) (by omega) (by omega) hu (fun M199 hx199 hr199 => ?_)
          have hS199 : ScrR M M199 := hS181.tr hx199
          refine jx_r1 ?_
          refine jx_i2l (pc := 202) d_R_heirDigest_202 ?_
          refine jx_ladd (pc := 203) d_R_heirDigest_203 ?_
          refine jx_lret (pc := 204) hX rfl d_R_heirDigest_204 ?_
          rotate_left
          rw [hrow r hB 0 hr0, hB]
          exact kk M199 hS199 hr199
        · have hle : suN (suB s i 4) (-1) ≤ 0 := by rw [hB, suN_s, if_pos rfl]; exact nI_le (b := 0) (by omega) (by omega)
          have hv0 : suN (some r) 0 = -1 := by rw [suN_s, if_neg (by decide), if_neg (show ¬ (0 : Int32) < nI r.length from nI_nlt (a := 0) (by omega) (by omega))]
          rw [hv0] at kk
          refine jx_iload6 (pc := 6) d_R_heirDigest_6 ?_
          refine jx_iconst (pc := 8) (v := 3) d_R_heirDigest_8 (by decide) ?_
          refine jx_icmp_ge (pc := 9) 39 d_R_heirDigest_9 (by decide) (fun c9 => ?_) (fun c9 => absurd c9 (fun z => z (show nI 3 ≤ nI 3 from Int32.le_refl _)))
          refine jx_ldc2 (pc := 39) d_R_heirDigest_39 lc_R_302 ?_
          refine jx_lload4 (pc := 42) d_R_heirDigest_42 ?_
          refine jx_lmul (pc := 44) d_R_heirDigest_44 ?_
          refine jx_aload0 (pc := 45) d_R_heirDigest_45 ?_
          refine jx_iconst (pc := 46) (v := 0) d_R_heirDigest_46 (by decide) ?_
          refine jx_bipush (pc := 47) (v := 9) d_R_heirDigest_47 (by decide) ?_
          refine jx_iload3 (pc := 49) d_R_heirDigest_49 ?_
          refine jx_callV3 (pc := 50) (d' := d + 4) vo_R_likingOf lk_R_182 d_R_heirDigest_50 ad_79 sh_79 rfl (by omega) (Nat.le_of_ble_eq_true rfl) ?_
          refine c_R_likingOf (dog := 0) (day := 9) hw ((ScrR.rf (M := M)).rep hR) (by omega) (by omega) (by omega) (fun M50 hx50 hr50 => ?_)
          have hS50 : ScrR M M50 := (ScrR.rf (M := M)).tr hx50
          refine jx_r1 ?_
          refine jx_i2l (pc := 53) d_R_heirDigest_53 ?_
          refine jx_ladd (pc := 54) d_R_heirDigest_54 ?_
          refine jx_lstore4 (pc := 55) d_R_heirDigest_55 rfl (Nat.le_of_ble_eq_true rfl) ?_
          refine jx_ldc2 (pc := 57) d_R_heirDigest_57 lc_R_302 ?_
          refine jx_lload4 (pc := 60) d_R_heirDigest_60 ?_
          refine jx_lmul (pc := 62) d_R_heirDigest_62 ?_
          refine jx_aload0 (pc := 63) d_R_heirDigest_63 ?_
          refine jx_iconst (pc := 64) (v := 1) d_R_heirDigest_64 (by decide) ?_
          refine jx_bipush (pc := 65) (v := 29) d_R_heirDigest_65 (by decide) ?_
          refine jx_iload3 (pc := 67) d_R_heirDigest_67 ?_
          refine jx_callV3 (pc := 68) (d' := d + 4) vo_R_likingOf lk_R_182 d_R_heirDigest_68 ad_79 sh_79 rfl (by omega) (Nat.le_of_ble_eq_true rfl) ?_
          refine c_R_likingOf (dog := 1) (day := 29) hw (hS50.rep hR) (by omega) (by omega) (by omega) (fun M68 hx68 hr68 => ?_)
          have hS68 : ScrR M M68 := hS50.tr hx68
          refine jx_r1 ?_
          refine jx_i2l (pc := 71) d_R_heirDigest_71 ?_
          refine jx_ladd (pc := 72) d_R_heirDigest_72 ?_
          refine jx_lstore4 (pc := 73) d_R_heirDigest_73 rfl (Nat.le_of_ble_eq_true rfl) ?_
          refine jx_ldc2 (pc := 75) d_R_heirDigest_75 lc_R_302 ?_
          refine jx_lload4 (pc := 78) d_R_heirDigest_78 ?_
          refine jx_lmul (pc := 80) d_R_heirDigest_80 ?_
          refine jx_aload0 (pc := 81) d_R_heirDigest_81 ?_
          refine jx_iconst (pc := 82) (v := 5) d_R_heirDigest_82 (by decide) ?_
          refine jx_iload3 (pc := 83) d_R_heirDigest_83 ?_
          refine jx_iconst (pc := 84) (v := 0) d_R_heirDigest_84 (by decide) ?_
          refine jx_callV3 (pc := 85) (d' := d + 4) vo_R_shareOf lk_R_197 d_R_heirDigest_85 ad_79 sh_79 rfl (by omega) (Nat.le_of_ble_eq_true rfl) ?_
          refine c_R_shareOf (a := 5) hw (hS68.rep hR) (by omega) hi (fun M85 hx85 hr85 => ?_)
          have hS85 : ScrR M M85 := hS68.tr hx85
          refine jx_r1 ?_
          refine jx_ladd (pc := 88) d_R_heirDigest_88 ?_
          refine jx_lstore4 (pc := 89) d_R_heirDigest_89 rfl (Nat.le_of_ble_eq_true rfl) ?_
          refine jx_ldc2 (pc := 91) d_R_heirDigest_91 lc_R_302 ?_
          refine jx_lload4 (pc := 94) d_R_heirDigest_94 ?_
          refine jx_lmul (pc := 96) d_R_heirDigest_96 ?_
          refine jx_aload0 (pc := 97) d_R_heirDigest_97 ?_
          refine jx_iconst (pc := 98) (v := 5) d_R_heirDigest_98 (by decide) ?_
          refine jx_iload3 (pc := 99) d_R_heirDigest_99 ?_
          refine jx_iconst (pc := 100) (v := 1) d_R_heirDigest_100 (by decide) ?_
          refine jx_callV3 (pc := 101) (d' := d + 4) vo_R_shareOf lk_R_197 d_R_heirDigest_101 ad_79 sh_79 rfl (by omega) (Nat.le_of_ble_eq_true rfl) ?_
          refine c_R_shareOf (a := 5) hw (hS85.rep hR) (by omega) hi (fun M101 hx101 hr101 => ?_)
          have hS101 : ScrR M M101 := hS85.tr hx101
          refine jx_r1 ?_
          refine jx_ladd (pc := 104) d_R_heirDigest_104 ?_
          refine jx_lstore4 (pc := 105) d_R_heirDigest_105 rfl (Nat.le_of_ble_eq_true rfl) ?_
          refine jx_aload0 (pc := 107) d_R_heirDigest_107 ?_
          refine jx_iload3 (pc := 108) d_R_heirDigest_108 ?_
          refine jx_iconst (pc := 109) (v := 4) d_R_heirDigest_109 (by decide) ?_
          refine jx_iconst (pc := 110) (v := (-1)) d_R_heirDigest_110 (by decide) ?_
          refine jx_callV3 (pc := 111) (d' := d + 5) vo_R_suitOf lk_R_227 d_R_heirDigest_111 ad_79 sh_79 rfl (by omega) (Nat.le_of_ble_eq_true rfl) ?_
          refine c_R_suitOf (last := 4) hw (hS101.rep hR) hi (by omega) (by decide) (fun M111 hx111 hr111 hrow => ?_)
          have hS111 : ScrR M M111 := hS101.tr hx111
          refine jx_r1 ?_
          refine jx_istore6 (pc := 114) d_R_heirDigest_114 rfl (Nat.le_of_ble_eq_true rfl) ?_
          refine jx_ldc2 (pc := 116) d_R_heirDigest_116 lc_R_302 ?_
          refine jx_lload4 (pc := 119) d_R_heirDigest_119 ?_
          refine jx_lmul (pc := 121) d_R_heirDigest_121 ?_
          refine jx_iload6 (pc := 122) d_R_heirDigest_122 ?_
          refine jx_i2l (pc := 124) d_R_heirDigest_124 ?_
          refine jx_ladd (pc := 125) d_R_heirDigest_125 ?_
          refine jx_lstore4 (pc := 126) d_R_heirDigest_126 rfl (Nat.le_of_ble_eq_true rfl) ?_
          refine jx_ldc2 (pc := 128) d_R_heirDigest_128 lc_R_302 ?_
          refine jx_lload4 (pc := 131) d_R_heirDigest_131 ?_
          refine jx_lmul (pc := 133) d_R_heirDigest_133 ?_
          refine jx_iload6 (pc := 134) d_R_heirDigest_134 ?_
          refine jx_if_le (pc := 136) 148 d_R_heirDigest_136 (by decide) (fun c136 => ?_) (fun c136 => absurd c136 (fun z => z hle))
          refine jx_iconst (pc := 148) (v := (-1)) d_R_heirDigest_148 (by decide) ?_
          refine jx_i2l (pc := 149) d_R_heirDigest_149 ?_
          refine jx_ladd (pc := 150) d_R_heirDigest_150 ?_
          refine jx_lstore4 (pc := 151) d_R_heirDigest_151 rfl (Nat.le_of_ble_eq_true rfl) ?_
          refine jx_ldc2 (pc := 153) d_R_heirDigest_153 lc_R_302 ?_
          refine jx_lload4 (pc := 156) d_R_heirDigest_156 ?_
          refine jx_lmul (pc := 158) d_R_heirDigest_158 ?_
          refine jx_aload0 (pc := 159) d_R_heirDigest_159 ?_
          refine jx_iconst (pc := 160) (v := 4) d_R_heirDigest_160 (by decide) ?_
          refine jx_iload3 (pc := 161) d_R_heirDigest_161 ?_
          refine jx_iconst (pc := 162) (v := 5) d_R_heirDigest_162 (by decide) ?_
          refine jx_iconst (pc := 163) (v := 0) d_R_heirDigest_163 (by decide) ?_
          refine jx_callV4 (pc := 164) (d' := d + 4) vo_R_chanceOf lk_R_278 d_R_heirDigest_164 ad_79 sh_79 rfl (by omega) (Nat.le_of_ble_eq_true rfl) ?_
          refine c_R_chanceOf (c := 4) (last := 5) hw (hS111.rep hR) (by omega) hi (by omega) (fun M164 hx164 hr164 => ?_)
          have hS164 : ScrR M M164 := hS111.tr hx164
          refine jx_r1 ?_
          refine jx_ladd (pc := 167) d_R_heirDigest_167 ?_
          refine jx_lstore4 (pc := 168) d_R_heirDigest_168 rfl (Nat.le_of_ble_eq_true rfl) ?_
          refine jx_ldc2 (pc := 170) d_R_heirDigest_170 lc_R_302 ?_
          refine jx_lload4 (pc := 173) d_R_heirDigest_173 ?_
          refine jx_lmul (pc := 175) d_R_heirDigest_175 ?_
          refine jx_aload0 (pc := 176) d_R_heirDigest_176 ?_
          refine jx_iconst (pc := 177) (v := 4) d_R_heirDigest_177 (by decide) ?_
          refine jx_iload3 (pc := 178) d_R_heirDigest_178 ?_
          refine jx_iconst (pc := 179) (v := 5) d_R_heirDigest_179 (by decide) ?_
          refine jx_iconst (pc := 180) (v := 1) d_R_heirDigest_180 (by decide) ?_
          refine jx_callV4 (pc := 181) (d' := d + 4) vo_R_chanceOf lk_R_278 d_R_heirDigest_181 ad_79 sh_79 rfl (by omega) (Nat.le_of_ble_eq_true rfl) ?_
          refine c_R_chanceOf (c := 4) (last := 5) hw (hS164.rep hR) (by omega) hi (by omega) (fun M181 hx181 hr181 => ?_)
          have hS181 : ScrR M M181 := hS164.tr hx181
          refine jx_r1 ?_
          refine jx_ladd (pc := 184) d_R_heirDigest_184 ?_
          refine jx_lstore4 (pc := 185) d_R_heirDigest_185 rfl (Nat.le_of_ble_eq_true rfl) ?_
          refine jx_ldc2 (pc := 187) d_R_heirDigest_187 lc_R_302 ?_
          refine jx_lload4 (pc := 190) d_R_heirDigest_190 ?_
          refine jx_lmul (pc := 192) d_R_heirDigest_192 ?_
          refine jx_aload0 (pc := 193) d_R_heirDigest_193 ?_
          refine jx_bipush (pc := 194) (v := 7) d_R_heirDigest_194 (by decide) ?_
          refine jx_bipush (pc := 196) (v := 9) d_R_heirDigest_196 (by decide) ?_
          refine jx_iload3 (pc := 198) d_R_heirDigest_198 ?_
          refine jx_callV3 (pc := 199) (d' := d + 3) vo_R_weeksOf lk_R_286 d_R_heirDigest_199 ad_79 sh_79 rfl (by omega) (Nat.le_of_ble_eq_true rfl) ?_
          refine c_R_weeksOf (c := 9) hw (hS181.rep hR) (by omega) (by omega) hu (fun M199 hx199 hr199 => ?_)
          have hS199 : ScrR M M199 := hS181.tr hx199
          refine jx_r1 ?_
          refine jx_i2l (pc := 202) d_R_heirDigest_202 ?_
          refine jx_ladd (pc := 203) d_R_heirDigest_203 ?_
          refine jx_lret (pc := 204) hX rfl d_R_heirDigest_204 ?_
          rotate_left
          rw [hB]
          exact kk M199 hS199 hr199
    | succ q ih =>
      intro t ht
      have e1 : (3 : Int32) * nI i + nI t = nI (3 * i + t) := by rw [show (3 : Int32) = nI 3 from rfl, nI_mul, nI_add]
      have nx := ih (t + 1) (by omega)
      rw [dgG, v_good hw hi (show t < 3 by omega), ← hr.2 i t hi (by omega)] at nx
      refine jx_iload6 (pc := 6) d_R_heirDigest_6 ?_
      refine jx_iconst (pc := 8) (v := 3) d_R_heirDigest_8 (by decide) ?_
      refine jx_icmp_ge (pc := 9) 39 d_R_heirDigest_9 (by decide) (fun c9 => absurd c9 (show ¬ nI 3 ≤ nI t from nI_ge (by omega) (by omega))) (fun c9 => ?_)
      refine jx_ldc2 (pc := 12) d_R_heirDigest_12 lc_R_302 ?_
      refine jx_lload4 (pc := 15) d_R_heirDigest_15 ?_
      refine jx_lmul (pc := 17) d_R_heirDigest_17 ?_
      refine jx_aload0 (pc := 18) d_R_heirDigest_18 ?_
      refine jx_getR (pc := 19) gf_R_13 d_R_heirDigest_19 ad_79 sh_79 rfl ?_
      refine jx_iconst (pc := 22) (v := 3) d_R_heirDigest_22 (by decide) ?_
      refine jx_iload3 (pc := 23) d_R_heirDigest_23 ?_
      refine jx_imul (pc := 24) d_R_heirDigest_24 ?_
      refine jx_iload6 (pc := 25) d_R_heirDigest_25 ?_
      refine jx_iadd (pc := 27) d_R_heirDigest_27 ?_
      refine jx_iald (pc := 28) d_R_heirDigest_28 ad_81 sh_81 (by rw [e1]; exact vp_in_nI (by omega) (by omega)) ?_
      refine jx_i2l (pc := 29) d_R_heirDigest_29 ?_
      refine jx_ladd (pc := 30) d_R_heirDigest_30 ?_
      refine jx_lstore4 (pc := 31) d_R_heirDigest_31 rfl (Nat.le_of_ble_eq_true rfl) ?_
      refine jx_iinc6 (pc := 33) d_R_heirDigest_33 rfl (Nat.le_of_ble_eq_true rfl) ?_
      refine jx_goto (pc := 36) 6 d_R_heirDigest_36 (by decide) ?_
      rotate_left
      rw [nI_add1, e1, nI_cl (n := 3 * i + t) (by omega)]
      exact nx
  refine jx_lload1 (pc := 0) d_R_heirDigest_0 ?_
  refine jx_lstore4 (pc := 1) d_R_heirDigest_1 rfl (Nat.le_of_ble_eq_true rfl) ?_
  refine jx_iconst (pc := 3) (v := 0) d_R_heirDigest_3 (by decide) ?_
  refine jx_istore6 (pc := 4) d_R_heirDigest_4 rfl (Nat.le_of_ble_eq_true rfl) ?_
  rotate_left
  exact goods 3 0 (by omega)
theorem c_R_dayDigest {d a : Nat} {h : Int64} {s : Sg} {M : j_M} {Q : Option Value → j_M → Prop} (hw : WF s) (hR : RepR s M) (ha : a < 30) (k : ∀ M', ScrR M M' → RdR s M' → Q (some (.long (dgD s (nI a) h))) M') : j_Ct (d + 5) I_R_dayDigest [.ref 79, .long h, .int (nI a)] M Q := by
  refine j_met (by decide +kernel) co_R_dayDigest (Nat.le_of_ble_eq_true rfl) (fun X hX => ?_)
  show j_W (d + 5) I_R_dayDigest X 0 [some (.ref 79), some (.long h), none, some (.int (nI a)), none, none] [] M
  unfold dgD at k
  rw [show r_found s 0 (nI a) = em (fdD s 0 a) from v_fou (a := 0) (by omega) ha, show r_found s 1 (nI a) = em (fdD s 1 a) from v_fou (a := 1) (by omega) ha] at k
  refine jx_ldc2 (pc := 0) d_R_dayDigest_0 lc_R_302 ?_
  refine jx_lload1 (pc := 3) d_R_dayDigest_3 ?_
  refine jx_lmul (pc := 4) d_R_dayDigest_4 ?_
  refine jx_aload0 (pc := 5) d_R_dayDigest_5 ?_
  refine jx_iconst (pc := 6) (v := 0) d_R_dayDigest_6 (by decide) ?_
  refine jx_iload3 (pc := 7) d_R_dayDigest_7 ?_
  refine jx_callV2 (pc := 8) (d' := d + 4) vo_R_foundOf lk_R_185 d_R_dayDigest_8 ad_79 sh_79 rfl (by omega) (Nat.le_of_ble_eq_true rfl) ?_
  refine c_R_foundOf (dog := 0) hw ((ScrR.rf (M := M)).rep hR) (by omega) ha (fun M8 hx8 hr8 => ?_)
  have hS8 : ScrR M M8 := (ScrR.rf (M := M)).tr hx8
  refine jx_r1 ?_
  refine jx_i2l (pc := 11) d_R_dayDigest_11 ?_
  refine jx_ladd (pc := 12) d_R_dayDigest_12 ?_
  refine jx_lstore4 (pc := 13) d_R_dayDigest_13 rfl (Nat.le_of_ble_eq_true rfl) ?_
  refine jx_ldc2 (pc := 15) d_R_dayDigest_15 lc_R_302 ?_
  refine jx_lload4 (pc := 18) d_R_dayDigest_18 ?_
  refine jx_lmul (pc := 20) d_R_dayDigest_20 ?_
  refine jx_aload0 (pc := 21) d_R_dayDigest_21 ?_
  refine jx_iconst (pc := 22) (v := 1) d_R_dayDigest_22 (by decide) ?_
  refine jx_iload3 (pc := 23) d_R_dayDigest_23 ?_
  refine jx_callV2 (pc := 24) (d' := d + 4) vo_R_foundOf lk_R_185 d_R_dayDigest_24 ad_79 sh_79 rfl (by omega) (Nat.le_of_ble_eq_true rfl) ?_
  refine c_R_foundOf (dog := 1) hw (hS8.rep hR) (by omega) ha (fun M24 hx24 hr24 => ?_)
  have hS24 : ScrR M M24 := hS8.tr hx24
  refine jx_r1 ?_
  refine jx_i2l (pc := 27) d_R_dayDigest_27 ?_
  refine jx_ladd (pc := 28) d_R_dayDigest_28 ?_
  refine jx_lret (pc := 29) hX rfl d_R_dayDigest_29 ?_
  rotate_left
  exact k M24 hS24 hr24
theorem c_R_digest {d : Nat} {s : Sg} {M : j_M} {Q : Option Value → j_M → Prop} (hw : WF s) (hR : RepR s M) (k : ∀ M', ScrR M M' → Q (some (.long (r_digest s))) M') : j_Ct (d + 7) I_R_digest [.ref 79] M Q := by
  refine j_met (by decide +kernel) co_R_digest (Nat.le_of_ble_eq_true rfl) (fun X hX => ?_)
  show j_W (d + 7) I_R_digest X 0 [some (.ref 79), none, none, none] [] M
  have hn6 : g_hn s ≤ 6 := hnB_le hw.1
  have tail : ∀ (h : Int64) (M1 : j_M) (e3 : Option Value), ScrR M M1 → (∀ M', ScrR M M' → Q (some (.long ((dgT s).foldl mixL (dgDs s h 4)))) M') → j_W (d + 7) I_R_digest X 66 [some (.ref 79), some (.long h), none, e3] [] M1 := by
    intro h M1 e3 hS kk
    have hu := v_une (s := s) (h := -1) hw (Or.inl rfl)
    unfold dgT at kk
    simp only [List.foldl_cons, List.foldl_nil] at kk
    rw [v_wee (s := s) (h := -1) (Or.inl rfl)] at kk
    have e30 : r_tastes s 0 = nI (tcnt s 1000) := by unfold r_tastes; rw [if_pos (by decide), if_pos rfl]
    have e31 : r_tastes s 1 = if tfst s 1000 = 9999 then -1 else nI (tfst s 1000) := by unfold r_tastes; rw [if_pos (by decide), if_neg (by decide)]
    rw [e30, e31] at kk
    refine jx_aload0 (pc := 66) d_R_digest_66 ?_
    refine jx_lload1 (pc := 67) d_R_digest_67 ?_
    refine jx_iconst (pc := 68) (v := 0) d_R_digest_68 (by decide) ?_
    refine jx_callV2 (pc := 69) (d' := d + 5) vo_R_dayDigest lk_R_313 d_R_digest_69 ad_79 sh_79 rfl (by omega) (Nat.le_of_ble_eq_true rfl) ?_
    refine c_R_dayDigest (a := 0) hw (hS.rep hR) (by omega) (fun M69 hx69 hr69 => ?_)
    have hS69 : ScrR M M69 := hS.tr hx69
    refine jx_r1 ?_
    refine jx_lstore1 (pc := 72) d_R_digest_72 rfl (Nat.le_of_ble_eq_true rfl) ?_
    refine jx_aload0 (pc := 73) d_R_digest_73 ?_
    refine jx_lload1 (pc := 74) d_R_digest_74 ?_
    refine jx_iconst (pc := 75) (v := 1) d_R_digest_75 (by decide) ?_
    refine jx_callV2 (pc := 76) (d' := d + 5) vo_R_dayDigest lk_R_313 d_R_digest_76 ad_79 sh_79 rfl (by omega) (Nat.le_of_ble_eq_true rfl) ?_
    refine c_R_dayDigest (a := 1) hw (hS69.rep hR) (by omega) (fun M76 hx76 hr76 => ?_)
    have hS76 : ScrR M M76 := hS69.tr hx76
    refine jx_r1 ?_
    refine jx_lstore1 (pc := 79) d_R_digest_79 rfl (Nat.le_of_ble_eq_true rfl) ?_
    refine jx_aload0 (pc := 80) d_R_digest_80 ?_
    refine jx_lload1 (pc := 81) d_R_digest_81 ?_
    refine jx_bipush (pc := 82) (v := 9) d_R_digest_82 (by decide) ?_
    refine jx_callV2 (pc := 84) (d' := d + 5) vo_R_dayDigest lk_R_313 d_R_digest_84 ad_79 sh_79 rfl (by omega) (Nat.le_of_ble_eq_true rfl) ?_
    refine c_R_dayDigest (a := 9) hw (hS76.rep hR) (by omega) (fun M84 hx84 hr84 => ?_)
    have hS84 : ScrR M M84 := hS76.tr hx84
    refine jx_r1 ?_
    refine jx_lstore1 (pc := 87) d_R_digest_87 rfl (Nat.le_of_ble_eq_true rfl) ?_
    refine jx_aload0 (pc := 88) d_R_digest_88 ?_
    refine jx_lload1 (pc := 89) d_R_digest_89 ?_
    refine jx_bipush (pc := 90) (v := 29) d_R_digest_90 (by decide) ?_
    refine jx_callV2 (pc := 92) (d' := d + 5) vo_R_dayDigest lk_R_313 d_R_digest_92 ad_79 sh_79 rfl (by omega) (Nat.le_of_ble_eq_true rfl) ?_
    refine c_R_dayDigest (a := 29) hw (hS84.rep hR) (by omega) (fun M92 hx92 hr92 => ?_)
    have hS92 : ScrR M M92 := hS84.tr hx92
    refine jx_r1 ?_
    refine jx_lstore1 (pc := 95) d_R_digest_95 rfl (Nat.le_of_ble_eq_true rfl) ?_
    refine jx_ldc2 (pc := 96) d_R_digest_96 lc_R_302 ?_
    refine jx_lload1 (pc := 99) d_R_digest_99 ?_
    refine jx_lmul (pc := 100) d_R_digest_100 ?_
    refine jx_aload0 (pc := 101) d_R_digest_101 ?_
    refine jx_iconst (pc := 102) (v := 0) d_R_digest_102 (by decide) ?_
    refine jx_callV1 (pc := 103) (d' := d + 4) vo_R_quarrelOf lk_R_207 d_R_digest_103 ad_79 sh_79 rfl (by omega) (Nat.le_of_ble_eq_true rfl) ?_
    refine c_R_quarrelOf (w := 0) hw (hS92.rep hR) (by omega) (fun M103 hx103 hr103 => ?_)
    have hS103 : ScrR M M103 := hS92.tr hx103
    refine jx_r1 ?_
    refine jx_i2l (pc := 106) d_R_digest_106 ?_
    refine jx_ladd (pc := 107) d_R_digest_107 ?_
    refine jx_lstore1 (pc := 108) d_R_digest_108 rfl (Nat.le_of_ble_eq_true rfl) ?_
    refine jx_ldc2 (pc := 109) d_R_digest_109 lc_R_302 ?_
    refine jx_lload1 (pc := 112) d_R_digest_112 ?_
    refine jx_lmul (pc := 113) d_R_digest_113 ?_
    refine jx_aload0 (pc := 114) d_R_digest_114 ?_
    refine jx_iconst (pc := 115) (v := 1) d_R_digest_115 (by decide) ?_
    refine jx_callV1 (pc := 116) (d' := d + 4) vo_R_quarrelOf lk_R_207 d_R_digest_116 ad_79 sh_79 rfl (by omega) (Nat.le_of_ble_eq_true rfl) ?_
    refine c_R_quarrelOf (w := 1) hw (hS103.rep hR) (by omega) (fun M116 hx116 hr116 => ?_)
    have hS116 : ScrR M M116 := hS103.tr hx116
    refine jx_r1 ?_
    refine jx_i2l (pc := 119) d_R_digest_119 ?_
    refine jx_ladd (pc := 120) d_R_digest_120 ?_
    refine jx_lstore1 (pc := 121) d_R_digest_121 rfl (Nat.le_of_ble_eq_true rfl) ?_
    refine jx_ldc2 (pc := 122) d_R_digest_122 lc_R_302 ?_
    refine jx_lload1 (pc := 125) d_R_digest_125 ?_
    refine jx_lmul (pc := 126) d_R_digest_126 ?_
    refine jx_aload0 (pc := 127) d_R_digest_127 ?_
    refine jx_callV0 (pc := 128) (d' := d + 4) vo_R_dissentNow lk_R_210 d_R_digest_128 ad_79 sh_79 rfl (by omega) (Nat.le_of_ble_eq_true rfl) ?_
    refine c_R_dissentNow hw (hS116.rep hR) (fun M128 hx128 hr128 => ?_)
    have hS128 : ScrR M M128 := hS116.tr hx128
    refine jx_r1 ?_
    refine jx_i2l (pc := 131) d_R_digest_131 ?_
    refine jx_ladd (pc := 132) d_R_digest_132 ?_
    refine jx_lstore1 (pc := 133) d_R_digest_133 rfl (Nat.le_of_ble_eq_true rfl) ?_
    refine jx_ldc2 (pc := 134) d_R_digest_134 lc_R_302 ?_
    refine jx_lload1 (pc := 137) d_R_digest_137 ?_
    refine jx_lmul (pc := 138) d_R_digest_138 ?_
    refine jx_aload0 (pc := 139) d_R_digest_139 ?_
    refine jx_callV0 (pc := 140) (d' := d + 4) vo_R_changesNow lk_R_213 d_R_digest_140 ad_79 sh_79 rfl (by omega) (Nat.le_of_ble_eq_true rfl) ?_
    refine c_R_changesNow hw (hS128.rep hR) (fun M140 hx140 hr140 => ?_)
    have hS140 : ScrR M M140 := hS128.tr hx140
    refine jx_r1 ?_
    refine jx_i2l (pc := 143) d_R_digest_143 ?_
    refine jx_ladd (pc := 144) d_R_digest_144 ?_
    refine jx_lstore1 (pc := 145) d_R_digest_145 rfl (Nat.le_of_ble_eq_true rfl) ?_
    refine jx_ldc2 (pc := 146) d_R_digest_146 lc_R_302 ?_
    refine jx_lload1 (pc := 149) d_R_digest_149 ?_
    refine jx_lmul (pc := 150) d_R_digest_150 ?_
    refine jx_aload0 (pc := 151) d_R_digest_151 ?_
    refine jx_iconst (pc := 152) (v := 0) d_R_digest_152 (by decide) ?_
    refine jx_iconst (pc := 153) (v := 1) d_R_digest_153 (by decide) ?_
    refine jx_iconst (pc := 154) (v := 3) d_R_digest_154 (by decide) ?_
    refine jx_iconst (pc := 155) (v := 0) d_R_digest_155 (by decide) ?_
    refine jx_callV4 (pc := 156) (d' := d + 5) vo_R_replies lk_R_316 d_R_digest_156 ad_79 sh_79 rfl (by omega) (Nat.le_of_ble_eq_true rfl) ?_
    refine c_R_replies hw (hS140.rep hR) (fun M156 hx156  => ?_)
    have hS156 : ScrR M M156 := hS140.tr hx156
    refine jx_r1 ?_
    refine jx_i2l (pc := 159) d_R_digest_159 ?_
    refine jx_ladd (pc := 160) d_R_digest_160 ?_
    refine jx_lstore1 (pc := 161) d_R_digest_161 rfl (Nat.le_of_ble_eq_true rfl) ?_
    refine jx_ldc2 (pc := 162) d_R_digest_162 lc_R_302 ?_
    refine jx_lload1 (pc := 165) d_R_digest_165 ?_
    refine jx_lmul (pc := 166) d_R_digest_166 ?_
    refine jx_aload0 (pc := 167) d_R_digest_167 ?_
    refine jx_iconst (pc := 168) (v := 0) d_R_digest_168 (by decide) ?_
    refine jx_iconst (pc := 169) (v := 1) d_R_digest_169 (by decide) ?_
    refine jx_iconst (pc := 170) (v := 3) d_R_digest_170 (by decide) ?_
    refine jx_iconst (pc := 171) (v := 1) d_R_digest_171 (by decide) ?_
    refine jx_callV4 (pc := 172) (d' := d + 5) vo_R_replies lk_R_316 d_R_digest_172 ad_79 sh_79 rfl (by omega) (Nat.le_of_ble_eq_true rfl) ?_
    refine c_R_replies hw (hS156.rep hR) (fun M172 hx172  => ?_)
    have hS172 : ScrR M M172 := hS156.tr hx172
    refine jx_r1 ?_
    refine jx_i2l (pc := 175) d_R_digest_175 ?_
    refine jx_ladd (pc := 176) d_R_digest_176 ?_
    refine jx_lstore1 (pc := 177) d_R_digest_177 rfl (Nat.le_of_ble_eq_true rfl) ?_
    refine jx_aload0 (pc := 178) d_R_digest_178 ?_
    refine jx_callV0 (pc := 179) (d' := d + 3) vo_R_laysFits lk_R_260 d_R_digest_179 ad_79 sh_79 rfl (by omega) (Nat.le_of_ble_eq_true rfl) ?_
    refine c_R_laysFits hw (hS172.rep hR) (fun M179 hx179 hr179 h97 h32 h33 => ?_)
    have hS179 : ScrR M M179 := hS172.tr hx179
    rw [← h32, ← h33] at kk
    refine jx_r0 ?_
    refine jx_ldc2 (pc := 182) d_R_digest_182 lc_R_302 ?_
    refine jx_lload1 (pc := 185) d_R_digest_185 ?_
    refine jx_lmul (pc := 186) d_R_digest_186 ?_
    refine jx_aload0 (pc := 187) d_R_digest_187 ?_
    refine jx_getI (pc := 188) gf_R_243 d_R_digest_188 ad_79 sh_79 rfl ?_
    refine jx_i2l (pc := 191) d_R_digest_191 ?_
    refine jx_ladd (pc := 192) d_R_digest_192 ?_
    refine jx_lstore1 (pc := 193) d_R_digest_193 rfl (Nat.le_of_ble_eq_true rfl) ?_
    refine jx_ldc2 (pc := 194) d_R_digest_194 lc_R_302 ?_
    refine jx_lload1 (pc := 197) d_R_digest_197 ?_
    refine jx_lmul (pc := 198) d_R_digest_198 ?_
    refine jx_aload0 (pc := 199) d_R_digest_199 ?_
    refine jx_getI (pc := 200) gf_R_246 d_R_digest_200 ad_79 sh_79 rfl ?_
    refine jx_i2l (pc := 203) d_R_digest_203 ?_
    refine jx_ladd (pc := 204) d_R_digest_204 ?_
    refine jx_lstore1 (pc := 205) d_R_digest_205 rfl (Nat.le_of_ble_eq_true rfl) ?_
    refine jx_ldc2 (pc := 206) d_R_digest_206 lc_R_302 ?_
    refine jx_lload1 (pc := 209) d_R_digest_209 ?_
    refine jx_lmul (pc := 210) d_R_digest_210 ?_
    refine jx_aload0 (pc := 211) d_R_digest_211 ?_
    refine jx_iconst (pc := 212) (v := 3) d_R_digest_212 (by decide) ?_
    refine jx_iconst (pc := 213) (v := 0) d_R_digest_213 (by decide) ?_
    refine jx_callV2 (pc := 214) (d' := d + 5) vo_R_tells lk_R_319 d_R_digest_214 ad_79 sh_79 rfl (by omega) (Nat.le_of_ble_eq_true rfl) ?_
    refine c_R_tells hw (hS179.rep hR) (fun M214 hx214 => ?_)
    have hS214 : ScrR M M214 := hS179.tr hx214
    refine jx_r1 ?_
    refine jx_i2l (pc := 217) d_R_digest_217 ?_
    refine jx_ladd (pc := 218) d_R_digest_218 ?_
    refine jx_lstore1 (pc := 219) d_R_digest_219 rfl (Nat.le_of_ble_eq_true rfl) ?_
    refine jx_ldc2 (pc := 220) d_R_digest_220 lc_R_302 ?_
    refine jx_lload1 (pc := 223) d_R_digest_223 ?_
    refine jx_lmul (pc := 224) d_R_digest_224 ?_
    refine jx_aload0 (pc := 225) d_R_digest_225 ?_
    refine jx_callV0 (pc := 226) (d' := d + 3) vo_R_trainerNow lk_R_269 d_R_digest_226 ad_79 sh_79 rfl (by omega) (Nat.le_of_ble_eq_true rfl) ?_
    refine c_R_trainerNow hw (hS214.rep hR) (fun M226 hx226 => ?_)
    have hS226 : ScrR M M226 := hS214.tr hx226
    refine jx_r1 ?_
    refine jx_i2l (pc := 229) d_R_digest_229 ?_
    refine jx_ladd (pc := 230) d_R_digest_230 ?_
    refine jx_lstore1 (pc := 231) d_R_digest_231 rfl (Nat.le_of_ble_eq_true rfl) ?_
    refine jx_ldc2 (pc := 232) d_R_digest_232 lc_R_302 ?_
    refine jx_lload1 (pc := 235) d_R_digest_235 ?_
    refine jx_lmul (pc := 236) d_R_digest_236 ?_
    refine jx_aload0 (pc := 237) d_R_digest_237 ?_
    refine jx_iconst (pc := 238) (v := 4) d_R_digest_238 (by decide) ?_
    refine jx_iconst (pc := 239) (v := 0) d_R_digest_239 (by decide) ?_
    refine jx_iconst (pc := 240) (v := 0) d_R_digest_240 (by decide) ?_
    refine jx_iconst (pc := 241) (v := 4) d_R_digest_241 (by decide) ?_
    refine jx_callV4 (pc := 242) (d' := d + 5) vo_R_heard lk_R_322 d_R_digest_242 ad_79 sh_79 rfl (by omega) (Nat.le_of_ble_eq_true rfl) ?_
    refine c_R_heard hw (hS226.rep hR) (fun M242 hx242 => ?_)
    have hS242 : ScrR M M242 := hS226.tr hx242
    refine jx_r1 ?_
    refine jx_i2l (pc := 245) d_R_digest_245 ?_
    refine jx_ladd (pc := 246) d_R_digest_246 ?_
    refine jx_lstore1 (pc := 247) d_R_digest_247 rfl (Nat.le_of_ble_eq_true rfl) ?_
    refine jx_ldc2 (pc := 248) d_R_digest_248 lc_R_302 ?_
    refine jx_lload1 (pc := 251) d_R_digest_251 ?_
    refine jx_lmul (pc := 252) d_R_digest_252 ?_
    refine jx_aload0 (pc := 253) d_R_digest_253 ?_
    refine jx_bipush (pc := 254) (v := 7) d_R_digest_254 (by decide) ?_
    refine jx_bipush (pc := 256) (v := 9) d_R_digest_256 (by decide) ?_
    refine jx_iconst (pc := 258) (v := (-1)) d_R_digest_258 (by decide) ?_
    refine jx_callV3 (pc := 259) (d' := d + 3) vo_R_weeksOf lk_R_286 d_R_digest_259 ad_79 sh_79 rfl (by omega) (Nat.le_of_ble_eq_true rfl) ?_
    refine c_R_weeksOf (c := 9) hw (hS242.rep hR) (by omega) (by omega) hu (fun M259 hx259 hr259 => ?_)
    have hS259 : ScrR M M259 := hS242.tr hx259
    refine jx_r1 ?_
    refine jx_i2l (pc := 262) d_R_digest_262 ?_
    refine jx_ladd (pc := 263) d_R_digest_263 ?_
    refine jx_lret (pc := 264) hX rfl d_R_digest_264 ?_
    rotate_left
    exact kk M259 hS259
  have heirs : ∀ (r i : Nat) (h0 : Int64) (M1 : j_M), i + r = g_hn s → ScrR M M1 → RdR s M1 → (∀ M', ScrR M M' → Q (some (.long ((dgT s).foldl mixL (dgDs s (dgHs s h0 (g_hn s)) 4)))) M') → j_W (d + 7) I_R_digest X 45 [some (.ref 79), some (.long (dgHs s h0 i)), none, some (.int (nI i))] [] M1 := by
    intro r
    induction r with
    | zero =>
      intro i h0 M1 hi hS hr kk
      have hi' : i = g_hn s := by omega
      subst hi'
      refine jx_iload3 (pc := 45) d_R_digest_45 ?_
      refine jx_aload0 (pc := 46) d_R_digest_46 ?_
      refine jx_getI (pc := 47) gf_R_102 d_R_digest_47 ad_79 sh_79 rfl ?_
      refine jx_icmp_ge (pc := 50) 66 d_R_digest_50 (by decide) (fun c50 => ?_) (fun c50 => absurd c50 (fun z => z (by rw [hr.1]; exact Int32.le_refl _)))
      rotate_left
      exact tail _ M1 _ hS kk
    | succ r ih =>
      intro i h0 M1 hi hS hr kk
      refine jx_iload3 (pc := 45) d_R_digest_45 ?_
      refine jx_aload0 (pc := 46) d_R_digest_46 ?_
      refine jx_getI (pc := 47) gf_R_102 d_R_digest_47 ad_79 sh_79 rfl ?_
      refine jx_icmp_ge (pc := 50) 66 d_R_digest_50 (by decide) (fun c50 => absurd c50 (by rw [hr.1]; exact nI_ge (by omega) (by omega))) (fun c50 => ?_)
      refine jx_aload0 (pc := 53) d_R_digest_53 ?_
      refine jx_lload1 (pc := 54) d_R_digest_54 ?_
      refine jx_iload3 (pc := 55) d_R_digest_55 ?_
      refine jx_callV2 (pc := 56) (d' := d + 6) vo_R_heirDigest lk_R_309 d_R_digest_56 ad_79 sh_79 rfl (by omega) (Nat.le_of_ble_eq_true rfl) ?_
      refine c_R_heirDigest hw (hS.rep hR) hr (by omega) (fun M2 hx2 hr2 => ?_)
      refine jx_r1 ?_
      refine jx_lstore1 (pc := 59) d_R_digest_59 rfl (Nat.le_of_ble_eq_true rfl) ?_
      refine jx_iinc3 (pc := 60) d_R_digest_60 rfl (Nat.le_of_ble_eq_true rfl) ?_
      refine jx_goto (pc := 63) 45 d_R_digest_63 (by decide) ?_
      rotate_left
      rw [nI_add1]
      exact ih (i + 1) h0 M2 (by omega) (hS.tr hx2) hr2 kk
  have counts : ∀ (r i : Nat) (M1 : j_M), i + r = 8 → ScrR M M1 → j_W (d + 7) I_R_digest X 6 [some (.ref 79), some (.long (dgC s i)), none, some (.int (nI i))] [] M1 := by
    intro r
    induction r with
    | zero =>
      intro i M1 hi hS
      have hi' : i = 8 := by omega
      subst hi'
      have hR1 := hS.rep hR
      refine jx_iload3 (pc := 6) d_R_digest_6 ?_
      refine jx_bipush (pc := 7) (v := 8) d_R_digest_7 (by decide) ?_
      refine jx_icmp_ge (pc := 9) 31 d_R_digest_9 (by decide) (fun c9 => ?_) (fun c9 => absurd c9 (fun z => z (show nI 8 ≤ nI 8 from Int32.le_refl _)))
      refine jx_ldc2 (pc := 31) d_R_digest_31 lc_R_302 ?_
      refine jx_lload1 (pc := 34) d_R_digest_34 ?_
      refine jx_lmul (pc := 35) d_R_digest_35 ?_
      refine jx_aload0 (pc := 36) d_R_digest_36 ?_
      refine jx_callV0 (pc := 37) (d' := d + 1) vo_R_faultNow lk_R_105 d_R_digest_37 ad_79 sh_79 rfl (by omega) (Nat.le_of_ble_eq_true rfl) ?_
      refine c_R_faultNow hw.1 hw.2.1 hR1.1.1 hR1.1.2 (fun M2 h1 h2 hO => ?_)
      refine jx_r1 ?_
      refine jx_i2l (pc := 40) d_R_digest_40 ?_
      refine jx_ladd (pc := 41) d_R_digest_41 ?_
      refine jx_lstore1 (pc := 42) d_R_digest_42 rfl (Nat.le_of_ble_eq_true rfl) ?_
      refine jx_iconst (pc := 43) (v := 0) d_R_digest_43 (by decide) ?_
      refine jx_istore3 (pc := 44) d_R_digest_44 rfl (Nat.le_of_ble_eq_true rfl) ?_
      rotate_left
      exact heirs (g_hn s) 0 _ M2 (by omega) (hS.tr (ScrR.offF hO)) ⟨h1, h2⟩ k
    | succ r ih =>
      intro i M1 hi hS
      refine jx_iload3 (pc := 6) d_R_digest_6 ?_
      refine jx_bipush (pc := 7) (v := 8) d_R_digest_7 (by decide) ?_
      refine jx_icmp_ge (pc := 9) 31 d_R_digest_9 (by decide) (fun c9 => absurd c9 (show ¬ nI 8 ≤ nI i from nI_ge (by omega) (by omega))) (fun c9 => ?_)
      refine jx_ldc2 (pc := 12) d_R_digest_12 lc_R_302 ?_
      refine jx_lload1 (pc := 15) d_R_digest_15 ?_
      refine jx_lmul (pc := 16) d_R_digest_16 ?_
      refine jx_aload0 (pc := 17) d_R_digest_17 ?_
      refine jx_iload3 (pc := 18) d_R_digest_18 ?_
      refine jx_callV1 (pc := 19) (d' := d + 4) vo_R_count lk_R_306 d_R_digest_19 ad_79 sh_79 rfl (by omega) (Nat.le_of_ble_eq_true rfl) ?_
      refine c_R_count hw (hS.rep hR) (fun M2 hx2 => ?_)
      refine jx_r1 ?_
      refine jx_i2l (pc := 22) d_R_digest_22 ?_
      refine jx_ladd (pc := 23) d_R_digest_23 ?_
      refine jx_lstore1 (pc := 24) d_R_digest_24 rfl (Nat.le_of_ble_eq_true rfl) ?_
      refine jx_iinc3 (pc := 25) d_R_digest_25 rfl (Nat.le_of_ble_eq_true rfl) ?_
      refine jx_goto (pc := 28) 6 d_R_digest_28 (by decide) ?_
      rotate_left
      rw [nI_add1]
      exact ih (i + 1) M2 (by omega) (hS.tr hx2)
  refine jx_ldc2 (pc := 0) d_R_digest_0 lc_R_304 ?_
  refine jx_lstore1 (pc := 3) d_R_digest_3 rfl (Nat.le_of_ble_eq_true rfl) ?_
  refine jx_iconst (pc := 4) (v := 0) d_R_digest_4 (by decide) ?_
  refine jx_istore3 (pc := 5) d_R_digest_5 rfl (Nat.le_of_ble_eq_true rfl) ?_
  rotate_left
  exact counts 8 0 M (by omega) ScrR.rf
