/-! OPERATIONS of the reference: replies, the fold -/
theorem nI_dec (l : Nat) : nI (l + 1) + Int32.ofInt (-1) = nI l := by
  have h := nI_sub (a := l + 1) (b := 1) (by omega)
  rw [Nat.add_sub_cancel] at h
  rw [show Int32.ofInt (-1) = -(1 : Int32) from rfl, ← Int32.sub_eq_add_neg]
  exact h
theorem c_R_playsBy {d n : Nat} {L : Nat → Nat → Bool} {M : j_M} {Q : Option Value → j_M → Prop} (hn1 : 1 ≤ n) (hn4 : n ≤ 4) (hL : ∀ r p, L (r + 1) p = if (n - 1 - r) % 2 = 0 then tny (fun u => L r (4 * p + u)) else tal4 (fun u => L r (4 * p + u))) (h0 : ∀ p, p < 4 ^ n → M 94 p = if L 0 p then 1 else 0)
    (k : ∀ M', (∀ b, b ≠ 94 → M' b = M b) → (∀ p, p < 4 → M' 94 p = if L (n - 1) p then 1 else 0) → Q (some (.int (if tny (L (n - 1)) then 1 else 0))) M') : j_Ct d I_R_playsBy [.ref 79, .int (nI n), .int 4] M Q := by
  refine j_met (by decide +kernel) co_R_playsBy (Nat.le_of_ble_eq_true rfl) (fun X hX => ?_)
  show j_W d I_R_playsBy X 0 [some (.ref 79), some (.int (nI n)), some (.int 4), none, none, none, none, none] [] M
  have ecm : nI n - 1 = nI (n - 1) := nI_sub (b := 1) hn1
  have e2n : (1 : Int32) <<< ((2 : Int32) * nI n &&& 31) = nI (4 ^ n) := by
    rw [show (2 : Int32) * nI n = nI (2 * n) by rw [show (2 : Int32) = nI 2 from rfl, nI_mul], shl1 (by omega), Nat.pow_mul]
  have lev : ∀ (l r : Nat) (M2 : j_M) (e5 e6 e7 : Option Value), l + r + 1 = n → (∀ b, b ≠ 94 → M2 b = M b) → (∀ p, p < 4 ^ (l + 1) → M2 94 p = if L r p then 1 else 0) → j_W d I_R_playsBy X 11 [some (.ref 79), some (.int (nI n)), some (.int 4), some (.int (nI (4 ^ (l + 1)))), some (.int (nI l)), e5, e6, e7] [] M2 := by
    intro l
    induction l with
    | zero =>
      intro r M2 e5 e6 e7 hl hb h94
      have hr' : r = n - 1 := by omega
      subst hr'
      have g0 := h94 0 (by decide)
      have g1 := h94 1 (by decide)
      have g2 := h94 2 (by decide)
      have g3 := h94 3 (by decide)
      have kk := k M2 hb (fun p hp => h94 p hp)
      refine jx_iload4 (pc := 11) d_R_playsBy_11 ?_
      refine jx_if_le (pc := 13) 184 d_R_playsBy_13 (by decide) (fun c13 => ?_) (fun c13 => absurd c13 (fun q => q (show nI 0 ≤ nI 0 from Int32.le_refl _)))
      refine jx_iload2 (pc := 184) d_R_playsBy_184 ?_
      refine jx_iconst (pc := 185) (v := 4) d_R_playsBy_185 (by decide) ?_
      refine jx_icmp_ge (pc := 186) 198 d_R_playsBy_186 (by decide) (fun c186 => ?_) (fun c186 => absurd c186 (fun q => q (Int32.le_refl _)))
      refine jx_aload0 (pc := 198) d_R_playsBy_198 ?_
      refine jx_getR (pc := 199) gf_R_52 d_R_playsBy_199 ad_79 sh_79 rfl ?_
      refine jx_iconst (pc := 202) (v := 0) d_R_playsBy_202 (by decide) ?_
      refine jx_zaldK (pc := 203) 0 d_R_playsBy_203 ad_94 sh_94 (by decide) (by unfold vp_in; decide) ?_
      refine jx_if_ne (pc := 204) 234 d_R_playsBy_204 (by decide) (fun c204 => ?_) (fun c204 => ?_)
      refine jx_iconst (pc := 234) (v := 1) d_R_playsBy_234 (by decide) ?_
      refine jx_goto (pc := 235) 239 d_R_playsBy_235 (by decide) ?_
      refine jx_zret (pc := 239) hX rfl (by first | exact Or.inl rfl | exact Or.inr rfl) d_R_playsBy_239 ?_
      rotate_left
      refine jx_aload0 (pc := 207) d_R_playsBy_207 ?_
      refine jx_getR (pc := 208) gf_R_52 d_R_playsBy_208 ad_79 sh_79 rfl ?_
      refine jx_iconst (pc := 211) (v := 1) d_R_playsBy_211 (by decide) ?_
      refine jx_zaldK (pc := 212) 1 d_R_playsBy_212 ad_94 sh_94 (by decide) (by unfold vp_in; decide) ?_
      refine jx_if_ne (pc := 213) 234 d_R_playsBy_213 (by decide) (fun c213 => ?_) (fun c213 => ?_)
      refine jx_iconst (pc := 234) (v := 1) d_R_playsBy_234 (by decide) ?_
      refine jx_goto (pc := 235) 239 d_R_playsBy_235 (by decide) ?_
      refine jx_zret (pc := 239) hX rfl (by first | exact Or.inl rfl | exact Or.inr rfl) d_R_playsBy_239 ?_
      rotate_left
      refine jx_aload0 (pc := 216) d_R_playsBy_216 ?_
      refine jx_getR (pc := 217) gf_R_52 d_R_playsBy_217 ad_79 sh_79 rfl ?_
      refine jx_iconst (pc := 220) (v := 2) d_R_playsBy_220 (by decide) ?_
      refine jx_zaldK (pc := 221) 2 d_R_playsBy_221 ad_94 sh_94 (by decide) (by unfold vp_in; decide) ?_
      refine jx_if_ne (pc := 222) 234 d_R_playsBy_222 (by decide) (fun c222 => ?_) (fun c222 => ?_)
      refine jx_iconst (pc := 234) (v := 1) d_R_playsBy_234 (by decide) ?_
      refine jx_goto (pc := 235) 239 d_R_playsBy_235 (by decide) ?_
      refine jx_zret (pc := 239) hX rfl (by first | exact Or.inl rfl | exact Or.inr rfl) d_R_playsBy_239 ?_
      rotate_left
      refine jx_aload0 (pc := 225) d_R_playsBy_225 ?_
      refine jx_getR (pc := 226) gf_R_52 d_R_playsBy_226 ad_79 sh_79 rfl ?_
      refine jx_iconst (pc := 229) (v := 3) d_R_playsBy_229 (by decide) ?_
      refine jx_zaldK (pc := 230) 3 d_R_playsBy_230 ad_94 sh_94 (by decide) (by unfold vp_in; decide) ?_
      refine jx_if_eq (pc := 231) 238 d_R_playsBy_231 (by decide) (fun c231 => ?_) (fun c231 => ?_)
      refine jx_iconst (pc := 238) (v := 0) d_R_playsBy_238 (by decide) ?_
      refine jx_zret (pc := 239) hX rfl (by first | exact Or.inl rfl | exact Or.inr rfl) d_R_playsBy_239 ?_
      rotate_left
      refine jx_iconst (pc := 234) (v := 1) d_R_playsBy_234 (by decide) ?_
      refine jx_goto (pc := 235) 239 d_R_playsBy_235 (by decide) ?_
      refine jx_zret (pc := 239) hX rfl (by first | exact Or.inl rfl | exact Or.inr rfl) d_R_playsBy_239 ?_
      rotate_left
      · rw [g0] at c204
        have t := z01n c204
        rw [show tny (L (n - 1)) = true from tny_t (t := 0) (by omega) t] at kk
        exact kk
      · rw [g1] at c213
        have t := z01n c213
        rw [show tny (L (n - 1)) = true from tny_t (t := 1) (by omega) t] at kk
        exact kk
      · rw [g2] at c222
        have t := z01n c222
        rw [show tny (L (n - 1)) = true from tny_t (t := 2) (by omega) t] at kk
        exact kk
      · rw [g0] at c204
        rw [g1] at c213
        rw [g2] at c222
        rw [g3] at c231
        have t0 := z01.mp c204
        have t1 := z01.mp c213
        have t2 := z01.mp c222
        have t3 := z01.mp c231
        rw [show tny (L (n - 1)) = false by unfold tny; simp_all] at kk
        exact kk
      · rw [g3] at c231
        have t := z01n c231
        rw [show tny (L (n - 1)) = true from tny_t (t := 3) (by omega) t] at kk
        exact kk
    | succ l ih =>
      intro r M2 e5 e6 e7 hl hb h94
      have hT1 : 4 ^ (l + 1) ≤ 64 := Nat.le_trans (Nat.pow_le_pow_right (n := 4) (by omega) (show l + 1 ≤ 3 by omega)) (by decide)
      have hT2 : 4 ^ (l + 1 + 1) = 4 ^ (l + 1) * 4 := Nat.pow_succ ..
      have hdv : nI (4 ^ (l + 1 + 1)) / 4 = nI (4 ^ (l + 1)) := by
        rw [hT2, show (4 : Int32) = nI 4 from rfl, pk_div (by omega) (by omega) (by omega), Nat.mul_div_cancel _ (by omega)]
      have hLr := hL r
      rw [show n - 1 - r = l + 1 by omega] at hLr
      obtain ⟨T, hTe⟩ : ∃ T, T = 4 ^ (l + 1) := ⟨_, rfl⟩
      rw [hT2] at h94
      rw [← hTe] at hT1 hdv h94
      have ei2 : nI (l + 1) - nI (l + 1) / 2 * 2 = nI ((l + 1) % 2) := pk_rem (d := 2) (by omega) (by omega) (by omega)
      have loop : ∀ (q kk : Nat) (M3 : j_M) (e6 e7 : Option Value), kk + q = T → (∀ b, b ≠ 94 → M3 b = M b) → (∀ j, j < kk → M3 94 j = if L (r + 1) j then 1 else 0) → (∀ j, 4 * kk ≤ j → j < T * 4 → M3 94 j = if L r j then 1 else 0) → j_W d I_R_playsBy X 23 [some (.ref 79), some (.int (nI n)), some (.int 4), some (.int (nI T)), some (.int (nI (l + 1))), some (.int (nI kk)), e6, e7] [] M3 := by
        intro q
        induction q with
        | zero =>
          intro kk M3 e6 e7 hk hb3 hnew hold
          have hk' : kk = T := by omega
          subst hk'
          refine jx_iload5 (pc := 23) d_R_playsBy_23 ?_
          refine jx_iload3 (pc := 25) d_R_playsBy_25 ?_
          refine jx_icmp_ge (pc := 26) 178 d_R_playsBy_26 (by decide) (fun c26 => ?_) (fun c26 => absurd c26 (fun q => q (Int32.le_refl _)))
          refine jx_iinc4 (pc := 178) d_R_playsBy_178 rfl (Nat.le_of_ble_eq_true rfl) ?_
          refine jx_goto (pc := 181) 11 d_R_playsBy_181 (by decide) ?_
          rotate_left
          have nx := ih (r + 1) M3 (some (.int (nI kk))) e6 e7 (by omega) hb3 (fun p hp => hnew p (by rw [hTe]; exact hp))
          rw [← hTe] at nx
          rw [nI_dec]
          exact nx
        | succ q ihq =>
          intro kk M3 e6 e7 hk hb3 hnew hold
          have ek : (nI kk).toNatClampNeg = kk := nI_cl (by omega)
          have e4 : (4 : Int32) * nI kk = nI (4 * kk) := by rw [show (4 : Int32) = nI 4 from rfl, nI_mul]
          have e41 : (4 : Int32) * nI kk + 1 = nI (4 * kk + 1) := by rw [e4]; exact nI_add _ 1
          have e42 : (4 : Int32) * nI kk + 2 = nI (4 * kk + 2) := by rw [e4]; exact nI_add _ 2
          have e43 : (4 : Int32) * nI kk + 3 = nI (4 * kk + 3) := by rw [e4]; exact nI_add _ 3
          have v0 : vp_in ((4 : Int32) * nI kk) 256 := by rw [e4]; exact vp_in_nI (by omega) (by omega)
          have v1 : vp_in ((4 : Int32) * nI kk + 1) 256 := by rw [e41]; exact vp_in_nI (by omega) (by omega)
          have v2 : vp_in ((4 : Int32) * nI kk + 2) 256 := by rw [e42]; exact vp_in_nI (by omega) (by omega)
          have v3 : vp_in ((4 : Int32) * nI kk + 3) 256 := by rw [e43]; exact vp_in_nI (by omega) (by omega)
          have vk : vp_in (nI kk) 256 := vp_in_nI (by omega) (by omega)
          have g0 : M3 94 ((4 : Int32) * nI kk).toNatClampNeg = if L r (4 * kk + 0) then 1 else 0 := by rw [e4, nI_cl (by omega)]; exact hold _ (by omega) (by omega)
          have g1 : M3 94 ((4 : Int32) * nI kk + 1).toNatClampNeg = if L r (4 * kk + 1) then 1 else 0 := by rw [e41, nI_cl (by omega)]; exact hold _ (by omega) (by omega)
          have g2 : M3 94 ((4 : Int32) * nI kk + 2).toNatClampNeg = if L r (4 * kk + 2) then 1 else 0 := by rw [e42, nI_cl (by omega)]; exact hold _ (by omega) (by omega)
          have g3 : M3 94 ((4 : Int32) * nI kk + 3).toNatClampNeg = if L r (4 * kk + 3) then 1 else 0 := by rw [e43, nI_cl (by omega)]; exact hold _ (by omega) (by omega)
          have S171 : ∀ (x y v : Int32), v = (if L (r + 1) kk then 1 else 0) → j_W d I_R_playsBy X 171 [some (.ref 79), some (.int (nI n)), some (.int 4), some (.int (nI T)), some (.int (nI (l + 1))), some (.int (nI kk)), some (.int x), some (.int y)] [.int v, .int (nI kk), .ref 94] M3 := by
            intro x y v hv
            have hv01 : v = 0 ∨ v = 1 := by rw [hv]; exact if_01 _
            refine jx_zast (pc := 171) hv01 d_R_playsBy_171 ad_94 sh_94 vk ?_
            refine jx_iinc5 (pc := 172) d_R_playsBy_172 rfl (Nat.le_of_ble_eq_true rfl) ?_
            refine jx_goto (pc := 175) 23 d_R_playsBy_175 (by decide) ?_
            rotate_left
            rw [nI_add1, ek]
            refine ihq (kk + 1) _ _ _ (by omega) (fun b hbb => by rw [j_set_n _ _ _ hbb]; exact hb3 b hbb) (fun j hj => ?_) (fun j hj1 hj2 => ?_)
            · rw [j_set_s]; unfold upd
              by_cases hc : j = kk
              · rw [if_pos hc, hv, hc]
              · rw [if_neg hc]; exact hnew j (by omega)
            · rw [j_set_s]; unfold upd
              rw [if_neg (by omega)]; exact hold j (by omega) hj2
          have S149 : ∀ (y : Int32), y = (if tal4 (fun u => L r (4 * kk + u)) then 1 else 0) → j_W d I_R_playsBy X 149 [some (.ref 79), some (.int (nI n)), some (.int 4), some (.int (nI T)), some (.int (nI (l + 1))), some (.int (nI kk)), some (.int (if tny (fun u => L r (4 * kk + u)) then 1 else 0)), e7] [.int y] M3 := by
            intro y hy
            by_cases h2 : (l + 1) % 2 = 0
            · have hv := hLr kk
              rw [if_pos h2] at hv
              refine jx_istore7 (pc := 149) d_R_playsBy_149 rfl (Nat.le_of_ble_eq_true rfl) ?_
              refine jx_aload0 (pc := 151) d_R_playsBy_151 ?_
              refine jx_getR (pc := 152) gf_R_52 d_R_playsBy_152 ad_79 sh_79 rfl ?_
              refine jx_iload5 (pc := 155) d_R_playsBy_155 ?_
              refine jx_iload4 (pc := 157) d_R_playsBy_157 ?_
              refine jx_iconst (pc := 159) (v := 2) d_R_playsBy_159 (by decide) ?_
              refine jx_irem (pc := 160) d_R_playsBy_160 (by decide) ?_
              refine jx_if_ne (pc := 161) 169 d_R_playsBy_161 (by decide) (fun c161 => absurd c161 (fun q => q (by rw [ei2, h2]; rfl))) (fun c161 => ?_)
              refine jx_iload6 (pc := 164) d_R_playsBy_164 ?_
              refine jx_goto (pc := 166) 171 d_R_playsBy_166 (by decide) ?_
              rotate_left
              exact S171 _ _ _ (by rw [hv])
            · have hv := hLr kk
              rw [if_neg h2] at hv
              refine jx_istore7 (pc := 149) d_R_playsBy_149 rfl (Nat.le_of_ble_eq_true rfl) ?_
              refine jx_aload0 (pc := 151) d_R_playsBy_151 ?_
              refine jx_getR (pc := 152) gf_R_52 d_R_playsBy_152 ad_79 sh_79 rfl ?_
              refine jx_iload5 (pc := 155) d_R_playsBy_155 ?_
              refine jx_iload4 (pc := 157) d_R_playsBy_157 ?_
              refine jx_iconst (pc := 159) (v := 2) d_R_playsBy_159 (by decide) ?_
              refine jx_irem (pc := 160) d_R_playsBy_160 (by decide) ?_
              refine jx_if_ne (pc := 161) 169 d_R_playsBy_161 (by decide) (fun c161 => ?_) (fun c161 => absurd c161 (by rw [ei2, show (l + 1) % 2 = 1 by omega]; decide))
              refine jx_iload7 (pc := 169) d_R_playsBy_169 ?_
              rotate_left
              exact S171 _ _ _ (by rw [hy, hv])
          have S88 : ∀ (x : Int32), x = (if tny (fun u => L r (4 * kk + u)) then 1 else 0) → j_W d I_R_playsBy X 88 [some (.ref 79), some (.int (nI n)), some (.int 4), some (.int (nI T)), some (.int (nI (l + 1))), some (.int (nI kk)), e6, e7] [.int x] M3 := by
            intro x hx
            subst hx
            refine jx_istore6 (pc := 88) d_R_playsBy_88 rfl (Nat.le_of_ble_eq_true rfl) ?_
            refine jx_aload0 (pc := 90) d_R_playsBy_90 ?_
            refine jx_getR (pc := 91) gf_R_52 d_R_playsBy_91 ad_79 sh_79 rfl ?_
            refine jx_iconst (pc := 94) (v := 4) d_R_playsBy_94 (by decide) ?_
            refine jx_iload5 (pc := 95) d_R_playsBy_95 ?_
            refine jx_imul (pc := 97) d_R_playsBy_97 ?_
            refine jx_zald (pc := 98) d_R_playsBy_98 ad_94 sh_94 v0 ?_
            refine jx_if_eq (pc := 99) 148 d_R_playsBy_99 (by decide) (fun c99 => ?_) (fun c99 => ?_)
            refine jx_iconst (pc := 148) (v := 0) d_R_playsBy_148 (by decide) ?_
            rotate_left
            refine jx_aload0 (pc := 102) d_R_playsBy_102 ?_
            refine jx_getR (pc := 103) gf_R_52 d_R_playsBy_103 ad_79 sh_79 rfl ?_
            refine jx_iconst (pc := 106) (v := 4) d_R_playsBy_106 (by decide) ?_
            refine jx_iload5 (pc := 107) d_R_playsBy_107 ?_
            refine jx_imul (pc := 109) d_R_playsBy_109 ?_
            refine jx_iconst (pc := 110) (v := 1) d_R_playsBy_110 (by decide) ?_
            refine jx_iadd (pc := 111) d_R_playsBy_111 ?_
            refine jx_zald (pc := 112) d_R_playsBy_112 ad_94 sh_94 v1 ?_
            refine jx_if_eq (pc := 113) 148 d_R_playsBy_113 (by decide) (fun c113 => ?_) (fun c113 => ?_)
            refine jx_iconst (pc := 148) (v := 0) d_R_playsBy_148 (by decide) ?_
            rotate_left
            refine jx_aload0 (pc := 116) d_R_playsBy_116 ?_
            refine jx_getR (pc := 117) gf_R_52 d_R_playsBy_117 ad_79 sh_79 rfl ?_
            refine jx_iconst (pc := 120) (v := 4) d_R_playsBy_120 (by decide) ?_
            refine jx_iload5 (pc := 121) d_R_playsBy_121 ?_
            refine jx_imul (pc := 123) d_R_playsBy_123 ?_
            refine jx_iconst (pc := 124) (v := 2) d_R_playsBy_124 (by decide) ?_
            refine jx_iadd (pc := 125) d_R_playsBy_125 ?_
            refine jx_zald (pc := 126) d_R_playsBy_126 ad_94 sh_94 v2 ?_
            refine jx_if_eq (pc := 127) 148 d_R_playsBy_127 (by decide) (fun c127 => ?_) (fun c127 => ?_)
            refine jx_iconst (pc := 148) (v := 0) d_R_playsBy_148 (by decide) ?_
            rotate_left
            refine jx_aload0 (pc := 130) d_R_playsBy_130 ?_
            refine jx_getR (pc := 131) gf_R_52 d_R_playsBy_131 ad_79 sh_79 rfl ?_
            refine jx_iconst (pc := 134) (v := 4) d_R_playsBy_134 (by decide) ?_
            refine jx_iload5 (pc := 135) d_R_playsBy_135 ?_
            refine jx_imul (pc := 137) d_R_playsBy_137 ?_
            refine jx_iconst (pc := 138) (v := 3) d_R_playsBy_138 (by decide) ?_
            refine jx_iadd (pc := 139) d_R_playsBy_139 ?_
            refine jx_zald (pc := 140) d_R_playsBy_140 ad_94 sh_94 v3 ?_
            refine jx_if_eq (pc := 141) 148 d_R_playsBy_141 (by decide) (fun c141 => ?_) (fun c141 => ?_)
            refine jx_iconst (pc := 148) (v := 0) d_R_playsBy_148 (by decide) ?_
            rotate_left
            refine jx_iconst (pc := 144) (v := 1) d_R_playsBy_144 (by decide) ?_
            refine jx_goto (pc := 145) 149 d_R_playsBy_145 (by decide) ?_
            rotate_left
            · rw [g0] at c99
              exact S149 0 (by rw [tal_f (p := fun u => L r (4 * kk + u)) (t := 0) (by omega) (by simpa using z01.mp c99)]; rfl)
            · rw [g1] at c113
              exact S149 0 (by rw [tal_f (p := fun u => L r (4 * kk + u)) (t := 1) (by omega) (by simpa using z01.mp c113)]; rfl)
            · rw [g2] at c127
              exact S149 0 (by rw [tal_f (p := fun u => L r (4 * kk + u)) (t := 2) (by omega) (by simpa using z01.mp c127)]; rfl)
            · rw [g3] at c141
              exact S149 0 (by rw [tal_f (p := fun u => L r (4 * kk + u)) (t := 3) (by omega) (by simpa using z01.mp c141)]; rfl)
            · rw [g0] at c99
              rw [g1] at c113
              rw [g2] at c127
              rw [g3] at c141
              have t0 := z01n c99
              have t1 := z01n c113
              have t2 := z01n c127
              have t3 := z01n c141
              exact S149 1 (by rw [show tal4 (fun u => L r (4 * kk + u)) = true by unfold tal4; simp only [t0, t1, t2, t3]; rfl]; rfl)
          refine jx_iload5 (pc := 23) d_R_playsBy_23 ?_
          refine jx_iload3 (pc := 25) d_R_playsBy_25 ?_
          refine jx_icmp_ge (pc := 26) 178 d_R_playsBy_26 (by decide) (fun c26 => absurd c26 (nI_ge (by omega) (by omega))) (fun c26 => ?_)
          refine jx_aload0 (pc := 29) d_R_playsBy_29 ?_
          refine jx_getR (pc := 30) gf_R_52 d_R_playsBy_30 ad_79 sh_79 rfl ?_
          refine jx_iconst (pc := 33) (v := 4) d_R_playsBy_33 (by decide) ?_
          refine jx_iload5 (pc := 34) d_R_playsBy_34 ?_
          refine jx_imul (pc := 36) d_R_playsBy_36 ?_
          refine jx_zald (pc := 37) d_R_playsBy_37 ad_94 sh_94 v0 ?_
          refine jx_if_ne (pc := 38) 83 d_R_playsBy_38 (by decide) (fun c38 => ?_) (fun c38 => ?_)
          refine jx_iconst (pc := 83) (v := 1) d_R_playsBy_83 (by decide) ?_
          refine jx_goto (pc := 84) 88 d_R_playsBy_84 (by decide) ?_
          rotate_left
          refine jx_aload0 (pc := 41) d_R_playsBy_41 ?_
          refine jx_getR (pc := 42) gf_R_52 d_R_playsBy_42 ad_79 sh_79 rfl ?_
          refine jx_iconst (pc := 45) (v := 4) d_R_playsBy_45 (by decide) ?_
          refine jx_iload5 (pc := 46) d_R_playsBy_46 ?_
          refine jx_imul (pc := 48) d_R_playsBy_48 ?_
          refine jx_iconst (pc := 49) (v := 1) d_R_playsBy_49 (by decide) ?_
          refine jx_iadd (pc := 50) d_R_playsBy_50 ?_
          refine jx_zald (pc := 51) d_R_playsBy_51 ad_94 sh_94 v1 ?_
          refine jx_if_ne (pc := 52) 83 d_R_playsBy_52 (by decide) (fun c52 => ?_) (fun c52 => ?_)
          refine jx_iconst (pc := 83) (v := 1) d_R_playsBy_83 (by decide) ?_
          refine jx_goto (pc := 84) 88 d_R_playsBy_84 (by decide) ?_
          rotate_left
          refine jx_aload0 (pc := 55) d_R_playsBy_55 ?_
          refine jx_getR (pc := 56) gf_R_52 d_R_playsBy_56 ad_79 sh_79 rfl ?_
          refine jx_iconst (pc := 59) (v := 4) d_R_playsBy_59 (by decide) ?_
          refine jx_iload5 (pc := 60) d_R_playsBy_60 ?_
          refine jx_imul (pc := 62) d_R_playsBy_62 ?_
          refine jx_iconst (pc := 63) (v := 2) d_R_playsBy_63 (by decide) ?_
          refine jx_iadd (pc := 64) d_R_playsBy_64 ?_
          refine jx_zald (pc := 65) d_R_playsBy_65 ad_94 sh_94 v2 ?_
          refine jx_if_ne (pc := 66) 83 d_R_playsBy_66 (by decide) (fun c66 => ?_) (fun c66 => ?_)
          refine jx_iconst (pc := 83) (v := 1) d_R_playsBy_83 (by decide) ?_
          refine jx_goto (pc := 84) 88 d_R_playsBy_84 (by decide) ?_
          rotate_left
          refine jx_aload0 (pc := 69) d_R_playsBy_69 ?_
          refine jx_getR (pc := 70) gf_R_52 d_R_playsBy_70 ad_79 sh_79 rfl ?_
          refine jx_iconst (pc := 73) (v := 4) d_R_playsBy_73 (by decide) ?_
          refine jx_iload5 (pc := 74) d_R_playsBy_74 ?_
          refine jx_imul (pc := 76) d_R_playsBy_76 ?_
          refine jx_iconst (pc := 77) (v := 3) d_R_playsBy_77 (by decide) ?_
          refine jx_iadd (pc := 78) d_R_playsBy_78 ?_
          refine jx_zald (pc := 79) d_R_playsBy_79 ad_94 sh_94 v3 ?_
          refine jx_if_eq (pc := 80) 87 d_R_playsBy_80 (by decide) (fun c80 => ?_) (fun c80 => ?_)
          refine jx_iconst (pc := 87) (v := 0) d_R_playsBy_87 (by decide) ?_
          rotate_left
          refine jx_iconst (pc := 83) (v := 1) d_R_playsBy_83 (by decide) ?_
          refine jx_goto (pc := 84) 88 d_R_playsBy_84 (by decide) ?_
          rotate_left
          · rw [g0] at c38
            exact S88 1 (by rw [tny_t (p := fun u => L r (4 * kk + u)) (t := 0) (by omega) (z01n c38)]; rfl)
          · rw [g1] at c52
            exact S88 1 (by rw [tny_t (p := fun u => L r (4 * kk + u)) (t := 1) (by omega) (z01n c52)]; rfl)
          · rw [g2] at c66
            exact S88 1 (by rw [tny_t (p := fun u => L r (4 * kk + u)) (t := 2) (by omega) (z01n c66)]; rfl)
          · rw [g0] at c38
            rw [g1] at c52
            rw [g2] at c66
            rw [g3] at c80
            have t0 : L r (4 * kk + 0) = false := by simpa using z01.mp c38
            have t1 : L r (4 * kk + 1) = false := by simpa using z01.mp c52
            have t2 : L r (4 * kk + 2) = false := by simpa using z01.mp c66
            have t3 : L r (4 * kk + 3) = false := by simpa using z01.mp c80
            exact S88 0 (by rw [show tny (fun u => L r (4 * kk + u)) = false by unfold tny; simp only [t0, t1, t2, t3]; rfl]; rfl)
          · rw [g3] at c80
            exact S88 1 (by rw [tny_t (p := fun u => L r (4 * kk + u)) (t := 3) (by omega) (z01n c80)]; rfl)
      refine jx_iload4 (pc := 11) d_R_playsBy_11 ?_
      refine jx_if_le (pc := 13) 184 d_R_playsBy_13 (by decide) (fun c13 => absurd c13 (show ¬ nI (l + 1) ≤ nI 0 from nI_ge (by omega) (by omega))) (fun c13 => ?_)
      refine jx_iload3 (pc := 16) d_R_playsBy_16 ?_
      refine jx_iconst (pc := 17) (v := 4) d_R_playsBy_17 (by decide) ?_
      refine jx_idiv (pc := 18) d_R_playsBy_18 (by decide) ?_
      refine jx_istore3 (pc := 19) d_R_playsBy_19 rfl (Nat.le_of_ble_eq_true rfl) ?_
      refine jx_iconst (pc := 20) (v := 0) d_R_playsBy_20 (by decide) ?_
      refine jx_istore5 (pc := 21) d_R_playsBy_21 rfl (Nat.le_of_ble_eq_true rfl) ?_
      rotate_left
      rw [hdv]
      exact loop T 0 M2 _ _ (by omega) hb (fun j hj => absurd hj (by omega)) (fun j _ hj => h94 j hj)
  refine jx_iconst (pc := 0) (v := 1) d_R_playsBy_0 (by decide) ?_
  refine jx_iconst (pc := 1) (v := 2) d_R_playsBy_1 (by decide) ?_
  refine jx_iload1 (pc := 2) d_R_playsBy_2 ?_
  refine jx_imul (pc := 3) d_R_playsBy_3 ?_
  refine jx_ishl (pc := 4) d_R_playsBy_4 ?_
  refine jx_istore3 (pc := 5) d_R_playsBy_5 rfl (Nat.le_of_ble_eq_true rfl) ?_
  refine jx_iload1 (pc := 6) d_R_playsBy_6 ?_
  refine jx_iconst (pc := 7) (v := 1) d_R_playsBy_7 (by decide) ?_
  refine jx_isub (pc := 8) d_R_playsBy_8 ?_
  refine jx_istore4 (pc := 9) d_R_playsBy_9 rfl (Nat.le_of_ble_eq_true rfl) ?_
  rotate_left
  have nx := lev (n - 1) 0 M none none none (by omega) (fun _ _ => rfl) (fun p hp => h0 p (by rw [show n - 1 + 1 = n by omega] at hp; exact hp))
  rw [show n - 1 + 1 = n by omega] at nx
  rw [e2n, ecm]
  exact nx
theorem tny_lw (s : Sg) (a b n : Nat) : (if tny (fun t => wBy s a b (n - 1) 0 t mo0) then (1 : Int32) else 0) = if lwT s a b n = 9 then 0 else 1 := by
  unfold tny lwT
  by_cases h0 : wBy s a b (n - 1) 0 0 mo0 = true
  · simp [h0]
  · by_cases h1 : wBy s a b (n - 1) 0 1 mo0 = true
    · simp [h0, h1]
    · by_cases h2 : wBy s a b (n - 1) 0 2 mo0 = true
      · simp [h0, h1, h2]
      · by_cases h3 : wBy s a b (n - 1) 0 3 mo0 = true
        · simp [h0, h1, h2, h3]
        · simp [h0, h1, h2, h3]
theorem c_R_repliesOf {d a b n : Nat} {w : Int32} {s : Sg} {M : j_M} {Q : Option Value → j_M → Prop} (hw : WF s) (hR : RepR s M) (ha : a < g_hn s) (hb : b < g_hn s) (hn1 : 1 ≤ n) (hn4 : n ≤ 4) (hw2 : 0 ≤ w ∧ w < 2)
    (k : ∀ M', ScrR M M' → RdR s M' → Q (some (.int (if w = 1 then em (lwT s a b n) else if lwT s a b n = 9 then 0 else 1))) M') : j_Ct (d + 4) I_R_repliesOf [.ref 79, .int (nI a), .int (nI b), .int (nI n), .int w] M Q := by
  refine j_met (by decide +kernel) co_R_repliesOf (Nat.le_of_ble_eq_true rfl) (fun X hX => ?_)
  show j_W (d + 4) I_R_repliesOf X 0 [some (.ref 79), some (.int (nI a)), some (.int (nI b)), some (.int (nI n)), some (.int w), none, none] [] M
  by_cases h0 : w = 0
  · have hw1 : w ≠ 1 := by rw [h0]; decide
    rw [if_neg hw1, ← tny_lw] at k
    refine jx_aload0 (pc := 0) d_R_repliesOf_0 ?_
    refine jx_iload1 (pc := 1) d_R_repliesOf_1 ?_
    refine jx_iload2 (pc := 2) d_R_repliesOf_2 ?_
    refine jx_iload3 (pc := 3) d_R_repliesOf_3 ?_
    refine jx_callV3 (pc := 4) (d' := d + 3) vo_R_laysOuts lk_R_230 d_R_repliesOf_4 ad_79 sh_79 rfl (by omega) (Nat.le_of_ble_eq_true rfl) ?_
    refine c_R_laysOuts hw hR ha hb hn1 hn4 (fun M2 hS2 hr2 h94 => ?_)
    refine jx_r0 ?_
    refine jx_aload0 (pc := 7) d_R_repliesOf_7 ?_
    refine jx_iload3 (pc := 8) d_R_repliesOf_8 ?_
    refine jx_iconst (pc := 9) (v := 4) d_R_repliesOf_9 (by decide) ?_
    refine jx_callV2 (pc := 10) (d' := 0) vo_R_playsBy lk_R_233 d_R_repliesOf_10 ad_79 sh_79 rfl (by omega) (Nat.le_of_ble_eq_true rfl) ?_
    refine c_R_playsBy (L := lvO s a b n) hn1 hn4 (fun r p => rfl) h94 (fun M3 hb3 h3 => ?_)
    have hS3 : ScrR M M3 := hS2.tr ⟨fun b g => hb3 b (by unfold PR at g; omega), fun q g => by rw [hb3 79 (by omega)]⟩
    have hr3 : RdR s M3 := hr2.of (by rw [hb3 79 (by omega)]) (hb3 81 (by omega))
    have htn : tny (lvO s a b n (n - 1)) = tny (fun t => wBy s a b (n - 1) 0 t mo0) := tny_c (fun u hu => lvO_t s a b hn1 hu)
    refine jx_r1 ?_
    refine jx_istore5 (pc := 13) d_R_repliesOf_13 rfl (Nat.le_of_ble_eq_true rfl) ?_
    refine jx_iload4 (pc := 15) d_R_repliesOf_15 ?_
    refine jx_if_ne (pc := 17) 31 d_R_repliesOf_17 (by decide) (fun c17 => absurd c17 (fun q => q h0)) (fun c17 => ?_)
    refine jx_iload5 (pc := 20) d_R_repliesOf_20 ?_
    refine jx_if_eq (pc := 22) 29 d_R_repliesOf_22 (by decide) (fun c22 => ?_) (fun c22 => ?_)
    refine jx_iconst (pc := 29) (v := 0) d_R_repliesOf_29 (by decide) ?_
    refine jx_iret (pc := 30) hX rfl d_R_repliesOf_30 ?_
    rotate_left
    refine jx_iconst (pc := 25) (v := 1) d_R_repliesOf_25 (by decide) ?_
    refine jx_goto (pc := 26) 30 d_R_repliesOf_26 (by decide) ?_
    refine jx_iret (pc := 30) hX rfl d_R_repliesOf_30 ?_
    rotate_left
    · rw [htn] at c22
      have kk := k M3 hS3 hr3
      rw [c22] at kk
      exact kk
    · rw [htn] at c22
      have t := z01n c22
      have kk := k M3 hS3 hr3
      rw [if_pos t] at kk
      exact kk
  · have hw1 : w = 1 := by
      have h1 := hw2.1
      have h2 := hw2.2
      rw [fa_le] at h1
      rw [fa_lt] at h2
      rw [fa_eq] at h0 ⊢
      simp only [Int32.reduceToInt] at *
      omega
    rw [if_pos hw1] at k
    refine jx_aload0 (pc := 0) d_R_repliesOf_0 ?_
    refine jx_iload1 (pc := 1) d_R_repliesOf_1 ?_
    refine jx_iload2 (pc := 2) d_R_repliesOf_2 ?_
    refine jx_iload3 (pc := 3) d_R_repliesOf_3 ?_
    refine jx_callV3 (pc := 4) (d' := d + 3) vo_R_laysOuts lk_R_230 d_R_repliesOf_4 ad_79 sh_79 rfl (by omega) (Nat.le_of_ble_eq_true rfl) ?_
    refine c_R_laysOuts hw hR ha hb hn1 hn4 (fun M2 hS2 hr2 h94 => ?_)
    refine jx_r0 ?_
    refine jx_aload0 (pc := 7) d_R_repliesOf_7 ?_
    refine jx_iload3 (pc := 8) d_R_repliesOf_8 ?_
    refine jx_iconst (pc := 9) (v := 4) d_R_repliesOf_9 (by decide) ?_
    refine jx_callV2 (pc := 10) (d' := 0) vo_R_playsBy lk_R_233 d_R_repliesOf_10 ad_79 sh_79 rfl (by omega) (Nat.le_of_ble_eq_true rfl) ?_
    refine c_R_playsBy (L := lvO s a b n) hn1 hn4 (fun r p => rfl) h94 (fun M3 hb3 h3 => ?_)
    have hS3 : ScrR M M3 := hS2.tr ⟨fun b g => hb3 b (by unfold PR at g; omega), fun q g => by rw [hb3 79 (by omega)]⟩
    have hr3 : RdR s M3 := hr2.of (by rw [hb3 79 (by omega)]) (hb3 81 (by omega))
    have htn : tny (lvO s a b n (n - 1)) = tny (fun t => wBy s a b (n - 1) 0 t mo0) := tny_c (fun u hu => lvO_t s a b hn1 hu)
    refine jx_r1 ?_
    refine jx_istore5 (pc := 13) d_R_repliesOf_13 rfl (Nat.le_of_ble_eq_true rfl) ?_
    refine jx_iload4 (pc := 15) d_R_repliesOf_15 ?_
    refine jx_if_ne (pc := 17) 31 d_R_repliesOf_17 (by decide) (fun c17 => ?_) (fun c17 => absurd c17 h0)
    refine jx_iconst (pc := 31) (v := 0) d_R_repliesOf_31 (by decide) ?_
    refine jx_istore6 (pc := 32) d_R_repliesOf_32 rfl (Nat.le_of_ble_eq_true rfl) ?_
    rotate_left
    have h3' : ∀ p, p < 4 → M3 94 p = if wBy s a b (n - 1) 0 p mo0 then 1 else 0 := fun p hp => by rw [h3 p hp, lvO_t s a b hn1 hp]
    have loop : ∀ (q t : Nat) (e5 : Int32), t + q = 4 → (∀ u, u < t → wBy s a b (n - 1) 0 u mo0 = false) → j_W (d + 4) I_R_repliesOf X 34 [some (.ref 79), some (.int (nI a)), some (.int (nI b)), some (.int (nI n)), some (.int w), some (.int e5), some (.int (nI t))] [] M3 := by
      intro q
      induction q with
      | zero =>
        intro t e5 ht hu
        have ht' : t = 4 := by omega
        subst ht'
        have kk := k M3 hS3 hr3
        rw [lwT_no hu] at kk
        refine jx_iload6 (pc := 34) d_R_repliesOf_34 ?_
        refine jx_iconst (pc := 36) (v := 4) d_R_repliesOf_36 (by decide) ?_
        refine jx_icmp_ge (pc := 37) 56 d_R_repliesOf_37 (by decide) (fun c37 => ?_) (fun c37 => absurd c37 (fun q => q (show nI 4 ≤ nI 4 from Int32.le_refl _)))
        refine jx_iload6 (pc := 56) d_R_repliesOf_56 ?_
        refine jx_iconst (pc := 58) (v := 4) d_R_repliesOf_58 (by decide) ?_
        refine jx_icmp_ge (pc := 59) 67 d_R_repliesOf_59 (by decide) (fun c59 => ?_) (fun c59 => absurd c59 (fun q => q (show nI 4 ≤ nI 4 from Int32.le_refl _)))
        refine jx_iconst (pc := 67) (v := (-1)) d_R_repliesOf_67 (by decide) ?_
        refine jx_iret (pc := 68) hX rfl d_R_repliesOf_68 ?_
        rotate_left
        exact kk
      | succ q ih =>
        intro t e5 ht hu
        have et : (nI t).toNatClampNeg = t := nI_cl (by omega)
        have vt : vp_in (nI t) 256 := vp_in_nI (by omega) (by omega)
        have h4 : ¬ (4 : Int32) ≤ nI t := (show ¬ nI 4 ≤ nI t from nI_ge (by omega) (by omega))
        by_cases hp : wBy s a b (n - 1) 0 t mo0 = true
        · have kk := k M3 hS3 hr3
          rw [lwT_at (by omega) hu hp, em_lt (by omega)] at kk
          refine jx_iload6 (pc := 34) d_R_repliesOf_34 ?_
          refine jx_iconst (pc := 36) (v := 4) d_R_repliesOf_36 (by decide) ?_
          refine jx_icmp_ge (pc := 37) 56 d_R_repliesOf_37 (by decide) (fun c37 => absurd c37 h4) (fun c37 => ?_)
          refine jx_aload0 (pc := 40) d_R_repliesOf_40 ?_
          refine jx_getR (pc := 41) gf_R_52 d_R_repliesOf_41 ad_79 sh_79 rfl ?_
          refine jx_iload6 (pc := 44) d_R_repliesOf_44 ?_
          refine jx_zald (pc := 46) d_R_repliesOf_46 ad_94 sh_94 vt ?_
          refine jx_if_ne (pc := 47) 56 d_R_repliesOf_47 (by decide) (fun c47 => ?_) (fun c47 => absurd c47 (by rw [et, h3' t (by omega), if_pos hp]; decide))
          refine jx_iload6 (pc := 56) d_R_repliesOf_56 ?_
          refine jx_iconst (pc := 58) (v := 4) d_R_repliesOf_58 (by decide) ?_
          refine jx_icmp_ge (pc := 59) 67 d_R_repliesOf_59 (by decide) (fun c59 => absurd c59 h4) (fun c59 => ?_)
          refine jx_iload6 (pc := 62) d_R_repliesOf_62 ?_
          refine jx_goto (pc := 64) 68 d_R_repliesOf_64 (by decide) ?_
          refine jx_iret (pc := 68) hX rfl d_R_repliesOf_68 ?_
          rotate_left
          exact kk
        · have hpf : wBy s a b (n - 1) 0 t mo0 = false := by simpa using hp
          refine jx_iload6 (pc := 34) d_R_repliesOf_34 ?_
          refine jx_iconst (pc := 36) (v := 4) d_R_repliesOf_36 (by decide) ?_
          refine jx_icmp_ge (pc := 37) 56 d_R_repliesOf_37 (by decide) (fun c37 => absurd c37 h4) (fun c37 => ?_)
          refine jx_aload0 (pc := 40) d_R_repliesOf_40 ?_
          refine jx_getR (pc := 41) gf_R_52 d_R_repliesOf_41 ad_79 sh_79 rfl ?_
          refine jx_iload6 (pc := 44) d_R_repliesOf_44 ?_
          refine jx_zald (pc := 46) d_R_repliesOf_46 ad_94 sh_94 vt ?_
          refine jx_if_ne (pc := 47) 56 d_R_repliesOf_47 (by decide) (fun c47 => absurd c47 (fun q => q (by rw [et, h3' t (by omega), if_neg hp]))) (fun c47 => ?_)
          refine jx_iinc6 (pc := 50) d_R_repliesOf_50 rfl (Nat.le_of_ble_eq_true rfl) ?_
          refine jx_goto (pc := 53) 34 d_R_repliesOf_53 (by decide) ?_
          rotate_left
          rw [nI_add1]
          refine ih (t + 1) e5 (by omega) (fun u hu2 => ?_)
          by_cases hc : u = t
          · rw [hc]; exact hpf
          · exact hu u (by omega)
    exact loop 4 0 _ (by omega) (fun u hu => absurd hu (by omega))
theorem c_R_replies {d : Nat} {a b n w : Int32} {s : Sg} {M : j_M} {Q : Option Value → j_M → Prop} (hw : WF s) (hR : RepR s M) (k : ∀ M', ScrR M M' → Q (some (.int (r_replies s a b n w))) M') : j_Ct (d + 5) I_R_replies [.ref 79, .int a, .int b, .int n, .int w] M Q := by
  refine j_met (by decide +kernel) co_R_replies (Nat.le_of_ble_eq_true rfl) (fun X hX => ?_)
  show j_W (d + 5) I_R_replies X 0 [some (.ref 79), some (.int a), some (.int b), some (.int n), some (.int w)] [] M
  have hn6 : g_hn s ≤ 6 := hnB_le hw.1
  by_cases hb : okRep s a b n w
  · obtain ⟨⟨g1, g2, g3⟩, g45, g6⟩ := id hb
    obtain ⟨g4, g5⟩ := id g45
    have hr : r_replies s a b n w = if w = 1 then em (lwT s (cl a) (cl b) (cl n)) else if lwT s (cl a) (cl b) (cl n) = 9 then 0 else 1 := by unfold r_replies; rw [if_pos hb]
    rw [hr] at k
    have p1 := g1
    have p2 := g2
    obtain ⟨x, hx, rfl, ex⟩ := okd a _ (by omega) g1
    obtain ⟨y, hy, rfl, ey⟩ := okd b _ (by omega) g2
    obtain ⟨c, hc, rfl⟩ := le_of (n := 4) (by omega) (show 0 ≤ n by rw [fa_le] at g4 ⊢; simp only [Int32.reduceToInt] at *; omega) g5
    have hc1 : 1 ≤ c := (nI_leI (a := 1) (by omega) (by omega)).mp g4
    rw [ex, ey, show cl (nI c) = c from nI_cl (by omega)] at k
    have g6' := in2.mpr g6
    refine jx_aload0 (pc := 0) d_R_replies_0 ?_
    refine jx_iload1 (pc := 1) d_R_replies_1 ?_
    refine jx_callV1 (pc := 2) (d' := d + 4) vo_R_isHeir lk_R_112 d_R_replies_2 ad_79 sh_79 rfl (by omega) (Nat.le_of_ble_eq_true rfl) ?_
    refine c_R_isHeir hw hR (fun M2 hr2 hO2 => ?_)
    refine jx_r1 ?_
    refine jx_if_eq (pc := 5) 52 d_R_replies_5 (by decide) (fun c5 => absurd c5 (z01p p1)) (fun c5 => ?_)
    refine jx_aload0 (pc := 8) d_R_replies_8 ?_
    refine jx_iload2 (pc := 9) d_R_replies_9 ?_
    refine jx_callV1 (pc := 10) (d' := d + 4) vo_R_isHeir lk_R_112 d_R_replies_10 ad_79 sh_79 rfl (by omega) (Nat.le_of_ble_eq_true rfl) ?_
    refine c_R_isHeir hw (hR.offF hO2) (fun M3 hr3 hO3 => ?_)
    have hR3 := (hR.offF hO2).offF hO3
    have hS3 : ScrR M M3 := (ScrR.offF hO2).tr (ScrR.offF hO3)
    refine jx_r1 ?_
    refine jx_if_eq (pc := 13) 52 d_R_replies_13 (by decide) (fun c13 => absurd c13 (z01p p2)) (fun c13 => ?_)
    refine jx_iload1 (pc := 16) d_R_replies_16 ?_
    refine jx_iload2 (pc := 17) d_R_replies_17 ?_
    refine jx_icmp_eq (pc := 18) 52 d_R_replies_18 (by decide) (fun c18 => absurd c18 g3) (fun c18 => ?_)
    refine jx_iload3 (pc := 21) d_R_replies_21 ?_
    refine jx_iconst (pc := 22) (v := 1) d_R_replies_22 (by decide) ?_
    refine jx_iconst (pc := 23) (v := 4) d_R_replies_23 (by decide) ?_
    refine jx_callS3 (pc := 24) (d' := 0) so_R_in lk_R_95 d_R_replies_24 (by omega) (Nat.le_of_ble_eq_true rfl) ?_
    refine c_R_in ?_
    refine jx_r1 ?_
    refine jx_if_eq (pc := 27) 52 d_R_replies_27 (by decide) (fun c27 => absurd c27 (z01p g45)) (fun c27 => ?_)
    refine jx_iload4 (pc := 30) d_R_replies_30 ?_
    refine jx_iconst (pc := 32) (v := 0) d_R_replies_32 (by decide) ?_
    refine jx_iconst (pc := 33) (v := 1) d_R_replies_33 (by decide) ?_
    refine jx_callS3 (pc := 34) (d' := 0) so_R_in lk_R_95 d_R_replies_34 (by omega) (Nat.le_of_ble_eq_true rfl) ?_
    refine c_R_in ?_
    refine jx_r1 ?_
    refine jx_if_eq (pc := 37) 52 d_R_replies_37 (by decide) (fun c37 => absurd c37 (z01p g6')) (fun c37 => ?_)
    refine jx_aload0 (pc := 40) d_R_replies_40 ?_
    refine jx_iload1 (pc := 41) d_R_replies_41 ?_
    refine jx_iload2 (pc := 42) d_R_replies_42 ?_
    refine jx_iload3 (pc := 43) d_R_replies_43 ?_
    refine jx_iload4 (pc := 44) d_R_replies_44 ?_
    refine jx_callV4 (pc := 46) (d' := d + 4) vo_R_repliesOf lk_R_236 d_R_replies_46 ad_79 sh_79 rfl (by omega) (Nat.le_of_ble_eq_true rfl) ?_
    refine c_R_repliesOf hw hR3 hx hy hc1 hc g6 (fun M4 hS4 hr4 => ?_)
    refine jx_r1 ?_
    refine jx_goto (pc := 49) 54 d_R_replies_49 (by decide) ?_
    refine jx_iret (pc := 54) hX rfl d_R_replies_54 ?_
    rotate_left
    exact k M4 (hS3.tr hS4)
  · have hr : r_replies s a b n w = -2 := by unfold r_replies; rw [if_neg hb]
    rw [hr] at k
    refine jx_aload0 (pc := 0) d_R_replies_0 ?_
    refine jx_iload1 (pc := 1) d_R_replies_1 ?_
    refine jx_callV1 (pc := 2) (d' := d + 4) vo_R_isHeir lk_R_112 d_R_replies_2 ad_79 sh_79 rfl (by omega) (Nat.le_of_ble_eq_true rfl) ?_
    refine c_R_isHeir hw hR (fun M2 hr2 hO2 => ?_)
    refine jx_r1 ?_
    refine jx_if_eq (pc := 5) 52 d_R_replies_5 (by decide) (fun c5 => ?_) (fun c5 => ?_)
    refine jx_bipush (pc := 52) (v := (-2)) d_R_replies_52 (by decide) ?_
    refine jx_iret (pc := 54) hX rfl d_R_replies_54 ?_
    rotate_left
    refine jx_aload0 (pc := 8) d_R_replies_8 ?_
    refine jx_iload2 (pc := 9) d_R_replies_9 ?_
    refine jx_callV1 (pc := 10) (d' := d + 4) vo_R_isHeir lk_R_112 d_R_replies_10 ad_79 sh_79 rfl (by omega) (Nat.le_of_ble_eq_true rfl) ?_
    refine c_R_isHeir hw (hR.offF hO2) (fun M3 hr3 hO3 => ?_)
    have hR3 := (hR.offF hO2).offF hO3
    have hS3 : ScrR M M3 := (ScrR.offF hO2).tr (ScrR.offF hO3)
    refine jx_r1 ?_
    refine jx_if_eq (pc := 13) 52 d_R_replies_13 (by decide) (fun c13 => ?_) (fun c13 => ?_)
    refine jx_bipush (pc := 52) (v := (-2)) d_R_replies_52 (by decide) ?_
    refine jx_iret (pc := 54) hX rfl d_R_replies_54 ?_
    rotate_left
    refine jx_iload1 (pc := 16) d_R_replies_16 ?_
    refine jx_iload2 (pc := 17) d_R_replies_17 ?_
    refine jx_icmp_eq (pc := 18) 52 d_R_replies_18 (by decide) (fun c18 => ?_) (fun c18 => ?_)
    refine jx_bipush (pc := 52) (v := (-2)) d_R_replies_52 (by decide) ?_
    refine jx_iret (pc := 54) hX rfl d_R_replies_54 ?_
    rotate_left
    refine jx_iload3 (pc := 21) d_R_replies_21 ?_
    refine jx_iconst (pc := 22) (v := 1) d_R_replies_22 (by decide) ?_
    refine jx_iconst (pc := 23) (v := 4) d_R_replies_23 (by decide) ?_
    refine jx_callS3 (pc := 24) (d' := 0) so_R_in lk_R_95 d_R_replies_24 (by omega) (Nat.le_of_ble_eq_true rfl) ?_
    refine c_R_in ?_
    refine jx_r1 ?_
    refine jx_if_eq (pc := 27) 52 d_R_replies_27 (by decide) (fun c27 => ?_) (fun c27 => ?_)
    refine jx_bipush (pc := 52) (v := (-2)) d_R_replies_52 (by decide) ?_
    refine jx_iret (pc := 54) hX rfl d_R_replies_54 ?_
    rotate_left
    refine jx_iload4 (pc := 30) d_R_replies_30 ?_
    refine jx_iconst (pc := 32) (v := 0) d_R_replies_32 (by decide) ?_
    refine jx_iconst (pc := 33) (v := 1) d_R_replies_33 (by decide) ?_
    refine jx_callS3 (pc := 34) (d' := 0) so_R_in lk_R_95 d_R_replies_34 (by omega) (Nat.le_of_ble_eq_true rfl) ?_
    refine c_R_in ?_
    refine jx_r1 ?_
    refine jx_if_eq (pc := 37) 52 d_R_replies_37 (by decide) (fun c37 => ?_) (fun c37 => ?_)
    refine jx_bipush (pc := 52) (v := (-2)) d_R_replies_52 (by decide) ?_
    refine jx_iret (pc := 54) hX rfl d_R_replies_54 ?_
    rotate_left
    rotate_left
    · exact k M2 (ScrR.offF hO2)
    · exact k M3 hS3
    · exact k M3 hS3
    · exact k M3 hS3
    · exact k M3 hS3
    · exact absurd ⟨⟨z01n c5, z01n c13, c18⟩, z01n c27, in2.mp (z01n c37)⟩ hb
