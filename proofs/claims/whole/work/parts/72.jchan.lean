/-! OPERATIONS of the component, fourteen: chances -/
def TC (c h last md mt : Nat) (M : j_M) : Prop := M 22 1 = nI c ∧ M 22 2 = nI h ∧ M 22 3 = nI last ∧ (∀ dd, dd < 10 → (M 22 4 = nI dd ↔ dd = md)) ∧ (md < 10 → M 22 5 = nI mt)
def WG (s : Sg) (c h last md mt r d' : Nat) : Prop := ∀ (day : Nat) (m : Mo) (M : j_M) (Q : Option Value → j_M → Prop), day + r = last + 1 → RepC s M → TC c h last md mt M → MoodAt M (35 + 4 * day) (g_ta s 0) 9 m → MoW (g_en s) (10000 * day) m → (∀ M', KK day M M' → Q (some (.long (lN (wgF s c h md mt r day m)))) M') → j_Ct d' I_Ch_weighFrom [.ref 22, .int (nI day)] M Q
theorem c_Ch_weighFrom {s : Sg} (hws : WF s) {c h last md mt : Nat} (hl : last < 10) (hc : c ≤ 16) (hh : h < g_hn s) (hmt : mt < 3) {d : Nat} : ∀ r, WG s c h last md mt r (d + 4 + r) := by
  have hn6 : g_hn s ≤ 6 := hnB_le hws.1
  have hts := hws.2.2.1 0
  intro r
  induction r with
  | zero =>
    intro day m M Q hn hR hT hM hw k
    refine j_met (by decide +kernel) co_Ch_weighFrom (Nat.le_of_ble_eq_true rfl) (fun X hX => ?_)
    show j_W (d + 4 + 0) I_Ch_weighFrom X 0 [some (.ref 22), some (.int (nI day)), none, none, none, none, none, none, none] [] M
    have hm0 : j_mo (35 + 4 * day) := ⟨day, by omega, rfl⟩
    have hfl : m.2.2.2.2 < g_hn s ∨ m.2.2.2.2 = 9 := hw.2.2.2.2.1
    have hfe : M (35 + 4 * day) 6 = M 22 2 ↔ m.2.2.2.2 = h := by rw [hM.2.2.2.2.2.2, hT.2.1]; exact em_eq (by omega) (by omega)
    have hgt : ¬ nI day ≤ M 22 3 := by rw [hT.2.2.1]; exact nI_ge (by omega) (by omega)
    by_cases hq : m.2.2.2.2 = h
    · have hv : wgF s c h md mt 0 day m = 1 := by unfold wgF; rw [if_pos hq]
      rw [hv] at k
      refine jx_aload0 (pc := 0) d_Ch_weighFrom_0 ?_
      refine jx_getR (pc := 1) gf_Ch_9 d_Ch_weighFrom_1 ad_22 sh_22 rfl ?_
      refine jx_astore2 (pc := 4) d_Ch_weighFrom_4 rfl (Nat.le_of_ble_eq_true rfl) ?_
      refine jx_aload2 (pc := 5) d_Ch_weighFrom_5 ?_
      refine jx_getR (pc := 6) gf_Ch_31 d_Ch_weighFrom_6 ad_15 sh_15 rfl ?_
      refine jx_iload1 (pc := 9) d_Ch_weighFrom_9 ?_
      refine jx_aald (pc := 10) d_Ch_weighFrom_10 ad_16 (Or.inl rfl) sh_16 (vp_in_nI (by omega) (by omega)) (mo_r (by omega)) ?_
      refine jx_astore3 (pc := 11) d_Ch_weighFrom_11 rfl (Nat.le_of_ble_eq_true rfl) ?_
      refine jx_iload1 (pc := 12) d_Ch_weighFrom_12 ?_
      refine jx_aload0 (pc := 13) d_Ch_weighFrom_13 ?_
      refine jx_getI (pc := 14) gf_Ch_22 d_Ch_weighFrom_14 ad_22 sh_22 rfl ?_
      refine jx_icmp_le (pc := 17) 37 d_Ch_weighFrom_17 (by decide) (fun c17 => absurd c17 hgt) (fun c17 => ?_)
      refine jx_aload3 (pc := 20) d_Ch_weighFrom_20 ?_
      refine jx_getI (pc := 21) gf_Ch_47 d_Ch_weighFrom_21 (mo_a hm0) (mo_s hm0) rfl ?_
      refine jx_aload0 (pc := 24) d_Ch_weighFrom_24 ?_
      refine jx_getI (pc := 25) gf_Ch_19 d_Ch_weighFrom_25 ad_22 sh_22 rfl ?_
      refine jx_icmp_ne (pc := 28) 35 d_Ch_weighFrom_28 (by decide) (fun c28 => absurd c28 (fun z => z (hfe.mpr hq))) (fun c28 => ?_)
      refine jx_lconst (pc := 31) (v := 1) d_Ch_weighFrom_31 (by decide) ?_
      refine jx_goto (pc := 32) 36 d_Ch_weighFrom_32 (by decide) ?_
      refine jx_lret (pc := 36) hX rfl d_Ch_weighFrom_36 ?_
      rotate_left
      exact k M (fun _ _ => rfl)
    · have hv : wgF s c h md mt 0 day m = 0 := by unfold wgF; rw [if_neg hq]
      rw [hv] at k
      refine jx_aload0 (pc := 0) d_Ch_weighFrom_0 ?_
      refine jx_getR (pc := 1) gf_Ch_9 d_Ch_weighFrom_1 ad_22 sh_22 rfl ?_
      refine jx_astore2 (pc := 4) d_Ch_weighFrom_4 rfl (Nat.le_of_ble_eq_true rfl) ?_
      refine jx_aload2 (pc := 5) d_Ch_weighFrom_5 ?_
      refine jx_getR (pc := 6) gf_Ch_31 d_Ch_weighFrom_6 ad_15 sh_15 rfl ?_
      refine jx_iload1 (pc := 9) d_Ch_weighFrom_9 ?_
      refine jx_aald (pc := 10) d_Ch_weighFrom_10 ad_16 (Or.inl rfl) sh_16 (vp_in_nI (by omega) (by omega)) (mo_r (by omega)) ?_
      refine jx_astore3 (pc := 11) d_Ch_weighFrom_11 rfl (Nat.le_of_ble_eq_true rfl) ?_
      refine jx_iload1 (pc := 12) d_Ch_weighFrom_12 ?_
      refine jx_aload0 (pc := 13) d_Ch_weighFrom_13 ?_
      refine jx_getI (pc := 14) gf_Ch_22 d_Ch_weighFrom_14 ad_22 sh_22 rfl ?_
      refine jx_icmp_le (pc := 17) 37 d_Ch_weighFrom_17 (by decide) (fun c17 => absurd c17 hgt) (fun c17 => ?_)
      refine jx_aload3 (pc := 20) d_Ch_weighFrom_20 ?_
      refine jx_getI (pc := 21) gf_Ch_47 d_Ch_weighFrom_21 (mo_a hm0) (mo_s hm0) rfl ?_
      refine jx_aload0 (pc := 24) d_Ch_weighFrom_24 ?_
      refine jx_getI (pc := 25) gf_Ch_19 d_Ch_weighFrom_25 ad_22 sh_22 rfl ?_
      refine jx_icmp_ne (pc := 28) 35 d_Ch_weighFrom_28 (by decide) (fun c28 => ?_) (fun c28 => absurd c28 (fun z => hq (hfe.mp z)))
      refine jx_lconst (pc := 35) (v := 0) d_Ch_weighFrom_35 (by decide) ?_
      refine jx_lret (pc := 36) hX rfl d_Ch_weighFrom_36 ?_
      rotate_left
      exact k M (fun _ _ => rfl)
  | succ r ih =>
    intro day m M Q hn hR hT hM hw k
    refine j_met (by decide +kernel) co_Ch_weighFrom (Nat.le_of_ble_eq_true rfl) (fun X hX => ?_)
    show j_W (d + 4 + (r + 1)) I_Ch_weighFrom X 0 [some (.ref 22), some (.int (nI day)), none, none, none, none, none, none, none] [] M
    have hm0 : j_mo (35 + 4 * day) := ⟨day, by omega, rfl⟩
    have hm1 : j_mo (35 + 4 * (day + 1)) := ⟨day + 1, by omega, rfl⟩
    have hd30 : day < 30 := by omega
    have eA : 35 + 4 * (day + 1) = 39 + 4 * day := by omega
    have hi1 : vp_in (nI day + 1) 11 := by rw [nI_1]; exact vp_in_nI (by omega) (by omega)
    have hi0 : vp_in (nI day) 11 := vp_in_nI (by omega) (by omega)
    have hr1 : ([some 35, some 39, some 43, some 47, some 51, some 55, some 59, some 63, some 67, some 71, some 75] : List (Option Nat)).getD (nI day + 1).toNatClampNeg none = some (35 + 4 * (day + 1)) := by rw [nI_1]; exact mo_r (by omega)
    have koff : ∀ {M1 M2 : j_M}, KK day M M1 → Off1 (35 + 4 * (day + 1)) M1 M2 → KK day M M2 := fun h1 h2 => h1.tr (KK.off h2 eA (by omega))
    have hle : nI day ≤ M 22 3 := by rw [hT.2.2.1]; exact nI_le (by omega) (by omega)
    have hTK : ∀ {M1 : j_M}, KK day M M1 → TC c h last md mt M1 := fun h1 => by unfold TC at *; rw [h1 22 (by omega)]; exact hT
    have hMK : ∀ {M1 : j_M}, KK day M M1 → MoodAt M1 (35 + 4 * day) (g_ta s 0) 9 m := fun h1 => hM.cong (h1 _ (by omega)) (h1 _ (by omega)) (h1 _ (by omega)) (h1 _ (by omega))
    have hwE : MoW (g_en s) (10000 * (day + 1)) (eve (g_en s) 9 m) := by
      have h1 := eveW (tr := 9) hws.en hw
      exact ⟨fun i => Nat.le_trans (h1.1 i) (by omega), h1.2⟩
    have hwB := brgsW hws.en hts hd30 (g_bs s day) _ _ (fun q hq => (g_bs_wf hws day q hq).2) hw
    have hlen := g_bs_len hws day
    have hwA : ∃ b, b ≤ 10000 * day + 4100 ∧ MoW (g_en s) b (awk s h day md mt m) := by
      unfold awk
      by_cases hd : day = md
      · rw [if_pos hd]; exact ⟨_, by omega, brgW hws.en hts hd30 hmt hwB⟩
      · rw [if_neg hd]; exact ⟨_, by omega, hwB⟩
    obtain ⟨bA, hbA, hwA1⟩ := hwA
    have hwAE : MoW (g_en s) (10000 * (day + 1)) (eve (g_en s) 9 (awk s h day md mt m)) := by
      have h1 := eveW (tr := 9) hws.en hwA1
      exact ⟨fun i => Nat.le_trans (h1.1 i) (by omega), h1.2⟩
    have b1 := wgF_le s h md mt hc r (day + 1) (eve (g_en s) 9 m)
    have b2 := wgF_le s h md mt hc r (day + 1) (eve (g_en s) 9 (awk s h day md mt m))
    have S122 : ∀ (M1 : j_M) (A w1 : Nat) (z : Int32), KK day M M1 → A ≤ 16 → w1 + (16 - A) * wgF s c h md mt r (day + 1) (eve (g_en s) 9 (awk s h day md mt m)) = wgF s c h md mt (r + 1) day m → j_W (d + 4 + (r + 1)) I_Ch_weighFrom X 122 [some (.ref 22), some (.int (nI day)), some (.ref 15), some (.ref (35 + 4 * day)), some (.ref (35 + 4 * (day + 1))), some (.int z), some (.int (nI A)), some (.long (lN w1)), none] [] M1 := by
      intro M1 A w1 z hK hA hsum
      by_cases h16 : A = 16
      · subst h16
        rw [show (16 - 16) * wgF s c h md mt r (day + 1) (eve (g_en s) 9 (awk s h day md mt m)) = 0 by rw [Nat.sub_self, Nat.zero_mul], Nat.add_zero] at hsum
        rw [← hsum] at k
        refine jx_iload6 (pc := 122) d_Ch_weighFrom_122 ?_
        refine jx_bipush (pc := 124) (v := 16) d_Ch_weighFrom_124 (by decide) ?_
        refine jx_icmp_ge (pc := 126) 190 d_Ch_weighFrom_126 (by decide) (fun c126 => ?_) (fun c126 => absurd c126 (fun q => q (show nI 16 ≤ nI 16 from Int32.le_refl _)))
        refine jx_lload7 (pc := 190) d_Ch_weighFrom_190 ?_
        refine jx_lret (pc := 192) hX rfl d_Ch_weighFrom_192 ?_
        rotate_left
        exact k M1 hK
      · have hAl : ¬ (16 : Int32) ≤ nI A := (show ¬ nI 16 ≤ nI A from nI_ge (by omega) (by omega))
        have S165 : ∀ (M2 : j_M), KK day M M2 → MoodAt M2 (35 + 4 * (day + 1)) (g_ta s 0) 9 (awk s h day md mt m) → j_W (d + 4 + (r + 1)) I_Ch_weighFrom X 165 [some (.ref 22), some (.int (nI day)), some (.ref 15), some (.ref (35 + 4 * day)), some (.ref (35 + 4 * (day + 1))), some (.int z), some (.int (nI A)), some (.long (lN w1)), none] [] M2 := by
          intro M2 hK2 hM2
          have hE := ((hK2.scr.rep hR).ce hws).1
          refine jx_aload2 (pc := 165) d_Ch_weighFrom_165 ?_
          refine jx_aload4 (pc := 166) d_Ch_weighFrom_166 ?_
          refine jx_callV1 (pc := 168) (d' := d + 2) vo_Co_evening lk_Ch_58 d_Ch_weighFrom_168 ad_15 sh_15 rfl (by omega) (Nat.le_of_ble_eq_true rfl) ?_
          refine c_Co_evening (d := d + 1) hm1 hE hM2 hwA1 (by omega) (Or.inr rfl) (fun M3 hM3 hO3 => ?_)
          refine jx_r0 ?_
          refine jx_lload7 (pc := 171) d_Ch_weighFrom_171 ?_
          refine jx_bipush (pc := 173) (v := 16) d_Ch_weighFrom_173 (by decide) ?_
          refine jx_iload6 (pc := 175) d_Ch_weighFrom_175 ?_
          refine jx_isub (pc := 177) d_Ch_weighFrom_177 ?_
          refine jx_i2l (pc := 178) d_Ch_weighFrom_178 ?_
          refine jx_aload0 (pc := 179) d_Ch_weighFrom_179 ?_
          refine jx_iload1 (pc := 180) d_Ch_weighFrom_180 ?_
          refine jx_iconst (pc := 181) (v := 1) d_Ch_weighFrom_181 (by decide) ?_
          refine jx_iadd (pc := 182) d_Ch_weighFrom_182 ?_
          refine jx_callS2 (pc := 183) (d' := d + 4 + r) so_Ch_weighFrom lk_Ch_43 d_Ch_weighFrom_183 (by omega) (Nat.le_of_ble_eq_true rfl) ?_
          rw [nI_1]
          refine ih (day + 1) _ M3 _ (by omega) ((koff hK2 hO3).scr.rep hR) (hTK (koff hK2 hO3)) hM3 hwAE (fun M4 hK4 => ?_)
          refine jx_r1 ?_
          refine jx_lmul (pc := 186) d_Ch_weighFrom_186 ?_
          refine jx_ladd (pc := 187) d_Ch_weighFrom_187 ?_
          refine jx_lstore7 (pc := 188) d_Ch_weighFrom_188 rfl (Nat.le_of_ble_eq_true rfl) ?_
          refine jx_lload7 (pc := 190) d_Ch_weighFrom_190 ?_
          refine jx_lret (pc := 192) hX rfl d_Ch_weighFrom_192 ?_
          rotate_left
          rw [show (16 : Int32) - nI A = nI (16 - A) from nI_sub (a := 16) hA, nI_l (show 16 - A < 2 ^ 31 by omega), lN_mul, lN_add, hsum]
          exact k M4 ((koff hK2 hO3).tr hK4.up)
        by_cases hd : day = md
        · have hawk : awk s h day md mt m = brg (g_en s) (g_ta s 0) day h mt (brgs (g_en s) (g_ta s 0) day (g_bs s day) m) := by unfold awk; rw [if_pos hd]
          refine jx_iload6 (pc := 122) d_Ch_weighFrom_122 ?_
          refine jx_bipush (pc := 124) (v := 16) d_Ch_weighFrom_124 (by decide) ?_
          refine jx_icmp_ge (pc := 126) 190 d_Ch_weighFrom_126 (by decide) (fun c126 => absurd c126 hAl) (fun c126 => ?_)
          refine jx_aload4 (pc := 129) d_Ch_weighFrom_129 ?_
          refine jx_aload3 (pc := 131) d_Ch_weighFrom_131 ?_
          refine jx_callV1 (pc := 132) (d' := d + 2) vo_Mo_become lk_Ch_54 d_Ch_weighFrom_132 (mo_a hm1) (mo_s hm1) rfl (by omega) (Nat.le_of_ble_eq_true rfl) ?_
          refine c_Mo_become (d := d) hm1 hm0 (by omega) (hMK hK) (fun M2 hM2 hO2 => ?_)
          have hK2 : KK day M M2 := koff hK hO2
          have hC2 := (hK2.scr.rep hR).ce hws
          refine jx_r0 ?_
          refine jx_aload2 (pc := 135) d_Ch_weighFrom_135 ?_
          refine jx_aload4 (pc := 136) d_Ch_weighFrom_136 ?_
          refine jx_iload1 (pc := 138) d_Ch_weighFrom_138 ?_
          refine jx_callV2 (pc := 139) (d' := d + 1) vo_Co_comeAsTold lk_Ch_61 d_Ch_weighFrom_139 ad_15 sh_15 rfl (by omega) (Nat.le_of_ble_eq_true rfl) ?_
          refine c_Co_comeAsTold (d := d) hm1 hC2 hts hM2 hw (by omega) hd30 (fun M3 hM3 hO3 => ?_)
          have hK3 : KK day M M3 := koff hK2 hO3
          have hC3 := (hK3.scr.rep hR).ce hws
          have hT3 := hTK hK3
          refine jx_r0 ?_
          refine jx_iload1 (pc := 142) d_Ch_weighFrom_142 ?_
          refine jx_aload0 (pc := 143) d_Ch_weighFrom_143 ?_
          refine jx_getI (pc := 144) gf_Ch_25 d_Ch_weighFrom_144 ad_22 sh_22 rfl ?_
          refine jx_icmp_ne (pc := 147) 165 d_Ch_weighFrom_147 (by decide) (fun c147 => absurd c147 (fun q => q ((hT3.2.2.2.1 day (by omega)).mpr hd).symm)) (fun c147 => ?_)
          refine jx_aload2 (pc := 150) d_Ch_weighFrom_150 ?_
          refine jx_aload4 (pc := 151) d_Ch_weighFrom_151 ?_
          refine jx_iload1 (pc := 153) d_Ch_weighFrom_153 ?_
          refine jx_aload0 (pc := 154) d_Ch_weighFrom_154 ?_
          refine jx_getI (pc := 155) gf_Ch_19 d_Ch_weighFrom_155 ad_22 sh_22 rfl ?_
          refine jx_aload0 (pc := 158) d_Ch_weighFrom_158 ?_
          refine jx_getI (pc := 159) gf_Ch_28 d_Ch_weighFrom_159 ad_22 sh_22 rfl ?_
          refine jx_callV4 (pc := 162) (d' := d) vo_Co_bring lk_Ch_65 d_Ch_weighFrom_162 ad_15 sh_15 rfl (by omega) (Nat.le_of_ble_eq_true rfl) ?_
          rw [hT3.2.1, hT3.2.2.2.2 (by omega)]
          refine c_Co_bring hm1 hC3.1 hts hM3 hwB (by omega) hd30 (by omega) hmt (fun M4 hM4 hO4 => ?_)
          refine jx_r0 ?_
          rotate_left
          exact S165 M4 (koff hK3 hO4) (by rw [hawk]; exact hM4)
        · have hawk : awk s h day md mt m = brgs (g_en s) (g_ta s 0) day (g_bs s day) m := by unfold awk; rw [if_neg hd]
          refine jx_iload6 (pc := 122) d_Ch_weighFrom_122 ?_
          refine jx_bipush (pc := 124) (v := 16) d_Ch_weighFrom_124 (by decide) ?_
          refine jx_icmp_ge (pc := 126) 190 d_Ch_weighFrom_126 (by decide) (fun c126 => absurd c126 hAl) (fun c126 => ?_)
          refine jx_aload4 (pc := 129) d_Ch_weighFrom_129 ?_
          refine jx_aload3 (pc := 131) d_Ch_weighFrom_131 ?_
          refine jx_callV1 (pc := 132) (d' := d + 2) vo_Mo_become lk_Ch_54 d_Ch_weighFrom_132 (mo_a hm1) (mo_s hm1) rfl (by omega) (Nat.le_of_ble_eq_true rfl) ?_
          refine c_Mo_become (d := d) hm1 hm0 (by omega) (hMK hK) (fun M2 hM2 hO2 => ?_)
          have hK2 : KK day M M2 := koff hK hO2
          have hC2 := (hK2.scr.rep hR).ce hws
          refine jx_r0 ?_
          refine jx_aload2 (pc := 135) d_Ch_weighFrom_135 ?_
          refine jx_aload4 (pc := 136) d_Ch_weighFrom_136 ?_
          refine jx_iload1 (pc := 138) d_Ch_weighFrom_138 ?_
          refine jx_callV2 (pc := 139) (d' := d + 1) vo_Co_comeAsTold lk_Ch_61 d_Ch_weighFrom_139 ad_15 sh_15 rfl (by omega) (Nat.le_of_ble_eq_true rfl) ?_
          refine c_Co_comeAsTold (d := d) hm1 hC2 hts hM2 hw (by omega) hd30 (fun M3 hM3 hO3 => ?_)
          have hK3 : KK day M M3 := koff hK2 hO3
          have hC3 := (hK3.scr.rep hR).ce hws
          have hT3 := hTK hK3
          refine jx_r0 ?_
          refine jx_iload1 (pc := 142) d_Ch_weighFrom_142 ?_
          refine jx_aload0 (pc := 143) d_Ch_weighFrom_143 ?_
          refine jx_getI (pc := 144) gf_Ch_25 d_Ch_weighFrom_144 ad_22 sh_22 rfl ?_
          refine jx_icmp_ne (pc := 147) 165 d_Ch_weighFrom_147 (by decide) (fun c147 => ?_) (fun c147 => absurd c147 (fun q => hd ((hT3.2.2.2.1 day (by omega)).mp q.symm)))
          rotate_left
          exact S165 M3 hK3 (by rw [hawk]; exact hM3)
    have S86 : ∀ (M1 : j_M) (A : Nat) (z : Int32), KK day M M1 → A ≤ 16 → A * wgF s c h md mt r (day + 1) (eve (g_en s) 9 m) + (16 - A) * wgF s c h md mt r (day + 1) (eve (g_en s) 9 (awk s h day md mt m)) = wgF s c h md mt (r + 1) day m → j_W (d + 4 + (r + 1)) I_Ch_weighFrom X 86 [some (.ref 22), some (.int (nI day)), some (.ref 15), some (.ref (35 + 4 * day)), some (.ref (35 + 4 * (day + 1))), some (.int z), some (.int (nI A)), none, none] [] M1 := by
      intro M1 A z hK hA hsum
      by_cases h0 : A = 0
      · subst h0
        rw [Nat.zero_mul] at hsum
        refine jx_lconst (pc := 86) (v := 0) d_Ch_weighFrom_86 (by decide) ?_
        refine jx_lstore7 (pc := 87) d_Ch_weighFrom_87 rfl (Nat.le_of_ble_eq_true rfl) ?_
        refine jx_iload6 (pc := 89) d_Ch_weighFrom_89 ?_
        refine jx_if_le (pc := 91) 122 d_Ch_weighFrom_91 (by decide) (fun c91 => ?_) (fun c91 => absurd c91 (fun q => q (by decide)))
        rotate_left
        exact S122 M1 0 0 z hK (by omega) hsum
      · have hgt : ¬ nI A ≤ 0 := nI_ge (a := 0) (by omega) (by omega)
        refine jx_lconst (pc := 86) (v := 0) d_Ch_weighFrom_86 (by decide) ?_
        refine jx_lstore7 (pc := 87) d_Ch_weighFrom_87 rfl (Nat.le_of_ble_eq_true rfl) ?_
        refine jx_iload6 (pc := 89) d_Ch_weighFrom_89 ?_
        refine jx_if_le (pc := 91) 122 d_Ch_weighFrom_91 (by decide) (fun c91 => absurd c91 hgt) (fun c91 => ?_)
        refine jx_aload4 (pc := 94) d_Ch_weighFrom_94 ?_
        refine jx_aload3 (pc := 96) d_Ch_weighFrom_96 ?_
        refine jx_callV1 (pc := 97) (d' := d + 2) vo_Mo_become lk_Ch_54 d_Ch_weighFrom_97 (mo_a hm1) (mo_s hm1) rfl (by omega) (Nat.le_of_ble_eq_true rfl) ?_
        refine c_Mo_become (d := d) hm1 hm0 (by omega) (hMK hK) (fun M2 hM2 hO2 => ?_)
        have hK2 : KK day M M2 := koff hK hO2
        have hC2 := (hK2.scr.rep hR).ce hws
        refine jx_r0 ?_
        refine jx_aload2 (pc := 100) d_Ch_weighFrom_100 ?_
        refine jx_aload4 (pc := 101) d_Ch_weighFrom_101 ?_
        refine jx_callV1 (pc := 103) (d' := d + 2) vo_Co_evening lk_Ch_58 d_Ch_weighFrom_103 ad_15 sh_15 rfl (by omega) (Nat.le_of_ble_eq_true rfl) ?_
        refine c_Co_evening (d := d + 1) hm1 hC2.1 hM2 hw (by omega) (Or.inr rfl) (fun M3 hM3 hO3 => ?_)
        refine jx_r0 ?_
        refine jx_lload7 (pc := 106) d_Ch_weighFrom_106 ?_
        refine jx_iload6 (pc := 108) d_Ch_weighFrom_108 ?_
        refine jx_i2l (pc := 110) d_Ch_weighFrom_110 ?_
        refine jx_aload0 (pc := 111) d_Ch_weighFrom_111 ?_
        refine jx_iload1 (pc := 112) d_Ch_weighFrom_112 ?_
        refine jx_iconst (pc := 113) (v := 1) d_Ch_weighFrom_113 (by decide) ?_
        refine jx_iadd (pc := 114) d_Ch_weighFrom_114 ?_
        refine jx_callS2 (pc := 115) (d' := d + 4 + r) so_Ch_weighFrom lk_Ch_43 d_Ch_weighFrom_115 (by omega) (Nat.le_of_ble_eq_true rfl) ?_
        rw [nI_1]
        refine ih (day + 1) _ M3 _ (by omega) ((koff hK2 hO3).scr.rep hR) (hTK (koff hK2 hO3)) hM3 hwE (fun M4 hK4 => ?_)
        refine jx_r1 ?_
        refine jx_lmul (pc := 118) d_Ch_weighFrom_118 ?_
        refine jx_ladd (pc := 119) d_Ch_weighFrom_119 ?_
        refine jx_lstore7 (pc := 120) d_Ch_weighFrom_120 rfl (Nat.le_of_ble_eq_true rfl) ?_
        rotate_left
        rw [nI_l (show A < 2 ^ 31 by omega), lN_mul, show (0 : Int64) + lN (A * wgF s c h md mt r (day + 1) (eve (g_en s) 9 m)) = lN (A * wgF s c h md mt r (day + 1) (eve (g_en s) 9 m)) by rw [← lN_0, lN_add, Nat.zero_add]]
        exact S122 M4 A _ z ((koff hK2 hO3).tr hK4.up) hA hsum
    have hC := hR.ce hws
    have hcm := cmS_le hws day
    have hmdq := hT.2.2.2.1 day (by omega)
    by_cases hd : day = md
    · have hq : nI day = M 22 4 := (hmdq.mpr hd).symm
      refine jx_aload0 (pc := 0) d_Ch_weighFrom_0 ?_
      refine jx_getR (pc := 1) gf_Ch_9 d_Ch_weighFrom_1 ad_22 sh_22 rfl ?_
      refine jx_astore2 (pc := 4) d_Ch_weighFrom_4 rfl (Nat.le_of_ble_eq_true rfl) ?_
      refine jx_aload2 (pc := 5) d_Ch_weighFrom_5 ?_
      refine jx_getR (pc := 6) gf_Ch_31 d_Ch_weighFrom_6 ad_15 sh_15 rfl ?_
      refine jx_iload1 (pc := 9) d_Ch_weighFrom_9 ?_
      refine jx_aald (pc := 10) d_Ch_weighFrom_10 ad_16 (Or.inl rfl) sh_16 hi0 (mo_r (by omega)) ?_
      refine jx_astore3 (pc := 11) d_Ch_weighFrom_11 rfl (Nat.le_of_ble_eq_true rfl) ?_
      refine jx_iload1 (pc := 12) d_Ch_weighFrom_12 ?_
      refine jx_aload0 (pc := 13) d_Ch_weighFrom_13 ?_
      refine jx_getI (pc := 14) gf_Ch_22 d_Ch_weighFrom_14 ad_22 sh_22 rfl ?_
      refine jx_icmp_le (pc := 17) 37 d_Ch_weighFrom_17 (by decide) (fun c17 => ?_) (fun c17 => absurd c17 (fun q => q hle))
      refine jx_aload2 (pc := 37) d_Ch_weighFrom_37 ?_
      refine jx_getR (pc := 38) gf_Ch_31 d_Ch_weighFrom_38 ad_15 sh_15 rfl ?_
      refine jx_iload1 (pc := 41) d_Ch_weighFrom_41 ?_
      refine jx_iconst (pc := 42) (v := 1) d_Ch_weighFrom_42 (by decide) ?_
      refine jx_iadd (pc := 43) d_Ch_weighFrom_43 ?_
      refine jx_aald (pc := 44) d_Ch_weighFrom_44 ad_16 (Or.inl rfl) sh_16 hi1 hr1 ?_
      refine jx_astore4 (pc := 45) d_Ch_weighFrom_45 rfl (Nat.le_of_ble_eq_true rfl) ?_
      refine jx_iload1 (pc := 47) d_Ch_weighFrom_47 ?_
      refine jx_aload0 (pc := 48) d_Ch_weighFrom_48 ?_
      refine jx_getI (pc := 49) gf_Ch_25 d_Ch_weighFrom_49 ad_22 sh_22 rfl ?_
      refine jx_icmp_eq (pc := 52) 63 d_Ch_weighFrom_52 (by decide) (fun c52 => ?_) (fun c52 => absurd c52 (fun q => q hq))
      refine jx_iconst (pc := 63) (v := 1) d_Ch_weighFrom_63 (by decide) ?_
      refine jx_goto (pc := 64) 68 d_Ch_weighFrom_64 (by decide) ?_
      refine jx_istore5 (pc := 68) d_Ch_weighFrom_68 rfl (Nat.le_of_ble_eq_true rfl) ?_
      refine jx_iload5 (pc := 70) d_Ch_weighFrom_70 ?_
      refine jx_if_eq (pc := 72) 82 d_Ch_weighFrom_72 (by decide) (fun c72 => absurd c72 (by decide)) (fun c72 => ?_)
      refine jx_aload0 (pc := 75) d_Ch_weighFrom_75 ?_
      refine jx_getI (pc := 76) gf_Ch_15 d_Ch_weighFrom_76 ad_22 sh_22 rfl ?_
      refine jx_goto (pc := 79) 84 d_Ch_weighFrom_79 (by decide) ?_
      refine jx_istore6 (pc := 84) d_Ch_weighFrom_84 rfl (Nat.le_of_ble_eq_true rfl) ?_
      rotate_left
      rw [hT.1]
      exact S86 M c _ (fun _ _ => rfl) hc rfl
    · have hq : ¬ nI day = M 22 4 := fun q => hd (hmdq.mp q.symm)
      by_cases hz : cmS s day = 0
      · have hawk := awk_no (s := s) (h := h) (mt := mt) (m := m) hd hz
        have hzz : nI (cmS s day) ≤ 0 := by rw [hz]; exact Int32.le_refl _
        have hsum : 16 * wgF s c h md mt r (day + 1) (eve (g_en s) 9 m) + (16 - 16) * wgF s c h md mt r (day + 1) (eve (g_en s) 9 (awk s h day md mt m)) = wgF s c h md mt (r + 1) day m := by
          rw [show wgF s c h md mt (r + 1) day m = c * wgF s c h md mt r (day + 1) (eve (g_en s) 9 m) + (16 - c) * wgF s c h md mt r (day + 1) (eve (g_en s) 9 (awk s h day md mt m)) from rfl, hawk, ← Nat.add_mul, ← Nat.add_mul, show 16 + (16 - 16) = c + (16 - c) by omega]
        refine jx_aload0 (pc := 0) d_Ch_weighFrom_0 ?_
        refine jx_getR (pc := 1) gf_Ch_9 d_Ch_weighFrom_1 ad_22 sh_22 rfl ?_
        refine jx_astore2 (pc := 4) d_Ch_weighFrom_4 rfl (Nat.le_of_ble_eq_true rfl) ?_
        refine jx_aload2 (pc := 5) d_Ch_weighFrom_5 ?_
        refine jx_getR (pc := 6) gf_Ch_31 d_Ch_weighFrom_6 ad_15 sh_15 rfl ?_
        refine jx_iload1 (pc := 9) d_Ch_weighFrom_9 ?_
        refine jx_aald (pc := 10) d_Ch_weighFrom_10 ad_16 (Or.inl rfl) sh_16 hi0 (mo_r (by omega)) ?_
        refine jx_astore3 (pc := 11) d_Ch_weighFrom_11 rfl (Nat.le_of_ble_eq_true rfl) ?_
        refine jx_iload1 (pc := 12) d_Ch_weighFrom_12 ?_
        refine jx_aload0 (pc := 13) d_Ch_weighFrom_13 ?_
        refine jx_getI (pc := 14) gf_Ch_22 d_Ch_weighFrom_14 ad_22 sh_22 rfl ?_
        refine jx_icmp_le (pc := 17) 37 d_Ch_weighFrom_17 (by decide) (fun c17 => ?_) (fun c17 => absurd c17 (fun q => q hle))
        refine jx_aload2 (pc := 37) d_Ch_weighFrom_37 ?_
        refine jx_getR (pc := 38) gf_Ch_31 d_Ch_weighFrom_38 ad_15 sh_15 rfl ?_
        refine jx_iload1 (pc := 41) d_Ch_weighFrom_41 ?_
        refine jx_iconst (pc := 42) (v := 1) d_Ch_weighFrom_42 (by decide) ?_
        refine jx_iadd (pc := 43) d_Ch_weighFrom_43 ?_
        refine jx_aald (pc := 44) d_Ch_weighFrom_44 ad_16 (Or.inl rfl) sh_16 hi1 hr1 ?_
        refine jx_astore4 (pc := 45) d_Ch_weighFrom_45 rfl (Nat.le_of_ble_eq_true rfl) ?_
        refine jx_iload1 (pc := 47) d_Ch_weighFrom_47 ?_
        refine jx_aload0 (pc := 48) d_Ch_weighFrom_48 ?_
        refine jx_getI (pc := 49) gf_Ch_25 d_Ch_weighFrom_49 ad_22 sh_22 rfl ?_
        refine jx_icmp_eq (pc := 52) 63 d_Ch_weighFrom_52 (by decide) (fun c52 => absurd c52 hq) (fun c52 => ?_)
        refine jx_aload2 (pc := 55) d_Ch_weighFrom_55 ?_
        refine jx_iload1 (pc := 56) d_Ch_weighFrom_56 ?_
        refine jx_callV1 (pc := 57) (d' := d + 1) vo_Co_comersOn lk_Ch_50 d_Ch_weighFrom_57 ad_15 sh_15 rfl (by omega) (Nat.le_of_ble_eq_true rfl) ?_
        refine c_Co_comersOn (d := d) hws hC hR.1.2.1 hd30 ?_
        refine jx_r1 ?_
        refine jx_if_le (pc := 60) 67 d_Ch_weighFrom_60 (by decide) (fun c60 => ?_) (fun c60 => absurd c60 (fun q => q hzz))
        refine jx_iconst (pc := 67) (v := 0) d_Ch_weighFrom_67 (by decide) ?_
        refine jx_istore5 (pc := 68) d_Ch_weighFrom_68 rfl (Nat.le_of_ble_eq_true rfl) ?_
        refine jx_iload5 (pc := 70) d_Ch_weighFrom_70 ?_
        refine jx_if_eq (pc := 72) 82 d_Ch_weighFrom_72 (by decide) (fun c72 => ?_) (fun c72 => absurd c72 (fun q => q rfl))
        refine jx_bipush (pc := 82) (v := 16) d_Ch_weighFrom_82 (by decide) ?_
        refine jx_istore6 (pc := 84) d_Ch_weighFrom_84 rfl (Nat.le_of_ble_eq_true rfl) ?_
        rotate_left
        exact S86 M 16 _ (fun _ _ => rfl) (by omega) hsum
      · have hzz : ¬ nI (cmS s day) ≤ 0 := nI_ge (a := 0) (by omega) (by omega)
        refine jx_aload0 (pc := 0) d_Ch_weighFrom_0 ?_
        refine jx_getR (pc := 1) gf_Ch_9 d_Ch_weighFrom_1 ad_22 sh_22 rfl ?_
        refine jx_astore2 (pc := 4) d_Ch_weighFrom_4 rfl (Nat.le_of_ble_eq_true rfl) ?_
        refine jx_aload2 (pc := 5) d_Ch_weighFrom_5 ?_
        refine jx_getR (pc := 6) gf_Ch_31 d_Ch_weighFrom_6 ad_15 sh_15 rfl ?_
        refine jx_iload1 (pc := 9) d_Ch_weighFrom_9 ?_
        refine jx_aald (pc := 10) d_Ch_weighFrom_10 ad_16 (Or.inl rfl) sh_16 hi0 (mo_r (by omega)) ?_
        refine jx_astore3 (pc := 11) d_Ch_weighFrom_11 rfl (Nat.le_of_ble_eq_true rfl) ?_
        refine jx_iload1 (pc := 12) d_Ch_weighFrom_12 ?_
        refine jx_aload0 (pc := 13) d_Ch_weighFrom_13 ?_
        refine jx_getI (pc := 14) gf_Ch_22 d_Ch_weighFrom_14 ad_22 sh_22 rfl ?_
        refine jx_icmp_le (pc := 17) 37 d_Ch_weighFrom_17 (by decide) (fun c17 => ?_) (fun c17 => absurd c17 (fun q => q hle))
        refine jx_aload2 (pc := 37) d_Ch_weighFrom_37 ?_
        refine jx_getR (pc := 38) gf_Ch_31 d_Ch_weighFrom_38 ad_15 sh_15 rfl ?_
        refine jx_iload1 (pc := 41) d_Ch_weighFrom_41 ?_
        refine jx_iconst (pc := 42) (v := 1) d_Ch_weighFrom_42 (by decide) ?_
        refine jx_iadd (pc := 43) d_Ch_weighFrom_43 ?_
        refine jx_aald (pc := 44) d_Ch_weighFrom_44 ad_16 (Or.inl rfl) sh_16 hi1 hr1 ?_
        refine jx_astore4 (pc := 45) d_Ch_weighFrom_45 rfl (Nat.le_of_ble_eq_true rfl) ?_
        refine jx_iload1 (pc := 47) d_Ch_weighFrom_47 ?_
        refine jx_aload0 (pc := 48) d_Ch_weighFrom_48 ?_
        refine jx_getI (pc := 49) gf_Ch_25 d_Ch_weighFrom_49 ad_22 sh_22 rfl ?_
        refine jx_icmp_eq (pc := 52) 63 d_Ch_weighFrom_52 (by decide) (fun c52 => absurd c52 hq) (fun c52 => ?_)
        refine jx_aload2 (pc := 55) d_Ch_weighFrom_55 ?_
        refine jx_iload1 (pc := 56) d_Ch_weighFrom_56 ?_
        refine jx_callV1 (pc := 57) (d' := d + 1) vo_Co_comersOn lk_Ch_50 d_Ch_weighFrom_57 ad_15 sh_15 rfl (by omega) (Nat.le_of_ble_eq_true rfl) ?_
        refine c_Co_comersOn (d := d) hws hC hR.1.2.1 hd30 ?_
        refine jx_r1 ?_
        refine jx_if_le (pc := 60) 67 d_Ch_weighFrom_60 (by decide) (fun c60 => absurd c60 hzz) (fun c60 => ?_)
        refine jx_iconst (pc := 63) (v := 1) d_Ch_weighFrom_63 (by decide) ?_
        refine jx_goto (pc := 64) 68 d_Ch_weighFrom_64 (by decide) ?_
        refine jx_istore5 (pc := 68) d_Ch_weighFrom_68 rfl (Nat.le_of_ble_eq_true rfl) ?_
        refine jx_iload5 (pc := 70) d_Ch_weighFrom_70 ?_
        refine jx_if_eq (pc := 72) 82 d_Ch_weighFrom_72 (by decide) (fun c72 => absurd c72 (by decide)) (fun c72 => ?_)
        refine jx_aload0 (pc := 75) d_Ch_weighFrom_75 ?_
        refine jx_getI (pc := 76) gf_Ch_15 d_Ch_weighFrom_76 ad_22 sh_22 rfl ?_
        refine jx_goto (pc := 79) 84 d_Ch_weighFrom_79 (by decide) ?_
        refine jx_istore6 (pc := 84) d_Ch_weighFrom_84 rfl (Nat.le_of_ble_eq_true rfl) ?_
        rotate_left
        rw [hT.1]
        exact S86 M c _ (fun _ _ => rfl) hc rfl
