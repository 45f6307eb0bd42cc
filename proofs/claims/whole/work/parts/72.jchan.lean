/-! OPERATIONS of the component, fourteen: chances -/
def TC (c h last md mt : Nat) (M : j_M) : Prop := M 22 1 = nI c ∧ M 22 2 = nI h ∧ M 22 3 = nI last ∧ (∀ dd, dd < 10 → (M 22 4 = nI dd ↔ dd = md)) ∧ (md < 10 → M 22 5 = nI mt)
def WG (s : Sg) (c h last md mt r d' : Nat) : Prop := ∀ (day : Nat) (m : Mo) (M : j_M) (Q : Option Value → j_M → Prop), day + r = last + 1 → RepC s M → TC c h last md mt M → MoodAt M (35 + 4 * day) (g_ta s 0) 9 m → MoW (g_en s) (10000 * day) m → (∀ M', KK day M M' → Q (some (.long (lN (wgF s c h md mt r day m)))) M') → j_Ct d' I_Ch_weighFrom [.ref 22, .int (nI day)] M Q
theorem c_Ch_weighFrom {s : Sg} (hws : WF s) {c h last md mt : Nat} (hl : last < 10) (hc : c ≤ 16) (hh : h < g_hn s) (hmt : mt < 3) {d : Nat} : ∀ r, WG s c h last md mt r (d + 4 + r) := by
  have hn6 : g_hn s ≤ 6 := hnB_le hws.1
  have hts := hws.2.2.1 0
  intro r
  induction r with
  | zero =>
    intro day m M Q hn hR hT hM hw k
    refine j_met (by decide +kernel) co_Ch_weighFrom (Nat.le_of_ble_eq_true rfl) (fun X hX => ?_)
    show j_W (d + 4 + 0) I_Ch_weighFrom X 0 [some (.ref 22), some (.int (nI day)), none, none, none, none, none, none] [] M
    have hm0 : j_mo (35 + 4 * day) := ⟨day, by omega, rfl⟩
    have hfl : m.2.2.2.2 < g_hn s ∨ m.2.2.2.2 = 9 := hw.2.2.2.2.1
    have hfe : M (35 + 4 * day) 6 = M 22 2 ↔ m.2.2.2.2 = h := by rw [hM.2.2.2.2.2.2, hT.2.1]; exact em_eq (by omega) (by omega)
    have hgt : ¬ nI day ≤ M 22 3 := by rw [hT.2.2.1]; exact nI_ge (by omega) (by omega)
    by_cases hq : m.2.2.2.2 = h
    · have hv : wgF s c h md mt 0 day m = 1 := by unfold wgF; rw [if_pos hq]
      rw [hv] at k
      refine jx_aload0 (pc := 0) d_Ch_weighFrom_0 ?_
      refine jx_getR (pc := 1) gf_Ch_9 d_Ch_weighFrom_1 ad_22 sh_22 rfl ?_
      refine jx_getR (pc := 4) gf_Ch_31 d_Ch_weighFrom_4 ad_15 sh_15 rfl ?_
      refine jx_iload1 (pc := 7) d_Ch_weighFrom_7 ?_
      refine jx_aald (pc := 8) d_Ch_weighFrom_8 ad_16 (Or.inl rfl) sh_16 (vp_in_nI (by omega) (by omega)) (mo_r (by omega)) ?_
      refine jx_astore2 (pc := 9) d_Ch_weighFrom_9 rfl (Nat.le_of_ble_eq_true rfl) ?_
      refine jx_iload1 (pc := 10) d_Ch_weighFrom_10 ?_
      refine jx_aload0 (pc := 11) d_Ch_weighFrom_11 ?_
      refine jx_getI (pc := 12) gf_Ch_22 d_Ch_weighFrom_12 ad_22 sh_22 rfl ?_
      refine jx_icmp_le (pc := 15) 35 d_Ch_weighFrom_15 (by decide) (fun c15 => absurd c15 hgt) (fun c15 => ?_)
      refine jx_aload2 (pc := 18) d_Ch_weighFrom_18 ?_
      refine jx_getI (pc := 19) gf_Ch_47 d_Ch_weighFrom_19 (mo_a hm0) (mo_s hm0) rfl ?_
      refine jx_aload0 (pc := 22) d_Ch_weighFrom_22 ?_
      refine jx_getI (pc := 23) gf_Ch_19 d_Ch_weighFrom_23 ad_22 sh_22 rfl ?_
      refine jx_icmp_ne (pc := 26) 33 d_Ch_weighFrom_26 (by decide) (fun c26 => absurd c26 (fun z => z (hfe.mpr hq))) (fun c26 => ?_)
      refine jx_lconst (pc := 29) (v := 1) d_Ch_weighFrom_29 (by decide) ?_
      refine jx_goto (pc := 30) 34 d_Ch_weighFrom_30 (by decide) ?_
      refine jx_lret (pc := 34) hX rfl d_Ch_weighFrom_34 ?_
      rotate_left
      exact k M (fun _ _ => rfl)
    · have hv : wgF s c h md mt 0 day m = 0 := by unfold wgF; rw [if_neg hq]
      rw [hv] at k
      refine jx_aload0 (pc := 0) d_Ch_weighFrom_0 ?_
      refine jx_getR (pc := 1) gf_Ch_9 d_Ch_weighFrom_1 ad_22 sh_22 rfl ?_
      refine jx_getR (pc := 4) gf_Ch_31 d_Ch_weighFrom_4 ad_15 sh_15 rfl ?_
      refine jx_iload1 (pc := 7) d_Ch_weighFrom_7 ?_
      refine jx_aald (pc := 8) d_Ch_weighFrom_8 ad_16 (Or.inl rfl) sh_16 (vp_in_nI (by omega) (by omega)) (mo_r (by omega)) ?_
      refine jx_astore2 (pc := 9) d_Ch_weighFrom_9 rfl (Nat.le_of_ble_eq_true rfl) ?_
      refine jx_iload1 (pc := 10) d_Ch_weighFrom_10 ?_
      refine jx_aload0 (pc := 11) d_Ch_weighFrom_11 ?_
      refine jx_getI (pc := 12) gf_Ch_22 d_Ch_weighFrom_12 ad_22 sh_22 rfl ?_
      refine jx_icmp_le (pc := 15) 35 d_Ch_weighFrom_15 (by decide) (fun c15 => absurd c15 hgt) (fun c15 => ?_)
      refine jx_aload2 (pc := 18) d_Ch_weighFrom_18 ?_
      refine jx_getI (pc := 19) gf_Ch_47 d_Ch_weighFrom_19 (mo_a hm0) (mo_s hm0) rfl ?_
      refine jx_aload0 (pc := 22) d_Ch_weighFrom_22 ?_
      refine jx_getI (pc := 23) gf_Ch_19 d_Ch_weighFrom_23 ad_22 sh_22 rfl ?_
      refine jx_icmp_ne (pc := 26) 33 d_Ch_weighFrom_26 (by decide) (fun c26 => ?_) (fun c26 => absurd c26 (fun z => hq (hfe.mp z)))
      refine jx_lconst (pc := 33) (v := 0) d_Ch_weighFrom_33 (by decide) ?_
      refine jx_lret (pc := 34) hX rfl d_Ch_weighFrom_34 ?_
      rotate_left
      exact k M (fun _ _ => rfl)
  | succ r ih =>
    intro day m M Q hn hR hT hM hw k
    refine j_met (by decide +kernel) co_Ch_weighFrom (Nat.le_of_ble_eq_true rfl) (fun X hX => ?_)
    show j_W (d + 4 + (r + 1)) I_Ch_weighFrom X 0 [some (.ref 22), some (.int (nI day)), none, none, none, none, none, none] [] M
    have hm0 : j_mo (35 + 4 * day) := ⟨day, by omega, rfl⟩
    have hm1 : j_mo (35 + 4 * (day + 1)) := ⟨day + 1, by omega, rfl⟩
    have hd30 : day < 30 := by omega
    have eA : 35 + 4 * (day + 1) = 39 + 4 * day := by omega
    have hi1 : vp_in (nI day + 1) 11 := by rw [nI_1]; exact vp_in_nI (by omega) (by omega)
    have hi0 : vp_in (nI day) 11 := vp_in_nI (by omega) (by omega)
    have hr1 : ([some 35, some 39, some 43, some 47, some 51, some 55, some 59, some 63, some 67, some 71, some 75] : List (Option Nat)).getD (nI day + 1).toNatClampNeg none = some (35 + 4 * (day + 1)) := by rw [nI_1]; exact mo_r (by omega)
    have koff : ∀ {M1 M2 : j_M}, KK day M M1 → Off1 (35 + 4 * (day + 1)) M1 M2 → KK day M M2 := fun h1 h2 => h1.tr (KK.off h2 eA (by omega))
    have hle : nI day ≤ M 22 3 := by rw [hT.2.2.1]; exact nI_le (by omega) (by omega)
    have hTK : ∀ {M1 : j_M}, KK day M M1 → TC c h last md mt M1 := fun h1 => by unfold TC at *; rw [h1 22 (by omega)]; exact hT
    have hMK : ∀ {M1 : j_M}, KK day M M1 → MoodAt M1 (35 + 4 * day) (g_ta s 0) 9 m := fun h1 => hM.cong (h1 _ (by omega)) (h1 _ (by omega)) (h1 _ (by omega)) (h1 _ (by omega))
    have hwE : MoW (g_en s) (10000 * (day + 1)) (eve (g_en s) 9 m) := by
      have h1 := eveW (tr := 9) hws.en hw
      exact ⟨fun i => Nat.le_trans (h1.1 i) (by omega), h1.2⟩
    have hwB := brgsW hws.en hts hd30 (g_bs s day) _ _ (fun q hq => (g_bs_wf hws day q hq).2) hw
    have hlen := g_bs_len hws day
    have hwA : ∃ b, b ≤ 10000 * day + 4100 ∧ MoW (g_en s) b (awk s h day md mt m) := by
      unfold awk
      by_cases hd : day = md
      · rw [if_pos hd]; exact ⟨_, by omega, brgW hws.en hts hd30 hmt hwB⟩
      · rw [if_neg hd]; exact ⟨_, by omega, hwB⟩
    obtain ⟨bA, hbA, hwA1⟩ := hwA
    have hwAE : MoW (g_en s) (10000 * (day + 1)) (eve (g_en s) 9 (awk s h day md mt m)) := by
      have h1 := eveW (tr := 9) hws.en hwA1
      exact ⟨fun i => Nat.le_trans (h1.1 i) (by omega), h1.2⟩
    have b1 := wgF_le s h md mt hc r (day + 1) (eve (g_en s) 9 m)
    have b2 := wgF_le s h md mt hc r (day + 1) (eve (g_en s) 9 (awk s h day md mt m))
    have S126 : ∀ (M1 : j_M) (A w1 : Nat) (z : Int32), KK day M M1 → A ≤ 16 → w1 + (16 - A) * wgF s c h md mt r (day + 1) (eve (g_en s) 9 (awk s h day md mt m)) = wgF s c h md mt (r + 1) day m → j_W (d + 4 + (r + 1)) I_Ch_weighFrom X 126 [some (.ref 22), some (.int (nI day)), some (.ref (35 + 4 * day)), some (.ref (35 + 4 * (day + 1))), some (.int z), some (.int (nI A)), some (.long (lN w1)), none] [] M1 := by
      intro M1 A w1 z hK hA hsum
      by_cases h16 : A = 16
      · subst h16
        rw [show (16 - 16) * wgF s c h md mt r (day + 1) (eve (g_en s) 9 (awk s h day md mt m)) = 0 by rw [Nat.sub_self, Nat.zero_mul], Nat.add_zero] at hsum
        rw [← hsum] at k
        refine jx_iload5 (pc := 126) d_Ch_weighFrom_126 ?_
        refine jx_bipush (pc := 128) (v := 16) d_Ch_weighFrom_128 (by decide) ?_
        refine jx_icmp_ge (pc := 130) 199 d_Ch_weighFrom_130 (by decide) (fun c130 => ?_) (fun c130 => absurd c130 (fun q => q (show nI 16 ≤ nI 16 from Int32.le_refl _)))
        refine jx_lload6 (pc := 199) d_Ch_weighFrom_199 ?_
        refine jx_lret (pc := 201) hX rfl d_Ch_weighFrom_201 ?_
        rotate_left
        exact k M1 hK
      · have hAl : ¬ (16 : Int32) ≤ nI A := (show ¬ nI 16 ≤ nI A from nI_ge (by omega) (by omega))
        have S172 : ∀ (M2 : j_M), KK day M M2 → MoodAt M2 (35 + 4 * (day + 1)) (g_ta s 0) 9 (awk s h day md mt m) → j_W (d + 4 + (r + 1)) I_Ch_weighFrom X 172 [some (.ref 22), some (.int (nI day)), some (.ref (35 + 4 * day)), some (.ref (35 + 4 * (day + 1))), some (.int z), some (.int (nI A)), some (.long (lN w1)), none] [] M2 := by
          intro M2 hK2 hM2
          have hE := ((hK2.scr.rep hR).ce hws).1
          refine jx_aload0 (pc := 172) d_Ch_weighFrom_172 ?_
          refine jx_getR (pc := 173) gf_Ch_9 d_Ch_weighFrom_173 ad_22 sh_22 rfl ?_
          refine jx_aload3 (pc := 176) d_Ch_weighFrom_176 ?_
          refine jx_callV1 (pc := 177) (d' := d + 2) vo_Co_evening lk_Ch_58 d_Ch_weighFrom_177 ad_15 sh_15 rfl (by omega) (Nat.le_of_ble_eq_true rfl) ?_
          refine c_Co_evening (d := d + 1) hm1 hE hM2 hwA1 (by omega) (Or.inr rfl) (fun M3 hM3 hO3 => ?_)
          refine jx_r0 ?_
          refine jx_lload6 (pc := 180) d_Ch_weighFrom_180 ?_
          refine jx_bipush (pc := 182) (v := 16) d_Ch_weighFrom_182 (by decide) ?_
          refine jx_iload5 (pc := 184) d_Ch_weighFrom_184 ?_
          refine jx_isub (pc := 186) d_Ch_weighFrom_186 ?_
          refine jx_i2l (pc := 187) d_Ch_weighFrom_187 ?_
          refine jx_aload0 (pc := 188) d_Ch_weighFrom_188 ?_
          refine jx_iload1 (pc := 189) d_Ch_weighFrom_189 ?_
          refine jx_iconst (pc := 190) (v := 1) d_Ch_weighFrom_190 (by decide) ?_
          refine jx_iadd (pc := 191) d_Ch_weighFrom_191 ?_
          refine jx_callV1 (pc := 192) (d' := d + 4 + r) vo_Ch_weighFrom lk_Ch_43 d_Ch_weighFrom_192 ad_22 sh_22 rfl (by omega) (Nat.le_of_ble_eq_true rfl) ?_
          rw [nI_1]
          refine ih (day + 1) _ M3 _ (by omega) ((koff hK2 hO3).scr.rep hR) (hTK (koff hK2 hO3)) hM3 hwAE (fun M4 hK4 => ?_)
          refine jx_r1 ?_
          refine jx_lmul (pc := 195) d_Ch_weighFrom_195 ?_
          refine jx_ladd (pc := 196) d_Ch_weighFrom_196 ?_
          refine jx_lstore6 (pc := 197) d_Ch_weighFrom_197 rfl (Nat.le_of_ble_eq_true rfl) ?_
          refine jx_lload6 (pc := 199) d_Ch_weighFrom_199 ?_
          refine jx_lret (pc := 201) hX rfl d_Ch_weighFrom_201 ?_
          rotate_left
          rw [show (16 : Int32) - nI A = nI (16 - A) from nI_sub (a := 16) hA, nI_l (show 16 - A < 2 ^ 31 by omega), lN_mul, lN_add, hsum]
          exact k M4 ((koff hK2 hO3).tr hK4.up)
        by_cases hd : day = md
        · have hawk : awk s h day md mt m = brg (g_en s) (g_ta s 0) day h mt (brgs (g_en s) (g_ta s 0) day (g_bs s day) m) := by unfold awk; rw [if_pos hd]
          refine jx_iload5 (pc := 126) d_Ch_weighFrom_126 ?_
          refine jx_bipush (pc := 128) (v := 16) d_Ch_weighFrom_128 (by decide) ?_
          refine jx_icmp_ge (pc := 130) 199 d_Ch_weighFrom_130 (by decide) (fun c130 => absurd c130 hAl) (fun c130 => ?_)
          refine jx_aload3 (pc := 133) d_Ch_weighFrom_133 ?_
          refine jx_aload2 (pc := 134) d_Ch_weighFrom_134 ?_
          refine jx_callV1 (pc := 135) (d' := d + 2) vo_Mo_become lk_Ch_54 d_Ch_weighFrom_135 (mo_a hm1) (mo_s hm1) rfl (by omega) (Nat.le_of_ble_eq_true rfl) ?_
          refine c_Mo_become (d := d) hm1 hm0 (by omega) (hMK hK) (fun M2 hM2 hO2 => ?_)
          have hK2 : KK day M M2 := koff hK hO2
          have hC2 := (hK2.scr.rep hR).ce hws
          refine jx_r0 ?_
          refine jx_aload0 (pc := 138) d_Ch_weighFrom_138 ?_
          refine jx_getR (pc := 139) gf_Ch_9 d_Ch_weighFrom_139 ad_22 sh_22 rfl ?_
          refine jx_aload3 (pc := 142) d_Ch_weighFrom_142 ?_
          refine jx_iload1 (pc := 143) d_Ch_weighFrom_143 ?_
          refine jx_callV2 (pc := 144) (d' := d + 1) vo_Co_comeAsTold lk_Ch_61 d_Ch_weighFrom_144 ad_15 sh_15 rfl (by omega) (Nat.le_of_ble_eq_true rfl) ?_
          refine c_Co_comeAsTold (d := d) hm1 hC2 hts hM2 hw (by omega) hd30 (fun M3 hM3 hO3 => ?_)
          have hK3 : KK day M M3 := koff hK2 hO3
          have hC3 := (hK3.scr.rep hR).ce hws
          have hT3 := hTK hK3
          refine jx_r0 ?_
          refine jx_iload1 (pc := 147) d_Ch_weighFrom_147 ?_
          refine jx_aload0 (pc := 148) d_Ch_weighFrom_148 ?_
          refine jx_getI (pc := 149) gf_Ch_25 d_Ch_weighFrom_149 ad_22 sh_22 rfl ?_
          refine jx_icmp_ne (pc := 152) 172 d_Ch_weighFrom_152 (by decide) (fun c152 => absurd c152 (fun q => q ((hT3.2.2.2.1 day (by omega)).mpr hd).symm)) (fun c152 => ?_)
          refine jx_aload0 (pc := 155) d_Ch_weighFrom_155 ?_
          refine jx_getR (pc := 156) gf_Ch_9 d_Ch_weighFrom_156 ad_22 sh_22 rfl ?_
          refine jx_aload3 (pc := 159) d_Ch_weighFrom_159 ?_
          refine jx_iload1 (pc := 160) d_Ch_weighFrom_160 ?_
          refine jx_aload0 (pc := 161) d_Ch_weighFrom_161 ?_
          refine jx_getI (pc := 162) gf_Ch_19 d_Ch_weighFrom_162 ad_22 sh_22 rfl ?_
          refine jx_aload0 (pc := 165) d_Ch_weighFrom_165 ?_
          refine jx_getI (pc := 166) gf_Ch_28 d_Ch_weighFrom_166 ad_22 sh_22 rfl ?_
          refine jx_callV4 (pc := 169) (d' := d) vo_Co_bring lk_Ch_65 d_Ch_weighFrom_169 ad_15 sh_15 rfl (by omega) (Nat.le_of_ble_eq_true rfl) ?_
          rw [hT3.2.1, hT3.2.2.2.2 (by omega)]
          refine c_Co_bring hm1 hC3.1 hts hM3 hwB (by omega) hd30 (by omega) hmt (fun M4 hM4 hO4 => ?_)
          refine jx_r0 ?_
          rotate_left
          exact S172 M4 (koff hK3 hO4) (by rw [hawk]; exact hM4)
        · have hawk : awk s h day md mt m = brgs (g_en s) (g_ta s 0) day (g_bs s day) m := by unfold awk; rw [if_neg hd]
          refine jx_iload5 (pc := 126) d_Ch_weighFrom_126 ?_
          refine jx_bipush (pc := 128) (v := 16) d_Ch_weighFrom_128 (by decide) ?_
          refine jx_icmp_ge (pc := 130) 199 d_Ch_weighFrom_130 (by decide) (fun c130 => absurd c130 hAl) (fun c130 => ?_)
          refine jx_aload3 (pc := 133) d_Ch_weighFrom_133 ?_
          refine jx_aload2 (pc := 134) d_Ch_weighFrom_134 ?_
          refine jx_callV1 (pc := 135) (d' := d + 2) vo_Mo_become lk_Ch_54 d_Ch_weighFrom_135 (mo_a hm1) (mo_s hm1) rfl (by omega) (Nat.le_of_ble_eq_true rfl) ?_
          refine c_Mo_become (d := d) hm1 hm0 (by omega) (hMK hK) (fun M2 hM2 hO2 => ?_)
          have hK2 : KK day M M2 := koff hK hO2
          have hC2 := (hK2.scr.rep hR).ce hws
          refine jx_r0 ?_
          refine jx_aload0 (pc := 138) d_Ch_weighFrom_138 ?_
          refine jx_getR (pc := 139) gf_Ch_9 d_Ch_weighFrom_139 ad_22 sh_22 rfl ?_
          refine jx_aload3 (pc := 142) d_Ch_weighFrom_142 ?_
          refine jx_iload1 (pc := 143) d_Ch_weighFrom_143 ?_
          refine jx_callV2 (pc := 144) (d' := d + 1) vo_Co_comeAsTold lk_Ch_61 d_Ch_weighFrom_144 ad_15 sh_15 rfl (by omega) (Nat.le_of_ble_eq_true rfl) ?_
          refine c_Co_comeAsTold (d := d) hm1 hC2 hts hM2 hw (by omega) hd30 (fun M3 hM3 hO3 => ?_)
          have hK3 : KK day M M3 := koff hK2 hO3
          have hC3 := (hK3.scr.rep hR).ce hws
          have hT3 := hTK hK3
          refine jx_r0 ?_
          refine jx_iload1 (pc := 147) d_Ch_weighFrom_147 ?_
          refine jx_aload0 (pc := 148) d_Ch_weighFrom_148 ?_
          refine jx_getI (pc := 149) gf_Ch_25 d_Ch_weighFrom_149 ad_22 sh_22 rfl ?_
          refine jx_icmp_ne (pc := 152) 172 d_Ch_weighFrom_152 (by decide) (fun c152 => ?_) (fun c152 => absurd c152 (fun q => hd ((hT3.2.2.2.1 day (by omega)).mp q.symm)))
          rotate_left
          exact S172 M3 hK3 (by rw [hawk]; exact hM3)
    have S89 : ∀ (M1 : j_M) (A : Nat) (z : Int32), KK day M M1 → A ≤ 16 → A * wgF s c h md mt r (day + 1) (eve (g_en s) 9 m) + (16 - A) * wgF s c h md mt r (day + 1) (eve (g_en s) 9 (awk s h day md mt m)) = wgF s c h md mt (r + 1) day m → j_W (d + 4 + (r + 1)) I_Ch_weighFrom X 89 [some (.ref 22), some (.int (nI day)), some (.ref (35 + 4 * day)), some (.ref (35 + 4 * (day + 1))), some (.int z), some (.int (nI A)), none, none] [] M1 := by
      intro M1 A z hK hA hsum
      by_cases h0 : A = 0
      · subst h0
        rw [Nat.zero_mul] at hsum
        refine jx_lconst (pc := 89) (v := 0) d_Ch_weighFrom_89 (by decide) ?_
        refine jx_lstore6 (pc := 90) d_Ch_weighFrom_90 rfl (Nat.le_of_ble_eq_true rfl) ?_
        refine jx_iload5 (pc := 92) d_Ch_weighFrom_92 ?_
        refine jx_if_le (pc := 94) 126 d_Ch_weighFrom_94 (by decide) (fun c94 => ?_) (fun c94 => absurd c94 (fun q => q (by decide)))
        rotate_left
        exact S126 M1 0 0 z hK (by omega) hsum
      · have hgt : ¬ nI A ≤ 0 := nI_ge (a := 0) (by omega) (by omega)
        refine jx_lconst (pc := 89) (v := 0) d_Ch_weighFrom_89 (by decide) ?_
        refine jx_lstore6 (pc := 90) d_Ch_weighFrom_90 rfl (Nat.le_of_ble_eq_true rfl) ?_
        refine jx_iload5 (pc := 92) d_Ch_weighFrom_92 ?_
        refine jx_if_le (pc := 94) 126 d_Ch_weighFrom_94 (by decide) (fun c94 => absurd c94 hgt) (fun c94 => ?_)
        refine jx_aload3 (pc := 97) d_Ch_weighFrom_97 ?_
        refine jx_aload2 (pc := 98) d_Ch_weighFrom_98 ?_
        refine jx_callV1 (pc := 99) (d' := d + 2) vo_Mo_become lk_Ch_54 d_Ch_weighFrom_99 (mo_a hm1) (mo_s hm1) rfl (by omega) (Nat.le_of_ble_eq_true rfl) ?_
        refine c_Mo_become (d := d) hm1 hm0 (by omega) (hMK hK) (fun M2 hM2 hO2 => ?_)
        have hK2 : KK day M M2 := koff hK hO2
        have hC2 := (hK2.scr.rep hR).ce hws
        refine jx_r0 ?_
        refine jx_aload0 (pc := 102) d_Ch_weighFrom_102 ?_
        refine jx_getR (pc := 103) gf_Ch_9 d_Ch_weighFrom_103 ad_22 sh_22 rfl ?_
        refine jx_aload3 (pc := 106) d_Ch_weighFrom_106 ?_
        refine jx_callV1 (pc := 107) (d' := d + 2) vo_Co_evening lk_Ch_58 d_Ch_weighFrom_107 ad_15 sh_15 rfl (by omega) (Nat.le_of_ble_eq_true rfl) ?_
        refine c_Co_evening (d := d + 1) hm1 hC2.1 hM2 hw (by omega) (Or.inr rfl) (fun M3 hM3 hO3 => ?_)
        refine jx_r0 ?_
        refine jx_lload6 (pc := 110) d_Ch_weighFrom_110 ?_
        refine jx_iload5 (pc := 112) d_Ch_weighFrom_112 ?_
        refine jx_i2l (pc := 114) d_Ch_weighFrom_114 ?_
        refine jx_aload0 (pc := 115) d_Ch_weighFrom_115 ?_
        refine jx_iload1 (pc := 116) d_Ch_weighFrom_116 ?_
        refine jx_iconst (pc := 117) (v := 1) d_Ch_weighFrom_117 (by decide) ?_
        refine jx_iadd (pc := 118) d_Ch_weighFrom_118 ?_
        refine jx_callV1 (pc := 119) (d' := d + 4 + r) vo_Ch_weighFrom lk_Ch_43 d_Ch_weighFrom_119 ad_22 sh_22 rfl (by omega) (Nat.le_of_ble_eq_true rfl) ?_
        rw [nI_1]
        refine ih (day + 1) _ M3 _ (by omega) ((koff hK2 hO3).scr.rep hR) (hTK (koff hK2 hO3)) hM3 hwE (fun M4 hK4 => ?_)
        refine jx_r1 ?_
        refine jx_lmul (pc := 122) d_Ch_weighFrom_122 ?_
        refine jx_ladd (pc := 123) d_Ch_weighFrom_123 ?_
        refine jx_lstore6 (pc := 124) d_Ch_weighFrom_124 rfl (Nat.le_of_ble_eq_true rfl) ?_
        rotate_left
        rw [nI_l (show A < 2 ^ 31 by omega), lN_mul, show (0 : Int64) + lN (A * wgF s c h md mt r (day + 1) (eve (g_en s) 9 m)) = lN (A * wgF s c h md mt r (day + 1) (eve (g_en s) 9 m)) by rw [← lN_0, lN_add, Nat.zero_add]]
        exact S126 M4 A _ z ((koff hK2 hO3).tr hK4.up) hA hsum
    have hC := hR.ce hws
    have hcm := cmS_le hws day
    have hmdq := hT.2.2.2.1 day (by omega)
    by_cases hd : day = md
    · have hq : nI day = M 22 4 := (hmdq.mpr hd).symm
      refine jx_aload0 (pc := 0) d_Ch_weighFrom_0 ?_
      refine jx_getR (pc := 1) gf_Ch_9 d_Ch_weighFrom_1 ad_22 sh_22 rfl ?_
      refine jx_getR (pc := 4) gf_Ch_31 d_Ch_weighFrom_4 ad_15 sh_15 rfl ?_
      refine jx_iload1 (pc := 7) d_Ch_weighFrom_7 ?_
      refine jx_aald (pc := 8) d_Ch_weighFrom_8 ad_16 (Or.inl rfl) sh_16 hi0 (mo_r (by omega)) ?_
      refine jx_astore2 (pc := 9) d_Ch_weighFrom_9 rfl (Nat.le_of_ble_eq_true rfl) ?_
      refine jx_iload1 (pc := 10) d_Ch_weighFrom_10 ?_
      refine jx_aload0 (pc := 11) d_Ch_weighFrom_11 ?_
      refine jx_getI (pc := 12) gf_Ch_22 d_Ch_weighFrom_12 ad_22 sh_22 rfl ?_
      refine jx_icmp_le (pc := 15) 35 d_Ch_weighFrom_15 (by decide) (fun c15 => ?_) (fun c15 => absurd c15 (fun q => q hle))
      refine jx_aload0 (pc := 35) d_Ch_weighFrom_35 ?_
      refine jx_getR (pc := 36) gf_Ch_9 d_Ch_weighFrom_36 ad_22 sh_22 rfl ?_
      refine jx_getR (pc := 39) gf_Ch_31 d_Ch_weighFrom_39 ad_15 sh_15 rfl ?_
      refine jx_iload1 (pc := 42) d_Ch_weighFrom_42 ?_
      refine jx_iconst (pc := 43) (v := 1) d_Ch_weighFrom_43 (by decide) ?_
      refine jx_iadd (pc := 44) d_Ch_weighFrom_44 ?_
      refine jx_aald (pc := 45) d_Ch_weighFrom_45 ad_16 (Or.inl rfl) sh_16 hi1 hr1 ?_
      refine jx_astore3 (pc := 46) d_Ch_weighFrom_46 rfl (Nat.le_of_ble_eq_true rfl) ?_
      refine jx_iload1 (pc := 47) d_Ch_weighFrom_47 ?_
      refine jx_aload0 (pc := 48) d_Ch_weighFrom_48 ?_
      refine jx_getI (pc := 49) gf_Ch_25 d_Ch_weighFrom_49 ad_22 sh_22 rfl ?_
      refine jx_icmp_eq (pc := 52) 66 d_Ch_weighFrom_52 (by decide) (fun c52 => ?_) (fun c52 => absurd c52 (fun q => q hq))
      refine jx_iconst (pc := 66) (v := 1) d_Ch_weighFrom_66 (by decide) ?_
      refine jx_goto (pc := 67) 71 d_Ch_weighFrom_67 (by decide) ?_
      refine jx_istore4 (pc := 71) d_Ch_weighFrom_71 rfl (Nat.le_of_ble_eq_true rfl) ?_
      refine jx_iload4 (pc := 73) d_Ch_weighFrom_73 ?_
      refine jx_if_eq (pc := 75) 85 d_Ch_weighFrom_75 (by decide) (fun c75 => absurd c75 (by decide)) (fun c75 => ?_)
      refine jx_aload0 (pc := 78) d_Ch_weighFrom_78 ?_
      refine jx_getI (pc := 79) gf_Ch_15 d_Ch_weighFrom_79 ad_22 sh_22 rfl ?_
      refine jx_goto (pc := 82) 87 d_Ch_weighFrom_82 (by decide) ?_
      refine jx_istore5 (pc := 87) d_Ch_weighFrom_87 rfl (Nat.le_of_ble_eq_true rfl) ?_
      rotate_left
      rw [hT.1]
      exact S89 M c _ (fun _ _ => rfl) hc rfl
    · have hq : ¬ nI day = M 22 4 := fun q => hd (hmdq.mp q.symm)
      by_cases hz : cmS s day = 0
      · have hawk := awk_no (s := s) (h := h) (mt := mt) (m := m) hd hz
        have hzz : nI (cmS s day) ≤ 0 := by rw [hz]; exact Int32.le_refl _
        have hsum : 16 * wgF s c h md mt r (day + 1) (eve (g_en s) 9 m) + (16 - 16) * wgF s c h md mt r (day + 1) (eve (g_en s) 9 (awk s h day md mt m)) = wgF s c h md mt (r + 1) day m := by
          rw [show wgF s c h md mt (r + 1) day m = c * wgF s c h md mt r (day + 1) (eve (g_en s) 9 m) + (16 - c) * wgF s c h md mt r (day + 1) (eve (g_en s) 9 (awk s h day md mt m)) from rfl, hawk, ← Nat.add_mul, ← Nat.add_mul, show 16 + (16 - 16) = c + (16 - c) by omega]
        refine jx_aload0 (pc := 0) d_Ch_weighFrom_0 ?_
        refine jx_getR (pc := 1) gf_Ch_9 d_Ch_weighFrom_1 ad_22 sh_22 rfl ?_
        refine jx_getR (pc := 4) gf_Ch_31 d_Ch_weighFrom_4 ad_15 sh_15 rfl ?_
        refine jx_iload1 (pc := 7) d_Ch_weighFrom_7 ?_
        refine jx_aald (pc := 8) d_Ch_weighFrom_8 ad_16 (Or.inl rfl) sh_16 hi0 (mo_r (by omega)) ?_
        refine jx_astore2 (pc := 9) d_Ch_weighFrom_9 rfl (Nat.le_of_ble_eq_true rfl) ?_
        refine jx_iload1 (pc := 10) d_Ch_weighFrom_10 ?_
        refine jx_aload0 (pc := 11) d_Ch_weighFrom_11 ?_
        refine jx_getI (pc := 12) gf_Ch_22 d_Ch_weighFrom_12 ad_22 sh_22 rfl ?_
        refine jx_icmp_le (pc := 15) 35 d_Ch_weighFrom_15 (by decide) (fun c15 => ?_) (fun c15 => absurd c15 (fun q => q hle))
        refine jx_aload0 (pc := 35) d_Ch_weighFrom_35 ?_
        refine jx_getR (pc := 36) gf_Ch_9 d_Ch_weighFrom_36 ad_22 sh_22 rfl ?_
        refine jx_getR (pc := 39) gf_Ch_31 d_Ch_weighFrom_39 ad_15 sh_15 rfl ?_
        refine jx_iload1 (pc := 42) d_Ch_weighFrom_42 ?_
        refine jx_iconst (pc := 43) (v := 1) d_Ch_weighFrom_43 (by decide) ?_
        refine jx_iadd (pc := 44) d_Ch_weighFrom_44 ?_
        refine jx_aald (pc := 45) d_Ch_weighFrom_45 ad_16 (Or.inl rfl) sh_16 hi1 hr1 ?_
        refine jx_astore3 (pc := 46) d_Ch_weighFrom_46 rfl (Nat.le_of_ble_eq_true rfl) ?_
        refine jx_iload1 (pc := 47) d_Ch_weighFrom_47 ?_
        refine jx_aload0 (pc := 48) d_Ch_weighFrom_48 ?_
        refine jx_getI (pc := 49) gf_Ch_25 d_Ch_weighFrom_49 ad_22 sh_22 rfl ?_
        refine jx_icmp_eq (pc := 52) 66 d_Ch_weighFrom_52 (by decide) (fun c52 => absurd c52 hq) (fun c52 => ?_)
        refine jx_aload0 (pc := 55) d_Ch_weighFrom_55 ?_
        refine jx_getR (pc := 56) gf_Ch_9 d_Ch_weighFrom_56 ad_22 sh_22 rfl ?_
        refine jx_iload1 (pc := 59) d_Ch_weighFrom_59 ?_
        refine jx_callV1 (pc := 60) (d' := d + 1) vo_Co_comersOn lk_Ch_50 d_Ch_weighFrom_60 ad_15 sh_15 rfl (by omega) (Nat.le_of_ble_eq_true rfl) ?_
        refine c_Co_comersOn (d := d) hws hC hR.1.2.1 hd30 ?_
        refine jx_r1 ?_
        refine jx_if_le (pc := 63) 70 d_Ch_weighFrom_63 (by decide) (fun c63 => ?_) (fun c63 => absurd c63 (fun q => q hzz))
        refine jx_iconst (pc := 70) (v := 0) d_Ch_weighFrom_70 (by decide) ?_
        refine jx_istore4 (pc := 71) d_Ch_weighFrom_71 rfl (Nat.le_of_ble_eq_true rfl) ?_
        refine jx_iload4 (pc := 73) d_Ch_weighFrom_73 ?_
        refine jx_if_eq (pc := 75) 85 d_Ch_weighFrom_75 (by decide) (fun c75 => ?_) (fun c75 => absurd c75 (fun q => q rfl))
        refine jx_bipush (pc := 85) (v := 16) d_Ch_weighFrom_85 (by decide) ?_
        refine jx_istore5 (pc := 87) d_Ch_weighFrom_87 rfl (Nat.le_of_ble_eq_true rfl) ?_
        rotate_left
        exact S89 M 16 _ (fun _ _ => rfl) (by omega) hsum
      · have hzz : ¬ nI (cmS s day) ≤ 0 := nI_ge (a := 0) (by omega) (by omega)
        refine jx_aload0 (pc := 0) d_Ch_weighFrom_0 ?_
        refine jx_getR (pc := 1) gf_Ch_9 d_Ch_weighFrom_1 ad_22 sh_22 rfl ?_
        refine jx_getR (pc := 4) gf_Ch_31 d_Ch_weighFrom_4 ad_15 sh_15 rfl ?_
        refine jx_iload1 (pc := 7) d_Ch_weighFrom_7 ?_
        refine jx_aald (pc := 8) d_Ch_weighFrom_8 ad_16 (Or.inl rfl) sh_16 hi0 (mo_r (by omega)) ?_
        refine jx_astore2 (pc := 9) d_Ch_weighFrom_9 rfl (Nat.le_of_ble_eq_true rfl) ?_
        refine jx_iload1 (pc := 10) d_Ch_weighFrom_10 ?_
        refine jx_aload0 (pc := 11) d_Ch_weighFrom_11 ?_
        refine jx_getI (pc := 12) gf_Ch_22 d_Ch_weighFrom_12 ad_22 sh_22 rfl ?_
        refine jx_icmp_le (pc := 15) 35 d_Ch_weighFrom_15 (by decide) (fun c15 => ?_) (fun c15 => absurd c15 (fun q => q hle))
        refine jx_aload0 (pc := 35) d_Ch_weighFrom_35 ?_
        refine jx_getR (pc := 36) gf_Ch_9 d_Ch_weighFrom_36 ad_22 sh_22 rfl ?_
        refine jx_getR (pc := 39) gf_Ch_31 d_Ch_weighFrom_39 ad_15 sh_15 rfl ?_
        refine jx_iload1 (pc := 42) d_Ch_weighFrom_42 ?_
        refine jx_iconst (pc := 43) (v := 1) d_Ch_weighFrom_43 (by decide) ?_
        refine jx_iadd (pc := 44) d_Ch_weighFrom_44 ?_
        refine jx_aald (pc := 45) d_Ch_weighFrom_45 ad_16 (Or.inl rfl) sh_16 hi1 hr1 ?_
        refine jx_astore3 (pc := 46) d_Ch_weighFrom_46 rfl (Nat.le_of_ble_eq_true rfl) ?_
        refine jx_iload1 (pc := 47) d_Ch_weighFrom_47 ?_
        refine jx_aload0 (pc := 48) d_Ch_weighFrom_48 ?_
        refine jx_getI (pc := 49) gf_Ch_25 d_Ch_weighFrom_49 ad_22 sh_22 rfl ?_
        refine jx_icmp_eq (pc := 52) 66 d_Ch_weighFrom_52 (by decide) (fun c52 => absurd c52 hq) (fun c52 => ?_)
        refine jx_aload0 (pc := 55) d_Ch_weighFrom_55 ?_
        refine jx_getR (pc := 56) gf_Ch_9 d_Ch_weighFrom_56 ad_22 sh_22 rfl ?_
        refine jx_iload1 (pc := 59) d_Ch_weighFrom_59 ?_
        refine jx_callV1 (pc := 60) (d' := d + 1) vo_Co_comersOn lk_Ch_50 d_Ch_weighFrom_60 ad_15 sh_15 rfl (by omega) (Nat.le_of_ble_eq_true rfl) ?_
        refine c_Co_comersOn (d := d) hws hC hR.1.2.1 hd30 ?_
        refine jx_r1 ?_
        refine jx_if_le (pc := 63) 70 d_Ch_weighFrom_63 (by decide) (fun c63 => absurd c63 hzz) (fun c63 => ?_)
        refine jx_iconst (pc := 66) (v := 1) d_Ch_weighFrom_66 (by decide) ?_
        refine jx_goto (pc := 67) 71 d_Ch_weighFrom_67 (by decide) ?_
        refine jx_istore4 (pc := 71) d_Ch_weighFrom_71 rfl (Nat.le_of_ble_eq_true rfl) ?_
        refine jx_iload4 (pc := 73) d_Ch_weighFrom_73 ?_
        refine jx_if_eq (pc := 75) 85 d_Ch_weighFrom_75 (by decide) (fun c75 => absurd c75 (by decide)) (fun c75 => ?_)
        refine jx_aload0 (pc := 78) d_Ch_weighFrom_78 ?_
        refine jx_getI (pc := 79) gf_Ch_15 d_Ch_weighFrom_79 ad_22 sh_22 rfl ?_
        refine jx_goto (pc := 82) 87 d_Ch_weighFrom_82 (by decide) ?_
        refine jx_istore5 (pc := 87) d_Ch_weighFrom_87 rfl (Nat.le_of_ble_eq_true rfl) ?_
        rotate_left
        rw [hT.1]
        exact S89 M c _ (fun _ _ => rfl) hc rfl
