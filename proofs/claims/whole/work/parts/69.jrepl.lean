/-! OPERATIONS of the component, eleven: replies -/
theorem if_01 (x : Bool) : (if x = true then (1 : Int32) else 0) = 0 ∨ (if x = true then (1 : Int32) else 0) = 1 := by cases x; exact Or.inl rfl; exact Or.inr rfl
theorem c_Tu_winsBy {s : Sg} (hws : WF s) {a b n : Nat} (hn4 : n ≤ 4) (ha : a < g_hn s) (hb : b < g_hn s) {d : Nat} : ∀ r, WB s a b n r (d + 3 + 2 * r) := by
  intro r
  have hn6 : g_hn s ≤ 6 := hnB_le hws.1
  have hts := hws.2.2.1 0
  have main : ∀ (r : Nat), (r = 0 ∨ ∃ r', r = r' + 1 ∧ WB s a b n r' (d + 3 + 2 * r')) → WB s a b n r (d + 3 + 2 * r) := by
    intro r hrec day t m M Q hn ht hR hT hM hw k
    refine j_met (by decide +kernel) co_Tu_winsBy (Nat.le_of_ble_eq_true rfl) (fun X hX => ?_)
    show j_W (d + 3 + 2 * r) I_Tu_winsBy X 0 [some (.ref 21), some (.int (nI day)), some (.int (nI t)), none] [] M
    have hm0 : j_mo (35 + 4 * day) := ⟨day, by omega, rfl⟩
    have hm1 : j_mo (35 + 4 * (day + 1)) := ⟨day + 1, by omega, rfl⟩
    have hd30 : day < 30 := by omega
    have eA : 35 + 4 * (day + 1) = 39 + 4 * day := by omega
    have hi1 : vp_in (nI day + 1) 11 := by rw [nI_1]; exact vp_in_nI (by omega) (by omega)
    have hi0 : vp_in (nI day) 11 := vp_in_nI (by omega) (by omega)
    have hr1 : ([some 35, some 39, some 43, some 47, some 51, some 55, some 59, some 63, some 67, some 71, some 75] : List (Option Nat)).getD (nI day + 1).toNatClampNeg none = some (35 + 4 * (day + 1)) := by rw [nI_1]; exact mo_r (by omega)
    have e2 : nI day - nI day / 2 * 2 = nI (day % 2) := pk_rem (d := 2) (by omega) (by omega) (by omega)
    have hC := hR.ce hws
    have koff : ∀ {M1 M2 : j_M}, KK day M M1 → Off1 (35 + 4 * (day + 1)) M1 M2 → KK day M M2 := fun h1 h2 => h1.tr (KK.off h2 eA (by omega))
    have S85 : ∀ (M1 : j_M), KK day M M1 → MoodAt M1 (35 + 4 * (day + 1)) (g_ta s 0) 9 (stp s (if day % 2 = 0 then a else b) day t m) → j_W (d + 3 + 2 * r) I_Tu_winsBy X 85 [some (.ref 21), some (.int (nI day)), some (.int (nI t)), some (.ref (35 + 4 * (day + 1)))] [] M1 := by
      intro M1 hK hM1
      have hT1 : TR a b n M1 := by unfold TR at *; rw [hK 21 (by omega)]; exact hT
      have hw1 : MoW (g_en s) (10000 * (day + 1)) (stp s (if day % 2 = 0 then a else b) day t m) := by
        have := stpW hws (who := if day % 2 = 0 then a else b) (t := t) hd30 hw
        rw [show 10000 * (day + 1) = 10000 * day + 10000 by omega]; exact this
      rcases hrec with h0 | ⟨r', h1, hW⟩
      · subst h0
        have hge : ¬ nI day + 1 < M1 21 3 := by rw [hT1.2.2, nI_1]; exact nI_nlt (by omega) (by omega)
        have hfl : (stp s (if day % 2 = 0 then a else b) day t m).2.2.2.2 < g_hn s ∨ (stp s (if day % 2 = 0 then a else b) day t m).2.2.2.2 = 9 := hw1.2.2.2.2.1
        have hfe : M1 (35 + 4 * (day + 1)) 6 = M1 21 1 ↔ (stp s (if day % 2 = 0 then a else b) day t m).2.2.2.2 = a := by
          rw [hM1.2.2.2.2.2.2, hT1.1]; exact em_eq (by omega) (by omega)
        by_cases hq : (stp s (if day % 2 = 0 then a else b) day t m).2.2.2.2 = a
        · have hv : wBy s a b 0 day t m = true := by unfold wBy; simp [hq]
          rw [hv] at k
          refine jx_iload1 (pc := 85) d_Tu_winsBy_85 ?_
          refine jx_iconst (pc := 86) (v := 1) d_Tu_winsBy_86 (by decide) ?_
          refine jx_iadd (pc := 87) d_Tu_winsBy_87 ?_
          refine jx_aload0 (pc := 88) d_Tu_winsBy_88 ?_
          refine jx_getI (pc := 89) gf_Tu_22 d_Tu_winsBy_89 ad_21 sh_21 rfl ?_
          refine jx_icmp_lt (pc := 92) 114 d_Tu_winsBy_92 (by decide) (fun c92 => absurd c92 hge) (fun c92 => ?_)
          refine jx_aload3 (pc := 95) d_Tu_winsBy_95 ?_
          refine jx_getI (pc := 96) gf_Tu_60 d_Tu_winsBy_96 (mo_a hm1) (mo_s hm1) rfl ?_
          refine jx_aload0 (pc := 99) d_Tu_winsBy_99 ?_
          refine jx_getI (pc := 100) gf_Tu_15 d_Tu_winsBy_100 ad_21 sh_21 rfl ?_
          refine jx_icmp_ne (pc := 103) 110 d_Tu_winsBy_103 (by decide) (fun c103 => absurd c103 (fun z => z (hfe.mpr hq))) (fun c103 => ?_)
          refine jx_iconst (pc := 106) (v := 1) d_Tu_winsBy_106 (by decide) ?_
          refine jx_goto (pc := 107) 121 d_Tu_winsBy_107 (by decide) ?_
          refine jx_zret (pc := 121) hX rfl (by first | exact Or.inl rfl | exact Or.inr rfl) d_Tu_winsBy_121 ?_
          rotate_left
          exact k M1 hK
        · have hv : wBy s a b 0 day t m = false := by unfold wBy; simp [hq]
          rw [hv] at k
          refine jx_iload1 (pc := 85) d_Tu_winsBy_85 ?_
          refine jx_iconst (pc := 86) (v := 1) d_Tu_winsBy_86 (by decide) ?_
          refine jx_iadd (pc := 87) d_Tu_winsBy_87 ?_
          refine jx_aload0 (pc := 88) d_Tu_winsBy_88 ?_
          refine jx_getI (pc := 89) gf_Tu_22 d_Tu_winsBy_89 ad_21 sh_21 rfl ?_
          refine jx_icmp_lt (pc := 92) 114 d_Tu_winsBy_92 (by decide) (fun c92 => absurd c92 hge) (fun c92 => ?_)
          refine jx_aload3 (pc := 95) d_Tu_winsBy_95 ?_
          refine jx_getI (pc := 96) gf_Tu_60 d_Tu_winsBy_96 (mo_a hm1) (mo_s hm1) rfl ?_
          refine jx_aload0 (pc := 99) d_Tu_winsBy_99 ?_
          refine jx_getI (pc := 100) gf_Tu_15 d_Tu_winsBy_100 ad_21 sh_21 rfl ?_
          refine jx_icmp_ne (pc := 103) 110 d_Tu_winsBy_103 (by decide) (fun c103 => ?_) (fun c103 => absurd c103 (fun z => hq (hfe.mp z)))
          refine jx_iconst (pc := 110) (v := 0) d_Tu_winsBy_110 (by decide) ?_
          refine jx_goto (pc := 111) 121 d_Tu_winsBy_111 (by decide) ?_
          refine jx_zret (pc := 121) hX rfl (by first | exact Or.inl rfl | exact Or.inr rfl) d_Tu_winsBy_121 ?_
          rotate_left
          exact k M1 hK
      · subst h1
        have hlt : nI day + 1 < M1 21 3 := by rw [hT1.2.2, nI_1]; exact nI_lt (by omega) (by omega)
        refine jx_iload1 (pc := 85) d_Tu_winsBy_85 ?_
        refine jx_iconst (pc := 86) (v := 1) d_Tu_winsBy_86 (by decide) ?_
        refine jx_iadd (pc := 87) d_Tu_winsBy_87 ?_
        refine jx_aload0 (pc := 88) d_Tu_winsBy_88 ?_
        refine jx_getI (pc := 89) gf_Tu_22 d_Tu_winsBy_89 ad_21 sh_21 rfl ?_
        refine jx_icmp_lt (pc := 92) 114 d_Tu_winsBy_92 (by decide) (fun c92 => ?_) (fun c92 => absurd c92 (fun z => z hlt))
        refine jx_aload0 (pc := 114) d_Tu_winsBy_114 ?_
        refine jx_iload1 (pc := 115) d_Tu_winsBy_115 ?_
        refine jx_iconst (pc := 116) (v := 1) d_Tu_winsBy_116 (by decide) ?_
        refine jx_iadd (pc := 117) d_Tu_winsBy_117 ?_
        refine jx_callV1 (pc := 118) (d' := (d + 3 + 2 * r') + 1) vo_Tu_winsFrom lk_Tu_63 d_Tu_winsBy_118 ad_21 sh_21 rfl (by omega) (Nat.le_of_ble_eq_true rfl) ?_
        rw [nI_1]
        refine c_Tu_winsFrom hW (show day + 1 + 1 + r' = n by omega) hn4 (hK.scr.rep hR) hT1 hM1 hw1 (fun M2 hK2 => ?_)
        refine jx_r1 ?_
        refine jx_zret (pc := 121) hX rfl (if_01 _) d_Tu_winsBy_121 ?_
        rotate_left
        have h9 := k M2 (hK.tr hK2.up)
        rw [wBy] at h9
        exact h9
    have S77 : ∀ (M1 : j_M) (m1 : Mo) (b1 : Nat), KK day M M1 → MoodAt M1 (35 + 4 * (day + 1)) (g_ta s 0) 9 m1 → MoW (g_en s) b1 m1 → b1 ≤ 1000000 → eve (g_en s) 9 m1 = stp s (if day % 2 = 0 then a else b) day t m → j_W (d + 3 + 2 * r) I_Tu_winsBy X 77 [some (.ref 21), some (.int (nI day)), some (.int (nI t)), some (.ref (35 + 4 * (day + 1)))] [] M1 := by
      intro M1 m1 b1 hK hM1 hw1 hb1 he
      have hE := ((hK.scr.rep hR).ce hws).1
      refine jx_aload0 (pc := 77) d_Tu_winsBy_77 ?_
      refine jx_getR (pc := 78) gf_Tu_9 d_Tu_winsBy_78 ad_21 sh_21 rfl ?_
      refine jx_aload3 (pc := 81) d_Tu_winsBy_81 ?_
      refine jx_callV1 (pc := 82) (d' := d + 2) vo_Co_evening lk_Tu_57 d_Tu_winsBy_82 ad_15 sh_15 rfl (by omega) (Nat.le_of_ble_eq_true rfl) ?_
      refine c_Co_evening (d := d + 1) hm1 hE hM1 hw1 hb1 (Or.inr rfl) (fun M2 hM2 hO2 => ?_)
      rw [he] at hM2
      refine jx_r0 ?_
      rotate_left
      exact S85 M2 (koff hK hO2) hM2
    by_cases hs : (g_wy s 3).testBit day = true
    · have he : eve (g_en s) 9 m = stp s (if day % 2 = 0 then a else b) day t m := by unfold stp dayS; rw [if_pos hs]
      refine jx_aload0 (pc := 0) d_Tu_winsBy_0 ?_
      refine jx_getR (pc := 1) gf_Tu_9 d_Tu_winsBy_1 ad_21 sh_21 rfl ?_
      refine jx_getR (pc := 4) gf_Tu_25 d_Tu_winsBy_4 ad_15 sh_15 rfl ?_
      refine jx_iload1 (pc := 7) d_Tu_winsBy_7 ?_
      refine jx_iconst (pc := 8) (v := 1) d_Tu_winsBy_8 (by decide) ?_
      refine jx_iadd (pc := 9) d_Tu_winsBy_9 ?_
      refine jx_aald (pc := 10) d_Tu_winsBy_10 ad_16 (Or.inl rfl) sh_16 hi1 hr1 ?_
      refine jx_astore3 (pc := 11) d_Tu_winsBy_11 rfl (Nat.le_of_ble_eq_true rfl) ?_
      refine jx_aload3 (pc := 12) d_Tu_winsBy_12 ?_
      refine jx_aload0 (pc := 13) d_Tu_winsBy_13 ?_
      refine jx_getR (pc := 14) gf_Tu_9 d_Tu_winsBy_14 ad_21 sh_21 rfl ?_
      refine jx_getR (pc := 17) gf_Tu_25 d_Tu_winsBy_17 ad_15 sh_15 rfl ?_
      refine jx_iload1 (pc := 20) d_Tu_winsBy_20 ?_
      refine jx_aald (pc := 21) d_Tu_winsBy_21 ad_16 (Or.inl rfl) sh_16 hi0 (mo_r (by omega)) ?_
      refine jx_callV1 (pc := 22) (d' := d + 2) vo_Mo_become lk_Tu_41 d_Tu_winsBy_22 (mo_a hm1) (mo_s hm1) rfl (by omega) (Nat.le_of_ble_eq_true rfl) ?_
      refine c_Mo_become (d := d) hm1 hm0 (by omega) hM (fun M1 hM1 hO1 => ?_)
      have hK1 : KK day M M1 := koff (fun _ _ => rfl) hO1
      have hC1 := (hK1.scr.rep hR).ce hws
      refine jx_r0 ?_
      refine jx_aload0 (pc := 25) d_Tu_winsBy_25 ?_
      refine jx_getR (pc := 26) gf_Tu_9 d_Tu_winsBy_26 ad_21 sh_21 rfl ?_
      refine jx_iload1 (pc := 29) d_Tu_winsBy_29 ?_
      refine jx_callV1 (pc := 30) (d' := d) vo_Co_isAwake lk_Tu_45 d_Tu_winsBy_30 ad_15 sh_15 rfl (by omega) (Nat.le_of_ble_eq_true rfl) ?_
      refine c_Co_awake hC1.2.2.1 hC1.2.2.2 hd30 ?_
      refine jx_r1 ?_
      refine jx_if_eq (pc := 33) 77 d_Tu_winsBy_33 (by decide) (fun c33 => ?_) (fun c33 => absurd c33 (fun z => z (by rw [if_pos hs])))
      rotate_left
      exact S77 M1 m _ hK1 hM1 hw (by omega) he
    · have hwb := brgsW hws.en hts hd30 (g_bs s day) _ _ (fun q hq => (g_bs_wf hws day q hq).2) hw
      have hlen := g_bs_len hws day
      by_cases ht3 : t < 3
      · have he : ∀ who, who = (if day % 2 = 0 then a else b) → eve (g_en s) 9 (brg (g_en s) (g_ta s 0) day who t (brgs (g_en s) (g_ta s 0) day (g_bs s day) m)) = stp s (if day % 2 = 0 then a else b) day t m := fun who hwho => by
          unfold stp dayS; rw [if_neg hs, if_pos ht3, ← hwho]; unfold brgs; rw [List.foldl_append]; rfl
        have hwq : ∀ who, MoW (g_en s) (10000 * day + 162 * (g_bs s day).length + 162) (brg (g_en s) (g_ta s 0) day who t (brgs (g_en s) (g_ta s 0) day (g_bs s day) m)) := fun who => brgW hws.en hts hd30 ht3 hwb
        have h3 : ¬ (3 : Int32) ≤ nI t := (show ¬ nI 3 ≤ nI t from nI_ge (by omega) (by omega))
        by_cases h2 : day % 2 = 0
        · -- the first one brings
          refine jx_aload0 (pc := 0) d_Tu_winsBy_0 ?_
          refine jx_getR (pc := 1) gf_Tu_9 d_Tu_winsBy_1 ad_21 sh_21 rfl ?_
          refine jx_getR (pc := 4) gf_Tu_25 d_Tu_winsBy_4 ad_15 sh_15 rfl ?_
          refine jx_iload1 (pc := 7) d_Tu_winsBy_7 ?_
          refine jx_iconst (pc := 8) (v := 1) d_Tu_winsBy_8 (by decide) ?_
          refine jx_iadd (pc := 9) d_Tu_winsBy_9 ?_
          refine jx_aald (pc := 10) d_Tu_winsBy_10 ad_16 (Or.inl rfl) sh_16 hi1 hr1 ?_
          refine jx_astore3 (pc := 11) d_Tu_winsBy_11 rfl (Nat.le_of_ble_eq_true rfl) ?_
          refine jx_aload3 (pc := 12) d_Tu_winsBy_12 ?_
          refine jx_aload0 (pc := 13) d_Tu_winsBy_13 ?_
          refine jx_getR (pc := 14) gf_Tu_9 d_Tu_winsBy_14 ad_21 sh_21 rfl ?_
          refine jx_getR (pc := 17) gf_Tu_25 d_Tu_winsBy_17 ad_15 sh_15 rfl ?_
          refine jx_iload1 (pc := 20) d_Tu_winsBy_20 ?_
          refine jx_aald (pc := 21) d_Tu_winsBy_21 ad_16 (Or.inl rfl) sh_16 hi0 (mo_r (by omega)) ?_
          refine jx_callV1 (pc := 22) (d' := d + 2) vo_Mo_become lk_Tu_41 d_Tu_winsBy_22 (mo_a hm1) (mo_s hm1) rfl (by omega) (Nat.le_of_ble_eq_true rfl) ?_
          refine c_Mo_become (d := d) hm1 hm0 (by omega) hM (fun M1 hM1 hO1 => ?_)
          have hK1 : KK day M M1 := koff (fun _ _ => rfl) hO1
          have hC1 := (hK1.scr.rep hR).ce hws
          refine jx_r0 ?_
          refine jx_aload0 (pc := 25) d_Tu_winsBy_25 ?_
          refine jx_getR (pc := 26) gf_Tu_9 d_Tu_winsBy_26 ad_21 sh_21 rfl ?_
          refine jx_iload1 (pc := 29) d_Tu_winsBy_29 ?_
          refine jx_callV1 (pc := 30) (d' := d) vo_Co_isAwake lk_Tu_45 d_Tu_winsBy_30 ad_15 sh_15 rfl (by omega) (Nat.le_of_ble_eq_true rfl) ?_
          refine c_Co_awake hC1.2.2.1 hC1.2.2.2 hd30 ?_
          refine jx_r1 ?_
          refine jx_if_eq (pc := 33) 77 d_Tu_winsBy_33 (by decide) (fun c33 => absurd c33 (by rw [if_neg hs]; decide)) (fun c33 => ?_)
          refine jx_aload0 (pc := 36) d_Tu_winsBy_36 ?_
          refine jx_getR (pc := 37) gf_Tu_9 d_Tu_winsBy_37 ad_21 sh_21 rfl ?_
          refine jx_aload3 (pc := 40) d_Tu_winsBy_40 ?_
          refine jx_iload1 (pc := 41) d_Tu_winsBy_41 ?_
          refine jx_callV2 (pc := 42) (d' := d + 1) vo_Co_comeAsTold lk_Tu_49 d_Tu_winsBy_42 ad_15 sh_15 rfl (by omega) (Nat.le_of_ble_eq_true rfl) ?_
          refine c_Co_comeAsTold (d := d) hm1 hC1 hts hM1 hw (by omega) hd30 (fun M2 hM2 hO2 => ?_)
          have hK2 : KK day M M2 := koff hK1 hO2
          have hC2 := (hK2.scr.rep hR).ce hws
          have hT2 : TR a b n M2 := by unfold TR at *; rw [hK2 21 (by omega)]; exact hT
          refine jx_r0 ?_
          refine jx_iload2 (pc := 45) d_Tu_winsBy_45 ?_
          refine jx_iconst (pc := 46) (v := 3) d_Tu_winsBy_46 (by decide) ?_
          refine jx_icmp_ge (pc := 47) 77 d_Tu_winsBy_47 (by decide) (fun c47 => absurd c47 h3) (fun c47 => ?_)
          refine jx_aload0 (pc := 50) d_Tu_winsBy_50 ?_
          refine jx_getR (pc := 51) gf_Tu_9 d_Tu_winsBy_51 ad_21 sh_21 rfl ?_
          refine jx_aload3 (pc := 54) d_Tu_winsBy_54 ?_
          refine jx_iload1 (pc := 55) d_Tu_winsBy_55 ?_
          refine jx_iload1 (pc := 56) d_Tu_winsBy_56 ?_
          refine jx_iconst (pc := 57) (v := 2) d_Tu_winsBy_57 (by decide) ?_
          refine jx_irem (pc := 58) d_Tu_winsBy_58 (by decide) ?_
          refine jx_if_ne (pc := 59) 69 d_Tu_winsBy_59 (by decide) (fun c59 => absurd c59 (fun z => z (by rw [e2, h2]; rfl))) (fun c59 => ?_)
          refine jx_aload0 (pc := 62) d_Tu_winsBy_62 ?_
          refine jx_getI (pc := 63) gf_Tu_15 d_Tu_winsBy_63 ad_21 sh_21 rfl ?_
          refine jx_goto (pc := 66) 73 d_Tu_winsBy_66 (by decide) ?_
          refine jx_iload2 (pc := 73) d_Tu_winsBy_73 ?_
          refine jx_callV4 (pc := 74) (d' := d) vo_Co_bring lk_Tu_53 d_Tu_winsBy_74 ad_15 sh_15 rfl (by omega) (Nat.le_of_ble_eq_true rfl) ?_
          rw [hT2.1]
          refine c_Co_bring hm1 hC2.1 hts hM2 hwb (by omega) hd30 (show a < 6 by omega) ht3 (fun M3 hM3 hO3 => ?_)
          refine jx_r0 ?_
          rotate_left
          exact S77 M3 _ _ (koff hK2 hO3) hM3 (hwq a) (by omega) (he a (by rw [if_pos h2]))
        · -- the second one brings
          refine jx_aload0 (pc := 0) d_Tu_winsBy_0 ?_
          refine jx_getR (pc := 1) gf_Tu_9 d_Tu_winsBy_1 ad_21 sh_21 rfl ?_
          refine jx_getR (pc := 4) gf_Tu_25 d_Tu_winsBy_4 ad_15 sh_15 rfl ?_
          refine jx_iload1 (pc := 7) d_Tu_winsBy_7 ?_
          refine jx_iconst (pc := 8) (v := 1) d_Tu_winsBy_8 (by decide) ?_
          refine jx_iadd (pc := 9) d_Tu_winsBy_9 ?_
          refine jx_aald (pc := 10) d_Tu_winsBy_10 ad_16 (Or.inl rfl) sh_16 hi1 hr1 ?_
          refine jx_astore3 (pc := 11) d_Tu_winsBy_11 rfl (Nat.le_of_ble_eq_true rfl) ?_
          refine jx_aload3 (pc := 12) d_Tu_winsBy_12 ?_
          refine jx_aload0 (pc := 13) d_Tu_winsBy_13 ?_
          refine jx_getR (pc := 14) gf_Tu_9 d_Tu_winsBy_14 ad_21 sh_21 rfl ?_
          refine jx_getR (pc := 17) gf_Tu_25 d_Tu_winsBy_17 ad_15 sh_15 rfl ?_
          refine jx_iload1 (pc := 20) d_Tu_winsBy_20 ?_
          refine jx_aald (pc := 21) d_Tu_winsBy_21 ad_16 (Or.inl rfl) sh_16 hi0 (mo_r (by omega)) ?_
          refine jx_callV1 (pc := 22) (d' := d + 2) vo_Mo_become lk_Tu_41 d_Tu_winsBy_22 (mo_a hm1) (mo_s hm1) rfl (by omega) (Nat.le_of_ble_eq_true rfl) ?_
          refine c_Mo_become (d := d) hm1 hm0 (by omega) hM (fun M1 hM1 hO1 => ?_)
          have hK1 : KK day M M1 := koff (fun _ _ => rfl) hO1
          have hC1 := (hK1.scr.rep hR).ce hws
          refine jx_r0 ?_
          refine jx_aload0 (pc := 25) d_Tu_winsBy_25 ?_
          refine jx_getR (pc := 26) gf_Tu_9 d_Tu_winsBy_26 ad_21 sh_21 rfl ?_
          refine jx_iload1 (pc := 29) d_Tu_winsBy_29 ?_
          refine jx_callV1 (pc := 30) (d' := d) vo_Co_isAwake lk_Tu_45 d_Tu_winsBy_30 ad_15 sh_15 rfl (by omega) (Nat.le_of_ble_eq_true rfl) ?_
          refine c_Co_awake hC1.2.2.1 hC1.2.2.2 hd30 ?_
          refine jx_r1 ?_
          refine jx_if_eq (pc := 33) 77 d_Tu_winsBy_33 (by decide) (fun c33 => absurd c33 (by rw [if_neg hs]; decide)) (fun c33 => ?_)
          refine jx_aload0 (pc := 36) d_Tu_winsBy_36 ?_
          refine jx_getR (pc := 37) gf_Tu_9 d_Tu_winsBy_37 ad_21 sh_21 rfl ?_
          refine jx_aload3 (pc := 40) d_Tu_winsBy_40 ?_
          refine jx_iload1 (pc := 41) d_Tu_winsBy_41 ?_
          refine jx_callV2 (pc := 42) (d' := d + 1) vo_Co_comeAsTold lk_Tu_49 d_Tu_winsBy_42 ad_15 sh_15 rfl (by omega) (Nat.le_of_ble_eq_true rfl) ?_
          refine c_Co_comeAsTold (d := d) hm1 hC1 hts hM1 hw (by omega) hd30 (fun M2 hM2 hO2 => ?_)
          have hK2 : KK day M M2 := koff hK1 hO2
          have hC2 := (hK2.scr.rep hR).ce hws
          have hT2 : TR a b n M2 := by unfold TR at *; rw [hK2 21 (by omega)]; exact hT
          refine jx_r0 ?_
          refine jx_iload2 (pc := 45) d_Tu_winsBy_45 ?_
          refine jx_iconst (pc := 46) (v := 3) d_Tu_winsBy_46 (by decide) ?_
          refine jx_icmp_ge (pc := 47) 77 d_Tu_winsBy_47 (by decide) (fun c47 => absurd c47 h3) (fun c47 => ?_)
          refine jx_aload0 (pc := 50) d_Tu_winsBy_50 ?_
          refine jx_getR (pc := 51) gf_Tu_9 d_Tu_winsBy_51 ad_21 sh_21 rfl ?_
          refine jx_aload3 (pc := 54) d_Tu_winsBy_54 ?_
          refine jx_iload1 (pc := 55) d_Tu_winsBy_55 ?_
          refine jx_iload1 (pc := 56) d_Tu_winsBy_56 ?_
          refine jx_iconst (pc := 57) (v := 2) d_Tu_winsBy_57 (by decide) ?_
          refine jx_irem (pc := 58) d_Tu_winsBy_58 (by decide) ?_
          refine jx_if_ne (pc := 59) 69 d_Tu_winsBy_59 (by decide) (fun c59 => ?_) (fun c59 => absurd c59 (by rw [e2, show day % 2 = 1 by omega]; decide))
          refine jx_aload0 (pc := 69) d_Tu_winsBy_69 ?_
          refine jx_getI (pc := 70) gf_Tu_19 d_Tu_winsBy_70 ad_21 sh_21 rfl ?_
          refine jx_iload2 (pc := 73) d_Tu_winsBy_73 ?_
          refine jx_callV4 (pc := 74) (d' := d) vo_Co_bring lk_Tu_53 d_Tu_winsBy_74 ad_15 sh_15 rfl (by omega) (Nat.le_of_ble_eq_true rfl) ?_
          rw [hT2.2.1]
          refine c_Co_bring hm1 hC2.1 hts hM2 hwb (by omega) hd30 (show b < 6 by omega) ht3 (fun M3 hM3 hO3 => ?_)
          refine jx_r0 ?_
          rotate_left
          exact S77 M3 _ _ (koff hK2 hO3) hM3 (hwq b) (by omega) (he b (by rw [if_neg h2]))
      · have he : eve (g_en s) 9 (brgs (g_en s) (g_ta s 0) day (g_bs s day) m) = stp s (if day % 2 = 0 then a else b) day t m := by
          unfold stp dayS; rw [if_neg hs, if_neg ht3, List.append_nil]
        refine jx_aload0 (pc := 0) d_Tu_winsBy_0 ?_
        refine jx_getR (pc := 1) gf_Tu_9 d_Tu_winsBy_1 ad_21 sh_21 rfl ?_
        refine jx_getR (pc := 4) gf_Tu_25 d_Tu_winsBy_4 ad_15 sh_15 rfl ?_
        refine jx_iload1 (pc := 7) d_Tu_winsBy_7 ?_
        refine jx_iconst (pc := 8) (v := 1) d_Tu_winsBy_8 (by decide) ?_
        refine jx_iadd (pc := 9) d_Tu_winsBy_9 ?_
        refine jx_aald (pc := 10) d_Tu_winsBy_10 ad_16 (Or.inl rfl) sh_16 hi1 hr1 ?_
        refine jx_astore3 (pc := 11) d_Tu_winsBy_11 rfl (Nat.le_of_ble_eq_true rfl) ?_
        refine jx_aload3 (pc := 12) d_Tu_winsBy_12 ?_
        refine jx_aload0 (pc := 13) d_Tu_winsBy_13 ?_
        refine jx_getR (pc := 14) gf_Tu_9 d_Tu_winsBy_14 ad_21 sh_21 rfl ?_
        refine jx_getR (pc := 17) gf_Tu_25 d_Tu_winsBy_17 ad_15 sh_15 rfl ?_
        refine jx_iload1 (pc := 20) d_Tu_winsBy_20 ?_
        refine jx_aald (pc := 21) d_Tu_winsBy_21 ad_16 (Or.inl rfl) sh_16 hi0 (mo_r (by omega)) ?_
        refine jx_callV1 (pc := 22) (d' := d + 2) vo_Mo_become lk_Tu_41 d_Tu_winsBy_22 (mo_a hm1) (mo_s hm1) rfl (by omega) (Nat.le_of_ble_eq_true rfl) ?_
        refine c_Mo_become (d := d) hm1 hm0 (by omega) hM (fun M1 hM1 hO1 => ?_)
        have hK1 : KK day M M1 := koff (fun _ _ => rfl) hO1
        have hC1 := (hK1.scr.rep hR).ce hws
        refine jx_r0 ?_
        refine jx_aload0 (pc := 25) d_Tu_winsBy_25 ?_
        refine jx_getR (pc := 26) gf_Tu_9 d_Tu_winsBy_26 ad_21 sh_21 rfl ?_
        refine jx_iload1 (pc := 29) d_Tu_winsBy_29 ?_
        refine jx_callV1 (pc := 30) (d' := d) vo_Co_isAwake lk_Tu_45 d_Tu_winsBy_30 ad_15 sh_15 rfl (by omega) (Nat.le_of_ble_eq_true rfl) ?_
        refine c_Co_awake hC1.2.2.1 hC1.2.2.2 hd30 ?_
        refine jx_r1 ?_
        refine jx_if_eq (pc := 33) 77 d_Tu_winsBy_33 (by decide) (fun c33 => absurd c33 (by rw [if_neg hs]; decide)) (fun c33 => ?_)
        refine jx_aload0 (pc := 36) d_Tu_winsBy_36 ?_
        refine jx_getR (pc := 37) gf_Tu_9 d_Tu_winsBy_37 ad_21 sh_21 rfl ?_
        refine jx_aload3 (pc := 40) d_Tu_winsBy_40 ?_
        refine jx_iload1 (pc := 41) d_Tu_winsBy_41 ?_
        refine jx_callV2 (pc := 42) (d' := d + 1) vo_Co_comeAsTold lk_Tu_49 d_Tu_winsBy_42 ad_15 sh_15 rfl (by omega) (Nat.le_of_ble_eq_true rfl) ?_
        refine c_Co_comeAsTold (d := d) hm1 hC1 hts hM1 hw (by omega) hd30 (fun M2 hM2 hO2 => ?_)
        have hK2 : KK day M M2 := koff hK1 hO2
        have hC2 := (hK2.scr.rep hR).ce hws
        have hT2 : TR a b n M2 := by unfold TR at *; rw [hK2 21 (by omega)]; exact hT
        refine jx_r0 ?_
        refine jx_iload2 (pc := 45) d_Tu_winsBy_45 ?_
        refine jx_iconst (pc := 46) (v := 3) d_Tu_winsBy_46 (by decide) ?_
        refine jx_icmp_ge (pc := 47) 77 d_Tu_winsBy_47 (by decide) (fun c47 => ?_) (fun c47 => absurd c47 (fun z => z (show nI 3 ≤ nI t from nI_le (by omega) (by omega))))
        rotate_left
        exact S77 M2 _ _ hK2 hM2 hwb (by omega) he
  induction r with
  | zero => exact main 0 (Or.inl rfl)
  | succ r ih => exact main (r + 1) (Or.inr ⟨r, rfl, ih⟩)
def lwT (s : Sg) (a b n : Nat) : Nat := if wBy s a b (n - 1) 0 0 mo0 then 0 else if wBy s a b (n - 1) 0 1 mo0 then 1 else if wBy s a b (n - 1) 0 2 mo0 then 2 else if wBy s a b (n - 1) 0 3 mo0 then 3 else 9
theorem lwT_at {s : Sg} {a b n t : Nat} (ht : t < 4) (h : ∀ u, u < t → wBy s a b (n - 1) 0 u mo0 = false) (hp : wBy s a b (n - 1) 0 t mo0 = true) : lwT s a b n = t := by
  have h4 : t = 0 ∨ t = 1 ∨ t = 2 ∨ t = 3 := by omega
  unfold lwT
  rcases h4 with rfl | rfl | rfl | rfl
  · rw [hp]; rfl
  · rw [h 0 (by omega), hp]; rfl
  · rw [h 0 (by omega), h 1 (by omega), hp]; rfl
  · rw [h 0 (by omega), h 1 (by omega), h 2 (by omega), hp]; rfl
theorem lwT_no {s : Sg} {a b n : Nat} (h : ∀ u, u < 4 → wBy s a b (n - 1) 0 u mo0 = false) : lwT s a b n = 9 := by
  unfold lwT; rw [h 0 (by omega), h 1 (by omega), h 2 (by omega), h 3 (by omega)]; rfl
theorem c_Tu_leastThatWins {d a b n : Nat} {s : Sg} {M : j_M} {Q : Option Value → j_M → Prop} (hw : WF s) (hR : RepC s M) (hn1 : 1 ≤ n) (hn4 : n ≤ 4) (ha : a < g_hn s) (hb : b < g_hn s)
    (k : ∀ M', Scr M M' → Q (some (.int (em (lwT s a b n)))) M') : j_Ct (d + 10) I_Tu_leastThatWins [.ref 21, .ref 12, .int (nI a), .int (nI b), .int (nI n)] M Q := by
  refine j_met (by decide +kernel) co_Tu_leastThatWins (Nat.le_of_ble_eq_true rfl) (fun X hX => ?_)
  show j_W (d + 10) I_Tu_leastThatWins X 0 [some (.ref 21), some (.ref 12), some (.int (nI a)), some (.int (nI b)), some (.int (nI n)), none] [] M
  have loop : ∀ (q t : Nat) (M1 : j_M), t + q = 4 → Scr M M1 → TR a b n M1 → MoodAt M1 (35 + 4 * 0) (g_ta s 0) 9 mo0 → (∀ u, u < t → wBy s a b (n - 1) 0 u mo0 = false) → j_W (d + 10) I_Tu_leastThatWins X 33 [some (.ref 21), some (.ref 12), some (.int (nI a)), some (.int (nI b)), some (.int (nI n)), some (.int (nI t))] [] M1 := by
    intro q
    induction q with
    | zero =>
      intro t M1 ht hS hT hM hu
      have ht' : t = 4 := by omega
      subst ht'
      rw [lwT_no hu] at k
      refine jx_iload5 (pc := 33) d_Tu_leastThatWins_33 ?_
      refine jx_iconst (pc := 35) (v := 3) d_Tu_leastThatWins_35 (by decide) ?_
      refine jx_icmp_gt (pc := 36) 58 d_Tu_leastThatWins_36 (by decide) (fun c36 => ?_) (fun c36 => absurd c36 (fun z => z (show nI 3 < nI 4 from nI_lt (by omega) (by omega))))
      refine jx_iconst (pc := 58) (v := (-1)) d_Tu_leastThatWins_58 (by decide) ?_
      refine jx_iret (pc := 59) hX rfl d_Tu_leastThatWins_59 ?_
      rotate_left
      exact k M1 hS
    | succ q ih =>
      intro t M1 ht hS hT hM hu
      have hW := c_Tu_winsBy hw hn4 ha hb (d := d) (n - 1)
      by_cases hP : wBy s a b (n - 1) 0 t mo0 = true
      · rw [lwT_at (by omega) hu hP, em_lt (by omega)] at k
        refine jx_iload5 (pc := 33) d_Tu_leastThatWins_33 ?_
        refine jx_iconst (pc := 35) (v := 3) d_Tu_leastThatWins_35 (by decide) ?_
        refine jx_icmp_gt (pc := 36) 58 d_Tu_leastThatWins_36 (by decide) (fun c36 => absurd c36 (show ¬ nI 3 < nI t from nI_nlt (by omega) (by omega))) (fun c36 => ?_)
        refine jx_aload0 (pc := 39) d_Tu_leastThatWins_39 ?_
        refine jx_iconst (pc := 40) (v := 0) d_Tu_leastThatWins_40 (by decide) ?_
        refine jx_iload5 (pc := 41) d_Tu_leastThatWins_41 ?_
        refine jx_callV2 (pc := 43) (d' := d + 3 + 2 * (n - 1)) vo_Tu_winsBy lk_Tu_37 d_Tu_leastThatWins_43 ad_21 sh_21 rfl (by omega) (Nat.le_of_ble_eq_true rfl) ?_
        refine hW 0 t mo0 M1 _ (by omega) (by omega) (hS.rep hR) hT hM (mo0W _ _) (fun M2 hK2 => ?_)
        rw [hP]
        refine jx_r1 ?_
        refine jx_if_eq (pc := 46) 52 d_Tu_leastThatWins_46 (by decide) (fun c46 => absurd c46 (by decide)) (fun c46 => ?_)
        refine jx_iload5 (pc := 49) d_Tu_leastThatWins_49 ?_
        refine jx_iret (pc := 51) hX rfl d_Tu_leastThatWins_51 ?_
        rotate_left
        exact k M2 (hS.tr hK2.scr)
      · have hP2 : wBy s a b (n - 1) 0 t mo0 = false := by simpa using hP
        refine jx_iload5 (pc := 33) d_Tu_leastThatWins_33 ?_
        refine jx_iconst (pc := 35) (v := 3) d_Tu_leastThatWins_35 (by decide) ?_
        refine jx_icmp_gt (pc := 36) 58 d_Tu_leastThatWins_36 (by decide) (fun c36 => absurd c36 (show ¬ nI 3 < nI t from nI_nlt (by omega) (by omega))) (fun c36 => ?_)
        refine jx_aload0 (pc := 39) d_Tu_leastThatWins_39 ?_
        refine jx_iconst (pc := 40) (v := 0) d_Tu_leastThatWins_40 (by decide) ?_
        refine jx_iload5 (pc := 41) d_Tu_leastThatWins_41 ?_
        refine jx_callV2 (pc := 43) (d' := d + 3 + 2 * (n - 1)) vo_Tu_winsBy lk_Tu_37 d_Tu_leastThatWins_43 ad_21 sh_21 rfl (by omega) (Nat.le_of_ble_eq_true rfl) ?_
        refine hW 0 t mo0 M1 _ (by omega) (by omega) (hS.rep hR) hT hM (mo0W _ _) (fun M2 hK2 => ?_)
        rw [hP2]
        refine jx_r1 ?_
        refine jx_if_eq (pc := 46) 52 d_Tu_leastThatWins_46 (by decide) (fun c46 => ?_) (fun c46 => absurd c46 (fun z => z rfl))
        refine jx_iinc5 (pc := 52) d_Tu_leastThatWins_52 rfl (Nat.le_of_ble_eq_true rfl) ?_
        refine jx_goto (pc := 55) 33 d_Tu_leastThatWins_55 (by decide) ?_
        rotate_left
        rw [nI_add1]
        refine ih (t + 1) M2 (by omega) (hS.tr hK2.scr) (by unfold TR at *; rw [hK2 21 (by omega)]; exact hT) (hM.cong (hK2 _ (by omega)) (hK2 _ (by omega)) (hK2 _ (by omega)) (hK2 _ (by omega))) (fun u hu2 => ?_)
        by_cases hc : u = t
        · rw [hc]; exact hP2
        · exact hu u (by omega)
  have h12 : ∀ t, t < 3 → j_set (j_set (j_set M 21 1 (nI a)) 21 2 (nI b)) 21 3 (nI n) 12 t = nI (g_ta s 0 t) := fun t ht => by rw [j_set_n _ _ _ (by omega), j_set_n _ _ _ (by omega), j_set_n _ _ _ (by omega)]; exact hR.2.1 0 t (by omega) ht
  have hS3 : Scr M (j_set (j_set (j_set M 21 1 (nI a)) 21 2 (nI b)) 21 3 (nI n)) := fun b hb => by
    have : b ≠ 21 := by unfold PC at hb; omega
    rw [j_set_n _ _ _ this, j_set_n _ _ _ this, j_set_n _ _ _ this]
  refine jx_aload0 (pc := 0) d_Tu_leastThatWins_0 ?_
  refine jx_iload2 (pc := 1) d_Tu_leastThatWins_1 ?_
  refine jx_putI (pc := 2) pf_Tu_15 d_Tu_leastThatWins_2 ad_21 sh_21 rfl ?_
  refine jx_aload0 (pc := 5) d_Tu_leastThatWins_5 ?_
  refine jx_iload3 (pc := 6) d_Tu_leastThatWins_6 ?_
  refine jx_putI (pc := 7) pf_Tu_19 d_Tu_leastThatWins_7 ad_21 sh_21 rfl ?_
  refine jx_aload0 (pc := 10) d_Tu_leastThatWins_10 ?_
  refine jx_iload4 (pc := 11) d_Tu_leastThatWins_11 ?_
  refine jx_putI (pc := 13) pf_Tu_22 d_Tu_leastThatWins_13 ad_21 sh_21 rfl ?_
  refine jx_aload0 (pc := 16) d_Tu_leastThatWins_16 ?_
  refine jx_getR (pc := 17) gf_Tu_9 d_Tu_leastThatWins_17 ad_21 sh_21 rfl ?_
  refine jx_getR (pc := 20) gf_Tu_25 d_Tu_leastThatWins_20 ad_15 sh_15 rfl ?_
  refine jx_iconst (pc := 23) (v := 0) d_Tu_leastThatWins_23 (by decide) ?_
  refine jx_aald (pc := 24) (b := 35) d_Tu_leastThatWins_24 ad_16 (Or.inl rfl) sh_16 (by unfold vp_in; decide) (by decide) ?_
  refine jx_aload1 (pc := 25) d_Tu_leastThatWins_25 ?_
  refine jx_iconst (pc := 26) (v := (-1)) d_Tu_leastThatWins_26 (by decide) ?_
  refine jx_callV2 (pc := 27) (d' := d) vo_Mo_begin lk_Tu_31 d_Tu_leastThatWins_27 (mo_a mo_35) (mo_s mo_35) rfl (by omega) (Nat.le_of_ble_eq_true rfl) ?_
  refine c_Mo_begin (ts := g_ta s 0) (tr := 9) mo_35 (by omega) sh_12 h12 (fun M1 hM1 hO1 => ?_)
  refine jx_r0 ?_
  refine jx_iconst (pc := 30) (v := 0) d_Tu_leastThatWins_30 (by decide) ?_
  refine jx_istore5 (pc := 31) d_Tu_leastThatWins_31 rfl (Nat.le_of_ble_eq_true rfl) ?_
  rotate_left
  refine loop 4 0 M1 (by omega) (hS3.tr (Scr.off mo_35 hO1)) ?_ hM1 (fun u hu => absurd hu (by omega))
  unfold TR
  rw [hO1 21 (by omega) (by omega) (by omega) (by omega)]
  exact ⟨by simp [j_set_s, upd], by simp [j_set_s, upd], by simp [j_set_s, upd]⟩
